/-! decoded, and each instruction a row -/
set_option maxRecDepth 20000 in
theorem dX11_act_0 : decode cX11_act 0 = .ok (.aload_n 0, 1) := by decide +kernel
set_option maxRecDepth 20000 in
theorem dX11_act_1 : decode cX11_act 1 = .ok (.aconst_null, 1) := by decide +kernel
set_option maxRecDepth 20000 in
theorem dX11_act_2 : decode cX11_act 2 = .ok (.putfield 56, 3) := by decide +kernel
set_option maxRecDepth 20000 in
theorem dX11_act_5 : decode cX11_act 5 = .ok (.aload_n 0, 1) := by decide +kernel
set_option maxRecDepth 20000 in
theorem dX11_act_6 : decode cX11_act 6 = .ok (.getfield 98, 3) := by decide +kernel
set_option maxRecDepth 20000 in
theorem dX11_act_9 : decode cX11_act 9 = .ok (.iload_n 1, 1) := by decide +kernel
set_option maxRecDepth 20000 in
theorem dX11_act_10 : decode cX11_act 10 = .ok (.invokevirtual 119, 3) := by decide +kernel
set_option maxRecDepth 20000 in
theorem dX11_act_13 : decode cX11_act 13 = .ok (.ifCond .eq 11, 3) := by decide +kernel
set_option maxRecDepth 20000 in
theorem dX11_act_16 : decode cX11_act 16 = .ok (.iload_n 2, 1) := by decide +kernel
set_option maxRecDepth 20000 in
theorem dX11_act_17 : decode cX11_act 17 = .ok (.iconst 2, 1) := by decide +kernel
set_option maxRecDepth 20000 in
theorem dX11_act_18 : decode cX11_act 18 = .ok (.invokestatic 108, 3) := by decide +kernel
set_option maxRecDepth 20000 in
theorem dX11_act_21 : decode cX11_act 21 = .ok (.ifCond .ne 5, 3) := by decide +kernel
set_option maxRecDepth 20000 in
theorem dX11_act_24 : decode cX11_act 24 = .ok (.iconst 0, 1) := by decide +kernel
set_option maxRecDepth 20000 in
theorem dX11_act_25 : decode cX11_act 25 = .ok (.ireturn, 1) := by decide +kernel
set_option maxRecDepth 20000 in
theorem dX11_act_26 : decode cX11_act 26 = .ok (.aload_n 0, 1) := by decide +kernel
set_option maxRecDepth 20000 in
theorem dX11_act_27 : decode cX11_act 27 = .ok (.aload_n 0, 1) := by decide +kernel
set_option maxRecDepth 20000 in
theorem dX11_act_28 : decode cX11_act 28 = .ok (.getfield 89, 3) := by decide +kernel
set_option maxRecDepth 20000 in
theorem dX11_act_31 : decode cX11_act 31 = .ok (.aload_n 0, 1) := by decide +kernel
set_option maxRecDepth 20000 in
theorem dX11_act_32 : decode cX11_act 32 = .ok (.getfield 98, 3) := by decide +kernel
set_option maxRecDepth 20000 in
theorem dX11_act_35 : decode cX11_act 35 = .ok (.getfield 123, 3) := by decide +kernel
set_option maxRecDepth 20000 in
theorem dX11_act_38 : decode cX11_act 38 = .ok (.iload_n 1, 1) := by decide +kernel
set_option maxRecDepth 20000 in
theorem dX11_act_39 : decode cX11_act 39 = .ok (.iaload, 1) := by decide +kernel
set_option maxRecDepth 20000 in
theorem dX11_act_40 : decode cX11_act 40 = .ok (.aaload, 1) := by decide +kernel
set_option maxRecDepth 20000 in
theorem dX11_act_41 : decode cX11_act 41 = .ok (.putfield 56, 3) := by decide +kernel
set_option maxRecDepth 20000 in
theorem dX11_act_44 : decode cX11_act 44 = .ok (.aload_n 0, 1) := by decide +kernel
set_option maxRecDepth 20000 in
theorem dX11_act_45 : decode cX11_act 45 = .ok (.getfield 56, 3) := by decide +kernel
set_option maxRecDepth 20000 in
theorem dX11_act_48 : decode cX11_act 48 = .ok (.iload_n 1, 1) := by decide +kernel
set_option maxRecDepth 20000 in
theorem dX11_act_49 : decode cX11_act 49 = .ok (.aload_n 0, 1) := by decide +kernel
set_option maxRecDepth 20000 in
theorem dX11_act_50 : decode cX11_act 50 = .ok (.getfield 98, 3) := by decide +kernel
set_option maxRecDepth 20000 in
theorem dX11_act_53 : decode cX11_act 53 = .ok (.getfield 127, 3) := by decide +kernel
set_option maxRecDepth 20000 in
theorem dX11_act_56 : decode cX11_act 56 = .ok (.iload_n 1, 1) := by decide +kernel
set_option maxRecDepth 20000 in
theorem dX11_act_57 : decode cX11_act 57 = .ok (.iaload, 1) := by decide +kernel
set_option maxRecDepth 20000 in
theorem dX11_act_58 : decode cX11_act 58 = .ok (.invokevirtual 263, 3) := by decide +kernel
set_option maxRecDepth 20000 in
theorem dX11_act_61 : decode cX11_act 61 = .ok (.iload_n 2, 1) := by decide +kernel
set_option maxRecDepth 20000 in
theorem dX11_act_62 : decode cX11_act 62 = .ok (.lookupswitch 44 #[(0, 26), (1, 35)], 26) := by decide +kernel
set_option maxRecDepth 20000 in
theorem dX11_act_88 : decode cX11_act 88 = .ok (.aload_n 0, 1) := by decide +kernel
set_option maxRecDepth 20000 in
theorem dX11_act_89 : decode cX11_act 89 = .ok (.getfield 56, 3) := by decide +kernel
set_option maxRecDepth 20000 in
theorem dX11_act_92 : decode cX11_act 92 = .ok (.iload_n 3, 1) := by decide +kernel
set_option maxRecDepth 20000 in
theorem dX11_act_93 : decode cX11_act 93 = .ok (.invokevirtual 266, 3) := by decide +kernel
set_option maxRecDepth 20000 in
theorem dX11_act_96 : decode cX11_act 96 = .ok (.ireturn, 1) := by decide +kernel
set_option maxRecDepth 20000 in
theorem dX11_act_97 : decode cX11_act 97 = .ok (.aload_n 0, 1) := by decide +kernel
set_option maxRecDepth 20000 in
theorem dX11_act_98 : decode cX11_act 98 = .ok (.getfield 56, 3) := by decide +kernel
set_option maxRecDepth 20000 in
theorem dX11_act_101 : decode cX11_act 101 = .ok (.iload_n 3, 1) := by decide +kernel
set_option maxRecDepth 20000 in
theorem dX11_act_102 : decode cX11_act 102 = .ok (.invokevirtual 269, 3) := by decide +kernel
set_option maxRecDepth 20000 in
theorem dX11_act_105 : decode cX11_act 105 = .ok (.ireturn, 1) := by decide +kernel
set_option maxRecDepth 20000 in
theorem dX11_act_106 : decode cX11_act 106 = .ok (.aload_n 0, 1) := by decide +kernel
set_option maxRecDepth 20000 in
theorem dX11_act_107 : decode cX11_act 107 = .ok (.getfield 56, 3) := by decide +kernel
set_option maxRecDepth 20000 in
theorem dX11_act_110 : decode cX11_act 110 = .ok (.iload_n 3, 1) := by decide +kernel
set_option maxRecDepth 20000 in
theorem dX11_act_111 : decode cX11_act 111 = .ok (.invokevirtual 271, 3) := by decide +kernel
set_option maxRecDepth 20000 in
theorem dX11_act_114 : decode cX11_act 114 = .ok (.ireturn, 1) := by decide +kernel
set_option maxRecDepth 20000 in
theorem kt_X11_act_0 (g : gx_T) : ∀ q ∈ k_X11_act_0, gx_E g gc_md RX11 cX11_act 4 (some .int) "act" q.1 q.2 := List.forall_mem_cons.mpr ⟨(gs_aload_n dX11_act_0 rfl), List.forall_mem_cons.mpr ⟨
  (gs_null dX11_act_1), List.forall_mem_cons.mpr ⟨
  (gs_pf (ref := "GriefCranes") dX11_act_2 (gx_mem 386 (by decide +kernel) (by decide +kernel)) (Or.inl rfl) gf_11_15 (by decide +kernel)), List.forall_mem_cons.mpr ⟨
  (gs_aload_n dX11_act_5 rfl), List.forall_mem_cons.mpr ⟨
  (gs_gf (ref := "GriefCranes") dX11_act_6 (gx_mem 371 (by decide +kernel) (by decide +kernel)) (Or.inl rfl) gf_11_0), List.forall_mem_cons.mpr ⟨
  (gs_iload_n dX11_act_9 rfl), List.forall_mem_cons.mpr ⟨
  (gs_cv dX11_act_10 (fun q hq => by
      simp only [List.mem_cons, List.not_mem_nil, or_false] at hq
      subst hq
      exact Or.inl ⟨_, rfl, by decide, by decide +kernel, by decide +kernel, List.forall_mem_cons.mpr ⟨gx_mem 438 (by decide +kernel) (by decide +kernel), List.forall_mem_cons.mpr ⟨gx_mem 439 (by decide +kernel) (by decide +kernel), List.forall_mem_cons.mpr ⟨gx_mem 440 (by decide +kernel) (by decide +kernel), List.forall_mem_cons.mpr ⟨gx_mem 95 (by decide +kernel) (by decide +kernel), List.forall_mem_cons.mpr ⟨cw_441, fun _ h => absurd h List.not_mem_nil⟩⟩⟩⟩⟩⟩)), List.forall_mem_cons.mpr ⟨
  (gs_if_eq dX11_act_13 rfl), List.forall_mem_cons.mpr ⟨
  (gs_iload_n dX11_act_16 rfl), List.forall_mem_cons.mpr ⟨
  (gs_iconst dX11_act_17 rfl), List.forall_mem_cons.mpr ⟨
  (gs_cs dX11_act_18 (md_98) (List.forall_mem_cons.mpr ⟨gx_mem 427 (by decide +kernel) (by decide +kernel), List.forall_mem_cons.mpr ⟨gx_mem 428 (by decide +kernel) (by decide +kernel), List.forall_mem_cons.mpr ⟨gx_mem 84 (by decide +kernel) (by decide +kernel), List.forall_mem_cons.mpr ⟨cw_429, fun _ h => absurd h List.not_mem_nil⟩⟩⟩⟩) (by decide +kernel) (by decide)), List.forall_mem_cons.mpr ⟨
  (gs_if_ne dX11_act_21 rfl), List.forall_mem_cons.mpr ⟨
  (gs_iconst dX11_act_24 rfl), List.forall_mem_cons.mpr ⟨
  (gs_ri dX11_act_25), List.forall_mem_cons.mpr ⟨
  (gs_aload_n dX11_act_26 rfl), List.forall_mem_cons.mpr ⟨
  (gs_aload_n dX11_act_27 rfl), List.forall_mem_cons.mpr ⟨
  (gs_gf (ref := "GriefCranes") dX11_act_28 (gx_mem 385 (by decide +kernel) (by decide +kernel)) (Or.inl rfl) gf_11_14), List.forall_mem_cons.mpr ⟨
  (gs_aload_n dX11_act_31 rfl), List.forall_mem_cons.mpr ⟨
  (gs_gf (ref := "GriefCranes") dX11_act_32 (gx_mem 371 (by decide +kernel) (by decide +kernel)) (Or.inl rfl) gf_11_0), List.forall_mem_cons.mpr ⟨
  (gs_gf (ref := "GriefCranes$Yard") dX11_act_35 (gx_mem 313 (by decide +kernel) (by decide +kernel)) (Or.inl rfl) gf_10_5), List.forall_mem_cons.mpr ⟨
  (gs_iload_n dX11_act_38 rfl), List.forall_mem_cons.mpr ⟨
  (gs_iaload dX11_act_39), List.forall_mem_cons.mpr ⟨
  (gs_aaload (by decide) dX11_act_40), List.forall_mem_cons.mpr ⟨
  (gs_pf (ref := "GriefCranes") dX11_act_41 (gx_mem 386 (by decide +kernel) (by decide +kernel)) (Or.inl rfl) gf_11_15 (by decide +kernel)), List.forall_mem_cons.mpr ⟨
  (gs_aload_n dX11_act_44 rfl), List.forall_mem_cons.mpr ⟨
  (gs_gf (ref := "GriefCranes") dX11_act_45 (gx_mem 386 (by decide +kernel) (by decide +kernel)) (Or.inl rfl) gf_11_15), List.forall_mem_cons.mpr ⟨
  (gs_iload_n dX11_act_48 rfl), List.forall_mem_cons.mpr ⟨
  (gs_aload_n dX11_act_49 rfl), List.forall_mem_cons.mpr ⟨
  (gs_gf (ref := "GriefCranes") dX11_act_50 (gx_mem 371 (by decide +kernel) (by decide +kernel)) (Or.inl rfl) gf_11_0), List.forall_mem_cons.mpr ⟨
  (gs_gf (ref := "GriefCranes$Yard") dX11_act_53 (gx_mem 317 (by decide +kernel) (by decide +kernel)) (Or.inl rfl) gf_10_6), List.forall_mem_cons.mpr ⟨
  (gs_iload_n dX11_act_56 rfl), List.forall_mem_cons.mpr ⟨
  (gs_iaload dX11_act_57), fun _ h => absurd h List.not_mem_nil⟩⟩⟩⟩⟩⟩⟩⟩⟩⟩⟩⟩⟩⟩⟩⟩⟩⟩⟩⟩⟩⟩⟩⟩⟩⟩⟩⟩⟩⟩⟩⟩
set_option maxRecDepth 20000 in
theorem kt_X11_act_1 (g : gx_T) : ∀ q ∈ k_X11_act_1, gx_E g gc_md RX11 cX11_act 4 (some .int) "act" q.1 q.2 := List.forall_mem_cons.mpr ⟨(gs_cv dX11_act_58 (fun q hq => by
      simp only [List.mem_cons, List.not_mem_nil, or_false] at hq
      rcases hq with rfl | rfl | rfl | rfl | rfl | rfl | rfl
      · exact Or.inl ⟨_, rfl, by decide, by decide +kernel, by decide +kernel, List.forall_mem_cons.mpr ⟨gx_mem 847 (by decide +kernel) (by decide +kernel), List.forall_mem_cons.mpr ⟨gx_mem 848 (by decide +kernel) (by decide +kernel), List.forall_mem_cons.mpr ⟨gx_mem 849 (by decide +kernel) (by decide +kernel), List.forall_mem_cons.mpr ⟨gx_mem 88 (by decide +kernel) (by decide +kernel), List.forall_mem_cons.mpr ⟨cw_857, fun _ h => absurd h List.not_mem_nil⟩⟩⟩⟩⟩⟩
      · exact Or.inr ⟨_, ⟨"GriefCranes$Crane", "begin", "(II)V"⟩, RX0, gc_md 2, rfl, by decide, by decide +kernel, by decide +kernel, rfl, List.forall_mem_cons.mpr ⟨gx_mem 847 (by decide +kernel) (by decide +kernel), List.forall_mem_cons.mpr ⟨gx_mem 850 (by decide +kernel) (by decide +kernel), List.forall_mem_cons.mpr ⟨gx_mem 848 (by decide +kernel) (by decide +kernel), List.forall_mem_cons.mpr ⟨cw_857, List.forall_mem_cons.mpr ⟨gx_mem 851 (by decide +kernel) (by decide +kernel), List.forall_mem_cons.mpr ⟨gx_mem 848 (by decide +kernel) (by decide +kernel), List.forall_mem_cons.mpr ⟨gx_mem 88 (by decide +kernel) (by decide +kernel), List.forall_mem_cons.mpr ⟨cw_857, fun _ h => absurd h List.not_mem_nil⟩⟩⟩⟩⟩⟩⟩⟩⟩
      · exact Or.inr ⟨_, ⟨"GriefCranes$Crane", "begin", "(II)V"⟩, RX0, gc_md 2, rfl, by decide, by decide +kernel, by decide +kernel, rfl, List.forall_mem_cons.mpr ⟨gx_mem 847 (by decide +kernel) (by decide +kernel), List.forall_mem_cons.mpr ⟨gx_mem 850 (by decide +kernel) (by decide +kernel), List.forall_mem_cons.mpr ⟨gx_mem 848 (by decide +kernel) (by decide +kernel), List.forall_mem_cons.mpr ⟨cw_857, List.forall_mem_cons.mpr ⟨gx_mem 852 (by decide +kernel) (by decide +kernel), List.forall_mem_cons.mpr ⟨gx_mem 848 (by decide +kernel) (by decide +kernel), List.forall_mem_cons.mpr ⟨gx_mem 88 (by decide +kernel) (by decide +kernel), List.forall_mem_cons.mpr ⟨cw_857, fun _ h => absurd h List.not_mem_nil⟩⟩⟩⟩⟩⟩⟩⟩⟩
      · exact Or.inr ⟨_, ⟨"GriefCranes$Crane", "begin", "(II)V"⟩, RX0, gc_md 2, rfl, by decide, by decide +kernel, by decide +kernel, rfl, List.forall_mem_cons.mpr ⟨gx_mem 847 (by decide +kernel) (by decide +kernel), List.forall_mem_cons.mpr ⟨gx_mem 850 (by decide +kernel) (by decide +kernel), List.forall_mem_cons.mpr ⟨gx_mem 848 (by decide +kernel) (by decide +kernel), List.forall_mem_cons.mpr ⟨cw_857, List.forall_mem_cons.mpr ⟨gx_mem 853 (by decide +kernel) (by decide +kernel), List.forall_mem_cons.mpr ⟨gx_mem 848 (by decide +kernel) (by decide +kernel), List.forall_mem_cons.mpr ⟨gx_mem 88 (by decide +kernel) (by decide +kernel), List.forall_mem_cons.mpr ⟨cw_857, fun _ h => absurd h List.not_mem_nil⟩⟩⟩⟩⟩⟩⟩⟩⟩
      · exact Or.inr ⟨_, ⟨"GriefCranes$Crane", "begin", "(II)V"⟩, RX0, gc_md 2, rfl, by decide, by decide +kernel, by decide +kernel, rfl, List.forall_mem_cons.mpr ⟨gx_mem 847 (by decide +kernel) (by decide +kernel), List.forall_mem_cons.mpr ⟨gx_mem 850 (by decide +kernel) (by decide +kernel), List.forall_mem_cons.mpr ⟨gx_mem 848 (by decide +kernel) (by decide +kernel), List.forall_mem_cons.mpr ⟨cw_857, List.forall_mem_cons.mpr ⟨gx_mem 854 (by decide +kernel) (by decide +kernel), List.forall_mem_cons.mpr ⟨gx_mem 848 (by decide +kernel) (by decide +kernel), List.forall_mem_cons.mpr ⟨gx_mem 88 (by decide +kernel) (by decide +kernel), List.forall_mem_cons.mpr ⟨cw_857, fun _ h => absurd h List.not_mem_nil⟩⟩⟩⟩⟩⟩⟩⟩⟩
      · exact Or.inr ⟨_, ⟨"GriefCranes$Crane", "begin", "(II)V"⟩, RX0, gc_md 2, rfl, by decide, by decide +kernel, by decide +kernel, rfl, List.forall_mem_cons.mpr ⟨gx_mem 847 (by decide +kernel) (by decide +kernel), List.forall_mem_cons.mpr ⟨gx_mem 850 (by decide +kernel) (by decide +kernel), List.forall_mem_cons.mpr ⟨gx_mem 848 (by decide +kernel) (by decide +kernel), List.forall_mem_cons.mpr ⟨cw_857, List.forall_mem_cons.mpr ⟨gx_mem 855 (by decide +kernel) (by decide +kernel), List.forall_mem_cons.mpr ⟨gx_mem 848 (by decide +kernel) (by decide +kernel), List.forall_mem_cons.mpr ⟨gx_mem 88 (by decide +kernel) (by decide +kernel), List.forall_mem_cons.mpr ⟨cw_857, fun _ h => absurd h List.not_mem_nil⟩⟩⟩⟩⟩⟩⟩⟩⟩
      · exact Or.inr ⟨_, ⟨"GriefCranes$Crane", "begin", "(II)V"⟩, RX0, gc_md 2, rfl, by decide, by decide +kernel, by decide +kernel, rfl, List.forall_mem_cons.mpr ⟨gx_mem 847 (by decide +kernel) (by decide +kernel), List.forall_mem_cons.mpr ⟨gx_mem 850 (by decide +kernel) (by decide +kernel), List.forall_mem_cons.mpr ⟨gx_mem 848 (by decide +kernel) (by decide +kernel), List.forall_mem_cons.mpr ⟨cw_857, List.forall_mem_cons.mpr ⟨gx_mem 856 (by decide +kernel) (by decide +kernel), List.forall_mem_cons.mpr ⟨gx_mem 848 (by decide +kernel) (by decide +kernel), List.forall_mem_cons.mpr ⟨gx_mem 88 (by decide +kernel) (by decide +kernel), List.forall_mem_cons.mpr ⟨cw_857, fun _ h => absurd h List.not_mem_nil⟩⟩⟩⟩⟩⟩⟩⟩⟩)), List.forall_mem_cons.mpr ⟨
  (gs_iload_n dX11_act_61 rfl), List.forall_mem_cons.mpr ⟨
  (gs_lsw (ps := [(0, 26), (1, 35)]) dX11_act_62 (by decide +kernel) (gx_lupok (by decide +kernel) (by decide +kernel))), List.forall_mem_cons.mpr ⟨
  (gs_aload_n dX11_act_88 rfl), List.forall_mem_cons.mpr ⟨
  (gs_gf (ref := "GriefCranes") dX11_act_89 (gx_mem 386 (by decide +kernel) (by decide +kernel)) (Or.inl rfl) gf_11_15), List.forall_mem_cons.mpr ⟨
  (gs_iload_n dX11_act_92 rfl), List.forall_mem_cons.mpr ⟨
  (gs_cv dX11_act_93 (fun q hq => by
      simp only [List.mem_cons, List.not_mem_nil, or_false] at hq
      rcases hq with rfl | rfl | rfl | rfl | rfl | rfl | rfl
      · exact Or.inl ⟨_, rfl, by decide, by decide +kernel, by decide +kernel, List.forall_mem_cons.mpr ⟨gx_mem 858 (by decide +kernel) (by decide +kernel), List.forall_mem_cons.mpr ⟨gx_mem 859 (by decide +kernel) (by decide +kernel), List.forall_mem_cons.mpr ⟨gx_mem 860 (by decide +kernel) (by decide +kernel), List.forall_mem_cons.mpr ⟨gx_mem 88 (by decide +kernel) (by decide +kernel), List.forall_mem_cons.mpr ⟨cw_893, fun _ h => absurd h List.not_mem_nil⟩⟩⟩⟩⟩⟩
      · exact Or.inr ⟨_, ⟨"GriefCranes$Crane", "leans", "(I)I"⟩, RX0, gc_md 4, rfl, by decide, by decide +kernel, by decide +kernel, rfl, List.forall_mem_cons.mpr ⟨gx_mem 858 (by decide +kernel) (by decide +kernel), List.forall_mem_cons.mpr ⟨gx_mem 861 (by decide +kernel) (by decide +kernel), List.forall_mem_cons.mpr ⟨gx_mem 859 (by decide +kernel) (by decide +kernel), List.forall_mem_cons.mpr ⟨cw_893, List.forall_mem_cons.mpr ⟨gx_mem 862 (by decide +kernel) (by decide +kernel), List.forall_mem_cons.mpr ⟨gx_mem 863 (by decide +kernel) (by decide +kernel), List.forall_mem_cons.mpr ⟨gx_mem 92 (by decide +kernel) (by decide +kernel), List.forall_mem_cons.mpr ⟨cw_864, fun _ h => absurd h List.not_mem_nil⟩⟩⟩⟩⟩⟩⟩⟩⟩
      · exact Or.inr ⟨_, ⟨"GriefCranes$Crane", "leans", "(I)I"⟩, RX0, gc_md 4, rfl, by decide, by decide +kernel, by decide +kernel, rfl, List.forall_mem_cons.mpr ⟨gx_mem 858 (by decide +kernel) (by decide +kernel), List.forall_mem_cons.mpr ⟨gx_mem 861 (by decide +kernel) (by decide +kernel), List.forall_mem_cons.mpr ⟨gx_mem 859 (by decide +kernel) (by decide +kernel), List.forall_mem_cons.mpr ⟨cw_893, List.forall_mem_cons.mpr ⟨gx_mem 874 (by decide +kernel) (by decide +kernel), List.forall_mem_cons.mpr ⟨gx_mem 859 (by decide +kernel) (by decide +kernel), List.forall_mem_cons.mpr ⟨gx_mem 88 (by decide +kernel) (by decide +kernel), List.forall_mem_cons.mpr ⟨cw_893, fun _ h => absurd h List.not_mem_nil⟩⟩⟩⟩⟩⟩⟩⟩⟩
      · exact Or.inr ⟨_, ⟨"GriefCranes$Crane", "leans", "(I)I"⟩, RX0, gc_md 4, rfl, by decide, by decide +kernel, by decide +kernel, rfl, List.forall_mem_cons.mpr ⟨gx_mem 858 (by decide +kernel) (by decide +kernel), List.forall_mem_cons.mpr ⟨gx_mem 861 (by decide +kernel) (by decide +kernel), List.forall_mem_cons.mpr ⟨gx_mem 859 (by decide +kernel) (by decide +kernel), List.forall_mem_cons.mpr ⟨cw_893, List.forall_mem_cons.mpr ⟨gx_mem 875 (by decide +kernel) (by decide +kernel), List.forall_mem_cons.mpr ⟨gx_mem 876 (by decide +kernel) (by decide +kernel), List.forall_mem_cons.mpr ⟨gx_mem 90 (by decide +kernel) (by decide +kernel), List.forall_mem_cons.mpr ⟨cw_877, fun _ h => absurd h List.not_mem_nil⟩⟩⟩⟩⟩⟩⟩⟩⟩
      · exact Or.inr ⟨_, ⟨"GriefCranes$Crane", "leans", "(I)I"⟩, RX0, gc_md 4, rfl, by decide, by decide +kernel, by decide +kernel, rfl, List.forall_mem_cons.mpr ⟨gx_mem 858 (by decide +kernel) (by decide +kernel), List.forall_mem_cons.mpr ⟨gx_mem 861 (by decide +kernel) (by decide +kernel), List.forall_mem_cons.mpr ⟨gx_mem 859 (by decide +kernel) (by decide +kernel), List.forall_mem_cons.mpr ⟨cw_893, List.forall_mem_cons.mpr ⟨gx_mem 883 (by decide +kernel) (by decide +kernel), List.forall_mem_cons.mpr ⟨gx_mem 876 (by decide +kernel) (by decide +kernel), List.forall_mem_cons.mpr ⟨gx_mem 90 (by decide +kernel) (by decide +kernel), List.forall_mem_cons.mpr ⟨cw_877, fun _ h => absurd h List.not_mem_nil⟩⟩⟩⟩⟩⟩⟩⟩⟩
      · exact Or.inr ⟨_, ⟨"GriefCranes$Crane", "leans", "(I)I"⟩, RX0, gc_md 4, rfl, by decide, by decide +kernel, by decide +kernel, rfl, List.forall_mem_cons.mpr ⟨gx_mem 858 (by decide +kernel) (by decide +kernel), List.forall_mem_cons.mpr ⟨gx_mem 861 (by decide +kernel) (by decide +kernel), List.forall_mem_cons.mpr ⟨gx_mem 859 (by decide +kernel) (by decide +kernel), List.forall_mem_cons.mpr ⟨cw_893, List.forall_mem_cons.mpr ⟨gx_mem 884 (by decide +kernel) (by decide +kernel), List.forall_mem_cons.mpr ⟨gx_mem 859 (by decide +kernel) (by decide +kernel), List.forall_mem_cons.mpr ⟨gx_mem 88 (by decide +kernel) (by decide +kernel), List.forall_mem_cons.mpr ⟨cw_893, fun _ h => absurd h List.not_mem_nil⟩⟩⟩⟩⟩⟩⟩⟩⟩
      · exact Or.inr ⟨_, ⟨"GriefCranes$Crane", "leans", "(I)I"⟩, RX0, gc_md 4, rfl, by decide, by decide +kernel, by decide +kernel, rfl, List.forall_mem_cons.mpr ⟨gx_mem 858 (by decide +kernel) (by decide +kernel), List.forall_mem_cons.mpr ⟨gx_mem 861 (by decide +kernel) (by decide +kernel), List.forall_mem_cons.mpr ⟨gx_mem 859 (by decide +kernel) (by decide +kernel), List.forall_mem_cons.mpr ⟨cw_893, List.forall_mem_cons.mpr ⟨gx_mem 885 (by decide +kernel) (by decide +kernel), List.forall_mem_cons.mpr ⟨gx_mem 886 (by decide +kernel) (by decide +kernel), List.forall_mem_cons.mpr ⟨gx_mem 94 (by decide +kernel) (by decide +kernel), List.forall_mem_cons.mpr ⟨cw_887, fun _ h => absurd h List.not_mem_nil⟩⟩⟩⟩⟩⟩⟩⟩⟩)), List.forall_mem_cons.mpr ⟨
  (gs_ri dX11_act_96), List.forall_mem_cons.mpr ⟨
  (gs_aload_n dX11_act_97 rfl), List.forall_mem_cons.mpr ⟨
  (gs_gf (ref := "GriefCranes") dX11_act_98 (gx_mem 386 (by decide +kernel) (by decide +kernel)) (Or.inl rfl) gf_11_15), List.forall_mem_cons.mpr ⟨
  (gs_iload_n dX11_act_101 rfl), List.forall_mem_cons.mpr ⟨
  (gs_cv dX11_act_102 (fun q hq => by
      simp only [List.mem_cons, List.not_mem_nil, or_false] at hq
      rcases hq with rfl | rfl | rfl | rfl | rfl | rfl | rfl
      · exact Or.inl ⟨_, rfl, by decide, by decide +kernel, by decide +kernel, List.forall_mem_cons.mpr ⟨gx_mem 895 (by decide +kernel) (by decide +kernel), List.forall_mem_cons.mpr ⟨gx_mem 896 (by decide +kernel) (by decide +kernel), List.forall_mem_cons.mpr ⟨gx_mem 897 (by decide +kernel) (by decide +kernel), List.forall_mem_cons.mpr ⟨gx_mem 88 (by decide +kernel) (by decide +kernel), List.forall_mem_cons.mpr ⟨cw_920, fun _ h => absurd h List.not_mem_nil⟩⟩⟩⟩⟩⟩
      · exact Or.inr ⟨_, ⟨"GriefCranes$Crane", "lifts", "(I)I"⟩, RX0, gc_md 5, rfl, by decide, by decide +kernel, by decide +kernel, rfl, List.forall_mem_cons.mpr ⟨gx_mem 895 (by decide +kernel) (by decide +kernel), List.forall_mem_cons.mpr ⟨gx_mem 898 (by decide +kernel) (by decide +kernel), List.forall_mem_cons.mpr ⟨gx_mem 896 (by decide +kernel) (by decide +kernel), List.forall_mem_cons.mpr ⟨cw_920, List.forall_mem_cons.mpr ⟨gx_mem 899 (by decide +kernel) (by decide +kernel), List.forall_mem_cons.mpr ⟨gx_mem 900 (by decide +kernel) (by decide +kernel), List.forall_mem_cons.mpr ⟨gx_mem 92 (by decide +kernel) (by decide +kernel), List.forall_mem_cons.mpr ⟨cw_901, fun _ h => absurd h List.not_mem_nil⟩⟩⟩⟩⟩⟩⟩⟩⟩
      · exact Or.inr ⟨_, ⟨"GriefCranes$Crane", "lifts", "(I)I"⟩, RX0, gc_md 5, rfl, by decide, by decide +kernel, by decide +kernel, rfl, List.forall_mem_cons.mpr ⟨gx_mem 895 (by decide +kernel) (by decide +kernel), List.forall_mem_cons.mpr ⟨gx_mem 898 (by decide +kernel) (by decide +kernel), List.forall_mem_cons.mpr ⟨gx_mem 896 (by decide +kernel) (by decide +kernel), List.forall_mem_cons.mpr ⟨cw_920, List.forall_mem_cons.mpr ⟨gx_mem 910 (by decide +kernel) (by decide +kernel), List.forall_mem_cons.mpr ⟨gx_mem 903 (by decide +kernel) (by decide +kernel), List.forall_mem_cons.mpr ⟨gx_mem 89 (by decide +kernel) (by decide +kernel), List.forall_mem_cons.mpr ⟨cw_904, fun _ h => absurd h List.not_mem_nil⟩⟩⟩⟩⟩⟩⟩⟩⟩
      · exact Or.inr ⟨_, ⟨"GriefCranes$Crane", "lifts", "(I)I"⟩, RX0, gc_md 5, rfl, by decide, by decide +kernel, by decide +kernel, rfl, List.forall_mem_cons.mpr ⟨gx_mem 895 (by decide +kernel) (by decide +kernel), List.forall_mem_cons.mpr ⟨gx_mem 898 (by decide +kernel) (by decide +kernel), List.forall_mem_cons.mpr ⟨gx_mem 896 (by decide +kernel) (by decide +kernel), List.forall_mem_cons.mpr ⟨cw_920, List.forall_mem_cons.mpr ⟨gx_mem 911 (by decide +kernel) (by decide +kernel), List.forall_mem_cons.mpr ⟨gx_mem 896 (by decide +kernel) (by decide +kernel), List.forall_mem_cons.mpr ⟨gx_mem 88 (by decide +kernel) (by decide +kernel), List.forall_mem_cons.mpr ⟨cw_920, fun _ h => absurd h List.not_mem_nil⟩⟩⟩⟩⟩⟩⟩⟩⟩
      · exact Or.inr ⟨_, ⟨"GriefCranes$Crane", "lifts", "(I)I"⟩, RX0, gc_md 5, rfl, by decide, by decide +kernel, by decide +kernel, rfl, List.forall_mem_cons.mpr ⟨gx_mem 895 (by decide +kernel) (by decide +kernel), List.forall_mem_cons.mpr ⟨gx_mem 898 (by decide +kernel) (by decide +kernel), List.forall_mem_cons.mpr ⟨gx_mem 896 (by decide +kernel) (by decide +kernel), List.forall_mem_cons.mpr ⟨cw_920, List.forall_mem_cons.mpr ⟨gx_mem 912 (by decide +kernel) (by decide +kernel), List.forall_mem_cons.mpr ⟨gx_mem 896 (by decide +kernel) (by decide +kernel), List.forall_mem_cons.mpr ⟨gx_mem 88 (by decide +kernel) (by decide +kernel), List.forall_mem_cons.mpr ⟨cw_920, fun _ h => absurd h List.not_mem_nil⟩⟩⟩⟩⟩⟩⟩⟩⟩
      · exact Or.inr ⟨_, ⟨"GriefCranes$Crane", "lifts", "(I)I"⟩, RX0, gc_md 5, rfl, by decide, by decide +kernel, by decide +kernel, rfl, List.forall_mem_cons.mpr ⟨gx_mem 895 (by decide +kernel) (by decide +kernel), List.forall_mem_cons.mpr ⟨gx_mem 898 (by decide +kernel) (by decide +kernel), List.forall_mem_cons.mpr ⟨gx_mem 896 (by decide +kernel) (by decide +kernel), List.forall_mem_cons.mpr ⟨cw_920, List.forall_mem_cons.mpr ⟨gx_mem 913 (by decide +kernel) (by decide +kernel), List.forall_mem_cons.mpr ⟨gx_mem 896 (by decide +kernel) (by decide +kernel), List.forall_mem_cons.mpr ⟨gx_mem 88 (by decide +kernel) (by decide +kernel), List.forall_mem_cons.mpr ⟨cw_920, fun _ h => absurd h List.not_mem_nil⟩⟩⟩⟩⟩⟩⟩⟩⟩
      · exact Or.inr ⟨_, ⟨"GriefCranes$Crane", "lifts", "(I)I"⟩, RX0, gc_md 5, rfl, by decide, by decide +kernel, by decide +kernel, rfl, List.forall_mem_cons.mpr ⟨gx_mem 895 (by decide +kernel) (by decide +kernel), List.forall_mem_cons.mpr ⟨gx_mem 898 (by decide +kernel) (by decide +kernel), List.forall_mem_cons.mpr ⟨gx_mem 896 (by decide +kernel) (by decide +kernel), List.forall_mem_cons.mpr ⟨cw_920, List.forall_mem_cons.mpr ⟨gx_mem 914 (by decide +kernel) (by decide +kernel), List.forall_mem_cons.mpr ⟨gx_mem 915 (by decide +kernel) (by decide +kernel), List.forall_mem_cons.mpr ⟨gx_mem 94 (by decide +kernel) (by decide +kernel), List.forall_mem_cons.mpr ⟨cw_916, fun _ h => absurd h List.not_mem_nil⟩⟩⟩⟩⟩⟩⟩⟩⟩)), List.forall_mem_cons.mpr ⟨
  (gs_ri dX11_act_105), List.forall_mem_cons.mpr ⟨
  (gs_aload_n dX11_act_106 rfl), List.forall_mem_cons.mpr ⟨
  (gs_gf (ref := "GriefCranes") dX11_act_107 (gx_mem 386 (by decide +kernel) (by decide +kernel)) (Or.inl rfl) gf_11_15), List.forall_mem_cons.mpr ⟨
  (gs_iload_n dX11_act_110 rfl), List.forall_mem_cons.mpr ⟨
  (gs_cv dX11_act_111 (fun q hq => by
      simp only [List.mem_cons, List.not_mem_nil, or_false] at hq
      rcases hq with rfl | rfl | rfl | rfl | rfl | rfl | rfl
      · exact Or.inl ⟨_, rfl, by decide, by decide +kernel, by decide +kernel, List.forall_mem_cons.mpr ⟨gx_mem 922 (by decide +kernel) (by decide +kernel), List.forall_mem_cons.mpr ⟨gx_mem 923 (by decide +kernel) (by decide +kernel), List.forall_mem_cons.mpr ⟨gx_mem 924 (by decide +kernel) (by decide +kernel), List.forall_mem_cons.mpr ⟨gx_mem 88 (by decide +kernel) (by decide +kernel), List.forall_mem_cons.mpr ⟨cw_950, fun _ h => absurd h List.not_mem_nil⟩⟩⟩⟩⟩⟩
      · exact Or.inr ⟨_, ⟨"GriefCranes$Crane", "tells", "(I)I"⟩, RX0, gc_md 6, rfl, by decide, by decide +kernel, by decide +kernel, rfl, List.forall_mem_cons.mpr ⟨gx_mem 922 (by decide +kernel) (by decide +kernel), List.forall_mem_cons.mpr ⟨gx_mem 925 (by decide +kernel) (by decide +kernel), List.forall_mem_cons.mpr ⟨gx_mem 923 (by decide +kernel) (by decide +kernel), List.forall_mem_cons.mpr ⟨cw_950, List.forall_mem_cons.mpr ⟨gx_mem 926 (by decide +kernel) (by decide +kernel), List.forall_mem_cons.mpr ⟨gx_mem 923 (by decide +kernel) (by decide +kernel), List.forall_mem_cons.mpr ⟨gx_mem 88 (by decide +kernel) (by decide +kernel), List.forall_mem_cons.mpr ⟨cw_950, fun _ h => absurd h List.not_mem_nil⟩⟩⟩⟩⟩⟩⟩⟩⟩
      · exact Or.inr ⟨_, ⟨"GriefCranes$Crane", "tells", "(I)I"⟩, RX0, gc_md 6, rfl, by decide, by decide +kernel, by decide +kernel, rfl, List.forall_mem_cons.mpr ⟨gx_mem 922 (by decide +kernel) (by decide +kernel), List.forall_mem_cons.mpr ⟨gx_mem 925 (by decide +kernel) (by decide +kernel), List.forall_mem_cons.mpr ⟨gx_mem 923 (by decide +kernel) (by decide +kernel), List.forall_mem_cons.mpr ⟨cw_950, List.forall_mem_cons.mpr ⟨gx_mem 927 (by decide +kernel) (by decide +kernel), List.forall_mem_cons.mpr ⟨gx_mem 923 (by decide +kernel) (by decide +kernel), List.forall_mem_cons.mpr ⟨gx_mem 88 (by decide +kernel) (by decide +kernel), List.forall_mem_cons.mpr ⟨cw_950, fun _ h => absurd h List.not_mem_nil⟩⟩⟩⟩⟩⟩⟩⟩⟩
      · exact Or.inr ⟨_, ⟨"GriefCranes$Crane", "tells", "(I)I"⟩, RX0, gc_md 6, rfl, by decide, by decide +kernel, by decide +kernel, rfl, List.forall_mem_cons.mpr ⟨gx_mem 922 (by decide +kernel) (by decide +kernel), List.forall_mem_cons.mpr ⟨gx_mem 925 (by decide +kernel) (by decide +kernel), List.forall_mem_cons.mpr ⟨gx_mem 923 (by decide +kernel) (by decide +kernel), List.forall_mem_cons.mpr ⟨cw_950, List.forall_mem_cons.mpr ⟨gx_mem 928 (by decide +kernel) (by decide +kernel), List.forall_mem_cons.mpr ⟨gx_mem 923 (by decide +kernel) (by decide +kernel), List.forall_mem_cons.mpr ⟨gx_mem 88 (by decide +kernel) (by decide +kernel), List.forall_mem_cons.mpr ⟨cw_950, fun _ h => absurd h List.not_mem_nil⟩⟩⟩⟩⟩⟩⟩⟩⟩
      · exact Or.inr ⟨_, ⟨"GriefCranes$Crane", "tells", "(I)I"⟩, RX0, gc_md 6, rfl, by decide, by decide +kernel, by decide +kernel, rfl, List.forall_mem_cons.mpr ⟨gx_mem 922 (by decide +kernel) (by decide +kernel), List.forall_mem_cons.mpr ⟨gx_mem 925 (by decide +kernel) (by decide +kernel), List.forall_mem_cons.mpr ⟨gx_mem 923 (by decide +kernel) (by decide +kernel), List.forall_mem_cons.mpr ⟨cw_950, List.forall_mem_cons.mpr ⟨gx_mem 929 (by decide +kernel) (by decide +kernel), List.forall_mem_cons.mpr ⟨gx_mem 930 (by decide +kernel) (by decide +kernel), List.forall_mem_cons.mpr ⟨gx_mem 93 (by decide +kernel) (by decide +kernel), List.forall_mem_cons.mpr ⟨cw_931, fun _ h => absurd h List.not_mem_nil⟩⟩⟩⟩⟩⟩⟩⟩⟩
      · exact Or.inr ⟨_, ⟨"GriefCranes$Crane", "tells", "(I)I"⟩, RX0, gc_md 6, rfl, by decide, by decide +kernel, by decide +kernel, rfl, List.forall_mem_cons.mpr ⟨gx_mem 922 (by decide +kernel) (by decide +kernel), List.forall_mem_cons.mpr ⟨gx_mem 925 (by decide +kernel) (by decide +kernel), List.forall_mem_cons.mpr ⟨gx_mem 923 (by decide +kernel) (by decide +kernel), List.forall_mem_cons.mpr ⟨cw_950, List.forall_mem_cons.mpr ⟨gx_mem 938 (by decide +kernel) (by decide +kernel), List.forall_mem_cons.mpr ⟨gx_mem 939 (by decide +kernel) (by decide +kernel), List.forall_mem_cons.mpr ⟨gx_mem 91 (by decide +kernel) (by decide +kernel), List.forall_mem_cons.mpr ⟨cw_940, fun _ h => absurd h List.not_mem_nil⟩⟩⟩⟩⟩⟩⟩⟩⟩
      · exact Or.inr ⟨_, ⟨"GriefCranes$Crane", "tells", "(I)I"⟩, RX0, gc_md 6, rfl, by decide, by decide +kernel, by decide +kernel, rfl, List.forall_mem_cons.mpr ⟨gx_mem 922 (by decide +kernel) (by decide +kernel), List.forall_mem_cons.mpr ⟨gx_mem 925 (by decide +kernel) (by decide +kernel), List.forall_mem_cons.mpr ⟨gx_mem 923 (by decide +kernel) (by decide +kernel), List.forall_mem_cons.mpr ⟨cw_950, List.forall_mem_cons.mpr ⟨gx_mem 949 (by decide +kernel) (by decide +kernel), List.forall_mem_cons.mpr ⟨gx_mem 939 (by decide +kernel) (by decide +kernel), List.forall_mem_cons.mpr ⟨gx_mem 91 (by decide +kernel) (by decide +kernel), List.forall_mem_cons.mpr ⟨cw_940, fun _ h => absurd h List.not_mem_nil⟩⟩⟩⟩⟩⟩⟩⟩⟩)), List.forall_mem_cons.mpr ⟨
  (gs_ri dX11_act_114), fun _ h => absurd h List.not_mem_nil⟩⟩⟩⟩⟩⟩⟩⟩⟩⟩⟩⟩⟩⟩⟩⟩⟩⟩
theorem kt_X11_act (g : gx_T) : ∀ q ∈ k_X11_act, gx_E g gc_md RX11 cX11_act 4 (some .int) "act" q.1 q.2 := List.forall_mem_append.mpr ⟨kt_X11_act_0 g, kt_X11_act_1 g⟩
set_option maxRecDepth 20000 in
theorem dX11_trace_0 : decode cX11_trace 0 = .ok (.aload_n 0, 1) := by decide +kernel
set_option maxRecDepth 20000 in
theorem dX11_trace_1 : decode cX11_trace 1 = .ok (.getfield 56, 3) := by decide +kernel
set_option maxRecDepth 20000 in
theorem dX11_trace_4 : decode cX11_trace 4 = .ok (.ifnull 24, 3) := by decide +kernel
set_option maxRecDepth 20000 in
theorem dX11_trace_7 : decode cX11_trace 7 = .ok (.iload_n 1, 1) := by decide +kernel
set_option maxRecDepth 20000 in
theorem dX11_trace_8 : decode cX11_trace 8 = .ok (.ifCond .lt 20, 3) := by decide +kernel
set_option maxRecDepth 20000 in
theorem dX11_trace_11 : decode cX11_trace 11 = .ok (.iload_n 1, 1) := by decide +kernel
set_option maxRecDepth 20000 in
theorem dX11_trace_12 : decode cX11_trace 12 = .ok (.aload_n 0, 1) := by decide +kernel
set_option maxRecDepth 20000 in
theorem dX11_trace_13 : decode cX11_trace 13 = .ok (.getfield 56, 3) := by decide +kernel
set_option maxRecDepth 20000 in
theorem dX11_trace_16 : decode cX11_trace 16 = .ok (.getfield 274, 3) := by decide +kernel
set_option maxRecDepth 20000 in
theorem dX11_trace_19 : decode cX11_trace 19 = .ok (.if_icmp .ge 9, 3) := by decide +kernel
set_option maxRecDepth 20000 in
theorem dX11_trace_22 : decode cX11_trace 22 = .ok (.iload_n 1, 1) := by decide +kernel
set_option maxRecDepth 20000 in
theorem dX11_trace_23 : decode cX11_trace 23 = .ok (.bipush 20, 2) := by decide +kernel
set_option maxRecDepth 20000 in
theorem dX11_trace_25 : decode cX11_trace 25 = .ok (.if_icmp .lt 5, 3) := by decide +kernel
set_option maxRecDepth 20000 in
theorem dX11_trace_28 : decode cX11_trace 28 = .ok (.iconst (-1), 1) := by decide +kernel
set_option maxRecDepth 20000 in
theorem dX11_trace_29 : decode cX11_trace 29 = .ok (.ireturn, 1) := by decide +kernel
set_option maxRecDepth 20000 in
theorem dX11_trace_30 : decode cX11_trace 30 = .ok (.aload_n 0, 1) := by decide +kernel
set_option maxRecDepth 20000 in
theorem dX11_trace_31 : decode cX11_trace 31 = .ok (.getfield 56, 3) := by decide +kernel
set_option maxRecDepth 20000 in
theorem dX11_trace_34 : decode cX11_trace 34 = .ok (.getfield 277, 3) := by decide +kernel
set_option maxRecDepth 20000 in
theorem dX11_trace_37 : decode cX11_trace 37 = .ok (.iload_n 1, 1) := by decide +kernel
set_option maxRecDepth 20000 in
theorem dX11_trace_38 : decode cX11_trace 38 = .ok (.iaload, 1) := by decide +kernel
set_option maxRecDepth 20000 in
theorem dX11_trace_39 : decode cX11_trace 39 = .ok (.ireturn, 1) := by decide +kernel
set_option maxRecDepth 20000 in
theorem kt_X11_trace_0 (g : gx_T) : ∀ q ∈ k_X11_trace_0, gx_E g gc_md RX11 cX11_trace 2 (some .int) "trace" q.1 q.2 := List.forall_mem_cons.mpr ⟨(gs_aload_n dX11_trace_0 rfl), List.forall_mem_cons.mpr ⟨
  (gs_gf (ref := "GriefCranes") dX11_trace_1 (gx_mem 386 (by decide +kernel) (by decide +kernel)) (Or.inl rfl) gf_11_15), List.forall_mem_cons.mpr ⟨
  (gs_ifnull dX11_trace_4 rfl), List.forall_mem_cons.mpr ⟨
  (gs_iload_n dX11_trace_7 rfl), List.forall_mem_cons.mpr ⟨
  (gs_if_lt dX11_trace_8 rfl), List.forall_mem_cons.mpr ⟨
  (gs_iload_n dX11_trace_11 rfl), List.forall_mem_cons.mpr ⟨
  (gs_aload_n dX11_trace_12 rfl), List.forall_mem_cons.mpr ⟨
  (gs_gf (ref := "GriefCranes") dX11_trace_13 (gx_mem 386 (by decide +kernel) (by decide +kernel)) (Or.inl rfl) gf_11_15), List.forall_mem_cons.mpr ⟨
  (gs_gf (ref := "GriefCranes$Crane") dX11_trace_16 (gx_mem 215 (by decide +kernel) (by decide +kernel)) (Or.inl rfl) gf_cr_2), List.forall_mem_cons.mpr ⟨
  (gs_icmp_ge dX11_trace_19 rfl), List.forall_mem_cons.mpr ⟨
  (gs_iload_n dX11_trace_22 rfl), List.forall_mem_cons.mpr ⟨
  (gs_bipush dX11_trace_23 rfl), List.forall_mem_cons.mpr ⟨
  (gs_icmp_lt dX11_trace_25 rfl), List.forall_mem_cons.mpr ⟨
  (gs_iconst dX11_trace_28 rfl), List.forall_mem_cons.mpr ⟨
  (gs_ri dX11_trace_29), List.forall_mem_cons.mpr ⟨
  (gs_aload_n dX11_trace_30 rfl), List.forall_mem_cons.mpr ⟨
  (gs_gf (ref := "GriefCranes") dX11_trace_31 (gx_mem 386 (by decide +kernel) (by decide +kernel)) (Or.inl rfl) gf_11_15), List.forall_mem_cons.mpr ⟨
  (gs_gf (ref := "GriefCranes$Crane") dX11_trace_34 (gx_mem 217 (by decide +kernel) (by decide +kernel)) (Or.inl rfl) gf_cr_3), List.forall_mem_cons.mpr ⟨
  (gs_iload_n dX11_trace_37 rfl), List.forall_mem_cons.mpr ⟨
  (gs_iaload dX11_trace_38), List.forall_mem_cons.mpr ⟨
  (gs_ri dX11_trace_39), fun _ h => absurd h List.not_mem_nil⟩⟩⟩⟩⟩⟩⟩⟩⟩⟩⟩⟩⟩⟩⟩⟩⟩⟩⟩⟩⟩
theorem kt_X11_trace (g : gx_T) : ∀ q ∈ k_X11_trace, gx_E g gc_md RX11 cX11_trace 2 (some .int) "trace" q.1 q.2 := kt_X11_trace_0 g
set_option maxRecDepth 20000 in
theorem dX11_taken_0 : decode cX11_taken 0 = .ok (.iload_n 2, 1) := by decide +kernel
set_option maxRecDepth 20000 in
theorem dX11_taken_1 : decode cX11_taken 1 = .ok (.bipush 6, 2) := by decide +kernel
set_option maxRecDepth 20000 in
theorem dX11_taken_3 : decode cX11_taken 3 = .ok (.invokestatic 108, 3) := by decide +kernel
set_option maxRecDepth 20000 in
theorem dX11_taken_6 : decode cX11_taken 6 = .ok (.ifCond .ne 6, 3) := by decide +kernel
set_option maxRecDepth 20000 in
theorem dX11_taken_9 : decode cX11_taken 9 = .ok (.bipush (-2), 2) := by decide +kernel
set_option maxRecDepth 20000 in
theorem dX11_taken_11 : decode cX11_taken 11 = .ok (.ireturn, 1) := by decide +kernel
set_option maxRecDepth 20000 in
theorem dX11_taken_12 : decode cX11_taken 12 = .ok (.aload_n 0, 1) := by decide +kernel
set_option maxRecDepth 20000 in
theorem dX11_taken_13 : decode cX11_taken 13 = .ok (.getfield 98, 3) := by decide +kernel
set_option maxRecDepth 20000 in
theorem dX11_taken_16 : decode cX11_taken 16 = .ok (.iload_n 1, 1) := by decide +kernel
set_option maxRecDepth 20000 in
theorem dX11_taken_17 : decode cX11_taken 17 = .ok (.invokevirtual 119, 3) := by decide +kernel
set_option maxRecDepth 20000 in
theorem dX11_taken_20 : decode cX11_taken 20 = .ok (.ifCond .ne 6, 3) := by decide +kernel
set_option maxRecDepth 20000 in
theorem dX11_taken_23 : decode cX11_taken 23 = .ok (.bipush (-11), 2) := by decide +kernel
set_option maxRecDepth 20000 in
theorem dX11_taken_25 : decode cX11_taken 25 = .ok (.ireturn, 1) := by decide +kernel
set_option maxRecDepth 20000 in
theorem dX11_taken_26 : decode cX11_taken 26 = .ok (.aload_n 0, 1) := by decide +kernel
set_option maxRecDepth 20000 in
theorem dX11_taken_27 : decode cX11_taken 27 = .ok (.getfield 98, 3) := by decide +kernel
set_option maxRecDepth 20000 in
theorem dX11_taken_30 : decode cX11_taken 30 = .ok (.getfield 123, 3) := by decide +kernel
set_option maxRecDepth 20000 in
theorem dX11_taken_33 : decode cX11_taken 33 = .ok (.iload_n 1, 1) := by decide +kernel
set_option maxRecDepth 20000 in
theorem dX11_taken_34 : decode cX11_taken 34 = .ok (.iaload, 1) := by decide +kernel
set_option maxRecDepth 20000 in
theorem dX11_taken_35 : decode cX11_taken 35 = .ok (.istore_n 3, 1) := by decide +kernel
set_option maxRecDepth 20000 in
theorem dX11_taken_36 : decode cX11_taken 36 = .ok (.iload_n 3, 1) := by decide +kernel
set_option maxRecDepth 20000 in
theorem dX11_taken_37 : decode cX11_taken 37 = .ok (.istore 4, 2) := by decide +kernel
set_option maxRecDepth 20000 in
theorem dX11_taken_39 : decode cX11_taken 39 = .ok (.iconst 0, 1) := by decide +kernel
set_option maxRecDepth 20000 in
theorem dX11_taken_40 : decode cX11_taken 40 = .ok (.istore 5, 2) := by decide +kernel
set_option maxRecDepth 20000 in
theorem dX11_taken_42 : decode cX11_taken 42 = .ok (.iload 5, 2) := by decide +kernel
set_option maxRecDepth 20000 in
theorem dX11_taken_44 : decode cX11_taken 44 = .ok (.bipush 7, 2) := by decide +kernel
set_option maxRecDepth 20000 in
theorem dX11_taken_46 : decode cX11_taken 46 = .ok (.if_icmp .ge 35, 3) := by decide +kernel
set_option maxRecDepth 20000 in
theorem dX11_taken_49 : decode cX11_taken 49 = .ok (.iload 4, 2) := by decide +kernel
set_option maxRecDepth 20000 in
theorem dX11_taken_51 : decode cX11_taken 51 = .ok (.bipush 6, 2) := by decide +kernel
set_option maxRecDepth 20000 in
theorem dX11_taken_53 : decode cX11_taken 53 = .ok (.invokestatic 108, 3) := by decide +kernel
set_option maxRecDepth 20000 in
theorem dX11_taken_56 : decode cX11_taken 56 = .ok (.ifCond .eq 25, 3) := by decide +kernel
set_option maxRecDepth 20000 in
theorem dX11_taken_59 : decode cX11_taken 59 = .ok (.iload 4, 2) := by decide +kernel
set_option maxRecDepth 20000 in
theorem dX11_taken_61 : decode cX11_taken 61 = .ok (.iload_n 2, 1) := by decide +kernel
set_option maxRecDepth 20000 in
theorem dX11_taken_62 : decode cX11_taken 62 = .ok (.if_icmp .ne 5, 3) := by decide +kernel
set_option maxRecDepth 20000 in
theorem dX11_taken_65 : decode cX11_taken 65 = .ok (.iload_n 3, 1) := by decide +kernel
set_option maxRecDepth 20000 in
theorem dX11_taken_66 : decode cX11_taken 66 = .ok (.ireturn, 1) := by decide +kernel
set_option maxRecDepth 20000 in
theorem dX11_taken_67 : decode cX11_taken 67 = .ok (.getstatic 280, 3) := by decide +kernel
set_option maxRecDepth 20000 in
theorem dX11_taken_70 : decode cX11_taken 70 = .ok (.iload 4, 2) := by decide +kernel
set_option maxRecDepth 20000 in
theorem dX11_taken_72 : decode cX11_taken 72 = .ok (.iaload, 1) := by decide +kernel
set_option maxRecDepth 20000 in
theorem dX11_taken_73 : decode cX11_taken 73 = .ok (.istore 4, 2) := by decide +kernel
set_option maxRecDepth 20000 in
theorem dX11_taken_75 : decode cX11_taken 75 = .ok (.iinc 5 1, 3) := by decide +kernel
set_option maxRecDepth 20000 in
theorem dX11_taken_78 : decode cX11_taken 78 = .ok (.goto (-36), 3) := by decide +kernel
set_option maxRecDepth 20000 in
theorem dX11_taken_81 : decode cX11_taken 81 = .ok (.bipush (-12), 2) := by decide +kernel
set_option maxRecDepth 20000 in
theorem dX11_taken_83 : decode cX11_taken 83 = .ok (.ireturn, 1) := by decide +kernel
set_option maxRecDepth 20000 in
theorem kt_X11_taken_0 (g : gx_T) : ∀ q ∈ k_X11_taken_0, gx_E g gc_md RX11 cX11_taken 6 (some .int) "taken" q.1 q.2 := List.forall_mem_cons.mpr ⟨(gs_iload_n dX11_taken_0 rfl), List.forall_mem_cons.mpr ⟨
  (gs_bipush dX11_taken_1 rfl), List.forall_mem_cons.mpr ⟨
  (gs_cs dX11_taken_3 (md_98) (List.forall_mem_cons.mpr ⟨gx_mem 427 (by decide +kernel) (by decide +kernel), List.forall_mem_cons.mpr ⟨gx_mem 428 (by decide +kernel) (by decide +kernel), List.forall_mem_cons.mpr ⟨gx_mem 84 (by decide +kernel) (by decide +kernel), List.forall_mem_cons.mpr ⟨cw_429, fun _ h => absurd h List.not_mem_nil⟩⟩⟩⟩) (by decide +kernel) (by decide)), List.forall_mem_cons.mpr ⟨
  (gs_if_ne dX11_taken_6 rfl), List.forall_mem_cons.mpr ⟨
  (gs_bipush dX11_taken_9 rfl), List.forall_mem_cons.mpr ⟨
  (gs_ri dX11_taken_11), List.forall_mem_cons.mpr ⟨
  (gs_aload_n dX11_taken_12 rfl), List.forall_mem_cons.mpr ⟨
  (gs_gf (ref := "GriefCranes") dX11_taken_13 (gx_mem 371 (by decide +kernel) (by decide +kernel)) (Or.inl rfl) gf_11_0), List.forall_mem_cons.mpr ⟨
  (gs_iload_n dX11_taken_16 rfl), List.forall_mem_cons.mpr ⟨
  (gs_cv dX11_taken_17 (fun q hq => by
      simp only [List.mem_cons, List.not_mem_nil, or_false] at hq
      subst hq
      exact Or.inl ⟨_, rfl, by decide, by decide +kernel, by decide +kernel, List.forall_mem_cons.mpr ⟨gx_mem 438 (by decide +kernel) (by decide +kernel), List.forall_mem_cons.mpr ⟨gx_mem 439 (by decide +kernel) (by decide +kernel), List.forall_mem_cons.mpr ⟨gx_mem 440 (by decide +kernel) (by decide +kernel), List.forall_mem_cons.mpr ⟨gx_mem 95 (by decide +kernel) (by decide +kernel), List.forall_mem_cons.mpr ⟨cw_441, fun _ h => absurd h List.not_mem_nil⟩⟩⟩⟩⟩⟩)), List.forall_mem_cons.mpr ⟨
  (gs_if_ne dX11_taken_20 rfl), List.forall_mem_cons.mpr ⟨
  (gs_bipush dX11_taken_23 rfl), List.forall_mem_cons.mpr ⟨
  (gs_ri dX11_taken_25), List.forall_mem_cons.mpr ⟨
  (gs_aload_n dX11_taken_26 rfl), List.forall_mem_cons.mpr ⟨
  (gs_gf (ref := "GriefCranes") dX11_taken_27 (gx_mem 371 (by decide +kernel) (by decide +kernel)) (Or.inl rfl) gf_11_0), List.forall_mem_cons.mpr ⟨
  (gs_gf (ref := "GriefCranes$Yard") dX11_taken_30 (gx_mem 313 (by decide +kernel) (by decide +kernel)) (Or.inl rfl) gf_10_5), List.forall_mem_cons.mpr ⟨
  (gs_iload_n dX11_taken_33 rfl), List.forall_mem_cons.mpr ⟨
  (gs_iaload dX11_taken_34), List.forall_mem_cons.mpr ⟨
  (gs_istore_n dX11_taken_35 rfl), List.forall_mem_cons.mpr ⟨
  (gs_iload_n dX11_taken_36 rfl), List.forall_mem_cons.mpr ⟨
  (gs_istore dX11_taken_37), List.forall_mem_cons.mpr ⟨
  (gs_iconst dX11_taken_39 rfl), List.forall_mem_cons.mpr ⟨
  (gs_istore dX11_taken_40), List.forall_mem_cons.mpr ⟨
  (gs_iload dX11_taken_42), List.forall_mem_cons.mpr ⟨
  (gs_bipush dX11_taken_44 rfl), List.forall_mem_cons.mpr ⟨
  (gs_icmp_ge dX11_taken_46 rfl), List.forall_mem_cons.mpr ⟨
  (gs_iload dX11_taken_49), List.forall_mem_cons.mpr ⟨
  (gs_bipush dX11_taken_51 rfl), List.forall_mem_cons.mpr ⟨
  (gs_cs dX11_taken_53 (md_98) (List.forall_mem_cons.mpr ⟨gx_mem 427 (by decide +kernel) (by decide +kernel), List.forall_mem_cons.mpr ⟨gx_mem 428 (by decide +kernel) (by decide +kernel), List.forall_mem_cons.mpr ⟨gx_mem 84 (by decide +kernel) (by decide +kernel), List.forall_mem_cons.mpr ⟨cw_429, fun _ h => absurd h List.not_mem_nil⟩⟩⟩⟩) (by decide +kernel) (by decide)), List.forall_mem_cons.mpr ⟨
  (gs_if_eq dX11_taken_56 rfl), List.forall_mem_cons.mpr ⟨
  (gs_iload dX11_taken_59), List.forall_mem_cons.mpr ⟨
  (gs_iload_n dX11_taken_61 rfl), fun _ h => absurd h List.not_mem_nil⟩⟩⟩⟩⟩⟩⟩⟩⟩⟩⟩⟩⟩⟩⟩⟩⟩⟩⟩⟩⟩⟩⟩⟩⟩⟩⟩⟩⟩⟩⟩⟩
set_option maxRecDepth 20000 in
theorem kt_X11_taken_1 (g : gx_T) : ∀ q ∈ k_X11_taken_1, gx_E g gc_md RX11 cX11_taken 6 (some .int) "taken" q.1 q.2 := List.forall_mem_cons.mpr ⟨(gs_icmp_ne dX11_taken_62 rfl), List.forall_mem_cons.mpr ⟨
  (gs_iload_n dX11_taken_65 rfl), List.forall_mem_cons.mpr ⟨
  (gs_ri dX11_taken_66), List.forall_mem_cons.mpr ⟨
  (gs_getsK dX11_taken_67 (gx_mem 960 (by decide +kernel) (by decide +kernel))), List.forall_mem_cons.mpr ⟨
  (gs_iload dX11_taken_70), List.forall_mem_cons.mpr ⟨
  (gs_sldK dX11_taken_72), List.forall_mem_cons.mpr ⟨
  (gs_istore dX11_taken_73), List.forall_mem_cons.mpr ⟨
  (gs_iinc dX11_taken_75), List.forall_mem_cons.mpr ⟨
  (gs_goto dX11_taken_78 rfl), List.forall_mem_cons.mpr ⟨
  (gs_bipush dX11_taken_81 rfl), List.forall_mem_cons.mpr ⟨
  (gs_ri dX11_taken_83), fun _ h => absurd h List.not_mem_nil⟩⟩⟩⟩⟩⟩⟩⟩⟩⟩⟩
theorem kt_X11_taken (g : gx_T) : ∀ q ∈ k_X11_taken, gx_E g gc_md RX11 cX11_taken 6 (some .int) "taken" q.1 q.2 := List.forall_mem_append.mpr ⟨kt_X11_taken_0 g, kt_X11_taken_1 g⟩
set_option maxRecDepth 20000 in
theorem dX11_count_0 : decode cX11_count 0 = .ok (.iload_n 1, 1) := by decide +kernel
set_option maxRecDepth 20000 in
theorem dX11_count_1 : decode cX11_count 1 = .ok (.tableswitch 116 0 7 #[47, 55, 63, 68, 76, 84, 92, 97], 47) := by decide +kernel
set_option maxRecDepth 20000 in
theorem dX11_count_48 : decode cX11_count 48 = .ok (.aload_n 0, 1) := by decide +kernel
set_option maxRecDepth 20000 in
theorem dX11_count_49 : decode cX11_count 49 = .ok (.getfield 98, 3) := by decide +kernel
set_option maxRecDepth 20000 in
theorem dX11_count_52 : decode cX11_count 52 = .ok (.getfield 112, 3) := by decide +kernel
set_option maxRecDepth 20000 in
theorem dX11_count_55 : decode cX11_count 55 = .ok (.ireturn, 1) := by decide +kernel
set_option maxRecDepth 20000 in
theorem dX11_count_56 : decode cX11_count 56 = .ok (.aload_n 0, 1) := by decide +kernel
set_option maxRecDepth 20000 in
theorem dX11_count_57 : decode cX11_count 57 = .ok (.getfield 98, 3) := by decide +kernel
set_option maxRecDepth 20000 in
theorem dX11_count_60 : decode cX11_count 60 = .ok (.getfield 146, 3) := by decide +kernel
set_option maxRecDepth 20000 in
theorem dX11_count_63 : decode cX11_count 63 = .ok (.ireturn, 1) := by decide +kernel
set_option maxRecDepth 20000 in
theorem dX11_count_64 : decode cX11_count 64 = .ok (.aload_n 0, 1) := by decide +kernel
set_option maxRecDepth 20000 in
theorem dX11_count_65 : decode cX11_count 65 = .ok (.getfield 53, 3) := by decide +kernel
set_option maxRecDepth 20000 in
theorem dX11_count_68 : decode cX11_count 68 = .ok (.ireturn, 1) := by decide +kernel
set_option maxRecDepth 20000 in
theorem dX11_count_69 : decode cX11_count 69 = .ok (.aload_n 0, 1) := by decide +kernel
set_option maxRecDepth 20000 in
theorem dX11_count_70 : decode cX11_count 70 = .ok (.getfield 16, 3) := by decide +kernel
set_option maxRecDepth 20000 in
theorem dX11_count_73 : decode cX11_count 73 = .ok (.getfield 237, 3) := by decide +kernel
set_option maxRecDepth 20000 in
theorem dX11_count_76 : decode cX11_count 76 = .ok (.ireturn, 1) := by decide +kernel
set_option maxRecDepth 20000 in
theorem dX11_count_77 : decode cX11_count 77 = .ok (.aload_n 0, 1) := by decide +kernel
set_option maxRecDepth 20000 in
theorem dX11_count_78 : decode cX11_count 78 = .ok (.getfield 23, 3) := by decide +kernel
set_option maxRecDepth 20000 in
theorem dX11_count_81 : decode cX11_count 81 = .ok (.getfield 237, 3) := by decide +kernel
set_option maxRecDepth 20000 in
theorem dX11_count_84 : decode cX11_count 84 = .ok (.ireturn, 1) := by decide +kernel
set_option maxRecDepth 20000 in
theorem dX11_count_85 : decode cX11_count 85 = .ok (.aload_n 0, 1) := by decide +kernel
set_option maxRecDepth 20000 in
theorem dX11_count_86 : decode cX11_count 86 = .ok (.getfield 29, 3) := by decide +kernel
set_option maxRecDepth 20000 in
theorem dX11_count_89 : decode cX11_count 89 = .ok (.getfield 237, 3) := by decide +kernel
set_option maxRecDepth 20000 in
theorem dX11_count_92 : decode cX11_count 92 = .ok (.ireturn, 1) := by decide +kernel
set_option maxRecDepth 20000 in
theorem dX11_count_93 : decode cX11_count 93 = .ok (.aload_n 0, 1) := by decide +kernel
set_option maxRecDepth 20000 in
theorem dX11_count_94 : decode cX11_count 94 = .ok (.getfield 43, 3) := by decide +kernel
set_option maxRecDepth 20000 in
theorem dX11_count_97 : decode cX11_count 97 = .ok (.ireturn, 1) := by decide +kernel
set_option maxRecDepth 20000 in
theorem dX11_count_98 : decode cX11_count 98 = .ok (.aload_n 0, 1) := by decide +kernel
set_option maxRecDepth 20000 in
theorem dX11_count_99 : decode cX11_count 99 = .ok (.getfield 56, 3) := by decide +kernel
set_option maxRecDepth 20000 in
theorem dX11_count_102 : decode cX11_count 102 = .ok (.ifnonnull 7, 3) := by decide +kernel
set_option maxRecDepth 20000 in
theorem dX11_count_105 : decode cX11_count 105 = .ok (.iconst 0, 1) := by decide +kernel
set_option maxRecDepth 20000 in
theorem dX11_count_106 : decode cX11_count 106 = .ok (.goto 10, 3) := by decide +kernel
set_option maxRecDepth 20000 in
theorem dX11_count_109 : decode cX11_count 109 = .ok (.aload_n 0, 1) := by decide +kernel
set_option maxRecDepth 20000 in
theorem dX11_count_110 : decode cX11_count 110 = .ok (.getfield 56, 3) := by decide +kernel
set_option maxRecDepth 20000 in
theorem dX11_count_113 : decode cX11_count 113 = .ok (.getfield 274, 3) := by decide +kernel
set_option maxRecDepth 20000 in
theorem dX11_count_116 : decode cX11_count 116 = .ok (.ireturn, 1) := by decide +kernel
set_option maxRecDepth 20000 in
theorem dX11_count_117 : decode cX11_count 117 = .ok (.bipush (-2), 2) := by decide +kernel
set_option maxRecDepth 20000 in
theorem dX11_count_119 : decode cX11_count 119 = .ok (.ireturn, 1) := by decide +kernel
set_option maxRecDepth 20000 in
theorem kt_X11_count_0 (g : gx_T) : ∀ q ∈ k_X11_count_0, gx_E g gc_md RX11 cX11_count 2 (some .int) "count" q.1 q.2 := List.forall_mem_cons.mpr ⟨(gs_iload_n dX11_count_0 rfl), List.forall_mem_cons.mpr ⟨
  (gs_tsw (lo := 0) (offs := [47, 55, 63, 68, 76, 84, 92, 97]) dX11_count_1 (by decide +kernel) (by decide +kernel)), List.forall_mem_cons.mpr ⟨
  (gs_aload_n dX11_count_48 rfl), List.forall_mem_cons.mpr ⟨
  (gs_gf (ref := "GriefCranes") dX11_count_49 (gx_mem 371 (by decide +kernel) (by decide +kernel)) (Or.inl rfl) gf_11_0), List.forall_mem_cons.mpr ⟨
  (gs_gf (ref := "GriefCranes$Yard") dX11_count_52 (gx_mem 311 (by decide +kernel) (by decide +kernel)) (Or.inl rfl) gf_10_4), List.forall_mem_cons.mpr ⟨
  (gs_ri dX11_count_55), List.forall_mem_cons.mpr ⟨
  (gs_aload_n dX11_count_56 rfl), List.forall_mem_cons.mpr ⟨
  (gs_gf (ref := "GriefCranes") dX11_count_57 (gx_mem 371 (by decide +kernel) (by decide +kernel)) (Or.inl rfl) gf_11_0), List.forall_mem_cons.mpr ⟨
  (gs_gf (ref := "GriefCranes$Yard") dX11_count_60 (gx_mem 325 (by decide +kernel) (by decide +kernel)) (Or.inl rfl) gf_10_9), List.forall_mem_cons.mpr ⟨
  (gs_ri dX11_count_63), List.forall_mem_cons.mpr ⟨
  (gs_aload_n dX11_count_64 rfl), List.forall_mem_cons.mpr ⟨
  (gs_gf (ref := "GriefCranes") dX11_count_65 (gx_mem 384 (by decide +kernel) (by decide +kernel)) (Or.inl rfl) gf_11_13), List.forall_mem_cons.mpr ⟨
  (gs_ri dX11_count_68), List.forall_mem_cons.mpr ⟨
  (gs_aload_n dX11_count_69 rfl), List.forall_mem_cons.mpr ⟨
  (gs_gf (ref := "GriefCranes") dX11_count_70 (gx_mem 374 (by decide +kernel) (by decide +kernel)) (Or.inl rfl) gf_11_3), List.forall_mem_cons.mpr ⟨
  (gs_gf (ref := "GriefCranes$Rows") dX11_count_73 (gx_mem 126 (by decide +kernel) (by decide +kernel)) (Or.inl rfl) gf_5_3), List.forall_mem_cons.mpr ⟨
  (gs_ri dX11_count_76), List.forall_mem_cons.mpr ⟨
  (gs_aload_n dX11_count_77 rfl), List.forall_mem_cons.mpr ⟨
  (gs_gf (ref := "GriefCranes") dX11_count_78 (gx_mem 376 (by decide +kernel) (by decide +kernel)) (Or.inl rfl) gf_11_5), List.forall_mem_cons.mpr ⟨
  (gs_gf (ref := "GriefCranes$Rows") dX11_count_81 (gx_mem 126 (by decide +kernel) (by decide +kernel)) (Or.inl rfl) gf_5_3), List.forall_mem_cons.mpr ⟨
  (gs_ri dX11_count_84), List.forall_mem_cons.mpr ⟨
  (gs_aload_n dX11_count_85 rfl), List.forall_mem_cons.mpr ⟨
  (gs_gf (ref := "GriefCranes") dX11_count_86 (gx_mem 378 (by decide +kernel) (by decide +kernel)) (Or.inl rfl) gf_11_7), List.forall_mem_cons.mpr ⟨
  (gs_gf (ref := "GriefCranes$Rows") dX11_count_89 (gx_mem 126 (by decide +kernel) (by decide +kernel)) (Or.inl rfl) gf_5_3), List.forall_mem_cons.mpr ⟨
  (gs_ri dX11_count_92), List.forall_mem_cons.mpr ⟨
  (gs_aload_n dX11_count_93 rfl), List.forall_mem_cons.mpr ⟨
  (gs_gf (ref := "GriefCranes") dX11_count_94 (gx_mem 382 (by decide +kernel) (by decide +kernel)) (Or.inl rfl) gf_11_11), List.forall_mem_cons.mpr ⟨
  (gs_ri dX11_count_97), List.forall_mem_cons.mpr ⟨
  (gs_aload_n dX11_count_98 rfl), List.forall_mem_cons.mpr ⟨
  (gs_gf (ref := "GriefCranes") dX11_count_99 (gx_mem 386 (by decide +kernel) (by decide +kernel)) (Or.inl rfl) gf_11_15), List.forall_mem_cons.mpr ⟨
  (gs_ifnonnull dX11_count_102 rfl), List.forall_mem_cons.mpr ⟨
  (gs_iconst dX11_count_105 rfl), fun _ h => absurd h List.not_mem_nil⟩⟩⟩⟩⟩⟩⟩⟩⟩⟩⟩⟩⟩⟩⟩⟩⟩⟩⟩⟩⟩⟩⟩⟩⟩⟩⟩⟩⟩⟩⟩⟩
set_option maxRecDepth 20000 in
theorem kt_X11_count_1 (g : gx_T) : ∀ q ∈ k_X11_count_1, gx_E g gc_md RX11 cX11_count 2 (some .int) "count" q.1 q.2 := List.forall_mem_cons.mpr ⟨(gs_goto dX11_count_106 rfl), List.forall_mem_cons.mpr ⟨
  (gs_aload_n dX11_count_109 rfl), List.forall_mem_cons.mpr ⟨
  (gs_gf (ref := "GriefCranes") dX11_count_110 (gx_mem 386 (by decide +kernel) (by decide +kernel)) (Or.inl rfl) gf_11_15), List.forall_mem_cons.mpr ⟨
  (gs_gf (ref := "GriefCranes$Crane") dX11_count_113 (gx_mem 215 (by decide +kernel) (by decide +kernel)) (Or.inl rfl) gf_cr_2), List.forall_mem_cons.mpr ⟨
  (gs_ri dX11_count_116), List.forall_mem_cons.mpr ⟨
  (gs_bipush dX11_count_117 rfl), List.forall_mem_cons.mpr ⟨
  (gs_ri dX11_count_119), fun _ h => absurd h List.not_mem_nil⟩⟩⟩⟩⟩⟩⟩
theorem kt_X11_count (g : gx_T) : ∀ q ∈ k_X11_count, gx_E g gc_md RX11 cX11_count 2 (some .int) "count" q.1 q.2 := List.forall_mem_append.mpr ⟨kt_X11_count_0 g, kt_X11_count_1 g⟩
set_option maxRecDepth 20000 in
theorem dX11_tape_0 : decode cX11_tape 0 = .ok (.iload_n 1, 1) := by decide +kernel
set_option maxRecDepth 20000 in
theorem dX11_tape_1 : decode cX11_tape 1 = .ok (.iconst 5, 1) := by decide +kernel
set_option maxRecDepth 20000 in
theorem dX11_tape_2 : decode cX11_tape 2 = .ok (.invokestatic 108, 3) := by decide +kernel
set_option maxRecDepth 20000 in
theorem dX11_tape_5 : decode cX11_tape 5 = .ok (.ifCond .ne 5, 3) := by decide +kernel
set_option maxRecDepth 20000 in
theorem dX11_tape_8 : decode cX11_tape 8 = .ok (.iconst (-1), 1) := by decide +kernel
set_option maxRecDepth 20000 in
theorem dX11_tape_9 : decode cX11_tape 9 = .ok (.ireturn, 1) := by decide +kernel
set_option maxRecDepth 20000 in
theorem dX11_tape_10 : decode cX11_tape 10 = .ok (.iload_n 2, 1) := by decide +kernel
set_option maxRecDepth 20000 in
theorem dX11_tape_11 : decode cX11_tape 11 = .ok (.iconst (-1), 1) := by decide +kernel
set_option maxRecDepth 20000 in
theorem dX11_tape_12 : decode cX11_tape 12 = .ok (.if_icmp .eq 14, 3) := by decide +kernel
set_option maxRecDepth 20000 in
theorem dX11_tape_15 : decode cX11_tape 15 = .ok (.iload_n 2, 1) := by decide +kernel
set_option maxRecDepth 20000 in
theorem dX11_tape_16 : decode cX11_tape 16 = .ok (.iconst 4, 1) := by decide +kernel
set_option maxRecDepth 20000 in
theorem dX11_tape_17 : decode cX11_tape 17 = .ok (.invokestatic 108, 3) := by decide +kernel
set_option maxRecDepth 20000 in
theorem dX11_tape_20 : decode cX11_tape 20 = .ok (.ifCond .ne 6, 3) := by decide +kernel
set_option maxRecDepth 20000 in
theorem dX11_tape_23 : decode cX11_tape 23 = .ok (.bipush (-2), 2) := by decide +kernel
set_option maxRecDepth 20000 in
theorem dX11_tape_25 : decode cX11_tape 25 = .ok (.ireturn, 1) := by decide +kernel
set_option maxRecDepth 20000 in
theorem dX11_tape_26 : decode cX11_tape 26 = .ok (.iload_n 2, 1) := by decide +kernel
set_option maxRecDepth 20000 in
theorem dX11_tape_27 : decode cX11_tape 27 = .ok (.iconst (-1), 1) := by decide +kernel
set_option maxRecDepth 20000 in
theorem dX11_tape_28 : decode cX11_tape 28 = .ok (.if_icmp .ne 16, 3) := by decide +kernel
set_option maxRecDepth 20000 in
theorem dX11_tape_31 : decode cX11_tape 31 = .ok (.aload_n 0, 1) := by decide +kernel
set_option maxRecDepth 20000 in
theorem dX11_tape_32 : decode cX11_tape 32 = .ok (.getfield 62, 3) := by decide +kernel
set_option maxRecDepth 20000 in
theorem dX11_tape_35 : decode cX11_tape 35 = .ok (.iload_n 1, 1) := by decide +kernel
set_option maxRecDepth 20000 in
theorem dX11_tape_36 : decode cX11_tape 36 = .ok (.aaload, 1) := by decide +kernel
set_option maxRecDepth 20000 in
theorem dX11_tape_37 : decode cX11_tape 37 = .ok (.iconst (-1), 1) := by decide +kernel
set_option maxRecDepth 20000 in
theorem dX11_tape_38 : decode cX11_tape 38 = .ok (.iconst 0, 1) := by decide +kernel
set_option maxRecDepth 20000 in
theorem dX11_tape_39 : decode cX11_tape 39 = .ok (.invokevirtual 283, 3) := by decide +kernel
set_option maxRecDepth 20000 in
theorem dX11_tape_42 : decode cX11_tape 42 = .ok (.iconst 1, 1) := by decide +kernel
set_option maxRecDepth 20000 in
theorem dX11_tape_43 : decode cX11_tape 43 = .ok (.ireturn, 1) := by decide +kernel
set_option maxRecDepth 20000 in
theorem dX11_tape_44 : decode cX11_tape 44 = .ok (.iload_n 3, 1) := by decide +kernel
set_option maxRecDepth 20000 in
theorem dX11_tape_45 : decode cX11_tape 45 = .ok (.bipush 60, 2) := by decide +kernel
set_option maxRecDepth 20000 in
theorem dX11_tape_47 : decode cX11_tape 47 = .ok (.if_icmp .le 6, 3) := by decide +kernel
set_option maxRecDepth 20000 in
theorem dX11_tape_50 : decode cX11_tape 50 = .ok (.bipush (-2), 2) := by decide +kernel
set_option maxRecDepth 20000 in
theorem dX11_tape_52 : decode cX11_tape 52 = .ok (.ireturn, 1) := by decide +kernel
set_option maxRecDepth 20000 in
theorem dX11_tape_53 : decode cX11_tape 53 = .ok (.iload_n 3, 1) := by decide +kernel
set_option maxRecDepth 20000 in
theorem dX11_tape_54 : decode cX11_tape 54 = .ok (.ifCond .ge 6, 3) := by decide +kernel
set_option maxRecDepth 20000 in
theorem dX11_tape_57 : decode cX11_tape 57 = .ok (.bipush (-14), 2) := by decide +kernel
set_option maxRecDepth 20000 in
theorem dX11_tape_59 : decode cX11_tape 59 = .ok (.ireturn, 1) := by decide +kernel
set_option maxRecDepth 20000 in
theorem dX11_tape_60 : decode cX11_tape 60 = .ok (.aload_n 0, 1) := by decide +kernel
set_option maxRecDepth 20000 in
theorem dX11_tape_61 : decode cX11_tape 61 = .ok (.getfield 62, 3) := by decide +kernel
set_option maxRecDepth 20000 in
theorem dX11_tape_64 : decode cX11_tape 64 = .ok (.iload_n 1, 1) := by decide +kernel
set_option maxRecDepth 20000 in
theorem dX11_tape_65 : decode cX11_tape 65 = .ok (.aaload, 1) := by decide +kernel
set_option maxRecDepth 20000 in
theorem dX11_tape_66 : decode cX11_tape 66 = .ok (.iload_n 2, 1) := by decide +kernel
set_option maxRecDepth 20000 in
theorem dX11_tape_67 : decode cX11_tape 67 = .ok (.iload_n 3, 1) := by decide +kernel
set_option maxRecDepth 20000 in
theorem dX11_tape_68 : decode cX11_tape 68 = .ok (.invokevirtual 283, 3) := by decide +kernel
set_option maxRecDepth 20000 in
theorem dX11_tape_71 : decode cX11_tape 71 = .ok (.iconst 1, 1) := by decide +kernel
set_option maxRecDepth 20000 in
theorem dX11_tape_72 : decode cX11_tape 72 = .ok (.ireturn, 1) := by decide +kernel
set_option maxRecDepth 20000 in
theorem kt_X11_tape_0 (g : gx_T) : ∀ q ∈ k_X11_tape_0, gx_E g gc_md RX11 cX11_tape 4 (some .int) "tape" q.1 q.2 := List.forall_mem_cons.mpr ⟨(gs_iload_n dX11_tape_0 rfl), List.forall_mem_cons.mpr ⟨
  (gs_iconst dX11_tape_1 rfl), List.forall_mem_cons.mpr ⟨
  (gs_cs dX11_tape_2 (md_98) (List.forall_mem_cons.mpr ⟨gx_mem 427 (by decide +kernel) (by decide +kernel), List.forall_mem_cons.mpr ⟨gx_mem 428 (by decide +kernel) (by decide +kernel), List.forall_mem_cons.mpr ⟨gx_mem 84 (by decide +kernel) (by decide +kernel), List.forall_mem_cons.mpr ⟨cw_429, fun _ h => absurd h List.not_mem_nil⟩⟩⟩⟩) (by decide +kernel) (by decide)), List.forall_mem_cons.mpr ⟨
  (gs_if_ne dX11_tape_5 rfl), List.forall_mem_cons.mpr ⟨
  (gs_iconst dX11_tape_8 rfl), List.forall_mem_cons.mpr ⟨
  (gs_ri dX11_tape_9), List.forall_mem_cons.mpr ⟨
  (gs_iload_n dX11_tape_10 rfl), List.forall_mem_cons.mpr ⟨
  (gs_iconst dX11_tape_11 rfl), List.forall_mem_cons.mpr ⟨
  (gs_icmp_eq dX11_tape_12 rfl), List.forall_mem_cons.mpr ⟨
  (gs_iload_n dX11_tape_15 rfl), List.forall_mem_cons.mpr ⟨
  (gs_iconst dX11_tape_16 rfl), List.forall_mem_cons.mpr ⟨
  (gs_cs dX11_tape_17 (md_98) (List.forall_mem_cons.mpr ⟨gx_mem 427 (by decide +kernel) (by decide +kernel), List.forall_mem_cons.mpr ⟨gx_mem 428 (by decide +kernel) (by decide +kernel), List.forall_mem_cons.mpr ⟨gx_mem 84 (by decide +kernel) (by decide +kernel), List.forall_mem_cons.mpr ⟨cw_429, fun _ h => absurd h List.not_mem_nil⟩⟩⟩⟩) (by decide +kernel) (by decide)), List.forall_mem_cons.mpr ⟨
  (gs_if_ne dX11_tape_20 rfl), List.forall_mem_cons.mpr ⟨
  (gs_bipush dX11_tape_23 rfl), List.forall_mem_cons.mpr ⟨
  (gs_ri dX11_tape_25), List.forall_mem_cons.mpr ⟨
  (gs_iload_n dX11_tape_26 rfl), List.forall_mem_cons.mpr ⟨
  (gs_iconst dX11_tape_27 rfl), List.forall_mem_cons.mpr ⟨
  (gs_icmp_ne dX11_tape_28 rfl), List.forall_mem_cons.mpr ⟨
  (gs_aload_n dX11_tape_31 rfl), List.forall_mem_cons.mpr ⟨
  (gs_gf (ref := "GriefCranes") dX11_tape_32 (gx_mem 387 (by decide +kernel) (by decide +kernel)) (Or.inl rfl) gf_11_16), List.forall_mem_cons.mpr ⟨
  (gs_iload_n dX11_tape_35 rfl), List.forall_mem_cons.mpr ⟨
  (gs_aaload (by decide) dX11_tape_36), List.forall_mem_cons.mpr ⟨
  (gs_iconst dX11_tape_37 rfl), List.forall_mem_cons.mpr ⟨
  (gs_iconst dX11_tape_38 rfl), List.forall_mem_cons.mpr ⟨
  (gs_cv dX11_tape_39 (fun q hq => by
      simp only [List.mem_cons, List.not_mem_nil, or_false] at hq
      subst hq
      exact Or.inl ⟨_, rfl, by decide, by decide +kernel, by decide +kernel, List.forall_mem_cons.mpr ⟨gx_mem 970 (by decide +kernel) (by decide +kernel), List.forall_mem_cons.mpr ⟨gx_mem 971 (by decide +kernel) (by decide +kernel), List.forall_mem_cons.mpr ⟨gx_mem 972 (by decide +kernel) (by decide +kernel), List.forall_mem_cons.mpr ⟨gx_mem 87 (by decide +kernel) (by decide +kernel), List.forall_mem_cons.mpr ⟨cw_973, fun _ h => absurd h List.not_mem_nil⟩⟩⟩⟩⟩⟩)), List.forall_mem_cons.mpr ⟨
  (gs_iconst dX11_tape_42 rfl), List.forall_mem_cons.mpr ⟨
  (gs_ri dX11_tape_43), List.forall_mem_cons.mpr ⟨
  (gs_iload_n dX11_tape_44 rfl), List.forall_mem_cons.mpr ⟨
  (gs_bipush dX11_tape_45 rfl), List.forall_mem_cons.mpr ⟨
  (gs_icmp_le dX11_tape_47 rfl), List.forall_mem_cons.mpr ⟨
  (gs_bipush dX11_tape_50 rfl), List.forall_mem_cons.mpr ⟨
  (gs_ri dX11_tape_52), fun _ h => absurd h List.not_mem_nil⟩⟩⟩⟩⟩⟩⟩⟩⟩⟩⟩⟩⟩⟩⟩⟩⟩⟩⟩⟩⟩⟩⟩⟩⟩⟩⟩⟩⟩⟩⟩⟩
set_option maxRecDepth 20000 in
theorem kt_X11_tape_1 (g : gx_T) : ∀ q ∈ k_X11_tape_1, gx_E g gc_md RX11 cX11_tape 4 (some .int) "tape" q.1 q.2 := List.forall_mem_cons.mpr ⟨(gs_iload_n dX11_tape_53 rfl), List.forall_mem_cons.mpr ⟨
  (gs_if_ge dX11_tape_54 rfl), List.forall_mem_cons.mpr ⟨
  (gs_bipush dX11_tape_57 rfl), List.forall_mem_cons.mpr ⟨
  (gs_ri dX11_tape_59), List.forall_mem_cons.mpr ⟨
  (gs_aload_n dX11_tape_60 rfl), List.forall_mem_cons.mpr ⟨
  (gs_gf (ref := "GriefCranes") dX11_tape_61 (gx_mem 387 (by decide +kernel) (by decide +kernel)) (Or.inl rfl) gf_11_16), List.forall_mem_cons.mpr ⟨
  (gs_iload_n dX11_tape_64 rfl), List.forall_mem_cons.mpr ⟨
  (gs_aaload (by decide) dX11_tape_65), List.forall_mem_cons.mpr ⟨
  (gs_iload_n dX11_tape_66 rfl), List.forall_mem_cons.mpr ⟨
  (gs_iload_n dX11_tape_67 rfl), List.forall_mem_cons.mpr ⟨
  (gs_cv dX11_tape_68 (fun q hq => by
      simp only [List.mem_cons, List.not_mem_nil, or_false] at hq
      subst hq
      exact Or.inl ⟨_, rfl, by decide, by decide +kernel, by decide +kernel, List.forall_mem_cons.mpr ⟨gx_mem 970 (by decide +kernel) (by decide +kernel), List.forall_mem_cons.mpr ⟨gx_mem 971 (by decide +kernel) (by decide +kernel), List.forall_mem_cons.mpr ⟨gx_mem 972 (by decide +kernel) (by decide +kernel), List.forall_mem_cons.mpr ⟨gx_mem 87 (by decide +kernel) (by decide +kernel), List.forall_mem_cons.mpr ⟨cw_973, fun _ h => absurd h List.not_mem_nil⟩⟩⟩⟩⟩⟩)), List.forall_mem_cons.mpr ⟨
  (gs_iconst dX11_tape_71 rfl), List.forall_mem_cons.mpr ⟨
  (gs_ri dX11_tape_72), fun _ h => absurd h List.not_mem_nil⟩⟩⟩⟩⟩⟩⟩⟩⟩⟩⟩⟩⟩
theorem kt_X11_tape (g : gx_T) : ∀ q ∈ k_X11_tape, gx_E g gc_md RX11 cX11_tape 4 (some .int) "tape" q.1 q.2 := List.forall_mem_append.mpr ⟨kt_X11_tape_0 g, kt_X11_tape_1 g⟩
set_option maxRecDepth 20000 in
theorem dX11_item_0 : decode cX11_item 0 = .ok (.iload_n 1, 1) := by decide +kernel
set_option maxRecDepth 20000 in
theorem dX11_item_1 : decode cX11_item 1 = .ok (.iconst 5, 1) := by decide +kernel
set_option maxRecDepth 20000 in
theorem dX11_item_2 : decode cX11_item 2 = .ok (.invokestatic 108, 3) := by decide +kernel
set_option maxRecDepth 20000 in
theorem dX11_item_5 : decode cX11_item 5 = .ok (.ifCond .ne 5, 3) := by decide +kernel
set_option maxRecDepth 20000 in
theorem dX11_item_8 : decode cX11_item 8 = .ok (.iconst (-1), 1) := by decide +kernel
set_option maxRecDepth 20000 in
theorem dX11_item_9 : decode cX11_item 9 = .ok (.ireturn, 1) := by decide +kernel
set_option maxRecDepth 20000 in
theorem dX11_item_10 : decode cX11_item 10 = .ok (.aload_n 0, 1) := by decide +kernel
set_option maxRecDepth 20000 in
theorem dX11_item_11 : decode cX11_item 11 = .ok (.getfield 62, 3) := by decide +kernel
set_option maxRecDepth 20000 in
theorem dX11_item_14 : decode cX11_item 14 = .ok (.iload_n 1, 1) := by decide +kernel
set_option maxRecDepth 20000 in
theorem dX11_item_15 : decode cX11_item 15 = .ok (.aaload, 1) := by decide +kernel
set_option maxRecDepth 20000 in
theorem dX11_item_16 : decode cX11_item 16 = .ok (.astore 5, 2) := by decide +kernel
set_option maxRecDepth 20000 in
theorem dX11_item_18 : decode cX11_item 18 = .ok (.aload 5, 2) := by decide +kernel
set_option maxRecDepth 20000 in
theorem dX11_item_20 : decode cX11_item 20 = .ok (.getfield 250, 3) := by decide +kernel
set_option maxRecDepth 20000 in
theorem dX11_item_23 : decode cX11_item 23 = .ok (.iconst (-1), 1) := by decide +kernel
set_option maxRecDepth 20000 in
theorem dX11_item_24 : decode cX11_item 24 = .ok (.if_icmp .ne 6, 3) := by decide +kernel
set_option maxRecDepth 20000 in
theorem dX11_item_27 : decode cX11_item 27 = .ok (.bipush (-11), 2) := by decide +kernel
set_option maxRecDepth 20000 in
theorem dX11_item_29 : decode cX11_item 29 = .ok (.ireturn, 1) := by decide +kernel
set_option maxRecDepth 20000 in
theorem dX11_item_30 : decode cX11_item 30 = .ok (.iload_n 2, 1) := by decide +kernel
set_option maxRecDepth 20000 in
theorem dX11_item_31 : decode cX11_item 31 = .ok (.ifCond .lt 12, 3) := by decide +kernel
set_option maxRecDepth 20000 in
theorem dX11_item_34 : decode cX11_item 34 = .ok (.iload_n 2, 1) := by decide +kernel
set_option maxRecDepth 20000 in
theorem dX11_item_35 : decode cX11_item 35 = .ok (.aload 5, 2) := by decide +kernel
set_option maxRecDepth 20000 in
theorem dX11_item_37 : decode cX11_item 37 = .ok (.getfield 253, 3) := by decide +kernel
set_option maxRecDepth 20000 in
theorem dX11_item_40 : decode cX11_item 40 = .ok (.if_icmp .lt 6, 3) := by decide +kernel
set_option maxRecDepth 20000 in
theorem dX11_item_43 : decode cX11_item 43 = .ok (.bipush (-13), 2) := by decide +kernel
set_option maxRecDepth 20000 in
theorem dX11_item_45 : decode cX11_item 45 = .ok (.ireturn, 1) := by decide +kernel
set_option maxRecDepth 20000 in
theorem dX11_item_46 : decode cX11_item 46 = .ok (.aload 5, 2) := by decide +kernel
set_option maxRecDepth 20000 in
theorem dX11_item_48 : decode cX11_item 48 = .ok (.getfield 256, 3) := by decide +kernel
set_option maxRecDepth 20000 in
theorem dX11_item_51 : decode cX11_item 51 = .ok (.iload_n 2, 1) := by decide +kernel
set_option maxRecDepth 20000 in
theorem dX11_item_52 : decode cX11_item 52 = .ok (.aload 5, 2) := by decide +kernel
set_option maxRecDepth 20000 in
theorem dX11_item_54 : decode cX11_item 54 = .ok (.lload_n 3, 1) := by decide +kernel
set_option maxRecDepth 20000 in
theorem dX11_item_55 : decode cX11_item 55 = .ok (.invokevirtual 286, 3) := by decide +kernel
set_option maxRecDepth 20000 in
theorem dX11_item_58 : decode cX11_item 58 = .ok (.lastore, 1) := by decide +kernel
set_option maxRecDepth 20000 in
theorem dX11_item_59 : decode cX11_item 59 = .ok (.iconst 1, 1) := by decide +kernel
set_option maxRecDepth 20000 in
theorem dX11_item_60 : decode cX11_item 60 = .ok (.ireturn, 1) := by decide +kernel
set_option maxRecDepth 20000 in
theorem kt_X11_item_0 (g : gx_T) : ∀ q ∈ k_X11_item_0, gx_E g gc_md RX11 cX11_item 6 (some .int) "item" q.1 q.2 := List.forall_mem_cons.mpr ⟨(gs_iload_n dX11_item_0 rfl), List.forall_mem_cons.mpr ⟨
  (gs_iconst dX11_item_1 rfl), List.forall_mem_cons.mpr ⟨
  (gs_cs dX11_item_2 (md_98) (List.forall_mem_cons.mpr ⟨gx_mem 427 (by decide +kernel) (by decide +kernel), List.forall_mem_cons.mpr ⟨gx_mem 428 (by decide +kernel) (by decide +kernel), List.forall_mem_cons.mpr ⟨gx_mem 84 (by decide +kernel) (by decide +kernel), List.forall_mem_cons.mpr ⟨cw_429, fun _ h => absurd h List.not_mem_nil⟩⟩⟩⟩) (by decide +kernel) (by decide)), List.forall_mem_cons.mpr ⟨
  (gs_if_ne dX11_item_5 rfl), List.forall_mem_cons.mpr ⟨
  (gs_iconst dX11_item_8 rfl), List.forall_mem_cons.mpr ⟨
  (gs_ri dX11_item_9), List.forall_mem_cons.mpr ⟨
  (gs_aload_n dX11_item_10 rfl), List.forall_mem_cons.mpr ⟨
  (gs_gf (ref := "GriefCranes") dX11_item_11 (gx_mem 387 (by decide +kernel) (by decide +kernel)) (Or.inl rfl) gf_11_16), List.forall_mem_cons.mpr ⟨
  (gs_iload_n dX11_item_14 rfl), List.forall_mem_cons.mpr ⟨
  (gs_aaload (by decide) dX11_item_15), List.forall_mem_cons.mpr ⟨
  (gs_astore dX11_item_16), List.forall_mem_cons.mpr ⟨
  (gs_aload dX11_item_18), List.forall_mem_cons.mpr ⟨
  (gs_gf (ref := "GriefCranes$Tape") dX11_item_20 (gx_mem 188 (by decide +kernel) (by decide +kernel)) (Or.inl rfl) gf_8_0), List.forall_mem_cons.mpr ⟨
  (gs_iconst dX11_item_23 rfl), List.forall_mem_cons.mpr ⟨
  (gs_icmp_ne dX11_item_24 rfl), List.forall_mem_cons.mpr ⟨
  (gs_bipush dX11_item_27 rfl), List.forall_mem_cons.mpr ⟨
  (gs_ri dX11_item_29), List.forall_mem_cons.mpr ⟨
  (gs_iload_n dX11_item_30 rfl), List.forall_mem_cons.mpr ⟨
  (gs_if_lt dX11_item_31 rfl), List.forall_mem_cons.mpr ⟨
  (gs_iload_n dX11_item_34 rfl), List.forall_mem_cons.mpr ⟨
  (gs_aload dX11_item_35), List.forall_mem_cons.mpr ⟨
  (gs_gf (ref := "GriefCranes$Tape") dX11_item_37 (gx_mem 190 (by decide +kernel) (by decide +kernel)) (Or.inl rfl) gf_8_1), List.forall_mem_cons.mpr ⟨
  (gs_icmp_lt dX11_item_40 rfl), List.forall_mem_cons.mpr ⟨
  (gs_bipush dX11_item_43 rfl), List.forall_mem_cons.mpr ⟨
  (gs_ri dX11_item_45), List.forall_mem_cons.mpr ⟨
  (gs_aload dX11_item_46), List.forall_mem_cons.mpr ⟨
  (gs_gf (ref := "GriefCranes$Tape") dX11_item_48 (gx_mem 192 (by decide +kernel) (by decide +kernel)) (Or.inl rfl) gf_8_2), List.forall_mem_cons.mpr ⟨
  (gs_iload_n dX11_item_51 rfl), List.forall_mem_cons.mpr ⟨
  (gs_aload dX11_item_52), List.forall_mem_cons.mpr ⟨
  (gs_lload_n dX11_item_54 rfl), List.forall_mem_cons.mpr ⟨
  (gs_cv dX11_item_55 (fun q hq => by
      simp only [List.mem_cons, List.not_mem_nil, or_false] at hq
      subst hq
      exact Or.inl ⟨_, rfl, by decide, by decide +kernel, by decide +kernel, List.forall_mem_cons.mpr ⟨gx_mem 978 (by decide +kernel) (by decide +kernel), List.forall_mem_cons.mpr ⟨gx_mem 979 (by decide +kernel) (by decide +kernel), List.forall_mem_cons.mpr ⟨gx_mem 980 (by decide +kernel) (by decide +kernel), List.forall_mem_cons.mpr ⟨gx_mem 87 (by decide +kernel) (by decide +kernel), List.forall_mem_cons.mpr ⟨cw_981, fun _ h => absurd h List.not_mem_nil⟩⟩⟩⟩⟩⟩)), List.forall_mem_cons.mpr ⟨
  (gs_lastore dX11_item_58), fun _ h => absurd h List.not_mem_nil⟩⟩⟩⟩⟩⟩⟩⟩⟩⟩⟩⟩⟩⟩⟩⟩⟩⟩⟩⟩⟩⟩⟩⟩⟩⟩⟩⟩⟩⟩⟩⟩
set_option maxRecDepth 20000 in
theorem kt_X11_item_1 (g : gx_T) : ∀ q ∈ k_X11_item_1, gx_E g gc_md RX11 cX11_item 6 (some .int) "item" q.1 q.2 := List.forall_mem_cons.mpr ⟨(gs_iconst dX11_item_59 rfl), List.forall_mem_cons.mpr ⟨
  (gs_ri dX11_item_60), fun _ h => absurd h List.not_mem_nil⟩⟩
theorem kt_X11_item (g : gx_T) : ∀ q ∈ k_X11_item, gx_E g gc_md RX11 cX11_item 6 (some .int) "item" q.1 q.2 := List.forall_mem_append.mpr ⟨kt_X11_item_0 g, kt_X11_item_1 g⟩
set_option maxRecDepth 20000 in
theorem dX11_read_0 : decode cX11_read 0 = .ok (.iload_n 1, 1) := by decide +kernel
set_option maxRecDepth 20000 in
theorem dX11_read_1 : decode cX11_read 1 = .ok (.iconst 5, 1) := by decide +kernel
set_option maxRecDepth 20000 in
theorem dX11_read_2 : decode cX11_read 2 = .ok (.invokestatic 108, 3) := by decide +kernel
set_option maxRecDepth 20000 in
theorem dX11_read_5 : decode cX11_read 5 = .ok (.ifCond .ne 7, 3) := by decide +kernel
set_option maxRecDepth 20000 in
theorem dX11_read_8 : decode cX11_read 8 = .ok (.ldc2_w 228, 3) := by decide +kernel
set_option maxRecDepth 20000 in
theorem dX11_read_11 : decode cX11_read 11 = .ok (.lreturn, 1) := by decide +kernel
set_option maxRecDepth 20000 in
theorem dX11_read_12 : decode cX11_read 12 = .ok (.aload_n 0, 1) := by decide +kernel
set_option maxRecDepth 20000 in
theorem dX11_read_13 : decode cX11_read 13 = .ok (.getfield 62, 3) := by decide +kernel
set_option maxRecDepth 20000 in
theorem dX11_read_16 : decode cX11_read 16 = .ok (.iload_n 1, 1) := by decide +kernel
set_option maxRecDepth 20000 in
theorem dX11_read_17 : decode cX11_read 17 = .ok (.aaload, 1) := by decide +kernel
set_option maxRecDepth 20000 in
theorem dX11_read_18 : decode cX11_read 18 = .ok (.astore_n 3, 1) := by decide +kernel
set_option maxRecDepth 20000 in
theorem dX11_read_19 : decode cX11_read 19 = .ok (.iload_n 2, 1) := by decide +kernel
set_option maxRecDepth 20000 in
theorem dX11_read_20 : decode cX11_read 20 = .ok (.ifCond .lt 11, 3) := by decide +kernel
set_option maxRecDepth 20000 in
theorem dX11_read_23 : decode cX11_read 23 = .ok (.iload_n 2, 1) := by decide +kernel
set_option maxRecDepth 20000 in
theorem dX11_read_24 : decode cX11_read 24 = .ok (.aload_n 3, 1) := by decide +kernel
set_option maxRecDepth 20000 in
theorem dX11_read_25 : decode cX11_read 25 = .ok (.getfield 253, 3) := by decide +kernel
set_option maxRecDepth 20000 in
theorem dX11_read_28 : decode cX11_read 28 = .ok (.if_icmp .lt 9, 3) := by decide +kernel
set_option maxRecDepth 20000 in
theorem dX11_read_31 : decode cX11_read 31 = .ok (.ldc2_w 228, 3) := by decide +kernel
set_option maxRecDepth 20000 in
theorem dX11_read_34 : decode cX11_read 34 = .ok (.goto 9, 3) := by decide +kernel
set_option maxRecDepth 20000 in
theorem dX11_read_37 : decode cX11_read 37 = .ok (.aload_n 3, 1) := by decide +kernel
set_option maxRecDepth 20000 in
theorem dX11_read_38 : decode cX11_read 38 = .ok (.getfield 256, 3) := by decide +kernel
set_option maxRecDepth 20000 in
theorem dX11_read_41 : decode cX11_read 41 = .ok (.iload_n 2, 1) := by decide +kernel
set_option maxRecDepth 20000 in
theorem dX11_read_42 : decode cX11_read 42 = .ok (.laload, 1) := by decide +kernel
set_option maxRecDepth 20000 in
theorem dX11_read_43 : decode cX11_read 43 = .ok (.lreturn, 1) := by decide +kernel
set_option maxRecDepth 20000 in
theorem kt_X11_read_0 (g : gx_T) : ∀ q ∈ k_X11_read_0, gx_E g gc_md RX11 cX11_read 4 (some .long) "read" q.1 q.2 := List.forall_mem_cons.mpr ⟨(gs_iload_n dX11_read_0 rfl), List.forall_mem_cons.mpr ⟨
  (gs_iconst dX11_read_1 rfl), List.forall_mem_cons.mpr ⟨
  (gs_cs dX11_read_2 (md_98) (List.forall_mem_cons.mpr ⟨gx_mem 427 (by decide +kernel) (by decide +kernel), List.forall_mem_cons.mpr ⟨gx_mem 428 (by decide +kernel) (by decide +kernel), List.forall_mem_cons.mpr ⟨gx_mem 84 (by decide +kernel) (by decide +kernel), List.forall_mem_cons.mpr ⟨cw_429, fun _ h => absurd h List.not_mem_nil⟩⟩⟩⟩) (by decide +kernel) (by decide)), List.forall_mem_cons.mpr ⟨
  (gs_if_ne dX11_read_5 rfl), List.forall_mem_cons.mpr ⟨
  (gs_ldc2 dX11_read_8 (gx_mem 797 (by decide +kernel) (by decide +kernel))), List.forall_mem_cons.mpr ⟨
  (gs_rl dX11_read_11), List.forall_mem_cons.mpr ⟨
  (gs_aload_n dX11_read_12 rfl), List.forall_mem_cons.mpr ⟨
  (gs_gf (ref := "GriefCranes") dX11_read_13 (gx_mem 387 (by decide +kernel) (by decide +kernel)) (Or.inl rfl) gf_11_16), List.forall_mem_cons.mpr ⟨
  (gs_iload_n dX11_read_16 rfl), List.forall_mem_cons.mpr ⟨
  (gs_aaload (by decide) dX11_read_17), List.forall_mem_cons.mpr ⟨
  (gs_astore_n dX11_read_18 rfl), List.forall_mem_cons.mpr ⟨
  (gs_iload_n dX11_read_19 rfl), List.forall_mem_cons.mpr ⟨
  (gs_if_lt dX11_read_20 rfl), List.forall_mem_cons.mpr ⟨
  (gs_iload_n dX11_read_23 rfl), List.forall_mem_cons.mpr ⟨
  (gs_aload_n dX11_read_24 rfl), List.forall_mem_cons.mpr ⟨
  (gs_gf (ref := "GriefCranes$Tape") dX11_read_25 (gx_mem 190 (by decide +kernel) (by decide +kernel)) (Or.inl rfl) gf_8_1), List.forall_mem_cons.mpr ⟨
  (gs_icmp_lt dX11_read_28 rfl), List.forall_mem_cons.mpr ⟨
  (gs_ldc2 dX11_read_31 (gx_mem 797 (by decide +kernel) (by decide +kernel))), List.forall_mem_cons.mpr ⟨
  (gs_goto dX11_read_34 rfl), List.forall_mem_cons.mpr ⟨
  (gs_aload_n dX11_read_37 rfl), List.forall_mem_cons.mpr ⟨
  (gs_gf (ref := "GriefCranes$Tape") dX11_read_38 (gx_mem 192 (by decide +kernel) (by decide +kernel)) (Or.inl rfl) gf_8_2), List.forall_mem_cons.mpr ⟨
  (gs_iload_n dX11_read_41 rfl), List.forall_mem_cons.mpr ⟨
  (gs_laload dX11_read_42), List.forall_mem_cons.mpr ⟨
  (gs_rl dX11_read_43), fun _ h => absurd h List.not_mem_nil⟩⟩⟩⟩⟩⟩⟩⟩⟩⟩⟩⟩⟩⟩⟩⟩⟩⟩⟩⟩⟩⟩⟩⟩
theorem kt_X11_read (g : gx_T) : ∀ q ∈ k_X11_read, gx_E g gc_md RX11 cX11_read 4 (some .long) "read" q.1 q.2 := kt_X11_read_0 g
set_option maxRecDepth 20000 in
theorem dX11_shift_0 : decode cX11_shift 0 = .ok (.iload_n 1, 1) := by decide +kernel
set_option maxRecDepth 20000 in
theorem dX11_shift_1 : decode cX11_shift 1 = .ok (.iconst 5, 1) := by decide +kernel
set_option maxRecDepth 20000 in
theorem dX11_shift_2 : decode cX11_shift 2 = .ok (.invokestatic 108, 3) := by decide +kernel
set_option maxRecDepth 20000 in
theorem dX11_shift_5 : decode cX11_shift 5 = .ok (.ifCond .eq 11, 3) := by decide +kernel
set_option maxRecDepth 20000 in
theorem dX11_shift_8 : decode cX11_shift 8 = .ok (.iload_n 3, 1) := by decide +kernel
set_option maxRecDepth 20000 in
theorem dX11_shift_9 : decode cX11_shift 9 = .ok (.iconst 5, 1) := by decide +kernel
set_option maxRecDepth 20000 in
theorem dX11_shift_10 : decode cX11_shift 10 = .ok (.invokestatic 108, 3) := by decide +kernel
set_option maxRecDepth 20000 in
theorem dX11_shift_13 : decode cX11_shift 13 = .ok (.ifCond .ne 5, 3) := by decide +kernel
set_option maxRecDepth 20000 in
theorem dX11_shift_16 : decode cX11_shift 16 = .ok (.iconst (-1), 1) := by decide +kernel
set_option maxRecDepth 20000 in
theorem dX11_shift_17 : decode cX11_shift 17 = .ok (.ireturn, 1) := by decide +kernel
set_option maxRecDepth 20000 in
theorem dX11_shift_18 : decode cX11_shift 18 = .ok (.aload_n 0, 1) := by decide +kernel
set_option maxRecDepth 20000 in
theorem dX11_shift_19 : decode cX11_shift 19 = .ok (.getfield 62, 3) := by decide +kernel
set_option maxRecDepth 20000 in
theorem dX11_shift_22 : decode cX11_shift 22 = .ok (.iload_n 1, 1) := by decide +kernel
set_option maxRecDepth 20000 in
theorem dX11_shift_23 : decode cX11_shift 23 = .ok (.aaload, 1) := by decide +kernel
set_option maxRecDepth 20000 in
theorem dX11_shift_24 : decode cX11_shift 24 = .ok (.astore 6, 2) := by decide +kernel
set_option maxRecDepth 20000 in
theorem dX11_shift_26 : decode cX11_shift 26 = .ok (.aload_n 0, 1) := by decide +kernel
set_option maxRecDepth 20000 in
theorem dX11_shift_27 : decode cX11_shift 27 = .ok (.getfield 62, 3) := by decide +kernel
set_option maxRecDepth 20000 in
theorem dX11_shift_30 : decode cX11_shift 30 = .ok (.iload_n 3, 1) := by decide +kernel
set_option maxRecDepth 20000 in
theorem dX11_shift_31 : decode cX11_shift 31 = .ok (.aaload, 1) := by decide +kernel
set_option maxRecDepth 20000 in
theorem dX11_shift_32 : decode cX11_shift 32 = .ok (.astore 7, 2) := by decide +kernel
set_option maxRecDepth 20000 in
theorem dX11_shift_34 : decode cX11_shift 34 = .ok (.aload 6, 2) := by decide +kernel
set_option maxRecDepth 20000 in
theorem dX11_shift_36 : decode cX11_shift 36 = .ok (.getfield 250, 3) := by decide +kernel
set_option maxRecDepth 20000 in
theorem dX11_shift_39 : decode cX11_shift 39 = .ok (.iconst (-1), 1) := by decide +kernel
set_option maxRecDepth 20000 in
theorem dX11_shift_40 : decode cX11_shift 40 = .ok (.if_icmp .eq 12, 3) := by decide +kernel
set_option maxRecDepth 20000 in
theorem dX11_shift_43 : decode cX11_shift 43 = .ok (.aload 7, 2) := by decide +kernel
set_option maxRecDepth 20000 in
theorem dX11_shift_45 : decode cX11_shift 45 = .ok (.getfield 250, 3) := by decide +kernel
set_option maxRecDepth 20000 in
theorem dX11_shift_48 : decode cX11_shift 48 = .ok (.iconst (-1), 1) := by decide +kernel
set_option maxRecDepth 20000 in
theorem dX11_shift_49 : decode cX11_shift 49 = .ok (.if_icmp .ne 6, 3) := by decide +kernel
set_option maxRecDepth 20000 in
theorem dX11_shift_52 : decode cX11_shift 52 = .ok (.bipush (-11), 2) := by decide +kernel
set_option maxRecDepth 20000 in
theorem dX11_shift_54 : decode cX11_shift 54 = .ok (.ireturn, 1) := by decide +kernel
set_option maxRecDepth 20000 in
theorem dX11_shift_55 : decode cX11_shift 55 = .ok (.aload 6, 2) := by decide +kernel
set_option maxRecDepth 20000 in
theorem dX11_shift_57 : decode cX11_shift 57 = .ok (.getfield 250, 3) := by decide +kernel
set_option maxRecDepth 20000 in
theorem dX11_shift_60 : decode cX11_shift 60 = .ok (.aload 7, 2) := by decide +kernel
set_option maxRecDepth 20000 in
theorem dX11_shift_62 : decode cX11_shift 62 = .ok (.getfield 250, 3) := by decide +kernel
set_option maxRecDepth 20000 in
theorem dX11_shift_65 : decode cX11_shift 65 = .ok (.if_icmp .eq 6, 3) := by decide +kernel
set_option maxRecDepth 20000 in
theorem dX11_shift_68 : decode cX11_shift 68 = .ok (.bipush (-12), 2) := by decide +kernel
set_option maxRecDepth 20000 in
theorem dX11_shift_70 : decode cX11_shift 70 = .ok (.ireturn, 1) := by decide +kernel
set_option maxRecDepth 20000 in
theorem dX11_shift_71 : decode cX11_shift 71 = .ok (.iload 5, 2) := by decide +kernel
set_option maxRecDepth 20000 in
theorem dX11_shift_73 : decode cX11_shift 73 = .ok (.ifCond .lt 12, 3) := by decide +kernel
set_option maxRecDepth 20000 in
theorem dX11_shift_76 : decode cX11_shift 76 = .ok (.iload_n 2, 1) := by decide +kernel
set_option maxRecDepth 20000 in
theorem dX11_shift_77 : decode cX11_shift 77 = .ok (.ifCond .lt 8, 3) := by decide +kernel
set_option maxRecDepth 20000 in
theorem dX11_shift_80 : decode cX11_shift 80 = .ok (.iload 4, 2) := by decide +kernel
set_option maxRecDepth 20000 in
theorem dX11_shift_82 : decode cX11_shift 82 = .ok (.ifCond .ge 6, 3) := by decide +kernel
set_option maxRecDepth 20000 in
theorem dX11_shift_85 : decode cX11_shift 85 = .ok (.bipush (-13), 2) := by decide +kernel
set_option maxRecDepth 20000 in
theorem dX11_shift_87 : decode cX11_shift 87 = .ok (.ireturn, 1) := by decide +kernel
set_option maxRecDepth 20000 in
theorem dX11_shift_88 : decode cX11_shift 88 = .ok (.iload 5, 2) := by decide +kernel
set_option maxRecDepth 20000 in
theorem dX11_shift_90 : decode cX11_shift 90 = .ok (.aload 6, 2) := by decide +kernel
set_option maxRecDepth 20000 in
theorem dX11_shift_92 : decode cX11_shift 92 = .ok (.getfield 253, 3) := by decide +kernel
set_option maxRecDepth 20000 in
theorem dX11_shift_95 : decode cX11_shift 95 = .ok (.iload_n 2, 1) := by decide +kernel
set_option maxRecDepth 20000 in
theorem dX11_shift_96 : decode cX11_shift 96 = .ok (.isub, 1) := by decide +kernel
set_option maxRecDepth 20000 in
theorem dX11_shift_97 : decode cX11_shift 97 = .ok (.if_icmp .gt 16, 3) := by decide +kernel
set_option maxRecDepth 20000 in
theorem dX11_shift_100 : decode cX11_shift 100 = .ok (.iload 5, 2) := by decide +kernel
set_option maxRecDepth 20000 in
theorem dX11_shift_102 : decode cX11_shift 102 = .ok (.aload 7, 2) := by decide +kernel
set_option maxRecDepth 20000 in
theorem dX11_shift_104 : decode cX11_shift 104 = .ok (.getfield 253, 3) := by decide +kernel
set_option maxRecDepth 20000 in
theorem dX11_shift_107 : decode cX11_shift 107 = .ok (.iload 4, 2) := by decide +kernel
set_option maxRecDepth 20000 in
theorem dX11_shift_109 : decode cX11_shift 109 = .ok (.isub, 1) := by decide +kernel
set_option maxRecDepth 20000 in
theorem dX11_shift_110 : decode cX11_shift 110 = .ok (.if_icmp .le 6, 3) := by decide +kernel
set_option maxRecDepth 20000 in
theorem dX11_shift_113 : decode cX11_shift 113 = .ok (.bipush (-13), 2) := by decide +kernel
set_option maxRecDepth 20000 in
theorem dX11_shift_115 : decode cX11_shift 115 = .ok (.ireturn, 1) := by decide +kernel
set_option maxRecDepth 20000 in
theorem dX11_shift_116 : decode cX11_shift 116 = .ok (.aload 6, 2) := by decide +kernel
set_option maxRecDepth 20000 in
theorem dX11_shift_118 : decode cX11_shift 118 = .ok (.getfield 256, 3) := by decide +kernel
set_option maxRecDepth 20000 in
theorem dX11_shift_121 : decode cX11_shift 121 = .ok (.iload_n 2, 1) := by decide +kernel
set_option maxRecDepth 20000 in
theorem dX11_shift_122 : decode cX11_shift 122 = .ok (.aload 7, 2) := by decide +kernel
set_option maxRecDepth 20000 in
theorem dX11_shift_124 : decode cX11_shift 124 = .ok (.getfield 256, 3) := by decide +kernel
set_option maxRecDepth 20000 in
theorem dX11_shift_127 : decode cX11_shift 127 = .ok (.iload 4, 2) := by decide +kernel
set_option maxRecDepth 20000 in
theorem dX11_shift_129 : decode cX11_shift 129 = .ok (.iload 5, 2) := by decide +kernel
set_option maxRecDepth 20000 in
theorem dX11_shift_131 : decode cX11_shift 131 = .ok (.invokestatic 290, 3) := by decide +kernel
set_option maxRecDepth 20000 in
theorem dX11_shift_134 : decode cX11_shift 134 = .ok (.iload 5, 2) := by decide +kernel
set_option maxRecDepth 20000 in
theorem dX11_shift_136 : decode cX11_shift 136 = .ok (.ireturn, 1) := by decide +kernel
set_option maxRecDepth 20000 in
theorem kt_X11_shift_0 (g : gx_T) : ∀ q ∈ k_X11_shift_0, gx_E g gc_md RX11 cX11_shift 8 (some .int) "shift" q.1 q.2 := List.forall_mem_cons.mpr ⟨(gs_iload_n dX11_shift_0 rfl), List.forall_mem_cons.mpr ⟨
  (gs_iconst dX11_shift_1 rfl), List.forall_mem_cons.mpr ⟨
  (gs_cs dX11_shift_2 (md_98) (List.forall_mem_cons.mpr ⟨gx_mem 427 (by decide +kernel) (by decide +kernel), List.forall_mem_cons.mpr ⟨gx_mem 428 (by decide +kernel) (by decide +kernel), List.forall_mem_cons.mpr ⟨gx_mem 84 (by decide +kernel) (by decide +kernel), List.forall_mem_cons.mpr ⟨cw_429, fun _ h => absurd h List.not_mem_nil⟩⟩⟩⟩) (by decide +kernel) (by decide)), List.forall_mem_cons.mpr ⟨
  (gs_if_eq dX11_shift_5 rfl), List.forall_mem_cons.mpr ⟨
  (gs_iload_n dX11_shift_8 rfl), List.forall_mem_cons.mpr ⟨
  (gs_iconst dX11_shift_9 rfl), List.forall_mem_cons.mpr ⟨
  (gs_cs dX11_shift_10 (md_98) (List.forall_mem_cons.mpr ⟨gx_mem 427 (by decide +kernel) (by decide +kernel), List.forall_mem_cons.mpr ⟨gx_mem 428 (by decide +kernel) (by decide +kernel), List.forall_mem_cons.mpr ⟨gx_mem 84 (by decide +kernel) (by decide +kernel), List.forall_mem_cons.mpr ⟨cw_429, fun _ h => absurd h List.not_mem_nil⟩⟩⟩⟩) (by decide +kernel) (by decide)), List.forall_mem_cons.mpr ⟨
  (gs_if_ne dX11_shift_13 rfl), List.forall_mem_cons.mpr ⟨
  (gs_iconst dX11_shift_16 rfl), List.forall_mem_cons.mpr ⟨
  (gs_ri dX11_shift_17), List.forall_mem_cons.mpr ⟨
  (gs_aload_n dX11_shift_18 rfl), List.forall_mem_cons.mpr ⟨
  (gs_gf (ref := "GriefCranes") dX11_shift_19 (gx_mem 387 (by decide +kernel) (by decide +kernel)) (Or.inl rfl) gf_11_16), List.forall_mem_cons.mpr ⟨
  (gs_iload_n dX11_shift_22 rfl), List.forall_mem_cons.mpr ⟨
  (gs_aaload (by decide) dX11_shift_23), List.forall_mem_cons.mpr ⟨
  (gs_astore dX11_shift_24), List.forall_mem_cons.mpr ⟨
  (gs_aload_n dX11_shift_26 rfl), List.forall_mem_cons.mpr ⟨
  (gs_gf (ref := "GriefCranes") dX11_shift_27 (gx_mem 387 (by decide +kernel) (by decide +kernel)) (Or.inl rfl) gf_11_16), List.forall_mem_cons.mpr ⟨
  (gs_iload_n dX11_shift_30 rfl), List.forall_mem_cons.mpr ⟨
  (gs_aaload (by decide) dX11_shift_31), List.forall_mem_cons.mpr ⟨
  (gs_astore dX11_shift_32), List.forall_mem_cons.mpr ⟨
  (gs_aload dX11_shift_34), List.forall_mem_cons.mpr ⟨
  (gs_gf (ref := "GriefCranes$Tape") dX11_shift_36 (gx_mem 188 (by decide +kernel) (by decide +kernel)) (Or.inl rfl) gf_8_0), List.forall_mem_cons.mpr ⟨
  (gs_iconst dX11_shift_39 rfl), List.forall_mem_cons.mpr ⟨
  (gs_icmp_eq dX11_shift_40 rfl), List.forall_mem_cons.mpr ⟨
  (gs_aload dX11_shift_43), List.forall_mem_cons.mpr ⟨
  (gs_gf (ref := "GriefCranes$Tape") dX11_shift_45 (gx_mem 188 (by decide +kernel) (by decide +kernel)) (Or.inl rfl) gf_8_0), List.forall_mem_cons.mpr ⟨
  (gs_iconst dX11_shift_48 rfl), List.forall_mem_cons.mpr ⟨
  (gs_icmp_ne dX11_shift_49 rfl), List.forall_mem_cons.mpr ⟨
  (gs_bipush dX11_shift_52 rfl), List.forall_mem_cons.mpr ⟨
  (gs_ri dX11_shift_54), List.forall_mem_cons.mpr ⟨
  (gs_aload dX11_shift_55), List.forall_mem_cons.mpr ⟨
  (gs_gf (ref := "GriefCranes$Tape") dX11_shift_57 (gx_mem 188 (by decide +kernel) (by decide +kernel)) (Or.inl rfl) gf_8_0), fun _ h => absurd h List.not_mem_nil⟩⟩⟩⟩⟩⟩⟩⟩⟩⟩⟩⟩⟩⟩⟩⟩⟩⟩⟩⟩⟩⟩⟩⟩⟩⟩⟩⟩⟩⟩⟩⟩
set_option maxRecDepth 20000 in
theorem kt_X11_shift_1 (g : gx_T) : ∀ q ∈ k_X11_shift_1, gx_E g gc_md RX11 cX11_shift 8 (some .int) "shift" q.1 q.2 := List.forall_mem_cons.mpr ⟨(gs_aload dX11_shift_60), List.forall_mem_cons.mpr ⟨
  (gs_gf (ref := "GriefCranes$Tape") dX11_shift_62 (gx_mem 188 (by decide +kernel) (by decide +kernel)) (Or.inl rfl) gf_8_0), List.forall_mem_cons.mpr ⟨
  (gs_icmp_eq dX11_shift_65 rfl), List.forall_mem_cons.mpr ⟨
  (gs_bipush dX11_shift_68 rfl), List.forall_mem_cons.mpr ⟨
  (gs_ri dX11_shift_70), List.forall_mem_cons.mpr ⟨
  (gs_iload dX11_shift_71), List.forall_mem_cons.mpr ⟨
  (gs_if_lt dX11_shift_73 rfl), List.forall_mem_cons.mpr ⟨
  (gs_iload_n dX11_shift_76 rfl), List.forall_mem_cons.mpr ⟨
  (gs_if_lt dX11_shift_77 rfl), List.forall_mem_cons.mpr ⟨
  (gs_iload dX11_shift_80), List.forall_mem_cons.mpr ⟨
  (gs_if_ge dX11_shift_82 rfl), List.forall_mem_cons.mpr ⟨
  (gs_bipush dX11_shift_85 rfl), List.forall_mem_cons.mpr ⟨
  (gs_ri dX11_shift_87), List.forall_mem_cons.mpr ⟨
  (gs_iload dX11_shift_88), List.forall_mem_cons.mpr ⟨
  (gs_aload dX11_shift_90), List.forall_mem_cons.mpr ⟨
  (gs_gf (ref := "GriefCranes$Tape") dX11_shift_92 (gx_mem 190 (by decide +kernel) (by decide +kernel)) (Or.inl rfl) gf_8_1), List.forall_mem_cons.mpr ⟨
  (gs_iload_n dX11_shift_95 rfl), List.forall_mem_cons.mpr ⟨
  (gs_isub dX11_shift_96), List.forall_mem_cons.mpr ⟨
  (gs_icmp_gt dX11_shift_97 rfl), List.forall_mem_cons.mpr ⟨
  (gs_iload dX11_shift_100), List.forall_mem_cons.mpr ⟨
  (gs_aload dX11_shift_102), List.forall_mem_cons.mpr ⟨
  (gs_gf (ref := "GriefCranes$Tape") dX11_shift_104 (gx_mem 190 (by decide +kernel) (by decide +kernel)) (Or.inl rfl) gf_8_1), List.forall_mem_cons.mpr ⟨
  (gs_iload dX11_shift_107), List.forall_mem_cons.mpr ⟨
  (gs_isub dX11_shift_109), List.forall_mem_cons.mpr ⟨
  (gs_icmp_le dX11_shift_110 rfl), List.forall_mem_cons.mpr ⟨
  (gs_bipush dX11_shift_113 rfl), List.forall_mem_cons.mpr ⟨
  (gs_ri dX11_shift_115), List.forall_mem_cons.mpr ⟨
  (gs_aload dX11_shift_116), List.forall_mem_cons.mpr ⟨
  (gs_gf (ref := "GriefCranes$Tape") dX11_shift_118 (gx_mem 192 (by decide +kernel) (by decide +kernel)) (Or.inl rfl) gf_8_2), List.forall_mem_cons.mpr ⟨
  (gs_iload_n dX11_shift_121 rfl), List.forall_mem_cons.mpr ⟨
  (gs_aload dX11_shift_122), List.forall_mem_cons.mpr ⟨
  (gs_gf (ref := "GriefCranes$Tape") dX11_shift_124 (gx_mem 192 (by decide +kernel) (by decide +kernel)) (Or.inl rfl) gf_8_2), fun _ h => absurd h List.not_mem_nil⟩⟩⟩⟩⟩⟩⟩⟩⟩⟩⟩⟩⟩⟩⟩⟩⟩⟩⟩⟩⟩⟩⟩⟩⟩⟩⟩⟩⟩⟩⟩⟩
set_option maxRecDepth 20000 in
theorem kt_X11_shift_2 (g : gx_T) : ∀ q ∈ k_X11_shift_2, gx_E g gc_md RX11 cX11_shift 8 (some .int) "shift" q.1 q.2 := List.forall_mem_cons.mpr ⟨(gs_iload dX11_shift_127), List.forall_mem_cons.mpr ⟨
  (gs_iload dX11_shift_129), List.forall_mem_cons.mpr ⟨
  (gs_cpL dX11_shift_131 (List.forall_mem_cons.mpr ⟨gx_mem 990 (by decide +kernel) (by decide +kernel), List.forall_mem_cons.mpr ⟨gx_mem 516 (by decide +kernel) (by decide +kernel), List.forall_mem_cons.mpr ⟨gx_mem 515 (by decide +kernel) (by decide +kernel), List.forall_mem_cons.mpr ⟨gx_mem 98 (by decide +kernel) (by decide +kernel), fun _ h => absurd h List.not_mem_nil⟩⟩⟩⟩)), List.forall_mem_cons.mpr ⟨
  (gs_iload dX11_shift_134), List.forall_mem_cons.mpr ⟨
  (gs_ri dX11_shift_136), fun _ h => absurd h List.not_mem_nil⟩⟩⟩⟩⟩
theorem kt_X11_shift (g : gx_T) : ∀ q ∈ k_X11_shift, gx_E g gc_md RX11 cX11_shift 8 (some .int) "shift" q.1 q.2 := List.forall_mem_append.mpr ⟨kt_X11_shift_0 g, List.forall_mem_append.mpr ⟨kt_X11_shift_1 g, kt_X11_shift_2 g⟩⟩
set_option maxRecDepth 20000 in
theorem dX11_within_0 : decode cX11_within 0 = .ok (.iload_n 0, 1) := by decide +kernel
set_option maxRecDepth 20000 in
theorem dX11_within_1 : decode cX11_within 1 = .ok (.ifCond .lt 12, 3) := by decide +kernel
set_option maxRecDepth 20000 in
theorem dX11_within_4 : decode cX11_within 4 = .ok (.iload_n 0, 1) := by decide +kernel
set_option maxRecDepth 20000 in
theorem dX11_within_5 : decode cX11_within 5 = .ok (.iload_n 1, 1) := by decide +kernel
set_option maxRecDepth 20000 in
theorem dX11_within_6 : decode cX11_within 6 = .ok (.if_icmp .gt 7, 3) := by decide +kernel
set_option maxRecDepth 20000 in
theorem dX11_within_9 : decode cX11_within 9 = .ok (.iconst 1, 1) := by decide +kernel
set_option maxRecDepth 20000 in
theorem dX11_within_10 : decode cX11_within 10 = .ok (.goto 4, 3) := by decide +kernel
set_option maxRecDepth 20000 in
theorem dX11_within_13 : decode cX11_within 13 = .ok (.iconst 0, 1) := by decide +kernel
set_option maxRecDepth 20000 in
theorem dX11_within_14 : decode cX11_within 14 = .ok (.ireturn, 1) := by decide +kernel
set_option maxRecDepth 20000 in
theorem kt_X11_within_0 (g : gx_T) : ∀ q ∈ k_X11_within_0, gx_E g gc_md RX11 cX11_within 2 (some .boolean) "within" q.1 q.2 := List.forall_mem_cons.mpr ⟨(gs_iload_n dX11_within_0 rfl), List.forall_mem_cons.mpr ⟨
  (gs_if_lt dX11_within_1 rfl), List.forall_mem_cons.mpr ⟨
  (gs_iload_n dX11_within_4 rfl), List.forall_mem_cons.mpr ⟨
  (gs_iload_n dX11_within_5 rfl), List.forall_mem_cons.mpr ⟨
  (gs_icmp_gt dX11_within_6 rfl), List.forall_mem_cons.mpr ⟨
  (gs_iconst dX11_within_9 rfl), List.forall_mem_cons.mpr ⟨
  (gs_goto dX11_within_10 rfl), List.forall_mem_cons.mpr ⟨
  (gs_iconst dX11_within_13 rfl), List.forall_mem_cons.mpr ⟨
  (gs_rn dX11_within_14 (by decide)), fun _ h => absurd h List.not_mem_nil⟩⟩⟩⟩⟩⟩⟩⟩⟩
theorem kt_X11_within (g : gx_T) : ∀ q ∈ k_X11_within, gx_E g gc_md RX11 cX11_within 2 (some .boolean) "within" q.1 q.2 := kt_X11_within_0 g
set_option maxRecDepth 20000 in
theorem dX11_orNotAny_0 : decode cX11_orNotAny 0 = .ok (.iload_n 0, 1) := by decide +kernel
set_option maxRecDepth 20000 in
theorem dX11_orNotAny_1 : decode cX11_orNotAny 1 = .ok (.iconst (-1), 1) := by decide +kernel
set_option maxRecDepth 20000 in
theorem dX11_orNotAny_2 : decode cX11_orNotAny 2 = .ok (.if_icmp .ne 8, 3) := by decide +kernel
set_option maxRecDepth 20000 in
theorem dX11_orNotAny_5 : decode cX11_orNotAny 5 = .ok (.bipush (-5), 2) := by decide +kernel
set_option maxRecDepth 20000 in
theorem dX11_orNotAny_7 : decode cX11_orNotAny 7 = .ok (.goto 4, 3) := by decide +kernel
set_option maxRecDepth 20000 in
theorem dX11_orNotAny_10 : decode cX11_orNotAny 10 = .ok (.iload_n 0, 1) := by decide +kernel
set_option maxRecDepth 20000 in
theorem dX11_orNotAny_11 : decode cX11_orNotAny 11 = .ok (.ireturn, 1) := by decide +kernel
set_option maxRecDepth 20000 in
theorem kt_X11_orNotAny_0 (g : gx_T) : ∀ q ∈ k_X11_orNotAny_0, gx_E g gc_md RX11 cX11_orNotAny 1 (some .int) "orNotAny" q.1 q.2 := List.forall_mem_cons.mpr ⟨(gs_iload_n dX11_orNotAny_0 rfl), List.forall_mem_cons.mpr ⟨
  (gs_iconst dX11_orNotAny_1 rfl), List.forall_mem_cons.mpr ⟨
  (gs_icmp_ne dX11_orNotAny_2 rfl), List.forall_mem_cons.mpr ⟨
  (gs_bipush dX11_orNotAny_5 rfl), List.forall_mem_cons.mpr ⟨
  (gs_goto dX11_orNotAny_7 rfl), List.forall_mem_cons.mpr ⟨
  (gs_iload_n dX11_orNotAny_10 rfl), List.forall_mem_cons.mpr ⟨
  (gs_ri dX11_orNotAny_11), fun _ h => absurd h List.not_mem_nil⟩⟩⟩⟩⟩⟩⟩
theorem kt_X11_orNotAny (g : gx_T) : ∀ q ∈ k_X11_orNotAny, gx_E g gc_md RX11 cX11_orNotAny 1 (some .int) "orNotAny" q.1 q.2 := kt_X11_orNotAny_0 g
set_option maxRecDepth 20000 in
theorem dX11_lowestTerms_0 : decode cX11_lowestTerms 0 = .ok (.iconst 1, 1) := by decide +kernel
set_option maxRecDepth 20000 in
theorem dX11_lowestTerms_1 : decode cX11_lowestTerms 1 = .ok (.istore_n 3, 1) := by decide +kernel
set_option maxRecDepth 20000 in
theorem dX11_lowestTerms_2 : decode cX11_lowestTerms 2 = .ok (.iconst 2, 1) := by decide +kernel
set_option maxRecDepth 20000 in
theorem dX11_lowestTerms_3 : decode cX11_lowestTerms 3 = .ok (.istore 4, 2) := by decide +kernel
set_option maxRecDepth 20000 in
theorem dX11_lowestTerms_5 : decode cX11_lowestTerms 5 = .ok (.iload 4, 2) := by decide +kernel
set_option maxRecDepth 20000 in
theorem dX11_lowestTerms_7 : decode cX11_lowestTerms 7 = .ok (.iload_n 1, 1) := by decide +kernel
set_option maxRecDepth 20000 in
theorem dX11_lowestTerms_8 : decode cX11_lowestTerms 8 = .ok (.if_icmp .gt 26, 3) := by decide +kernel
set_option maxRecDepth 20000 in
theorem dX11_lowestTerms_11 : decode cX11_lowestTerms 11 = .ok (.iload_n 0, 1) := by decide +kernel
set_option maxRecDepth 20000 in
theorem dX11_lowestTerms_12 : decode cX11_lowestTerms 12 = .ok (.iload 4, 2) := by decide +kernel
set_option maxRecDepth 20000 in
theorem dX11_lowestTerms_14 : decode cX11_lowestTerms 14 = .ok (.irem, 1) := by decide +kernel
set_option maxRecDepth 20000 in
theorem dX11_lowestTerms_15 : decode cX11_lowestTerms 15 = .ok (.ifCond .ne 13, 3) := by decide +kernel
set_option maxRecDepth 20000 in
theorem dX11_lowestTerms_18 : decode cX11_lowestTerms 18 = .ok (.iload_n 1, 1) := by decide +kernel
set_option maxRecDepth 20000 in
theorem dX11_lowestTerms_19 : decode cX11_lowestTerms 19 = .ok (.iload 4, 2) := by decide +kernel
set_option maxRecDepth 20000 in
theorem dX11_lowestTerms_21 : decode cX11_lowestTerms 21 = .ok (.irem, 1) := by decide +kernel
set_option maxRecDepth 20000 in
theorem dX11_lowestTerms_22 : decode cX11_lowestTerms 22 = .ok (.ifCond .ne 6, 3) := by decide +kernel
set_option maxRecDepth 20000 in
theorem dX11_lowestTerms_25 : decode cX11_lowestTerms 25 = .ok (.iload 4, 2) := by decide +kernel
set_option maxRecDepth 20000 in
theorem dX11_lowestTerms_27 : decode cX11_lowestTerms 27 = .ok (.istore_n 3, 1) := by decide +kernel
set_option maxRecDepth 20000 in
theorem dX11_lowestTerms_28 : decode cX11_lowestTerms 28 = .ok (.iinc 4 1, 3) := by decide +kernel
set_option maxRecDepth 20000 in
theorem dX11_lowestTerms_31 : decode cX11_lowestTerms 31 = .ok (.goto (-26), 3) := by decide +kernel
set_option maxRecDepth 20000 in
theorem dX11_lowestTerms_34 : decode cX11_lowestTerms 34 = .ok (.iload_n 2, 1) := by decide +kernel
set_option maxRecDepth 20000 in
theorem dX11_lowestTerms_35 : decode cX11_lowestTerms 35 = .ok (.ifCond .ne 10, 3) := by decide +kernel
set_option maxRecDepth 20000 in
theorem dX11_lowestTerms_38 : decode cX11_lowestTerms 38 = .ok (.iload_n 0, 1) := by decide +kernel
set_option maxRecDepth 20000 in
theorem dX11_lowestTerms_39 : decode cX11_lowestTerms 39 = .ok (.iload_n 3, 1) := by decide +kernel
set_option maxRecDepth 20000 in
theorem dX11_lowestTerms_40 : decode cX11_lowestTerms 40 = .ok (.idiv, 1) := by decide +kernel
set_option maxRecDepth 20000 in
theorem dX11_lowestTerms_41 : decode cX11_lowestTerms 41 = .ok (.i2l, 1) := by decide +kernel
set_option maxRecDepth 20000 in
theorem dX11_lowestTerms_42 : decode cX11_lowestTerms 42 = .ok (.goto 7, 3) := by decide +kernel
set_option maxRecDepth 20000 in
theorem dX11_lowestTerms_45 : decode cX11_lowestTerms 45 = .ok (.iload_n 1, 1) := by decide +kernel
set_option maxRecDepth 20000 in
theorem dX11_lowestTerms_46 : decode cX11_lowestTerms 46 = .ok (.iload_n 3, 1) := by decide +kernel
set_option maxRecDepth 20000 in
theorem dX11_lowestTerms_47 : decode cX11_lowestTerms 47 = .ok (.idiv, 1) := by decide +kernel
set_option maxRecDepth 20000 in
theorem dX11_lowestTerms_48 : decode cX11_lowestTerms 48 = .ok (.i2l, 1) := by decide +kernel
set_option maxRecDepth 20000 in
theorem dX11_lowestTerms_49 : decode cX11_lowestTerms 49 = .ok (.lreturn, 1) := by decide +kernel
set_option maxRecDepth 20000 in
theorem kt_X11_lowestTerms_0 (g : gx_T) : ∀ q ∈ k_X11_lowestTerms_0, gx_E g gc_md RX11 cX11_lowestTerms 5 (some .long) "lowestTerms" q.1 q.2 := List.forall_mem_cons.mpr ⟨(gs_iconst dX11_lowestTerms_0 rfl), List.forall_mem_cons.mpr ⟨
  (gs_istore_n dX11_lowestTerms_1 rfl), List.forall_mem_cons.mpr ⟨
  (gs_iconst dX11_lowestTerms_2 rfl), List.forall_mem_cons.mpr ⟨
  (gs_istore dX11_lowestTerms_3), List.forall_mem_cons.mpr ⟨
  (gs_iload dX11_lowestTerms_5), List.forall_mem_cons.mpr ⟨
  (gs_iload_n dX11_lowestTerms_7 rfl), List.forall_mem_cons.mpr ⟨
  (gs_icmp_gt dX11_lowestTerms_8 rfl), List.forall_mem_cons.mpr ⟨
  (gs_iload_n dX11_lowestTerms_11 rfl), List.forall_mem_cons.mpr ⟨
  (gs_iload dX11_lowestTerms_12), List.forall_mem_cons.mpr ⟨
  (gs_irem dX11_lowestTerms_14), List.forall_mem_cons.mpr ⟨
  (gs_if_ne dX11_lowestTerms_15 rfl), List.forall_mem_cons.mpr ⟨
  (gs_iload_n dX11_lowestTerms_18 rfl), List.forall_mem_cons.mpr ⟨
  (gs_iload dX11_lowestTerms_19), List.forall_mem_cons.mpr ⟨
  (gs_irem dX11_lowestTerms_21), List.forall_mem_cons.mpr ⟨
  (gs_if_ne dX11_lowestTerms_22 rfl), List.forall_mem_cons.mpr ⟨
  (gs_iload dX11_lowestTerms_25), List.forall_mem_cons.mpr ⟨
  (gs_istore_n dX11_lowestTerms_27 rfl), List.forall_mem_cons.mpr ⟨
  (gs_iinc dX11_lowestTerms_28), List.forall_mem_cons.mpr ⟨
  (gs_goto dX11_lowestTerms_31 rfl), List.forall_mem_cons.mpr ⟨
  (gs_iload_n dX11_lowestTerms_34 rfl), List.forall_mem_cons.mpr ⟨
  (gs_if_ne dX11_lowestTerms_35 rfl), List.forall_mem_cons.mpr ⟨
  (gs_iload_n dX11_lowestTerms_38 rfl), List.forall_mem_cons.mpr ⟨
  (gs_iload_n dX11_lowestTerms_39 rfl), List.forall_mem_cons.mpr ⟨
  (gs_idiv dX11_lowestTerms_40), List.forall_mem_cons.mpr ⟨
  (gs_i2l dX11_lowestTerms_41), List.forall_mem_cons.mpr ⟨
  (gs_goto dX11_lowestTerms_42 rfl), List.forall_mem_cons.mpr ⟨
  (gs_iload_n dX11_lowestTerms_45 rfl), List.forall_mem_cons.mpr ⟨
  (gs_iload_n dX11_lowestTerms_46 rfl), List.forall_mem_cons.mpr ⟨
  (gs_idiv dX11_lowestTerms_47), List.forall_mem_cons.mpr ⟨
  (gs_i2l dX11_lowestTerms_48), List.forall_mem_cons.mpr ⟨
  (gs_rl dX11_lowestTerms_49), fun _ h => absurd h List.not_mem_nil⟩⟩⟩⟩⟩⟩⟩⟩⟩⟩⟩⟩⟩⟩⟩⟩⟩⟩⟩⟩⟩⟩⟩⟩⟩⟩⟩⟩⟩⟩⟩
theorem kt_X11_lowestTerms (g : gx_T) : ∀ q ∈ k_X11_lowestTerms, gx_E g gc_md RX11 cX11_lowestTerms 5 (some .long) "lowestTerms" q.1 q.2 := kt_X11_lowestTerms_0 g
set_option maxRecDepth 20000 in
theorem dX11_hoursUntilLaid_0 : decode cX11_hoursUntilLaid 0 = .ok (.iconst 0, 1) := by decide +kernel
set_option maxRecDepth 20000 in
theorem dX11_hoursUntilLaid_1 : decode cX11_hoursUntilLaid 1 = .ok (.istore_n 2, 1) := by decide +kernel
set_option maxRecDepth 20000 in
theorem dX11_hoursUntilLaid_2 : decode cX11_hoursUntilLaid 2 = .ok (.iload_n 2, 1) := by decide +kernel
set_option maxRecDepth 20000 in
theorem dX11_hoursUntilLaid_3 : decode cX11_hoursUntilLaid 3 = .ok (.bipush 60, 2) := by decide +kernel
set_option maxRecDepth 20000 in
theorem dX11_hoursUntilLaid_5 : decode cX11_hoursUntilLaid 5 = .ok (.if_icmp .gt 46, 3) := by decide +kernel
set_option maxRecDepth 20000 in
theorem dX11_hoursUntilLaid_8 : decode cX11_hoursUntilLaid 8 = .ok (.aload_n 0, 1) := by decide +kernel
set_option maxRecDepth 20000 in
theorem dX11_hoursUntilLaid_9 : decode cX11_hoursUntilLaid 9 = .ok (.getfield 102, 3) := by decide +kernel
set_option maxRecDepth 20000 in
theorem dX11_hoursUntilLaid_12 : decode cX11_hoursUntilLaid 12 = .ok (.iload_n 1, 1) := by decide +kernel
set_option maxRecDepth 20000 in
theorem dX11_hoursUntilLaid_13 : decode cX11_hoursUntilLaid 13 = .ok (.iconst 2, 1) := by decide +kernel
set_option maxRecDepth 20000 in
theorem dX11_hoursUntilLaid_14 : decode cX11_hoursUntilLaid 14 = .ok (.invokevirtual 230, 3) := by decide +kernel
set_option maxRecDepth 20000 in
theorem dX11_hoursUntilLaid_17 : decode cX11_hoursUntilLaid 17 = .ok (.ifCond .eq 5, 3) := by decide +kernel
set_option maxRecDepth 20000 in
theorem dX11_hoursUntilLaid_20 : decode cX11_hoursUntilLaid 20 = .ok (.iload_n 2, 1) := by decide +kernel
set_option maxRecDepth 20000 in
theorem dX11_hoursUntilLaid_21 : decode cX11_hoursUntilLaid 21 = .ok (.ireturn, 1) := by decide +kernel
set_option maxRecDepth 20000 in
theorem dX11_hoursUntilLaid_22 : decode cX11_hoursUntilLaid 22 = .ok (.aload_n 0, 1) := by decide +kernel
set_option maxRecDepth 20000 in
theorem dX11_hoursUntilLaid_23 : decode cX11_hoursUntilLaid 23 = .ok (.getfield 102, 3) := by decide +kernel
set_option maxRecDepth 20000 in
theorem dX11_hoursUntilLaid_26 : decode cX11_hoursUntilLaid 26 = .ok (.iload_n 1, 1) := by decide +kernel
set_option maxRecDepth 20000 in
theorem dX11_hoursUntilLaid_27 : decode cX11_hoursUntilLaid 27 = .ok (.iconst 3, 1) := by decide +kernel
set_option maxRecDepth 20000 in
theorem dX11_hoursUntilLaid_28 : decode cX11_hoursUntilLaid 28 = .ok (.invokevirtual 230, 3) := by decide +kernel
set_option maxRecDepth 20000 in
theorem dX11_hoursUntilLaid_31 : decode cX11_hoursUntilLaid 31 = .ok (.ifCond .eq 6, 3) := by decide +kernel
set_option maxRecDepth 20000 in
theorem dX11_hoursUntilLaid_34 : decode cX11_hoursUntilLaid 34 = .ok (.bipush (-5), 2) := by decide +kernel
set_option maxRecDepth 20000 in
theorem dX11_hoursUntilLaid_36 : decode cX11_hoursUntilLaid 36 = .ok (.ireturn, 1) := by decide +kernel
set_option maxRecDepth 20000 in
theorem dX11_hoursUntilLaid_37 : decode cX11_hoursUntilLaid 37 = .ok (.aload_n 0, 1) := by decide +kernel
set_option maxRecDepth 20000 in
theorem dX11_hoursUntilLaid_38 : decode cX11_hoursUntilLaid 38 = .ok (.getfield 102, 3) := by decide +kernel
set_option maxRecDepth 20000 in
theorem dX11_hoursUntilLaid_41 : decode cX11_hoursUntilLaid 41 = .ok (.iconst 1, 1) := by decide +kernel
set_option maxRecDepth 20000 in
theorem dX11_hoursUntilLaid_42 : decode cX11_hoursUntilLaid 42 = .ok (.invokevirtual 208, 3) := by decide +kernel
set_option maxRecDepth 20000 in
theorem dX11_hoursUntilLaid_45 : decode cX11_hoursUntilLaid 45 = .ok (.iinc 2 1, 3) := by decide +kernel
set_option maxRecDepth 20000 in
theorem dX11_hoursUntilLaid_48 : decode cX11_hoursUntilLaid 48 = .ok (.goto (-46), 3) := by decide +kernel
set_option maxRecDepth 20000 in
theorem dX11_hoursUntilLaid_51 : decode cX11_hoursUntilLaid 51 = .ok (.bipush (-5), 2) := by decide +kernel
set_option maxRecDepth 20000 in
theorem dX11_hoursUntilLaid_53 : decode cX11_hoursUntilLaid 53 = .ok (.ireturn, 1) := by decide +kernel
set_option maxRecDepth 20000 in
theorem kt_X11_hoursUntilLaid_0 (g : gx_T) : ∀ q ∈ k_X11_hoursUntilLaid_0, gx_E g gc_md RX11 cX11_hoursUntilLaid 3 (some .int) "hoursUntilLaid" q.1 q.2 := List.forall_mem_cons.mpr ⟨(gs_iconst dX11_hoursUntilLaid_0 rfl), List.forall_mem_cons.mpr ⟨
  (gs_istore_n dX11_hoursUntilLaid_1 rfl), List.forall_mem_cons.mpr ⟨
  (gs_iload_n dX11_hoursUntilLaid_2 rfl), List.forall_mem_cons.mpr ⟨
  (gs_bipush dX11_hoursUntilLaid_3 rfl), List.forall_mem_cons.mpr ⟨
  (gs_icmp_gt dX11_hoursUntilLaid_5 rfl), List.forall_mem_cons.mpr ⟨
  (gs_aload_n dX11_hoursUntilLaid_8 rfl), List.forall_mem_cons.mpr ⟨
  (gs_gf (ref := "GriefCranes") dX11_hoursUntilLaid_9 (gx_mem 372 (by decide +kernel) (by decide +kernel)) (Or.inl rfl) gf_11_1), List.forall_mem_cons.mpr ⟨
  (gs_iload_n dX11_hoursUntilLaid_12 rfl), List.forall_mem_cons.mpr ⟨
  (gs_iconst dX11_hoursUntilLaid_13 rfl), List.forall_mem_cons.mpr ⟨
  (gs_cv dX11_hoursUntilLaid_14 (fun q hq => by
      simp only [List.mem_cons, List.not_mem_nil, or_false] at hq
      subst hq
      exact Or.inl ⟨_, rfl, by decide, by decide +kernel, by decide +kernel, List.forall_mem_cons.mpr ⟨gx_mem 521 (by decide +kernel) (by decide +kernel), List.forall_mem_cons.mpr ⟨gx_mem 522 (by decide +kernel) (by decide +kernel), List.forall_mem_cons.mpr ⟨gx_mem 523 (by decide +kernel) (by decide +kernel), List.forall_mem_cons.mpr ⟨gx_mem 95 (by decide +kernel) (by decide +kernel), List.forall_mem_cons.mpr ⟨cw_524, fun _ h => absurd h List.not_mem_nil⟩⟩⟩⟩⟩⟩)), List.forall_mem_cons.mpr ⟨
  (gs_if_eq dX11_hoursUntilLaid_17 rfl), List.forall_mem_cons.mpr ⟨
  (gs_iload_n dX11_hoursUntilLaid_20 rfl), List.forall_mem_cons.mpr ⟨
  (gs_ri dX11_hoursUntilLaid_21), List.forall_mem_cons.mpr ⟨
  (gs_aload_n dX11_hoursUntilLaid_22 rfl), List.forall_mem_cons.mpr ⟨
  (gs_gf (ref := "GriefCranes") dX11_hoursUntilLaid_23 (gx_mem 372 (by decide +kernel) (by decide +kernel)) (Or.inl rfl) gf_11_1), List.forall_mem_cons.mpr ⟨
  (gs_iload_n dX11_hoursUntilLaid_26 rfl), List.forall_mem_cons.mpr ⟨
  (gs_iconst dX11_hoursUntilLaid_27 rfl), List.forall_mem_cons.mpr ⟨
  (gs_cv dX11_hoursUntilLaid_28 (fun q hq => by
      simp only [List.mem_cons, List.not_mem_nil, or_false] at hq
      subst hq
      exact Or.inl ⟨_, rfl, by decide, by decide +kernel, by decide +kernel, List.forall_mem_cons.mpr ⟨gx_mem 521 (by decide +kernel) (by decide +kernel), List.forall_mem_cons.mpr ⟨gx_mem 522 (by decide +kernel) (by decide +kernel), List.forall_mem_cons.mpr ⟨gx_mem 523 (by decide +kernel) (by decide +kernel), List.forall_mem_cons.mpr ⟨gx_mem 95 (by decide +kernel) (by decide +kernel), List.forall_mem_cons.mpr ⟨cw_524, fun _ h => absurd h List.not_mem_nil⟩⟩⟩⟩⟩⟩)), List.forall_mem_cons.mpr ⟨
  (gs_if_eq dX11_hoursUntilLaid_31 rfl), List.forall_mem_cons.mpr ⟨
  (gs_bipush dX11_hoursUntilLaid_34 rfl), List.forall_mem_cons.mpr ⟨
  (gs_ri dX11_hoursUntilLaid_36), List.forall_mem_cons.mpr ⟨
  (gs_aload_n dX11_hoursUntilLaid_37 rfl), List.forall_mem_cons.mpr ⟨
  (gs_gf (ref := "GriefCranes") dX11_hoursUntilLaid_38 (gx_mem 372 (by decide +kernel) (by decide +kernel)) (Or.inl rfl) gf_11_1), List.forall_mem_cons.mpr ⟨
  (gs_iconst dX11_hoursUntilLaid_41 rfl), List.forall_mem_cons.mpr ⟨
  (gs_cv dX11_hoursUntilLaid_42 (fun q hq => by
      simp only [List.mem_cons, List.not_mem_nil, or_false] at hq
      subst hq
      exact Or.inl ⟨_, rfl, by decide, by decide +kernel, by decide +kernel, List.forall_mem_cons.mpr ⟨gx_mem 526 (by decide +kernel) (by decide +kernel), List.forall_mem_cons.mpr ⟨gx_mem 527 (by decide +kernel) (by decide +kernel), List.forall_mem_cons.mpr ⟨gx_mem 528 (by decide +kernel) (by decide +kernel), List.forall_mem_cons.mpr ⟨gx_mem 95 (by decide +kernel) (by decide +kernel), List.forall_mem_cons.mpr ⟨cw_529, fun _ h => absurd h List.not_mem_nil⟩⟩⟩⟩⟩⟩)), List.forall_mem_cons.mpr ⟨
  (gs_iinc dX11_hoursUntilLaid_45), List.forall_mem_cons.mpr ⟨
  (gs_goto dX11_hoursUntilLaid_48 rfl), List.forall_mem_cons.mpr ⟨
  (gs_bipush dX11_hoursUntilLaid_51 rfl), List.forall_mem_cons.mpr ⟨
  (gs_ri dX11_hoursUntilLaid_53), fun _ h => absurd h List.not_mem_nil⟩⟩⟩⟩⟩⟩⟩⟩⟩⟩⟩⟩⟩⟩⟩⟩⟩⟩⟩⟩⟩⟩⟩⟩⟩⟩⟩⟩⟩
theorem kt_X11_hoursUntilLaid (g : gx_T) : ∀ q ∈ k_X11_hoursUntilLaid, gx_E g gc_md RX11 cX11_hoursUntilLaid 3 (some .int) "hoursUntilLaid" q.1 q.2 := kt_X11_hoursUntilLaid_0 g
set_option maxRecDepth 20000 in
theorem dX11_soonestCrane_0 : decode cX11_soonestCrane 0 = .ok (.aload_n 0, 1) := by decide +kernel
set_option maxRecDepth 20000 in
theorem dX11_soonestCrane_1 : decode cX11_soonestCrane 1 = .ok (.getfield 98, 3) := by decide +kernel
set_option maxRecDepth 20000 in
theorem dX11_soonestCrane_4 : decode cX11_soonestCrane 4 = .ok (.iload_n 1, 1) := by decide +kernel
set_option maxRecDepth 20000 in
theorem dX11_soonestCrane_5 : decode cX11_soonestCrane 5 = .ok (.iconst 0, 1) := by decide +kernel
set_option maxRecDepth 20000 in
theorem dX11_soonestCrane_6 : decode cX11_soonestCrane 6 = .ok (.invokevirtual 230, 3) := by decide +kernel
set_option maxRecDepth 20000 in
theorem dX11_soonestCrane_9 : decode cX11_soonestCrane 9 = .ok (.ifCond .ne 6, 3) := by decide +kernel
set_option maxRecDepth 20000 in
theorem dX11_soonestCrane_12 : decode cX11_soonestCrane 12 = .ok (.bipush (-5), 2) := by decide +kernel
set_option maxRecDepth 20000 in
theorem dX11_soonestCrane_14 : decode cX11_soonestCrane 14 = .ok (.ireturn, 1) := by decide +kernel
set_option maxRecDepth 20000 in
theorem dX11_soonestCrane_15 : decode cX11_soonestCrane 15 = .ok (.bipush (-5), 2) := by decide +kernel
set_option maxRecDepth 20000 in
theorem dX11_soonestCrane_17 : decode cX11_soonestCrane 17 = .ok (.istore_n 2, 1) := by decide +kernel
set_option maxRecDepth 20000 in
theorem dX11_soonestCrane_18 : decode cX11_soonestCrane 18 = .ok (.bipush 61, 2) := by decide +kernel
set_option maxRecDepth 20000 in
theorem dX11_soonestCrane_20 : decode cX11_soonestCrane 20 = .ok (.istore_n 3, 1) := by decide +kernel
set_option maxRecDepth 20000 in
theorem dX11_soonestCrane_21 : decode cX11_soonestCrane 21 = .ok (.iconst 0, 1) := by decide +kernel
set_option maxRecDepth 20000 in
theorem dX11_soonestCrane_22 : decode cX11_soonestCrane 22 = .ok (.istore 4, 2) := by decide +kernel
set_option maxRecDepth 20000 in
theorem dX11_soonestCrane_24 : decode cX11_soonestCrane 24 = .ok (.iload 4, 2) := by decide +kernel
set_option maxRecDepth 20000 in
theorem dX11_soonestCrane_26 : decode cX11_soonestCrane 26 = .ok (.aload_n 0, 1) := by decide +kernel
set_option maxRecDepth 20000 in
theorem dX11_soonestCrane_27 : decode cX11_soonestCrane 27 = .ok (.getfield 98, 3) := by decide +kernel
set_option maxRecDepth 20000 in
theorem dX11_soonestCrane_30 : decode cX11_soonestCrane 30 = .ok (.getfield 112, 3) := by decide +kernel
set_option maxRecDepth 20000 in
theorem dX11_soonestCrane_33 : decode cX11_soonestCrane 33 = .ok (.if_icmp .ge 57, 3) := by decide +kernel
set_option maxRecDepth 20000 in
theorem dX11_soonestCrane_36 : decode cX11_soonestCrane 36 = .ok (.aload_n 0, 1) := by decide +kernel
set_option maxRecDepth 20000 in
theorem dX11_soonestCrane_37 : decode cX11_soonestCrane 37 = .ok (.getfield 102, 3) := by decide +kernel
set_option maxRecDepth 20000 in
theorem dX11_soonestCrane_40 : decode cX11_soonestCrane 40 = .ok (.aload_n 0, 1) := by decide +kernel
set_option maxRecDepth 20000 in
theorem dX11_soonestCrane_41 : decode cX11_soonestCrane 41 = .ok (.getfield 98, 3) := by decide +kernel
set_option maxRecDepth 20000 in
theorem dX11_soonestCrane_44 : decode cX11_soonestCrane 44 = .ok (.invokevirtual 167, 3) := by decide +kernel
set_option maxRecDepth 20000 in
theorem dX11_soonestCrane_47 : decode cX11_soonestCrane 47 = .ok (.aload_n 0, 1) := by decide +kernel
set_option maxRecDepth 20000 in
theorem dX11_soonestCrane_48 : decode cX11_soonestCrane 48 = .ok (.getfield 102, 3) := by decide +kernel
set_option maxRecDepth 20000 in
theorem dX11_soonestCrane_51 : decode cX11_soonestCrane 51 = .ok (.getfield 155, 3) := by decide +kernel
set_option maxRecDepth 20000 in
theorem dX11_soonestCrane_54 : decode cX11_soonestCrane 54 = .ok (.iload_n 1, 1) := by decide +kernel
set_option maxRecDepth 20000 in
theorem dX11_soonestCrane_55 : decode cX11_soonestCrane 55 = .ok (.iload 4, 2) := by decide +kernel
set_option maxRecDepth 20000 in
theorem dX11_soonestCrane_57 : decode cX11_soonestCrane 57 = .ok (.iastore, 1) := by decide +kernel
set_option maxRecDepth 20000 in
theorem dX11_soonestCrane_58 : decode cX11_soonestCrane 58 = .ok (.aload_n 0, 1) := by decide +kernel
set_option maxRecDepth 20000 in
theorem dX11_soonestCrane_59 : decode cX11_soonestCrane 59 = .ok (.iload_n 1, 1) := by decide +kernel
set_option maxRecDepth 20000 in
theorem dX11_soonestCrane_60 : decode cX11_soonestCrane 60 = .ok (.invokevirtual 171, 3) := by decide +kernel
set_option maxRecDepth 20000 in
theorem dX11_soonestCrane_63 : decode cX11_soonestCrane 63 = .ok (.istore 5, 2) := by decide +kernel
set_option maxRecDepth 20000 in
theorem dX11_soonestCrane_65 : decode cX11_soonestCrane 65 = .ok (.iload 5, 2) := by decide +kernel
set_option maxRecDepth 20000 in
theorem dX11_soonestCrane_67 : decode cX11_soonestCrane 67 = .ok (.bipush (-5), 2) := by decide +kernel
set_option maxRecDepth 20000 in
theorem dX11_soonestCrane_69 : decode cX11_soonestCrane 69 = .ok (.if_icmp .eq 15, 3) := by decide +kernel
set_option maxRecDepth 20000 in
theorem dX11_soonestCrane_72 : decode cX11_soonestCrane 72 = .ok (.iload 5, 2) := by decide +kernel
set_option maxRecDepth 20000 in
theorem dX11_soonestCrane_74 : decode cX11_soonestCrane 74 = .ok (.iload_n 3, 1) := by decide +kernel
set_option maxRecDepth 20000 in
theorem dX11_soonestCrane_75 : decode cX11_soonestCrane 75 = .ok (.if_icmp .ge 9, 3) := by decide +kernel
set_option maxRecDepth 20000 in
theorem dX11_soonestCrane_78 : decode cX11_soonestCrane 78 = .ok (.iload 5, 2) := by decide +kernel
set_option maxRecDepth 20000 in
theorem dX11_soonestCrane_80 : decode cX11_soonestCrane 80 = .ok (.istore_n 3, 1) := by decide +kernel
set_option maxRecDepth 20000 in
theorem dX11_soonestCrane_81 : decode cX11_soonestCrane 81 = .ok (.iload 4, 2) := by decide +kernel
set_option maxRecDepth 20000 in
theorem dX11_soonestCrane_83 : decode cX11_soonestCrane 83 = .ok (.istore_n 2, 1) := by decide +kernel
set_option maxRecDepth 20000 in
theorem dX11_soonestCrane_84 : decode cX11_soonestCrane 84 = .ok (.iinc 4 1, 3) := by decide +kernel
set_option maxRecDepth 20000 in
theorem dX11_soonestCrane_87 : decode cX11_soonestCrane 87 = .ok (.goto (-63), 3) := by decide +kernel
set_option maxRecDepth 20000 in
theorem dX11_soonestCrane_90 : decode cX11_soonestCrane 90 = .ok (.iload_n 2, 1) := by decide +kernel
set_option maxRecDepth 20000 in
theorem dX11_soonestCrane_91 : decode cX11_soonestCrane 91 = .ok (.ireturn, 1) := by decide +kernel
set_option maxRecDepth 20000 in
theorem kt_X11_soonestCrane_0 (g : gx_T) : ∀ q ∈ k_X11_soonestCrane_0, gx_E g gc_md RX11 cX11_soonestCrane 6 (some .int) "soonestCrane" q.1 q.2 := List.forall_mem_cons.mpr ⟨(gs_aload_n dX11_soonestCrane_0 rfl), List.forall_mem_cons.mpr ⟨
  (gs_gf (ref := "GriefCranes") dX11_soonestCrane_1 (gx_mem 371 (by decide +kernel) (by decide +kernel)) (Or.inl rfl) gf_11_0), List.forall_mem_cons.mpr ⟨
  (gs_iload_n dX11_soonestCrane_4 rfl), List.forall_mem_cons.mpr ⟨
  (gs_iconst dX11_soonestCrane_5 rfl), List.forall_mem_cons.mpr ⟨
  (gs_cv dX11_soonestCrane_6 (fun q hq => by
      simp only [List.mem_cons, List.not_mem_nil, or_false] at hq
      subst hq
      exact Or.inl ⟨_, rfl, by decide, by decide +kernel, by decide +kernel, List.forall_mem_cons.mpr ⟨gx_mem 521 (by decide +kernel) (by decide +kernel), List.forall_mem_cons.mpr ⟨gx_mem 522 (by decide +kernel) (by decide +kernel), List.forall_mem_cons.mpr ⟨gx_mem 523 (by decide +kernel) (by decide +kernel), List.forall_mem_cons.mpr ⟨gx_mem 95 (by decide +kernel) (by decide +kernel), List.forall_mem_cons.mpr ⟨cw_524, fun _ h => absurd h List.not_mem_nil⟩⟩⟩⟩⟩⟩)), List.forall_mem_cons.mpr ⟨
  (gs_if_ne dX11_soonestCrane_9 rfl), List.forall_mem_cons.mpr ⟨
  (gs_bipush dX11_soonestCrane_12 rfl), List.forall_mem_cons.mpr ⟨
  (gs_ri dX11_soonestCrane_14), List.forall_mem_cons.mpr ⟨
  (gs_bipush dX11_soonestCrane_15 rfl), List.forall_mem_cons.mpr ⟨
  (gs_istore_n dX11_soonestCrane_17 rfl), List.forall_mem_cons.mpr ⟨
  (gs_bipush dX11_soonestCrane_18 rfl), List.forall_mem_cons.mpr ⟨
  (gs_istore_n dX11_soonestCrane_20 rfl), List.forall_mem_cons.mpr ⟨
  (gs_iconst dX11_soonestCrane_21 rfl), List.forall_mem_cons.mpr ⟨
  (gs_istore dX11_soonestCrane_22), List.forall_mem_cons.mpr ⟨
  (gs_iload dX11_soonestCrane_24), List.forall_mem_cons.mpr ⟨
  (gs_aload_n dX11_soonestCrane_26 rfl), List.forall_mem_cons.mpr ⟨
  (gs_gf (ref := "GriefCranes") dX11_soonestCrane_27 (gx_mem 371 (by decide +kernel) (by decide +kernel)) (Or.inl rfl) gf_11_0), List.forall_mem_cons.mpr ⟨
  (gs_gf (ref := "GriefCranes$Yard") dX11_soonestCrane_30 (gx_mem 311 (by decide +kernel) (by decide +kernel)) (Or.inl rfl) gf_10_4), List.forall_mem_cons.mpr ⟨
  (gs_icmp_ge dX11_soonestCrane_33 rfl), List.forall_mem_cons.mpr ⟨
  (gs_aload_n dX11_soonestCrane_36 rfl), List.forall_mem_cons.mpr ⟨
  (gs_gf (ref := "GriefCranes") dX11_soonestCrane_37 (gx_mem 372 (by decide +kernel) (by decide +kernel)) (Or.inl rfl) gf_11_1), List.forall_mem_cons.mpr ⟨
  (gs_aload_n dX11_soonestCrane_40 rfl), List.forall_mem_cons.mpr ⟨
  (gs_gf (ref := "GriefCranes") dX11_soonestCrane_41 (gx_mem 371 (by decide +kernel) (by decide +kernel)) (Or.inl rfl) gf_11_0), List.forall_mem_cons.mpr ⟨
  (gs_cv dX11_soonestCrane_44 (fun q hq => by
      simp only [List.mem_cons, List.not_mem_nil, or_false] at hq
      subst hq
      exact Or.inl ⟨_, rfl, by decide, by decide +kernel, by decide +kernel, List.forall_mem_cons.mpr ⟨gx_mem 510 (by decide +kernel) (by decide +kernel), List.forall_mem_cons.mpr ⟨gx_mem 511 (by decide +kernel) (by decide +kernel), List.forall_mem_cons.mpr ⟨gx_mem 512 (by decide +kernel) (by decide +kernel), List.forall_mem_cons.mpr ⟨gx_mem 95 (by decide +kernel) (by decide +kernel), List.forall_mem_cons.mpr ⟨cw_513, fun _ h => absurd h List.not_mem_nil⟩⟩⟩⟩⟩⟩)), List.forall_mem_cons.mpr ⟨
  (gs_aload_n dX11_soonestCrane_47 rfl), List.forall_mem_cons.mpr ⟨
  (gs_gf (ref := "GriefCranes") dX11_soonestCrane_48 (gx_mem 372 (by decide +kernel) (by decide +kernel)) (Or.inl rfl) gf_11_1), List.forall_mem_cons.mpr ⟨
  (gs_gf (ref := "GriefCranes$Yard") dX11_soonestCrane_51 (gx_mem 330 (by decide +kernel) (by decide +kernel)) (Or.inl rfl) gf_10_11), List.forall_mem_cons.mpr ⟨
  (gs_iload_n dX11_soonestCrane_54 rfl), List.forall_mem_cons.mpr ⟨
  (gs_iload dX11_soonestCrane_55), List.forall_mem_cons.mpr ⟨
  (gs_iastore dX11_soonestCrane_57), List.forall_mem_cons.mpr ⟨
  (gs_aload_n dX11_soonestCrane_58 rfl), List.forall_mem_cons.mpr ⟨
  (gs_iload_n dX11_soonestCrane_59 rfl), fun _ h => absurd h List.not_mem_nil⟩⟩⟩⟩⟩⟩⟩⟩⟩⟩⟩⟩⟩⟩⟩⟩⟩⟩⟩⟩⟩⟩⟩⟩⟩⟩⟩⟩⟩⟩⟩⟩
set_option maxRecDepth 20000 in
theorem kt_X11_soonestCrane_1 (g : gx_T) : ∀ q ∈ k_X11_soonestCrane_1, gx_E g gc_md RX11 cX11_soonestCrane 6 (some .int) "soonestCrane" q.1 q.2 := List.forall_mem_cons.mpr ⟨(gs_cv dX11_soonestCrane_60 (fun q hq => by
      simp only [List.mem_cons, List.not_mem_nil, or_false] at hq
      subst hq
      exact Or.inl ⟨_, rfl, by decide, by decide +kernel, by decide +kernel, List.forall_mem_cons.mpr ⟨gx_mem 517 (by decide +kernel) (by decide +kernel), List.forall_mem_cons.mpr ⟨gx_mem 519 (by decide +kernel) (by decide +kernel), List.forall_mem_cons.mpr ⟨gx_mem 1 (by decide +kernel) (by decide +kernel), List.forall_mem_cons.mpr ⟨gx_mem 84 (by decide +kernel) (by decide +kernel), List.forall_mem_cons.mpr ⟨cw_520, fun _ h => absurd h List.not_mem_nil⟩⟩⟩⟩⟩⟩)), List.forall_mem_cons.mpr ⟨
  (gs_istore dX11_soonestCrane_63), List.forall_mem_cons.mpr ⟨
  (gs_iload dX11_soonestCrane_65), List.forall_mem_cons.mpr ⟨
  (gs_bipush dX11_soonestCrane_67 rfl), List.forall_mem_cons.mpr ⟨
  (gs_icmp_eq dX11_soonestCrane_69 rfl), List.forall_mem_cons.mpr ⟨
  (gs_iload dX11_soonestCrane_72), List.forall_mem_cons.mpr ⟨
  (gs_iload_n dX11_soonestCrane_74 rfl), List.forall_mem_cons.mpr ⟨
  (gs_icmp_ge dX11_soonestCrane_75 rfl), List.forall_mem_cons.mpr ⟨
  (gs_iload dX11_soonestCrane_78), List.forall_mem_cons.mpr ⟨
  (gs_istore_n dX11_soonestCrane_80 rfl), List.forall_mem_cons.mpr ⟨
  (gs_iload dX11_soonestCrane_81), List.forall_mem_cons.mpr ⟨
  (gs_istore_n dX11_soonestCrane_83 rfl), List.forall_mem_cons.mpr ⟨
  (gs_iinc dX11_soonestCrane_84), List.forall_mem_cons.mpr ⟨
  (gs_goto dX11_soonestCrane_87 rfl), List.forall_mem_cons.mpr ⟨
  (gs_iload_n dX11_soonestCrane_90 rfl), List.forall_mem_cons.mpr ⟨
  (gs_ri dX11_soonestCrane_91), fun _ h => absurd h List.not_mem_nil⟩⟩⟩⟩⟩⟩⟩⟩⟩⟩⟩⟩⟩⟩⟩⟩
theorem kt_X11_soonestCrane (g : gx_T) : ∀ q ∈ k_X11_soonestCrane, gx_E g gc_md RX11 cX11_soonestCrane 6 (some .int) "soonestCrane" q.1 q.2 := List.forall_mem_append.mpr ⟨kt_X11_soonestCrane_0 g, kt_X11_soonestCrane_1 g⟩
set_option maxRecDepth 20000 in
theorem dX11_bestChange_0 : decode cX11_bestChange 0 = .ok (.aload_n 0, 1) := by decide +kernel
set_option maxRecDepth 20000 in
theorem dX11_bestChange_1 : decode cX11_bestChange 1 = .ok (.getfield 102, 3) := by decide +kernel
set_option maxRecDepth 20000 in
theorem dX11_bestChange_4 : decode cX11_bestChange 4 = .ok (.aload_n 0, 1) := by decide +kernel
set_option maxRecDepth 20000 in
theorem dX11_bestChange_5 : decode cX11_bestChange 5 = .ok (.getfield 98, 3) := by decide +kernel
set_option maxRecDepth 20000 in
theorem dX11_bestChange_8 : decode cX11_bestChange 8 = .ok (.invokevirtual 167, 3) := by decide +kernel
set_option maxRecDepth 20000 in
theorem dX11_bestChange_11 : decode cX11_bestChange 11 = .ok (.aload_n 0, 1) := by decide +kernel
set_option maxRecDepth 20000 in
theorem dX11_bestChange_12 : decode cX11_bestChange 12 = .ok (.getfield 102, 3) := by decide +kernel
set_option maxRecDepth 20000 in
theorem dX11_bestChange_15 : decode cX11_bestChange 15 = .ok (.iload_n 1, 1) := by decide +kernel
set_option maxRecDepth 20000 in
theorem dX11_bestChange_16 : decode cX11_bestChange 16 = .ok (.invokevirtual 208, 3) := by decide +kernel
set_option maxRecDepth 20000 in
theorem dX11_bestChange_19 : decode cX11_bestChange 19 = .ok (.aload_n 0, 1) := by decide +kernel
set_option maxRecDepth 20000 in
theorem dX11_bestChange_20 : decode cX11_bestChange 20 = .ok (.getfield 102, 3) := by decide +kernel
set_option maxRecDepth 20000 in
theorem dX11_bestChange_23 : decode cX11_bestChange 23 = .ok (.iconst 3, 1) := by decide +kernel
set_option maxRecDepth 20000 in
theorem dX11_bestChange_24 : decode cX11_bestChange 24 = .ok (.invokevirtual 211, 3) := by decide +kernel
set_option maxRecDepth 20000 in
theorem dX11_bestChange_27 : decode cX11_bestChange 27 = .ok (.istore_n 2, 1) := by decide +kernel
set_option maxRecDepth 20000 in
theorem dX11_bestChange_28 : decode cX11_bestChange 28 = .ok (.bipush (-5), 2) := by decide +kernel
set_option maxRecDepth 20000 in
theorem dX11_bestChange_30 : decode cX11_bestChange 30 = .ok (.istore_n 3, 1) := by decide +kernel
set_option maxRecDepth 20000 in
theorem dX11_bestChange_31 : decode cX11_bestChange 31 = .ok (.iconst 0, 1) := by decide +kernel
set_option maxRecDepth 20000 in
theorem dX11_bestChange_32 : decode cX11_bestChange 32 = .ok (.istore 4, 2) := by decide +kernel
set_option maxRecDepth 20000 in
theorem dX11_bestChange_34 : decode cX11_bestChange 34 = .ok (.iload 4, 2) := by decide +kernel
set_option maxRecDepth 20000 in
theorem dX11_bestChange_36 : decode cX11_bestChange 36 = .ok (.aload_n 0, 1) := by decide +kernel
set_option maxRecDepth 20000 in
theorem dX11_bestChange_37 : decode cX11_bestChange 37 = .ok (.getfield 98, 3) := by decide +kernel
set_option maxRecDepth 20000 in
theorem dX11_bestChange_40 : decode cX11_bestChange 40 = .ok (.getfield 146, 3) := by decide +kernel
set_option maxRecDepth 20000 in
theorem dX11_bestChange_43 : decode cX11_bestChange 43 = .ok (.if_icmp .ge 149, 3) := by decide +kernel
set_option maxRecDepth 20000 in
theorem dX11_bestChange_46 : decode cX11_bestChange 46 = .ok (.iload 4, 2) := by decide +kernel
set_option maxRecDepth 20000 in
theorem dX11_bestChange_48 : decode cX11_bestChange 48 = .ok (.iconst 1, 1) := by decide +kernel
set_option maxRecDepth 20000 in
theorem dX11_bestChange_49 : decode cX11_bestChange 49 = .ok (.iadd, 1) := by decide +kernel
set_option maxRecDepth 20000 in
theorem dX11_bestChange_50 : decode cX11_bestChange 50 = .ok (.istore 5, 2) := by decide +kernel
set_option maxRecDepth 20000 in
theorem dX11_bestChange_52 : decode cX11_bestChange 52 = .ok (.iload 5, 2) := by decide +kernel
set_option maxRecDepth 20000 in
theorem dX11_bestChange_54 : decode cX11_bestChange 54 = .ok (.aload_n 0, 1) := by decide +kernel
set_option maxRecDepth 20000 in
theorem dX11_bestChange_55 : decode cX11_bestChange 55 = .ok (.getfield 98, 3) := by decide +kernel
set_option maxRecDepth 20000 in
theorem dX11_bestChange_58 : decode cX11_bestChange 58 = .ok (.getfield 146, 3) := by decide +kernel
set_option maxRecDepth 20000 in
theorem dX11_bestChange_61 : decode cX11_bestChange 61 = .ok (.if_icmp .ge 125, 3) := by decide +kernel
set_option maxRecDepth 20000 in
theorem dX11_bestChange_64 : decode cX11_bestChange 64 = .ok (.aload_n 0, 1) := by decide +kernel
set_option maxRecDepth 20000 in
theorem dX11_bestChange_65 : decode cX11_bestChange 65 = .ok (.getfield 98, 3) := by decide +kernel
set_option maxRecDepth 20000 in
theorem dX11_bestChange_68 : decode cX11_bestChange 68 = .ok (.iload 4, 2) := by decide +kernel
set_option maxRecDepth 20000 in
theorem dX11_bestChange_70 : decode cX11_bestChange 70 = .ok (.iconst 0, 1) := by decide +kernel
set_option maxRecDepth 20000 in
theorem dX11_bestChange_71 : decode cX11_bestChange 71 = .ok (.invokevirtual 230, 3) := by decide +kernel
set_option maxRecDepth 20000 in
theorem dX11_bestChange_74 : decode cX11_bestChange 74 = .ok (.ifCond .eq 106, 3) := by decide +kernel
set_option maxRecDepth 20000 in
theorem dX11_bestChange_77 : decode cX11_bestChange 77 = .ok (.aload_n 0, 1) := by decide +kernel
set_option maxRecDepth 20000 in
theorem dX11_bestChange_78 : decode cX11_bestChange 78 = .ok (.getfield 98, 3) := by decide +kernel
set_option maxRecDepth 20000 in
theorem dX11_bestChange_81 : decode cX11_bestChange 81 = .ok (.iload 5, 2) := by decide +kernel
set_option maxRecDepth 20000 in
theorem dX11_bestChange_83 : decode cX11_bestChange 83 = .ok (.iconst 0, 1) := by decide +kernel
set_option maxRecDepth 20000 in
theorem dX11_bestChange_84 : decode cX11_bestChange 84 = .ok (.invokevirtual 230, 3) := by decide +kernel
set_option maxRecDepth 20000 in
theorem dX11_bestChange_87 : decode cX11_bestChange 87 = .ok (.ifCond .ne 6, 3) := by decide +kernel
set_option maxRecDepth 20000 in
theorem dX11_bestChange_90 : decode cX11_bestChange 90 = .ok (.goto 90, 3) := by decide +kernel
set_option maxRecDepth 20000 in
theorem dX11_bestChange_93 : decode cX11_bestChange 93 = .ok (.aload_n 0, 1) := by decide +kernel
set_option maxRecDepth 20000 in
theorem dX11_bestChange_94 : decode cX11_bestChange 94 = .ok (.getfield 102, 3) := by decide +kernel
set_option maxRecDepth 20000 in
theorem dX11_bestChange_97 : decode cX11_bestChange 97 = .ok (.aload_n 0, 1) := by decide +kernel
set_option maxRecDepth 20000 in
theorem dX11_bestChange_98 : decode cX11_bestChange 98 = .ok (.getfield 98, 3) := by decide +kernel
set_option maxRecDepth 20000 in
theorem dX11_bestChange_101 : decode cX11_bestChange 101 = .ok (.invokevirtual 167, 3) := by decide +kernel
set_option maxRecDepth 20000 in
theorem dX11_bestChange_104 : decode cX11_bestChange 104 = .ok (.aload_n 0, 1) := by decide +kernel
set_option maxRecDepth 20000 in
theorem dX11_bestChange_105 : decode cX11_bestChange 105 = .ok (.getfield 102, 3) := by decide +kernel
set_option maxRecDepth 20000 in
theorem dX11_bestChange_108 : decode cX11_bestChange 108 = .ok (.getfield 155, 3) := by decide +kernel
set_option maxRecDepth 20000 in
theorem dX11_bestChange_111 : decode cX11_bestChange 111 = .ok (.iload 4, 2) := by decide +kernel
set_option maxRecDepth 20000 in
theorem dX11_bestChange_113 : decode cX11_bestChange 113 = .ok (.aload_n 0, 1) := by decide +kernel
set_option maxRecDepth 20000 in
theorem dX11_bestChange_114 : decode cX11_bestChange 114 = .ok (.getfield 98, 3) := by decide +kernel
set_option maxRecDepth 20000 in
theorem dX11_bestChange_117 : decode cX11_bestChange 117 = .ok (.getfield 155, 3) := by decide +kernel
set_option maxRecDepth 20000 in
theorem dX11_bestChange_120 : decode cX11_bestChange 120 = .ok (.iload 5, 2) := by decide +kernel
set_option maxRecDepth 20000 in
theorem dX11_bestChange_122 : decode cX11_bestChange 122 = .ok (.iaload, 1) := by decide +kernel
set_option maxRecDepth 20000 in
theorem dX11_bestChange_123 : decode cX11_bestChange 123 = .ok (.iastore, 1) := by decide +kernel
set_option maxRecDepth 20000 in
theorem dX11_bestChange_124 : decode cX11_bestChange 124 = .ok (.aload_n 0, 1) := by decide +kernel
set_option maxRecDepth 20000 in
theorem dX11_bestChange_125 : decode cX11_bestChange 125 = .ok (.getfield 102, 3) := by decide +kernel
set_option maxRecDepth 20000 in
theorem dX11_bestChange_128 : decode cX11_bestChange 128 = .ok (.getfield 155, 3) := by decide +kernel
set_option maxRecDepth 20000 in
theorem dX11_bestChange_131 : decode cX11_bestChange 131 = .ok (.iload 5, 2) := by decide +kernel
set_option maxRecDepth 20000 in
theorem dX11_bestChange_133 : decode cX11_bestChange 133 = .ok (.aload_n 0, 1) := by decide +kernel
set_option maxRecDepth 20000 in
theorem dX11_bestChange_134 : decode cX11_bestChange 134 = .ok (.getfield 98, 3) := by decide +kernel
set_option maxRecDepth 20000 in
theorem dX11_bestChange_137 : decode cX11_bestChange 137 = .ok (.getfield 155, 3) := by decide +kernel
set_option maxRecDepth 20000 in
theorem dX11_bestChange_140 : decode cX11_bestChange 140 = .ok (.iload 4, 2) := by decide +kernel
set_option maxRecDepth 20000 in
theorem dX11_bestChange_142 : decode cX11_bestChange 142 = .ok (.iaload, 1) := by decide +kernel
set_option maxRecDepth 20000 in
theorem dX11_bestChange_143 : decode cX11_bestChange 143 = .ok (.iastore, 1) := by decide +kernel
set_option maxRecDepth 20000 in
theorem dX11_bestChange_144 : decode cX11_bestChange 144 = .ok (.aload_n 0, 1) := by decide +kernel
set_option maxRecDepth 20000 in
theorem dX11_bestChange_145 : decode cX11_bestChange 145 = .ok (.getfield 102, 3) := by decide +kernel
set_option maxRecDepth 20000 in
theorem dX11_bestChange_148 : decode cX11_bestChange 148 = .ok (.iload_n 1, 1) := by decide +kernel
set_option maxRecDepth 20000 in
theorem dX11_bestChange_149 : decode cX11_bestChange 149 = .ok (.invokevirtual 208, 3) := by decide +kernel
set_option maxRecDepth 20000 in
theorem dX11_bestChange_152 : decode cX11_bestChange 152 = .ok (.aload_n 0, 1) := by decide +kernel
set_option maxRecDepth 20000 in
theorem dX11_bestChange_153 : decode cX11_bestChange 153 = .ok (.getfield 102, 3) := by decide +kernel
set_option maxRecDepth 20000 in
theorem dX11_bestChange_156 : decode cX11_bestChange 156 = .ok (.iconst 3, 1) := by decide +kernel
set_option maxRecDepth 20000 in
theorem dX11_bestChange_157 : decode cX11_bestChange 157 = .ok (.invokevirtual 211, 3) := by decide +kernel
set_option maxRecDepth 20000 in
theorem dX11_bestChange_160 : decode cX11_bestChange 160 = .ok (.istore 6, 2) := by decide +kernel
set_option maxRecDepth 20000 in
theorem dX11_bestChange_162 : decode cX11_bestChange 162 = .ok (.iload 6, 2) := by decide +kernel
set_option maxRecDepth 20000 in
theorem dX11_bestChange_164 : decode cX11_bestChange 164 = .ok (.iload_n 2, 1) := by decide +kernel
set_option maxRecDepth 20000 in
theorem dX11_bestChange_165 : decode cX11_bestChange 165 = .ok (.if_icmp .ge 15, 3) := by decide +kernel
set_option maxRecDepth 20000 in
theorem dX11_bestChange_168 : decode cX11_bestChange 168 = .ok (.iload 6, 2) := by decide +kernel
set_option maxRecDepth 20000 in
theorem dX11_bestChange_170 : decode cX11_bestChange 170 = .ok (.istore_n 2, 1) := by decide +kernel
set_option maxRecDepth 20000 in
theorem dX11_bestChange_171 : decode cX11_bestChange 171 = .ok (.bipush 10, 2) := by decide +kernel
set_option maxRecDepth 20000 in
theorem dX11_bestChange_173 : decode cX11_bestChange 173 = .ok (.iload 4, 2) := by decide +kernel
set_option maxRecDepth 20000 in
theorem dX11_bestChange_175 : decode cX11_bestChange 175 = .ok (.imul, 1) := by decide +kernel
set_option maxRecDepth 20000 in
theorem dX11_bestChange_176 : decode cX11_bestChange 176 = .ok (.iload 5, 2) := by decide +kernel
set_option maxRecDepth 20000 in
theorem dX11_bestChange_178 : decode cX11_bestChange 178 = .ok (.iadd, 1) := by decide +kernel
set_option maxRecDepth 20000 in
theorem dX11_bestChange_179 : decode cX11_bestChange 179 = .ok (.istore_n 3, 1) := by decide +kernel
set_option maxRecDepth 20000 in
theorem dX11_bestChange_180 : decode cX11_bestChange 180 = .ok (.iinc 5 1, 3) := by decide +kernel
set_option maxRecDepth 20000 in
theorem dX11_bestChange_183 : decode cX11_bestChange 183 = .ok (.goto (-131), 3) := by decide +kernel
set_option maxRecDepth 20000 in
theorem dX11_bestChange_186 : decode cX11_bestChange 186 = .ok (.iinc 4 1, 3) := by decide +kernel
set_option maxRecDepth 20000 in
theorem dX11_bestChange_189 : decode cX11_bestChange 189 = .ok (.goto (-155), 3) := by decide +kernel
set_option maxRecDepth 20000 in
theorem dX11_bestChange_192 : decode cX11_bestChange 192 = .ok (.iload_n 3, 1) := by decide +kernel
set_option maxRecDepth 20000 in
theorem dX11_bestChange_193 : decode cX11_bestChange 193 = .ok (.ireturn, 1) := by decide +kernel
set_option maxRecDepth 20000 in
theorem kt_X11_bestChange_0 (g : gx_T) : ∀ q ∈ k_X11_bestChange_0, gx_E g gc_md RX11 cX11_bestChange 7 (some .int) "bestChange" q.1 q.2 := List.forall_mem_cons.mpr ⟨(gs_aload_n dX11_bestChange_0 rfl), List.forall_mem_cons.mpr ⟨
  (gs_gf (ref := "GriefCranes") dX11_bestChange_1 (gx_mem 372 (by decide +kernel) (by decide +kernel)) (Or.inl rfl) gf_11_1), List.forall_mem_cons.mpr ⟨
  (gs_aload_n dX11_bestChange_4 rfl), List.forall_mem_cons.mpr ⟨
  (gs_gf (ref := "GriefCranes") dX11_bestChange_5 (gx_mem 371 (by decide +kernel) (by decide +kernel)) (Or.inl rfl) gf_11_0), List.forall_mem_cons.mpr ⟨
  (gs_cv dX11_bestChange_8 (fun q hq => by
      simp only [List.mem_cons, List.not_mem_nil, or_false] at hq
      subst hq
      exact Or.inl ⟨_, rfl, by decide, by decide +kernel, by decide +kernel, List.forall_mem_cons.mpr ⟨gx_mem 510 (by decide +kernel) (by decide +kernel), List.forall_mem_cons.mpr ⟨gx_mem 511 (by decide +kernel) (by decide +kernel), List.forall_mem_cons.mpr ⟨gx_mem 512 (by decide +kernel) (by decide +kernel), List.forall_mem_cons.mpr ⟨gx_mem 95 (by decide +kernel) (by decide +kernel), List.forall_mem_cons.mpr ⟨cw_513, fun _ h => absurd h List.not_mem_nil⟩⟩⟩⟩⟩⟩)), List.forall_mem_cons.mpr ⟨
  (gs_aload_n dX11_bestChange_11 rfl), List.forall_mem_cons.mpr ⟨
  (gs_gf (ref := "GriefCranes") dX11_bestChange_12 (gx_mem 372 (by decide +kernel) (by decide +kernel)) (Or.inl rfl) gf_11_1), List.forall_mem_cons.mpr ⟨
  (gs_iload_n dX11_bestChange_15 rfl), List.forall_mem_cons.mpr ⟨
  (gs_cv dX11_bestChange_16 (fun q hq => by
      simp only [List.mem_cons, List.not_mem_nil, or_false] at hq
      subst hq
      exact Or.inl ⟨_, rfl, by decide, by decide +kernel, by decide +kernel, List.forall_mem_cons.mpr ⟨gx_mem 526 (by decide +kernel) (by decide +kernel), List.forall_mem_cons.mpr ⟨gx_mem 527 (by decide +kernel) (by decide +kernel), List.forall_mem_cons.mpr ⟨gx_mem 528 (by decide +kernel) (by decide +kernel), List.forall_mem_cons.mpr ⟨gx_mem 95 (by decide +kernel) (by decide +kernel), List.forall_mem_cons.mpr ⟨cw_529, fun _ h => absurd h List.not_mem_nil⟩⟩⟩⟩⟩⟩)), List.forall_mem_cons.mpr ⟨
  (gs_aload_n dX11_bestChange_19 rfl), List.forall_mem_cons.mpr ⟨
  (gs_gf (ref := "GriefCranes") dX11_bestChange_20 (gx_mem 372 (by decide +kernel) (by decide +kernel)) (Or.inl rfl) gf_11_1), List.forall_mem_cons.mpr ⟨
  (gs_iconst dX11_bestChange_23 rfl), List.forall_mem_cons.mpr ⟨
  (gs_cv dX11_bestChange_24 (fun q hq => by
      simp only [List.mem_cons, List.not_mem_nil, or_false] at hq
      subst hq
      exact Or.inl ⟨_, rfl, by decide, by decide +kernel, by decide +kernel, List.forall_mem_cons.mpr ⟨gx_mem 749 (by decide +kernel) (by decide +kernel), List.forall_mem_cons.mpr ⟨gx_mem 750 (by decide +kernel) (by decide +kernel), List.forall_mem_cons.mpr ⟨gx_mem 751 (by decide +kernel) (by decide +kernel), List.forall_mem_cons.mpr ⟨gx_mem 95 (by decide +kernel) (by decide +kernel), List.forall_mem_cons.mpr ⟨cw_752, fun _ h => absurd h List.not_mem_nil⟩⟩⟩⟩⟩⟩)), List.forall_mem_cons.mpr ⟨
  (gs_istore_n dX11_bestChange_27 rfl), List.forall_mem_cons.mpr ⟨
  (gs_bipush dX11_bestChange_28 rfl), List.forall_mem_cons.mpr ⟨
  (gs_istore_n dX11_bestChange_30 rfl), List.forall_mem_cons.mpr ⟨
  (gs_iconst dX11_bestChange_31 rfl), List.forall_mem_cons.mpr ⟨
  (gs_istore dX11_bestChange_32), List.forall_mem_cons.mpr ⟨
  (gs_iload dX11_bestChange_34), List.forall_mem_cons.mpr ⟨
  (gs_aload_n dX11_bestChange_36 rfl), List.forall_mem_cons.mpr ⟨
  (gs_gf (ref := "GriefCranes") dX11_bestChange_37 (gx_mem 371 (by decide +kernel) (by decide +kernel)) (Or.inl rfl) gf_11_0), List.forall_mem_cons.mpr ⟨
  (gs_gf (ref := "GriefCranes$Yard") dX11_bestChange_40 (gx_mem 325 (by decide +kernel) (by decide +kernel)) (Or.inl rfl) gf_10_9), List.forall_mem_cons.mpr ⟨
  (gs_icmp_ge dX11_bestChange_43 rfl), List.forall_mem_cons.mpr ⟨
  (gs_iload dX11_bestChange_46), List.forall_mem_cons.mpr ⟨
  (gs_iconst dX11_bestChange_48 rfl), List.forall_mem_cons.mpr ⟨
  (gs_iadd dX11_bestChange_49), List.forall_mem_cons.mpr ⟨
  (gs_istore dX11_bestChange_50), List.forall_mem_cons.mpr ⟨
  (gs_iload dX11_bestChange_52), List.forall_mem_cons.mpr ⟨
  (gs_aload_n dX11_bestChange_54 rfl), List.forall_mem_cons.mpr ⟨
  (gs_gf (ref := "GriefCranes") dX11_bestChange_55 (gx_mem 371 (by decide +kernel) (by decide +kernel)) (Or.inl rfl) gf_11_0), List.forall_mem_cons.mpr ⟨
  (gs_gf (ref := "GriefCranes$Yard") dX11_bestChange_58 (gx_mem 325 (by decide +kernel) (by decide +kernel)) (Or.inl rfl) gf_10_9), List.forall_mem_cons.mpr ⟨
  (gs_icmp_ge dX11_bestChange_61 rfl), fun _ h => absurd h List.not_mem_nil⟩⟩⟩⟩⟩⟩⟩⟩⟩⟩⟩⟩⟩⟩⟩⟩⟩⟩⟩⟩⟩⟩⟩⟩⟩⟩⟩⟩⟩⟩⟩⟩
set_option maxRecDepth 20000 in
theorem kt_X11_bestChange_1 (g : gx_T) : ∀ q ∈ k_X11_bestChange_1, gx_E g gc_md RX11 cX11_bestChange 7 (some .int) "bestChange" q.1 q.2 := List.forall_mem_cons.mpr ⟨(gs_aload_n dX11_bestChange_64 rfl), List.forall_mem_cons.mpr ⟨
  (gs_gf (ref := "GriefCranes") dX11_bestChange_65 (gx_mem 371 (by decide +kernel) (by decide +kernel)) (Or.inl rfl) gf_11_0), List.forall_mem_cons.mpr ⟨
  (gs_iload dX11_bestChange_68), List.forall_mem_cons.mpr ⟨
  (gs_iconst dX11_bestChange_70 rfl), List.forall_mem_cons.mpr ⟨
  (gs_cv dX11_bestChange_71 (fun q hq => by
      simp only [List.mem_cons, List.not_mem_nil, or_false] at hq
      subst hq
      exact Or.inl ⟨_, rfl, by decide, by decide +kernel, by decide +kernel, List.forall_mem_cons.mpr ⟨gx_mem 521 (by decide +kernel) (by decide +kernel), List.forall_mem_cons.mpr ⟨gx_mem 522 (by decide +kernel) (by decide +kernel), List.forall_mem_cons.mpr ⟨gx_mem 523 (by decide +kernel) (by decide +kernel), List.forall_mem_cons.mpr ⟨gx_mem 95 (by decide +kernel) (by decide +kernel), List.forall_mem_cons.mpr ⟨cw_524, fun _ h => absurd h List.not_mem_nil⟩⟩⟩⟩⟩⟩)), List.forall_mem_cons.mpr ⟨
  (gs_if_eq dX11_bestChange_74 rfl), List.forall_mem_cons.mpr ⟨
  (gs_aload_n dX11_bestChange_77 rfl), List.forall_mem_cons.mpr ⟨
  (gs_gf (ref := "GriefCranes") dX11_bestChange_78 (gx_mem 371 (by decide +kernel) (by decide +kernel)) (Or.inl rfl) gf_11_0), List.forall_mem_cons.mpr ⟨
  (gs_iload dX11_bestChange_81), List.forall_mem_cons.mpr ⟨
  (gs_iconst dX11_bestChange_83 rfl), List.forall_mem_cons.mpr ⟨
  (gs_cv dX11_bestChange_84 (fun q hq => by
      simp only [List.mem_cons, List.not_mem_nil, or_false] at hq
      subst hq
      exact Or.inl ⟨_, rfl, by decide, by decide +kernel, by decide +kernel, List.forall_mem_cons.mpr ⟨gx_mem 521 (by decide +kernel) (by decide +kernel), List.forall_mem_cons.mpr ⟨gx_mem 522 (by decide +kernel) (by decide +kernel), List.forall_mem_cons.mpr ⟨gx_mem 523 (by decide +kernel) (by decide +kernel), List.forall_mem_cons.mpr ⟨gx_mem 95 (by decide +kernel) (by decide +kernel), List.forall_mem_cons.mpr ⟨cw_524, fun _ h => absurd h List.not_mem_nil⟩⟩⟩⟩⟩⟩)), List.forall_mem_cons.mpr ⟨
  (gs_if_ne dX11_bestChange_87 rfl), List.forall_mem_cons.mpr ⟨
  (gs_goto dX11_bestChange_90 rfl), List.forall_mem_cons.mpr ⟨
  (gs_aload_n dX11_bestChange_93 rfl), List.forall_mem_cons.mpr ⟨
  (gs_gf (ref := "GriefCranes") dX11_bestChange_94 (gx_mem 372 (by decide +kernel) (by decide +kernel)) (Or.inl rfl) gf_11_1), List.forall_mem_cons.mpr ⟨
  (gs_aload_n dX11_bestChange_97 rfl), List.forall_mem_cons.mpr ⟨
  (gs_gf (ref := "GriefCranes") dX11_bestChange_98 (gx_mem 371 (by decide +kernel) (by decide +kernel)) (Or.inl rfl) gf_11_0), List.forall_mem_cons.mpr ⟨
  (gs_cv dX11_bestChange_101 (fun q hq => by
      simp only [List.mem_cons, List.not_mem_nil, or_false] at hq
      subst hq
      exact Or.inl ⟨_, rfl, by decide, by decide +kernel, by decide +kernel, List.forall_mem_cons.mpr ⟨gx_mem 510 (by decide +kernel) (by decide +kernel), List.forall_mem_cons.mpr ⟨gx_mem 511 (by decide +kernel) (by decide +kernel), List.forall_mem_cons.mpr ⟨gx_mem 512 (by decide +kernel) (by decide +kernel), List.forall_mem_cons.mpr ⟨gx_mem 95 (by decide +kernel) (by decide +kernel), List.forall_mem_cons.mpr ⟨cw_513, fun _ h => absurd h List.not_mem_nil⟩⟩⟩⟩⟩⟩)), List.forall_mem_cons.mpr ⟨
  (gs_aload_n dX11_bestChange_104 rfl), List.forall_mem_cons.mpr ⟨
  (gs_gf (ref := "GriefCranes") dX11_bestChange_105 (gx_mem 372 (by decide +kernel) (by decide +kernel)) (Or.inl rfl) gf_11_1), List.forall_mem_cons.mpr ⟨
  (gs_gf (ref := "GriefCranes$Yard") dX11_bestChange_108 (gx_mem 330 (by decide +kernel) (by decide +kernel)) (Or.inl rfl) gf_10_11), List.forall_mem_cons.mpr ⟨
  (gs_iload dX11_bestChange_111), List.forall_mem_cons.mpr ⟨
  (gs_aload_n dX11_bestChange_113 rfl), List.forall_mem_cons.mpr ⟨
  (gs_gf (ref := "GriefCranes") dX11_bestChange_114 (gx_mem 371 (by decide +kernel) (by decide +kernel)) (Or.inl rfl) gf_11_0), List.forall_mem_cons.mpr ⟨
  (gs_gf (ref := "GriefCranes$Yard") dX11_bestChange_117 (gx_mem 330 (by decide +kernel) (by decide +kernel)) (Or.inl rfl) gf_10_11), List.forall_mem_cons.mpr ⟨
  (gs_iload dX11_bestChange_120), List.forall_mem_cons.mpr ⟨
  (gs_iaload dX11_bestChange_122), List.forall_mem_cons.mpr ⟨
  (gs_iastore dX11_bestChange_123), List.forall_mem_cons.mpr ⟨
  (gs_aload_n dX11_bestChange_124 rfl), List.forall_mem_cons.mpr ⟨
  (gs_gf (ref := "GriefCranes") dX11_bestChange_125 (gx_mem 372 (by decide +kernel) (by decide +kernel)) (Or.inl rfl) gf_11_1), List.forall_mem_cons.mpr ⟨
  (gs_gf (ref := "GriefCranes$Yard") dX11_bestChange_128 (gx_mem 330 (by decide +kernel) (by decide +kernel)) (Or.inl rfl) gf_10_11), List.forall_mem_cons.mpr ⟨
  (gs_iload dX11_bestChange_131), fun _ h => absurd h List.not_mem_nil⟩⟩⟩⟩⟩⟩⟩⟩⟩⟩⟩⟩⟩⟩⟩⟩⟩⟩⟩⟩⟩⟩⟩⟩⟩⟩⟩⟩⟩⟩⟩⟩
set_option maxRecDepth 20000 in
theorem kt_X11_bestChange_2 (g : gx_T) : ∀ q ∈ k_X11_bestChange_2, gx_E g gc_md RX11 cX11_bestChange 7 (some .int) "bestChange" q.1 q.2 := List.forall_mem_cons.mpr ⟨(gs_aload_n dX11_bestChange_133 rfl), List.forall_mem_cons.mpr ⟨
  (gs_gf (ref := "GriefCranes") dX11_bestChange_134 (gx_mem 371 (by decide +kernel) (by decide +kernel)) (Or.inl rfl) gf_11_0), List.forall_mem_cons.mpr ⟨
  (gs_gf (ref := "GriefCranes$Yard") dX11_bestChange_137 (gx_mem 330 (by decide +kernel) (by decide +kernel)) (Or.inl rfl) gf_10_11), List.forall_mem_cons.mpr ⟨
  (gs_iload dX11_bestChange_140), List.forall_mem_cons.mpr ⟨
  (gs_iaload dX11_bestChange_142), List.forall_mem_cons.mpr ⟨
  (gs_iastore dX11_bestChange_143), List.forall_mem_cons.mpr ⟨
  (gs_aload_n dX11_bestChange_144 rfl), List.forall_mem_cons.mpr ⟨
  (gs_gf (ref := "GriefCranes") dX11_bestChange_145 (gx_mem 372 (by decide +kernel) (by decide +kernel)) (Or.inl rfl) gf_11_1), List.forall_mem_cons.mpr ⟨
  (gs_iload_n dX11_bestChange_148 rfl), List.forall_mem_cons.mpr ⟨
  (gs_cv dX11_bestChange_149 (fun q hq => by
      simp only [List.mem_cons, List.not_mem_nil, or_false] at hq
      subst hq
      exact Or.inl ⟨_, rfl, by decide, by decide +kernel, by decide +kernel, List.forall_mem_cons.mpr ⟨gx_mem 526 (by decide +kernel) (by decide +kernel), List.forall_mem_cons.mpr ⟨gx_mem 527 (by decide +kernel) (by decide +kernel), List.forall_mem_cons.mpr ⟨gx_mem 528 (by decide +kernel) (by decide +kernel), List.forall_mem_cons.mpr ⟨gx_mem 95 (by decide +kernel) (by decide +kernel), List.forall_mem_cons.mpr ⟨cw_529, fun _ h => absurd h List.not_mem_nil⟩⟩⟩⟩⟩⟩)), List.forall_mem_cons.mpr ⟨
  (gs_aload_n dX11_bestChange_152 rfl), List.forall_mem_cons.mpr ⟨
  (gs_gf (ref := "GriefCranes") dX11_bestChange_153 (gx_mem 372 (by decide +kernel) (by decide +kernel)) (Or.inl rfl) gf_11_1), List.forall_mem_cons.mpr ⟨
  (gs_iconst dX11_bestChange_156 rfl), List.forall_mem_cons.mpr ⟨
  (gs_cv dX11_bestChange_157 (fun q hq => by
      simp only [List.mem_cons, List.not_mem_nil, or_false] at hq
      subst hq
      exact Or.inl ⟨_, rfl, by decide, by decide +kernel, by decide +kernel, List.forall_mem_cons.mpr ⟨gx_mem 749 (by decide +kernel) (by decide +kernel), List.forall_mem_cons.mpr ⟨gx_mem 750 (by decide +kernel) (by decide +kernel), List.forall_mem_cons.mpr ⟨gx_mem 751 (by decide +kernel) (by decide +kernel), List.forall_mem_cons.mpr ⟨gx_mem 95 (by decide +kernel) (by decide +kernel), List.forall_mem_cons.mpr ⟨cw_752, fun _ h => absurd h List.not_mem_nil⟩⟩⟩⟩⟩⟩)), List.forall_mem_cons.mpr ⟨
  (gs_istore dX11_bestChange_160), List.forall_mem_cons.mpr ⟨
  (gs_iload dX11_bestChange_162), List.forall_mem_cons.mpr ⟨
  (gs_iload_n dX11_bestChange_164 rfl), List.forall_mem_cons.mpr ⟨
  (gs_icmp_ge dX11_bestChange_165 rfl), List.forall_mem_cons.mpr ⟨
  (gs_iload dX11_bestChange_168), List.forall_mem_cons.mpr ⟨
  (gs_istore_n dX11_bestChange_170 rfl), List.forall_mem_cons.mpr ⟨
  (gs_bipush dX11_bestChange_171 rfl), List.forall_mem_cons.mpr ⟨
  (gs_iload dX11_bestChange_173), List.forall_mem_cons.mpr ⟨
  (gs_imul dX11_bestChange_175), List.forall_mem_cons.mpr ⟨
  (gs_iload dX11_bestChange_176), List.forall_mem_cons.mpr ⟨
  (gs_iadd dX11_bestChange_178), List.forall_mem_cons.mpr ⟨
  (gs_istore_n dX11_bestChange_179 rfl), List.forall_mem_cons.mpr ⟨
  (gs_iinc dX11_bestChange_180), List.forall_mem_cons.mpr ⟨
  (gs_goto dX11_bestChange_183 rfl), List.forall_mem_cons.mpr ⟨
  (gs_iinc dX11_bestChange_186), List.forall_mem_cons.mpr ⟨
  (gs_goto dX11_bestChange_189 rfl), List.forall_mem_cons.mpr ⟨
  (gs_iload_n dX11_bestChange_192 rfl), List.forall_mem_cons.mpr ⟨
  (gs_ri dX11_bestChange_193), fun _ h => absurd h List.not_mem_nil⟩⟩⟩⟩⟩⟩⟩⟩⟩⟩⟩⟩⟩⟩⟩⟩⟩⟩⟩⟩⟩⟩⟩⟩⟩⟩⟩⟩⟩⟩⟩⟩
theorem kt_X11_bestChange (g : gx_T) : ∀ q ∈ k_X11_bestChange, gx_E g gc_md RX11 cX11_bestChange 7 (some .int) "bestChange" q.1 q.2 := List.forall_mem_append.mpr ⟨kt_X11_bestChange_0 g, List.forall_mem_append.mpr ⟨kt_X11_bestChange_1 g, kt_X11_bestChange_2 g⟩⟩
set_option maxRecDepth 20000 in
theorem dX11_leastCrew_0 : decode cX11_leastCrew 0 = .ok (.iconst 1, 1) := by decide +kernel
set_option maxRecDepth 20000 in
theorem dX11_leastCrew_1 : decode cX11_leastCrew 1 = .ok (.aload_n 0, 1) := by decide +kernel
set_option maxRecDepth 20000 in
theorem dX11_leastCrew_2 : decode cX11_leastCrew 2 = .ok (.getfield 98, 3) := by decide +kernel
set_option maxRecDepth 20000 in
theorem dX11_leastCrew_5 : decode cX11_leastCrew 5 = .ok (.getfield 112, 3) := by decide +kernel
set_option maxRecDepth 20000 in
theorem dX11_leastCrew_8 : decode cX11_leastCrew 8 = .ok (.ishl, 1) := by decide +kernel
set_option maxRecDepth 20000 in
theorem dX11_leastCrew_9 : decode cX11_leastCrew 9 = .ok (.iconst 1, 1) := by decide +kernel
set_option maxRecDepth 20000 in
theorem dX11_leastCrew_10 : decode cX11_leastCrew 10 = .ok (.isub, 1) := by decide +kernel
set_option maxRecDepth 20000 in
theorem dX11_leastCrew_11 : decode cX11_leastCrew 11 = .ok (.istore_n 2, 1) := by decide +kernel
set_option maxRecDepth 20000 in
theorem dX11_leastCrew_12 : decode cX11_leastCrew 12 = .ok (.aload_n 0, 1) := by decide +kernel
set_option maxRecDepth 20000 in
theorem dX11_leastCrew_13 : decode cX11_leastCrew 13 = .ok (.iload_n 2, 1) := by decide +kernel
set_option maxRecDepth 20000 in
theorem dX11_leastCrew_14 : decode cX11_leastCrew 14 = .ok (.iload_n 1, 1) := by decide +kernel
set_option maxRecDepth 20000 in
theorem dX11_leastCrew_15 : decode cX11_leastCrew 15 = .ok (.invokevirtual 296, 3) := by decide +kernel
set_option maxRecDepth 20000 in
theorem dX11_leastCrew_18 : decode cX11_leastCrew 18 = .ok (.istore_n 3, 1) := by decide +kernel
set_option maxRecDepth 20000 in
theorem dX11_leastCrew_19 : decode cX11_leastCrew 19 = .ok (.bipush (-5), 2) := by decide +kernel
set_option maxRecDepth 20000 in
theorem dX11_leastCrew_21 : decode cX11_leastCrew 21 = .ok (.istore 4, 2) := by decide +kernel
set_option maxRecDepth 20000 in
theorem dX11_leastCrew_23 : decode cX11_leastCrew 23 = .ok (.bipush 7, 2) := by decide +kernel
set_option maxRecDepth 20000 in
theorem dX11_leastCrew_25 : decode cX11_leastCrew 25 = .ok (.istore 5, 2) := by decide +kernel
set_option maxRecDepth 20000 in
theorem dX11_leastCrew_27 : decode cX11_leastCrew 27 = .ok (.iconst 0, 1) := by decide +kernel
set_option maxRecDepth 20000 in
theorem dX11_leastCrew_28 : decode cX11_leastCrew 28 = .ok (.istore 6, 2) := by decide +kernel
set_option maxRecDepth 20000 in
theorem dX11_leastCrew_30 : decode cX11_leastCrew 30 = .ok (.iload 6, 2) := by decide +kernel
set_option maxRecDepth 20000 in
theorem dX11_leastCrew_32 : decode cX11_leastCrew 32 = .ok (.iload_n 2, 1) := by decide +kernel
set_option maxRecDepth 20000 in
theorem dX11_leastCrew_33 : decode cX11_leastCrew 33 = .ok (.if_icmp .gt 42, 3) := by decide +kernel
set_option maxRecDepth 20000 in
theorem dX11_leastCrew_36 : decode cX11_leastCrew 36 = .ok (.iload 6, 2) := by decide +kernel
set_option maxRecDepth 20000 in
theorem dX11_leastCrew_38 : decode cX11_leastCrew 38 = .ok (.invokestatic 299, 3) := by decide +kernel
set_option maxRecDepth 20000 in
theorem dX11_leastCrew_41 : decode cX11_leastCrew 41 = .ok (.istore 7, 2) := by decide +kernel
set_option maxRecDepth 20000 in
theorem dX11_leastCrew_43 : decode cX11_leastCrew 43 = .ok (.iload 7, 2) := by decide +kernel
set_option maxRecDepth 20000 in
theorem dX11_leastCrew_45 : decode cX11_leastCrew 45 = .ok (.iload 5, 2) := by decide +kernel
set_option maxRecDepth 20000 in
theorem dX11_leastCrew_47 : decode cX11_leastCrew 47 = .ok (.if_icmp .ge 22, 3) := by decide +kernel
set_option maxRecDepth 20000 in
theorem dX11_leastCrew_50 : decode cX11_leastCrew 50 = .ok (.aload_n 0, 1) := by decide +kernel
set_option maxRecDepth 20000 in
theorem dX11_leastCrew_51 : decode cX11_leastCrew 51 = .ok (.iload 6, 2) := by decide +kernel
set_option maxRecDepth 20000 in
theorem dX11_leastCrew_53 : decode cX11_leastCrew 53 = .ok (.iload_n 1, 1) := by decide +kernel
set_option maxRecDepth 20000 in
theorem dX11_leastCrew_54 : decode cX11_leastCrew 54 = .ok (.invokevirtual 296, 3) := by decide +kernel
set_option maxRecDepth 20000 in
theorem dX11_leastCrew_57 : decode cX11_leastCrew 57 = .ok (.iload_n 3, 1) := by decide +kernel
set_option maxRecDepth 20000 in
theorem dX11_leastCrew_58 : decode cX11_leastCrew 58 = .ok (.if_icmp .lt 11, 3) := by decide +kernel
set_option maxRecDepth 20000 in
theorem dX11_leastCrew_61 : decode cX11_leastCrew 61 = .ok (.iload 7, 2) := by decide +kernel
set_option maxRecDepth 20000 in
theorem dX11_leastCrew_63 : decode cX11_leastCrew 63 = .ok (.istore 5, 2) := by decide +kernel
set_option maxRecDepth 20000 in
theorem dX11_leastCrew_65 : decode cX11_leastCrew 65 = .ok (.iload 6, 2) := by decide +kernel
set_option maxRecDepth 20000 in
theorem dX11_leastCrew_67 : decode cX11_leastCrew 67 = .ok (.istore 4, 2) := by decide +kernel
set_option maxRecDepth 20000 in
theorem dX11_leastCrew_69 : decode cX11_leastCrew 69 = .ok (.iinc 6 1, 3) := by decide +kernel
set_option maxRecDepth 20000 in
theorem dX11_leastCrew_72 : decode cX11_leastCrew 72 = .ok (.goto (-42), 3) := by decide +kernel
set_option maxRecDepth 20000 in
theorem dX11_leastCrew_75 : decode cX11_leastCrew 75 = .ok (.iload 4, 2) := by decide +kernel
set_option maxRecDepth 20000 in
theorem dX11_leastCrew_77 : decode cX11_leastCrew 77 = .ok (.ireturn, 1) := by decide +kernel
set_option maxRecDepth 20000 in
theorem kt_X11_leastCrew_0 (g : gx_T) : ∀ q ∈ k_X11_leastCrew_0, gx_E g gc_md RX11 cX11_leastCrew 8 (some .int) "leastCrew" q.1 q.2 := List.forall_mem_cons.mpr ⟨(gs_iconst dX11_leastCrew_0 rfl), List.forall_mem_cons.mpr ⟨
  (gs_aload_n dX11_leastCrew_1 rfl), List.forall_mem_cons.mpr ⟨
  (gs_gf (ref := "GriefCranes") dX11_leastCrew_2 (gx_mem 371 (by decide +kernel) (by decide +kernel)) (Or.inl rfl) gf_11_0), List.forall_mem_cons.mpr ⟨
  (gs_gf (ref := "GriefCranes$Yard") dX11_leastCrew_5 (gx_mem 311 (by decide +kernel) (by decide +kernel)) (Or.inl rfl) gf_10_4), List.forall_mem_cons.mpr ⟨
  (gs_ishl dX11_leastCrew_8), List.forall_mem_cons.mpr ⟨
  (gs_iconst dX11_leastCrew_9 rfl), List.forall_mem_cons.mpr ⟨
  (gs_isub dX11_leastCrew_10), List.forall_mem_cons.mpr ⟨
  (gs_istore_n dX11_leastCrew_11 rfl), List.forall_mem_cons.mpr ⟨
  (gs_aload_n dX11_leastCrew_12 rfl), List.forall_mem_cons.mpr ⟨
  (gs_iload_n dX11_leastCrew_13 rfl), List.forall_mem_cons.mpr ⟨
  (gs_iload_n dX11_leastCrew_14 rfl), List.forall_mem_cons.mpr ⟨
  (gs_cv dX11_leastCrew_15 (fun q hq => by
      simp only [List.mem_cons, List.not_mem_nil, or_false] at hq
      subst hq
      exact Or.inl ⟨_, rfl, by decide, by decide +kernel, by decide +kernel, List.forall_mem_cons.mpr ⟨gx_mem 772 (by decide +kernel) (by decide +kernel), List.forall_mem_cons.mpr ⟨gx_mem 774 (by decide +kernel) (by decide +kernel), List.forall_mem_cons.mpr ⟨gx_mem 19 (by decide +kernel) (by decide +kernel), List.forall_mem_cons.mpr ⟨gx_mem 84 (by decide +kernel) (by decide +kernel), List.forall_mem_cons.mpr ⟨cw_775, fun _ h => absurd h List.not_mem_nil⟩⟩⟩⟩⟩⟩)), List.forall_mem_cons.mpr ⟨
  (gs_istore_n dX11_leastCrew_18 rfl), List.forall_mem_cons.mpr ⟨
  (gs_bipush dX11_leastCrew_19 rfl), List.forall_mem_cons.mpr ⟨
  (gs_istore dX11_leastCrew_21), List.forall_mem_cons.mpr ⟨
  (gs_bipush dX11_leastCrew_23 rfl), List.forall_mem_cons.mpr ⟨
  (gs_istore dX11_leastCrew_25), List.forall_mem_cons.mpr ⟨
  (gs_iconst dX11_leastCrew_27 rfl), List.forall_mem_cons.mpr ⟨
  (gs_istore dX11_leastCrew_28), List.forall_mem_cons.mpr ⟨
  (gs_iload dX11_leastCrew_30), List.forall_mem_cons.mpr ⟨
  (gs_iload_n dX11_leastCrew_32 rfl), List.forall_mem_cons.mpr ⟨
  (gs_icmp_gt dX11_leastCrew_33 rfl), List.forall_mem_cons.mpr ⟨
  (gs_iload dX11_leastCrew_36), List.forall_mem_cons.mpr ⟨
  (gs_cs dX11_leastCrew_38 (md_216) (List.forall_mem_cons.mpr ⟨gx_mem 776 (by decide +kernel) (by decide +kernel), List.forall_mem_cons.mpr ⟨gx_mem 755 (by decide +kernel) (by decide +kernel), List.forall_mem_cons.mpr ⟨gx_mem 104 (by decide +kernel) (by decide +kernel), List.forall_mem_cons.mpr ⟨cw_756, fun _ h => absurd h List.not_mem_nil⟩⟩⟩⟩) (by decide +kernel) (by decide)), List.forall_mem_cons.mpr ⟨
  (gs_istore dX11_leastCrew_41), List.forall_mem_cons.mpr ⟨
  (gs_iload dX11_leastCrew_43), List.forall_mem_cons.mpr ⟨
  (gs_iload dX11_leastCrew_45), List.forall_mem_cons.mpr ⟨
  (gs_icmp_ge dX11_leastCrew_47 rfl), List.forall_mem_cons.mpr ⟨
  (gs_aload_n dX11_leastCrew_50 rfl), List.forall_mem_cons.mpr ⟨
  (gs_iload dX11_leastCrew_51), List.forall_mem_cons.mpr ⟨
  (gs_iload_n dX11_leastCrew_53 rfl), List.forall_mem_cons.mpr ⟨
  (gs_cv dX11_leastCrew_54 (fun q hq => by
      simp only [List.mem_cons, List.not_mem_nil, or_false] at hq
      subst hq
      exact Or.inl ⟨_, rfl, by decide, by decide +kernel, by decide +kernel, List.forall_mem_cons.mpr ⟨gx_mem 772 (by decide +kernel) (by decide +kernel), List.forall_mem_cons.mpr ⟨gx_mem 774 (by decide +kernel) (by decide +kernel), List.forall_mem_cons.mpr ⟨gx_mem 19 (by decide +kernel) (by decide +kernel), List.forall_mem_cons.mpr ⟨gx_mem 84 (by decide +kernel) (by decide +kernel), List.forall_mem_cons.mpr ⟨cw_775, fun _ h => absurd h List.not_mem_nil⟩⟩⟩⟩⟩⟩)), fun _ h => absurd h List.not_mem_nil⟩⟩⟩⟩⟩⟩⟩⟩⟩⟩⟩⟩⟩⟩⟩⟩⟩⟩⟩⟩⟩⟩⟩⟩⟩⟩⟩⟩⟩⟩⟩⟩
set_option maxRecDepth 20000 in
theorem kt_X11_leastCrew_1 (g : gx_T) : ∀ q ∈ k_X11_leastCrew_1, gx_E g gc_md RX11 cX11_leastCrew 8 (some .int) "leastCrew" q.1 q.2 := List.forall_mem_cons.mpr ⟨(gs_iload_n dX11_leastCrew_57 rfl), List.forall_mem_cons.mpr ⟨
  (gs_icmp_lt dX11_leastCrew_58 rfl), List.forall_mem_cons.mpr ⟨
  (gs_iload dX11_leastCrew_61), List.forall_mem_cons.mpr ⟨
  (gs_istore dX11_leastCrew_63), List.forall_mem_cons.mpr ⟨
  (gs_iload dX11_leastCrew_65), List.forall_mem_cons.mpr ⟨
  (gs_istore dX11_leastCrew_67), List.forall_mem_cons.mpr ⟨
  (gs_iinc dX11_leastCrew_69), List.forall_mem_cons.mpr ⟨
  (gs_goto dX11_leastCrew_72 rfl), List.forall_mem_cons.mpr ⟨
  (gs_iload dX11_leastCrew_75), List.forall_mem_cons.mpr ⟨
  (gs_ri dX11_leastCrew_77), fun _ h => absurd h List.not_mem_nil⟩⟩⟩⟩⟩⟩⟩⟩⟩⟩
theorem kt_X11_leastCrew (g : gx_T) : ∀ q ∈ k_X11_leastCrew, gx_E g gc_md RX11 cX11_leastCrew 8 (some .int) "leastCrew" q.1 q.2 := List.forall_mem_append.mpr ⟨kt_X11_leastCrew_0 g, kt_X11_leastCrew_1 g⟩
set_option maxRecDepth 20000 in
theorem dX11_laidWith_0 : decode cX11_laidWith 0 = .ok (.aload_n 0, 1) := by decide +kernel
set_option maxRecDepth 20000 in
theorem dX11_laidWith_1 : decode cX11_laidWith 1 = .ok (.getfield 102, 3) := by decide +kernel
set_option maxRecDepth 20000 in
theorem dX11_laidWith_4 : decode cX11_laidWith 4 = .ok (.aload_n 0, 1) := by decide +kernel
set_option maxRecDepth 20000 in
theorem dX11_laidWith_5 : decode cX11_laidWith 5 = .ok (.getfield 98, 3) := by decide +kernel
set_option maxRecDepth 20000 in
theorem dX11_laidWith_8 : decode cX11_laidWith 8 = .ok (.invokevirtual 167, 3) := by decide +kernel
set_option maxRecDepth 20000 in
theorem dX11_laidWith_11 : decode cX11_laidWith 11 = .ok (.iconst 0, 1) := by decide +kernel
set_option maxRecDepth 20000 in
theorem dX11_laidWith_12 : decode cX11_laidWith 12 = .ok (.istore_n 3, 1) := by decide +kernel
set_option maxRecDepth 20000 in
theorem dX11_laidWith_13 : decode cX11_laidWith 13 = .ok (.iload_n 3, 1) := by decide +kernel
set_option maxRecDepth 20000 in
theorem dX11_laidWith_14 : decode cX11_laidWith 14 = .ok (.aload_n 0, 1) := by decide +kernel
set_option maxRecDepth 20000 in
theorem dX11_laidWith_15 : decode cX11_laidWith 15 = .ok (.getfield 98, 3) := by decide +kernel
set_option maxRecDepth 20000 in
theorem dX11_laidWith_18 : decode cX11_laidWith 18 = .ok (.getfield 146, 3) := by decide +kernel
set_option maxRecDepth 20000 in
theorem dX11_laidWith_21 : decode cX11_laidWith 21 = .ok (.if_icmp .ge 70, 3) := by decide +kernel
set_option maxRecDepth 20000 in
theorem dX11_laidWith_24 : decode cX11_laidWith 24 = .ok (.aload_n 0, 1) := by decide +kernel
set_option maxRecDepth 20000 in
theorem dX11_laidWith_25 : decode cX11_laidWith 25 = .ok (.getfield 98, 3) := by decide +kernel
set_option maxRecDepth 20000 in
theorem dX11_laidWith_28 : decode cX11_laidWith 28 = .ok (.getfield 155, 3) := by decide +kernel
set_option maxRecDepth 20000 in
theorem dX11_laidWith_31 : decode cX11_laidWith 31 = .ok (.iload_n 3, 1) := by decide +kernel
set_option maxRecDepth 20000 in
theorem dX11_laidWith_32 : decode cX11_laidWith 32 = .ok (.iaload, 1) := by decide +kernel
set_option maxRecDepth 20000 in
theorem dX11_laidWith_33 : decode cX11_laidWith 33 = .ok (.istore 4, 2) := by decide +kernel
set_option maxRecDepth 20000 in
theorem dX11_laidWith_35 : decode cX11_laidWith 35 = .ok (.iload 4, 2) := by decide +kernel
set_option maxRecDepth 20000 in
theorem dX11_laidWith_37 : decode cX11_laidWith 37 = .ok (.iconst (-1), 1) := by decide +kernel
set_option maxRecDepth 20000 in
theorem dX11_laidWith_38 : decode cX11_laidWith 38 = .ok (.if_icmp .eq 13, 3) := by decide +kernel
set_option maxRecDepth 20000 in
theorem dX11_laidWith_41 : decode cX11_laidWith 41 = .ok (.iload_n 1, 1) := by decide +kernel
set_option maxRecDepth 20000 in
theorem dX11_laidWith_42 : decode cX11_laidWith 42 = .ok (.iload 4, 2) := by decide +kernel
set_option maxRecDepth 20000 in
theorem dX11_laidWith_44 : decode cX11_laidWith 44 = .ok (.ishr, 1) := by decide +kernel
set_option maxRecDepth 20000 in
theorem dX11_laidWith_45 : decode cX11_laidWith 45 = .ok (.iconst 1, 1) := by decide +kernel
set_option maxRecDepth 20000 in
theorem dX11_laidWith_46 : decode cX11_laidWith 46 = .ok (.iand, 1) := by decide +kernel
set_option maxRecDepth 20000 in
theorem dX11_laidWith_47 : decode cX11_laidWith 47 = .ok (.iconst 1, 1) := by decide +kernel
set_option maxRecDepth 20000 in
theorem dX11_laidWith_48 : decode cX11_laidWith 48 = .ok (.if_icmp .ne 7, 3) := by decide +kernel
set_option maxRecDepth 20000 in
theorem dX11_laidWith_51 : decode cX11_laidWith 51 = .ok (.iconst 1, 1) := by decide +kernel
set_option maxRecDepth 20000 in
theorem dX11_laidWith_52 : decode cX11_laidWith 52 = .ok (.goto 4, 3) := by decide +kernel
set_option maxRecDepth 20000 in
theorem dX11_laidWith_55 : decode cX11_laidWith 55 = .ok (.iconst 0, 1) := by decide +kernel
set_option maxRecDepth 20000 in
theorem dX11_laidWith_56 : decode cX11_laidWith 56 = .ok (.istore 5, 2) := by decide +kernel
set_option maxRecDepth 20000 in
theorem dX11_laidWith_58 : decode cX11_laidWith 58 = .ok (.aload_n 0, 1) := by decide +kernel
set_option maxRecDepth 20000 in
theorem dX11_laidWith_59 : decode cX11_laidWith 59 = .ok (.getfield 98, 3) := by decide +kernel
set_option maxRecDepth 20000 in
theorem dX11_laidWith_62 : decode cX11_laidWith 62 = .ok (.iload_n 3, 1) := by decide +kernel
set_option maxRecDepth 20000 in
theorem dX11_laidWith_63 : decode cX11_laidWith 63 = .ok (.iconst 0, 1) := by decide +kernel
set_option maxRecDepth 20000 in
theorem dX11_laidWith_64 : decode cX11_laidWith 64 = .ok (.invokevirtual 230, 3) := by decide +kernel
set_option maxRecDepth 20000 in
theorem dX11_laidWith_67 : decode cX11_laidWith 67 = .ok (.ifCond .eq 18, 3) := by decide +kernel
set_option maxRecDepth 20000 in
theorem dX11_laidWith_70 : decode cX11_laidWith 70 = .ok (.iload 5, 2) := by decide +kernel
set_option maxRecDepth 20000 in
theorem dX11_laidWith_72 : decode cX11_laidWith 72 = .ok (.ifCond .ne 13, 3) := by decide +kernel
set_option maxRecDepth 20000 in
theorem dX11_laidWith_75 : decode cX11_laidWith 75 = .ok (.aload_n 0, 1) := by decide +kernel
set_option maxRecDepth 20000 in
theorem dX11_laidWith_76 : decode cX11_laidWith 76 = .ok (.getfield 102, 3) := by decide +kernel
set_option maxRecDepth 20000 in
theorem dX11_laidWith_79 : decode cX11_laidWith 79 = .ok (.getfield 155, 3) := by decide +kernel
set_option maxRecDepth 20000 in
theorem dX11_laidWith_82 : decode cX11_laidWith 82 = .ok (.iload_n 3, 1) := by decide +kernel
set_option maxRecDepth 20000 in
theorem dX11_laidWith_83 : decode cX11_laidWith 83 = .ok (.iconst (-1), 1) := by decide +kernel
set_option maxRecDepth 20000 in
theorem dX11_laidWith_84 : decode cX11_laidWith 84 = .ok (.iastore, 1) := by decide +kernel
set_option maxRecDepth 20000 in
theorem dX11_laidWith_85 : decode cX11_laidWith 85 = .ok (.iinc 3 1, 3) := by decide +kernel
set_option maxRecDepth 20000 in
theorem dX11_laidWith_88 : decode cX11_laidWith 88 = .ok (.goto (-75), 3) := by decide +kernel
set_option maxRecDepth 20000 in
theorem dX11_laidWith_91 : decode cX11_laidWith 91 = .ok (.aload_n 0, 1) := by decide +kernel
set_option maxRecDepth 20000 in
theorem dX11_laidWith_92 : decode cX11_laidWith 92 = .ok (.getfield 102, 3) := by decide +kernel
set_option maxRecDepth 20000 in
theorem dX11_laidWith_95 : decode cX11_laidWith 95 = .ok (.iload_n 2, 1) := by decide +kernel
set_option maxRecDepth 20000 in
theorem dX11_laidWith_96 : decode cX11_laidWith 96 = .ok (.invokevirtual 208, 3) := by decide +kernel
set_option maxRecDepth 20000 in
theorem dX11_laidWith_99 : decode cX11_laidWith 99 = .ok (.aload_n 0, 1) := by decide +kernel
set_option maxRecDepth 20000 in
theorem dX11_laidWith_100 : decode cX11_laidWith 100 = .ok (.getfield 102, 3) := by decide +kernel
set_option maxRecDepth 20000 in
theorem dX11_laidWith_103 : decode cX11_laidWith 103 = .ok (.iconst 2, 1) := by decide +kernel
set_option maxRecDepth 20000 in
theorem dX11_laidWith_104 : decode cX11_laidWith 104 = .ok (.invokevirtual 211, 3) := by decide +kernel
set_option maxRecDepth 20000 in
theorem dX11_laidWith_107 : decode cX11_laidWith 107 = .ok (.ireturn, 1) := by decide +kernel
set_option maxRecDepth 20000 in
theorem kt_X11_laidWith_0 (g : gx_T) : ∀ q ∈ k_X11_laidWith_0, gx_E g gc_md RX11 cX11_laidWith 6 (some .int) "laidWith" q.1 q.2 := List.forall_mem_cons.mpr ⟨(gs_aload_n dX11_laidWith_0 rfl), List.forall_mem_cons.mpr ⟨
  (gs_gf (ref := "GriefCranes") dX11_laidWith_1 (gx_mem 372 (by decide +kernel) (by decide +kernel)) (Or.inl rfl) gf_11_1), List.forall_mem_cons.mpr ⟨
  (gs_aload_n dX11_laidWith_4 rfl), List.forall_mem_cons.mpr ⟨
  (gs_gf (ref := "GriefCranes") dX11_laidWith_5 (gx_mem 371 (by decide +kernel) (by decide +kernel)) (Or.inl rfl) gf_11_0), List.forall_mem_cons.mpr ⟨
  (gs_cv dX11_laidWith_8 (fun q hq => by
      simp only [List.mem_cons, List.not_mem_nil, or_false] at hq
      subst hq
      exact Or.inl ⟨_, rfl, by decide, by decide +kernel, by decide +kernel, List.forall_mem_cons.mpr ⟨gx_mem 510 (by decide +kernel) (by decide +kernel), List.forall_mem_cons.mpr ⟨gx_mem 511 (by decide +kernel) (by decide +kernel), List.forall_mem_cons.mpr ⟨gx_mem 512 (by decide +kernel) (by decide +kernel), List.forall_mem_cons.mpr ⟨gx_mem 95 (by decide +kernel) (by decide +kernel), List.forall_mem_cons.mpr ⟨cw_513, fun _ h => absurd h List.not_mem_nil⟩⟩⟩⟩⟩⟩)), List.forall_mem_cons.mpr ⟨
  (gs_iconst dX11_laidWith_11 rfl), List.forall_mem_cons.mpr ⟨
  (gs_istore_n dX11_laidWith_12 rfl), List.forall_mem_cons.mpr ⟨
  (gs_iload_n dX11_laidWith_13 rfl), List.forall_mem_cons.mpr ⟨
  (gs_aload_n dX11_laidWith_14 rfl), List.forall_mem_cons.mpr ⟨
  (gs_gf (ref := "GriefCranes") dX11_laidWith_15 (gx_mem 371 (by decide +kernel) (by decide +kernel)) (Or.inl rfl) gf_11_0), List.forall_mem_cons.mpr ⟨
  (gs_gf (ref := "GriefCranes$Yard") dX11_laidWith_18 (gx_mem 325 (by decide +kernel) (by decide +kernel)) (Or.inl rfl) gf_10_9), List.forall_mem_cons.mpr ⟨
  (gs_icmp_ge dX11_laidWith_21 rfl), List.forall_mem_cons.mpr ⟨
  (gs_aload_n dX11_laidWith_24 rfl), List.forall_mem_cons.mpr ⟨
  (gs_gf (ref := "GriefCranes") dX11_laidWith_25 (gx_mem 371 (by decide +kernel) (by decide +kernel)) (Or.inl rfl) gf_11_0), List.forall_mem_cons.mpr ⟨
  (gs_gf (ref := "GriefCranes$Yard") dX11_laidWith_28 (gx_mem 330 (by decide +kernel) (by decide +kernel)) (Or.inl rfl) gf_10_11), List.forall_mem_cons.mpr ⟨
  (gs_iload_n dX11_laidWith_31 rfl), List.forall_mem_cons.mpr ⟨
  (gs_iaload dX11_laidWith_32), List.forall_mem_cons.mpr ⟨
  (gs_istore dX11_laidWith_33), List.forall_mem_cons.mpr ⟨
  (gs_iload dX11_laidWith_35), List.forall_mem_cons.mpr ⟨
  (gs_iconst dX11_laidWith_37 rfl), List.forall_mem_cons.mpr ⟨
  (gs_icmp_eq dX11_laidWith_38 rfl), List.forall_mem_cons.mpr ⟨
  (gs_iload_n dX11_laidWith_41 rfl), List.forall_mem_cons.mpr ⟨
  (gs_iload dX11_laidWith_42), List.forall_mem_cons.mpr ⟨
  (gs_ishr dX11_laidWith_44), List.forall_mem_cons.mpr ⟨
  (gs_iconst dX11_laidWith_45 rfl), List.forall_mem_cons.mpr ⟨
  (gs_iand dX11_laidWith_46), List.forall_mem_cons.mpr ⟨
  (gs_iconst dX11_laidWith_47 rfl), List.forall_mem_cons.mpr ⟨
  (gs_icmp_ne dX11_laidWith_48 rfl), List.forall_mem_cons.mpr ⟨
  (gs_iconst dX11_laidWith_51 rfl), List.forall_mem_cons.mpr ⟨
  (gs_goto dX11_laidWith_52 rfl), List.forall_mem_cons.mpr ⟨
  (gs_iconst dX11_laidWith_55 rfl), List.forall_mem_cons.mpr ⟨
  (gs_istore dX11_laidWith_56), fun _ h => absurd h List.not_mem_nil⟩⟩⟩⟩⟩⟩⟩⟩⟩⟩⟩⟩⟩⟩⟩⟩⟩⟩⟩⟩⟩⟩⟩⟩⟩⟩⟩⟩⟩⟩⟩⟩
set_option maxRecDepth 20000 in
theorem kt_X11_laidWith_1 (g : gx_T) : ∀ q ∈ k_X11_laidWith_1, gx_E g gc_md RX11 cX11_laidWith 6 (some .int) "laidWith" q.1 q.2 := List.forall_mem_cons.mpr ⟨(gs_aload_n dX11_laidWith_58 rfl), List.forall_mem_cons.mpr ⟨
  (gs_gf (ref := "GriefCranes") dX11_laidWith_59 (gx_mem 371 (by decide +kernel) (by decide +kernel)) (Or.inl rfl) gf_11_0), List.forall_mem_cons.mpr ⟨
  (gs_iload_n dX11_laidWith_62 rfl), List.forall_mem_cons.mpr ⟨
  (gs_iconst dX11_laidWith_63 rfl), List.forall_mem_cons.mpr ⟨
  (gs_cv dX11_laidWith_64 (fun q hq => by
      simp only [List.mem_cons, List.not_mem_nil, or_false] at hq
      subst hq
      exact Or.inl ⟨_, rfl, by decide, by decide +kernel, by decide +kernel, List.forall_mem_cons.mpr ⟨gx_mem 521 (by decide +kernel) (by decide +kernel), List.forall_mem_cons.mpr ⟨gx_mem 522 (by decide +kernel) (by decide +kernel), List.forall_mem_cons.mpr ⟨gx_mem 523 (by decide +kernel) (by decide +kernel), List.forall_mem_cons.mpr ⟨gx_mem 95 (by decide +kernel) (by decide +kernel), List.forall_mem_cons.mpr ⟨cw_524, fun _ h => absurd h List.not_mem_nil⟩⟩⟩⟩⟩⟩)), List.forall_mem_cons.mpr ⟨
  (gs_if_eq dX11_laidWith_67 rfl), List.forall_mem_cons.mpr ⟨
  (gs_iload dX11_laidWith_70), List.forall_mem_cons.mpr ⟨
  (gs_if_ne dX11_laidWith_72 rfl), List.forall_mem_cons.mpr ⟨
  (gs_aload_n dX11_laidWith_75 rfl), List.forall_mem_cons.mpr ⟨
  (gs_gf (ref := "GriefCranes") dX11_laidWith_76 (gx_mem 372 (by decide +kernel) (by decide +kernel)) (Or.inl rfl) gf_11_1), List.forall_mem_cons.mpr ⟨
  (gs_gf (ref := "GriefCranes$Yard") dX11_laidWith_79 (gx_mem 330 (by decide +kernel) (by decide +kernel)) (Or.inl rfl) gf_10_11), List.forall_mem_cons.mpr ⟨
  (gs_iload_n dX11_laidWith_82 rfl), List.forall_mem_cons.mpr ⟨
  (gs_iconst dX11_laidWith_83 rfl), List.forall_mem_cons.mpr ⟨
  (gs_iastore dX11_laidWith_84), List.forall_mem_cons.mpr ⟨
  (gs_iinc dX11_laidWith_85), List.forall_mem_cons.mpr ⟨
  (gs_goto dX11_laidWith_88 rfl), List.forall_mem_cons.mpr ⟨
  (gs_aload_n dX11_laidWith_91 rfl), List.forall_mem_cons.mpr ⟨
  (gs_gf (ref := "GriefCranes") dX11_laidWith_92 (gx_mem 372 (by decide +kernel) (by decide +kernel)) (Or.inl rfl) gf_11_1), List.forall_mem_cons.mpr ⟨
  (gs_iload_n dX11_laidWith_95 rfl), List.forall_mem_cons.mpr ⟨
  (gs_cv dX11_laidWith_96 (fun q hq => by
      simp only [List.mem_cons, List.not_mem_nil, or_false] at hq
      subst hq
      exact Or.inl ⟨_, rfl, by decide, by decide +kernel, by decide +kernel, List.forall_mem_cons.mpr ⟨gx_mem 526 (by decide +kernel) (by decide +kernel), List.forall_mem_cons.mpr ⟨gx_mem 527 (by decide +kernel) (by decide +kernel), List.forall_mem_cons.mpr ⟨gx_mem 528 (by decide +kernel) (by decide +kernel), List.forall_mem_cons.mpr ⟨gx_mem 95 (by decide +kernel) (by decide +kernel), List.forall_mem_cons.mpr ⟨cw_529, fun _ h => absurd h List.not_mem_nil⟩⟩⟩⟩⟩⟩)), List.forall_mem_cons.mpr ⟨
  (gs_aload_n dX11_laidWith_99 rfl), List.forall_mem_cons.mpr ⟨
  (gs_gf (ref := "GriefCranes") dX11_laidWith_100 (gx_mem 372 (by decide +kernel) (by decide +kernel)) (Or.inl rfl) gf_11_1), List.forall_mem_cons.mpr ⟨
  (gs_iconst dX11_laidWith_103 rfl), List.forall_mem_cons.mpr ⟨
  (gs_cv dX11_laidWith_104 (fun q hq => by
      simp only [List.mem_cons, List.not_mem_nil, or_false] at hq
      subst hq
      exact Or.inl ⟨_, rfl, by decide, by decide +kernel, by decide +kernel, List.forall_mem_cons.mpr ⟨gx_mem 749 (by decide +kernel) (by decide +kernel), List.forall_mem_cons.mpr ⟨gx_mem 750 (by decide +kernel) (by decide +kernel), List.forall_mem_cons.mpr ⟨gx_mem 751 (by decide +kernel) (by decide +kernel), List.forall_mem_cons.mpr ⟨gx_mem 95 (by decide +kernel) (by decide +kernel), List.forall_mem_cons.mpr ⟨cw_752, fun _ h => absurd h List.not_mem_nil⟩⟩⟩⟩⟩⟩)), List.forall_mem_cons.mpr ⟨
  (gs_ri dX11_laidWith_107), fun _ h => absurd h List.not_mem_nil⟩⟩⟩⟩⟩⟩⟩⟩⟩⟩⟩⟩⟩⟩⟩⟩⟩⟩⟩⟩⟩⟩⟩⟩⟩
theorem kt_X11_laidWith (g : gx_T) : ∀ q ∈ k_X11_laidWith, gx_E g gc_md RX11 cX11_laidWith 6 (some .int) "laidWith" q.1 q.2 := List.forall_mem_append.mpr ⟨kt_X11_laidWith_0 g, kt_X11_laidWith_1 g⟩
set_option maxRecDepth 20000 in
theorem dX11_numbersThatFit_0 : decode cX11_numbersThatFit 0 = .ok (.iload_n 1, 1) := by decide +kernel
set_option maxRecDepth 20000 in
theorem dX11_numbersThatFit_1 : decode cX11_numbersThatFit 1 = .ok (.iconst (-1), 1) := by decide +kernel
set_option maxRecDepth 20000 in
theorem dX11_numbersThatFit_2 : decode cX11_numbersThatFit 2 = .ok (.if_icmp .eq 8, 3) := by decide +kernel
set_option maxRecDepth 20000 in
theorem dX11_numbersThatFit_5 : decode cX11_numbersThatFit 5 = .ok (.bipush 99, 2) := by decide +kernel
set_option maxRecDepth 20000 in
theorem dX11_numbersThatFit_7 : decode cX11_numbersThatFit 7 = .ok (.goto 5, 3) := by decide +kernel
set_option maxRecDepth 20000 in
theorem dX11_numbersThatFit_10 : decode cX11_numbersThatFit 10 = .ok (.bipush 9, 2) := by decide +kernel
set_option maxRecDepth 20000 in
theorem dX11_numbersThatFit_12 : decode cX11_numbersThatFit 12 = .ok (.istore 4, 2) := by decide +kernel
set_option maxRecDepth 20000 in
theorem dX11_numbersThatFit_14 : decode cX11_numbersThatFit 14 = .ok (.iconst 0, 1) := by decide +kernel
set_option maxRecDepth 20000 in
theorem dX11_numbersThatFit_15 : decode cX11_numbersThatFit 15 = .ok (.istore 5, 2) := by decide +kernel
set_option maxRecDepth 20000 in
theorem dX11_numbersThatFit_17 : decode cX11_numbersThatFit 17 = .ok (.iconst 0, 1) := by decide +kernel
set_option maxRecDepth 20000 in
theorem dX11_numbersThatFit_18 : decode cX11_numbersThatFit 18 = .ok (.istore 6, 2) := by decide +kernel
set_option maxRecDepth 20000 in
theorem dX11_numbersThatFit_20 : decode cX11_numbersThatFit 20 = .ok (.iload 6, 2) := by decide +kernel
set_option maxRecDepth 20000 in
theorem dX11_numbersThatFit_22 : decode cX11_numbersThatFit 22 = .ok (.iload 4, 2) := by decide +kernel
set_option maxRecDepth 20000 in
theorem dX11_numbersThatFit_24 : decode cX11_numbersThatFit 24 = .ok (.if_icmp .gt 70, 3) := by decide +kernel
set_option maxRecDepth 20000 in
theorem dX11_numbersThatFit_27 : decode cX11_numbersThatFit 27 = .ok (.aload_n 0, 1) := by decide +kernel
set_option maxRecDepth 20000 in
theorem dX11_numbersThatFit_28 : decode cX11_numbersThatFit 28 = .ok (.getfield 102, 3) := by decide +kernel
set_option maxRecDepth 20000 in
theorem dX11_numbersThatFit_31 : decode cX11_numbersThatFit 31 = .ok (.aload_n 0, 1) := by decide +kernel
set_option maxRecDepth 20000 in
theorem dX11_numbersThatFit_32 : decode cX11_numbersThatFit 32 = .ok (.getfield 98, 3) := by decide +kernel
set_option maxRecDepth 20000 in
theorem dX11_numbersThatFit_35 : decode cX11_numbersThatFit 35 = .ok (.invokevirtual 167, 3) := by decide +kernel
set_option maxRecDepth 20000 in
theorem dX11_numbersThatFit_38 : decode cX11_numbersThatFit 38 = .ok (.iload_n 1, 1) := by decide +kernel
set_option maxRecDepth 20000 in
theorem dX11_numbersThatFit_39 : decode cX11_numbersThatFit 39 = .ok (.iconst (-1), 1) := by decide +kernel
set_option maxRecDepth 20000 in
theorem dX11_numbersThatFit_40 : decode cX11_numbersThatFit 40 = .ok (.if_icmp .eq 17, 3) := by decide +kernel
set_option maxRecDepth 20000 in
theorem dX11_numbersThatFit_43 : decode cX11_numbersThatFit 43 = .ok (.aload_n 0, 1) := by decide +kernel
set_option maxRecDepth 20000 in
theorem dX11_numbersThatFit_44 : decode cX11_numbersThatFit 44 = .ok (.getfield 102, 3) := by decide +kernel
set_option maxRecDepth 20000 in
theorem dX11_numbersThatFit_47 : decode cX11_numbersThatFit 47 = .ok (.getfield 152, 3) := by decide +kernel
set_option maxRecDepth 20000 in
theorem dX11_numbersThatFit_50 : decode cX11_numbersThatFit 50 = .ok (.iload_n 1, 1) := by decide +kernel
set_option maxRecDepth 20000 in
theorem dX11_numbersThatFit_51 : decode cX11_numbersThatFit 51 = .ok (.iload 6, 2) := by decide +kernel
set_option maxRecDepth 20000 in
theorem dX11_numbersThatFit_53 : decode cX11_numbersThatFit 53 = .ok (.iastore, 1) := by decide +kernel
set_option maxRecDepth 20000 in
theorem dX11_numbersThatFit_54 : decode cX11_numbersThatFit 54 = .ok (.goto 14, 3) := by decide +kernel
set_option maxRecDepth 20000 in
theorem dX11_numbersThatFit_57 : decode cX11_numbersThatFit 57 = .ok (.aload_n 0, 1) := by decide +kernel
set_option maxRecDepth 20000 in
theorem dX11_numbersThatFit_58 : decode cX11_numbersThatFit 58 = .ok (.getfield 102, 3) := by decide +kernel
set_option maxRecDepth 20000 in
theorem dX11_numbersThatFit_61 : decode cX11_numbersThatFit 61 = .ok (.getfield 127, 3) := by decide +kernel
set_option maxRecDepth 20000 in
theorem dX11_numbersThatFit_64 : decode cX11_numbersThatFit 64 = .ok (.iload_n 2, 1) := by decide +kernel
set_option maxRecDepth 20000 in
theorem dX11_numbersThatFit_65 : decode cX11_numbersThatFit 65 = .ok (.iload 6, 2) := by decide +kernel
set_option maxRecDepth 20000 in
theorem dX11_numbersThatFit_67 : decode cX11_numbersThatFit 67 = .ok (.iastore, 1) := by decide +kernel
set_option maxRecDepth 20000 in
theorem dX11_numbersThatFit_68 : decode cX11_numbersThatFit 68 = .ok (.aload_n 0, 1) := by decide +kernel
set_option maxRecDepth 20000 in
theorem dX11_numbersThatFit_69 : decode cX11_numbersThatFit 69 = .ok (.invokevirtual 304, 3) := by decide +kernel
set_option maxRecDepth 20000 in
theorem dX11_numbersThatFit_72 : decode cX11_numbersThatFit 72 = .ok (.ifCond .ne 6, 3) := by decide +kernel
set_option maxRecDepth 20000 in
theorem dX11_numbersThatFit_75 : decode cX11_numbersThatFit 75 = .ok (.goto 13, 3) := by decide +kernel
set_option maxRecDepth 20000 in
theorem dX11_numbersThatFit_78 : decode cX11_numbersThatFit 78 = .ok (.iload_n 3, 1) := by decide +kernel
set_option maxRecDepth 20000 in
theorem dX11_numbersThatFit_79 : decode cX11_numbersThatFit 79 = .ok (.ifCond .eq 6, 3) := by decide +kernel
set_option maxRecDepth 20000 in
theorem dX11_numbersThatFit_82 : decode cX11_numbersThatFit 82 = .ok (.iload 6, 2) := by decide +kernel
set_option maxRecDepth 20000 in
theorem dX11_numbersThatFit_84 : decode cX11_numbersThatFit 84 = .ok (.ireturn, 1) := by decide +kernel
set_option maxRecDepth 20000 in
theorem dX11_numbersThatFit_85 : decode cX11_numbersThatFit 85 = .ok (.iinc 5 1, 3) := by decide +kernel
set_option maxRecDepth 20000 in
theorem dX11_numbersThatFit_88 : decode cX11_numbersThatFit 88 = .ok (.iinc 6 1, 3) := by decide +kernel
set_option maxRecDepth 20000 in
theorem dX11_numbersThatFit_91 : decode cX11_numbersThatFit 91 = .ok (.goto (-71), 3) := by decide +kernel
set_option maxRecDepth 20000 in
theorem dX11_numbersThatFit_94 : decode cX11_numbersThatFit 94 = .ok (.iload_n 3, 1) := by decide +kernel
set_option maxRecDepth 20000 in
theorem dX11_numbersThatFit_95 : decode cX11_numbersThatFit 95 = .ok (.ifCond .eq 8, 3) := by decide +kernel
set_option maxRecDepth 20000 in
theorem dX11_numbersThatFit_98 : decode cX11_numbersThatFit 98 = .ok (.bipush (-5), 2) := by decide +kernel
set_option maxRecDepth 20000 in
theorem dX11_numbersThatFit_100 : decode cX11_numbersThatFit 100 = .ok (.goto 5, 3) := by decide +kernel
set_option maxRecDepth 20000 in
theorem dX11_numbersThatFit_103 : decode cX11_numbersThatFit 103 = .ok (.iload 5, 2) := by decide +kernel
set_option maxRecDepth 20000 in
theorem dX11_numbersThatFit_105 : decode cX11_numbersThatFit 105 = .ok (.ireturn, 1) := by decide +kernel
set_option maxRecDepth 20000 in
theorem kt_X11_numbersThatFit_0 (g : gx_T) : ∀ q ∈ k_X11_numbersThatFit_0, gx_E g gc_md RX11 cX11_numbersThatFit 7 (some .int) "numbersThatFit" q.1 q.2 := List.forall_mem_cons.mpr ⟨(gs_iload_n dX11_numbersThatFit_0 rfl), List.forall_mem_cons.mpr ⟨
  (gs_iconst dX11_numbersThatFit_1 rfl), List.forall_mem_cons.mpr ⟨
  (gs_icmp_eq dX11_numbersThatFit_2 rfl), List.forall_mem_cons.mpr ⟨
  (gs_bipush dX11_numbersThatFit_5 rfl), List.forall_mem_cons.mpr ⟨
  (gs_goto dX11_numbersThatFit_7 rfl), List.forall_mem_cons.mpr ⟨
  (gs_bipush dX11_numbersThatFit_10 rfl), List.forall_mem_cons.mpr ⟨
  (gs_istore dX11_numbersThatFit_12), List.forall_mem_cons.mpr ⟨
  (gs_iconst dX11_numbersThatFit_14 rfl), List.forall_mem_cons.mpr ⟨
  (gs_istore dX11_numbersThatFit_15), List.forall_mem_cons.mpr ⟨
  (gs_iconst dX11_numbersThatFit_17 rfl), List.forall_mem_cons.mpr ⟨
  (gs_istore dX11_numbersThatFit_18), List.forall_mem_cons.mpr ⟨
  (gs_iload dX11_numbersThatFit_20), List.forall_mem_cons.mpr ⟨
  (gs_iload dX11_numbersThatFit_22), List.forall_mem_cons.mpr ⟨
  (gs_icmp_gt dX11_numbersThatFit_24 rfl), List.forall_mem_cons.mpr ⟨
  (gs_aload_n dX11_numbersThatFit_27 rfl), List.forall_mem_cons.mpr ⟨
  (gs_gf (ref := "GriefCranes") dX11_numbersThatFit_28 (gx_mem 372 (by decide +kernel) (by decide +kernel)) (Or.inl rfl) gf_11_1), List.forall_mem_cons.mpr ⟨
  (gs_aload_n dX11_numbersThatFit_31 rfl), List.forall_mem_cons.mpr ⟨
  (gs_gf (ref := "GriefCranes") dX11_numbersThatFit_32 (gx_mem 371 (by decide +kernel) (by decide +kernel)) (Or.inl rfl) gf_11_0), List.forall_mem_cons.mpr ⟨
  (gs_cv dX11_numbersThatFit_35 (fun q hq => by
      simp only [List.mem_cons, List.not_mem_nil, or_false] at hq
      subst hq
      exact Or.inl ⟨_, rfl, by decide, by decide +kernel, by decide +kernel, List.forall_mem_cons.mpr ⟨gx_mem 510 (by decide +kernel) (by decide +kernel), List.forall_mem_cons.mpr ⟨gx_mem 511 (by decide +kernel) (by decide +kernel), List.forall_mem_cons.mpr ⟨gx_mem 512 (by decide +kernel) (by decide +kernel), List.forall_mem_cons.mpr ⟨gx_mem 95 (by decide +kernel) (by decide +kernel), List.forall_mem_cons.mpr ⟨cw_513, fun _ h => absurd h List.not_mem_nil⟩⟩⟩⟩⟩⟩)), List.forall_mem_cons.mpr ⟨
  (gs_iload_n dX11_numbersThatFit_38 rfl), List.forall_mem_cons.mpr ⟨
  (gs_iconst dX11_numbersThatFit_39 rfl), List.forall_mem_cons.mpr ⟨
  (gs_icmp_eq dX11_numbersThatFit_40 rfl), List.forall_mem_cons.mpr ⟨
  (gs_aload_n dX11_numbersThatFit_43 rfl), List.forall_mem_cons.mpr ⟨
  (gs_gf (ref := "GriefCranes") dX11_numbersThatFit_44 (gx_mem 372 (by decide +kernel) (by decide +kernel)) (Or.inl rfl) gf_11_1), List.forall_mem_cons.mpr ⟨
  (gs_gf (ref := "GriefCranes$Yard") dX11_numbersThatFit_47 (gx_mem 328 (by decide +kernel) (by decide +kernel)) (Or.inl rfl) gf_10_10), List.forall_mem_cons.mpr ⟨
  (gs_iload_n dX11_numbersThatFit_50 rfl), List.forall_mem_cons.mpr ⟨
  (gs_iload dX11_numbersThatFit_51), List.forall_mem_cons.mpr ⟨
  (gs_iastore dX11_numbersThatFit_53), List.forall_mem_cons.mpr ⟨
  (gs_goto dX11_numbersThatFit_54 rfl), List.forall_mem_cons.mpr ⟨
  (gs_aload_n dX11_numbersThatFit_57 rfl), List.forall_mem_cons.mpr ⟨
  (gs_gf (ref := "GriefCranes") dX11_numbersThatFit_58 (gx_mem 372 (by decide +kernel) (by decide +kernel)) (Or.inl rfl) gf_11_1), List.forall_mem_cons.mpr ⟨
  (gs_gf (ref := "GriefCranes$Yard") dX11_numbersThatFit_61 (gx_mem 317 (by decide +kernel) (by decide +kernel)) (Or.inl rfl) gf_10_6), fun _ h => absurd h List.not_mem_nil⟩⟩⟩⟩⟩⟩⟩⟩⟩⟩⟩⟩⟩⟩⟩⟩⟩⟩⟩⟩⟩⟩⟩⟩⟩⟩⟩⟩⟩⟩⟩⟩
set_option maxRecDepth 20000 in
theorem kt_X11_numbersThatFit_1 (g : gx_T) : ∀ q ∈ k_X11_numbersThatFit_1, gx_E g gc_md RX11 cX11_numbersThatFit 7 (some .int) "numbersThatFit" q.1 q.2 := List.forall_mem_cons.mpr ⟨(gs_iload_n dX11_numbersThatFit_64 rfl), List.forall_mem_cons.mpr ⟨
  (gs_iload dX11_numbersThatFit_65), List.forall_mem_cons.mpr ⟨
  (gs_iastore dX11_numbersThatFit_67), List.forall_mem_cons.mpr ⟨
  (gs_aload_n dX11_numbersThatFit_68 rfl), List.forall_mem_cons.mpr ⟨
  (gs_cv dX11_numbersThatFit_69 (fun q hq => by
      simp only [List.mem_cons, List.not_mem_nil, or_false] at hq
      subst hq
      exact Or.inl ⟨_, rfl, by decide, by decide +kernel, by decide +kernel, List.forall_mem_cons.mpr ⟨gx_mem 549 (by decide +kernel) (by decide +kernel), List.forall_mem_cons.mpr ⟨gx_mem 551 (by decide +kernel) (by decide +kernel), List.forall_mem_cons.mpr ⟨gx_mem 6 (by decide +kernel) (by decide +kernel), List.forall_mem_cons.mpr ⟨gx_mem 84 (by decide +kernel) (by decide +kernel), List.forall_mem_cons.mpr ⟨cw_552, fun _ h => absurd h List.not_mem_nil⟩⟩⟩⟩⟩⟩)), List.forall_mem_cons.mpr ⟨
  (gs_if_ne dX11_numbersThatFit_72 rfl), List.forall_mem_cons.mpr ⟨
  (gs_goto dX11_numbersThatFit_75 rfl), List.forall_mem_cons.mpr ⟨
  (gs_iload_n dX11_numbersThatFit_78 rfl), List.forall_mem_cons.mpr ⟨
  (gs_if_eq dX11_numbersThatFit_79 rfl), List.forall_mem_cons.mpr ⟨
  (gs_iload dX11_numbersThatFit_82), List.forall_mem_cons.mpr ⟨
  (gs_ri dX11_numbersThatFit_84), List.forall_mem_cons.mpr ⟨
  (gs_iinc dX11_numbersThatFit_85), List.forall_mem_cons.mpr ⟨
  (gs_iinc dX11_numbersThatFit_88), List.forall_mem_cons.mpr ⟨
  (gs_goto dX11_numbersThatFit_91 rfl), List.forall_mem_cons.mpr ⟨
  (gs_iload_n dX11_numbersThatFit_94 rfl), List.forall_mem_cons.mpr ⟨
  (gs_if_eq dX11_numbersThatFit_95 rfl), List.forall_mem_cons.mpr ⟨
  (gs_bipush dX11_numbersThatFit_98 rfl), List.forall_mem_cons.mpr ⟨
  (gs_goto dX11_numbersThatFit_100 rfl), List.forall_mem_cons.mpr ⟨
  (gs_iload dX11_numbersThatFit_103), List.forall_mem_cons.mpr ⟨
  (gs_ri dX11_numbersThatFit_105), fun _ h => absurd h List.not_mem_nil⟩⟩⟩⟩⟩⟩⟩⟩⟩⟩⟩⟩⟩⟩⟩⟩⟩⟩⟩⟩
theorem kt_X11_numbersThatFit (g : gx_T) : ∀ q ∈ k_X11_numbersThatFit, gx_E g gc_md RX11 cX11_numbersThatFit 7 (some .int) "numbersThatFit" q.1 q.2 := List.forall_mem_append.mpr ⟨kt_X11_numbersThatFit_0 g, kt_X11_numbersThatFit_1 g⟩
set_option maxRecDepth 20000 in
theorem dX11_allSeenIsSo_0 : decode cX11_allSeenIsSo 0 = .ok (.iconst 0, 1) := by decide +kernel
set_option maxRecDepth 20000 in
theorem dX11_allSeenIsSo_1 : decode cX11_allSeenIsSo 1 = .ok (.istore_n 1, 1) := by decide +kernel
set_option maxRecDepth 20000 in
theorem dX11_allSeenIsSo_2 : decode cX11_allSeenIsSo 2 = .ok (.iconst 0, 1) := by decide +kernel
set_option maxRecDepth 20000 in
theorem dX11_allSeenIsSo_3 : decode cX11_allSeenIsSo 3 = .ok (.istore_n 2, 1) := by decide +kernel
set_option maxRecDepth 20000 in
theorem dX11_allSeenIsSo_4 : decode cX11_allSeenIsSo 4 = .ok (.iload_n 2, 1) := by decide +kernel
set_option maxRecDepth 20000 in
theorem dX11_allSeenIsSo_5 : decode cX11_allSeenIsSo 5 = .ok (.aload_n 0, 1) := by decide +kernel
set_option maxRecDepth 20000 in
theorem dX11_allSeenIsSo_6 : decode cX11_allSeenIsSo 6 = .ok (.getfield 16, 3) := by decide +kernel
set_option maxRecDepth 20000 in
theorem dX11_allSeenIsSo_9 : decode cX11_allSeenIsSo 9 = .ok (.getfield 237, 3) := by decide +kernel
set_option maxRecDepth 20000 in
theorem dX11_allSeenIsSo_12 : decode cX11_allSeenIsSo 12 = .ok (.if_icmp .ge 23, 3) := by decide +kernel
set_option maxRecDepth 20000 in
theorem dX11_allSeenIsSo_15 : decode cX11_allSeenIsSo 15 = .ok (.iload_n 1, 1) := by decide +kernel
set_option maxRecDepth 20000 in
theorem dX11_allSeenIsSo_16 : decode cX11_allSeenIsSo 16 = .ok (.aload_n 0, 1) := by decide +kernel
set_option maxRecDepth 20000 in
theorem dX11_allSeenIsSo_17 : decode cX11_allSeenIsSo 17 = .ok (.getfield 16, 3) := by decide +kernel
set_option maxRecDepth 20000 in
theorem dX11_allSeenIsSo_20 : decode cX11_allSeenIsSo 20 = .ok (.getfield 243, 3) := by decide +kernel
set_option maxRecDepth 20000 in
theorem dX11_allSeenIsSo_23 : decode cX11_allSeenIsSo 23 = .ok (.iload_n 2, 1) := by decide +kernel
set_option maxRecDepth 20000 in
theorem dX11_allSeenIsSo_24 : decode cX11_allSeenIsSo 24 = .ok (.iaload, 1) := by decide +kernel
set_option maxRecDepth 20000 in
theorem dX11_allSeenIsSo_25 : decode cX11_allSeenIsSo 25 = .ok (.invokestatic 308, 3) := by decide +kernel
set_option maxRecDepth 20000 in
theorem dX11_allSeenIsSo_28 : decode cX11_allSeenIsSo 28 = .ok (.istore_n 1, 1) := by decide +kernel
set_option maxRecDepth 20000 in
theorem dX11_allSeenIsSo_29 : decode cX11_allSeenIsSo 29 = .ok (.iinc 2 1, 3) := by decide +kernel
set_option maxRecDepth 20000 in
theorem dX11_allSeenIsSo_32 : decode cX11_allSeenIsSo 32 = .ok (.goto (-28), 3) := by decide +kernel
set_option maxRecDepth 20000 in
theorem dX11_allSeenIsSo_35 : decode cX11_allSeenIsSo 35 = .ok (.iconst 0, 1) := by decide +kernel
set_option maxRecDepth 20000 in
theorem dX11_allSeenIsSo_36 : decode cX11_allSeenIsSo 36 = .ok (.istore_n 2, 1) := by decide +kernel
set_option maxRecDepth 20000 in
theorem dX11_allSeenIsSo_37 : decode cX11_allSeenIsSo 37 = .ok (.iload_n 2, 1) := by decide +kernel
set_option maxRecDepth 20000 in
theorem dX11_allSeenIsSo_38 : decode cX11_allSeenIsSo 38 = .ok (.iload_n 1, 1) := by decide +kernel
set_option maxRecDepth 20000 in
theorem dX11_allSeenIsSo_39 : decode cX11_allSeenIsSo 39 = .ok (.if_icmp .gt 83, 3) := by decide +kernel
set_option maxRecDepth 20000 in
theorem dX11_allSeenIsSo_42 : decode cX11_allSeenIsSo 42 = .ok (.iload_n 2, 1) := by decide +kernel
set_option maxRecDepth 20000 in
theorem dX11_allSeenIsSo_43 : decode cX11_allSeenIsSo 43 = .ok (.ifCond .le 11, 3) := by decide +kernel
set_option maxRecDepth 20000 in
theorem dX11_allSeenIsSo_46 : decode cX11_allSeenIsSo 46 = .ok (.aload_n 0, 1) := by decide +kernel
set_option maxRecDepth 20000 in
theorem dX11_allSeenIsSo_47 : decode cX11_allSeenIsSo 47 = .ok (.getfield 102, 3) := by decide +kernel
set_option maxRecDepth 20000 in
theorem dX11_allSeenIsSo_50 : decode cX11_allSeenIsSo 50 = .ok (.iconst 1, 1) := by decide +kernel
set_option maxRecDepth 20000 in
theorem dX11_allSeenIsSo_51 : decode cX11_allSeenIsSo 51 = .ok (.invokevirtual 208, 3) := by decide +kernel
set_option maxRecDepth 20000 in
theorem dX11_allSeenIsSo_54 : decode cX11_allSeenIsSo 54 = .ok (.iconst 0, 1) := by decide +kernel
set_option maxRecDepth 20000 in
theorem dX11_allSeenIsSo_55 : decode cX11_allSeenIsSo 55 = .ok (.istore_n 3, 1) := by decide +kernel
set_option maxRecDepth 20000 in
theorem dX11_allSeenIsSo_56 : decode cX11_allSeenIsSo 56 = .ok (.iload_n 3, 1) := by decide +kernel
set_option maxRecDepth 20000 in
theorem dX11_allSeenIsSo_57 : decode cX11_allSeenIsSo 57 = .ok (.aload_n 0, 1) := by decide +kernel
set_option maxRecDepth 20000 in
theorem dX11_allSeenIsSo_58 : decode cX11_allSeenIsSo 58 = .ok (.getfield 16, 3) := by decide +kernel
set_option maxRecDepth 20000 in
theorem dX11_allSeenIsSo_61 : decode cX11_allSeenIsSo 61 = .ok (.getfield 237, 3) := by decide +kernel
set_option maxRecDepth 20000 in
theorem dX11_allSeenIsSo_64 : decode cX11_allSeenIsSo 64 = .ok (.if_icmp .ge 52, 3) := by decide +kernel
set_option maxRecDepth 20000 in
theorem dX11_allSeenIsSo_67 : decode cX11_allSeenIsSo 67 = .ok (.aload_n 0, 1) := by decide +kernel
set_option maxRecDepth 20000 in
theorem dX11_allSeenIsSo_68 : decode cX11_allSeenIsSo 68 = .ok (.getfield 16, 3) := by decide +kernel
set_option maxRecDepth 20000 in
theorem dX11_allSeenIsSo_71 : decode cX11_allSeenIsSo 71 = .ok (.getfield 243, 3) := by decide +kernel
set_option maxRecDepth 20000 in
theorem dX11_allSeenIsSo_74 : decode cX11_allSeenIsSo 74 = .ok (.iload_n 3, 1) := by decide +kernel
set_option maxRecDepth 20000 in
theorem dX11_allSeenIsSo_75 : decode cX11_allSeenIsSo 75 = .ok (.iaload, 1) := by decide +kernel
set_option maxRecDepth 20000 in
theorem dX11_allSeenIsSo_76 : decode cX11_allSeenIsSo 76 = .ok (.iload_n 2, 1) := by decide +kernel
set_option maxRecDepth 20000 in
theorem dX11_allSeenIsSo_77 : decode cX11_allSeenIsSo 77 = .ok (.if_icmp .ne 33, 3) := by decide +kernel
set_option maxRecDepth 20000 in
theorem dX11_allSeenIsSo_80 : decode cX11_allSeenIsSo 80 = .ok (.aload_n 0, 1) := by decide +kernel
set_option maxRecDepth 20000 in
theorem dX11_allSeenIsSo_81 : decode cX11_allSeenIsSo 81 = .ok (.getfield 102, 3) := by decide +kernel
set_option maxRecDepth 20000 in
theorem dX11_allSeenIsSo_84 : decode cX11_allSeenIsSo 84 = .ok (.aload_n 0, 1) := by decide +kernel
set_option maxRecDepth 20000 in
theorem dX11_allSeenIsSo_85 : decode cX11_allSeenIsSo 85 = .ok (.getfield 16, 3) := by decide +kernel
set_option maxRecDepth 20000 in
theorem dX11_allSeenIsSo_88 : decode cX11_allSeenIsSo 88 = .ok (.getfield 240, 3) := by decide +kernel
set_option maxRecDepth 20000 in
theorem dX11_allSeenIsSo_91 : decode cX11_allSeenIsSo 91 = .ok (.iload_n 3, 1) := by decide +kernel
set_option maxRecDepth 20000 in
theorem dX11_allSeenIsSo_92 : decode cX11_allSeenIsSo 92 = .ok (.iaload, 1) := by decide +kernel
set_option maxRecDepth 20000 in
theorem dX11_allSeenIsSo_93 : decode cX11_allSeenIsSo 93 = .ok (.aload_n 0, 1) := by decide +kernel
set_option maxRecDepth 20000 in
theorem dX11_allSeenIsSo_94 : decode cX11_allSeenIsSo 94 = .ok (.getfield 16, 3) := by decide +kernel
set_option maxRecDepth 20000 in
theorem dX11_allSeenIsSo_97 : decode cX11_allSeenIsSo 97 = .ok (.getfield 313, 3) := by decide +kernel
set_option maxRecDepth 20000 in
theorem dX11_allSeenIsSo_100 : decode cX11_allSeenIsSo 100 = .ok (.iload_n 3, 1) := by decide +kernel
set_option maxRecDepth 20000 in
theorem dX11_allSeenIsSo_101 : decode cX11_allSeenIsSo 101 = .ok (.iaload, 1) := by decide +kernel
set_option maxRecDepth 20000 in
theorem dX11_allSeenIsSo_102 : decode cX11_allSeenIsSo 102 = .ok (.invokevirtual 230, 3) := by decide +kernel
set_option maxRecDepth 20000 in
theorem dX11_allSeenIsSo_105 : decode cX11_allSeenIsSo 105 = .ok (.ifCond .ne 5, 3) := by decide +kernel
set_option maxRecDepth 20000 in
theorem dX11_allSeenIsSo_108 : decode cX11_allSeenIsSo 108 = .ok (.iconst 0, 1) := by decide +kernel
set_option maxRecDepth 20000 in
theorem dX11_allSeenIsSo_109 : decode cX11_allSeenIsSo 109 = .ok (.ireturn, 1) := by decide +kernel
set_option maxRecDepth 20000 in
theorem dX11_allSeenIsSo_110 : decode cX11_allSeenIsSo 110 = .ok (.iinc 3 1, 3) := by decide +kernel
set_option maxRecDepth 20000 in
theorem dX11_allSeenIsSo_113 : decode cX11_allSeenIsSo 113 = .ok (.goto (-57), 3) := by decide +kernel
set_option maxRecDepth 20000 in
theorem dX11_allSeenIsSo_116 : decode cX11_allSeenIsSo 116 = .ok (.iinc 2 1, 3) := by decide +kernel
set_option maxRecDepth 20000 in
theorem dX11_allSeenIsSo_119 : decode cX11_allSeenIsSo 119 = .ok (.goto (-82), 3) := by decide +kernel
set_option maxRecDepth 20000 in
theorem dX11_allSeenIsSo_122 : decode cX11_allSeenIsSo 122 = .ok (.iconst 1, 1) := by decide +kernel
set_option maxRecDepth 20000 in
theorem dX11_allSeenIsSo_123 : decode cX11_allSeenIsSo 123 = .ok (.ireturn, 1) := by decide +kernel
set_option maxRecDepth 20000 in
theorem kt_X11_allSeenIsSo_0 (g : gx_T) : ∀ q ∈ k_X11_allSeenIsSo_0, gx_E g gc_md RX11 cX11_allSeenIsSo 4 (some .boolean) "allSeenIsSo" q.1 q.2 := List.forall_mem_cons.mpr ⟨(gs_iconst dX11_allSeenIsSo_0 rfl), List.forall_mem_cons.mpr ⟨
  (gs_istore_n dX11_allSeenIsSo_1 rfl), List.forall_mem_cons.mpr ⟨
  (gs_iconst dX11_allSeenIsSo_2 rfl), List.forall_mem_cons.mpr ⟨
  (gs_istore_n dX11_allSeenIsSo_3 rfl), List.forall_mem_cons.mpr ⟨
  (gs_iload_n dX11_allSeenIsSo_4 rfl), List.forall_mem_cons.mpr ⟨
  (gs_aload_n dX11_allSeenIsSo_5 rfl), List.forall_mem_cons.mpr ⟨
  (gs_gf (ref := "GriefCranes") dX11_allSeenIsSo_6 (gx_mem 374 (by decide +kernel) (by decide +kernel)) (Or.inl rfl) gf_11_3), List.forall_mem_cons.mpr ⟨
  (gs_gf (ref := "GriefCranes$Rows") dX11_allSeenIsSo_9 (gx_mem 126 (by decide +kernel) (by decide +kernel)) (Or.inl rfl) gf_5_3), List.forall_mem_cons.mpr ⟨
  (gs_icmp_ge dX11_allSeenIsSo_12 rfl), List.forall_mem_cons.mpr ⟨
  (gs_iload_n dX11_allSeenIsSo_15 rfl), List.forall_mem_cons.mpr ⟨
  (gs_aload_n dX11_allSeenIsSo_16 rfl), List.forall_mem_cons.mpr ⟨
  (gs_gf (ref := "GriefCranes") dX11_allSeenIsSo_17 (gx_mem 374 (by decide +kernel) (by decide +kernel)) (Or.inl rfl) gf_11_3), List.forall_mem_cons.mpr ⟨
  (gs_gf (ref := "GriefCranes$Rows") dX11_allSeenIsSo_20 (gx_mem 122 (by decide +kernel) (by decide +kernel)) (Or.inl rfl) gf_5_1), List.forall_mem_cons.mpr ⟨
  (gs_iload_n dX11_allSeenIsSo_23 rfl), List.forall_mem_cons.mpr ⟨
  (gs_iaload dX11_allSeenIsSo_24), List.forall_mem_cons.mpr ⟨
  (gs_max dX11_allSeenIsSo_25 (List.forall_mem_cons.mpr ⟨gx_mem 553 (by decide +kernel) (by decide +kernel), List.forall_mem_cons.mpr ⟨gx_mem 554 (by decide +kernel) (by decide +kernel), List.forall_mem_cons.mpr ⟨gx_mem 97 (by decide +kernel) (by decide +kernel), List.forall_mem_cons.mpr ⟨cw_555, fun _ h => absurd h List.not_mem_nil⟩⟩⟩⟩)), List.forall_mem_cons.mpr ⟨
  (gs_istore_n dX11_allSeenIsSo_28 rfl), List.forall_mem_cons.mpr ⟨
  (gs_iinc dX11_allSeenIsSo_29), List.forall_mem_cons.mpr ⟨
  (gs_goto dX11_allSeenIsSo_32 rfl), List.forall_mem_cons.mpr ⟨
  (gs_iconst dX11_allSeenIsSo_35 rfl), List.forall_mem_cons.mpr ⟨
  (gs_istore_n dX11_allSeenIsSo_36 rfl), List.forall_mem_cons.mpr ⟨
  (gs_iload_n dX11_allSeenIsSo_37 rfl), List.forall_mem_cons.mpr ⟨
  (gs_iload_n dX11_allSeenIsSo_38 rfl), List.forall_mem_cons.mpr ⟨
  (gs_icmp_gt dX11_allSeenIsSo_39 rfl), List.forall_mem_cons.mpr ⟨
  (gs_iload_n dX11_allSeenIsSo_42 rfl), List.forall_mem_cons.mpr ⟨
  (gs_if_le dX11_allSeenIsSo_43 rfl), List.forall_mem_cons.mpr ⟨
  (gs_aload_n dX11_allSeenIsSo_46 rfl), List.forall_mem_cons.mpr ⟨
  (gs_gf (ref := "GriefCranes") dX11_allSeenIsSo_47 (gx_mem 372 (by decide +kernel) (by decide +kernel)) (Or.inl rfl) gf_11_1), List.forall_mem_cons.mpr ⟨
  (gs_iconst dX11_allSeenIsSo_50 rfl), List.forall_mem_cons.mpr ⟨
  (gs_cv dX11_allSeenIsSo_51 (fun q hq => by
      simp only [List.mem_cons, List.not_mem_nil, or_false] at hq
      subst hq
      exact Or.inl ⟨_, rfl, by decide, by decide +kernel, by decide +kernel, List.forall_mem_cons.mpr ⟨gx_mem 526 (by decide +kernel) (by decide +kernel), List.forall_mem_cons.mpr ⟨gx_mem 527 (by decide +kernel) (by decide +kernel), List.forall_mem_cons.mpr ⟨gx_mem 528 (by decide +kernel) (by decide +kernel), List.forall_mem_cons.mpr ⟨gx_mem 95 (by decide +kernel) (by decide +kernel), List.forall_mem_cons.mpr ⟨cw_529, fun _ h => absurd h List.not_mem_nil⟩⟩⟩⟩⟩⟩)), List.forall_mem_cons.mpr ⟨
  (gs_iconst dX11_allSeenIsSo_54 rfl), List.forall_mem_cons.mpr ⟨
  (gs_istore_n dX11_allSeenIsSo_55 rfl), fun _ h => absurd h List.not_mem_nil⟩⟩⟩⟩⟩⟩⟩⟩⟩⟩⟩⟩⟩⟩⟩⟩⟩⟩⟩⟩⟩⟩⟩⟩⟩⟩⟩⟩⟩⟩⟩⟩
set_option maxRecDepth 20000 in
theorem kt_X11_allSeenIsSo_1 (g : gx_T) : ∀ q ∈ k_X11_allSeenIsSo_1, gx_E g gc_md RX11 cX11_allSeenIsSo 4 (some .boolean) "allSeenIsSo" q.1 q.2 := List.forall_mem_cons.mpr ⟨(gs_iload_n dX11_allSeenIsSo_56 rfl), List.forall_mem_cons.mpr ⟨
  (gs_aload_n dX11_allSeenIsSo_57 rfl), List.forall_mem_cons.mpr ⟨
  (gs_gf (ref := "GriefCranes") dX11_allSeenIsSo_58 (gx_mem 374 (by decide +kernel) (by decide +kernel)) (Or.inl rfl) gf_11_3), List.forall_mem_cons.mpr ⟨
  (gs_gf (ref := "GriefCranes$Rows") dX11_allSeenIsSo_61 (gx_mem 126 (by decide +kernel) (by decide +kernel)) (Or.inl rfl) gf_5_3), List.forall_mem_cons.mpr ⟨
  (gs_icmp_ge dX11_allSeenIsSo_64 rfl), List.forall_mem_cons.mpr ⟨
  (gs_aload_n dX11_allSeenIsSo_67 rfl), List.forall_mem_cons.mpr ⟨
  (gs_gf (ref := "GriefCranes") dX11_allSeenIsSo_68 (gx_mem 374 (by decide +kernel) (by decide +kernel)) (Or.inl rfl) gf_11_3), List.forall_mem_cons.mpr ⟨
  (gs_gf (ref := "GriefCranes$Rows") dX11_allSeenIsSo_71 (gx_mem 122 (by decide +kernel) (by decide +kernel)) (Or.inl rfl) gf_5_1), List.forall_mem_cons.mpr ⟨
  (gs_iload_n dX11_allSeenIsSo_74 rfl), List.forall_mem_cons.mpr ⟨
  (gs_iaload dX11_allSeenIsSo_75), List.forall_mem_cons.mpr ⟨
  (gs_iload_n dX11_allSeenIsSo_76 rfl), List.forall_mem_cons.mpr ⟨
  (gs_icmp_ne dX11_allSeenIsSo_77 rfl), List.forall_mem_cons.mpr ⟨
  (gs_aload_n dX11_allSeenIsSo_80 rfl), List.forall_mem_cons.mpr ⟨
  (gs_gf (ref := "GriefCranes") dX11_allSeenIsSo_81 (gx_mem 372 (by decide +kernel) (by decide +kernel)) (Or.inl rfl) gf_11_1), List.forall_mem_cons.mpr ⟨
  (gs_aload_n dX11_allSeenIsSo_84 rfl), List.forall_mem_cons.mpr ⟨
  (gs_gf (ref := "GriefCranes") dX11_allSeenIsSo_85 (gx_mem 374 (by decide +kernel) (by decide +kernel)) (Or.inl rfl) gf_11_3), List.forall_mem_cons.mpr ⟨
  (gs_gf (ref := "GriefCranes$Rows") dX11_allSeenIsSo_88 (gx_mem 120 (by decide +kernel) (by decide +kernel)) (Or.inl rfl) gf_5_0), List.forall_mem_cons.mpr ⟨
  (gs_iload_n dX11_allSeenIsSo_91 rfl), List.forall_mem_cons.mpr ⟨
  (gs_iaload dX11_allSeenIsSo_92), List.forall_mem_cons.mpr ⟨
  (gs_aload_n dX11_allSeenIsSo_93 rfl), List.forall_mem_cons.mpr ⟨
  (gs_gf (ref := "GriefCranes") dX11_allSeenIsSo_94 (gx_mem 374 (by decide +kernel) (by decide +kernel)) (Or.inl rfl) gf_11_3), List.forall_mem_cons.mpr ⟨
  (gs_gf (ref := "GriefCranes$Rows") dX11_allSeenIsSo_97 (gx_mem 124 (by decide +kernel) (by decide +kernel)) (Or.inl rfl) gf_5_2), List.forall_mem_cons.mpr ⟨
  (gs_iload_n dX11_allSeenIsSo_100 rfl), List.forall_mem_cons.mpr ⟨
  (gs_iaload dX11_allSeenIsSo_101), List.forall_mem_cons.mpr ⟨
  (gs_cv dX11_allSeenIsSo_102 (fun q hq => by
      simp only [List.mem_cons, List.not_mem_nil, or_false] at hq
      subst hq
      exact Or.inl ⟨_, rfl, by decide, by decide +kernel, by decide +kernel, List.forall_mem_cons.mpr ⟨gx_mem 521 (by decide +kernel) (by decide +kernel), List.forall_mem_cons.mpr ⟨gx_mem 522 (by decide +kernel) (by decide +kernel), List.forall_mem_cons.mpr ⟨gx_mem 523 (by decide +kernel) (by decide +kernel), List.forall_mem_cons.mpr ⟨gx_mem 95 (by decide +kernel) (by decide +kernel), List.forall_mem_cons.mpr ⟨cw_524, fun _ h => absurd h List.not_mem_nil⟩⟩⟩⟩⟩⟩)), List.forall_mem_cons.mpr ⟨
  (gs_if_ne dX11_allSeenIsSo_105 rfl), List.forall_mem_cons.mpr ⟨
  (gs_iconst dX11_allSeenIsSo_108 rfl), List.forall_mem_cons.mpr ⟨
  (gs_rn dX11_allSeenIsSo_109 (by decide)), List.forall_mem_cons.mpr ⟨
  (gs_iinc dX11_allSeenIsSo_110), List.forall_mem_cons.mpr ⟨
  (gs_goto dX11_allSeenIsSo_113 rfl), List.forall_mem_cons.mpr ⟨
  (gs_iinc dX11_allSeenIsSo_116), List.forall_mem_cons.mpr ⟨
  (gs_goto dX11_allSeenIsSo_119 rfl), fun _ h => absurd h List.not_mem_nil⟩⟩⟩⟩⟩⟩⟩⟩⟩⟩⟩⟩⟩⟩⟩⟩⟩⟩⟩⟩⟩⟩⟩⟩⟩⟩⟩⟩⟩⟩⟩⟩
set_option maxRecDepth 20000 in
theorem kt_X11_allSeenIsSo_2 (g : gx_T) : ∀ q ∈ k_X11_allSeenIsSo_2, gx_E g gc_md RX11 cX11_allSeenIsSo 4 (some .boolean) "allSeenIsSo" q.1 q.2 := List.forall_mem_cons.mpr ⟨(gs_iconst dX11_allSeenIsSo_122 rfl), List.forall_mem_cons.mpr ⟨
  (gs_rn dX11_allSeenIsSo_123 (by decide)), fun _ h => absurd h List.not_mem_nil⟩⟩
theorem kt_X11_allSeenIsSo (g : gx_T) : ∀ q ∈ k_X11_allSeenIsSo, gx_E g gc_md RX11 cX11_allSeenIsSo 4 (some .boolean) "allSeenIsSo" q.1 q.2 := List.forall_mem_append.mpr ⟨kt_X11_allSeenIsSo_0 g, List.forall_mem_append.mpr ⟨kt_X11_allSeenIsSo_1 g, kt_X11_allSeenIsSo_2 g⟩⟩
set_option maxRecDepth 20000 in
theorem dX11_goPlanRow_0 : decode cX11_goPlanRow 0 = .ok (.iload_n 1, 1) := by decide +kernel
set_option maxRecDepth 20000 in
theorem dX11_goPlanRow_1 : decode cX11_goPlanRow 1 = .ok (.ifCond .ne 12, 3) := by decide +kernel
set_option maxRecDepth 20000 in
theorem dX11_goPlanRow_4 : decode cX11_goPlanRow 4 = .ok (.aload_n 0, 1) := by decide +kernel
set_option maxRecDepth 20000 in
theorem dX11_goPlanRow_5 : decode cX11_goPlanRow 5 = .ok (.getfield 102, 3) := by decide +kernel
set_option maxRecDepth 20000 in
theorem dX11_goPlanRow_8 : decode cX11_goPlanRow 8 = .ok (.iconst 1, 1) := by decide +kernel
set_option maxRecDepth 20000 in
theorem dX11_goPlanRow_9 : decode cX11_goPlanRow 9 = .ok (.invokevirtual 208, 3) := by decide +kernel
set_option maxRecDepth 20000 in
theorem dX11_goPlanRow_12 : decode cX11_goPlanRow 12 = .ok (.return_, 1) := by decide +kernel
set_option maxRecDepth 20000 in
theorem dX11_goPlanRow_13 : decode cX11_goPlanRow 13 = .ok (.aload_n 0, 1) := by decide +kernel
set_option maxRecDepth 20000 in
theorem dX11_goPlanRow_14 : decode cX11_goPlanRow 14 = .ok (.getfield 102, 3) := by decide +kernel
set_option maxRecDepth 20000 in
theorem dX11_goPlanRow_17 : decode cX11_goPlanRow 17 = .ok (.iload_n 2, 1) := by decide +kernel
set_option maxRecDepth 20000 in
theorem dX11_goPlanRow_18 : decode cX11_goPlanRow 18 = .ok (.invokevirtual 140, 3) := by decide +kernel
set_option maxRecDepth 20000 in
theorem dX11_goPlanRow_21 : decode cX11_goPlanRow 21 = .ok (.ifCond .ne 4, 3) := by decide +kernel
set_option maxRecDepth 20000 in
theorem dX11_goPlanRow_24 : decode cX11_goPlanRow 24 = .ok (.return_, 1) := by decide +kernel
set_option maxRecDepth 20000 in
theorem dX11_goPlanRow_25 : decode cX11_goPlanRow 25 = .ok (.iload_n 1, 1) := by decide +kernel
set_option maxRecDepth 20000 in
theorem dX11_goPlanRow_26 : decode cX11_goPlanRow 26 = .ok (.iconst 1, 1) := by decide +kernel
set_option maxRecDepth 20000 in
theorem dX11_goPlanRow_27 : decode cX11_goPlanRow 27 = .ok (.if_icmp .ne 13, 3) := by decide +kernel
set_option maxRecDepth 20000 in
theorem dX11_goPlanRow_30 : decode cX11_goPlanRow 30 = .ok (.aload_n 0, 1) := by decide +kernel
set_option maxRecDepth 20000 in
theorem dX11_goPlanRow_31 : decode cX11_goPlanRow 31 = .ok (.getfield 102, 3) := by decide +kernel
set_option maxRecDepth 20000 in
theorem dX11_goPlanRow_34 : decode cX11_goPlanRow 34 = .ok (.getfield 161, 3) := by decide +kernel
set_option maxRecDepth 20000 in
theorem dX11_goPlanRow_37 : decode cX11_goPlanRow 37 = .ok (.iload_n 2, 1) := by decide +kernel
set_option maxRecDepth 20000 in
theorem dX11_goPlanRow_38 : decode cX11_goPlanRow 38 = .ok (.iconst 0, 1) := by decide +kernel
set_option maxRecDepth 20000 in
theorem dX11_goPlanRow_39 : decode cX11_goPlanRow 39 = .ok (.iastore, 1) := by decide +kernel
set_option maxRecDepth 20000 in
theorem dX11_goPlanRow_40 : decode cX11_goPlanRow 40 = .ok (.iload_n 1, 1) := by decide +kernel
set_option maxRecDepth 20000 in
theorem dX11_goPlanRow_41 : decode cX11_goPlanRow 41 = .ok (.iconst 2, 1) := by decide +kernel
set_option maxRecDepth 20000 in
theorem dX11_goPlanRow_42 : decode cX11_goPlanRow 42 = .ok (.if_icmp .ne 25, 3) := by decide +kernel
set_option maxRecDepth 20000 in
theorem dX11_goPlanRow_45 : decode cX11_goPlanRow 45 = .ok (.aload_n 0, 1) := by decide +kernel
set_option maxRecDepth 20000 in
theorem dX11_goPlanRow_46 : decode cX11_goPlanRow 46 = .ok (.getfield 102, 3) := by decide +kernel
set_option maxRecDepth 20000 in
theorem dX11_goPlanRow_49 : decode cX11_goPlanRow 49 = .ok (.iload_n 2, 1) := by decide +kernel
set_option maxRecDepth 20000 in
theorem dX11_goPlanRow_50 : decode cX11_goPlanRow 50 = .ok (.iconst 0, 1) := by decide +kernel
set_option maxRecDepth 20000 in
theorem dX11_goPlanRow_51 : decode cX11_goPlanRow 51 = .ok (.invokevirtual 230, 3) := by decide +kernel
set_option maxRecDepth 20000 in
theorem dX11_goPlanRow_54 : decode cX11_goPlanRow 54 = .ok (.ifCond .eq 13, 3) := by decide +kernel
set_option maxRecDepth 20000 in
theorem dX11_goPlanRow_57 : decode cX11_goPlanRow 57 = .ok (.aload_n 0, 1) := by decide +kernel
set_option maxRecDepth 20000 in
theorem dX11_goPlanRow_58 : decode cX11_goPlanRow 58 = .ok (.getfield 102, 3) := by decide +kernel
set_option maxRecDepth 20000 in
theorem dX11_goPlanRow_61 : decode cX11_goPlanRow 61 = .ok (.getfield 155, 3) := by decide +kernel
set_option maxRecDepth 20000 in
theorem dX11_goPlanRow_64 : decode cX11_goPlanRow 64 = .ok (.iload_n 2, 1) := by decide +kernel
set_option maxRecDepth 20000 in
theorem dX11_goPlanRow_65 : decode cX11_goPlanRow 65 = .ok (.iconst (-1), 1) := by decide +kernel
set_option maxRecDepth 20000 in
theorem dX11_goPlanRow_66 : decode cX11_goPlanRow 66 = .ok (.iastore, 1) := by decide +kernel
set_option maxRecDepth 20000 in
theorem dX11_goPlanRow_67 : decode cX11_goPlanRow 67 = .ok (.iload_n 1, 1) := by decide +kernel
set_option maxRecDepth 20000 in
theorem dX11_goPlanRow_68 : decode cX11_goPlanRow 68 = .ok (.iconst 3, 1) := by decide +kernel
set_option maxRecDepth 20000 in
theorem dX11_goPlanRow_69 : decode cX11_goPlanRow 69 = .ok (.if_icmp .ne 12, 3) := by decide +kernel
set_option maxRecDepth 20000 in
theorem dX11_goPlanRow_72 : decode cX11_goPlanRow 72 = .ok (.aload_n 0, 1) := by decide +kernel
set_option maxRecDepth 20000 in
theorem dX11_goPlanRow_73 : decode cX11_goPlanRow 73 = .ok (.getfield 102, 3) := by decide +kernel
set_option maxRecDepth 20000 in
theorem dX11_goPlanRow_76 : decode cX11_goPlanRow 76 = .ok (.iload_n 2, 1) := by decide +kernel
set_option maxRecDepth 20000 in
theorem dX11_goPlanRow_77 : decode cX11_goPlanRow 77 = .ok (.iconst 0, 1) := by decide +kernel
set_option maxRecDepth 20000 in
theorem dX11_goPlanRow_78 : decode cX11_goPlanRow 78 = .ok (.invokevirtual 316, 3) := by decide +kernel
set_option maxRecDepth 20000 in
theorem dX11_goPlanRow_81 : decode cX11_goPlanRow 81 = .ok (.return_, 1) := by decide +kernel
set_option maxRecDepth 20000 in
theorem kt_X11_goPlanRow_0 (g : gx_T) : ∀ q ∈ k_X11_goPlanRow_0, gx_E g gc_md RX11 cX11_goPlanRow 3 (none) "goPlanRow" q.1 q.2 := List.forall_mem_cons.mpr ⟨(gs_iload_n dX11_goPlanRow_0 rfl), List.forall_mem_cons.mpr ⟨
  (gs_if_ne dX11_goPlanRow_1 rfl), List.forall_mem_cons.mpr ⟨
  (gs_aload_n dX11_goPlanRow_4 rfl), List.forall_mem_cons.mpr ⟨
  (gs_gf (ref := "GriefCranes") dX11_goPlanRow_5 (gx_mem 372 (by decide +kernel) (by decide +kernel)) (Or.inl rfl) gf_11_1), List.forall_mem_cons.mpr ⟨
  (gs_iconst dX11_goPlanRow_8 rfl), List.forall_mem_cons.mpr ⟨
  (gs_cv dX11_goPlanRow_9 (fun q hq => by
      simp only [List.mem_cons, List.not_mem_nil, or_false] at hq
      subst hq
      exact Or.inl ⟨_, rfl, by decide, by decide +kernel, by decide +kernel, List.forall_mem_cons.mpr ⟨gx_mem 526 (by decide +kernel) (by decide +kernel), List.forall_mem_cons.mpr ⟨gx_mem 527 (by decide +kernel) (by decide +kernel), List.forall_mem_cons.mpr ⟨gx_mem 528 (by decide +kernel) (by decide +kernel), List.forall_mem_cons.mpr ⟨gx_mem 95 (by decide +kernel) (by decide +kernel), List.forall_mem_cons.mpr ⟨cw_529, fun _ h => absurd h List.not_mem_nil⟩⟩⟩⟩⟩⟩)), List.forall_mem_cons.mpr ⟨
  (gs_rv dX11_goPlanRow_12), List.forall_mem_cons.mpr ⟨
  (gs_aload_n dX11_goPlanRow_13 rfl), List.forall_mem_cons.mpr ⟨
  (gs_gf (ref := "GriefCranes") dX11_goPlanRow_14 (gx_mem 372 (by decide +kernel) (by decide +kernel)) (Or.inl rfl) gf_11_1), List.forall_mem_cons.mpr ⟨
  (gs_iload_n dX11_goPlanRow_17 rfl), List.forall_mem_cons.mpr ⟨
  (gs_cv dX11_goPlanRow_18 (fun q hq => by
      simp only [List.mem_cons, List.not_mem_nil, or_false] at hq
      subst hq
      exact Or.inl ⟨_, rfl, by decide, by decide +kernel, by decide +kernel, List.forall_mem_cons.mpr ⟨gx_mem 449 (by decide +kernel) (by decide +kernel), List.forall_mem_cons.mpr ⟨gx_mem 450 (by decide +kernel) (by decide +kernel), List.forall_mem_cons.mpr ⟨gx_mem 451 (by decide +kernel) (by decide +kernel), List.forall_mem_cons.mpr ⟨gx_mem 95 (by decide +kernel) (by decide +kernel), List.forall_mem_cons.mpr ⟨cw_452, fun _ h => absurd h List.not_mem_nil⟩⟩⟩⟩⟩⟩)), List.forall_mem_cons.mpr ⟨
  (gs_if_ne dX11_goPlanRow_21 rfl), List.forall_mem_cons.mpr ⟨
  (gs_rv dX11_goPlanRow_24), List.forall_mem_cons.mpr ⟨
  (gs_iload_n dX11_goPlanRow_25 rfl), List.forall_mem_cons.mpr ⟨
  (gs_iconst dX11_goPlanRow_26 rfl), List.forall_mem_cons.mpr ⟨
  (gs_icmp_ne dX11_goPlanRow_27 rfl), List.forall_mem_cons.mpr ⟨
  (gs_aload_n dX11_goPlanRow_30 rfl), List.forall_mem_cons.mpr ⟨
  (gs_gf (ref := "GriefCranes") dX11_goPlanRow_31 (gx_mem 372 (by decide +kernel) (by decide +kernel)) (Or.inl rfl) gf_11_1), List.forall_mem_cons.mpr ⟨
  (gs_gf (ref := "GriefCranes$Yard") dX11_goPlanRow_34 (gx_mem 334 (by decide +kernel) (by decide +kernel)) (Or.inl rfl) gf_10_13), List.forall_mem_cons.mpr ⟨
  (gs_iload_n dX11_goPlanRow_37 rfl), List.forall_mem_cons.mpr ⟨
  (gs_iconst dX11_goPlanRow_38 rfl), List.forall_mem_cons.mpr ⟨
  (gs_iastore dX11_goPlanRow_39), List.forall_mem_cons.mpr ⟨
  (gs_iload_n dX11_goPlanRow_40 rfl), List.forall_mem_cons.mpr ⟨
  (gs_iconst dX11_goPlanRow_41 rfl), List.forall_mem_cons.mpr ⟨
  (gs_icmp_ne dX11_goPlanRow_42 rfl), List.forall_mem_cons.mpr ⟨
  (gs_aload_n dX11_goPlanRow_45 rfl), List.forall_mem_cons.mpr ⟨
  (gs_gf (ref := "GriefCranes") dX11_goPlanRow_46 (gx_mem 372 (by decide +kernel) (by decide +kernel)) (Or.inl rfl) gf_11_1), List.forall_mem_cons.mpr ⟨
  (gs_iload_n dX11_goPlanRow_49 rfl), List.forall_mem_cons.mpr ⟨
  (gs_iconst dX11_goPlanRow_50 rfl), List.forall_mem_cons.mpr ⟨
  (gs_cv dX11_goPlanRow_51 (fun q hq => by
      simp only [List.mem_cons, List.not_mem_nil, or_false] at hq
      subst hq
      exact Or.inl ⟨_, rfl, by decide, by decide +kernel, by decide +kernel, List.forall_mem_cons.mpr ⟨gx_mem 521 (by decide +kernel) (by decide +kernel), List.forall_mem_cons.mpr ⟨gx_mem 522 (by decide +kernel) (by decide +kernel), List.forall_mem_cons.mpr ⟨gx_mem 523 (by decide +kernel) (by decide +kernel), List.forall_mem_cons.mpr ⟨gx_mem 95 (by decide +kernel) (by decide +kernel), List.forall_mem_cons.mpr ⟨cw_524, fun _ h => absurd h List.not_mem_nil⟩⟩⟩⟩⟩⟩)), List.forall_mem_cons.mpr ⟨
  (gs_if_eq dX11_goPlanRow_54 rfl), List.forall_mem_cons.mpr ⟨
  (gs_aload_n dX11_goPlanRow_57 rfl), fun _ h => absurd h List.not_mem_nil⟩⟩⟩⟩⟩⟩⟩⟩⟩⟩⟩⟩⟩⟩⟩⟩⟩⟩⟩⟩⟩⟩⟩⟩⟩⟩⟩⟩⟩⟩⟩⟩
set_option maxRecDepth 20000 in
theorem kt_X11_goPlanRow_1 (g : gx_T) : ∀ q ∈ k_X11_goPlanRow_1, gx_E g gc_md RX11 cX11_goPlanRow 3 (none) "goPlanRow" q.1 q.2 := List.forall_mem_cons.mpr ⟨(gs_gf (ref := "GriefCranes") dX11_goPlanRow_58 (gx_mem 372 (by decide +kernel) (by decide +kernel)) (Or.inl rfl) gf_11_1), List.forall_mem_cons.mpr ⟨
  (gs_gf (ref := "GriefCranes$Yard") dX11_goPlanRow_61 (gx_mem 330 (by decide +kernel) (by decide +kernel)) (Or.inl rfl) gf_10_11), List.forall_mem_cons.mpr ⟨
  (gs_iload_n dX11_goPlanRow_64 rfl), List.forall_mem_cons.mpr ⟨
  (gs_iconst dX11_goPlanRow_65 rfl), List.forall_mem_cons.mpr ⟨
  (gs_iastore dX11_goPlanRow_66), List.forall_mem_cons.mpr ⟨
  (gs_iload_n dX11_goPlanRow_67 rfl), List.forall_mem_cons.mpr ⟨
  (gs_iconst dX11_goPlanRow_68 rfl), List.forall_mem_cons.mpr ⟨
  (gs_icmp_ne dX11_goPlanRow_69 rfl), List.forall_mem_cons.mpr ⟨
  (gs_aload_n dX11_goPlanRow_72 rfl), List.forall_mem_cons.mpr ⟨
  (gs_gf (ref := "GriefCranes") dX11_goPlanRow_73 (gx_mem 372 (by decide +kernel) (by decide +kernel)) (Or.inl rfl) gf_11_1), List.forall_mem_cons.mpr ⟨
  (gs_iload_n dX11_goPlanRow_76 rfl), List.forall_mem_cons.mpr ⟨
  (gs_iconst dX11_goPlanRow_77 rfl), List.forall_mem_cons.mpr ⟨
  (gs_cv dX11_goPlanRow_78 (fun q hq => by
      simp only [List.mem_cons, List.not_mem_nil, or_false] at hq
      subst hq
      exact Or.inl ⟨_, rfl, by decide, by decide +kernel, by decide +kernel, List.forall_mem_cons.mpr ⟨gx_mem 817 (by decide +kernel) (by decide +kernel), List.forall_mem_cons.mpr ⟨gx_mem 503 (by decide +kernel) (by decide +kernel), List.forall_mem_cons.mpr ⟨gx_mem 504 (by decide +kernel) (by decide +kernel), List.forall_mem_cons.mpr ⟨gx_mem 95 (by decide +kernel) (by decide +kernel), List.forall_mem_cons.mpr ⟨cw_505, fun _ h => absurd h List.not_mem_nil⟩⟩⟩⟩⟩⟩)), List.forall_mem_cons.mpr ⟨
  (gs_rv dX11_goPlanRow_81), fun _ h => absurd h List.not_mem_nil⟩⟩⟩⟩⟩⟩⟩⟩⟩⟩⟩⟩⟩⟩
theorem kt_X11_goPlanRow (g : gx_T) : ∀ q ∈ k_X11_goPlanRow, gx_E g gc_md RX11 cX11_goPlanRow 3 (none) "goPlanRow" q.1 q.2 := List.forall_mem_append.mpr ⟨kt_X11_goPlanRow_0 g, kt_X11_goPlanRow_1 g⟩
