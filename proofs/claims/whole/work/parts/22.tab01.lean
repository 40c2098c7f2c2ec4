/-! decoded, and each instruction a row -/
set_option maxRecDepth 20000 in
theorem dX7_tells_0 : decode cX7_tells 0 = .ok (.aload_n 0, 1) := by decide +kernel
set_option maxRecDepth 20000 in
theorem dX7_tells_1 : decode cX7_tells 1 = .ok (.bipush 40, 2) := by decide +kernel
set_option maxRecDepth 20000 in
theorem dX7_tells_3 : decode cX7_tells 3 = .ok (.invokevirtual 20, 3) := by decide +kernel
set_option maxRecDepth 20000 in
theorem dX7_tells_6 : decode cX7_tells 6 = .ok (.aload_n 0, 1) := by decide +kernel
set_option maxRecDepth 20000 in
theorem dX7_tells_7 : decode cX7_tells 7 = .ok (.iload_n 1, 1) := by decide +kernel
set_option maxRecDepth 20000 in
theorem dX7_tells_8 : decode cX7_tells 8 = .ok (.invokespecial 26, 3) := by decide +kernel
set_option maxRecDepth 20000 in
theorem dX7_tells_11 : decode cX7_tells 11 = .ok (.aload_n 0, 1) := by decide +kernel
set_option maxRecDepth 20000 in
theorem dX7_tells_12 : decode cX7_tells 12 = .ok (.iconst 1, 1) := by decide +kernel
set_option maxRecDepth 20000 in
theorem dX7_tells_13 : decode cX7_tells 13 = .ok (.invokevirtual 30, 3) := by decide +kernel
set_option maxRecDepth 20000 in
theorem dX7_tells_16 : decode cX7_tells 16 = .ok (.iadd, 1) := by decide +kernel
set_option maxRecDepth 20000 in
theorem dX7_tells_17 : decode cX7_tells 17 = .ok (.ireturn, 1) := by decide +kernel
set_option maxRecDepth 20000 in
theorem kt_X7_tells_0 (g : gx_T) : ∀ q ∈ k_X7_tells_0, gx_E g gc_md RX7 cX7_tells 2 (some .int) "tells" q.1 q.2 := List.forall_mem_cons.mpr ⟨(gs_aload_n dX7_tells_0 rfl), List.forall_mem_cons.mpr ⟨
  (gs_bipush dX7_tells_1 rfl), List.forall_mem_cons.mpr ⟨
  (gs_cv dX7_tells_3 (fun q hq => by
      simp only [List.mem_cons, List.not_mem_nil, or_false] at hq
      rcases hq with rfl | rfl
      · exact Or.inr ⟨_, ⟨"GriefCranes$Steady", "began", "(I)V"⟩, RX0, gc_md 3, rfl, by decide, by decide +kernel, by decide +kernel, rfl, List.forall_mem_cons.mpr ⟨gx_mem 941 (by decide +kernel) (by decide +kernel), List.forall_mem_cons.mpr ⟨gx_mem 942 (by decide +kernel) (by decide +kernel), List.forall_mem_cons.mpr ⟨gx_mem 869 (by decide +kernel) (by decide +kernel), List.forall_mem_cons.mpr ⟨cw_870, List.forall_mem_cons.mpr ⟨gx_mem 943 (by decide +kernel) (by decide +kernel), List.forall_mem_cons.mpr ⟨gx_mem 869 (by decide +kernel) (by decide +kernel), List.forall_mem_cons.mpr ⟨gx_mem 88 (by decide +kernel) (by decide +kernel), List.forall_mem_cons.mpr ⟨cw_870, fun _ h => absurd h List.not_mem_nil⟩⟩⟩⟩⟩⟩⟩⟩⟩
      · exact Or.inr ⟨_, ⟨"GriefCranes$Steady", "began", "(I)V"⟩, RX0, gc_md 3, rfl, by decide, by decide +kernel, by decide +kernel, rfl, List.forall_mem_cons.mpr ⟨gx_mem 941 (by decide +kernel) (by decide +kernel), List.forall_mem_cons.mpr ⟨gx_mem 942 (by decide +kernel) (by decide +kernel), List.forall_mem_cons.mpr ⟨gx_mem 869 (by decide +kernel) (by decide +kernel), List.forall_mem_cons.mpr ⟨cw_870, List.forall_mem_cons.mpr ⟨gx_mem 944 (by decide +kernel) (by decide +kernel), List.forall_mem_cons.mpr ⟨gx_mem 869 (by decide +kernel) (by decide +kernel), List.forall_mem_cons.mpr ⟨gx_mem 88 (by decide +kernel) (by decide +kernel), List.forall_mem_cons.mpr ⟨cw_870, fun _ h => absurd h List.not_mem_nil⟩⟩⟩⟩⟩⟩⟩⟩⟩)), List.forall_mem_cons.mpr ⟨
  (gs_aload_n dX7_tells_6 rfl), List.forall_mem_cons.mpr ⟨
  (gs_iload_n dX7_tells_7 rfl), List.forall_mem_cons.mpr ⟨
  (gs_csu dX7_tells_8 (md_6) (List.forall_mem_cons.mpr ⟨gx_mem 945 (by decide +kernel) (by decide +kernel), List.forall_mem_cons.mpr ⟨gx_mem 925 (by decide +kernel) (by decide +kernel), List.forall_mem_cons.mpr ⟨gx_mem 259 (by decide +kernel) (by decide +kernel), List.forall_mem_cons.mpr ⟨gx_mem 923 (by decide +kernel) (by decide +kernel), List.forall_mem_cons.mpr ⟨gx_mem 88 (by decide +kernel) (by decide +kernel), List.forall_mem_cons.mpr ⟨cw_950, fun _ h => absurd h List.not_mem_nil⟩⟩⟩⟩⟩⟩) (by decide +kernel) (by decide)), List.forall_mem_cons.mpr ⟨
  (gs_aload_n dX7_tells_11 rfl), List.forall_mem_cons.mpr ⟨
  (gs_iconst dX7_tells_12 rfl), List.forall_mem_cons.mpr ⟨
  (gs_cv dX7_tells_13 (fun q hq => by
      simp only [List.mem_cons, List.not_mem_nil, or_false] at hq
      rcases hq with rfl | rfl
      · exact Or.inr ⟨_, ⟨"GriefCranes$Steady", "lifts", "(I)I"⟩, RX0, gc_md 5, rfl, by decide, by decide +kernel, by decide +kernel, rfl, List.forall_mem_cons.mpr ⟨gx_mem 946 (by decide +kernel) (by decide +kernel), List.forall_mem_cons.mpr ⟨gx_mem 918 (by decide +kernel) (by decide +kernel), List.forall_mem_cons.mpr ⟨gx_mem 896 (by decide +kernel) (by decide +kernel), List.forall_mem_cons.mpr ⟨cw_920, List.forall_mem_cons.mpr ⟨gx_mem 947 (by decide +kernel) (by decide +kernel), List.forall_mem_cons.mpr ⟨gx_mem 896 (by decide +kernel) (by decide +kernel), List.forall_mem_cons.mpr ⟨gx_mem 88 (by decide +kernel) (by decide +kernel), List.forall_mem_cons.mpr ⟨cw_920, fun _ h => absurd h List.not_mem_nil⟩⟩⟩⟩⟩⟩⟩⟩⟩
      · exact Or.inr ⟨_, ⟨"GriefCranes$Steady", "lifts", "(I)I"⟩, RX0, gc_md 5, rfl, by decide, by decide +kernel, by decide +kernel, rfl, List.forall_mem_cons.mpr ⟨gx_mem 946 (by decide +kernel) (by decide +kernel), List.forall_mem_cons.mpr ⟨gx_mem 918 (by decide +kernel) (by decide +kernel), List.forall_mem_cons.mpr ⟨gx_mem 896 (by decide +kernel) (by decide +kernel), List.forall_mem_cons.mpr ⟨cw_920, List.forall_mem_cons.mpr ⟨gx_mem 948 (by decide +kernel) (by decide +kernel), List.forall_mem_cons.mpr ⟨gx_mem 915 (by decide +kernel) (by decide +kernel), List.forall_mem_cons.mpr ⟨gx_mem 94 (by decide +kernel) (by decide +kernel), List.forall_mem_cons.mpr ⟨cw_916, fun _ h => absurd h List.not_mem_nil⟩⟩⟩⟩⟩⟩⟩⟩⟩)), List.forall_mem_cons.mpr ⟨
  (gs_iadd dX7_tells_16), List.forall_mem_cons.mpr ⟨
  (gs_ri dX7_tells_17), fun _ h => absurd h List.not_mem_nil⟩⟩⟩⟩⟩⟩⟩⟩⟩⟩⟩
theorem kt_X7_tells (g : gx_T) : ∀ q ∈ k_X7_tells, gx_E g gc_md RX7 cX7_tells 2 (some .int) "tells" q.1 q.2 := kt_X7_tells_0 g
set_option maxRecDepth 20000 in
theorem dX8_init_0 : decode cX8_init 0 = .ok (.aload_n 0, 1) := by decide +kernel
set_option maxRecDepth 20000 in
theorem dX8_init_1 : decode cX8_init 1 = .ok (.invokespecial 3, 3) := by decide +kernel
set_option maxRecDepth 20000 in
theorem dX8_init_4 : decode cX8_init 4 = .ok (.aload_n 0, 1) := by decide +kernel
set_option maxRecDepth 20000 in
theorem dX8_init_5 : decode cX8_init 5 = .ok (.iconst (-1), 1) := by decide +kernel
set_option maxRecDepth 20000 in
theorem dX8_init_6 : decode cX8_init 6 = .ok (.putfield 9, 3) := by decide +kernel
set_option maxRecDepth 20000 in
theorem dX8_init_9 : decode cX8_init 9 = .ok (.aload_n 0, 1) := by decide +kernel
set_option maxRecDepth 20000 in
theorem dX8_init_10 : decode cX8_init 10 = .ok (.iconst 0, 1) := by decide +kernel
set_option maxRecDepth 20000 in
theorem dX8_init_11 : decode cX8_init 11 = .ok (.putfield 15, 3) := by decide +kernel
set_option maxRecDepth 20000 in
theorem dX8_init_14 : decode cX8_init 14 = .ok (.aload_n 0, 1) := by decide +kernel
set_option maxRecDepth 20000 in
theorem dX8_init_15 : decode cX8_init 15 = .ok (.bipush 60, 2) := by decide +kernel
set_option maxRecDepth 20000 in
theorem dX8_init_17 : decode cX8_init 17 = .ok (.newarray .long, 2) := by decide +kernel
set_option maxRecDepth 20000 in
theorem dX8_init_19 : decode cX8_init 19 = .ok (.putfield 18, 3) := by decide +kernel
set_option maxRecDepth 20000 in
theorem dX8_init_22 : decode cX8_init 22 = .ok (.return_, 1) := by decide +kernel
set_option maxRecDepth 20000 in
theorem kt_X8_init_0 (g : gx_T) : ∀ q ∈ k_X8_init_0, gx_E g gc_md RX8 cX8_init 1 (none) "<init>" q.1 q.2 := List.forall_mem_cons.mpr ⟨(gs_aload_n dX8_init_0 rfl), List.forall_mem_cons.mpr ⟨
  (gs_oi dX8_init_1 (gx_mem 186 (by decide +kernel) (by decide +kernel)) (gx_mem 111 (by decide +kernel) (by decide +kernel)) (cw_112)), List.forall_mem_cons.mpr ⟨
  (gs_aload_n dX8_init_4 rfl), List.forall_mem_cons.mpr ⟨
  (gs_iconst dX8_init_5 rfl), List.forall_mem_cons.mpr ⟨
  (gs_pf (ref := "GriefCranes$Tape") dX8_init_6 (gx_mem 187 (by decide +kernel) (by decide +kernel)) (Or.inl rfl) gf_8_0 (by decide +kernel)), List.forall_mem_cons.mpr ⟨
  (gs_aload_n dX8_init_9 rfl), List.forall_mem_cons.mpr ⟨
  (gs_iconst dX8_init_10 rfl), List.forall_mem_cons.mpr ⟨
  (gs_pf (ref := "GriefCranes$Tape") dX8_init_11 (gx_mem 189 (by decide +kernel) (by decide +kernel)) (Or.inl rfl) gf_8_1 (by decide +kernel)), List.forall_mem_cons.mpr ⟨
  (gs_aload_n dX8_init_14 rfl), List.forall_mem_cons.mpr ⟨
  (gs_bipush dX8_init_15 rfl), List.forall_mem_cons.mpr ⟨
  (gs_newa (ty := .long) dX8_init_17 rfl (gx_mem 200 (by decide +kernel) (by decide +kernel)) (by decide) (fun _ _ => rfl) rfl rfl (fun _ h => h)), List.forall_mem_cons.mpr ⟨
  (gs_pff dX8_init_19 (gx_mem 191 (by decide +kernel) (by decide +kernel)) gf_8_2 (by decide +kernel)), List.forall_mem_cons.mpr ⟨
  (gs_rv dX8_init_22), fun _ h => absurd h List.not_mem_nil⟩⟩⟩⟩⟩⟩⟩⟩⟩⟩⟩⟩⟩
theorem kt_X8_init (g : gx_T) : ∀ q ∈ k_X8_init, gx_E g gc_md RX8 cX8_init 1 (none) "<init>" q.1 q.2 := kt_X8_init_0 g
set_option maxRecDepth 20000 in
theorem dX8_become_0 : decode cX8_become 0 = .ok (.aload_n 0, 1) := by decide +kernel
set_option maxRecDepth 20000 in
theorem dX8_become_1 : decode cX8_become 1 = .ok (.iload_n 1, 1) := by decide +kernel
set_option maxRecDepth 20000 in
theorem dX8_become_2 : decode cX8_become 2 = .ok (.putfield 9, 3) := by decide +kernel
set_option maxRecDepth 20000 in
theorem dX8_become_5 : decode cX8_become 5 = .ok (.aload_n 0, 1) := by decide +kernel
set_option maxRecDepth 20000 in
theorem dX8_become_6 : decode cX8_become 6 = .ok (.iload_n 2, 1) := by decide +kernel
set_option maxRecDepth 20000 in
theorem dX8_become_7 : decode cX8_become 7 = .ok (.putfield 15, 3) := by decide +kernel
set_option maxRecDepth 20000 in
theorem dX8_become_10 : decode cX8_become 10 = .ok (.iconst 0, 1) := by decide +kernel
set_option maxRecDepth 20000 in
theorem dX8_become_11 : decode cX8_become 11 = .ok (.istore_n 3, 1) := by decide +kernel
set_option maxRecDepth 20000 in
theorem dX8_become_12 : decode cX8_become 12 = .ok (.iload_n 3, 1) := by decide +kernel
set_option maxRecDepth 20000 in
theorem dX8_become_13 : decode cX8_become 13 = .ok (.bipush 60, 2) := by decide +kernel
set_option maxRecDepth 20000 in
theorem dX8_become_15 : decode cX8_become 15 = .ok (.if_icmp .ge 16, 3) := by decide +kernel
set_option maxRecDepth 20000 in
theorem dX8_become_18 : decode cX8_become 18 = .ok (.aload_n 0, 1) := by decide +kernel
set_option maxRecDepth 20000 in
theorem dX8_become_19 : decode cX8_become 19 = .ok (.getfield 18, 3) := by decide +kernel
set_option maxRecDepth 20000 in
theorem dX8_become_22 : decode cX8_become 22 = .ok (.iload_n 3, 1) := by decide +kernel
set_option maxRecDepth 20000 in
theorem dX8_become_23 : decode cX8_become 23 = .ok (.lconst 0, 1) := by decide +kernel
set_option maxRecDepth 20000 in
theorem dX8_become_24 : decode cX8_become 24 = .ok (.lastore, 1) := by decide +kernel
set_option maxRecDepth 20000 in
theorem dX8_become_25 : decode cX8_become 25 = .ok (.iinc 3 1, 3) := by decide +kernel
set_option maxRecDepth 20000 in
theorem dX8_become_28 : decode cX8_become 28 = .ok (.goto (-16), 3) := by decide +kernel
set_option maxRecDepth 20000 in
theorem dX8_become_31 : decode cX8_become 31 = .ok (.return_, 1) := by decide +kernel
set_option maxRecDepth 20000 in
theorem kt_X8_become_0 (g : gx_T) : ∀ q ∈ k_X8_become_0, gx_E g gc_md RX8 cX8_become 4 (none) "become" q.1 q.2 := List.forall_mem_cons.mpr ⟨(gs_aload_n dX8_become_0 rfl), List.forall_mem_cons.mpr ⟨
  (gs_iload_n dX8_become_1 rfl), List.forall_mem_cons.mpr ⟨
  (gs_pf (ref := "GriefCranes$Tape") dX8_become_2 (gx_mem 187 (by decide +kernel) (by decide +kernel)) (Or.inl rfl) gf_8_0 (by decide +kernel)), List.forall_mem_cons.mpr ⟨
  (gs_aload_n dX8_become_5 rfl), List.forall_mem_cons.mpr ⟨
  (gs_iload_n dX8_become_6 rfl), List.forall_mem_cons.mpr ⟨
  (gs_pf (ref := "GriefCranes$Tape") dX8_become_7 (gx_mem 189 (by decide +kernel) (by decide +kernel)) (Or.inl rfl) gf_8_1 (by decide +kernel)), List.forall_mem_cons.mpr ⟨
  (gs_iconst dX8_become_10 rfl), List.forall_mem_cons.mpr ⟨
  (gs_istore_n dX8_become_11 rfl), List.forall_mem_cons.mpr ⟨
  (gs_iload_n dX8_become_12 rfl), List.forall_mem_cons.mpr ⟨
  (gs_bipush dX8_become_13 rfl), List.forall_mem_cons.mpr ⟨
  (gs_icmp_ge dX8_become_15 rfl), List.forall_mem_cons.mpr ⟨
  (gs_aload_n dX8_become_18 rfl), List.forall_mem_cons.mpr ⟨
  (gs_gf (ref := "GriefCranes$Tape") dX8_become_19 (gx_mem 191 (by decide +kernel) (by decide +kernel)) (Or.inl rfl) gf_8_2), List.forall_mem_cons.mpr ⟨
  (gs_iload_n dX8_become_22 rfl), List.forall_mem_cons.mpr ⟨
  (gs_lconst dX8_become_23 rfl), List.forall_mem_cons.mpr ⟨
  (gs_lastore dX8_become_24), List.forall_mem_cons.mpr ⟨
  (gs_iinc dX8_become_25), List.forall_mem_cons.mpr ⟨
  (gs_goto dX8_become_28 rfl), List.forall_mem_cons.mpr ⟨
  (gs_rv dX8_become_31), fun _ h => absurd h List.not_mem_nil⟩⟩⟩⟩⟩⟩⟩⟩⟩⟩⟩⟩⟩⟩⟩⟩⟩⟩⟩
theorem kt_X8_become (g : gx_T) : ∀ q ∈ k_X8_become, gx_E g gc_md RX8 cX8_become 4 (none) "become" q.1 q.2 := kt_X8_become_0 g
set_option maxRecDepth 20000 in
theorem dX8_narrowed_0 : decode cX8_narrowed 0 = .ok (.aload_n 0, 1) := by decide +kernel
set_option maxRecDepth 20000 in
theorem dX8_narrowed_1 : decode cX8_narrowed 1 = .ok (.getfield 9, 3) := by decide +kernel
set_option maxRecDepth 20000 in
theorem dX8_narrowed_4 : decode cX8_narrowed 4 = .ok (.tableswitch 48 0 3 #[32, 37, 42, 46], 32) := by decide +kernel
set_option maxRecDepth 20000 in
theorem dX8_narrowed_36 : decode cX8_narrowed 36 = .ok (.lload_n 1, 1) := by decide +kernel
set_option maxRecDepth 20000 in
theorem dX8_narrowed_37 : decode cX8_narrowed 37 = .ok (.l2i, 1) := by decide +kernel
set_option maxRecDepth 20000 in
theorem dX8_narrowed_38 : decode cX8_narrowed 38 = .ok (.i2b, 1) := by decide +kernel
set_option maxRecDepth 20000 in
theorem dX8_narrowed_39 : decode cX8_narrowed 39 = .ok (.i2l, 1) := by decide +kernel
set_option maxRecDepth 20000 in
theorem dX8_narrowed_40 : decode cX8_narrowed 40 = .ok (.lreturn, 1) := by decide +kernel
set_option maxRecDepth 20000 in
theorem dX8_narrowed_41 : decode cX8_narrowed 41 = .ok (.lload_n 1, 1) := by decide +kernel
set_option maxRecDepth 20000 in
theorem dX8_narrowed_42 : decode cX8_narrowed 42 = .ok (.l2i, 1) := by decide +kernel
set_option maxRecDepth 20000 in
theorem dX8_narrowed_43 : decode cX8_narrowed 43 = .ok (.i2s, 1) := by decide +kernel
set_option maxRecDepth 20000 in
theorem dX8_narrowed_44 : decode cX8_narrowed 44 = .ok (.i2l, 1) := by decide +kernel
set_option maxRecDepth 20000 in
theorem dX8_narrowed_45 : decode cX8_narrowed 45 = .ok (.lreturn, 1) := by decide +kernel
set_option maxRecDepth 20000 in
theorem dX8_narrowed_46 : decode cX8_narrowed 46 = .ok (.lload_n 1, 1) := by decide +kernel
set_option maxRecDepth 20000 in
theorem dX8_narrowed_47 : decode cX8_narrowed 47 = .ok (.l2i, 1) := by decide +kernel
set_option maxRecDepth 20000 in
theorem dX8_narrowed_48 : decode cX8_narrowed 48 = .ok (.i2l, 1) := by decide +kernel
set_option maxRecDepth 20000 in
theorem dX8_narrowed_49 : decode cX8_narrowed 49 = .ok (.lreturn, 1) := by decide +kernel
set_option maxRecDepth 20000 in
theorem dX8_narrowed_50 : decode cX8_narrowed 50 = .ok (.lload_n 1, 1) := by decide +kernel
set_option maxRecDepth 20000 in
theorem dX8_narrowed_51 : decode cX8_narrowed 51 = .ok (.lreturn, 1) := by decide +kernel
set_option maxRecDepth 20000 in
theorem dX8_narrowed_52 : decode cX8_narrowed 52 = .ok (.lload_n 1, 1) := by decide +kernel
set_option maxRecDepth 20000 in
theorem dX8_narrowed_53 : decode cX8_narrowed 53 = .ok (.lconst 0, 1) := by decide +kernel
set_option maxRecDepth 20000 in
theorem dX8_narrowed_54 : decode cX8_narrowed 54 = .ok (.lcmp, 1) := by decide +kernel
set_option maxRecDepth 20000 in
theorem dX8_narrowed_55 : decode cX8_narrowed 55 = .ok (.ifCond .eq 7, 3) := by decide +kernel
set_option maxRecDepth 20000 in
theorem dX8_narrowed_58 : decode cX8_narrowed 58 = .ok (.lconst 1, 1) := by decide +kernel
set_option maxRecDepth 20000 in
theorem dX8_narrowed_59 : decode cX8_narrowed 59 = .ok (.goto 4, 3) := by decide +kernel
set_option maxRecDepth 20000 in
theorem dX8_narrowed_62 : decode cX8_narrowed 62 = .ok (.lconst 0, 1) := by decide +kernel
set_option maxRecDepth 20000 in
theorem dX8_narrowed_63 : decode cX8_narrowed 63 = .ok (.lreturn, 1) := by decide +kernel
set_option maxRecDepth 20000 in
theorem kt_X8_narrowed_0 (g : gx_T) : ∀ q ∈ k_X8_narrowed_0, gx_E g gc_md RX8 cX8_narrowed 3 (some .long) "narrowed" q.1 q.2 := List.forall_mem_cons.mpr ⟨(gs_aload_n dX8_narrowed_0 rfl), List.forall_mem_cons.mpr ⟨
  (gs_gf (ref := "GriefCranes$Tape") dX8_narrowed_1 (gx_mem 187 (by decide +kernel) (by decide +kernel)) (Or.inl rfl) gf_8_0), List.forall_mem_cons.mpr ⟨
  (gs_tsw (lo := 0) (offs := [32, 37, 42, 46]) dX8_narrowed_4 (by decide +kernel) (by decide +kernel)), List.forall_mem_cons.mpr ⟨
  (gs_lload_n dX8_narrowed_36 rfl), List.forall_mem_cons.mpr ⟨
  (gs_l2i dX8_narrowed_37), List.forall_mem_cons.mpr ⟨
  (gs_i2b dX8_narrowed_38), List.forall_mem_cons.mpr ⟨
  (gs_i2l dX8_narrowed_39), List.forall_mem_cons.mpr ⟨
  (gs_rl dX8_narrowed_40), List.forall_mem_cons.mpr ⟨
  (gs_lload_n dX8_narrowed_41 rfl), List.forall_mem_cons.mpr ⟨
  (gs_l2i dX8_narrowed_42), List.forall_mem_cons.mpr ⟨
  (gs_i2s dX8_narrowed_43), List.forall_mem_cons.mpr ⟨
  (gs_i2l dX8_narrowed_44), List.forall_mem_cons.mpr ⟨
  (gs_rl dX8_narrowed_45), List.forall_mem_cons.mpr ⟨
  (gs_lload_n dX8_narrowed_46 rfl), List.forall_mem_cons.mpr ⟨
  (gs_l2i dX8_narrowed_47), List.forall_mem_cons.mpr ⟨
  (gs_i2l dX8_narrowed_48), List.forall_mem_cons.mpr ⟨
  (gs_rl dX8_narrowed_49), List.forall_mem_cons.mpr ⟨
  (gs_lload_n dX8_narrowed_50 rfl), List.forall_mem_cons.mpr ⟨
  (gs_rl dX8_narrowed_51), List.forall_mem_cons.mpr ⟨
  (gs_lload_n dX8_narrowed_52 rfl), List.forall_mem_cons.mpr ⟨
  (gs_lconst dX8_narrowed_53 rfl), List.forall_mem_cons.mpr ⟨
  (gs_lcmp dX8_narrowed_54), List.forall_mem_cons.mpr ⟨
  (gs_if_eq dX8_narrowed_55 rfl), List.forall_mem_cons.mpr ⟨
  (gs_lconst dX8_narrowed_58 rfl), List.forall_mem_cons.mpr ⟨
  (gs_goto dX8_narrowed_59 rfl), List.forall_mem_cons.mpr ⟨
  (gs_lconst dX8_narrowed_62 rfl), List.forall_mem_cons.mpr ⟨
  (gs_rl dX8_narrowed_63), fun _ h => absurd h List.not_mem_nil⟩⟩⟩⟩⟩⟩⟩⟩⟩⟩⟩⟩⟩⟩⟩⟩⟩⟩⟩⟩⟩⟩⟩⟩⟩⟩⟩
theorem kt_X8_narrowed (g : gx_T) : ∀ q ∈ k_X8_narrowed, gx_E g gc_md RX8 cX8_narrowed 3 (some .long) "narrowed" q.1 q.2 := kt_X8_narrowed_0 g
set_option maxRecDepth 20000 in
theorem dX9_init_0 : decode cX9_init 0 = .ok (.aload_n 0, 1) := by decide +kernel
set_option maxRecDepth 20000 in
theorem dX9_init_1 : decode cX9_init 1 = .ok (.invokespecial 1, 3) := by decide +kernel
set_option maxRecDepth 20000 in
theorem dX9_init_4 : decode cX9_init 4 = .ok (.return_, 1) := by decide +kernel
set_option maxRecDepth 20000 in
theorem kt_X9_init_0 (g : gx_T) : ∀ q ∈ k_X9_init_0, gx_E g gc_md RX9 cX9_init 1 (none) "<init>" q.1 q.2 := List.forall_mem_cons.mpr ⟨(gs_aload_n dX9_init_0 rfl), List.forall_mem_cons.mpr ⟨
  (gs_cin (host := RX11) dX9_init_1 (md_40) (by decide +kernel) (List.forall_mem_cons.mpr ⟨gx_mem 252 (by decide +kernel) (by decide +kernel), List.forall_mem_cons.mpr ⟨gx_mem 91 (by decide +kernel) (by decide +kernel), List.forall_mem_cons.mpr ⟨cw_253, fun _ h => absurd h List.not_mem_nil⟩⟩⟩) (by decide +kernel) (by decide) rfl), List.forall_mem_cons.mpr ⟨
  (gs_rv dX9_init_4), fun _ h => absurd h List.not_mem_nil⟩⟩⟩
theorem kt_X9_init (g : gx_T) : ∀ q ∈ k_X9_init, gx_E g gc_md RX9 cX9_init 1 (none) "<init>" q.1 q.2 := kt_X9_init_0 g
set_option maxRecDepth 20000 in
theorem dX9_power_0 : decode cX9_power 0 = .ok (.aload_n 0, 1) := by decide +kernel
set_option maxRecDepth 20000 in
theorem dX9_power_1 : decode cX9_power 1 = .ok (.iload_n 1, 1) := by decide +kernel
set_option maxRecDepth 20000 in
theorem dX9_power_2 : decode cX9_power 2 = .ok (.aload_n 2, 1) := by decide +kernel
set_option maxRecDepth 20000 in
theorem dX9_power_3 : decode cX9_power 3 = .ok (.iload_n 3, 1) := by decide +kernel
set_option maxRecDepth 20000 in
theorem dX9_power_4 : decode cX9_power 4 = .ok (.iload 4, 2) := by decide +kernel
set_option maxRecDepth 20000 in
theorem dX9_power_6 : decode cX9_power 6 = .ok (.invokespecial 7, 3) := by decide +kernel
set_option maxRecDepth 20000 in
theorem dX9_power_9 : decode cX9_power 9 = .ok (.aload_n 2, 1) := by decide +kernel
set_option maxRecDepth 20000 in
theorem dX9_power_10 : decode cX9_power 10 = .ok (.getfield 11, 3) := by decide +kernel
set_option maxRecDepth 20000 in
theorem dX9_power_13 : decode cX9_power 13 = .ok (.iload_n 3, 1) := by decide +kernel
set_option maxRecDepth 20000 in
theorem dX9_power_14 : decode cX9_power 14 = .ok (.aaload, 1) := by decide +kernel
set_option maxRecDepth 20000 in
theorem dX9_power_15 : decode cX9_power 15 = .ok (.iload 4, 2) := by decide +kernel
set_option maxRecDepth 20000 in
theorem dX9_power_17 : decode cX9_power 17 = .ok (.iconst 3, 1) := by decide +kernel
set_option maxRecDepth 20000 in
theorem dX9_power_18 : decode cX9_power 18 = .ok (.iand, 1) := by decide +kernel
set_option maxRecDepth 20000 in
theorem dX9_power_19 : decode cX9_power 19 = .ok (.iaload, 1) := by decide +kernel
set_option maxRecDepth 20000 in
theorem dX9_power_20 : decode cX9_power 20 = .ok (.iadd, 1) := by decide +kernel
set_option maxRecDepth 20000 in
theorem dX9_power_21 : decode cX9_power 21 = .ok (.ireturn, 1) := by decide +kernel
set_option maxRecDepth 20000 in
theorem kt_X9_power_0 (g : gx_T) : ∀ q ∈ k_X9_power_0, gx_E g gc_md RX9 cX9_power 5 (some .int) "power" q.1 q.2 := List.forall_mem_cons.mpr ⟨(gs_aload_n dX9_power_0 rfl), List.forall_mem_cons.mpr ⟨
  (gs_iload_n dX9_power_1 rfl), List.forall_mem_cons.mpr ⟨
  (gs_aload_n dX9_power_2 rfl), List.forall_mem_cons.mpr ⟨
  (gs_iload_n dX9_power_3 rfl), List.forall_mem_cons.mpr ⟨
  (gs_iload dX9_power_4), List.forall_mem_cons.mpr ⟨
  (gs_csu dX9_power_6 (md_41) (List.forall_mem_cons.mpr ⟨gx_mem 492 (by decide +kernel) (by decide +kernel), List.forall_mem_cons.mpr ⟨gx_mem 1618 (by decide +kernel) (by decide +kernel), List.forall_mem_cons.mpr ⟨gx_mem 292 (by decide +kernel) (by decide +kernel), List.forall_mem_cons.mpr ⟨gx_mem 487 (by decide +kernel) (by decide +kernel), List.forall_mem_cons.mpr ⟨gx_mem 91 (by decide +kernel) (by decide +kernel), List.forall_mem_cons.mpr ⟨cw_488, fun _ h => absurd h List.not_mem_nil⟩⟩⟩⟩⟩⟩) (by decide +kernel) (by decide)), List.forall_mem_cons.mpr ⟨
  (gs_aload_n dX9_power_9 rfl), List.forall_mem_cons.mpr ⟨
  (gs_gf (ref := "GriefCranes$Yard") dX9_power_10 (gx_mem 322 (by decide +kernel) (by decide +kernel)) (Or.inl rfl) gf_10_8), List.forall_mem_cons.mpr ⟨
  (gs_iload_n dX9_power_13 rfl), List.forall_mem_cons.mpr ⟨
  (gs_aaload (by decide) dX9_power_14), List.forall_mem_cons.mpr ⟨
  (gs_iload dX9_power_15), List.forall_mem_cons.mpr ⟨
  (gs_iconst dX9_power_17 rfl), List.forall_mem_cons.mpr ⟨
  (gs_iand dX9_power_18), List.forall_mem_cons.mpr ⟨
  (gs_iaload dX9_power_19), List.forall_mem_cons.mpr ⟨
  (gs_iadd dX9_power_20), List.forall_mem_cons.mpr ⟨
  (gs_ri dX9_power_21), fun _ h => absurd h List.not_mem_nil⟩⟩⟩⟩⟩⟩⟩⟩⟩⟩⟩⟩⟩⟩⟩⟩
theorem kt_X9_power (g : gx_T) : ∀ q ∈ k_X9_power, gx_E g gc_md RX9 cX9_power 5 (some .int) "power" q.1 q.2 := kt_X9_power_0 g
set_option maxRecDepth 20000 in
theorem dX9_lifts_0 : decode cX9_lifts 0 = .ok (.aload_n 0, 1) := by decide +kernel
set_option maxRecDepth 20000 in
theorem dX9_lifts_1 : decode cX9_lifts 1 = .ok (.bipush 70, 2) := by decide +kernel
set_option maxRecDepth 20000 in
theorem dX9_lifts_3 : decode cX9_lifts 3 = .ok (.invokevirtual 17, 3) := by decide +kernel
set_option maxRecDepth 20000 in
theorem dX9_lifts_6 : decode cX9_lifts 6 = .ok (.aload_n 0, 1) := by decide +kernel
set_option maxRecDepth 20000 in
theorem dX9_lifts_7 : decode cX9_lifts 7 = .ok (.iload_n 1, 1) := by decide +kernel
set_option maxRecDepth 20000 in
theorem dX9_lifts_8 : decode cX9_lifts 8 = .ok (.invokespecial 23, 3) := by decide +kernel
set_option maxRecDepth 20000 in
theorem dX9_lifts_11 : decode cX9_lifts 11 = .ok (.aload_n 0, 1) := by decide +kernel
set_option maxRecDepth 20000 in
theorem dX9_lifts_12 : decode cX9_lifts 12 = .ok (.iconst 2, 1) := by decide +kernel
set_option maxRecDepth 20000 in
theorem dX9_lifts_13 : decode cX9_lifts 13 = .ok (.invokespecial 27, 3) := by decide +kernel
set_option maxRecDepth 20000 in
theorem dX9_lifts_16 : decode cX9_lifts 16 = .ok (.iadd, 1) := by decide +kernel
set_option maxRecDepth 20000 in
theorem dX9_lifts_17 : decode cX9_lifts 17 = .ok (.ireturn, 1) := by decide +kernel
set_option maxRecDepth 20000 in
theorem kt_X9_lifts_0 (g : gx_T) : ∀ q ∈ k_X9_lifts_0, gx_E g gc_md RX9 cX9_lifts 2 (some .int) "lifts" q.1 q.2 := List.forall_mem_cons.mpr ⟨(gs_aload_n dX9_lifts_0 rfl), List.forall_mem_cons.mpr ⟨
  (gs_bipush dX9_lifts_1 rfl), List.forall_mem_cons.mpr ⟨
  (gs_cv dX9_lifts_3 (fun q hq => by
      simp only [List.mem_cons, List.not_mem_nil, or_false] at hq
      subst hq
      exact Or.inr ⟨_, ⟨"GriefCranes$Told", "began", "(I)V"⟩, RX0, gc_md 3, rfl, by decide, by decide +kernel, by decide +kernel, rfl, List.forall_mem_cons.mpr ⟨gx_mem 888 (by decide +kernel) (by decide +kernel), List.forall_mem_cons.mpr ⟨gx_mem 889 (by decide +kernel) (by decide +kernel), List.forall_mem_cons.mpr ⟨gx_mem 869 (by decide +kernel) (by decide +kernel), List.forall_mem_cons.mpr ⟨cw_870, List.forall_mem_cons.mpr ⟨gx_mem 890 (by decide +kernel) (by decide +kernel), List.forall_mem_cons.mpr ⟨gx_mem 869 (by decide +kernel) (by decide +kernel), List.forall_mem_cons.mpr ⟨gx_mem 88 (by decide +kernel) (by decide +kernel), List.forall_mem_cons.mpr ⟨cw_870, fun _ h => absurd h List.not_mem_nil⟩⟩⟩⟩⟩⟩⟩⟩⟩)), List.forall_mem_cons.mpr ⟨
  (gs_aload_n dX9_lifts_6 rfl), List.forall_mem_cons.mpr ⟨
  (gs_iload_n dX9_lifts_7 rfl), List.forall_mem_cons.mpr ⟨
  (gs_csx (x := ⟨"GriefCranes$Steady", "lifts", "(I)I"⟩) (owner := RX0) dX9_lifts_8 (md_5) rfl (List.forall_mem_cons.mpr ⟨gx_mem 917 (by decide +kernel) (by decide +kernel), List.forall_mem_cons.mpr ⟨gx_mem 918 (by decide +kernel) (by decide +kernel), List.forall_mem_cons.mpr ⟨gx_mem 292 (by decide +kernel) (by decide +kernel), List.forall_mem_cons.mpr ⟨gx_mem 259 (by decide +kernel) (by decide +kernel), List.forall_mem_cons.mpr ⟨gx_mem 896 (by decide +kernel) (by decide +kernel), List.forall_mem_cons.mpr ⟨gx_mem 88 (by decide +kernel) (by decide +kernel), List.forall_mem_cons.mpr ⟨cw_920, fun _ h => absurd h List.not_mem_nil⟩⟩⟩⟩⟩⟩⟩) (by decide +kernel) (by decide)), List.forall_mem_cons.mpr ⟨
  (gs_aload_n dX9_lifts_11 rfl), List.forall_mem_cons.mpr ⟨
  (gs_iconst dX9_lifts_12 rfl), List.forall_mem_cons.mpr ⟨
  (gs_csx (x := ⟨"GriefCranes$Steady", "leans", "(I)I"⟩) (owner := RX0) dX9_lifts_13 (md_4) rfl (List.forall_mem_cons.mpr ⟨gx_mem 891 (by decide +kernel) (by decide +kernel), List.forall_mem_cons.mpr ⟨gx_mem 892 (by decide +kernel) (by decide +kernel), List.forall_mem_cons.mpr ⟨gx_mem 292 (by decide +kernel) (by decide +kernel), List.forall_mem_cons.mpr ⟨gx_mem 259 (by decide +kernel) (by decide +kernel), List.forall_mem_cons.mpr ⟨gx_mem 859 (by decide +kernel) (by decide +kernel), List.forall_mem_cons.mpr ⟨gx_mem 88 (by decide +kernel) (by decide +kernel), List.forall_mem_cons.mpr ⟨cw_893, fun _ h => absurd h List.not_mem_nil⟩⟩⟩⟩⟩⟩⟩) (by decide +kernel) (by decide)), List.forall_mem_cons.mpr ⟨
  (gs_iadd dX9_lifts_16), List.forall_mem_cons.mpr ⟨
  (gs_ri dX9_lifts_17), fun _ h => absurd h List.not_mem_nil⟩⟩⟩⟩⟩⟩⟩⟩⟩⟩⟩
theorem kt_X9_lifts (g : gx_T) : ∀ q ∈ k_X9_lifts, gx_E g gc_md RX9 cX9_lifts 2 (some .int) "lifts" q.1 q.2 := kt_X9_lifts_0 g
set_option maxRecDepth 20000 in
theorem dX9_leans_0 : decode cX9_leans 0 = .ok (.aload_n 0, 1) := by decide +kernel
set_option maxRecDepth 20000 in
theorem dX9_leans_1 : decode cX9_leans 1 = .ok (.bipush 71, 2) := by decide +kernel
set_option maxRecDepth 20000 in
theorem dX9_leans_3 : decode cX9_leans 3 = .ok (.invokevirtual 17, 3) := by decide +kernel
set_option maxRecDepth 20000 in
theorem dX9_leans_6 : decode cX9_leans 6 = .ok (.aload_n 0, 1) := by decide +kernel
set_option maxRecDepth 20000 in
theorem dX9_leans_7 : decode cX9_leans 7 = .ok (.iload_n 1, 1) := by decide +kernel
set_option maxRecDepth 20000 in
theorem dX9_leans_8 : decode cX9_leans 8 = .ok (.invokespecial 27, 3) := by decide +kernel
set_option maxRecDepth 20000 in
theorem dX9_leans_11 : decode cX9_leans 11 = .ok (.aload_n 0, 1) := by decide +kernel
set_option maxRecDepth 20000 in
theorem dX9_leans_12 : decode cX9_leans 12 = .ok (.getfield 30, 3) := by decide +kernel
set_option maxRecDepth 20000 in
theorem dX9_leans_15 : decode cX9_leans 15 = .ok (.ixor, 1) := by decide +kernel
set_option maxRecDepth 20000 in
theorem dX9_leans_16 : decode cX9_leans 16 = .ok (.ireturn, 1) := by decide +kernel
set_option maxRecDepth 20000 in
theorem kt_X9_leans_0 (g : gx_T) : ∀ q ∈ k_X9_leans_0, gx_E g gc_md RX9 cX9_leans 2 (some .int) "leans" q.1 q.2 := List.forall_mem_cons.mpr ⟨(gs_aload_n dX9_leans_0 rfl), List.forall_mem_cons.mpr ⟨
  (gs_bipush dX9_leans_1 rfl), List.forall_mem_cons.mpr ⟨
  (gs_cv dX9_leans_3 (fun q hq => by
      simp only [List.mem_cons, List.not_mem_nil, or_false] at hq
      subst hq
      exact Or.inr ⟨_, ⟨"GriefCranes$Told", "began", "(I)V"⟩, RX0, gc_md 3, rfl, by decide, by decide +kernel, by decide +kernel, rfl, List.forall_mem_cons.mpr ⟨gx_mem 888 (by decide +kernel) (by decide +kernel), List.forall_mem_cons.mpr ⟨gx_mem 889 (by decide +kernel) (by decide +kernel), List.forall_mem_cons.mpr ⟨gx_mem 869 (by decide +kernel) (by decide +kernel), List.forall_mem_cons.mpr ⟨cw_870, List.forall_mem_cons.mpr ⟨gx_mem 890 (by decide +kernel) (by decide +kernel), List.forall_mem_cons.mpr ⟨gx_mem 869 (by decide +kernel) (by decide +kernel), List.forall_mem_cons.mpr ⟨gx_mem 88 (by decide +kernel) (by decide +kernel), List.forall_mem_cons.mpr ⟨cw_870, fun _ h => absurd h List.not_mem_nil⟩⟩⟩⟩⟩⟩⟩⟩⟩)), List.forall_mem_cons.mpr ⟨
  (gs_aload_n dX9_leans_6 rfl), List.forall_mem_cons.mpr ⟨
  (gs_iload_n dX9_leans_7 rfl), List.forall_mem_cons.mpr ⟨
  (gs_csx (x := ⟨"GriefCranes$Steady", "leans", "(I)I"⟩) (owner := RX0) dX9_leans_8 (md_4) rfl (List.forall_mem_cons.mpr ⟨gx_mem 891 (by decide +kernel) (by decide +kernel), List.forall_mem_cons.mpr ⟨gx_mem 892 (by decide +kernel) (by decide +kernel), List.forall_mem_cons.mpr ⟨gx_mem 292 (by decide +kernel) (by decide +kernel), List.forall_mem_cons.mpr ⟨gx_mem 259 (by decide +kernel) (by decide +kernel), List.forall_mem_cons.mpr ⟨gx_mem 859 (by decide +kernel) (by decide +kernel), List.forall_mem_cons.mpr ⟨gx_mem 88 (by decide +kernel) (by decide +kernel), List.forall_mem_cons.mpr ⟨cw_893, fun _ h => absurd h List.not_mem_nil⟩⟩⟩⟩⟩⟩⟩) (by decide +kernel) (by decide)), List.forall_mem_cons.mpr ⟨
  (gs_aload_n dX9_leans_11 rfl), List.forall_mem_cons.mpr ⟨
  (gs_gf (ref := "GriefCranes$Told") dX9_leans_12 (gx_mem 212 (by decide +kernel) (by decide +kernel)) (Or.inr (gx_mem 213 (by decide +kernel) (by decide +kernel))) gf_cr_1), List.forall_mem_cons.mpr ⟨
  (gs_ixor dX9_leans_15), List.forall_mem_cons.mpr ⟨
  (gs_ri dX9_leans_16), fun _ h => absurd h List.not_mem_nil⟩⟩⟩⟩⟩⟩⟩⟩⟩⟩
theorem kt_X9_leans (g : gx_T) : ∀ q ∈ k_X9_leans, gx_E g gc_md RX9 cX9_leans 2 (some .int) "leans" q.1 q.2 := kt_X9_leans_0 g
set_option maxRecDepth 20000 in
theorem dX10_init_0 : decode cX10_init 0 = .ok (.aload_n 0, 1) := by decide +kernel
set_option maxRecDepth 20000 in
theorem dX10_init_1 : decode cX10_init 1 = .ok (.invokespecial 3, 3) := by decide +kernel
set_option maxRecDepth 20000 in
theorem dX10_init_4 : decode cX10_init 4 = .ok (.aload_n 0, 1) := by decide +kernel
set_option maxRecDepth 20000 in
theorem dX10_init_5 : decode cX10_init 5 = .ok (.iconst 0, 1) := by decide +kernel
set_option maxRecDepth 20000 in
theorem dX10_init_6 : decode cX10_init 6 = .ok (.putfield 9, 3) := by decide +kernel
set_option maxRecDepth 20000 in
theorem dX10_init_9 : decode cX10_init 9 = .ok (.aload_n 0, 1) := by decide +kernel
set_option maxRecDepth 20000 in
theorem dX10_init_10 : decode cX10_init 10 = .ok (.iconst 4, 1) := by decide +kernel
set_option maxRecDepth 20000 in
theorem dX10_init_11 : decode cX10_init 11 = .ok (.newarray .int, 2) := by decide +kernel
set_option maxRecDepth 20000 in
theorem dX10_init_13 : decode cX10_init 13 = .ok (.dup, 1) := by decide +kernel
set_option maxRecDepth 20000 in
theorem dX10_init_14 : decode cX10_init 14 = .ok (.iconst 0, 1) := by decide +kernel
set_option maxRecDepth 20000 in
theorem dX10_init_15 : decode cX10_init 15 = .ok (.iconst 2, 1) := by decide +kernel
set_option maxRecDepth 20000 in
theorem dX10_init_16 : decode cX10_init 16 = .ok (.iastore, 1) := by decide +kernel
set_option maxRecDepth 20000 in
theorem dX10_init_17 : decode cX10_init 17 = .ok (.dup, 1) := by decide +kernel
set_option maxRecDepth 20000 in
theorem dX10_init_18 : decode cX10_init 18 = .ok (.iconst 1, 1) := by decide +kernel
set_option maxRecDepth 20000 in
theorem dX10_init_19 : decode cX10_init 19 = .ok (.iconst 2, 1) := by decide +kernel
set_option maxRecDepth 20000 in
theorem dX10_init_20 : decode cX10_init 20 = .ok (.iastore, 1) := by decide +kernel
set_option maxRecDepth 20000 in
theorem dX10_init_21 : decode cX10_init 21 = .ok (.dup, 1) := by decide +kernel
set_option maxRecDepth 20000 in
theorem dX10_init_22 : decode cX10_init 22 = .ok (.iconst 2, 1) := by decide +kernel
set_option maxRecDepth 20000 in
theorem dX10_init_23 : decode cX10_init 23 = .ok (.iconst 2, 1) := by decide +kernel
set_option maxRecDepth 20000 in
theorem dX10_init_24 : decode cX10_init 24 = .ok (.iastore, 1) := by decide +kernel
set_option maxRecDepth 20000 in
theorem dX10_init_25 : decode cX10_init 25 = .ok (.dup, 1) := by decide +kernel
set_option maxRecDepth 20000 in
theorem dX10_init_26 : decode cX10_init 26 = .ok (.iconst 3, 1) := by decide +kernel
set_option maxRecDepth 20000 in
theorem dX10_init_27 : decode cX10_init 27 = .ok (.iconst 2, 1) := by decide +kernel
set_option maxRecDepth 20000 in
theorem dX10_init_28 : decode cX10_init 28 = .ok (.iastore, 1) := by decide +kernel
set_option maxRecDepth 20000 in
theorem dX10_init_29 : decode cX10_init 29 = .ok (.putfield 15, 3) := by decide +kernel
set_option maxRecDepth 20000 in
theorem dX10_init_32 : decode cX10_init 32 = .ok (.aload_n 0, 1) := by decide +kernel
set_option maxRecDepth 20000 in
theorem dX10_init_33 : decode cX10_init 33 = .ok (.iconst 0, 1) := by decide +kernel
set_option maxRecDepth 20000 in
theorem dX10_init_34 : decode cX10_init 34 = .ok (.putfield 19, 3) := by decide +kernel
set_option maxRecDepth 20000 in
theorem dX10_init_37 : decode cX10_init 37 = .ok (.aload_n 0, 1) := by decide +kernel
set_option maxRecDepth 20000 in
theorem dX10_init_38 : decode cX10_init 38 = .ok (.bipush 6, 2) := by decide +kernel
set_option maxRecDepth 20000 in
theorem dX10_init_40 : decode cX10_init 40 = .ok (.newarray .int, 2) := by decide +kernel
set_option maxRecDepth 20000 in
theorem dX10_init_42 : decode cX10_init 42 = .ok (.putfield 22, 3) := by decide +kernel
set_option maxRecDepth 20000 in
theorem dX10_init_45 : decode cX10_init 45 = .ok (.aload_n 0, 1) := by decide +kernel
set_option maxRecDepth 20000 in
theorem dX10_init_46 : decode cX10_init 46 = .ok (.bipush 6, 2) := by decide +kernel
set_option maxRecDepth 20000 in
theorem dX10_init_48 : decode cX10_init 48 = .ok (.newarray .int, 2) := by decide +kernel
set_option maxRecDepth 20000 in
theorem dX10_init_50 : decode cX10_init 50 = .ok (.putfield 25, 3) := by decide +kernel
set_option maxRecDepth 20000 in
theorem dX10_init_53 : decode cX10_init 53 = .ok (.aload_n 0, 1) := by decide +kernel
set_option maxRecDepth 20000 in
theorem dX10_init_54 : decode cX10_init 54 = .ok (.bipush 6, 2) := by decide +kernel
set_option maxRecDepth 20000 in
theorem dX10_init_56 : decode cX10_init 56 = .ok (.newarray .int, 2) := by decide +kernel
set_option maxRecDepth 20000 in
theorem dX10_init_58 : decode cX10_init 58 = .ok (.putfield 28, 3) := by decide +kernel
set_option maxRecDepth 20000 in
theorem dX10_init_61 : decode cX10_init 61 = .ok (.aload_n 0, 1) := by decide +kernel
set_option maxRecDepth 20000 in
theorem dX10_init_62 : decode cX10_init 62 = .ok (.bipush 6, 2) := by decide +kernel
set_option maxRecDepth 20000 in
theorem dX10_init_64 : decode cX10_init 64 = .ok (.iconst 4, 1) := by decide +kernel
set_option maxRecDepth 20000 in
theorem dX10_init_65 : decode cX10_init 65 = .ok (.multianewarray 31 2, 4) := by decide +kernel
set_option maxRecDepth 20000 in
theorem dX10_init_69 : decode cX10_init 69 = .ok (.putfield 33, 3) := by decide +kernel
set_option maxRecDepth 20000 in
theorem dX10_init_72 : decode cX10_init 72 = .ok (.aload_n 0, 1) := by decide +kernel
set_option maxRecDepth 20000 in
theorem dX10_init_73 : decode cX10_init 73 = .ok (.iconst 0, 1) := by decide +kernel
set_option maxRecDepth 20000 in
theorem dX10_init_74 : decode cX10_init 74 = .ok (.putfield 36, 3) := by decide +kernel
set_option maxRecDepth 20000 in
theorem dX10_init_77 : decode cX10_init 77 = .ok (.aload_n 0, 1) := by decide +kernel
set_option maxRecDepth 20000 in
theorem dX10_init_78 : decode cX10_init 78 = .ok (.bipush 8, 2) := by decide +kernel
set_option maxRecDepth 20000 in
theorem dX10_init_80 : decode cX10_init 80 = .ok (.newarray .int, 2) := by decide +kernel
set_option maxRecDepth 20000 in
theorem dX10_init_82 : decode cX10_init 82 = .ok (.putfield 39, 3) := by decide +kernel
set_option maxRecDepth 20000 in
theorem dX10_init_85 : decode cX10_init 85 = .ok (.aload_n 0, 1) := by decide +kernel
set_option maxRecDepth 20000 in
theorem dX10_init_86 : decode cX10_init 86 = .ok (.bipush 8, 2) := by decide +kernel
set_option maxRecDepth 20000 in
theorem dX10_init_88 : decode cX10_init 88 = .ok (.newarray .int, 2) := by decide +kernel
set_option maxRecDepth 20000 in
theorem dX10_init_90 : decode cX10_init 90 = .ok (.putfield 42, 3) := by decide +kernel
set_option maxRecDepth 20000 in
theorem dX10_init_93 : decode cX10_init 93 = .ok (.aload_n 0, 1) := by decide +kernel
set_option maxRecDepth 20000 in
theorem dX10_init_94 : decode cX10_init 94 = .ok (.bipush 8, 2) := by decide +kernel
set_option maxRecDepth 20000 in
theorem dX10_init_96 : decode cX10_init 96 = .ok (.newarray .int, 2) := by decide +kernel
set_option maxRecDepth 20000 in
theorem dX10_init_98 : decode cX10_init 98 = .ok (.putfield 45, 3) := by decide +kernel
set_option maxRecDepth 20000 in
theorem dX10_init_101 : decode cX10_init 101 = .ok (.aload_n 0, 1) := by decide +kernel
set_option maxRecDepth 20000 in
theorem dX10_init_102 : decode cX10_init 102 = .ok (.bipush 8, 2) := by decide +kernel
set_option maxRecDepth 20000 in
theorem dX10_init_104 : decode cX10_init 104 = .ok (.newarray .int, 2) := by decide +kernel
set_option maxRecDepth 20000 in
theorem dX10_init_106 : decode cX10_init 106 = .ok (.putfield 48, 3) := by decide +kernel
set_option maxRecDepth 20000 in
theorem dX10_init_109 : decode cX10_init 109 = .ok (.aload_n 0, 1) := by decide +kernel
set_option maxRecDepth 20000 in
theorem dX10_init_110 : decode cX10_init 110 = .ok (.bipush 8, 2) := by decide +kernel
set_option maxRecDepth 20000 in
theorem dX10_init_112 : decode cX10_init 112 = .ok (.newarray .int, 2) := by decide +kernel
set_option maxRecDepth 20000 in
theorem dX10_init_114 : decode cX10_init 114 = .ok (.putfield 51, 3) := by decide +kernel
set_option maxRecDepth 20000 in
theorem dX10_init_117 : decode cX10_init 117 = .ok (.aload_n 0, 1) := by decide +kernel
set_option maxRecDepth 20000 in
theorem dX10_init_118 : decode cX10_init 118 = .ok (.bipush 6, 2) := by decide +kernel
set_option maxRecDepth 20000 in
theorem dX10_init_120 : decode cX10_init 120 = .ok (.newarray .int, 2) := by decide +kernel
set_option maxRecDepth 20000 in
theorem dX10_init_122 : decode cX10_init 122 = .ok (.putfield 56, 3) := by decide +kernel
set_option maxRecDepth 20000 in
theorem dX10_init_125 : decode cX10_init 125 = .ok (.aload_n 0, 1) := by decide +kernel
set_option maxRecDepth 20000 in
theorem dX10_init_126 : decode cX10_init 126 = .ok (.aload_n 1, 1) := by decide +kernel
set_option maxRecDepth 20000 in
theorem dX10_init_127 : decode cX10_init 127 = .ok (.putfield 59, 3) := by decide +kernel
set_option maxRecDepth 20000 in
theorem dX10_init_130 : decode cX10_init 130 = .ok (.aload_n 0, 1) := by decide +kernel
set_option maxRecDepth 20000 in
theorem dX10_init_131 : decode cX10_init 131 = .ok (.aload_n 2, 1) := by decide +kernel
set_option maxRecDepth 20000 in
theorem dX10_init_132 : decode cX10_init 132 = .ok (.putfield 63, 3) := by decide +kernel
set_option maxRecDepth 20000 in
theorem dX10_init_135 : decode cX10_init 135 = .ok (.return_, 1) := by decide +kernel
set_option maxRecDepth 20000 in
theorem kt_X10_init_0 (g : gx_T) : ∀ q ∈ k_X10_init_0, gx_E g gc_md RX10 cX10_init 3 (none) "<init>" q.1 q.2 := List.forall_mem_cons.mpr ⟨(gs_aload_n dX10_init_0 rfl), List.forall_mem_cons.mpr ⟨
  (gs_oi dX10_init_1 (gx_mem 298 (by decide +kernel) (by decide +kernel)) (gx_mem 111 (by decide +kernel) (by decide +kernel)) (cw_112)), List.forall_mem_cons.mpr ⟨
  (gs_aload_n dX10_init_4 rfl), List.forall_mem_cons.mpr ⟨
  (gs_iconst dX10_init_5 rfl), List.forall_mem_cons.mpr ⟨
  (gs_pf (ref := "GriefCranes$Yard") dX10_init_6 (gx_mem 304 (by decide +kernel) (by decide +kernel)) (Or.inl rfl) gf_10_2 (by decide +kernel)), List.forall_mem_cons.mpr ⟨
  (gs_aload_n dX10_init_9 rfl), List.forall_mem_cons.mpr ⟨
  (gs_iconst dX10_init_10 rfl), List.forall_mem_cons.mpr ⟨
  (gs_newa (ty := .int) dX10_init_11 rfl (gx_mem 136 (by decide +kernel) (by decide +kernel)) (by decide) (fun _ _ => rfl) rfl rfl (fun _ h => h)), List.forall_mem_cons.mpr ⟨
  (gs_dup dX10_init_13), List.forall_mem_cons.mpr ⟨
  (gs_iconst dX10_init_14 rfl), List.forall_mem_cons.mpr ⟨
  (gs_iconst dX10_init_15 rfl), List.forall_mem_cons.mpr ⟨
  (gs_iastore dX10_init_16), List.forall_mem_cons.mpr ⟨
  (gs_dup dX10_init_17), List.forall_mem_cons.mpr ⟨
  (gs_iconst dX10_init_18 rfl), List.forall_mem_cons.mpr ⟨
  (gs_iconst dX10_init_19 rfl), List.forall_mem_cons.mpr ⟨
  (gs_iastore dX10_init_20), List.forall_mem_cons.mpr ⟨
  (gs_dup dX10_init_21), List.forall_mem_cons.mpr ⟨
  (gs_iconst dX10_init_22 rfl), List.forall_mem_cons.mpr ⟨
  (gs_iconst dX10_init_23 rfl), List.forall_mem_cons.mpr ⟨
  (gs_iastore dX10_init_24), List.forall_mem_cons.mpr ⟨
  (gs_dup dX10_init_25), List.forall_mem_cons.mpr ⟨
  (gs_iconst dX10_init_26 rfl), List.forall_mem_cons.mpr ⟨
  (gs_iconst dX10_init_27 rfl), List.forall_mem_cons.mpr ⟨
  (gs_iastore dX10_init_28), List.forall_mem_cons.mpr ⟨
  (gs_pff dX10_init_29 (gx_mem 307 (by decide +kernel) (by decide +kernel)) gf_10_3 (by decide +kernel)), List.forall_mem_cons.mpr ⟨
  (gs_aload_n dX10_init_32 rfl), List.forall_mem_cons.mpr ⟨
  (gs_iconst dX10_init_33 rfl), List.forall_mem_cons.mpr ⟨
  (gs_pf (ref := "GriefCranes$Yard") dX10_init_34 (gx_mem 310 (by decide +kernel) (by decide +kernel)) (Or.inl rfl) gf_10_4 (by decide +kernel)), List.forall_mem_cons.mpr ⟨
  (gs_aload_n dX10_init_37 rfl), List.forall_mem_cons.mpr ⟨
  (gs_bipush dX10_init_38 rfl), List.forall_mem_cons.mpr ⟨
  (gs_newa (ty := .int) dX10_init_40 rfl (gx_mem 136 (by decide +kernel) (by decide +kernel)) (by decide) (fun _ _ => rfl) rfl rfl (fun _ h => h)), List.forall_mem_cons.mpr ⟨
  (gs_pff dX10_init_42 (gx_mem 312 (by decide +kernel) (by decide +kernel)) gf_10_5 (by decide +kernel)), fun _ h => absurd h List.not_mem_nil⟩⟩⟩⟩⟩⟩⟩⟩⟩⟩⟩⟩⟩⟩⟩⟩⟩⟩⟩⟩⟩⟩⟩⟩⟩⟩⟩⟩⟩⟩⟩⟩
set_option maxRecDepth 20000 in
theorem kt_X10_init_1 (g : gx_T) : ∀ q ∈ k_X10_init_1, gx_E g gc_md RX10 cX10_init 3 (none) "<init>" q.1 q.2 := List.forall_mem_cons.mpr ⟨(gs_aload_n dX10_init_45 rfl), List.forall_mem_cons.mpr ⟨
  (gs_bipush dX10_init_46 rfl), List.forall_mem_cons.mpr ⟨
  (gs_newa (ty := .int) dX10_init_48 rfl (gx_mem 136 (by decide +kernel) (by decide +kernel)) (by decide) (fun _ _ => rfl) rfl rfl (fun _ h => h)), List.forall_mem_cons.mpr ⟨
  (gs_pff dX10_init_50 (gx_mem 314 (by decide +kernel) (by decide +kernel)) gf_10_6 (by decide +kernel)), List.forall_mem_cons.mpr ⟨
  (gs_aload_n dX10_init_53 rfl), List.forall_mem_cons.mpr ⟨
  (gs_bipush dX10_init_54 rfl), List.forall_mem_cons.mpr ⟨
  (gs_newa (ty := .int) dX10_init_56 rfl (gx_mem 136 (by decide +kernel) (by decide +kernel)) (by decide) (fun _ _ => rfl) rfl rfl (fun _ h => h)), List.forall_mem_cons.mpr ⟨
  (gs_pff dX10_init_58 (gx_mem 318 (by decide +kernel) (by decide +kernel)) gf_10_7 (by decide +kernel)), List.forall_mem_cons.mpr ⟨
  (gs_aload_n dX10_init_61 rfl), List.forall_mem_cons.mpr ⟨
  (gs_bipush dX10_init_62 rfl), List.forall_mem_cons.mpr ⟨
  (gs_iconst dX10_init_64 rfl), List.forall_mem_cons.mpr ⟨
  (gs_mna dX10_init_65 (gx_mem 299 (by decide +kernel) (by decide +kernel)) (gx_mem 136 (by decide +kernel) (by decide +kernel))), List.forall_mem_cons.mpr ⟨
  (gs_pff dX10_init_69 (gx_mem 321 (by decide +kernel) (by decide +kernel)) gf_10_8 (by decide +kernel)), List.forall_mem_cons.mpr ⟨
  (gs_aload_n dX10_init_72 rfl), List.forall_mem_cons.mpr ⟨
  (gs_iconst dX10_init_73 rfl), List.forall_mem_cons.mpr ⟨
  (gs_pf (ref := "GriefCranes$Yard") dX10_init_74 (gx_mem 324 (by decide +kernel) (by decide +kernel)) (Or.inl rfl) gf_10_9 (by decide +kernel)), List.forall_mem_cons.mpr ⟨
  (gs_aload_n dX10_init_77 rfl), List.forall_mem_cons.mpr ⟨
  (gs_bipush dX10_init_78 rfl), List.forall_mem_cons.mpr ⟨
  (gs_newa (ty := .int) dX10_init_80 rfl (gx_mem 136 (by decide +kernel) (by decide +kernel)) (by decide) (fun _ _ => rfl) rfl rfl (fun _ h => h)), List.forall_mem_cons.mpr ⟨
  (gs_pff dX10_init_82 (gx_mem 326 (by decide +kernel) (by decide +kernel)) gf_10_10 (by decide +kernel)), List.forall_mem_cons.mpr ⟨
  (gs_aload_n dX10_init_85 rfl), List.forall_mem_cons.mpr ⟨
  (gs_bipush dX10_init_86 rfl), List.forall_mem_cons.mpr ⟨
  (gs_newa (ty := .int) dX10_init_88 rfl (gx_mem 136 (by decide +kernel) (by decide +kernel)) (by decide) (fun _ _ => rfl) rfl rfl (fun _ h => h)), List.forall_mem_cons.mpr ⟨
  (gs_pff dX10_init_90 (gx_mem 329 (by decide +kernel) (by decide +kernel)) gf_10_11 (by decide +kernel)), List.forall_mem_cons.mpr ⟨
  (gs_aload_n dX10_init_93 rfl), List.forall_mem_cons.mpr ⟨
  (gs_bipush dX10_init_94 rfl), List.forall_mem_cons.mpr ⟨
  (gs_newa (ty := .int) dX10_init_96 rfl (gx_mem 136 (by decide +kernel) (by decide +kernel)) (by decide) (fun _ _ => rfl) rfl rfl (fun _ h => h)), List.forall_mem_cons.mpr ⟨
  (gs_pff dX10_init_98 (gx_mem 331 (by decide +kernel) (by decide +kernel)) gf_10_12 (by decide +kernel)), List.forall_mem_cons.mpr ⟨
  (gs_aload_n dX10_init_101 rfl), List.forall_mem_cons.mpr ⟨
  (gs_bipush dX10_init_102 rfl), List.forall_mem_cons.mpr ⟨
  (gs_newa (ty := .int) dX10_init_104 rfl (gx_mem 136 (by decide +kernel) (by decide +kernel)) (by decide) (fun _ _ => rfl) rfl rfl (fun _ h => h)), List.forall_mem_cons.mpr ⟨
  (gs_pff dX10_init_106 (gx_mem 333 (by decide +kernel) (by decide +kernel)) gf_10_13 (by decide +kernel)), fun _ h => absurd h List.not_mem_nil⟩⟩⟩⟩⟩⟩⟩⟩⟩⟩⟩⟩⟩⟩⟩⟩⟩⟩⟩⟩⟩⟩⟩⟩⟩⟩⟩⟩⟩⟩⟩⟩
set_option maxRecDepth 20000 in
theorem kt_X10_init_2 (g : gx_T) : ∀ q ∈ k_X10_init_2, gx_E g gc_md RX10 cX10_init 3 (none) "<init>" q.1 q.2 := List.forall_mem_cons.mpr ⟨(gs_aload_n dX10_init_109 rfl), List.forall_mem_cons.mpr ⟨
  (gs_bipush dX10_init_110 rfl), List.forall_mem_cons.mpr ⟨
  (gs_newa (ty := .int) dX10_init_112 rfl (gx_mem 136 (by decide +kernel) (by decide +kernel)) (by decide) (fun _ _ => rfl) rfl rfl (fun _ h => h)), List.forall_mem_cons.mpr ⟨
  (gs_pff dX10_init_114 (gx_mem 335 (by decide +kernel) (by decide +kernel)) gf_10_14 (by decide +kernel)), List.forall_mem_cons.mpr ⟨
  (gs_aload_n dX10_init_117 rfl), List.forall_mem_cons.mpr ⟨
  (gs_bipush dX10_init_118 rfl), List.forall_mem_cons.mpr ⟨
  (gs_newa (ty := .int) dX10_init_120 rfl (gx_mem 136 (by decide +kernel) (by decide +kernel)) (by decide) (fun _ _ => rfl) rfl rfl (fun _ h => h)), List.forall_mem_cons.mpr ⟨
  (gs_pff dX10_init_122 (gx_mem 337 (by decide +kernel) (by decide +kernel)) gf_10_15 (by decide +kernel)), List.forall_mem_cons.mpr ⟨
  (gs_aload_n dX10_init_125 rfl), List.forall_mem_cons.mpr ⟨
  (gs_aload_n dX10_init_126 rfl), List.forall_mem_cons.mpr ⟨
  (gs_pff dX10_init_127 (gx_mem 301 (by decide +kernel) (by decide +kernel)) gf_10_0 (by decide +kernel)), List.forall_mem_cons.mpr ⟨
  (gs_aload_n dX10_init_130 rfl), List.forall_mem_cons.mpr ⟨
  (gs_aload_n dX10_init_131 rfl), List.forall_mem_cons.mpr ⟨
  (gs_pf (ref := "GriefCranes$Yard") dX10_init_132 (gx_mem 302 (by decide +kernel) (by decide +kernel)) (Or.inl rfl) gf_10_1 (by decide +kernel)), List.forall_mem_cons.mpr ⟨
  (gs_rv dX10_init_135), fun _ h => absurd h List.not_mem_nil⟩⟩⟩⟩⟩⟩⟩⟩⟩⟩⟩⟩⟩⟩⟩
theorem kt_X10_init (g : gx_T) : ∀ q ∈ k_X10_init, gx_E g gc_md RX10 cX10_init 3 (none) "<init>" q.1 q.2 := List.forall_mem_append.mpr ⟨kt_X10_init_0 g, List.forall_mem_append.mpr ⟨kt_X10_init_1 g, kt_X10_init_2 g⟩⟩
set_option maxRecDepth 20000 in
theorem dX10_hasCrane_0 : decode cX10_hasCrane 0 = .ok (.iload_n 1, 1) := by decide +kernel
set_option maxRecDepth 20000 in
theorem dX10_hasCrane_1 : decode cX10_hasCrane 1 = .ok (.ifCond .lt 15, 3) := by decide +kernel
set_option maxRecDepth 20000 in
theorem dX10_hasCrane_4 : decode cX10_hasCrane 4 = .ok (.iload_n 1, 1) := by decide +kernel
set_option maxRecDepth 20000 in
theorem dX10_hasCrane_5 : decode cX10_hasCrane 5 = .ok (.aload_n 0, 1) := by decide +kernel
set_option maxRecDepth 20000 in
theorem dX10_hasCrane_6 : decode cX10_hasCrane 6 = .ok (.getfield 19, 3) := by decide +kernel
set_option maxRecDepth 20000 in
theorem dX10_hasCrane_9 : decode cX10_hasCrane 9 = .ok (.if_icmp .ge 7, 3) := by decide +kernel
set_option maxRecDepth 20000 in
theorem dX10_hasCrane_12 : decode cX10_hasCrane 12 = .ok (.iconst 1, 1) := by decide +kernel
set_option maxRecDepth 20000 in
theorem dX10_hasCrane_13 : decode cX10_hasCrane 13 = .ok (.goto 4, 3) := by decide +kernel
set_option maxRecDepth 20000 in
theorem dX10_hasCrane_16 : decode cX10_hasCrane 16 = .ok (.iconst 0, 1) := by decide +kernel
set_option maxRecDepth 20000 in
theorem dX10_hasCrane_17 : decode cX10_hasCrane 17 = .ok (.ireturn, 1) := by decide +kernel
set_option maxRecDepth 20000 in
theorem kt_X10_hasCrane_0 (g : gx_T) : ∀ q ∈ k_X10_hasCrane_0, gx_E g gc_md RX10 cX10_hasCrane 2 (some .boolean) "hasCrane" q.1 q.2 := List.forall_mem_cons.mpr ⟨(gs_iload_n dX10_hasCrane_0 rfl), List.forall_mem_cons.mpr ⟨
  (gs_if_lt dX10_hasCrane_1 rfl), List.forall_mem_cons.mpr ⟨
  (gs_iload_n dX10_hasCrane_4 rfl), List.forall_mem_cons.mpr ⟨
  (gs_aload_n dX10_hasCrane_5 rfl), List.forall_mem_cons.mpr ⟨
  (gs_gf (ref := "GriefCranes$Yard") dX10_hasCrane_6 (gx_mem 310 (by decide +kernel) (by decide +kernel)) (Or.inl rfl) gf_10_4), List.forall_mem_cons.mpr ⟨
  (gs_icmp_ge dX10_hasCrane_9 rfl), List.forall_mem_cons.mpr ⟨
  (gs_iconst dX10_hasCrane_12 rfl), List.forall_mem_cons.mpr ⟨
  (gs_goto dX10_hasCrane_13 rfl), List.forall_mem_cons.mpr ⟨
  (gs_iconst dX10_hasCrane_16 rfl), List.forall_mem_cons.mpr ⟨
  (gs_rn dX10_hasCrane_17 (by decide)), fun _ h => absurd h List.not_mem_nil⟩⟩⟩⟩⟩⟩⟩⟩⟩⟩
theorem kt_X10_hasCrane (g : gx_T) : ∀ q ∈ k_X10_hasCrane, gx_E g gc_md RX10 cX10_hasCrane 2 (some .boolean) "hasCrane" q.1 q.2 := kt_X10_hasCrane_0 g
set_option maxRecDepth 20000 in
theorem dX10_hasThing_0 : decode cX10_hasThing 0 = .ok (.iload_n 1, 1) := by decide +kernel
set_option maxRecDepth 20000 in
theorem dX10_hasThing_1 : decode cX10_hasThing 1 = .ok (.ifCond .lt 15, 3) := by decide +kernel
set_option maxRecDepth 20000 in
theorem dX10_hasThing_4 : decode cX10_hasThing 4 = .ok (.iload_n 1, 1) := by decide +kernel
set_option maxRecDepth 20000 in
theorem dX10_hasThing_5 : decode cX10_hasThing 5 = .ok (.aload_n 0, 1) := by decide +kernel
set_option maxRecDepth 20000 in
theorem dX10_hasThing_6 : decode cX10_hasThing 6 = .ok (.getfield 36, 3) := by decide +kernel
set_option maxRecDepth 20000 in
theorem dX10_hasThing_9 : decode cX10_hasThing 9 = .ok (.if_icmp .ge 7, 3) := by decide +kernel
set_option maxRecDepth 20000 in
theorem dX10_hasThing_12 : decode cX10_hasThing 12 = .ok (.iconst 1, 1) := by decide +kernel
set_option maxRecDepth 20000 in
theorem dX10_hasThing_13 : decode cX10_hasThing 13 = .ok (.goto 4, 3) := by decide +kernel
set_option maxRecDepth 20000 in
theorem dX10_hasThing_16 : decode cX10_hasThing 16 = .ok (.iconst 0, 1) := by decide +kernel
set_option maxRecDepth 20000 in
theorem dX10_hasThing_17 : decode cX10_hasThing 17 = .ok (.ireturn, 1) := by decide +kernel
set_option maxRecDepth 20000 in
theorem kt_X10_hasThing_0 (g : gx_T) : ∀ q ∈ k_X10_hasThing_0, gx_E g gc_md RX10 cX10_hasThing 2 (some .boolean) "hasThing" q.1 q.2 := List.forall_mem_cons.mpr ⟨(gs_iload_n dX10_hasThing_0 rfl), List.forall_mem_cons.mpr ⟨
  (gs_if_lt dX10_hasThing_1 rfl), List.forall_mem_cons.mpr ⟨
  (gs_iload_n dX10_hasThing_4 rfl), List.forall_mem_cons.mpr ⟨
  (gs_aload_n dX10_hasThing_5 rfl), List.forall_mem_cons.mpr ⟨
  (gs_gf (ref := "GriefCranes$Yard") dX10_hasThing_6 (gx_mem 324 (by decide +kernel) (by decide +kernel)) (Or.inl rfl) gf_10_9), List.forall_mem_cons.mpr ⟨
  (gs_icmp_ge dX10_hasThing_9 rfl), List.forall_mem_cons.mpr ⟨
  (gs_iconst dX10_hasThing_12 rfl), List.forall_mem_cons.mpr ⟨
  (gs_goto dX10_hasThing_13 rfl), List.forall_mem_cons.mpr ⟨
  (gs_iconst dX10_hasThing_16 rfl), List.forall_mem_cons.mpr ⟨
  (gs_rn dX10_hasThing_17 (by decide)), fun _ h => absurd h List.not_mem_nil⟩⟩⟩⟩⟩⟩⟩⟩⟩⟩
theorem kt_X10_hasThing (g : gx_T) : ∀ q ∈ k_X10_hasThing, gx_E g gc_md RX10 cX10_hasThing 2 (some .boolean) "hasThing" q.1 q.2 := kt_X10_hasThing_0 g
set_option maxRecDepth 20000 in
theorem dX10_isIn_0 : decode cX10_isIn 0 = .ok (.aload_n 0, 1) := by decide +kernel
set_option maxRecDepth 20000 in
theorem dX10_isIn_1 : decode cX10_isIn 1 = .ok (.iload_n 1, 1) := by decide +kernel
set_option maxRecDepth 20000 in
theorem dX10_isIn_2 : decode cX10_isIn 2 = .ok (.invokevirtual 67, 3) := by decide +kernel
set_option maxRecDepth 20000 in
theorem dX10_isIn_5 : decode cX10_isIn 5 = .ok (.ifCond .eq 17, 3) := by decide +kernel
set_option maxRecDepth 20000 in
theorem dX10_isIn_8 : decode cX10_isIn 8 = .ok (.aload_n 0, 1) := by decide +kernel
set_option maxRecDepth 20000 in
theorem dX10_isIn_9 : decode cX10_isIn 9 = .ok (.getfield 45, 3) := by decide +kernel
set_option maxRecDepth 20000 in
theorem dX10_isIn_12 : decode cX10_isIn 12 = .ok (.iload_n 1, 1) := by decide +kernel
set_option maxRecDepth 20000 in
theorem dX10_isIn_13 : decode cX10_isIn 13 = .ok (.iaload, 1) := by decide +kernel
set_option maxRecDepth 20000 in
theorem dX10_isIn_14 : decode cX10_isIn 14 = .ok (.iload_n 2, 1) := by decide +kernel
set_option maxRecDepth 20000 in
theorem dX10_isIn_15 : decode cX10_isIn 15 = .ok (.if_icmp .ne 7, 3) := by decide +kernel
set_option maxRecDepth 20000 in
theorem dX10_isIn_18 : decode cX10_isIn 18 = .ok (.iconst 1, 1) := by decide +kernel
set_option maxRecDepth 20000 in
theorem dX10_isIn_19 : decode cX10_isIn 19 = .ok (.goto 4, 3) := by decide +kernel
set_option maxRecDepth 20000 in
theorem dX10_isIn_22 : decode cX10_isIn 22 = .ok (.iconst 0, 1) := by decide +kernel
set_option maxRecDepth 20000 in
theorem dX10_isIn_23 : decode cX10_isIn 23 = .ok (.ireturn, 1) := by decide +kernel
set_option maxRecDepth 20000 in
theorem kt_X10_isIn_0 (g : gx_T) : ∀ q ∈ k_X10_isIn_0, gx_E g gc_md RX10 cX10_isIn 3 (some .boolean) "isIn" q.1 q.2 := List.forall_mem_cons.mpr ⟨(gs_aload_n dX10_isIn_0 rfl), List.forall_mem_cons.mpr ⟨
  (gs_iload_n dX10_isIn_1 rfl), List.forall_mem_cons.mpr ⟨
  (gs_cv dX10_isIn_2 (fun q hq => by
      simp only [List.mem_cons, List.not_mem_nil, or_false] at hq
      subst hq
      exact Or.inl ⟨_, rfl, by decide, by decide +kernel, by decide +kernel, List.forall_mem_cons.mpr ⟨gx_mem 525 (by decide +kernel) (by decide +kernel), List.forall_mem_cons.mpr ⟨gx_mem 450 (by decide +kernel) (by decide +kernel), List.forall_mem_cons.mpr ⟨gx_mem 451 (by decide +kernel) (by decide +kernel), List.forall_mem_cons.mpr ⟨gx_mem 95 (by decide +kernel) (by decide +kernel), List.forall_mem_cons.mpr ⟨cw_452, fun _ h => absurd h List.not_mem_nil⟩⟩⟩⟩⟩⟩)), List.forall_mem_cons.mpr ⟨
  (gs_if_eq dX10_isIn_5 rfl), List.forall_mem_cons.mpr ⟨
  (gs_aload_n dX10_isIn_8 rfl), List.forall_mem_cons.mpr ⟨
  (gs_gf (ref := "GriefCranes$Yard") dX10_isIn_9 (gx_mem 331 (by decide +kernel) (by decide +kernel)) (Or.inl rfl) gf_10_12), List.forall_mem_cons.mpr ⟨
  (gs_iload_n dX10_isIn_12 rfl), List.forall_mem_cons.mpr ⟨
  (gs_iaload dX10_isIn_13), List.forall_mem_cons.mpr ⟨
  (gs_iload_n dX10_isIn_14 rfl), List.forall_mem_cons.mpr ⟨
  (gs_icmp_ne dX10_isIn_15 rfl), List.forall_mem_cons.mpr ⟨
  (gs_iconst dX10_isIn_18 rfl), List.forall_mem_cons.mpr ⟨
  (gs_goto dX10_isIn_19 rfl), List.forall_mem_cons.mpr ⟨
  (gs_iconst dX10_isIn_22 rfl), List.forall_mem_cons.mpr ⟨
  (gs_rn dX10_isIn_23 (by decide)), fun _ h => absurd h List.not_mem_nil⟩⟩⟩⟩⟩⟩⟩⟩⟩⟩⟩⟩⟩⟩
theorem kt_X10_isIn (g : gx_T) : ∀ q ∈ k_X10_isIn, gx_E g gc_md RX10 cX10_isIn 3 (some .boolean) "isIn" q.1 q.2 := kt_X10_isIn_0 g
set_option maxRecDepth 20000 in
theorem dX10_addCrane_0 : decode cX10_addCrane 0 = .ok (.aload_n 0, 1) := by decide +kernel
set_option maxRecDepth 20000 in
theorem dX10_addCrane_1 : decode cX10_addCrane 1 = .ok (.getfield 19, 3) := by decide +kernel
set_option maxRecDepth 20000 in
theorem dX10_addCrane_4 : decode cX10_addCrane 4 = .ok (.istore_n 3, 1) := by decide +kernel
set_option maxRecDepth 20000 in
theorem dX10_addCrane_5 : decode cX10_addCrane 5 = .ok (.aload_n 0, 1) := by decide +kernel
set_option maxRecDepth 20000 in
theorem dX10_addCrane_6 : decode cX10_addCrane 6 = .ok (.getfield 22, 3) := by decide +kernel
set_option maxRecDepth 20000 in
theorem dX10_addCrane_9 : decode cX10_addCrane 9 = .ok (.iload_n 3, 1) := by decide +kernel
set_option maxRecDepth 20000 in
theorem dX10_addCrane_10 : decode cX10_addCrane 10 = .ok (.iload_n 1, 1) := by decide +kernel
set_option maxRecDepth 20000 in
theorem dX10_addCrane_11 : decode cX10_addCrane 11 = .ok (.iastore, 1) := by decide +kernel
set_option maxRecDepth 20000 in
theorem dX10_addCrane_12 : decode cX10_addCrane 12 = .ok (.aload_n 0, 1) := by decide +kernel
set_option maxRecDepth 20000 in
theorem dX10_addCrane_13 : decode cX10_addCrane 13 = .ok (.getfield 25, 3) := by decide +kernel
set_option maxRecDepth 20000 in
theorem dX10_addCrane_16 : decode cX10_addCrane 16 = .ok (.iload_n 3, 1) := by decide +kernel
set_option maxRecDepth 20000 in
theorem dX10_addCrane_17 : decode cX10_addCrane 17 = .ok (.iload_n 2, 1) := by decide +kernel
set_option maxRecDepth 20000 in
theorem dX10_addCrane_18 : decode cX10_addCrane 18 = .ok (.iastore, 1) := by decide +kernel
set_option maxRecDepth 20000 in
theorem dX10_addCrane_19 : decode cX10_addCrane 19 = .ok (.aload_n 0, 1) := by decide +kernel
set_option maxRecDepth 20000 in
theorem dX10_addCrane_20 : decode cX10_addCrane 20 = .ok (.getfield 28, 3) := by decide +kernel
set_option maxRecDepth 20000 in
theorem dX10_addCrane_23 : decode cX10_addCrane 23 = .ok (.iload_n 3, 1) := by decide +kernel
set_option maxRecDepth 20000 in
theorem dX10_addCrane_24 : decode cX10_addCrane 24 = .ok (.iconst 0, 1) := by decide +kernel
set_option maxRecDepth 20000 in
theorem dX10_addCrane_25 : decode cX10_addCrane 25 = .ok (.iastore, 1) := by decide +kernel
set_option maxRecDepth 20000 in
theorem dX10_addCrane_26 : decode cX10_addCrane 26 = .ok (.iconst 0, 1) := by decide +kernel
set_option maxRecDepth 20000 in
theorem dX10_addCrane_27 : decode cX10_addCrane 27 = .ok (.istore 4, 2) := by decide +kernel
set_option maxRecDepth 20000 in
theorem dX10_addCrane_29 : decode cX10_addCrane 29 = .ok (.iload 4, 2) := by decide +kernel
set_option maxRecDepth 20000 in
theorem dX10_addCrane_31 : decode cX10_addCrane 31 = .ok (.iconst 4, 1) := by decide +kernel
set_option maxRecDepth 20000 in
theorem dX10_addCrane_32 : decode cX10_addCrane 32 = .ok (.if_icmp .ge 19, 3) := by decide +kernel
set_option maxRecDepth 20000 in
theorem dX10_addCrane_35 : decode cX10_addCrane 35 = .ok (.aload_n 0, 1) := by decide +kernel
set_option maxRecDepth 20000 in
theorem dX10_addCrane_36 : decode cX10_addCrane 36 = .ok (.getfield 33, 3) := by decide +kernel
set_option maxRecDepth 20000 in
theorem dX10_addCrane_39 : decode cX10_addCrane 39 = .ok (.iload_n 3, 1) := by decide +kernel
set_option maxRecDepth 20000 in
theorem dX10_addCrane_40 : decode cX10_addCrane 40 = .ok (.aaload, 1) := by decide +kernel
set_option maxRecDepth 20000 in
theorem dX10_addCrane_41 : decode cX10_addCrane 41 = .ok (.iload 4, 2) := by decide +kernel
set_option maxRecDepth 20000 in
theorem dX10_addCrane_43 : decode cX10_addCrane 43 = .ok (.iconst 0, 1) := by decide +kernel
set_option maxRecDepth 20000 in
theorem dX10_addCrane_44 : decode cX10_addCrane 44 = .ok (.iastore, 1) := by decide +kernel
set_option maxRecDepth 20000 in
theorem dX10_addCrane_45 : decode cX10_addCrane 45 = .ok (.iinc 4 1, 3) := by decide +kernel
set_option maxRecDepth 20000 in
theorem dX10_addCrane_48 : decode cX10_addCrane 48 = .ok (.goto (-19), 3) := by decide +kernel
set_option maxRecDepth 20000 in
theorem dX10_addCrane_51 : decode cX10_addCrane 51 = .ok (.aload_n 0, 1) := by decide +kernel
set_option maxRecDepth 20000 in
theorem dX10_addCrane_52 : decode cX10_addCrane 52 = .ok (.dup, 1) := by decide +kernel
set_option maxRecDepth 20000 in
theorem dX10_addCrane_53 : decode cX10_addCrane 53 = .ok (.getfield 19, 3) := by decide +kernel
set_option maxRecDepth 20000 in
theorem dX10_addCrane_56 : decode cX10_addCrane 56 = .ok (.iconst 1, 1) := by decide +kernel
set_option maxRecDepth 20000 in
theorem dX10_addCrane_57 : decode cX10_addCrane 57 = .ok (.iadd, 1) := by decide +kernel
set_option maxRecDepth 20000 in
theorem dX10_addCrane_58 : decode cX10_addCrane 58 = .ok (.putfield 19, 3) := by decide +kernel
set_option maxRecDepth 20000 in
theorem dX10_addCrane_61 : decode cX10_addCrane 61 = .ok (.iload_n 3, 1) := by decide +kernel
set_option maxRecDepth 20000 in
theorem dX10_addCrane_62 : decode cX10_addCrane 62 = .ok (.ireturn, 1) := by decide +kernel
set_option maxRecDepth 20000 in
theorem kt_X10_addCrane_0 (g : gx_T) : ∀ q ∈ k_X10_addCrane_0, gx_E g gc_md RX10 cX10_addCrane 5 (some .int) "addCrane" q.1 q.2 := List.forall_mem_cons.mpr ⟨(gs_aload_n dX10_addCrane_0 rfl), List.forall_mem_cons.mpr ⟨
  (gs_gf (ref := "GriefCranes$Yard") dX10_addCrane_1 (gx_mem 310 (by decide +kernel) (by decide +kernel)) (Or.inl rfl) gf_10_4), List.forall_mem_cons.mpr ⟨
  (gs_istore_n dX10_addCrane_4 rfl), List.forall_mem_cons.mpr ⟨
  (gs_aload_n dX10_addCrane_5 rfl), List.forall_mem_cons.mpr ⟨
  (gs_gf (ref := "GriefCranes$Yard") dX10_addCrane_6 (gx_mem 312 (by decide +kernel) (by decide +kernel)) (Or.inl rfl) gf_10_5), List.forall_mem_cons.mpr ⟨
  (gs_iload_n dX10_addCrane_9 rfl), List.forall_mem_cons.mpr ⟨
  (gs_iload_n dX10_addCrane_10 rfl), List.forall_mem_cons.mpr ⟨
  (gs_iastore dX10_addCrane_11), List.forall_mem_cons.mpr ⟨
  (gs_aload_n dX10_addCrane_12 rfl), List.forall_mem_cons.mpr ⟨
  (gs_gf (ref := "GriefCranes$Yard") dX10_addCrane_13 (gx_mem 314 (by decide +kernel) (by decide +kernel)) (Or.inl rfl) gf_10_6), List.forall_mem_cons.mpr ⟨
  (gs_iload_n dX10_addCrane_16 rfl), List.forall_mem_cons.mpr ⟨
  (gs_iload_n dX10_addCrane_17 rfl), List.forall_mem_cons.mpr ⟨
  (gs_iastore dX10_addCrane_18), List.forall_mem_cons.mpr ⟨
  (gs_aload_n dX10_addCrane_19 rfl), List.forall_mem_cons.mpr ⟨
  (gs_gf (ref := "GriefCranes$Yard") dX10_addCrane_20 (gx_mem 318 (by decide +kernel) (by decide +kernel)) (Or.inl rfl) gf_10_7), List.forall_mem_cons.mpr ⟨
  (gs_iload_n dX10_addCrane_23 rfl), List.forall_mem_cons.mpr ⟨
  (gs_iconst dX10_addCrane_24 rfl), List.forall_mem_cons.mpr ⟨
  (gs_iastore dX10_addCrane_25), List.forall_mem_cons.mpr ⟨
  (gs_iconst dX10_addCrane_26 rfl), List.forall_mem_cons.mpr ⟨
  (gs_istore dX10_addCrane_27), List.forall_mem_cons.mpr ⟨
  (gs_iload dX10_addCrane_29), List.forall_mem_cons.mpr ⟨
  (gs_iconst dX10_addCrane_31 rfl), List.forall_mem_cons.mpr ⟨
  (gs_icmp_ge dX10_addCrane_32 rfl), List.forall_mem_cons.mpr ⟨
  (gs_aload_n dX10_addCrane_35 rfl), List.forall_mem_cons.mpr ⟨
  (gs_gf (ref := "GriefCranes$Yard") dX10_addCrane_36 (gx_mem 321 (by decide +kernel) (by decide +kernel)) (Or.inl rfl) gf_10_8), List.forall_mem_cons.mpr ⟨
  (gs_iload_n dX10_addCrane_39 rfl), List.forall_mem_cons.mpr ⟨
  (gs_aaload (by decide) dX10_addCrane_40), List.forall_mem_cons.mpr ⟨
  (gs_iload dX10_addCrane_41), List.forall_mem_cons.mpr ⟨
  (gs_iconst dX10_addCrane_43 rfl), List.forall_mem_cons.mpr ⟨
  (gs_iastore dX10_addCrane_44), List.forall_mem_cons.mpr ⟨
  (gs_iinc dX10_addCrane_45), List.forall_mem_cons.mpr ⟨
  (gs_goto dX10_addCrane_48 rfl), fun _ h => absurd h List.not_mem_nil⟩⟩⟩⟩⟩⟩⟩⟩⟩⟩⟩⟩⟩⟩⟩⟩⟩⟩⟩⟩⟩⟩⟩⟩⟩⟩⟩⟩⟩⟩⟩⟩
set_option maxRecDepth 20000 in
theorem kt_X10_addCrane_1 (g : gx_T) : ∀ q ∈ k_X10_addCrane_1, gx_E g gc_md RX10 cX10_addCrane 5 (some .int) "addCrane" q.1 q.2 := List.forall_mem_cons.mpr ⟨(gs_aload_n dX10_addCrane_51 rfl), List.forall_mem_cons.mpr ⟨
  (gs_dup dX10_addCrane_52), List.forall_mem_cons.mpr ⟨
  (gs_gf (ref := "GriefCranes$Yard") dX10_addCrane_53 (gx_mem 310 (by decide +kernel) (by decide +kernel)) (Or.inl rfl) gf_10_4), List.forall_mem_cons.mpr ⟨
  (gs_iconst dX10_addCrane_56 rfl), List.forall_mem_cons.mpr ⟨
  (gs_iadd dX10_addCrane_57), List.forall_mem_cons.mpr ⟨
  (gs_pf (ref := "GriefCranes$Yard") dX10_addCrane_58 (gx_mem 310 (by decide +kernel) (by decide +kernel)) (Or.inl rfl) gf_10_4 (by decide +kernel)), List.forall_mem_cons.mpr ⟨
  (gs_iload_n dX10_addCrane_61 rfl), List.forall_mem_cons.mpr ⟨
  (gs_ri dX10_addCrane_62), fun _ h => absurd h List.not_mem_nil⟩⟩⟩⟩⟩⟩⟩⟩
theorem kt_X10_addCrane (g : gx_T) : ∀ q ∈ k_X10_addCrane, gx_E g gc_md RX10 cX10_addCrane 5 (some .int) "addCrane" q.1 q.2 := List.forall_mem_append.mpr ⟨kt_X10_addCrane_0 g, kt_X10_addCrane_1 g⟩
set_option maxRecDepth 20000 in
theorem dX10_addThing_0 : decode cX10_addThing 0 = .ok (.aload_n 0, 1) := by decide +kernel
set_option maxRecDepth 20000 in
theorem dX10_addThing_1 : decode cX10_addThing 1 = .ok (.getfield 36, 3) := by decide +kernel
set_option maxRecDepth 20000 in
theorem dX10_addThing_4 : decode cX10_addThing 4 = .ok (.istore_n 3, 1) := by decide +kernel
set_option maxRecDepth 20000 in
theorem dX10_addThing_5 : decode cX10_addThing 5 = .ok (.aload_n 0, 1) := by decide +kernel
set_option maxRecDepth 20000 in
theorem dX10_addThing_6 : decode cX10_addThing 6 = .ok (.getfield 39, 3) := by decide +kernel
set_option maxRecDepth 20000 in
theorem dX10_addThing_9 : decode cX10_addThing 9 = .ok (.iload_n 3, 1) := by decide +kernel
set_option maxRecDepth 20000 in
theorem dX10_addThing_10 : decode cX10_addThing 10 = .ok (.iload_n 1, 1) := by decide +kernel
set_option maxRecDepth 20000 in
theorem dX10_addThing_11 : decode cX10_addThing 11 = .ok (.iastore, 1) := by decide +kernel
set_option maxRecDepth 20000 in
theorem dX10_addThing_12 : decode cX10_addThing 12 = .ok (.aload_n 0, 1) := by decide +kernel
set_option maxRecDepth 20000 in
theorem dX10_addThing_13 : decode cX10_addThing 13 = .ok (.getfield 42, 3) := by decide +kernel
set_option maxRecDepth 20000 in
theorem dX10_addThing_16 : decode cX10_addThing 16 = .ok (.iload_n 3, 1) := by decide +kernel
set_option maxRecDepth 20000 in
theorem dX10_addThing_17 : decode cX10_addThing 17 = .ok (.iload_n 2, 1) := by decide +kernel
set_option maxRecDepth 20000 in
theorem dX10_addThing_18 : decode cX10_addThing 18 = .ok (.iastore, 1) := by decide +kernel
set_option maxRecDepth 20000 in
theorem dX10_addThing_19 : decode cX10_addThing 19 = .ok (.aload_n 0, 1) := by decide +kernel
set_option maxRecDepth 20000 in
theorem dX10_addThing_20 : decode cX10_addThing 20 = .ok (.iload_n 3, 1) := by decide +kernel
set_option maxRecDepth 20000 in
theorem dX10_addThing_21 : decode cX10_addThing 21 = .ok (.iconst 0, 1) := by decide +kernel
set_option maxRecDepth 20000 in
theorem dX10_addThing_22 : decode cX10_addThing 22 = .ok (.invokevirtual 71, 3) := by decide +kernel
set_option maxRecDepth 20000 in
theorem dX10_addThing_25 : decode cX10_addThing 25 = .ok (.aload_n 0, 1) := by decide +kernel
set_option maxRecDepth 20000 in
theorem dX10_addThing_26 : decode cX10_addThing 26 = .ok (.dup, 1) := by decide +kernel
set_option maxRecDepth 20000 in
theorem dX10_addThing_27 : decode cX10_addThing 27 = .ok (.getfield 36, 3) := by decide +kernel
set_option maxRecDepth 20000 in
theorem dX10_addThing_30 : decode cX10_addThing 30 = .ok (.iconst 1, 1) := by decide +kernel
set_option maxRecDepth 20000 in
theorem dX10_addThing_31 : decode cX10_addThing 31 = .ok (.iadd, 1) := by decide +kernel
set_option maxRecDepth 20000 in
theorem dX10_addThing_32 : decode cX10_addThing 32 = .ok (.putfield 36, 3) := by decide +kernel
set_option maxRecDepth 20000 in
theorem dX10_addThing_35 : decode cX10_addThing 35 = .ok (.iload_n 3, 1) := by decide +kernel
set_option maxRecDepth 20000 in
theorem dX10_addThing_36 : decode cX10_addThing 36 = .ok (.ireturn, 1) := by decide +kernel
set_option maxRecDepth 20000 in
theorem kt_X10_addThing_0 (g : gx_T) : ∀ q ∈ k_X10_addThing_0, gx_E g gc_md RX10 cX10_addThing 4 (some .int) "addThing" q.1 q.2 := List.forall_mem_cons.mpr ⟨(gs_aload_n dX10_addThing_0 rfl), List.forall_mem_cons.mpr ⟨
  (gs_gf (ref := "GriefCranes$Yard") dX10_addThing_1 (gx_mem 324 (by decide +kernel) (by decide +kernel)) (Or.inl rfl) gf_10_9), List.forall_mem_cons.mpr ⟨
  (gs_istore_n dX10_addThing_4 rfl), List.forall_mem_cons.mpr ⟨
  (gs_aload_n dX10_addThing_5 rfl), List.forall_mem_cons.mpr ⟨
  (gs_gf (ref := "GriefCranes$Yard") dX10_addThing_6 (gx_mem 326 (by decide +kernel) (by decide +kernel)) (Or.inl rfl) gf_10_10), List.forall_mem_cons.mpr ⟨
  (gs_iload_n dX10_addThing_9 rfl), List.forall_mem_cons.mpr ⟨
  (gs_iload_n dX10_addThing_10 rfl), List.forall_mem_cons.mpr ⟨
  (gs_iastore dX10_addThing_11), List.forall_mem_cons.mpr ⟨
  (gs_aload_n dX10_addThing_12 rfl), List.forall_mem_cons.mpr ⟨
  (gs_gf (ref := "GriefCranes$Yard") dX10_addThing_13 (gx_mem 329 (by decide +kernel) (by decide +kernel)) (Or.inl rfl) gf_10_11), List.forall_mem_cons.mpr ⟨
  (gs_iload_n dX10_addThing_16 rfl), List.forall_mem_cons.mpr ⟨
  (gs_iload_n dX10_addThing_17 rfl), List.forall_mem_cons.mpr ⟨
  (gs_iastore dX10_addThing_18), List.forall_mem_cons.mpr ⟨
  (gs_aload_n dX10_addThing_19 rfl), List.forall_mem_cons.mpr ⟨
  (gs_iload_n dX10_addThing_20 rfl), List.forall_mem_cons.mpr ⟨
  (gs_iconst dX10_addThing_21 rfl), List.forall_mem_cons.mpr ⟨
  (gs_cv dX10_addThing_22 (fun q hq => by
      simp only [List.mem_cons, List.not_mem_nil, or_false] at hq
      subst hq
      exact Or.inl ⟨_, rfl, by decide, by decide +kernel, by decide +kernel, List.forall_mem_cons.mpr ⟨gx_mem 502 (by decide +kernel) (by decide +kernel), List.forall_mem_cons.mpr ⟨gx_mem 503 (by decide +kernel) (by decide +kernel), List.forall_mem_cons.mpr ⟨gx_mem 504 (by decide +kernel) (by decide +kernel), List.forall_mem_cons.mpr ⟨gx_mem 95 (by decide +kernel) (by decide +kernel), List.forall_mem_cons.mpr ⟨cw_505, fun _ h => absurd h List.not_mem_nil⟩⟩⟩⟩⟩⟩)), List.forall_mem_cons.mpr ⟨
  (gs_aload_n dX10_addThing_25 rfl), List.forall_mem_cons.mpr ⟨
  (gs_dup dX10_addThing_26), List.forall_mem_cons.mpr ⟨
  (gs_gf (ref := "GriefCranes$Yard") dX10_addThing_27 (gx_mem 324 (by decide +kernel) (by decide +kernel)) (Or.inl rfl) gf_10_9), List.forall_mem_cons.mpr ⟨
  (gs_iconst dX10_addThing_30 rfl), List.forall_mem_cons.mpr ⟨
  (gs_iadd dX10_addThing_31), List.forall_mem_cons.mpr ⟨
  (gs_pf (ref := "GriefCranes$Yard") dX10_addThing_32 (gx_mem 324 (by decide +kernel) (by decide +kernel)) (Or.inl rfl) gf_10_9 (by decide +kernel)), List.forall_mem_cons.mpr ⟨
  (gs_iload_n dX10_addThing_35 rfl), List.forall_mem_cons.mpr ⟨
  (gs_ri dX10_addThing_36), fun _ h => absurd h List.not_mem_nil⟩⟩⟩⟩⟩⟩⟩⟩⟩⟩⟩⟩⟩⟩⟩⟩⟩⟩⟩⟩⟩⟩⟩⟩⟩
theorem kt_X10_addThing (g : gx_T) : ∀ q ∈ k_X10_addThing, gx_E g gc_md RX10 cX10_addThing 4 (some .int) "addThing" q.1 q.2 := kt_X10_addThing_0 g
set_option maxRecDepth 20000 in
theorem dX10_setFresh_0 : decode cX10_setFresh 0 = .ok (.aload_n 0, 1) := by decide +kernel
set_option maxRecDepth 20000 in
theorem dX10_setFresh_1 : decode cX10_setFresh 1 = .ok (.getfield 45, 3) := by decide +kernel
set_option maxRecDepth 20000 in
theorem dX10_setFresh_4 : decode cX10_setFresh 4 = .ok (.iload_n 1, 1) := by decide +kernel
set_option maxRecDepth 20000 in
theorem dX10_setFresh_5 : decode cX10_setFresh 5 = .ok (.iload_n 2, 1) := by decide +kernel
set_option maxRecDepth 20000 in
theorem dX10_setFresh_6 : decode cX10_setFresh 6 = .ok (.iastore, 1) := by decide +kernel
set_option maxRecDepth 20000 in
theorem dX10_setFresh_7 : decode cX10_setFresh 7 = .ok (.aload_n 0, 1) := by decide +kernel
set_option maxRecDepth 20000 in
theorem dX10_setFresh_8 : decode cX10_setFresh 8 = .ok (.getfield 48, 3) := by decide +kernel
set_option maxRecDepth 20000 in
theorem dX10_setFresh_11 : decode cX10_setFresh 11 = .ok (.iload_n 1, 1) := by decide +kernel
set_option maxRecDepth 20000 in
theorem dX10_setFresh_12 : decode cX10_setFresh 12 = .ok (.iconst 0, 1) := by decide +kernel
set_option maxRecDepth 20000 in
theorem dX10_setFresh_13 : decode cX10_setFresh 13 = .ok (.iastore, 1) := by decide +kernel
set_option maxRecDepth 20000 in
theorem dX10_setFresh_14 : decode cX10_setFresh 14 = .ok (.aload_n 0, 1) := by decide +kernel
set_option maxRecDepth 20000 in
theorem dX10_setFresh_15 : decode cX10_setFresh 15 = .ok (.getfield 51, 3) := by decide +kernel
set_option maxRecDepth 20000 in
theorem dX10_setFresh_18 : decode cX10_setFresh 18 = .ok (.iload_n 1, 1) := by decide +kernel
set_option maxRecDepth 20000 in
theorem dX10_setFresh_19 : decode cX10_setFresh 19 = .ok (.iconst 0, 1) := by decide +kernel
set_option maxRecDepth 20000 in
theorem dX10_setFresh_20 : decode cX10_setFresh 20 = .ok (.iastore, 1) := by decide +kernel
set_option maxRecDepth 20000 in
theorem dX10_setFresh_21 : decode cX10_setFresh 21 = .ok (.return_, 1) := by decide +kernel
set_option maxRecDepth 20000 in
theorem kt_X10_setFresh_0 (g : gx_T) : ∀ q ∈ k_X10_setFresh_0, gx_E g gc_md RX10 cX10_setFresh 3 (none) "setFresh" q.1 q.2 := List.forall_mem_cons.mpr ⟨(gs_aload_n dX10_setFresh_0 rfl), List.forall_mem_cons.mpr ⟨
  (gs_gf (ref := "GriefCranes$Yard") dX10_setFresh_1 (gx_mem 331 (by decide +kernel) (by decide +kernel)) (Or.inl rfl) gf_10_12), List.forall_mem_cons.mpr ⟨
  (gs_iload_n dX10_setFresh_4 rfl), List.forall_mem_cons.mpr ⟨
  (gs_iload_n dX10_setFresh_5 rfl), List.forall_mem_cons.mpr ⟨
  (gs_iastore dX10_setFresh_6), List.forall_mem_cons.mpr ⟨
  (gs_aload_n dX10_setFresh_7 rfl), List.forall_mem_cons.mpr ⟨
  (gs_gf (ref := "GriefCranes$Yard") dX10_setFresh_8 (gx_mem 333 (by decide +kernel) (by decide +kernel)) (Or.inl rfl) gf_10_13), List.forall_mem_cons.mpr ⟨
  (gs_iload_n dX10_setFresh_11 rfl), List.forall_mem_cons.mpr ⟨
  (gs_iconst dX10_setFresh_12 rfl), List.forall_mem_cons.mpr ⟨
  (gs_iastore dX10_setFresh_13), List.forall_mem_cons.mpr ⟨
  (gs_aload_n dX10_setFresh_14 rfl), List.forall_mem_cons.mpr ⟨
  (gs_gf (ref := "GriefCranes$Yard") dX10_setFresh_15 (gx_mem 335 (by decide +kernel) (by decide +kernel)) (Or.inl rfl) gf_10_14), List.forall_mem_cons.mpr ⟨
  (gs_iload_n dX10_setFresh_18 rfl), List.forall_mem_cons.mpr ⟨
  (gs_iconst dX10_setFresh_19 rfl), List.forall_mem_cons.mpr ⟨
  (gs_iastore dX10_setFresh_20), List.forall_mem_cons.mpr ⟨
  (gs_rv dX10_setFresh_21), fun _ h => absurd h List.not_mem_nil⟩⟩⟩⟩⟩⟩⟩⟩⟩⟩⟩⟩⟩⟩⟩⟩
theorem kt_X10_setFresh (g : gx_T) : ∀ q ∈ k_X10_setFresh, gx_E g gc_md RX10 cX10_setFresh 3 (none) "setFresh" q.1 q.2 := kt_X10_setFresh_0 g
set_option maxRecDepth 20000 in
theorem dX10_copyFrom_0 : decode cX10_copyFrom 0 = .ok (.aload_n 0, 1) := by decide +kernel
set_option maxRecDepth 20000 in
theorem dX10_copyFrom_1 : decode cX10_copyFrom 1 = .ok (.aload_n 1, 1) := by decide +kernel
set_option maxRecDepth 20000 in
theorem dX10_copyFrom_2 : decode cX10_copyFrom 2 = .ok (.getfield 63, 3) := by decide +kernel
set_option maxRecDepth 20000 in
theorem dX10_copyFrom_5 : decode cX10_copyFrom 5 = .ok (.putfield 63, 3) := by decide +kernel
set_option maxRecDepth 20000 in
theorem dX10_copyFrom_8 : decode cX10_copyFrom 8 = .ok (.aload_n 0, 1) := by decide +kernel
set_option maxRecDepth 20000 in
theorem dX10_copyFrom_9 : decode cX10_copyFrom 9 = .ok (.aload_n 1, 1) := by decide +kernel
set_option maxRecDepth 20000 in
theorem dX10_copyFrom_10 : decode cX10_copyFrom 10 = .ok (.getfield 9, 3) := by decide +kernel
set_option maxRecDepth 20000 in
theorem dX10_copyFrom_13 : decode cX10_copyFrom 13 = .ok (.putfield 9, 3) := by decide +kernel
set_option maxRecDepth 20000 in
theorem dX10_copyFrom_16 : decode cX10_copyFrom 16 = .ok (.aload_n 1, 1) := by decide +kernel
set_option maxRecDepth 20000 in
theorem dX10_copyFrom_17 : decode cX10_copyFrom 17 = .ok (.getfield 15, 3) := by decide +kernel
set_option maxRecDepth 20000 in
theorem dX10_copyFrom_20 : decode cX10_copyFrom 20 = .ok (.iconst 0, 1) := by decide +kernel
set_option maxRecDepth 20000 in
theorem dX10_copyFrom_21 : decode cX10_copyFrom 21 = .ok (.aload_n 0, 1) := by decide +kernel
set_option maxRecDepth 20000 in
theorem dX10_copyFrom_22 : decode cX10_copyFrom 22 = .ok (.getfield 15, 3) := by decide +kernel
set_option maxRecDepth 20000 in
theorem dX10_copyFrom_25 : decode cX10_copyFrom 25 = .ok (.iconst 0, 1) := by decide +kernel
set_option maxRecDepth 20000 in
theorem dX10_copyFrom_26 : decode cX10_copyFrom 26 = .ok (.iconst 4, 1) := by decide +kernel
set_option maxRecDepth 20000 in
theorem dX10_copyFrom_27 : decode cX10_copyFrom 27 = .ok (.invokestatic 75, 3) := by decide +kernel
set_option maxRecDepth 20000 in
theorem dX10_copyFrom_30 : decode cX10_copyFrom 30 = .ok (.aload_n 0, 1) := by decide +kernel
set_option maxRecDepth 20000 in
theorem dX10_copyFrom_31 : decode cX10_copyFrom 31 = .ok (.aload_n 1, 1) := by decide +kernel
set_option maxRecDepth 20000 in
theorem dX10_copyFrom_32 : decode cX10_copyFrom 32 = .ok (.getfield 19, 3) := by decide +kernel
set_option maxRecDepth 20000 in
theorem dX10_copyFrom_35 : decode cX10_copyFrom 35 = .ok (.putfield 19, 3) := by decide +kernel
set_option maxRecDepth 20000 in
theorem dX10_copyFrom_38 : decode cX10_copyFrom 38 = .ok (.aload_n 1, 1) := by decide +kernel
set_option maxRecDepth 20000 in
theorem dX10_copyFrom_39 : decode cX10_copyFrom 39 = .ok (.getfield 22, 3) := by decide +kernel
set_option maxRecDepth 20000 in
theorem dX10_copyFrom_42 : decode cX10_copyFrom 42 = .ok (.iconst 0, 1) := by decide +kernel
set_option maxRecDepth 20000 in
theorem dX10_copyFrom_43 : decode cX10_copyFrom 43 = .ok (.aload_n 0, 1) := by decide +kernel
set_option maxRecDepth 20000 in
theorem dX10_copyFrom_44 : decode cX10_copyFrom 44 = .ok (.getfield 22, 3) := by decide +kernel
set_option maxRecDepth 20000 in
theorem dX10_copyFrom_47 : decode cX10_copyFrom 47 = .ok (.iconst 0, 1) := by decide +kernel
set_option maxRecDepth 20000 in
theorem dX10_copyFrom_48 : decode cX10_copyFrom 48 = .ok (.bipush 6, 2) := by decide +kernel
set_option maxRecDepth 20000 in
theorem dX10_copyFrom_50 : decode cX10_copyFrom 50 = .ok (.invokestatic 75, 3) := by decide +kernel
set_option maxRecDepth 20000 in
theorem dX10_copyFrom_53 : decode cX10_copyFrom 53 = .ok (.aload_n 1, 1) := by decide +kernel
set_option maxRecDepth 20000 in
theorem dX10_copyFrom_54 : decode cX10_copyFrom 54 = .ok (.getfield 25, 3) := by decide +kernel
set_option maxRecDepth 20000 in
theorem dX10_copyFrom_57 : decode cX10_copyFrom 57 = .ok (.iconst 0, 1) := by decide +kernel
set_option maxRecDepth 20000 in
theorem dX10_copyFrom_58 : decode cX10_copyFrom 58 = .ok (.aload_n 0, 1) := by decide +kernel
set_option maxRecDepth 20000 in
theorem dX10_copyFrom_59 : decode cX10_copyFrom 59 = .ok (.getfield 25, 3) := by decide +kernel
set_option maxRecDepth 20000 in
theorem dX10_copyFrom_62 : decode cX10_copyFrom 62 = .ok (.iconst 0, 1) := by decide +kernel
set_option maxRecDepth 20000 in
theorem dX10_copyFrom_63 : decode cX10_copyFrom 63 = .ok (.bipush 6, 2) := by decide +kernel
set_option maxRecDepth 20000 in
theorem dX10_copyFrom_65 : decode cX10_copyFrom 65 = .ok (.invokestatic 75, 3) := by decide +kernel
set_option maxRecDepth 20000 in
theorem dX10_copyFrom_68 : decode cX10_copyFrom 68 = .ok (.aload_n 1, 1) := by decide +kernel
set_option maxRecDepth 20000 in
theorem dX10_copyFrom_69 : decode cX10_copyFrom 69 = .ok (.getfield 28, 3) := by decide +kernel
set_option maxRecDepth 20000 in
theorem dX10_copyFrom_72 : decode cX10_copyFrom 72 = .ok (.iconst 0, 1) := by decide +kernel
set_option maxRecDepth 20000 in
theorem dX10_copyFrom_73 : decode cX10_copyFrom 73 = .ok (.aload_n 0, 1) := by decide +kernel
set_option maxRecDepth 20000 in
theorem dX10_copyFrom_74 : decode cX10_copyFrom 74 = .ok (.getfield 28, 3) := by decide +kernel
set_option maxRecDepth 20000 in
theorem dX10_copyFrom_77 : decode cX10_copyFrom 77 = .ok (.iconst 0, 1) := by decide +kernel
set_option maxRecDepth 20000 in
theorem dX10_copyFrom_78 : decode cX10_copyFrom 78 = .ok (.bipush 6, 2) := by decide +kernel
set_option maxRecDepth 20000 in
theorem dX10_copyFrom_80 : decode cX10_copyFrom 80 = .ok (.invokestatic 75, 3) := by decide +kernel
set_option maxRecDepth 20000 in
theorem dX10_copyFrom_83 : decode cX10_copyFrom 83 = .ok (.iconst 0, 1) := by decide +kernel
set_option maxRecDepth 20000 in
theorem dX10_copyFrom_84 : decode cX10_copyFrom 84 = .ok (.istore_n 2, 1) := by decide +kernel
set_option maxRecDepth 20000 in
theorem dX10_copyFrom_85 : decode cX10_copyFrom 85 = .ok (.iload_n 2, 1) := by decide +kernel
set_option maxRecDepth 20000 in
theorem dX10_copyFrom_86 : decode cX10_copyFrom 86 = .ok (.aload_n 0, 1) := by decide +kernel
set_option maxRecDepth 20000 in
theorem dX10_copyFrom_87 : decode cX10_copyFrom 87 = .ok (.getfield 19, 3) := by decide +kernel
set_option maxRecDepth 20000 in
theorem dX10_copyFrom_90 : decode cX10_copyFrom 90 = .ok (.if_icmp .ge 27, 3) := by decide +kernel
set_option maxRecDepth 20000 in
theorem dX10_copyFrom_93 : decode cX10_copyFrom 93 = .ok (.aload_n 1, 1) := by decide +kernel
set_option maxRecDepth 20000 in
theorem dX10_copyFrom_94 : decode cX10_copyFrom 94 = .ok (.getfield 33, 3) := by decide +kernel
set_option maxRecDepth 20000 in
theorem dX10_copyFrom_97 : decode cX10_copyFrom 97 = .ok (.iload_n 2, 1) := by decide +kernel
set_option maxRecDepth 20000 in
theorem dX10_copyFrom_98 : decode cX10_copyFrom 98 = .ok (.aaload, 1) := by decide +kernel
set_option maxRecDepth 20000 in
theorem dX10_copyFrom_99 : decode cX10_copyFrom 99 = .ok (.iconst 0, 1) := by decide +kernel
set_option maxRecDepth 20000 in
theorem dX10_copyFrom_100 : decode cX10_copyFrom 100 = .ok (.aload_n 0, 1) := by decide +kernel
set_option maxRecDepth 20000 in
theorem dX10_copyFrom_101 : decode cX10_copyFrom 101 = .ok (.getfield 33, 3) := by decide +kernel
set_option maxRecDepth 20000 in
theorem dX10_copyFrom_104 : decode cX10_copyFrom 104 = .ok (.iload_n 2, 1) := by decide +kernel
set_option maxRecDepth 20000 in
theorem dX10_copyFrom_105 : decode cX10_copyFrom 105 = .ok (.aaload, 1) := by decide +kernel
set_option maxRecDepth 20000 in
theorem dX10_copyFrom_106 : decode cX10_copyFrom 106 = .ok (.iconst 0, 1) := by decide +kernel
set_option maxRecDepth 20000 in
theorem dX10_copyFrom_107 : decode cX10_copyFrom 107 = .ok (.iconst 4, 1) := by decide +kernel
set_option maxRecDepth 20000 in
theorem dX10_copyFrom_108 : decode cX10_copyFrom 108 = .ok (.invokestatic 75, 3) := by decide +kernel
set_option maxRecDepth 20000 in
theorem dX10_copyFrom_111 : decode cX10_copyFrom 111 = .ok (.iinc 2 1, 3) := by decide +kernel
set_option maxRecDepth 20000 in
theorem dX10_copyFrom_114 : decode cX10_copyFrom 114 = .ok (.goto (-29), 3) := by decide +kernel
set_option maxRecDepth 20000 in
theorem dX10_copyFrom_117 : decode cX10_copyFrom 117 = .ok (.aload_n 0, 1) := by decide +kernel
set_option maxRecDepth 20000 in
theorem dX10_copyFrom_118 : decode cX10_copyFrom 118 = .ok (.aload_n 1, 1) := by decide +kernel
set_option maxRecDepth 20000 in
theorem dX10_copyFrom_119 : decode cX10_copyFrom 119 = .ok (.getfield 36, 3) := by decide +kernel
set_option maxRecDepth 20000 in
theorem dX10_copyFrom_122 : decode cX10_copyFrom 122 = .ok (.putfield 36, 3) := by decide +kernel
set_option maxRecDepth 20000 in
theorem dX10_copyFrom_125 : decode cX10_copyFrom 125 = .ok (.aload_n 1, 1) := by decide +kernel
set_option maxRecDepth 20000 in
theorem dX10_copyFrom_126 : decode cX10_copyFrom 126 = .ok (.getfield 39, 3) := by decide +kernel
set_option maxRecDepth 20000 in
theorem dX10_copyFrom_129 : decode cX10_copyFrom 129 = .ok (.iconst 0, 1) := by decide +kernel
set_option maxRecDepth 20000 in
theorem dX10_copyFrom_130 : decode cX10_copyFrom 130 = .ok (.aload_n 0, 1) := by decide +kernel
set_option maxRecDepth 20000 in
theorem dX10_copyFrom_131 : decode cX10_copyFrom 131 = .ok (.getfield 39, 3) := by decide +kernel
set_option maxRecDepth 20000 in
theorem dX10_copyFrom_134 : decode cX10_copyFrom 134 = .ok (.iconst 0, 1) := by decide +kernel
set_option maxRecDepth 20000 in
theorem dX10_copyFrom_135 : decode cX10_copyFrom 135 = .ok (.bipush 8, 2) := by decide +kernel
set_option maxRecDepth 20000 in
theorem dX10_copyFrom_137 : decode cX10_copyFrom 137 = .ok (.invokestatic 75, 3) := by decide +kernel
set_option maxRecDepth 20000 in
theorem dX10_copyFrom_140 : decode cX10_copyFrom 140 = .ok (.aload_n 1, 1) := by decide +kernel
set_option maxRecDepth 20000 in
theorem dX10_copyFrom_141 : decode cX10_copyFrom 141 = .ok (.getfield 42, 3) := by decide +kernel
set_option maxRecDepth 20000 in
theorem dX10_copyFrom_144 : decode cX10_copyFrom 144 = .ok (.iconst 0, 1) := by decide +kernel
set_option maxRecDepth 20000 in
theorem dX10_copyFrom_145 : decode cX10_copyFrom 145 = .ok (.aload_n 0, 1) := by decide +kernel
set_option maxRecDepth 20000 in
theorem dX10_copyFrom_146 : decode cX10_copyFrom 146 = .ok (.getfield 42, 3) := by decide +kernel
set_option maxRecDepth 20000 in
theorem dX10_copyFrom_149 : decode cX10_copyFrom 149 = .ok (.iconst 0, 1) := by decide +kernel
set_option maxRecDepth 20000 in
theorem dX10_copyFrom_150 : decode cX10_copyFrom 150 = .ok (.bipush 8, 2) := by decide +kernel
set_option maxRecDepth 20000 in
theorem dX10_copyFrom_152 : decode cX10_copyFrom 152 = .ok (.invokestatic 75, 3) := by decide +kernel
set_option maxRecDepth 20000 in
theorem dX10_copyFrom_155 : decode cX10_copyFrom 155 = .ok (.aload_n 1, 1) := by decide +kernel
set_option maxRecDepth 20000 in
theorem dX10_copyFrom_156 : decode cX10_copyFrom 156 = .ok (.getfield 45, 3) := by decide +kernel
set_option maxRecDepth 20000 in
theorem dX10_copyFrom_159 : decode cX10_copyFrom 159 = .ok (.iconst 0, 1) := by decide +kernel
set_option maxRecDepth 20000 in
theorem dX10_copyFrom_160 : decode cX10_copyFrom 160 = .ok (.aload_n 0, 1) := by decide +kernel
set_option maxRecDepth 20000 in
theorem dX10_copyFrom_161 : decode cX10_copyFrom 161 = .ok (.getfield 45, 3) := by decide +kernel
set_option maxRecDepth 20000 in
theorem dX10_copyFrom_164 : decode cX10_copyFrom 164 = .ok (.iconst 0, 1) := by decide +kernel
set_option maxRecDepth 20000 in
theorem dX10_copyFrom_165 : decode cX10_copyFrom 165 = .ok (.bipush 8, 2) := by decide +kernel
set_option maxRecDepth 20000 in
theorem dX10_copyFrom_167 : decode cX10_copyFrom 167 = .ok (.invokestatic 75, 3) := by decide +kernel
set_option maxRecDepth 20000 in
theorem dX10_copyFrom_170 : decode cX10_copyFrom 170 = .ok (.aload_n 1, 1) := by decide +kernel
set_option maxRecDepth 20000 in
theorem dX10_copyFrom_171 : decode cX10_copyFrom 171 = .ok (.getfield 48, 3) := by decide +kernel
set_option maxRecDepth 20000 in
theorem dX10_copyFrom_174 : decode cX10_copyFrom 174 = .ok (.iconst 0, 1) := by decide +kernel
set_option maxRecDepth 20000 in
theorem dX10_copyFrom_175 : decode cX10_copyFrom 175 = .ok (.aload_n 0, 1) := by decide +kernel
set_option maxRecDepth 20000 in
theorem dX10_copyFrom_176 : decode cX10_copyFrom 176 = .ok (.getfield 48, 3) := by decide +kernel
set_option maxRecDepth 20000 in
theorem dX10_copyFrom_179 : decode cX10_copyFrom 179 = .ok (.iconst 0, 1) := by decide +kernel
set_option maxRecDepth 20000 in
theorem dX10_copyFrom_180 : decode cX10_copyFrom 180 = .ok (.bipush 8, 2) := by decide +kernel
set_option maxRecDepth 20000 in
theorem dX10_copyFrom_182 : decode cX10_copyFrom 182 = .ok (.invokestatic 75, 3) := by decide +kernel
set_option maxRecDepth 20000 in
theorem dX10_copyFrom_185 : decode cX10_copyFrom 185 = .ok (.aload_n 1, 1) := by decide +kernel
set_option maxRecDepth 20000 in
theorem dX10_copyFrom_186 : decode cX10_copyFrom 186 = .ok (.getfield 51, 3) := by decide +kernel
set_option maxRecDepth 20000 in
theorem dX10_copyFrom_189 : decode cX10_copyFrom 189 = .ok (.iconst 0, 1) := by decide +kernel
set_option maxRecDepth 20000 in
theorem dX10_copyFrom_190 : decode cX10_copyFrom 190 = .ok (.aload_n 0, 1) := by decide +kernel
set_option maxRecDepth 20000 in
theorem dX10_copyFrom_191 : decode cX10_copyFrom 191 = .ok (.getfield 51, 3) := by decide +kernel
set_option maxRecDepth 20000 in
theorem dX10_copyFrom_194 : decode cX10_copyFrom 194 = .ok (.iconst 0, 1) := by decide +kernel
set_option maxRecDepth 20000 in
theorem dX10_copyFrom_195 : decode cX10_copyFrom 195 = .ok (.bipush 8, 2) := by decide +kernel
set_option maxRecDepth 20000 in
theorem dX10_copyFrom_197 : decode cX10_copyFrom 197 = .ok (.invokestatic 75, 3) := by decide +kernel
set_option maxRecDepth 20000 in
theorem dX10_copyFrom_200 : decode cX10_copyFrom 200 = .ok (.return_, 1) := by decide +kernel
set_option maxRecDepth 20000 in
theorem kt_X10_copyFrom_0 (g : gx_T) : ∀ q ∈ k_X10_copyFrom_0, gx_E g gc_md RX10 cX10_copyFrom 3 (none) "copyFrom" q.1 q.2 := List.forall_mem_cons.mpr ⟨(gs_aload_n dX10_copyFrom_0 rfl), List.forall_mem_cons.mpr ⟨
  (gs_aload_n dX10_copyFrom_1 rfl), List.forall_mem_cons.mpr ⟨
  (gs_gf (ref := "GriefCranes$Yard") dX10_copyFrom_2 (gx_mem 302 (by decide +kernel) (by decide +kernel)) (Or.inl rfl) gf_10_1), List.forall_mem_cons.mpr ⟨
  (gs_pf (ref := "GriefCranes$Yard") dX10_copyFrom_5 (gx_mem 302 (by decide +kernel) (by decide +kernel)) (Or.inl rfl) gf_10_1 (by decide +kernel)), List.forall_mem_cons.mpr ⟨
  (gs_aload_n dX10_copyFrom_8 rfl), List.forall_mem_cons.mpr ⟨
  (gs_aload_n dX10_copyFrom_9 rfl), List.forall_mem_cons.mpr ⟨
  (gs_gf (ref := "GriefCranes$Yard") dX10_copyFrom_10 (gx_mem 304 (by decide +kernel) (by decide +kernel)) (Or.inl rfl) gf_10_2), List.forall_mem_cons.mpr ⟨
  (gs_pf (ref := "GriefCranes$Yard") dX10_copyFrom_13 (gx_mem 304 (by decide +kernel) (by decide +kernel)) (Or.inl rfl) gf_10_2 (by decide +kernel)), List.forall_mem_cons.mpr ⟨
  (gs_aload_n dX10_copyFrom_16 rfl), List.forall_mem_cons.mpr ⟨
  (gs_gf (ref := "GriefCranes$Yard") dX10_copyFrom_17 (gx_mem 307 (by decide +kernel) (by decide +kernel)) (Or.inl rfl) gf_10_3), List.forall_mem_cons.mpr ⟨
  (gs_iconst dX10_copyFrom_20 rfl), List.forall_mem_cons.mpr ⟨
  (gs_aload_n dX10_copyFrom_21 rfl), List.forall_mem_cons.mpr ⟨
  (gs_gf (ref := "GriefCranes$Yard") dX10_copyFrom_22 (gx_mem 307 (by decide +kernel) (by decide +kernel)) (Or.inl rfl) gf_10_3), List.forall_mem_cons.mpr ⟨
  (gs_iconst dX10_copyFrom_25 rfl), List.forall_mem_cons.mpr ⟨
  (gs_iconst dX10_copyFrom_26 rfl), List.forall_mem_cons.mpr ⟨
  (gs_cpI dX10_copyFrom_27 (List.forall_mem_cons.mpr ⟨gx_mem 514 (by decide +kernel) (by decide +kernel), List.forall_mem_cons.mpr ⟨gx_mem 516 (by decide +kernel) (by decide +kernel), List.forall_mem_cons.mpr ⟨gx_mem 515 (by decide +kernel) (by decide +kernel), List.forall_mem_cons.mpr ⟨gx_mem 98 (by decide +kernel) (by decide +kernel), fun _ h => absurd h List.not_mem_nil⟩⟩⟩⟩)), List.forall_mem_cons.mpr ⟨
  (gs_aload_n dX10_copyFrom_30 rfl), List.forall_mem_cons.mpr ⟨
  (gs_aload_n dX10_copyFrom_31 rfl), List.forall_mem_cons.mpr ⟨
  (gs_gf (ref := "GriefCranes$Yard") dX10_copyFrom_32 (gx_mem 310 (by decide +kernel) (by decide +kernel)) (Or.inl rfl) gf_10_4), List.forall_mem_cons.mpr ⟨
  (gs_pf (ref := "GriefCranes$Yard") dX10_copyFrom_35 (gx_mem 310 (by decide +kernel) (by decide +kernel)) (Or.inl rfl) gf_10_4 (by decide +kernel)), List.forall_mem_cons.mpr ⟨
  (gs_aload_n dX10_copyFrom_38 rfl), List.forall_mem_cons.mpr ⟨
  (gs_gf (ref := "GriefCranes$Yard") dX10_copyFrom_39 (gx_mem 312 (by decide +kernel) (by decide +kernel)) (Or.inl rfl) gf_10_5), List.forall_mem_cons.mpr ⟨
  (gs_iconst dX10_copyFrom_42 rfl), List.forall_mem_cons.mpr ⟨
  (gs_aload_n dX10_copyFrom_43 rfl), List.forall_mem_cons.mpr ⟨
  (gs_gf (ref := "GriefCranes$Yard") dX10_copyFrom_44 (gx_mem 312 (by decide +kernel) (by decide +kernel)) (Or.inl rfl) gf_10_5), List.forall_mem_cons.mpr ⟨
  (gs_iconst dX10_copyFrom_47 rfl), List.forall_mem_cons.mpr ⟨
  (gs_bipush dX10_copyFrom_48 rfl), List.forall_mem_cons.mpr ⟨
  (gs_cpI dX10_copyFrom_50 (List.forall_mem_cons.mpr ⟨gx_mem 514 (by decide +kernel) (by decide +kernel), List.forall_mem_cons.mpr ⟨gx_mem 516 (by decide +kernel) (by decide +kernel), List.forall_mem_cons.mpr ⟨gx_mem 515 (by decide +kernel) (by decide +kernel), List.forall_mem_cons.mpr ⟨gx_mem 98 (by decide +kernel) (by decide +kernel), fun _ h => absurd h List.not_mem_nil⟩⟩⟩⟩)), List.forall_mem_cons.mpr ⟨
  (gs_aload_n dX10_copyFrom_53 rfl), List.forall_mem_cons.mpr ⟨
  (gs_gf (ref := "GriefCranes$Yard") dX10_copyFrom_54 (gx_mem 314 (by decide +kernel) (by decide +kernel)) (Or.inl rfl) gf_10_6), List.forall_mem_cons.mpr ⟨
  (gs_iconst dX10_copyFrom_57 rfl), List.forall_mem_cons.mpr ⟨
  (gs_aload_n dX10_copyFrom_58 rfl), fun _ h => absurd h List.not_mem_nil⟩⟩⟩⟩⟩⟩⟩⟩⟩⟩⟩⟩⟩⟩⟩⟩⟩⟩⟩⟩⟩⟩⟩⟩⟩⟩⟩⟩⟩⟩⟩⟩
set_option maxRecDepth 20000 in
theorem kt_X10_copyFrom_1 (g : gx_T) : ∀ q ∈ k_X10_copyFrom_1, gx_E g gc_md RX10 cX10_copyFrom 3 (none) "copyFrom" q.1 q.2 := List.forall_mem_cons.mpr ⟨(gs_gf (ref := "GriefCranes$Yard") dX10_copyFrom_59 (gx_mem 314 (by decide +kernel) (by decide +kernel)) (Or.inl rfl) gf_10_6), List.forall_mem_cons.mpr ⟨
  (gs_iconst dX10_copyFrom_62 rfl), List.forall_mem_cons.mpr ⟨
  (gs_bipush dX10_copyFrom_63 rfl), List.forall_mem_cons.mpr ⟨
  (gs_cpI dX10_copyFrom_65 (List.forall_mem_cons.mpr ⟨gx_mem 514 (by decide +kernel) (by decide +kernel), List.forall_mem_cons.mpr ⟨gx_mem 516 (by decide +kernel) (by decide +kernel), List.forall_mem_cons.mpr ⟨gx_mem 515 (by decide +kernel) (by decide +kernel), List.forall_mem_cons.mpr ⟨gx_mem 98 (by decide +kernel) (by decide +kernel), fun _ h => absurd h List.not_mem_nil⟩⟩⟩⟩)), List.forall_mem_cons.mpr ⟨
  (gs_aload_n dX10_copyFrom_68 rfl), List.forall_mem_cons.mpr ⟨
  (gs_gf (ref := "GriefCranes$Yard") dX10_copyFrom_69 (gx_mem 318 (by decide +kernel) (by decide +kernel)) (Or.inl rfl) gf_10_7), List.forall_mem_cons.mpr ⟨
  (gs_iconst dX10_copyFrom_72 rfl), List.forall_mem_cons.mpr ⟨
  (gs_aload_n dX10_copyFrom_73 rfl), List.forall_mem_cons.mpr ⟨
  (gs_gf (ref := "GriefCranes$Yard") dX10_copyFrom_74 (gx_mem 318 (by decide +kernel) (by decide +kernel)) (Or.inl rfl) gf_10_7), List.forall_mem_cons.mpr ⟨
  (gs_iconst dX10_copyFrom_77 rfl), List.forall_mem_cons.mpr ⟨
  (gs_bipush dX10_copyFrom_78 rfl), List.forall_mem_cons.mpr ⟨
  (gs_cpI dX10_copyFrom_80 (List.forall_mem_cons.mpr ⟨gx_mem 514 (by decide +kernel) (by decide +kernel), List.forall_mem_cons.mpr ⟨gx_mem 516 (by decide +kernel) (by decide +kernel), List.forall_mem_cons.mpr ⟨gx_mem 515 (by decide +kernel) (by decide +kernel), List.forall_mem_cons.mpr ⟨gx_mem 98 (by decide +kernel) (by decide +kernel), fun _ h => absurd h List.not_mem_nil⟩⟩⟩⟩)), List.forall_mem_cons.mpr ⟨
  (gs_iconst dX10_copyFrom_83 rfl), List.forall_mem_cons.mpr ⟨
  (gs_istore_n dX10_copyFrom_84 rfl), List.forall_mem_cons.mpr ⟨
  (gs_iload_n dX10_copyFrom_85 rfl), List.forall_mem_cons.mpr ⟨
  (gs_aload_n dX10_copyFrom_86 rfl), List.forall_mem_cons.mpr ⟨
  (gs_gf (ref := "GriefCranes$Yard") dX10_copyFrom_87 (gx_mem 310 (by decide +kernel) (by decide +kernel)) (Or.inl rfl) gf_10_4), List.forall_mem_cons.mpr ⟨
  (gs_icmp_ge dX10_copyFrom_90 rfl), List.forall_mem_cons.mpr ⟨
  (gs_aload_n dX10_copyFrom_93 rfl), List.forall_mem_cons.mpr ⟨
  (gs_gf (ref := "GriefCranes$Yard") dX10_copyFrom_94 (gx_mem 321 (by decide +kernel) (by decide +kernel)) (Or.inl rfl) gf_10_8), List.forall_mem_cons.mpr ⟨
  (gs_iload_n dX10_copyFrom_97 rfl), List.forall_mem_cons.mpr ⟨
  (gs_aaload (by decide) dX10_copyFrom_98), List.forall_mem_cons.mpr ⟨
  (gs_iconst dX10_copyFrom_99 rfl), List.forall_mem_cons.mpr ⟨
  (gs_aload_n dX10_copyFrom_100 rfl), List.forall_mem_cons.mpr ⟨
  (gs_gf (ref := "GriefCranes$Yard") dX10_copyFrom_101 (gx_mem 321 (by decide +kernel) (by decide +kernel)) (Or.inl rfl) gf_10_8), List.forall_mem_cons.mpr ⟨
  (gs_iload_n dX10_copyFrom_104 rfl), List.forall_mem_cons.mpr ⟨
  (gs_aaload (by decide) dX10_copyFrom_105), List.forall_mem_cons.mpr ⟨
  (gs_iconst dX10_copyFrom_106 rfl), List.forall_mem_cons.mpr ⟨
  (gs_iconst dX10_copyFrom_107 rfl), List.forall_mem_cons.mpr ⟨
  (gs_cpI dX10_copyFrom_108 (List.forall_mem_cons.mpr ⟨gx_mem 514 (by decide +kernel) (by decide +kernel), List.forall_mem_cons.mpr ⟨gx_mem 516 (by decide +kernel) (by decide +kernel), List.forall_mem_cons.mpr ⟨gx_mem 515 (by decide +kernel) (by decide +kernel), List.forall_mem_cons.mpr ⟨gx_mem 98 (by decide +kernel) (by decide +kernel), fun _ h => absurd h List.not_mem_nil⟩⟩⟩⟩)), List.forall_mem_cons.mpr ⟨
  (gs_iinc dX10_copyFrom_111), List.forall_mem_cons.mpr ⟨
  (gs_goto dX10_copyFrom_114 rfl), fun _ h => absurd h List.not_mem_nil⟩⟩⟩⟩⟩⟩⟩⟩⟩⟩⟩⟩⟩⟩⟩⟩⟩⟩⟩⟩⟩⟩⟩⟩⟩⟩⟩⟩⟩⟩⟩⟩
set_option maxRecDepth 20000 in
theorem kt_X10_copyFrom_2 (g : gx_T) : ∀ q ∈ k_X10_copyFrom_2, gx_E g gc_md RX10 cX10_copyFrom 3 (none) "copyFrom" q.1 q.2 := List.forall_mem_cons.mpr ⟨(gs_aload_n dX10_copyFrom_117 rfl), List.forall_mem_cons.mpr ⟨
  (gs_aload_n dX10_copyFrom_118 rfl), List.forall_mem_cons.mpr ⟨
  (gs_gf (ref := "GriefCranes$Yard") dX10_copyFrom_119 (gx_mem 324 (by decide +kernel) (by decide +kernel)) (Or.inl rfl) gf_10_9), List.forall_mem_cons.mpr ⟨
  (gs_pf (ref := "GriefCranes$Yard") dX10_copyFrom_122 (gx_mem 324 (by decide +kernel) (by decide +kernel)) (Or.inl rfl) gf_10_9 (by decide +kernel)), List.forall_mem_cons.mpr ⟨
  (gs_aload_n dX10_copyFrom_125 rfl), List.forall_mem_cons.mpr ⟨
  (gs_gf (ref := "GriefCranes$Yard") dX10_copyFrom_126 (gx_mem 326 (by decide +kernel) (by decide +kernel)) (Or.inl rfl) gf_10_10), List.forall_mem_cons.mpr ⟨
  (gs_iconst dX10_copyFrom_129 rfl), List.forall_mem_cons.mpr ⟨
  (gs_aload_n dX10_copyFrom_130 rfl), List.forall_mem_cons.mpr ⟨
  (gs_gf (ref := "GriefCranes$Yard") dX10_copyFrom_131 (gx_mem 326 (by decide +kernel) (by decide +kernel)) (Or.inl rfl) gf_10_10), List.forall_mem_cons.mpr ⟨
  (gs_iconst dX10_copyFrom_134 rfl), List.forall_mem_cons.mpr ⟨
  (gs_bipush dX10_copyFrom_135 rfl), List.forall_mem_cons.mpr ⟨
  (gs_cpI dX10_copyFrom_137 (List.forall_mem_cons.mpr ⟨gx_mem 514 (by decide +kernel) (by decide +kernel), List.forall_mem_cons.mpr ⟨gx_mem 516 (by decide +kernel) (by decide +kernel), List.forall_mem_cons.mpr ⟨gx_mem 515 (by decide +kernel) (by decide +kernel), List.forall_mem_cons.mpr ⟨gx_mem 98 (by decide +kernel) (by decide +kernel), fun _ h => absurd h List.not_mem_nil⟩⟩⟩⟩)), List.forall_mem_cons.mpr ⟨
  (gs_aload_n dX10_copyFrom_140 rfl), List.forall_mem_cons.mpr ⟨
  (gs_gf (ref := "GriefCranes$Yard") dX10_copyFrom_141 (gx_mem 329 (by decide +kernel) (by decide +kernel)) (Or.inl rfl) gf_10_11), List.forall_mem_cons.mpr ⟨
  (gs_iconst dX10_copyFrom_144 rfl), List.forall_mem_cons.mpr ⟨
  (gs_aload_n dX10_copyFrom_145 rfl), List.forall_mem_cons.mpr ⟨
  (gs_gf (ref := "GriefCranes$Yard") dX10_copyFrom_146 (gx_mem 329 (by decide +kernel) (by decide +kernel)) (Or.inl rfl) gf_10_11), List.forall_mem_cons.mpr ⟨
  (gs_iconst dX10_copyFrom_149 rfl), List.forall_mem_cons.mpr ⟨
  (gs_bipush dX10_copyFrom_150 rfl), List.forall_mem_cons.mpr ⟨
  (gs_cpI dX10_copyFrom_152 (List.forall_mem_cons.mpr ⟨gx_mem 514 (by decide +kernel) (by decide +kernel), List.forall_mem_cons.mpr ⟨gx_mem 516 (by decide +kernel) (by decide +kernel), List.forall_mem_cons.mpr ⟨gx_mem 515 (by decide +kernel) (by decide +kernel), List.forall_mem_cons.mpr ⟨gx_mem 98 (by decide +kernel) (by decide +kernel), fun _ h => absurd h List.not_mem_nil⟩⟩⟩⟩)), List.forall_mem_cons.mpr ⟨
  (gs_aload_n dX10_copyFrom_155 rfl), List.forall_mem_cons.mpr ⟨
  (gs_gf (ref := "GriefCranes$Yard") dX10_copyFrom_156 (gx_mem 331 (by decide +kernel) (by decide +kernel)) (Or.inl rfl) gf_10_12), List.forall_mem_cons.mpr ⟨
  (gs_iconst dX10_copyFrom_159 rfl), List.forall_mem_cons.mpr ⟨
  (gs_aload_n dX10_copyFrom_160 rfl), List.forall_mem_cons.mpr ⟨
  (gs_gf (ref := "GriefCranes$Yard") dX10_copyFrom_161 (gx_mem 331 (by decide +kernel) (by decide +kernel)) (Or.inl rfl) gf_10_12), List.forall_mem_cons.mpr ⟨
  (gs_iconst dX10_copyFrom_164 rfl), List.forall_mem_cons.mpr ⟨
  (gs_bipush dX10_copyFrom_165 rfl), List.forall_mem_cons.mpr ⟨
  (gs_cpI dX10_copyFrom_167 (List.forall_mem_cons.mpr ⟨gx_mem 514 (by decide +kernel) (by decide +kernel), List.forall_mem_cons.mpr ⟨gx_mem 516 (by decide +kernel) (by decide +kernel), List.forall_mem_cons.mpr ⟨gx_mem 515 (by decide +kernel) (by decide +kernel), List.forall_mem_cons.mpr ⟨gx_mem 98 (by decide +kernel) (by decide +kernel), fun _ h => absurd h List.not_mem_nil⟩⟩⟩⟩)), List.forall_mem_cons.mpr ⟨
  (gs_aload_n dX10_copyFrom_170 rfl), List.forall_mem_cons.mpr ⟨
  (gs_gf (ref := "GriefCranes$Yard") dX10_copyFrom_171 (gx_mem 333 (by decide +kernel) (by decide +kernel)) (Or.inl rfl) gf_10_13), List.forall_mem_cons.mpr ⟨
  (gs_iconst dX10_copyFrom_174 rfl), List.forall_mem_cons.mpr ⟨
  (gs_aload_n dX10_copyFrom_175 rfl), fun _ h => absurd h List.not_mem_nil⟩⟩⟩⟩⟩⟩⟩⟩⟩⟩⟩⟩⟩⟩⟩⟩⟩⟩⟩⟩⟩⟩⟩⟩⟩⟩⟩⟩⟩⟩⟩⟩
set_option maxRecDepth 20000 in
theorem kt_X10_copyFrom_3 (g : gx_T) : ∀ q ∈ k_X10_copyFrom_3, gx_E g gc_md RX10 cX10_copyFrom 3 (none) "copyFrom" q.1 q.2 := List.forall_mem_cons.mpr ⟨(gs_gf (ref := "GriefCranes$Yard") dX10_copyFrom_176 (gx_mem 333 (by decide +kernel) (by decide +kernel)) (Or.inl rfl) gf_10_13), List.forall_mem_cons.mpr ⟨
  (gs_iconst dX10_copyFrom_179 rfl), List.forall_mem_cons.mpr ⟨
  (gs_bipush dX10_copyFrom_180 rfl), List.forall_mem_cons.mpr ⟨
  (gs_cpI dX10_copyFrom_182 (List.forall_mem_cons.mpr ⟨gx_mem 514 (by decide +kernel) (by decide +kernel), List.forall_mem_cons.mpr ⟨gx_mem 516 (by decide +kernel) (by decide +kernel), List.forall_mem_cons.mpr ⟨gx_mem 515 (by decide +kernel) (by decide +kernel), List.forall_mem_cons.mpr ⟨gx_mem 98 (by decide +kernel) (by decide +kernel), fun _ h => absurd h List.not_mem_nil⟩⟩⟩⟩)), List.forall_mem_cons.mpr ⟨
  (gs_aload_n dX10_copyFrom_185 rfl), List.forall_mem_cons.mpr ⟨
  (gs_gf (ref := "GriefCranes$Yard") dX10_copyFrom_186 (gx_mem 335 (by decide +kernel) (by decide +kernel)) (Or.inl rfl) gf_10_14), List.forall_mem_cons.mpr ⟨
  (gs_iconst dX10_copyFrom_189 rfl), List.forall_mem_cons.mpr ⟨
  (gs_aload_n dX10_copyFrom_190 rfl), List.forall_mem_cons.mpr ⟨
  (gs_gf (ref := "GriefCranes$Yard") dX10_copyFrom_191 (gx_mem 335 (by decide +kernel) (by decide +kernel)) (Or.inl rfl) gf_10_14), List.forall_mem_cons.mpr ⟨
  (gs_iconst dX10_copyFrom_194 rfl), List.forall_mem_cons.mpr ⟨
  (gs_bipush dX10_copyFrom_195 rfl), List.forall_mem_cons.mpr ⟨
  (gs_cpI dX10_copyFrom_197 (List.forall_mem_cons.mpr ⟨gx_mem 514 (by decide +kernel) (by decide +kernel), List.forall_mem_cons.mpr ⟨gx_mem 516 (by decide +kernel) (by decide +kernel), List.forall_mem_cons.mpr ⟨gx_mem 515 (by decide +kernel) (by decide +kernel), List.forall_mem_cons.mpr ⟨gx_mem 98 (by decide +kernel) (by decide +kernel), fun _ h => absurd h List.not_mem_nil⟩⟩⟩⟩)), List.forall_mem_cons.mpr ⟨
  (gs_rv dX10_copyFrom_200), fun _ h => absurd h List.not_mem_nil⟩⟩⟩⟩⟩⟩⟩⟩⟩⟩⟩⟩⟩
theorem kt_X10_copyFrom (g : gx_T) : ∀ q ∈ k_X10_copyFrom, gx_E g gc_md RX10 cX10_copyFrom 3 (none) "copyFrom" q.1 q.2 := List.forall_mem_append.mpr ⟨kt_X10_copyFrom_0 g, List.forall_mem_append.mpr ⟨kt_X10_copyFrom_1 g, List.forall_mem_append.mpr ⟨kt_X10_copyFrom_2 g, kt_X10_copyFrom_3 g⟩⟩⟩
set_option maxRecDepth 20000 in
theorem dX10_howMany_0 : decode cX10_howMany 0 = .ok (.aload_n 0, 1) := by decide +kernel
set_option maxRecDepth 20000 in
theorem dX10_howMany_1 : decode cX10_howMany 1 = .ok (.iload_n 1, 1) := by decide +kernel
set_option maxRecDepth 20000 in
theorem dX10_howMany_2 : decode cX10_howMany 2 = .ok (.invokevirtual 81, 3) := by decide +kernel
set_option maxRecDepth 20000 in
theorem dX10_howMany_5 : decode cX10_howMany 5 = .ok (.invokestatic 85, 3) := by decide +kernel
set_option maxRecDepth 20000 in
theorem dX10_howMany_8 : decode cX10_howMany 8 = .ok (.ireturn, 1) := by decide +kernel
set_option maxRecDepth 20000 in
theorem kt_X10_howMany_0 (g : gx_T) : ∀ q ∈ k_X10_howMany_0, gx_E g gc_md RX10 cX10_howMany 2 (some .int) "howMany" q.1 q.2 := List.forall_mem_cons.mpr ⟨(gs_aload_n dX10_howMany_0 rfl), List.forall_mem_cons.mpr ⟨
  (gs_iload_n dX10_howMany_1 rfl), List.forall_mem_cons.mpr ⟨
  (gs_cv dX10_howMany_2 (fun q hq => by
      simp only [List.mem_cons, List.not_mem_nil, or_false] at hq
      subst hq
      exact Or.inl ⟨_, rfl, by decide, by decide +kernel, by decide +kernel, List.forall_mem_cons.mpr ⟨gx_mem 753 (by decide +kernel) (by decide +kernel), List.forall_mem_cons.mpr ⟨gx_mem 738 (by decide +kernel) (by decide +kernel), List.forall_mem_cons.mpr ⟨gx_mem 739 (by decide +kernel) (by decide +kernel), List.forall_mem_cons.mpr ⟨gx_mem 95 (by decide +kernel) (by decide +kernel), List.forall_mem_cons.mpr ⟨cw_740, fun _ h => absurd h List.not_mem_nil⟩⟩⟩⟩⟩⟩)), List.forall_mem_cons.mpr ⟨
  (gs_cs dX10_howMany_5 (md_216) (List.forall_mem_cons.mpr ⟨gx_mem 754 (by decide +kernel) (by decide +kernel), List.forall_mem_cons.mpr ⟨gx_mem 755 (by decide +kernel) (by decide +kernel), List.forall_mem_cons.mpr ⟨gx_mem 104 (by decide +kernel) (by decide +kernel), List.forall_mem_cons.mpr ⟨cw_756, fun _ h => absurd h List.not_mem_nil⟩⟩⟩⟩) (by decide +kernel) (by decide)), List.forall_mem_cons.mpr ⟨
  (gs_ri dX10_howMany_8), fun _ h => absurd h List.not_mem_nil⟩⟩⟩⟩⟩
theorem kt_X10_howMany (g : gx_T) : ∀ q ∈ k_X10_howMany, gx_E g gc_md RX10 cX10_howMany 2 (some .int) "howMany" q.1 q.2 := kt_X10_howMany_0 g
set_option maxRecDepth 20000 in
theorem dX10_bitsOf_0 : decode cX10_bitsOf 0 = .ok (.iconst 0, 1) := by decide +kernel
set_option maxRecDepth 20000 in
theorem dX10_bitsOf_1 : decode cX10_bitsOf 1 = .ok (.istore_n 2, 1) := by decide +kernel
set_option maxRecDepth 20000 in
theorem dX10_bitsOf_2 : decode cX10_bitsOf 2 = .ok (.iconst 0, 1) := by decide +kernel
set_option maxRecDepth 20000 in
theorem dX10_bitsOf_3 : decode cX10_bitsOf 3 = .ok (.istore_n 3, 1) := by decide +kernel
set_option maxRecDepth 20000 in
theorem dX10_bitsOf_4 : decode cX10_bitsOf 4 = .ok (.iload_n 3, 1) := by decide +kernel
set_option maxRecDepth 20000 in
theorem dX10_bitsOf_5 : decode cX10_bitsOf 5 = .ok (.aload_n 0, 1) := by decide +kernel
set_option maxRecDepth 20000 in
theorem dX10_bitsOf_6 : decode cX10_bitsOf 6 = .ok (.getfield 36, 3) := by decide +kernel
set_option maxRecDepth 20000 in
theorem dX10_bitsOf_9 : decode cX10_bitsOf 9 = .ok (.if_icmp .ge 25, 3) := by decide +kernel
set_option maxRecDepth 20000 in
theorem dX10_bitsOf_12 : decode cX10_bitsOf 12 = .ok (.aload_n 0, 1) := by decide +kernel
set_option maxRecDepth 20000 in
theorem dX10_bitsOf_13 : decode cX10_bitsOf 13 = .ok (.getfield 45, 3) := by decide +kernel
set_option maxRecDepth 20000 in
theorem dX10_bitsOf_16 : decode cX10_bitsOf 16 = .ok (.iload_n 3, 1) := by decide +kernel
set_option maxRecDepth 20000 in
theorem dX10_bitsOf_17 : decode cX10_bitsOf 17 = .ok (.iaload, 1) := by decide +kernel
set_option maxRecDepth 20000 in
theorem dX10_bitsOf_18 : decode cX10_bitsOf 18 = .ok (.iload_n 1, 1) := by decide +kernel
set_option maxRecDepth 20000 in
theorem dX10_bitsOf_19 : decode cX10_bitsOf 19 = .ok (.if_icmp .ne 9, 3) := by decide +kernel
set_option maxRecDepth 20000 in
theorem dX10_bitsOf_22 : decode cX10_bitsOf 22 = .ok (.iload_n 2, 1) := by decide +kernel
set_option maxRecDepth 20000 in
theorem dX10_bitsOf_23 : decode cX10_bitsOf 23 = .ok (.iconst 1, 1) := by decide +kernel
set_option maxRecDepth 20000 in
theorem dX10_bitsOf_24 : decode cX10_bitsOf 24 = .ok (.iload_n 3, 1) := by decide +kernel
set_option maxRecDepth 20000 in
theorem dX10_bitsOf_25 : decode cX10_bitsOf 25 = .ok (.ishl, 1) := by decide +kernel
set_option maxRecDepth 20000 in
theorem dX10_bitsOf_26 : decode cX10_bitsOf 26 = .ok (.ior, 1) := by decide +kernel
set_option maxRecDepth 20000 in
theorem dX10_bitsOf_27 : decode cX10_bitsOf 27 = .ok (.istore_n 2, 1) := by decide +kernel
set_option maxRecDepth 20000 in
theorem dX10_bitsOf_28 : decode cX10_bitsOf 28 = .ok (.iinc 3 1, 3) := by decide +kernel
set_option maxRecDepth 20000 in
theorem dX10_bitsOf_31 : decode cX10_bitsOf 31 = .ok (.goto (-27), 3) := by decide +kernel
set_option maxRecDepth 20000 in
theorem dX10_bitsOf_34 : decode cX10_bitsOf 34 = .ok (.iload_n 2, 1) := by decide +kernel
set_option maxRecDepth 20000 in
theorem dX10_bitsOf_35 : decode cX10_bitsOf 35 = .ok (.ireturn, 1) := by decide +kernel
set_option maxRecDepth 20000 in
theorem kt_X10_bitsOf_0 (g : gx_T) : ∀ q ∈ k_X10_bitsOf_0, gx_E g gc_md RX10 cX10_bitsOf 4 (some .int) "bitsOf" q.1 q.2 := List.forall_mem_cons.mpr ⟨(gs_iconst dX10_bitsOf_0 rfl), List.forall_mem_cons.mpr ⟨
  (gs_istore_n dX10_bitsOf_1 rfl), List.forall_mem_cons.mpr ⟨
  (gs_iconst dX10_bitsOf_2 rfl), List.forall_mem_cons.mpr ⟨
  (gs_istore_n dX10_bitsOf_3 rfl), List.forall_mem_cons.mpr ⟨
  (gs_iload_n dX10_bitsOf_4 rfl), List.forall_mem_cons.mpr ⟨
  (gs_aload_n dX10_bitsOf_5 rfl), List.forall_mem_cons.mpr ⟨
  (gs_gf (ref := "GriefCranes$Yard") dX10_bitsOf_6 (gx_mem 324 (by decide +kernel) (by decide +kernel)) (Or.inl rfl) gf_10_9), List.forall_mem_cons.mpr ⟨
  (gs_icmp_ge dX10_bitsOf_9 rfl), List.forall_mem_cons.mpr ⟨
  (gs_aload_n dX10_bitsOf_12 rfl), List.forall_mem_cons.mpr ⟨
  (gs_gf (ref := "GriefCranes$Yard") dX10_bitsOf_13 (gx_mem 331 (by decide +kernel) (by decide +kernel)) (Or.inl rfl) gf_10_12), List.forall_mem_cons.mpr ⟨
  (gs_iload_n dX10_bitsOf_16 rfl), List.forall_mem_cons.mpr ⟨
  (gs_iaload dX10_bitsOf_17), List.forall_mem_cons.mpr ⟨
  (gs_iload_n dX10_bitsOf_18 rfl), List.forall_mem_cons.mpr ⟨
  (gs_icmp_ne dX10_bitsOf_19 rfl), List.forall_mem_cons.mpr ⟨
  (gs_iload_n dX10_bitsOf_22 rfl), List.forall_mem_cons.mpr ⟨
  (gs_iconst dX10_bitsOf_23 rfl), List.forall_mem_cons.mpr ⟨
  (gs_iload_n dX10_bitsOf_24 rfl), List.forall_mem_cons.mpr ⟨
  (gs_ishl dX10_bitsOf_25), List.forall_mem_cons.mpr ⟨
  (gs_ior dX10_bitsOf_26), List.forall_mem_cons.mpr ⟨
  (gs_istore_n dX10_bitsOf_27 rfl), List.forall_mem_cons.mpr ⟨
  (gs_iinc dX10_bitsOf_28), List.forall_mem_cons.mpr ⟨
  (gs_goto dX10_bitsOf_31 rfl), List.forall_mem_cons.mpr ⟨
  (gs_iload_n dX10_bitsOf_34 rfl), List.forall_mem_cons.mpr ⟨
  (gs_ri dX10_bitsOf_35), fun _ h => absurd h List.not_mem_nil⟩⟩⟩⟩⟩⟩⟩⟩⟩⟩⟩⟩⟩⟩⟩⟩⟩⟩⟩⟩⟩⟩⟩⟩
theorem kt_X10_bitsOf (g : gx_T) : ∀ q ∈ k_X10_bitsOf, gx_E g gc_md RX10 cX10_bitsOf 4 (some .int) "bitsOf" q.1 q.2 := kt_X10_bitsOf_0 g
set_option maxRecDepth 20000 in
theorem dX10_hungBy_0 : decode cX10_hungBy 0 = .ok (.iconst 0, 1) := by decide +kernel
set_option maxRecDepth 20000 in
theorem dX10_hungBy_1 : decode cX10_hungBy 1 = .ok (.istore_n 2, 1) := by decide +kernel
set_option maxRecDepth 20000 in
theorem dX10_hungBy_2 : decode cX10_hungBy 2 = .ok (.iload_n 2, 1) := by decide +kernel
set_option maxRecDepth 20000 in
theorem dX10_hungBy_3 : decode cX10_hungBy 3 = .ok (.aload_n 0, 1) := by decide +kernel
set_option maxRecDepth 20000 in
theorem dX10_hungBy_4 : decode cX10_hungBy 4 = .ok (.getfield 36, 3) := by decide +kernel
set_option maxRecDepth 20000 in
theorem dX10_hungBy_7 : decode cX10_hungBy 7 = .ok (.if_icmp .ge 31, 3) := by decide +kernel
set_option maxRecDepth 20000 in
theorem dX10_hungBy_10 : decode cX10_hungBy 10 = .ok (.aload_n 0, 1) := by decide +kernel
set_option maxRecDepth 20000 in
theorem dX10_hungBy_11 : decode cX10_hungBy 11 = .ok (.getfield 45, 3) := by decide +kernel
set_option maxRecDepth 20000 in
theorem dX10_hungBy_14 : decode cX10_hungBy 14 = .ok (.iload_n 2, 1) := by decide +kernel
set_option maxRecDepth 20000 in
theorem dX10_hungBy_15 : decode cX10_hungBy 15 = .ok (.iaload, 1) := by decide +kernel
set_option maxRecDepth 20000 in
theorem dX10_hungBy_16 : decode cX10_hungBy 16 = .ok (.iconst 1, 1) := by decide +kernel
set_option maxRecDepth 20000 in
theorem dX10_hungBy_17 : decode cX10_hungBy 17 = .ok (.if_icmp .ne 15, 3) := by decide +kernel
set_option maxRecDepth 20000 in
theorem dX10_hungBy_20 : decode cX10_hungBy 20 = .ok (.aload_n 0, 1) := by decide +kernel
set_option maxRecDepth 20000 in
theorem dX10_hungBy_21 : decode cX10_hungBy 21 = .ok (.getfield 42, 3) := by decide +kernel
set_option maxRecDepth 20000 in
theorem dX10_hungBy_24 : decode cX10_hungBy 24 = .ok (.iload_n 2, 1) := by decide +kernel
set_option maxRecDepth 20000 in
theorem dX10_hungBy_25 : decode cX10_hungBy 25 = .ok (.iaload, 1) := by decide +kernel
set_option maxRecDepth 20000 in
theorem dX10_hungBy_26 : decode cX10_hungBy 26 = .ok (.iload_n 1, 1) := by decide +kernel
set_option maxRecDepth 20000 in
theorem dX10_hungBy_27 : decode cX10_hungBy 27 = .ok (.if_icmp .ne 5, 3) := by decide +kernel
set_option maxRecDepth 20000 in
theorem dX10_hungBy_30 : decode cX10_hungBy 30 = .ok (.iload_n 2, 1) := by decide +kernel
set_option maxRecDepth 20000 in
theorem dX10_hungBy_31 : decode cX10_hungBy 31 = .ok (.ireturn, 1) := by decide +kernel
set_option maxRecDepth 20000 in
theorem dX10_hungBy_32 : decode cX10_hungBy 32 = .ok (.iinc 2 1, 3) := by decide +kernel
set_option maxRecDepth 20000 in
theorem dX10_hungBy_35 : decode cX10_hungBy 35 = .ok (.goto (-33), 3) := by decide +kernel
set_option maxRecDepth 20000 in
theorem dX10_hungBy_38 : decode cX10_hungBy 38 = .ok (.iconst (-1), 1) := by decide +kernel
set_option maxRecDepth 20000 in
theorem dX10_hungBy_39 : decode cX10_hungBy 39 = .ok (.ireturn, 1) := by decide +kernel
set_option maxRecDepth 20000 in
theorem kt_X10_hungBy_0 (g : gx_T) : ∀ q ∈ k_X10_hungBy_0, gx_E g gc_md RX10 cX10_hungBy 3 (some .int) "hungBy" q.1 q.2 := List.forall_mem_cons.mpr ⟨(gs_iconst dX10_hungBy_0 rfl), List.forall_mem_cons.mpr ⟨
  (gs_istore_n dX10_hungBy_1 rfl), List.forall_mem_cons.mpr ⟨
  (gs_iload_n dX10_hungBy_2 rfl), List.forall_mem_cons.mpr ⟨
  (gs_aload_n dX10_hungBy_3 rfl), List.forall_mem_cons.mpr ⟨
  (gs_gf (ref := "GriefCranes$Yard") dX10_hungBy_4 (gx_mem 324 (by decide +kernel) (by decide +kernel)) (Or.inl rfl) gf_10_9), List.forall_mem_cons.mpr ⟨
  (gs_icmp_ge dX10_hungBy_7 rfl), List.forall_mem_cons.mpr ⟨
  (gs_aload_n dX10_hungBy_10 rfl), List.forall_mem_cons.mpr ⟨
  (gs_gf (ref := "GriefCranes$Yard") dX10_hungBy_11 (gx_mem 331 (by decide +kernel) (by decide +kernel)) (Or.inl rfl) gf_10_12), List.forall_mem_cons.mpr ⟨
  (gs_iload_n dX10_hungBy_14 rfl), List.forall_mem_cons.mpr ⟨
  (gs_iaload dX10_hungBy_15), List.forall_mem_cons.mpr ⟨
  (gs_iconst dX10_hungBy_16 rfl), List.forall_mem_cons.mpr ⟨
  (gs_icmp_ne dX10_hungBy_17 rfl), List.forall_mem_cons.mpr ⟨
  (gs_aload_n dX10_hungBy_20 rfl), List.forall_mem_cons.mpr ⟨
  (gs_gf (ref := "GriefCranes$Yard") dX10_hungBy_21 (gx_mem 329 (by decide +kernel) (by decide +kernel)) (Or.inl rfl) gf_10_11), List.forall_mem_cons.mpr ⟨
  (gs_iload_n dX10_hungBy_24 rfl), List.forall_mem_cons.mpr ⟨
  (gs_iaload dX10_hungBy_25), List.forall_mem_cons.mpr ⟨
  (gs_iload_n dX10_hungBy_26 rfl), List.forall_mem_cons.mpr ⟨
  (gs_icmp_ne dX10_hungBy_27 rfl), List.forall_mem_cons.mpr ⟨
  (gs_iload_n dX10_hungBy_30 rfl), List.forall_mem_cons.mpr ⟨
  (gs_ri dX10_hungBy_31), List.forall_mem_cons.mpr ⟨
  (gs_iinc dX10_hungBy_32), List.forall_mem_cons.mpr ⟨
  (gs_goto dX10_hungBy_35 rfl), List.forall_mem_cons.mpr ⟨
  (gs_iconst dX10_hungBy_38 rfl), List.forall_mem_cons.mpr ⟨
  (gs_ri dX10_hungBy_39), fun _ h => absurd h List.not_mem_nil⟩⟩⟩⟩⟩⟩⟩⟩⟩⟩⟩⟩⟩⟩⟩⟩⟩⟩⟩⟩⟩⟩⟩⟩
theorem kt_X10_hungBy (g : gx_T) : ∀ q ∈ k_X10_hungBy, gx_E g gc_md RX10 cX10_hungBy 3 (some .int) "hungBy" q.1 q.2 := kt_X10_hungBy_0 g
set_option maxRecDepth 20000 in
theorem dX10_power_0 : decode cX10_power 0 = .ok (.aload_n 0, 1) := by decide +kernel
set_option maxRecDepth 20000 in
theorem dX10_power_1 : decode cX10_power 1 = .ok (.getfield 22, 3) := by decide +kernel
set_option maxRecDepth 20000 in
theorem dX10_power_4 : decode cX10_power 4 = .ok (.iload_n 1, 1) := by decide +kernel
set_option maxRecDepth 20000 in
theorem dX10_power_5 : decode cX10_power 5 = .ok (.iaload, 1) := by decide +kernel
set_option maxRecDepth 20000 in
theorem dX10_power_6 : decode cX10_power 6 = .ok (.istore_n 3, 1) := by decide +kernel
set_option maxRecDepth 20000 in
theorem dX10_power_7 : decode cX10_power 7 = .ok (.aload_n 0, 1) := by decide +kernel
set_option maxRecDepth 20000 in
theorem dX10_power_8 : decode cX10_power 8 = .ok (.getfield 56, 3) := by decide +kernel
set_option maxRecDepth 20000 in
theorem dX10_power_11 : decode cX10_power 11 = .ok (.iconst 0, 1) := by decide +kernel
set_option maxRecDepth 20000 in
theorem dX10_power_12 : decode cX10_power 12 = .ok (.iload_n 1, 1) := by decide +kernel
set_option maxRecDepth 20000 in
theorem dX10_power_13 : decode cX10_power 13 = .ok (.iastore, 1) := by decide +kernel
set_option maxRecDepth 20000 in
theorem dX10_power_14 : decode cX10_power 14 = .ok (.aload_n 0, 1) := by decide +kernel
set_option maxRecDepth 20000 in
theorem dX10_power_15 : decode cX10_power 15 = .ok (.getfield 56, 3) := by decide +kernel
set_option maxRecDepth 20000 in
theorem dX10_power_18 : decode cX10_power 18 = .ok (.iconst 1, 1) := by decide +kernel
set_option maxRecDepth 20000 in
theorem dX10_power_19 : decode cX10_power 19 = .ok (.iload_n 3, 1) := by decide +kernel
set_option maxRecDepth 20000 in
theorem dX10_power_20 : decode cX10_power 20 = .ok (.iastore, 1) := by decide +kernel
set_option maxRecDepth 20000 in
theorem dX10_power_21 : decode cX10_power 21 = .ok (.aload_n 0, 1) := by decide +kernel
set_option maxRecDepth 20000 in
theorem dX10_power_22 : decode cX10_power 22 = .ok (.getfield 56, 3) := by decide +kernel
set_option maxRecDepth 20000 in
theorem dX10_power_25 : decode cX10_power 25 = .ok (.iconst 2, 1) := by decide +kernel
set_option maxRecDepth 20000 in
theorem dX10_power_26 : decode cX10_power 26 = .ok (.aload_n 0, 1) := by decide +kernel
set_option maxRecDepth 20000 in
theorem dX10_power_27 : decode cX10_power 27 = .ok (.getfield 25, 3) := by decide +kernel
set_option maxRecDepth 20000 in
theorem dX10_power_30 : decode cX10_power 30 = .ok (.iload_n 1, 1) := by decide +kernel
set_option maxRecDepth 20000 in
theorem dX10_power_31 : decode cX10_power 31 = .ok (.iaload, 1) := by decide +kernel
set_option maxRecDepth 20000 in
theorem dX10_power_32 : decode cX10_power 32 = .ok (.iastore, 1) := by decide +kernel
set_option maxRecDepth 20000 in
theorem dX10_power_33 : decode cX10_power 33 = .ok (.aload_n 0, 1) := by decide +kernel
set_option maxRecDepth 20000 in
theorem dX10_power_34 : decode cX10_power 34 = .ok (.getfield 56, 3) := by decide +kernel
set_option maxRecDepth 20000 in
theorem dX10_power_37 : decode cX10_power 37 = .ok (.iconst 3, 1) := by decide +kernel
set_option maxRecDepth 20000 in
theorem dX10_power_38 : decode cX10_power 38 = .ok (.iload_n 2, 1) := by decide +kernel
set_option maxRecDepth 20000 in
theorem dX10_power_39 : decode cX10_power 39 = .ok (.iastore, 1) := by decide +kernel
set_option maxRecDepth 20000 in
theorem dX10_power_40 : decode cX10_power 40 = .ok (.aload_n 0, 1) := by decide +kernel
set_option maxRecDepth 20000 in
theorem dX10_power_41 : decode cX10_power 41 = .ok (.getfield 56, 3) := by decide +kernel
set_option maxRecDepth 20000 in
theorem dX10_power_44 : decode cX10_power 44 = .ok (.iconst 4, 1) := by decide +kernel
set_option maxRecDepth 20000 in
theorem dX10_power_45 : decode cX10_power 45 = .ok (.aload_n 0, 1) := by decide +kernel
set_option maxRecDepth 20000 in
theorem dX10_power_46 : decode cX10_power 46 = .ok (.getfield 39, 3) := by decide +kernel
set_option maxRecDepth 20000 in
theorem dX10_power_49 : decode cX10_power 49 = .ok (.iload_n 2, 1) := by decide +kernel
set_option maxRecDepth 20000 in
theorem dX10_power_50 : decode cX10_power 50 = .ok (.iaload, 1) := by decide +kernel
set_option maxRecDepth 20000 in
theorem dX10_power_51 : decode cX10_power 51 = .ok (.bipush 10, 2) := by decide +kernel
set_option maxRecDepth 20000 in
theorem dX10_power_53 : decode cX10_power 53 = .ok (.idiv, 1) := by decide +kernel
set_option maxRecDepth 20000 in
theorem dX10_power_54 : decode cX10_power 54 = .ok (.iastore, 1) := by decide +kernel
set_option maxRecDepth 20000 in
theorem dX10_power_55 : decode cX10_power 55 = .ok (.aload_n 0, 1) := by decide +kernel
set_option maxRecDepth 20000 in
theorem dX10_power_56 : decode cX10_power 56 = .ok (.getfield 56, 3) := by decide +kernel
set_option maxRecDepth 20000 in
theorem dX10_power_59 : decode cX10_power 59 = .ok (.iconst 5, 1) := by decide +kernel
set_option maxRecDepth 20000 in
theorem dX10_power_60 : decode cX10_power 60 = .ok (.aload_n 0, 1) := by decide +kernel
set_option maxRecDepth 20000 in
theorem dX10_power_61 : decode cX10_power 61 = .ok (.getfield 9, 3) := by decide +kernel
set_option maxRecDepth 20000 in
theorem dX10_power_64 : decode cX10_power 64 = .ok (.bipush 10, 2) := by decide +kernel
set_option maxRecDepth 20000 in
theorem dX10_power_66 : decode cX10_power 66 = .ok (.irem, 1) := by decide +kernel
set_option maxRecDepth 20000 in
theorem dX10_power_67 : decode cX10_power 67 = .ok (.iastore, 1) := by decide +kernel
set_option maxRecDepth 20000 in
theorem dX10_power_68 : decode cX10_power 68 = .ok (.aload_n 0, 1) := by decide +kernel
set_option maxRecDepth 20000 in
theorem dX10_power_69 : decode cX10_power 69 = .ok (.getfield 59, 3) := by decide +kernel
set_option maxRecDepth 20000 in
theorem dX10_power_72 : decode cX10_power 72 = .ok (.iload_n 3, 1) := by decide +kernel
set_option maxRecDepth 20000 in
theorem dX10_power_73 : decode cX10_power 73 = .ok (.aaload, 1) := by decide +kernel
set_option maxRecDepth 20000 in
theorem dX10_power_74 : decode cX10_power 74 = .ok (.aload_n 0, 1) := by decide +kernel
set_option maxRecDepth 20000 in
theorem dX10_power_75 : decode cX10_power 75 = .ok (.getfield 63, 3) := by decide +kernel
set_option maxRecDepth 20000 in
theorem dX10_power_78 : decode cX10_power 78 = .ok (.aload_n 0, 1) := by decide +kernel
set_option maxRecDepth 20000 in
theorem dX10_power_79 : decode cX10_power 79 = .ok (.getfield 56, 3) := by decide +kernel
set_option maxRecDepth 20000 in
theorem dX10_power_82 : decode cX10_power 82 = .ok (.invokevirtual 90, 3) := by decide +kernel
set_option maxRecDepth 20000 in
theorem dX10_power_85 : decode cX10_power 85 = .ok (.aload_n 0, 1) := by decide +kernel
set_option maxRecDepth 20000 in
theorem dX10_power_86 : decode cX10_power 86 = .ok (.iload_n 1, 1) := by decide +kernel
set_option maxRecDepth 20000 in
theorem dX10_power_87 : decode cX10_power 87 = .ok (.iload_n 2, 1) := by decide +kernel
set_option maxRecDepth 20000 in
theorem dX10_power_88 : decode cX10_power 88 = .ok (.invokevirtual 94, 3) := by decide +kernel
set_option maxRecDepth 20000 in
theorem dX10_power_91 : decode cX10_power 91 = .ok (.ireturn, 1) := by decide +kernel
set_option maxRecDepth 20000 in
theorem kt_X10_power_0 (g : gx_T) : ∀ q ∈ k_X10_power_0, gx_E g gc_md RX10 cX10_power 4 (some .int) "power" q.1 q.2 := List.forall_mem_cons.mpr ⟨(gs_aload_n dX10_power_0 rfl), List.forall_mem_cons.mpr ⟨
  (gs_gf (ref := "GriefCranes$Yard") dX10_power_1 (gx_mem 312 (by decide +kernel) (by decide +kernel)) (Or.inl rfl) gf_10_5), List.forall_mem_cons.mpr ⟨
  (gs_iload_n dX10_power_4 rfl), List.forall_mem_cons.mpr ⟨
  (gs_iaload dX10_power_5), List.forall_mem_cons.mpr ⟨
  (gs_istore_n dX10_power_6 rfl), List.forall_mem_cons.mpr ⟨
  (gs_aload_n dX10_power_7 rfl), List.forall_mem_cons.mpr ⟨
  (gs_gf (ref := "GriefCranes$Yard") dX10_power_8 (gx_mem 337 (by decide +kernel) (by decide +kernel)) (Or.inl rfl) gf_10_15), List.forall_mem_cons.mpr ⟨
  (gs_iconst dX10_power_11 rfl), List.forall_mem_cons.mpr ⟨
  (gs_iload_n dX10_power_12 rfl), List.forall_mem_cons.mpr ⟨
  (gs_iastore dX10_power_13), List.forall_mem_cons.mpr ⟨
  (gs_aload_n dX10_power_14 rfl), List.forall_mem_cons.mpr ⟨
  (gs_gf (ref := "GriefCranes$Yard") dX10_power_15 (gx_mem 337 (by decide +kernel) (by decide +kernel)) (Or.inl rfl) gf_10_15), List.forall_mem_cons.mpr ⟨
  (gs_iconst dX10_power_18 rfl), List.forall_mem_cons.mpr ⟨
  (gs_iload_n dX10_power_19 rfl), List.forall_mem_cons.mpr ⟨
  (gs_iastore dX10_power_20), List.forall_mem_cons.mpr ⟨
  (gs_aload_n dX10_power_21 rfl), List.forall_mem_cons.mpr ⟨
  (gs_gf (ref := "GriefCranes$Yard") dX10_power_22 (gx_mem 337 (by decide +kernel) (by decide +kernel)) (Or.inl rfl) gf_10_15), List.forall_mem_cons.mpr ⟨
  (gs_iconst dX10_power_25 rfl), List.forall_mem_cons.mpr ⟨
  (gs_aload_n dX10_power_26 rfl), List.forall_mem_cons.mpr ⟨
  (gs_gf (ref := "GriefCranes$Yard") dX10_power_27 (gx_mem 314 (by decide +kernel) (by decide +kernel)) (Or.inl rfl) gf_10_6), List.forall_mem_cons.mpr ⟨
  (gs_iload_n dX10_power_30 rfl), List.forall_mem_cons.mpr ⟨
  (gs_iaload dX10_power_31), List.forall_mem_cons.mpr ⟨
  (gs_iastore dX10_power_32), List.forall_mem_cons.mpr ⟨
  (gs_aload_n dX10_power_33 rfl), List.forall_mem_cons.mpr ⟨
  (gs_gf (ref := "GriefCranes$Yard") dX10_power_34 (gx_mem 337 (by decide +kernel) (by decide +kernel)) (Or.inl rfl) gf_10_15), List.forall_mem_cons.mpr ⟨
  (gs_iconst dX10_power_37 rfl), List.forall_mem_cons.mpr ⟨
  (gs_iload_n dX10_power_38 rfl), List.forall_mem_cons.mpr ⟨
  (gs_iastore dX10_power_39), List.forall_mem_cons.mpr ⟨
  (gs_aload_n dX10_power_40 rfl), List.forall_mem_cons.mpr ⟨
  (gs_gf (ref := "GriefCranes$Yard") dX10_power_41 (gx_mem 337 (by decide +kernel) (by decide +kernel)) (Or.inl rfl) gf_10_15), List.forall_mem_cons.mpr ⟨
  (gs_iconst dX10_power_44 rfl), List.forall_mem_cons.mpr ⟨
  (gs_aload_n dX10_power_45 rfl), fun _ h => absurd h List.not_mem_nil⟩⟩⟩⟩⟩⟩⟩⟩⟩⟩⟩⟩⟩⟩⟩⟩⟩⟩⟩⟩⟩⟩⟩⟩⟩⟩⟩⟩⟩⟩⟩⟩
set_option maxRecDepth 20000 in
theorem kt_X10_power_1 (g : gx_T) : ∀ q ∈ k_X10_power_1, gx_E g gc_md RX10 cX10_power 4 (some .int) "power" q.1 q.2 := List.forall_mem_cons.mpr ⟨(gs_gf (ref := "GriefCranes$Yard") dX10_power_46 (gx_mem 326 (by decide +kernel) (by decide +kernel)) (Or.inl rfl) gf_10_10), List.forall_mem_cons.mpr ⟨
  (gs_iload_n dX10_power_49 rfl), List.forall_mem_cons.mpr ⟨
  (gs_iaload dX10_power_50), List.forall_mem_cons.mpr ⟨
  (gs_bipush dX10_power_51 rfl), List.forall_mem_cons.mpr ⟨
  (gs_idiv dX10_power_53), List.forall_mem_cons.mpr ⟨
  (gs_iastore dX10_power_54), List.forall_mem_cons.mpr ⟨
  (gs_aload_n dX10_power_55 rfl), List.forall_mem_cons.mpr ⟨
  (gs_gf (ref := "GriefCranes$Yard") dX10_power_56 (gx_mem 337 (by decide +kernel) (by decide +kernel)) (Or.inl rfl) gf_10_15), List.forall_mem_cons.mpr ⟨
  (gs_iconst dX10_power_59 rfl), List.forall_mem_cons.mpr ⟨
  (gs_aload_n dX10_power_60 rfl), List.forall_mem_cons.mpr ⟨
  (gs_gf (ref := "GriefCranes$Yard") dX10_power_61 (gx_mem 304 (by decide +kernel) (by decide +kernel)) (Or.inl rfl) gf_10_2), List.forall_mem_cons.mpr ⟨
  (gs_bipush dX10_power_64 rfl), List.forall_mem_cons.mpr ⟨
  (gs_irem dX10_power_66), List.forall_mem_cons.mpr ⟨
  (gs_iastore dX10_power_67), List.forall_mem_cons.mpr ⟨
  (gs_aload_n dX10_power_68 rfl), List.forall_mem_cons.mpr ⟨
  (gs_gf (ref := "GriefCranes$Yard") dX10_power_69 (gx_mem 301 (by decide +kernel) (by decide +kernel)) (Or.inl rfl) gf_10_0), List.forall_mem_cons.mpr ⟨
  (gs_iload_n dX10_power_72 rfl), List.forall_mem_cons.mpr ⟨
  (gs_aaload (by decide) dX10_power_73), List.forall_mem_cons.mpr ⟨
  (gs_aload_n dX10_power_74 rfl), List.forall_mem_cons.mpr ⟨
  (gs_gf (ref := "GriefCranes$Yard") dX10_power_75 (gx_mem 302 (by decide +kernel) (by decide +kernel)) (Or.inl rfl) gf_10_1), List.forall_mem_cons.mpr ⟨
  (gs_aload_n dX10_power_78 rfl), List.forall_mem_cons.mpr ⟨
  (gs_gf (ref := "GriefCranes$Yard") dX10_power_79 (gx_mem 337 (by decide +kernel) (by decide +kernel)) (Or.inl rfl) gf_10_15), List.forall_mem_cons.mpr ⟨
  (gs_cv dX10_power_82 (fun q hq => by
      simp only [List.mem_cons, List.not_mem_nil, or_false] at hq
      subst hq
      exact Or.inl ⟨_, rfl, by decide, by decide +kernel, by decide +kernel, List.forall_mem_cons.mpr ⟨gx_mem 457 (by decide +kernel) (by decide +kernel), List.forall_mem_cons.mpr ⟨gx_mem 458 (by decide +kernel) (by decide +kernel), List.forall_mem_cons.mpr ⟨gx_mem 459 (by decide +kernel) (by decide +kernel), List.forall_mem_cons.mpr ⟨gx_mem 86 (by decide +kernel) (by decide +kernel), List.forall_mem_cons.mpr ⟨cw_460, fun _ h => absurd h List.not_mem_nil⟩⟩⟩⟩⟩⟩)), List.forall_mem_cons.mpr ⟨
  (gs_aload_n dX10_power_85 rfl), List.forall_mem_cons.mpr ⟨
  (gs_iload_n dX10_power_86 rfl), List.forall_mem_cons.mpr ⟨
  (gs_iload_n dX10_power_87 rfl), List.forall_mem_cons.mpr ⟨
  (gs_cv dX10_power_88 (fun q hq => by
      simp only [List.mem_cons, List.not_mem_nil, or_false] at hq
      rcases hq with rfl | rfl | rfl | rfl | rfl | rfl | rfl
      · exact Or.inl ⟨_, rfl, by decide, by decide +kernel, by decide +kernel, List.forall_mem_cons.mpr ⟨gx_mem 465 (by decide +kernel) (by decide +kernel), List.forall_mem_cons.mpr ⟨gx_mem 466 (by decide +kernel) (by decide +kernel), List.forall_mem_cons.mpr ⟨gx_mem 467 (by decide +kernel) (by decide +kernel), List.forall_mem_cons.mpr ⟨gx_mem 88 (by decide +kernel) (by decide +kernel), List.forall_mem_cons.mpr ⟨cw_493, fun _ h => absurd h List.not_mem_nil⟩⟩⟩⟩⟩⟩
      · exact Or.inr ⟨_, ⟨"GriefCranes$Crane", "power", "(ILGriefCranes$Yard;II)I"⟩, RX0, gc_md 1, rfl, by decide, by decide +kernel, by decide +kernel, rfl, List.forall_mem_cons.mpr ⟨gx_mem 465 (by decide +kernel) (by decide +kernel), List.forall_mem_cons.mpr ⟨gx_mem 468 (by decide +kernel) (by decide +kernel), List.forall_mem_cons.mpr ⟨gx_mem 466 (by decide +kernel) (by decide +kernel), List.forall_mem_cons.mpr ⟨cw_493, List.forall_mem_cons.mpr ⟨gx_mem 469 (by decide +kernel) (by decide +kernel), List.forall_mem_cons.mpr ⟨gx_mem 470 (by decide +kernel) (by decide +kernel), List.forall_mem_cons.mpr ⟨gx_mem 92 (by decide +kernel) (by decide +kernel), List.forall_mem_cons.mpr ⟨cw_471, fun _ h => absurd h List.not_mem_nil⟩⟩⟩⟩⟩⟩⟩⟩⟩
      · exact Or.inr ⟨_, ⟨"GriefCranes$Crane", "power", "(ILGriefCranes$Yard;II)I"⟩, RX0, gc_md 1, rfl, by decide, by decide +kernel, by decide +kernel, rfl, List.forall_mem_cons.mpr ⟨gx_mem 465 (by decide +kernel) (by decide +kernel), List.forall_mem_cons.mpr ⟨gx_mem 468 (by decide +kernel) (by decide +kernel), List.forall_mem_cons.mpr ⟨gx_mem 466 (by decide +kernel) (by decide +kernel), List.forall_mem_cons.mpr ⟨cw_493, List.forall_mem_cons.mpr ⟨gx_mem 475 (by decide +kernel) (by decide +kernel), List.forall_mem_cons.mpr ⟨gx_mem 473 (by decide +kernel) (by decide +kernel), List.forall_mem_cons.mpr ⟨gx_mem 89 (by decide +kernel) (by decide +kernel), List.forall_mem_cons.mpr ⟨cw_474, fun _ h => absurd h List.not_mem_nil⟩⟩⟩⟩⟩⟩⟩⟩⟩
      · exact Or.inr ⟨_, ⟨"GriefCranes$Crane", "power", "(ILGriefCranes$Yard;II)I"⟩, RX0, gc_md 1, rfl, by decide, by decide +kernel, by decide +kernel, rfl, List.forall_mem_cons.mpr ⟨gx_mem 465 (by decide +kernel) (by decide +kernel), List.forall_mem_cons.mpr ⟨gx_mem 468 (by decide +kernel) (by decide +kernel), List.forall_mem_cons.mpr ⟨gx_mem 466 (by decide +kernel) (by decide +kernel), List.forall_mem_cons.mpr ⟨cw_493, List.forall_mem_cons.mpr ⟨gx_mem 476 (by decide +kernel) (by decide +kernel), List.forall_mem_cons.mpr ⟨gx_mem 477 (by decide +kernel) (by decide +kernel), List.forall_mem_cons.mpr ⟨gx_mem 90 (by decide +kernel) (by decide +kernel), List.forall_mem_cons.mpr ⟨cw_478, fun _ h => absurd h List.not_mem_nil⟩⟩⟩⟩⟩⟩⟩⟩⟩
      · exact Or.inr ⟨_, ⟨"GriefCranes$Crane", "power", "(ILGriefCranes$Yard;II)I"⟩, RX0, gc_md 1, rfl, by decide, by decide +kernel, by decide +kernel, rfl, List.forall_mem_cons.mpr ⟨gx_mem 465 (by decide +kernel) (by decide +kernel), List.forall_mem_cons.mpr ⟨gx_mem 468 (by decide +kernel) (by decide +kernel), List.forall_mem_cons.mpr ⟨gx_mem 466 (by decide +kernel) (by decide +kernel), List.forall_mem_cons.mpr ⟨cw_493, List.forall_mem_cons.mpr ⟨gx_mem 479 (by decide +kernel) (by decide +kernel), List.forall_mem_cons.mpr ⟨gx_mem 480 (by decide +kernel) (by decide +kernel), List.forall_mem_cons.mpr ⟨gx_mem 93 (by decide +kernel) (by decide +kernel), List.forall_mem_cons.mpr ⟨cw_481, fun _ h => absurd h List.not_mem_nil⟩⟩⟩⟩⟩⟩⟩⟩⟩
      · exact Or.inr ⟨_, ⟨"GriefCranes$Crane", "power", "(ILGriefCranes$Yard;II)I"⟩, RX0, gc_md 1, rfl, by decide, by decide +kernel, by decide +kernel, rfl, List.forall_mem_cons.mpr ⟨gx_mem 465 (by decide +kernel) (by decide +kernel), List.forall_mem_cons.mpr ⟨gx_mem 468 (by decide +kernel) (by decide +kernel), List.forall_mem_cons.mpr ⟨gx_mem 466 (by decide +kernel) (by decide +kernel), List.forall_mem_cons.mpr ⟨cw_493, List.forall_mem_cons.mpr ⟨gx_mem 486 (by decide +kernel) (by decide +kernel), List.forall_mem_cons.mpr ⟨gx_mem 487 (by decide +kernel) (by decide +kernel), List.forall_mem_cons.mpr ⟨gx_mem 91 (by decide +kernel) (by decide +kernel), List.forall_mem_cons.mpr ⟨cw_488, fun _ h => absurd h List.not_mem_nil⟩⟩⟩⟩⟩⟩⟩⟩⟩
      · exact Or.inr ⟨_, ⟨"GriefCranes$Crane", "power", "(ILGriefCranes$Yard;II)I"⟩, RX0, gc_md 1, rfl, by decide, by decide +kernel, by decide +kernel, rfl, List.forall_mem_cons.mpr ⟨gx_mem 465 (by decide +kernel) (by decide +kernel), List.forall_mem_cons.mpr ⟨gx_mem 468 (by decide +kernel) (by decide +kernel), List.forall_mem_cons.mpr ⟨gx_mem 466 (by decide +kernel) (by decide +kernel), List.forall_mem_cons.mpr ⟨cw_493, List.forall_mem_cons.mpr ⟨gx_mem 489 (by decide +kernel) (by decide +kernel), List.forall_mem_cons.mpr ⟨gx_mem 490 (by decide +kernel) (by decide +kernel), List.forall_mem_cons.mpr ⟨gx_mem 94 (by decide +kernel) (by decide +kernel), List.forall_mem_cons.mpr ⟨cw_491, fun _ h => absurd h List.not_mem_nil⟩⟩⟩⟩⟩⟩⟩⟩⟩)), List.forall_mem_cons.mpr ⟨
  (gs_ri dX10_power_91), fun _ h => absurd h List.not_mem_nil⟩⟩⟩⟩⟩⟩⟩⟩⟩⟩⟩⟩⟩⟩⟩⟩⟩⟩⟩⟩⟩⟩⟩⟩⟩⟩⟩⟩
theorem kt_X10_power (g : gx_T) : ∀ q ∈ k_X10_power, gx_E g gc_md RX10 cX10_power 4 (some .int) "power" q.1 q.2 := List.forall_mem_append.mpr ⟨kt_X10_power_0 g, kt_X10_power_1 g⟩
set_option maxRecDepth 20000 in
theorem dX10_go_0 : decode cX10_go 0 = .ok (.iconst 0, 1) := by decide +kernel
set_option maxRecDepth 20000 in
theorem dX10_go_1 : decode cX10_go 1 = .ok (.istore_n 2, 1) := by decide +kernel
set_option maxRecDepth 20000 in
theorem dX10_go_2 : decode cX10_go 2 = .ok (.iload_n 2, 1) := by decide +kernel
set_option maxRecDepth 20000 in
theorem dX10_go_3 : decode cX10_go 3 = .ok (.iload_n 1, 1) := by decide +kernel
set_option maxRecDepth 20000 in
theorem dX10_go_4 : decode cX10_go 4 = .ok (.if_icmp .ge 63, 3) := by decide +kernel
set_option maxRecDepth 20000 in
theorem dX10_go_7 : decode cX10_go 7 = .ok (.iconst 0, 1) := by decide +kernel
set_option maxRecDepth 20000 in
theorem dX10_go_8 : decode cX10_go 8 = .ok (.istore_n 3, 1) := by decide +kernel
set_option maxRecDepth 20000 in
theorem dX10_go_9 : decode cX10_go 9 = .ok (.iload_n 3, 1) := by decide +kernel
set_option maxRecDepth 20000 in
theorem dX10_go_10 : decode cX10_go 10 = .ok (.aload_n 0, 1) := by decide +kernel
set_option maxRecDepth 20000 in
theorem dX10_go_11 : decode cX10_go 11 = .ok (.getfield 19, 3) := by decide +kernel
set_option maxRecDepth 20000 in
theorem dX10_go_14 : decode cX10_go 14 = .ok (.if_icmp .ge 37, 3) := by decide +kernel
set_option maxRecDepth 20000 in
theorem dX10_go_17 : decode cX10_go 17 = .ok (.aload_n 0, 1) := by decide +kernel
set_option maxRecDepth 20000 in
theorem dX10_go_18 : decode cX10_go 18 = .ok (.iload_n 3, 1) := by decide +kernel
set_option maxRecDepth 20000 in
theorem dX10_go_19 : decode cX10_go 19 = .ok (.invokevirtual 100, 3) := by decide +kernel
set_option maxRecDepth 20000 in
theorem dX10_go_22 : decode cX10_go 22 = .ok (.istore 4, 2) := by decide +kernel
set_option maxRecDepth 20000 in
theorem dX10_go_24 : decode cX10_go 24 = .ok (.iload 4, 2) := by decide +kernel
set_option maxRecDepth 20000 in
theorem dX10_go_26 : decode cX10_go 26 = .ok (.iconst (-1), 1) := by decide +kernel
set_option maxRecDepth 20000 in
theorem dX10_go_27 : decode cX10_go 27 = .ok (.if_icmp .ne 11, 3) := by decide +kernel
set_option maxRecDepth 20000 in
theorem dX10_go_30 : decode cX10_go 30 = .ok (.aload_n 0, 1) := by decide +kernel
set_option maxRecDepth 20000 in
theorem dX10_go_31 : decode cX10_go 31 = .ok (.iload_n 3, 1) := by decide +kernel
set_option maxRecDepth 20000 in
theorem dX10_go_32 : decode cX10_go 32 = .ok (.invokevirtual 103, 3) := by decide +kernel
set_option maxRecDepth 20000 in
theorem dX10_go_35 : decode cX10_go 35 = .ok (.goto 10, 3) := by decide +kernel
set_option maxRecDepth 20000 in
theorem dX10_go_38 : decode cX10_go 38 = .ok (.aload_n 0, 1) := by decide +kernel
set_option maxRecDepth 20000 in
theorem dX10_go_39 : decode cX10_go 39 = .ok (.iload_n 3, 1) := by decide +kernel
set_option maxRecDepth 20000 in
theorem dX10_go_40 : decode cX10_go 40 = .ok (.iload 4, 2) := by decide +kernel
set_option maxRecDepth 20000 in
theorem dX10_go_42 : decode cX10_go 42 = .ok (.invokevirtual 107, 3) := by decide +kernel
set_option maxRecDepth 20000 in
theorem dX10_go_45 : decode cX10_go 45 = .ok (.iinc 3 1, 3) := by decide +kernel
set_option maxRecDepth 20000 in
theorem dX10_go_48 : decode cX10_go 48 = .ok (.goto (-39), 3) := by decide +kernel
set_option maxRecDepth 20000 in
theorem dX10_go_51 : decode cX10_go 51 = .ok (.aload_n 0, 1) := by decide +kernel
set_option maxRecDepth 20000 in
theorem dX10_go_52 : decode cX10_go 52 = .ok (.dup, 1) := by decide +kernel
set_option maxRecDepth 20000 in
theorem dX10_go_53 : decode cX10_go 53 = .ok (.getfield 9, 3) := by decide +kernel
set_option maxRecDepth 20000 in
theorem dX10_go_56 : decode cX10_go 56 = .ok (.iconst 1, 1) := by decide +kernel
set_option maxRecDepth 20000 in
theorem dX10_go_57 : decode cX10_go 57 = .ok (.iadd, 1) := by decide +kernel
set_option maxRecDepth 20000 in
theorem dX10_go_58 : decode cX10_go 58 = .ok (.putfield 9, 3) := by decide +kernel
set_option maxRecDepth 20000 in
theorem dX10_go_61 : decode cX10_go 61 = .ok (.iinc 2 1, 3) := by decide +kernel
set_option maxRecDepth 20000 in
theorem dX10_go_64 : decode cX10_go 64 = .ok (.goto (-62), 3) := by decide +kernel
set_option maxRecDepth 20000 in
theorem dX10_go_67 : decode cX10_go 67 = .ok (.return_, 1) := by decide +kernel
set_option maxRecDepth 20000 in
theorem kt_X10_go_0 (g : gx_T) : ∀ q ∈ k_X10_go_0, gx_E g gc_md RX10 cX10_go 5 (none) "go" q.1 q.2 := List.forall_mem_cons.mpr ⟨(gs_iconst dX10_go_0 rfl), List.forall_mem_cons.mpr ⟨
  (gs_istore_n dX10_go_1 rfl), List.forall_mem_cons.mpr ⟨
  (gs_iload_n dX10_go_2 rfl), List.forall_mem_cons.mpr ⟨
  (gs_iload_n dX10_go_3 rfl), List.forall_mem_cons.mpr ⟨
  (gs_icmp_ge dX10_go_4 rfl), List.forall_mem_cons.mpr ⟨
  (gs_iconst dX10_go_7 rfl), List.forall_mem_cons.mpr ⟨
  (gs_istore_n dX10_go_8 rfl), List.forall_mem_cons.mpr ⟨
  (gs_iload_n dX10_go_9 rfl), List.forall_mem_cons.mpr ⟨
  (gs_aload_n dX10_go_10 rfl), List.forall_mem_cons.mpr ⟨
  (gs_gf (ref := "GriefCranes$Yard") dX10_go_11 (gx_mem 310 (by decide +kernel) (by decide +kernel)) (Or.inl rfl) gf_10_4), List.forall_mem_cons.mpr ⟨
  (gs_icmp_ge dX10_go_14 rfl), List.forall_mem_cons.mpr ⟨
  (gs_aload_n dX10_go_17 rfl), List.forall_mem_cons.mpr ⟨
  (gs_iload_n dX10_go_18 rfl), List.forall_mem_cons.mpr ⟨
  (gs_cv dX10_go_19 (fun q hq => by
      simp only [List.mem_cons, List.not_mem_nil, or_false] at hq
      subst hq
      exact Or.inl ⟨_, rfl, by decide, by decide +kernel, by decide +kernel, List.forall_mem_cons.mpr ⟨gx_mem 530 (by decide +kernel) (by decide +kernel), List.forall_mem_cons.mpr ⟨gx_mem 443 (by decide +kernel) (by decide +kernel), List.forall_mem_cons.mpr ⟨gx_mem 444 (by decide +kernel) (by decide +kernel), List.forall_mem_cons.mpr ⟨gx_mem 95 (by decide +kernel) (by decide +kernel), List.forall_mem_cons.mpr ⟨cw_445, fun _ h => absurd h List.not_mem_nil⟩⟩⟩⟩⟩⟩)), List.forall_mem_cons.mpr ⟨
  (gs_istore dX10_go_22), List.forall_mem_cons.mpr ⟨
  (gs_iload dX10_go_24), List.forall_mem_cons.mpr ⟨
  (gs_iconst dX10_go_26 rfl), List.forall_mem_cons.mpr ⟨
  (gs_icmp_ne dX10_go_27 rfl), List.forall_mem_cons.mpr ⟨
  (gs_aload_n dX10_go_30 rfl), List.forall_mem_cons.mpr ⟨
  (gs_iload_n dX10_go_31 rfl), List.forall_mem_cons.mpr ⟨
  (gs_cv dX10_go_32 (fun q hq => by
      simp only [List.mem_cons, List.not_mem_nil, or_false] at hq
      subst hq
      exact Or.inl ⟨_, rfl, by decide, by decide +kernel, by decide +kernel, List.forall_mem_cons.mpr ⟨gx_mem 531 (by decide +kernel) (by decide +kernel), List.forall_mem_cons.mpr ⟨gx_mem 533 (by decide +kernel) (by decide +kernel), List.forall_mem_cons.mpr ⟨gx_mem 2 (by decide +kernel) (by decide +kernel), List.forall_mem_cons.mpr ⟨gx_mem 95 (by decide +kernel) (by decide +kernel), List.forall_mem_cons.mpr ⟨cw_534, fun _ h => absurd h List.not_mem_nil⟩⟩⟩⟩⟩⟩)), List.forall_mem_cons.mpr ⟨
  (gs_goto dX10_go_35 rfl), List.forall_mem_cons.mpr ⟨
  (gs_aload_n dX10_go_38 rfl), List.forall_mem_cons.mpr ⟨
  (gs_iload_n dX10_go_39 rfl), List.forall_mem_cons.mpr ⟨
  (gs_iload dX10_go_40), List.forall_mem_cons.mpr ⟨
  (gs_cv dX10_go_42 (fun q hq => by
      simp only [List.mem_cons, List.not_mem_nil, or_false] at hq
      subst hq
      exact Or.inl ⟨_, rfl, by decide, by decide +kernel, by decide +kernel, List.forall_mem_cons.mpr ⟨gx_mem 536 (by decide +kernel) (by decide +kernel), List.forall_mem_cons.mpr ⟨gx_mem 538 (by decide +kernel) (by decide +kernel), List.forall_mem_cons.mpr ⟨gx_mem 3 (by decide +kernel) (by decide +kernel), List.forall_mem_cons.mpr ⟨gx_mem 95 (by decide +kernel) (by decide +kernel), List.forall_mem_cons.mpr ⟨cw_539, fun _ h => absurd h List.not_mem_nil⟩⟩⟩⟩⟩⟩)), List.forall_mem_cons.mpr ⟨
  (gs_iinc dX10_go_45), List.forall_mem_cons.mpr ⟨
  (gs_goto dX10_go_48 rfl), List.forall_mem_cons.mpr ⟨
  (gs_aload_n dX10_go_51 rfl), List.forall_mem_cons.mpr ⟨
  (gs_dup dX10_go_52), List.forall_mem_cons.mpr ⟨
  (gs_gf (ref := "GriefCranes$Yard") dX10_go_53 (gx_mem 304 (by decide +kernel) (by decide +kernel)) (Or.inl rfl) gf_10_2), List.forall_mem_cons.mpr ⟨
  (gs_iconst dX10_go_56 rfl), fun _ h => absurd h List.not_mem_nil⟩⟩⟩⟩⟩⟩⟩⟩⟩⟩⟩⟩⟩⟩⟩⟩⟩⟩⟩⟩⟩⟩⟩⟩⟩⟩⟩⟩⟩⟩⟩⟩
set_option maxRecDepth 20000 in
theorem kt_X10_go_1 (g : gx_T) : ∀ q ∈ k_X10_go_1, gx_E g gc_md RX10 cX10_go 5 (none) "go" q.1 q.2 := List.forall_mem_cons.mpr ⟨(gs_iadd dX10_go_57), List.forall_mem_cons.mpr ⟨
  (gs_pf (ref := "GriefCranes$Yard") dX10_go_58 (gx_mem 304 (by decide +kernel) (by decide +kernel)) (Or.inl rfl) gf_10_2 (by decide +kernel)), List.forall_mem_cons.mpr ⟨
  (gs_iinc dX10_go_61), List.forall_mem_cons.mpr ⟨
  (gs_goto dX10_go_64 rfl), List.forall_mem_cons.mpr ⟨
  (gs_rv dX10_go_67), fun _ h => absurd h List.not_mem_nil⟩⟩⟩⟩⟩
theorem kt_X10_go (g : gx_T) : ∀ q ∈ k_X10_go, gx_E g gc_md RX10 cX10_go 5 (none) "go" q.1 q.2 := List.forall_mem_append.mpr ⟨kt_X10_go_0 g, kt_X10_go_1 g⟩
set_option maxRecDepth 20000 in
theorem dX10_hangFirst_0 : decode cX10_hangFirst 0 = .ok (.iconst 0, 1) := by decide +kernel
set_option maxRecDepth 20000 in
theorem dX10_hangFirst_1 : decode cX10_hangFirst 1 = .ok (.istore_n 2, 1) := by decide +kernel
set_option maxRecDepth 20000 in
theorem dX10_hangFirst_2 : decode cX10_hangFirst 2 = .ok (.iload_n 2, 1) := by decide +kernel
set_option maxRecDepth 20000 in
theorem dX10_hangFirst_3 : decode cX10_hangFirst 3 = .ok (.aload_n 0, 1) := by decide +kernel
set_option maxRecDepth 20000 in
theorem dX10_hangFirst_4 : decode cX10_hangFirst 4 = .ok (.getfield 36, 3) := by decide +kernel
set_option maxRecDepth 20000 in
theorem dX10_hangFirst_7 : decode cX10_hangFirst 7 = .ok (.if_icmp .ge 56, 3) := by decide +kernel
set_option maxRecDepth 20000 in
theorem dX10_hangFirst_10 : decode cX10_hangFirst 10 = .ok (.aload_n 0, 1) := by decide +kernel
set_option maxRecDepth 20000 in
theorem dX10_hangFirst_11 : decode cX10_hangFirst 11 = .ok (.getfield 45, 3) := by decide +kernel
set_option maxRecDepth 20000 in
theorem dX10_hangFirst_14 : decode cX10_hangFirst 14 = .ok (.iload_n 2, 1) := by decide +kernel
set_option maxRecDepth 20000 in
theorem dX10_hangFirst_15 : decode cX10_hangFirst 15 = .ok (.iaload, 1) := by decide +kernel
set_option maxRecDepth 20000 in
theorem dX10_hangFirst_16 : decode cX10_hangFirst 16 = .ok (.ifCond .ne 41, 3) := by decide +kernel
set_option maxRecDepth 20000 in
theorem dX10_hangFirst_19 : decode cX10_hangFirst 19 = .ok (.aload_n 0, 1) := by decide +kernel
set_option maxRecDepth 20000 in
theorem dX10_hangFirst_20 : decode cX10_hangFirst 20 = .ok (.getfield 42, 3) := by decide +kernel
set_option maxRecDepth 20000 in
theorem dX10_hangFirst_23 : decode cX10_hangFirst 23 = .ok (.iload_n 2, 1) := by decide +kernel
set_option maxRecDepth 20000 in
theorem dX10_hangFirst_24 : decode cX10_hangFirst 24 = .ok (.iaload, 1) := by decide +kernel
set_option maxRecDepth 20000 in
theorem dX10_hangFirst_25 : decode cX10_hangFirst 25 = .ok (.iload_n 1, 1) := by decide +kernel
set_option maxRecDepth 20000 in
theorem dX10_hangFirst_26 : decode cX10_hangFirst 26 = .ok (.if_icmp .eq 6, 3) := by decide +kernel
set_option maxRecDepth 20000 in
theorem dX10_hangFirst_29 : decode cX10_hangFirst 29 = .ok (.goto 28, 3) := by decide +kernel
set_option maxRecDepth 20000 in
theorem dX10_hangFirst_32 : decode cX10_hangFirst 32 = .ok (.aload_n 0, 1) := by decide +kernel
set_option maxRecDepth 20000 in
theorem dX10_hangFirst_33 : decode cX10_hangFirst 33 = .ok (.iload_n 1, 1) := by decide +kernel
set_option maxRecDepth 20000 in
theorem dX10_hangFirst_34 : decode cX10_hangFirst 34 = .ok (.iload_n 2, 1) := by decide +kernel
set_option maxRecDepth 20000 in
theorem dX10_hangFirst_35 : decode cX10_hangFirst 35 = .ok (.invokevirtual 110, 3) := by decide +kernel
set_option maxRecDepth 20000 in
theorem dX10_hangFirst_38 : decode cX10_hangFirst 38 = .ok (.aload_n 0, 1) := by decide +kernel
set_option maxRecDepth 20000 in
theorem dX10_hangFirst_39 : decode cX10_hangFirst 39 = .ok (.getfield 39, 3) := by decide +kernel
set_option maxRecDepth 20000 in
theorem dX10_hangFirst_42 : decode cX10_hangFirst 42 = .ok (.iload_n 2, 1) := by decide +kernel
set_option maxRecDepth 20000 in
theorem dX10_hangFirst_43 : decode cX10_hangFirst 43 = .ok (.iaload, 1) := by decide +kernel
set_option maxRecDepth 20000 in
theorem dX10_hangFirst_44 : decode cX10_hangFirst 44 = .ok (.if_icmp .ge 6, 3) := by decide +kernel
set_option maxRecDepth 20000 in
theorem dX10_hangFirst_47 : decode cX10_hangFirst 47 = .ok (.goto 10, 3) := by decide +kernel
set_option maxRecDepth 20000 in
theorem dX10_hangFirst_50 : decode cX10_hangFirst 50 = .ok (.aload_n 0, 1) := by decide +kernel
set_option maxRecDepth 20000 in
theorem dX10_hangFirst_51 : decode cX10_hangFirst 51 = .ok (.iload_n 2, 1) := by decide +kernel
set_option maxRecDepth 20000 in
theorem dX10_hangFirst_52 : decode cX10_hangFirst 52 = .ok (.iconst 1, 1) := by decide +kernel
set_option maxRecDepth 20000 in
theorem dX10_hangFirst_53 : decode cX10_hangFirst 53 = .ok (.invokevirtual 71, 3) := by decide +kernel
set_option maxRecDepth 20000 in
theorem dX10_hangFirst_56 : decode cX10_hangFirst 56 = .ok (.return_, 1) := by decide +kernel
set_option maxRecDepth 20000 in
theorem dX10_hangFirst_57 : decode cX10_hangFirst 57 = .ok (.iinc 2 1, 3) := by decide +kernel
set_option maxRecDepth 20000 in
theorem dX10_hangFirst_60 : decode cX10_hangFirst 60 = .ok (.goto (-58), 3) := by decide +kernel
set_option maxRecDepth 20000 in
theorem dX10_hangFirst_63 : decode cX10_hangFirst 63 = .ok (.return_, 1) := by decide +kernel
set_option maxRecDepth 20000 in
theorem kt_X10_hangFirst_0 (g : gx_T) : ∀ q ∈ k_X10_hangFirst_0, gx_E g gc_md RX10 cX10_hangFirst 3 (none) "hangFirst" q.1 q.2 := List.forall_mem_cons.mpr ⟨(gs_iconst dX10_hangFirst_0 rfl), List.forall_mem_cons.mpr ⟨
  (gs_istore_n dX10_hangFirst_1 rfl), List.forall_mem_cons.mpr ⟨
  (gs_iload_n dX10_hangFirst_2 rfl), List.forall_mem_cons.mpr ⟨
  (gs_aload_n dX10_hangFirst_3 rfl), List.forall_mem_cons.mpr ⟨
  (gs_gf (ref := "GriefCranes$Yard") dX10_hangFirst_4 (gx_mem 324 (by decide +kernel) (by decide +kernel)) (Or.inl rfl) gf_10_9), List.forall_mem_cons.mpr ⟨
  (gs_icmp_ge dX10_hangFirst_7 rfl), List.forall_mem_cons.mpr ⟨
  (gs_aload_n dX10_hangFirst_10 rfl), List.forall_mem_cons.mpr ⟨
  (gs_gf (ref := "GriefCranes$Yard") dX10_hangFirst_11 (gx_mem 331 (by decide +kernel) (by decide +kernel)) (Or.inl rfl) gf_10_12), List.forall_mem_cons.mpr ⟨
  (gs_iload_n dX10_hangFirst_14 rfl), List.forall_mem_cons.mpr ⟨
  (gs_iaload dX10_hangFirst_15), List.forall_mem_cons.mpr ⟨
  (gs_if_ne dX10_hangFirst_16 rfl), List.forall_mem_cons.mpr ⟨
  (gs_aload_n dX10_hangFirst_19 rfl), List.forall_mem_cons.mpr ⟨
  (gs_gf (ref := "GriefCranes$Yard") dX10_hangFirst_20 (gx_mem 329 (by decide +kernel) (by decide +kernel)) (Or.inl rfl) gf_10_11), List.forall_mem_cons.mpr ⟨
  (gs_iload_n dX10_hangFirst_23 rfl), List.forall_mem_cons.mpr ⟨
  (gs_iaload dX10_hangFirst_24), List.forall_mem_cons.mpr ⟨
  (gs_iload_n dX10_hangFirst_25 rfl), List.forall_mem_cons.mpr ⟨
  (gs_icmp_eq dX10_hangFirst_26 rfl), List.forall_mem_cons.mpr ⟨
  (gs_goto dX10_hangFirst_29 rfl), List.forall_mem_cons.mpr ⟨
  (gs_aload_n dX10_hangFirst_32 rfl), List.forall_mem_cons.mpr ⟨
  (gs_iload_n dX10_hangFirst_33 rfl), List.forall_mem_cons.mpr ⟨
  (gs_iload_n dX10_hangFirst_34 rfl), List.forall_mem_cons.mpr ⟨
  (gs_cv dX10_hangFirst_35 (fun q hq => by
      simp only [List.mem_cons, List.not_mem_nil, or_false] at hq
      subst hq
      exact Or.inl ⟨_, rfl, by decide, by decide +kernel, by decide +kernel, List.forall_mem_cons.mpr ⟨gx_mem 535 (by decide +kernel) (by decide +kernel), List.forall_mem_cons.mpr ⟨gx_mem 454 (by decide +kernel) (by decide +kernel), List.forall_mem_cons.mpr ⟨gx_mem 455 (by decide +kernel) (by decide +kernel), List.forall_mem_cons.mpr ⟨gx_mem 95 (by decide +kernel) (by decide +kernel), List.forall_mem_cons.mpr ⟨cw_456, fun _ h => absurd h List.not_mem_nil⟩⟩⟩⟩⟩⟩)), List.forall_mem_cons.mpr ⟨
  (gs_aload_n dX10_hangFirst_38 rfl), List.forall_mem_cons.mpr ⟨
  (gs_gf (ref := "GriefCranes$Yard") dX10_hangFirst_39 (gx_mem 326 (by decide +kernel) (by decide +kernel)) (Or.inl rfl) gf_10_10), List.forall_mem_cons.mpr ⟨
  (gs_iload_n dX10_hangFirst_42 rfl), List.forall_mem_cons.mpr ⟨
  (gs_iaload dX10_hangFirst_43), List.forall_mem_cons.mpr ⟨
  (gs_icmp_ge dX10_hangFirst_44 rfl), List.forall_mem_cons.mpr ⟨
  (gs_goto dX10_hangFirst_47 rfl), List.forall_mem_cons.mpr ⟨
  (gs_aload_n dX10_hangFirst_50 rfl), List.forall_mem_cons.mpr ⟨
  (gs_iload_n dX10_hangFirst_51 rfl), List.forall_mem_cons.mpr ⟨
  (gs_iconst dX10_hangFirst_52 rfl), List.forall_mem_cons.mpr ⟨
  (gs_cv dX10_hangFirst_53 (fun q hq => by
      simp only [List.mem_cons, List.not_mem_nil, or_false] at hq
      subst hq
      exact Or.inl ⟨_, rfl, by decide, by decide +kernel, by decide +kernel, List.forall_mem_cons.mpr ⟨gx_mem 502 (by decide +kernel) (by decide +kernel), List.forall_mem_cons.mpr ⟨gx_mem 503 (by decide +kernel) (by decide +kernel), List.forall_mem_cons.mpr ⟨gx_mem 504 (by decide +kernel) (by decide +kernel), List.forall_mem_cons.mpr ⟨gx_mem 95 (by decide +kernel) (by decide +kernel), List.forall_mem_cons.mpr ⟨cw_505, fun _ h => absurd h List.not_mem_nil⟩⟩⟩⟩⟩⟩)), fun _ h => absurd h List.not_mem_nil⟩⟩⟩⟩⟩⟩⟩⟩⟩⟩⟩⟩⟩⟩⟩⟩⟩⟩⟩⟩⟩⟩⟩⟩⟩⟩⟩⟩⟩⟩⟩⟩
set_option maxRecDepth 20000 in
theorem kt_X10_hangFirst_1 (g : gx_T) : ∀ q ∈ k_X10_hangFirst_1, gx_E g gc_md RX10 cX10_hangFirst 3 (none) "hangFirst" q.1 q.2 := List.forall_mem_cons.mpr ⟨(gs_rv dX10_hangFirst_56), List.forall_mem_cons.mpr ⟨
  (gs_iinc dX10_hangFirst_57), List.forall_mem_cons.mpr ⟨
  (gs_goto dX10_hangFirst_60 rfl), List.forall_mem_cons.mpr ⟨
  (gs_rv dX10_hangFirst_63), fun _ h => absurd h List.not_mem_nil⟩⟩⟩⟩
theorem kt_X10_hangFirst (g : gx_T) : ∀ q ∈ k_X10_hangFirst, gx_E g gc_md RX10 cX10_hangFirst 3 (none) "hangFirst" q.1 q.2 := List.forall_mem_append.mpr ⟨kt_X10_hangFirst_0 g, kt_X10_hangFirst_1 g⟩
set_option maxRecDepth 20000 in
theorem dX10_swingOn_0 : decode cX10_swingOn 0 = .ok (.aload_n 0, 1) := by decide +kernel
set_option maxRecDepth 20000 in
theorem dX10_swingOn_1 : decode cX10_swingOn 1 = .ok (.getfield 48, 3) := by decide +kernel
set_option maxRecDepth 20000 in
theorem dX10_swingOn_4 : decode cX10_swingOn 4 = .ok (.iload_n 2, 1) := by decide +kernel
set_option maxRecDepth 20000 in
theorem dX10_swingOn_5 : decode cX10_swingOn 5 = .ok (.bipush 99, 2) := by decide +kernel
set_option maxRecDepth 20000 in
theorem dX10_swingOn_7 : decode cX10_swingOn 7 = .ok (.aload_n 0, 1) := by decide +kernel
set_option maxRecDepth 20000 in
theorem dX10_swingOn_8 : decode cX10_swingOn 8 = .ok (.getfield 48, 3) := by decide +kernel
set_option maxRecDepth 20000 in
theorem dX10_swingOn_11 : decode cX10_swingOn 11 = .ok (.iload_n 2, 1) := by decide +kernel
set_option maxRecDepth 20000 in
theorem dX10_swingOn_12 : decode cX10_swingOn 12 = .ok (.iaload, 1) := by decide +kernel
set_option maxRecDepth 20000 in
theorem dX10_swingOn_13 : decode cX10_swingOn 13 = .ok (.aload_n 0, 1) := by decide +kernel
set_option maxRecDepth 20000 in
theorem dX10_swingOn_14 : decode cX10_swingOn 14 = .ok (.getfield 15, 3) := by decide +kernel
set_option maxRecDepth 20000 in
theorem dX10_swingOn_17 : decode cX10_swingOn 17 = .ok (.aload_n 0, 1) := by decide +kernel
set_option maxRecDepth 20000 in
theorem dX10_swingOn_18 : decode cX10_swingOn 18 = .ok (.getfield 9, 3) := by decide +kernel
set_option maxRecDepth 20000 in
theorem dX10_swingOn_21 : decode cX10_swingOn 21 = .ok (.iconst 3, 1) := by decide +kernel
set_option maxRecDepth 20000 in
theorem dX10_swingOn_22 : decode cX10_swingOn 22 = .ok (.iand, 1) := by decide +kernel
set_option maxRecDepth 20000 in
theorem dX10_swingOn_23 : decode cX10_swingOn 23 = .ok (.iaload, 1) := by decide +kernel
set_option maxRecDepth 20000 in
theorem dX10_swingOn_24 : decode cX10_swingOn 24 = .ok (.iadd, 1) := by decide +kernel
set_option maxRecDepth 20000 in
theorem dX10_swingOn_25 : decode cX10_swingOn 25 = .ok (.invokestatic 113, 3) := by decide +kernel
set_option maxRecDepth 20000 in
theorem dX10_swingOn_28 : decode cX10_swingOn 28 = .ok (.iastore, 1) := by decide +kernel
set_option maxRecDepth 20000 in
theorem dX10_swingOn_29 : decode cX10_swingOn 29 = .ok (.aload_n 0, 1) := by decide +kernel
set_option maxRecDepth 20000 in
theorem dX10_swingOn_30 : decode cX10_swingOn 30 = .ok (.getfield 51, 3) := by decide +kernel
set_option maxRecDepth 20000 in
theorem dX10_swingOn_33 : decode cX10_swingOn 33 = .ok (.iload_n 2, 1) := by decide +kernel
set_option maxRecDepth 20000 in
theorem dX10_swingOn_34 : decode cX10_swingOn 34 = .ok (.dup2, 1) := by decide +kernel
set_option maxRecDepth 20000 in
theorem dX10_swingOn_35 : decode cX10_swingOn 35 = .ok (.iaload, 1) := by decide +kernel
set_option maxRecDepth 20000 in
theorem dX10_swingOn_36 : decode cX10_swingOn 36 = .ok (.iconst 1, 1) := by decide +kernel
set_option maxRecDepth 20000 in
theorem dX10_swingOn_37 : decode cX10_swingOn 37 = .ok (.iadd, 1) := by decide +kernel
set_option maxRecDepth 20000 in
theorem dX10_swingOn_38 : decode cX10_swingOn 38 = .ok (.iastore, 1) := by decide +kernel
set_option maxRecDepth 20000 in
theorem dX10_swingOn_39 : decode cX10_swingOn 39 = .ok (.aload_n 0, 1) := by decide +kernel
set_option maxRecDepth 20000 in
theorem dX10_swingOn_40 : decode cX10_swingOn 40 = .ok (.getfield 48, 3) := by decide +kernel
set_option maxRecDepth 20000 in
theorem dX10_swingOn_43 : decode cX10_swingOn 43 = .ok (.iload_n 2, 1) := by decide +kernel
set_option maxRecDepth 20000 in
theorem dX10_swingOn_44 : decode cX10_swingOn 44 = .ok (.iaload, 1) := by decide +kernel
set_option maxRecDepth 20000 in
theorem dX10_swingOn_45 : decode cX10_swingOn 45 = .ok (.aload_n 0, 1) := by decide +kernel
set_option maxRecDepth 20000 in
theorem dX10_swingOn_46 : decode cX10_swingOn 46 = .ok (.getfield 63, 3) := by decide +kernel
set_option maxRecDepth 20000 in
theorem dX10_swingOn_49 : decode cX10_swingOn 49 = .ok (.getfield 118, 3) := by decide +kernel
set_option maxRecDepth 20000 in
theorem dX10_swingOn_52 : decode cX10_swingOn 52 = .ok (.if_icmp .le 13, 3) := by decide +kernel
set_option maxRecDepth 20000 in
theorem dX10_swingOn_55 : decode cX10_swingOn 55 = .ok (.aload_n 0, 1) := by decide +kernel
set_option maxRecDepth 20000 in
theorem dX10_swingOn_56 : decode cX10_swingOn 56 = .ok (.getfield 45, 3) := by decide +kernel
set_option maxRecDepth 20000 in
theorem dX10_swingOn_59 : decode cX10_swingOn 59 = .ok (.iload_n 2, 1) := by decide +kernel
set_option maxRecDepth 20000 in
theorem dX10_swingOn_60 : decode cX10_swingOn 60 = .ok (.iconst 3, 1) := by decide +kernel
set_option maxRecDepth 20000 in
theorem dX10_swingOn_61 : decode cX10_swingOn 61 = .ok (.iastore, 1) := by decide +kernel
set_option maxRecDepth 20000 in
theorem dX10_swingOn_62 : decode cX10_swingOn 62 = .ok (.goto 46, 3) := by decide +kernel
set_option maxRecDepth 20000 in
theorem dX10_swingOn_65 : decode cX10_swingOn 65 = .ok (.aload_n 0, 1) := by decide +kernel
set_option maxRecDepth 20000 in
theorem dX10_swingOn_66 : decode cX10_swingOn 66 = .ok (.getfield 51, 3) := by decide +kernel
set_option maxRecDepth 20000 in
theorem dX10_swingOn_69 : decode cX10_swingOn 69 = .ok (.iload_n 2, 1) := by decide +kernel
set_option maxRecDepth 20000 in
theorem dX10_swingOn_70 : decode cX10_swingOn 70 = .ok (.iaload, 1) := by decide +kernel
set_option maxRecDepth 20000 in
theorem dX10_swingOn_71 : decode cX10_swingOn 71 = .ok (.aload_n 0, 1) := by decide +kernel
set_option maxRecDepth 20000 in
theorem dX10_swingOn_72 : decode cX10_swingOn 72 = .ok (.getfield 63, 3) := by decide +kernel
set_option maxRecDepth 20000 in
theorem dX10_swingOn_75 : decode cX10_swingOn 75 = .ok (.getfield 121, 3) := by decide +kernel
set_option maxRecDepth 20000 in
theorem dX10_swingOn_78 : decode cX10_swingOn 78 = .ok (.if_icmp .lt 30, 3) := by decide +kernel
set_option maxRecDepth 20000 in
theorem dX10_swingOn_81 : decode cX10_swingOn 81 = .ok (.aload_n 0, 1) := by decide +kernel
set_option maxRecDepth 20000 in
theorem dX10_swingOn_82 : decode cX10_swingOn 82 = .ok (.getfield 45, 3) := by decide +kernel
set_option maxRecDepth 20000 in
theorem dX10_swingOn_85 : decode cX10_swingOn 85 = .ok (.iload_n 2, 1) := by decide +kernel
set_option maxRecDepth 20000 in
theorem dX10_swingOn_86 : decode cX10_swingOn 86 = .ok (.iconst 2, 1) := by decide +kernel
set_option maxRecDepth 20000 in
theorem dX10_swingOn_87 : decode cX10_swingOn 87 = .ok (.iastore, 1) := by decide +kernel
set_option maxRecDepth 20000 in
theorem dX10_swingOn_88 : decode cX10_swingOn 88 = .ok (.aload_n 0, 1) := by decide +kernel
set_option maxRecDepth 20000 in
theorem dX10_swingOn_89 : decode cX10_swingOn 89 = .ok (.getfield 28, 3) := by decide +kernel
set_option maxRecDepth 20000 in
theorem dX10_swingOn_92 : decode cX10_swingOn 92 = .ok (.iload_n 1, 1) := by decide +kernel
set_option maxRecDepth 20000 in
theorem dX10_swingOn_93 : decode cX10_swingOn 93 = .ok (.sipush 9999, 3) := by decide +kernel
set_option maxRecDepth 20000 in
theorem dX10_swingOn_96 : decode cX10_swingOn 96 = .ok (.aload_n 0, 1) := by decide +kernel
set_option maxRecDepth 20000 in
theorem dX10_swingOn_97 : decode cX10_swingOn 97 = .ok (.getfield 28, 3) := by decide +kernel
set_option maxRecDepth 20000 in
theorem dX10_swingOn_100 : decode cX10_swingOn 100 = .ok (.iload_n 1, 1) := by decide +kernel
set_option maxRecDepth 20000 in
theorem dX10_swingOn_101 : decode cX10_swingOn 101 = .ok (.iaload, 1) := by decide +kernel
set_option maxRecDepth 20000 in
theorem dX10_swingOn_102 : decode cX10_swingOn 102 = .ok (.iconst 1, 1) := by decide +kernel
set_option maxRecDepth 20000 in
theorem dX10_swingOn_103 : decode cX10_swingOn 103 = .ok (.iadd, 1) := by decide +kernel
set_option maxRecDepth 20000 in
theorem dX10_swingOn_104 : decode cX10_swingOn 104 = .ok (.invokestatic 113, 3) := by decide +kernel
set_option maxRecDepth 20000 in
theorem dX10_swingOn_107 : decode cX10_swingOn 107 = .ok (.iastore, 1) := by decide +kernel
set_option maxRecDepth 20000 in
theorem dX10_swingOn_108 : decode cX10_swingOn 108 = .ok (.return_, 1) := by decide +kernel
set_option maxRecDepth 20000 in
theorem kt_X10_swingOn_0 (g : gx_T) : ∀ q ∈ k_X10_swingOn_0, gx_E g gc_md RX10 cX10_swingOn 3 (none) "swingOn" q.1 q.2 := List.forall_mem_cons.mpr ⟨(gs_aload_n dX10_swingOn_0 rfl), List.forall_mem_cons.mpr ⟨
  (gs_gf (ref := "GriefCranes$Yard") dX10_swingOn_1 (gx_mem 333 (by decide +kernel) (by decide +kernel)) (Or.inl rfl) gf_10_13), List.forall_mem_cons.mpr ⟨
  (gs_iload_n dX10_swingOn_4 rfl), List.forall_mem_cons.mpr ⟨
  (gs_bipush dX10_swingOn_5 rfl), List.forall_mem_cons.mpr ⟨
  (gs_aload_n dX10_swingOn_7 rfl), List.forall_mem_cons.mpr ⟨
  (gs_gf (ref := "GriefCranes$Yard") dX10_swingOn_8 (gx_mem 333 (by decide +kernel) (by decide +kernel)) (Or.inl rfl) gf_10_13), List.forall_mem_cons.mpr ⟨
  (gs_iload_n dX10_swingOn_11 rfl), List.forall_mem_cons.mpr ⟨
  (gs_iaload dX10_swingOn_12), List.forall_mem_cons.mpr ⟨
  (gs_aload_n dX10_swingOn_13 rfl), List.forall_mem_cons.mpr ⟨
  (gs_gf (ref := "GriefCranes$Yard") dX10_swingOn_14 (gx_mem 307 (by decide +kernel) (by decide +kernel)) (Or.inl rfl) gf_10_3), List.forall_mem_cons.mpr ⟨
  (gs_aload_n dX10_swingOn_17 rfl), List.forall_mem_cons.mpr ⟨
  (gs_gf (ref := "GriefCranes$Yard") dX10_swingOn_18 (gx_mem 304 (by decide +kernel) (by decide +kernel)) (Or.inl rfl) gf_10_2), List.forall_mem_cons.mpr ⟨
  (gs_iconst dX10_swingOn_21 rfl), List.forall_mem_cons.mpr ⟨
  (gs_iand dX10_swingOn_22), List.forall_mem_cons.mpr ⟨
  (gs_iaload dX10_swingOn_23), List.forall_mem_cons.mpr ⟨
  (gs_iadd dX10_swingOn_24), List.forall_mem_cons.mpr ⟨
  (gs_min dX10_swingOn_25 (List.forall_mem_cons.mpr ⟨gx_mem 540 (by decide +kernel) (by decide +kernel), List.forall_mem_cons.mpr ⟨gx_mem 484 (by decide +kernel) (by decide +kernel), List.forall_mem_cons.mpr ⟨gx_mem 97 (by decide +kernel) (by decide +kernel), List.forall_mem_cons.mpr ⟨cw_485, fun _ h => absurd h List.not_mem_nil⟩⟩⟩⟩)), List.forall_mem_cons.mpr ⟨
  (gs_iastore dX10_swingOn_28), List.forall_mem_cons.mpr ⟨
  (gs_aload_n dX10_swingOn_29 rfl), List.forall_mem_cons.mpr ⟨
  (gs_gf (ref := "GriefCranes$Yard") dX10_swingOn_30 (gx_mem 335 (by decide +kernel) (by decide +kernel)) (Or.inl rfl) gf_10_14), List.forall_mem_cons.mpr ⟨
  (gs_iload_n dX10_swingOn_33 rfl), List.forall_mem_cons.mpr ⟨
  (gs_dup2 dX10_swingOn_34), List.forall_mem_cons.mpr ⟨
  (gs_iaload dX10_swingOn_35), List.forall_mem_cons.mpr ⟨
  (gs_iconst dX10_swingOn_36 rfl), List.forall_mem_cons.mpr ⟨
  (gs_iadd dX10_swingOn_37), List.forall_mem_cons.mpr ⟨
  (gs_iastore dX10_swingOn_38), List.forall_mem_cons.mpr ⟨
  (gs_aload_n dX10_swingOn_39 rfl), List.forall_mem_cons.mpr ⟨
  (gs_gf (ref := "GriefCranes$Yard") dX10_swingOn_40 (gx_mem 333 (by decide +kernel) (by decide +kernel)) (Or.inl rfl) gf_10_13), List.forall_mem_cons.mpr ⟨
  (gs_iload_n dX10_swingOn_43 rfl), List.forall_mem_cons.mpr ⟨
  (gs_iaload dX10_swingOn_44), List.forall_mem_cons.mpr ⟨
  (gs_aload_n dX10_swingOn_45 rfl), List.forall_mem_cons.mpr ⟨
  (gs_gf (ref := "GriefCranes$Yard") dX10_swingOn_46 (gx_mem 302 (by decide +kernel) (by decide +kernel)) (Or.inl rfl) gf_10_1), fun _ h => absurd h List.not_mem_nil⟩⟩⟩⟩⟩⟩⟩⟩⟩⟩⟩⟩⟩⟩⟩⟩⟩⟩⟩⟩⟩⟩⟩⟩⟩⟩⟩⟩⟩⟩⟩⟩
set_option maxRecDepth 20000 in
theorem kt_X10_swingOn_1 (g : gx_T) : ∀ q ∈ k_X10_swingOn_1, gx_E g gc_md RX10 cX10_swingOn 3 (none) "swingOn" q.1 q.2 := List.forall_mem_cons.mpr ⟨(gs_gf (ref := "GriefCranes$Firm") dX10_swingOn_49 (gx_mem 148 (by decide +kernel) (by decide +kernel)) (Or.inl rfl) gf_1_0), List.forall_mem_cons.mpr ⟨
  (gs_icmp_le dX10_swingOn_52 rfl), List.forall_mem_cons.mpr ⟨
  (gs_aload_n dX10_swingOn_55 rfl), List.forall_mem_cons.mpr ⟨
  (gs_gf (ref := "GriefCranes$Yard") dX10_swingOn_56 (gx_mem 331 (by decide +kernel) (by decide +kernel)) (Or.inl rfl) gf_10_12), List.forall_mem_cons.mpr ⟨
  (gs_iload_n dX10_swingOn_59 rfl), List.forall_mem_cons.mpr ⟨
  (gs_iconst dX10_swingOn_60 rfl), List.forall_mem_cons.mpr ⟨
  (gs_iastore dX10_swingOn_61), List.forall_mem_cons.mpr ⟨
  (gs_goto dX10_swingOn_62 rfl), List.forall_mem_cons.mpr ⟨
  (gs_aload_n dX10_swingOn_65 rfl), List.forall_mem_cons.mpr ⟨
  (gs_gf (ref := "GriefCranes$Yard") dX10_swingOn_66 (gx_mem 335 (by decide +kernel) (by decide +kernel)) (Or.inl rfl) gf_10_14), List.forall_mem_cons.mpr ⟨
  (gs_iload_n dX10_swingOn_69 rfl), List.forall_mem_cons.mpr ⟨
  (gs_iaload dX10_swingOn_70), List.forall_mem_cons.mpr ⟨
  (gs_aload_n dX10_swingOn_71 rfl), List.forall_mem_cons.mpr ⟨
  (gs_gf (ref := "GriefCranes$Yard") dX10_swingOn_72 (gx_mem 302 (by decide +kernel) (by decide +kernel)) (Or.inl rfl) gf_10_1), List.forall_mem_cons.mpr ⟨
  (gs_gf (ref := "GriefCranes$Firm") dX10_swingOn_75 (gx_mem 151 (by decide +kernel) (by decide +kernel)) (Or.inl rfl) gf_1_1), List.forall_mem_cons.mpr ⟨
  (gs_icmp_lt dX10_swingOn_78 rfl), List.forall_mem_cons.mpr ⟨
  (gs_aload_n dX10_swingOn_81 rfl), List.forall_mem_cons.mpr ⟨
  (gs_gf (ref := "GriefCranes$Yard") dX10_swingOn_82 (gx_mem 331 (by decide +kernel) (by decide +kernel)) (Or.inl rfl) gf_10_12), List.forall_mem_cons.mpr ⟨
  (gs_iload_n dX10_swingOn_85 rfl), List.forall_mem_cons.mpr ⟨
  (gs_iconst dX10_swingOn_86 rfl), List.forall_mem_cons.mpr ⟨
  (gs_iastore dX10_swingOn_87), List.forall_mem_cons.mpr ⟨
  (gs_aload_n dX10_swingOn_88 rfl), List.forall_mem_cons.mpr ⟨
  (gs_gf (ref := "GriefCranes$Yard") dX10_swingOn_89 (gx_mem 318 (by decide +kernel) (by decide +kernel)) (Or.inl rfl) gf_10_7), List.forall_mem_cons.mpr ⟨
  (gs_iload_n dX10_swingOn_92 rfl), List.forall_mem_cons.mpr ⟨
  (gs_sipush dX10_swingOn_93 rfl), List.forall_mem_cons.mpr ⟨
  (gs_aload_n dX10_swingOn_96 rfl), List.forall_mem_cons.mpr ⟨
  (gs_gf (ref := "GriefCranes$Yard") dX10_swingOn_97 (gx_mem 318 (by decide +kernel) (by decide +kernel)) (Or.inl rfl) gf_10_7), List.forall_mem_cons.mpr ⟨
  (gs_iload_n dX10_swingOn_100 rfl), List.forall_mem_cons.mpr ⟨
  (gs_iaload dX10_swingOn_101), List.forall_mem_cons.mpr ⟨
  (gs_iconst dX10_swingOn_102 rfl), List.forall_mem_cons.mpr ⟨
  (gs_iadd dX10_swingOn_103), List.forall_mem_cons.mpr ⟨
  (gs_min dX10_swingOn_104 (List.forall_mem_cons.mpr ⟨gx_mem 540 (by decide +kernel) (by decide +kernel), List.forall_mem_cons.mpr ⟨gx_mem 484 (by decide +kernel) (by decide +kernel), List.forall_mem_cons.mpr ⟨gx_mem 97 (by decide +kernel) (by decide +kernel), List.forall_mem_cons.mpr ⟨cw_485, fun _ h => absurd h List.not_mem_nil⟩⟩⟩⟩)), fun _ h => absurd h List.not_mem_nil⟩⟩⟩⟩⟩⟩⟩⟩⟩⟩⟩⟩⟩⟩⟩⟩⟩⟩⟩⟩⟩⟩⟩⟩⟩⟩⟩⟩⟩⟩⟩⟩
set_option maxRecDepth 20000 in
theorem kt_X10_swingOn_2 (g : gx_T) : ∀ q ∈ k_X10_swingOn_2, gx_E g gc_md RX10 cX10_swingOn 3 (none) "swingOn" q.1 q.2 := List.forall_mem_cons.mpr ⟨(gs_iastore dX10_swingOn_107), List.forall_mem_cons.mpr ⟨
  (gs_rv dX10_swingOn_108), fun _ h => absurd h List.not_mem_nil⟩⟩
theorem kt_X10_swingOn (g : gx_T) : ∀ q ∈ k_X10_swingOn, gx_E g gc_md RX10 cX10_swingOn 3 (none) "swingOn" q.1 q.2 := List.forall_mem_append.mpr ⟨kt_X10_swingOn_0 g, List.forall_mem_append.mpr ⟨kt_X10_swingOn_1 g, kt_X10_swingOn_2 g⟩⟩
set_option maxRecDepth 20000 in
theorem dX11_init_0 : decode cX11_init 0 = .ok (.aload_n 0, 1) := by decide +kernel
set_option maxRecDepth 20000 in
theorem dX11_init_1 : decode cX11_init 1 = .ok (.invokespecial 3, 3) := by decide +kernel
set_option maxRecDepth 20000 in
theorem dX11_init_4 : decode cX11_init 4 = .ok (.aload_n 0, 1) := by decide +kernel
set_option maxRecDepth 20000 in
theorem dX11_init_5 : decode cX11_init 5 = .ok (.new 9, 3) := by decide +kernel
set_option maxRecDepth 20000 in
theorem dX11_init_8 : decode cX11_init 8 = .ok (.dup, 1) := by decide +kernel
set_option maxRecDepth 20000 in
theorem dX11_init_9 : decode cX11_init 9 = .ok (.iconst 5, 1) := by decide +kernel
set_option maxRecDepth 20000 in
theorem dX11_init_10 : decode cX11_init 10 = .ok (.invokespecial 13, 3) := by decide +kernel
set_option maxRecDepth 20000 in
theorem dX11_init_13 : decode cX11_init 13 = .ok (.putfield 16, 3) := by decide +kernel
set_option maxRecDepth 20000 in
theorem dX11_init_16 : decode cX11_init 16 = .ok (.aload_n 0, 1) := by decide +kernel
set_option maxRecDepth 20000 in
theorem dX11_init_17 : decode cX11_init 17 = .ok (.new 9, 3) := by decide +kernel
set_option maxRecDepth 20000 in
theorem dX11_init_20 : decode cX11_init 20 = .ok (.dup, 1) := by decide +kernel
set_option maxRecDepth 20000 in
theorem dX11_init_21 : decode cX11_init 21 = .ok (.iconst 5, 1) := by decide +kernel
set_option maxRecDepth 20000 in
theorem dX11_init_22 : decode cX11_init 22 = .ok (.invokespecial 13, 3) := by decide +kernel
set_option maxRecDepth 20000 in
theorem dX11_init_25 : decode cX11_init 25 = .ok (.putfield 20, 3) := by decide +kernel
set_option maxRecDepth 20000 in
theorem dX11_init_28 : decode cX11_init 28 = .ok (.aload_n 0, 1) := by decide +kernel
set_option maxRecDepth 20000 in
theorem dX11_init_29 : decode cX11_init 29 = .ok (.new 9, 3) := by decide +kernel
set_option maxRecDepth 20000 in
theorem dX11_init_32 : decode cX11_init 32 = .ok (.dup, 1) := by decide +kernel
set_option maxRecDepth 20000 in
theorem dX11_init_33 : decode cX11_init 33 = .ok (.bipush 10, 2) := by decide +kernel
set_option maxRecDepth 20000 in
theorem dX11_init_35 : decode cX11_init 35 = .ok (.invokespecial 13, 3) := by decide +kernel
set_option maxRecDepth 20000 in
theorem dX11_init_38 : decode cX11_init 38 = .ok (.putfield 23, 3) := by decide +kernel
set_option maxRecDepth 20000 in
theorem dX11_init_41 : decode cX11_init 41 = .ok (.aload_n 0, 1) := by decide +kernel
set_option maxRecDepth 20000 in
theorem dX11_init_42 : decode cX11_init 42 = .ok (.new 9, 3) := by decide +kernel
set_option maxRecDepth 20000 in
theorem dX11_init_45 : decode cX11_init 45 = .ok (.dup, 1) := by decide +kernel
set_option maxRecDepth 20000 in
theorem dX11_init_46 : decode cX11_init 46 = .ok (.bipush 10, 2) := by decide +kernel
set_option maxRecDepth 20000 in
theorem dX11_init_48 : decode cX11_init 48 = .ok (.invokespecial 13, 3) := by decide +kernel
set_option maxRecDepth 20000 in
theorem dX11_init_51 : decode cX11_init 51 = .ok (.putfield 26, 3) := by decide +kernel
set_option maxRecDepth 20000 in
theorem dX11_init_54 : decode cX11_init 54 = .ok (.aload_n 0, 1) := by decide +kernel
set_option maxRecDepth 20000 in
theorem dX11_init_55 : decode cX11_init 55 = .ok (.new 9, 3) := by decide +kernel
set_option maxRecDepth 20000 in
theorem dX11_init_58 : decode cX11_init 58 = .ok (.dup, 1) := by decide +kernel
set_option maxRecDepth 20000 in
theorem dX11_init_59 : decode cX11_init 59 = .ok (.bipush 8, 2) := by decide +kernel
set_option maxRecDepth 20000 in
theorem dX11_init_61 : decode cX11_init 61 = .ok (.invokespecial 13, 3) := by decide +kernel
set_option maxRecDepth 20000 in
theorem dX11_init_64 : decode cX11_init 64 = .ok (.putfield 29, 3) := by decide +kernel
set_option maxRecDepth 20000 in
theorem dX11_init_67 : decode cX11_init 67 = .ok (.aload_n 0, 1) := by decide +kernel
set_option maxRecDepth 20000 in
theorem dX11_init_68 : decode cX11_init 68 = .ok (.new 9, 3) := by decide +kernel
set_option maxRecDepth 20000 in
theorem dX11_init_71 : decode cX11_init 71 = .ok (.dup, 1) := by decide +kernel
set_option maxRecDepth 20000 in
theorem dX11_init_72 : decode cX11_init 72 = .ok (.bipush 8, 2) := by decide +kernel
set_option maxRecDepth 20000 in
theorem dX11_init_74 : decode cX11_init 74 = .ok (.invokespecial 13, 3) := by decide +kernel
set_option maxRecDepth 20000 in
theorem dX11_init_77 : decode cX11_init 77 = .ok (.putfield 32, 3) := by decide +kernel
set_option maxRecDepth 20000 in
theorem dX11_init_80 : decode cX11_init 80 = .ok (.aload_n 0, 1) := by decide +kernel
set_option maxRecDepth 20000 in
theorem dX11_init_81 : decode cX11_init 81 = .ok (.iconst 0, 1) := by decide +kernel
set_option maxRecDepth 20000 in
theorem dX11_init_82 : decode cX11_init 82 = .ok (.putfield 35, 3) := by decide +kernel
set_option maxRecDepth 20000 in
theorem dX11_init_85 : decode cX11_init 85 = .ok (.aload_n 0, 1) := by decide +kernel
set_option maxRecDepth 20000 in
theorem dX11_init_86 : decode cX11_init 86 = .ok (.bipush 100, 2) := by decide +kernel
set_option maxRecDepth 20000 in
theorem dX11_init_88 : decode cX11_init 88 = .ok (.newarray .byte, 2) := by decide +kernel
set_option maxRecDepth 20000 in
theorem dX11_init_90 : decode cX11_init 90 = .ok (.putfield 39, 3) := by decide +kernel
set_option maxRecDepth 20000 in
theorem dX11_init_93 : decode cX11_init 93 = .ok (.aload_n 0, 1) := by decide +kernel
set_option maxRecDepth 20000 in
theorem dX11_init_94 : decode cX11_init 94 = .ok (.iconst 0, 1) := by decide +kernel
set_option maxRecDepth 20000 in
theorem dX11_init_95 : decode cX11_init 95 = .ok (.putfield 43, 3) := by decide +kernel
set_option maxRecDepth 20000 in
theorem dX11_init_98 : decode cX11_init 98 = .ok (.aload_n 0, 1) := by decide +kernel
set_option maxRecDepth 20000 in
theorem dX11_init_99 : decode cX11_init 99 = .ok (.bipush 6, 2) := by decide +kernel
set_option maxRecDepth 20000 in
theorem dX11_init_101 : decode cX11_init 101 = .ok (.anewarray 47, 3) := by decide +kernel
set_option maxRecDepth 20000 in
theorem dX11_init_104 : decode cX11_init 104 = .ok (.putfield 49, 3) := by decide +kernel
set_option maxRecDepth 20000 in
theorem dX11_init_107 : decode cX11_init 107 = .ok (.aload_n 0, 1) := by decide +kernel
set_option maxRecDepth 20000 in
theorem dX11_init_108 : decode cX11_init 108 = .ok (.iconst 0, 1) := by decide +kernel
set_option maxRecDepth 20000 in
theorem dX11_init_109 : decode cX11_init 109 = .ok (.putfield 53, 3) := by decide +kernel
set_option maxRecDepth 20000 in
theorem dX11_init_112 : decode cX11_init 112 = .ok (.aload_n 0, 1) := by decide +kernel
set_option maxRecDepth 20000 in
theorem dX11_init_113 : decode cX11_init 113 = .ok (.aconst_null, 1) := by decide +kernel
set_option maxRecDepth 20000 in
theorem dX11_init_114 : decode cX11_init 114 = .ok (.putfield 56, 3) := by decide +kernel
set_option maxRecDepth 20000 in
theorem dX11_init_117 : decode cX11_init 117 = .ok (.aload_n 0, 1) := by decide +kernel
set_option maxRecDepth 20000 in
theorem dX11_init_118 : decode cX11_init 118 = .ok (.bipush 6, 2) := by decide +kernel
set_option maxRecDepth 20000 in
theorem dX11_init_120 : decode cX11_init 120 = .ok (.anewarray 60, 3) := by decide +kernel
set_option maxRecDepth 20000 in
theorem dX11_init_123 : decode cX11_init 123 = .ok (.putfield 62, 3) := by decide +kernel
set_option maxRecDepth 20000 in
theorem dX11_init_126 : decode cX11_init 126 = .ok (.iconst 0, 1) := by decide +kernel
set_option maxRecDepth 20000 in
theorem dX11_init_127 : decode cX11_init 127 = .ok (.istore_n 1, 1) := by decide +kernel
set_option maxRecDepth 20000 in
theorem dX11_init_128 : decode cX11_init 128 = .ok (.iload_n 1, 1) := by decide +kernel
set_option maxRecDepth 20000 in
theorem dX11_init_129 : decode cX11_init 129 = .ok (.bipush 6, 2) := by decide +kernel
set_option maxRecDepth 20000 in
theorem dX11_init_131 : decode cX11_init 131 = .ok (.if_icmp .ge 22, 3) := by decide +kernel
set_option maxRecDepth 20000 in
theorem dX11_init_134 : decode cX11_init 134 = .ok (.aload_n 0, 1) := by decide +kernel
set_option maxRecDepth 20000 in
theorem dX11_init_135 : decode cX11_init 135 = .ok (.getfield 49, 3) := by decide +kernel
set_option maxRecDepth 20000 in
theorem dX11_init_138 : decode cX11_init 138 = .ok (.iload_n 1, 1) := by decide +kernel
set_option maxRecDepth 20000 in
theorem dX11_init_139 : decode cX11_init 139 = .ok (.new 47, 3) := by decide +kernel
set_option maxRecDepth 20000 in
theorem dX11_init_142 : decode cX11_init 142 = .ok (.dup, 1) := by decide +kernel
set_option maxRecDepth 20000 in
theorem dX11_init_143 : decode cX11_init 143 = .ok (.invokespecial 66, 3) := by decide +kernel
set_option maxRecDepth 20000 in
theorem dX11_init_146 : decode cX11_init 146 = .ok (.aastore, 1) := by decide +kernel
set_option maxRecDepth 20000 in
theorem dX11_init_147 : decode cX11_init 147 = .ok (.iinc 1 1, 3) := by decide +kernel
set_option maxRecDepth 20000 in
theorem dX11_init_150 : decode cX11_init 150 = .ok (.goto (-22), 3) := by decide +kernel
set_option maxRecDepth 20000 in
theorem dX11_init_153 : decode cX11_init 153 = .ok (.iconst 0, 1) := by decide +kernel
set_option maxRecDepth 20000 in
theorem dX11_init_154 : decode cX11_init 154 = .ok (.istore_n 1, 1) := by decide +kernel
set_option maxRecDepth 20000 in
theorem dX11_init_155 : decode cX11_init 155 = .ok (.iload_n 1, 1) := by decide +kernel
set_option maxRecDepth 20000 in
theorem dX11_init_156 : decode cX11_init 156 = .ok (.bipush 6, 2) := by decide +kernel
set_option maxRecDepth 20000 in
theorem dX11_init_158 : decode cX11_init 158 = .ok (.if_icmp .ge 22, 3) := by decide +kernel
set_option maxRecDepth 20000 in
theorem dX11_init_161 : decode cX11_init 161 = .ok (.aload_n 0, 1) := by decide +kernel
set_option maxRecDepth 20000 in
theorem dX11_init_162 : decode cX11_init 162 = .ok (.getfield 62, 3) := by decide +kernel
set_option maxRecDepth 20000 in
theorem dX11_init_165 : decode cX11_init 165 = .ok (.iload_n 1, 1) := by decide +kernel
set_option maxRecDepth 20000 in
theorem dX11_init_166 : decode cX11_init 166 = .ok (.new 60, 3) := by decide +kernel
set_option maxRecDepth 20000 in
theorem dX11_init_169 : decode cX11_init 169 = .ok (.dup, 1) := by decide +kernel
set_option maxRecDepth 20000 in
theorem dX11_init_170 : decode cX11_init 170 = .ok (.invokespecial 67, 3) := by decide +kernel
set_option maxRecDepth 20000 in
theorem dX11_init_173 : decode cX11_init 173 = .ok (.aastore, 1) := by decide +kernel
set_option maxRecDepth 20000 in
theorem dX11_init_174 : decode cX11_init 174 = .ok (.iinc 1 1, 3) := by decide +kernel
set_option maxRecDepth 20000 in
theorem dX11_init_177 : decode cX11_init 177 = .ok (.goto (-22), 3) := by decide +kernel
set_option maxRecDepth 20000 in
theorem dX11_init_180 : decode cX11_init 180 = .ok (.bipush 7, 2) := by decide +kernel
set_option maxRecDepth 20000 in
theorem dX11_init_182 : decode cX11_init 182 = .ok (.anewarray 68, 3) := by decide +kernel
set_option maxRecDepth 20000 in
theorem dX11_init_185 : decode cX11_init 185 = .ok (.dup, 1) := by decide +kernel
set_option maxRecDepth 20000 in
theorem dX11_init_186 : decode cX11_init 186 = .ok (.iconst 0, 1) := by decide +kernel
set_option maxRecDepth 20000 in
theorem dX11_init_187 : decode cX11_init 187 = .ok (.new 68, 3) := by decide +kernel
set_option maxRecDepth 20000 in
theorem dX11_init_190 : decode cX11_init 190 = .ok (.dup, 1) := by decide +kernel
set_option maxRecDepth 20000 in
theorem dX11_init_191 : decode cX11_init 191 = .ok (.invokespecial 70, 3) := by decide +kernel
set_option maxRecDepth 20000 in
theorem dX11_init_194 : decode cX11_init 194 = .ok (.aastore, 1) := by decide +kernel
set_option maxRecDepth 20000 in
theorem dX11_init_195 : decode cX11_init 195 = .ok (.dup, 1) := by decide +kernel
set_option maxRecDepth 20000 in
theorem dX11_init_196 : decode cX11_init 196 = .ok (.iconst 1, 1) := by decide +kernel
set_option maxRecDepth 20000 in
theorem dX11_init_197 : decode cX11_init 197 = .ok (.new 71, 3) := by decide +kernel
set_option maxRecDepth 20000 in
theorem dX11_init_200 : decode cX11_init 200 = .ok (.dup, 1) := by decide +kernel
set_option maxRecDepth 20000 in
theorem dX11_init_201 : decode cX11_init 201 = .ok (.invokespecial 73, 3) := by decide +kernel
set_option maxRecDepth 20000 in
theorem dX11_init_204 : decode cX11_init 204 = .ok (.aastore, 1) := by decide +kernel
set_option maxRecDepth 20000 in
theorem dX11_init_205 : decode cX11_init 205 = .ok (.dup, 1) := by decide +kernel
set_option maxRecDepth 20000 in
theorem dX11_init_206 : decode cX11_init 206 = .ok (.iconst 2, 1) := by decide +kernel
set_option maxRecDepth 20000 in
theorem dX11_init_207 : decode cX11_init 207 = .ok (.new 74, 3) := by decide +kernel
set_option maxRecDepth 20000 in
theorem dX11_init_210 : decode cX11_init 210 = .ok (.dup, 1) := by decide +kernel
set_option maxRecDepth 20000 in
theorem dX11_init_211 : decode cX11_init 211 = .ok (.invokespecial 76, 3) := by decide +kernel
set_option maxRecDepth 20000 in
theorem dX11_init_214 : decode cX11_init 214 = .ok (.aastore, 1) := by decide +kernel
set_option maxRecDepth 20000 in
theorem dX11_init_215 : decode cX11_init 215 = .ok (.dup, 1) := by decide +kernel
set_option maxRecDepth 20000 in
theorem dX11_init_216 : decode cX11_init 216 = .ok (.iconst 3, 1) := by decide +kernel
set_option maxRecDepth 20000 in
theorem dX11_init_217 : decode cX11_init 217 = .ok (.new 77, 3) := by decide +kernel
set_option maxRecDepth 20000 in
theorem dX11_init_220 : decode cX11_init 220 = .ok (.dup, 1) := by decide +kernel
set_option maxRecDepth 20000 in
theorem dX11_init_221 : decode cX11_init 221 = .ok (.invokespecial 79, 3) := by decide +kernel
set_option maxRecDepth 20000 in
theorem dX11_init_224 : decode cX11_init 224 = .ok (.aastore, 1) := by decide +kernel
set_option maxRecDepth 20000 in
theorem dX11_init_225 : decode cX11_init 225 = .ok (.dup, 1) := by decide +kernel
set_option maxRecDepth 20000 in
theorem dX11_init_226 : decode cX11_init 226 = .ok (.iconst 4, 1) := by decide +kernel
set_option maxRecDepth 20000 in
theorem dX11_init_227 : decode cX11_init 227 = .ok (.new 80, 3) := by decide +kernel
set_option maxRecDepth 20000 in
theorem dX11_init_230 : decode cX11_init 230 = .ok (.dup, 1) := by decide +kernel
set_option maxRecDepth 20000 in
theorem dX11_init_231 : decode cX11_init 231 = .ok (.invokespecial 82, 3) := by decide +kernel
set_option maxRecDepth 20000 in
theorem dX11_init_234 : decode cX11_init 234 = .ok (.aastore, 1) := by decide +kernel
set_option maxRecDepth 20000 in
theorem dX11_init_235 : decode cX11_init 235 = .ok (.dup, 1) := by decide +kernel
set_option maxRecDepth 20000 in
theorem dX11_init_236 : decode cX11_init 236 = .ok (.iconst 5, 1) := by decide +kernel
set_option maxRecDepth 20000 in
theorem dX11_init_237 : decode cX11_init 237 = .ok (.new 83, 3) := by decide +kernel
set_option maxRecDepth 20000 in
theorem dX11_init_240 : decode cX11_init 240 = .ok (.dup, 1) := by decide +kernel
set_option maxRecDepth 20000 in
theorem dX11_init_241 : decode cX11_init 241 = .ok (.invokespecial 85, 3) := by decide +kernel
set_option maxRecDepth 20000 in
theorem dX11_init_244 : decode cX11_init 244 = .ok (.aastore, 1) := by decide +kernel
set_option maxRecDepth 20000 in
theorem dX11_init_245 : decode cX11_init 245 = .ok (.dup, 1) := by decide +kernel
set_option maxRecDepth 20000 in
theorem dX11_init_246 : decode cX11_init 246 = .ok (.bipush 6, 2) := by decide +kernel
set_option maxRecDepth 20000 in
theorem dX11_init_248 : decode cX11_init 248 = .ok (.new 86, 3) := by decide +kernel
set_option maxRecDepth 20000 in
theorem dX11_init_251 : decode cX11_init 251 = .ok (.dup, 1) := by decide +kernel
set_option maxRecDepth 20000 in
theorem dX11_init_252 : decode cX11_init 252 = .ok (.invokespecial 88, 3) := by decide +kernel
set_option maxRecDepth 20000 in
theorem dX11_init_255 : decode cX11_init 255 = .ok (.aastore, 1) := by decide +kernel
set_option maxRecDepth 20000 in
theorem dX11_init_256 : decode cX11_init 256 = .ok (.astore_n 1, 1) := by decide +kernel
set_option maxRecDepth 20000 in
theorem dX11_init_257 : decode cX11_init 257 = .ok (.new 47, 3) := by decide +kernel
set_option maxRecDepth 20000 in
theorem dX11_init_260 : decode cX11_init 260 = .ok (.dup, 1) := by decide +kernel
set_option maxRecDepth 20000 in
theorem dX11_init_261 : decode cX11_init 261 = .ok (.invokespecial 66, 3) := by decide +kernel
set_option maxRecDepth 20000 in
theorem dX11_init_264 : decode cX11_init 264 = .ok (.astore_n 2, 1) := by decide +kernel
set_option maxRecDepth 20000 in
theorem dX11_init_265 : decode cX11_init 265 = .ok (.aload_n 0, 1) := by decide +kernel
set_option maxRecDepth 20000 in
theorem dX11_init_266 : decode cX11_init 266 = .ok (.aload_n 1, 1) := by decide +kernel
set_option maxRecDepth 20000 in
theorem dX11_init_267 : decode cX11_init 267 = .ok (.putfield 89, 3) := by decide +kernel
set_option maxRecDepth 20000 in
theorem dX11_init_270 : decode cX11_init 270 = .ok (.aload_n 0, 1) := by decide +kernel
set_option maxRecDepth 20000 in
theorem dX11_init_271 : decode cX11_init 271 = .ok (.new 93, 3) := by decide +kernel
set_option maxRecDepth 20000 in
theorem dX11_init_274 : decode cX11_init 274 = .ok (.dup, 1) := by decide +kernel
set_option maxRecDepth 20000 in
theorem dX11_init_275 : decode cX11_init 275 = .ok (.aload_n 1, 1) := by decide +kernel
set_option maxRecDepth 20000 in
theorem dX11_init_276 : decode cX11_init 276 = .ok (.aload_n 2, 1) := by decide +kernel
set_option maxRecDepth 20000 in
theorem dX11_init_277 : decode cX11_init 277 = .ok (.invokespecial 95, 3) := by decide +kernel
set_option maxRecDepth 20000 in
theorem dX11_init_280 : decode cX11_init 280 = .ok (.putfield 98, 3) := by decide +kernel
set_option maxRecDepth 20000 in
theorem dX11_init_283 : decode cX11_init 283 = .ok (.aload_n 0, 1) := by decide +kernel
set_option maxRecDepth 20000 in
theorem dX11_init_284 : decode cX11_init 284 = .ok (.new 93, 3) := by decide +kernel
set_option maxRecDepth 20000 in
theorem dX11_init_287 : decode cX11_init 287 = .ok (.dup, 1) := by decide +kernel
set_option maxRecDepth 20000 in
theorem dX11_init_288 : decode cX11_init 288 = .ok (.aload_n 1, 1) := by decide +kernel
set_option maxRecDepth 20000 in
theorem dX11_init_289 : decode cX11_init 289 = .ok (.aload_n 2, 1) := by decide +kernel
set_option maxRecDepth 20000 in
theorem dX11_init_290 : decode cX11_init 290 = .ok (.invokespecial 95, 3) := by decide +kernel
set_option maxRecDepth 20000 in
theorem dX11_init_293 : decode cX11_init 293 = .ok (.putfield 102, 3) := by decide +kernel
set_option maxRecDepth 20000 in
theorem dX11_init_296 : decode cX11_init 296 = .ok (.aload_n 0, 1) := by decide +kernel
set_option maxRecDepth 20000 in
theorem dX11_init_297 : decode cX11_init 297 = .ok (.new 93, 3) := by decide +kernel
set_option maxRecDepth 20000 in
theorem dX11_init_300 : decode cX11_init 300 = .ok (.dup, 1) := by decide +kernel
set_option maxRecDepth 20000 in
theorem dX11_init_301 : decode cX11_init 301 = .ok (.aload_n 1, 1) := by decide +kernel
set_option maxRecDepth 20000 in
theorem dX11_init_302 : decode cX11_init 302 = .ok (.aload_n 2, 1) := by decide +kernel
set_option maxRecDepth 20000 in
theorem dX11_init_303 : decode cX11_init 303 = .ok (.invokespecial 95, 3) := by decide +kernel
set_option maxRecDepth 20000 in
theorem dX11_init_306 : decode cX11_init 306 = .ok (.putfield 105, 3) := by decide +kernel
set_option maxRecDepth 20000 in
theorem dX11_init_309 : decode cX11_init 309 = .ok (.return_, 1) := by decide +kernel
set_option maxRecDepth 20000 in
theorem kt_X11_init_0 (g : gx_T) : ∀ q ∈ k_X11_init_0, gx_E g gc_md RX11 cX11_init 3 (none) "<init>" q.1 q.2 := List.forall_mem_cons.mpr ⟨(gs_aload_n dX11_init_0 rfl), List.forall_mem_cons.mpr ⟨
  (gs_oi dX11_init_1 (gx_mem 110 (by decide +kernel) (by decide +kernel)) (gx_mem 111 (by decide +kernel) (by decide +kernel)) (cw_112)), List.forall_mem_cons.mpr ⟨
  (gs_aload_n dX11_init_4 rfl), List.forall_mem_cons.mpr ⟨
  (gs_new (q := (RX5, TX5, 4)) (ty := tyX5) dX11_init_5 rfl gl_5 tyX5_ok (gx_mem 113 (by decide +kernel) (by decide +kernel)) (gx_mem 114 (by decide +kernel) (by decide +kernel)) (gx_mem 85 (by decide +kernel) (by decide +kernel)) rfl (by decide +kernel) rfl), List.forall_mem_cons.mpr ⟨
  (gs_dup dX11_init_8), List.forall_mem_cons.mpr ⟨
  (gs_iconst dX11_init_9 rfl), List.forall_mem_cons.mpr ⟨
  (gs_ci dX11_init_10 (md_33) (List.forall_mem_cons.mpr ⟨gx_mem 115 (by decide +kernel) (by decide +kernel), List.forall_mem_cons.mpr ⟨gx_mem 116 (by decide +kernel) (by decide +kernel), List.forall_mem_cons.mpr ⟨gx_mem 85 (by decide +kernel) (by decide +kernel), List.forall_mem_cons.mpr ⟨cw_117, fun _ h => absurd h List.not_mem_nil⟩⟩⟩⟩) (by decide +kernel) (by decide) rfl), List.forall_mem_cons.mpr ⟨
  (gs_pff dX11_init_13 (gx_mem 374 (by decide +kernel) (by decide +kernel)) gf_11_3 (by decide +kernel)), List.forall_mem_cons.mpr ⟨
  (gs_aload_n dX11_init_16 rfl), List.forall_mem_cons.mpr ⟨
  (gs_new (q := (RX5, TX5, 4)) (ty := tyX5) dX11_init_17 rfl gl_5 tyX5_ok (gx_mem 113 (by decide +kernel) (by decide +kernel)) (gx_mem 114 (by decide +kernel) (by decide +kernel)) (gx_mem 85 (by decide +kernel) (by decide +kernel)) rfl (by decide +kernel) rfl), List.forall_mem_cons.mpr ⟨
  (gs_dup dX11_init_20), List.forall_mem_cons.mpr ⟨
  (gs_iconst dX11_init_21 rfl), List.forall_mem_cons.mpr ⟨
  (gs_ci dX11_init_22 (md_33) (List.forall_mem_cons.mpr ⟨gx_mem 115 (by decide +kernel) (by decide +kernel), List.forall_mem_cons.mpr ⟨gx_mem 116 (by decide +kernel) (by decide +kernel), List.forall_mem_cons.mpr ⟨gx_mem 85 (by decide +kernel) (by decide +kernel), List.forall_mem_cons.mpr ⟨cw_117, fun _ h => absurd h List.not_mem_nil⟩⟩⟩⟩) (by decide +kernel) (by decide) rfl), List.forall_mem_cons.mpr ⟨
  (gs_pff dX11_init_25 (gx_mem 375 (by decide +kernel) (by decide +kernel)) gf_11_4 (by decide +kernel)), List.forall_mem_cons.mpr ⟨
  (gs_aload_n dX11_init_28 rfl), List.forall_mem_cons.mpr ⟨
  (gs_new (q := (RX5, TX5, 4)) (ty := tyX5) dX11_init_29 rfl gl_5 tyX5_ok (gx_mem 113 (by decide +kernel) (by decide +kernel)) (gx_mem 114 (by decide +kernel) (by decide +kernel)) (gx_mem 85 (by decide +kernel) (by decide +kernel)) rfl (by decide +kernel) rfl), List.forall_mem_cons.mpr ⟨
  (gs_dup dX11_init_32), List.forall_mem_cons.mpr ⟨
  (gs_bipush dX11_init_33 rfl), List.forall_mem_cons.mpr ⟨
  (gs_ci dX11_init_35 (md_33) (List.forall_mem_cons.mpr ⟨gx_mem 115 (by decide +kernel) (by decide +kernel), List.forall_mem_cons.mpr ⟨gx_mem 116 (by decide +kernel) (by decide +kernel), List.forall_mem_cons.mpr ⟨gx_mem 85 (by decide +kernel) (by decide +kernel), List.forall_mem_cons.mpr ⟨cw_117, fun _ h => absurd h List.not_mem_nil⟩⟩⟩⟩) (by decide +kernel) (by decide) rfl), List.forall_mem_cons.mpr ⟨
  (gs_pff dX11_init_38 (gx_mem 376 (by decide +kernel) (by decide +kernel)) gf_11_5 (by decide +kernel)), List.forall_mem_cons.mpr ⟨
  (gs_aload_n dX11_init_41 rfl), List.forall_mem_cons.mpr ⟨
  (gs_new (q := (RX5, TX5, 4)) (ty := tyX5) dX11_init_42 rfl gl_5 tyX5_ok (gx_mem 113 (by decide +kernel) (by decide +kernel)) (gx_mem 114 (by decide +kernel) (by decide +kernel)) (gx_mem 85 (by decide +kernel) (by decide +kernel)) rfl (by decide +kernel) rfl), List.forall_mem_cons.mpr ⟨
  (gs_dup dX11_init_45), List.forall_mem_cons.mpr ⟨
  (gs_bipush dX11_init_46 rfl), List.forall_mem_cons.mpr ⟨
  (gs_ci dX11_init_48 (md_33) (List.forall_mem_cons.mpr ⟨gx_mem 115 (by decide +kernel) (by decide +kernel), List.forall_mem_cons.mpr ⟨gx_mem 116 (by decide +kernel) (by decide +kernel), List.forall_mem_cons.mpr ⟨gx_mem 85 (by decide +kernel) (by decide +kernel), List.forall_mem_cons.mpr ⟨cw_117, fun _ h => absurd h List.not_mem_nil⟩⟩⟩⟩) (by decide +kernel) (by decide) rfl), List.forall_mem_cons.mpr ⟨
  (gs_pff dX11_init_51 (gx_mem 377 (by decide +kernel) (by decide +kernel)) gf_11_6 (by decide +kernel)), List.forall_mem_cons.mpr ⟨
  (gs_aload_n dX11_init_54 rfl), List.forall_mem_cons.mpr ⟨
  (gs_new (q := (RX5, TX5, 4)) (ty := tyX5) dX11_init_55 rfl gl_5 tyX5_ok (gx_mem 113 (by decide +kernel) (by decide +kernel)) (gx_mem 114 (by decide +kernel) (by decide +kernel)) (gx_mem 85 (by decide +kernel) (by decide +kernel)) rfl (by decide +kernel) rfl), List.forall_mem_cons.mpr ⟨
  (gs_dup dX11_init_58), List.forall_mem_cons.mpr ⟨
  (gs_bipush dX11_init_59 rfl), List.forall_mem_cons.mpr ⟨
  (gs_ci dX11_init_61 (md_33) (List.forall_mem_cons.mpr ⟨gx_mem 115 (by decide +kernel) (by decide +kernel), List.forall_mem_cons.mpr ⟨gx_mem 116 (by decide +kernel) (by decide +kernel), List.forall_mem_cons.mpr ⟨gx_mem 85 (by decide +kernel) (by decide +kernel), List.forall_mem_cons.mpr ⟨cw_117, fun _ h => absurd h List.not_mem_nil⟩⟩⟩⟩) (by decide +kernel) (by decide) rfl), List.forall_mem_cons.mpr ⟨
  (gs_pff dX11_init_64 (gx_mem 378 (by decide +kernel) (by decide +kernel)) gf_11_7 (by decide +kernel)), fun _ h => absurd h List.not_mem_nil⟩⟩⟩⟩⟩⟩⟩⟩⟩⟩⟩⟩⟩⟩⟩⟩⟩⟩⟩⟩⟩⟩⟩⟩⟩⟩⟩⟩⟩⟩⟩⟩
set_option maxRecDepth 20000 in
theorem kt_X11_init_1 (g : gx_T) : ∀ q ∈ k_X11_init_1, gx_E g gc_md RX11 cX11_init 3 (none) "<init>" q.1 q.2 := List.forall_mem_cons.mpr ⟨(gs_aload_n dX11_init_67 rfl), List.forall_mem_cons.mpr ⟨
  (gs_new (q := (RX5, TX5, 4)) (ty := tyX5) dX11_init_68 rfl gl_5 tyX5_ok (gx_mem 113 (by decide +kernel) (by decide +kernel)) (gx_mem 114 (by decide +kernel) (by decide +kernel)) (gx_mem 85 (by decide +kernel) (by decide +kernel)) rfl (by decide +kernel) rfl), List.forall_mem_cons.mpr ⟨
  (gs_dup dX11_init_71), List.forall_mem_cons.mpr ⟨
  (gs_bipush dX11_init_72 rfl), List.forall_mem_cons.mpr ⟨
  (gs_ci dX11_init_74 (md_33) (List.forall_mem_cons.mpr ⟨gx_mem 115 (by decide +kernel) (by decide +kernel), List.forall_mem_cons.mpr ⟨gx_mem 116 (by decide +kernel) (by decide +kernel), List.forall_mem_cons.mpr ⟨gx_mem 85 (by decide +kernel) (by decide +kernel), List.forall_mem_cons.mpr ⟨cw_117, fun _ h => absurd h List.not_mem_nil⟩⟩⟩⟩) (by decide +kernel) (by decide) rfl), List.forall_mem_cons.mpr ⟨
  (gs_pff dX11_init_77 (gx_mem 379 (by decide +kernel) (by decide +kernel)) gf_11_8 (by decide +kernel)), List.forall_mem_cons.mpr ⟨
  (gs_aload_n dX11_init_80 rfl), List.forall_mem_cons.mpr ⟨
  (gs_iconst dX11_init_81 rfl), List.forall_mem_cons.mpr ⟨
  (gs_pf (ref := "GriefCranes") dX11_init_82 (gx_mem 380 (by decide +kernel) (by decide +kernel)) (Or.inl rfl) gf_11_9 (by decide +kernel)), List.forall_mem_cons.mpr ⟨
  (gs_aload_n dX11_init_85 rfl), List.forall_mem_cons.mpr ⟨
  (gs_bipush dX11_init_86 rfl), List.forall_mem_cons.mpr ⟨
  (gs_newa (ty := .byte) dX11_init_88 rfl (gx_mem 181 (by decide +kernel) (by decide +kernel)) (by decide) (fun _ _ => rfl) rfl rfl (fun _ h => h)), List.forall_mem_cons.mpr ⟨
  (gs_pff dX11_init_90 (gx_mem 381 (by decide +kernel) (by decide +kernel)) gf_11_10 (by decide +kernel)), List.forall_mem_cons.mpr ⟨
  (gs_aload_n dX11_init_93 rfl), List.forall_mem_cons.mpr ⟨
  (gs_iconst dX11_init_94 rfl), List.forall_mem_cons.mpr ⟨
  (gs_pf (ref := "GriefCranes") dX11_init_95 (gx_mem 382 (by decide +kernel) (by decide +kernel)) (Or.inl rfl) gf_11_11 (by decide +kernel)), List.forall_mem_cons.mpr ⟨
  (gs_aload_n dX11_init_98 rfl), List.forall_mem_cons.mpr ⟨
  (gs_bipush dX11_init_99 rfl), List.forall_mem_cons.mpr ⟨
  (gs_anew (C := RX1) dX11_init_101 (gx_mem 137 (by decide +kernel) (by decide +kernel)) (fun _ h => h.2.1) rfl), List.forall_mem_cons.mpr ⟨
  (gs_pff dX11_init_104 (gx_mem 383 (by decide +kernel) (by decide +kernel)) gf_11_12 (by decide +kernel)), List.forall_mem_cons.mpr ⟨
  (gs_aload_n dX11_init_107 rfl), List.forall_mem_cons.mpr ⟨
  (gs_iconst dX11_init_108 rfl), List.forall_mem_cons.mpr ⟨
  (gs_pf (ref := "GriefCranes") dX11_init_109 (gx_mem 384 (by decide +kernel) (by decide +kernel)) (Or.inl rfl) gf_11_13 (by decide +kernel)), List.forall_mem_cons.mpr ⟨
  (gs_aload_n dX11_init_112 rfl), List.forall_mem_cons.mpr ⟨
  (gs_null dX11_init_113), List.forall_mem_cons.mpr ⟨
  (gs_pf (ref := "GriefCranes") dX11_init_114 (gx_mem 386 (by decide +kernel) (by decide +kernel)) (Or.inl rfl) gf_11_15 (by decide +kernel)), List.forall_mem_cons.mpr ⟨
  (gs_aload_n dX11_init_117 rfl), List.forall_mem_cons.mpr ⟨
  (gs_bipush dX11_init_118 rfl), List.forall_mem_cons.mpr ⟨
  (gs_anew (C := RX8) dX11_init_120 (gx_mem 139 (by decide +kernel) (by decide +kernel)) (fun _ h => h.2.2.1) rfl), List.forall_mem_cons.mpr ⟨
  (gs_pff dX11_init_123 (gx_mem 387 (by decide +kernel) (by decide +kernel)) gf_11_16 (by decide +kernel)), List.forall_mem_cons.mpr ⟨
  (gs_iconst dX11_init_126 rfl), List.forall_mem_cons.mpr ⟨
  (gs_istore_n dX11_init_127 rfl), fun _ h => absurd h List.not_mem_nil⟩⟩⟩⟩⟩⟩⟩⟩⟩⟩⟩⟩⟩⟩⟩⟩⟩⟩⟩⟩⟩⟩⟩⟩⟩⟩⟩⟩⟩⟩⟩⟩
set_option maxRecDepth 20000 in
theorem kt_X11_init_2 (g : gx_T) : ∀ q ∈ k_X11_init_2, gx_E g gc_md RX11 cX11_init 3 (none) "<init>" q.1 q.2 := List.forall_mem_cons.mpr ⟨(gs_iload_n dX11_init_128 rfl), List.forall_mem_cons.mpr ⟨
  (gs_bipush dX11_init_129 rfl), List.forall_mem_cons.mpr ⟨
  (gs_icmp_ge dX11_init_131 rfl), List.forall_mem_cons.mpr ⟨
  (gs_aload_n dX11_init_134 rfl), List.forall_mem_cons.mpr ⟨
  (gs_gf (ref := "GriefCranes") dX11_init_135 (gx_mem 383 (by decide +kernel) (by decide +kernel)) (Or.inl rfl) gf_11_12), List.forall_mem_cons.mpr ⟨
  (gs_iload_n dX11_init_138 rfl), List.forall_mem_cons.mpr ⟨
  (gs_new (q := (RX1, TX1, 10)) (ty := tyX1) dX11_init_139 rfl gl_1 tyX1_ok (gx_mem 137 (by decide +kernel) (by decide +kernel)) (gx_mem 141 (by decide +kernel) (by decide +kernel)) (gx_mem 86 (by decide +kernel) (by decide +kernel)) rfl (by decide +kernel) rfl), List.forall_mem_cons.mpr ⟨
  (gs_dup dX11_init_142), List.forall_mem_cons.mpr ⟨
  (gs_cin (host := RX11) dX11_init_143 (md_7) (by decide +kernel) (List.forall_mem_cons.mpr ⟨gx_mem 143 (by decide +kernel) (by decide +kernel), List.forall_mem_cons.mpr ⟨gx_mem 86 (by decide +kernel) (by decide +kernel), List.forall_mem_cons.mpr ⟨cw_144, fun _ h => absurd h List.not_mem_nil⟩⟩⟩) (by decide +kernel) (by decide) rfl), List.forall_mem_cons.mpr ⟨
  (gs_ast (E := RX1) dX11_init_146 rfl gast_6), List.forall_mem_cons.mpr ⟨
  (gs_iinc dX11_init_147), List.forall_mem_cons.mpr ⟨
  (gs_goto dX11_init_150 rfl), List.forall_mem_cons.mpr ⟨
  (gs_iconst dX11_init_153 rfl), List.forall_mem_cons.mpr ⟨
  (gs_istore_n dX11_init_154 rfl), List.forall_mem_cons.mpr ⟨
  (gs_iload_n dX11_init_155 rfl), List.forall_mem_cons.mpr ⟨
  (gs_bipush dX11_init_156 rfl), List.forall_mem_cons.mpr ⟨
  (gs_icmp_ge dX11_init_158 rfl), List.forall_mem_cons.mpr ⟨
  (gs_aload_n dX11_init_161 rfl), List.forall_mem_cons.mpr ⟨
  (gs_gf (ref := "GriefCranes") dX11_init_162 (gx_mem 387 (by decide +kernel) (by decide +kernel)) (Or.inl rfl) gf_11_16), List.forall_mem_cons.mpr ⟨
  (gs_iload_n dX11_init_165 rfl), List.forall_mem_cons.mpr ⟨
  (gs_new (q := (RX8, TX8, 3)) (ty := tyX8) dX11_init_166 rfl gl_8 tyX8_ok (gx_mem 139 (by decide +kernel) (by decide +kernel)) (gx_mem 182 (by decide +kernel) (by decide +kernel)) (gx_mem 87 (by decide +kernel) (by decide +kernel)) rfl (by decide +kernel) rfl), List.forall_mem_cons.mpr ⟨
  (gs_dup dX11_init_169), List.forall_mem_cons.mpr ⟨
  (gs_cin (host := RX11) dX11_init_170 (md_43) (by decide +kernel) (List.forall_mem_cons.mpr ⟨gx_mem 184 (by decide +kernel) (by decide +kernel), List.forall_mem_cons.mpr ⟨gx_mem 87 (by decide +kernel) (by decide +kernel), List.forall_mem_cons.mpr ⟨cw_185, fun _ h => absurd h List.not_mem_nil⟩⟩⟩) (by decide +kernel) (by decide) rfl), List.forall_mem_cons.mpr ⟨
  (gs_ast (E := RX8) dX11_init_173 rfl gast_7), List.forall_mem_cons.mpr ⟨
  (gs_iinc dX11_init_174), List.forall_mem_cons.mpr ⟨
  (gs_goto dX11_init_177 rfl), List.forall_mem_cons.mpr ⟨
  (gs_bipush dX11_init_180 rfl), List.forall_mem_cons.mpr ⟨
  (gs_anew (C := RX0) dX11_init_182 (gx_mem 201 (by decide +kernel) (by decide +kernel)) (fun _ h => h.1) rfl), List.forall_mem_cons.mpr ⟨
  (gs_dup dX11_init_185), List.forall_mem_cons.mpr ⟨
  (gs_iconst dX11_init_186 rfl), List.forall_mem_cons.mpr ⟨
  (gs_new (q := (RX0, TX0, 4)) (ty := tyX0) dX11_init_187 rfl gl_0 tyX0_ok (gx_mem 201 (by decide +kernel) (by decide +kernel)) (gx_mem 203 (by decide +kernel) (by decide +kernel)) (gx_mem 88 (by decide +kernel) (by decide +kernel)) rfl (by decide +kernel) rfl), List.forall_mem_cons.mpr ⟨
  (gs_dup dX11_init_190), fun _ h => absurd h List.not_mem_nil⟩⟩⟩⟩⟩⟩⟩⟩⟩⟩⟩⟩⟩⟩⟩⟩⟩⟩⟩⟩⟩⟩⟩⟩⟩⟩⟩⟩⟩⟩⟩⟩
set_option maxRecDepth 20000 in
theorem kt_X11_init_3 (g : gx_T) : ∀ q ∈ k_X11_init_3, gx_E g gc_md RX11 cX11_init 3 (none) "<init>" q.1 q.2 := List.forall_mem_cons.mpr ⟨(gs_cin (host := RX11) dX11_init_191 (md_0) (by decide +kernel) (List.forall_mem_cons.mpr ⟨gx_mem 205 (by decide +kernel) (by decide +kernel), List.forall_mem_cons.mpr ⟨gx_mem 88 (by decide +kernel) (by decide +kernel), List.forall_mem_cons.mpr ⟨cw_206, fun _ h => absurd h List.not_mem_nil⟩⟩⟩) (by decide +kernel) (by decide) rfl), List.forall_mem_cons.mpr ⟨
  (gs_ast (E := RX0) dX11_init_194 rfl gast_5), List.forall_mem_cons.mpr ⟨
  (gs_dup dX11_init_195), List.forall_mem_cons.mpr ⟨
  (gs_iconst dX11_init_196 rfl), List.forall_mem_cons.mpr ⟨
  (gs_new (q := (RX3, TX3, 4)) (ty := tyX3) dX11_init_197 rfl gl_3 tyX3_ok (gx_mem 227 (by decide +kernel) (by decide +kernel)) (gx_mem 228 (by decide +kernel) (by decide +kernel)) (gx_mem 89 (by decide +kernel) (by decide +kernel)) rfl (by decide +kernel) rfl), List.forall_mem_cons.mpr ⟨
  (gs_dup dX11_init_200), List.forall_mem_cons.mpr ⟨
  (gs_cin (host := RX11) dX11_init_201 (md_27) (by decide +kernel) (List.forall_mem_cons.mpr ⟨gx_mem 230 (by decide +kernel) (by decide +kernel), List.forall_mem_cons.mpr ⟨gx_mem 89 (by decide +kernel) (by decide +kernel), List.forall_mem_cons.mpr ⟨cw_231, fun _ h => absurd h List.not_mem_nil⟩⟩⟩) (by decide +kernel) (by decide) rfl), List.forall_mem_cons.mpr ⟨
  (gs_ast (E := RX0) dX11_init_204 rfl gast_5), List.forall_mem_cons.mpr ⟨
  (gs_dup dX11_init_205), List.forall_mem_cons.mpr ⟨
  (gs_iconst dX11_init_206 rfl), List.forall_mem_cons.mpr ⟨
  (gs_new (q := (RX4, TX4, 4)) (ty := tyX4) dX11_init_207 rfl gl_4 tyX4_ok (gx_mem 238 (by decide +kernel) (by decide +kernel)) (gx_mem 239 (by decide +kernel) (by decide +kernel)) (gx_mem 90 (by decide +kernel) (by decide +kernel)) rfl (by decide +kernel) rfl), List.forall_mem_cons.mpr ⟨
  (gs_dup dX11_init_210), List.forall_mem_cons.mpr ⟨
  (gs_cin (host := RX11) dX11_init_211 (md_30) (by decide +kernel) (List.forall_mem_cons.mpr ⟨gx_mem 241 (by decide +kernel) (by decide +kernel), List.forall_mem_cons.mpr ⟨gx_mem 90 (by decide +kernel) (by decide +kernel), List.forall_mem_cons.mpr ⟨cw_242, fun _ h => absurd h List.not_mem_nil⟩⟩⟩) (by decide +kernel) (by decide) rfl), List.forall_mem_cons.mpr ⟨
  (gs_ast (E := RX0) dX11_init_214 rfl gast_5), List.forall_mem_cons.mpr ⟨
  (gs_dup dX11_init_215), List.forall_mem_cons.mpr ⟨
  (gs_iconst dX11_init_216 rfl), List.forall_mem_cons.mpr ⟨
  (gs_new (q := (RX7, TX7, 4)) (ty := tyX7) dX11_init_217 rfl gl_7 tyX7_ok (gx_mem 249 (by decide +kernel) (by decide +kernel)) (gx_mem 250 (by decide +kernel) (by decide +kernel)) (gx_mem 91 (by decide +kernel) (by decide +kernel)) rfl (by decide +kernel) rfl), List.forall_mem_cons.mpr ⟨
  (gs_dup dX11_init_220), List.forall_mem_cons.mpr ⟨
  (gs_cin (host := RX11) dX11_init_221 (md_40) (by decide +kernel) (List.forall_mem_cons.mpr ⟨gx_mem 252 (by decide +kernel) (by decide +kernel), List.forall_mem_cons.mpr ⟨gx_mem 91 (by decide +kernel) (by decide +kernel), List.forall_mem_cons.mpr ⟨cw_253, fun _ h => absurd h List.not_mem_nil⟩⟩⟩) (by decide +kernel) (by decide) rfl), List.forall_mem_cons.mpr ⟨
  (gs_ast (E := RX0) dX11_init_224 rfl gast_5), List.forall_mem_cons.mpr ⟨
  (gs_dup dX11_init_225), List.forall_mem_cons.mpr ⟨
  (gs_iconst dX11_init_226 rfl), List.forall_mem_cons.mpr ⟨
  (gs_new (q := (RX2, TX2, 4)) (ty := tyX2) dX11_init_227 rfl gl_2 tyX2_ok (gx_mem 260 (by decide +kernel) (by decide +kernel)) (gx_mem 261 (by decide +kernel) (by decide +kernel)) (gx_mem 92 (by decide +kernel) (by decide +kernel)) rfl (by decide +kernel) rfl), List.forall_mem_cons.mpr ⟨
  (gs_dup dX11_init_230), List.forall_mem_cons.mpr ⟨
  (gs_cin (host := RX11) dX11_init_231 (md_23) (by decide +kernel) (List.forall_mem_cons.mpr ⟨gx_mem 263 (by decide +kernel) (by decide +kernel), List.forall_mem_cons.mpr ⟨gx_mem 92 (by decide +kernel) (by decide +kernel), List.forall_mem_cons.mpr ⟨cw_264, fun _ h => absurd h List.not_mem_nil⟩⟩⟩) (by decide +kernel) (by decide) rfl), List.forall_mem_cons.mpr ⟨
  (gs_ast (E := RX0) dX11_init_234 rfl gast_5), List.forall_mem_cons.mpr ⟨
  (gs_dup dX11_init_235), List.forall_mem_cons.mpr ⟨
  (gs_iconst dX11_init_236 rfl), List.forall_mem_cons.mpr ⟨
  (gs_new (q := (RX6, TX6, 4)) (ty := tyX6) dX11_init_237 rfl gl_6 tyX6_ok (gx_mem 271 (by decide +kernel) (by decide +kernel)) (gx_mem 272 (by decide +kernel) (by decide +kernel)) (gx_mem 93 (by decide +kernel) (by decide +kernel)) rfl (by decide +kernel) rfl), List.forall_mem_cons.mpr ⟨
  (gs_dup dX11_init_240), List.forall_mem_cons.mpr ⟨
  (gs_cin (host := RX11) dX11_init_241 (md_37) (by decide +kernel) (List.forall_mem_cons.mpr ⟨gx_mem 274 (by decide +kernel) (by decide +kernel), List.forall_mem_cons.mpr ⟨gx_mem 93 (by decide +kernel) (by decide +kernel), List.forall_mem_cons.mpr ⟨cw_275, fun _ h => absurd h List.not_mem_nil⟩⟩⟩) (by decide +kernel) (by decide) rfl), List.forall_mem_cons.mpr ⟨
  (gs_ast (E := RX0) dX11_init_244 rfl gast_5), fun _ h => absurd h List.not_mem_nil⟩⟩⟩⟩⟩⟩⟩⟩⟩⟩⟩⟩⟩⟩⟩⟩⟩⟩⟩⟩⟩⟩⟩⟩⟩⟩⟩⟩⟩⟩⟩⟩
set_option maxRecDepth 20000 in
theorem kt_X11_init_4 (g : gx_T) : ∀ q ∈ k_X11_init_4, gx_E g gc_md RX11 cX11_init 3 (none) "<init>" q.1 q.2 := List.forall_mem_cons.mpr ⟨(gs_dup dX11_init_245), List.forall_mem_cons.mpr ⟨
  (gs_bipush dX11_init_246 rfl), List.forall_mem_cons.mpr ⟨
  (gs_new (q := (RX9, TX9, 4)) (ty := tyX9) dX11_init_248 rfl gl_9 tyX9_ok (gx_mem 282 (by decide +kernel) (by decide +kernel)) (gx_mem 283 (by decide +kernel) (by decide +kernel)) (gx_mem 94 (by decide +kernel) (by decide +kernel)) rfl (by decide +kernel) rfl), List.forall_mem_cons.mpr ⟨
  (gs_dup dX11_init_251), List.forall_mem_cons.mpr ⟨
  (gs_cin (host := RX11) dX11_init_252 (md_46) (by decide +kernel) (List.forall_mem_cons.mpr ⟨gx_mem 285 (by decide +kernel) (by decide +kernel), List.forall_mem_cons.mpr ⟨gx_mem 94 (by decide +kernel) (by decide +kernel), List.forall_mem_cons.mpr ⟨cw_286, fun _ h => absurd h List.not_mem_nil⟩⟩⟩) (by decide +kernel) (by decide) rfl), List.forall_mem_cons.mpr ⟨
  (gs_ast (E := RX0) dX11_init_255 rfl gast_5), List.forall_mem_cons.mpr ⟨
  (gs_astore_n dX11_init_256 rfl), List.forall_mem_cons.mpr ⟨
  (gs_new (q := (RX1, TX1, 10)) (ty := tyX1) dX11_init_257 rfl gl_1 tyX1_ok (gx_mem 137 (by decide +kernel) (by decide +kernel)) (gx_mem 141 (by decide +kernel) (by decide +kernel)) (gx_mem 86 (by decide +kernel) (by decide +kernel)) rfl (by decide +kernel) rfl), List.forall_mem_cons.mpr ⟨
  (gs_dup dX11_init_260), List.forall_mem_cons.mpr ⟨
  (gs_cin (host := RX11) dX11_init_261 (md_7) (by decide +kernel) (List.forall_mem_cons.mpr ⟨gx_mem 143 (by decide +kernel) (by decide +kernel), List.forall_mem_cons.mpr ⟨gx_mem 86 (by decide +kernel) (by decide +kernel), List.forall_mem_cons.mpr ⟨cw_144, fun _ h => absurd h List.not_mem_nil⟩⟩⟩) (by decide +kernel) (by decide) rfl), List.forall_mem_cons.mpr ⟨
  (gs_astore_n dX11_init_264 rfl), List.forall_mem_cons.mpr ⟨
  (gs_aload_n dX11_init_265 rfl), List.forall_mem_cons.mpr ⟨
  (gs_aload_n dX11_init_266 rfl), List.forall_mem_cons.mpr ⟨
  (gs_pff dX11_init_267 (gx_mem 385 (by decide +kernel) (by decide +kernel)) gf_11_14 (by decide +kernel)), List.forall_mem_cons.mpr ⟨
  (gs_aload_n dX11_init_270 rfl), List.forall_mem_cons.mpr ⟨
  (gs_new (q := (RX10, TX10, 16)) (ty := tyX10) dX11_init_271 rfl gl_10 tyX10_ok (gx_mem 293 (by decide +kernel) (by decide +kernel)) (gx_mem 294 (by decide +kernel) (by decide +kernel)) (gx_mem 95 (by decide +kernel) (by decide +kernel)) rfl (by decide +kernel) rfl), List.forall_mem_cons.mpr ⟨
  (gs_dup dX11_init_274), List.forall_mem_cons.mpr ⟨
  (gs_aload_n dX11_init_275 rfl), List.forall_mem_cons.mpr ⟨
  (gs_aload_n dX11_init_276 rfl), List.forall_mem_cons.mpr ⟨
  (gs_ci dX11_init_277 (md_50) (List.forall_mem_cons.mpr ⟨gx_mem 295 (by decide +kernel) (by decide +kernel), List.forall_mem_cons.mpr ⟨gx_mem 296 (by decide +kernel) (by decide +kernel), List.forall_mem_cons.mpr ⟨gx_mem 95 (by decide +kernel) (by decide +kernel), List.forall_mem_cons.mpr ⟨cw_297, fun _ h => absurd h List.not_mem_nil⟩⟩⟩⟩) (by decide +kernel) (by decide) rfl), List.forall_mem_cons.mpr ⟨
  (gs_pff dX11_init_280 (gx_mem 371 (by decide +kernel) (by decide +kernel)) gf_11_0 (by decide +kernel)), List.forall_mem_cons.mpr ⟨
  (gs_aload_n dX11_init_283 rfl), List.forall_mem_cons.mpr ⟨
  (gs_new (q := (RX10, TX10, 16)) (ty := tyX10) dX11_init_284 rfl gl_10 tyX10_ok (gx_mem 293 (by decide +kernel) (by decide +kernel)) (gx_mem 294 (by decide +kernel) (by decide +kernel)) (gx_mem 95 (by decide +kernel) (by decide +kernel)) rfl (by decide +kernel) rfl), List.forall_mem_cons.mpr ⟨
  (gs_dup dX11_init_287), List.forall_mem_cons.mpr ⟨
  (gs_aload_n dX11_init_288 rfl), List.forall_mem_cons.mpr ⟨
  (gs_aload_n dX11_init_289 rfl), List.forall_mem_cons.mpr ⟨
  (gs_ci dX11_init_290 (md_50) (List.forall_mem_cons.mpr ⟨gx_mem 295 (by decide +kernel) (by decide +kernel), List.forall_mem_cons.mpr ⟨gx_mem 296 (by decide +kernel) (by decide +kernel), List.forall_mem_cons.mpr ⟨gx_mem 95 (by decide +kernel) (by decide +kernel), List.forall_mem_cons.mpr ⟨cw_297, fun _ h => absurd h List.not_mem_nil⟩⟩⟩⟩) (by decide +kernel) (by decide) rfl), List.forall_mem_cons.mpr ⟨
  (gs_pff dX11_init_293 (gx_mem 372 (by decide +kernel) (by decide +kernel)) gf_11_1 (by decide +kernel)), List.forall_mem_cons.mpr ⟨
  (gs_aload_n dX11_init_296 rfl), List.forall_mem_cons.mpr ⟨
  (gs_new (q := (RX10, TX10, 16)) (ty := tyX10) dX11_init_297 rfl gl_10 tyX10_ok (gx_mem 293 (by decide +kernel) (by decide +kernel)) (gx_mem 294 (by decide +kernel) (by decide +kernel)) (gx_mem 95 (by decide +kernel) (by decide +kernel)) rfl (by decide +kernel) rfl), List.forall_mem_cons.mpr ⟨
  (gs_dup dX11_init_300), List.forall_mem_cons.mpr ⟨
  (gs_aload_n dX11_init_301 rfl), fun _ h => absurd h List.not_mem_nil⟩⟩⟩⟩⟩⟩⟩⟩⟩⟩⟩⟩⟩⟩⟩⟩⟩⟩⟩⟩⟩⟩⟩⟩⟩⟩⟩⟩⟩⟩⟩⟩
set_option maxRecDepth 20000 in
theorem kt_X11_init_5 (g : gx_T) : ∀ q ∈ k_X11_init_5, gx_E g gc_md RX11 cX11_init 3 (none) "<init>" q.1 q.2 := List.forall_mem_cons.mpr ⟨(gs_aload_n dX11_init_302 rfl), List.forall_mem_cons.mpr ⟨
  (gs_ci dX11_init_303 (md_50) (List.forall_mem_cons.mpr ⟨gx_mem 295 (by decide +kernel) (by decide +kernel), List.forall_mem_cons.mpr ⟨gx_mem 296 (by decide +kernel) (by decide +kernel), List.forall_mem_cons.mpr ⟨gx_mem 95 (by decide +kernel) (by decide +kernel), List.forall_mem_cons.mpr ⟨cw_297, fun _ h => absurd h List.not_mem_nil⟩⟩⟩⟩) (by decide +kernel) (by decide) rfl), List.forall_mem_cons.mpr ⟨
  (gs_pff dX11_init_306 (gx_mem 373 (by decide +kernel) (by decide +kernel)) gf_11_2 (by decide +kernel)), List.forall_mem_cons.mpr ⟨
  (gs_rv dX11_init_309), fun _ h => absurd h List.not_mem_nil⟩⟩⟩⟩
theorem kt_X11_init (g : gx_T) : ∀ q ∈ k_X11_init, gx_E g gc_md RX11 cX11_init 3 (none) "<init>" q.1 q.2 := List.forall_mem_append.mpr ⟨kt_X11_init_0 g, List.forall_mem_append.mpr ⟨kt_X11_init_1 g, List.forall_mem_append.mpr ⟨kt_X11_init_2 g, List.forall_mem_append.mpr ⟨kt_X11_init_3 g, List.forall_mem_append.mpr ⟨kt_X11_init_4 g, kt_X11_init_5 g⟩⟩⟩⟩⟩
set_option maxRecDepth 20000 in
theorem dX11_crane_0 : decode cX11_crane 0 = .ok (.iload_n 1, 1) := by decide +kernel
set_option maxRecDepth 20000 in
theorem dX11_crane_1 : decode cX11_crane 1 = .ok (.bipush 6, 2) := by decide +kernel
set_option maxRecDepth 20000 in
theorem dX11_crane_3 : decode cX11_crane 3 = .ok (.invokestatic 108, 3) := by decide +kernel
set_option maxRecDepth 20000 in
theorem dX11_crane_6 : decode cX11_crane 6 = .ok (.ifCond .ne 5, 3) := by decide +kernel
set_option maxRecDepth 20000 in
theorem dX11_crane_9 : decode cX11_crane 9 = .ok (.iconst (-1), 1) := by decide +kernel
set_option maxRecDepth 20000 in
theorem dX11_crane_10 : decode cX11_crane 10 = .ok (.ireturn, 1) := by decide +kernel
set_option maxRecDepth 20000 in
theorem dX11_crane_11 : decode cX11_crane 11 = .ok (.iload_n 2, 1) := by decide +kernel
set_option maxRecDepth 20000 in
theorem dX11_crane_12 : decode cX11_crane 12 = .ok (.bipush 9, 2) := by decide +kernel
set_option maxRecDepth 20000 in
theorem dX11_crane_14 : decode cX11_crane 14 = .ok (.invokestatic 108, 3) := by decide +kernel
set_option maxRecDepth 20000 in
theorem dX11_crane_17 : decode cX11_crane 17 = .ok (.ifCond .ne 6, 3) := by decide +kernel
set_option maxRecDepth 20000 in
theorem dX11_crane_20 : decode cX11_crane 20 = .ok (.bipush (-2), 2) := by decide +kernel
set_option maxRecDepth 20000 in
theorem dX11_crane_22 : decode cX11_crane 22 = .ok (.ireturn, 1) := by decide +kernel
set_option maxRecDepth 20000 in
theorem dX11_crane_23 : decode cX11_crane 23 = .ok (.aload_n 0, 1) := by decide +kernel
set_option maxRecDepth 20000 in
theorem dX11_crane_24 : decode cX11_crane 24 = .ok (.getfield 98, 3) := by decide +kernel
set_option maxRecDepth 20000 in
theorem dX11_crane_27 : decode cX11_crane 27 = .ok (.getfield 112, 3) := by decide +kernel
set_option maxRecDepth 20000 in
theorem dX11_crane_30 : decode cX11_crane 30 = .ok (.bipush 6, 2) := by decide +kernel
set_option maxRecDepth 20000 in
theorem dX11_crane_32 : decode cX11_crane 32 = .ok (.if_icmp .lt 6, 3) := by decide +kernel
set_option maxRecDepth 20000 in
theorem dX11_crane_35 : decode cX11_crane 35 = .ok (.bipush (-4), 2) := by decide +kernel
set_option maxRecDepth 20000 in
theorem dX11_crane_37 : decode cX11_crane 37 = .ok (.ireturn, 1) := by decide +kernel
set_option maxRecDepth 20000 in
theorem dX11_crane_38 : decode cX11_crane 38 = .ok (.aload_n 0, 1) := by decide +kernel
set_option maxRecDepth 20000 in
theorem dX11_crane_39 : decode cX11_crane 39 = .ok (.getfield 98, 3) := by decide +kernel
set_option maxRecDepth 20000 in
theorem dX11_crane_42 : decode cX11_crane 42 = .ok (.iload_n 1, 1) := by decide +kernel
set_option maxRecDepth 20000 in
theorem dX11_crane_43 : decode cX11_crane 43 = .ok (.iload_n 2, 1) := by decide +kernel
set_option maxRecDepth 20000 in
theorem dX11_crane_44 : decode cX11_crane 44 = .ok (.invokevirtual 115, 3) := by decide +kernel
set_option maxRecDepth 20000 in
theorem dX11_crane_47 : decode cX11_crane 47 = .ok (.ireturn, 1) := by decide +kernel
set_option maxRecDepth 20000 in
theorem kt_X11_crane_0 (g : gx_T) : ∀ q ∈ k_X11_crane_0, gx_E g gc_md RX11 cX11_crane 3 (some .int) "crane" q.1 q.2 := List.forall_mem_cons.mpr ⟨(gs_iload_n dX11_crane_0 rfl), List.forall_mem_cons.mpr ⟨
  (gs_bipush dX11_crane_1 rfl), List.forall_mem_cons.mpr ⟨
  (gs_cs dX11_crane_3 (md_98) (List.forall_mem_cons.mpr ⟨gx_mem 427 (by decide +kernel) (by decide +kernel), List.forall_mem_cons.mpr ⟨gx_mem 428 (by decide +kernel) (by decide +kernel), List.forall_mem_cons.mpr ⟨gx_mem 84 (by decide +kernel) (by decide +kernel), List.forall_mem_cons.mpr ⟨cw_429, fun _ h => absurd h List.not_mem_nil⟩⟩⟩⟩) (by decide +kernel) (by decide)), List.forall_mem_cons.mpr ⟨
  (gs_if_ne dX11_crane_6 rfl), List.forall_mem_cons.mpr ⟨
  (gs_iconst dX11_crane_9 rfl), List.forall_mem_cons.mpr ⟨
  (gs_ri dX11_crane_10), List.forall_mem_cons.mpr ⟨
  (gs_iload_n dX11_crane_11 rfl), List.forall_mem_cons.mpr ⟨
  (gs_bipush dX11_crane_12 rfl), List.forall_mem_cons.mpr ⟨
  (gs_cs dX11_crane_14 (md_98) (List.forall_mem_cons.mpr ⟨gx_mem 427 (by decide +kernel) (by decide +kernel), List.forall_mem_cons.mpr ⟨gx_mem 428 (by decide +kernel) (by decide +kernel), List.forall_mem_cons.mpr ⟨gx_mem 84 (by decide +kernel) (by decide +kernel), List.forall_mem_cons.mpr ⟨cw_429, fun _ h => absurd h List.not_mem_nil⟩⟩⟩⟩) (by decide +kernel) (by decide)), List.forall_mem_cons.mpr ⟨
  (gs_if_ne dX11_crane_17 rfl), List.forall_mem_cons.mpr ⟨
  (gs_bipush dX11_crane_20 rfl), List.forall_mem_cons.mpr ⟨
  (gs_ri dX11_crane_22), List.forall_mem_cons.mpr ⟨
  (gs_aload_n dX11_crane_23 rfl), List.forall_mem_cons.mpr ⟨
  (gs_gf (ref := "GriefCranes") dX11_crane_24 (gx_mem 371 (by decide +kernel) (by decide +kernel)) (Or.inl rfl) gf_11_0), List.forall_mem_cons.mpr ⟨
  (gs_gf (ref := "GriefCranes$Yard") dX11_crane_27 (gx_mem 311 (by decide +kernel) (by decide +kernel)) (Or.inl rfl) gf_10_4), List.forall_mem_cons.mpr ⟨
  (gs_bipush dX11_crane_30 rfl), List.forall_mem_cons.mpr ⟨
  (gs_icmp_lt dX11_crane_32 rfl), List.forall_mem_cons.mpr ⟨
  (gs_bipush dX11_crane_35 rfl), List.forall_mem_cons.mpr ⟨
  (gs_ri dX11_crane_37), List.forall_mem_cons.mpr ⟨
  (gs_aload_n dX11_crane_38 rfl), List.forall_mem_cons.mpr ⟨
  (gs_gf (ref := "GriefCranes") dX11_crane_39 (gx_mem 371 (by decide +kernel) (by decide +kernel)) (Or.inl rfl) gf_11_0), List.forall_mem_cons.mpr ⟨
  (gs_iload_n dX11_crane_42 rfl), List.forall_mem_cons.mpr ⟨
  (gs_iload_n dX11_crane_43 rfl), List.forall_mem_cons.mpr ⟨
  (gs_cv dX11_crane_44 (fun q hq => by
      simp only [List.mem_cons, List.not_mem_nil, or_false] at hq
      subst hq
      exact Or.inl ⟨_, rfl, by decide, by decide +kernel, by decide +kernel, List.forall_mem_cons.mpr ⟨gx_mem 430 (by decide +kernel) (by decide +kernel), List.forall_mem_cons.mpr ⟨gx_mem 431 (by decide +kernel) (by decide +kernel), List.forall_mem_cons.mpr ⟨gx_mem 432 (by decide +kernel) (by decide +kernel), List.forall_mem_cons.mpr ⟨gx_mem 95 (by decide +kernel) (by decide +kernel), List.forall_mem_cons.mpr ⟨cw_433, fun _ h => absurd h List.not_mem_nil⟩⟩⟩⟩⟩⟩)), List.forall_mem_cons.mpr ⟨
  (gs_ri dX11_crane_47), fun _ h => absurd h List.not_mem_nil⟩⟩⟩⟩⟩⟩⟩⟩⟩⟩⟩⟩⟩⟩⟩⟩⟩⟩⟩⟩⟩⟩⟩⟩⟩
theorem kt_X11_crane (g : gx_T) : ∀ q ∈ k_X11_crane, gx_E g gc_md RX11 cX11_crane 3 (some .int) "crane" q.1 q.2 := kt_X11_crane_0 g
