/-! decoded, and each instruction a row -/
set_option maxRecDepth 20000 in
theorem dX0_init_0 : decode cX0_init 0 = .ok (.aload_n 0, 1) := by decide +kernel
set_option maxRecDepth 20000 in
theorem dX0_init_1 : decode cX0_init 1 = .ok (.invokespecial 3, 3) := by decide +kernel
set_option maxRecDepth 20000 in
theorem dX0_init_4 : decode cX0_init 4 = .ok (.aload_n 0, 1) := by decide +kernel
set_option maxRecDepth 20000 in
theorem dX0_init_5 : decode cX0_init 5 = .ok (.iconst 0, 1) := by decide +kernel
set_option maxRecDepth 20000 in
theorem dX0_init_6 : decode cX0_init 6 = .ok (.putfield 9, 3) := by decide +kernel
set_option maxRecDepth 20000 in
theorem dX0_init_9 : decode cX0_init 9 = .ok (.aload_n 0, 1) := by decide +kernel
set_option maxRecDepth 20000 in
theorem dX0_init_10 : decode cX0_init 10 = .ok (.iconst 0, 1) := by decide +kernel
set_option maxRecDepth 20000 in
theorem dX0_init_11 : decode cX0_init 11 = .ok (.putfield 15, 3) := by decide +kernel
set_option maxRecDepth 20000 in
theorem dX0_init_14 : decode cX0_init 14 = .ok (.aload_n 0, 1) := by decide +kernel
set_option maxRecDepth 20000 in
theorem dX0_init_15 : decode cX0_init 15 = .ok (.iconst 0, 1) := by decide +kernel
set_option maxRecDepth 20000 in
theorem dX0_init_16 : decode cX0_init 16 = .ok (.putfield 18, 3) := by decide +kernel
set_option maxRecDepth 20000 in
theorem dX0_init_19 : decode cX0_init 19 = .ok (.aload_n 0, 1) := by decide +kernel
set_option maxRecDepth 20000 in
theorem dX0_init_20 : decode cX0_init 20 = .ok (.bipush 20, 2) := by decide +kernel
set_option maxRecDepth 20000 in
theorem dX0_init_22 : decode cX0_init 22 = .ok (.newarray .int, 2) := by decide +kernel
set_option maxRecDepth 20000 in
theorem dX0_init_24 : decode cX0_init 24 = .ok (.putfield 21, 3) := by decide +kernel
set_option maxRecDepth 20000 in
theorem dX0_init_27 : decode cX0_init 27 = .ok (.return_, 1) := by decide +kernel
set_option maxRecDepth 20000 in
theorem kt_X0_init_0 (g : gx_T) : ∀ q ∈ k_X0_init_0, gx_E g gc_md RX0 cX0_init 1 (none) "<init>" q.1 q.2 := List.forall_mem_cons.mpr ⟨(gs_aload_n dX0_init_0 rfl), List.forall_mem_cons.mpr ⟨
  (gs_oi dX0_init_1 (gx_mem 207 (by decide +kernel) (by decide +kernel)) (gx_mem 111 (by decide +kernel) (by decide +kernel)) (cw_112)), List.forall_mem_cons.mpr ⟨
  (gs_aload_n dX0_init_4 rfl), List.forall_mem_cons.mpr ⟨
  (gs_iconst dX0_init_5 rfl), List.forall_mem_cons.mpr ⟨
  (gs_pf (ref := "GriefCranes$Crane") dX0_init_6 (gx_mem 208 (by decide +kernel) (by decide +kernel)) (Or.inl rfl) gf_cr_0 (by decide +kernel)), List.forall_mem_cons.mpr ⟨
  (gs_aload_n dX0_init_9 rfl), List.forall_mem_cons.mpr ⟨
  (gs_iconst dX0_init_10 rfl), List.forall_mem_cons.mpr ⟨
  (gs_pf (ref := "GriefCranes$Crane") dX0_init_11 (gx_mem 211 (by decide +kernel) (by decide +kernel)) (Or.inl rfl) gf_cr_1 (by decide +kernel)), List.forall_mem_cons.mpr ⟨
  (gs_aload_n dX0_init_14 rfl), List.forall_mem_cons.mpr ⟨
  (gs_iconst dX0_init_15 rfl), List.forall_mem_cons.mpr ⟨
  (gs_pf (ref := "GriefCranes$Crane") dX0_init_16 (gx_mem 214 (by decide +kernel) (by decide +kernel)) (Or.inl rfl) gf_cr_2 (by decide +kernel)), List.forall_mem_cons.mpr ⟨
  (gs_aload_n dX0_init_19 rfl), List.forall_mem_cons.mpr ⟨
  (gs_bipush dX0_init_20 rfl), List.forall_mem_cons.mpr ⟨
  (gs_newa (ty := .int) dX0_init_22 rfl (gx_mem 136 (by decide +kernel) (by decide +kernel)) (by decide) (fun _ _ => rfl) rfl rfl (fun _ h => h)), List.forall_mem_cons.mpr ⟨
  (gs_pff dX0_init_24 (gx_mem 216 (by decide +kernel) (by decide +kernel)) gf_cr_3 (by decide +kernel)), List.forall_mem_cons.mpr ⟨
  (gs_rv dX0_init_27), fun _ h => absurd h List.not_mem_nil⟩⟩⟩⟩⟩⟩⟩⟩⟩⟩⟩⟩⟩⟩⟩⟩
theorem kt_X0_init (g : gx_T) : ∀ q ∈ k_X0_init, gx_E g gc_md RX0 cX0_init 1 (none) "<init>" q.1 q.2 := kt_X0_init_0 g
set_option maxRecDepth 20000 in
theorem dX0_power_0 : decode cX0_power 0 = .ok (.iload_n 1, 1) := by decide +kernel
set_option maxRecDepth 20000 in
theorem dX0_power_1 : decode cX0_power 1 = .ok (.ireturn, 1) := by decide +kernel
set_option maxRecDepth 20000 in
theorem kt_X0_power_0 (g : gx_T) : ∀ q ∈ k_X0_power_0, gx_E g gc_md RX0 cX0_power 5 (some .int) "power" q.1 q.2 := List.forall_mem_cons.mpr ⟨(gs_iload_n dX0_power_0 rfl), List.forall_mem_cons.mpr ⟨
  (gs_ri dX0_power_1), fun _ h => absurd h List.not_mem_nil⟩⟩
theorem kt_X0_power (g : gx_T) : ∀ q ∈ k_X0_power, gx_E g gc_md RX0 cX0_power 5 (some .int) "power" q.1 q.2 := kt_X0_power_0 g
set_option maxRecDepth 20000 in
theorem dX0_begin_0 : decode cX0_begin 0 = .ok (.aload_n 0, 1) := by decide +kernel
set_option maxRecDepth 20000 in
theorem dX0_begin_1 : decode cX0_begin 1 = .ok (.iload_n 1, 1) := by decide +kernel
set_option maxRecDepth 20000 in
theorem dX0_begin_2 : decode cX0_begin 2 = .ok (.putfield 9, 3) := by decide +kernel
set_option maxRecDepth 20000 in
theorem dX0_begin_5 : decode cX0_begin 5 = .ok (.aload_n 0, 1) := by decide +kernel
set_option maxRecDepth 20000 in
theorem dX0_begin_6 : decode cX0_begin 6 = .ok (.iload_n 2, 1) := by decide +kernel
set_option maxRecDepth 20000 in
theorem dX0_begin_7 : decode cX0_begin 7 = .ok (.putfield 15, 3) := by decide +kernel
set_option maxRecDepth 20000 in
theorem dX0_begin_10 : decode cX0_begin 10 = .ok (.aload_n 0, 1) := by decide +kernel
set_option maxRecDepth 20000 in
theorem dX0_begin_11 : decode cX0_begin 11 = .ok (.iconst 0, 1) := by decide +kernel
set_option maxRecDepth 20000 in
theorem dX0_begin_12 : decode cX0_begin 12 = .ok (.putfield 18, 3) := by decide +kernel
set_option maxRecDepth 20000 in
theorem dX0_begin_15 : decode cX0_begin 15 = .ok (.return_, 1) := by decide +kernel
set_option maxRecDepth 20000 in
theorem kt_X0_begin_0 (g : gx_T) : ∀ q ∈ k_X0_begin_0, gx_E g gc_md RX0 cX0_begin 3 (none) "begin" q.1 q.2 := List.forall_mem_cons.mpr ⟨(gs_aload_n dX0_begin_0 rfl), List.forall_mem_cons.mpr ⟨
  (gs_iload_n dX0_begin_1 rfl), List.forall_mem_cons.mpr ⟨
  (gs_pf (ref := "GriefCranes$Crane") dX0_begin_2 (gx_mem 208 (by decide +kernel) (by decide +kernel)) (Or.inl rfl) gf_cr_0 (by decide +kernel)), List.forall_mem_cons.mpr ⟨
  (gs_aload_n dX0_begin_5 rfl), List.forall_mem_cons.mpr ⟨
  (gs_iload_n dX0_begin_6 rfl), List.forall_mem_cons.mpr ⟨
  (gs_pf (ref := "GriefCranes$Crane") dX0_begin_7 (gx_mem 211 (by decide +kernel) (by decide +kernel)) (Or.inl rfl) gf_cr_1 (by decide +kernel)), List.forall_mem_cons.mpr ⟨
  (gs_aload_n dX0_begin_10 rfl), List.forall_mem_cons.mpr ⟨
  (gs_iconst dX0_begin_11 rfl), List.forall_mem_cons.mpr ⟨
  (gs_pf (ref := "GriefCranes$Crane") dX0_begin_12 (gx_mem 214 (by decide +kernel) (by decide +kernel)) (Or.inl rfl) gf_cr_2 (by decide +kernel)), List.forall_mem_cons.mpr ⟨
  (gs_rv dX0_begin_15), fun _ h => absurd h List.not_mem_nil⟩⟩⟩⟩⟩⟩⟩⟩⟩⟩
theorem kt_X0_begin (g : gx_T) : ∀ q ∈ k_X0_begin, gx_E g gc_md RX0 cX0_begin 3 (none) "begin" q.1 q.2 := kt_X0_begin_0 g
set_option maxRecDepth 20000 in
theorem dX0_began_0 : decode cX0_began 0 = .ok (.aload_n 0, 1) := by decide +kernel
set_option maxRecDepth 20000 in
theorem dX0_began_1 : decode cX0_began 1 = .ok (.getfield 18, 3) := by decide +kernel
set_option maxRecDepth 20000 in
theorem dX0_began_4 : decode cX0_began 4 = .ok (.bipush 20, 2) := by decide +kernel
set_option maxRecDepth 20000 in
theorem dX0_began_6 : decode cX0_began 6 = .ok (.if_icmp .ge 13, 3) := by decide +kernel
set_option maxRecDepth 20000 in
theorem dX0_began_9 : decode cX0_began 9 = .ok (.aload_n 0, 1) := by decide +kernel
set_option maxRecDepth 20000 in
theorem dX0_began_10 : decode cX0_began 10 = .ok (.getfield 21, 3) := by decide +kernel
set_option maxRecDepth 20000 in
theorem dX0_began_13 : decode cX0_began 13 = .ok (.aload_n 0, 1) := by decide +kernel
set_option maxRecDepth 20000 in
theorem dX0_began_14 : decode cX0_began 14 = .ok (.getfield 18, 3) := by decide +kernel
set_option maxRecDepth 20000 in
theorem dX0_began_17 : decode cX0_began 17 = .ok (.iload_n 1, 1) := by decide +kernel
set_option maxRecDepth 20000 in
theorem dX0_began_18 : decode cX0_began 18 = .ok (.iastore, 1) := by decide +kernel
set_option maxRecDepth 20000 in
theorem dX0_began_19 : decode cX0_began 19 = .ok (.aload_n 0, 1) := by decide +kernel
set_option maxRecDepth 20000 in
theorem dX0_began_20 : decode cX0_began 20 = .ok (.dup, 1) := by decide +kernel
set_option maxRecDepth 20000 in
theorem dX0_began_21 : decode cX0_began 21 = .ok (.getfield 18, 3) := by decide +kernel
set_option maxRecDepth 20000 in
theorem dX0_began_24 : decode cX0_began 24 = .ok (.iconst 1, 1) := by decide +kernel
set_option maxRecDepth 20000 in
theorem dX0_began_25 : decode cX0_began 25 = .ok (.iadd, 1) := by decide +kernel
set_option maxRecDepth 20000 in
theorem dX0_began_26 : decode cX0_began 26 = .ok (.putfield 18, 3) := by decide +kernel
set_option maxRecDepth 20000 in
theorem dX0_began_29 : decode cX0_began 29 = .ok (.return_, 1) := by decide +kernel
set_option maxRecDepth 20000 in
theorem kt_X0_began_0 (g : gx_T) : ∀ q ∈ k_X0_began_0, gx_E g gc_md RX0 cX0_began 2 (none) "began" q.1 q.2 := List.forall_mem_cons.mpr ⟨(gs_aload_n dX0_began_0 rfl), List.forall_mem_cons.mpr ⟨
  (gs_gf (ref := "GriefCranes$Crane") dX0_began_1 (gx_mem 214 (by decide +kernel) (by decide +kernel)) (Or.inl rfl) gf_cr_2), List.forall_mem_cons.mpr ⟨
  (gs_bipush dX0_began_4 rfl), List.forall_mem_cons.mpr ⟨
  (gs_icmp_ge dX0_began_6 rfl), List.forall_mem_cons.mpr ⟨
  (gs_aload_n dX0_began_9 rfl), List.forall_mem_cons.mpr ⟨
  (gs_gf (ref := "GriefCranes$Crane") dX0_began_10 (gx_mem 216 (by decide +kernel) (by decide +kernel)) (Or.inl rfl) gf_cr_3), List.forall_mem_cons.mpr ⟨
  (gs_aload_n dX0_began_13 rfl), List.forall_mem_cons.mpr ⟨
  (gs_gf (ref := "GriefCranes$Crane") dX0_began_14 (gx_mem 214 (by decide +kernel) (by decide +kernel)) (Or.inl rfl) gf_cr_2), List.forall_mem_cons.mpr ⟨
  (gs_iload_n dX0_began_17 rfl), List.forall_mem_cons.mpr ⟨
  (gs_iastore dX0_began_18), List.forall_mem_cons.mpr ⟨
  (gs_aload_n dX0_began_19 rfl), List.forall_mem_cons.mpr ⟨
  (gs_dup dX0_began_20), List.forall_mem_cons.mpr ⟨
  (gs_gf (ref := "GriefCranes$Crane") dX0_began_21 (gx_mem 214 (by decide +kernel) (by decide +kernel)) (Or.inl rfl) gf_cr_2), List.forall_mem_cons.mpr ⟨
  (gs_iconst dX0_began_24 rfl), List.forall_mem_cons.mpr ⟨
  (gs_iadd dX0_began_25), List.forall_mem_cons.mpr ⟨
  (gs_pf (ref := "GriefCranes$Crane") dX0_began_26 (gx_mem 214 (by decide +kernel) (by decide +kernel)) (Or.inl rfl) gf_cr_2 (by decide +kernel)), List.forall_mem_cons.mpr ⟨
  (gs_rv dX0_began_29), fun _ h => absurd h List.not_mem_nil⟩⟩⟩⟩⟩⟩⟩⟩⟩⟩⟩⟩⟩⟩⟩⟩⟩
theorem kt_X0_began (g : gx_T) : ∀ q ∈ k_X0_began, gx_E g gc_md RX0 cX0_began 2 (none) "began" q.1 q.2 := kt_X0_began_0 g
set_option maxRecDepth 20000 in
theorem dX0_leans_0 : decode cX0_leans 0 = .ok (.aload_n 0, 1) := by decide +kernel
set_option maxRecDepth 20000 in
theorem dX0_leans_1 : decode cX0_leans 1 = .ok (.bipush 10, 2) := by decide +kernel
set_option maxRecDepth 20000 in
theorem dX0_leans_3 : decode cX0_leans 3 = .ok (.invokevirtual 25, 3) := by decide +kernel
set_option maxRecDepth 20000 in
theorem dX0_leans_6 : decode cX0_leans 6 = .ok (.iload_n 1, 1) := by decide +kernel
set_option maxRecDepth 20000 in
theorem dX0_leans_7 : decode cX0_leans 7 = .ok (.aload_n 0, 1) := by decide +kernel
set_option maxRecDepth 20000 in
theorem dX0_leans_8 : decode cX0_leans 8 = .ok (.getfield 9, 3) := by decide +kernel
set_option maxRecDepth 20000 in
theorem dX0_leans_11 : decode cX0_leans 11 = .ok (.iadd, 1) := by decide +kernel
set_option maxRecDepth 20000 in
theorem dX0_leans_12 : decode cX0_leans 12 = .ok (.ireturn, 1) := by decide +kernel
set_option maxRecDepth 20000 in
theorem kt_X0_leans_0 (g : gx_T) : ∀ q ∈ k_X0_leans_0, gx_E g gc_md RX0 cX0_leans 2 (some .int) "leans" q.1 q.2 := List.forall_mem_cons.mpr ⟨(gs_aload_n dX0_leans_0 rfl), List.forall_mem_cons.mpr ⟨
  (gs_bipush dX0_leans_1 rfl), List.forall_mem_cons.mpr ⟨
  (gs_cv dX0_leans_3 (fun q hq => by
      simp only [List.mem_cons, List.not_mem_nil, or_false] at hq
      rcases hq with rfl | rfl | rfl | rfl | rfl | rfl | rfl
      · exact Or.inl ⟨_, rfl, by decide, by decide +kernel, by decide +kernel, List.forall_mem_cons.mpr ⟨gx_mem 894 (by decide +kernel) (by decide +kernel), List.forall_mem_cons.mpr ⟨gx_mem 869 (by decide +kernel) (by decide +kernel), List.forall_mem_cons.mpr ⟨gx_mem 1620 (by decide +kernel) (by decide +kernel), List.forall_mem_cons.mpr ⟨gx_mem 88 (by decide +kernel) (by decide +kernel), List.forall_mem_cons.mpr ⟨cw_870, fun _ h => absurd h List.not_mem_nil⟩⟩⟩⟩⟩⟩
      · exact Or.inr ⟨_, ⟨"GriefCranes$Crane", "began", "(I)V"⟩, RX0, gc_md 3, rfl, by decide, by decide +kernel, by decide +kernel, rfl, List.forall_mem_cons.mpr ⟨gx_mem 894 (by decide +kernel) (by decide +kernel), List.forall_mem_cons.mpr ⟨gx_mem 1619 (by decide +kernel) (by decide +kernel), List.forall_mem_cons.mpr ⟨gx_mem 869 (by decide +kernel) (by decide +kernel), List.forall_mem_cons.mpr ⟨cw_870, List.forall_mem_cons.mpr ⟨gx_mem 1621 (by decide +kernel) (by decide +kernel), List.forall_mem_cons.mpr ⟨gx_mem 869 (by decide +kernel) (by decide +kernel), List.forall_mem_cons.mpr ⟨gx_mem 88 (by decide +kernel) (by decide +kernel), List.forall_mem_cons.mpr ⟨cw_870, fun _ h => absurd h List.not_mem_nil⟩⟩⟩⟩⟩⟩⟩⟩⟩
      · exact Or.inr ⟨_, ⟨"GriefCranes$Crane", "began", "(I)V"⟩, RX0, gc_md 3, rfl, by decide, by decide +kernel, by decide +kernel, rfl, List.forall_mem_cons.mpr ⟨gx_mem 894 (by decide +kernel) (by decide +kernel), List.forall_mem_cons.mpr ⟨gx_mem 1619 (by decide +kernel) (by decide +kernel), List.forall_mem_cons.mpr ⟨gx_mem 869 (by decide +kernel) (by decide +kernel), List.forall_mem_cons.mpr ⟨cw_870, List.forall_mem_cons.mpr ⟨gx_mem 1622 (by decide +kernel) (by decide +kernel), List.forall_mem_cons.mpr ⟨gx_mem 869 (by decide +kernel) (by decide +kernel), List.forall_mem_cons.mpr ⟨gx_mem 88 (by decide +kernel) (by decide +kernel), List.forall_mem_cons.mpr ⟨cw_870, fun _ h => absurd h List.not_mem_nil⟩⟩⟩⟩⟩⟩⟩⟩⟩
      · exact Or.inr ⟨_, ⟨"GriefCranes$Crane", "began", "(I)V"⟩, RX0, gc_md 3, rfl, by decide, by decide +kernel, by decide +kernel, rfl, List.forall_mem_cons.mpr ⟨gx_mem 894 (by decide +kernel) (by decide +kernel), List.forall_mem_cons.mpr ⟨gx_mem 1619 (by decide +kernel) (by decide +kernel), List.forall_mem_cons.mpr ⟨gx_mem 869 (by decide +kernel) (by decide +kernel), List.forall_mem_cons.mpr ⟨cw_870, List.forall_mem_cons.mpr ⟨gx_mem 1623 (by decide +kernel) (by decide +kernel), List.forall_mem_cons.mpr ⟨gx_mem 869 (by decide +kernel) (by decide +kernel), List.forall_mem_cons.mpr ⟨gx_mem 88 (by decide +kernel) (by decide +kernel), List.forall_mem_cons.mpr ⟨cw_870, fun _ h => absurd h List.not_mem_nil⟩⟩⟩⟩⟩⟩⟩⟩⟩
      · exact Or.inr ⟨_, ⟨"GriefCranes$Crane", "began", "(I)V"⟩, RX0, gc_md 3, rfl, by decide, by decide +kernel, by decide +kernel, rfl, List.forall_mem_cons.mpr ⟨gx_mem 894 (by decide +kernel) (by decide +kernel), List.forall_mem_cons.mpr ⟨gx_mem 1619 (by decide +kernel) (by decide +kernel), List.forall_mem_cons.mpr ⟨gx_mem 869 (by decide +kernel) (by decide +kernel), List.forall_mem_cons.mpr ⟨cw_870, List.forall_mem_cons.mpr ⟨gx_mem 1624 (by decide +kernel) (by decide +kernel), List.forall_mem_cons.mpr ⟨gx_mem 869 (by decide +kernel) (by decide +kernel), List.forall_mem_cons.mpr ⟨gx_mem 88 (by decide +kernel) (by decide +kernel), List.forall_mem_cons.mpr ⟨cw_870, fun _ h => absurd h List.not_mem_nil⟩⟩⟩⟩⟩⟩⟩⟩⟩
      · exact Or.inr ⟨_, ⟨"GriefCranes$Crane", "began", "(I)V"⟩, RX0, gc_md 3, rfl, by decide, by decide +kernel, by decide +kernel, rfl, List.forall_mem_cons.mpr ⟨gx_mem 894 (by decide +kernel) (by decide +kernel), List.forall_mem_cons.mpr ⟨gx_mem 1619 (by decide +kernel) (by decide +kernel), List.forall_mem_cons.mpr ⟨gx_mem 869 (by decide +kernel) (by decide +kernel), List.forall_mem_cons.mpr ⟨cw_870, List.forall_mem_cons.mpr ⟨gx_mem 1625 (by decide +kernel) (by decide +kernel), List.forall_mem_cons.mpr ⟨gx_mem 869 (by decide +kernel) (by decide +kernel), List.forall_mem_cons.mpr ⟨gx_mem 88 (by decide +kernel) (by decide +kernel), List.forall_mem_cons.mpr ⟨cw_870, fun _ h => absurd h List.not_mem_nil⟩⟩⟩⟩⟩⟩⟩⟩⟩
      · exact Or.inr ⟨_, ⟨"GriefCranes$Crane", "began", "(I)V"⟩, RX0, gc_md 3, rfl, by decide, by decide +kernel, by decide +kernel, rfl, List.forall_mem_cons.mpr ⟨gx_mem 894 (by decide +kernel) (by decide +kernel), List.forall_mem_cons.mpr ⟨gx_mem 1619 (by decide +kernel) (by decide +kernel), List.forall_mem_cons.mpr ⟨gx_mem 869 (by decide +kernel) (by decide +kernel), List.forall_mem_cons.mpr ⟨cw_870, List.forall_mem_cons.mpr ⟨gx_mem 1626 (by decide +kernel) (by decide +kernel), List.forall_mem_cons.mpr ⟨gx_mem 869 (by decide +kernel) (by decide +kernel), List.forall_mem_cons.mpr ⟨gx_mem 88 (by decide +kernel) (by decide +kernel), List.forall_mem_cons.mpr ⟨cw_870, fun _ h => absurd h List.not_mem_nil⟩⟩⟩⟩⟩⟩⟩⟩⟩)), List.forall_mem_cons.mpr ⟨
  (gs_iload_n dX0_leans_6 rfl), List.forall_mem_cons.mpr ⟨
  (gs_aload_n dX0_leans_7 rfl), List.forall_mem_cons.mpr ⟨
  (gs_gf (ref := "GriefCranes$Crane") dX0_leans_8 (gx_mem 208 (by decide +kernel) (by decide +kernel)) (Or.inl rfl) gf_cr_0), List.forall_mem_cons.mpr ⟨
  (gs_iadd dX0_leans_11), List.forall_mem_cons.mpr ⟨
  (gs_ri dX0_leans_12), fun _ h => absurd h List.not_mem_nil⟩⟩⟩⟩⟩⟩⟩⟩
theorem kt_X0_leans (g : gx_T) : ∀ q ∈ k_X0_leans, gx_E g gc_md RX0 cX0_leans 2 (some .int) "leans" q.1 q.2 := kt_X0_leans_0 g
set_option maxRecDepth 20000 in
theorem dX0_lifts_0 : decode cX0_lifts 0 = .ok (.aload_n 0, 1) := by decide +kernel
set_option maxRecDepth 20000 in
theorem dX0_lifts_1 : decode cX0_lifts 1 = .ok (.bipush 11, 2) := by decide +kernel
set_option maxRecDepth 20000 in
theorem dX0_lifts_3 : decode cX0_lifts 3 = .ok (.invokevirtual 25, 3) := by decide +kernel
set_option maxRecDepth 20000 in
theorem dX0_lifts_6 : decode cX0_lifts 6 = .ok (.aload_n 0, 1) := by decide +kernel
set_option maxRecDepth 20000 in
theorem dX0_lifts_7 : decode cX0_lifts 7 = .ok (.iload_n 1, 1) := by decide +kernel
set_option maxRecDepth 20000 in
theorem dX0_lifts_8 : decode cX0_lifts 8 = .ok (.invokevirtual 29, 3) := by decide +kernel
set_option maxRecDepth 20000 in
theorem dX0_lifts_11 : decode cX0_lifts 11 = .ok (.aload_n 0, 1) := by decide +kernel
set_option maxRecDepth 20000 in
theorem dX0_lifts_12 : decode cX0_lifts 12 = .ok (.getfield 15, 3) := by decide +kernel
set_option maxRecDepth 20000 in
theorem dX0_lifts_15 : decode cX0_lifts 15 = .ok (.isub, 1) := by decide +kernel
set_option maxRecDepth 20000 in
theorem dX0_lifts_16 : decode cX0_lifts 16 = .ok (.ireturn, 1) := by decide +kernel
set_option maxRecDepth 20000 in
theorem kt_X0_lifts_0 (g : gx_T) : ∀ q ∈ k_X0_lifts_0, gx_E g gc_md RX0 cX0_lifts 2 (some .int) "lifts" q.1 q.2 := List.forall_mem_cons.mpr ⟨(gs_aload_n dX0_lifts_0 rfl), List.forall_mem_cons.mpr ⟨
  (gs_bipush dX0_lifts_1 rfl), List.forall_mem_cons.mpr ⟨
  (gs_cv dX0_lifts_3 (fun q hq => by
      simp only [List.mem_cons, List.not_mem_nil, or_false] at hq
      rcases hq with rfl | rfl | rfl | rfl | rfl | rfl | rfl
      · exact Or.inl ⟨_, rfl, by decide, by decide +kernel, by decide +kernel, List.forall_mem_cons.mpr ⟨gx_mem 894 (by decide +kernel) (by decide +kernel), List.forall_mem_cons.mpr ⟨gx_mem 869 (by decide +kernel) (by decide +kernel), List.forall_mem_cons.mpr ⟨gx_mem 1620 (by decide +kernel) (by decide +kernel), List.forall_mem_cons.mpr ⟨gx_mem 88 (by decide +kernel) (by decide +kernel), List.forall_mem_cons.mpr ⟨cw_870, fun _ h => absurd h List.not_mem_nil⟩⟩⟩⟩⟩⟩
      · exact Or.inr ⟨_, ⟨"GriefCranes$Crane", "began", "(I)V"⟩, RX0, gc_md 3, rfl, by decide, by decide +kernel, by decide +kernel, rfl, List.forall_mem_cons.mpr ⟨gx_mem 894 (by decide +kernel) (by decide +kernel), List.forall_mem_cons.mpr ⟨gx_mem 1619 (by decide +kernel) (by decide +kernel), List.forall_mem_cons.mpr ⟨gx_mem 869 (by decide +kernel) (by decide +kernel), List.forall_mem_cons.mpr ⟨cw_870, List.forall_mem_cons.mpr ⟨gx_mem 1621 (by decide +kernel) (by decide +kernel), List.forall_mem_cons.mpr ⟨gx_mem 869 (by decide +kernel) (by decide +kernel), List.forall_mem_cons.mpr ⟨gx_mem 88 (by decide +kernel) (by decide +kernel), List.forall_mem_cons.mpr ⟨cw_870, fun _ h => absurd h List.not_mem_nil⟩⟩⟩⟩⟩⟩⟩⟩⟩
      · exact Or.inr ⟨_, ⟨"GriefCranes$Crane", "began", "(I)V"⟩, RX0, gc_md 3, rfl, by decide, by decide +kernel, by decide +kernel, rfl, List.forall_mem_cons.mpr ⟨gx_mem 894 (by decide +kernel) (by decide +kernel), List.forall_mem_cons.mpr ⟨gx_mem 1619 (by decide +kernel) (by decide +kernel), List.forall_mem_cons.mpr ⟨gx_mem 869 (by decide +kernel) (by decide +kernel), List.forall_mem_cons.mpr ⟨cw_870, List.forall_mem_cons.mpr ⟨gx_mem 1622 (by decide +kernel) (by decide +kernel), List.forall_mem_cons.mpr ⟨gx_mem 869 (by decide +kernel) (by decide +kernel), List.forall_mem_cons.mpr ⟨gx_mem 88 (by decide +kernel) (by decide +kernel), List.forall_mem_cons.mpr ⟨cw_870, fun _ h => absurd h List.not_mem_nil⟩⟩⟩⟩⟩⟩⟩⟩⟩
      · exact Or.inr ⟨_, ⟨"GriefCranes$Crane", "began", "(I)V"⟩, RX0, gc_md 3, rfl, by decide, by decide +kernel, by decide +kernel, rfl, List.forall_mem_cons.mpr ⟨gx_mem 894 (by decide +kernel) (by decide +kernel), List.forall_mem_cons.mpr ⟨gx_mem 1619 (by decide +kernel) (by decide +kernel), List.forall_mem_cons.mpr ⟨gx_mem 869 (by decide +kernel) (by decide +kernel), List.forall_mem_cons.mpr ⟨cw_870, List.forall_mem_cons.mpr ⟨gx_mem 1623 (by decide +kernel) (by decide +kernel), List.forall_mem_cons.mpr ⟨gx_mem 869 (by decide +kernel) (by decide +kernel), List.forall_mem_cons.mpr ⟨gx_mem 88 (by decide +kernel) (by decide +kernel), List.forall_mem_cons.mpr ⟨cw_870, fun _ h => absurd h List.not_mem_nil⟩⟩⟩⟩⟩⟩⟩⟩⟩
      · exact Or.inr ⟨_, ⟨"GriefCranes$Crane", "began", "(I)V"⟩, RX0, gc_md 3, rfl, by decide, by decide +kernel, by decide +kernel, rfl, List.forall_mem_cons.mpr ⟨gx_mem 894 (by decide +kernel) (by decide +kernel), List.forall_mem_cons.mpr ⟨gx_mem 1619 (by decide +kernel) (by decide +kernel), List.forall_mem_cons.mpr ⟨gx_mem 869 (by decide +kernel) (by decide +kernel), List.forall_mem_cons.mpr ⟨cw_870, List.forall_mem_cons.mpr ⟨gx_mem 1624 (by decide +kernel) (by decide +kernel), List.forall_mem_cons.mpr ⟨gx_mem 869 (by decide +kernel) (by decide +kernel), List.forall_mem_cons.mpr ⟨gx_mem 88 (by decide +kernel) (by decide +kernel), List.forall_mem_cons.mpr ⟨cw_870, fun _ h => absurd h List.not_mem_nil⟩⟩⟩⟩⟩⟩⟩⟩⟩
      · exact Or.inr ⟨_, ⟨"GriefCranes$Crane", "began", "(I)V"⟩, RX0, gc_md 3, rfl, by decide, by decide +kernel, by decide +kernel, rfl, List.forall_mem_cons.mpr ⟨gx_mem 894 (by decide +kernel) (by decide +kernel), List.forall_mem_cons.mpr ⟨gx_mem 1619 (by decide +kernel) (by decide +kernel), List.forall_mem_cons.mpr ⟨gx_mem 869 (by decide +kernel) (by decide +kernel), List.forall_mem_cons.mpr ⟨cw_870, List.forall_mem_cons.mpr ⟨gx_mem 1625 (by decide +kernel) (by decide +kernel), List.forall_mem_cons.mpr ⟨gx_mem 869 (by decide +kernel) (by decide +kernel), List.forall_mem_cons.mpr ⟨gx_mem 88 (by decide +kernel) (by decide +kernel), List.forall_mem_cons.mpr ⟨cw_870, fun _ h => absurd h List.not_mem_nil⟩⟩⟩⟩⟩⟩⟩⟩⟩
      · exact Or.inr ⟨_, ⟨"GriefCranes$Crane", "began", "(I)V"⟩, RX0, gc_md 3, rfl, by decide, by decide +kernel, by decide +kernel, rfl, List.forall_mem_cons.mpr ⟨gx_mem 894 (by decide +kernel) (by decide +kernel), List.forall_mem_cons.mpr ⟨gx_mem 1619 (by decide +kernel) (by decide +kernel), List.forall_mem_cons.mpr ⟨gx_mem 869 (by decide +kernel) (by decide +kernel), List.forall_mem_cons.mpr ⟨cw_870, List.forall_mem_cons.mpr ⟨gx_mem 1626 (by decide +kernel) (by decide +kernel), List.forall_mem_cons.mpr ⟨gx_mem 869 (by decide +kernel) (by decide +kernel), List.forall_mem_cons.mpr ⟨gx_mem 88 (by decide +kernel) (by decide +kernel), List.forall_mem_cons.mpr ⟨cw_870, fun _ h => absurd h List.not_mem_nil⟩⟩⟩⟩⟩⟩⟩⟩⟩)), List.forall_mem_cons.mpr ⟨
  (gs_aload_n dX0_lifts_6 rfl), List.forall_mem_cons.mpr ⟨
  (gs_iload_n dX0_lifts_7 rfl), List.forall_mem_cons.mpr ⟨
  (gs_cv dX0_lifts_8 (fun q hq => by
      simp only [List.mem_cons, List.not_mem_nil, or_false] at hq
      rcases hq with rfl | rfl | rfl | rfl | rfl | rfl | rfl
      · exact Or.inl ⟨_, rfl, by decide, by decide +kernel, by decide +kernel, List.forall_mem_cons.mpr ⟨gx_mem 921 (by decide +kernel) (by decide +kernel), List.forall_mem_cons.mpr ⟨gx_mem 859 (by decide +kernel) (by decide +kernel), List.forall_mem_cons.mpr ⟨gx_mem 860 (by decide +kernel) (by decide +kernel), List.forall_mem_cons.mpr ⟨gx_mem 88 (by decide +kernel) (by decide +kernel), List.forall_mem_cons.mpr ⟨cw_893, fun _ h => absurd h List.not_mem_nil⟩⟩⟩⟩⟩⟩
      · exact Or.inr ⟨_, ⟨"GriefCranes$Crane", "leans", "(I)I"⟩, RX0, gc_md 4, rfl, by decide, by decide +kernel, by decide +kernel, rfl, List.forall_mem_cons.mpr ⟨gx_mem 921 (by decide +kernel) (by decide +kernel), List.forall_mem_cons.mpr ⟨gx_mem 861 (by decide +kernel) (by decide +kernel), List.forall_mem_cons.mpr ⟨gx_mem 859 (by decide +kernel) (by decide +kernel), List.forall_mem_cons.mpr ⟨cw_893, List.forall_mem_cons.mpr ⟨gx_mem 862 (by decide +kernel) (by decide +kernel), List.forall_mem_cons.mpr ⟨gx_mem 863 (by decide +kernel) (by decide +kernel), List.forall_mem_cons.mpr ⟨gx_mem 92 (by decide +kernel) (by decide +kernel), List.forall_mem_cons.mpr ⟨cw_864, fun _ h => absurd h List.not_mem_nil⟩⟩⟩⟩⟩⟩⟩⟩⟩
      · exact Or.inr ⟨_, ⟨"GriefCranes$Crane", "leans", "(I)I"⟩, RX0, gc_md 4, rfl, by decide, by decide +kernel, by decide +kernel, rfl, List.forall_mem_cons.mpr ⟨gx_mem 921 (by decide +kernel) (by decide +kernel), List.forall_mem_cons.mpr ⟨gx_mem 861 (by decide +kernel) (by decide +kernel), List.forall_mem_cons.mpr ⟨gx_mem 859 (by decide +kernel) (by decide +kernel), List.forall_mem_cons.mpr ⟨cw_893, List.forall_mem_cons.mpr ⟨gx_mem 874 (by decide +kernel) (by decide +kernel), List.forall_mem_cons.mpr ⟨gx_mem 859 (by decide +kernel) (by decide +kernel), List.forall_mem_cons.mpr ⟨gx_mem 88 (by decide +kernel) (by decide +kernel), List.forall_mem_cons.mpr ⟨cw_893, fun _ h => absurd h List.not_mem_nil⟩⟩⟩⟩⟩⟩⟩⟩⟩
      · exact Or.inr ⟨_, ⟨"GriefCranes$Crane", "leans", "(I)I"⟩, RX0, gc_md 4, rfl, by decide, by decide +kernel, by decide +kernel, rfl, List.forall_mem_cons.mpr ⟨gx_mem 921 (by decide +kernel) (by decide +kernel), List.forall_mem_cons.mpr ⟨gx_mem 861 (by decide +kernel) (by decide +kernel), List.forall_mem_cons.mpr ⟨gx_mem 859 (by decide +kernel) (by decide +kernel), List.forall_mem_cons.mpr ⟨cw_893, List.forall_mem_cons.mpr ⟨gx_mem 875 (by decide +kernel) (by decide +kernel), List.forall_mem_cons.mpr ⟨gx_mem 876 (by decide +kernel) (by decide +kernel), List.forall_mem_cons.mpr ⟨gx_mem 90 (by decide +kernel) (by decide +kernel), List.forall_mem_cons.mpr ⟨cw_877, fun _ h => absurd h List.not_mem_nil⟩⟩⟩⟩⟩⟩⟩⟩⟩
      · exact Or.inr ⟨_, ⟨"GriefCranes$Crane", "leans", "(I)I"⟩, RX0, gc_md 4, rfl, by decide, by decide +kernel, by decide +kernel, rfl, List.forall_mem_cons.mpr ⟨gx_mem 921 (by decide +kernel) (by decide +kernel), List.forall_mem_cons.mpr ⟨gx_mem 861 (by decide +kernel) (by decide +kernel), List.forall_mem_cons.mpr ⟨gx_mem 859 (by decide +kernel) (by decide +kernel), List.forall_mem_cons.mpr ⟨cw_893, List.forall_mem_cons.mpr ⟨gx_mem 883 (by decide +kernel) (by decide +kernel), List.forall_mem_cons.mpr ⟨gx_mem 876 (by decide +kernel) (by decide +kernel), List.forall_mem_cons.mpr ⟨gx_mem 90 (by decide +kernel) (by decide +kernel), List.forall_mem_cons.mpr ⟨cw_877, fun _ h => absurd h List.not_mem_nil⟩⟩⟩⟩⟩⟩⟩⟩⟩
      · exact Or.inr ⟨_, ⟨"GriefCranes$Crane", "leans", "(I)I"⟩, RX0, gc_md 4, rfl, by decide, by decide +kernel, by decide +kernel, rfl, List.forall_mem_cons.mpr ⟨gx_mem 921 (by decide +kernel) (by decide +kernel), List.forall_mem_cons.mpr ⟨gx_mem 861 (by decide +kernel) (by decide +kernel), List.forall_mem_cons.mpr ⟨gx_mem 859 (by decide +kernel) (by decide +kernel), List.forall_mem_cons.mpr ⟨cw_893, List.forall_mem_cons.mpr ⟨gx_mem 884 (by decide +kernel) (by decide +kernel), List.forall_mem_cons.mpr ⟨gx_mem 859 (by decide +kernel) (by decide +kernel), List.forall_mem_cons.mpr ⟨gx_mem 88 (by decide +kernel) (by decide +kernel), List.forall_mem_cons.mpr ⟨cw_893, fun _ h => absurd h List.not_mem_nil⟩⟩⟩⟩⟩⟩⟩⟩⟩
      · exact Or.inr ⟨_, ⟨"GriefCranes$Crane", "leans", "(I)I"⟩, RX0, gc_md 4, rfl, by decide, by decide +kernel, by decide +kernel, rfl, List.forall_mem_cons.mpr ⟨gx_mem 921 (by decide +kernel) (by decide +kernel), List.forall_mem_cons.mpr ⟨gx_mem 861 (by decide +kernel) (by decide +kernel), List.forall_mem_cons.mpr ⟨gx_mem 859 (by decide +kernel) (by decide +kernel), List.forall_mem_cons.mpr ⟨cw_893, List.forall_mem_cons.mpr ⟨gx_mem 885 (by decide +kernel) (by decide +kernel), List.forall_mem_cons.mpr ⟨gx_mem 886 (by decide +kernel) (by decide +kernel), List.forall_mem_cons.mpr ⟨gx_mem 94 (by decide +kernel) (by decide +kernel), List.forall_mem_cons.mpr ⟨cw_887, fun _ h => absurd h List.not_mem_nil⟩⟩⟩⟩⟩⟩⟩⟩⟩)), List.forall_mem_cons.mpr ⟨
  (gs_aload_n dX0_lifts_11 rfl), List.forall_mem_cons.mpr ⟨
  (gs_gf (ref := "GriefCranes$Crane") dX0_lifts_12 (gx_mem 211 (by decide +kernel) (by decide +kernel)) (Or.inl rfl) gf_cr_1), List.forall_mem_cons.mpr ⟨
  (gs_isub dX0_lifts_15), List.forall_mem_cons.mpr ⟨
  (gs_ri dX0_lifts_16), fun _ h => absurd h List.not_mem_nil⟩⟩⟩⟩⟩⟩⟩⟩⟩⟩
theorem kt_X0_lifts (g : gx_T) : ∀ q ∈ k_X0_lifts, gx_E g gc_md RX0 cX0_lifts 2 (some .int) "lifts" q.1 q.2 := kt_X0_lifts_0 g
set_option maxRecDepth 20000 in
theorem dX0_tells_0 : decode cX0_tells 0 = .ok (.aload_n 0, 1) := by decide +kernel
set_option maxRecDepth 20000 in
theorem dX0_tells_1 : decode cX0_tells 1 = .ok (.bipush 12, 2) := by decide +kernel
set_option maxRecDepth 20000 in
theorem dX0_tells_3 : decode cX0_tells 3 = .ok (.invokevirtual 25, 3) := by decide +kernel
set_option maxRecDepth 20000 in
theorem dX0_tells_6 : decode cX0_tells 6 = .ok (.aload_n 0, 1) := by decide +kernel
set_option maxRecDepth 20000 in
theorem dX0_tells_7 : decode cX0_tells 7 = .ok (.iload_n 1, 1) := by decide +kernel
set_option maxRecDepth 20000 in
theorem dX0_tells_8 : decode cX0_tells 8 = .ok (.invokevirtual 33, 3) := by decide +kernel
set_option maxRecDepth 20000 in
theorem dX0_tells_11 : decode cX0_tells 11 = .ok (.iconst 2, 1) := by decide +kernel
set_option maxRecDepth 20000 in
theorem dX0_tells_12 : decode cX0_tells 12 = .ok (.imul, 1) := by decide +kernel
set_option maxRecDepth 20000 in
theorem dX0_tells_13 : decode cX0_tells 13 = .ok (.ireturn, 1) := by decide +kernel
set_option maxRecDepth 20000 in
theorem kt_X0_tells_0 (g : gx_T) : ∀ q ∈ k_X0_tells_0, gx_E g gc_md RX0 cX0_tells 2 (some .int) "tells" q.1 q.2 := List.forall_mem_cons.mpr ⟨(gs_aload_n dX0_tells_0 rfl), List.forall_mem_cons.mpr ⟨
  (gs_bipush dX0_tells_1 rfl), List.forall_mem_cons.mpr ⟨
  (gs_cv dX0_tells_3 (fun q hq => by
      simp only [List.mem_cons, List.not_mem_nil, or_false] at hq
      rcases hq with rfl | rfl | rfl | rfl | rfl | rfl | rfl
      · exact Or.inl ⟨_, rfl, by decide, by decide +kernel, by decide +kernel, List.forall_mem_cons.mpr ⟨gx_mem 894 (by decide +kernel) (by decide +kernel), List.forall_mem_cons.mpr ⟨gx_mem 869 (by decide +kernel) (by decide +kernel), List.forall_mem_cons.mpr ⟨gx_mem 1620 (by decide +kernel) (by decide +kernel), List.forall_mem_cons.mpr ⟨gx_mem 88 (by decide +kernel) (by decide +kernel), List.forall_mem_cons.mpr ⟨cw_870, fun _ h => absurd h List.not_mem_nil⟩⟩⟩⟩⟩⟩
      · exact Or.inr ⟨_, ⟨"GriefCranes$Crane", "began", "(I)V"⟩, RX0, gc_md 3, rfl, by decide, by decide +kernel, by decide +kernel, rfl, List.forall_mem_cons.mpr ⟨gx_mem 894 (by decide +kernel) (by decide +kernel), List.forall_mem_cons.mpr ⟨gx_mem 1619 (by decide +kernel) (by decide +kernel), List.forall_mem_cons.mpr ⟨gx_mem 869 (by decide +kernel) (by decide +kernel), List.forall_mem_cons.mpr ⟨cw_870, List.forall_mem_cons.mpr ⟨gx_mem 1621 (by decide +kernel) (by decide +kernel), List.forall_mem_cons.mpr ⟨gx_mem 869 (by decide +kernel) (by decide +kernel), List.forall_mem_cons.mpr ⟨gx_mem 88 (by decide +kernel) (by decide +kernel), List.forall_mem_cons.mpr ⟨cw_870, fun _ h => absurd h List.not_mem_nil⟩⟩⟩⟩⟩⟩⟩⟩⟩
      · exact Or.inr ⟨_, ⟨"GriefCranes$Crane", "began", "(I)V"⟩, RX0, gc_md 3, rfl, by decide, by decide +kernel, by decide +kernel, rfl, List.forall_mem_cons.mpr ⟨gx_mem 894 (by decide +kernel) (by decide +kernel), List.forall_mem_cons.mpr ⟨gx_mem 1619 (by decide +kernel) (by decide +kernel), List.forall_mem_cons.mpr ⟨gx_mem 869 (by decide +kernel) (by decide +kernel), List.forall_mem_cons.mpr ⟨cw_870, List.forall_mem_cons.mpr ⟨gx_mem 1622 (by decide +kernel) (by decide +kernel), List.forall_mem_cons.mpr ⟨gx_mem 869 (by decide +kernel) (by decide +kernel), List.forall_mem_cons.mpr ⟨gx_mem 88 (by decide +kernel) (by decide +kernel), List.forall_mem_cons.mpr ⟨cw_870, fun _ h => absurd h List.not_mem_nil⟩⟩⟩⟩⟩⟩⟩⟩⟩
      · exact Or.inr ⟨_, ⟨"GriefCranes$Crane", "began", "(I)V"⟩, RX0, gc_md 3, rfl, by decide, by decide +kernel, by decide +kernel, rfl, List.forall_mem_cons.mpr ⟨gx_mem 894 (by decide +kernel) (by decide +kernel), List.forall_mem_cons.mpr ⟨gx_mem 1619 (by decide +kernel) (by decide +kernel), List.forall_mem_cons.mpr ⟨gx_mem 869 (by decide +kernel) (by decide +kernel), List.forall_mem_cons.mpr ⟨cw_870, List.forall_mem_cons.mpr ⟨gx_mem 1623 (by decide +kernel) (by decide +kernel), List.forall_mem_cons.mpr ⟨gx_mem 869 (by decide +kernel) (by decide +kernel), List.forall_mem_cons.mpr ⟨gx_mem 88 (by decide +kernel) (by decide +kernel), List.forall_mem_cons.mpr ⟨cw_870, fun _ h => absurd h List.not_mem_nil⟩⟩⟩⟩⟩⟩⟩⟩⟩
      · exact Or.inr ⟨_, ⟨"GriefCranes$Crane", "began", "(I)V"⟩, RX0, gc_md 3, rfl, by decide, by decide +kernel, by decide +kernel, rfl, List.forall_mem_cons.mpr ⟨gx_mem 894 (by decide +kernel) (by decide +kernel), List.forall_mem_cons.mpr ⟨gx_mem 1619 (by decide +kernel) (by decide +kernel), List.forall_mem_cons.mpr ⟨gx_mem 869 (by decide +kernel) (by decide +kernel), List.forall_mem_cons.mpr ⟨cw_870, List.forall_mem_cons.mpr ⟨gx_mem 1624 (by decide +kernel) (by decide +kernel), List.forall_mem_cons.mpr ⟨gx_mem 869 (by decide +kernel) (by decide +kernel), List.forall_mem_cons.mpr ⟨gx_mem 88 (by decide +kernel) (by decide +kernel), List.forall_mem_cons.mpr ⟨cw_870, fun _ h => absurd h List.not_mem_nil⟩⟩⟩⟩⟩⟩⟩⟩⟩
      · exact Or.inr ⟨_, ⟨"GriefCranes$Crane", "began", "(I)V"⟩, RX0, gc_md 3, rfl, by decide, by decide +kernel, by decide +kernel, rfl, List.forall_mem_cons.mpr ⟨gx_mem 894 (by decide +kernel) (by decide +kernel), List.forall_mem_cons.mpr ⟨gx_mem 1619 (by decide +kernel) (by decide +kernel), List.forall_mem_cons.mpr ⟨gx_mem 869 (by decide +kernel) (by decide +kernel), List.forall_mem_cons.mpr ⟨cw_870, List.forall_mem_cons.mpr ⟨gx_mem 1625 (by decide +kernel) (by decide +kernel), List.forall_mem_cons.mpr ⟨gx_mem 869 (by decide +kernel) (by decide +kernel), List.forall_mem_cons.mpr ⟨gx_mem 88 (by decide +kernel) (by decide +kernel), List.forall_mem_cons.mpr ⟨cw_870, fun _ h => absurd h List.not_mem_nil⟩⟩⟩⟩⟩⟩⟩⟩⟩
      · exact Or.inr ⟨_, ⟨"GriefCranes$Crane", "began", "(I)V"⟩, RX0, gc_md 3, rfl, by decide, by decide +kernel, by decide +kernel, rfl, List.forall_mem_cons.mpr ⟨gx_mem 894 (by decide +kernel) (by decide +kernel), List.forall_mem_cons.mpr ⟨gx_mem 1619 (by decide +kernel) (by decide +kernel), List.forall_mem_cons.mpr ⟨gx_mem 869 (by decide +kernel) (by decide +kernel), List.forall_mem_cons.mpr ⟨cw_870, List.forall_mem_cons.mpr ⟨gx_mem 1626 (by decide +kernel) (by decide +kernel), List.forall_mem_cons.mpr ⟨gx_mem 869 (by decide +kernel) (by decide +kernel), List.forall_mem_cons.mpr ⟨gx_mem 88 (by decide +kernel) (by decide +kernel), List.forall_mem_cons.mpr ⟨cw_870, fun _ h => absurd h List.not_mem_nil⟩⟩⟩⟩⟩⟩⟩⟩⟩)), List.forall_mem_cons.mpr ⟨
  (gs_aload_n dX0_tells_6 rfl), List.forall_mem_cons.mpr ⟨
  (gs_iload_n dX0_tells_7 rfl), List.forall_mem_cons.mpr ⟨
  (gs_cv dX0_tells_8 (fun q hq => by
      simp only [List.mem_cons, List.not_mem_nil, or_false] at hq
      rcases hq with rfl | rfl | rfl | rfl | rfl | rfl | rfl
      · exact Or.inl ⟨_, rfl, by decide, by decide +kernel, by decide +kernel, List.forall_mem_cons.mpr ⟨gx_mem 951 (by decide +kernel) (by decide +kernel), List.forall_mem_cons.mpr ⟨gx_mem 896 (by decide +kernel) (by decide +kernel), List.forall_mem_cons.mpr ⟨gx_mem 897 (by decide +kernel) (by decide +kernel), List.forall_mem_cons.mpr ⟨gx_mem 88 (by decide +kernel) (by decide +kernel), List.forall_mem_cons.mpr ⟨cw_920, fun _ h => absurd h List.not_mem_nil⟩⟩⟩⟩⟩⟩
      · exact Or.inr ⟨_, ⟨"GriefCranes$Crane", "lifts", "(I)I"⟩, RX0, gc_md 5, rfl, by decide, by decide +kernel, by decide +kernel, rfl, List.forall_mem_cons.mpr ⟨gx_mem 951 (by decide +kernel) (by decide +kernel), List.forall_mem_cons.mpr ⟨gx_mem 898 (by decide +kernel) (by decide +kernel), List.forall_mem_cons.mpr ⟨gx_mem 896 (by decide +kernel) (by decide +kernel), List.forall_mem_cons.mpr ⟨cw_920, List.forall_mem_cons.mpr ⟨gx_mem 899 (by decide +kernel) (by decide +kernel), List.forall_mem_cons.mpr ⟨gx_mem 900 (by decide +kernel) (by decide +kernel), List.forall_mem_cons.mpr ⟨gx_mem 92 (by decide +kernel) (by decide +kernel), List.forall_mem_cons.mpr ⟨cw_901, fun _ h => absurd h List.not_mem_nil⟩⟩⟩⟩⟩⟩⟩⟩⟩
      · exact Or.inr ⟨_, ⟨"GriefCranes$Crane", "lifts", "(I)I"⟩, RX0, gc_md 5, rfl, by decide, by decide +kernel, by decide +kernel, rfl, List.forall_mem_cons.mpr ⟨gx_mem 951 (by decide +kernel) (by decide +kernel), List.forall_mem_cons.mpr ⟨gx_mem 898 (by decide +kernel) (by decide +kernel), List.forall_mem_cons.mpr ⟨gx_mem 896 (by decide +kernel) (by decide +kernel), List.forall_mem_cons.mpr ⟨cw_920, List.forall_mem_cons.mpr ⟨gx_mem 910 (by decide +kernel) (by decide +kernel), List.forall_mem_cons.mpr ⟨gx_mem 903 (by decide +kernel) (by decide +kernel), List.forall_mem_cons.mpr ⟨gx_mem 89 (by decide +kernel) (by decide +kernel), List.forall_mem_cons.mpr ⟨cw_904, fun _ h => absurd h List.not_mem_nil⟩⟩⟩⟩⟩⟩⟩⟩⟩
      · exact Or.inr ⟨_, ⟨"GriefCranes$Crane", "lifts", "(I)I"⟩, RX0, gc_md 5, rfl, by decide, by decide +kernel, by decide +kernel, rfl, List.forall_mem_cons.mpr ⟨gx_mem 951 (by decide +kernel) (by decide +kernel), List.forall_mem_cons.mpr ⟨gx_mem 898 (by decide +kernel) (by decide +kernel), List.forall_mem_cons.mpr ⟨gx_mem 896 (by decide +kernel) (by decide +kernel), List.forall_mem_cons.mpr ⟨cw_920, List.forall_mem_cons.mpr ⟨gx_mem 911 (by decide +kernel) (by decide +kernel), List.forall_mem_cons.mpr ⟨gx_mem 896 (by decide +kernel) (by decide +kernel), List.forall_mem_cons.mpr ⟨gx_mem 88 (by decide +kernel) (by decide +kernel), List.forall_mem_cons.mpr ⟨cw_920, fun _ h => absurd h List.not_mem_nil⟩⟩⟩⟩⟩⟩⟩⟩⟩
      · exact Or.inr ⟨_, ⟨"GriefCranes$Crane", "lifts", "(I)I"⟩, RX0, gc_md 5, rfl, by decide, by decide +kernel, by decide +kernel, rfl, List.forall_mem_cons.mpr ⟨gx_mem 951 (by decide +kernel) (by decide +kernel), List.forall_mem_cons.mpr ⟨gx_mem 898 (by decide +kernel) (by decide +kernel), List.forall_mem_cons.mpr ⟨gx_mem 896 (by decide +kernel) (by decide +kernel), List.forall_mem_cons.mpr ⟨cw_920, List.forall_mem_cons.mpr ⟨gx_mem 912 (by decide +kernel) (by decide +kernel), List.forall_mem_cons.mpr ⟨gx_mem 896 (by decide +kernel) (by decide +kernel), List.forall_mem_cons.mpr ⟨gx_mem 88 (by decide +kernel) (by decide +kernel), List.forall_mem_cons.mpr ⟨cw_920, fun _ h => absurd h List.not_mem_nil⟩⟩⟩⟩⟩⟩⟩⟩⟩
      · exact Or.inr ⟨_, ⟨"GriefCranes$Crane", "lifts", "(I)I"⟩, RX0, gc_md 5, rfl, by decide, by decide +kernel, by decide +kernel, rfl, List.forall_mem_cons.mpr ⟨gx_mem 951 (by decide +kernel) (by decide +kernel), List.forall_mem_cons.mpr ⟨gx_mem 898 (by decide +kernel) (by decide +kernel), List.forall_mem_cons.mpr ⟨gx_mem 896 (by decide +kernel) (by decide +kernel), List.forall_mem_cons.mpr ⟨cw_920, List.forall_mem_cons.mpr ⟨gx_mem 913 (by decide +kernel) (by decide +kernel), List.forall_mem_cons.mpr ⟨gx_mem 896 (by decide +kernel) (by decide +kernel), List.forall_mem_cons.mpr ⟨gx_mem 88 (by decide +kernel) (by decide +kernel), List.forall_mem_cons.mpr ⟨cw_920, fun _ h => absurd h List.not_mem_nil⟩⟩⟩⟩⟩⟩⟩⟩⟩
      · exact Or.inr ⟨_, ⟨"GriefCranes$Crane", "lifts", "(I)I"⟩, RX0, gc_md 5, rfl, by decide, by decide +kernel, by decide +kernel, rfl, List.forall_mem_cons.mpr ⟨gx_mem 951 (by decide +kernel) (by decide +kernel), List.forall_mem_cons.mpr ⟨gx_mem 898 (by decide +kernel) (by decide +kernel), List.forall_mem_cons.mpr ⟨gx_mem 896 (by decide +kernel) (by decide +kernel), List.forall_mem_cons.mpr ⟨cw_920, List.forall_mem_cons.mpr ⟨gx_mem 914 (by decide +kernel) (by decide +kernel), List.forall_mem_cons.mpr ⟨gx_mem 915 (by decide +kernel) (by decide +kernel), List.forall_mem_cons.mpr ⟨gx_mem 94 (by decide +kernel) (by decide +kernel), List.forall_mem_cons.mpr ⟨cw_916, fun _ h => absurd h List.not_mem_nil⟩⟩⟩⟩⟩⟩⟩⟩⟩)), List.forall_mem_cons.mpr ⟨
  (gs_iconst dX0_tells_11 rfl), List.forall_mem_cons.mpr ⟨
  (gs_imul dX0_tells_12), List.forall_mem_cons.mpr ⟨
  (gs_ri dX0_tells_13), fun _ h => absurd h List.not_mem_nil⟩⟩⟩⟩⟩⟩⟩⟩⟩
theorem kt_X0_tells (g : gx_T) : ∀ q ∈ k_X0_tells, gx_E g gc_md RX0 cX0_tells 2 (some .int) "tells" q.1 q.2 := kt_X0_tells_0 g
set_option maxRecDepth 20000 in
theorem dX1_init_0 : decode cX1_init 0 = .ok (.aload_n 0, 1) := by decide +kernel
set_option maxRecDepth 20000 in
theorem dX1_init_1 : decode cX1_init 1 = .ok (.invokespecial 3, 3) := by decide +kernel
set_option maxRecDepth 20000 in
theorem dX1_init_4 : decode cX1_init 4 = .ok (.aload_n 0, 1) := by decide +kernel
set_option maxRecDepth 20000 in
theorem dX1_init_5 : decode cX1_init 5 = .ok (.bipush 12, 2) := by decide +kernel
set_option maxRecDepth 20000 in
theorem dX1_init_7 : decode cX1_init 7 = .ok (.putfield 11, 3) := by decide +kernel
set_option maxRecDepth 20000 in
theorem dX1_init_10 : decode cX1_init 10 = .ok (.aload_n 0, 1) := by decide +kernel
set_option maxRecDepth 20000 in
theorem dX1_init_11 : decode cX1_init 11 = .ok (.iconst 2, 1) := by decide +kernel
set_option maxRecDepth 20000 in
theorem dX1_init_12 : decode cX1_init 12 = .ok (.putfield 15, 3) := by decide +kernel
set_option maxRecDepth 20000 in
theorem dX1_init_15 : decode cX1_init 15 = .ok (.aload_n 0, 1) := by decide +kernel
set_option maxRecDepth 20000 in
theorem dX1_init_16 : decode cX1_init 16 = .ok (.bipush 100, 2) := by decide +kernel
set_option maxRecDepth 20000 in
theorem dX1_init_18 : decode cX1_init 18 = .ok (.newarray .int, 2) := by decide +kernel
set_option maxRecDepth 20000 in
theorem dX1_init_20 : decode cX1_init 20 = .ok (.putfield 18, 3) := by decide +kernel
set_option maxRecDepth 20000 in
theorem dX1_init_23 : decode cX1_init 23 = .ok (.aload_n 0, 1) := by decide +kernel
set_option maxRecDepth 20000 in
theorem dX1_init_24 : decode cX1_init 24 = .ok (.bipush 100, 2) := by decide +kernel
set_option maxRecDepth 20000 in
theorem dX1_init_26 : decode cX1_init 26 = .ok (.newarray .int, 2) := by decide +kernel
set_option maxRecDepth 20000 in
theorem dX1_init_28 : decode cX1_init 28 = .ok (.putfield 22, 3) := by decide +kernel
set_option maxRecDepth 20000 in
theorem dX1_init_31 : decode cX1_init 31 = .ok (.aload_n 0, 1) := by decide +kernel
set_option maxRecDepth 20000 in
theorem dX1_init_32 : decode cX1_init 32 = .ok (.bipush 100, 2) := by decide +kernel
set_option maxRecDepth 20000 in
theorem dX1_init_34 : decode cX1_init 34 = .ok (.newarray .int, 2) := by decide +kernel
set_option maxRecDepth 20000 in
theorem dX1_init_36 : decode cX1_init 36 = .ok (.putfield 25, 3) := by decide +kernel
set_option maxRecDepth 20000 in
theorem dX1_init_39 : decode cX1_init 39 = .ok (.aload_n 0, 1) := by decide +kernel
set_option maxRecDepth 20000 in
theorem dX1_init_40 : decode cX1_init 40 = .ok (.iconst 0, 1) := by decide +kernel
set_option maxRecDepth 20000 in
theorem dX1_init_41 : decode cX1_init 41 = .ok (.putfield 28, 3) := by decide +kernel
set_option maxRecDepth 20000 in
theorem dX1_init_44 : decode cX1_init 44 = .ok (.aload_n 0, 1) := by decide +kernel
set_option maxRecDepth 20000 in
theorem dX1_init_45 : decode cX1_init 45 = .ok (.aconst_null, 1) := by decide +kernel
set_option maxRecDepth 20000 in
theorem dX1_init_46 : decode cX1_init 46 = .ok (.putfield 31, 3) := by decide +kernel
set_option maxRecDepth 20000 in
theorem dX1_init_49 : decode cX1_init 49 = .ok (.aload_n 0, 1) := by decide +kernel
set_option maxRecDepth 20000 in
theorem dX1_init_50 : decode cX1_init 50 = .ok (.iconst 0, 1) := by decide +kernel
set_option maxRecDepth 20000 in
theorem dX1_init_51 : decode cX1_init 51 = .ok (.putfield 35, 3) := by decide +kernel
set_option maxRecDepth 20000 in
theorem dX1_init_54 : decode cX1_init 54 = .ok (.aload_n 0, 1) := by decide +kernel
set_option maxRecDepth 20000 in
theorem dX1_init_55 : decode cX1_init 55 = .ok (.iconst 0, 1) := by decide +kernel
set_option maxRecDepth 20000 in
theorem dX1_init_56 : decode cX1_init 56 = .ok (.putfield 38, 3) := by decide +kernel
set_option maxRecDepth 20000 in
theorem dX1_init_59 : decode cX1_init 59 = .ok (.aload_n 0, 1) := by decide +kernel
set_option maxRecDepth 20000 in
theorem dX1_init_60 : decode cX1_init 60 = .ok (.iconst 0, 1) := by decide +kernel
set_option maxRecDepth 20000 in
theorem dX1_init_61 : decode cX1_init 61 = .ok (.putfield 41, 3) := by decide +kernel
set_option maxRecDepth 20000 in
theorem dX1_init_64 : decode cX1_init 64 = .ok (.return_, 1) := by decide +kernel
set_option maxRecDepth 20000 in
theorem kt_X1_init_0 (g : gx_T) : ∀ q ∈ k_X1_init_0, gx_E g gc_md RX1 cX1_init 1 (none) "<init>" q.1 q.2 := List.forall_mem_cons.mpr ⟨(gs_aload_n dX1_init_0 rfl), List.forall_mem_cons.mpr ⟨
  (gs_oi dX1_init_1 (gx_mem 145 (by decide +kernel) (by decide +kernel)) (gx_mem 111 (by decide +kernel) (by decide +kernel)) (cw_112)), List.forall_mem_cons.mpr ⟨
  (gs_aload_n dX1_init_4 rfl), List.forall_mem_cons.mpr ⟨
  (gs_bipush dX1_init_5 rfl), List.forall_mem_cons.mpr ⟨
  (gs_pf (ref := "GriefCranes$Firm") dX1_init_7 (gx_mem 146 (by decide +kernel) (by decide +kernel)) (Or.inl rfl) gf_1_0 (by decide +kernel)), List.forall_mem_cons.mpr ⟨
  (gs_aload_n dX1_init_10 rfl), List.forall_mem_cons.mpr ⟨
  (gs_iconst dX1_init_11 rfl), List.forall_mem_cons.mpr ⟨
  (gs_pf (ref := "GriefCranes$Firm") dX1_init_12 (gx_mem 149 (by decide +kernel) (by decide +kernel)) (Or.inl rfl) gf_1_1 (by decide +kernel)), List.forall_mem_cons.mpr ⟨
  (gs_aload_n dX1_init_15 rfl), List.forall_mem_cons.mpr ⟨
  (gs_bipush dX1_init_16 rfl), List.forall_mem_cons.mpr ⟨
  (gs_newa (ty := .int) dX1_init_18 rfl (gx_mem 136 (by decide +kernel) (by decide +kernel)) (by decide) (fun _ _ => rfl) rfl rfl (fun _ h => h)), List.forall_mem_cons.mpr ⟨
  (gs_pff dX1_init_20 (gx_mem 152 (by decide +kernel) (by decide +kernel)) gf_1_2 (by decide +kernel)), List.forall_mem_cons.mpr ⟨
  (gs_aload_n dX1_init_23 rfl), List.forall_mem_cons.mpr ⟨
  (gs_bipush dX1_init_24 rfl), List.forall_mem_cons.mpr ⟨
  (gs_newa (ty := .int) dX1_init_26 rfl (gx_mem 136 (by decide +kernel) (by decide +kernel)) (by decide) (fun _ _ => rfl) rfl rfl (fun _ h => h)), List.forall_mem_cons.mpr ⟨
  (gs_pff dX1_init_28 (gx_mem 153 (by decide +kernel) (by decide +kernel)) gf_1_3 (by decide +kernel)), List.forall_mem_cons.mpr ⟨
  (gs_aload_n dX1_init_31 rfl), List.forall_mem_cons.mpr ⟨
  (gs_bipush dX1_init_32 rfl), List.forall_mem_cons.mpr ⟨
  (gs_newa (ty := .int) dX1_init_34 rfl (gx_mem 136 (by decide +kernel) (by decide +kernel)) (by decide) (fun _ _ => rfl) rfl rfl (fun _ h => h)), List.forall_mem_cons.mpr ⟨
  (gs_pff dX1_init_36 (gx_mem 154 (by decide +kernel) (by decide +kernel)) gf_1_4 (by decide +kernel)), List.forall_mem_cons.mpr ⟨
  (gs_aload_n dX1_init_39 rfl), List.forall_mem_cons.mpr ⟨
  (gs_iconst dX1_init_40 rfl), List.forall_mem_cons.mpr ⟨
  (gs_pf (ref := "GriefCranes$Firm") dX1_init_41 (gx_mem 155 (by decide +kernel) (by decide +kernel)) (Or.inl rfl) gf_1_5 (by decide +kernel)), List.forall_mem_cons.mpr ⟨
  (gs_aload_n dX1_init_44 rfl), List.forall_mem_cons.mpr ⟨
  (gs_null dX1_init_45), List.forall_mem_cons.mpr ⟨
  (gs_pf (ref := "GriefCranes$Firm") dX1_init_46 (gx_mem 156 (by decide +kernel) (by decide +kernel)) (Or.inl rfl) gf_1_6 (by decide +kernel)), List.forall_mem_cons.mpr ⟨
  (gs_aload_n dX1_init_49 rfl), List.forall_mem_cons.mpr ⟨
  (gs_iconst dX1_init_50 rfl), List.forall_mem_cons.mpr ⟨
  (gs_pf (ref := "GriefCranes$Firm") dX1_init_51 (gx_mem 157 (by decide +kernel) (by decide +kernel)) (Or.inl rfl) gf_1_7 (by decide +kernel)), List.forall_mem_cons.mpr ⟨
  (gs_aload_n dX1_init_54 rfl), List.forall_mem_cons.mpr ⟨
  (gs_iconst dX1_init_55 rfl), List.forall_mem_cons.mpr ⟨
  (gs_pf (ref := "GriefCranes$Firm") dX1_init_56 (gx_mem 158 (by decide +kernel) (by decide +kernel)) (Or.inl rfl) gf_1_8 (by decide +kernel)), fun _ h => absurd h List.not_mem_nil⟩⟩⟩⟩⟩⟩⟩⟩⟩⟩⟩⟩⟩⟩⟩⟩⟩⟩⟩⟩⟩⟩⟩⟩⟩⟩⟩⟩⟩⟩⟩⟩
set_option maxRecDepth 20000 in
theorem kt_X1_init_1 (g : gx_T) : ∀ q ∈ k_X1_init_1, gx_E g gc_md RX1 cX1_init 1 (none) "<init>" q.1 q.2 := List.forall_mem_cons.mpr ⟨(gs_aload_n dX1_init_59 rfl), List.forall_mem_cons.mpr ⟨
  (gs_iconst dX1_init_60 rfl), List.forall_mem_cons.mpr ⟨
  (gs_pf (ref := "GriefCranes$Firm") dX1_init_61 (gx_mem 159 (by decide +kernel) (by decide +kernel)) (Or.inl rfl) gf_1_9 (by decide +kernel)), List.forall_mem_cons.mpr ⟨
  (gs_rv dX1_init_64), fun _ h => absurd h List.not_mem_nil⟩⟩⟩⟩
theorem kt_X1_init (g : gx_T) : ∀ q ∈ k_X1_init, gx_E g gc_md RX1 cX1_init 1 (none) "<init>" q.1 q.2 := List.forall_mem_append.mpr ⟨kt_X1_init_0 g, kt_X1_init_1 g⟩
set_option maxRecDepth 20000 in
theorem dX1_readFrom_0 : decode cX1_readFrom 0 = .ok (.aload_n 0, 1) := by decide +kernel
set_option maxRecDepth 20000 in
theorem dX1_readFrom_1 : decode cX1_readFrom 1 = .ok (.aload_n 1, 1) := by decide +kernel
set_option maxRecDepth 20000 in
theorem dX1_readFrom_2 : decode cX1_readFrom 2 = .ok (.putfield 31, 3) := by decide +kernel
set_option maxRecDepth 20000 in
theorem dX1_readFrom_5 : decode cX1_readFrom 5 = .ok (.aload_n 0, 1) := by decide +kernel
set_option maxRecDepth 20000 in
theorem dX1_readFrom_6 : decode cX1_readFrom 6 = .ok (.iload_n 2, 1) := by decide +kernel
set_option maxRecDepth 20000 in
theorem dX1_readFrom_7 : decode cX1_readFrom 7 = .ok (.aload_n 1, 1) := by decide +kernel
set_option maxRecDepth 20000 in
theorem dX1_readFrom_8 : decode cX1_readFrom 8 = .ok (.arraylength, 1) := by decide +kernel
set_option maxRecDepth 20000 in
theorem dX1_readFrom_9 : decode cX1_readFrom 9 = .ok (.invokestatic 44, 3) := by decide +kernel
set_option maxRecDepth 20000 in
theorem dX1_readFrom_12 : decode cX1_readFrom 12 = .ok (.putfield 35, 3) := by decide +kernel
set_option maxRecDepth 20000 in
theorem dX1_readFrom_15 : decode cX1_readFrom 15 = .ok (.aload_n 0, 1) := by decide +kernel
set_option maxRecDepth 20000 in
theorem dX1_readFrom_16 : decode cX1_readFrom 16 = .ok (.iconst 0, 1) := by decide +kernel
set_option maxRecDepth 20000 in
theorem dX1_readFrom_17 : decode cX1_readFrom 17 = .ok (.putfield 38, 3) := by decide +kernel
set_option maxRecDepth 20000 in
theorem dX1_readFrom_20 : decode cX1_readFrom 20 = .ok (.aload_n 0, 1) := by decide +kernel
set_option maxRecDepth 20000 in
theorem dX1_readFrom_21 : decode cX1_readFrom 21 = .ok (.iconst 0, 1) := by decide +kernel
set_option maxRecDepth 20000 in
theorem dX1_readFrom_22 : decode cX1_readFrom 22 = .ok (.putfield 28, 3) := by decide +kernel
set_option maxRecDepth 20000 in
theorem dX1_readFrom_25 : decode cX1_readFrom 25 = .ok (.aload_n 0, 1) := by decide +kernel
set_option maxRecDepth 20000 in
theorem dX1_readFrom_26 : decode cX1_readFrom 26 = .ok (.bipush 12, 2) := by decide +kernel
set_option maxRecDepth 20000 in
theorem dX1_readFrom_28 : decode cX1_readFrom 28 = .ok (.putfield 11, 3) := by decide +kernel
set_option maxRecDepth 20000 in
theorem dX1_readFrom_31 : decode cX1_readFrom 31 = .ok (.aload_n 0, 1) := by decide +kernel
set_option maxRecDepth 20000 in
theorem dX1_readFrom_32 : decode cX1_readFrom 32 = .ok (.iconst 2, 1) := by decide +kernel
set_option maxRecDepth 20000 in
theorem dX1_readFrom_33 : decode cX1_readFrom 33 = .ok (.putfield 15, 3) := by decide +kernel
set_option maxRecDepth 20000 in
theorem dX1_readFrom_36 : decode cX1_readFrom 36 = .ok (.iconst 0, 1) := by decide +kernel
set_option maxRecDepth 20000 in
theorem dX1_readFrom_37 : decode cX1_readFrom 37 = .ok (.istore_n 3, 1) := by decide +kernel
set_option maxRecDepth 20000 in
theorem dX1_readFrom_38 : decode cX1_readFrom 38 = .ok (.iload_n 3, 1) := by decide +kernel
set_option maxRecDepth 20000 in
theorem dX1_readFrom_39 : decode cX1_readFrom 39 = .ok (.bipush 10, 2) := by decide +kernel
set_option maxRecDepth 20000 in
theorem dX1_readFrom_41 : decode cX1_readFrom 41 = .ok (.if_icmp .ge 52, 3) := by decide +kernel
set_option maxRecDepth 20000 in
theorem dX1_readFrom_44 : decode cX1_readFrom 44 = .ok (.iload_n 3, 1) := by decide +kernel
set_option maxRecDepth 20000 in
theorem dX1_readFrom_45 : decode cX1_readFrom 45 = .ok (.ifCond .le 17, 3) := by decide +kernel
set_option maxRecDepth 20000 in
theorem dX1_readFrom_48 : decode cX1_readFrom 48 = .ok (.aload_n 0, 1) := by decide +kernel
set_option maxRecDepth 20000 in
theorem dX1_readFrom_49 : decode cX1_readFrom 49 = .ok (.bipush 59, 2) := by decide +kernel
set_option maxRecDepth 20000 in
theorem dX1_readFrom_51 : decode cX1_readFrom 51 = .ok (.invokevirtual 50, 3) := by decide +kernel
set_option maxRecDepth 20000 in
theorem dX1_readFrom_54 : decode cX1_readFrom 54 = .ok (.ifCond .ne 8, 3) := by decide +kernel
set_option maxRecDepth 20000 in
theorem dX1_readFrom_57 : decode cX1_readFrom 57 = .ok (.aload_n 0, 1) := by decide +kernel
set_option maxRecDepth 20000 in
theorem dX1_readFrom_58 : decode cX1_readFrom 58 = .ok (.getfield 38, 3) := by decide +kernel
set_option maxRecDepth 20000 in
theorem dX1_readFrom_61 : decode cX1_readFrom 61 = .ok (.ireturn, 1) := by decide +kernel
set_option maxRecDepth 20000 in
theorem dX1_readFrom_62 : decode cX1_readFrom 62 = .ok (.aload_n 0, 1) := by decide +kernel
set_option maxRecDepth 20000 in
theorem dX1_readFrom_63 : decode cX1_readFrom 63 = .ok (.invokevirtual 54, 3) := by decide +kernel
set_option maxRecDepth 20000 in
theorem dX1_readFrom_66 : decode cX1_readFrom 66 = .ok (.ifCond .ne 8, 3) := by decide +kernel
set_option maxRecDepth 20000 in
theorem dX1_readFrom_69 : decode cX1_readFrom 69 = .ok (.aload_n 0, 1) := by decide +kernel
set_option maxRecDepth 20000 in
theorem dX1_readFrom_70 : decode cX1_readFrom 70 = .ok (.getfield 38, 3) := by decide +kernel
set_option maxRecDepth 20000 in
theorem dX1_readFrom_73 : decode cX1_readFrom 73 = .ok (.ireturn, 1) := by decide +kernel
set_option maxRecDepth 20000 in
theorem dX1_readFrom_74 : decode cX1_readFrom 74 = .ok (.aload_n 0, 1) := by decide +kernel
set_option maxRecDepth 20000 in
theorem dX1_readFrom_75 : decode cX1_readFrom 75 = .ok (.getfield 38, 3) := by decide +kernel
set_option maxRecDepth 20000 in
theorem dX1_readFrom_78 : decode cX1_readFrom 78 = .ok (.aload_n 0, 1) := by decide +kernel
set_option maxRecDepth 20000 in
theorem dX1_readFrom_79 : decode cX1_readFrom 79 = .ok (.getfield 35, 3) := by decide +kernel
set_option maxRecDepth 20000 in
theorem dX1_readFrom_82 : decode cX1_readFrom 82 = .ok (.if_icmp .ne 5, 3) := by decide +kernel
set_option maxRecDepth 20000 in
theorem dX1_readFrom_85 : decode cX1_readFrom 85 = .ok (.iconst (-1), 1) := by decide +kernel
set_option maxRecDepth 20000 in
theorem dX1_readFrom_86 : decode cX1_readFrom 86 = .ok (.ireturn, 1) := by decide +kernel
set_option maxRecDepth 20000 in
theorem dX1_readFrom_87 : decode cX1_readFrom 87 = .ok (.iinc 3 1, 3) := by decide +kernel
set_option maxRecDepth 20000 in
theorem dX1_readFrom_90 : decode cX1_readFrom 90 = .ok (.goto (-52), 3) := by decide +kernel
set_option maxRecDepth 20000 in
theorem dX1_readFrom_93 : decode cX1_readFrom 93 = .ok (.aload_n 0, 1) := by decide +kernel
set_option maxRecDepth 20000 in
theorem dX1_readFrom_94 : decode cX1_readFrom 94 = .ok (.getfield 38, 3) := by decide +kernel
set_option maxRecDepth 20000 in
theorem dX1_readFrom_97 : decode cX1_readFrom 97 = .ok (.ireturn, 1) := by decide +kernel
set_option maxRecDepth 20000 in
theorem kt_X1_readFrom_0 (g : gx_T) : ∀ q ∈ k_X1_readFrom_0, gx_E g gc_md RX1 cX1_readFrom 4 (some .int) "readFrom" q.1 q.2 := List.forall_mem_cons.mpr ⟨(gs_aload_n dX1_readFrom_0 rfl), List.forall_mem_cons.mpr ⟨
  (gs_aload_n dX1_readFrom_1 rfl), List.forall_mem_cons.mpr ⟨
  (gs_pf (ref := "GriefCranes$Firm") dX1_readFrom_2 (gx_mem 156 (by decide +kernel) (by decide +kernel)) (Or.inl rfl) gf_1_6 (by decide +kernel)), List.forall_mem_cons.mpr ⟨
  (gs_aload_n dX1_readFrom_5 rfl), List.forall_mem_cons.mpr ⟨
  (gs_iload_n dX1_readFrom_6 rfl), List.forall_mem_cons.mpr ⟨
  (gs_aload_n dX1_readFrom_7 rfl), List.forall_mem_cons.mpr ⟨
  (gs_alen dX1_readFrom_8), List.forall_mem_cons.mpr ⟨
  (gs_min dX1_readFrom_9 (List.forall_mem_cons.mpr ⟨gx_mem 580 (by decide +kernel) (by decide +kernel), List.forall_mem_cons.mpr ⟨gx_mem 484 (by decide +kernel) (by decide +kernel), List.forall_mem_cons.mpr ⟨gx_mem 97 (by decide +kernel) (by decide +kernel), List.forall_mem_cons.mpr ⟨cw_485, fun _ h => absurd h List.not_mem_nil⟩⟩⟩⟩)), List.forall_mem_cons.mpr ⟨
  (gs_pf (ref := "GriefCranes$Firm") dX1_readFrom_12 (gx_mem 157 (by decide +kernel) (by decide +kernel)) (Or.inl rfl) gf_1_7 (by decide +kernel)), List.forall_mem_cons.mpr ⟨
  (gs_aload_n dX1_readFrom_15 rfl), List.forall_mem_cons.mpr ⟨
  (gs_iconst dX1_readFrom_16 rfl), List.forall_mem_cons.mpr ⟨
  (gs_pf (ref := "GriefCranes$Firm") dX1_readFrom_17 (gx_mem 158 (by decide +kernel) (by decide +kernel)) (Or.inl rfl) gf_1_8 (by decide +kernel)), List.forall_mem_cons.mpr ⟨
  (gs_aload_n dX1_readFrom_20 rfl), List.forall_mem_cons.mpr ⟨
  (gs_iconst dX1_readFrom_21 rfl), List.forall_mem_cons.mpr ⟨
  (gs_pf (ref := "GriefCranes$Firm") dX1_readFrom_22 (gx_mem 155 (by decide +kernel) (by decide +kernel)) (Or.inl rfl) gf_1_5 (by decide +kernel)), List.forall_mem_cons.mpr ⟨
  (gs_aload_n dX1_readFrom_25 rfl), List.forall_mem_cons.mpr ⟨
  (gs_bipush dX1_readFrom_26 rfl), List.forall_mem_cons.mpr ⟨
  (gs_pf (ref := "GriefCranes$Firm") dX1_readFrom_28 (gx_mem 146 (by decide +kernel) (by decide +kernel)) (Or.inl rfl) gf_1_0 (by decide +kernel)), List.forall_mem_cons.mpr ⟨
  (gs_aload_n dX1_readFrom_31 rfl), List.forall_mem_cons.mpr ⟨
  (gs_iconst dX1_readFrom_32 rfl), List.forall_mem_cons.mpr ⟨
  (gs_pf (ref := "GriefCranes$Firm") dX1_readFrom_33 (gx_mem 149 (by decide +kernel) (by decide +kernel)) (Or.inl rfl) gf_1_1 (by decide +kernel)), List.forall_mem_cons.mpr ⟨
  (gs_iconst dX1_readFrom_36 rfl), List.forall_mem_cons.mpr ⟨
  (gs_istore_n dX1_readFrom_37 rfl), List.forall_mem_cons.mpr ⟨
  (gs_iload_n dX1_readFrom_38 rfl), List.forall_mem_cons.mpr ⟨
  (gs_bipush dX1_readFrom_39 rfl), List.forall_mem_cons.mpr ⟨
  (gs_icmp_ge dX1_readFrom_41 rfl), List.forall_mem_cons.mpr ⟨
  (gs_iload_n dX1_readFrom_44 rfl), List.forall_mem_cons.mpr ⟨
  (gs_if_le dX1_readFrom_45 rfl), List.forall_mem_cons.mpr ⟨
  (gs_aload_n dX1_readFrom_48 rfl), List.forall_mem_cons.mpr ⟨
  (gs_bipush dX1_readFrom_49 rfl), List.forall_mem_cons.mpr ⟨
  (gs_cv dX1_readFrom_51 (fun q hq => by
      simp only [List.mem_cons, List.not_mem_nil, or_false] at hq
      subst hq
      exact Or.inl ⟨_, rfl, by decide, by decide +kernel, by decide +kernel, List.forall_mem_cons.mpr ⟨gx_mem 581 (by decide +kernel) (by decide +kernel), List.forall_mem_cons.mpr ⟨gx_mem 583 (by decide +kernel) (by decide +kernel), List.forall_mem_cons.mpr ⟨gx_mem 7 (by decide +kernel) (by decide +kernel), List.forall_mem_cons.mpr ⟨gx_mem 86 (by decide +kernel) (by decide +kernel), List.forall_mem_cons.mpr ⟨cw_584, fun _ h => absurd h List.not_mem_nil⟩⟩⟩⟩⟩⟩)), List.forall_mem_cons.mpr ⟨
  (gs_if_ne dX1_readFrom_54 rfl), fun _ h => absurd h List.not_mem_nil⟩⟩⟩⟩⟩⟩⟩⟩⟩⟩⟩⟩⟩⟩⟩⟩⟩⟩⟩⟩⟩⟩⟩⟩⟩⟩⟩⟩⟩⟩⟩⟩
set_option maxRecDepth 20000 in
theorem kt_X1_readFrom_1 (g : gx_T) : ∀ q ∈ k_X1_readFrom_1, gx_E g gc_md RX1 cX1_readFrom 4 (some .int) "readFrom" q.1 q.2 := List.forall_mem_cons.mpr ⟨(gs_aload_n dX1_readFrom_57 rfl), List.forall_mem_cons.mpr ⟨
  (gs_gf (ref := "GriefCranes$Firm") dX1_readFrom_58 (gx_mem 158 (by decide +kernel) (by decide +kernel)) (Or.inl rfl) gf_1_8), List.forall_mem_cons.mpr ⟨
  (gs_ri dX1_readFrom_61), List.forall_mem_cons.mpr ⟨
  (gs_aload_n dX1_readFrom_62 rfl), List.forall_mem_cons.mpr ⟨
  (gs_cv dX1_readFrom_63 (fun q hq => by
      simp only [List.mem_cons, List.not_mem_nil, or_false] at hq
      subst hq
      exact Or.inl ⟨_, rfl, by decide, by decide +kernel, by decide +kernel, List.forall_mem_cons.mpr ⟨gx_mem 589 (by decide +kernel) (by decide +kernel), List.forall_mem_cons.mpr ⟨gx_mem 591 (by decide +kernel) (by decide +kernel), List.forall_mem_cons.mpr ⟨gx_mem 9 (by decide +kernel) (by decide +kernel), List.forall_mem_cons.mpr ⟨gx_mem 86 (by decide +kernel) (by decide +kernel), List.forall_mem_cons.mpr ⟨cw_592, fun _ h => absurd h List.not_mem_nil⟩⟩⟩⟩⟩⟩)), List.forall_mem_cons.mpr ⟨
  (gs_if_ne dX1_readFrom_66 rfl), List.forall_mem_cons.mpr ⟨
  (gs_aload_n dX1_readFrom_69 rfl), List.forall_mem_cons.mpr ⟨
  (gs_gf (ref := "GriefCranes$Firm") dX1_readFrom_70 (gx_mem 158 (by decide +kernel) (by decide +kernel)) (Or.inl rfl) gf_1_8), List.forall_mem_cons.mpr ⟨
  (gs_ri dX1_readFrom_73), List.forall_mem_cons.mpr ⟨
  (gs_aload_n dX1_readFrom_74 rfl), List.forall_mem_cons.mpr ⟨
  (gs_gf (ref := "GriefCranes$Firm") dX1_readFrom_75 (gx_mem 158 (by decide +kernel) (by decide +kernel)) (Or.inl rfl) gf_1_8), List.forall_mem_cons.mpr ⟨
  (gs_aload_n dX1_readFrom_78 rfl), List.forall_mem_cons.mpr ⟨
  (gs_gf (ref := "GriefCranes$Firm") dX1_readFrom_79 (gx_mem 157 (by decide +kernel) (by decide +kernel)) (Or.inl rfl) gf_1_7), List.forall_mem_cons.mpr ⟨
  (gs_icmp_ne dX1_readFrom_82 rfl), List.forall_mem_cons.mpr ⟨
  (gs_iconst dX1_readFrom_85 rfl), List.forall_mem_cons.mpr ⟨
  (gs_ri dX1_readFrom_86), List.forall_mem_cons.mpr ⟨
  (gs_iinc dX1_readFrom_87), List.forall_mem_cons.mpr ⟨
  (gs_goto dX1_readFrom_90 rfl), List.forall_mem_cons.mpr ⟨
  (gs_aload_n dX1_readFrom_93 rfl), List.forall_mem_cons.mpr ⟨
  (gs_gf (ref := "GriefCranes$Firm") dX1_readFrom_94 (gx_mem 158 (by decide +kernel) (by decide +kernel)) (Or.inl rfl) gf_1_8), List.forall_mem_cons.mpr ⟨
  (gs_ri dX1_readFrom_97), fun _ h => absurd h List.not_mem_nil⟩⟩⟩⟩⟩⟩⟩⟩⟩⟩⟩⟩⟩⟩⟩⟩⟩⟩⟩⟩⟩
theorem kt_X1_readFrom (g : gx_T) : ∀ q ∈ k_X1_readFrom, gx_E g gc_md RX1 cX1_readFrom 4 (some .int) "readFrom" q.1 q.2 := List.forall_mem_append.mpr ⟨kt_X1_readFrom_0 g, kt_X1_readFrom_1 g⟩
set_option maxRecDepth 20000 in
theorem dX1_sum_0 : decode cX1_sum 0 = .ok (.bipush 30, 2) := by decide +kernel
set_option maxRecDepth 20000 in
theorem dX1_sum_2 : decode cX1_sum 2 = .ok (.istore_n 2, 1) := by decide +kernel
set_option maxRecDepth 20000 in
theorem dX1_sum_3 : decode cX1_sum 3 = .ok (.iconst 0, 1) := by decide +kernel
set_option maxRecDepth 20000 in
theorem dX1_sum_4 : decode cX1_sum 4 = .ok (.istore_n 3, 1) := by decide +kernel
set_option maxRecDepth 20000 in
theorem dX1_sum_5 : decode cX1_sum 5 = .ok (.iconst 0, 1) := by decide +kernel
set_option maxRecDepth 20000 in
theorem dX1_sum_6 : decode cX1_sum 6 = .ok (.istore 4, 2) := by decide +kernel
set_option maxRecDepth 20000 in
theorem dX1_sum_8 : decode cX1_sum 8 = .ok (.iload 4, 2) := by decide +kernel
set_option maxRecDepth 20000 in
theorem dX1_sum_10 : decode cX1_sum 10 = .ok (.aload_n 0, 1) := by decide +kernel
set_option maxRecDepth 20000 in
theorem dX1_sum_11 : decode cX1_sum 11 = .ok (.getfield 28, 3) := by decide +kernel
set_option maxRecDepth 20000 in
theorem dX1_sum_14 : decode cX1_sum 14 = .ok (.if_icmp .ge 142, 3) := by decide +kernel
set_option maxRecDepth 20000 in
theorem dX1_sum_17 : decode cX1_sum 17 = .ok (.iload_n 3, 1) := by decide +kernel
set_option maxRecDepth 20000 in
theorem dX1_sum_18 : decode cX1_sum 18 = .ok (.iconst 1, 1) := by decide +kernel
set_option maxRecDepth 20000 in
theorem dX1_sum_19 : decode cX1_sum 19 = .ok (.iand, 1) := by decide +kernel
set_option maxRecDepth 20000 in
theorem dX1_sum_20 : decode cX1_sum 20 = .ok (.istore 5, 2) := by decide +kernel
set_option maxRecDepth 20000 in
theorem dX1_sum_22 : decode cX1_sum 22 = .ok (.aload_n 0, 1) := by decide +kernel
set_option maxRecDepth 20000 in
theorem dX1_sum_23 : decode cX1_sum 23 = .ok (.getfield 18, 3) := by decide +kernel
set_option maxRecDepth 20000 in
theorem dX1_sum_26 : decode cX1_sum 26 = .ok (.iload 4, 2) := by decide +kernel
set_option maxRecDepth 20000 in
theorem dX1_sum_28 : decode cX1_sum 28 = .ok (.iaload, 1) := by decide +kernel
set_option maxRecDepth 20000 in
theorem dX1_sum_29 : decode cX1_sum 29 = .ok (.tableswitch 101 3 7 #[35, 42, 55, 65, 83], 35) := by decide +kernel
set_option maxRecDepth 20000 in
theorem dX1_sum_64 : decode cX1_sum 64 = .ok (.iload_n 3, 1) := by decide +kernel
set_option maxRecDepth 20000 in
theorem dX1_sum_65 : decode cX1_sum 65 = .ok (.iconst 1, 1) := by decide +kernel
set_option maxRecDepth 20000 in
theorem dX1_sum_66 : decode cX1_sum 66 = .ok (.ixor, 1) := by decide +kernel
set_option maxRecDepth 20000 in
theorem dX1_sum_67 : decode cX1_sum 67 = .ok (.istore_n 3, 1) := by decide +kernel
set_option maxRecDepth 20000 in
theorem dX1_sum_68 : decode cX1_sum 68 = .ok (.goto 82, 3) := by decide +kernel
set_option maxRecDepth 20000 in
theorem dX1_sum_71 : decode cX1_sum 71 = .ok (.iload_n 3, 1) := by decide +kernel
set_option maxRecDepth 20000 in
theorem dX1_sum_72 : decode cX1_sum 72 = .ok (.iconst 1, 1) := by decide +kernel
set_option maxRecDepth 20000 in
theorem dX1_sum_73 : decode cX1_sum 73 = .ok (.ishr, 1) := by decide +kernel
set_option maxRecDepth 20000 in
theorem dX1_sum_74 : decode cX1_sum 74 = .ok (.iload 5, 2) := by decide +kernel
set_option maxRecDepth 20000 in
theorem dX1_sum_76 : decode cX1_sum 76 = .ok (.bipush (-2), 2) := by decide +kernel
set_option maxRecDepth 20000 in
theorem dX1_sum_78 : decode cX1_sum 78 = .ok (.ior, 1) := by decide +kernel
set_option maxRecDepth 20000 in
theorem dX1_sum_79 : decode cX1_sum 79 = .ok (.iand, 1) := by decide +kernel
set_option maxRecDepth 20000 in
theorem dX1_sum_80 : decode cX1_sum 80 = .ok (.istore_n 3, 1) := by decide +kernel
set_option maxRecDepth 20000 in
theorem dX1_sum_81 : decode cX1_sum 81 = .ok (.goto 69, 3) := by decide +kernel
set_option maxRecDepth 20000 in
theorem dX1_sum_84 : decode cX1_sum 84 = .ok (.iload_n 3, 1) := by decide +kernel
set_option maxRecDepth 20000 in
theorem dX1_sum_85 : decode cX1_sum 85 = .ok (.iconst 1, 1) := by decide +kernel
set_option maxRecDepth 20000 in
theorem dX1_sum_86 : decode cX1_sum 86 = .ok (.ishr, 1) := by decide +kernel
set_option maxRecDepth 20000 in
theorem dX1_sum_87 : decode cX1_sum 87 = .ok (.iload 5, 2) := by decide +kernel
set_option maxRecDepth 20000 in
theorem dX1_sum_89 : decode cX1_sum 89 = .ok (.ior, 1) := by decide +kernel
set_option maxRecDepth 20000 in
theorem dX1_sum_90 : decode cX1_sum 90 = .ok (.istore_n 3, 1) := by decide +kernel
set_option maxRecDepth 20000 in
theorem dX1_sum_91 : decode cX1_sum 91 = .ok (.goto 59, 3) := by decide +kernel
set_option maxRecDepth 20000 in
theorem dX1_sum_94 : decode cX1_sum 94 = .ok (.iload_n 2, 1) := by decide +kernel
set_option maxRecDepth 20000 in
theorem dX1_sum_95 : decode cX1_sum 95 = .ok (.iload 5, 2) := by decide +kernel
set_option maxRecDepth 20000 in
theorem dX1_sum_97 : decode cX1_sum 97 = .ok (.aload_n 0, 1) := by decide +kernel
set_option maxRecDepth 20000 in
theorem dX1_sum_98 : decode cX1_sum 98 = .ok (.getfield 25, 3) := by decide +kernel
set_option maxRecDepth 20000 in
theorem dX1_sum_101 : decode cX1_sum 101 = .ok (.iload 4, 2) := by decide +kernel
set_option maxRecDepth 20000 in
theorem dX1_sum_103 : decode cX1_sum 103 = .ok (.iaload, 1) := by decide +kernel
set_option maxRecDepth 20000 in
theorem dX1_sum_104 : decode cX1_sum 104 = .ok (.imul, 1) := by decide +kernel
set_option maxRecDepth 20000 in
theorem dX1_sum_105 : decode cX1_sum 105 = .ok (.iadd, 1) := by decide +kernel
set_option maxRecDepth 20000 in
theorem dX1_sum_106 : decode cX1_sum 106 = .ok (.istore_n 2, 1) := by decide +kernel
set_option maxRecDepth 20000 in
theorem dX1_sum_107 : decode cX1_sum 107 = .ok (.iconst 0, 1) := by decide +kernel
set_option maxRecDepth 20000 in
theorem dX1_sum_108 : decode cX1_sum 108 = .ok (.istore_n 3, 1) := by decide +kernel
set_option maxRecDepth 20000 in
theorem dX1_sum_109 : decode cX1_sum 109 = .ok (.goto 41, 3) := by decide +kernel
set_option maxRecDepth 20000 in
theorem dX1_sum_112 : decode cX1_sum 112 = .ok (.iload_n 2, 1) := by decide +kernel
set_option maxRecDepth 20000 in
theorem dX1_sum_113 : decode cX1_sum 113 = .ok (.iload 5, 2) := by decide +kernel
set_option maxRecDepth 20000 in
theorem dX1_sum_115 : decode cX1_sum 115 = .ok (.aload_n 0, 1) := by decide +kernel
set_option maxRecDepth 20000 in
theorem dX1_sum_116 : decode cX1_sum 116 = .ok (.getfield 25, 3) := by decide +kernel
set_option maxRecDepth 20000 in
theorem dX1_sum_119 : decode cX1_sum 119 = .ok (.iload 4, 2) := by decide +kernel
set_option maxRecDepth 20000 in
theorem dX1_sum_121 : decode cX1_sum 121 = .ok (.iaload, 1) := by decide +kernel
set_option maxRecDepth 20000 in
theorem dX1_sum_122 : decode cX1_sum 122 = .ok (.imul, 1) := by decide +kernel
set_option maxRecDepth 20000 in
theorem dX1_sum_123 : decode cX1_sum 123 = .ok (.isub, 1) := by decide +kernel
set_option maxRecDepth 20000 in
theorem dX1_sum_124 : decode cX1_sum 124 = .ok (.istore_n 2, 1) := by decide +kernel
set_option maxRecDepth 20000 in
theorem dX1_sum_125 : decode cX1_sum 125 = .ok (.iconst 0, 1) := by decide +kernel
set_option maxRecDepth 20000 in
theorem dX1_sum_126 : decode cX1_sum 126 = .ok (.istore_n 3, 1) := by decide +kernel
set_option maxRecDepth 20000 in
theorem dX1_sum_127 : decode cX1_sum 127 = .ok (.goto 23, 3) := by decide +kernel
set_option maxRecDepth 20000 in
theorem dX1_sum_130 : decode cX1_sum 130 = .ok (.iload_n 3, 1) := by decide +kernel
set_option maxRecDepth 20000 in
theorem dX1_sum_131 : decode cX1_sum 131 = .ok (.iconst 1, 1) := by decide +kernel
set_option maxRecDepth 20000 in
theorem dX1_sum_132 : decode cX1_sum 132 = .ok (.ishl, 1) := by decide +kernel
set_option maxRecDepth 20000 in
theorem dX1_sum_133 : decode cX1_sum 133 = .ok (.aload_n 0, 1) := by decide +kernel
set_option maxRecDepth 20000 in
theorem dX1_sum_134 : decode cX1_sum 134 = .ok (.iload 4, 2) := by decide +kernel
set_option maxRecDepth 20000 in
theorem dX1_sum_136 : decode cX1_sum 136 = .ok (.aload_n 1, 1) := by decide +kernel
set_option maxRecDepth 20000 in
theorem dX1_sum_137 : decode cX1_sum 137 = .ok (.invokevirtual 58, 3) := by decide +kernel
set_option maxRecDepth 20000 in
theorem dX1_sum_140 : decode cX1_sum 140 = .ok (.ifCond .eq 7, 3) := by decide +kernel
set_option maxRecDepth 20000 in
theorem dX1_sum_143 : decode cX1_sum 143 = .ok (.iconst 1, 1) := by decide +kernel
set_option maxRecDepth 20000 in
theorem dX1_sum_144 : decode cX1_sum 144 = .ok (.goto 4, 3) := by decide +kernel
set_option maxRecDepth 20000 in
theorem dX1_sum_147 : decode cX1_sum 147 = .ok (.iconst 0, 1) := by decide +kernel
set_option maxRecDepth 20000 in
theorem dX1_sum_148 : decode cX1_sum 148 = .ok (.ior, 1) := by decide +kernel
set_option maxRecDepth 20000 in
theorem dX1_sum_149 : decode cX1_sum 149 = .ok (.istore_n 3, 1) := by decide +kernel
set_option maxRecDepth 20000 in
theorem dX1_sum_150 : decode cX1_sum 150 = .ok (.iinc 4 1, 3) := by decide +kernel
set_option maxRecDepth 20000 in
theorem dX1_sum_153 : decode cX1_sum 153 = .ok (.goto (-145), 3) := by decide +kernel
set_option maxRecDepth 20000 in
theorem dX1_sum_156 : decode cX1_sum 156 = .ok (.iload_n 2, 1) := by decide +kernel
set_option maxRecDepth 20000 in
theorem dX1_sum_157 : decode cX1_sum 157 = .ok (.ireturn, 1) := by decide +kernel
set_option maxRecDepth 20000 in
theorem kt_X1_sum_0 (g : gx_T) : ∀ q ∈ k_X1_sum_0, gx_E g gc_md RX1 cX1_sum 6 (some .int) "sum" q.1 q.2 := List.forall_mem_cons.mpr ⟨(gs_bipush dX1_sum_0 rfl), List.forall_mem_cons.mpr ⟨
  (gs_istore_n dX1_sum_2 rfl), List.forall_mem_cons.mpr ⟨
  (gs_iconst dX1_sum_3 rfl), List.forall_mem_cons.mpr ⟨
  (gs_istore_n dX1_sum_4 rfl), List.forall_mem_cons.mpr ⟨
  (gs_iconst dX1_sum_5 rfl), List.forall_mem_cons.mpr ⟨
  (gs_istore dX1_sum_6), List.forall_mem_cons.mpr ⟨
  (gs_iload dX1_sum_8), List.forall_mem_cons.mpr ⟨
  (gs_aload_n dX1_sum_10 rfl), List.forall_mem_cons.mpr ⟨
  (gs_gf (ref := "GriefCranes$Firm") dX1_sum_11 (gx_mem 155 (by decide +kernel) (by decide +kernel)) (Or.inl rfl) gf_1_5), List.forall_mem_cons.mpr ⟨
  (gs_icmp_ge dX1_sum_14 rfl), List.forall_mem_cons.mpr ⟨
  (gs_iload_n dX1_sum_17 rfl), List.forall_mem_cons.mpr ⟨
  (gs_iconst dX1_sum_18 rfl), List.forall_mem_cons.mpr ⟨
  (gs_iand dX1_sum_19), List.forall_mem_cons.mpr ⟨
  (gs_istore dX1_sum_20), List.forall_mem_cons.mpr ⟨
  (gs_aload_n dX1_sum_22 rfl), List.forall_mem_cons.mpr ⟨
  (gs_gf (ref := "GriefCranes$Firm") dX1_sum_23 (gx_mem 152 (by decide +kernel) (by decide +kernel)) (Or.inl rfl) gf_1_2), List.forall_mem_cons.mpr ⟨
  (gs_iload dX1_sum_26), List.forall_mem_cons.mpr ⟨
  (gs_iaload dX1_sum_28), List.forall_mem_cons.mpr ⟨
  (gs_tsw (lo := 3) (offs := [35, 42, 55, 65, 83]) dX1_sum_29 (by decide +kernel) (by decide +kernel)), List.forall_mem_cons.mpr ⟨
  (gs_iload_n dX1_sum_64 rfl), List.forall_mem_cons.mpr ⟨
  (gs_iconst dX1_sum_65 rfl), List.forall_mem_cons.mpr ⟨
  (gs_ixor dX1_sum_66), List.forall_mem_cons.mpr ⟨
  (gs_istore_n dX1_sum_67 rfl), List.forall_mem_cons.mpr ⟨
  (gs_goto dX1_sum_68 rfl), List.forall_mem_cons.mpr ⟨
  (gs_iload_n dX1_sum_71 rfl), List.forall_mem_cons.mpr ⟨
  (gs_iconst dX1_sum_72 rfl), List.forall_mem_cons.mpr ⟨
  (gs_ishr dX1_sum_73), List.forall_mem_cons.mpr ⟨
  (gs_iload dX1_sum_74), List.forall_mem_cons.mpr ⟨
  (gs_bipush dX1_sum_76 rfl), List.forall_mem_cons.mpr ⟨
  (gs_ior dX1_sum_78), List.forall_mem_cons.mpr ⟨
  (gs_iand dX1_sum_79), List.forall_mem_cons.mpr ⟨
  (gs_istore_n dX1_sum_80 rfl), fun _ h => absurd h List.not_mem_nil⟩⟩⟩⟩⟩⟩⟩⟩⟩⟩⟩⟩⟩⟩⟩⟩⟩⟩⟩⟩⟩⟩⟩⟩⟩⟩⟩⟩⟩⟩⟩⟩
set_option maxRecDepth 20000 in
theorem kt_X1_sum_1 (g : gx_T) : ∀ q ∈ k_X1_sum_1, gx_E g gc_md RX1 cX1_sum 6 (some .int) "sum" q.1 q.2 := List.forall_mem_cons.mpr ⟨(gs_goto dX1_sum_81 rfl), List.forall_mem_cons.mpr ⟨
  (gs_iload_n dX1_sum_84 rfl), List.forall_mem_cons.mpr ⟨
  (gs_iconst dX1_sum_85 rfl), List.forall_mem_cons.mpr ⟨
  (gs_ishr dX1_sum_86), List.forall_mem_cons.mpr ⟨
  (gs_iload dX1_sum_87), List.forall_mem_cons.mpr ⟨
  (gs_ior dX1_sum_89), List.forall_mem_cons.mpr ⟨
  (gs_istore_n dX1_sum_90 rfl), List.forall_mem_cons.mpr ⟨
  (gs_goto dX1_sum_91 rfl), List.forall_mem_cons.mpr ⟨
  (gs_iload_n dX1_sum_94 rfl), List.forall_mem_cons.mpr ⟨
  (gs_iload dX1_sum_95), List.forall_mem_cons.mpr ⟨
  (gs_aload_n dX1_sum_97 rfl), List.forall_mem_cons.mpr ⟨
  (gs_gf (ref := "GriefCranes$Firm") dX1_sum_98 (gx_mem 154 (by decide +kernel) (by decide +kernel)) (Or.inl rfl) gf_1_4), List.forall_mem_cons.mpr ⟨
  (gs_iload dX1_sum_101), List.forall_mem_cons.mpr ⟨
  (gs_iaload dX1_sum_103), List.forall_mem_cons.mpr ⟨
  (gs_imul dX1_sum_104), List.forall_mem_cons.mpr ⟨
  (gs_iadd dX1_sum_105), List.forall_mem_cons.mpr ⟨
  (gs_istore_n dX1_sum_106 rfl), List.forall_mem_cons.mpr ⟨
  (gs_iconst dX1_sum_107 rfl), List.forall_mem_cons.mpr ⟨
  (gs_istore_n dX1_sum_108 rfl), List.forall_mem_cons.mpr ⟨
  (gs_goto dX1_sum_109 rfl), List.forall_mem_cons.mpr ⟨
  (gs_iload_n dX1_sum_112 rfl), List.forall_mem_cons.mpr ⟨
  (gs_iload dX1_sum_113), List.forall_mem_cons.mpr ⟨
  (gs_aload_n dX1_sum_115 rfl), List.forall_mem_cons.mpr ⟨
  (gs_gf (ref := "GriefCranes$Firm") dX1_sum_116 (gx_mem 154 (by decide +kernel) (by decide +kernel)) (Or.inl rfl) gf_1_4), List.forall_mem_cons.mpr ⟨
  (gs_iload dX1_sum_119), List.forall_mem_cons.mpr ⟨
  (gs_iaload dX1_sum_121), List.forall_mem_cons.mpr ⟨
  (gs_imul dX1_sum_122), List.forall_mem_cons.mpr ⟨
  (gs_isub dX1_sum_123), List.forall_mem_cons.mpr ⟨
  (gs_istore_n dX1_sum_124 rfl), List.forall_mem_cons.mpr ⟨
  (gs_iconst dX1_sum_125 rfl), List.forall_mem_cons.mpr ⟨
  (gs_istore_n dX1_sum_126 rfl), List.forall_mem_cons.mpr ⟨
  (gs_goto dX1_sum_127 rfl), fun _ h => absurd h List.not_mem_nil⟩⟩⟩⟩⟩⟩⟩⟩⟩⟩⟩⟩⟩⟩⟩⟩⟩⟩⟩⟩⟩⟩⟩⟩⟩⟩⟩⟩⟩⟩⟩⟩
set_option maxRecDepth 20000 in
theorem kt_X1_sum_2 (g : gx_T) : ∀ q ∈ k_X1_sum_2, gx_E g gc_md RX1 cX1_sum 6 (some .int) "sum" q.1 q.2 := List.forall_mem_cons.mpr ⟨(gs_iload_n dX1_sum_130 rfl), List.forall_mem_cons.mpr ⟨
  (gs_iconst dX1_sum_131 rfl), List.forall_mem_cons.mpr ⟨
  (gs_ishl dX1_sum_132), List.forall_mem_cons.mpr ⟨
  (gs_aload_n dX1_sum_133 rfl), List.forall_mem_cons.mpr ⟨
  (gs_iload dX1_sum_134), List.forall_mem_cons.mpr ⟨
  (gs_aload_n dX1_sum_136 rfl), List.forall_mem_cons.mpr ⟨
  (gs_cv dX1_sum_137 (fun q hq => by
      simp only [List.mem_cons, List.not_mem_nil, or_false] at hq
      subst hq
      exact Or.inl ⟨_, rfl, by decide, by decide +kernel, by decide +kernel, List.forall_mem_cons.mpr ⟨gx_mem 461 (by decide +kernel) (by decide +kernel), List.forall_mem_cons.mpr ⟨gx_mem 463 (by decide +kernel) (by decide +kernel), List.forall_mem_cons.mpr ⟨gx_mem 0 (by decide +kernel) (by decide +kernel), List.forall_mem_cons.mpr ⟨gx_mem 86 (by decide +kernel) (by decide +kernel), List.forall_mem_cons.mpr ⟨cw_464, fun _ h => absurd h List.not_mem_nil⟩⟩⟩⟩⟩⟩)), List.forall_mem_cons.mpr ⟨
  (gs_if_eq dX1_sum_140 rfl), List.forall_mem_cons.mpr ⟨
  (gs_iconst dX1_sum_143 rfl), List.forall_mem_cons.mpr ⟨
  (gs_goto dX1_sum_144 rfl), List.forall_mem_cons.mpr ⟨
  (gs_iconst dX1_sum_147 rfl), List.forall_mem_cons.mpr ⟨
  (gs_ior dX1_sum_148), List.forall_mem_cons.mpr ⟨
  (gs_istore_n dX1_sum_149 rfl), List.forall_mem_cons.mpr ⟨
  (gs_iinc dX1_sum_150), List.forall_mem_cons.mpr ⟨
  (gs_goto dX1_sum_153 rfl), List.forall_mem_cons.mpr ⟨
  (gs_iload_n dX1_sum_156 rfl), List.forall_mem_cons.mpr ⟨
  (gs_ri dX1_sum_157), fun _ h => absurd h List.not_mem_nil⟩⟩⟩⟩⟩⟩⟩⟩⟩⟩⟩⟩⟩⟩⟩⟩⟩
theorem kt_X1_sum (g : gx_T) : ∀ q ∈ k_X1_sum, gx_E g gc_md RX1 cX1_sum 6 (some .int) "sum" q.1 q.2 := List.forall_mem_append.mpr ⟨kt_X1_sum_0 g, List.forall_mem_append.mpr ⟨kt_X1_sum_1 g, kt_X1_sum_2 g⟩⟩
set_option maxRecDepth 20000 in
theorem dX1_isSo_0 : decode cX1_isSo 0 = .ok (.aload_n 2, 1) := by decide +kernel
set_option maxRecDepth 20000 in
theorem dX1_isSo_1 : decode cX1_isSo 1 = .ok (.aload_n 0, 1) := by decide +kernel
set_option maxRecDepth 20000 in
theorem dX1_isSo_2 : decode cX1_isSo 2 = .ok (.getfield 22, 3) := by decide +kernel
set_option maxRecDepth 20000 in
theorem dX1_isSo_5 : decode cX1_isSo 5 = .ok (.iload_n 1, 1) := by decide +kernel
set_option maxRecDepth 20000 in
theorem dX1_isSo_6 : decode cX1_isSo 6 = .ok (.iaload, 1) := by decide +kernel
set_option maxRecDepth 20000 in
theorem dX1_isSo_7 : decode cX1_isSo 7 = .ok (.iaload, 1) := by decide +kernel
set_option maxRecDepth 20000 in
theorem dX1_isSo_8 : decode cX1_isSo 8 = .ok (.istore_n 3, 1) := by decide +kernel
set_option maxRecDepth 20000 in
theorem dX1_isSo_9 : decode cX1_isSo 9 = .ok (.aload_n 0, 1) := by decide +kernel
set_option maxRecDepth 20000 in
theorem dX1_isSo_10 : decode cX1_isSo 10 = .ok (.getfield 18, 3) := by decide +kernel
set_option maxRecDepth 20000 in
theorem dX1_isSo_13 : decode cX1_isSo 13 = .ok (.iload_n 1, 1) := by decide +kernel
set_option maxRecDepth 20000 in
theorem dX1_isSo_14 : decode cX1_isSo 14 = .ok (.iaload, 1) := by decide +kernel
set_option maxRecDepth 20000 in
theorem dX1_isSo_15 : decode cX1_isSo 15 = .ok (.lookupswitch 57 #[(0, 25), (1, 41)], 25) := by decide +kernel
set_option maxRecDepth 20000 in
theorem dX1_isSo_40 : decode cX1_isSo 40 = .ok (.iload_n 3, 1) := by decide +kernel
set_option maxRecDepth 20000 in
theorem dX1_isSo_41 : decode cX1_isSo 41 = .ok (.aload_n 0, 1) := by decide +kernel
set_option maxRecDepth 20000 in
theorem dX1_isSo_42 : decode cX1_isSo 42 = .ok (.getfield 25, 3) := by decide +kernel
set_option maxRecDepth 20000 in
theorem dX1_isSo_45 : decode cX1_isSo 45 = .ok (.iload_n 1, 1) := by decide +kernel
set_option maxRecDepth 20000 in
theorem dX1_isSo_46 : decode cX1_isSo 46 = .ok (.iaload, 1) := by decide +kernel
set_option maxRecDepth 20000 in
theorem dX1_isSo_47 : decode cX1_isSo 47 = .ok (.if_icmp .ge 7, 3) := by decide +kernel
set_option maxRecDepth 20000 in
theorem dX1_isSo_50 : decode cX1_isSo 50 = .ok (.iconst 1, 1) := by decide +kernel
set_option maxRecDepth 20000 in
theorem dX1_isSo_51 : decode cX1_isSo 51 = .ok (.goto 4, 3) := by decide +kernel
set_option maxRecDepth 20000 in
theorem dX1_isSo_54 : decode cX1_isSo 54 = .ok (.iconst 0, 1) := by decide +kernel
set_option maxRecDepth 20000 in
theorem dX1_isSo_55 : decode cX1_isSo 55 = .ok (.ireturn, 1) := by decide +kernel
set_option maxRecDepth 20000 in
theorem dX1_isSo_56 : decode cX1_isSo 56 = .ok (.iload_n 3, 1) := by decide +kernel
set_option maxRecDepth 20000 in
theorem dX1_isSo_57 : decode cX1_isSo 57 = .ok (.aload_n 0, 1) := by decide +kernel
set_option maxRecDepth 20000 in
theorem dX1_isSo_58 : decode cX1_isSo 58 = .ok (.getfield 25, 3) := by decide +kernel
set_option maxRecDepth 20000 in
theorem dX1_isSo_61 : decode cX1_isSo 61 = .ok (.iload_n 1, 1) := by decide +kernel
set_option maxRecDepth 20000 in
theorem dX1_isSo_62 : decode cX1_isSo 62 = .ok (.iaload, 1) := by decide +kernel
set_option maxRecDepth 20000 in
theorem dX1_isSo_63 : decode cX1_isSo 63 = .ok (.if_icmp .ne 7, 3) := by decide +kernel
set_option maxRecDepth 20000 in
theorem dX1_isSo_66 : decode cX1_isSo 66 = .ok (.iconst 1, 1) := by decide +kernel
set_option maxRecDepth 20000 in
theorem dX1_isSo_67 : decode cX1_isSo 67 = .ok (.goto 4, 3) := by decide +kernel
set_option maxRecDepth 20000 in
theorem dX1_isSo_70 : decode cX1_isSo 70 = .ok (.iconst 0, 1) := by decide +kernel
set_option maxRecDepth 20000 in
theorem dX1_isSo_71 : decode cX1_isSo 71 = .ok (.ireturn, 1) := by decide +kernel
set_option maxRecDepth 20000 in
theorem dX1_isSo_72 : decode cX1_isSo 72 = .ok (.iload_n 3, 1) := by decide +kernel
set_option maxRecDepth 20000 in
theorem dX1_isSo_73 : decode cX1_isSo 73 = .ok (.aload_n 0, 1) := by decide +kernel
set_option maxRecDepth 20000 in
theorem dX1_isSo_74 : decode cX1_isSo 74 = .ok (.getfield 25, 3) := by decide +kernel
set_option maxRecDepth 20000 in
theorem dX1_isSo_77 : decode cX1_isSo 77 = .ok (.iload_n 1, 1) := by decide +kernel
set_option maxRecDepth 20000 in
theorem dX1_isSo_78 : decode cX1_isSo 78 = .ok (.iaload, 1) := by decide +kernel
set_option maxRecDepth 20000 in
theorem dX1_isSo_79 : decode cX1_isSo 79 = .ok (.if_icmp .le 7, 3) := by decide +kernel
set_option maxRecDepth 20000 in
theorem dX1_isSo_82 : decode cX1_isSo 82 = .ok (.iconst 1, 1) := by decide +kernel
set_option maxRecDepth 20000 in
theorem dX1_isSo_83 : decode cX1_isSo 83 = .ok (.goto 4, 3) := by decide +kernel
set_option maxRecDepth 20000 in
theorem dX1_isSo_86 : decode cX1_isSo 86 = .ok (.iconst 0, 1) := by decide +kernel
set_option maxRecDepth 20000 in
theorem dX1_isSo_87 : decode cX1_isSo 87 = .ok (.ireturn, 1) := by decide +kernel
set_option maxRecDepth 20000 in
theorem kt_X1_isSo_0 (g : gx_T) : ∀ q ∈ k_X1_isSo_0, gx_E g gc_md RX1 cX1_isSo 4 (some .boolean) "isSo" q.1 q.2 := List.forall_mem_cons.mpr ⟨(gs_aload_n dX1_isSo_0 rfl), List.forall_mem_cons.mpr ⟨
  (gs_aload_n dX1_isSo_1 rfl), List.forall_mem_cons.mpr ⟨
  (gs_gf (ref := "GriefCranes$Firm") dX1_isSo_2 (gx_mem 153 (by decide +kernel) (by decide +kernel)) (Or.inl rfl) gf_1_3), List.forall_mem_cons.mpr ⟨
  (gs_iload_n dX1_isSo_5 rfl), List.forall_mem_cons.mpr ⟨
  (gs_iaload dX1_isSo_6), List.forall_mem_cons.mpr ⟨
  (gs_iaload dX1_isSo_7), List.forall_mem_cons.mpr ⟨
  (gs_istore_n dX1_isSo_8 rfl), List.forall_mem_cons.mpr ⟨
  (gs_aload_n dX1_isSo_9 rfl), List.forall_mem_cons.mpr ⟨
  (gs_gf (ref := "GriefCranes$Firm") dX1_isSo_10 (gx_mem 152 (by decide +kernel) (by decide +kernel)) (Or.inl rfl) gf_1_2), List.forall_mem_cons.mpr ⟨
  (gs_iload_n dX1_isSo_13 rfl), List.forall_mem_cons.mpr ⟨
  (gs_iaload dX1_isSo_14), List.forall_mem_cons.mpr ⟨
  (gs_lsw (ps := [(0, 25), (1, 41)]) dX1_isSo_15 (by decide +kernel) (gx_lupok (by decide +kernel) (by decide +kernel))), List.forall_mem_cons.mpr ⟨
  (gs_iload_n dX1_isSo_40 rfl), List.forall_mem_cons.mpr ⟨
  (gs_aload_n dX1_isSo_41 rfl), List.forall_mem_cons.mpr ⟨
  (gs_gf (ref := "GriefCranes$Firm") dX1_isSo_42 (gx_mem 154 (by decide +kernel) (by decide +kernel)) (Or.inl rfl) gf_1_4), List.forall_mem_cons.mpr ⟨
  (gs_iload_n dX1_isSo_45 rfl), List.forall_mem_cons.mpr ⟨
  (gs_iaload dX1_isSo_46), List.forall_mem_cons.mpr ⟨
  (gs_icmp_ge dX1_isSo_47 rfl), List.forall_mem_cons.mpr ⟨
  (gs_iconst dX1_isSo_50 rfl), List.forall_mem_cons.mpr ⟨
  (gs_goto dX1_isSo_51 rfl), List.forall_mem_cons.mpr ⟨
  (gs_iconst dX1_isSo_54 rfl), List.forall_mem_cons.mpr ⟨
  (gs_rn dX1_isSo_55 (by decide)), List.forall_mem_cons.mpr ⟨
  (gs_iload_n dX1_isSo_56 rfl), List.forall_mem_cons.mpr ⟨
  (gs_aload_n dX1_isSo_57 rfl), List.forall_mem_cons.mpr ⟨
  (gs_gf (ref := "GriefCranes$Firm") dX1_isSo_58 (gx_mem 154 (by decide +kernel) (by decide +kernel)) (Or.inl rfl) gf_1_4), List.forall_mem_cons.mpr ⟨
  (gs_iload_n dX1_isSo_61 rfl), List.forall_mem_cons.mpr ⟨
  (gs_iaload dX1_isSo_62), List.forall_mem_cons.mpr ⟨
  (gs_icmp_ne dX1_isSo_63 rfl), List.forall_mem_cons.mpr ⟨
  (gs_iconst dX1_isSo_66 rfl), List.forall_mem_cons.mpr ⟨
  (gs_goto dX1_isSo_67 rfl), List.forall_mem_cons.mpr ⟨
  (gs_iconst dX1_isSo_70 rfl), List.forall_mem_cons.mpr ⟨
  (gs_rn dX1_isSo_71 (by decide)), fun _ h => absurd h List.not_mem_nil⟩⟩⟩⟩⟩⟩⟩⟩⟩⟩⟩⟩⟩⟩⟩⟩⟩⟩⟩⟩⟩⟩⟩⟩⟩⟩⟩⟩⟩⟩⟩⟩
set_option maxRecDepth 20000 in
theorem kt_X1_isSo_1 (g : gx_T) : ∀ q ∈ k_X1_isSo_1, gx_E g gc_md RX1 cX1_isSo 4 (some .boolean) "isSo" q.1 q.2 := List.forall_mem_cons.mpr ⟨(gs_iload_n dX1_isSo_72 rfl), List.forall_mem_cons.mpr ⟨
  (gs_aload_n dX1_isSo_73 rfl), List.forall_mem_cons.mpr ⟨
  (gs_gf (ref := "GriefCranes$Firm") dX1_isSo_74 (gx_mem 154 (by decide +kernel) (by decide +kernel)) (Or.inl rfl) gf_1_4), List.forall_mem_cons.mpr ⟨
  (gs_iload_n dX1_isSo_77 rfl), List.forall_mem_cons.mpr ⟨
  (gs_iaload dX1_isSo_78), List.forall_mem_cons.mpr ⟨
  (gs_icmp_le dX1_isSo_79 rfl), List.forall_mem_cons.mpr ⟨
  (gs_iconst dX1_isSo_82 rfl), List.forall_mem_cons.mpr ⟨
  (gs_goto dX1_isSo_83 rfl), List.forall_mem_cons.mpr ⟨
  (gs_iconst dX1_isSo_86 rfl), List.forall_mem_cons.mpr ⟨
  (gs_rn dX1_isSo_87 (by decide)), fun _ h => absurd h List.not_mem_nil⟩⟩⟩⟩⟩⟩⟩⟩⟩⟩
theorem kt_X1_isSo (g : gx_T) : ∀ q ∈ k_X1_isSo, gx_E g gc_md RX1 cX1_isSo 4 (some .boolean) "isSo" q.1 q.2 := List.forall_mem_append.mpr ⟨kt_X1_isSo_0 g, kt_X1_isSo_1 g⟩
set_option maxRecDepth 20000 in
theorem dX1_clause_0 : decode cX1_clause 0 = .ok (.aload_n 0, 1) := by decide +kernel
set_option maxRecDepth 20000 in
theorem dX1_clause_1 : decode cX1_clause 1 = .ok (.invokevirtual 62, 3) := by decide +kernel
set_option maxRecDepth 20000 in
theorem dX1_clause_4 : decode cX1_clause 4 = .ok (.istore_n 1, 1) := by decide +kernel
set_option maxRecDepth 20000 in
theorem dX1_clause_5 : decode cX1_clause 5 = .ok (.iload_n 1, 1) := by decide +kernel
set_option maxRecDepth 20000 in
theorem dX1_clause_6 : decode cX1_clause 6 = .ok (.bipush 98, 2) := by decide +kernel
set_option maxRecDepth 20000 in
theorem dX1_clause_8 : decode cX1_clause 8 = .ok (.if_icmp .eq 9, 3) := by decide +kernel
set_option maxRecDepth 20000 in
theorem dX1_clause_11 : decode cX1_clause 11 = .ok (.iload_n 1, 1) := by decide +kernel
set_option maxRecDepth 20000 in
theorem dX1_clause_12 : decode cX1_clause 12 = .ok (.bipush 104, 2) := by decide +kernel
set_option maxRecDepth 20000 in
theorem dX1_clause_14 : decode cX1_clause 14 = .ok (.if_icmp .ne 52, 3) := by decide +kernel
set_option maxRecDepth 20000 in
theorem dX1_clause_17 : decode cX1_clause 17 = .ok (.aload_n 0, 1) := by decide +kernel
set_option maxRecDepth 20000 in
theorem dX1_clause_18 : decode cX1_clause 18 = .ok (.iload_n 1, 1) := by decide +kernel
set_option maxRecDepth 20000 in
theorem dX1_clause_19 : decode cX1_clause 19 = .ok (.bipush 98, 2) := by decide +kernel
set_option maxRecDepth 20000 in
theorem dX1_clause_21 : decode cX1_clause 21 = .ok (.if_icmp .ne 8, 3) := by decide +kernel
set_option maxRecDepth 20000 in
theorem dX1_clause_24 : decode cX1_clause 24 = .ok (.ldc 66, 2) := by decide +kernel
set_option maxRecDepth 20000 in
theorem dX1_clause_26 : decode cX1_clause 26 = .ok (.goto 5, 3) := by decide +kernel
set_option maxRecDepth 20000 in
theorem dX1_clause_29 : decode cX1_clause 29 = .ok (.ldc 67, 2) := by decide +kernel
set_option maxRecDepth 20000 in
theorem dX1_clause_31 : decode cX1_clause 31 = .ok (.invokevirtual 68, 3) := by decide +kernel
set_option maxRecDepth 20000 in
theorem dX1_clause_34 : decode cX1_clause 34 = .ok (.ifCond .ne 5, 3) := by decide +kernel
set_option maxRecDepth 20000 in
theorem dX1_clause_37 : decode cX1_clause 37 = .ok (.iconst 0, 1) := by decide +kernel
set_option maxRecDepth 20000 in
theorem dX1_clause_38 : decode cX1_clause 38 = .ok (.ireturn, 1) := by decide +kernel
set_option maxRecDepth 20000 in
theorem dX1_clause_39 : decode cX1_clause 39 = .ok (.iload_n 1, 1) := by decide +kernel
set_option maxRecDepth 20000 in
theorem dX1_clause_40 : decode cX1_clause 40 = .ok (.bipush 98, 2) := by decide +kernel
set_option maxRecDepth 20000 in
theorem dX1_clause_42 : decode cX1_clause 42 = .ok (.if_icmp .ne 14, 3) := by decide +kernel
set_option maxRecDepth 20000 in
theorem dX1_clause_45 : decode cX1_clause 45 = .ok (.aload_n 0, 1) := by decide +kernel
set_option maxRecDepth 20000 in
theorem dX1_clause_46 : decode cX1_clause 46 = .ok (.aload_n 0, 1) := by decide +kernel
set_option maxRecDepth 20000 in
theorem dX1_clause_47 : decode cX1_clause 47 = .ok (.getfield 41, 3) := by decide +kernel
set_option maxRecDepth 20000 in
theorem dX1_clause_50 : decode cX1_clause 50 = .ok (.putfield 11, 3) := by decide +kernel
set_option maxRecDepth 20000 in
theorem dX1_clause_53 : decode cX1_clause 53 = .ok (.goto 11, 3) := by decide +kernel
set_option maxRecDepth 20000 in
theorem dX1_clause_56 : decode cX1_clause 56 = .ok (.aload_n 0, 1) := by decide +kernel
set_option maxRecDepth 20000 in
theorem dX1_clause_57 : decode cX1_clause 57 = .ok (.aload_n 0, 1) := by decide +kernel
set_option maxRecDepth 20000 in
theorem dX1_clause_58 : decode cX1_clause 58 = .ok (.getfield 41, 3) := by decide +kernel
set_option maxRecDepth 20000 in
theorem dX1_clause_61 : decode cX1_clause 61 = .ok (.putfield 15, 3) := by decide +kernel
set_option maxRecDepth 20000 in
theorem dX1_clause_64 : decode cX1_clause 64 = .ok (.iconst 1, 1) := by decide +kernel
set_option maxRecDepth 20000 in
theorem dX1_clause_65 : decode cX1_clause 65 = .ok (.ireturn, 1) := by decide +kernel
set_option maxRecDepth 20000 in
theorem dX1_clause_66 : decode cX1_clause 66 = .ok (.iload_n 1, 1) := by decide +kernel
set_option maxRecDepth 20000 in
theorem dX1_clause_67 : decode cX1_clause 67 = .ok (.bipush 115, 2) := by decide +kernel
set_option maxRecDepth 20000 in
theorem dX1_clause_69 : decode cX1_clause 69 = .ok (.if_icmp .eq 11, 3) := by decide +kernel
set_option maxRecDepth 20000 in
theorem dX1_clause_72 : decode cX1_clause 72 = .ok (.iload_n 1, 1) := by decide +kernel
set_option maxRecDepth 20000 in
theorem dX1_clause_73 : decode cX1_clause 73 = .ok (.bipush 119, 2) := by decide +kernel
set_option maxRecDepth 20000 in
theorem dX1_clause_75 : decode cX1_clause 75 = .ok (.if_icmp .eq 5, 3) := by decide +kernel
set_option maxRecDepth 20000 in
theorem dX1_clause_78 : decode cX1_clause 78 = .ok (.iconst 0, 1) := by decide +kernel
set_option maxRecDepth 20000 in
theorem dX1_clause_79 : decode cX1_clause 79 = .ok (.ireturn, 1) := by decide +kernel
set_option maxRecDepth 20000 in
theorem dX1_clause_80 : decode cX1_clause 80 = .ok (.aload_n 0, 1) := by decide +kernel
set_option maxRecDepth 20000 in
theorem dX1_clause_81 : decode cX1_clause 81 = .ok (.iload_n 1, 1) := by decide +kernel
set_option maxRecDepth 20000 in
theorem dX1_clause_82 : decode cX1_clause 82 = .ok (.bipush 115, 2) := by decide +kernel
set_option maxRecDepth 20000 in
theorem dX1_clause_84 : decode cX1_clause 84 = .ok (.if_icmp .ne 8, 3) := by decide +kernel
set_option maxRecDepth 20000 in
theorem dX1_clause_87 : decode cX1_clause 87 = .ok (.ldc 72, 2) := by decide +kernel
set_option maxRecDepth 20000 in
theorem dX1_clause_89 : decode cX1_clause 89 = .ok (.goto 5, 3) := by decide +kernel
set_option maxRecDepth 20000 in
theorem dX1_clause_92 : decode cX1_clause 92 = .ok (.ldc 74, 2) := by decide +kernel
set_option maxRecDepth 20000 in
theorem dX1_clause_94 : decode cX1_clause 94 = .ok (.invokevirtual 68, 3) := by decide +kernel
set_option maxRecDepth 20000 in
theorem dX1_clause_97 : decode cX1_clause 97 = .ok (.ifCond .ne 5, 3) := by decide +kernel
set_option maxRecDepth 20000 in
theorem dX1_clause_100 : decode cX1_clause 100 = .ok (.iconst 0, 1) := by decide +kernel
set_option maxRecDepth 20000 in
theorem dX1_clause_101 : decode cX1_clause 101 = .ok (.ireturn, 1) := by decide +kernel
set_option maxRecDepth 20000 in
theorem dX1_clause_102 : decode cX1_clause 102 = .ok (.aload_n 0, 1) := by decide +kernel
set_option maxRecDepth 20000 in
theorem dX1_clause_103 : decode cX1_clause 103 = .ok (.getfield 41, 3) := by decide +kernel
set_option maxRecDepth 20000 in
theorem dX1_clause_106 : decode cX1_clause 106 = .ok (.istore_n 2, 1) := by decide +kernel
set_option maxRecDepth 20000 in
theorem dX1_clause_107 : decode cX1_clause 107 = .ok (.aload_n 0, 1) := by decide +kernel
set_option maxRecDepth 20000 in
theorem dX1_clause_108 : decode cX1_clause 108 = .ok (.bipush 32, 2) := by decide +kernel
set_option maxRecDepth 20000 in
theorem dX1_clause_110 : decode cX1_clause 110 = .ok (.invokevirtual 50, 3) := by decide +kernel
set_option maxRecDepth 20000 in
theorem dX1_clause_113 : decode cX1_clause 113 = .ok (.ifCond .eq 11, 3) := by decide +kernel
set_option maxRecDepth 20000 in
theorem dX1_clause_116 : decode cX1_clause 116 = .ok (.aload_n 0, 1) := by decide +kernel
set_option maxRecDepth 20000 in
theorem dX1_clause_117 : decode cX1_clause 117 = .ok (.iconst 0, 1) := by decide +kernel
set_option maxRecDepth 20000 in
theorem dX1_clause_118 : decode cX1_clause 118 = .ok (.invokevirtual 76, 3) := by decide +kernel
set_option maxRecDepth 20000 in
theorem dX1_clause_121 : decode cX1_clause 121 = .ok (.ifCond .ne 5, 3) := by decide +kernel
set_option maxRecDepth 20000 in
theorem dX1_clause_124 : decode cX1_clause 124 = .ok (.iconst 0, 1) := by decide +kernel
set_option maxRecDepth 20000 in
theorem dX1_clause_125 : decode cX1_clause 125 = .ok (.ireturn, 1) := by decide +kernel
set_option maxRecDepth 20000 in
theorem dX1_clause_126 : decode cX1_clause 126 = .ok (.aload_n 0, 1) := by decide +kernel
set_option maxRecDepth 20000 in
theorem dX1_clause_127 : decode cX1_clause 127 = .ok (.iload_n 1, 1) := by decide +kernel
set_option maxRecDepth 20000 in
theorem dX1_clause_128 : decode cX1_clause 128 = .ok (.bipush 115, 2) := by decide +kernel
set_option maxRecDepth 20000 in
theorem dX1_clause_130 : decode cX1_clause 130 = .ok (.if_icmp .ne 8, 3) := by decide +kernel
set_option maxRecDepth 20000 in
theorem dX1_clause_133 : decode cX1_clause 133 = .ok (.bipush 6, 2) := by decide +kernel
set_option maxRecDepth 20000 in
theorem dX1_clause_135 : decode cX1_clause 135 = .ok (.goto 5, 3) := by decide +kernel
set_option maxRecDepth 20000 in
theorem dX1_clause_138 : decode cX1_clause 138 = .ok (.bipush 7, 2) := by decide +kernel
set_option maxRecDepth 20000 in
theorem dX1_clause_140 : decode cX1_clause 140 = .ok (.iconst 0, 1) := by decide +kernel
set_option maxRecDepth 20000 in
theorem dX1_clause_141 : decode cX1_clause 141 = .ok (.iload_n 2, 1) := by decide +kernel
set_option maxRecDepth 20000 in
theorem dX1_clause_142 : decode cX1_clause 142 = .ok (.invokevirtual 80, 3) := by decide +kernel
set_option maxRecDepth 20000 in
theorem dX1_clause_145 : decode cX1_clause 145 = .ok (.iconst 1, 1) := by decide +kernel
set_option maxRecDepth 20000 in
theorem dX1_clause_146 : decode cX1_clause 146 = .ok (.ireturn, 1) := by decide +kernel
set_option maxRecDepth 20000 in
theorem kt_X1_clause_0 (g : gx_T) : ∀ q ∈ k_X1_clause_0, gx_E g gc_md RX1 cX1_clause 3 (some .boolean) "clause" q.1 q.2 := List.forall_mem_cons.mpr ⟨(gs_aload_n dX1_clause_0 rfl), List.forall_mem_cons.mpr ⟨
  (gs_cv dX1_clause_1 (fun q hq => by
      simp only [List.mem_cons, List.not_mem_nil, or_false] at hq
      subst hq
      exact Or.inl ⟨_, rfl, by decide, by decide +kernel, by decide +kernel, List.forall_mem_cons.mpr ⟨gx_mem 585 (by decide +kernel) (by decide +kernel), List.forall_mem_cons.mpr ⟨gx_mem 587 (by decide +kernel) (by decide +kernel), List.forall_mem_cons.mpr ⟨gx_mem 8 (by decide +kernel) (by decide +kernel), List.forall_mem_cons.mpr ⟨gx_mem 86 (by decide +kernel) (by decide +kernel), List.forall_mem_cons.mpr ⟨cw_588, fun _ h => absurd h List.not_mem_nil⟩⟩⟩⟩⟩⟩)), List.forall_mem_cons.mpr ⟨
  (gs_istore_n dX1_clause_4 rfl), List.forall_mem_cons.mpr ⟨
  (gs_iload_n dX1_clause_5 rfl), List.forall_mem_cons.mpr ⟨
  (gs_bipush dX1_clause_6 rfl), List.forall_mem_cons.mpr ⟨
  (gs_icmp_eq dX1_clause_8 rfl), List.forall_mem_cons.mpr ⟨
  (gs_iload_n dX1_clause_11 rfl), List.forall_mem_cons.mpr ⟨
  (gs_bipush dX1_clause_12 rfl), List.forall_mem_cons.mpr ⟨
  (gs_icmp_ne dX1_clause_14 rfl), List.forall_mem_cons.mpr ⟨
  (gs_aload_n dX1_clause_17 rfl), List.forall_mem_cons.mpr ⟨
  (gs_iload_n dX1_clause_18 rfl), List.forall_mem_cons.mpr ⟨
  (gs_bipush dX1_clause_19 rfl), List.forall_mem_cons.mpr ⟨
  (gs_icmp_ne dX1_clause_21 rfl), List.forall_mem_cons.mpr ⟨
  (gs_ldcS (q := (66, "bear", 0)) dX1_clause_24 rfl (by decide +kernel)), List.forall_mem_cons.mpr ⟨
  (gs_goto dX1_clause_26 rfl), List.forall_mem_cons.mpr ⟨
  (gs_ldcS (q := (67, "hang", 1)) dX1_clause_29 rfl (by decide +kernel)), List.forall_mem_cons.mpr ⟨
  (gs_cv dX1_clause_31 (fun q hq => by
      simp only [List.mem_cons, List.not_mem_nil, or_false] at hq
      subst hq
      exact Or.inl ⟨_, rfl, by decide, by decide +kernel, by decide +kernel, List.forall_mem_cons.mpr ⟨gx_mem 595 (by decide +kernel) (by decide +kernel), List.forall_mem_cons.mpr ⟨gx_mem 597 (by decide +kernel) (by decide +kernel), List.forall_mem_cons.mpr ⟨gx_mem 10 (by decide +kernel) (by decide +kernel), List.forall_mem_cons.mpr ⟨gx_mem 86 (by decide +kernel) (by decide +kernel), List.forall_mem_cons.mpr ⟨cw_598, fun _ h => absurd h List.not_mem_nil⟩⟩⟩⟩⟩⟩)), List.forall_mem_cons.mpr ⟨
  (gs_if_ne dX1_clause_34 rfl), List.forall_mem_cons.mpr ⟨
  (gs_iconst dX1_clause_37 rfl), List.forall_mem_cons.mpr ⟨
  (gs_rn dX1_clause_38 (by decide)), List.forall_mem_cons.mpr ⟨
  (gs_iload_n dX1_clause_39 rfl), List.forall_mem_cons.mpr ⟨
  (gs_bipush dX1_clause_40 rfl), List.forall_mem_cons.mpr ⟨
  (gs_icmp_ne dX1_clause_42 rfl), List.forall_mem_cons.mpr ⟨
  (gs_aload_n dX1_clause_45 rfl), List.forall_mem_cons.mpr ⟨
  (gs_aload_n dX1_clause_46 rfl), List.forall_mem_cons.mpr ⟨
  (gs_gf (ref := "GriefCranes$Firm") dX1_clause_47 (gx_mem 159 (by decide +kernel) (by decide +kernel)) (Or.inl rfl) gf_1_9), List.forall_mem_cons.mpr ⟨
  (gs_pf (ref := "GriefCranes$Firm") dX1_clause_50 (gx_mem 146 (by decide +kernel) (by decide +kernel)) (Or.inl rfl) gf_1_0 (by decide +kernel)), List.forall_mem_cons.mpr ⟨
  (gs_goto dX1_clause_53 rfl), List.forall_mem_cons.mpr ⟨
  (gs_aload_n dX1_clause_56 rfl), List.forall_mem_cons.mpr ⟨
  (gs_aload_n dX1_clause_57 rfl), List.forall_mem_cons.mpr ⟨
  (gs_gf (ref := "GriefCranes$Firm") dX1_clause_58 (gx_mem 159 (by decide +kernel) (by decide +kernel)) (Or.inl rfl) gf_1_9), List.forall_mem_cons.mpr ⟨
  (gs_pf (ref := "GriefCranes$Firm") dX1_clause_61 (gx_mem 149 (by decide +kernel) (by decide +kernel)) (Or.inl rfl) gf_1_1 (by decide +kernel)), fun _ h => absurd h List.not_mem_nil⟩⟩⟩⟩⟩⟩⟩⟩⟩⟩⟩⟩⟩⟩⟩⟩⟩⟩⟩⟩⟩⟩⟩⟩⟩⟩⟩⟩⟩⟩⟩⟩
set_option maxRecDepth 20000 in
theorem kt_X1_clause_1 (g : gx_T) : ∀ q ∈ k_X1_clause_1, gx_E g gc_md RX1 cX1_clause 3 (some .boolean) "clause" q.1 q.2 := List.forall_mem_cons.mpr ⟨(gs_iconst dX1_clause_64 rfl), List.forall_mem_cons.mpr ⟨
  (gs_rn dX1_clause_65 (by decide)), List.forall_mem_cons.mpr ⟨
  (gs_iload_n dX1_clause_66 rfl), List.forall_mem_cons.mpr ⟨
  (gs_bipush dX1_clause_67 rfl), List.forall_mem_cons.mpr ⟨
  (gs_icmp_eq dX1_clause_69 rfl), List.forall_mem_cons.mpr ⟨
  (gs_iload_n dX1_clause_72 rfl), List.forall_mem_cons.mpr ⟨
  (gs_bipush dX1_clause_73 rfl), List.forall_mem_cons.mpr ⟨
  (gs_icmp_eq dX1_clause_75 rfl), List.forall_mem_cons.mpr ⟨
  (gs_iconst dX1_clause_78 rfl), List.forall_mem_cons.mpr ⟨
  (gs_rn dX1_clause_79 (by decide)), List.forall_mem_cons.mpr ⟨
  (gs_aload_n dX1_clause_80 rfl), List.forall_mem_cons.mpr ⟨
  (gs_iload_n dX1_clause_81 rfl), List.forall_mem_cons.mpr ⟨
  (gs_bipush dX1_clause_82 rfl), List.forall_mem_cons.mpr ⟨
  (gs_icmp_ne dX1_clause_84 rfl), List.forall_mem_cons.mpr ⟨
  (gs_ldcS (q := (72, "strong", 2)) dX1_clause_87 rfl (by decide +kernel)), List.forall_mem_cons.mpr ⟨
  (gs_goto dX1_clause_89 rfl), List.forall_mem_cons.mpr ⟨
  (gs_ldcS (q := (74, "weak", 3)) dX1_clause_92 rfl (by decide +kernel)), List.forall_mem_cons.mpr ⟨
  (gs_cv dX1_clause_94 (fun q hq => by
      simp only [List.mem_cons, List.not_mem_nil, or_false] at hq
      subst hq
      exact Or.inl ⟨_, rfl, by decide, by decide +kernel, by decide +kernel, List.forall_mem_cons.mpr ⟨gx_mem 595 (by decide +kernel) (by decide +kernel), List.forall_mem_cons.mpr ⟨gx_mem 597 (by decide +kernel) (by decide +kernel), List.forall_mem_cons.mpr ⟨gx_mem 10 (by decide +kernel) (by decide +kernel), List.forall_mem_cons.mpr ⟨gx_mem 86 (by decide +kernel) (by decide +kernel), List.forall_mem_cons.mpr ⟨cw_598, fun _ h => absurd h List.not_mem_nil⟩⟩⟩⟩⟩⟩)), List.forall_mem_cons.mpr ⟨
  (gs_if_ne dX1_clause_97 rfl), List.forall_mem_cons.mpr ⟨
  (gs_iconst dX1_clause_100 rfl), List.forall_mem_cons.mpr ⟨
  (gs_rn dX1_clause_101 (by decide)), List.forall_mem_cons.mpr ⟨
  (gs_aload_n dX1_clause_102 rfl), List.forall_mem_cons.mpr ⟨
  (gs_gf (ref := "GriefCranes$Firm") dX1_clause_103 (gx_mem 159 (by decide +kernel) (by decide +kernel)) (Or.inl rfl) gf_1_9), List.forall_mem_cons.mpr ⟨
  (gs_istore_n dX1_clause_106 rfl), List.forall_mem_cons.mpr ⟨
  (gs_aload_n dX1_clause_107 rfl), List.forall_mem_cons.mpr ⟨
  (gs_bipush dX1_clause_108 rfl), List.forall_mem_cons.mpr ⟨
  (gs_cv dX1_clause_110 (fun q hq => by
      simp only [List.mem_cons, List.not_mem_nil, or_false] at hq
      subst hq
      exact Or.inl ⟨_, rfl, by decide, by decide +kernel, by decide +kernel, List.forall_mem_cons.mpr ⟨gx_mem 581 (by decide +kernel) (by decide +kernel), List.forall_mem_cons.mpr ⟨gx_mem 583 (by decide +kernel) (by decide +kernel), List.forall_mem_cons.mpr ⟨gx_mem 7 (by decide +kernel) (by decide +kernel), List.forall_mem_cons.mpr ⟨gx_mem 86 (by decide +kernel) (by decide +kernel), List.forall_mem_cons.mpr ⟨cw_584, fun _ h => absurd h List.not_mem_nil⟩⟩⟩⟩⟩⟩)), List.forall_mem_cons.mpr ⟨
  (gs_if_eq dX1_clause_113 rfl), List.forall_mem_cons.mpr ⟨
  (gs_aload_n dX1_clause_116 rfl), List.forall_mem_cons.mpr ⟨
  (gs_iconst dX1_clause_117 rfl), List.forall_mem_cons.mpr ⟨
  (gs_cv dX1_clause_118 (fun q hq => by
      simp only [List.mem_cons, List.not_mem_nil, or_false] at hq
      subst hq
      exact Or.inl ⟨_, rfl, by decide, by decide +kernel, by decide +kernel, List.forall_mem_cons.mpr ⟨gx_mem 656 (by decide +kernel) (by decide +kernel), List.forall_mem_cons.mpr ⟨gx_mem 658 (by decide +kernel) (by decide +kernel), List.forall_mem_cons.mpr ⟨gx_mem 12 (by decide +kernel) (by decide +kernel), List.forall_mem_cons.mpr ⟨gx_mem 86 (by decide +kernel) (by decide +kernel), List.forall_mem_cons.mpr ⟨cw_659, fun _ h => absurd h List.not_mem_nil⟩⟩⟩⟩⟩⟩)), List.forall_mem_cons.mpr ⟨
  (gs_if_ne dX1_clause_121 rfl), fun _ h => absurd h List.not_mem_nil⟩⟩⟩⟩⟩⟩⟩⟩⟩⟩⟩⟩⟩⟩⟩⟩⟩⟩⟩⟩⟩⟩⟩⟩⟩⟩⟩⟩⟩⟩⟩⟩
set_option maxRecDepth 20000 in
theorem kt_X1_clause_2 (g : gx_T) : ∀ q ∈ k_X1_clause_2, gx_E g gc_md RX1 cX1_clause 3 (some .boolean) "clause" q.1 q.2 := List.forall_mem_cons.mpr ⟨(gs_iconst dX1_clause_124 rfl), List.forall_mem_cons.mpr ⟨
  (gs_rn dX1_clause_125 (by decide)), List.forall_mem_cons.mpr ⟨
  (gs_aload_n dX1_clause_126 rfl), List.forall_mem_cons.mpr ⟨
  (gs_iload_n dX1_clause_127 rfl), List.forall_mem_cons.mpr ⟨
  (gs_bipush dX1_clause_128 rfl), List.forall_mem_cons.mpr ⟨
  (gs_icmp_ne dX1_clause_130 rfl), List.forall_mem_cons.mpr ⟨
  (gs_bipush dX1_clause_133 rfl), List.forall_mem_cons.mpr ⟨
  (gs_goto dX1_clause_135 rfl), List.forall_mem_cons.mpr ⟨
  (gs_bipush dX1_clause_138 rfl), List.forall_mem_cons.mpr ⟨
  (gs_iconst dX1_clause_140 rfl), List.forall_mem_cons.mpr ⟨
  (gs_iload_n dX1_clause_141 rfl), List.forall_mem_cons.mpr ⟨
  (gs_cv dX1_clause_142 (fun q hq => by
      simp only [List.mem_cons, List.not_mem_nil, or_false] at hq
      subst hq
      exact Or.inl ⟨_, rfl, by decide, by decide +kernel, by decide +kernel, List.forall_mem_cons.mpr ⟨gx_mem 729 (by decide +kernel) (by decide +kernel), List.forall_mem_cons.mpr ⟨gx_mem 731 (by decide +kernel) (by decide +kernel), List.forall_mem_cons.mpr ⟨gx_mem 16 (by decide +kernel) (by decide +kernel), List.forall_mem_cons.mpr ⟨gx_mem 86 (by decide +kernel) (by decide +kernel), List.forall_mem_cons.mpr ⟨cw_732, fun _ h => absurd h List.not_mem_nil⟩⟩⟩⟩⟩⟩)), List.forall_mem_cons.mpr ⟨
  (gs_iconst dX1_clause_145 rfl), List.forall_mem_cons.mpr ⟨
  (gs_rn dX1_clause_146 (by decide)), fun _ h => absurd h List.not_mem_nil⟩⟩⟩⟩⟩⟩⟩⟩⟩⟩⟩⟩⟩⟩
theorem kt_X1_clause (g : gx_T) : ∀ q ∈ k_X1_clause, gx_E g gc_md RX1 cX1_clause 3 (some .boolean) "clause" q.1 q.2 := List.forall_mem_append.mpr ⟨kt_X1_clause_0 g, List.forall_mem_append.mpr ⟨kt_X1_clause_1 g, kt_X1_clause_2 g⟩⟩
set_option maxRecDepth 20000 in
theorem dX1_amount_0 : decode cX1_amount 0 = .ok (.iconst 0, 1) := by decide +kernel
set_option maxRecDepth 20000 in
theorem dX1_amount_1 : decode cX1_amount 1 = .ok (.istore_n 2, 1) := by decide +kernel
set_option maxRecDepth 20000 in
theorem dX1_amount_2 : decode cX1_amount 2 = .ok (.iload_n 2, 1) := by decide +kernel
set_option maxRecDepth 20000 in
theorem dX1_amount_3 : decode cX1_amount 3 = .ok (.aload_n 1, 1) := by decide +kernel
set_option maxRecDepth 20000 in
theorem dX1_amount_4 : decode cX1_amount 4 = .ok (.invokevirtual 84, 3) := by decide +kernel
set_option maxRecDepth 20000 in
theorem dX1_amount_7 : decode cX1_amount 7 = .ok (.if_icmp .ge 23, 3) := by decide +kernel
set_option maxRecDepth 20000 in
theorem dX1_amount_10 : decode cX1_amount 10 = .ok (.aload_n 0, 1) := by decide +kernel
set_option maxRecDepth 20000 in
theorem dX1_amount_11 : decode cX1_amount 11 = .ok (.aload_n 1, 1) := by decide +kernel
set_option maxRecDepth 20000 in
theorem dX1_amount_12 : decode cX1_amount 12 = .ok (.iload_n 2, 1) := by decide +kernel
set_option maxRecDepth 20000 in
theorem dX1_amount_13 : decode cX1_amount 13 = .ok (.invokevirtual 88, 3) := by decide +kernel
set_option maxRecDepth 20000 in
theorem dX1_amount_16 : decode cX1_amount 16 = .ok (.invokevirtual 50, 3) := by decide +kernel
set_option maxRecDepth 20000 in
theorem dX1_amount_19 : decode cX1_amount 19 = .ok (.ifCond .ne 5, 3) := by decide +kernel
set_option maxRecDepth 20000 in
theorem dX1_amount_22 : decode cX1_amount 22 = .ok (.iconst 0, 1) := by decide +kernel
set_option maxRecDepth 20000 in
theorem dX1_amount_23 : decode cX1_amount 23 = .ok (.ireturn, 1) := by decide +kernel
set_option maxRecDepth 20000 in
theorem dX1_amount_24 : decode cX1_amount 24 = .ok (.iinc 2 1, 3) := by decide +kernel
set_option maxRecDepth 20000 in
theorem dX1_amount_27 : decode cX1_amount 27 = .ok (.goto (-25), 3) := by decide +kernel
set_option maxRecDepth 20000 in
theorem dX1_amount_30 : decode cX1_amount 30 = .ok (.aload_n 0, 1) := by decide +kernel
set_option maxRecDepth 20000 in
theorem dX1_amount_31 : decode cX1_amount 31 = .ok (.bipush 32, 2) := by decide +kernel
set_option maxRecDepth 20000 in
theorem dX1_amount_33 : decode cX1_amount 33 = .ok (.invokevirtual 50, 3) := by decide +kernel
set_option maxRecDepth 20000 in
theorem dX1_amount_36 : decode cX1_amount 36 = .ok (.ifCond .eq 14, 3) := by decide +kernel
set_option maxRecDepth 20000 in
theorem dX1_amount_39 : decode cX1_amount 39 = .ok (.aload_n 0, 1) := by decide +kernel
set_option maxRecDepth 20000 in
theorem dX1_amount_40 : decode cX1_amount 40 = .ok (.invokevirtual 92, 3) := by decide +kernel
set_option maxRecDepth 20000 in
theorem dX1_amount_43 : decode cX1_amount 43 = .ok (.ifCond .eq 7, 3) := by decide +kernel
set_option maxRecDepth 20000 in
theorem dX1_amount_46 : decode cX1_amount 46 = .ok (.iconst 1, 1) := by decide +kernel
set_option maxRecDepth 20000 in
theorem dX1_amount_47 : decode cX1_amount 47 = .ok (.goto 4, 3) := by decide +kernel
set_option maxRecDepth 20000 in
theorem dX1_amount_50 : decode cX1_amount 50 = .ok (.iconst 0, 1) := by decide +kernel
set_option maxRecDepth 20000 in
theorem dX1_amount_51 : decode cX1_amount 51 = .ok (.ireturn, 1) := by decide +kernel
set_option maxRecDepth 20000 in
theorem kt_X1_amount_0 (g : gx_T) : ∀ q ∈ k_X1_amount_0, gx_E g gc_md RX1 cX1_amount 3 (some .boolean) "amount" q.1 q.2 := List.forall_mem_cons.mpr ⟨(gs_iconst dX1_amount_0 rfl), List.forall_mem_cons.mpr ⟨
  (gs_istore_n dX1_amount_1 rfl), List.forall_mem_cons.mpr ⟨
  (gs_iload_n dX1_amount_2 rfl), List.forall_mem_cons.mpr ⟨
  (gs_aload_n dX1_amount_3 rfl), List.forall_mem_cons.mpr ⟨
  (gs_ct dX1_amount_4 (md_204) rfl (List.forall_mem_cons.mpr ⟨gx_mem 599 (by decide +kernel) (by decide +kernel), List.forall_mem_cons.mpr ⟨gx_mem 600 (by decide +kernel) (by decide +kernel), List.forall_mem_cons.mpr ⟨gx_mem 601 (by decide +kernel) (by decide +kernel), List.forall_mem_cons.mpr ⟨gx_mem 99 (by decide +kernel) (by decide +kernel), List.forall_mem_cons.mpr ⟨cw_602, fun _ h => absurd h List.not_mem_nil⟩⟩⟩⟩⟩) (by decide +kernel) (by decide)), List.forall_mem_cons.mpr ⟨
  (gs_icmp_ge dX1_amount_7 rfl), List.forall_mem_cons.mpr ⟨
  (gs_aload_n dX1_amount_10 rfl), List.forall_mem_cons.mpr ⟨
  (gs_aload_n dX1_amount_11 rfl), List.forall_mem_cons.mpr ⟨
  (gs_iload_n dX1_amount_12 rfl), List.forall_mem_cons.mpr ⟨
  (gs_ct dX1_amount_13 (md_205) rfl (List.forall_mem_cons.mpr ⟨gx_mem 609 (by decide +kernel) (by decide +kernel), List.forall_mem_cons.mpr ⟨gx_mem 610 (by decide +kernel) (by decide +kernel), List.forall_mem_cons.mpr ⟨gx_mem 611 (by decide +kernel) (by decide +kernel), List.forall_mem_cons.mpr ⟨gx_mem 99 (by decide +kernel) (by decide +kernel), List.forall_mem_cons.mpr ⟨cw_612, fun _ h => absurd h List.not_mem_nil⟩⟩⟩⟩⟩) (by decide +kernel) (by decide)), List.forall_mem_cons.mpr ⟨
  (gs_cv dX1_amount_16 (fun q hq => by
      simp only [List.mem_cons, List.not_mem_nil, or_false] at hq
      subst hq
      exact Or.inl ⟨_, rfl, by decide, by decide +kernel, by decide +kernel, List.forall_mem_cons.mpr ⟨gx_mem 581 (by decide +kernel) (by decide +kernel), List.forall_mem_cons.mpr ⟨gx_mem 583 (by decide +kernel) (by decide +kernel), List.forall_mem_cons.mpr ⟨gx_mem 7 (by decide +kernel) (by decide +kernel), List.forall_mem_cons.mpr ⟨gx_mem 86 (by decide +kernel) (by decide +kernel), List.forall_mem_cons.mpr ⟨cw_584, fun _ h => absurd h List.not_mem_nil⟩⟩⟩⟩⟩⟩)), List.forall_mem_cons.mpr ⟨
  (gs_if_ne dX1_amount_19 rfl), List.forall_mem_cons.mpr ⟨
  (gs_iconst dX1_amount_22 rfl), List.forall_mem_cons.mpr ⟨
  (gs_rn dX1_amount_23 (by decide)), List.forall_mem_cons.mpr ⟨
  (gs_iinc dX1_amount_24), List.forall_mem_cons.mpr ⟨
  (gs_goto dX1_amount_27 rfl), List.forall_mem_cons.mpr ⟨
  (gs_aload_n dX1_amount_30 rfl), List.forall_mem_cons.mpr ⟨
  (gs_bipush dX1_amount_31 rfl), List.forall_mem_cons.mpr ⟨
  (gs_cv dX1_amount_33 (fun q hq => by
      simp only [List.mem_cons, List.not_mem_nil, or_false] at hq
      subst hq
      exact Or.inl ⟨_, rfl, by decide, by decide +kernel, by decide +kernel, List.forall_mem_cons.mpr ⟨gx_mem 581 (by decide +kernel) (by decide +kernel), List.forall_mem_cons.mpr ⟨gx_mem 583 (by decide +kernel) (by decide +kernel), List.forall_mem_cons.mpr ⟨gx_mem 7 (by decide +kernel) (by decide +kernel), List.forall_mem_cons.mpr ⟨gx_mem 86 (by decide +kernel) (by decide +kernel), List.forall_mem_cons.mpr ⟨cw_584, fun _ h => absurd h List.not_mem_nil⟩⟩⟩⟩⟩⟩)), List.forall_mem_cons.mpr ⟨
  (gs_if_eq dX1_amount_36 rfl), List.forall_mem_cons.mpr ⟨
  (gs_aload_n dX1_amount_39 rfl), List.forall_mem_cons.mpr ⟨
  (gs_cv dX1_amount_40 (fun q hq => by
      simp only [List.mem_cons, List.not_mem_nil, or_false] at hq
      subst hq
      exact Or.inl ⟨_, rfl, by decide, by decide +kernel, by decide +kernel, List.forall_mem_cons.mpr ⟨gx_mem 647 (by decide +kernel) (by decide +kernel), List.forall_mem_cons.mpr ⟨gx_mem 649 (by decide +kernel) (by decide +kernel), List.forall_mem_cons.mpr ⟨gx_mem 11 (by decide +kernel) (by decide +kernel), List.forall_mem_cons.mpr ⟨gx_mem 86 (by decide +kernel) (by decide +kernel), List.forall_mem_cons.mpr ⟨cw_650, fun _ h => absurd h List.not_mem_nil⟩⟩⟩⟩⟩⟩)), List.forall_mem_cons.mpr ⟨
  (gs_if_eq dX1_amount_43 rfl), List.forall_mem_cons.mpr ⟨
  (gs_iconst dX1_amount_46 rfl), List.forall_mem_cons.mpr ⟨
  (gs_goto dX1_amount_47 rfl), List.forall_mem_cons.mpr ⟨
  (gs_iconst dX1_amount_50 rfl), List.forall_mem_cons.mpr ⟨
  (gs_rn dX1_amount_51 (by decide)), fun _ h => absurd h List.not_mem_nil⟩⟩⟩⟩⟩⟩⟩⟩⟩⟩⟩⟩⟩⟩⟩⟩⟩⟩⟩⟩⟩⟩⟩⟩⟩⟩⟩
theorem kt_X1_amount (g : gx_T) : ∀ q ∈ k_X1_amount, gx_E g gc_md RX1 cX1_amount 3 (some .boolean) "amount" q.1 q.2 := kt_X1_amount_0 g
set_option maxRecDepth 20000 in
theorem dX1_either_0 : decode cX1_either 0 = .ok (.aload_n 0, 1) := by decide +kernel
set_option maxRecDepth 20000 in
theorem dX1_either_1 : decode cX1_either 1 = .ok (.iload_n 1, 1) := by decide +kernel
set_option maxRecDepth 20000 in
theorem dX1_either_2 : decode cX1_either 2 = .ok (.invokevirtual 95, 3) := by decide +kernel
set_option maxRecDepth 20000 in
theorem dX1_either_5 : decode cX1_either 5 = .ok (.ifCond .ne 5, 3) := by decide +kernel
set_option maxRecDepth 20000 in
theorem dX1_either_8 : decode cX1_either 8 = .ok (.iconst 0, 1) := by decide +kernel
set_option maxRecDepth 20000 in
theorem dX1_either_9 : decode cX1_either 9 = .ok (.ireturn, 1) := by decide +kernel
set_option maxRecDepth 20000 in
theorem dX1_either_10 : decode cX1_either 10 = .ok (.iconst 0, 1) := by decide +kernel
set_option maxRecDepth 20000 in
theorem dX1_either_11 : decode cX1_either 11 = .ok (.istore_n 2, 1) := by decide +kernel
set_option maxRecDepth 20000 in
theorem dX1_either_12 : decode cX1_either 12 = .ok (.iconst 0, 1) := by decide +kernel
set_option maxRecDepth 20000 in
theorem dX1_either_13 : decode cX1_either 13 = .ok (.istore_n 3, 1) := by decide +kernel
set_option maxRecDepth 20000 in
theorem dX1_either_14 : decode cX1_either 14 = .ok (.iload_n 3, 1) := by decide +kernel
set_option maxRecDepth 20000 in
theorem dX1_either_15 : decode cX1_either 15 = .ok (.aload_n 0, 1) := by decide +kernel
set_option maxRecDepth 20000 in
theorem dX1_either_16 : decode cX1_either 16 = .ok (.getfield 35, 3) := by decide +kernel
set_option maxRecDepth 20000 in
theorem dX1_either_19 : decode cX1_either 19 = .ok (.if_icmp .ge 93, 3) := by decide +kernel
set_option maxRecDepth 20000 in
theorem dX1_either_22 : decode cX1_either 22 = .ok (.aload_n 0, 1) := by decide +kernel
set_option maxRecDepth 20000 in
theorem dX1_either_23 : decode cX1_either 23 = .ok (.invokevirtual 62, 3) := by decide +kernel
set_option maxRecDepth 20000 in
theorem dX1_either_26 : decode cX1_either 26 = .ok (.istore 4, 2) := by decide +kernel
set_option maxRecDepth 20000 in
theorem dX1_either_28 : decode cX1_either 28 = .ok (.iload 4, 2) := by decide +kernel
set_option maxRecDepth 20000 in
theorem dX1_either_30 : decode cX1_either 30 = .ok (.bipush 38, 2) := by decide +kernel
set_option maxRecDepth 20000 in
theorem dX1_either_32 : decode cX1_either 32 = .ok (.if_icmp .eq 13, 3) := by decide +kernel
set_option maxRecDepth 20000 in
theorem dX1_either_35 : decode cX1_either 35 = .ok (.iload 4, 2) := by decide +kernel
set_option maxRecDepth 20000 in
theorem dX1_either_37 : decode cX1_either 37 = .ok (.bipush 124, 2) := by decide +kernel
set_option maxRecDepth 20000 in
theorem dX1_either_39 : decode cX1_either 39 = .ok (.if_icmp .eq 6, 3) := by decide +kernel
set_option maxRecDepth 20000 in
theorem dX1_either_42 : decode cX1_either 42 = .ok (.goto 70, 3) := by decide +kernel
set_option maxRecDepth 20000 in
theorem dX1_either_45 : decode cX1_either 45 = .ok (.iload 4, 2) := by decide +kernel
set_option maxRecDepth 20000 in
theorem dX1_either_47 : decode cX1_either 47 = .ok (.bipush 124, 2) := by decide +kernel
set_option maxRecDepth 20000 in
theorem dX1_either_49 : decode cX1_either 49 = .ok (.if_icmp .ne 14, 3) := by decide +kernel
set_option maxRecDepth 20000 in
theorem dX1_either_52 : decode cX1_either 52 = .ok (.iload_n 2, 1) := by decide +kernel
set_option maxRecDepth 20000 in
theorem dX1_either_53 : decode cX1_either 53 = .ok (.ifCond .eq 10, 3) := by decide +kernel
set_option maxRecDepth 20000 in
theorem dX1_either_56 : decode cX1_either 56 = .ok (.aload_n 0, 1) := by decide +kernel
set_option maxRecDepth 20000 in
theorem dX1_either_57 : decode cX1_either 57 = .ok (.iconst 5, 1) := by decide +kernel
set_option maxRecDepth 20000 in
theorem dX1_either_58 : decode cX1_either 58 = .ok (.iconst 0, 1) := by decide +kernel
set_option maxRecDepth 20000 in
theorem dX1_either_59 : decode cX1_either 59 = .ok (.iconst 0, 1) := by decide +kernel
set_option maxRecDepth 20000 in
theorem dX1_either_60 : decode cX1_either 60 = .ok (.invokevirtual 80, 3) := by decide +kernel
set_option maxRecDepth 20000 in
theorem dX1_either_63 : decode cX1_either 63 = .ok (.iload 4, 2) := by decide +kernel
set_option maxRecDepth 20000 in
theorem dX1_either_65 : decode cX1_either 65 = .ok (.bipush 124, 2) := by decide +kernel
set_option maxRecDepth 20000 in
theorem dX1_either_67 : decode cX1_either 67 = .ok (.if_icmp .ne 5, 3) := by decide +kernel
set_option maxRecDepth 20000 in
theorem dX1_either_70 : decode cX1_either 70 = .ok (.iconst 1, 1) := by decide +kernel
set_option maxRecDepth 20000 in
theorem dX1_either_71 : decode cX1_either 71 = .ok (.istore_n 2, 1) := by decide +kernel
set_option maxRecDepth 20000 in
theorem dX1_either_72 : decode cX1_either 72 = .ok (.aload_n 0, 1) := by decide +kernel
set_option maxRecDepth 20000 in
theorem dX1_either_73 : decode cX1_either 73 = .ok (.dup, 1) := by decide +kernel
set_option maxRecDepth 20000 in
theorem dX1_either_74 : decode cX1_either 74 = .ok (.getfield 38, 3) := by decide +kernel
set_option maxRecDepth 20000 in
theorem dX1_either_77 : decode cX1_either 77 = .ok (.iconst 1, 1) := by decide +kernel
set_option maxRecDepth 20000 in
theorem dX1_either_78 : decode cX1_either 78 = .ok (.iadd, 1) := by decide +kernel
set_option maxRecDepth 20000 in
theorem dX1_either_79 : decode cX1_either 79 = .ok (.putfield 38, 3) := by decide +kernel
set_option maxRecDepth 20000 in
theorem dX1_either_82 : decode cX1_either 82 = .ok (.aload_n 0, 1) := by decide +kernel
set_option maxRecDepth 20000 in
theorem dX1_either_83 : decode cX1_either 83 = .ok (.iload_n 1, 1) := by decide +kernel
set_option maxRecDepth 20000 in
theorem dX1_either_84 : decode cX1_either 84 = .ok (.invokevirtual 95, 3) := by decide +kernel
set_option maxRecDepth 20000 in
theorem dX1_either_87 : decode cX1_either 87 = .ok (.ifCond .ne 5, 3) := by decide +kernel
set_option maxRecDepth 20000 in
theorem dX1_either_90 : decode cX1_either 90 = .ok (.iconst 0, 1) := by decide +kernel
set_option maxRecDepth 20000 in
theorem dX1_either_91 : decode cX1_either 91 = .ok (.ireturn, 1) := by decide +kernel
set_option maxRecDepth 20000 in
theorem dX1_either_92 : decode cX1_either 92 = .ok (.iload 4, 2) := by decide +kernel
set_option maxRecDepth 20000 in
theorem dX1_either_94 : decode cX1_either 94 = .ok (.bipush 38, 2) := by decide +kernel
set_option maxRecDepth 20000 in
theorem dX1_either_96 : decode cX1_either 96 = .ok (.if_icmp .ne 10, 3) := by decide +kernel
set_option maxRecDepth 20000 in
theorem dX1_either_99 : decode cX1_either 99 = .ok (.aload_n 0, 1) := by decide +kernel
set_option maxRecDepth 20000 in
theorem dX1_either_100 : decode cX1_either 100 = .ok (.iconst 4, 1) := by decide +kernel
set_option maxRecDepth 20000 in
theorem dX1_either_101 : decode cX1_either 101 = .ok (.iconst 0, 1) := by decide +kernel
set_option maxRecDepth 20000 in
theorem dX1_either_102 : decode cX1_either 102 = .ok (.iconst 0, 1) := by decide +kernel
set_option maxRecDepth 20000 in
theorem dX1_either_103 : decode cX1_either 103 = .ok (.invokevirtual 80, 3) := by decide +kernel
set_option maxRecDepth 20000 in
theorem dX1_either_106 : decode cX1_either 106 = .ok (.iinc 3 1, 3) := by decide +kernel
set_option maxRecDepth 20000 in
theorem dX1_either_109 : decode cX1_either 109 = .ok (.goto (-95), 3) := by decide +kernel
set_option maxRecDepth 20000 in
theorem dX1_either_112 : decode cX1_either 112 = .ok (.iload_n 2, 1) := by decide +kernel
set_option maxRecDepth 20000 in
theorem dX1_either_113 : decode cX1_either 113 = .ok (.ifCond .eq 10, 3) := by decide +kernel
set_option maxRecDepth 20000 in
theorem dX1_either_116 : decode cX1_either 116 = .ok (.aload_n 0, 1) := by decide +kernel
set_option maxRecDepth 20000 in
theorem dX1_either_117 : decode cX1_either 117 = .ok (.iconst 5, 1) := by decide +kernel
set_option maxRecDepth 20000 in
theorem dX1_either_118 : decode cX1_either 118 = .ok (.iconst 0, 1) := by decide +kernel
set_option maxRecDepth 20000 in
theorem dX1_either_119 : decode cX1_either 119 = .ok (.iconst 0, 1) := by decide +kernel
set_option maxRecDepth 20000 in
theorem dX1_either_120 : decode cX1_either 120 = .ok (.invokevirtual 80, 3) := by decide +kernel
set_option maxRecDepth 20000 in
theorem dX1_either_123 : decode cX1_either 123 = .ok (.iconst 1, 1) := by decide +kernel
set_option maxRecDepth 20000 in
theorem dX1_either_124 : decode cX1_either 124 = .ok (.ireturn, 1) := by decide +kernel
set_option maxRecDepth 20000 in
theorem kt_X1_either_0 (g : gx_T) : ∀ q ∈ k_X1_either_0, gx_E g gc_md RX1 cX1_either 5 (some .boolean) "either" q.1 q.2 := List.forall_mem_cons.mpr ⟨(gs_aload_n dX1_either_0 rfl), List.forall_mem_cons.mpr ⟨
  (gs_iload_n dX1_either_1 rfl), List.forall_mem_cons.mpr ⟨
  (gs_cv dX1_either_2 (fun q hq => by
      simp only [List.mem_cons, List.not_mem_nil, or_false] at hq
      subst hq
      exact Or.inl ⟨_, rfl, by decide, by decide +kernel, by decide +kernel, List.forall_mem_cons.mpr ⟨gx_mem 660 (by decide +kernel) (by decide +kernel), List.forall_mem_cons.mpr ⟨gx_mem 662 (by decide +kernel) (by decide +kernel), List.forall_mem_cons.mpr ⟨gx_mem 13 (by decide +kernel) (by decide +kernel), List.forall_mem_cons.mpr ⟨gx_mem 86 (by decide +kernel) (by decide +kernel), List.forall_mem_cons.mpr ⟨cw_663, fun _ h => absurd h List.not_mem_nil⟩⟩⟩⟩⟩⟩)), List.forall_mem_cons.mpr ⟨
  (gs_if_ne dX1_either_5 rfl), List.forall_mem_cons.mpr ⟨
  (gs_iconst dX1_either_8 rfl), List.forall_mem_cons.mpr ⟨
  (gs_rn dX1_either_9 (by decide)), List.forall_mem_cons.mpr ⟨
  (gs_iconst dX1_either_10 rfl), List.forall_mem_cons.mpr ⟨
  (gs_istore_n dX1_either_11 rfl), List.forall_mem_cons.mpr ⟨
  (gs_iconst dX1_either_12 rfl), List.forall_mem_cons.mpr ⟨
  (gs_istore_n dX1_either_13 rfl), List.forall_mem_cons.mpr ⟨
  (gs_iload_n dX1_either_14 rfl), List.forall_mem_cons.mpr ⟨
  (gs_aload_n dX1_either_15 rfl), List.forall_mem_cons.mpr ⟨
  (gs_gf (ref := "GriefCranes$Firm") dX1_either_16 (gx_mem 157 (by decide +kernel) (by decide +kernel)) (Or.inl rfl) gf_1_7), List.forall_mem_cons.mpr ⟨
  (gs_icmp_ge dX1_either_19 rfl), List.forall_mem_cons.mpr ⟨
  (gs_aload_n dX1_either_22 rfl), List.forall_mem_cons.mpr ⟨
  (gs_cv dX1_either_23 (fun q hq => by
      simp only [List.mem_cons, List.not_mem_nil, or_false] at hq
      subst hq
      exact Or.inl ⟨_, rfl, by decide, by decide +kernel, by decide +kernel, List.forall_mem_cons.mpr ⟨gx_mem 585 (by decide +kernel) (by decide +kernel), List.forall_mem_cons.mpr ⟨gx_mem 587 (by decide +kernel) (by decide +kernel), List.forall_mem_cons.mpr ⟨gx_mem 8 (by decide +kernel) (by decide +kernel), List.forall_mem_cons.mpr ⟨gx_mem 86 (by decide +kernel) (by decide +kernel), List.forall_mem_cons.mpr ⟨cw_588, fun _ h => absurd h List.not_mem_nil⟩⟩⟩⟩⟩⟩)), List.forall_mem_cons.mpr ⟨
  (gs_istore dX1_either_26), List.forall_mem_cons.mpr ⟨
  (gs_iload dX1_either_28), List.forall_mem_cons.mpr ⟨
  (gs_bipush dX1_either_30 rfl), List.forall_mem_cons.mpr ⟨
  (gs_icmp_eq dX1_either_32 rfl), List.forall_mem_cons.mpr ⟨
  (gs_iload dX1_either_35), List.forall_mem_cons.mpr ⟨
  (gs_bipush dX1_either_37 rfl), List.forall_mem_cons.mpr ⟨
  (gs_icmp_eq dX1_either_39 rfl), List.forall_mem_cons.mpr ⟨
  (gs_goto dX1_either_42 rfl), List.forall_mem_cons.mpr ⟨
  (gs_iload dX1_either_45), List.forall_mem_cons.mpr ⟨
  (gs_bipush dX1_either_47 rfl), List.forall_mem_cons.mpr ⟨
  (gs_icmp_ne dX1_either_49 rfl), List.forall_mem_cons.mpr ⟨
  (gs_iload_n dX1_either_52 rfl), List.forall_mem_cons.mpr ⟨
  (gs_if_eq dX1_either_53 rfl), List.forall_mem_cons.mpr ⟨
  (gs_aload_n dX1_either_56 rfl), List.forall_mem_cons.mpr ⟨
  (gs_iconst dX1_either_57 rfl), List.forall_mem_cons.mpr ⟨
  (gs_iconst dX1_either_58 rfl), fun _ h => absurd h List.not_mem_nil⟩⟩⟩⟩⟩⟩⟩⟩⟩⟩⟩⟩⟩⟩⟩⟩⟩⟩⟩⟩⟩⟩⟩⟩⟩⟩⟩⟩⟩⟩⟩⟩
set_option maxRecDepth 20000 in
theorem kt_X1_either_1 (g : gx_T) : ∀ q ∈ k_X1_either_1, gx_E g gc_md RX1 cX1_either 5 (some .boolean) "either" q.1 q.2 := List.forall_mem_cons.mpr ⟨(gs_iconst dX1_either_59 rfl), List.forall_mem_cons.mpr ⟨
  (gs_cv dX1_either_60 (fun q hq => by
      simp only [List.mem_cons, List.not_mem_nil, or_false] at hq
      subst hq
      exact Or.inl ⟨_, rfl, by decide, by decide +kernel, by decide +kernel, List.forall_mem_cons.mpr ⟨gx_mem 729 (by decide +kernel) (by decide +kernel), List.forall_mem_cons.mpr ⟨gx_mem 731 (by decide +kernel) (by decide +kernel), List.forall_mem_cons.mpr ⟨gx_mem 16 (by decide +kernel) (by decide +kernel), List.forall_mem_cons.mpr ⟨gx_mem 86 (by decide +kernel) (by decide +kernel), List.forall_mem_cons.mpr ⟨cw_732, fun _ h => absurd h List.not_mem_nil⟩⟩⟩⟩⟩⟩)), List.forall_mem_cons.mpr ⟨
  (gs_iload dX1_either_63), List.forall_mem_cons.mpr ⟨
  (gs_bipush dX1_either_65 rfl), List.forall_mem_cons.mpr ⟨
  (gs_icmp_ne dX1_either_67 rfl), List.forall_mem_cons.mpr ⟨
  (gs_iconst dX1_either_70 rfl), List.forall_mem_cons.mpr ⟨
  (gs_istore_n dX1_either_71 rfl), List.forall_mem_cons.mpr ⟨
  (gs_aload_n dX1_either_72 rfl), List.forall_mem_cons.mpr ⟨
  (gs_dup dX1_either_73), List.forall_mem_cons.mpr ⟨
  (gs_gf (ref := "GriefCranes$Firm") dX1_either_74 (gx_mem 158 (by decide +kernel) (by decide +kernel)) (Or.inl rfl) gf_1_8), List.forall_mem_cons.mpr ⟨
  (gs_iconst dX1_either_77 rfl), List.forall_mem_cons.mpr ⟨
  (gs_iadd dX1_either_78), List.forall_mem_cons.mpr ⟨
  (gs_pf (ref := "GriefCranes$Firm") dX1_either_79 (gx_mem 158 (by decide +kernel) (by decide +kernel)) (Or.inl rfl) gf_1_8 (by decide +kernel)), List.forall_mem_cons.mpr ⟨
  (gs_aload_n dX1_either_82 rfl), List.forall_mem_cons.mpr ⟨
  (gs_iload_n dX1_either_83 rfl), List.forall_mem_cons.mpr ⟨
  (gs_cv dX1_either_84 (fun q hq => by
      simp only [List.mem_cons, List.not_mem_nil, or_false] at hq
      subst hq
      exact Or.inl ⟨_, rfl, by decide, by decide +kernel, by decide +kernel, List.forall_mem_cons.mpr ⟨gx_mem 660 (by decide +kernel) (by decide +kernel), List.forall_mem_cons.mpr ⟨gx_mem 662 (by decide +kernel) (by decide +kernel), List.forall_mem_cons.mpr ⟨gx_mem 13 (by decide +kernel) (by decide +kernel), List.forall_mem_cons.mpr ⟨gx_mem 86 (by decide +kernel) (by decide +kernel), List.forall_mem_cons.mpr ⟨cw_663, fun _ h => absurd h List.not_mem_nil⟩⟩⟩⟩⟩⟩)), List.forall_mem_cons.mpr ⟨
  (gs_if_ne dX1_either_87 rfl), List.forall_mem_cons.mpr ⟨
  (gs_iconst dX1_either_90 rfl), List.forall_mem_cons.mpr ⟨
  (gs_rn dX1_either_91 (by decide)), List.forall_mem_cons.mpr ⟨
  (gs_iload dX1_either_92), List.forall_mem_cons.mpr ⟨
  (gs_bipush dX1_either_94 rfl), List.forall_mem_cons.mpr ⟨
  (gs_icmp_ne dX1_either_96 rfl), List.forall_mem_cons.mpr ⟨
  (gs_aload_n dX1_either_99 rfl), List.forall_mem_cons.mpr ⟨
  (gs_iconst dX1_either_100 rfl), List.forall_mem_cons.mpr ⟨
  (gs_iconst dX1_either_101 rfl), List.forall_mem_cons.mpr ⟨
  (gs_iconst dX1_either_102 rfl), List.forall_mem_cons.mpr ⟨
  (gs_cv dX1_either_103 (fun q hq => by
      simp only [List.mem_cons, List.not_mem_nil, or_false] at hq
      subst hq
      exact Or.inl ⟨_, rfl, by decide, by decide +kernel, by decide +kernel, List.forall_mem_cons.mpr ⟨gx_mem 729 (by decide +kernel) (by decide +kernel), List.forall_mem_cons.mpr ⟨gx_mem 731 (by decide +kernel) (by decide +kernel), List.forall_mem_cons.mpr ⟨gx_mem 16 (by decide +kernel) (by decide +kernel), List.forall_mem_cons.mpr ⟨gx_mem 86 (by decide +kernel) (by decide +kernel), List.forall_mem_cons.mpr ⟨cw_732, fun _ h => absurd h List.not_mem_nil⟩⟩⟩⟩⟩⟩)), List.forall_mem_cons.mpr ⟨
  (gs_iinc dX1_either_106), List.forall_mem_cons.mpr ⟨
  (gs_goto dX1_either_109 rfl), List.forall_mem_cons.mpr ⟨
  (gs_iload_n dX1_either_112 rfl), List.forall_mem_cons.mpr ⟨
  (gs_if_eq dX1_either_113 rfl), List.forall_mem_cons.mpr ⟨
  (gs_aload_n dX1_either_116 rfl), fun _ h => absurd h List.not_mem_nil⟩⟩⟩⟩⟩⟩⟩⟩⟩⟩⟩⟩⟩⟩⟩⟩⟩⟩⟩⟩⟩⟩⟩⟩⟩⟩⟩⟩⟩⟩⟩⟩
set_option maxRecDepth 20000 in
theorem kt_X1_either_2 (g : gx_T) : ∀ q ∈ k_X1_either_2, gx_E g gc_md RX1 cX1_either 5 (some .boolean) "either" q.1 q.2 := List.forall_mem_cons.mpr ⟨(gs_iconst dX1_either_117 rfl), List.forall_mem_cons.mpr ⟨
  (gs_iconst dX1_either_118 rfl), List.forall_mem_cons.mpr ⟨
  (gs_iconst dX1_either_119 rfl), List.forall_mem_cons.mpr ⟨
  (gs_cv dX1_either_120 (fun q hq => by
      simp only [List.mem_cons, List.not_mem_nil, or_false] at hq
      subst hq
      exact Or.inl ⟨_, rfl, by decide, by decide +kernel, by decide +kernel, List.forall_mem_cons.mpr ⟨gx_mem 729 (by decide +kernel) (by decide +kernel), List.forall_mem_cons.mpr ⟨gx_mem 731 (by decide +kernel) (by decide +kernel), List.forall_mem_cons.mpr ⟨gx_mem 16 (by decide +kernel) (by decide +kernel), List.forall_mem_cons.mpr ⟨gx_mem 86 (by decide +kernel) (by decide +kernel), List.forall_mem_cons.mpr ⟨cw_732, fun _ h => absurd h List.not_mem_nil⟩⟩⟩⟩⟩⟩)), List.forall_mem_cons.mpr ⟨
  (gs_iconst dX1_either_123 rfl), List.forall_mem_cons.mpr ⟨
  (gs_rn dX1_either_124 (by decide)), fun _ h => absurd h List.not_mem_nil⟩⟩⟩⟩⟩⟩
theorem kt_X1_either (g : gx_T) : ∀ q ∈ k_X1_either, gx_E g gc_md RX1 cX1_either 5 (some .boolean) "either" q.1 q.2 := List.forall_mem_append.mpr ⟨kt_X1_either_0 g, List.forall_mem_append.mpr ⟨kt_X1_either_1 g, kt_X1_either_2 g⟩⟩
set_option maxRecDepth 20000 in
theorem dX1_next_0 : decode cX1_next 0 = .ok (.aload_n 0, 1) := by decide +kernel
set_option maxRecDepth 20000 in
theorem dX1_next_1 : decode cX1_next 1 = .ok (.getfield 31, 3) := by decide +kernel
set_option maxRecDepth 20000 in
theorem dX1_next_4 : decode cX1_next 4 = .ok (.ifnull 33, 3) := by decide +kernel
set_option maxRecDepth 20000 in
theorem dX1_next_7 : decode cX1_next 7 = .ok (.aload_n 0, 1) := by decide +kernel
set_option maxRecDepth 20000 in
theorem dX1_next_8 : decode cX1_next 8 = .ok (.getfield 38, 3) := by decide +kernel
set_option maxRecDepth 20000 in
theorem dX1_next_11 : decode cX1_next 11 = .ok (.ifCond .lt 26, 3) := by decide +kernel
set_option maxRecDepth 20000 in
theorem dX1_next_14 : decode cX1_next 14 = .ok (.aload_n 0, 1) := by decide +kernel
set_option maxRecDepth 20000 in
theorem dX1_next_15 : decode cX1_next 15 = .ok (.getfield 38, 3) := by decide +kernel
set_option maxRecDepth 20000 in
theorem dX1_next_18 : decode cX1_next 18 = .ok (.aload_n 0, 1) := by decide +kernel
set_option maxRecDepth 20000 in
theorem dX1_next_19 : decode cX1_next 19 = .ok (.getfield 35, 3) := by decide +kernel
set_option maxRecDepth 20000 in
theorem dX1_next_22 : decode cX1_next 22 = .ok (.if_icmp .ge 15, 3) := by decide +kernel
set_option maxRecDepth 20000 in
theorem dX1_next_25 : decode cX1_next 25 = .ok (.aload_n 0, 1) := by decide +kernel
set_option maxRecDepth 20000 in
theorem dX1_next_26 : decode cX1_next 26 = .ok (.getfield 31, 3) := by decide +kernel
set_option maxRecDepth 20000 in
theorem dX1_next_29 : decode cX1_next 29 = .ok (.aload_n 0, 1) := by decide +kernel
set_option maxRecDepth 20000 in
theorem dX1_next_30 : decode cX1_next 30 = .ok (.getfield 38, 3) := by decide +kernel
set_option maxRecDepth 20000 in
theorem dX1_next_33 : decode cX1_next 33 = .ok (.baload, 1) := by decide +kernel
set_option maxRecDepth 20000 in
theorem dX1_next_34 : decode cX1_next 34 = .ok (.goto 4, 3) := by decide +kernel
set_option maxRecDepth 20000 in
theorem dX1_next_37 : decode cX1_next 37 = .ok (.iconst (-1), 1) := by decide +kernel
set_option maxRecDepth 20000 in
theorem dX1_next_38 : decode cX1_next 38 = .ok (.ireturn, 1) := by decide +kernel
set_option maxRecDepth 20000 in
theorem kt_X1_next_0 (g : gx_T) : ∀ q ∈ k_X1_next_0, gx_E g gc_md RX1 cX1_next 1 (some .int) "next" q.1 q.2 := List.forall_mem_cons.mpr ⟨(gs_aload_n dX1_next_0 rfl), List.forall_mem_cons.mpr ⟨
  (gs_gf (ref := "GriefCranes$Firm") dX1_next_1 (gx_mem 156 (by decide +kernel) (by decide +kernel)) (Or.inl rfl) gf_1_6), List.forall_mem_cons.mpr ⟨
  (gs_ifnull dX1_next_4 rfl), List.forall_mem_cons.mpr ⟨
  (gs_aload_n dX1_next_7 rfl), List.forall_mem_cons.mpr ⟨
  (gs_gf (ref := "GriefCranes$Firm") dX1_next_8 (gx_mem 158 (by decide +kernel) (by decide +kernel)) (Or.inl rfl) gf_1_8), List.forall_mem_cons.mpr ⟨
  (gs_if_lt dX1_next_11 rfl), List.forall_mem_cons.mpr ⟨
  (gs_aload_n dX1_next_14 rfl), List.forall_mem_cons.mpr ⟨
  (gs_gf (ref := "GriefCranes$Firm") dX1_next_15 (gx_mem 158 (by decide +kernel) (by decide +kernel)) (Or.inl rfl) gf_1_8), List.forall_mem_cons.mpr ⟨
  (gs_aload_n dX1_next_18 rfl), List.forall_mem_cons.mpr ⟨
  (gs_gf (ref := "GriefCranes$Firm") dX1_next_19 (gx_mem 157 (by decide +kernel) (by decide +kernel)) (Or.inl rfl) gf_1_7), List.forall_mem_cons.mpr ⟨
  (gs_icmp_ge dX1_next_22 rfl), List.forall_mem_cons.mpr ⟨
  (gs_aload_n dX1_next_25 rfl), List.forall_mem_cons.mpr ⟨
  (gs_gf (ref := "GriefCranes$Firm") dX1_next_26 (gx_mem 156 (by decide +kernel) (by decide +kernel)) (Or.inl rfl) gf_1_6), List.forall_mem_cons.mpr ⟨
  (gs_aload_n dX1_next_29 rfl), List.forall_mem_cons.mpr ⟨
  (gs_gf (ref := "GriefCranes$Firm") dX1_next_30 (gx_mem 158 (by decide +kernel) (by decide +kernel)) (Or.inl rfl) gf_1_8), List.forall_mem_cons.mpr ⟨
  (gs_baload dX1_next_33), List.forall_mem_cons.mpr ⟨
  (gs_goto dX1_next_34 rfl), List.forall_mem_cons.mpr ⟨
  (gs_iconst dX1_next_37 rfl), List.forall_mem_cons.mpr ⟨
  (gs_ri dX1_next_38), fun _ h => absurd h List.not_mem_nil⟩⟩⟩⟩⟩⟩⟩⟩⟩⟩⟩⟩⟩⟩⟩⟩⟩⟩⟩
theorem kt_X1_next (g : gx_T) : ∀ q ∈ k_X1_next, gx_E g gc_md RX1 cX1_next 1 (some .int) "next" q.1 q.2 := kt_X1_next_0 g
set_option maxRecDepth 20000 in
theorem dX1_single_0 : decode cX1_single 0 = .ok (.aload_n 0, 1) := by decide +kernel
set_option maxRecDepth 20000 in
theorem dX1_single_1 : decode cX1_single 1 = .ok (.invokevirtual 62, 3) := by decide +kernel
set_option maxRecDepth 20000 in
theorem dX1_single_4 : decode cX1_single 4 = .ok (.istore_n 2, 1) := by decide +kernel
set_option maxRecDepth 20000 in
theorem dX1_single_5 : decode cX1_single 5 = .ok (.iload_n 2, 1) := by decide +kernel
set_option maxRecDepth 20000 in
theorem dX1_single_6 : decode cX1_single 6 = .ok (.bipush 33, 2) := by decide +kernel
set_option maxRecDepth 20000 in
theorem dX1_single_8 : decode cX1_single 8 = .ok (.if_icmp .eq 14, 3) := by decide +kernel
set_option maxRecDepth 20000 in
theorem dX1_single_11 : decode cX1_single 11 = .ok (.iload_n 2, 1) := by decide +kernel
set_option maxRecDepth 20000 in
theorem dX1_single_12 : decode cX1_single 12 = .ok (.bipush 40, 2) := by decide +kernel
set_option maxRecDepth 20000 in
theorem dX1_single_14 : decode cX1_single 14 = .ok (.if_icmp .eq 8, 3) := by decide +kernel
set_option maxRecDepth 20000 in
theorem dX1_single_17 : decode cX1_single 17 = .ok (.aload_n 0, 1) := by decide +kernel
set_option maxRecDepth 20000 in
theorem dX1_single_18 : decode cX1_single 18 = .ok (.invokevirtual 98, 3) := by decide +kernel
set_option maxRecDepth 20000 in
theorem dX1_single_21 : decode cX1_single 21 = .ok (.ireturn, 1) := by decide +kernel
set_option maxRecDepth 20000 in
theorem dX1_single_22 : decode cX1_single 22 = .ok (.iload_n 1, 1) := by decide +kernel
set_option maxRecDepth 20000 in
theorem dX1_single_23 : decode cX1_single 23 = .ok (.iconst 4, 1) := by decide +kernel
set_option maxRecDepth 20000 in
theorem dX1_single_24 : decode cX1_single 24 = .ok (.if_icmp .lt 5, 3) := by decide +kernel
set_option maxRecDepth 20000 in
theorem dX1_single_27 : decode cX1_single 27 = .ok (.iconst 0, 1) := by decide +kernel
set_option maxRecDepth 20000 in
theorem dX1_single_28 : decode cX1_single 28 = .ok (.ireturn, 1) := by decide +kernel
set_option maxRecDepth 20000 in
theorem dX1_single_29 : decode cX1_single 29 = .ok (.aload_n 0, 1) := by decide +kernel
set_option maxRecDepth 20000 in
theorem dX1_single_30 : decode cX1_single 30 = .ok (.dup, 1) := by decide +kernel
set_option maxRecDepth 20000 in
theorem dX1_single_31 : decode cX1_single 31 = .ok (.getfield 38, 3) := by decide +kernel
set_option maxRecDepth 20000 in
theorem dX1_single_34 : decode cX1_single 34 = .ok (.iconst 1, 1) := by decide +kernel
set_option maxRecDepth 20000 in
theorem dX1_single_35 : decode cX1_single 35 = .ok (.iadd, 1) := by decide +kernel
set_option maxRecDepth 20000 in
theorem dX1_single_36 : decode cX1_single 36 = .ok (.putfield 38, 3) := by decide +kernel
set_option maxRecDepth 20000 in
theorem dX1_single_39 : decode cX1_single 39 = .ok (.iload_n 2, 1) := by decide +kernel
set_option maxRecDepth 20000 in
theorem dX1_single_40 : decode cX1_single 40 = .ok (.bipush 40, 2) := by decide +kernel
set_option maxRecDepth 20000 in
theorem dX1_single_42 : decode cX1_single 42 = .ok (.if_icmp .ne 28, 3) := by decide +kernel
set_option maxRecDepth 20000 in
theorem dX1_single_45 : decode cX1_single 45 = .ok (.aload_n 0, 1) := by decide +kernel
set_option maxRecDepth 20000 in
theorem dX1_single_46 : decode cX1_single 46 = .ok (.iload_n 1, 1) := by decide +kernel
set_option maxRecDepth 20000 in
theorem dX1_single_47 : decode cX1_single 47 = .ok (.iconst 1, 1) := by decide +kernel
set_option maxRecDepth 20000 in
theorem dX1_single_48 : decode cX1_single 48 = .ok (.iadd, 1) := by decide +kernel
set_option maxRecDepth 20000 in
theorem dX1_single_49 : decode cX1_single 49 = .ok (.invokevirtual 76, 3) := by decide +kernel
set_option maxRecDepth 20000 in
theorem dX1_single_52 : decode cX1_single 52 = .ok (.ifCond .eq 16, 3) := by decide +kernel
set_option maxRecDepth 20000 in
theorem dX1_single_55 : decode cX1_single 55 = .ok (.aload_n 0, 1) := by decide +kernel
set_option maxRecDepth 20000 in
theorem dX1_single_56 : decode cX1_single 56 = .ok (.bipush 41, 2) := by decide +kernel
set_option maxRecDepth 20000 in
theorem dX1_single_58 : decode cX1_single 58 = .ok (.invokevirtual 50, 3) := by decide +kernel
set_option maxRecDepth 20000 in
theorem dX1_single_61 : decode cX1_single 61 = .ok (.ifCond .eq 7, 3) := by decide +kernel
set_option maxRecDepth 20000 in
theorem dX1_single_64 : decode cX1_single 64 = .ok (.iconst 1, 1) := by decide +kernel
set_option maxRecDepth 20000 in
theorem dX1_single_65 : decode cX1_single 65 = .ok (.goto 4, 3) := by decide +kernel
set_option maxRecDepth 20000 in
theorem dX1_single_68 : decode cX1_single 68 = .ok (.iconst 0, 1) := by decide +kernel
set_option maxRecDepth 20000 in
theorem dX1_single_69 : decode cX1_single 69 = .ok (.ireturn, 1) := by decide +kernel
set_option maxRecDepth 20000 in
theorem dX1_single_70 : decode cX1_single 70 = .ok (.aload_n 0, 1) := by decide +kernel
set_option maxRecDepth 20000 in
theorem dX1_single_71 : decode cX1_single 71 = .ok (.iload_n 1, 1) := by decide +kernel
set_option maxRecDepth 20000 in
theorem dX1_single_72 : decode cX1_single 72 = .ok (.iconst 1, 1) := by decide +kernel
set_option maxRecDepth 20000 in
theorem dX1_single_73 : decode cX1_single 73 = .ok (.iadd, 1) := by decide +kernel
set_option maxRecDepth 20000 in
theorem dX1_single_74 : decode cX1_single 74 = .ok (.invokevirtual 95, 3) := by decide +kernel
set_option maxRecDepth 20000 in
theorem dX1_single_77 : decode cX1_single 77 = .ok (.ifCond .ne 5, 3) := by decide +kernel
set_option maxRecDepth 20000 in
theorem dX1_single_80 : decode cX1_single 80 = .ok (.iconst 0, 1) := by decide +kernel
set_option maxRecDepth 20000 in
theorem dX1_single_81 : decode cX1_single 81 = .ok (.ireturn, 1) := by decide +kernel
set_option maxRecDepth 20000 in
theorem dX1_single_82 : decode cX1_single 82 = .ok (.aload_n 0, 1) := by decide +kernel
set_option maxRecDepth 20000 in
theorem dX1_single_83 : decode cX1_single 83 = .ok (.iconst 3, 1) := by decide +kernel
set_option maxRecDepth 20000 in
theorem dX1_single_84 : decode cX1_single 84 = .ok (.iconst 0, 1) := by decide +kernel
set_option maxRecDepth 20000 in
theorem dX1_single_85 : decode cX1_single 85 = .ok (.iconst 0, 1) := by decide +kernel
set_option maxRecDepth 20000 in
theorem dX1_single_86 : decode cX1_single 86 = .ok (.invokevirtual 80, 3) := by decide +kernel
set_option maxRecDepth 20000 in
theorem dX1_single_89 : decode cX1_single 89 = .ok (.iconst 1, 1) := by decide +kernel
set_option maxRecDepth 20000 in
theorem dX1_single_90 : decode cX1_single 90 = .ok (.ireturn, 1) := by decide +kernel
set_option maxRecDepth 20000 in
theorem kt_X1_single_0 (g : gx_T) : ∀ q ∈ k_X1_single_0, gx_E g gc_md RX1 cX1_single 3 (some .boolean) "single" q.1 q.2 := List.forall_mem_cons.mpr ⟨(gs_aload_n dX1_single_0 rfl), List.forall_mem_cons.mpr ⟨
  (gs_cv dX1_single_1 (fun q hq => by
      simp only [List.mem_cons, List.not_mem_nil, or_false] at hq
      subst hq
      exact Or.inl ⟨_, rfl, by decide, by decide +kernel, by decide +kernel, List.forall_mem_cons.mpr ⟨gx_mem 585 (by decide +kernel) (by decide +kernel), List.forall_mem_cons.mpr ⟨gx_mem 587 (by decide +kernel) (by decide +kernel), List.forall_mem_cons.mpr ⟨gx_mem 8 (by decide +kernel) (by decide +kernel), List.forall_mem_cons.mpr ⟨gx_mem 86 (by decide +kernel) (by decide +kernel), List.forall_mem_cons.mpr ⟨cw_588, fun _ h => absurd h List.not_mem_nil⟩⟩⟩⟩⟩⟩)), List.forall_mem_cons.mpr ⟨
  (gs_istore_n dX1_single_4 rfl), List.forall_mem_cons.mpr ⟨
  (gs_iload_n dX1_single_5 rfl), List.forall_mem_cons.mpr ⟨
  (gs_bipush dX1_single_6 rfl), List.forall_mem_cons.mpr ⟨
  (gs_icmp_eq dX1_single_8 rfl), List.forall_mem_cons.mpr ⟨
  (gs_iload_n dX1_single_11 rfl), List.forall_mem_cons.mpr ⟨
  (gs_bipush dX1_single_12 rfl), List.forall_mem_cons.mpr ⟨
  (gs_icmp_eq dX1_single_14 rfl), List.forall_mem_cons.mpr ⟨
  (gs_aload_n dX1_single_17 rfl), List.forall_mem_cons.mpr ⟨
  (gs_cv dX1_single_18 (fun q hq => by
      simp only [List.mem_cons, List.not_mem_nil, or_false] at hq
      subst hq
      exact Or.inl ⟨_, rfl, by decide, by decide +kernel, by decide +kernel, List.forall_mem_cons.mpr ⟨gx_mem 664 (by decide +kernel) (by decide +kernel), List.forall_mem_cons.mpr ⟨gx_mem 666 (by decide +kernel) (by decide +kernel), List.forall_mem_cons.mpr ⟨gx_mem 14 (by decide +kernel) (by decide +kernel), List.forall_mem_cons.mpr ⟨gx_mem 86 (by decide +kernel) (by decide +kernel), List.forall_mem_cons.mpr ⟨cw_667, fun _ h => absurd h List.not_mem_nil⟩⟩⟩⟩⟩⟩)), List.forall_mem_cons.mpr ⟨
  (gs_rn dX1_single_21 (by decide)), List.forall_mem_cons.mpr ⟨
  (gs_iload_n dX1_single_22 rfl), List.forall_mem_cons.mpr ⟨
  (gs_iconst dX1_single_23 rfl), List.forall_mem_cons.mpr ⟨
  (gs_icmp_lt dX1_single_24 rfl), List.forall_mem_cons.mpr ⟨
  (gs_iconst dX1_single_27 rfl), List.forall_mem_cons.mpr ⟨
  (gs_rn dX1_single_28 (by decide)), List.forall_mem_cons.mpr ⟨
  (gs_aload_n dX1_single_29 rfl), List.forall_mem_cons.mpr ⟨
  (gs_dup dX1_single_30), List.forall_mem_cons.mpr ⟨
  (gs_gf (ref := "GriefCranes$Firm") dX1_single_31 (gx_mem 158 (by decide +kernel) (by decide +kernel)) (Or.inl rfl) gf_1_8), List.forall_mem_cons.mpr ⟨
  (gs_iconst dX1_single_34 rfl), List.forall_mem_cons.mpr ⟨
  (gs_iadd dX1_single_35), List.forall_mem_cons.mpr ⟨
  (gs_pf (ref := "GriefCranes$Firm") dX1_single_36 (gx_mem 158 (by decide +kernel) (by decide +kernel)) (Or.inl rfl) gf_1_8 (by decide +kernel)), List.forall_mem_cons.mpr ⟨
  (gs_iload_n dX1_single_39 rfl), List.forall_mem_cons.mpr ⟨
  (gs_bipush dX1_single_40 rfl), List.forall_mem_cons.mpr ⟨
  (gs_icmp_ne dX1_single_42 rfl), List.forall_mem_cons.mpr ⟨
  (gs_aload_n dX1_single_45 rfl), List.forall_mem_cons.mpr ⟨
  (gs_iload_n dX1_single_46 rfl), List.forall_mem_cons.mpr ⟨
  (gs_iconst dX1_single_47 rfl), List.forall_mem_cons.mpr ⟨
  (gs_iadd dX1_single_48), List.forall_mem_cons.mpr ⟨
  (gs_cv dX1_single_49 (fun q hq => by
      simp only [List.mem_cons, List.not_mem_nil, or_false] at hq
      subst hq
      exact Or.inl ⟨_, rfl, by decide, by decide +kernel, by decide +kernel, List.forall_mem_cons.mpr ⟨gx_mem 656 (by decide +kernel) (by decide +kernel), List.forall_mem_cons.mpr ⟨gx_mem 658 (by decide +kernel) (by decide +kernel), List.forall_mem_cons.mpr ⟨gx_mem 12 (by decide +kernel) (by decide +kernel), List.forall_mem_cons.mpr ⟨gx_mem 86 (by decide +kernel) (by decide +kernel), List.forall_mem_cons.mpr ⟨cw_659, fun _ h => absurd h List.not_mem_nil⟩⟩⟩⟩⟩⟩)), List.forall_mem_cons.mpr ⟨
  (gs_if_eq dX1_single_52 rfl), fun _ h => absurd h List.not_mem_nil⟩⟩⟩⟩⟩⟩⟩⟩⟩⟩⟩⟩⟩⟩⟩⟩⟩⟩⟩⟩⟩⟩⟩⟩⟩⟩⟩⟩⟩⟩⟩⟩
set_option maxRecDepth 20000 in
theorem kt_X1_single_1 (g : gx_T) : ∀ q ∈ k_X1_single_1, gx_E g gc_md RX1 cX1_single 3 (some .boolean) "single" q.1 q.2 := List.forall_mem_cons.mpr ⟨(gs_aload_n dX1_single_55 rfl), List.forall_mem_cons.mpr ⟨
  (gs_bipush dX1_single_56 rfl), List.forall_mem_cons.mpr ⟨
  (gs_cv dX1_single_58 (fun q hq => by
      simp only [List.mem_cons, List.not_mem_nil, or_false] at hq
      subst hq
      exact Or.inl ⟨_, rfl, by decide, by decide +kernel, by decide +kernel, List.forall_mem_cons.mpr ⟨gx_mem 581 (by decide +kernel) (by decide +kernel), List.forall_mem_cons.mpr ⟨gx_mem 583 (by decide +kernel) (by decide +kernel), List.forall_mem_cons.mpr ⟨gx_mem 7 (by decide +kernel) (by decide +kernel), List.forall_mem_cons.mpr ⟨gx_mem 86 (by decide +kernel) (by decide +kernel), List.forall_mem_cons.mpr ⟨cw_584, fun _ h => absurd h List.not_mem_nil⟩⟩⟩⟩⟩⟩)), List.forall_mem_cons.mpr ⟨
  (gs_if_eq dX1_single_61 rfl), List.forall_mem_cons.mpr ⟨
  (gs_iconst dX1_single_64 rfl), List.forall_mem_cons.mpr ⟨
  (gs_goto dX1_single_65 rfl), List.forall_mem_cons.mpr ⟨
  (gs_iconst dX1_single_68 rfl), List.forall_mem_cons.mpr ⟨
  (gs_rn dX1_single_69 (by decide)), List.forall_mem_cons.mpr ⟨
  (gs_aload_n dX1_single_70 rfl), List.forall_mem_cons.mpr ⟨
  (gs_iload_n dX1_single_71 rfl), List.forall_mem_cons.mpr ⟨
  (gs_iconst dX1_single_72 rfl), List.forall_mem_cons.mpr ⟨
  (gs_iadd dX1_single_73), List.forall_mem_cons.mpr ⟨
  (gs_cv dX1_single_74 (fun q hq => by
      simp only [List.mem_cons, List.not_mem_nil, or_false] at hq
      subst hq
      exact Or.inl ⟨_, rfl, by decide, by decide +kernel, by decide +kernel, List.forall_mem_cons.mpr ⟨gx_mem 660 (by decide +kernel) (by decide +kernel), List.forall_mem_cons.mpr ⟨gx_mem 662 (by decide +kernel) (by decide +kernel), List.forall_mem_cons.mpr ⟨gx_mem 13 (by decide +kernel) (by decide +kernel), List.forall_mem_cons.mpr ⟨gx_mem 86 (by decide +kernel) (by decide +kernel), List.forall_mem_cons.mpr ⟨cw_663, fun _ h => absurd h List.not_mem_nil⟩⟩⟩⟩⟩⟩)), List.forall_mem_cons.mpr ⟨
  (gs_if_ne dX1_single_77 rfl), List.forall_mem_cons.mpr ⟨
  (gs_iconst dX1_single_80 rfl), List.forall_mem_cons.mpr ⟨
  (gs_rn dX1_single_81 (by decide)), List.forall_mem_cons.mpr ⟨
  (gs_aload_n dX1_single_82 rfl), List.forall_mem_cons.mpr ⟨
  (gs_iconst dX1_single_83 rfl), List.forall_mem_cons.mpr ⟨
  (gs_iconst dX1_single_84 rfl), List.forall_mem_cons.mpr ⟨
  (gs_iconst dX1_single_85 rfl), List.forall_mem_cons.mpr ⟨
  (gs_cv dX1_single_86 (fun q hq => by
      simp only [List.mem_cons, List.not_mem_nil, or_false] at hq
      subst hq
      exact Or.inl ⟨_, rfl, by decide, by decide +kernel, by decide +kernel, List.forall_mem_cons.mpr ⟨gx_mem 729 (by decide +kernel) (by decide +kernel), List.forall_mem_cons.mpr ⟨gx_mem 731 (by decide +kernel) (by decide +kernel), List.forall_mem_cons.mpr ⟨gx_mem 16 (by decide +kernel) (by decide +kernel), List.forall_mem_cons.mpr ⟨gx_mem 86 (by decide +kernel) (by decide +kernel), List.forall_mem_cons.mpr ⟨cw_732, fun _ h => absurd h List.not_mem_nil⟩⟩⟩⟩⟩⟩)), List.forall_mem_cons.mpr ⟨
  (gs_iconst dX1_single_89 rfl), List.forall_mem_cons.mpr ⟨
  (gs_rn dX1_single_90 (by decide)), fun _ h => absurd h List.not_mem_nil⟩⟩⟩⟩⟩⟩⟩⟩⟩⟩⟩⟩⟩⟩⟩⟩⟩⟩⟩⟩⟩⟩⟩
theorem kt_X1_single (g : gx_T) : ∀ q ∈ k_X1_single, gx_E g gc_md RX1 cX1_single 3 (some .boolean) "single" q.1 q.2 := List.forall_mem_append.mpr ⟨kt_X1_single_0 g, kt_X1_single_1 g⟩
set_option maxRecDepth 20000 in
theorem dX1_test_0 : decode cX1_test 0 = .ok (.aload_n 0, 1) := by decide +kernel
set_option maxRecDepth 20000 in
theorem dX1_test_1 : decode cX1_test 1 = .ok (.ldc 101, 2) := by decide +kernel
set_option maxRecDepth 20000 in
theorem dX1_test_3 : decode cX1_test 3 = .ok (.invokevirtual 103, 3) := by decide +kernel
set_option maxRecDepth 20000 in
theorem dX1_test_6 : decode cX1_test 6 = .ok (.istore_n 1, 1) := by decide +kernel
set_option maxRecDepth 20000 in
theorem dX1_test_7 : decode cX1_test 7 = .ok (.iload_n 1, 1) := by decide +kernel
set_option maxRecDepth 20000 in
theorem dX1_test_8 : decode cX1_test 8 = .ok (.ifCond .ge 5, 3) := by decide +kernel
set_option maxRecDepth 20000 in
theorem dX1_test_11 : decode cX1_test 11 = .ok (.iconst 0, 1) := by decide +kernel
set_option maxRecDepth 20000 in
theorem dX1_test_12 : decode cX1_test 12 = .ok (.ireturn, 1) := by decide +kernel
set_option maxRecDepth 20000 in
theorem dX1_test_13 : decode cX1_test 13 = .ok (.aload_n 0, 1) := by decide +kernel
set_option maxRecDepth 20000 in
theorem dX1_test_14 : decode cX1_test 14 = .ok (.dup, 1) := by decide +kernel
set_option maxRecDepth 20000 in
theorem dX1_test_15 : decode cX1_test 15 = .ok (.getfield 38, 3) := by decide +kernel
set_option maxRecDepth 20000 in
theorem dX1_test_18 : decode cX1_test 18 = .ok (.iconst 1, 1) := by decide +kernel
set_option maxRecDepth 20000 in
theorem dX1_test_19 : decode cX1_test 19 = .ok (.iadd, 1) := by decide +kernel
set_option maxRecDepth 20000 in
theorem dX1_test_20 : decode cX1_test 20 = .ok (.putfield 38, 3) := by decide +kernel
set_option maxRecDepth 20000 in
theorem dX1_test_23 : decode cX1_test 23 = .ok (.aload_n 0, 1) := by decide +kernel
set_option maxRecDepth 20000 in
theorem dX1_test_24 : decode cX1_test 24 = .ok (.ldc 107, 2) := by decide +kernel
set_option maxRecDepth 20000 in
theorem dX1_test_26 : decode cX1_test 26 = .ok (.invokevirtual 103, 3) := by decide +kernel
set_option maxRecDepth 20000 in
theorem dX1_test_29 : decode cX1_test 29 = .ok (.istore_n 2, 1) := by decide +kernel
set_option maxRecDepth 20000 in
theorem dX1_test_30 : decode cX1_test 30 = .ok (.iload_n 2, 1) := by decide +kernel
set_option maxRecDepth 20000 in
theorem dX1_test_31 : decode cX1_test 31 = .ok (.ifCond .ge 5, 3) := by decide +kernel
set_option maxRecDepth 20000 in
theorem dX1_test_34 : decode cX1_test 34 = .ok (.iconst 0, 1) := by decide +kernel
set_option maxRecDepth 20000 in
theorem dX1_test_35 : decode cX1_test 35 = .ok (.ireturn, 1) := by decide +kernel
set_option maxRecDepth 20000 in
theorem dX1_test_36 : decode cX1_test 36 = .ok (.aload_n 0, 1) := by decide +kernel
set_option maxRecDepth 20000 in
theorem dX1_test_37 : decode cX1_test 37 = .ok (.dup, 1) := by decide +kernel
set_option maxRecDepth 20000 in
theorem dX1_test_38 : decode cX1_test 38 = .ok (.getfield 38, 3) := by decide +kernel
set_option maxRecDepth 20000 in
theorem dX1_test_41 : decode cX1_test 41 = .ok (.iconst 1, 1) := by decide +kernel
set_option maxRecDepth 20000 in
theorem dX1_test_42 : decode cX1_test 42 = .ok (.iadd, 1) := by decide +kernel
set_option maxRecDepth 20000 in
theorem dX1_test_43 : decode cX1_test 43 = .ok (.putfield 38, 3) := by decide +kernel
set_option maxRecDepth 20000 in
theorem dX1_test_46 : decode cX1_test 46 = .ok (.aload_n 0, 1) := by decide +kernel
set_option maxRecDepth 20000 in
theorem dX1_test_47 : decode cX1_test 47 = .ok (.invokevirtual 92, 3) := by decide +kernel
set_option maxRecDepth 20000 in
theorem dX1_test_50 : decode cX1_test 50 = .ok (.ifCond .ne 5, 3) := by decide +kernel
set_option maxRecDepth 20000 in
theorem dX1_test_53 : decode cX1_test 53 = .ok (.iconst 0, 1) := by decide +kernel
set_option maxRecDepth 20000 in
theorem dX1_test_54 : decode cX1_test 54 = .ok (.ireturn, 1) := by decide +kernel
set_option maxRecDepth 20000 in
theorem dX1_test_55 : decode cX1_test 55 = .ok (.aload_n 0, 1) := by decide +kernel
set_option maxRecDepth 20000 in
theorem dX1_test_56 : decode cX1_test 56 = .ok (.iload_n 2, 1) := by decide +kernel
set_option maxRecDepth 20000 in
theorem dX1_test_57 : decode cX1_test 57 = .ok (.iload_n 1, 1) := by decide +kernel
set_option maxRecDepth 20000 in
theorem dX1_test_58 : decode cX1_test 58 = .ok (.aload_n 0, 1) := by decide +kernel
set_option maxRecDepth 20000 in
theorem dX1_test_59 : decode cX1_test 59 = .ok (.getfield 41, 3) := by decide +kernel
set_option maxRecDepth 20000 in
theorem dX1_test_62 : decode cX1_test 62 = .ok (.invokevirtual 80, 3) := by decide +kernel
set_option maxRecDepth 20000 in
theorem dX1_test_65 : decode cX1_test 65 = .ok (.iconst 1, 1) := by decide +kernel
set_option maxRecDepth 20000 in
theorem dX1_test_66 : decode cX1_test 66 = .ok (.ireturn, 1) := by decide +kernel
set_option maxRecDepth 20000 in
theorem kt_X1_test_0 (g : gx_T) : ∀ q ∈ k_X1_test_0, gx_E g gc_md RX1 cX1_test 3 (some .boolean) "test" q.1 q.2 := List.forall_mem_cons.mpr ⟨(gs_aload_n dX1_test_0 rfl), List.forall_mem_cons.mpr ⟨
  (gs_ldcS (q := (101, "pkvxgh", 4)) dX1_test_1 rfl (by decide +kernel)), List.forall_mem_cons.mpr ⟨
  (gs_cv dX1_test_3 (fun q hq => by
      simp only [List.mem_cons, List.not_mem_nil, or_false] at hq
      subst hq
      exact Or.inl ⟨_, rfl, by decide, by decide +kernel, by decide +kernel, List.forall_mem_cons.mpr ⟨gx_mem 669 (by decide +kernel) (by decide +kernel), List.forall_mem_cons.mpr ⟨gx_mem 671 (by decide +kernel) (by decide +kernel), List.forall_mem_cons.mpr ⟨gx_mem 15 (by decide +kernel) (by decide +kernel), List.forall_mem_cons.mpr ⟨gx_mem 86 (by decide +kernel) (by decide +kernel), List.forall_mem_cons.mpr ⟨cw_672, fun _ h => absurd h List.not_mem_nil⟩⟩⟩⟩⟩⟩)), List.forall_mem_cons.mpr ⟨
  (gs_istore_n dX1_test_6 rfl), List.forall_mem_cons.mpr ⟨
  (gs_iload_n dX1_test_7 rfl), List.forall_mem_cons.mpr ⟨
  (gs_if_ge dX1_test_8 rfl), List.forall_mem_cons.mpr ⟨
  (gs_iconst dX1_test_11 rfl), List.forall_mem_cons.mpr ⟨
  (gs_rn dX1_test_12 (by decide)), List.forall_mem_cons.mpr ⟨
  (gs_aload_n dX1_test_13 rfl), List.forall_mem_cons.mpr ⟨
  (gs_dup dX1_test_14), List.forall_mem_cons.mpr ⟨
  (gs_gf (ref := "GriefCranes$Firm") dX1_test_15 (gx_mem 158 (by decide +kernel) (by decide +kernel)) (Or.inl rfl) gf_1_8), List.forall_mem_cons.mpr ⟨
  (gs_iconst dX1_test_18 rfl), List.forall_mem_cons.mpr ⟨
  (gs_iadd dX1_test_19), List.forall_mem_cons.mpr ⟨
  (gs_pf (ref := "GriefCranes$Firm") dX1_test_20 (gx_mem 158 (by decide +kernel) (by decide +kernel)) (Or.inl rfl) gf_1_8 (by decide +kernel)), List.forall_mem_cons.mpr ⟨
  (gs_aload_n dX1_test_23 rfl), List.forall_mem_cons.mpr ⟨
  (gs_ldcS (q := (107, "<=>", 5)) dX1_test_24 rfl (by decide +kernel)), List.forall_mem_cons.mpr ⟨
  (gs_cv dX1_test_26 (fun q hq => by
      simp only [List.mem_cons, List.not_mem_nil, or_false] at hq
      subst hq
      exact Or.inl ⟨_, rfl, by decide, by decide +kernel, by decide +kernel, List.forall_mem_cons.mpr ⟨gx_mem 669 (by decide +kernel) (by decide +kernel), List.forall_mem_cons.mpr ⟨gx_mem 671 (by decide +kernel) (by decide +kernel), List.forall_mem_cons.mpr ⟨gx_mem 15 (by decide +kernel) (by decide +kernel), List.forall_mem_cons.mpr ⟨gx_mem 86 (by decide +kernel) (by decide +kernel), List.forall_mem_cons.mpr ⟨cw_672, fun _ h => absurd h List.not_mem_nil⟩⟩⟩⟩⟩⟩)), List.forall_mem_cons.mpr ⟨
  (gs_istore_n dX1_test_29 rfl), List.forall_mem_cons.mpr ⟨
  (gs_iload_n dX1_test_30 rfl), List.forall_mem_cons.mpr ⟨
  (gs_if_ge dX1_test_31 rfl), List.forall_mem_cons.mpr ⟨
  (gs_iconst dX1_test_34 rfl), List.forall_mem_cons.mpr ⟨
  (gs_rn dX1_test_35 (by decide)), List.forall_mem_cons.mpr ⟨
  (gs_aload_n dX1_test_36 rfl), List.forall_mem_cons.mpr ⟨
  (gs_dup dX1_test_37), List.forall_mem_cons.mpr ⟨
  (gs_gf (ref := "GriefCranes$Firm") dX1_test_38 (gx_mem 158 (by decide +kernel) (by decide +kernel)) (Or.inl rfl) gf_1_8), List.forall_mem_cons.mpr ⟨
  (gs_iconst dX1_test_41 rfl), List.forall_mem_cons.mpr ⟨
  (gs_iadd dX1_test_42), List.forall_mem_cons.mpr ⟨
  (gs_pf (ref := "GriefCranes$Firm") dX1_test_43 (gx_mem 158 (by decide +kernel) (by decide +kernel)) (Or.inl rfl) gf_1_8 (by decide +kernel)), List.forall_mem_cons.mpr ⟨
  (gs_aload_n dX1_test_46 rfl), List.forall_mem_cons.mpr ⟨
  (gs_cv dX1_test_47 (fun q hq => by
      simp only [List.mem_cons, List.not_mem_nil, or_false] at hq
      subst hq
      exact Or.inl ⟨_, rfl, by decide, by decide +kernel, by decide +kernel, List.forall_mem_cons.mpr ⟨gx_mem 647 (by decide +kernel) (by decide +kernel), List.forall_mem_cons.mpr ⟨gx_mem 649 (by decide +kernel) (by decide +kernel), List.forall_mem_cons.mpr ⟨gx_mem 11 (by decide +kernel) (by decide +kernel), List.forall_mem_cons.mpr ⟨gx_mem 86 (by decide +kernel) (by decide +kernel), List.forall_mem_cons.mpr ⟨cw_650, fun _ h => absurd h List.not_mem_nil⟩⟩⟩⟩⟩⟩)), List.forall_mem_cons.mpr ⟨
  (gs_if_ne dX1_test_50 rfl), List.forall_mem_cons.mpr ⟨
  (gs_iconst dX1_test_53 rfl), fun _ h => absurd h List.not_mem_nil⟩⟩⟩⟩⟩⟩⟩⟩⟩⟩⟩⟩⟩⟩⟩⟩⟩⟩⟩⟩⟩⟩⟩⟩⟩⟩⟩⟩⟩⟩⟩⟩
set_option maxRecDepth 20000 in
theorem kt_X1_test_1 (g : gx_T) : ∀ q ∈ k_X1_test_1, gx_E g gc_md RX1 cX1_test 3 (some .boolean) "test" q.1 q.2 := List.forall_mem_cons.mpr ⟨(gs_rn dX1_test_54 (by decide)), List.forall_mem_cons.mpr ⟨
  (gs_aload_n dX1_test_55 rfl), List.forall_mem_cons.mpr ⟨
  (gs_iload_n dX1_test_56 rfl), List.forall_mem_cons.mpr ⟨
  (gs_iload_n dX1_test_57 rfl), List.forall_mem_cons.mpr ⟨
  (gs_aload_n dX1_test_58 rfl), List.forall_mem_cons.mpr ⟨
  (gs_gf (ref := "GriefCranes$Firm") dX1_test_59 (gx_mem 159 (by decide +kernel) (by decide +kernel)) (Or.inl rfl) gf_1_9), List.forall_mem_cons.mpr ⟨
  (gs_cv dX1_test_62 (fun q hq => by
      simp only [List.mem_cons, List.not_mem_nil, or_false] at hq
      subst hq
      exact Or.inl ⟨_, rfl, by decide, by decide +kernel, by decide +kernel, List.forall_mem_cons.mpr ⟨gx_mem 729 (by decide +kernel) (by decide +kernel), List.forall_mem_cons.mpr ⟨gx_mem 731 (by decide +kernel) (by decide +kernel), List.forall_mem_cons.mpr ⟨gx_mem 16 (by decide +kernel) (by decide +kernel), List.forall_mem_cons.mpr ⟨gx_mem 86 (by decide +kernel) (by decide +kernel), List.forall_mem_cons.mpr ⟨cw_732, fun _ h => absurd h List.not_mem_nil⟩⟩⟩⟩⟩⟩)), List.forall_mem_cons.mpr ⟨
  (gs_iconst dX1_test_65 rfl), List.forall_mem_cons.mpr ⟨
  (gs_rn dX1_test_66 (by decide)), fun _ h => absurd h List.not_mem_nil⟩⟩⟩⟩⟩⟩⟩⟩⟩
theorem kt_X1_test (g : gx_T) : ∀ q ∈ k_X1_test, gx_E g gc_md RX1 cX1_test 3 (some .boolean) "test" q.1 q.2 := List.forall_mem_append.mpr ⟨kt_X1_test_0 g, kt_X1_test_1 g⟩
set_option maxRecDepth 20000 in
theorem dX1_readNumber_0 : decode cX1_readNumber 0 = .ok (.aload_n 0, 1) := by decide +kernel
set_option maxRecDepth 20000 in
theorem dX1_readNumber_1 : decode cX1_readNumber 1 = .ok (.invokevirtual 62, 3) := by decide +kernel
set_option maxRecDepth 20000 in
theorem dX1_readNumber_4 : decode cX1_readNumber 4 = .ok (.invokestatic 109, 3) := by decide +kernel
set_option maxRecDepth 20000 in
theorem dX1_readNumber_7 : decode cX1_readNumber 7 = .ok (.ifCond .ne 5, 3) := by decide +kernel
set_option maxRecDepth 20000 in
theorem dX1_readNumber_10 : decode cX1_readNumber 10 = .ok (.iconst 0, 1) := by decide +kernel
set_option maxRecDepth 20000 in
theorem dX1_readNumber_11 : decode cX1_readNumber 11 = .ok (.ireturn, 1) := by decide +kernel
set_option maxRecDepth 20000 in
theorem dX1_readNumber_12 : decode cX1_readNumber 12 = .ok (.aload_n 0, 1) := by decide +kernel
set_option maxRecDepth 20000 in
theorem dX1_readNumber_13 : decode cX1_readNumber 13 = .ok (.aload_n 0, 1) := by decide +kernel
set_option maxRecDepth 20000 in
theorem dX1_readNumber_14 : decode cX1_readNumber 14 = .ok (.invokevirtual 62, 3) := by decide +kernel
set_option maxRecDepth 20000 in
theorem dX1_readNumber_17 : decode cX1_readNumber 17 = .ok (.bipush 48, 2) := by decide +kernel
set_option maxRecDepth 20000 in
theorem dX1_readNumber_19 : decode cX1_readNumber 19 = .ok (.isub, 1) := by decide +kernel
set_option maxRecDepth 20000 in
theorem dX1_readNumber_20 : decode cX1_readNumber 20 = .ok (.putfield 41, 3) := by decide +kernel
set_option maxRecDepth 20000 in
theorem dX1_readNumber_23 : decode cX1_readNumber 23 = .ok (.aload_n 0, 1) := by decide +kernel
set_option maxRecDepth 20000 in
theorem dX1_readNumber_24 : decode cX1_readNumber 24 = .ok (.dup, 1) := by decide +kernel
set_option maxRecDepth 20000 in
theorem dX1_readNumber_25 : decode cX1_readNumber 25 = .ok (.getfield 38, 3) := by decide +kernel
set_option maxRecDepth 20000 in
theorem dX1_readNumber_28 : decode cX1_readNumber 28 = .ok (.iconst 1, 1) := by decide +kernel
set_option maxRecDepth 20000 in
theorem dX1_readNumber_29 : decode cX1_readNumber 29 = .ok (.iadd, 1) := by decide +kernel
set_option maxRecDepth 20000 in
theorem dX1_readNumber_30 : decode cX1_readNumber 30 = .ok (.putfield 38, 3) := by decide +kernel
set_option maxRecDepth 20000 in
theorem dX1_readNumber_33 : decode cX1_readNumber 33 = .ok (.aload_n 0, 1) := by decide +kernel
set_option maxRecDepth 20000 in
theorem dX1_readNumber_34 : decode cX1_readNumber 34 = .ok (.invokevirtual 62, 3) := by decide +kernel
set_option maxRecDepth 20000 in
theorem dX1_readNumber_37 : decode cX1_readNumber 37 = .ok (.invokestatic 109, 3) := by decide +kernel
set_option maxRecDepth 20000 in
theorem dX1_readNumber_40 : decode cX1_readNumber 40 = .ok (.ifCond .eq 32, 3) := by decide +kernel
set_option maxRecDepth 20000 in
theorem dX1_readNumber_43 : decode cX1_readNumber 43 = .ok (.aload_n 0, 1) := by decide +kernel
set_option maxRecDepth 20000 in
theorem dX1_readNumber_44 : decode cX1_readNumber 44 = .ok (.aload_n 0, 1) := by decide +kernel
set_option maxRecDepth 20000 in
theorem dX1_readNumber_45 : decode cX1_readNumber 45 = .ok (.getfield 41, 3) := by decide +kernel
set_option maxRecDepth 20000 in
theorem dX1_readNumber_48 : decode cX1_readNumber 48 = .ok (.bipush 10, 2) := by decide +kernel
set_option maxRecDepth 20000 in
theorem dX1_readNumber_50 : decode cX1_readNumber 50 = .ok (.imul, 1) := by decide +kernel
set_option maxRecDepth 20000 in
theorem dX1_readNumber_51 : decode cX1_readNumber 51 = .ok (.aload_n 0, 1) := by decide +kernel
set_option maxRecDepth 20000 in
theorem dX1_readNumber_52 : decode cX1_readNumber 52 = .ok (.invokevirtual 62, 3) := by decide +kernel
set_option maxRecDepth 20000 in
theorem dX1_readNumber_55 : decode cX1_readNumber 55 = .ok (.iadd, 1) := by decide +kernel
set_option maxRecDepth 20000 in
theorem dX1_readNumber_56 : decode cX1_readNumber 56 = .ok (.bipush 48, 2) := by decide +kernel
set_option maxRecDepth 20000 in
theorem dX1_readNumber_58 : decode cX1_readNumber 58 = .ok (.isub, 1) := by decide +kernel
set_option maxRecDepth 20000 in
theorem dX1_readNumber_59 : decode cX1_readNumber 59 = .ok (.putfield 41, 3) := by decide +kernel
set_option maxRecDepth 20000 in
theorem dX1_readNumber_62 : decode cX1_readNumber 62 = .ok (.aload_n 0, 1) := by decide +kernel
set_option maxRecDepth 20000 in
theorem dX1_readNumber_63 : decode cX1_readNumber 63 = .ok (.dup, 1) := by decide +kernel
set_option maxRecDepth 20000 in
theorem dX1_readNumber_64 : decode cX1_readNumber 64 = .ok (.getfield 38, 3) := by decide +kernel
set_option maxRecDepth 20000 in
theorem dX1_readNumber_67 : decode cX1_readNumber 67 = .ok (.iconst 1, 1) := by decide +kernel
set_option maxRecDepth 20000 in
theorem dX1_readNumber_68 : decode cX1_readNumber 68 = .ok (.iadd, 1) := by decide +kernel
set_option maxRecDepth 20000 in
theorem dX1_readNumber_69 : decode cX1_readNumber 69 = .ok (.putfield 38, 3) := by decide +kernel
set_option maxRecDepth 20000 in
theorem dX1_readNumber_72 : decode cX1_readNumber 72 = .ok (.iconst 1, 1) := by decide +kernel
set_option maxRecDepth 20000 in
theorem dX1_readNumber_73 : decode cX1_readNumber 73 = .ok (.ireturn, 1) := by decide +kernel
set_option maxRecDepth 20000 in
theorem kt_X1_readNumber_0 (g : gx_T) : ∀ q ∈ k_X1_readNumber_0, gx_E g gc_md RX1 cX1_readNumber 1 (some .boolean) "readNumber" q.1 q.2 := List.forall_mem_cons.mpr ⟨(gs_aload_n dX1_readNumber_0 rfl), List.forall_mem_cons.mpr ⟨
  (gs_cv dX1_readNumber_1 (fun q hq => by
      simp only [List.mem_cons, List.not_mem_nil, or_false] at hq
      subst hq
      exact Or.inl ⟨_, rfl, by decide, by decide +kernel, by decide +kernel, List.forall_mem_cons.mpr ⟨gx_mem 585 (by decide +kernel) (by decide +kernel), List.forall_mem_cons.mpr ⟨gx_mem 587 (by decide +kernel) (by decide +kernel), List.forall_mem_cons.mpr ⟨gx_mem 8 (by decide +kernel) (by decide +kernel), List.forall_mem_cons.mpr ⟨gx_mem 86 (by decide +kernel) (by decide +kernel), List.forall_mem_cons.mpr ⟨cw_588, fun _ h => absurd h List.not_mem_nil⟩⟩⟩⟩⟩⟩)), List.forall_mem_cons.mpr ⟨
  (gs_cs dX1_readNumber_4 (md_18) (List.forall_mem_cons.mpr ⟨gx_mem 651 (by decide +kernel) (by decide +kernel), List.forall_mem_cons.mpr ⟨gx_mem 652 (by decide +kernel) (by decide +kernel), List.forall_mem_cons.mpr ⟨gx_mem 86 (by decide +kernel) (by decide +kernel), List.forall_mem_cons.mpr ⟨cw_653, fun _ h => absurd h List.not_mem_nil⟩⟩⟩⟩) (by decide +kernel) (by decide)), List.forall_mem_cons.mpr ⟨
  (gs_if_ne dX1_readNumber_7 rfl), List.forall_mem_cons.mpr ⟨
  (gs_iconst dX1_readNumber_10 rfl), List.forall_mem_cons.mpr ⟨
  (gs_rn dX1_readNumber_11 (by decide)), List.forall_mem_cons.mpr ⟨
  (gs_aload_n dX1_readNumber_12 rfl), List.forall_mem_cons.mpr ⟨
  (gs_aload_n dX1_readNumber_13 rfl), List.forall_mem_cons.mpr ⟨
  (gs_cv dX1_readNumber_14 (fun q hq => by
      simp only [List.mem_cons, List.not_mem_nil, or_false] at hq
      subst hq
      exact Or.inl ⟨_, rfl, by decide, by decide +kernel, by decide +kernel, List.forall_mem_cons.mpr ⟨gx_mem 585 (by decide +kernel) (by decide +kernel), List.forall_mem_cons.mpr ⟨gx_mem 587 (by decide +kernel) (by decide +kernel), List.forall_mem_cons.mpr ⟨gx_mem 8 (by decide +kernel) (by decide +kernel), List.forall_mem_cons.mpr ⟨gx_mem 86 (by decide +kernel) (by decide +kernel), List.forall_mem_cons.mpr ⟨cw_588, fun _ h => absurd h List.not_mem_nil⟩⟩⟩⟩⟩⟩)), List.forall_mem_cons.mpr ⟨
  (gs_bipush dX1_readNumber_17 rfl), List.forall_mem_cons.mpr ⟨
  (gs_isub dX1_readNumber_19), List.forall_mem_cons.mpr ⟨
  (gs_pf (ref := "GriefCranes$Firm") dX1_readNumber_20 (gx_mem 159 (by decide +kernel) (by decide +kernel)) (Or.inl rfl) gf_1_9 (by decide +kernel)), List.forall_mem_cons.mpr ⟨
  (gs_aload_n dX1_readNumber_23 rfl), List.forall_mem_cons.mpr ⟨
  (gs_dup dX1_readNumber_24), List.forall_mem_cons.mpr ⟨
  (gs_gf (ref := "GriefCranes$Firm") dX1_readNumber_25 (gx_mem 158 (by decide +kernel) (by decide +kernel)) (Or.inl rfl) gf_1_8), List.forall_mem_cons.mpr ⟨
  (gs_iconst dX1_readNumber_28 rfl), List.forall_mem_cons.mpr ⟨
  (gs_iadd dX1_readNumber_29), List.forall_mem_cons.mpr ⟨
  (gs_pf (ref := "GriefCranes$Firm") dX1_readNumber_30 (gx_mem 158 (by decide +kernel) (by decide +kernel)) (Or.inl rfl) gf_1_8 (by decide +kernel)), List.forall_mem_cons.mpr ⟨
  (gs_aload_n dX1_readNumber_33 rfl), List.forall_mem_cons.mpr ⟨
  (gs_cv dX1_readNumber_34 (fun q hq => by
      simp only [List.mem_cons, List.not_mem_nil, or_false] at hq
      subst hq
      exact Or.inl ⟨_, rfl, by decide, by decide +kernel, by decide +kernel, List.forall_mem_cons.mpr ⟨gx_mem 585 (by decide +kernel) (by decide +kernel), List.forall_mem_cons.mpr ⟨gx_mem 587 (by decide +kernel) (by decide +kernel), List.forall_mem_cons.mpr ⟨gx_mem 8 (by decide +kernel) (by decide +kernel), List.forall_mem_cons.mpr ⟨gx_mem 86 (by decide +kernel) (by decide +kernel), List.forall_mem_cons.mpr ⟨cw_588, fun _ h => absurd h List.not_mem_nil⟩⟩⟩⟩⟩⟩)), List.forall_mem_cons.mpr ⟨
  (gs_cs dX1_readNumber_37 (md_18) (List.forall_mem_cons.mpr ⟨gx_mem 651 (by decide +kernel) (by decide +kernel), List.forall_mem_cons.mpr ⟨gx_mem 652 (by decide +kernel) (by decide +kernel), List.forall_mem_cons.mpr ⟨gx_mem 86 (by decide +kernel) (by decide +kernel), List.forall_mem_cons.mpr ⟨cw_653, fun _ h => absurd h List.not_mem_nil⟩⟩⟩⟩) (by decide +kernel) (by decide)), List.forall_mem_cons.mpr ⟨
  (gs_if_eq dX1_readNumber_40 rfl), List.forall_mem_cons.mpr ⟨
  (gs_aload_n dX1_readNumber_43 rfl), List.forall_mem_cons.mpr ⟨
  (gs_aload_n dX1_readNumber_44 rfl), List.forall_mem_cons.mpr ⟨
  (gs_gf (ref := "GriefCranes$Firm") dX1_readNumber_45 (gx_mem 159 (by decide +kernel) (by decide +kernel)) (Or.inl rfl) gf_1_9), List.forall_mem_cons.mpr ⟨
  (gs_bipush dX1_readNumber_48 rfl), List.forall_mem_cons.mpr ⟨
  (gs_imul dX1_readNumber_50), List.forall_mem_cons.mpr ⟨
  (gs_aload_n dX1_readNumber_51 rfl), List.forall_mem_cons.mpr ⟨
  (gs_cv dX1_readNumber_52 (fun q hq => by
      simp only [List.mem_cons, List.not_mem_nil, or_false] at hq
      subst hq
      exact Or.inl ⟨_, rfl, by decide, by decide +kernel, by decide +kernel, List.forall_mem_cons.mpr ⟨gx_mem 585 (by decide +kernel) (by decide +kernel), List.forall_mem_cons.mpr ⟨gx_mem 587 (by decide +kernel) (by decide +kernel), List.forall_mem_cons.mpr ⟨gx_mem 8 (by decide +kernel) (by decide +kernel), List.forall_mem_cons.mpr ⟨gx_mem 86 (by decide +kernel) (by decide +kernel), List.forall_mem_cons.mpr ⟨cw_588, fun _ h => absurd h List.not_mem_nil⟩⟩⟩⟩⟩⟩)), List.forall_mem_cons.mpr ⟨
  (gs_iadd dX1_readNumber_55), List.forall_mem_cons.mpr ⟨
  (gs_bipush dX1_readNumber_56 rfl), List.forall_mem_cons.mpr ⟨
  (gs_isub dX1_readNumber_58), fun _ h => absurd h List.not_mem_nil⟩⟩⟩⟩⟩⟩⟩⟩⟩⟩⟩⟩⟩⟩⟩⟩⟩⟩⟩⟩⟩⟩⟩⟩⟩⟩⟩⟩⟩⟩⟩⟩
set_option maxRecDepth 20000 in
theorem kt_X1_readNumber_1 (g : gx_T) : ∀ q ∈ k_X1_readNumber_1, gx_E g gc_md RX1 cX1_readNumber 1 (some .boolean) "readNumber" q.1 q.2 := List.forall_mem_cons.mpr ⟨(gs_pf (ref := "GriefCranes$Firm") dX1_readNumber_59 (gx_mem 159 (by decide +kernel) (by decide +kernel)) (Or.inl rfl) gf_1_9 (by decide +kernel)), List.forall_mem_cons.mpr ⟨
  (gs_aload_n dX1_readNumber_62 rfl), List.forall_mem_cons.mpr ⟨
  (gs_dup dX1_readNumber_63), List.forall_mem_cons.mpr ⟨
  (gs_gf (ref := "GriefCranes$Firm") dX1_readNumber_64 (gx_mem 158 (by decide +kernel) (by decide +kernel)) (Or.inl rfl) gf_1_8), List.forall_mem_cons.mpr ⟨
  (gs_iconst dX1_readNumber_67 rfl), List.forall_mem_cons.mpr ⟨
  (gs_iadd dX1_readNumber_68), List.forall_mem_cons.mpr ⟨
  (gs_pf (ref := "GriefCranes$Firm") dX1_readNumber_69 (gx_mem 158 (by decide +kernel) (by decide +kernel)) (Or.inl rfl) gf_1_8 (by decide +kernel)), List.forall_mem_cons.mpr ⟨
  (gs_iconst dX1_readNumber_72 rfl), List.forall_mem_cons.mpr ⟨
  (gs_rn dX1_readNumber_73 (by decide)), fun _ h => absurd h List.not_mem_nil⟩⟩⟩⟩⟩⟩⟩⟩⟩
theorem kt_X1_readNumber (g : gx_T) : ∀ q ∈ k_X1_readNumber, gx_E g gc_md RX1 cX1_readNumber 1 (some .boolean) "readNumber" q.1 q.2 := List.forall_mem_append.mpr ⟨kt_X1_readNumber_0 g, kt_X1_readNumber_1 g⟩
set_option maxRecDepth 20000 in
theorem dX1_isDigit_0 : decode cX1_isDigit 0 = .ok (.iload_n 0, 1) := by decide +kernel
set_option maxRecDepth 20000 in
theorem dX1_isDigit_1 : decode cX1_isDigit 1 = .ok (.bipush 48, 2) := by decide +kernel
set_option maxRecDepth 20000 in
theorem dX1_isDigit_3 : decode cX1_isDigit 3 = .ok (.if_icmp .lt 13, 3) := by decide +kernel
set_option maxRecDepth 20000 in
theorem dX1_isDigit_6 : decode cX1_isDigit 6 = .ok (.iload_n 0, 1) := by decide +kernel
set_option maxRecDepth 20000 in
theorem dX1_isDigit_7 : decode cX1_isDigit 7 = .ok (.bipush 57, 2) := by decide +kernel
set_option maxRecDepth 20000 in
theorem dX1_isDigit_9 : decode cX1_isDigit 9 = .ok (.if_icmp .gt 7, 3) := by decide +kernel
set_option maxRecDepth 20000 in
theorem dX1_isDigit_12 : decode cX1_isDigit 12 = .ok (.iconst 1, 1) := by decide +kernel
set_option maxRecDepth 20000 in
theorem dX1_isDigit_13 : decode cX1_isDigit 13 = .ok (.goto 4, 3) := by decide +kernel
set_option maxRecDepth 20000 in
theorem dX1_isDigit_16 : decode cX1_isDigit 16 = .ok (.iconst 0, 1) := by decide +kernel
set_option maxRecDepth 20000 in
theorem dX1_isDigit_17 : decode cX1_isDigit 17 = .ok (.ireturn, 1) := by decide +kernel
set_option maxRecDepth 20000 in
theorem kt_X1_isDigit_0 (g : gx_T) : ∀ q ∈ k_X1_isDigit_0, gx_E g gc_md RX1 cX1_isDigit 1 (some .boolean) "isDigit" q.1 q.2 := List.forall_mem_cons.mpr ⟨(gs_iload_n dX1_isDigit_0 rfl), List.forall_mem_cons.mpr ⟨
  (gs_bipush dX1_isDigit_1 rfl), List.forall_mem_cons.mpr ⟨
  (gs_icmp_lt dX1_isDigit_3 rfl), List.forall_mem_cons.mpr ⟨
  (gs_iload_n dX1_isDigit_6 rfl), List.forall_mem_cons.mpr ⟨
  (gs_bipush dX1_isDigit_7 rfl), List.forall_mem_cons.mpr ⟨
  (gs_icmp_gt dX1_isDigit_9 rfl), List.forall_mem_cons.mpr ⟨
  (gs_iconst dX1_isDigit_12 rfl), List.forall_mem_cons.mpr ⟨
  (gs_goto dX1_isDigit_13 rfl), List.forall_mem_cons.mpr ⟨
  (gs_iconst dX1_isDigit_16 rfl), List.forall_mem_cons.mpr ⟨
  (gs_rn dX1_isDigit_17 (by decide)), fun _ h => absurd h List.not_mem_nil⟩⟩⟩⟩⟩⟩⟩⟩⟩⟩
theorem kt_X1_isDigit (g : gx_T) : ∀ q ∈ k_X1_isDigit, gx_E g gc_md RX1 cX1_isDigit 1 (some .boolean) "isDigit" q.1 q.2 := kt_X1_isDigit_0 g
set_option maxRecDepth 20000 in
theorem dX1_placeIn_0 : decode cX1_placeIn 0 = .ok (.aload_n 0, 1) := by decide +kernel
set_option maxRecDepth 20000 in
theorem dX1_placeIn_1 : decode cX1_placeIn 1 = .ok (.invokevirtual 62, 3) := by decide +kernel
set_option maxRecDepth 20000 in
theorem dX1_placeIn_4 : decode cX1_placeIn 4 = .ok (.ifCond .ge 7, 3) := by decide +kernel
set_option maxRecDepth 20000 in
theorem dX1_placeIn_7 : decode cX1_placeIn 7 = .ok (.iconst (-1), 1) := by decide +kernel
set_option maxRecDepth 20000 in
theorem dX1_placeIn_8 : decode cX1_placeIn 8 = .ok (.goto 12, 3) := by decide +kernel
set_option maxRecDepth 20000 in
theorem dX1_placeIn_11 : decode cX1_placeIn 11 = .ok (.aload_n 1, 1) := by decide +kernel
set_option maxRecDepth 20000 in
theorem dX1_placeIn_12 : decode cX1_placeIn 12 = .ok (.aload_n 0, 1) := by decide +kernel
set_option maxRecDepth 20000 in
theorem dX1_placeIn_13 : decode cX1_placeIn 13 = .ok (.invokevirtual 62, 3) := by decide +kernel
set_option maxRecDepth 20000 in
theorem dX1_placeIn_16 : decode cX1_placeIn 16 = .ok (.i2c, 1) := by decide +kernel
set_option maxRecDepth 20000 in
theorem dX1_placeIn_17 : decode cX1_placeIn 17 = .ok (.invokevirtual 112, 3) := by decide +kernel
set_option maxRecDepth 20000 in
theorem dX1_placeIn_20 : decode cX1_placeIn 20 = .ok (.ireturn, 1) := by decide +kernel
set_option maxRecDepth 20000 in
theorem kt_X1_placeIn_0 (g : gx_T) : ∀ q ∈ k_X1_placeIn_0, gx_E g gc_md RX1 cX1_placeIn 2 (some .int) "placeIn" q.1 q.2 := List.forall_mem_cons.mpr ⟨(gs_aload_n dX1_placeIn_0 rfl), List.forall_mem_cons.mpr ⟨
  (gs_cv dX1_placeIn_1 (fun q hq => by
      simp only [List.mem_cons, List.not_mem_nil, or_false] at hq
      subst hq
      exact Or.inl ⟨_, rfl, by decide, by decide +kernel, by decide +kernel, List.forall_mem_cons.mpr ⟨gx_mem 585 (by decide +kernel) (by decide +kernel), List.forall_mem_cons.mpr ⟨gx_mem 587 (by decide +kernel) (by decide +kernel), List.forall_mem_cons.mpr ⟨gx_mem 8 (by decide +kernel) (by decide +kernel), List.forall_mem_cons.mpr ⟨gx_mem 86 (by decide +kernel) (by decide +kernel), List.forall_mem_cons.mpr ⟨cw_588, fun _ h => absurd h List.not_mem_nil⟩⟩⟩⟩⟩⟩)), List.forall_mem_cons.mpr ⟨
  (gs_if_ge dX1_placeIn_4 rfl), List.forall_mem_cons.mpr ⟨
  (gs_iconst dX1_placeIn_7 rfl), List.forall_mem_cons.mpr ⟨
  (gs_goto dX1_placeIn_8 rfl), List.forall_mem_cons.mpr ⟨
  (gs_aload_n dX1_placeIn_11 rfl), List.forall_mem_cons.mpr ⟨
  (gs_aload_n dX1_placeIn_12 rfl), List.forall_mem_cons.mpr ⟨
  (gs_cv dX1_placeIn_13 (fun q hq => by
      simp only [List.mem_cons, List.not_mem_nil, or_false] at hq
      subst hq
      exact Or.inl ⟨_, rfl, by decide, by decide +kernel, by decide +kernel, List.forall_mem_cons.mpr ⟨gx_mem 585 (by decide +kernel) (by decide +kernel), List.forall_mem_cons.mpr ⟨gx_mem 587 (by decide +kernel) (by decide +kernel), List.forall_mem_cons.mpr ⟨gx_mem 8 (by decide +kernel) (by decide +kernel), List.forall_mem_cons.mpr ⟨gx_mem 86 (by decide +kernel) (by decide +kernel), List.forall_mem_cons.mpr ⟨cw_588, fun _ h => absurd h List.not_mem_nil⟩⟩⟩⟩⟩⟩)), List.forall_mem_cons.mpr ⟨
  (gs_i2c dX1_placeIn_16), List.forall_mem_cons.mpr ⟨
  (gs_ct dX1_placeIn_17 (md_206) rfl (List.forall_mem_cons.mpr ⟨gx_mem 673 (by decide +kernel) (by decide +kernel), List.forall_mem_cons.mpr ⟨gx_mem 674 (by decide +kernel) (by decide +kernel), List.forall_mem_cons.mpr ⟨gx_mem 675 (by decide +kernel) (by decide +kernel), List.forall_mem_cons.mpr ⟨gx_mem 99 (by decide +kernel) (by decide +kernel), List.forall_mem_cons.mpr ⟨cw_676, fun _ h => absurd h List.not_mem_nil⟩⟩⟩⟩⟩) (by decide +kernel) (by decide)), List.forall_mem_cons.mpr ⟨
  (gs_ri dX1_placeIn_20), fun _ h => absurd h List.not_mem_nil⟩⟩⟩⟩⟩⟩⟩⟩⟩⟩⟩
theorem kt_X1_placeIn (g : gx_T) : ∀ q ∈ k_X1_placeIn, gx_E g gc_md RX1 cX1_placeIn 2 (some .int) "placeIn" q.1 q.2 := kt_X1_placeIn_0 g
set_option maxRecDepth 20000 in
theorem dX1_sign_0 : decode cX1_sign 0 = .ok (.aload_n 0, 1) := by decide +kernel
set_option maxRecDepth 20000 in
theorem dX1_sign_1 : decode cX1_sign 1 = .ok (.invokevirtual 62, 3) := by decide +kernel
set_option maxRecDepth 20000 in
theorem dX1_sign_4 : decode cX1_sign 4 = .ok (.iload_n 1, 1) := by decide +kernel
set_option maxRecDepth 20000 in
theorem dX1_sign_5 : decode cX1_sign 5 = .ok (.if_icmp .eq 5, 3) := by decide +kernel
set_option maxRecDepth 20000 in
theorem dX1_sign_8 : decode cX1_sign 8 = .ok (.iconst 0, 1) := by decide +kernel
set_option maxRecDepth 20000 in
theorem dX1_sign_9 : decode cX1_sign 9 = .ok (.ireturn, 1) := by decide +kernel
set_option maxRecDepth 20000 in
theorem dX1_sign_10 : decode cX1_sign 10 = .ok (.aload_n 0, 1) := by decide +kernel
set_option maxRecDepth 20000 in
theorem dX1_sign_11 : decode cX1_sign 11 = .ok (.dup, 1) := by decide +kernel
set_option maxRecDepth 20000 in
theorem dX1_sign_12 : decode cX1_sign 12 = .ok (.getfield 38, 3) := by decide +kernel
set_option maxRecDepth 20000 in
theorem dX1_sign_15 : decode cX1_sign 15 = .ok (.iconst 1, 1) := by decide +kernel
set_option maxRecDepth 20000 in
theorem dX1_sign_16 : decode cX1_sign 16 = .ok (.iadd, 1) := by decide +kernel
set_option maxRecDepth 20000 in
theorem dX1_sign_17 : decode cX1_sign 17 = .ok (.putfield 38, 3) := by decide +kernel
set_option maxRecDepth 20000 in
theorem dX1_sign_20 : decode cX1_sign 20 = .ok (.iconst 1, 1) := by decide +kernel
set_option maxRecDepth 20000 in
theorem dX1_sign_21 : decode cX1_sign 21 = .ok (.ireturn, 1) := by decide +kernel
set_option maxRecDepth 20000 in
theorem kt_X1_sign_0 (g : gx_T) : ∀ q ∈ k_X1_sign_0, gx_E g gc_md RX1 cX1_sign 2 (some .boolean) "sign" q.1 q.2 := List.forall_mem_cons.mpr ⟨(gs_aload_n dX1_sign_0 rfl), List.forall_mem_cons.mpr ⟨
  (gs_cv dX1_sign_1 (fun q hq => by
      simp only [List.mem_cons, List.not_mem_nil, or_false] at hq
      subst hq
      exact Or.inl ⟨_, rfl, by decide, by decide +kernel, by decide +kernel, List.forall_mem_cons.mpr ⟨gx_mem 585 (by decide +kernel) (by decide +kernel), List.forall_mem_cons.mpr ⟨gx_mem 587 (by decide +kernel) (by decide +kernel), List.forall_mem_cons.mpr ⟨gx_mem 8 (by decide +kernel) (by decide +kernel), List.forall_mem_cons.mpr ⟨gx_mem 86 (by decide +kernel) (by decide +kernel), List.forall_mem_cons.mpr ⟨cw_588, fun _ h => absurd h List.not_mem_nil⟩⟩⟩⟩⟩⟩)), List.forall_mem_cons.mpr ⟨
  (gs_iload_n dX1_sign_4 rfl), List.forall_mem_cons.mpr ⟨
  (gs_icmp_eq dX1_sign_5 rfl), List.forall_mem_cons.mpr ⟨
  (gs_iconst dX1_sign_8 rfl), List.forall_mem_cons.mpr ⟨
  (gs_rn dX1_sign_9 (by decide)), List.forall_mem_cons.mpr ⟨
  (gs_aload_n dX1_sign_10 rfl), List.forall_mem_cons.mpr ⟨
  (gs_dup dX1_sign_11), List.forall_mem_cons.mpr ⟨
  (gs_gf (ref := "GriefCranes$Firm") dX1_sign_12 (gx_mem 158 (by decide +kernel) (by decide +kernel)) (Or.inl rfl) gf_1_8), List.forall_mem_cons.mpr ⟨
  (gs_iconst dX1_sign_15 rfl), List.forall_mem_cons.mpr ⟨
  (gs_iadd dX1_sign_16), List.forall_mem_cons.mpr ⟨
  (gs_pf (ref := "GriefCranes$Firm") dX1_sign_17 (gx_mem 158 (by decide +kernel) (by decide +kernel)) (Or.inl rfl) gf_1_8 (by decide +kernel)), List.forall_mem_cons.mpr ⟨
  (gs_iconst dX1_sign_20 rfl), List.forall_mem_cons.mpr ⟨
  (gs_rn dX1_sign_21 (by decide)), fun _ h => absurd h List.not_mem_nil⟩⟩⟩⟩⟩⟩⟩⟩⟩⟩⟩⟩⟩⟩
theorem kt_X1_sign (g : gx_T) : ∀ q ∈ k_X1_sign, gx_E g gc_md RX1 cX1_sign 2 (some .boolean) "sign" q.1 q.2 := kt_X1_sign_0 g
set_option maxRecDepth 20000 in
theorem dX1_addStep_0 : decode cX1_addStep 0 = .ok (.aload_n 0, 1) := by decide +kernel
set_option maxRecDepth 20000 in
theorem dX1_addStep_1 : decode cX1_addStep 1 = .ok (.getfield 28, 3) := by decide +kernel
set_option maxRecDepth 20000 in
theorem dX1_addStep_4 : decode cX1_addStep 4 = .ok (.bipush 100, 2) := by decide +kernel
set_option maxRecDepth 20000 in
theorem dX1_addStep_6 : decode cX1_addStep 6 = .ok (.if_icmp .lt 4, 3) := by decide +kernel
set_option maxRecDepth 20000 in
theorem dX1_addStep_9 : decode cX1_addStep 9 = .ok (.return_, 1) := by decide +kernel
set_option maxRecDepth 20000 in
theorem dX1_addStep_10 : decode cX1_addStep 10 = .ok (.aload_n 0, 1) := by decide +kernel
set_option maxRecDepth 20000 in
theorem dX1_addStep_11 : decode cX1_addStep 11 = .ok (.getfield 18, 3) := by decide +kernel
set_option maxRecDepth 20000 in
theorem dX1_addStep_14 : decode cX1_addStep 14 = .ok (.aload_n 0, 1) := by decide +kernel
set_option maxRecDepth 20000 in
theorem dX1_addStep_15 : decode cX1_addStep 15 = .ok (.getfield 28, 3) := by decide +kernel
set_option maxRecDepth 20000 in
theorem dX1_addStep_18 : decode cX1_addStep 18 = .ok (.iload_n 1, 1) := by decide +kernel
set_option maxRecDepth 20000 in
theorem dX1_addStep_19 : decode cX1_addStep 19 = .ok (.iastore, 1) := by decide +kernel
set_option maxRecDepth 20000 in
theorem dX1_addStep_20 : decode cX1_addStep 20 = .ok (.aload_n 0, 1) := by decide +kernel
set_option maxRecDepth 20000 in
theorem dX1_addStep_21 : decode cX1_addStep 21 = .ok (.getfield 22, 3) := by decide +kernel
set_option maxRecDepth 20000 in
theorem dX1_addStep_24 : decode cX1_addStep 24 = .ok (.aload_n 0, 1) := by decide +kernel
set_option maxRecDepth 20000 in
theorem dX1_addStep_25 : decode cX1_addStep 25 = .ok (.getfield 28, 3) := by decide +kernel
set_option maxRecDepth 20000 in
theorem dX1_addStep_28 : decode cX1_addStep 28 = .ok (.iload_n 2, 1) := by decide +kernel
set_option maxRecDepth 20000 in
theorem dX1_addStep_29 : decode cX1_addStep 29 = .ok (.iastore, 1) := by decide +kernel
set_option maxRecDepth 20000 in
theorem dX1_addStep_30 : decode cX1_addStep 30 = .ok (.aload_n 0, 1) := by decide +kernel
set_option maxRecDepth 20000 in
theorem dX1_addStep_31 : decode cX1_addStep 31 = .ok (.getfield 25, 3) := by decide +kernel
set_option maxRecDepth 20000 in
theorem dX1_addStep_34 : decode cX1_addStep 34 = .ok (.aload_n 0, 1) := by decide +kernel
set_option maxRecDepth 20000 in
theorem dX1_addStep_35 : decode cX1_addStep 35 = .ok (.getfield 28, 3) := by decide +kernel
set_option maxRecDepth 20000 in
theorem dX1_addStep_38 : decode cX1_addStep 38 = .ok (.iload_n 3, 1) := by decide +kernel
set_option maxRecDepth 20000 in
theorem dX1_addStep_39 : decode cX1_addStep 39 = .ok (.iastore, 1) := by decide +kernel
set_option maxRecDepth 20000 in
theorem dX1_addStep_40 : decode cX1_addStep 40 = .ok (.aload_n 0, 1) := by decide +kernel
set_option maxRecDepth 20000 in
theorem dX1_addStep_41 : decode cX1_addStep 41 = .ok (.dup, 1) := by decide +kernel
set_option maxRecDepth 20000 in
theorem dX1_addStep_42 : decode cX1_addStep 42 = .ok (.getfield 28, 3) := by decide +kernel
set_option maxRecDepth 20000 in
theorem dX1_addStep_45 : decode cX1_addStep 45 = .ok (.iconst 1, 1) := by decide +kernel
set_option maxRecDepth 20000 in
theorem dX1_addStep_46 : decode cX1_addStep 46 = .ok (.iadd, 1) := by decide +kernel
set_option maxRecDepth 20000 in
theorem dX1_addStep_47 : decode cX1_addStep 47 = .ok (.putfield 28, 3) := by decide +kernel
set_option maxRecDepth 20000 in
theorem dX1_addStep_50 : decode cX1_addStep 50 = .ok (.return_, 1) := by decide +kernel
set_option maxRecDepth 20000 in
theorem kt_X1_addStep_0 (g : gx_T) : ∀ q ∈ k_X1_addStep_0, gx_E g gc_md RX1 cX1_addStep 4 (none) "addStep" q.1 q.2 := List.forall_mem_cons.mpr ⟨(gs_aload_n dX1_addStep_0 rfl), List.forall_mem_cons.mpr ⟨
  (gs_gf (ref := "GriefCranes$Firm") dX1_addStep_1 (gx_mem 155 (by decide +kernel) (by decide +kernel)) (Or.inl rfl) gf_1_5), List.forall_mem_cons.mpr ⟨
  (gs_bipush dX1_addStep_4 rfl), List.forall_mem_cons.mpr ⟨
  (gs_icmp_lt dX1_addStep_6 rfl), List.forall_mem_cons.mpr ⟨
  (gs_rv dX1_addStep_9), List.forall_mem_cons.mpr ⟨
  (gs_aload_n dX1_addStep_10 rfl), List.forall_mem_cons.mpr ⟨
  (gs_gf (ref := "GriefCranes$Firm") dX1_addStep_11 (gx_mem 152 (by decide +kernel) (by decide +kernel)) (Or.inl rfl) gf_1_2), List.forall_mem_cons.mpr ⟨
  (gs_aload_n dX1_addStep_14 rfl), List.forall_mem_cons.mpr ⟨
  (gs_gf (ref := "GriefCranes$Firm") dX1_addStep_15 (gx_mem 155 (by decide +kernel) (by decide +kernel)) (Or.inl rfl) gf_1_5), List.forall_mem_cons.mpr ⟨
  (gs_iload_n dX1_addStep_18 rfl), List.forall_mem_cons.mpr ⟨
  (gs_iastore dX1_addStep_19), List.forall_mem_cons.mpr ⟨
  (gs_aload_n dX1_addStep_20 rfl), List.forall_mem_cons.mpr ⟨
  (gs_gf (ref := "GriefCranes$Firm") dX1_addStep_21 (gx_mem 153 (by decide +kernel) (by decide +kernel)) (Or.inl rfl) gf_1_3), List.forall_mem_cons.mpr ⟨
  (gs_aload_n dX1_addStep_24 rfl), List.forall_mem_cons.mpr ⟨
  (gs_gf (ref := "GriefCranes$Firm") dX1_addStep_25 (gx_mem 155 (by decide +kernel) (by decide +kernel)) (Or.inl rfl) gf_1_5), List.forall_mem_cons.mpr ⟨
  (gs_iload_n dX1_addStep_28 rfl), List.forall_mem_cons.mpr ⟨
  (gs_iastore dX1_addStep_29), List.forall_mem_cons.mpr ⟨
  (gs_aload_n dX1_addStep_30 rfl), List.forall_mem_cons.mpr ⟨
  (gs_gf (ref := "GriefCranes$Firm") dX1_addStep_31 (gx_mem 154 (by decide +kernel) (by decide +kernel)) (Or.inl rfl) gf_1_4), List.forall_mem_cons.mpr ⟨
  (gs_aload_n dX1_addStep_34 rfl), List.forall_mem_cons.mpr ⟨
  (gs_gf (ref := "GriefCranes$Firm") dX1_addStep_35 (gx_mem 155 (by decide +kernel) (by decide +kernel)) (Or.inl rfl) gf_1_5), List.forall_mem_cons.mpr ⟨
  (gs_iload_n dX1_addStep_38 rfl), List.forall_mem_cons.mpr ⟨
  (gs_iastore dX1_addStep_39), List.forall_mem_cons.mpr ⟨
  (gs_aload_n dX1_addStep_40 rfl), List.forall_mem_cons.mpr ⟨
  (gs_dup dX1_addStep_41), List.forall_mem_cons.mpr ⟨
  (gs_gf (ref := "GriefCranes$Firm") dX1_addStep_42 (gx_mem 155 (by decide +kernel) (by decide +kernel)) (Or.inl rfl) gf_1_5), List.forall_mem_cons.mpr ⟨
  (gs_iconst dX1_addStep_45 rfl), List.forall_mem_cons.mpr ⟨
  (gs_iadd dX1_addStep_46), List.forall_mem_cons.mpr ⟨
  (gs_pf (ref := "GriefCranes$Firm") dX1_addStep_47 (gx_mem 155 (by decide +kernel) (by decide +kernel)) (Or.inl rfl) gf_1_5 (by decide +kernel)), List.forall_mem_cons.mpr ⟨
  (gs_rv dX1_addStep_50), fun _ h => absurd h List.not_mem_nil⟩⟩⟩⟩⟩⟩⟩⟩⟩⟩⟩⟩⟩⟩⟩⟩⟩⟩⟩⟩⟩⟩⟩⟩⟩⟩⟩⟩⟩⟩
theorem kt_X1_addStep (g : gx_T) : ∀ q ∈ k_X1_addStep, gx_E g gc_md RX1 cX1_addStep 4 (none) "addStep" q.1 q.2 := kt_X1_addStep_0 g
set_option maxRecDepth 20000 in
theorem dX2_init_0 : decode cX2_init 0 = .ok (.aload_n 0, 1) := by decide +kernel
set_option maxRecDepth 20000 in
theorem dX2_init_1 : decode cX2_init 1 = .ok (.invokespecial 1, 3) := by decide +kernel
set_option maxRecDepth 20000 in
theorem dX2_init_4 : decode cX2_init 4 = .ok (.return_, 1) := by decide +kernel
set_option maxRecDepth 20000 in
theorem kt_X2_init_0 (g : gx_T) : ∀ q ∈ k_X2_init_0, gx_E g gc_md RX2 cX2_init 1 (none) "<init>" q.1 q.2 := List.forall_mem_cons.mpr ⟨(gs_aload_n dX2_init_0 rfl), List.forall_mem_cons.mpr ⟨
  (gs_cin (host := RX11) dX2_init_1 (md_27) (by decide +kernel) (List.forall_mem_cons.mpr ⟨gx_mem 230 (by decide +kernel) (by decide +kernel), List.forall_mem_cons.mpr ⟨gx_mem 89 (by decide +kernel) (by decide +kernel), List.forall_mem_cons.mpr ⟨cw_231, fun _ h => absurd h List.not_mem_nil⟩⟩⟩) (by decide +kernel) (by decide) rfl), List.forall_mem_cons.mpr ⟨
  (gs_rv dX2_init_4), fun _ h => absurd h List.not_mem_nil⟩⟩⟩
theorem kt_X2_init (g : gx_T) : ∀ q ∈ k_X2_init, gx_E g gc_md RX2 cX2_init 1 (none) "<init>" q.1 q.2 := kt_X2_init_0 g
set_option maxRecDepth 20000 in
theorem dX2_power_0 : decode cX2_power 0 = .ok (.aload_n 0, 1) := by decide +kernel
set_option maxRecDepth 20000 in
theorem dX2_power_1 : decode cX2_power 1 = .ok (.iload_n 1, 1) := by decide +kernel
set_option maxRecDepth 20000 in
theorem dX2_power_2 : decode cX2_power 2 = .ok (.aload_n 2, 1) := by decide +kernel
set_option maxRecDepth 20000 in
theorem dX2_power_3 : decode cX2_power 3 = .ok (.iload_n 3, 1) := by decide +kernel
set_option maxRecDepth 20000 in
theorem dX2_power_4 : decode cX2_power 4 = .ok (.iload 4, 2) := by decide +kernel
set_option maxRecDepth 20000 in
theorem dX2_power_6 : decode cX2_power 6 = .ok (.invokespecial 7, 3) := by decide +kernel
set_option maxRecDepth 20000 in
theorem dX2_power_9 : decode cX2_power 9 = .ok (.istore 5, 2) := by decide +kernel
set_option maxRecDepth 20000 in
theorem dX2_power_11 : decode cX2_power 11 = .ok (.aload_n 2, 1) := by decide +kernel
set_option maxRecDepth 20000 in
theorem dX2_power_12 : decode cX2_power 12 = .ok (.getfield 11, 3) := by decide +kernel
set_option maxRecDepth 20000 in
theorem dX2_power_15 : decode cX2_power 15 = .ok (.iload 4, 2) := by decide +kernel
set_option maxRecDepth 20000 in
theorem dX2_power_17 : decode cX2_power 17 = .ok (.iaload, 1) := by decide +kernel
set_option maxRecDepth 20000 in
theorem dX2_power_18 : decode cX2_power 18 = .ok (.bipush 50, 2) := by decide +kernel
set_option maxRecDepth 20000 in
theorem dX2_power_20 : decode cX2_power 20 = .ok (.if_icmp .lt 10, 3) := by decide +kernel
set_option maxRecDepth 20000 in
theorem dX2_power_23 : decode cX2_power 23 = .ok (.iconst 2, 1) := by decide +kernel
set_option maxRecDepth 20000 in
theorem dX2_power_24 : decode cX2_power 24 = .ok (.iload 5, 2) := by decide +kernel
set_option maxRecDepth 20000 in
theorem dX2_power_26 : decode cX2_power 26 = .ok (.imul, 1) := by decide +kernel
set_option maxRecDepth 20000 in
theorem dX2_power_27 : decode cX2_power 27 = .ok (.goto 5, 3) := by decide +kernel
set_option maxRecDepth 20000 in
theorem dX2_power_30 : decode cX2_power 30 = .ok (.iload 5, 2) := by decide +kernel
set_option maxRecDepth 20000 in
theorem dX2_power_32 : decode cX2_power 32 = .ok (.ireturn, 1) := by decide +kernel
set_option maxRecDepth 20000 in
theorem kt_X2_power_0 (g : gx_T) : ∀ q ∈ k_X2_power_0, gx_E g gc_md RX2 cX2_power 6 (some .int) "power" q.1 q.2 := List.forall_mem_cons.mpr ⟨(gs_aload_n dX2_power_0 rfl), List.forall_mem_cons.mpr ⟨
  (gs_iload_n dX2_power_1 rfl), List.forall_mem_cons.mpr ⟨
  (gs_aload_n dX2_power_2 rfl), List.forall_mem_cons.mpr ⟨
  (gs_iload_n dX2_power_3 rfl), List.forall_mem_cons.mpr ⟨
  (gs_iload dX2_power_4), List.forall_mem_cons.mpr ⟨
  (gs_csu dX2_power_6 (md_28) (List.forall_mem_cons.mpr ⟨gx_mem 472 (by decide +kernel) (by decide +kernel), List.forall_mem_cons.mpr ⟨gx_mem 1616 (by decide +kernel) (by decide +kernel), List.forall_mem_cons.mpr ⟨gx_mem 270 (by decide +kernel) (by decide +kernel), List.forall_mem_cons.mpr ⟨gx_mem 473 (by decide +kernel) (by decide +kernel), List.forall_mem_cons.mpr ⟨gx_mem 89 (by decide +kernel) (by decide +kernel), List.forall_mem_cons.mpr ⟨cw_474, fun _ h => absurd h List.not_mem_nil⟩⟩⟩⟩⟩⟩) (by decide +kernel) (by decide)), List.forall_mem_cons.mpr ⟨
  (gs_istore dX2_power_9), List.forall_mem_cons.mpr ⟨
  (gs_aload_n dX2_power_11 rfl), List.forall_mem_cons.mpr ⟨
  (gs_gf (ref := "GriefCranes$Yard") dX2_power_12 (gx_mem 327 (by decide +kernel) (by decide +kernel)) (Or.inl rfl) gf_10_10), List.forall_mem_cons.mpr ⟨
  (gs_iload dX2_power_15), List.forall_mem_cons.mpr ⟨
  (gs_iaload dX2_power_17), List.forall_mem_cons.mpr ⟨
  (gs_bipush dX2_power_18 rfl), List.forall_mem_cons.mpr ⟨
  (gs_icmp_lt dX2_power_20 rfl), List.forall_mem_cons.mpr ⟨
  (gs_iconst dX2_power_23 rfl), List.forall_mem_cons.mpr ⟨
  (gs_iload dX2_power_24), List.forall_mem_cons.mpr ⟨
  (gs_imul dX2_power_26), List.forall_mem_cons.mpr ⟨
  (gs_goto dX2_power_27 rfl), List.forall_mem_cons.mpr ⟨
  (gs_iload dX2_power_30), List.forall_mem_cons.mpr ⟨
  (gs_ri dX2_power_32), fun _ h => absurd h List.not_mem_nil⟩⟩⟩⟩⟩⟩⟩⟩⟩⟩⟩⟩⟩⟩⟩⟩⟩⟩⟩
theorem kt_X2_power (g : gx_T) : ∀ q ∈ k_X2_power, gx_E g gc_md RX2 cX2_power 6 (some .int) "power" q.1 q.2 := kt_X2_power_0 g
set_option maxRecDepth 20000 in
theorem dX2_leans_0 : decode cX2_leans 0 = .ok (.aload_n 0, 1) := by decide +kernel
set_option maxRecDepth 20000 in
theorem dX2_leans_1 : decode cX2_leans 1 = .ok (.bipush 50, 2) := by decide +kernel
set_option maxRecDepth 20000 in
theorem dX2_leans_3 : decode cX2_leans 3 = .ok (.invokevirtual 17, 3) := by decide +kernel
set_option maxRecDepth 20000 in
theorem dX2_leans_6 : decode cX2_leans 6 = .ok (.aload_n 0, 1) := by decide +kernel
set_option maxRecDepth 20000 in
theorem dX2_leans_7 : decode cX2_leans 7 = .ok (.iload_n 1, 1) := by decide +kernel
set_option maxRecDepth 20000 in
theorem dX2_leans_8 : decode cX2_leans 8 = .ok (.invokespecial 23, 3) := by decide +kernel
set_option maxRecDepth 20000 in
theorem dX2_leans_11 : decode cX2_leans 11 = .ok (.ineg, 1) := by decide +kernel
set_option maxRecDepth 20000 in
theorem dX2_leans_12 : decode cX2_leans 12 = .ok (.ireturn, 1) := by decide +kernel
set_option maxRecDepth 20000 in
theorem kt_X2_leans_0 (g : gx_T) : ∀ q ∈ k_X2_leans_0, gx_E g gc_md RX2 cX2_leans 2 (some .int) "leans" q.1 q.2 := List.forall_mem_cons.mpr ⟨(gs_aload_n dX2_leans_0 rfl), List.forall_mem_cons.mpr ⟨
  (gs_bipush dX2_leans_1 rfl), List.forall_mem_cons.mpr ⟨
  (gs_cv dX2_leans_3 (fun q hq => by
      simp only [List.mem_cons, List.not_mem_nil, or_false] at hq
      subst hq
      exact Or.inr ⟨_, ⟨"GriefCranes$Giant", "began", "(I)V"⟩, RX0, gc_md 3, rfl, by decide, by decide +kernel, by decide +kernel, rfl, List.forall_mem_cons.mpr ⟨gx_mem 865 (by decide +kernel) (by decide +kernel), List.forall_mem_cons.mpr ⟨gx_mem 866 (by decide +kernel) (by decide +kernel), List.forall_mem_cons.mpr ⟨gx_mem 869 (by decide +kernel) (by decide +kernel), List.forall_mem_cons.mpr ⟨cw_870, List.forall_mem_cons.mpr ⟨gx_mem 868 (by decide +kernel) (by decide +kernel), List.forall_mem_cons.mpr ⟨gx_mem 869 (by decide +kernel) (by decide +kernel), List.forall_mem_cons.mpr ⟨gx_mem 88 (by decide +kernel) (by decide +kernel), List.forall_mem_cons.mpr ⟨cw_870, fun _ h => absurd h List.not_mem_nil⟩⟩⟩⟩⟩⟩⟩⟩⟩)), List.forall_mem_cons.mpr ⟨
  (gs_aload_n dX2_leans_6 rfl), List.forall_mem_cons.mpr ⟨
  (gs_iload_n dX2_leans_7 rfl), List.forall_mem_cons.mpr ⟨
  (gs_csx (x := ⟨"GriefCranes$Jib", "leans", "(I)I"⟩) (owner := RX0) dX2_leans_8 (md_4) rfl (List.forall_mem_cons.mpr ⟨gx_mem 871 (by decide +kernel) (by decide +kernel), List.forall_mem_cons.mpr ⟨gx_mem 872 (by decide +kernel) (by decide +kernel), List.forall_mem_cons.mpr ⟨gx_mem 270 (by decide +kernel) (by decide +kernel), List.forall_mem_cons.mpr ⟨gx_mem 237 (by decide +kernel) (by decide +kernel), List.forall_mem_cons.mpr ⟨gx_mem 859 (by decide +kernel) (by decide +kernel), List.forall_mem_cons.mpr ⟨gx_mem 88 (by decide +kernel) (by decide +kernel), List.forall_mem_cons.mpr ⟨cw_893, fun _ h => absurd h List.not_mem_nil⟩⟩⟩⟩⟩⟩⟩) (by decide +kernel) (by decide)), List.forall_mem_cons.mpr ⟨
  (gs_ineg dX2_leans_11), List.forall_mem_cons.mpr ⟨
  (gs_ri dX2_leans_12), fun _ h => absurd h List.not_mem_nil⟩⟩⟩⟩⟩⟩⟩⟩
theorem kt_X2_leans (g : gx_T) : ∀ q ∈ k_X2_leans, gx_E g gc_md RX2 cX2_leans 2 (some .int) "leans" q.1 q.2 := kt_X2_leans_0 g
set_option maxRecDepth 20000 in
theorem dX2_lifts_0 : decode cX2_lifts 0 = .ok (.aload_n 0, 1) := by decide +kernel
set_option maxRecDepth 20000 in
theorem dX2_lifts_1 : decode cX2_lifts 1 = .ok (.bipush 51, 2) := by decide +kernel
set_option maxRecDepth 20000 in
theorem dX2_lifts_3 : decode cX2_lifts 3 = .ok (.invokevirtual 17, 3) := by decide +kernel
set_option maxRecDepth 20000 in
theorem dX2_lifts_6 : decode cX2_lifts 6 = .ok (.aload_n 0, 1) := by decide +kernel
set_option maxRecDepth 20000 in
theorem dX2_lifts_7 : decode cX2_lifts 7 = .ok (.iload_n 1, 1) := by decide +kernel
set_option maxRecDepth 20000 in
theorem dX2_lifts_8 : decode cX2_lifts 8 = .ok (.iconst 1, 1) := by decide +kernel
set_option maxRecDepth 20000 in
theorem dX2_lifts_9 : decode cX2_lifts 9 = .ok (.iadd, 1) := by decide +kernel
set_option maxRecDepth 20000 in
theorem dX2_lifts_10 : decode cX2_lifts 10 = .ok (.invokespecial 27, 3) := by decide +kernel
set_option maxRecDepth 20000 in
theorem dX2_lifts_13 : decode cX2_lifts 13 = .ok (.ireturn, 1) := by decide +kernel
set_option maxRecDepth 20000 in
theorem kt_X2_lifts_0 (g : gx_T) : ∀ q ∈ k_X2_lifts_0, gx_E g gc_md RX2 cX2_lifts 2 (some .int) "lifts" q.1 q.2 := List.forall_mem_cons.mpr ⟨(gs_aload_n dX2_lifts_0 rfl), List.forall_mem_cons.mpr ⟨
  (gs_bipush dX2_lifts_1 rfl), List.forall_mem_cons.mpr ⟨
  (gs_cv dX2_lifts_3 (fun q hq => by
      simp only [List.mem_cons, List.not_mem_nil, or_false] at hq
      subst hq
      exact Or.inr ⟨_, ⟨"GriefCranes$Giant", "began", "(I)V"⟩, RX0, gc_md 3, rfl, by decide, by decide +kernel, by decide +kernel, rfl, List.forall_mem_cons.mpr ⟨gx_mem 865 (by decide +kernel) (by decide +kernel), List.forall_mem_cons.mpr ⟨gx_mem 866 (by decide +kernel) (by decide +kernel), List.forall_mem_cons.mpr ⟨gx_mem 869 (by decide +kernel) (by decide +kernel), List.forall_mem_cons.mpr ⟨cw_870, List.forall_mem_cons.mpr ⟨gx_mem 868 (by decide +kernel) (by decide +kernel), List.forall_mem_cons.mpr ⟨gx_mem 869 (by decide +kernel) (by decide +kernel), List.forall_mem_cons.mpr ⟨gx_mem 88 (by decide +kernel) (by decide +kernel), List.forall_mem_cons.mpr ⟨cw_870, fun _ h => absurd h List.not_mem_nil⟩⟩⟩⟩⟩⟩⟩⟩⟩)), List.forall_mem_cons.mpr ⟨
  (gs_aload_n dX2_lifts_6 rfl), List.forall_mem_cons.mpr ⟨
  (gs_iload_n dX2_lifts_7 rfl), List.forall_mem_cons.mpr ⟨
  (gs_iconst dX2_lifts_8 rfl), List.forall_mem_cons.mpr ⟨
  (gs_iadd dX2_lifts_9), List.forall_mem_cons.mpr ⟨
  (gs_csu dX2_lifts_10 (md_29) (List.forall_mem_cons.mpr ⟨gx_mem 902 (by decide +kernel) (by decide +kernel), List.forall_mem_cons.mpr ⟨gx_mem 1627 (by decide +kernel) (by decide +kernel), List.forall_mem_cons.mpr ⟨gx_mem 270 (by decide +kernel) (by decide +kernel), List.forall_mem_cons.mpr ⟨gx_mem 903 (by decide +kernel) (by decide +kernel), List.forall_mem_cons.mpr ⟨gx_mem 89 (by decide +kernel) (by decide +kernel), List.forall_mem_cons.mpr ⟨cw_904, fun _ h => absurd h List.not_mem_nil⟩⟩⟩⟩⟩⟩) (by decide +kernel) (by decide)), List.forall_mem_cons.mpr ⟨
  (gs_ri dX2_lifts_13), fun _ h => absurd h List.not_mem_nil⟩⟩⟩⟩⟩⟩⟩⟩⟩
theorem kt_X2_lifts (g : gx_T) : ∀ q ∈ k_X2_lifts, gx_E g gc_md RX2 cX2_lifts 2 (some .int) "lifts" q.1 q.2 := kt_X2_lifts_0 g
set_option maxRecDepth 20000 in
theorem dX3_init_0 : decode cX3_init 0 = .ok (.aload_n 0, 1) := by decide +kernel
set_option maxRecDepth 20000 in
theorem dX3_init_1 : decode cX3_init 1 = .ok (.invokespecial 1, 3) := by decide +kernel
set_option maxRecDepth 20000 in
theorem dX3_init_4 : decode cX3_init 4 = .ok (.return_, 1) := by decide +kernel
set_option maxRecDepth 20000 in
theorem kt_X3_init_0 (g : gx_T) : ∀ q ∈ k_X3_init_0, gx_E g gc_md RX3 cX3_init 1 (none) "<init>" q.1 q.2 := List.forall_mem_cons.mpr ⟨(gs_aload_n dX3_init_0 rfl), List.forall_mem_cons.mpr ⟨
  (gs_cin (host := RX11) dX3_init_1 (md_0) (by decide +kernel) (List.forall_mem_cons.mpr ⟨gx_mem 205 (by decide +kernel) (by decide +kernel), List.forall_mem_cons.mpr ⟨gx_mem 88 (by decide +kernel) (by decide +kernel), List.forall_mem_cons.mpr ⟨cw_206, fun _ h => absurd h List.not_mem_nil⟩⟩⟩) (by decide +kernel) (by decide) rfl), List.forall_mem_cons.mpr ⟨
  (gs_rv dX3_init_4), fun _ h => absurd h List.not_mem_nil⟩⟩⟩
theorem kt_X3_init (g : gx_T) : ∀ q ∈ k_X3_init, gx_E g gc_md RX3 cX3_init 1 (none) "<init>" q.1 q.2 := kt_X3_init_0 g
set_option maxRecDepth 20000 in
theorem dX3_power_0 : decode cX3_power 0 = .ok (.iload_n 1, 1) := by decide +kernel
set_option maxRecDepth 20000 in
theorem dX3_power_1 : decode cX3_power 1 = .ok (.aload_n 2, 1) := by decide +kernel
set_option maxRecDepth 20000 in
theorem dX3_power_2 : decode cX3_power 2 = .ok (.getfield 7, 3) := by decide +kernel
set_option maxRecDepth 20000 in
theorem dX3_power_5 : decode cX3_power 5 = .ok (.iload_n 3, 1) := by decide +kernel
set_option maxRecDepth 20000 in
theorem dX3_power_6 : decode cX3_power 6 = .ok (.iaload, 1) := by decide +kernel
set_option maxRecDepth 20000 in
theorem dX3_power_7 : decode cX3_power 7 = .ok (.iadd, 1) := by decide +kernel
set_option maxRecDepth 20000 in
theorem dX3_power_8 : decode cX3_power 8 = .ok (.ireturn, 1) := by decide +kernel
set_option maxRecDepth 20000 in
theorem kt_X3_power_0 (g : gx_T) : ∀ q ∈ k_X3_power_0, gx_E g gc_md RX3 cX3_power 5 (some .int) "power" q.1 q.2 := List.forall_mem_cons.mpr ⟨(gs_iload_n dX3_power_0 rfl), List.forall_mem_cons.mpr ⟨
  (gs_aload_n dX3_power_1 rfl), List.forall_mem_cons.mpr ⟨
  (gs_gf (ref := "GriefCranes$Yard") dX3_power_2 (gx_mem 315 (by decide +kernel) (by decide +kernel)) (Or.inl rfl) gf_10_6), List.forall_mem_cons.mpr ⟨
  (gs_iload_n dX3_power_5 rfl), List.forall_mem_cons.mpr ⟨
  (gs_iaload dX3_power_6), List.forall_mem_cons.mpr ⟨
  (gs_iadd dX3_power_7), List.forall_mem_cons.mpr ⟨
  (gs_ri dX3_power_8), fun _ h => absurd h List.not_mem_nil⟩⟩⟩⟩⟩⟩⟩
theorem kt_X3_power (g : gx_T) : ∀ q ∈ k_X3_power, gx_E g gc_md RX3 cX3_power 5 (some .int) "power" q.1 q.2 := kt_X3_power_0 g
set_option maxRecDepth 20000 in
theorem dX3_lifts_0 : decode cX3_lifts 0 = .ok (.aload_n 0, 1) := by decide +kernel
set_option maxRecDepth 20000 in
theorem dX3_lifts_1 : decode cX3_lifts 1 = .ok (.bipush 20, 2) := by decide +kernel
set_option maxRecDepth 20000 in
theorem dX3_lifts_3 : decode cX3_lifts 3 = .ok (.invokevirtual 13, 3) := by decide +kernel
set_option maxRecDepth 20000 in
theorem dX3_lifts_6 : decode cX3_lifts 6 = .ok (.aload_n 0, 1) := by decide +kernel
set_option maxRecDepth 20000 in
theorem dX3_lifts_7 : decode cX3_lifts 7 = .ok (.iload_n 1, 1) := by decide +kernel
set_option maxRecDepth 20000 in
theorem dX3_lifts_8 : decode cX3_lifts 8 = .ok (.invokespecial 19, 3) := by decide +kernel
set_option maxRecDepth 20000 in
theorem dX3_lifts_11 : decode cX3_lifts 11 = .ok (.bipush 6, 2) := by decide +kernel
set_option maxRecDepth 20000 in
theorem dX3_lifts_13 : decode cX3_lifts 13 = .ok (.ixor, 1) := by decide +kernel
set_option maxRecDepth 20000 in
theorem dX3_lifts_14 : decode cX3_lifts 14 = .ok (.ireturn, 1) := by decide +kernel
set_option maxRecDepth 20000 in
theorem kt_X3_lifts_0 (g : gx_T) : ∀ q ∈ k_X3_lifts_0, gx_E g gc_md RX3 cX3_lifts 2 (some .int) "lifts" q.1 q.2 := List.forall_mem_cons.mpr ⟨(gs_aload_n dX3_lifts_0 rfl), List.forall_mem_cons.mpr ⟨
  (gs_bipush dX3_lifts_1 rfl), List.forall_mem_cons.mpr ⟨
  (gs_cv dX3_lifts_3 (fun q hq => by
      simp only [List.mem_cons, List.not_mem_nil, or_false] at hq
      rcases hq with rfl | rfl
      · exact Or.inr ⟨_, ⟨"GriefCranes$Jib", "began", "(I)V"⟩, RX0, gc_md 3, rfl, by decide, by decide +kernel, by decide +kernel, rfl, List.forall_mem_cons.mpr ⟨gx_mem 905 (by decide +kernel) (by decide +kernel), List.forall_mem_cons.mpr ⟨gx_mem 906 (by decide +kernel) (by decide +kernel), List.forall_mem_cons.mpr ⟨gx_mem 869 (by decide +kernel) (by decide +kernel), List.forall_mem_cons.mpr ⟨cw_870, List.forall_mem_cons.mpr ⟨gx_mem 907 (by decide +kernel) (by decide +kernel), List.forall_mem_cons.mpr ⟨gx_mem 869 (by decide +kernel) (by decide +kernel), List.forall_mem_cons.mpr ⟨gx_mem 88 (by decide +kernel) (by decide +kernel), List.forall_mem_cons.mpr ⟨cw_870, fun _ h => absurd h List.not_mem_nil⟩⟩⟩⟩⟩⟩⟩⟩⟩
      · exact Or.inr ⟨_, ⟨"GriefCranes$Jib", "began", "(I)V"⟩, RX0, gc_md 3, rfl, by decide, by decide +kernel, by decide +kernel, rfl, List.forall_mem_cons.mpr ⟨gx_mem 905 (by decide +kernel) (by decide +kernel), List.forall_mem_cons.mpr ⟨gx_mem 906 (by decide +kernel) (by decide +kernel), List.forall_mem_cons.mpr ⟨gx_mem 869 (by decide +kernel) (by decide +kernel), List.forall_mem_cons.mpr ⟨cw_870, List.forall_mem_cons.mpr ⟨gx_mem 908 (by decide +kernel) (by decide +kernel), List.forall_mem_cons.mpr ⟨gx_mem 869 (by decide +kernel) (by decide +kernel), List.forall_mem_cons.mpr ⟨gx_mem 88 (by decide +kernel) (by decide +kernel), List.forall_mem_cons.mpr ⟨cw_870, fun _ h => absurd h List.not_mem_nil⟩⟩⟩⟩⟩⟩⟩⟩⟩)), List.forall_mem_cons.mpr ⟨
  (gs_aload_n dX3_lifts_6 rfl), List.forall_mem_cons.mpr ⟨
  (gs_iload_n dX3_lifts_7 rfl), List.forall_mem_cons.mpr ⟨
  (gs_csu dX3_lifts_8 (md_5) (List.forall_mem_cons.mpr ⟨gx_mem 909 (by decide +kernel) (by decide +kernel), List.forall_mem_cons.mpr ⟨gx_mem 898 (by decide +kernel) (by decide +kernel), List.forall_mem_cons.mpr ⟨gx_mem 237 (by decide +kernel) (by decide +kernel), List.forall_mem_cons.mpr ⟨gx_mem 896 (by decide +kernel) (by decide +kernel), List.forall_mem_cons.mpr ⟨gx_mem 88 (by decide +kernel) (by decide +kernel), List.forall_mem_cons.mpr ⟨cw_920, fun _ h => absurd h List.not_mem_nil⟩⟩⟩⟩⟩⟩) (by decide +kernel) (by decide)), List.forall_mem_cons.mpr ⟨
  (gs_bipush dX3_lifts_11 rfl), List.forall_mem_cons.mpr ⟨
  (gs_ixor dX3_lifts_13), List.forall_mem_cons.mpr ⟨
  (gs_ri dX3_lifts_14), fun _ h => absurd h List.not_mem_nil⟩⟩⟩⟩⟩⟩⟩⟩⟩
theorem kt_X3_lifts (g : gx_T) : ∀ q ∈ k_X3_lifts, gx_E g gc_md RX3 cX3_lifts 2 (some .int) "lifts" q.1 q.2 := kt_X3_lifts_0 g
set_option maxRecDepth 20000 in
theorem dX4_init_0 : decode cX4_init 0 = .ok (.aload_n 0, 1) := by decide +kernel
set_option maxRecDepth 20000 in
theorem dX4_init_1 : decode cX4_init 1 = .ok (.invokespecial 1, 3) := by decide +kernel
set_option maxRecDepth 20000 in
theorem dX4_init_4 : decode cX4_init 4 = .ok (.return_, 1) := by decide +kernel
set_option maxRecDepth 20000 in
theorem kt_X4_init_0 (g : gx_T) : ∀ q ∈ k_X4_init_0, gx_E g gc_md RX4 cX4_init 1 (none) "<init>" q.1 q.2 := List.forall_mem_cons.mpr ⟨(gs_aload_n dX4_init_0 rfl), List.forall_mem_cons.mpr ⟨
  (gs_cin (host := RX11) dX4_init_1 (md_0) (by decide +kernel) (List.forall_mem_cons.mpr ⟨gx_mem 205 (by decide +kernel) (by decide +kernel), List.forall_mem_cons.mpr ⟨gx_mem 88 (by decide +kernel) (by decide +kernel), List.forall_mem_cons.mpr ⟨cw_206, fun _ h => absurd h List.not_mem_nil⟩⟩⟩) (by decide +kernel) (by decide) rfl), List.forall_mem_cons.mpr ⟨
  (gs_rv dX4_init_4), fun _ h => absurd h List.not_mem_nil⟩⟩⟩
theorem kt_X4_init (g : gx_T) : ∀ q ∈ k_X4_init, gx_E g gc_md RX4 cX4_init 1 (none) "<init>" q.1 q.2 := kt_X4_init_0 g
set_option maxRecDepth 20000 in
theorem dX4_power_0 : decode cX4_power 0 = .ok (.iload_n 1, 1) := by decide +kernel
set_option maxRecDepth 20000 in
theorem dX4_power_1 : decode cX4_power 1 = .ok (.iconst 2, 1) := by decide +kernel
set_option maxRecDepth 20000 in
theorem dX4_power_2 : decode cX4_power 2 = .ok (.idiv, 1) := by decide +kernel
set_option maxRecDepth 20000 in
theorem dX4_power_3 : decode cX4_power 3 = .ok (.bipush 10, 2) := by decide +kernel
set_option maxRecDepth 20000 in
theorem dX4_power_5 : decode cX4_power 5 = .ok (.iadd, 1) := by decide +kernel
set_option maxRecDepth 20000 in
theorem dX4_power_6 : decode cX4_power 6 = .ok (.ireturn, 1) := by decide +kernel
set_option maxRecDepth 20000 in
theorem kt_X4_power_0 (g : gx_T) : ∀ q ∈ k_X4_power_0, gx_E g gc_md RX4 cX4_power 5 (some .int) "power" q.1 q.2 := List.forall_mem_cons.mpr ⟨(gs_iload_n dX4_power_0 rfl), List.forall_mem_cons.mpr ⟨
  (gs_iconst dX4_power_1 rfl), List.forall_mem_cons.mpr ⟨
  (gs_idiv dX4_power_2), List.forall_mem_cons.mpr ⟨
  (gs_bipush dX4_power_3 rfl), List.forall_mem_cons.mpr ⟨
  (gs_iadd dX4_power_5), List.forall_mem_cons.mpr ⟨
  (gs_ri dX4_power_6), fun _ h => absurd h List.not_mem_nil⟩⟩⟩⟩⟩⟩
theorem kt_X4_power (g : gx_T) : ∀ q ∈ k_X4_power, gx_E g gc_md RX4 cX4_power 5 (some .int) "power" q.1 q.2 := kt_X4_power_0 g
set_option maxRecDepth 20000 in
theorem dX4_leans_0 : decode cX4_leans 0 = .ok (.aload_n 0, 1) := by decide +kernel
set_option maxRecDepth 20000 in
theorem dX4_leans_1 : decode cX4_leans 1 = .ok (.bipush 30, 2) := by decide +kernel
set_option maxRecDepth 20000 in
theorem dX4_leans_3 : decode cX4_leans 3 = .ok (.invokevirtual 7, 3) := by decide +kernel
set_option maxRecDepth 20000 in
theorem dX4_leans_6 : decode cX4_leans 6 = .ok (.aload_n 0, 1) := by decide +kernel
set_option maxRecDepth 20000 in
theorem dX4_leans_7 : decode cX4_leans 7 = .ok (.iload_n 1, 1) := by decide +kernel
set_option maxRecDepth 20000 in
theorem dX4_leans_8 : decode cX4_leans 8 = .ok (.iconst 3, 1) := by decide +kernel
set_option maxRecDepth 20000 in
theorem dX4_leans_9 : decode cX4_leans 9 = .ok (.imul, 1) := by decide +kernel
set_option maxRecDepth 20000 in
theorem dX4_leans_10 : decode cX4_leans 10 = .ok (.invokespecial 13, 3) := by decide +kernel
set_option maxRecDepth 20000 in
theorem dX4_leans_13 : decode cX4_leans 13 = .ok (.ireturn, 1) := by decide +kernel
set_option maxRecDepth 20000 in
theorem kt_X4_leans_0 (g : gx_T) : ∀ q ∈ k_X4_leans_0, gx_E g gc_md RX4 cX4_leans 2 (some .int) "leans" q.1 q.2 := List.forall_mem_cons.mpr ⟨(gs_aload_n dX4_leans_0 rfl), List.forall_mem_cons.mpr ⟨
  (gs_bipush dX4_leans_1 rfl), List.forall_mem_cons.mpr ⟨
  (gs_cv dX4_leans_3 (fun q hq => by
      simp only [List.mem_cons, List.not_mem_nil, or_false] at hq
      rcases hq with rfl | rfl
      · exact Or.inr ⟨_, ⟨"GriefCranes$Old", "began", "(I)V"⟩, RX0, gc_md 3, rfl, by decide, by decide +kernel, by decide +kernel, rfl, List.forall_mem_cons.mpr ⟨gx_mem 878 (by decide +kernel) (by decide +kernel), List.forall_mem_cons.mpr ⟨gx_mem 879 (by decide +kernel) (by decide +kernel), List.forall_mem_cons.mpr ⟨gx_mem 869 (by decide +kernel) (by decide +kernel), List.forall_mem_cons.mpr ⟨cw_870, List.forall_mem_cons.mpr ⟨gx_mem 880 (by decide +kernel) (by decide +kernel), List.forall_mem_cons.mpr ⟨gx_mem 869 (by decide +kernel) (by decide +kernel), List.forall_mem_cons.mpr ⟨gx_mem 88 (by decide +kernel) (by decide +kernel), List.forall_mem_cons.mpr ⟨cw_870, fun _ h => absurd h List.not_mem_nil⟩⟩⟩⟩⟩⟩⟩⟩⟩
      · exact Or.inr ⟨_, ⟨"GriefCranes$Old", "began", "(I)V"⟩, RX0, gc_md 3, rfl, by decide, by decide +kernel, by decide +kernel, rfl, List.forall_mem_cons.mpr ⟨gx_mem 878 (by decide +kernel) (by decide +kernel), List.forall_mem_cons.mpr ⟨gx_mem 879 (by decide +kernel) (by decide +kernel), List.forall_mem_cons.mpr ⟨gx_mem 869 (by decide +kernel) (by decide +kernel), List.forall_mem_cons.mpr ⟨cw_870, List.forall_mem_cons.mpr ⟨gx_mem 881 (by decide +kernel) (by decide +kernel), List.forall_mem_cons.mpr ⟨gx_mem 869 (by decide +kernel) (by decide +kernel), List.forall_mem_cons.mpr ⟨gx_mem 88 (by decide +kernel) (by decide +kernel), List.forall_mem_cons.mpr ⟨cw_870, fun _ h => absurd h List.not_mem_nil⟩⟩⟩⟩⟩⟩⟩⟩⟩)), List.forall_mem_cons.mpr ⟨
  (gs_aload_n dX4_leans_6 rfl), List.forall_mem_cons.mpr ⟨
  (gs_iload_n dX4_leans_7 rfl), List.forall_mem_cons.mpr ⟨
  (gs_iconst dX4_leans_8 rfl), List.forall_mem_cons.mpr ⟨
  (gs_imul dX4_leans_9), List.forall_mem_cons.mpr ⟨
  (gs_csu dX4_leans_10 (md_4) (List.forall_mem_cons.mpr ⟨gx_mem 882 (by decide +kernel) (by decide +kernel), List.forall_mem_cons.mpr ⟨gx_mem 861 (by decide +kernel) (by decide +kernel), List.forall_mem_cons.mpr ⟨gx_mem 248 (by decide +kernel) (by decide +kernel), List.forall_mem_cons.mpr ⟨gx_mem 859 (by decide +kernel) (by decide +kernel), List.forall_mem_cons.mpr ⟨gx_mem 88 (by decide +kernel) (by decide +kernel), List.forall_mem_cons.mpr ⟨cw_893, fun _ h => absurd h List.not_mem_nil⟩⟩⟩⟩⟩⟩) (by decide +kernel) (by decide)), List.forall_mem_cons.mpr ⟨
  (gs_ri dX4_leans_13), fun _ h => absurd h List.not_mem_nil⟩⟩⟩⟩⟩⟩⟩⟩⟩
theorem kt_X4_leans (g : gx_T) : ∀ q ∈ k_X4_leans, gx_E g gc_md RX4 cX4_leans 2 (some .int) "leans" q.1 q.2 := kt_X4_leans_0 g
set_option maxRecDepth 20000 in
theorem dX5_init_0 : decode cX5_init 0 = .ok (.aload_n 0, 1) := by decide +kernel
set_option maxRecDepth 20000 in
theorem dX5_init_1 : decode cX5_init 1 = .ok (.invokespecial 3, 3) := by decide +kernel
set_option maxRecDepth 20000 in
theorem dX5_init_4 : decode cX5_init 4 = .ok (.aload_n 0, 1) := by decide +kernel
set_option maxRecDepth 20000 in
theorem dX5_init_5 : decode cX5_init 5 = .ok (.iconst 0, 1) := by decide +kernel
set_option maxRecDepth 20000 in
theorem dX5_init_6 : decode cX5_init 6 = .ok (.putfield 9, 3) := by decide +kernel
set_option maxRecDepth 20000 in
theorem dX5_init_9 : decode cX5_init 9 = .ok (.aload_n 0, 1) := by decide +kernel
set_option maxRecDepth 20000 in
theorem dX5_init_10 : decode cX5_init 10 = .ok (.iload_n 1, 1) := by decide +kernel
set_option maxRecDepth 20000 in
theorem dX5_init_11 : decode cX5_init 11 = .ok (.newarray .int, 2) := by decide +kernel
set_option maxRecDepth 20000 in
theorem dX5_init_13 : decode cX5_init 13 = .ok (.putfield 15, 3) := by decide +kernel
set_option maxRecDepth 20000 in
theorem dX5_init_16 : decode cX5_init 16 = .ok (.aload_n 0, 1) := by decide +kernel
set_option maxRecDepth 20000 in
theorem dX5_init_17 : decode cX5_init 17 = .ok (.iload_n 1, 1) := by decide +kernel
set_option maxRecDepth 20000 in
theorem dX5_init_18 : decode cX5_init 18 = .ok (.newarray .int, 2) := by decide +kernel
set_option maxRecDepth 20000 in
theorem dX5_init_20 : decode cX5_init 20 = .ok (.putfield 19, 3) := by decide +kernel
set_option maxRecDepth 20000 in
theorem dX5_init_23 : decode cX5_init 23 = .ok (.aload_n 0, 1) := by decide +kernel
set_option maxRecDepth 20000 in
theorem dX5_init_24 : decode cX5_init 24 = .ok (.iload_n 1, 1) := by decide +kernel
set_option maxRecDepth 20000 in
theorem dX5_init_25 : decode cX5_init 25 = .ok (.newarray .int, 2) := by decide +kernel
set_option maxRecDepth 20000 in
theorem dX5_init_27 : decode cX5_init 27 = .ok (.putfield 22, 3) := by decide +kernel
set_option maxRecDepth 20000 in
theorem dX5_init_30 : decode cX5_init 30 = .ok (.return_, 1) := by decide +kernel
set_option maxRecDepth 20000 in
theorem kt_X5_init_0 (g : gx_T) : ∀ q ∈ k_X5_init_0, gx_E g gc_md RX5 cX5_init 2 (none) "<init>" q.1 q.2 := List.forall_mem_cons.mpr ⟨(gs_aload_n dX5_init_0 rfl), List.forall_mem_cons.mpr ⟨
  (gs_oi dX5_init_1 (gx_mem 118 (by decide +kernel) (by decide +kernel)) (gx_mem 111 (by decide +kernel) (by decide +kernel)) (cw_112)), List.forall_mem_cons.mpr ⟨
  (gs_aload_n dX5_init_4 rfl), List.forall_mem_cons.mpr ⟨
  (gs_iconst dX5_init_5 rfl), List.forall_mem_cons.mpr ⟨
  (gs_pf (ref := "GriefCranes$Rows") dX5_init_6 (gx_mem 125 (by decide +kernel) (by decide +kernel)) (Or.inl rfl) gf_5_3 (by decide +kernel)), List.forall_mem_cons.mpr ⟨
  (gs_aload_n dX5_init_9 rfl), List.forall_mem_cons.mpr ⟨
  (gs_iload_n dX5_init_10 rfl), List.forall_mem_cons.mpr ⟨
  (gs_newa (ty := .int) dX5_init_11 rfl (gx_mem 136 (by decide +kernel) (by decide +kernel)) (by decide) (fun _ _ => rfl) rfl rfl (fun _ h => h)), List.forall_mem_cons.mpr ⟨
  (gs_pff dX5_init_13 (gx_mem 119 (by decide +kernel) (by decide +kernel)) gf_5_0 (by decide +kernel)), List.forall_mem_cons.mpr ⟨
  (gs_aload_n dX5_init_16 rfl), List.forall_mem_cons.mpr ⟨
  (gs_iload_n dX5_init_17 rfl), List.forall_mem_cons.mpr ⟨
  (gs_newa (ty := .int) dX5_init_18 rfl (gx_mem 136 (by decide +kernel) (by decide +kernel)) (by decide) (fun _ _ => rfl) rfl rfl (fun _ h => h)), List.forall_mem_cons.mpr ⟨
  (gs_pff dX5_init_20 (gx_mem 121 (by decide +kernel) (by decide +kernel)) gf_5_1 (by decide +kernel)), List.forall_mem_cons.mpr ⟨
  (gs_aload_n dX5_init_23 rfl), List.forall_mem_cons.mpr ⟨
  (gs_iload_n dX5_init_24 rfl), List.forall_mem_cons.mpr ⟨
  (gs_newa (ty := .int) dX5_init_25 rfl (gx_mem 136 (by decide +kernel) (by decide +kernel)) (by decide) (fun _ _ => rfl) rfl rfl (fun _ h => h)), List.forall_mem_cons.mpr ⟨
  (gs_pff dX5_init_27 (gx_mem 123 (by decide +kernel) (by decide +kernel)) gf_5_2 (by decide +kernel)), List.forall_mem_cons.mpr ⟨
  (gs_rv dX5_init_30), fun _ h => absurd h List.not_mem_nil⟩⟩⟩⟩⟩⟩⟩⟩⟩⟩⟩⟩⟩⟩⟩⟩⟩⟩
theorem kt_X5_init (g : gx_T) : ∀ q ∈ k_X5_init, gx_E g gc_md RX5 cX5_init 2 (none) "<init>" q.1 q.2 := kt_X5_init_0 g
set_option maxRecDepth 20000 in
theorem dX5_add_0 : decode cX5_add 0 = .ok (.aload_n 0, 1) := by decide +kernel
set_option maxRecDepth 20000 in
theorem dX5_add_1 : decode cX5_add 1 = .ok (.getfield 9, 3) := by decide +kernel
set_option maxRecDepth 20000 in
theorem dX5_add_4 : decode cX5_add 4 = .ok (.aload_n 0, 1) := by decide +kernel
set_option maxRecDepth 20000 in
theorem dX5_add_5 : decode cX5_add 5 = .ok (.getfield 15, 3) := by decide +kernel
set_option maxRecDepth 20000 in
theorem dX5_add_8 : decode cX5_add 8 = .ok (.arraylength, 1) := by decide +kernel
set_option maxRecDepth 20000 in
theorem dX5_add_9 : decode cX5_add 9 = .ok (.if_icmp .lt 6, 3) := by decide +kernel
set_option maxRecDepth 20000 in
theorem dX5_add_12 : decode cX5_add 12 = .ok (.bipush (-4), 2) := by decide +kernel
set_option maxRecDepth 20000 in
theorem dX5_add_14 : decode cX5_add 14 = .ok (.ireturn, 1) := by decide +kernel
set_option maxRecDepth 20000 in
theorem dX5_add_15 : decode cX5_add 15 = .ok (.aload_n 0, 1) := by decide +kernel
set_option maxRecDepth 20000 in
theorem dX5_add_16 : decode cX5_add 16 = .ok (.getfield 15, 3) := by decide +kernel
set_option maxRecDepth 20000 in
theorem dX5_add_19 : decode cX5_add 19 = .ok (.aload_n 0, 1) := by decide +kernel
set_option maxRecDepth 20000 in
theorem dX5_add_20 : decode cX5_add 20 = .ok (.getfield 9, 3) := by decide +kernel
set_option maxRecDepth 20000 in
theorem dX5_add_23 : decode cX5_add 23 = .ok (.iload_n 1, 1) := by decide +kernel
set_option maxRecDepth 20000 in
theorem dX5_add_24 : decode cX5_add 24 = .ok (.iastore, 1) := by decide +kernel
set_option maxRecDepth 20000 in
theorem dX5_add_25 : decode cX5_add 25 = .ok (.aload_n 0, 1) := by decide +kernel
set_option maxRecDepth 20000 in
theorem dX5_add_26 : decode cX5_add 26 = .ok (.getfield 19, 3) := by decide +kernel
set_option maxRecDepth 20000 in
theorem dX5_add_29 : decode cX5_add 29 = .ok (.aload_n 0, 1) := by decide +kernel
set_option maxRecDepth 20000 in
theorem dX5_add_30 : decode cX5_add 30 = .ok (.getfield 9, 3) := by decide +kernel
set_option maxRecDepth 20000 in
theorem dX5_add_33 : decode cX5_add 33 = .ok (.iload_n 2, 1) := by decide +kernel
set_option maxRecDepth 20000 in
theorem dX5_add_34 : decode cX5_add 34 = .ok (.iastore, 1) := by decide +kernel
set_option maxRecDepth 20000 in
theorem dX5_add_35 : decode cX5_add 35 = .ok (.aload_n 0, 1) := by decide +kernel
set_option maxRecDepth 20000 in
theorem dX5_add_36 : decode cX5_add 36 = .ok (.getfield 22, 3) := by decide +kernel
set_option maxRecDepth 20000 in
theorem dX5_add_39 : decode cX5_add 39 = .ok (.aload_n 0, 1) := by decide +kernel
set_option maxRecDepth 20000 in
theorem dX5_add_40 : decode cX5_add 40 = .ok (.getfield 9, 3) := by decide +kernel
set_option maxRecDepth 20000 in
theorem dX5_add_43 : decode cX5_add 43 = .ok (.iload_n 3, 1) := by decide +kernel
set_option maxRecDepth 20000 in
theorem dX5_add_44 : decode cX5_add 44 = .ok (.iastore, 1) := by decide +kernel
set_option maxRecDepth 20000 in
theorem dX5_add_45 : decode cX5_add 45 = .ok (.aload_n 0, 1) := by decide +kernel
set_option maxRecDepth 20000 in
theorem dX5_add_46 : decode cX5_add 46 = .ok (.dup, 1) := by decide +kernel
set_option maxRecDepth 20000 in
theorem dX5_add_47 : decode cX5_add 47 = .ok (.getfield 9, 3) := by decide +kernel
set_option maxRecDepth 20000 in
theorem dX5_add_50 : decode cX5_add 50 = .ok (.iconst 1, 1) := by decide +kernel
set_option maxRecDepth 20000 in
theorem dX5_add_51 : decode cX5_add 51 = .ok (.iadd, 1) := by decide +kernel
set_option maxRecDepth 20000 in
theorem dX5_add_52 : decode cX5_add 52 = .ok (.putfield 9, 3) := by decide +kernel
set_option maxRecDepth 20000 in
theorem dX5_add_55 : decode cX5_add 55 = .ok (.aload_n 0, 1) := by decide +kernel
set_option maxRecDepth 20000 in
theorem dX5_add_56 : decode cX5_add 56 = .ok (.getfield 9, 3) := by decide +kernel
set_option maxRecDepth 20000 in
theorem dX5_add_59 : decode cX5_add 59 = .ok (.ireturn, 1) := by decide +kernel
set_option maxRecDepth 20000 in
theorem kt_X5_add_0 (g : gx_T) : ∀ q ∈ k_X5_add_0, gx_E g gc_md RX5 cX5_add 4 (some .int) "add" q.1 q.2 := List.forall_mem_cons.mpr ⟨(gs_aload_n dX5_add_0 rfl), List.forall_mem_cons.mpr ⟨
  (gs_gf (ref := "GriefCranes$Rows") dX5_add_1 (gx_mem 125 (by decide +kernel) (by decide +kernel)) (Or.inl rfl) gf_5_3), List.forall_mem_cons.mpr ⟨
  (gs_aload_n dX5_add_4 rfl), List.forall_mem_cons.mpr ⟨
  (gs_gf (ref := "GriefCranes$Rows") dX5_add_5 (gx_mem 119 (by decide +kernel) (by decide +kernel)) (Or.inl rfl) gf_5_0), List.forall_mem_cons.mpr ⟨
  (gs_alen dX5_add_8), List.forall_mem_cons.mpr ⟨
  (gs_icmp_lt dX5_add_9 rfl), List.forall_mem_cons.mpr ⟨
  (gs_bipush dX5_add_12 rfl), List.forall_mem_cons.mpr ⟨
  (gs_ri dX5_add_14), List.forall_mem_cons.mpr ⟨
  (gs_aload_n dX5_add_15 rfl), List.forall_mem_cons.mpr ⟨
  (gs_gf (ref := "GriefCranes$Rows") dX5_add_16 (gx_mem 119 (by decide +kernel) (by decide +kernel)) (Or.inl rfl) gf_5_0), List.forall_mem_cons.mpr ⟨
  (gs_aload_n dX5_add_19 rfl), List.forall_mem_cons.mpr ⟨
  (gs_gf (ref := "GriefCranes$Rows") dX5_add_20 (gx_mem 125 (by decide +kernel) (by decide +kernel)) (Or.inl rfl) gf_5_3), List.forall_mem_cons.mpr ⟨
  (gs_iload_n dX5_add_23 rfl), List.forall_mem_cons.mpr ⟨
  (gs_iastore dX5_add_24), List.forall_mem_cons.mpr ⟨
  (gs_aload_n dX5_add_25 rfl), List.forall_mem_cons.mpr ⟨
  (gs_gf (ref := "GriefCranes$Rows") dX5_add_26 (gx_mem 121 (by decide +kernel) (by decide +kernel)) (Or.inl rfl) gf_5_1), List.forall_mem_cons.mpr ⟨
  (gs_aload_n dX5_add_29 rfl), List.forall_mem_cons.mpr ⟨
  (gs_gf (ref := "GriefCranes$Rows") dX5_add_30 (gx_mem 125 (by decide +kernel) (by decide +kernel)) (Or.inl rfl) gf_5_3), List.forall_mem_cons.mpr ⟨
  (gs_iload_n dX5_add_33 rfl), List.forall_mem_cons.mpr ⟨
  (gs_iastore dX5_add_34), List.forall_mem_cons.mpr ⟨
  (gs_aload_n dX5_add_35 rfl), List.forall_mem_cons.mpr ⟨
  (gs_gf (ref := "GriefCranes$Rows") dX5_add_36 (gx_mem 123 (by decide +kernel) (by decide +kernel)) (Or.inl rfl) gf_5_2), List.forall_mem_cons.mpr ⟨
  (gs_aload_n dX5_add_39 rfl), List.forall_mem_cons.mpr ⟨
  (gs_gf (ref := "GriefCranes$Rows") dX5_add_40 (gx_mem 125 (by decide +kernel) (by decide +kernel)) (Or.inl rfl) gf_5_3), List.forall_mem_cons.mpr ⟨
  (gs_iload_n dX5_add_43 rfl), List.forall_mem_cons.mpr ⟨
  (gs_iastore dX5_add_44), List.forall_mem_cons.mpr ⟨
  (gs_aload_n dX5_add_45 rfl), List.forall_mem_cons.mpr ⟨
  (gs_dup dX5_add_46), List.forall_mem_cons.mpr ⟨
  (gs_gf (ref := "GriefCranes$Rows") dX5_add_47 (gx_mem 125 (by decide +kernel) (by decide +kernel)) (Or.inl rfl) gf_5_3), List.forall_mem_cons.mpr ⟨
  (gs_iconst dX5_add_50 rfl), List.forall_mem_cons.mpr ⟨
  (gs_iadd dX5_add_51), List.forall_mem_cons.mpr ⟨
  (gs_pf (ref := "GriefCranes$Rows") dX5_add_52 (gx_mem 125 (by decide +kernel) (by decide +kernel)) (Or.inl rfl) gf_5_3 (by decide +kernel)), fun _ h => absurd h List.not_mem_nil⟩⟩⟩⟩⟩⟩⟩⟩⟩⟩⟩⟩⟩⟩⟩⟩⟩⟩⟩⟩⟩⟩⟩⟩⟩⟩⟩⟩⟩⟩⟩⟩
set_option maxRecDepth 20000 in
theorem kt_X5_add_1 (g : gx_T) : ∀ q ∈ k_X5_add_1, gx_E g gc_md RX5 cX5_add 4 (some .int) "add" q.1 q.2 := List.forall_mem_cons.mpr ⟨(gs_aload_n dX5_add_55 rfl), List.forall_mem_cons.mpr ⟨
  (gs_gf (ref := "GriefCranes$Rows") dX5_add_56 (gx_mem 125 (by decide +kernel) (by decide +kernel)) (Or.inl rfl) gf_5_3), List.forall_mem_cons.mpr ⟨
  (gs_ri dX5_add_59), fun _ h => absurd h List.not_mem_nil⟩⟩⟩
theorem kt_X5_add (g : gx_T) : ∀ q ∈ k_X5_add, gx_E g gc_md RX5 cX5_add 4 (some .int) "add" q.1 q.2 := List.forall_mem_append.mpr ⟨kt_X5_add_0 g, kt_X5_add_1 g⟩
set_option maxRecDepth 20000 in
theorem dX5_clear_0 : decode cX5_clear 0 = .ok (.aload_n 0, 1) := by decide +kernel
set_option maxRecDepth 20000 in
theorem dX5_clear_1 : decode cX5_clear 1 = .ok (.iconst 0, 1) := by decide +kernel
set_option maxRecDepth 20000 in
theorem dX5_clear_2 : decode cX5_clear 2 = .ok (.putfield 9, 3) := by decide +kernel
set_option maxRecDepth 20000 in
theorem dX5_clear_5 : decode cX5_clear 5 = .ok (.aload_n 0, 1) := by decide +kernel
set_option maxRecDepth 20000 in
theorem dX5_clear_6 : decode cX5_clear 6 = .ok (.getfield 9, 3) := by decide +kernel
set_option maxRecDepth 20000 in
theorem dX5_clear_9 : decode cX5_clear 9 = .ok (.ireturn, 1) := by decide +kernel
set_option maxRecDepth 20000 in
theorem kt_X5_clear_0 (g : gx_T) : ∀ q ∈ k_X5_clear_0, gx_E g gc_md RX5 cX5_clear 1 (some .int) "clear" q.1 q.2 := List.forall_mem_cons.mpr ⟨(gs_aload_n dX5_clear_0 rfl), List.forall_mem_cons.mpr ⟨
  (gs_iconst dX5_clear_1 rfl), List.forall_mem_cons.mpr ⟨
  (gs_pf (ref := "GriefCranes$Rows") dX5_clear_2 (gx_mem 125 (by decide +kernel) (by decide +kernel)) (Or.inl rfl) gf_5_3 (by decide +kernel)), List.forall_mem_cons.mpr ⟨
  (gs_aload_n dX5_clear_5 rfl), List.forall_mem_cons.mpr ⟨
  (gs_gf (ref := "GriefCranes$Rows") dX5_clear_6 (gx_mem 125 (by decide +kernel) (by decide +kernel)) (Or.inl rfl) gf_5_3), List.forall_mem_cons.mpr ⟨
  (gs_ri dX5_clear_9), fun _ h => absurd h List.not_mem_nil⟩⟩⟩⟩⟩⟩
theorem kt_X5_clear (g : gx_T) : ∀ q ∈ k_X5_clear, gx_E g gc_md RX5 cX5_clear 1 (some .int) "clear" q.1 q.2 := kt_X5_clear_0 g
set_option maxRecDepth 20000 in
theorem dX5_copyFrom_0 : decode cX5_copyFrom 0 = .ok (.aload_n 0, 1) := by decide +kernel
set_option maxRecDepth 20000 in
theorem dX5_copyFrom_1 : decode cX5_copyFrom 1 = .ok (.aload_n 1, 1) := by decide +kernel
set_option maxRecDepth 20000 in
theorem dX5_copyFrom_2 : decode cX5_copyFrom 2 = .ok (.getfield 9, 3) := by decide +kernel
set_option maxRecDepth 20000 in
theorem dX5_copyFrom_5 : decode cX5_copyFrom 5 = .ok (.putfield 9, 3) := by decide +kernel
set_option maxRecDepth 20000 in
theorem dX5_copyFrom_8 : decode cX5_copyFrom 8 = .ok (.aload_n 1, 1) := by decide +kernel
set_option maxRecDepth 20000 in
theorem dX5_copyFrom_9 : decode cX5_copyFrom 9 = .ok (.getfield 15, 3) := by decide +kernel
set_option maxRecDepth 20000 in
theorem dX5_copyFrom_12 : decode cX5_copyFrom 12 = .ok (.iconst 0, 1) := by decide +kernel
set_option maxRecDepth 20000 in
theorem dX5_copyFrom_13 : decode cX5_copyFrom 13 = .ok (.aload_n 0, 1) := by decide +kernel
set_option maxRecDepth 20000 in
theorem dX5_copyFrom_14 : decode cX5_copyFrom 14 = .ok (.getfield 15, 3) := by decide +kernel
set_option maxRecDepth 20000 in
theorem dX5_copyFrom_17 : decode cX5_copyFrom 17 = .ok (.iconst 0, 1) := by decide +kernel
set_option maxRecDepth 20000 in
theorem dX5_copyFrom_18 : decode cX5_copyFrom 18 = .ok (.aload_n 0, 1) := by decide +kernel
set_option maxRecDepth 20000 in
theorem dX5_copyFrom_19 : decode cX5_copyFrom 19 = .ok (.getfield 9, 3) := by decide +kernel
set_option maxRecDepth 20000 in
theorem dX5_copyFrom_22 : decode cX5_copyFrom 22 = .ok (.invokestatic 25, 3) := by decide +kernel
set_option maxRecDepth 20000 in
theorem dX5_copyFrom_25 : decode cX5_copyFrom 25 = .ok (.aload_n 1, 1) := by decide +kernel
set_option maxRecDepth 20000 in
theorem dX5_copyFrom_26 : decode cX5_copyFrom 26 = .ok (.getfield 19, 3) := by decide +kernel
set_option maxRecDepth 20000 in
theorem dX5_copyFrom_29 : decode cX5_copyFrom 29 = .ok (.iconst 0, 1) := by decide +kernel
set_option maxRecDepth 20000 in
theorem dX5_copyFrom_30 : decode cX5_copyFrom 30 = .ok (.aload_n 0, 1) := by decide +kernel
set_option maxRecDepth 20000 in
theorem dX5_copyFrom_31 : decode cX5_copyFrom 31 = .ok (.getfield 19, 3) := by decide +kernel
set_option maxRecDepth 20000 in
theorem dX5_copyFrom_34 : decode cX5_copyFrom 34 = .ok (.iconst 0, 1) := by decide +kernel
set_option maxRecDepth 20000 in
theorem dX5_copyFrom_35 : decode cX5_copyFrom 35 = .ok (.aload_n 0, 1) := by decide +kernel
set_option maxRecDepth 20000 in
theorem dX5_copyFrom_36 : decode cX5_copyFrom 36 = .ok (.getfield 9, 3) := by decide +kernel
set_option maxRecDepth 20000 in
theorem dX5_copyFrom_39 : decode cX5_copyFrom 39 = .ok (.invokestatic 25, 3) := by decide +kernel
set_option maxRecDepth 20000 in
theorem dX5_copyFrom_42 : decode cX5_copyFrom 42 = .ok (.aload_n 1, 1) := by decide +kernel
set_option maxRecDepth 20000 in
theorem dX5_copyFrom_43 : decode cX5_copyFrom 43 = .ok (.getfield 22, 3) := by decide +kernel
set_option maxRecDepth 20000 in
theorem dX5_copyFrom_46 : decode cX5_copyFrom 46 = .ok (.iconst 0, 1) := by decide +kernel
set_option maxRecDepth 20000 in
theorem dX5_copyFrom_47 : decode cX5_copyFrom 47 = .ok (.aload_n 0, 1) := by decide +kernel
set_option maxRecDepth 20000 in
theorem dX5_copyFrom_48 : decode cX5_copyFrom 48 = .ok (.getfield 22, 3) := by decide +kernel
set_option maxRecDepth 20000 in
theorem dX5_copyFrom_51 : decode cX5_copyFrom 51 = .ok (.iconst 0, 1) := by decide +kernel
set_option maxRecDepth 20000 in
theorem dX5_copyFrom_52 : decode cX5_copyFrom 52 = .ok (.aload_n 0, 1) := by decide +kernel
set_option maxRecDepth 20000 in
theorem dX5_copyFrom_53 : decode cX5_copyFrom 53 = .ok (.getfield 9, 3) := by decide +kernel
set_option maxRecDepth 20000 in
theorem dX5_copyFrom_56 : decode cX5_copyFrom 56 = .ok (.invokestatic 25, 3) := by decide +kernel
set_option maxRecDepth 20000 in
theorem dX5_copyFrom_59 : decode cX5_copyFrom 59 = .ok (.return_, 1) := by decide +kernel
set_option maxRecDepth 20000 in
theorem kt_X5_copyFrom_0 (g : gx_T) : ∀ q ∈ k_X5_copyFrom_0, gx_E g gc_md RX5 cX5_copyFrom 2 (none) "copyFrom" q.1 q.2 := List.forall_mem_cons.mpr ⟨(gs_aload_n dX5_copyFrom_0 rfl), List.forall_mem_cons.mpr ⟨
  (gs_aload_n dX5_copyFrom_1 rfl), List.forall_mem_cons.mpr ⟨
  (gs_gf (ref := "GriefCranes$Rows") dX5_copyFrom_2 (gx_mem 125 (by decide +kernel) (by decide +kernel)) (Or.inl rfl) gf_5_3), List.forall_mem_cons.mpr ⟨
  (gs_pf (ref := "GriefCranes$Rows") dX5_copyFrom_5 (gx_mem 125 (by decide +kernel) (by decide +kernel)) (Or.inl rfl) gf_5_3 (by decide +kernel)), List.forall_mem_cons.mpr ⟨
  (gs_aload_n dX5_copyFrom_8 rfl), List.forall_mem_cons.mpr ⟨
  (gs_gf (ref := "GriefCranes$Rows") dX5_copyFrom_9 (gx_mem 119 (by decide +kernel) (by decide +kernel)) (Or.inl rfl) gf_5_0), List.forall_mem_cons.mpr ⟨
  (gs_iconst dX5_copyFrom_12 rfl), List.forall_mem_cons.mpr ⟨
  (gs_aload_n dX5_copyFrom_13 rfl), List.forall_mem_cons.mpr ⟨
  (gs_gf (ref := "GriefCranes$Rows") dX5_copyFrom_14 (gx_mem 119 (by decide +kernel) (by decide +kernel)) (Or.inl rfl) gf_5_0), List.forall_mem_cons.mpr ⟨
  (gs_iconst dX5_copyFrom_17 rfl), List.forall_mem_cons.mpr ⟨
  (gs_aload_n dX5_copyFrom_18 rfl), List.forall_mem_cons.mpr ⟨
  (gs_gf (ref := "GriefCranes$Rows") dX5_copyFrom_19 (gx_mem 125 (by decide +kernel) (by decide +kernel)) (Or.inl rfl) gf_5_3), List.forall_mem_cons.mpr ⟨
  (gs_cpI dX5_copyFrom_22 (List.forall_mem_cons.mpr ⟨gx_mem 838 (by decide +kernel) (by decide +kernel), List.forall_mem_cons.mpr ⟨gx_mem 516 (by decide +kernel) (by decide +kernel), List.forall_mem_cons.mpr ⟨gx_mem 515 (by decide +kernel) (by decide +kernel), List.forall_mem_cons.mpr ⟨gx_mem 98 (by decide +kernel) (by decide +kernel), fun _ h => absurd h List.not_mem_nil⟩⟩⟩⟩)), List.forall_mem_cons.mpr ⟨
  (gs_aload_n dX5_copyFrom_25 rfl), List.forall_mem_cons.mpr ⟨
  (gs_gf (ref := "GriefCranes$Rows") dX5_copyFrom_26 (gx_mem 121 (by decide +kernel) (by decide +kernel)) (Or.inl rfl) gf_5_1), List.forall_mem_cons.mpr ⟨
  (gs_iconst dX5_copyFrom_29 rfl), List.forall_mem_cons.mpr ⟨
  (gs_aload_n dX5_copyFrom_30 rfl), List.forall_mem_cons.mpr ⟨
  (gs_gf (ref := "GriefCranes$Rows") dX5_copyFrom_31 (gx_mem 121 (by decide +kernel) (by decide +kernel)) (Or.inl rfl) gf_5_1), List.forall_mem_cons.mpr ⟨
  (gs_iconst dX5_copyFrom_34 rfl), List.forall_mem_cons.mpr ⟨
  (gs_aload_n dX5_copyFrom_35 rfl), List.forall_mem_cons.mpr ⟨
  (gs_gf (ref := "GriefCranes$Rows") dX5_copyFrom_36 (gx_mem 125 (by decide +kernel) (by decide +kernel)) (Or.inl rfl) gf_5_3), List.forall_mem_cons.mpr ⟨
  (gs_cpI dX5_copyFrom_39 (List.forall_mem_cons.mpr ⟨gx_mem 838 (by decide +kernel) (by decide +kernel), List.forall_mem_cons.mpr ⟨gx_mem 516 (by decide +kernel) (by decide +kernel), List.forall_mem_cons.mpr ⟨gx_mem 515 (by decide +kernel) (by decide +kernel), List.forall_mem_cons.mpr ⟨gx_mem 98 (by decide +kernel) (by decide +kernel), fun _ h => absurd h List.not_mem_nil⟩⟩⟩⟩)), List.forall_mem_cons.mpr ⟨
  (gs_aload_n dX5_copyFrom_42 rfl), List.forall_mem_cons.mpr ⟨
  (gs_gf (ref := "GriefCranes$Rows") dX5_copyFrom_43 (gx_mem 123 (by decide +kernel) (by decide +kernel)) (Or.inl rfl) gf_5_2), List.forall_mem_cons.mpr ⟨
  (gs_iconst dX5_copyFrom_46 rfl), List.forall_mem_cons.mpr ⟨
  (gs_aload_n dX5_copyFrom_47 rfl), List.forall_mem_cons.mpr ⟨
  (gs_gf (ref := "GriefCranes$Rows") dX5_copyFrom_48 (gx_mem 123 (by decide +kernel) (by decide +kernel)) (Or.inl rfl) gf_5_2), List.forall_mem_cons.mpr ⟨
  (gs_iconst dX5_copyFrom_51 rfl), List.forall_mem_cons.mpr ⟨
  (gs_aload_n dX5_copyFrom_52 rfl), List.forall_mem_cons.mpr ⟨
  (gs_gf (ref := "GriefCranes$Rows") dX5_copyFrom_53 (gx_mem 125 (by decide +kernel) (by decide +kernel)) (Or.inl rfl) gf_5_3), List.forall_mem_cons.mpr ⟨
  (gs_cpI dX5_copyFrom_56 (List.forall_mem_cons.mpr ⟨gx_mem 838 (by decide +kernel) (by decide +kernel), List.forall_mem_cons.mpr ⟨gx_mem 516 (by decide +kernel) (by decide +kernel), List.forall_mem_cons.mpr ⟨gx_mem 515 (by decide +kernel) (by decide +kernel), List.forall_mem_cons.mpr ⟨gx_mem 98 (by decide +kernel) (by decide +kernel), fun _ h => absurd h List.not_mem_nil⟩⟩⟩⟩)), List.forall_mem_cons.mpr ⟨
  (gs_rv dX5_copyFrom_59), fun _ h => absurd h List.not_mem_nil⟩⟩⟩⟩⟩⟩⟩⟩⟩⟩⟩⟩⟩⟩⟩⟩⟩⟩⟩⟩⟩⟩⟩⟩⟩⟩⟩⟩⟩⟩⟩⟩
theorem kt_X5_copyFrom (g : gx_T) : ∀ q ∈ k_X5_copyFrom, gx_E g gc_md RX5 cX5_copyFrom 2 (none) "copyFrom" q.1 q.2 := kt_X5_copyFrom_0 g
set_option maxRecDepth 20000 in
theorem dX6_init_0 : decode cX6_init 0 = .ok (.aload_n 0, 1) := by decide +kernel
set_option maxRecDepth 20000 in
theorem dX6_init_1 : decode cX6_init 1 = .ok (.invokespecial 1, 3) := by decide +kernel
set_option maxRecDepth 20000 in
theorem dX6_init_4 : decode cX6_init 4 = .ok (.return_, 1) := by decide +kernel
set_option maxRecDepth 20000 in
theorem kt_X6_init_0 (g : gx_T) : ∀ q ∈ k_X6_init_0, gx_E g gc_md RX6 cX6_init 1 (none) "<init>" q.1 q.2 := List.forall_mem_cons.mpr ⟨(gs_aload_n dX6_init_0 rfl), List.forall_mem_cons.mpr ⟨
  (gs_cin (host := RX11) dX6_init_1 (md_30) (by decide +kernel) (List.forall_mem_cons.mpr ⟨gx_mem 241 (by decide +kernel) (by decide +kernel), List.forall_mem_cons.mpr ⟨gx_mem 90 (by decide +kernel) (by decide +kernel), List.forall_mem_cons.mpr ⟨cw_242, fun _ h => absurd h List.not_mem_nil⟩⟩⟩) (by decide +kernel) (by decide) rfl), List.forall_mem_cons.mpr ⟨
  (gs_rv dX6_init_4), fun _ h => absurd h List.not_mem_nil⟩⟩⟩
theorem kt_X6_init (g : gx_T) : ∀ q ∈ k_X6_init, gx_E g gc_md RX6 cX6_init 1 (none) "<init>" q.1 q.2 := kt_X6_init_0 g
set_option maxRecDepth 20000 in
theorem dX6_power_0 : decode cX6_power 0 = .ok (.aload_n 0, 1) := by decide +kernel
set_option maxRecDepth 20000 in
theorem dX6_power_1 : decode cX6_power 1 = .ok (.iload_n 1, 1) := by decide +kernel
set_option maxRecDepth 20000 in
theorem dX6_power_2 : decode cX6_power 2 = .ok (.aload_n 2, 1) := by decide +kernel
set_option maxRecDepth 20000 in
theorem dX6_power_3 : decode cX6_power 3 = .ok (.iload_n 3, 1) := by decide +kernel
set_option maxRecDepth 20000 in
theorem dX6_power_4 : decode cX6_power 4 = .ok (.iload 4, 2) := by decide +kernel
set_option maxRecDepth 20000 in
theorem dX6_power_6 : decode cX6_power 6 = .ok (.invokespecial 7, 3) := by decide +kernel
set_option maxRecDepth 20000 in
theorem dX6_power_9 : decode cX6_power 9 = .ok (.bipush 9, 2) := by decide +kernel
set_option maxRecDepth 20000 in
theorem dX6_power_11 : decode cX6_power 11 = .ok (.aload_n 2, 1) := by decide +kernel
set_option maxRecDepth 20000 in
theorem dX6_power_12 : decode cX6_power 12 = .ok (.getfield 11, 3) := by decide +kernel
set_option maxRecDepth 20000 in
theorem dX6_power_15 : decode cX6_power 15 = .ok (.iload_n 3, 1) := by decide +kernel
set_option maxRecDepth 20000 in
theorem dX6_power_16 : decode cX6_power 16 = .ok (.iaload, 1) := by decide +kernel
set_option maxRecDepth 20000 in
theorem dX6_power_17 : decode cX6_power 17 = .ok (.invokestatic 17, 3) := by decide +kernel
set_option maxRecDepth 20000 in
theorem dX6_power_20 : decode cX6_power 20 = .ok (.isub, 1) := by decide +kernel
set_option maxRecDepth 20000 in
theorem dX6_power_21 : decode cX6_power 21 = .ok (.ireturn, 1) := by decide +kernel
set_option maxRecDepth 20000 in
theorem kt_X6_power_0 (g : gx_T) : ∀ q ∈ k_X6_power_0, gx_E g gc_md RX6 cX6_power 5 (some .int) "power" q.1 q.2 := List.forall_mem_cons.mpr ⟨(gs_aload_n dX6_power_0 rfl), List.forall_mem_cons.mpr ⟨
  (gs_iload_n dX6_power_1 rfl), List.forall_mem_cons.mpr ⟨
  (gs_aload_n dX6_power_2 rfl), List.forall_mem_cons.mpr ⟨
  (gs_iload_n dX6_power_3 rfl), List.forall_mem_cons.mpr ⟨
  (gs_iload dX6_power_4), List.forall_mem_cons.mpr ⟨
  (gs_csu dX6_power_6 (md_31) (List.forall_mem_cons.mpr ⟨gx_mem 482 (by decide +kernel) (by decide +kernel), List.forall_mem_cons.mpr ⟨gx_mem 1617 (by decide +kernel) (by decide +kernel), List.forall_mem_cons.mpr ⟨gx_mem 281 (by decide +kernel) (by decide +kernel), List.forall_mem_cons.mpr ⟨gx_mem 477 (by decide +kernel) (by decide +kernel), List.forall_mem_cons.mpr ⟨gx_mem 90 (by decide +kernel) (by decide +kernel), List.forall_mem_cons.mpr ⟨cw_478, fun _ h => absurd h List.not_mem_nil⟩⟩⟩⟩⟩⟩) (by decide +kernel) (by decide)), List.forall_mem_cons.mpr ⟨
  (gs_bipush dX6_power_9 rfl), List.forall_mem_cons.mpr ⟨
  (gs_aload_n dX6_power_11 rfl), List.forall_mem_cons.mpr ⟨
  (gs_gf (ref := "GriefCranes$Yard") dX6_power_12 (gx_mem 319 (by decide +kernel) (by decide +kernel)) (Or.inl rfl) gf_10_7), List.forall_mem_cons.mpr ⟨
  (gs_iload_n dX6_power_15 rfl), List.forall_mem_cons.mpr ⟨
  (gs_iaload dX6_power_16), List.forall_mem_cons.mpr ⟨
  (gs_min dX6_power_17 (List.forall_mem_cons.mpr ⟨gx_mem 483 (by decide +kernel) (by decide +kernel), List.forall_mem_cons.mpr ⟨gx_mem 484 (by decide +kernel) (by decide +kernel), List.forall_mem_cons.mpr ⟨gx_mem 97 (by decide +kernel) (by decide +kernel), List.forall_mem_cons.mpr ⟨cw_485, fun _ h => absurd h List.not_mem_nil⟩⟩⟩⟩)), List.forall_mem_cons.mpr ⟨
  (gs_isub dX6_power_20), List.forall_mem_cons.mpr ⟨
  (gs_ri dX6_power_21), fun _ h => absurd h List.not_mem_nil⟩⟩⟩⟩⟩⟩⟩⟩⟩⟩⟩⟩⟩⟩
theorem kt_X6_power (g : gx_T) : ∀ q ∈ k_X6_power, gx_E g gc_md RX6 cX6_power 5 (some .int) "power" q.1 q.2 := kt_X6_power_0 g
set_option maxRecDepth 20000 in
theorem dX6_tells_0 : decode cX6_tells 0 = .ok (.aload_n 0, 1) := by decide +kernel
set_option maxRecDepth 20000 in
theorem dX6_tells_1 : decode cX6_tells 1 = .ok (.bipush 60, 2) := by decide +kernel
set_option maxRecDepth 20000 in
theorem dX6_tells_3 : decode cX6_tells 3 = .ok (.invokevirtual 23, 3) := by decide +kernel
set_option maxRecDepth 20000 in
theorem dX6_tells_6 : decode cX6_tells 6 = .ok (.aload_n 0, 1) := by decide +kernel
set_option maxRecDepth 20000 in
theorem dX6_tells_7 : decode cX6_tells 7 = .ok (.iload_n 1, 1) := by decide +kernel
set_option maxRecDepth 20000 in
theorem dX6_tells_8 : decode cX6_tells 8 = .ok (.aload_n 0, 1) := by decide +kernel
set_option maxRecDepth 20000 in
theorem dX6_tells_9 : decode cX6_tells 9 = .ok (.getfield 29, 3) := by decide +kernel
set_option maxRecDepth 20000 in
theorem dX6_tells_12 : decode cX6_tells 12 = .ok (.isub, 1) := by decide +kernel
set_option maxRecDepth 20000 in
theorem dX6_tells_13 : decode cX6_tells 13 = .ok (.invokespecial 33, 3) := by decide +kernel
set_option maxRecDepth 20000 in
theorem dX6_tells_16 : decode cX6_tells 16 = .ok (.ireturn, 1) := by decide +kernel
set_option maxRecDepth 20000 in
theorem kt_X6_tells_0 (g : gx_T) : ∀ q ∈ k_X6_tells_0, gx_E g gc_md RX6 cX6_tells 2 (some .int) "tells" q.1 q.2 := List.forall_mem_cons.mpr ⟨(gs_aload_n dX6_tells_0 rfl), List.forall_mem_cons.mpr ⟨
  (gs_bipush dX6_tells_1 rfl), List.forall_mem_cons.mpr ⟨
  (gs_cv dX6_tells_3 (fun q hq => by
      simp only [List.mem_cons, List.not_mem_nil, or_false] at hq
      subst hq
      exact Or.inr ⟨_, ⟨"GriefCranes$Rusty", "began", "(I)V"⟩, RX0, gc_md 3, rfl, by decide, by decide +kernel, by decide +kernel, rfl, List.forall_mem_cons.mpr ⟨gx_mem 932 (by decide +kernel) (by decide +kernel), List.forall_mem_cons.mpr ⟨gx_mem 933 (by decide +kernel) (by decide +kernel), List.forall_mem_cons.mpr ⟨gx_mem 869 (by decide +kernel) (by decide +kernel), List.forall_mem_cons.mpr ⟨cw_870, List.forall_mem_cons.mpr ⟨gx_mem 934 (by decide +kernel) (by decide +kernel), List.forall_mem_cons.mpr ⟨gx_mem 869 (by decide +kernel) (by decide +kernel), List.forall_mem_cons.mpr ⟨gx_mem 88 (by decide +kernel) (by decide +kernel), List.forall_mem_cons.mpr ⟨cw_870, fun _ h => absurd h List.not_mem_nil⟩⟩⟩⟩⟩⟩⟩⟩⟩)), List.forall_mem_cons.mpr ⟨
  (gs_aload_n dX6_tells_6 rfl), List.forall_mem_cons.mpr ⟨
  (gs_iload_n dX6_tells_7 rfl), List.forall_mem_cons.mpr ⟨
  (gs_aload_n dX6_tells_8 rfl), List.forall_mem_cons.mpr ⟨
  (gs_gf (ref := "GriefCranes$Rusty") dX6_tells_9 (gx_mem 209 (by decide +kernel) (by decide +kernel)) (Or.inr (gx_mem 210 (by decide +kernel) (by decide +kernel))) gf_cr_0), List.forall_mem_cons.mpr ⟨
  (gs_isub dX6_tells_12), List.forall_mem_cons.mpr ⟨
  (gs_csx (x := ⟨"GriefCranes$Old", "tells", "(I)I"⟩) (owner := RX0) dX6_tells_13 (md_6) rfl (List.forall_mem_cons.mpr ⟨gx_mem 935 (by decide +kernel) (by decide +kernel), List.forall_mem_cons.mpr ⟨gx_mem 936 (by decide +kernel) (by decide +kernel), List.forall_mem_cons.mpr ⟨gx_mem 281 (by decide +kernel) (by decide +kernel), List.forall_mem_cons.mpr ⟨gx_mem 248 (by decide +kernel) (by decide +kernel), List.forall_mem_cons.mpr ⟨gx_mem 923 (by decide +kernel) (by decide +kernel), List.forall_mem_cons.mpr ⟨gx_mem 88 (by decide +kernel) (by decide +kernel), List.forall_mem_cons.mpr ⟨cw_950, fun _ h => absurd h List.not_mem_nil⟩⟩⟩⟩⟩⟩⟩) (by decide +kernel) (by decide)), List.forall_mem_cons.mpr ⟨
  (gs_ri dX6_tells_16), fun _ h => absurd h List.not_mem_nil⟩⟩⟩⟩⟩⟩⟩⟩⟩⟩
theorem kt_X6_tells (g : gx_T) : ∀ q ∈ k_X6_tells, gx_E g gc_md RX6 cX6_tells 2 (some .int) "tells" q.1 q.2 := kt_X6_tells_0 g
set_option maxRecDepth 20000 in
theorem dX7_init_0 : decode cX7_init 0 = .ok (.aload_n 0, 1) := by decide +kernel
set_option maxRecDepth 20000 in
theorem dX7_init_1 : decode cX7_init 1 = .ok (.invokespecial 1, 3) := by decide +kernel
set_option maxRecDepth 20000 in
theorem dX7_init_4 : decode cX7_init 4 = .ok (.return_, 1) := by decide +kernel
set_option maxRecDepth 20000 in
theorem kt_X7_init_0 (g : gx_T) : ∀ q ∈ k_X7_init_0, gx_E g gc_md RX7 cX7_init 1 (none) "<init>" q.1 q.2 := List.forall_mem_cons.mpr ⟨(gs_aload_n dX7_init_0 rfl), List.forall_mem_cons.mpr ⟨
  (gs_cin (host := RX11) dX7_init_1 (md_0) (by decide +kernel) (List.forall_mem_cons.mpr ⟨gx_mem 205 (by decide +kernel) (by decide +kernel), List.forall_mem_cons.mpr ⟨gx_mem 88 (by decide +kernel) (by decide +kernel), List.forall_mem_cons.mpr ⟨cw_206, fun _ h => absurd h List.not_mem_nil⟩⟩⟩) (by decide +kernel) (by decide) rfl), List.forall_mem_cons.mpr ⟨
  (gs_rv dX7_init_4), fun _ h => absurd h List.not_mem_nil⟩⟩⟩
theorem kt_X7_init (g : gx_T) : ∀ q ∈ k_X7_init, gx_E g gc_md RX7 cX7_init 1 (none) "<init>" q.1 q.2 := kt_X7_init_0 g
set_option maxRecDepth 20000 in
theorem dX7_power_0 : decode cX7_power 0 = .ok (.aload_n 2, 1) := by decide +kernel
set_option maxRecDepth 20000 in
theorem dX7_power_1 : decode cX7_power 1 = .ok (.getfield 7, 3) := by decide +kernel
set_option maxRecDepth 20000 in
theorem dX7_power_4 : decode cX7_power 4 = .ok (.aload_n 2, 1) := by decide +kernel
set_option maxRecDepth 20000 in
theorem dX7_power_5 : decode cX7_power 5 = .ok (.getfield 13, 3) := by decide +kernel
set_option maxRecDepth 20000 in
theorem dX7_power_8 : decode cX7_power 8 = .ok (.iconst 3, 1) := by decide +kernel
set_option maxRecDepth 20000 in
theorem dX7_power_9 : decode cX7_power 9 = .ok (.iand, 1) := by decide +kernel
set_option maxRecDepth 20000 in
theorem dX7_power_10 : decode cX7_power 10 = .ok (.iaload, 1) := by decide +kernel
set_option maxRecDepth 20000 in
theorem dX7_power_11 : decode cX7_power 11 = .ok (.aload_n 2, 1) := by decide +kernel
set_option maxRecDepth 20000 in
theorem dX7_power_12 : decode cX7_power 12 = .ok (.getfield 17, 3) := by decide +kernel
set_option maxRecDepth 20000 in
theorem dX7_power_15 : decode cX7_power 15 = .ok (.iload_n 3, 1) := by decide +kernel
set_option maxRecDepth 20000 in
theorem dX7_power_16 : decode cX7_power 16 = .ok (.iaload, 1) := by decide +kernel
set_option maxRecDepth 20000 in
theorem dX7_power_17 : decode cX7_power 17 = .ok (.if_icmp .le 7, 3) := by decide +kernel
set_option maxRecDepth 20000 in
theorem dX7_power_20 : decode cX7_power 20 = .ok (.iconst 0, 1) := by decide +kernel
set_option maxRecDepth 20000 in
theorem dX7_power_21 : decode cX7_power 21 = .ok (.goto 4, 3) := by decide +kernel
set_option maxRecDepth 20000 in
theorem dX7_power_24 : decode cX7_power 24 = .ok (.iload_n 1, 1) := by decide +kernel
set_option maxRecDepth 20000 in
theorem dX7_power_25 : decode cX7_power 25 = .ok (.ireturn, 1) := by decide +kernel
set_option maxRecDepth 20000 in
theorem kt_X7_power_0 (g : gx_T) : ∀ q ∈ k_X7_power_0, gx_E g gc_md RX7 cX7_power 5 (some .int) "power" q.1 q.2 := List.forall_mem_cons.mpr ⟨(gs_aload_n dX7_power_0 rfl), List.forall_mem_cons.mpr ⟨
  (gs_gf (ref := "GriefCranes$Yard") dX7_power_1 (gx_mem 308 (by decide +kernel) (by decide +kernel)) (Or.inl rfl) gf_10_3), List.forall_mem_cons.mpr ⟨
  (gs_aload_n dX7_power_4 rfl), List.forall_mem_cons.mpr ⟨
  (gs_gf (ref := "GriefCranes$Yard") dX7_power_5 (gx_mem 305 (by decide +kernel) (by decide +kernel)) (Or.inl rfl) gf_10_2), List.forall_mem_cons.mpr ⟨
  (gs_iconst dX7_power_8 rfl), List.forall_mem_cons.mpr ⟨
  (gs_iand dX7_power_9), List.forall_mem_cons.mpr ⟨
  (gs_iaload dX7_power_10), List.forall_mem_cons.mpr ⟨
  (gs_aload_n dX7_power_11 rfl), List.forall_mem_cons.mpr ⟨
  (gs_gf (ref := "GriefCranes$Yard") dX7_power_12 (gx_mem 316 (by decide +kernel) (by decide +kernel)) (Or.inl rfl) gf_10_6), List.forall_mem_cons.mpr ⟨
  (gs_iload_n dX7_power_15 rfl), List.forall_mem_cons.mpr ⟨
  (gs_iaload dX7_power_16), List.forall_mem_cons.mpr ⟨
  (gs_icmp_le dX7_power_17 rfl), List.forall_mem_cons.mpr ⟨
  (gs_iconst dX7_power_20 rfl), List.forall_mem_cons.mpr ⟨
  (gs_goto dX7_power_21 rfl), List.forall_mem_cons.mpr ⟨
  (gs_iload_n dX7_power_24 rfl), List.forall_mem_cons.mpr ⟨
  (gs_ri dX7_power_25), fun _ h => absurd h List.not_mem_nil⟩⟩⟩⟩⟩⟩⟩⟩⟩⟩⟩⟩⟩⟩⟩⟩
theorem kt_X7_power (g : gx_T) : ∀ q ∈ k_X7_power, gx_E g gc_md RX7 cX7_power 5 (some .int) "power" q.1 q.2 := kt_X7_power_0 g
