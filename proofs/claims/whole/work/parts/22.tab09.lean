/-! decoded, and each instruction a row -/
set_option maxRecDepth 20000 in
theorem dJ1_indexOfChar_4cfef_0 : decode cJ1_indexOfChar_4cfef 0 = .ok (.iload_n 1, 1) := by decide +kernel
set_option maxRecDepth 20000 in
theorem dJ1_indexOfChar_4cfef_1 : decode cJ1_indexOfChar_4cfef 1 = .ok (.i2b, 1) := by decide +kernel
set_option maxRecDepth 20000 in
theorem dJ1_indexOfChar_4cfef_2 : decode cJ1_indexOfChar_4cfef 2 = .ok (.istore 4, 2) := by decide +kernel
set_option maxRecDepth 20000 in
theorem dJ1_indexOfChar_4cfef_4 : decode cJ1_indexOfChar_4cfef 4 = .ok (.iload_n 2, 1) := by decide +kernel
set_option maxRecDepth 20000 in
theorem dJ1_indexOfChar_4cfef_5 : decode cJ1_indexOfChar_4cfef 5 = .ok (.istore 5, 2) := by decide +kernel
set_option maxRecDepth 20000 in
theorem dJ1_indexOfChar_4cfef_7 : decode cJ1_indexOfChar_4cfef 7 = .ok (.iload 5, 2) := by decide +kernel
set_option maxRecDepth 20000 in
theorem dJ1_indexOfChar_4cfef_9 : decode cJ1_indexOfChar_4cfef 9 = .ok (.iload_n 3, 1) := by decide +kernel
set_option maxRecDepth 20000 in
theorem dJ1_indexOfChar_4cfef_10 : decode cJ1_indexOfChar_4cfef 10 = .ok (.if_icmp .ge 21, 3) := by decide +kernel
set_option maxRecDepth 20000 in
theorem dJ1_indexOfChar_4cfef_13 : decode cJ1_indexOfChar_4cfef 13 = .ok (.aload_n 0, 1) := by decide +kernel
set_option maxRecDepth 20000 in
theorem dJ1_indexOfChar_4cfef_14 : decode cJ1_indexOfChar_4cfef 14 = .ok (.iload 5, 2) := by decide +kernel
set_option maxRecDepth 20000 in
theorem dJ1_indexOfChar_4cfef_16 : decode cJ1_indexOfChar_4cfef 16 = .ok (.baload, 1) := by decide +kernel
set_option maxRecDepth 20000 in
theorem dJ1_indexOfChar_4cfef_17 : decode cJ1_indexOfChar_4cfef 17 = .ok (.iload 4, 2) := by decide +kernel
set_option maxRecDepth 20000 in
theorem dJ1_indexOfChar_4cfef_19 : decode cJ1_indexOfChar_4cfef 19 = .ok (.if_icmp .ne 6, 3) := by decide +kernel
set_option maxRecDepth 20000 in
theorem dJ1_indexOfChar_4cfef_22 : decode cJ1_indexOfChar_4cfef 22 = .ok (.iload 5, 2) := by decide +kernel
set_option maxRecDepth 20000 in
theorem dJ1_indexOfChar_4cfef_24 : decode cJ1_indexOfChar_4cfef 24 = .ok (.ireturn, 1) := by decide +kernel
set_option maxRecDepth 20000 in
theorem dJ1_indexOfChar_4cfef_25 : decode cJ1_indexOfChar_4cfef 25 = .ok (.iinc 5 1, 3) := by decide +kernel
set_option maxRecDepth 20000 in
theorem dJ1_indexOfChar_4cfef_28 : decode cJ1_indexOfChar_4cfef 28 = .ok (.goto (-21), 3) := by decide +kernel
set_option maxRecDepth 20000 in
theorem dJ1_indexOfChar_4cfef_31 : decode cJ1_indexOfChar_4cfef 31 = .ok (.iconst (-1), 1) := by decide +kernel
set_option maxRecDepth 20000 in
theorem dJ1_indexOfChar_4cfef_32 : decode cJ1_indexOfChar_4cfef 32 = .ok (.ireturn, 1) := by decide +kernel
set_option maxRecDepth 20000 in
theorem kt_J1_indexOfChar_4cfef_0 (g : gx_T) : ∀ q ∈ k_J1_indexOfChar_4cfef_0, gx_E g gc_md RJ1 cJ1_indexOfChar_4cfef 6 (some .int) "indexOfChar" q.1 q.2 := List.forall_mem_cons.mpr ⟨(gs_iload_n dJ1_indexOfChar_4cfef_0 rfl), List.forall_mem_cons.mpr ⟨
  (gs_i2b dJ1_indexOfChar_4cfef_1), List.forall_mem_cons.mpr ⟨
  (gs_istore dJ1_indexOfChar_4cfef_2), List.forall_mem_cons.mpr ⟨
  (gs_iload_n dJ1_indexOfChar_4cfef_4 rfl), List.forall_mem_cons.mpr ⟨
  (gs_istore dJ1_indexOfChar_4cfef_5), List.forall_mem_cons.mpr ⟨
  (gs_iload dJ1_indexOfChar_4cfef_7), List.forall_mem_cons.mpr ⟨
  (gs_iload_n dJ1_indexOfChar_4cfef_9 rfl), List.forall_mem_cons.mpr ⟨
  (gs_icmp_ge dJ1_indexOfChar_4cfef_10 rfl), List.forall_mem_cons.mpr ⟨
  (gs_aload_n dJ1_indexOfChar_4cfef_13 rfl), List.forall_mem_cons.mpr ⟨
  (gs_iload dJ1_indexOfChar_4cfef_14), List.forall_mem_cons.mpr ⟨
  (gs_txa dJ1_indexOfChar_4cfef_16), List.forall_mem_cons.mpr ⟨
  (gs_iload dJ1_indexOfChar_4cfef_17), List.forall_mem_cons.mpr ⟨
  (gs_icmp_ne dJ1_indexOfChar_4cfef_19 rfl), List.forall_mem_cons.mpr ⟨
  (gs_iload dJ1_indexOfChar_4cfef_22), List.forall_mem_cons.mpr ⟨
  (gs_ri dJ1_indexOfChar_4cfef_24), List.forall_mem_cons.mpr ⟨
  (gs_iinc dJ1_indexOfChar_4cfef_25), List.forall_mem_cons.mpr ⟨
  (gs_goto dJ1_indexOfChar_4cfef_28 rfl), List.forall_mem_cons.mpr ⟨
  (gs_iconst dJ1_indexOfChar_4cfef_31 rfl), List.forall_mem_cons.mpr ⟨
  (gs_ri dJ1_indexOfChar_4cfef_32), fun _ h => absurd h List.not_mem_nil⟩⟩⟩⟩⟩⟩⟩⟩⟩⟩⟩⟩⟩⟩⟩⟩⟩⟩⟩
theorem kt_J1_indexOfChar_4cfef (g : gx_T) : ∀ q ∈ k_J1_indexOfChar_4cfef, gx_E g gc_md RJ1 cJ1_indexOfChar_4cfef 6 (some .int) "indexOfChar" q.1 q.2 := kt_J1_indexOfChar_4cfef_0 g
set_option maxRecDepth 20000 in
theorem dJ3_checkIndex_8e157_0 : decode cJ3_checkIndex_8e157 0 = .ok (.iload_n 0, 1) := by decide +kernel
set_option maxRecDepth 20000 in
theorem dJ3_checkIndex_8e157_1 : decode cJ3_checkIndex_8e157 1 = .ok (.ifCond .lt 8, 3) := by decide +kernel
set_option maxRecDepth 20000 in
theorem dJ3_checkIndex_8e157_4 : decode cJ3_checkIndex_8e157 4 = .ok (.iload_n 0, 1) := by decide +kernel
set_option maxRecDepth 20000 in
theorem dJ3_checkIndex_8e157_5 : decode cJ3_checkIndex_8e157 5 = .ok (.iload_n 1, 1) := by decide +kernel
set_option maxRecDepth 20000 in
theorem dJ3_checkIndex_8e157_6 : decode cJ3_checkIndex_8e157 6 = .ok (.if_icmp .lt 10, 3) := by decide +kernel
set_option maxRecDepth 20000 in
theorem dJ3_checkIndex_8e157_9 : decode cJ3_checkIndex_8e157 9 = .ok (.aload_n 2, 1) := by decide +kernel
set_option maxRecDepth 20000 in
theorem dJ3_checkIndex_8e157_10 : decode cJ3_checkIndex_8e157 10 = .ok (.iload_n 0, 1) := by decide +kernel
set_option maxRecDepth 20000 in
theorem dJ3_checkIndex_8e157_11 : decode cJ3_checkIndex_8e157 11 = .ok (.iload_n 1, 1) := by decide +kernel
set_option maxRecDepth 20000 in
theorem dJ3_checkIndex_8e157_16 : decode cJ3_checkIndex_8e157 16 = .ok (.iload_n 0, 1) := by decide +kernel
set_option maxRecDepth 20000 in
theorem dJ3_checkIndex_8e157_17 : decode cJ3_checkIndex_8e157 17 = .ok (.ireturn, 1) := by decide +kernel
set_option maxRecDepth 20000 in
theorem kt_J3_checkIndex_8e157_0 (g : gx_T) : ∀ q ∈ k_J3_checkIndex_8e157_0, gx_E g gc_md RJ3 cJ3_checkIndex_8e157 3 (some .int) "checkIndex" q.1 q.2 := List.forall_mem_cons.mpr ⟨(gs_iload_n dJ3_checkIndex_8e157_0 rfl), List.forall_mem_cons.mpr ⟨
  (gs_if_lt dJ3_checkIndex_8e157_1 rfl), List.forall_mem_cons.mpr ⟨
  (gs_iload_n dJ3_checkIndex_8e157_4 rfl), List.forall_mem_cons.mpr ⟨
  (gs_iload_n dJ3_checkIndex_8e157_5 rfl), List.forall_mem_cons.mpr ⟨
  (gs_icmp_lt dJ3_checkIndex_8e157_6 rfl), List.forall_mem_cons.mpr ⟨
  (gs_aload_n dJ3_checkIndex_8e157_9 rfl), List.forall_mem_cons.mpr ⟨
  (gs_iload_n dJ3_checkIndex_8e157_10 rfl), List.forall_mem_cons.mpr ⟨
  (gs_iload_n dJ3_checkIndex_8e157_11 rfl), List.forall_mem_cons.mpr ⟨
  (gs_iload_n dJ3_checkIndex_8e157_16 rfl), List.forall_mem_cons.mpr ⟨
  (gs_ri dJ3_checkIndex_8e157_17), fun _ h => absurd h List.not_mem_nil⟩⟩⟩⟩⟩⟩⟩⟩⟩⟩
theorem kt_J3_checkIndex_8e157 (g : gx_T) : ∀ q ∈ k_J3_checkIndex_8e157, gx_E g gc_md RJ3 cJ3_checkIndex_8e157 3 (some .int) "checkIndex" q.1 q.2 := kt_J3_checkIndex_8e157_0 g
set_option maxRecDepth 20000 in
theorem dJ6_bitCount_0f7a4_0 : decode cJ6_bitCount_0f7a4 0 = .ok (.iload_n 0, 1) := by decide +kernel
set_option maxRecDepth 20000 in
theorem dJ6_bitCount_0f7a4_1 : decode cJ6_bitCount_0f7a4 1 = .ok (.iload_n 0, 1) := by decide +kernel
set_option maxRecDepth 20000 in
theorem dJ6_bitCount_0f7a4_2 : decode cJ6_bitCount_0f7a4 2 = .ok (.iconst 1, 1) := by decide +kernel
set_option maxRecDepth 20000 in
theorem dJ6_bitCount_0f7a4_3 : decode cJ6_bitCount_0f7a4 3 = .ok (.iushr, 1) := by decide +kernel
set_option maxRecDepth 20000 in
theorem dJ6_bitCount_0f7a4_4 : decode cJ6_bitCount_0f7a4 4 = .ok (.ldc_w 265, 3) := by decide +kernel
set_option maxRecDepth 20000 in
theorem dJ6_bitCount_0f7a4_7 : decode cJ6_bitCount_0f7a4 7 = .ok (.iand, 1) := by decide +kernel
set_option maxRecDepth 20000 in
theorem dJ6_bitCount_0f7a4_8 : decode cJ6_bitCount_0f7a4 8 = .ok (.isub, 1) := by decide +kernel
set_option maxRecDepth 20000 in
theorem dJ6_bitCount_0f7a4_9 : decode cJ6_bitCount_0f7a4 9 = .ok (.istore_n 0, 1) := by decide +kernel
set_option maxRecDepth 20000 in
theorem dJ6_bitCount_0f7a4_10 : decode cJ6_bitCount_0f7a4 10 = .ok (.iload_n 0, 1) := by decide +kernel
set_option maxRecDepth 20000 in
theorem dJ6_bitCount_0f7a4_11 : decode cJ6_bitCount_0f7a4 11 = .ok (.ldc_w 266, 3) := by decide +kernel
set_option maxRecDepth 20000 in
theorem dJ6_bitCount_0f7a4_14 : decode cJ6_bitCount_0f7a4 14 = .ok (.iand, 1) := by decide +kernel
set_option maxRecDepth 20000 in
theorem dJ6_bitCount_0f7a4_15 : decode cJ6_bitCount_0f7a4 15 = .ok (.iload_n 0, 1) := by decide +kernel
set_option maxRecDepth 20000 in
theorem dJ6_bitCount_0f7a4_16 : decode cJ6_bitCount_0f7a4 16 = .ok (.iconst 2, 1) := by decide +kernel
set_option maxRecDepth 20000 in
theorem dJ6_bitCount_0f7a4_17 : decode cJ6_bitCount_0f7a4 17 = .ok (.iushr, 1) := by decide +kernel
set_option maxRecDepth 20000 in
theorem dJ6_bitCount_0f7a4_18 : decode cJ6_bitCount_0f7a4 18 = .ok (.ldc_w 266, 3) := by decide +kernel
set_option maxRecDepth 20000 in
theorem dJ6_bitCount_0f7a4_21 : decode cJ6_bitCount_0f7a4 21 = .ok (.iand, 1) := by decide +kernel
set_option maxRecDepth 20000 in
theorem dJ6_bitCount_0f7a4_22 : decode cJ6_bitCount_0f7a4 22 = .ok (.iadd, 1) := by decide +kernel
set_option maxRecDepth 20000 in
theorem dJ6_bitCount_0f7a4_23 : decode cJ6_bitCount_0f7a4 23 = .ok (.istore_n 0, 1) := by decide +kernel
set_option maxRecDepth 20000 in
theorem dJ6_bitCount_0f7a4_24 : decode cJ6_bitCount_0f7a4 24 = .ok (.iload_n 0, 1) := by decide +kernel
set_option maxRecDepth 20000 in
theorem dJ6_bitCount_0f7a4_25 : decode cJ6_bitCount_0f7a4 25 = .ok (.iload_n 0, 1) := by decide +kernel
set_option maxRecDepth 20000 in
theorem dJ6_bitCount_0f7a4_26 : decode cJ6_bitCount_0f7a4 26 = .ok (.iconst 4, 1) := by decide +kernel
set_option maxRecDepth 20000 in
theorem dJ6_bitCount_0f7a4_27 : decode cJ6_bitCount_0f7a4 27 = .ok (.iushr, 1) := by decide +kernel
set_option maxRecDepth 20000 in
theorem dJ6_bitCount_0f7a4_28 : decode cJ6_bitCount_0f7a4 28 = .ok (.iadd, 1) := by decide +kernel
set_option maxRecDepth 20000 in
theorem dJ6_bitCount_0f7a4_29 : decode cJ6_bitCount_0f7a4 29 = .ok (.ldc_w 267, 3) := by decide +kernel
set_option maxRecDepth 20000 in
theorem dJ6_bitCount_0f7a4_32 : decode cJ6_bitCount_0f7a4 32 = .ok (.iand, 1) := by decide +kernel
set_option maxRecDepth 20000 in
theorem dJ6_bitCount_0f7a4_33 : decode cJ6_bitCount_0f7a4 33 = .ok (.istore_n 0, 1) := by decide +kernel
set_option maxRecDepth 20000 in
theorem dJ6_bitCount_0f7a4_34 : decode cJ6_bitCount_0f7a4 34 = .ok (.iload_n 0, 1) := by decide +kernel
set_option maxRecDepth 20000 in
theorem dJ6_bitCount_0f7a4_35 : decode cJ6_bitCount_0f7a4 35 = .ok (.iload_n 0, 1) := by decide +kernel
set_option maxRecDepth 20000 in
theorem dJ6_bitCount_0f7a4_36 : decode cJ6_bitCount_0f7a4 36 = .ok (.bipush 8, 2) := by decide +kernel
set_option maxRecDepth 20000 in
theorem dJ6_bitCount_0f7a4_38 : decode cJ6_bitCount_0f7a4 38 = .ok (.iushr, 1) := by decide +kernel
set_option maxRecDepth 20000 in
theorem dJ6_bitCount_0f7a4_39 : decode cJ6_bitCount_0f7a4 39 = .ok (.iadd, 1) := by decide +kernel
set_option maxRecDepth 20000 in
theorem dJ6_bitCount_0f7a4_40 : decode cJ6_bitCount_0f7a4 40 = .ok (.istore_n 0, 1) := by decide +kernel
set_option maxRecDepth 20000 in
theorem dJ6_bitCount_0f7a4_41 : decode cJ6_bitCount_0f7a4 41 = .ok (.iload_n 0, 1) := by decide +kernel
set_option maxRecDepth 20000 in
theorem dJ6_bitCount_0f7a4_42 : decode cJ6_bitCount_0f7a4 42 = .ok (.iload_n 0, 1) := by decide +kernel
set_option maxRecDepth 20000 in
theorem dJ6_bitCount_0f7a4_43 : decode cJ6_bitCount_0f7a4 43 = .ok (.bipush 16, 2) := by decide +kernel
set_option maxRecDepth 20000 in
theorem dJ6_bitCount_0f7a4_45 : decode cJ6_bitCount_0f7a4 45 = .ok (.iushr, 1) := by decide +kernel
set_option maxRecDepth 20000 in
theorem dJ6_bitCount_0f7a4_46 : decode cJ6_bitCount_0f7a4 46 = .ok (.iadd, 1) := by decide +kernel
set_option maxRecDepth 20000 in
theorem dJ6_bitCount_0f7a4_47 : decode cJ6_bitCount_0f7a4 47 = .ok (.istore_n 0, 1) := by decide +kernel
set_option maxRecDepth 20000 in
theorem dJ6_bitCount_0f7a4_48 : decode cJ6_bitCount_0f7a4 48 = .ok (.iload_n 0, 1) := by decide +kernel
set_option maxRecDepth 20000 in
theorem dJ6_bitCount_0f7a4_49 : decode cJ6_bitCount_0f7a4 49 = .ok (.bipush 63, 2) := by decide +kernel
set_option maxRecDepth 20000 in
theorem dJ6_bitCount_0f7a4_51 : decode cJ6_bitCount_0f7a4 51 = .ok (.iand, 1) := by decide +kernel
set_option maxRecDepth 20000 in
theorem dJ6_bitCount_0f7a4_52 : decode cJ6_bitCount_0f7a4 52 = .ok (.ireturn, 1) := by decide +kernel
set_option maxRecDepth 20000 in
theorem kt_J6_bitCount_0f7a4_0 (g : gx_T) : ∀ q ∈ k_J6_bitCount_0f7a4_0, gx_E g gc_md RJ6 cJ6_bitCount_0f7a4 1 (some .int) "bitCount" q.1 q.2 := List.forall_mem_cons.mpr ⟨(gs_iload_n dJ6_bitCount_0f7a4_0 rfl), List.forall_mem_cons.mpr ⟨
  (gs_iload_n dJ6_bitCount_0f7a4_1 rfl), List.forall_mem_cons.mpr ⟨
  (gs_iconst dJ6_bitCount_0f7a4_2 rfl), List.forall_mem_cons.mpr ⟨
  (gs_iushr dJ6_bitCount_0f7a4_3), List.forall_mem_cons.mpr ⟨
  (gs_ldcw dJ6_bitCount_0f7a4_4 (gx_mem 757 (by decide +kernel) (by decide +kernel))), List.forall_mem_cons.mpr ⟨
  (gs_iand dJ6_bitCount_0f7a4_7), List.forall_mem_cons.mpr ⟨
  (gs_isub dJ6_bitCount_0f7a4_8), List.forall_mem_cons.mpr ⟨
  (gs_istore_n dJ6_bitCount_0f7a4_9 rfl), List.forall_mem_cons.mpr ⟨
  (gs_iload_n dJ6_bitCount_0f7a4_10 rfl), List.forall_mem_cons.mpr ⟨
  (gs_ldcw dJ6_bitCount_0f7a4_11 (gx_mem 758 (by decide +kernel) (by decide +kernel))), List.forall_mem_cons.mpr ⟨
  (gs_iand dJ6_bitCount_0f7a4_14), List.forall_mem_cons.mpr ⟨
  (gs_iload_n dJ6_bitCount_0f7a4_15 rfl), List.forall_mem_cons.mpr ⟨
  (gs_iconst dJ6_bitCount_0f7a4_16 rfl), List.forall_mem_cons.mpr ⟨
  (gs_iushr dJ6_bitCount_0f7a4_17), List.forall_mem_cons.mpr ⟨
  (gs_ldcw dJ6_bitCount_0f7a4_18 (gx_mem 758 (by decide +kernel) (by decide +kernel))), List.forall_mem_cons.mpr ⟨
  (gs_iand dJ6_bitCount_0f7a4_21), List.forall_mem_cons.mpr ⟨
  (gs_iadd dJ6_bitCount_0f7a4_22), List.forall_mem_cons.mpr ⟨
  (gs_istore_n dJ6_bitCount_0f7a4_23 rfl), List.forall_mem_cons.mpr ⟨
  (gs_iload_n dJ6_bitCount_0f7a4_24 rfl), List.forall_mem_cons.mpr ⟨
  (gs_iload_n dJ6_bitCount_0f7a4_25 rfl), List.forall_mem_cons.mpr ⟨
  (gs_iconst dJ6_bitCount_0f7a4_26 rfl), List.forall_mem_cons.mpr ⟨
  (gs_iushr dJ6_bitCount_0f7a4_27), List.forall_mem_cons.mpr ⟨
  (gs_iadd dJ6_bitCount_0f7a4_28), List.forall_mem_cons.mpr ⟨
  (gs_ldcw dJ6_bitCount_0f7a4_29 (gx_mem 759 (by decide +kernel) (by decide +kernel))), List.forall_mem_cons.mpr ⟨
  (gs_iand dJ6_bitCount_0f7a4_32), List.forall_mem_cons.mpr ⟨
  (gs_istore_n dJ6_bitCount_0f7a4_33 rfl), List.forall_mem_cons.mpr ⟨
  (gs_iload_n dJ6_bitCount_0f7a4_34 rfl), List.forall_mem_cons.mpr ⟨
  (gs_iload_n dJ6_bitCount_0f7a4_35 rfl), List.forall_mem_cons.mpr ⟨
  (gs_bipush dJ6_bitCount_0f7a4_36 rfl), List.forall_mem_cons.mpr ⟨
  (gs_iushr dJ6_bitCount_0f7a4_38), List.forall_mem_cons.mpr ⟨
  (gs_iadd dJ6_bitCount_0f7a4_39), List.forall_mem_cons.mpr ⟨
  (gs_istore_n dJ6_bitCount_0f7a4_40 rfl), fun _ h => absurd h List.not_mem_nil⟩⟩⟩⟩⟩⟩⟩⟩⟩⟩⟩⟩⟩⟩⟩⟩⟩⟩⟩⟩⟩⟩⟩⟩⟩⟩⟩⟩⟩⟩⟩⟩
set_option maxRecDepth 20000 in
theorem kt_J6_bitCount_0f7a4_1 (g : gx_T) : ∀ q ∈ k_J6_bitCount_0f7a4_1, gx_E g gc_md RJ6 cJ6_bitCount_0f7a4 1 (some .int) "bitCount" q.1 q.2 := List.forall_mem_cons.mpr ⟨(gs_iload_n dJ6_bitCount_0f7a4_41 rfl), List.forall_mem_cons.mpr ⟨
  (gs_iload_n dJ6_bitCount_0f7a4_42 rfl), List.forall_mem_cons.mpr ⟨
  (gs_bipush dJ6_bitCount_0f7a4_43 rfl), List.forall_mem_cons.mpr ⟨
  (gs_iushr dJ6_bitCount_0f7a4_45), List.forall_mem_cons.mpr ⟨
  (gs_iadd dJ6_bitCount_0f7a4_46), List.forall_mem_cons.mpr ⟨
  (gs_istore_n dJ6_bitCount_0f7a4_47 rfl), List.forall_mem_cons.mpr ⟨
  (gs_iload_n dJ6_bitCount_0f7a4_48 rfl), List.forall_mem_cons.mpr ⟨
  (gs_bipush dJ6_bitCount_0f7a4_49 rfl), List.forall_mem_cons.mpr ⟨
  (gs_iand dJ6_bitCount_0f7a4_51), List.forall_mem_cons.mpr ⟨
  (gs_ri dJ6_bitCount_0f7a4_52), fun _ h => absurd h List.not_mem_nil⟩⟩⟩⟩⟩⟩⟩⟩⟩⟩
theorem kt_J6_bitCount_0f7a4 (g : gx_T) : ∀ q ∈ k_J6_bitCount_0f7a4, gx_E g gc_md RJ6 cJ6_bitCount_0f7a4 1 (some .int) "bitCount" q.1 q.2 := List.forall_mem_append.mpr ⟨kt_J6_bitCount_0f7a4_0 g, kt_J6_bitCount_0f7a4_1 g⟩
