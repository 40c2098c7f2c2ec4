/-! fields, classes, names of the methods -/
theorem gx_lupok {pc : Nat} {dflt : Int} : ∀ {ps : List (Int × Int)}, ps.all (fun q => decide (0 ≤ (pc : Int) + q.2)) = true → decide (0 ≤ (pc : Int) + dflt) = true → ∀ z : Int, 0 ≤ (pc : Int) + Op.lookupswitch.offset ps dflt z
  | [], _, h, z => of_decide_eq_true h
  | (a, o) :: r, h1, h2, z => by
    rw [Op.lookupswitch.offset_cons]
    rw [List.all_cons, Bool.and_eq_true] at h1
    split
    · exact of_decide_eq_true h1.1
    · exact gx_lupok h1.2 h2 z
theorem gl_0 : ∀ w ∈ u_ws RX0 TX0 4, w ∈ gx_WS := gx_sub _ [218, 220, 222, 224] (by decide +kernel) (by decide +kernel)
theorem gl_1 : ∀ w ∈ u_ws RX1 TX1 10, w ∈ gx_WS := gx_sub _ [160, 162, 164, 166, 168, 170, 172, 174, 176, 178] (by decide +kernel) (by decide +kernel)
theorem gl_2 : ∀ w ∈ u_ws RX2 TX2 4, w ∈ gx_WS := gx_sub _ [266, 267, 268, 269] (by decide +kernel) (by decide +kernel)
theorem gl_3 : ∀ w ∈ u_ws RX3 TX3 4, w ∈ gx_WS := gx_sub _ [233, 234, 235, 236] (by decide +kernel) (by decide +kernel)
theorem gl_4 : ∀ w ∈ u_ws RX4 TX4 4, w ∈ gx_WS := gx_sub _ [244, 245, 246, 247] (by decide +kernel) (by decide +kernel)
theorem gl_5 : ∀ w ∈ u_ws RX5 TX5 4, w ∈ gx_WS := gx_sub _ [127, 129, 131, 133] (by decide +kernel) (by decide +kernel)
theorem gl_6 : ∀ w ∈ u_ws RX6 TX6 4, w ∈ gx_WS := gx_sub _ [277, 278, 279, 280] (by decide +kernel) (by decide +kernel)
theorem gl_7 : ∀ w ∈ u_ws RX7 TX7 4, w ∈ gx_WS := gx_sub _ [255, 256, 257, 258] (by decide +kernel) (by decide +kernel)
theorem gl_8 : ∀ w ∈ u_ws RX8 TX8 3, w ∈ gx_WS := gx_sub _ [193, 195, 197] (by decide +kernel) (by decide +kernel)
theorem gl_9 : ∀ w ∈ u_ws RX9 TX9 4, w ∈ gx_WS := gx_sub _ [288, 289, 290, 291] (by decide +kernel) (by decide +kernel)
theorem gl_10 : ∀ w ∈ u_ws RX10 TX10 16, w ∈ gx_WS := gx_sub _ [338, 340, 342, 344, 346, 348, 350, 352, 354, 356, 358, 360, 362, 364, 366, 368] (by decide +kernel) (by decide +kernel)
theorem gl_11 : ∀ w ∈ u_ws RX11 TX11 17, w ∈ gx_WS := gx_sub _ [388, 390, 392, 394, 396, 398, 400, 402, 404, 406, 408, 410, 412, 414, 416, 418, 420] (by decide +kernel) (by decide +kernel)
theorem gl_12 : ∀ w ∈ u_ws RX12 TX12 79, w ∈ gx_WS := gx_sub _ [1076, 1078, 1080, 1082, 1084, 1086, 1088, 1090, 1092, 1094, 1096, 1098, 1100, 1102, 1104, 1106, 1108, 1110, 1112, 1114, 1116, 1118, 1120, 1122, 1124, 1126, 1128, 1130, 1132, 1134, 1136, 1138, 1140, 1142, 1144, 1146, 1148, 1150, 1152, 1154, 1156, 1158, 1160, 1162, 1164, 1166, 1168, 1170, 1172, 1174, 1176, 1178, 1180, 1182, 1184, 1186, 1188, 1190, 1192, 1194, 1196, 1198, 1200, 1202, 1204, 1206, 1208, 1210, 1212, 1214, 1216, 1218, 1220, 1222, 1224, 1226, 1228, 1230, 1232] (by decide +kernel) (by decide +kernel)
theorem gfd_0_0 : gx_fd 0 0 ("GriefCranes$Crane", "number", "I", false) := ⟨(RX0, TX0, 4), rfl, by decide, rfl, gl_0, ⟨tyX0, tyX0_ok⟩, nmX0⟩
theorem gfd_2_0 : gx_fd 2 0 ("GriefCranes$Crane", "number", "I", false) := ⟨(RX2, TX2, 4), rfl, by decide, rfl, gl_2, ⟨tyX2, tyX2_ok⟩, nmX2⟩
theorem gfd_3_0 : gx_fd 3 0 ("GriefCranes$Crane", "number", "I", false) := ⟨(RX3, TX3, 4), rfl, by decide, rfl, gl_3, ⟨tyX3, tyX3_ok⟩, nmX3⟩
theorem gfd_4_0 : gx_fd 4 0 ("GriefCranes$Crane", "number", "I", false) := ⟨(RX4, TX4, 4), rfl, by decide, rfl, gl_4, ⟨tyX4, tyX4_ok⟩, nmX4⟩
theorem gfd_6_0 : gx_fd 6 0 ("GriefCranes$Crane", "number", "I", false) := ⟨(RX6, TX6, 4), rfl, by decide, rfl, gl_6, ⟨tyX6, tyX6_ok⟩, nmX6⟩
theorem gfd_7_0 : gx_fd 7 0 ("GriefCranes$Crane", "number", "I", false) := ⟨(RX7, TX7, 4), rfl, by decide, rfl, gl_7, ⟨tyX7, tyX7_ok⟩, nmX7⟩
theorem gfd_9_0 : gx_fd 9 0 ("GriefCranes$Crane", "number", "I", false) := ⟨(RX9, TX9, 4), rfl, by decide, rfl, gl_9, ⟨tyX9, tyX9_ok⟩, nmX9⟩
theorem gf_cr_0 : gx_fs [0, 2, 3, 4, 6, 7, 9] 0 ("GriefCranes$Crane", "number", "I", false) := fun ci hc => by
  simp only [List.mem_cons, List.not_mem_nil, or_false] at hc
  rcases hc with rfl | rfl | rfl | rfl | rfl | rfl | rfl
  · exact gfd_0_0
  · exact gfd_2_0
  · exact gfd_3_0
  · exact gfd_4_0
  · exact gfd_6_0
  · exact gfd_7_0
  · exact gfd_9_0
theorem gfd_0_1 : gx_fd 0 1 ("GriefCranes$Crane", "v", "I", false) := ⟨(RX0, TX0, 4), rfl, by decide, rfl, gl_0, ⟨tyX0, tyX0_ok⟩, nmX0⟩
theorem gfd_2_1 : gx_fd 2 1 ("GriefCranes$Crane", "v", "I", false) := ⟨(RX2, TX2, 4), rfl, by decide, rfl, gl_2, ⟨tyX2, tyX2_ok⟩, nmX2⟩
theorem gfd_3_1 : gx_fd 3 1 ("GriefCranes$Crane", "v", "I", false) := ⟨(RX3, TX3, 4), rfl, by decide, rfl, gl_3, ⟨tyX3, tyX3_ok⟩, nmX3⟩
theorem gfd_4_1 : gx_fd 4 1 ("GriefCranes$Crane", "v", "I", false) := ⟨(RX4, TX4, 4), rfl, by decide, rfl, gl_4, ⟨tyX4, tyX4_ok⟩, nmX4⟩
theorem gfd_6_1 : gx_fd 6 1 ("GriefCranes$Crane", "v", "I", false) := ⟨(RX6, TX6, 4), rfl, by decide, rfl, gl_6, ⟨tyX6, tyX6_ok⟩, nmX6⟩
theorem gfd_7_1 : gx_fd 7 1 ("GriefCranes$Crane", "v", "I", false) := ⟨(RX7, TX7, 4), rfl, by decide, rfl, gl_7, ⟨tyX7, tyX7_ok⟩, nmX7⟩
theorem gfd_9_1 : gx_fd 9 1 ("GriefCranes$Crane", "v", "I", false) := ⟨(RX9, TX9, 4), rfl, by decide, rfl, gl_9, ⟨tyX9, tyX9_ok⟩, nmX9⟩
theorem gf_cr_1 : gx_fs [0, 2, 3, 4, 6, 7, 9] 1 ("GriefCranes$Crane", "v", "I", false) := fun ci hc => by
  simp only [List.mem_cons, List.not_mem_nil, or_false] at hc
  rcases hc with rfl | rfl | rfl | rfl | rfl | rfl | rfl
  · exact gfd_0_1
  · exact gfd_2_1
  · exact gfd_3_1
  · exact gfd_4_1
  · exact gfd_6_1
  · exact gfd_7_1
  · exact gfd_9_1
theorem gfd_0_2 : gx_fd 0 2 ("GriefCranes$Crane", "ran", "I", false) := ⟨(RX0, TX0, 4), rfl, by decide, rfl, gl_0, ⟨tyX0, tyX0_ok⟩, nmX0⟩
theorem gfd_2_2 : gx_fd 2 2 ("GriefCranes$Crane", "ran", "I", false) := ⟨(RX2, TX2, 4), rfl, by decide, rfl, gl_2, ⟨tyX2, tyX2_ok⟩, nmX2⟩
theorem gfd_3_2 : gx_fd 3 2 ("GriefCranes$Crane", "ran", "I", false) := ⟨(RX3, TX3, 4), rfl, by decide, rfl, gl_3, ⟨tyX3, tyX3_ok⟩, nmX3⟩
theorem gfd_4_2 : gx_fd 4 2 ("GriefCranes$Crane", "ran", "I", false) := ⟨(RX4, TX4, 4), rfl, by decide, rfl, gl_4, ⟨tyX4, tyX4_ok⟩, nmX4⟩
theorem gfd_6_2 : gx_fd 6 2 ("GriefCranes$Crane", "ran", "I", false) := ⟨(RX6, TX6, 4), rfl, by decide, rfl, gl_6, ⟨tyX6, tyX6_ok⟩, nmX6⟩
theorem gfd_7_2 : gx_fd 7 2 ("GriefCranes$Crane", "ran", "I", false) := ⟨(RX7, TX7, 4), rfl, by decide, rfl, gl_7, ⟨tyX7, tyX7_ok⟩, nmX7⟩
theorem gfd_9_2 : gx_fd 9 2 ("GriefCranes$Crane", "ran", "I", false) := ⟨(RX9, TX9, 4), rfl, by decide, rfl, gl_9, ⟨tyX9, tyX9_ok⟩, nmX9⟩
theorem gf_cr_2 : gx_fs [0, 2, 3, 4, 6, 7, 9] 2 ("GriefCranes$Crane", "ran", "I", false) := fun ci hc => by
  simp only [List.mem_cons, List.not_mem_nil, or_false] at hc
  rcases hc with rfl | rfl | rfl | rfl | rfl | rfl | rfl
  · exact gfd_0_2
  · exact gfd_2_2
  · exact gfd_3_2
  · exact gfd_4_2
  · exact gfd_6_2
  · exact gfd_7_2
  · exact gfd_9_2
theorem gfd_0_3 : gx_fd 0 3 ("GriefCranes$Crane", "bodies", "[I", true) := ⟨(RX0, TX0, 4), rfl, by decide, rfl, gl_0, ⟨tyX0, tyX0_ok⟩, nmX0⟩
theorem gfd_2_3 : gx_fd 2 3 ("GriefCranes$Crane", "bodies", "[I", true) := ⟨(RX2, TX2, 4), rfl, by decide, rfl, gl_2, ⟨tyX2, tyX2_ok⟩, nmX2⟩
theorem gfd_3_3 : gx_fd 3 3 ("GriefCranes$Crane", "bodies", "[I", true) := ⟨(RX3, TX3, 4), rfl, by decide, rfl, gl_3, ⟨tyX3, tyX3_ok⟩, nmX3⟩
theorem gfd_4_3 : gx_fd 4 3 ("GriefCranes$Crane", "bodies", "[I", true) := ⟨(RX4, TX4, 4), rfl, by decide, rfl, gl_4, ⟨tyX4, tyX4_ok⟩, nmX4⟩
theorem gfd_6_3 : gx_fd 6 3 ("GriefCranes$Crane", "bodies", "[I", true) := ⟨(RX6, TX6, 4), rfl, by decide, rfl, gl_6, ⟨tyX6, tyX6_ok⟩, nmX6⟩
theorem gfd_7_3 : gx_fd 7 3 ("GriefCranes$Crane", "bodies", "[I", true) := ⟨(RX7, TX7, 4), rfl, by decide, rfl, gl_7, ⟨tyX7, tyX7_ok⟩, nmX7⟩
theorem gfd_9_3 : gx_fd 9 3 ("GriefCranes$Crane", "bodies", "[I", true) := ⟨(RX9, TX9, 4), rfl, by decide, rfl, gl_9, ⟨tyX9, tyX9_ok⟩, nmX9⟩
theorem gf_cr_3 : gx_fs [0, 2, 3, 4, 6, 7, 9] 3 ("GriefCranes$Crane", "bodies", "[I", true) := fun ci hc => by
  simp only [List.mem_cons, List.not_mem_nil, or_false] at hc
  rcases hc with rfl | rfl | rfl | rfl | rfl | rfl | rfl
  · exact gfd_0_3
  · exact gfd_2_3
  · exact gfd_3_3
  · exact gfd_4_3
  · exact gfd_6_3
  · exact gfd_7_3
  · exact gfd_9_3
theorem gfd_1_0 : gx_fd 1 0 ("GriefCranes$Firm", "bear", "I", false) := ⟨(RX1, TX1, 10), rfl, by decide, rfl, gl_1, ⟨tyX1, tyX1_ok⟩, nmX1⟩
theorem gf_1_0 : gx_fs [1] 0 ("GriefCranes$Firm", "bear", "I", false) := gx_fs1 gfd_1_0
theorem gfd_1_1 : gx_fd 1 1 ("GriefCranes$Firm", "hang", "I", false) := ⟨(RX1, TX1, 10), rfl, by decide, rfl, gl_1, ⟨tyX1, tyX1_ok⟩, nmX1⟩
theorem gf_1_1 : gx_fs [1] 1 ("GriefCranes$Firm", "hang", "I", false) := gx_fs1 gfd_1_1
theorem gfd_1_2 : gx_fd 1 2 ("GriefCranes$Firm", "does", "[I", true) := ⟨(RX1, TX1, 10), rfl, by decide, rfl, gl_1, ⟨tyX1, tyX1_ok⟩, nmX1⟩
theorem gf_1_2 : gx_fs [1] 2 ("GriefCranes$Firm", "does", "[I", true) := gx_fs1 gfd_1_2
theorem gfd_1_3 : gx_fd 1 3 ("GriefCranes$Firm", "letters", "[I", true) := ⟨(RX1, TX1, 10), rfl, by decide, rfl, gl_1, ⟨tyX1, tyX1_ok⟩, nmX1⟩
theorem gf_1_3 : gx_fs [1] 3 ("GriefCranes$Firm", "letters", "[I", true) := gx_fs1 gfd_1_3
theorem gfd_1_4 : gx_fd 1 4 ("GriefCranes$Firm", "numbers", "[I", true) := ⟨(RX1, TX1, 10), rfl, by decide, rfl, gl_1, ⟨tyX1, tyX1_ok⟩, nmX1⟩
theorem gf_1_4 : gx_fs [1] 4 ("GriefCranes$Firm", "numbers", "[I", true) := gx_fs1 gfd_1_4
theorem gfd_1_5 : gx_fd 1 5 ("GriefCranes$Firm", "steps", "I", false) := ⟨(RX1, TX1, 10), rfl, by decide, rfl, gl_1, ⟨tyX1, tyX1_ok⟩, nmX1⟩
theorem gf_1_5 : gx_fs [1] 5 ("GriefCranes$Firm", "steps", "I", false) := gx_fs1 gfd_1_5
theorem gfd_1_6 : gx_fd 1 6 ("GriefCranes$Firm", "bytes", "[B", false) := ⟨(RX1, TX1, 10), rfl, by decide, rfl, gl_1, ⟨tyX1, tyX1_ok⟩, nmX1⟩
theorem gf_1_6 : gx_fs [1] 6 ("GriefCranes$Firm", "bytes", "[B", false) := gx_fs1 gfd_1_6
theorem gfd_1_7 : gx_fd 1 7 ("GriefCranes$Firm", "length", "I", false) := ⟨(RX1, TX1, 10), rfl, by decide, rfl, gl_1, ⟨tyX1, tyX1_ok⟩, nmX1⟩
theorem gf_1_7 : gx_fs [1] 7 ("GriefCranes$Firm", "length", "I", false) := gx_fs1 gfd_1_7
theorem gfd_1_8 : gx_fd 1 8 ("GriefCranes$Firm", "at", "I", false) := ⟨(RX1, TX1, 10), rfl, by decide, rfl, gl_1, ⟨tyX1, tyX1_ok⟩, nmX1⟩
theorem gf_1_8 : gx_fs [1] 8 ("GriefCranes$Firm", "at", "I", false) := gx_fs1 gfd_1_8
theorem gfd_1_9 : gx_fd 1 9 ("GriefCranes$Firm", "number", "I", false) := ⟨(RX1, TX1, 10), rfl, by decide, rfl, gl_1, ⟨tyX1, tyX1_ok⟩, nmX1⟩
theorem gf_1_9 : gx_fs [1] 9 ("GriefCranes$Firm", "number", "I", false) := gx_fs1 gfd_1_9
theorem gfd_5_0 : gx_fd 5 0 ("GriefCranes$Rows", "first", "[I", true) := ⟨(RX5, TX5, 4), rfl, by decide, rfl, gl_5, ⟨tyX5, tyX5_ok⟩, nmX5⟩
theorem gf_5_0 : gx_fs [5] 0 ("GriefCranes$Rows", "first", "[I", true) := gx_fs1 gfd_5_0
theorem gfd_5_1 : gx_fd 5 1 ("GriefCranes$Rows", "second", "[I", true) := ⟨(RX5, TX5, 4), rfl, by decide, rfl, gl_5, ⟨tyX5, tyX5_ok⟩, nmX5⟩
theorem gf_5_1 : gx_fs [5] 1 ("GriefCranes$Rows", "second", "[I", true) := gx_fs1 gfd_5_1
theorem gfd_5_2 : gx_fd 5 2 ("GriefCranes$Rows", "third", "[I", true) := ⟨(RX5, TX5, 4), rfl, by decide, rfl, gl_5, ⟨tyX5, tyX5_ok⟩, nmX5⟩
theorem gf_5_2 : gx_fs [5] 2 ("GriefCranes$Rows", "third", "[I", true) := gx_fs1 gfd_5_2
theorem gfd_5_3 : gx_fd 5 3 ("GriefCranes$Rows", "size", "I", false) := ⟨(RX5, TX5, 4), rfl, by decide, rfl, gl_5, ⟨tyX5, tyX5_ok⟩, nmX5⟩
theorem gf_5_3 : gx_fs [5] 3 ("GriefCranes$Rows", "size", "I", false) := gx_fs1 gfd_5_3
theorem gfd_8_0 : gx_fd 8 0 ("GriefCranes$Tape", "sort", "I", false) := ⟨(RX8, TX8, 3), rfl, by decide, rfl, gl_8, ⟨tyX8, tyX8_ok⟩, nmX8⟩
theorem gf_8_0 : gx_fs [8] 0 ("GriefCranes$Tape", "sort", "I", false) := gx_fs1 gfd_8_0
theorem gfd_8_1 : gx_fd 8 1 ("GriefCranes$Tape", "length", "I", false) := ⟨(RX8, TX8, 3), rfl, by decide, rfl, gl_8, ⟨tyX8, tyX8_ok⟩, nmX8⟩
theorem gf_8_1 : gx_fs [8] 1 ("GriefCranes$Tape", "length", "I", false) := gx_fs1 gfd_8_1
theorem gfd_8_2 : gx_fd 8 2 ("GriefCranes$Tape", "items", "[J", true) := ⟨(RX8, TX8, 3), rfl, by decide, rfl, gl_8, ⟨tyX8, tyX8_ok⟩, nmX8⟩
theorem gf_8_2 : gx_fs [8] 2 ("GriefCranes$Tape", "items", "[J", true) := gx_fs1 gfd_8_2
theorem gfd_10_0 : gx_fd 10 0 ("GriefCranes$Yard", "kinds", "[LGriefCranes$Crane;", true) := ⟨(RX10, TX10, 16), rfl, by decide, rfl, gl_10, ⟨tyX10, tyX10_ok⟩, nmX10⟩
theorem gf_10_0 : gx_fs [10] 0 ("GriefCranes$Yard", "kinds", "[LGriefCranes$Crane;", true) := gx_fs1 gfd_10_0
theorem gfd_10_1 : gx_fd 10 1 ("GriefCranes$Yard", "firm", "LGriefCranes$Firm;", false) := ⟨(RX10, TX10, 16), rfl, by decide, rfl, gl_10, ⟨tyX10, tyX10_ok⟩, nmX10⟩
theorem gf_10_1 : gx_fs [10] 1 ("GriefCranes$Yard", "firm", "LGriefCranes$Firm;", false) := gx_fs1 gfd_10_1
theorem gfd_10_2 : gx_fd 10 2 ("GriefCranes$Yard", "hour", "I", false) := ⟨(RX10, TX10, 16), rfl, by decide, rfl, gl_10, ⟨tyX10, tyX10_ok⟩, nmX10⟩
theorem gf_10_2 : gx_fs [10] 2 ("GriefCranes$Yard", "hour", "I", false) := gx_fs1 gfd_10_2
theorem gfd_10_3 : gx_fd 10 3 ("GriefCranes$Yard", "winds", "[I", true) := ⟨(RX10, TX10, 16), rfl, by decide, rfl, gl_10, ⟨tyX10, tyX10_ok⟩, nmX10⟩
theorem gf_10_3 : gx_fs [10] 3 ("GriefCranes$Yard", "winds", "[I", true) := gx_fs1 gfd_10_3
theorem gfd_10_4 : gx_fd 10 4 ("GriefCranes$Yard", "cranes", "I", false) := ⟨(RX10, TX10, 16), rfl, by decide, rfl, gl_10, ⟨tyX10, tyX10_ok⟩, nmX10⟩
theorem gf_10_4 : gx_fs [10] 4 ("GriefCranes$Yard", "cranes", "I", false) := gx_fs1 gfd_10_4
theorem gfd_10_5 : gx_fd 10 5 ("GriefCranes$Yard", "kindNumbers", "[I", true) := ⟨(RX10, TX10, 16), rfl, by decide, rfl, gl_10, ⟨tyX10, tyX10_ok⟩, nmX10⟩
theorem gf_10_5 : gx_fs [10] 5 ("GriefCranes$Yard", "kindNumbers", "[I", true) := gx_fs1 gfd_10_5
theorem gfd_10_6 : gx_fd 10 6 ("GriefCranes$Yard", "vs", "[I", true) := ⟨(RX10, TX10, 16), rfl, by decide, rfl, gl_10, ⟨tyX10, tyX10_ok⟩, nmX10⟩
theorem gf_10_6 : gx_fs [10] 6 ("GriefCranes$Yard", "vs", "[I", true) := gx_fs1 gfd_10_6
theorem gfd_10_7 : gx_fd 10 7 ("GriefCranes$Yard", "lifts", "[I", true) := ⟨(RX10, TX10, 16), rfl, by decide, rfl, gl_10, ⟨tyX10, tyX10_ok⟩, nmX10⟩
theorem gf_10_7 : gx_fs [10] 7 ("GriefCranes$Yard", "lifts", "[I", true) := gx_fs1 gfd_10_7
theorem gfd_10_8 : gx_fd 10 8 ("GriefCranes$Yard", "rows", "[[I", true) := ⟨(RX10, TX10, 16), rfl, by decide, rfl, gl_10, ⟨tyX10, tyX10_ok⟩, nmX10⟩
theorem gf_10_8 : gx_fs [10] 8 ("GriefCranes$Yard", "rows", "[[I", true) := gx_fs1 gfd_10_8
theorem gfd_10_9 : gx_fd 10 9 ("GriefCranes$Yard", "things", "I", false) := ⟨(RX10, TX10, 16), rfl, by decide, rfl, gl_10, ⟨tyX10, tyX10_ok⟩, nmX10⟩
theorem gf_10_9 : gx_fs [10] 9 ("GriefCranes$Yard", "things", "I", false) := gx_fs1 gfd_10_9
theorem gfd_10_10 : gx_fd 10 10 ("GriefCranes$Yard", "griefs", "[I", true) := ⟨(RX10, TX10, 16), rfl, by decide, rfl, gl_10, ⟨tyX10, tyX10_ok⟩, nmX10⟩
theorem gf_10_10 : gx_fs [10] 10 ("GriefCranes$Yard", "griefs", "[I", true) := gx_fs1 gfd_10_10
theorem gfd_10_11 : gx_fd 10 11 ("GriefCranes$Yard", "sents", "[I", true) := ⟨(RX10, TX10, 16), rfl, by decide, rfl, gl_10, ⟨tyX10, tyX10_ok⟩, nmX10⟩
theorem gf_10_11 : gx_fs [10] 11 ("GriefCranes$Yard", "sents", "[I", true) := gx_fs1 gfd_10_11
theorem gfd_10_12 : gx_fd 10 12 ("GriefCranes$Yard", "states", "[I", true) := ⟨(RX10, TX10, 16), rfl, by decide, rfl, gl_10, ⟨tyX10, tyX10_ok⟩, nmX10⟩
theorem gf_10_12 : gx_fs [10] 12 ("GriefCranes$Yard", "states", "[I", true) := gx_fs1 gfd_10_12
theorem gfd_10_13 : gx_fd 10 13 ("GriefCranes$Yard", "swings", "[I", true) := ⟨(RX10, TX10, 16), rfl, by decide, rfl, gl_10, ⟨tyX10, tyX10_ok⟩, nmX10⟩
theorem gf_10_13 : gx_fs [10] 13 ("GriefCranes$Yard", "swings", "[I", true) := gx_fs1 gfd_10_13
theorem gfd_10_14 : gx_fd 10 14 ("GriefCranes$Yard", "times", "[I", true) := ⟨(RX10, TX10, 16), rfl, by decide, rfl, gl_10, ⟨tyX10, tyX10_ok⟩, nmX10⟩
theorem gf_10_14 : gx_fs [10] 14 ("GriefCranes$Yard", "times", "[I", true) := gx_fs1 gfd_10_14
theorem gfd_10_15 : gx_fd 10 15 ("GriefCranes$Yard", "facts", "[I", true) := ⟨(RX10, TX10, 16), rfl, by decide, rfl, gl_10, ⟨tyX10, tyX10_ok⟩, nmX10⟩
theorem gf_10_15 : gx_fs [10] 15 ("GriefCranes$Yard", "facts", "[I", true) := gx_fs1 gfd_10_15
theorem gfd_11_0 : gx_fd 11 0 ("GriefCranes", "now", "LGriefCranes$Yard;", true) := ⟨(RX11, TX11, 17), rfl, by decide, rfl, gl_11, ⟨tyX11, tyX11_ok⟩, nmX11⟩
theorem gf_11_0 : gx_fs [11] 0 ("GriefCranes", "now", "LGriefCranes$Yard;", true) := gx_fs1 gfd_11_0
theorem gfd_11_1 : gx_fd 11 1 ("GriefCranes", "trial", "LGriefCranes$Yard;", true) := ⟨(RX11, TX11, 17), rfl, by decide, rfl, gl_11, ⟨tyX11, tyX11_ok⟩, nmX11⟩
theorem gf_11_1 : gx_fs [11] 1 ("GriefCranes", "trial", "LGriefCranes$Yard;", true) := gx_fs1 gfd_11_1
theorem gfd_11_2 : gx_fd 11 2 ("GriefCranes", "imageYard", "LGriefCranes$Yard;", true) := ⟨(RX11, TX11, 17), rfl, by decide, rfl, gl_11, ⟨tyX11, tyX11_ok⟩, nmX11⟩
theorem gf_11_2 : gx_fs [11] 2 ("GriefCranes", "imageYard", "LGriefCranes$Yard;", true) := gx_fs1 gfd_11_2
theorem gfd_11_3 : gx_fd 11 3 ("GriefCranes", "seen", "LGriefCranes$Rows;", true) := ⟨(RX11, TX11, 17), rfl, by decide, rfl, gl_11, ⟨tyX11, tyX11_ok⟩, nmX11⟩
theorem gf_11_3 : gx_fs [11] 3 ("GriefCranes", "seen", "LGriefCranes$Rows;", true) := gx_fs1 gfd_11_3
theorem gfd_11_4 : gx_fd 11 4 ("GriefCranes", "imageSeen", "LGriefCranes$Rows;", true) := ⟨(RX11, TX11, 17), rfl, by decide, rfl, gl_11, ⟨tyX11, tyX11_ok⟩, nmX11⟩
theorem gf_11_4 : gx_fs [11] 4 ("GriefCranes", "imageSeen", "LGriefCranes$Rows;", true) := gx_fs1 gfd_11_4
theorem gfd_11_5 : gx_fd 11 5 ("GriefCranes", "plans", "LGriefCranes$Rows;", true) := ⟨(RX11, TX11, 17), rfl, by decide, rfl, gl_11, ⟨tyX11, tyX11_ok⟩, nmX11⟩
theorem gf_11_5 : gx_fs [11] 5 ("GriefCranes", "plans", "LGriefCranes$Rows;", true) := gx_fs1 gfd_11_5
theorem gfd_11_6 : gx_fd 11 6 ("GriefCranes", "imagePlans", "LGriefCranes$Rows;", true) := ⟨(RX11, TX11, 17), rfl, by decide, rfl, gl_11, ⟨tyX11, tyX11_ok⟩, nmX11⟩
theorem gf_11_6 : gx_fs [11] 6 ("GriefCranes", "imagePlans", "LGriefCranes$Rows;", true) := gx_fs1 gfd_11_6
theorem gfd_11_7 : gx_fd 11 7 ("GriefCranes", "books", "LGriefCranes$Rows;", true) := ⟨(RX11, TX11, 17), rfl, by decide, rfl, gl_11, ⟨tyX11, tyX11_ok⟩, nmX11⟩
theorem gf_11_7 : gx_fs [11] 7 ("GriefCranes", "books", "LGriefCranes$Rows;", true) := gx_fs1 gfd_11_7
theorem gfd_11_8 : gx_fd 11 8 ("GriefCranes", "imageBooks", "LGriefCranes$Rows;", true) := ⟨(RX11, TX11, 17), rfl, by decide, rfl, gl_11, ⟨tyX11, tyX11_ok⟩, nmX11⟩
theorem gf_11_8 : gx_fs [11] 8 ("GriefCranes", "imageBooks", "LGriefCranes$Rows;", true) := gx_fs1 gfd_11_8
theorem gfd_11_9 : gx_fd 11 9 ("GriefCranes", "imageTaken", "Z", false) := ⟨(RX11, TX11, 17), rfl, by decide, rfl, gl_11, ⟨tyX11, tyX11_ok⟩, nmX11⟩
theorem gf_11_9 : gx_fs [11] 9 ("GriefCranes", "imageTaken", "Z", false) := gx_fs1 gfd_11_9
theorem gfd_11_10 : gx_fd 11 10 ("GriefCranes", "text", "[B", true) := ⟨(RX11, TX11, 17), rfl, by decide, rfl, gl_11, ⟨tyX11, tyX11_ok⟩, nmX11⟩
theorem gf_11_10 : gx_fs [11] 10 ("GriefCranes", "text", "[B", true) := gx_fs1 gfd_11_10
theorem gfd_11_11 : gx_fd 11 11 ("GriefCranes", "textLength", "I", false) := ⟨(RX11, TX11, 17), rfl, by decide, rfl, gl_11, ⟨tyX11, tyX11_ok⟩, nmX11⟩
theorem gf_11_11 : gx_fs [11] 11 ("GriefCranes", "textLength", "I", false) := gx_fs1 gfd_11_11
theorem gfd_11_12 : gx_fd 11 12 ("GriefCranes", "firms", "[LGriefCranes$Firm;", true) := ⟨(RX11, TX11, 17), rfl, by decide, rfl, gl_11, ⟨tyX11, tyX11_ok⟩, nmX11⟩
theorem gf_11_12 : gx_fs [11] 12 ("GriefCranes", "firms", "[LGriefCranes$Firm;", true) := gx_fs1 gfd_11_12
theorem gfd_11_13 : gx_fd 11 13 ("GriefCranes", "firmCount", "I", false) := ⟨(RX11, TX11, 17), rfl, by decide, rfl, gl_11, ⟨tyX11, tyX11_ok⟩, nmX11⟩
theorem gf_11_13 : gx_fs [11] 13 ("GriefCranes", "firmCount", "I", false) := gx_fs1 gfd_11_13
theorem gfd_11_14 : gx_fd 11 14 ("GriefCranes", "kinds", "[LGriefCranes$Crane;", true) := ⟨(RX11, TX11, 17), rfl, by decide, rfl, gl_11, ⟨tyX11, tyX11_ok⟩, nmX11⟩
theorem gf_11_14 : gx_fs [11] 14 ("GriefCranes", "kinds", "[LGriefCranes$Crane;", true) := gx_fs1 gfd_11_14
theorem gfd_11_15 : gx_fd 11 15 ("GriefCranes", "actor", "LGriefCranes$Crane;", false) := ⟨(RX11, TX11, 17), rfl, by decide, rfl, gl_11, ⟨tyX11, tyX11_ok⟩, nmX11⟩
theorem gf_11_15 : gx_fs [11] 15 ("GriefCranes", "actor", "LGriefCranes$Crane;", false) := gx_fs1 gfd_11_15
theorem gfd_11_16 : gx_fd 11 16 ("GriefCranes", "tapes", "[LGriefCranes$Tape;", true) := ⟨(RX11, TX11, 17), rfl, by decide, rfl, gl_11, ⟨tyX11, tyX11_ok⟩, nmX11⟩
theorem gf_11_16 : gx_fs [11] 16 ("GriefCranes", "tapes", "[LGriefCranes$Tape;", true) := gx_fs1 gfd_11_16
theorem gfd_12_0 : gx_fd 12 0 ("GriefCranesModel", "cranes", "I", false) := ⟨(RX12, TX12, 79), rfl, by decide, rfl, gl_12, ⟨tyX12, tyX12_ok⟩, nmX12⟩
theorem gf_12_0 : gx_fs [12] 0 ("GriefCranesModel", "cranes", "I", false) := gx_fs1 gfd_12_0
theorem gfd_12_1 : gx_fd 12 1 ("GriefCranesModel", "things", "I", false) := ⟨(RX12, TX12, 79), rfl, by decide, rfl, gl_12, ⟨tyX12, tyX12_ok⟩, nmX12⟩
theorem gf_12_1 : gx_fs [12] 1 ("GriefCranesModel", "things", "I", false) := gx_fs1 gfd_12_1
theorem gfd_12_2 : gx_fd 12 2 ("GriefCranesModel", "hour", "I", false) := ⟨(RX12, TX12, 79), rfl, by decide, rfl, gl_12, ⟨tyX12, tyX12_ok⟩, nmX12⟩
theorem gf_12_2 : gx_fs [12] 2 ("GriefCranesModel", "hour", "I", false) := gx_fs1 gfd_12_2
theorem gfd_12_3 : gx_fd 12 3 ("GriefCranesModel", "winds", "[I", true) := ⟨(RX12, TX12, 79), rfl, by decide, rfl, gl_12, ⟨tyX12, tyX12_ok⟩, nmX12⟩
theorem gf_12_3 : gx_fs [12] 3 ("GriefCranesModel", "winds", "[I", true) := gx_fs1 gfd_12_3
theorem gfd_12_4 : gx_fd 12 4 ("GriefCranesModel", "kind", "[I", true) := ⟨(RX12, TX12, 79), rfl, by decide, rfl, gl_12, ⟨tyX12, tyX12_ok⟩, nmX12⟩
theorem gf_12_4 : gx_fs [12] 4 ("GriefCranesModel", "kind", "[I", true) := gx_fs1 gfd_12_4
theorem gfd_12_5 : gx_fd 12 5 ("GriefCranesModel", "v", "[I", true) := ⟨(RX12, TX12, 79), rfl, by decide, rfl, gl_12, ⟨tyX12, tyX12_ok⟩, nmX12⟩
theorem gf_12_5 : gx_fs [12] 5 ("GriefCranesModel", "v", "[I", true) := gx_fs1 gfd_12_5
theorem gfd_12_6 : gx_fd 12 6 ("GriefCranesModel", "lifts", "[I", true) := ⟨(RX12, TX12, 79), rfl, by decide, rfl, gl_12, ⟨tyX12, tyX12_ok⟩, nmX12⟩
theorem gf_12_6 : gx_fs [12] 6 ("GriefCranesModel", "lifts", "[I", true) := gx_fs1 gfd_12_6
theorem gfd_12_7 : gx_fd 12 7 ("GriefCranesModel", "rows", "[I", true) := ⟨(RX12, TX12, 79), rfl, by decide, rfl, gl_12, ⟨tyX12, tyX12_ok⟩, nmX12⟩
theorem gf_12_7 : gx_fs [12] 7 ("GriefCranesModel", "rows", "[I", true) := gx_fs1 gfd_12_7
theorem gfd_12_8 : gx_fd 12 8 ("GriefCranesModel", "grief", "[I", true) := ⟨(RX12, TX12, 79), rfl, by decide, rfl, gl_12, ⟨tyX12, tyX12_ok⟩, nmX12⟩
theorem gf_12_8 : gx_fs [12] 8 ("GriefCranesModel", "grief", "[I", true) := gx_fs1 gfd_12_8
theorem gfd_12_9 : gx_fd 12 9 ("GriefCranesModel", "sent", "[I", true) := ⟨(RX12, TX12, 79), rfl, by decide, rfl, gl_12, ⟨tyX12, tyX12_ok⟩, nmX12⟩
theorem gf_12_9 : gx_fs [12] 9 ("GriefCranesModel", "sent", "[I", true) := gx_fs1 gfd_12_9
theorem gfd_12_10 : gx_fd 12 10 ("GriefCranesModel", "stands", "[I", true) := ⟨(RX12, TX12, 79), rfl, by decide, rfl, gl_12, ⟨tyX12, tyX12_ok⟩, nmX12⟩
theorem gf_12_10 : gx_fs [12] 10 ("GriefCranesModel", "stands", "[I", true) := gx_fs1 gfd_12_10
theorem gfd_12_11 : gx_fd 12 11 ("GriefCranesModel", "swing", "[I", true) := ⟨(RX12, TX12, 79), rfl, by decide, rfl, gl_12, ⟨tyX12, tyX12_ok⟩, nmX12⟩
theorem gf_12_11 : gx_fs [12] 11 ("GriefCranesModel", "swing", "[I", true) := gx_fs1 gfd_12_11
theorem gfd_12_12 : gx_fd 12 12 ("GriefCranesModel", "time", "[I", true) := ⟨(RX12, TX12, 79), rfl, by decide, rfl, gl_12, ⟨tyX12, tyX12_ok⟩, nmX12⟩
theorem gf_12_12 : gx_fs [12] 12 ("GriefCranesModel", "time", "[I", true) := gx_fs1 gfd_12_12
theorem gfd_12_13 : gx_fd 12 13 ("GriefCranesModel", "firms", "I", false) := ⟨(RX12, TX12, 79), rfl, by decide, rfl, gl_12, ⟨tyX12, tyX12_ok⟩, nmX12⟩
theorem gf_12_13 : gx_fs [12] 13 ("GriefCranesModel", "firms", "I", false) := gx_fs1 gfd_12_13
theorem gfd_12_14 : gx_fd 12 14 ("GriefCranesModel", "the", "I", false) := ⟨(RX12, TX12, 79), rfl, by decide, rfl, gl_12, ⟨tyX12, tyX12_ok⟩, nmX12⟩
theorem gf_12_14 : gx_fs [12] 14 ("GriefCranesModel", "the", "I", false) := gx_fs1 gfd_12_14
theorem gfd_12_15 : gx_fd 12 15 ("GriefCranesModel", "fed", "I", false) := ⟨(RX12, TX12, 79), rfl, by decide, rfl, gl_12, ⟨tyX12, tyX12_ok⟩, nmX12⟩
theorem gf_12_15 : gx_fs [12] 15 ("GriefCranesModel", "fed", "I", false) := gx_fs1 gfd_12_15
theorem gfd_12_16 : gx_fd 12 16 ("GriefCranesModel", "at", "I", false) := ⟨(RX12, TX12, 79), rfl, by decide, rfl, gl_12, ⟨tyX12, tyX12_ok⟩, nmX12⟩
theorem gf_12_16 : gx_fs [12] 16 ("GriefCranesModel", "at", "I", false) := gx_fs1 gfd_12_16
theorem gfd_12_17 : gx_fd 12 17 ("GriefCranesModel", "digits", "I", false) := ⟨(RX12, TX12, 79), rfl, by decide, rfl, gl_12, ⟨tyX12, tyX12_ok⟩, nmX12⟩
theorem gf_12_17 : gx_fs [12] 17 ("GriefCranesModel", "digits", "I", false) := gx_fs1 gfd_12_17
theorem gfd_12_18 : gx_fd 12 18 ("GriefCranesModel", "text", "[I", true) := ⟨(RX12, TX12, 79), rfl, by decide, rfl, gl_12, ⟨tyX12, tyX12_ok⟩, nmX12⟩
theorem gf_12_18 : gx_fs [12] 18 ("GriefCranesModel", "text", "[I", true) := gx_fs1 gfd_12_18
theorem gfd_12_19 : gx_fd 12 19 ("GriefCranesModel", "clauses", "[I", true) := ⟨(RX12, TX12, 79), rfl, by decide, rfl, gl_12, ⟨tyX12, tyX12_ok⟩, nmX12⟩
theorem gf_12_19 : gx_fs [12] 19 ("GriefCranesModel", "clauses", "[I", true) := gx_fs1 gfd_12_19
theorem gfd_12_20 : gx_fd 12 20 ("GriefCranesModel", "word", "[I", true) := ⟨(RX12, TX12, 79), rfl, by decide, rfl, gl_12, ⟨tyX12, tyX12_ok⟩, nmX12⟩
theorem gf_12_20 : gx_fs [12] 20 ("GriefCranesModel", "word", "[I", true) := gx_fs1 gfd_12_20
theorem gfd_12_21 : gx_fd 12 21 ("GriefCranesModel", "number", "[I", true) := ⟨(RX12, TX12, 79), rfl, by decide, rfl, gl_12, ⟨tyX12, tyX12_ok⟩, nmX12⟩
theorem gf_12_21 : gx_fs [12] 21 ("GriefCranesModel", "number", "[I", true) := gx_fs1 gfd_12_21
theorem gfd_12_22 : gx_fd 12 22 ("GriefCranesModel", "from", "[I", true) := ⟨(RX12, TX12, 79), rfl, by decide, rfl, gl_12, ⟨tyX12, tyX12_ok⟩, nmX12⟩
theorem gf_12_22 : gx_fs [12] 22 ("GriefCranesModel", "from", "[I", true) := gx_fs1 gfd_12_22
theorem gfd_12_23 : gx_fd 12 23 ("GriefCranesModel", "to", "[I", true) := ⟨(RX12, TX12, 79), rfl, by decide, rfl, gl_12, ⟨tyX12, tyX12_ok⟩, nmX12⟩
theorem gf_12_23 : gx_fs [12] 23 ("GriefCranesModel", "to", "[I", true) := gx_fs1 gfd_12_23
theorem gfd_12_24 : gx_fd 12 24 ("GriefCranesModel", "sign", "[I", true) := ⟨(RX12, TX12, 79), rfl, by decide, rfl, gl_12, ⟨tyX12, tyX12_ok⟩, nmX12⟩
theorem gf_12_24 : gx_fs [12] 24 ("GriefCranesModel", "sign", "[I", true) := gx_fs1 gfd_12_24
theorem gfd_12_25 : gx_fd 12 25 ("GriefCranesModel", "waits", "[I", true) := ⟨(RX12, TX12, 79), rfl, by decide, rfl, gl_12, ⟨tyX12, tyX12_ok⟩, nmX12⟩
theorem gf_12_25 : gx_fs [12] 25 ("GriefCranesModel", "waits", "[I", true) := gx_fs1 gfd_12_25
theorem gfd_12_26 : gx_fd 12 26 ("GriefCranesModel", "signs", "I", false) := ⟨(RX12, TX12, 79), rfl, by decide, rfl, gl_12, ⟨tyX12, tyX12_ok⟩, nmX12⟩
theorem gf_12_26 : gx_fs [12] 26 ("GriefCranesModel", "signs", "I", false) := gx_fs1 gfd_12_26
theorem gfd_12_27 : gx_fd 12 27 ("GriefCranesModel", "waiting", "I", false) := ⟨(RX12, TX12, 79), rfl, by decide, rfl, gl_12, ⟨tyX12, tyX12_ok⟩, nmX12⟩
theorem gf_12_27 : gx_fs [12] 27 ("GriefCranesModel", "waiting", "I", false) := gx_fs1 gfd_12_27
theorem gfd_12_28 : gx_fd 12 28 ("GriefCranesModel", "open", "I", false) := ⟨(RX12, TX12, 79), rfl, by decide, rfl, gl_12, ⟨tyX12, tyX12_ok⟩, nmX12⟩
theorem gf_12_28 : gx_fs [12] 28 ("GriefCranesModel", "open", "I", false) := gx_fs1 gfd_12_28
theorem gfd_12_29 : gx_fd 12 29 ("GriefCranesModel", "letters", "[I", true) := ⟨(RX12, TX12, 79), rfl, by decide, rfl, gl_12, ⟨tyX12, tyX12_ok⟩, nmX12⟩
theorem gf_12_29 : gx_fs [12] 29 ("GriefCranesModel", "letters", "[I", true) := gx_fs1 gfd_12_29
theorem gfd_12_30 : gx_fd 12 30 ("GriefCranesModel", "pile", "[Z", true) := ⟨(RX12, TX12, 79), rfl, by decide, rfl, gl_12, ⟨tyX12, tyX12_ok⟩, nmX12⟩
theorem gf_12_30 : gx_fs [12] 30 ("GriefCranesModel", "pile", "[Z", true) := gx_fs1 gfd_12_30
theorem gfd_12_31 : gx_fd 12 31 ("GriefCranesModel", "mostLifts", "I", false) := ⟨(RX12, TX12, 79), rfl, by decide, rfl, gl_12, ⟨tyX12, tyX12_ok⟩, nmX12⟩
theorem gf_12_31 : gx_fs [12] 31 ("GriefCranesModel", "mostLifts", "I", false) := gx_fs1 gfd_12_31
theorem gfd_12_32 : gx_fd 12 32 ("GriefCranesModel", "keptHour", "I", false) := ⟨(RX12, TX12, 79), rfl, by decide, rfl, gl_12, ⟨tyX12, tyX12_ok⟩, nmX12⟩
theorem gf_12_32 : gx_fs [12] 32 ("GriefCranesModel", "keptHour", "I", false) := gx_fs1 gfd_12_32
theorem gfd_12_33 : gx_fd 12 33 ("GriefCranesModel", "keptLifts", "[I", true) := ⟨(RX12, TX12, 79), rfl, by decide, rfl, gl_12, ⟨tyX12, tyX12_ok⟩, nmX12⟩
theorem gf_12_33 : gx_fs [12] 33 ("GriefCranesModel", "keptLifts", "[I", true) := gx_fs1 gfd_12_33
theorem gfd_12_34 : gx_fd 12 34 ("GriefCranesModel", "keptSent", "[I", true) := ⟨(RX12, TX12, 79), rfl, by decide, rfl, gl_12, ⟨tyX12, tyX12_ok⟩, nmX12⟩
theorem gf_12_34 : gx_fs [12] 34 ("GriefCranesModel", "keptSent", "[I", true) := gx_fs1 gfd_12_34
theorem gfd_12_35 : gx_fd 12 35 ("GriefCranesModel", "keptStands", "[I", true) := ⟨(RX12, TX12, 79), rfl, by decide, rfl, gl_12, ⟨tyX12, tyX12_ok⟩, nmX12⟩
theorem gf_12_35 : gx_fs [12] 35 ("GriefCranesModel", "keptStands", "[I", true) := gx_fs1 gfd_12_35
theorem gfd_12_36 : gx_fd 12 36 ("GriefCranesModel", "keptSwing", "[I", true) := ⟨(RX12, TX12, 79), rfl, by decide, rfl, gl_12, ⟨tyX12, tyX12_ok⟩, nmX12⟩
theorem gf_12_36 : gx_fs [12] 36 ("GriefCranesModel", "keptSwing", "[I", true) := gx_fs1 gfd_12_36
theorem gfd_12_37 : gx_fd 12 37 ("GriefCranesModel", "keptTime", "[I", true) := ⟨(RX12, TX12, 79), rfl, by decide, rfl, gl_12, ⟨tyX12, tyX12_ok⟩, nmX12⟩
theorem gf_12_37 : gx_fs [12] 37 ("GriefCranesModel", "keptTime", "[I", true) := gx_fs1 gfd_12_37
theorem gfd_12_38 : gx_fd 12 38 ("GriefCranesModel", "seen", "I", false) := ⟨(RX12, TX12, 79), rfl, by decide, rfl, gl_12, ⟨tyX12, tyX12_ok⟩, nmX12⟩
theorem gf_12_38 : gx_fs [12] 38 ("GriefCranesModel", "seen", "I", false) := gx_fs1 gfd_12_38
theorem gfd_12_39 : gx_fd 12 39 ("GriefCranesModel", "seenWho", "[I", true) := ⟨(RX12, TX12, 79), rfl, by decide, rfl, gl_12, ⟨tyX12, tyX12_ok⟩, nmX12⟩
theorem gf_12_39 : gx_fs [12] 39 ("GriefCranesModel", "seenWho", "[I", true) := gx_fs1 gfd_12_39
theorem gfd_12_40 : gx_fd 12 40 ("GriefCranesModel", "seenWhen", "[I", true) := ⟨(RX12, TX12, 79), rfl, by decide, rfl, gl_12, ⟨tyX12, tyX12_ok⟩, nmX12⟩
theorem gf_12_40 : gx_fs [12] 40 ("GriefCranesModel", "seenWhen", "[I", true) := gx_fs1 gfd_12_40
theorem gfd_12_41 : gx_fd 12 41 ("GriefCranesModel", "seenState", "[I", true) := ⟨(RX12, TX12, 79), rfl, by decide, rfl, gl_12, ⟨tyX12, tyX12_ok⟩, nmX12⟩
theorem gf_12_41 : gx_fs [12] 41 ("GriefCranesModel", "seenState", "[I", true) := gx_fs1 gfd_12_41
theorem gfd_12_42 : gx_fd 12 42 ("GriefCranesModel", "plans", "I", false) := ⟨(RX12, TX12, 79), rfl, by decide, rfl, gl_12, ⟨tyX12, tyX12_ok⟩, nmX12⟩
theorem gf_12_42 : gx_fs [12] 42 ("GriefCranesModel", "plans", "I", false) := gx_fs1 gfd_12_42
theorem gfd_12_43 : gx_fd 12 43 ("GriefCranesModel", "books", "I", false) := ⟨(RX12, TX12, 79), rfl, by decide, rfl, gl_12, ⟨tyX12, tyX12_ok⟩, nmX12⟩
theorem gf_12_43 : gx_fs [12] 43 ("GriefCranesModel", "books", "I", false) := gx_fs1 gfd_12_43
theorem gfd_12_44 : gx_fd 12 44 ("GriefCranesModel", "planWhat", "[I", true) := ⟨(RX12, TX12, 79), rfl, by decide, rfl, gl_12, ⟨tyX12, tyX12_ok⟩, nmX12⟩
theorem gf_12_44 : gx_fs [12] 44 ("GriefCranesModel", "planWhat", "[I", true) := gx_fs1 gfd_12_44
theorem gfd_12_45 : gx_fd 12 45 ("GriefCranesModel", "planThing", "[I", true) := ⟨(RX12, TX12, 79), rfl, by decide, rfl, gl_12, ⟨tyX12, tyX12_ok⟩, nmX12⟩
theorem gf_12_45 : gx_fs [12] 45 ("GriefCranesModel", "planThing", "[I", true) := gx_fs1 gfd_12_45
theorem gfd_12_46 : gx_fd 12 46 ("GriefCranesModel", "bookThing", "[I", true) := ⟨(RX12, TX12, 79), rfl, by decide, rfl, gl_12, ⟨tyX12, tyX12_ok⟩, nmX12⟩
theorem gf_12_46 : gx_fs [12] 46 ("GriefCranesModel", "bookThing", "[I", true) := gx_fs1 gfd_12_46
theorem gfd_12_47 : gx_fd 12 47 ("GriefCranesModel", "bookGrief", "[I", true) := ⟨(RX12, TX12, 79), rfl, by decide, rfl, gl_12, ⟨tyX12, tyX12_ok⟩, nmX12⟩
theorem gf_12_47 : gx_fs [12] 47 ("GriefCranesModel", "bookGrief", "[I", true) := gx_fs1 gfd_12_47
theorem gfd_12_48 : gx_fd 12 48 ("GriefCranesModel", "hasImage", "Z", false) := ⟨(RX12, TX12, 79), rfl, by decide, rfl, gl_12, ⟨tyX12, tyX12_ok⟩, nmX12⟩
theorem gf_12_48 : gx_fs [12] 48 ("GriefCranesModel", "hasImage", "Z", false) := gx_fs1 gfd_12_48
theorem gfd_12_49 : gx_fd 12 49 ("GriefCranesModel", "imageThe", "I", false) := ⟨(RX12, TX12, 79), rfl, by decide, rfl, gl_12, ⟨tyX12, tyX12_ok⟩, nmX12⟩
theorem gf_12_49 : gx_fs [12] 49 ("GriefCranesModel", "imageThe", "I", false) := gx_fs1 gfd_12_49
theorem gfd_12_50 : gx_fd 12 50 ("GriefCranesModel", "imageCranes", "I", false) := ⟨(RX12, TX12, 79), rfl, by decide, rfl, gl_12, ⟨tyX12, tyX12_ok⟩, nmX12⟩
theorem gf_12_50 : gx_fs [12] 50 ("GriefCranesModel", "imageCranes", "I", false) := gx_fs1 gfd_12_50
theorem gfd_12_51 : gx_fd 12 51 ("GriefCranesModel", "imageThings", "I", false) := ⟨(RX12, TX12, 79), rfl, by decide, rfl, gl_12, ⟨tyX12, tyX12_ok⟩, nmX12⟩
theorem gf_12_51 : gx_fs [12] 51 ("GriefCranesModel", "imageThings", "I", false) := gx_fs1 gfd_12_51
theorem gfd_12_52 : gx_fd 12 52 ("GriefCranesModel", "imageHour", "I", false) := ⟨(RX12, TX12, 79), rfl, by decide, rfl, gl_12, ⟨tyX12, tyX12_ok⟩, nmX12⟩
theorem gf_12_52 : gx_fs [12] 52 ("GriefCranesModel", "imageHour", "I", false) := gx_fs1 gfd_12_52
theorem gfd_12_53 : gx_fd 12 53 ("GriefCranesModel", "imageSeen", "I", false) := ⟨(RX12, TX12, 79), rfl, by decide, rfl, gl_12, ⟨tyX12, tyX12_ok⟩, nmX12⟩
theorem gf_12_53 : gx_fs [12] 53 ("GriefCranesModel", "imageSeen", "I", false) := gx_fs1 gfd_12_53
theorem gfd_12_54 : gx_fd 12 54 ("GriefCranesModel", "imagePlans", "I", false) := ⟨(RX12, TX12, 79), rfl, by decide, rfl, gl_12, ⟨tyX12, tyX12_ok⟩, nmX12⟩
theorem gf_12_54 : gx_fs [12] 54 ("GriefCranesModel", "imagePlans", "I", false) := gx_fs1 gfd_12_54
theorem gfd_12_55 : gx_fd 12 55 ("GriefCranesModel", "imageBooks", "I", false) := ⟨(RX12, TX12, 79), rfl, by decide, rfl, gl_12, ⟨tyX12, tyX12_ok⟩, nmX12⟩
theorem gf_12_55 : gx_fs [12] 55 ("GriefCranesModel", "imageBooks", "I", false) := gx_fs1 gfd_12_55
theorem gfd_12_56 : gx_fd 12 56 ("GriefCranesModel", "imageWinds", "[I", true) := ⟨(RX12, TX12, 79), rfl, by decide, rfl, gl_12, ⟨tyX12, tyX12_ok⟩, nmX12⟩
theorem gf_12_56 : gx_fs [12] 56 ("GriefCranesModel", "imageWinds", "[I", true) := gx_fs1 gfd_12_56
theorem gfd_12_57 : gx_fd 12 57 ("GriefCranesModel", "imageKind", "[I", true) := ⟨(RX12, TX12, 79), rfl, by decide, rfl, gl_12, ⟨tyX12, tyX12_ok⟩, nmX12⟩
theorem gf_12_57 : gx_fs [12] 57 ("GriefCranesModel", "imageKind", "[I", true) := gx_fs1 gfd_12_57
theorem gfd_12_58 : gx_fd 12 58 ("GriefCranesModel", "imageV", "[I", true) := ⟨(RX12, TX12, 79), rfl, by decide, rfl, gl_12, ⟨tyX12, tyX12_ok⟩, nmX12⟩
theorem gf_12_58 : gx_fs [12] 58 ("GriefCranesModel", "imageV", "[I", true) := gx_fs1 gfd_12_58
theorem gfd_12_59 : gx_fd 12 59 ("GriefCranesModel", "imageLifts", "[I", true) := ⟨(RX12, TX12, 79), rfl, by decide, rfl, gl_12, ⟨tyX12, tyX12_ok⟩, nmX12⟩
theorem gf_12_59 : gx_fs [12] 59 ("GriefCranesModel", "imageLifts", "[I", true) := gx_fs1 gfd_12_59
theorem gfd_12_60 : gx_fd 12 60 ("GriefCranesModel", "imageRows", "[I", true) := ⟨(RX12, TX12, 79), rfl, by decide, rfl, gl_12, ⟨tyX12, tyX12_ok⟩, nmX12⟩
theorem gf_12_60 : gx_fs [12] 60 ("GriefCranesModel", "imageRows", "[I", true) := gx_fs1 gfd_12_60
theorem gfd_12_61 : gx_fd 12 61 ("GriefCranesModel", "imageGrief", "[I", true) := ⟨(RX12, TX12, 79), rfl, by decide, rfl, gl_12, ⟨tyX12, tyX12_ok⟩, nmX12⟩
theorem gf_12_61 : gx_fs [12] 61 ("GriefCranesModel", "imageGrief", "[I", true) := gx_fs1 gfd_12_61
theorem gfd_12_62 : gx_fd 12 62 ("GriefCranesModel", "imageSent", "[I", true) := ⟨(RX12, TX12, 79), rfl, by decide, rfl, gl_12, ⟨tyX12, tyX12_ok⟩, nmX12⟩
theorem gf_12_62 : gx_fs [12] 62 ("GriefCranesModel", "imageSent", "[I", true) := gx_fs1 gfd_12_62
theorem gfd_12_63 : gx_fd 12 63 ("GriefCranesModel", "imageStands", "[I", true) := ⟨(RX12, TX12, 79), rfl, by decide, rfl, gl_12, ⟨tyX12, tyX12_ok⟩, nmX12⟩
theorem gf_12_63 : gx_fs [12] 63 ("GriefCranesModel", "imageStands", "[I", true) := gx_fs1 gfd_12_63
theorem gfd_12_64 : gx_fd 12 64 ("GriefCranesModel", "imageSwing", "[I", true) := ⟨(RX12, TX12, 79), rfl, by decide, rfl, gl_12, ⟨tyX12, tyX12_ok⟩, nmX12⟩
theorem gf_12_64 : gx_fs [12] 64 ("GriefCranesModel", "imageSwing", "[I", true) := gx_fs1 gfd_12_64
theorem gfd_12_65 : gx_fd 12 65 ("GriefCranesModel", "imageTime", "[I", true) := ⟨(RX12, TX12, 79), rfl, by decide, rfl, gl_12, ⟨tyX12, tyX12_ok⟩, nmX12⟩
theorem gf_12_65 : gx_fs [12] 65 ("GriefCranesModel", "imageTime", "[I", true) := gx_fs1 gfd_12_65
theorem gfd_12_66 : gx_fd 12 66 ("GriefCranesModel", "imageWho", "[I", true) := ⟨(RX12, TX12, 79), rfl, by decide, rfl, gl_12, ⟨tyX12, tyX12_ok⟩, nmX12⟩
theorem gf_12_66 : gx_fs [12] 66 ("GriefCranesModel", "imageWho", "[I", true) := gx_fs1 gfd_12_66
theorem gfd_12_67 : gx_fd 12 67 ("GriefCranesModel", "imageWhen", "[I", true) := ⟨(RX12, TX12, 79), rfl, by decide, rfl, gl_12, ⟨tyX12, tyX12_ok⟩, nmX12⟩
theorem gf_12_67 : gx_fs [12] 67 ("GriefCranesModel", "imageWhen", "[I", true) := gx_fs1 gfd_12_67
theorem gfd_12_68 : gx_fd 12 68 ("GriefCranesModel", "imageState", "[I", true) := ⟨(RX12, TX12, 79), rfl, by decide, rfl, gl_12, ⟨tyX12, tyX12_ok⟩, nmX12⟩
theorem gf_12_68 : gx_fs [12] 68 ("GriefCranesModel", "imageState", "[I", true) := gx_fs1 gfd_12_68
theorem gfd_12_69 : gx_fd 12 69 ("GriefCranesModel", "imageWhat", "[I", true) := ⟨(RX12, TX12, 79), rfl, by decide, rfl, gl_12, ⟨tyX12, tyX12_ok⟩, nmX12⟩
theorem gf_12_69 : gx_fs [12] 69 ("GriefCranesModel", "imageWhat", "[I", true) := gx_fs1 gfd_12_69
theorem gfd_12_70 : gx_fd 12 70 ("GriefCranesModel", "imageThing", "[I", true) := ⟨(RX12, TX12, 79), rfl, by decide, rfl, gl_12, ⟨tyX12, tyX12_ok⟩, nmX12⟩
theorem gf_12_70 : gx_fs [12] 70 ("GriefCranesModel", "imageThing", "[I", true) := gx_fs1 gfd_12_70
theorem gfd_12_71 : gx_fd 12 71 ("GriefCranesModel", "imageBookThing", "[I", true) := ⟨(RX12, TX12, 79), rfl, by decide, rfl, gl_12, ⟨tyX12, tyX12_ok⟩, nmX12⟩
theorem gf_12_71 : gx_fs [12] 71 ("GriefCranesModel", "imageBookThing", "[I", true) := gx_fs1 gfd_12_71
theorem gfd_12_72 : gx_fd 12 72 ("GriefCranesModel", "imageBookGrief", "[I", true) := ⟨(RX12, TX12, 79), rfl, by decide, rfl, gl_12, ⟨tyX12, tyX12_ok⟩, nmX12⟩
theorem gf_12_72 : gx_fs [12] 72 ("GriefCranesModel", "imageBookGrief", "[I", true) := gx_fs1 gfd_12_72
theorem gfd_12_73 : gx_fd 12 73 ("GriefCranesModel", "ran", "I", false) := ⟨(RX12, TX12, 79), rfl, by decide, rfl, gl_12, ⟨tyX12, tyX12_ok⟩, nmX12⟩
theorem gf_12_73 : gx_fs [12] 73 ("GriefCranesModel", "ran", "I", false) := gx_fs1 gfd_12_73
theorem gfd_12_74 : gx_fd 12 74 ("GriefCranesModel", "bodies", "[I", true) := ⟨(RX12, TX12, 79), rfl, by decide, rfl, gl_12, ⟨tyX12, tyX12_ok⟩, nmX12⟩
theorem gf_12_74 : gx_fs [12] 74 ("GriefCranesModel", "bodies", "[I", true) := gx_fs1 gfd_12_74
theorem gfd_12_75 : gx_fd 12 75 ("GriefCranesModel", "sort", "[I", true) := ⟨(RX12, TX12, 79), rfl, by decide, rfl, gl_12, ⟨tyX12, tyX12_ok⟩, nmX12⟩
theorem gf_12_75 : gx_fs [12] 75 ("GriefCranesModel", "sort", "[I", true) := gx_fs1 gfd_12_75
theorem gfd_12_76 : gx_fd 12 76 ("GriefCranesModel", "length", "[I", true) := ⟨(RX12, TX12, 79), rfl, by decide, rfl, gl_12, ⟨tyX12, tyX12_ok⟩, nmX12⟩
theorem gf_12_76 : gx_fs [12] 76 ("GriefCranesModel", "length", "[I", true) := gx_fs1 gfd_12_76
theorem gfd_12_77 : gx_fd 12 77 ("GriefCranesModel", "item", "[J", true) := ⟨(RX12, TX12, 79), rfl, by decide, rfl, gl_12, ⟨tyX12, tyX12_ok⟩, nmX12⟩
theorem gf_12_77 : gx_fs [12] 77 ("GriefCranesModel", "item", "[J", true) := gx_fs1 gfd_12_77
theorem gfd_12_78 : gx_fd 12 78 ("GriefCranesModel", "aside", "[J", true) := ⟨(RX12, TX12, 79), rfl, by decide, rfl, gl_12, ⟨tyX12, tyX12_ok⟩, nmX12⟩
theorem gf_12_78 : gx_fs [12] 78 ("GriefCranesModel", "aside", "[J", true) := gx_fs1 gfd_12_78
theorem gast_5 : ∀ ci ∈ [0, 2, 3, 4, 6, 7, 9], ∃ r : vw_C, vwCl[ci]? = some r ∧ (r.1 = RX0 ∨ (RX0 = RX0 ∧ r.1 ∈ gx_cas)) := fun ci hc => by
  simp only [List.mem_cons, List.not_mem_nil, or_false] at hc
  rcases hc with rfl | rfl | rfl | rfl | rfl | rfl | rfl
  · exact ⟨(RX0, TX0, 4), rfl, Or.inl rfl⟩
  · exact ⟨(RX2, TX2, 4), rfl, Or.inr ⟨rfl, by decide +kernel⟩⟩
  · exact ⟨(RX3, TX3, 4), rfl, Or.inr ⟨rfl, by decide +kernel⟩⟩
  · exact ⟨(RX4, TX4, 4), rfl, Or.inr ⟨rfl, by decide +kernel⟩⟩
  · exact ⟨(RX6, TX6, 4), rfl, Or.inr ⟨rfl, by decide +kernel⟩⟩
  · exact ⟨(RX7, TX7, 4), rfl, Or.inr ⟨rfl, by decide +kernel⟩⟩
  · exact ⟨(RX9, TX9, 4), rfl, Or.inr ⟨rfl, by decide +kernel⟩⟩
theorem gast_6 : ∀ ci ∈ [1], ∃ r : vw_C, vwCl[ci]? = some r ∧ (r.1 = RX1 ∨ (RX1 = RX0 ∧ r.1 ∈ gx_cas)) := fun ci hc => by
  simp only [List.mem_cons, List.not_mem_nil, or_false] at hc
  subst hc
  · exact ⟨(RX1, TX1, 10), rfl, Or.inl rfl⟩
theorem gast_7 : ∀ ci ∈ [8], ∃ r : vw_C, vwCl[ci]? = some r ∧ (r.1 = RX8 ∨ (RX8 = RX0 ∧ r.1 ∈ gx_cas)) := fun ci hc => by
  simp only [List.mem_cons, List.not_mem_nil, or_false] at hc
  subst hc
  · exact ⟨(RX8, TX8, 3), rfl, Or.inl rfl⟩
set_option maxRecDepth 20000 in
theorem cw_109 : Cond.code yX11_init cX11_init 3 (none) ∈ gx_WS := gx_mem 109 rfl rfl
set_option maxRecDepth 20000 in
theorem cw_112 : Cond.code objectInit ⟨#[0xb1]⟩ 1 (none) ∈ gx_WS := gx_mem 112 rfl rfl
set_option maxRecDepth 20000 in
theorem cw_117 : Cond.code yX5_init cX5_init 2 (none) ∈ gx_WS := gx_mem 117 rfl rfl
set_option maxRecDepth 20000 in
theorem cw_144 : Cond.code yX1_init cX1_init 1 (none) ∈ gx_WS := gx_mem 144 rfl rfl
set_option maxRecDepth 20000 in
theorem cw_185 : Cond.code yX8_init cX8_init 1 (none) ∈ gx_WS := gx_mem 185 rfl rfl
set_option maxRecDepth 20000 in
theorem cw_206 : Cond.code yX0_init cX0_init 1 (none) ∈ gx_WS := gx_mem 206 rfl rfl
set_option maxRecDepth 20000 in
theorem cw_231 : Cond.code yX3_init cX3_init 1 (none) ∈ gx_WS := gx_mem 231 rfl rfl
set_option maxRecDepth 20000 in
theorem cw_242 : Cond.code yX4_init cX4_init 1 (none) ∈ gx_WS := gx_mem 242 rfl rfl
set_option maxRecDepth 20000 in
theorem cw_253 : Cond.code yX7_init cX7_init 1 (none) ∈ gx_WS := gx_mem 253 rfl rfl
set_option maxRecDepth 20000 in
theorem cw_264 : Cond.code yX2_init cX2_init 1 (none) ∈ gx_WS := gx_mem 264 rfl rfl
set_option maxRecDepth 20000 in
theorem cw_275 : Cond.code yX6_init cX6_init 1 (none) ∈ gx_WS := gx_mem 275 rfl rfl
set_option maxRecDepth 20000 in
theorem cw_286 : Cond.code yX9_init cX9_init 1 (none) ∈ gx_WS := gx_mem 286 rfl rfl
set_option maxRecDepth 20000 in
theorem cw_297 : Cond.code yX10_init cX10_init 3 (none) ∈ gx_WS := gx_mem 297 rfl rfl
set_option maxRecDepth 20000 in
theorem cw_426 : Cond.code yX11_crane cX11_crane 3 (some .int) ∈ gx_WS := gx_mem 426 rfl rfl
set_option maxRecDepth 20000 in
theorem cw_429 : Cond.code yX11_within cX11_within 2 (some .boolean) ∈ gx_WS := gx_mem 429 rfl rfl
set_option maxRecDepth 20000 in
theorem cw_433 : Cond.code yX10_addCrane cX10_addCrane 5 (some .int) ∈ gx_WS := gx_mem 433 rfl rfl
set_option maxRecDepth 20000 in
theorem cw_437 : Cond.code yX11_of cX11_of 4 (some .int) ∈ gx_WS := gx_mem 437 rfl rfl
set_option maxRecDepth 20000 in
theorem cw_441 : Cond.code yX10_hasCrane cX10_hasCrane 2 (some .boolean) ∈ gx_WS := gx_mem 441 rfl rfl
set_option maxRecDepth 20000 in
theorem cw_445 : Cond.code yX10_hungBy cX10_hungBy 3 (some .int) ∈ gx_WS := gx_mem 445 rfl rfl
set_option maxRecDepth 20000 in
theorem cw_448 : Cond.code yX11_orNotAny cX11_orNotAny 1 (some .int) ∈ gx_WS := gx_mem 448 rfl rfl
set_option maxRecDepth 20000 in
theorem cw_452 : Cond.code yX10_hasThing cX10_hasThing 2 (some .boolean) ∈ gx_WS := gx_mem 452 rfl rfl
set_option maxRecDepth 20000 in
theorem cw_456 : Cond.code yX10_power cX10_power 4 (some .int) ∈ gx_WS := gx_mem 456 rfl rfl
set_option maxRecDepth 20000 in
theorem cw_460 : Cond.code yX1_sum cX1_sum 6 (some .int) ∈ gx_WS := gx_mem 460 rfl rfl
set_option maxRecDepth 20000 in
theorem cw_464 : Cond.code yX1_isSo cX1_isSo 4 (some .boolean) ∈ gx_WS := gx_mem 464 rfl rfl
set_option maxRecDepth 20000 in
theorem cw_471 : Cond.code yX2_power cX2_power 6 (some .int) ∈ gx_WS := gx_mem 471 rfl rfl
set_option maxRecDepth 20000 in
theorem cw_474 : Cond.code yX3_power cX3_power 5 (some .int) ∈ gx_WS := gx_mem 474 rfl rfl
set_option maxRecDepth 20000 in
theorem cw_478 : Cond.code yX4_power cX4_power 5 (some .int) ∈ gx_WS := gx_mem 478 rfl rfl
set_option maxRecDepth 20000 in
theorem cw_481 : Cond.code yX6_power cX6_power 5 (some .int) ∈ gx_WS := gx_mem 481 rfl rfl
set_option maxRecDepth 20000 in
theorem cw_485 : Cond.code Lib.Math.min.name Lib.Math.min.code 2 (some .int) ∈ gx_WS := gx_mem 485 rfl rfl
set_option maxRecDepth 20000 in
theorem cw_488 : Cond.code yX7_power cX7_power 5 (some .int) ∈ gx_WS := gx_mem 488 rfl rfl
set_option maxRecDepth 20000 in
theorem cw_491 : Cond.code yX9_power cX9_power 5 (some .int) ∈ gx_WS := gx_mem 491 rfl rfl
set_option maxRecDepth 20000 in
theorem cw_493 : Cond.code yX0_power cX0_power 5 (some .int) ∈ gx_WS := gx_mem 493 rfl rfl
set_option maxRecDepth 20000 in
theorem cw_497 : Cond.code yX11_thing cX11_thing 3 (some .int) ∈ gx_WS := gx_mem 497 rfl rfl
set_option maxRecDepth 20000 in
theorem cw_501 : Cond.code yX10_addThing cX10_addThing 4 (some .int) ∈ gx_WS := gx_mem 501 rfl rfl
set_option maxRecDepth 20000 in
theorem cw_505 : Cond.code yX10_setFresh cX10_setFresh 3 (none) ∈ gx_WS := gx_mem 505 rfl rfl
set_option maxRecDepth 20000 in
theorem cw_509 : Cond.code yX11_load cX11_load 3 (some .int) ∈ gx_WS := gx_mem 509 rfl rfl
set_option maxRecDepth 20000 in
theorem cw_513 : Cond.code yX10_copyFrom cX10_copyFrom 3 (none) ∈ gx_WS := gx_mem 513 rfl rfl
set_option maxRecDepth 20000 in
theorem cw_520 : Cond.code yX11_hoursUntilLaid cX11_hoursUntilLaid 3 (some .int) ∈ gx_WS := gx_mem 520 rfl rfl
set_option maxRecDepth 20000 in
theorem cw_524 : Cond.code yX10_isIn cX10_isIn 3 (some .boolean) ∈ gx_WS := gx_mem 524 rfl rfl
set_option maxRecDepth 20000 in
theorem cw_529 : Cond.code yX10_go cX10_go 5 (none) ∈ gx_WS := gx_mem 529 rfl rfl
set_option maxRecDepth 20000 in
theorem cw_534 : Cond.code yX10_hangFirst cX10_hangFirst 3 (none) ∈ gx_WS := gx_mem 534 rfl rfl
set_option maxRecDepth 20000 in
theorem cw_539 : Cond.code yX10_swingOn cX10_swingOn 3 (none) ∈ gx_WS := gx_mem 539 rfl rfl
set_option maxRecDepth 20000 in
theorem cw_544 : Cond.code yX11_soonestCrane cX11_soonestCrane 6 (some .int) ∈ gx_WS := gx_mem 544 rfl rfl
set_option maxRecDepth 20000 in
theorem cw_548 : Cond.code yX11_numbersThatFit cX11_numbersThatFit 7 (some .int) ∈ gx_WS := gx_mem 548 rfl rfl
set_option maxRecDepth 20000 in
theorem cw_552 : Cond.code yX11_allSeenIsSo cX11_allSeenIsSo 4 (some .boolean) ∈ gx_WS := gx_mem 552 rfl rfl
set_option maxRecDepth 20000 in
theorem cw_555 : Cond.code Lib.Math.max.name Lib.Math.max.code 2 (some .int) ∈ gx_WS := gx_mem 555 rfl rfl
set_option maxRecDepth 20000 in
theorem cw_559 : Cond.code yX11_send cX11_send 4 (some .int) ∈ gx_WS := gx_mem 559 rfl rfl
set_option maxRecDepth 20000 in
theorem cw_563 : Cond.code yX11_wind cX11_wind 4 (some .int) ∈ gx_WS := gx_mem 563 rfl rfl
set_option maxRecDepth 20000 in
theorem cw_567 : Cond.code yX11_row cX11_row 5 (some .int) ∈ gx_WS := gx_mem 567 rfl rfl
set_option maxRecDepth 20000 in
theorem cw_571 : Cond.code yX11_feed cX11_feed 2 (some .int) ∈ gx_WS := gx_mem 571 rfl rfl
set_option maxRecDepth 20000 in
theorem cw_575 : Cond.code yX11_firm cX11_firm 3 (some .int) ∈ gx_WS := gx_mem 575 rfl rfl
set_option maxRecDepth 20000 in
theorem cw_579 : Cond.code yX1_readFrom cX1_readFrom 4 (some .int) ∈ gx_WS := gx_mem 579 rfl rfl
set_option maxRecDepth 20000 in
theorem cw_584 : Cond.code yX1_sign cX1_sign 2 (some .boolean) ∈ gx_WS := gx_mem 584 rfl rfl
set_option maxRecDepth 20000 in
theorem cw_588 : Cond.code yX1_next cX1_next 1 (some .int) ∈ gx_WS := gx_mem 588 rfl rfl
set_option maxRecDepth 20000 in
theorem cw_592 : Cond.code yX1_clause cX1_clause 3 (some .boolean) ∈ gx_WS := gx_mem 592 rfl rfl
set_option maxRecDepth 20000 in
theorem cw_598 : Cond.code yX1_amount cX1_amount 3 (some .boolean) ∈ gx_WS := gx_mem 598 rfl rfl
set_option maxRecDepth 20000 in
theorem cw_602 : Cond.code yJ0_length_8abf5 cJ0_length_8abf5 1 (some .int) ∈ gx_WS := gx_mem 602 rfl rfl
set_option maxRecDepth 20000 in
theorem cw_606 : Cond.code yJ0_coder_7d493 cJ0_coder_7d493 1 (some .byte) ∈ gx_WS := gx_mem 606 rfl rfl
set_option maxRecDepth 20000 in
theorem cw_612 : Cond.code yJ0_charAt_5068e cJ0_charAt_5068e 2 (some .char) ∈ gx_WS := gx_mem 612 rfl rfl
set_option maxRecDepth 20000 in
theorem cw_616 : Cond.code yJ0_isLatin1_aae02 cJ0_isLatin1_aae02 1 (some .boolean) ∈ gx_WS := gx_mem 616 rfl rfl
set_option maxRecDepth 20000 in
theorem cw_619 : Cond.code yJ1_charAt_3b067 cJ1_charAt_3b067 2 (some .char) ∈ gx_WS := gx_mem 619 rfl rfl
set_option maxRecDepth 20000 in
theorem cw_622 : Cond.code yJ0_checkIndex_df160 cJ0_checkIndex_df160 2 (none) ∈ gx_WS := gx_mem 622 rfl rfl
set_option maxRecDepth 20000 in
theorem cw_627 : Cond.code yJ3_checkIndex_8e157 cJ3_checkIndex_8e157 3 (some .int) ∈ gx_WS := gx_mem 627 rfl rfl
set_option maxRecDepth 20000 in
theorem cw_650 : Cond.code yX1_readNumber cX1_readNumber 1 (some .boolean) ∈ gx_WS := gx_mem 650 rfl rfl
set_option maxRecDepth 20000 in
theorem cw_653 : Cond.code yX1_isDigit cX1_isDigit 1 (some .boolean) ∈ gx_WS := gx_mem 653 rfl rfl
set_option maxRecDepth 20000 in
theorem cw_659 : Cond.code yX1_either cX1_either 5 (some .boolean) ∈ gx_WS := gx_mem 659 rfl rfl
set_option maxRecDepth 20000 in
theorem cw_663 : Cond.code yX1_single cX1_single 3 (some .boolean) ∈ gx_WS := gx_mem 663 rfl rfl
set_option maxRecDepth 20000 in
theorem cw_667 : Cond.code yX1_test cX1_test 3 (some .boolean) ∈ gx_WS := gx_mem 667 rfl rfl
set_option maxRecDepth 20000 in
theorem cw_672 : Cond.code yX1_placeIn cX1_placeIn 2 (some .int) ∈ gx_WS := gx_mem 672 rfl rfl
set_option maxRecDepth 20000 in
theorem cw_676 : Cond.code yJ0_indexOf_0f7a4 cJ0_indexOf_0f7a4 2 (some .int) ∈ gx_WS := gx_mem 676 rfl rfl
set_option maxRecDepth 20000 in
theorem cw_680 : Cond.code yJ0_indexOf_7cf53 cJ0_indexOf_7cf53 3 (some .int) ∈ gx_WS := gx_mem 680 rfl rfl
set_option maxRecDepth 20000 in
theorem cw_684 : Cond.code yJ1_indexOf_4cfef cJ1_indexOf_4cfef 4 (some .int) ∈ gx_WS := gx_mem 684 rfl rfl
set_option maxRecDepth 20000 in
theorem cw_687 : Cond.code yJ1_canEncode_9a6ad cJ1_canEncode_9a6ad 1 (some .boolean) ∈ gx_WS := gx_mem 687 rfl rfl
set_option maxRecDepth 20000 in
theorem cw_692 : Cond.code yJ1_indexOfChar_4cfef cJ1_indexOfChar_4cfef 6 (some .int) ∈ gx_WS := gx_mem 692 rfl rfl
set_option maxRecDepth 20000 in
theorem cw_732 : Cond.code yX1_addStep cX1_addStep 4 (none) ∈ gx_WS := gx_mem 732 rfl rfl
set_option maxRecDepth 20000 in
theorem cw_736 : Cond.code yX11_told cX11_told 3 (some .int) ∈ gx_WS := gx_mem 736 rfl rfl
set_option maxRecDepth 20000 in
theorem cw_740 : Cond.code yX10_bitsOf cX10_bitsOf 4 (some .int) ∈ gx_WS := gx_mem 740 rfl rfl
set_option maxRecDepth 20000 in
theorem cw_744 : Cond.code yX11_pass cX11_pass 2 (some .int) ∈ gx_WS := gx_mem 744 rfl rfl
set_option maxRecDepth 20000 in
theorem cw_748 : Cond.code yX11_on cX11_on 6 (some .int) ∈ gx_WS := gx_mem 748 rfl rfl
set_option maxRecDepth 20000 in
theorem cw_752 : Cond.code yX10_howMany cX10_howMany 2 (some .int) ∈ gx_WS := gx_mem 752 rfl rfl
set_option maxRecDepth 20000 in
theorem cw_756 : Cond.code yJ6_bitCount_0f7a4 cJ6_bitCount_0f7a4 1 (some .int) ∈ gx_WS := gx_mem 756 rfl rfl
set_option maxRecDepth 20000 in
theorem cw_763 : Cond.code yX11_best cX11_best 3 (some .int) ∈ gx_WS := gx_mem 763 rfl rfl
set_option maxRecDepth 20000 in
theorem cw_767 : Cond.code yX11_bestChange cX11_bestChange 7 (some .int) ∈ gx_WS := gx_mem 767 rfl rfl
set_option maxRecDepth 20000 in
theorem cw_771 : Cond.code yX11_leastCrew cX11_leastCrew 8 (some .int) ∈ gx_WS := gx_mem 771 rfl rfl
set_option maxRecDepth 20000 in
theorem cw_775 : Cond.code yX11_laidWith cX11_laidWith 6 (some .int) ∈ gx_WS := gx_mem 775 rfl rfl
set_option maxRecDepth 20000 in
theorem cw_780 : Cond.code yX11_see cX11_see 4 (some .int) ∈ gx_WS := gx_mem 780 rfl rfl
set_option maxRecDepth 20000 in
theorem cw_784 : Cond.code yX5_clear cX5_clear 1 (some .int) ∈ gx_WS := gx_mem 784 rfl rfl
set_option maxRecDepth 20000 in
theorem cw_788 : Cond.code yX5_add cX5_add 4 (some .int) ∈ gx_WS := gx_mem 788 rfl rfl
set_option maxRecDepth 20000 in
theorem cw_792 : Cond.code yX11_can cX11_can 3 (some .int) ∈ gx_WS := gx_mem 792 rfl rfl
set_option maxRecDepth 20000 in
theorem cw_796 : Cond.code yX11_odds cX11_odds 6 (some .long) ∈ gx_WS := gx_mem 796 rfl rfl
set_option maxRecDepth 20000 in
theorem cw_800 : Cond.code yX11_lowestTerms cX11_lowestTerms 5 (some .long) ∈ gx_WS := gx_mem 800 rfl rfl
set_option maxRecDepth 20000 in
theorem cw_804 : Cond.code yX11_mean cX11_mean 5 (some .long) ∈ gx_WS := gx_mem 804 rfl rfl
set_option maxRecDepth 20000 in
theorem cw_808 : Cond.code yX11_plan cX11_plan 3 (some .int) ∈ gx_WS := gx_mem 808 rfl rfl
set_option maxRecDepth 20000 in
theorem cw_812 : Cond.code yX11_ends cX11_ends 3 (some .int) ∈ gx_WS := gx_mem 812 rfl rfl
set_option maxRecDepth 20000 in
theorem cw_816 : Cond.code yX11_goPlanRow cX11_goPlanRow 3 (none) ∈ gx_WS := gx_mem 816 rfl rfl
set_option maxRecDepth 20000 in
theorem cw_821 : Cond.code yX11_book cX11_book 3 (some .int) ∈ gx_WS := gx_mem 821 rfl rfl
set_option maxRecDepth 20000 in
theorem cw_825 : Cond.code yX11_looked cX11_looked 3 (some .int) ∈ gx_WS := gx_mem 825 rfl rfl
set_option maxRecDepth 20000 in
theorem cw_829 : Cond.code yX11_judge cX11_judge 5 (some .int) ∈ gx_WS := gx_mem 829 rfl rfl
set_option maxRecDepth 20000 in
theorem cw_833 : Cond.code yX11_image cX11_image 1 (some .int) ∈ gx_WS := gx_mem 833 rfl rfl
set_option maxRecDepth 20000 in
theorem cw_837 : Cond.code yX5_copyFrom cX5_copyFrom 2 (none) ∈ gx_WS := gx_mem 837 rfl rfl
set_option maxRecDepth 20000 in
theorem cw_842 : Cond.code yX11_undo cX11_undo 1 (some .int) ∈ gx_WS := gx_mem 842 rfl rfl
set_option maxRecDepth 20000 in
theorem cw_846 : Cond.code yX11_act cX11_act 4 (some .int) ∈ gx_WS := gx_mem 846 rfl rfl
set_option maxRecDepth 20000 in
theorem cw_857 : Cond.code yX0_begin cX0_begin 3 (none) ∈ gx_WS := gx_mem 857 rfl rfl
set_option maxRecDepth 20000 in
theorem cw_864 : Cond.code yX2_leans cX2_leans 2 (some .int) ∈ gx_WS := gx_mem 864 rfl rfl
set_option maxRecDepth 20000 in
theorem cw_870 : Cond.code yX0_began cX0_began 2 (none) ∈ gx_WS := gx_mem 870 rfl rfl
set_option maxRecDepth 20000 in
theorem cw_877 : Cond.code yX4_leans cX4_leans 2 (some .int) ∈ gx_WS := gx_mem 877 rfl rfl
set_option maxRecDepth 20000 in
theorem cw_887 : Cond.code yX9_leans cX9_leans 2 (some .int) ∈ gx_WS := gx_mem 887 rfl rfl
set_option maxRecDepth 20000 in
theorem cw_893 : Cond.code yX0_leans cX0_leans 2 (some .int) ∈ gx_WS := gx_mem 893 rfl rfl
set_option maxRecDepth 20000 in
theorem cw_901 : Cond.code yX2_lifts cX2_lifts 2 (some .int) ∈ gx_WS := gx_mem 901 rfl rfl
set_option maxRecDepth 20000 in
theorem cw_904 : Cond.code yX3_lifts cX3_lifts 2 (some .int) ∈ gx_WS := gx_mem 904 rfl rfl
set_option maxRecDepth 20000 in
theorem cw_916 : Cond.code yX9_lifts cX9_lifts 2 (some .int) ∈ gx_WS := gx_mem 916 rfl rfl
set_option maxRecDepth 20000 in
theorem cw_920 : Cond.code yX0_lifts cX0_lifts 2 (some .int) ∈ gx_WS := gx_mem 920 rfl rfl
set_option maxRecDepth 20000 in
theorem cw_931 : Cond.code yX6_tells cX6_tells 2 (some .int) ∈ gx_WS := gx_mem 931 rfl rfl
set_option maxRecDepth 20000 in
theorem cw_940 : Cond.code yX7_tells cX7_tells 2 (some .int) ∈ gx_WS := gx_mem 940 rfl rfl
set_option maxRecDepth 20000 in
theorem cw_950 : Cond.code yX0_tells cX0_tells 2 (some .int) ∈ gx_WS := gx_mem 950 rfl rfl
set_option maxRecDepth 20000 in
theorem cw_955 : Cond.code yX11_trace cX11_trace 2 (some .int) ∈ gx_WS := gx_mem 955 rfl rfl
set_option maxRecDepth 20000 in
theorem cw_959 : Cond.code yX11_taken cX11_taken 6 (some .int) ∈ gx_WS := gx_mem 959 rfl rfl
set_option maxRecDepth 20000 in
theorem cw_965 : Cond.code yX11_count cX11_count 2 (some .int) ∈ gx_WS := gx_mem 965 rfl rfl
set_option maxRecDepth 20000 in
theorem cw_969 : Cond.code yX11_tape cX11_tape 4 (some .int) ∈ gx_WS := gx_mem 969 rfl rfl
set_option maxRecDepth 20000 in
theorem cw_973 : Cond.code yX8_become cX8_become 4 (none) ∈ gx_WS := gx_mem 973 rfl rfl
set_option maxRecDepth 20000 in
theorem cw_977 : Cond.code yX11_item cX11_item 6 (some .int) ∈ gx_WS := gx_mem 977 rfl rfl
set_option maxRecDepth 20000 in
theorem cw_981 : Cond.code yX8_narrowed cX8_narrowed 3 (some .long) ∈ gx_WS := gx_mem 981 rfl rfl
set_option maxRecDepth 20000 in
theorem cw_985 : Cond.code yX11_read cX11_read 4 (some .long) ∈ gx_WS := gx_mem 985 rfl rfl
set_option maxRecDepth 20000 in
theorem cw_989 : Cond.code yX11_shift cX11_shift 8 (some .int) ∈ gx_WS := gx_mem 989 rfl rfl
set_option maxRecDepth 20000 in
theorem cw_995 : Cond.code yX12_init cX12_init 1 (none) ∈ gx_WS := gx_mem 995 rfl rfl
set_option maxRecDepth 20000 in
theorem cw_1239 : Cond.code yX12_crane cX12_crane 4 (some .int) ∈ gx_WS := gx_mem 1239 rfl rfl
set_option maxRecDepth 20000 in
theorem cw_1243 : Cond.code yX12_in cX12_in 4 (some .boolean) ∈ gx_WS := gx_mem 1243 rfl rfl
set_option maxRecDepth 20000 in
theorem cw_1247 : Cond.code yX12_thing cX12_thing 3 (some .int) ∈ gx_WS := gx_mem 1247 rfl rfl
set_option maxRecDepth 20000 in
theorem cw_1251 : Cond.code yX12_isCrane cX12_isCrane 2 (some .boolean) ∈ gx_WS := gx_mem 1251 rfl rfl
set_option maxRecDepth 20000 in
theorem cw_1255 : Cond.code yX12_isGrief cX12_isGrief 2 (some .boolean) ∈ gx_WS := gx_mem 1255 rfl rfl
set_option maxRecDepth 20000 in
theorem cw_1259 : Cond.code yX12_send cX12_send 4 (some .int) ∈ gx_WS := gx_mem 1259 rfl rfl
set_option maxRecDepth 20000 in
theorem cw_1263 : Cond.code yX12_isThing cX12_isThing 2 (some .boolean) ∈ gx_WS := gx_mem 1263 rfl rfl
set_option maxRecDepth 20000 in
theorem cw_1267 : Cond.code yX12_wind cX12_wind 4 (some .int) ∈ gx_WS := gx_mem 1267 rfl rfl
set_option maxRecDepth 20000 in
theorem cw_1271 : Cond.code yX12_row cX12_row 5 (some .int) ∈ gx_WS := gx_mem 1271 rfl rfl
set_option maxRecDepth 20000 in
theorem cw_1275 : Cond.code yX12_feed cX12_feed 2 (some .int) ∈ gx_WS := gx_mem 1275 rfl rfl
set_option maxRecDepth 20000 in
theorem cw_1279 : Cond.code yX12_firm cX12_firm 2 (some .int) ∈ gx_WS := gx_mem 1279 rfl rfl
set_option maxRecDepth 20000 in
theorem cw_1283 : Cond.code yX12_goesText cX12_goesText 3 (some .boolean) ∈ gx_WS := gx_mem 1283 rfl rfl
set_option maxRecDepth 20000 in
theorem cw_1287 : Cond.code yX12_takesClause cX12_takesClause 2 (some .boolean) ∈ gx_WS := gx_mem 1287 rfl rfl
set_option maxRecDepth 20000 in
theorem cw_1291 : Cond.code yX12_takesHead cX12_takesHead 2 (some .boolean) ∈ gx_WS := gx_mem 1291 rfl rfl
set_option maxRecDepth 20000 in
theorem cw_1295 : Cond.code yX12_next cX12_next 1 (some .int) ∈ gx_WS := gx_mem 1295 rfl rfl
set_option maxRecDepth 20000 in
theorem cw_1299 : Cond.code yX12_takesWord cX12_takesWord 4 (some .boolean) ∈ gx_WS := gx_mem 1299 rfl rfl
set_option maxRecDepth 20000 in
theorem cw_1303 : Cond.code yX12_takes cX12_takes 2 (some .boolean) ∈ gx_WS := gx_mem 1303 rfl rfl
set_option maxRecDepth 20000 in
theorem cw_1307 : Cond.code yX12_takesNumber cX12_takesNumber 2 (some .boolean) ∈ gx_WS := gx_mem 1307 rfl rfl
set_option maxRecDepth 20000 in
theorem cw_1311 : Cond.code yX12_isDigit cX12_isDigit 1 (some .boolean) ∈ gx_WS := gx_mem 1311 rfl rfl
set_option maxRecDepth 20000 in
theorem cw_1315 : Cond.code yX12_takesE cX12_takesE 4 (some .boolean) ∈ gx_WS := gx_mem 1315 rfl rfl
set_option maxRecDepth 20000 in
theorem cw_1319 : Cond.code yX12_takesTest cX12_takesTest 3 (some .boolean) ∈ gx_WS := gx_mem 1319 rfl rfl
set_option maxRecDepth 20000 in
theorem cw_1323 : Cond.code yX12_place cX12_place 2 (some .int) ∈ gx_WS := gx_mem 1323 rfl rfl
set_option maxRecDepth 20000 in
theorem cw_1327 : Cond.code yX12_emits cX12_emits 2 (none) ∈ gx_WS := gx_mem 1327 rfl rfl
set_option maxRecDepth 20000 in
theorem cw_1331 : Cond.code yX12_whole cX12_whole 1 (none) ∈ gx_WS := gx_mem 1331 rfl rfl
set_option maxRecDepth 20000 in
theorem cw_1335 : Cond.code yX12_settle cX12_settle 2 (none) ∈ gx_WS := gx_mem 1335 rfl rfl
set_option maxRecDepth 20000 in
theorem cw_1339 : Cond.code yX12_of cX12_of 3 (some .int) ∈ gx_WS := gx_mem 1339 rfl rfl
set_option maxRecDepth 20000 in
theorem cw_1343 : Cond.code yX12_power cX12_power 5 (some .int) ∈ gx_WS := gx_mem 1343 rfl rfl
set_option maxRecDepth 20000 in
theorem cw_1347 : Cond.code yX12_sum cX12_sum 5 (some .int) ∈ gx_WS := gx_mem 1347 rfl rfl
set_option maxRecDepth 20000 in
theorem cw_1351 : Cond.code yX12_begin cX12_begin 1 (some .int) ∈ gx_WS := gx_mem 1351 rfl rfl
set_option maxRecDepth 20000 in
theorem cw_1355 : Cond.code yX12_behind cX12_behind 1 (some .int) ∈ gx_WS := gx_mem 1355 rfl rfl
set_option maxRecDepth 20000 in
theorem cw_1359 : Cond.code yX12_holds cX12_holds 9 (some .boolean) ∈ gx_WS := gx_mem 1359 rfl rfl
set_option maxRecDepth 20000 in
theorem cw_1363 : Cond.code yX12_factOf cX12_factOf 4 (some .int) ∈ gx_WS := gx_mem 1363 rfl rfl
set_option maxRecDepth 20000 in
theorem cw_1367 : Cond.code yX12_blows cX12_blows 1 (some .int) ∈ gx_WS := gx_mem 1367 rfl rfl
set_option maxRecDepth 20000 in
theorem cw_1371 : Cond.code yX12_least cX12_least 3 (some .int) ∈ gx_WS := gx_mem 1371 rfl rfl
set_option maxRecDepth 20000 in
theorem cw_1375 : Cond.code yX12_hungBy cX12_hungBy 3 (some .int) ∈ gx_WS := gx_mem 1375 rfl rfl
set_option maxRecDepth 20000 in
theorem cw_1379 : Cond.code yX12_pass cX12_pass 2 (some .int) ∈ gx_WS := gx_mem 1379 rfl rfl
set_option maxRecDepth 20000 in
theorem cw_1383 : Cond.code yX12_isHours cX12_isHours 2 (some .boolean) ∈ gx_WS := gx_mem 1383 rfl rfl
set_option maxRecDepth 20000 in
theorem cw_1387 : Cond.code yX12_goHours cX12_goHours 3 (none) ∈ gx_WS := gx_mem 1387 rfl rfl
set_option maxRecDepth 20000 in
theorem cw_1391 : Cond.code yX12_goHour cX12_goHour 3 (none) ∈ gx_WS := gx_mem 1391 rfl rfl
set_option maxRecDepth 20000 in
theorem cw_1395 : Cond.code yX12_swings cX12_swings 3 (none) ∈ gx_WS := gx_mem 1395 rfl rfl
set_option maxRecDepth 20000 in
theorem cw_1399 : Cond.code yX12_bear cX12_bear 1 (some .int) ∈ gx_WS := gx_mem 1399 rfl rfl
set_option maxRecDepth 20000 in
theorem cw_1403 : Cond.code yX12_lastOf cX12_lastOf 5 (some .int) ∈ gx_WS := gx_mem 1403 rfl rfl
set_option maxRecDepth 20000 in
theorem cw_1407 : Cond.code yX12_hang cX12_hang 1 (some .int) ∈ gx_WS := gx_mem 1407 rfl rfl
set_option maxRecDepth 20000 in
theorem cw_1411 : Cond.code yX12_hangs cX12_hangs 3 (none) ∈ gx_WS := gx_mem 1411 rfl rfl
set_option maxRecDepth 20000 in
theorem cw_1415 : Cond.code yX12_told cX12_told 2 (some .int) ∈ gx_WS := gx_mem 1415 rfl rfl
set_option maxRecDepth 20000 in
theorem cw_1419 : Cond.code yX12_setOf cX12_setOf 4 (some .int) ∈ gx_WS := gx_mem 1419 rfl rfl
set_option maxRecDepth 20000 in
theorem cw_1423 : Cond.code yX12_on cX12_on 4 (some .int) ∈ gx_WS := gx_mem 1423 rfl rfl
set_option maxRecDepth 20000 in
theorem cw_1427 : Cond.code yX12_save cX12_save 2 (none) ∈ gx_WS := gx_mem 1427 rfl rfl
set_option maxRecDepth 20000 in
theorem cw_1432 : Cond.code yX12_bits cX12_bits 4 (some .int) ∈ gx_WS := gx_mem 1432 rfl rfl
set_option maxRecDepth 20000 in
theorem cw_1436 : Cond.code yX12_has cX12_has 3 (some .boolean) ∈ gx_WS := gx_mem 1436 rfl rfl
set_option maxRecDepth 20000 in
theorem cw_1440 : Cond.code yX12_putBack cX12_putBack 2 (none) ∈ gx_WS := gx_mem 1440 rfl rfl
set_option maxRecDepth 20000 in
theorem cw_1444 : Cond.code yX12_best cX12_best 3 (some .int) ∈ gx_WS := gx_mem 1444 rfl rfl
set_option maxRecDepth 20000 in
theorem cw_1448 : Cond.code yX12_changed cX12_changed 7 (some .int) ∈ gx_WS := gx_mem 1448 rfl rfl
set_option maxRecDepth 20000 in
theorem cw_1453 : Cond.code yX12_fallenBy cX12_fallenBy 6 (some .int) ∈ gx_WS := gx_mem 1453 rfl rfl
set_option maxRecDepth 20000 in
theorem cw_1457 : Cond.code yX12_crew cX12_crew 5 (some .int) ∈ gx_WS := gx_mem 1457 rfl rfl
set_option maxRecDepth 20000 in
theorem cw_1461 : Cond.code yX12_laidBy cX12_laidBy 4 (some .int) ∈ gx_WS := gx_mem 1461 rfl rfl
set_option maxRecDepth 20000 in
theorem cw_1465 : Cond.code yX12_see cX12_see 4 (some .int) ∈ gx_WS := gx_mem 1465 rfl rfl
set_option maxRecDepth 20000 in
theorem cw_1469 : Cond.code yX12_load cX12_load 3 (some .int) ∈ gx_WS := gx_mem 1469 rfl rfl
set_option maxRecDepth 20000 in
theorem cw_1473 : Cond.code yX12_down cX12_down 3 (some .int) ∈ gx_WS := gx_mem 1473 rfl rfl
set_option maxRecDepth 20000 in
theorem cw_1477 : Cond.code yX12_downBy cX12_downBy 4 (some .int) ∈ gx_WS := gx_mem 1477 rfl rfl
set_option maxRecDepth 20000 in
theorem cw_1481 : Cond.code yX12_bestCrane cX12_bestCrane 6 (some .int) ∈ gx_WS := gx_mem 1481 rfl rfl
set_option maxRecDepth 20000 in
theorem cw_1485 : Cond.code yX12_griefs cX12_griefs 7 (some .int) ∈ gx_WS := gx_mem 1485 rfl rfl
set_option maxRecDepth 20000 in
theorem cw_1489 : Cond.code yX12_isSeen cX12_isSeen 3 (some .boolean) ∈ gx_WS := gx_mem 1489 rfl rfl
set_option maxRecDepth 20000 in
theorem cw_1493 : Cond.code yX12_can cX12_can 7 (some .int) ∈ gx_WS := gx_mem 1493 rfl rfl
set_option maxRecDepth 20000 in
theorem cw_1497 : Cond.code yX12_odds cX12_odds 8 (some .long) ∈ gx_WS := gx_mem 1497 rfl rfl
set_option maxRecDepth 20000 in
theorem cw_1502 : Cond.code yX12_lowest cX12_lowest 5 (some .long) ∈ gx_WS := gx_mem 1502 rfl rfl
set_option maxRecDepth 20000 in
theorem cw_1506 : Cond.code yX12_divisor cX12_divisor 6 (some .int) ∈ gx_WS := gx_mem 1506 rfl rfl
set_option maxRecDepth 20000 in
theorem cw_1510 : Cond.code yX12_mean cX12_mean 5 (some .long) ∈ gx_WS := gx_mem 1510 rfl rfl
set_option maxRecDepth 20000 in
theorem cw_1514 : Cond.code yX12_plan cX12_plan 3 (some .int) ∈ gx_WS := gx_mem 1514 rfl rfl
set_option maxRecDepth 20000 in
theorem cw_1518 : Cond.code yX12_ends cX12_ends 3 (some .int) ∈ gx_WS := gx_mem 1518 rfl rfl
set_option maxRecDepth 20000 in
theorem cw_1522 : Cond.code yX12_goPlan cX12_goPlan 3 (none) ∈ gx_WS := gx_mem 1522 rfl rfl
set_option maxRecDepth 20000 in
theorem cw_1526 : Cond.code yX12_book cX12_book 3 (some .int) ∈ gx_WS := gx_mem 1526 rfl rfl
set_option maxRecDepth 20000 in
theorem cw_1530 : Cond.code yX12_looked cX12_looked 2 (some .int) ∈ gx_WS := gx_mem 1530 rfl rfl
set_option maxRecDepth 20000 in
theorem cw_1534 : Cond.code yX12_judge cX12_judge 4 (some .int) ∈ gx_WS := gx_mem 1534 rfl rfl
set_option maxRecDepth 20000 in
theorem cw_1538 : Cond.code yX12_isTape cX12_isTape 2 (some .boolean) ∈ gx_WS := gx_mem 1538 rfl rfl
set_option maxRecDepth 20000 in
theorem cw_1542 : Cond.code yX12_image cX12_image 2 (some .int) ∈ gx_WS := gx_mem 1542 rfl rfl
set_option maxRecDepth 20000 in
theorem cw_1546 : Cond.code yX12_undo cX12_undo 2 (some .int) ∈ gx_WS := gx_mem 1546 rfl rfl
set_option maxRecDepth 20000 in
theorem cw_1550 : Cond.code yX12_act cX12_act 4 (some .int) ∈ gx_WS := gx_mem 1550 rfl rfl
set_option maxRecDepth 20000 in
theorem cw_1554 : Cond.code yX12_leansAct cX12_leansAct 3 (some .int) ∈ gx_WS := gx_mem 1554 rfl rfl
set_option maxRecDepth 20000 in
theorem cw_1558 : Cond.code yX12_body cX12_body 2 (none) ∈ gx_WS := gx_mem 1558 rfl rfl
set_option maxRecDepth 20000 in
theorem cw_1562 : Cond.code yX12_craneLeans cX12_craneLeans 3 (some .int) ∈ gx_WS := gx_mem 1562 rfl rfl
set_option maxRecDepth 20000 in
theorem cw_1566 : Cond.code yX12_liftsAct cX12_liftsAct 4 (some .int) ∈ gx_WS := gx_mem 1566 rfl rfl
set_option maxRecDepth 20000 in
theorem cw_1570 : Cond.code yX12_jibLifts cX12_jibLifts 3 (some .int) ∈ gx_WS := gx_mem 1570 rfl rfl
set_option maxRecDepth 20000 in
theorem cw_1574 : Cond.code yX12_craneLifts cX12_craneLifts 3 (some .int) ∈ gx_WS := gx_mem 1574 rfl rfl
set_option maxRecDepth 20000 in
theorem cw_1578 : Cond.code yX12_tellsAct cX12_tellsAct 4 (some .int) ∈ gx_WS := gx_mem 1578 rfl rfl
set_option maxRecDepth 20000 in
theorem cw_1582 : Cond.code yX12_craneTells cX12_craneTells 3 (some .int) ∈ gx_WS := gx_mem 1582 rfl rfl
set_option maxRecDepth 20000 in
theorem cw_1586 : Cond.code yX12_trace cX12_trace 2 (some .int) ∈ gx_WS := gx_mem 1586 rfl rfl
set_option maxRecDepth 20000 in
theorem cw_1590 : Cond.code yX12_taken cX12_taken 4 (some .int) ∈ gx_WS := gx_mem 1590 rfl rfl
set_option maxRecDepth 20000 in
theorem cw_1594 : Cond.code yX12_count cX12_count 2 (some .int) ∈ gx_WS := gx_mem 1594 rfl rfl
set_option maxRecDepth 20000 in
theorem cw_1598 : Cond.code yX12_tape cX12_tape 5 (some .int) ∈ gx_WS := gx_mem 1598 rfl rfl
set_option maxRecDepth 20000 in
theorem cw_1602 : Cond.code yX12_item cX12_item 5 (some .int) ∈ gx_WS := gx_mem 1602 rfl rfl
set_option maxRecDepth 20000 in
theorem cw_1606 : Cond.code yX12_narrow cX12_narrow 4 (some .long) ∈ gx_WS := gx_mem 1606 rfl rfl
set_option maxRecDepth 20000 in
theorem cw_1610 : Cond.code yX12_read cX12_read 3 (some .long) ∈ gx_WS := gx_mem 1610 rfl rfl
set_option maxRecDepth 20000 in
theorem cw_1614 : Cond.code yX12_shift cX12_shift 7 (some .int) ∈ gx_WS := gx_mem 1614 rfl rfl
theorem md_0 : gc_md 0 = (yX0_init, cX0_init, 1, none) := rfl
theorem md_1 : gc_md 1 = (yX0_power, cX0_power, 5, some .int) := rfl
theorem md_2 : gc_md 2 = (yX0_begin, cX0_begin, 3, none) := rfl
theorem md_3 : gc_md 3 = (yX0_began, cX0_began, 2, none) := rfl
theorem md_4 : gc_md 4 = (yX0_leans, cX0_leans, 2, some .int) := rfl
theorem md_5 : gc_md 5 = (yX0_lifts, cX0_lifts, 2, some .int) := rfl
theorem md_6 : gc_md 6 = (yX0_tells, cX0_tells, 2, some .int) := rfl
theorem md_7 : gc_md 7 = (yX1_init, cX1_init, 1, none) := rfl
theorem md_8 : gc_md 8 = (yX1_readFrom, cX1_readFrom, 4, some .int) := rfl
theorem md_9 : gc_md 9 = (yX1_sum, cX1_sum, 6, some .int) := rfl
theorem md_10 : gc_md 10 = (yX1_isSo, cX1_isSo, 4, some .boolean) := rfl
theorem md_11 : gc_md 11 = (yX1_clause, cX1_clause, 3, some .boolean) := rfl
theorem md_12 : gc_md 12 = (yX1_amount, cX1_amount, 3, some .boolean) := rfl
theorem md_13 : gc_md 13 = (yX1_either, cX1_either, 5, some .boolean) := rfl
theorem md_14 : gc_md 14 = (yX1_next, cX1_next, 1, some .int) := rfl
theorem md_15 : gc_md 15 = (yX1_single, cX1_single, 3, some .boolean) := rfl
theorem md_16 : gc_md 16 = (yX1_test, cX1_test, 3, some .boolean) := rfl
theorem md_17 : gc_md 17 = (yX1_readNumber, cX1_readNumber, 1, some .boolean) := rfl
theorem md_18 : gc_md 18 = (yX1_isDigit, cX1_isDigit, 1, some .boolean) := rfl
theorem md_19 : gc_md 19 = (yX1_placeIn, cX1_placeIn, 2, some .int) := rfl
theorem md_20 : gc_md 20 = (yX1_sign, cX1_sign, 2, some .boolean) := rfl
theorem md_21 : gc_md 21 = (yX1_next, cX1_next, 1, some .int) := rfl
theorem md_22 : gc_md 22 = (yX1_addStep, cX1_addStep, 4, none) := rfl
theorem md_23 : gc_md 23 = (yX2_init, cX2_init, 1, none) := rfl
theorem md_24 : gc_md 24 = (yX2_power, cX2_power, 6, some .int) := rfl
theorem md_25 : gc_md 25 = (yX2_leans, cX2_leans, 2, some .int) := rfl
theorem md_26 : gc_md 26 = (yX2_lifts, cX2_lifts, 2, some .int) := rfl
theorem md_27 : gc_md 27 = (yX3_init, cX3_init, 1, none) := rfl
theorem md_28 : gc_md 28 = (yX3_power, cX3_power, 5, some .int) := rfl
theorem md_29 : gc_md 29 = (yX3_lifts, cX3_lifts, 2, some .int) := rfl
theorem md_30 : gc_md 30 = (yX4_init, cX4_init, 1, none) := rfl
theorem md_31 : gc_md 31 = (yX4_power, cX4_power, 5, some .int) := rfl
theorem md_32 : gc_md 32 = (yX4_leans, cX4_leans, 2, some .int) := rfl
theorem md_33 : gc_md 33 = (yX5_init, cX5_init, 2, none) := rfl
theorem md_34 : gc_md 34 = (yX5_add, cX5_add, 4, some .int) := rfl
theorem md_35 : gc_md 35 = (yX5_clear, cX5_clear, 1, some .int) := rfl
theorem md_36 : gc_md 36 = (yX5_copyFrom, cX5_copyFrom, 2, none) := rfl
theorem md_37 : gc_md 37 = (yX6_init, cX6_init, 1, none) := rfl
theorem md_38 : gc_md 38 = (yX6_power, cX6_power, 5, some .int) := rfl
theorem md_39 : gc_md 39 = (yX6_tells, cX6_tells, 2, some .int) := rfl
theorem md_40 : gc_md 40 = (yX7_init, cX7_init, 1, none) := rfl
theorem md_41 : gc_md 41 = (yX7_power, cX7_power, 5, some .int) := rfl
theorem md_42 : gc_md 42 = (yX7_tells, cX7_tells, 2, some .int) := rfl
theorem md_43 : gc_md 43 = (yX8_init, cX8_init, 1, none) := rfl
theorem md_44 : gc_md 44 = (yX8_become, cX8_become, 4, none) := rfl
theorem md_45 : gc_md 45 = (yX8_narrowed, cX8_narrowed, 3, some .long) := rfl
theorem md_46 : gc_md 46 = (yX9_init, cX9_init, 1, none) := rfl
theorem md_47 : gc_md 47 = (yX9_power, cX9_power, 5, some .int) := rfl
theorem md_48 : gc_md 48 = (yX9_lifts, cX9_lifts, 2, some .int) := rfl
theorem md_49 : gc_md 49 = (yX9_leans, cX9_leans, 2, some .int) := rfl
theorem md_50 : gc_md 50 = (yX10_init, cX10_init, 3, none) := rfl
theorem md_51 : gc_md 51 = (yX10_hasCrane, cX10_hasCrane, 2, some .boolean) := rfl
theorem md_52 : gc_md 52 = (yX10_hasThing, cX10_hasThing, 2, some .boolean) := rfl
theorem md_53 : gc_md 53 = (yX10_isIn, cX10_isIn, 3, some .boolean) := rfl
theorem md_54 : gc_md 54 = (yX10_addCrane, cX10_addCrane, 5, some .int) := rfl
theorem md_55 : gc_md 55 = (yX10_addThing, cX10_addThing, 4, some .int) := rfl
theorem md_56 : gc_md 56 = (yX10_setFresh, cX10_setFresh, 3, none) := rfl
theorem md_57 : gc_md 57 = (yX10_copyFrom, cX10_copyFrom, 3, none) := rfl
theorem md_58 : gc_md 58 = (yX10_howMany, cX10_howMany, 2, some .int) := rfl
theorem md_59 : gc_md 59 = (yX10_bitsOf, cX10_bitsOf, 4, some .int) := rfl
theorem md_60 : gc_md 60 = (yX10_hungBy, cX10_hungBy, 3, some .int) := rfl
theorem md_61 : gc_md 61 = (yX10_power, cX10_power, 4, some .int) := rfl
theorem md_62 : gc_md 62 = (yX10_go, cX10_go, 5, none) := rfl
theorem md_63 : gc_md 63 = (yX10_hangFirst, cX10_hangFirst, 3, none) := rfl
theorem md_64 : gc_md 64 = (yX10_swingOn, cX10_swingOn, 3, none) := rfl
theorem md_65 : gc_md 65 = (yX11_init, cX11_init, 3, none) := rfl
theorem md_66 : gc_md 66 = (yX11_crane, cX11_crane, 3, some .int) := rfl
theorem md_67 : gc_md 67 = (yX11_of, cX11_of, 4, some .int) := rfl
theorem md_68 : gc_md 68 = (yX11_thing, cX11_thing, 3, some .int) := rfl
theorem md_69 : gc_md 69 = (yX11_load, cX11_load, 3, some .int) := rfl
theorem md_70 : gc_md 70 = (yX11_send, cX11_send, 4, some .int) := rfl
theorem md_71 : gc_md 71 = (yX11_wind, cX11_wind, 4, some .int) := rfl
theorem md_72 : gc_md 72 = (yX11_row, cX11_row, 5, some .int) := rfl
theorem md_73 : gc_md 73 = (yX11_feed, cX11_feed, 2, some .int) := rfl
theorem md_74 : gc_md 74 = (yX11_firm, cX11_firm, 3, some .int) := rfl
theorem md_75 : gc_md 75 = (yX11_told, cX11_told, 3, some .int) := rfl
theorem md_76 : gc_md 76 = (yX11_pass, cX11_pass, 2, some .int) := rfl
theorem md_77 : gc_md 77 = (yX11_on, cX11_on, 6, some .int) := rfl
theorem md_78 : gc_md 78 = (yX11_best, cX11_best, 3, some .int) := rfl
theorem md_79 : gc_md 79 = (yX11_see, cX11_see, 4, some .int) := rfl
theorem md_80 : gc_md 80 = (yX11_can, cX11_can, 3, some .int) := rfl
theorem md_81 : gc_md 81 = (yX11_odds, cX11_odds, 6, some .long) := rfl
theorem md_82 : gc_md 82 = (yX11_mean, cX11_mean, 5, some .long) := rfl
theorem md_83 : gc_md 83 = (yX11_plan, cX11_plan, 3, some .int) := rfl
theorem md_84 : gc_md 84 = (yX11_ends, cX11_ends, 3, some .int) := rfl
theorem md_85 : gc_md 85 = (yX11_book, cX11_book, 3, some .int) := rfl
theorem md_86 : gc_md 86 = (yX11_looked, cX11_looked, 3, some .int) := rfl
theorem md_87 : gc_md 87 = (yX11_judge, cX11_judge, 5, some .int) := rfl
theorem md_88 : gc_md 88 = (yX11_image, cX11_image, 1, some .int) := rfl
theorem md_89 : gc_md 89 = (yX11_undo, cX11_undo, 1, some .int) := rfl
theorem md_90 : gc_md 90 = (yX11_act, cX11_act, 4, some .int) := rfl
theorem md_91 : gc_md 91 = (yX11_trace, cX11_trace, 2, some .int) := rfl
theorem md_92 : gc_md 92 = (yX11_taken, cX11_taken, 6, some .int) := rfl
theorem md_93 : gc_md 93 = (yX11_count, cX11_count, 2, some .int) := rfl
theorem md_94 : gc_md 94 = (yX11_tape, cX11_tape, 4, some .int) := rfl
theorem md_95 : gc_md 95 = (yX11_item, cX11_item, 6, some .int) := rfl
theorem md_96 : gc_md 96 = (yX11_read, cX11_read, 4, some .long) := rfl
theorem md_97 : gc_md 97 = (yX11_shift, cX11_shift, 8, some .int) := rfl
theorem md_98 : gc_md 98 = (yX11_within, cX11_within, 2, some .boolean) := rfl
theorem md_99 : gc_md 99 = (yX11_orNotAny, cX11_orNotAny, 1, some .int) := rfl
theorem md_100 : gc_md 100 = (yX11_lowestTerms, cX11_lowestTerms, 5, some .long) := rfl
theorem md_101 : gc_md 101 = (yX11_hoursUntilLaid, cX11_hoursUntilLaid, 3, some .int) := rfl
theorem md_102 : gc_md 102 = (yX11_soonestCrane, cX11_soonestCrane, 6, some .int) := rfl
theorem md_103 : gc_md 103 = (yX11_bestChange, cX11_bestChange, 7, some .int) := rfl
theorem md_104 : gc_md 104 = (yX11_leastCrew, cX11_leastCrew, 8, some .int) := rfl
theorem md_105 : gc_md 105 = (yX11_laidWith, cX11_laidWith, 6, some .int) := rfl
theorem md_106 : gc_md 106 = (yX11_numbersThatFit, cX11_numbersThatFit, 7, some .int) := rfl
theorem md_107 : gc_md 107 = (yX11_allSeenIsSo, cX11_allSeenIsSo, 4, some .boolean) := rfl
theorem md_108 : gc_md 108 = (yX11_goPlanRow, cX11_goPlanRow, 3, none) := rfl
theorem md_109 : gc_md 109 = (yX12_init, cX12_init, 1, none) := rfl
theorem md_110 : gc_md 110 = (yX12_in, cX12_in, 4, some .boolean) := rfl
theorem md_111 : gc_md 111 = (yX12_has, cX12_has, 3, some .boolean) := rfl
theorem md_112 : gc_md 112 = (yX12_least, cX12_least, 3, some .int) := rfl
theorem md_113 : gc_md 113 = (yX12_bits, cX12_bits, 4, some .int) := rfl
theorem md_114 : gc_md 114 = (yX12_isCrane, cX12_isCrane, 2, some .boolean) := rfl
theorem md_115 : gc_md 115 = (yX12_isThing, cX12_isThing, 2, some .boolean) := rfl
theorem md_116 : gc_md 116 = (yX12_isGrief, cX12_isGrief, 2, some .boolean) := rfl
theorem md_117 : gc_md 117 = (yX12_isHours, cX12_isHours, 2, some .boolean) := rfl
theorem md_118 : gc_md 118 = (yX12_crane, cX12_crane, 4, some .int) := rfl
theorem md_119 : gc_md 119 = (yX12_thing, cX12_thing, 3, some .int) := rfl
theorem md_120 : gc_md 120 = (yX12_send, cX12_send, 4, some .int) := rfl
theorem md_121 : gc_md 121 = (yX12_wind, cX12_wind, 4, some .int) := rfl
theorem md_122 : gc_md 122 = (yX12_row, cX12_row, 5, some .int) := rfl
theorem md_123 : gc_md 123 = (yX12_feed, cX12_feed, 2, some .int) := rfl
theorem md_124 : gc_md 124 = (yX12_next, cX12_next, 1, some .int) := rfl
theorem md_125 : gc_md 125 = (yX12_takes, cX12_takes, 2, some .boolean) := rfl
theorem md_126 : gc_md 126 = (yX12_takesWord, cX12_takesWord, 4, some .boolean) := rfl
theorem md_127 : gc_md 127 = (yX12_isDigit, cX12_isDigit, 1, some .boolean) := rfl
theorem md_128 : gc_md 128 = (yX12_takesNumber, cX12_takesNumber, 2, some .boolean) := rfl
theorem md_129 : gc_md 129 = (yX12_emits, cX12_emits, 2, none) := rfl
theorem md_130 : gc_md 130 = (yX12_whole, cX12_whole, 1, none) := rfl
theorem md_131 : gc_md 131 = (yX12_settle, cX12_settle, 2, none) := rfl
theorem md_132 : gc_md 132 = (yX12_place, cX12_place, 2, some .int) := rfl
theorem md_133 : gc_md 133 = (yX12_takesTest, cX12_takesTest, 3, some .boolean) := rfl
theorem md_134 : gc_md 134 = (yX12_takesE, cX12_takesE, 4, some .boolean) := rfl
theorem md_135 : gc_md 135 = (yX12_takesHead, cX12_takesHead, 2, some .boolean) := rfl
theorem md_136 : gc_md 136 = (yX12_takesClause, cX12_takesClause, 2, some .boolean) := rfl
theorem md_137 : gc_md 137 = (yX12_goesText, cX12_goesText, 3, some .boolean) := rfl
theorem md_138 : gc_md 138 = (yX12_firm, cX12_firm, 2, some .int) := rfl
theorem md_139 : gc_md 139 = (yX12_begin, cX12_begin, 1, some .int) := rfl
theorem md_140 : gc_md 140 = (yX12_behind, cX12_behind, 1, some .int) := rfl
theorem md_141 : gc_md 141 = (yX12_lastOf, cX12_lastOf, 5, some .int) := rfl
theorem md_142 : gc_md 142 = (yX12_bear, cX12_bear, 1, some .int) := rfl
theorem md_143 : gc_md 143 = (yX12_hang, cX12_hang, 1, some .int) := rfl
theorem md_144 : gc_md 144 = (yX12_factOf, cX12_factOf, 4, some .int) := rfl
theorem md_145 : gc_md 145 = (yX12_holds, cX12_holds, 9, some .boolean) := rfl
theorem md_146 : gc_md 146 = (yX12_sum, cX12_sum, 5, some .int) := rfl
theorem md_147 : gc_md 147 = (yX12_blows, cX12_blows, 1, some .int) := rfl
theorem md_148 : gc_md 148 = (yX12_power, cX12_power, 5, some .int) := rfl
theorem md_149 : gc_md 149 = (yX12_hungBy, cX12_hungBy, 3, some .int) := rfl
theorem md_150 : gc_md 150 = (yX12_of, cX12_of, 3, some .int) := rfl
theorem md_151 : gc_md 151 = (yX12_swings, cX12_swings, 3, none) := rfl
theorem md_152 : gc_md 152 = (yX12_hangs, cX12_hangs, 3, none) := rfl
theorem md_153 : gc_md 153 = (yX12_goHour, cX12_goHour, 3, none) := rfl
theorem md_154 : gc_md 154 = (yX12_goHours, cX12_goHours, 3, none) := rfl
theorem md_155 : gc_md 155 = (yX12_pass, cX12_pass, 2, some .int) := rfl
theorem md_156 : gc_md 156 = (yX12_save, cX12_save, 2, none) := rfl
theorem md_157 : gc_md 157 = (yX12_putBack, cX12_putBack, 2, none) := rfl
theorem md_158 : gc_md 158 = (yX12_setOf, cX12_setOf, 4, some .int) := rfl
theorem md_159 : gc_md 159 = (yX12_downBy, cX12_downBy, 4, some .int) := rfl
theorem md_160 : gc_md 160 = (yX12_down, cX12_down, 3, some .int) := rfl
theorem md_161 : gc_md 161 = (yX12_bestCrane, cX12_bestCrane, 6, some .int) := rfl
theorem md_162 : gc_md 162 = (yX12_told, cX12_told, 2, some .int) := rfl
theorem md_163 : gc_md 163 = (yX12_on, cX12_on, 4, some .int) := rfl
theorem md_164 : gc_md 164 = (yX12_fallenBy, cX12_fallenBy, 6, some .int) := rfl
theorem md_165 : gc_md 165 = (yX12_changed, cX12_changed, 7, some .int) := rfl
theorem md_166 : gc_md 166 = (yX12_laidBy, cX12_laidBy, 4, some .int) := rfl
theorem md_167 : gc_md 167 = (yX12_crew, cX12_crew, 5, some .int) := rfl
theorem md_168 : gc_md 168 = (yX12_best, cX12_best, 3, some .int) := rfl
theorem md_169 : gc_md 169 = (yX12_see, cX12_see, 4, some .int) := rfl
theorem md_170 : gc_md 170 = (yX12_isSeen, cX12_isSeen, 3, some .boolean) := rfl
theorem md_171 : gc_md 171 = (yX12_griefs, cX12_griefs, 7, some .int) := rfl
theorem md_172 : gc_md 172 = (yX12_load, cX12_load, 3, some .int) := rfl
theorem md_173 : gc_md 173 = (yX12_can, cX12_can, 7, some .int) := rfl
theorem md_174 : gc_md 174 = (yX12_divisor, cX12_divisor, 6, some .int) := rfl
theorem md_175 : gc_md 175 = (yX12_lowest, cX12_lowest, 5, some .long) := rfl
theorem md_176 : gc_md 176 = (yX12_odds, cX12_odds, 8, some .long) := rfl
theorem md_177 : gc_md 177 = (yX12_mean, cX12_mean, 5, some .long) := rfl
theorem md_178 : gc_md 178 = (yX12_plan, cX12_plan, 3, some .int) := rfl
theorem md_179 : gc_md 179 = (yX12_goPlan, cX12_goPlan, 3, none) := rfl
theorem md_180 : gc_md 180 = (yX12_ends, cX12_ends, 3, some .int) := rfl
theorem md_181 : gc_md 181 = (yX12_book, cX12_book, 3, some .int) := rfl
theorem md_182 : gc_md 182 = (yX12_looked, cX12_looked, 2, some .int) := rfl
theorem md_183 : gc_md 183 = (yX12_judge, cX12_judge, 4, some .int) := rfl
theorem md_184 : gc_md 184 = (yX12_image, cX12_image, 2, some .int) := rfl
theorem md_185 : gc_md 185 = (yX12_undo, cX12_undo, 2, some .int) := rfl
theorem md_186 : gc_md 186 = (yX12_body, cX12_body, 2, none) := rfl
theorem md_187 : gc_md 187 = (yX12_craneLeans, cX12_craneLeans, 3, some .int) := rfl
theorem md_188 : gc_md 188 = (yX12_leansAct, cX12_leansAct, 3, some .int) := rfl
theorem md_189 : gc_md 189 = (yX12_craneLifts, cX12_craneLifts, 3, some .int) := rfl
theorem md_190 : gc_md 190 = (yX12_jibLifts, cX12_jibLifts, 3, some .int) := rfl
theorem md_191 : gc_md 191 = (yX12_liftsAct, cX12_liftsAct, 4, some .int) := rfl
theorem md_192 : gc_md 192 = (yX12_craneTells, cX12_craneTells, 3, some .int) := rfl
theorem md_193 : gc_md 193 = (yX12_tellsAct, cX12_tellsAct, 4, some .int) := rfl
theorem md_194 : gc_md 194 = (yX12_act, cX12_act, 4, some .int) := rfl
theorem md_195 : gc_md 195 = (yX12_trace, cX12_trace, 2, some .int) := rfl
theorem md_196 : gc_md 196 = (yX12_taken, cX12_taken, 4, some .int) := rfl
theorem md_197 : gc_md 197 = (yX12_count, cX12_count, 2, some .int) := rfl
theorem md_198 : gc_md 198 = (yX12_isTape, cX12_isTape, 2, some .boolean) := rfl
theorem md_199 : gc_md 199 = (yX12_tape, cX12_tape, 5, some .int) := rfl
theorem md_200 : gc_md 200 = (yX12_narrow, cX12_narrow, 4, some .long) := rfl
theorem md_201 : gc_md 201 = (yX12_item, cX12_item, 5, some .int) := rfl
theorem md_202 : gc_md 202 = (yX12_read, cX12_read, 3, some .long) := rfl
theorem md_203 : gc_md 203 = (yX12_shift, cX12_shift, 7, some .int) := rfl
theorem md_204 : gc_md 204 = (yJ0_length_8abf5, cJ0_length_8abf5, 1, some .int) := rfl
theorem md_205 : gc_md 205 = (yJ0_charAt_5068e, cJ0_charAt_5068e, 2, some .char) := rfl
theorem md_206 : gc_md 206 = (yJ0_indexOf_0f7a4, cJ0_indexOf_0f7a4, 2, some .int) := rfl
theorem md_207 : gc_md 207 = (yJ0_indexOf_7cf53, cJ0_indexOf_7cf53, 3, some .int) := rfl
theorem md_208 : gc_md 208 = (yJ0_coder_7d493, cJ0_coder_7d493, 1, some .byte) := rfl
theorem md_209 : gc_md 209 = (yJ0_isLatin1_aae02, cJ0_isLatin1_aae02, 1, some .boolean) := rfl
theorem md_210 : gc_md 210 = (yJ0_checkIndex_df160, cJ0_checkIndex_df160, 2, none) := rfl
theorem md_211 : gc_md 211 = (yJ1_charAt_3b067, cJ1_charAt_3b067, 2, some .char) := rfl
theorem md_212 : gc_md 212 = (yJ1_canEncode_9a6ad, cJ1_canEncode_9a6ad, 1, some .boolean) := rfl
theorem md_213 : gc_md 213 = (yJ1_indexOf_4cfef, cJ1_indexOf_4cfef, 4, some .int) := rfl
theorem md_214 : gc_md 214 = (yJ1_indexOfChar_4cfef, cJ1_indexOfChar_4cfef, 6, some .int) := rfl
theorem md_215 : gc_md 215 = (yJ3_checkIndex_8e157, cJ3_checkIndex_8e157, 3, some .int) := rfl
theorem md_216 : gc_md 216 = (yJ6_bitCount_0f7a4, cJ6_bitCount_0f7a4, 1, some .int) := rfl
theorem md_217 : gc_md 217 = (x, code, 4, some .boolean) := rfl
