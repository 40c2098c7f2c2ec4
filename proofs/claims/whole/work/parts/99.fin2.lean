/-! what holds at the law's entry -/
theorem tb_m {w : Cond} (i : Nat) (h : tables_1[i]? = some w) : w ∈ lw_tbl := List.mem_append_right _ (List.mem_of_getElem? h)
theorem uw_RX0 : ∀ w ∈ u_ws RX0 TX0 4, w ∈ lw_tbl := by
  intro w hw
  obtain ⟨k, hk, rfl⟩ := List.mem_map.mp hw
  have hk := List.mem_range.mp hk
  match k, hk with
  | 0, _ => exact tb_m 135 (by decide +kernel)
  | 1, _ => exact tb_m 137 (by decide +kernel)
  | 2, _ => exact tb_m 139 (by decide +kernel)
  | 3, _ => exact tb_m 141 (by decide +kernel)
theorem uw_RX1 : ∀ w ∈ u_ws RX1 TX1 10, w ∈ lw_tbl := by
  intro w hw
  obtain ⟨k, hk, rfl⟩ := List.mem_map.mp hw
  have hk := List.mem_range.mp hk
  match k, hk with
  | 0, _ => exact tb_m 77 (by decide +kernel)
  | 1, _ => exact tb_m 79 (by decide +kernel)
  | 2, _ => exact tb_m 81 (by decide +kernel)
  | 3, _ => exact tb_m 83 (by decide +kernel)
  | 4, _ => exact tb_m 85 (by decide +kernel)
  | 5, _ => exact tb_m 87 (by decide +kernel)
  | 6, _ => exact tb_m 89 (by decide +kernel)
  | 7, _ => exact tb_m 91 (by decide +kernel)
  | 8, _ => exact tb_m 93 (by decide +kernel)
  | 9, _ => exact tb_m 95 (by decide +kernel)
theorem uw_RX2 : ∀ w ∈ u_ws RX2 TX2 4, w ∈ lw_tbl := by
  intro w hw
  obtain ⟨k, hk, rfl⟩ := List.mem_map.mp hw
  have hk := List.mem_range.mp hk
  match k, hk with
  | 0, _ => exact tb_m 183 (by decide +kernel)
  | 1, _ => exact tb_m 184 (by decide +kernel)
  | 2, _ => exact tb_m 185 (by decide +kernel)
  | 3, _ => exact tb_m 186 (by decide +kernel)
theorem uw_RX3 : ∀ w ∈ u_ws RX3 TX3 4, w ∈ lw_tbl := by
  intro w hw
  obtain ⟨k, hk, rfl⟩ := List.mem_map.mp hw
  have hk := List.mem_range.mp hk
  match k, hk with
  | 0, _ => exact tb_m 150 (by decide +kernel)
  | 1, _ => exact tb_m 151 (by decide +kernel)
  | 2, _ => exact tb_m 152 (by decide +kernel)
  | 3, _ => exact tb_m 153 (by decide +kernel)
theorem uw_RX4 : ∀ w ∈ u_ws RX4 TX4 4, w ∈ lw_tbl := by
  intro w hw
  obtain ⟨k, hk, rfl⟩ := List.mem_map.mp hw
  have hk := List.mem_range.mp hk
  match k, hk with
  | 0, _ => exact tb_m 161 (by decide +kernel)
  | 1, _ => exact tb_m 162 (by decide +kernel)
  | 2, _ => exact tb_m 163 (by decide +kernel)
  | 3, _ => exact tb_m 164 (by decide +kernel)
theorem uw_RX5 : ∀ w ∈ u_ws RX5 TX5 4, w ∈ lw_tbl := by
  intro w hw
  obtain ⟨k, hk, rfl⟩ := List.mem_map.mp hw
  have hk := List.mem_range.mp hk
  match k, hk with
  | 0, _ => exact tb_m 44 (by decide +kernel)
  | 1, _ => exact tb_m 46 (by decide +kernel)
  | 2, _ => exact tb_m 48 (by decide +kernel)
  | 3, _ => exact tb_m 50 (by decide +kernel)
theorem uw_RX6 : ∀ w ∈ u_ws RX6 TX6 4, w ∈ lw_tbl := by
  intro w hw
  obtain ⟨k, hk, rfl⟩ := List.mem_map.mp hw
  have hk := List.mem_range.mp hk
  match k, hk with
  | 0, _ => exact tb_m 194 (by decide +kernel)
  | 1, _ => exact tb_m 195 (by decide +kernel)
  | 2, _ => exact tb_m 196 (by decide +kernel)
  | 3, _ => exact tb_m 197 (by decide +kernel)
theorem uw_RX7 : ∀ w ∈ u_ws RX7 TX7 4, w ∈ lw_tbl := by
  intro w hw
  obtain ⟨k, hk, rfl⟩ := List.mem_map.mp hw
  have hk := List.mem_range.mp hk
  match k, hk with
  | 0, _ => exact tb_m 172 (by decide +kernel)
  | 1, _ => exact tb_m 173 (by decide +kernel)
  | 2, _ => exact tb_m 174 (by decide +kernel)
  | 3, _ => exact tb_m 175 (by decide +kernel)
theorem uw_RX8 : ∀ w ∈ u_ws RX8 TX8 3, w ∈ lw_tbl := by
  intro w hw
  obtain ⟨k, hk, rfl⟩ := List.mem_map.mp hw
  have hk := List.mem_range.mp hk
  match k, hk with
  | 0, _ => exact tb_m 110 (by decide +kernel)
  | 1, _ => exact tb_m 112 (by decide +kernel)
  | 2, _ => exact tb_m 114 (by decide +kernel)
theorem uw_RX9 : ∀ w ∈ u_ws RX9 TX9 4, w ∈ lw_tbl := by
  intro w hw
  obtain ⟨k, hk, rfl⟩ := List.mem_map.mp hw
  have hk := List.mem_range.mp hk
  match k, hk with
  | 0, _ => exact tb_m 205 (by decide +kernel)
  | 1, _ => exact tb_m 206 (by decide +kernel)
  | 2, _ => exact tb_m 207 (by decide +kernel)
  | 3, _ => exact tb_m 208 (by decide +kernel)
theorem uw_RX10 : ∀ w ∈ u_ws RX10 TX10 16, w ∈ lw_tbl := by
  intro w hw
  obtain ⟨k, hk, rfl⟩ := List.mem_map.mp hw
  have hk := List.mem_range.mp hk
  match k, hk with
  | 0, _ => exact tb_m 255 (by decide +kernel)
  | 1, _ => exact tb_m 257 (by decide +kernel)
  | 2, _ => exact tb_m 259 (by decide +kernel)
  | 3, _ => exact tb_m 261 (by decide +kernel)
  | 4, _ => exact tb_m 263 (by decide +kernel)
  | 5, _ => exact tb_m 265 (by decide +kernel)
  | 6, _ => exact tb_m 267 (by decide +kernel)
  | 7, _ => exact tb_m 269 (by decide +kernel)
  | 8, _ => exact tb_m 271 (by decide +kernel)
  | 9, _ => exact tb_m 273 (by decide +kernel)
  | 10, _ => exact tb_m 275 (by decide +kernel)
  | 11, _ => exact tb_m 277 (by decide +kernel)
  | 12, _ => exact tb_m 279 (by decide +kernel)
  | 13, _ => exact tb_m 281 (by decide +kernel)
  | 14, _ => exact tb_m 283 (by decide +kernel)
  | 15, _ => exact tb_m 285 (by decide +kernel)
  | k + 16, h => exact absurd h (by omega)
theorem uw_RX11 : ∀ w ∈ u_ws RX11 TX11 17, w ∈ lw_tbl := by
  intro w hw
  obtain ⟨k, hk, rfl⟩ := List.mem_map.mp hw
  have hk := List.mem_range.mp hk
  match k, hk with
  | 0, _ => exact tb_m 305 (by decide +kernel)
  | 1, _ => exact tb_m 307 (by decide +kernel)
  | 2, _ => exact tb_m 309 (by decide +kernel)
  | 3, _ => exact tb_m 311 (by decide +kernel)
  | 4, _ => exact tb_m 313 (by decide +kernel)
  | 5, _ => exact tb_m 315 (by decide +kernel)
  | 6, _ => exact tb_m 317 (by decide +kernel)
  | 7, _ => exact tb_m 319 (by decide +kernel)
  | 8, _ => exact tb_m 321 (by decide +kernel)
  | 9, _ => exact tb_m 323 (by decide +kernel)
  | 10, _ => exact tb_m 325 (by decide +kernel)
  | 11, _ => exact tb_m 327 (by decide +kernel)
  | 12, _ => exact tb_m 329 (by decide +kernel)
  | 13, _ => exact tb_m 331 (by decide +kernel)
  | 14, _ => exact tb_m 333 (by decide +kernel)
  | 15, _ => exact tb_m 335 (by decide +kernel)
  | 16, _ => exact tb_m 337 (by decide +kernel)
  | k + 17, h => exact absurd h (by omega)
theorem uw_RX12 : ∀ w ∈ u_ws RX12 TX12 79, w ∈ lw_tbl := by
  intro w hw
  obtain ⟨k, hk, rfl⟩ := List.mem_map.mp hw
  have hk := List.mem_range.mp hk
  match k, hk with
  | 0, _ => exact tb_m 993 (by decide +kernel)
  | 1, _ => exact tb_m 995 (by decide +kernel)
  | 2, _ => exact tb_m 997 (by decide +kernel)
  | 3, _ => exact tb_m 999 (by decide +kernel)
  | 4, _ => exact tb_m 1001 (by decide +kernel)
  | 5, _ => exact tb_m 1003 (by decide +kernel)
  | 6, _ => exact tb_m 1005 (by decide +kernel)
  | 7, _ => exact tb_m 1007 (by decide +kernel)
  | 8, _ => exact tb_m 1009 (by decide +kernel)
  | 9, _ => exact tb_m 1011 (by decide +kernel)
  | 10, _ => exact tb_m 1013 (by decide +kernel)
  | 11, _ => exact tb_m 1015 (by decide +kernel)
  | 12, _ => exact tb_m 1017 (by decide +kernel)
  | 13, _ => exact tb_m 1019 (by decide +kernel)
  | 14, _ => exact tb_m 1021 (by decide +kernel)
  | 15, _ => exact tb_m 1023 (by decide +kernel)
  | 16, _ => exact tb_m 1025 (by decide +kernel)
  | 17, _ => exact tb_m 1027 (by decide +kernel)
  | 18, _ => exact tb_m 1029 (by decide +kernel)
  | 19, _ => exact tb_m 1031 (by decide +kernel)
  | 20, _ => exact tb_m 1033 (by decide +kernel)
  | 21, _ => exact tb_m 1035 (by decide +kernel)
  | 22, _ => exact tb_m 1037 (by decide +kernel)
  | 23, _ => exact tb_m 1039 (by decide +kernel)
  | 24, _ => exact tb_m 1041 (by decide +kernel)
  | 25, _ => exact tb_m 1043 (by decide +kernel)
  | 26, _ => exact tb_m 1045 (by decide +kernel)
  | 27, _ => exact tb_m 1047 (by decide +kernel)
  | 28, _ => exact tb_m 1049 (by decide +kernel)
  | 29, _ => exact tb_m 1051 (by decide +kernel)
  | 30, _ => exact tb_m 1053 (by decide +kernel)
  | 31, _ => exact tb_m 1055 (by decide +kernel)
  | 32, _ => exact tb_m 1057 (by decide +kernel)
  | 33, _ => exact tb_m 1059 (by decide +kernel)
  | 34, _ => exact tb_m 1061 (by decide +kernel)
  | 35, _ => exact tb_m 1063 (by decide +kernel)
  | 36, _ => exact tb_m 1065 (by decide +kernel)
  | 37, _ => exact tb_m 1067 (by decide +kernel)
  | 38, _ => exact tb_m 1069 (by decide +kernel)
  | 39, _ => exact tb_m 1071 (by decide +kernel)
  | 40, _ => exact tb_m 1073 (by decide +kernel)
  | 41, _ => exact tb_m 1075 (by decide +kernel)
  | 42, _ => exact tb_m 1077 (by decide +kernel)
  | 43, _ => exact tb_m 1079 (by decide +kernel)
  | 44, _ => exact tb_m 1081 (by decide +kernel)
  | 45, _ => exact tb_m 1083 (by decide +kernel)
  | 46, _ => exact tb_m 1085 (by decide +kernel)
  | 47, _ => exact tb_m 1087 (by decide +kernel)
  | 48, _ => exact tb_m 1089 (by decide +kernel)
  | 49, _ => exact tb_m 1091 (by decide +kernel)
  | 50, _ => exact tb_m 1093 (by decide +kernel)
  | 51, _ => exact tb_m 1095 (by decide +kernel)
  | 52, _ => exact tb_m 1097 (by decide +kernel)
  | 53, _ => exact tb_m 1099 (by decide +kernel)
  | 54, _ => exact tb_m 1101 (by decide +kernel)
  | 55, _ => exact tb_m 1103 (by decide +kernel)
  | 56, _ => exact tb_m 1105 (by decide +kernel)
  | 57, _ => exact tb_m 1107 (by decide +kernel)
  | 58, _ => exact tb_m 1109 (by decide +kernel)
  | 59, _ => exact tb_m 1111 (by decide +kernel)
  | 60, _ => exact tb_m 1113 (by decide +kernel)
  | 61, _ => exact tb_m 1115 (by decide +kernel)
  | 62, _ => exact tb_m 1117 (by decide +kernel)
  | 63, _ => exact tb_m 1119 (by decide +kernel)
  | 64, _ => exact tb_m 1121 (by decide +kernel)
  | 65, _ => exact tb_m 1123 (by decide +kernel)
  | 66, _ => exact tb_m 1125 (by decide +kernel)
  | 67, _ => exact tb_m 1127 (by decide +kernel)
  | 68, _ => exact tb_m 1129 (by decide +kernel)
  | 69, _ => exact tb_m 1131 (by decide +kernel)
  | 70, _ => exact tb_m 1133 (by decide +kernel)
  | 71, _ => exact tb_m 1135 (by decide +kernel)
  | 72, _ => exact tb_m 1137 (by decide +kernel)
  | 73, _ => exact tb_m 1139 (by decide +kernel)
  | 74, _ => exact tb_m 1141 (by decide +kernel)
  | 75, _ => exact tb_m 1143 (by decide +kernel)
  | 76, _ => exact tb_m 1145 (by decide +kernel)
  | 77, _ => exact tb_m 1147 (by decide +kernel)
  | 78, _ => exact tb_m 1149 (by decide +kernel)
  | k + 79, h => exact absurd h (by omega)
theorem nw_in : ∀ w ∈ gx_nw, w ∈ lw_tbl := by
  intro w hw
  simp only [gx_nw, List.mem_cons, List.not_mem_nil, or_false] at hw
  rcases hw with rfl | rfl | rfl | rfl | rfl | rfl | rfl | rfl | rfl | rfl | rfl | rfl | rfl | rfl | rfl
  · exact tb_m 59 (by decide +kernel)
  · exact tb_m 100 (by decide +kernel)
  · exact tb_m 121 (by decide +kernel)
  · exact tb_m 146 (by decide +kernel)
  · exact tb_m 149 (by decide +kernel)
  · exact tb_m 157 (by decide +kernel)
  · exact tb_m 160 (by decide +kernel)
  · exact tb_m 168 (by decide +kernel)
  · exact tb_m 171 (by decide +kernel)
  · exact tb_m 179 (by decide +kernel)
  · exact tb_m 182 (by decide +kernel)
  · exact tb_m 190 (by decide +kernel)
  · exact tb_m 193 (by decide +kernel)
  · exact tb_m 201 (by decide +kernel)
  · exact tb_m 204 (by decide +kernel)
theorem nw_on : ∀ w ∈ gx_nw, w.onTables = true := by
  intro w hw
  obtain ⟨a, i, y, h, rfl⟩ := gx_nw_is w hw
  rfl
def tx_k (i : Nat) : Nat := ([66, 67, 72, 74, 101, 107] : List Nat).getD i 0
abbrev tx_t (i : Nat) : Term := .string RX1 (tx_k i)
def fl_ : List Cond := flatC (Jvm.Cond.and given_1 narrow_1)
theorem fl_1 : ∀ i, i < 6 → Cond.exactly (tx_t i) "java/lang/String" ∈ fl_ ∧ Cond.eq (.field (tx_t i) "java/lang/String" "coder" "B") (.int 0) ∈ fl_ ∧ Cond.arrayOf (.field (tx_t i) "java/lang/String" "value" "[B") .byte ∈ fl_ ∧ Cond.eq (.length (.field (tx_t i) "java/lang/String" "value" "[B")) (.int (Int32.ofNat (gx_len.getD i 0))) ∈ fl_ ∧ gx_len.getD i 0 ≤ 6 := by decide +kernel
theorem fl_2 : ∀ i, i < 6 → ∀ j, j < 6 → j < gx_len.getD i 0 → Cond.eq (.elem (.field (tx_t i) "java/lang/String" "value" "[B") (.int (Int32.ofNat j))) (.int ((gx_byt.getD i []).getD j 0)) ∈ fl_ := by decide +kernel
theorem fl_3 : ∀ i, i < 6 → ∀ j, j < 6 → i ≠ j → Cond.not (Cond.eq (tx_t i) (tx_t j)) ∈ fl_ ∨ Cond.not (Cond.eq (tx_t j) (tx_t i)) ∈ fl_ := by decide +kernel
abbrev ka_t : Term := .static "GriefCranes" "KIND_ABOVE" "[I"
theorem fl_4 : Cond.arrayOf ka_t .int ∈ fl_ ∧ Cond.eq (.length ka_t) (.int 7) ∈ fl_ ∧ Cond.eq (.static "java/lang/String" "COMPACT_STRINGS" "Z") (.int 1) ∈ fl_ ∧ Cond.isRef (.static "jdk/internal/util/Preconditions" "SIOOBE_FORMATTER" "Ljava/util/function/BiFunction;") ∈ fl_ := by decide +kernel
theorem fl_5 : ∀ j, j < 7 → Cond.eq (.elem ka_t (.int (Int32.ofNat j))) (.int (([-1, 0, 0, 0, 1, 2, 3] : List Int32).getD j 0)) ∈ fl_ := by decide +kernel
section
variable {s : State} {args : Array Value}
theorem en_cl (hts : ∀ w ∈ lw_tbl, w.before args s = true) : ∃ (dC : Nat → ClassId) (dI : Nat → Nat → Nat), ∀ (k : Nat) (q : vw_C), vwCl[k]? = some q → u_Kn s q.1 q.2.1 q.2.2 (dC k) (dI k) := by
  have h : ∀ k : Nat, ∃ x : ClassId × (Nat → Nat), ∀ q : vw_C, vwCl[k]? = some q → u_Kn s q.1 q.2.1 q.2.2 x.1 x.2 := by
    intro k
    match k with
    | 0 =>
      obtain ⟨a, b, h⟩ := u_known (C := RX0) (T := TX0) (N := 4) (n := 4) hts uw_RX0 (hts (.instantiable RX0 4) (tb_m 120 (by decide +kernel)))
      exact ⟨(a, b), fun q hq => by cases hq; exact h⟩
    | 1 =>
      obtain ⟨a, b, h⟩ := u_known (C := RX1) (T := TX1) (N := 10) (n := 10) hts uw_RX1 (hts (.instantiable RX1 10) (tb_m 58 (by decide +kernel)))
      exact ⟨(a, b), fun q hq => by cases hq; exact h⟩
    | 2 =>
      obtain ⟨a, b, h⟩ := u_known (C := RX2) (T := TX2) (N := 4) (n := 4) hts uw_RX2 (hts (.instantiable RX2 4) (tb_m 178 (by decide +kernel)))
      exact ⟨(a, b), fun q hq => by cases hq; exact h⟩
    | 3 =>
      obtain ⟨a, b, h⟩ := u_known (C := RX3) (T := TX3) (N := 4) (n := 4) hts uw_RX3 (hts (.instantiable RX3 4) (tb_m 145 (by decide +kernel)))
      exact ⟨(a, b), fun q hq => by cases hq; exact h⟩
    | 4 =>
      obtain ⟨a, b, h⟩ := u_known (C := RX4) (T := TX4) (N := 4) (n := 4) hts uw_RX4 (hts (.instantiable RX4 4) (tb_m 156 (by decide +kernel)))
      exact ⟨(a, b), fun q hq => by cases hq; exact h⟩
    | 5 =>
      obtain ⟨a, b, h⟩ := u_known (C := RX5) (T := TX5) (N := 4) (n := 4) hts uw_RX5 (hts (.instantiable RX5 4) (tb_m 31 (by decide +kernel)))
      exact ⟨(a, b), fun q hq => by cases hq; exact h⟩
    | 6 =>
      obtain ⟨a, b, h⟩ := u_known (C := RX6) (T := TX6) (N := 4) (n := 4) hts uw_RX6 (hts (.instantiable RX6 4) (tb_m 189 (by decide +kernel)))
      exact ⟨(a, b), fun q hq => by cases hq; exact h⟩
    | 7 =>
      obtain ⟨a, b, h⟩ := u_known (C := RX7) (T := TX7) (N := 4) (n := 4) hts uw_RX7 (hts (.instantiable RX7 4) (tb_m 167 (by decide +kernel)))
      exact ⟨(a, b), fun q hq => by cases hq; exact h⟩
    | 8 =>
      obtain ⟨a, b, h⟩ := u_known (C := RX8) (T := TX8) (N := 3) (n := 3) hts uw_RX8 (hts (.instantiable RX8 3) (tb_m 99 (by decide +kernel)))
      exact ⟨(a, b), fun q hq => by cases hq; exact h⟩
    | 9 =>
      obtain ⟨a, b, h⟩ := u_known (C := RX9) (T := TX9) (N := 4) (n := 4) hts uw_RX9 (hts (.instantiable RX9 4) (tb_m 200 (by decide +kernel)))
      exact ⟨(a, b), fun q hq => by cases hq; exact h⟩
    | 10 =>
      obtain ⟨a, b, h⟩ := u_known (C := RX10) (T := TX10) (N := 16) (n := 16) hts uw_RX10 (hts (.instantiable RX10 16) (tb_m 211 (by decide +kernel)))
      exact ⟨(a, b), fun q hq => by cases hq; exact h⟩
    | 11 =>
      obtain ⟨a, b, h⟩ := u_known (C := RX11) (T := TX11) (N := 17) (n := 17) hts uw_RX11 (hts (.instantiable RX11 17) (tb_m 23 (by decide +kernel)))
      exact ⟨(a, b), fun q hq => by cases hq; exact h⟩
    | 12 =>
      obtain ⟨a, b, h⟩ := u_known (C := RX12) (T := TX12) (N := 79) (n := 79) hts uw_RX12 (hts (.instantiable RX12 79) (tb_m 909 (by decide +kernel)))
      exact ⟨(a, b), fun q hq => by cases hq; exact h⟩
    | k + 13 => exact ⟨(0, fun _ => 0), fun q hq => by simp [vwCl] at hq⟩
  obtain ⟨f, hf⟩ := Classical.axiomOfChoice h
  exact ⟨fun k => (f k).1, fun k => (f k).2, hf⟩
def en_ty : List FieldType := [.int, .byte, .long, .boolean, .array .int, .object RX0, .object RX1, .object RX8]
theorem en_p {ty : FieldType} (h : (Cond.arrayClass ty).before args s = true) (hra : ∀ cA : ClassId, s.vm.findClass ("[" ++ ty.toString) = some cA → va_RA s cA ty) : ∃ cA : ClassId, ArrOfT s cA ty ∧ va_RA s cA ty := by
  obtain ⟨cA, kA, comp, h1, h2, h3⟩ := Cond.arrayClass_spec h
  exact ⟨cA, fun n z => ⟨(fun k h => by cases h), kA, h2, comp, h3⟩, hra cA h1⟩
theorem en_o {C : String} (h : (Cond.arrayOver (.object C)).before args s = true) : ∃ cA : ClassId, ArrOfT s cA (.object C) ∧ va_RA s cA (.object C) := by
  obtain ⟨comp, cA, kA, h1, h2, h3, h4, h5⟩ := Cond.arrayOver_spec h
  exact ⟨cA, fun n z => ⟨(fun k h => by cases h), kA, h3, comp, h4⟩, kA, comp, h3, h4, h1, h5⟩
theorem en_a (h : (Cond.arrayOver (.array .int)).before args s = true) : ∃ cA : ClassId, ArrOfT s cA (.array .int) ∧ va_RA s cA (.array .int) := by
  obtain ⟨comp, cA, kA, h1, h2, h3, h4, h5⟩ := arrayOver_specB h
  exact ⟨cA, fun n z => ⟨(fun k h => by cases h), kA, h3, comp, h4⟩, h5⟩
theorem en_ar (hts : ∀ w ∈ lw_tbl, w.before args s = true) : ∃ dT : Nat → ClassId, ∀ (k : Nat) (ty : FieldType), en_ty[k]? = some ty → ArrOfT s (dT k) ty ∧ va_RA s (dT k) ty := by
  have h : ∀ k : Nat, ∃ x : ClassId, ∀ ty : FieldType, en_ty[k]? = some ty → ArrOfT s x ty ∧ va_RA s x ty := by
    intro k
    match k with
    | 0 =>
      obtain ⟨a, h⟩ := en_p (ty := .int) (hts (.arrayClass .int) (tb_m 53 (by decide +kernel))) (fun _ h => h)
      exact ⟨a, fun ty hq => by cases hq; exact h⟩
    | 1 =>
      obtain ⟨a, h⟩ := en_p (ty := .byte) (hts (.arrayClass .byte) (tb_m 98 (by decide +kernel))) (fun _ h => h)
      exact ⟨a, fun ty hq => by cases hq; exact h⟩
    | 2 =>
      obtain ⟨a, h⟩ := en_p (ty := .long) (hts (.arrayClass .long) (tb_m 117 (by decide +kernel))) (fun _ h => h)
      exact ⟨a, fun ty hq => by cases hq; exact h⟩
    | 3 =>
      obtain ⟨a, h⟩ := en_p (ty := .boolean) (hts (.arrayClass .boolean) (tb_m 1152 (by decide +kernel))) (fun _ h => h)
      exact ⟨a, fun ty hq => by cases hq; exact h⟩
    | 4 =>
      obtain ⟨a, h⟩ := en_a (hts (.arrayOver (.array .int)) (tb_m 217 (by decide +kernel)))
      exact ⟨a, fun ty hq => by cases hq; exact h⟩
    | 5 =>
      obtain ⟨a, h⟩ := en_o (C := RX0) (hts (.arrayOver (.object RX0)) (tb_m 119 (by decide +kernel)))
      exact ⟨a, fun ty hq => by cases hq; exact h⟩
    | 6 =>
      obtain ⟨a, h⟩ := en_o (C := RX1) (hts (.arrayOver (.object RX1)) (tb_m 55 (by decide +kernel)))
      exact ⟨a, fun ty hq => by cases hq; exact h⟩
    | 7 =>
      obtain ⟨a, h⟩ := en_o (C := RX8) (hts (.arrayOver (.object RX8)) (tb_m 57 (by decide +kernel)))
      exact ⟨a, fun ty hq => by cases hq; exact h⟩
    | k + 8 => exact ⟨0, fun ty hq => by simp [en_ty] at hq⟩
  obtain ⟨f, hf⟩ := Classical.axiomOfChoice h
  exact ⟨f, hf⟩
theorem en_O (hts : ∀ w ∈ lw_tbl, w.before args s = true) : gx_O s := by
  refine ⟨va_AO.of (hts (.arrayOver (.object RX0)) (tb_m 119 (by decide +kernel))), va_AO.of (hts (.arrayOver (.object RX1)) (tb_m 55 (by decide +kernel))), va_AO.of (hts (.arrayOver (.object RX8)) (tb_m 57 (by decide +kernel))), hts (.arrayOver (.array .int)) (tb_m 217 (by decide +kernel)), fun C hC => ?_⟩
  simp only [gx_cas, List.mem_cons, List.not_mem_nil, or_false] at hC
  rcases hC with rfl | rfl | rfl | rfl | rfl | rfl
  · exact va_Nw.of rfl (hts _ (tb_m 1545 (by decide +kernel)))
  · exact va_Nw.of rfl (hts _ (tb_m 1546 (by decide +kernel)))
  · exact va_Nw.of rfl (hts _ (tb_m 1547 (by decide +kernel)))
  · exact va_Nw.of rfl (hts _ (tb_m 1548 (by decide +kernel)))
  · exact va_Nw.of rfl (hts _ (tb_m 1549 (by decide +kernel)))
  · exact va_Nw.of rfl (hts _ (tb_m 1550 (by decide +kernel)))
theorem en_tx (hgv : (Jvm.Cond.and given_1 narrow_1).before args s = true) {A : Nat → Prop} (hA : ∀ a : Nat, a < s.heap.size → ¬ A a) : ∃ adK adV : Nat → Nat, vk_S 6 gx_len gx_byt adK adV A s s.heap ∧ ∀ i : Nat, i < 6 → (tx_t i).eval args s none [] s = some (.ref (adK i)) := by
  have hs : ∀ c ∈ fl_, c.before args s = true := flat_of_before _ hgv
  refine vk_Sof (args := args) (N := 6) (tm := tx_t) (fun i hi => by have := (fl_1 i hi).2.2.2.2; omega) (fun i hi => hs _ (fl_1 i hi).1) (fun i hi => hs _ (fl_1 i hi).2.1) (fun i hi => hs _ (fl_1 i hi).2.2.1) (fun i hi => hs _ (fl_1 i hi).2.2.2.1) (fun i hi j hj => hs _ (fl_2 i hi j (by have := (fl_1 i hi).2.2.2.2; omega) hj)) (fun i j hi hj hij => ?_) hA
  rcases fl_3 i hi j hj hij with h | h
  · exact Or.inl (hs _ h)
  · exact Or.inr (hs _ h)
end
/-- what a number stands for, at the law's entry -/
def en_s (adK adV : Nat → Nat) (t20 : Nat) (o30 : Option Nat) (b k : Nat) : Option Nat := if k < 6 then some (adK k) else if 10 ≤ k ∧ k < 16 then some (adV (k - 10)) else if k = 20 then some t20 else if k = 30 then o30 else if k = 40 then some b else none
theorem en_G {s : State} {b L : Nat} {xs : Nat → Int32} (hts : ∀ w ∈ lw_tbl, w.before #[Value.ref b] s = true) (hX : va_X b L xs s s.heap) (hbl : b < s.heap.size) (hL : L ≤ 3072) (hgv : (Jvm.Cond.and given_1 narrow_1).before #[Value.ref b] s = true) : ∃ g : gx_T, gx_b g = s.heap.size ∧ gx_n g = L ∧ gx_x g = xs ∧ gx_s g 40 = some b ∧ gx_G g s := by
  have hA : ∀ a : Nat, a < s.heap.size → ¬ (fun q : Nat => s.heap.size ≤ q) a := fun a ha => Nat.not_le.mpr ha
  have hs : ∀ c ∈ fl_, c.before #[Value.ref b] s = true := flat_of_before _ hgv
  obtain ⟨dC, dI, hC⟩ := en_cl hts
  obtain ⟨dT, hT⟩ := en_ar hts
  obtain ⟨adK, adV, hK, hev⟩ := en_tx hgv hA
  obtain ⟨t20, hev20, hT20⟩ := va_Tof (args := #[Value.ref b]) (s := s) (tm := ka_t) (ty := .int) (N := 7) (f := fun j => .int (([-1, 0, 0, 0, 1, 2, 3] : List Int32).getD j 0)) (A := fun q : Nat => s.heap.size ≤ q) (by decide) (hs _ fl_4.1) (va_eqt (hs _ fl_4.2.1)) (fun j hj => va_eqt (hs _ (fl_5 j hj))) hA
  have hZ20 := va_Zref (args := #[Value.ref b]) (s := s) (C := "GriefCranes") (n := "KIND_ABOVE") (d := "[I") (t := t20) (A := fun q : Nat => s.heap.size ≤ q) (hts _ (tb_m 878 (by decide +kernel))) (hts _ (tb_m 1 (by decide +kernel))) hev20 hA
  have hZc := va_Zof (args := #[Value.ref b]) (s := s) (C := "java/lang/String") (n := "COMPACT_STRINGS") (d := "Z") (v := .int 1) (A := fun q : Nat => s.heap.size ≤ q) (hts _ (tb_m 525 (by decide +kernel))) (hts _ (tb_m 16 (by decide +kernel))) (va_eqt (hs _ fl_4.2.2.1)) hA
  have hZf := va_Zqof (args := #[Value.ref b]) (s := s) (C := "jdk/internal/util/Preconditions") (n := "SIOOBE_FORMATTER") (d := "Ljava/util/function/BiFunction;") (A := fun q : Nat => s.heap.size ≤ q) (hts _ (tb_m 541 (by decide +kernel))) (hts _ (tb_m 18 (by decide +kernel))) (hs _ fl_4.2.2.2) hA
  obtain ⟨o30, hZ30⟩ : ∃ o : Option Nat, va_Z "jdk/internal/util/Preconditions" "SIOOBE_FORMATTER" "Ljava/util/function/BiFunction;" (va_rf o) (fun q : Nat => s.heap.size ≤ q) s s.heap := by
    rcases hZf with h | ⟨t, h⟩
    · exact ⟨none, h⟩
    · exact ⟨some t, h⟩
  refine ⟨(dC, dI, dT, en_s adK adV t20 o30 b, s.heap.size, L, xs), rfl, rfl, rfl, rfl, ⟨hC, fun k q hq => ?_⟩, fun w hw => va_Nw.of (nw_on w hw) (hts w (nw_in w hw)), ⟨fun q hq => ?_, en_O hts⟩, hZc, hZ30, hZ20, ⟨t20, rfl, hT20⟩, ⟨adK, adV, fun j hj => ⟨?_, ?_⟩, hK⟩, ⟨b, rfl, ?_⟩⟩
  · match k, hq with
    | 0, hq => cases hq; exact hT 0 _ rfl
    | 1, hq => cases hq; exact hT 1 _ rfl
    | 2, hq => cases hq; exact hT 2 _ rfl
    | 3, hq => cases hq; exact hT 3 _ rfl
    | 4, hq => cases hq; exact hT 4 _ rfl
    | 5, hq => cases hq; exact hT 5 _ rfl
    | 6, hq => cases hq; exact hT 6 _ rfl
    | 7, hq => cases hq; exact hT 7 _ rfl
    | k + 8, hq => simp [gx_tys] at hq
  · simp only [gx_tx, List.mem_cons, List.not_mem_nil, or_false] at hq
    rcases hq with rfl | rfl | rfl | rfl | rfl | rfl
    · exact ⟨adK 0, rfl, vk_R.of (A := #[Value.ref b]) (hts _ (tb_m 510 (by decide +kernel))) (hev 0 (by decide))⟩
    · exact ⟨adK 1, rfl, vk_R.of (A := #[Value.ref b]) (hts _ (tb_m 511 (by decide +kernel))) (hev 1 (by decide))⟩
    · exact ⟨adK 2, rfl, vk_R.of (A := #[Value.ref b]) (hts _ (tb_m 571 (by decide +kernel))) (hev 2 (by decide))⟩
    · exact ⟨adK 3, rfl, vk_R.of (A := #[Value.ref b]) (hts _ (tb_m 572 (by decide +kernel))) (hev 3 (by decide))⟩
    · exact ⟨adK 4, rfl, vk_R.of (A := #[Value.ref b]) (hts _ (tb_m 585 (by decide +kernel))) (hev 4 (by decide))⟩
    · exact ⟨adK 5, rfl, vk_R.of (A := #[Value.ref b]) (hts _ (tb_m 645 (by decide +kernel))) (hev 5 (by decide))⟩
  · show en_s adK adV t20 o30 b j = some (adK j)
    unfold en_s
    rw [if_pos hj]
  · show en_s adK adV t20 o30 b (10 + j) = some (adV j)
    unfold en_s
    rw [if_neg (by omega), if_pos (by omega), Nat.add_sub_cancel_left]
  · obtain ⟨cell, h1, h2, h3, h4, h5⟩ := hX
    refine ⟨cell, h1, h2, h3, Nat.le_of_eq h4.symm, ?_, h5, Nat.not_le.mpr hbl⟩
    rw [h4]
