/-! decoded, and each instruction a row -/
def dll_0 : List (Nat × Instr × Nat) := [(0, .new 7, 3), (3, .dup, 1), (4, .invokespecial 9, 3), (7, .astore_n 1, 1), (8, .new 10, 3), (11, .dup, 1), (12, .invokespecial 12, 3), (15, .astore_n 2, 1), (16, .iconst 0, 1), (17, .istore_n 3, 1), (18, .iload_n 3, 1), (19, .aload_n 0, 1), (20, .arraylength, 1), (21, .bipush 6, 2), (23, .isub, 1), (24, .if_icmp .gt 1187, 3), (27, .aload_n 0, 1), (28, .iload_n 3, 1), (29, .iaload, 1), (30, .bipush 31, 2), (32, .iand, 1), (33, .tableswitch 1172 0 31 #[143, 176, 209, 242, 275, 308, 341, 384, 407, 420, 443, 466, 499, 532, 575, 608, 652, 676, 709, 732, 765, 778, 811, 824, 837, 880, 903, 936, 959, 1002, 1075, 1109], 143), (176, .aload_n 1, 1), (177, .aload_n 0, 1), (178, .iload_n 3, 1), (179, .iconst 1, 1), (180, .iadd, 1), (181, .iaload, 1), (182, .aload_n 0, 1), (183, .iload_n 3, 1), (184, .iconst 2, 1), (185, .iadd, 1)]
set_option maxRecDepth 20000 in
theorem dlt_0 : ∀ q ∈ dll_0, decode code q.1 = .ok (q.2.1, q.2.2) := by decide +kernel
theorem dL_law_0 : decode code 0 = .ok (.new 7, 3) := dlt_0 (0, .new 7, 3) (List.mem_of_getElem? (i := 0) rfl)
theorem dL_law_3 : decode code 3 = .ok (.dup, 1) := dlt_0 (3, .dup, 1) (List.mem_of_getElem? (i := 1) rfl)
theorem dL_law_4 : decode code 4 = .ok (.invokespecial 9, 3) := dlt_0 (4, .invokespecial 9, 3) (List.mem_of_getElem? (i := 2) rfl)
theorem dL_law_7 : decode code 7 = .ok (.astore_n 1, 1) := dlt_0 (7, .astore_n 1, 1) (List.mem_of_getElem? (i := 3) rfl)
theorem dL_law_8 : decode code 8 = .ok (.new 10, 3) := dlt_0 (8, .new 10, 3) (List.mem_of_getElem? (i := 4) rfl)
theorem dL_law_11 : decode code 11 = .ok (.dup, 1) := dlt_0 (11, .dup, 1) (List.mem_of_getElem? (i := 5) rfl)
theorem dL_law_12 : decode code 12 = .ok (.invokespecial 12, 3) := dlt_0 (12, .invokespecial 12, 3) (List.mem_of_getElem? (i := 6) rfl)
theorem dL_law_15 : decode code 15 = .ok (.astore_n 2, 1) := dlt_0 (15, .astore_n 2, 1) (List.mem_of_getElem? (i := 7) rfl)
theorem dL_law_16 : decode code 16 = .ok (.iconst 0, 1) := dlt_0 (16, .iconst 0, 1) (List.mem_of_getElem? (i := 8) rfl)
theorem dL_law_17 : decode code 17 = .ok (.istore_n 3, 1) := dlt_0 (17, .istore_n 3, 1) (List.mem_of_getElem? (i := 9) rfl)
theorem dL_law_18 : decode code 18 = .ok (.iload_n 3, 1) := dlt_0 (18, .iload_n 3, 1) (List.mem_of_getElem? (i := 10) rfl)
theorem dL_law_19 : decode code 19 = .ok (.aload_n 0, 1) := dlt_0 (19, .aload_n 0, 1) (List.mem_of_getElem? (i := 11) rfl)
theorem dL_law_20 : decode code 20 = .ok (.arraylength, 1) := dlt_0 (20, .arraylength, 1) (List.mem_of_getElem? (i := 12) rfl)
theorem dL_law_21 : decode code 21 = .ok (.bipush 6, 2) := dlt_0 (21, .bipush 6, 2) (List.mem_of_getElem? (i := 13) rfl)
theorem dL_law_23 : decode code 23 = .ok (.isub, 1) := dlt_0 (23, .isub, 1) (List.mem_of_getElem? (i := 14) rfl)
theorem dL_law_24 : decode code 24 = .ok (.if_icmp .gt 1187, 3) := dlt_0 (24, .if_icmp .gt 1187, 3) (List.mem_of_getElem? (i := 15) rfl)
theorem dL_law_27 : decode code 27 = .ok (.aload_n 0, 1) := dlt_0 (27, .aload_n 0, 1) (List.mem_of_getElem? (i := 16) rfl)
theorem dL_law_28 : decode code 28 = .ok (.iload_n 3, 1) := dlt_0 (28, .iload_n 3, 1) (List.mem_of_getElem? (i := 17) rfl)
theorem dL_law_29 : decode code 29 = .ok (.iaload, 1) := dlt_0 (29, .iaload, 1) (List.mem_of_getElem? (i := 18) rfl)
theorem dL_law_30 : decode code 30 = .ok (.bipush 31, 2) := dlt_0 (30, .bipush 31, 2) (List.mem_of_getElem? (i := 19) rfl)
theorem dL_law_32 : decode code 32 = .ok (.iand, 1) := dlt_0 (32, .iand, 1) (List.mem_of_getElem? (i := 20) rfl)
theorem dL_law_33 : decode code 33 = .ok (.tableswitch 1172 0 31 #[143, 176, 209, 242, 275, 308, 341, 384, 407, 420, 443, 466, 499, 532, 575, 608, 652, 676, 709, 732, 765, 778, 811, 824, 837, 880, 903, 936, 959, 1002, 1075, 1109], 143) := dlt_0 (33, .tableswitch 1172 0 31 #[143, 176, 209, 242, 275, 308, 341, 384, 407, 420, 443, 466, 499, 532, 575, 608, 652, 676, 709, 732, 765, 778, 811, 824, 837, 880, 903, 936, 959, 1002, 1075, 1109], 143) (List.mem_of_getElem? (i := 21) rfl)
theorem dL_law_176 : decode code 176 = .ok (.aload_n 1, 1) := dlt_0 (176, .aload_n 1, 1) (List.mem_of_getElem? (i := 22) rfl)
theorem dL_law_177 : decode code 177 = .ok (.aload_n 0, 1) := dlt_0 (177, .aload_n 0, 1) (List.mem_of_getElem? (i := 23) rfl)
theorem dL_law_178 : decode code 178 = .ok (.iload_n 3, 1) := dlt_0 (178, .iload_n 3, 1) (List.mem_of_getElem? (i := 24) rfl)
theorem dL_law_179 : decode code 179 = .ok (.iconst 1, 1) := dlt_0 (179, .iconst 1, 1) (List.mem_of_getElem? (i := 25) rfl)
theorem dL_law_180 : decode code 180 = .ok (.iadd, 1) := dlt_0 (180, .iadd, 1) (List.mem_of_getElem? (i := 26) rfl)
theorem dL_law_181 : decode code 181 = .ok (.iaload, 1) := dlt_0 (181, .iaload, 1) (List.mem_of_getElem? (i := 27) rfl)
theorem dL_law_182 : decode code 182 = .ok (.aload_n 0, 1) := dlt_0 (182, .aload_n 0, 1) (List.mem_of_getElem? (i := 28) rfl)
theorem dL_law_183 : decode code 183 = .ok (.iload_n 3, 1) := dlt_0 (183, .iload_n 3, 1) (List.mem_of_getElem? (i := 29) rfl)
theorem dL_law_184 : decode code 184 = .ok (.iconst 2, 1) := dlt_0 (184, .iconst 2, 1) (List.mem_of_getElem? (i := 30) rfl)
theorem dL_law_185 : decode code 185 = .ok (.iadd, 1) := dlt_0 (185, .iadd, 1) (List.mem_of_getElem? (i := 31) rfl)
def dll_1 : List (Nat × Instr × Nat) := [(186, .iaload, 1), (187, .invokevirtual 13, 3), (190, .aload_n 2, 1), (191, .aload_n 0, 1), (192, .iload_n 3, 1), (193, .iconst 1, 1), (194, .iadd, 1), (195, .iaload, 1), (196, .aload_n 0, 1), (197, .iload_n 3, 1), (198, .iconst 2, 1), (199, .iadd, 1), (200, .iaload, 1), (201, .invokevirtual 17, 3), (204, .if_icmp .eq 1001, 3), (207, .iconst 0, 1), (208, .ireturn, 1), (209, .aload_n 1, 1), (210, .aload_n 0, 1), (211, .iload_n 3, 1), (212, .iconst 1, 1), (213, .iadd, 1), (214, .iaload, 1), (215, .aload_n 0, 1), (216, .iload_n 3, 1), (217, .iconst 2, 1), (218, .iadd, 1), (219, .iaload, 1), (220, .invokevirtual 18, 3), (223, .aload_n 2, 1), (224, .aload_n 0, 1), (225, .iload_n 3, 1)]
set_option maxRecDepth 20000 in
theorem dlt_1 : ∀ q ∈ dll_1, decode code q.1 = .ok (q.2.1, q.2.2) := by decide +kernel
theorem dL_law_186 : decode code 186 = .ok (.iaload, 1) := dlt_1 (186, .iaload, 1) (List.mem_of_getElem? (i := 0) rfl)
theorem dL_law_187 : decode code 187 = .ok (.invokevirtual 13, 3) := dlt_1 (187, .invokevirtual 13, 3) (List.mem_of_getElem? (i := 1) rfl)
theorem dL_law_190 : decode code 190 = .ok (.aload_n 2, 1) := dlt_1 (190, .aload_n 2, 1) (List.mem_of_getElem? (i := 2) rfl)
theorem dL_law_191 : decode code 191 = .ok (.aload_n 0, 1) := dlt_1 (191, .aload_n 0, 1) (List.mem_of_getElem? (i := 3) rfl)
theorem dL_law_192 : decode code 192 = .ok (.iload_n 3, 1) := dlt_1 (192, .iload_n 3, 1) (List.mem_of_getElem? (i := 4) rfl)
theorem dL_law_193 : decode code 193 = .ok (.iconst 1, 1) := dlt_1 (193, .iconst 1, 1) (List.mem_of_getElem? (i := 5) rfl)
theorem dL_law_194 : decode code 194 = .ok (.iadd, 1) := dlt_1 (194, .iadd, 1) (List.mem_of_getElem? (i := 6) rfl)
theorem dL_law_195 : decode code 195 = .ok (.iaload, 1) := dlt_1 (195, .iaload, 1) (List.mem_of_getElem? (i := 7) rfl)
theorem dL_law_196 : decode code 196 = .ok (.aload_n 0, 1) := dlt_1 (196, .aload_n 0, 1) (List.mem_of_getElem? (i := 8) rfl)
theorem dL_law_197 : decode code 197 = .ok (.iload_n 3, 1) := dlt_1 (197, .iload_n 3, 1) (List.mem_of_getElem? (i := 9) rfl)
theorem dL_law_198 : decode code 198 = .ok (.iconst 2, 1) := dlt_1 (198, .iconst 2, 1) (List.mem_of_getElem? (i := 10) rfl)
theorem dL_law_199 : decode code 199 = .ok (.iadd, 1) := dlt_1 (199, .iadd, 1) (List.mem_of_getElem? (i := 11) rfl)
theorem dL_law_200 : decode code 200 = .ok (.iaload, 1) := dlt_1 (200, .iaload, 1) (List.mem_of_getElem? (i := 12) rfl)
theorem dL_law_201 : decode code 201 = .ok (.invokevirtual 17, 3) := dlt_1 (201, .invokevirtual 17, 3) (List.mem_of_getElem? (i := 13) rfl)
theorem dL_law_204 : decode code 204 = .ok (.if_icmp .eq 1001, 3) := dlt_1 (204, .if_icmp .eq 1001, 3) (List.mem_of_getElem? (i := 14) rfl)
theorem dL_law_207 : decode code 207 = .ok (.iconst 0, 1) := dlt_1 (207, .iconst 0, 1) (List.mem_of_getElem? (i := 15) rfl)
theorem dL_law_208 : decode code 208 = .ok (.ireturn, 1) := dlt_1 (208, .ireturn, 1) (List.mem_of_getElem? (i := 16) rfl)
theorem dL_law_209 : decode code 209 = .ok (.aload_n 1, 1) := dlt_1 (209, .aload_n 1, 1) (List.mem_of_getElem? (i := 17) rfl)
theorem dL_law_210 : decode code 210 = .ok (.aload_n 0, 1) := dlt_1 (210, .aload_n 0, 1) (List.mem_of_getElem? (i := 18) rfl)
theorem dL_law_211 : decode code 211 = .ok (.iload_n 3, 1) := dlt_1 (211, .iload_n 3, 1) (List.mem_of_getElem? (i := 19) rfl)
theorem dL_law_212 : decode code 212 = .ok (.iconst 1, 1) := dlt_1 (212, .iconst 1, 1) (List.mem_of_getElem? (i := 20) rfl)
theorem dL_law_213 : decode code 213 = .ok (.iadd, 1) := dlt_1 (213, .iadd, 1) (List.mem_of_getElem? (i := 21) rfl)
theorem dL_law_214 : decode code 214 = .ok (.iaload, 1) := dlt_1 (214, .iaload, 1) (List.mem_of_getElem? (i := 22) rfl)
theorem dL_law_215 : decode code 215 = .ok (.aload_n 0, 1) := dlt_1 (215, .aload_n 0, 1) (List.mem_of_getElem? (i := 23) rfl)
theorem dL_law_216 : decode code 216 = .ok (.iload_n 3, 1) := dlt_1 (216, .iload_n 3, 1) (List.mem_of_getElem? (i := 24) rfl)
theorem dL_law_217 : decode code 217 = .ok (.iconst 2, 1) := dlt_1 (217, .iconst 2, 1) (List.mem_of_getElem? (i := 25) rfl)
theorem dL_law_218 : decode code 218 = .ok (.iadd, 1) := dlt_1 (218, .iadd, 1) (List.mem_of_getElem? (i := 26) rfl)
theorem dL_law_219 : decode code 219 = .ok (.iaload, 1) := dlt_1 (219, .iaload, 1) (List.mem_of_getElem? (i := 27) rfl)
theorem dL_law_220 : decode code 220 = .ok (.invokevirtual 18, 3) := dlt_1 (220, .invokevirtual 18, 3) (List.mem_of_getElem? (i := 28) rfl)
theorem dL_law_223 : decode code 223 = .ok (.aload_n 2, 1) := dlt_1 (223, .aload_n 2, 1) (List.mem_of_getElem? (i := 29) rfl)
theorem dL_law_224 : decode code 224 = .ok (.aload_n 0, 1) := dlt_1 (224, .aload_n 0, 1) (List.mem_of_getElem? (i := 30) rfl)
theorem dL_law_225 : decode code 225 = .ok (.iload_n 3, 1) := dlt_1 (225, .iload_n 3, 1) (List.mem_of_getElem? (i := 31) rfl)
def dll_2 : List (Nat × Instr × Nat) := [(226, .iconst 1, 1), (227, .iadd, 1), (228, .iaload, 1), (229, .aload_n 0, 1), (230, .iload_n 3, 1), (231, .iconst 2, 1), (232, .iadd, 1), (233, .iaload, 1), (234, .invokevirtual 21, 3), (237, .if_icmp .eq 968, 3), (240, .iconst 0, 1), (241, .ireturn, 1), (242, .aload_n 1, 1), (243, .aload_n 0, 1), (244, .iload_n 3, 1), (245, .iconst 1, 1), (246, .iadd, 1), (247, .iaload, 1), (248, .aload_n 0, 1), (249, .iload_n 3, 1), (250, .iconst 2, 1), (251, .iadd, 1), (252, .iaload, 1), (253, .invokevirtual 22, 3), (256, .aload_n 2, 1), (257, .aload_n 0, 1), (258, .iload_n 3, 1), (259, .iconst 1, 1), (260, .iadd, 1), (261, .iaload, 1), (262, .aload_n 0, 1), (263, .iload_n 3, 1)]
set_option maxRecDepth 20000 in
theorem dlt_2 : ∀ q ∈ dll_2, decode code q.1 = .ok (q.2.1, q.2.2) := by decide +kernel
theorem dL_law_226 : decode code 226 = .ok (.iconst 1, 1) := dlt_2 (226, .iconst 1, 1) (List.mem_of_getElem? (i := 0) rfl)
theorem dL_law_227 : decode code 227 = .ok (.iadd, 1) := dlt_2 (227, .iadd, 1) (List.mem_of_getElem? (i := 1) rfl)
theorem dL_law_228 : decode code 228 = .ok (.iaload, 1) := dlt_2 (228, .iaload, 1) (List.mem_of_getElem? (i := 2) rfl)
theorem dL_law_229 : decode code 229 = .ok (.aload_n 0, 1) := dlt_2 (229, .aload_n 0, 1) (List.mem_of_getElem? (i := 3) rfl)
theorem dL_law_230 : decode code 230 = .ok (.iload_n 3, 1) := dlt_2 (230, .iload_n 3, 1) (List.mem_of_getElem? (i := 4) rfl)
theorem dL_law_231 : decode code 231 = .ok (.iconst 2, 1) := dlt_2 (231, .iconst 2, 1) (List.mem_of_getElem? (i := 5) rfl)
theorem dL_law_232 : decode code 232 = .ok (.iadd, 1) := dlt_2 (232, .iadd, 1) (List.mem_of_getElem? (i := 6) rfl)
theorem dL_law_233 : decode code 233 = .ok (.iaload, 1) := dlt_2 (233, .iaload, 1) (List.mem_of_getElem? (i := 7) rfl)
theorem dL_law_234 : decode code 234 = .ok (.invokevirtual 21, 3) := dlt_2 (234, .invokevirtual 21, 3) (List.mem_of_getElem? (i := 8) rfl)
theorem dL_law_237 : decode code 237 = .ok (.if_icmp .eq 968, 3) := dlt_2 (237, .if_icmp .eq 968, 3) (List.mem_of_getElem? (i := 9) rfl)
theorem dL_law_240 : decode code 240 = .ok (.iconst 0, 1) := dlt_2 (240, .iconst 0, 1) (List.mem_of_getElem? (i := 10) rfl)
theorem dL_law_241 : decode code 241 = .ok (.ireturn, 1) := dlt_2 (241, .ireturn, 1) (List.mem_of_getElem? (i := 11) rfl)
theorem dL_law_242 : decode code 242 = .ok (.aload_n 1, 1) := dlt_2 (242, .aload_n 1, 1) (List.mem_of_getElem? (i := 12) rfl)
theorem dL_law_243 : decode code 243 = .ok (.aload_n 0, 1) := dlt_2 (243, .aload_n 0, 1) (List.mem_of_getElem? (i := 13) rfl)
theorem dL_law_244 : decode code 244 = .ok (.iload_n 3, 1) := dlt_2 (244, .iload_n 3, 1) (List.mem_of_getElem? (i := 14) rfl)
theorem dL_law_245 : decode code 245 = .ok (.iconst 1, 1) := dlt_2 (245, .iconst 1, 1) (List.mem_of_getElem? (i := 15) rfl)
theorem dL_law_246 : decode code 246 = .ok (.iadd, 1) := dlt_2 (246, .iadd, 1) (List.mem_of_getElem? (i := 16) rfl)
theorem dL_law_247 : decode code 247 = .ok (.iaload, 1) := dlt_2 (247, .iaload, 1) (List.mem_of_getElem? (i := 17) rfl)
theorem dL_law_248 : decode code 248 = .ok (.aload_n 0, 1) := dlt_2 (248, .aload_n 0, 1) (List.mem_of_getElem? (i := 18) rfl)
theorem dL_law_249 : decode code 249 = .ok (.iload_n 3, 1) := dlt_2 (249, .iload_n 3, 1) (List.mem_of_getElem? (i := 19) rfl)
theorem dL_law_250 : decode code 250 = .ok (.iconst 2, 1) := dlt_2 (250, .iconst 2, 1) (List.mem_of_getElem? (i := 20) rfl)
theorem dL_law_251 : decode code 251 = .ok (.iadd, 1) := dlt_2 (251, .iadd, 1) (List.mem_of_getElem? (i := 21) rfl)
theorem dL_law_252 : decode code 252 = .ok (.iaload, 1) := dlt_2 (252, .iaload, 1) (List.mem_of_getElem? (i := 22) rfl)
theorem dL_law_253 : decode code 253 = .ok (.invokevirtual 22, 3) := dlt_2 (253, .invokevirtual 22, 3) (List.mem_of_getElem? (i := 23) rfl)
theorem dL_law_256 : decode code 256 = .ok (.aload_n 2, 1) := dlt_2 (256, .aload_n 2, 1) (List.mem_of_getElem? (i := 24) rfl)
theorem dL_law_257 : decode code 257 = .ok (.aload_n 0, 1) := dlt_2 (257, .aload_n 0, 1) (List.mem_of_getElem? (i := 25) rfl)
theorem dL_law_258 : decode code 258 = .ok (.iload_n 3, 1) := dlt_2 (258, .iload_n 3, 1) (List.mem_of_getElem? (i := 26) rfl)
theorem dL_law_259 : decode code 259 = .ok (.iconst 1, 1) := dlt_2 (259, .iconst 1, 1) (List.mem_of_getElem? (i := 27) rfl)
theorem dL_law_260 : decode code 260 = .ok (.iadd, 1) := dlt_2 (260, .iadd, 1) (List.mem_of_getElem? (i := 28) rfl)
theorem dL_law_261 : decode code 261 = .ok (.iaload, 1) := dlt_2 (261, .iaload, 1) (List.mem_of_getElem? (i := 29) rfl)
theorem dL_law_262 : decode code 262 = .ok (.aload_n 0, 1) := dlt_2 (262, .aload_n 0, 1) (List.mem_of_getElem? (i := 30) rfl)
theorem dL_law_263 : decode code 263 = .ok (.iload_n 3, 1) := dlt_2 (263, .iload_n 3, 1) (List.mem_of_getElem? (i := 31) rfl)
def dll_3 : List (Nat × Instr × Nat) := [(264, .iconst 2, 1), (265, .iadd, 1), (266, .iaload, 1), (267, .invokevirtual 25, 3), (270, .if_icmp .eq 935, 3), (273, .iconst 0, 1), (274, .ireturn, 1), (275, .aload_n 1, 1), (276, .aload_n 0, 1), (277, .iload_n 3, 1), (278, .iconst 1, 1), (279, .iadd, 1), (280, .iaload, 1), (281, .aload_n 0, 1), (282, .iload_n 3, 1), (283, .iconst 2, 1), (284, .iadd, 1), (285, .iaload, 1), (286, .invokevirtual 26, 3), (289, .aload_n 2, 1), (290, .aload_n 0, 1), (291, .iload_n 3, 1), (292, .iconst 1, 1), (293, .iadd, 1), (294, .iaload, 1), (295, .aload_n 0, 1), (296, .iload_n 3, 1), (297, .iconst 2, 1), (298, .iadd, 1), (299, .iaload, 1), (300, .invokevirtual 29, 3), (303, .if_icmp .eq 902, 3)]
set_option maxRecDepth 20000 in
theorem dlt_3 : ∀ q ∈ dll_3, decode code q.1 = .ok (q.2.1, q.2.2) := by decide +kernel
theorem dL_law_264 : decode code 264 = .ok (.iconst 2, 1) := dlt_3 (264, .iconst 2, 1) (List.mem_of_getElem? (i := 0) rfl)
theorem dL_law_265 : decode code 265 = .ok (.iadd, 1) := dlt_3 (265, .iadd, 1) (List.mem_of_getElem? (i := 1) rfl)
theorem dL_law_266 : decode code 266 = .ok (.iaload, 1) := dlt_3 (266, .iaload, 1) (List.mem_of_getElem? (i := 2) rfl)
theorem dL_law_267 : decode code 267 = .ok (.invokevirtual 25, 3) := dlt_3 (267, .invokevirtual 25, 3) (List.mem_of_getElem? (i := 3) rfl)
theorem dL_law_270 : decode code 270 = .ok (.if_icmp .eq 935, 3) := dlt_3 (270, .if_icmp .eq 935, 3) (List.mem_of_getElem? (i := 4) rfl)
theorem dL_law_273 : decode code 273 = .ok (.iconst 0, 1) := dlt_3 (273, .iconst 0, 1) (List.mem_of_getElem? (i := 5) rfl)
theorem dL_law_274 : decode code 274 = .ok (.ireturn, 1) := dlt_3 (274, .ireturn, 1) (List.mem_of_getElem? (i := 6) rfl)
theorem dL_law_275 : decode code 275 = .ok (.aload_n 1, 1) := dlt_3 (275, .aload_n 1, 1) (List.mem_of_getElem? (i := 7) rfl)
theorem dL_law_276 : decode code 276 = .ok (.aload_n 0, 1) := dlt_3 (276, .aload_n 0, 1) (List.mem_of_getElem? (i := 8) rfl)
theorem dL_law_277 : decode code 277 = .ok (.iload_n 3, 1) := dlt_3 (277, .iload_n 3, 1) (List.mem_of_getElem? (i := 9) rfl)
theorem dL_law_278 : decode code 278 = .ok (.iconst 1, 1) := dlt_3 (278, .iconst 1, 1) (List.mem_of_getElem? (i := 10) rfl)
theorem dL_law_279 : decode code 279 = .ok (.iadd, 1) := dlt_3 (279, .iadd, 1) (List.mem_of_getElem? (i := 11) rfl)
theorem dL_law_280 : decode code 280 = .ok (.iaload, 1) := dlt_3 (280, .iaload, 1) (List.mem_of_getElem? (i := 12) rfl)
theorem dL_law_281 : decode code 281 = .ok (.aload_n 0, 1) := dlt_3 (281, .aload_n 0, 1) (List.mem_of_getElem? (i := 13) rfl)
theorem dL_law_282 : decode code 282 = .ok (.iload_n 3, 1) := dlt_3 (282, .iload_n 3, 1) (List.mem_of_getElem? (i := 14) rfl)
theorem dL_law_283 : decode code 283 = .ok (.iconst 2, 1) := dlt_3 (283, .iconst 2, 1) (List.mem_of_getElem? (i := 15) rfl)
theorem dL_law_284 : decode code 284 = .ok (.iadd, 1) := dlt_3 (284, .iadd, 1) (List.mem_of_getElem? (i := 16) rfl)
theorem dL_law_285 : decode code 285 = .ok (.iaload, 1) := dlt_3 (285, .iaload, 1) (List.mem_of_getElem? (i := 17) rfl)
theorem dL_law_286 : decode code 286 = .ok (.invokevirtual 26, 3) := dlt_3 (286, .invokevirtual 26, 3) (List.mem_of_getElem? (i := 18) rfl)
theorem dL_law_289 : decode code 289 = .ok (.aload_n 2, 1) := dlt_3 (289, .aload_n 2, 1) (List.mem_of_getElem? (i := 19) rfl)
theorem dL_law_290 : decode code 290 = .ok (.aload_n 0, 1) := dlt_3 (290, .aload_n 0, 1) (List.mem_of_getElem? (i := 20) rfl)
theorem dL_law_291 : decode code 291 = .ok (.iload_n 3, 1) := dlt_3 (291, .iload_n 3, 1) (List.mem_of_getElem? (i := 21) rfl)
theorem dL_law_292 : decode code 292 = .ok (.iconst 1, 1) := dlt_3 (292, .iconst 1, 1) (List.mem_of_getElem? (i := 22) rfl)
theorem dL_law_293 : decode code 293 = .ok (.iadd, 1) := dlt_3 (293, .iadd, 1) (List.mem_of_getElem? (i := 23) rfl)
theorem dL_law_294 : decode code 294 = .ok (.iaload, 1) := dlt_3 (294, .iaload, 1) (List.mem_of_getElem? (i := 24) rfl)
theorem dL_law_295 : decode code 295 = .ok (.aload_n 0, 1) := dlt_3 (295, .aload_n 0, 1) (List.mem_of_getElem? (i := 25) rfl)
theorem dL_law_296 : decode code 296 = .ok (.iload_n 3, 1) := dlt_3 (296, .iload_n 3, 1) (List.mem_of_getElem? (i := 26) rfl)
theorem dL_law_297 : decode code 297 = .ok (.iconst 2, 1) := dlt_3 (297, .iconst 2, 1) (List.mem_of_getElem? (i := 27) rfl)
theorem dL_law_298 : decode code 298 = .ok (.iadd, 1) := dlt_3 (298, .iadd, 1) (List.mem_of_getElem? (i := 28) rfl)
theorem dL_law_299 : decode code 299 = .ok (.iaload, 1) := dlt_3 (299, .iaload, 1) (List.mem_of_getElem? (i := 29) rfl)
theorem dL_law_300 : decode code 300 = .ok (.invokevirtual 29, 3) := dlt_3 (300, .invokevirtual 29, 3) (List.mem_of_getElem? (i := 30) rfl)
theorem dL_law_303 : decode code 303 = .ok (.if_icmp .eq 902, 3) := dlt_3 (303, .if_icmp .eq 902, 3) (List.mem_of_getElem? (i := 31) rfl)
def dll_4 : List (Nat × Instr × Nat) := [(306, .iconst 0, 1), (307, .ireturn, 1), (308, .aload_n 1, 1), (309, .aload_n 0, 1), (310, .iload_n 3, 1), (311, .iconst 1, 1), (312, .iadd, 1), (313, .iaload, 1), (314, .aload_n 0, 1), (315, .iload_n 3, 1), (316, .iconst 2, 1), (317, .iadd, 1), (318, .iaload, 1), (319, .invokevirtual 30, 3), (322, .aload_n 2, 1), (323, .aload_n 0, 1), (324, .iload_n 3, 1), (325, .iconst 1, 1), (326, .iadd, 1), (327, .iaload, 1), (328, .aload_n 0, 1), (329, .iload_n 3, 1), (330, .iconst 2, 1), (331, .iadd, 1), (332, .iaload, 1), (333, .invokevirtual 33, 3), (336, .if_icmp .eq 869, 3), (339, .iconst 0, 1), (340, .ireturn, 1), (341, .aload_n 1, 1), (342, .aload_n 0, 1), (343, .iload_n 3, 1)]
set_option maxRecDepth 20000 in
theorem dlt_4 : ∀ q ∈ dll_4, decode code q.1 = .ok (q.2.1, q.2.2) := by decide +kernel
theorem dL_law_306 : decode code 306 = .ok (.iconst 0, 1) := dlt_4 (306, .iconst 0, 1) (List.mem_of_getElem? (i := 0) rfl)
theorem dL_law_307 : decode code 307 = .ok (.ireturn, 1) := dlt_4 (307, .ireturn, 1) (List.mem_of_getElem? (i := 1) rfl)
theorem dL_law_308 : decode code 308 = .ok (.aload_n 1, 1) := dlt_4 (308, .aload_n 1, 1) (List.mem_of_getElem? (i := 2) rfl)
theorem dL_law_309 : decode code 309 = .ok (.aload_n 0, 1) := dlt_4 (309, .aload_n 0, 1) (List.mem_of_getElem? (i := 3) rfl)
theorem dL_law_310 : decode code 310 = .ok (.iload_n 3, 1) := dlt_4 (310, .iload_n 3, 1) (List.mem_of_getElem? (i := 4) rfl)
theorem dL_law_311 : decode code 311 = .ok (.iconst 1, 1) := dlt_4 (311, .iconst 1, 1) (List.mem_of_getElem? (i := 5) rfl)
theorem dL_law_312 : decode code 312 = .ok (.iadd, 1) := dlt_4 (312, .iadd, 1) (List.mem_of_getElem? (i := 6) rfl)
theorem dL_law_313 : decode code 313 = .ok (.iaload, 1) := dlt_4 (313, .iaload, 1) (List.mem_of_getElem? (i := 7) rfl)
theorem dL_law_314 : decode code 314 = .ok (.aload_n 0, 1) := dlt_4 (314, .aload_n 0, 1) (List.mem_of_getElem? (i := 8) rfl)
theorem dL_law_315 : decode code 315 = .ok (.iload_n 3, 1) := dlt_4 (315, .iload_n 3, 1) (List.mem_of_getElem? (i := 9) rfl)
theorem dL_law_316 : decode code 316 = .ok (.iconst 2, 1) := dlt_4 (316, .iconst 2, 1) (List.mem_of_getElem? (i := 10) rfl)
theorem dL_law_317 : decode code 317 = .ok (.iadd, 1) := dlt_4 (317, .iadd, 1) (List.mem_of_getElem? (i := 11) rfl)
theorem dL_law_318 : decode code 318 = .ok (.iaload, 1) := dlt_4 (318, .iaload, 1) (List.mem_of_getElem? (i := 12) rfl)
theorem dL_law_319 : decode code 319 = .ok (.invokevirtual 30, 3) := dlt_4 (319, .invokevirtual 30, 3) (List.mem_of_getElem? (i := 13) rfl)
theorem dL_law_322 : decode code 322 = .ok (.aload_n 2, 1) := dlt_4 (322, .aload_n 2, 1) (List.mem_of_getElem? (i := 14) rfl)
theorem dL_law_323 : decode code 323 = .ok (.aload_n 0, 1) := dlt_4 (323, .aload_n 0, 1) (List.mem_of_getElem? (i := 15) rfl)
theorem dL_law_324 : decode code 324 = .ok (.iload_n 3, 1) := dlt_4 (324, .iload_n 3, 1) (List.mem_of_getElem? (i := 16) rfl)
theorem dL_law_325 : decode code 325 = .ok (.iconst 1, 1) := dlt_4 (325, .iconst 1, 1) (List.mem_of_getElem? (i := 17) rfl)
theorem dL_law_326 : decode code 326 = .ok (.iadd, 1) := dlt_4 (326, .iadd, 1) (List.mem_of_getElem? (i := 18) rfl)
theorem dL_law_327 : decode code 327 = .ok (.iaload, 1) := dlt_4 (327, .iaload, 1) (List.mem_of_getElem? (i := 19) rfl)
theorem dL_law_328 : decode code 328 = .ok (.aload_n 0, 1) := dlt_4 (328, .aload_n 0, 1) (List.mem_of_getElem? (i := 20) rfl)
theorem dL_law_329 : decode code 329 = .ok (.iload_n 3, 1) := dlt_4 (329, .iload_n 3, 1) (List.mem_of_getElem? (i := 21) rfl)
theorem dL_law_330 : decode code 330 = .ok (.iconst 2, 1) := dlt_4 (330, .iconst 2, 1) (List.mem_of_getElem? (i := 22) rfl)
theorem dL_law_331 : decode code 331 = .ok (.iadd, 1) := dlt_4 (331, .iadd, 1) (List.mem_of_getElem? (i := 23) rfl)
theorem dL_law_332 : decode code 332 = .ok (.iaload, 1) := dlt_4 (332, .iaload, 1) (List.mem_of_getElem? (i := 24) rfl)
theorem dL_law_333 : decode code 333 = .ok (.invokevirtual 33, 3) := dlt_4 (333, .invokevirtual 33, 3) (List.mem_of_getElem? (i := 25) rfl)
theorem dL_law_336 : decode code 336 = .ok (.if_icmp .eq 869, 3) := dlt_4 (336, .if_icmp .eq 869, 3) (List.mem_of_getElem? (i := 26) rfl)
theorem dL_law_339 : decode code 339 = .ok (.iconst 0, 1) := dlt_4 (339, .iconst 0, 1) (List.mem_of_getElem? (i := 27) rfl)
theorem dL_law_340 : decode code 340 = .ok (.ireturn, 1) := dlt_4 (340, .ireturn, 1) (List.mem_of_getElem? (i := 28) rfl)
theorem dL_law_341 : decode code 341 = .ok (.aload_n 1, 1) := dlt_4 (341, .aload_n 1, 1) (List.mem_of_getElem? (i := 29) rfl)
theorem dL_law_342 : decode code 342 = .ok (.aload_n 0, 1) := dlt_4 (342, .aload_n 0, 1) (List.mem_of_getElem? (i := 30) rfl)
theorem dL_law_343 : decode code 343 = .ok (.iload_n 3, 1) := dlt_4 (343, .iload_n 3, 1) (List.mem_of_getElem? (i := 31) rfl)
def dll_5 : List (Nat × Instr × Nat) := [(344, .iconst 1, 1), (345, .iadd, 1), (346, .iaload, 1), (347, .aload_n 0, 1), (348, .iload_n 3, 1), (349, .iconst 2, 1), (350, .iadd, 1), (351, .iaload, 1), (352, .invokevirtual 34, 3), (355, .aload_n 2, 1), (356, .aload_n 0, 1), (357, .iload_n 3, 1), (358, .iconst 1, 1), (359, .iadd, 1), (360, .iaload, 1), (361, .aload_n 0, 1), (362, .iload_n 3, 1), (363, .iconst 2, 1), (364, .iadd, 1), (365, .iaload, 1), (366, .invokevirtual 37, 3), (369, .if_icmp .eq 836, 3), (372, .iconst 0, 1), (373, .ireturn, 1), (374, .aload_n 1, 1), (375, .aload_n 0, 1), (376, .iload_n 3, 1), (377, .iconst 1, 1), (378, .iadd, 1), (379, .iaload, 1), (380, .aload_n 0, 1), (381, .iload_n 3, 1)]
set_option maxRecDepth 20000 in
theorem dlt_5 : ∀ q ∈ dll_5, decode code q.1 = .ok (q.2.1, q.2.2) := by decide +kernel
theorem dL_law_344 : decode code 344 = .ok (.iconst 1, 1) := dlt_5 (344, .iconst 1, 1) (List.mem_of_getElem? (i := 0) rfl)
theorem dL_law_345 : decode code 345 = .ok (.iadd, 1) := dlt_5 (345, .iadd, 1) (List.mem_of_getElem? (i := 1) rfl)
theorem dL_law_346 : decode code 346 = .ok (.iaload, 1) := dlt_5 (346, .iaload, 1) (List.mem_of_getElem? (i := 2) rfl)
theorem dL_law_347 : decode code 347 = .ok (.aload_n 0, 1) := dlt_5 (347, .aload_n 0, 1) (List.mem_of_getElem? (i := 3) rfl)
theorem dL_law_348 : decode code 348 = .ok (.iload_n 3, 1) := dlt_5 (348, .iload_n 3, 1) (List.mem_of_getElem? (i := 4) rfl)
theorem dL_law_349 : decode code 349 = .ok (.iconst 2, 1) := dlt_5 (349, .iconst 2, 1) (List.mem_of_getElem? (i := 5) rfl)
theorem dL_law_350 : decode code 350 = .ok (.iadd, 1) := dlt_5 (350, .iadd, 1) (List.mem_of_getElem? (i := 6) rfl)
theorem dL_law_351 : decode code 351 = .ok (.iaload, 1) := dlt_5 (351, .iaload, 1) (List.mem_of_getElem? (i := 7) rfl)
theorem dL_law_352 : decode code 352 = .ok (.invokevirtual 34, 3) := dlt_5 (352, .invokevirtual 34, 3) (List.mem_of_getElem? (i := 8) rfl)
theorem dL_law_355 : decode code 355 = .ok (.aload_n 2, 1) := dlt_5 (355, .aload_n 2, 1) (List.mem_of_getElem? (i := 9) rfl)
theorem dL_law_356 : decode code 356 = .ok (.aload_n 0, 1) := dlt_5 (356, .aload_n 0, 1) (List.mem_of_getElem? (i := 10) rfl)
theorem dL_law_357 : decode code 357 = .ok (.iload_n 3, 1) := dlt_5 (357, .iload_n 3, 1) (List.mem_of_getElem? (i := 11) rfl)
theorem dL_law_358 : decode code 358 = .ok (.iconst 1, 1) := dlt_5 (358, .iconst 1, 1) (List.mem_of_getElem? (i := 12) rfl)
theorem dL_law_359 : decode code 359 = .ok (.iadd, 1) := dlt_5 (359, .iadd, 1) (List.mem_of_getElem? (i := 13) rfl)
theorem dL_law_360 : decode code 360 = .ok (.iaload, 1) := dlt_5 (360, .iaload, 1) (List.mem_of_getElem? (i := 14) rfl)
theorem dL_law_361 : decode code 361 = .ok (.aload_n 0, 1) := dlt_5 (361, .aload_n 0, 1) (List.mem_of_getElem? (i := 15) rfl)
theorem dL_law_362 : decode code 362 = .ok (.iload_n 3, 1) := dlt_5 (362, .iload_n 3, 1) (List.mem_of_getElem? (i := 16) rfl)
theorem dL_law_363 : decode code 363 = .ok (.iconst 2, 1) := dlt_5 (363, .iconst 2, 1) (List.mem_of_getElem? (i := 17) rfl)
theorem dL_law_364 : decode code 364 = .ok (.iadd, 1) := dlt_5 (364, .iadd, 1) (List.mem_of_getElem? (i := 18) rfl)
theorem dL_law_365 : decode code 365 = .ok (.iaload, 1) := dlt_5 (365, .iaload, 1) (List.mem_of_getElem? (i := 19) rfl)
theorem dL_law_366 : decode code 366 = .ok (.invokevirtual 37, 3) := dlt_5 (366, .invokevirtual 37, 3) (List.mem_of_getElem? (i := 20) rfl)
theorem dL_law_369 : decode code 369 = .ok (.if_icmp .eq 836, 3) := dlt_5 (369, .if_icmp .eq 836, 3) (List.mem_of_getElem? (i := 21) rfl)
theorem dL_law_372 : decode code 372 = .ok (.iconst 0, 1) := dlt_5 (372, .iconst 0, 1) (List.mem_of_getElem? (i := 22) rfl)
theorem dL_law_373 : decode code 373 = .ok (.ireturn, 1) := dlt_5 (373, .ireturn, 1) (List.mem_of_getElem? (i := 23) rfl)
theorem dL_law_374 : decode code 374 = .ok (.aload_n 1, 1) := dlt_5 (374, .aload_n 1, 1) (List.mem_of_getElem? (i := 24) rfl)
theorem dL_law_375 : decode code 375 = .ok (.aload_n 0, 1) := dlt_5 (375, .aload_n 0, 1) (List.mem_of_getElem? (i := 25) rfl)
theorem dL_law_376 : decode code 376 = .ok (.iload_n 3, 1) := dlt_5 (376, .iload_n 3, 1) (List.mem_of_getElem? (i := 26) rfl)
theorem dL_law_377 : decode code 377 = .ok (.iconst 1, 1) := dlt_5 (377, .iconst 1, 1) (List.mem_of_getElem? (i := 27) rfl)
theorem dL_law_378 : decode code 378 = .ok (.iadd, 1) := dlt_5 (378, .iadd, 1) (List.mem_of_getElem? (i := 28) rfl)
theorem dL_law_379 : decode code 379 = .ok (.iaload, 1) := dlt_5 (379, .iaload, 1) (List.mem_of_getElem? (i := 29) rfl)
theorem dL_law_380 : decode code 380 = .ok (.aload_n 0, 1) := dlt_5 (380, .aload_n 0, 1) (List.mem_of_getElem? (i := 30) rfl)
theorem dL_law_381 : decode code 381 = .ok (.iload_n 3, 1) := dlt_5 (381, .iload_n 3, 1) (List.mem_of_getElem? (i := 31) rfl)
def dll_6 : List (Nat × Instr × Nat) := [(382, .iconst 2, 1), (383, .iadd, 1), (384, .iaload, 1), (385, .aload_n 0, 1), (386, .iload_n 3, 1), (387, .iconst 3, 1), (388, .iadd, 1), (389, .iaload, 1), (390, .invokevirtual 38, 3), (393, .aload_n 2, 1), (394, .aload_n 0, 1), (395, .iload_n 3, 1), (396, .iconst 1, 1), (397, .iadd, 1), (398, .iaload, 1), (399, .aload_n 0, 1), (400, .iload_n 3, 1), (401, .iconst 2, 1), (402, .iadd, 1), (403, .iaload, 1), (404, .aload_n 0, 1), (405, .iload_n 3, 1), (406, .iconst 3, 1), (407, .iadd, 1), (408, .iaload, 1), (409, .invokevirtual 42, 3), (412, .if_icmp .eq 793, 3), (415, .iconst 0, 1), (416, .ireturn, 1), (417, .aload_n 1, 1), (418, .aload_n 0, 1), (419, .iload_n 3, 1)]
set_option maxRecDepth 20000 in
theorem dlt_6 : ∀ q ∈ dll_6, decode code q.1 = .ok (q.2.1, q.2.2) := by decide +kernel
theorem dL_law_382 : decode code 382 = .ok (.iconst 2, 1) := dlt_6 (382, .iconst 2, 1) (List.mem_of_getElem? (i := 0) rfl)
theorem dL_law_383 : decode code 383 = .ok (.iadd, 1) := dlt_6 (383, .iadd, 1) (List.mem_of_getElem? (i := 1) rfl)
theorem dL_law_384 : decode code 384 = .ok (.iaload, 1) := dlt_6 (384, .iaload, 1) (List.mem_of_getElem? (i := 2) rfl)
theorem dL_law_385 : decode code 385 = .ok (.aload_n 0, 1) := dlt_6 (385, .aload_n 0, 1) (List.mem_of_getElem? (i := 3) rfl)
theorem dL_law_386 : decode code 386 = .ok (.iload_n 3, 1) := dlt_6 (386, .iload_n 3, 1) (List.mem_of_getElem? (i := 4) rfl)
theorem dL_law_387 : decode code 387 = .ok (.iconst 3, 1) := dlt_6 (387, .iconst 3, 1) (List.mem_of_getElem? (i := 5) rfl)
theorem dL_law_388 : decode code 388 = .ok (.iadd, 1) := dlt_6 (388, .iadd, 1) (List.mem_of_getElem? (i := 6) rfl)
theorem dL_law_389 : decode code 389 = .ok (.iaload, 1) := dlt_6 (389, .iaload, 1) (List.mem_of_getElem? (i := 7) rfl)
theorem dL_law_390 : decode code 390 = .ok (.invokevirtual 38, 3) := dlt_6 (390, .invokevirtual 38, 3) (List.mem_of_getElem? (i := 8) rfl)
theorem dL_law_393 : decode code 393 = .ok (.aload_n 2, 1) := dlt_6 (393, .aload_n 2, 1) (List.mem_of_getElem? (i := 9) rfl)
theorem dL_law_394 : decode code 394 = .ok (.aload_n 0, 1) := dlt_6 (394, .aload_n 0, 1) (List.mem_of_getElem? (i := 10) rfl)
theorem dL_law_395 : decode code 395 = .ok (.iload_n 3, 1) := dlt_6 (395, .iload_n 3, 1) (List.mem_of_getElem? (i := 11) rfl)
theorem dL_law_396 : decode code 396 = .ok (.iconst 1, 1) := dlt_6 (396, .iconst 1, 1) (List.mem_of_getElem? (i := 12) rfl)
theorem dL_law_397 : decode code 397 = .ok (.iadd, 1) := dlt_6 (397, .iadd, 1) (List.mem_of_getElem? (i := 13) rfl)
theorem dL_law_398 : decode code 398 = .ok (.iaload, 1) := dlt_6 (398, .iaload, 1) (List.mem_of_getElem? (i := 14) rfl)
theorem dL_law_399 : decode code 399 = .ok (.aload_n 0, 1) := dlt_6 (399, .aload_n 0, 1) (List.mem_of_getElem? (i := 15) rfl)
theorem dL_law_400 : decode code 400 = .ok (.iload_n 3, 1) := dlt_6 (400, .iload_n 3, 1) (List.mem_of_getElem? (i := 16) rfl)
theorem dL_law_401 : decode code 401 = .ok (.iconst 2, 1) := dlt_6 (401, .iconst 2, 1) (List.mem_of_getElem? (i := 17) rfl)
theorem dL_law_402 : decode code 402 = .ok (.iadd, 1) := dlt_6 (402, .iadd, 1) (List.mem_of_getElem? (i := 18) rfl)
theorem dL_law_403 : decode code 403 = .ok (.iaload, 1) := dlt_6 (403, .iaload, 1) (List.mem_of_getElem? (i := 19) rfl)
theorem dL_law_404 : decode code 404 = .ok (.aload_n 0, 1) := dlt_6 (404, .aload_n 0, 1) (List.mem_of_getElem? (i := 20) rfl)
theorem dL_law_405 : decode code 405 = .ok (.iload_n 3, 1) := dlt_6 (405, .iload_n 3, 1) (List.mem_of_getElem? (i := 21) rfl)
theorem dL_law_406 : decode code 406 = .ok (.iconst 3, 1) := dlt_6 (406, .iconst 3, 1) (List.mem_of_getElem? (i := 22) rfl)
theorem dL_law_407 : decode code 407 = .ok (.iadd, 1) := dlt_6 (407, .iadd, 1) (List.mem_of_getElem? (i := 23) rfl)
theorem dL_law_408 : decode code 408 = .ok (.iaload, 1) := dlt_6 (408, .iaload, 1) (List.mem_of_getElem? (i := 24) rfl)
theorem dL_law_409 : decode code 409 = .ok (.invokevirtual 42, 3) := dlt_6 (409, .invokevirtual 42, 3) (List.mem_of_getElem? (i := 25) rfl)
theorem dL_law_412 : decode code 412 = .ok (.if_icmp .eq 793, 3) := dlt_6 (412, .if_icmp .eq 793, 3) (List.mem_of_getElem? (i := 26) rfl)
theorem dL_law_415 : decode code 415 = .ok (.iconst 0, 1) := dlt_6 (415, .iconst 0, 1) (List.mem_of_getElem? (i := 27) rfl)
theorem dL_law_416 : decode code 416 = .ok (.ireturn, 1) := dlt_6 (416, .ireturn, 1) (List.mem_of_getElem? (i := 28) rfl)
theorem dL_law_417 : decode code 417 = .ok (.aload_n 1, 1) := dlt_6 (417, .aload_n 1, 1) (List.mem_of_getElem? (i := 29) rfl)
theorem dL_law_418 : decode code 418 = .ok (.aload_n 0, 1) := dlt_6 (418, .aload_n 0, 1) (List.mem_of_getElem? (i := 30) rfl)
theorem dL_law_419 : decode code 419 = .ok (.iload_n 3, 1) := dlt_6 (419, .iload_n 3, 1) (List.mem_of_getElem? (i := 31) rfl)
def dll_7 : List (Nat × Instr × Nat) := [(420, .iconst 1, 1), (421, .iadd, 1), (422, .iaload, 1), (423, .invokevirtual 43, 3), (426, .aload_n 2, 1), (427, .aload_n 0, 1), (428, .iload_n 3, 1), (429, .iconst 1, 1), (430, .iadd, 1), (431, .iaload, 1), (432, .invokevirtual 47, 3), (435, .if_icmp .eq 770, 3), (438, .iconst 0, 1), (439, .ireturn, 1), (440, .aload_n 1, 1), (441, .invokevirtual 48, 3), (444, .aload_n 2, 1), (445, .invokevirtual 52, 3), (448, .if_icmp .eq 757, 3), (451, .iconst 0, 1), (452, .ireturn, 1), (453, .aload_n 1, 1), (454, .aload_n 0, 1), (455, .iload_n 3, 1), (456, .iconst 1, 1), (457, .iadd, 1), (458, .iaload, 1), (459, .invokevirtual 53, 3), (462, .aload_n 2, 1), (463, .aload_n 0, 1), (464, .iload_n 3, 1), (465, .iconst 1, 1)]
set_option maxRecDepth 20000 in
theorem dlt_7 : ∀ q ∈ dll_7, decode code q.1 = .ok (q.2.1, q.2.2) := by decide +kernel
theorem dL_law_420 : decode code 420 = .ok (.iconst 1, 1) := dlt_7 (420, .iconst 1, 1) (List.mem_of_getElem? (i := 0) rfl)
theorem dL_law_421 : decode code 421 = .ok (.iadd, 1) := dlt_7 (421, .iadd, 1) (List.mem_of_getElem? (i := 1) rfl)
theorem dL_law_422 : decode code 422 = .ok (.iaload, 1) := dlt_7 (422, .iaload, 1) (List.mem_of_getElem? (i := 2) rfl)
theorem dL_law_423 : decode code 423 = .ok (.invokevirtual 43, 3) := dlt_7 (423, .invokevirtual 43, 3) (List.mem_of_getElem? (i := 3) rfl)
theorem dL_law_426 : decode code 426 = .ok (.aload_n 2, 1) := dlt_7 (426, .aload_n 2, 1) (List.mem_of_getElem? (i := 4) rfl)
theorem dL_law_427 : decode code 427 = .ok (.aload_n 0, 1) := dlt_7 (427, .aload_n 0, 1) (List.mem_of_getElem? (i := 5) rfl)
theorem dL_law_428 : decode code 428 = .ok (.iload_n 3, 1) := dlt_7 (428, .iload_n 3, 1) (List.mem_of_getElem? (i := 6) rfl)
theorem dL_law_429 : decode code 429 = .ok (.iconst 1, 1) := dlt_7 (429, .iconst 1, 1) (List.mem_of_getElem? (i := 7) rfl)
theorem dL_law_430 : decode code 430 = .ok (.iadd, 1) := dlt_7 (430, .iadd, 1) (List.mem_of_getElem? (i := 8) rfl)
theorem dL_law_431 : decode code 431 = .ok (.iaload, 1) := dlt_7 (431, .iaload, 1) (List.mem_of_getElem? (i := 9) rfl)
theorem dL_law_432 : decode code 432 = .ok (.invokevirtual 47, 3) := dlt_7 (432, .invokevirtual 47, 3) (List.mem_of_getElem? (i := 10) rfl)
theorem dL_law_435 : decode code 435 = .ok (.if_icmp .eq 770, 3) := dlt_7 (435, .if_icmp .eq 770, 3) (List.mem_of_getElem? (i := 11) rfl)
theorem dL_law_438 : decode code 438 = .ok (.iconst 0, 1) := dlt_7 (438, .iconst 0, 1) (List.mem_of_getElem? (i := 12) rfl)
theorem dL_law_439 : decode code 439 = .ok (.ireturn, 1) := dlt_7 (439, .ireturn, 1) (List.mem_of_getElem? (i := 13) rfl)
theorem dL_law_440 : decode code 440 = .ok (.aload_n 1, 1) := dlt_7 (440, .aload_n 1, 1) (List.mem_of_getElem? (i := 14) rfl)
theorem dL_law_441 : decode code 441 = .ok (.invokevirtual 48, 3) := dlt_7 (441, .invokevirtual 48, 3) (List.mem_of_getElem? (i := 15) rfl)
theorem dL_law_444 : decode code 444 = .ok (.aload_n 2, 1) := dlt_7 (444, .aload_n 2, 1) (List.mem_of_getElem? (i := 16) rfl)
theorem dL_law_445 : decode code 445 = .ok (.invokevirtual 52, 3) := dlt_7 (445, .invokevirtual 52, 3) (List.mem_of_getElem? (i := 17) rfl)
theorem dL_law_448 : decode code 448 = .ok (.if_icmp .eq 757, 3) := dlt_7 (448, .if_icmp .eq 757, 3) (List.mem_of_getElem? (i := 18) rfl)
theorem dL_law_451 : decode code 451 = .ok (.iconst 0, 1) := dlt_7 (451, .iconst 0, 1) (List.mem_of_getElem? (i := 19) rfl)
theorem dL_law_452 : decode code 452 = .ok (.ireturn, 1) := dlt_7 (452, .ireturn, 1) (List.mem_of_getElem? (i := 20) rfl)
theorem dL_law_453 : decode code 453 = .ok (.aload_n 1, 1) := dlt_7 (453, .aload_n 1, 1) (List.mem_of_getElem? (i := 21) rfl)
theorem dL_law_454 : decode code 454 = .ok (.aload_n 0, 1) := dlt_7 (454, .aload_n 0, 1) (List.mem_of_getElem? (i := 22) rfl)
theorem dL_law_455 : decode code 455 = .ok (.iload_n 3, 1) := dlt_7 (455, .iload_n 3, 1) (List.mem_of_getElem? (i := 23) rfl)
theorem dL_law_456 : decode code 456 = .ok (.iconst 1, 1) := dlt_7 (456, .iconst 1, 1) (List.mem_of_getElem? (i := 24) rfl)
theorem dL_law_457 : decode code 457 = .ok (.iadd, 1) := dlt_7 (457, .iadd, 1) (List.mem_of_getElem? (i := 25) rfl)
theorem dL_law_458 : decode code 458 = .ok (.iaload, 1) := dlt_7 (458, .iaload, 1) (List.mem_of_getElem? (i := 26) rfl)
theorem dL_law_459 : decode code 459 = .ok (.invokevirtual 53, 3) := dlt_7 (459, .invokevirtual 53, 3) (List.mem_of_getElem? (i := 27) rfl)
theorem dL_law_462 : decode code 462 = .ok (.aload_n 2, 1) := dlt_7 (462, .aload_n 2, 1) (List.mem_of_getElem? (i := 28) rfl)
theorem dL_law_463 : decode code 463 = .ok (.aload_n 0, 1) := dlt_7 (463, .aload_n 0, 1) (List.mem_of_getElem? (i := 29) rfl)
theorem dL_law_464 : decode code 464 = .ok (.iload_n 3, 1) := dlt_7 (464, .iload_n 3, 1) (List.mem_of_getElem? (i := 30) rfl)
theorem dL_law_465 : decode code 465 = .ok (.iconst 1, 1) := dlt_7 (465, .iconst 1, 1) (List.mem_of_getElem? (i := 31) rfl)
def dll_8 : List (Nat × Instr × Nat) := [(466, .iadd, 1), (467, .iaload, 1), (468, .invokevirtual 56, 3), (471, .if_icmp .eq 734, 3), (474, .iconst 0, 1), (475, .ireturn, 1), (476, .aload_n 1, 1), (477, .aload_n 0, 1), (478, .iload_n 3, 1), (479, .iconst 1, 1), (480, .iadd, 1), (481, .iaload, 1), (482, .invokevirtual 57, 3), (485, .aload_n 2, 1), (486, .aload_n 0, 1), (487, .iload_n 3, 1), (488, .iconst 1, 1), (489, .iadd, 1), (490, .iaload, 1), (491, .invokevirtual 60, 3), (494, .if_icmp .eq 711, 3), (497, .iconst 0, 1), (498, .ireturn, 1), (499, .aload_n 1, 1), (500, .aload_n 0, 1), (501, .iload_n 3, 1), (502, .iconst 1, 1), (503, .iadd, 1), (504, .iaload, 1), (505, .aload_n 0, 1), (506, .iload_n 3, 1), (507, .iconst 2, 1)]
set_option maxRecDepth 20000 in
theorem dlt_8 : ∀ q ∈ dll_8, decode code q.1 = .ok (q.2.1, q.2.2) := by decide +kernel
theorem dL_law_466 : decode code 466 = .ok (.iadd, 1) := dlt_8 (466, .iadd, 1) (List.mem_of_getElem? (i := 0) rfl)
theorem dL_law_467 : decode code 467 = .ok (.iaload, 1) := dlt_8 (467, .iaload, 1) (List.mem_of_getElem? (i := 1) rfl)
theorem dL_law_468 : decode code 468 = .ok (.invokevirtual 56, 3) := dlt_8 (468, .invokevirtual 56, 3) (List.mem_of_getElem? (i := 2) rfl)
theorem dL_law_471 : decode code 471 = .ok (.if_icmp .eq 734, 3) := dlt_8 (471, .if_icmp .eq 734, 3) (List.mem_of_getElem? (i := 3) rfl)
theorem dL_law_474 : decode code 474 = .ok (.iconst 0, 1) := dlt_8 (474, .iconst 0, 1) (List.mem_of_getElem? (i := 4) rfl)
theorem dL_law_475 : decode code 475 = .ok (.ireturn, 1) := dlt_8 (475, .ireturn, 1) (List.mem_of_getElem? (i := 5) rfl)
theorem dL_law_476 : decode code 476 = .ok (.aload_n 1, 1) := dlt_8 (476, .aload_n 1, 1) (List.mem_of_getElem? (i := 6) rfl)
theorem dL_law_477 : decode code 477 = .ok (.aload_n 0, 1) := dlt_8 (477, .aload_n 0, 1) (List.mem_of_getElem? (i := 7) rfl)
theorem dL_law_478 : decode code 478 = .ok (.iload_n 3, 1) := dlt_8 (478, .iload_n 3, 1) (List.mem_of_getElem? (i := 8) rfl)
theorem dL_law_479 : decode code 479 = .ok (.iconst 1, 1) := dlt_8 (479, .iconst 1, 1) (List.mem_of_getElem? (i := 9) rfl)
theorem dL_law_480 : decode code 480 = .ok (.iadd, 1) := dlt_8 (480, .iadd, 1) (List.mem_of_getElem? (i := 10) rfl)
theorem dL_law_481 : decode code 481 = .ok (.iaload, 1) := dlt_8 (481, .iaload, 1) (List.mem_of_getElem? (i := 11) rfl)
theorem dL_law_482 : decode code 482 = .ok (.invokevirtual 57, 3) := dlt_8 (482, .invokevirtual 57, 3) (List.mem_of_getElem? (i := 12) rfl)
theorem dL_law_485 : decode code 485 = .ok (.aload_n 2, 1) := dlt_8 (485, .aload_n 2, 1) (List.mem_of_getElem? (i := 13) rfl)
theorem dL_law_486 : decode code 486 = .ok (.aload_n 0, 1) := dlt_8 (486, .aload_n 0, 1) (List.mem_of_getElem? (i := 14) rfl)
theorem dL_law_487 : decode code 487 = .ok (.iload_n 3, 1) := dlt_8 (487, .iload_n 3, 1) (List.mem_of_getElem? (i := 15) rfl)
theorem dL_law_488 : decode code 488 = .ok (.iconst 1, 1) := dlt_8 (488, .iconst 1, 1) (List.mem_of_getElem? (i := 16) rfl)
theorem dL_law_489 : decode code 489 = .ok (.iadd, 1) := dlt_8 (489, .iadd, 1) (List.mem_of_getElem? (i := 17) rfl)
theorem dL_law_490 : decode code 490 = .ok (.iaload, 1) := dlt_8 (490, .iaload, 1) (List.mem_of_getElem? (i := 18) rfl)
theorem dL_law_491 : decode code 491 = .ok (.invokevirtual 60, 3) := dlt_8 (491, .invokevirtual 60, 3) (List.mem_of_getElem? (i := 19) rfl)
theorem dL_law_494 : decode code 494 = .ok (.if_icmp .eq 711, 3) := dlt_8 (494, .if_icmp .eq 711, 3) (List.mem_of_getElem? (i := 20) rfl)
theorem dL_law_497 : decode code 497 = .ok (.iconst 0, 1) := dlt_8 (497, .iconst 0, 1) (List.mem_of_getElem? (i := 21) rfl)
theorem dL_law_498 : decode code 498 = .ok (.ireturn, 1) := dlt_8 (498, .ireturn, 1) (List.mem_of_getElem? (i := 22) rfl)
theorem dL_law_499 : decode code 499 = .ok (.aload_n 1, 1) := dlt_8 (499, .aload_n 1, 1) (List.mem_of_getElem? (i := 23) rfl)
theorem dL_law_500 : decode code 500 = .ok (.aload_n 0, 1) := dlt_8 (500, .aload_n 0, 1) (List.mem_of_getElem? (i := 24) rfl)
theorem dL_law_501 : decode code 501 = .ok (.iload_n 3, 1) := dlt_8 (501, .iload_n 3, 1) (List.mem_of_getElem? (i := 25) rfl)
theorem dL_law_502 : decode code 502 = .ok (.iconst 1, 1) := dlt_8 (502, .iconst 1, 1) (List.mem_of_getElem? (i := 26) rfl)
theorem dL_law_503 : decode code 503 = .ok (.iadd, 1) := dlt_8 (503, .iadd, 1) (List.mem_of_getElem? (i := 27) rfl)
theorem dL_law_504 : decode code 504 = .ok (.iaload, 1) := dlt_8 (504, .iaload, 1) (List.mem_of_getElem? (i := 28) rfl)
theorem dL_law_505 : decode code 505 = .ok (.aload_n 0, 1) := dlt_8 (505, .aload_n 0, 1) (List.mem_of_getElem? (i := 29) rfl)
theorem dL_law_506 : decode code 506 = .ok (.iload_n 3, 1) := dlt_8 (506, .iload_n 3, 1) (List.mem_of_getElem? (i := 30) rfl)
theorem dL_law_507 : decode code 507 = .ok (.iconst 2, 1) := dlt_8 (507, .iconst 2, 1) (List.mem_of_getElem? (i := 31) rfl)
def dll_9 : List (Nat × Instr × Nat) := [(508, .iadd, 1), (509, .iaload, 1), (510, .invokevirtual 61, 3), (513, .aload_n 2, 1), (514, .aload_n 0, 1), (515, .iload_n 3, 1), (516, .iconst 1, 1), (517, .iadd, 1), (518, .iaload, 1), (519, .aload_n 0, 1), (520, .iload_n 3, 1), (521, .iconst 2, 1), (522, .iadd, 1), (523, .iaload, 1), (524, .invokevirtual 64, 3), (527, .if_icmp .eq 678, 3), (530, .iconst 0, 1), (531, .ireturn, 1), (532, .aload_n 1, 1), (533, .aload_n 0, 1), (534, .iload_n 3, 1), (535, .iconst 1, 1), (536, .iadd, 1), (537, .iaload, 1), (538, .aload_n 0, 1), (539, .iload_n 3, 1), (540, .iconst 2, 1), (541, .iadd, 1), (542, .iaload, 1), (543, .invokevirtual 65, 3), (546, .aload_n 2, 1), (547, .aload_n 0, 1)]
set_option maxRecDepth 20000 in
theorem dlt_9 : ∀ q ∈ dll_9, decode code q.1 = .ok (q.2.1, q.2.2) := by decide +kernel
theorem dL_law_508 : decode code 508 = .ok (.iadd, 1) := dlt_9 (508, .iadd, 1) (List.mem_of_getElem? (i := 0) rfl)
theorem dL_law_509 : decode code 509 = .ok (.iaload, 1) := dlt_9 (509, .iaload, 1) (List.mem_of_getElem? (i := 1) rfl)
theorem dL_law_510 : decode code 510 = .ok (.invokevirtual 61, 3) := dlt_9 (510, .invokevirtual 61, 3) (List.mem_of_getElem? (i := 2) rfl)
theorem dL_law_513 : decode code 513 = .ok (.aload_n 2, 1) := dlt_9 (513, .aload_n 2, 1) (List.mem_of_getElem? (i := 3) rfl)
theorem dL_law_514 : decode code 514 = .ok (.aload_n 0, 1) := dlt_9 (514, .aload_n 0, 1) (List.mem_of_getElem? (i := 4) rfl)
theorem dL_law_515 : decode code 515 = .ok (.iload_n 3, 1) := dlt_9 (515, .iload_n 3, 1) (List.mem_of_getElem? (i := 5) rfl)
theorem dL_law_516 : decode code 516 = .ok (.iconst 1, 1) := dlt_9 (516, .iconst 1, 1) (List.mem_of_getElem? (i := 6) rfl)
theorem dL_law_517 : decode code 517 = .ok (.iadd, 1) := dlt_9 (517, .iadd, 1) (List.mem_of_getElem? (i := 7) rfl)
theorem dL_law_518 : decode code 518 = .ok (.iaload, 1) := dlt_9 (518, .iaload, 1) (List.mem_of_getElem? (i := 8) rfl)
theorem dL_law_519 : decode code 519 = .ok (.aload_n 0, 1) := dlt_9 (519, .aload_n 0, 1) (List.mem_of_getElem? (i := 9) rfl)
theorem dL_law_520 : decode code 520 = .ok (.iload_n 3, 1) := dlt_9 (520, .iload_n 3, 1) (List.mem_of_getElem? (i := 10) rfl)
theorem dL_law_521 : decode code 521 = .ok (.iconst 2, 1) := dlt_9 (521, .iconst 2, 1) (List.mem_of_getElem? (i := 11) rfl)
theorem dL_law_522 : decode code 522 = .ok (.iadd, 1) := dlt_9 (522, .iadd, 1) (List.mem_of_getElem? (i := 12) rfl)
theorem dL_law_523 : decode code 523 = .ok (.iaload, 1) := dlt_9 (523, .iaload, 1) (List.mem_of_getElem? (i := 13) rfl)
theorem dL_law_524 : decode code 524 = .ok (.invokevirtual 64, 3) := dlt_9 (524, .invokevirtual 64, 3) (List.mem_of_getElem? (i := 14) rfl)
theorem dL_law_527 : decode code 527 = .ok (.if_icmp .eq 678, 3) := dlt_9 (527, .if_icmp .eq 678, 3) (List.mem_of_getElem? (i := 15) rfl)
theorem dL_law_530 : decode code 530 = .ok (.iconst 0, 1) := dlt_9 (530, .iconst 0, 1) (List.mem_of_getElem? (i := 16) rfl)
theorem dL_law_531 : decode code 531 = .ok (.ireturn, 1) := dlt_9 (531, .ireturn, 1) (List.mem_of_getElem? (i := 17) rfl)
theorem dL_law_532 : decode code 532 = .ok (.aload_n 1, 1) := dlt_9 (532, .aload_n 1, 1) (List.mem_of_getElem? (i := 18) rfl)
theorem dL_law_533 : decode code 533 = .ok (.aload_n 0, 1) := dlt_9 (533, .aload_n 0, 1) (List.mem_of_getElem? (i := 19) rfl)
theorem dL_law_534 : decode code 534 = .ok (.iload_n 3, 1) := dlt_9 (534, .iload_n 3, 1) (List.mem_of_getElem? (i := 20) rfl)
theorem dL_law_535 : decode code 535 = .ok (.iconst 1, 1) := dlt_9 (535, .iconst 1, 1) (List.mem_of_getElem? (i := 21) rfl)
theorem dL_law_536 : decode code 536 = .ok (.iadd, 1) := dlt_9 (536, .iadd, 1) (List.mem_of_getElem? (i := 22) rfl)
theorem dL_law_537 : decode code 537 = .ok (.iaload, 1) := dlt_9 (537, .iaload, 1) (List.mem_of_getElem? (i := 23) rfl)
theorem dL_law_538 : decode code 538 = .ok (.aload_n 0, 1) := dlt_9 (538, .aload_n 0, 1) (List.mem_of_getElem? (i := 24) rfl)
theorem dL_law_539 : decode code 539 = .ok (.iload_n 3, 1) := dlt_9 (539, .iload_n 3, 1) (List.mem_of_getElem? (i := 25) rfl)
theorem dL_law_540 : decode code 540 = .ok (.iconst 2, 1) := dlt_9 (540, .iconst 2, 1) (List.mem_of_getElem? (i := 26) rfl)
theorem dL_law_541 : decode code 541 = .ok (.iadd, 1) := dlt_9 (541, .iadd, 1) (List.mem_of_getElem? (i := 27) rfl)
theorem dL_law_542 : decode code 542 = .ok (.iaload, 1) := dlt_9 (542, .iaload, 1) (List.mem_of_getElem? (i := 28) rfl)
theorem dL_law_543 : decode code 543 = .ok (.invokevirtual 65, 3) := dlt_9 (543, .invokevirtual 65, 3) (List.mem_of_getElem? (i := 29) rfl)
theorem dL_law_546 : decode code 546 = .ok (.aload_n 2, 1) := dlt_9 (546, .aload_n 2, 1) (List.mem_of_getElem? (i := 30) rfl)
theorem dL_law_547 : decode code 547 = .ok (.aload_n 0, 1) := dlt_9 (547, .aload_n 0, 1) (List.mem_of_getElem? (i := 31) rfl)
def dll_10 : List (Nat × Instr × Nat) := [(548, .iload_n 3, 1), (549, .iconst 1, 1), (550, .iadd, 1), (551, .iaload, 1), (552, .aload_n 0, 1), (553, .iload_n 3, 1), (554, .iconst 2, 1), (555, .iadd, 1), (556, .iaload, 1), (557, .invokevirtual 68, 3), (560, .if_icmp .eq 645, 3), (563, .iconst 0, 1), (564, .ireturn, 1), (565, .aload_n 1, 1), (566, .aload_n 0, 1), (567, .iload_n 3, 1), (568, .iconst 1, 1), (569, .iadd, 1), (570, .iaload, 1), (571, .aload_n 0, 1), (572, .iload_n 3, 1), (573, .iconst 2, 1), (574, .iadd, 1), (575, .iaload, 1), (576, .aload_n 0, 1), (577, .iload_n 3, 1), (578, .iconst 3, 1), (579, .iadd, 1), (580, .iaload, 1), (581, .invokevirtual 69, 3), (584, .aload_n 2, 1), (585, .aload_n 0, 1)]
set_option maxRecDepth 20000 in
theorem dlt_10 : ∀ q ∈ dll_10, decode code q.1 = .ok (q.2.1, q.2.2) := by decide +kernel
theorem dL_law_548 : decode code 548 = .ok (.iload_n 3, 1) := dlt_10 (548, .iload_n 3, 1) (List.mem_of_getElem? (i := 0) rfl)
theorem dL_law_549 : decode code 549 = .ok (.iconst 1, 1) := dlt_10 (549, .iconst 1, 1) (List.mem_of_getElem? (i := 1) rfl)
theorem dL_law_550 : decode code 550 = .ok (.iadd, 1) := dlt_10 (550, .iadd, 1) (List.mem_of_getElem? (i := 2) rfl)
theorem dL_law_551 : decode code 551 = .ok (.iaload, 1) := dlt_10 (551, .iaload, 1) (List.mem_of_getElem? (i := 3) rfl)
theorem dL_law_552 : decode code 552 = .ok (.aload_n 0, 1) := dlt_10 (552, .aload_n 0, 1) (List.mem_of_getElem? (i := 4) rfl)
theorem dL_law_553 : decode code 553 = .ok (.iload_n 3, 1) := dlt_10 (553, .iload_n 3, 1) (List.mem_of_getElem? (i := 5) rfl)
theorem dL_law_554 : decode code 554 = .ok (.iconst 2, 1) := dlt_10 (554, .iconst 2, 1) (List.mem_of_getElem? (i := 6) rfl)
theorem dL_law_555 : decode code 555 = .ok (.iadd, 1) := dlt_10 (555, .iadd, 1) (List.mem_of_getElem? (i := 7) rfl)
theorem dL_law_556 : decode code 556 = .ok (.iaload, 1) := dlt_10 (556, .iaload, 1) (List.mem_of_getElem? (i := 8) rfl)
theorem dL_law_557 : decode code 557 = .ok (.invokevirtual 68, 3) := dlt_10 (557, .invokevirtual 68, 3) (List.mem_of_getElem? (i := 9) rfl)
theorem dL_law_560 : decode code 560 = .ok (.if_icmp .eq 645, 3) := dlt_10 (560, .if_icmp .eq 645, 3) (List.mem_of_getElem? (i := 10) rfl)
theorem dL_law_563 : decode code 563 = .ok (.iconst 0, 1) := dlt_10 (563, .iconst 0, 1) (List.mem_of_getElem? (i := 11) rfl)
theorem dL_law_564 : decode code 564 = .ok (.ireturn, 1) := dlt_10 (564, .ireturn, 1) (List.mem_of_getElem? (i := 12) rfl)
theorem dL_law_565 : decode code 565 = .ok (.aload_n 1, 1) := dlt_10 (565, .aload_n 1, 1) (List.mem_of_getElem? (i := 13) rfl)
theorem dL_law_566 : decode code 566 = .ok (.aload_n 0, 1) := dlt_10 (566, .aload_n 0, 1) (List.mem_of_getElem? (i := 14) rfl)
theorem dL_law_567 : decode code 567 = .ok (.iload_n 3, 1) := dlt_10 (567, .iload_n 3, 1) (List.mem_of_getElem? (i := 15) rfl)
theorem dL_law_568 : decode code 568 = .ok (.iconst 1, 1) := dlt_10 (568, .iconst 1, 1) (List.mem_of_getElem? (i := 16) rfl)
theorem dL_law_569 : decode code 569 = .ok (.iadd, 1) := dlt_10 (569, .iadd, 1) (List.mem_of_getElem? (i := 17) rfl)
theorem dL_law_570 : decode code 570 = .ok (.iaload, 1) := dlt_10 (570, .iaload, 1) (List.mem_of_getElem? (i := 18) rfl)
theorem dL_law_571 : decode code 571 = .ok (.aload_n 0, 1) := dlt_10 (571, .aload_n 0, 1) (List.mem_of_getElem? (i := 19) rfl)
theorem dL_law_572 : decode code 572 = .ok (.iload_n 3, 1) := dlt_10 (572, .iload_n 3, 1) (List.mem_of_getElem? (i := 20) rfl)
theorem dL_law_573 : decode code 573 = .ok (.iconst 2, 1) := dlt_10 (573, .iconst 2, 1) (List.mem_of_getElem? (i := 21) rfl)
theorem dL_law_574 : decode code 574 = .ok (.iadd, 1) := dlt_10 (574, .iadd, 1) (List.mem_of_getElem? (i := 22) rfl)
theorem dL_law_575 : decode code 575 = .ok (.iaload, 1) := dlt_10 (575, .iaload, 1) (List.mem_of_getElem? (i := 23) rfl)
theorem dL_law_576 : decode code 576 = .ok (.aload_n 0, 1) := dlt_10 (576, .aload_n 0, 1) (List.mem_of_getElem? (i := 24) rfl)
theorem dL_law_577 : decode code 577 = .ok (.iload_n 3, 1) := dlt_10 (577, .iload_n 3, 1) (List.mem_of_getElem? (i := 25) rfl)
theorem dL_law_578 : decode code 578 = .ok (.iconst 3, 1) := dlt_10 (578, .iconst 3, 1) (List.mem_of_getElem? (i := 26) rfl)
theorem dL_law_579 : decode code 579 = .ok (.iadd, 1) := dlt_10 (579, .iadd, 1) (List.mem_of_getElem? (i := 27) rfl)
theorem dL_law_580 : decode code 580 = .ok (.iaload, 1) := dlt_10 (580, .iaload, 1) (List.mem_of_getElem? (i := 28) rfl)
theorem dL_law_581 : decode code 581 = .ok (.invokevirtual 69, 3) := dlt_10 (581, .invokevirtual 69, 3) (List.mem_of_getElem? (i := 29) rfl)
theorem dL_law_584 : decode code 584 = .ok (.aload_n 2, 1) := dlt_10 (584, .aload_n 2, 1) (List.mem_of_getElem? (i := 30) rfl)
theorem dL_law_585 : decode code 585 = .ok (.aload_n 0, 1) := dlt_10 (585, .aload_n 0, 1) (List.mem_of_getElem? (i := 31) rfl)
def dll_11 : List (Nat × Instr × Nat) := [(586, .iload_n 3, 1), (587, .iconst 1, 1), (588, .iadd, 1), (589, .iaload, 1), (590, .aload_n 0, 1), (591, .iload_n 3, 1), (592, .iconst 2, 1), (593, .iadd, 1), (594, .iaload, 1), (595, .aload_n 0, 1), (596, .iload_n 3, 1), (597, .iconst 3, 1), (598, .iadd, 1), (599, .iaload, 1), (600, .invokevirtual 72, 3), (603, .if_icmp .eq 602, 3), (606, .iconst 0, 1), (607, .ireturn, 1), (608, .aload_n 1, 1), (609, .aload_n 0, 1), (610, .iload_n 3, 1), (611, .iconst 1, 1), (612, .iadd, 1), (613, .iaload, 1), (614, .aload_n 0, 1), (615, .iload_n 3, 1), (616, .iconst 2, 1), (617, .iadd, 1), (618, .iaload, 1), (619, .invokevirtual 73, 3), (622, .aload_n 2, 1), (623, .aload_n 0, 1)]
set_option maxRecDepth 20000 in
theorem dlt_11 : ∀ q ∈ dll_11, decode code q.1 = .ok (q.2.1, q.2.2) := by decide +kernel
theorem dL_law_586 : decode code 586 = .ok (.iload_n 3, 1) := dlt_11 (586, .iload_n 3, 1) (List.mem_of_getElem? (i := 0) rfl)
theorem dL_law_587 : decode code 587 = .ok (.iconst 1, 1) := dlt_11 (587, .iconst 1, 1) (List.mem_of_getElem? (i := 1) rfl)
theorem dL_law_588 : decode code 588 = .ok (.iadd, 1) := dlt_11 (588, .iadd, 1) (List.mem_of_getElem? (i := 2) rfl)
theorem dL_law_589 : decode code 589 = .ok (.iaload, 1) := dlt_11 (589, .iaload, 1) (List.mem_of_getElem? (i := 3) rfl)
theorem dL_law_590 : decode code 590 = .ok (.aload_n 0, 1) := dlt_11 (590, .aload_n 0, 1) (List.mem_of_getElem? (i := 4) rfl)
theorem dL_law_591 : decode code 591 = .ok (.iload_n 3, 1) := dlt_11 (591, .iload_n 3, 1) (List.mem_of_getElem? (i := 5) rfl)
theorem dL_law_592 : decode code 592 = .ok (.iconst 2, 1) := dlt_11 (592, .iconst 2, 1) (List.mem_of_getElem? (i := 6) rfl)
theorem dL_law_593 : decode code 593 = .ok (.iadd, 1) := dlt_11 (593, .iadd, 1) (List.mem_of_getElem? (i := 7) rfl)
theorem dL_law_594 : decode code 594 = .ok (.iaload, 1) := dlt_11 (594, .iaload, 1) (List.mem_of_getElem? (i := 8) rfl)
theorem dL_law_595 : decode code 595 = .ok (.aload_n 0, 1) := dlt_11 (595, .aload_n 0, 1) (List.mem_of_getElem? (i := 9) rfl)
theorem dL_law_596 : decode code 596 = .ok (.iload_n 3, 1) := dlt_11 (596, .iload_n 3, 1) (List.mem_of_getElem? (i := 10) rfl)
theorem dL_law_597 : decode code 597 = .ok (.iconst 3, 1) := dlt_11 (597, .iconst 3, 1) (List.mem_of_getElem? (i := 11) rfl)
theorem dL_law_598 : decode code 598 = .ok (.iadd, 1) := dlt_11 (598, .iadd, 1) (List.mem_of_getElem? (i := 12) rfl)
theorem dL_law_599 : decode code 599 = .ok (.iaload, 1) := dlt_11 (599, .iaload, 1) (List.mem_of_getElem? (i := 13) rfl)
theorem dL_law_600 : decode code 600 = .ok (.invokevirtual 72, 3) := dlt_11 (600, .invokevirtual 72, 3) (List.mem_of_getElem? (i := 14) rfl)
theorem dL_law_603 : decode code 603 = .ok (.if_icmp .eq 602, 3) := dlt_11 (603, .if_icmp .eq 602, 3) (List.mem_of_getElem? (i := 15) rfl)
theorem dL_law_606 : decode code 606 = .ok (.iconst 0, 1) := dlt_11 (606, .iconst 0, 1) (List.mem_of_getElem? (i := 16) rfl)
theorem dL_law_607 : decode code 607 = .ok (.ireturn, 1) := dlt_11 (607, .ireturn, 1) (List.mem_of_getElem? (i := 17) rfl)
theorem dL_law_608 : decode code 608 = .ok (.aload_n 1, 1) := dlt_11 (608, .aload_n 1, 1) (List.mem_of_getElem? (i := 18) rfl)
theorem dL_law_609 : decode code 609 = .ok (.aload_n 0, 1) := dlt_11 (609, .aload_n 0, 1) (List.mem_of_getElem? (i := 19) rfl)
theorem dL_law_610 : decode code 610 = .ok (.iload_n 3, 1) := dlt_11 (610, .iload_n 3, 1) (List.mem_of_getElem? (i := 20) rfl)
theorem dL_law_611 : decode code 611 = .ok (.iconst 1, 1) := dlt_11 (611, .iconst 1, 1) (List.mem_of_getElem? (i := 21) rfl)
theorem dL_law_612 : decode code 612 = .ok (.iadd, 1) := dlt_11 (612, .iadd, 1) (List.mem_of_getElem? (i := 22) rfl)
theorem dL_law_613 : decode code 613 = .ok (.iaload, 1) := dlt_11 (613, .iaload, 1) (List.mem_of_getElem? (i := 23) rfl)
theorem dL_law_614 : decode code 614 = .ok (.aload_n 0, 1) := dlt_11 (614, .aload_n 0, 1) (List.mem_of_getElem? (i := 24) rfl)
theorem dL_law_615 : decode code 615 = .ok (.iload_n 3, 1) := dlt_11 (615, .iload_n 3, 1) (List.mem_of_getElem? (i := 25) rfl)
theorem dL_law_616 : decode code 616 = .ok (.iconst 2, 1) := dlt_11 (616, .iconst 2, 1) (List.mem_of_getElem? (i := 26) rfl)
theorem dL_law_617 : decode code 617 = .ok (.iadd, 1) := dlt_11 (617, .iadd, 1) (List.mem_of_getElem? (i := 27) rfl)
theorem dL_law_618 : decode code 618 = .ok (.iaload, 1) := dlt_11 (618, .iaload, 1) (List.mem_of_getElem? (i := 28) rfl)
theorem dL_law_619 : decode code 619 = .ok (.invokevirtual 73, 3) := dlt_11 (619, .invokevirtual 73, 3) (List.mem_of_getElem? (i := 29) rfl)
theorem dL_law_622 : decode code 622 = .ok (.aload_n 2, 1) := dlt_11 (622, .aload_n 2, 1) (List.mem_of_getElem? (i := 30) rfl)
theorem dL_law_623 : decode code 623 = .ok (.aload_n 0, 1) := dlt_11 (623, .aload_n 0, 1) (List.mem_of_getElem? (i := 31) rfl)
def dll_12 : List (Nat × Instr × Nat) := [(624, .iload_n 3, 1), (625, .iconst 1, 1), (626, .iadd, 1), (627, .iaload, 1), (628, .aload_n 0, 1), (629, .iload_n 3, 1), (630, .iconst 2, 1), (631, .iadd, 1), (632, .iaload, 1), (633, .invokevirtual 76, 3), (636, .if_icmp .eq 569, 3), (639, .iconst 0, 1), (640, .ireturn, 1), (641, .aload_n 1, 1), (642, .aload_n 0, 1), (643, .iload_n 3, 1), (644, .iconst 1, 1), (645, .iadd, 1), (646, .iaload, 1), (647, .aload_n 0, 1), (648, .iload_n 3, 1), (649, .iconst 2, 1), (650, .iadd, 1), (651, .iaload, 1), (652, .aload_n 0, 1), (653, .iload_n 3, 1), (654, .iconst 3, 1), (655, .iadd, 1), (656, .iaload, 1), (657, .invokevirtual 77, 3), (660, .aload_n 2, 1), (661, .aload_n 0, 1)]
set_option maxRecDepth 20000 in
theorem dlt_12 : ∀ q ∈ dll_12, decode code q.1 = .ok (q.2.1, q.2.2) := by decide +kernel
theorem dL_law_624 : decode code 624 = .ok (.iload_n 3, 1) := dlt_12 (624, .iload_n 3, 1) (List.mem_of_getElem? (i := 0) rfl)
theorem dL_law_625 : decode code 625 = .ok (.iconst 1, 1) := dlt_12 (625, .iconst 1, 1) (List.mem_of_getElem? (i := 1) rfl)
theorem dL_law_626 : decode code 626 = .ok (.iadd, 1) := dlt_12 (626, .iadd, 1) (List.mem_of_getElem? (i := 2) rfl)
theorem dL_law_627 : decode code 627 = .ok (.iaload, 1) := dlt_12 (627, .iaload, 1) (List.mem_of_getElem? (i := 3) rfl)
theorem dL_law_628 : decode code 628 = .ok (.aload_n 0, 1) := dlt_12 (628, .aload_n 0, 1) (List.mem_of_getElem? (i := 4) rfl)
theorem dL_law_629 : decode code 629 = .ok (.iload_n 3, 1) := dlt_12 (629, .iload_n 3, 1) (List.mem_of_getElem? (i := 5) rfl)
theorem dL_law_630 : decode code 630 = .ok (.iconst 2, 1) := dlt_12 (630, .iconst 2, 1) (List.mem_of_getElem? (i := 6) rfl)
theorem dL_law_631 : decode code 631 = .ok (.iadd, 1) := dlt_12 (631, .iadd, 1) (List.mem_of_getElem? (i := 7) rfl)
theorem dL_law_632 : decode code 632 = .ok (.iaload, 1) := dlt_12 (632, .iaload, 1) (List.mem_of_getElem? (i := 8) rfl)
theorem dL_law_633 : decode code 633 = .ok (.invokevirtual 76, 3) := dlt_12 (633, .invokevirtual 76, 3) (List.mem_of_getElem? (i := 9) rfl)
theorem dL_law_636 : decode code 636 = .ok (.if_icmp .eq 569, 3) := dlt_12 (636, .if_icmp .eq 569, 3) (List.mem_of_getElem? (i := 10) rfl)
theorem dL_law_639 : decode code 639 = .ok (.iconst 0, 1) := dlt_12 (639, .iconst 0, 1) (List.mem_of_getElem? (i := 11) rfl)
theorem dL_law_640 : decode code 640 = .ok (.ireturn, 1) := dlt_12 (640, .ireturn, 1) (List.mem_of_getElem? (i := 12) rfl)
theorem dL_law_641 : decode code 641 = .ok (.aload_n 1, 1) := dlt_12 (641, .aload_n 1, 1) (List.mem_of_getElem? (i := 13) rfl)
theorem dL_law_642 : decode code 642 = .ok (.aload_n 0, 1) := dlt_12 (642, .aload_n 0, 1) (List.mem_of_getElem? (i := 14) rfl)
theorem dL_law_643 : decode code 643 = .ok (.iload_n 3, 1) := dlt_12 (643, .iload_n 3, 1) (List.mem_of_getElem? (i := 15) rfl)
theorem dL_law_644 : decode code 644 = .ok (.iconst 1, 1) := dlt_12 (644, .iconst 1, 1) (List.mem_of_getElem? (i := 16) rfl)
theorem dL_law_645 : decode code 645 = .ok (.iadd, 1) := dlt_12 (645, .iadd, 1) (List.mem_of_getElem? (i := 17) rfl)
theorem dL_law_646 : decode code 646 = .ok (.iaload, 1) := dlt_12 (646, .iaload, 1) (List.mem_of_getElem? (i := 18) rfl)
theorem dL_law_647 : decode code 647 = .ok (.aload_n 0, 1) := dlt_12 (647, .aload_n 0, 1) (List.mem_of_getElem? (i := 19) rfl)
theorem dL_law_648 : decode code 648 = .ok (.iload_n 3, 1) := dlt_12 (648, .iload_n 3, 1) (List.mem_of_getElem? (i := 20) rfl)
theorem dL_law_649 : decode code 649 = .ok (.iconst 2, 1) := dlt_12 (649, .iconst 2, 1) (List.mem_of_getElem? (i := 21) rfl)
theorem dL_law_650 : decode code 650 = .ok (.iadd, 1) := dlt_12 (650, .iadd, 1) (List.mem_of_getElem? (i := 22) rfl)
theorem dL_law_651 : decode code 651 = .ok (.iaload, 1) := dlt_12 (651, .iaload, 1) (List.mem_of_getElem? (i := 23) rfl)
theorem dL_law_652 : decode code 652 = .ok (.aload_n 0, 1) := dlt_12 (652, .aload_n 0, 1) (List.mem_of_getElem? (i := 24) rfl)
theorem dL_law_653 : decode code 653 = .ok (.iload_n 3, 1) := dlt_12 (653, .iload_n 3, 1) (List.mem_of_getElem? (i := 25) rfl)
theorem dL_law_654 : decode code 654 = .ok (.iconst 3, 1) := dlt_12 (654, .iconst 3, 1) (List.mem_of_getElem? (i := 26) rfl)
theorem dL_law_655 : decode code 655 = .ok (.iadd, 1) := dlt_12 (655, .iadd, 1) (List.mem_of_getElem? (i := 27) rfl)
theorem dL_law_656 : decode code 656 = .ok (.iaload, 1) := dlt_12 (656, .iaload, 1) (List.mem_of_getElem? (i := 28) rfl)
theorem dL_law_657 : decode code 657 = .ok (.invokevirtual 77, 3) := dlt_12 (657, .invokevirtual 77, 3) (List.mem_of_getElem? (i := 29) rfl)
theorem dL_law_660 : decode code 660 = .ok (.aload_n 2, 1) := dlt_12 (660, .aload_n 2, 1) (List.mem_of_getElem? (i := 30) rfl)
theorem dL_law_661 : decode code 661 = .ok (.aload_n 0, 1) := dlt_12 (661, .aload_n 0, 1) (List.mem_of_getElem? (i := 31) rfl)
def dll_13 : List (Nat × Instr × Nat) := [(662, .iload_n 3, 1), (663, .iconst 1, 1), (664, .iadd, 1), (665, .iaload, 1), (666, .aload_n 0, 1), (667, .iload_n 3, 1), (668, .iconst 2, 1), (669, .iadd, 1), (670, .iaload, 1), (671, .aload_n 0, 1), (672, .iload_n 3, 1), (673, .iconst 3, 1), (674, .iadd, 1), (675, .iaload, 1), (676, .invokevirtual 81, 3), (679, .lcmp, 1), (680, .ifCond .eq 525, 3), (683, .iconst 0, 1), (684, .ireturn, 1), (685, .aload_n 1, 1), (686, .aload_n 0, 1), (687, .iload_n 3, 1), (688, .iconst 1, 1), (689, .iadd, 1), (690, .iaload, 1), (691, .invokevirtual 82, 3), (694, .aload_n 2, 1), (695, .aload_n 0, 1), (696, .iload_n 3, 1), (697, .iconst 1, 1), (698, .iadd, 1), (699, .iaload, 1)]
set_option maxRecDepth 20000 in
theorem dlt_13 : ∀ q ∈ dll_13, decode code q.1 = .ok (q.2.1, q.2.2) := by decide +kernel
theorem dL_law_662 : decode code 662 = .ok (.iload_n 3, 1) := dlt_13 (662, .iload_n 3, 1) (List.mem_of_getElem? (i := 0) rfl)
theorem dL_law_663 : decode code 663 = .ok (.iconst 1, 1) := dlt_13 (663, .iconst 1, 1) (List.mem_of_getElem? (i := 1) rfl)
theorem dL_law_664 : decode code 664 = .ok (.iadd, 1) := dlt_13 (664, .iadd, 1) (List.mem_of_getElem? (i := 2) rfl)
theorem dL_law_665 : decode code 665 = .ok (.iaload, 1) := dlt_13 (665, .iaload, 1) (List.mem_of_getElem? (i := 3) rfl)
theorem dL_law_666 : decode code 666 = .ok (.aload_n 0, 1) := dlt_13 (666, .aload_n 0, 1) (List.mem_of_getElem? (i := 4) rfl)
theorem dL_law_667 : decode code 667 = .ok (.iload_n 3, 1) := dlt_13 (667, .iload_n 3, 1) (List.mem_of_getElem? (i := 5) rfl)
theorem dL_law_668 : decode code 668 = .ok (.iconst 2, 1) := dlt_13 (668, .iconst 2, 1) (List.mem_of_getElem? (i := 6) rfl)
theorem dL_law_669 : decode code 669 = .ok (.iadd, 1) := dlt_13 (669, .iadd, 1) (List.mem_of_getElem? (i := 7) rfl)
theorem dL_law_670 : decode code 670 = .ok (.iaload, 1) := dlt_13 (670, .iaload, 1) (List.mem_of_getElem? (i := 8) rfl)
theorem dL_law_671 : decode code 671 = .ok (.aload_n 0, 1) := dlt_13 (671, .aload_n 0, 1) (List.mem_of_getElem? (i := 9) rfl)
theorem dL_law_672 : decode code 672 = .ok (.iload_n 3, 1) := dlt_13 (672, .iload_n 3, 1) (List.mem_of_getElem? (i := 10) rfl)
theorem dL_law_673 : decode code 673 = .ok (.iconst 3, 1) := dlt_13 (673, .iconst 3, 1) (List.mem_of_getElem? (i := 11) rfl)
theorem dL_law_674 : decode code 674 = .ok (.iadd, 1) := dlt_13 (674, .iadd, 1) (List.mem_of_getElem? (i := 12) rfl)
theorem dL_law_675 : decode code 675 = .ok (.iaload, 1) := dlt_13 (675, .iaload, 1) (List.mem_of_getElem? (i := 13) rfl)
theorem dL_law_676 : decode code 676 = .ok (.invokevirtual 81, 3) := dlt_13 (676, .invokevirtual 81, 3) (List.mem_of_getElem? (i := 14) rfl)
theorem dL_law_679 : decode code 679 = .ok (.lcmp, 1) := dlt_13 (679, .lcmp, 1) (List.mem_of_getElem? (i := 15) rfl)
theorem dL_law_680 : decode code 680 = .ok (.ifCond .eq 525, 3) := dlt_13 (680, .ifCond .eq 525, 3) (List.mem_of_getElem? (i := 16) rfl)
theorem dL_law_683 : decode code 683 = .ok (.iconst 0, 1) := dlt_13 (683, .iconst 0, 1) (List.mem_of_getElem? (i := 17) rfl)
theorem dL_law_684 : decode code 684 = .ok (.ireturn, 1) := dlt_13 (684, .ireturn, 1) (List.mem_of_getElem? (i := 18) rfl)
theorem dL_law_685 : decode code 685 = .ok (.aload_n 1, 1) := dlt_13 (685, .aload_n 1, 1) (List.mem_of_getElem? (i := 19) rfl)
theorem dL_law_686 : decode code 686 = .ok (.aload_n 0, 1) := dlt_13 (686, .aload_n 0, 1) (List.mem_of_getElem? (i := 20) rfl)
theorem dL_law_687 : decode code 687 = .ok (.iload_n 3, 1) := dlt_13 (687, .iload_n 3, 1) (List.mem_of_getElem? (i := 21) rfl)
theorem dL_law_688 : decode code 688 = .ok (.iconst 1, 1) := dlt_13 (688, .iconst 1, 1) (List.mem_of_getElem? (i := 22) rfl)
theorem dL_law_689 : decode code 689 = .ok (.iadd, 1) := dlt_13 (689, .iadd, 1) (List.mem_of_getElem? (i := 23) rfl)
theorem dL_law_690 : decode code 690 = .ok (.iaload, 1) := dlt_13 (690, .iaload, 1) (List.mem_of_getElem? (i := 24) rfl)
theorem dL_law_691 : decode code 691 = .ok (.invokevirtual 82, 3) := dlt_13 (691, .invokevirtual 82, 3) (List.mem_of_getElem? (i := 25) rfl)
theorem dL_law_694 : decode code 694 = .ok (.aload_n 2, 1) := dlt_13 (694, .aload_n 2, 1) (List.mem_of_getElem? (i := 26) rfl)
theorem dL_law_695 : decode code 695 = .ok (.aload_n 0, 1) := dlt_13 (695, .aload_n 0, 1) (List.mem_of_getElem? (i := 27) rfl)
theorem dL_law_696 : decode code 696 = .ok (.iload_n 3, 1) := dlt_13 (696, .iload_n 3, 1) (List.mem_of_getElem? (i := 28) rfl)
theorem dL_law_697 : decode code 697 = .ok (.iconst 1, 1) := dlt_13 (697, .iconst 1, 1) (List.mem_of_getElem? (i := 29) rfl)
theorem dL_law_698 : decode code 698 = .ok (.iadd, 1) := dlt_13 (698, .iadd, 1) (List.mem_of_getElem? (i := 30) rfl)
theorem dL_law_699 : decode code 699 = .ok (.iaload, 1) := dlt_13 (699, .iaload, 1) (List.mem_of_getElem? (i := 31) rfl)
def dll_14 : List (Nat × Instr × Nat) := [(700, .invokevirtual 86, 3), (703, .lcmp, 1), (704, .ifCond .eq 501, 3), (707, .iconst 0, 1), (708, .ireturn, 1), (709, .aload_n 1, 1), (710, .aload_n 0, 1), (711, .iload_n 3, 1), (712, .iconst 1, 1), (713, .iadd, 1), (714, .iaload, 1), (715, .aload_n 0, 1), (716, .iload_n 3, 1), (717, .iconst 2, 1), (718, .iadd, 1), (719, .iaload, 1), (720, .invokevirtual 87, 3), (723, .aload_n 2, 1), (724, .aload_n 0, 1), (725, .iload_n 3, 1), (726, .iconst 1, 1), (727, .iadd, 1), (728, .iaload, 1), (729, .aload_n 0, 1), (730, .iload_n 3, 1), (731, .iconst 2, 1), (732, .iadd, 1), (733, .iaload, 1), (734, .invokevirtual 90, 3), (737, .if_icmp .eq 468, 3), (740, .iconst 0, 1), (741, .ireturn, 1)]
set_option maxRecDepth 20000 in
theorem dlt_14 : ∀ q ∈ dll_14, decode code q.1 = .ok (q.2.1, q.2.2) := by decide +kernel
theorem dL_law_700 : decode code 700 = .ok (.invokevirtual 86, 3) := dlt_14 (700, .invokevirtual 86, 3) (List.mem_of_getElem? (i := 0) rfl)
theorem dL_law_703 : decode code 703 = .ok (.lcmp, 1) := dlt_14 (703, .lcmp, 1) (List.mem_of_getElem? (i := 1) rfl)
theorem dL_law_704 : decode code 704 = .ok (.ifCond .eq 501, 3) := dlt_14 (704, .ifCond .eq 501, 3) (List.mem_of_getElem? (i := 2) rfl)
theorem dL_law_707 : decode code 707 = .ok (.iconst 0, 1) := dlt_14 (707, .iconst 0, 1) (List.mem_of_getElem? (i := 3) rfl)
theorem dL_law_708 : decode code 708 = .ok (.ireturn, 1) := dlt_14 (708, .ireturn, 1) (List.mem_of_getElem? (i := 4) rfl)
theorem dL_law_709 : decode code 709 = .ok (.aload_n 1, 1) := dlt_14 (709, .aload_n 1, 1) (List.mem_of_getElem? (i := 5) rfl)
theorem dL_law_710 : decode code 710 = .ok (.aload_n 0, 1) := dlt_14 (710, .aload_n 0, 1) (List.mem_of_getElem? (i := 6) rfl)
theorem dL_law_711 : decode code 711 = .ok (.iload_n 3, 1) := dlt_14 (711, .iload_n 3, 1) (List.mem_of_getElem? (i := 7) rfl)
theorem dL_law_712 : decode code 712 = .ok (.iconst 1, 1) := dlt_14 (712, .iconst 1, 1) (List.mem_of_getElem? (i := 8) rfl)
theorem dL_law_713 : decode code 713 = .ok (.iadd, 1) := dlt_14 (713, .iadd, 1) (List.mem_of_getElem? (i := 9) rfl)
theorem dL_law_714 : decode code 714 = .ok (.iaload, 1) := dlt_14 (714, .iaload, 1) (List.mem_of_getElem? (i := 10) rfl)
theorem dL_law_715 : decode code 715 = .ok (.aload_n 0, 1) := dlt_14 (715, .aload_n 0, 1) (List.mem_of_getElem? (i := 11) rfl)
theorem dL_law_716 : decode code 716 = .ok (.iload_n 3, 1) := dlt_14 (716, .iload_n 3, 1) (List.mem_of_getElem? (i := 12) rfl)
theorem dL_law_717 : decode code 717 = .ok (.iconst 2, 1) := dlt_14 (717, .iconst 2, 1) (List.mem_of_getElem? (i := 13) rfl)
theorem dL_law_718 : decode code 718 = .ok (.iadd, 1) := dlt_14 (718, .iadd, 1) (List.mem_of_getElem? (i := 14) rfl)
theorem dL_law_719 : decode code 719 = .ok (.iaload, 1) := dlt_14 (719, .iaload, 1) (List.mem_of_getElem? (i := 15) rfl)
theorem dL_law_720 : decode code 720 = .ok (.invokevirtual 87, 3) := dlt_14 (720, .invokevirtual 87, 3) (List.mem_of_getElem? (i := 16) rfl)
theorem dL_law_723 : decode code 723 = .ok (.aload_n 2, 1) := dlt_14 (723, .aload_n 2, 1) (List.mem_of_getElem? (i := 17) rfl)
theorem dL_law_724 : decode code 724 = .ok (.aload_n 0, 1) := dlt_14 (724, .aload_n 0, 1) (List.mem_of_getElem? (i := 18) rfl)
theorem dL_law_725 : decode code 725 = .ok (.iload_n 3, 1) := dlt_14 (725, .iload_n 3, 1) (List.mem_of_getElem? (i := 19) rfl)
theorem dL_law_726 : decode code 726 = .ok (.iconst 1, 1) := dlt_14 (726, .iconst 1, 1) (List.mem_of_getElem? (i := 20) rfl)
theorem dL_law_727 : decode code 727 = .ok (.iadd, 1) := dlt_14 (727, .iadd, 1) (List.mem_of_getElem? (i := 21) rfl)
theorem dL_law_728 : decode code 728 = .ok (.iaload, 1) := dlt_14 (728, .iaload, 1) (List.mem_of_getElem? (i := 22) rfl)
theorem dL_law_729 : decode code 729 = .ok (.aload_n 0, 1) := dlt_14 (729, .aload_n 0, 1) (List.mem_of_getElem? (i := 23) rfl)
theorem dL_law_730 : decode code 730 = .ok (.iload_n 3, 1) := dlt_14 (730, .iload_n 3, 1) (List.mem_of_getElem? (i := 24) rfl)
theorem dL_law_731 : decode code 731 = .ok (.iconst 2, 1) := dlt_14 (731, .iconst 2, 1) (List.mem_of_getElem? (i := 25) rfl)
theorem dL_law_732 : decode code 732 = .ok (.iadd, 1) := dlt_14 (732, .iadd, 1) (List.mem_of_getElem? (i := 26) rfl)
theorem dL_law_733 : decode code 733 = .ok (.iaload, 1) := dlt_14 (733, .iaload, 1) (List.mem_of_getElem? (i := 27) rfl)
theorem dL_law_734 : decode code 734 = .ok (.invokevirtual 90, 3) := dlt_14 (734, .invokevirtual 90, 3) (List.mem_of_getElem? (i := 28) rfl)
theorem dL_law_737 : decode code 737 = .ok (.if_icmp .eq 468, 3) := dlt_14 (737, .if_icmp .eq 468, 3) (List.mem_of_getElem? (i := 29) rfl)
theorem dL_law_740 : decode code 740 = .ok (.iconst 0, 1) := dlt_14 (740, .iconst 0, 1) (List.mem_of_getElem? (i := 30) rfl)
theorem dL_law_741 : decode code 741 = .ok (.ireturn, 1) := dlt_14 (741, .ireturn, 1) (List.mem_of_getElem? (i := 31) rfl)
def dll_15 : List (Nat × Instr × Nat) := [(742, .aload_n 1, 1), (743, .aload_n 0, 1), (744, .iload_n 3, 1), (745, .iconst 1, 1), (746, .iadd, 1), (747, .iaload, 1), (748, .invokevirtual 91, 3), (751, .aload_n 2, 1), (752, .aload_n 0, 1), (753, .iload_n 3, 1), (754, .iconst 1, 1), (755, .iadd, 1), (756, .iaload, 1), (757, .invokevirtual 94, 3), (760, .if_icmp .eq 445, 3), (763, .iconst 0, 1), (764, .ireturn, 1), (765, .aload_n 1, 1), (766, .aload_n 0, 1), (767, .iload_n 3, 1), (768, .iconst 1, 1), (769, .iadd, 1), (770, .iaload, 1), (771, .aload_n 0, 1), (772, .iload_n 3, 1), (773, .iconst 2, 1), (774, .iadd, 1), (775, .iaload, 1), (776, .invokevirtual 95, 3), (779, .aload_n 2, 1), (780, .aload_n 0, 1), (781, .iload_n 3, 1)]
set_option maxRecDepth 20000 in
theorem dlt_15 : ∀ q ∈ dll_15, decode code q.1 = .ok (q.2.1, q.2.2) := by decide +kernel
theorem dL_law_742 : decode code 742 = .ok (.aload_n 1, 1) := dlt_15 (742, .aload_n 1, 1) (List.mem_of_getElem? (i := 0) rfl)
theorem dL_law_743 : decode code 743 = .ok (.aload_n 0, 1) := dlt_15 (743, .aload_n 0, 1) (List.mem_of_getElem? (i := 1) rfl)
theorem dL_law_744 : decode code 744 = .ok (.iload_n 3, 1) := dlt_15 (744, .iload_n 3, 1) (List.mem_of_getElem? (i := 2) rfl)
theorem dL_law_745 : decode code 745 = .ok (.iconst 1, 1) := dlt_15 (745, .iconst 1, 1) (List.mem_of_getElem? (i := 3) rfl)
theorem dL_law_746 : decode code 746 = .ok (.iadd, 1) := dlt_15 (746, .iadd, 1) (List.mem_of_getElem? (i := 4) rfl)
theorem dL_law_747 : decode code 747 = .ok (.iaload, 1) := dlt_15 (747, .iaload, 1) (List.mem_of_getElem? (i := 5) rfl)
theorem dL_law_748 : decode code 748 = .ok (.invokevirtual 91, 3) := dlt_15 (748, .invokevirtual 91, 3) (List.mem_of_getElem? (i := 6) rfl)
theorem dL_law_751 : decode code 751 = .ok (.aload_n 2, 1) := dlt_15 (751, .aload_n 2, 1) (List.mem_of_getElem? (i := 7) rfl)
theorem dL_law_752 : decode code 752 = .ok (.aload_n 0, 1) := dlt_15 (752, .aload_n 0, 1) (List.mem_of_getElem? (i := 8) rfl)
theorem dL_law_753 : decode code 753 = .ok (.iload_n 3, 1) := dlt_15 (753, .iload_n 3, 1) (List.mem_of_getElem? (i := 9) rfl)
theorem dL_law_754 : decode code 754 = .ok (.iconst 1, 1) := dlt_15 (754, .iconst 1, 1) (List.mem_of_getElem? (i := 10) rfl)
theorem dL_law_755 : decode code 755 = .ok (.iadd, 1) := dlt_15 (755, .iadd, 1) (List.mem_of_getElem? (i := 11) rfl)
theorem dL_law_756 : decode code 756 = .ok (.iaload, 1) := dlt_15 (756, .iaload, 1) (List.mem_of_getElem? (i := 12) rfl)
theorem dL_law_757 : decode code 757 = .ok (.invokevirtual 94, 3) := dlt_15 (757, .invokevirtual 94, 3) (List.mem_of_getElem? (i := 13) rfl)
theorem dL_law_760 : decode code 760 = .ok (.if_icmp .eq 445, 3) := dlt_15 (760, .if_icmp .eq 445, 3) (List.mem_of_getElem? (i := 14) rfl)
theorem dL_law_763 : decode code 763 = .ok (.iconst 0, 1) := dlt_15 (763, .iconst 0, 1) (List.mem_of_getElem? (i := 15) rfl)
theorem dL_law_764 : decode code 764 = .ok (.ireturn, 1) := dlt_15 (764, .ireturn, 1) (List.mem_of_getElem? (i := 16) rfl)
theorem dL_law_765 : decode code 765 = .ok (.aload_n 1, 1) := dlt_15 (765, .aload_n 1, 1) (List.mem_of_getElem? (i := 17) rfl)
theorem dL_law_766 : decode code 766 = .ok (.aload_n 0, 1) := dlt_15 (766, .aload_n 0, 1) (List.mem_of_getElem? (i := 18) rfl)
theorem dL_law_767 : decode code 767 = .ok (.iload_n 3, 1) := dlt_15 (767, .iload_n 3, 1) (List.mem_of_getElem? (i := 19) rfl)
theorem dL_law_768 : decode code 768 = .ok (.iconst 1, 1) := dlt_15 (768, .iconst 1, 1) (List.mem_of_getElem? (i := 20) rfl)
theorem dL_law_769 : decode code 769 = .ok (.iadd, 1) := dlt_15 (769, .iadd, 1) (List.mem_of_getElem? (i := 21) rfl)
theorem dL_law_770 : decode code 770 = .ok (.iaload, 1) := dlt_15 (770, .iaload, 1) (List.mem_of_getElem? (i := 22) rfl)
theorem dL_law_771 : decode code 771 = .ok (.aload_n 0, 1) := dlt_15 (771, .aload_n 0, 1) (List.mem_of_getElem? (i := 23) rfl)
theorem dL_law_772 : decode code 772 = .ok (.iload_n 3, 1) := dlt_15 (772, .iload_n 3, 1) (List.mem_of_getElem? (i := 24) rfl)
theorem dL_law_773 : decode code 773 = .ok (.iconst 2, 1) := dlt_15 (773, .iconst 2, 1) (List.mem_of_getElem? (i := 25) rfl)
theorem dL_law_774 : decode code 774 = .ok (.iadd, 1) := dlt_15 (774, .iadd, 1) (List.mem_of_getElem? (i := 26) rfl)
theorem dL_law_775 : decode code 775 = .ok (.iaload, 1) := dlt_15 (775, .iaload, 1) (List.mem_of_getElem? (i := 27) rfl)
theorem dL_law_776 : decode code 776 = .ok (.invokevirtual 95, 3) := dlt_15 (776, .invokevirtual 95, 3) (List.mem_of_getElem? (i := 28) rfl)
theorem dL_law_779 : decode code 779 = .ok (.aload_n 2, 1) := dlt_15 (779, .aload_n 2, 1) (List.mem_of_getElem? (i := 29) rfl)
theorem dL_law_780 : decode code 780 = .ok (.aload_n 0, 1) := dlt_15 (780, .aload_n 0, 1) (List.mem_of_getElem? (i := 30) rfl)
theorem dL_law_781 : decode code 781 = .ok (.iload_n 3, 1) := dlt_15 (781, .iload_n 3, 1) (List.mem_of_getElem? (i := 31) rfl)
def dll_16 : List (Nat × Instr × Nat) := [(782, .iconst 1, 1), (783, .iadd, 1), (784, .iaload, 1), (785, .aload_n 0, 1), (786, .iload_n 3, 1), (787, .iconst 2, 1), (788, .iadd, 1), (789, .iaload, 1), (790, .invokevirtual 98, 3), (793, .if_icmp .eq 412, 3), (796, .iconst 0, 1), (797, .ireturn, 1), (798, .aload_n 1, 1), (799, .invokevirtual 99, 3), (802, .aload_n 2, 1), (803, .invokevirtual 102, 3), (806, .if_icmp .eq 399, 3), (809, .iconst 0, 1), (810, .ireturn, 1), (811, .aload_n 1, 1), (812, .aload_n 0, 1), (813, .iload_n 3, 1), (814, .iconst 1, 1), (815, .iadd, 1), (816, .iaload, 1), (817, .aload_n 0, 1), (818, .iload_n 3, 1), (819, .iconst 2, 1), (820, .iadd, 1), (821, .iaload, 1), (822, .invokevirtual 103, 3), (825, .aload_n 2, 1)]
set_option maxRecDepth 20000 in
theorem dlt_16 : ∀ q ∈ dll_16, decode code q.1 = .ok (q.2.1, q.2.2) := by decide +kernel
theorem dL_law_782 : decode code 782 = .ok (.iconst 1, 1) := dlt_16 (782, .iconst 1, 1) (List.mem_of_getElem? (i := 0) rfl)
theorem dL_law_783 : decode code 783 = .ok (.iadd, 1) := dlt_16 (783, .iadd, 1) (List.mem_of_getElem? (i := 1) rfl)
theorem dL_law_784 : decode code 784 = .ok (.iaload, 1) := dlt_16 (784, .iaload, 1) (List.mem_of_getElem? (i := 2) rfl)
theorem dL_law_785 : decode code 785 = .ok (.aload_n 0, 1) := dlt_16 (785, .aload_n 0, 1) (List.mem_of_getElem? (i := 3) rfl)
theorem dL_law_786 : decode code 786 = .ok (.iload_n 3, 1) := dlt_16 (786, .iload_n 3, 1) (List.mem_of_getElem? (i := 4) rfl)
theorem dL_law_787 : decode code 787 = .ok (.iconst 2, 1) := dlt_16 (787, .iconst 2, 1) (List.mem_of_getElem? (i := 5) rfl)
theorem dL_law_788 : decode code 788 = .ok (.iadd, 1) := dlt_16 (788, .iadd, 1) (List.mem_of_getElem? (i := 6) rfl)
theorem dL_law_789 : decode code 789 = .ok (.iaload, 1) := dlt_16 (789, .iaload, 1) (List.mem_of_getElem? (i := 7) rfl)
theorem dL_law_790 : decode code 790 = .ok (.invokevirtual 98, 3) := dlt_16 (790, .invokevirtual 98, 3) (List.mem_of_getElem? (i := 8) rfl)
theorem dL_law_793 : decode code 793 = .ok (.if_icmp .eq 412, 3) := dlt_16 (793, .if_icmp .eq 412, 3) (List.mem_of_getElem? (i := 9) rfl)
theorem dL_law_796 : decode code 796 = .ok (.iconst 0, 1) := dlt_16 (796, .iconst 0, 1) (List.mem_of_getElem? (i := 10) rfl)
theorem dL_law_797 : decode code 797 = .ok (.ireturn, 1) := dlt_16 (797, .ireturn, 1) (List.mem_of_getElem? (i := 11) rfl)
theorem dL_law_798 : decode code 798 = .ok (.aload_n 1, 1) := dlt_16 (798, .aload_n 1, 1) (List.mem_of_getElem? (i := 12) rfl)
theorem dL_law_799 : decode code 799 = .ok (.invokevirtual 99, 3) := dlt_16 (799, .invokevirtual 99, 3) (List.mem_of_getElem? (i := 13) rfl)
theorem dL_law_802 : decode code 802 = .ok (.aload_n 2, 1) := dlt_16 (802, .aload_n 2, 1) (List.mem_of_getElem? (i := 14) rfl)
theorem dL_law_803 : decode code 803 = .ok (.invokevirtual 102, 3) := dlt_16 (803, .invokevirtual 102, 3) (List.mem_of_getElem? (i := 15) rfl)
theorem dL_law_806 : decode code 806 = .ok (.if_icmp .eq 399, 3) := dlt_16 (806, .if_icmp .eq 399, 3) (List.mem_of_getElem? (i := 16) rfl)
theorem dL_law_809 : decode code 809 = .ok (.iconst 0, 1) := dlt_16 (809, .iconst 0, 1) (List.mem_of_getElem? (i := 17) rfl)
theorem dL_law_810 : decode code 810 = .ok (.ireturn, 1) := dlt_16 (810, .ireturn, 1) (List.mem_of_getElem? (i := 18) rfl)
theorem dL_law_811 : decode code 811 = .ok (.aload_n 1, 1) := dlt_16 (811, .aload_n 1, 1) (List.mem_of_getElem? (i := 19) rfl)
theorem dL_law_812 : decode code 812 = .ok (.aload_n 0, 1) := dlt_16 (812, .aload_n 0, 1) (List.mem_of_getElem? (i := 20) rfl)
theorem dL_law_813 : decode code 813 = .ok (.iload_n 3, 1) := dlt_16 (813, .iload_n 3, 1) (List.mem_of_getElem? (i := 21) rfl)
theorem dL_law_814 : decode code 814 = .ok (.iconst 1, 1) := dlt_16 (814, .iconst 1, 1) (List.mem_of_getElem? (i := 22) rfl)
theorem dL_law_815 : decode code 815 = .ok (.iadd, 1) := dlt_16 (815, .iadd, 1) (List.mem_of_getElem? (i := 23) rfl)
theorem dL_law_816 : decode code 816 = .ok (.iaload, 1) := dlt_16 (816, .iaload, 1) (List.mem_of_getElem? (i := 24) rfl)
theorem dL_law_817 : decode code 817 = .ok (.aload_n 0, 1) := dlt_16 (817, .aload_n 0, 1) (List.mem_of_getElem? (i := 25) rfl)
theorem dL_law_818 : decode code 818 = .ok (.iload_n 3, 1) := dlt_16 (818, .iload_n 3, 1) (List.mem_of_getElem? (i := 26) rfl)
theorem dL_law_819 : decode code 819 = .ok (.iconst 2, 1) := dlt_16 (819, .iconst 2, 1) (List.mem_of_getElem? (i := 27) rfl)
theorem dL_law_820 : decode code 820 = .ok (.iadd, 1) := dlt_16 (820, .iadd, 1) (List.mem_of_getElem? (i := 28) rfl)
theorem dL_law_821 : decode code 821 = .ok (.iaload, 1) := dlt_16 (821, .iaload, 1) (List.mem_of_getElem? (i := 29) rfl)
theorem dL_law_822 : decode code 822 = .ok (.invokevirtual 103, 3) := dlt_16 (822, .invokevirtual 103, 3) (List.mem_of_getElem? (i := 30) rfl)
theorem dL_law_825 : decode code 825 = .ok (.aload_n 2, 1) := dlt_16 (825, .aload_n 2, 1) (List.mem_of_getElem? (i := 31) rfl)
def dll_17 : List (Nat × Instr × Nat) := [(826, .aload_n 0, 1), (827, .iload_n 3, 1), (828, .iconst 1, 1), (829, .iadd, 1), (830, .iaload, 1), (831, .aload_n 0, 1), (832, .iload_n 3, 1), (833, .iconst 2, 1), (834, .iadd, 1), (835, .iaload, 1), (836, .invokevirtual 106, 3), (839, .if_icmp .eq 366, 3), (842, .iconst 0, 1), (843, .ireturn, 1), (844, .aload_n 1, 1), (845, .invokevirtual 107, 3), (848, .aload_n 2, 1), (849, .invokevirtual 110, 3), (852, .if_icmp .eq 353, 3), (855, .iconst 0, 1), (856, .ireturn, 1), (857, .aload_n 1, 1), (858, .invokevirtual 111, 3), (861, .aload_n 2, 1), (862, .invokevirtual 114, 3), (865, .if_icmp .eq 340, 3), (868, .iconst 0, 1), (869, .ireturn, 1), (870, .aload_n 1, 1), (871, .aload_n 0, 1), (872, .iload_n 3, 1), (873, .iconst 1, 1)]
set_option maxRecDepth 20000 in
theorem dlt_17 : ∀ q ∈ dll_17, decode code q.1 = .ok (q.2.1, q.2.2) := by decide +kernel
theorem dL_law_826 : decode code 826 = .ok (.aload_n 0, 1) := dlt_17 (826, .aload_n 0, 1) (List.mem_of_getElem? (i := 0) rfl)
theorem dL_law_827 : decode code 827 = .ok (.iload_n 3, 1) := dlt_17 (827, .iload_n 3, 1) (List.mem_of_getElem? (i := 1) rfl)
theorem dL_law_828 : decode code 828 = .ok (.iconst 1, 1) := dlt_17 (828, .iconst 1, 1) (List.mem_of_getElem? (i := 2) rfl)
theorem dL_law_829 : decode code 829 = .ok (.iadd, 1) := dlt_17 (829, .iadd, 1) (List.mem_of_getElem? (i := 3) rfl)
theorem dL_law_830 : decode code 830 = .ok (.iaload, 1) := dlt_17 (830, .iaload, 1) (List.mem_of_getElem? (i := 4) rfl)
theorem dL_law_831 : decode code 831 = .ok (.aload_n 0, 1) := dlt_17 (831, .aload_n 0, 1) (List.mem_of_getElem? (i := 5) rfl)
theorem dL_law_832 : decode code 832 = .ok (.iload_n 3, 1) := dlt_17 (832, .iload_n 3, 1) (List.mem_of_getElem? (i := 6) rfl)
theorem dL_law_833 : decode code 833 = .ok (.iconst 2, 1) := dlt_17 (833, .iconst 2, 1) (List.mem_of_getElem? (i := 7) rfl)
theorem dL_law_834 : decode code 834 = .ok (.iadd, 1) := dlt_17 (834, .iadd, 1) (List.mem_of_getElem? (i := 8) rfl)
theorem dL_law_835 : decode code 835 = .ok (.iaload, 1) := dlt_17 (835, .iaload, 1) (List.mem_of_getElem? (i := 9) rfl)
theorem dL_law_836 : decode code 836 = .ok (.invokevirtual 106, 3) := dlt_17 (836, .invokevirtual 106, 3) (List.mem_of_getElem? (i := 10) rfl)
theorem dL_law_839 : decode code 839 = .ok (.if_icmp .eq 366, 3) := dlt_17 (839, .if_icmp .eq 366, 3) (List.mem_of_getElem? (i := 11) rfl)
theorem dL_law_842 : decode code 842 = .ok (.iconst 0, 1) := dlt_17 (842, .iconst 0, 1) (List.mem_of_getElem? (i := 12) rfl)
theorem dL_law_843 : decode code 843 = .ok (.ireturn, 1) := dlt_17 (843, .ireturn, 1) (List.mem_of_getElem? (i := 13) rfl)
theorem dL_law_844 : decode code 844 = .ok (.aload_n 1, 1) := dlt_17 (844, .aload_n 1, 1) (List.mem_of_getElem? (i := 14) rfl)
theorem dL_law_845 : decode code 845 = .ok (.invokevirtual 107, 3) := dlt_17 (845, .invokevirtual 107, 3) (List.mem_of_getElem? (i := 15) rfl)
theorem dL_law_848 : decode code 848 = .ok (.aload_n 2, 1) := dlt_17 (848, .aload_n 2, 1) (List.mem_of_getElem? (i := 16) rfl)
theorem dL_law_849 : decode code 849 = .ok (.invokevirtual 110, 3) := dlt_17 (849, .invokevirtual 110, 3) (List.mem_of_getElem? (i := 17) rfl)
theorem dL_law_852 : decode code 852 = .ok (.if_icmp .eq 353, 3) := dlt_17 (852, .if_icmp .eq 353, 3) (List.mem_of_getElem? (i := 18) rfl)
theorem dL_law_855 : decode code 855 = .ok (.iconst 0, 1) := dlt_17 (855, .iconst 0, 1) (List.mem_of_getElem? (i := 19) rfl)
theorem dL_law_856 : decode code 856 = .ok (.ireturn, 1) := dlt_17 (856, .ireturn, 1) (List.mem_of_getElem? (i := 20) rfl)
theorem dL_law_857 : decode code 857 = .ok (.aload_n 1, 1) := dlt_17 (857, .aload_n 1, 1) (List.mem_of_getElem? (i := 21) rfl)
theorem dL_law_858 : decode code 858 = .ok (.invokevirtual 111, 3) := dlt_17 (858, .invokevirtual 111, 3) (List.mem_of_getElem? (i := 22) rfl)
theorem dL_law_861 : decode code 861 = .ok (.aload_n 2, 1) := dlt_17 (861, .aload_n 2, 1) (List.mem_of_getElem? (i := 23) rfl)
theorem dL_law_862 : decode code 862 = .ok (.invokevirtual 114, 3) := dlt_17 (862, .invokevirtual 114, 3) (List.mem_of_getElem? (i := 24) rfl)
theorem dL_law_865 : decode code 865 = .ok (.if_icmp .eq 340, 3) := dlt_17 (865, .if_icmp .eq 340, 3) (List.mem_of_getElem? (i := 25) rfl)
theorem dL_law_868 : decode code 868 = .ok (.iconst 0, 1) := dlt_17 (868, .iconst 0, 1) (List.mem_of_getElem? (i := 26) rfl)
theorem dL_law_869 : decode code 869 = .ok (.ireturn, 1) := dlt_17 (869, .ireturn, 1) (List.mem_of_getElem? (i := 27) rfl)
theorem dL_law_870 : decode code 870 = .ok (.aload_n 1, 1) := dlt_17 (870, .aload_n 1, 1) (List.mem_of_getElem? (i := 28) rfl)
theorem dL_law_871 : decode code 871 = .ok (.aload_n 0, 1) := dlt_17 (871, .aload_n 0, 1) (List.mem_of_getElem? (i := 29) rfl)
theorem dL_law_872 : decode code 872 = .ok (.iload_n 3, 1) := dlt_17 (872, .iload_n 3, 1) (List.mem_of_getElem? (i := 30) rfl)
theorem dL_law_873 : decode code 873 = .ok (.iconst 1, 1) := dlt_17 (873, .iconst 1, 1) (List.mem_of_getElem? (i := 31) rfl)
def dll_18 : List (Nat × Instr × Nat) := [(874, .iadd, 1), (875, .iaload, 1), (876, .aload_n 0, 1), (877, .iload_n 3, 1), (878, .iconst 2, 1), (879, .iadd, 1), (880, .iaload, 1), (881, .aload_n 0, 1), (882, .iload_n 3, 1), (883, .iconst 3, 1), (884, .iadd, 1), (885, .iaload, 1), (886, .invokevirtual 115, 3), (889, .aload_n 2, 1), (890, .aload_n 0, 1), (891, .iload_n 3, 1), (892, .iconst 1, 1), (893, .iadd, 1), (894, .iaload, 1), (895, .aload_n 0, 1), (896, .iload_n 3, 1), (897, .iconst 2, 1), (898, .iadd, 1), (899, .iaload, 1), (900, .aload_n 0, 1), (901, .iload_n 3, 1), (902, .iconst 3, 1), (903, .iadd, 1), (904, .iaload, 1), (905, .invokevirtual 118, 3), (908, .if_icmp .eq 297, 3), (911, .iconst 0, 1)]
set_option maxRecDepth 20000 in
theorem dlt_18 : ∀ q ∈ dll_18, decode code q.1 = .ok (q.2.1, q.2.2) := by decide +kernel
theorem dL_law_874 : decode code 874 = .ok (.iadd, 1) := dlt_18 (874, .iadd, 1) (List.mem_of_getElem? (i := 0) rfl)
theorem dL_law_875 : decode code 875 = .ok (.iaload, 1) := dlt_18 (875, .iaload, 1) (List.mem_of_getElem? (i := 1) rfl)
theorem dL_law_876 : decode code 876 = .ok (.aload_n 0, 1) := dlt_18 (876, .aload_n 0, 1) (List.mem_of_getElem? (i := 2) rfl)
theorem dL_law_877 : decode code 877 = .ok (.iload_n 3, 1) := dlt_18 (877, .iload_n 3, 1) (List.mem_of_getElem? (i := 3) rfl)
theorem dL_law_878 : decode code 878 = .ok (.iconst 2, 1) := dlt_18 (878, .iconst 2, 1) (List.mem_of_getElem? (i := 4) rfl)
theorem dL_law_879 : decode code 879 = .ok (.iadd, 1) := dlt_18 (879, .iadd, 1) (List.mem_of_getElem? (i := 5) rfl)
theorem dL_law_880 : decode code 880 = .ok (.iaload, 1) := dlt_18 (880, .iaload, 1) (List.mem_of_getElem? (i := 6) rfl)
theorem dL_law_881 : decode code 881 = .ok (.aload_n 0, 1) := dlt_18 (881, .aload_n 0, 1) (List.mem_of_getElem? (i := 7) rfl)
theorem dL_law_882 : decode code 882 = .ok (.iload_n 3, 1) := dlt_18 (882, .iload_n 3, 1) (List.mem_of_getElem? (i := 8) rfl)
theorem dL_law_883 : decode code 883 = .ok (.iconst 3, 1) := dlt_18 (883, .iconst 3, 1) (List.mem_of_getElem? (i := 9) rfl)
theorem dL_law_884 : decode code 884 = .ok (.iadd, 1) := dlt_18 (884, .iadd, 1) (List.mem_of_getElem? (i := 10) rfl)
theorem dL_law_885 : decode code 885 = .ok (.iaload, 1) := dlt_18 (885, .iaload, 1) (List.mem_of_getElem? (i := 11) rfl)
theorem dL_law_886 : decode code 886 = .ok (.invokevirtual 115, 3) := dlt_18 (886, .invokevirtual 115, 3) (List.mem_of_getElem? (i := 12) rfl)
theorem dL_law_889 : decode code 889 = .ok (.aload_n 2, 1) := dlt_18 (889, .aload_n 2, 1) (List.mem_of_getElem? (i := 13) rfl)
theorem dL_law_890 : decode code 890 = .ok (.aload_n 0, 1) := dlt_18 (890, .aload_n 0, 1) (List.mem_of_getElem? (i := 14) rfl)
theorem dL_law_891 : decode code 891 = .ok (.iload_n 3, 1) := dlt_18 (891, .iload_n 3, 1) (List.mem_of_getElem? (i := 15) rfl)
theorem dL_law_892 : decode code 892 = .ok (.iconst 1, 1) := dlt_18 (892, .iconst 1, 1) (List.mem_of_getElem? (i := 16) rfl)
theorem dL_law_893 : decode code 893 = .ok (.iadd, 1) := dlt_18 (893, .iadd, 1) (List.mem_of_getElem? (i := 17) rfl)
theorem dL_law_894 : decode code 894 = .ok (.iaload, 1) := dlt_18 (894, .iaload, 1) (List.mem_of_getElem? (i := 18) rfl)
theorem dL_law_895 : decode code 895 = .ok (.aload_n 0, 1) := dlt_18 (895, .aload_n 0, 1) (List.mem_of_getElem? (i := 19) rfl)
theorem dL_law_896 : decode code 896 = .ok (.iload_n 3, 1) := dlt_18 (896, .iload_n 3, 1) (List.mem_of_getElem? (i := 20) rfl)
theorem dL_law_897 : decode code 897 = .ok (.iconst 2, 1) := dlt_18 (897, .iconst 2, 1) (List.mem_of_getElem? (i := 21) rfl)
theorem dL_law_898 : decode code 898 = .ok (.iadd, 1) := dlt_18 (898, .iadd, 1) (List.mem_of_getElem? (i := 22) rfl)
theorem dL_law_899 : decode code 899 = .ok (.iaload, 1) := dlt_18 (899, .iaload, 1) (List.mem_of_getElem? (i := 23) rfl)
theorem dL_law_900 : decode code 900 = .ok (.aload_n 0, 1) := dlt_18 (900, .aload_n 0, 1) (List.mem_of_getElem? (i := 24) rfl)
theorem dL_law_901 : decode code 901 = .ok (.iload_n 3, 1) := dlt_18 (901, .iload_n 3, 1) (List.mem_of_getElem? (i := 25) rfl)
theorem dL_law_902 : decode code 902 = .ok (.iconst 3, 1) := dlt_18 (902, .iconst 3, 1) (List.mem_of_getElem? (i := 26) rfl)
theorem dL_law_903 : decode code 903 = .ok (.iadd, 1) := dlt_18 (903, .iadd, 1) (List.mem_of_getElem? (i := 27) rfl)
theorem dL_law_904 : decode code 904 = .ok (.iaload, 1) := dlt_18 (904, .iaload, 1) (List.mem_of_getElem? (i := 28) rfl)
theorem dL_law_905 : decode code 905 = .ok (.invokevirtual 118, 3) := dlt_18 (905, .invokevirtual 118, 3) (List.mem_of_getElem? (i := 29) rfl)
theorem dL_law_908 : decode code 908 = .ok (.if_icmp .eq 297, 3) := dlt_18 (908, .if_icmp .eq 297, 3) (List.mem_of_getElem? (i := 30) rfl)
theorem dL_law_911 : decode code 911 = .ok (.iconst 0, 1) := dlt_18 (911, .iconst 0, 1) (List.mem_of_getElem? (i := 31) rfl)
def dll_19 : List (Nat × Instr × Nat) := [(912, .ireturn, 1), (913, .aload_n 1, 1), (914, .aload_n 0, 1), (915, .iload_n 3, 1), (916, .iconst 1, 1), (917, .iadd, 1), (918, .iaload, 1), (919, .invokevirtual 119, 3), (922, .aload_n 2, 1), (923, .aload_n 0, 1), (924, .iload_n 3, 1), (925, .iconst 1, 1), (926, .iadd, 1), (927, .iaload, 1), (928, .invokevirtual 122, 3), (931, .if_icmp .eq 274, 3), (934, .iconst 0, 1), (935, .ireturn, 1), (936, .aload_n 1, 1), (937, .aload_n 0, 1), (938, .iload_n 3, 1), (939, .iconst 1, 1), (940, .iadd, 1), (941, .iaload, 1), (942, .aload_n 0, 1), (943, .iload_n 3, 1), (944, .iconst 2, 1), (945, .iadd, 1), (946, .iaload, 1), (947, .invokevirtual 123, 3), (950, .aload_n 2, 1), (951, .aload_n 0, 1)]
set_option maxRecDepth 20000 in
theorem dlt_19 : ∀ q ∈ dll_19, decode code q.1 = .ok (q.2.1, q.2.2) := by decide +kernel
theorem dL_law_912 : decode code 912 = .ok (.ireturn, 1) := dlt_19 (912, .ireturn, 1) (List.mem_of_getElem? (i := 0) rfl)
theorem dL_law_913 : decode code 913 = .ok (.aload_n 1, 1) := dlt_19 (913, .aload_n 1, 1) (List.mem_of_getElem? (i := 1) rfl)
theorem dL_law_914 : decode code 914 = .ok (.aload_n 0, 1) := dlt_19 (914, .aload_n 0, 1) (List.mem_of_getElem? (i := 2) rfl)
theorem dL_law_915 : decode code 915 = .ok (.iload_n 3, 1) := dlt_19 (915, .iload_n 3, 1) (List.mem_of_getElem? (i := 3) rfl)
theorem dL_law_916 : decode code 916 = .ok (.iconst 1, 1) := dlt_19 (916, .iconst 1, 1) (List.mem_of_getElem? (i := 4) rfl)
theorem dL_law_917 : decode code 917 = .ok (.iadd, 1) := dlt_19 (917, .iadd, 1) (List.mem_of_getElem? (i := 5) rfl)
theorem dL_law_918 : decode code 918 = .ok (.iaload, 1) := dlt_19 (918, .iaload, 1) (List.mem_of_getElem? (i := 6) rfl)
theorem dL_law_919 : decode code 919 = .ok (.invokevirtual 119, 3) := dlt_19 (919, .invokevirtual 119, 3) (List.mem_of_getElem? (i := 7) rfl)
theorem dL_law_922 : decode code 922 = .ok (.aload_n 2, 1) := dlt_19 (922, .aload_n 2, 1) (List.mem_of_getElem? (i := 8) rfl)
theorem dL_law_923 : decode code 923 = .ok (.aload_n 0, 1) := dlt_19 (923, .aload_n 0, 1) (List.mem_of_getElem? (i := 9) rfl)
theorem dL_law_924 : decode code 924 = .ok (.iload_n 3, 1) := dlt_19 (924, .iload_n 3, 1) (List.mem_of_getElem? (i := 10) rfl)
theorem dL_law_925 : decode code 925 = .ok (.iconst 1, 1) := dlt_19 (925, .iconst 1, 1) (List.mem_of_getElem? (i := 11) rfl)
theorem dL_law_926 : decode code 926 = .ok (.iadd, 1) := dlt_19 (926, .iadd, 1) (List.mem_of_getElem? (i := 12) rfl)
theorem dL_law_927 : decode code 927 = .ok (.iaload, 1) := dlt_19 (927, .iaload, 1) (List.mem_of_getElem? (i := 13) rfl)
theorem dL_law_928 : decode code 928 = .ok (.invokevirtual 122, 3) := dlt_19 (928, .invokevirtual 122, 3) (List.mem_of_getElem? (i := 14) rfl)
theorem dL_law_931 : decode code 931 = .ok (.if_icmp .eq 274, 3) := dlt_19 (931, .if_icmp .eq 274, 3) (List.mem_of_getElem? (i := 15) rfl)
theorem dL_law_934 : decode code 934 = .ok (.iconst 0, 1) := dlt_19 (934, .iconst 0, 1) (List.mem_of_getElem? (i := 16) rfl)
theorem dL_law_935 : decode code 935 = .ok (.ireturn, 1) := dlt_19 (935, .ireturn, 1) (List.mem_of_getElem? (i := 17) rfl)
theorem dL_law_936 : decode code 936 = .ok (.aload_n 1, 1) := dlt_19 (936, .aload_n 1, 1) (List.mem_of_getElem? (i := 18) rfl)
theorem dL_law_937 : decode code 937 = .ok (.aload_n 0, 1) := dlt_19 (937, .aload_n 0, 1) (List.mem_of_getElem? (i := 19) rfl)
theorem dL_law_938 : decode code 938 = .ok (.iload_n 3, 1) := dlt_19 (938, .iload_n 3, 1) (List.mem_of_getElem? (i := 20) rfl)
theorem dL_law_939 : decode code 939 = .ok (.iconst 1, 1) := dlt_19 (939, .iconst 1, 1) (List.mem_of_getElem? (i := 21) rfl)
theorem dL_law_940 : decode code 940 = .ok (.iadd, 1) := dlt_19 (940, .iadd, 1) (List.mem_of_getElem? (i := 22) rfl)
theorem dL_law_941 : decode code 941 = .ok (.iaload, 1) := dlt_19 (941, .iaload, 1) (List.mem_of_getElem? (i := 23) rfl)
theorem dL_law_942 : decode code 942 = .ok (.aload_n 0, 1) := dlt_19 (942, .aload_n 0, 1) (List.mem_of_getElem? (i := 24) rfl)
theorem dL_law_943 : decode code 943 = .ok (.iload_n 3, 1) := dlt_19 (943, .iload_n 3, 1) (List.mem_of_getElem? (i := 25) rfl)
theorem dL_law_944 : decode code 944 = .ok (.iconst 2, 1) := dlt_19 (944, .iconst 2, 1) (List.mem_of_getElem? (i := 26) rfl)
theorem dL_law_945 : decode code 945 = .ok (.iadd, 1) := dlt_19 (945, .iadd, 1) (List.mem_of_getElem? (i := 27) rfl)
theorem dL_law_946 : decode code 946 = .ok (.iaload, 1) := dlt_19 (946, .iaload, 1) (List.mem_of_getElem? (i := 28) rfl)
theorem dL_law_947 : decode code 947 = .ok (.invokevirtual 123, 3) := dlt_19 (947, .invokevirtual 123, 3) (List.mem_of_getElem? (i := 29) rfl)
theorem dL_law_950 : decode code 950 = .ok (.aload_n 2, 1) := dlt_19 (950, .aload_n 2, 1) (List.mem_of_getElem? (i := 30) rfl)
theorem dL_law_951 : decode code 951 = .ok (.aload_n 0, 1) := dlt_19 (951, .aload_n 0, 1) (List.mem_of_getElem? (i := 31) rfl)
def dll_20 : List (Nat × Instr × Nat) := [(952, .iload_n 3, 1), (953, .iconst 1, 1), (954, .iadd, 1), (955, .iaload, 1), (956, .aload_n 0, 1), (957, .iload_n 3, 1), (958, .iconst 2, 1), (959, .iadd, 1), (960, .iaload, 1), (961, .invokevirtual 126, 3), (964, .if_icmp .eq 241, 3), (967, .iconst 0, 1), (968, .ireturn, 1), (969, .aload_n 1, 1), (970, .aload_n 0, 1), (971, .iload_n 3, 1), (972, .iconst 1, 1), (973, .iadd, 1), (974, .iaload, 1), (975, .invokevirtual 127, 3), (978, .aload_n 2, 1), (979, .aload_n 0, 1), (980, .iload_n 3, 1), (981, .iconst 1, 1), (982, .iadd, 1), (983, .iaload, 1), (984, .invokevirtual 130, 3), (987, .if_icmp .eq 218, 3), (990, .iconst 0, 1), (991, .ireturn, 1), (992, .aload_n 1, 1), (993, .aload_n 0, 1)]
set_option maxRecDepth 20000 in
theorem dlt_20 : ∀ q ∈ dll_20, decode code q.1 = .ok (q.2.1, q.2.2) := by decide +kernel
theorem dL_law_952 : decode code 952 = .ok (.iload_n 3, 1) := dlt_20 (952, .iload_n 3, 1) (List.mem_of_getElem? (i := 0) rfl)
theorem dL_law_953 : decode code 953 = .ok (.iconst 1, 1) := dlt_20 (953, .iconst 1, 1) (List.mem_of_getElem? (i := 1) rfl)
theorem dL_law_954 : decode code 954 = .ok (.iadd, 1) := dlt_20 (954, .iadd, 1) (List.mem_of_getElem? (i := 2) rfl)
theorem dL_law_955 : decode code 955 = .ok (.iaload, 1) := dlt_20 (955, .iaload, 1) (List.mem_of_getElem? (i := 3) rfl)
theorem dL_law_956 : decode code 956 = .ok (.aload_n 0, 1) := dlt_20 (956, .aload_n 0, 1) (List.mem_of_getElem? (i := 4) rfl)
theorem dL_law_957 : decode code 957 = .ok (.iload_n 3, 1) := dlt_20 (957, .iload_n 3, 1) (List.mem_of_getElem? (i := 5) rfl)
theorem dL_law_958 : decode code 958 = .ok (.iconst 2, 1) := dlt_20 (958, .iconst 2, 1) (List.mem_of_getElem? (i := 6) rfl)
theorem dL_law_959 : decode code 959 = .ok (.iadd, 1) := dlt_20 (959, .iadd, 1) (List.mem_of_getElem? (i := 7) rfl)
theorem dL_law_960 : decode code 960 = .ok (.iaload, 1) := dlt_20 (960, .iaload, 1) (List.mem_of_getElem? (i := 8) rfl)
theorem dL_law_961 : decode code 961 = .ok (.invokevirtual 126, 3) := dlt_20 (961, .invokevirtual 126, 3) (List.mem_of_getElem? (i := 9) rfl)
theorem dL_law_964 : decode code 964 = .ok (.if_icmp .eq 241, 3) := dlt_20 (964, .if_icmp .eq 241, 3) (List.mem_of_getElem? (i := 10) rfl)
theorem dL_law_967 : decode code 967 = .ok (.iconst 0, 1) := dlt_20 (967, .iconst 0, 1) (List.mem_of_getElem? (i := 11) rfl)
theorem dL_law_968 : decode code 968 = .ok (.ireturn, 1) := dlt_20 (968, .ireturn, 1) (List.mem_of_getElem? (i := 12) rfl)
theorem dL_law_969 : decode code 969 = .ok (.aload_n 1, 1) := dlt_20 (969, .aload_n 1, 1) (List.mem_of_getElem? (i := 13) rfl)
theorem dL_law_970 : decode code 970 = .ok (.aload_n 0, 1) := dlt_20 (970, .aload_n 0, 1) (List.mem_of_getElem? (i := 14) rfl)
theorem dL_law_971 : decode code 971 = .ok (.iload_n 3, 1) := dlt_20 (971, .iload_n 3, 1) (List.mem_of_getElem? (i := 15) rfl)
theorem dL_law_972 : decode code 972 = .ok (.iconst 1, 1) := dlt_20 (972, .iconst 1, 1) (List.mem_of_getElem? (i := 16) rfl)
theorem dL_law_973 : decode code 973 = .ok (.iadd, 1) := dlt_20 (973, .iadd, 1) (List.mem_of_getElem? (i := 17) rfl)
theorem dL_law_974 : decode code 974 = .ok (.iaload, 1) := dlt_20 (974, .iaload, 1) (List.mem_of_getElem? (i := 18) rfl)
theorem dL_law_975 : decode code 975 = .ok (.invokevirtual 127, 3) := dlt_20 (975, .invokevirtual 127, 3) (List.mem_of_getElem? (i := 19) rfl)
theorem dL_law_978 : decode code 978 = .ok (.aload_n 2, 1) := dlt_20 (978, .aload_n 2, 1) (List.mem_of_getElem? (i := 20) rfl)
theorem dL_law_979 : decode code 979 = .ok (.aload_n 0, 1) := dlt_20 (979, .aload_n 0, 1) (List.mem_of_getElem? (i := 21) rfl)
theorem dL_law_980 : decode code 980 = .ok (.iload_n 3, 1) := dlt_20 (980, .iload_n 3, 1) (List.mem_of_getElem? (i := 22) rfl)
theorem dL_law_981 : decode code 981 = .ok (.iconst 1, 1) := dlt_20 (981, .iconst 1, 1) (List.mem_of_getElem? (i := 23) rfl)
theorem dL_law_982 : decode code 982 = .ok (.iadd, 1) := dlt_20 (982, .iadd, 1) (List.mem_of_getElem? (i := 24) rfl)
theorem dL_law_983 : decode code 983 = .ok (.iaload, 1) := dlt_20 (983, .iaload, 1) (List.mem_of_getElem? (i := 25) rfl)
theorem dL_law_984 : decode code 984 = .ok (.invokevirtual 130, 3) := dlt_20 (984, .invokevirtual 130, 3) (List.mem_of_getElem? (i := 26) rfl)
theorem dL_law_987 : decode code 987 = .ok (.if_icmp .eq 218, 3) := dlt_20 (987, .if_icmp .eq 218, 3) (List.mem_of_getElem? (i := 27) rfl)
theorem dL_law_990 : decode code 990 = .ok (.iconst 0, 1) := dlt_20 (990, .iconst 0, 1) (List.mem_of_getElem? (i := 28) rfl)
theorem dL_law_991 : decode code 991 = .ok (.ireturn, 1) := dlt_20 (991, .ireturn, 1) (List.mem_of_getElem? (i := 29) rfl)
theorem dL_law_992 : decode code 992 = .ok (.aload_n 1, 1) := dlt_20 (992, .aload_n 1, 1) (List.mem_of_getElem? (i := 30) rfl)
theorem dL_law_993 : decode code 993 = .ok (.aload_n 0, 1) := dlt_20 (993, .aload_n 0, 1) (List.mem_of_getElem? (i := 31) rfl)
def dll_21 : List (Nat × Instr × Nat) := [(994, .iload_n 3, 1), (995, .iconst 1, 1), (996, .iadd, 1), (997, .iaload, 1), (998, .aload_n 0, 1), (999, .iload_n 3, 1), (1000, .iconst 2, 1), (1001, .iadd, 1), (1002, .iaload, 1), (1003, .aload_n 0, 1), (1004, .iload_n 3, 1), (1005, .iconst 3, 1), (1006, .iadd, 1), (1007, .iaload, 1), (1008, .invokevirtual 131, 3), (1011, .aload_n 2, 1), (1012, .aload_n 0, 1), (1013, .iload_n 3, 1), (1014, .iconst 1, 1), (1015, .iadd, 1), (1016, .iaload, 1), (1017, .aload_n 0, 1), (1018, .iload_n 3, 1), (1019, .iconst 2, 1), (1020, .iadd, 1), (1021, .iaload, 1), (1022, .aload_n 0, 1), (1023, .iload_n 3, 1), (1024, .iconst 3, 1), (1025, .iadd, 1), (1026, .iaload, 1), (1027, .invokevirtual 134, 3)]
set_option maxRecDepth 20000 in
theorem dlt_21 : ∀ q ∈ dll_21, decode code q.1 = .ok (q.2.1, q.2.2) := by decide +kernel
theorem dL_law_994 : decode code 994 = .ok (.iload_n 3, 1) := dlt_21 (994, .iload_n 3, 1) (List.mem_of_getElem? (i := 0) rfl)
theorem dL_law_995 : decode code 995 = .ok (.iconst 1, 1) := dlt_21 (995, .iconst 1, 1) (List.mem_of_getElem? (i := 1) rfl)
theorem dL_law_996 : decode code 996 = .ok (.iadd, 1) := dlt_21 (996, .iadd, 1) (List.mem_of_getElem? (i := 2) rfl)
theorem dL_law_997 : decode code 997 = .ok (.iaload, 1) := dlt_21 (997, .iaload, 1) (List.mem_of_getElem? (i := 3) rfl)
theorem dL_law_998 : decode code 998 = .ok (.aload_n 0, 1) := dlt_21 (998, .aload_n 0, 1) (List.mem_of_getElem? (i := 4) rfl)
theorem dL_law_999 : decode code 999 = .ok (.iload_n 3, 1) := dlt_21 (999, .iload_n 3, 1) (List.mem_of_getElem? (i := 5) rfl)
theorem dL_law_1000 : decode code 1000 = .ok (.iconst 2, 1) := dlt_21 (1000, .iconst 2, 1) (List.mem_of_getElem? (i := 6) rfl)
theorem dL_law_1001 : decode code 1001 = .ok (.iadd, 1) := dlt_21 (1001, .iadd, 1) (List.mem_of_getElem? (i := 7) rfl)
theorem dL_law_1002 : decode code 1002 = .ok (.iaload, 1) := dlt_21 (1002, .iaload, 1) (List.mem_of_getElem? (i := 8) rfl)
theorem dL_law_1003 : decode code 1003 = .ok (.aload_n 0, 1) := dlt_21 (1003, .aload_n 0, 1) (List.mem_of_getElem? (i := 9) rfl)
theorem dL_law_1004 : decode code 1004 = .ok (.iload_n 3, 1) := dlt_21 (1004, .iload_n 3, 1) (List.mem_of_getElem? (i := 10) rfl)
theorem dL_law_1005 : decode code 1005 = .ok (.iconst 3, 1) := dlt_21 (1005, .iconst 3, 1) (List.mem_of_getElem? (i := 11) rfl)
theorem dL_law_1006 : decode code 1006 = .ok (.iadd, 1) := dlt_21 (1006, .iadd, 1) (List.mem_of_getElem? (i := 12) rfl)
theorem dL_law_1007 : decode code 1007 = .ok (.iaload, 1) := dlt_21 (1007, .iaload, 1) (List.mem_of_getElem? (i := 13) rfl)
theorem dL_law_1008 : decode code 1008 = .ok (.invokevirtual 131, 3) := dlt_21 (1008, .invokevirtual 131, 3) (List.mem_of_getElem? (i := 14) rfl)
theorem dL_law_1011 : decode code 1011 = .ok (.aload_n 2, 1) := dlt_21 (1011, .aload_n 2, 1) (List.mem_of_getElem? (i := 15) rfl)
theorem dL_law_1012 : decode code 1012 = .ok (.aload_n 0, 1) := dlt_21 (1012, .aload_n 0, 1) (List.mem_of_getElem? (i := 16) rfl)
theorem dL_law_1013 : decode code 1013 = .ok (.iload_n 3, 1) := dlt_21 (1013, .iload_n 3, 1) (List.mem_of_getElem? (i := 17) rfl)
theorem dL_law_1014 : decode code 1014 = .ok (.iconst 1, 1) := dlt_21 (1014, .iconst 1, 1) (List.mem_of_getElem? (i := 18) rfl)
theorem dL_law_1015 : decode code 1015 = .ok (.iadd, 1) := dlt_21 (1015, .iadd, 1) (List.mem_of_getElem? (i := 19) rfl)
theorem dL_law_1016 : decode code 1016 = .ok (.iaload, 1) := dlt_21 (1016, .iaload, 1) (List.mem_of_getElem? (i := 20) rfl)
theorem dL_law_1017 : decode code 1017 = .ok (.aload_n 0, 1) := dlt_21 (1017, .aload_n 0, 1) (List.mem_of_getElem? (i := 21) rfl)
theorem dL_law_1018 : decode code 1018 = .ok (.iload_n 3, 1) := dlt_21 (1018, .iload_n 3, 1) (List.mem_of_getElem? (i := 22) rfl)
theorem dL_law_1019 : decode code 1019 = .ok (.iconst 2, 1) := dlt_21 (1019, .iconst 2, 1) (List.mem_of_getElem? (i := 23) rfl)
theorem dL_law_1020 : decode code 1020 = .ok (.iadd, 1) := dlt_21 (1020, .iadd, 1) (List.mem_of_getElem? (i := 24) rfl)
theorem dL_law_1021 : decode code 1021 = .ok (.iaload, 1) := dlt_21 (1021, .iaload, 1) (List.mem_of_getElem? (i := 25) rfl)
theorem dL_law_1022 : decode code 1022 = .ok (.aload_n 0, 1) := dlt_21 (1022, .aload_n 0, 1) (List.mem_of_getElem? (i := 26) rfl)
theorem dL_law_1023 : decode code 1023 = .ok (.iload_n 3, 1) := dlt_21 (1023, .iload_n 3, 1) (List.mem_of_getElem? (i := 27) rfl)
theorem dL_law_1024 : decode code 1024 = .ok (.iconst 3, 1) := dlt_21 (1024, .iconst 3, 1) (List.mem_of_getElem? (i := 28) rfl)
theorem dL_law_1025 : decode code 1025 = .ok (.iadd, 1) := dlt_21 (1025, .iadd, 1) (List.mem_of_getElem? (i := 29) rfl)
theorem dL_law_1026 : decode code 1026 = .ok (.iaload, 1) := dlt_21 (1026, .iaload, 1) (List.mem_of_getElem? (i := 30) rfl)
theorem dL_law_1027 : decode code 1027 = .ok (.invokevirtual 134, 3) := dlt_21 (1027, .invokevirtual 134, 3) (List.mem_of_getElem? (i := 31) rfl)
def dll_22 : List (Nat × Instr × Nat) := [(1030, .if_icmp .eq 175, 3), (1033, .iconst 0, 1), (1034, .ireturn, 1), (1035, .aload_n 1, 1), (1036, .aload_n 0, 1), (1037, .iload_n 3, 1), (1038, .iconst 1, 1), (1039, .iadd, 1), (1040, .iaload, 1), (1041, .aload_n 0, 1), (1042, .iload_n 3, 1), (1043, .iconst 2, 1), (1044, .iadd, 1), (1045, .iaload, 1), (1046, .aload_n 0, 1), (1047, .iload_n 3, 1), (1048, .iconst 3, 1), (1049, .iadd, 1), (1050, .iaload, 1), (1051, .i2l, 1), (1052, .bipush 32, 2), (1054, .lshl, 1), (1055, .aload_n 0, 1), (1056, .iload_n 3, 1), (1057, .iconst 4, 1), (1058, .iadd, 1), (1059, .iaload, 1), (1060, .i2l, 1), (1061, .ldc2_w 135, 3), (1064, .land, 1), (1065, .lor, 1), (1066, .invokevirtual 137, 3)]
set_option maxRecDepth 20000 in
theorem dlt_22 : ∀ q ∈ dll_22, decode code q.1 = .ok (q.2.1, q.2.2) := by decide +kernel
theorem dL_law_1030 : decode code 1030 = .ok (.if_icmp .eq 175, 3) := dlt_22 (1030, .if_icmp .eq 175, 3) (List.mem_of_getElem? (i := 0) rfl)
theorem dL_law_1033 : decode code 1033 = .ok (.iconst 0, 1) := dlt_22 (1033, .iconst 0, 1) (List.mem_of_getElem? (i := 1) rfl)
theorem dL_law_1034 : decode code 1034 = .ok (.ireturn, 1) := dlt_22 (1034, .ireturn, 1) (List.mem_of_getElem? (i := 2) rfl)
theorem dL_law_1035 : decode code 1035 = .ok (.aload_n 1, 1) := dlt_22 (1035, .aload_n 1, 1) (List.mem_of_getElem? (i := 3) rfl)
theorem dL_law_1036 : decode code 1036 = .ok (.aload_n 0, 1) := dlt_22 (1036, .aload_n 0, 1) (List.mem_of_getElem? (i := 4) rfl)
theorem dL_law_1037 : decode code 1037 = .ok (.iload_n 3, 1) := dlt_22 (1037, .iload_n 3, 1) (List.mem_of_getElem? (i := 5) rfl)
theorem dL_law_1038 : decode code 1038 = .ok (.iconst 1, 1) := dlt_22 (1038, .iconst 1, 1) (List.mem_of_getElem? (i := 6) rfl)
theorem dL_law_1039 : decode code 1039 = .ok (.iadd, 1) := dlt_22 (1039, .iadd, 1) (List.mem_of_getElem? (i := 7) rfl)
theorem dL_law_1040 : decode code 1040 = .ok (.iaload, 1) := dlt_22 (1040, .iaload, 1) (List.mem_of_getElem? (i := 8) rfl)
theorem dL_law_1041 : decode code 1041 = .ok (.aload_n 0, 1) := dlt_22 (1041, .aload_n 0, 1) (List.mem_of_getElem? (i := 9) rfl)
theorem dL_law_1042 : decode code 1042 = .ok (.iload_n 3, 1) := dlt_22 (1042, .iload_n 3, 1) (List.mem_of_getElem? (i := 10) rfl)
theorem dL_law_1043 : decode code 1043 = .ok (.iconst 2, 1) := dlt_22 (1043, .iconst 2, 1) (List.mem_of_getElem? (i := 11) rfl)
theorem dL_law_1044 : decode code 1044 = .ok (.iadd, 1) := dlt_22 (1044, .iadd, 1) (List.mem_of_getElem? (i := 12) rfl)
theorem dL_law_1045 : decode code 1045 = .ok (.iaload, 1) := dlt_22 (1045, .iaload, 1) (List.mem_of_getElem? (i := 13) rfl)
theorem dL_law_1046 : decode code 1046 = .ok (.aload_n 0, 1) := dlt_22 (1046, .aload_n 0, 1) (List.mem_of_getElem? (i := 14) rfl)
theorem dL_law_1047 : decode code 1047 = .ok (.iload_n 3, 1) := dlt_22 (1047, .iload_n 3, 1) (List.mem_of_getElem? (i := 15) rfl)
theorem dL_law_1048 : decode code 1048 = .ok (.iconst 3, 1) := dlt_22 (1048, .iconst 3, 1) (List.mem_of_getElem? (i := 16) rfl)
theorem dL_law_1049 : decode code 1049 = .ok (.iadd, 1) := dlt_22 (1049, .iadd, 1) (List.mem_of_getElem? (i := 17) rfl)
theorem dL_law_1050 : decode code 1050 = .ok (.iaload, 1) := dlt_22 (1050, .iaload, 1) (List.mem_of_getElem? (i := 18) rfl)
theorem dL_law_1051 : decode code 1051 = .ok (.i2l, 1) := dlt_22 (1051, .i2l, 1) (List.mem_of_getElem? (i := 19) rfl)
theorem dL_law_1052 : decode code 1052 = .ok (.bipush 32, 2) := dlt_22 (1052, .bipush 32, 2) (List.mem_of_getElem? (i := 20) rfl)
theorem dL_law_1054 : decode code 1054 = .ok (.lshl, 1) := dlt_22 (1054, .lshl, 1) (List.mem_of_getElem? (i := 21) rfl)
theorem dL_law_1055 : decode code 1055 = .ok (.aload_n 0, 1) := dlt_22 (1055, .aload_n 0, 1) (List.mem_of_getElem? (i := 22) rfl)
theorem dL_law_1056 : decode code 1056 = .ok (.iload_n 3, 1) := dlt_22 (1056, .iload_n 3, 1) (List.mem_of_getElem? (i := 23) rfl)
theorem dL_law_1057 : decode code 1057 = .ok (.iconst 4, 1) := dlt_22 (1057, .iconst 4, 1) (List.mem_of_getElem? (i := 24) rfl)
theorem dL_law_1058 : decode code 1058 = .ok (.iadd, 1) := dlt_22 (1058, .iadd, 1) (List.mem_of_getElem? (i := 25) rfl)
theorem dL_law_1059 : decode code 1059 = .ok (.iaload, 1) := dlt_22 (1059, .iaload, 1) (List.mem_of_getElem? (i := 26) rfl)
theorem dL_law_1060 : decode code 1060 = .ok (.i2l, 1) := dlt_22 (1060, .i2l, 1) (List.mem_of_getElem? (i := 27) rfl)
theorem dL_law_1061 : decode code 1061 = .ok (.ldc2_w 135, 3) := dlt_22 (1061, .ldc2_w 135, 3) (List.mem_of_getElem? (i := 28) rfl)
theorem dL_law_1064 : decode code 1064 = .ok (.land, 1) := dlt_22 (1064, .land, 1) (List.mem_of_getElem? (i := 29) rfl)
theorem dL_law_1065 : decode code 1065 = .ok (.lor, 1) := dlt_22 (1065, .lor, 1) (List.mem_of_getElem? (i := 30) rfl)
theorem dL_law_1066 : decode code 1066 = .ok (.invokevirtual 137, 3) := dlt_22 (1066, .invokevirtual 137, 3) (List.mem_of_getElem? (i := 31) rfl)
def dll_23 : List (Nat × Instr × Nat) := [(1069, .aload_n 2, 1), (1070, .aload_n 0, 1), (1071, .iload_n 3, 1), (1072, .iconst 1, 1), (1073, .iadd, 1), (1074, .iaload, 1), (1075, .aload_n 0, 1), (1076, .iload_n 3, 1), (1077, .iconst 2, 1), (1078, .iadd, 1), (1079, .iaload, 1), (1080, .aload_n 0, 1), (1081, .iload_n 3, 1), (1082, .iconst 3, 1), (1083, .iadd, 1), (1084, .iaload, 1), (1085, .i2l, 1), (1086, .bipush 32, 2), (1088, .lshl, 1), (1089, .aload_n 0, 1), (1090, .iload_n 3, 1), (1091, .iconst 4, 1), (1092, .iadd, 1), (1093, .iaload, 1), (1094, .i2l, 1), (1095, .ldc2_w 135, 3), (1098, .land, 1), (1099, .lor, 1), (1100, .invokevirtual 141, 3), (1103, .if_icmp .eq 102, 3), (1106, .iconst 0, 1), (1107, .ireturn, 1)]
set_option maxRecDepth 20000 in
theorem dlt_23 : ∀ q ∈ dll_23, decode code q.1 = .ok (q.2.1, q.2.2) := by decide +kernel
theorem dL_law_1069 : decode code 1069 = .ok (.aload_n 2, 1) := dlt_23 (1069, .aload_n 2, 1) (List.mem_of_getElem? (i := 0) rfl)
theorem dL_law_1070 : decode code 1070 = .ok (.aload_n 0, 1) := dlt_23 (1070, .aload_n 0, 1) (List.mem_of_getElem? (i := 1) rfl)
theorem dL_law_1071 : decode code 1071 = .ok (.iload_n 3, 1) := dlt_23 (1071, .iload_n 3, 1) (List.mem_of_getElem? (i := 2) rfl)
theorem dL_law_1072 : decode code 1072 = .ok (.iconst 1, 1) := dlt_23 (1072, .iconst 1, 1) (List.mem_of_getElem? (i := 3) rfl)
theorem dL_law_1073 : decode code 1073 = .ok (.iadd, 1) := dlt_23 (1073, .iadd, 1) (List.mem_of_getElem? (i := 4) rfl)
theorem dL_law_1074 : decode code 1074 = .ok (.iaload, 1) := dlt_23 (1074, .iaload, 1) (List.mem_of_getElem? (i := 5) rfl)
theorem dL_law_1075 : decode code 1075 = .ok (.aload_n 0, 1) := dlt_23 (1075, .aload_n 0, 1) (List.mem_of_getElem? (i := 6) rfl)
theorem dL_law_1076 : decode code 1076 = .ok (.iload_n 3, 1) := dlt_23 (1076, .iload_n 3, 1) (List.mem_of_getElem? (i := 7) rfl)
theorem dL_law_1077 : decode code 1077 = .ok (.iconst 2, 1) := dlt_23 (1077, .iconst 2, 1) (List.mem_of_getElem? (i := 8) rfl)
theorem dL_law_1078 : decode code 1078 = .ok (.iadd, 1) := dlt_23 (1078, .iadd, 1) (List.mem_of_getElem? (i := 9) rfl)
theorem dL_law_1079 : decode code 1079 = .ok (.iaload, 1) := dlt_23 (1079, .iaload, 1) (List.mem_of_getElem? (i := 10) rfl)
theorem dL_law_1080 : decode code 1080 = .ok (.aload_n 0, 1) := dlt_23 (1080, .aload_n 0, 1) (List.mem_of_getElem? (i := 11) rfl)
theorem dL_law_1081 : decode code 1081 = .ok (.iload_n 3, 1) := dlt_23 (1081, .iload_n 3, 1) (List.mem_of_getElem? (i := 12) rfl)
theorem dL_law_1082 : decode code 1082 = .ok (.iconst 3, 1) := dlt_23 (1082, .iconst 3, 1) (List.mem_of_getElem? (i := 13) rfl)
theorem dL_law_1083 : decode code 1083 = .ok (.iadd, 1) := dlt_23 (1083, .iadd, 1) (List.mem_of_getElem? (i := 14) rfl)
theorem dL_law_1084 : decode code 1084 = .ok (.iaload, 1) := dlt_23 (1084, .iaload, 1) (List.mem_of_getElem? (i := 15) rfl)
theorem dL_law_1085 : decode code 1085 = .ok (.i2l, 1) := dlt_23 (1085, .i2l, 1) (List.mem_of_getElem? (i := 16) rfl)
theorem dL_law_1086 : decode code 1086 = .ok (.bipush 32, 2) := dlt_23 (1086, .bipush 32, 2) (List.mem_of_getElem? (i := 17) rfl)
theorem dL_law_1088 : decode code 1088 = .ok (.lshl, 1) := dlt_23 (1088, .lshl, 1) (List.mem_of_getElem? (i := 18) rfl)
theorem dL_law_1089 : decode code 1089 = .ok (.aload_n 0, 1) := dlt_23 (1089, .aload_n 0, 1) (List.mem_of_getElem? (i := 19) rfl)
theorem dL_law_1090 : decode code 1090 = .ok (.iload_n 3, 1) := dlt_23 (1090, .iload_n 3, 1) (List.mem_of_getElem? (i := 20) rfl)
theorem dL_law_1091 : decode code 1091 = .ok (.iconst 4, 1) := dlt_23 (1091, .iconst 4, 1) (List.mem_of_getElem? (i := 21) rfl)
theorem dL_law_1092 : decode code 1092 = .ok (.iadd, 1) := dlt_23 (1092, .iadd, 1) (List.mem_of_getElem? (i := 22) rfl)
theorem dL_law_1093 : decode code 1093 = .ok (.iaload, 1) := dlt_23 (1093, .iaload, 1) (List.mem_of_getElem? (i := 23) rfl)
theorem dL_law_1094 : decode code 1094 = .ok (.i2l, 1) := dlt_23 (1094, .i2l, 1) (List.mem_of_getElem? (i := 24) rfl)
theorem dL_law_1095 : decode code 1095 = .ok (.ldc2_w 135, 3) := dlt_23 (1095, .ldc2_w 135, 3) (List.mem_of_getElem? (i := 25) rfl)
theorem dL_law_1098 : decode code 1098 = .ok (.land, 1) := dlt_23 (1098, .land, 1) (List.mem_of_getElem? (i := 26) rfl)
theorem dL_law_1099 : decode code 1099 = .ok (.lor, 1) := dlt_23 (1099, .lor, 1) (List.mem_of_getElem? (i := 27) rfl)
theorem dL_law_1100 : decode code 1100 = .ok (.invokevirtual 141, 3) := dlt_23 (1100, .invokevirtual 141, 3) (List.mem_of_getElem? (i := 28) rfl)
theorem dL_law_1103 : decode code 1103 = .ok (.if_icmp .eq 102, 3) := dlt_23 (1103, .if_icmp .eq 102, 3) (List.mem_of_getElem? (i := 29) rfl)
theorem dL_law_1106 : decode code 1106 = .ok (.iconst 0, 1) := dlt_23 (1106, .iconst 0, 1) (List.mem_of_getElem? (i := 30) rfl)
theorem dL_law_1107 : decode code 1107 = .ok (.ireturn, 1) := dlt_23 (1107, .ireturn, 1) (List.mem_of_getElem? (i := 31) rfl)
def dll_24 : List (Nat × Instr × Nat) := [(1108, .aload_n 1, 1), (1109, .aload_n 0, 1), (1110, .iload_n 3, 1), (1111, .iconst 1, 1), (1112, .iadd, 1), (1113, .iaload, 1), (1114, .aload_n 0, 1), (1115, .iload_n 3, 1), (1116, .iconst 2, 1), (1117, .iadd, 1), (1118, .iaload, 1), (1119, .invokevirtual 142, 3), (1122, .aload_n 2, 1), (1123, .aload_n 0, 1), (1124, .iload_n 3, 1), (1125, .iconst 1, 1), (1126, .iadd, 1), (1127, .iaload, 1), (1128, .aload_n 0, 1), (1129, .iload_n 3, 1), (1130, .iconst 2, 1), (1131, .iadd, 1), (1132, .iaload, 1), (1133, .invokevirtual 146, 3), (1136, .lcmp, 1), (1137, .ifCond .eq 68, 3), (1140, .iconst 0, 1), (1141, .ireturn, 1), (1142, .aload_n 1, 1), (1143, .aload_n 0, 1), (1144, .iload_n 3, 1), (1145, .iconst 1, 1)]
set_option maxRecDepth 20000 in
theorem dlt_24 : ∀ q ∈ dll_24, decode code q.1 = .ok (q.2.1, q.2.2) := by decide +kernel
theorem dL_law_1108 : decode code 1108 = .ok (.aload_n 1, 1) := dlt_24 (1108, .aload_n 1, 1) (List.mem_of_getElem? (i := 0) rfl)
theorem dL_law_1109 : decode code 1109 = .ok (.aload_n 0, 1) := dlt_24 (1109, .aload_n 0, 1) (List.mem_of_getElem? (i := 1) rfl)
theorem dL_law_1110 : decode code 1110 = .ok (.iload_n 3, 1) := dlt_24 (1110, .iload_n 3, 1) (List.mem_of_getElem? (i := 2) rfl)
theorem dL_law_1111 : decode code 1111 = .ok (.iconst 1, 1) := dlt_24 (1111, .iconst 1, 1) (List.mem_of_getElem? (i := 3) rfl)
theorem dL_law_1112 : decode code 1112 = .ok (.iadd, 1) := dlt_24 (1112, .iadd, 1) (List.mem_of_getElem? (i := 4) rfl)
theorem dL_law_1113 : decode code 1113 = .ok (.iaload, 1) := dlt_24 (1113, .iaload, 1) (List.mem_of_getElem? (i := 5) rfl)
theorem dL_law_1114 : decode code 1114 = .ok (.aload_n 0, 1) := dlt_24 (1114, .aload_n 0, 1) (List.mem_of_getElem? (i := 6) rfl)
theorem dL_law_1115 : decode code 1115 = .ok (.iload_n 3, 1) := dlt_24 (1115, .iload_n 3, 1) (List.mem_of_getElem? (i := 7) rfl)
theorem dL_law_1116 : decode code 1116 = .ok (.iconst 2, 1) := dlt_24 (1116, .iconst 2, 1) (List.mem_of_getElem? (i := 8) rfl)
theorem dL_law_1117 : decode code 1117 = .ok (.iadd, 1) := dlt_24 (1117, .iadd, 1) (List.mem_of_getElem? (i := 9) rfl)
theorem dL_law_1118 : decode code 1118 = .ok (.iaload, 1) := dlt_24 (1118, .iaload, 1) (List.mem_of_getElem? (i := 10) rfl)
theorem dL_law_1119 : decode code 1119 = .ok (.invokevirtual 142, 3) := dlt_24 (1119, .invokevirtual 142, 3) (List.mem_of_getElem? (i := 11) rfl)
theorem dL_law_1122 : decode code 1122 = .ok (.aload_n 2, 1) := dlt_24 (1122, .aload_n 2, 1) (List.mem_of_getElem? (i := 12) rfl)
theorem dL_law_1123 : decode code 1123 = .ok (.aload_n 0, 1) := dlt_24 (1123, .aload_n 0, 1) (List.mem_of_getElem? (i := 13) rfl)
theorem dL_law_1124 : decode code 1124 = .ok (.iload_n 3, 1) := dlt_24 (1124, .iload_n 3, 1) (List.mem_of_getElem? (i := 14) rfl)
theorem dL_law_1125 : decode code 1125 = .ok (.iconst 1, 1) := dlt_24 (1125, .iconst 1, 1) (List.mem_of_getElem? (i := 15) rfl)
theorem dL_law_1126 : decode code 1126 = .ok (.iadd, 1) := dlt_24 (1126, .iadd, 1) (List.mem_of_getElem? (i := 16) rfl)
theorem dL_law_1127 : decode code 1127 = .ok (.iaload, 1) := dlt_24 (1127, .iaload, 1) (List.mem_of_getElem? (i := 17) rfl)
theorem dL_law_1128 : decode code 1128 = .ok (.aload_n 0, 1) := dlt_24 (1128, .aload_n 0, 1) (List.mem_of_getElem? (i := 18) rfl)
theorem dL_law_1129 : decode code 1129 = .ok (.iload_n 3, 1) := dlt_24 (1129, .iload_n 3, 1) (List.mem_of_getElem? (i := 19) rfl)
theorem dL_law_1130 : decode code 1130 = .ok (.iconst 2, 1) := dlt_24 (1130, .iconst 2, 1) (List.mem_of_getElem? (i := 20) rfl)
theorem dL_law_1131 : decode code 1131 = .ok (.iadd, 1) := dlt_24 (1131, .iadd, 1) (List.mem_of_getElem? (i := 21) rfl)
theorem dL_law_1132 : decode code 1132 = .ok (.iaload, 1) := dlt_24 (1132, .iaload, 1) (List.mem_of_getElem? (i := 22) rfl)
theorem dL_law_1133 : decode code 1133 = .ok (.invokevirtual 146, 3) := dlt_24 (1133, .invokevirtual 146, 3) (List.mem_of_getElem? (i := 23) rfl)
theorem dL_law_1136 : decode code 1136 = .ok (.lcmp, 1) := dlt_24 (1136, .lcmp, 1) (List.mem_of_getElem? (i := 24) rfl)
theorem dL_law_1137 : decode code 1137 = .ok (.ifCond .eq 68, 3) := dlt_24 (1137, .ifCond .eq 68, 3) (List.mem_of_getElem? (i := 25) rfl)
theorem dL_law_1140 : decode code 1140 = .ok (.iconst 0, 1) := dlt_24 (1140, .iconst 0, 1) (List.mem_of_getElem? (i := 26) rfl)
theorem dL_law_1141 : decode code 1141 = .ok (.ireturn, 1) := dlt_24 (1141, .ireturn, 1) (List.mem_of_getElem? (i := 27) rfl)
theorem dL_law_1142 : decode code 1142 = .ok (.aload_n 1, 1) := dlt_24 (1142, .aload_n 1, 1) (List.mem_of_getElem? (i := 28) rfl)
theorem dL_law_1143 : decode code 1143 = .ok (.aload_n 0, 1) := dlt_24 (1143, .aload_n 0, 1) (List.mem_of_getElem? (i := 29) rfl)
theorem dL_law_1144 : decode code 1144 = .ok (.iload_n 3, 1) := dlt_24 (1144, .iload_n 3, 1) (List.mem_of_getElem? (i := 30) rfl)
theorem dL_law_1145 : decode code 1145 = .ok (.iconst 1, 1) := dlt_24 (1145, .iconst 1, 1) (List.mem_of_getElem? (i := 31) rfl)
def dll_25 : List (Nat × Instr × Nat) := [(1146, .iadd, 1), (1147, .iaload, 1), (1148, .aload_n 0, 1), (1149, .iload_n 3, 1), (1150, .iconst 2, 1), (1151, .iadd, 1), (1152, .iaload, 1), (1153, .aload_n 0, 1), (1154, .iload_n 3, 1), (1155, .iconst 3, 1), (1156, .iadd, 1), (1157, .iaload, 1), (1158, .aload_n 0, 1), (1159, .iload_n 3, 1), (1160, .iconst 4, 1), (1161, .iadd, 1), (1162, .iaload, 1), (1163, .aload_n 0, 1), (1164, .iload_n 3, 1), (1165, .iconst 5, 1), (1166, .iadd, 1), (1167, .iaload, 1), (1168, .invokevirtual 147, 3), (1171, .aload_n 2, 1), (1172, .aload_n 0, 1), (1173, .iload_n 3, 1), (1174, .iconst 1, 1), (1175, .iadd, 1), (1176, .iaload, 1), (1177, .aload_n 0, 1), (1178, .iload_n 3, 1), (1179, .iconst 2, 1)]
set_option maxRecDepth 20000 in
theorem dlt_25 : ∀ q ∈ dll_25, decode code q.1 = .ok (q.2.1, q.2.2) := by decide +kernel
theorem dL_law_1146 : decode code 1146 = .ok (.iadd, 1) := dlt_25 (1146, .iadd, 1) (List.mem_of_getElem? (i := 0) rfl)
theorem dL_law_1147 : decode code 1147 = .ok (.iaload, 1) := dlt_25 (1147, .iaload, 1) (List.mem_of_getElem? (i := 1) rfl)
theorem dL_law_1148 : decode code 1148 = .ok (.aload_n 0, 1) := dlt_25 (1148, .aload_n 0, 1) (List.mem_of_getElem? (i := 2) rfl)
theorem dL_law_1149 : decode code 1149 = .ok (.iload_n 3, 1) := dlt_25 (1149, .iload_n 3, 1) (List.mem_of_getElem? (i := 3) rfl)
theorem dL_law_1150 : decode code 1150 = .ok (.iconst 2, 1) := dlt_25 (1150, .iconst 2, 1) (List.mem_of_getElem? (i := 4) rfl)
theorem dL_law_1151 : decode code 1151 = .ok (.iadd, 1) := dlt_25 (1151, .iadd, 1) (List.mem_of_getElem? (i := 5) rfl)
theorem dL_law_1152 : decode code 1152 = .ok (.iaload, 1) := dlt_25 (1152, .iaload, 1) (List.mem_of_getElem? (i := 6) rfl)
theorem dL_law_1153 : decode code 1153 = .ok (.aload_n 0, 1) := dlt_25 (1153, .aload_n 0, 1) (List.mem_of_getElem? (i := 7) rfl)
theorem dL_law_1154 : decode code 1154 = .ok (.iload_n 3, 1) := dlt_25 (1154, .iload_n 3, 1) (List.mem_of_getElem? (i := 8) rfl)
theorem dL_law_1155 : decode code 1155 = .ok (.iconst 3, 1) := dlt_25 (1155, .iconst 3, 1) (List.mem_of_getElem? (i := 9) rfl)
theorem dL_law_1156 : decode code 1156 = .ok (.iadd, 1) := dlt_25 (1156, .iadd, 1) (List.mem_of_getElem? (i := 10) rfl)
theorem dL_law_1157 : decode code 1157 = .ok (.iaload, 1) := dlt_25 (1157, .iaload, 1) (List.mem_of_getElem? (i := 11) rfl)
theorem dL_law_1158 : decode code 1158 = .ok (.aload_n 0, 1) := dlt_25 (1158, .aload_n 0, 1) (List.mem_of_getElem? (i := 12) rfl)
theorem dL_law_1159 : decode code 1159 = .ok (.iload_n 3, 1) := dlt_25 (1159, .iload_n 3, 1) (List.mem_of_getElem? (i := 13) rfl)
theorem dL_law_1160 : decode code 1160 = .ok (.iconst 4, 1) := dlt_25 (1160, .iconst 4, 1) (List.mem_of_getElem? (i := 14) rfl)
theorem dL_law_1161 : decode code 1161 = .ok (.iadd, 1) := dlt_25 (1161, .iadd, 1) (List.mem_of_getElem? (i := 15) rfl)
theorem dL_law_1162 : decode code 1162 = .ok (.iaload, 1) := dlt_25 (1162, .iaload, 1) (List.mem_of_getElem? (i := 16) rfl)
theorem dL_law_1163 : decode code 1163 = .ok (.aload_n 0, 1) := dlt_25 (1163, .aload_n 0, 1) (List.mem_of_getElem? (i := 17) rfl)
theorem dL_law_1164 : decode code 1164 = .ok (.iload_n 3, 1) := dlt_25 (1164, .iload_n 3, 1) (List.mem_of_getElem? (i := 18) rfl)
theorem dL_law_1165 : decode code 1165 = .ok (.iconst 5, 1) := dlt_25 (1165, .iconst 5, 1) (List.mem_of_getElem? (i := 19) rfl)
theorem dL_law_1166 : decode code 1166 = .ok (.iadd, 1) := dlt_25 (1166, .iadd, 1) (List.mem_of_getElem? (i := 20) rfl)
theorem dL_law_1167 : decode code 1167 = .ok (.iaload, 1) := dlt_25 (1167, .iaload, 1) (List.mem_of_getElem? (i := 21) rfl)
theorem dL_law_1168 : decode code 1168 = .ok (.invokevirtual 147, 3) := dlt_25 (1168, .invokevirtual 147, 3) (List.mem_of_getElem? (i := 22) rfl)
theorem dL_law_1171 : decode code 1171 = .ok (.aload_n 2, 1) := dlt_25 (1171, .aload_n 2, 1) (List.mem_of_getElem? (i := 23) rfl)
theorem dL_law_1172 : decode code 1172 = .ok (.aload_n 0, 1) := dlt_25 (1172, .aload_n 0, 1) (List.mem_of_getElem? (i := 24) rfl)
theorem dL_law_1173 : decode code 1173 = .ok (.iload_n 3, 1) := dlt_25 (1173, .iload_n 3, 1) (List.mem_of_getElem? (i := 25) rfl)
theorem dL_law_1174 : decode code 1174 = .ok (.iconst 1, 1) := dlt_25 (1174, .iconst 1, 1) (List.mem_of_getElem? (i := 26) rfl)
theorem dL_law_1175 : decode code 1175 = .ok (.iadd, 1) := dlt_25 (1175, .iadd, 1) (List.mem_of_getElem? (i := 27) rfl)
theorem dL_law_1176 : decode code 1176 = .ok (.iaload, 1) := dlt_25 (1176, .iaload, 1) (List.mem_of_getElem? (i := 28) rfl)
theorem dL_law_1177 : decode code 1177 = .ok (.aload_n 0, 1) := dlt_25 (1177, .aload_n 0, 1) (List.mem_of_getElem? (i := 29) rfl)
theorem dL_law_1178 : decode code 1178 = .ok (.iload_n 3, 1) := dlt_25 (1178, .iload_n 3, 1) (List.mem_of_getElem? (i := 30) rfl)
theorem dL_law_1179 : decode code 1179 = .ok (.iconst 2, 1) := dlt_25 (1179, .iconst 2, 1) (List.mem_of_getElem? (i := 31) rfl)
def dll_26 : List (Nat × Instr × Nat) := [(1180, .iadd, 1), (1181, .iaload, 1), (1182, .aload_n 0, 1), (1183, .iload_n 3, 1), (1184, .iconst 3, 1), (1185, .iadd, 1), (1186, .iaload, 1), (1187, .aload_n 0, 1), (1188, .iload_n 3, 1), (1189, .iconst 4, 1), (1190, .iadd, 1), (1191, .iaload, 1), (1192, .aload_n 0, 1), (1193, .iload_n 3, 1), (1194, .iconst 5, 1), (1195, .iadd, 1), (1196, .iaload, 1), (1197, .invokevirtual 151, 3), (1200, .if_icmp .eq 5, 3), (1203, .iconst 0, 1), (1204, .ireturn, 1), (1205, .iinc 3 6, 3), (1208, .goto (-1190), 3), (1211, .iconst 1, 1), (1212, .ireturn, 1)]
set_option maxRecDepth 20000 in
theorem dlt_26 : ∀ q ∈ dll_26, decode code q.1 = .ok (q.2.1, q.2.2) := by decide +kernel
theorem dL_law_1180 : decode code 1180 = .ok (.iadd, 1) := dlt_26 (1180, .iadd, 1) (List.mem_of_getElem? (i := 0) rfl)
theorem dL_law_1181 : decode code 1181 = .ok (.iaload, 1) := dlt_26 (1181, .iaload, 1) (List.mem_of_getElem? (i := 1) rfl)
theorem dL_law_1182 : decode code 1182 = .ok (.aload_n 0, 1) := dlt_26 (1182, .aload_n 0, 1) (List.mem_of_getElem? (i := 2) rfl)
theorem dL_law_1183 : decode code 1183 = .ok (.iload_n 3, 1) := dlt_26 (1183, .iload_n 3, 1) (List.mem_of_getElem? (i := 3) rfl)
theorem dL_law_1184 : decode code 1184 = .ok (.iconst 3, 1) := dlt_26 (1184, .iconst 3, 1) (List.mem_of_getElem? (i := 4) rfl)
theorem dL_law_1185 : decode code 1185 = .ok (.iadd, 1) := dlt_26 (1185, .iadd, 1) (List.mem_of_getElem? (i := 5) rfl)
theorem dL_law_1186 : decode code 1186 = .ok (.iaload, 1) := dlt_26 (1186, .iaload, 1) (List.mem_of_getElem? (i := 6) rfl)
theorem dL_law_1187 : decode code 1187 = .ok (.aload_n 0, 1) := dlt_26 (1187, .aload_n 0, 1) (List.mem_of_getElem? (i := 7) rfl)
theorem dL_law_1188 : decode code 1188 = .ok (.iload_n 3, 1) := dlt_26 (1188, .iload_n 3, 1) (List.mem_of_getElem? (i := 8) rfl)
theorem dL_law_1189 : decode code 1189 = .ok (.iconst 4, 1) := dlt_26 (1189, .iconst 4, 1) (List.mem_of_getElem? (i := 9) rfl)
theorem dL_law_1190 : decode code 1190 = .ok (.iadd, 1) := dlt_26 (1190, .iadd, 1) (List.mem_of_getElem? (i := 10) rfl)
theorem dL_law_1191 : decode code 1191 = .ok (.iaload, 1) := dlt_26 (1191, .iaload, 1) (List.mem_of_getElem? (i := 11) rfl)
theorem dL_law_1192 : decode code 1192 = .ok (.aload_n 0, 1) := dlt_26 (1192, .aload_n 0, 1) (List.mem_of_getElem? (i := 12) rfl)
theorem dL_law_1193 : decode code 1193 = .ok (.iload_n 3, 1) := dlt_26 (1193, .iload_n 3, 1) (List.mem_of_getElem? (i := 13) rfl)
theorem dL_law_1194 : decode code 1194 = .ok (.iconst 5, 1) := dlt_26 (1194, .iconst 5, 1) (List.mem_of_getElem? (i := 14) rfl)
theorem dL_law_1195 : decode code 1195 = .ok (.iadd, 1) := dlt_26 (1195, .iadd, 1) (List.mem_of_getElem? (i := 15) rfl)
theorem dL_law_1196 : decode code 1196 = .ok (.iaload, 1) := dlt_26 (1196, .iaload, 1) (List.mem_of_getElem? (i := 16) rfl)
theorem dL_law_1197 : decode code 1197 = .ok (.invokevirtual 151, 3) := dlt_26 (1197, .invokevirtual 151, 3) (List.mem_of_getElem? (i := 17) rfl)
theorem dL_law_1200 : decode code 1200 = .ok (.if_icmp .eq 5, 3) := dlt_26 (1200, .if_icmp .eq 5, 3) (List.mem_of_getElem? (i := 18) rfl)
theorem dL_law_1203 : decode code 1203 = .ok (.iconst 0, 1) := dlt_26 (1203, .iconst 0, 1) (List.mem_of_getElem? (i := 19) rfl)
theorem dL_law_1204 : decode code 1204 = .ok (.ireturn, 1) := dlt_26 (1204, .ireturn, 1) (List.mem_of_getElem? (i := 20) rfl)
theorem dL_law_1205 : decode code 1205 = .ok (.iinc 3 6, 3) := dlt_26 (1205, .iinc 3 6, 3) (List.mem_of_getElem? (i := 21) rfl)
theorem dL_law_1208 : decode code 1208 = .ok (.goto (-1190), 3) := dlt_26 (1208, .goto (-1190), 3) (List.mem_of_getElem? (i := 22) rfl)
theorem dL_law_1211 : decode code 1211 = .ok (.iconst 1, 1) := dlt_26 (1211, .iconst 1, 1) (List.mem_of_getElem? (i := 23) rfl)
theorem dL_law_1212 : decode code 1212 = .ok (.ireturn, 1) := dlt_26 (1212, .ireturn, 1) (List.mem_of_getElem? (i := 24) rfl)
set_option maxRecDepth 20000 in
theorem kt_L_law_0 (g : gx_T) : ∀ q ∈ k_L_law_0 (gx_n g) (gx_x g), gx_E g gc_md RL code 4 (some .boolean) "law" q.1 q.2 := List.forall_mem_cons.mpr ⟨(gs_new (q := (RX11, TX11, 17)) (ty := tyX11) dL_law_0 rfl gl_11 tyX11_ok (gx_mem 105 (by decide +kernel) (by decide +kernel)) (gx_mem 106 (by decide +kernel) (by decide +kernel)) (gx_mem 84 (by decide +kernel) (by decide +kernel)) rfl (by decide +kernel) rfl), List.forall_mem_cons.mpr ⟨
  (gs_dup dL_law_3), List.forall_mem_cons.mpr ⟨
  (gs_ci dL_law_4 (md_65) (List.forall_mem_cons.mpr ⟨gx_mem 107 (by decide +kernel) (by decide +kernel), List.forall_mem_cons.mpr ⟨gx_mem 108 (by decide +kernel) (by decide +kernel), List.forall_mem_cons.mpr ⟨gx_mem 84 (by decide +kernel) (by decide +kernel), List.forall_mem_cons.mpr ⟨cw_109, fun _ h => absurd h List.not_mem_nil⟩⟩⟩⟩) (by decide +kernel) (by decide) rfl), List.forall_mem_cons.mpr ⟨
  (gs_astore_n dL_law_7 rfl), List.forall_mem_cons.mpr ⟨
  (gs_new (q := (RX12, TX12, 79)) (ty := tyX12) dL_law_8 rfl gl_12 tyX12_ok (gx_mem 991 (by decide +kernel) (by decide +kernel)) (gx_mem 992 (by decide +kernel) (by decide +kernel)) (gx_mem 96 (by decide +kernel) (by decide +kernel)) rfl (by decide +kernel) rfl), List.forall_mem_cons.mpr ⟨
  (gs_dup dL_law_11), List.forall_mem_cons.mpr ⟨
  (gs_ci dL_law_12 (md_109) (List.forall_mem_cons.mpr ⟨gx_mem 993 (by decide +kernel) (by decide +kernel), List.forall_mem_cons.mpr ⟨gx_mem 994 (by decide +kernel) (by decide +kernel), List.forall_mem_cons.mpr ⟨gx_mem 96 (by decide +kernel) (by decide +kernel), List.forall_mem_cons.mpr ⟨cw_995, fun _ h => absurd h List.not_mem_nil⟩⟩⟩⟩) (by decide +kernel) (by decide) rfl), List.forall_mem_cons.mpr ⟨
  (gs_astore_n dL_law_15 rfl), List.forall_mem_cons.mpr ⟨
  (gs_iconst dL_law_16 rfl), List.forall_mem_cons.mpr ⟨
  (gs_istore_n dL_law_17 rfl), List.forall_mem_cons.mpr ⟨
  (gs_iload_n dL_law_18 rfl), List.forall_mem_cons.mpr ⟨
  (gs_aload_n dL_law_19 rfl), List.forall_mem_cons.mpr ⟨
  (gs_slenX dL_law_20), List.forall_mem_cons.mpr ⟨
  (gs_bipush dL_law_21 rfl), List.forall_mem_cons.mpr ⟨
  (gs_isub dL_law_23), List.forall_mem_cons.mpr ⟨
  (gs_icmp_gt dL_law_24 rfl), List.forall_mem_cons.mpr ⟨
  (gs_aload_n dL_law_27 rfl), List.forall_mem_cons.mpr ⟨
  (gs_iload_n dL_law_28 rfl), List.forall_mem_cons.mpr ⟨
  (gs_sldX dL_law_29), List.forall_mem_cons.mpr ⟨
  (gs_bipush dL_law_30 rfl), List.forall_mem_cons.mpr ⟨
  (gs_iand dL_law_32), List.forall_mem_cons.mpr ⟨
  (gs_tsw (lo := 0) (offs := [143, 176, 209, 242, 275, 308, 341, 384, 407, 420, 443, 466, 499, 532, 575, 608, 652, 676, 709, 732, 765, 778, 811, 824, 837, 880, 903, 936, 959, 1002, 1075, 1109]) dL_law_33 (by decide +kernel) (by decide +kernel)), List.forall_mem_cons.mpr ⟨
  (gs_aload_n dL_law_176 rfl), List.forall_mem_cons.mpr ⟨
  (gs_aload_n dL_law_177 rfl), List.forall_mem_cons.mpr ⟨
  (gs_iload_n dL_law_178 rfl), List.forall_mem_cons.mpr ⟨
  (gs_iconst dL_law_179 rfl), List.forall_mem_cons.mpr ⟨
  (gs_iadd dL_law_180), List.forall_mem_cons.mpr ⟨
  (gs_sldX dL_law_181), List.forall_mem_cons.mpr ⟨
  (gs_aload_n dL_law_182 rfl), List.forall_mem_cons.mpr ⟨
  (gs_iload_n dL_law_183 rfl), List.forall_mem_cons.mpr ⟨
  (gs_iconst dL_law_184 rfl), List.forall_mem_cons.mpr ⟨
  (gs_iadd dL_law_185), fun _ h => absurd h List.not_mem_nil⟩⟩⟩⟩⟩⟩⟩⟩⟩⟩⟩⟩⟩⟩⟩⟩⟩⟩⟩⟩⟩⟩⟩⟩⟩⟩⟩⟩⟩⟩⟩⟩
set_option maxRecDepth 20000 in
theorem kt_L_law_1 (g : gx_T) : ∀ q ∈ k_L_law_1 (gx_n g) (gx_x g), gx_E g gc_md RL code 4 (some .boolean) "law" q.1 q.2 := List.forall_mem_cons.mpr ⟨(gs_sldX dL_law_186), List.forall_mem_cons.mpr ⟨
  (gs_cv dL_law_187 (fun q hq => by
      simp only [List.mem_cons, List.not_mem_nil, or_false] at hq
      subst hq
      exact Or.inl ⟨_, rfl, by decide, by decide +kernel, by decide +kernel, List.forall_mem_cons.mpr ⟨gx_mem 423 (by decide +kernel) (by decide +kernel), List.forall_mem_cons.mpr ⟨gx_mem 424 (by decide +kernel) (by decide +kernel), List.forall_mem_cons.mpr ⟨gx_mem 425 (by decide +kernel) (by decide +kernel), List.forall_mem_cons.mpr ⟨gx_mem 84 (by decide +kernel) (by decide +kernel), List.forall_mem_cons.mpr ⟨cw_426, fun _ h => absurd h List.not_mem_nil⟩⟩⟩⟩⟩⟩)), List.forall_mem_cons.mpr ⟨
  (gs_aload_n dL_law_190 rfl), List.forall_mem_cons.mpr ⟨
  (gs_aload_n dL_law_191 rfl), List.forall_mem_cons.mpr ⟨
  (gs_iload_n dL_law_192 rfl), List.forall_mem_cons.mpr ⟨
  (gs_iconst dL_law_193 rfl), List.forall_mem_cons.mpr ⟨
  (gs_iadd dL_law_194), List.forall_mem_cons.mpr ⟨
  (gs_sldX dL_law_195), List.forall_mem_cons.mpr ⟨
  (gs_aload_n dL_law_196 rfl), List.forall_mem_cons.mpr ⟨
  (gs_iload_n dL_law_197 rfl), List.forall_mem_cons.mpr ⟨
  (gs_iconst dL_law_198 rfl), List.forall_mem_cons.mpr ⟨
  (gs_iadd dL_law_199), List.forall_mem_cons.mpr ⟨
  (gs_sldX dL_law_200), List.forall_mem_cons.mpr ⟨
  (gs_cv dL_law_201 (fun q hq => by
      simp only [List.mem_cons, List.not_mem_nil, or_false] at hq
      subst hq
      exact Or.inl ⟨_, rfl, by decide, by decide +kernel, by decide +kernel, List.forall_mem_cons.mpr ⟨gx_mem 1236 (by decide +kernel) (by decide +kernel), List.forall_mem_cons.mpr ⟨gx_mem 1237 (by decide +kernel) (by decide +kernel), List.forall_mem_cons.mpr ⟨gx_mem 1238 (by decide +kernel) (by decide +kernel), List.forall_mem_cons.mpr ⟨gx_mem 96 (by decide +kernel) (by decide +kernel), List.forall_mem_cons.mpr ⟨cw_1239, fun _ h => absurd h List.not_mem_nil⟩⟩⟩⟩⟩⟩)), List.forall_mem_cons.mpr ⟨
  (gs_icmp_eq dL_law_204 rfl), List.forall_mem_cons.mpr ⟨
  (gs_iconst dL_law_207 rfl), List.forall_mem_cons.mpr ⟨
  (gs_rn dL_law_208 (by decide)), List.forall_mem_cons.mpr ⟨
  (gs_aload_n dL_law_209 rfl), List.forall_mem_cons.mpr ⟨
  (gs_aload_n dL_law_210 rfl), List.forall_mem_cons.mpr ⟨
  (gs_iload_n dL_law_211 rfl), List.forall_mem_cons.mpr ⟨
  (gs_iconst dL_law_212 rfl), List.forall_mem_cons.mpr ⟨
  (gs_iadd dL_law_213), List.forall_mem_cons.mpr ⟨
  (gs_sldX dL_law_214), List.forall_mem_cons.mpr ⟨
  (gs_aload_n dL_law_215 rfl), List.forall_mem_cons.mpr ⟨
  (gs_iload_n dL_law_216 rfl), List.forall_mem_cons.mpr ⟨
  (gs_iconst dL_law_217 rfl), List.forall_mem_cons.mpr ⟨
  (gs_iadd dL_law_218), List.forall_mem_cons.mpr ⟨
  (gs_sldX dL_law_219), List.forall_mem_cons.mpr ⟨
  (gs_cv dL_law_220 (fun q hq => by
      simp only [List.mem_cons, List.not_mem_nil, or_false] at hq
      subst hq
      exact Or.inl ⟨_, rfl, by decide, by decide +kernel, by decide +kernel, List.forall_mem_cons.mpr ⟨gx_mem 434 (by decide +kernel) (by decide +kernel), List.forall_mem_cons.mpr ⟨gx_mem 435 (by decide +kernel) (by decide +kernel), List.forall_mem_cons.mpr ⟨gx_mem 436 (by decide +kernel) (by decide +kernel), List.forall_mem_cons.mpr ⟨gx_mem 84 (by decide +kernel) (by decide +kernel), List.forall_mem_cons.mpr ⟨cw_437, fun _ h => absurd h List.not_mem_nil⟩⟩⟩⟩⟩⟩)), List.forall_mem_cons.mpr ⟨
  (gs_aload_n dL_law_223 rfl), List.forall_mem_cons.mpr ⟨
  (gs_aload_n dL_law_224 rfl), List.forall_mem_cons.mpr ⟨
  (gs_iload_n dL_law_225 rfl), fun _ h => absurd h List.not_mem_nil⟩⟩⟩⟩⟩⟩⟩⟩⟩⟩⟩⟩⟩⟩⟩⟩⟩⟩⟩⟩⟩⟩⟩⟩⟩⟩⟩⟩⟩⟩⟩⟩
set_option maxRecDepth 20000 in
theorem kt_L_law_2 (g : gx_T) : ∀ q ∈ k_L_law_2 (gx_n g) (gx_x g), gx_E g gc_md RL code 4 (some .boolean) "law" q.1 q.2 := List.forall_mem_cons.mpr ⟨(gs_iconst dL_law_226 rfl), List.forall_mem_cons.mpr ⟨
  (gs_iadd dL_law_227), List.forall_mem_cons.mpr ⟨
  (gs_sldX dL_law_228), List.forall_mem_cons.mpr ⟨
  (gs_aload_n dL_law_229 rfl), List.forall_mem_cons.mpr ⟨
  (gs_iload_n dL_law_230 rfl), List.forall_mem_cons.mpr ⟨
  (gs_iconst dL_law_231 rfl), List.forall_mem_cons.mpr ⟨
  (gs_iadd dL_law_232), List.forall_mem_cons.mpr ⟨
  (gs_sldX dL_law_233), List.forall_mem_cons.mpr ⟨
  (gs_cv dL_law_234 (fun q hq => by
      simp only [List.mem_cons, List.not_mem_nil, or_false] at hq
      subst hq
      exact Or.inl ⟨_, rfl, by decide, by decide +kernel, by decide +kernel, List.forall_mem_cons.mpr ⟨gx_mem 1336 (by decide +kernel) (by decide +kernel), List.forall_mem_cons.mpr ⟨gx_mem 1337 (by decide +kernel) (by decide +kernel), List.forall_mem_cons.mpr ⟨gx_mem 1338 (by decide +kernel) (by decide +kernel), List.forall_mem_cons.mpr ⟨gx_mem 96 (by decide +kernel) (by decide +kernel), List.forall_mem_cons.mpr ⟨cw_1339, fun _ h => absurd h List.not_mem_nil⟩⟩⟩⟩⟩⟩)), List.forall_mem_cons.mpr ⟨
  (gs_icmp_eq dL_law_237 rfl), List.forall_mem_cons.mpr ⟨
  (gs_iconst dL_law_240 rfl), List.forall_mem_cons.mpr ⟨
  (gs_rn dL_law_241 (by decide)), List.forall_mem_cons.mpr ⟨
  (gs_aload_n dL_law_242 rfl), List.forall_mem_cons.mpr ⟨
  (gs_aload_n dL_law_243 rfl), List.forall_mem_cons.mpr ⟨
  (gs_iload_n dL_law_244 rfl), List.forall_mem_cons.mpr ⟨
  (gs_iconst dL_law_245 rfl), List.forall_mem_cons.mpr ⟨
  (gs_iadd dL_law_246), List.forall_mem_cons.mpr ⟨
  (gs_sldX dL_law_247), List.forall_mem_cons.mpr ⟨
  (gs_aload_n dL_law_248 rfl), List.forall_mem_cons.mpr ⟨
  (gs_iload_n dL_law_249 rfl), List.forall_mem_cons.mpr ⟨
  (gs_iconst dL_law_250 rfl), List.forall_mem_cons.mpr ⟨
  (gs_iadd dL_law_251), List.forall_mem_cons.mpr ⟨
  (gs_sldX dL_law_252), List.forall_mem_cons.mpr ⟨
  (gs_cv dL_law_253 (fun q hq => by
      simp only [List.mem_cons, List.not_mem_nil, or_false] at hq
      subst hq
      exact Or.inl ⟨_, rfl, by decide, by decide +kernel, by decide +kernel, List.forall_mem_cons.mpr ⟨gx_mem 494 (by decide +kernel) (by decide +kernel), List.forall_mem_cons.mpr ⟨gx_mem 495 (by decide +kernel) (by decide +kernel), List.forall_mem_cons.mpr ⟨gx_mem 496 (by decide +kernel) (by decide +kernel), List.forall_mem_cons.mpr ⟨gx_mem 84 (by decide +kernel) (by decide +kernel), List.forall_mem_cons.mpr ⟨cw_497, fun _ h => absurd h List.not_mem_nil⟩⟩⟩⟩⟩⟩)), List.forall_mem_cons.mpr ⟨
  (gs_aload_n dL_law_256 rfl), List.forall_mem_cons.mpr ⟨
  (gs_aload_n dL_law_257 rfl), List.forall_mem_cons.mpr ⟨
  (gs_iload_n dL_law_258 rfl), List.forall_mem_cons.mpr ⟨
  (gs_iconst dL_law_259 rfl), List.forall_mem_cons.mpr ⟨
  (gs_iadd dL_law_260), List.forall_mem_cons.mpr ⟨
  (gs_sldX dL_law_261), List.forall_mem_cons.mpr ⟨
  (gs_aload_n dL_law_262 rfl), List.forall_mem_cons.mpr ⟨
  (gs_iload_n dL_law_263 rfl), fun _ h => absurd h List.not_mem_nil⟩⟩⟩⟩⟩⟩⟩⟩⟩⟩⟩⟩⟩⟩⟩⟩⟩⟩⟩⟩⟩⟩⟩⟩⟩⟩⟩⟩⟩⟩⟩⟩
set_option maxRecDepth 20000 in
theorem kt_L_law_3 (g : gx_T) : ∀ q ∈ k_L_law_3 (gx_n g) (gx_x g), gx_E g gc_md RL code 4 (some .boolean) "law" q.1 q.2 := List.forall_mem_cons.mpr ⟨(gs_iconst dL_law_264 rfl), List.forall_mem_cons.mpr ⟨
  (gs_iadd dL_law_265), List.forall_mem_cons.mpr ⟨
  (gs_sldX dL_law_266), List.forall_mem_cons.mpr ⟨
  (gs_cv dL_law_267 (fun q hq => by
      simp only [List.mem_cons, List.not_mem_nil, or_false] at hq
      subst hq
      exact Or.inl ⟨_, rfl, by decide, by decide +kernel, by decide +kernel, List.forall_mem_cons.mpr ⟨gx_mem 1244 (by decide +kernel) (by decide +kernel), List.forall_mem_cons.mpr ⟨gx_mem 1245 (by decide +kernel) (by decide +kernel), List.forall_mem_cons.mpr ⟨gx_mem 1246 (by decide +kernel) (by decide +kernel), List.forall_mem_cons.mpr ⟨gx_mem 96 (by decide +kernel) (by decide +kernel), List.forall_mem_cons.mpr ⟨cw_1247, fun _ h => absurd h List.not_mem_nil⟩⟩⟩⟩⟩⟩)), List.forall_mem_cons.mpr ⟨
  (gs_icmp_eq dL_law_270 rfl), List.forall_mem_cons.mpr ⟨
  (gs_iconst dL_law_273 rfl), List.forall_mem_cons.mpr ⟨
  (gs_rn dL_law_274 (by decide)), List.forall_mem_cons.mpr ⟨
  (gs_aload_n dL_law_275 rfl), List.forall_mem_cons.mpr ⟨
  (gs_aload_n dL_law_276 rfl), List.forall_mem_cons.mpr ⟨
  (gs_iload_n dL_law_277 rfl), List.forall_mem_cons.mpr ⟨
  (gs_iconst dL_law_278 rfl), List.forall_mem_cons.mpr ⟨
  (gs_iadd dL_law_279), List.forall_mem_cons.mpr ⟨
  (gs_sldX dL_law_280), List.forall_mem_cons.mpr ⟨
  (gs_aload_n dL_law_281 rfl), List.forall_mem_cons.mpr ⟨
  (gs_iload_n dL_law_282 rfl), List.forall_mem_cons.mpr ⟨
  (gs_iconst dL_law_283 rfl), List.forall_mem_cons.mpr ⟨
  (gs_iadd dL_law_284), List.forall_mem_cons.mpr ⟨
  (gs_sldX dL_law_285), List.forall_mem_cons.mpr ⟨
  (gs_cv dL_law_286 (fun q hq => by
      simp only [List.mem_cons, List.not_mem_nil, or_false] at hq
      subst hq
      exact Or.inl ⟨_, rfl, by decide, by decide +kernel, by decide +kernel, List.forall_mem_cons.mpr ⟨gx_mem 506 (by decide +kernel) (by decide +kernel), List.forall_mem_cons.mpr ⟨gx_mem 507 (by decide +kernel) (by decide +kernel), List.forall_mem_cons.mpr ⟨gx_mem 508 (by decide +kernel) (by decide +kernel), List.forall_mem_cons.mpr ⟨gx_mem 84 (by decide +kernel) (by decide +kernel), List.forall_mem_cons.mpr ⟨cw_509, fun _ h => absurd h List.not_mem_nil⟩⟩⟩⟩⟩⟩)), List.forall_mem_cons.mpr ⟨
  (gs_aload_n dL_law_289 rfl), List.forall_mem_cons.mpr ⟨
  (gs_aload_n dL_law_290 rfl), List.forall_mem_cons.mpr ⟨
  (gs_iload_n dL_law_291 rfl), List.forall_mem_cons.mpr ⟨
  (gs_iconst dL_law_292 rfl), List.forall_mem_cons.mpr ⟨
  (gs_iadd dL_law_293), List.forall_mem_cons.mpr ⟨
  (gs_sldX dL_law_294), List.forall_mem_cons.mpr ⟨
  (gs_aload_n dL_law_295 rfl), List.forall_mem_cons.mpr ⟨
  (gs_iload_n dL_law_296 rfl), List.forall_mem_cons.mpr ⟨
  (gs_iconst dL_law_297 rfl), List.forall_mem_cons.mpr ⟨
  (gs_iadd dL_law_298), List.forall_mem_cons.mpr ⟨
  (gs_sldX dL_law_299), List.forall_mem_cons.mpr ⟨
  (gs_cv dL_law_300 (fun q hq => by
      simp only [List.mem_cons, List.not_mem_nil, or_false] at hq
      subst hq
      exact Or.inl ⟨_, rfl, by decide, by decide +kernel, by decide +kernel, List.forall_mem_cons.mpr ⟨gx_mem 1466 (by decide +kernel) (by decide +kernel), List.forall_mem_cons.mpr ⟨gx_mem 1467 (by decide +kernel) (by decide +kernel), List.forall_mem_cons.mpr ⟨gx_mem 1468 (by decide +kernel) (by decide +kernel), List.forall_mem_cons.mpr ⟨gx_mem 96 (by decide +kernel) (by decide +kernel), List.forall_mem_cons.mpr ⟨cw_1469, fun _ h => absurd h List.not_mem_nil⟩⟩⟩⟩⟩⟩)), List.forall_mem_cons.mpr ⟨
  (gs_icmp_eq dL_law_303 rfl), fun _ h => absurd h List.not_mem_nil⟩⟩⟩⟩⟩⟩⟩⟩⟩⟩⟩⟩⟩⟩⟩⟩⟩⟩⟩⟩⟩⟩⟩⟩⟩⟩⟩⟩⟩⟩⟩⟩
set_option maxRecDepth 20000 in
theorem kt_L_law_4 (g : gx_T) : ∀ q ∈ k_L_law_4 (gx_n g) (gx_x g), gx_E g gc_md RL code 4 (some .boolean) "law" q.1 q.2 := List.forall_mem_cons.mpr ⟨(gs_iconst dL_law_306 rfl), List.forall_mem_cons.mpr ⟨
  (gs_rn dL_law_307 (by decide)), List.forall_mem_cons.mpr ⟨
  (gs_aload_n dL_law_308 rfl), List.forall_mem_cons.mpr ⟨
  (gs_aload_n dL_law_309 rfl), List.forall_mem_cons.mpr ⟨
  (gs_iload_n dL_law_310 rfl), List.forall_mem_cons.mpr ⟨
  (gs_iconst dL_law_311 rfl), List.forall_mem_cons.mpr ⟨
  (gs_iadd dL_law_312), List.forall_mem_cons.mpr ⟨
  (gs_sldX dL_law_313), List.forall_mem_cons.mpr ⟨
  (gs_aload_n dL_law_314 rfl), List.forall_mem_cons.mpr ⟨
  (gs_iload_n dL_law_315 rfl), List.forall_mem_cons.mpr ⟨
  (gs_iconst dL_law_316 rfl), List.forall_mem_cons.mpr ⟨
  (gs_iadd dL_law_317), List.forall_mem_cons.mpr ⟨
  (gs_sldX dL_law_318), List.forall_mem_cons.mpr ⟨
  (gs_cv dL_law_319 (fun q hq => by
      simp only [List.mem_cons, List.not_mem_nil, or_false] at hq
      subst hq
      exact Or.inl ⟨_, rfl, by decide, by decide +kernel, by decide +kernel, List.forall_mem_cons.mpr ⟨gx_mem 556 (by decide +kernel) (by decide +kernel), List.forall_mem_cons.mpr ⟨gx_mem 557 (by decide +kernel) (by decide +kernel), List.forall_mem_cons.mpr ⟨gx_mem 558 (by decide +kernel) (by decide +kernel), List.forall_mem_cons.mpr ⟨gx_mem 84 (by decide +kernel) (by decide +kernel), List.forall_mem_cons.mpr ⟨cw_559, fun _ h => absurd h List.not_mem_nil⟩⟩⟩⟩⟩⟩)), List.forall_mem_cons.mpr ⟨
  (gs_aload_n dL_law_322 rfl), List.forall_mem_cons.mpr ⟨
  (gs_aload_n dL_law_323 rfl), List.forall_mem_cons.mpr ⟨
  (gs_iload_n dL_law_324 rfl), List.forall_mem_cons.mpr ⟨
  (gs_iconst dL_law_325 rfl), List.forall_mem_cons.mpr ⟨
  (gs_iadd dL_law_326), List.forall_mem_cons.mpr ⟨
  (gs_sldX dL_law_327), List.forall_mem_cons.mpr ⟨
  (gs_aload_n dL_law_328 rfl), List.forall_mem_cons.mpr ⟨
  (gs_iload_n dL_law_329 rfl), List.forall_mem_cons.mpr ⟨
  (gs_iconst dL_law_330 rfl), List.forall_mem_cons.mpr ⟨
  (gs_iadd dL_law_331), List.forall_mem_cons.mpr ⟨
  (gs_sldX dL_law_332), List.forall_mem_cons.mpr ⟨
  (gs_cv dL_law_333 (fun q hq => by
      simp only [List.mem_cons, List.not_mem_nil, or_false] at hq
      subst hq
      exact Or.inl ⟨_, rfl, by decide, by decide +kernel, by decide +kernel, List.forall_mem_cons.mpr ⟨gx_mem 1256 (by decide +kernel) (by decide +kernel), List.forall_mem_cons.mpr ⟨gx_mem 1257 (by decide +kernel) (by decide +kernel), List.forall_mem_cons.mpr ⟨gx_mem 1258 (by decide +kernel) (by decide +kernel), List.forall_mem_cons.mpr ⟨gx_mem 96 (by decide +kernel) (by decide +kernel), List.forall_mem_cons.mpr ⟨cw_1259, fun _ h => absurd h List.not_mem_nil⟩⟩⟩⟩⟩⟩)), List.forall_mem_cons.mpr ⟨
  (gs_icmp_eq dL_law_336 rfl), List.forall_mem_cons.mpr ⟨
  (gs_iconst dL_law_339 rfl), List.forall_mem_cons.mpr ⟨
  (gs_rn dL_law_340 (by decide)), List.forall_mem_cons.mpr ⟨
  (gs_aload_n dL_law_341 rfl), List.forall_mem_cons.mpr ⟨
  (gs_aload_n dL_law_342 rfl), List.forall_mem_cons.mpr ⟨
  (gs_iload_n dL_law_343 rfl), fun _ h => absurd h List.not_mem_nil⟩⟩⟩⟩⟩⟩⟩⟩⟩⟩⟩⟩⟩⟩⟩⟩⟩⟩⟩⟩⟩⟩⟩⟩⟩⟩⟩⟩⟩⟩⟩⟩
set_option maxRecDepth 20000 in
theorem kt_L_law_5 (g : gx_T) : ∀ q ∈ k_L_law_5 (gx_n g) (gx_x g), gx_E g gc_md RL code 4 (some .boolean) "law" q.1 q.2 := List.forall_mem_cons.mpr ⟨(gs_iconst dL_law_344 rfl), List.forall_mem_cons.mpr ⟨
  (gs_iadd dL_law_345), List.forall_mem_cons.mpr ⟨
  (gs_sldX dL_law_346), List.forall_mem_cons.mpr ⟨
  (gs_aload_n dL_law_347 rfl), List.forall_mem_cons.mpr ⟨
  (gs_iload_n dL_law_348 rfl), List.forall_mem_cons.mpr ⟨
  (gs_iconst dL_law_349 rfl), List.forall_mem_cons.mpr ⟨
  (gs_iadd dL_law_350), List.forall_mem_cons.mpr ⟨
  (gs_sldX dL_law_351), List.forall_mem_cons.mpr ⟨
  (gs_cv dL_law_352 (fun q hq => by
      simp only [List.mem_cons, List.not_mem_nil, or_false] at hq
      subst hq
      exact Or.inl ⟨_, rfl, by decide, by decide +kernel, by decide +kernel, List.forall_mem_cons.mpr ⟨gx_mem 560 (by decide +kernel) (by decide +kernel), List.forall_mem_cons.mpr ⟨gx_mem 561 (by decide +kernel) (by decide +kernel), List.forall_mem_cons.mpr ⟨gx_mem 562 (by decide +kernel) (by decide +kernel), List.forall_mem_cons.mpr ⟨gx_mem 84 (by decide +kernel) (by decide +kernel), List.forall_mem_cons.mpr ⟨cw_563, fun _ h => absurd h List.not_mem_nil⟩⟩⟩⟩⟩⟩)), List.forall_mem_cons.mpr ⟨
  (gs_aload_n dL_law_355 rfl), List.forall_mem_cons.mpr ⟨
  (gs_aload_n dL_law_356 rfl), List.forall_mem_cons.mpr ⟨
  (gs_iload_n dL_law_357 rfl), List.forall_mem_cons.mpr ⟨
  (gs_iconst dL_law_358 rfl), List.forall_mem_cons.mpr ⟨
  (gs_iadd dL_law_359), List.forall_mem_cons.mpr ⟨
  (gs_sldX dL_law_360), List.forall_mem_cons.mpr ⟨
  (gs_aload_n dL_law_361 rfl), List.forall_mem_cons.mpr ⟨
  (gs_iload_n dL_law_362 rfl), List.forall_mem_cons.mpr ⟨
  (gs_iconst dL_law_363 rfl), List.forall_mem_cons.mpr ⟨
  (gs_iadd dL_law_364), List.forall_mem_cons.mpr ⟨
  (gs_sldX dL_law_365), List.forall_mem_cons.mpr ⟨
  (gs_cv dL_law_366 (fun q hq => by
      simp only [List.mem_cons, List.not_mem_nil, or_false] at hq
      subst hq
      exact Or.inl ⟨_, rfl, by decide, by decide +kernel, by decide +kernel, List.forall_mem_cons.mpr ⟨gx_mem 1264 (by decide +kernel) (by decide +kernel), List.forall_mem_cons.mpr ⟨gx_mem 1265 (by decide +kernel) (by decide +kernel), List.forall_mem_cons.mpr ⟨gx_mem 1266 (by decide +kernel) (by decide +kernel), List.forall_mem_cons.mpr ⟨gx_mem 96 (by decide +kernel) (by decide +kernel), List.forall_mem_cons.mpr ⟨cw_1267, fun _ h => absurd h List.not_mem_nil⟩⟩⟩⟩⟩⟩)), List.forall_mem_cons.mpr ⟨
  (gs_icmp_eq dL_law_369 rfl), List.forall_mem_cons.mpr ⟨
  (gs_iconst dL_law_372 rfl), List.forall_mem_cons.mpr ⟨
  (gs_rn dL_law_373 (by decide)), List.forall_mem_cons.mpr ⟨
  (gs_aload_n dL_law_374 rfl), List.forall_mem_cons.mpr ⟨
  (gs_aload_n dL_law_375 rfl), List.forall_mem_cons.mpr ⟨
  (gs_iload_n dL_law_376 rfl), List.forall_mem_cons.mpr ⟨
  (gs_iconst dL_law_377 rfl), List.forall_mem_cons.mpr ⟨
  (gs_iadd dL_law_378), List.forall_mem_cons.mpr ⟨
  (gs_sldX dL_law_379), List.forall_mem_cons.mpr ⟨
  (gs_aload_n dL_law_380 rfl), List.forall_mem_cons.mpr ⟨
  (gs_iload_n dL_law_381 rfl), fun _ h => absurd h List.not_mem_nil⟩⟩⟩⟩⟩⟩⟩⟩⟩⟩⟩⟩⟩⟩⟩⟩⟩⟩⟩⟩⟩⟩⟩⟩⟩⟩⟩⟩⟩⟩⟩⟩
set_option maxRecDepth 20000 in
theorem kt_L_law_6 (g : gx_T) : ∀ q ∈ k_L_law_6 (gx_n g) (gx_x g), gx_E g gc_md RL code 4 (some .boolean) "law" q.1 q.2 := List.forall_mem_cons.mpr ⟨(gs_iconst dL_law_382 rfl), List.forall_mem_cons.mpr ⟨
  (gs_iadd dL_law_383), List.forall_mem_cons.mpr ⟨
  (gs_sldX dL_law_384), List.forall_mem_cons.mpr ⟨
  (gs_aload_n dL_law_385 rfl), List.forall_mem_cons.mpr ⟨
  (gs_iload_n dL_law_386 rfl), List.forall_mem_cons.mpr ⟨
  (gs_iconst dL_law_387 rfl), List.forall_mem_cons.mpr ⟨
  (gs_iadd dL_law_388), List.forall_mem_cons.mpr ⟨
  (gs_sldX dL_law_389), List.forall_mem_cons.mpr ⟨
  (gs_cv dL_law_390 (fun q hq => by
      simp only [List.mem_cons, List.not_mem_nil, or_false] at hq
      subst hq
      exact Or.inl ⟨_, rfl, by decide, by decide +kernel, by decide +kernel, List.forall_mem_cons.mpr ⟨gx_mem 564 (by decide +kernel) (by decide +kernel), List.forall_mem_cons.mpr ⟨gx_mem 565 (by decide +kernel) (by decide +kernel), List.forall_mem_cons.mpr ⟨gx_mem 566 (by decide +kernel) (by decide +kernel), List.forall_mem_cons.mpr ⟨gx_mem 84 (by decide +kernel) (by decide +kernel), List.forall_mem_cons.mpr ⟨cw_567, fun _ h => absurd h List.not_mem_nil⟩⟩⟩⟩⟩⟩)), List.forall_mem_cons.mpr ⟨
  (gs_aload_n dL_law_393 rfl), List.forall_mem_cons.mpr ⟨
  (gs_aload_n dL_law_394 rfl), List.forall_mem_cons.mpr ⟨
  (gs_iload_n dL_law_395 rfl), List.forall_mem_cons.mpr ⟨
  (gs_iconst dL_law_396 rfl), List.forall_mem_cons.mpr ⟨
  (gs_iadd dL_law_397), List.forall_mem_cons.mpr ⟨
  (gs_sldX dL_law_398), List.forall_mem_cons.mpr ⟨
  (gs_aload_n dL_law_399 rfl), List.forall_mem_cons.mpr ⟨
  (gs_iload_n dL_law_400 rfl), List.forall_mem_cons.mpr ⟨
  (gs_iconst dL_law_401 rfl), List.forall_mem_cons.mpr ⟨
  (gs_iadd dL_law_402), List.forall_mem_cons.mpr ⟨
  (gs_sldX dL_law_403), List.forall_mem_cons.mpr ⟨
  (gs_aload_n dL_law_404 rfl), List.forall_mem_cons.mpr ⟨
  (gs_iload_n dL_law_405 rfl), List.forall_mem_cons.mpr ⟨
  (gs_iconst dL_law_406 rfl), List.forall_mem_cons.mpr ⟨
  (gs_iadd dL_law_407), List.forall_mem_cons.mpr ⟨
  (gs_sldX dL_law_408), List.forall_mem_cons.mpr ⟨
  (gs_cv dL_law_409 (fun q hq => by
      simp only [List.mem_cons, List.not_mem_nil, or_false] at hq
      subst hq
      exact Or.inl ⟨_, rfl, by decide, by decide +kernel, by decide +kernel, List.forall_mem_cons.mpr ⟨gx_mem 1268 (by decide +kernel) (by decide +kernel), List.forall_mem_cons.mpr ⟨gx_mem 1269 (by decide +kernel) (by decide +kernel), List.forall_mem_cons.mpr ⟨gx_mem 1270 (by decide +kernel) (by decide +kernel), List.forall_mem_cons.mpr ⟨gx_mem 96 (by decide +kernel) (by decide +kernel), List.forall_mem_cons.mpr ⟨cw_1271, fun _ h => absurd h List.not_mem_nil⟩⟩⟩⟩⟩⟩)), List.forall_mem_cons.mpr ⟨
  (gs_icmp_eq dL_law_412 rfl), List.forall_mem_cons.mpr ⟨
  (gs_iconst dL_law_415 rfl), List.forall_mem_cons.mpr ⟨
  (gs_rn dL_law_416 (by decide)), List.forall_mem_cons.mpr ⟨
  (gs_aload_n dL_law_417 rfl), List.forall_mem_cons.mpr ⟨
  (gs_aload_n dL_law_418 rfl), List.forall_mem_cons.mpr ⟨
  (gs_iload_n dL_law_419 rfl), fun _ h => absurd h List.not_mem_nil⟩⟩⟩⟩⟩⟩⟩⟩⟩⟩⟩⟩⟩⟩⟩⟩⟩⟩⟩⟩⟩⟩⟩⟩⟩⟩⟩⟩⟩⟩⟩⟩
set_option maxRecDepth 20000 in
theorem kt_L_law_7 (g : gx_T) : ∀ q ∈ k_L_law_7 (gx_n g) (gx_x g), gx_E g gc_md RL code 4 (some .boolean) "law" q.1 q.2 := List.forall_mem_cons.mpr ⟨(gs_iconst dL_law_420 rfl), List.forall_mem_cons.mpr ⟨
  (gs_iadd dL_law_421), List.forall_mem_cons.mpr ⟨
  (gs_sldX dL_law_422), List.forall_mem_cons.mpr ⟨
  (gs_cv dL_law_423 (fun q hq => by
      simp only [List.mem_cons, List.not_mem_nil, or_false] at hq
      subst hq
      exact Or.inl ⟨_, rfl, by decide, by decide +kernel, by decide +kernel, List.forall_mem_cons.mpr ⟨gx_mem 568 (by decide +kernel) (by decide +kernel), List.forall_mem_cons.mpr ⟨gx_mem 569 (by decide +kernel) (by decide +kernel), List.forall_mem_cons.mpr ⟨gx_mem 570 (by decide +kernel) (by decide +kernel), List.forall_mem_cons.mpr ⟨gx_mem 84 (by decide +kernel) (by decide +kernel), List.forall_mem_cons.mpr ⟨cw_571, fun _ h => absurd h List.not_mem_nil⟩⟩⟩⟩⟩⟩)), List.forall_mem_cons.mpr ⟨
  (gs_aload_n dL_law_426 rfl), List.forall_mem_cons.mpr ⟨
  (gs_aload_n dL_law_427 rfl), List.forall_mem_cons.mpr ⟨
  (gs_iload_n dL_law_428 rfl), List.forall_mem_cons.mpr ⟨
  (gs_iconst dL_law_429 rfl), List.forall_mem_cons.mpr ⟨
  (gs_iadd dL_law_430), List.forall_mem_cons.mpr ⟨
  (gs_sldX dL_law_431), List.forall_mem_cons.mpr ⟨
  (gs_cv dL_law_432 (fun q hq => by
      simp only [List.mem_cons, List.not_mem_nil, or_false] at hq
      subst hq
      exact Or.inl ⟨_, rfl, by decide, by decide +kernel, by decide +kernel, List.forall_mem_cons.mpr ⟨gx_mem 1272 (by decide +kernel) (by decide +kernel), List.forall_mem_cons.mpr ⟨gx_mem 1273 (by decide +kernel) (by decide +kernel), List.forall_mem_cons.mpr ⟨gx_mem 1274 (by decide +kernel) (by decide +kernel), List.forall_mem_cons.mpr ⟨gx_mem 96 (by decide +kernel) (by decide +kernel), List.forall_mem_cons.mpr ⟨cw_1275, fun _ h => absurd h List.not_mem_nil⟩⟩⟩⟩⟩⟩)), List.forall_mem_cons.mpr ⟨
  (gs_icmp_eq dL_law_435 rfl), List.forall_mem_cons.mpr ⟨
  (gs_iconst dL_law_438 rfl), List.forall_mem_cons.mpr ⟨
  (gs_rn dL_law_439 (by decide)), List.forall_mem_cons.mpr ⟨
  (gs_aload_n dL_law_440 rfl), List.forall_mem_cons.mpr ⟨
  (gs_cv dL_law_441 (fun q hq => by
      simp only [List.mem_cons, List.not_mem_nil, or_false] at hq
      subst hq
      exact Or.inl ⟨_, rfl, by decide, by decide +kernel, by decide +kernel, List.forall_mem_cons.mpr ⟨gx_mem 572 (by decide +kernel) (by decide +kernel), List.forall_mem_cons.mpr ⟨gx_mem 573 (by decide +kernel) (by decide +kernel), List.forall_mem_cons.mpr ⟨gx_mem 574 (by decide +kernel) (by decide +kernel), List.forall_mem_cons.mpr ⟨gx_mem 84 (by decide +kernel) (by decide +kernel), List.forall_mem_cons.mpr ⟨cw_575, fun _ h => absurd h List.not_mem_nil⟩⟩⟩⟩⟩⟩)), List.forall_mem_cons.mpr ⟨
  (gs_aload_n dL_law_444 rfl), List.forall_mem_cons.mpr ⟨
  (gs_cv dL_law_445 (fun q hq => by
      simp only [List.mem_cons, List.not_mem_nil, or_false] at hq
      subst hq
      exact Or.inl ⟨_, rfl, by decide, by decide +kernel, by decide +kernel, List.forall_mem_cons.mpr ⟨gx_mem 1276 (by decide +kernel) (by decide +kernel), List.forall_mem_cons.mpr ⟨gx_mem 1277 (by decide +kernel) (by decide +kernel), List.forall_mem_cons.mpr ⟨gx_mem 1278 (by decide +kernel) (by decide +kernel), List.forall_mem_cons.mpr ⟨gx_mem 96 (by decide +kernel) (by decide +kernel), List.forall_mem_cons.mpr ⟨cw_1279, fun _ h => absurd h List.not_mem_nil⟩⟩⟩⟩⟩⟩)), List.forall_mem_cons.mpr ⟨
  (gs_icmp_eq dL_law_448 rfl), List.forall_mem_cons.mpr ⟨
  (gs_iconst dL_law_451 rfl), List.forall_mem_cons.mpr ⟨
  (gs_rn dL_law_452 (by decide)), List.forall_mem_cons.mpr ⟨
  (gs_aload_n dL_law_453 rfl), List.forall_mem_cons.mpr ⟨
  (gs_aload_n dL_law_454 rfl), List.forall_mem_cons.mpr ⟨
  (gs_iload_n dL_law_455 rfl), List.forall_mem_cons.mpr ⟨
  (gs_iconst dL_law_456 rfl), List.forall_mem_cons.mpr ⟨
  (gs_iadd dL_law_457), List.forall_mem_cons.mpr ⟨
  (gs_sldX dL_law_458), List.forall_mem_cons.mpr ⟨
  (gs_cv dL_law_459 (fun q hq => by
      simp only [List.mem_cons, List.not_mem_nil, or_false] at hq
      subst hq
      exact Or.inl ⟨_, rfl, by decide, by decide +kernel, by decide +kernel, List.forall_mem_cons.mpr ⟨gx_mem 733 (by decide +kernel) (by decide +kernel), List.forall_mem_cons.mpr ⟨gx_mem 734 (by decide +kernel) (by decide +kernel), List.forall_mem_cons.mpr ⟨gx_mem 735 (by decide +kernel) (by decide +kernel), List.forall_mem_cons.mpr ⟨gx_mem 84 (by decide +kernel) (by decide +kernel), List.forall_mem_cons.mpr ⟨cw_736, fun _ h => absurd h List.not_mem_nil⟩⟩⟩⟩⟩⟩)), List.forall_mem_cons.mpr ⟨
  (gs_aload_n dL_law_462 rfl), List.forall_mem_cons.mpr ⟨
  (gs_aload_n dL_law_463 rfl), List.forall_mem_cons.mpr ⟨
  (gs_iload_n dL_law_464 rfl), List.forall_mem_cons.mpr ⟨
  (gs_iconst dL_law_465 rfl), fun _ h => absurd h List.not_mem_nil⟩⟩⟩⟩⟩⟩⟩⟩⟩⟩⟩⟩⟩⟩⟩⟩⟩⟩⟩⟩⟩⟩⟩⟩⟩⟩⟩⟩⟩⟩⟩⟩
set_option maxRecDepth 20000 in
theorem kt_L_law_8 (g : gx_T) : ∀ q ∈ k_L_law_8 (gx_n g) (gx_x g), gx_E g gc_md RL code 4 (some .boolean) "law" q.1 q.2 := List.forall_mem_cons.mpr ⟨(gs_iadd dL_law_466), List.forall_mem_cons.mpr ⟨
  (gs_sldX dL_law_467), List.forall_mem_cons.mpr ⟨
  (gs_cv dL_law_468 (fun q hq => by
      simp only [List.mem_cons, List.not_mem_nil, or_false] at hq
      subst hq
      exact Or.inl ⟨_, rfl, by decide, by decide +kernel, by decide +kernel, List.forall_mem_cons.mpr ⟨gx_mem 1412 (by decide +kernel) (by decide +kernel), List.forall_mem_cons.mpr ⟨gx_mem 1413 (by decide +kernel) (by decide +kernel), List.forall_mem_cons.mpr ⟨gx_mem 1414 (by decide +kernel) (by decide +kernel), List.forall_mem_cons.mpr ⟨gx_mem 96 (by decide +kernel) (by decide +kernel), List.forall_mem_cons.mpr ⟨cw_1415, fun _ h => absurd h List.not_mem_nil⟩⟩⟩⟩⟩⟩)), List.forall_mem_cons.mpr ⟨
  (gs_icmp_eq dL_law_471 rfl), List.forall_mem_cons.mpr ⟨
  (gs_iconst dL_law_474 rfl), List.forall_mem_cons.mpr ⟨
  (gs_rn dL_law_475 (by decide)), List.forall_mem_cons.mpr ⟨
  (gs_aload_n dL_law_476 rfl), List.forall_mem_cons.mpr ⟨
  (gs_aload_n dL_law_477 rfl), List.forall_mem_cons.mpr ⟨
  (gs_iload_n dL_law_478 rfl), List.forall_mem_cons.mpr ⟨
  (gs_iconst dL_law_479 rfl), List.forall_mem_cons.mpr ⟨
  (gs_iadd dL_law_480), List.forall_mem_cons.mpr ⟨
  (gs_sldX dL_law_481), List.forall_mem_cons.mpr ⟨
  (gs_cv dL_law_482 (fun q hq => by
      simp only [List.mem_cons, List.not_mem_nil, or_false] at hq
      subst hq
      exact Or.inl ⟨_, rfl, by decide, by decide +kernel, by decide +kernel, List.forall_mem_cons.mpr ⟨gx_mem 741 (by decide +kernel) (by decide +kernel), List.forall_mem_cons.mpr ⟨gx_mem 742 (by decide +kernel) (by decide +kernel), List.forall_mem_cons.mpr ⟨gx_mem 743 (by decide +kernel) (by decide +kernel), List.forall_mem_cons.mpr ⟨gx_mem 84 (by decide +kernel) (by decide +kernel), List.forall_mem_cons.mpr ⟨cw_744, fun _ h => absurd h List.not_mem_nil⟩⟩⟩⟩⟩⟩)), List.forall_mem_cons.mpr ⟨
  (gs_aload_n dL_law_485 rfl), List.forall_mem_cons.mpr ⟨
  (gs_aload_n dL_law_486 rfl), List.forall_mem_cons.mpr ⟨
  (gs_iload_n dL_law_487 rfl), List.forall_mem_cons.mpr ⟨
  (gs_iconst dL_law_488 rfl), List.forall_mem_cons.mpr ⟨
  (gs_iadd dL_law_489), List.forall_mem_cons.mpr ⟨
  (gs_sldX dL_law_490), List.forall_mem_cons.mpr ⟨
  (gs_cv dL_law_491 (fun q hq => by
      simp only [List.mem_cons, List.not_mem_nil, or_false] at hq
      subst hq
      exact Or.inl ⟨_, rfl, by decide, by decide +kernel, by decide +kernel, List.forall_mem_cons.mpr ⟨gx_mem 1376 (by decide +kernel) (by decide +kernel), List.forall_mem_cons.mpr ⟨gx_mem 1377 (by decide +kernel) (by decide +kernel), List.forall_mem_cons.mpr ⟨gx_mem 1378 (by decide +kernel) (by decide +kernel), List.forall_mem_cons.mpr ⟨gx_mem 96 (by decide +kernel) (by decide +kernel), List.forall_mem_cons.mpr ⟨cw_1379, fun _ h => absurd h List.not_mem_nil⟩⟩⟩⟩⟩⟩)), List.forall_mem_cons.mpr ⟨
  (gs_icmp_eq dL_law_494 rfl), List.forall_mem_cons.mpr ⟨
  (gs_iconst dL_law_497 rfl), List.forall_mem_cons.mpr ⟨
  (gs_rn dL_law_498 (by decide)), List.forall_mem_cons.mpr ⟨
  (gs_aload_n dL_law_499 rfl), List.forall_mem_cons.mpr ⟨
  (gs_aload_n dL_law_500 rfl), List.forall_mem_cons.mpr ⟨
  (gs_iload_n dL_law_501 rfl), List.forall_mem_cons.mpr ⟨
  (gs_iconst dL_law_502 rfl), List.forall_mem_cons.mpr ⟨
  (gs_iadd dL_law_503), List.forall_mem_cons.mpr ⟨
  (gs_sldX dL_law_504), List.forall_mem_cons.mpr ⟨
  (gs_aload_n dL_law_505 rfl), List.forall_mem_cons.mpr ⟨
  (gs_iload_n dL_law_506 rfl), List.forall_mem_cons.mpr ⟨
  (gs_iconst dL_law_507 rfl), fun _ h => absurd h List.not_mem_nil⟩⟩⟩⟩⟩⟩⟩⟩⟩⟩⟩⟩⟩⟩⟩⟩⟩⟩⟩⟩⟩⟩⟩⟩⟩⟩⟩⟩⟩⟩⟩⟩
set_option maxRecDepth 20000 in
theorem kt_L_law_9 (g : gx_T) : ∀ q ∈ k_L_law_9 (gx_n g) (gx_x g), gx_E g gc_md RL code 4 (some .boolean) "law" q.1 q.2 := List.forall_mem_cons.mpr ⟨(gs_iadd dL_law_508), List.forall_mem_cons.mpr ⟨
  (gs_sldX dL_law_509), List.forall_mem_cons.mpr ⟨
  (gs_cv dL_law_510 (fun q hq => by
      simp only [List.mem_cons, List.not_mem_nil, or_false] at hq
      subst hq
      exact Or.inl ⟨_, rfl, by decide, by decide +kernel, by decide +kernel, List.forall_mem_cons.mpr ⟨gx_mem 745 (by decide +kernel) (by decide +kernel), List.forall_mem_cons.mpr ⟨gx_mem 746 (by decide +kernel) (by decide +kernel), List.forall_mem_cons.mpr ⟨gx_mem 747 (by decide +kernel) (by decide +kernel), List.forall_mem_cons.mpr ⟨gx_mem 84 (by decide +kernel) (by decide +kernel), List.forall_mem_cons.mpr ⟨cw_748, fun _ h => absurd h List.not_mem_nil⟩⟩⟩⟩⟩⟩)), List.forall_mem_cons.mpr ⟨
  (gs_aload_n dL_law_513 rfl), List.forall_mem_cons.mpr ⟨
  (gs_aload_n dL_law_514 rfl), List.forall_mem_cons.mpr ⟨
  (gs_iload_n dL_law_515 rfl), List.forall_mem_cons.mpr ⟨
  (gs_iconst dL_law_516 rfl), List.forall_mem_cons.mpr ⟨
  (gs_iadd dL_law_517), List.forall_mem_cons.mpr ⟨
  (gs_sldX dL_law_518), List.forall_mem_cons.mpr ⟨
  (gs_aload_n dL_law_519 rfl), List.forall_mem_cons.mpr ⟨
  (gs_iload_n dL_law_520 rfl), List.forall_mem_cons.mpr ⟨
  (gs_iconst dL_law_521 rfl), List.forall_mem_cons.mpr ⟨
  (gs_iadd dL_law_522), List.forall_mem_cons.mpr ⟨
  (gs_sldX dL_law_523), List.forall_mem_cons.mpr ⟨
  (gs_cv dL_law_524 (fun q hq => by
      simp only [List.mem_cons, List.not_mem_nil, or_false] at hq
      subst hq
      exact Or.inl ⟨_, rfl, by decide, by decide +kernel, by decide +kernel, List.forall_mem_cons.mpr ⟨gx_mem 1420 (by decide +kernel) (by decide +kernel), List.forall_mem_cons.mpr ⟨gx_mem 1421 (by decide +kernel) (by decide +kernel), List.forall_mem_cons.mpr ⟨gx_mem 1422 (by decide +kernel) (by decide +kernel), List.forall_mem_cons.mpr ⟨gx_mem 96 (by decide +kernel) (by decide +kernel), List.forall_mem_cons.mpr ⟨cw_1423, fun _ h => absurd h List.not_mem_nil⟩⟩⟩⟩⟩⟩)), List.forall_mem_cons.mpr ⟨
  (gs_icmp_eq dL_law_527 rfl), List.forall_mem_cons.mpr ⟨
  (gs_iconst dL_law_530 rfl), List.forall_mem_cons.mpr ⟨
  (gs_rn dL_law_531 (by decide)), List.forall_mem_cons.mpr ⟨
  (gs_aload_n dL_law_532 rfl), List.forall_mem_cons.mpr ⟨
  (gs_aload_n dL_law_533 rfl), List.forall_mem_cons.mpr ⟨
  (gs_iload_n dL_law_534 rfl), List.forall_mem_cons.mpr ⟨
  (gs_iconst dL_law_535 rfl), List.forall_mem_cons.mpr ⟨
  (gs_iadd dL_law_536), List.forall_mem_cons.mpr ⟨
  (gs_sldX dL_law_537), List.forall_mem_cons.mpr ⟨
  (gs_aload_n dL_law_538 rfl), List.forall_mem_cons.mpr ⟨
  (gs_iload_n dL_law_539 rfl), List.forall_mem_cons.mpr ⟨
  (gs_iconst dL_law_540 rfl), List.forall_mem_cons.mpr ⟨
  (gs_iadd dL_law_541), List.forall_mem_cons.mpr ⟨
  (gs_sldX dL_law_542), List.forall_mem_cons.mpr ⟨
  (gs_cv dL_law_543 (fun q hq => by
      simp only [List.mem_cons, List.not_mem_nil, or_false] at hq
      subst hq
      exact Or.inl ⟨_, rfl, by decide, by decide +kernel, by decide +kernel, List.forall_mem_cons.mpr ⟨gx_mem 760 (by decide +kernel) (by decide +kernel), List.forall_mem_cons.mpr ⟨gx_mem 761 (by decide +kernel) (by decide +kernel), List.forall_mem_cons.mpr ⟨gx_mem 762 (by decide +kernel) (by decide +kernel), List.forall_mem_cons.mpr ⟨gx_mem 84 (by decide +kernel) (by decide +kernel), List.forall_mem_cons.mpr ⟨cw_763, fun _ h => absurd h List.not_mem_nil⟩⟩⟩⟩⟩⟩)), List.forall_mem_cons.mpr ⟨
  (gs_aload_n dL_law_546 rfl), List.forall_mem_cons.mpr ⟨
  (gs_aload_n dL_law_547 rfl), fun _ h => absurd h List.not_mem_nil⟩⟩⟩⟩⟩⟩⟩⟩⟩⟩⟩⟩⟩⟩⟩⟩⟩⟩⟩⟩⟩⟩⟩⟩⟩⟩⟩⟩⟩⟩⟩⟩
set_option maxRecDepth 20000 in
theorem kt_L_law_10 (g : gx_T) : ∀ q ∈ k_L_law_10 (gx_n g) (gx_x g), gx_E g gc_md RL code 4 (some .boolean) "law" q.1 q.2 := List.forall_mem_cons.mpr ⟨(gs_iload_n dL_law_548 rfl), List.forall_mem_cons.mpr ⟨
  (gs_iconst dL_law_549 rfl), List.forall_mem_cons.mpr ⟨
  (gs_iadd dL_law_550), List.forall_mem_cons.mpr ⟨
  (gs_sldX dL_law_551), List.forall_mem_cons.mpr ⟨
  (gs_aload_n dL_law_552 rfl), List.forall_mem_cons.mpr ⟨
  (gs_iload_n dL_law_553 rfl), List.forall_mem_cons.mpr ⟨
  (gs_iconst dL_law_554 rfl), List.forall_mem_cons.mpr ⟨
  (gs_iadd dL_law_555), List.forall_mem_cons.mpr ⟨
  (gs_sldX dL_law_556), List.forall_mem_cons.mpr ⟨
  (gs_cv dL_law_557 (fun q hq => by
      simp only [List.mem_cons, List.not_mem_nil, or_false] at hq
      subst hq
      exact Or.inl ⟨_, rfl, by decide, by decide +kernel, by decide +kernel, List.forall_mem_cons.mpr ⟨gx_mem 1441 (by decide +kernel) (by decide +kernel), List.forall_mem_cons.mpr ⟨gx_mem 1442 (by decide +kernel) (by decide +kernel), List.forall_mem_cons.mpr ⟨gx_mem 1443 (by decide +kernel) (by decide +kernel), List.forall_mem_cons.mpr ⟨gx_mem 96 (by decide +kernel) (by decide +kernel), List.forall_mem_cons.mpr ⟨cw_1444, fun _ h => absurd h List.not_mem_nil⟩⟩⟩⟩⟩⟩)), List.forall_mem_cons.mpr ⟨
  (gs_icmp_eq dL_law_560 rfl), List.forall_mem_cons.mpr ⟨
  (gs_iconst dL_law_563 rfl), List.forall_mem_cons.mpr ⟨
  (gs_rn dL_law_564 (by decide)), List.forall_mem_cons.mpr ⟨
  (gs_aload_n dL_law_565 rfl), List.forall_mem_cons.mpr ⟨
  (gs_aload_n dL_law_566 rfl), List.forall_mem_cons.mpr ⟨
  (gs_iload_n dL_law_567 rfl), List.forall_mem_cons.mpr ⟨
  (gs_iconst dL_law_568 rfl), List.forall_mem_cons.mpr ⟨
  (gs_iadd dL_law_569), List.forall_mem_cons.mpr ⟨
  (gs_sldX dL_law_570), List.forall_mem_cons.mpr ⟨
  (gs_aload_n dL_law_571 rfl), List.forall_mem_cons.mpr ⟨
  (gs_iload_n dL_law_572 rfl), List.forall_mem_cons.mpr ⟨
  (gs_iconst dL_law_573 rfl), List.forall_mem_cons.mpr ⟨
  (gs_iadd dL_law_574), List.forall_mem_cons.mpr ⟨
  (gs_sldX dL_law_575), List.forall_mem_cons.mpr ⟨
  (gs_aload_n dL_law_576 rfl), List.forall_mem_cons.mpr ⟨
  (gs_iload_n dL_law_577 rfl), List.forall_mem_cons.mpr ⟨
  (gs_iconst dL_law_578 rfl), List.forall_mem_cons.mpr ⟨
  (gs_iadd dL_law_579), List.forall_mem_cons.mpr ⟨
  (gs_sldX dL_law_580), List.forall_mem_cons.mpr ⟨
  (gs_cv dL_law_581 (fun q hq => by
      simp only [List.mem_cons, List.not_mem_nil, or_false] at hq
      subst hq
      exact Or.inl ⟨_, rfl, by decide, by decide +kernel, by decide +kernel, List.forall_mem_cons.mpr ⟨gx_mem 777 (by decide +kernel) (by decide +kernel), List.forall_mem_cons.mpr ⟨gx_mem 778 (by decide +kernel) (by decide +kernel), List.forall_mem_cons.mpr ⟨gx_mem 779 (by decide +kernel) (by decide +kernel), List.forall_mem_cons.mpr ⟨gx_mem 84 (by decide +kernel) (by decide +kernel), List.forall_mem_cons.mpr ⟨cw_780, fun _ h => absurd h List.not_mem_nil⟩⟩⟩⟩⟩⟩)), List.forall_mem_cons.mpr ⟨
  (gs_aload_n dL_law_584 rfl), List.forall_mem_cons.mpr ⟨
  (gs_aload_n dL_law_585 rfl), fun _ h => absurd h List.not_mem_nil⟩⟩⟩⟩⟩⟩⟩⟩⟩⟩⟩⟩⟩⟩⟩⟩⟩⟩⟩⟩⟩⟩⟩⟩⟩⟩⟩⟩⟩⟩⟩⟩
set_option maxRecDepth 20000 in
theorem kt_L_law_11 (g : gx_T) : ∀ q ∈ k_L_law_11 (gx_n g) (gx_x g), gx_E g gc_md RL code 4 (some .boolean) "law" q.1 q.2 := List.forall_mem_cons.mpr ⟨(gs_iload_n dL_law_586 rfl), List.forall_mem_cons.mpr ⟨
  (gs_iconst dL_law_587 rfl), List.forall_mem_cons.mpr ⟨
  (gs_iadd dL_law_588), List.forall_mem_cons.mpr ⟨
  (gs_sldX dL_law_589), List.forall_mem_cons.mpr ⟨
  (gs_aload_n dL_law_590 rfl), List.forall_mem_cons.mpr ⟨
  (gs_iload_n dL_law_591 rfl), List.forall_mem_cons.mpr ⟨
  (gs_iconst dL_law_592 rfl), List.forall_mem_cons.mpr ⟨
  (gs_iadd dL_law_593), List.forall_mem_cons.mpr ⟨
  (gs_sldX dL_law_594), List.forall_mem_cons.mpr ⟨
  (gs_aload_n dL_law_595 rfl), List.forall_mem_cons.mpr ⟨
  (gs_iload_n dL_law_596 rfl), List.forall_mem_cons.mpr ⟨
  (gs_iconst dL_law_597 rfl), List.forall_mem_cons.mpr ⟨
  (gs_iadd dL_law_598), List.forall_mem_cons.mpr ⟨
  (gs_sldX dL_law_599), List.forall_mem_cons.mpr ⟨
  (gs_cv dL_law_600 (fun q hq => by
      simp only [List.mem_cons, List.not_mem_nil, or_false] at hq
      subst hq
      exact Or.inl ⟨_, rfl, by decide, by decide +kernel, by decide +kernel, List.forall_mem_cons.mpr ⟨gx_mem 1462 (by decide +kernel) (by decide +kernel), List.forall_mem_cons.mpr ⟨gx_mem 1463 (by decide +kernel) (by decide +kernel), List.forall_mem_cons.mpr ⟨gx_mem 1464 (by decide +kernel) (by decide +kernel), List.forall_mem_cons.mpr ⟨gx_mem 96 (by decide +kernel) (by decide +kernel), List.forall_mem_cons.mpr ⟨cw_1465, fun _ h => absurd h List.not_mem_nil⟩⟩⟩⟩⟩⟩)), List.forall_mem_cons.mpr ⟨
  (gs_icmp_eq dL_law_603 rfl), List.forall_mem_cons.mpr ⟨
  (gs_iconst dL_law_606 rfl), List.forall_mem_cons.mpr ⟨
  (gs_rn dL_law_607 (by decide)), List.forall_mem_cons.mpr ⟨
  (gs_aload_n dL_law_608 rfl), List.forall_mem_cons.mpr ⟨
  (gs_aload_n dL_law_609 rfl), List.forall_mem_cons.mpr ⟨
  (gs_iload_n dL_law_610 rfl), List.forall_mem_cons.mpr ⟨
  (gs_iconst dL_law_611 rfl), List.forall_mem_cons.mpr ⟨
  (gs_iadd dL_law_612), List.forall_mem_cons.mpr ⟨
  (gs_sldX dL_law_613), List.forall_mem_cons.mpr ⟨
  (gs_aload_n dL_law_614 rfl), List.forall_mem_cons.mpr ⟨
  (gs_iload_n dL_law_615 rfl), List.forall_mem_cons.mpr ⟨
  (gs_iconst dL_law_616 rfl), List.forall_mem_cons.mpr ⟨
  (gs_iadd dL_law_617), List.forall_mem_cons.mpr ⟨
  (gs_sldX dL_law_618), List.forall_mem_cons.mpr ⟨
  (gs_cv dL_law_619 (fun q hq => by
      simp only [List.mem_cons, List.not_mem_nil, or_false] at hq
      subst hq
      exact Or.inl ⟨_, rfl, by decide, by decide +kernel, by decide +kernel, List.forall_mem_cons.mpr ⟨gx_mem 789 (by decide +kernel) (by decide +kernel), List.forall_mem_cons.mpr ⟨gx_mem 790 (by decide +kernel) (by decide +kernel), List.forall_mem_cons.mpr ⟨gx_mem 791 (by decide +kernel) (by decide +kernel), List.forall_mem_cons.mpr ⟨gx_mem 84 (by decide +kernel) (by decide +kernel), List.forall_mem_cons.mpr ⟨cw_792, fun _ h => absurd h List.not_mem_nil⟩⟩⟩⟩⟩⟩)), List.forall_mem_cons.mpr ⟨
  (gs_aload_n dL_law_622 rfl), List.forall_mem_cons.mpr ⟨
  (gs_aload_n dL_law_623 rfl), fun _ h => absurd h List.not_mem_nil⟩⟩⟩⟩⟩⟩⟩⟩⟩⟩⟩⟩⟩⟩⟩⟩⟩⟩⟩⟩⟩⟩⟩⟩⟩⟩⟩⟩⟩⟩⟩⟩
set_option maxRecDepth 20000 in
theorem kt_L_law_12 (g : gx_T) : ∀ q ∈ k_L_law_12 (gx_n g) (gx_x g), gx_E g gc_md RL code 4 (some .boolean) "law" q.1 q.2 := List.forall_mem_cons.mpr ⟨(gs_iload_n dL_law_624 rfl), List.forall_mem_cons.mpr ⟨
  (gs_iconst dL_law_625 rfl), List.forall_mem_cons.mpr ⟨
  (gs_iadd dL_law_626), List.forall_mem_cons.mpr ⟨
  (gs_sldX dL_law_627), List.forall_mem_cons.mpr ⟨
  (gs_aload_n dL_law_628 rfl), List.forall_mem_cons.mpr ⟨
  (gs_iload_n dL_law_629 rfl), List.forall_mem_cons.mpr ⟨
  (gs_iconst dL_law_630 rfl), List.forall_mem_cons.mpr ⟨
  (gs_iadd dL_law_631), List.forall_mem_cons.mpr ⟨
  (gs_sldX dL_law_632), List.forall_mem_cons.mpr ⟨
  (gs_cv dL_law_633 (fun q hq => by
      simp only [List.mem_cons, List.not_mem_nil, or_false] at hq
      subst hq
      exact Or.inl ⟨_, rfl, by decide, by decide +kernel, by decide +kernel, List.forall_mem_cons.mpr ⟨gx_mem 1490 (by decide +kernel) (by decide +kernel), List.forall_mem_cons.mpr ⟨gx_mem 1491 (by decide +kernel) (by decide +kernel), List.forall_mem_cons.mpr ⟨gx_mem 1492 (by decide +kernel) (by decide +kernel), List.forall_mem_cons.mpr ⟨gx_mem 96 (by decide +kernel) (by decide +kernel), List.forall_mem_cons.mpr ⟨cw_1493, fun _ h => absurd h List.not_mem_nil⟩⟩⟩⟩⟩⟩)), List.forall_mem_cons.mpr ⟨
  (gs_icmp_eq dL_law_636 rfl), List.forall_mem_cons.mpr ⟨
  (gs_iconst dL_law_639 rfl), List.forall_mem_cons.mpr ⟨
  (gs_rn dL_law_640 (by decide)), List.forall_mem_cons.mpr ⟨
  (gs_aload_n dL_law_641 rfl), List.forall_mem_cons.mpr ⟨
  (gs_aload_n dL_law_642 rfl), List.forall_mem_cons.mpr ⟨
  (gs_iload_n dL_law_643 rfl), List.forall_mem_cons.mpr ⟨
  (gs_iconst dL_law_644 rfl), List.forall_mem_cons.mpr ⟨
  (gs_iadd dL_law_645), List.forall_mem_cons.mpr ⟨
  (gs_sldX dL_law_646), List.forall_mem_cons.mpr ⟨
  (gs_aload_n dL_law_647 rfl), List.forall_mem_cons.mpr ⟨
  (gs_iload_n dL_law_648 rfl), List.forall_mem_cons.mpr ⟨
  (gs_iconst dL_law_649 rfl), List.forall_mem_cons.mpr ⟨
  (gs_iadd dL_law_650), List.forall_mem_cons.mpr ⟨
  (gs_sldX dL_law_651), List.forall_mem_cons.mpr ⟨
  (gs_aload_n dL_law_652 rfl), List.forall_mem_cons.mpr ⟨
  (gs_iload_n dL_law_653 rfl), List.forall_mem_cons.mpr ⟨
  (gs_iconst dL_law_654 rfl), List.forall_mem_cons.mpr ⟨
  (gs_iadd dL_law_655), List.forall_mem_cons.mpr ⟨
  (gs_sldX dL_law_656), List.forall_mem_cons.mpr ⟨
  (gs_cv dL_law_657 (fun q hq => by
      simp only [List.mem_cons, List.not_mem_nil, or_false] at hq
      subst hq
      exact Or.inl ⟨_, rfl, by decide, by decide +kernel, by decide +kernel, List.forall_mem_cons.mpr ⟨gx_mem 793 (by decide +kernel) (by decide +kernel), List.forall_mem_cons.mpr ⟨gx_mem 794 (by decide +kernel) (by decide +kernel), List.forall_mem_cons.mpr ⟨gx_mem 795 (by decide +kernel) (by decide +kernel), List.forall_mem_cons.mpr ⟨gx_mem 84 (by decide +kernel) (by decide +kernel), List.forall_mem_cons.mpr ⟨cw_796, fun _ h => absurd h List.not_mem_nil⟩⟩⟩⟩⟩⟩)), List.forall_mem_cons.mpr ⟨
  (gs_aload_n dL_law_660 rfl), List.forall_mem_cons.mpr ⟨
  (gs_aload_n dL_law_661 rfl), fun _ h => absurd h List.not_mem_nil⟩⟩⟩⟩⟩⟩⟩⟩⟩⟩⟩⟩⟩⟩⟩⟩⟩⟩⟩⟩⟩⟩⟩⟩⟩⟩⟩⟩⟩⟩⟩⟩
set_option maxRecDepth 20000 in
theorem kt_L_law_13 (g : gx_T) : ∀ q ∈ k_L_law_13 (gx_n g) (gx_x g), gx_E g gc_md RL code 4 (some .boolean) "law" q.1 q.2 := List.forall_mem_cons.mpr ⟨(gs_iload_n dL_law_662 rfl), List.forall_mem_cons.mpr ⟨
  (gs_iconst dL_law_663 rfl), List.forall_mem_cons.mpr ⟨
  (gs_iadd dL_law_664), List.forall_mem_cons.mpr ⟨
  (gs_sldX dL_law_665), List.forall_mem_cons.mpr ⟨
  (gs_aload_n dL_law_666 rfl), List.forall_mem_cons.mpr ⟨
  (gs_iload_n dL_law_667 rfl), List.forall_mem_cons.mpr ⟨
  (gs_iconst dL_law_668 rfl), List.forall_mem_cons.mpr ⟨
  (gs_iadd dL_law_669), List.forall_mem_cons.mpr ⟨
  (gs_sldX dL_law_670), List.forall_mem_cons.mpr ⟨
  (gs_aload_n dL_law_671 rfl), List.forall_mem_cons.mpr ⟨
  (gs_iload_n dL_law_672 rfl), List.forall_mem_cons.mpr ⟨
  (gs_iconst dL_law_673 rfl), List.forall_mem_cons.mpr ⟨
  (gs_iadd dL_law_674), List.forall_mem_cons.mpr ⟨
  (gs_sldX dL_law_675), List.forall_mem_cons.mpr ⟨
  (gs_cv dL_law_676 (fun q hq => by
      simp only [List.mem_cons, List.not_mem_nil, or_false] at hq
      subst hq
      exact Or.inl ⟨_, rfl, by decide, by decide +kernel, by decide +kernel, List.forall_mem_cons.mpr ⟨gx_mem 1494 (by decide +kernel) (by decide +kernel), List.forall_mem_cons.mpr ⟨gx_mem 1495 (by decide +kernel) (by decide +kernel), List.forall_mem_cons.mpr ⟨gx_mem 1496 (by decide +kernel) (by decide +kernel), List.forall_mem_cons.mpr ⟨gx_mem 96 (by decide +kernel) (by decide +kernel), List.forall_mem_cons.mpr ⟨cw_1497, fun _ h => absurd h List.not_mem_nil⟩⟩⟩⟩⟩⟩)), List.forall_mem_cons.mpr ⟨
  (gs_lcmp dL_law_679), List.forall_mem_cons.mpr ⟨
  (gs_if_eq dL_law_680 rfl), List.forall_mem_cons.mpr ⟨
  (gs_iconst dL_law_683 rfl), List.forall_mem_cons.mpr ⟨
  (gs_rn dL_law_684 (by decide)), List.forall_mem_cons.mpr ⟨
  (gs_aload_n dL_law_685 rfl), List.forall_mem_cons.mpr ⟨
  (gs_aload_n dL_law_686 rfl), List.forall_mem_cons.mpr ⟨
  (gs_iload_n dL_law_687 rfl), List.forall_mem_cons.mpr ⟨
  (gs_iconst dL_law_688 rfl), List.forall_mem_cons.mpr ⟨
  (gs_iadd dL_law_689), List.forall_mem_cons.mpr ⟨
  (gs_sldX dL_law_690), List.forall_mem_cons.mpr ⟨
  (gs_cv dL_law_691 (fun q hq => by
      simp only [List.mem_cons, List.not_mem_nil, or_false] at hq
      subst hq
      exact Or.inl ⟨_, rfl, by decide, by decide +kernel, by decide +kernel, List.forall_mem_cons.mpr ⟨gx_mem 801 (by decide +kernel) (by decide +kernel), List.forall_mem_cons.mpr ⟨gx_mem 802 (by decide +kernel) (by decide +kernel), List.forall_mem_cons.mpr ⟨gx_mem 803 (by decide +kernel) (by decide +kernel), List.forall_mem_cons.mpr ⟨gx_mem 84 (by decide +kernel) (by decide +kernel), List.forall_mem_cons.mpr ⟨cw_804, fun _ h => absurd h List.not_mem_nil⟩⟩⟩⟩⟩⟩)), List.forall_mem_cons.mpr ⟨
  (gs_aload_n dL_law_694 rfl), List.forall_mem_cons.mpr ⟨
  (gs_aload_n dL_law_695 rfl), List.forall_mem_cons.mpr ⟨
  (gs_iload_n dL_law_696 rfl), List.forall_mem_cons.mpr ⟨
  (gs_iconst dL_law_697 rfl), List.forall_mem_cons.mpr ⟨
  (gs_iadd dL_law_698), List.forall_mem_cons.mpr ⟨
  (gs_sldX dL_law_699), fun _ h => absurd h List.not_mem_nil⟩⟩⟩⟩⟩⟩⟩⟩⟩⟩⟩⟩⟩⟩⟩⟩⟩⟩⟩⟩⟩⟩⟩⟩⟩⟩⟩⟩⟩⟩⟩⟩
set_option maxRecDepth 20000 in
theorem kt_L_law_14 (g : gx_T) : ∀ q ∈ k_L_law_14 (gx_n g) (gx_x g), gx_E g gc_md RL code 4 (some .boolean) "law" q.1 q.2 := List.forall_mem_cons.mpr ⟨(gs_cv dL_law_700 (fun q hq => by
      simp only [List.mem_cons, List.not_mem_nil, or_false] at hq
      subst hq
      exact Or.inl ⟨_, rfl, by decide, by decide +kernel, by decide +kernel, List.forall_mem_cons.mpr ⟨gx_mem 1507 (by decide +kernel) (by decide +kernel), List.forall_mem_cons.mpr ⟨gx_mem 1508 (by decide +kernel) (by decide +kernel), List.forall_mem_cons.mpr ⟨gx_mem 1509 (by decide +kernel) (by decide +kernel), List.forall_mem_cons.mpr ⟨gx_mem 96 (by decide +kernel) (by decide +kernel), List.forall_mem_cons.mpr ⟨cw_1510, fun _ h => absurd h List.not_mem_nil⟩⟩⟩⟩⟩⟩)), List.forall_mem_cons.mpr ⟨
  (gs_lcmp dL_law_703), List.forall_mem_cons.mpr ⟨
  (gs_if_eq dL_law_704 rfl), List.forall_mem_cons.mpr ⟨
  (gs_iconst dL_law_707 rfl), List.forall_mem_cons.mpr ⟨
  (gs_rn dL_law_708 (by decide)), List.forall_mem_cons.mpr ⟨
  (gs_aload_n dL_law_709 rfl), List.forall_mem_cons.mpr ⟨
  (gs_aload_n dL_law_710 rfl), List.forall_mem_cons.mpr ⟨
  (gs_iload_n dL_law_711 rfl), List.forall_mem_cons.mpr ⟨
  (gs_iconst dL_law_712 rfl), List.forall_mem_cons.mpr ⟨
  (gs_iadd dL_law_713), List.forall_mem_cons.mpr ⟨
  (gs_sldX dL_law_714), List.forall_mem_cons.mpr ⟨
  (gs_aload_n dL_law_715 rfl), List.forall_mem_cons.mpr ⟨
  (gs_iload_n dL_law_716 rfl), List.forall_mem_cons.mpr ⟨
  (gs_iconst dL_law_717 rfl), List.forall_mem_cons.mpr ⟨
  (gs_iadd dL_law_718), List.forall_mem_cons.mpr ⟨
  (gs_sldX dL_law_719), List.forall_mem_cons.mpr ⟨
  (gs_cv dL_law_720 (fun q hq => by
      simp only [List.mem_cons, List.not_mem_nil, or_false] at hq
      subst hq
      exact Or.inl ⟨_, rfl, by decide, by decide +kernel, by decide +kernel, List.forall_mem_cons.mpr ⟨gx_mem 805 (by decide +kernel) (by decide +kernel), List.forall_mem_cons.mpr ⟨gx_mem 806 (by decide +kernel) (by decide +kernel), List.forall_mem_cons.mpr ⟨gx_mem 807 (by decide +kernel) (by decide +kernel), List.forall_mem_cons.mpr ⟨gx_mem 84 (by decide +kernel) (by decide +kernel), List.forall_mem_cons.mpr ⟨cw_808, fun _ h => absurd h List.not_mem_nil⟩⟩⟩⟩⟩⟩)), List.forall_mem_cons.mpr ⟨
  (gs_aload_n dL_law_723 rfl), List.forall_mem_cons.mpr ⟨
  (gs_aload_n dL_law_724 rfl), List.forall_mem_cons.mpr ⟨
  (gs_iload_n dL_law_725 rfl), List.forall_mem_cons.mpr ⟨
  (gs_iconst dL_law_726 rfl), List.forall_mem_cons.mpr ⟨
  (gs_iadd dL_law_727), List.forall_mem_cons.mpr ⟨
  (gs_sldX dL_law_728), List.forall_mem_cons.mpr ⟨
  (gs_aload_n dL_law_729 rfl), List.forall_mem_cons.mpr ⟨
  (gs_iload_n dL_law_730 rfl), List.forall_mem_cons.mpr ⟨
  (gs_iconst dL_law_731 rfl), List.forall_mem_cons.mpr ⟨
  (gs_iadd dL_law_732), List.forall_mem_cons.mpr ⟨
  (gs_sldX dL_law_733), List.forall_mem_cons.mpr ⟨
  (gs_cv dL_law_734 (fun q hq => by
      simp only [List.mem_cons, List.not_mem_nil, or_false] at hq
      subst hq
      exact Or.inl ⟨_, rfl, by decide, by decide +kernel, by decide +kernel, List.forall_mem_cons.mpr ⟨gx_mem 1511 (by decide +kernel) (by decide +kernel), List.forall_mem_cons.mpr ⟨gx_mem 1512 (by decide +kernel) (by decide +kernel), List.forall_mem_cons.mpr ⟨gx_mem 1513 (by decide +kernel) (by decide +kernel), List.forall_mem_cons.mpr ⟨gx_mem 96 (by decide +kernel) (by decide +kernel), List.forall_mem_cons.mpr ⟨cw_1514, fun _ h => absurd h List.not_mem_nil⟩⟩⟩⟩⟩⟩)), List.forall_mem_cons.mpr ⟨
  (gs_icmp_eq dL_law_737 rfl), List.forall_mem_cons.mpr ⟨
  (gs_iconst dL_law_740 rfl), List.forall_mem_cons.mpr ⟨
  (gs_rn dL_law_741 (by decide)), fun _ h => absurd h List.not_mem_nil⟩⟩⟩⟩⟩⟩⟩⟩⟩⟩⟩⟩⟩⟩⟩⟩⟩⟩⟩⟩⟩⟩⟩⟩⟩⟩⟩⟩⟩⟩⟩⟩
set_option maxRecDepth 20000 in
theorem kt_L_law_15 (g : gx_T) : ∀ q ∈ k_L_law_15 (gx_n g) (gx_x g), gx_E g gc_md RL code 4 (some .boolean) "law" q.1 q.2 := List.forall_mem_cons.mpr ⟨(gs_aload_n dL_law_742 rfl), List.forall_mem_cons.mpr ⟨
  (gs_aload_n dL_law_743 rfl), List.forall_mem_cons.mpr ⟨
  (gs_iload_n dL_law_744 rfl), List.forall_mem_cons.mpr ⟨
  (gs_iconst dL_law_745 rfl), List.forall_mem_cons.mpr ⟨
  (gs_iadd dL_law_746), List.forall_mem_cons.mpr ⟨
  (gs_sldX dL_law_747), List.forall_mem_cons.mpr ⟨
  (gs_cv dL_law_748 (fun q hq => by
      simp only [List.mem_cons, List.not_mem_nil, or_false] at hq
      subst hq
      exact Or.inl ⟨_, rfl, by decide, by decide +kernel, by decide +kernel, List.forall_mem_cons.mpr ⟨gx_mem 809 (by decide +kernel) (by decide +kernel), List.forall_mem_cons.mpr ⟨gx_mem 810 (by decide +kernel) (by decide +kernel), List.forall_mem_cons.mpr ⟨gx_mem 811 (by decide +kernel) (by decide +kernel), List.forall_mem_cons.mpr ⟨gx_mem 84 (by decide +kernel) (by decide +kernel), List.forall_mem_cons.mpr ⟨cw_812, fun _ h => absurd h List.not_mem_nil⟩⟩⟩⟩⟩⟩)), List.forall_mem_cons.mpr ⟨
  (gs_aload_n dL_law_751 rfl), List.forall_mem_cons.mpr ⟨
  (gs_aload_n dL_law_752 rfl), List.forall_mem_cons.mpr ⟨
  (gs_iload_n dL_law_753 rfl), List.forall_mem_cons.mpr ⟨
  (gs_iconst dL_law_754 rfl), List.forall_mem_cons.mpr ⟨
  (gs_iadd dL_law_755), List.forall_mem_cons.mpr ⟨
  (gs_sldX dL_law_756), List.forall_mem_cons.mpr ⟨
  (gs_cv dL_law_757 (fun q hq => by
      simp only [List.mem_cons, List.not_mem_nil, or_false] at hq
      subst hq
      exact Or.inl ⟨_, rfl, by decide, by decide +kernel, by decide +kernel, List.forall_mem_cons.mpr ⟨gx_mem 1515 (by decide +kernel) (by decide +kernel), List.forall_mem_cons.mpr ⟨gx_mem 1516 (by decide +kernel) (by decide +kernel), List.forall_mem_cons.mpr ⟨gx_mem 1517 (by decide +kernel) (by decide +kernel), List.forall_mem_cons.mpr ⟨gx_mem 96 (by decide +kernel) (by decide +kernel), List.forall_mem_cons.mpr ⟨cw_1518, fun _ h => absurd h List.not_mem_nil⟩⟩⟩⟩⟩⟩)), List.forall_mem_cons.mpr ⟨
  (gs_icmp_eq dL_law_760 rfl), List.forall_mem_cons.mpr ⟨
  (gs_iconst dL_law_763 rfl), List.forall_mem_cons.mpr ⟨
  (gs_rn dL_law_764 (by decide)), List.forall_mem_cons.mpr ⟨
  (gs_aload_n dL_law_765 rfl), List.forall_mem_cons.mpr ⟨
  (gs_aload_n dL_law_766 rfl), List.forall_mem_cons.mpr ⟨
  (gs_iload_n dL_law_767 rfl), List.forall_mem_cons.mpr ⟨
  (gs_iconst dL_law_768 rfl), List.forall_mem_cons.mpr ⟨
  (gs_iadd dL_law_769), List.forall_mem_cons.mpr ⟨
  (gs_sldX dL_law_770), List.forall_mem_cons.mpr ⟨
  (gs_aload_n dL_law_771 rfl), List.forall_mem_cons.mpr ⟨
  (gs_iload_n dL_law_772 rfl), List.forall_mem_cons.mpr ⟨
  (gs_iconst dL_law_773 rfl), List.forall_mem_cons.mpr ⟨
  (gs_iadd dL_law_774), List.forall_mem_cons.mpr ⟨
  (gs_sldX dL_law_775), List.forall_mem_cons.mpr ⟨
  (gs_cv dL_law_776 (fun q hq => by
      simp only [List.mem_cons, List.not_mem_nil, or_false] at hq
      subst hq
      exact Or.inl ⟨_, rfl, by decide, by decide +kernel, by decide +kernel, List.forall_mem_cons.mpr ⟨gx_mem 818 (by decide +kernel) (by decide +kernel), List.forall_mem_cons.mpr ⟨gx_mem 819 (by decide +kernel) (by decide +kernel), List.forall_mem_cons.mpr ⟨gx_mem 820 (by decide +kernel) (by decide +kernel), List.forall_mem_cons.mpr ⟨gx_mem 84 (by decide +kernel) (by decide +kernel), List.forall_mem_cons.mpr ⟨cw_821, fun _ h => absurd h List.not_mem_nil⟩⟩⟩⟩⟩⟩)), List.forall_mem_cons.mpr ⟨
  (gs_aload_n dL_law_779 rfl), List.forall_mem_cons.mpr ⟨
  (gs_aload_n dL_law_780 rfl), List.forall_mem_cons.mpr ⟨
  (gs_iload_n dL_law_781 rfl), fun _ h => absurd h List.not_mem_nil⟩⟩⟩⟩⟩⟩⟩⟩⟩⟩⟩⟩⟩⟩⟩⟩⟩⟩⟩⟩⟩⟩⟩⟩⟩⟩⟩⟩⟩⟩⟩⟩
set_option maxRecDepth 20000 in
theorem kt_L_law_16 (g : gx_T) : ∀ q ∈ k_L_law_16 (gx_n g) (gx_x g), gx_E g gc_md RL code 4 (some .boolean) "law" q.1 q.2 := List.forall_mem_cons.mpr ⟨(gs_iconst dL_law_782 rfl), List.forall_mem_cons.mpr ⟨
  (gs_iadd dL_law_783), List.forall_mem_cons.mpr ⟨
  (gs_sldX dL_law_784), List.forall_mem_cons.mpr ⟨
  (gs_aload_n dL_law_785 rfl), List.forall_mem_cons.mpr ⟨
  (gs_iload_n dL_law_786 rfl), List.forall_mem_cons.mpr ⟨
  (gs_iconst dL_law_787 rfl), List.forall_mem_cons.mpr ⟨
  (gs_iadd dL_law_788), List.forall_mem_cons.mpr ⟨
  (gs_sldX dL_law_789), List.forall_mem_cons.mpr ⟨
  (gs_cv dL_law_790 (fun q hq => by
      simp only [List.mem_cons, List.not_mem_nil, or_false] at hq
      subst hq
      exact Or.inl ⟨_, rfl, by decide, by decide +kernel, by decide +kernel, List.forall_mem_cons.mpr ⟨gx_mem 1523 (by decide +kernel) (by decide +kernel), List.forall_mem_cons.mpr ⟨gx_mem 1524 (by decide +kernel) (by decide +kernel), List.forall_mem_cons.mpr ⟨gx_mem 1525 (by decide +kernel) (by decide +kernel), List.forall_mem_cons.mpr ⟨gx_mem 96 (by decide +kernel) (by decide +kernel), List.forall_mem_cons.mpr ⟨cw_1526, fun _ h => absurd h List.not_mem_nil⟩⟩⟩⟩⟩⟩)), List.forall_mem_cons.mpr ⟨
  (gs_icmp_eq dL_law_793 rfl), List.forall_mem_cons.mpr ⟨
  (gs_iconst dL_law_796 rfl), List.forall_mem_cons.mpr ⟨
  (gs_rn dL_law_797 (by decide)), List.forall_mem_cons.mpr ⟨
  (gs_aload_n dL_law_798 rfl), List.forall_mem_cons.mpr ⟨
  (gs_cv dL_law_799 (fun q hq => by
      simp only [List.mem_cons, List.not_mem_nil, or_false] at hq
      subst hq
      exact Or.inl ⟨_, rfl, by decide, by decide +kernel, by decide +kernel, List.forall_mem_cons.mpr ⟨gx_mem 822 (by decide +kernel) (by decide +kernel), List.forall_mem_cons.mpr ⟨gx_mem 823 (by decide +kernel) (by decide +kernel), List.forall_mem_cons.mpr ⟨gx_mem 824 (by decide +kernel) (by decide +kernel), List.forall_mem_cons.mpr ⟨gx_mem 84 (by decide +kernel) (by decide +kernel), List.forall_mem_cons.mpr ⟨cw_825, fun _ h => absurd h List.not_mem_nil⟩⟩⟩⟩⟩⟩)), List.forall_mem_cons.mpr ⟨
  (gs_aload_n dL_law_802 rfl), List.forall_mem_cons.mpr ⟨
  (gs_cv dL_law_803 (fun q hq => by
      simp only [List.mem_cons, List.not_mem_nil, or_false] at hq
      subst hq
      exact Or.inl ⟨_, rfl, by decide, by decide +kernel, by decide +kernel, List.forall_mem_cons.mpr ⟨gx_mem 1527 (by decide +kernel) (by decide +kernel), List.forall_mem_cons.mpr ⟨gx_mem 1528 (by decide +kernel) (by decide +kernel), List.forall_mem_cons.mpr ⟨gx_mem 1529 (by decide +kernel) (by decide +kernel), List.forall_mem_cons.mpr ⟨gx_mem 96 (by decide +kernel) (by decide +kernel), List.forall_mem_cons.mpr ⟨cw_1530, fun _ h => absurd h List.not_mem_nil⟩⟩⟩⟩⟩⟩)), List.forall_mem_cons.mpr ⟨
  (gs_icmp_eq dL_law_806 rfl), List.forall_mem_cons.mpr ⟨
  (gs_iconst dL_law_809 rfl), List.forall_mem_cons.mpr ⟨
  (gs_rn dL_law_810 (by decide)), List.forall_mem_cons.mpr ⟨
  (gs_aload_n dL_law_811 rfl), List.forall_mem_cons.mpr ⟨
  (gs_aload_n dL_law_812 rfl), List.forall_mem_cons.mpr ⟨
  (gs_iload_n dL_law_813 rfl), List.forall_mem_cons.mpr ⟨
  (gs_iconst dL_law_814 rfl), List.forall_mem_cons.mpr ⟨
  (gs_iadd dL_law_815), List.forall_mem_cons.mpr ⟨
  (gs_sldX dL_law_816), List.forall_mem_cons.mpr ⟨
  (gs_aload_n dL_law_817 rfl), List.forall_mem_cons.mpr ⟨
  (gs_iload_n dL_law_818 rfl), List.forall_mem_cons.mpr ⟨
  (gs_iconst dL_law_819 rfl), List.forall_mem_cons.mpr ⟨
  (gs_iadd dL_law_820), List.forall_mem_cons.mpr ⟨
  (gs_sldX dL_law_821), List.forall_mem_cons.mpr ⟨
  (gs_cv dL_law_822 (fun q hq => by
      simp only [List.mem_cons, List.not_mem_nil, or_false] at hq
      subst hq
      exact Or.inl ⟨_, rfl, by decide, by decide +kernel, by decide +kernel, List.forall_mem_cons.mpr ⟨gx_mem 826 (by decide +kernel) (by decide +kernel), List.forall_mem_cons.mpr ⟨gx_mem 827 (by decide +kernel) (by decide +kernel), List.forall_mem_cons.mpr ⟨gx_mem 828 (by decide +kernel) (by decide +kernel), List.forall_mem_cons.mpr ⟨gx_mem 84 (by decide +kernel) (by decide +kernel), List.forall_mem_cons.mpr ⟨cw_829, fun _ h => absurd h List.not_mem_nil⟩⟩⟩⟩⟩⟩)), List.forall_mem_cons.mpr ⟨
  (gs_aload_n dL_law_825 rfl), fun _ h => absurd h List.not_mem_nil⟩⟩⟩⟩⟩⟩⟩⟩⟩⟩⟩⟩⟩⟩⟩⟩⟩⟩⟩⟩⟩⟩⟩⟩⟩⟩⟩⟩⟩⟩⟩⟩
set_option maxRecDepth 20000 in
theorem kt_L_law_17 (g : gx_T) : ∀ q ∈ k_L_law_17 (gx_n g) (gx_x g), gx_E g gc_md RL code 4 (some .boolean) "law" q.1 q.2 := List.forall_mem_cons.mpr ⟨(gs_aload_n dL_law_826 rfl), List.forall_mem_cons.mpr ⟨
  (gs_iload_n dL_law_827 rfl), List.forall_mem_cons.mpr ⟨
  (gs_iconst dL_law_828 rfl), List.forall_mem_cons.mpr ⟨
  (gs_iadd dL_law_829), List.forall_mem_cons.mpr ⟨
  (gs_sldX dL_law_830), List.forall_mem_cons.mpr ⟨
  (gs_aload_n dL_law_831 rfl), List.forall_mem_cons.mpr ⟨
  (gs_iload_n dL_law_832 rfl), List.forall_mem_cons.mpr ⟨
  (gs_iconst dL_law_833 rfl), List.forall_mem_cons.mpr ⟨
  (gs_iadd dL_law_834), List.forall_mem_cons.mpr ⟨
  (gs_sldX dL_law_835), List.forall_mem_cons.mpr ⟨
  (gs_cv dL_law_836 (fun q hq => by
      simp only [List.mem_cons, List.not_mem_nil, or_false] at hq
      subst hq
      exact Or.inl ⟨_, rfl, by decide, by decide +kernel, by decide +kernel, List.forall_mem_cons.mpr ⟨gx_mem 1531 (by decide +kernel) (by decide +kernel), List.forall_mem_cons.mpr ⟨gx_mem 1532 (by decide +kernel) (by decide +kernel), List.forall_mem_cons.mpr ⟨gx_mem 1533 (by decide +kernel) (by decide +kernel), List.forall_mem_cons.mpr ⟨gx_mem 96 (by decide +kernel) (by decide +kernel), List.forall_mem_cons.mpr ⟨cw_1534, fun _ h => absurd h List.not_mem_nil⟩⟩⟩⟩⟩⟩)), List.forall_mem_cons.mpr ⟨
  (gs_icmp_eq dL_law_839 rfl), List.forall_mem_cons.mpr ⟨
  (gs_iconst dL_law_842 rfl), List.forall_mem_cons.mpr ⟨
  (gs_rn dL_law_843 (by decide)), List.forall_mem_cons.mpr ⟨
  (gs_aload_n dL_law_844 rfl), List.forall_mem_cons.mpr ⟨
  (gs_cv dL_law_845 (fun q hq => by
      simp only [List.mem_cons, List.not_mem_nil, or_false] at hq
      subst hq
      exact Or.inl ⟨_, rfl, by decide, by decide +kernel, by decide +kernel, List.forall_mem_cons.mpr ⟨gx_mem 830 (by decide +kernel) (by decide +kernel), List.forall_mem_cons.mpr ⟨gx_mem 831 (by decide +kernel) (by decide +kernel), List.forall_mem_cons.mpr ⟨gx_mem 832 (by decide +kernel) (by decide +kernel), List.forall_mem_cons.mpr ⟨gx_mem 84 (by decide +kernel) (by decide +kernel), List.forall_mem_cons.mpr ⟨cw_833, fun _ h => absurd h List.not_mem_nil⟩⟩⟩⟩⟩⟩)), List.forall_mem_cons.mpr ⟨
  (gs_aload_n dL_law_848 rfl), List.forall_mem_cons.mpr ⟨
  (gs_cv dL_law_849 (fun q hq => by
      simp only [List.mem_cons, List.not_mem_nil, or_false] at hq
      subst hq
      exact Or.inl ⟨_, rfl, by decide, by decide +kernel, by decide +kernel, List.forall_mem_cons.mpr ⟨gx_mem 1539 (by decide +kernel) (by decide +kernel), List.forall_mem_cons.mpr ⟨gx_mem 1540 (by decide +kernel) (by decide +kernel), List.forall_mem_cons.mpr ⟨gx_mem 1541 (by decide +kernel) (by decide +kernel), List.forall_mem_cons.mpr ⟨gx_mem 96 (by decide +kernel) (by decide +kernel), List.forall_mem_cons.mpr ⟨cw_1542, fun _ h => absurd h List.not_mem_nil⟩⟩⟩⟩⟩⟩)), List.forall_mem_cons.mpr ⟨
  (gs_icmp_eq dL_law_852 rfl), List.forall_mem_cons.mpr ⟨
  (gs_iconst dL_law_855 rfl), List.forall_mem_cons.mpr ⟨
  (gs_rn dL_law_856 (by decide)), List.forall_mem_cons.mpr ⟨
  (gs_aload_n dL_law_857 rfl), List.forall_mem_cons.mpr ⟨
  (gs_cv dL_law_858 (fun q hq => by
      simp only [List.mem_cons, List.not_mem_nil, or_false] at hq
      subst hq
      exact Or.inl ⟨_, rfl, by decide, by decide +kernel, by decide +kernel, List.forall_mem_cons.mpr ⟨gx_mem 839 (by decide +kernel) (by decide +kernel), List.forall_mem_cons.mpr ⟨gx_mem 840 (by decide +kernel) (by decide +kernel), List.forall_mem_cons.mpr ⟨gx_mem 841 (by decide +kernel) (by decide +kernel), List.forall_mem_cons.mpr ⟨gx_mem 84 (by decide +kernel) (by decide +kernel), List.forall_mem_cons.mpr ⟨cw_842, fun _ h => absurd h List.not_mem_nil⟩⟩⟩⟩⟩⟩)), List.forall_mem_cons.mpr ⟨
  (gs_aload_n dL_law_861 rfl), List.forall_mem_cons.mpr ⟨
  (gs_cv dL_law_862 (fun q hq => by
      simp only [List.mem_cons, List.not_mem_nil, or_false] at hq
      subst hq
      exact Or.inl ⟨_, rfl, by decide, by decide +kernel, by decide +kernel, List.forall_mem_cons.mpr ⟨gx_mem 1543 (by decide +kernel) (by decide +kernel), List.forall_mem_cons.mpr ⟨gx_mem 1544 (by decide +kernel) (by decide +kernel), List.forall_mem_cons.mpr ⟨gx_mem 1545 (by decide +kernel) (by decide +kernel), List.forall_mem_cons.mpr ⟨gx_mem 96 (by decide +kernel) (by decide +kernel), List.forall_mem_cons.mpr ⟨cw_1546, fun _ h => absurd h List.not_mem_nil⟩⟩⟩⟩⟩⟩)), List.forall_mem_cons.mpr ⟨
  (gs_icmp_eq dL_law_865 rfl), List.forall_mem_cons.mpr ⟨
  (gs_iconst dL_law_868 rfl), List.forall_mem_cons.mpr ⟨
  (gs_rn dL_law_869 (by decide)), List.forall_mem_cons.mpr ⟨
  (gs_aload_n dL_law_870 rfl), List.forall_mem_cons.mpr ⟨
  (gs_aload_n dL_law_871 rfl), List.forall_mem_cons.mpr ⟨
  (gs_iload_n dL_law_872 rfl), List.forall_mem_cons.mpr ⟨
  (gs_iconst dL_law_873 rfl), fun _ h => absurd h List.not_mem_nil⟩⟩⟩⟩⟩⟩⟩⟩⟩⟩⟩⟩⟩⟩⟩⟩⟩⟩⟩⟩⟩⟩⟩⟩⟩⟩⟩⟩⟩⟩⟩⟩
set_option maxRecDepth 20000 in
theorem kt_L_law_18 (g : gx_T) : ∀ q ∈ k_L_law_18 (gx_n g) (gx_x g), gx_E g gc_md RL code 4 (some .boolean) "law" q.1 q.2 := List.forall_mem_cons.mpr ⟨(gs_iadd dL_law_874), List.forall_mem_cons.mpr ⟨
  (gs_sldX dL_law_875), List.forall_mem_cons.mpr ⟨
  (gs_aload_n dL_law_876 rfl), List.forall_mem_cons.mpr ⟨
  (gs_iload_n dL_law_877 rfl), List.forall_mem_cons.mpr ⟨
  (gs_iconst dL_law_878 rfl), List.forall_mem_cons.mpr ⟨
  (gs_iadd dL_law_879), List.forall_mem_cons.mpr ⟨
  (gs_sldX dL_law_880), List.forall_mem_cons.mpr ⟨
  (gs_aload_n dL_law_881 rfl), List.forall_mem_cons.mpr ⟨
  (gs_iload_n dL_law_882 rfl), List.forall_mem_cons.mpr ⟨
  (gs_iconst dL_law_883 rfl), List.forall_mem_cons.mpr ⟨
  (gs_iadd dL_law_884), List.forall_mem_cons.mpr ⟨
  (gs_sldX dL_law_885), List.forall_mem_cons.mpr ⟨
  (gs_cv dL_law_886 (fun q hq => by
      simp only [List.mem_cons, List.not_mem_nil, or_false] at hq
      subst hq
      exact Or.inl ⟨_, rfl, by decide, by decide +kernel, by decide +kernel, List.forall_mem_cons.mpr ⟨gx_mem 843 (by decide +kernel) (by decide +kernel), List.forall_mem_cons.mpr ⟨gx_mem 844 (by decide +kernel) (by decide +kernel), List.forall_mem_cons.mpr ⟨gx_mem 845 (by decide +kernel) (by decide +kernel), List.forall_mem_cons.mpr ⟨gx_mem 84 (by decide +kernel) (by decide +kernel), List.forall_mem_cons.mpr ⟨cw_846, fun _ h => absurd h List.not_mem_nil⟩⟩⟩⟩⟩⟩)), List.forall_mem_cons.mpr ⟨
  (gs_aload_n dL_law_889 rfl), List.forall_mem_cons.mpr ⟨
  (gs_aload_n dL_law_890 rfl), List.forall_mem_cons.mpr ⟨
  (gs_iload_n dL_law_891 rfl), List.forall_mem_cons.mpr ⟨
  (gs_iconst dL_law_892 rfl), List.forall_mem_cons.mpr ⟨
  (gs_iadd dL_law_893), List.forall_mem_cons.mpr ⟨
  (gs_sldX dL_law_894), List.forall_mem_cons.mpr ⟨
  (gs_aload_n dL_law_895 rfl), List.forall_mem_cons.mpr ⟨
  (gs_iload_n dL_law_896 rfl), List.forall_mem_cons.mpr ⟨
  (gs_iconst dL_law_897 rfl), List.forall_mem_cons.mpr ⟨
  (gs_iadd dL_law_898), List.forall_mem_cons.mpr ⟨
  (gs_sldX dL_law_899), List.forall_mem_cons.mpr ⟨
  (gs_aload_n dL_law_900 rfl), List.forall_mem_cons.mpr ⟨
  (gs_iload_n dL_law_901 rfl), List.forall_mem_cons.mpr ⟨
  (gs_iconst dL_law_902 rfl), List.forall_mem_cons.mpr ⟨
  (gs_iadd dL_law_903), List.forall_mem_cons.mpr ⟨
  (gs_sldX dL_law_904), List.forall_mem_cons.mpr ⟨
  (gs_cv dL_law_905 (fun q hq => by
      simp only [List.mem_cons, List.not_mem_nil, or_false] at hq
      subst hq
      exact Or.inl ⟨_, rfl, by decide, by decide +kernel, by decide +kernel, List.forall_mem_cons.mpr ⟨gx_mem 1547 (by decide +kernel) (by decide +kernel), List.forall_mem_cons.mpr ⟨gx_mem 1548 (by decide +kernel) (by decide +kernel), List.forall_mem_cons.mpr ⟨gx_mem 1549 (by decide +kernel) (by decide +kernel), List.forall_mem_cons.mpr ⟨gx_mem 96 (by decide +kernel) (by decide +kernel), List.forall_mem_cons.mpr ⟨cw_1550, fun _ h => absurd h List.not_mem_nil⟩⟩⟩⟩⟩⟩)), List.forall_mem_cons.mpr ⟨
  (gs_icmp_eq dL_law_908 rfl), List.forall_mem_cons.mpr ⟨
  (gs_iconst dL_law_911 rfl), fun _ h => absurd h List.not_mem_nil⟩⟩⟩⟩⟩⟩⟩⟩⟩⟩⟩⟩⟩⟩⟩⟩⟩⟩⟩⟩⟩⟩⟩⟩⟩⟩⟩⟩⟩⟩⟩⟩
set_option maxRecDepth 20000 in
theorem kt_L_law_19 (g : gx_T) : ∀ q ∈ k_L_law_19 (gx_n g) (gx_x g), gx_E g gc_md RL code 4 (some .boolean) "law" q.1 q.2 := List.forall_mem_cons.mpr ⟨(gs_rn dL_law_912 (by decide)), List.forall_mem_cons.mpr ⟨
  (gs_aload_n dL_law_913 rfl), List.forall_mem_cons.mpr ⟨
  (gs_aload_n dL_law_914 rfl), List.forall_mem_cons.mpr ⟨
  (gs_iload_n dL_law_915 rfl), List.forall_mem_cons.mpr ⟨
  (gs_iconst dL_law_916 rfl), List.forall_mem_cons.mpr ⟨
  (gs_iadd dL_law_917), List.forall_mem_cons.mpr ⟨
  (gs_sldX dL_law_918), List.forall_mem_cons.mpr ⟨
  (gs_cv dL_law_919 (fun q hq => by
      simp only [List.mem_cons, List.not_mem_nil, or_false] at hq
      subst hq
      exact Or.inl ⟨_, rfl, by decide, by decide +kernel, by decide +kernel, List.forall_mem_cons.mpr ⟨gx_mem 952 (by decide +kernel) (by decide +kernel), List.forall_mem_cons.mpr ⟨gx_mem 953 (by decide +kernel) (by decide +kernel), List.forall_mem_cons.mpr ⟨gx_mem 954 (by decide +kernel) (by decide +kernel), List.forall_mem_cons.mpr ⟨gx_mem 84 (by decide +kernel) (by decide +kernel), List.forall_mem_cons.mpr ⟨cw_955, fun _ h => absurd h List.not_mem_nil⟩⟩⟩⟩⟩⟩)), List.forall_mem_cons.mpr ⟨
  (gs_aload_n dL_law_922 rfl), List.forall_mem_cons.mpr ⟨
  (gs_aload_n dL_law_923 rfl), List.forall_mem_cons.mpr ⟨
  (gs_iload_n dL_law_924 rfl), List.forall_mem_cons.mpr ⟨
  (gs_iconst dL_law_925 rfl), List.forall_mem_cons.mpr ⟨
  (gs_iadd dL_law_926), List.forall_mem_cons.mpr ⟨
  (gs_sldX dL_law_927), List.forall_mem_cons.mpr ⟨
  (gs_cv dL_law_928 (fun q hq => by
      simp only [List.mem_cons, List.not_mem_nil, or_false] at hq
      subst hq
      exact Or.inl ⟨_, rfl, by decide, by decide +kernel, by decide +kernel, List.forall_mem_cons.mpr ⟨gx_mem 1583 (by decide +kernel) (by decide +kernel), List.forall_mem_cons.mpr ⟨gx_mem 1584 (by decide +kernel) (by decide +kernel), List.forall_mem_cons.mpr ⟨gx_mem 1585 (by decide +kernel) (by decide +kernel), List.forall_mem_cons.mpr ⟨gx_mem 96 (by decide +kernel) (by decide +kernel), List.forall_mem_cons.mpr ⟨cw_1586, fun _ h => absurd h List.not_mem_nil⟩⟩⟩⟩⟩⟩)), List.forall_mem_cons.mpr ⟨
  (gs_icmp_eq dL_law_931 rfl), List.forall_mem_cons.mpr ⟨
  (gs_iconst dL_law_934 rfl), List.forall_mem_cons.mpr ⟨
  (gs_rn dL_law_935 (by decide)), List.forall_mem_cons.mpr ⟨
  (gs_aload_n dL_law_936 rfl), List.forall_mem_cons.mpr ⟨
  (gs_aload_n dL_law_937 rfl), List.forall_mem_cons.mpr ⟨
  (gs_iload_n dL_law_938 rfl), List.forall_mem_cons.mpr ⟨
  (gs_iconst dL_law_939 rfl), List.forall_mem_cons.mpr ⟨
  (gs_iadd dL_law_940), List.forall_mem_cons.mpr ⟨
  (gs_sldX dL_law_941), List.forall_mem_cons.mpr ⟨
  (gs_aload_n dL_law_942 rfl), List.forall_mem_cons.mpr ⟨
  (gs_iload_n dL_law_943 rfl), List.forall_mem_cons.mpr ⟨
  (gs_iconst dL_law_944 rfl), List.forall_mem_cons.mpr ⟨
  (gs_iadd dL_law_945), List.forall_mem_cons.mpr ⟨
  (gs_sldX dL_law_946), List.forall_mem_cons.mpr ⟨
  (gs_cv dL_law_947 (fun q hq => by
      simp only [List.mem_cons, List.not_mem_nil, or_false] at hq
      subst hq
      exact Or.inl ⟨_, rfl, by decide, by decide +kernel, by decide +kernel, List.forall_mem_cons.mpr ⟨gx_mem 956 (by decide +kernel) (by decide +kernel), List.forall_mem_cons.mpr ⟨gx_mem 957 (by decide +kernel) (by decide +kernel), List.forall_mem_cons.mpr ⟨gx_mem 958 (by decide +kernel) (by decide +kernel), List.forall_mem_cons.mpr ⟨gx_mem 84 (by decide +kernel) (by decide +kernel), List.forall_mem_cons.mpr ⟨cw_959, fun _ h => absurd h List.not_mem_nil⟩⟩⟩⟩⟩⟩)), List.forall_mem_cons.mpr ⟨
  (gs_aload_n dL_law_950 rfl), List.forall_mem_cons.mpr ⟨
  (gs_aload_n dL_law_951 rfl), fun _ h => absurd h List.not_mem_nil⟩⟩⟩⟩⟩⟩⟩⟩⟩⟩⟩⟩⟩⟩⟩⟩⟩⟩⟩⟩⟩⟩⟩⟩⟩⟩⟩⟩⟩⟩⟩⟩
set_option maxRecDepth 20000 in
theorem kt_L_law_20 (g : gx_T) : ∀ q ∈ k_L_law_20 (gx_n g) (gx_x g), gx_E g gc_md RL code 4 (some .boolean) "law" q.1 q.2 := List.forall_mem_cons.mpr ⟨(gs_iload_n dL_law_952 rfl), List.forall_mem_cons.mpr ⟨
  (gs_iconst dL_law_953 rfl), List.forall_mem_cons.mpr ⟨
  (gs_iadd dL_law_954), List.forall_mem_cons.mpr ⟨
  (gs_sldX dL_law_955), List.forall_mem_cons.mpr ⟨
  (gs_aload_n dL_law_956 rfl), List.forall_mem_cons.mpr ⟨
  (gs_iload_n dL_law_957 rfl), List.forall_mem_cons.mpr ⟨
  (gs_iconst dL_law_958 rfl), List.forall_mem_cons.mpr ⟨
  (gs_iadd dL_law_959), List.forall_mem_cons.mpr ⟨
  (gs_sldX dL_law_960), List.forall_mem_cons.mpr ⟨
  (gs_cv dL_law_961 (fun q hq => by
      simp only [List.mem_cons, List.not_mem_nil, or_false] at hq
      subst hq
      exact Or.inl ⟨_, rfl, by decide, by decide +kernel, by decide +kernel, List.forall_mem_cons.mpr ⟨gx_mem 1587 (by decide +kernel) (by decide +kernel), List.forall_mem_cons.mpr ⟨gx_mem 1588 (by decide +kernel) (by decide +kernel), List.forall_mem_cons.mpr ⟨gx_mem 1589 (by decide +kernel) (by decide +kernel), List.forall_mem_cons.mpr ⟨gx_mem 96 (by decide +kernel) (by decide +kernel), List.forall_mem_cons.mpr ⟨cw_1590, fun _ h => absurd h List.not_mem_nil⟩⟩⟩⟩⟩⟩)), List.forall_mem_cons.mpr ⟨
  (gs_icmp_eq dL_law_964 rfl), List.forall_mem_cons.mpr ⟨
  (gs_iconst dL_law_967 rfl), List.forall_mem_cons.mpr ⟨
  (gs_rn dL_law_968 (by decide)), List.forall_mem_cons.mpr ⟨
  (gs_aload_n dL_law_969 rfl), List.forall_mem_cons.mpr ⟨
  (gs_aload_n dL_law_970 rfl), List.forall_mem_cons.mpr ⟨
  (gs_iload_n dL_law_971 rfl), List.forall_mem_cons.mpr ⟨
  (gs_iconst dL_law_972 rfl), List.forall_mem_cons.mpr ⟨
  (gs_iadd dL_law_973), List.forall_mem_cons.mpr ⟨
  (gs_sldX dL_law_974), List.forall_mem_cons.mpr ⟨
  (gs_cv dL_law_975 (fun q hq => by
      simp only [List.mem_cons, List.not_mem_nil, or_false] at hq
      subst hq
      exact Or.inl ⟨_, rfl, by decide, by decide +kernel, by decide +kernel, List.forall_mem_cons.mpr ⟨gx_mem 962 (by decide +kernel) (by decide +kernel), List.forall_mem_cons.mpr ⟨gx_mem 963 (by decide +kernel) (by decide +kernel), List.forall_mem_cons.mpr ⟨gx_mem 964 (by decide +kernel) (by decide +kernel), List.forall_mem_cons.mpr ⟨gx_mem 84 (by decide +kernel) (by decide +kernel), List.forall_mem_cons.mpr ⟨cw_965, fun _ h => absurd h List.not_mem_nil⟩⟩⟩⟩⟩⟩)), List.forall_mem_cons.mpr ⟨
  (gs_aload_n dL_law_978 rfl), List.forall_mem_cons.mpr ⟨
  (gs_aload_n dL_law_979 rfl), List.forall_mem_cons.mpr ⟨
  (gs_iload_n dL_law_980 rfl), List.forall_mem_cons.mpr ⟨
  (gs_iconst dL_law_981 rfl), List.forall_mem_cons.mpr ⟨
  (gs_iadd dL_law_982), List.forall_mem_cons.mpr ⟨
  (gs_sldX dL_law_983), List.forall_mem_cons.mpr ⟨
  (gs_cv dL_law_984 (fun q hq => by
      simp only [List.mem_cons, List.not_mem_nil, or_false] at hq
      subst hq
      exact Or.inl ⟨_, rfl, by decide, by decide +kernel, by decide +kernel, List.forall_mem_cons.mpr ⟨gx_mem 1591 (by decide +kernel) (by decide +kernel), List.forall_mem_cons.mpr ⟨gx_mem 1592 (by decide +kernel) (by decide +kernel), List.forall_mem_cons.mpr ⟨gx_mem 1593 (by decide +kernel) (by decide +kernel), List.forall_mem_cons.mpr ⟨gx_mem 96 (by decide +kernel) (by decide +kernel), List.forall_mem_cons.mpr ⟨cw_1594, fun _ h => absurd h List.not_mem_nil⟩⟩⟩⟩⟩⟩)), List.forall_mem_cons.mpr ⟨
  (gs_icmp_eq dL_law_987 rfl), List.forall_mem_cons.mpr ⟨
  (gs_iconst dL_law_990 rfl), List.forall_mem_cons.mpr ⟨
  (gs_rn dL_law_991 (by decide)), List.forall_mem_cons.mpr ⟨
  (gs_aload_n dL_law_992 rfl), List.forall_mem_cons.mpr ⟨
  (gs_aload_n dL_law_993 rfl), fun _ h => absurd h List.not_mem_nil⟩⟩⟩⟩⟩⟩⟩⟩⟩⟩⟩⟩⟩⟩⟩⟩⟩⟩⟩⟩⟩⟩⟩⟩⟩⟩⟩⟩⟩⟩⟩⟩
set_option maxRecDepth 20000 in
theorem kt_L_law_21 (g : gx_T) : ∀ q ∈ k_L_law_21 (gx_n g) (gx_x g), gx_E g gc_md RL code 4 (some .boolean) "law" q.1 q.2 := List.forall_mem_cons.mpr ⟨(gs_iload_n dL_law_994 rfl), List.forall_mem_cons.mpr ⟨
  (gs_iconst dL_law_995 rfl), List.forall_mem_cons.mpr ⟨
  (gs_iadd dL_law_996), List.forall_mem_cons.mpr ⟨
  (gs_sldX dL_law_997), List.forall_mem_cons.mpr ⟨
  (gs_aload_n dL_law_998 rfl), List.forall_mem_cons.mpr ⟨
  (gs_iload_n dL_law_999 rfl), List.forall_mem_cons.mpr ⟨
  (gs_iconst dL_law_1000 rfl), List.forall_mem_cons.mpr ⟨
  (gs_iadd dL_law_1001), List.forall_mem_cons.mpr ⟨
  (gs_sldX dL_law_1002), List.forall_mem_cons.mpr ⟨
  (gs_aload_n dL_law_1003 rfl), List.forall_mem_cons.mpr ⟨
  (gs_iload_n dL_law_1004 rfl), List.forall_mem_cons.mpr ⟨
  (gs_iconst dL_law_1005 rfl), List.forall_mem_cons.mpr ⟨
  (gs_iadd dL_law_1006), List.forall_mem_cons.mpr ⟨
  (gs_sldX dL_law_1007), List.forall_mem_cons.mpr ⟨
  (gs_cv dL_law_1008 (fun q hq => by
      simp only [List.mem_cons, List.not_mem_nil, or_false] at hq
      subst hq
      exact Or.inl ⟨_, rfl, by decide, by decide +kernel, by decide +kernel, List.forall_mem_cons.mpr ⟨gx_mem 966 (by decide +kernel) (by decide +kernel), List.forall_mem_cons.mpr ⟨gx_mem 967 (by decide +kernel) (by decide +kernel), List.forall_mem_cons.mpr ⟨gx_mem 968 (by decide +kernel) (by decide +kernel), List.forall_mem_cons.mpr ⟨gx_mem 84 (by decide +kernel) (by decide +kernel), List.forall_mem_cons.mpr ⟨cw_969, fun _ h => absurd h List.not_mem_nil⟩⟩⟩⟩⟩⟩)), List.forall_mem_cons.mpr ⟨
  (gs_aload_n dL_law_1011 rfl), List.forall_mem_cons.mpr ⟨
  (gs_aload_n dL_law_1012 rfl), List.forall_mem_cons.mpr ⟨
  (gs_iload_n dL_law_1013 rfl), List.forall_mem_cons.mpr ⟨
  (gs_iconst dL_law_1014 rfl), List.forall_mem_cons.mpr ⟨
  (gs_iadd dL_law_1015), List.forall_mem_cons.mpr ⟨
  (gs_sldX dL_law_1016), List.forall_mem_cons.mpr ⟨
  (gs_aload_n dL_law_1017 rfl), List.forall_mem_cons.mpr ⟨
  (gs_iload_n dL_law_1018 rfl), List.forall_mem_cons.mpr ⟨
  (gs_iconst dL_law_1019 rfl), List.forall_mem_cons.mpr ⟨
  (gs_iadd dL_law_1020), List.forall_mem_cons.mpr ⟨
  (gs_sldX dL_law_1021), List.forall_mem_cons.mpr ⟨
  (gs_aload_n dL_law_1022 rfl), List.forall_mem_cons.mpr ⟨
  (gs_iload_n dL_law_1023 rfl), List.forall_mem_cons.mpr ⟨
  (gs_iconst dL_law_1024 rfl), List.forall_mem_cons.mpr ⟨
  (gs_iadd dL_law_1025), List.forall_mem_cons.mpr ⟨
  (gs_sldX dL_law_1026), List.forall_mem_cons.mpr ⟨
  (gs_cv dL_law_1027 (fun q hq => by
      simp only [List.mem_cons, List.not_mem_nil, or_false] at hq
      subst hq
      exact Or.inl ⟨_, rfl, by decide, by decide +kernel, by decide +kernel, List.forall_mem_cons.mpr ⟨gx_mem 1595 (by decide +kernel) (by decide +kernel), List.forall_mem_cons.mpr ⟨gx_mem 1596 (by decide +kernel) (by decide +kernel), List.forall_mem_cons.mpr ⟨gx_mem 1597 (by decide +kernel) (by decide +kernel), List.forall_mem_cons.mpr ⟨gx_mem 96 (by decide +kernel) (by decide +kernel), List.forall_mem_cons.mpr ⟨cw_1598, fun _ h => absurd h List.not_mem_nil⟩⟩⟩⟩⟩⟩)), fun _ h => absurd h List.not_mem_nil⟩⟩⟩⟩⟩⟩⟩⟩⟩⟩⟩⟩⟩⟩⟩⟩⟩⟩⟩⟩⟩⟩⟩⟩⟩⟩⟩⟩⟩⟩⟩⟩
set_option maxRecDepth 20000 in
theorem kt_L_law_22 (g : gx_T) : ∀ q ∈ k_L_law_22 (gx_n g) (gx_x g), gx_E g gc_md RL code 4 (some .boolean) "law" q.1 q.2 := List.forall_mem_cons.mpr ⟨(gs_icmp_eq dL_law_1030 rfl), List.forall_mem_cons.mpr ⟨
  (gs_iconst dL_law_1033 rfl), List.forall_mem_cons.mpr ⟨
  (gs_rn dL_law_1034 (by decide)), List.forall_mem_cons.mpr ⟨
  (gs_aload_n dL_law_1035 rfl), List.forall_mem_cons.mpr ⟨
  (gs_aload_n dL_law_1036 rfl), List.forall_mem_cons.mpr ⟨
  (gs_iload_n dL_law_1037 rfl), List.forall_mem_cons.mpr ⟨
  (gs_iconst dL_law_1038 rfl), List.forall_mem_cons.mpr ⟨
  (gs_iadd dL_law_1039), List.forall_mem_cons.mpr ⟨
  (gs_sldX dL_law_1040), List.forall_mem_cons.mpr ⟨
  (gs_aload_n dL_law_1041 rfl), List.forall_mem_cons.mpr ⟨
  (gs_iload_n dL_law_1042 rfl), List.forall_mem_cons.mpr ⟨
  (gs_iconst dL_law_1043 rfl), List.forall_mem_cons.mpr ⟨
  (gs_iadd dL_law_1044), List.forall_mem_cons.mpr ⟨
  (gs_sldX dL_law_1045), List.forall_mem_cons.mpr ⟨
  (gs_aload_n dL_law_1046 rfl), List.forall_mem_cons.mpr ⟨
  (gs_iload_n dL_law_1047 rfl), List.forall_mem_cons.mpr ⟨
  (gs_iconst dL_law_1048 rfl), List.forall_mem_cons.mpr ⟨
  (gs_iadd dL_law_1049), List.forall_mem_cons.mpr ⟨
  (gs_sldX dL_law_1050), List.forall_mem_cons.mpr ⟨
  (gs_i2l dL_law_1051), List.forall_mem_cons.mpr ⟨
  (gs_bipush dL_law_1052 rfl), List.forall_mem_cons.mpr ⟨
  (gs_lshl dL_law_1054), List.forall_mem_cons.mpr ⟨
  (gs_aload_n dL_law_1055 rfl), List.forall_mem_cons.mpr ⟨
  (gs_iload_n dL_law_1056 rfl), List.forall_mem_cons.mpr ⟨
  (gs_iconst dL_law_1057 rfl), List.forall_mem_cons.mpr ⟨
  (gs_iadd dL_law_1058), List.forall_mem_cons.mpr ⟨
  (gs_sldX dL_law_1059), List.forall_mem_cons.mpr ⟨
  (gs_i2l dL_law_1060), List.forall_mem_cons.mpr ⟨
  (gs_ldc2 dL_law_1061 (gx_mem 1615 (by decide +kernel) (by decide +kernel))), List.forall_mem_cons.mpr ⟨
  (gs_land dL_law_1064), List.forall_mem_cons.mpr ⟨
  (gs_lor dL_law_1065), List.forall_mem_cons.mpr ⟨
  (gs_cv dL_law_1066 (fun q hq => by
      simp only [List.mem_cons, List.not_mem_nil, or_false] at hq
      subst hq
      exact Or.inl ⟨_, rfl, by decide, by decide +kernel, by decide +kernel, List.forall_mem_cons.mpr ⟨gx_mem 974 (by decide +kernel) (by decide +kernel), List.forall_mem_cons.mpr ⟨gx_mem 975 (by decide +kernel) (by decide +kernel), List.forall_mem_cons.mpr ⟨gx_mem 976 (by decide +kernel) (by decide +kernel), List.forall_mem_cons.mpr ⟨gx_mem 84 (by decide +kernel) (by decide +kernel), List.forall_mem_cons.mpr ⟨cw_977, fun _ h => absurd h List.not_mem_nil⟩⟩⟩⟩⟩⟩)), fun _ h => absurd h List.not_mem_nil⟩⟩⟩⟩⟩⟩⟩⟩⟩⟩⟩⟩⟩⟩⟩⟩⟩⟩⟩⟩⟩⟩⟩⟩⟩⟩⟩⟩⟩⟩⟩⟩
set_option maxRecDepth 20000 in
theorem kt_L_law_23 (g : gx_T) : ∀ q ∈ k_L_law_23 (gx_n g) (gx_x g), gx_E g gc_md RL code 4 (some .boolean) "law" q.1 q.2 := List.forall_mem_cons.mpr ⟨(gs_aload_n dL_law_1069 rfl), List.forall_mem_cons.mpr ⟨
  (gs_aload_n dL_law_1070 rfl), List.forall_mem_cons.mpr ⟨
  (gs_iload_n dL_law_1071 rfl), List.forall_mem_cons.mpr ⟨
  (gs_iconst dL_law_1072 rfl), List.forall_mem_cons.mpr ⟨
  (gs_iadd dL_law_1073), List.forall_mem_cons.mpr ⟨
  (gs_sldX dL_law_1074), List.forall_mem_cons.mpr ⟨
  (gs_aload_n dL_law_1075 rfl), List.forall_mem_cons.mpr ⟨
  (gs_iload_n dL_law_1076 rfl), List.forall_mem_cons.mpr ⟨
  (gs_iconst dL_law_1077 rfl), List.forall_mem_cons.mpr ⟨
  (gs_iadd dL_law_1078), List.forall_mem_cons.mpr ⟨
  (gs_sldX dL_law_1079), List.forall_mem_cons.mpr ⟨
  (gs_aload_n dL_law_1080 rfl), List.forall_mem_cons.mpr ⟨
  (gs_iload_n dL_law_1081 rfl), List.forall_mem_cons.mpr ⟨
  (gs_iconst dL_law_1082 rfl), List.forall_mem_cons.mpr ⟨
  (gs_iadd dL_law_1083), List.forall_mem_cons.mpr ⟨
  (gs_sldX dL_law_1084), List.forall_mem_cons.mpr ⟨
  (gs_i2l dL_law_1085), List.forall_mem_cons.mpr ⟨
  (gs_bipush dL_law_1086 rfl), List.forall_mem_cons.mpr ⟨
  (gs_lshl dL_law_1088), List.forall_mem_cons.mpr ⟨
  (gs_aload_n dL_law_1089 rfl), List.forall_mem_cons.mpr ⟨
  (gs_iload_n dL_law_1090 rfl), List.forall_mem_cons.mpr ⟨
  (gs_iconst dL_law_1091 rfl), List.forall_mem_cons.mpr ⟨
  (gs_iadd dL_law_1092), List.forall_mem_cons.mpr ⟨
  (gs_sldX dL_law_1093), List.forall_mem_cons.mpr ⟨
  (gs_i2l dL_law_1094), List.forall_mem_cons.mpr ⟨
  (gs_ldc2 dL_law_1095 (gx_mem 1615 (by decide +kernel) (by decide +kernel))), List.forall_mem_cons.mpr ⟨
  (gs_land dL_law_1098), List.forall_mem_cons.mpr ⟨
  (gs_lor dL_law_1099), List.forall_mem_cons.mpr ⟨
  (gs_cv dL_law_1100 (fun q hq => by
      simp only [List.mem_cons, List.not_mem_nil, or_false] at hq
      subst hq
      exact Or.inl ⟨_, rfl, by decide, by decide +kernel, by decide +kernel, List.forall_mem_cons.mpr ⟨gx_mem 1599 (by decide +kernel) (by decide +kernel), List.forall_mem_cons.mpr ⟨gx_mem 1600 (by decide +kernel) (by decide +kernel), List.forall_mem_cons.mpr ⟨gx_mem 1601 (by decide +kernel) (by decide +kernel), List.forall_mem_cons.mpr ⟨gx_mem 96 (by decide +kernel) (by decide +kernel), List.forall_mem_cons.mpr ⟨cw_1602, fun _ h => absurd h List.not_mem_nil⟩⟩⟩⟩⟩⟩)), List.forall_mem_cons.mpr ⟨
  (gs_icmp_eq dL_law_1103 rfl), List.forall_mem_cons.mpr ⟨
  (gs_iconst dL_law_1106 rfl), List.forall_mem_cons.mpr ⟨
  (gs_rn dL_law_1107 (by decide)), fun _ h => absurd h List.not_mem_nil⟩⟩⟩⟩⟩⟩⟩⟩⟩⟩⟩⟩⟩⟩⟩⟩⟩⟩⟩⟩⟩⟩⟩⟩⟩⟩⟩⟩⟩⟩⟩⟩
set_option maxRecDepth 20000 in
theorem kt_L_law_24 (g : gx_T) : ∀ q ∈ k_L_law_24 (gx_n g) (gx_x g), gx_E g gc_md RL code 4 (some .boolean) "law" q.1 q.2 := List.forall_mem_cons.mpr ⟨(gs_aload_n dL_law_1108 rfl), List.forall_mem_cons.mpr ⟨
  (gs_aload_n dL_law_1109 rfl), List.forall_mem_cons.mpr ⟨
  (gs_iload_n dL_law_1110 rfl), List.forall_mem_cons.mpr ⟨
  (gs_iconst dL_law_1111 rfl), List.forall_mem_cons.mpr ⟨
  (gs_iadd dL_law_1112), List.forall_mem_cons.mpr ⟨
  (gs_sldX dL_law_1113), List.forall_mem_cons.mpr ⟨
  (gs_aload_n dL_law_1114 rfl), List.forall_mem_cons.mpr ⟨
  (gs_iload_n dL_law_1115 rfl), List.forall_mem_cons.mpr ⟨
  (gs_iconst dL_law_1116 rfl), List.forall_mem_cons.mpr ⟨
  (gs_iadd dL_law_1117), List.forall_mem_cons.mpr ⟨
  (gs_sldX dL_law_1118), List.forall_mem_cons.mpr ⟨
  (gs_cv dL_law_1119 (fun q hq => by
      simp only [List.mem_cons, List.not_mem_nil, or_false] at hq
      subst hq
      exact Or.inl ⟨_, rfl, by decide, by decide +kernel, by decide +kernel, List.forall_mem_cons.mpr ⟨gx_mem 982 (by decide +kernel) (by decide +kernel), List.forall_mem_cons.mpr ⟨gx_mem 983 (by decide +kernel) (by decide +kernel), List.forall_mem_cons.mpr ⟨gx_mem 984 (by decide +kernel) (by decide +kernel), List.forall_mem_cons.mpr ⟨gx_mem 84 (by decide +kernel) (by decide +kernel), List.forall_mem_cons.mpr ⟨cw_985, fun _ h => absurd h List.not_mem_nil⟩⟩⟩⟩⟩⟩)), List.forall_mem_cons.mpr ⟨
  (gs_aload_n dL_law_1122 rfl), List.forall_mem_cons.mpr ⟨
  (gs_aload_n dL_law_1123 rfl), List.forall_mem_cons.mpr ⟨
  (gs_iload_n dL_law_1124 rfl), List.forall_mem_cons.mpr ⟨
  (gs_iconst dL_law_1125 rfl), List.forall_mem_cons.mpr ⟨
  (gs_iadd dL_law_1126), List.forall_mem_cons.mpr ⟨
  (gs_sldX dL_law_1127), List.forall_mem_cons.mpr ⟨
  (gs_aload_n dL_law_1128 rfl), List.forall_mem_cons.mpr ⟨
  (gs_iload_n dL_law_1129 rfl), List.forall_mem_cons.mpr ⟨
  (gs_iconst dL_law_1130 rfl), List.forall_mem_cons.mpr ⟨
  (gs_iadd dL_law_1131), List.forall_mem_cons.mpr ⟨
  (gs_sldX dL_law_1132), List.forall_mem_cons.mpr ⟨
  (gs_cv dL_law_1133 (fun q hq => by
      simp only [List.mem_cons, List.not_mem_nil, or_false] at hq
      subst hq
      exact Or.inl ⟨_, rfl, by decide, by decide +kernel, by decide +kernel, List.forall_mem_cons.mpr ⟨gx_mem 1607 (by decide +kernel) (by decide +kernel), List.forall_mem_cons.mpr ⟨gx_mem 1608 (by decide +kernel) (by decide +kernel), List.forall_mem_cons.mpr ⟨gx_mem 1609 (by decide +kernel) (by decide +kernel), List.forall_mem_cons.mpr ⟨gx_mem 96 (by decide +kernel) (by decide +kernel), List.forall_mem_cons.mpr ⟨cw_1610, fun _ h => absurd h List.not_mem_nil⟩⟩⟩⟩⟩⟩)), List.forall_mem_cons.mpr ⟨
  (gs_lcmp dL_law_1136), List.forall_mem_cons.mpr ⟨
  (gs_if_eq dL_law_1137 rfl), List.forall_mem_cons.mpr ⟨
  (gs_iconst dL_law_1140 rfl), List.forall_mem_cons.mpr ⟨
  (gs_rn dL_law_1141 (by decide)), List.forall_mem_cons.mpr ⟨
  (gs_aload_n dL_law_1142 rfl), List.forall_mem_cons.mpr ⟨
  (gs_aload_n dL_law_1143 rfl), List.forall_mem_cons.mpr ⟨
  (gs_iload_n dL_law_1144 rfl), List.forall_mem_cons.mpr ⟨
  (gs_iconst dL_law_1145 rfl), fun _ h => absurd h List.not_mem_nil⟩⟩⟩⟩⟩⟩⟩⟩⟩⟩⟩⟩⟩⟩⟩⟩⟩⟩⟩⟩⟩⟩⟩⟩⟩⟩⟩⟩⟩⟩⟩⟩
set_option maxRecDepth 20000 in
theorem kt_L_law_25 (g : gx_T) : ∀ q ∈ k_L_law_25 (gx_n g) (gx_x g), gx_E g gc_md RL code 4 (some .boolean) "law" q.1 q.2 := List.forall_mem_cons.mpr ⟨(gs_iadd dL_law_1146), List.forall_mem_cons.mpr ⟨
  (gs_sldX dL_law_1147), List.forall_mem_cons.mpr ⟨
  (gs_aload_n dL_law_1148 rfl), List.forall_mem_cons.mpr ⟨
  (gs_iload_n dL_law_1149 rfl), List.forall_mem_cons.mpr ⟨
  (gs_iconst dL_law_1150 rfl), List.forall_mem_cons.mpr ⟨
  (gs_iadd dL_law_1151), List.forall_mem_cons.mpr ⟨
  (gs_sldX dL_law_1152), List.forall_mem_cons.mpr ⟨
  (gs_aload_n dL_law_1153 rfl), List.forall_mem_cons.mpr ⟨
  (gs_iload_n dL_law_1154 rfl), List.forall_mem_cons.mpr ⟨
  (gs_iconst dL_law_1155 rfl), List.forall_mem_cons.mpr ⟨
  (gs_iadd dL_law_1156), List.forall_mem_cons.mpr ⟨
  (gs_sldX dL_law_1157), List.forall_mem_cons.mpr ⟨
  (gs_aload_n dL_law_1158 rfl), List.forall_mem_cons.mpr ⟨
  (gs_iload_n dL_law_1159 rfl), List.forall_mem_cons.mpr ⟨
  (gs_iconst dL_law_1160 rfl), List.forall_mem_cons.mpr ⟨
  (gs_iadd dL_law_1161), List.forall_mem_cons.mpr ⟨
  (gs_sldX dL_law_1162), List.forall_mem_cons.mpr ⟨
  (gs_aload_n dL_law_1163 rfl), List.forall_mem_cons.mpr ⟨
  (gs_iload_n dL_law_1164 rfl), List.forall_mem_cons.mpr ⟨
  (gs_iconst dL_law_1165 rfl), List.forall_mem_cons.mpr ⟨
  (gs_iadd dL_law_1166), List.forall_mem_cons.mpr ⟨
  (gs_sldX dL_law_1167), List.forall_mem_cons.mpr ⟨
  (gs_cv dL_law_1168 (fun q hq => by
      simp only [List.mem_cons, List.not_mem_nil, or_false] at hq
      subst hq
      exact Or.inl ⟨_, rfl, by decide, by decide +kernel, by decide +kernel, List.forall_mem_cons.mpr ⟨gx_mem 986 (by decide +kernel) (by decide +kernel), List.forall_mem_cons.mpr ⟨gx_mem 987 (by decide +kernel) (by decide +kernel), List.forall_mem_cons.mpr ⟨gx_mem 988 (by decide +kernel) (by decide +kernel), List.forall_mem_cons.mpr ⟨gx_mem 84 (by decide +kernel) (by decide +kernel), List.forall_mem_cons.mpr ⟨cw_989, fun _ h => absurd h List.not_mem_nil⟩⟩⟩⟩⟩⟩)), List.forall_mem_cons.mpr ⟨
  (gs_aload_n dL_law_1171 rfl), List.forall_mem_cons.mpr ⟨
  (gs_aload_n dL_law_1172 rfl), List.forall_mem_cons.mpr ⟨
  (gs_iload_n dL_law_1173 rfl), List.forall_mem_cons.mpr ⟨
  (gs_iconst dL_law_1174 rfl), List.forall_mem_cons.mpr ⟨
  (gs_iadd dL_law_1175), List.forall_mem_cons.mpr ⟨
  (gs_sldX dL_law_1176), List.forall_mem_cons.mpr ⟨
  (gs_aload_n dL_law_1177 rfl), List.forall_mem_cons.mpr ⟨
  (gs_iload_n dL_law_1178 rfl), List.forall_mem_cons.mpr ⟨
  (gs_iconst dL_law_1179 rfl), fun _ h => absurd h List.not_mem_nil⟩⟩⟩⟩⟩⟩⟩⟩⟩⟩⟩⟩⟩⟩⟩⟩⟩⟩⟩⟩⟩⟩⟩⟩⟩⟩⟩⟩⟩⟩⟩⟩
set_option maxRecDepth 20000 in
theorem kt_L_law_26 (g : gx_T) : ∀ q ∈ k_L_law_26 (gx_n g) (gx_x g), gx_E g gc_md RL code 4 (some .boolean) "law" q.1 q.2 := List.forall_mem_cons.mpr ⟨(gs_iadd dL_law_1180), List.forall_mem_cons.mpr ⟨
  (gs_sldX dL_law_1181), List.forall_mem_cons.mpr ⟨
  (gs_aload_n dL_law_1182 rfl), List.forall_mem_cons.mpr ⟨
  (gs_iload_n dL_law_1183 rfl), List.forall_mem_cons.mpr ⟨
  (gs_iconst dL_law_1184 rfl), List.forall_mem_cons.mpr ⟨
  (gs_iadd dL_law_1185), List.forall_mem_cons.mpr ⟨
  (gs_sldX dL_law_1186), List.forall_mem_cons.mpr ⟨
  (gs_aload_n dL_law_1187 rfl), List.forall_mem_cons.mpr ⟨
  (gs_iload_n dL_law_1188 rfl), List.forall_mem_cons.mpr ⟨
  (gs_iconst dL_law_1189 rfl), List.forall_mem_cons.mpr ⟨
  (gs_iadd dL_law_1190), List.forall_mem_cons.mpr ⟨
  (gs_sldX dL_law_1191), List.forall_mem_cons.mpr ⟨
  (gs_aload_n dL_law_1192 rfl), List.forall_mem_cons.mpr ⟨
  (gs_iload_n dL_law_1193 rfl), List.forall_mem_cons.mpr ⟨
  (gs_iconst dL_law_1194 rfl), List.forall_mem_cons.mpr ⟨
  (gs_iadd dL_law_1195), List.forall_mem_cons.mpr ⟨
  (gs_sldX dL_law_1196), List.forall_mem_cons.mpr ⟨
  (gs_cv dL_law_1197 (fun q hq => by
      simp only [List.mem_cons, List.not_mem_nil, or_false] at hq
      subst hq
      exact Or.inl ⟨_, rfl, by decide, by decide +kernel, by decide +kernel, List.forall_mem_cons.mpr ⟨gx_mem 1611 (by decide +kernel) (by decide +kernel), List.forall_mem_cons.mpr ⟨gx_mem 1612 (by decide +kernel) (by decide +kernel), List.forall_mem_cons.mpr ⟨gx_mem 1613 (by decide +kernel) (by decide +kernel), List.forall_mem_cons.mpr ⟨gx_mem 96 (by decide +kernel) (by decide +kernel), List.forall_mem_cons.mpr ⟨cw_1614, fun _ h => absurd h List.not_mem_nil⟩⟩⟩⟩⟩⟩)), List.forall_mem_cons.mpr ⟨
  (gs_icmp_eq dL_law_1200 rfl), List.forall_mem_cons.mpr ⟨
  (gs_iconst dL_law_1203 rfl), List.forall_mem_cons.mpr ⟨
  (gs_rn dL_law_1204 (by decide)), List.forall_mem_cons.mpr ⟨
  (gs_iinc dL_law_1205), List.forall_mem_cons.mpr ⟨
  (gs_goto dL_law_1208 rfl), List.forall_mem_cons.mpr ⟨
  (gs_iconst dL_law_1211 rfl), List.forall_mem_cons.mpr ⟨
  (gs_rn dL_law_1212 (by decide)), fun _ h => absurd h List.not_mem_nil⟩⟩⟩⟩⟩⟩⟩⟩⟩⟩⟩⟩⟩⟩⟩⟩⟩⟩⟩⟩⟩⟩⟩⟩⟩
theorem kt_L_law (g : gx_T) : ∀ q ∈ k_L_law (gx_n g) (gx_x g), gx_E g gc_md RL code 4 (some .boolean) "law" q.1 q.2 := List.forall_mem_append.mpr ⟨kt_L_law_0 g, List.forall_mem_append.mpr ⟨kt_L_law_1 g, List.forall_mem_append.mpr ⟨kt_L_law_2 g, List.forall_mem_append.mpr ⟨kt_L_law_3 g, List.forall_mem_append.mpr ⟨kt_L_law_4 g, List.forall_mem_append.mpr ⟨kt_L_law_5 g, List.forall_mem_append.mpr ⟨kt_L_law_6 g, List.forall_mem_append.mpr ⟨kt_L_law_7 g, List.forall_mem_append.mpr ⟨kt_L_law_8 g, List.forall_mem_append.mpr ⟨kt_L_law_9 g, List.forall_mem_append.mpr ⟨kt_L_law_10 g, List.forall_mem_append.mpr ⟨kt_L_law_11 g, List.forall_mem_append.mpr ⟨kt_L_law_12 g, List.forall_mem_append.mpr ⟨kt_L_law_13 g, List.forall_mem_append.mpr ⟨kt_L_law_14 g, List.forall_mem_append.mpr ⟨kt_L_law_15 g, List.forall_mem_append.mpr ⟨kt_L_law_16 g, List.forall_mem_append.mpr ⟨kt_L_law_17 g, List.forall_mem_append.mpr ⟨kt_L_law_18 g, List.forall_mem_append.mpr ⟨kt_L_law_19 g, List.forall_mem_append.mpr ⟨kt_L_law_20 g, List.forall_mem_append.mpr ⟨kt_L_law_21 g, List.forall_mem_append.mpr ⟨kt_L_law_22 g, List.forall_mem_append.mpr ⟨kt_L_law_23 g, List.forall_mem_append.mpr ⟨kt_L_law_24 g, List.forall_mem_append.mpr ⟨kt_L_law_25 g, kt_L_law_26 g⟩⟩⟩⟩⟩⟩⟩⟩⟩⟩⟩⟩⟩⟩⟩⟩⟩⟩⟩⟩⟩⟩⟩⟩⟩⟩
