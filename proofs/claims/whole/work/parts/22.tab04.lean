/-! decoded, and each instruction a row -/
set_option maxRecDepth 20000 in
theorem dX12_init_0 : decode cX12_init 0 = .ok (.aload_n 0, 1) := by decide +kernel
set_option maxRecDepth 20000 in
theorem dX12_init_1 : decode cX12_init 1 = .ok (.invokespecial 1, 3) := by decide +kernel
set_option maxRecDepth 20000 in
theorem dX12_init_4 : decode cX12_init 4 = .ok (.aload_n 0, 1) := by decide +kernel
set_option maxRecDepth 20000 in
theorem dX12_init_5 : decode cX12_init 5 = .ok (.iconst 0, 1) := by decide +kernel
set_option maxRecDepth 20000 in
theorem dX12_init_6 : decode cX12_init 6 = .ok (.putfield 7, 3) := by decide +kernel
set_option maxRecDepth 20000 in
theorem dX12_init_9 : decode cX12_init 9 = .ok (.aload_n 0, 1) := by decide +kernel
set_option maxRecDepth 20000 in
theorem dX12_init_10 : decode cX12_init 10 = .ok (.iconst 0, 1) := by decide +kernel
set_option maxRecDepth 20000 in
theorem dX12_init_11 : decode cX12_init 11 = .ok (.putfield 13, 3) := by decide +kernel
set_option maxRecDepth 20000 in
theorem dX12_init_14 : decode cX12_init 14 = .ok (.aload_n 0, 1) := by decide +kernel
set_option maxRecDepth 20000 in
theorem dX12_init_15 : decode cX12_init 15 = .ok (.iconst 0, 1) := by decide +kernel
set_option maxRecDepth 20000 in
theorem dX12_init_16 : decode cX12_init 16 = .ok (.putfield 16, 3) := by decide +kernel
set_option maxRecDepth 20000 in
theorem dX12_init_19 : decode cX12_init 19 = .ok (.aload_n 0, 1) := by decide +kernel
set_option maxRecDepth 20000 in
theorem dX12_init_20 : decode cX12_init 20 = .ok (.iconst 4, 1) := by decide +kernel
set_option maxRecDepth 20000 in
theorem dX12_init_21 : decode cX12_init 21 = .ok (.newarray .int, 2) := by decide +kernel
set_option maxRecDepth 20000 in
theorem dX12_init_23 : decode cX12_init 23 = .ok (.dup, 1) := by decide +kernel
set_option maxRecDepth 20000 in
theorem dX12_init_24 : decode cX12_init 24 = .ok (.iconst 0, 1) := by decide +kernel
set_option maxRecDepth 20000 in
theorem dX12_init_25 : decode cX12_init 25 = .ok (.iconst 2, 1) := by decide +kernel
set_option maxRecDepth 20000 in
theorem dX12_init_26 : decode cX12_init 26 = .ok (.iastore, 1) := by decide +kernel
set_option maxRecDepth 20000 in
theorem dX12_init_27 : decode cX12_init 27 = .ok (.dup, 1) := by decide +kernel
set_option maxRecDepth 20000 in
theorem dX12_init_28 : decode cX12_init 28 = .ok (.iconst 1, 1) := by decide +kernel
set_option maxRecDepth 20000 in
theorem dX12_init_29 : decode cX12_init 29 = .ok (.iconst 2, 1) := by decide +kernel
set_option maxRecDepth 20000 in
theorem dX12_init_30 : decode cX12_init 30 = .ok (.iastore, 1) := by decide +kernel
set_option maxRecDepth 20000 in
theorem dX12_init_31 : decode cX12_init 31 = .ok (.dup, 1) := by decide +kernel
set_option maxRecDepth 20000 in
theorem dX12_init_32 : decode cX12_init 32 = .ok (.iconst 2, 1) := by decide +kernel
set_option maxRecDepth 20000 in
theorem dX12_init_33 : decode cX12_init 33 = .ok (.iconst 2, 1) := by decide +kernel
set_option maxRecDepth 20000 in
theorem dX12_init_34 : decode cX12_init 34 = .ok (.iastore, 1) := by decide +kernel
set_option maxRecDepth 20000 in
theorem dX12_init_35 : decode cX12_init 35 = .ok (.dup, 1) := by decide +kernel
set_option maxRecDepth 20000 in
theorem dX12_init_36 : decode cX12_init 36 = .ok (.iconst 3, 1) := by decide +kernel
set_option maxRecDepth 20000 in
theorem dX12_init_37 : decode cX12_init 37 = .ok (.iconst 2, 1) := by decide +kernel
set_option maxRecDepth 20000 in
theorem dX12_init_38 : decode cX12_init 38 = .ok (.iastore, 1) := by decide +kernel
set_option maxRecDepth 20000 in
theorem dX12_init_39 : decode cX12_init 39 = .ok (.putfield 19, 3) := by decide +kernel
set_option maxRecDepth 20000 in
theorem dX12_init_42 : decode cX12_init 42 = .ok (.aload_n 0, 1) := by decide +kernel
set_option maxRecDepth 20000 in
theorem dX12_init_43 : decode cX12_init 43 = .ok (.bipush 6, 2) := by decide +kernel
set_option maxRecDepth 20000 in
theorem dX12_init_45 : decode cX12_init 45 = .ok (.newarray .int, 2) := by decide +kernel
set_option maxRecDepth 20000 in
theorem dX12_init_47 : decode cX12_init 47 = .ok (.putfield 23, 3) := by decide +kernel
set_option maxRecDepth 20000 in
theorem dX12_init_50 : decode cX12_init 50 = .ok (.aload_n 0, 1) := by decide +kernel
set_option maxRecDepth 20000 in
theorem dX12_init_51 : decode cX12_init 51 = .ok (.bipush 6, 2) := by decide +kernel
set_option maxRecDepth 20000 in
theorem dX12_init_53 : decode cX12_init 53 = .ok (.newarray .int, 2) := by decide +kernel
set_option maxRecDepth 20000 in
theorem dX12_init_55 : decode cX12_init 55 = .ok (.putfield 26, 3) := by decide +kernel
set_option maxRecDepth 20000 in
theorem dX12_init_58 : decode cX12_init 58 = .ok (.aload_n 0, 1) := by decide +kernel
set_option maxRecDepth 20000 in
theorem dX12_init_59 : decode cX12_init 59 = .ok (.bipush 6, 2) := by decide +kernel
set_option maxRecDepth 20000 in
theorem dX12_init_61 : decode cX12_init 61 = .ok (.newarray .int, 2) := by decide +kernel
set_option maxRecDepth 20000 in
theorem dX12_init_63 : decode cX12_init 63 = .ok (.putfield 29, 3) := by decide +kernel
set_option maxRecDepth 20000 in
theorem dX12_init_66 : decode cX12_init 66 = .ok (.aload_n 0, 1) := by decide +kernel
set_option maxRecDepth 20000 in
theorem dX12_init_67 : decode cX12_init 67 = .ok (.bipush 24, 2) := by decide +kernel
set_option maxRecDepth 20000 in
theorem dX12_init_69 : decode cX12_init 69 = .ok (.newarray .int, 2) := by decide +kernel
set_option maxRecDepth 20000 in
theorem dX12_init_71 : decode cX12_init 71 = .ok (.putfield 32, 3) := by decide +kernel
set_option maxRecDepth 20000 in
theorem dX12_init_74 : decode cX12_init 74 = .ok (.aload_n 0, 1) := by decide +kernel
set_option maxRecDepth 20000 in
theorem dX12_init_75 : decode cX12_init 75 = .ok (.bipush 8, 2) := by decide +kernel
set_option maxRecDepth 20000 in
theorem dX12_init_77 : decode cX12_init 77 = .ok (.newarray .int, 2) := by decide +kernel
set_option maxRecDepth 20000 in
theorem dX12_init_79 : decode cX12_init 79 = .ok (.putfield 35, 3) := by decide +kernel
set_option maxRecDepth 20000 in
theorem dX12_init_82 : decode cX12_init 82 = .ok (.aload_n 0, 1) := by decide +kernel
set_option maxRecDepth 20000 in
theorem dX12_init_83 : decode cX12_init 83 = .ok (.bipush 8, 2) := by decide +kernel
set_option maxRecDepth 20000 in
theorem dX12_init_85 : decode cX12_init 85 = .ok (.newarray .int, 2) := by decide +kernel
set_option maxRecDepth 20000 in
theorem dX12_init_87 : decode cX12_init 87 = .ok (.putfield 38, 3) := by decide +kernel
set_option maxRecDepth 20000 in
theorem dX12_init_90 : decode cX12_init 90 = .ok (.aload_n 0, 1) := by decide +kernel
set_option maxRecDepth 20000 in
theorem dX12_init_91 : decode cX12_init 91 = .ok (.bipush 8, 2) := by decide +kernel
set_option maxRecDepth 20000 in
theorem dX12_init_93 : decode cX12_init 93 = .ok (.newarray .int, 2) := by decide +kernel
set_option maxRecDepth 20000 in
theorem dX12_init_95 : decode cX12_init 95 = .ok (.putfield 41, 3) := by decide +kernel
set_option maxRecDepth 20000 in
theorem dX12_init_98 : decode cX12_init 98 = .ok (.aload_n 0, 1) := by decide +kernel
set_option maxRecDepth 20000 in
theorem dX12_init_99 : decode cX12_init 99 = .ok (.bipush 8, 2) := by decide +kernel
set_option maxRecDepth 20000 in
theorem dX12_init_101 : decode cX12_init 101 = .ok (.newarray .int, 2) := by decide +kernel
set_option maxRecDepth 20000 in
theorem dX12_init_103 : decode cX12_init 103 = .ok (.putfield 44, 3) := by decide +kernel
set_option maxRecDepth 20000 in
theorem dX12_init_106 : decode cX12_init 106 = .ok (.aload_n 0, 1) := by decide +kernel
set_option maxRecDepth 20000 in
theorem dX12_init_107 : decode cX12_init 107 = .ok (.bipush 8, 2) := by decide +kernel
set_option maxRecDepth 20000 in
theorem dX12_init_109 : decode cX12_init 109 = .ok (.newarray .int, 2) := by decide +kernel
set_option maxRecDepth 20000 in
theorem dX12_init_111 : decode cX12_init 111 = .ok (.putfield 47, 3) := by decide +kernel
set_option maxRecDepth 20000 in
theorem dX12_init_114 : decode cX12_init 114 = .ok (.aload_n 0, 1) := by decide +kernel
set_option maxRecDepth 20000 in
theorem dX12_init_115 : decode cX12_init 115 = .ok (.iconst 0, 1) := by decide +kernel
set_option maxRecDepth 20000 in
theorem dX12_init_116 : decode cX12_init 116 = .ok (.putfield 50, 3) := by decide +kernel
set_option maxRecDepth 20000 in
theorem dX12_init_119 : decode cX12_init 119 = .ok (.aload_n 0, 1) := by decide +kernel
set_option maxRecDepth 20000 in
theorem dX12_init_120 : decode cX12_init 120 = .ok (.iconst (-1), 1) := by decide +kernel
set_option maxRecDepth 20000 in
theorem dX12_init_121 : decode cX12_init 121 = .ok (.putfield 53, 3) := by decide +kernel
set_option maxRecDepth 20000 in
theorem dX12_init_124 : decode cX12_init 124 = .ok (.aload_n 0, 1) := by decide +kernel
set_option maxRecDepth 20000 in
theorem dX12_init_125 : decode cX12_init 125 = .ok (.iconst 0, 1) := by decide +kernel
set_option maxRecDepth 20000 in
theorem dX12_init_126 : decode cX12_init 126 = .ok (.putfield 56, 3) := by decide +kernel
set_option maxRecDepth 20000 in
theorem dX12_init_129 : decode cX12_init 129 = .ok (.aload_n 0, 1) := by decide +kernel
set_option maxRecDepth 20000 in
theorem dX12_init_130 : decode cX12_init 130 = .ok (.iconst 0, 1) := by decide +kernel
set_option maxRecDepth 20000 in
theorem dX12_init_131 : decode cX12_init 131 = .ok (.putfield 59, 3) := by decide +kernel
set_option maxRecDepth 20000 in
theorem dX12_init_134 : decode cX12_init 134 = .ok (.aload_n 0, 1) := by decide +kernel
set_option maxRecDepth 20000 in
theorem dX12_init_135 : decode cX12_init 135 = .ok (.iconst 0, 1) := by decide +kernel
set_option maxRecDepth 20000 in
theorem dX12_init_136 : decode cX12_init 136 = .ok (.putfield 62, 3) := by decide +kernel
set_option maxRecDepth 20000 in
theorem dX12_init_139 : decode cX12_init 139 = .ok (.aload_n 0, 1) := by decide +kernel
set_option maxRecDepth 20000 in
theorem dX12_init_140 : decode cX12_init 140 = .ok (.bipush 100, 2) := by decide +kernel
set_option maxRecDepth 20000 in
theorem dX12_init_142 : decode cX12_init 142 = .ok (.newarray .int, 2) := by decide +kernel
set_option maxRecDepth 20000 in
theorem dX12_init_144 : decode cX12_init 144 = .ok (.putfield 65, 3) := by decide +kernel
set_option maxRecDepth 20000 in
theorem dX12_init_147 : decode cX12_init 147 = .ok (.aload_n 0, 1) := by decide +kernel
set_option maxRecDepth 20000 in
theorem dX12_init_148 : decode cX12_init 148 = .ok (.bipush 6, 2) := by decide +kernel
set_option maxRecDepth 20000 in
theorem dX12_init_150 : decode cX12_init 150 = .ok (.newarray .int, 2) := by decide +kernel
set_option maxRecDepth 20000 in
theorem dX12_init_152 : decode cX12_init 152 = .ok (.putfield 68, 3) := by decide +kernel
set_option maxRecDepth 20000 in
theorem dX12_init_155 : decode cX12_init 155 = .ok (.aload_n 0, 1) := by decide +kernel
set_option maxRecDepth 20000 in
theorem dX12_init_156 : decode cX12_init 156 = .ok (.bipush 60, 2) := by decide +kernel
set_option maxRecDepth 20000 in
theorem dX12_init_158 : decode cX12_init 158 = .ok (.newarray .int, 2) := by decide +kernel
set_option maxRecDepth 20000 in
theorem dX12_init_160 : decode cX12_init 160 = .ok (.putfield 71, 3) := by decide +kernel
set_option maxRecDepth 20000 in
theorem dX12_init_163 : decode cX12_init 163 = .ok (.aload_n 0, 1) := by decide +kernel
set_option maxRecDepth 20000 in
theorem dX12_init_164 : decode cX12_init 164 = .ok (.bipush 60, 2) := by decide +kernel
set_option maxRecDepth 20000 in
theorem dX12_init_166 : decode cX12_init 166 = .ok (.newarray .int, 2) := by decide +kernel
set_option maxRecDepth 20000 in
theorem dX12_init_168 : decode cX12_init 168 = .ok (.putfield 74, 3) := by decide +kernel
set_option maxRecDepth 20000 in
theorem dX12_init_171 : decode cX12_init 171 = .ok (.aload_n 0, 1) := by decide +kernel
set_option maxRecDepth 20000 in
theorem dX12_init_172 : decode cX12_init 172 = .ok (.bipush 60, 2) := by decide +kernel
set_option maxRecDepth 20000 in
theorem dX12_init_174 : decode cX12_init 174 = .ok (.newarray .int, 2) := by decide +kernel
set_option maxRecDepth 20000 in
theorem dX12_init_176 : decode cX12_init 176 = .ok (.putfield 77, 3) := by decide +kernel
set_option maxRecDepth 20000 in
theorem dX12_init_179 : decode cX12_init 179 = .ok (.aload_n 0, 1) := by decide +kernel
set_option maxRecDepth 20000 in
theorem dX12_init_180 : decode cX12_init 180 = .ok (.bipush 60, 2) := by decide +kernel
set_option maxRecDepth 20000 in
theorem dX12_init_182 : decode cX12_init 182 = .ok (.newarray .int, 2) := by decide +kernel
set_option maxRecDepth 20000 in
theorem dX12_init_184 : decode cX12_init 184 = .ok (.putfield 80, 3) := by decide +kernel
set_option maxRecDepth 20000 in
theorem dX12_init_187 : decode cX12_init 187 = .ok (.aload_n 0, 1) := by decide +kernel
set_option maxRecDepth 20000 in
theorem dX12_init_188 : decode cX12_init 188 = .ok (.sipush 600, 3) := by decide +kernel
set_option maxRecDepth 20000 in
theorem dX12_init_191 : decode cX12_init 191 = .ok (.newarray .int, 2) := by decide +kernel
set_option maxRecDepth 20000 in
theorem dX12_init_193 : decode cX12_init 193 = .ok (.putfield 83, 3) := by decide +kernel
set_option maxRecDepth 20000 in
theorem dX12_init_196 : decode cX12_init 196 = .ok (.aload_n 0, 1) := by decide +kernel
set_option maxRecDepth 20000 in
theorem dX12_init_197 : decode cX12_init 197 = .ok (.bipush 101, 2) := by decide +kernel
set_option maxRecDepth 20000 in
theorem dX12_init_199 : decode cX12_init 199 = .ok (.newarray .int, 2) := by decide +kernel
set_option maxRecDepth 20000 in
theorem dX12_init_201 : decode cX12_init 201 = .ok (.putfield 86, 3) := by decide +kernel
set_option maxRecDepth 20000 in
theorem dX12_init_204 : decode cX12_init 204 = .ok (.aload_n 0, 1) := by decide +kernel
set_option maxRecDepth 20000 in
theorem dX12_init_205 : decode cX12_init 205 = .ok (.iconst 0, 1) := by decide +kernel
set_option maxRecDepth 20000 in
theorem dX12_init_206 : decode cX12_init 206 = .ok (.putfield 89, 3) := by decide +kernel
set_option maxRecDepth 20000 in
theorem dX12_init_209 : decode cX12_init 209 = .ok (.aload_n 0, 1) := by decide +kernel
set_option maxRecDepth 20000 in
theorem dX12_init_210 : decode cX12_init 210 = .ok (.iconst 0, 1) := by decide +kernel
set_option maxRecDepth 20000 in
theorem dX12_init_211 : decode cX12_init 211 = .ok (.putfield 92, 3) := by decide +kernel
set_option maxRecDepth 20000 in
theorem dX12_init_214 : decode cX12_init 214 = .ok (.aload_n 0, 1) := by decide +kernel
set_option maxRecDepth 20000 in
theorem dX12_init_215 : decode cX12_init 215 = .ok (.iconst 0, 1) := by decide +kernel
set_option maxRecDepth 20000 in
theorem dX12_init_216 : decode cX12_init 216 = .ok (.putfield 95, 3) := by decide +kernel
set_option maxRecDepth 20000 in
theorem dX12_init_219 : decode cX12_init 219 = .ok (.aload_n 0, 1) := by decide +kernel
set_option maxRecDepth 20000 in
theorem dX12_init_220 : decode cX12_init 220 = .ok (.bipush 18, 2) := by decide +kernel
set_option maxRecDepth 20000 in
theorem dX12_init_222 : decode cX12_init 222 = .ok (.newarray .int, 2) := by decide +kernel
set_option maxRecDepth 20000 in
theorem dX12_init_224 : decode cX12_init 224 = .ok (.dup, 1) := by decide +kernel
set_option maxRecDepth 20000 in
theorem dX12_init_225 : decode cX12_init 225 = .ok (.iconst 0, 1) := by decide +kernel
set_option maxRecDepth 20000 in
theorem dX12_init_226 : decode cX12_init 226 = .ok (.bipush 115, 2) := by decide +kernel
set_option maxRecDepth 20000 in
theorem dX12_init_228 : decode cX12_init 228 = .ok (.iastore, 1) := by decide +kernel
set_option maxRecDepth 20000 in
theorem dX12_init_229 : decode cX12_init 229 = .ok (.dup, 1) := by decide +kernel
set_option maxRecDepth 20000 in
theorem dX12_init_230 : decode cX12_init 230 = .ok (.iconst 1, 1) := by decide +kernel
set_option maxRecDepth 20000 in
theorem dX12_init_231 : decode cX12_init 231 = .ok (.bipush 116, 2) := by decide +kernel
set_option maxRecDepth 20000 in
theorem dX12_init_233 : decode cX12_init 233 = .ok (.iastore, 1) := by decide +kernel
set_option maxRecDepth 20000 in
theorem dX12_init_234 : decode cX12_init 234 = .ok (.dup, 1) := by decide +kernel
set_option maxRecDepth 20000 in
theorem dX12_init_235 : decode cX12_init 235 = .ok (.iconst 2, 1) := by decide +kernel
set_option maxRecDepth 20000 in
theorem dX12_init_236 : decode cX12_init 236 = .ok (.bipush 114, 2) := by decide +kernel
set_option maxRecDepth 20000 in
theorem dX12_init_238 : decode cX12_init 238 = .ok (.iastore, 1) := by decide +kernel
set_option maxRecDepth 20000 in
theorem dX12_init_239 : decode cX12_init 239 = .ok (.dup, 1) := by decide +kernel
set_option maxRecDepth 20000 in
theorem dX12_init_240 : decode cX12_init 240 = .ok (.iconst 3, 1) := by decide +kernel
set_option maxRecDepth 20000 in
theorem dX12_init_241 : decode cX12_init 241 = .ok (.bipush 111, 2) := by decide +kernel
set_option maxRecDepth 20000 in
theorem dX12_init_243 : decode cX12_init 243 = .ok (.iastore, 1) := by decide +kernel
set_option maxRecDepth 20000 in
theorem dX12_init_244 : decode cX12_init 244 = .ok (.dup, 1) := by decide +kernel
set_option maxRecDepth 20000 in
theorem dX12_init_245 : decode cX12_init 245 = .ok (.iconst 4, 1) := by decide +kernel
set_option maxRecDepth 20000 in
theorem dX12_init_246 : decode cX12_init 246 = .ok (.bipush 110, 2) := by decide +kernel
set_option maxRecDepth 20000 in
theorem dX12_init_248 : decode cX12_init 248 = .ok (.iastore, 1) := by decide +kernel
set_option maxRecDepth 20000 in
theorem dX12_init_249 : decode cX12_init 249 = .ok (.dup, 1) := by decide +kernel
set_option maxRecDepth 20000 in
theorem dX12_init_250 : decode cX12_init 250 = .ok (.iconst 5, 1) := by decide +kernel
set_option maxRecDepth 20000 in
theorem dX12_init_251 : decode cX12_init 251 = .ok (.bipush 103, 2) := by decide +kernel
set_option maxRecDepth 20000 in
theorem dX12_init_253 : decode cX12_init 253 = .ok (.iastore, 1) := by decide +kernel
set_option maxRecDepth 20000 in
theorem dX12_init_254 : decode cX12_init 254 = .ok (.dup, 1) := by decide +kernel
set_option maxRecDepth 20000 in
theorem dX12_init_255 : decode cX12_init 255 = .ok (.bipush 6, 2) := by decide +kernel
set_option maxRecDepth 20000 in
theorem dX12_init_257 : decode cX12_init 257 = .ok (.bipush 119, 2) := by decide +kernel
set_option maxRecDepth 20000 in
theorem dX12_init_259 : decode cX12_init 259 = .ok (.iastore, 1) := by decide +kernel
set_option maxRecDepth 20000 in
theorem dX12_init_260 : decode cX12_init 260 = .ok (.dup, 1) := by decide +kernel
set_option maxRecDepth 20000 in
theorem dX12_init_261 : decode cX12_init 261 = .ok (.bipush 7, 2) := by decide +kernel
set_option maxRecDepth 20000 in
theorem dX12_init_263 : decode cX12_init 263 = .ok (.bipush 101, 2) := by decide +kernel
set_option maxRecDepth 20000 in
theorem dX12_init_265 : decode cX12_init 265 = .ok (.iastore, 1) := by decide +kernel
set_option maxRecDepth 20000 in
theorem dX12_init_266 : decode cX12_init 266 = .ok (.dup, 1) := by decide +kernel
set_option maxRecDepth 20000 in
theorem dX12_init_267 : decode cX12_init 267 = .ok (.bipush 8, 2) := by decide +kernel
set_option maxRecDepth 20000 in
theorem dX12_init_269 : decode cX12_init 269 = .ok (.bipush 97, 2) := by decide +kernel
set_option maxRecDepth 20000 in
theorem dX12_init_271 : decode cX12_init 271 = .ok (.iastore, 1) := by decide +kernel
set_option maxRecDepth 20000 in
theorem dX12_init_272 : decode cX12_init 272 = .ok (.dup, 1) := by decide +kernel
set_option maxRecDepth 20000 in
theorem dX12_init_273 : decode cX12_init 273 = .ok (.bipush 9, 2) := by decide +kernel
set_option maxRecDepth 20000 in
theorem dX12_init_275 : decode cX12_init 275 = .ok (.bipush 107, 2) := by decide +kernel
set_option maxRecDepth 20000 in
theorem dX12_init_277 : decode cX12_init 277 = .ok (.iastore, 1) := by decide +kernel
set_option maxRecDepth 20000 in
theorem dX12_init_278 : decode cX12_init 278 = .ok (.dup, 1) := by decide +kernel
set_option maxRecDepth 20000 in
theorem dX12_init_279 : decode cX12_init 279 = .ok (.bipush 10, 2) := by decide +kernel
set_option maxRecDepth 20000 in
theorem dX12_init_281 : decode cX12_init 281 = .ok (.bipush 98, 2) := by decide +kernel
set_option maxRecDepth 20000 in
theorem dX12_init_283 : decode cX12_init 283 = .ok (.iastore, 1) := by decide +kernel
set_option maxRecDepth 20000 in
theorem dX12_init_284 : decode cX12_init 284 = .ok (.dup, 1) := by decide +kernel
set_option maxRecDepth 20000 in
theorem dX12_init_285 : decode cX12_init 285 = .ok (.bipush 11, 2) := by decide +kernel
set_option maxRecDepth 20000 in
theorem dX12_init_287 : decode cX12_init 287 = .ok (.bipush 101, 2) := by decide +kernel
set_option maxRecDepth 20000 in
theorem dX12_init_289 : decode cX12_init 289 = .ok (.iastore, 1) := by decide +kernel
set_option maxRecDepth 20000 in
theorem dX12_init_290 : decode cX12_init 290 = .ok (.dup, 1) := by decide +kernel
set_option maxRecDepth 20000 in
theorem dX12_init_291 : decode cX12_init 291 = .ok (.bipush 12, 2) := by decide +kernel
set_option maxRecDepth 20000 in
theorem dX12_init_293 : decode cX12_init 293 = .ok (.bipush 97, 2) := by decide +kernel
set_option maxRecDepth 20000 in
theorem dX12_init_295 : decode cX12_init 295 = .ok (.iastore, 1) := by decide +kernel
set_option maxRecDepth 20000 in
theorem dX12_init_296 : decode cX12_init 296 = .ok (.dup, 1) := by decide +kernel
set_option maxRecDepth 20000 in
theorem dX12_init_297 : decode cX12_init 297 = .ok (.bipush 13, 2) := by decide +kernel
set_option maxRecDepth 20000 in
theorem dX12_init_299 : decode cX12_init 299 = .ok (.bipush 114, 2) := by decide +kernel
set_option maxRecDepth 20000 in
theorem dX12_init_301 : decode cX12_init 301 = .ok (.iastore, 1) := by decide +kernel
set_option maxRecDepth 20000 in
theorem dX12_init_302 : decode cX12_init 302 = .ok (.dup, 1) := by decide +kernel
set_option maxRecDepth 20000 in
theorem dX12_init_303 : decode cX12_init 303 = .ok (.bipush 14, 2) := by decide +kernel
set_option maxRecDepth 20000 in
theorem dX12_init_305 : decode cX12_init 305 = .ok (.bipush 104, 2) := by decide +kernel
set_option maxRecDepth 20000 in
theorem dX12_init_307 : decode cX12_init 307 = .ok (.iastore, 1) := by decide +kernel
set_option maxRecDepth 20000 in
theorem dX12_init_308 : decode cX12_init 308 = .ok (.dup, 1) := by decide +kernel
set_option maxRecDepth 20000 in
theorem dX12_init_309 : decode cX12_init 309 = .ok (.bipush 15, 2) := by decide +kernel
set_option maxRecDepth 20000 in
theorem dX12_init_311 : decode cX12_init 311 = .ok (.bipush 97, 2) := by decide +kernel
set_option maxRecDepth 20000 in
theorem dX12_init_313 : decode cX12_init 313 = .ok (.iastore, 1) := by decide +kernel
set_option maxRecDepth 20000 in
theorem dX12_init_314 : decode cX12_init 314 = .ok (.dup, 1) := by decide +kernel
set_option maxRecDepth 20000 in
theorem dX12_init_315 : decode cX12_init 315 = .ok (.bipush 16, 2) := by decide +kernel
set_option maxRecDepth 20000 in
theorem dX12_init_317 : decode cX12_init 317 = .ok (.bipush 110, 2) := by decide +kernel
set_option maxRecDepth 20000 in
theorem dX12_init_319 : decode cX12_init 319 = .ok (.iastore, 1) := by decide +kernel
set_option maxRecDepth 20000 in
theorem dX12_init_320 : decode cX12_init 320 = .ok (.dup, 1) := by decide +kernel
set_option maxRecDepth 20000 in
theorem dX12_init_321 : decode cX12_init 321 = .ok (.bipush 17, 2) := by decide +kernel
set_option maxRecDepth 20000 in
theorem dX12_init_323 : decode cX12_init 323 = .ok (.bipush 103, 2) := by decide +kernel
set_option maxRecDepth 20000 in
theorem dX12_init_325 : decode cX12_init 325 = .ok (.iastore, 1) := by decide +kernel
set_option maxRecDepth 20000 in
theorem dX12_init_326 : decode cX12_init 326 = .ok (.putfield 98, 3) := by decide +kernel
set_option maxRecDepth 20000 in
theorem dX12_init_329 : decode cX12_init 329 = .ok (.aload_n 0, 1) := by decide +kernel
set_option maxRecDepth 20000 in
theorem dX12_init_330 : decode cX12_init 330 = .ok (.bipush 100, 2) := by decide +kernel
set_option maxRecDepth 20000 in
theorem dX12_init_332 : decode cX12_init 332 = .ok (.newarray .boolean, 2) := by decide +kernel
set_option maxRecDepth 20000 in
theorem dX12_init_334 : decode cX12_init 334 = .ok (.putfield 101, 3) := by decide +kernel
set_option maxRecDepth 20000 in
theorem dX12_init_337 : decode cX12_init 337 = .ok (.aload_n 0, 1) := by decide +kernel
set_option maxRecDepth 20000 in
theorem dX12_init_338 : decode cX12_init 338 = .ok (.sipush 9999, 3) := by decide +kernel
set_option maxRecDepth 20000 in
theorem dX12_init_341 : decode cX12_init 341 = .ok (.putfield 105, 3) := by decide +kernel
set_option maxRecDepth 20000 in
theorem dX12_init_344 : decode cX12_init 344 = .ok (.aload_n 0, 1) := by decide +kernel
set_option maxRecDepth 20000 in
theorem dX12_init_345 : decode cX12_init 345 = .ok (.iconst 0, 1) := by decide +kernel
set_option maxRecDepth 20000 in
theorem dX12_init_346 : decode cX12_init 346 = .ok (.putfield 108, 3) := by decide +kernel
set_option maxRecDepth 20000 in
theorem dX12_init_349 : decode cX12_init 349 = .ok (.aload_n 0, 1) := by decide +kernel
set_option maxRecDepth 20000 in
theorem dX12_init_350 : decode cX12_init 350 = .ok (.bipush 6, 2) := by decide +kernel
set_option maxRecDepth 20000 in
theorem dX12_init_352 : decode cX12_init 352 = .ok (.newarray .int, 2) := by decide +kernel
set_option maxRecDepth 20000 in
theorem dX12_init_354 : decode cX12_init 354 = .ok (.putfield 111, 3) := by decide +kernel
set_option maxRecDepth 20000 in
theorem dX12_init_357 : decode cX12_init 357 = .ok (.aload_n 0, 1) := by decide +kernel
set_option maxRecDepth 20000 in
theorem dX12_init_358 : decode cX12_init 358 = .ok (.bipush 8, 2) := by decide +kernel
set_option maxRecDepth 20000 in
theorem dX12_init_360 : decode cX12_init 360 = .ok (.newarray .int, 2) := by decide +kernel
set_option maxRecDepth 20000 in
theorem dX12_init_362 : decode cX12_init 362 = .ok (.putfield 114, 3) := by decide +kernel
set_option maxRecDepth 20000 in
theorem dX12_init_365 : decode cX12_init 365 = .ok (.aload_n 0, 1) := by decide +kernel
set_option maxRecDepth 20000 in
theorem dX12_init_366 : decode cX12_init 366 = .ok (.bipush 8, 2) := by decide +kernel
set_option maxRecDepth 20000 in
theorem dX12_init_368 : decode cX12_init 368 = .ok (.newarray .int, 2) := by decide +kernel
set_option maxRecDepth 20000 in
theorem dX12_init_370 : decode cX12_init 370 = .ok (.putfield 117, 3) := by decide +kernel
set_option maxRecDepth 20000 in
theorem dX12_init_373 : decode cX12_init 373 = .ok (.aload_n 0, 1) := by decide +kernel
set_option maxRecDepth 20000 in
theorem dX12_init_374 : decode cX12_init 374 = .ok (.bipush 8, 2) := by decide +kernel
set_option maxRecDepth 20000 in
theorem dX12_init_376 : decode cX12_init 376 = .ok (.newarray .int, 2) := by decide +kernel
set_option maxRecDepth 20000 in
theorem dX12_init_378 : decode cX12_init 378 = .ok (.putfield 120, 3) := by decide +kernel
set_option maxRecDepth 20000 in
theorem dX12_init_381 : decode cX12_init 381 = .ok (.aload_n 0, 1) := by decide +kernel
set_option maxRecDepth 20000 in
theorem dX12_init_382 : decode cX12_init 382 = .ok (.bipush 8, 2) := by decide +kernel
set_option maxRecDepth 20000 in
theorem dX12_init_384 : decode cX12_init 384 = .ok (.newarray .int, 2) := by decide +kernel
set_option maxRecDepth 20000 in
theorem dX12_init_386 : decode cX12_init 386 = .ok (.putfield 123, 3) := by decide +kernel
set_option maxRecDepth 20000 in
theorem dX12_init_389 : decode cX12_init 389 = .ok (.aload_n 0, 1) := by decide +kernel
set_option maxRecDepth 20000 in
theorem dX12_init_390 : decode cX12_init 390 = .ok (.iconst 0, 1) := by decide +kernel
set_option maxRecDepth 20000 in
theorem dX12_init_391 : decode cX12_init 391 = .ok (.putfield 126, 3) := by decide +kernel
set_option maxRecDepth 20000 in
theorem dX12_init_394 : decode cX12_init 394 = .ok (.aload_n 0, 1) := by decide +kernel
set_option maxRecDepth 20000 in
theorem dX12_init_395 : decode cX12_init 395 = .ok (.iconst 5, 1) := by decide +kernel
set_option maxRecDepth 20000 in
theorem dX12_init_396 : decode cX12_init 396 = .ok (.newarray .int, 2) := by decide +kernel
set_option maxRecDepth 20000 in
theorem dX12_init_398 : decode cX12_init 398 = .ok (.putfield 129, 3) := by decide +kernel
set_option maxRecDepth 20000 in
theorem dX12_init_401 : decode cX12_init 401 = .ok (.aload_n 0, 1) := by decide +kernel
set_option maxRecDepth 20000 in
theorem dX12_init_402 : decode cX12_init 402 = .ok (.iconst 5, 1) := by decide +kernel
set_option maxRecDepth 20000 in
theorem dX12_init_403 : decode cX12_init 403 = .ok (.newarray .int, 2) := by decide +kernel
set_option maxRecDepth 20000 in
theorem dX12_init_405 : decode cX12_init 405 = .ok (.putfield 132, 3) := by decide +kernel
set_option maxRecDepth 20000 in
theorem dX12_init_408 : decode cX12_init 408 = .ok (.aload_n 0, 1) := by decide +kernel
set_option maxRecDepth 20000 in
theorem dX12_init_409 : decode cX12_init 409 = .ok (.iconst 5, 1) := by decide +kernel
set_option maxRecDepth 20000 in
theorem dX12_init_410 : decode cX12_init 410 = .ok (.newarray .int, 2) := by decide +kernel
set_option maxRecDepth 20000 in
theorem dX12_init_412 : decode cX12_init 412 = .ok (.putfield 135, 3) := by decide +kernel
set_option maxRecDepth 20000 in
theorem dX12_init_415 : decode cX12_init 415 = .ok (.aload_n 0, 1) := by decide +kernel
set_option maxRecDepth 20000 in
theorem dX12_init_416 : decode cX12_init 416 = .ok (.iconst 0, 1) := by decide +kernel
set_option maxRecDepth 20000 in
theorem dX12_init_417 : decode cX12_init 417 = .ok (.putfield 138, 3) := by decide +kernel
set_option maxRecDepth 20000 in
theorem dX12_init_420 : decode cX12_init 420 = .ok (.aload_n 0, 1) := by decide +kernel
set_option maxRecDepth 20000 in
theorem dX12_init_421 : decode cX12_init 421 = .ok (.iconst 0, 1) := by decide +kernel
set_option maxRecDepth 20000 in
theorem dX12_init_422 : decode cX12_init 422 = .ok (.putfield 141, 3) := by decide +kernel
set_option maxRecDepth 20000 in
theorem dX12_init_425 : decode cX12_init 425 = .ok (.aload_n 0, 1) := by decide +kernel
set_option maxRecDepth 20000 in
theorem dX12_init_426 : decode cX12_init 426 = .ok (.bipush 10, 2) := by decide +kernel
set_option maxRecDepth 20000 in
theorem dX12_init_428 : decode cX12_init 428 = .ok (.newarray .int, 2) := by decide +kernel
set_option maxRecDepth 20000 in
theorem dX12_init_430 : decode cX12_init 430 = .ok (.putfield 144, 3) := by decide +kernel
set_option maxRecDepth 20000 in
theorem dX12_init_433 : decode cX12_init 433 = .ok (.aload_n 0, 1) := by decide +kernel
set_option maxRecDepth 20000 in
theorem dX12_init_434 : decode cX12_init 434 = .ok (.bipush 10, 2) := by decide +kernel
set_option maxRecDepth 20000 in
theorem dX12_init_436 : decode cX12_init 436 = .ok (.newarray .int, 2) := by decide +kernel
set_option maxRecDepth 20000 in
theorem dX12_init_438 : decode cX12_init 438 = .ok (.putfield 147, 3) := by decide +kernel
set_option maxRecDepth 20000 in
theorem dX12_init_441 : decode cX12_init 441 = .ok (.aload_n 0, 1) := by decide +kernel
set_option maxRecDepth 20000 in
theorem dX12_init_442 : decode cX12_init 442 = .ok (.bipush 8, 2) := by decide +kernel
set_option maxRecDepth 20000 in
theorem dX12_init_444 : decode cX12_init 444 = .ok (.newarray .int, 2) := by decide +kernel
set_option maxRecDepth 20000 in
theorem dX12_init_446 : decode cX12_init 446 = .ok (.putfield 150, 3) := by decide +kernel
set_option maxRecDepth 20000 in
theorem dX12_init_449 : decode cX12_init 449 = .ok (.aload_n 0, 1) := by decide +kernel
set_option maxRecDepth 20000 in
theorem dX12_init_450 : decode cX12_init 450 = .ok (.bipush 8, 2) := by decide +kernel
set_option maxRecDepth 20000 in
theorem dX12_init_452 : decode cX12_init 452 = .ok (.newarray .int, 2) := by decide +kernel
set_option maxRecDepth 20000 in
theorem dX12_init_454 : decode cX12_init 454 = .ok (.putfield 153, 3) := by decide +kernel
set_option maxRecDepth 20000 in
theorem dX12_init_457 : decode cX12_init 457 = .ok (.aload_n 0, 1) := by decide +kernel
set_option maxRecDepth 20000 in
theorem dX12_init_458 : decode cX12_init 458 = .ok (.iconst 0, 1) := by decide +kernel
set_option maxRecDepth 20000 in
theorem dX12_init_459 : decode cX12_init 459 = .ok (.putfield 156, 3) := by decide +kernel
set_option maxRecDepth 20000 in
theorem dX12_init_462 : decode cX12_init 462 = .ok (.aload_n 0, 1) := by decide +kernel
set_option maxRecDepth 20000 in
theorem dX12_init_463 : decode cX12_init 463 = .ok (.iconst (-1), 1) := by decide +kernel
set_option maxRecDepth 20000 in
theorem dX12_init_464 : decode cX12_init 464 = .ok (.putfield 160, 3) := by decide +kernel
set_option maxRecDepth 20000 in
theorem dX12_init_467 : decode cX12_init 467 = .ok (.aload_n 0, 1) := by decide +kernel
set_option maxRecDepth 20000 in
theorem dX12_init_468 : decode cX12_init 468 = .ok (.iconst 0, 1) := by decide +kernel
set_option maxRecDepth 20000 in
theorem dX12_init_469 : decode cX12_init 469 = .ok (.putfield 163, 3) := by decide +kernel
set_option maxRecDepth 20000 in
theorem dX12_init_472 : decode cX12_init 472 = .ok (.aload_n 0, 1) := by decide +kernel
set_option maxRecDepth 20000 in
theorem dX12_init_473 : decode cX12_init 473 = .ok (.iconst 0, 1) := by decide +kernel
set_option maxRecDepth 20000 in
theorem dX12_init_474 : decode cX12_init 474 = .ok (.putfield 166, 3) := by decide +kernel
set_option maxRecDepth 20000 in
theorem dX12_init_477 : decode cX12_init 477 = .ok (.aload_n 0, 1) := by decide +kernel
set_option maxRecDepth 20000 in
theorem dX12_init_478 : decode cX12_init 478 = .ok (.iconst 0, 1) := by decide +kernel
set_option maxRecDepth 20000 in
theorem dX12_init_479 : decode cX12_init 479 = .ok (.putfield 169, 3) := by decide +kernel
set_option maxRecDepth 20000 in
theorem dX12_init_482 : decode cX12_init 482 = .ok (.aload_n 0, 1) := by decide +kernel
set_option maxRecDepth 20000 in
theorem dX12_init_483 : decode cX12_init 483 = .ok (.iconst 0, 1) := by decide +kernel
set_option maxRecDepth 20000 in
theorem dX12_init_484 : decode cX12_init 484 = .ok (.putfield 172, 3) := by decide +kernel
set_option maxRecDepth 20000 in
theorem dX12_init_487 : decode cX12_init 487 = .ok (.aload_n 0, 1) := by decide +kernel
set_option maxRecDepth 20000 in
theorem dX12_init_488 : decode cX12_init 488 = .ok (.iconst 0, 1) := by decide +kernel
set_option maxRecDepth 20000 in
theorem dX12_init_489 : decode cX12_init 489 = .ok (.putfield 175, 3) := by decide +kernel
set_option maxRecDepth 20000 in
theorem dX12_init_492 : decode cX12_init 492 = .ok (.aload_n 0, 1) := by decide +kernel
set_option maxRecDepth 20000 in
theorem dX12_init_493 : decode cX12_init 493 = .ok (.iconst 0, 1) := by decide +kernel
set_option maxRecDepth 20000 in
theorem dX12_init_494 : decode cX12_init 494 = .ok (.putfield 178, 3) := by decide +kernel
set_option maxRecDepth 20000 in
theorem dX12_init_497 : decode cX12_init 497 = .ok (.aload_n 0, 1) := by decide +kernel
set_option maxRecDepth 20000 in
theorem dX12_init_498 : decode cX12_init 498 = .ok (.iconst 4, 1) := by decide +kernel
set_option maxRecDepth 20000 in
theorem dX12_init_499 : decode cX12_init 499 = .ok (.newarray .int, 2) := by decide +kernel
set_option maxRecDepth 20000 in
theorem dX12_init_501 : decode cX12_init 501 = .ok (.putfield 181, 3) := by decide +kernel
set_option maxRecDepth 20000 in
theorem dX12_init_504 : decode cX12_init 504 = .ok (.aload_n 0, 1) := by decide +kernel
set_option maxRecDepth 20000 in
theorem dX12_init_505 : decode cX12_init 505 = .ok (.bipush 6, 2) := by decide +kernel
set_option maxRecDepth 20000 in
theorem dX12_init_507 : decode cX12_init 507 = .ok (.newarray .int, 2) := by decide +kernel
set_option maxRecDepth 20000 in
theorem dX12_init_509 : decode cX12_init 509 = .ok (.putfield 184, 3) := by decide +kernel
set_option maxRecDepth 20000 in
theorem dX12_init_512 : decode cX12_init 512 = .ok (.aload_n 0, 1) := by decide +kernel
set_option maxRecDepth 20000 in
theorem dX12_init_513 : decode cX12_init 513 = .ok (.bipush 6, 2) := by decide +kernel
set_option maxRecDepth 20000 in
theorem dX12_init_515 : decode cX12_init 515 = .ok (.newarray .int, 2) := by decide +kernel
set_option maxRecDepth 20000 in
theorem dX12_init_517 : decode cX12_init 517 = .ok (.putfield 187, 3) := by decide +kernel
set_option maxRecDepth 20000 in
theorem dX12_init_520 : decode cX12_init 520 = .ok (.aload_n 0, 1) := by decide +kernel
set_option maxRecDepth 20000 in
theorem dX12_init_521 : decode cX12_init 521 = .ok (.bipush 6, 2) := by decide +kernel
set_option maxRecDepth 20000 in
theorem dX12_init_523 : decode cX12_init 523 = .ok (.newarray .int, 2) := by decide +kernel
set_option maxRecDepth 20000 in
theorem dX12_init_525 : decode cX12_init 525 = .ok (.putfield 190, 3) := by decide +kernel
set_option maxRecDepth 20000 in
theorem dX12_init_528 : decode cX12_init 528 = .ok (.aload_n 0, 1) := by decide +kernel
set_option maxRecDepth 20000 in
theorem dX12_init_529 : decode cX12_init 529 = .ok (.bipush 24, 2) := by decide +kernel
set_option maxRecDepth 20000 in
theorem dX12_init_531 : decode cX12_init 531 = .ok (.newarray .int, 2) := by decide +kernel
set_option maxRecDepth 20000 in
theorem dX12_init_533 : decode cX12_init 533 = .ok (.putfield 193, 3) := by decide +kernel
set_option maxRecDepth 20000 in
theorem dX12_init_536 : decode cX12_init 536 = .ok (.aload_n 0, 1) := by decide +kernel
set_option maxRecDepth 20000 in
theorem dX12_init_537 : decode cX12_init 537 = .ok (.bipush 8, 2) := by decide +kernel
set_option maxRecDepth 20000 in
theorem dX12_init_539 : decode cX12_init 539 = .ok (.newarray .int, 2) := by decide +kernel
set_option maxRecDepth 20000 in
theorem dX12_init_541 : decode cX12_init 541 = .ok (.putfield 196, 3) := by decide +kernel
set_option maxRecDepth 20000 in
theorem dX12_init_544 : decode cX12_init 544 = .ok (.aload_n 0, 1) := by decide +kernel
set_option maxRecDepth 20000 in
theorem dX12_init_545 : decode cX12_init 545 = .ok (.bipush 8, 2) := by decide +kernel
set_option maxRecDepth 20000 in
theorem dX12_init_547 : decode cX12_init 547 = .ok (.newarray .int, 2) := by decide +kernel
set_option maxRecDepth 20000 in
theorem dX12_init_549 : decode cX12_init 549 = .ok (.putfield 199, 3) := by decide +kernel
set_option maxRecDepth 20000 in
theorem dX12_init_552 : decode cX12_init 552 = .ok (.aload_n 0, 1) := by decide +kernel
set_option maxRecDepth 20000 in
theorem dX12_init_553 : decode cX12_init 553 = .ok (.bipush 8, 2) := by decide +kernel
set_option maxRecDepth 20000 in
theorem dX12_init_555 : decode cX12_init 555 = .ok (.newarray .int, 2) := by decide +kernel
set_option maxRecDepth 20000 in
theorem dX12_init_557 : decode cX12_init 557 = .ok (.putfield 202, 3) := by decide +kernel
set_option maxRecDepth 20000 in
theorem dX12_init_560 : decode cX12_init 560 = .ok (.aload_n 0, 1) := by decide +kernel
set_option maxRecDepth 20000 in
theorem dX12_init_561 : decode cX12_init 561 = .ok (.bipush 8, 2) := by decide +kernel
set_option maxRecDepth 20000 in
theorem dX12_init_563 : decode cX12_init 563 = .ok (.newarray .int, 2) := by decide +kernel
set_option maxRecDepth 20000 in
theorem dX12_init_565 : decode cX12_init 565 = .ok (.putfield 205, 3) := by decide +kernel
set_option maxRecDepth 20000 in
theorem dX12_init_568 : decode cX12_init 568 = .ok (.aload_n 0, 1) := by decide +kernel
set_option maxRecDepth 20000 in
theorem dX12_init_569 : decode cX12_init 569 = .ok (.bipush 8, 2) := by decide +kernel
set_option maxRecDepth 20000 in
theorem dX12_init_571 : decode cX12_init 571 = .ok (.newarray .int, 2) := by decide +kernel
set_option maxRecDepth 20000 in
theorem dX12_init_573 : decode cX12_init 573 = .ok (.putfield 208, 3) := by decide +kernel
set_option maxRecDepth 20000 in
theorem dX12_init_576 : decode cX12_init 576 = .ok (.aload_n 0, 1) := by decide +kernel
set_option maxRecDepth 20000 in
theorem dX12_init_577 : decode cX12_init 577 = .ok (.iconst 5, 1) := by decide +kernel
set_option maxRecDepth 20000 in
theorem dX12_init_578 : decode cX12_init 578 = .ok (.newarray .int, 2) := by decide +kernel
set_option maxRecDepth 20000 in
theorem dX12_init_580 : decode cX12_init 580 = .ok (.putfield 211, 3) := by decide +kernel
set_option maxRecDepth 20000 in
theorem dX12_init_583 : decode cX12_init 583 = .ok (.aload_n 0, 1) := by decide +kernel
set_option maxRecDepth 20000 in
theorem dX12_init_584 : decode cX12_init 584 = .ok (.iconst 5, 1) := by decide +kernel
set_option maxRecDepth 20000 in
theorem dX12_init_585 : decode cX12_init 585 = .ok (.newarray .int, 2) := by decide +kernel
set_option maxRecDepth 20000 in
theorem dX12_init_587 : decode cX12_init 587 = .ok (.putfield 214, 3) := by decide +kernel
set_option maxRecDepth 20000 in
theorem dX12_init_590 : decode cX12_init 590 = .ok (.aload_n 0, 1) := by decide +kernel
set_option maxRecDepth 20000 in
theorem dX12_init_591 : decode cX12_init 591 = .ok (.iconst 5, 1) := by decide +kernel
set_option maxRecDepth 20000 in
theorem dX12_init_592 : decode cX12_init 592 = .ok (.newarray .int, 2) := by decide +kernel
set_option maxRecDepth 20000 in
theorem dX12_init_594 : decode cX12_init 594 = .ok (.putfield 217, 3) := by decide +kernel
set_option maxRecDepth 20000 in
theorem dX12_init_597 : decode cX12_init 597 = .ok (.aload_n 0, 1) := by decide +kernel
set_option maxRecDepth 20000 in
theorem dX12_init_598 : decode cX12_init 598 = .ok (.bipush 10, 2) := by decide +kernel
set_option maxRecDepth 20000 in
theorem dX12_init_600 : decode cX12_init 600 = .ok (.newarray .int, 2) := by decide +kernel
set_option maxRecDepth 20000 in
theorem dX12_init_602 : decode cX12_init 602 = .ok (.putfield 220, 3) := by decide +kernel
set_option maxRecDepth 20000 in
theorem dX12_init_605 : decode cX12_init 605 = .ok (.aload_n 0, 1) := by decide +kernel
set_option maxRecDepth 20000 in
theorem dX12_init_606 : decode cX12_init 606 = .ok (.bipush 10, 2) := by decide +kernel
set_option maxRecDepth 20000 in
theorem dX12_init_608 : decode cX12_init 608 = .ok (.newarray .int, 2) := by decide +kernel
set_option maxRecDepth 20000 in
theorem dX12_init_610 : decode cX12_init 610 = .ok (.putfield 223, 3) := by decide +kernel
set_option maxRecDepth 20000 in
theorem dX12_init_613 : decode cX12_init 613 = .ok (.aload_n 0, 1) := by decide +kernel
set_option maxRecDepth 20000 in
theorem dX12_init_614 : decode cX12_init 614 = .ok (.bipush 8, 2) := by decide +kernel
set_option maxRecDepth 20000 in
theorem dX12_init_616 : decode cX12_init 616 = .ok (.newarray .int, 2) := by decide +kernel
set_option maxRecDepth 20000 in
theorem dX12_init_618 : decode cX12_init 618 = .ok (.putfield 226, 3) := by decide +kernel
set_option maxRecDepth 20000 in
theorem dX12_init_621 : decode cX12_init 621 = .ok (.aload_n 0, 1) := by decide +kernel
set_option maxRecDepth 20000 in
theorem dX12_init_622 : decode cX12_init 622 = .ok (.bipush 8, 2) := by decide +kernel
set_option maxRecDepth 20000 in
theorem dX12_init_624 : decode cX12_init 624 = .ok (.newarray .int, 2) := by decide +kernel
set_option maxRecDepth 20000 in
theorem dX12_init_626 : decode cX12_init 626 = .ok (.putfield 229, 3) := by decide +kernel
set_option maxRecDepth 20000 in
theorem dX12_init_629 : decode cX12_init 629 = .ok (.aload_n 0, 1) := by decide +kernel
set_option maxRecDepth 20000 in
theorem dX12_init_630 : decode cX12_init 630 = .ok (.iconst 0, 1) := by decide +kernel
set_option maxRecDepth 20000 in
theorem dX12_init_631 : decode cX12_init 631 = .ok (.putfield 232, 3) := by decide +kernel
set_option maxRecDepth 20000 in
theorem dX12_init_634 : decode cX12_init 634 = .ok (.aload_n 0, 1) := by decide +kernel
set_option maxRecDepth 20000 in
theorem dX12_init_635 : decode cX12_init 635 = .ok (.bipush 20, 2) := by decide +kernel
set_option maxRecDepth 20000 in
theorem dX12_init_637 : decode cX12_init 637 = .ok (.newarray .int, 2) := by decide +kernel
set_option maxRecDepth 20000 in
theorem dX12_init_639 : decode cX12_init 639 = .ok (.putfield 235, 3) := by decide +kernel
set_option maxRecDepth 20000 in
theorem dX12_init_642 : decode cX12_init 642 = .ok (.aload_n 0, 1) := by decide +kernel
set_option maxRecDepth 20000 in
theorem dX12_init_643 : decode cX12_init 643 = .ok (.bipush 6, 2) := by decide +kernel
set_option maxRecDepth 20000 in
theorem dX12_init_645 : decode cX12_init 645 = .ok (.newarray .int, 2) := by decide +kernel
set_option maxRecDepth 20000 in
theorem dX12_init_647 : decode cX12_init 647 = .ok (.dup, 1) := by decide +kernel
set_option maxRecDepth 20000 in
theorem dX12_init_648 : decode cX12_init 648 = .ok (.iconst 0, 1) := by decide +kernel
set_option maxRecDepth 20000 in
theorem dX12_init_649 : decode cX12_init 649 = .ok (.iconst (-1), 1) := by decide +kernel
set_option maxRecDepth 20000 in
theorem dX12_init_650 : decode cX12_init 650 = .ok (.iastore, 1) := by decide +kernel
set_option maxRecDepth 20000 in
theorem dX12_init_651 : decode cX12_init 651 = .ok (.dup, 1) := by decide +kernel
set_option maxRecDepth 20000 in
theorem dX12_init_652 : decode cX12_init 652 = .ok (.iconst 1, 1) := by decide +kernel
set_option maxRecDepth 20000 in
theorem dX12_init_653 : decode cX12_init 653 = .ok (.iconst (-1), 1) := by decide +kernel
set_option maxRecDepth 20000 in
theorem dX12_init_654 : decode cX12_init 654 = .ok (.iastore, 1) := by decide +kernel
set_option maxRecDepth 20000 in
theorem dX12_init_655 : decode cX12_init 655 = .ok (.dup, 1) := by decide +kernel
set_option maxRecDepth 20000 in
theorem dX12_init_656 : decode cX12_init 656 = .ok (.iconst 2, 1) := by decide +kernel
set_option maxRecDepth 20000 in
theorem dX12_init_657 : decode cX12_init 657 = .ok (.iconst (-1), 1) := by decide +kernel
set_option maxRecDepth 20000 in
theorem dX12_init_658 : decode cX12_init 658 = .ok (.iastore, 1) := by decide +kernel
set_option maxRecDepth 20000 in
theorem dX12_init_659 : decode cX12_init 659 = .ok (.dup, 1) := by decide +kernel
set_option maxRecDepth 20000 in
theorem dX12_init_660 : decode cX12_init 660 = .ok (.iconst 3, 1) := by decide +kernel
set_option maxRecDepth 20000 in
theorem dX12_init_661 : decode cX12_init 661 = .ok (.iconst (-1), 1) := by decide +kernel
set_option maxRecDepth 20000 in
theorem dX12_init_662 : decode cX12_init 662 = .ok (.iastore, 1) := by decide +kernel
set_option maxRecDepth 20000 in
theorem dX12_init_663 : decode cX12_init 663 = .ok (.dup, 1) := by decide +kernel
set_option maxRecDepth 20000 in
theorem dX12_init_664 : decode cX12_init 664 = .ok (.iconst 4, 1) := by decide +kernel
set_option maxRecDepth 20000 in
theorem dX12_init_665 : decode cX12_init 665 = .ok (.iconst (-1), 1) := by decide +kernel
set_option maxRecDepth 20000 in
theorem dX12_init_666 : decode cX12_init 666 = .ok (.iastore, 1) := by decide +kernel
set_option maxRecDepth 20000 in
theorem dX12_init_667 : decode cX12_init 667 = .ok (.dup, 1) := by decide +kernel
set_option maxRecDepth 20000 in
theorem dX12_init_668 : decode cX12_init 668 = .ok (.iconst 5, 1) := by decide +kernel
set_option maxRecDepth 20000 in
theorem dX12_init_669 : decode cX12_init 669 = .ok (.iconst (-1), 1) := by decide +kernel
set_option maxRecDepth 20000 in
theorem dX12_init_670 : decode cX12_init 670 = .ok (.iastore, 1) := by decide +kernel
set_option maxRecDepth 20000 in
theorem dX12_init_671 : decode cX12_init 671 = .ok (.putfield 238, 3) := by decide +kernel
set_option maxRecDepth 20000 in
theorem dX12_init_674 : decode cX12_init 674 = .ok (.aload_n 0, 1) := by decide +kernel
set_option maxRecDepth 20000 in
theorem dX12_init_675 : decode cX12_init 675 = .ok (.bipush 6, 2) := by decide +kernel
set_option maxRecDepth 20000 in
theorem dX12_init_677 : decode cX12_init 677 = .ok (.newarray .int, 2) := by decide +kernel
set_option maxRecDepth 20000 in
theorem dX12_init_679 : decode cX12_init 679 = .ok (.putfield 241, 3) := by decide +kernel
set_option maxRecDepth 20000 in
theorem dX12_init_682 : decode cX12_init 682 = .ok (.aload_n 0, 1) := by decide +kernel
set_option maxRecDepth 20000 in
theorem dX12_init_683 : decode cX12_init 683 = .ok (.sipush 360, 3) := by decide +kernel
set_option maxRecDepth 20000 in
theorem dX12_init_686 : decode cX12_init 686 = .ok (.newarray .long, 2) := by decide +kernel
set_option maxRecDepth 20000 in
theorem dX12_init_688 : decode cX12_init 688 = .ok (.putfield 244, 3) := by decide +kernel
set_option maxRecDepth 20000 in
theorem dX12_init_691 : decode cX12_init 691 = .ok (.aload_n 0, 1) := by decide +kernel
set_option maxRecDepth 20000 in
theorem dX12_init_692 : decode cX12_init 692 = .ok (.bipush 60, 2) := by decide +kernel
set_option maxRecDepth 20000 in
theorem dX12_init_694 : decode cX12_init 694 = .ok (.newarray .long, 2) := by decide +kernel
set_option maxRecDepth 20000 in
theorem dX12_init_696 : decode cX12_init 696 = .ok (.putfield 248, 3) := by decide +kernel
set_option maxRecDepth 20000 in
theorem dX12_init_699 : decode cX12_init 699 = .ok (.return_, 1) := by decide +kernel
set_option maxRecDepth 20000 in
theorem kt_X12_init_0 (g : gx_T) : ∀ q ∈ k_X12_init_0, gx_E g gc_md RX12 cX12_init 1 (none) "<init>" q.1 q.2 := List.forall_mem_cons.mpr ⟨(gs_aload_n dX12_init_0 rfl), List.forall_mem_cons.mpr ⟨
  (gs_oi dX12_init_1 (gx_mem 996 (by decide +kernel) (by decide +kernel)) (gx_mem 111 (by decide +kernel) (by decide +kernel)) (cw_112)), List.forall_mem_cons.mpr ⟨
  (gs_aload_n dX12_init_4 rfl), List.forall_mem_cons.mpr ⟨
  (gs_iconst dX12_init_5 rfl), List.forall_mem_cons.mpr ⟨
  (gs_pf (ref := "GriefCranesModel") dX12_init_6 (gx_mem 997 (by decide +kernel) (by decide +kernel)) (Or.inl rfl) gf_12_0 (by decide +kernel)), List.forall_mem_cons.mpr ⟨
  (gs_aload_n dX12_init_9 rfl), List.forall_mem_cons.mpr ⟨
  (gs_iconst dX12_init_10 rfl), List.forall_mem_cons.mpr ⟨
  (gs_pf (ref := "GriefCranesModel") dX12_init_11 (gx_mem 998 (by decide +kernel) (by decide +kernel)) (Or.inl rfl) gf_12_1 (by decide +kernel)), List.forall_mem_cons.mpr ⟨
  (gs_aload_n dX12_init_14 rfl), List.forall_mem_cons.mpr ⟨
  (gs_iconst dX12_init_15 rfl), List.forall_mem_cons.mpr ⟨
  (gs_pf (ref := "GriefCranesModel") dX12_init_16 (gx_mem 999 (by decide +kernel) (by decide +kernel)) (Or.inl rfl) gf_12_2 (by decide +kernel)), List.forall_mem_cons.mpr ⟨
  (gs_aload_n dX12_init_19 rfl), List.forall_mem_cons.mpr ⟨
  (gs_iconst dX12_init_20 rfl), List.forall_mem_cons.mpr ⟨
  (gs_newa (ty := .int) dX12_init_21 rfl (gx_mem 136 (by decide +kernel) (by decide +kernel)) (by decide) (fun _ _ => rfl) rfl rfl (fun _ h => h)), List.forall_mem_cons.mpr ⟨
  (gs_dup dX12_init_23), List.forall_mem_cons.mpr ⟨
  (gs_iconst dX12_init_24 rfl), List.forall_mem_cons.mpr ⟨
  (gs_iconst dX12_init_25 rfl), List.forall_mem_cons.mpr ⟨
  (gs_iastore dX12_init_26), List.forall_mem_cons.mpr ⟨
  (gs_dup dX12_init_27), List.forall_mem_cons.mpr ⟨
  (gs_iconst dX12_init_28 rfl), List.forall_mem_cons.mpr ⟨
  (gs_iconst dX12_init_29 rfl), List.forall_mem_cons.mpr ⟨
  (gs_iastore dX12_init_30), List.forall_mem_cons.mpr ⟨
  (gs_dup dX12_init_31), List.forall_mem_cons.mpr ⟨
  (gs_iconst dX12_init_32 rfl), List.forall_mem_cons.mpr ⟨
  (gs_iconst dX12_init_33 rfl), List.forall_mem_cons.mpr ⟨
  (gs_iastore dX12_init_34), List.forall_mem_cons.mpr ⟨
  (gs_dup dX12_init_35), List.forall_mem_cons.mpr ⟨
  (gs_iconst dX12_init_36 rfl), List.forall_mem_cons.mpr ⟨
  (gs_iconst dX12_init_37 rfl), List.forall_mem_cons.mpr ⟨
  (gs_iastore dX12_init_38), List.forall_mem_cons.mpr ⟨
  (gs_pff dX12_init_39 (gx_mem 1000 (by decide +kernel) (by decide +kernel)) gf_12_3 (by decide +kernel)), List.forall_mem_cons.mpr ⟨
  (gs_aload_n dX12_init_42 rfl), fun _ h => absurd h List.not_mem_nil⟩⟩⟩⟩⟩⟩⟩⟩⟩⟩⟩⟩⟩⟩⟩⟩⟩⟩⟩⟩⟩⟩⟩⟩⟩⟩⟩⟩⟩⟩⟩⟩
set_option maxRecDepth 20000 in
theorem kt_X12_init_1 (g : gx_T) : ∀ q ∈ k_X12_init_1, gx_E g gc_md RX12 cX12_init 1 (none) "<init>" q.1 q.2 := List.forall_mem_cons.mpr ⟨(gs_bipush dX12_init_43 rfl), List.forall_mem_cons.mpr ⟨
  (gs_newa (ty := .int) dX12_init_45 rfl (gx_mem 136 (by decide +kernel) (by decide +kernel)) (by decide) (fun _ _ => rfl) rfl rfl (fun _ h => h)), List.forall_mem_cons.mpr ⟨
  (gs_pff dX12_init_47 (gx_mem 1001 (by decide +kernel) (by decide +kernel)) gf_12_4 (by decide +kernel)), List.forall_mem_cons.mpr ⟨
  (gs_aload_n dX12_init_50 rfl), List.forall_mem_cons.mpr ⟨
  (gs_bipush dX12_init_51 rfl), List.forall_mem_cons.mpr ⟨
  (gs_newa (ty := .int) dX12_init_53 rfl (gx_mem 136 (by decide +kernel) (by decide +kernel)) (by decide) (fun _ _ => rfl) rfl rfl (fun _ h => h)), List.forall_mem_cons.mpr ⟨
  (gs_pff dX12_init_55 (gx_mem 1002 (by decide +kernel) (by decide +kernel)) gf_12_5 (by decide +kernel)), List.forall_mem_cons.mpr ⟨
  (gs_aload_n dX12_init_58 rfl), List.forall_mem_cons.mpr ⟨
  (gs_bipush dX12_init_59 rfl), List.forall_mem_cons.mpr ⟨
  (gs_newa (ty := .int) dX12_init_61 rfl (gx_mem 136 (by decide +kernel) (by decide +kernel)) (by decide) (fun _ _ => rfl) rfl rfl (fun _ h => h)), List.forall_mem_cons.mpr ⟨
  (gs_pff dX12_init_63 (gx_mem 1003 (by decide +kernel) (by decide +kernel)) gf_12_6 (by decide +kernel)), List.forall_mem_cons.mpr ⟨
  (gs_aload_n dX12_init_66 rfl), List.forall_mem_cons.mpr ⟨
  (gs_bipush dX12_init_67 rfl), List.forall_mem_cons.mpr ⟨
  (gs_newa (ty := .int) dX12_init_69 rfl (gx_mem 136 (by decide +kernel) (by decide +kernel)) (by decide) (fun _ _ => rfl) rfl rfl (fun _ h => h)), List.forall_mem_cons.mpr ⟨
  (gs_pff dX12_init_71 (gx_mem 1004 (by decide +kernel) (by decide +kernel)) gf_12_7 (by decide +kernel)), List.forall_mem_cons.mpr ⟨
  (gs_aload_n dX12_init_74 rfl), List.forall_mem_cons.mpr ⟨
  (gs_bipush dX12_init_75 rfl), List.forall_mem_cons.mpr ⟨
  (gs_newa (ty := .int) dX12_init_77 rfl (gx_mem 136 (by decide +kernel) (by decide +kernel)) (by decide) (fun _ _ => rfl) rfl rfl (fun _ h => h)), List.forall_mem_cons.mpr ⟨
  (gs_pff dX12_init_79 (gx_mem 1005 (by decide +kernel) (by decide +kernel)) gf_12_8 (by decide +kernel)), List.forall_mem_cons.mpr ⟨
  (gs_aload_n dX12_init_82 rfl), List.forall_mem_cons.mpr ⟨
  (gs_bipush dX12_init_83 rfl), List.forall_mem_cons.mpr ⟨
  (gs_newa (ty := .int) dX12_init_85 rfl (gx_mem 136 (by decide +kernel) (by decide +kernel)) (by decide) (fun _ _ => rfl) rfl rfl (fun _ h => h)), List.forall_mem_cons.mpr ⟨
  (gs_pff dX12_init_87 (gx_mem 1006 (by decide +kernel) (by decide +kernel)) gf_12_9 (by decide +kernel)), List.forall_mem_cons.mpr ⟨
  (gs_aload_n dX12_init_90 rfl), List.forall_mem_cons.mpr ⟨
  (gs_bipush dX12_init_91 rfl), List.forall_mem_cons.mpr ⟨
  (gs_newa (ty := .int) dX12_init_93 rfl (gx_mem 136 (by decide +kernel) (by decide +kernel)) (by decide) (fun _ _ => rfl) rfl rfl (fun _ h => h)), List.forall_mem_cons.mpr ⟨
  (gs_pff dX12_init_95 (gx_mem 1007 (by decide +kernel) (by decide +kernel)) gf_12_10 (by decide +kernel)), List.forall_mem_cons.mpr ⟨
  (gs_aload_n dX12_init_98 rfl), List.forall_mem_cons.mpr ⟨
  (gs_bipush dX12_init_99 rfl), List.forall_mem_cons.mpr ⟨
  (gs_newa (ty := .int) dX12_init_101 rfl (gx_mem 136 (by decide +kernel) (by decide +kernel)) (by decide) (fun _ _ => rfl) rfl rfl (fun _ h => h)), List.forall_mem_cons.mpr ⟨
  (gs_pff dX12_init_103 (gx_mem 1008 (by decide +kernel) (by decide +kernel)) gf_12_11 (by decide +kernel)), List.forall_mem_cons.mpr ⟨
  (gs_aload_n dX12_init_106 rfl), fun _ h => absurd h List.not_mem_nil⟩⟩⟩⟩⟩⟩⟩⟩⟩⟩⟩⟩⟩⟩⟩⟩⟩⟩⟩⟩⟩⟩⟩⟩⟩⟩⟩⟩⟩⟩⟩⟩
set_option maxRecDepth 20000 in
theorem kt_X12_init_2 (g : gx_T) : ∀ q ∈ k_X12_init_2, gx_E g gc_md RX12 cX12_init 1 (none) "<init>" q.1 q.2 := List.forall_mem_cons.mpr ⟨(gs_bipush dX12_init_107 rfl), List.forall_mem_cons.mpr ⟨
  (gs_newa (ty := .int) dX12_init_109 rfl (gx_mem 136 (by decide +kernel) (by decide +kernel)) (by decide) (fun _ _ => rfl) rfl rfl (fun _ h => h)), List.forall_mem_cons.mpr ⟨
  (gs_pff dX12_init_111 (gx_mem 1009 (by decide +kernel) (by decide +kernel)) gf_12_12 (by decide +kernel)), List.forall_mem_cons.mpr ⟨
  (gs_aload_n dX12_init_114 rfl), List.forall_mem_cons.mpr ⟨
  (gs_iconst dX12_init_115 rfl), List.forall_mem_cons.mpr ⟨
  (gs_pf (ref := "GriefCranesModel") dX12_init_116 (gx_mem 1010 (by decide +kernel) (by decide +kernel)) (Or.inl rfl) gf_12_13 (by decide +kernel)), List.forall_mem_cons.mpr ⟨
  (gs_aload_n dX12_init_119 rfl), List.forall_mem_cons.mpr ⟨
  (gs_iconst dX12_init_120 rfl), List.forall_mem_cons.mpr ⟨
  (gs_pf (ref := "GriefCranesModel") dX12_init_121 (gx_mem 1011 (by decide +kernel) (by decide +kernel)) (Or.inl rfl) gf_12_14 (by decide +kernel)), List.forall_mem_cons.mpr ⟨
  (gs_aload_n dX12_init_124 rfl), List.forall_mem_cons.mpr ⟨
  (gs_iconst dX12_init_125 rfl), List.forall_mem_cons.mpr ⟨
  (gs_pf (ref := "GriefCranesModel") dX12_init_126 (gx_mem 1012 (by decide +kernel) (by decide +kernel)) (Or.inl rfl) gf_12_15 (by decide +kernel)), List.forall_mem_cons.mpr ⟨
  (gs_aload_n dX12_init_129 rfl), List.forall_mem_cons.mpr ⟨
  (gs_iconst dX12_init_130 rfl), List.forall_mem_cons.mpr ⟨
  (gs_pf (ref := "GriefCranesModel") dX12_init_131 (gx_mem 1013 (by decide +kernel) (by decide +kernel)) (Or.inl rfl) gf_12_16 (by decide +kernel)), List.forall_mem_cons.mpr ⟨
  (gs_aload_n dX12_init_134 rfl), List.forall_mem_cons.mpr ⟨
  (gs_iconst dX12_init_135 rfl), List.forall_mem_cons.mpr ⟨
  (gs_pf (ref := "GriefCranesModel") dX12_init_136 (gx_mem 1014 (by decide +kernel) (by decide +kernel)) (Or.inl rfl) gf_12_17 (by decide +kernel)), List.forall_mem_cons.mpr ⟨
  (gs_aload_n dX12_init_139 rfl), List.forall_mem_cons.mpr ⟨
  (gs_bipush dX12_init_140 rfl), List.forall_mem_cons.mpr ⟨
  (gs_newa (ty := .int) dX12_init_142 rfl (gx_mem 136 (by decide +kernel) (by decide +kernel)) (by decide) (fun _ _ => rfl) rfl rfl (fun _ h => h)), List.forall_mem_cons.mpr ⟨
  (gs_pff dX12_init_144 (gx_mem 1015 (by decide +kernel) (by decide +kernel)) gf_12_18 (by decide +kernel)), List.forall_mem_cons.mpr ⟨
  (gs_aload_n dX12_init_147 rfl), List.forall_mem_cons.mpr ⟨
  (gs_bipush dX12_init_148 rfl), List.forall_mem_cons.mpr ⟨
  (gs_newa (ty := .int) dX12_init_150 rfl (gx_mem 136 (by decide +kernel) (by decide +kernel)) (by decide) (fun _ _ => rfl) rfl rfl (fun _ h => h)), List.forall_mem_cons.mpr ⟨
  (gs_pff dX12_init_152 (gx_mem 1016 (by decide +kernel) (by decide +kernel)) gf_12_19 (by decide +kernel)), List.forall_mem_cons.mpr ⟨
  (gs_aload_n dX12_init_155 rfl), List.forall_mem_cons.mpr ⟨
  (gs_bipush dX12_init_156 rfl), List.forall_mem_cons.mpr ⟨
  (gs_newa (ty := .int) dX12_init_158 rfl (gx_mem 136 (by decide +kernel) (by decide +kernel)) (by decide) (fun _ _ => rfl) rfl rfl (fun _ h => h)), List.forall_mem_cons.mpr ⟨
  (gs_pff dX12_init_160 (gx_mem 1017 (by decide +kernel) (by decide +kernel)) gf_12_20 (by decide +kernel)), List.forall_mem_cons.mpr ⟨
  (gs_aload_n dX12_init_163 rfl), List.forall_mem_cons.mpr ⟨
  (gs_bipush dX12_init_164 rfl), fun _ h => absurd h List.not_mem_nil⟩⟩⟩⟩⟩⟩⟩⟩⟩⟩⟩⟩⟩⟩⟩⟩⟩⟩⟩⟩⟩⟩⟩⟩⟩⟩⟩⟩⟩⟩⟩⟩
set_option maxRecDepth 20000 in
theorem kt_X12_init_3 (g : gx_T) : ∀ q ∈ k_X12_init_3, gx_E g gc_md RX12 cX12_init 1 (none) "<init>" q.1 q.2 := List.forall_mem_cons.mpr ⟨(gs_newa (ty := .int) dX12_init_166 rfl (gx_mem 136 (by decide +kernel) (by decide +kernel)) (by decide) (fun _ _ => rfl) rfl rfl (fun _ h => h)), List.forall_mem_cons.mpr ⟨
  (gs_pff dX12_init_168 (gx_mem 1018 (by decide +kernel) (by decide +kernel)) gf_12_21 (by decide +kernel)), List.forall_mem_cons.mpr ⟨
  (gs_aload_n dX12_init_171 rfl), List.forall_mem_cons.mpr ⟨
  (gs_bipush dX12_init_172 rfl), List.forall_mem_cons.mpr ⟨
  (gs_newa (ty := .int) dX12_init_174 rfl (gx_mem 136 (by decide +kernel) (by decide +kernel)) (by decide) (fun _ _ => rfl) rfl rfl (fun _ h => h)), List.forall_mem_cons.mpr ⟨
  (gs_pff dX12_init_176 (gx_mem 1019 (by decide +kernel) (by decide +kernel)) gf_12_22 (by decide +kernel)), List.forall_mem_cons.mpr ⟨
  (gs_aload_n dX12_init_179 rfl), List.forall_mem_cons.mpr ⟨
  (gs_bipush dX12_init_180 rfl), List.forall_mem_cons.mpr ⟨
  (gs_newa (ty := .int) dX12_init_182 rfl (gx_mem 136 (by decide +kernel) (by decide +kernel)) (by decide) (fun _ _ => rfl) rfl rfl (fun _ h => h)), List.forall_mem_cons.mpr ⟨
  (gs_pff dX12_init_184 (gx_mem 1020 (by decide +kernel) (by decide +kernel)) gf_12_23 (by decide +kernel)), List.forall_mem_cons.mpr ⟨
  (gs_aload_n dX12_init_187 rfl), List.forall_mem_cons.mpr ⟨
  (gs_sipush dX12_init_188 rfl), List.forall_mem_cons.mpr ⟨
  (gs_newa (ty := .int) dX12_init_191 rfl (gx_mem 136 (by decide +kernel) (by decide +kernel)) (by decide) (fun _ _ => rfl) rfl rfl (fun _ h => h)), List.forall_mem_cons.mpr ⟨
  (gs_pff dX12_init_193 (gx_mem 1021 (by decide +kernel) (by decide +kernel)) gf_12_24 (by decide +kernel)), List.forall_mem_cons.mpr ⟨
  (gs_aload_n dX12_init_196 rfl), List.forall_mem_cons.mpr ⟨
  (gs_bipush dX12_init_197 rfl), List.forall_mem_cons.mpr ⟨
  (gs_newa (ty := .int) dX12_init_199 rfl (gx_mem 136 (by decide +kernel) (by decide +kernel)) (by decide) (fun _ _ => rfl) rfl rfl (fun _ h => h)), List.forall_mem_cons.mpr ⟨
  (gs_pff dX12_init_201 (gx_mem 1022 (by decide +kernel) (by decide +kernel)) gf_12_25 (by decide +kernel)), List.forall_mem_cons.mpr ⟨
  (gs_aload_n dX12_init_204 rfl), List.forall_mem_cons.mpr ⟨
  (gs_iconst dX12_init_205 rfl), List.forall_mem_cons.mpr ⟨
  (gs_pf (ref := "GriefCranesModel") dX12_init_206 (gx_mem 1023 (by decide +kernel) (by decide +kernel)) (Or.inl rfl) gf_12_26 (by decide +kernel)), List.forall_mem_cons.mpr ⟨
  (gs_aload_n dX12_init_209 rfl), List.forall_mem_cons.mpr ⟨
  (gs_iconst dX12_init_210 rfl), List.forall_mem_cons.mpr ⟨
  (gs_pf (ref := "GriefCranesModel") dX12_init_211 (gx_mem 1024 (by decide +kernel) (by decide +kernel)) (Or.inl rfl) gf_12_27 (by decide +kernel)), List.forall_mem_cons.mpr ⟨
  (gs_aload_n dX12_init_214 rfl), List.forall_mem_cons.mpr ⟨
  (gs_iconst dX12_init_215 rfl), List.forall_mem_cons.mpr ⟨
  (gs_pf (ref := "GriefCranesModel") dX12_init_216 (gx_mem 1025 (by decide +kernel) (by decide +kernel)) (Or.inl rfl) gf_12_28 (by decide +kernel)), List.forall_mem_cons.mpr ⟨
  (gs_aload_n dX12_init_219 rfl), List.forall_mem_cons.mpr ⟨
  (gs_bipush dX12_init_220 rfl), List.forall_mem_cons.mpr ⟨
  (gs_newa (ty := .int) dX12_init_222 rfl (gx_mem 136 (by decide +kernel) (by decide +kernel)) (by decide) (fun _ _ => rfl) rfl rfl (fun _ h => h)), List.forall_mem_cons.mpr ⟨
  (gs_dup dX12_init_224), List.forall_mem_cons.mpr ⟨
  (gs_iconst dX12_init_225 rfl), fun _ h => absurd h List.not_mem_nil⟩⟩⟩⟩⟩⟩⟩⟩⟩⟩⟩⟩⟩⟩⟩⟩⟩⟩⟩⟩⟩⟩⟩⟩⟩⟩⟩⟩⟩⟩⟩⟩
set_option maxRecDepth 20000 in
theorem kt_X12_init_4 (g : gx_T) : ∀ q ∈ k_X12_init_4, gx_E g gc_md RX12 cX12_init 1 (none) "<init>" q.1 q.2 := List.forall_mem_cons.mpr ⟨(gs_bipush dX12_init_226 rfl), List.forall_mem_cons.mpr ⟨
  (gs_iastore dX12_init_228), List.forall_mem_cons.mpr ⟨
  (gs_dup dX12_init_229), List.forall_mem_cons.mpr ⟨
  (gs_iconst dX12_init_230 rfl), List.forall_mem_cons.mpr ⟨
  (gs_bipush dX12_init_231 rfl), List.forall_mem_cons.mpr ⟨
  (gs_iastore dX12_init_233), List.forall_mem_cons.mpr ⟨
  (gs_dup dX12_init_234), List.forall_mem_cons.mpr ⟨
  (gs_iconst dX12_init_235 rfl), List.forall_mem_cons.mpr ⟨
  (gs_bipush dX12_init_236 rfl), List.forall_mem_cons.mpr ⟨
  (gs_iastore dX12_init_238), List.forall_mem_cons.mpr ⟨
  (gs_dup dX12_init_239), List.forall_mem_cons.mpr ⟨
  (gs_iconst dX12_init_240 rfl), List.forall_mem_cons.mpr ⟨
  (gs_bipush dX12_init_241 rfl), List.forall_mem_cons.mpr ⟨
  (gs_iastore dX12_init_243), List.forall_mem_cons.mpr ⟨
  (gs_dup dX12_init_244), List.forall_mem_cons.mpr ⟨
  (gs_iconst dX12_init_245 rfl), List.forall_mem_cons.mpr ⟨
  (gs_bipush dX12_init_246 rfl), List.forall_mem_cons.mpr ⟨
  (gs_iastore dX12_init_248), List.forall_mem_cons.mpr ⟨
  (gs_dup dX12_init_249), List.forall_mem_cons.mpr ⟨
  (gs_iconst dX12_init_250 rfl), List.forall_mem_cons.mpr ⟨
  (gs_bipush dX12_init_251 rfl), List.forall_mem_cons.mpr ⟨
  (gs_iastore dX12_init_253), List.forall_mem_cons.mpr ⟨
  (gs_dup dX12_init_254), List.forall_mem_cons.mpr ⟨
  (gs_bipush dX12_init_255 rfl), List.forall_mem_cons.mpr ⟨
  (gs_bipush dX12_init_257 rfl), List.forall_mem_cons.mpr ⟨
  (gs_iastore dX12_init_259), List.forall_mem_cons.mpr ⟨
  (gs_dup dX12_init_260), List.forall_mem_cons.mpr ⟨
  (gs_bipush dX12_init_261 rfl), List.forall_mem_cons.mpr ⟨
  (gs_bipush dX12_init_263 rfl), List.forall_mem_cons.mpr ⟨
  (gs_iastore dX12_init_265), List.forall_mem_cons.mpr ⟨
  (gs_dup dX12_init_266), List.forall_mem_cons.mpr ⟨
  (gs_bipush dX12_init_267 rfl), fun _ h => absurd h List.not_mem_nil⟩⟩⟩⟩⟩⟩⟩⟩⟩⟩⟩⟩⟩⟩⟩⟩⟩⟩⟩⟩⟩⟩⟩⟩⟩⟩⟩⟩⟩⟩⟩⟩
set_option maxRecDepth 20000 in
theorem kt_X12_init_5 (g : gx_T) : ∀ q ∈ k_X12_init_5, gx_E g gc_md RX12 cX12_init 1 (none) "<init>" q.1 q.2 := List.forall_mem_cons.mpr ⟨(gs_bipush dX12_init_269 rfl), List.forall_mem_cons.mpr ⟨
  (gs_iastore dX12_init_271), List.forall_mem_cons.mpr ⟨
  (gs_dup dX12_init_272), List.forall_mem_cons.mpr ⟨
  (gs_bipush dX12_init_273 rfl), List.forall_mem_cons.mpr ⟨
  (gs_bipush dX12_init_275 rfl), List.forall_mem_cons.mpr ⟨
  (gs_iastore dX12_init_277), List.forall_mem_cons.mpr ⟨
  (gs_dup dX12_init_278), List.forall_mem_cons.mpr ⟨
  (gs_bipush dX12_init_279 rfl), List.forall_mem_cons.mpr ⟨
  (gs_bipush dX12_init_281 rfl), List.forall_mem_cons.mpr ⟨
  (gs_iastore dX12_init_283), List.forall_mem_cons.mpr ⟨
  (gs_dup dX12_init_284), List.forall_mem_cons.mpr ⟨
  (gs_bipush dX12_init_285 rfl), List.forall_mem_cons.mpr ⟨
  (gs_bipush dX12_init_287 rfl), List.forall_mem_cons.mpr ⟨
  (gs_iastore dX12_init_289), List.forall_mem_cons.mpr ⟨
  (gs_dup dX12_init_290), List.forall_mem_cons.mpr ⟨
  (gs_bipush dX12_init_291 rfl), List.forall_mem_cons.mpr ⟨
  (gs_bipush dX12_init_293 rfl), List.forall_mem_cons.mpr ⟨
  (gs_iastore dX12_init_295), List.forall_mem_cons.mpr ⟨
  (gs_dup dX12_init_296), List.forall_mem_cons.mpr ⟨
  (gs_bipush dX12_init_297 rfl), List.forall_mem_cons.mpr ⟨
  (gs_bipush dX12_init_299 rfl), List.forall_mem_cons.mpr ⟨
  (gs_iastore dX12_init_301), List.forall_mem_cons.mpr ⟨
  (gs_dup dX12_init_302), List.forall_mem_cons.mpr ⟨
  (gs_bipush dX12_init_303 rfl), List.forall_mem_cons.mpr ⟨
  (gs_bipush dX12_init_305 rfl), List.forall_mem_cons.mpr ⟨
  (gs_iastore dX12_init_307), List.forall_mem_cons.mpr ⟨
  (gs_dup dX12_init_308), List.forall_mem_cons.mpr ⟨
  (gs_bipush dX12_init_309 rfl), List.forall_mem_cons.mpr ⟨
  (gs_bipush dX12_init_311 rfl), List.forall_mem_cons.mpr ⟨
  (gs_iastore dX12_init_313), List.forall_mem_cons.mpr ⟨
  (gs_dup dX12_init_314), List.forall_mem_cons.mpr ⟨
  (gs_bipush dX12_init_315 rfl), fun _ h => absurd h List.not_mem_nil⟩⟩⟩⟩⟩⟩⟩⟩⟩⟩⟩⟩⟩⟩⟩⟩⟩⟩⟩⟩⟩⟩⟩⟩⟩⟩⟩⟩⟩⟩⟩⟩
set_option maxRecDepth 20000 in
theorem kt_X12_init_6 (g : gx_T) : ∀ q ∈ k_X12_init_6, gx_E g gc_md RX12 cX12_init 1 (none) "<init>" q.1 q.2 := List.forall_mem_cons.mpr ⟨(gs_bipush dX12_init_317 rfl), List.forall_mem_cons.mpr ⟨
  (gs_iastore dX12_init_319), List.forall_mem_cons.mpr ⟨
  (gs_dup dX12_init_320), List.forall_mem_cons.mpr ⟨
  (gs_bipush dX12_init_321 rfl), List.forall_mem_cons.mpr ⟨
  (gs_bipush dX12_init_323 rfl), List.forall_mem_cons.mpr ⟨
  (gs_iastore dX12_init_325), List.forall_mem_cons.mpr ⟨
  (gs_pff dX12_init_326 (gx_mem 1026 (by decide +kernel) (by decide +kernel)) gf_12_29 (by decide +kernel)), List.forall_mem_cons.mpr ⟨
  (gs_aload_n dX12_init_329 rfl), List.forall_mem_cons.mpr ⟨
  (gs_bipush dX12_init_330 rfl), List.forall_mem_cons.mpr ⟨
  (gs_newa (ty := .boolean) dX12_init_332 rfl (gx_mem 1235 (by decide +kernel) (by decide +kernel)) (by decide) (fun _ _ => rfl) rfl rfl (fun _ h => h)), List.forall_mem_cons.mpr ⟨
  (gs_pff dX12_init_334 (gx_mem 1027 (by decide +kernel) (by decide +kernel)) gf_12_30 (by decide +kernel)), List.forall_mem_cons.mpr ⟨
  (gs_aload_n dX12_init_337 rfl), List.forall_mem_cons.mpr ⟨
  (gs_sipush dX12_init_338 rfl), List.forall_mem_cons.mpr ⟨
  (gs_pf (ref := "GriefCranesModel") dX12_init_341 (gx_mem 1028 (by decide +kernel) (by decide +kernel)) (Or.inl rfl) gf_12_31 (by decide +kernel)), List.forall_mem_cons.mpr ⟨
  (gs_aload_n dX12_init_344 rfl), List.forall_mem_cons.mpr ⟨
  (gs_iconst dX12_init_345 rfl), List.forall_mem_cons.mpr ⟨
  (gs_pf (ref := "GriefCranesModel") dX12_init_346 (gx_mem 1029 (by decide +kernel) (by decide +kernel)) (Or.inl rfl) gf_12_32 (by decide +kernel)), List.forall_mem_cons.mpr ⟨
  (gs_aload_n dX12_init_349 rfl), List.forall_mem_cons.mpr ⟨
  (gs_bipush dX12_init_350 rfl), List.forall_mem_cons.mpr ⟨
  (gs_newa (ty := .int) dX12_init_352 rfl (gx_mem 136 (by decide +kernel) (by decide +kernel)) (by decide) (fun _ _ => rfl) rfl rfl (fun _ h => h)), List.forall_mem_cons.mpr ⟨
  (gs_pff dX12_init_354 (gx_mem 1030 (by decide +kernel) (by decide +kernel)) gf_12_33 (by decide +kernel)), List.forall_mem_cons.mpr ⟨
  (gs_aload_n dX12_init_357 rfl), List.forall_mem_cons.mpr ⟨
  (gs_bipush dX12_init_358 rfl), List.forall_mem_cons.mpr ⟨
  (gs_newa (ty := .int) dX12_init_360 rfl (gx_mem 136 (by decide +kernel) (by decide +kernel)) (by decide) (fun _ _ => rfl) rfl rfl (fun _ h => h)), List.forall_mem_cons.mpr ⟨
  (gs_pff dX12_init_362 (gx_mem 1031 (by decide +kernel) (by decide +kernel)) gf_12_34 (by decide +kernel)), List.forall_mem_cons.mpr ⟨
  (gs_aload_n dX12_init_365 rfl), List.forall_mem_cons.mpr ⟨
  (gs_bipush dX12_init_366 rfl), List.forall_mem_cons.mpr ⟨
  (gs_newa (ty := .int) dX12_init_368 rfl (gx_mem 136 (by decide +kernel) (by decide +kernel)) (by decide) (fun _ _ => rfl) rfl rfl (fun _ h => h)), List.forall_mem_cons.mpr ⟨
  (gs_pff dX12_init_370 (gx_mem 1032 (by decide +kernel) (by decide +kernel)) gf_12_35 (by decide +kernel)), List.forall_mem_cons.mpr ⟨
  (gs_aload_n dX12_init_373 rfl), List.forall_mem_cons.mpr ⟨
  (gs_bipush dX12_init_374 rfl), List.forall_mem_cons.mpr ⟨
  (gs_newa (ty := .int) dX12_init_376 rfl (gx_mem 136 (by decide +kernel) (by decide +kernel)) (by decide) (fun _ _ => rfl) rfl rfl (fun _ h => h)), fun _ h => absurd h List.not_mem_nil⟩⟩⟩⟩⟩⟩⟩⟩⟩⟩⟩⟩⟩⟩⟩⟩⟩⟩⟩⟩⟩⟩⟩⟩⟩⟩⟩⟩⟩⟩⟩⟩
set_option maxRecDepth 20000 in
theorem kt_X12_init_7 (g : gx_T) : ∀ q ∈ k_X12_init_7, gx_E g gc_md RX12 cX12_init 1 (none) "<init>" q.1 q.2 := List.forall_mem_cons.mpr ⟨(gs_pff dX12_init_378 (gx_mem 1033 (by decide +kernel) (by decide +kernel)) gf_12_36 (by decide +kernel)), List.forall_mem_cons.mpr ⟨
  (gs_aload_n dX12_init_381 rfl), List.forall_mem_cons.mpr ⟨
  (gs_bipush dX12_init_382 rfl), List.forall_mem_cons.mpr ⟨
  (gs_newa (ty := .int) dX12_init_384 rfl (gx_mem 136 (by decide +kernel) (by decide +kernel)) (by decide) (fun _ _ => rfl) rfl rfl (fun _ h => h)), List.forall_mem_cons.mpr ⟨
  (gs_pff dX12_init_386 (gx_mem 1034 (by decide +kernel) (by decide +kernel)) gf_12_37 (by decide +kernel)), List.forall_mem_cons.mpr ⟨
  (gs_aload_n dX12_init_389 rfl), List.forall_mem_cons.mpr ⟨
  (gs_iconst dX12_init_390 rfl), List.forall_mem_cons.mpr ⟨
  (gs_pf (ref := "GriefCranesModel") dX12_init_391 (gx_mem 1035 (by decide +kernel) (by decide +kernel)) (Or.inl rfl) gf_12_38 (by decide +kernel)), List.forall_mem_cons.mpr ⟨
  (gs_aload_n dX12_init_394 rfl), List.forall_mem_cons.mpr ⟨
  (gs_iconst dX12_init_395 rfl), List.forall_mem_cons.mpr ⟨
  (gs_newa (ty := .int) dX12_init_396 rfl (gx_mem 136 (by decide +kernel) (by decide +kernel)) (by decide) (fun _ _ => rfl) rfl rfl (fun _ h => h)), List.forall_mem_cons.mpr ⟨
  (gs_pff dX12_init_398 (gx_mem 1036 (by decide +kernel) (by decide +kernel)) gf_12_39 (by decide +kernel)), List.forall_mem_cons.mpr ⟨
  (gs_aload_n dX12_init_401 rfl), List.forall_mem_cons.mpr ⟨
  (gs_iconst dX12_init_402 rfl), List.forall_mem_cons.mpr ⟨
  (gs_newa (ty := .int) dX12_init_403 rfl (gx_mem 136 (by decide +kernel) (by decide +kernel)) (by decide) (fun _ _ => rfl) rfl rfl (fun _ h => h)), List.forall_mem_cons.mpr ⟨
  (gs_pff dX12_init_405 (gx_mem 1037 (by decide +kernel) (by decide +kernel)) gf_12_40 (by decide +kernel)), List.forall_mem_cons.mpr ⟨
  (gs_aload_n dX12_init_408 rfl), List.forall_mem_cons.mpr ⟨
  (gs_iconst dX12_init_409 rfl), List.forall_mem_cons.mpr ⟨
  (gs_newa (ty := .int) dX12_init_410 rfl (gx_mem 136 (by decide +kernel) (by decide +kernel)) (by decide) (fun _ _ => rfl) rfl rfl (fun _ h => h)), List.forall_mem_cons.mpr ⟨
  (gs_pff dX12_init_412 (gx_mem 1038 (by decide +kernel) (by decide +kernel)) gf_12_41 (by decide +kernel)), List.forall_mem_cons.mpr ⟨
  (gs_aload_n dX12_init_415 rfl), List.forall_mem_cons.mpr ⟨
  (gs_iconst dX12_init_416 rfl), List.forall_mem_cons.mpr ⟨
  (gs_pf (ref := "GriefCranesModel") dX12_init_417 (gx_mem 1039 (by decide +kernel) (by decide +kernel)) (Or.inl rfl) gf_12_42 (by decide +kernel)), List.forall_mem_cons.mpr ⟨
  (gs_aload_n dX12_init_420 rfl), List.forall_mem_cons.mpr ⟨
  (gs_iconst dX12_init_421 rfl), List.forall_mem_cons.mpr ⟨
  (gs_pf (ref := "GriefCranesModel") dX12_init_422 (gx_mem 1040 (by decide +kernel) (by decide +kernel)) (Or.inl rfl) gf_12_43 (by decide +kernel)), List.forall_mem_cons.mpr ⟨
  (gs_aload_n dX12_init_425 rfl), List.forall_mem_cons.mpr ⟨
  (gs_bipush dX12_init_426 rfl), List.forall_mem_cons.mpr ⟨
  (gs_newa (ty := .int) dX12_init_428 rfl (gx_mem 136 (by decide +kernel) (by decide +kernel)) (by decide) (fun _ _ => rfl) rfl rfl (fun _ h => h)), List.forall_mem_cons.mpr ⟨
  (gs_pff dX12_init_430 (gx_mem 1041 (by decide +kernel) (by decide +kernel)) gf_12_44 (by decide +kernel)), List.forall_mem_cons.mpr ⟨
  (gs_aload_n dX12_init_433 rfl), List.forall_mem_cons.mpr ⟨
  (gs_bipush dX12_init_434 rfl), fun _ h => absurd h List.not_mem_nil⟩⟩⟩⟩⟩⟩⟩⟩⟩⟩⟩⟩⟩⟩⟩⟩⟩⟩⟩⟩⟩⟩⟩⟩⟩⟩⟩⟩⟩⟩⟩⟩
set_option maxRecDepth 20000 in
theorem kt_X12_init_8 (g : gx_T) : ∀ q ∈ k_X12_init_8, gx_E g gc_md RX12 cX12_init 1 (none) "<init>" q.1 q.2 := List.forall_mem_cons.mpr ⟨(gs_newa (ty := .int) dX12_init_436 rfl (gx_mem 136 (by decide +kernel) (by decide +kernel)) (by decide) (fun _ _ => rfl) rfl rfl (fun _ h => h)), List.forall_mem_cons.mpr ⟨
  (gs_pff dX12_init_438 (gx_mem 1042 (by decide +kernel) (by decide +kernel)) gf_12_45 (by decide +kernel)), List.forall_mem_cons.mpr ⟨
  (gs_aload_n dX12_init_441 rfl), List.forall_mem_cons.mpr ⟨
  (gs_bipush dX12_init_442 rfl), List.forall_mem_cons.mpr ⟨
  (gs_newa (ty := .int) dX12_init_444 rfl (gx_mem 136 (by decide +kernel) (by decide +kernel)) (by decide) (fun _ _ => rfl) rfl rfl (fun _ h => h)), List.forall_mem_cons.mpr ⟨
  (gs_pff dX12_init_446 (gx_mem 1043 (by decide +kernel) (by decide +kernel)) gf_12_46 (by decide +kernel)), List.forall_mem_cons.mpr ⟨
  (gs_aload_n dX12_init_449 rfl), List.forall_mem_cons.mpr ⟨
  (gs_bipush dX12_init_450 rfl), List.forall_mem_cons.mpr ⟨
  (gs_newa (ty := .int) dX12_init_452 rfl (gx_mem 136 (by decide +kernel) (by decide +kernel)) (by decide) (fun _ _ => rfl) rfl rfl (fun _ h => h)), List.forall_mem_cons.mpr ⟨
  (gs_pff dX12_init_454 (gx_mem 1044 (by decide +kernel) (by decide +kernel)) gf_12_47 (by decide +kernel)), List.forall_mem_cons.mpr ⟨
  (gs_aload_n dX12_init_457 rfl), List.forall_mem_cons.mpr ⟨
  (gs_iconst dX12_init_458 rfl), List.forall_mem_cons.mpr ⟨
  (gs_pf (ref := "GriefCranesModel") dX12_init_459 (gx_mem 1045 (by decide +kernel) (by decide +kernel)) (Or.inl rfl) gf_12_48 (by decide +kernel)), List.forall_mem_cons.mpr ⟨
  (gs_aload_n dX12_init_462 rfl), List.forall_mem_cons.mpr ⟨
  (gs_iconst dX12_init_463 rfl), List.forall_mem_cons.mpr ⟨
  (gs_pf (ref := "GriefCranesModel") dX12_init_464 (gx_mem 1046 (by decide +kernel) (by decide +kernel)) (Or.inl rfl) gf_12_49 (by decide +kernel)), List.forall_mem_cons.mpr ⟨
  (gs_aload_n dX12_init_467 rfl), List.forall_mem_cons.mpr ⟨
  (gs_iconst dX12_init_468 rfl), List.forall_mem_cons.mpr ⟨
  (gs_pf (ref := "GriefCranesModel") dX12_init_469 (gx_mem 1047 (by decide +kernel) (by decide +kernel)) (Or.inl rfl) gf_12_50 (by decide +kernel)), List.forall_mem_cons.mpr ⟨
  (gs_aload_n dX12_init_472 rfl), List.forall_mem_cons.mpr ⟨
  (gs_iconst dX12_init_473 rfl), List.forall_mem_cons.mpr ⟨
  (gs_pf (ref := "GriefCranesModel") dX12_init_474 (gx_mem 1048 (by decide +kernel) (by decide +kernel)) (Or.inl rfl) gf_12_51 (by decide +kernel)), List.forall_mem_cons.mpr ⟨
  (gs_aload_n dX12_init_477 rfl), List.forall_mem_cons.mpr ⟨
  (gs_iconst dX12_init_478 rfl), List.forall_mem_cons.mpr ⟨
  (gs_pf (ref := "GriefCranesModel") dX12_init_479 (gx_mem 1049 (by decide +kernel) (by decide +kernel)) (Or.inl rfl) gf_12_52 (by decide +kernel)), List.forall_mem_cons.mpr ⟨
  (gs_aload_n dX12_init_482 rfl), List.forall_mem_cons.mpr ⟨
  (gs_iconst dX12_init_483 rfl), List.forall_mem_cons.mpr ⟨
  (gs_pf (ref := "GriefCranesModel") dX12_init_484 (gx_mem 1050 (by decide +kernel) (by decide +kernel)) (Or.inl rfl) gf_12_53 (by decide +kernel)), List.forall_mem_cons.mpr ⟨
  (gs_aload_n dX12_init_487 rfl), List.forall_mem_cons.mpr ⟨
  (gs_iconst dX12_init_488 rfl), List.forall_mem_cons.mpr ⟨
  (gs_pf (ref := "GriefCranesModel") dX12_init_489 (gx_mem 1051 (by decide +kernel) (by decide +kernel)) (Or.inl rfl) gf_12_54 (by decide +kernel)), List.forall_mem_cons.mpr ⟨
  (gs_aload_n dX12_init_492 rfl), fun _ h => absurd h List.not_mem_nil⟩⟩⟩⟩⟩⟩⟩⟩⟩⟩⟩⟩⟩⟩⟩⟩⟩⟩⟩⟩⟩⟩⟩⟩⟩⟩⟩⟩⟩⟩⟩⟩
set_option maxRecDepth 20000 in
theorem kt_X12_init_9 (g : gx_T) : ∀ q ∈ k_X12_init_9, gx_E g gc_md RX12 cX12_init 1 (none) "<init>" q.1 q.2 := List.forall_mem_cons.mpr ⟨(gs_iconst dX12_init_493 rfl), List.forall_mem_cons.mpr ⟨
  (gs_pf (ref := "GriefCranesModel") dX12_init_494 (gx_mem 1052 (by decide +kernel) (by decide +kernel)) (Or.inl rfl) gf_12_55 (by decide +kernel)), List.forall_mem_cons.mpr ⟨
  (gs_aload_n dX12_init_497 rfl), List.forall_mem_cons.mpr ⟨
  (gs_iconst dX12_init_498 rfl), List.forall_mem_cons.mpr ⟨
  (gs_newa (ty := .int) dX12_init_499 rfl (gx_mem 136 (by decide +kernel) (by decide +kernel)) (by decide) (fun _ _ => rfl) rfl rfl (fun _ h => h)), List.forall_mem_cons.mpr ⟨
  (gs_pff dX12_init_501 (gx_mem 1053 (by decide +kernel) (by decide +kernel)) gf_12_56 (by decide +kernel)), List.forall_mem_cons.mpr ⟨
  (gs_aload_n dX12_init_504 rfl), List.forall_mem_cons.mpr ⟨
  (gs_bipush dX12_init_505 rfl), List.forall_mem_cons.mpr ⟨
  (gs_newa (ty := .int) dX12_init_507 rfl (gx_mem 136 (by decide +kernel) (by decide +kernel)) (by decide) (fun _ _ => rfl) rfl rfl (fun _ h => h)), List.forall_mem_cons.mpr ⟨
  (gs_pff dX12_init_509 (gx_mem 1054 (by decide +kernel) (by decide +kernel)) gf_12_57 (by decide +kernel)), List.forall_mem_cons.mpr ⟨
  (gs_aload_n dX12_init_512 rfl), List.forall_mem_cons.mpr ⟨
  (gs_bipush dX12_init_513 rfl), List.forall_mem_cons.mpr ⟨
  (gs_newa (ty := .int) dX12_init_515 rfl (gx_mem 136 (by decide +kernel) (by decide +kernel)) (by decide) (fun _ _ => rfl) rfl rfl (fun _ h => h)), List.forall_mem_cons.mpr ⟨
  (gs_pff dX12_init_517 (gx_mem 1055 (by decide +kernel) (by decide +kernel)) gf_12_58 (by decide +kernel)), List.forall_mem_cons.mpr ⟨
  (gs_aload_n dX12_init_520 rfl), List.forall_mem_cons.mpr ⟨
  (gs_bipush dX12_init_521 rfl), List.forall_mem_cons.mpr ⟨
  (gs_newa (ty := .int) dX12_init_523 rfl (gx_mem 136 (by decide +kernel) (by decide +kernel)) (by decide) (fun _ _ => rfl) rfl rfl (fun _ h => h)), List.forall_mem_cons.mpr ⟨
  (gs_pff dX12_init_525 (gx_mem 1056 (by decide +kernel) (by decide +kernel)) gf_12_59 (by decide +kernel)), List.forall_mem_cons.mpr ⟨
  (gs_aload_n dX12_init_528 rfl), List.forall_mem_cons.mpr ⟨
  (gs_bipush dX12_init_529 rfl), List.forall_mem_cons.mpr ⟨
  (gs_newa (ty := .int) dX12_init_531 rfl (gx_mem 136 (by decide +kernel) (by decide +kernel)) (by decide) (fun _ _ => rfl) rfl rfl (fun _ h => h)), List.forall_mem_cons.mpr ⟨
  (gs_pff dX12_init_533 (gx_mem 1057 (by decide +kernel) (by decide +kernel)) gf_12_60 (by decide +kernel)), List.forall_mem_cons.mpr ⟨
  (gs_aload_n dX12_init_536 rfl), List.forall_mem_cons.mpr ⟨
  (gs_bipush dX12_init_537 rfl), List.forall_mem_cons.mpr ⟨
  (gs_newa (ty := .int) dX12_init_539 rfl (gx_mem 136 (by decide +kernel) (by decide +kernel)) (by decide) (fun _ _ => rfl) rfl rfl (fun _ h => h)), List.forall_mem_cons.mpr ⟨
  (gs_pff dX12_init_541 (gx_mem 1058 (by decide +kernel) (by decide +kernel)) gf_12_61 (by decide +kernel)), List.forall_mem_cons.mpr ⟨
  (gs_aload_n dX12_init_544 rfl), List.forall_mem_cons.mpr ⟨
  (gs_bipush dX12_init_545 rfl), List.forall_mem_cons.mpr ⟨
  (gs_newa (ty := .int) dX12_init_547 rfl (gx_mem 136 (by decide +kernel) (by decide +kernel)) (by decide) (fun _ _ => rfl) rfl rfl (fun _ h => h)), List.forall_mem_cons.mpr ⟨
  (gs_pff dX12_init_549 (gx_mem 1059 (by decide +kernel) (by decide +kernel)) gf_12_62 (by decide +kernel)), List.forall_mem_cons.mpr ⟨
  (gs_aload_n dX12_init_552 rfl), List.forall_mem_cons.mpr ⟨
  (gs_bipush dX12_init_553 rfl), fun _ h => absurd h List.not_mem_nil⟩⟩⟩⟩⟩⟩⟩⟩⟩⟩⟩⟩⟩⟩⟩⟩⟩⟩⟩⟩⟩⟩⟩⟩⟩⟩⟩⟩⟩⟩⟩⟩
set_option maxRecDepth 20000 in
theorem kt_X12_init_10 (g : gx_T) : ∀ q ∈ k_X12_init_10, gx_E g gc_md RX12 cX12_init 1 (none) "<init>" q.1 q.2 := List.forall_mem_cons.mpr ⟨(gs_newa (ty := .int) dX12_init_555 rfl (gx_mem 136 (by decide +kernel) (by decide +kernel)) (by decide) (fun _ _ => rfl) rfl rfl (fun _ h => h)), List.forall_mem_cons.mpr ⟨
  (gs_pff dX12_init_557 (gx_mem 1060 (by decide +kernel) (by decide +kernel)) gf_12_63 (by decide +kernel)), List.forall_mem_cons.mpr ⟨
  (gs_aload_n dX12_init_560 rfl), List.forall_mem_cons.mpr ⟨
  (gs_bipush dX12_init_561 rfl), List.forall_mem_cons.mpr ⟨
  (gs_newa (ty := .int) dX12_init_563 rfl (gx_mem 136 (by decide +kernel) (by decide +kernel)) (by decide) (fun _ _ => rfl) rfl rfl (fun _ h => h)), List.forall_mem_cons.mpr ⟨
  (gs_pff dX12_init_565 (gx_mem 1061 (by decide +kernel) (by decide +kernel)) gf_12_64 (by decide +kernel)), List.forall_mem_cons.mpr ⟨
  (gs_aload_n dX12_init_568 rfl), List.forall_mem_cons.mpr ⟨
  (gs_bipush dX12_init_569 rfl), List.forall_mem_cons.mpr ⟨
  (gs_newa (ty := .int) dX12_init_571 rfl (gx_mem 136 (by decide +kernel) (by decide +kernel)) (by decide) (fun _ _ => rfl) rfl rfl (fun _ h => h)), List.forall_mem_cons.mpr ⟨
  (gs_pff dX12_init_573 (gx_mem 1062 (by decide +kernel) (by decide +kernel)) gf_12_65 (by decide +kernel)), List.forall_mem_cons.mpr ⟨
  (gs_aload_n dX12_init_576 rfl), List.forall_mem_cons.mpr ⟨
  (gs_iconst dX12_init_577 rfl), List.forall_mem_cons.mpr ⟨
  (gs_newa (ty := .int) dX12_init_578 rfl (gx_mem 136 (by decide +kernel) (by decide +kernel)) (by decide) (fun _ _ => rfl) rfl rfl (fun _ h => h)), List.forall_mem_cons.mpr ⟨
  (gs_pff dX12_init_580 (gx_mem 1063 (by decide +kernel) (by decide +kernel)) gf_12_66 (by decide +kernel)), List.forall_mem_cons.mpr ⟨
  (gs_aload_n dX12_init_583 rfl), List.forall_mem_cons.mpr ⟨
  (gs_iconst dX12_init_584 rfl), List.forall_mem_cons.mpr ⟨
  (gs_newa (ty := .int) dX12_init_585 rfl (gx_mem 136 (by decide +kernel) (by decide +kernel)) (by decide) (fun _ _ => rfl) rfl rfl (fun _ h => h)), List.forall_mem_cons.mpr ⟨
  (gs_pff dX12_init_587 (gx_mem 1064 (by decide +kernel) (by decide +kernel)) gf_12_67 (by decide +kernel)), List.forall_mem_cons.mpr ⟨
  (gs_aload_n dX12_init_590 rfl), List.forall_mem_cons.mpr ⟨
  (gs_iconst dX12_init_591 rfl), List.forall_mem_cons.mpr ⟨
  (gs_newa (ty := .int) dX12_init_592 rfl (gx_mem 136 (by decide +kernel) (by decide +kernel)) (by decide) (fun _ _ => rfl) rfl rfl (fun _ h => h)), List.forall_mem_cons.mpr ⟨
  (gs_pff dX12_init_594 (gx_mem 1065 (by decide +kernel) (by decide +kernel)) gf_12_68 (by decide +kernel)), List.forall_mem_cons.mpr ⟨
  (gs_aload_n dX12_init_597 rfl), List.forall_mem_cons.mpr ⟨
  (gs_bipush dX12_init_598 rfl), List.forall_mem_cons.mpr ⟨
  (gs_newa (ty := .int) dX12_init_600 rfl (gx_mem 136 (by decide +kernel) (by decide +kernel)) (by decide) (fun _ _ => rfl) rfl rfl (fun _ h => h)), List.forall_mem_cons.mpr ⟨
  (gs_pff dX12_init_602 (gx_mem 1066 (by decide +kernel) (by decide +kernel)) gf_12_69 (by decide +kernel)), List.forall_mem_cons.mpr ⟨
  (gs_aload_n dX12_init_605 rfl), List.forall_mem_cons.mpr ⟨
  (gs_bipush dX12_init_606 rfl), List.forall_mem_cons.mpr ⟨
  (gs_newa (ty := .int) dX12_init_608 rfl (gx_mem 136 (by decide +kernel) (by decide +kernel)) (by decide) (fun _ _ => rfl) rfl rfl (fun _ h => h)), List.forall_mem_cons.mpr ⟨
  (gs_pff dX12_init_610 (gx_mem 1067 (by decide +kernel) (by decide +kernel)) gf_12_70 (by decide +kernel)), List.forall_mem_cons.mpr ⟨
  (gs_aload_n dX12_init_613 rfl), List.forall_mem_cons.mpr ⟨
  (gs_bipush dX12_init_614 rfl), fun _ h => absurd h List.not_mem_nil⟩⟩⟩⟩⟩⟩⟩⟩⟩⟩⟩⟩⟩⟩⟩⟩⟩⟩⟩⟩⟩⟩⟩⟩⟩⟩⟩⟩⟩⟩⟩⟩
set_option maxRecDepth 20000 in
theorem kt_X12_init_11 (g : gx_T) : ∀ q ∈ k_X12_init_11, gx_E g gc_md RX12 cX12_init 1 (none) "<init>" q.1 q.2 := List.forall_mem_cons.mpr ⟨(gs_newa (ty := .int) dX12_init_616 rfl (gx_mem 136 (by decide +kernel) (by decide +kernel)) (by decide) (fun _ _ => rfl) rfl rfl (fun _ h => h)), List.forall_mem_cons.mpr ⟨
  (gs_pff dX12_init_618 (gx_mem 1068 (by decide +kernel) (by decide +kernel)) gf_12_71 (by decide +kernel)), List.forall_mem_cons.mpr ⟨
  (gs_aload_n dX12_init_621 rfl), List.forall_mem_cons.mpr ⟨
  (gs_bipush dX12_init_622 rfl), List.forall_mem_cons.mpr ⟨
  (gs_newa (ty := .int) dX12_init_624 rfl (gx_mem 136 (by decide +kernel) (by decide +kernel)) (by decide) (fun _ _ => rfl) rfl rfl (fun _ h => h)), List.forall_mem_cons.mpr ⟨
  (gs_pff dX12_init_626 (gx_mem 1069 (by decide +kernel) (by decide +kernel)) gf_12_72 (by decide +kernel)), List.forall_mem_cons.mpr ⟨
  (gs_aload_n dX12_init_629 rfl), List.forall_mem_cons.mpr ⟨
  (gs_iconst dX12_init_630 rfl), List.forall_mem_cons.mpr ⟨
  (gs_pf (ref := "GriefCranesModel") dX12_init_631 (gx_mem 1070 (by decide +kernel) (by decide +kernel)) (Or.inl rfl) gf_12_73 (by decide +kernel)), List.forall_mem_cons.mpr ⟨
  (gs_aload_n dX12_init_634 rfl), List.forall_mem_cons.mpr ⟨
  (gs_bipush dX12_init_635 rfl), List.forall_mem_cons.mpr ⟨
  (gs_newa (ty := .int) dX12_init_637 rfl (gx_mem 136 (by decide +kernel) (by decide +kernel)) (by decide) (fun _ _ => rfl) rfl rfl (fun _ h => h)), List.forall_mem_cons.mpr ⟨
  (gs_pff dX12_init_639 (gx_mem 1071 (by decide +kernel) (by decide +kernel)) gf_12_74 (by decide +kernel)), List.forall_mem_cons.mpr ⟨
  (gs_aload_n dX12_init_642 rfl), List.forall_mem_cons.mpr ⟨
  (gs_bipush dX12_init_643 rfl), List.forall_mem_cons.mpr ⟨
  (gs_newa (ty := .int) dX12_init_645 rfl (gx_mem 136 (by decide +kernel) (by decide +kernel)) (by decide) (fun _ _ => rfl) rfl rfl (fun _ h => h)), List.forall_mem_cons.mpr ⟨
  (gs_dup dX12_init_647), List.forall_mem_cons.mpr ⟨
  (gs_iconst dX12_init_648 rfl), List.forall_mem_cons.mpr ⟨
  (gs_iconst dX12_init_649 rfl), List.forall_mem_cons.mpr ⟨
  (gs_iastore dX12_init_650), List.forall_mem_cons.mpr ⟨
  (gs_dup dX12_init_651), List.forall_mem_cons.mpr ⟨
  (gs_iconst dX12_init_652 rfl), List.forall_mem_cons.mpr ⟨
  (gs_iconst dX12_init_653 rfl), List.forall_mem_cons.mpr ⟨
  (gs_iastore dX12_init_654), List.forall_mem_cons.mpr ⟨
  (gs_dup dX12_init_655), List.forall_mem_cons.mpr ⟨
  (gs_iconst dX12_init_656 rfl), List.forall_mem_cons.mpr ⟨
  (gs_iconst dX12_init_657 rfl), List.forall_mem_cons.mpr ⟨
  (gs_iastore dX12_init_658), List.forall_mem_cons.mpr ⟨
  (gs_dup dX12_init_659), List.forall_mem_cons.mpr ⟨
  (gs_iconst dX12_init_660 rfl), List.forall_mem_cons.mpr ⟨
  (gs_iconst dX12_init_661 rfl), List.forall_mem_cons.mpr ⟨
  (gs_iastore dX12_init_662), fun _ h => absurd h List.not_mem_nil⟩⟩⟩⟩⟩⟩⟩⟩⟩⟩⟩⟩⟩⟩⟩⟩⟩⟩⟩⟩⟩⟩⟩⟩⟩⟩⟩⟩⟩⟩⟩⟩
set_option maxRecDepth 20000 in
theorem kt_X12_init_12 (g : gx_T) : ∀ q ∈ k_X12_init_12, gx_E g gc_md RX12 cX12_init 1 (none) "<init>" q.1 q.2 := List.forall_mem_cons.mpr ⟨(gs_dup dX12_init_663), List.forall_mem_cons.mpr ⟨
  (gs_iconst dX12_init_664 rfl), List.forall_mem_cons.mpr ⟨
  (gs_iconst dX12_init_665 rfl), List.forall_mem_cons.mpr ⟨
  (gs_iastore dX12_init_666), List.forall_mem_cons.mpr ⟨
  (gs_dup dX12_init_667), List.forall_mem_cons.mpr ⟨
  (gs_iconst dX12_init_668 rfl), List.forall_mem_cons.mpr ⟨
  (gs_iconst dX12_init_669 rfl), List.forall_mem_cons.mpr ⟨
  (gs_iastore dX12_init_670), List.forall_mem_cons.mpr ⟨
  (gs_pff dX12_init_671 (gx_mem 1072 (by decide +kernel) (by decide +kernel)) gf_12_75 (by decide +kernel)), List.forall_mem_cons.mpr ⟨
  (gs_aload_n dX12_init_674 rfl), List.forall_mem_cons.mpr ⟨
  (gs_bipush dX12_init_675 rfl), List.forall_mem_cons.mpr ⟨
  (gs_newa (ty := .int) dX12_init_677 rfl (gx_mem 136 (by decide +kernel) (by decide +kernel)) (by decide) (fun _ _ => rfl) rfl rfl (fun _ h => h)), List.forall_mem_cons.mpr ⟨
  (gs_pff dX12_init_679 (gx_mem 1073 (by decide +kernel) (by decide +kernel)) gf_12_76 (by decide +kernel)), List.forall_mem_cons.mpr ⟨
  (gs_aload_n dX12_init_682 rfl), List.forall_mem_cons.mpr ⟨
  (gs_sipush dX12_init_683 rfl), List.forall_mem_cons.mpr ⟨
  (gs_newa (ty := .long) dX12_init_686 rfl (gx_mem 200 (by decide +kernel) (by decide +kernel)) (by decide) (fun _ _ => rfl) rfl rfl (fun _ h => h)), List.forall_mem_cons.mpr ⟨
  (gs_pff dX12_init_688 (gx_mem 1074 (by decide +kernel) (by decide +kernel)) gf_12_77 (by decide +kernel)), List.forall_mem_cons.mpr ⟨
  (gs_aload_n dX12_init_691 rfl), List.forall_mem_cons.mpr ⟨
  (gs_bipush dX12_init_692 rfl), List.forall_mem_cons.mpr ⟨
  (gs_newa (ty := .long) dX12_init_694 rfl (gx_mem 200 (by decide +kernel) (by decide +kernel)) (by decide) (fun _ _ => rfl) rfl rfl (fun _ h => h)), List.forall_mem_cons.mpr ⟨
  (gs_pff dX12_init_696 (gx_mem 1075 (by decide +kernel) (by decide +kernel)) gf_12_78 (by decide +kernel)), List.forall_mem_cons.mpr ⟨
  (gs_rv dX12_init_699), fun _ h => absurd h List.not_mem_nil⟩⟩⟩⟩⟩⟩⟩⟩⟩⟩⟩⟩⟩⟩⟩⟩⟩⟩⟩⟩⟩⟩
theorem kt_X12_init (g : gx_T) : ∀ q ∈ k_X12_init, gx_E g gc_md RX12 cX12_init 1 (none) "<init>" q.1 q.2 := List.forall_mem_append.mpr ⟨kt_X12_init_0 g, List.forall_mem_append.mpr ⟨kt_X12_init_1 g, List.forall_mem_append.mpr ⟨kt_X12_init_2 g, List.forall_mem_append.mpr ⟨kt_X12_init_3 g, List.forall_mem_append.mpr ⟨kt_X12_init_4 g, List.forall_mem_append.mpr ⟨kt_X12_init_5 g, List.forall_mem_append.mpr ⟨kt_X12_init_6 g, List.forall_mem_append.mpr ⟨kt_X12_init_7 g, List.forall_mem_append.mpr ⟨kt_X12_init_8 g, List.forall_mem_append.mpr ⟨kt_X12_init_9 g, List.forall_mem_append.mpr ⟨kt_X12_init_10 g, List.forall_mem_append.mpr ⟨kt_X12_init_11 g, kt_X12_init_12 g⟩⟩⟩⟩⟩⟩⟩⟩⟩⟩⟩⟩
set_option maxRecDepth 20000 in
theorem dX12_in_0 : decode cX12_in 0 = .ok (.iload_n 1, 1) := by decide +kernel
set_option maxRecDepth 20000 in
theorem dX12_in_1 : decode cX12_in 1 = .ok (.iload_n 2, 1) := by decide +kernel
set_option maxRecDepth 20000 in
theorem dX12_in_2 : decode cX12_in 2 = .ok (.if_icmp .lt 12, 3) := by decide +kernel
set_option maxRecDepth 20000 in
theorem dX12_in_5 : decode cX12_in 5 = .ok (.iload_n 1, 1) := by decide +kernel
set_option maxRecDepth 20000 in
theorem dX12_in_6 : decode cX12_in 6 = .ok (.iload_n 3, 1) := by decide +kernel
set_option maxRecDepth 20000 in
theorem dX12_in_7 : decode cX12_in 7 = .ok (.if_icmp .gt 7, 3) := by decide +kernel
set_option maxRecDepth 20000 in
theorem dX12_in_10 : decode cX12_in 10 = .ok (.iconst 1, 1) := by decide +kernel
set_option maxRecDepth 20000 in
theorem dX12_in_11 : decode cX12_in 11 = .ok (.goto 4, 3) := by decide +kernel
set_option maxRecDepth 20000 in
theorem dX12_in_14 : decode cX12_in 14 = .ok (.iconst 0, 1) := by decide +kernel
set_option maxRecDepth 20000 in
theorem dX12_in_15 : decode cX12_in 15 = .ok (.ireturn, 1) := by decide +kernel
set_option maxRecDepth 20000 in
theorem kt_X12_in_0 (g : gx_T) : ∀ q ∈ k_X12_in_0, gx_E g gc_md RX12 cX12_in 4 (some .boolean) "in" q.1 q.2 := List.forall_mem_cons.mpr ⟨(gs_iload_n dX12_in_0 rfl), List.forall_mem_cons.mpr ⟨
  (gs_iload_n dX12_in_1 rfl), List.forall_mem_cons.mpr ⟨
  (gs_icmp_lt dX12_in_2 rfl), List.forall_mem_cons.mpr ⟨
  (gs_iload_n dX12_in_5 rfl), List.forall_mem_cons.mpr ⟨
  (gs_iload_n dX12_in_6 rfl), List.forall_mem_cons.mpr ⟨
  (gs_icmp_gt dX12_in_7 rfl), List.forall_mem_cons.mpr ⟨
  (gs_iconst dX12_in_10 rfl), List.forall_mem_cons.mpr ⟨
  (gs_goto dX12_in_11 rfl), List.forall_mem_cons.mpr ⟨
  (gs_iconst dX12_in_14 rfl), List.forall_mem_cons.mpr ⟨
  (gs_rn dX12_in_15 (by decide)), fun _ h => absurd h List.not_mem_nil⟩⟩⟩⟩⟩⟩⟩⟩⟩⟩
theorem kt_X12_in (g : gx_T) : ∀ q ∈ k_X12_in, gx_E g gc_md RX12 cX12_in 4 (some .boolean) "in" q.1 q.2 := kt_X12_in_0 g
set_option maxRecDepth 20000 in
theorem dX12_has_0 : decode cX12_has 0 = .ok (.iload_n 1, 1) := by decide +kernel
set_option maxRecDepth 20000 in
theorem dX12_has_1 : decode cX12_has 1 = .ok (.iload_n 2, 1) := by decide +kernel
set_option maxRecDepth 20000 in
theorem dX12_has_2 : decode cX12_has 2 = .ok (.ishr, 1) := by decide +kernel
set_option maxRecDepth 20000 in
theorem dX12_has_3 : decode cX12_has 3 = .ok (.iconst 1, 1) := by decide +kernel
set_option maxRecDepth 20000 in
theorem dX12_has_4 : decode cX12_has 4 = .ok (.iand, 1) := by decide +kernel
set_option maxRecDepth 20000 in
theorem dX12_has_5 : decode cX12_has 5 = .ok (.iconst 1, 1) := by decide +kernel
set_option maxRecDepth 20000 in
theorem dX12_has_6 : decode cX12_has 6 = .ok (.if_icmp .ne 7, 3) := by decide +kernel
set_option maxRecDepth 20000 in
theorem dX12_has_9 : decode cX12_has 9 = .ok (.iconst 1, 1) := by decide +kernel
set_option maxRecDepth 20000 in
theorem dX12_has_10 : decode cX12_has 10 = .ok (.goto 4, 3) := by decide +kernel
set_option maxRecDepth 20000 in
theorem dX12_has_13 : decode cX12_has 13 = .ok (.iconst 0, 1) := by decide +kernel
set_option maxRecDepth 20000 in
theorem dX12_has_14 : decode cX12_has 14 = .ok (.ireturn, 1) := by decide +kernel
set_option maxRecDepth 20000 in
theorem kt_X12_has_0 (g : gx_T) : ∀ q ∈ k_X12_has_0, gx_E g gc_md RX12 cX12_has 3 (some .boolean) "has" q.1 q.2 := List.forall_mem_cons.mpr ⟨(gs_iload_n dX12_has_0 rfl), List.forall_mem_cons.mpr ⟨
  (gs_iload_n dX12_has_1 rfl), List.forall_mem_cons.mpr ⟨
  (gs_ishr dX12_has_2), List.forall_mem_cons.mpr ⟨
  (gs_iconst dX12_has_3 rfl), List.forall_mem_cons.mpr ⟨
  (gs_iand dX12_has_4), List.forall_mem_cons.mpr ⟨
  (gs_iconst dX12_has_5 rfl), List.forall_mem_cons.mpr ⟨
  (gs_icmp_ne dX12_has_6 rfl), List.forall_mem_cons.mpr ⟨
  (gs_iconst dX12_has_9 rfl), List.forall_mem_cons.mpr ⟨
  (gs_goto dX12_has_10 rfl), List.forall_mem_cons.mpr ⟨
  (gs_iconst dX12_has_13 rfl), List.forall_mem_cons.mpr ⟨
  (gs_rn dX12_has_14 (by decide)), fun _ h => absurd h List.not_mem_nil⟩⟩⟩⟩⟩⟩⟩⟩⟩⟩⟩
theorem kt_X12_has (g : gx_T) : ∀ q ∈ k_X12_has, gx_E g gc_md RX12 cX12_has 3 (some .boolean) "has" q.1 q.2 := kt_X12_has_0 g
set_option maxRecDepth 20000 in
theorem dX12_least_0 : decode cX12_least 0 = .ok (.iload_n 1, 1) := by decide +kernel
set_option maxRecDepth 20000 in
theorem dX12_least_1 : decode cX12_least 1 = .ok (.iload_n 2, 1) := by decide +kernel
set_option maxRecDepth 20000 in
theorem dX12_least_2 : decode cX12_least 2 = .ok (.if_icmp .ge 7, 3) := by decide +kernel
set_option maxRecDepth 20000 in
theorem dX12_least_5 : decode cX12_least 5 = .ok (.iload_n 1, 1) := by decide +kernel
set_option maxRecDepth 20000 in
theorem dX12_least_6 : decode cX12_least 6 = .ok (.goto 4, 3) := by decide +kernel
set_option maxRecDepth 20000 in
theorem dX12_least_9 : decode cX12_least 9 = .ok (.iload_n 2, 1) := by decide +kernel
set_option maxRecDepth 20000 in
theorem dX12_least_10 : decode cX12_least 10 = .ok (.ireturn, 1) := by decide +kernel
set_option maxRecDepth 20000 in
theorem kt_X12_least_0 (g : gx_T) : ∀ q ∈ k_X12_least_0, gx_E g gc_md RX12 cX12_least 3 (some .int) "least" q.1 q.2 := List.forall_mem_cons.mpr ⟨(gs_iload_n dX12_least_0 rfl), List.forall_mem_cons.mpr ⟨
  (gs_iload_n dX12_least_1 rfl), List.forall_mem_cons.mpr ⟨
  (gs_icmp_ge dX12_least_2 rfl), List.forall_mem_cons.mpr ⟨
  (gs_iload_n dX12_least_5 rfl), List.forall_mem_cons.mpr ⟨
  (gs_goto dX12_least_6 rfl), List.forall_mem_cons.mpr ⟨
  (gs_iload_n dX12_least_9 rfl), List.forall_mem_cons.mpr ⟨
  (gs_ri dX12_least_10), fun _ h => absurd h List.not_mem_nil⟩⟩⟩⟩⟩⟩⟩
theorem kt_X12_least (g : gx_T) : ∀ q ∈ k_X12_least, gx_E g gc_md RX12 cX12_least 3 (some .int) "least" q.1 q.2 := kt_X12_least_0 g
set_option maxRecDepth 20000 in
theorem dX12_bits_0 : decode cX12_bits 0 = .ok (.iconst 0, 1) := by decide +kernel
set_option maxRecDepth 20000 in
theorem dX12_bits_1 : decode cX12_bits 1 = .ok (.istore_n 2, 1) := by decide +kernel
set_option maxRecDepth 20000 in
theorem dX12_bits_2 : decode cX12_bits 2 = .ok (.iconst 0, 1) := by decide +kernel
set_option maxRecDepth 20000 in
theorem dX12_bits_3 : decode cX12_bits 3 = .ok (.istore_n 3, 1) := by decide +kernel
set_option maxRecDepth 20000 in
theorem dX12_bits_4 : decode cX12_bits 4 = .ok (.iload_n 3, 1) := by decide +kernel
set_option maxRecDepth 20000 in
theorem dX12_bits_5 : decode cX12_bits 5 = .ok (.bipush 8, 2) := by decide +kernel
set_option maxRecDepth 20000 in
theorem dX12_bits_7 : decode cX12_bits 7 = .ok (.if_icmp .ge 26, 3) := by decide +kernel
set_option maxRecDepth 20000 in
theorem dX12_bits_10 : decode cX12_bits 10 = .ok (.iload_n 2, 1) := by decide +kernel
set_option maxRecDepth 20000 in
theorem dX12_bits_11 : decode cX12_bits 11 = .ok (.aload_n 0, 1) := by decide +kernel
set_option maxRecDepth 20000 in
theorem dX12_bits_12 : decode cX12_bits 12 = .ok (.iload_n 1, 1) := by decide +kernel
set_option maxRecDepth 20000 in
theorem dX12_bits_13 : decode cX12_bits 13 = .ok (.iload_n 3, 1) := by decide +kernel
set_option maxRecDepth 20000 in
theorem dX12_bits_14 : decode cX12_bits 14 = .ok (.invokevirtual 251, 3) := by decide +kernel
set_option maxRecDepth 20000 in
theorem dX12_bits_17 : decode cX12_bits 17 = .ok (.ifCond .eq 7, 3) := by decide +kernel
set_option maxRecDepth 20000 in
theorem dX12_bits_20 : decode cX12_bits 20 = .ok (.iconst 1, 1) := by decide +kernel
set_option maxRecDepth 20000 in
theorem dX12_bits_21 : decode cX12_bits 21 = .ok (.goto 4, 3) := by decide +kernel
set_option maxRecDepth 20000 in
theorem dX12_bits_24 : decode cX12_bits 24 = .ok (.iconst 0, 1) := by decide +kernel
set_option maxRecDepth 20000 in
theorem dX12_bits_25 : decode cX12_bits 25 = .ok (.iadd, 1) := by decide +kernel
set_option maxRecDepth 20000 in
theorem dX12_bits_26 : decode cX12_bits 26 = .ok (.istore_n 2, 1) := by decide +kernel
set_option maxRecDepth 20000 in
theorem dX12_bits_27 : decode cX12_bits 27 = .ok (.iinc 3 1, 3) := by decide +kernel
set_option maxRecDepth 20000 in
theorem dX12_bits_30 : decode cX12_bits 30 = .ok (.goto (-26), 3) := by decide +kernel
set_option maxRecDepth 20000 in
theorem dX12_bits_33 : decode cX12_bits 33 = .ok (.iload_n 2, 1) := by decide +kernel
set_option maxRecDepth 20000 in
theorem dX12_bits_34 : decode cX12_bits 34 = .ok (.ireturn, 1) := by decide +kernel
set_option maxRecDepth 20000 in
theorem kt_X12_bits_0 (g : gx_T) : ∀ q ∈ k_X12_bits_0, gx_E g gc_md RX12 cX12_bits 4 (some .int) "bits" q.1 q.2 := List.forall_mem_cons.mpr ⟨(gs_iconst dX12_bits_0 rfl), List.forall_mem_cons.mpr ⟨
  (gs_istore_n dX12_bits_1 rfl), List.forall_mem_cons.mpr ⟨
  (gs_iconst dX12_bits_2 rfl), List.forall_mem_cons.mpr ⟨
  (gs_istore_n dX12_bits_3 rfl), List.forall_mem_cons.mpr ⟨
  (gs_iload_n dX12_bits_4 rfl), List.forall_mem_cons.mpr ⟨
  (gs_bipush dX12_bits_5 rfl), List.forall_mem_cons.mpr ⟨
  (gs_icmp_ge dX12_bits_7 rfl), List.forall_mem_cons.mpr ⟨
  (gs_iload_n dX12_bits_10 rfl), List.forall_mem_cons.mpr ⟨
  (gs_aload_n dX12_bits_11 rfl), List.forall_mem_cons.mpr ⟨
  (gs_iload_n dX12_bits_12 rfl), List.forall_mem_cons.mpr ⟨
  (gs_iload_n dX12_bits_13 rfl), List.forall_mem_cons.mpr ⟨
  (gs_cv dX12_bits_14 (fun q hq => by
      simp only [List.mem_cons, List.not_mem_nil, or_false] at hq
      subst hq
      exact Or.inl ⟨_, rfl, by decide, by decide +kernel, by decide +kernel, List.forall_mem_cons.mpr ⟨gx_mem 1433 (by decide +kernel) (by decide +kernel), List.forall_mem_cons.mpr ⟨gx_mem 1435 (by decide +kernel) (by decide +kernel), List.forall_mem_cons.mpr ⟨gx_mem 59 (by decide +kernel) (by decide +kernel), List.forall_mem_cons.mpr ⟨gx_mem 96 (by decide +kernel) (by decide +kernel), List.forall_mem_cons.mpr ⟨cw_1436, fun _ h => absurd h List.not_mem_nil⟩⟩⟩⟩⟩⟩)), List.forall_mem_cons.mpr ⟨
  (gs_if_eq dX12_bits_17 rfl), List.forall_mem_cons.mpr ⟨
  (gs_iconst dX12_bits_20 rfl), List.forall_mem_cons.mpr ⟨
  (gs_goto dX12_bits_21 rfl), List.forall_mem_cons.mpr ⟨
  (gs_iconst dX12_bits_24 rfl), List.forall_mem_cons.mpr ⟨
  (gs_iadd dX12_bits_25), List.forall_mem_cons.mpr ⟨
  (gs_istore_n dX12_bits_26 rfl), List.forall_mem_cons.mpr ⟨
  (gs_iinc dX12_bits_27), List.forall_mem_cons.mpr ⟨
  (gs_goto dX12_bits_30 rfl), List.forall_mem_cons.mpr ⟨
  (gs_iload_n dX12_bits_33 rfl), List.forall_mem_cons.mpr ⟨
  (gs_ri dX12_bits_34), fun _ h => absurd h List.not_mem_nil⟩⟩⟩⟩⟩⟩⟩⟩⟩⟩⟩⟩⟩⟩⟩⟩⟩⟩⟩⟩⟩⟩
theorem kt_X12_bits (g : gx_T) : ∀ q ∈ k_X12_bits, gx_E g gc_md RX12 cX12_bits 4 (some .int) "bits" q.1 q.2 := kt_X12_bits_0 g
set_option maxRecDepth 20000 in
theorem dX12_isCrane_0 : decode cX12_isCrane 0 = .ok (.aload_n 0, 1) := by decide +kernel
set_option maxRecDepth 20000 in
theorem dX12_isCrane_1 : decode cX12_isCrane 1 = .ok (.iload_n 1, 1) := by decide +kernel
set_option maxRecDepth 20000 in
theorem dX12_isCrane_2 : decode cX12_isCrane 2 = .ok (.iconst 0, 1) := by decide +kernel
set_option maxRecDepth 20000 in
theorem dX12_isCrane_3 : decode cX12_isCrane 3 = .ok (.aload_n 0, 1) := by decide +kernel
set_option maxRecDepth 20000 in
theorem dX12_isCrane_4 : decode cX12_isCrane 4 = .ok (.getfield 7, 3) := by decide +kernel
set_option maxRecDepth 20000 in
theorem dX12_isCrane_7 : decode cX12_isCrane 7 = .ok (.iconst 1, 1) := by decide +kernel
set_option maxRecDepth 20000 in
theorem dX12_isCrane_8 : decode cX12_isCrane 8 = .ok (.isub, 1) := by decide +kernel
set_option maxRecDepth 20000 in
theorem dX12_isCrane_9 : decode cX12_isCrane 9 = .ok (.invokevirtual 255, 3) := by decide +kernel
set_option maxRecDepth 20000 in
theorem dX12_isCrane_12 : decode cX12_isCrane 12 = .ok (.ireturn, 1) := by decide +kernel
set_option maxRecDepth 20000 in
theorem kt_X12_isCrane_0 (g : gx_T) : ∀ q ∈ k_X12_isCrane_0, gx_E g gc_md RX12 cX12_isCrane 2 (some .boolean) "isCrane" q.1 q.2 := List.forall_mem_cons.mpr ⟨(gs_aload_n dX12_isCrane_0 rfl), List.forall_mem_cons.mpr ⟨
  (gs_iload_n dX12_isCrane_1 rfl), List.forall_mem_cons.mpr ⟨
  (gs_iconst dX12_isCrane_2 rfl), List.forall_mem_cons.mpr ⟨
  (gs_aload_n dX12_isCrane_3 rfl), List.forall_mem_cons.mpr ⟨
  (gs_gf (ref := "GriefCranesModel") dX12_isCrane_4 (gx_mem 997 (by decide +kernel) (by decide +kernel)) (Or.inl rfl) gf_12_0), List.forall_mem_cons.mpr ⟨
  (gs_iconst dX12_isCrane_7 rfl), List.forall_mem_cons.mpr ⟨
  (gs_isub dX12_isCrane_8), List.forall_mem_cons.mpr ⟨
  (gs_cv dX12_isCrane_9 (fun q hq => by
      simp only [List.mem_cons, List.not_mem_nil, or_false] at hq
      subst hq
      exact Or.inl ⟨_, rfl, by decide, by decide +kernel, by decide +kernel, List.forall_mem_cons.mpr ⟨gx_mem 1240 (by decide +kernel) (by decide +kernel), List.forall_mem_cons.mpr ⟨gx_mem 1242 (by decide +kernel) (by decide +kernel), List.forall_mem_cons.mpr ⟨gx_mem 21 (by decide +kernel) (by decide +kernel), List.forall_mem_cons.mpr ⟨gx_mem 96 (by decide +kernel) (by decide +kernel), List.forall_mem_cons.mpr ⟨cw_1243, fun _ h => absurd h List.not_mem_nil⟩⟩⟩⟩⟩⟩)), List.forall_mem_cons.mpr ⟨
  (gs_rn dX12_isCrane_12 (by decide)), fun _ h => absurd h List.not_mem_nil⟩⟩⟩⟩⟩⟩⟩⟩⟩
theorem kt_X12_isCrane (g : gx_T) : ∀ q ∈ k_X12_isCrane, gx_E g gc_md RX12 cX12_isCrane 2 (some .boolean) "isCrane" q.1 q.2 := kt_X12_isCrane_0 g
set_option maxRecDepth 20000 in
theorem dX12_isThing_0 : decode cX12_isThing 0 = .ok (.aload_n 0, 1) := by decide +kernel
set_option maxRecDepth 20000 in
theorem dX12_isThing_1 : decode cX12_isThing 1 = .ok (.iload_n 1, 1) := by decide +kernel
set_option maxRecDepth 20000 in
theorem dX12_isThing_2 : decode cX12_isThing 2 = .ok (.iconst 0, 1) := by decide +kernel
set_option maxRecDepth 20000 in
theorem dX12_isThing_3 : decode cX12_isThing 3 = .ok (.aload_n 0, 1) := by decide +kernel
set_option maxRecDepth 20000 in
theorem dX12_isThing_4 : decode cX12_isThing 4 = .ok (.getfield 13, 3) := by decide +kernel
set_option maxRecDepth 20000 in
theorem dX12_isThing_7 : decode cX12_isThing 7 = .ok (.iconst 1, 1) := by decide +kernel
set_option maxRecDepth 20000 in
theorem dX12_isThing_8 : decode cX12_isThing 8 = .ok (.isub, 1) := by decide +kernel
set_option maxRecDepth 20000 in
theorem dX12_isThing_9 : decode cX12_isThing 9 = .ok (.invokevirtual 255, 3) := by decide +kernel
set_option maxRecDepth 20000 in
theorem dX12_isThing_12 : decode cX12_isThing 12 = .ok (.ireturn, 1) := by decide +kernel
set_option maxRecDepth 20000 in
theorem kt_X12_isThing_0 (g : gx_T) : ∀ q ∈ k_X12_isThing_0, gx_E g gc_md RX12 cX12_isThing 2 (some .boolean) "isThing" q.1 q.2 := List.forall_mem_cons.mpr ⟨(gs_aload_n dX12_isThing_0 rfl), List.forall_mem_cons.mpr ⟨
  (gs_iload_n dX12_isThing_1 rfl), List.forall_mem_cons.mpr ⟨
  (gs_iconst dX12_isThing_2 rfl), List.forall_mem_cons.mpr ⟨
  (gs_aload_n dX12_isThing_3 rfl), List.forall_mem_cons.mpr ⟨
  (gs_gf (ref := "GriefCranesModel") dX12_isThing_4 (gx_mem 998 (by decide +kernel) (by decide +kernel)) (Or.inl rfl) gf_12_1), List.forall_mem_cons.mpr ⟨
  (gs_iconst dX12_isThing_7 rfl), List.forall_mem_cons.mpr ⟨
  (gs_isub dX12_isThing_8), List.forall_mem_cons.mpr ⟨
  (gs_cv dX12_isThing_9 (fun q hq => by
      simp only [List.mem_cons, List.not_mem_nil, or_false] at hq
      subst hq
      exact Or.inl ⟨_, rfl, by decide, by decide +kernel, by decide +kernel, List.forall_mem_cons.mpr ⟨gx_mem 1240 (by decide +kernel) (by decide +kernel), List.forall_mem_cons.mpr ⟨gx_mem 1242 (by decide +kernel) (by decide +kernel), List.forall_mem_cons.mpr ⟨gx_mem 21 (by decide +kernel) (by decide +kernel), List.forall_mem_cons.mpr ⟨gx_mem 96 (by decide +kernel) (by decide +kernel), List.forall_mem_cons.mpr ⟨cw_1243, fun _ h => absurd h List.not_mem_nil⟩⟩⟩⟩⟩⟩)), List.forall_mem_cons.mpr ⟨
  (gs_rn dX12_isThing_12 (by decide)), fun _ h => absurd h List.not_mem_nil⟩⟩⟩⟩⟩⟩⟩⟩⟩
theorem kt_X12_isThing (g : gx_T) : ∀ q ∈ k_X12_isThing, gx_E g gc_md RX12 cX12_isThing 2 (some .boolean) "isThing" q.1 q.2 := kt_X12_isThing_0 g
set_option maxRecDepth 20000 in
theorem dX12_isGrief_0 : decode cX12_isGrief 0 = .ok (.aload_n 0, 1) := by decide +kernel
set_option maxRecDepth 20000 in
theorem dX12_isGrief_1 : decode cX12_isGrief 1 = .ok (.iload_n 1, 1) := by decide +kernel
set_option maxRecDepth 20000 in
theorem dX12_isGrief_2 : decode cX12_isGrief 2 = .ok (.iconst 0, 1) := by decide +kernel
set_option maxRecDepth 20000 in
theorem dX12_isGrief_3 : decode cX12_isGrief 3 = .ok (.bipush 99, 2) := by decide +kernel
set_option maxRecDepth 20000 in
theorem dX12_isGrief_5 : decode cX12_isGrief 5 = .ok (.invokevirtual 255, 3) := by decide +kernel
set_option maxRecDepth 20000 in
theorem dX12_isGrief_8 : decode cX12_isGrief 8 = .ok (.ireturn, 1) := by decide +kernel
set_option maxRecDepth 20000 in
theorem kt_X12_isGrief_0 (g : gx_T) : ∀ q ∈ k_X12_isGrief_0, gx_E g gc_md RX12 cX12_isGrief 2 (some .boolean) "isGrief" q.1 q.2 := List.forall_mem_cons.mpr ⟨(gs_aload_n dX12_isGrief_0 rfl), List.forall_mem_cons.mpr ⟨
  (gs_iload_n dX12_isGrief_1 rfl), List.forall_mem_cons.mpr ⟨
  (gs_iconst dX12_isGrief_2 rfl), List.forall_mem_cons.mpr ⟨
  (gs_bipush dX12_isGrief_3 rfl), List.forall_mem_cons.mpr ⟨
  (gs_cv dX12_isGrief_5 (fun q hq => by
      simp only [List.mem_cons, List.not_mem_nil, or_false] at hq
      subst hq
      exact Or.inl ⟨_, rfl, by decide, by decide +kernel, by decide +kernel, List.forall_mem_cons.mpr ⟨gx_mem 1240 (by decide +kernel) (by decide +kernel), List.forall_mem_cons.mpr ⟨gx_mem 1242 (by decide +kernel) (by decide +kernel), List.forall_mem_cons.mpr ⟨gx_mem 21 (by decide +kernel) (by decide +kernel), List.forall_mem_cons.mpr ⟨gx_mem 96 (by decide +kernel) (by decide +kernel), List.forall_mem_cons.mpr ⟨cw_1243, fun _ h => absurd h List.not_mem_nil⟩⟩⟩⟩⟩⟩)), List.forall_mem_cons.mpr ⟨
  (gs_rn dX12_isGrief_8 (by decide)), fun _ h => absurd h List.not_mem_nil⟩⟩⟩⟩⟩⟩
theorem kt_X12_isGrief (g : gx_T) : ∀ q ∈ k_X12_isGrief, gx_E g gc_md RX12 cX12_isGrief 2 (some .boolean) "isGrief" q.1 q.2 := kt_X12_isGrief_0 g
set_option maxRecDepth 20000 in
theorem dX12_isHours_0 : decode cX12_isHours 0 = .ok (.aload_n 0, 1) := by decide +kernel
set_option maxRecDepth 20000 in
theorem dX12_isHours_1 : decode cX12_isHours 1 = .ok (.iload_n 1, 1) := by decide +kernel
set_option maxRecDepth 20000 in
theorem dX12_isHours_2 : decode cX12_isHours 2 = .ok (.iconst 0, 1) := by decide +kernel
set_option maxRecDepth 20000 in
theorem dX12_isHours_3 : decode cX12_isHours 3 = .ok (.bipush 60, 2) := by decide +kernel
set_option maxRecDepth 20000 in
theorem dX12_isHours_5 : decode cX12_isHours 5 = .ok (.invokevirtual 255, 3) := by decide +kernel
set_option maxRecDepth 20000 in
theorem dX12_isHours_8 : decode cX12_isHours 8 = .ok (.ireturn, 1) := by decide +kernel
set_option maxRecDepth 20000 in
theorem kt_X12_isHours_0 (g : gx_T) : ∀ q ∈ k_X12_isHours_0, gx_E g gc_md RX12 cX12_isHours 2 (some .boolean) "isHours" q.1 q.2 := List.forall_mem_cons.mpr ⟨(gs_aload_n dX12_isHours_0 rfl), List.forall_mem_cons.mpr ⟨
  (gs_iload_n dX12_isHours_1 rfl), List.forall_mem_cons.mpr ⟨
  (gs_iconst dX12_isHours_2 rfl), List.forall_mem_cons.mpr ⟨
  (gs_bipush dX12_isHours_3 rfl), List.forall_mem_cons.mpr ⟨
  (gs_cv dX12_isHours_5 (fun q hq => by
      simp only [List.mem_cons, List.not_mem_nil, or_false] at hq
      subst hq
      exact Or.inl ⟨_, rfl, by decide, by decide +kernel, by decide +kernel, List.forall_mem_cons.mpr ⟨gx_mem 1240 (by decide +kernel) (by decide +kernel), List.forall_mem_cons.mpr ⟨gx_mem 1242 (by decide +kernel) (by decide +kernel), List.forall_mem_cons.mpr ⟨gx_mem 21 (by decide +kernel) (by decide +kernel), List.forall_mem_cons.mpr ⟨gx_mem 96 (by decide +kernel) (by decide +kernel), List.forall_mem_cons.mpr ⟨cw_1243, fun _ h => absurd h List.not_mem_nil⟩⟩⟩⟩⟩⟩)), List.forall_mem_cons.mpr ⟨
  (gs_rn dX12_isHours_8 (by decide)), fun _ h => absurd h List.not_mem_nil⟩⟩⟩⟩⟩⟩
theorem kt_X12_isHours (g : gx_T) : ∀ q ∈ k_X12_isHours, gx_E g gc_md RX12 cX12_isHours 2 (some .boolean) "isHours" q.1 q.2 := kt_X12_isHours_0 g
set_option maxRecDepth 20000 in
theorem dX12_crane_0 : decode cX12_crane 0 = .ok (.aload_n 0, 1) := by decide +kernel
set_option maxRecDepth 20000 in
theorem dX12_crane_1 : decode cX12_crane 1 = .ok (.iload_n 1, 1) := by decide +kernel
set_option maxRecDepth 20000 in
theorem dX12_crane_2 : decode cX12_crane 2 = .ok (.iconst 0, 1) := by decide +kernel
set_option maxRecDepth 20000 in
theorem dX12_crane_3 : decode cX12_crane 3 = .ok (.bipush 6, 2) := by decide +kernel
set_option maxRecDepth 20000 in
theorem dX12_crane_5 : decode cX12_crane 5 = .ok (.invokevirtual 255, 3) := by decide +kernel
set_option maxRecDepth 20000 in
theorem dX12_crane_8 : decode cX12_crane 8 = .ok (.ifCond .ne 5, 3) := by decide +kernel
set_option maxRecDepth 20000 in
theorem dX12_crane_11 : decode cX12_crane 11 = .ok (.iconst (-1), 1) := by decide +kernel
set_option maxRecDepth 20000 in
theorem dX12_crane_12 : decode cX12_crane 12 = .ok (.ireturn, 1) := by decide +kernel
set_option maxRecDepth 20000 in
theorem dX12_crane_13 : decode cX12_crane 13 = .ok (.aload_n 0, 1) := by decide +kernel
set_option maxRecDepth 20000 in
theorem dX12_crane_14 : decode cX12_crane 14 = .ok (.iload_n 2, 1) := by decide +kernel
set_option maxRecDepth 20000 in
theorem dX12_crane_15 : decode cX12_crane 15 = .ok (.iconst 0, 1) := by decide +kernel
set_option maxRecDepth 20000 in
theorem dX12_crane_16 : decode cX12_crane 16 = .ok (.bipush 9, 2) := by decide +kernel
set_option maxRecDepth 20000 in
theorem dX12_crane_18 : decode cX12_crane 18 = .ok (.invokevirtual 255, 3) := by decide +kernel
set_option maxRecDepth 20000 in
theorem dX12_crane_21 : decode cX12_crane 21 = .ok (.ifCond .ne 6, 3) := by decide +kernel
set_option maxRecDepth 20000 in
theorem dX12_crane_24 : decode cX12_crane 24 = .ok (.bipush (-2), 2) := by decide +kernel
set_option maxRecDepth 20000 in
theorem dX12_crane_26 : decode cX12_crane 26 = .ok (.ireturn, 1) := by decide +kernel
set_option maxRecDepth 20000 in
theorem dX12_crane_27 : decode cX12_crane 27 = .ok (.aload_n 0, 1) := by decide +kernel
set_option maxRecDepth 20000 in
theorem dX12_crane_28 : decode cX12_crane 28 = .ok (.getfield 7, 3) := by decide +kernel
set_option maxRecDepth 20000 in
theorem dX12_crane_31 : decode cX12_crane 31 = .ok (.bipush 6, 2) := by decide +kernel
set_option maxRecDepth 20000 in
theorem dX12_crane_33 : decode cX12_crane 33 = .ok (.if_icmp .ne 6, 3) := by decide +kernel
set_option maxRecDepth 20000 in
theorem dX12_crane_36 : decode cX12_crane 36 = .ok (.bipush (-4), 2) := by decide +kernel
set_option maxRecDepth 20000 in
theorem dX12_crane_38 : decode cX12_crane 38 = .ok (.ireturn, 1) := by decide +kernel
set_option maxRecDepth 20000 in
theorem dX12_crane_39 : decode cX12_crane 39 = .ok (.aload_n 0, 1) := by decide +kernel
set_option maxRecDepth 20000 in
theorem dX12_crane_40 : decode cX12_crane 40 = .ok (.getfield 23, 3) := by decide +kernel
set_option maxRecDepth 20000 in
theorem dX12_crane_43 : decode cX12_crane 43 = .ok (.aload_n 0, 1) := by decide +kernel
set_option maxRecDepth 20000 in
theorem dX12_crane_44 : decode cX12_crane 44 = .ok (.getfield 7, 3) := by decide +kernel
set_option maxRecDepth 20000 in
theorem dX12_crane_47 : decode cX12_crane 47 = .ok (.iload_n 1, 1) := by decide +kernel
set_option maxRecDepth 20000 in
theorem dX12_crane_48 : decode cX12_crane 48 = .ok (.iastore, 1) := by decide +kernel
set_option maxRecDepth 20000 in
theorem dX12_crane_49 : decode cX12_crane 49 = .ok (.aload_n 0, 1) := by decide +kernel
set_option maxRecDepth 20000 in
theorem dX12_crane_50 : decode cX12_crane 50 = .ok (.getfield 26, 3) := by decide +kernel
set_option maxRecDepth 20000 in
theorem dX12_crane_53 : decode cX12_crane 53 = .ok (.aload_n 0, 1) := by decide +kernel
set_option maxRecDepth 20000 in
theorem dX12_crane_54 : decode cX12_crane 54 = .ok (.getfield 7, 3) := by decide +kernel
set_option maxRecDepth 20000 in
theorem dX12_crane_57 : decode cX12_crane 57 = .ok (.iload_n 2, 1) := by decide +kernel
set_option maxRecDepth 20000 in
theorem dX12_crane_58 : decode cX12_crane 58 = .ok (.iastore, 1) := by decide +kernel
set_option maxRecDepth 20000 in
theorem dX12_crane_59 : decode cX12_crane 59 = .ok (.aload_n 0, 1) := by decide +kernel
set_option maxRecDepth 20000 in
theorem dX12_crane_60 : decode cX12_crane 60 = .ok (.getfield 29, 3) := by decide +kernel
set_option maxRecDepth 20000 in
theorem dX12_crane_63 : decode cX12_crane 63 = .ok (.aload_n 0, 1) := by decide +kernel
set_option maxRecDepth 20000 in
theorem dX12_crane_64 : decode cX12_crane 64 = .ok (.getfield 7, 3) := by decide +kernel
set_option maxRecDepth 20000 in
theorem dX12_crane_67 : decode cX12_crane 67 = .ok (.iconst 0, 1) := by decide +kernel
set_option maxRecDepth 20000 in
theorem dX12_crane_68 : decode cX12_crane 68 = .ok (.iastore, 1) := by decide +kernel
set_option maxRecDepth 20000 in
theorem dX12_crane_69 : decode cX12_crane 69 = .ok (.iconst 0, 1) := by decide +kernel
set_option maxRecDepth 20000 in
theorem dX12_crane_70 : decode cX12_crane 70 = .ok (.istore_n 3, 1) := by decide +kernel
set_option maxRecDepth 20000 in
theorem dX12_crane_71 : decode cX12_crane 71 = .ok (.iload_n 3, 1) := by decide +kernel
set_option maxRecDepth 20000 in
theorem dX12_crane_72 : decode cX12_crane 72 = .ok (.iconst 4, 1) := by decide +kernel
set_option maxRecDepth 20000 in
theorem dX12_crane_73 : decode cX12_crane 73 = .ok (.if_icmp .ge 23, 3) := by decide +kernel
set_option maxRecDepth 20000 in
theorem dX12_crane_76 : decode cX12_crane 76 = .ok (.aload_n 0, 1) := by decide +kernel
set_option maxRecDepth 20000 in
theorem dX12_crane_77 : decode cX12_crane 77 = .ok (.getfield 32, 3) := by decide +kernel
set_option maxRecDepth 20000 in
theorem dX12_crane_80 : decode cX12_crane 80 = .ok (.iconst 4, 1) := by decide +kernel
set_option maxRecDepth 20000 in
theorem dX12_crane_81 : decode cX12_crane 81 = .ok (.aload_n 0, 1) := by decide +kernel
set_option maxRecDepth 20000 in
theorem dX12_crane_82 : decode cX12_crane 82 = .ok (.getfield 7, 3) := by decide +kernel
set_option maxRecDepth 20000 in
theorem dX12_crane_85 : decode cX12_crane 85 = .ok (.imul, 1) := by decide +kernel
set_option maxRecDepth 20000 in
theorem dX12_crane_86 : decode cX12_crane 86 = .ok (.iload_n 3, 1) := by decide +kernel
set_option maxRecDepth 20000 in
theorem dX12_crane_87 : decode cX12_crane 87 = .ok (.iadd, 1) := by decide +kernel
set_option maxRecDepth 20000 in
theorem dX12_crane_88 : decode cX12_crane 88 = .ok (.iconst 0, 1) := by decide +kernel
set_option maxRecDepth 20000 in
theorem dX12_crane_89 : decode cX12_crane 89 = .ok (.iastore, 1) := by decide +kernel
set_option maxRecDepth 20000 in
theorem dX12_crane_90 : decode cX12_crane 90 = .ok (.iinc 3 1, 3) := by decide +kernel
set_option maxRecDepth 20000 in
theorem dX12_crane_93 : decode cX12_crane 93 = .ok (.goto (-22), 3) := by decide +kernel
set_option maxRecDepth 20000 in
theorem dX12_crane_96 : decode cX12_crane 96 = .ok (.aload_n 0, 1) := by decide +kernel
set_option maxRecDepth 20000 in
theorem dX12_crane_97 : decode cX12_crane 97 = .ok (.dup, 1) := by decide +kernel
set_option maxRecDepth 20000 in
theorem dX12_crane_98 : decode cX12_crane 98 = .ok (.getfield 7, 3) := by decide +kernel
set_option maxRecDepth 20000 in
theorem dX12_crane_101 : decode cX12_crane 101 = .ok (.iconst 1, 1) := by decide +kernel
set_option maxRecDepth 20000 in
theorem dX12_crane_102 : decode cX12_crane 102 = .ok (.iadd, 1) := by decide +kernel
set_option maxRecDepth 20000 in
theorem dX12_crane_103 : decode cX12_crane 103 = .ok (.putfield 7, 3) := by decide +kernel
set_option maxRecDepth 20000 in
theorem dX12_crane_106 : decode cX12_crane 106 = .ok (.aload_n 0, 1) := by decide +kernel
set_option maxRecDepth 20000 in
theorem dX12_crane_107 : decode cX12_crane 107 = .ok (.getfield 7, 3) := by decide +kernel
set_option maxRecDepth 20000 in
theorem dX12_crane_110 : decode cX12_crane 110 = .ok (.iconst 1, 1) := by decide +kernel
set_option maxRecDepth 20000 in
theorem dX12_crane_111 : decode cX12_crane 111 = .ok (.isub, 1) := by decide +kernel
set_option maxRecDepth 20000 in
theorem dX12_crane_112 : decode cX12_crane 112 = .ok (.ireturn, 1) := by decide +kernel
set_option maxRecDepth 20000 in
theorem kt_X12_crane_0 (g : gx_T) : ∀ q ∈ k_X12_crane_0, gx_E g gc_md RX12 cX12_crane 4 (some .int) "crane" q.1 q.2 := List.forall_mem_cons.mpr ⟨(gs_aload_n dX12_crane_0 rfl), List.forall_mem_cons.mpr ⟨
  (gs_iload_n dX12_crane_1 rfl), List.forall_mem_cons.mpr ⟨
  (gs_iconst dX12_crane_2 rfl), List.forall_mem_cons.mpr ⟨
  (gs_bipush dX12_crane_3 rfl), List.forall_mem_cons.mpr ⟨
  (gs_cv dX12_crane_5 (fun q hq => by
      simp only [List.mem_cons, List.not_mem_nil, or_false] at hq
      subst hq
      exact Or.inl ⟨_, rfl, by decide, by decide +kernel, by decide +kernel, List.forall_mem_cons.mpr ⟨gx_mem 1240 (by decide +kernel) (by decide +kernel), List.forall_mem_cons.mpr ⟨gx_mem 1242 (by decide +kernel) (by decide +kernel), List.forall_mem_cons.mpr ⟨gx_mem 21 (by decide +kernel) (by decide +kernel), List.forall_mem_cons.mpr ⟨gx_mem 96 (by decide +kernel) (by decide +kernel), List.forall_mem_cons.mpr ⟨cw_1243, fun _ h => absurd h List.not_mem_nil⟩⟩⟩⟩⟩⟩)), List.forall_mem_cons.mpr ⟨
  (gs_if_ne dX12_crane_8 rfl), List.forall_mem_cons.mpr ⟨
  (gs_iconst dX12_crane_11 rfl), List.forall_mem_cons.mpr ⟨
  (gs_ri dX12_crane_12), List.forall_mem_cons.mpr ⟨
  (gs_aload_n dX12_crane_13 rfl), List.forall_mem_cons.mpr ⟨
  (gs_iload_n dX12_crane_14 rfl), List.forall_mem_cons.mpr ⟨
  (gs_iconst dX12_crane_15 rfl), List.forall_mem_cons.mpr ⟨
  (gs_bipush dX12_crane_16 rfl), List.forall_mem_cons.mpr ⟨
  (gs_cv dX12_crane_18 (fun q hq => by
      simp only [List.mem_cons, List.not_mem_nil, or_false] at hq
      subst hq
      exact Or.inl ⟨_, rfl, by decide, by decide +kernel, by decide +kernel, List.forall_mem_cons.mpr ⟨gx_mem 1240 (by decide +kernel) (by decide +kernel), List.forall_mem_cons.mpr ⟨gx_mem 1242 (by decide +kernel) (by decide +kernel), List.forall_mem_cons.mpr ⟨gx_mem 21 (by decide +kernel) (by decide +kernel), List.forall_mem_cons.mpr ⟨gx_mem 96 (by decide +kernel) (by decide +kernel), List.forall_mem_cons.mpr ⟨cw_1243, fun _ h => absurd h List.not_mem_nil⟩⟩⟩⟩⟩⟩)), List.forall_mem_cons.mpr ⟨
  (gs_if_ne dX12_crane_21 rfl), List.forall_mem_cons.mpr ⟨
  (gs_bipush dX12_crane_24 rfl), List.forall_mem_cons.mpr ⟨
  (gs_ri dX12_crane_26), List.forall_mem_cons.mpr ⟨
  (gs_aload_n dX12_crane_27 rfl), List.forall_mem_cons.mpr ⟨
  (gs_gf (ref := "GriefCranesModel") dX12_crane_28 (gx_mem 997 (by decide +kernel) (by decide +kernel)) (Or.inl rfl) gf_12_0), List.forall_mem_cons.mpr ⟨
  (gs_bipush dX12_crane_31 rfl), List.forall_mem_cons.mpr ⟨
  (gs_icmp_ne dX12_crane_33 rfl), List.forall_mem_cons.mpr ⟨
  (gs_bipush dX12_crane_36 rfl), List.forall_mem_cons.mpr ⟨
  (gs_ri dX12_crane_38), List.forall_mem_cons.mpr ⟨
  (gs_aload_n dX12_crane_39 rfl), List.forall_mem_cons.mpr ⟨
  (gs_gf (ref := "GriefCranesModel") dX12_crane_40 (gx_mem 1001 (by decide +kernel) (by decide +kernel)) (Or.inl rfl) gf_12_4), List.forall_mem_cons.mpr ⟨
  (gs_aload_n dX12_crane_43 rfl), List.forall_mem_cons.mpr ⟨
  (gs_gf (ref := "GriefCranesModel") dX12_crane_44 (gx_mem 997 (by decide +kernel) (by decide +kernel)) (Or.inl rfl) gf_12_0), List.forall_mem_cons.mpr ⟨
  (gs_iload_n dX12_crane_47 rfl), List.forall_mem_cons.mpr ⟨
  (gs_iastore dX12_crane_48), List.forall_mem_cons.mpr ⟨
  (gs_aload_n dX12_crane_49 rfl), List.forall_mem_cons.mpr ⟨
  (gs_gf (ref := "GriefCranesModel") dX12_crane_50 (gx_mem 1002 (by decide +kernel) (by decide +kernel)) (Or.inl rfl) gf_12_5), List.forall_mem_cons.mpr ⟨
  (gs_aload_n dX12_crane_53 rfl), List.forall_mem_cons.mpr ⟨
  (gs_gf (ref := "GriefCranesModel") dX12_crane_54 (gx_mem 997 (by decide +kernel) (by decide +kernel)) (Or.inl rfl) gf_12_0), fun _ h => absurd h List.not_mem_nil⟩⟩⟩⟩⟩⟩⟩⟩⟩⟩⟩⟩⟩⟩⟩⟩⟩⟩⟩⟩⟩⟩⟩⟩⟩⟩⟩⟩⟩⟩⟩⟩
set_option maxRecDepth 20000 in
theorem kt_X12_crane_1 (g : gx_T) : ∀ q ∈ k_X12_crane_1, gx_E g gc_md RX12 cX12_crane 4 (some .int) "crane" q.1 q.2 := List.forall_mem_cons.mpr ⟨(gs_iload_n dX12_crane_57 rfl), List.forall_mem_cons.mpr ⟨
  (gs_iastore dX12_crane_58), List.forall_mem_cons.mpr ⟨
  (gs_aload_n dX12_crane_59 rfl), List.forall_mem_cons.mpr ⟨
  (gs_gf (ref := "GriefCranesModel") dX12_crane_60 (gx_mem 1003 (by decide +kernel) (by decide +kernel)) (Or.inl rfl) gf_12_6), List.forall_mem_cons.mpr ⟨
  (gs_aload_n dX12_crane_63 rfl), List.forall_mem_cons.mpr ⟨
  (gs_gf (ref := "GriefCranesModel") dX12_crane_64 (gx_mem 997 (by decide +kernel) (by decide +kernel)) (Or.inl rfl) gf_12_0), List.forall_mem_cons.mpr ⟨
  (gs_iconst dX12_crane_67 rfl), List.forall_mem_cons.mpr ⟨
  (gs_iastore dX12_crane_68), List.forall_mem_cons.mpr ⟨
  (gs_iconst dX12_crane_69 rfl), List.forall_mem_cons.mpr ⟨
  (gs_istore_n dX12_crane_70 rfl), List.forall_mem_cons.mpr ⟨
  (gs_iload_n dX12_crane_71 rfl), List.forall_mem_cons.mpr ⟨
  (gs_iconst dX12_crane_72 rfl), List.forall_mem_cons.mpr ⟨
  (gs_icmp_ge dX12_crane_73 rfl), List.forall_mem_cons.mpr ⟨
  (gs_aload_n dX12_crane_76 rfl), List.forall_mem_cons.mpr ⟨
  (gs_gf (ref := "GriefCranesModel") dX12_crane_77 (gx_mem 1004 (by decide +kernel) (by decide +kernel)) (Or.inl rfl) gf_12_7), List.forall_mem_cons.mpr ⟨
  (gs_iconst dX12_crane_80 rfl), List.forall_mem_cons.mpr ⟨
  (gs_aload_n dX12_crane_81 rfl), List.forall_mem_cons.mpr ⟨
  (gs_gf (ref := "GriefCranesModel") dX12_crane_82 (gx_mem 997 (by decide +kernel) (by decide +kernel)) (Or.inl rfl) gf_12_0), List.forall_mem_cons.mpr ⟨
  (gs_imul dX12_crane_85), List.forall_mem_cons.mpr ⟨
  (gs_iload_n dX12_crane_86 rfl), List.forall_mem_cons.mpr ⟨
  (gs_iadd dX12_crane_87), List.forall_mem_cons.mpr ⟨
  (gs_iconst dX12_crane_88 rfl), List.forall_mem_cons.mpr ⟨
  (gs_iastore dX12_crane_89), List.forall_mem_cons.mpr ⟨
  (gs_iinc dX12_crane_90), List.forall_mem_cons.mpr ⟨
  (gs_goto dX12_crane_93 rfl), List.forall_mem_cons.mpr ⟨
  (gs_aload_n dX12_crane_96 rfl), List.forall_mem_cons.mpr ⟨
  (gs_dup dX12_crane_97), List.forall_mem_cons.mpr ⟨
  (gs_gf (ref := "GriefCranesModel") dX12_crane_98 (gx_mem 997 (by decide +kernel) (by decide +kernel)) (Or.inl rfl) gf_12_0), List.forall_mem_cons.mpr ⟨
  (gs_iconst dX12_crane_101 rfl), List.forall_mem_cons.mpr ⟨
  (gs_iadd dX12_crane_102), List.forall_mem_cons.mpr ⟨
  (gs_pf (ref := "GriefCranesModel") dX12_crane_103 (gx_mem 997 (by decide +kernel) (by decide +kernel)) (Or.inl rfl) gf_12_0 (by decide +kernel)), List.forall_mem_cons.mpr ⟨
  (gs_aload_n dX12_crane_106 rfl), fun _ h => absurd h List.not_mem_nil⟩⟩⟩⟩⟩⟩⟩⟩⟩⟩⟩⟩⟩⟩⟩⟩⟩⟩⟩⟩⟩⟩⟩⟩⟩⟩⟩⟩⟩⟩⟩⟩
set_option maxRecDepth 20000 in
theorem kt_X12_crane_2 (g : gx_T) : ∀ q ∈ k_X12_crane_2, gx_E g gc_md RX12 cX12_crane 4 (some .int) "crane" q.1 q.2 := List.forall_mem_cons.mpr ⟨(gs_gf (ref := "GriefCranesModel") dX12_crane_107 (gx_mem 997 (by decide +kernel) (by decide +kernel)) (Or.inl rfl) gf_12_0), List.forall_mem_cons.mpr ⟨
  (gs_iconst dX12_crane_110 rfl), List.forall_mem_cons.mpr ⟨
  (gs_isub dX12_crane_111), List.forall_mem_cons.mpr ⟨
  (gs_ri dX12_crane_112), fun _ h => absurd h List.not_mem_nil⟩⟩⟩⟩
theorem kt_X12_crane (g : gx_T) : ∀ q ∈ k_X12_crane, gx_E g gc_md RX12 cX12_crane 4 (some .int) "crane" q.1 q.2 := List.forall_mem_append.mpr ⟨kt_X12_crane_0 g, List.forall_mem_append.mpr ⟨kt_X12_crane_1 g, kt_X12_crane_2 g⟩⟩
set_option maxRecDepth 20000 in
theorem dX12_thing_0 : decode cX12_thing 0 = .ok (.iload_n 2, 1) := by decide +kernel
set_option maxRecDepth 20000 in
theorem dX12_thing_1 : decode cX12_thing 1 = .ok (.iconst (-1), 1) := by decide +kernel
set_option maxRecDepth 20000 in
theorem dX12_thing_2 : decode cX12_thing 2 = .ok (.if_icmp .eq 13, 3) := by decide +kernel
set_option maxRecDepth 20000 in
theorem dX12_thing_5 : decode cX12_thing 5 = .ok (.aload_n 0, 1) := by decide +kernel
set_option maxRecDepth 20000 in
theorem dX12_thing_6 : decode cX12_thing 6 = .ok (.iload_n 2, 1) := by decide +kernel
set_option maxRecDepth 20000 in
theorem dX12_thing_7 : decode cX12_thing 7 = .ok (.invokevirtual 259, 3) := by decide +kernel
set_option maxRecDepth 20000 in
theorem dX12_thing_10 : decode cX12_thing 10 = .ok (.ifCond .ne 5, 3) := by decide +kernel
set_option maxRecDepth 20000 in
theorem dX12_thing_13 : decode cX12_thing 13 = .ok (.iconst (-1), 1) := by decide +kernel
set_option maxRecDepth 20000 in
theorem dX12_thing_14 : decode cX12_thing 14 = .ok (.ireturn, 1) := by decide +kernel
set_option maxRecDepth 20000 in
theorem dX12_thing_15 : decode cX12_thing 15 = .ok (.aload_n 0, 1) := by decide +kernel
set_option maxRecDepth 20000 in
theorem dX12_thing_16 : decode cX12_thing 16 = .ok (.iload_n 1, 1) := by decide +kernel
set_option maxRecDepth 20000 in
theorem dX12_thing_17 : decode cX12_thing 17 = .ok (.invokevirtual 263, 3) := by decide +kernel
set_option maxRecDepth 20000 in
theorem dX12_thing_20 : decode cX12_thing 20 = .ok (.ifCond .ne 6, 3) := by decide +kernel
set_option maxRecDepth 20000 in
theorem dX12_thing_23 : decode cX12_thing 23 = .ok (.bipush (-2), 2) := by decide +kernel
set_option maxRecDepth 20000 in
theorem dX12_thing_25 : decode cX12_thing 25 = .ok (.ireturn, 1) := by decide +kernel
set_option maxRecDepth 20000 in
theorem dX12_thing_26 : decode cX12_thing 26 = .ok (.aload_n 0, 1) := by decide +kernel
set_option maxRecDepth 20000 in
theorem dX12_thing_27 : decode cX12_thing 27 = .ok (.getfield 13, 3) := by decide +kernel
set_option maxRecDepth 20000 in
theorem dX12_thing_30 : decode cX12_thing 30 = .ok (.bipush 8, 2) := by decide +kernel
set_option maxRecDepth 20000 in
theorem dX12_thing_32 : decode cX12_thing 32 = .ok (.if_icmp .ne 6, 3) := by decide +kernel
set_option maxRecDepth 20000 in
theorem dX12_thing_35 : decode cX12_thing 35 = .ok (.bipush (-4), 2) := by decide +kernel
set_option maxRecDepth 20000 in
theorem dX12_thing_37 : decode cX12_thing 37 = .ok (.ireturn, 1) := by decide +kernel
set_option maxRecDepth 20000 in
theorem dX12_thing_38 : decode cX12_thing 38 = .ok (.aload_n 0, 1) := by decide +kernel
set_option maxRecDepth 20000 in
theorem dX12_thing_39 : decode cX12_thing 39 = .ok (.getfield 35, 3) := by decide +kernel
set_option maxRecDepth 20000 in
theorem dX12_thing_42 : decode cX12_thing 42 = .ok (.aload_n 0, 1) := by decide +kernel
set_option maxRecDepth 20000 in
theorem dX12_thing_43 : decode cX12_thing 43 = .ok (.getfield 13, 3) := by decide +kernel
set_option maxRecDepth 20000 in
theorem dX12_thing_46 : decode cX12_thing 46 = .ok (.iload_n 1, 1) := by decide +kernel
set_option maxRecDepth 20000 in
theorem dX12_thing_47 : decode cX12_thing 47 = .ok (.iastore, 1) := by decide +kernel
set_option maxRecDepth 20000 in
theorem dX12_thing_48 : decode cX12_thing 48 = .ok (.aload_n 0, 1) := by decide +kernel
set_option maxRecDepth 20000 in
theorem dX12_thing_49 : decode cX12_thing 49 = .ok (.getfield 38, 3) := by decide +kernel
set_option maxRecDepth 20000 in
theorem dX12_thing_52 : decode cX12_thing 52 = .ok (.aload_n 0, 1) := by decide +kernel
set_option maxRecDepth 20000 in
theorem dX12_thing_53 : decode cX12_thing 53 = .ok (.getfield 13, 3) := by decide +kernel
set_option maxRecDepth 20000 in
theorem dX12_thing_56 : decode cX12_thing 56 = .ok (.iload_n 2, 1) := by decide +kernel
set_option maxRecDepth 20000 in
theorem dX12_thing_57 : decode cX12_thing 57 = .ok (.ifCond .ge 8, 3) := by decide +kernel
set_option maxRecDepth 20000 in
theorem dX12_thing_60 : decode cX12_thing 60 = .ok (.bipush (-5), 2) := by decide +kernel
set_option maxRecDepth 20000 in
theorem dX12_thing_62 : decode cX12_thing 62 = .ok (.goto 4, 3) := by decide +kernel
set_option maxRecDepth 20000 in
theorem dX12_thing_65 : decode cX12_thing 65 = .ok (.iload_n 2, 1) := by decide +kernel
set_option maxRecDepth 20000 in
theorem dX12_thing_66 : decode cX12_thing 66 = .ok (.iastore, 1) := by decide +kernel
set_option maxRecDepth 20000 in
theorem dX12_thing_67 : decode cX12_thing 67 = .ok (.aload_n 0, 1) := by decide +kernel
set_option maxRecDepth 20000 in
theorem dX12_thing_68 : decode cX12_thing 68 = .ok (.getfield 41, 3) := by decide +kernel
set_option maxRecDepth 20000 in
theorem dX12_thing_71 : decode cX12_thing 71 = .ok (.aload_n 0, 1) := by decide +kernel
set_option maxRecDepth 20000 in
theorem dX12_thing_72 : decode cX12_thing 72 = .ok (.getfield 13, 3) := by decide +kernel
set_option maxRecDepth 20000 in
theorem dX12_thing_75 : decode cX12_thing 75 = .ok (.iconst 0, 1) := by decide +kernel
set_option maxRecDepth 20000 in
theorem dX12_thing_76 : decode cX12_thing 76 = .ok (.iastore, 1) := by decide +kernel
set_option maxRecDepth 20000 in
theorem dX12_thing_77 : decode cX12_thing 77 = .ok (.aload_n 0, 1) := by decide +kernel
set_option maxRecDepth 20000 in
theorem dX12_thing_78 : decode cX12_thing 78 = .ok (.getfield 44, 3) := by decide +kernel
set_option maxRecDepth 20000 in
theorem dX12_thing_81 : decode cX12_thing 81 = .ok (.aload_n 0, 1) := by decide +kernel
set_option maxRecDepth 20000 in
theorem dX12_thing_82 : decode cX12_thing 82 = .ok (.getfield 13, 3) := by decide +kernel
set_option maxRecDepth 20000 in
theorem dX12_thing_85 : decode cX12_thing 85 = .ok (.iconst 0, 1) := by decide +kernel
set_option maxRecDepth 20000 in
theorem dX12_thing_86 : decode cX12_thing 86 = .ok (.iastore, 1) := by decide +kernel
set_option maxRecDepth 20000 in
theorem dX12_thing_87 : decode cX12_thing 87 = .ok (.aload_n 0, 1) := by decide +kernel
set_option maxRecDepth 20000 in
theorem dX12_thing_88 : decode cX12_thing 88 = .ok (.getfield 47, 3) := by decide +kernel
set_option maxRecDepth 20000 in
theorem dX12_thing_91 : decode cX12_thing 91 = .ok (.aload_n 0, 1) := by decide +kernel
set_option maxRecDepth 20000 in
theorem dX12_thing_92 : decode cX12_thing 92 = .ok (.getfield 13, 3) := by decide +kernel
set_option maxRecDepth 20000 in
theorem dX12_thing_95 : decode cX12_thing 95 = .ok (.iconst 0, 1) := by decide +kernel
set_option maxRecDepth 20000 in
theorem dX12_thing_96 : decode cX12_thing 96 = .ok (.iastore, 1) := by decide +kernel
set_option maxRecDepth 20000 in
theorem dX12_thing_97 : decode cX12_thing 97 = .ok (.aload_n 0, 1) := by decide +kernel
set_option maxRecDepth 20000 in
theorem dX12_thing_98 : decode cX12_thing 98 = .ok (.dup, 1) := by decide +kernel
set_option maxRecDepth 20000 in
theorem dX12_thing_99 : decode cX12_thing 99 = .ok (.getfield 13, 3) := by decide +kernel
set_option maxRecDepth 20000 in
theorem dX12_thing_102 : decode cX12_thing 102 = .ok (.iconst 1, 1) := by decide +kernel
set_option maxRecDepth 20000 in
theorem dX12_thing_103 : decode cX12_thing 103 = .ok (.iadd, 1) := by decide +kernel
set_option maxRecDepth 20000 in
theorem dX12_thing_104 : decode cX12_thing 104 = .ok (.putfield 13, 3) := by decide +kernel
set_option maxRecDepth 20000 in
theorem dX12_thing_107 : decode cX12_thing 107 = .ok (.aload_n 0, 1) := by decide +kernel
set_option maxRecDepth 20000 in
theorem dX12_thing_108 : decode cX12_thing 108 = .ok (.getfield 13, 3) := by decide +kernel
set_option maxRecDepth 20000 in
theorem dX12_thing_111 : decode cX12_thing 111 = .ok (.iconst 1, 1) := by decide +kernel
set_option maxRecDepth 20000 in
theorem dX12_thing_112 : decode cX12_thing 112 = .ok (.isub, 1) := by decide +kernel
set_option maxRecDepth 20000 in
theorem dX12_thing_113 : decode cX12_thing 113 = .ok (.ireturn, 1) := by decide +kernel
set_option maxRecDepth 20000 in
theorem kt_X12_thing_0 (g : gx_T) : ∀ q ∈ k_X12_thing_0, gx_E g gc_md RX12 cX12_thing 3 (some .int) "thing" q.1 q.2 := List.forall_mem_cons.mpr ⟨(gs_iload_n dX12_thing_0 rfl), List.forall_mem_cons.mpr ⟨
  (gs_iconst dX12_thing_1 rfl), List.forall_mem_cons.mpr ⟨
  (gs_icmp_eq dX12_thing_2 rfl), List.forall_mem_cons.mpr ⟨
  (gs_aload_n dX12_thing_5 rfl), List.forall_mem_cons.mpr ⟨
  (gs_iload_n dX12_thing_6 rfl), List.forall_mem_cons.mpr ⟨
  (gs_cv dX12_thing_7 (fun q hq => by
      simp only [List.mem_cons, List.not_mem_nil, or_false] at hq
      subst hq
      exact Or.inl ⟨_, rfl, by decide, by decide +kernel, by decide +kernel, List.forall_mem_cons.mpr ⟨gx_mem 1248 (by decide +kernel) (by decide +kernel), List.forall_mem_cons.mpr ⟨gx_mem 1250 (by decide +kernel) (by decide +kernel), List.forall_mem_cons.mpr ⟨gx_mem 22 (by decide +kernel) (by decide +kernel), List.forall_mem_cons.mpr ⟨gx_mem 96 (by decide +kernel) (by decide +kernel), List.forall_mem_cons.mpr ⟨cw_1251, fun _ h => absurd h List.not_mem_nil⟩⟩⟩⟩⟩⟩)), List.forall_mem_cons.mpr ⟨
  (gs_if_ne dX12_thing_10 rfl), List.forall_mem_cons.mpr ⟨
  (gs_iconst dX12_thing_13 rfl), List.forall_mem_cons.mpr ⟨
  (gs_ri dX12_thing_14), List.forall_mem_cons.mpr ⟨
  (gs_aload_n dX12_thing_15 rfl), List.forall_mem_cons.mpr ⟨
  (gs_iload_n dX12_thing_16 rfl), List.forall_mem_cons.mpr ⟨
  (gs_cv dX12_thing_17 (fun q hq => by
      simp only [List.mem_cons, List.not_mem_nil, or_false] at hq
      subst hq
      exact Or.inl ⟨_, rfl, by decide, by decide +kernel, by decide +kernel, List.forall_mem_cons.mpr ⟨gx_mem 1252 (by decide +kernel) (by decide +kernel), List.forall_mem_cons.mpr ⟨gx_mem 1254 (by decide +kernel) (by decide +kernel), List.forall_mem_cons.mpr ⟨gx_mem 23 (by decide +kernel) (by decide +kernel), List.forall_mem_cons.mpr ⟨gx_mem 96 (by decide +kernel) (by decide +kernel), List.forall_mem_cons.mpr ⟨cw_1255, fun _ h => absurd h List.not_mem_nil⟩⟩⟩⟩⟩⟩)), List.forall_mem_cons.mpr ⟨
  (gs_if_ne dX12_thing_20 rfl), List.forall_mem_cons.mpr ⟨
  (gs_bipush dX12_thing_23 rfl), List.forall_mem_cons.mpr ⟨
  (gs_ri dX12_thing_25), List.forall_mem_cons.mpr ⟨
  (gs_aload_n dX12_thing_26 rfl), List.forall_mem_cons.mpr ⟨
  (gs_gf (ref := "GriefCranesModel") dX12_thing_27 (gx_mem 998 (by decide +kernel) (by decide +kernel)) (Or.inl rfl) gf_12_1), List.forall_mem_cons.mpr ⟨
  (gs_bipush dX12_thing_30 rfl), List.forall_mem_cons.mpr ⟨
  (gs_icmp_ne dX12_thing_32 rfl), List.forall_mem_cons.mpr ⟨
  (gs_bipush dX12_thing_35 rfl), List.forall_mem_cons.mpr ⟨
  (gs_ri dX12_thing_37), List.forall_mem_cons.mpr ⟨
  (gs_aload_n dX12_thing_38 rfl), List.forall_mem_cons.mpr ⟨
  (gs_gf (ref := "GriefCranesModel") dX12_thing_39 (gx_mem 1005 (by decide +kernel) (by decide +kernel)) (Or.inl rfl) gf_12_8), List.forall_mem_cons.mpr ⟨
  (gs_aload_n dX12_thing_42 rfl), List.forall_mem_cons.mpr ⟨
  (gs_gf (ref := "GriefCranesModel") dX12_thing_43 (gx_mem 998 (by decide +kernel) (by decide +kernel)) (Or.inl rfl) gf_12_1), List.forall_mem_cons.mpr ⟨
  (gs_iload_n dX12_thing_46 rfl), List.forall_mem_cons.mpr ⟨
  (gs_iastore dX12_thing_47), List.forall_mem_cons.mpr ⟨
  (gs_aload_n dX12_thing_48 rfl), List.forall_mem_cons.mpr ⟨
  (gs_gf (ref := "GriefCranesModel") dX12_thing_49 (gx_mem 1006 (by decide +kernel) (by decide +kernel)) (Or.inl rfl) gf_12_9), List.forall_mem_cons.mpr ⟨
  (gs_aload_n dX12_thing_52 rfl), List.forall_mem_cons.mpr ⟨
  (gs_gf (ref := "GriefCranesModel") dX12_thing_53 (gx_mem 998 (by decide +kernel) (by decide +kernel)) (Or.inl rfl) gf_12_1), List.forall_mem_cons.mpr ⟨
  (gs_iload_n dX12_thing_56 rfl), fun _ h => absurd h List.not_mem_nil⟩⟩⟩⟩⟩⟩⟩⟩⟩⟩⟩⟩⟩⟩⟩⟩⟩⟩⟩⟩⟩⟩⟩⟩⟩⟩⟩⟩⟩⟩⟩⟩
set_option maxRecDepth 20000 in
theorem kt_X12_thing_1 (g : gx_T) : ∀ q ∈ k_X12_thing_1, gx_E g gc_md RX12 cX12_thing 3 (some .int) "thing" q.1 q.2 := List.forall_mem_cons.mpr ⟨(gs_if_ge dX12_thing_57 rfl), List.forall_mem_cons.mpr ⟨
  (gs_bipush dX12_thing_60 rfl), List.forall_mem_cons.mpr ⟨
  (gs_goto dX12_thing_62 rfl), List.forall_mem_cons.mpr ⟨
  (gs_iload_n dX12_thing_65 rfl), List.forall_mem_cons.mpr ⟨
  (gs_iastore dX12_thing_66), List.forall_mem_cons.mpr ⟨
  (gs_aload_n dX12_thing_67 rfl), List.forall_mem_cons.mpr ⟨
  (gs_gf (ref := "GriefCranesModel") dX12_thing_68 (gx_mem 1007 (by decide +kernel) (by decide +kernel)) (Or.inl rfl) gf_12_10), List.forall_mem_cons.mpr ⟨
  (gs_aload_n dX12_thing_71 rfl), List.forall_mem_cons.mpr ⟨
  (gs_gf (ref := "GriefCranesModel") dX12_thing_72 (gx_mem 998 (by decide +kernel) (by decide +kernel)) (Or.inl rfl) gf_12_1), List.forall_mem_cons.mpr ⟨
  (gs_iconst dX12_thing_75 rfl), List.forall_mem_cons.mpr ⟨
  (gs_iastore dX12_thing_76), List.forall_mem_cons.mpr ⟨
  (gs_aload_n dX12_thing_77 rfl), List.forall_mem_cons.mpr ⟨
  (gs_gf (ref := "GriefCranesModel") dX12_thing_78 (gx_mem 1008 (by decide +kernel) (by decide +kernel)) (Or.inl rfl) gf_12_11), List.forall_mem_cons.mpr ⟨
  (gs_aload_n dX12_thing_81 rfl), List.forall_mem_cons.mpr ⟨
  (gs_gf (ref := "GriefCranesModel") dX12_thing_82 (gx_mem 998 (by decide +kernel) (by decide +kernel)) (Or.inl rfl) gf_12_1), List.forall_mem_cons.mpr ⟨
  (gs_iconst dX12_thing_85 rfl), List.forall_mem_cons.mpr ⟨
  (gs_iastore dX12_thing_86), List.forall_mem_cons.mpr ⟨
  (gs_aload_n dX12_thing_87 rfl), List.forall_mem_cons.mpr ⟨
  (gs_gf (ref := "GriefCranesModel") dX12_thing_88 (gx_mem 1009 (by decide +kernel) (by decide +kernel)) (Or.inl rfl) gf_12_12), List.forall_mem_cons.mpr ⟨
  (gs_aload_n dX12_thing_91 rfl), List.forall_mem_cons.mpr ⟨
  (gs_gf (ref := "GriefCranesModel") dX12_thing_92 (gx_mem 998 (by decide +kernel) (by decide +kernel)) (Or.inl rfl) gf_12_1), List.forall_mem_cons.mpr ⟨
  (gs_iconst dX12_thing_95 rfl), List.forall_mem_cons.mpr ⟨
  (gs_iastore dX12_thing_96), List.forall_mem_cons.mpr ⟨
  (gs_aload_n dX12_thing_97 rfl), List.forall_mem_cons.mpr ⟨
  (gs_dup dX12_thing_98), List.forall_mem_cons.mpr ⟨
  (gs_gf (ref := "GriefCranesModel") dX12_thing_99 (gx_mem 998 (by decide +kernel) (by decide +kernel)) (Or.inl rfl) gf_12_1), List.forall_mem_cons.mpr ⟨
  (gs_iconst dX12_thing_102 rfl), List.forall_mem_cons.mpr ⟨
  (gs_iadd dX12_thing_103), List.forall_mem_cons.mpr ⟨
  (gs_pf (ref := "GriefCranesModel") dX12_thing_104 (gx_mem 998 (by decide +kernel) (by decide +kernel)) (Or.inl rfl) gf_12_1 (by decide +kernel)), List.forall_mem_cons.mpr ⟨
  (gs_aload_n dX12_thing_107 rfl), List.forall_mem_cons.mpr ⟨
  (gs_gf (ref := "GriefCranesModel") dX12_thing_108 (gx_mem 998 (by decide +kernel) (by decide +kernel)) (Or.inl rfl) gf_12_1), List.forall_mem_cons.mpr ⟨
  (gs_iconst dX12_thing_111 rfl), fun _ h => absurd h List.not_mem_nil⟩⟩⟩⟩⟩⟩⟩⟩⟩⟩⟩⟩⟩⟩⟩⟩⟩⟩⟩⟩⟩⟩⟩⟩⟩⟩⟩⟩⟩⟩⟩⟩
set_option maxRecDepth 20000 in
theorem kt_X12_thing_2 (g : gx_T) : ∀ q ∈ k_X12_thing_2, gx_E g gc_md RX12 cX12_thing 3 (some .int) "thing" q.1 q.2 := List.forall_mem_cons.mpr ⟨(gs_isub dX12_thing_112), List.forall_mem_cons.mpr ⟨
  (gs_ri dX12_thing_113), fun _ h => absurd h List.not_mem_nil⟩⟩
theorem kt_X12_thing (g : gx_T) : ∀ q ∈ k_X12_thing, gx_E g gc_md RX12 cX12_thing 3 (some .int) "thing" q.1 q.2 := List.forall_mem_append.mpr ⟨kt_X12_thing_0 g, List.forall_mem_append.mpr ⟨kt_X12_thing_1 g, kt_X12_thing_2 g⟩⟩
set_option maxRecDepth 20000 in
theorem dX12_send_0 : decode cX12_send 0 = .ok (.aload_n 0, 1) := by decide +kernel
set_option maxRecDepth 20000 in
theorem dX12_send_1 : decode cX12_send 1 = .ok (.iload_n 1, 1) := by decide +kernel
set_option maxRecDepth 20000 in
theorem dX12_send_2 : decode cX12_send 2 = .ok (.invokevirtual 266, 3) := by decide +kernel
set_option maxRecDepth 20000 in
theorem dX12_send_5 : decode cX12_send 5 = .ok (.ifCond .eq 16, 3) := by decide +kernel
set_option maxRecDepth 20000 in
theorem dX12_send_8 : decode cX12_send 8 = .ok (.iload_n 2, 1) := by decide +kernel
set_option maxRecDepth 20000 in
theorem dX12_send_9 : decode cX12_send 9 = .ok (.iconst (-1), 1) := by decide +kernel
set_option maxRecDepth 20000 in
theorem dX12_send_10 : decode cX12_send 10 = .ok (.if_icmp .eq 13, 3) := by decide +kernel
set_option maxRecDepth 20000 in
theorem dX12_send_13 : decode cX12_send 13 = .ok (.aload_n 0, 1) := by decide +kernel
set_option maxRecDepth 20000 in
theorem dX12_send_14 : decode cX12_send 14 = .ok (.iload_n 2, 1) := by decide +kernel
set_option maxRecDepth 20000 in
theorem dX12_send_15 : decode cX12_send 15 = .ok (.invokevirtual 259, 3) := by decide +kernel
set_option maxRecDepth 20000 in
theorem dX12_send_18 : decode cX12_send 18 = .ok (.ifCond .ne 5, 3) := by decide +kernel
set_option maxRecDepth 20000 in
theorem dX12_send_21 : decode cX12_send 21 = .ok (.iconst (-1), 1) := by decide +kernel
set_option maxRecDepth 20000 in
theorem dX12_send_22 : decode cX12_send 22 = .ok (.ireturn, 1) := by decide +kernel
set_option maxRecDepth 20000 in
theorem dX12_send_23 : decode cX12_send 23 = .ok (.aload_n 0, 1) := by decide +kernel
set_option maxRecDepth 20000 in
theorem dX12_send_24 : decode cX12_send 24 = .ok (.getfield 41, 3) := by decide +kernel
set_option maxRecDepth 20000 in
theorem dX12_send_27 : decode cX12_send 27 = .ok (.iload_n 1, 1) := by decide +kernel
set_option maxRecDepth 20000 in
theorem dX12_send_28 : decode cX12_send 28 = .ok (.iaload, 1) := by decide +kernel
set_option maxRecDepth 20000 in
theorem dX12_send_29 : decode cX12_send 29 = .ok (.ifCond .eq 6, 3) := by decide +kernel
set_option maxRecDepth 20000 in
theorem dX12_send_32 : decode cX12_send 32 = .ok (.bipush (-3), 2) := by decide +kernel
set_option maxRecDepth 20000 in
theorem dX12_send_34 : decode cX12_send 34 = .ok (.ireturn, 1) := by decide +kernel
set_option maxRecDepth 20000 in
theorem dX12_send_35 : decode cX12_send 35 = .ok (.aload_n 0, 1) := by decide +kernel
set_option maxRecDepth 20000 in
theorem dX12_send_36 : decode cX12_send 36 = .ok (.getfield 38, 3) := by decide +kernel
set_option maxRecDepth 20000 in
theorem dX12_send_39 : decode cX12_send 39 = .ok (.iload_n 1, 1) := by decide +kernel
set_option maxRecDepth 20000 in
theorem dX12_send_40 : decode cX12_send 40 = .ok (.iaload, 1) := by decide +kernel
set_option maxRecDepth 20000 in
theorem dX12_send_41 : decode cX12_send 41 = .ok (.istore_n 3, 1) := by decide +kernel
set_option maxRecDepth 20000 in
theorem dX12_send_42 : decode cX12_send 42 = .ok (.aload_n 0, 1) := by decide +kernel
set_option maxRecDepth 20000 in
theorem dX12_send_43 : decode cX12_send 43 = .ok (.getfield 38, 3) := by decide +kernel
set_option maxRecDepth 20000 in
theorem dX12_send_46 : decode cX12_send 46 = .ok (.iload_n 1, 1) := by decide +kernel
set_option maxRecDepth 20000 in
theorem dX12_send_47 : decode cX12_send 47 = .ok (.iload_n 2, 1) := by decide +kernel
set_option maxRecDepth 20000 in
theorem dX12_send_48 : decode cX12_send 48 = .ok (.ifCond .ge 8, 3) := by decide +kernel
set_option maxRecDepth 20000 in
theorem dX12_send_51 : decode cX12_send 51 = .ok (.bipush (-5), 2) := by decide +kernel
set_option maxRecDepth 20000 in
theorem dX12_send_53 : decode cX12_send 53 = .ok (.goto 4, 3) := by decide +kernel
set_option maxRecDepth 20000 in
theorem dX12_send_56 : decode cX12_send 56 = .ok (.iload_n 2, 1) := by decide +kernel
set_option maxRecDepth 20000 in
theorem dX12_send_57 : decode cX12_send 57 = .ok (.iastore, 1) := by decide +kernel
set_option maxRecDepth 20000 in
theorem dX12_send_58 : decode cX12_send 58 = .ok (.iload_n 3, 1) := by decide +kernel
set_option maxRecDepth 20000 in
theorem dX12_send_59 : decode cX12_send 59 = .ok (.ireturn, 1) := by decide +kernel
set_option maxRecDepth 20000 in
theorem kt_X12_send_0 (g : gx_T) : ∀ q ∈ k_X12_send_0, gx_E g gc_md RX12 cX12_send 4 (some .int) "send" q.1 q.2 := List.forall_mem_cons.mpr ⟨(gs_aload_n dX12_send_0 rfl), List.forall_mem_cons.mpr ⟨
  (gs_iload_n dX12_send_1 rfl), List.forall_mem_cons.mpr ⟨
  (gs_cv dX12_send_2 (fun q hq => by
      simp only [List.mem_cons, List.not_mem_nil, or_false] at hq
      subst hq
      exact Or.inl ⟨_, rfl, by decide, by decide +kernel, by decide +kernel, List.forall_mem_cons.mpr ⟨gx_mem 1260 (by decide +kernel) (by decide +kernel), List.forall_mem_cons.mpr ⟨gx_mem 1262 (by decide +kernel) (by decide +kernel), List.forall_mem_cons.mpr ⟨gx_mem 24 (by decide +kernel) (by decide +kernel), List.forall_mem_cons.mpr ⟨gx_mem 96 (by decide +kernel) (by decide +kernel), List.forall_mem_cons.mpr ⟨cw_1263, fun _ h => absurd h List.not_mem_nil⟩⟩⟩⟩⟩⟩)), List.forall_mem_cons.mpr ⟨
  (gs_if_eq dX12_send_5 rfl), List.forall_mem_cons.mpr ⟨
  (gs_iload_n dX12_send_8 rfl), List.forall_mem_cons.mpr ⟨
  (gs_iconst dX12_send_9 rfl), List.forall_mem_cons.mpr ⟨
  (gs_icmp_eq dX12_send_10 rfl), List.forall_mem_cons.mpr ⟨
  (gs_aload_n dX12_send_13 rfl), List.forall_mem_cons.mpr ⟨
  (gs_iload_n dX12_send_14 rfl), List.forall_mem_cons.mpr ⟨
  (gs_cv dX12_send_15 (fun q hq => by
      simp only [List.mem_cons, List.not_mem_nil, or_false] at hq
      subst hq
      exact Or.inl ⟨_, rfl, by decide, by decide +kernel, by decide +kernel, List.forall_mem_cons.mpr ⟨gx_mem 1248 (by decide +kernel) (by decide +kernel), List.forall_mem_cons.mpr ⟨gx_mem 1250 (by decide +kernel) (by decide +kernel), List.forall_mem_cons.mpr ⟨gx_mem 22 (by decide +kernel) (by decide +kernel), List.forall_mem_cons.mpr ⟨gx_mem 96 (by decide +kernel) (by decide +kernel), List.forall_mem_cons.mpr ⟨cw_1251, fun _ h => absurd h List.not_mem_nil⟩⟩⟩⟩⟩⟩)), List.forall_mem_cons.mpr ⟨
  (gs_if_ne dX12_send_18 rfl), List.forall_mem_cons.mpr ⟨
  (gs_iconst dX12_send_21 rfl), List.forall_mem_cons.mpr ⟨
  (gs_ri dX12_send_22), List.forall_mem_cons.mpr ⟨
  (gs_aload_n dX12_send_23 rfl), List.forall_mem_cons.mpr ⟨
  (gs_gf (ref := "GriefCranesModel") dX12_send_24 (gx_mem 1007 (by decide +kernel) (by decide +kernel)) (Or.inl rfl) gf_12_10), List.forall_mem_cons.mpr ⟨
  (gs_iload_n dX12_send_27 rfl), List.forall_mem_cons.mpr ⟨
  (gs_iaload dX12_send_28), List.forall_mem_cons.mpr ⟨
  (gs_if_eq dX12_send_29 rfl), List.forall_mem_cons.mpr ⟨
  (gs_bipush dX12_send_32 rfl), List.forall_mem_cons.mpr ⟨
  (gs_ri dX12_send_34), List.forall_mem_cons.mpr ⟨
  (gs_aload_n dX12_send_35 rfl), List.forall_mem_cons.mpr ⟨
  (gs_gf (ref := "GriefCranesModel") dX12_send_36 (gx_mem 1006 (by decide +kernel) (by decide +kernel)) (Or.inl rfl) gf_12_9), List.forall_mem_cons.mpr ⟨
  (gs_iload_n dX12_send_39 rfl), List.forall_mem_cons.mpr ⟨
  (gs_iaload dX12_send_40), List.forall_mem_cons.mpr ⟨
  (gs_istore_n dX12_send_41 rfl), List.forall_mem_cons.mpr ⟨
  (gs_aload_n dX12_send_42 rfl), List.forall_mem_cons.mpr ⟨
  (gs_gf (ref := "GriefCranesModel") dX12_send_43 (gx_mem 1006 (by decide +kernel) (by decide +kernel)) (Or.inl rfl) gf_12_9), List.forall_mem_cons.mpr ⟨
  (gs_iload_n dX12_send_46 rfl), List.forall_mem_cons.mpr ⟨
  (gs_iload_n dX12_send_47 rfl), List.forall_mem_cons.mpr ⟨
  (gs_if_ge dX12_send_48 rfl), List.forall_mem_cons.mpr ⟨
  (gs_bipush dX12_send_51 rfl), List.forall_mem_cons.mpr ⟨
  (gs_goto dX12_send_53 rfl), fun _ h => absurd h List.not_mem_nil⟩⟩⟩⟩⟩⟩⟩⟩⟩⟩⟩⟩⟩⟩⟩⟩⟩⟩⟩⟩⟩⟩⟩⟩⟩⟩⟩⟩⟩⟩⟩⟩
set_option maxRecDepth 20000 in
theorem kt_X12_send_1 (g : gx_T) : ∀ q ∈ k_X12_send_1, gx_E g gc_md RX12 cX12_send 4 (some .int) "send" q.1 q.2 := List.forall_mem_cons.mpr ⟨(gs_iload_n dX12_send_56 rfl), List.forall_mem_cons.mpr ⟨
  (gs_iastore dX12_send_57), List.forall_mem_cons.mpr ⟨
  (gs_iload_n dX12_send_58 rfl), List.forall_mem_cons.mpr ⟨
  (gs_ri dX12_send_59), fun _ h => absurd h List.not_mem_nil⟩⟩⟩⟩
theorem kt_X12_send (g : gx_T) : ∀ q ∈ k_X12_send, gx_E g gc_md RX12 cX12_send 4 (some .int) "send" q.1 q.2 := List.forall_mem_append.mpr ⟨kt_X12_send_0 g, kt_X12_send_1 g⟩
set_option maxRecDepth 20000 in
theorem dX12_wind_0 : decode cX12_wind 0 = .ok (.aload_n 0, 1) := by decide +kernel
set_option maxRecDepth 20000 in
theorem dX12_wind_1 : decode cX12_wind 1 = .ok (.iload_n 1, 1) := by decide +kernel
set_option maxRecDepth 20000 in
theorem dX12_wind_2 : decode cX12_wind 2 = .ok (.iconst 0, 1) := by decide +kernel
set_option maxRecDepth 20000 in
theorem dX12_wind_3 : decode cX12_wind 3 = .ok (.iconst 3, 1) := by decide +kernel
set_option maxRecDepth 20000 in
theorem dX12_wind_4 : decode cX12_wind 4 = .ok (.invokevirtual 255, 3) := by decide +kernel
set_option maxRecDepth 20000 in
theorem dX12_wind_7 : decode cX12_wind 7 = .ok (.ifCond .ne 5, 3) := by decide +kernel
set_option maxRecDepth 20000 in
theorem dX12_wind_10 : decode cX12_wind 10 = .ok (.iconst (-1), 1) := by decide +kernel
set_option maxRecDepth 20000 in
theorem dX12_wind_11 : decode cX12_wind 11 = .ok (.ireturn, 1) := by decide +kernel
set_option maxRecDepth 20000 in
theorem dX12_wind_12 : decode cX12_wind 12 = .ok (.aload_n 0, 1) := by decide +kernel
set_option maxRecDepth 20000 in
theorem dX12_wind_13 : decode cX12_wind 13 = .ok (.iload_n 2, 1) := by decide +kernel
set_option maxRecDepth 20000 in
theorem dX12_wind_14 : decode cX12_wind 14 = .ok (.iconst 0, 1) := by decide +kernel
set_option maxRecDepth 20000 in
theorem dX12_wind_15 : decode cX12_wind 15 = .ok (.bipush 9, 2) := by decide +kernel
set_option maxRecDepth 20000 in
theorem dX12_wind_17 : decode cX12_wind 17 = .ok (.invokevirtual 255, 3) := by decide +kernel
set_option maxRecDepth 20000 in
theorem dX12_wind_20 : decode cX12_wind 20 = .ok (.ifCond .ne 6, 3) := by decide +kernel
set_option maxRecDepth 20000 in
theorem dX12_wind_23 : decode cX12_wind 23 = .ok (.bipush (-2), 2) := by decide +kernel
set_option maxRecDepth 20000 in
theorem dX12_wind_25 : decode cX12_wind 25 = .ok (.ireturn, 1) := by decide +kernel
set_option maxRecDepth 20000 in
theorem dX12_wind_26 : decode cX12_wind 26 = .ok (.aload_n 0, 1) := by decide +kernel
set_option maxRecDepth 20000 in
theorem dX12_wind_27 : decode cX12_wind 27 = .ok (.getfield 19, 3) := by decide +kernel
set_option maxRecDepth 20000 in
theorem dX12_wind_30 : decode cX12_wind 30 = .ok (.iload_n 1, 1) := by decide +kernel
set_option maxRecDepth 20000 in
theorem dX12_wind_31 : decode cX12_wind 31 = .ok (.iaload, 1) := by decide +kernel
set_option maxRecDepth 20000 in
theorem dX12_wind_32 : decode cX12_wind 32 = .ok (.istore_n 3, 1) := by decide +kernel
set_option maxRecDepth 20000 in
theorem dX12_wind_33 : decode cX12_wind 33 = .ok (.aload_n 0, 1) := by decide +kernel
set_option maxRecDepth 20000 in
theorem dX12_wind_34 : decode cX12_wind 34 = .ok (.getfield 19, 3) := by decide +kernel
set_option maxRecDepth 20000 in
theorem dX12_wind_37 : decode cX12_wind 37 = .ok (.iload_n 1, 1) := by decide +kernel
set_option maxRecDepth 20000 in
theorem dX12_wind_38 : decode cX12_wind 38 = .ok (.iload_n 2, 1) := by decide +kernel
set_option maxRecDepth 20000 in
theorem dX12_wind_39 : decode cX12_wind 39 = .ok (.iastore, 1) := by decide +kernel
set_option maxRecDepth 20000 in
theorem dX12_wind_40 : decode cX12_wind 40 = .ok (.iload_n 3, 1) := by decide +kernel
set_option maxRecDepth 20000 in
theorem dX12_wind_41 : decode cX12_wind 41 = .ok (.ireturn, 1) := by decide +kernel
set_option maxRecDepth 20000 in
theorem kt_X12_wind_0 (g : gx_T) : ∀ q ∈ k_X12_wind_0, gx_E g gc_md RX12 cX12_wind 4 (some .int) "wind" q.1 q.2 := List.forall_mem_cons.mpr ⟨(gs_aload_n dX12_wind_0 rfl), List.forall_mem_cons.mpr ⟨
  (gs_iload_n dX12_wind_1 rfl), List.forall_mem_cons.mpr ⟨
  (gs_iconst dX12_wind_2 rfl), List.forall_mem_cons.mpr ⟨
  (gs_iconst dX12_wind_3 rfl), List.forall_mem_cons.mpr ⟨
  (gs_cv dX12_wind_4 (fun q hq => by
      simp only [List.mem_cons, List.not_mem_nil, or_false] at hq
      subst hq
      exact Or.inl ⟨_, rfl, by decide, by decide +kernel, by decide +kernel, List.forall_mem_cons.mpr ⟨gx_mem 1240 (by decide +kernel) (by decide +kernel), List.forall_mem_cons.mpr ⟨gx_mem 1242 (by decide +kernel) (by decide +kernel), List.forall_mem_cons.mpr ⟨gx_mem 21 (by decide +kernel) (by decide +kernel), List.forall_mem_cons.mpr ⟨gx_mem 96 (by decide +kernel) (by decide +kernel), List.forall_mem_cons.mpr ⟨cw_1243, fun _ h => absurd h List.not_mem_nil⟩⟩⟩⟩⟩⟩)), List.forall_mem_cons.mpr ⟨
  (gs_if_ne dX12_wind_7 rfl), List.forall_mem_cons.mpr ⟨
  (gs_iconst dX12_wind_10 rfl), List.forall_mem_cons.mpr ⟨
  (gs_ri dX12_wind_11), List.forall_mem_cons.mpr ⟨
  (gs_aload_n dX12_wind_12 rfl), List.forall_mem_cons.mpr ⟨
  (gs_iload_n dX12_wind_13 rfl), List.forall_mem_cons.mpr ⟨
  (gs_iconst dX12_wind_14 rfl), List.forall_mem_cons.mpr ⟨
  (gs_bipush dX12_wind_15 rfl), List.forall_mem_cons.mpr ⟨
  (gs_cv dX12_wind_17 (fun q hq => by
      simp only [List.mem_cons, List.not_mem_nil, or_false] at hq
      subst hq
      exact Or.inl ⟨_, rfl, by decide, by decide +kernel, by decide +kernel, List.forall_mem_cons.mpr ⟨gx_mem 1240 (by decide +kernel) (by decide +kernel), List.forall_mem_cons.mpr ⟨gx_mem 1242 (by decide +kernel) (by decide +kernel), List.forall_mem_cons.mpr ⟨gx_mem 21 (by decide +kernel) (by decide +kernel), List.forall_mem_cons.mpr ⟨gx_mem 96 (by decide +kernel) (by decide +kernel), List.forall_mem_cons.mpr ⟨cw_1243, fun _ h => absurd h List.not_mem_nil⟩⟩⟩⟩⟩⟩)), List.forall_mem_cons.mpr ⟨
  (gs_if_ne dX12_wind_20 rfl), List.forall_mem_cons.mpr ⟨
  (gs_bipush dX12_wind_23 rfl), List.forall_mem_cons.mpr ⟨
  (gs_ri dX12_wind_25), List.forall_mem_cons.mpr ⟨
  (gs_aload_n dX12_wind_26 rfl), List.forall_mem_cons.mpr ⟨
  (gs_gf (ref := "GriefCranesModel") dX12_wind_27 (gx_mem 1000 (by decide +kernel) (by decide +kernel)) (Or.inl rfl) gf_12_3), List.forall_mem_cons.mpr ⟨
  (gs_iload_n dX12_wind_30 rfl), List.forall_mem_cons.mpr ⟨
  (gs_iaload dX12_wind_31), List.forall_mem_cons.mpr ⟨
  (gs_istore_n dX12_wind_32 rfl), List.forall_mem_cons.mpr ⟨
  (gs_aload_n dX12_wind_33 rfl), List.forall_mem_cons.mpr ⟨
  (gs_gf (ref := "GriefCranesModel") dX12_wind_34 (gx_mem 1000 (by decide +kernel) (by decide +kernel)) (Or.inl rfl) gf_12_3), List.forall_mem_cons.mpr ⟨
  (gs_iload_n dX12_wind_37 rfl), List.forall_mem_cons.mpr ⟨
  (gs_iload_n dX12_wind_38 rfl), List.forall_mem_cons.mpr ⟨
  (gs_iastore dX12_wind_39), List.forall_mem_cons.mpr ⟨
  (gs_iload_n dX12_wind_40 rfl), List.forall_mem_cons.mpr ⟨
  (gs_ri dX12_wind_41), fun _ h => absurd h List.not_mem_nil⟩⟩⟩⟩⟩⟩⟩⟩⟩⟩⟩⟩⟩⟩⟩⟩⟩⟩⟩⟩⟩⟩⟩⟩⟩⟩⟩⟩
theorem kt_X12_wind (g : gx_T) : ∀ q ∈ k_X12_wind, gx_E g gc_md RX12 cX12_wind 4 (some .int) "wind" q.1 q.2 := kt_X12_wind_0 g
set_option maxRecDepth 20000 in
theorem dX12_row_0 : decode cX12_row 0 = .ok (.aload_n 0, 1) := by decide +kernel
set_option maxRecDepth 20000 in
theorem dX12_row_1 : decode cX12_row 1 = .ok (.iload_n 1, 1) := by decide +kernel
set_option maxRecDepth 20000 in
theorem dX12_row_2 : decode cX12_row 2 = .ok (.invokevirtual 259, 3) := by decide +kernel
set_option maxRecDepth 20000 in
theorem dX12_row_5 : decode cX12_row 5 = .ok (.ifCond .eq 13, 3) := by decide +kernel
set_option maxRecDepth 20000 in
theorem dX12_row_8 : decode cX12_row 8 = .ok (.aload_n 0, 1) := by decide +kernel
set_option maxRecDepth 20000 in
theorem dX12_row_9 : decode cX12_row 9 = .ok (.iload_n 2, 1) := by decide +kernel
set_option maxRecDepth 20000 in
theorem dX12_row_10 : decode cX12_row 10 = .ok (.iconst 0, 1) := by decide +kernel
set_option maxRecDepth 20000 in
theorem dX12_row_11 : decode cX12_row 11 = .ok (.iconst 3, 1) := by decide +kernel
set_option maxRecDepth 20000 in
theorem dX12_row_12 : decode cX12_row 12 = .ok (.invokevirtual 255, 3) := by decide +kernel
set_option maxRecDepth 20000 in
theorem dX12_row_15 : decode cX12_row 15 = .ok (.ifCond .ne 5, 3) := by decide +kernel
set_option maxRecDepth 20000 in
theorem dX12_row_18 : decode cX12_row 18 = .ok (.iconst (-1), 1) := by decide +kernel
set_option maxRecDepth 20000 in
theorem dX12_row_19 : decode cX12_row 19 = .ok (.ireturn, 1) := by decide +kernel
set_option maxRecDepth 20000 in
theorem dX12_row_20 : decode cX12_row 20 = .ok (.aload_n 0, 1) := by decide +kernel
set_option maxRecDepth 20000 in
theorem dX12_row_21 : decode cX12_row 21 = .ok (.iload_n 3, 1) := by decide +kernel
set_option maxRecDepth 20000 in
theorem dX12_row_22 : decode cX12_row 22 = .ok (.iconst 0, 1) := by decide +kernel
set_option maxRecDepth 20000 in
theorem dX12_row_23 : decode cX12_row 23 = .ok (.bipush 9, 2) := by decide +kernel
set_option maxRecDepth 20000 in
theorem dX12_row_25 : decode cX12_row 25 = .ok (.invokevirtual 255, 3) := by decide +kernel
set_option maxRecDepth 20000 in
theorem dX12_row_28 : decode cX12_row 28 = .ok (.ifCond .ne 6, 3) := by decide +kernel
set_option maxRecDepth 20000 in
theorem dX12_row_31 : decode cX12_row 31 = .ok (.bipush (-2), 2) := by decide +kernel
set_option maxRecDepth 20000 in
theorem dX12_row_33 : decode cX12_row 33 = .ok (.ireturn, 1) := by decide +kernel
set_option maxRecDepth 20000 in
theorem dX12_row_34 : decode cX12_row 34 = .ok (.aload_n 0, 1) := by decide +kernel
set_option maxRecDepth 20000 in
theorem dX12_row_35 : decode cX12_row 35 = .ok (.getfield 23, 3) := by decide +kernel
set_option maxRecDepth 20000 in
theorem dX12_row_38 : decode cX12_row 38 = .ok (.iload_n 1, 1) := by decide +kernel
set_option maxRecDepth 20000 in
theorem dX12_row_39 : decode cX12_row 39 = .ok (.iaload, 1) := by decide +kernel
set_option maxRecDepth 20000 in
theorem dX12_row_40 : decode cX12_row 40 = .ok (.bipush 6, 2) := by decide +kernel
set_option maxRecDepth 20000 in
theorem dX12_row_42 : decode cX12_row 42 = .ok (.if_icmp .eq 6, 3) := by decide +kernel
set_option maxRecDepth 20000 in
theorem dX12_row_45 : decode cX12_row 45 = .ok (.bipush (-3), 2) := by decide +kernel
set_option maxRecDepth 20000 in
theorem dX12_row_47 : decode cX12_row 47 = .ok (.ireturn, 1) := by decide +kernel
set_option maxRecDepth 20000 in
theorem dX12_row_48 : decode cX12_row 48 = .ok (.aload_n 0, 1) := by decide +kernel
set_option maxRecDepth 20000 in
theorem dX12_row_49 : decode cX12_row 49 = .ok (.getfield 32, 3) := by decide +kernel
set_option maxRecDepth 20000 in
theorem dX12_row_52 : decode cX12_row 52 = .ok (.iconst 4, 1) := by decide +kernel
set_option maxRecDepth 20000 in
theorem dX12_row_53 : decode cX12_row 53 = .ok (.iload_n 1, 1) := by decide +kernel
set_option maxRecDepth 20000 in
theorem dX12_row_54 : decode cX12_row 54 = .ok (.imul, 1) := by decide +kernel
set_option maxRecDepth 20000 in
theorem dX12_row_55 : decode cX12_row 55 = .ok (.iload_n 2, 1) := by decide +kernel
set_option maxRecDepth 20000 in
theorem dX12_row_56 : decode cX12_row 56 = .ok (.iadd, 1) := by decide +kernel
set_option maxRecDepth 20000 in
theorem dX12_row_57 : decode cX12_row 57 = .ok (.iaload, 1) := by decide +kernel
set_option maxRecDepth 20000 in
theorem dX12_row_58 : decode cX12_row 58 = .ok (.istore 4, 2) := by decide +kernel
set_option maxRecDepth 20000 in
theorem dX12_row_60 : decode cX12_row 60 = .ok (.aload_n 0, 1) := by decide +kernel
set_option maxRecDepth 20000 in
theorem dX12_row_61 : decode cX12_row 61 = .ok (.getfield 32, 3) := by decide +kernel
set_option maxRecDepth 20000 in
theorem dX12_row_64 : decode cX12_row 64 = .ok (.iconst 4, 1) := by decide +kernel
set_option maxRecDepth 20000 in
theorem dX12_row_65 : decode cX12_row 65 = .ok (.iload_n 1, 1) := by decide +kernel
set_option maxRecDepth 20000 in
theorem dX12_row_66 : decode cX12_row 66 = .ok (.imul, 1) := by decide +kernel
set_option maxRecDepth 20000 in
theorem dX12_row_67 : decode cX12_row 67 = .ok (.iload_n 2, 1) := by decide +kernel
set_option maxRecDepth 20000 in
theorem dX12_row_68 : decode cX12_row 68 = .ok (.iadd, 1) := by decide +kernel
set_option maxRecDepth 20000 in
theorem dX12_row_69 : decode cX12_row 69 = .ok (.iload_n 3, 1) := by decide +kernel
set_option maxRecDepth 20000 in
theorem dX12_row_70 : decode cX12_row 70 = .ok (.iastore, 1) := by decide +kernel
set_option maxRecDepth 20000 in
theorem dX12_row_71 : decode cX12_row 71 = .ok (.iload 4, 2) := by decide +kernel
set_option maxRecDepth 20000 in
theorem dX12_row_73 : decode cX12_row 73 = .ok (.ireturn, 1) := by decide +kernel
set_option maxRecDepth 20000 in
theorem kt_X12_row_0 (g : gx_T) : ∀ q ∈ k_X12_row_0, gx_E g gc_md RX12 cX12_row 5 (some .int) "row" q.1 q.2 := List.forall_mem_cons.mpr ⟨(gs_aload_n dX12_row_0 rfl), List.forall_mem_cons.mpr ⟨
  (gs_iload_n dX12_row_1 rfl), List.forall_mem_cons.mpr ⟨
  (gs_cv dX12_row_2 (fun q hq => by
      simp only [List.mem_cons, List.not_mem_nil, or_false] at hq
      subst hq
      exact Or.inl ⟨_, rfl, by decide, by decide +kernel, by decide +kernel, List.forall_mem_cons.mpr ⟨gx_mem 1248 (by decide +kernel) (by decide +kernel), List.forall_mem_cons.mpr ⟨gx_mem 1250 (by decide +kernel) (by decide +kernel), List.forall_mem_cons.mpr ⟨gx_mem 22 (by decide +kernel) (by decide +kernel), List.forall_mem_cons.mpr ⟨gx_mem 96 (by decide +kernel) (by decide +kernel), List.forall_mem_cons.mpr ⟨cw_1251, fun _ h => absurd h List.not_mem_nil⟩⟩⟩⟩⟩⟩)), List.forall_mem_cons.mpr ⟨
  (gs_if_eq dX12_row_5 rfl), List.forall_mem_cons.mpr ⟨
  (gs_aload_n dX12_row_8 rfl), List.forall_mem_cons.mpr ⟨
  (gs_iload_n dX12_row_9 rfl), List.forall_mem_cons.mpr ⟨
  (gs_iconst dX12_row_10 rfl), List.forall_mem_cons.mpr ⟨
  (gs_iconst dX12_row_11 rfl), List.forall_mem_cons.mpr ⟨
  (gs_cv dX12_row_12 (fun q hq => by
      simp only [List.mem_cons, List.not_mem_nil, or_false] at hq
      subst hq
      exact Or.inl ⟨_, rfl, by decide, by decide +kernel, by decide +kernel, List.forall_mem_cons.mpr ⟨gx_mem 1240 (by decide +kernel) (by decide +kernel), List.forall_mem_cons.mpr ⟨gx_mem 1242 (by decide +kernel) (by decide +kernel), List.forall_mem_cons.mpr ⟨gx_mem 21 (by decide +kernel) (by decide +kernel), List.forall_mem_cons.mpr ⟨gx_mem 96 (by decide +kernel) (by decide +kernel), List.forall_mem_cons.mpr ⟨cw_1243, fun _ h => absurd h List.not_mem_nil⟩⟩⟩⟩⟩⟩)), List.forall_mem_cons.mpr ⟨
  (gs_if_ne dX12_row_15 rfl), List.forall_mem_cons.mpr ⟨
  (gs_iconst dX12_row_18 rfl), List.forall_mem_cons.mpr ⟨
  (gs_ri dX12_row_19), List.forall_mem_cons.mpr ⟨
  (gs_aload_n dX12_row_20 rfl), List.forall_mem_cons.mpr ⟨
  (gs_iload_n dX12_row_21 rfl), List.forall_mem_cons.mpr ⟨
  (gs_iconst dX12_row_22 rfl), List.forall_mem_cons.mpr ⟨
  (gs_bipush dX12_row_23 rfl), List.forall_mem_cons.mpr ⟨
  (gs_cv dX12_row_25 (fun q hq => by
      simp only [List.mem_cons, List.not_mem_nil, or_false] at hq
      subst hq
      exact Or.inl ⟨_, rfl, by decide, by decide +kernel, by decide +kernel, List.forall_mem_cons.mpr ⟨gx_mem 1240 (by decide +kernel) (by decide +kernel), List.forall_mem_cons.mpr ⟨gx_mem 1242 (by decide +kernel) (by decide +kernel), List.forall_mem_cons.mpr ⟨gx_mem 21 (by decide +kernel) (by decide +kernel), List.forall_mem_cons.mpr ⟨gx_mem 96 (by decide +kernel) (by decide +kernel), List.forall_mem_cons.mpr ⟨cw_1243, fun _ h => absurd h List.not_mem_nil⟩⟩⟩⟩⟩⟩)), List.forall_mem_cons.mpr ⟨
  (gs_if_ne dX12_row_28 rfl), List.forall_mem_cons.mpr ⟨
  (gs_bipush dX12_row_31 rfl), List.forall_mem_cons.mpr ⟨
  (gs_ri dX12_row_33), List.forall_mem_cons.mpr ⟨
  (gs_aload_n dX12_row_34 rfl), List.forall_mem_cons.mpr ⟨
  (gs_gf (ref := "GriefCranesModel") dX12_row_35 (gx_mem 1001 (by decide +kernel) (by decide +kernel)) (Or.inl rfl) gf_12_4), List.forall_mem_cons.mpr ⟨
  (gs_iload_n dX12_row_38 rfl), List.forall_mem_cons.mpr ⟨
  (gs_iaload dX12_row_39), List.forall_mem_cons.mpr ⟨
  (gs_bipush dX12_row_40 rfl), List.forall_mem_cons.mpr ⟨
  (gs_icmp_eq dX12_row_42 rfl), List.forall_mem_cons.mpr ⟨
  (gs_bipush dX12_row_45 rfl), List.forall_mem_cons.mpr ⟨
  (gs_ri dX12_row_47), List.forall_mem_cons.mpr ⟨
  (gs_aload_n dX12_row_48 rfl), List.forall_mem_cons.mpr ⟨
  (gs_gf (ref := "GriefCranesModel") dX12_row_49 (gx_mem 1004 (by decide +kernel) (by decide +kernel)) (Or.inl rfl) gf_12_7), List.forall_mem_cons.mpr ⟨
  (gs_iconst dX12_row_52 rfl), List.forall_mem_cons.mpr ⟨
  (gs_iload_n dX12_row_53 rfl), fun _ h => absurd h List.not_mem_nil⟩⟩⟩⟩⟩⟩⟩⟩⟩⟩⟩⟩⟩⟩⟩⟩⟩⟩⟩⟩⟩⟩⟩⟩⟩⟩⟩⟩⟩⟩⟩⟩
set_option maxRecDepth 20000 in
theorem kt_X12_row_1 (g : gx_T) : ∀ q ∈ k_X12_row_1, gx_E g gc_md RX12 cX12_row 5 (some .int) "row" q.1 q.2 := List.forall_mem_cons.mpr ⟨(gs_imul dX12_row_54), List.forall_mem_cons.mpr ⟨
  (gs_iload_n dX12_row_55 rfl), List.forall_mem_cons.mpr ⟨
  (gs_iadd dX12_row_56), List.forall_mem_cons.mpr ⟨
  (gs_iaload dX12_row_57), List.forall_mem_cons.mpr ⟨
  (gs_istore dX12_row_58), List.forall_mem_cons.mpr ⟨
  (gs_aload_n dX12_row_60 rfl), List.forall_mem_cons.mpr ⟨
  (gs_gf (ref := "GriefCranesModel") dX12_row_61 (gx_mem 1004 (by decide +kernel) (by decide +kernel)) (Or.inl rfl) gf_12_7), List.forall_mem_cons.mpr ⟨
  (gs_iconst dX12_row_64 rfl), List.forall_mem_cons.mpr ⟨
  (gs_iload_n dX12_row_65 rfl), List.forall_mem_cons.mpr ⟨
  (gs_imul dX12_row_66), List.forall_mem_cons.mpr ⟨
  (gs_iload_n dX12_row_67 rfl), List.forall_mem_cons.mpr ⟨
  (gs_iadd dX12_row_68), List.forall_mem_cons.mpr ⟨
  (gs_iload_n dX12_row_69 rfl), List.forall_mem_cons.mpr ⟨
  (gs_iastore dX12_row_70), List.forall_mem_cons.mpr ⟨
  (gs_iload dX12_row_71), List.forall_mem_cons.mpr ⟨
  (gs_ri dX12_row_73), fun _ h => absurd h List.not_mem_nil⟩⟩⟩⟩⟩⟩⟩⟩⟩⟩⟩⟩⟩⟩⟩⟩
theorem kt_X12_row (g : gx_T) : ∀ q ∈ k_X12_row, gx_E g gc_md RX12 cX12_row 5 (some .int) "row" q.1 q.2 := List.forall_mem_append.mpr ⟨kt_X12_row_0 g, kt_X12_row_1 g⟩
set_option maxRecDepth 20000 in
theorem dX12_feed_0 : decode cX12_feed 0 = .ok (.aload_n 0, 1) := by decide +kernel
set_option maxRecDepth 20000 in
theorem dX12_feed_1 : decode cX12_feed 1 = .ok (.iload_n 1, 1) := by decide +kernel
set_option maxRecDepth 20000 in
theorem dX12_feed_2 : decode cX12_feed 2 = .ok (.iconst 0, 1) := by decide +kernel
set_option maxRecDepth 20000 in
theorem dX12_feed_3 : decode cX12_feed 3 = .ok (.bipush 127, 2) := by decide +kernel
set_option maxRecDepth 20000 in
theorem dX12_feed_5 : decode cX12_feed 5 = .ok (.invokevirtual 255, 3) := by decide +kernel
set_option maxRecDepth 20000 in
theorem dX12_feed_8 : decode cX12_feed 8 = .ok (.ifCond .ne 6, 3) := by decide +kernel
set_option maxRecDepth 20000 in
theorem dX12_feed_11 : decode cX12_feed 11 = .ok (.bipush (-2), 2) := by decide +kernel
set_option maxRecDepth 20000 in
theorem dX12_feed_13 : decode cX12_feed 13 = .ok (.ireturn, 1) := by decide +kernel
set_option maxRecDepth 20000 in
theorem dX12_feed_14 : decode cX12_feed 14 = .ok (.aload_n 0, 1) := by decide +kernel
set_option maxRecDepth 20000 in
theorem dX12_feed_15 : decode cX12_feed 15 = .ok (.getfield 56, 3) := by decide +kernel
set_option maxRecDepth 20000 in
theorem dX12_feed_18 : decode cX12_feed 18 = .ok (.bipush 100, 2) := by decide +kernel
set_option maxRecDepth 20000 in
theorem dX12_feed_20 : decode cX12_feed 20 = .ok (.if_icmp .ne 6, 3) := by decide +kernel
set_option maxRecDepth 20000 in
theorem dX12_feed_23 : decode cX12_feed 23 = .ok (.bipush (-4), 2) := by decide +kernel
set_option maxRecDepth 20000 in
theorem dX12_feed_25 : decode cX12_feed 25 = .ok (.ireturn, 1) := by decide +kernel
set_option maxRecDepth 20000 in
theorem dX12_feed_26 : decode cX12_feed 26 = .ok (.aload_n 0, 1) := by decide +kernel
set_option maxRecDepth 20000 in
theorem dX12_feed_27 : decode cX12_feed 27 = .ok (.getfield 65, 3) := by decide +kernel
set_option maxRecDepth 20000 in
theorem dX12_feed_30 : decode cX12_feed 30 = .ok (.aload_n 0, 1) := by decide +kernel
set_option maxRecDepth 20000 in
theorem dX12_feed_31 : decode cX12_feed 31 = .ok (.getfield 56, 3) := by decide +kernel
set_option maxRecDepth 20000 in
theorem dX12_feed_34 : decode cX12_feed 34 = .ok (.iload_n 1, 1) := by decide +kernel
set_option maxRecDepth 20000 in
theorem dX12_feed_35 : decode cX12_feed 35 = .ok (.iastore, 1) := by decide +kernel
set_option maxRecDepth 20000 in
theorem dX12_feed_36 : decode cX12_feed 36 = .ok (.aload_n 0, 1) := by decide +kernel
set_option maxRecDepth 20000 in
theorem dX12_feed_37 : decode cX12_feed 37 = .ok (.dup, 1) := by decide +kernel
set_option maxRecDepth 20000 in
theorem dX12_feed_38 : decode cX12_feed 38 = .ok (.getfield 56, 3) := by decide +kernel
set_option maxRecDepth 20000 in
theorem dX12_feed_41 : decode cX12_feed 41 = .ok (.iconst 1, 1) := by decide +kernel
set_option maxRecDepth 20000 in
theorem dX12_feed_42 : decode cX12_feed 42 = .ok (.iadd, 1) := by decide +kernel
set_option maxRecDepth 20000 in
theorem dX12_feed_43 : decode cX12_feed 43 = .ok (.putfield 56, 3) := by decide +kernel
set_option maxRecDepth 20000 in
theorem dX12_feed_46 : decode cX12_feed 46 = .ok (.aload_n 0, 1) := by decide +kernel
set_option maxRecDepth 20000 in
theorem dX12_feed_47 : decode cX12_feed 47 = .ok (.getfield 56, 3) := by decide +kernel
set_option maxRecDepth 20000 in
theorem dX12_feed_50 : decode cX12_feed 50 = .ok (.ireturn, 1) := by decide +kernel
set_option maxRecDepth 20000 in
theorem kt_X12_feed_0 (g : gx_T) : ∀ q ∈ k_X12_feed_0, gx_E g gc_md RX12 cX12_feed 2 (some .int) "feed" q.1 q.2 := List.forall_mem_cons.mpr ⟨(gs_aload_n dX12_feed_0 rfl), List.forall_mem_cons.mpr ⟨
  (gs_iload_n dX12_feed_1 rfl), List.forall_mem_cons.mpr ⟨
  (gs_iconst dX12_feed_2 rfl), List.forall_mem_cons.mpr ⟨
  (gs_bipush dX12_feed_3 rfl), List.forall_mem_cons.mpr ⟨
  (gs_cv dX12_feed_5 (fun q hq => by
      simp only [List.mem_cons, List.not_mem_nil, or_false] at hq
      subst hq
      exact Or.inl ⟨_, rfl, by decide, by decide +kernel, by decide +kernel, List.forall_mem_cons.mpr ⟨gx_mem 1240 (by decide +kernel) (by decide +kernel), List.forall_mem_cons.mpr ⟨gx_mem 1242 (by decide +kernel) (by decide +kernel), List.forall_mem_cons.mpr ⟨gx_mem 21 (by decide +kernel) (by decide +kernel), List.forall_mem_cons.mpr ⟨gx_mem 96 (by decide +kernel) (by decide +kernel), List.forall_mem_cons.mpr ⟨cw_1243, fun _ h => absurd h List.not_mem_nil⟩⟩⟩⟩⟩⟩)), List.forall_mem_cons.mpr ⟨
  (gs_if_ne dX12_feed_8 rfl), List.forall_mem_cons.mpr ⟨
  (gs_bipush dX12_feed_11 rfl), List.forall_mem_cons.mpr ⟨
  (gs_ri dX12_feed_13), List.forall_mem_cons.mpr ⟨
  (gs_aload_n dX12_feed_14 rfl), List.forall_mem_cons.mpr ⟨
  (gs_gf (ref := "GriefCranesModel") dX12_feed_15 (gx_mem 1012 (by decide +kernel) (by decide +kernel)) (Or.inl rfl) gf_12_15), List.forall_mem_cons.mpr ⟨
  (gs_bipush dX12_feed_18 rfl), List.forall_mem_cons.mpr ⟨
  (gs_icmp_ne dX12_feed_20 rfl), List.forall_mem_cons.mpr ⟨
  (gs_bipush dX12_feed_23 rfl), List.forall_mem_cons.mpr ⟨
  (gs_ri dX12_feed_25), List.forall_mem_cons.mpr ⟨
  (gs_aload_n dX12_feed_26 rfl), List.forall_mem_cons.mpr ⟨
  (gs_gf (ref := "GriefCranesModel") dX12_feed_27 (gx_mem 1015 (by decide +kernel) (by decide +kernel)) (Or.inl rfl) gf_12_18), List.forall_mem_cons.mpr ⟨
  (gs_aload_n dX12_feed_30 rfl), List.forall_mem_cons.mpr ⟨
  (gs_gf (ref := "GriefCranesModel") dX12_feed_31 (gx_mem 1012 (by decide +kernel) (by decide +kernel)) (Or.inl rfl) gf_12_15), List.forall_mem_cons.mpr ⟨
  (gs_iload_n dX12_feed_34 rfl), List.forall_mem_cons.mpr ⟨
  (gs_iastore dX12_feed_35), List.forall_mem_cons.mpr ⟨
  (gs_aload_n dX12_feed_36 rfl), List.forall_mem_cons.mpr ⟨
  (gs_dup dX12_feed_37), List.forall_mem_cons.mpr ⟨
  (gs_gf (ref := "GriefCranesModel") dX12_feed_38 (gx_mem 1012 (by decide +kernel) (by decide +kernel)) (Or.inl rfl) gf_12_15), List.forall_mem_cons.mpr ⟨
  (gs_iconst dX12_feed_41 rfl), List.forall_mem_cons.mpr ⟨
  (gs_iadd dX12_feed_42), List.forall_mem_cons.mpr ⟨
  (gs_pf (ref := "GriefCranesModel") dX12_feed_43 (gx_mem 1012 (by decide +kernel) (by decide +kernel)) (Or.inl rfl) gf_12_15 (by decide +kernel)), List.forall_mem_cons.mpr ⟨
  (gs_aload_n dX12_feed_46 rfl), List.forall_mem_cons.mpr ⟨
  (gs_gf (ref := "GriefCranesModel") dX12_feed_47 (gx_mem 1012 (by decide +kernel) (by decide +kernel)) (Or.inl rfl) gf_12_15), List.forall_mem_cons.mpr ⟨
  (gs_ri dX12_feed_50), fun _ h => absurd h List.not_mem_nil⟩⟩⟩⟩⟩⟩⟩⟩⟩⟩⟩⟩⟩⟩⟩⟩⟩⟩⟩⟩⟩⟩⟩⟩⟩⟩⟩⟩⟩
theorem kt_X12_feed (g : gx_T) : ∀ q ∈ k_X12_feed, gx_E g gc_md RX12 cX12_feed 2 (some .int) "feed" q.1 q.2 := kt_X12_feed_0 g
set_option maxRecDepth 20000 in
theorem dX12_next_0 : decode cX12_next 0 = .ok (.aload_n 0, 1) := by decide +kernel
set_option maxRecDepth 20000 in
theorem dX12_next_1 : decode cX12_next 1 = .ok (.getfield 59, 3) := by decide +kernel
set_option maxRecDepth 20000 in
theorem dX12_next_4 : decode cX12_next 4 = .ok (.aload_n 0, 1) := by decide +kernel
set_option maxRecDepth 20000 in
theorem dX12_next_5 : decode cX12_next 5 = .ok (.getfield 56, 3) := by decide +kernel
set_option maxRecDepth 20000 in
theorem dX12_next_8 : decode cX12_next 8 = .ok (.if_icmp .ge 15, 3) := by decide +kernel
set_option maxRecDepth 20000 in
theorem dX12_next_11 : decode cX12_next 11 = .ok (.aload_n 0, 1) := by decide +kernel
set_option maxRecDepth 20000 in
theorem dX12_next_12 : decode cX12_next 12 = .ok (.getfield 65, 3) := by decide +kernel
set_option maxRecDepth 20000 in
theorem dX12_next_15 : decode cX12_next 15 = .ok (.aload_n 0, 1) := by decide +kernel
set_option maxRecDepth 20000 in
theorem dX12_next_16 : decode cX12_next 16 = .ok (.getfield 59, 3) := by decide +kernel
set_option maxRecDepth 20000 in
theorem dX12_next_19 : decode cX12_next 19 = .ok (.iaload, 1) := by decide +kernel
set_option maxRecDepth 20000 in
theorem dX12_next_20 : decode cX12_next 20 = .ok (.goto 4, 3) := by decide +kernel
set_option maxRecDepth 20000 in
theorem dX12_next_23 : decode cX12_next 23 = .ok (.iconst (-1), 1) := by decide +kernel
set_option maxRecDepth 20000 in
theorem dX12_next_24 : decode cX12_next 24 = .ok (.ireturn, 1) := by decide +kernel
set_option maxRecDepth 20000 in
theorem kt_X12_next_0 (g : gx_T) : ∀ q ∈ k_X12_next_0, gx_E g gc_md RX12 cX12_next 1 (some .int) "next" q.1 q.2 := List.forall_mem_cons.mpr ⟨(gs_aload_n dX12_next_0 rfl), List.forall_mem_cons.mpr ⟨
  (gs_gf (ref := "GriefCranesModel") dX12_next_1 (gx_mem 1013 (by decide +kernel) (by decide +kernel)) (Or.inl rfl) gf_12_16), List.forall_mem_cons.mpr ⟨
  (gs_aload_n dX12_next_4 rfl), List.forall_mem_cons.mpr ⟨
  (gs_gf (ref := "GriefCranesModel") dX12_next_5 (gx_mem 1012 (by decide +kernel) (by decide +kernel)) (Or.inl rfl) gf_12_15), List.forall_mem_cons.mpr ⟨
  (gs_icmp_ge dX12_next_8 rfl), List.forall_mem_cons.mpr ⟨
  (gs_aload_n dX12_next_11 rfl), List.forall_mem_cons.mpr ⟨
  (gs_gf (ref := "GriefCranesModel") dX12_next_12 (gx_mem 1015 (by decide +kernel) (by decide +kernel)) (Or.inl rfl) gf_12_18), List.forall_mem_cons.mpr ⟨
  (gs_aload_n dX12_next_15 rfl), List.forall_mem_cons.mpr ⟨
  (gs_gf (ref := "GriefCranesModel") dX12_next_16 (gx_mem 1013 (by decide +kernel) (by decide +kernel)) (Or.inl rfl) gf_12_16), List.forall_mem_cons.mpr ⟨
  (gs_iaload dX12_next_19), List.forall_mem_cons.mpr ⟨
  (gs_goto dX12_next_20 rfl), List.forall_mem_cons.mpr ⟨
  (gs_iconst dX12_next_23 rfl), List.forall_mem_cons.mpr ⟨
  (gs_ri dX12_next_24), fun _ h => absurd h List.not_mem_nil⟩⟩⟩⟩⟩⟩⟩⟩⟩⟩⟩⟩⟩
theorem kt_X12_next (g : gx_T) : ∀ q ∈ k_X12_next, gx_E g gc_md RX12 cX12_next 1 (some .int) "next" q.1 q.2 := kt_X12_next_0 g
set_option maxRecDepth 20000 in
theorem dX12_takes_0 : decode cX12_takes 0 = .ok (.aload_n 0, 1) := by decide +kernel
set_option maxRecDepth 20000 in
theorem dX12_takes_1 : decode cX12_takes 1 = .ok (.invokevirtual 269, 3) := by decide +kernel
set_option maxRecDepth 20000 in
theorem dX12_takes_4 : decode cX12_takes 4 = .ok (.iload_n 1, 1) := by decide +kernel
set_option maxRecDepth 20000 in
theorem dX12_takes_5 : decode cX12_takes 5 = .ok (.if_icmp .eq 5, 3) := by decide +kernel
set_option maxRecDepth 20000 in
theorem dX12_takes_8 : decode cX12_takes 8 = .ok (.iconst 0, 1) := by decide +kernel
set_option maxRecDepth 20000 in
theorem dX12_takes_9 : decode cX12_takes 9 = .ok (.ireturn, 1) := by decide +kernel
set_option maxRecDepth 20000 in
theorem dX12_takes_10 : decode cX12_takes 10 = .ok (.aload_n 0, 1) := by decide +kernel
set_option maxRecDepth 20000 in
theorem dX12_takes_11 : decode cX12_takes 11 = .ok (.dup, 1) := by decide +kernel
set_option maxRecDepth 20000 in
theorem dX12_takes_12 : decode cX12_takes 12 = .ok (.getfield 59, 3) := by decide +kernel
set_option maxRecDepth 20000 in
theorem dX12_takes_15 : decode cX12_takes 15 = .ok (.iconst 1, 1) := by decide +kernel
set_option maxRecDepth 20000 in
theorem dX12_takes_16 : decode cX12_takes 16 = .ok (.iadd, 1) := by decide +kernel
set_option maxRecDepth 20000 in
theorem dX12_takes_17 : decode cX12_takes 17 = .ok (.putfield 59, 3) := by decide +kernel
set_option maxRecDepth 20000 in
theorem dX12_takes_20 : decode cX12_takes 20 = .ok (.iconst 1, 1) := by decide +kernel
set_option maxRecDepth 20000 in
theorem dX12_takes_21 : decode cX12_takes 21 = .ok (.ireturn, 1) := by decide +kernel
set_option maxRecDepth 20000 in
theorem kt_X12_takes_0 (g : gx_T) : ∀ q ∈ k_X12_takes_0, gx_E g gc_md RX12 cX12_takes 2 (some .boolean) "takes" q.1 q.2 := List.forall_mem_cons.mpr ⟨(gs_aload_n dX12_takes_0 rfl), List.forall_mem_cons.mpr ⟨
  (gs_cv dX12_takes_1 (fun q hq => by
      simp only [List.mem_cons, List.not_mem_nil, or_false] at hq
      subst hq
      exact Or.inl ⟨_, rfl, by decide, by decide +kernel, by decide +kernel, List.forall_mem_cons.mpr ⟨gx_mem 1292 (by decide +kernel) (by decide +kernel), List.forall_mem_cons.mpr ⟨gx_mem 1294 (by decide +kernel) (by decide +kernel), List.forall_mem_cons.mpr ⟨gx_mem 28 (by decide +kernel) (by decide +kernel), List.forall_mem_cons.mpr ⟨gx_mem 96 (by decide +kernel) (by decide +kernel), List.forall_mem_cons.mpr ⟨cw_1295, fun _ h => absurd h List.not_mem_nil⟩⟩⟩⟩⟩⟩)), List.forall_mem_cons.mpr ⟨
  (gs_iload_n dX12_takes_4 rfl), List.forall_mem_cons.mpr ⟨
  (gs_icmp_eq dX12_takes_5 rfl), List.forall_mem_cons.mpr ⟨
  (gs_iconst dX12_takes_8 rfl), List.forall_mem_cons.mpr ⟨
  (gs_rn dX12_takes_9 (by decide)), List.forall_mem_cons.mpr ⟨
  (gs_aload_n dX12_takes_10 rfl), List.forall_mem_cons.mpr ⟨
  (gs_dup dX12_takes_11), List.forall_mem_cons.mpr ⟨
  (gs_gf (ref := "GriefCranesModel") dX12_takes_12 (gx_mem 1013 (by decide +kernel) (by decide +kernel)) (Or.inl rfl) gf_12_16), List.forall_mem_cons.mpr ⟨
  (gs_iconst dX12_takes_15 rfl), List.forall_mem_cons.mpr ⟨
  (gs_iadd dX12_takes_16), List.forall_mem_cons.mpr ⟨
  (gs_pf (ref := "GriefCranesModel") dX12_takes_17 (gx_mem 1013 (by decide +kernel) (by decide +kernel)) (Or.inl rfl) gf_12_16 (by decide +kernel)), List.forall_mem_cons.mpr ⟨
  (gs_iconst dX12_takes_20 rfl), List.forall_mem_cons.mpr ⟨
  (gs_rn dX12_takes_21 (by decide)), fun _ h => absurd h List.not_mem_nil⟩⟩⟩⟩⟩⟩⟩⟩⟩⟩⟩⟩⟩⟩
theorem kt_X12_takes (g : gx_T) : ∀ q ∈ k_X12_takes, gx_E g gc_md RX12 cX12_takes 2 (some .boolean) "takes" q.1 q.2 := kt_X12_takes_0 g
set_option maxRecDepth 20000 in
theorem dX12_takesWord_0 : decode cX12_takesWord 0 = .ok (.iconst 0, 1) := by decide +kernel
set_option maxRecDepth 20000 in
theorem dX12_takesWord_1 : decode cX12_takesWord 1 = .ok (.istore_n 3, 1) := by decide +kernel
set_option maxRecDepth 20000 in
theorem dX12_takesWord_2 : decode cX12_takesWord 2 = .ok (.iload_n 3, 1) := by decide +kernel
set_option maxRecDepth 20000 in
theorem dX12_takesWord_3 : decode cX12_takesWord 3 = .ok (.iload_n 2, 1) := by decide +kernel
set_option maxRecDepth 20000 in
theorem dX12_takesWord_4 : decode cX12_takesWord 4 = .ok (.if_icmp .ge 26, 3) := by decide +kernel
set_option maxRecDepth 20000 in
theorem dX12_takesWord_7 : decode cX12_takesWord 7 = .ok (.aload_n 0, 1) := by decide +kernel
set_option maxRecDepth 20000 in
theorem dX12_takesWord_8 : decode cX12_takesWord 8 = .ok (.aload_n 0, 1) := by decide +kernel
set_option maxRecDepth 20000 in
theorem dX12_takesWord_9 : decode cX12_takesWord 9 = .ok (.getfield 98, 3) := by decide +kernel
set_option maxRecDepth 20000 in
theorem dX12_takesWord_12 : decode cX12_takesWord 12 = .ok (.iload_n 1, 1) := by decide +kernel
set_option maxRecDepth 20000 in
theorem dX12_takesWord_13 : decode cX12_takesWord 13 = .ok (.iload_n 3, 1) := by decide +kernel
set_option maxRecDepth 20000 in
theorem dX12_takesWord_14 : decode cX12_takesWord 14 = .ok (.iadd, 1) := by decide +kernel
set_option maxRecDepth 20000 in
theorem dX12_takesWord_15 : decode cX12_takesWord 15 = .ok (.iaload, 1) := by decide +kernel
set_option maxRecDepth 20000 in
theorem dX12_takesWord_16 : decode cX12_takesWord 16 = .ok (.invokevirtual 273, 3) := by decide +kernel
set_option maxRecDepth 20000 in
theorem dX12_takesWord_19 : decode cX12_takesWord 19 = .ok (.ifCond .ne 5, 3) := by decide +kernel
set_option maxRecDepth 20000 in
theorem dX12_takesWord_22 : decode cX12_takesWord 22 = .ok (.iconst 0, 1) := by decide +kernel
set_option maxRecDepth 20000 in
theorem dX12_takesWord_23 : decode cX12_takesWord 23 = .ok (.ireturn, 1) := by decide +kernel
set_option maxRecDepth 20000 in
theorem dX12_takesWord_24 : decode cX12_takesWord 24 = .ok (.iinc 3 1, 3) := by decide +kernel
set_option maxRecDepth 20000 in
theorem dX12_takesWord_27 : decode cX12_takesWord 27 = .ok (.goto (-25), 3) := by decide +kernel
set_option maxRecDepth 20000 in
theorem dX12_takesWord_30 : decode cX12_takesWord 30 = .ok (.aload_n 0, 1) := by decide +kernel
set_option maxRecDepth 20000 in
theorem dX12_takesWord_31 : decode cX12_takesWord 31 = .ok (.bipush 32, 2) := by decide +kernel
set_option maxRecDepth 20000 in
theorem dX12_takesWord_33 : decode cX12_takesWord 33 = .ok (.invokevirtual 273, 3) := by decide +kernel
set_option maxRecDepth 20000 in
theorem dX12_takesWord_36 : decode cX12_takesWord 36 = .ok (.ireturn, 1) := by decide +kernel
set_option maxRecDepth 20000 in
theorem kt_X12_takesWord_0 (g : gx_T) : ∀ q ∈ k_X12_takesWord_0, gx_E g gc_md RX12 cX12_takesWord 4 (some .boolean) "takesWord" q.1 q.2 := List.forall_mem_cons.mpr ⟨(gs_iconst dX12_takesWord_0 rfl), List.forall_mem_cons.mpr ⟨
  (gs_istore_n dX12_takesWord_1 rfl), List.forall_mem_cons.mpr ⟨
  (gs_iload_n dX12_takesWord_2 rfl), List.forall_mem_cons.mpr ⟨
  (gs_iload_n dX12_takesWord_3 rfl), List.forall_mem_cons.mpr ⟨
  (gs_icmp_ge dX12_takesWord_4 rfl), List.forall_mem_cons.mpr ⟨
  (gs_aload_n dX12_takesWord_7 rfl), List.forall_mem_cons.mpr ⟨
  (gs_aload_n dX12_takesWord_8 rfl), List.forall_mem_cons.mpr ⟨
  (gs_gf (ref := "GriefCranesModel") dX12_takesWord_9 (gx_mem 1026 (by decide +kernel) (by decide +kernel)) (Or.inl rfl) gf_12_29), List.forall_mem_cons.mpr ⟨
  (gs_iload_n dX12_takesWord_12 rfl), List.forall_mem_cons.mpr ⟨
  (gs_iload_n dX12_takesWord_13 rfl), List.forall_mem_cons.mpr ⟨
  (gs_iadd dX12_takesWord_14), List.forall_mem_cons.mpr ⟨
  (gs_iaload dX12_takesWord_15), List.forall_mem_cons.mpr ⟨
  (gs_cv dX12_takesWord_16 (fun q hq => by
      simp only [List.mem_cons, List.not_mem_nil, or_false] at hq
      subst hq
      exact Or.inl ⟨_, rfl, by decide, by decide +kernel, by decide +kernel, List.forall_mem_cons.mpr ⟨gx_mem 1300 (by decide +kernel) (by decide +kernel), List.forall_mem_cons.mpr ⟨gx_mem 1302 (by decide +kernel) (by decide +kernel), List.forall_mem_cons.mpr ⟨gx_mem 30 (by decide +kernel) (by decide +kernel), List.forall_mem_cons.mpr ⟨gx_mem 96 (by decide +kernel) (by decide +kernel), List.forall_mem_cons.mpr ⟨cw_1303, fun _ h => absurd h List.not_mem_nil⟩⟩⟩⟩⟩⟩)), List.forall_mem_cons.mpr ⟨
  (gs_if_ne dX12_takesWord_19 rfl), List.forall_mem_cons.mpr ⟨
  (gs_iconst dX12_takesWord_22 rfl), List.forall_mem_cons.mpr ⟨
  (gs_rn dX12_takesWord_23 (by decide)), List.forall_mem_cons.mpr ⟨
  (gs_iinc dX12_takesWord_24), List.forall_mem_cons.mpr ⟨
  (gs_goto dX12_takesWord_27 rfl), List.forall_mem_cons.mpr ⟨
  (gs_aload_n dX12_takesWord_30 rfl), List.forall_mem_cons.mpr ⟨
  (gs_bipush dX12_takesWord_31 rfl), List.forall_mem_cons.mpr ⟨
  (gs_cv dX12_takesWord_33 (fun q hq => by
      simp only [List.mem_cons, List.not_mem_nil, or_false] at hq
      subst hq
      exact Or.inl ⟨_, rfl, by decide, by decide +kernel, by decide +kernel, List.forall_mem_cons.mpr ⟨gx_mem 1300 (by decide +kernel) (by decide +kernel), List.forall_mem_cons.mpr ⟨gx_mem 1302 (by decide +kernel) (by decide +kernel), List.forall_mem_cons.mpr ⟨gx_mem 30 (by decide +kernel) (by decide +kernel), List.forall_mem_cons.mpr ⟨gx_mem 96 (by decide +kernel) (by decide +kernel), List.forall_mem_cons.mpr ⟨cw_1303, fun _ h => absurd h List.not_mem_nil⟩⟩⟩⟩⟩⟩)), List.forall_mem_cons.mpr ⟨
  (gs_rn dX12_takesWord_36 (by decide)), fun _ h => absurd h List.not_mem_nil⟩⟩⟩⟩⟩⟩⟩⟩⟩⟩⟩⟩⟩⟩⟩⟩⟩⟩⟩⟩⟩⟩
theorem kt_X12_takesWord (g : gx_T) : ∀ q ∈ k_X12_takesWord, gx_E g gc_md RX12 cX12_takesWord 4 (some .boolean) "takesWord" q.1 q.2 := kt_X12_takesWord_0 g
set_option maxRecDepth 20000 in
theorem dX12_isDigit_0 : decode cX12_isDigit 0 = .ok (.aload_n 0, 1) := by decide +kernel
set_option maxRecDepth 20000 in
theorem dX12_isDigit_1 : decode cX12_isDigit 1 = .ok (.aload_n 0, 1) := by decide +kernel
set_option maxRecDepth 20000 in
theorem dX12_isDigit_2 : decode cX12_isDigit 2 = .ok (.invokevirtual 269, 3) := by decide +kernel
set_option maxRecDepth 20000 in
theorem dX12_isDigit_5 : decode cX12_isDigit 5 = .ok (.bipush 48, 2) := by decide +kernel
set_option maxRecDepth 20000 in
theorem dX12_isDigit_7 : decode cX12_isDigit 7 = .ok (.bipush 57, 2) := by decide +kernel
set_option maxRecDepth 20000 in
theorem dX12_isDigit_9 : decode cX12_isDigit 9 = .ok (.invokevirtual 255, 3) := by decide +kernel
set_option maxRecDepth 20000 in
theorem dX12_isDigit_12 : decode cX12_isDigit 12 = .ok (.ireturn, 1) := by decide +kernel
set_option maxRecDepth 20000 in
theorem kt_X12_isDigit_0 (g : gx_T) : ∀ q ∈ k_X12_isDigit_0, gx_E g gc_md RX12 cX12_isDigit 1 (some .boolean) "isDigit" q.1 q.2 := List.forall_mem_cons.mpr ⟨(gs_aload_n dX12_isDigit_0 rfl), List.forall_mem_cons.mpr ⟨
  (gs_aload_n dX12_isDigit_1 rfl), List.forall_mem_cons.mpr ⟨
  (gs_cv dX12_isDigit_2 (fun q hq => by
      simp only [List.mem_cons, List.not_mem_nil, or_false] at hq
      subst hq
      exact Or.inl ⟨_, rfl, by decide, by decide +kernel, by decide +kernel, List.forall_mem_cons.mpr ⟨gx_mem 1292 (by decide +kernel) (by decide +kernel), List.forall_mem_cons.mpr ⟨gx_mem 1294 (by decide +kernel) (by decide +kernel), List.forall_mem_cons.mpr ⟨gx_mem 28 (by decide +kernel) (by decide +kernel), List.forall_mem_cons.mpr ⟨gx_mem 96 (by decide +kernel) (by decide +kernel), List.forall_mem_cons.mpr ⟨cw_1295, fun _ h => absurd h List.not_mem_nil⟩⟩⟩⟩⟩⟩)), List.forall_mem_cons.mpr ⟨
  (gs_bipush dX12_isDigit_5 rfl), List.forall_mem_cons.mpr ⟨
  (gs_bipush dX12_isDigit_7 rfl), List.forall_mem_cons.mpr ⟨
  (gs_cv dX12_isDigit_9 (fun q hq => by
      simp only [List.mem_cons, List.not_mem_nil, or_false] at hq
      subst hq
      exact Or.inl ⟨_, rfl, by decide, by decide +kernel, by decide +kernel, List.forall_mem_cons.mpr ⟨gx_mem 1240 (by decide +kernel) (by decide +kernel), List.forall_mem_cons.mpr ⟨gx_mem 1242 (by decide +kernel) (by decide +kernel), List.forall_mem_cons.mpr ⟨gx_mem 21 (by decide +kernel) (by decide +kernel), List.forall_mem_cons.mpr ⟨gx_mem 96 (by decide +kernel) (by decide +kernel), List.forall_mem_cons.mpr ⟨cw_1243, fun _ h => absurd h List.not_mem_nil⟩⟩⟩⟩⟩⟩)), List.forall_mem_cons.mpr ⟨
  (gs_rn dX12_isDigit_12 (by decide)), fun _ h => absurd h List.not_mem_nil⟩⟩⟩⟩⟩⟩⟩
theorem kt_X12_isDigit (g : gx_T) : ∀ q ∈ k_X12_isDigit, gx_E g gc_md RX12 cX12_isDigit 1 (some .boolean) "isDigit" q.1 q.2 := kt_X12_isDigit_0 g
set_option maxRecDepth 20000 in
theorem dX12_takesNumber_0 : decode cX12_takesNumber 0 = .ok (.aload_n 0, 1) := by decide +kernel
set_option maxRecDepth 20000 in
theorem dX12_takesNumber_1 : decode cX12_takesNumber 1 = .ok (.invokevirtual 276, 3) := by decide +kernel
set_option maxRecDepth 20000 in
theorem dX12_takesNumber_4 : decode cX12_takesNumber 4 = .ok (.ifCond .ne 5, 3) := by decide +kernel
set_option maxRecDepth 20000 in
theorem dX12_takesNumber_7 : decode cX12_takesNumber 7 = .ok (.iconst 0, 1) := by decide +kernel
set_option maxRecDepth 20000 in
theorem dX12_takesNumber_8 : decode cX12_takesNumber 8 = .ok (.ireturn, 1) := by decide +kernel
set_option maxRecDepth 20000 in
theorem dX12_takesNumber_9 : decode cX12_takesNumber 9 = .ok (.aload_n 0, 1) := by decide +kernel
set_option maxRecDepth 20000 in
theorem dX12_takesNumber_10 : decode cX12_takesNumber 10 = .ok (.iconst 0, 1) := by decide +kernel
set_option maxRecDepth 20000 in
theorem dX12_takesNumber_11 : decode cX12_takesNumber 11 = .ok (.putfield 62, 3) := by decide +kernel
set_option maxRecDepth 20000 in
theorem dX12_takesNumber_14 : decode cX12_takesNumber 14 = .ok (.iconst 0, 1) := by decide +kernel
set_option maxRecDepth 20000 in
theorem dX12_takesNumber_15 : decode cX12_takesNumber 15 = .ok (.istore_n 1, 1) := by decide +kernel
set_option maxRecDepth 20000 in
theorem dX12_takesNumber_16 : decode cX12_takesNumber 16 = .ok (.iload_n 1, 1) := by decide +kernel
set_option maxRecDepth 20000 in
theorem dX12_takesNumber_17 : decode cX12_takesNumber 17 = .ok (.iconst 2, 1) := by decide +kernel
set_option maxRecDepth 20000 in
theorem dX12_takesNumber_18 : decode cX12_takesNumber 18 = .ok (.if_icmp .ge 45, 3) := by decide +kernel
set_option maxRecDepth 20000 in
theorem dX12_takesNumber_21 : decode cX12_takesNumber 21 = .ok (.aload_n 0, 1) := by decide +kernel
set_option maxRecDepth 20000 in
theorem dX12_takesNumber_22 : decode cX12_takesNumber 22 = .ok (.invokevirtual 276, 3) := by decide +kernel
set_option maxRecDepth 20000 in
theorem dX12_takesNumber_25 : decode cX12_takesNumber 25 = .ok (.ifCond .eq 38, 3) := by decide +kernel
set_option maxRecDepth 20000 in
theorem dX12_takesNumber_28 : decode cX12_takesNumber 28 = .ok (.aload_n 0, 1) := by decide +kernel
set_option maxRecDepth 20000 in
theorem dX12_takesNumber_29 : decode cX12_takesNumber 29 = .ok (.bipush 10, 2) := by decide +kernel
set_option maxRecDepth 20000 in
theorem dX12_takesNumber_31 : decode cX12_takesNumber 31 = .ok (.aload_n 0, 1) := by decide +kernel
set_option maxRecDepth 20000 in
theorem dX12_takesNumber_32 : decode cX12_takesNumber 32 = .ok (.getfield 62, 3) := by decide +kernel
set_option maxRecDepth 20000 in
theorem dX12_takesNumber_35 : decode cX12_takesNumber 35 = .ok (.imul, 1) := by decide +kernel
set_option maxRecDepth 20000 in
theorem dX12_takesNumber_36 : decode cX12_takesNumber 36 = .ok (.aload_n 0, 1) := by decide +kernel
set_option maxRecDepth 20000 in
theorem dX12_takesNumber_37 : decode cX12_takesNumber 37 = .ok (.invokevirtual 269, 3) := by decide +kernel
set_option maxRecDepth 20000 in
theorem dX12_takesNumber_40 : decode cX12_takesNumber 40 = .ok (.iadd, 1) := by decide +kernel
set_option maxRecDepth 20000 in
theorem dX12_takesNumber_41 : decode cX12_takesNumber 41 = .ok (.bipush 48, 2) := by decide +kernel
set_option maxRecDepth 20000 in
theorem dX12_takesNumber_43 : decode cX12_takesNumber 43 = .ok (.isub, 1) := by decide +kernel
set_option maxRecDepth 20000 in
theorem dX12_takesNumber_44 : decode cX12_takesNumber 44 = .ok (.putfield 62, 3) := by decide +kernel
set_option maxRecDepth 20000 in
theorem dX12_takesNumber_47 : decode cX12_takesNumber 47 = .ok (.aload_n 0, 1) := by decide +kernel
set_option maxRecDepth 20000 in
theorem dX12_takesNumber_48 : decode cX12_takesNumber 48 = .ok (.dup, 1) := by decide +kernel
set_option maxRecDepth 20000 in
theorem dX12_takesNumber_49 : decode cX12_takesNumber 49 = .ok (.getfield 59, 3) := by decide +kernel
set_option maxRecDepth 20000 in
theorem dX12_takesNumber_52 : decode cX12_takesNumber 52 = .ok (.iconst 1, 1) := by decide +kernel
set_option maxRecDepth 20000 in
theorem dX12_takesNumber_53 : decode cX12_takesNumber 53 = .ok (.iadd, 1) := by decide +kernel
set_option maxRecDepth 20000 in
theorem dX12_takesNumber_54 : decode cX12_takesNumber 54 = .ok (.putfield 59, 3) := by decide +kernel
set_option maxRecDepth 20000 in
theorem dX12_takesNumber_57 : decode cX12_takesNumber 57 = .ok (.iinc 1 1, 3) := by decide +kernel
set_option maxRecDepth 20000 in
theorem dX12_takesNumber_60 : decode cX12_takesNumber 60 = .ok (.goto (-44), 3) := by decide +kernel
set_option maxRecDepth 20000 in
theorem dX12_takesNumber_63 : decode cX12_takesNumber 63 = .ok (.iconst 1, 1) := by decide +kernel
set_option maxRecDepth 20000 in
theorem dX12_takesNumber_64 : decode cX12_takesNumber 64 = .ok (.ireturn, 1) := by decide +kernel
set_option maxRecDepth 20000 in
theorem kt_X12_takesNumber_0 (g : gx_T) : ∀ q ∈ k_X12_takesNumber_0, gx_E g gc_md RX12 cX12_takesNumber 2 (some .boolean) "takesNumber" q.1 q.2 := List.forall_mem_cons.mpr ⟨(gs_aload_n dX12_takesNumber_0 rfl), List.forall_mem_cons.mpr ⟨
  (gs_cv dX12_takesNumber_1 (fun q hq => by
      simp only [List.mem_cons, List.not_mem_nil, or_false] at hq
      subst hq
      exact Or.inl ⟨_, rfl, by decide, by decide +kernel, by decide +kernel, List.forall_mem_cons.mpr ⟨gx_mem 1308 (by decide +kernel) (by decide +kernel), List.forall_mem_cons.mpr ⟨gx_mem 1310 (by decide +kernel) (by decide +kernel), List.forall_mem_cons.mpr ⟨gx_mem 32 (by decide +kernel) (by decide +kernel), List.forall_mem_cons.mpr ⟨gx_mem 96 (by decide +kernel) (by decide +kernel), List.forall_mem_cons.mpr ⟨cw_1311, fun _ h => absurd h List.not_mem_nil⟩⟩⟩⟩⟩⟩)), List.forall_mem_cons.mpr ⟨
  (gs_if_ne dX12_takesNumber_4 rfl), List.forall_mem_cons.mpr ⟨
  (gs_iconst dX12_takesNumber_7 rfl), List.forall_mem_cons.mpr ⟨
  (gs_rn dX12_takesNumber_8 (by decide)), List.forall_mem_cons.mpr ⟨
  (gs_aload_n dX12_takesNumber_9 rfl), List.forall_mem_cons.mpr ⟨
  (gs_iconst dX12_takesNumber_10 rfl), List.forall_mem_cons.mpr ⟨
  (gs_pf (ref := "GriefCranesModel") dX12_takesNumber_11 (gx_mem 1014 (by decide +kernel) (by decide +kernel)) (Or.inl rfl) gf_12_17 (by decide +kernel)), List.forall_mem_cons.mpr ⟨
  (gs_iconst dX12_takesNumber_14 rfl), List.forall_mem_cons.mpr ⟨
  (gs_istore_n dX12_takesNumber_15 rfl), List.forall_mem_cons.mpr ⟨
  (gs_iload_n dX12_takesNumber_16 rfl), List.forall_mem_cons.mpr ⟨
  (gs_iconst dX12_takesNumber_17 rfl), List.forall_mem_cons.mpr ⟨
  (gs_icmp_ge dX12_takesNumber_18 rfl), List.forall_mem_cons.mpr ⟨
  (gs_aload_n dX12_takesNumber_21 rfl), List.forall_mem_cons.mpr ⟨
  (gs_cv dX12_takesNumber_22 (fun q hq => by
      simp only [List.mem_cons, List.not_mem_nil, or_false] at hq
      subst hq
      exact Or.inl ⟨_, rfl, by decide, by decide +kernel, by decide +kernel, List.forall_mem_cons.mpr ⟨gx_mem 1308 (by decide +kernel) (by decide +kernel), List.forall_mem_cons.mpr ⟨gx_mem 1310 (by decide +kernel) (by decide +kernel), List.forall_mem_cons.mpr ⟨gx_mem 32 (by decide +kernel) (by decide +kernel), List.forall_mem_cons.mpr ⟨gx_mem 96 (by decide +kernel) (by decide +kernel), List.forall_mem_cons.mpr ⟨cw_1311, fun _ h => absurd h List.not_mem_nil⟩⟩⟩⟩⟩⟩)), List.forall_mem_cons.mpr ⟨
  (gs_if_eq dX12_takesNumber_25 rfl), List.forall_mem_cons.mpr ⟨
  (gs_aload_n dX12_takesNumber_28 rfl), List.forall_mem_cons.mpr ⟨
  (gs_bipush dX12_takesNumber_29 rfl), List.forall_mem_cons.mpr ⟨
  (gs_aload_n dX12_takesNumber_31 rfl), List.forall_mem_cons.mpr ⟨
  (gs_gf (ref := "GriefCranesModel") dX12_takesNumber_32 (gx_mem 1014 (by decide +kernel) (by decide +kernel)) (Or.inl rfl) gf_12_17), List.forall_mem_cons.mpr ⟨
  (gs_imul dX12_takesNumber_35), List.forall_mem_cons.mpr ⟨
  (gs_aload_n dX12_takesNumber_36 rfl), List.forall_mem_cons.mpr ⟨
  (gs_cv dX12_takesNumber_37 (fun q hq => by
      simp only [List.mem_cons, List.not_mem_nil, or_false] at hq
      subst hq
      exact Or.inl ⟨_, rfl, by decide, by decide +kernel, by decide +kernel, List.forall_mem_cons.mpr ⟨gx_mem 1292 (by decide +kernel) (by decide +kernel), List.forall_mem_cons.mpr ⟨gx_mem 1294 (by decide +kernel) (by decide +kernel), List.forall_mem_cons.mpr ⟨gx_mem 28 (by decide +kernel) (by decide +kernel), List.forall_mem_cons.mpr ⟨gx_mem 96 (by decide +kernel) (by decide +kernel), List.forall_mem_cons.mpr ⟨cw_1295, fun _ h => absurd h List.not_mem_nil⟩⟩⟩⟩⟩⟩)), List.forall_mem_cons.mpr ⟨
  (gs_iadd dX12_takesNumber_40), List.forall_mem_cons.mpr ⟨
  (gs_bipush dX12_takesNumber_41 rfl), List.forall_mem_cons.mpr ⟨
  (gs_isub dX12_takesNumber_43), List.forall_mem_cons.mpr ⟨
  (gs_pf (ref := "GriefCranesModel") dX12_takesNumber_44 (gx_mem 1014 (by decide +kernel) (by decide +kernel)) (Or.inl rfl) gf_12_17 (by decide +kernel)), List.forall_mem_cons.mpr ⟨
  (gs_aload_n dX12_takesNumber_47 rfl), List.forall_mem_cons.mpr ⟨
  (gs_dup dX12_takesNumber_48), List.forall_mem_cons.mpr ⟨
  (gs_gf (ref := "GriefCranesModel") dX12_takesNumber_49 (gx_mem 1013 (by decide +kernel) (by decide +kernel)) (Or.inl rfl) gf_12_16), List.forall_mem_cons.mpr ⟨
  (gs_iconst dX12_takesNumber_52 rfl), List.forall_mem_cons.mpr ⟨
  (gs_iadd dX12_takesNumber_53), fun _ h => absurd h List.not_mem_nil⟩⟩⟩⟩⟩⟩⟩⟩⟩⟩⟩⟩⟩⟩⟩⟩⟩⟩⟩⟩⟩⟩⟩⟩⟩⟩⟩⟩⟩⟩⟩⟩
set_option maxRecDepth 20000 in
theorem kt_X12_takesNumber_1 (g : gx_T) : ∀ q ∈ k_X12_takesNumber_1, gx_E g gc_md RX12 cX12_takesNumber 2 (some .boolean) "takesNumber" q.1 q.2 := List.forall_mem_cons.mpr ⟨(gs_pf (ref := "GriefCranesModel") dX12_takesNumber_54 (gx_mem 1013 (by decide +kernel) (by decide +kernel)) (Or.inl rfl) gf_12_16 (by decide +kernel)), List.forall_mem_cons.mpr ⟨
  (gs_iinc dX12_takesNumber_57), List.forall_mem_cons.mpr ⟨
  (gs_goto dX12_takesNumber_60 rfl), List.forall_mem_cons.mpr ⟨
  (gs_iconst dX12_takesNumber_63 rfl), List.forall_mem_cons.mpr ⟨
  (gs_rn dX12_takesNumber_64 (by decide)), fun _ h => absurd h List.not_mem_nil⟩⟩⟩⟩⟩
theorem kt_X12_takesNumber (g : gx_T) : ∀ q ∈ k_X12_takesNumber, gx_E g gc_md RX12 cX12_takesNumber 2 (some .boolean) "takesNumber" q.1 q.2 := List.forall_mem_append.mpr ⟨kt_X12_takesNumber_0 g, kt_X12_takesNumber_1 g⟩
set_option maxRecDepth 20000 in
theorem dX12_emits_0 : decode cX12_emits 0 = .ok (.aload_n 0, 1) := by decide +kernel
set_option maxRecDepth 20000 in
theorem dX12_emits_1 : decode cX12_emits 1 = .ok (.getfield 83, 3) := by decide +kernel
set_option maxRecDepth 20000 in
theorem dX12_emits_4 : decode cX12_emits 4 = .ok (.aload_n 0, 1) := by decide +kernel
set_option maxRecDepth 20000 in
theorem dX12_emits_5 : decode cX12_emits 5 = .ok (.getfield 89, 3) := by decide +kernel
set_option maxRecDepth 20000 in
theorem dX12_emits_8 : decode cX12_emits 8 = .ok (.iload_n 1, 1) := by decide +kernel
set_option maxRecDepth 20000 in
theorem dX12_emits_9 : decode cX12_emits 9 = .ok (.iastore, 1) := by decide +kernel
set_option maxRecDepth 20000 in
theorem dX12_emits_10 : decode cX12_emits 10 = .ok (.aload_n 0, 1) := by decide +kernel
set_option maxRecDepth 20000 in
theorem dX12_emits_11 : decode cX12_emits 11 = .ok (.dup, 1) := by decide +kernel
set_option maxRecDepth 20000 in
theorem dX12_emits_12 : decode cX12_emits 12 = .ok (.getfield 89, 3) := by decide +kernel
set_option maxRecDepth 20000 in
theorem dX12_emits_15 : decode cX12_emits 15 = .ok (.iconst 1, 1) := by decide +kernel
set_option maxRecDepth 20000 in
theorem dX12_emits_16 : decode cX12_emits 16 = .ok (.iadd, 1) := by decide +kernel
set_option maxRecDepth 20000 in
theorem dX12_emits_17 : decode cX12_emits 17 = .ok (.putfield 89, 3) := by decide +kernel
set_option maxRecDepth 20000 in
theorem dX12_emits_20 : decode cX12_emits 20 = .ok (.return_, 1) := by decide +kernel
set_option maxRecDepth 20000 in
theorem kt_X12_emits_0 (g : gx_T) : ∀ q ∈ k_X12_emits_0, gx_E g gc_md RX12 cX12_emits 2 (none) "emits" q.1 q.2 := List.forall_mem_cons.mpr ⟨(gs_aload_n dX12_emits_0 rfl), List.forall_mem_cons.mpr ⟨
  (gs_gf (ref := "GriefCranesModel") dX12_emits_1 (gx_mem 1021 (by decide +kernel) (by decide +kernel)) (Or.inl rfl) gf_12_24), List.forall_mem_cons.mpr ⟨
  (gs_aload_n dX12_emits_4 rfl), List.forall_mem_cons.mpr ⟨
  (gs_gf (ref := "GriefCranesModel") dX12_emits_5 (gx_mem 1023 (by decide +kernel) (by decide +kernel)) (Or.inl rfl) gf_12_26), List.forall_mem_cons.mpr ⟨
  (gs_iload_n dX12_emits_8 rfl), List.forall_mem_cons.mpr ⟨
  (gs_iastore dX12_emits_9), List.forall_mem_cons.mpr ⟨
  (gs_aload_n dX12_emits_10 rfl), List.forall_mem_cons.mpr ⟨
  (gs_dup dX12_emits_11), List.forall_mem_cons.mpr ⟨
  (gs_gf (ref := "GriefCranesModel") dX12_emits_12 (gx_mem 1023 (by decide +kernel) (by decide +kernel)) (Or.inl rfl) gf_12_26), List.forall_mem_cons.mpr ⟨
  (gs_iconst dX12_emits_15 rfl), List.forall_mem_cons.mpr ⟨
  (gs_iadd dX12_emits_16), List.forall_mem_cons.mpr ⟨
  (gs_pf (ref := "GriefCranesModel") dX12_emits_17 (gx_mem 1023 (by decide +kernel) (by decide +kernel)) (Or.inl rfl) gf_12_26 (by decide +kernel)), List.forall_mem_cons.mpr ⟨
  (gs_rv dX12_emits_20), fun _ h => absurd h List.not_mem_nil⟩⟩⟩⟩⟩⟩⟩⟩⟩⟩⟩⟩⟩
theorem kt_X12_emits (g : gx_T) : ∀ q ∈ k_X12_emits, gx_E g gc_md RX12 cX12_emits 2 (none) "emits" q.1 q.2 := kt_X12_emits_0 g
set_option maxRecDepth 20000 in
theorem dX12_whole_0 : decode cX12_whole 0 = .ok (.aload_n 0, 1) := by decide +kernel
set_option maxRecDepth 20000 in
theorem dX12_whole_1 : decode cX12_whole 1 = .ok (.getfield 92, 3) := by decide +kernel
set_option maxRecDepth 20000 in
theorem dX12_whole_4 : decode cX12_whole 4 = .ok (.ifCond .le 48, 3) := by decide +kernel
set_option maxRecDepth 20000 in
theorem dX12_whole_7 : decode cX12_whole 7 = .ok (.aload_n 0, 1) := by decide +kernel
set_option maxRecDepth 20000 in
theorem dX12_whole_8 : decode cX12_whole 8 = .ok (.getfield 86, 3) := by decide +kernel
set_option maxRecDepth 20000 in
theorem dX12_whole_11 : decode cX12_whole 11 = .ok (.aload_n 0, 1) := by decide +kernel
set_option maxRecDepth 20000 in
theorem dX12_whole_12 : decode cX12_whole 12 = .ok (.getfield 92, 3) := by decide +kernel
set_option maxRecDepth 20000 in
theorem dX12_whole_15 : decode cX12_whole 15 = .ok (.iconst 1, 1) := by decide +kernel
set_option maxRecDepth 20000 in
theorem dX12_whole_16 : decode cX12_whole 16 = .ok (.isub, 1) := by decide +kernel
set_option maxRecDepth 20000 in
theorem dX12_whole_17 : decode cX12_whole 17 = .ok (.iaload, 1) := by decide +kernel
set_option maxRecDepth 20000 in
theorem dX12_whole_18 : decode cX12_whole 18 = .ok (.bipush 33, 2) := by decide +kernel
set_option maxRecDepth 20000 in
theorem dX12_whole_20 : decode cX12_whole 20 = .ok (.if_icmp .ne 32, 3) := by decide +kernel
set_option maxRecDepth 20000 in
theorem dX12_whole_23 : decode cX12_whole 23 = .ok (.aload_n 0, 1) := by decide +kernel
set_option maxRecDepth 20000 in
theorem dX12_whole_24 : decode cX12_whole 24 = .ok (.bipush (-33), 2) := by decide +kernel
set_option maxRecDepth 20000 in
theorem dX12_whole_26 : decode cX12_whole 26 = .ok (.invokevirtual 280, 3) := by decide +kernel
set_option maxRecDepth 20000 in
theorem dX12_whole_29 : decode cX12_whole 29 = .ok (.aload_n 0, 1) := by decide +kernel
set_option maxRecDepth 20000 in
theorem dX12_whole_30 : decode cX12_whole 30 = .ok (.dup, 1) := by decide +kernel
set_option maxRecDepth 20000 in
theorem dX12_whole_31 : decode cX12_whole 31 = .ok (.getfield 92, 3) := by decide +kernel
set_option maxRecDepth 20000 in
theorem dX12_whole_34 : decode cX12_whole 34 = .ok (.iconst 1, 1) := by decide +kernel
set_option maxRecDepth 20000 in
theorem dX12_whole_35 : decode cX12_whole 35 = .ok (.isub, 1) := by decide +kernel
set_option maxRecDepth 20000 in
theorem dX12_whole_36 : decode cX12_whole 36 = .ok (.putfield 92, 3) := by decide +kernel
set_option maxRecDepth 20000 in
theorem dX12_whole_39 : decode cX12_whole 39 = .ok (.aload_n 0, 1) := by decide +kernel
set_option maxRecDepth 20000 in
theorem dX12_whole_40 : decode cX12_whole 40 = .ok (.dup, 1) := by decide +kernel
set_option maxRecDepth 20000 in
theorem dX12_whole_41 : decode cX12_whole 41 = .ok (.getfield 95, 3) := by decide +kernel
set_option maxRecDepth 20000 in
theorem dX12_whole_44 : decode cX12_whole 44 = .ok (.iconst 1, 1) := by decide +kernel
set_option maxRecDepth 20000 in
theorem dX12_whole_45 : decode cX12_whole 45 = .ok (.isub, 1) := by decide +kernel
set_option maxRecDepth 20000 in
theorem dX12_whole_46 : decode cX12_whole 46 = .ok (.putfield 95, 3) := by decide +kernel
set_option maxRecDepth 20000 in
theorem dX12_whole_49 : decode cX12_whole 49 = .ok (.goto (-49), 3) := by decide +kernel
set_option maxRecDepth 20000 in
theorem dX12_whole_52 : decode cX12_whole 52 = .ok (.return_, 1) := by decide +kernel
set_option maxRecDepth 20000 in
theorem kt_X12_whole_0 (g : gx_T) : ∀ q ∈ k_X12_whole_0, gx_E g gc_md RX12 cX12_whole 1 (none) "whole" q.1 q.2 := List.forall_mem_cons.mpr ⟨(gs_aload_n dX12_whole_0 rfl), List.forall_mem_cons.mpr ⟨
  (gs_gf (ref := "GriefCranesModel") dX12_whole_1 (gx_mem 1024 (by decide +kernel) (by decide +kernel)) (Or.inl rfl) gf_12_27), List.forall_mem_cons.mpr ⟨
  (gs_if_le dX12_whole_4 rfl), List.forall_mem_cons.mpr ⟨
  (gs_aload_n dX12_whole_7 rfl), List.forall_mem_cons.mpr ⟨
  (gs_gf (ref := "GriefCranesModel") dX12_whole_8 (gx_mem 1022 (by decide +kernel) (by decide +kernel)) (Or.inl rfl) gf_12_25), List.forall_mem_cons.mpr ⟨
  (gs_aload_n dX12_whole_11 rfl), List.forall_mem_cons.mpr ⟨
  (gs_gf (ref := "GriefCranesModel") dX12_whole_12 (gx_mem 1024 (by decide +kernel) (by decide +kernel)) (Or.inl rfl) gf_12_27), List.forall_mem_cons.mpr ⟨
  (gs_iconst dX12_whole_15 rfl), List.forall_mem_cons.mpr ⟨
  (gs_isub dX12_whole_16), List.forall_mem_cons.mpr ⟨
  (gs_iaload dX12_whole_17), List.forall_mem_cons.mpr ⟨
  (gs_bipush dX12_whole_18 rfl), List.forall_mem_cons.mpr ⟨
  (gs_icmp_ne dX12_whole_20 rfl), List.forall_mem_cons.mpr ⟨
  (gs_aload_n dX12_whole_23 rfl), List.forall_mem_cons.mpr ⟨
  (gs_bipush dX12_whole_24 rfl), List.forall_mem_cons.mpr ⟨
  (gs_cv dX12_whole_26 (fun q hq => by
      simp only [List.mem_cons, List.not_mem_nil, or_false] at hq
      subst hq
      exact Or.inl ⟨_, rfl, by decide, by decide +kernel, by decide +kernel, List.forall_mem_cons.mpr ⟨gx_mem 1324 (by decide +kernel) (by decide +kernel), List.forall_mem_cons.mpr ⟨gx_mem 1326 (by decide +kernel) (by decide +kernel), List.forall_mem_cons.mpr ⟨gx_mem 36 (by decide +kernel) (by decide +kernel), List.forall_mem_cons.mpr ⟨gx_mem 96 (by decide +kernel) (by decide +kernel), List.forall_mem_cons.mpr ⟨cw_1327, fun _ h => absurd h List.not_mem_nil⟩⟩⟩⟩⟩⟩)), List.forall_mem_cons.mpr ⟨
  (gs_aload_n dX12_whole_29 rfl), List.forall_mem_cons.mpr ⟨
  (gs_dup dX12_whole_30), List.forall_mem_cons.mpr ⟨
  (gs_gf (ref := "GriefCranesModel") dX12_whole_31 (gx_mem 1024 (by decide +kernel) (by decide +kernel)) (Or.inl rfl) gf_12_27), List.forall_mem_cons.mpr ⟨
  (gs_iconst dX12_whole_34 rfl), List.forall_mem_cons.mpr ⟨
  (gs_isub dX12_whole_35), List.forall_mem_cons.mpr ⟨
  (gs_pf (ref := "GriefCranesModel") dX12_whole_36 (gx_mem 1024 (by decide +kernel) (by decide +kernel)) (Or.inl rfl) gf_12_27 (by decide +kernel)), List.forall_mem_cons.mpr ⟨
  (gs_aload_n dX12_whole_39 rfl), List.forall_mem_cons.mpr ⟨
  (gs_dup dX12_whole_40), List.forall_mem_cons.mpr ⟨
  (gs_gf (ref := "GriefCranesModel") dX12_whole_41 (gx_mem 1025 (by decide +kernel) (by decide +kernel)) (Or.inl rfl) gf_12_28), List.forall_mem_cons.mpr ⟨
  (gs_iconst dX12_whole_44 rfl), List.forall_mem_cons.mpr ⟨
  (gs_isub dX12_whole_45), List.forall_mem_cons.mpr ⟨
  (gs_pf (ref := "GriefCranesModel") dX12_whole_46 (gx_mem 1025 (by decide +kernel) (by decide +kernel)) (Or.inl rfl) gf_12_28 (by decide +kernel)), List.forall_mem_cons.mpr ⟨
  (gs_goto dX12_whole_49 rfl), List.forall_mem_cons.mpr ⟨
  (gs_rv dX12_whole_52), fun _ h => absurd h List.not_mem_nil⟩⟩⟩⟩⟩⟩⟩⟩⟩⟩⟩⟩⟩⟩⟩⟩⟩⟩⟩⟩⟩⟩⟩⟩⟩⟩⟩⟩⟩
theorem kt_X12_whole (g : gx_T) : ∀ q ∈ k_X12_whole, gx_E g gc_md RX12 cX12_whole 1 (none) "whole" q.1 q.2 := kt_X12_whole_0 g
