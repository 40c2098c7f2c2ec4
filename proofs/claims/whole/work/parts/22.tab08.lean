/-! decoded, and each instruction a row -/
set_option maxRecDepth 20000 in
theorem dX12_undo_0 : decode cX12_undo 0 = .ok (.aload_n 0, 1) := by decide +kernel
set_option maxRecDepth 20000 in
theorem dX12_undo_1 : decode cX12_undo 1 = .ok (.getfield 156, 3) := by decide +kernel
set_option maxRecDepth 20000 in
theorem dX12_undo_4 : decode cX12_undo 4 = .ok (.ifCond .ne 6, 3) := by decide +kernel
set_option maxRecDepth 20000 in
theorem dX12_undo_7 : decode cX12_undo 7 = .ok (.bipush (-3), 2) := by decide +kernel
set_option maxRecDepth 20000 in
theorem dX12_undo_9 : decode cX12_undo 9 = .ok (.ireturn, 1) := by decide +kernel
set_option maxRecDepth 20000 in
theorem dX12_undo_10 : decode cX12_undo 10 = .ok (.aload_n 0, 1) := by decide +kernel
set_option maxRecDepth 20000 in
theorem dX12_undo_11 : decode cX12_undo 11 = .ok (.aload_n 0, 1) := by decide +kernel
set_option maxRecDepth 20000 in
theorem dX12_undo_12 : decode cX12_undo 12 = .ok (.getfield 160, 3) := by decide +kernel
set_option maxRecDepth 20000 in
theorem dX12_undo_15 : decode cX12_undo 15 = .ok (.putfield 53, 3) := by decide +kernel
set_option maxRecDepth 20000 in
theorem dX12_undo_18 : decode cX12_undo 18 = .ok (.aload_n 0, 1) := by decide +kernel
set_option maxRecDepth 20000 in
theorem dX12_undo_19 : decode cX12_undo 19 = .ok (.aload_n 0, 1) := by decide +kernel
set_option maxRecDepth 20000 in
theorem dX12_undo_20 : decode cX12_undo 20 = .ok (.getfield 163, 3) := by decide +kernel
set_option maxRecDepth 20000 in
theorem dX12_undo_23 : decode cX12_undo 23 = .ok (.putfield 7, 3) := by decide +kernel
set_option maxRecDepth 20000 in
theorem dX12_undo_26 : decode cX12_undo 26 = .ok (.aload_n 0, 1) := by decide +kernel
set_option maxRecDepth 20000 in
theorem dX12_undo_27 : decode cX12_undo 27 = .ok (.aload_n 0, 1) := by decide +kernel
set_option maxRecDepth 20000 in
theorem dX12_undo_28 : decode cX12_undo 28 = .ok (.getfield 166, 3) := by decide +kernel
set_option maxRecDepth 20000 in
theorem dX12_undo_31 : decode cX12_undo 31 = .ok (.putfield 13, 3) := by decide +kernel
set_option maxRecDepth 20000 in
theorem dX12_undo_34 : decode cX12_undo 34 = .ok (.aload_n 0, 1) := by decide +kernel
set_option maxRecDepth 20000 in
theorem dX12_undo_35 : decode cX12_undo 35 = .ok (.aload_n 0, 1) := by decide +kernel
set_option maxRecDepth 20000 in
theorem dX12_undo_36 : decode cX12_undo 36 = .ok (.getfield 169, 3) := by decide +kernel
set_option maxRecDepth 20000 in
theorem dX12_undo_39 : decode cX12_undo 39 = .ok (.putfield 16, 3) := by decide +kernel
set_option maxRecDepth 20000 in
theorem dX12_undo_42 : decode cX12_undo 42 = .ok (.aload_n 0, 1) := by decide +kernel
set_option maxRecDepth 20000 in
theorem dX12_undo_43 : decode cX12_undo 43 = .ok (.aload_n 0, 1) := by decide +kernel
set_option maxRecDepth 20000 in
theorem dX12_undo_44 : decode cX12_undo 44 = .ok (.getfield 172, 3) := by decide +kernel
set_option maxRecDepth 20000 in
theorem dX12_undo_47 : decode cX12_undo 47 = .ok (.putfield 126, 3) := by decide +kernel
set_option maxRecDepth 20000 in
theorem dX12_undo_50 : decode cX12_undo 50 = .ok (.aload_n 0, 1) := by decide +kernel
set_option maxRecDepth 20000 in
theorem dX12_undo_51 : decode cX12_undo 51 = .ok (.aload_n 0, 1) := by decide +kernel
set_option maxRecDepth 20000 in
theorem dX12_undo_52 : decode cX12_undo 52 = .ok (.getfield 175, 3) := by decide +kernel
set_option maxRecDepth 20000 in
theorem dX12_undo_55 : decode cX12_undo 55 = .ok (.putfield 138, 3) := by decide +kernel
set_option maxRecDepth 20000 in
theorem dX12_undo_58 : decode cX12_undo 58 = .ok (.aload_n 0, 1) := by decide +kernel
set_option maxRecDepth 20000 in
theorem dX12_undo_59 : decode cX12_undo 59 = .ok (.aload_n 0, 1) := by decide +kernel
set_option maxRecDepth 20000 in
theorem dX12_undo_60 : decode cX12_undo 60 = .ok (.getfield 178, 3) := by decide +kernel
set_option maxRecDepth 20000 in
theorem dX12_undo_63 : decode cX12_undo 63 = .ok (.putfield 141, 3) := by decide +kernel
set_option maxRecDepth 20000 in
theorem dX12_undo_66 : decode cX12_undo 66 = .ok (.iconst 0, 1) := by decide +kernel
set_option maxRecDepth 20000 in
theorem dX12_undo_67 : decode cX12_undo 67 = .ok (.istore_n 1, 1) := by decide +kernel
set_option maxRecDepth 20000 in
theorem dX12_undo_68 : decode cX12_undo 68 = .ok (.iload_n 1, 1) := by decide +kernel
set_option maxRecDepth 20000 in
theorem dX12_undo_69 : decode cX12_undo 69 = .ok (.iconst 4, 1) := by decide +kernel
set_option maxRecDepth 20000 in
theorem dX12_undo_70 : decode cX12_undo 70 = .ok (.if_icmp .ge 21, 3) := by decide +kernel
set_option maxRecDepth 20000 in
theorem dX12_undo_73 : decode cX12_undo 73 = .ok (.aload_n 0, 1) := by decide +kernel
set_option maxRecDepth 20000 in
theorem dX12_undo_74 : decode cX12_undo 74 = .ok (.getfield 19, 3) := by decide +kernel
set_option maxRecDepth 20000 in
theorem dX12_undo_77 : decode cX12_undo 77 = .ok (.iload_n 1, 1) := by decide +kernel
set_option maxRecDepth 20000 in
theorem dX12_undo_78 : decode cX12_undo 78 = .ok (.aload_n 0, 1) := by decide +kernel
set_option maxRecDepth 20000 in
theorem dX12_undo_79 : decode cX12_undo 79 = .ok (.getfield 181, 3) := by decide +kernel
set_option maxRecDepth 20000 in
theorem dX12_undo_82 : decode cX12_undo 82 = .ok (.iload_n 1, 1) := by decide +kernel
set_option maxRecDepth 20000 in
theorem dX12_undo_83 : decode cX12_undo 83 = .ok (.iaload, 1) := by decide +kernel
set_option maxRecDepth 20000 in
theorem dX12_undo_84 : decode cX12_undo 84 = .ok (.iastore, 1) := by decide +kernel
set_option maxRecDepth 20000 in
theorem dX12_undo_85 : decode cX12_undo 85 = .ok (.iinc 1 1, 3) := by decide +kernel
set_option maxRecDepth 20000 in
theorem dX12_undo_88 : decode cX12_undo 88 = .ok (.goto (-20), 3) := by decide +kernel
set_option maxRecDepth 20000 in
theorem dX12_undo_91 : decode cX12_undo 91 = .ok (.iconst 0, 1) := by decide +kernel
set_option maxRecDepth 20000 in
theorem dX12_undo_92 : decode cX12_undo 92 = .ok (.istore_n 1, 1) := by decide +kernel
set_option maxRecDepth 20000 in
theorem dX12_undo_93 : decode cX12_undo 93 = .ok (.iload_n 1, 1) := by decide +kernel
set_option maxRecDepth 20000 in
theorem dX12_undo_94 : decode cX12_undo 94 = .ok (.bipush 6, 2) := by decide +kernel
set_option maxRecDepth 20000 in
theorem dX12_undo_96 : decode cX12_undo 96 = .ok (.if_icmp .ge 45, 3) := by decide +kernel
set_option maxRecDepth 20000 in
theorem dX12_undo_99 : decode cX12_undo 99 = .ok (.aload_n 0, 1) := by decide +kernel
set_option maxRecDepth 20000 in
theorem dX12_undo_100 : decode cX12_undo 100 = .ok (.getfield 23, 3) := by decide +kernel
set_option maxRecDepth 20000 in
theorem dX12_undo_103 : decode cX12_undo 103 = .ok (.iload_n 1, 1) := by decide +kernel
set_option maxRecDepth 20000 in
theorem dX12_undo_104 : decode cX12_undo 104 = .ok (.aload_n 0, 1) := by decide +kernel
set_option maxRecDepth 20000 in
theorem dX12_undo_105 : decode cX12_undo 105 = .ok (.getfield 184, 3) := by decide +kernel
set_option maxRecDepth 20000 in
theorem dX12_undo_108 : decode cX12_undo 108 = .ok (.iload_n 1, 1) := by decide +kernel
set_option maxRecDepth 20000 in
theorem dX12_undo_109 : decode cX12_undo 109 = .ok (.iaload, 1) := by decide +kernel
set_option maxRecDepth 20000 in
theorem dX12_undo_110 : decode cX12_undo 110 = .ok (.iastore, 1) := by decide +kernel
set_option maxRecDepth 20000 in
theorem dX12_undo_111 : decode cX12_undo 111 = .ok (.aload_n 0, 1) := by decide +kernel
set_option maxRecDepth 20000 in
theorem dX12_undo_112 : decode cX12_undo 112 = .ok (.getfield 26, 3) := by decide +kernel
set_option maxRecDepth 20000 in
theorem dX12_undo_115 : decode cX12_undo 115 = .ok (.iload_n 1, 1) := by decide +kernel
set_option maxRecDepth 20000 in
theorem dX12_undo_116 : decode cX12_undo 116 = .ok (.aload_n 0, 1) := by decide +kernel
set_option maxRecDepth 20000 in
theorem dX12_undo_117 : decode cX12_undo 117 = .ok (.getfield 187, 3) := by decide +kernel
set_option maxRecDepth 20000 in
theorem dX12_undo_120 : decode cX12_undo 120 = .ok (.iload_n 1, 1) := by decide +kernel
set_option maxRecDepth 20000 in
theorem dX12_undo_121 : decode cX12_undo 121 = .ok (.iaload, 1) := by decide +kernel
set_option maxRecDepth 20000 in
theorem dX12_undo_122 : decode cX12_undo 122 = .ok (.iastore, 1) := by decide +kernel
set_option maxRecDepth 20000 in
theorem dX12_undo_123 : decode cX12_undo 123 = .ok (.aload_n 0, 1) := by decide +kernel
set_option maxRecDepth 20000 in
theorem dX12_undo_124 : decode cX12_undo 124 = .ok (.getfield 29, 3) := by decide +kernel
set_option maxRecDepth 20000 in
theorem dX12_undo_127 : decode cX12_undo 127 = .ok (.iload_n 1, 1) := by decide +kernel
set_option maxRecDepth 20000 in
theorem dX12_undo_128 : decode cX12_undo 128 = .ok (.aload_n 0, 1) := by decide +kernel
set_option maxRecDepth 20000 in
theorem dX12_undo_129 : decode cX12_undo 129 = .ok (.getfield 190, 3) := by decide +kernel
set_option maxRecDepth 20000 in
theorem dX12_undo_132 : decode cX12_undo 132 = .ok (.iload_n 1, 1) := by decide +kernel
set_option maxRecDepth 20000 in
theorem dX12_undo_133 : decode cX12_undo 133 = .ok (.iaload, 1) := by decide +kernel
set_option maxRecDepth 20000 in
theorem dX12_undo_134 : decode cX12_undo 134 = .ok (.iastore, 1) := by decide +kernel
set_option maxRecDepth 20000 in
theorem dX12_undo_135 : decode cX12_undo 135 = .ok (.iinc 1 1, 3) := by decide +kernel
set_option maxRecDepth 20000 in
theorem dX12_undo_138 : decode cX12_undo 138 = .ok (.goto (-45), 3) := by decide +kernel
set_option maxRecDepth 20000 in
theorem dX12_undo_141 : decode cX12_undo 141 = .ok (.iconst 0, 1) := by decide +kernel
set_option maxRecDepth 20000 in
theorem dX12_undo_142 : decode cX12_undo 142 = .ok (.istore_n 1, 1) := by decide +kernel
set_option maxRecDepth 20000 in
theorem dX12_undo_143 : decode cX12_undo 143 = .ok (.iload_n 1, 1) := by decide +kernel
set_option maxRecDepth 20000 in
theorem dX12_undo_144 : decode cX12_undo 144 = .ok (.bipush 24, 2) := by decide +kernel
set_option maxRecDepth 20000 in
theorem dX12_undo_146 : decode cX12_undo 146 = .ok (.if_icmp .ge 21, 3) := by decide +kernel
set_option maxRecDepth 20000 in
theorem dX12_undo_149 : decode cX12_undo 149 = .ok (.aload_n 0, 1) := by decide +kernel
set_option maxRecDepth 20000 in
theorem dX12_undo_150 : decode cX12_undo 150 = .ok (.getfield 32, 3) := by decide +kernel
set_option maxRecDepth 20000 in
theorem dX12_undo_153 : decode cX12_undo 153 = .ok (.iload_n 1, 1) := by decide +kernel
set_option maxRecDepth 20000 in
theorem dX12_undo_154 : decode cX12_undo 154 = .ok (.aload_n 0, 1) := by decide +kernel
set_option maxRecDepth 20000 in
theorem dX12_undo_155 : decode cX12_undo 155 = .ok (.getfield 193, 3) := by decide +kernel
set_option maxRecDepth 20000 in
theorem dX12_undo_158 : decode cX12_undo 158 = .ok (.iload_n 1, 1) := by decide +kernel
set_option maxRecDepth 20000 in
theorem dX12_undo_159 : decode cX12_undo 159 = .ok (.iaload, 1) := by decide +kernel
set_option maxRecDepth 20000 in
theorem dX12_undo_160 : decode cX12_undo 160 = .ok (.iastore, 1) := by decide +kernel
set_option maxRecDepth 20000 in
theorem dX12_undo_161 : decode cX12_undo 161 = .ok (.iinc 1 1, 3) := by decide +kernel
set_option maxRecDepth 20000 in
theorem dX12_undo_164 : decode cX12_undo 164 = .ok (.goto (-21), 3) := by decide +kernel
set_option maxRecDepth 20000 in
theorem dX12_undo_167 : decode cX12_undo 167 = .ok (.iconst 0, 1) := by decide +kernel
set_option maxRecDepth 20000 in
theorem dX12_undo_168 : decode cX12_undo 168 = .ok (.istore_n 1, 1) := by decide +kernel
set_option maxRecDepth 20000 in
theorem dX12_undo_169 : decode cX12_undo 169 = .ok (.iload_n 1, 1) := by decide +kernel
set_option maxRecDepth 20000 in
theorem dX12_undo_170 : decode cX12_undo 170 = .ok (.bipush 8, 2) := by decide +kernel
set_option maxRecDepth 20000 in
theorem dX12_undo_172 : decode cX12_undo 172 = .ok (.if_icmp .ge 93, 3) := by decide +kernel
set_option maxRecDepth 20000 in
theorem dX12_undo_175 : decode cX12_undo 175 = .ok (.aload_n 0, 1) := by decide +kernel
set_option maxRecDepth 20000 in
theorem dX12_undo_176 : decode cX12_undo 176 = .ok (.getfield 35, 3) := by decide +kernel
set_option maxRecDepth 20000 in
theorem dX12_undo_179 : decode cX12_undo 179 = .ok (.iload_n 1, 1) := by decide +kernel
set_option maxRecDepth 20000 in
theorem dX12_undo_180 : decode cX12_undo 180 = .ok (.aload_n 0, 1) := by decide +kernel
set_option maxRecDepth 20000 in
theorem dX12_undo_181 : decode cX12_undo 181 = .ok (.getfield 196, 3) := by decide +kernel
set_option maxRecDepth 20000 in
theorem dX12_undo_184 : decode cX12_undo 184 = .ok (.iload_n 1, 1) := by decide +kernel
set_option maxRecDepth 20000 in
theorem dX12_undo_185 : decode cX12_undo 185 = .ok (.iaload, 1) := by decide +kernel
set_option maxRecDepth 20000 in
theorem dX12_undo_186 : decode cX12_undo 186 = .ok (.iastore, 1) := by decide +kernel
set_option maxRecDepth 20000 in
theorem dX12_undo_187 : decode cX12_undo 187 = .ok (.aload_n 0, 1) := by decide +kernel
set_option maxRecDepth 20000 in
theorem dX12_undo_188 : decode cX12_undo 188 = .ok (.getfield 38, 3) := by decide +kernel
set_option maxRecDepth 20000 in
theorem dX12_undo_191 : decode cX12_undo 191 = .ok (.iload_n 1, 1) := by decide +kernel
set_option maxRecDepth 20000 in
theorem dX12_undo_192 : decode cX12_undo 192 = .ok (.aload_n 0, 1) := by decide +kernel
set_option maxRecDepth 20000 in
theorem dX12_undo_193 : decode cX12_undo 193 = .ok (.getfield 199, 3) := by decide +kernel
set_option maxRecDepth 20000 in
theorem dX12_undo_196 : decode cX12_undo 196 = .ok (.iload_n 1, 1) := by decide +kernel
set_option maxRecDepth 20000 in
theorem dX12_undo_197 : decode cX12_undo 197 = .ok (.iaload, 1) := by decide +kernel
set_option maxRecDepth 20000 in
theorem dX12_undo_198 : decode cX12_undo 198 = .ok (.iastore, 1) := by decide +kernel
set_option maxRecDepth 20000 in
theorem dX12_undo_199 : decode cX12_undo 199 = .ok (.aload_n 0, 1) := by decide +kernel
set_option maxRecDepth 20000 in
theorem dX12_undo_200 : decode cX12_undo 200 = .ok (.getfield 41, 3) := by decide +kernel
set_option maxRecDepth 20000 in
theorem dX12_undo_203 : decode cX12_undo 203 = .ok (.iload_n 1, 1) := by decide +kernel
set_option maxRecDepth 20000 in
theorem dX12_undo_204 : decode cX12_undo 204 = .ok (.aload_n 0, 1) := by decide +kernel
set_option maxRecDepth 20000 in
theorem dX12_undo_205 : decode cX12_undo 205 = .ok (.getfield 202, 3) := by decide +kernel
set_option maxRecDepth 20000 in
theorem dX12_undo_208 : decode cX12_undo 208 = .ok (.iload_n 1, 1) := by decide +kernel
set_option maxRecDepth 20000 in
theorem dX12_undo_209 : decode cX12_undo 209 = .ok (.iaload, 1) := by decide +kernel
set_option maxRecDepth 20000 in
theorem dX12_undo_210 : decode cX12_undo 210 = .ok (.iastore, 1) := by decide +kernel
set_option maxRecDepth 20000 in
theorem dX12_undo_211 : decode cX12_undo 211 = .ok (.aload_n 0, 1) := by decide +kernel
set_option maxRecDepth 20000 in
theorem dX12_undo_212 : decode cX12_undo 212 = .ok (.getfield 44, 3) := by decide +kernel
set_option maxRecDepth 20000 in
theorem dX12_undo_215 : decode cX12_undo 215 = .ok (.iload_n 1, 1) := by decide +kernel
set_option maxRecDepth 20000 in
theorem dX12_undo_216 : decode cX12_undo 216 = .ok (.aload_n 0, 1) := by decide +kernel
set_option maxRecDepth 20000 in
theorem dX12_undo_217 : decode cX12_undo 217 = .ok (.getfield 205, 3) := by decide +kernel
set_option maxRecDepth 20000 in
theorem dX12_undo_220 : decode cX12_undo 220 = .ok (.iload_n 1, 1) := by decide +kernel
set_option maxRecDepth 20000 in
theorem dX12_undo_221 : decode cX12_undo 221 = .ok (.iaload, 1) := by decide +kernel
set_option maxRecDepth 20000 in
theorem dX12_undo_222 : decode cX12_undo 222 = .ok (.iastore, 1) := by decide +kernel
set_option maxRecDepth 20000 in
theorem dX12_undo_223 : decode cX12_undo 223 = .ok (.aload_n 0, 1) := by decide +kernel
set_option maxRecDepth 20000 in
theorem dX12_undo_224 : decode cX12_undo 224 = .ok (.getfield 47, 3) := by decide +kernel
set_option maxRecDepth 20000 in
theorem dX12_undo_227 : decode cX12_undo 227 = .ok (.iload_n 1, 1) := by decide +kernel
set_option maxRecDepth 20000 in
theorem dX12_undo_228 : decode cX12_undo 228 = .ok (.aload_n 0, 1) := by decide +kernel
set_option maxRecDepth 20000 in
theorem dX12_undo_229 : decode cX12_undo 229 = .ok (.getfield 208, 3) := by decide +kernel
set_option maxRecDepth 20000 in
theorem dX12_undo_232 : decode cX12_undo 232 = .ok (.iload_n 1, 1) := by decide +kernel
set_option maxRecDepth 20000 in
theorem dX12_undo_233 : decode cX12_undo 233 = .ok (.iaload, 1) := by decide +kernel
set_option maxRecDepth 20000 in
theorem dX12_undo_234 : decode cX12_undo 234 = .ok (.iastore, 1) := by decide +kernel
set_option maxRecDepth 20000 in
theorem dX12_undo_235 : decode cX12_undo 235 = .ok (.aload_n 0, 1) := by decide +kernel
set_option maxRecDepth 20000 in
theorem dX12_undo_236 : decode cX12_undo 236 = .ok (.getfield 150, 3) := by decide +kernel
set_option maxRecDepth 20000 in
theorem dX12_undo_239 : decode cX12_undo 239 = .ok (.iload_n 1, 1) := by decide +kernel
set_option maxRecDepth 20000 in
theorem dX12_undo_240 : decode cX12_undo 240 = .ok (.aload_n 0, 1) := by decide +kernel
set_option maxRecDepth 20000 in
theorem dX12_undo_241 : decode cX12_undo 241 = .ok (.getfield 226, 3) := by decide +kernel
set_option maxRecDepth 20000 in
theorem dX12_undo_244 : decode cX12_undo 244 = .ok (.iload_n 1, 1) := by decide +kernel
set_option maxRecDepth 20000 in
theorem dX12_undo_245 : decode cX12_undo 245 = .ok (.iaload, 1) := by decide +kernel
set_option maxRecDepth 20000 in
theorem dX12_undo_246 : decode cX12_undo 246 = .ok (.iastore, 1) := by decide +kernel
set_option maxRecDepth 20000 in
theorem dX12_undo_247 : decode cX12_undo 247 = .ok (.aload_n 0, 1) := by decide +kernel
set_option maxRecDepth 20000 in
theorem dX12_undo_248 : decode cX12_undo 248 = .ok (.getfield 153, 3) := by decide +kernel
set_option maxRecDepth 20000 in
theorem dX12_undo_251 : decode cX12_undo 251 = .ok (.iload_n 1, 1) := by decide +kernel
set_option maxRecDepth 20000 in
theorem dX12_undo_252 : decode cX12_undo 252 = .ok (.aload_n 0, 1) := by decide +kernel
set_option maxRecDepth 20000 in
theorem dX12_undo_253 : decode cX12_undo 253 = .ok (.getfield 229, 3) := by decide +kernel
set_option maxRecDepth 20000 in
theorem dX12_undo_256 : decode cX12_undo 256 = .ok (.iload_n 1, 1) := by decide +kernel
set_option maxRecDepth 20000 in
theorem dX12_undo_257 : decode cX12_undo 257 = .ok (.iaload, 1) := by decide +kernel
set_option maxRecDepth 20000 in
theorem dX12_undo_258 : decode cX12_undo 258 = .ok (.iastore, 1) := by decide +kernel
set_option maxRecDepth 20000 in
theorem dX12_undo_259 : decode cX12_undo 259 = .ok (.iinc 1 1, 3) := by decide +kernel
set_option maxRecDepth 20000 in
theorem dX12_undo_262 : decode cX12_undo 262 = .ok (.goto (-93), 3) := by decide +kernel
set_option maxRecDepth 20000 in
theorem dX12_undo_265 : decode cX12_undo 265 = .ok (.iconst 0, 1) := by decide +kernel
set_option maxRecDepth 20000 in
theorem dX12_undo_266 : decode cX12_undo 266 = .ok (.istore_n 1, 1) := by decide +kernel
set_option maxRecDepth 20000 in
theorem dX12_undo_267 : decode cX12_undo 267 = .ok (.iload_n 1, 1) := by decide +kernel
set_option maxRecDepth 20000 in
theorem dX12_undo_268 : decode cX12_undo 268 = .ok (.iconst 5, 1) := by decide +kernel
set_option maxRecDepth 20000 in
theorem dX12_undo_269 : decode cX12_undo 269 = .ok (.if_icmp .ge 45, 3) := by decide +kernel
set_option maxRecDepth 20000 in
theorem dX12_undo_272 : decode cX12_undo 272 = .ok (.aload_n 0, 1) := by decide +kernel
set_option maxRecDepth 20000 in
theorem dX12_undo_273 : decode cX12_undo 273 = .ok (.getfield 129, 3) := by decide +kernel
set_option maxRecDepth 20000 in
theorem dX12_undo_276 : decode cX12_undo 276 = .ok (.iload_n 1, 1) := by decide +kernel
set_option maxRecDepth 20000 in
theorem dX12_undo_277 : decode cX12_undo 277 = .ok (.aload_n 0, 1) := by decide +kernel
set_option maxRecDepth 20000 in
theorem dX12_undo_278 : decode cX12_undo 278 = .ok (.getfield 211, 3) := by decide +kernel
set_option maxRecDepth 20000 in
theorem dX12_undo_281 : decode cX12_undo 281 = .ok (.iload_n 1, 1) := by decide +kernel
set_option maxRecDepth 20000 in
theorem dX12_undo_282 : decode cX12_undo 282 = .ok (.iaload, 1) := by decide +kernel
set_option maxRecDepth 20000 in
theorem dX12_undo_283 : decode cX12_undo 283 = .ok (.iastore, 1) := by decide +kernel
set_option maxRecDepth 20000 in
theorem dX12_undo_284 : decode cX12_undo 284 = .ok (.aload_n 0, 1) := by decide +kernel
set_option maxRecDepth 20000 in
theorem dX12_undo_285 : decode cX12_undo 285 = .ok (.getfield 132, 3) := by decide +kernel
set_option maxRecDepth 20000 in
theorem dX12_undo_288 : decode cX12_undo 288 = .ok (.iload_n 1, 1) := by decide +kernel
set_option maxRecDepth 20000 in
theorem dX12_undo_289 : decode cX12_undo 289 = .ok (.aload_n 0, 1) := by decide +kernel
set_option maxRecDepth 20000 in
theorem dX12_undo_290 : decode cX12_undo 290 = .ok (.getfield 214, 3) := by decide +kernel
set_option maxRecDepth 20000 in
theorem dX12_undo_293 : decode cX12_undo 293 = .ok (.iload_n 1, 1) := by decide +kernel
set_option maxRecDepth 20000 in
theorem dX12_undo_294 : decode cX12_undo 294 = .ok (.iaload, 1) := by decide +kernel
set_option maxRecDepth 20000 in
theorem dX12_undo_295 : decode cX12_undo 295 = .ok (.iastore, 1) := by decide +kernel
set_option maxRecDepth 20000 in
theorem dX12_undo_296 : decode cX12_undo 296 = .ok (.aload_n 0, 1) := by decide +kernel
set_option maxRecDepth 20000 in
theorem dX12_undo_297 : decode cX12_undo 297 = .ok (.getfield 135, 3) := by decide +kernel
set_option maxRecDepth 20000 in
theorem dX12_undo_300 : decode cX12_undo 300 = .ok (.iload_n 1, 1) := by decide +kernel
set_option maxRecDepth 20000 in
theorem dX12_undo_301 : decode cX12_undo 301 = .ok (.aload_n 0, 1) := by decide +kernel
set_option maxRecDepth 20000 in
theorem dX12_undo_302 : decode cX12_undo 302 = .ok (.getfield 217, 3) := by decide +kernel
set_option maxRecDepth 20000 in
theorem dX12_undo_305 : decode cX12_undo 305 = .ok (.iload_n 1, 1) := by decide +kernel
set_option maxRecDepth 20000 in
theorem dX12_undo_306 : decode cX12_undo 306 = .ok (.iaload, 1) := by decide +kernel
set_option maxRecDepth 20000 in
theorem dX12_undo_307 : decode cX12_undo 307 = .ok (.iastore, 1) := by decide +kernel
set_option maxRecDepth 20000 in
theorem dX12_undo_308 : decode cX12_undo 308 = .ok (.iinc 1 1, 3) := by decide +kernel
set_option maxRecDepth 20000 in
theorem dX12_undo_311 : decode cX12_undo 311 = .ok (.goto (-44), 3) := by decide +kernel
set_option maxRecDepth 20000 in
theorem dX12_undo_314 : decode cX12_undo 314 = .ok (.iconst 0, 1) := by decide +kernel
set_option maxRecDepth 20000 in
theorem dX12_undo_315 : decode cX12_undo 315 = .ok (.istore_n 1, 1) := by decide +kernel
set_option maxRecDepth 20000 in
theorem dX12_undo_316 : decode cX12_undo 316 = .ok (.iload_n 1, 1) := by decide +kernel
set_option maxRecDepth 20000 in
theorem dX12_undo_317 : decode cX12_undo 317 = .ok (.bipush 10, 2) := by decide +kernel
set_option maxRecDepth 20000 in
theorem dX12_undo_319 : decode cX12_undo 319 = .ok (.if_icmp .ge 33, 3) := by decide +kernel
set_option maxRecDepth 20000 in
theorem dX12_undo_322 : decode cX12_undo 322 = .ok (.aload_n 0, 1) := by decide +kernel
set_option maxRecDepth 20000 in
theorem dX12_undo_323 : decode cX12_undo 323 = .ok (.getfield 144, 3) := by decide +kernel
set_option maxRecDepth 20000 in
theorem dX12_undo_326 : decode cX12_undo 326 = .ok (.iload_n 1, 1) := by decide +kernel
set_option maxRecDepth 20000 in
theorem dX12_undo_327 : decode cX12_undo 327 = .ok (.aload_n 0, 1) := by decide +kernel
set_option maxRecDepth 20000 in
theorem dX12_undo_328 : decode cX12_undo 328 = .ok (.getfield 220, 3) := by decide +kernel
set_option maxRecDepth 20000 in
theorem dX12_undo_331 : decode cX12_undo 331 = .ok (.iload_n 1, 1) := by decide +kernel
set_option maxRecDepth 20000 in
theorem dX12_undo_332 : decode cX12_undo 332 = .ok (.iaload, 1) := by decide +kernel
set_option maxRecDepth 20000 in
theorem dX12_undo_333 : decode cX12_undo 333 = .ok (.iastore, 1) := by decide +kernel
set_option maxRecDepth 20000 in
theorem dX12_undo_334 : decode cX12_undo 334 = .ok (.aload_n 0, 1) := by decide +kernel
set_option maxRecDepth 20000 in
theorem dX12_undo_335 : decode cX12_undo 335 = .ok (.getfield 147, 3) := by decide +kernel
set_option maxRecDepth 20000 in
theorem dX12_undo_338 : decode cX12_undo 338 = .ok (.iload_n 1, 1) := by decide +kernel
set_option maxRecDepth 20000 in
theorem dX12_undo_339 : decode cX12_undo 339 = .ok (.aload_n 0, 1) := by decide +kernel
set_option maxRecDepth 20000 in
theorem dX12_undo_340 : decode cX12_undo 340 = .ok (.getfield 223, 3) := by decide +kernel
set_option maxRecDepth 20000 in
theorem dX12_undo_343 : decode cX12_undo 343 = .ok (.iload_n 1, 1) := by decide +kernel
set_option maxRecDepth 20000 in
theorem dX12_undo_344 : decode cX12_undo 344 = .ok (.iaload, 1) := by decide +kernel
set_option maxRecDepth 20000 in
theorem dX12_undo_345 : decode cX12_undo 345 = .ok (.iastore, 1) := by decide +kernel
set_option maxRecDepth 20000 in
theorem dX12_undo_346 : decode cX12_undo 346 = .ok (.iinc 1 1, 3) := by decide +kernel
set_option maxRecDepth 20000 in
theorem dX12_undo_349 : decode cX12_undo 349 = .ok (.goto (-33), 3) := by decide +kernel
set_option maxRecDepth 20000 in
theorem dX12_undo_352 : decode cX12_undo 352 = .ok (.aload_n 0, 1) := by decide +kernel
set_option maxRecDepth 20000 in
theorem dX12_undo_353 : decode cX12_undo 353 = .ok (.getfield 7, 3) := by decide +kernel
set_option maxRecDepth 20000 in
theorem dX12_undo_356 : decode cX12_undo 356 = .ok (.ireturn, 1) := by decide +kernel
set_option maxRecDepth 20000 in
theorem kt_X12_undo_0 (g : gx_T) : ∀ q ∈ k_X12_undo_0, gx_E g gc_md RX12 cX12_undo 2 (some .int) "undo" q.1 q.2 := List.forall_mem_cons.mpr ⟨(gs_aload_n dX12_undo_0 rfl), List.forall_mem_cons.mpr ⟨
  (gs_gf (ref := "GriefCranesModel") dX12_undo_1 (gx_mem 1045 (by decide +kernel) (by decide +kernel)) (Or.inl rfl) gf_12_48), List.forall_mem_cons.mpr ⟨
  (gs_if_ne dX12_undo_4 rfl), List.forall_mem_cons.mpr ⟨
  (gs_bipush dX12_undo_7 rfl), List.forall_mem_cons.mpr ⟨
  (gs_ri dX12_undo_9), List.forall_mem_cons.mpr ⟨
  (gs_aload_n dX12_undo_10 rfl), List.forall_mem_cons.mpr ⟨
  (gs_aload_n dX12_undo_11 rfl), List.forall_mem_cons.mpr ⟨
  (gs_gf (ref := "GriefCranesModel") dX12_undo_12 (gx_mem 1046 (by decide +kernel) (by decide +kernel)) (Or.inl rfl) gf_12_49), List.forall_mem_cons.mpr ⟨
  (gs_pf (ref := "GriefCranesModel") dX12_undo_15 (gx_mem 1011 (by decide +kernel) (by decide +kernel)) (Or.inl rfl) gf_12_14 (by decide +kernel)), List.forall_mem_cons.mpr ⟨
  (gs_aload_n dX12_undo_18 rfl), List.forall_mem_cons.mpr ⟨
  (gs_aload_n dX12_undo_19 rfl), List.forall_mem_cons.mpr ⟨
  (gs_gf (ref := "GriefCranesModel") dX12_undo_20 (gx_mem 1047 (by decide +kernel) (by decide +kernel)) (Or.inl rfl) gf_12_50), List.forall_mem_cons.mpr ⟨
  (gs_pf (ref := "GriefCranesModel") dX12_undo_23 (gx_mem 997 (by decide +kernel) (by decide +kernel)) (Or.inl rfl) gf_12_0 (by decide +kernel)), List.forall_mem_cons.mpr ⟨
  (gs_aload_n dX12_undo_26 rfl), List.forall_mem_cons.mpr ⟨
  (gs_aload_n dX12_undo_27 rfl), List.forall_mem_cons.mpr ⟨
  (gs_gf (ref := "GriefCranesModel") dX12_undo_28 (gx_mem 1048 (by decide +kernel) (by decide +kernel)) (Or.inl rfl) gf_12_51), List.forall_mem_cons.mpr ⟨
  (gs_pf (ref := "GriefCranesModel") dX12_undo_31 (gx_mem 998 (by decide +kernel) (by decide +kernel)) (Or.inl rfl) gf_12_1 (by decide +kernel)), List.forall_mem_cons.mpr ⟨
  (gs_aload_n dX12_undo_34 rfl), List.forall_mem_cons.mpr ⟨
  (gs_aload_n dX12_undo_35 rfl), List.forall_mem_cons.mpr ⟨
  (gs_gf (ref := "GriefCranesModel") dX12_undo_36 (gx_mem 1049 (by decide +kernel) (by decide +kernel)) (Or.inl rfl) gf_12_52), List.forall_mem_cons.mpr ⟨
  (gs_pf (ref := "GriefCranesModel") dX12_undo_39 (gx_mem 999 (by decide +kernel) (by decide +kernel)) (Or.inl rfl) gf_12_2 (by decide +kernel)), List.forall_mem_cons.mpr ⟨
  (gs_aload_n dX12_undo_42 rfl), List.forall_mem_cons.mpr ⟨
  (gs_aload_n dX12_undo_43 rfl), List.forall_mem_cons.mpr ⟨
  (gs_gf (ref := "GriefCranesModel") dX12_undo_44 (gx_mem 1050 (by decide +kernel) (by decide +kernel)) (Or.inl rfl) gf_12_53), List.forall_mem_cons.mpr ⟨
  (gs_pf (ref := "GriefCranesModel") dX12_undo_47 (gx_mem 1035 (by decide +kernel) (by decide +kernel)) (Or.inl rfl) gf_12_38 (by decide +kernel)), List.forall_mem_cons.mpr ⟨
  (gs_aload_n dX12_undo_50 rfl), List.forall_mem_cons.mpr ⟨
  (gs_aload_n dX12_undo_51 rfl), List.forall_mem_cons.mpr ⟨
  (gs_gf (ref := "GriefCranesModel") dX12_undo_52 (gx_mem 1051 (by decide +kernel) (by decide +kernel)) (Or.inl rfl) gf_12_54), List.forall_mem_cons.mpr ⟨
  (gs_pf (ref := "GriefCranesModel") dX12_undo_55 (gx_mem 1039 (by decide +kernel) (by decide +kernel)) (Or.inl rfl) gf_12_42 (by decide +kernel)), List.forall_mem_cons.mpr ⟨
  (gs_aload_n dX12_undo_58 rfl), List.forall_mem_cons.mpr ⟨
  (gs_aload_n dX12_undo_59 rfl), List.forall_mem_cons.mpr ⟨
  (gs_gf (ref := "GriefCranesModel") dX12_undo_60 (gx_mem 1052 (by decide +kernel) (by decide +kernel)) (Or.inl rfl) gf_12_55), fun _ h => absurd h List.not_mem_nil⟩⟩⟩⟩⟩⟩⟩⟩⟩⟩⟩⟩⟩⟩⟩⟩⟩⟩⟩⟩⟩⟩⟩⟩⟩⟩⟩⟩⟩⟩⟩⟩
set_option maxRecDepth 20000 in
theorem kt_X12_undo_1 (g : gx_T) : ∀ q ∈ k_X12_undo_1, gx_E g gc_md RX12 cX12_undo 2 (some .int) "undo" q.1 q.2 := List.forall_mem_cons.mpr ⟨(gs_pf (ref := "GriefCranesModel") dX12_undo_63 (gx_mem 1040 (by decide +kernel) (by decide +kernel)) (Or.inl rfl) gf_12_43 (by decide +kernel)), List.forall_mem_cons.mpr ⟨
  (gs_iconst dX12_undo_66 rfl), List.forall_mem_cons.mpr ⟨
  (gs_istore_n dX12_undo_67 rfl), List.forall_mem_cons.mpr ⟨
  (gs_iload_n dX12_undo_68 rfl), List.forall_mem_cons.mpr ⟨
  (gs_iconst dX12_undo_69 rfl), List.forall_mem_cons.mpr ⟨
  (gs_icmp_ge dX12_undo_70 rfl), List.forall_mem_cons.mpr ⟨
  (gs_aload_n dX12_undo_73 rfl), List.forall_mem_cons.mpr ⟨
  (gs_gf (ref := "GriefCranesModel") dX12_undo_74 (gx_mem 1000 (by decide +kernel) (by decide +kernel)) (Or.inl rfl) gf_12_3), List.forall_mem_cons.mpr ⟨
  (gs_iload_n dX12_undo_77 rfl), List.forall_mem_cons.mpr ⟨
  (gs_aload_n dX12_undo_78 rfl), List.forall_mem_cons.mpr ⟨
  (gs_gf (ref := "GriefCranesModel") dX12_undo_79 (gx_mem 1053 (by decide +kernel) (by decide +kernel)) (Or.inl rfl) gf_12_56), List.forall_mem_cons.mpr ⟨
  (gs_iload_n dX12_undo_82 rfl), List.forall_mem_cons.mpr ⟨
  (gs_iaload dX12_undo_83), List.forall_mem_cons.mpr ⟨
  (gs_iastore dX12_undo_84), List.forall_mem_cons.mpr ⟨
  (gs_iinc dX12_undo_85), List.forall_mem_cons.mpr ⟨
  (gs_goto dX12_undo_88 rfl), List.forall_mem_cons.mpr ⟨
  (gs_iconst dX12_undo_91 rfl), List.forall_mem_cons.mpr ⟨
  (gs_istore_n dX12_undo_92 rfl), List.forall_mem_cons.mpr ⟨
  (gs_iload_n dX12_undo_93 rfl), List.forall_mem_cons.mpr ⟨
  (gs_bipush dX12_undo_94 rfl), List.forall_mem_cons.mpr ⟨
  (gs_icmp_ge dX12_undo_96 rfl), List.forall_mem_cons.mpr ⟨
  (gs_aload_n dX12_undo_99 rfl), List.forall_mem_cons.mpr ⟨
  (gs_gf (ref := "GriefCranesModel") dX12_undo_100 (gx_mem 1001 (by decide +kernel) (by decide +kernel)) (Or.inl rfl) gf_12_4), List.forall_mem_cons.mpr ⟨
  (gs_iload_n dX12_undo_103 rfl), List.forall_mem_cons.mpr ⟨
  (gs_aload_n dX12_undo_104 rfl), List.forall_mem_cons.mpr ⟨
  (gs_gf (ref := "GriefCranesModel") dX12_undo_105 (gx_mem 1054 (by decide +kernel) (by decide +kernel)) (Or.inl rfl) gf_12_57), List.forall_mem_cons.mpr ⟨
  (gs_iload_n dX12_undo_108 rfl), List.forall_mem_cons.mpr ⟨
  (gs_iaload dX12_undo_109), List.forall_mem_cons.mpr ⟨
  (gs_iastore dX12_undo_110), List.forall_mem_cons.mpr ⟨
  (gs_aload_n dX12_undo_111 rfl), List.forall_mem_cons.mpr ⟨
  (gs_gf (ref := "GriefCranesModel") dX12_undo_112 (gx_mem 1002 (by decide +kernel) (by decide +kernel)) (Or.inl rfl) gf_12_5), List.forall_mem_cons.mpr ⟨
  (gs_iload_n dX12_undo_115 rfl), fun _ h => absurd h List.not_mem_nil⟩⟩⟩⟩⟩⟩⟩⟩⟩⟩⟩⟩⟩⟩⟩⟩⟩⟩⟩⟩⟩⟩⟩⟩⟩⟩⟩⟩⟩⟩⟩⟩
set_option maxRecDepth 20000 in
theorem kt_X12_undo_2 (g : gx_T) : ∀ q ∈ k_X12_undo_2, gx_E g gc_md RX12 cX12_undo 2 (some .int) "undo" q.1 q.2 := List.forall_mem_cons.mpr ⟨(gs_aload_n dX12_undo_116 rfl), List.forall_mem_cons.mpr ⟨
  (gs_gf (ref := "GriefCranesModel") dX12_undo_117 (gx_mem 1055 (by decide +kernel) (by decide +kernel)) (Or.inl rfl) gf_12_58), List.forall_mem_cons.mpr ⟨
  (gs_iload_n dX12_undo_120 rfl), List.forall_mem_cons.mpr ⟨
  (gs_iaload dX12_undo_121), List.forall_mem_cons.mpr ⟨
  (gs_iastore dX12_undo_122), List.forall_mem_cons.mpr ⟨
  (gs_aload_n dX12_undo_123 rfl), List.forall_mem_cons.mpr ⟨
  (gs_gf (ref := "GriefCranesModel") dX12_undo_124 (gx_mem 1003 (by decide +kernel) (by decide +kernel)) (Or.inl rfl) gf_12_6), List.forall_mem_cons.mpr ⟨
  (gs_iload_n dX12_undo_127 rfl), List.forall_mem_cons.mpr ⟨
  (gs_aload_n dX12_undo_128 rfl), List.forall_mem_cons.mpr ⟨
  (gs_gf (ref := "GriefCranesModel") dX12_undo_129 (gx_mem 1056 (by decide +kernel) (by decide +kernel)) (Or.inl rfl) gf_12_59), List.forall_mem_cons.mpr ⟨
  (gs_iload_n dX12_undo_132 rfl), List.forall_mem_cons.mpr ⟨
  (gs_iaload dX12_undo_133), List.forall_mem_cons.mpr ⟨
  (gs_iastore dX12_undo_134), List.forall_mem_cons.mpr ⟨
  (gs_iinc dX12_undo_135), List.forall_mem_cons.mpr ⟨
  (gs_goto dX12_undo_138 rfl), List.forall_mem_cons.mpr ⟨
  (gs_iconst dX12_undo_141 rfl), List.forall_mem_cons.mpr ⟨
  (gs_istore_n dX12_undo_142 rfl), List.forall_mem_cons.mpr ⟨
  (gs_iload_n dX12_undo_143 rfl), List.forall_mem_cons.mpr ⟨
  (gs_bipush dX12_undo_144 rfl), List.forall_mem_cons.mpr ⟨
  (gs_icmp_ge dX12_undo_146 rfl), List.forall_mem_cons.mpr ⟨
  (gs_aload_n dX12_undo_149 rfl), List.forall_mem_cons.mpr ⟨
  (gs_gf (ref := "GriefCranesModel") dX12_undo_150 (gx_mem 1004 (by decide +kernel) (by decide +kernel)) (Or.inl rfl) gf_12_7), List.forall_mem_cons.mpr ⟨
  (gs_iload_n dX12_undo_153 rfl), List.forall_mem_cons.mpr ⟨
  (gs_aload_n dX12_undo_154 rfl), List.forall_mem_cons.mpr ⟨
  (gs_gf (ref := "GriefCranesModel") dX12_undo_155 (gx_mem 1057 (by decide +kernel) (by decide +kernel)) (Or.inl rfl) gf_12_60), List.forall_mem_cons.mpr ⟨
  (gs_iload_n dX12_undo_158 rfl), List.forall_mem_cons.mpr ⟨
  (gs_iaload dX12_undo_159), List.forall_mem_cons.mpr ⟨
  (gs_iastore dX12_undo_160), List.forall_mem_cons.mpr ⟨
  (gs_iinc dX12_undo_161), List.forall_mem_cons.mpr ⟨
  (gs_goto dX12_undo_164 rfl), List.forall_mem_cons.mpr ⟨
  (gs_iconst dX12_undo_167 rfl), List.forall_mem_cons.mpr ⟨
  (gs_istore_n dX12_undo_168 rfl), fun _ h => absurd h List.not_mem_nil⟩⟩⟩⟩⟩⟩⟩⟩⟩⟩⟩⟩⟩⟩⟩⟩⟩⟩⟩⟩⟩⟩⟩⟩⟩⟩⟩⟩⟩⟩⟩⟩
set_option maxRecDepth 20000 in
theorem kt_X12_undo_3 (g : gx_T) : ∀ q ∈ k_X12_undo_3, gx_E g gc_md RX12 cX12_undo 2 (some .int) "undo" q.1 q.2 := List.forall_mem_cons.mpr ⟨(gs_iload_n dX12_undo_169 rfl), List.forall_mem_cons.mpr ⟨
  (gs_bipush dX12_undo_170 rfl), List.forall_mem_cons.mpr ⟨
  (gs_icmp_ge dX12_undo_172 rfl), List.forall_mem_cons.mpr ⟨
  (gs_aload_n dX12_undo_175 rfl), List.forall_mem_cons.mpr ⟨
  (gs_gf (ref := "GriefCranesModel") dX12_undo_176 (gx_mem 1005 (by decide +kernel) (by decide +kernel)) (Or.inl rfl) gf_12_8), List.forall_mem_cons.mpr ⟨
  (gs_iload_n dX12_undo_179 rfl), List.forall_mem_cons.mpr ⟨
  (gs_aload_n dX12_undo_180 rfl), List.forall_mem_cons.mpr ⟨
  (gs_gf (ref := "GriefCranesModel") dX12_undo_181 (gx_mem 1058 (by decide +kernel) (by decide +kernel)) (Or.inl rfl) gf_12_61), List.forall_mem_cons.mpr ⟨
  (gs_iload_n dX12_undo_184 rfl), List.forall_mem_cons.mpr ⟨
  (gs_iaload dX12_undo_185), List.forall_mem_cons.mpr ⟨
  (gs_iastore dX12_undo_186), List.forall_mem_cons.mpr ⟨
  (gs_aload_n dX12_undo_187 rfl), List.forall_mem_cons.mpr ⟨
  (gs_gf (ref := "GriefCranesModel") dX12_undo_188 (gx_mem 1006 (by decide +kernel) (by decide +kernel)) (Or.inl rfl) gf_12_9), List.forall_mem_cons.mpr ⟨
  (gs_iload_n dX12_undo_191 rfl), List.forall_mem_cons.mpr ⟨
  (gs_aload_n dX12_undo_192 rfl), List.forall_mem_cons.mpr ⟨
  (gs_gf (ref := "GriefCranesModel") dX12_undo_193 (gx_mem 1059 (by decide +kernel) (by decide +kernel)) (Or.inl rfl) gf_12_62), List.forall_mem_cons.mpr ⟨
  (gs_iload_n dX12_undo_196 rfl), List.forall_mem_cons.mpr ⟨
  (gs_iaload dX12_undo_197), List.forall_mem_cons.mpr ⟨
  (gs_iastore dX12_undo_198), List.forall_mem_cons.mpr ⟨
  (gs_aload_n dX12_undo_199 rfl), List.forall_mem_cons.mpr ⟨
  (gs_gf (ref := "GriefCranesModel") dX12_undo_200 (gx_mem 1007 (by decide +kernel) (by decide +kernel)) (Or.inl rfl) gf_12_10), List.forall_mem_cons.mpr ⟨
  (gs_iload_n dX12_undo_203 rfl), List.forall_mem_cons.mpr ⟨
  (gs_aload_n dX12_undo_204 rfl), List.forall_mem_cons.mpr ⟨
  (gs_gf (ref := "GriefCranesModel") dX12_undo_205 (gx_mem 1060 (by decide +kernel) (by decide +kernel)) (Or.inl rfl) gf_12_63), List.forall_mem_cons.mpr ⟨
  (gs_iload_n dX12_undo_208 rfl), List.forall_mem_cons.mpr ⟨
  (gs_iaload dX12_undo_209), List.forall_mem_cons.mpr ⟨
  (gs_iastore dX12_undo_210), List.forall_mem_cons.mpr ⟨
  (gs_aload_n dX12_undo_211 rfl), List.forall_mem_cons.mpr ⟨
  (gs_gf (ref := "GriefCranesModel") dX12_undo_212 (gx_mem 1008 (by decide +kernel) (by decide +kernel)) (Or.inl rfl) gf_12_11), List.forall_mem_cons.mpr ⟨
  (gs_iload_n dX12_undo_215 rfl), List.forall_mem_cons.mpr ⟨
  (gs_aload_n dX12_undo_216 rfl), List.forall_mem_cons.mpr ⟨
  (gs_gf (ref := "GriefCranesModel") dX12_undo_217 (gx_mem 1061 (by decide +kernel) (by decide +kernel)) (Or.inl rfl) gf_12_64), fun _ h => absurd h List.not_mem_nil⟩⟩⟩⟩⟩⟩⟩⟩⟩⟩⟩⟩⟩⟩⟩⟩⟩⟩⟩⟩⟩⟩⟩⟩⟩⟩⟩⟩⟩⟩⟩⟩
set_option maxRecDepth 20000 in
theorem kt_X12_undo_4 (g : gx_T) : ∀ q ∈ k_X12_undo_4, gx_E g gc_md RX12 cX12_undo 2 (some .int) "undo" q.1 q.2 := List.forall_mem_cons.mpr ⟨(gs_iload_n dX12_undo_220 rfl), List.forall_mem_cons.mpr ⟨
  (gs_iaload dX12_undo_221), List.forall_mem_cons.mpr ⟨
  (gs_iastore dX12_undo_222), List.forall_mem_cons.mpr ⟨
  (gs_aload_n dX12_undo_223 rfl), List.forall_mem_cons.mpr ⟨
  (gs_gf (ref := "GriefCranesModel") dX12_undo_224 (gx_mem 1009 (by decide +kernel) (by decide +kernel)) (Or.inl rfl) gf_12_12), List.forall_mem_cons.mpr ⟨
  (gs_iload_n dX12_undo_227 rfl), List.forall_mem_cons.mpr ⟨
  (gs_aload_n dX12_undo_228 rfl), List.forall_mem_cons.mpr ⟨
  (gs_gf (ref := "GriefCranesModel") dX12_undo_229 (gx_mem 1062 (by decide +kernel) (by decide +kernel)) (Or.inl rfl) gf_12_65), List.forall_mem_cons.mpr ⟨
  (gs_iload_n dX12_undo_232 rfl), List.forall_mem_cons.mpr ⟨
  (gs_iaload dX12_undo_233), List.forall_mem_cons.mpr ⟨
  (gs_iastore dX12_undo_234), List.forall_mem_cons.mpr ⟨
  (gs_aload_n dX12_undo_235 rfl), List.forall_mem_cons.mpr ⟨
  (gs_gf (ref := "GriefCranesModel") dX12_undo_236 (gx_mem 1043 (by decide +kernel) (by decide +kernel)) (Or.inl rfl) gf_12_46), List.forall_mem_cons.mpr ⟨
  (gs_iload_n dX12_undo_239 rfl), List.forall_mem_cons.mpr ⟨
  (gs_aload_n dX12_undo_240 rfl), List.forall_mem_cons.mpr ⟨
  (gs_gf (ref := "GriefCranesModel") dX12_undo_241 (gx_mem 1068 (by decide +kernel) (by decide +kernel)) (Or.inl rfl) gf_12_71), List.forall_mem_cons.mpr ⟨
  (gs_iload_n dX12_undo_244 rfl), List.forall_mem_cons.mpr ⟨
  (gs_iaload dX12_undo_245), List.forall_mem_cons.mpr ⟨
  (gs_iastore dX12_undo_246), List.forall_mem_cons.mpr ⟨
  (gs_aload_n dX12_undo_247 rfl), List.forall_mem_cons.mpr ⟨
  (gs_gf (ref := "GriefCranesModel") dX12_undo_248 (gx_mem 1044 (by decide +kernel) (by decide +kernel)) (Or.inl rfl) gf_12_47), List.forall_mem_cons.mpr ⟨
  (gs_iload_n dX12_undo_251 rfl), List.forall_mem_cons.mpr ⟨
  (gs_aload_n dX12_undo_252 rfl), List.forall_mem_cons.mpr ⟨
  (gs_gf (ref := "GriefCranesModel") dX12_undo_253 (gx_mem 1069 (by decide +kernel) (by decide +kernel)) (Or.inl rfl) gf_12_72), List.forall_mem_cons.mpr ⟨
  (gs_iload_n dX12_undo_256 rfl), List.forall_mem_cons.mpr ⟨
  (gs_iaload dX12_undo_257), List.forall_mem_cons.mpr ⟨
  (gs_iastore dX12_undo_258), List.forall_mem_cons.mpr ⟨
  (gs_iinc dX12_undo_259), List.forall_mem_cons.mpr ⟨
  (gs_goto dX12_undo_262 rfl), List.forall_mem_cons.mpr ⟨
  (gs_iconst dX12_undo_265 rfl), List.forall_mem_cons.mpr ⟨
  (gs_istore_n dX12_undo_266 rfl), List.forall_mem_cons.mpr ⟨
  (gs_iload_n dX12_undo_267 rfl), fun _ h => absurd h List.not_mem_nil⟩⟩⟩⟩⟩⟩⟩⟩⟩⟩⟩⟩⟩⟩⟩⟩⟩⟩⟩⟩⟩⟩⟩⟩⟩⟩⟩⟩⟩⟩⟩⟩
set_option maxRecDepth 20000 in
theorem kt_X12_undo_5 (g : gx_T) : ∀ q ∈ k_X12_undo_5, gx_E g gc_md RX12 cX12_undo 2 (some .int) "undo" q.1 q.2 := List.forall_mem_cons.mpr ⟨(gs_iconst dX12_undo_268 rfl), List.forall_mem_cons.mpr ⟨
  (gs_icmp_ge dX12_undo_269 rfl), List.forall_mem_cons.mpr ⟨
  (gs_aload_n dX12_undo_272 rfl), List.forall_mem_cons.mpr ⟨
  (gs_gf (ref := "GriefCranesModel") dX12_undo_273 (gx_mem 1036 (by decide +kernel) (by decide +kernel)) (Or.inl rfl) gf_12_39), List.forall_mem_cons.mpr ⟨
  (gs_iload_n dX12_undo_276 rfl), List.forall_mem_cons.mpr ⟨
  (gs_aload_n dX12_undo_277 rfl), List.forall_mem_cons.mpr ⟨
  (gs_gf (ref := "GriefCranesModel") dX12_undo_278 (gx_mem 1063 (by decide +kernel) (by decide +kernel)) (Or.inl rfl) gf_12_66), List.forall_mem_cons.mpr ⟨
  (gs_iload_n dX12_undo_281 rfl), List.forall_mem_cons.mpr ⟨
  (gs_iaload dX12_undo_282), List.forall_mem_cons.mpr ⟨
  (gs_iastore dX12_undo_283), List.forall_mem_cons.mpr ⟨
  (gs_aload_n dX12_undo_284 rfl), List.forall_mem_cons.mpr ⟨
  (gs_gf (ref := "GriefCranesModel") dX12_undo_285 (gx_mem 1037 (by decide +kernel) (by decide +kernel)) (Or.inl rfl) gf_12_40), List.forall_mem_cons.mpr ⟨
  (gs_iload_n dX12_undo_288 rfl), List.forall_mem_cons.mpr ⟨
  (gs_aload_n dX12_undo_289 rfl), List.forall_mem_cons.mpr ⟨
  (gs_gf (ref := "GriefCranesModel") dX12_undo_290 (gx_mem 1064 (by decide +kernel) (by decide +kernel)) (Or.inl rfl) gf_12_67), List.forall_mem_cons.mpr ⟨
  (gs_iload_n dX12_undo_293 rfl), List.forall_mem_cons.mpr ⟨
  (gs_iaload dX12_undo_294), List.forall_mem_cons.mpr ⟨
  (gs_iastore dX12_undo_295), List.forall_mem_cons.mpr ⟨
  (gs_aload_n dX12_undo_296 rfl), List.forall_mem_cons.mpr ⟨
  (gs_gf (ref := "GriefCranesModel") dX12_undo_297 (gx_mem 1038 (by decide +kernel) (by decide +kernel)) (Or.inl rfl) gf_12_41), List.forall_mem_cons.mpr ⟨
  (gs_iload_n dX12_undo_300 rfl), List.forall_mem_cons.mpr ⟨
  (gs_aload_n dX12_undo_301 rfl), List.forall_mem_cons.mpr ⟨
  (gs_gf (ref := "GriefCranesModel") dX12_undo_302 (gx_mem 1065 (by decide +kernel) (by decide +kernel)) (Or.inl rfl) gf_12_68), List.forall_mem_cons.mpr ⟨
  (gs_iload_n dX12_undo_305 rfl), List.forall_mem_cons.mpr ⟨
  (gs_iaload dX12_undo_306), List.forall_mem_cons.mpr ⟨
  (gs_iastore dX12_undo_307), List.forall_mem_cons.mpr ⟨
  (gs_iinc dX12_undo_308), List.forall_mem_cons.mpr ⟨
  (gs_goto dX12_undo_311 rfl), List.forall_mem_cons.mpr ⟨
  (gs_iconst dX12_undo_314 rfl), List.forall_mem_cons.mpr ⟨
  (gs_istore_n dX12_undo_315 rfl), List.forall_mem_cons.mpr ⟨
  (gs_iload_n dX12_undo_316 rfl), List.forall_mem_cons.mpr ⟨
  (gs_bipush dX12_undo_317 rfl), fun _ h => absurd h List.not_mem_nil⟩⟩⟩⟩⟩⟩⟩⟩⟩⟩⟩⟩⟩⟩⟩⟩⟩⟩⟩⟩⟩⟩⟩⟩⟩⟩⟩⟩⟩⟩⟩⟩
set_option maxRecDepth 20000 in
theorem kt_X12_undo_6 (g : gx_T) : ∀ q ∈ k_X12_undo_6, gx_E g gc_md RX12 cX12_undo 2 (some .int) "undo" q.1 q.2 := List.forall_mem_cons.mpr ⟨(gs_icmp_ge dX12_undo_319 rfl), List.forall_mem_cons.mpr ⟨
  (gs_aload_n dX12_undo_322 rfl), List.forall_mem_cons.mpr ⟨
  (gs_gf (ref := "GriefCranesModel") dX12_undo_323 (gx_mem 1041 (by decide +kernel) (by decide +kernel)) (Or.inl rfl) gf_12_44), List.forall_mem_cons.mpr ⟨
  (gs_iload_n dX12_undo_326 rfl), List.forall_mem_cons.mpr ⟨
  (gs_aload_n dX12_undo_327 rfl), List.forall_mem_cons.mpr ⟨
  (gs_gf (ref := "GriefCranesModel") dX12_undo_328 (gx_mem 1066 (by decide +kernel) (by decide +kernel)) (Or.inl rfl) gf_12_69), List.forall_mem_cons.mpr ⟨
  (gs_iload_n dX12_undo_331 rfl), List.forall_mem_cons.mpr ⟨
  (gs_iaload dX12_undo_332), List.forall_mem_cons.mpr ⟨
  (gs_iastore dX12_undo_333), List.forall_mem_cons.mpr ⟨
  (gs_aload_n dX12_undo_334 rfl), List.forall_mem_cons.mpr ⟨
  (gs_gf (ref := "GriefCranesModel") dX12_undo_335 (gx_mem 1042 (by decide +kernel) (by decide +kernel)) (Or.inl rfl) gf_12_45), List.forall_mem_cons.mpr ⟨
  (gs_iload_n dX12_undo_338 rfl), List.forall_mem_cons.mpr ⟨
  (gs_aload_n dX12_undo_339 rfl), List.forall_mem_cons.mpr ⟨
  (gs_gf (ref := "GriefCranesModel") dX12_undo_340 (gx_mem 1067 (by decide +kernel) (by decide +kernel)) (Or.inl rfl) gf_12_70), List.forall_mem_cons.mpr ⟨
  (gs_iload_n dX12_undo_343 rfl), List.forall_mem_cons.mpr ⟨
  (gs_iaload dX12_undo_344), List.forall_mem_cons.mpr ⟨
  (gs_iastore dX12_undo_345), List.forall_mem_cons.mpr ⟨
  (gs_iinc dX12_undo_346), List.forall_mem_cons.mpr ⟨
  (gs_goto dX12_undo_349 rfl), List.forall_mem_cons.mpr ⟨
  (gs_aload_n dX12_undo_352 rfl), List.forall_mem_cons.mpr ⟨
  (gs_gf (ref := "GriefCranesModel") dX12_undo_353 (gx_mem 997 (by decide +kernel) (by decide +kernel)) (Or.inl rfl) gf_12_0), List.forall_mem_cons.mpr ⟨
  (gs_ri dX12_undo_356), fun _ h => absurd h List.not_mem_nil⟩⟩⟩⟩⟩⟩⟩⟩⟩⟩⟩⟩⟩⟩⟩⟩⟩⟩⟩⟩⟩⟩
theorem kt_X12_undo (g : gx_T) : ∀ q ∈ k_X12_undo, gx_E g gc_md RX12 cX12_undo 2 (some .int) "undo" q.1 q.2 := List.forall_mem_append.mpr ⟨kt_X12_undo_0 g, List.forall_mem_append.mpr ⟨kt_X12_undo_1 g, List.forall_mem_append.mpr ⟨kt_X12_undo_2 g, List.forall_mem_append.mpr ⟨kt_X12_undo_3 g, List.forall_mem_append.mpr ⟨kt_X12_undo_4 g, List.forall_mem_append.mpr ⟨kt_X12_undo_5 g, kt_X12_undo_6 g⟩⟩⟩⟩⟩⟩
set_option maxRecDepth 20000 in
theorem dX12_body_0 : decode cX12_body 0 = .ok (.aload_n 0, 1) := by decide +kernel
set_option maxRecDepth 20000 in
theorem dX12_body_1 : decode cX12_body 1 = .ok (.getfield 232, 3) := by decide +kernel
set_option maxRecDepth 20000 in
theorem dX12_body_4 : decode cX12_body 4 = .ok (.bipush 20, 2) := by decide +kernel
set_option maxRecDepth 20000 in
theorem dX12_body_6 : decode cX12_body 6 = .ok (.if_icmp .ge 13, 3) := by decide +kernel
set_option maxRecDepth 20000 in
theorem dX12_body_9 : decode cX12_body 9 = .ok (.aload_n 0, 1) := by decide +kernel
set_option maxRecDepth 20000 in
theorem dX12_body_10 : decode cX12_body 10 = .ok (.getfield 235, 3) := by decide +kernel
set_option maxRecDepth 20000 in
theorem dX12_body_13 : decode cX12_body 13 = .ok (.aload_n 0, 1) := by decide +kernel
set_option maxRecDepth 20000 in
theorem dX12_body_14 : decode cX12_body 14 = .ok (.getfield 232, 3) := by decide +kernel
set_option maxRecDepth 20000 in
theorem dX12_body_17 : decode cX12_body 17 = .ok (.iload_n 1, 1) := by decide +kernel
set_option maxRecDepth 20000 in
theorem dX12_body_18 : decode cX12_body 18 = .ok (.iastore, 1) := by decide +kernel
set_option maxRecDepth 20000 in
theorem dX12_body_19 : decode cX12_body 19 = .ok (.aload_n 0, 1) := by decide +kernel
set_option maxRecDepth 20000 in
theorem dX12_body_20 : decode cX12_body 20 = .ok (.dup, 1) := by decide +kernel
set_option maxRecDepth 20000 in
theorem dX12_body_21 : decode cX12_body 21 = .ok (.getfield 232, 3) := by decide +kernel
set_option maxRecDepth 20000 in
theorem dX12_body_24 : decode cX12_body 24 = .ok (.iconst 1, 1) := by decide +kernel
set_option maxRecDepth 20000 in
theorem dX12_body_25 : decode cX12_body 25 = .ok (.iadd, 1) := by decide +kernel
set_option maxRecDepth 20000 in
theorem dX12_body_26 : decode cX12_body 26 = .ok (.putfield 232, 3) := by decide +kernel
set_option maxRecDepth 20000 in
theorem dX12_body_29 : decode cX12_body 29 = .ok (.return_, 1) := by decide +kernel
set_option maxRecDepth 20000 in
theorem kt_X12_body_0 (g : gx_T) : ∀ q ∈ k_X12_body_0, gx_E g gc_md RX12 cX12_body 2 (none) "body" q.1 q.2 := List.forall_mem_cons.mpr ⟨(gs_aload_n dX12_body_0 rfl), List.forall_mem_cons.mpr ⟨
  (gs_gf (ref := "GriefCranesModel") dX12_body_1 (gx_mem 1070 (by decide +kernel) (by decide +kernel)) (Or.inl rfl) gf_12_73), List.forall_mem_cons.mpr ⟨
  (gs_bipush dX12_body_4 rfl), List.forall_mem_cons.mpr ⟨
  (gs_icmp_ge dX12_body_6 rfl), List.forall_mem_cons.mpr ⟨
  (gs_aload_n dX12_body_9 rfl), List.forall_mem_cons.mpr ⟨
  (gs_gf (ref := "GriefCranesModel") dX12_body_10 (gx_mem 1071 (by decide +kernel) (by decide +kernel)) (Or.inl rfl) gf_12_74), List.forall_mem_cons.mpr ⟨
  (gs_aload_n dX12_body_13 rfl), List.forall_mem_cons.mpr ⟨
  (gs_gf (ref := "GriefCranesModel") dX12_body_14 (gx_mem 1070 (by decide +kernel) (by decide +kernel)) (Or.inl rfl) gf_12_73), List.forall_mem_cons.mpr ⟨
  (gs_iload_n dX12_body_17 rfl), List.forall_mem_cons.mpr ⟨
  (gs_iastore dX12_body_18), List.forall_mem_cons.mpr ⟨
  (gs_aload_n dX12_body_19 rfl), List.forall_mem_cons.mpr ⟨
  (gs_dup dX12_body_20), List.forall_mem_cons.mpr ⟨
  (gs_gf (ref := "GriefCranesModel") dX12_body_21 (gx_mem 1070 (by decide +kernel) (by decide +kernel)) (Or.inl rfl) gf_12_73), List.forall_mem_cons.mpr ⟨
  (gs_iconst dX12_body_24 rfl), List.forall_mem_cons.mpr ⟨
  (gs_iadd dX12_body_25), List.forall_mem_cons.mpr ⟨
  (gs_pf (ref := "GriefCranesModel") dX12_body_26 (gx_mem 1070 (by decide +kernel) (by decide +kernel)) (Or.inl rfl) gf_12_73 (by decide +kernel)), List.forall_mem_cons.mpr ⟨
  (gs_rv dX12_body_29), fun _ h => absurd h List.not_mem_nil⟩⟩⟩⟩⟩⟩⟩⟩⟩⟩⟩⟩⟩⟩⟩⟩⟩
theorem kt_X12_body (g : gx_T) : ∀ q ∈ k_X12_body, gx_E g gc_md RX12 cX12_body 2 (none) "body" q.1 q.2 := kt_X12_body_0 g
set_option maxRecDepth 20000 in
theorem dX12_craneLeans_0 : decode cX12_craneLeans 0 = .ok (.aload_n 0, 1) := by decide +kernel
set_option maxRecDepth 20000 in
theorem dX12_craneLeans_1 : decode cX12_craneLeans 1 = .ok (.bipush 10, 2) := by decide +kernel
set_option maxRecDepth 20000 in
theorem dX12_craneLeans_3 : decode cX12_craneLeans 3 = .ok (.invokevirtual 428, 3) := by decide +kernel
set_option maxRecDepth 20000 in
theorem dX12_craneLeans_6 : decode cX12_craneLeans 6 = .ok (.iload_n 2, 1) := by decide +kernel
set_option maxRecDepth 20000 in
theorem dX12_craneLeans_7 : decode cX12_craneLeans 7 = .ok (.iload_n 1, 1) := by decide +kernel
set_option maxRecDepth 20000 in
theorem dX12_craneLeans_8 : decode cX12_craneLeans 8 = .ok (.iadd, 1) := by decide +kernel
set_option maxRecDepth 20000 in
theorem dX12_craneLeans_9 : decode cX12_craneLeans 9 = .ok (.ireturn, 1) := by decide +kernel
set_option maxRecDepth 20000 in
theorem kt_X12_craneLeans_0 (g : gx_T) : ∀ q ∈ k_X12_craneLeans_0, gx_E g gc_md RX12 cX12_craneLeans 3 (some .int) "craneLeans" q.1 q.2 := List.forall_mem_cons.mpr ⟨(gs_aload_n dX12_craneLeans_0 rfl), List.forall_mem_cons.mpr ⟨
  (gs_bipush dX12_craneLeans_1 rfl), List.forall_mem_cons.mpr ⟨
  (gs_cv dX12_craneLeans_3 (fun q hq => by
      simp only [List.mem_cons, List.not_mem_nil, or_false] at hq
      subst hq
      exact Or.inl ⟨_, rfl, by decide, by decide +kernel, by decide +kernel, List.forall_mem_cons.mpr ⟨gx_mem 1555 (by decide +kernel) (by decide +kernel), List.forall_mem_cons.mpr ⟨gx_mem 1557 (by decide +kernel) (by decide +kernel), List.forall_mem_cons.mpr ⟨gx_mem 75 (by decide +kernel) (by decide +kernel), List.forall_mem_cons.mpr ⟨gx_mem 96 (by decide +kernel) (by decide +kernel), List.forall_mem_cons.mpr ⟨cw_1558, fun _ h => absurd h List.not_mem_nil⟩⟩⟩⟩⟩⟩)), List.forall_mem_cons.mpr ⟨
  (gs_iload_n dX12_craneLeans_6 rfl), List.forall_mem_cons.mpr ⟨
  (gs_iload_n dX12_craneLeans_7 rfl), List.forall_mem_cons.mpr ⟨
  (gs_iadd dX12_craneLeans_8), List.forall_mem_cons.mpr ⟨
  (gs_ri dX12_craneLeans_9), fun _ h => absurd h List.not_mem_nil⟩⟩⟩⟩⟩⟩⟩
theorem kt_X12_craneLeans (g : gx_T) : ∀ q ∈ k_X12_craneLeans, gx_E g gc_md RX12 cX12_craneLeans 3 (some .int) "craneLeans" q.1 q.2 := kt_X12_craneLeans_0 g
set_option maxRecDepth 20000 in
theorem dX12_leansAct_0 : decode cX12_leansAct 0 = .ok (.aload_n 0, 1) := by decide +kernel
set_option maxRecDepth 20000 in
theorem dX12_leansAct_1 : decode cX12_leansAct 1 = .ok (.getfield 23, 3) := by decide +kernel
set_option maxRecDepth 20000 in
theorem dX12_leansAct_4 : decode cX12_leansAct 4 = .ok (.iload_n 1, 1) := by decide +kernel
set_option maxRecDepth 20000 in
theorem dX12_leansAct_5 : decode cX12_leansAct 5 = .ok (.iaload, 1) := by decide +kernel
set_option maxRecDepth 20000 in
theorem dX12_leansAct_6 : decode cX12_leansAct 6 = .ok (.tableswitch 83 2 6 #[34, 83, 49, 34, 63], 34) := by decide +kernel
set_option maxRecDepth 20000 in
theorem dX12_leansAct_40 : decode cX12_leansAct 40 = .ok (.aload_n 0, 1) := by decide +kernel
set_option maxRecDepth 20000 in
theorem dX12_leansAct_41 : decode cX12_leansAct 41 = .ok (.bipush 30, 2) := by decide +kernel
set_option maxRecDepth 20000 in
theorem dX12_leansAct_43 : decode cX12_leansAct 43 = .ok (.invokevirtual 428, 3) := by decide +kernel
set_option maxRecDepth 20000 in
theorem dX12_leansAct_46 : decode cX12_leansAct 46 = .ok (.aload_n 0, 1) := by decide +kernel
set_option maxRecDepth 20000 in
theorem dX12_leansAct_47 : decode cX12_leansAct 47 = .ok (.iload_n 1, 1) := by decide +kernel
set_option maxRecDepth 20000 in
theorem dX12_leansAct_48 : decode cX12_leansAct 48 = .ok (.iload_n 2, 1) := by decide +kernel
set_option maxRecDepth 20000 in
theorem dX12_leansAct_49 : decode cX12_leansAct 49 = .ok (.iconst 3, 1) := by decide +kernel
set_option maxRecDepth 20000 in
theorem dX12_leansAct_50 : decode cX12_leansAct 50 = .ok (.imul, 1) := by decide +kernel
set_option maxRecDepth 20000 in
theorem dX12_leansAct_51 : decode cX12_leansAct 51 = .ok (.invokevirtual 431, 3) := by decide +kernel
set_option maxRecDepth 20000 in
theorem dX12_leansAct_54 : decode cX12_leansAct 54 = .ok (.ireturn, 1) := by decide +kernel
set_option maxRecDepth 20000 in
theorem dX12_leansAct_55 : decode cX12_leansAct 55 = .ok (.aload_n 0, 1) := by decide +kernel
set_option maxRecDepth 20000 in
theorem dX12_leansAct_56 : decode cX12_leansAct 56 = .ok (.bipush 50, 2) := by decide +kernel
set_option maxRecDepth 20000 in
theorem dX12_leansAct_58 : decode cX12_leansAct 58 = .ok (.invokevirtual 428, 3) := by decide +kernel
set_option maxRecDepth 20000 in
theorem dX12_leansAct_61 : decode cX12_leansAct 61 = .ok (.aload_n 0, 1) := by decide +kernel
set_option maxRecDepth 20000 in
theorem dX12_leansAct_62 : decode cX12_leansAct 62 = .ok (.iload_n 1, 1) := by decide +kernel
set_option maxRecDepth 20000 in
theorem dX12_leansAct_63 : decode cX12_leansAct 63 = .ok (.iload_n 2, 1) := by decide +kernel
set_option maxRecDepth 20000 in
theorem dX12_leansAct_64 : decode cX12_leansAct 64 = .ok (.invokevirtual 431, 3) := by decide +kernel
set_option maxRecDepth 20000 in
theorem dX12_leansAct_67 : decode cX12_leansAct 67 = .ok (.ineg, 1) := by decide +kernel
set_option maxRecDepth 20000 in
theorem dX12_leansAct_68 : decode cX12_leansAct 68 = .ok (.ireturn, 1) := by decide +kernel
set_option maxRecDepth 20000 in
theorem dX12_leansAct_69 : decode cX12_leansAct 69 = .ok (.aload_n 0, 1) := by decide +kernel
set_option maxRecDepth 20000 in
theorem dX12_leansAct_70 : decode cX12_leansAct 70 = .ok (.bipush 71, 2) := by decide +kernel
set_option maxRecDepth 20000 in
theorem dX12_leansAct_72 : decode cX12_leansAct 72 = .ok (.invokevirtual 428, 3) := by decide +kernel
set_option maxRecDepth 20000 in
theorem dX12_leansAct_75 : decode cX12_leansAct 75 = .ok (.aload_n 0, 1) := by decide +kernel
set_option maxRecDepth 20000 in
theorem dX12_leansAct_76 : decode cX12_leansAct 76 = .ok (.iload_n 1, 1) := by decide +kernel
set_option maxRecDepth 20000 in
theorem dX12_leansAct_77 : decode cX12_leansAct 77 = .ok (.iload_n 2, 1) := by decide +kernel
set_option maxRecDepth 20000 in
theorem dX12_leansAct_78 : decode cX12_leansAct 78 = .ok (.invokevirtual 431, 3) := by decide +kernel
set_option maxRecDepth 20000 in
theorem dX12_leansAct_81 : decode cX12_leansAct 81 = .ok (.aload_n 0, 1) := by decide +kernel
set_option maxRecDepth 20000 in
theorem dX12_leansAct_82 : decode cX12_leansAct 82 = .ok (.getfield 26, 3) := by decide +kernel
set_option maxRecDepth 20000 in
theorem dX12_leansAct_85 : decode cX12_leansAct 85 = .ok (.iload_n 1, 1) := by decide +kernel
set_option maxRecDepth 20000 in
theorem dX12_leansAct_86 : decode cX12_leansAct 86 = .ok (.iaload, 1) := by decide +kernel
set_option maxRecDepth 20000 in
theorem dX12_leansAct_87 : decode cX12_leansAct 87 = .ok (.ixor, 1) := by decide +kernel
set_option maxRecDepth 20000 in
theorem dX12_leansAct_88 : decode cX12_leansAct 88 = .ok (.ireturn, 1) := by decide +kernel
set_option maxRecDepth 20000 in
theorem dX12_leansAct_89 : decode cX12_leansAct 89 = .ok (.aload_n 0, 1) := by decide +kernel
set_option maxRecDepth 20000 in
theorem dX12_leansAct_90 : decode cX12_leansAct 90 = .ok (.iload_n 1, 1) := by decide +kernel
set_option maxRecDepth 20000 in
theorem dX12_leansAct_91 : decode cX12_leansAct 91 = .ok (.iload_n 2, 1) := by decide +kernel
set_option maxRecDepth 20000 in
theorem dX12_leansAct_92 : decode cX12_leansAct 92 = .ok (.invokevirtual 431, 3) := by decide +kernel
set_option maxRecDepth 20000 in
theorem dX12_leansAct_95 : decode cX12_leansAct 95 = .ok (.ireturn, 1) := by decide +kernel
set_option maxRecDepth 20000 in
theorem kt_X12_leansAct_0 (g : gx_T) : ∀ q ∈ k_X12_leansAct_0, gx_E g gc_md RX12 cX12_leansAct 3 (some .int) "leansAct" q.1 q.2 := List.forall_mem_cons.mpr ⟨(gs_aload_n dX12_leansAct_0 rfl), List.forall_mem_cons.mpr ⟨
  (gs_gf (ref := "GriefCranesModel") dX12_leansAct_1 (gx_mem 1001 (by decide +kernel) (by decide +kernel)) (Or.inl rfl) gf_12_4), List.forall_mem_cons.mpr ⟨
  (gs_iload_n dX12_leansAct_4 rfl), List.forall_mem_cons.mpr ⟨
  (gs_iaload dX12_leansAct_5), List.forall_mem_cons.mpr ⟨
  (gs_tsw (lo := 2) (offs := [34, 83, 49, 34, 63]) dX12_leansAct_6 (by decide +kernel) (by decide +kernel)), List.forall_mem_cons.mpr ⟨
  (gs_aload_n dX12_leansAct_40 rfl), List.forall_mem_cons.mpr ⟨
  (gs_bipush dX12_leansAct_41 rfl), List.forall_mem_cons.mpr ⟨
  (gs_cv dX12_leansAct_43 (fun q hq => by
      simp only [List.mem_cons, List.not_mem_nil, or_false] at hq
      subst hq
      exact Or.inl ⟨_, rfl, by decide, by decide +kernel, by decide +kernel, List.forall_mem_cons.mpr ⟨gx_mem 1555 (by decide +kernel) (by decide +kernel), List.forall_mem_cons.mpr ⟨gx_mem 1557 (by decide +kernel) (by decide +kernel), List.forall_mem_cons.mpr ⟨gx_mem 75 (by decide +kernel) (by decide +kernel), List.forall_mem_cons.mpr ⟨gx_mem 96 (by decide +kernel) (by decide +kernel), List.forall_mem_cons.mpr ⟨cw_1558, fun _ h => absurd h List.not_mem_nil⟩⟩⟩⟩⟩⟩)), List.forall_mem_cons.mpr ⟨
  (gs_aload_n dX12_leansAct_46 rfl), List.forall_mem_cons.mpr ⟨
  (gs_iload_n dX12_leansAct_47 rfl), List.forall_mem_cons.mpr ⟨
  (gs_iload_n dX12_leansAct_48 rfl), List.forall_mem_cons.mpr ⟨
  (gs_iconst dX12_leansAct_49 rfl), List.forall_mem_cons.mpr ⟨
  (gs_imul dX12_leansAct_50), List.forall_mem_cons.mpr ⟨
  (gs_cv dX12_leansAct_51 (fun q hq => by
      simp only [List.mem_cons, List.not_mem_nil, or_false] at hq
      subst hq
      exact Or.inl ⟨_, rfl, by decide, by decide +kernel, by decide +kernel, List.forall_mem_cons.mpr ⟨gx_mem 1559 (by decide +kernel) (by decide +kernel), List.forall_mem_cons.mpr ⟨gx_mem 1561 (by decide +kernel) (by decide +kernel), List.forall_mem_cons.mpr ⟨gx_mem 76 (by decide +kernel) (by decide +kernel), List.forall_mem_cons.mpr ⟨gx_mem 96 (by decide +kernel) (by decide +kernel), List.forall_mem_cons.mpr ⟨cw_1562, fun _ h => absurd h List.not_mem_nil⟩⟩⟩⟩⟩⟩)), List.forall_mem_cons.mpr ⟨
  (gs_ri dX12_leansAct_54), List.forall_mem_cons.mpr ⟨
  (gs_aload_n dX12_leansAct_55 rfl), List.forall_mem_cons.mpr ⟨
  (gs_bipush dX12_leansAct_56 rfl), List.forall_mem_cons.mpr ⟨
  (gs_cv dX12_leansAct_58 (fun q hq => by
      simp only [List.mem_cons, List.not_mem_nil, or_false] at hq
      subst hq
      exact Or.inl ⟨_, rfl, by decide, by decide +kernel, by decide +kernel, List.forall_mem_cons.mpr ⟨gx_mem 1555 (by decide +kernel) (by decide +kernel), List.forall_mem_cons.mpr ⟨gx_mem 1557 (by decide +kernel) (by decide +kernel), List.forall_mem_cons.mpr ⟨gx_mem 75 (by decide +kernel) (by decide +kernel), List.forall_mem_cons.mpr ⟨gx_mem 96 (by decide +kernel) (by decide +kernel), List.forall_mem_cons.mpr ⟨cw_1558, fun _ h => absurd h List.not_mem_nil⟩⟩⟩⟩⟩⟩)), List.forall_mem_cons.mpr ⟨
  (gs_aload_n dX12_leansAct_61 rfl), List.forall_mem_cons.mpr ⟨
  (gs_iload_n dX12_leansAct_62 rfl), List.forall_mem_cons.mpr ⟨
  (gs_iload_n dX12_leansAct_63 rfl), List.forall_mem_cons.mpr ⟨
  (gs_cv dX12_leansAct_64 (fun q hq => by
      simp only [List.mem_cons, List.not_mem_nil, or_false] at hq
      subst hq
      exact Or.inl ⟨_, rfl, by decide, by decide +kernel, by decide +kernel, List.forall_mem_cons.mpr ⟨gx_mem 1559 (by decide +kernel) (by decide +kernel), List.forall_mem_cons.mpr ⟨gx_mem 1561 (by decide +kernel) (by decide +kernel), List.forall_mem_cons.mpr ⟨gx_mem 76 (by decide +kernel) (by decide +kernel), List.forall_mem_cons.mpr ⟨gx_mem 96 (by decide +kernel) (by decide +kernel), List.forall_mem_cons.mpr ⟨cw_1562, fun _ h => absurd h List.not_mem_nil⟩⟩⟩⟩⟩⟩)), List.forall_mem_cons.mpr ⟨
  (gs_ineg dX12_leansAct_67), List.forall_mem_cons.mpr ⟨
  (gs_ri dX12_leansAct_68), List.forall_mem_cons.mpr ⟨
  (gs_aload_n dX12_leansAct_69 rfl), List.forall_mem_cons.mpr ⟨
  (gs_bipush dX12_leansAct_70 rfl), List.forall_mem_cons.mpr ⟨
  (gs_cv dX12_leansAct_72 (fun q hq => by
      simp only [List.mem_cons, List.not_mem_nil, or_false] at hq
      subst hq
      exact Or.inl ⟨_, rfl, by decide, by decide +kernel, by decide +kernel, List.forall_mem_cons.mpr ⟨gx_mem 1555 (by decide +kernel) (by decide +kernel), List.forall_mem_cons.mpr ⟨gx_mem 1557 (by decide +kernel) (by decide +kernel), List.forall_mem_cons.mpr ⟨gx_mem 75 (by decide +kernel) (by decide +kernel), List.forall_mem_cons.mpr ⟨gx_mem 96 (by decide +kernel) (by decide +kernel), List.forall_mem_cons.mpr ⟨cw_1558, fun _ h => absurd h List.not_mem_nil⟩⟩⟩⟩⟩⟩)), List.forall_mem_cons.mpr ⟨
  (gs_aload_n dX12_leansAct_75 rfl), List.forall_mem_cons.mpr ⟨
  (gs_iload_n dX12_leansAct_76 rfl), List.forall_mem_cons.mpr ⟨
  (gs_iload_n dX12_leansAct_77 rfl), List.forall_mem_cons.mpr ⟨
  (gs_cv dX12_leansAct_78 (fun q hq => by
      simp only [List.mem_cons, List.not_mem_nil, or_false] at hq
      subst hq
      exact Or.inl ⟨_, rfl, by decide, by decide +kernel, by decide +kernel, List.forall_mem_cons.mpr ⟨gx_mem 1559 (by decide +kernel) (by decide +kernel), List.forall_mem_cons.mpr ⟨gx_mem 1561 (by decide +kernel) (by decide +kernel), List.forall_mem_cons.mpr ⟨gx_mem 76 (by decide +kernel) (by decide +kernel), List.forall_mem_cons.mpr ⟨gx_mem 96 (by decide +kernel) (by decide +kernel), List.forall_mem_cons.mpr ⟨cw_1562, fun _ h => absurd h List.not_mem_nil⟩⟩⟩⟩⟩⟩)), List.forall_mem_cons.mpr ⟨
  (gs_aload_n dX12_leansAct_81 rfl), fun _ h => absurd h List.not_mem_nil⟩⟩⟩⟩⟩⟩⟩⟩⟩⟩⟩⟩⟩⟩⟩⟩⟩⟩⟩⟩⟩⟩⟩⟩⟩⟩⟩⟩⟩⟩⟩⟩
set_option maxRecDepth 20000 in
theorem kt_X12_leansAct_1 (g : gx_T) : ∀ q ∈ k_X12_leansAct_1, gx_E g gc_md RX12 cX12_leansAct 3 (some .int) "leansAct" q.1 q.2 := List.forall_mem_cons.mpr ⟨(gs_gf (ref := "GriefCranesModel") dX12_leansAct_82 (gx_mem 1002 (by decide +kernel) (by decide +kernel)) (Or.inl rfl) gf_12_5), List.forall_mem_cons.mpr ⟨
  (gs_iload_n dX12_leansAct_85 rfl), List.forall_mem_cons.mpr ⟨
  (gs_iaload dX12_leansAct_86), List.forall_mem_cons.mpr ⟨
  (gs_ixor dX12_leansAct_87), List.forall_mem_cons.mpr ⟨
  (gs_ri dX12_leansAct_88), List.forall_mem_cons.mpr ⟨
  (gs_aload_n dX12_leansAct_89 rfl), List.forall_mem_cons.mpr ⟨
  (gs_iload_n dX12_leansAct_90 rfl), List.forall_mem_cons.mpr ⟨
  (gs_iload_n dX12_leansAct_91 rfl), List.forall_mem_cons.mpr ⟨
  (gs_cv dX12_leansAct_92 (fun q hq => by
      simp only [List.mem_cons, List.not_mem_nil, or_false] at hq
      subst hq
      exact Or.inl ⟨_, rfl, by decide, by decide +kernel, by decide +kernel, List.forall_mem_cons.mpr ⟨gx_mem 1559 (by decide +kernel) (by decide +kernel), List.forall_mem_cons.mpr ⟨gx_mem 1561 (by decide +kernel) (by decide +kernel), List.forall_mem_cons.mpr ⟨gx_mem 76 (by decide +kernel) (by decide +kernel), List.forall_mem_cons.mpr ⟨gx_mem 96 (by decide +kernel) (by decide +kernel), List.forall_mem_cons.mpr ⟨cw_1562, fun _ h => absurd h List.not_mem_nil⟩⟩⟩⟩⟩⟩)), List.forall_mem_cons.mpr ⟨
  (gs_ri dX12_leansAct_95), fun _ h => absurd h List.not_mem_nil⟩⟩⟩⟩⟩⟩⟩⟩⟩⟩
theorem kt_X12_leansAct (g : gx_T) : ∀ q ∈ k_X12_leansAct, gx_E g gc_md RX12 cX12_leansAct 3 (some .int) "leansAct" q.1 q.2 := List.forall_mem_append.mpr ⟨kt_X12_leansAct_0 g, kt_X12_leansAct_1 g⟩
set_option maxRecDepth 20000 in
theorem dX12_craneLifts_0 : decode cX12_craneLifts 0 = .ok (.aload_n 0, 1) := by decide +kernel
set_option maxRecDepth 20000 in
theorem dX12_craneLifts_1 : decode cX12_craneLifts 1 = .ok (.bipush 11, 2) := by decide +kernel
set_option maxRecDepth 20000 in
theorem dX12_craneLifts_3 : decode cX12_craneLifts 3 = .ok (.invokevirtual 428, 3) := by decide +kernel
set_option maxRecDepth 20000 in
theorem dX12_craneLifts_6 : decode cX12_craneLifts 6 = .ok (.aload_n 0, 1) := by decide +kernel
set_option maxRecDepth 20000 in
theorem dX12_craneLifts_7 : decode cX12_craneLifts 7 = .ok (.iload_n 1, 1) := by decide +kernel
set_option maxRecDepth 20000 in
theorem dX12_craneLifts_8 : decode cX12_craneLifts 8 = .ok (.iload_n 2, 1) := by decide +kernel
set_option maxRecDepth 20000 in
theorem dX12_craneLifts_9 : decode cX12_craneLifts 9 = .ok (.invokevirtual 434, 3) := by decide +kernel
set_option maxRecDepth 20000 in
theorem dX12_craneLifts_12 : decode cX12_craneLifts 12 = .ok (.aload_n 0, 1) := by decide +kernel
set_option maxRecDepth 20000 in
theorem dX12_craneLifts_13 : decode cX12_craneLifts 13 = .ok (.getfield 26, 3) := by decide +kernel
set_option maxRecDepth 20000 in
theorem dX12_craneLifts_16 : decode cX12_craneLifts 16 = .ok (.iload_n 1, 1) := by decide +kernel
set_option maxRecDepth 20000 in
theorem dX12_craneLifts_17 : decode cX12_craneLifts 17 = .ok (.iaload, 1) := by decide +kernel
set_option maxRecDepth 20000 in
theorem dX12_craneLifts_18 : decode cX12_craneLifts 18 = .ok (.isub, 1) := by decide +kernel
set_option maxRecDepth 20000 in
theorem dX12_craneLifts_19 : decode cX12_craneLifts 19 = .ok (.ireturn, 1) := by decide +kernel
set_option maxRecDepth 20000 in
theorem kt_X12_craneLifts_0 (g : gx_T) : ∀ q ∈ k_X12_craneLifts_0, gx_E g gc_md RX12 cX12_craneLifts 3 (some .int) "craneLifts" q.1 q.2 := List.forall_mem_cons.mpr ⟨(gs_aload_n dX12_craneLifts_0 rfl), List.forall_mem_cons.mpr ⟨
  (gs_bipush dX12_craneLifts_1 rfl), List.forall_mem_cons.mpr ⟨
  (gs_cv dX12_craneLifts_3 (fun q hq => by
      simp only [List.mem_cons, List.not_mem_nil, or_false] at hq
      subst hq
      exact Or.inl ⟨_, rfl, by decide, by decide +kernel, by decide +kernel, List.forall_mem_cons.mpr ⟨gx_mem 1555 (by decide +kernel) (by decide +kernel), List.forall_mem_cons.mpr ⟨gx_mem 1557 (by decide +kernel) (by decide +kernel), List.forall_mem_cons.mpr ⟨gx_mem 75 (by decide +kernel) (by decide +kernel), List.forall_mem_cons.mpr ⟨gx_mem 96 (by decide +kernel) (by decide +kernel), List.forall_mem_cons.mpr ⟨cw_1558, fun _ h => absurd h List.not_mem_nil⟩⟩⟩⟩⟩⟩)), List.forall_mem_cons.mpr ⟨
  (gs_aload_n dX12_craneLifts_6 rfl), List.forall_mem_cons.mpr ⟨
  (gs_iload_n dX12_craneLifts_7 rfl), List.forall_mem_cons.mpr ⟨
  (gs_iload_n dX12_craneLifts_8 rfl), List.forall_mem_cons.mpr ⟨
  (gs_cv dX12_craneLifts_9 (fun q hq => by
      simp only [List.mem_cons, List.not_mem_nil, or_false] at hq
      subst hq
      exact Or.inl ⟨_, rfl, by decide, by decide +kernel, by decide +kernel, List.forall_mem_cons.mpr ⟨gx_mem 1551 (by decide +kernel) (by decide +kernel), List.forall_mem_cons.mpr ⟨gx_mem 1553 (by decide +kernel) (by decide +kernel), List.forall_mem_cons.mpr ⟨gx_mem 74 (by decide +kernel) (by decide +kernel), List.forall_mem_cons.mpr ⟨gx_mem 96 (by decide +kernel) (by decide +kernel), List.forall_mem_cons.mpr ⟨cw_1554, fun _ h => absurd h List.not_mem_nil⟩⟩⟩⟩⟩⟩)), List.forall_mem_cons.mpr ⟨
  (gs_aload_n dX12_craneLifts_12 rfl), List.forall_mem_cons.mpr ⟨
  (gs_gf (ref := "GriefCranesModel") dX12_craneLifts_13 (gx_mem 1002 (by decide +kernel) (by decide +kernel)) (Or.inl rfl) gf_12_5), List.forall_mem_cons.mpr ⟨
  (gs_iload_n dX12_craneLifts_16 rfl), List.forall_mem_cons.mpr ⟨
  (gs_iaload dX12_craneLifts_17), List.forall_mem_cons.mpr ⟨
  (gs_isub dX12_craneLifts_18), List.forall_mem_cons.mpr ⟨
  (gs_ri dX12_craneLifts_19), fun _ h => absurd h List.not_mem_nil⟩⟩⟩⟩⟩⟩⟩⟩⟩⟩⟩⟩⟩
theorem kt_X12_craneLifts (g : gx_T) : ∀ q ∈ k_X12_craneLifts, gx_E g gc_md RX12 cX12_craneLifts 3 (some .int) "craneLifts" q.1 q.2 := kt_X12_craneLifts_0 g
set_option maxRecDepth 20000 in
theorem dX12_jibLifts_0 : decode cX12_jibLifts 0 = .ok (.aload_n 0, 1) := by decide +kernel
set_option maxRecDepth 20000 in
theorem dX12_jibLifts_1 : decode cX12_jibLifts 1 = .ok (.bipush 20, 2) := by decide +kernel
set_option maxRecDepth 20000 in
theorem dX12_jibLifts_3 : decode cX12_jibLifts 3 = .ok (.invokevirtual 428, 3) := by decide +kernel
set_option maxRecDepth 20000 in
theorem dX12_jibLifts_6 : decode cX12_jibLifts 6 = .ok (.aload_n 0, 1) := by decide +kernel
set_option maxRecDepth 20000 in
theorem dX12_jibLifts_7 : decode cX12_jibLifts 7 = .ok (.iload_n 1, 1) := by decide +kernel
set_option maxRecDepth 20000 in
theorem dX12_jibLifts_8 : decode cX12_jibLifts 8 = .ok (.iload_n 2, 1) := by decide +kernel
set_option maxRecDepth 20000 in
theorem dX12_jibLifts_9 : decode cX12_jibLifts 9 = .ok (.invokevirtual 437, 3) := by decide +kernel
set_option maxRecDepth 20000 in
theorem dX12_jibLifts_12 : decode cX12_jibLifts 12 = .ok (.bipush 6, 2) := by decide +kernel
set_option maxRecDepth 20000 in
theorem dX12_jibLifts_14 : decode cX12_jibLifts 14 = .ok (.ixor, 1) := by decide +kernel
set_option maxRecDepth 20000 in
theorem dX12_jibLifts_15 : decode cX12_jibLifts 15 = .ok (.ireturn, 1) := by decide +kernel
set_option maxRecDepth 20000 in
theorem kt_X12_jibLifts_0 (g : gx_T) : ∀ q ∈ k_X12_jibLifts_0, gx_E g gc_md RX12 cX12_jibLifts 3 (some .int) "jibLifts" q.1 q.2 := List.forall_mem_cons.mpr ⟨(gs_aload_n dX12_jibLifts_0 rfl), List.forall_mem_cons.mpr ⟨
  (gs_bipush dX12_jibLifts_1 rfl), List.forall_mem_cons.mpr ⟨
  (gs_cv dX12_jibLifts_3 (fun q hq => by
      simp only [List.mem_cons, List.not_mem_nil, or_false] at hq
      subst hq
      exact Or.inl ⟨_, rfl, by decide, by decide +kernel, by decide +kernel, List.forall_mem_cons.mpr ⟨gx_mem 1555 (by decide +kernel) (by decide +kernel), List.forall_mem_cons.mpr ⟨gx_mem 1557 (by decide +kernel) (by decide +kernel), List.forall_mem_cons.mpr ⟨gx_mem 75 (by decide +kernel) (by decide +kernel), List.forall_mem_cons.mpr ⟨gx_mem 96 (by decide +kernel) (by decide +kernel), List.forall_mem_cons.mpr ⟨cw_1558, fun _ h => absurd h List.not_mem_nil⟩⟩⟩⟩⟩⟩)), List.forall_mem_cons.mpr ⟨
  (gs_aload_n dX12_jibLifts_6 rfl), List.forall_mem_cons.mpr ⟨
  (gs_iload_n dX12_jibLifts_7 rfl), List.forall_mem_cons.mpr ⟨
  (gs_iload_n dX12_jibLifts_8 rfl), List.forall_mem_cons.mpr ⟨
  (gs_cv dX12_jibLifts_9 (fun q hq => by
      simp only [List.mem_cons, List.not_mem_nil, or_false] at hq
      subst hq
      exact Or.inl ⟨_, rfl, by decide, by decide +kernel, by decide +kernel, List.forall_mem_cons.mpr ⟨gx_mem 1571 (by decide +kernel) (by decide +kernel), List.forall_mem_cons.mpr ⟨gx_mem 1573 (by decide +kernel) (by decide +kernel), List.forall_mem_cons.mpr ⟨gx_mem 79 (by decide +kernel) (by decide +kernel), List.forall_mem_cons.mpr ⟨gx_mem 96 (by decide +kernel) (by decide +kernel), List.forall_mem_cons.mpr ⟨cw_1574, fun _ h => absurd h List.not_mem_nil⟩⟩⟩⟩⟩⟩)), List.forall_mem_cons.mpr ⟨
  (gs_bipush dX12_jibLifts_12 rfl), List.forall_mem_cons.mpr ⟨
  (gs_ixor dX12_jibLifts_14), List.forall_mem_cons.mpr ⟨
  (gs_ri dX12_jibLifts_15), fun _ h => absurd h List.not_mem_nil⟩⟩⟩⟩⟩⟩⟩⟩⟩⟩
theorem kt_X12_jibLifts (g : gx_T) : ∀ q ∈ k_X12_jibLifts, gx_E g gc_md RX12 cX12_jibLifts 3 (some .int) "jibLifts" q.1 q.2 := kt_X12_jibLifts_0 g
set_option maxRecDepth 20000 in
theorem dX12_liftsAct_0 : decode cX12_liftsAct 0 = .ok (.aload_n 0, 1) := by decide +kernel
set_option maxRecDepth 20000 in
theorem dX12_liftsAct_1 : decode cX12_liftsAct 1 = .ok (.getfield 23, 3) := by decide +kernel
set_option maxRecDepth 20000 in
theorem dX12_liftsAct_4 : decode cX12_liftsAct 4 = .ok (.iload_n 1, 1) := by decide +kernel
set_option maxRecDepth 20000 in
theorem dX12_liftsAct_5 : decode cX12_liftsAct 5 = .ok (.iaload, 1) := by decide +kernel
set_option maxRecDepth 20000 in
theorem dX12_liftsAct_6 : decode cX12_liftsAct 6 = .ok (.lookupswitch 78 #[(1, 34), (4, 41), (6, 56)], 34) := by decide +kernel
set_option maxRecDepth 20000 in
theorem dX12_liftsAct_40 : decode cX12_liftsAct 40 = .ok (.aload_n 0, 1) := by decide +kernel
set_option maxRecDepth 20000 in
theorem dX12_liftsAct_41 : decode cX12_liftsAct 41 = .ok (.iload_n 1, 1) := by decide +kernel
set_option maxRecDepth 20000 in
theorem dX12_liftsAct_42 : decode cX12_liftsAct 42 = .ok (.iload_n 2, 1) := by decide +kernel
set_option maxRecDepth 20000 in
theorem dX12_liftsAct_43 : decode cX12_liftsAct 43 = .ok (.invokevirtual 440, 3) := by decide +kernel
set_option maxRecDepth 20000 in
theorem dX12_liftsAct_46 : decode cX12_liftsAct 46 = .ok (.ireturn, 1) := by decide +kernel
set_option maxRecDepth 20000 in
theorem dX12_liftsAct_47 : decode cX12_liftsAct 47 = .ok (.aload_n 0, 1) := by decide +kernel
set_option maxRecDepth 20000 in
theorem dX12_liftsAct_48 : decode cX12_liftsAct 48 = .ok (.bipush 51, 2) := by decide +kernel
set_option maxRecDepth 20000 in
theorem dX12_liftsAct_50 : decode cX12_liftsAct 50 = .ok (.invokevirtual 428, 3) := by decide +kernel
set_option maxRecDepth 20000 in
theorem dX12_liftsAct_53 : decode cX12_liftsAct 53 = .ok (.aload_n 0, 1) := by decide +kernel
set_option maxRecDepth 20000 in
theorem dX12_liftsAct_54 : decode cX12_liftsAct 54 = .ok (.iload_n 1, 1) := by decide +kernel
set_option maxRecDepth 20000 in
theorem dX12_liftsAct_55 : decode cX12_liftsAct 55 = .ok (.iload_n 2, 1) := by decide +kernel
set_option maxRecDepth 20000 in
theorem dX12_liftsAct_56 : decode cX12_liftsAct 56 = .ok (.iconst 1, 1) := by decide +kernel
set_option maxRecDepth 20000 in
theorem dX12_liftsAct_57 : decode cX12_liftsAct 57 = .ok (.iadd, 1) := by decide +kernel
set_option maxRecDepth 20000 in
theorem dX12_liftsAct_58 : decode cX12_liftsAct 58 = .ok (.invokevirtual 440, 3) := by decide +kernel
set_option maxRecDepth 20000 in
theorem dX12_liftsAct_61 : decode cX12_liftsAct 61 = .ok (.ireturn, 1) := by decide +kernel
set_option maxRecDepth 20000 in
theorem dX12_liftsAct_62 : decode cX12_liftsAct 62 = .ok (.aload_n 0, 1) := by decide +kernel
set_option maxRecDepth 20000 in
theorem dX12_liftsAct_63 : decode cX12_liftsAct 63 = .ok (.bipush 70, 2) := by decide +kernel
set_option maxRecDepth 20000 in
theorem dX12_liftsAct_65 : decode cX12_liftsAct 65 = .ok (.invokevirtual 428, 3) := by decide +kernel
set_option maxRecDepth 20000 in
theorem dX12_liftsAct_68 : decode cX12_liftsAct 68 = .ok (.aload_n 0, 1) := by decide +kernel
set_option maxRecDepth 20000 in
theorem dX12_liftsAct_69 : decode cX12_liftsAct 69 = .ok (.iload_n 1, 1) := by decide +kernel
set_option maxRecDepth 20000 in
theorem dX12_liftsAct_70 : decode cX12_liftsAct 70 = .ok (.iload_n 2, 1) := by decide +kernel
set_option maxRecDepth 20000 in
theorem dX12_liftsAct_71 : decode cX12_liftsAct 71 = .ok (.invokevirtual 437, 3) := by decide +kernel
set_option maxRecDepth 20000 in
theorem dX12_liftsAct_74 : decode cX12_liftsAct 74 = .ok (.istore_n 3, 1) := by decide +kernel
set_option maxRecDepth 20000 in
theorem dX12_liftsAct_75 : decode cX12_liftsAct 75 = .ok (.iload_n 3, 1) := by decide +kernel
set_option maxRecDepth 20000 in
theorem dX12_liftsAct_76 : decode cX12_liftsAct 76 = .ok (.aload_n 0, 1) := by decide +kernel
set_option maxRecDepth 20000 in
theorem dX12_liftsAct_77 : decode cX12_liftsAct 77 = .ok (.iload_n 1, 1) := by decide +kernel
set_option maxRecDepth 20000 in
theorem dX12_liftsAct_78 : decode cX12_liftsAct 78 = .ok (.iconst 2, 1) := by decide +kernel
set_option maxRecDepth 20000 in
theorem dX12_liftsAct_79 : decode cX12_liftsAct 79 = .ok (.invokevirtual 431, 3) := by decide +kernel
set_option maxRecDepth 20000 in
theorem dX12_liftsAct_82 : decode cX12_liftsAct 82 = .ok (.iadd, 1) := by decide +kernel
set_option maxRecDepth 20000 in
theorem dX12_liftsAct_83 : decode cX12_liftsAct 83 = .ok (.ireturn, 1) := by decide +kernel
set_option maxRecDepth 20000 in
theorem dX12_liftsAct_84 : decode cX12_liftsAct 84 = .ok (.aload_n 0, 1) := by decide +kernel
set_option maxRecDepth 20000 in
theorem dX12_liftsAct_85 : decode cX12_liftsAct 85 = .ok (.iload_n 1, 1) := by decide +kernel
set_option maxRecDepth 20000 in
theorem dX12_liftsAct_86 : decode cX12_liftsAct 86 = .ok (.iload_n 2, 1) := by decide +kernel
set_option maxRecDepth 20000 in
theorem dX12_liftsAct_87 : decode cX12_liftsAct 87 = .ok (.invokevirtual 437, 3) := by decide +kernel
set_option maxRecDepth 20000 in
theorem dX12_liftsAct_90 : decode cX12_liftsAct 90 = .ok (.ireturn, 1) := by decide +kernel
set_option maxRecDepth 20000 in
theorem kt_X12_liftsAct_0 (g : gx_T) : ∀ q ∈ k_X12_liftsAct_0, gx_E g gc_md RX12 cX12_liftsAct 4 (some .int) "liftsAct" q.1 q.2 := List.forall_mem_cons.mpr ⟨(gs_aload_n dX12_liftsAct_0 rfl), List.forall_mem_cons.mpr ⟨
  (gs_gf (ref := "GriefCranesModel") dX12_liftsAct_1 (gx_mem 1001 (by decide +kernel) (by decide +kernel)) (Or.inl rfl) gf_12_4), List.forall_mem_cons.mpr ⟨
  (gs_iload_n dX12_liftsAct_4 rfl), List.forall_mem_cons.mpr ⟨
  (gs_iaload dX12_liftsAct_5), List.forall_mem_cons.mpr ⟨
  (gs_lsw (ps := [(1, 34), (4, 41), (6, 56)]) dX12_liftsAct_6 (by decide +kernel) (gx_lupok (by decide +kernel) (by decide +kernel))), List.forall_mem_cons.mpr ⟨
  (gs_aload_n dX12_liftsAct_40 rfl), List.forall_mem_cons.mpr ⟨
  (gs_iload_n dX12_liftsAct_41 rfl), List.forall_mem_cons.mpr ⟨
  (gs_iload_n dX12_liftsAct_42 rfl), List.forall_mem_cons.mpr ⟨
  (gs_cv dX12_liftsAct_43 (fun q hq => by
      simp only [List.mem_cons, List.not_mem_nil, or_false] at hq
      subst hq
      exact Or.inl ⟨_, rfl, by decide, by decide +kernel, by decide +kernel, List.forall_mem_cons.mpr ⟨gx_mem 1567 (by decide +kernel) (by decide +kernel), List.forall_mem_cons.mpr ⟨gx_mem 1569 (by decide +kernel) (by decide +kernel), List.forall_mem_cons.mpr ⟨gx_mem 78 (by decide +kernel) (by decide +kernel), List.forall_mem_cons.mpr ⟨gx_mem 96 (by decide +kernel) (by decide +kernel), List.forall_mem_cons.mpr ⟨cw_1570, fun _ h => absurd h List.not_mem_nil⟩⟩⟩⟩⟩⟩)), List.forall_mem_cons.mpr ⟨
  (gs_ri dX12_liftsAct_46), List.forall_mem_cons.mpr ⟨
  (gs_aload_n dX12_liftsAct_47 rfl), List.forall_mem_cons.mpr ⟨
  (gs_bipush dX12_liftsAct_48 rfl), List.forall_mem_cons.mpr ⟨
  (gs_cv dX12_liftsAct_50 (fun q hq => by
      simp only [List.mem_cons, List.not_mem_nil, or_false] at hq
      subst hq
      exact Or.inl ⟨_, rfl, by decide, by decide +kernel, by decide +kernel, List.forall_mem_cons.mpr ⟨gx_mem 1555 (by decide +kernel) (by decide +kernel), List.forall_mem_cons.mpr ⟨gx_mem 1557 (by decide +kernel) (by decide +kernel), List.forall_mem_cons.mpr ⟨gx_mem 75 (by decide +kernel) (by decide +kernel), List.forall_mem_cons.mpr ⟨gx_mem 96 (by decide +kernel) (by decide +kernel), List.forall_mem_cons.mpr ⟨cw_1558, fun _ h => absurd h List.not_mem_nil⟩⟩⟩⟩⟩⟩)), List.forall_mem_cons.mpr ⟨
  (gs_aload_n dX12_liftsAct_53 rfl), List.forall_mem_cons.mpr ⟨
  (gs_iload_n dX12_liftsAct_54 rfl), List.forall_mem_cons.mpr ⟨
  (gs_iload_n dX12_liftsAct_55 rfl), List.forall_mem_cons.mpr ⟨
  (gs_iconst dX12_liftsAct_56 rfl), List.forall_mem_cons.mpr ⟨
  (gs_iadd dX12_liftsAct_57), List.forall_mem_cons.mpr ⟨
  (gs_cv dX12_liftsAct_58 (fun q hq => by
      simp only [List.mem_cons, List.not_mem_nil, or_false] at hq
      subst hq
      exact Or.inl ⟨_, rfl, by decide, by decide +kernel, by decide +kernel, List.forall_mem_cons.mpr ⟨gx_mem 1567 (by decide +kernel) (by decide +kernel), List.forall_mem_cons.mpr ⟨gx_mem 1569 (by decide +kernel) (by decide +kernel), List.forall_mem_cons.mpr ⟨gx_mem 78 (by decide +kernel) (by decide +kernel), List.forall_mem_cons.mpr ⟨gx_mem 96 (by decide +kernel) (by decide +kernel), List.forall_mem_cons.mpr ⟨cw_1570, fun _ h => absurd h List.not_mem_nil⟩⟩⟩⟩⟩⟩)), List.forall_mem_cons.mpr ⟨
  (gs_ri dX12_liftsAct_61), List.forall_mem_cons.mpr ⟨
  (gs_aload_n dX12_liftsAct_62 rfl), List.forall_mem_cons.mpr ⟨
  (gs_bipush dX12_liftsAct_63 rfl), List.forall_mem_cons.mpr ⟨
  (gs_cv dX12_liftsAct_65 (fun q hq => by
      simp only [List.mem_cons, List.not_mem_nil, or_false] at hq
      subst hq
      exact Or.inl ⟨_, rfl, by decide, by decide +kernel, by decide +kernel, List.forall_mem_cons.mpr ⟨gx_mem 1555 (by decide +kernel) (by decide +kernel), List.forall_mem_cons.mpr ⟨gx_mem 1557 (by decide +kernel) (by decide +kernel), List.forall_mem_cons.mpr ⟨gx_mem 75 (by decide +kernel) (by decide +kernel), List.forall_mem_cons.mpr ⟨gx_mem 96 (by decide +kernel) (by decide +kernel), List.forall_mem_cons.mpr ⟨cw_1558, fun _ h => absurd h List.not_mem_nil⟩⟩⟩⟩⟩⟩)), List.forall_mem_cons.mpr ⟨
  (gs_aload_n dX12_liftsAct_68 rfl), List.forall_mem_cons.mpr ⟨
  (gs_iload_n dX12_liftsAct_69 rfl), List.forall_mem_cons.mpr ⟨
  (gs_iload_n dX12_liftsAct_70 rfl), List.forall_mem_cons.mpr ⟨
  (gs_cv dX12_liftsAct_71 (fun q hq => by
      simp only [List.mem_cons, List.not_mem_nil, or_false] at hq
      subst hq
      exact Or.inl ⟨_, rfl, by decide, by decide +kernel, by decide +kernel, List.forall_mem_cons.mpr ⟨gx_mem 1571 (by decide +kernel) (by decide +kernel), List.forall_mem_cons.mpr ⟨gx_mem 1573 (by decide +kernel) (by decide +kernel), List.forall_mem_cons.mpr ⟨gx_mem 79 (by decide +kernel) (by decide +kernel), List.forall_mem_cons.mpr ⟨gx_mem 96 (by decide +kernel) (by decide +kernel), List.forall_mem_cons.mpr ⟨cw_1574, fun _ h => absurd h List.not_mem_nil⟩⟩⟩⟩⟩⟩)), List.forall_mem_cons.mpr ⟨
  (gs_istore_n dX12_liftsAct_74 rfl), List.forall_mem_cons.mpr ⟨
  (gs_iload_n dX12_liftsAct_75 rfl), List.forall_mem_cons.mpr ⟨
  (gs_aload_n dX12_liftsAct_76 rfl), List.forall_mem_cons.mpr ⟨
  (gs_iload_n dX12_liftsAct_77 rfl), List.forall_mem_cons.mpr ⟨
  (gs_iconst dX12_liftsAct_78 rfl), fun _ h => absurd h List.not_mem_nil⟩⟩⟩⟩⟩⟩⟩⟩⟩⟩⟩⟩⟩⟩⟩⟩⟩⟩⟩⟩⟩⟩⟩⟩⟩⟩⟩⟩⟩⟩⟩⟩
set_option maxRecDepth 20000 in
theorem kt_X12_liftsAct_1 (g : gx_T) : ∀ q ∈ k_X12_liftsAct_1, gx_E g gc_md RX12 cX12_liftsAct 4 (some .int) "liftsAct" q.1 q.2 := List.forall_mem_cons.mpr ⟨(gs_cv dX12_liftsAct_79 (fun q hq => by
      simp only [List.mem_cons, List.not_mem_nil, or_false] at hq
      subst hq
      exact Or.inl ⟨_, rfl, by decide, by decide +kernel, by decide +kernel, List.forall_mem_cons.mpr ⟨gx_mem 1559 (by decide +kernel) (by decide +kernel), List.forall_mem_cons.mpr ⟨gx_mem 1561 (by decide +kernel) (by decide +kernel), List.forall_mem_cons.mpr ⟨gx_mem 76 (by decide +kernel) (by decide +kernel), List.forall_mem_cons.mpr ⟨gx_mem 96 (by decide +kernel) (by decide +kernel), List.forall_mem_cons.mpr ⟨cw_1562, fun _ h => absurd h List.not_mem_nil⟩⟩⟩⟩⟩⟩)), List.forall_mem_cons.mpr ⟨
  (gs_iadd dX12_liftsAct_82), List.forall_mem_cons.mpr ⟨
  (gs_ri dX12_liftsAct_83), List.forall_mem_cons.mpr ⟨
  (gs_aload_n dX12_liftsAct_84 rfl), List.forall_mem_cons.mpr ⟨
  (gs_iload_n dX12_liftsAct_85 rfl), List.forall_mem_cons.mpr ⟨
  (gs_iload_n dX12_liftsAct_86 rfl), List.forall_mem_cons.mpr ⟨
  (gs_cv dX12_liftsAct_87 (fun q hq => by
      simp only [List.mem_cons, List.not_mem_nil, or_false] at hq
      subst hq
      exact Or.inl ⟨_, rfl, by decide, by decide +kernel, by decide +kernel, List.forall_mem_cons.mpr ⟨gx_mem 1571 (by decide +kernel) (by decide +kernel), List.forall_mem_cons.mpr ⟨gx_mem 1573 (by decide +kernel) (by decide +kernel), List.forall_mem_cons.mpr ⟨gx_mem 79 (by decide +kernel) (by decide +kernel), List.forall_mem_cons.mpr ⟨gx_mem 96 (by decide +kernel) (by decide +kernel), List.forall_mem_cons.mpr ⟨cw_1574, fun _ h => absurd h List.not_mem_nil⟩⟩⟩⟩⟩⟩)), List.forall_mem_cons.mpr ⟨
  (gs_ri dX12_liftsAct_90), fun _ h => absurd h List.not_mem_nil⟩⟩⟩⟩⟩⟩⟩⟩
theorem kt_X12_liftsAct (g : gx_T) : ∀ q ∈ k_X12_liftsAct, gx_E g gc_md RX12 cX12_liftsAct 4 (some .int) "liftsAct" q.1 q.2 := List.forall_mem_append.mpr ⟨kt_X12_liftsAct_0 g, kt_X12_liftsAct_1 g⟩
set_option maxRecDepth 20000 in
theorem dX12_craneTells_0 : decode cX12_craneTells 0 = .ok (.aload_n 0, 1) := by decide +kernel
set_option maxRecDepth 20000 in
theorem dX12_craneTells_1 : decode cX12_craneTells 1 = .ok (.bipush 12, 2) := by decide +kernel
set_option maxRecDepth 20000 in
theorem dX12_craneTells_3 : decode cX12_craneTells 3 = .ok (.invokevirtual 428, 3) := by decide +kernel
set_option maxRecDepth 20000 in
theorem dX12_craneTells_6 : decode cX12_craneTells 6 = .ok (.aload_n 0, 1) := by decide +kernel
set_option maxRecDepth 20000 in
theorem dX12_craneTells_7 : decode cX12_craneTells 7 = .ok (.iload_n 1, 1) := by decide +kernel
set_option maxRecDepth 20000 in
theorem dX12_craneTells_8 : decode cX12_craneTells 8 = .ok (.iload_n 2, 1) := by decide +kernel
set_option maxRecDepth 20000 in
theorem dX12_craneTells_9 : decode cX12_craneTells 9 = .ok (.invokevirtual 443, 3) := by decide +kernel
set_option maxRecDepth 20000 in
theorem dX12_craneTells_12 : decode cX12_craneTells 12 = .ok (.iconst 2, 1) := by decide +kernel
set_option maxRecDepth 20000 in
theorem dX12_craneTells_13 : decode cX12_craneTells 13 = .ok (.imul, 1) := by decide +kernel
set_option maxRecDepth 20000 in
theorem dX12_craneTells_14 : decode cX12_craneTells 14 = .ok (.ireturn, 1) := by decide +kernel
set_option maxRecDepth 20000 in
theorem kt_X12_craneTells_0 (g : gx_T) : ∀ q ∈ k_X12_craneTells_0, gx_E g gc_md RX12 cX12_craneTells 3 (some .int) "craneTells" q.1 q.2 := List.forall_mem_cons.mpr ⟨(gs_aload_n dX12_craneTells_0 rfl), List.forall_mem_cons.mpr ⟨
  (gs_bipush dX12_craneTells_1 rfl), List.forall_mem_cons.mpr ⟨
  (gs_cv dX12_craneTells_3 (fun q hq => by
      simp only [List.mem_cons, List.not_mem_nil, or_false] at hq
      subst hq
      exact Or.inl ⟨_, rfl, by decide, by decide +kernel, by decide +kernel, List.forall_mem_cons.mpr ⟨gx_mem 1555 (by decide +kernel) (by decide +kernel), List.forall_mem_cons.mpr ⟨gx_mem 1557 (by decide +kernel) (by decide +kernel), List.forall_mem_cons.mpr ⟨gx_mem 75 (by decide +kernel) (by decide +kernel), List.forall_mem_cons.mpr ⟨gx_mem 96 (by decide +kernel) (by decide +kernel), List.forall_mem_cons.mpr ⟨cw_1558, fun _ h => absurd h List.not_mem_nil⟩⟩⟩⟩⟩⟩)), List.forall_mem_cons.mpr ⟨
  (gs_aload_n dX12_craneTells_6 rfl), List.forall_mem_cons.mpr ⟨
  (gs_iload_n dX12_craneTells_7 rfl), List.forall_mem_cons.mpr ⟨
  (gs_iload_n dX12_craneTells_8 rfl), List.forall_mem_cons.mpr ⟨
  (gs_cv dX12_craneTells_9 (fun q hq => by
      simp only [List.mem_cons, List.not_mem_nil, or_false] at hq
      subst hq
      exact Or.inl ⟨_, rfl, by decide, by decide +kernel, by decide +kernel, List.forall_mem_cons.mpr ⟨gx_mem 1563 (by decide +kernel) (by decide +kernel), List.forall_mem_cons.mpr ⟨gx_mem 1565 (by decide +kernel) (by decide +kernel), List.forall_mem_cons.mpr ⟨gx_mem 77 (by decide +kernel) (by decide +kernel), List.forall_mem_cons.mpr ⟨gx_mem 96 (by decide +kernel) (by decide +kernel), List.forall_mem_cons.mpr ⟨cw_1566, fun _ h => absurd h List.not_mem_nil⟩⟩⟩⟩⟩⟩)), List.forall_mem_cons.mpr ⟨
  (gs_iconst dX12_craneTells_12 rfl), List.forall_mem_cons.mpr ⟨
  (gs_imul dX12_craneTells_13), List.forall_mem_cons.mpr ⟨
  (gs_ri dX12_craneTells_14), fun _ h => absurd h List.not_mem_nil⟩⟩⟩⟩⟩⟩⟩⟩⟩⟩
theorem kt_X12_craneTells (g : gx_T) : ∀ q ∈ k_X12_craneTells, gx_E g gc_md RX12 cX12_craneTells 3 (some .int) "craneTells" q.1 q.2 := kt_X12_craneTells_0 g
set_option maxRecDepth 20000 in
theorem dX12_tellsAct_0 : decode cX12_tellsAct 0 = .ok (.aload_n 0, 1) := by decide +kernel
set_option maxRecDepth 20000 in
theorem dX12_tellsAct_1 : decode cX12_tellsAct 1 = .ok (.getfield 23, 3) := by decide +kernel
set_option maxRecDepth 20000 in
theorem dX12_tellsAct_4 : decode cX12_tellsAct 4 = .ok (.iload_n 1, 1) := by decide +kernel
set_option maxRecDepth 20000 in
theorem dX12_tellsAct_5 : decode cX12_tellsAct 5 = .ok (.iaload, 1) := by decide +kernel
set_option maxRecDepth 20000 in
theorem dX12_tellsAct_6 : decode cX12_tellsAct 6 = .ok (.tableswitch 67 3 6 #[30, 67, 52, 30], 30) := by decide +kernel
set_option maxRecDepth 20000 in
theorem dX12_tellsAct_36 : decode cX12_tellsAct 36 = .ok (.aload_n 0, 1) := by decide +kernel
set_option maxRecDepth 20000 in
theorem dX12_tellsAct_37 : decode cX12_tellsAct 37 = .ok (.bipush 40, 2) := by decide +kernel
set_option maxRecDepth 20000 in
theorem dX12_tellsAct_39 : decode cX12_tellsAct 39 = .ok (.invokevirtual 428, 3) := by decide +kernel
set_option maxRecDepth 20000 in
theorem dX12_tellsAct_42 : decode cX12_tellsAct 42 = .ok (.aload_n 0, 1) := by decide +kernel
set_option maxRecDepth 20000 in
theorem dX12_tellsAct_43 : decode cX12_tellsAct 43 = .ok (.iload_n 1, 1) := by decide +kernel
set_option maxRecDepth 20000 in
theorem dX12_tellsAct_44 : decode cX12_tellsAct 44 = .ok (.iload_n 2, 1) := by decide +kernel
set_option maxRecDepth 20000 in
theorem dX12_tellsAct_45 : decode cX12_tellsAct 45 = .ok (.invokevirtual 446, 3) := by decide +kernel
set_option maxRecDepth 20000 in
theorem dX12_tellsAct_48 : decode cX12_tellsAct 48 = .ok (.istore_n 3, 1) := by decide +kernel
set_option maxRecDepth 20000 in
theorem dX12_tellsAct_49 : decode cX12_tellsAct 49 = .ok (.iload_n 3, 1) := by decide +kernel
set_option maxRecDepth 20000 in
theorem dX12_tellsAct_50 : decode cX12_tellsAct 50 = .ok (.aload_n 0, 1) := by decide +kernel
set_option maxRecDepth 20000 in
theorem dX12_tellsAct_51 : decode cX12_tellsAct 51 = .ok (.iload_n 1, 1) := by decide +kernel
set_option maxRecDepth 20000 in
theorem dX12_tellsAct_52 : decode cX12_tellsAct 52 = .ok (.iconst 1, 1) := by decide +kernel
set_option maxRecDepth 20000 in
theorem dX12_tellsAct_53 : decode cX12_tellsAct 53 = .ok (.invokevirtual 443, 3) := by decide +kernel
set_option maxRecDepth 20000 in
theorem dX12_tellsAct_56 : decode cX12_tellsAct 56 = .ok (.iadd, 1) := by decide +kernel
set_option maxRecDepth 20000 in
theorem dX12_tellsAct_57 : decode cX12_tellsAct 57 = .ok (.ireturn, 1) := by decide +kernel
set_option maxRecDepth 20000 in
theorem dX12_tellsAct_58 : decode cX12_tellsAct 58 = .ok (.aload_n 0, 1) := by decide +kernel
set_option maxRecDepth 20000 in
theorem dX12_tellsAct_59 : decode cX12_tellsAct 59 = .ok (.bipush 60, 2) := by decide +kernel
set_option maxRecDepth 20000 in
theorem dX12_tellsAct_61 : decode cX12_tellsAct 61 = .ok (.invokevirtual 428, 3) := by decide +kernel
set_option maxRecDepth 20000 in
theorem dX12_tellsAct_64 : decode cX12_tellsAct 64 = .ok (.aload_n 0, 1) := by decide +kernel
set_option maxRecDepth 20000 in
theorem dX12_tellsAct_65 : decode cX12_tellsAct 65 = .ok (.iload_n 1, 1) := by decide +kernel
set_option maxRecDepth 20000 in
theorem dX12_tellsAct_66 : decode cX12_tellsAct 66 = .ok (.iload_n 2, 1) := by decide +kernel
set_option maxRecDepth 20000 in
theorem dX12_tellsAct_67 : decode cX12_tellsAct 67 = .ok (.iload_n 1, 1) := by decide +kernel
set_option maxRecDepth 20000 in
theorem dX12_tellsAct_68 : decode cX12_tellsAct 68 = .ok (.isub, 1) := by decide +kernel
set_option maxRecDepth 20000 in
theorem dX12_tellsAct_69 : decode cX12_tellsAct 69 = .ok (.invokevirtual 446, 3) := by decide +kernel
set_option maxRecDepth 20000 in
theorem dX12_tellsAct_72 : decode cX12_tellsAct 72 = .ok (.ireturn, 1) := by decide +kernel
set_option maxRecDepth 20000 in
theorem dX12_tellsAct_73 : decode cX12_tellsAct 73 = .ok (.aload_n 0, 1) := by decide +kernel
set_option maxRecDepth 20000 in
theorem dX12_tellsAct_74 : decode cX12_tellsAct 74 = .ok (.iload_n 1, 1) := by decide +kernel
set_option maxRecDepth 20000 in
theorem dX12_tellsAct_75 : decode cX12_tellsAct 75 = .ok (.iload_n 2, 1) := by decide +kernel
set_option maxRecDepth 20000 in
theorem dX12_tellsAct_76 : decode cX12_tellsAct 76 = .ok (.invokevirtual 446, 3) := by decide +kernel
set_option maxRecDepth 20000 in
theorem dX12_tellsAct_79 : decode cX12_tellsAct 79 = .ok (.ireturn, 1) := by decide +kernel
set_option maxRecDepth 20000 in
theorem kt_X12_tellsAct_0 (g : gx_T) : ∀ q ∈ k_X12_tellsAct_0, gx_E g gc_md RX12 cX12_tellsAct 4 (some .int) "tellsAct" q.1 q.2 := List.forall_mem_cons.mpr ⟨(gs_aload_n dX12_tellsAct_0 rfl), List.forall_mem_cons.mpr ⟨
  (gs_gf (ref := "GriefCranesModel") dX12_tellsAct_1 (gx_mem 1001 (by decide +kernel) (by decide +kernel)) (Or.inl rfl) gf_12_4), List.forall_mem_cons.mpr ⟨
  (gs_iload_n dX12_tellsAct_4 rfl), List.forall_mem_cons.mpr ⟨
  (gs_iaload dX12_tellsAct_5), List.forall_mem_cons.mpr ⟨
  (gs_tsw (lo := 3) (offs := [30, 67, 52, 30]) dX12_tellsAct_6 (by decide +kernel) (by decide +kernel)), List.forall_mem_cons.mpr ⟨
  (gs_aload_n dX12_tellsAct_36 rfl), List.forall_mem_cons.mpr ⟨
  (gs_bipush dX12_tellsAct_37 rfl), List.forall_mem_cons.mpr ⟨
  (gs_cv dX12_tellsAct_39 (fun q hq => by
      simp only [List.mem_cons, List.not_mem_nil, or_false] at hq
      subst hq
      exact Or.inl ⟨_, rfl, by decide, by decide +kernel, by decide +kernel, List.forall_mem_cons.mpr ⟨gx_mem 1555 (by decide +kernel) (by decide +kernel), List.forall_mem_cons.mpr ⟨gx_mem 1557 (by decide +kernel) (by decide +kernel), List.forall_mem_cons.mpr ⟨gx_mem 75 (by decide +kernel) (by decide +kernel), List.forall_mem_cons.mpr ⟨gx_mem 96 (by decide +kernel) (by decide +kernel), List.forall_mem_cons.mpr ⟨cw_1558, fun _ h => absurd h List.not_mem_nil⟩⟩⟩⟩⟩⟩)), List.forall_mem_cons.mpr ⟨
  (gs_aload_n dX12_tellsAct_42 rfl), List.forall_mem_cons.mpr ⟨
  (gs_iload_n dX12_tellsAct_43 rfl), List.forall_mem_cons.mpr ⟨
  (gs_iload_n dX12_tellsAct_44 rfl), List.forall_mem_cons.mpr ⟨
  (gs_cv dX12_tellsAct_45 (fun q hq => by
      simp only [List.mem_cons, List.not_mem_nil, or_false] at hq
      subst hq
      exact Or.inl ⟨_, rfl, by decide, by decide +kernel, by decide +kernel, List.forall_mem_cons.mpr ⟨gx_mem 1579 (by decide +kernel) (by decide +kernel), List.forall_mem_cons.mpr ⟨gx_mem 1581 (by decide +kernel) (by decide +kernel), List.forall_mem_cons.mpr ⟨gx_mem 81 (by decide +kernel) (by decide +kernel), List.forall_mem_cons.mpr ⟨gx_mem 96 (by decide +kernel) (by decide +kernel), List.forall_mem_cons.mpr ⟨cw_1582, fun _ h => absurd h List.not_mem_nil⟩⟩⟩⟩⟩⟩)), List.forall_mem_cons.mpr ⟨
  (gs_istore_n dX12_tellsAct_48 rfl), List.forall_mem_cons.mpr ⟨
  (gs_iload_n dX12_tellsAct_49 rfl), List.forall_mem_cons.mpr ⟨
  (gs_aload_n dX12_tellsAct_50 rfl), List.forall_mem_cons.mpr ⟨
  (gs_iload_n dX12_tellsAct_51 rfl), List.forall_mem_cons.mpr ⟨
  (gs_iconst dX12_tellsAct_52 rfl), List.forall_mem_cons.mpr ⟨
  (gs_cv dX12_tellsAct_53 (fun q hq => by
      simp only [List.mem_cons, List.not_mem_nil, or_false] at hq
      subst hq
      exact Or.inl ⟨_, rfl, by decide, by decide +kernel, by decide +kernel, List.forall_mem_cons.mpr ⟨gx_mem 1563 (by decide +kernel) (by decide +kernel), List.forall_mem_cons.mpr ⟨gx_mem 1565 (by decide +kernel) (by decide +kernel), List.forall_mem_cons.mpr ⟨gx_mem 77 (by decide +kernel) (by decide +kernel), List.forall_mem_cons.mpr ⟨gx_mem 96 (by decide +kernel) (by decide +kernel), List.forall_mem_cons.mpr ⟨cw_1566, fun _ h => absurd h List.not_mem_nil⟩⟩⟩⟩⟩⟩)), List.forall_mem_cons.mpr ⟨
  (gs_iadd dX12_tellsAct_56), List.forall_mem_cons.mpr ⟨
  (gs_ri dX12_tellsAct_57), List.forall_mem_cons.mpr ⟨
  (gs_aload_n dX12_tellsAct_58 rfl), List.forall_mem_cons.mpr ⟨
  (gs_bipush dX12_tellsAct_59 rfl), List.forall_mem_cons.mpr ⟨
  (gs_cv dX12_tellsAct_61 (fun q hq => by
      simp only [List.mem_cons, List.not_mem_nil, or_false] at hq
      subst hq
      exact Or.inl ⟨_, rfl, by decide, by decide +kernel, by decide +kernel, List.forall_mem_cons.mpr ⟨gx_mem 1555 (by decide +kernel) (by decide +kernel), List.forall_mem_cons.mpr ⟨gx_mem 1557 (by decide +kernel) (by decide +kernel), List.forall_mem_cons.mpr ⟨gx_mem 75 (by decide +kernel) (by decide +kernel), List.forall_mem_cons.mpr ⟨gx_mem 96 (by decide +kernel) (by decide +kernel), List.forall_mem_cons.mpr ⟨cw_1558, fun _ h => absurd h List.not_mem_nil⟩⟩⟩⟩⟩⟩)), List.forall_mem_cons.mpr ⟨
  (gs_aload_n dX12_tellsAct_64 rfl), List.forall_mem_cons.mpr ⟨
  (gs_iload_n dX12_tellsAct_65 rfl), List.forall_mem_cons.mpr ⟨
  (gs_iload_n dX12_tellsAct_66 rfl), List.forall_mem_cons.mpr ⟨
  (gs_iload_n dX12_tellsAct_67 rfl), List.forall_mem_cons.mpr ⟨
  (gs_isub dX12_tellsAct_68), List.forall_mem_cons.mpr ⟨
  (gs_cv dX12_tellsAct_69 (fun q hq => by
      simp only [List.mem_cons, List.not_mem_nil, or_false] at hq
      subst hq
      exact Or.inl ⟨_, rfl, by decide, by decide +kernel, by decide +kernel, List.forall_mem_cons.mpr ⟨gx_mem 1579 (by decide +kernel) (by decide +kernel), List.forall_mem_cons.mpr ⟨gx_mem 1581 (by decide +kernel) (by decide +kernel), List.forall_mem_cons.mpr ⟨gx_mem 81 (by decide +kernel) (by decide +kernel), List.forall_mem_cons.mpr ⟨gx_mem 96 (by decide +kernel) (by decide +kernel), List.forall_mem_cons.mpr ⟨cw_1582, fun _ h => absurd h List.not_mem_nil⟩⟩⟩⟩⟩⟩)), List.forall_mem_cons.mpr ⟨
  (gs_ri dX12_tellsAct_72), List.forall_mem_cons.mpr ⟨
  (gs_aload_n dX12_tellsAct_73 rfl), List.forall_mem_cons.mpr ⟨
  (gs_iload_n dX12_tellsAct_74 rfl), fun _ h => absurd h List.not_mem_nil⟩⟩⟩⟩⟩⟩⟩⟩⟩⟩⟩⟩⟩⟩⟩⟩⟩⟩⟩⟩⟩⟩⟩⟩⟩⟩⟩⟩⟩⟩⟩⟩
set_option maxRecDepth 20000 in
theorem kt_X12_tellsAct_1 (g : gx_T) : ∀ q ∈ k_X12_tellsAct_1, gx_E g gc_md RX12 cX12_tellsAct 4 (some .int) "tellsAct" q.1 q.2 := List.forall_mem_cons.mpr ⟨(gs_iload_n dX12_tellsAct_75 rfl), List.forall_mem_cons.mpr ⟨
  (gs_cv dX12_tellsAct_76 (fun q hq => by
      simp only [List.mem_cons, List.not_mem_nil, or_false] at hq
      subst hq
      exact Or.inl ⟨_, rfl, by decide, by decide +kernel, by decide +kernel, List.forall_mem_cons.mpr ⟨gx_mem 1579 (by decide +kernel) (by decide +kernel), List.forall_mem_cons.mpr ⟨gx_mem 1581 (by decide +kernel) (by decide +kernel), List.forall_mem_cons.mpr ⟨gx_mem 81 (by decide +kernel) (by decide +kernel), List.forall_mem_cons.mpr ⟨gx_mem 96 (by decide +kernel) (by decide +kernel), List.forall_mem_cons.mpr ⟨cw_1582, fun _ h => absurd h List.not_mem_nil⟩⟩⟩⟩⟩⟩)), List.forall_mem_cons.mpr ⟨
  (gs_ri dX12_tellsAct_79), fun _ h => absurd h List.not_mem_nil⟩⟩⟩
theorem kt_X12_tellsAct (g : gx_T) : ∀ q ∈ k_X12_tellsAct, gx_E g gc_md RX12 cX12_tellsAct 4 (some .int) "tellsAct" q.1 q.2 := List.forall_mem_append.mpr ⟨kt_X12_tellsAct_0 g, kt_X12_tellsAct_1 g⟩
set_option maxRecDepth 20000 in
theorem dX12_act_0 : decode cX12_act 0 = .ok (.aload_n 0, 1) := by decide +kernel
set_option maxRecDepth 20000 in
theorem dX12_act_1 : decode cX12_act 1 = .ok (.iconst 0, 1) := by decide +kernel
set_option maxRecDepth 20000 in
theorem dX12_act_2 : decode cX12_act 2 = .ok (.putfield 232, 3) := by decide +kernel
set_option maxRecDepth 20000 in
theorem dX12_act_5 : decode cX12_act 5 = .ok (.aload_n 0, 1) := by decide +kernel
set_option maxRecDepth 20000 in
theorem dX12_act_6 : decode cX12_act 6 = .ok (.iload_n 1, 1) := by decide +kernel
set_option maxRecDepth 20000 in
theorem dX12_act_7 : decode cX12_act 7 = .ok (.invokevirtual 259, 3) := by decide +kernel
set_option maxRecDepth 20000 in
theorem dX12_act_10 : decode cX12_act 10 = .ok (.ifCond .eq 13, 3) := by decide +kernel
set_option maxRecDepth 20000 in
theorem dX12_act_13 : decode cX12_act 13 = .ok (.aload_n 0, 1) := by decide +kernel
set_option maxRecDepth 20000 in
theorem dX12_act_14 : decode cX12_act 14 = .ok (.iload_n 2, 1) := by decide +kernel
set_option maxRecDepth 20000 in
theorem dX12_act_15 : decode cX12_act 15 = .ok (.iconst 0, 1) := by decide +kernel
set_option maxRecDepth 20000 in
theorem dX12_act_16 : decode cX12_act 16 = .ok (.iconst 2, 1) := by decide +kernel
set_option maxRecDepth 20000 in
theorem dX12_act_17 : decode cX12_act 17 = .ok (.invokevirtual 255, 3) := by decide +kernel
set_option maxRecDepth 20000 in
theorem dX12_act_20 : decode cX12_act 20 = .ok (.ifCond .ne 5, 3) := by decide +kernel
set_option maxRecDepth 20000 in
theorem dX12_act_23 : decode cX12_act 23 = .ok (.iconst 0, 1) := by decide +kernel
set_option maxRecDepth 20000 in
theorem dX12_act_24 : decode cX12_act 24 = .ok (.ireturn, 1) := by decide +kernel
set_option maxRecDepth 20000 in
theorem dX12_act_25 : decode cX12_act 25 = .ok (.iload_n 2, 1) := by decide +kernel
set_option maxRecDepth 20000 in
theorem dX12_act_26 : decode cX12_act 26 = .ok (.ifCond .ne 12, 3) := by decide +kernel
set_option maxRecDepth 20000 in
theorem dX12_act_29 : decode cX12_act 29 = .ok (.aload_n 0, 1) := by decide +kernel
set_option maxRecDepth 20000 in
theorem dX12_act_30 : decode cX12_act 30 = .ok (.iload_n 1, 1) := by decide +kernel
set_option maxRecDepth 20000 in
theorem dX12_act_31 : decode cX12_act 31 = .ok (.iload_n 3, 1) := by decide +kernel
set_option maxRecDepth 20000 in
theorem dX12_act_32 : decode cX12_act 32 = .ok (.invokevirtual 434, 3) := by decide +kernel
set_option maxRecDepth 20000 in
theorem dX12_act_35 : decode cX12_act 35 = .ok (.goto 23, 3) := by decide +kernel
set_option maxRecDepth 20000 in
theorem dX12_act_38 : decode cX12_act 38 = .ok (.iload_n 2, 1) := by decide +kernel
set_option maxRecDepth 20000 in
theorem dX12_act_39 : decode cX12_act 39 = .ok (.iconst 1, 1) := by decide +kernel
set_option maxRecDepth 20000 in
theorem dX12_act_40 : decode cX12_act 40 = .ok (.if_icmp .ne 12, 3) := by decide +kernel
set_option maxRecDepth 20000 in
theorem dX12_act_43 : decode cX12_act 43 = .ok (.aload_n 0, 1) := by decide +kernel
set_option maxRecDepth 20000 in
theorem dX12_act_44 : decode cX12_act 44 = .ok (.iload_n 1, 1) := by decide +kernel
set_option maxRecDepth 20000 in
theorem dX12_act_45 : decode cX12_act 45 = .ok (.iload_n 3, 1) := by decide +kernel
set_option maxRecDepth 20000 in
theorem dX12_act_46 : decode cX12_act 46 = .ok (.invokevirtual 443, 3) := by decide +kernel
set_option maxRecDepth 20000 in
theorem dX12_act_49 : decode cX12_act 49 = .ok (.goto 9, 3) := by decide +kernel
set_option maxRecDepth 20000 in
theorem dX12_act_52 : decode cX12_act 52 = .ok (.aload_n 0, 1) := by decide +kernel
set_option maxRecDepth 20000 in
theorem dX12_act_53 : decode cX12_act 53 = .ok (.iload_n 1, 1) := by decide +kernel
set_option maxRecDepth 20000 in
theorem dX12_act_54 : decode cX12_act 54 = .ok (.iload_n 3, 1) := by decide +kernel
set_option maxRecDepth 20000 in
theorem dX12_act_55 : decode cX12_act 55 = .ok (.invokevirtual 449, 3) := by decide +kernel
set_option maxRecDepth 20000 in
theorem dX12_act_58 : decode cX12_act 58 = .ok (.ireturn, 1) := by decide +kernel
set_option maxRecDepth 20000 in
theorem kt_X12_act_0 (g : gx_T) : ∀ q ∈ k_X12_act_0, gx_E g gc_md RX12 cX12_act 4 (some .int) "act" q.1 q.2 := List.forall_mem_cons.mpr ⟨(gs_aload_n dX12_act_0 rfl), List.forall_mem_cons.mpr ⟨
  (gs_iconst dX12_act_1 rfl), List.forall_mem_cons.mpr ⟨
  (gs_pf (ref := "GriefCranesModel") dX12_act_2 (gx_mem 1070 (by decide +kernel) (by decide +kernel)) (Or.inl rfl) gf_12_73 (by decide +kernel)), List.forall_mem_cons.mpr ⟨
  (gs_aload_n dX12_act_5 rfl), List.forall_mem_cons.mpr ⟨
  (gs_iload_n dX12_act_6 rfl), List.forall_mem_cons.mpr ⟨
  (gs_cv dX12_act_7 (fun q hq => by
      simp only [List.mem_cons, List.not_mem_nil, or_false] at hq
      subst hq
      exact Or.inl ⟨_, rfl, by decide, by decide +kernel, by decide +kernel, List.forall_mem_cons.mpr ⟨gx_mem 1248 (by decide +kernel) (by decide +kernel), List.forall_mem_cons.mpr ⟨gx_mem 1250 (by decide +kernel) (by decide +kernel), List.forall_mem_cons.mpr ⟨gx_mem 22 (by decide +kernel) (by decide +kernel), List.forall_mem_cons.mpr ⟨gx_mem 96 (by decide +kernel) (by decide +kernel), List.forall_mem_cons.mpr ⟨cw_1251, fun _ h => absurd h List.not_mem_nil⟩⟩⟩⟩⟩⟩)), List.forall_mem_cons.mpr ⟨
  (gs_if_eq dX12_act_10 rfl), List.forall_mem_cons.mpr ⟨
  (gs_aload_n dX12_act_13 rfl), List.forall_mem_cons.mpr ⟨
  (gs_iload_n dX12_act_14 rfl), List.forall_mem_cons.mpr ⟨
  (gs_iconst dX12_act_15 rfl), List.forall_mem_cons.mpr ⟨
  (gs_iconst dX12_act_16 rfl), List.forall_mem_cons.mpr ⟨
  (gs_cv dX12_act_17 (fun q hq => by
      simp only [List.mem_cons, List.not_mem_nil, or_false] at hq
      subst hq
      exact Or.inl ⟨_, rfl, by decide, by decide +kernel, by decide +kernel, List.forall_mem_cons.mpr ⟨gx_mem 1240 (by decide +kernel) (by decide +kernel), List.forall_mem_cons.mpr ⟨gx_mem 1242 (by decide +kernel) (by decide +kernel), List.forall_mem_cons.mpr ⟨gx_mem 21 (by decide +kernel) (by decide +kernel), List.forall_mem_cons.mpr ⟨gx_mem 96 (by decide +kernel) (by decide +kernel), List.forall_mem_cons.mpr ⟨cw_1243, fun _ h => absurd h List.not_mem_nil⟩⟩⟩⟩⟩⟩)), List.forall_mem_cons.mpr ⟨
  (gs_if_ne dX12_act_20 rfl), List.forall_mem_cons.mpr ⟨
  (gs_iconst dX12_act_23 rfl), List.forall_mem_cons.mpr ⟨
  (gs_ri dX12_act_24), List.forall_mem_cons.mpr ⟨
  (gs_iload_n dX12_act_25 rfl), List.forall_mem_cons.mpr ⟨
  (gs_if_ne dX12_act_26 rfl), List.forall_mem_cons.mpr ⟨
  (gs_aload_n dX12_act_29 rfl), List.forall_mem_cons.mpr ⟨
  (gs_iload_n dX12_act_30 rfl), List.forall_mem_cons.mpr ⟨
  (gs_iload_n dX12_act_31 rfl), List.forall_mem_cons.mpr ⟨
  (gs_cv dX12_act_32 (fun q hq => by
      simp only [List.mem_cons, List.not_mem_nil, or_false] at hq
      subst hq
      exact Or.inl ⟨_, rfl, by decide, by decide +kernel, by decide +kernel, List.forall_mem_cons.mpr ⟨gx_mem 1551 (by decide +kernel) (by decide +kernel), List.forall_mem_cons.mpr ⟨gx_mem 1553 (by decide +kernel) (by decide +kernel), List.forall_mem_cons.mpr ⟨gx_mem 74 (by decide +kernel) (by decide +kernel), List.forall_mem_cons.mpr ⟨gx_mem 96 (by decide +kernel) (by decide +kernel), List.forall_mem_cons.mpr ⟨cw_1554, fun _ h => absurd h List.not_mem_nil⟩⟩⟩⟩⟩⟩)), List.forall_mem_cons.mpr ⟨
  (gs_goto dX12_act_35 rfl), List.forall_mem_cons.mpr ⟨
  (gs_iload_n dX12_act_38 rfl), List.forall_mem_cons.mpr ⟨
  (gs_iconst dX12_act_39 rfl), List.forall_mem_cons.mpr ⟨
  (gs_icmp_ne dX12_act_40 rfl), List.forall_mem_cons.mpr ⟨
  (gs_aload_n dX12_act_43 rfl), List.forall_mem_cons.mpr ⟨
  (gs_iload_n dX12_act_44 rfl), List.forall_mem_cons.mpr ⟨
  (gs_iload_n dX12_act_45 rfl), List.forall_mem_cons.mpr ⟨
  (gs_cv dX12_act_46 (fun q hq => by
      simp only [List.mem_cons, List.not_mem_nil, or_false] at hq
      subst hq
      exact Or.inl ⟨_, rfl, by decide, by decide +kernel, by decide +kernel, List.forall_mem_cons.mpr ⟨gx_mem 1563 (by decide +kernel) (by decide +kernel), List.forall_mem_cons.mpr ⟨gx_mem 1565 (by decide +kernel) (by decide +kernel), List.forall_mem_cons.mpr ⟨gx_mem 77 (by decide +kernel) (by decide +kernel), List.forall_mem_cons.mpr ⟨gx_mem 96 (by decide +kernel) (by decide +kernel), List.forall_mem_cons.mpr ⟨cw_1566, fun _ h => absurd h List.not_mem_nil⟩⟩⟩⟩⟩⟩)), List.forall_mem_cons.mpr ⟨
  (gs_goto dX12_act_49 rfl), List.forall_mem_cons.mpr ⟨
  (gs_aload_n dX12_act_52 rfl), List.forall_mem_cons.mpr ⟨
  (gs_iload_n dX12_act_53 rfl), fun _ h => absurd h List.not_mem_nil⟩⟩⟩⟩⟩⟩⟩⟩⟩⟩⟩⟩⟩⟩⟩⟩⟩⟩⟩⟩⟩⟩⟩⟩⟩⟩⟩⟩⟩⟩⟩⟩
set_option maxRecDepth 20000 in
theorem kt_X12_act_1 (g : gx_T) : ∀ q ∈ k_X12_act_1, gx_E g gc_md RX12 cX12_act 4 (some .int) "act" q.1 q.2 := List.forall_mem_cons.mpr ⟨(gs_iload_n dX12_act_54 rfl), List.forall_mem_cons.mpr ⟨
  (gs_cv dX12_act_55 (fun q hq => by
      simp only [List.mem_cons, List.not_mem_nil, or_false] at hq
      subst hq
      exact Or.inl ⟨_, rfl, by decide, by decide +kernel, by decide +kernel, List.forall_mem_cons.mpr ⟨gx_mem 1575 (by decide +kernel) (by decide +kernel), List.forall_mem_cons.mpr ⟨gx_mem 1577 (by decide +kernel) (by decide +kernel), List.forall_mem_cons.mpr ⟨gx_mem 80 (by decide +kernel) (by decide +kernel), List.forall_mem_cons.mpr ⟨gx_mem 96 (by decide +kernel) (by decide +kernel), List.forall_mem_cons.mpr ⟨cw_1578, fun _ h => absurd h List.not_mem_nil⟩⟩⟩⟩⟩⟩)), List.forall_mem_cons.mpr ⟨
  (gs_ri dX12_act_58), fun _ h => absurd h List.not_mem_nil⟩⟩⟩
theorem kt_X12_act (g : gx_T) : ∀ q ∈ k_X12_act, gx_E g gc_md RX12 cX12_act 4 (some .int) "act" q.1 q.2 := List.forall_mem_append.mpr ⟨kt_X12_act_0 g, kt_X12_act_1 g⟩
set_option maxRecDepth 20000 in
theorem dX12_trace_0 : decode cX12_trace 0 = .ok (.aload_n 0, 1) := by decide +kernel
set_option maxRecDepth 20000 in
theorem dX12_trace_1 : decode cX12_trace 1 = .ok (.iload_n 1, 1) := by decide +kernel
set_option maxRecDepth 20000 in
theorem dX12_trace_2 : decode cX12_trace 2 = .ok (.iconst 0, 1) := by decide +kernel
set_option maxRecDepth 20000 in
theorem dX12_trace_3 : decode cX12_trace 3 = .ok (.bipush 19, 2) := by decide +kernel
set_option maxRecDepth 20000 in
theorem dX12_trace_5 : decode cX12_trace 5 = .ok (.invokevirtual 255, 3) := by decide +kernel
set_option maxRecDepth 20000 in
theorem dX12_trace_8 : decode cX12_trace 8 = .ok (.ifCond .eq 20, 3) := by decide +kernel
set_option maxRecDepth 20000 in
theorem dX12_trace_11 : decode cX12_trace 11 = .ok (.iload_n 1, 1) := by decide +kernel
set_option maxRecDepth 20000 in
theorem dX12_trace_12 : decode cX12_trace 12 = .ok (.aload_n 0, 1) := by decide +kernel
set_option maxRecDepth 20000 in
theorem dX12_trace_13 : decode cX12_trace 13 = .ok (.getfield 232, 3) := by decide +kernel
set_option maxRecDepth 20000 in
theorem dX12_trace_16 : decode cX12_trace 16 = .ok (.if_icmp .ge 12, 3) := by decide +kernel
set_option maxRecDepth 20000 in
theorem dX12_trace_19 : decode cX12_trace 19 = .ok (.aload_n 0, 1) := by decide +kernel
set_option maxRecDepth 20000 in
theorem dX12_trace_20 : decode cX12_trace 20 = .ok (.getfield 235, 3) := by decide +kernel
set_option maxRecDepth 20000 in
theorem dX12_trace_23 : decode cX12_trace 23 = .ok (.iload_n 1, 1) := by decide +kernel
set_option maxRecDepth 20000 in
theorem dX12_trace_24 : decode cX12_trace 24 = .ok (.iaload, 1) := by decide +kernel
set_option maxRecDepth 20000 in
theorem dX12_trace_25 : decode cX12_trace 25 = .ok (.goto 4, 3) := by decide +kernel
set_option maxRecDepth 20000 in
theorem dX12_trace_28 : decode cX12_trace 28 = .ok (.iconst (-1), 1) := by decide +kernel
set_option maxRecDepth 20000 in
theorem dX12_trace_29 : decode cX12_trace 29 = .ok (.ireturn, 1) := by decide +kernel
set_option maxRecDepth 20000 in
theorem kt_X12_trace_0 (g : gx_T) : ∀ q ∈ k_X12_trace_0, gx_E g gc_md RX12 cX12_trace 2 (some .int) "trace" q.1 q.2 := List.forall_mem_cons.mpr ⟨(gs_aload_n dX12_trace_0 rfl), List.forall_mem_cons.mpr ⟨
  (gs_iload_n dX12_trace_1 rfl), List.forall_mem_cons.mpr ⟨
  (gs_iconst dX12_trace_2 rfl), List.forall_mem_cons.mpr ⟨
  (gs_bipush dX12_trace_3 rfl), List.forall_mem_cons.mpr ⟨
  (gs_cv dX12_trace_5 (fun q hq => by
      simp only [List.mem_cons, List.not_mem_nil, or_false] at hq
      subst hq
      exact Or.inl ⟨_, rfl, by decide, by decide +kernel, by decide +kernel, List.forall_mem_cons.mpr ⟨gx_mem 1240 (by decide +kernel) (by decide +kernel), List.forall_mem_cons.mpr ⟨gx_mem 1242 (by decide +kernel) (by decide +kernel), List.forall_mem_cons.mpr ⟨gx_mem 21 (by decide +kernel) (by decide +kernel), List.forall_mem_cons.mpr ⟨gx_mem 96 (by decide +kernel) (by decide +kernel), List.forall_mem_cons.mpr ⟨cw_1243, fun _ h => absurd h List.not_mem_nil⟩⟩⟩⟩⟩⟩)), List.forall_mem_cons.mpr ⟨
  (gs_if_eq dX12_trace_8 rfl), List.forall_mem_cons.mpr ⟨
  (gs_iload_n dX12_trace_11 rfl), List.forall_mem_cons.mpr ⟨
  (gs_aload_n dX12_trace_12 rfl), List.forall_mem_cons.mpr ⟨
  (gs_gf (ref := "GriefCranesModel") dX12_trace_13 (gx_mem 1070 (by decide +kernel) (by decide +kernel)) (Or.inl rfl) gf_12_73), List.forall_mem_cons.mpr ⟨
  (gs_icmp_ge dX12_trace_16 rfl), List.forall_mem_cons.mpr ⟨
  (gs_aload_n dX12_trace_19 rfl), List.forall_mem_cons.mpr ⟨
  (gs_gf (ref := "GriefCranesModel") dX12_trace_20 (gx_mem 1071 (by decide +kernel) (by decide +kernel)) (Or.inl rfl) gf_12_74), List.forall_mem_cons.mpr ⟨
  (gs_iload_n dX12_trace_23 rfl), List.forall_mem_cons.mpr ⟨
  (gs_iaload dX12_trace_24), List.forall_mem_cons.mpr ⟨
  (gs_goto dX12_trace_25 rfl), List.forall_mem_cons.mpr ⟨
  (gs_iconst dX12_trace_28 rfl), List.forall_mem_cons.mpr ⟨
  (gs_ri dX12_trace_29), fun _ h => absurd h List.not_mem_nil⟩⟩⟩⟩⟩⟩⟩⟩⟩⟩⟩⟩⟩⟩⟩⟩⟩
theorem kt_X12_trace (g : gx_T) : ∀ q ∈ k_X12_trace, gx_E g gc_md RX12 cX12_trace 2 (some .int) "trace" q.1 q.2 := kt_X12_trace_0 g
set_option maxRecDepth 20000 in
theorem dX12_taken_0 : decode cX12_taken 0 = .ok (.aload_n 0, 1) := by decide +kernel
set_option maxRecDepth 20000 in
theorem dX12_taken_1 : decode cX12_taken 1 = .ok (.iload_n 2, 1) := by decide +kernel
set_option maxRecDepth 20000 in
theorem dX12_taken_2 : decode cX12_taken 2 = .ok (.iconst 0, 1) := by decide +kernel
set_option maxRecDepth 20000 in
theorem dX12_taken_3 : decode cX12_taken 3 = .ok (.bipush 6, 2) := by decide +kernel
set_option maxRecDepth 20000 in
theorem dX12_taken_5 : decode cX12_taken 5 = .ok (.invokevirtual 255, 3) := by decide +kernel
set_option maxRecDepth 20000 in
theorem dX12_taken_8 : decode cX12_taken 8 = .ok (.ifCond .ne 6, 3) := by decide +kernel
set_option maxRecDepth 20000 in
theorem dX12_taken_11 : decode cX12_taken 11 = .ok (.bipush (-2), 2) := by decide +kernel
set_option maxRecDepth 20000 in
theorem dX12_taken_13 : decode cX12_taken 13 = .ok (.ireturn, 1) := by decide +kernel
set_option maxRecDepth 20000 in
theorem dX12_taken_14 : decode cX12_taken 14 = .ok (.aload_n 0, 1) := by decide +kernel
set_option maxRecDepth 20000 in
theorem dX12_taken_15 : decode cX12_taken 15 = .ok (.iload_n 1, 1) := by decide +kernel
set_option maxRecDepth 20000 in
theorem dX12_taken_16 : decode cX12_taken 16 = .ok (.invokevirtual 259, 3) := by decide +kernel
set_option maxRecDepth 20000 in
theorem dX12_taken_19 : decode cX12_taken 19 = .ok (.ifCond .ne 6, 3) := by decide +kernel
set_option maxRecDepth 20000 in
theorem dX12_taken_22 : decode cX12_taken 22 = .ok (.bipush (-11), 2) := by decide +kernel
set_option maxRecDepth 20000 in
theorem dX12_taken_24 : decode cX12_taken 24 = .ok (.ireturn, 1) := by decide +kernel
set_option maxRecDepth 20000 in
theorem dX12_taken_25 : decode cX12_taken 25 = .ok (.aload_n 0, 1) := by decide +kernel
set_option maxRecDepth 20000 in
theorem dX12_taken_26 : decode cX12_taken 26 = .ok (.getfield 23, 3) := by decide +kernel
set_option maxRecDepth 20000 in
theorem dX12_taken_29 : decode cX12_taken 29 = .ok (.iload_n 1, 1) := by decide +kernel
set_option maxRecDepth 20000 in
theorem dX12_taken_30 : decode cX12_taken 30 = .ok (.iaload, 1) := by decide +kernel
set_option maxRecDepth 20000 in
theorem dX12_taken_31 : decode cX12_taken 31 = .ok (.istore_n 3, 1) := by decide +kernel
set_option maxRecDepth 20000 in
theorem dX12_taken_32 : decode cX12_taken 32 = .ok (.iload_n 2, 1) := by decide +kernel
set_option maxRecDepth 20000 in
theorem dX12_taken_33 : decode cX12_taken 33 = .ok (.ifCond .eq 39, 3) := by decide +kernel
set_option maxRecDepth 20000 in
theorem dX12_taken_36 : decode cX12_taken 36 = .ok (.iload_n 3, 1) := by decide +kernel
set_option maxRecDepth 20000 in
theorem dX12_taken_37 : decode cX12_taken 37 = .ok (.iload_n 2, 1) := by decide +kernel
set_option maxRecDepth 20000 in
theorem dX12_taken_38 : decode cX12_taken 38 = .ok (.if_icmp .eq 34, 3) := by decide +kernel
set_option maxRecDepth 20000 in
theorem dX12_taken_41 : decode cX12_taken 41 = .ok (.iload_n 2, 1) := by decide +kernel
set_option maxRecDepth 20000 in
theorem dX12_taken_42 : decode cX12_taken 42 = .ok (.iconst 1, 1) := by decide +kernel
set_option maxRecDepth 20000 in
theorem dX12_taken_43 : decode cX12_taken 43 = .ok (.if_icmp .ne 8, 3) := by decide +kernel
set_option maxRecDepth 20000 in
theorem dX12_taken_46 : decode cX12_taken 46 = .ok (.iload_n 3, 1) := by decide +kernel
set_option maxRecDepth 20000 in
theorem dX12_taken_47 : decode cX12_taken 47 = .ok (.iconst 4, 1) := by decide +kernel
set_option maxRecDepth 20000 in
theorem dX12_taken_48 : decode cX12_taken 48 = .ok (.if_icmp .eq 24, 3) := by decide +kernel
set_option maxRecDepth 20000 in
theorem dX12_taken_51 : decode cX12_taken 51 = .ok (.iload_n 2, 1) := by decide +kernel
set_option maxRecDepth 20000 in
theorem dX12_taken_52 : decode cX12_taken 52 = .ok (.iconst 2, 1) := by decide +kernel
set_option maxRecDepth 20000 in
theorem dX12_taken_53 : decode cX12_taken 53 = .ok (.if_icmp .ne 8, 3) := by decide +kernel
set_option maxRecDepth 20000 in
theorem dX12_taken_56 : decode cX12_taken 56 = .ok (.iload_n 3, 1) := by decide +kernel
set_option maxRecDepth 20000 in
theorem dX12_taken_57 : decode cX12_taken 57 = .ok (.iconst 5, 1) := by decide +kernel
set_option maxRecDepth 20000 in
theorem dX12_taken_58 : decode cX12_taken 58 = .ok (.if_icmp .eq 14, 3) := by decide +kernel
set_option maxRecDepth 20000 in
theorem dX12_taken_61 : decode cX12_taken 61 = .ok (.iload_n 2, 1) := by decide +kernel
set_option maxRecDepth 20000 in
theorem dX12_taken_62 : decode cX12_taken 62 = .ok (.iconst 3, 1) := by decide +kernel
set_option maxRecDepth 20000 in
theorem dX12_taken_63 : decode cX12_taken 63 = .ok (.if_icmp .ne 13, 3) := by decide +kernel
set_option maxRecDepth 20000 in
theorem dX12_taken_66 : decode cX12_taken 66 = .ok (.iload_n 3, 1) := by decide +kernel
set_option maxRecDepth 20000 in
theorem dX12_taken_67 : decode cX12_taken 67 = .ok (.bipush 6, 2) := by decide +kernel
set_option maxRecDepth 20000 in
theorem dX12_taken_69 : decode cX12_taken 69 = .ok (.if_icmp .ne 7, 3) := by decide +kernel
set_option maxRecDepth 20000 in
theorem dX12_taken_72 : decode cX12_taken 72 = .ok (.iload_n 3, 1) := by decide +kernel
set_option maxRecDepth 20000 in
theorem dX12_taken_73 : decode cX12_taken 73 = .ok (.goto 5, 3) := by decide +kernel
set_option maxRecDepth 20000 in
theorem dX12_taken_76 : decode cX12_taken 76 = .ok (.bipush (-12), 2) := by decide +kernel
set_option maxRecDepth 20000 in
theorem dX12_taken_78 : decode cX12_taken 78 = .ok (.ireturn, 1) := by decide +kernel
set_option maxRecDepth 20000 in
theorem kt_X12_taken_0 (g : gx_T) : ∀ q ∈ k_X12_taken_0, gx_E g gc_md RX12 cX12_taken 4 (some .int) "taken" q.1 q.2 := List.forall_mem_cons.mpr ⟨(gs_aload_n dX12_taken_0 rfl), List.forall_mem_cons.mpr ⟨
  (gs_iload_n dX12_taken_1 rfl), List.forall_mem_cons.mpr ⟨
  (gs_iconst dX12_taken_2 rfl), List.forall_mem_cons.mpr ⟨
  (gs_bipush dX12_taken_3 rfl), List.forall_mem_cons.mpr ⟨
  (gs_cv dX12_taken_5 (fun q hq => by
      simp only [List.mem_cons, List.not_mem_nil, or_false] at hq
      subst hq
      exact Or.inl ⟨_, rfl, by decide, by decide +kernel, by decide +kernel, List.forall_mem_cons.mpr ⟨gx_mem 1240 (by decide +kernel) (by decide +kernel), List.forall_mem_cons.mpr ⟨gx_mem 1242 (by decide +kernel) (by decide +kernel), List.forall_mem_cons.mpr ⟨gx_mem 21 (by decide +kernel) (by decide +kernel), List.forall_mem_cons.mpr ⟨gx_mem 96 (by decide +kernel) (by decide +kernel), List.forall_mem_cons.mpr ⟨cw_1243, fun _ h => absurd h List.not_mem_nil⟩⟩⟩⟩⟩⟩)), List.forall_mem_cons.mpr ⟨
  (gs_if_ne dX12_taken_8 rfl), List.forall_mem_cons.mpr ⟨
  (gs_bipush dX12_taken_11 rfl), List.forall_mem_cons.mpr ⟨
  (gs_ri dX12_taken_13), List.forall_mem_cons.mpr ⟨
  (gs_aload_n dX12_taken_14 rfl), List.forall_mem_cons.mpr ⟨
  (gs_iload_n dX12_taken_15 rfl), List.forall_mem_cons.mpr ⟨
  (gs_cv dX12_taken_16 (fun q hq => by
      simp only [List.mem_cons, List.not_mem_nil, or_false] at hq
      subst hq
      exact Or.inl ⟨_, rfl, by decide, by decide +kernel, by decide +kernel, List.forall_mem_cons.mpr ⟨gx_mem 1248 (by decide +kernel) (by decide +kernel), List.forall_mem_cons.mpr ⟨gx_mem 1250 (by decide +kernel) (by decide +kernel), List.forall_mem_cons.mpr ⟨gx_mem 22 (by decide +kernel) (by decide +kernel), List.forall_mem_cons.mpr ⟨gx_mem 96 (by decide +kernel) (by decide +kernel), List.forall_mem_cons.mpr ⟨cw_1251, fun _ h => absurd h List.not_mem_nil⟩⟩⟩⟩⟩⟩)), List.forall_mem_cons.mpr ⟨
  (gs_if_ne dX12_taken_19 rfl), List.forall_mem_cons.mpr ⟨
  (gs_bipush dX12_taken_22 rfl), List.forall_mem_cons.mpr ⟨
  (gs_ri dX12_taken_24), List.forall_mem_cons.mpr ⟨
  (gs_aload_n dX12_taken_25 rfl), List.forall_mem_cons.mpr ⟨
  (gs_gf (ref := "GriefCranesModel") dX12_taken_26 (gx_mem 1001 (by decide +kernel) (by decide +kernel)) (Or.inl rfl) gf_12_4), List.forall_mem_cons.mpr ⟨
  (gs_iload_n dX12_taken_29 rfl), List.forall_mem_cons.mpr ⟨
  (gs_iaload dX12_taken_30), List.forall_mem_cons.mpr ⟨
  (gs_istore_n dX12_taken_31 rfl), List.forall_mem_cons.mpr ⟨
  (gs_iload_n dX12_taken_32 rfl), List.forall_mem_cons.mpr ⟨
  (gs_if_eq dX12_taken_33 rfl), List.forall_mem_cons.mpr ⟨
  (gs_iload_n dX12_taken_36 rfl), List.forall_mem_cons.mpr ⟨
  (gs_iload_n dX12_taken_37 rfl), List.forall_mem_cons.mpr ⟨
  (gs_icmp_eq dX12_taken_38 rfl), List.forall_mem_cons.mpr ⟨
  (gs_iload_n dX12_taken_41 rfl), List.forall_mem_cons.mpr ⟨
  (gs_iconst dX12_taken_42 rfl), List.forall_mem_cons.mpr ⟨
  (gs_icmp_ne dX12_taken_43 rfl), List.forall_mem_cons.mpr ⟨
  (gs_iload_n dX12_taken_46 rfl), List.forall_mem_cons.mpr ⟨
  (gs_iconst dX12_taken_47 rfl), List.forall_mem_cons.mpr ⟨
  (gs_icmp_eq dX12_taken_48 rfl), List.forall_mem_cons.mpr ⟨
  (gs_iload_n dX12_taken_51 rfl), List.forall_mem_cons.mpr ⟨
  (gs_iconst dX12_taken_52 rfl), fun _ h => absurd h List.not_mem_nil⟩⟩⟩⟩⟩⟩⟩⟩⟩⟩⟩⟩⟩⟩⟩⟩⟩⟩⟩⟩⟩⟩⟩⟩⟩⟩⟩⟩⟩⟩⟩⟩
set_option maxRecDepth 20000 in
theorem kt_X12_taken_1 (g : gx_T) : ∀ q ∈ k_X12_taken_1, gx_E g gc_md RX12 cX12_taken 4 (some .int) "taken" q.1 q.2 := List.forall_mem_cons.mpr ⟨(gs_icmp_ne dX12_taken_53 rfl), List.forall_mem_cons.mpr ⟨
  (gs_iload_n dX12_taken_56 rfl), List.forall_mem_cons.mpr ⟨
  (gs_iconst dX12_taken_57 rfl), List.forall_mem_cons.mpr ⟨
  (gs_icmp_eq dX12_taken_58 rfl), List.forall_mem_cons.mpr ⟨
  (gs_iload_n dX12_taken_61 rfl), List.forall_mem_cons.mpr ⟨
  (gs_iconst dX12_taken_62 rfl), List.forall_mem_cons.mpr ⟨
  (gs_icmp_ne dX12_taken_63 rfl), List.forall_mem_cons.mpr ⟨
  (gs_iload_n dX12_taken_66 rfl), List.forall_mem_cons.mpr ⟨
  (gs_bipush dX12_taken_67 rfl), List.forall_mem_cons.mpr ⟨
  (gs_icmp_ne dX12_taken_69 rfl), List.forall_mem_cons.mpr ⟨
  (gs_iload_n dX12_taken_72 rfl), List.forall_mem_cons.mpr ⟨
  (gs_goto dX12_taken_73 rfl), List.forall_mem_cons.mpr ⟨
  (gs_bipush dX12_taken_76 rfl), List.forall_mem_cons.mpr ⟨
  (gs_ri dX12_taken_78), fun _ h => absurd h List.not_mem_nil⟩⟩⟩⟩⟩⟩⟩⟩⟩⟩⟩⟩⟩⟩
theorem kt_X12_taken (g : gx_T) : ∀ q ∈ k_X12_taken, gx_E g gc_md RX12 cX12_taken 4 (some .int) "taken" q.1 q.2 := List.forall_mem_append.mpr ⟨kt_X12_taken_0 g, kt_X12_taken_1 g⟩
set_option maxRecDepth 20000 in
theorem dX12_count_0 : decode cX12_count 0 = .ok (.iload_n 1, 1) := by decide +kernel
set_option maxRecDepth 20000 in
theorem dX12_count_1 : decode cX12_count 1 = .ok (.tableswitch 87 0 7 #[47, 52, 57, 62, 67, 72, 77, 82], 47) := by decide +kernel
set_option maxRecDepth 20000 in
theorem dX12_count_48 : decode cX12_count 48 = .ok (.aload_n 0, 1) := by decide +kernel
set_option maxRecDepth 20000 in
theorem dX12_count_49 : decode cX12_count 49 = .ok (.getfield 7, 3) := by decide +kernel
set_option maxRecDepth 20000 in
theorem dX12_count_52 : decode cX12_count 52 = .ok (.ireturn, 1) := by decide +kernel
set_option maxRecDepth 20000 in
theorem dX12_count_53 : decode cX12_count 53 = .ok (.aload_n 0, 1) := by decide +kernel
set_option maxRecDepth 20000 in
theorem dX12_count_54 : decode cX12_count 54 = .ok (.getfield 13, 3) := by decide +kernel
set_option maxRecDepth 20000 in
theorem dX12_count_57 : decode cX12_count 57 = .ok (.ireturn, 1) := by decide +kernel
set_option maxRecDepth 20000 in
theorem dX12_count_58 : decode cX12_count 58 = .ok (.aload_n 0, 1) := by decide +kernel
set_option maxRecDepth 20000 in
theorem dX12_count_59 : decode cX12_count 59 = .ok (.getfield 50, 3) := by decide +kernel
set_option maxRecDepth 20000 in
theorem dX12_count_62 : decode cX12_count 62 = .ok (.ireturn, 1) := by decide +kernel
set_option maxRecDepth 20000 in
theorem dX12_count_63 : decode cX12_count 63 = .ok (.aload_n 0, 1) := by decide +kernel
set_option maxRecDepth 20000 in
theorem dX12_count_64 : decode cX12_count 64 = .ok (.getfield 126, 3) := by decide +kernel
set_option maxRecDepth 20000 in
theorem dX12_count_67 : decode cX12_count 67 = .ok (.ireturn, 1) := by decide +kernel
set_option maxRecDepth 20000 in
theorem dX12_count_68 : decode cX12_count 68 = .ok (.aload_n 0, 1) := by decide +kernel
set_option maxRecDepth 20000 in
theorem dX12_count_69 : decode cX12_count 69 = .ok (.getfield 138, 3) := by decide +kernel
set_option maxRecDepth 20000 in
theorem dX12_count_72 : decode cX12_count 72 = .ok (.ireturn, 1) := by decide +kernel
set_option maxRecDepth 20000 in
theorem dX12_count_73 : decode cX12_count 73 = .ok (.aload_n 0, 1) := by decide +kernel
set_option maxRecDepth 20000 in
theorem dX12_count_74 : decode cX12_count 74 = .ok (.getfield 141, 3) := by decide +kernel
set_option maxRecDepth 20000 in
theorem dX12_count_77 : decode cX12_count 77 = .ok (.ireturn, 1) := by decide +kernel
set_option maxRecDepth 20000 in
theorem dX12_count_78 : decode cX12_count 78 = .ok (.aload_n 0, 1) := by decide +kernel
set_option maxRecDepth 20000 in
theorem dX12_count_79 : decode cX12_count 79 = .ok (.getfield 56, 3) := by decide +kernel
set_option maxRecDepth 20000 in
theorem dX12_count_82 : decode cX12_count 82 = .ok (.ireturn, 1) := by decide +kernel
set_option maxRecDepth 20000 in
theorem dX12_count_83 : decode cX12_count 83 = .ok (.aload_n 0, 1) := by decide +kernel
set_option maxRecDepth 20000 in
theorem dX12_count_84 : decode cX12_count 84 = .ok (.getfield 232, 3) := by decide +kernel
set_option maxRecDepth 20000 in
theorem dX12_count_87 : decode cX12_count 87 = .ok (.ireturn, 1) := by decide +kernel
set_option maxRecDepth 20000 in
theorem dX12_count_88 : decode cX12_count 88 = .ok (.bipush (-2), 2) := by decide +kernel
set_option maxRecDepth 20000 in
theorem dX12_count_90 : decode cX12_count 90 = .ok (.ireturn, 1) := by decide +kernel
set_option maxRecDepth 20000 in
theorem kt_X12_count_0 (g : gx_T) : ∀ q ∈ k_X12_count_0, gx_E g gc_md RX12 cX12_count 2 (some .int) "count" q.1 q.2 := List.forall_mem_cons.mpr ⟨(gs_iload_n dX12_count_0 rfl), List.forall_mem_cons.mpr ⟨
  (gs_tsw (lo := 0) (offs := [47, 52, 57, 62, 67, 72, 77, 82]) dX12_count_1 (by decide +kernel) (by decide +kernel)), List.forall_mem_cons.mpr ⟨
  (gs_aload_n dX12_count_48 rfl), List.forall_mem_cons.mpr ⟨
  (gs_gf (ref := "GriefCranesModel") dX12_count_49 (gx_mem 997 (by decide +kernel) (by decide +kernel)) (Or.inl rfl) gf_12_0), List.forall_mem_cons.mpr ⟨
  (gs_ri dX12_count_52), List.forall_mem_cons.mpr ⟨
  (gs_aload_n dX12_count_53 rfl), List.forall_mem_cons.mpr ⟨
  (gs_gf (ref := "GriefCranesModel") dX12_count_54 (gx_mem 998 (by decide +kernel) (by decide +kernel)) (Or.inl rfl) gf_12_1), List.forall_mem_cons.mpr ⟨
  (gs_ri dX12_count_57), List.forall_mem_cons.mpr ⟨
  (gs_aload_n dX12_count_58 rfl), List.forall_mem_cons.mpr ⟨
  (gs_gf (ref := "GriefCranesModel") dX12_count_59 (gx_mem 1010 (by decide +kernel) (by decide +kernel)) (Or.inl rfl) gf_12_13), List.forall_mem_cons.mpr ⟨
  (gs_ri dX12_count_62), List.forall_mem_cons.mpr ⟨
  (gs_aload_n dX12_count_63 rfl), List.forall_mem_cons.mpr ⟨
  (gs_gf (ref := "GriefCranesModel") dX12_count_64 (gx_mem 1035 (by decide +kernel) (by decide +kernel)) (Or.inl rfl) gf_12_38), List.forall_mem_cons.mpr ⟨
  (gs_ri dX12_count_67), List.forall_mem_cons.mpr ⟨
  (gs_aload_n dX12_count_68 rfl), List.forall_mem_cons.mpr ⟨
  (gs_gf (ref := "GriefCranesModel") dX12_count_69 (gx_mem 1039 (by decide +kernel) (by decide +kernel)) (Or.inl rfl) gf_12_42), List.forall_mem_cons.mpr ⟨
  (gs_ri dX12_count_72), List.forall_mem_cons.mpr ⟨
  (gs_aload_n dX12_count_73 rfl), List.forall_mem_cons.mpr ⟨
  (gs_gf (ref := "GriefCranesModel") dX12_count_74 (gx_mem 1040 (by decide +kernel) (by decide +kernel)) (Or.inl rfl) gf_12_43), List.forall_mem_cons.mpr ⟨
  (gs_ri dX12_count_77), List.forall_mem_cons.mpr ⟨
  (gs_aload_n dX12_count_78 rfl), List.forall_mem_cons.mpr ⟨
  (gs_gf (ref := "GriefCranesModel") dX12_count_79 (gx_mem 1012 (by decide +kernel) (by decide +kernel)) (Or.inl rfl) gf_12_15), List.forall_mem_cons.mpr ⟨
  (gs_ri dX12_count_82), List.forall_mem_cons.mpr ⟨
  (gs_aload_n dX12_count_83 rfl), List.forall_mem_cons.mpr ⟨
  (gs_gf (ref := "GriefCranesModel") dX12_count_84 (gx_mem 1070 (by decide +kernel) (by decide +kernel)) (Or.inl rfl) gf_12_73), List.forall_mem_cons.mpr ⟨
  (gs_ri dX12_count_87), List.forall_mem_cons.mpr ⟨
  (gs_bipush dX12_count_88 rfl), List.forall_mem_cons.mpr ⟨
  (gs_ri dX12_count_90), fun _ h => absurd h List.not_mem_nil⟩⟩⟩⟩⟩⟩⟩⟩⟩⟩⟩⟩⟩⟩⟩⟩⟩⟩⟩⟩⟩⟩⟩⟩⟩⟩⟩⟩
theorem kt_X12_count (g : gx_T) : ∀ q ∈ k_X12_count, gx_E g gc_md RX12 cX12_count 2 (some .int) "count" q.1 q.2 := kt_X12_count_0 g
set_option maxRecDepth 20000 in
theorem dX12_isTape_0 : decode cX12_isTape 0 = .ok (.aload_n 0, 1) := by decide +kernel
set_option maxRecDepth 20000 in
theorem dX12_isTape_1 : decode cX12_isTape 1 = .ok (.iload_n 1, 1) := by decide +kernel
set_option maxRecDepth 20000 in
theorem dX12_isTape_2 : decode cX12_isTape 2 = .ok (.iconst 0, 1) := by decide +kernel
set_option maxRecDepth 20000 in
theorem dX12_isTape_3 : decode cX12_isTape 3 = .ok (.iconst 5, 1) := by decide +kernel
set_option maxRecDepth 20000 in
theorem dX12_isTape_4 : decode cX12_isTape 4 = .ok (.invokevirtual 255, 3) := by decide +kernel
set_option maxRecDepth 20000 in
theorem dX12_isTape_7 : decode cX12_isTape 7 = .ok (.ireturn, 1) := by decide +kernel
set_option maxRecDepth 20000 in
theorem kt_X12_isTape_0 (g : gx_T) : ∀ q ∈ k_X12_isTape_0, gx_E g gc_md RX12 cX12_isTape 2 (some .boolean) "isTape" q.1 q.2 := List.forall_mem_cons.mpr ⟨(gs_aload_n dX12_isTape_0 rfl), List.forall_mem_cons.mpr ⟨
  (gs_iload_n dX12_isTape_1 rfl), List.forall_mem_cons.mpr ⟨
  (gs_iconst dX12_isTape_2 rfl), List.forall_mem_cons.mpr ⟨
  (gs_iconst dX12_isTape_3 rfl), List.forall_mem_cons.mpr ⟨
  (gs_cv dX12_isTape_4 (fun q hq => by
      simp only [List.mem_cons, List.not_mem_nil, or_false] at hq
      subst hq
      exact Or.inl ⟨_, rfl, by decide, by decide +kernel, by decide +kernel, List.forall_mem_cons.mpr ⟨gx_mem 1240 (by decide +kernel) (by decide +kernel), List.forall_mem_cons.mpr ⟨gx_mem 1242 (by decide +kernel) (by decide +kernel), List.forall_mem_cons.mpr ⟨gx_mem 21 (by decide +kernel) (by decide +kernel), List.forall_mem_cons.mpr ⟨gx_mem 96 (by decide +kernel) (by decide +kernel), List.forall_mem_cons.mpr ⟨cw_1243, fun _ h => absurd h List.not_mem_nil⟩⟩⟩⟩⟩⟩)), List.forall_mem_cons.mpr ⟨
  (gs_rn dX12_isTape_7 (by decide)), fun _ h => absurd h List.not_mem_nil⟩⟩⟩⟩⟩⟩
theorem kt_X12_isTape (g : gx_T) : ∀ q ∈ k_X12_isTape, gx_E g gc_md RX12 cX12_isTape 2 (some .boolean) "isTape" q.1 q.2 := kt_X12_isTape_0 g
set_option maxRecDepth 20000 in
theorem dX12_tape_0 : decode cX12_tape 0 = .ok (.aload_n 0, 1) := by decide +kernel
set_option maxRecDepth 20000 in
theorem dX12_tape_1 : decode cX12_tape 1 = .ok (.iload_n 1, 1) := by decide +kernel
set_option maxRecDepth 20000 in
theorem dX12_tape_2 : decode cX12_tape 2 = .ok (.invokevirtual 425, 3) := by decide +kernel
set_option maxRecDepth 20000 in
theorem dX12_tape_5 : decode cX12_tape 5 = .ok (.ifCond .ne 5, 3) := by decide +kernel
set_option maxRecDepth 20000 in
theorem dX12_tape_8 : decode cX12_tape 8 = .ok (.iconst (-1), 1) := by decide +kernel
set_option maxRecDepth 20000 in
theorem dX12_tape_9 : decode cX12_tape 9 = .ok (.ireturn, 1) := by decide +kernel
set_option maxRecDepth 20000 in
theorem dX12_tape_10 : decode cX12_tape 10 = .ok (.aload_n 0, 1) := by decide +kernel
set_option maxRecDepth 20000 in
theorem dX12_tape_11 : decode cX12_tape 11 = .ok (.iload_n 2, 1) := by decide +kernel
set_option maxRecDepth 20000 in
theorem dX12_tape_12 : decode cX12_tape 12 = .ok (.iconst (-1), 1) := by decide +kernel
set_option maxRecDepth 20000 in
theorem dX12_tape_13 : decode cX12_tape 13 = .ok (.iconst 4, 1) := by decide +kernel
set_option maxRecDepth 20000 in
theorem dX12_tape_14 : decode cX12_tape 14 = .ok (.invokevirtual 255, 3) := by decide +kernel
set_option maxRecDepth 20000 in
theorem dX12_tape_17 : decode cX12_tape 17 = .ok (.ifCond .eq 13, 3) := by decide +kernel
set_option maxRecDepth 20000 in
theorem dX12_tape_20 : decode cX12_tape 20 = .ok (.iload_n 2, 1) := by decide +kernel
set_option maxRecDepth 20000 in
theorem dX12_tape_21 : decode cX12_tape 21 = .ok (.ifCond .lt 12, 3) := by decide +kernel
set_option maxRecDepth 20000 in
theorem dX12_tape_24 : decode cX12_tape 24 = .ok (.iload_n 3, 1) := by decide +kernel
set_option maxRecDepth 20000 in
theorem dX12_tape_25 : decode cX12_tape 25 = .ok (.bipush 60, 2) := by decide +kernel
set_option maxRecDepth 20000 in
theorem dX12_tape_27 : decode cX12_tape 27 = .ok (.if_icmp .le 6, 3) := by decide +kernel
set_option maxRecDepth 20000 in
theorem dX12_tape_30 : decode cX12_tape 30 = .ok (.bipush (-2), 2) := by decide +kernel
set_option maxRecDepth 20000 in
theorem dX12_tape_32 : decode cX12_tape 32 = .ok (.ireturn, 1) := by decide +kernel
set_option maxRecDepth 20000 in
theorem dX12_tape_33 : decode cX12_tape 33 = .ok (.iload_n 2, 1) := by decide +kernel
set_option maxRecDepth 20000 in
theorem dX12_tape_34 : decode cX12_tape 34 = .ok (.ifCond .lt 10, 3) := by decide +kernel
set_option maxRecDepth 20000 in
theorem dX12_tape_37 : decode cX12_tape 37 = .ok (.iload_n 3, 1) := by decide +kernel
set_option maxRecDepth 20000 in
theorem dX12_tape_38 : decode cX12_tape 38 = .ok (.ifCond .ge 6, 3) := by decide +kernel
set_option maxRecDepth 20000 in
theorem dX12_tape_41 : decode cX12_tape 41 = .ok (.bipush (-14), 2) := by decide +kernel
set_option maxRecDepth 20000 in
theorem dX12_tape_43 : decode cX12_tape 43 = .ok (.ireturn, 1) := by decide +kernel
set_option maxRecDepth 20000 in
theorem dX12_tape_44 : decode cX12_tape 44 = .ok (.aload_n 0, 1) := by decide +kernel
set_option maxRecDepth 20000 in
theorem dX12_tape_45 : decode cX12_tape 45 = .ok (.getfield 238, 3) := by decide +kernel
set_option maxRecDepth 20000 in
theorem dX12_tape_48 : decode cX12_tape 48 = .ok (.iload_n 1, 1) := by decide +kernel
set_option maxRecDepth 20000 in
theorem dX12_tape_49 : decode cX12_tape 49 = .ok (.iload_n 2, 1) := by decide +kernel
set_option maxRecDepth 20000 in
theorem dX12_tape_50 : decode cX12_tape 50 = .ok (.iastore, 1) := by decide +kernel
set_option maxRecDepth 20000 in
theorem dX12_tape_51 : decode cX12_tape 51 = .ok (.aload_n 0, 1) := by decide +kernel
set_option maxRecDepth 20000 in
theorem dX12_tape_52 : decode cX12_tape 52 = .ok (.getfield 241, 3) := by decide +kernel
set_option maxRecDepth 20000 in
theorem dX12_tape_55 : decode cX12_tape 55 = .ok (.iload_n 1, 1) := by decide +kernel
set_option maxRecDepth 20000 in
theorem dX12_tape_56 : decode cX12_tape 56 = .ok (.iload_n 2, 1) := by decide +kernel
set_option maxRecDepth 20000 in
theorem dX12_tape_57 : decode cX12_tape 57 = .ok (.ifCond .ge 7, 3) := by decide +kernel
set_option maxRecDepth 20000 in
theorem dX12_tape_60 : decode cX12_tape 60 = .ok (.iconst 0, 1) := by decide +kernel
set_option maxRecDepth 20000 in
theorem dX12_tape_61 : decode cX12_tape 61 = .ok (.goto 4, 3) := by decide +kernel
set_option maxRecDepth 20000 in
theorem dX12_tape_64 : decode cX12_tape 64 = .ok (.iload_n 3, 1) := by decide +kernel
set_option maxRecDepth 20000 in
theorem dX12_tape_65 : decode cX12_tape 65 = .ok (.iastore, 1) := by decide +kernel
set_option maxRecDepth 20000 in
theorem dX12_tape_66 : decode cX12_tape 66 = .ok (.iconst 0, 1) := by decide +kernel
set_option maxRecDepth 20000 in
theorem dX12_tape_67 : decode cX12_tape 67 = .ok (.istore 4, 2) := by decide +kernel
set_option maxRecDepth 20000 in
theorem dX12_tape_69 : decode cX12_tape 69 = .ok (.iload 4, 2) := by decide +kernel
set_option maxRecDepth 20000 in
theorem dX12_tape_71 : decode cX12_tape 71 = .ok (.bipush 60, 2) := by decide +kernel
set_option maxRecDepth 20000 in
theorem dX12_tape_73 : decode cX12_tape 73 = .ok (.if_icmp .ge 22, 3) := by decide +kernel
set_option maxRecDepth 20000 in
theorem dX12_tape_76 : decode cX12_tape 76 = .ok (.aload_n 0, 1) := by decide +kernel
set_option maxRecDepth 20000 in
theorem dX12_tape_77 : decode cX12_tape 77 = .ok (.getfield 244, 3) := by decide +kernel
set_option maxRecDepth 20000 in
theorem dX12_tape_80 : decode cX12_tape 80 = .ok (.bipush 60, 2) := by decide +kernel
set_option maxRecDepth 20000 in
theorem dX12_tape_82 : decode cX12_tape 82 = .ok (.iload_n 1, 1) := by decide +kernel
set_option maxRecDepth 20000 in
theorem dX12_tape_83 : decode cX12_tape 83 = .ok (.imul, 1) := by decide +kernel
set_option maxRecDepth 20000 in
theorem dX12_tape_84 : decode cX12_tape 84 = .ok (.iload 4, 2) := by decide +kernel
set_option maxRecDepth 20000 in
theorem dX12_tape_86 : decode cX12_tape 86 = .ok (.iadd, 1) := by decide +kernel
set_option maxRecDepth 20000 in
theorem dX12_tape_87 : decode cX12_tape 87 = .ok (.lconst 0, 1) := by decide +kernel
set_option maxRecDepth 20000 in
theorem dX12_tape_88 : decode cX12_tape 88 = .ok (.lastore, 1) := by decide +kernel
set_option maxRecDepth 20000 in
theorem dX12_tape_89 : decode cX12_tape 89 = .ok (.iinc 4 1, 3) := by decide +kernel
set_option maxRecDepth 20000 in
theorem dX12_tape_92 : decode cX12_tape 92 = .ok (.goto (-23), 3) := by decide +kernel
set_option maxRecDepth 20000 in
theorem dX12_tape_95 : decode cX12_tape 95 = .ok (.iconst 1, 1) := by decide +kernel
set_option maxRecDepth 20000 in
theorem dX12_tape_96 : decode cX12_tape 96 = .ok (.ireturn, 1) := by decide +kernel
set_option maxRecDepth 20000 in
theorem kt_X12_tape_0 (g : gx_T) : ∀ q ∈ k_X12_tape_0, gx_E g gc_md RX12 cX12_tape 5 (some .int) "tape" q.1 q.2 := List.forall_mem_cons.mpr ⟨(gs_aload_n dX12_tape_0 rfl), List.forall_mem_cons.mpr ⟨
  (gs_iload_n dX12_tape_1 rfl), List.forall_mem_cons.mpr ⟨
  (gs_cv dX12_tape_2 (fun q hq => by
      simp only [List.mem_cons, List.not_mem_nil, or_false] at hq
      subst hq
      exact Or.inl ⟨_, rfl, by decide, by decide +kernel, by decide +kernel, List.forall_mem_cons.mpr ⟨gx_mem 1535 (by decide +kernel) (by decide +kernel), List.forall_mem_cons.mpr ⟨gx_mem 1537 (by decide +kernel) (by decide +kernel), List.forall_mem_cons.mpr ⟨gx_mem 73 (by decide +kernel) (by decide +kernel), List.forall_mem_cons.mpr ⟨gx_mem 96 (by decide +kernel) (by decide +kernel), List.forall_mem_cons.mpr ⟨cw_1538, fun _ h => absurd h List.not_mem_nil⟩⟩⟩⟩⟩⟩)), List.forall_mem_cons.mpr ⟨
  (gs_if_ne dX12_tape_5 rfl), List.forall_mem_cons.mpr ⟨
  (gs_iconst dX12_tape_8 rfl), List.forall_mem_cons.mpr ⟨
  (gs_ri dX12_tape_9), List.forall_mem_cons.mpr ⟨
  (gs_aload_n dX12_tape_10 rfl), List.forall_mem_cons.mpr ⟨
  (gs_iload_n dX12_tape_11 rfl), List.forall_mem_cons.mpr ⟨
  (gs_iconst dX12_tape_12 rfl), List.forall_mem_cons.mpr ⟨
  (gs_iconst dX12_tape_13 rfl), List.forall_mem_cons.mpr ⟨
  (gs_cv dX12_tape_14 (fun q hq => by
      simp only [List.mem_cons, List.not_mem_nil, or_false] at hq
      subst hq
      exact Or.inl ⟨_, rfl, by decide, by decide +kernel, by decide +kernel, List.forall_mem_cons.mpr ⟨gx_mem 1240 (by decide +kernel) (by decide +kernel), List.forall_mem_cons.mpr ⟨gx_mem 1242 (by decide +kernel) (by decide +kernel), List.forall_mem_cons.mpr ⟨gx_mem 21 (by decide +kernel) (by decide +kernel), List.forall_mem_cons.mpr ⟨gx_mem 96 (by decide +kernel) (by decide +kernel), List.forall_mem_cons.mpr ⟨cw_1243, fun _ h => absurd h List.not_mem_nil⟩⟩⟩⟩⟩⟩)), List.forall_mem_cons.mpr ⟨
  (gs_if_eq dX12_tape_17 rfl), List.forall_mem_cons.mpr ⟨
  (gs_iload_n dX12_tape_20 rfl), List.forall_mem_cons.mpr ⟨
  (gs_if_lt dX12_tape_21 rfl), List.forall_mem_cons.mpr ⟨
  (gs_iload_n dX12_tape_24 rfl), List.forall_mem_cons.mpr ⟨
  (gs_bipush dX12_tape_25 rfl), List.forall_mem_cons.mpr ⟨
  (gs_icmp_le dX12_tape_27 rfl), List.forall_mem_cons.mpr ⟨
  (gs_bipush dX12_tape_30 rfl), List.forall_mem_cons.mpr ⟨
  (gs_ri dX12_tape_32), List.forall_mem_cons.mpr ⟨
  (gs_iload_n dX12_tape_33 rfl), List.forall_mem_cons.mpr ⟨
  (gs_if_lt dX12_tape_34 rfl), List.forall_mem_cons.mpr ⟨
  (gs_iload_n dX12_tape_37 rfl), List.forall_mem_cons.mpr ⟨
  (gs_if_ge dX12_tape_38 rfl), List.forall_mem_cons.mpr ⟨
  (gs_bipush dX12_tape_41 rfl), List.forall_mem_cons.mpr ⟨
  (gs_ri dX12_tape_43), List.forall_mem_cons.mpr ⟨
  (gs_aload_n dX12_tape_44 rfl), List.forall_mem_cons.mpr ⟨
  (gs_gf (ref := "GriefCranesModel") dX12_tape_45 (gx_mem 1072 (by decide +kernel) (by decide +kernel)) (Or.inl rfl) gf_12_75), List.forall_mem_cons.mpr ⟨
  (gs_iload_n dX12_tape_48 rfl), List.forall_mem_cons.mpr ⟨
  (gs_iload_n dX12_tape_49 rfl), List.forall_mem_cons.mpr ⟨
  (gs_iastore dX12_tape_50), List.forall_mem_cons.mpr ⟨
  (gs_aload_n dX12_tape_51 rfl), List.forall_mem_cons.mpr ⟨
  (gs_gf (ref := "GriefCranesModel") dX12_tape_52 (gx_mem 1073 (by decide +kernel) (by decide +kernel)) (Or.inl rfl) gf_12_76), fun _ h => absurd h List.not_mem_nil⟩⟩⟩⟩⟩⟩⟩⟩⟩⟩⟩⟩⟩⟩⟩⟩⟩⟩⟩⟩⟩⟩⟩⟩⟩⟩⟩⟩⟩⟩⟩⟩
set_option maxRecDepth 20000 in
theorem kt_X12_tape_1 (g : gx_T) : ∀ q ∈ k_X12_tape_1, gx_E g gc_md RX12 cX12_tape 5 (some .int) "tape" q.1 q.2 := List.forall_mem_cons.mpr ⟨(gs_iload_n dX12_tape_55 rfl), List.forall_mem_cons.mpr ⟨
  (gs_iload_n dX12_tape_56 rfl), List.forall_mem_cons.mpr ⟨
  (gs_if_ge dX12_tape_57 rfl), List.forall_mem_cons.mpr ⟨
  (gs_iconst dX12_tape_60 rfl), List.forall_mem_cons.mpr ⟨
  (gs_goto dX12_tape_61 rfl), List.forall_mem_cons.mpr ⟨
  (gs_iload_n dX12_tape_64 rfl), List.forall_mem_cons.mpr ⟨
  (gs_iastore dX12_tape_65), List.forall_mem_cons.mpr ⟨
  (gs_iconst dX12_tape_66 rfl), List.forall_mem_cons.mpr ⟨
  (gs_istore dX12_tape_67), List.forall_mem_cons.mpr ⟨
  (gs_iload dX12_tape_69), List.forall_mem_cons.mpr ⟨
  (gs_bipush dX12_tape_71 rfl), List.forall_mem_cons.mpr ⟨
  (gs_icmp_ge dX12_tape_73 rfl), List.forall_mem_cons.mpr ⟨
  (gs_aload_n dX12_tape_76 rfl), List.forall_mem_cons.mpr ⟨
  (gs_gf (ref := "GriefCranesModel") dX12_tape_77 (gx_mem 1074 (by decide +kernel) (by decide +kernel)) (Or.inl rfl) gf_12_77), List.forall_mem_cons.mpr ⟨
  (gs_bipush dX12_tape_80 rfl), List.forall_mem_cons.mpr ⟨
  (gs_iload_n dX12_tape_82 rfl), List.forall_mem_cons.mpr ⟨
  (gs_imul dX12_tape_83), List.forall_mem_cons.mpr ⟨
  (gs_iload dX12_tape_84), List.forall_mem_cons.mpr ⟨
  (gs_iadd dX12_tape_86), List.forall_mem_cons.mpr ⟨
  (gs_lconst dX12_tape_87 rfl), List.forall_mem_cons.mpr ⟨
  (gs_lastore dX12_tape_88), List.forall_mem_cons.mpr ⟨
  (gs_iinc dX12_tape_89), List.forall_mem_cons.mpr ⟨
  (gs_goto dX12_tape_92 rfl), List.forall_mem_cons.mpr ⟨
  (gs_iconst dX12_tape_95 rfl), List.forall_mem_cons.mpr ⟨
  (gs_ri dX12_tape_96), fun _ h => absurd h List.not_mem_nil⟩⟩⟩⟩⟩⟩⟩⟩⟩⟩⟩⟩⟩⟩⟩⟩⟩⟩⟩⟩⟩⟩⟩⟩⟩
theorem kt_X12_tape (g : gx_T) : ∀ q ∈ k_X12_tape, gx_E g gc_md RX12 cX12_tape 5 (some .int) "tape" q.1 q.2 := List.forall_mem_append.mpr ⟨kt_X12_tape_0 g, kt_X12_tape_1 g⟩
set_option maxRecDepth 20000 in
theorem dX12_narrow_0 : decode cX12_narrow 0 = .ok (.iload_n 1, 1) := by decide +kernel
set_option maxRecDepth 20000 in
theorem dX12_narrow_1 : decode cX12_narrow 1 = .ok (.ifCond .ne 10, 3) := by decide +kernel
set_option maxRecDepth 20000 in
theorem dX12_narrow_4 : decode cX12_narrow 4 = .ok (.lload_n 2, 1) := by decide +kernel
set_option maxRecDepth 20000 in
theorem dX12_narrow_5 : decode cX12_narrow 5 = .ok (.l2i, 1) := by decide +kernel
set_option maxRecDepth 20000 in
theorem dX12_narrow_6 : decode cX12_narrow 6 = .ok (.i2b, 1) := by decide +kernel
set_option maxRecDepth 20000 in
theorem dX12_narrow_7 : decode cX12_narrow 7 = .ok (.i2l, 1) := by decide +kernel
set_option maxRecDepth 20000 in
theorem dX12_narrow_8 : decode cX12_narrow 8 = .ok (.goto 46, 3) := by decide +kernel
set_option maxRecDepth 20000 in
theorem dX12_narrow_11 : decode cX12_narrow 11 = .ok (.iload_n 1, 1) := by decide +kernel
set_option maxRecDepth 20000 in
theorem dX12_narrow_12 : decode cX12_narrow 12 = .ok (.iconst 1, 1) := by decide +kernel
set_option maxRecDepth 20000 in
theorem dX12_narrow_13 : decode cX12_narrow 13 = .ok (.if_icmp .ne 10, 3) := by decide +kernel
set_option maxRecDepth 20000 in
theorem dX12_narrow_16 : decode cX12_narrow 16 = .ok (.lload_n 2, 1) := by decide +kernel
set_option maxRecDepth 20000 in
theorem dX12_narrow_17 : decode cX12_narrow 17 = .ok (.l2i, 1) := by decide +kernel
set_option maxRecDepth 20000 in
theorem dX12_narrow_18 : decode cX12_narrow 18 = .ok (.i2s, 1) := by decide +kernel
set_option maxRecDepth 20000 in
theorem dX12_narrow_19 : decode cX12_narrow 19 = .ok (.i2l, 1) := by decide +kernel
set_option maxRecDepth 20000 in
theorem dX12_narrow_20 : decode cX12_narrow 20 = .ok (.goto 34, 3) := by decide +kernel
set_option maxRecDepth 20000 in
theorem dX12_narrow_23 : decode cX12_narrow 23 = .ok (.iload_n 1, 1) := by decide +kernel
set_option maxRecDepth 20000 in
theorem dX12_narrow_24 : decode cX12_narrow 24 = .ok (.iconst 2, 1) := by decide +kernel
set_option maxRecDepth 20000 in
theorem dX12_narrow_25 : decode cX12_narrow 25 = .ok (.if_icmp .ne 9, 3) := by decide +kernel
set_option maxRecDepth 20000 in
theorem dX12_narrow_28 : decode cX12_narrow 28 = .ok (.lload_n 2, 1) := by decide +kernel
set_option maxRecDepth 20000 in
theorem dX12_narrow_29 : decode cX12_narrow 29 = .ok (.l2i, 1) := by decide +kernel
set_option maxRecDepth 20000 in
theorem dX12_narrow_30 : decode cX12_narrow 30 = .ok (.i2l, 1) := by decide +kernel
set_option maxRecDepth 20000 in
theorem dX12_narrow_31 : decode cX12_narrow 31 = .ok (.goto 23, 3) := by decide +kernel
set_option maxRecDepth 20000 in
theorem dX12_narrow_34 : decode cX12_narrow 34 = .ok (.iload_n 1, 1) := by decide +kernel
set_option maxRecDepth 20000 in
theorem dX12_narrow_35 : decode cX12_narrow 35 = .ok (.iconst 4, 1) := by decide +kernel
set_option maxRecDepth 20000 in
theorem dX12_narrow_36 : decode cX12_narrow 36 = .ok (.if_icmp .ne 17, 3) := by decide +kernel
set_option maxRecDepth 20000 in
theorem dX12_narrow_39 : decode cX12_narrow 39 = .ok (.lload_n 2, 1) := by decide +kernel
set_option maxRecDepth 20000 in
theorem dX12_narrow_40 : decode cX12_narrow 40 = .ok (.lconst 0, 1) := by decide +kernel
set_option maxRecDepth 20000 in
theorem dX12_narrow_41 : decode cX12_narrow 41 = .ok (.lcmp, 1) := by decide +kernel
set_option maxRecDepth 20000 in
theorem dX12_narrow_42 : decode cX12_narrow 42 = .ok (.ifCond .eq 7, 3) := by decide +kernel
set_option maxRecDepth 20000 in
theorem dX12_narrow_45 : decode cX12_narrow 45 = .ok (.lconst 1, 1) := by decide +kernel
set_option maxRecDepth 20000 in
theorem dX12_narrow_46 : decode cX12_narrow 46 = .ok (.goto 8, 3) := by decide +kernel
set_option maxRecDepth 20000 in
theorem dX12_narrow_49 : decode cX12_narrow 49 = .ok (.lconst 0, 1) := by decide +kernel
set_option maxRecDepth 20000 in
theorem dX12_narrow_50 : decode cX12_narrow 50 = .ok (.goto 4, 3) := by decide +kernel
set_option maxRecDepth 20000 in
theorem dX12_narrow_53 : decode cX12_narrow 53 = .ok (.lload_n 2, 1) := by decide +kernel
set_option maxRecDepth 20000 in
theorem dX12_narrow_54 : decode cX12_narrow 54 = .ok (.lreturn, 1) := by decide +kernel
set_option maxRecDepth 20000 in
theorem kt_X12_narrow_0 (g : gx_T) : ∀ q ∈ k_X12_narrow_0, gx_E g gc_md RX12 cX12_narrow 4 (some .long) "narrow" q.1 q.2 := List.forall_mem_cons.mpr ⟨(gs_iload_n dX12_narrow_0 rfl), List.forall_mem_cons.mpr ⟨
  (gs_if_ne dX12_narrow_1 rfl), List.forall_mem_cons.mpr ⟨
  (gs_lload_n dX12_narrow_4 rfl), List.forall_mem_cons.mpr ⟨
  (gs_l2i dX12_narrow_5), List.forall_mem_cons.mpr ⟨
  (gs_i2b dX12_narrow_6), List.forall_mem_cons.mpr ⟨
  (gs_i2l dX12_narrow_7), List.forall_mem_cons.mpr ⟨
  (gs_goto dX12_narrow_8 rfl), List.forall_mem_cons.mpr ⟨
  (gs_iload_n dX12_narrow_11 rfl), List.forall_mem_cons.mpr ⟨
  (gs_iconst dX12_narrow_12 rfl), List.forall_mem_cons.mpr ⟨
  (gs_icmp_ne dX12_narrow_13 rfl), List.forall_mem_cons.mpr ⟨
  (gs_lload_n dX12_narrow_16 rfl), List.forall_mem_cons.mpr ⟨
  (gs_l2i dX12_narrow_17), List.forall_mem_cons.mpr ⟨
  (gs_i2s dX12_narrow_18), List.forall_mem_cons.mpr ⟨
  (gs_i2l dX12_narrow_19), List.forall_mem_cons.mpr ⟨
  (gs_goto dX12_narrow_20 rfl), List.forall_mem_cons.mpr ⟨
  (gs_iload_n dX12_narrow_23 rfl), List.forall_mem_cons.mpr ⟨
  (gs_iconst dX12_narrow_24 rfl), List.forall_mem_cons.mpr ⟨
  (gs_icmp_ne dX12_narrow_25 rfl), List.forall_mem_cons.mpr ⟨
  (gs_lload_n dX12_narrow_28 rfl), List.forall_mem_cons.mpr ⟨
  (gs_l2i dX12_narrow_29), List.forall_mem_cons.mpr ⟨
  (gs_i2l dX12_narrow_30), List.forall_mem_cons.mpr ⟨
  (gs_goto dX12_narrow_31 rfl), List.forall_mem_cons.mpr ⟨
  (gs_iload_n dX12_narrow_34 rfl), List.forall_mem_cons.mpr ⟨
  (gs_iconst dX12_narrow_35 rfl), List.forall_mem_cons.mpr ⟨
  (gs_icmp_ne dX12_narrow_36 rfl), List.forall_mem_cons.mpr ⟨
  (gs_lload_n dX12_narrow_39 rfl), List.forall_mem_cons.mpr ⟨
  (gs_lconst dX12_narrow_40 rfl), List.forall_mem_cons.mpr ⟨
  (gs_lcmp dX12_narrow_41), List.forall_mem_cons.mpr ⟨
  (gs_if_eq dX12_narrow_42 rfl), List.forall_mem_cons.mpr ⟨
  (gs_lconst dX12_narrow_45 rfl), List.forall_mem_cons.mpr ⟨
  (gs_goto dX12_narrow_46 rfl), List.forall_mem_cons.mpr ⟨
  (gs_lconst dX12_narrow_49 rfl), fun _ h => absurd h List.not_mem_nil⟩⟩⟩⟩⟩⟩⟩⟩⟩⟩⟩⟩⟩⟩⟩⟩⟩⟩⟩⟩⟩⟩⟩⟩⟩⟩⟩⟩⟩⟩⟩⟩
set_option maxRecDepth 20000 in
theorem kt_X12_narrow_1 (g : gx_T) : ∀ q ∈ k_X12_narrow_1, gx_E g gc_md RX12 cX12_narrow 4 (some .long) "narrow" q.1 q.2 := List.forall_mem_cons.mpr ⟨(gs_goto dX12_narrow_50 rfl), List.forall_mem_cons.mpr ⟨
  (gs_lload_n dX12_narrow_53 rfl), List.forall_mem_cons.mpr ⟨
  (gs_rl dX12_narrow_54), fun _ h => absurd h List.not_mem_nil⟩⟩⟩
theorem kt_X12_narrow (g : gx_T) : ∀ q ∈ k_X12_narrow, gx_E g gc_md RX12 cX12_narrow 4 (some .long) "narrow" q.1 q.2 := List.forall_mem_append.mpr ⟨kt_X12_narrow_0 g, kt_X12_narrow_1 g⟩
set_option maxRecDepth 20000 in
theorem dX12_item_0 : decode cX12_item 0 = .ok (.aload_n 0, 1) := by decide +kernel
set_option maxRecDepth 20000 in
theorem dX12_item_1 : decode cX12_item 1 = .ok (.iload_n 1, 1) := by decide +kernel
set_option maxRecDepth 20000 in
theorem dX12_item_2 : decode cX12_item 2 = .ok (.invokevirtual 425, 3) := by decide +kernel
set_option maxRecDepth 20000 in
theorem dX12_item_5 : decode cX12_item 5 = .ok (.ifCond .ne 5, 3) := by decide +kernel
set_option maxRecDepth 20000 in
theorem dX12_item_8 : decode cX12_item 8 = .ok (.iconst (-1), 1) := by decide +kernel
set_option maxRecDepth 20000 in
theorem dX12_item_9 : decode cX12_item 9 = .ok (.ireturn, 1) := by decide +kernel
set_option maxRecDepth 20000 in
theorem dX12_item_10 : decode cX12_item 10 = .ok (.aload_n 0, 1) := by decide +kernel
set_option maxRecDepth 20000 in
theorem dX12_item_11 : decode cX12_item 11 = .ok (.getfield 238, 3) := by decide +kernel
set_option maxRecDepth 20000 in
theorem dX12_item_14 : decode cX12_item 14 = .ok (.iload_n 1, 1) := by decide +kernel
set_option maxRecDepth 20000 in
theorem dX12_item_15 : decode cX12_item 15 = .ok (.iaload, 1) := by decide +kernel
set_option maxRecDepth 20000 in
theorem dX12_item_16 : decode cX12_item 16 = .ok (.ifCond .ge 6, 3) := by decide +kernel
set_option maxRecDepth 20000 in
theorem dX12_item_19 : decode cX12_item 19 = .ok (.bipush (-11), 2) := by decide +kernel
set_option maxRecDepth 20000 in
theorem dX12_item_21 : decode cX12_item 21 = .ok (.ireturn, 1) := by decide +kernel
set_option maxRecDepth 20000 in
theorem dX12_item_22 : decode cX12_item 22 = .ok (.aload_n 0, 1) := by decide +kernel
set_option maxRecDepth 20000 in
theorem dX12_item_23 : decode cX12_item 23 = .ok (.iload_n 2, 1) := by decide +kernel
set_option maxRecDepth 20000 in
theorem dX12_item_24 : decode cX12_item 24 = .ok (.iconst 0, 1) := by decide +kernel
set_option maxRecDepth 20000 in
theorem dX12_item_25 : decode cX12_item 25 = .ok (.aload_n 0, 1) := by decide +kernel
set_option maxRecDepth 20000 in
theorem dX12_item_26 : decode cX12_item 26 = .ok (.getfield 241, 3) := by decide +kernel
set_option maxRecDepth 20000 in
theorem dX12_item_29 : decode cX12_item 29 = .ok (.iload_n 1, 1) := by decide +kernel
set_option maxRecDepth 20000 in
theorem dX12_item_30 : decode cX12_item 30 = .ok (.iaload, 1) := by decide +kernel
set_option maxRecDepth 20000 in
theorem dX12_item_31 : decode cX12_item 31 = .ok (.iconst 1, 1) := by decide +kernel
set_option maxRecDepth 20000 in
theorem dX12_item_32 : decode cX12_item 32 = .ok (.isub, 1) := by decide +kernel
set_option maxRecDepth 20000 in
theorem dX12_item_33 : decode cX12_item 33 = .ok (.invokevirtual 255, 3) := by decide +kernel
set_option maxRecDepth 20000 in
theorem dX12_item_36 : decode cX12_item 36 = .ok (.ifCond .ne 6, 3) := by decide +kernel
set_option maxRecDepth 20000 in
theorem dX12_item_39 : decode cX12_item 39 = .ok (.bipush (-13), 2) := by decide +kernel
set_option maxRecDepth 20000 in
theorem dX12_item_41 : decode cX12_item 41 = .ok (.ireturn, 1) := by decide +kernel
set_option maxRecDepth 20000 in
theorem dX12_item_42 : decode cX12_item 42 = .ok (.aload_n 0, 1) := by decide +kernel
set_option maxRecDepth 20000 in
theorem dX12_item_43 : decode cX12_item 43 = .ok (.getfield 244, 3) := by decide +kernel
set_option maxRecDepth 20000 in
theorem dX12_item_46 : decode cX12_item 46 = .ok (.bipush 60, 2) := by decide +kernel
set_option maxRecDepth 20000 in
theorem dX12_item_48 : decode cX12_item 48 = .ok (.iload_n 1, 1) := by decide +kernel
set_option maxRecDepth 20000 in
theorem dX12_item_49 : decode cX12_item 49 = .ok (.imul, 1) := by decide +kernel
set_option maxRecDepth 20000 in
theorem dX12_item_50 : decode cX12_item 50 = .ok (.iload_n 2, 1) := by decide +kernel
set_option maxRecDepth 20000 in
theorem dX12_item_51 : decode cX12_item 51 = .ok (.iadd, 1) := by decide +kernel
set_option maxRecDepth 20000 in
theorem dX12_item_52 : decode cX12_item 52 = .ok (.aload_n 0, 1) := by decide +kernel
set_option maxRecDepth 20000 in
theorem dX12_item_53 : decode cX12_item 53 = .ok (.aload_n 0, 1) := by decide +kernel
set_option maxRecDepth 20000 in
theorem dX12_item_54 : decode cX12_item 54 = .ok (.getfield 238, 3) := by decide +kernel
set_option maxRecDepth 20000 in
theorem dX12_item_57 : decode cX12_item 57 = .ok (.iload_n 1, 1) := by decide +kernel
set_option maxRecDepth 20000 in
theorem dX12_item_58 : decode cX12_item 58 = .ok (.iaload, 1) := by decide +kernel
set_option maxRecDepth 20000 in
theorem dX12_item_59 : decode cX12_item 59 = .ok (.lload_n 3, 1) := by decide +kernel
set_option maxRecDepth 20000 in
theorem dX12_item_60 : decode cX12_item 60 = .ok (.invokevirtual 452, 3) := by decide +kernel
set_option maxRecDepth 20000 in
theorem dX12_item_63 : decode cX12_item 63 = .ok (.lastore, 1) := by decide +kernel
set_option maxRecDepth 20000 in
theorem dX12_item_64 : decode cX12_item 64 = .ok (.iconst 1, 1) := by decide +kernel
set_option maxRecDepth 20000 in
theorem dX12_item_65 : decode cX12_item 65 = .ok (.ireturn, 1) := by decide +kernel
set_option maxRecDepth 20000 in
theorem kt_X12_item_0 (g : gx_T) : ∀ q ∈ k_X12_item_0, gx_E g gc_md RX12 cX12_item 5 (some .int) "item" q.1 q.2 := List.forall_mem_cons.mpr ⟨(gs_aload_n dX12_item_0 rfl), List.forall_mem_cons.mpr ⟨
  (gs_iload_n dX12_item_1 rfl), List.forall_mem_cons.mpr ⟨
  (gs_cv dX12_item_2 (fun q hq => by
      simp only [List.mem_cons, List.not_mem_nil, or_false] at hq
      subst hq
      exact Or.inl ⟨_, rfl, by decide, by decide +kernel, by decide +kernel, List.forall_mem_cons.mpr ⟨gx_mem 1535 (by decide +kernel) (by decide +kernel), List.forall_mem_cons.mpr ⟨gx_mem 1537 (by decide +kernel) (by decide +kernel), List.forall_mem_cons.mpr ⟨gx_mem 73 (by decide +kernel) (by decide +kernel), List.forall_mem_cons.mpr ⟨gx_mem 96 (by decide +kernel) (by decide +kernel), List.forall_mem_cons.mpr ⟨cw_1538, fun _ h => absurd h List.not_mem_nil⟩⟩⟩⟩⟩⟩)), List.forall_mem_cons.mpr ⟨
  (gs_if_ne dX12_item_5 rfl), List.forall_mem_cons.mpr ⟨
  (gs_iconst dX12_item_8 rfl), List.forall_mem_cons.mpr ⟨
  (gs_ri dX12_item_9), List.forall_mem_cons.mpr ⟨
  (gs_aload_n dX12_item_10 rfl), List.forall_mem_cons.mpr ⟨
  (gs_gf (ref := "GriefCranesModel") dX12_item_11 (gx_mem 1072 (by decide +kernel) (by decide +kernel)) (Or.inl rfl) gf_12_75), List.forall_mem_cons.mpr ⟨
  (gs_iload_n dX12_item_14 rfl), List.forall_mem_cons.mpr ⟨
  (gs_iaload dX12_item_15), List.forall_mem_cons.mpr ⟨
  (gs_if_ge dX12_item_16 rfl), List.forall_mem_cons.mpr ⟨
  (gs_bipush dX12_item_19 rfl), List.forall_mem_cons.mpr ⟨
  (gs_ri dX12_item_21), List.forall_mem_cons.mpr ⟨
  (gs_aload_n dX12_item_22 rfl), List.forall_mem_cons.mpr ⟨
  (gs_iload_n dX12_item_23 rfl), List.forall_mem_cons.mpr ⟨
  (gs_iconst dX12_item_24 rfl), List.forall_mem_cons.mpr ⟨
  (gs_aload_n dX12_item_25 rfl), List.forall_mem_cons.mpr ⟨
  (gs_gf (ref := "GriefCranesModel") dX12_item_26 (gx_mem 1073 (by decide +kernel) (by decide +kernel)) (Or.inl rfl) gf_12_76), List.forall_mem_cons.mpr ⟨
  (gs_iload_n dX12_item_29 rfl), List.forall_mem_cons.mpr ⟨
  (gs_iaload dX12_item_30), List.forall_mem_cons.mpr ⟨
  (gs_iconst dX12_item_31 rfl), List.forall_mem_cons.mpr ⟨
  (gs_isub dX12_item_32), List.forall_mem_cons.mpr ⟨
  (gs_cv dX12_item_33 (fun q hq => by
      simp only [List.mem_cons, List.not_mem_nil, or_false] at hq
      subst hq
      exact Or.inl ⟨_, rfl, by decide, by decide +kernel, by decide +kernel, List.forall_mem_cons.mpr ⟨gx_mem 1240 (by decide +kernel) (by decide +kernel), List.forall_mem_cons.mpr ⟨gx_mem 1242 (by decide +kernel) (by decide +kernel), List.forall_mem_cons.mpr ⟨gx_mem 21 (by decide +kernel) (by decide +kernel), List.forall_mem_cons.mpr ⟨gx_mem 96 (by decide +kernel) (by decide +kernel), List.forall_mem_cons.mpr ⟨cw_1243, fun _ h => absurd h List.not_mem_nil⟩⟩⟩⟩⟩⟩)), List.forall_mem_cons.mpr ⟨
  (gs_if_ne dX12_item_36 rfl), List.forall_mem_cons.mpr ⟨
  (gs_bipush dX12_item_39 rfl), List.forall_mem_cons.mpr ⟨
  (gs_ri dX12_item_41), List.forall_mem_cons.mpr ⟨
  (gs_aload_n dX12_item_42 rfl), List.forall_mem_cons.mpr ⟨
  (gs_gf (ref := "GriefCranesModel") dX12_item_43 (gx_mem 1074 (by decide +kernel) (by decide +kernel)) (Or.inl rfl) gf_12_77), List.forall_mem_cons.mpr ⟨
  (gs_bipush dX12_item_46 rfl), List.forall_mem_cons.mpr ⟨
  (gs_iload_n dX12_item_48 rfl), List.forall_mem_cons.mpr ⟨
  (gs_imul dX12_item_49), List.forall_mem_cons.mpr ⟨
  (gs_iload_n dX12_item_50 rfl), fun _ h => absurd h List.not_mem_nil⟩⟩⟩⟩⟩⟩⟩⟩⟩⟩⟩⟩⟩⟩⟩⟩⟩⟩⟩⟩⟩⟩⟩⟩⟩⟩⟩⟩⟩⟩⟩⟩
set_option maxRecDepth 20000 in
theorem kt_X12_item_1 (g : gx_T) : ∀ q ∈ k_X12_item_1, gx_E g gc_md RX12 cX12_item 5 (some .int) "item" q.1 q.2 := List.forall_mem_cons.mpr ⟨(gs_iadd dX12_item_51), List.forall_mem_cons.mpr ⟨
  (gs_aload_n dX12_item_52 rfl), List.forall_mem_cons.mpr ⟨
  (gs_aload_n dX12_item_53 rfl), List.forall_mem_cons.mpr ⟨
  (gs_gf (ref := "GriefCranesModel") dX12_item_54 (gx_mem 1072 (by decide +kernel) (by decide +kernel)) (Or.inl rfl) gf_12_75), List.forall_mem_cons.mpr ⟨
  (gs_iload_n dX12_item_57 rfl), List.forall_mem_cons.mpr ⟨
  (gs_iaload dX12_item_58), List.forall_mem_cons.mpr ⟨
  (gs_lload_n dX12_item_59 rfl), List.forall_mem_cons.mpr ⟨
  (gs_cv dX12_item_60 (fun q hq => by
      simp only [List.mem_cons, List.not_mem_nil, or_false] at hq
      subst hq
      exact Or.inl ⟨_, rfl, by decide, by decide +kernel, by decide +kernel, List.forall_mem_cons.mpr ⟨gx_mem 1603 (by decide +kernel) (by decide +kernel), List.forall_mem_cons.mpr ⟨gx_mem 1605 (by decide +kernel) (by decide +kernel), List.forall_mem_cons.mpr ⟨gx_mem 82 (by decide +kernel) (by decide +kernel), List.forall_mem_cons.mpr ⟨gx_mem 96 (by decide +kernel) (by decide +kernel), List.forall_mem_cons.mpr ⟨cw_1606, fun _ h => absurd h List.not_mem_nil⟩⟩⟩⟩⟩⟩)), List.forall_mem_cons.mpr ⟨
  (gs_lastore dX12_item_63), List.forall_mem_cons.mpr ⟨
  (gs_iconst dX12_item_64 rfl), List.forall_mem_cons.mpr ⟨
  (gs_ri dX12_item_65), fun _ h => absurd h List.not_mem_nil⟩⟩⟩⟩⟩⟩⟩⟩⟩⟩⟩
theorem kt_X12_item (g : gx_T) : ∀ q ∈ k_X12_item, gx_E g gc_md RX12 cX12_item 5 (some .int) "item" q.1 q.2 := List.forall_mem_append.mpr ⟨kt_X12_item_0 g, kt_X12_item_1 g⟩
set_option maxRecDepth 20000 in
theorem dX12_read_0 : decode cX12_read 0 = .ok (.aload_n 0, 1) := by decide +kernel
set_option maxRecDepth 20000 in
theorem dX12_read_1 : decode cX12_read 1 = .ok (.iload_n 1, 1) := by decide +kernel
set_option maxRecDepth 20000 in
theorem dX12_read_2 : decode cX12_read 2 = .ok (.invokevirtual 425, 3) := by decide +kernel
set_option maxRecDepth 20000 in
theorem dX12_read_5 : decode cX12_read 5 = .ok (.ifCond .eq 29, 3) := by decide +kernel
set_option maxRecDepth 20000 in
theorem dX12_read_8 : decode cX12_read 8 = .ok (.aload_n 0, 1) := by decide +kernel
set_option maxRecDepth 20000 in
theorem dX12_read_9 : decode cX12_read 9 = .ok (.getfield 238, 3) := by decide +kernel
set_option maxRecDepth 20000 in
theorem dX12_read_12 : decode cX12_read 12 = .ok (.iload_n 1, 1) := by decide +kernel
set_option maxRecDepth 20000 in
theorem dX12_read_13 : decode cX12_read 13 = .ok (.iaload, 1) := by decide +kernel
set_option maxRecDepth 20000 in
theorem dX12_read_14 : decode cX12_read 14 = .ok (.ifCond .lt 20, 3) := by decide +kernel
set_option maxRecDepth 20000 in
theorem dX12_read_17 : decode cX12_read 17 = .ok (.aload_n 0, 1) := by decide +kernel
set_option maxRecDepth 20000 in
theorem dX12_read_18 : decode cX12_read 18 = .ok (.iload_n 2, 1) := by decide +kernel
set_option maxRecDepth 20000 in
theorem dX12_read_19 : decode cX12_read 19 = .ok (.iconst 0, 1) := by decide +kernel
set_option maxRecDepth 20000 in
theorem dX12_read_20 : decode cX12_read 20 = .ok (.aload_n 0, 1) := by decide +kernel
set_option maxRecDepth 20000 in
theorem dX12_read_21 : decode cX12_read 21 = .ok (.getfield 241, 3) := by decide +kernel
set_option maxRecDepth 20000 in
theorem dX12_read_24 : decode cX12_read 24 = .ok (.iload_n 1, 1) := by decide +kernel
set_option maxRecDepth 20000 in
theorem dX12_read_25 : decode cX12_read 25 = .ok (.iaload, 1) := by decide +kernel
set_option maxRecDepth 20000 in
theorem dX12_read_26 : decode cX12_read 26 = .ok (.iconst 1, 1) := by decide +kernel
set_option maxRecDepth 20000 in
theorem dX12_read_27 : decode cX12_read 27 = .ok (.isub, 1) := by decide +kernel
set_option maxRecDepth 20000 in
theorem dX12_read_28 : decode cX12_read 28 = .ok (.invokevirtual 255, 3) := by decide +kernel
set_option maxRecDepth 20000 in
theorem dX12_read_31 : decode cX12_read 31 = .ok (.ifCond .ne 9, 3) := by decide +kernel
set_option maxRecDepth 20000 in
theorem dX12_read_34 : decode cX12_read 34 = .ok (.ldc2_w 416, 3) := by decide +kernel
set_option maxRecDepth 20000 in
theorem dX12_read_37 : decode cX12_read 37 = .ok (.goto 14, 3) := by decide +kernel
set_option maxRecDepth 20000 in
theorem dX12_read_40 : decode cX12_read 40 = .ok (.aload_n 0, 1) := by decide +kernel
set_option maxRecDepth 20000 in
theorem dX12_read_41 : decode cX12_read 41 = .ok (.getfield 244, 3) := by decide +kernel
set_option maxRecDepth 20000 in
theorem dX12_read_44 : decode cX12_read 44 = .ok (.bipush 60, 2) := by decide +kernel
set_option maxRecDepth 20000 in
theorem dX12_read_46 : decode cX12_read 46 = .ok (.iload_n 1, 1) := by decide +kernel
set_option maxRecDepth 20000 in
theorem dX12_read_47 : decode cX12_read 47 = .ok (.imul, 1) := by decide +kernel
set_option maxRecDepth 20000 in
theorem dX12_read_48 : decode cX12_read 48 = .ok (.iload_n 2, 1) := by decide +kernel
set_option maxRecDepth 20000 in
theorem dX12_read_49 : decode cX12_read 49 = .ok (.iadd, 1) := by decide +kernel
set_option maxRecDepth 20000 in
theorem dX12_read_50 : decode cX12_read 50 = .ok (.laload, 1) := by decide +kernel
set_option maxRecDepth 20000 in
theorem dX12_read_51 : decode cX12_read 51 = .ok (.lreturn, 1) := by decide +kernel
set_option maxRecDepth 20000 in
theorem kt_X12_read_0 (g : gx_T) : ∀ q ∈ k_X12_read_0, gx_E g gc_md RX12 cX12_read 3 (some .long) "read" q.1 q.2 := List.forall_mem_cons.mpr ⟨(gs_aload_n dX12_read_0 rfl), List.forall_mem_cons.mpr ⟨
  (gs_iload_n dX12_read_1 rfl), List.forall_mem_cons.mpr ⟨
  (gs_cv dX12_read_2 (fun q hq => by
      simp only [List.mem_cons, List.not_mem_nil, or_false] at hq
      subst hq
      exact Or.inl ⟨_, rfl, by decide, by decide +kernel, by decide +kernel, List.forall_mem_cons.mpr ⟨gx_mem 1535 (by decide +kernel) (by decide +kernel), List.forall_mem_cons.mpr ⟨gx_mem 1537 (by decide +kernel) (by decide +kernel), List.forall_mem_cons.mpr ⟨gx_mem 73 (by decide +kernel) (by decide +kernel), List.forall_mem_cons.mpr ⟨gx_mem 96 (by decide +kernel) (by decide +kernel), List.forall_mem_cons.mpr ⟨cw_1538, fun _ h => absurd h List.not_mem_nil⟩⟩⟩⟩⟩⟩)), List.forall_mem_cons.mpr ⟨
  (gs_if_eq dX12_read_5 rfl), List.forall_mem_cons.mpr ⟨
  (gs_aload_n dX12_read_8 rfl), List.forall_mem_cons.mpr ⟨
  (gs_gf (ref := "GriefCranesModel") dX12_read_9 (gx_mem 1072 (by decide +kernel) (by decide +kernel)) (Or.inl rfl) gf_12_75), List.forall_mem_cons.mpr ⟨
  (gs_iload_n dX12_read_12 rfl), List.forall_mem_cons.mpr ⟨
  (gs_iaload dX12_read_13), List.forall_mem_cons.mpr ⟨
  (gs_if_lt dX12_read_14 rfl), List.forall_mem_cons.mpr ⟨
  (gs_aload_n dX12_read_17 rfl), List.forall_mem_cons.mpr ⟨
  (gs_iload_n dX12_read_18 rfl), List.forall_mem_cons.mpr ⟨
  (gs_iconst dX12_read_19 rfl), List.forall_mem_cons.mpr ⟨
  (gs_aload_n dX12_read_20 rfl), List.forall_mem_cons.mpr ⟨
  (gs_gf (ref := "GriefCranesModel") dX12_read_21 (gx_mem 1073 (by decide +kernel) (by decide +kernel)) (Or.inl rfl) gf_12_76), List.forall_mem_cons.mpr ⟨
  (gs_iload_n dX12_read_24 rfl), List.forall_mem_cons.mpr ⟨
  (gs_iaload dX12_read_25), List.forall_mem_cons.mpr ⟨
  (gs_iconst dX12_read_26 rfl), List.forall_mem_cons.mpr ⟨
  (gs_isub dX12_read_27), List.forall_mem_cons.mpr ⟨
  (gs_cv dX12_read_28 (fun q hq => by
      simp only [List.mem_cons, List.not_mem_nil, or_false] at hq
      subst hq
      exact Or.inl ⟨_, rfl, by decide, by decide +kernel, by decide +kernel, List.forall_mem_cons.mpr ⟨gx_mem 1240 (by decide +kernel) (by decide +kernel), List.forall_mem_cons.mpr ⟨gx_mem 1242 (by decide +kernel) (by decide +kernel), List.forall_mem_cons.mpr ⟨gx_mem 21 (by decide +kernel) (by decide +kernel), List.forall_mem_cons.mpr ⟨gx_mem 96 (by decide +kernel) (by decide +kernel), List.forall_mem_cons.mpr ⟨cw_1243, fun _ h => absurd h List.not_mem_nil⟩⟩⟩⟩⟩⟩)), List.forall_mem_cons.mpr ⟨
  (gs_if_ne dX12_read_31 rfl), List.forall_mem_cons.mpr ⟨
  (gs_ldc2 dX12_read_34 (gx_mem 1498 (by decide +kernel) (by decide +kernel))), List.forall_mem_cons.mpr ⟨
  (gs_goto dX12_read_37 rfl), List.forall_mem_cons.mpr ⟨
  (gs_aload_n dX12_read_40 rfl), List.forall_mem_cons.mpr ⟨
  (gs_gf (ref := "GriefCranesModel") dX12_read_41 (gx_mem 1074 (by decide +kernel) (by decide +kernel)) (Or.inl rfl) gf_12_77), List.forall_mem_cons.mpr ⟨
  (gs_bipush dX12_read_44 rfl), List.forall_mem_cons.mpr ⟨
  (gs_iload_n dX12_read_46 rfl), List.forall_mem_cons.mpr ⟨
  (gs_imul dX12_read_47), List.forall_mem_cons.mpr ⟨
  (gs_iload_n dX12_read_48 rfl), List.forall_mem_cons.mpr ⟨
  (gs_iadd dX12_read_49), List.forall_mem_cons.mpr ⟨
  (gs_laload dX12_read_50), List.forall_mem_cons.mpr ⟨
  (gs_rl dX12_read_51), fun _ h => absurd h List.not_mem_nil⟩⟩⟩⟩⟩⟩⟩⟩⟩⟩⟩⟩⟩⟩⟩⟩⟩⟩⟩⟩⟩⟩⟩⟩⟩⟩⟩⟩⟩⟩⟩
theorem kt_X12_read (g : gx_T) : ∀ q ∈ k_X12_read, gx_E g gc_md RX12 cX12_read 3 (some .long) "read" q.1 q.2 := kt_X12_read_0 g
set_option maxRecDepth 20000 in
theorem dX12_shift_0 : decode cX12_shift 0 = .ok (.aload_n 0, 1) := by decide +kernel
set_option maxRecDepth 20000 in
theorem dX12_shift_1 : decode cX12_shift 1 = .ok (.iload_n 1, 1) := by decide +kernel
set_option maxRecDepth 20000 in
theorem dX12_shift_2 : decode cX12_shift 2 = .ok (.invokevirtual 425, 3) := by decide +kernel
set_option maxRecDepth 20000 in
theorem dX12_shift_5 : decode cX12_shift 5 = .ok (.ifCond .eq 11, 3) := by decide +kernel
set_option maxRecDepth 20000 in
theorem dX12_shift_8 : decode cX12_shift 8 = .ok (.aload_n 0, 1) := by decide +kernel
set_option maxRecDepth 20000 in
theorem dX12_shift_9 : decode cX12_shift 9 = .ok (.iload_n 3, 1) := by decide +kernel
set_option maxRecDepth 20000 in
theorem dX12_shift_10 : decode cX12_shift 10 = .ok (.invokevirtual 425, 3) := by decide +kernel
set_option maxRecDepth 20000 in
theorem dX12_shift_13 : decode cX12_shift 13 = .ok (.ifCond .ne 5, 3) := by decide +kernel
set_option maxRecDepth 20000 in
theorem dX12_shift_16 : decode cX12_shift 16 = .ok (.iconst (-1), 1) := by decide +kernel
set_option maxRecDepth 20000 in
theorem dX12_shift_17 : decode cX12_shift 17 = .ok (.ireturn, 1) := by decide +kernel
set_option maxRecDepth 20000 in
theorem dX12_shift_18 : decode cX12_shift 18 = .ok (.aload_n 0, 1) := by decide +kernel
set_option maxRecDepth 20000 in
theorem dX12_shift_19 : decode cX12_shift 19 = .ok (.getfield 238, 3) := by decide +kernel
set_option maxRecDepth 20000 in
theorem dX12_shift_22 : decode cX12_shift 22 = .ok (.iload_n 1, 1) := by decide +kernel
set_option maxRecDepth 20000 in
theorem dX12_shift_23 : decode cX12_shift 23 = .ok (.iaload, 1) := by decide +kernel
set_option maxRecDepth 20000 in
theorem dX12_shift_24 : decode cX12_shift 24 = .ok (.ifCond .lt 12, 3) := by decide +kernel
set_option maxRecDepth 20000 in
theorem dX12_shift_27 : decode cX12_shift 27 = .ok (.aload_n 0, 1) := by decide +kernel
set_option maxRecDepth 20000 in
theorem dX12_shift_28 : decode cX12_shift 28 = .ok (.getfield 238, 3) := by decide +kernel
set_option maxRecDepth 20000 in
theorem dX12_shift_31 : decode cX12_shift 31 = .ok (.iload_n 3, 1) := by decide +kernel
set_option maxRecDepth 20000 in
theorem dX12_shift_32 : decode cX12_shift 32 = .ok (.iaload, 1) := by decide +kernel
set_option maxRecDepth 20000 in
theorem dX12_shift_33 : decode cX12_shift 33 = .ok (.ifCond .ge 6, 3) := by decide +kernel
set_option maxRecDepth 20000 in
theorem dX12_shift_36 : decode cX12_shift 36 = .ok (.bipush (-11), 2) := by decide +kernel
set_option maxRecDepth 20000 in
theorem dX12_shift_38 : decode cX12_shift 38 = .ok (.ireturn, 1) := by decide +kernel
set_option maxRecDepth 20000 in
theorem dX12_shift_39 : decode cX12_shift 39 = .ok (.aload_n 0, 1) := by decide +kernel
set_option maxRecDepth 20000 in
theorem dX12_shift_40 : decode cX12_shift 40 = .ok (.getfield 238, 3) := by decide +kernel
set_option maxRecDepth 20000 in
theorem dX12_shift_43 : decode cX12_shift 43 = .ok (.iload_n 1, 1) := by decide +kernel
set_option maxRecDepth 20000 in
theorem dX12_shift_44 : decode cX12_shift 44 = .ok (.iaload, 1) := by decide +kernel
set_option maxRecDepth 20000 in
theorem dX12_shift_45 : decode cX12_shift 45 = .ok (.aload_n 0, 1) := by decide +kernel
set_option maxRecDepth 20000 in
theorem dX12_shift_46 : decode cX12_shift 46 = .ok (.getfield 238, 3) := by decide +kernel
set_option maxRecDepth 20000 in
theorem dX12_shift_49 : decode cX12_shift 49 = .ok (.iload_n 3, 1) := by decide +kernel
set_option maxRecDepth 20000 in
theorem dX12_shift_50 : decode cX12_shift 50 = .ok (.iaload, 1) := by decide +kernel
set_option maxRecDepth 20000 in
theorem dX12_shift_51 : decode cX12_shift 51 = .ok (.if_icmp .eq 6, 3) := by decide +kernel
set_option maxRecDepth 20000 in
theorem dX12_shift_54 : decode cX12_shift 54 = .ok (.bipush (-12), 2) := by decide +kernel
set_option maxRecDepth 20000 in
theorem dX12_shift_56 : decode cX12_shift 56 = .ok (.ireturn, 1) := by decide +kernel
set_option maxRecDepth 20000 in
theorem dX12_shift_57 : decode cX12_shift 57 = .ok (.iload 5, 2) := by decide +kernel
set_option maxRecDepth 20000 in
theorem dX12_shift_59 : decode cX12_shift 59 = .ok (.ifCond .lt 39, 3) := by decide +kernel
set_option maxRecDepth 20000 in
theorem dX12_shift_62 : decode cX12_shift 62 = .ok (.iload_n 2, 1) := by decide +kernel
set_option maxRecDepth 20000 in
theorem dX12_shift_63 : decode cX12_shift 63 = .ok (.ifCond .lt 35, 3) := by decide +kernel
set_option maxRecDepth 20000 in
theorem dX12_shift_66 : decode cX12_shift 66 = .ok (.iload 4, 2) := by decide +kernel
set_option maxRecDepth 20000 in
theorem dX12_shift_68 : decode cX12_shift 68 = .ok (.ifCond .lt 30, 3) := by decide +kernel
set_option maxRecDepth 20000 in
theorem dX12_shift_71 : decode cX12_shift 71 = .ok (.iload_n 2, 1) := by decide +kernel
set_option maxRecDepth 20000 in
theorem dX12_shift_72 : decode cX12_shift 72 = .ok (.aload_n 0, 1) := by decide +kernel
set_option maxRecDepth 20000 in
theorem dX12_shift_73 : decode cX12_shift 73 = .ok (.getfield 241, 3) := by decide +kernel
set_option maxRecDepth 20000 in
theorem dX12_shift_76 : decode cX12_shift 76 = .ok (.iload_n 1, 1) := by decide +kernel
set_option maxRecDepth 20000 in
theorem dX12_shift_77 : decode cX12_shift 77 = .ok (.iaload, 1) := by decide +kernel
set_option maxRecDepth 20000 in
theorem dX12_shift_78 : decode cX12_shift 78 = .ok (.iload 5, 2) := by decide +kernel
set_option maxRecDepth 20000 in
theorem dX12_shift_80 : decode cX12_shift 80 = .ok (.isub, 1) := by decide +kernel
set_option maxRecDepth 20000 in
theorem dX12_shift_81 : decode cX12_shift 81 = .ok (.if_icmp .gt 17, 3) := by decide +kernel
set_option maxRecDepth 20000 in
theorem dX12_shift_84 : decode cX12_shift 84 = .ok (.iload 4, 2) := by decide +kernel
set_option maxRecDepth 20000 in
theorem dX12_shift_86 : decode cX12_shift 86 = .ok (.aload_n 0, 1) := by decide +kernel
set_option maxRecDepth 20000 in
theorem dX12_shift_87 : decode cX12_shift 87 = .ok (.getfield 241, 3) := by decide +kernel
set_option maxRecDepth 20000 in
theorem dX12_shift_90 : decode cX12_shift 90 = .ok (.iload_n 3, 1) := by decide +kernel
set_option maxRecDepth 20000 in
theorem dX12_shift_91 : decode cX12_shift 91 = .ok (.iaload, 1) := by decide +kernel
set_option maxRecDepth 20000 in
theorem dX12_shift_92 : decode cX12_shift 92 = .ok (.iload 5, 2) := by decide +kernel
set_option maxRecDepth 20000 in
theorem dX12_shift_94 : decode cX12_shift 94 = .ok (.isub, 1) := by decide +kernel
set_option maxRecDepth 20000 in
theorem dX12_shift_95 : decode cX12_shift 95 = .ok (.if_icmp .le 6, 3) := by decide +kernel
set_option maxRecDepth 20000 in
theorem dX12_shift_98 : decode cX12_shift 98 = .ok (.bipush (-13), 2) := by decide +kernel
set_option maxRecDepth 20000 in
theorem dX12_shift_100 : decode cX12_shift 100 = .ok (.ireturn, 1) := by decide +kernel
set_option maxRecDepth 20000 in
theorem dX12_shift_101 : decode cX12_shift 101 = .ok (.iconst 0, 1) := by decide +kernel
set_option maxRecDepth 20000 in
theorem dX12_shift_102 : decode cX12_shift 102 = .ok (.istore 6, 2) := by decide +kernel
set_option maxRecDepth 20000 in
theorem dX12_shift_104 : decode cX12_shift 104 = .ok (.iload 6, 2) := by decide +kernel
set_option maxRecDepth 20000 in
theorem dX12_shift_106 : decode cX12_shift 106 = .ok (.iload 5, 2) := by decide +kernel
set_option maxRecDepth 20000 in
theorem dX12_shift_108 : decode cX12_shift 108 = .ok (.if_icmp .ge 30, 3) := by decide +kernel
set_option maxRecDepth 20000 in
theorem dX12_shift_111 : decode cX12_shift 111 = .ok (.aload_n 0, 1) := by decide +kernel
set_option maxRecDepth 20000 in
theorem dX12_shift_112 : decode cX12_shift 112 = .ok (.getfield 248, 3) := by decide +kernel
set_option maxRecDepth 20000 in
theorem dX12_shift_115 : decode cX12_shift 115 = .ok (.iload 6, 2) := by decide +kernel
set_option maxRecDepth 20000 in
theorem dX12_shift_117 : decode cX12_shift 117 = .ok (.aload_n 0, 1) := by decide +kernel
set_option maxRecDepth 20000 in
theorem dX12_shift_118 : decode cX12_shift 118 = .ok (.getfield 244, 3) := by decide +kernel
set_option maxRecDepth 20000 in
theorem dX12_shift_121 : decode cX12_shift 121 = .ok (.bipush 60, 2) := by decide +kernel
set_option maxRecDepth 20000 in
theorem dX12_shift_123 : decode cX12_shift 123 = .ok (.iload_n 1, 1) := by decide +kernel
set_option maxRecDepth 20000 in
theorem dX12_shift_124 : decode cX12_shift 124 = .ok (.imul, 1) := by decide +kernel
set_option maxRecDepth 20000 in
theorem dX12_shift_125 : decode cX12_shift 125 = .ok (.iload_n 2, 1) := by decide +kernel
set_option maxRecDepth 20000 in
theorem dX12_shift_126 : decode cX12_shift 126 = .ok (.iadd, 1) := by decide +kernel
set_option maxRecDepth 20000 in
theorem dX12_shift_127 : decode cX12_shift 127 = .ok (.iload 6, 2) := by decide +kernel
set_option maxRecDepth 20000 in
theorem dX12_shift_129 : decode cX12_shift 129 = .ok (.iadd, 1) := by decide +kernel
set_option maxRecDepth 20000 in
theorem dX12_shift_130 : decode cX12_shift 130 = .ok (.laload, 1) := by decide +kernel
set_option maxRecDepth 20000 in
theorem dX12_shift_131 : decode cX12_shift 131 = .ok (.lastore, 1) := by decide +kernel
set_option maxRecDepth 20000 in
theorem dX12_shift_132 : decode cX12_shift 132 = .ok (.iinc 6 1, 3) := by decide +kernel
set_option maxRecDepth 20000 in
theorem dX12_shift_135 : decode cX12_shift 135 = .ok (.goto (-31), 3) := by decide +kernel
set_option maxRecDepth 20000 in
theorem dX12_shift_138 : decode cX12_shift 138 = .ok (.iconst 0, 1) := by decide +kernel
set_option maxRecDepth 20000 in
theorem dX12_shift_139 : decode cX12_shift 139 = .ok (.istore 6, 2) := by decide +kernel
set_option maxRecDepth 20000 in
theorem dX12_shift_141 : decode cX12_shift 141 = .ok (.iload 6, 2) := by decide +kernel
set_option maxRecDepth 20000 in
theorem dX12_shift_143 : decode cX12_shift 143 = .ok (.iload 5, 2) := by decide +kernel
set_option maxRecDepth 20000 in
theorem dX12_shift_145 : decode cX12_shift 145 = .ok (.if_icmp .ge 31, 3) := by decide +kernel
set_option maxRecDepth 20000 in
theorem dX12_shift_148 : decode cX12_shift 148 = .ok (.aload_n 0, 1) := by decide +kernel
set_option maxRecDepth 20000 in
theorem dX12_shift_149 : decode cX12_shift 149 = .ok (.getfield 244, 3) := by decide +kernel
set_option maxRecDepth 20000 in
theorem dX12_shift_152 : decode cX12_shift 152 = .ok (.bipush 60, 2) := by decide +kernel
set_option maxRecDepth 20000 in
theorem dX12_shift_154 : decode cX12_shift 154 = .ok (.iload_n 3, 1) := by decide +kernel
set_option maxRecDepth 20000 in
theorem dX12_shift_155 : decode cX12_shift 155 = .ok (.imul, 1) := by decide +kernel
set_option maxRecDepth 20000 in
theorem dX12_shift_156 : decode cX12_shift 156 = .ok (.iload 4, 2) := by decide +kernel
set_option maxRecDepth 20000 in
theorem dX12_shift_158 : decode cX12_shift 158 = .ok (.iadd, 1) := by decide +kernel
set_option maxRecDepth 20000 in
theorem dX12_shift_159 : decode cX12_shift 159 = .ok (.iload 6, 2) := by decide +kernel
set_option maxRecDepth 20000 in
theorem dX12_shift_161 : decode cX12_shift 161 = .ok (.iadd, 1) := by decide +kernel
set_option maxRecDepth 20000 in
theorem dX12_shift_162 : decode cX12_shift 162 = .ok (.aload_n 0, 1) := by decide +kernel
set_option maxRecDepth 20000 in
theorem dX12_shift_163 : decode cX12_shift 163 = .ok (.getfield 248, 3) := by decide +kernel
set_option maxRecDepth 20000 in
theorem dX12_shift_166 : decode cX12_shift 166 = .ok (.iload 6, 2) := by decide +kernel
set_option maxRecDepth 20000 in
theorem dX12_shift_168 : decode cX12_shift 168 = .ok (.laload, 1) := by decide +kernel
set_option maxRecDepth 20000 in
theorem dX12_shift_169 : decode cX12_shift 169 = .ok (.lastore, 1) := by decide +kernel
set_option maxRecDepth 20000 in
theorem dX12_shift_170 : decode cX12_shift 170 = .ok (.iinc 6 1, 3) := by decide +kernel
set_option maxRecDepth 20000 in
theorem dX12_shift_173 : decode cX12_shift 173 = .ok (.goto (-32), 3) := by decide +kernel
set_option maxRecDepth 20000 in
theorem dX12_shift_176 : decode cX12_shift 176 = .ok (.iload 5, 2) := by decide +kernel
set_option maxRecDepth 20000 in
theorem dX12_shift_178 : decode cX12_shift 178 = .ok (.ireturn, 1) := by decide +kernel
set_option maxRecDepth 20000 in
theorem kt_X12_shift_0 (g : gx_T) : ∀ q ∈ k_X12_shift_0, gx_E g gc_md RX12 cX12_shift 7 (some .int) "shift" q.1 q.2 := List.forall_mem_cons.mpr ⟨(gs_aload_n dX12_shift_0 rfl), List.forall_mem_cons.mpr ⟨
  (gs_iload_n dX12_shift_1 rfl), List.forall_mem_cons.mpr ⟨
  (gs_cv dX12_shift_2 (fun q hq => by
      simp only [List.mem_cons, List.not_mem_nil, or_false] at hq
      subst hq
      exact Or.inl ⟨_, rfl, by decide, by decide +kernel, by decide +kernel, List.forall_mem_cons.mpr ⟨gx_mem 1535 (by decide +kernel) (by decide +kernel), List.forall_mem_cons.mpr ⟨gx_mem 1537 (by decide +kernel) (by decide +kernel), List.forall_mem_cons.mpr ⟨gx_mem 73 (by decide +kernel) (by decide +kernel), List.forall_mem_cons.mpr ⟨gx_mem 96 (by decide +kernel) (by decide +kernel), List.forall_mem_cons.mpr ⟨cw_1538, fun _ h => absurd h List.not_mem_nil⟩⟩⟩⟩⟩⟩)), List.forall_mem_cons.mpr ⟨
  (gs_if_eq dX12_shift_5 rfl), List.forall_mem_cons.mpr ⟨
  (gs_aload_n dX12_shift_8 rfl), List.forall_mem_cons.mpr ⟨
  (gs_iload_n dX12_shift_9 rfl), List.forall_mem_cons.mpr ⟨
  (gs_cv dX12_shift_10 (fun q hq => by
      simp only [List.mem_cons, List.not_mem_nil, or_false] at hq
      subst hq
      exact Or.inl ⟨_, rfl, by decide, by decide +kernel, by decide +kernel, List.forall_mem_cons.mpr ⟨gx_mem 1535 (by decide +kernel) (by decide +kernel), List.forall_mem_cons.mpr ⟨gx_mem 1537 (by decide +kernel) (by decide +kernel), List.forall_mem_cons.mpr ⟨gx_mem 73 (by decide +kernel) (by decide +kernel), List.forall_mem_cons.mpr ⟨gx_mem 96 (by decide +kernel) (by decide +kernel), List.forall_mem_cons.mpr ⟨cw_1538, fun _ h => absurd h List.not_mem_nil⟩⟩⟩⟩⟩⟩)), List.forall_mem_cons.mpr ⟨
  (gs_if_ne dX12_shift_13 rfl), List.forall_mem_cons.mpr ⟨
  (gs_iconst dX12_shift_16 rfl), List.forall_mem_cons.mpr ⟨
  (gs_ri dX12_shift_17), List.forall_mem_cons.mpr ⟨
  (gs_aload_n dX12_shift_18 rfl), List.forall_mem_cons.mpr ⟨
  (gs_gf (ref := "GriefCranesModel") dX12_shift_19 (gx_mem 1072 (by decide +kernel) (by decide +kernel)) (Or.inl rfl) gf_12_75), List.forall_mem_cons.mpr ⟨
  (gs_iload_n dX12_shift_22 rfl), List.forall_mem_cons.mpr ⟨
  (gs_iaload dX12_shift_23), List.forall_mem_cons.mpr ⟨
  (gs_if_lt dX12_shift_24 rfl), List.forall_mem_cons.mpr ⟨
  (gs_aload_n dX12_shift_27 rfl), List.forall_mem_cons.mpr ⟨
  (gs_gf (ref := "GriefCranesModel") dX12_shift_28 (gx_mem 1072 (by decide +kernel) (by decide +kernel)) (Or.inl rfl) gf_12_75), List.forall_mem_cons.mpr ⟨
  (gs_iload_n dX12_shift_31 rfl), List.forall_mem_cons.mpr ⟨
  (gs_iaload dX12_shift_32), List.forall_mem_cons.mpr ⟨
  (gs_if_ge dX12_shift_33 rfl), List.forall_mem_cons.mpr ⟨
  (gs_bipush dX12_shift_36 rfl), List.forall_mem_cons.mpr ⟨
  (gs_ri dX12_shift_38), List.forall_mem_cons.mpr ⟨
  (gs_aload_n dX12_shift_39 rfl), List.forall_mem_cons.mpr ⟨
  (gs_gf (ref := "GriefCranesModel") dX12_shift_40 (gx_mem 1072 (by decide +kernel) (by decide +kernel)) (Or.inl rfl) gf_12_75), List.forall_mem_cons.mpr ⟨
  (gs_iload_n dX12_shift_43 rfl), List.forall_mem_cons.mpr ⟨
  (gs_iaload dX12_shift_44), List.forall_mem_cons.mpr ⟨
  (gs_aload_n dX12_shift_45 rfl), List.forall_mem_cons.mpr ⟨
  (gs_gf (ref := "GriefCranesModel") dX12_shift_46 (gx_mem 1072 (by decide +kernel) (by decide +kernel)) (Or.inl rfl) gf_12_75), List.forall_mem_cons.mpr ⟨
  (gs_iload_n dX12_shift_49 rfl), List.forall_mem_cons.mpr ⟨
  (gs_iaload dX12_shift_50), List.forall_mem_cons.mpr ⟨
  (gs_icmp_eq dX12_shift_51 rfl), List.forall_mem_cons.mpr ⟨
  (gs_bipush dX12_shift_54 rfl), fun _ h => absurd h List.not_mem_nil⟩⟩⟩⟩⟩⟩⟩⟩⟩⟩⟩⟩⟩⟩⟩⟩⟩⟩⟩⟩⟩⟩⟩⟩⟩⟩⟩⟩⟩⟩⟩⟩
set_option maxRecDepth 20000 in
theorem kt_X12_shift_1 (g : gx_T) : ∀ q ∈ k_X12_shift_1, gx_E g gc_md RX12 cX12_shift 7 (some .int) "shift" q.1 q.2 := List.forall_mem_cons.mpr ⟨(gs_ri dX12_shift_56), List.forall_mem_cons.mpr ⟨
  (gs_iload dX12_shift_57), List.forall_mem_cons.mpr ⟨
  (gs_if_lt dX12_shift_59 rfl), List.forall_mem_cons.mpr ⟨
  (gs_iload_n dX12_shift_62 rfl), List.forall_mem_cons.mpr ⟨
  (gs_if_lt dX12_shift_63 rfl), List.forall_mem_cons.mpr ⟨
  (gs_iload dX12_shift_66), List.forall_mem_cons.mpr ⟨
  (gs_if_lt dX12_shift_68 rfl), List.forall_mem_cons.mpr ⟨
  (gs_iload_n dX12_shift_71 rfl), List.forall_mem_cons.mpr ⟨
  (gs_aload_n dX12_shift_72 rfl), List.forall_mem_cons.mpr ⟨
  (gs_gf (ref := "GriefCranesModel") dX12_shift_73 (gx_mem 1073 (by decide +kernel) (by decide +kernel)) (Or.inl rfl) gf_12_76), List.forall_mem_cons.mpr ⟨
  (gs_iload_n dX12_shift_76 rfl), List.forall_mem_cons.mpr ⟨
  (gs_iaload dX12_shift_77), List.forall_mem_cons.mpr ⟨
  (gs_iload dX12_shift_78), List.forall_mem_cons.mpr ⟨
  (gs_isub dX12_shift_80), List.forall_mem_cons.mpr ⟨
  (gs_icmp_gt dX12_shift_81 rfl), List.forall_mem_cons.mpr ⟨
  (gs_iload dX12_shift_84), List.forall_mem_cons.mpr ⟨
  (gs_aload_n dX12_shift_86 rfl), List.forall_mem_cons.mpr ⟨
  (gs_gf (ref := "GriefCranesModel") dX12_shift_87 (gx_mem 1073 (by decide +kernel) (by decide +kernel)) (Or.inl rfl) gf_12_76), List.forall_mem_cons.mpr ⟨
  (gs_iload_n dX12_shift_90 rfl), List.forall_mem_cons.mpr ⟨
  (gs_iaload dX12_shift_91), List.forall_mem_cons.mpr ⟨
  (gs_iload dX12_shift_92), List.forall_mem_cons.mpr ⟨
  (gs_isub dX12_shift_94), List.forall_mem_cons.mpr ⟨
  (gs_icmp_le dX12_shift_95 rfl), List.forall_mem_cons.mpr ⟨
  (gs_bipush dX12_shift_98 rfl), List.forall_mem_cons.mpr ⟨
  (gs_ri dX12_shift_100), List.forall_mem_cons.mpr ⟨
  (gs_iconst dX12_shift_101 rfl), List.forall_mem_cons.mpr ⟨
  (gs_istore dX12_shift_102), List.forall_mem_cons.mpr ⟨
  (gs_iload dX12_shift_104), List.forall_mem_cons.mpr ⟨
  (gs_iload dX12_shift_106), List.forall_mem_cons.mpr ⟨
  (gs_icmp_ge dX12_shift_108 rfl), List.forall_mem_cons.mpr ⟨
  (gs_aload_n dX12_shift_111 rfl), List.forall_mem_cons.mpr ⟨
  (gs_gf (ref := "GriefCranesModel") dX12_shift_112 (gx_mem 1075 (by decide +kernel) (by decide +kernel)) (Or.inl rfl) gf_12_78), fun _ h => absurd h List.not_mem_nil⟩⟩⟩⟩⟩⟩⟩⟩⟩⟩⟩⟩⟩⟩⟩⟩⟩⟩⟩⟩⟩⟩⟩⟩⟩⟩⟩⟩⟩⟩⟩⟩
set_option maxRecDepth 20000 in
theorem kt_X12_shift_2 (g : gx_T) : ∀ q ∈ k_X12_shift_2, gx_E g gc_md RX12 cX12_shift 7 (some .int) "shift" q.1 q.2 := List.forall_mem_cons.mpr ⟨(gs_iload dX12_shift_115), List.forall_mem_cons.mpr ⟨
  (gs_aload_n dX12_shift_117 rfl), List.forall_mem_cons.mpr ⟨
  (gs_gf (ref := "GriefCranesModel") dX12_shift_118 (gx_mem 1074 (by decide +kernel) (by decide +kernel)) (Or.inl rfl) gf_12_77), List.forall_mem_cons.mpr ⟨
  (gs_bipush dX12_shift_121 rfl), List.forall_mem_cons.mpr ⟨
  (gs_iload_n dX12_shift_123 rfl), List.forall_mem_cons.mpr ⟨
  (gs_imul dX12_shift_124), List.forall_mem_cons.mpr ⟨
  (gs_iload_n dX12_shift_125 rfl), List.forall_mem_cons.mpr ⟨
  (gs_iadd dX12_shift_126), List.forall_mem_cons.mpr ⟨
  (gs_iload dX12_shift_127), List.forall_mem_cons.mpr ⟨
  (gs_iadd dX12_shift_129), List.forall_mem_cons.mpr ⟨
  (gs_laload dX12_shift_130), List.forall_mem_cons.mpr ⟨
  (gs_lastore dX12_shift_131), List.forall_mem_cons.mpr ⟨
  (gs_iinc dX12_shift_132), List.forall_mem_cons.mpr ⟨
  (gs_goto dX12_shift_135 rfl), List.forall_mem_cons.mpr ⟨
  (gs_iconst dX12_shift_138 rfl), List.forall_mem_cons.mpr ⟨
  (gs_istore dX12_shift_139), List.forall_mem_cons.mpr ⟨
  (gs_iload dX12_shift_141), List.forall_mem_cons.mpr ⟨
  (gs_iload dX12_shift_143), List.forall_mem_cons.mpr ⟨
  (gs_icmp_ge dX12_shift_145 rfl), List.forall_mem_cons.mpr ⟨
  (gs_aload_n dX12_shift_148 rfl), List.forall_mem_cons.mpr ⟨
  (gs_gf (ref := "GriefCranesModel") dX12_shift_149 (gx_mem 1074 (by decide +kernel) (by decide +kernel)) (Or.inl rfl) gf_12_77), List.forall_mem_cons.mpr ⟨
  (gs_bipush dX12_shift_152 rfl), List.forall_mem_cons.mpr ⟨
  (gs_iload_n dX12_shift_154 rfl), List.forall_mem_cons.mpr ⟨
  (gs_imul dX12_shift_155), List.forall_mem_cons.mpr ⟨
  (gs_iload dX12_shift_156), List.forall_mem_cons.mpr ⟨
  (gs_iadd dX12_shift_158), List.forall_mem_cons.mpr ⟨
  (gs_iload dX12_shift_159), List.forall_mem_cons.mpr ⟨
  (gs_iadd dX12_shift_161), List.forall_mem_cons.mpr ⟨
  (gs_aload_n dX12_shift_162 rfl), List.forall_mem_cons.mpr ⟨
  (gs_gf (ref := "GriefCranesModel") dX12_shift_163 (gx_mem 1075 (by decide +kernel) (by decide +kernel)) (Or.inl rfl) gf_12_78), List.forall_mem_cons.mpr ⟨
  (gs_iload dX12_shift_166), List.forall_mem_cons.mpr ⟨
  (gs_laload dX12_shift_168), fun _ h => absurd h List.not_mem_nil⟩⟩⟩⟩⟩⟩⟩⟩⟩⟩⟩⟩⟩⟩⟩⟩⟩⟩⟩⟩⟩⟩⟩⟩⟩⟩⟩⟩⟩⟩⟩⟩
set_option maxRecDepth 20000 in
theorem kt_X12_shift_3 (g : gx_T) : ∀ q ∈ k_X12_shift_3, gx_E g gc_md RX12 cX12_shift 7 (some .int) "shift" q.1 q.2 := List.forall_mem_cons.mpr ⟨(gs_lastore dX12_shift_169), List.forall_mem_cons.mpr ⟨
  (gs_iinc dX12_shift_170), List.forall_mem_cons.mpr ⟨
  (gs_goto dX12_shift_173 rfl), List.forall_mem_cons.mpr ⟨
  (gs_iload dX12_shift_176), List.forall_mem_cons.mpr ⟨
  (gs_ri dX12_shift_178), fun _ h => absurd h List.not_mem_nil⟩⟩⟩⟩⟩
theorem kt_X12_shift (g : gx_T) : ∀ q ∈ k_X12_shift, gx_E g gc_md RX12 cX12_shift 7 (some .int) "shift" q.1 q.2 := List.forall_mem_append.mpr ⟨kt_X12_shift_0 g, List.forall_mem_append.mpr ⟨kt_X12_shift_1 g, List.forall_mem_append.mpr ⟨kt_X12_shift_2 g, kt_X12_shift_3 g⟩⟩⟩
set_option maxRecDepth 20000 in
theorem dJ0_length_8abf5_0 : decode cJ0_length_8abf5 0 = .ok (.aload_n 0, 1) := by decide +kernel
set_option maxRecDepth 20000 in
theorem dJ0_length_8abf5_1 : decode cJ0_length_8abf5 1 = .ok (.getfield 9, 3) := by decide +kernel
set_option maxRecDepth 20000 in
theorem dJ0_length_8abf5_4 : decode cJ0_length_8abf5 4 = .ok (.arraylength, 1) := by decide +kernel
set_option maxRecDepth 20000 in
theorem dJ0_length_8abf5_5 : decode cJ0_length_8abf5 5 = .ok (.aload_n 0, 1) := by decide +kernel
set_option maxRecDepth 20000 in
theorem dJ0_length_8abf5_6 : decode cJ0_length_8abf5 6 = .ok (.invokevirtual 335, 3) := by decide +kernel
set_option maxRecDepth 20000 in
theorem dJ0_length_8abf5_9 : decode cJ0_length_8abf5 9 = .ok (.ishr, 1) := by decide +kernel
set_option maxRecDepth 20000 in
theorem dJ0_length_8abf5_10 : decode cJ0_length_8abf5 10 = .ok (.ireturn, 1) := by decide +kernel
set_option maxRecDepth 20000 in
theorem kt_J0_length_8abf5_0 (g : gx_T) : ∀ q ∈ k_J0_length_8abf5_0, gx_E g gc_md RJ0 cJ0_length_8abf5 1 (some .int) "length" q.1 q.2 := List.forall_mem_cons.mpr ⟨(gs_aload_n dJ0_length_8abf5_0 rfl), List.forall_mem_cons.mpr ⟨
  (gs_txv dJ0_length_8abf5_1 (gx_mem 1634 (by decide +kernel) (by decide +kernel))), List.forall_mem_cons.mpr ⟨
  (gs_txl dJ0_length_8abf5_4), List.forall_mem_cons.mpr ⟨
  (gs_aload_n dJ0_length_8abf5_5 rfl), List.forall_mem_cons.mpr ⟨
  (gs_ct dJ0_length_8abf5_6 (md_208) rfl (List.forall_mem_cons.mpr ⟨gx_mem 603 (by decide +kernel) (by decide +kernel), List.forall_mem_cons.mpr ⟨gx_mem 604 (by decide +kernel) (by decide +kernel), List.forall_mem_cons.mpr ⟨gx_mem 605 (by decide +kernel) (by decide +kernel), List.forall_mem_cons.mpr ⟨gx_mem 99 (by decide +kernel) (by decide +kernel), List.forall_mem_cons.mpr ⟨cw_606, fun _ h => absurd h List.not_mem_nil⟩⟩⟩⟩⟩) (by decide +kernel) (by decide)), List.forall_mem_cons.mpr ⟨
  (gs_ishr dJ0_length_8abf5_9), List.forall_mem_cons.mpr ⟨
  (gs_ri dJ0_length_8abf5_10), fun _ h => absurd h List.not_mem_nil⟩⟩⟩⟩⟩⟩⟩
theorem kt_J0_length_8abf5 (g : gx_T) : ∀ q ∈ k_J0_length_8abf5, gx_E g gc_md RJ0 cJ0_length_8abf5 1 (some .int) "length" q.1 q.2 := kt_J0_length_8abf5_0 g
set_option maxRecDepth 20000 in
theorem dJ0_charAt_5068e_0 : decode cJ0_charAt_5068e 0 = .ok (.aload_n 0, 1) := by decide +kernel
set_option maxRecDepth 20000 in
theorem dJ0_charAt_5068e_1 : decode cJ0_charAt_5068e 1 = .ok (.invokevirtual 492, 3) := by decide +kernel
set_option maxRecDepth 20000 in
theorem dJ0_charAt_5068e_4 : decode cJ0_charAt_5068e 4 = .ok (.ifCond .eq 12, 3) := by decide +kernel
set_option maxRecDepth 20000 in
theorem dJ0_charAt_5068e_7 : decode cJ0_charAt_5068e 7 = .ok (.aload_n 0, 1) := by decide +kernel
set_option maxRecDepth 20000 in
theorem dJ0_charAt_5068e_8 : decode cJ0_charAt_5068e 8 = .ok (.getfield 9, 3) := by decide +kernel
set_option maxRecDepth 20000 in
theorem dJ0_charAt_5068e_11 : decode cJ0_charAt_5068e 11 = .ok (.iload_n 1, 1) := by decide +kernel
set_option maxRecDepth 20000 in
theorem dJ0_charAt_5068e_12 : decode cJ0_charAt_5068e 12 = .ok (.invokestatic 495, 3) := by decide +kernel
set_option maxRecDepth 20000 in
theorem dJ0_charAt_5068e_15 : decode cJ0_charAt_5068e 15 = .ok (.ireturn, 1) := by decide +kernel
set_option maxRecDepth 20000 in
theorem dJ0_charAt_5068e_16 : decode cJ0_charAt_5068e 16 = .ok (.aload_n 0, 1) := by decide +kernel
set_option maxRecDepth 20000 in
theorem dJ0_charAt_5068e_17 : decode cJ0_charAt_5068e 17 = .ok (.getfield 9, 3) := by decide +kernel
set_option maxRecDepth 20000 in
theorem dJ0_charAt_5068e_20 : decode cJ0_charAt_5068e 20 = .ok (.iload_n 1, 1) := by decide +kernel
set_option maxRecDepth 20000 in
theorem dJ0_charAt_5068e_24 : decode cJ0_charAt_5068e 24 = .ok (.ireturn, 1) := by decide +kernel
set_option maxRecDepth 20000 in
theorem kt_J0_charAt_5068e_0 (g : gx_T) : ∀ q ∈ k_J0_charAt_5068e_0, gx_E g gc_md RJ0 cJ0_charAt_5068e 2 (some .char) "charAt" q.1 q.2 := List.forall_mem_cons.mpr ⟨(gs_aload_n dJ0_charAt_5068e_0 rfl), List.forall_mem_cons.mpr ⟨
  (gs_ct dJ0_charAt_5068e_1 (md_209) rfl (List.forall_mem_cons.mpr ⟨gx_mem 613 (by decide +kernel) (by decide +kernel), List.forall_mem_cons.mpr ⟨gx_mem 614 (by decide +kernel) (by decide +kernel), List.forall_mem_cons.mpr ⟨gx_mem 615 (by decide +kernel) (by decide +kernel), List.forall_mem_cons.mpr ⟨gx_mem 99 (by decide +kernel) (by decide +kernel), List.forall_mem_cons.mpr ⟨cw_616, fun _ h => absurd h List.not_mem_nil⟩⟩⟩⟩⟩) (by decide +kernel) (by decide)), List.forall_mem_cons.mpr ⟨
  (gs_if_eq dJ0_charAt_5068e_4 rfl), List.forall_mem_cons.mpr ⟨
  (gs_aload_n dJ0_charAt_5068e_7 rfl), List.forall_mem_cons.mpr ⟨
  (gs_txv dJ0_charAt_5068e_8 (gx_mem 1634 (by decide +kernel) (by decide +kernel))), List.forall_mem_cons.mpr ⟨
  (gs_iload_n dJ0_charAt_5068e_11 rfl), List.forall_mem_cons.mpr ⟨
  (gs_cs dJ0_charAt_5068e_12 (md_211) (List.forall_mem_cons.mpr ⟨gx_mem 617 (by decide +kernel) (by decide +kernel), List.forall_mem_cons.mpr ⟨gx_mem 618 (by decide +kernel) (by decide +kernel), List.forall_mem_cons.mpr ⟨gx_mem 100 (by decide +kernel) (by decide +kernel), List.forall_mem_cons.mpr ⟨cw_619, fun _ h => absurd h List.not_mem_nil⟩⟩⟩⟩) (by decide +kernel) (by decide)), List.forall_mem_cons.mpr ⟨
  (gs_rn dJ0_charAt_5068e_15 (by decide)), List.forall_mem_cons.mpr ⟨
  (gs_aload_n dJ0_charAt_5068e_16 rfl), List.forall_mem_cons.mpr ⟨
  (gs_txv dJ0_charAt_5068e_17 (gx_mem 1634 (by decide +kernel) (by decide +kernel))), List.forall_mem_cons.mpr ⟨
  (gs_iload_n dJ0_charAt_5068e_20 rfl), List.forall_mem_cons.mpr ⟨
  (gs_rn dJ0_charAt_5068e_24 (by decide)), fun _ h => absurd h List.not_mem_nil⟩⟩⟩⟩⟩⟩⟩⟩⟩⟩⟩⟩
theorem kt_J0_charAt_5068e (g : gx_T) : ∀ q ∈ k_J0_charAt_5068e, gx_E g gc_md RJ0 cJ0_charAt_5068e 2 (some .char) "charAt" q.1 q.2 := kt_J0_charAt_5068e_0 g
set_option maxRecDepth 20000 in
theorem dJ0_indexOf_0f7a4_0 : decode cJ0_indexOf_0f7a4 0 = .ok (.aload_n 0, 1) := by decide +kernel
set_option maxRecDepth 20000 in
theorem dJ0_indexOf_0f7a4_1 : decode cJ0_indexOf_0f7a4 1 = .ok (.iload_n 1, 1) := by decide +kernel
set_option maxRecDepth 20000 in
theorem dJ0_indexOf_0f7a4_2 : decode cJ0_indexOf_0f7a4 2 = .ok (.iconst 0, 1) := by decide +kernel
set_option maxRecDepth 20000 in
theorem dJ0_indexOf_0f7a4_3 : decode cJ0_indexOf_0f7a4 3 = .ok (.invokevirtual 633, 3) := by decide +kernel
set_option maxRecDepth 20000 in
theorem dJ0_indexOf_0f7a4_6 : decode cJ0_indexOf_0f7a4 6 = .ok (.ireturn, 1) := by decide +kernel
set_option maxRecDepth 20000 in
theorem kt_J0_indexOf_0f7a4_0 (g : gx_T) : ∀ q ∈ k_J0_indexOf_0f7a4_0, gx_E g gc_md RJ0 cJ0_indexOf_0f7a4 2 (some .int) "indexOf" q.1 q.2 := List.forall_mem_cons.mpr ⟨(gs_aload_n dJ0_indexOf_0f7a4_0 rfl), List.forall_mem_cons.mpr ⟨
  (gs_iload_n dJ0_indexOf_0f7a4_1 rfl), List.forall_mem_cons.mpr ⟨
  (gs_iconst dJ0_indexOf_0f7a4_2 rfl), List.forall_mem_cons.mpr ⟨
  (gs_ct dJ0_indexOf_0f7a4_3 (md_207) rfl (List.forall_mem_cons.mpr ⟨gx_mem 677 (by decide +kernel) (by decide +kernel), List.forall_mem_cons.mpr ⟨gx_mem 678 (by decide +kernel) (by decide +kernel), List.forall_mem_cons.mpr ⟨gx_mem 679 (by decide +kernel) (by decide +kernel), List.forall_mem_cons.mpr ⟨gx_mem 99 (by decide +kernel) (by decide +kernel), List.forall_mem_cons.mpr ⟨cw_680, fun _ h => absurd h List.not_mem_nil⟩⟩⟩⟩⟩) (by decide +kernel) (by decide)), List.forall_mem_cons.mpr ⟨
  (gs_ri dJ0_indexOf_0f7a4_6), fun _ h => absurd h List.not_mem_nil⟩⟩⟩⟩⟩
theorem kt_J0_indexOf_0f7a4 (g : gx_T) : ∀ q ∈ k_J0_indexOf_0f7a4, gx_E g gc_md RJ0 cJ0_indexOf_0f7a4 2 (some .int) "indexOf" q.1 q.2 := kt_J0_indexOf_0f7a4_0 g
set_option maxRecDepth 20000 in
theorem dJ0_indexOf_7cf53_0 : decode cJ0_indexOf_7cf53 0 = .ok (.aload_n 0, 1) := by decide +kernel
set_option maxRecDepth 20000 in
theorem dJ0_indexOf_7cf53_1 : decode cJ0_indexOf_7cf53 1 = .ok (.invokevirtual 492, 3) := by decide +kernel
set_option maxRecDepth 20000 in
theorem dJ0_indexOf_7cf53_4 : decode cJ0_indexOf_7cf53 4 = .ok (.ifCond .eq 19, 3) := by decide +kernel
set_option maxRecDepth 20000 in
theorem dJ0_indexOf_7cf53_7 : decode cJ0_indexOf_7cf53 7 = .ok (.aload_n 0, 1) := by decide +kernel
set_option maxRecDepth 20000 in
theorem dJ0_indexOf_7cf53_8 : decode cJ0_indexOf_7cf53 8 = .ok (.getfield 9, 3) := by decide +kernel
set_option maxRecDepth 20000 in
theorem dJ0_indexOf_7cf53_11 : decode cJ0_indexOf_7cf53 11 = .ok (.iload_n 1, 1) := by decide +kernel
set_option maxRecDepth 20000 in
theorem dJ0_indexOf_7cf53_12 : decode cJ0_indexOf_7cf53 12 = .ok (.iload_n 2, 1) := by decide +kernel
set_option maxRecDepth 20000 in
theorem dJ0_indexOf_7cf53_13 : decode cJ0_indexOf_7cf53 13 = .ok (.aload_n 0, 1) := by decide +kernel
set_option maxRecDepth 20000 in
theorem dJ0_indexOf_7cf53_14 : decode cJ0_indexOf_7cf53 14 = .ok (.invokevirtual 505, 3) := by decide +kernel
set_option maxRecDepth 20000 in
theorem dJ0_indexOf_7cf53_17 : decode cJ0_indexOf_7cf53 17 = .ok (.invokestatic 637, 3) := by decide +kernel
set_option maxRecDepth 20000 in
theorem dJ0_indexOf_7cf53_20 : decode cJ0_indexOf_7cf53 20 = .ok (.goto 16, 3) := by decide +kernel
set_option maxRecDepth 20000 in
theorem dJ0_indexOf_7cf53_23 : decode cJ0_indexOf_7cf53 23 = .ok (.aload_n 0, 1) := by decide +kernel
set_option maxRecDepth 20000 in
theorem dJ0_indexOf_7cf53_24 : decode cJ0_indexOf_7cf53 24 = .ok (.getfield 9, 3) := by decide +kernel
set_option maxRecDepth 20000 in
theorem dJ0_indexOf_7cf53_27 : decode cJ0_indexOf_7cf53 27 = .ok (.iload_n 1, 1) := by decide +kernel
set_option maxRecDepth 20000 in
theorem dJ0_indexOf_7cf53_28 : decode cJ0_indexOf_7cf53 28 = .ok (.iload_n 2, 1) := by decide +kernel
set_option maxRecDepth 20000 in
theorem dJ0_indexOf_7cf53_29 : decode cJ0_indexOf_7cf53 29 = .ok (.aload_n 0, 1) := by decide +kernel
set_option maxRecDepth 20000 in
theorem dJ0_indexOf_7cf53_30 : decode cJ0_indexOf_7cf53 30 = .ok (.invokevirtual 505, 3) := by decide +kernel
set_option maxRecDepth 20000 in
theorem dJ0_indexOf_7cf53_36 : decode cJ0_indexOf_7cf53 36 = .ok (.ireturn, 1) := by decide +kernel
set_option maxRecDepth 20000 in
theorem kt_J0_indexOf_7cf53_0 (g : gx_T) : ∀ q ∈ k_J0_indexOf_7cf53_0, gx_E g gc_md RJ0 cJ0_indexOf_7cf53 3 (some .int) "indexOf" q.1 q.2 := List.forall_mem_cons.mpr ⟨(gs_aload_n dJ0_indexOf_7cf53_0 rfl), List.forall_mem_cons.mpr ⟨
  (gs_ct dJ0_indexOf_7cf53_1 (md_209) rfl (List.forall_mem_cons.mpr ⟨gx_mem 613 (by decide +kernel) (by decide +kernel), List.forall_mem_cons.mpr ⟨gx_mem 614 (by decide +kernel) (by decide +kernel), List.forall_mem_cons.mpr ⟨gx_mem 615 (by decide +kernel) (by decide +kernel), List.forall_mem_cons.mpr ⟨gx_mem 99 (by decide +kernel) (by decide +kernel), List.forall_mem_cons.mpr ⟨cw_616, fun _ h => absurd h List.not_mem_nil⟩⟩⟩⟩⟩) (by decide +kernel) (by decide)), List.forall_mem_cons.mpr ⟨
  (gs_if_eq dJ0_indexOf_7cf53_4 rfl), List.forall_mem_cons.mpr ⟨
  (gs_aload_n dJ0_indexOf_7cf53_7 rfl), List.forall_mem_cons.mpr ⟨
  (gs_txv dJ0_indexOf_7cf53_8 (gx_mem 1634 (by decide +kernel) (by decide +kernel))), List.forall_mem_cons.mpr ⟨
  (gs_iload_n dJ0_indexOf_7cf53_11 rfl), List.forall_mem_cons.mpr ⟨
  (gs_iload_n dJ0_indexOf_7cf53_12 rfl), List.forall_mem_cons.mpr ⟨
  (gs_aload_n dJ0_indexOf_7cf53_13 rfl), List.forall_mem_cons.mpr ⟨
  (gs_ct dJ0_indexOf_7cf53_14 (md_204) rfl (List.forall_mem_cons.mpr ⟨gx_mem 681 (by decide +kernel) (by decide +kernel), List.forall_mem_cons.mpr ⟨gx_mem 600 (by decide +kernel) (by decide +kernel), List.forall_mem_cons.mpr ⟨gx_mem 601 (by decide +kernel) (by decide +kernel), List.forall_mem_cons.mpr ⟨gx_mem 99 (by decide +kernel) (by decide +kernel), List.forall_mem_cons.mpr ⟨cw_602, fun _ h => absurd h List.not_mem_nil⟩⟩⟩⟩⟩) (by decide +kernel) (by decide)), List.forall_mem_cons.mpr ⟨
  (gs_cs dJ0_indexOf_7cf53_17 (md_213) (List.forall_mem_cons.mpr ⟨gx_mem 682 (by decide +kernel) (by decide +kernel), List.forall_mem_cons.mpr ⟨gx_mem 683 (by decide +kernel) (by decide +kernel), List.forall_mem_cons.mpr ⟨gx_mem 100 (by decide +kernel) (by decide +kernel), List.forall_mem_cons.mpr ⟨cw_684, fun _ h => absurd h List.not_mem_nil⟩⟩⟩⟩) (by decide +kernel) (by decide)), List.forall_mem_cons.mpr ⟨
  (gs_goto dJ0_indexOf_7cf53_20 rfl), List.forall_mem_cons.mpr ⟨
  (gs_aload_n dJ0_indexOf_7cf53_23 rfl), List.forall_mem_cons.mpr ⟨
  (gs_txv dJ0_indexOf_7cf53_24 (gx_mem 1634 (by decide +kernel) (by decide +kernel))), List.forall_mem_cons.mpr ⟨
  (gs_iload_n dJ0_indexOf_7cf53_27 rfl), List.forall_mem_cons.mpr ⟨
  (gs_iload_n dJ0_indexOf_7cf53_28 rfl), List.forall_mem_cons.mpr ⟨
  (gs_aload_n dJ0_indexOf_7cf53_29 rfl), List.forall_mem_cons.mpr ⟨
  (gs_ct dJ0_indexOf_7cf53_30 (md_204) rfl (List.forall_mem_cons.mpr ⟨gx_mem 681 (by decide +kernel) (by decide +kernel), List.forall_mem_cons.mpr ⟨gx_mem 600 (by decide +kernel) (by decide +kernel), List.forall_mem_cons.mpr ⟨gx_mem 601 (by decide +kernel) (by decide +kernel), List.forall_mem_cons.mpr ⟨gx_mem 99 (by decide +kernel) (by decide +kernel), List.forall_mem_cons.mpr ⟨cw_602, fun _ h => absurd h List.not_mem_nil⟩⟩⟩⟩⟩) (by decide +kernel) (by decide)), List.forall_mem_cons.mpr ⟨
  (gs_ri dJ0_indexOf_7cf53_36), fun _ h => absurd h List.not_mem_nil⟩⟩⟩⟩⟩⟩⟩⟩⟩⟩⟩⟩⟩⟩⟩⟩⟩⟩
theorem kt_J0_indexOf_7cf53 (g : gx_T) : ∀ q ∈ k_J0_indexOf_7cf53, gx_E g gc_md RJ0 cJ0_indexOf_7cf53 3 (some .int) "indexOf" q.1 q.2 := kt_J0_indexOf_7cf53_0 g
set_option maxRecDepth 20000 in
theorem dJ0_coder_7d493_0 : decode cJ0_coder_7d493 0 = .ok (.getstatic 38, 3) := by decide +kernel
set_option maxRecDepth 20000 in
theorem dJ0_coder_7d493_3 : decode cJ0_coder_7d493 3 = .ok (.ifCond .eq 10, 3) := by decide +kernel
set_option maxRecDepth 20000 in
theorem dJ0_coder_7d493_6 : decode cJ0_coder_7d493 6 = .ok (.aload_n 0, 1) := by decide +kernel
set_option maxRecDepth 20000 in
theorem dJ0_coder_7d493_7 : decode cJ0_coder_7d493 7 = .ok (.getfield 15, 3) := by decide +kernel
set_option maxRecDepth 20000 in
theorem dJ0_coder_7d493_10 : decode cJ0_coder_7d493 10 = .ok (.goto 4, 3) := by decide +kernel
set_option maxRecDepth 20000 in
theorem dJ0_coder_7d493_13 : decode cJ0_coder_7d493 13 = .ok (.iconst 1, 1) := by decide +kernel
set_option maxRecDepth 20000 in
theorem dJ0_coder_7d493_14 : decode cJ0_coder_7d493 14 = .ok (.ireturn, 1) := by decide +kernel
set_option maxRecDepth 20000 in
theorem kt_J0_coder_7d493_0 (g : gx_T) : ∀ q ∈ k_J0_coder_7d493_0, gx_E g gc_md RJ0 cJ0_coder_7d493 1 (some .byte) "coder" q.1 q.2 := List.forall_mem_cons.mpr ⟨(gs_getsC dJ0_coder_7d493_0 (gx_mem 607 (by decide +kernel) (by decide +kernel))), List.forall_mem_cons.mpr ⟨
  (gs_if_eq dJ0_coder_7d493_3 rfl), List.forall_mem_cons.mpr ⟨
  (gs_aload_n dJ0_coder_7d493_6 rfl), List.forall_mem_cons.mpr ⟨
  (gs_txc dJ0_coder_7d493_7 (gx_mem 1635 (by decide +kernel) (by decide +kernel))), List.forall_mem_cons.mpr ⟨
  (gs_goto dJ0_coder_7d493_10 rfl), List.forall_mem_cons.mpr ⟨
  (gs_iconst dJ0_coder_7d493_13 rfl), List.forall_mem_cons.mpr ⟨
  (gs_rn dJ0_coder_7d493_14 (by decide)), fun _ h => absurd h List.not_mem_nil⟩⟩⟩⟩⟩⟩⟩
theorem kt_J0_coder_7d493 (g : gx_T) : ∀ q ∈ k_J0_coder_7d493, gx_E g gc_md RJ0 cJ0_coder_7d493 1 (some .byte) "coder" q.1 q.2 := kt_J0_coder_7d493_0 g
set_option maxRecDepth 20000 in
theorem dJ0_isLatin1_aae02_0 : decode cJ0_isLatin1_aae02 0 = .ok (.getstatic 38, 3) := by decide +kernel
set_option maxRecDepth 20000 in
theorem dJ0_isLatin1_aae02_3 : decode cJ0_isLatin1_aae02 3 = .ok (.ifCond .eq 14, 3) := by decide +kernel
set_option maxRecDepth 20000 in
theorem dJ0_isLatin1_aae02_6 : decode cJ0_isLatin1_aae02 6 = .ok (.aload_n 0, 1) := by decide +kernel
set_option maxRecDepth 20000 in
theorem dJ0_isLatin1_aae02_7 : decode cJ0_isLatin1_aae02 7 = .ok (.getfield 15, 3) := by decide +kernel
set_option maxRecDepth 20000 in
theorem dJ0_isLatin1_aae02_10 : decode cJ0_isLatin1_aae02 10 = .ok (.ifCond .ne 7, 3) := by decide +kernel
set_option maxRecDepth 20000 in
theorem dJ0_isLatin1_aae02_13 : decode cJ0_isLatin1_aae02 13 = .ok (.iconst 1, 1) := by decide +kernel
set_option maxRecDepth 20000 in
theorem dJ0_isLatin1_aae02_14 : decode cJ0_isLatin1_aae02 14 = .ok (.goto 4, 3) := by decide +kernel
set_option maxRecDepth 20000 in
theorem dJ0_isLatin1_aae02_17 : decode cJ0_isLatin1_aae02 17 = .ok (.iconst 0, 1) := by decide +kernel
set_option maxRecDepth 20000 in
theorem dJ0_isLatin1_aae02_18 : decode cJ0_isLatin1_aae02 18 = .ok (.ireturn, 1) := by decide +kernel
set_option maxRecDepth 20000 in
theorem kt_J0_isLatin1_aae02_0 (g : gx_T) : ∀ q ∈ k_J0_isLatin1_aae02_0, gx_E g gc_md RJ0 cJ0_isLatin1_aae02 1 (some .boolean) "isLatin1" q.1 q.2 := List.forall_mem_cons.mpr ⟨(gs_getsC dJ0_isLatin1_aae02_0 (gx_mem 607 (by decide +kernel) (by decide +kernel))), List.forall_mem_cons.mpr ⟨
  (gs_if_eq dJ0_isLatin1_aae02_3 rfl), List.forall_mem_cons.mpr ⟨
  (gs_aload_n dJ0_isLatin1_aae02_6 rfl), List.forall_mem_cons.mpr ⟨
  (gs_txc dJ0_isLatin1_aae02_7 (gx_mem 1635 (by decide +kernel) (by decide +kernel))), List.forall_mem_cons.mpr ⟨
  (gs_if_ne dJ0_isLatin1_aae02_10 rfl), List.forall_mem_cons.mpr ⟨
  (gs_iconst dJ0_isLatin1_aae02_13 rfl), List.forall_mem_cons.mpr ⟨
  (gs_goto dJ0_isLatin1_aae02_14 rfl), List.forall_mem_cons.mpr ⟨
  (gs_iconst dJ0_isLatin1_aae02_17 rfl), List.forall_mem_cons.mpr ⟨
  (gs_rn dJ0_isLatin1_aae02_18 (by decide)), fun _ h => absurd h List.not_mem_nil⟩⟩⟩⟩⟩⟩⟩⟩⟩
theorem kt_J0_isLatin1_aae02 (g : gx_T) : ∀ q ∈ k_J0_isLatin1_aae02, gx_E g gc_md RJ0 cJ0_isLatin1_aae02 1 (some .boolean) "isLatin1" q.1 q.2 := kt_J0_isLatin1_aae02_0 g
set_option maxRecDepth 20000 in
theorem dJ0_checkIndex_df160_0 : decode cJ0_checkIndex_df160 0 = .ok (.iload_n 0, 1) := by decide +kernel
set_option maxRecDepth 20000 in
theorem dJ0_checkIndex_df160_1 : decode cJ0_checkIndex_df160 1 = .ok (.iload_n 1, 1) := by decide +kernel
set_option maxRecDepth 20000 in
theorem dJ0_checkIndex_df160_2 : decode cJ0_checkIndex_df160 2 = .ok (.getstatic 1053, 3) := by decide +kernel
set_option maxRecDepth 20000 in
theorem dJ0_checkIndex_df160_5 : decode cJ0_checkIndex_df160 5 = .ok (.invokestatic 1059, 3) := by decide +kernel
set_option maxRecDepth 20000 in
theorem dJ0_checkIndex_df160_8 : decode cJ0_checkIndex_df160 8 = .ok (.pop, 1) := by decide +kernel
set_option maxRecDepth 20000 in
theorem dJ0_checkIndex_df160_9 : decode cJ0_checkIndex_df160 9 = .ok (.return_, 1) := by decide +kernel
set_option maxRecDepth 20000 in
theorem kt_J0_checkIndex_df160_0 (g : gx_T) : ∀ q ∈ k_J0_checkIndex_df160_0, gx_E g gc_md RJ0 cJ0_checkIndex_df160 2 (none) "checkIndex" q.1 q.2 := List.forall_mem_cons.mpr ⟨(gs_iload_n dJ0_checkIndex_df160_0 rfl), List.forall_mem_cons.mpr ⟨
  (gs_iload_n dJ0_checkIndex_df160_1 rfl), List.forall_mem_cons.mpr ⟨
  (gs_getsF dJ0_checkIndex_df160_2 (gx_mem 623 (by decide +kernel) (by decide +kernel))), List.forall_mem_cons.mpr ⟨
  (gs_cs dJ0_checkIndex_df160_5 (md_215) (List.forall_mem_cons.mpr ⟨gx_mem 625 (by decide +kernel) (by decide +kernel), List.forall_mem_cons.mpr ⟨gx_mem 626 (by decide +kernel) (by decide +kernel), List.forall_mem_cons.mpr ⟨gx_mem 101 (by decide +kernel) (by decide +kernel), List.forall_mem_cons.mpr ⟨cw_627, fun _ h => absurd h List.not_mem_nil⟩⟩⟩⟩) (by decide +kernel) (by decide)), List.forall_mem_cons.mpr ⟨
  (gs_pop dJ0_checkIndex_df160_8), List.forall_mem_cons.mpr ⟨
  (gs_rv dJ0_checkIndex_df160_9), fun _ h => absurd h List.not_mem_nil⟩⟩⟩⟩⟩⟩
theorem kt_J0_checkIndex_df160 (g : gx_T) : ∀ q ∈ k_J0_checkIndex_df160, gx_E g gc_md RJ0 cJ0_checkIndex_df160 2 (none) "checkIndex" q.1 q.2 := kt_J0_checkIndex_df160_0 g
set_option maxRecDepth 20000 in
theorem dJ1_charAt_3b067_0 : decode cJ1_charAt_3b067 0 = .ok (.iload_n 1, 1) := by decide +kernel
set_option maxRecDepth 20000 in
theorem dJ1_charAt_3b067_1 : decode cJ1_charAt_3b067 1 = .ok (.aload_n 0, 1) := by decide +kernel
set_option maxRecDepth 20000 in
theorem dJ1_charAt_3b067_2 : decode cJ1_charAt_3b067 2 = .ok (.arraylength, 1) := by decide +kernel
set_option maxRecDepth 20000 in
theorem dJ1_charAt_3b067_3 : decode cJ1_charAt_3b067 3 = .ok (.invokestatic 9, 3) := by decide +kernel
set_option maxRecDepth 20000 in
theorem dJ1_charAt_3b067_6 : decode cJ1_charAt_3b067 6 = .ok (.aload_n 0, 1) := by decide +kernel
set_option maxRecDepth 20000 in
theorem dJ1_charAt_3b067_7 : decode cJ1_charAt_3b067 7 = .ok (.iload_n 1, 1) := by decide +kernel
set_option maxRecDepth 20000 in
theorem dJ1_charAt_3b067_8 : decode cJ1_charAt_3b067 8 = .ok (.baload, 1) := by decide +kernel
set_option maxRecDepth 20000 in
theorem dJ1_charAt_3b067_9 : decode cJ1_charAt_3b067 9 = .ok (.sipush 255, 3) := by decide +kernel
set_option maxRecDepth 20000 in
theorem dJ1_charAt_3b067_12 : decode cJ1_charAt_3b067 12 = .ok (.iand, 1) := by decide +kernel
set_option maxRecDepth 20000 in
theorem dJ1_charAt_3b067_13 : decode cJ1_charAt_3b067 13 = .ok (.i2c, 1) := by decide +kernel
set_option maxRecDepth 20000 in
theorem dJ1_charAt_3b067_14 : decode cJ1_charAt_3b067 14 = .ok (.ireturn, 1) := by decide +kernel
set_option maxRecDepth 20000 in
theorem kt_J1_charAt_3b067_0 (g : gx_T) : ∀ q ∈ k_J1_charAt_3b067_0, gx_E g gc_md RJ1 cJ1_charAt_3b067 2 (some .char) "charAt" q.1 q.2 := List.forall_mem_cons.mpr ⟨(gs_iload_n dJ1_charAt_3b067_0 rfl), List.forall_mem_cons.mpr ⟨
  (gs_aload_n dJ1_charAt_3b067_1 rfl), List.forall_mem_cons.mpr ⟨
  (gs_txl dJ1_charAt_3b067_2), List.forall_mem_cons.mpr ⟨
  (gs_cs dJ1_charAt_3b067_3 (md_210) (List.forall_mem_cons.mpr ⟨gx_mem 620 (by decide +kernel) (by decide +kernel), List.forall_mem_cons.mpr ⟨gx_mem 621 (by decide +kernel) (by decide +kernel), List.forall_mem_cons.mpr ⟨gx_mem 99 (by decide +kernel) (by decide +kernel), List.forall_mem_cons.mpr ⟨cw_622, fun _ h => absurd h List.not_mem_nil⟩⟩⟩⟩) (by decide +kernel) (by decide)), List.forall_mem_cons.mpr ⟨
  (gs_aload_n dJ1_charAt_3b067_6 rfl), List.forall_mem_cons.mpr ⟨
  (gs_iload_n dJ1_charAt_3b067_7 rfl), List.forall_mem_cons.mpr ⟨
  (gs_txa dJ1_charAt_3b067_8), List.forall_mem_cons.mpr ⟨
  (gs_sipush dJ1_charAt_3b067_9 rfl), List.forall_mem_cons.mpr ⟨
  (gs_iand dJ1_charAt_3b067_12), List.forall_mem_cons.mpr ⟨
  (gs_i2c dJ1_charAt_3b067_13), List.forall_mem_cons.mpr ⟨
  (gs_rn dJ1_charAt_3b067_14 (by decide)), fun _ h => absurd h List.not_mem_nil⟩⟩⟩⟩⟩⟩⟩⟩⟩⟩⟩
theorem kt_J1_charAt_3b067 (g : gx_T) : ∀ q ∈ k_J1_charAt_3b067, gx_E g gc_md RJ1 cJ1_charAt_3b067 2 (some .char) "charAt" q.1 q.2 := kt_J1_charAt_3b067_0 g
set_option maxRecDepth 20000 in
theorem dJ1_canEncode_9a6ad_0 : decode cJ1_canEncode_9a6ad 0 = .ok (.iload_n 0, 1) := by decide +kernel
set_option maxRecDepth 20000 in
theorem dJ1_canEncode_9a6ad_1 : decode cJ1_canEncode_9a6ad 1 = .ok (.ifCond .lt 14, 3) := by decide +kernel
set_option maxRecDepth 20000 in
theorem dJ1_canEncode_9a6ad_4 : decode cJ1_canEncode_9a6ad 4 = .ok (.iload_n 0, 1) := by decide +kernel
set_option maxRecDepth 20000 in
theorem dJ1_canEncode_9a6ad_5 : decode cJ1_canEncode_9a6ad 5 = .ok (.sipush 255, 3) := by decide +kernel
set_option maxRecDepth 20000 in
theorem dJ1_canEncode_9a6ad_8 : decode cJ1_canEncode_9a6ad 8 = .ok (.if_icmp .gt 7, 3) := by decide +kernel
set_option maxRecDepth 20000 in
theorem dJ1_canEncode_9a6ad_11 : decode cJ1_canEncode_9a6ad 11 = .ok (.iconst 1, 1) := by decide +kernel
set_option maxRecDepth 20000 in
theorem dJ1_canEncode_9a6ad_12 : decode cJ1_canEncode_9a6ad 12 = .ok (.goto 4, 3) := by decide +kernel
set_option maxRecDepth 20000 in
theorem dJ1_canEncode_9a6ad_15 : decode cJ1_canEncode_9a6ad 15 = .ok (.iconst 0, 1) := by decide +kernel
set_option maxRecDepth 20000 in
theorem dJ1_canEncode_9a6ad_16 : decode cJ1_canEncode_9a6ad 16 = .ok (.ireturn, 1) := by decide +kernel
set_option maxRecDepth 20000 in
theorem kt_J1_canEncode_9a6ad_0 (g : gx_T) : ∀ q ∈ k_J1_canEncode_9a6ad_0, gx_E g gc_md RJ1 cJ1_canEncode_9a6ad 1 (some .boolean) "canEncode" q.1 q.2 := List.forall_mem_cons.mpr ⟨(gs_iload_n dJ1_canEncode_9a6ad_0 rfl), List.forall_mem_cons.mpr ⟨
  (gs_if_lt dJ1_canEncode_9a6ad_1 rfl), List.forall_mem_cons.mpr ⟨
  (gs_iload_n dJ1_canEncode_9a6ad_4 rfl), List.forall_mem_cons.mpr ⟨
  (gs_sipush dJ1_canEncode_9a6ad_5 rfl), List.forall_mem_cons.mpr ⟨
  (gs_icmp_gt dJ1_canEncode_9a6ad_8 rfl), List.forall_mem_cons.mpr ⟨
  (gs_iconst dJ1_canEncode_9a6ad_11 rfl), List.forall_mem_cons.mpr ⟨
  (gs_goto dJ1_canEncode_9a6ad_12 rfl), List.forall_mem_cons.mpr ⟨
  (gs_iconst dJ1_canEncode_9a6ad_15 rfl), List.forall_mem_cons.mpr ⟨
  (gs_rn dJ1_canEncode_9a6ad_16 (by decide)), fun _ h => absurd h List.not_mem_nil⟩⟩⟩⟩⟩⟩⟩⟩⟩
theorem kt_J1_canEncode_9a6ad (g : gx_T) : ∀ q ∈ k_J1_canEncode_9a6ad, gx_E g gc_md RJ1 cJ1_canEncode_9a6ad 1 (some .boolean) "canEncode" q.1 q.2 := kt_J1_canEncode_9a6ad_0 g
set_option maxRecDepth 20000 in
theorem dJ1_indexOf_4cfef_0 : decode cJ1_indexOf_4cfef 0 = .ok (.iload_n 1, 1) := by decide +kernel
set_option maxRecDepth 20000 in
theorem dJ1_indexOf_4cfef_1 : decode cJ1_indexOf_4cfef 1 = .ok (.invokestatic 88, 3) := by decide +kernel
set_option maxRecDepth 20000 in
theorem dJ1_indexOf_4cfef_4 : decode cJ1_indexOf_4cfef 4 = .ok (.ifCond .ne 5, 3) := by decide +kernel
set_option maxRecDepth 20000 in
theorem dJ1_indexOf_4cfef_7 : decode cJ1_indexOf_4cfef 7 = .ok (.iconst (-1), 1) := by decide +kernel
set_option maxRecDepth 20000 in
theorem dJ1_indexOf_4cfef_8 : decode cJ1_indexOf_4cfef 8 = .ok (.ireturn, 1) := by decide +kernel
set_option maxRecDepth 20000 in
theorem dJ1_indexOf_4cfef_9 : decode cJ1_indexOf_4cfef 9 = .ok (.iload_n 2, 1) := by decide +kernel
set_option maxRecDepth 20000 in
theorem dJ1_indexOf_4cfef_10 : decode cJ1_indexOf_4cfef 10 = .ok (.iconst 0, 1) := by decide +kernel
set_option maxRecDepth 20000 in
theorem dJ1_indexOf_4cfef_11 : decode cJ1_indexOf_4cfef 11 = .ok (.invokestatic 92, 3) := by decide +kernel
set_option maxRecDepth 20000 in
theorem dJ1_indexOf_4cfef_14 : decode cJ1_indexOf_4cfef 14 = .ok (.istore_n 2, 1) := by decide +kernel
set_option maxRecDepth 20000 in
theorem dJ1_indexOf_4cfef_15 : decode cJ1_indexOf_4cfef 15 = .ok (.iload_n 3, 1) := by decide +kernel
set_option maxRecDepth 20000 in
theorem dJ1_indexOf_4cfef_16 : decode cJ1_indexOf_4cfef 16 = .ok (.aload_n 0, 1) := by decide +kernel
set_option maxRecDepth 20000 in
theorem dJ1_indexOf_4cfef_17 : decode cJ1_indexOf_4cfef 17 = .ok (.arraylength, 1) := by decide +kernel
set_option maxRecDepth 20000 in
theorem dJ1_indexOf_4cfef_18 : decode cJ1_indexOf_4cfef 18 = .ok (.invokestatic 38, 3) := by decide +kernel
set_option maxRecDepth 20000 in
theorem dJ1_indexOf_4cfef_21 : decode cJ1_indexOf_4cfef 21 = .ok (.istore_n 3, 1) := by decide +kernel
set_option maxRecDepth 20000 in
theorem dJ1_indexOf_4cfef_22 : decode cJ1_indexOf_4cfef 22 = .ok (.iload_n 2, 1) := by decide +kernel
set_option maxRecDepth 20000 in
theorem dJ1_indexOf_4cfef_23 : decode cJ1_indexOf_4cfef 23 = .ok (.iload_n 3, 1) := by decide +kernel
set_option maxRecDepth 20000 in
theorem dJ1_indexOf_4cfef_24 : decode cJ1_indexOf_4cfef 24 = .ok (.if_icmp .lt 5, 3) := by decide +kernel
set_option maxRecDepth 20000 in
theorem dJ1_indexOf_4cfef_27 : decode cJ1_indexOf_4cfef 27 = .ok (.iconst (-1), 1) := by decide +kernel
set_option maxRecDepth 20000 in
theorem dJ1_indexOf_4cfef_28 : decode cJ1_indexOf_4cfef 28 = .ok (.ireturn, 1) := by decide +kernel
set_option maxRecDepth 20000 in
theorem dJ1_indexOf_4cfef_29 : decode cJ1_indexOf_4cfef 29 = .ok (.aload_n 0, 1) := by decide +kernel
set_option maxRecDepth 20000 in
theorem dJ1_indexOf_4cfef_30 : decode cJ1_indexOf_4cfef 30 = .ok (.iload_n 1, 1) := by decide +kernel
set_option maxRecDepth 20000 in
theorem dJ1_indexOf_4cfef_31 : decode cJ1_indexOf_4cfef 31 = .ok (.iload_n 2, 1) := by decide +kernel
set_option maxRecDepth 20000 in
theorem dJ1_indexOf_4cfef_32 : decode cJ1_indexOf_4cfef 32 = .ok (.iload_n 3, 1) := by decide +kernel
set_option maxRecDepth 20000 in
theorem dJ1_indexOf_4cfef_33 : decode cJ1_indexOf_4cfef 33 = .ok (.invokestatic 95, 3) := by decide +kernel
set_option maxRecDepth 20000 in
theorem dJ1_indexOf_4cfef_36 : decode cJ1_indexOf_4cfef 36 = .ok (.ireturn, 1) := by decide +kernel
set_option maxRecDepth 20000 in
theorem kt_J1_indexOf_4cfef_0 (g : gx_T) : ∀ q ∈ k_J1_indexOf_4cfef_0, gx_E g gc_md RJ1 cJ1_indexOf_4cfef 4 (some .int) "indexOf" q.1 q.2 := List.forall_mem_cons.mpr ⟨(gs_iload_n dJ1_indexOf_4cfef_0 rfl), List.forall_mem_cons.mpr ⟨
  (gs_cs dJ1_indexOf_4cfef_1 (md_212) (List.forall_mem_cons.mpr ⟨gx_mem 685 (by decide +kernel) (by decide +kernel), List.forall_mem_cons.mpr ⟨gx_mem 686 (by decide +kernel) (by decide +kernel), List.forall_mem_cons.mpr ⟨gx_mem 100 (by decide +kernel) (by decide +kernel), List.forall_mem_cons.mpr ⟨cw_687, fun _ h => absurd h List.not_mem_nil⟩⟩⟩⟩) (by decide +kernel) (by decide)), List.forall_mem_cons.mpr ⟨
  (gs_if_ne dJ1_indexOf_4cfef_4 rfl), List.forall_mem_cons.mpr ⟨
  (gs_iconst dJ1_indexOf_4cfef_7 rfl), List.forall_mem_cons.mpr ⟨
  (gs_ri dJ1_indexOf_4cfef_8), List.forall_mem_cons.mpr ⟨
  (gs_iload_n dJ1_indexOf_4cfef_9 rfl), List.forall_mem_cons.mpr ⟨
  (gs_iconst dJ1_indexOf_4cfef_10 rfl), List.forall_mem_cons.mpr ⟨
  (gs_max dJ1_indexOf_4cfef_11 (List.forall_mem_cons.mpr ⟨gx_mem 688 (by decide +kernel) (by decide +kernel), List.forall_mem_cons.mpr ⟨gx_mem 554 (by decide +kernel) (by decide +kernel), List.forall_mem_cons.mpr ⟨gx_mem 97 (by decide +kernel) (by decide +kernel), List.forall_mem_cons.mpr ⟨cw_555, fun _ h => absurd h List.not_mem_nil⟩⟩⟩⟩)), List.forall_mem_cons.mpr ⟨
  (gs_istore_n dJ1_indexOf_4cfef_14 rfl), List.forall_mem_cons.mpr ⟨
  (gs_iload_n dJ1_indexOf_4cfef_15 rfl), List.forall_mem_cons.mpr ⟨
  (gs_aload_n dJ1_indexOf_4cfef_16 rfl), List.forall_mem_cons.mpr ⟨
  (gs_txl dJ1_indexOf_4cfef_17), List.forall_mem_cons.mpr ⟨
  (gs_min dJ1_indexOf_4cfef_18 (List.forall_mem_cons.mpr ⟨gx_mem 689 (by decide +kernel) (by decide +kernel), List.forall_mem_cons.mpr ⟨gx_mem 484 (by decide +kernel) (by decide +kernel), List.forall_mem_cons.mpr ⟨gx_mem 97 (by decide +kernel) (by decide +kernel), List.forall_mem_cons.mpr ⟨cw_485, fun _ h => absurd h List.not_mem_nil⟩⟩⟩⟩)), List.forall_mem_cons.mpr ⟨
  (gs_istore_n dJ1_indexOf_4cfef_21 rfl), List.forall_mem_cons.mpr ⟨
  (gs_iload_n dJ1_indexOf_4cfef_22 rfl), List.forall_mem_cons.mpr ⟨
  (gs_iload_n dJ1_indexOf_4cfef_23 rfl), List.forall_mem_cons.mpr ⟨
  (gs_icmp_lt dJ1_indexOf_4cfef_24 rfl), List.forall_mem_cons.mpr ⟨
  (gs_iconst dJ1_indexOf_4cfef_27 rfl), List.forall_mem_cons.mpr ⟨
  (gs_ri dJ1_indexOf_4cfef_28), List.forall_mem_cons.mpr ⟨
  (gs_aload_n dJ1_indexOf_4cfef_29 rfl), List.forall_mem_cons.mpr ⟨
  (gs_iload_n dJ1_indexOf_4cfef_30 rfl), List.forall_mem_cons.mpr ⟨
  (gs_iload_n dJ1_indexOf_4cfef_31 rfl), List.forall_mem_cons.mpr ⟨
  (gs_iload_n dJ1_indexOf_4cfef_32 rfl), List.forall_mem_cons.mpr ⟨
  (gs_cs dJ1_indexOf_4cfef_33 (md_214) (List.forall_mem_cons.mpr ⟨gx_mem 690 (by decide +kernel) (by decide +kernel), List.forall_mem_cons.mpr ⟨gx_mem 691 (by decide +kernel) (by decide +kernel), List.forall_mem_cons.mpr ⟨gx_mem 100 (by decide +kernel) (by decide +kernel), List.forall_mem_cons.mpr ⟨cw_692, fun _ h => absurd h List.not_mem_nil⟩⟩⟩⟩) (by decide +kernel) (by decide)), List.forall_mem_cons.mpr ⟨
  (gs_ri dJ1_indexOf_4cfef_36), fun _ h => absurd h List.not_mem_nil⟩⟩⟩⟩⟩⟩⟩⟩⟩⟩⟩⟩⟩⟩⟩⟩⟩⟩⟩⟩⟩⟩⟩⟩⟩
theorem kt_J1_indexOf_4cfef (g : gx_T) : ∀ q ∈ k_J1_indexOf_4cfef, gx_E g gc_md RJ1 cJ1_indexOf_4cfef 4 (some .int) "indexOf" q.1 q.2 := kt_J1_indexOf_4cfef_0 g
