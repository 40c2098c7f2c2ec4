/-! decoded, and each instruction a row -/
set_option maxRecDepth 20000 in
theorem dL_law_0 : decode code 0 = .ok (.new 7, 3) := by decide +kernel
set_option maxRecDepth 20000 in
theorem dL_law_3 : decode code 3 = .ok (.dup, 1) := by decide +kernel
set_option maxRecDepth 20000 in
theorem dL_law_4 : decode code 4 = .ok (.invokespecial 9, 3) := by decide +kernel
set_option maxRecDepth 20000 in
theorem dL_law_7 : decode code 7 = .ok (.astore_n 1, 1) := by decide +kernel
set_option maxRecDepth 20000 in
theorem dL_law_8 : decode code 8 = .ok (.new 10, 3) := by decide +kernel
set_option maxRecDepth 20000 in
theorem dL_law_11 : decode code 11 = .ok (.dup, 1) := by decide +kernel
set_option maxRecDepth 20000 in
theorem dL_law_12 : decode code 12 = .ok (.invokespecial 12, 3) := by decide +kernel
set_option maxRecDepth 20000 in
theorem dL_law_15 : decode code 15 = .ok (.astore_n 2, 1) := by decide +kernel
set_option maxRecDepth 20000 in
theorem dL_law_16 : decode code 16 = .ok (.iconst 0, 1) := by decide +kernel
set_option maxRecDepth 20000 in
theorem dL_law_17 : decode code 17 = .ok (.istore_n 3, 1) := by decide +kernel
set_option maxRecDepth 20000 in
theorem dL_law_18 : decode code 18 = .ok (.iload_n 3, 1) := by decide +kernel
set_option maxRecDepth 20000 in
theorem dL_law_19 : decode code 19 = .ok (.aload_n 0, 1) := by decide +kernel
set_option maxRecDepth 20000 in
theorem dL_law_20 : decode code 20 = .ok (.arraylength, 1) := by decide +kernel
set_option maxRecDepth 20000 in
theorem dL_law_21 : decode code 21 = .ok (.bipush 6, 2) := by decide +kernel
set_option maxRecDepth 20000 in
theorem dL_law_23 : decode code 23 = .ok (.isub, 1) := by decide +kernel
set_option maxRecDepth 20000 in
theorem dL_law_24 : decode code 24 = .ok (.if_icmp .gt 1187, 3) := by decide +kernel
set_option maxRecDepth 20000 in
theorem dL_law_27 : decode code 27 = .ok (.aload_n 0, 1) := by decide +kernel
set_option maxRecDepth 20000 in
theorem dL_law_28 : decode code 28 = .ok (.iload_n 3, 1) := by decide +kernel
set_option maxRecDepth 20000 in
theorem dL_law_29 : decode code 29 = .ok (.iaload, 1) := by decide +kernel
set_option maxRecDepth 20000 in
theorem dL_law_30 : decode code 30 = .ok (.bipush 31, 2) := by decide +kernel
set_option maxRecDepth 20000 in
theorem dL_law_32 : decode code 32 = .ok (.iand, 1) := by decide +kernel
set_option maxRecDepth 20000 in
theorem dL_law_33 : decode code 33 = .ok (.tableswitch 1172 0 31 #[143, 176, 209, 242, 275, 308, 341, 384, 407, 420, 443, 466, 499, 532, 575, 608, 652, 676, 709, 732, 765, 778, 811, 824, 837, 880, 903, 936, 959, 1002, 1075, 1109], 143) := by decide +kernel
set_option maxRecDepth 20000 in
theorem dL_law_176 : decode code 176 = .ok (.aload_n 1, 1) := by decide +kernel
set_option maxRecDepth 20000 in
theorem dL_law_177 : decode code 177 = .ok (.aload_n 0, 1) := by decide +kernel
set_option maxRecDepth 20000 in
theorem dL_law_178 : decode code 178 = .ok (.iload_n 3, 1) := by decide +kernel
set_option maxRecDepth 20000 in
theorem dL_law_179 : decode code 179 = .ok (.iconst 1, 1) := by decide +kernel
set_option maxRecDepth 20000 in
theorem dL_law_180 : decode code 180 = .ok (.iadd, 1) := by decide +kernel
set_option maxRecDepth 20000 in
theorem dL_law_181 : decode code 181 = .ok (.iaload, 1) := by decide +kernel
set_option maxRecDepth 20000 in
theorem dL_law_182 : decode code 182 = .ok (.aload_n 0, 1) := by decide +kernel
set_option maxRecDepth 20000 in
theorem dL_law_183 : decode code 183 = .ok (.iload_n 3, 1) := by decide +kernel
set_option maxRecDepth 20000 in
theorem dL_law_184 : decode code 184 = .ok (.iconst 2, 1) := by decide +kernel
set_option maxRecDepth 20000 in
theorem dL_law_185 : decode code 185 = .ok (.iadd, 1) := by decide +kernel
set_option maxRecDepth 20000 in
theorem dL_law_186 : decode code 186 = .ok (.iaload, 1) := by decide +kernel
set_option maxRecDepth 20000 in
theorem dL_law_187 : decode code 187 = .ok (.invokevirtual 13, 3) := by decide +kernel
set_option maxRecDepth 20000 in
theorem dL_law_190 : decode code 190 = .ok (.aload_n 2, 1) := by decide +kernel
set_option maxRecDepth 20000 in
theorem dL_law_191 : decode code 191 = .ok (.aload_n 0, 1) := by decide +kernel
set_option maxRecDepth 20000 in
theorem dL_law_192 : decode code 192 = .ok (.iload_n 3, 1) := by decide +kernel
set_option maxRecDepth 20000 in
theorem dL_law_193 : decode code 193 = .ok (.iconst 1, 1) := by decide +kernel
set_option maxRecDepth 20000 in
theorem dL_law_194 : decode code 194 = .ok (.iadd, 1) := by decide +kernel
set_option maxRecDepth 20000 in
theorem dL_law_195 : decode code 195 = .ok (.iaload, 1) := by decide +kernel
set_option maxRecDepth 20000 in
theorem dL_law_196 : decode code 196 = .ok (.aload_n 0, 1) := by decide +kernel
set_option maxRecDepth 20000 in
theorem dL_law_197 : decode code 197 = .ok (.iload_n 3, 1) := by decide +kernel
set_option maxRecDepth 20000 in
theorem dL_law_198 : decode code 198 = .ok (.iconst 2, 1) := by decide +kernel
set_option maxRecDepth 20000 in
theorem dL_law_199 : decode code 199 = .ok (.iadd, 1) := by decide +kernel
set_option maxRecDepth 20000 in
theorem dL_law_200 : decode code 200 = .ok (.iaload, 1) := by decide +kernel
set_option maxRecDepth 20000 in
theorem dL_law_201 : decode code 201 = .ok (.invokevirtual 17, 3) := by decide +kernel
set_option maxRecDepth 20000 in
theorem dL_law_204 : decode code 204 = .ok (.if_icmp .eq 1001, 3) := by decide +kernel
set_option maxRecDepth 20000 in
theorem dL_law_207 : decode code 207 = .ok (.iconst 0, 1) := by decide +kernel
set_option maxRecDepth 20000 in
theorem dL_law_208 : decode code 208 = .ok (.ireturn, 1) := by decide +kernel
set_option maxRecDepth 20000 in
theorem dL_law_209 : decode code 209 = .ok (.aload_n 1, 1) := by decide +kernel
set_option maxRecDepth 20000 in
theorem dL_law_210 : decode code 210 = .ok (.aload_n 0, 1) := by decide +kernel
set_option maxRecDepth 20000 in
theorem dL_law_211 : decode code 211 = .ok (.iload_n 3, 1) := by decide +kernel
set_option maxRecDepth 20000 in
theorem dL_law_212 : decode code 212 = .ok (.iconst 1, 1) := by decide +kernel
set_option maxRecDepth 20000 in
theorem dL_law_213 : decode code 213 = .ok (.iadd, 1) := by decide +kernel
set_option maxRecDepth 20000 in
theorem dL_law_214 : decode code 214 = .ok (.iaload, 1) := by decide +kernel
set_option maxRecDepth 20000 in
theorem dL_law_215 : decode code 215 = .ok (.aload_n 0, 1) := by decide +kernel
set_option maxRecDepth 20000 in
theorem dL_law_216 : decode code 216 = .ok (.iload_n 3, 1) := by decide +kernel
set_option maxRecDepth 20000 in
theorem dL_law_217 : decode code 217 = .ok (.iconst 2, 1) := by decide +kernel
set_option maxRecDepth 20000 in
theorem dL_law_218 : decode code 218 = .ok (.iadd, 1) := by decide +kernel
set_option maxRecDepth 20000 in
theorem dL_law_219 : decode code 219 = .ok (.iaload, 1) := by decide +kernel
set_option maxRecDepth 20000 in
theorem dL_law_220 : decode code 220 = .ok (.invokevirtual 18, 3) := by decide +kernel
set_option maxRecDepth 20000 in
theorem dL_law_223 : decode code 223 = .ok (.aload_n 2, 1) := by decide +kernel
set_option maxRecDepth 20000 in
theorem dL_law_224 : decode code 224 = .ok (.aload_n 0, 1) := by decide +kernel
set_option maxRecDepth 20000 in
theorem dL_law_225 : decode code 225 = .ok (.iload_n 3, 1) := by decide +kernel
set_option maxRecDepth 20000 in
theorem dL_law_226 : decode code 226 = .ok (.iconst 1, 1) := by decide +kernel
set_option maxRecDepth 20000 in
theorem dL_law_227 : decode code 227 = .ok (.iadd, 1) := by decide +kernel
set_option maxRecDepth 20000 in
theorem dL_law_228 : decode code 228 = .ok (.iaload, 1) := by decide +kernel
set_option maxRecDepth 20000 in
theorem dL_law_229 : decode code 229 = .ok (.aload_n 0, 1) := by decide +kernel
set_option maxRecDepth 20000 in
theorem dL_law_230 : decode code 230 = .ok (.iload_n 3, 1) := by decide +kernel
set_option maxRecDepth 20000 in
theorem dL_law_231 : decode code 231 = .ok (.iconst 2, 1) := by decide +kernel
set_option maxRecDepth 20000 in
theorem dL_law_232 : decode code 232 = .ok (.iadd, 1) := by decide +kernel
set_option maxRecDepth 20000 in
theorem dL_law_233 : decode code 233 = .ok (.iaload, 1) := by decide +kernel
set_option maxRecDepth 20000 in
theorem dL_law_234 : decode code 234 = .ok (.invokevirtual 21, 3) := by decide +kernel
set_option maxRecDepth 20000 in
theorem dL_law_237 : decode code 237 = .ok (.if_icmp .eq 968, 3) := by decide +kernel
set_option maxRecDepth 20000 in
theorem dL_law_240 : decode code 240 = .ok (.iconst 0, 1) := by decide +kernel
set_option maxRecDepth 20000 in
theorem dL_law_241 : decode code 241 = .ok (.ireturn, 1) := by decide +kernel
set_option maxRecDepth 20000 in
theorem dL_law_242 : decode code 242 = .ok (.aload_n 1, 1) := by decide +kernel
set_option maxRecDepth 20000 in
theorem dL_law_243 : decode code 243 = .ok (.aload_n 0, 1) := by decide +kernel
set_option maxRecDepth 20000 in
theorem dL_law_244 : decode code 244 = .ok (.iload_n 3, 1) := by decide +kernel
set_option maxRecDepth 20000 in
theorem dL_law_245 : decode code 245 = .ok (.iconst 1, 1) := by decide +kernel
set_option maxRecDepth 20000 in
theorem dL_law_246 : decode code 246 = .ok (.iadd, 1) := by decide +kernel
set_option maxRecDepth 20000 in
theorem dL_law_247 : decode code 247 = .ok (.iaload, 1) := by decide +kernel
set_option maxRecDepth 20000 in
theorem dL_law_248 : decode code 248 = .ok (.aload_n 0, 1) := by decide +kernel
set_option maxRecDepth 20000 in
theorem dL_law_249 : decode code 249 = .ok (.iload_n 3, 1) := by decide +kernel
set_option maxRecDepth 20000 in
theorem dL_law_250 : decode code 250 = .ok (.iconst 2, 1) := by decide +kernel
set_option maxRecDepth 20000 in
theorem dL_law_251 : decode code 251 = .ok (.iadd, 1) := by decide +kernel
set_option maxRecDepth 20000 in
theorem dL_law_252 : decode code 252 = .ok (.iaload, 1) := by decide +kernel
set_option maxRecDepth 20000 in
theorem dL_law_253 : decode code 253 = .ok (.invokevirtual 22, 3) := by decide +kernel
set_option maxRecDepth 20000 in
theorem dL_law_256 : decode code 256 = .ok (.aload_n 2, 1) := by decide +kernel
set_option maxRecDepth 20000 in
theorem dL_law_257 : decode code 257 = .ok (.aload_n 0, 1) := by decide +kernel
set_option maxRecDepth 20000 in
theorem dL_law_258 : decode code 258 = .ok (.iload_n 3, 1) := by decide +kernel
set_option maxRecDepth 20000 in
theorem dL_law_259 : decode code 259 = .ok (.iconst 1, 1) := by decide +kernel
set_option maxRecDepth 20000 in
theorem dL_law_260 : decode code 260 = .ok (.iadd, 1) := by decide +kernel
set_option maxRecDepth 20000 in
theorem dL_law_261 : decode code 261 = .ok (.iaload, 1) := by decide +kernel
set_option maxRecDepth 20000 in
theorem dL_law_262 : decode code 262 = .ok (.aload_n 0, 1) := by decide +kernel
set_option maxRecDepth 20000 in
theorem dL_law_263 : decode code 263 = .ok (.iload_n 3, 1) := by decide +kernel
set_option maxRecDepth 20000 in
theorem dL_law_264 : decode code 264 = .ok (.iconst 2, 1) := by decide +kernel
set_option maxRecDepth 20000 in
theorem dL_law_265 : decode code 265 = .ok (.iadd, 1) := by decide +kernel
set_option maxRecDepth 20000 in
theorem dL_law_266 : decode code 266 = .ok (.iaload, 1) := by decide +kernel
set_option maxRecDepth 20000 in
theorem dL_law_267 : decode code 267 = .ok (.invokevirtual 25, 3) := by decide +kernel
set_option maxRecDepth 20000 in
theorem dL_law_270 : decode code 270 = .ok (.if_icmp .eq 935, 3) := by decide +kernel
set_option maxRecDepth 20000 in
theorem dL_law_273 : decode code 273 = .ok (.iconst 0, 1) := by decide +kernel
set_option maxRecDepth 20000 in
theorem dL_law_274 : decode code 274 = .ok (.ireturn, 1) := by decide +kernel
set_option maxRecDepth 20000 in
theorem dL_law_275 : decode code 275 = .ok (.aload_n 1, 1) := by decide +kernel
set_option maxRecDepth 20000 in
theorem dL_law_276 : decode code 276 = .ok (.aload_n 0, 1) := by decide +kernel
set_option maxRecDepth 20000 in
theorem dL_law_277 : decode code 277 = .ok (.iload_n 3, 1) := by decide +kernel
set_option maxRecDepth 20000 in
theorem dL_law_278 : decode code 278 = .ok (.iconst 1, 1) := by decide +kernel
set_option maxRecDepth 20000 in
theorem dL_law_279 : decode code 279 = .ok (.iadd, 1) := by decide +kernel
set_option maxRecDepth 20000 in
theorem dL_law_280 : decode code 280 = .ok (.iaload, 1) := by decide +kernel
set_option maxRecDepth 20000 in
theorem dL_law_281 : decode code 281 = .ok (.aload_n 0, 1) := by decide +kernel
set_option maxRecDepth 20000 in
theorem dL_law_282 : decode code 282 = .ok (.iload_n 3, 1) := by decide +kernel
set_option maxRecDepth 20000 in
theorem dL_law_283 : decode code 283 = .ok (.iconst 2, 1) := by decide +kernel
set_option maxRecDepth 20000 in
theorem dL_law_284 : decode code 284 = .ok (.iadd, 1) := by decide +kernel
set_option maxRecDepth 20000 in
theorem dL_law_285 : decode code 285 = .ok (.iaload, 1) := by decide +kernel
set_option maxRecDepth 20000 in
theorem dL_law_286 : decode code 286 = .ok (.invokevirtual 26, 3) := by decide +kernel
set_option maxRecDepth 20000 in
theorem dL_law_289 : decode code 289 = .ok (.aload_n 2, 1) := by decide +kernel
set_option maxRecDepth 20000 in
theorem dL_law_290 : decode code 290 = .ok (.aload_n 0, 1) := by decide +kernel
set_option maxRecDepth 20000 in
theorem dL_law_291 : decode code 291 = .ok (.iload_n 3, 1) := by decide +kernel
set_option maxRecDepth 20000 in
theorem dL_law_292 : decode code 292 = .ok (.iconst 1, 1) := by decide +kernel
set_option maxRecDepth 20000 in
theorem dL_law_293 : decode code 293 = .ok (.iadd, 1) := by decide +kernel
set_option maxRecDepth 20000 in
theorem dL_law_294 : decode code 294 = .ok (.iaload, 1) := by decide +kernel
set_option maxRecDepth 20000 in
theorem dL_law_295 : decode code 295 = .ok (.aload_n 0, 1) := by decide +kernel
set_option maxRecDepth 20000 in
theorem dL_law_296 : decode code 296 = .ok (.iload_n 3, 1) := by decide +kernel
set_option maxRecDepth 20000 in
theorem dL_law_297 : decode code 297 = .ok (.iconst 2, 1) := by decide +kernel
set_option maxRecDepth 20000 in
theorem dL_law_298 : decode code 298 = .ok (.iadd, 1) := by decide +kernel
set_option maxRecDepth 20000 in
theorem dL_law_299 : decode code 299 = .ok (.iaload, 1) := by decide +kernel
set_option maxRecDepth 20000 in
theorem dL_law_300 : decode code 300 = .ok (.invokevirtual 29, 3) := by decide +kernel
set_option maxRecDepth 20000 in
theorem dL_law_303 : decode code 303 = .ok (.if_icmp .eq 902, 3) := by decide +kernel
set_option maxRecDepth 20000 in
theorem dL_law_306 : decode code 306 = .ok (.iconst 0, 1) := by decide +kernel
set_option maxRecDepth 20000 in
theorem dL_law_307 : decode code 307 = .ok (.ireturn, 1) := by decide +kernel
set_option maxRecDepth 20000 in
theorem dL_law_308 : decode code 308 = .ok (.aload_n 1, 1) := by decide +kernel
set_option maxRecDepth 20000 in
theorem dL_law_309 : decode code 309 = .ok (.aload_n 0, 1) := by decide +kernel
set_option maxRecDepth 20000 in
theorem dL_law_310 : decode code 310 = .ok (.iload_n 3, 1) := by decide +kernel
set_option maxRecDepth 20000 in
theorem dL_law_311 : decode code 311 = .ok (.iconst 1, 1) := by decide +kernel
set_option maxRecDepth 20000 in
theorem dL_law_312 : decode code 312 = .ok (.iadd, 1) := by decide +kernel
set_option maxRecDepth 20000 in
theorem dL_law_313 : decode code 313 = .ok (.iaload, 1) := by decide +kernel
set_option maxRecDepth 20000 in
theorem dL_law_314 : decode code 314 = .ok (.aload_n 0, 1) := by decide +kernel
set_option maxRecDepth 20000 in
theorem dL_law_315 : decode code 315 = .ok (.iload_n 3, 1) := by decide +kernel
set_option maxRecDepth 20000 in
theorem dL_law_316 : decode code 316 = .ok (.iconst 2, 1) := by decide +kernel
set_option maxRecDepth 20000 in
theorem dL_law_317 : decode code 317 = .ok (.iadd, 1) := by decide +kernel
set_option maxRecDepth 20000 in
theorem dL_law_318 : decode code 318 = .ok (.iaload, 1) := by decide +kernel
set_option maxRecDepth 20000 in
theorem dL_law_319 : decode code 319 = .ok (.invokevirtual 30, 3) := by decide +kernel
set_option maxRecDepth 20000 in
theorem dL_law_322 : decode code 322 = .ok (.aload_n 2, 1) := by decide +kernel
set_option maxRecDepth 20000 in
theorem dL_law_323 : decode code 323 = .ok (.aload_n 0, 1) := by decide +kernel
set_option maxRecDepth 20000 in
theorem dL_law_324 : decode code 324 = .ok (.iload_n 3, 1) := by decide +kernel
set_option maxRecDepth 20000 in
theorem dL_law_325 : decode code 325 = .ok (.iconst 1, 1) := by decide +kernel
set_option maxRecDepth 20000 in
theorem dL_law_326 : decode code 326 = .ok (.iadd, 1) := by decide +kernel
set_option maxRecDepth 20000 in
theorem dL_law_327 : decode code 327 = .ok (.iaload, 1) := by decide +kernel
set_option maxRecDepth 20000 in
theorem dL_law_328 : decode code 328 = .ok (.aload_n 0, 1) := by decide +kernel
set_option maxRecDepth 20000 in
theorem dL_law_329 : decode code 329 = .ok (.iload_n 3, 1) := by decide +kernel
set_option maxRecDepth 20000 in
theorem dL_law_330 : decode code 330 = .ok (.iconst 2, 1) := by decide +kernel
set_option maxRecDepth 20000 in
theorem dL_law_331 : decode code 331 = .ok (.iadd, 1) := by decide +kernel
set_option maxRecDepth 20000 in
theorem dL_law_332 : decode code 332 = .ok (.iaload, 1) := by decide +kernel
set_option maxRecDepth 20000 in
theorem dL_law_333 : decode code 333 = .ok (.invokevirtual 33, 3) := by decide +kernel
set_option maxRecDepth 20000 in
theorem dL_law_336 : decode code 336 = .ok (.if_icmp .eq 869, 3) := by decide +kernel
set_option maxRecDepth 20000 in
theorem dL_law_339 : decode code 339 = .ok (.iconst 0, 1) := by decide +kernel
set_option maxRecDepth 20000 in
theorem dL_law_340 : decode code 340 = .ok (.ireturn, 1) := by decide +kernel
set_option maxRecDepth 20000 in
theorem dL_law_341 : decode code 341 = .ok (.aload_n 1, 1) := by decide +kernel
set_option maxRecDepth 20000 in
theorem dL_law_342 : decode code 342 = .ok (.aload_n 0, 1) := by decide +kernel
set_option maxRecDepth 20000 in
theorem dL_law_343 : decode code 343 = .ok (.iload_n 3, 1) := by decide +kernel
set_option maxRecDepth 20000 in
theorem dL_law_344 : decode code 344 = .ok (.iconst 1, 1) := by decide +kernel
set_option maxRecDepth 20000 in
theorem dL_law_345 : decode code 345 = .ok (.iadd, 1) := by decide +kernel
set_option maxRecDepth 20000 in
theorem dL_law_346 : decode code 346 = .ok (.iaload, 1) := by decide +kernel
set_option maxRecDepth 20000 in
theorem dL_law_347 : decode code 347 = .ok (.aload_n 0, 1) := by decide +kernel
set_option maxRecDepth 20000 in
theorem dL_law_348 : decode code 348 = .ok (.iload_n 3, 1) := by decide +kernel
set_option maxRecDepth 20000 in
theorem dL_law_349 : decode code 349 = .ok (.iconst 2, 1) := by decide +kernel
set_option maxRecDepth 20000 in
theorem dL_law_350 : decode code 350 = .ok (.iadd, 1) := by decide +kernel
set_option maxRecDepth 20000 in
theorem dL_law_351 : decode code 351 = .ok (.iaload, 1) := by decide +kernel
set_option maxRecDepth 20000 in
theorem dL_law_352 : decode code 352 = .ok (.invokevirtual 34, 3) := by decide +kernel
set_option maxRecDepth 20000 in
theorem dL_law_355 : decode code 355 = .ok (.aload_n 2, 1) := by decide +kernel
set_option maxRecDepth 20000 in
theorem dL_law_356 : decode code 356 = .ok (.aload_n 0, 1) := by decide +kernel
set_option maxRecDepth 20000 in
theorem dL_law_357 : decode code 357 = .ok (.iload_n 3, 1) := by decide +kernel
set_option maxRecDepth 20000 in
theorem dL_law_358 : decode code 358 = .ok (.iconst 1, 1) := by decide +kernel
set_option maxRecDepth 20000 in
theorem dL_law_359 : decode code 359 = .ok (.iadd, 1) := by decide +kernel
set_option maxRecDepth 20000 in
theorem dL_law_360 : decode code 360 = .ok (.iaload, 1) := by decide +kernel
set_option maxRecDepth 20000 in
theorem dL_law_361 : decode code 361 = .ok (.aload_n 0, 1) := by decide +kernel
set_option maxRecDepth 20000 in
theorem dL_law_362 : decode code 362 = .ok (.iload_n 3, 1) := by decide +kernel
set_option maxRecDepth 20000 in
theorem dL_law_363 : decode code 363 = .ok (.iconst 2, 1) := by decide +kernel
set_option maxRecDepth 20000 in
theorem dL_law_364 : decode code 364 = .ok (.iadd, 1) := by decide +kernel
set_option maxRecDepth 20000 in
theorem dL_law_365 : decode code 365 = .ok (.iaload, 1) := by decide +kernel
set_option maxRecDepth 20000 in
theorem dL_law_366 : decode code 366 = .ok (.invokevirtual 37, 3) := by decide +kernel
set_option maxRecDepth 20000 in
theorem dL_law_369 : decode code 369 = .ok (.if_icmp .eq 836, 3) := by decide +kernel
set_option maxRecDepth 20000 in
theorem dL_law_372 : decode code 372 = .ok (.iconst 0, 1) := by decide +kernel
set_option maxRecDepth 20000 in
theorem dL_law_373 : decode code 373 = .ok (.ireturn, 1) := by decide +kernel
set_option maxRecDepth 20000 in
theorem dL_law_374 : decode code 374 = .ok (.aload_n 1, 1) := by decide +kernel
set_option maxRecDepth 20000 in
theorem dL_law_375 : decode code 375 = .ok (.aload_n 0, 1) := by decide +kernel
set_option maxRecDepth 20000 in
theorem dL_law_376 : decode code 376 = .ok (.iload_n 3, 1) := by decide +kernel
set_option maxRecDepth 20000 in
theorem dL_law_377 : decode code 377 = .ok (.iconst 1, 1) := by decide +kernel
set_option maxRecDepth 20000 in
theorem dL_law_378 : decode code 378 = .ok (.iadd, 1) := by decide +kernel
set_option maxRecDepth 20000 in
theorem dL_law_379 : decode code 379 = .ok (.iaload, 1) := by decide +kernel
set_option maxRecDepth 20000 in
theorem dL_law_380 : decode code 380 = .ok (.aload_n 0, 1) := by decide +kernel
set_option maxRecDepth 20000 in
theorem dL_law_381 : decode code 381 = .ok (.iload_n 3, 1) := by decide +kernel
set_option maxRecDepth 20000 in
theorem dL_law_382 : decode code 382 = .ok (.iconst 2, 1) := by decide +kernel
set_option maxRecDepth 20000 in
theorem dL_law_383 : decode code 383 = .ok (.iadd, 1) := by decide +kernel
set_option maxRecDepth 20000 in
theorem dL_law_384 : decode code 384 = .ok (.iaload, 1) := by decide +kernel
set_option maxRecDepth 20000 in
theorem dL_law_385 : decode code 385 = .ok (.aload_n 0, 1) := by decide +kernel
set_option maxRecDepth 20000 in
theorem dL_law_386 : decode code 386 = .ok (.iload_n 3, 1) := by decide +kernel
set_option maxRecDepth 20000 in
theorem dL_law_387 : decode code 387 = .ok (.iconst 3, 1) := by decide +kernel
set_option maxRecDepth 20000 in
theorem dL_law_388 : decode code 388 = .ok (.iadd, 1) := by decide +kernel
set_option maxRecDepth 20000 in
theorem dL_law_389 : decode code 389 = .ok (.iaload, 1) := by decide +kernel
set_option maxRecDepth 20000 in
theorem dL_law_390 : decode code 390 = .ok (.invokevirtual 38, 3) := by decide +kernel
set_option maxRecDepth 20000 in
theorem dL_law_393 : decode code 393 = .ok (.aload_n 2, 1) := by decide +kernel
set_option maxRecDepth 20000 in
theorem dL_law_394 : decode code 394 = .ok (.aload_n 0, 1) := by decide +kernel
set_option maxRecDepth 20000 in
theorem dL_law_395 : decode code 395 = .ok (.iload_n 3, 1) := by decide +kernel
set_option maxRecDepth 20000 in
theorem dL_law_396 : decode code 396 = .ok (.iconst 1, 1) := by decide +kernel
set_option maxRecDepth 20000 in
theorem dL_law_397 : decode code 397 = .ok (.iadd, 1) := by decide +kernel
set_option maxRecDepth 20000 in
theorem dL_law_398 : decode code 398 = .ok (.iaload, 1) := by decide +kernel
set_option maxRecDepth 20000 in
theorem dL_law_399 : decode code 399 = .ok (.aload_n 0, 1) := by decide +kernel
set_option maxRecDepth 20000 in
theorem dL_law_400 : decode code 400 = .ok (.iload_n 3, 1) := by decide +kernel
set_option maxRecDepth 20000 in
theorem dL_law_401 : decode code 401 = .ok (.iconst 2, 1) := by decide +kernel
set_option maxRecDepth 20000 in
theorem dL_law_402 : decode code 402 = .ok (.iadd, 1) := by decide +kernel
set_option maxRecDepth 20000 in
theorem dL_law_403 : decode code 403 = .ok (.iaload, 1) := by decide +kernel
set_option maxRecDepth 20000 in
theorem dL_law_404 : decode code 404 = .ok (.aload_n 0, 1) := by decide +kernel
set_option maxRecDepth 20000 in
theorem dL_law_405 : decode code 405 = .ok (.iload_n 3, 1) := by decide +kernel
set_option maxRecDepth 20000 in
theorem dL_law_406 : decode code 406 = .ok (.iconst 3, 1) := by decide +kernel
set_option maxRecDepth 20000 in
theorem dL_law_407 : decode code 407 = .ok (.iadd, 1) := by decide +kernel
set_option maxRecDepth 20000 in
theorem dL_law_408 : decode code 408 = .ok (.iaload, 1) := by decide +kernel
set_option maxRecDepth 20000 in
theorem dL_law_409 : decode code 409 = .ok (.invokevirtual 42, 3) := by decide +kernel
set_option maxRecDepth 20000 in
theorem dL_law_412 : decode code 412 = .ok (.if_icmp .eq 793, 3) := by decide +kernel
set_option maxRecDepth 20000 in
theorem dL_law_415 : decode code 415 = .ok (.iconst 0, 1) := by decide +kernel
set_option maxRecDepth 20000 in
theorem dL_law_416 : decode code 416 = .ok (.ireturn, 1) := by decide +kernel
set_option maxRecDepth 20000 in
theorem dL_law_417 : decode code 417 = .ok (.aload_n 1, 1) := by decide +kernel
set_option maxRecDepth 20000 in
theorem dL_law_418 : decode code 418 = .ok (.aload_n 0, 1) := by decide +kernel
set_option maxRecDepth 20000 in
theorem dL_law_419 : decode code 419 = .ok (.iload_n 3, 1) := by decide +kernel
set_option maxRecDepth 20000 in
theorem dL_law_420 : decode code 420 = .ok (.iconst 1, 1) := by decide +kernel
set_option maxRecDepth 20000 in
theorem dL_law_421 : decode code 421 = .ok (.iadd, 1) := by decide +kernel
set_option maxRecDepth 20000 in
theorem dL_law_422 : decode code 422 = .ok (.iaload, 1) := by decide +kernel
set_option maxRecDepth 20000 in
theorem dL_law_423 : decode code 423 = .ok (.invokevirtual 43, 3) := by decide +kernel
set_option maxRecDepth 20000 in
theorem dL_law_426 : decode code 426 = .ok (.aload_n 2, 1) := by decide +kernel
set_option maxRecDepth 20000 in
theorem dL_law_427 : decode code 427 = .ok (.aload_n 0, 1) := by decide +kernel
set_option maxRecDepth 20000 in
theorem dL_law_428 : decode code 428 = .ok (.iload_n 3, 1) := by decide +kernel
set_option maxRecDepth 20000 in
theorem dL_law_429 : decode code 429 = .ok (.iconst 1, 1) := by decide +kernel
set_option maxRecDepth 20000 in
theorem dL_law_430 : decode code 430 = .ok (.iadd, 1) := by decide +kernel
set_option maxRecDepth 20000 in
theorem dL_law_431 : decode code 431 = .ok (.iaload, 1) := by decide +kernel
set_option maxRecDepth 20000 in
theorem dL_law_432 : decode code 432 = .ok (.invokevirtual 47, 3) := by decide +kernel
set_option maxRecDepth 20000 in
theorem dL_law_435 : decode code 435 = .ok (.if_icmp .eq 770, 3) := by decide +kernel
set_option maxRecDepth 20000 in
theorem dL_law_438 : decode code 438 = .ok (.iconst 0, 1) := by decide +kernel
set_option maxRecDepth 20000 in
theorem dL_law_439 : decode code 439 = .ok (.ireturn, 1) := by decide +kernel
set_option maxRecDepth 20000 in
theorem dL_law_440 : decode code 440 = .ok (.aload_n 1, 1) := by decide +kernel
set_option maxRecDepth 20000 in
theorem dL_law_441 : decode code 441 = .ok (.invokevirtual 48, 3) := by decide +kernel
set_option maxRecDepth 20000 in
theorem dL_law_444 : decode code 444 = .ok (.aload_n 2, 1) := by decide +kernel
set_option maxRecDepth 20000 in
theorem dL_law_445 : decode code 445 = .ok (.invokevirtual 52, 3) := by decide +kernel
set_option maxRecDepth 20000 in
theorem dL_law_448 : decode code 448 = .ok (.if_icmp .eq 757, 3) := by decide +kernel
set_option maxRecDepth 20000 in
theorem dL_law_451 : decode code 451 = .ok (.iconst 0, 1) := by decide +kernel
set_option maxRecDepth 20000 in
theorem dL_law_452 : decode code 452 = .ok (.ireturn, 1) := by decide +kernel
set_option maxRecDepth 20000 in
theorem dL_law_453 : decode code 453 = .ok (.aload_n 1, 1) := by decide +kernel
set_option maxRecDepth 20000 in
theorem dL_law_454 : decode code 454 = .ok (.aload_n 0, 1) := by decide +kernel
set_option maxRecDepth 20000 in
theorem dL_law_455 : decode code 455 = .ok (.iload_n 3, 1) := by decide +kernel
set_option maxRecDepth 20000 in
theorem dL_law_456 : decode code 456 = .ok (.iconst 1, 1) := by decide +kernel
set_option maxRecDepth 20000 in
theorem dL_law_457 : decode code 457 = .ok (.iadd, 1) := by decide +kernel
set_option maxRecDepth 20000 in
theorem dL_law_458 : decode code 458 = .ok (.iaload, 1) := by decide +kernel
set_option maxRecDepth 20000 in
theorem dL_law_459 : decode code 459 = .ok (.invokevirtual 53, 3) := by decide +kernel
set_option maxRecDepth 20000 in
theorem dL_law_462 : decode code 462 = .ok (.aload_n 2, 1) := by decide +kernel
set_option maxRecDepth 20000 in
theorem dL_law_463 : decode code 463 = .ok (.aload_n 0, 1) := by decide +kernel
set_option maxRecDepth 20000 in
theorem dL_law_464 : decode code 464 = .ok (.iload_n 3, 1) := by decide +kernel
set_option maxRecDepth 20000 in
theorem dL_law_465 : decode code 465 = .ok (.iconst 1, 1) := by decide +kernel
set_option maxRecDepth 20000 in
theorem dL_law_466 : decode code 466 = .ok (.iadd, 1) := by decide +kernel
set_option maxRecDepth 20000 in
theorem dL_law_467 : decode code 467 = .ok (.iaload, 1) := by decide +kernel
set_option maxRecDepth 20000 in
theorem dL_law_468 : decode code 468 = .ok (.invokevirtual 56, 3) := by decide +kernel
set_option maxRecDepth 20000 in
theorem dL_law_471 : decode code 471 = .ok (.if_icmp .eq 734, 3) := by decide +kernel
set_option maxRecDepth 20000 in
theorem dL_law_474 : decode code 474 = .ok (.iconst 0, 1) := by decide +kernel
set_option maxRecDepth 20000 in
theorem dL_law_475 : decode code 475 = .ok (.ireturn, 1) := by decide +kernel
set_option maxRecDepth 20000 in
theorem dL_law_476 : decode code 476 = .ok (.aload_n 1, 1) := by decide +kernel
set_option maxRecDepth 20000 in
theorem dL_law_477 : decode code 477 = .ok (.aload_n 0, 1) := by decide +kernel
set_option maxRecDepth 20000 in
theorem dL_law_478 : decode code 478 = .ok (.iload_n 3, 1) := by decide +kernel
set_option maxRecDepth 20000 in
theorem dL_law_479 : decode code 479 = .ok (.iconst 1, 1) := by decide +kernel
set_option maxRecDepth 20000 in
theorem dL_law_480 : decode code 480 = .ok (.iadd, 1) := by decide +kernel
set_option maxRecDepth 20000 in
theorem dL_law_481 : decode code 481 = .ok (.iaload, 1) := by decide +kernel
set_option maxRecDepth 20000 in
theorem dL_law_482 : decode code 482 = .ok (.invokevirtual 57, 3) := by decide +kernel
set_option maxRecDepth 20000 in
theorem dL_law_485 : decode code 485 = .ok (.aload_n 2, 1) := by decide +kernel
set_option maxRecDepth 20000 in
theorem dL_law_486 : decode code 486 = .ok (.aload_n 0, 1) := by decide +kernel
set_option maxRecDepth 20000 in
theorem dL_law_487 : decode code 487 = .ok (.iload_n 3, 1) := by decide +kernel
set_option maxRecDepth 20000 in
theorem dL_law_488 : decode code 488 = .ok (.iconst 1, 1) := by decide +kernel
set_option maxRecDepth 20000 in
theorem dL_law_489 : decode code 489 = .ok (.iadd, 1) := by decide +kernel
set_option maxRecDepth 20000 in
theorem dL_law_490 : decode code 490 = .ok (.iaload, 1) := by decide +kernel
set_option maxRecDepth 20000 in
theorem dL_law_491 : decode code 491 = .ok (.invokevirtual 60, 3) := by decide +kernel
set_option maxRecDepth 20000 in
theorem dL_law_494 : decode code 494 = .ok (.if_icmp .eq 711, 3) := by decide +kernel
set_option maxRecDepth 20000 in
theorem dL_law_497 : decode code 497 = .ok (.iconst 0, 1) := by decide +kernel
set_option maxRecDepth 20000 in
theorem dL_law_498 : decode code 498 = .ok (.ireturn, 1) := by decide +kernel
set_option maxRecDepth 20000 in
theorem dL_law_499 : decode code 499 = .ok (.aload_n 1, 1) := by decide +kernel
set_option maxRecDepth 20000 in
theorem dL_law_500 : decode code 500 = .ok (.aload_n 0, 1) := by decide +kernel
set_option maxRecDepth 20000 in
theorem dL_law_501 : decode code 501 = .ok (.iload_n 3, 1) := by decide +kernel
set_option maxRecDepth 20000 in
theorem dL_law_502 : decode code 502 = .ok (.iconst 1, 1) := by decide +kernel
set_option maxRecDepth 20000 in
theorem dL_law_503 : decode code 503 = .ok (.iadd, 1) := by decide +kernel
set_option maxRecDepth 20000 in
theorem dL_law_504 : decode code 504 = .ok (.iaload, 1) := by decide +kernel
set_option maxRecDepth 20000 in
theorem dL_law_505 : decode code 505 = .ok (.aload_n 0, 1) := by decide +kernel
set_option maxRecDepth 20000 in
theorem dL_law_506 : decode code 506 = .ok (.iload_n 3, 1) := by decide +kernel
set_option maxRecDepth 20000 in
theorem dL_law_507 : decode code 507 = .ok (.iconst 2, 1) := by decide +kernel
set_option maxRecDepth 20000 in
theorem dL_law_508 : decode code 508 = .ok (.iadd, 1) := by decide +kernel
set_option maxRecDepth 20000 in
theorem dL_law_509 : decode code 509 = .ok (.iaload, 1) := by decide +kernel
set_option maxRecDepth 20000 in
theorem dL_law_510 : decode code 510 = .ok (.invokevirtual 61, 3) := by decide +kernel
set_option maxRecDepth 20000 in
theorem dL_law_513 : decode code 513 = .ok (.aload_n 2, 1) := by decide +kernel
set_option maxRecDepth 20000 in
theorem dL_law_514 : decode code 514 = .ok (.aload_n 0, 1) := by decide +kernel
set_option maxRecDepth 20000 in
theorem dL_law_515 : decode code 515 = .ok (.iload_n 3, 1) := by decide +kernel
set_option maxRecDepth 20000 in
theorem dL_law_516 : decode code 516 = .ok (.iconst 1, 1) := by decide +kernel
set_option maxRecDepth 20000 in
theorem dL_law_517 : decode code 517 = .ok (.iadd, 1) := by decide +kernel
set_option maxRecDepth 20000 in
theorem dL_law_518 : decode code 518 = .ok (.iaload, 1) := by decide +kernel
set_option maxRecDepth 20000 in
theorem dL_law_519 : decode code 519 = .ok (.aload_n 0, 1) := by decide +kernel
set_option maxRecDepth 20000 in
theorem dL_law_520 : decode code 520 = .ok (.iload_n 3, 1) := by decide +kernel
set_option maxRecDepth 20000 in
theorem dL_law_521 : decode code 521 = .ok (.iconst 2, 1) := by decide +kernel
set_option maxRecDepth 20000 in
theorem dL_law_522 : decode code 522 = .ok (.iadd, 1) := by decide +kernel
set_option maxRecDepth 20000 in
theorem dL_law_523 : decode code 523 = .ok (.iaload, 1) := by decide +kernel
set_option maxRecDepth 20000 in
theorem dL_law_524 : decode code 524 = .ok (.invokevirtual 64, 3) := by decide +kernel
set_option maxRecDepth 20000 in
theorem dL_law_527 : decode code 527 = .ok (.if_icmp .eq 678, 3) := by decide +kernel
set_option maxRecDepth 20000 in
theorem dL_law_530 : decode code 530 = .ok (.iconst 0, 1) := by decide +kernel
set_option maxRecDepth 20000 in
theorem dL_law_531 : decode code 531 = .ok (.ireturn, 1) := by decide +kernel
set_option maxRecDepth 20000 in
theorem dL_law_532 : decode code 532 = .ok (.aload_n 1, 1) := by decide +kernel
set_option maxRecDepth 20000 in
theorem dL_law_533 : decode code 533 = .ok (.aload_n 0, 1) := by decide +kernel
set_option maxRecDepth 20000 in
theorem dL_law_534 : decode code 534 = .ok (.iload_n 3, 1) := by decide +kernel
set_option maxRecDepth 20000 in
theorem dL_law_535 : decode code 535 = .ok (.iconst 1, 1) := by decide +kernel
set_option maxRecDepth 20000 in
theorem dL_law_536 : decode code 536 = .ok (.iadd, 1) := by decide +kernel
set_option maxRecDepth 20000 in
theorem dL_law_537 : decode code 537 = .ok (.iaload, 1) := by decide +kernel
set_option maxRecDepth 20000 in
theorem dL_law_538 : decode code 538 = .ok (.aload_n 0, 1) := by decide +kernel
set_option maxRecDepth 20000 in
theorem dL_law_539 : decode code 539 = .ok (.iload_n 3, 1) := by decide +kernel
set_option maxRecDepth 20000 in
theorem dL_law_540 : decode code 540 = .ok (.iconst 2, 1) := by decide +kernel
set_option maxRecDepth 20000 in
theorem dL_law_541 : decode code 541 = .ok (.iadd, 1) := by decide +kernel
set_option maxRecDepth 20000 in
theorem dL_law_542 : decode code 542 = .ok (.iaload, 1) := by decide +kernel
set_option maxRecDepth 20000 in
theorem dL_law_543 : decode code 543 = .ok (.invokevirtual 65, 3) := by decide +kernel
set_option maxRecDepth 20000 in
theorem dL_law_546 : decode code 546 = .ok (.aload_n 2, 1) := by decide +kernel
set_option maxRecDepth 20000 in
theorem dL_law_547 : decode code 547 = .ok (.aload_n 0, 1) := by decide +kernel
set_option maxRecDepth 20000 in
theorem dL_law_548 : decode code 548 = .ok (.iload_n 3, 1) := by decide +kernel
set_option maxRecDepth 20000 in
theorem dL_law_549 : decode code 549 = .ok (.iconst 1, 1) := by decide +kernel
set_option maxRecDepth 20000 in
theorem dL_law_550 : decode code 550 = .ok (.iadd, 1) := by decide +kernel
set_option maxRecDepth 20000 in
theorem dL_law_551 : decode code 551 = .ok (.iaload, 1) := by decide +kernel
set_option maxRecDepth 20000 in
theorem dL_law_552 : decode code 552 = .ok (.aload_n 0, 1) := by decide +kernel
set_option maxRecDepth 20000 in
theorem dL_law_553 : decode code 553 = .ok (.iload_n 3, 1) := by decide +kernel
set_option maxRecDepth 20000 in
theorem dL_law_554 : decode code 554 = .ok (.iconst 2, 1) := by decide +kernel
set_option maxRecDepth 20000 in
theorem dL_law_555 : decode code 555 = .ok (.iadd, 1) := by decide +kernel
set_option maxRecDepth 20000 in
theorem dL_law_556 : decode code 556 = .ok (.iaload, 1) := by decide +kernel
set_option maxRecDepth 20000 in
theorem dL_law_557 : decode code 557 = .ok (.invokevirtual 68, 3) := by decide +kernel
set_option maxRecDepth 20000 in
theorem dL_law_560 : decode code 560 = .ok (.if_icmp .eq 645, 3) := by decide +kernel
set_option maxRecDepth 20000 in
theorem dL_law_563 : decode code 563 = .ok (.iconst 0, 1) := by decide +kernel
set_option maxRecDepth 20000 in
theorem dL_law_564 : decode code 564 = .ok (.ireturn, 1) := by decide +kernel
set_option maxRecDepth 20000 in
theorem dL_law_565 : decode code 565 = .ok (.aload_n 1, 1) := by decide +kernel
set_option maxRecDepth 20000 in
theorem dL_law_566 : decode code 566 = .ok (.aload_n 0, 1) := by decide +kernel
set_option maxRecDepth 20000 in
theorem dL_law_567 : decode code 567 = .ok (.iload_n 3, 1) := by decide +kernel
set_option maxRecDepth 20000 in
theorem dL_law_568 : decode code 568 = .ok (.iconst 1, 1) := by decide +kernel
set_option maxRecDepth 20000 in
theorem dL_law_569 : decode code 569 = .ok (.iadd, 1) := by decide +kernel
set_option maxRecDepth 20000 in
theorem dL_law_570 : decode code 570 = .ok (.iaload, 1) := by decide +kernel
set_option maxRecDepth 20000 in
theorem dL_law_571 : decode code 571 = .ok (.aload_n 0, 1) := by decide +kernel
set_option maxRecDepth 20000 in
theorem dL_law_572 : decode code 572 = .ok (.iload_n 3, 1) := by decide +kernel
set_option maxRecDepth 20000 in
theorem dL_law_573 : decode code 573 = .ok (.iconst 2, 1) := by decide +kernel
set_option maxRecDepth 20000 in
theorem dL_law_574 : decode code 574 = .ok (.iadd, 1) := by decide +kernel
set_option maxRecDepth 20000 in
theorem dL_law_575 : decode code 575 = .ok (.iaload, 1) := by decide +kernel
set_option maxRecDepth 20000 in
theorem dL_law_576 : decode code 576 = .ok (.aload_n 0, 1) := by decide +kernel
set_option maxRecDepth 20000 in
theorem dL_law_577 : decode code 577 = .ok (.iload_n 3, 1) := by decide +kernel
set_option maxRecDepth 20000 in
theorem dL_law_578 : decode code 578 = .ok (.iconst 3, 1) := by decide +kernel
set_option maxRecDepth 20000 in
theorem dL_law_579 : decode code 579 = .ok (.iadd, 1) := by decide +kernel
set_option maxRecDepth 20000 in
theorem dL_law_580 : decode code 580 = .ok (.iaload, 1) := by decide +kernel
set_option maxRecDepth 20000 in
theorem dL_law_581 : decode code 581 = .ok (.invokevirtual 69, 3) := by decide +kernel
set_option maxRecDepth 20000 in
theorem dL_law_584 : decode code 584 = .ok (.aload_n 2, 1) := by decide +kernel
set_option maxRecDepth 20000 in
theorem dL_law_585 : decode code 585 = .ok (.aload_n 0, 1) := by decide +kernel
set_option maxRecDepth 20000 in
theorem dL_law_586 : decode code 586 = .ok (.iload_n 3, 1) := by decide +kernel
set_option maxRecDepth 20000 in
theorem dL_law_587 : decode code 587 = .ok (.iconst 1, 1) := by decide +kernel
set_option maxRecDepth 20000 in
theorem dL_law_588 : decode code 588 = .ok (.iadd, 1) := by decide +kernel
set_option maxRecDepth 20000 in
theorem dL_law_589 : decode code 589 = .ok (.iaload, 1) := by decide +kernel
set_option maxRecDepth 20000 in
theorem dL_law_590 : decode code 590 = .ok (.aload_n 0, 1) := by decide +kernel
set_option maxRecDepth 20000 in
theorem dL_law_591 : decode code 591 = .ok (.iload_n 3, 1) := by decide +kernel
set_option maxRecDepth 20000 in
theorem dL_law_592 : decode code 592 = .ok (.iconst 2, 1) := by decide +kernel
set_option maxRecDepth 20000 in
theorem dL_law_593 : decode code 593 = .ok (.iadd, 1) := by decide +kernel
set_option maxRecDepth 20000 in
theorem dL_law_594 : decode code 594 = .ok (.iaload, 1) := by decide +kernel
set_option maxRecDepth 20000 in
theorem dL_law_595 : decode code 595 = .ok (.aload_n 0, 1) := by decide +kernel
set_option maxRecDepth 20000 in
theorem dL_law_596 : decode code 596 = .ok (.iload_n 3, 1) := by decide +kernel
set_option maxRecDepth 20000 in
theorem dL_law_597 : decode code 597 = .ok (.iconst 3, 1) := by decide +kernel
set_option maxRecDepth 20000 in
theorem dL_law_598 : decode code 598 = .ok (.iadd, 1) := by decide +kernel
set_option maxRecDepth 20000 in
theorem dL_law_599 : decode code 599 = .ok (.iaload, 1) := by decide +kernel
set_option maxRecDepth 20000 in
theorem dL_law_600 : decode code 600 = .ok (.invokevirtual 72, 3) := by decide +kernel
set_option maxRecDepth 20000 in
theorem dL_law_603 : decode code 603 = .ok (.if_icmp .eq 602, 3) := by decide +kernel
set_option maxRecDepth 20000 in
theorem dL_law_606 : decode code 606 = .ok (.iconst 0, 1) := by decide +kernel
set_option maxRecDepth 20000 in
theorem dL_law_607 : decode code 607 = .ok (.ireturn, 1) := by decide +kernel
set_option maxRecDepth 20000 in
theorem dL_law_608 : decode code 608 = .ok (.aload_n 1, 1) := by decide +kernel
set_option maxRecDepth 20000 in
theorem dL_law_609 : decode code 609 = .ok (.aload_n 0, 1) := by decide +kernel
set_option maxRecDepth 20000 in
theorem dL_law_610 : decode code 610 = .ok (.iload_n 3, 1) := by decide +kernel
set_option maxRecDepth 20000 in
theorem dL_law_611 : decode code 611 = .ok (.iconst 1, 1) := by decide +kernel
set_option maxRecDepth 20000 in
theorem dL_law_612 : decode code 612 = .ok (.iadd, 1) := by decide +kernel
set_option maxRecDepth 20000 in
theorem dL_law_613 : decode code 613 = .ok (.iaload, 1) := by decide +kernel
set_option maxRecDepth 20000 in
theorem dL_law_614 : decode code 614 = .ok (.aload_n 0, 1) := by decide +kernel
set_option maxRecDepth 20000 in
theorem dL_law_615 : decode code 615 = .ok (.iload_n 3, 1) := by decide +kernel
set_option maxRecDepth 20000 in
theorem dL_law_616 : decode code 616 = .ok (.iconst 2, 1) := by decide +kernel
set_option maxRecDepth 20000 in
theorem dL_law_617 : decode code 617 = .ok (.iadd, 1) := by decide +kernel
set_option maxRecDepth 20000 in
theorem dL_law_618 : decode code 618 = .ok (.iaload, 1) := by decide +kernel
set_option maxRecDepth 20000 in
theorem dL_law_619 : decode code 619 = .ok (.invokevirtual 73, 3) := by decide +kernel
set_option maxRecDepth 20000 in
theorem dL_law_622 : decode code 622 = .ok (.aload_n 2, 1) := by decide +kernel
set_option maxRecDepth 20000 in
theorem dL_law_623 : decode code 623 = .ok (.aload_n 0, 1) := by decide +kernel
set_option maxRecDepth 20000 in
theorem dL_law_624 : decode code 624 = .ok (.iload_n 3, 1) := by decide +kernel
set_option maxRecDepth 20000 in
theorem dL_law_625 : decode code 625 = .ok (.iconst 1, 1) := by decide +kernel
set_option maxRecDepth 20000 in
theorem dL_law_626 : decode code 626 = .ok (.iadd, 1) := by decide +kernel
set_option maxRecDepth 20000 in
theorem dL_law_627 : decode code 627 = .ok (.iaload, 1) := by decide +kernel
set_option maxRecDepth 20000 in
theorem dL_law_628 : decode code 628 = .ok (.aload_n 0, 1) := by decide +kernel
set_option maxRecDepth 20000 in
theorem dL_law_629 : decode code 629 = .ok (.iload_n 3, 1) := by decide +kernel
set_option maxRecDepth 20000 in
theorem dL_law_630 : decode code 630 = .ok (.iconst 2, 1) := by decide +kernel
set_option maxRecDepth 20000 in
theorem dL_law_631 : decode code 631 = .ok (.iadd, 1) := by decide +kernel
set_option maxRecDepth 20000 in
theorem dL_law_632 : decode code 632 = .ok (.iaload, 1) := by decide +kernel
set_option maxRecDepth 20000 in
theorem dL_law_633 : decode code 633 = .ok (.invokevirtual 76, 3) := by decide +kernel
set_option maxRecDepth 20000 in
theorem dL_law_636 : decode code 636 = .ok (.if_icmp .eq 569, 3) := by decide +kernel
set_option maxRecDepth 20000 in
theorem dL_law_639 : decode code 639 = .ok (.iconst 0, 1) := by decide +kernel
set_option maxRecDepth 20000 in
theorem dL_law_640 : decode code 640 = .ok (.ireturn, 1) := by decide +kernel
set_option maxRecDepth 20000 in
theorem dL_law_641 : decode code 641 = .ok (.aload_n 1, 1) := by decide +kernel
set_option maxRecDepth 20000 in
theorem dL_law_642 : decode code 642 = .ok (.aload_n 0, 1) := by decide +kernel
set_option maxRecDepth 20000 in
theorem dL_law_643 : decode code 643 = .ok (.iload_n 3, 1) := by decide +kernel
set_option maxRecDepth 20000 in
theorem dL_law_644 : decode code 644 = .ok (.iconst 1, 1) := by decide +kernel
set_option maxRecDepth 20000 in
theorem dL_law_645 : decode code 645 = .ok (.iadd, 1) := by decide +kernel
set_option maxRecDepth 20000 in
theorem dL_law_646 : decode code 646 = .ok (.iaload, 1) := by decide +kernel
set_option maxRecDepth 20000 in
theorem dL_law_647 : decode code 647 = .ok (.aload_n 0, 1) := by decide +kernel
set_option maxRecDepth 20000 in
theorem dL_law_648 : decode code 648 = .ok (.iload_n 3, 1) := by decide +kernel
set_option maxRecDepth 20000 in
theorem dL_law_649 : decode code 649 = .ok (.iconst 2, 1) := by decide +kernel
set_option maxRecDepth 20000 in
theorem dL_law_650 : decode code 650 = .ok (.iadd, 1) := by decide +kernel
set_option maxRecDepth 20000 in
theorem dL_law_651 : decode code 651 = .ok (.iaload, 1) := by decide +kernel
set_option maxRecDepth 20000 in
theorem dL_law_652 : decode code 652 = .ok (.aload_n 0, 1) := by decide +kernel
set_option maxRecDepth 20000 in
theorem dL_law_653 : decode code 653 = .ok (.iload_n 3, 1) := by decide +kernel
set_option maxRecDepth 20000 in
theorem dL_law_654 : decode code 654 = .ok (.iconst 3, 1) := by decide +kernel
set_option maxRecDepth 20000 in
theorem dL_law_655 : decode code 655 = .ok (.iadd, 1) := by decide +kernel
set_option maxRecDepth 20000 in
theorem dL_law_656 : decode code 656 = .ok (.iaload, 1) := by decide +kernel
set_option maxRecDepth 20000 in
theorem dL_law_657 : decode code 657 = .ok (.invokevirtual 77, 3) := by decide +kernel
set_option maxRecDepth 20000 in
theorem dL_law_660 : decode code 660 = .ok (.aload_n 2, 1) := by decide +kernel
set_option maxRecDepth 20000 in
theorem dL_law_661 : decode code 661 = .ok (.aload_n 0, 1) := by decide +kernel
set_option maxRecDepth 20000 in
theorem dL_law_662 : decode code 662 = .ok (.iload_n 3, 1) := by decide +kernel
set_option maxRecDepth 20000 in
theorem dL_law_663 : decode code 663 = .ok (.iconst 1, 1) := by decide +kernel
set_option maxRecDepth 20000 in
theorem dL_law_664 : decode code 664 = .ok (.iadd, 1) := by decide +kernel
set_option maxRecDepth 20000 in
theorem dL_law_665 : decode code 665 = .ok (.iaload, 1) := by decide +kernel
set_option maxRecDepth 20000 in
theorem dL_law_666 : decode code 666 = .ok (.aload_n 0, 1) := by decide +kernel
set_option maxRecDepth 20000 in
theorem dL_law_667 : decode code 667 = .ok (.iload_n 3, 1) := by decide +kernel
set_option maxRecDepth 20000 in
theorem dL_law_668 : decode code 668 = .ok (.iconst 2, 1) := by decide +kernel
set_option maxRecDepth 20000 in
theorem dL_law_669 : decode code 669 = .ok (.iadd, 1) := by decide +kernel
set_option maxRecDepth 20000 in
theorem dL_law_670 : decode code 670 = .ok (.iaload, 1) := by decide +kernel
set_option maxRecDepth 20000 in
theorem dL_law_671 : decode code 671 = .ok (.aload_n 0, 1) := by decide +kernel
set_option maxRecDepth 20000 in
theorem dL_law_672 : decode code 672 = .ok (.iload_n 3, 1) := by decide +kernel
set_option maxRecDepth 20000 in
theorem dL_law_673 : decode code 673 = .ok (.iconst 3, 1) := by decide +kernel
set_option maxRecDepth 20000 in
theorem dL_law_674 : decode code 674 = .ok (.iadd, 1) := by decide +kernel
set_option maxRecDepth 20000 in
theorem dL_law_675 : decode code 675 = .ok (.iaload, 1) := by decide +kernel
set_option maxRecDepth 20000 in
theorem dL_law_676 : decode code 676 = .ok (.invokevirtual 81, 3) := by decide +kernel
set_option maxRecDepth 20000 in
theorem dL_law_679 : decode code 679 = .ok (.lcmp, 1) := by decide +kernel
set_option maxRecDepth 20000 in
theorem dL_law_680 : decode code 680 = .ok (.ifCond .eq 525, 3) := by decide +kernel
set_option maxRecDepth 20000 in
theorem dL_law_683 : decode code 683 = .ok (.iconst 0, 1) := by decide +kernel
set_option maxRecDepth 20000 in
theorem dL_law_684 : decode code 684 = .ok (.ireturn, 1) := by decide +kernel
set_option maxRecDepth 20000 in
theorem dL_law_685 : decode code 685 = .ok (.aload_n 1, 1) := by decide +kernel
set_option maxRecDepth 20000 in
theorem dL_law_686 : decode code 686 = .ok (.aload_n 0, 1) := by decide +kernel
set_option maxRecDepth 20000 in
theorem dL_law_687 : decode code 687 = .ok (.iload_n 3, 1) := by decide +kernel
set_option maxRecDepth 20000 in
theorem dL_law_688 : decode code 688 = .ok (.iconst 1, 1) := by decide +kernel
set_option maxRecDepth 20000 in
theorem dL_law_689 : decode code 689 = .ok (.iadd, 1) := by decide +kernel
set_option maxRecDepth 20000 in
theorem dL_law_690 : decode code 690 = .ok (.iaload, 1) := by decide +kernel
set_option maxRecDepth 20000 in
theorem dL_law_691 : decode code 691 = .ok (.invokevirtual 82, 3) := by decide +kernel
set_option maxRecDepth 20000 in
theorem dL_law_694 : decode code 694 = .ok (.aload_n 2, 1) := by decide +kernel
set_option maxRecDepth 20000 in
theorem dL_law_695 : decode code 695 = .ok (.aload_n 0, 1) := by decide +kernel
set_option maxRecDepth 20000 in
theorem dL_law_696 : decode code 696 = .ok (.iload_n 3, 1) := by decide +kernel
set_option maxRecDepth 20000 in
theorem dL_law_697 : decode code 697 = .ok (.iconst 1, 1) := by decide +kernel
set_option maxRecDepth 20000 in
theorem dL_law_698 : decode code 698 = .ok (.iadd, 1) := by decide +kernel
set_option maxRecDepth 20000 in
theorem dL_law_699 : decode code 699 = .ok (.iaload, 1) := by decide +kernel
set_option maxRecDepth 20000 in
theorem dL_law_700 : decode code 700 = .ok (.invokevirtual 86, 3) := by decide +kernel
set_option maxRecDepth 20000 in
theorem dL_law_703 : decode code 703 = .ok (.lcmp, 1) := by decide +kernel
set_option maxRecDepth 20000 in
theorem dL_law_704 : decode code 704 = .ok (.ifCond .eq 501, 3) := by decide +kernel
set_option maxRecDepth 20000 in
theorem dL_law_707 : decode code 707 = .ok (.iconst 0, 1) := by decide +kernel
set_option maxRecDepth 20000 in
theorem dL_law_708 : decode code 708 = .ok (.ireturn, 1) := by decide +kernel
set_option maxRecDepth 20000 in
theorem dL_law_709 : decode code 709 = .ok (.aload_n 1, 1) := by decide +kernel
set_option maxRecDepth 20000 in
theorem dL_law_710 : decode code 710 = .ok (.aload_n 0, 1) := by decide +kernel
set_option maxRecDepth 20000 in
theorem dL_law_711 : decode code 711 = .ok (.iload_n 3, 1) := by decide +kernel
set_option maxRecDepth 20000 in
theorem dL_law_712 : decode code 712 = .ok (.iconst 1, 1) := by decide +kernel
set_option maxRecDepth 20000 in
theorem dL_law_713 : decode code 713 = .ok (.iadd, 1) := by decide +kernel
set_option maxRecDepth 20000 in
theorem dL_law_714 : decode code 714 = .ok (.iaload, 1) := by decide +kernel
set_option maxRecDepth 20000 in
theorem dL_law_715 : decode code 715 = .ok (.aload_n 0, 1) := by decide +kernel
set_option maxRecDepth 20000 in
theorem dL_law_716 : decode code 716 = .ok (.iload_n 3, 1) := by decide +kernel
set_option maxRecDepth 20000 in
theorem dL_law_717 : decode code 717 = .ok (.iconst 2, 1) := by decide +kernel
set_option maxRecDepth 20000 in
theorem dL_law_718 : decode code 718 = .ok (.iadd, 1) := by decide +kernel
set_option maxRecDepth 20000 in
theorem dL_law_719 : decode code 719 = .ok (.iaload, 1) := by decide +kernel
set_option maxRecDepth 20000 in
theorem dL_law_720 : decode code 720 = .ok (.invokevirtual 87, 3) := by decide +kernel
set_option maxRecDepth 20000 in
theorem dL_law_723 : decode code 723 = .ok (.aload_n 2, 1) := by decide +kernel
set_option maxRecDepth 20000 in
theorem dL_law_724 : decode code 724 = .ok (.aload_n 0, 1) := by decide +kernel
set_option maxRecDepth 20000 in
theorem dL_law_725 : decode code 725 = .ok (.iload_n 3, 1) := by decide +kernel
set_option maxRecDepth 20000 in
theorem dL_law_726 : decode code 726 = .ok (.iconst 1, 1) := by decide +kernel
set_option maxRecDepth 20000 in
theorem dL_law_727 : decode code 727 = .ok (.iadd, 1) := by decide +kernel
set_option maxRecDepth 20000 in
theorem dL_law_728 : decode code 728 = .ok (.iaload, 1) := by decide +kernel
set_option maxRecDepth 20000 in
theorem dL_law_729 : decode code 729 = .ok (.aload_n 0, 1) := by decide +kernel
set_option maxRecDepth 20000 in
theorem dL_law_730 : decode code 730 = .ok (.iload_n 3, 1) := by decide +kernel
set_option maxRecDepth 20000 in
theorem dL_law_731 : decode code 731 = .ok (.iconst 2, 1) := by decide +kernel
set_option maxRecDepth 20000 in
theorem dL_law_732 : decode code 732 = .ok (.iadd, 1) := by decide +kernel
set_option maxRecDepth 20000 in
theorem dL_law_733 : decode code 733 = .ok (.iaload, 1) := by decide +kernel
set_option maxRecDepth 20000 in
theorem dL_law_734 : decode code 734 = .ok (.invokevirtual 90, 3) := by decide +kernel
set_option maxRecDepth 20000 in
theorem dL_law_737 : decode code 737 = .ok (.if_icmp .eq 468, 3) := by decide +kernel
set_option maxRecDepth 20000 in
theorem dL_law_740 : decode code 740 = .ok (.iconst 0, 1) := by decide +kernel
set_option maxRecDepth 20000 in
theorem dL_law_741 : decode code 741 = .ok (.ireturn, 1) := by decide +kernel
set_option maxRecDepth 20000 in
theorem dL_law_742 : decode code 742 = .ok (.aload_n 1, 1) := by decide +kernel
set_option maxRecDepth 20000 in
theorem dL_law_743 : decode code 743 = .ok (.aload_n 0, 1) := by decide +kernel
set_option maxRecDepth 20000 in
theorem dL_law_744 : decode code 744 = .ok (.iload_n 3, 1) := by decide +kernel
set_option maxRecDepth 20000 in
theorem dL_law_745 : decode code 745 = .ok (.iconst 1, 1) := by decide +kernel
set_option maxRecDepth 20000 in
theorem dL_law_746 : decode code 746 = .ok (.iadd, 1) := by decide +kernel
set_option maxRecDepth 20000 in
theorem dL_law_747 : decode code 747 = .ok (.iaload, 1) := by decide +kernel
set_option maxRecDepth 20000 in
theorem dL_law_748 : decode code 748 = .ok (.invokevirtual 91, 3) := by decide +kernel
set_option maxRecDepth 20000 in
theorem dL_law_751 : decode code 751 = .ok (.aload_n 2, 1) := by decide +kernel
set_option maxRecDepth 20000 in
theorem dL_law_752 : decode code 752 = .ok (.aload_n 0, 1) := by decide +kernel
set_option maxRecDepth 20000 in
theorem dL_law_753 : decode code 753 = .ok (.iload_n 3, 1) := by decide +kernel
set_option maxRecDepth 20000 in
theorem dL_law_754 : decode code 754 = .ok (.iconst 1, 1) := by decide +kernel
set_option maxRecDepth 20000 in
theorem dL_law_755 : decode code 755 = .ok (.iadd, 1) := by decide +kernel
set_option maxRecDepth 20000 in
theorem dL_law_756 : decode code 756 = .ok (.iaload, 1) := by decide +kernel
set_option maxRecDepth 20000 in
theorem dL_law_757 : decode code 757 = .ok (.invokevirtual 94, 3) := by decide +kernel
set_option maxRecDepth 20000 in
theorem dL_law_760 : decode code 760 = .ok (.if_icmp .eq 445, 3) := by decide +kernel
set_option maxRecDepth 20000 in
theorem dL_law_763 : decode code 763 = .ok (.iconst 0, 1) := by decide +kernel
set_option maxRecDepth 20000 in
theorem dL_law_764 : decode code 764 = .ok (.ireturn, 1) := by decide +kernel
set_option maxRecDepth 20000 in
theorem dL_law_765 : decode code 765 = .ok (.aload_n 1, 1) := by decide +kernel
set_option maxRecDepth 20000 in
theorem dL_law_766 : decode code 766 = .ok (.aload_n 0, 1) := by decide +kernel
set_option maxRecDepth 20000 in
theorem dL_law_767 : decode code 767 = .ok (.iload_n 3, 1) := by decide +kernel
set_option maxRecDepth 20000 in
theorem dL_law_768 : decode code 768 = .ok (.iconst 1, 1) := by decide +kernel
set_option maxRecDepth 20000 in
theorem dL_law_769 : decode code 769 = .ok (.iadd, 1) := by decide +kernel
set_option maxRecDepth 20000 in
theorem dL_law_770 : decode code 770 = .ok (.iaload, 1) := by decide +kernel
set_option maxRecDepth 20000 in
theorem dL_law_771 : decode code 771 = .ok (.aload_n 0, 1) := by decide +kernel
set_option maxRecDepth 20000 in
theorem dL_law_772 : decode code 772 = .ok (.iload_n 3, 1) := by decide +kernel
set_option maxRecDepth 20000 in
theorem dL_law_773 : decode code 773 = .ok (.iconst 2, 1) := by decide +kernel
set_option maxRecDepth 20000 in
theorem dL_law_774 : decode code 774 = .ok (.iadd, 1) := by decide +kernel
set_option maxRecDepth 20000 in
theorem dL_law_775 : decode code 775 = .ok (.iaload, 1) := by decide +kernel
set_option maxRecDepth 20000 in
theorem dL_law_776 : decode code 776 = .ok (.invokevirtual 95, 3) := by decide +kernel
set_option maxRecDepth 20000 in
theorem dL_law_779 : decode code 779 = .ok (.aload_n 2, 1) := by decide +kernel
set_option maxRecDepth 20000 in
theorem dL_law_780 : decode code 780 = .ok (.aload_n 0, 1) := by decide +kernel
set_option maxRecDepth 20000 in
theorem dL_law_781 : decode code 781 = .ok (.iload_n 3, 1) := by decide +kernel
set_option maxRecDepth 20000 in
theorem dL_law_782 : decode code 782 = .ok (.iconst 1, 1) := by decide +kernel
set_option maxRecDepth 20000 in
theorem dL_law_783 : decode code 783 = .ok (.iadd, 1) := by decide +kernel
set_option maxRecDepth 20000 in
theorem dL_law_784 : decode code 784 = .ok (.iaload, 1) := by decide +kernel
set_option maxRecDepth 20000 in
theorem dL_law_785 : decode code 785 = .ok (.aload_n 0, 1) := by decide +kernel
set_option maxRecDepth 20000 in
theorem dL_law_786 : decode code 786 = .ok (.iload_n 3, 1) := by decide +kernel
set_option maxRecDepth 20000 in
theorem dL_law_787 : decode code 787 = .ok (.iconst 2, 1) := by decide +kernel
set_option maxRecDepth 20000 in
theorem dL_law_788 : decode code 788 = .ok (.iadd, 1) := by decide +kernel
set_option maxRecDepth 20000 in
theorem dL_law_789 : decode code 789 = .ok (.iaload, 1) := by decide +kernel
set_option maxRecDepth 20000 in
theorem dL_law_790 : decode code 790 = .ok (.invokevirtual 98, 3) := by decide +kernel
set_option maxRecDepth 20000 in
theorem dL_law_793 : decode code 793 = .ok (.if_icmp .eq 412, 3) := by decide +kernel
set_option maxRecDepth 20000 in
theorem dL_law_796 : decode code 796 = .ok (.iconst 0, 1) := by decide +kernel
set_option maxRecDepth 20000 in
theorem dL_law_797 : decode code 797 = .ok (.ireturn, 1) := by decide +kernel
set_option maxRecDepth 20000 in
theorem dL_law_798 : decode code 798 = .ok (.aload_n 1, 1) := by decide +kernel
set_option maxRecDepth 20000 in
theorem dL_law_799 : decode code 799 = .ok (.invokevirtual 99, 3) := by decide +kernel
set_option maxRecDepth 20000 in
theorem dL_law_802 : decode code 802 = .ok (.aload_n 2, 1) := by decide +kernel
set_option maxRecDepth 20000 in
theorem dL_law_803 : decode code 803 = .ok (.invokevirtual 102, 3) := by decide +kernel
set_option maxRecDepth 20000 in
theorem dL_law_806 : decode code 806 = .ok (.if_icmp .eq 399, 3) := by decide +kernel
set_option maxRecDepth 20000 in
theorem dL_law_809 : decode code 809 = .ok (.iconst 0, 1) := by decide +kernel
set_option maxRecDepth 20000 in
theorem dL_law_810 : decode code 810 = .ok (.ireturn, 1) := by decide +kernel
set_option maxRecDepth 20000 in
theorem dL_law_811 : decode code 811 = .ok (.aload_n 1, 1) := by decide +kernel
set_option maxRecDepth 20000 in
theorem dL_law_812 : decode code 812 = .ok (.aload_n 0, 1) := by decide +kernel
set_option maxRecDepth 20000 in
theorem dL_law_813 : decode code 813 = .ok (.iload_n 3, 1) := by decide +kernel
set_option maxRecDepth 20000 in
theorem dL_law_814 : decode code 814 = .ok (.iconst 1, 1) := by decide +kernel
set_option maxRecDepth 20000 in
theorem dL_law_815 : decode code 815 = .ok (.iadd, 1) := by decide +kernel
set_option maxRecDepth 20000 in
theorem dL_law_816 : decode code 816 = .ok (.iaload, 1) := by decide +kernel
set_option maxRecDepth 20000 in
theorem dL_law_817 : decode code 817 = .ok (.aload_n 0, 1) := by decide +kernel
set_option maxRecDepth 20000 in
theorem dL_law_818 : decode code 818 = .ok (.iload_n 3, 1) := by decide +kernel
set_option maxRecDepth 20000 in
theorem dL_law_819 : decode code 819 = .ok (.iconst 2, 1) := by decide +kernel
set_option maxRecDepth 20000 in
theorem dL_law_820 : decode code 820 = .ok (.iadd, 1) := by decide +kernel
set_option maxRecDepth 20000 in
theorem dL_law_821 : decode code 821 = .ok (.iaload, 1) := by decide +kernel
set_option maxRecDepth 20000 in
theorem dL_law_822 : decode code 822 = .ok (.invokevirtual 103, 3) := by decide +kernel
set_option maxRecDepth 20000 in
theorem dL_law_825 : decode code 825 = .ok (.aload_n 2, 1) := by decide +kernel
set_option maxRecDepth 20000 in
theorem dL_law_826 : decode code 826 = .ok (.aload_n 0, 1) := by decide +kernel
set_option maxRecDepth 20000 in
theorem dL_law_827 : decode code 827 = .ok (.iload_n 3, 1) := by decide +kernel
set_option maxRecDepth 20000 in
theorem dL_law_828 : decode code 828 = .ok (.iconst 1, 1) := by decide +kernel
set_option maxRecDepth 20000 in
theorem dL_law_829 : decode code 829 = .ok (.iadd, 1) := by decide +kernel
set_option maxRecDepth 20000 in
theorem dL_law_830 : decode code 830 = .ok (.iaload, 1) := by decide +kernel
set_option maxRecDepth 20000 in
theorem dL_law_831 : decode code 831 = .ok (.aload_n 0, 1) := by decide +kernel
set_option maxRecDepth 20000 in
theorem dL_law_832 : decode code 832 = .ok (.iload_n 3, 1) := by decide +kernel
set_option maxRecDepth 20000 in
theorem dL_law_833 : decode code 833 = .ok (.iconst 2, 1) := by decide +kernel
set_option maxRecDepth 20000 in
theorem dL_law_834 : decode code 834 = .ok (.iadd, 1) := by decide +kernel
set_option maxRecDepth 20000 in
theorem dL_law_835 : decode code 835 = .ok (.iaload, 1) := by decide +kernel
set_option maxRecDepth 20000 in
theorem dL_law_836 : decode code 836 = .ok (.invokevirtual 106, 3) := by decide +kernel
set_option maxRecDepth 20000 in
theorem dL_law_839 : decode code 839 = .ok (.if_icmp .eq 366, 3) := by decide +kernel
set_option maxRecDepth 20000 in
theorem dL_law_842 : decode code 842 = .ok (.iconst 0, 1) := by decide +kernel
set_option maxRecDepth 20000 in
theorem dL_law_843 : decode code 843 = .ok (.ireturn, 1) := by decide +kernel
set_option maxRecDepth 20000 in
theorem dL_law_844 : decode code 844 = .ok (.aload_n 1, 1) := by decide +kernel
set_option maxRecDepth 20000 in
theorem dL_law_845 : decode code 845 = .ok (.invokevirtual 107, 3) := by decide +kernel
set_option maxRecDepth 20000 in
theorem dL_law_848 : decode code 848 = .ok (.aload_n 2, 1) := by decide +kernel
set_option maxRecDepth 20000 in
theorem dL_law_849 : decode code 849 = .ok (.invokevirtual 110, 3) := by decide +kernel
set_option maxRecDepth 20000 in
theorem dL_law_852 : decode code 852 = .ok (.if_icmp .eq 353, 3) := by decide +kernel
set_option maxRecDepth 20000 in
theorem dL_law_855 : decode code 855 = .ok (.iconst 0, 1) := by decide +kernel
set_option maxRecDepth 20000 in
theorem dL_law_856 : decode code 856 = .ok (.ireturn, 1) := by decide +kernel
set_option maxRecDepth 20000 in
theorem dL_law_857 : decode code 857 = .ok (.aload_n 1, 1) := by decide +kernel
set_option maxRecDepth 20000 in
theorem dL_law_858 : decode code 858 = .ok (.invokevirtual 111, 3) := by decide +kernel
set_option maxRecDepth 20000 in
theorem dL_law_861 : decode code 861 = .ok (.aload_n 2, 1) := by decide +kernel
set_option maxRecDepth 20000 in
theorem dL_law_862 : decode code 862 = .ok (.invokevirtual 114, 3) := by decide +kernel
set_option maxRecDepth 20000 in
theorem dL_law_865 : decode code 865 = .ok (.if_icmp .eq 340, 3) := by decide +kernel
set_option maxRecDepth 20000 in
theorem dL_law_868 : decode code 868 = .ok (.iconst 0, 1) := by decide +kernel
set_option maxRecDepth 20000 in
theorem dL_law_869 : decode code 869 = .ok (.ireturn, 1) := by decide +kernel
set_option maxRecDepth 20000 in
theorem dL_law_870 : decode code 870 = .ok (.aload_n 1, 1) := by decide +kernel
set_option maxRecDepth 20000 in
theorem dL_law_871 : decode code 871 = .ok (.aload_n 0, 1) := by decide +kernel
set_option maxRecDepth 20000 in
theorem dL_law_872 : decode code 872 = .ok (.iload_n 3, 1) := by decide +kernel
set_option maxRecDepth 20000 in
theorem dL_law_873 : decode code 873 = .ok (.iconst 1, 1) := by decide +kernel
set_option maxRecDepth 20000 in
theorem dL_law_874 : decode code 874 = .ok (.iadd, 1) := by decide +kernel
set_option maxRecDepth 20000 in
theorem dL_law_875 : decode code 875 = .ok (.iaload, 1) := by decide +kernel
set_option maxRecDepth 20000 in
theorem dL_law_876 : decode code 876 = .ok (.aload_n 0, 1) := by decide +kernel
set_option maxRecDepth 20000 in
theorem dL_law_877 : decode code 877 = .ok (.iload_n 3, 1) := by decide +kernel
set_option maxRecDepth 20000 in
theorem dL_law_878 : decode code 878 = .ok (.iconst 2, 1) := by decide +kernel
set_option maxRecDepth 20000 in
theorem dL_law_879 : decode code 879 = .ok (.iadd, 1) := by decide +kernel
set_option maxRecDepth 20000 in
theorem dL_law_880 : decode code 880 = .ok (.iaload, 1) := by decide +kernel
set_option maxRecDepth 20000 in
theorem dL_law_881 : decode code 881 = .ok (.aload_n 0, 1) := by decide +kernel
set_option maxRecDepth 20000 in
theorem dL_law_882 : decode code 882 = .ok (.iload_n 3, 1) := by decide +kernel
set_option maxRecDepth 20000 in
theorem dL_law_883 : decode code 883 = .ok (.iconst 3, 1) := by decide +kernel
set_option maxRecDepth 20000 in
theorem dL_law_884 : decode code 884 = .ok (.iadd, 1) := by decide +kernel
set_option maxRecDepth 20000 in
theorem dL_law_885 : decode code 885 = .ok (.iaload, 1) := by decide +kernel
set_option maxRecDepth 20000 in
theorem dL_law_886 : decode code 886 = .ok (.invokevirtual 115, 3) := by decide +kernel
set_option maxRecDepth 20000 in
theorem dL_law_889 : decode code 889 = .ok (.aload_n 2, 1) := by decide +kernel
set_option maxRecDepth 20000 in
theorem dL_law_890 : decode code 890 = .ok (.aload_n 0, 1) := by decide +kernel
set_option maxRecDepth 20000 in
theorem dL_law_891 : decode code 891 = .ok (.iload_n 3, 1) := by decide +kernel
set_option maxRecDepth 20000 in
theorem dL_law_892 : decode code 892 = .ok (.iconst 1, 1) := by decide +kernel
set_option maxRecDepth 20000 in
theorem dL_law_893 : decode code 893 = .ok (.iadd, 1) := by decide +kernel
set_option maxRecDepth 20000 in
theorem dL_law_894 : decode code 894 = .ok (.iaload, 1) := by decide +kernel
set_option maxRecDepth 20000 in
theorem dL_law_895 : decode code 895 = .ok (.aload_n 0, 1) := by decide +kernel
set_option maxRecDepth 20000 in
theorem dL_law_896 : decode code 896 = .ok (.iload_n 3, 1) := by decide +kernel
set_option maxRecDepth 20000 in
theorem dL_law_897 : decode code 897 = .ok (.iconst 2, 1) := by decide +kernel
set_option maxRecDepth 20000 in
theorem dL_law_898 : decode code 898 = .ok (.iadd, 1) := by decide +kernel
set_option maxRecDepth 20000 in
theorem dL_law_899 : decode code 899 = .ok (.iaload, 1) := by decide +kernel
set_option maxRecDepth 20000 in
theorem dL_law_900 : decode code 900 = .ok (.aload_n 0, 1) := by decide +kernel
set_option maxRecDepth 20000 in
theorem dL_law_901 : decode code 901 = .ok (.iload_n 3, 1) := by decide +kernel
set_option maxRecDepth 20000 in
theorem dL_law_902 : decode code 902 = .ok (.iconst 3, 1) := by decide +kernel
set_option maxRecDepth 20000 in
theorem dL_law_903 : decode code 903 = .ok (.iadd, 1) := by decide +kernel
set_option maxRecDepth 20000 in
theorem dL_law_904 : decode code 904 = .ok (.iaload, 1) := by decide +kernel
set_option maxRecDepth 20000 in
theorem dL_law_905 : decode code 905 = .ok (.invokevirtual 118, 3) := by decide +kernel
set_option maxRecDepth 20000 in
theorem dL_law_908 : decode code 908 = .ok (.if_icmp .eq 297, 3) := by decide +kernel
set_option maxRecDepth 20000 in
theorem dL_law_911 : decode code 911 = .ok (.iconst 0, 1) := by decide +kernel
set_option maxRecDepth 20000 in
theorem dL_law_912 : decode code 912 = .ok (.ireturn, 1) := by decide +kernel
set_option maxRecDepth 20000 in
theorem dL_law_913 : decode code 913 = .ok (.aload_n 1, 1) := by decide +kernel
set_option maxRecDepth 20000 in
theorem dL_law_914 : decode code 914 = .ok (.aload_n 0, 1) := by decide +kernel
set_option maxRecDepth 20000 in
theorem dL_law_915 : decode code 915 = .ok (.iload_n 3, 1) := by decide +kernel
set_option maxRecDepth 20000 in
theorem dL_law_916 : decode code 916 = .ok (.iconst 1, 1) := by decide +kernel
set_option maxRecDepth 20000 in
theorem dL_law_917 : decode code 917 = .ok (.iadd, 1) := by decide +kernel
set_option maxRecDepth 20000 in
theorem dL_law_918 : decode code 918 = .ok (.iaload, 1) := by decide +kernel
set_option maxRecDepth 20000 in
theorem dL_law_919 : decode code 919 = .ok (.invokevirtual 119, 3) := by decide +kernel
set_option maxRecDepth 20000 in
theorem dL_law_922 : decode code 922 = .ok (.aload_n 2, 1) := by decide +kernel
set_option maxRecDepth 20000 in
theorem dL_law_923 : decode code 923 = .ok (.aload_n 0, 1) := by decide +kernel
set_option maxRecDepth 20000 in
theorem dL_law_924 : decode code 924 = .ok (.iload_n 3, 1) := by decide +kernel
set_option maxRecDepth 20000 in
theorem dL_law_925 : decode code 925 = .ok (.iconst 1, 1) := by decide +kernel
set_option maxRecDepth 20000 in
theorem dL_law_926 : decode code 926 = .ok (.iadd, 1) := by decide +kernel
set_option maxRecDepth 20000 in
theorem dL_law_927 : decode code 927 = .ok (.iaload, 1) := by decide +kernel
set_option maxRecDepth 20000 in
theorem dL_law_928 : decode code 928 = .ok (.invokevirtual 122, 3) := by decide +kernel
set_option maxRecDepth 20000 in
theorem dL_law_931 : decode code 931 = .ok (.if_icmp .eq 274, 3) := by decide +kernel
set_option maxRecDepth 20000 in
theorem dL_law_934 : decode code 934 = .ok (.iconst 0, 1) := by decide +kernel
set_option maxRecDepth 20000 in
theorem dL_law_935 : decode code 935 = .ok (.ireturn, 1) := by decide +kernel
set_option maxRecDepth 20000 in
theorem dL_law_936 : decode code 936 = .ok (.aload_n 1, 1) := by decide +kernel
set_option maxRecDepth 20000 in
theorem dL_law_937 : decode code 937 = .ok (.aload_n 0, 1) := by decide +kernel
set_option maxRecDepth 20000 in
theorem dL_law_938 : decode code 938 = .ok (.iload_n 3, 1) := by decide +kernel
set_option maxRecDepth 20000 in
theorem dL_law_939 : decode code 939 = .ok (.iconst 1, 1) := by decide +kernel
set_option maxRecDepth 20000 in
theorem dL_law_940 : decode code 940 = .ok (.iadd, 1) := by decide +kernel
set_option maxRecDepth 20000 in
theorem dL_law_941 : decode code 941 = .ok (.iaload, 1) := by decide +kernel
set_option maxRecDepth 20000 in
theorem dL_law_942 : decode code 942 = .ok (.aload_n 0, 1) := by decide +kernel
set_option maxRecDepth 20000 in
theorem dL_law_943 : decode code 943 = .ok (.iload_n 3, 1) := by decide +kernel
set_option maxRecDepth 20000 in
theorem dL_law_944 : decode code 944 = .ok (.iconst 2, 1) := by decide +kernel
set_option maxRecDepth 20000 in
theorem dL_law_945 : decode code 945 = .ok (.iadd, 1) := by decide +kernel
set_option maxRecDepth 20000 in
theorem dL_law_946 : decode code 946 = .ok (.iaload, 1) := by decide +kernel
set_option maxRecDepth 20000 in
theorem dL_law_947 : decode code 947 = .ok (.invokevirtual 123, 3) := by decide +kernel
set_option maxRecDepth 20000 in
theorem dL_law_950 : decode code 950 = .ok (.aload_n 2, 1) := by decide +kernel
set_option maxRecDepth 20000 in
theorem dL_law_951 : decode code 951 = .ok (.aload_n 0, 1) := by decide +kernel
set_option maxRecDepth 20000 in
theorem dL_law_952 : decode code 952 = .ok (.iload_n 3, 1) := by decide +kernel
set_option maxRecDepth 20000 in
theorem dL_law_953 : decode code 953 = .ok (.iconst 1, 1) := by decide +kernel
set_option maxRecDepth 20000 in
theorem dL_law_954 : decode code 954 = .ok (.iadd, 1) := by decide +kernel
set_option maxRecDepth 20000 in
theorem dL_law_955 : decode code 955 = .ok (.iaload, 1) := by decide +kernel
set_option maxRecDepth 20000 in
theorem dL_law_956 : decode code 956 = .ok (.aload_n 0, 1) := by decide +kernel
set_option maxRecDepth 20000 in
theorem dL_law_957 : decode code 957 = .ok (.iload_n 3, 1) := by decide +kernel
set_option maxRecDepth 20000 in
theorem dL_law_958 : decode code 958 = .ok (.iconst 2, 1) := by decide +kernel
set_option maxRecDepth 20000 in
theorem dL_law_959 : decode code 959 = .ok (.iadd, 1) := by decide +kernel
set_option maxRecDepth 20000 in
theorem dL_law_960 : decode code 960 = .ok (.iaload, 1) := by decide +kernel
set_option maxRecDepth 20000 in
theorem dL_law_961 : decode code 961 = .ok (.invokevirtual 126, 3) := by decide +kernel
set_option maxRecDepth 20000 in
theorem dL_law_964 : decode code 964 = .ok (.if_icmp .eq 241, 3) := by decide +kernel
set_option maxRecDepth 20000 in
theorem dL_law_967 : decode code 967 = .ok (.iconst 0, 1) := by decide +kernel
set_option maxRecDepth 20000 in
theorem dL_law_968 : decode code 968 = .ok (.ireturn, 1) := by decide +kernel
set_option maxRecDepth 20000 in
theorem dL_law_969 : decode code 969 = .ok (.aload_n 1, 1) := by decide +kernel
set_option maxRecDepth 20000 in
theorem dL_law_970 : decode code 970 = .ok (.aload_n 0, 1) := by decide +kernel
set_option maxRecDepth 20000 in
theorem dL_law_971 : decode code 971 = .ok (.iload_n 3, 1) := by decide +kernel
set_option maxRecDepth 20000 in
theorem dL_law_972 : decode code 972 = .ok (.iconst 1, 1) := by decide +kernel
set_option maxRecDepth 20000 in
theorem dL_law_973 : decode code 973 = .ok (.iadd, 1) := by decide +kernel
set_option maxRecDepth 20000 in
theorem dL_law_974 : decode code 974 = .ok (.iaload, 1) := by decide +kernel
set_option maxRecDepth 20000 in
theorem dL_law_975 : decode code 975 = .ok (.invokevirtual 127, 3) := by decide +kernel
set_option maxRecDepth 20000 in
theorem dL_law_978 : decode code 978 = .ok (.aload_n 2, 1) := by decide +kernel
set_option maxRecDepth 20000 in
theorem dL_law_979 : decode code 979 = .ok (.aload_n 0, 1) := by decide +kernel
set_option maxRecDepth 20000 in
theorem dL_law_980 : decode code 980 = .ok (.iload_n 3, 1) := by decide +kernel
set_option maxRecDepth 20000 in
theorem dL_law_981 : decode code 981 = .ok (.iconst 1, 1) := by decide +kernel
set_option maxRecDepth 20000 in
theorem dL_law_982 : decode code 982 = .ok (.iadd, 1) := by decide +kernel
set_option maxRecDepth 20000 in
theorem dL_law_983 : decode code 983 = .ok (.iaload, 1) := by decide +kernel
set_option maxRecDepth 20000 in
theorem dL_law_984 : decode code 984 = .ok (.invokevirtual 130, 3) := by decide +kernel
set_option maxRecDepth 20000 in
theorem dL_law_987 : decode code 987 = .ok (.if_icmp .eq 218, 3) := by decide +kernel
set_option maxRecDepth 20000 in
theorem dL_law_990 : decode code 990 = .ok (.iconst 0, 1) := by decide +kernel
set_option maxRecDepth 20000 in
theorem dL_law_991 : decode code 991 = .ok (.ireturn, 1) := by decide +kernel
set_option maxRecDepth 20000 in
theorem dL_law_992 : decode code 992 = .ok (.aload_n 1, 1) := by decide +kernel
set_option maxRecDepth 20000 in
theorem dL_law_993 : decode code 993 = .ok (.aload_n 0, 1) := by decide +kernel
set_option maxRecDepth 20000 in
theorem dL_law_994 : decode code 994 = .ok (.iload_n 3, 1) := by decide +kernel
set_option maxRecDepth 20000 in
theorem dL_law_995 : decode code 995 = .ok (.iconst 1, 1) := by decide +kernel
set_option maxRecDepth 20000 in
theorem dL_law_996 : decode code 996 = .ok (.iadd, 1) := by decide +kernel
set_option maxRecDepth 20000 in
theorem dL_law_997 : decode code 997 = .ok (.iaload, 1) := by decide +kernel
set_option maxRecDepth 20000 in
theorem dL_law_998 : decode code 998 = .ok (.aload_n 0, 1) := by decide +kernel
set_option maxRecDepth 20000 in
theorem dL_law_999 : decode code 999 = .ok (.iload_n 3, 1) := by decide +kernel
set_option maxRecDepth 20000 in
theorem dL_law_1000 : decode code 1000 = .ok (.iconst 2, 1) := by decide +kernel
set_option maxRecDepth 20000 in
theorem dL_law_1001 : decode code 1001 = .ok (.iadd, 1) := by decide +kernel
set_option maxRecDepth 20000 in
theorem dL_law_1002 : decode code 1002 = .ok (.iaload, 1) := by decide +kernel
set_option maxRecDepth 20000 in
theorem dL_law_1003 : decode code 1003 = .ok (.aload_n 0, 1) := by decide +kernel
set_option maxRecDepth 20000 in
theorem dL_law_1004 : decode code 1004 = .ok (.iload_n 3, 1) := by decide +kernel
set_option maxRecDepth 20000 in
theorem dL_law_1005 : decode code 1005 = .ok (.iconst 3, 1) := by decide +kernel
set_option maxRecDepth 20000 in
theorem dL_law_1006 : decode code 1006 = .ok (.iadd, 1) := by decide +kernel
set_option maxRecDepth 20000 in
theorem dL_law_1007 : decode code 1007 = .ok (.iaload, 1) := by decide +kernel
set_option maxRecDepth 20000 in
theorem dL_law_1008 : decode code 1008 = .ok (.invokevirtual 131, 3) := by decide +kernel
set_option maxRecDepth 20000 in
theorem dL_law_1011 : decode code 1011 = .ok (.aload_n 2, 1) := by decide +kernel
set_option maxRecDepth 20000 in
theorem dL_law_1012 : decode code 1012 = .ok (.aload_n 0, 1) := by decide +kernel
set_option maxRecDepth 20000 in
theorem dL_law_1013 : decode code 1013 = .ok (.iload_n 3, 1) := by decide +kernel
set_option maxRecDepth 20000 in
theorem dL_law_1014 : decode code 1014 = .ok (.iconst 1, 1) := by decide +kernel
set_option maxRecDepth 20000 in
theorem dL_law_1015 : decode code 1015 = .ok (.iadd, 1) := by decide +kernel
set_option maxRecDepth 20000 in
theorem dL_law_1016 : decode code 1016 = .ok (.iaload, 1) := by decide +kernel
set_option maxRecDepth 20000 in
theorem dL_law_1017 : decode code 1017 = .ok (.aload_n 0, 1) := by decide +kernel
set_option maxRecDepth 20000 in
theorem dL_law_1018 : decode code 1018 = .ok (.iload_n 3, 1) := by decide +kernel
set_option maxRecDepth 20000 in
theorem dL_law_1019 : decode code 1019 = .ok (.iconst 2, 1) := by decide +kernel
set_option maxRecDepth 20000 in
theorem dL_law_1020 : decode code 1020 = .ok (.iadd, 1) := by decide +kernel
set_option maxRecDepth 20000 in
theorem dL_law_1021 : decode code 1021 = .ok (.iaload, 1) := by decide +kernel
set_option maxRecDepth 20000 in
theorem dL_law_1022 : decode code 1022 = .ok (.aload_n 0, 1) := by decide +kernel
set_option maxRecDepth 20000 in
theorem dL_law_1023 : decode code 1023 = .ok (.iload_n 3, 1) := by decide +kernel
set_option maxRecDepth 20000 in
theorem dL_law_1024 : decode code 1024 = .ok (.iconst 3, 1) := by decide +kernel
set_option maxRecDepth 20000 in
theorem dL_law_1025 : decode code 1025 = .ok (.iadd, 1) := by decide +kernel
set_option maxRecDepth 20000 in
theorem dL_law_1026 : decode code 1026 = .ok (.iaload, 1) := by decide +kernel
set_option maxRecDepth 20000 in
theorem dL_law_1027 : decode code 1027 = .ok (.invokevirtual 134, 3) := by decide +kernel
set_option maxRecDepth 20000 in
theorem dL_law_1030 : decode code 1030 = .ok (.if_icmp .eq 175, 3) := by decide +kernel
set_option maxRecDepth 20000 in
theorem dL_law_1033 : decode code 1033 = .ok (.iconst 0, 1) := by decide +kernel
set_option maxRecDepth 20000 in
theorem dL_law_1034 : decode code 1034 = .ok (.ireturn, 1) := by decide +kernel
set_option maxRecDepth 20000 in
theorem dL_law_1035 : decode code 1035 = .ok (.aload_n 1, 1) := by decide +kernel
set_option maxRecDepth 20000 in
theorem dL_law_1036 : decode code 1036 = .ok (.aload_n 0, 1) := by decide +kernel
set_option maxRecDepth 20000 in
theorem dL_law_1037 : decode code 1037 = .ok (.iload_n 3, 1) := by decide +kernel
set_option maxRecDepth 20000 in
theorem dL_law_1038 : decode code 1038 = .ok (.iconst 1, 1) := by decide +kernel
set_option maxRecDepth 20000 in
theorem dL_law_1039 : decode code 1039 = .ok (.iadd, 1) := by decide +kernel
set_option maxRecDepth 20000 in
theorem dL_law_1040 : decode code 1040 = .ok (.iaload, 1) := by decide +kernel
set_option maxRecDepth 20000 in
theorem dL_law_1041 : decode code 1041 = .ok (.aload_n 0, 1) := by decide +kernel
set_option maxRecDepth 20000 in
theorem dL_law_1042 : decode code 1042 = .ok (.iload_n 3, 1) := by decide +kernel
set_option maxRecDepth 20000 in
theorem dL_law_1043 : decode code 1043 = .ok (.iconst 2, 1) := by decide +kernel
set_option maxRecDepth 20000 in
theorem dL_law_1044 : decode code 1044 = .ok (.iadd, 1) := by decide +kernel
set_option maxRecDepth 20000 in
theorem dL_law_1045 : decode code 1045 = .ok (.iaload, 1) := by decide +kernel
set_option maxRecDepth 20000 in
theorem dL_law_1046 : decode code 1046 = .ok (.aload_n 0, 1) := by decide +kernel
set_option maxRecDepth 20000 in
theorem dL_law_1047 : decode code 1047 = .ok (.iload_n 3, 1) := by decide +kernel
set_option maxRecDepth 20000 in
theorem dL_law_1048 : decode code 1048 = .ok (.iconst 3, 1) := by decide +kernel
set_option maxRecDepth 20000 in
theorem dL_law_1049 : decode code 1049 = .ok (.iadd, 1) := by decide +kernel
set_option maxRecDepth 20000 in
theorem dL_law_1050 : decode code 1050 = .ok (.iaload, 1) := by decide +kernel
set_option maxRecDepth 20000 in
theorem dL_law_1051 : decode code 1051 = .ok (.i2l, 1) := by decide +kernel
set_option maxRecDepth 20000 in
theorem dL_law_1052 : decode code 1052 = .ok (.bipush 32, 2) := by decide +kernel
set_option maxRecDepth 20000 in
theorem dL_law_1054 : decode code 1054 = .ok (.lshl, 1) := by decide +kernel
set_option maxRecDepth 20000 in
theorem dL_law_1055 : decode code 1055 = .ok (.aload_n 0, 1) := by decide +kernel
set_option maxRecDepth 20000 in
theorem dL_law_1056 : decode code 1056 = .ok (.iload_n 3, 1) := by decide +kernel
set_option maxRecDepth 20000 in
theorem dL_law_1057 : decode code 1057 = .ok (.iconst 4, 1) := by decide +kernel
set_option maxRecDepth 20000 in
theorem dL_law_1058 : decode code 1058 = .ok (.iadd, 1) := by decide +kernel
set_option maxRecDepth 20000 in
theorem dL_law_1059 : decode code 1059 = .ok (.iaload, 1) := by decide +kernel
set_option maxRecDepth 20000 in
theorem dL_law_1060 : decode code 1060 = .ok (.i2l, 1) := by decide +kernel
set_option maxRecDepth 20000 in
theorem dL_law_1061 : decode code 1061 = .ok (.ldc2_w 135, 3) := by decide +kernel
set_option maxRecDepth 20000 in
theorem dL_law_1064 : decode code 1064 = .ok (.land, 1) := by decide +kernel
set_option maxRecDepth 20000 in
theorem dL_law_1065 : decode code 1065 = .ok (.lor, 1) := by decide +kernel
set_option maxRecDepth 20000 in
theorem dL_law_1066 : decode code 1066 = .ok (.invokevirtual 137, 3) := by decide +kernel
set_option maxRecDepth 20000 in
theorem dL_law_1069 : decode code 1069 = .ok (.aload_n 2, 1) := by decide +kernel
set_option maxRecDepth 20000 in
theorem dL_law_1070 : decode code 1070 = .ok (.aload_n 0, 1) := by decide +kernel
set_option maxRecDepth 20000 in
theorem dL_law_1071 : decode code 1071 = .ok (.iload_n 3, 1) := by decide +kernel
set_option maxRecDepth 20000 in
theorem dL_law_1072 : decode code 1072 = .ok (.iconst 1, 1) := by decide +kernel
set_option maxRecDepth 20000 in
theorem dL_law_1073 : decode code 1073 = .ok (.iadd, 1) := by decide +kernel
set_option maxRecDepth 20000 in
theorem dL_law_1074 : decode code 1074 = .ok (.iaload, 1) := by decide +kernel
set_option maxRecDepth 20000 in
theorem dL_law_1075 : decode code 1075 = .ok (.aload_n 0, 1) := by decide +kernel
set_option maxRecDepth 20000 in
theorem dL_law_1076 : decode code 1076 = .ok (.iload_n 3, 1) := by decide +kernel
set_option maxRecDepth 20000 in
theorem dL_law_1077 : decode code 1077 = .ok (.iconst 2, 1) := by decide +kernel
set_option maxRecDepth 20000 in
theorem dL_law_1078 : decode code 1078 = .ok (.iadd, 1) := by decide +kernel
set_option maxRecDepth 20000 in
theorem dL_law_1079 : decode code 1079 = .ok (.iaload, 1) := by decide +kernel
set_option maxRecDepth 20000 in
theorem dL_law_1080 : decode code 1080 = .ok (.aload_n 0, 1) := by decide +kernel
set_option maxRecDepth 20000 in
theorem dL_law_1081 : decode code 1081 = .ok (.iload_n 3, 1) := by decide +kernel
set_option maxRecDepth 20000 in
theorem dL_law_1082 : decode code 1082 = .ok (.iconst 3, 1) := by decide +kernel
set_option maxRecDepth 20000 in
theorem dL_law_1083 : decode code 1083 = .ok (.iadd, 1) := by decide +kernel
set_option maxRecDepth 20000 in
theorem dL_law_1084 : decode code 1084 = .ok (.iaload, 1) := by decide +kernel
set_option maxRecDepth 20000 in
theorem dL_law_1085 : decode code 1085 = .ok (.i2l, 1) := by decide +kernel
set_option maxRecDepth 20000 in
theorem dL_law_1086 : decode code 1086 = .ok (.bipush 32, 2) := by decide +kernel
set_option maxRecDepth 20000 in
theorem dL_law_1088 : decode code 1088 = .ok (.lshl, 1) := by decide +kernel
set_option maxRecDepth 20000 in
theorem dL_law_1089 : decode code 1089 = .ok (.aload_n 0, 1) := by decide +kernel
set_option maxRecDepth 20000 in
theorem dL_law_1090 : decode code 1090 = .ok (.iload_n 3, 1) := by decide +kernel
set_option maxRecDepth 20000 in
theorem dL_law_1091 : decode code 1091 = .ok (.iconst 4, 1) := by decide +kernel
set_option maxRecDepth 20000 in
theorem dL_law_1092 : decode code 1092 = .ok (.iadd, 1) := by decide +kernel
set_option maxRecDepth 20000 in
theorem dL_law_1093 : decode code 1093 = .ok (.iaload, 1) := by decide +kernel
set_option maxRecDepth 20000 in
theorem dL_law_1094 : decode code 1094 = .ok (.i2l, 1) := by decide +kernel
set_option maxRecDepth 20000 in
theorem dL_law_1095 : decode code 1095 = .ok (.ldc2_w 135, 3) := by decide +kernel
set_option maxRecDepth 20000 in
theorem dL_law_1098 : decode code 1098 = .ok (.land, 1) := by decide +kernel
set_option maxRecDepth 20000 in
theorem dL_law_1099 : decode code 1099 = .ok (.lor, 1) := by decide +kernel
set_option maxRecDepth 20000 in
theorem dL_law_1100 : decode code 1100 = .ok (.invokevirtual 141, 3) := by decide +kernel
set_option maxRecDepth 20000 in
theorem dL_law_1103 : decode code 1103 = .ok (.if_icmp .eq 102, 3) := by decide +kernel
set_option maxRecDepth 20000 in
theorem dL_law_1106 : decode code 1106 = .ok (.iconst 0, 1) := by decide +kernel
set_option maxRecDepth 20000 in
theorem dL_law_1107 : decode code 1107 = .ok (.ireturn, 1) := by decide +kernel
set_option maxRecDepth 20000 in
theorem dL_law_1108 : decode code 1108 = .ok (.aload_n 1, 1) := by decide +kernel
set_option maxRecDepth 20000 in
theorem dL_law_1109 : decode code 1109 = .ok (.aload_n 0, 1) := by decide +kernel
set_option maxRecDepth 20000 in
theorem dL_law_1110 : decode code 1110 = .ok (.iload_n 3, 1) := by decide +kernel
set_option maxRecDepth 20000 in
theorem dL_law_1111 : decode code 1111 = .ok (.iconst 1, 1) := by decide +kernel
set_option maxRecDepth 20000 in
theorem dL_law_1112 : decode code 1112 = .ok (.iadd, 1) := by decide +kernel
set_option maxRecDepth 20000 in
theorem dL_law_1113 : decode code 1113 = .ok (.iaload, 1) := by decide +kernel
set_option maxRecDepth 20000 in
theorem dL_law_1114 : decode code 1114 = .ok (.aload_n 0, 1) := by decide +kernel
set_option maxRecDepth 20000 in
theorem dL_law_1115 : decode code 1115 = .ok (.iload_n 3, 1) := by decide +kernel
set_option maxRecDepth 20000 in
theorem dL_law_1116 : decode code 1116 = .ok (.iconst 2, 1) := by decide +kernel
set_option maxRecDepth 20000 in
theorem dL_law_1117 : decode code 1117 = .ok (.iadd, 1) := by decide +kernel
set_option maxRecDepth 20000 in
theorem dL_law_1118 : decode code 1118 = .ok (.iaload, 1) := by decide +kernel
set_option maxRecDepth 20000 in
theorem dL_law_1119 : decode code 1119 = .ok (.invokevirtual 142, 3) := by decide +kernel
set_option maxRecDepth 20000 in
theorem dL_law_1122 : decode code 1122 = .ok (.aload_n 2, 1) := by decide +kernel
set_option maxRecDepth 20000 in
theorem dL_law_1123 : decode code 1123 = .ok (.aload_n 0, 1) := by decide +kernel
set_option maxRecDepth 20000 in
theorem dL_law_1124 : decode code 1124 = .ok (.iload_n 3, 1) := by decide +kernel
set_option maxRecDepth 20000 in
theorem dL_law_1125 : decode code 1125 = .ok (.iconst 1, 1) := by decide +kernel
set_option maxRecDepth 20000 in
theorem dL_law_1126 : decode code 1126 = .ok (.iadd, 1) := by decide +kernel
set_option maxRecDepth 20000 in
theorem dL_law_1127 : decode code 1127 = .ok (.iaload, 1) := by decide +kernel
set_option maxRecDepth 20000 in
theorem dL_law_1128 : decode code 1128 = .ok (.aload_n 0, 1) := by decide +kernel
set_option maxRecDepth 20000 in
theorem dL_law_1129 : decode code 1129 = .ok (.iload_n 3, 1) := by decide +kernel
set_option maxRecDepth 20000 in
theorem dL_law_1130 : decode code 1130 = .ok (.iconst 2, 1) := by decide +kernel
set_option maxRecDepth 20000 in
theorem dL_law_1131 : decode code 1131 = .ok (.iadd, 1) := by decide +kernel
set_option maxRecDepth 20000 in
theorem dL_law_1132 : decode code 1132 = .ok (.iaload, 1) := by decide +kernel
set_option maxRecDepth 20000 in
theorem dL_law_1133 : decode code 1133 = .ok (.invokevirtual 146, 3) := by decide +kernel
set_option maxRecDepth 20000 in
theorem dL_law_1136 : decode code 1136 = .ok (.lcmp, 1) := by decide +kernel
set_option maxRecDepth 20000 in
theorem dL_law_1137 : decode code 1137 = .ok (.ifCond .eq 68, 3) := by decide +kernel
set_option maxRecDepth 20000 in
theorem dL_law_1140 : decode code 1140 = .ok (.iconst 0, 1) := by decide +kernel
set_option maxRecDepth 20000 in
theorem dL_law_1141 : decode code 1141 = .ok (.ireturn, 1) := by decide +kernel
set_option maxRecDepth 20000 in
theorem dL_law_1142 : decode code 1142 = .ok (.aload_n 1, 1) := by decide +kernel
set_option maxRecDepth 20000 in
theorem dL_law_1143 : decode code 1143 = .ok (.aload_n 0, 1) := by decide +kernel
set_option maxRecDepth 20000 in
theorem dL_law_1144 : decode code 1144 = .ok (.iload_n 3, 1) := by decide +kernel
set_option maxRecDepth 20000 in
theorem dL_law_1145 : decode code 1145 = .ok (.iconst 1, 1) := by decide +kernel
set_option maxRecDepth 20000 in
theorem dL_law_1146 : decode code 1146 = .ok (.iadd, 1) := by decide +kernel
set_option maxRecDepth 20000 in
theorem dL_law_1147 : decode code 1147 = .ok (.iaload, 1) := by decide +kernel
set_option maxRecDepth 20000 in
theorem dL_law_1148 : decode code 1148 = .ok (.aload_n 0, 1) := by decide +kernel
set_option maxRecDepth 20000 in
theorem dL_law_1149 : decode code 1149 = .ok (.iload_n 3, 1) := by decide +kernel
set_option maxRecDepth 20000 in
theorem dL_law_1150 : decode code 1150 = .ok (.iconst 2, 1) := by decide +kernel
set_option maxRecDepth 20000 in
theorem dL_law_1151 : decode code 1151 = .ok (.iadd, 1) := by decide +kernel
set_option maxRecDepth 20000 in
theorem dL_law_1152 : decode code 1152 = .ok (.iaload, 1) := by decide +kernel
set_option maxRecDepth 20000 in
theorem dL_law_1153 : decode code 1153 = .ok (.aload_n 0, 1) := by decide +kernel
set_option maxRecDepth 20000 in
theorem dL_law_1154 : decode code 1154 = .ok (.iload_n 3, 1) := by decide +kernel
set_option maxRecDepth 20000 in
theorem dL_law_1155 : decode code 1155 = .ok (.iconst 3, 1) := by decide +kernel
set_option maxRecDepth 20000 in
theorem dL_law_1156 : decode code 1156 = .ok (.iadd, 1) := by decide +kernel
set_option maxRecDepth 20000 in
theorem dL_law_1157 : decode code 1157 = .ok (.iaload, 1) := by decide +kernel
set_option maxRecDepth 20000 in
theorem dL_law_1158 : decode code 1158 = .ok (.aload_n 0, 1) := by decide +kernel
set_option maxRecDepth 20000 in
theorem dL_law_1159 : decode code 1159 = .ok (.iload_n 3, 1) := by decide +kernel
set_option maxRecDepth 20000 in
theorem dL_law_1160 : decode code 1160 = .ok (.iconst 4, 1) := by decide +kernel
set_option maxRecDepth 20000 in
theorem dL_law_1161 : decode code 1161 = .ok (.iadd, 1) := by decide +kernel
set_option maxRecDepth 20000 in
theorem dL_law_1162 : decode code 1162 = .ok (.iaload, 1) := by decide +kernel
set_option maxRecDepth 20000 in
theorem dL_law_1163 : decode code 1163 = .ok (.aload_n 0, 1) := by decide +kernel
set_option maxRecDepth 20000 in
theorem dL_law_1164 : decode code 1164 = .ok (.iload_n 3, 1) := by decide +kernel
set_option maxRecDepth 20000 in
theorem dL_law_1165 : decode code 1165 = .ok (.iconst 5, 1) := by decide +kernel
set_option maxRecDepth 20000 in
theorem dL_law_1166 : decode code 1166 = .ok (.iadd, 1) := by decide +kernel
set_option maxRecDepth 20000 in
theorem dL_law_1167 : decode code 1167 = .ok (.iaload, 1) := by decide +kernel
set_option maxRecDepth 20000 in
theorem dL_law_1168 : decode code 1168 = .ok (.invokevirtual 147, 3) := by decide +kernel
set_option maxRecDepth 20000 in
theorem dL_law_1171 : decode code 1171 = .ok (.aload_n 2, 1) := by decide +kernel
set_option maxRecDepth 20000 in
theorem dL_law_1172 : decode code 1172 = .ok (.aload_n 0, 1) := by decide +kernel
set_option maxRecDepth 20000 in
theorem dL_law_1173 : decode code 1173 = .ok (.iload_n 3, 1) := by decide +kernel
set_option maxRecDepth 20000 in
theorem dL_law_1174 : decode code 1174 = .ok (.iconst 1, 1) := by decide +kernel
set_option maxRecDepth 20000 in
theorem dL_law_1175 : decode code 1175 = .ok (.iadd, 1) := by decide +kernel
set_option maxRecDepth 20000 in
theorem dL_law_1176 : decode code 1176 = .ok (.iaload, 1) := by decide +kernel
set_option maxRecDepth 20000 in
theorem dL_law_1177 : decode code 1177 = .ok (.aload_n 0, 1) := by decide +kernel
set_option maxRecDepth 20000 in
theorem dL_law_1178 : decode code 1178 = .ok (.iload_n 3, 1) := by decide +kernel
set_option maxRecDepth 20000 in
theorem dL_law_1179 : decode code 1179 = .ok (.iconst 2, 1) := by decide +kernel
set_option maxRecDepth 20000 in
theorem dL_law_1180 : decode code 1180 = .ok (.iadd, 1) := by decide +kernel
set_option maxRecDepth 20000 in
theorem dL_law_1181 : decode code 1181 = .ok (.iaload, 1) := by decide +kernel
set_option maxRecDepth 20000 in
theorem dL_law_1182 : decode code 1182 = .ok (.aload_n 0, 1) := by decide +kernel
set_option maxRecDepth 20000 in
theorem dL_law_1183 : decode code 1183 = .ok (.iload_n 3, 1) := by decide +kernel
set_option maxRecDepth 20000 in
theorem dL_law_1184 : decode code 1184 = .ok (.iconst 3, 1) := by decide +kernel
set_option maxRecDepth 20000 in
theorem dL_law_1185 : decode code 1185 = .ok (.iadd, 1) := by decide +kernel
set_option maxRecDepth 20000 in
theorem dL_law_1186 : decode code 1186 = .ok (.iaload, 1) := by decide +kernel
set_option maxRecDepth 20000 in
theorem dL_law_1187 : decode code 1187 = .ok (.aload_n 0, 1) := by decide +kernel
set_option maxRecDepth 20000 in
theorem dL_law_1188 : decode code 1188 = .ok (.iload_n 3, 1) := by decide +kernel
set_option maxRecDepth 20000 in
theorem dL_law_1189 : decode code 1189 = .ok (.iconst 4, 1) := by decide +kernel
set_option maxRecDepth 20000 in
theorem dL_law_1190 : decode code 1190 = .ok (.iadd, 1) := by decide +kernel
set_option maxRecDepth 20000 in
theorem dL_law_1191 : decode code 1191 = .ok (.iaload, 1) := by decide +kernel
set_option maxRecDepth 20000 in
theorem dL_law_1192 : decode code 1192 = .ok (.aload_n 0, 1) := by decide +kernel
set_option maxRecDepth 20000 in
theorem dL_law_1193 : decode code 1193 = .ok (.iload_n 3, 1) := by decide +kernel
set_option maxRecDepth 20000 in
theorem dL_law_1194 : decode code 1194 = .ok (.iconst 5, 1) := by decide +kernel
set_option maxRecDepth 20000 in
theorem dL_law_1195 : decode code 1195 = .ok (.iadd, 1) := by decide +kernel
set_option maxRecDepth 20000 in
theorem dL_law_1196 : decode code 1196 = .ok (.iaload, 1) := by decide +kernel
set_option maxRecDepth 20000 in
theorem dL_law_1197 : decode code 1197 = .ok (.invokevirtual 151, 3) := by decide +kernel
set_option maxRecDepth 20000 in
theorem dL_law_1200 : decode code 1200 = .ok (.if_icmp .eq 5, 3) := by decide +kernel
set_option maxRecDepth 20000 in
theorem dL_law_1203 : decode code 1203 = .ok (.iconst 0, 1) := by decide +kernel
set_option maxRecDepth 20000 in
theorem dL_law_1204 : decode code 1204 = .ok (.ireturn, 1) := by decide +kernel
set_option maxRecDepth 20000 in
theorem dL_law_1205 : decode code 1205 = .ok (.iinc 3 6, 3) := by decide +kernel
set_option maxRecDepth 20000 in
theorem dL_law_1208 : decode code 1208 = .ok (.goto (-1190), 3) := by decide +kernel
set_option maxRecDepth 20000 in
theorem dL_law_1211 : decode code 1211 = .ok (.iconst 1, 1) := by decide +kernel
set_option maxRecDepth 20000 in
theorem dL_law_1212 : decode code 1212 = .ok (.ireturn, 1) := by decide +kernel
set_option maxRecDepth 20000 in
theorem kt_L_law_0 (g : gx_T) : ∀ q ∈ k_L_law_0 (gx_n g) (gx_x g), gx_E g gc_md RL code 4 (some .boolean) "law" q.1 q.2 := List.forall_mem_cons.mpr ⟨(gs_new (q := (RX11, TX11, 17)) (ty := tyX11) dL_law_0 rfl gl_11 tyX11_ok (gx_mem 106 (by decide +kernel) (by decide +kernel)) (gx_mem 107 (by decide +kernel) (by decide +kernel)) (gx_mem 85 (by decide +kernel) (by decide +kernel)) rfl (by decide +kernel) rfl), List.forall_mem_cons.mpr ⟨
  (gs_dup dL_law_3), List.forall_mem_cons.mpr ⟨
  (gs_ci dL_law_4 (md_65) (gx_sub _ [108, 109, 85, 110] (by decide +kernel) (by decide +kernel)) (by decide +kernel) (by decide) rfl), List.forall_mem_cons.mpr ⟨
  (gs_astore_n dL_law_7 rfl), List.forall_mem_cons.mpr ⟨
  (gs_new (q := (RX12, TX12, 79)) (ty := tyX12) dL_law_8 rfl gl_12 tyX12_ok (gx_mem 996 (by decide +kernel) (by decide +kernel)) (gx_mem 997 (by decide +kernel) (by decide +kernel)) (gx_mem 97 (by decide +kernel) (by decide +kernel)) rfl (by decide +kernel) rfl), List.forall_mem_cons.mpr ⟨
  (gs_dup dL_law_11), List.forall_mem_cons.mpr ⟨
  (gs_ci dL_law_12 (md_109) (gx_sub _ [998, 999, 97, 1000] (by decide +kernel) (by decide +kernel)) (by decide +kernel) (by decide) rfl), List.forall_mem_cons.mpr ⟨
  (gs_astore_n dL_law_15 rfl), List.forall_mem_cons.mpr ⟨
  (gs_iconst dL_law_16 rfl), List.forall_mem_cons.mpr ⟨
  (gs_istore_n dL_law_17 rfl), List.forall_mem_cons.mpr ⟨
  (gs_iload_n dL_law_18 rfl), List.forall_mem_cons.mpr ⟨
  (gs_aload_n dL_law_19 rfl), List.forall_mem_cons.mpr ⟨
  (gs_slenX dL_law_20), List.forall_mem_cons.mpr ⟨
  (gs_bipush dL_law_21 rfl), List.forall_mem_cons.mpr ⟨
  (gs_isub dL_law_23), List.forall_mem_cons.mpr ⟨
  (gs_icmp_gt dL_law_24 rfl), List.forall_mem_cons.mpr ⟨
  (gs_aload_n dL_law_27 rfl), List.forall_mem_cons.mpr ⟨
  (gs_iload_n dL_law_28 rfl), List.forall_mem_cons.mpr ⟨
  (gs_sldX dL_law_29), List.forall_mem_cons.mpr ⟨
  (gs_bipush dL_law_30 rfl), List.forall_mem_cons.mpr ⟨
  (gs_iand dL_law_32), List.forall_mem_cons.mpr ⟨
  (gs_tsw (lo := 0) (offs := [143, 176, 209, 242, 275, 308, 341, 384, 407, 420, 443, 466, 499, 532, 575, 608, 652, 676, 709, 732, 765, 778, 811, 824, 837, 880, 903, 936, 959, 1002, 1075, 1109]) dL_law_33 (by decide +kernel) (by decide +kernel)), List.forall_mem_cons.mpr ⟨
  (gs_aload_n dL_law_176 rfl), List.forall_mem_cons.mpr ⟨
  (gs_aload_n dL_law_177 rfl), List.forall_mem_cons.mpr ⟨
  (gs_iload_n dL_law_178 rfl), List.forall_mem_cons.mpr ⟨
  (gs_iconst dL_law_179 rfl), List.forall_mem_cons.mpr ⟨
  (gs_iadd dL_law_180), List.forall_mem_cons.mpr ⟨
  (gs_sldX dL_law_181), List.forall_mem_cons.mpr ⟨
  (gs_aload_n dL_law_182 rfl), List.forall_mem_cons.mpr ⟨
  (gs_iload_n dL_law_183 rfl), List.forall_mem_cons.mpr ⟨
  (gs_iconst dL_law_184 rfl), List.forall_mem_cons.mpr ⟨
  (gs_iadd dL_law_185), fun _ h => absurd h List.not_mem_nil⟩⟩⟩⟩⟩⟩⟩⟩⟩⟩⟩⟩⟩⟩⟩⟩⟩⟩⟩⟩⟩⟩⟩⟩⟩⟩⟩⟩⟩⟩⟩⟩
set_option maxRecDepth 20000 in
theorem kt_L_law_1 (g : gx_T) : ∀ q ∈ k_L_law_1 (gx_n g) (gx_x g), gx_E g gc_md RL code 4 (some .boolean) "law" q.1 q.2 := List.forall_mem_cons.mpr ⟨(gs_sldX dL_law_186), List.forall_mem_cons.mpr ⟨
  (gs_cv dL_law_187 (fun q hq => by
      simp only [List.mem_cons, List.not_mem_nil, or_false] at hq
      subst hq
      exact Or.inl ⟨_, rfl, by decide, by decide +kernel, by decide +kernel, gx_sub _ [424, 425, 426, 85, 427] (by decide +kernel) (by decide +kernel)⟩)), List.forall_mem_cons.mpr ⟨
  (gs_aload_n dL_law_190 rfl), List.forall_mem_cons.mpr ⟨
  (gs_aload_n dL_law_191 rfl), List.forall_mem_cons.mpr ⟨
  (gs_iload_n dL_law_192 rfl), List.forall_mem_cons.mpr ⟨
  (gs_iconst dL_law_193 rfl), List.forall_mem_cons.mpr ⟨
  (gs_iadd dL_law_194), List.forall_mem_cons.mpr ⟨
  (gs_sldX dL_law_195), List.forall_mem_cons.mpr ⟨
  (gs_aload_n dL_law_196 rfl), List.forall_mem_cons.mpr ⟨
  (gs_iload_n dL_law_197 rfl), List.forall_mem_cons.mpr ⟨
  (gs_iconst dL_law_198 rfl), List.forall_mem_cons.mpr ⟨
  (gs_iadd dL_law_199), List.forall_mem_cons.mpr ⟨
  (gs_sldX dL_law_200), List.forall_mem_cons.mpr ⟨
  (gs_cv dL_law_201 (fun q hq => by
      simp only [List.mem_cons, List.not_mem_nil, or_false] at hq
      subst hq
      exact Or.inl ⟨_, rfl, by decide, by decide +kernel, by decide +kernel, gx_sub _ [1241, 1242, 1243, 97, 1244] (by decide +kernel) (by decide +kernel)⟩)), List.forall_mem_cons.mpr ⟨
  (gs_icmp_eq dL_law_204 rfl), List.forall_mem_cons.mpr ⟨
  (gs_iconst dL_law_207 rfl), List.forall_mem_cons.mpr ⟨
  (gs_rn dL_law_208 (by decide)), List.forall_mem_cons.mpr ⟨
  (gs_aload_n dL_law_209 rfl), List.forall_mem_cons.mpr ⟨
  (gs_aload_n dL_law_210 rfl), List.forall_mem_cons.mpr ⟨
  (gs_iload_n dL_law_211 rfl), List.forall_mem_cons.mpr ⟨
  (gs_iconst dL_law_212 rfl), List.forall_mem_cons.mpr ⟨
  (gs_iadd dL_law_213), List.forall_mem_cons.mpr ⟨
  (gs_sldX dL_law_214), List.forall_mem_cons.mpr ⟨
  (gs_aload_n dL_law_215 rfl), List.forall_mem_cons.mpr ⟨
  (gs_iload_n dL_law_216 rfl), List.forall_mem_cons.mpr ⟨
  (gs_iconst dL_law_217 rfl), List.forall_mem_cons.mpr ⟨
  (gs_iadd dL_law_218), List.forall_mem_cons.mpr ⟨
  (gs_sldX dL_law_219), List.forall_mem_cons.mpr ⟨
  (gs_cv dL_law_220 (fun q hq => by
      simp only [List.mem_cons, List.not_mem_nil, or_false] at hq
      subst hq
      exact Or.inl ⟨_, rfl, by decide, by decide +kernel, by decide +kernel, gx_sub _ [435, 436, 437, 85, 438] (by decide +kernel) (by decide +kernel)⟩)), List.forall_mem_cons.mpr ⟨
  (gs_aload_n dL_law_223 rfl), List.forall_mem_cons.mpr ⟨
  (gs_aload_n dL_law_224 rfl), List.forall_mem_cons.mpr ⟨
  (gs_iload_n dL_law_225 rfl), fun _ h => absurd h List.not_mem_nil⟩⟩⟩⟩⟩⟩⟩⟩⟩⟩⟩⟩⟩⟩⟩⟩⟩⟩⟩⟩⟩⟩⟩⟩⟩⟩⟩⟩⟩⟩⟩⟩
set_option maxRecDepth 20000 in
theorem kt_L_law_2 (g : gx_T) : ∀ q ∈ k_L_law_2 (gx_n g) (gx_x g), gx_E g gc_md RL code 4 (some .boolean) "law" q.1 q.2 := List.forall_mem_cons.mpr ⟨(gs_iconst dL_law_226 rfl), List.forall_mem_cons.mpr ⟨
  (gs_iadd dL_law_227), List.forall_mem_cons.mpr ⟨
  (gs_sldX dL_law_228), List.forall_mem_cons.mpr ⟨
  (gs_aload_n dL_law_229 rfl), List.forall_mem_cons.mpr ⟨
  (gs_iload_n dL_law_230 rfl), List.forall_mem_cons.mpr ⟨
  (gs_iconst dL_law_231 rfl), List.forall_mem_cons.mpr ⟨
  (gs_iadd dL_law_232), List.forall_mem_cons.mpr ⟨
  (gs_sldX dL_law_233), List.forall_mem_cons.mpr ⟨
  (gs_cv dL_law_234 (fun q hq => by
      simp only [List.mem_cons, List.not_mem_nil, or_false] at hq
      subst hq
      exact Or.inl ⟨_, rfl, by decide, by decide +kernel, by decide +kernel, gx_sub _ [1341, 1342, 1343, 97, 1344] (by decide +kernel) (by decide +kernel)⟩)), List.forall_mem_cons.mpr ⟨
  (gs_icmp_eq dL_law_237 rfl), List.forall_mem_cons.mpr ⟨
  (gs_iconst dL_law_240 rfl), List.forall_mem_cons.mpr ⟨
  (gs_rn dL_law_241 (by decide)), List.forall_mem_cons.mpr ⟨
  (gs_aload_n dL_law_242 rfl), List.forall_mem_cons.mpr ⟨
  (gs_aload_n dL_law_243 rfl), List.forall_mem_cons.mpr ⟨
  (gs_iload_n dL_law_244 rfl), List.forall_mem_cons.mpr ⟨
  (gs_iconst dL_law_245 rfl), List.forall_mem_cons.mpr ⟨
  (gs_iadd dL_law_246), List.forall_mem_cons.mpr ⟨
  (gs_sldX dL_law_247), List.forall_mem_cons.mpr ⟨
  (gs_aload_n dL_law_248 rfl), List.forall_mem_cons.mpr ⟨
  (gs_iload_n dL_law_249 rfl), List.forall_mem_cons.mpr ⟨
  (gs_iconst dL_law_250 rfl), List.forall_mem_cons.mpr ⟨
  (gs_iadd dL_law_251), List.forall_mem_cons.mpr ⟨
  (gs_sldX dL_law_252), List.forall_mem_cons.mpr ⟨
  (gs_cv dL_law_253 (fun q hq => by
      simp only [List.mem_cons, List.not_mem_nil, or_false] at hq
      subst hq
      exact Or.inl ⟨_, rfl, by decide, by decide +kernel, by decide +kernel, gx_sub _ [495, 496, 497, 85, 498] (by decide +kernel) (by decide +kernel)⟩)), List.forall_mem_cons.mpr ⟨
  (gs_aload_n dL_law_256 rfl), List.forall_mem_cons.mpr ⟨
  (gs_aload_n dL_law_257 rfl), List.forall_mem_cons.mpr ⟨
  (gs_iload_n dL_law_258 rfl), List.forall_mem_cons.mpr ⟨
  (gs_iconst dL_law_259 rfl), List.forall_mem_cons.mpr ⟨
  (gs_iadd dL_law_260), List.forall_mem_cons.mpr ⟨
  (gs_sldX dL_law_261), List.forall_mem_cons.mpr ⟨
  (gs_aload_n dL_law_262 rfl), List.forall_mem_cons.mpr ⟨
  (gs_iload_n dL_law_263 rfl), fun _ h => absurd h List.not_mem_nil⟩⟩⟩⟩⟩⟩⟩⟩⟩⟩⟩⟩⟩⟩⟩⟩⟩⟩⟩⟩⟩⟩⟩⟩⟩⟩⟩⟩⟩⟩⟩⟩
set_option maxRecDepth 20000 in
theorem kt_L_law_3 (g : gx_T) : ∀ q ∈ k_L_law_3 (gx_n g) (gx_x g), gx_E g gc_md RL code 4 (some .boolean) "law" q.1 q.2 := List.forall_mem_cons.mpr ⟨(gs_iconst dL_law_264 rfl), List.forall_mem_cons.mpr ⟨
  (gs_iadd dL_law_265), List.forall_mem_cons.mpr ⟨
  (gs_sldX dL_law_266), List.forall_mem_cons.mpr ⟨
  (gs_cv dL_law_267 (fun q hq => by
      simp only [List.mem_cons, List.not_mem_nil, or_false] at hq
      subst hq
      exact Or.inl ⟨_, rfl, by decide, by decide +kernel, by decide +kernel, gx_sub _ [1249, 1250, 1251, 97, 1252] (by decide +kernel) (by decide +kernel)⟩)), List.forall_mem_cons.mpr ⟨
  (gs_icmp_eq dL_law_270 rfl), List.forall_mem_cons.mpr ⟨
  (gs_iconst dL_law_273 rfl), List.forall_mem_cons.mpr ⟨
  (gs_rn dL_law_274 (by decide)), List.forall_mem_cons.mpr ⟨
  (gs_aload_n dL_law_275 rfl), List.forall_mem_cons.mpr ⟨
  (gs_aload_n dL_law_276 rfl), List.forall_mem_cons.mpr ⟨
  (gs_iload_n dL_law_277 rfl), List.forall_mem_cons.mpr ⟨
  (gs_iconst dL_law_278 rfl), List.forall_mem_cons.mpr ⟨
  (gs_iadd dL_law_279), List.forall_mem_cons.mpr ⟨
  (gs_sldX dL_law_280), List.forall_mem_cons.mpr ⟨
  (gs_aload_n dL_law_281 rfl), List.forall_mem_cons.mpr ⟨
  (gs_iload_n dL_law_282 rfl), List.forall_mem_cons.mpr ⟨
  (gs_iconst dL_law_283 rfl), List.forall_mem_cons.mpr ⟨
  (gs_iadd dL_law_284), List.forall_mem_cons.mpr ⟨
  (gs_sldX dL_law_285), List.forall_mem_cons.mpr ⟨
  (gs_cv dL_law_286 (fun q hq => by
      simp only [List.mem_cons, List.not_mem_nil, or_false] at hq
      subst hq
      exact Or.inl ⟨_, rfl, by decide, by decide +kernel, by decide +kernel, gx_sub _ [507, 508, 509, 85, 510] (by decide +kernel) (by decide +kernel)⟩)), List.forall_mem_cons.mpr ⟨
  (gs_aload_n dL_law_289 rfl), List.forall_mem_cons.mpr ⟨
  (gs_aload_n dL_law_290 rfl), List.forall_mem_cons.mpr ⟨
  (gs_iload_n dL_law_291 rfl), List.forall_mem_cons.mpr ⟨
  (gs_iconst dL_law_292 rfl), List.forall_mem_cons.mpr ⟨
  (gs_iadd dL_law_293), List.forall_mem_cons.mpr ⟨
  (gs_sldX dL_law_294), List.forall_mem_cons.mpr ⟨
  (gs_aload_n dL_law_295 rfl), List.forall_mem_cons.mpr ⟨
  (gs_iload_n dL_law_296 rfl), List.forall_mem_cons.mpr ⟨
  (gs_iconst dL_law_297 rfl), List.forall_mem_cons.mpr ⟨
  (gs_iadd dL_law_298), List.forall_mem_cons.mpr ⟨
  (gs_sldX dL_law_299), List.forall_mem_cons.mpr ⟨
  (gs_cv dL_law_300 (fun q hq => by
      simp only [List.mem_cons, List.not_mem_nil, or_false] at hq
      subst hq
      exact Or.inl ⟨_, rfl, by decide, by decide +kernel, by decide +kernel, gx_sub _ [1471, 1472, 1473, 97, 1474] (by decide +kernel) (by decide +kernel)⟩)), List.forall_mem_cons.mpr ⟨
  (gs_icmp_eq dL_law_303 rfl), fun _ h => absurd h List.not_mem_nil⟩⟩⟩⟩⟩⟩⟩⟩⟩⟩⟩⟩⟩⟩⟩⟩⟩⟩⟩⟩⟩⟩⟩⟩⟩⟩⟩⟩⟩⟩⟩⟩
set_option maxRecDepth 20000 in
theorem kt_L_law_4 (g : gx_T) : ∀ q ∈ k_L_law_4 (gx_n g) (gx_x g), gx_E g gc_md RL code 4 (some .boolean) "law" q.1 q.2 := List.forall_mem_cons.mpr ⟨(gs_iconst dL_law_306 rfl), List.forall_mem_cons.mpr ⟨
  (gs_rn dL_law_307 (by decide)), List.forall_mem_cons.mpr ⟨
  (gs_aload_n dL_law_308 rfl), List.forall_mem_cons.mpr ⟨
  (gs_aload_n dL_law_309 rfl), List.forall_mem_cons.mpr ⟨
  (gs_iload_n dL_law_310 rfl), List.forall_mem_cons.mpr ⟨
  (gs_iconst dL_law_311 rfl), List.forall_mem_cons.mpr ⟨
  (gs_iadd dL_law_312), List.forall_mem_cons.mpr ⟨
  (gs_sldX dL_law_313), List.forall_mem_cons.mpr ⟨
  (gs_aload_n dL_law_314 rfl), List.forall_mem_cons.mpr ⟨
  (gs_iload_n dL_law_315 rfl), List.forall_mem_cons.mpr ⟨
  (gs_iconst dL_law_316 rfl), List.forall_mem_cons.mpr ⟨
  (gs_iadd dL_law_317), List.forall_mem_cons.mpr ⟨
  (gs_sldX dL_law_318), List.forall_mem_cons.mpr ⟨
  (gs_cv dL_law_319 (fun q hq => by
      simp only [List.mem_cons, List.not_mem_nil, or_false] at hq
      subst hq
      exact Or.inl ⟨_, rfl, by decide, by decide +kernel, by decide +kernel, gx_sub _ [557, 558, 559, 85, 560] (by decide +kernel) (by decide +kernel)⟩)), List.forall_mem_cons.mpr ⟨
  (gs_aload_n dL_law_322 rfl), List.forall_mem_cons.mpr ⟨
  (gs_aload_n dL_law_323 rfl), List.forall_mem_cons.mpr ⟨
  (gs_iload_n dL_law_324 rfl), List.forall_mem_cons.mpr ⟨
  (gs_iconst dL_law_325 rfl), List.forall_mem_cons.mpr ⟨
  (gs_iadd dL_law_326), List.forall_mem_cons.mpr ⟨
  (gs_sldX dL_law_327), List.forall_mem_cons.mpr ⟨
  (gs_aload_n dL_law_328 rfl), List.forall_mem_cons.mpr ⟨
  (gs_iload_n dL_law_329 rfl), List.forall_mem_cons.mpr ⟨
  (gs_iconst dL_law_330 rfl), List.forall_mem_cons.mpr ⟨
  (gs_iadd dL_law_331), List.forall_mem_cons.mpr ⟨
  (gs_sldX dL_law_332), List.forall_mem_cons.mpr ⟨
  (gs_cv dL_law_333 (fun q hq => by
      simp only [List.mem_cons, List.not_mem_nil, or_false] at hq
      subst hq
      exact Or.inl ⟨_, rfl, by decide, by decide +kernel, by decide +kernel, gx_sub _ [1261, 1262, 1263, 97, 1264] (by decide +kernel) (by decide +kernel)⟩)), List.forall_mem_cons.mpr ⟨
  (gs_icmp_eq dL_law_336 rfl), List.forall_mem_cons.mpr ⟨
  (gs_iconst dL_law_339 rfl), List.forall_mem_cons.mpr ⟨
  (gs_rn dL_law_340 (by decide)), List.forall_mem_cons.mpr ⟨
  (gs_aload_n dL_law_341 rfl), List.forall_mem_cons.mpr ⟨
  (gs_aload_n dL_law_342 rfl), List.forall_mem_cons.mpr ⟨
  (gs_iload_n dL_law_343 rfl), fun _ h => absurd h List.not_mem_nil⟩⟩⟩⟩⟩⟩⟩⟩⟩⟩⟩⟩⟩⟩⟩⟩⟩⟩⟩⟩⟩⟩⟩⟩⟩⟩⟩⟩⟩⟩⟩⟩
set_option maxRecDepth 20000 in
theorem kt_L_law_5 (g : gx_T) : ∀ q ∈ k_L_law_5 (gx_n g) (gx_x g), gx_E g gc_md RL code 4 (some .boolean) "law" q.1 q.2 := List.forall_mem_cons.mpr ⟨(gs_iconst dL_law_344 rfl), List.forall_mem_cons.mpr ⟨
  (gs_iadd dL_law_345), List.forall_mem_cons.mpr ⟨
  (gs_sldX dL_law_346), List.forall_mem_cons.mpr ⟨
  (gs_aload_n dL_law_347 rfl), List.forall_mem_cons.mpr ⟨
  (gs_iload_n dL_law_348 rfl), List.forall_mem_cons.mpr ⟨
  (gs_iconst dL_law_349 rfl), List.forall_mem_cons.mpr ⟨
  (gs_iadd dL_law_350), List.forall_mem_cons.mpr ⟨
  (gs_sldX dL_law_351), List.forall_mem_cons.mpr ⟨
  (gs_cv dL_law_352 (fun q hq => by
      simp only [List.mem_cons, List.not_mem_nil, or_false] at hq
      subst hq
      exact Or.inl ⟨_, rfl, by decide, by decide +kernel, by decide +kernel, gx_sub _ [561, 562, 563, 85, 564] (by decide +kernel) (by decide +kernel)⟩)), List.forall_mem_cons.mpr ⟨
  (gs_aload_n dL_law_355 rfl), List.forall_mem_cons.mpr ⟨
  (gs_aload_n dL_law_356 rfl), List.forall_mem_cons.mpr ⟨
  (gs_iload_n dL_law_357 rfl), List.forall_mem_cons.mpr ⟨
  (gs_iconst dL_law_358 rfl), List.forall_mem_cons.mpr ⟨
  (gs_iadd dL_law_359), List.forall_mem_cons.mpr ⟨
  (gs_sldX dL_law_360), List.forall_mem_cons.mpr ⟨
  (gs_aload_n dL_law_361 rfl), List.forall_mem_cons.mpr ⟨
  (gs_iload_n dL_law_362 rfl), List.forall_mem_cons.mpr ⟨
  (gs_iconst dL_law_363 rfl), List.forall_mem_cons.mpr ⟨
  (gs_iadd dL_law_364), List.forall_mem_cons.mpr ⟨
  (gs_sldX dL_law_365), List.forall_mem_cons.mpr ⟨
  (gs_cv dL_law_366 (fun q hq => by
      simp only [List.mem_cons, List.not_mem_nil, or_false] at hq
      subst hq
      exact Or.inl ⟨_, rfl, by decide, by decide +kernel, by decide +kernel, gx_sub _ [1269, 1270, 1271, 97, 1272] (by decide +kernel) (by decide +kernel)⟩)), List.forall_mem_cons.mpr ⟨
  (gs_icmp_eq dL_law_369 rfl), List.forall_mem_cons.mpr ⟨
  (gs_iconst dL_law_372 rfl), List.forall_mem_cons.mpr ⟨
  (gs_rn dL_law_373 (by decide)), List.forall_mem_cons.mpr ⟨
  (gs_aload_n dL_law_374 rfl), List.forall_mem_cons.mpr ⟨
  (gs_aload_n dL_law_375 rfl), List.forall_mem_cons.mpr ⟨
  (gs_iload_n dL_law_376 rfl), List.forall_mem_cons.mpr ⟨
  (gs_iconst dL_law_377 rfl), List.forall_mem_cons.mpr ⟨
  (gs_iadd dL_law_378), List.forall_mem_cons.mpr ⟨
  (gs_sldX dL_law_379), List.forall_mem_cons.mpr ⟨
  (gs_aload_n dL_law_380 rfl), List.forall_mem_cons.mpr ⟨
  (gs_iload_n dL_law_381 rfl), fun _ h => absurd h List.not_mem_nil⟩⟩⟩⟩⟩⟩⟩⟩⟩⟩⟩⟩⟩⟩⟩⟩⟩⟩⟩⟩⟩⟩⟩⟩⟩⟩⟩⟩⟩⟩⟩⟩
set_option maxRecDepth 20000 in
theorem kt_L_law_6 (g : gx_T) : ∀ q ∈ k_L_law_6 (gx_n g) (gx_x g), gx_E g gc_md RL code 4 (some .boolean) "law" q.1 q.2 := List.forall_mem_cons.mpr ⟨(gs_iconst dL_law_382 rfl), List.forall_mem_cons.mpr ⟨
  (gs_iadd dL_law_383), List.forall_mem_cons.mpr ⟨
  (gs_sldX dL_law_384), List.forall_mem_cons.mpr ⟨
  (gs_aload_n dL_law_385 rfl), List.forall_mem_cons.mpr ⟨
  (gs_iload_n dL_law_386 rfl), List.forall_mem_cons.mpr ⟨
  (gs_iconst dL_law_387 rfl), List.forall_mem_cons.mpr ⟨
  (gs_iadd dL_law_388), List.forall_mem_cons.mpr ⟨
  (gs_sldX dL_law_389), List.forall_mem_cons.mpr ⟨
  (gs_cv dL_law_390 (fun q hq => by
      simp only [List.mem_cons, List.not_mem_nil, or_false] at hq
      subst hq
      exact Or.inl ⟨_, rfl, by decide, by decide +kernel, by decide +kernel, gx_sub _ [565, 566, 567, 85, 568] (by decide +kernel) (by decide +kernel)⟩)), List.forall_mem_cons.mpr ⟨
  (gs_aload_n dL_law_393 rfl), List.forall_mem_cons.mpr ⟨
  (gs_aload_n dL_law_394 rfl), List.forall_mem_cons.mpr ⟨
  (gs_iload_n dL_law_395 rfl), List.forall_mem_cons.mpr ⟨
  (gs_iconst dL_law_396 rfl), List.forall_mem_cons.mpr ⟨
  (gs_iadd dL_law_397), List.forall_mem_cons.mpr ⟨
  (gs_sldX dL_law_398), List.forall_mem_cons.mpr ⟨
  (gs_aload_n dL_law_399 rfl), List.forall_mem_cons.mpr ⟨
  (gs_iload_n dL_law_400 rfl), List.forall_mem_cons.mpr ⟨
  (gs_iconst dL_law_401 rfl), List.forall_mem_cons.mpr ⟨
  (gs_iadd dL_law_402), List.forall_mem_cons.mpr ⟨
  (gs_sldX dL_law_403), List.forall_mem_cons.mpr ⟨
  (gs_aload_n dL_law_404 rfl), List.forall_mem_cons.mpr ⟨
  (gs_iload_n dL_law_405 rfl), List.forall_mem_cons.mpr ⟨
  (gs_iconst dL_law_406 rfl), List.forall_mem_cons.mpr ⟨
  (gs_iadd dL_law_407), List.forall_mem_cons.mpr ⟨
  (gs_sldX dL_law_408), List.forall_mem_cons.mpr ⟨
  (gs_cv dL_law_409 (fun q hq => by
      simp only [List.mem_cons, List.not_mem_nil, or_false] at hq
      subst hq
      exact Or.inl ⟨_, rfl, by decide, by decide +kernel, by decide +kernel, gx_sub _ [1273, 1274, 1275, 97, 1276] (by decide +kernel) (by decide +kernel)⟩)), List.forall_mem_cons.mpr ⟨
  (gs_icmp_eq dL_law_412 rfl), List.forall_mem_cons.mpr ⟨
  (gs_iconst dL_law_415 rfl), List.forall_mem_cons.mpr ⟨
  (gs_rn dL_law_416 (by decide)), List.forall_mem_cons.mpr ⟨
  (gs_aload_n dL_law_417 rfl), List.forall_mem_cons.mpr ⟨
  (gs_aload_n dL_law_418 rfl), List.forall_mem_cons.mpr ⟨
  (gs_iload_n dL_law_419 rfl), fun _ h => absurd h List.not_mem_nil⟩⟩⟩⟩⟩⟩⟩⟩⟩⟩⟩⟩⟩⟩⟩⟩⟩⟩⟩⟩⟩⟩⟩⟩⟩⟩⟩⟩⟩⟩⟩⟩
set_option maxRecDepth 20000 in
theorem kt_L_law_7 (g : gx_T) : ∀ q ∈ k_L_law_7 (gx_n g) (gx_x g), gx_E g gc_md RL code 4 (some .boolean) "law" q.1 q.2 := List.forall_mem_cons.mpr ⟨(gs_iconst dL_law_420 rfl), List.forall_mem_cons.mpr ⟨
  (gs_iadd dL_law_421), List.forall_mem_cons.mpr ⟨
  (gs_sldX dL_law_422), List.forall_mem_cons.mpr ⟨
  (gs_cv dL_law_423 (fun q hq => by
      simp only [List.mem_cons, List.not_mem_nil, or_false] at hq
      subst hq
      exact Or.inl ⟨_, rfl, by decide, by decide +kernel, by decide +kernel, gx_sub _ [569, 570, 571, 85, 572] (by decide +kernel) (by decide +kernel)⟩)), List.forall_mem_cons.mpr ⟨
  (gs_aload_n dL_law_426 rfl), List.forall_mem_cons.mpr ⟨
  (gs_aload_n dL_law_427 rfl), List.forall_mem_cons.mpr ⟨
  (gs_iload_n dL_law_428 rfl), List.forall_mem_cons.mpr ⟨
  (gs_iconst dL_law_429 rfl), List.forall_mem_cons.mpr ⟨
  (gs_iadd dL_law_430), List.forall_mem_cons.mpr ⟨
  (gs_sldX dL_law_431), List.forall_mem_cons.mpr ⟨
  (gs_cv dL_law_432 (fun q hq => by
      simp only [List.mem_cons, List.not_mem_nil, or_false] at hq
      subst hq
      exact Or.inl ⟨_, rfl, by decide, by decide +kernel, by decide +kernel, gx_sub _ [1277, 1278, 1279, 97, 1280] (by decide +kernel) (by decide +kernel)⟩)), List.forall_mem_cons.mpr ⟨
  (gs_icmp_eq dL_law_435 rfl), List.forall_mem_cons.mpr ⟨
  (gs_iconst dL_law_438 rfl), List.forall_mem_cons.mpr ⟨
  (gs_rn dL_law_439 (by decide)), List.forall_mem_cons.mpr ⟨
  (gs_aload_n dL_law_440 rfl), List.forall_mem_cons.mpr ⟨
  (gs_cv dL_law_441 (fun q hq => by
      simp only [List.mem_cons, List.not_mem_nil, or_false] at hq
      subst hq
      exact Or.inl ⟨_, rfl, by decide, by decide +kernel, by decide +kernel, gx_sub _ [573, 574, 575, 85, 576] (by decide +kernel) (by decide +kernel)⟩)), List.forall_mem_cons.mpr ⟨
  (gs_aload_n dL_law_444 rfl), List.forall_mem_cons.mpr ⟨
  (gs_cv dL_law_445 (fun q hq => by
      simp only [List.mem_cons, List.not_mem_nil, or_false] at hq
      subst hq
      exact Or.inl ⟨_, rfl, by decide, by decide +kernel, by decide +kernel, gx_sub _ [1281, 1282, 1283, 97, 1284] (by decide +kernel) (by decide +kernel)⟩)), List.forall_mem_cons.mpr ⟨
  (gs_icmp_eq dL_law_448 rfl), List.forall_mem_cons.mpr ⟨
  (gs_iconst dL_law_451 rfl), List.forall_mem_cons.mpr ⟨
  (gs_rn dL_law_452 (by decide)), List.forall_mem_cons.mpr ⟨
  (gs_aload_n dL_law_453 rfl), List.forall_mem_cons.mpr ⟨
  (gs_aload_n dL_law_454 rfl), List.forall_mem_cons.mpr ⟨
  (gs_iload_n dL_law_455 rfl), List.forall_mem_cons.mpr ⟨
  (gs_iconst dL_law_456 rfl), List.forall_mem_cons.mpr ⟨
  (gs_iadd dL_law_457), List.forall_mem_cons.mpr ⟨
  (gs_sldX dL_law_458), List.forall_mem_cons.mpr ⟨
  (gs_cv dL_law_459 (fun q hq => by
      simp only [List.mem_cons, List.not_mem_nil, or_false] at hq
      subst hq
      exact Or.inl ⟨_, rfl, by decide, by decide +kernel, by decide +kernel, gx_sub _ [738, 739, 740, 85, 741] (by decide +kernel) (by decide +kernel)⟩)), List.forall_mem_cons.mpr ⟨
  (gs_aload_n dL_law_462 rfl), List.forall_mem_cons.mpr ⟨
  (gs_aload_n dL_law_463 rfl), List.forall_mem_cons.mpr ⟨
  (gs_iload_n dL_law_464 rfl), List.forall_mem_cons.mpr ⟨
  (gs_iconst dL_law_465 rfl), fun _ h => absurd h List.not_mem_nil⟩⟩⟩⟩⟩⟩⟩⟩⟩⟩⟩⟩⟩⟩⟩⟩⟩⟩⟩⟩⟩⟩⟩⟩⟩⟩⟩⟩⟩⟩⟩⟩
set_option maxRecDepth 20000 in
theorem kt_L_law_8 (g : gx_T) : ∀ q ∈ k_L_law_8 (gx_n g) (gx_x g), gx_E g gc_md RL code 4 (some .boolean) "law" q.1 q.2 := List.forall_mem_cons.mpr ⟨(gs_iadd dL_law_466), List.forall_mem_cons.mpr ⟨
  (gs_sldX dL_law_467), List.forall_mem_cons.mpr ⟨
  (gs_cv dL_law_468 (fun q hq => by
      simp only [List.mem_cons, List.not_mem_nil, or_false] at hq
      subst hq
      exact Or.inl ⟨_, rfl, by decide, by decide +kernel, by decide +kernel, gx_sub _ [1417, 1418, 1419, 97, 1420] (by decide +kernel) (by decide +kernel)⟩)), List.forall_mem_cons.mpr ⟨
  (gs_icmp_eq dL_law_471 rfl), List.forall_mem_cons.mpr ⟨
  (gs_iconst dL_law_474 rfl), List.forall_mem_cons.mpr ⟨
  (gs_rn dL_law_475 (by decide)), List.forall_mem_cons.mpr ⟨
  (gs_aload_n dL_law_476 rfl), List.forall_mem_cons.mpr ⟨
  (gs_aload_n dL_law_477 rfl), List.forall_mem_cons.mpr ⟨
  (gs_iload_n dL_law_478 rfl), List.forall_mem_cons.mpr ⟨
  (gs_iconst dL_law_479 rfl), List.forall_mem_cons.mpr ⟨
  (gs_iadd dL_law_480), List.forall_mem_cons.mpr ⟨
  (gs_sldX dL_law_481), List.forall_mem_cons.mpr ⟨
  (gs_cv dL_law_482 (fun q hq => by
      simp only [List.mem_cons, List.not_mem_nil, or_false] at hq
      subst hq
      exact Or.inl ⟨_, rfl, by decide, by decide +kernel, by decide +kernel, gx_sub _ [746, 747, 748, 85, 749] (by decide +kernel) (by decide +kernel)⟩)), List.forall_mem_cons.mpr ⟨
  (gs_aload_n dL_law_485 rfl), List.forall_mem_cons.mpr ⟨
  (gs_aload_n dL_law_486 rfl), List.forall_mem_cons.mpr ⟨
  (gs_iload_n dL_law_487 rfl), List.forall_mem_cons.mpr ⟨
  (gs_iconst dL_law_488 rfl), List.forall_mem_cons.mpr ⟨
  (gs_iadd dL_law_489), List.forall_mem_cons.mpr ⟨
  (gs_sldX dL_law_490), List.forall_mem_cons.mpr ⟨
  (gs_cv dL_law_491 (fun q hq => by
      simp only [List.mem_cons, List.not_mem_nil, or_false] at hq
      subst hq
      exact Or.inl ⟨_, rfl, by decide, by decide +kernel, by decide +kernel, gx_sub _ [1381, 1382, 1383, 97, 1384] (by decide +kernel) (by decide +kernel)⟩)), List.forall_mem_cons.mpr ⟨
  (gs_icmp_eq dL_law_494 rfl), List.forall_mem_cons.mpr ⟨
  (gs_iconst dL_law_497 rfl), List.forall_mem_cons.mpr ⟨
  (gs_rn dL_law_498 (by decide)), List.forall_mem_cons.mpr ⟨
  (gs_aload_n dL_law_499 rfl), List.forall_mem_cons.mpr ⟨
  (gs_aload_n dL_law_500 rfl), List.forall_mem_cons.mpr ⟨
  (gs_iload_n dL_law_501 rfl), List.forall_mem_cons.mpr ⟨
  (gs_iconst dL_law_502 rfl), List.forall_mem_cons.mpr ⟨
  (gs_iadd dL_law_503), List.forall_mem_cons.mpr ⟨
  (gs_sldX dL_law_504), List.forall_mem_cons.mpr ⟨
  (gs_aload_n dL_law_505 rfl), List.forall_mem_cons.mpr ⟨
  (gs_iload_n dL_law_506 rfl), List.forall_mem_cons.mpr ⟨
  (gs_iconst dL_law_507 rfl), fun _ h => absurd h List.not_mem_nil⟩⟩⟩⟩⟩⟩⟩⟩⟩⟩⟩⟩⟩⟩⟩⟩⟩⟩⟩⟩⟩⟩⟩⟩⟩⟩⟩⟩⟩⟩⟩⟩
set_option maxRecDepth 20000 in
theorem kt_L_law_9 (g : gx_T) : ∀ q ∈ k_L_law_9 (gx_n g) (gx_x g), gx_E g gc_md RL code 4 (some .boolean) "law" q.1 q.2 := List.forall_mem_cons.mpr ⟨(gs_iadd dL_law_508), List.forall_mem_cons.mpr ⟨
  (gs_sldX dL_law_509), List.forall_mem_cons.mpr ⟨
  (gs_cv dL_law_510 (fun q hq => by
      simp only [List.mem_cons, List.not_mem_nil, or_false] at hq
      subst hq
      exact Or.inl ⟨_, rfl, by decide, by decide +kernel, by decide +kernel, gx_sub _ [750, 751, 752, 85, 753] (by decide +kernel) (by decide +kernel)⟩)), List.forall_mem_cons.mpr ⟨
  (gs_aload_n dL_law_513 rfl), List.forall_mem_cons.mpr ⟨
  (gs_aload_n dL_law_514 rfl), List.forall_mem_cons.mpr ⟨
  (gs_iload_n dL_law_515 rfl), List.forall_mem_cons.mpr ⟨
  (gs_iconst dL_law_516 rfl), List.forall_mem_cons.mpr ⟨
  (gs_iadd dL_law_517), List.forall_mem_cons.mpr ⟨
  (gs_sldX dL_law_518), List.forall_mem_cons.mpr ⟨
  (gs_aload_n dL_law_519 rfl), List.forall_mem_cons.mpr ⟨
  (gs_iload_n dL_law_520 rfl), List.forall_mem_cons.mpr ⟨
  (gs_iconst dL_law_521 rfl), List.forall_mem_cons.mpr ⟨
  (gs_iadd dL_law_522), List.forall_mem_cons.mpr ⟨
  (gs_sldX dL_law_523), List.forall_mem_cons.mpr ⟨
  (gs_cv dL_law_524 (fun q hq => by
      simp only [List.mem_cons, List.not_mem_nil, or_false] at hq
      subst hq
      exact Or.inl ⟨_, rfl, by decide, by decide +kernel, by decide +kernel, gx_sub _ [1425, 1426, 1427, 97, 1428] (by decide +kernel) (by decide +kernel)⟩)), List.forall_mem_cons.mpr ⟨
  (gs_icmp_eq dL_law_527 rfl), List.forall_mem_cons.mpr ⟨
  (gs_iconst dL_law_530 rfl), List.forall_mem_cons.mpr ⟨
  (gs_rn dL_law_531 (by decide)), List.forall_mem_cons.mpr ⟨
  (gs_aload_n dL_law_532 rfl), List.forall_mem_cons.mpr ⟨
  (gs_aload_n dL_law_533 rfl), List.forall_mem_cons.mpr ⟨
  (gs_iload_n dL_law_534 rfl), List.forall_mem_cons.mpr ⟨
  (gs_iconst dL_law_535 rfl), List.forall_mem_cons.mpr ⟨
  (gs_iadd dL_law_536), List.forall_mem_cons.mpr ⟨
  (gs_sldX dL_law_537), List.forall_mem_cons.mpr ⟨
  (gs_aload_n dL_law_538 rfl), List.forall_mem_cons.mpr ⟨
  (gs_iload_n dL_law_539 rfl), List.forall_mem_cons.mpr ⟨
  (gs_iconst dL_law_540 rfl), List.forall_mem_cons.mpr ⟨
  (gs_iadd dL_law_541), List.forall_mem_cons.mpr ⟨
  (gs_sldX dL_law_542), List.forall_mem_cons.mpr ⟨
  (gs_cv dL_law_543 (fun q hq => by
      simp only [List.mem_cons, List.not_mem_nil, or_false] at hq
      subst hq
      exact Or.inl ⟨_, rfl, by decide, by decide +kernel, by decide +kernel, gx_sub _ [765, 766, 767, 85, 768] (by decide +kernel) (by decide +kernel)⟩)), List.forall_mem_cons.mpr ⟨
  (gs_aload_n dL_law_546 rfl), List.forall_mem_cons.mpr ⟨
  (gs_aload_n dL_law_547 rfl), fun _ h => absurd h List.not_mem_nil⟩⟩⟩⟩⟩⟩⟩⟩⟩⟩⟩⟩⟩⟩⟩⟩⟩⟩⟩⟩⟩⟩⟩⟩⟩⟩⟩⟩⟩⟩⟩⟩
set_option maxRecDepth 20000 in
theorem kt_L_law_10 (g : gx_T) : ∀ q ∈ k_L_law_10 (gx_n g) (gx_x g), gx_E g gc_md RL code 4 (some .boolean) "law" q.1 q.2 := List.forall_mem_cons.mpr ⟨(gs_iload_n dL_law_548 rfl), List.forall_mem_cons.mpr ⟨
  (gs_iconst dL_law_549 rfl), List.forall_mem_cons.mpr ⟨
  (gs_iadd dL_law_550), List.forall_mem_cons.mpr ⟨
  (gs_sldX dL_law_551), List.forall_mem_cons.mpr ⟨
  (gs_aload_n dL_law_552 rfl), List.forall_mem_cons.mpr ⟨
  (gs_iload_n dL_law_553 rfl), List.forall_mem_cons.mpr ⟨
  (gs_iconst dL_law_554 rfl), List.forall_mem_cons.mpr ⟨
  (gs_iadd dL_law_555), List.forall_mem_cons.mpr ⟨
  (gs_sldX dL_law_556), List.forall_mem_cons.mpr ⟨
  (gs_cv dL_law_557 (fun q hq => by
      simp only [List.mem_cons, List.not_mem_nil, or_false] at hq
      subst hq
      exact Or.inl ⟨_, rfl, by decide, by decide +kernel, by decide +kernel, gx_sub _ [1446, 1447, 1448, 97, 1449] (by decide +kernel) (by decide +kernel)⟩)), List.forall_mem_cons.mpr ⟨
  (gs_icmp_eq dL_law_560 rfl), List.forall_mem_cons.mpr ⟨
  (gs_iconst dL_law_563 rfl), List.forall_mem_cons.mpr ⟨
  (gs_rn dL_law_564 (by decide)), List.forall_mem_cons.mpr ⟨
  (gs_aload_n dL_law_565 rfl), List.forall_mem_cons.mpr ⟨
  (gs_aload_n dL_law_566 rfl), List.forall_mem_cons.mpr ⟨
  (gs_iload_n dL_law_567 rfl), List.forall_mem_cons.mpr ⟨
  (gs_iconst dL_law_568 rfl), List.forall_mem_cons.mpr ⟨
  (gs_iadd dL_law_569), List.forall_mem_cons.mpr ⟨
  (gs_sldX dL_law_570), List.forall_mem_cons.mpr ⟨
  (gs_aload_n dL_law_571 rfl), List.forall_mem_cons.mpr ⟨
  (gs_iload_n dL_law_572 rfl), List.forall_mem_cons.mpr ⟨
  (gs_iconst dL_law_573 rfl), List.forall_mem_cons.mpr ⟨
  (gs_iadd dL_law_574), List.forall_mem_cons.mpr ⟨
  (gs_sldX dL_law_575), List.forall_mem_cons.mpr ⟨
  (gs_aload_n dL_law_576 rfl), List.forall_mem_cons.mpr ⟨
  (gs_iload_n dL_law_577 rfl), List.forall_mem_cons.mpr ⟨
  (gs_iconst dL_law_578 rfl), List.forall_mem_cons.mpr ⟨
  (gs_iadd dL_law_579), List.forall_mem_cons.mpr ⟨
  (gs_sldX dL_law_580), List.forall_mem_cons.mpr ⟨
  (gs_cv dL_law_581 (fun q hq => by
      simp only [List.mem_cons, List.not_mem_nil, or_false] at hq
      subst hq
      exact Or.inl ⟨_, rfl, by decide, by decide +kernel, by decide +kernel, gx_sub _ [782, 783, 784, 85, 785] (by decide +kernel) (by decide +kernel)⟩)), List.forall_mem_cons.mpr ⟨
  (gs_aload_n dL_law_584 rfl), List.forall_mem_cons.mpr ⟨
  (gs_aload_n dL_law_585 rfl), fun _ h => absurd h List.not_mem_nil⟩⟩⟩⟩⟩⟩⟩⟩⟩⟩⟩⟩⟩⟩⟩⟩⟩⟩⟩⟩⟩⟩⟩⟩⟩⟩⟩⟩⟩⟩⟩⟩
set_option maxRecDepth 20000 in
theorem kt_L_law_11 (g : gx_T) : ∀ q ∈ k_L_law_11 (gx_n g) (gx_x g), gx_E g gc_md RL code 4 (some .boolean) "law" q.1 q.2 := List.forall_mem_cons.mpr ⟨(gs_iload_n dL_law_586 rfl), List.forall_mem_cons.mpr ⟨
  (gs_iconst dL_law_587 rfl), List.forall_mem_cons.mpr ⟨
  (gs_iadd dL_law_588), List.forall_mem_cons.mpr ⟨
  (gs_sldX dL_law_589), List.forall_mem_cons.mpr ⟨
  (gs_aload_n dL_law_590 rfl), List.forall_mem_cons.mpr ⟨
  (gs_iload_n dL_law_591 rfl), List.forall_mem_cons.mpr ⟨
  (gs_iconst dL_law_592 rfl), List.forall_mem_cons.mpr ⟨
  (gs_iadd dL_law_593), List.forall_mem_cons.mpr ⟨
  (gs_sldX dL_law_594), List.forall_mem_cons.mpr ⟨
  (gs_aload_n dL_law_595 rfl), List.forall_mem_cons.mpr ⟨
  (gs_iload_n dL_law_596 rfl), List.forall_mem_cons.mpr ⟨
  (gs_iconst dL_law_597 rfl), List.forall_mem_cons.mpr ⟨
  (gs_iadd dL_law_598), List.forall_mem_cons.mpr ⟨
  (gs_sldX dL_law_599), List.forall_mem_cons.mpr ⟨
  (gs_cv dL_law_600 (fun q hq => by
      simp only [List.mem_cons, List.not_mem_nil, or_false] at hq
      subst hq
      exact Or.inl ⟨_, rfl, by decide, by decide +kernel, by decide +kernel, gx_sub _ [1467, 1468, 1469, 97, 1470] (by decide +kernel) (by decide +kernel)⟩)), List.forall_mem_cons.mpr ⟨
  (gs_icmp_eq dL_law_603 rfl), List.forall_mem_cons.mpr ⟨
  (gs_iconst dL_law_606 rfl), List.forall_mem_cons.mpr ⟨
  (gs_rn dL_law_607 (by decide)), List.forall_mem_cons.mpr ⟨
  (gs_aload_n dL_law_608 rfl), List.forall_mem_cons.mpr ⟨
  (gs_aload_n dL_law_609 rfl), List.forall_mem_cons.mpr ⟨
  (gs_iload_n dL_law_610 rfl), List.forall_mem_cons.mpr ⟨
  (gs_iconst dL_law_611 rfl), List.forall_mem_cons.mpr ⟨
  (gs_iadd dL_law_612), List.forall_mem_cons.mpr ⟨
  (gs_sldX dL_law_613), List.forall_mem_cons.mpr ⟨
  (gs_aload_n dL_law_614 rfl), List.forall_mem_cons.mpr ⟨
  (gs_iload_n dL_law_615 rfl), List.forall_mem_cons.mpr ⟨
  (gs_iconst dL_law_616 rfl), List.forall_mem_cons.mpr ⟨
  (gs_iadd dL_law_617), List.forall_mem_cons.mpr ⟨
  (gs_sldX dL_law_618), List.forall_mem_cons.mpr ⟨
  (gs_cv dL_law_619 (fun q hq => by
      simp only [List.mem_cons, List.not_mem_nil, or_false] at hq
      subst hq
      exact Or.inl ⟨_, rfl, by decide, by decide +kernel, by decide +kernel, gx_sub _ [794, 795, 796, 85, 797] (by decide +kernel) (by decide +kernel)⟩)), List.forall_mem_cons.mpr ⟨
  (gs_aload_n dL_law_622 rfl), List.forall_mem_cons.mpr ⟨
  (gs_aload_n dL_law_623 rfl), fun _ h => absurd h List.not_mem_nil⟩⟩⟩⟩⟩⟩⟩⟩⟩⟩⟩⟩⟩⟩⟩⟩⟩⟩⟩⟩⟩⟩⟩⟩⟩⟩⟩⟩⟩⟩⟩⟩
set_option maxRecDepth 20000 in
theorem kt_L_law_12 (g : gx_T) : ∀ q ∈ k_L_law_12 (gx_n g) (gx_x g), gx_E g gc_md RL code 4 (some .boolean) "law" q.1 q.2 := List.forall_mem_cons.mpr ⟨(gs_iload_n dL_law_624 rfl), List.forall_mem_cons.mpr ⟨
  (gs_iconst dL_law_625 rfl), List.forall_mem_cons.mpr ⟨
  (gs_iadd dL_law_626), List.forall_mem_cons.mpr ⟨
  (gs_sldX dL_law_627), List.forall_mem_cons.mpr ⟨
  (gs_aload_n dL_law_628 rfl), List.forall_mem_cons.mpr ⟨
  (gs_iload_n dL_law_629 rfl), List.forall_mem_cons.mpr ⟨
  (gs_iconst dL_law_630 rfl), List.forall_mem_cons.mpr ⟨
  (gs_iadd dL_law_631), List.forall_mem_cons.mpr ⟨
  (gs_sldX dL_law_632), List.forall_mem_cons.mpr ⟨
  (gs_cv dL_law_633 (fun q hq => by
      simp only [List.mem_cons, List.not_mem_nil, or_false] at hq
      subst hq
      exact Or.inl ⟨_, rfl, by decide, by decide +kernel, by decide +kernel, gx_sub _ [1495, 1496, 1497, 97, 1498] (by decide +kernel) (by decide +kernel)⟩)), List.forall_mem_cons.mpr ⟨
  (gs_icmp_eq dL_law_636 rfl), List.forall_mem_cons.mpr ⟨
  (gs_iconst dL_law_639 rfl), List.forall_mem_cons.mpr ⟨
  (gs_rn dL_law_640 (by decide)), List.forall_mem_cons.mpr ⟨
  (gs_aload_n dL_law_641 rfl), List.forall_mem_cons.mpr ⟨
  (gs_aload_n dL_law_642 rfl), List.forall_mem_cons.mpr ⟨
  (gs_iload_n dL_law_643 rfl), List.forall_mem_cons.mpr ⟨
  (gs_iconst dL_law_644 rfl), List.forall_mem_cons.mpr ⟨
  (gs_iadd dL_law_645), List.forall_mem_cons.mpr ⟨
  (gs_sldX dL_law_646), List.forall_mem_cons.mpr ⟨
  (gs_aload_n dL_law_647 rfl), List.forall_mem_cons.mpr ⟨
  (gs_iload_n dL_law_648 rfl), List.forall_mem_cons.mpr ⟨
  (gs_iconst dL_law_649 rfl), List.forall_mem_cons.mpr ⟨
  (gs_iadd dL_law_650), List.forall_mem_cons.mpr ⟨
  (gs_sldX dL_law_651), List.forall_mem_cons.mpr ⟨
  (gs_aload_n dL_law_652 rfl), List.forall_mem_cons.mpr ⟨
  (gs_iload_n dL_law_653 rfl), List.forall_mem_cons.mpr ⟨
  (gs_iconst dL_law_654 rfl), List.forall_mem_cons.mpr ⟨
  (gs_iadd dL_law_655), List.forall_mem_cons.mpr ⟨
  (gs_sldX dL_law_656), List.forall_mem_cons.mpr ⟨
  (gs_cv dL_law_657 (fun q hq => by
      simp only [List.mem_cons, List.not_mem_nil, or_false] at hq
      subst hq
      exact Or.inl ⟨_, rfl, by decide, by decide +kernel, by decide +kernel, gx_sub _ [798, 799, 800, 85, 801] (by decide +kernel) (by decide +kernel)⟩)), List.forall_mem_cons.mpr ⟨
  (gs_aload_n dL_law_660 rfl), List.forall_mem_cons.mpr ⟨
  (gs_aload_n dL_law_661 rfl), fun _ h => absurd h List.not_mem_nil⟩⟩⟩⟩⟩⟩⟩⟩⟩⟩⟩⟩⟩⟩⟩⟩⟩⟩⟩⟩⟩⟩⟩⟩⟩⟩⟩⟩⟩⟩⟩⟩
set_option maxRecDepth 20000 in
theorem kt_L_law_13 (g : gx_T) : ∀ q ∈ k_L_law_13 (gx_n g) (gx_x g), gx_E g gc_md RL code 4 (some .boolean) "law" q.1 q.2 := List.forall_mem_cons.mpr ⟨(gs_iload_n dL_law_662 rfl), List.forall_mem_cons.mpr ⟨
  (gs_iconst dL_law_663 rfl), List.forall_mem_cons.mpr ⟨
  (gs_iadd dL_law_664), List.forall_mem_cons.mpr ⟨
  (gs_sldX dL_law_665), List.forall_mem_cons.mpr ⟨
  (gs_aload_n dL_law_666 rfl), List.forall_mem_cons.mpr ⟨
  (gs_iload_n dL_law_667 rfl), List.forall_mem_cons.mpr ⟨
  (gs_iconst dL_law_668 rfl), List.forall_mem_cons.mpr ⟨
  (gs_iadd dL_law_669), List.forall_mem_cons.mpr ⟨
  (gs_sldX dL_law_670), List.forall_mem_cons.mpr ⟨
  (gs_aload_n dL_law_671 rfl), List.forall_mem_cons.mpr ⟨
  (gs_iload_n dL_law_672 rfl), List.forall_mem_cons.mpr ⟨
  (gs_iconst dL_law_673 rfl), List.forall_mem_cons.mpr ⟨
  (gs_iadd dL_law_674), List.forall_mem_cons.mpr ⟨
  (gs_sldX dL_law_675), List.forall_mem_cons.mpr ⟨
  (gs_cv dL_law_676 (fun q hq => by
      simp only [List.mem_cons, List.not_mem_nil, or_false] at hq
      subst hq
      exact Or.inl ⟨_, rfl, by decide, by decide +kernel, by decide +kernel, gx_sub _ [1499, 1500, 1501, 97, 1502] (by decide +kernel) (by decide +kernel)⟩)), List.forall_mem_cons.mpr ⟨
  (gs_lcmp dL_law_679), List.forall_mem_cons.mpr ⟨
  (gs_if_eq dL_law_680 rfl), List.forall_mem_cons.mpr ⟨
  (gs_iconst dL_law_683 rfl), List.forall_mem_cons.mpr ⟨
  (gs_rn dL_law_684 (by decide)), List.forall_mem_cons.mpr ⟨
  (gs_aload_n dL_law_685 rfl), List.forall_mem_cons.mpr ⟨
  (gs_aload_n dL_law_686 rfl), List.forall_mem_cons.mpr ⟨
  (gs_iload_n dL_law_687 rfl), List.forall_mem_cons.mpr ⟨
  (gs_iconst dL_law_688 rfl), List.forall_mem_cons.mpr ⟨
  (gs_iadd dL_law_689), List.forall_mem_cons.mpr ⟨
  (gs_sldX dL_law_690), List.forall_mem_cons.mpr ⟨
  (gs_cv dL_law_691 (fun q hq => by
      simp only [List.mem_cons, List.not_mem_nil, or_false] at hq
      subst hq
      exact Or.inl ⟨_, rfl, by decide, by decide +kernel, by decide +kernel, gx_sub _ [806, 807, 808, 85, 809] (by decide +kernel) (by decide +kernel)⟩)), List.forall_mem_cons.mpr ⟨
  (gs_aload_n dL_law_694 rfl), List.forall_mem_cons.mpr ⟨
  (gs_aload_n dL_law_695 rfl), List.forall_mem_cons.mpr ⟨
  (gs_iload_n dL_law_696 rfl), List.forall_mem_cons.mpr ⟨
  (gs_iconst dL_law_697 rfl), List.forall_mem_cons.mpr ⟨
  (gs_iadd dL_law_698), List.forall_mem_cons.mpr ⟨
  (gs_sldX dL_law_699), fun _ h => absurd h List.not_mem_nil⟩⟩⟩⟩⟩⟩⟩⟩⟩⟩⟩⟩⟩⟩⟩⟩⟩⟩⟩⟩⟩⟩⟩⟩⟩⟩⟩⟩⟩⟩⟩⟩
set_option maxRecDepth 20000 in
theorem kt_L_law_14 (g : gx_T) : ∀ q ∈ k_L_law_14 (gx_n g) (gx_x g), gx_E g gc_md RL code 4 (some .boolean) "law" q.1 q.2 := List.forall_mem_cons.mpr ⟨(gs_cv dL_law_700 (fun q hq => by
      simp only [List.mem_cons, List.not_mem_nil, or_false] at hq
      subst hq
      exact Or.inl ⟨_, rfl, by decide, by decide +kernel, by decide +kernel, gx_sub _ [1512, 1513, 1514, 97, 1515] (by decide +kernel) (by decide +kernel)⟩)), List.forall_mem_cons.mpr ⟨
  (gs_lcmp dL_law_703), List.forall_mem_cons.mpr ⟨
  (gs_if_eq dL_law_704 rfl), List.forall_mem_cons.mpr ⟨
  (gs_iconst dL_law_707 rfl), List.forall_mem_cons.mpr ⟨
  (gs_rn dL_law_708 (by decide)), List.forall_mem_cons.mpr ⟨
  (gs_aload_n dL_law_709 rfl), List.forall_mem_cons.mpr ⟨
  (gs_aload_n dL_law_710 rfl), List.forall_mem_cons.mpr ⟨
  (gs_iload_n dL_law_711 rfl), List.forall_mem_cons.mpr ⟨
  (gs_iconst dL_law_712 rfl), List.forall_mem_cons.mpr ⟨
  (gs_iadd dL_law_713), List.forall_mem_cons.mpr ⟨
  (gs_sldX dL_law_714), List.forall_mem_cons.mpr ⟨
  (gs_aload_n dL_law_715 rfl), List.forall_mem_cons.mpr ⟨
  (gs_iload_n dL_law_716 rfl), List.forall_mem_cons.mpr ⟨
  (gs_iconst dL_law_717 rfl), List.forall_mem_cons.mpr ⟨
  (gs_iadd dL_law_718), List.forall_mem_cons.mpr ⟨
  (gs_sldX dL_law_719), List.forall_mem_cons.mpr ⟨
  (gs_cv dL_law_720 (fun q hq => by
      simp only [List.mem_cons, List.not_mem_nil, or_false] at hq
      subst hq
      exact Or.inl ⟨_, rfl, by decide, by decide +kernel, by decide +kernel, gx_sub _ [810, 811, 812, 85, 813] (by decide +kernel) (by decide +kernel)⟩)), List.forall_mem_cons.mpr ⟨
  (gs_aload_n dL_law_723 rfl), List.forall_mem_cons.mpr ⟨
  (gs_aload_n dL_law_724 rfl), List.forall_mem_cons.mpr ⟨
  (gs_iload_n dL_law_725 rfl), List.forall_mem_cons.mpr ⟨
  (gs_iconst dL_law_726 rfl), List.forall_mem_cons.mpr ⟨
  (gs_iadd dL_law_727), List.forall_mem_cons.mpr ⟨
  (gs_sldX dL_law_728), List.forall_mem_cons.mpr ⟨
  (gs_aload_n dL_law_729 rfl), List.forall_mem_cons.mpr ⟨
  (gs_iload_n dL_law_730 rfl), List.forall_mem_cons.mpr ⟨
  (gs_iconst dL_law_731 rfl), List.forall_mem_cons.mpr ⟨
  (gs_iadd dL_law_732), List.forall_mem_cons.mpr ⟨
  (gs_sldX dL_law_733), List.forall_mem_cons.mpr ⟨
  (gs_cv dL_law_734 (fun q hq => by
      simp only [List.mem_cons, List.not_mem_nil, or_false] at hq
      subst hq
      exact Or.inl ⟨_, rfl, by decide, by decide +kernel, by decide +kernel, gx_sub _ [1516, 1517, 1518, 97, 1519] (by decide +kernel) (by decide +kernel)⟩)), List.forall_mem_cons.mpr ⟨
  (gs_icmp_eq dL_law_737 rfl), List.forall_mem_cons.mpr ⟨
  (gs_iconst dL_law_740 rfl), List.forall_mem_cons.mpr ⟨
  (gs_rn dL_law_741 (by decide)), fun _ h => absurd h List.not_mem_nil⟩⟩⟩⟩⟩⟩⟩⟩⟩⟩⟩⟩⟩⟩⟩⟩⟩⟩⟩⟩⟩⟩⟩⟩⟩⟩⟩⟩⟩⟩⟩⟩
set_option maxRecDepth 20000 in
theorem kt_L_law_15 (g : gx_T) : ∀ q ∈ k_L_law_15 (gx_n g) (gx_x g), gx_E g gc_md RL code 4 (some .boolean) "law" q.1 q.2 := List.forall_mem_cons.mpr ⟨(gs_aload_n dL_law_742 rfl), List.forall_mem_cons.mpr ⟨
  (gs_aload_n dL_law_743 rfl), List.forall_mem_cons.mpr ⟨
  (gs_iload_n dL_law_744 rfl), List.forall_mem_cons.mpr ⟨
  (gs_iconst dL_law_745 rfl), List.forall_mem_cons.mpr ⟨
  (gs_iadd dL_law_746), List.forall_mem_cons.mpr ⟨
  (gs_sldX dL_law_747), List.forall_mem_cons.mpr ⟨
  (gs_cv dL_law_748 (fun q hq => by
      simp only [List.mem_cons, List.not_mem_nil, or_false] at hq
      subst hq
      exact Or.inl ⟨_, rfl, by decide, by decide +kernel, by decide +kernel, gx_sub _ [814, 815, 816, 85, 817] (by decide +kernel) (by decide +kernel)⟩)), List.forall_mem_cons.mpr ⟨
  (gs_aload_n dL_law_751 rfl), List.forall_mem_cons.mpr ⟨
  (gs_aload_n dL_law_752 rfl), List.forall_mem_cons.mpr ⟨
  (gs_iload_n dL_law_753 rfl), List.forall_mem_cons.mpr ⟨
  (gs_iconst dL_law_754 rfl), List.forall_mem_cons.mpr ⟨
  (gs_iadd dL_law_755), List.forall_mem_cons.mpr ⟨
  (gs_sldX dL_law_756), List.forall_mem_cons.mpr ⟨
  (gs_cv dL_law_757 (fun q hq => by
      simp only [List.mem_cons, List.not_mem_nil, or_false] at hq
      subst hq
      exact Or.inl ⟨_, rfl, by decide, by decide +kernel, by decide +kernel, gx_sub _ [1520, 1521, 1522, 97, 1523] (by decide +kernel) (by decide +kernel)⟩)), List.forall_mem_cons.mpr ⟨
  (gs_icmp_eq dL_law_760 rfl), List.forall_mem_cons.mpr ⟨
  (gs_iconst dL_law_763 rfl), List.forall_mem_cons.mpr ⟨
  (gs_rn dL_law_764 (by decide)), List.forall_mem_cons.mpr ⟨
  (gs_aload_n dL_law_765 rfl), List.forall_mem_cons.mpr ⟨
  (gs_aload_n dL_law_766 rfl), List.forall_mem_cons.mpr ⟨
  (gs_iload_n dL_law_767 rfl), List.forall_mem_cons.mpr ⟨
  (gs_iconst dL_law_768 rfl), List.forall_mem_cons.mpr ⟨
  (gs_iadd dL_law_769), List.forall_mem_cons.mpr ⟨
  (gs_sldX dL_law_770), List.forall_mem_cons.mpr ⟨
  (gs_aload_n dL_law_771 rfl), List.forall_mem_cons.mpr ⟨
  (gs_iload_n dL_law_772 rfl), List.forall_mem_cons.mpr ⟨
  (gs_iconst dL_law_773 rfl), List.forall_mem_cons.mpr ⟨
  (gs_iadd dL_law_774), List.forall_mem_cons.mpr ⟨
  (gs_sldX dL_law_775), List.forall_mem_cons.mpr ⟨
  (gs_cv dL_law_776 (fun q hq => by
      simp only [List.mem_cons, List.not_mem_nil, or_false] at hq
      subst hq
      exact Or.inl ⟨_, rfl, by decide, by decide +kernel, by decide +kernel, gx_sub _ [823, 824, 825, 85, 826] (by decide +kernel) (by decide +kernel)⟩)), List.forall_mem_cons.mpr ⟨
  (gs_aload_n dL_law_779 rfl), List.forall_mem_cons.mpr ⟨
  (gs_aload_n dL_law_780 rfl), List.forall_mem_cons.mpr ⟨
  (gs_iload_n dL_law_781 rfl), fun _ h => absurd h List.not_mem_nil⟩⟩⟩⟩⟩⟩⟩⟩⟩⟩⟩⟩⟩⟩⟩⟩⟩⟩⟩⟩⟩⟩⟩⟩⟩⟩⟩⟩⟩⟩⟩⟩
set_option maxRecDepth 20000 in
theorem kt_L_law_16 (g : gx_T) : ∀ q ∈ k_L_law_16 (gx_n g) (gx_x g), gx_E g gc_md RL code 4 (some .boolean) "law" q.1 q.2 := List.forall_mem_cons.mpr ⟨(gs_iconst dL_law_782 rfl), List.forall_mem_cons.mpr ⟨
  (gs_iadd dL_law_783), List.forall_mem_cons.mpr ⟨
  (gs_sldX dL_law_784), List.forall_mem_cons.mpr ⟨
  (gs_aload_n dL_law_785 rfl), List.forall_mem_cons.mpr ⟨
  (gs_iload_n dL_law_786 rfl), List.forall_mem_cons.mpr ⟨
  (gs_iconst dL_law_787 rfl), List.forall_mem_cons.mpr ⟨
  (gs_iadd dL_law_788), List.forall_mem_cons.mpr ⟨
  (gs_sldX dL_law_789), List.forall_mem_cons.mpr ⟨
  (gs_cv dL_law_790 (fun q hq => by
      simp only [List.mem_cons, List.not_mem_nil, or_false] at hq
      subst hq
      exact Or.inl ⟨_, rfl, by decide, by decide +kernel, by decide +kernel, gx_sub _ [1528, 1529, 1530, 97, 1531] (by decide +kernel) (by decide +kernel)⟩)), List.forall_mem_cons.mpr ⟨
  (gs_icmp_eq dL_law_793 rfl), List.forall_mem_cons.mpr ⟨
  (gs_iconst dL_law_796 rfl), List.forall_mem_cons.mpr ⟨
  (gs_rn dL_law_797 (by decide)), List.forall_mem_cons.mpr ⟨
  (gs_aload_n dL_law_798 rfl), List.forall_mem_cons.mpr ⟨
  (gs_cv dL_law_799 (fun q hq => by
      simp only [List.mem_cons, List.not_mem_nil, or_false] at hq
      subst hq
      exact Or.inl ⟨_, rfl, by decide, by decide +kernel, by decide +kernel, gx_sub _ [827, 828, 829, 85, 830] (by decide +kernel) (by decide +kernel)⟩)), List.forall_mem_cons.mpr ⟨
  (gs_aload_n dL_law_802 rfl), List.forall_mem_cons.mpr ⟨
  (gs_cv dL_law_803 (fun q hq => by
      simp only [List.mem_cons, List.not_mem_nil, or_false] at hq
      subst hq
      exact Or.inl ⟨_, rfl, by decide, by decide +kernel, by decide +kernel, gx_sub _ [1532, 1533, 1534, 97, 1535] (by decide +kernel) (by decide +kernel)⟩)), List.forall_mem_cons.mpr ⟨
  (gs_icmp_eq dL_law_806 rfl), List.forall_mem_cons.mpr ⟨
  (gs_iconst dL_law_809 rfl), List.forall_mem_cons.mpr ⟨
  (gs_rn dL_law_810 (by decide)), List.forall_mem_cons.mpr ⟨
  (gs_aload_n dL_law_811 rfl), List.forall_mem_cons.mpr ⟨
  (gs_aload_n dL_law_812 rfl), List.forall_mem_cons.mpr ⟨
  (gs_iload_n dL_law_813 rfl), List.forall_mem_cons.mpr ⟨
  (gs_iconst dL_law_814 rfl), List.forall_mem_cons.mpr ⟨
  (gs_iadd dL_law_815), List.forall_mem_cons.mpr ⟨
  (gs_sldX dL_law_816), List.forall_mem_cons.mpr ⟨
  (gs_aload_n dL_law_817 rfl), List.forall_mem_cons.mpr ⟨
  (gs_iload_n dL_law_818 rfl), List.forall_mem_cons.mpr ⟨
  (gs_iconst dL_law_819 rfl), List.forall_mem_cons.mpr ⟨
  (gs_iadd dL_law_820), List.forall_mem_cons.mpr ⟨
  (gs_sldX dL_law_821), List.forall_mem_cons.mpr ⟨
  (gs_cv dL_law_822 (fun q hq => by
      simp only [List.mem_cons, List.not_mem_nil, or_false] at hq
      subst hq
      exact Or.inl ⟨_, rfl, by decide, by decide +kernel, by decide +kernel, gx_sub _ [831, 832, 833, 85, 834] (by decide +kernel) (by decide +kernel)⟩)), List.forall_mem_cons.mpr ⟨
  (gs_aload_n dL_law_825 rfl), fun _ h => absurd h List.not_mem_nil⟩⟩⟩⟩⟩⟩⟩⟩⟩⟩⟩⟩⟩⟩⟩⟩⟩⟩⟩⟩⟩⟩⟩⟩⟩⟩⟩⟩⟩⟩⟩⟩
set_option maxRecDepth 20000 in
theorem kt_L_law_17 (g : gx_T) : ∀ q ∈ k_L_law_17 (gx_n g) (gx_x g), gx_E g gc_md RL code 4 (some .boolean) "law" q.1 q.2 := List.forall_mem_cons.mpr ⟨(gs_aload_n dL_law_826 rfl), List.forall_mem_cons.mpr ⟨
  (gs_iload_n dL_law_827 rfl), List.forall_mem_cons.mpr ⟨
  (gs_iconst dL_law_828 rfl), List.forall_mem_cons.mpr ⟨
  (gs_iadd dL_law_829), List.forall_mem_cons.mpr ⟨
  (gs_sldX dL_law_830), List.forall_mem_cons.mpr ⟨
  (gs_aload_n dL_law_831 rfl), List.forall_mem_cons.mpr ⟨
  (gs_iload_n dL_law_832 rfl), List.forall_mem_cons.mpr ⟨
  (gs_iconst dL_law_833 rfl), List.forall_mem_cons.mpr ⟨
  (gs_iadd dL_law_834), List.forall_mem_cons.mpr ⟨
  (gs_sldX dL_law_835), List.forall_mem_cons.mpr ⟨
  (gs_cv dL_law_836 (fun q hq => by
      simp only [List.mem_cons, List.not_mem_nil, or_false] at hq
      subst hq
      exact Or.inl ⟨_, rfl, by decide, by decide +kernel, by decide +kernel, gx_sub _ [1536, 1537, 1538, 97, 1539] (by decide +kernel) (by decide +kernel)⟩)), List.forall_mem_cons.mpr ⟨
  (gs_icmp_eq dL_law_839 rfl), List.forall_mem_cons.mpr ⟨
  (gs_iconst dL_law_842 rfl), List.forall_mem_cons.mpr ⟨
  (gs_rn dL_law_843 (by decide)), List.forall_mem_cons.mpr ⟨
  (gs_aload_n dL_law_844 rfl), List.forall_mem_cons.mpr ⟨
  (gs_cv dL_law_845 (fun q hq => by
      simp only [List.mem_cons, List.not_mem_nil, or_false] at hq
      subst hq
      exact Or.inl ⟨_, rfl, by decide, by decide +kernel, by decide +kernel, gx_sub _ [835, 836, 837, 85, 838] (by decide +kernel) (by decide +kernel)⟩)), List.forall_mem_cons.mpr ⟨
  (gs_aload_n dL_law_848 rfl), List.forall_mem_cons.mpr ⟨
  (gs_cv dL_law_849 (fun q hq => by
      simp only [List.mem_cons, List.not_mem_nil, or_false] at hq
      subst hq
      exact Or.inl ⟨_, rfl, by decide, by decide +kernel, by decide +kernel, gx_sub _ [1544, 1545, 1546, 97, 1547] (by decide +kernel) (by decide +kernel)⟩)), List.forall_mem_cons.mpr ⟨
  (gs_icmp_eq dL_law_852 rfl), List.forall_mem_cons.mpr ⟨
  (gs_iconst dL_law_855 rfl), List.forall_mem_cons.mpr ⟨
  (gs_rn dL_law_856 (by decide)), List.forall_mem_cons.mpr ⟨
  (gs_aload_n dL_law_857 rfl), List.forall_mem_cons.mpr ⟨
  (gs_cv dL_law_858 (fun q hq => by
      simp only [List.mem_cons, List.not_mem_nil, or_false] at hq
      subst hq
      exact Or.inl ⟨_, rfl, by decide, by decide +kernel, by decide +kernel, gx_sub _ [844, 845, 846, 85, 847] (by decide +kernel) (by decide +kernel)⟩)), List.forall_mem_cons.mpr ⟨
  (gs_aload_n dL_law_861 rfl), List.forall_mem_cons.mpr ⟨
  (gs_cv dL_law_862 (fun q hq => by
      simp only [List.mem_cons, List.not_mem_nil, or_false] at hq
      subst hq
      exact Or.inl ⟨_, rfl, by decide, by decide +kernel, by decide +kernel, gx_sub _ [1548, 1549, 1550, 97, 1551] (by decide +kernel) (by decide +kernel)⟩)), List.forall_mem_cons.mpr ⟨
  (gs_icmp_eq dL_law_865 rfl), List.forall_mem_cons.mpr ⟨
  (gs_iconst dL_law_868 rfl), List.forall_mem_cons.mpr ⟨
  (gs_rn dL_law_869 (by decide)), List.forall_mem_cons.mpr ⟨
  (gs_aload_n dL_law_870 rfl), List.forall_mem_cons.mpr ⟨
  (gs_aload_n dL_law_871 rfl), List.forall_mem_cons.mpr ⟨
  (gs_iload_n dL_law_872 rfl), List.forall_mem_cons.mpr ⟨
  (gs_iconst dL_law_873 rfl), fun _ h => absurd h List.not_mem_nil⟩⟩⟩⟩⟩⟩⟩⟩⟩⟩⟩⟩⟩⟩⟩⟩⟩⟩⟩⟩⟩⟩⟩⟩⟩⟩⟩⟩⟩⟩⟩⟩
set_option maxRecDepth 20000 in
theorem kt_L_law_18 (g : gx_T) : ∀ q ∈ k_L_law_18 (gx_n g) (gx_x g), gx_E g gc_md RL code 4 (some .boolean) "law" q.1 q.2 := List.forall_mem_cons.mpr ⟨(gs_iadd dL_law_874), List.forall_mem_cons.mpr ⟨
  (gs_sldX dL_law_875), List.forall_mem_cons.mpr ⟨
  (gs_aload_n dL_law_876 rfl), List.forall_mem_cons.mpr ⟨
  (gs_iload_n dL_law_877 rfl), List.forall_mem_cons.mpr ⟨
  (gs_iconst dL_law_878 rfl), List.forall_mem_cons.mpr ⟨
  (gs_iadd dL_law_879), List.forall_mem_cons.mpr ⟨
  (gs_sldX dL_law_880), List.forall_mem_cons.mpr ⟨
  (gs_aload_n dL_law_881 rfl), List.forall_mem_cons.mpr ⟨
  (gs_iload_n dL_law_882 rfl), List.forall_mem_cons.mpr ⟨
  (gs_iconst dL_law_883 rfl), List.forall_mem_cons.mpr ⟨
  (gs_iadd dL_law_884), List.forall_mem_cons.mpr ⟨
  (gs_sldX dL_law_885), List.forall_mem_cons.mpr ⟨
  (gs_cv dL_law_886 (fun q hq => by
      simp only [List.mem_cons, List.not_mem_nil, or_false] at hq
      subst hq
      exact Or.inl ⟨_, rfl, by decide, by decide +kernel, by decide +kernel, gx_sub _ [848, 849, 850, 85, 851] (by decide +kernel) (by decide +kernel)⟩)), List.forall_mem_cons.mpr ⟨
  (gs_aload_n dL_law_889 rfl), List.forall_mem_cons.mpr ⟨
  (gs_aload_n dL_law_890 rfl), List.forall_mem_cons.mpr ⟨
  (gs_iload_n dL_law_891 rfl), List.forall_mem_cons.mpr ⟨
  (gs_iconst dL_law_892 rfl), List.forall_mem_cons.mpr ⟨
  (gs_iadd dL_law_893), List.forall_mem_cons.mpr ⟨
  (gs_sldX dL_law_894), List.forall_mem_cons.mpr ⟨
  (gs_aload_n dL_law_895 rfl), List.forall_mem_cons.mpr ⟨
  (gs_iload_n dL_law_896 rfl), List.forall_mem_cons.mpr ⟨
  (gs_iconst dL_law_897 rfl), List.forall_mem_cons.mpr ⟨
  (gs_iadd dL_law_898), List.forall_mem_cons.mpr ⟨
  (gs_sldX dL_law_899), List.forall_mem_cons.mpr ⟨
  (gs_aload_n dL_law_900 rfl), List.forall_mem_cons.mpr ⟨
  (gs_iload_n dL_law_901 rfl), List.forall_mem_cons.mpr ⟨
  (gs_iconst dL_law_902 rfl), List.forall_mem_cons.mpr ⟨
  (gs_iadd dL_law_903), List.forall_mem_cons.mpr ⟨
  (gs_sldX dL_law_904), List.forall_mem_cons.mpr ⟨
  (gs_cv dL_law_905 (fun q hq => by
      simp only [List.mem_cons, List.not_mem_nil, or_false] at hq
      subst hq
      exact Or.inl ⟨_, rfl, by decide, by decide +kernel, by decide +kernel, gx_sub _ [1552, 1553, 1554, 97, 1555] (by decide +kernel) (by decide +kernel)⟩)), List.forall_mem_cons.mpr ⟨
  (gs_icmp_eq dL_law_908 rfl), List.forall_mem_cons.mpr ⟨
  (gs_iconst dL_law_911 rfl), fun _ h => absurd h List.not_mem_nil⟩⟩⟩⟩⟩⟩⟩⟩⟩⟩⟩⟩⟩⟩⟩⟩⟩⟩⟩⟩⟩⟩⟩⟩⟩⟩⟩⟩⟩⟩⟩⟩
set_option maxRecDepth 20000 in
theorem kt_L_law_19 (g : gx_T) : ∀ q ∈ k_L_law_19 (gx_n g) (gx_x g), gx_E g gc_md RL code 4 (some .boolean) "law" q.1 q.2 := List.forall_mem_cons.mpr ⟨(gs_rn dL_law_912 (by decide)), List.forall_mem_cons.mpr ⟨
  (gs_aload_n dL_law_913 rfl), List.forall_mem_cons.mpr ⟨
  (gs_aload_n dL_law_914 rfl), List.forall_mem_cons.mpr ⟨
  (gs_iload_n dL_law_915 rfl), List.forall_mem_cons.mpr ⟨
  (gs_iconst dL_law_916 rfl), List.forall_mem_cons.mpr ⟨
  (gs_iadd dL_law_917), List.forall_mem_cons.mpr ⟨
  (gs_sldX dL_law_918), List.forall_mem_cons.mpr ⟨
  (gs_cv dL_law_919 (fun q hq => by
      simp only [List.mem_cons, List.not_mem_nil, or_false] at hq
      subst hq
      exact Or.inl ⟨_, rfl, by decide, by decide +kernel, by decide +kernel, gx_sub _ [957, 958, 959, 85, 960] (by decide +kernel) (by decide +kernel)⟩)), List.forall_mem_cons.mpr ⟨
  (gs_aload_n dL_law_922 rfl), List.forall_mem_cons.mpr ⟨
  (gs_aload_n dL_law_923 rfl), List.forall_mem_cons.mpr ⟨
  (gs_iload_n dL_law_924 rfl), List.forall_mem_cons.mpr ⟨
  (gs_iconst dL_law_925 rfl), List.forall_mem_cons.mpr ⟨
  (gs_iadd dL_law_926), List.forall_mem_cons.mpr ⟨
  (gs_sldX dL_law_927), List.forall_mem_cons.mpr ⟨
  (gs_cv dL_law_928 (fun q hq => by
      simp only [List.mem_cons, List.not_mem_nil, or_false] at hq
      subst hq
      exact Or.inl ⟨_, rfl, by decide, by decide +kernel, by decide +kernel, gx_sub _ [1588, 1589, 1590, 97, 1591] (by decide +kernel) (by decide +kernel)⟩)), List.forall_mem_cons.mpr ⟨
  (gs_icmp_eq dL_law_931 rfl), List.forall_mem_cons.mpr ⟨
  (gs_iconst dL_law_934 rfl), List.forall_mem_cons.mpr ⟨
  (gs_rn dL_law_935 (by decide)), List.forall_mem_cons.mpr ⟨
  (gs_aload_n dL_law_936 rfl), List.forall_mem_cons.mpr ⟨
  (gs_aload_n dL_law_937 rfl), List.forall_mem_cons.mpr ⟨
  (gs_iload_n dL_law_938 rfl), List.forall_mem_cons.mpr ⟨
  (gs_iconst dL_law_939 rfl), List.forall_mem_cons.mpr ⟨
  (gs_iadd dL_law_940), List.forall_mem_cons.mpr ⟨
  (gs_sldX dL_law_941), List.forall_mem_cons.mpr ⟨
  (gs_aload_n dL_law_942 rfl), List.forall_mem_cons.mpr ⟨
  (gs_iload_n dL_law_943 rfl), List.forall_mem_cons.mpr ⟨
  (gs_iconst dL_law_944 rfl), List.forall_mem_cons.mpr ⟨
  (gs_iadd dL_law_945), List.forall_mem_cons.mpr ⟨
  (gs_sldX dL_law_946), List.forall_mem_cons.mpr ⟨
  (gs_cv dL_law_947 (fun q hq => by
      simp only [List.mem_cons, List.not_mem_nil, or_false] at hq
      subst hq
      exact Or.inl ⟨_, rfl, by decide, by decide +kernel, by decide +kernel, gx_sub _ [961, 962, 963, 85, 964] (by decide +kernel) (by decide +kernel)⟩)), List.forall_mem_cons.mpr ⟨
  (gs_aload_n dL_law_950 rfl), List.forall_mem_cons.mpr ⟨
  (gs_aload_n dL_law_951 rfl), fun _ h => absurd h List.not_mem_nil⟩⟩⟩⟩⟩⟩⟩⟩⟩⟩⟩⟩⟩⟩⟩⟩⟩⟩⟩⟩⟩⟩⟩⟩⟩⟩⟩⟩⟩⟩⟩⟩
set_option maxRecDepth 20000 in
theorem kt_L_law_20 (g : gx_T) : ∀ q ∈ k_L_law_20 (gx_n g) (gx_x g), gx_E g gc_md RL code 4 (some .boolean) "law" q.1 q.2 := List.forall_mem_cons.mpr ⟨(gs_iload_n dL_law_952 rfl), List.forall_mem_cons.mpr ⟨
  (gs_iconst dL_law_953 rfl), List.forall_mem_cons.mpr ⟨
  (gs_iadd dL_law_954), List.forall_mem_cons.mpr ⟨
  (gs_sldX dL_law_955), List.forall_mem_cons.mpr ⟨
  (gs_aload_n dL_law_956 rfl), List.forall_mem_cons.mpr ⟨
  (gs_iload_n dL_law_957 rfl), List.forall_mem_cons.mpr ⟨
  (gs_iconst dL_law_958 rfl), List.forall_mem_cons.mpr ⟨
  (gs_iadd dL_law_959), List.forall_mem_cons.mpr ⟨
  (gs_sldX dL_law_960), List.forall_mem_cons.mpr ⟨
  (gs_cv dL_law_961 (fun q hq => by
      simp only [List.mem_cons, List.not_mem_nil, or_false] at hq
      subst hq
      exact Or.inl ⟨_, rfl, by decide, by decide +kernel, by decide +kernel, gx_sub _ [1592, 1593, 1594, 97, 1595] (by decide +kernel) (by decide +kernel)⟩)), List.forall_mem_cons.mpr ⟨
  (gs_icmp_eq dL_law_964 rfl), List.forall_mem_cons.mpr ⟨
  (gs_iconst dL_law_967 rfl), List.forall_mem_cons.mpr ⟨
  (gs_rn dL_law_968 (by decide)), List.forall_mem_cons.mpr ⟨
  (gs_aload_n dL_law_969 rfl), List.forall_mem_cons.mpr ⟨
  (gs_aload_n dL_law_970 rfl), List.forall_mem_cons.mpr ⟨
  (gs_iload_n dL_law_971 rfl), List.forall_mem_cons.mpr ⟨
  (gs_iconst dL_law_972 rfl), List.forall_mem_cons.mpr ⟨
  (gs_iadd dL_law_973), List.forall_mem_cons.mpr ⟨
  (gs_sldX dL_law_974), List.forall_mem_cons.mpr ⟨
  (gs_cv dL_law_975 (fun q hq => by
      simp only [List.mem_cons, List.not_mem_nil, or_false] at hq
      subst hq
      exact Or.inl ⟨_, rfl, by decide, by decide +kernel, by decide +kernel, gx_sub _ [967, 968, 969, 85, 970] (by decide +kernel) (by decide +kernel)⟩)), List.forall_mem_cons.mpr ⟨
  (gs_aload_n dL_law_978 rfl), List.forall_mem_cons.mpr ⟨
  (gs_aload_n dL_law_979 rfl), List.forall_mem_cons.mpr ⟨
  (gs_iload_n dL_law_980 rfl), List.forall_mem_cons.mpr ⟨
  (gs_iconst dL_law_981 rfl), List.forall_mem_cons.mpr ⟨
  (gs_iadd dL_law_982), List.forall_mem_cons.mpr ⟨
  (gs_sldX dL_law_983), List.forall_mem_cons.mpr ⟨
  (gs_cv dL_law_984 (fun q hq => by
      simp only [List.mem_cons, List.not_mem_nil, or_false] at hq
      subst hq
      exact Or.inl ⟨_, rfl, by decide, by decide +kernel, by decide +kernel, gx_sub _ [1596, 1597, 1598, 97, 1599] (by decide +kernel) (by decide +kernel)⟩)), List.forall_mem_cons.mpr ⟨
  (gs_icmp_eq dL_law_987 rfl), List.forall_mem_cons.mpr ⟨
  (gs_iconst dL_law_990 rfl), List.forall_mem_cons.mpr ⟨
  (gs_rn dL_law_991 (by decide)), List.forall_mem_cons.mpr ⟨
  (gs_aload_n dL_law_992 rfl), List.forall_mem_cons.mpr ⟨
  (gs_aload_n dL_law_993 rfl), fun _ h => absurd h List.not_mem_nil⟩⟩⟩⟩⟩⟩⟩⟩⟩⟩⟩⟩⟩⟩⟩⟩⟩⟩⟩⟩⟩⟩⟩⟩⟩⟩⟩⟩⟩⟩⟩⟩
set_option maxRecDepth 20000 in
theorem kt_L_law_21 (g : gx_T) : ∀ q ∈ k_L_law_21 (gx_n g) (gx_x g), gx_E g gc_md RL code 4 (some .boolean) "law" q.1 q.2 := List.forall_mem_cons.mpr ⟨(gs_iload_n dL_law_994 rfl), List.forall_mem_cons.mpr ⟨
  (gs_iconst dL_law_995 rfl), List.forall_mem_cons.mpr ⟨
  (gs_iadd dL_law_996), List.forall_mem_cons.mpr ⟨
  (gs_sldX dL_law_997), List.forall_mem_cons.mpr ⟨
  (gs_aload_n dL_law_998 rfl), List.forall_mem_cons.mpr ⟨
  (gs_iload_n dL_law_999 rfl), List.forall_mem_cons.mpr ⟨
  (gs_iconst dL_law_1000 rfl), List.forall_mem_cons.mpr ⟨
  (gs_iadd dL_law_1001), List.forall_mem_cons.mpr ⟨
  (gs_sldX dL_law_1002), List.forall_mem_cons.mpr ⟨
  (gs_aload_n dL_law_1003 rfl), List.forall_mem_cons.mpr ⟨
  (gs_iload_n dL_law_1004 rfl), List.forall_mem_cons.mpr ⟨
  (gs_iconst dL_law_1005 rfl), List.forall_mem_cons.mpr ⟨
  (gs_iadd dL_law_1006), List.forall_mem_cons.mpr ⟨
  (gs_sldX dL_law_1007), List.forall_mem_cons.mpr ⟨
  (gs_cv dL_law_1008 (fun q hq => by
      simp only [List.mem_cons, List.not_mem_nil, or_false] at hq
      subst hq
      exact Or.inl ⟨_, rfl, by decide, by decide +kernel, by decide +kernel, gx_sub _ [971, 972, 973, 85, 974] (by decide +kernel) (by decide +kernel)⟩)), List.forall_mem_cons.mpr ⟨
  (gs_aload_n dL_law_1011 rfl), List.forall_mem_cons.mpr ⟨
  (gs_aload_n dL_law_1012 rfl), List.forall_mem_cons.mpr ⟨
  (gs_iload_n dL_law_1013 rfl), List.forall_mem_cons.mpr ⟨
  (gs_iconst dL_law_1014 rfl), List.forall_mem_cons.mpr ⟨
  (gs_iadd dL_law_1015), List.forall_mem_cons.mpr ⟨
  (gs_sldX dL_law_1016), List.forall_mem_cons.mpr ⟨
  (gs_aload_n dL_law_1017 rfl), List.forall_mem_cons.mpr ⟨
  (gs_iload_n dL_law_1018 rfl), List.forall_mem_cons.mpr ⟨
  (gs_iconst dL_law_1019 rfl), List.forall_mem_cons.mpr ⟨
  (gs_iadd dL_law_1020), List.forall_mem_cons.mpr ⟨
  (gs_sldX dL_law_1021), List.forall_mem_cons.mpr ⟨
  (gs_aload_n dL_law_1022 rfl), List.forall_mem_cons.mpr ⟨
  (gs_iload_n dL_law_1023 rfl), List.forall_mem_cons.mpr ⟨
  (gs_iconst dL_law_1024 rfl), List.forall_mem_cons.mpr ⟨
  (gs_iadd dL_law_1025), List.forall_mem_cons.mpr ⟨
  (gs_sldX dL_law_1026), List.forall_mem_cons.mpr ⟨
  (gs_cv dL_law_1027 (fun q hq => by
      simp only [List.mem_cons, List.not_mem_nil, or_false] at hq
      subst hq
      exact Or.inl ⟨_, rfl, by decide, by decide +kernel, by decide +kernel, gx_sub _ [1600, 1601, 1602, 97, 1603] (by decide +kernel) (by decide +kernel)⟩)), fun _ h => absurd h List.not_mem_nil⟩⟩⟩⟩⟩⟩⟩⟩⟩⟩⟩⟩⟩⟩⟩⟩⟩⟩⟩⟩⟩⟩⟩⟩⟩⟩⟩⟩⟩⟩⟩⟩
set_option maxRecDepth 20000 in
theorem kt_L_law_22 (g : gx_T) : ∀ q ∈ k_L_law_22 (gx_n g) (gx_x g), gx_E g gc_md RL code 4 (some .boolean) "law" q.1 q.2 := List.forall_mem_cons.mpr ⟨(gs_icmp_eq dL_law_1030 rfl), List.forall_mem_cons.mpr ⟨
  (gs_iconst dL_law_1033 rfl), List.forall_mem_cons.mpr ⟨
  (gs_rn dL_law_1034 (by decide)), List.forall_mem_cons.mpr ⟨
  (gs_aload_n dL_law_1035 rfl), List.forall_mem_cons.mpr ⟨
  (gs_aload_n dL_law_1036 rfl), List.forall_mem_cons.mpr ⟨
  (gs_iload_n dL_law_1037 rfl), List.forall_mem_cons.mpr ⟨
  (gs_iconst dL_law_1038 rfl), List.forall_mem_cons.mpr ⟨
  (gs_iadd dL_law_1039), List.forall_mem_cons.mpr ⟨
  (gs_sldX dL_law_1040), List.forall_mem_cons.mpr ⟨
  (gs_aload_n dL_law_1041 rfl), List.forall_mem_cons.mpr ⟨
  (gs_iload_n dL_law_1042 rfl), List.forall_mem_cons.mpr ⟨
  (gs_iconst dL_law_1043 rfl), List.forall_mem_cons.mpr ⟨
  (gs_iadd dL_law_1044), List.forall_mem_cons.mpr ⟨
  (gs_sldX dL_law_1045), List.forall_mem_cons.mpr ⟨
  (gs_aload_n dL_law_1046 rfl), List.forall_mem_cons.mpr ⟨
  (gs_iload_n dL_law_1047 rfl), List.forall_mem_cons.mpr ⟨
  (gs_iconst dL_law_1048 rfl), List.forall_mem_cons.mpr ⟨
  (gs_iadd dL_law_1049), List.forall_mem_cons.mpr ⟨
  (gs_sldX dL_law_1050), List.forall_mem_cons.mpr ⟨
  (gs_i2l dL_law_1051), List.forall_mem_cons.mpr ⟨
  (gs_bipush dL_law_1052 rfl), List.forall_mem_cons.mpr ⟨
  (gs_lshl dL_law_1054), List.forall_mem_cons.mpr ⟨
  (gs_aload_n dL_law_1055 rfl), List.forall_mem_cons.mpr ⟨
  (gs_iload_n dL_law_1056 rfl), List.forall_mem_cons.mpr ⟨
  (gs_iconst dL_law_1057 rfl), List.forall_mem_cons.mpr ⟨
  (gs_iadd dL_law_1058), List.forall_mem_cons.mpr ⟨
  (gs_sldX dL_law_1059), List.forall_mem_cons.mpr ⟨
  (gs_i2l dL_law_1060), List.forall_mem_cons.mpr ⟨
  (gs_ldc2 dL_law_1061 (gx_mem 1620 (by decide +kernel) (by decide +kernel))), List.forall_mem_cons.mpr ⟨
  (gs_land dL_law_1064), List.forall_mem_cons.mpr ⟨
  (gs_lor dL_law_1065), List.forall_mem_cons.mpr ⟨
  (gs_cv dL_law_1066 (fun q hq => by
      simp only [List.mem_cons, List.not_mem_nil, or_false] at hq
      subst hq
      exact Or.inl ⟨_, rfl, by decide, by decide +kernel, by decide +kernel, gx_sub _ [979, 980, 981, 85, 982] (by decide +kernel) (by decide +kernel)⟩)), fun _ h => absurd h List.not_mem_nil⟩⟩⟩⟩⟩⟩⟩⟩⟩⟩⟩⟩⟩⟩⟩⟩⟩⟩⟩⟩⟩⟩⟩⟩⟩⟩⟩⟩⟩⟩⟩⟩
set_option maxRecDepth 20000 in
theorem kt_L_law_23 (g : gx_T) : ∀ q ∈ k_L_law_23 (gx_n g) (gx_x g), gx_E g gc_md RL code 4 (some .boolean) "law" q.1 q.2 := List.forall_mem_cons.mpr ⟨(gs_aload_n dL_law_1069 rfl), List.forall_mem_cons.mpr ⟨
  (gs_aload_n dL_law_1070 rfl), List.forall_mem_cons.mpr ⟨
  (gs_iload_n dL_law_1071 rfl), List.forall_mem_cons.mpr ⟨
  (gs_iconst dL_law_1072 rfl), List.forall_mem_cons.mpr ⟨
  (gs_iadd dL_law_1073), List.forall_mem_cons.mpr ⟨
  (gs_sldX dL_law_1074), List.forall_mem_cons.mpr ⟨
  (gs_aload_n dL_law_1075 rfl), List.forall_mem_cons.mpr ⟨
  (gs_iload_n dL_law_1076 rfl), List.forall_mem_cons.mpr ⟨
  (gs_iconst dL_law_1077 rfl), List.forall_mem_cons.mpr ⟨
  (gs_iadd dL_law_1078), List.forall_mem_cons.mpr ⟨
  (gs_sldX dL_law_1079), List.forall_mem_cons.mpr ⟨
  (gs_aload_n dL_law_1080 rfl), List.forall_mem_cons.mpr ⟨
  (gs_iload_n dL_law_1081 rfl), List.forall_mem_cons.mpr ⟨
  (gs_iconst dL_law_1082 rfl), List.forall_mem_cons.mpr ⟨
  (gs_iadd dL_law_1083), List.forall_mem_cons.mpr ⟨
  (gs_sldX dL_law_1084), List.forall_mem_cons.mpr ⟨
  (gs_i2l dL_law_1085), List.forall_mem_cons.mpr ⟨
  (gs_bipush dL_law_1086 rfl), List.forall_mem_cons.mpr ⟨
  (gs_lshl dL_law_1088), List.forall_mem_cons.mpr ⟨
  (gs_aload_n dL_law_1089 rfl), List.forall_mem_cons.mpr ⟨
  (gs_iload_n dL_law_1090 rfl), List.forall_mem_cons.mpr ⟨
  (gs_iconst dL_law_1091 rfl), List.forall_mem_cons.mpr ⟨
  (gs_iadd dL_law_1092), List.forall_mem_cons.mpr ⟨
  (gs_sldX dL_law_1093), List.forall_mem_cons.mpr ⟨
  (gs_i2l dL_law_1094), List.forall_mem_cons.mpr ⟨
  (gs_ldc2 dL_law_1095 (gx_mem 1620 (by decide +kernel) (by decide +kernel))), List.forall_mem_cons.mpr ⟨
  (gs_land dL_law_1098), List.forall_mem_cons.mpr ⟨
  (gs_lor dL_law_1099), List.forall_mem_cons.mpr ⟨
  (gs_cv dL_law_1100 (fun q hq => by
      simp only [List.mem_cons, List.not_mem_nil, or_false] at hq
      subst hq
      exact Or.inl ⟨_, rfl, by decide, by decide +kernel, by decide +kernel, gx_sub _ [1604, 1605, 1606, 97, 1607] (by decide +kernel) (by decide +kernel)⟩)), List.forall_mem_cons.mpr ⟨
  (gs_icmp_eq dL_law_1103 rfl), List.forall_mem_cons.mpr ⟨
  (gs_iconst dL_law_1106 rfl), List.forall_mem_cons.mpr ⟨
  (gs_rn dL_law_1107 (by decide)), fun _ h => absurd h List.not_mem_nil⟩⟩⟩⟩⟩⟩⟩⟩⟩⟩⟩⟩⟩⟩⟩⟩⟩⟩⟩⟩⟩⟩⟩⟩⟩⟩⟩⟩⟩⟩⟩⟩
set_option maxRecDepth 20000 in
theorem kt_L_law_24 (g : gx_T) : ∀ q ∈ k_L_law_24 (gx_n g) (gx_x g), gx_E g gc_md RL code 4 (some .boolean) "law" q.1 q.2 := List.forall_mem_cons.mpr ⟨(gs_aload_n dL_law_1108 rfl), List.forall_mem_cons.mpr ⟨
  (gs_aload_n dL_law_1109 rfl), List.forall_mem_cons.mpr ⟨
  (gs_iload_n dL_law_1110 rfl), List.forall_mem_cons.mpr ⟨
  (gs_iconst dL_law_1111 rfl), List.forall_mem_cons.mpr ⟨
  (gs_iadd dL_law_1112), List.forall_mem_cons.mpr ⟨
  (gs_sldX dL_law_1113), List.forall_mem_cons.mpr ⟨
  (gs_aload_n dL_law_1114 rfl), List.forall_mem_cons.mpr ⟨
  (gs_iload_n dL_law_1115 rfl), List.forall_mem_cons.mpr ⟨
  (gs_iconst dL_law_1116 rfl), List.forall_mem_cons.mpr ⟨
  (gs_iadd dL_law_1117), List.forall_mem_cons.mpr ⟨
  (gs_sldX dL_law_1118), List.forall_mem_cons.mpr ⟨
  (gs_cv dL_law_1119 (fun q hq => by
      simp only [List.mem_cons, List.not_mem_nil, or_false] at hq
      subst hq
      exact Or.inl ⟨_, rfl, by decide, by decide +kernel, by decide +kernel, gx_sub _ [987, 988, 989, 85, 990] (by decide +kernel) (by decide +kernel)⟩)), List.forall_mem_cons.mpr ⟨
  (gs_aload_n dL_law_1122 rfl), List.forall_mem_cons.mpr ⟨
  (gs_aload_n dL_law_1123 rfl), List.forall_mem_cons.mpr ⟨
  (gs_iload_n dL_law_1124 rfl), List.forall_mem_cons.mpr ⟨
  (gs_iconst dL_law_1125 rfl), List.forall_mem_cons.mpr ⟨
  (gs_iadd dL_law_1126), List.forall_mem_cons.mpr ⟨
  (gs_sldX dL_law_1127), List.forall_mem_cons.mpr ⟨
  (gs_aload_n dL_law_1128 rfl), List.forall_mem_cons.mpr ⟨
  (gs_iload_n dL_law_1129 rfl), List.forall_mem_cons.mpr ⟨
  (gs_iconst dL_law_1130 rfl), List.forall_mem_cons.mpr ⟨
  (gs_iadd dL_law_1131), List.forall_mem_cons.mpr ⟨
  (gs_sldX dL_law_1132), List.forall_mem_cons.mpr ⟨
  (gs_cv dL_law_1133 (fun q hq => by
      simp only [List.mem_cons, List.not_mem_nil, or_false] at hq
      subst hq
      exact Or.inl ⟨_, rfl, by decide, by decide +kernel, by decide +kernel, gx_sub _ [1612, 1613, 1614, 97, 1615] (by decide +kernel) (by decide +kernel)⟩)), List.forall_mem_cons.mpr ⟨
  (gs_lcmp dL_law_1136), List.forall_mem_cons.mpr ⟨
  (gs_if_eq dL_law_1137 rfl), List.forall_mem_cons.mpr ⟨
  (gs_iconst dL_law_1140 rfl), List.forall_mem_cons.mpr ⟨
  (gs_rn dL_law_1141 (by decide)), List.forall_mem_cons.mpr ⟨
  (gs_aload_n dL_law_1142 rfl), List.forall_mem_cons.mpr ⟨
  (gs_aload_n dL_law_1143 rfl), List.forall_mem_cons.mpr ⟨
  (gs_iload_n dL_law_1144 rfl), List.forall_mem_cons.mpr ⟨
  (gs_iconst dL_law_1145 rfl), fun _ h => absurd h List.not_mem_nil⟩⟩⟩⟩⟩⟩⟩⟩⟩⟩⟩⟩⟩⟩⟩⟩⟩⟩⟩⟩⟩⟩⟩⟩⟩⟩⟩⟩⟩⟩⟩⟩
set_option maxRecDepth 20000 in
theorem kt_L_law_25 (g : gx_T) : ∀ q ∈ k_L_law_25 (gx_n g) (gx_x g), gx_E g gc_md RL code 4 (some .boolean) "law" q.1 q.2 := List.forall_mem_cons.mpr ⟨(gs_iadd dL_law_1146), List.forall_mem_cons.mpr ⟨
  (gs_sldX dL_law_1147), List.forall_mem_cons.mpr ⟨
  (gs_aload_n dL_law_1148 rfl), List.forall_mem_cons.mpr ⟨
  (gs_iload_n dL_law_1149 rfl), List.forall_mem_cons.mpr ⟨
  (gs_iconst dL_law_1150 rfl), List.forall_mem_cons.mpr ⟨
  (gs_iadd dL_law_1151), List.forall_mem_cons.mpr ⟨
  (gs_sldX dL_law_1152), List.forall_mem_cons.mpr ⟨
  (gs_aload_n dL_law_1153 rfl), List.forall_mem_cons.mpr ⟨
  (gs_iload_n dL_law_1154 rfl), List.forall_mem_cons.mpr ⟨
  (gs_iconst dL_law_1155 rfl), List.forall_mem_cons.mpr ⟨
  (gs_iadd dL_law_1156), List.forall_mem_cons.mpr ⟨
  (gs_sldX dL_law_1157), List.forall_mem_cons.mpr ⟨
  (gs_aload_n dL_law_1158 rfl), List.forall_mem_cons.mpr ⟨
  (gs_iload_n dL_law_1159 rfl), List.forall_mem_cons.mpr ⟨
  (gs_iconst dL_law_1160 rfl), List.forall_mem_cons.mpr ⟨
  (gs_iadd dL_law_1161), List.forall_mem_cons.mpr ⟨
  (gs_sldX dL_law_1162), List.forall_mem_cons.mpr ⟨
  (gs_aload_n dL_law_1163 rfl), List.forall_mem_cons.mpr ⟨
  (gs_iload_n dL_law_1164 rfl), List.forall_mem_cons.mpr ⟨
  (gs_iconst dL_law_1165 rfl), List.forall_mem_cons.mpr ⟨
  (gs_iadd dL_law_1166), List.forall_mem_cons.mpr ⟨
  (gs_sldX dL_law_1167), List.forall_mem_cons.mpr ⟨
  (gs_cv dL_law_1168 (fun q hq => by
      simp only [List.mem_cons, List.not_mem_nil, or_false] at hq
      subst hq
      exact Or.inl ⟨_, rfl, by decide, by decide +kernel, by decide +kernel, gx_sub _ [991, 992, 993, 85, 994] (by decide +kernel) (by decide +kernel)⟩)), List.forall_mem_cons.mpr ⟨
  (gs_aload_n dL_law_1171 rfl), List.forall_mem_cons.mpr ⟨
  (gs_aload_n dL_law_1172 rfl), List.forall_mem_cons.mpr ⟨
  (gs_iload_n dL_law_1173 rfl), List.forall_mem_cons.mpr ⟨
  (gs_iconst dL_law_1174 rfl), List.forall_mem_cons.mpr ⟨
  (gs_iadd dL_law_1175), List.forall_mem_cons.mpr ⟨
  (gs_sldX dL_law_1176), List.forall_mem_cons.mpr ⟨
  (gs_aload_n dL_law_1177 rfl), List.forall_mem_cons.mpr ⟨
  (gs_iload_n dL_law_1178 rfl), List.forall_mem_cons.mpr ⟨
  (gs_iconst dL_law_1179 rfl), fun _ h => absurd h List.not_mem_nil⟩⟩⟩⟩⟩⟩⟩⟩⟩⟩⟩⟩⟩⟩⟩⟩⟩⟩⟩⟩⟩⟩⟩⟩⟩⟩⟩⟩⟩⟩⟩⟩
set_option maxRecDepth 20000 in
theorem kt_L_law_26 (g : gx_T) : ∀ q ∈ k_L_law_26 (gx_n g) (gx_x g), gx_E g gc_md RL code 4 (some .boolean) "law" q.1 q.2 := List.forall_mem_cons.mpr ⟨(gs_iadd dL_law_1180), List.forall_mem_cons.mpr ⟨
  (gs_sldX dL_law_1181), List.forall_mem_cons.mpr ⟨
  (gs_aload_n dL_law_1182 rfl), List.forall_mem_cons.mpr ⟨
  (gs_iload_n dL_law_1183 rfl), List.forall_mem_cons.mpr ⟨
  (gs_iconst dL_law_1184 rfl), List.forall_mem_cons.mpr ⟨
  (gs_iadd dL_law_1185), List.forall_mem_cons.mpr ⟨
  (gs_sldX dL_law_1186), List.forall_mem_cons.mpr ⟨
  (gs_aload_n dL_law_1187 rfl), List.forall_mem_cons.mpr ⟨
  (gs_iload_n dL_law_1188 rfl), List.forall_mem_cons.mpr ⟨
  (gs_iconst dL_law_1189 rfl), List.forall_mem_cons.mpr ⟨
  (gs_iadd dL_law_1190), List.forall_mem_cons.mpr ⟨
  (gs_sldX dL_law_1191), List.forall_mem_cons.mpr ⟨
  (gs_aload_n dL_law_1192 rfl), List.forall_mem_cons.mpr ⟨
  (gs_iload_n dL_law_1193 rfl), List.forall_mem_cons.mpr ⟨
  (gs_iconst dL_law_1194 rfl), List.forall_mem_cons.mpr ⟨
  (gs_iadd dL_law_1195), List.forall_mem_cons.mpr ⟨
  (gs_sldX dL_law_1196), List.forall_mem_cons.mpr ⟨
  (gs_cv dL_law_1197 (fun q hq => by
      simp only [List.mem_cons, List.not_mem_nil, or_false] at hq
      subst hq
      exact Or.inl ⟨_, rfl, by decide, by decide +kernel, by decide +kernel, gx_sub _ [1616, 1617, 1618, 97, 1619] (by decide +kernel) (by decide +kernel)⟩)), List.forall_mem_cons.mpr ⟨
  (gs_icmp_eq dL_law_1200 rfl), List.forall_mem_cons.mpr ⟨
  (gs_iconst dL_law_1203 rfl), List.forall_mem_cons.mpr ⟨
  (gs_rn dL_law_1204 (by decide)), List.forall_mem_cons.mpr ⟨
  (gs_iinc dL_law_1205), List.forall_mem_cons.mpr ⟨
  (gs_goto dL_law_1208 rfl), List.forall_mem_cons.mpr ⟨
  (gs_iconst dL_law_1211 rfl), List.forall_mem_cons.mpr ⟨
  (gs_rn dL_law_1212 (by decide)), fun _ h => absurd h List.not_mem_nil⟩⟩⟩⟩⟩⟩⟩⟩⟩⟩⟩⟩⟩⟩⟩⟩⟩⟩⟩⟩⟩⟩⟩⟩⟩
theorem kt_L_law (g : gx_T) : ∀ q ∈ k_L_law (gx_n g) (gx_x g), gx_E g gc_md RL code 4 (some .boolean) "law" q.1 q.2 := List.forall_mem_append.mpr ⟨kt_L_law_0 g, List.forall_mem_append.mpr ⟨kt_L_law_1 g, List.forall_mem_append.mpr ⟨kt_L_law_2 g, List.forall_mem_append.mpr ⟨kt_L_law_3 g, List.forall_mem_append.mpr ⟨kt_L_law_4 g, List.forall_mem_append.mpr ⟨kt_L_law_5 g, List.forall_mem_append.mpr ⟨kt_L_law_6 g, List.forall_mem_append.mpr ⟨kt_L_law_7 g, List.forall_mem_append.mpr ⟨kt_L_law_8 g, List.forall_mem_append.mpr ⟨kt_L_law_9 g, List.forall_mem_append.mpr ⟨kt_L_law_10 g, List.forall_mem_append.mpr ⟨kt_L_law_11 g, List.forall_mem_append.mpr ⟨kt_L_law_12 g, List.forall_mem_append.mpr ⟨kt_L_law_13 g, List.forall_mem_append.mpr ⟨kt_L_law_14 g, List.forall_mem_append.mpr ⟨kt_L_law_15 g, List.forall_mem_append.mpr ⟨kt_L_law_16 g, List.forall_mem_append.mpr ⟨kt_L_law_17 g, List.forall_mem_append.mpr ⟨kt_L_law_18 g, List.forall_mem_append.mpr ⟨kt_L_law_19 g, List.forall_mem_append.mpr ⟨kt_L_law_20 g, List.forall_mem_append.mpr ⟨kt_L_law_21 g, List.forall_mem_append.mpr ⟨kt_L_law_22 g, List.forall_mem_append.mpr ⟨kt_L_law_23 g, List.forall_mem_append.mpr ⟨kt_L_law_24 g, List.forall_mem_append.mpr ⟨kt_L_law_25 g, kt_L_law_26 g⟩⟩⟩⟩⟩⟩⟩⟩⟩⟩⟩⟩⟩⟩⟩⟩⟩⟩⟩⟩⟩⟩⟩⟩⟩⟩
