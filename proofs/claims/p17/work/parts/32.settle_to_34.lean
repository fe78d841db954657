section
theorem dX11_settle_0 : decode cX11_settle 0 = .ok (.iload_n 1, 1) := by decide +kernel
theorem dX11_settle_1 : decode cX11_settle 1 = .ok (.bipush 28, 2) := by decide +kernel
theorem dX11_settle_10 : decode cX11_settle 10 = .ok (.idiv, 1) := by decide +kernel
theorem dX11_settle_11 : decode cX11_settle 11 = .ok (.iadd, 1) := by decide +kernel
theorem dX11_settle_12 : decode cX11_settle 12 = .ok (.iload_n 3, 1) := by decide +kernel
theorem dX11_settle_128 : decode cX11_settle 128 = .ok (.aload_n 0, 1) := by decide +kernel
theorem dX11_settle_129 : decode cX11_settle 129 = .ok (.iload 4, 2) := by decide +kernel
theorem dX11_settle_13 : decode cX11_settle 13 = .ok (.iadd, 1) := by decide +kernel
theorem dX11_settle_131 : decode cX11_settle 131 = .ok (.lconst 0, 1) := by decide +kernel
theorem dX11_settle_132 : decode cX11_settle 132 = .ok (.lconst 1, 1) := by decide +kernel
theorem dX11_settle_133 : decode cX11_settle 133 = .ok (.invokevirtual 67, 3) := by decide +kernel
theorem dX11_settle_136 : decode cX11_settle 136 = .ok (.goto 228, 3) := by decide +kernel
theorem dX11_settle_139 : decode cX11_settle 139 = .ok (.aload_n 0, 1) := by decide +kernel
theorem dX11_settle_14 : decode cX11_settle 14 = .ok (.istore 4, 2) := by decide +kernel
theorem dX11_settle_140 : decode cX11_settle 140 = .ok (.iload 4, 2) := by decide +kernel
theorem dX11_settle_142 : decode cX11_settle 142 = .ok (.lconst 1, 1) := by decide +kernel
theorem dX11_settle_143 : decode cX11_settle 143 = .ok (.lconst 1, 1) := by decide +kernel
theorem dX11_settle_144 : decode cX11_settle 144 = .ok (.invokevirtual 67, 3) := by decide +kernel
theorem dX11_settle_147 : decode cX11_settle 147 = .ok (.goto 217, 3) := by decide +kernel
theorem dX11_settle_150 : decode cX11_settle 150 = .ok (.aload_n 0, 1) := by decide +kernel
theorem dX11_settle_151 : decode cX11_settle 151 = .ok (.iload 4, 2) := by decide +kernel
theorem dX11_settle_153 : decode cX11_settle 153 = .ok (.aload_n 0, 1) := by decide +kernel
theorem dX11_settle_154 : decode cX11_settle 154 = .ok (.iload 5, 2) := by decide +kernel
theorem dX11_settle_156 : decode cX11_settle 156 = .ok (.iload_n 2, 1) := by decide +kernel
theorem dX11_settle_157 : decode cX11_settle 157 = .ok (.iload_n 3, 1) := by decide +kernel
theorem dX11_settle_158 : decode cX11_settle 158 = .ok (.invokevirtual 71, 3) := by decide +kernel
theorem dX11_settle_16 : decode cX11_settle 16 = .ok (.aload_n 0, 1) := by decide +kernel
theorem dX11_settle_161 : decode cX11_settle 161 = .ok (.ldc2_w 75, 3) := by decide +kernel
theorem dX11_settle_164 : decode cX11_settle 164 = .ok (.lconst 1, 1) := by decide +kernel
theorem dX11_settle_165 : decode cX11_settle 165 = .ok (.invokevirtual 77, 3) := by decide +kernel
theorem dX11_settle_168 : decode cX11_settle 168 = .ok (.goto 196, 3) := by decide +kernel
theorem dX11_settle_17 : decode cX11_settle 17 = .ok (.getfield 18, 3) := by decide +kernel
theorem dX11_settle_171 : decode cX11_settle 171 = .ok (.aload_n 0, 1) := by decide +kernel
theorem dX11_settle_172 : decode cX11_settle 172 = .ok (.iload 4, 2) := by decide +kernel
theorem dX11_settle_174 : decode cX11_settle 174 = .ok (.aload_n 0, 1) := by decide +kernel
theorem dX11_settle_175 : decode cX11_settle 175 = .ok (.iload 5, 2) := by decide +kernel
theorem dX11_settle_177 : decode cX11_settle 177 = .ok (.iload_n 2, 1) := by decide +kernel
theorem dX11_settle_178 : decode cX11_settle 178 = .ok (.iload_n 3, 1) := by decide +kernel
theorem dX11_settle_179 : decode cX11_settle 179 = .ok (.invokevirtual 71, 3) := by decide +kernel
theorem dX11_settle_182 : decode cX11_settle 182 = .ok (.aload_n 0, 1) := by decide +kernel
theorem dX11_settle_183 : decode cX11_settle 183 = .ok (.getfield 30, 3) := by decide +kernel
theorem dX11_settle_186 : decode cX11_settle 186 = .ok (.getfield 81, 3) := by decide +kernel
theorem dX11_settle_189 : decode cX11_settle 189 = .ok (.iload_n 1, 1) := by decide +kernel
theorem dX11_settle_190 : decode cX11_settle 190 = .ok (.iaload, 1) := by decide +kernel
theorem dX11_settle_191 : decode cX11_settle 191 = .ok (.i2l, 1) := by decide +kernel
theorem dX11_settle_192 : decode cX11_settle 192 = .ok (.lconst 1, 1) := by decide +kernel
theorem dX11_settle_193 : decode cX11_settle 193 = .ok (.invokevirtual 77, 3) := by decide +kernel
theorem dX11_settle_196 : decode cX11_settle 196 = .ok (.goto 168, 3) := by decide +kernel
theorem dX11_settle_199 : decode cX11_settle 199 = .ok (.aload_n 0, 1) := by decide +kernel
theorem dX11_settle_20 : decode cX11_settle 20 = .ok (.iload 4, 2) := by decide +kernel
theorem dX11_settle_200 : decode cX11_settle 200 = .ok (.iload 4, 2) := by decide +kernel
theorem dX11_settle_202 : decode cX11_settle 202 = .ok (.aload_n 0, 1) := by decide +kernel
theorem dX11_settle_203 : decode cX11_settle 203 = .ok (.iload 5, 2) := by decide +kernel
theorem dX11_settle_205 : decode cX11_settle 205 = .ok (.iload_n 2, 1) := by decide +kernel
theorem dX11_settle_206 : decode cX11_settle 206 = .ok (.iload_n 3, 1) := by decide +kernel
theorem dX11_settle_207 : decode cX11_settle 207 = .ok (.invokevirtual 71, 3) := by decide +kernel
theorem dX11_settle_210 : decode cX11_settle 210 = .ok (.aload_n 0, 1) := by decide +kernel
theorem dX11_settle_211 : decode cX11_settle 211 = .ok (.getfield 26, 3) := by decide +kernel
theorem dX11_settle_214 : decode cX11_settle 214 = .ok (.iload_n 2, 1) := by decide +kernel
theorem dX11_settle_215 : decode cX11_settle 215 = .ok (.iload_n 3, 1) := by decide +kernel
theorem dX11_settle_216 : decode cX11_settle 216 = .ok (.invokevirtual 84, 3) := by decide +kernel
theorem dX11_settle_219 : decode cX11_settle 219 = .ok (.i2l, 1) := by decide +kernel
theorem dX11_settle_22 : decode cX11_settle 22 = .ok (.iaload, 1) := by decide +kernel
theorem dX11_settle_220 : decode cX11_settle 220 = .ok (.lconst 1, 1) := by decide +kernel
theorem dX11_settle_221 : decode cX11_settle 221 = .ok (.invokevirtual 77, 3) := by decide +kernel
theorem dX11_settle_224 : decode cX11_settle 224 = .ok (.goto 140, 3) := by decide +kernel
theorem dX11_settle_227 : decode cX11_settle 227 = .ok (.aload_n 0, 1) := by decide +kernel
theorem dX11_settle_228 : decode cX11_settle 228 = .ok (.iload 4, 2) := by decide +kernel
theorem dX11_settle_23 : decode cX11_settle 23 = .ok (.aload_n 0, 1) := by decide +kernel
theorem dX11_settle_230 : decode cX11_settle 230 = .ok (.aload_n 0, 1) := by decide +kernel
theorem dX11_settle_231 : decode cX11_settle 231 = .ok (.iload 5, 2) := by decide +kernel
theorem dX11_settle_233 : decode cX11_settle 233 = .ok (.iload_n 2, 1) := by decide +kernel
theorem dX11_settle_234 : decode cX11_settle 234 = .ok (.iload_n 3, 1) := by decide +kernel
theorem dX11_settle_235 : decode cX11_settle 235 = .ok (.invokevirtual 71, 3) := by decide +kernel
theorem dX11_settle_238 : decode cX11_settle 238 = .ok (.aload_n 0, 1) := by decide +kernel
theorem dX11_settle_239 : decode cX11_settle 239 = .ok (.aload_n 0, 1) := by decide +kernel
theorem dX11_settle_24 : decode cX11_settle 24 = .ok (.getfield 22, 3) := by decide +kernel
theorem dX11_settle_240 : decode cX11_settle 240 = .ok (.getfield 30, 3) := by decide +kernel
theorem dX11_settle_243 : decode cX11_settle 243 = .ok (.getfield 90, 3) := by decide +kernel
theorem dX11_settle_246 : decode cX11_settle 246 = .ok (.iload_n 1, 1) := by decide +kernel
theorem dX11_settle_247 : decode cX11_settle 247 = .ok (.iaload, 1) := by decide +kernel
theorem dX11_settle_248 : decode cX11_settle 248 = .ok (.iload_n 2, 1) := by decide +kernel
theorem dX11_settle_249 : decode cX11_settle 249 = .ok (.iload_n 3, 1) := by decide +kernel
theorem dX11_settle_250 : decode cX11_settle 250 = .ok (.invokevirtual 71, 3) := by decide +kernel
theorem dX11_settle_253 : decode cX11_settle 253 = .ok (.invokevirtual 93, 3) := by decide +kernel
theorem dX11_settle_256 : decode cX11_settle 256 = .ok (.goto 108, 3) := by decide +kernel
theorem dX11_settle_259 : decode cX11_settle 259 = .ok (.iload_n 2, 1) := by decide +kernel
theorem dX11_settle_260 : decode cX11_settle 260 = .ok (.aload_n 0, 1) := by decide +kernel
theorem dX11_settle_261 : decode cX11_settle 261 = .ok (.getfield 30, 3) := by decide +kernel
theorem dX11_settle_264 : decode cX11_settle 264 = .ok (.getfield 45, 3) := by decide +kernel
theorem dX11_settle_267 : decode cX11_settle 267 = .ok (.iload_n 1, 1) := by decide +kernel
theorem dX11_settle_268 : decode cX11_settle 268 = .ok (.iaload, 1) := by decide +kernel
theorem dX11_settle_269 : decode cX11_settle 269 = .ok (.if_icmp .ne 20, 3) := by decide +kernel
theorem dX11_settle_27 : decode cX11_settle 27 = .ok (.if_icmp .ne 6, 3) := by decide +kernel
theorem dX11_settle_272 : decode cX11_settle 272 = .ok (.aload_n 0, 1) := by decide +kernel
theorem dX11_settle_273 : decode cX11_settle 273 = .ok (.iload 4, 2) := by decide +kernel
theorem dX11_settle_275 : decode cX11_settle 275 = .ok (.aload_n 0, 1) := by decide +kernel
theorem dX11_settle_276 : decode cX11_settle 276 = .ok (.iload 5, 2) := by decide +kernel
theorem dX11_settle_278 : decode cX11_settle 278 = .ok (.iload_n 2, 1) := by decide +kernel
theorem dX11_settle_279 : decode cX11_settle 279 = .ok (.iload_n 3, 1) := by decide +kernel
theorem dX11_settle_280 : decode cX11_settle 280 = .ok (.invokevirtual 71, 3) := by decide +kernel
theorem dX11_settle_283 : decode cX11_settle 283 = .ok (.invokevirtual 97, 3) := by decide +kernel
theorem dX11_settle_286 : decode cX11_settle 286 = .ok (.goto 78, 3) := by decide +kernel
theorem dX11_settle_289 : decode cX11_settle 289 = .ok (.aload_n 0, 1) := by decide +kernel
theorem dX11_settle_290 : decode cX11_settle 290 = .ok (.iload 4, 2) := by decide +kernel
theorem dX11_settle_292 : decode cX11_settle 292 = .ok (.iload_n 1, 1) := by decide +kernel
theorem dX11_settle_293 : decode cX11_settle 293 = .ok (.iload_n 2, 1) := by decide +kernel
theorem dX11_settle_294 : decode cX11_settle 294 = .ok (.iload_n 3, 1) := by decide +kernel
theorem dX11_settle_295 : decode cX11_settle 295 = .ok (.invokevirtual 101, 3) := by decide +kernel
theorem dX11_settle_298 : decode cX11_settle 298 = .ok (.aload 6, 2) := by decide +kernel
theorem dX11_settle_3 : decode cX11_settle 3 = .ok (.imul, 1) := by decide +kernel
theorem dX11_settle_30 : decode cX11_settle 30 = .ok (.iload 4, 2) := by decide +kernel
theorem dX11_settle_300 : decode cX11_settle 300 = .ok (.getstatic 105, 3) := by decide +kernel
theorem dX11_settle_303 : decode cX11_settle 303 = .ok (.if_acmp .ne 61, 3) := by decide +kernel
theorem dX11_settle_306 : decode cX11_settle 306 = .ok (.aload_n 0, 1) := by decide +kernel
theorem dX11_settle_307 : decode cX11_settle 307 = .ok (.iload 4, 2) := by decide +kernel
theorem dX11_settle_309 : decode cX11_settle 309 = .ok (.aload_n 0, 1) := by decide +kernel
theorem dX11_settle_310 : decode cX11_settle 310 = .ok (.iload 5, 2) := by decide +kernel
theorem dX11_settle_312 : decode cX11_settle 312 = .ok (.iload_n 2, 1) := by decide +kernel
theorem dX11_settle_313 : decode cX11_settle 313 = .ok (.iload_n 3, 1) := by decide +kernel
theorem dX11_settle_314 : decode cX11_settle 314 = .ok (.invokevirtual 71, 3) := by decide +kernel
theorem dX11_settle_317 : decode cX11_settle 317 = .ok (.invokevirtual 108, 3) := by decide +kernel
theorem dX11_settle_32 : decode cX11_settle 32 = .ok (.ireturn, 1) := by decide +kernel
theorem dX11_settle_320 : decode cX11_settle 320 = .ok (.goto 44, 3) := by decide +kernel
theorem dX11_settle_323 : decode cX11_settle 323 = .ok (.aload_n 0, 1) := by decide +kernel
theorem dX11_settle_324 : decode cX11_settle 324 = .ok (.iload_n 1, 1) := by decide +kernel
theorem dX11_settle_325 : decode cX11_settle 325 = .ok (.iload_n 2, 1) := by decide +kernel
theorem dX11_settle_326 : decode cX11_settle 326 = .ok (.iload_n 3, 1) := by decide +kernel
theorem dX11_settle_327 : decode cX11_settle 327 = .ok (.invokevirtual 111, 3) := by decide +kernel
theorem dX11_settle_33 : decode cX11_settle 33 = .ok (.aload_n 0, 1) := by decide +kernel
theorem dX11_settle_330 : decode cX11_settle 330 = .ok (.istore 7, 2) := by decide +kernel
theorem dX11_settle_332 : decode cX11_settle 332 = .ok (.iload 7, 2) := by decide +kernel
theorem dX11_settle_334 : decode cX11_settle 334 = .ok (.bipush (-5), 2) := by decide +kernel
theorem dX11_settle_336 : decode cX11_settle 336 = .ok (.if_icmp .ne 14, 3) := by decide +kernel
theorem dX11_settle_339 : decode cX11_settle 339 = .ok (.aload_n 0, 1) := by decide +kernel
theorem dX11_settle_34 : decode cX11_settle 34 = .ok (.getfield 30, 3) := by decide +kernel
theorem dX11_settle_340 : decode cX11_settle 340 = .ok (.iload 4, 2) := by decide +kernel
theorem dX11_settle_342 : decode cX11_settle 342 = .ok (.lconst 0, 1) := by decide +kernel
theorem dX11_settle_343 : decode cX11_settle 343 = .ok (.lconst 0, 1) := by decide +kernel
theorem dX11_settle_344 : decode cX11_settle 344 = .ok (.invokevirtual 67, 3) := by decide +kernel
theorem dX11_settle_347 : decode cX11_settle 347 = .ok (.goto 17, 3) := by decide +kernel
theorem dX11_settle_350 : decode cX11_settle 350 = .ok (.aload_n 0, 1) := by decide +kernel
theorem dX11_settle_351 : decode cX11_settle 351 = .ok (.iload 4, 2) := by decide +kernel
theorem dX11_settle_353 : decode cX11_settle 353 = .ok (.aload_n 0, 1) := by decide +kernel
theorem dX11_settle_354 : decode cX11_settle 354 = .ok (.iload 7, 2) := by decide +kernel
theorem dX11_settle_356 : decode cX11_settle 356 = .ok (.iload_n 2, 1) := by decide +kernel
theorem dX11_settle_357 : decode cX11_settle 357 = .ok (.iload_n 3, 1) := by decide +kernel
theorem dX11_settle_358 : decode cX11_settle 358 = .ok (.invokevirtual 71, 3) := by decide +kernel
theorem dX11_settle_361 : decode cX11_settle 361 = .ok (.invokevirtual 97, 3) := by decide +kernel
theorem dX11_settle_364 : decode cX11_settle 364 = .ok (.aload_n 0, 1) := by decide +kernel
theorem dX11_settle_365 : decode cX11_settle 365 = .ok (.getfield 18, 3) := by decide +kernel
theorem dX11_settle_368 : decode cX11_settle 368 = .ok (.iload 4, 2) := by decide +kernel
theorem dX11_settle_37 : decode cX11_settle 37 = .ok (.getfield 40, 3) := by decide +kernel
theorem dX11_settle_370 : decode cX11_settle 370 = .ok (.aload_n 0, 1) := by decide +kernel
theorem dX11_settle_371 : decode cX11_settle 371 = .ok (.getfield 22, 3) := by decide +kernel
theorem dX11_settle_374 : decode cX11_settle 374 = .ok (.iastore, 1) := by decide +kernel
theorem dX11_settle_375 : decode cX11_settle 375 = .ok (.iload 4, 2) := by decide +kernel
theorem dX11_settle_377 : decode cX11_settle 377 = .ok (.ireturn, 1) := by decide +kernel
theorem dX11_settle_4 : decode cX11_settle 4 = .ok (.iload_n 2, 1) := by decide +kernel
theorem dX11_settle_40 : decode cX11_settle 40 = .ok (.iload_n 1, 1) := by decide +kernel
theorem dX11_settle_41 : decode cX11_settle 41 = .ok (.iaload, 1) := by decide +kernel
theorem dX11_settle_42 : decode cX11_settle 42 = .ok (.istore 5, 2) := by decide +kernel
theorem dX11_settle_44 : decode cX11_settle 44 = .ok (.iload_n 2, 1) := by decide +kernel
theorem dX11_settle_45 : decode cX11_settle 45 = .ok (.aload_n 0, 1) := by decide +kernel
theorem dX11_settle_46 : decode cX11_settle 46 = .ok (.getfield 30, 3) := by decide +kernel
theorem dX11_settle_49 : decode cX11_settle 49 = .ok (.getfield 45, 3) := by decide +kernel
theorem dX11_settle_5 : decode cX11_settle 5 = .ok (.iload_n 2, 1) := by decide +kernel
theorem dX11_settle_52 : decode cX11_settle 52 = .ok (.iload_n 1, 1) := by decide +kernel
theorem dX11_settle_53 : decode cX11_settle 53 = .ok (.iaload, 1) := by decide +kernel
theorem dX11_settle_54 : decode cX11_settle 54 = .ok (.if_icmp .le 9, 3) := by decide +kernel
theorem dX11_settle_57 : decode cX11_settle 57 = .ok (.getstatic 48, 3) := by decide +kernel
theorem dX11_settle_6 : decode cX11_settle 6 = .ok (.iconst 1, 1) := by decide +kernel
theorem dX11_settle_60 : decode cX11_settle 60 = .ok (.goto 11, 3) := by decide +kernel
theorem dX11_settle_63 : decode cX11_settle 63 = .ok (.aload_n 0, 1) := by decide +kernel
theorem dX11_settle_64 : decode cX11_settle 64 = .ok (.getfield 30, 3) := by decide +kernel
theorem dX11_settle_67 : decode cX11_settle 67 = .ok (.iload_n 1, 1) := by decide +kernel
theorem dX11_settle_68 : decode cX11_settle 68 = .ok (.invokevirtual 54, 3) := by decide +kernel
theorem dX11_settle_7 : decode cX11_settle 7 = .ok (.iadd, 1) := by decide +kernel
theorem dX11_settle_71 : decode cX11_settle 71 = .ok (.astore 6, 2) := by decide +kernel
theorem dX11_settle_73 : decode cX11_settle 73 = .ok (.getstatic 58, 3) := by decide +kernel
theorem dX11_settle_76 : decode cX11_settle 76 = .ok (.aload 6, 2) := by decide +kernel
theorem dX11_settle_78 : decode cX11_settle 78 = .ok (.invokevirtual 63, 3) := by decide +kernel
theorem dX11_settle_8 : decode cX11_settle 8 = .ok (.imul, 1) := by decide +kernel
theorem dX11_settle_81 : decode cX11_settle 81 = .ok (.iaload, 1) := by decide +kernel
theorem dX11_settle_82 : decode cX11_settle 82 = .ok (.tableswitch 241 1 8 #[46, 57, 68, 89, 117, 145, 177, 177], 46) := by decide +kernel
theorem dX11_settle_9 : decode cX11_settle 9 = .ok (.iconst 2, 1) := by decide +kernel
set_option maxRecDepth 20000 in
theorem ggX11_settle_Jx29ce0_ordinal_8abf5 : GoodIn wsX11_settle wsJx29ce0_ordinal_8abf5 := goodIn_r _ [24, 25] rfl (by decide +kernel)
set_option maxRecDepth 20000 in
theorem ggX11_settle_X11_assign : GoodIn wsX11_settle wsX11_assign := goodIn_r _ [30, 31, 32, 106, 107, 108, 109, 110, 111] rfl (by decide +kernel)
set_option maxRecDepth 20000 in
theorem ggX11_settle_X11_average : GoodIn wsX11_settle wsX11_average := goodIn_r _ [96, 10, 97, 98, 99, 100, 31, 32, 33, 34, 35, 29, 36, 37, 38, 39, 40, 41, 42, 8, 43, 26, 27, 28, 30, 44, 45, 46, 47, 48, 49, 50, 51, 60, 61, 62, 63, 64, 65, 66, 101, 3, 4, 11, 102, 103, 9, 5, 104, 105, 13, 14, 15, 16, 17, 18, 52, 53, 54, 55, 56, 57, 58, 59, 78, 79, 80, 81, 82, 83, 84, 85, 86, 87, 88, 89, 90, 91, 92, 0, 1, 2, 6, 7, 12, 19, 20, 21, 22, 23, 24, 25, 67, 68, 69, 70, 71, 72, 73, 74, 75, 76, 77, 93, 94, 95, 106, 107, 108, 109, 110, 111, 112, 113, 114, 115, 116, 117, 118, 119, 120, 121, 122, 123, 124, 125, 126] rfl (by decide +kernel)
set_option maxRecDepth 20000 in
theorem ggX11_settle_X11_multiply : GoodIn wsX11_settle wsX11_multiply := goodIn_r _ [39, 31, 32, 40, 41, 29, 42, 8, 43, 26, 27, 28, 30, 44, 45, 46, 47, 48, 49, 50, 51, 106, 107, 108, 109, 110, 111] rfl (by decide +kernel)
set_option maxRecDepth 20000 in
theorem ggX11_settle_X11_picked : GoodIn wsX11_settle wsX11_picked := goodIn_r _ [101, 3, 4, 11, 102, 103, 10, 9, 5, 104, 105, 13, 14, 15, 16, 17, 18, 52, 53, 54, 55, 56, 57, 58, 59, 33, 34, 35, 29, 78, 79, 80, 81, 32, 82, 83, 84, 85, 31, 86, 87, 88, 89, 90, 91, 92, 96, 97, 98, 99, 100, 36, 37, 38, 39, 40, 41, 42, 8, 43, 26, 27, 28, 30, 44, 45, 46, 47, 48, 49, 50, 51, 60, 61, 62, 63, 64, 65, 66, 0, 1, 2, 6, 7, 12, 19, 20, 21, 22, 23, 24, 25, 67, 68, 69, 70, 71, 72, 73, 74, 75, 76, 77, 93, 94, 95, 106, 107, 108, 109, 110, 111, 112, 113, 114, 115, 116, 117, 118, 119, 120, 121, 122, 123, 124, 125, 126] rfl (by decide +kernel)
set_option maxRecDepth 20000 in
theorem ggX11_settle_X11_plus : GoodIn wsX11_settle wsX11_plus := goodIn_r _ [63, 31, 32, 40, 41, 29, 42, 8, 43, 64, 65, 66, 44, 45, 46, 47, 48, 49, 50, 51, 26, 27, 28, 30, 106, 107, 108, 109, 110, 111] rfl (by decide +kernel)
set_option maxRecDepth 20000 in
theorem ggX11_settle_X11_raise : GoodIn wsX11_settle wsX11_raise := goodIn_r _ [77, 78, 79, 80, 29, 81, 32, 26, 27, 28, 30, 31, 82, 83, 84, 85, 86, 87, 88, 89, 90, 91, 92, 67, 68, 69, 70, 106, 107, 108, 109, 110, 111] rfl (by decide +kernel)
set_option maxRecDepth 20000 in
theorem ggX11_settle_X11_repeat : GoodIn wsX11_settle wsX11_repeat := goodIn_r _ [70, 31, 32, 26, 27, 28, 29, 30, 106, 107, 108, 109, 110, 111] rfl (by decide +kernel)
set_option maxRecDepth 20000 in
theorem ggX11_settle_X11_settle : GoodIn wsX11_settle wsX11_settle := goodIn_r _ [0, 1, 2, 3, 4, 5, 6, 7, 8, 9, 10, 11, 12, 13, 14, 15, 16, 17, 18, 19, 20, 21, 22, 23, 24, 25, 26, 27, 28, 29, 30, 31, 32, 33, 34, 35, 36, 37, 38, 39, 40, 41, 42, 43, 44, 45, 46, 47, 48, 49, 50, 51, 52, 53, 54, 55, 56, 57, 58, 59, 60, 61, 62, 63, 64, 65, 66, 67, 68, 69, 70, 71, 72, 73, 74, 75, 76, 77, 78, 79, 80, 81, 82, 83, 84, 85, 86, 87, 88, 89, 90, 91, 92, 93, 94, 95, 96, 97, 98, 99, 100, 101, 102, 103, 104, 105, 106, 107, 108, 109, 110, 111, 112, 113, 114, 115, 116, 117, 118, 119, 120, 121, 122, 123, 124, 125, 126] rfl (by decide +kernel)
set_option maxRecDepth 20000 in
theorem ggX11_settle_X2_kindOf : GoodIn wsX11_settle wsX2_kindOf := goodIn_r _ [17, 18, 119, 120, 121, 122, 123, 124, 125, 126] rfl (by decide +kernel)
set_option maxRecDepth 20000 in
theorem ggX11_settle_X8_priceAt : GoodIn wsX11_settle wsX8_priceAt := goodIn_r _ [56, 57, 58, 59, 112, 113, 114, 115, 116, 117, 118] rfl (by decide +kernel)
set_option maxRecDepth 20000 in
theorem gX11_settle_Jx29ce0_ordinal_8abf5_u63X7 : GoodIn wsX11_settle (va_wsU RX11 63 RX7 "java/lang/Enum" ⟨"ClauseBook$Kind", "ordinal", "()I"⟩ yJx29ce0_ordinal_8abf5 wsJx29ce0_ordinal_8abf5) := goodIn_app (goodIn_of _ (by decide +kernel)) ggX11_settle_Jx29ce0_ordinal_8abf5
set_option maxRecDepth 20000 in
theorem gX11_settle_X11_assign : GoodIn wsX11_settle (wsV RX11 67 RX11 yX11_assign wsX11_assign) := goodIn_app (goodIn_r _ [26, 27, 28, 29] rfl (by decide +kernel)) ggX11_settle_X11_assign
set_option maxRecDepth 20000 in
theorem gX11_settle_X11_average : GoodIn wsX11_settle (wsV RX11 101 RX11 yX11_average wsX11_average) := goodIn_app (goodIn_r _ [71, 72, 73, 29] rfl (by decide +kernel)) ggX11_settle_X11_average
set_option maxRecDepth 20000 in
theorem gX11_settle_X11_multiply : GoodIn wsX11_settle (wsV RX11 77 RX11 yX11_multiply wsX11_multiply) := goodIn_app (goodIn_r _ [36, 37, 38, 29] rfl (by decide +kernel)) ggX11_settle_X11_multiply
set_option maxRecDepth 20000 in
theorem gX11_settle_X11_picked : GoodIn wsX11_settle (wsV RX11 111 RX11 yX11_picked wsX11_picked) := goodIn_app (goodIn_r _ [93, 94, 95, 29] rfl (by decide +kernel)) ggX11_settle_X11_picked
set_option maxRecDepth 20000 in
theorem gX11_settle_X11_plus : GoodIn wsX11_settle (wsV RX11 93 RX11 yX11_plus wsX11_plus) := goodIn_app (goodIn_r _ [60, 61, 62, 29] rfl (by decide +kernel)) ggX11_settle_X11_plus
set_option maxRecDepth 20000 in
theorem gX11_settle_X11_raise : GoodIn wsX11_settle (wsV RX11 108 RX11 yX11_raise wsX11_raise) := goodIn_app (goodIn_r _ [74, 75, 76, 29] rfl (by decide +kernel)) ggX11_settle_X11_raise
set_option maxRecDepth 20000 in
theorem gX11_settle_X11_repeat : GoodIn wsX11_settle (wsV RX11 97 RX11 yX11_repeat wsX11_repeat) := goodIn_app (goodIn_r _ [67, 68, 69, 29] rfl (by decide +kernel)) ggX11_settle_X11_repeat
set_option maxRecDepth 20000 in
theorem gX11_settle_X11_settle : GoodIn wsX11_settle (wsV RX11 71 RX11 yX11_settle wsX11_settle) := goodIn_app (goodIn_r _ [33, 34, 35, 29] rfl (by decide +kernel)) ggX11_settle_X11_settle
set_option maxRecDepth 20000 in
theorem gX11_settle_X2_kindOf : GoodIn wsX11_settle (wsV RX11 54 RX2 yX2_kindOf wsX2_kindOf) := goodIn_app (goodIn_r _ [13, 14, 15, 16] rfl (by decide +kernel)) ggX11_settle_X2_kindOf
set_option maxRecDepth 20000 in
theorem gX11_settle_X8_priceAt : GoodIn wsX11_settle (wsV RX11 84 RX8 yX8_priceAt wsX8_priceAt) := goodIn_app (goodIn_r _ [52, 53, 54, 55] rfl (by decide +kernel)) ggX11_settle_X8_priceAt
theorem hv_Jx29ce0_ordinal_8abf5 : yJx29ce0_ordinal_8abf5.cls = RJx29ce0 ∧ yJx29ce0_ordinal_8abf5.cls ≠ "java/lang/invoke/MethodHandle" ∧ yJx29ce0_ordinal_8abf5.cls ≠ "java/lang/invoke/VarHandle" ∧ (parseMethodDescriptor yJx29ce0_ordinal_8abf5.desc).map (fun d => d.parameters.length) = some 0 := by decide +kernel
theorem hv_X11_average : yX11_average.cls = RX11 ∧ yX11_average.cls ≠ "java/lang/invoke/MethodHandle" ∧ yX11_average.cls ≠ "java/lang/invoke/VarHandle" ∧ (parseMethodDescriptor yX11_average.desc).map (fun d => d.parameters.length) = some 4 := by decide +kernel
theorem hv_X11_picked : yX11_picked.cls = RX11 ∧ yX11_picked.cls ≠ "java/lang/invoke/MethodHandle" ∧ yX11_picked.cls ≠ "java/lang/invoke/VarHandle" ∧ (parseMethodDescriptor yX11_picked.desc).map (fun d => d.parameters.length) = some 3 := by decide +kernel
theorem hv_X11_raise : yX11_raise.cls = RX11 ∧ yX11_raise.cls ≠ "java/lang/invoke/MethodHandle" ∧ yX11_raise.cls ≠ "java/lang/invoke/VarHandle" ∧ (parseMethodDescriptor yX11_raise.desc).map (fun d => d.parameters.length) = some 2 := by decide +kernel
set_option maxRecDepth 20000 in
theorem in_X11_settle_X11 : ∀ w ∈ wsX110, w ∈ wsX11_settle := sub_r [106, 107, 108, 109, 110, 111] rfl
set_option maxRecDepth 20000 in
theorem in_X11_settle_X2 : ∀ w ∈ wsX20, w ∈ wsX11_settle := sub_r [119, 120, 121, 122, 123, 124, 125, 126] rfl
set_option maxHeartbeats 4000000 in
set_option maxRecDepth 100000 in
theorem s_X11_settle (l : Launch) (D : va_G) (T : Nat → ClassId) (ad sa av : Nat → Nat) (ta : Nat) (sz : Nat) (h0 : Nat) (la : Nat) (cl : Nat) (p0 : Nat) (p1 : Nat) (p4 : Nat) (n : Int32) (l9 : Nat → Int32) (n0 : Int32) (c1 : Nat) (c2 : Nat) (c3 : Nat) (c4 : Nat) (c5 : Nat) (c6 : Nat) (c7 : Nat) (f1 : Nat → Int32) (f2 : Nat → Int32) (f3 : Nat → Int32) (f4 : Nat → Int32) (f5 : Nat → Int32) (g0 : Nat → Int64) (g1 : Nat → Int64) (g4 : Nat → Int32) (d : Nat) (x1 : Int32) (x2 : Int32) (x3 : Int32) (hx : 0 ≤ x1.toInt ∧ x1.toInt < 24) (hd : 0 ≤ x2.toInt ∧ x2.toInt ≤ 6) (hsp : 0 ≤ x3.toInt ∧ x3.toInt ≤ x2.toInt) (hok : okC f1 f3 f4 f5) (hxn : x1.toInt < n0.toInt) (hmm : memW (VALW l9 f1 f2 f3 f4 f5) n0 n g0 g1 g4) (hlq : (1 ≤ (l9 4).toInt ∧ (l9 4).toInt ≤ 9) ∧ 1 ≤ (l9 6).toInt ∧ (l9 6).toInt ≤ 9) (hdep : x1.toInt + (6 - x2.toInt) < d + 1) (hrec : cS_settle l D T ad sa av ta d) : Met l yX11_settle wsX11_settle ({ frames := 2 * (d + 1) + 6, cells := 0, slots := 0, locals := 64 * (d + 1) + 250 }) (pWk [.ref h0, .int x1, .int x2, .int x3] D T [(h0, .inr (8, [.ref la, .ref cl, .ref p0, .ref p1, .ref p4, .int n])), (la, .inr (5, [.int (l9 0), .int (l9 1), .int (l9 2), .int (l9 3), .int (l9 4), .int (l9 5), .int (l9 6)])), (cl, .inr (1, [.int n0, .ref c1, .ref c2, .ref c3, .ref c4, .ref c5, .ref c6, .ref c7])), (c1, .inl (T 0, 24, .inl f1)), (c2, .inl (T 0, 24, .inl f2)), (c3, .inl (T 0, 24, .inl f3)), (c4, .inl (T 0, 24, .inl f4)), (c5, .inl (T 0, 24, .inl f5)), (p0, .inl (T 1, 676, .inr (.inl g0))), (p1, .inl (T 1, 676, .inr (.inl g1))), (p4, .inl (T 0, 672, .inl g4))] sz ad sa av ta) (va_Qi (fun (r : Int32) (u : (Nat → Int64) × (Nat → Int64) × (Nat → Int32)) => (0 ≤ r.toInt ∧ r.toInt < 672) ∧ r.toNatClampNeg = slN x1 x2 x3 ∧ u.2.2 (slN x1 x2 x3) = n ∧ stW (VALW l9 f1 f2 f3 f4 f5) n0 n (rgW x1 x2) g0 g1 g4 u.1 u.2.1 u.2.2) (bW D (va_A [(h0, .inr (8, [.ref la, .ref cl, .ref p0, .ref p1, .ref p4, .int n])), (la, .inr (5, [.int (l9 0), .int (l9 1), .int (l9 2), .int (l9 3), .int (l9 4), .int (l9 5), .int (l9 6)])), (cl, .inr (1, [.int n0, .ref c1, .ref c2, .ref c3, .ref c4, .ref c5, .ref c6, .ref c7])), (c1, .inl (T 0, 24, .inl f1)), (c2, .inl (T 0, 24, .inl f2)), (c3, .inl (T 0, 24, .inl f3)), (c4, .inl (T 0, 24, .inl f4)), (c5, .inl (T 0, 24, .inl f5)), (p0, .inl (T 1, 676, .inr (.inl g0))), (p1, .inl (T 1, 676, .inr (.inl g1))), (p4, .inl (T 0, 672, .inl g4))] sz) (fun (u : (Nat → Int64) × (Nat → Int64) × (Nat → Int32)) => [(h0, .inr (8, [.ref la, .ref cl, .ref p0, .ref p1, .ref p4, .int n])), (la, .inr (5, [.int (l9 0), .int (l9 1), .int (l9 2), .int (l9 3), .int (l9 4), .int (l9 5), .int (l9 6)])), (cl, .inr (1, [.int n0, .ref c1, .ref c2, .ref c3, .ref c4, .ref c5, .ref c6, .ref c7])), (c1, .inl (T 0, 24, .inl f1)), (c2, .inl (T 0, 24, .inl f2)), (c3, .inl (T 0, 24, .inl f3)), (c4, .inl (T 0, 24, .inl f4)), (c5, .inl (T 0, 24, .inl f5)), (p0, .inl (T 1, 676, .inr (.inl u.1))), (p1, .inl (T 1, 676, .inr (.inl u.2.1))), (p4, .inl (T 0, 672, .inl u.2.2))])) (va_A [(h0, .inr (8, [.ref la, .ref cl, .ref p0, .ref p1, .ref p4, .int n])), (la, .inr (5, [.int (l9 0), .int (l9 1), .int (l9 2), .int (l9 3), .int (l9 4), .int (l9 5), .int (l9 6)])), (cl, .inr (1, [.int n0, .ref c1, .ref c2, .ref c3, .ref c4, .ref c5, .ref c6, .ref c7])), (c1, .inl (T 0, 24, .inl f1)), (c2, .inl (T 0, 24, .inl f2)), (c3, .inl (T 0, 24, .inl f3)), (c4, .inl (T 0, 24, .inl f4)), (c5, .inl (T 0, 24, .inl f5)), (p0, .inl (T 1, 676, .inr (.inl g0))), (p1, .inl (T 1, 676, .inr (.inl g1))), (p4, .inl (T 0, 672, .inl g4))] sz)) 0 0 (va_A [(h0, .inr (8, [.ref la, .ref cl, .ref p0, .ref p1, .ref p4, .int n])), (la, .inr (5, [.int (l9 0), .int (l9 1), .int (l9 2), .int (l9 3), .int (l9 4), .int (l9 5), .int (l9 6)])), (cl, .inr (1, [.int n0, .ref c1, .ref c2, .ref c3, .ref c4, .ref c5, .ref c6, .ref c7])), (c1, .inl (T 0, 24, .inl f1)), (c2, .inl (T 0, 24, .inl f2)), (c3, .inl (T 0, 24, .inl f3)), (c4, .inl (T 0, 24, .inl f4)), (c5, .inl (T 0, 24, .inl f5)), (p0, .inl (T 1, 676, .inr (.inl g0))), (p1, .inl (T 1, 676, .inr (.inl g1))), (p4, .inl (T 0, 672, .inl g4))] sz) := by
  refine Met.ofW (cc := cX11_settle) (maxL := 8) (ret := (some .int)) (by decide +kernel) rfl ?_
  intro p e s m args below meth c s₁ B hml hv
  obtain ⟨rfl, hsz, hP, hE, hD0, hV⟩ := hv
  have hx := B.exec
  have hb := B.bytes
  have hr := B.returns
  have hts := atoms_spec (ws := wsX11_settle) B.pre
  have hown : s.vm.findClass RX11 = some m.cls := findClass_of_methodNamed B.named
  have hlocks := B.notSynchronized
  subst hsz
  have hD := hD0.self (sz := s.heap.size)
  generalize hAe : va_A [(h0, .inr (8, [.ref la, .ref cl, .ref p0, .ref p1, .ref p4, .int n])), (la, .inr (5, [.int (l9 0), .int (l9 1), .int (l9 2), .int (l9 3), .int (l9 4), .int (l9 5), .int (l9 6)])), (cl, .inr (1, [.int n0, .ref c1, .ref c2, .ref c3, .ref c4, .ref c5, .ref c6, .ref c7])), (c1, .inl (T 0, 24, .inl f1)), (c2, .inl (T 0, 24, .inl f2)), (c3, .inl (T 0, 24, .inl f3)), (c4, .inl (T 0, 24, .inl f4)), (c5, .inl (T 0, 24, .inl f5)), (p0, .inl (T 1, 676, .inr (.inl g0))), (p1, .inl (T 1, 676, .inr (.inl g1))), (p4, .inl (T 0, 672, .inl g4))] s.heap.size = A at hD hV ⊢
  have hA : ∀ q : Nat, s.heap.size ≤ q → A q := fun q h => by rw [← hAe]; exact Or.inr h
  have hS : va_S A s.heap s.heap [] := va_S.rf
  have hP : va_P D vwCl [(h0, .inr (8, [.ref la, .ref cl, .ref p0, .ref p1, .ref p4, .int n])), (la, .inr (5, [.int (l9 0), .int (l9 1), .int (l9 2), .int (l9 3), .int (l9 4), .int (l9 5), .int (l9 6)])), (cl, .inr (1, [.int n0, .ref c1, .ref c2, .ref c3, .ref c4, .ref c5, .ref c6, .ref c7])), (c1, .inl (T 0, 24, .inl f1)), (c2, .inl (T 0, 24, .inl f2)), (c3, .inl (T 0, 24, .inl f3)), (c4, .inl (T 0, 24, .inl f4)), (c5, .inl (T 0, 24, .inl f5)), (p0, .inl (T 1, 676, .inr (.inl g0))), (p1, .inl (T 1, 676, .inr (.inl g1))), (p4, .inl (T 0, 672, .inl g4))] s.heap := hP
  have hl := lv_entry ([.ref h0, .int x1, .int x2, .int x3]) (n := 8) (Nat.le_of_ble_eq_true rfl)
  rw [lg_entry_eq]
  generalize (lg_sl ([.ref h0, .int x1, .int x2, .int x3]) ++ List.replicate (8 - (lg_sl ([.ref h0, .int x1, .int x2, .int x3])).length) Slot.unset).toArray = ls at hl ⊢
  have hl : lv_has ls 8 [(0, .ref h0), (1, .int x1), (2, .int x2), (3, .int x3)] := hl
  have he6 : (f5 (x1.toNatClampNeg)).toInt ≤ 6 := (hok _ (in24 (x := x1) (by omega)).1).2.2.2
  clear hD0
  refine lv_iload_n hx hb dX11_settle_0 rfl (lv_at hl 1 rfl) ?_
  refine lv_bipush (v := 28) hx hb dX11_settle_1 (by decide +kernel) ?_
  refine lv_imul hx hb dX11_settle_3 ?_
  refine lv_iload_n hx hb dX11_settle_4 rfl (lv_at hl 2 rfl) ?_
  refine lv_iload_n hx hb dX11_settle_5 rfl (lv_at hl 2 rfl) ?_
  refine lv_iconst (v := 1) hx hb dX11_settle_6 (by decide +kernel) ?_
  refine lv_iadd hx hb dX11_settle_7 ?_
  refine lv_imul hx hb dX11_settle_8 ?_
  refine lv_iconst (v := 2) hx hb dX11_settle_9 (by decide +kernel) ?_
  refine lv_idiv hx hb dX11_settle_10 (by decide +kernel) ?_
  refine lv_iadd hx hb dX11_settle_11 ?_
  refine lv_iload_n hx hb dX11_settle_12 rfl (lv_at hl 3 rfl) ?_
  refine lv_iadd hx hb dX11_settle_13 ?_
  refine lv_topi (fun z_1 ez_1 => ?_)
  refine lv_istore (lv' := [(4, .int z_1), (0, .ref h0), (1, .int x1), (2, .int x2), (3, .int x3)]) hx hb dX11_settle_14 hl (by decide +kernel) rfl (fun ls hl => ?_)
  have hsb : 0 ≤ z_1.toInt ∧ z_1.toInt < 672 := by rw [ez_1]; exact slot_in (by omega) (by omega) (by omega)
  have hsl : z_1.toNatClampNeg = slN x1 x2 x3 := by rw [ez_1]; exact slN_at (by omega) (by omega) (by omega)
  have hsl9 : z_1.toNatClampNeg < 672 := by rw [hsl]; exact slN_lt (by omega) (by omega) (by omega)
  have hst : stW (VALW l9 f1 f2 f3 f4 f5) n0 n (rgW x1 x2) g0 g1 g4 g0 g1 g4 := stW_rf hmm
  refine lv_aload_n hx hb dX11_settle_16 rfl (lv_at hl 1 rfl) ?_
  refine va_get (D := D) (ci := 8) (v := .ref p4) (C := RX11) (T := TX11) (N := 6) hx hb hts in_X11_settle_X11 hown hE.1 hP 0 rfl rfl 4 (by decide +kernel) (hts (.fieldLink RX11 18 "ClauseBook$Worth" "foundAt" "[I") (List.mem_of_getElem? (i := 1) rfl)) (fun _ h9 => h9) rfl dX11_settle_17 ?_
  refine lv_iload hx hb dX11_settle_20 (lv_at hl 0 rfl) ?_
  refine va_iald hx hb hE.1 hP 10 0 rfl rfl (by rw [vp_in_iff]; first | omega | (subst_vars; omega)) dX11_settle_22 ?_
  refine lv_topi (fun z_2 ez_2 => ?_)
  refine lv_aload_n hx hb dX11_settle_23 rfl (lv_at hl 1 rfl) ?_
  refine va_get (D := D) (ci := 8) (v := .int n) (C := RX11) (T := TX11) (N := 6) hx hb hts in_X11_settle_X11 hown hE.1 hP 0 rfl rfl 5 (by decide +kernel) (hts (.fieldLink RX11 22 "ClauseBook$Worth" "age" "I") (List.mem_of_getElem? (i := 2) rfl)) (fun _ h9 => h9) rfl dX11_settle_24 ?_
  refine lv_icmp_ne (tgt := 33) hx hb dX11_settle_27 (by decide +kernel) (fun c_3 => ?_) (fun c_3 => ?_)
  · rw [fa_eq] at c_3
    have hnf : z_1.toNatClampNeg < 672 → g4 (z_1.toNatClampNeg) ≠ n := fun _ => by rw [← ez_2]; intro h9; exact absurd (congrArg Int32.toInt h9) (by omega)
    refine lv_aload_n hx hb dX11_settle_33 rfl (lv_at hl 1 rfl) ?_
    refine va_get (D := D) (ci := 8) (v := .ref cl) (C := RX11) (T := TX11) (N := 6) hx hb hts in_X11_settle_X11 hown hE.1 hP 0 rfl rfl 1 (by decide +kernel) (hts (.fieldLink RX11 30 "ClauseBook$Worth" "clauses" "LClauseBook$Clauses;") (List.mem_of_getElem? (i := 3) rfl)) (fun _ h9 => h9) rfl dX11_settle_34 ?_
    refine va_get (D := D) (ci := 1) (v := .ref c3) (C := RX2) (T := TX2) (N := 8) hx hb hts in_X11_settle_X2 hown hE.1 hP 2 rfl rfl 3 (by decide +kernel) (hts (.fieldLink RX11 40 "ClauseBook$Clauses" "c" "[I") (List.mem_of_getElem? (i := 4) rfl)) (fun _ h9 => h9) rfl dX11_settle_37 ?_
    refine lv_iload_n hx hb dX11_settle_40 rfl (lv_at hl 2 rfl) ?_
    refine va_iald hx hb hE.1 hP 5 0 rfl rfl (by rw [vp_in_iff]; first | omega | (subst_vars; omega)) dX11_settle_41 ?_
    refine lv_topi (fun z_4 ez_4 => ?_)
    refine lv_istore (lv' := [(5, .int z_4), (4, .int z_1), (0, .ref h0), (1, .int x1), (2, .int x2), (3, .int x3)]) hx hb dX11_settle_42 hl (by decide +kernel) rfl (fun ls hl => ?_)
    refine lv_iload_n hx hb dX11_settle_44 rfl (lv_at hl 4 rfl) ?_
    refine lv_aload_n hx hb dX11_settle_45 rfl (lv_at hl 2 rfl) ?_
    refine va_get (D := D) (ci := 8) (v := .ref cl) (C := RX11) (T := TX11) (N := 6) hx hb hts in_X11_settle_X11 hown hE.1 hP 0 rfl rfl 1 (by decide +kernel) (hts (.fieldLink RX11 30 "ClauseBook$Worth" "clauses" "LClauseBook$Clauses;") (List.mem_of_getElem? (i := 3) rfl)) (fun _ h9 => h9) rfl dX11_settle_46 ?_
    refine va_get (D := D) (ci := 1) (v := .ref c5) (C := RX2) (T := TX2) (N := 8) hx hb hts in_X11_settle_X2 hown hE.1 hP 2 rfl rfl 5 (by decide +kernel) (hts (.fieldLink RX11 45 "ClauseBook$Clauses" "end" "[I") (List.mem_of_getElem? (i := 5) rfl)) (fun _ h9 => h9) rfl dX11_settle_49 ?_
    refine lv_iload_n hx hb dX11_settle_52 rfl (lv_at hl 3 rfl) ?_
    refine va_iald hx hb hE.1 hP 7 0 rfl rfl (by rw [vp_in_iff]; first | omega | (subst_vars; omega)) dX11_settle_53 ?_
    refine lv_topi (fun z_5 ez_5 => ?_)
    have hzz_5 : z_5.toInt = (f5 (x1.toNatClampNeg)).toInt := by rw [ez_5]
    refine lv_icmp_le (tgt := 63) hx hb dX11_settle_54 (by decide +kernel) (fun c_6 => ?_) (fun c_6 => ?_)
    · rw [fa_le] at c_6
      refine lv_aload_n hx hb dX11_settle_63 rfl (lv_at hl 2 rfl) ?_
      refine va_get (D := D) (ci := 8) (v := .ref cl) (C := RX11) (T := TX11) (N := 6) hx hb hts in_X11_settle_X11 hown hE.1 hP 0 rfl rfl 1 (by decide +kernel) (hts (.fieldLink RX11 30 "ClauseBook$Worth" "clauses" "LClauseBook$Clauses;") (List.mem_of_getElem? (i := 3) rfl)) (fun _ h9 => h9) rfl dX11_settle_64 ?_
      refine lv_iload_n hx hb dX11_settle_67 rfl (lv_at hl 3 rfl) ?_
      refine va_cse (W.runV (As := [.int x1]) (rest := []) ⟨hx, hb, hml, hown, hts⟩ (c_X2_kindOf l D T ad sa av ta cl [.int n0, .ref c1, .ref c2, .ref c3, .ref c4, .ref c5, .ref c6, .ref c7] c1 f1 x1 rfl (by omega) ((hok _ (in24 (x := x1) (by omega)).1).1)) (cwV 1 hts gX11_settle_X2_kindOf rfl rfl rfl hv_X2_kindOf ⟨(show _ ≤ (2 * (d + 1) + 6 : Nat) from by (try dsimp only); omega), (show _ ≤ (64 * (d + 1) + 250 : Nat) from by (try dsimp only); omega)⟩) (pRk_V (q := (RX2, TX2, 8)) (ci := 1) (q0 := 2) hP hE hV hS rfl rfl [2, 3] rfl) rfl rfl hl.1 rfl (lv_room (Nat.le_of_ble_eq_true rfl)) dX11_settle_68 ⟨Nat.le_of_ble_eq_true rfl, Nat.le_of_ble_eq_true rfl⟩) (fun r_7 hr_7 => ?_)
      subst hr_7
      refine W.eq (g2 := F0 m 71 ls [.ref (ad ((f1 (x1.toNatClampNeg)).toNatClampNeg))]) rfl ?_
      rcases (in13n (in13c ((hok _ (in24 (x := x1) (by omega)).1).1))) with hk9 | hk9 | hk9 | hk9 | hk9 | hk9 | hk9 | hk9 | hk9 | hk9 | hk9 | hk9 | hk9
      · refine W.eq (g2 := F0 m 71 ls [.ref (ad 0)]) (by rw [hk9]) ?_
        refine lv_astore (lv' := [(6, .ref (ad 0)), (5, .int z_4), (4, .int z_1), (0, .ref h0), (1, .int x1), (2, .int x2), (3, .int x3)]) hx hb dX11_settle_71 hl (by decide +kernel) rfl (fun ls hl => ?_)
        refine va_gets (v := .ref (av 13)) hx hb hV.2.2.2.2.1 hS hown (hts (.fieldLink RX11 58 "ClauseBook$1" "$SwitchMap$ClauseBook$Kind" "[I") (List.mem_of_getElem? (i := 7) rfl)) (fun _ h9 => h9) dX11_settle_73 ?_
        refine lv_aload hx hb dX11_settle_76 (lv_at hl 0 rfl) ?_
        refine vp_callSi (va_Run.run (va_runU (As := []) (rest := [.ref (av 13)]) ⟨hx, hb, hml, hown, hts⟩ (c_Jx29ce0_ordinal_8abf5 l D T ad sa av ta 0 (by decide +kernel)) (va_cwU 0 hts gX11_settle_Jx29ce0_ordinal_8abf5_u63X7 rfl rfl rfl rfl (by decide +kernel) ⟨(show _ ≤ (2 * (d + 1) + 6 : Nat) from by (try dsimp only); omega), (show _ ≤ (64 * (d + 1) + 250 : Nat) from by (try dsimp only); omega)⟩) (pRk_VE (i := 0) (by decide +kernel) hP hE hV hS [] rfl) rfl rfl hl.1 rfl (lv_room (Nat.le_of_ble_eq_true rfl)) dX11_settle_78 ⟨Nat.le_of_ble_eq_true rfl, Nat.le_of_ble_eq_true rfl⟩)) (fun r_8 hr_8 => ?_)
        obtain rfl : (odT 0) = r_8 := (hr_8).symm
        refine va_ti (v := .int (swT 0)) hx hb hV.2.2.2.2.2.1 hS (odT_in (by decide +kernel)) (congrArg (fun z => Value.int (swT z)) (odT_at (by decide +kernel))) dX11_settle_81 ?_
        refine lv_topi (fun z_9 ez_9 => ?_)
        obtain rfl : z_9 = 1 := ez_9.trans (by decide +kernel)
        refine lv_tableIn (off := 46) (tgt := 128) hx hb dX11_settle_82 (by decide +kernel) (by decide +kernel) (by decide +kernel) (by decide +kernel) ?_
        refine lv_aload_n hx hb dX11_settle_128 rfl (lv_at hl 3 rfl) ?_
        refine lv_iload hx hb dX11_settle_129 (lv_at hl 2 rfl) ?_
        refine lv_lconst (v := 0) hx hb dX11_settle_131 (by decide +kernel) ?_
        refine lv_lconst (v := 1) hx hb dX11_settle_132 (by decide +kernel) ?_
        have hFc := va_free (wc := [(h0, .inr (8, [.ref la, .ref cl, .ref p0, .ref p1, .ref p4, .int n])), (p0, .inl (T 1, 676, .inr (.inl g0))), (p1, .inl (T 1, 676, .inr (.inl g1)))]) hD hS hA [0, 8, 9] rfl
        refine va_callv (va_runV (As := [.int z_1, .long 0, .long 1]) (rest := []) ⟨hx, hb, hml, hown, hts⟩ (c_X11_assign l D T _ h0 p0 p1 (.ref la) (.ref cl) (.ref p4) n g0 g1 z_1 0 1 (by first | decide | omega)) (cwV 3 hts gX11_settle_X11_assign rfl rfl rfl hv_X11_assign ⟨(show _ ≤ (2 * (d + 1) + 6 : Nat) from by (try dsimp only); omega), (show _ ≤ (64 * (d + 1) + 250 : Nat) from by (try dsimp only); omega)⟩) (pW_V (q := (RX11, TX11, 6)) (ci := 8) (q0 := 0) hP hE hD rfl rfl [0, 8, 9] (by decide +kernel) rfl rfl) rfl rfl hl.1 rfl (lv_room (Nat.le_of_ble_eq_true rfl)) dX11_settle_133 ⟨Nat.le_of_ble_eq_true rfl, Nat.le_of_ble_eq_true rfl⟩) hS (fun q _ h => hFc q h) hFc (fun u_11 t H1 locs ht hvm hr_10 hB hz1 hk1 hS => ?_)
        obtain ⟨f_12, f_13⟩ := u_11
        have hrd1 : f_12 = vp_updL g0 (z_1.toNatClampNeg) (((0 : Int64), (1 : Int64))).1 := hr_10.1
        have hrd2 : f_13 = vp_updL g1 (z_1.toNatClampNeg) (((0 : Int64), (1 : Int64))).2 := hr_10.2
        have hnw9 : (f_12 (z_1.toNatClampNeg), f_13 (z_1.toNatClampNeg)) = ((0 : Int64), (1 : Int64)) := by rw [put_at (q := ((0 : Int64), (1 : Int64))) hrd1 hrd2]
        have hp_z_1 := hnw9
        have hst : stW (VALW l9 f1 f2 f3 f4 f5) n0 n (rgW x1 x2) g0 g1 g4 f_12 f_13 g4 := by rw [hrd1, hrd2]; exact hst.put (fun h9 => ⟨rg_self (by omega) (by omega) (by omega) hsl, hnf h9⟩)
        have hmm : memW (VALW l9 f1 f2 f3 f4 f5) n0 n f_12 f_13 g4 := hst.1
        obtain ⟨hP1, hD1⟩ := hB
        rw [ht] at hP1
        obtain ⟨hP, hD⟩ := va_repl [(h0, .inr (8, [.ref la, .ref cl, .ref p0, .ref p1, .ref p4, .int n])), (la, .inr (5, [.int (l9 0), .int (l9 1), .int (l9 2), .int (l9 3), .int (l9 4), .int (l9 5), .int (l9 6)])), (cl, .inr (1, [.int n0, .ref c1, .ref c2, .ref c3, .ref c4, .ref c5, .ref c6, .ref c7])), (c1, .inl (T 0, 24, .inl f1)), (c2, .inl (T 0, 24, .inl f2)), (c3, .inl (T 0, 24, .inl f3)), (c4, .inl (T 0, 24, .inl f4)), (c5, .inl (T 0, 24, .inl f5)), (p0, .inl (T 1, 676, .inr (.inl f_12))), (p1, .inl (T 1, 676, .inr (.inl f_13))), (p4, .inl (T 0, 672, .inl g4))] hP hD [0, 8, 9] [0, 8, 9] rfl (by decide +kernel) rfl rfl rfl hk1 hP1
        clear hP1 hD1 hFc
        generalize H1 = H at hP hS ⊢
        refine lv_goto (tgt := 364) hx hb dX11_settle_136 (by decide +kernel) ?_
        refine lv_aload_n hx hb dX11_settle_364 rfl (lv_at hl 3 rfl) ?_
        refine va_get (D := D) (ci := 8) (v := .ref p4) (C := RX11) (T := TX11) (N := 6) hx hb hts in_X11_settle_X11 hown hE.1 hP 0 rfl rfl 4 (by decide +kernel) (hts (.fieldLink RX11 18 "ClauseBook$Worth" "foundAt" "[I") (List.mem_of_getElem? (i := 1) rfl)) (fun _ h9 => h9) rfl dX11_settle_365 ?_
        refine lv_iload hx hb dX11_settle_368 (lv_at hl 2 rfl) ?_
        refine lv_aload_n hx hb dX11_settle_370 rfl (lv_at hl 3 rfl) ?_
        refine va_get (D := D) (ci := 8) (v := .int n) (C := RX11) (T := TX11) (N := 6) hx hb hts in_X11_settle_X11 hown hE.1 hP 0 rfl rfl 5 (by decide +kernel) (hts (.fieldLink RX11 22 "ClauseBook$Worth" "age" "I") (List.mem_of_getElem? (i := 2) rfl)) (fun _ h9 => h9) rfl dX11_settle_371 ?_
        refine va_iast hx hb hE.1 hP hD hS 10 0 rfl rfl (by rw [vp_in_iff]; first | omega | (subst_vars; omega)) dX11_settle_374 (fun H locs hP hD hS => ?_)
        obtain ⟨hP, hD⟩ := wPD [(h0, .inr (8, [.ref la, .ref cl, .ref p0, .ref p1, .ref p4, .int n])), (la, .inr (5, [.int (l9 0), .int (l9 1), .int (l9 2), .int (l9 3), .int (l9 4), .int (l9 5), .int (l9 6)])), (cl, .inr (1, [.int n0, .ref c1, .ref c2, .ref c3, .ref c4, .ref c5, .ref c6, .ref c7])), (c1, .inl (T 0, 24, .inl f1)), (c2, .inl (T 0, 24, .inl f2)), (c3, .inl (T 0, 24, .inl f3)), (c4, .inl (T 0, 24, .inl f4)), (c5, .inl (T 0, 24, .inl f5)), (p0, .inl (T 1, 676, .inr (.inl f_12))), (p1, .inl (T 1, 676, .inr (.inl f_13))), (p4, .inl (T 0, 672, .inl (upd g4 (z_1.toNatClampNeg) n)))] hP hD rfl
        refine lv_iload hx hb dX11_settle_375 (lv_at hl 2 rfl) ?_
        exact W.iret hx hb hr (fun t ht hW => ⟨⟨_, (f_12, f_13, (upd g4 (z_1.toNatClampNeg) n)), rfl, ⟨hsb, hsl, (by rw [← hsl]; exact upd_at), hst.mark (by omega) (by omega) (by omega) (by omega) hsl (rg_self (by omega) (by omega) (by omega) hsl) (by rw [hp_z_1, VAL_step (l := l9) (fn := f2) (x := x1) (t := x2) (k := x3) hok (by omega) (by omega), sw_0 (l := l9) (fk := f1) (fn := f2) (fc := f3) (fd := f4) (fe := f5) (V := (VALW l9 f1 f2 f3 f4 f5)) (x := x1) (t := x2) (k := x3) (show ¬ (f5 (x1.toNatClampNeg)).toInt < x2.toInt from by omega) hk9])⟩, by rw [ht]; exact hP.sub [0, 1, 2, 3, 4, 5, 6, 7, 8, 9, 10] rfl, hD.sub [0, 1, 2, 3, 4, 5, 6, 7, 8, 9, 10] (by decide +kernel) rfl⟩, hS.F ht⟩) hS.2.2 dX11_settle_377
      · refine W.eq (g2 := F0 m 71 ls [.ref (ad 1)]) (by rw [hk9]) ?_
        refine lv_astore (lv' := [(6, .ref (ad 1)), (5, .int z_4), (4, .int z_1), (0, .ref h0), (1, .int x1), (2, .int x2), (3, .int x3)]) hx hb dX11_settle_71 hl (by decide +kernel) rfl (fun ls hl => ?_)
        refine va_gets (v := .ref (av 13)) hx hb hV.2.2.2.2.1 hS hown (hts (.fieldLink RX11 58 "ClauseBook$1" "$SwitchMap$ClauseBook$Kind" "[I") (List.mem_of_getElem? (i := 7) rfl)) (fun _ h9 => h9) dX11_settle_73 ?_
        refine lv_aload hx hb dX11_settle_76 (lv_at hl 0 rfl) ?_
        refine vp_callSi (va_Run.run (va_runU (As := []) (rest := [.ref (av 13)]) ⟨hx, hb, hml, hown, hts⟩ (c_Jx29ce0_ordinal_8abf5 l D T ad sa av ta 1 (by decide +kernel)) (va_cwU 0 hts gX11_settle_Jx29ce0_ordinal_8abf5_u63X7 rfl rfl rfl rfl (by decide +kernel) ⟨(show _ ≤ (2 * (d + 1) + 6 : Nat) from by (try dsimp only); omega), (show _ ≤ (64 * (d + 1) + 250 : Nat) from by (try dsimp only); omega)⟩) (pRk_VE (i := 1) (by decide +kernel) hP hE hV hS [] rfl) rfl rfl hl.1 rfl (lv_room (Nat.le_of_ble_eq_true rfl)) dX11_settle_78 ⟨Nat.le_of_ble_eq_true rfl, Nat.le_of_ble_eq_true rfl⟩)) (fun r_14 hr_14 => ?_)
        obtain rfl : (odT 1) = r_14 := (hr_14).symm
        refine va_ti (v := .int (swT 1)) hx hb hV.2.2.2.2.2.1 hS (odT_in (by decide +kernel)) (congrArg (fun z => Value.int (swT z)) (odT_at (by decide +kernel))) dX11_settle_81 ?_
        refine lv_topi (fun z_15 ez_15 => ?_)
        obtain rfl : z_15 = 2 := ez_15.trans (by decide +kernel)
        refine lv_tableIn (off := 57) (tgt := 139) hx hb dX11_settle_82 (by decide +kernel) (by decide +kernel) (by decide +kernel) (by decide +kernel) ?_
        refine lv_aload_n hx hb dX11_settle_139 rfl (lv_at hl 3 rfl) ?_
        refine lv_iload hx hb dX11_settle_140 (lv_at hl 2 rfl) ?_
        refine lv_lconst (v := 1) hx hb dX11_settle_142 (by decide +kernel) ?_
        refine lv_lconst (v := 1) hx hb dX11_settle_143 (by decide +kernel) ?_
        have hFc := va_free (wc := [(h0, .inr (8, [.ref la, .ref cl, .ref p0, .ref p1, .ref p4, .int n])), (p0, .inl (T 1, 676, .inr (.inl g0))), (p1, .inl (T 1, 676, .inr (.inl g1)))]) hD hS hA [0, 8, 9] rfl
        refine va_callv (va_runV (As := [.int z_1, .long 1, .long 1]) (rest := []) ⟨hx, hb, hml, hown, hts⟩ (c_X11_assign l D T _ h0 p0 p1 (.ref la) (.ref cl) (.ref p4) n g0 g1 z_1 1 1 (by first | decide | omega)) (cwV 3 hts gX11_settle_X11_assign rfl rfl rfl hv_X11_assign ⟨(show _ ≤ (2 * (d + 1) + 6 : Nat) from by (try dsimp only); omega), (show _ ≤ (64 * (d + 1) + 250 : Nat) from by (try dsimp only); omega)⟩) (pW_V (q := (RX11, TX11, 6)) (ci := 8) (q0 := 0) hP hE hD rfl rfl [0, 8, 9] (by decide +kernel) rfl rfl) rfl rfl hl.1 rfl (lv_room (Nat.le_of_ble_eq_true rfl)) dX11_settle_144 ⟨Nat.le_of_ble_eq_true rfl, Nat.le_of_ble_eq_true rfl⟩) hS (fun q _ h => hFc q h) hFc (fun u_17 t H1 locs ht hvm hr_16 hB hz1 hk1 hS => ?_)
        obtain ⟨f_18, f_19⟩ := u_17
        have hrd1 : f_18 = vp_updL g0 (z_1.toNatClampNeg) (((1 : Int64), (1 : Int64))).1 := hr_16.1
        have hrd2 : f_19 = vp_updL g1 (z_1.toNatClampNeg) (((1 : Int64), (1 : Int64))).2 := hr_16.2
        have hnw9 : (f_18 (z_1.toNatClampNeg), f_19 (z_1.toNatClampNeg)) = ((1 : Int64), (1 : Int64)) := by rw [put_at (q := ((1 : Int64), (1 : Int64))) hrd1 hrd2]
        have hp_z_1 := hnw9
        have hst : stW (VALW l9 f1 f2 f3 f4 f5) n0 n (rgW x1 x2) g0 g1 g4 f_18 f_19 g4 := by rw [hrd1, hrd2]; exact hst.put (fun h9 => ⟨rg_self (by omega) (by omega) (by omega) hsl, hnf h9⟩)
        have hmm : memW (VALW l9 f1 f2 f3 f4 f5) n0 n f_18 f_19 g4 := hst.1
        obtain ⟨hP1, hD1⟩ := hB
        rw [ht] at hP1
        obtain ⟨hP, hD⟩ := va_repl [(h0, .inr (8, [.ref la, .ref cl, .ref p0, .ref p1, .ref p4, .int n])), (la, .inr (5, [.int (l9 0), .int (l9 1), .int (l9 2), .int (l9 3), .int (l9 4), .int (l9 5), .int (l9 6)])), (cl, .inr (1, [.int n0, .ref c1, .ref c2, .ref c3, .ref c4, .ref c5, .ref c6, .ref c7])), (c1, .inl (T 0, 24, .inl f1)), (c2, .inl (T 0, 24, .inl f2)), (c3, .inl (T 0, 24, .inl f3)), (c4, .inl (T 0, 24, .inl f4)), (c5, .inl (T 0, 24, .inl f5)), (p0, .inl (T 1, 676, .inr (.inl f_18))), (p1, .inl (T 1, 676, .inr (.inl f_19))), (p4, .inl (T 0, 672, .inl g4))] hP hD [0, 8, 9] [0, 8, 9] rfl (by decide +kernel) rfl rfl rfl hk1 hP1
        clear hP1 hD1 hFc
        generalize H1 = H at hP hS ⊢
        refine lv_goto (tgt := 364) hx hb dX11_settle_147 (by decide +kernel) ?_
        refine lv_aload_n hx hb dX11_settle_364 rfl (lv_at hl 3 rfl) ?_
        refine va_get (D := D) (ci := 8) (v := .ref p4) (C := RX11) (T := TX11) (N := 6) hx hb hts in_X11_settle_X11 hown hE.1 hP 0 rfl rfl 4 (by decide +kernel) (hts (.fieldLink RX11 18 "ClauseBook$Worth" "foundAt" "[I") (List.mem_of_getElem? (i := 1) rfl)) (fun _ h9 => h9) rfl dX11_settle_365 ?_
        refine lv_iload hx hb dX11_settle_368 (lv_at hl 2 rfl) ?_
        refine lv_aload_n hx hb dX11_settle_370 rfl (lv_at hl 3 rfl) ?_
        refine va_get (D := D) (ci := 8) (v := .int n) (C := RX11) (T := TX11) (N := 6) hx hb hts in_X11_settle_X11 hown hE.1 hP 0 rfl rfl 5 (by decide +kernel) (hts (.fieldLink RX11 22 "ClauseBook$Worth" "age" "I") (List.mem_of_getElem? (i := 2) rfl)) (fun _ h9 => h9) rfl dX11_settle_371 ?_
        refine va_iast hx hb hE.1 hP hD hS 10 0 rfl rfl (by rw [vp_in_iff]; first | omega | (subst_vars; omega)) dX11_settle_374 (fun H locs hP hD hS => ?_)
        obtain ⟨hP, hD⟩ := wPD [(h0, .inr (8, [.ref la, .ref cl, .ref p0, .ref p1, .ref p4, .int n])), (la, .inr (5, [.int (l9 0), .int (l9 1), .int (l9 2), .int (l9 3), .int (l9 4), .int (l9 5), .int (l9 6)])), (cl, .inr (1, [.int n0, .ref c1, .ref c2, .ref c3, .ref c4, .ref c5, .ref c6, .ref c7])), (c1, .inl (T 0, 24, .inl f1)), (c2, .inl (T 0, 24, .inl f2)), (c3, .inl (T 0, 24, .inl f3)), (c4, .inl (T 0, 24, .inl f4)), (c5, .inl (T 0, 24, .inl f5)), (p0, .inl (T 1, 676, .inr (.inl f_18))), (p1, .inl (T 1, 676, .inr (.inl f_19))), (p4, .inl (T 0, 672, .inl (upd g4 (z_1.toNatClampNeg) n)))] hP hD rfl
        refine lv_iload hx hb dX11_settle_375 (lv_at hl 2 rfl) ?_
        exact W.iret hx hb hr (fun t ht hW => ⟨⟨_, (f_18, f_19, (upd g4 (z_1.toNatClampNeg) n)), rfl, ⟨hsb, hsl, (by rw [← hsl]; exact upd_at), hst.mark (by omega) (by omega) (by omega) (by omega) hsl (rg_self (by omega) (by omega) (by omega) hsl) (by rw [hp_z_1, VAL_step (l := l9) (fn := f2) (x := x1) (t := x2) (k := x3) hok (by omega) (by omega), sw_1 (l := l9) (fk := f1) (fn := f2) (fc := f3) (fd := f4) (fe := f5) (V := (VALW l9 f1 f2 f3 f4 f5)) (x := x1) (t := x2) (k := x3) (show ¬ (f5 (x1.toNatClampNeg)).toInt < x2.toInt from by omega) hk9])⟩, by rw [ht]; exact hP.sub [0, 1, 2, 3, 4, 5, 6, 7, 8, 9, 10] rfl, hD.sub [0, 1, 2, 3, 4, 5, 6, 7, 8, 9, 10] (by decide +kernel) rfl⟩, hS.F ht⟩) hS.2.2 dX11_settle_377
      · refine W.eq (g2 := F0 m 71 ls [.ref (ad 2)]) (by rw [hk9]) ?_
        have hc9 : 0 ≤ z_4.toInt ∧ z_4.toInt < x1.toInt := by
          have h := (hok _ (in24 (x := x1) (by omega)).1).2.1 (by rw [hk9]; decide)
          have h2 := (in24 (x := x1) (by omega)).2
          rw [ez_4]
          omega
        refine lv_astore (lv' := [(6, .ref (ad 2)), (5, .int z_4), (4, .int z_1), (0, .ref h0), (1, .int x1), (2, .int x2), (3, .int x3)]) hx hb dX11_settle_71 hl (by decide +kernel) rfl (fun ls hl => ?_)
        refine va_gets (v := .ref (av 13)) hx hb hV.2.2.2.2.1 hS hown (hts (.fieldLink RX11 58 "ClauseBook$1" "$SwitchMap$ClauseBook$Kind" "[I") (List.mem_of_getElem? (i := 7) rfl)) (fun _ h9 => h9) dX11_settle_73 ?_
        refine lv_aload hx hb dX11_settle_76 (lv_at hl 0 rfl) ?_
        refine vp_callSi (va_Run.run (va_runU (As := []) (rest := [.ref (av 13)]) ⟨hx, hb, hml, hown, hts⟩ (c_Jx29ce0_ordinal_8abf5 l D T ad sa av ta 2 (by decide +kernel)) (va_cwU 0 hts gX11_settle_Jx29ce0_ordinal_8abf5_u63X7 rfl rfl rfl rfl (by decide +kernel) ⟨(show _ ≤ (2 * (d + 1) + 6 : Nat) from by (try dsimp only); omega), (show _ ≤ (64 * (d + 1) + 250 : Nat) from by (try dsimp only); omega)⟩) (pRk_VE (i := 2) (by decide +kernel) hP hE hV hS [] rfl) rfl rfl hl.1 rfl (lv_room (Nat.le_of_ble_eq_true rfl)) dX11_settle_78 ⟨Nat.le_of_ble_eq_true rfl, Nat.le_of_ble_eq_true rfl⟩)) (fun r_20 hr_20 => ?_)
        obtain rfl : (odT 2) = r_20 := (hr_20).symm
        refine va_ti (v := .int (swT 2)) hx hb hV.2.2.2.2.2.1 hS (odT_in (by decide +kernel)) (congrArg (fun z => Value.int (swT z)) (odT_at (by decide +kernel))) dX11_settle_81 ?_
        refine lv_topi (fun z_21 ez_21 => ?_)
        obtain rfl : z_21 = 3 := ez_21.trans (by decide +kernel)
        refine lv_tableIn (off := 68) (tgt := 150) hx hb dX11_settle_82 (by decide +kernel) (by decide +kernel) (by decide +kernel) (by decide +kernel) ?_
        refine lv_aload_n hx hb dX11_settle_150 rfl (lv_at hl 3 rfl) ?_
        refine lv_iload hx hb dX11_settle_151 (lv_at hl 2 rfl) ?_
        refine lv_aload_n hx hb dX11_settle_153 rfl (lv_at hl 3 rfl) ?_
        refine lv_iload hx hb dX11_settle_154 (lv_at hl 1 rfl) ?_
        refine lv_iload_n hx hb dX11_settle_156 rfl (lv_at hl 5 rfl) ?_
        refine lv_iload_n hx hb dX11_settle_157 rfl (lv_at hl 6 rfl) ?_
        have hFc := va_free (wc := [(h0, .inr (8, [.ref la, .ref cl, .ref p0, .ref p1, .ref p4, .int n])), (la, .inr (5, [.int (l9 0), .int (l9 1), .int (l9 2), .int (l9 3), .int (l9 4), .int (l9 5), .int (l9 6)])), (cl, .inr (1, [.int n0, .ref c1, .ref c2, .ref c3, .ref c4, .ref c5, .ref c6, .ref c7])), (c1, .inl (T 0, 24, .inl f1)), (c2, .inl (T 0, 24, .inl f2)), (c3, .inl (T 0, 24, .inl f3)), (c4, .inl (T 0, 24, .inl f4)), (c5, .inl (T 0, 24, .inl f5)), (p0, .inl (T 1, 676, .inr (.inl g0))), (p1, .inl (T 1, 676, .inr (.inl g1))), (p4, .inl (T 0, 672, .inl g4))]) hD hS hA [0, 1, 2, 3, 4, 5, 6, 7, 8, 9, 10] rfl
        refine va_calli (va_runV (As := [.int z_4, .int x2, .int x3]) (rest := [.int z_1, .ref h0]) ⟨hx, hb, hml, hown, hts⟩ (hrec _ h0 la cl p0 p1 p4 n l9 n0 c1 c2 c3 c4 c5 c6 c7 f1 f2 f3 f4 f5 g0 g1 g4 z_4 x2 x3 (by omega) (by omega) (by omega) hok (by omega) hmm hlq (by omega)) (cwV 3 hts gX11_settle_X11_settle rfl rfl rfl hv_X11_settle ⟨(show _ ≤ (2 * (d + 1) + 6 : Nat) from by (try dsimp only); omega), (show _ ≤ (64 * (d + 1) + 250 : Nat) from by (try dsimp only); omega)⟩) (pWk_V (q := (RX11, TX11, 6)) (ci := 8) (q0 := 0) hP hE hD hV hS hFc rfl rfl [0, 1, 2, 3, 4, 5, 6, 7, 8, 9, 10] (by decide +kernel) rfl rfl) rfl rfl hl.1 rfl (lv_room (Nat.le_of_ble_eq_true rfl)) dX11_settle_158 ⟨Nat.le_of_ble_eq_true rfl, Nat.le_of_ble_eq_true rfl⟩) hS (fun q _ h => hFc q h) hFc (fun r_22 u_23 t H1 locs ht hvm hr_22 hB hz1 hk1 hS => ?_)
        obtain ⟨f_24, f_25, f_26⟩ := u_23
        obtain ⟨hqr_22, hsl_r_22, hfo_r_22, hstr_22⟩ := hr_22
        have hqr_22 : 0 ≤ r_22.toInt ∧ r_22.toInt < 672 := hqr_22
        have hsl_r_22 : r_22.toNatClampNeg = slN z_4 x2 x3 := hsl_r_22
        have hfo_r_22 : f_26 (slN z_4 x2 x3) = n := hfo_r_22
        have hsr_22 : stW (VALW l9 f1 f2 f3 f4 f5) n0 n (rgW z_4 x2) g0 g1 g4 f_24 f_25 f_26 := hstr_22
        have hg9 : z_1.toNatClampNeg < 672 → f_26 (z_1.toNatClampNeg) = g4 (z_1.toNatClampNeg) := fun h9 => (hsr_22.2.2.2 _ h9 (nrg_c (by omega) hsl)).2.2
        have hnf : z_1.toNatClampNeg < 672 → f_26 (z_1.toNatClampNeg) ≠ n := fun h9 => by rw [hg9 h9]; exact hnf h9
        have hst : stW (VALW l9 f1 f2 f3 f4 f5) n0 n (rgW x1 x2) g0 g1 g4 f_24 f_25 f_26 := hst.tr hsr_22 (fun j9 h9 => rg_c (by omega) h9)
        have hmm : memW (VALW l9 f1 f2 f3 f4 f5) n0 n f_24 f_25 f_26 := hst.1
        have hv_r_22 : (f_24 (r_22.toNatClampNeg), f_25 (r_22.toNatClampNeg)) = (VALW l9 f1 f2 f3 f4 f5) z_4 x2 x3 := hst.val (by omega) (by omega) (by first | (rw [ti_0]; omega) | omega) hsl_r_22 hfo_r_22
        have hb_r_22 : 0 ≤ (f_25 (r_22.toNatClampNeg)).toInt := val_nn (VAL_low hlq.1 hlq.2 31 _ _ _) hv_r_22
        obtain ⟨hP1, hD1⟩ := hB
        rw [ht] at hP1
        obtain ⟨hP, hD⟩ := va_repl [(h0, .inr (8, [.ref la, .ref cl, .ref p0, .ref p1, .ref p4, .int n])), (la, .inr (5, [.int (l9 0), .int (l9 1), .int (l9 2), .int (l9 3), .int (l9 4), .int (l9 5), .int (l9 6)])), (cl, .inr (1, [.int n0, .ref c1, .ref c2, .ref c3, .ref c4, .ref c5, .ref c6, .ref c7])), (c1, .inl (T 0, 24, .inl f1)), (c2, .inl (T 0, 24, .inl f2)), (c3, .inl (T 0, 24, .inl f3)), (c4, .inl (T 0, 24, .inl f4)), (c5, .inl (T 0, 24, .inl f5)), (p0, .inl (T 1, 676, .inr (.inl f_24))), (p1, .inl (T 1, 676, .inr (.inl f_25))), (p4, .inl (T 0, 672, .inl f_26))] hP hD [0, 1, 2, 3, 4, 5, 6, 7, 8, 9, 10] [0, 1, 2, 3, 4, 5, 6, 7, 8, 9, 10] rfl (by decide +kernel) rfl rfl rfl hk1 hP1
        clear hP1 hD1 hFc
        generalize H1 = H at hP hS ⊢
        refine lv_ldc2 (v := (-1)) hx hb hown (hts (.constantLong RX11 75 (-1)) (List.mem_of_getElem? (i := 8) rfl)) dX11_settle_161 ?_
        refine lv_lconst (v := 1) hx hb dX11_settle_164 (by decide +kernel) ?_
        have hFc := va_free (wc := [(h0, .inr (8, [.ref la, .ref cl, .ref p0, .ref p1, .ref p4, .int n])), (p0, .inl (T 1, 676, .inr (.inl f_24))), (p1, .inl (T 1, 676, .inr (.inl f_25)))]) hD hS hA [0, 8, 9] rfl
        refine va_callv (va_runV (As := [.int z_1, .int r_22, .long (-1), .long 1]) (rest := []) ⟨hx, hb, hml, hown, hts⟩ (c_X11_multiply l D T _ h0 p0 p1 (.ref la) (.ref cl) (.ref p4) n f_24 f_25 z_1 r_22 (-1) 1 (by first | decide | omega) (by first | decide | omega) (by first | omega | assumption | decide) (by first | omega | assumption | decide)) (cwV 4 hts gX11_settle_X11_multiply rfl rfl rfl hv_X11_multiply ⟨(show _ ≤ (2 * (d + 1) + 6 : Nat) from by (try dsimp only); omega), (show _ ≤ (64 * (d + 1) + 250 : Nat) from by (try dsimp only); omega)⟩) (pW_V (q := (RX11, TX11, 6)) (ci := 8) (q0 := 0) hP hE hD rfl rfl [0, 8, 9] (by decide +kernel) rfl rfl) rfl rfl hl.1 rfl (lv_room (Nat.le_of_ble_eq_true rfl)) dX11_settle_165 ⟨Nat.le_of_ble_eq_true rfl, Nat.le_of_ble_eq_true rfl⟩) hS (fun q _ h => hFc q h) hFc (fun u_28 t H1 locs ht hvm hr_27 hB hz1 hk1 hS => ?_)
        obtain ⟨f_29, f_30⟩ := u_28
        have hrd1 : f_29 = vp_updL f_24 (z_1.toNatClampNeg) (mulW ((f_24 (r_22.toNatClampNeg)), (f_25 (r_22.toNatClampNeg))) ((-1) : Int64) (1 : Int64)).1 := hr_27.1
        have hrd2 : f_30 = vp_updL f_25 (z_1.toNatClampNeg) (mulW ((f_24 (r_22.toNatClampNeg)), (f_25 (r_22.toNatClampNeg))) ((-1) : Int64) (1 : Int64)).2 := hr_27.2
        have hnw9 : (f_29 (z_1.toNatClampNeg), f_30 (z_1.toNatClampNeg)) = mulW ((VALW l9 f1 f2 f3 f4 f5) z_4 x2 x3) ((-1) : Int64) (1 : Int64) := by rw [put_at (q := mulW ((f_24 (r_22.toNatClampNeg)), (f_25 (r_22.toNatClampNeg))) ((-1) : Int64) (1 : Int64)) hrd1 hrd2, hv_r_22]
        have hp_z_1 := hnw9
        have hst : stW (VALW l9 f1 f2 f3 f4 f5) n0 n (rgW x1 x2) g0 g1 g4 f_29 f_30 f_26 := by rw [hrd1, hrd2]; exact hst.put (fun h9 => ⟨rg_self (by omega) (by omega) (by omega) hsl, hnf h9⟩)
        have hmm : memW (VALW l9 f1 f2 f3 f4 f5) n0 n f_29 f_30 f_26 := hst.1
        have hv_r_22 : (f_29 (r_22.toNatClampNeg), f_30 (r_22.toNatClampNeg)) = (VALW l9 f1 f2 f3 f4 f5) z_4 x2 x3 := hst.val (by omega) (by omega) (by omega) hsl_r_22 hfo_r_22
        have hb_r_22 : 0 ≤ (f_30 (r_22.toNatClampNeg)).toInt := val_nn (VAL_low hlq.1 hlq.2 31 _ _ _) hv_r_22
        obtain ⟨hP1, hD1⟩ := hB
        rw [ht] at hP1
        obtain ⟨hP, hD⟩ := va_repl [(h0, .inr (8, [.ref la, .ref cl, .ref p0, .ref p1, .ref p4, .int n])), (la, .inr (5, [.int (l9 0), .int (l9 1), .int (l9 2), .int (l9 3), .int (l9 4), .int (l9 5), .int (l9 6)])), (cl, .inr (1, [.int n0, .ref c1, .ref c2, .ref c3, .ref c4, .ref c5, .ref c6, .ref c7])), (c1, .inl (T 0, 24, .inl f1)), (c2, .inl (T 0, 24, .inl f2)), (c3, .inl (T 0, 24, .inl f3)), (c4, .inl (T 0, 24, .inl f4)), (c5, .inl (T 0, 24, .inl f5)), (p0, .inl (T 1, 676, .inr (.inl f_29))), (p1, .inl (T 1, 676, .inr (.inl f_30))), (p4, .inl (T 0, 672, .inl f_26))] hP hD [0, 8, 9] [0, 8, 9] rfl (by decide +kernel) rfl rfl rfl hk1 hP1
        clear hP1 hD1 hFc
        generalize H1 = H at hP hS ⊢
        refine lv_goto (tgt := 364) hx hb dX11_settle_168 (by decide +kernel) ?_
        refine lv_aload_n hx hb dX11_settle_364 rfl (lv_at hl 3 rfl) ?_
        refine va_get (D := D) (ci := 8) (v := .ref p4) (C := RX11) (T := TX11) (N := 6) hx hb hts in_X11_settle_X11 hown hE.1 hP 0 rfl rfl 4 (by decide +kernel) (hts (.fieldLink RX11 18 "ClauseBook$Worth" "foundAt" "[I") (List.mem_of_getElem? (i := 1) rfl)) (fun _ h9 => h9) rfl dX11_settle_365 ?_
        refine lv_iload hx hb dX11_settle_368 (lv_at hl 2 rfl) ?_
        refine lv_aload_n hx hb dX11_settle_370 rfl (lv_at hl 3 rfl) ?_
        refine va_get (D := D) (ci := 8) (v := .int n) (C := RX11) (T := TX11) (N := 6) hx hb hts in_X11_settle_X11 hown hE.1 hP 0 rfl rfl 5 (by decide +kernel) (hts (.fieldLink RX11 22 "ClauseBook$Worth" "age" "I") (List.mem_of_getElem? (i := 2) rfl)) (fun _ h9 => h9) rfl dX11_settle_371 ?_
        refine va_iast hx hb hE.1 hP hD hS 10 0 rfl rfl (by rw [vp_in_iff]; first | omega | (subst_vars; omega)) dX11_settle_374 (fun H locs hP hD hS => ?_)
        obtain ⟨hP, hD⟩ := wPD [(h0, .inr (8, [.ref la, .ref cl, .ref p0, .ref p1, .ref p4, .int n])), (la, .inr (5, [.int (l9 0), .int (l9 1), .int (l9 2), .int (l9 3), .int (l9 4), .int (l9 5), .int (l9 6)])), (cl, .inr (1, [.int n0, .ref c1, .ref c2, .ref c3, .ref c4, .ref c5, .ref c6, .ref c7])), (c1, .inl (T 0, 24, .inl f1)), (c2, .inl (T 0, 24, .inl f2)), (c3, .inl (T 0, 24, .inl f3)), (c4, .inl (T 0, 24, .inl f4)), (c5, .inl (T 0, 24, .inl f5)), (p0, .inl (T 1, 676, .inr (.inl f_29))), (p1, .inl (T 1, 676, .inr (.inl f_30))), (p4, .inl (T 0, 672, .inl (upd f_26 (z_1.toNatClampNeg) n)))] hP hD rfl
        refine lv_iload hx hb dX11_settle_375 (lv_at hl 2 rfl) ?_
        exact W.iret hx hb hr (fun t ht hW => ⟨⟨_, (f_29, f_30, (upd f_26 (z_1.toNatClampNeg) n)), rfl, ⟨hsb, hsl, (by rw [← hsl]; exact upd_at), hst.mark (by omega) (by omega) (by omega) (by omega) hsl (rg_self (by omega) (by omega) (by omega) hsl) (by rw [hp_z_1, VAL_step (l := l9) (fn := f2) (x := x1) (t := x2) (k := x3) hok (by omega) (by omega), sw_2 (l := l9) (fk := f1) (fn := f2) (fc := f3) (fd := f4) (fe := f5) (V := (VALW l9 f1 f2 f3 f4 f5)) (x := x1) (t := x2) (k := x3) (show ¬ (f5 (x1.toNatClampNeg)).toInt < x2.toInt from by omega) hk9, ← ez_4])⟩, by rw [ht]; exact hP.sub [0, 1, 2, 3, 4, 5, 6, 7, 8, 9, 10] rfl, hD.sub [0, 1, 2, 3, 4, 5, 6, 7, 8, 9, 10] (by decide +kernel) rfl⟩, hS.F ht⟩) hS.2.2 dX11_settle_377
      · refine W.eq (g2 := F0 m 71 ls [.ref (ad 3)]) (by rw [hk9]) ?_
        have hc9 : 0 ≤ z_4.toInt ∧ z_4.toInt < x1.toInt := by
          have h := (hok _ (in24 (x := x1) (by omega)).1).2.1 (by rw [hk9]; decide)
          have h2 := (in24 (x := x1) (by omega)).2
          rw [ez_4]
          omega
        refine lv_astore (lv' := [(6, .ref (ad 3)), (5, .int z_4), (4, .int z_1), (0, .ref h0), (1, .int x1), (2, .int x2), (3, .int x3)]) hx hb dX11_settle_71 hl (by decide +kernel) rfl (fun ls hl => ?_)
        refine va_gets (v := .ref (av 13)) hx hb hV.2.2.2.2.1 hS hown (hts (.fieldLink RX11 58 "ClauseBook$1" "$SwitchMap$ClauseBook$Kind" "[I") (List.mem_of_getElem? (i := 7) rfl)) (fun _ h9 => h9) dX11_settle_73 ?_
        refine lv_aload hx hb dX11_settle_76 (lv_at hl 0 rfl) ?_
        refine vp_callSi (va_Run.run (va_runU (As := []) (rest := [.ref (av 13)]) ⟨hx, hb, hml, hown, hts⟩ (c_Jx29ce0_ordinal_8abf5 l D T ad sa av ta 3 (by decide +kernel)) (va_cwU 0 hts gX11_settle_Jx29ce0_ordinal_8abf5_u63X7 rfl rfl rfl rfl (by decide +kernel) ⟨(show _ ≤ (2 * (d + 1) + 6 : Nat) from by (try dsimp only); omega), (show _ ≤ (64 * (d + 1) + 250 : Nat) from by (try dsimp only); omega)⟩) (pRk_VE (i := 3) (by decide +kernel) hP hE hV hS [] rfl) rfl rfl hl.1 rfl (lv_room (Nat.le_of_ble_eq_true rfl)) dX11_settle_78 ⟨Nat.le_of_ble_eq_true rfl, Nat.le_of_ble_eq_true rfl⟩)) (fun r_31 hr_31 => ?_)
        obtain rfl : (odT 3) = r_31 := (hr_31).symm
        refine va_ti (v := .int (swT 3)) hx hb hV.2.2.2.2.2.1 hS (odT_in (by decide +kernel)) (congrArg (fun z => Value.int (swT z)) (odT_at (by decide +kernel))) dX11_settle_81 ?_
        refine lv_topi (fun z_32 ez_32 => ?_)
        obtain rfl : z_32 = 4 := ez_32.trans (by decide +kernel)
        refine lv_tableIn (off := 89) (tgt := 171) hx hb dX11_settle_82 (by decide +kernel) (by decide +kernel) (by decide +kernel) (by decide +kernel) ?_
        refine lv_aload_n hx hb dX11_settle_171 rfl (lv_at hl 3 rfl) ?_
        refine lv_iload hx hb dX11_settle_172 (lv_at hl 2 rfl) ?_
        refine lv_aload_n hx hb dX11_settle_174 rfl (lv_at hl 3 rfl) ?_
        refine lv_iload hx hb dX11_settle_175 (lv_at hl 1 rfl) ?_
        refine lv_iload_n hx hb dX11_settle_177 rfl (lv_at hl 5 rfl) ?_
        refine lv_iload_n hx hb dX11_settle_178 rfl (lv_at hl 6 rfl) ?_
        have hFc := va_free (wc := [(h0, .inr (8, [.ref la, .ref cl, .ref p0, .ref p1, .ref p4, .int n])), (la, .inr (5, [.int (l9 0), .int (l9 1), .int (l9 2), .int (l9 3), .int (l9 4), .int (l9 5), .int (l9 6)])), (cl, .inr (1, [.int n0, .ref c1, .ref c2, .ref c3, .ref c4, .ref c5, .ref c6, .ref c7])), (c1, .inl (T 0, 24, .inl f1)), (c2, .inl (T 0, 24, .inl f2)), (c3, .inl (T 0, 24, .inl f3)), (c4, .inl (T 0, 24, .inl f4)), (c5, .inl (T 0, 24, .inl f5)), (p0, .inl (T 1, 676, .inr (.inl g0))), (p1, .inl (T 1, 676, .inr (.inl g1))), (p4, .inl (T 0, 672, .inl g4))]) hD hS hA [0, 1, 2, 3, 4, 5, 6, 7, 8, 9, 10] rfl
        refine va_calli (va_runV (As := [.int z_4, .int x2, .int x3]) (rest := [.int z_1, .ref h0]) ⟨hx, hb, hml, hown, hts⟩ (hrec _ h0 la cl p0 p1 p4 n l9 n0 c1 c2 c3 c4 c5 c6 c7 f1 f2 f3 f4 f5 g0 g1 g4 z_4 x2 x3 (by omega) (by omega) (by omega) hok (by omega) hmm hlq (by omega)) (cwV 3 hts gX11_settle_X11_settle rfl rfl rfl hv_X11_settle ⟨(show _ ≤ (2 * (d + 1) + 6 : Nat) from by (try dsimp only); omega), (show _ ≤ (64 * (d + 1) + 250 : Nat) from by (try dsimp only); omega)⟩) (pWk_V (q := (RX11, TX11, 6)) (ci := 8) (q0 := 0) hP hE hD hV hS hFc rfl rfl [0, 1, 2, 3, 4, 5, 6, 7, 8, 9, 10] (by decide +kernel) rfl rfl) rfl rfl hl.1 rfl (lv_room (Nat.le_of_ble_eq_true rfl)) dX11_settle_179 ⟨Nat.le_of_ble_eq_true rfl, Nat.le_of_ble_eq_true rfl⟩) hS (fun q _ h => hFc q h) hFc (fun r_33 u_34 t H1 locs ht hvm hr_33 hB hz1 hk1 hS => ?_)
        obtain ⟨f_35, f_36, f_37⟩ := u_34
        obtain ⟨hqr_33, hsl_r_33, hfo_r_33, hstr_33⟩ := hr_33
        have hqr_33 : 0 ≤ r_33.toInt ∧ r_33.toInt < 672 := hqr_33
        have hsl_r_33 : r_33.toNatClampNeg = slN z_4 x2 x3 := hsl_r_33
        have hfo_r_33 : f_37 (slN z_4 x2 x3) = n := hfo_r_33
        have hsr_33 : stW (VALW l9 f1 f2 f3 f4 f5) n0 n (rgW z_4 x2) g0 g1 g4 f_35 f_36 f_37 := hstr_33
        have hg9 : z_1.toNatClampNeg < 672 → f_37 (z_1.toNatClampNeg) = g4 (z_1.toNatClampNeg) := fun h9 => (hsr_33.2.2.2 _ h9 (nrg_c (by omega) hsl)).2.2
        have hnf : z_1.toNatClampNeg < 672 → f_37 (z_1.toNatClampNeg) ≠ n := fun h9 => by rw [hg9 h9]; exact hnf h9
        have hst : stW (VALW l9 f1 f2 f3 f4 f5) n0 n (rgW x1 x2) g0 g1 g4 f_35 f_36 f_37 := hst.tr hsr_33 (fun j9 h9 => rg_c (by omega) h9)
        have hmm : memW (VALW l9 f1 f2 f3 f4 f5) n0 n f_35 f_36 f_37 := hst.1
        have hv_r_33 : (f_35 (r_33.toNatClampNeg), f_36 (r_33.toNatClampNeg)) = (VALW l9 f1 f2 f3 f4 f5) z_4 x2 x3 := hst.val (by omega) (by omega) (by first | (rw [ti_0]; omega) | omega) hsl_r_33 hfo_r_33
        have hb_r_33 : 0 ≤ (f_36 (r_33.toNatClampNeg)).toInt := val_nn (VAL_low hlq.1 hlq.2 31 _ _ _) hv_r_33
        obtain ⟨hP1, hD1⟩ := hB
        rw [ht] at hP1
        obtain ⟨hP, hD⟩ := va_repl [(h0, .inr (8, [.ref la, .ref cl, .ref p0, .ref p1, .ref p4, .int n])), (la, .inr (5, [.int (l9 0), .int (l9 1), .int (l9 2), .int (l9 3), .int (l9 4), .int (l9 5), .int (l9 6)])), (cl, .inr (1, [.int n0, .ref c1, .ref c2, .ref c3, .ref c4, .ref c5, .ref c6, .ref c7])), (c1, .inl (T 0, 24, .inl f1)), (c2, .inl (T 0, 24, .inl f2)), (c3, .inl (T 0, 24, .inl f3)), (c4, .inl (T 0, 24, .inl f4)), (c5, .inl (T 0, 24, .inl f5)), (p0, .inl (T 1, 676, .inr (.inl f_35))), (p1, .inl (T 1, 676, .inr (.inl f_36))), (p4, .inl (T 0, 672, .inl f_37))] hP hD [0, 1, 2, 3, 4, 5, 6, 7, 8, 9, 10] [0, 1, 2, 3, 4, 5, 6, 7, 8, 9, 10] rfl (by decide +kernel) rfl rfl rfl hk1 hP1
        clear hP1 hD1 hFc
        generalize H1 = H at hP hS ⊢
        refine lv_aload_n hx hb dX11_settle_182 rfl (lv_at hl 3 rfl) ?_
        refine va_get (D := D) (ci := 8) (v := .ref cl) (C := RX11) (T := TX11) (N := 6) hx hb hts in_X11_settle_X11 hown hE.1 hP 0 rfl rfl 1 (by decide +kernel) (hts (.fieldLink RX11 30 "ClauseBook$Worth" "clauses" "LClauseBook$Clauses;") (List.mem_of_getElem? (i := 3) rfl)) (fun _ h9 => h9) rfl dX11_settle_183 ?_
        refine va_get (D := D) (ci := 1) (v := .ref c2) (C := RX2) (T := TX2) (N := 8) hx hb hts in_X11_settle_X2 hown hE.1 hP 2 rfl rfl 2 (by decide +kernel) (hts (.fieldLink RX11 81 "ClauseBook$Clauses" "n" "[I") (List.mem_of_getElem? (i := 9) rfl)) (fun _ h9 => h9) rfl dX11_settle_186 ?_
        refine lv_iload_n hx hb dX11_settle_189 rfl (lv_at hl 4 rfl) ?_
        refine va_iald hx hb hE.1 hP 4 0 rfl rfl (by rw [vp_in_iff]; first | omega | (subst_vars; omega)) dX11_settle_190 ?_
        refine lv_topi (fun z_38 ez_38 => ?_)
        refine lv_i2l hx hb dX11_settle_191 rfl ?_
        refine lv_lconst (v := 1) hx hb dX11_settle_192 (by decide +kernel) ?_
        have hFc := va_free (wc := [(h0, .inr (8, [.ref la, .ref cl, .ref p0, .ref p1, .ref p4, .int n])), (p0, .inl (T 1, 676, .inr (.inl f_35))), (p1, .inl (T 1, 676, .inr (.inl f_36)))]) hD hS hA [0, 8, 9] rfl
        refine va_callv (va_runV (As := [.int z_1, .int r_33, .long (z_38.toInt64), .long 1]) (rest := []) ⟨hx, hb, hml, hown, hts⟩ (c_X11_multiply l D T _ h0 p0 p1 (.ref la) (.ref cl) (.ref p4) n f_35 f_36 z_1 r_33 (z_38.toInt64) 1 (by first | decide | omega) (by first | decide | omega) (by first | omega | assumption | decide) (by first | omega | assumption | decide)) (cwV 4 hts gX11_settle_X11_multiply rfl rfl rfl hv_X11_multiply ⟨(show _ ≤ (2 * (d + 1) + 6 : Nat) from by (try dsimp only); omega), (show _ ≤ (64 * (d + 1) + 250 : Nat) from by (try dsimp only); omega)⟩) (pW_V (q := (RX11, TX11, 6)) (ci := 8) (q0 := 0) hP hE hD rfl rfl [0, 8, 9] (by decide +kernel) rfl rfl) rfl rfl hl.1 rfl (lv_room (Nat.le_of_ble_eq_true rfl)) dX11_settle_193 ⟨Nat.le_of_ble_eq_true rfl, Nat.le_of_ble_eq_true rfl⟩) hS (fun q _ h => hFc q h) hFc (fun u_40 t H1 locs ht hvm hr_39 hB hz1 hk1 hS => ?_)
        obtain ⟨f_41, f_42⟩ := u_40
        have hrd1 : f_41 = vp_updL f_35 (z_1.toNatClampNeg) (mulW ((f_35 (r_33.toNatClampNeg)), (f_36 (r_33.toNatClampNeg))) (z_38.toInt64) (1 : Int64)).1 := hr_39.1
        have hrd2 : f_42 = vp_updL f_36 (z_1.toNatClampNeg) (mulW ((f_35 (r_33.toNatClampNeg)), (f_36 (r_33.toNatClampNeg))) (z_38.toInt64) (1 : Int64)).2 := hr_39.2
        have hnw9 : (f_41 (z_1.toNatClampNeg), f_42 (z_1.toNatClampNeg)) = mulW ((VALW l9 f1 f2 f3 f4 f5) z_4 x2 x3) (z_38.toInt64) (1 : Int64) := by rw [put_at (q := mulW ((f_35 (r_33.toNatClampNeg)), (f_36 (r_33.toNatClampNeg))) (z_38.toInt64) (1 : Int64)) hrd1 hrd2, hv_r_33]
        have hp_z_1 := hnw9
        have hst : stW (VALW l9 f1 f2 f3 f4 f5) n0 n (rgW x1 x2) g0 g1 g4 f_41 f_42 f_37 := by rw [hrd1, hrd2]; exact hst.put (fun h9 => ⟨rg_self (by omega) (by omega) (by omega) hsl, hnf h9⟩)
        have hmm : memW (VALW l9 f1 f2 f3 f4 f5) n0 n f_41 f_42 f_37 := hst.1
        have hv_r_33 : (f_41 (r_33.toNatClampNeg), f_42 (r_33.toNatClampNeg)) = (VALW l9 f1 f2 f3 f4 f5) z_4 x2 x3 := hst.val (by omega) (by omega) (by omega) hsl_r_33 hfo_r_33
        have hb_r_33 : 0 ≤ (f_42 (r_33.toNatClampNeg)).toInt := val_nn (VAL_low hlq.1 hlq.2 31 _ _ _) hv_r_33
        obtain ⟨hP1, hD1⟩ := hB
        rw [ht] at hP1
        obtain ⟨hP, hD⟩ := va_repl [(h0, .inr (8, [.ref la, .ref cl, .ref p0, .ref p1, .ref p4, .int n])), (la, .inr (5, [.int (l9 0), .int (l9 1), .int (l9 2), .int (l9 3), .int (l9 4), .int (l9 5), .int (l9 6)])), (cl, .inr (1, [.int n0, .ref c1, .ref c2, .ref c3, .ref c4, .ref c5, .ref c6, .ref c7])), (c1, .inl (T 0, 24, .inl f1)), (c2, .inl (T 0, 24, .inl f2)), (c3, .inl (T 0, 24, .inl f3)), (c4, .inl (T 0, 24, .inl f4)), (c5, .inl (T 0, 24, .inl f5)), (p0, .inl (T 1, 676, .inr (.inl f_41))), (p1, .inl (T 1, 676, .inr (.inl f_42))), (p4, .inl (T 0, 672, .inl f_37))] hP hD [0, 8, 9] [0, 8, 9] rfl (by decide +kernel) rfl rfl rfl hk1 hP1
        clear hP1 hD1 hFc
        generalize H1 = H at hP hS ⊢
        refine lv_goto (tgt := 364) hx hb dX11_settle_196 (by decide +kernel) ?_
        refine lv_aload_n hx hb dX11_settle_364 rfl (lv_at hl 3 rfl) ?_
        refine va_get (D := D) (ci := 8) (v := .ref p4) (C := RX11) (T := TX11) (N := 6) hx hb hts in_X11_settle_X11 hown hE.1 hP 0 rfl rfl 4 (by decide +kernel) (hts (.fieldLink RX11 18 "ClauseBook$Worth" "foundAt" "[I") (List.mem_of_getElem? (i := 1) rfl)) (fun _ h9 => h9) rfl dX11_settle_365 ?_
        refine lv_iload hx hb dX11_settle_368 (lv_at hl 2 rfl) ?_
        refine lv_aload_n hx hb dX11_settle_370 rfl (lv_at hl 3 rfl) ?_
        refine va_get (D := D) (ci := 8) (v := .int n) (C := RX11) (T := TX11) (N := 6) hx hb hts in_X11_settle_X11 hown hE.1 hP 0 rfl rfl 5 (by decide +kernel) (hts (.fieldLink RX11 22 "ClauseBook$Worth" "age" "I") (List.mem_of_getElem? (i := 2) rfl)) (fun _ h9 => h9) rfl dX11_settle_371 ?_
        refine va_iast hx hb hE.1 hP hD hS 10 0 rfl rfl (by rw [vp_in_iff]; first | omega | (subst_vars; omega)) dX11_settle_374 (fun H locs hP hD hS => ?_)
        obtain ⟨hP, hD⟩ := wPD [(h0, .inr (8, [.ref la, .ref cl, .ref p0, .ref p1, .ref p4, .int n])), (la, .inr (5, [.int (l9 0), .int (l9 1), .int (l9 2), .int (l9 3), .int (l9 4), .int (l9 5), .int (l9 6)])), (cl, .inr (1, [.int n0, .ref c1, .ref c2, .ref c3, .ref c4, .ref c5, .ref c6, .ref c7])), (c1, .inl (T 0, 24, .inl f1)), (c2, .inl (T 0, 24, .inl f2)), (c3, .inl (T 0, 24, .inl f3)), (c4, .inl (T 0, 24, .inl f4)), (c5, .inl (T 0, 24, .inl f5)), (p0, .inl (T 1, 676, .inr (.inl f_41))), (p1, .inl (T 1, 676, .inr (.inl f_42))), (p4, .inl (T 0, 672, .inl (upd f_37 (z_1.toNatClampNeg) n)))] hP hD rfl
        refine lv_iload hx hb dX11_settle_375 (lv_at hl 2 rfl) ?_
        exact W.iret hx hb hr (fun t ht hW => ⟨⟨_, (f_41, f_42, (upd f_37 (z_1.toNatClampNeg) n)), rfl, ⟨hsb, hsl, (by rw [← hsl]; exact upd_at), hst.mark (by omega) (by omega) (by omega) (by omega) hsl (rg_self (by omega) (by omega) (by omega) hsl) (by rw [hp_z_1, VAL_step (l := l9) (fn := f2) (x := x1) (t := x2) (k := x3) hok (by omega) (by omega), sw_3 (l := l9) (fk := f1) (fn := f2) (fc := f3) (fd := f4) (fe := f5) (V := (VALW l9 f1 f2 f3 f4 f5)) (x := x1) (t := x2) (k := x3) (show ¬ (f5 (x1.toNatClampNeg)).toInt < x2.toInt from by omega) hk9, ← ez_4, ← ez_38])⟩, by rw [ht]; exact hP.sub [0, 1, 2, 3, 4, 5, 6, 7, 8, 9, 10] rfl, hD.sub [0, 1, 2, 3, 4, 5, 6, 7, 8, 9, 10] (by decide +kernel) rfl⟩, hS.F ht⟩) hS.2.2 dX11_settle_377
      · refine W.eq (g2 := F0 m 71 ls [.ref (ad 4)]) (by rw [hk9]) ?_
        have hc9 : 0 ≤ z_4.toInt ∧ z_4.toInt < x1.toInt := by
          have h := (hok _ (in24 (x := x1) (by omega)).1).2.1 (by rw [hk9]; decide)
          have h2 := (in24 (x := x1) (by omega)).2
          rw [ez_4]
          omega
        refine lv_astore (lv' := [(6, .ref (ad 4)), (5, .int z_4), (4, .int z_1), (0, .ref h0), (1, .int x1), (2, .int x2), (3, .int x3)]) hx hb dX11_settle_71 hl (by decide +kernel) rfl (fun ls hl => ?_)
        refine va_gets (v := .ref (av 13)) hx hb hV.2.2.2.2.1 hS hown (hts (.fieldLink RX11 58 "ClauseBook$1" "$SwitchMap$ClauseBook$Kind" "[I") (List.mem_of_getElem? (i := 7) rfl)) (fun _ h9 => h9) dX11_settle_73 ?_
        refine lv_aload hx hb dX11_settle_76 (lv_at hl 0 rfl) ?_
        refine vp_callSi (va_Run.run (va_runU (As := []) (rest := [.ref (av 13)]) ⟨hx, hb, hml, hown, hts⟩ (c_Jx29ce0_ordinal_8abf5 l D T ad sa av ta 4 (by decide +kernel)) (va_cwU 0 hts gX11_settle_Jx29ce0_ordinal_8abf5_u63X7 rfl rfl rfl rfl (by decide +kernel) ⟨(show _ ≤ (2 * (d + 1) + 6 : Nat) from by (try dsimp only); omega), (show _ ≤ (64 * (d + 1) + 250 : Nat) from by (try dsimp only); omega)⟩) (pRk_VE (i := 4) (by decide +kernel) hP hE hV hS [] rfl) rfl rfl hl.1 rfl (lv_room (Nat.le_of_ble_eq_true rfl)) dX11_settle_78 ⟨Nat.le_of_ble_eq_true rfl, Nat.le_of_ble_eq_true rfl⟩)) (fun r_43 hr_43 => ?_)
        obtain rfl : (odT 4) = r_43 := (hr_43).symm
        refine va_ti (v := .int (swT 4)) hx hb hV.2.2.2.2.2.1 hS (odT_in (by decide +kernel)) (congrArg (fun z => Value.int (swT z)) (odT_at (by decide +kernel))) dX11_settle_81 ?_
        refine lv_topi (fun z_44 ez_44 => ?_)
        obtain rfl : z_44 = 5 := ez_44.trans (by decide +kernel)
        refine lv_tableIn (off := 117) (tgt := 199) hx hb dX11_settle_82 (by decide +kernel) (by decide +kernel) (by decide +kernel) (by decide +kernel) ?_
        refine lv_aload_n hx hb dX11_settle_199 rfl (lv_at hl 3 rfl) ?_
        refine lv_iload hx hb dX11_settle_200 (lv_at hl 2 rfl) ?_
        refine lv_aload_n hx hb dX11_settle_202 rfl (lv_at hl 3 rfl) ?_
        refine lv_iload hx hb dX11_settle_203 (lv_at hl 1 rfl) ?_
        refine lv_iload_n hx hb dX11_settle_205 rfl (lv_at hl 5 rfl) ?_
        refine lv_iload_n hx hb dX11_settle_206 rfl (lv_at hl 6 rfl) ?_
        have hFc := va_free (wc := [(h0, .inr (8, [.ref la, .ref cl, .ref p0, .ref p1, .ref p4, .int n])), (la, .inr (5, [.int (l9 0), .int (l9 1), .int (l9 2), .int (l9 3), .int (l9 4), .int (l9 5), .int (l9 6)])), (cl, .inr (1, [.int n0, .ref c1, .ref c2, .ref c3, .ref c4, .ref c5, .ref c6, .ref c7])), (c1, .inl (T 0, 24, .inl f1)), (c2, .inl (T 0, 24, .inl f2)), (c3, .inl (T 0, 24, .inl f3)), (c4, .inl (T 0, 24, .inl f4)), (c5, .inl (T 0, 24, .inl f5)), (p0, .inl (T 1, 676, .inr (.inl g0))), (p1, .inl (T 1, 676, .inr (.inl g1))), (p4, .inl (T 0, 672, .inl g4))]) hD hS hA [0, 1, 2, 3, 4, 5, 6, 7, 8, 9, 10] rfl
        refine va_calli (va_runV (As := [.int z_4, .int x2, .int x3]) (rest := [.int z_1, .ref h0]) ⟨hx, hb, hml, hown, hts⟩ (hrec _ h0 la cl p0 p1 p4 n l9 n0 c1 c2 c3 c4 c5 c6 c7 f1 f2 f3 f4 f5 g0 g1 g4 z_4 x2 x3 (by omega) (by omega) (by omega) hok (by omega) hmm hlq (by omega)) (cwV 3 hts gX11_settle_X11_settle rfl rfl rfl hv_X11_settle ⟨(show _ ≤ (2 * (d + 1) + 6 : Nat) from by (try dsimp only); omega), (show _ ≤ (64 * (d + 1) + 250 : Nat) from by (try dsimp only); omega)⟩) (pWk_V (q := (RX11, TX11, 6)) (ci := 8) (q0 := 0) hP hE hD hV hS hFc rfl rfl [0, 1, 2, 3, 4, 5, 6, 7, 8, 9, 10] (by decide +kernel) rfl rfl) rfl rfl hl.1 rfl (lv_room (Nat.le_of_ble_eq_true rfl)) dX11_settle_207 ⟨Nat.le_of_ble_eq_true rfl, Nat.le_of_ble_eq_true rfl⟩) hS (fun q _ h => hFc q h) hFc (fun r_45 u_46 t H1 locs ht hvm hr_45 hB hz1 hk1 hS => ?_)
        obtain ⟨f_47, f_48, f_49⟩ := u_46
        obtain ⟨hqr_45, hsl_r_45, hfo_r_45, hstr_45⟩ := hr_45
        have hqr_45 : 0 ≤ r_45.toInt ∧ r_45.toInt < 672 := hqr_45
        have hsl_r_45 : r_45.toNatClampNeg = slN z_4 x2 x3 := hsl_r_45
        have hfo_r_45 : f_49 (slN z_4 x2 x3) = n := hfo_r_45
        have hsr_45 : stW (VALW l9 f1 f2 f3 f4 f5) n0 n (rgW z_4 x2) g0 g1 g4 f_47 f_48 f_49 := hstr_45
        have hg9 : z_1.toNatClampNeg < 672 → f_49 (z_1.toNatClampNeg) = g4 (z_1.toNatClampNeg) := fun h9 => (hsr_45.2.2.2 _ h9 (nrg_c (by omega) hsl)).2.2
        have hnf : z_1.toNatClampNeg < 672 → f_49 (z_1.toNatClampNeg) ≠ n := fun h9 => by rw [hg9 h9]; exact hnf h9
        have hst : stW (VALW l9 f1 f2 f3 f4 f5) n0 n (rgW x1 x2) g0 g1 g4 f_47 f_48 f_49 := hst.tr hsr_45 (fun j9 h9 => rg_c (by omega) h9)
        have hmm : memW (VALW l9 f1 f2 f3 f4 f5) n0 n f_47 f_48 f_49 := hst.1
        have hv_r_45 : (f_47 (r_45.toNatClampNeg), f_48 (r_45.toNatClampNeg)) = (VALW l9 f1 f2 f3 f4 f5) z_4 x2 x3 := hst.val (by omega) (by omega) (by first | (rw [ti_0]; omega) | omega) hsl_r_45 hfo_r_45
        have hb_r_45 : 0 ≤ (f_48 (r_45.toNatClampNeg)).toInt := val_nn (VAL_low hlq.1 hlq.2 31 _ _ _) hv_r_45
        obtain ⟨hP1, hD1⟩ := hB
        rw [ht] at hP1
        obtain ⟨hP, hD⟩ := va_repl [(h0, .inr (8, [.ref la, .ref cl, .ref p0, .ref p1, .ref p4, .int n])), (la, .inr (5, [.int (l9 0), .int (l9 1), .int (l9 2), .int (l9 3), .int (l9 4), .int (l9 5), .int (l9 6)])), (cl, .inr (1, [.int n0, .ref c1, .ref c2, .ref c3, .ref c4, .ref c5, .ref c6, .ref c7])), (c1, .inl (T 0, 24, .inl f1)), (c2, .inl (T 0, 24, .inl f2)), (c3, .inl (T 0, 24, .inl f3)), (c4, .inl (T 0, 24, .inl f4)), (c5, .inl (T 0, 24, .inl f5)), (p0, .inl (T 1, 676, .inr (.inl f_47))), (p1, .inl (T 1, 676, .inr (.inl f_48))), (p4, .inl (T 0, 672, .inl f_49))] hP hD [0, 1, 2, 3, 4, 5, 6, 7, 8, 9, 10] [0, 1, 2, 3, 4, 5, 6, 7, 8, 9, 10] rfl (by decide +kernel) rfl rfl rfl hk1 hP1
        clear hP1 hD1 hFc
        generalize H1 = H at hP hS ⊢
        refine lv_aload_n hx hb dX11_settle_210 rfl (lv_at hl 3 rfl) ?_
        refine va_get (D := D) (ci := 8) (v := .ref la) (C := RX11) (T := TX11) (N := 6) hx hb hts in_X11_settle_X11 hown hE.1 hP 0 rfl rfl 0 (by decide +kernel) (hts (.fieldLink RX11 26 "ClauseBook$Worth" "lattice" "LClauseBook$Lattice;") (List.mem_of_getElem? (i := 10) rfl)) (fun _ h9 => h9) rfl dX11_settle_211 ?_
        refine lv_iload_n hx hb dX11_settle_214 rfl (lv_at hl 5 rfl) ?_
        refine lv_iload_n hx hb dX11_settle_215 rfl (lv_at hl 6 rfl) ?_
        refine vp_callSi (W.runV (As := [.int x2, .int x3]) (rest := [.int r_45, .int z_1, .ref h0]) ⟨hx, hb, hml, hown, hts⟩ (c_X8_priceAt l D T la [.int (l9 0), .int (l9 1), .int (l9 2), .int (l9 3), .int (l9 4), .int (l9 5), .int (l9 6)] x2 x3 (l9 0) (l9 1) (l9 2) rfl rfl rfl) (cwV 2 hts gX11_settle_X8_priceAt rfl rfl rfl hv_X8_priceAt ⟨(show _ ≤ (2 * (d + 1) + 6 : Nat) from by (try dsimp only); omega), (show _ ≤ (64 * (d + 1) + 250 : Nat) from by (try dsimp only); omega)⟩) (pR_V (q := (RX8, TX8, 7)) (ci := 5) (q0 := 1) hP hE rfl rfl [1] rfl) rfl rfl hl.1 rfl (lv_room (Nat.le_of_ble_eq_true rfl)) dX11_settle_216 ⟨Nat.le_of_ble_eq_true rfl, Nat.le_of_ble_eq_true rfl⟩) (fun r_50 hr_50 => ?_)
        refine lv_i2l hx hb dX11_settle_219 rfl ?_
        refine lv_lconst (v := 1) hx hb dX11_settle_220 (by decide +kernel) ?_
        have hFc := va_free (wc := [(h0, .inr (8, [.ref la, .ref cl, .ref p0, .ref p1, .ref p4, .int n])), (p0, .inl (T 1, 676, .inr (.inl f_47))), (p1, .inl (T 1, 676, .inr (.inl f_48)))]) hD hS hA [0, 8, 9] rfl
        refine va_callv (va_runV (As := [.int z_1, .int r_45, .long (r_50.toInt64), .long 1]) (rest := []) ⟨hx, hb, hml, hown, hts⟩ (c_X11_multiply l D T _ h0 p0 p1 (.ref la) (.ref cl) (.ref p4) n f_47 f_48 z_1 r_45 (r_50.toInt64) 1 (by first | decide | omega) (by first | decide | omega) (by first | omega | assumption | decide) (by first | omega | assumption | decide)) (cwV 4 hts gX11_settle_X11_multiply rfl rfl rfl hv_X11_multiply ⟨(show _ ≤ (2 * (d + 1) + 6 : Nat) from by (try dsimp only); omega), (show _ ≤ (64 * (d + 1) + 250 : Nat) from by (try dsimp only); omega)⟩) (pW_V (q := (RX11, TX11, 6)) (ci := 8) (q0 := 0) hP hE hD rfl rfl [0, 8, 9] (by decide +kernel) rfl rfl) rfl rfl hl.1 rfl (lv_room (Nat.le_of_ble_eq_true rfl)) dX11_settle_221 ⟨Nat.le_of_ble_eq_true rfl, Nat.le_of_ble_eq_true rfl⟩) hS (fun q _ h => hFc q h) hFc (fun u_52 t H1 locs ht hvm hr_51 hB hz1 hk1 hS => ?_)
        obtain ⟨f_53, f_54⟩ := u_52
        have hrd1 : f_53 = vp_updL f_47 (z_1.toNatClampNeg) (mulW ((f_47 (r_45.toNatClampNeg)), (f_48 (r_45.toNatClampNeg))) (r_50.toInt64) (1 : Int64)).1 := hr_51.1
        have hrd2 : f_54 = vp_updL f_48 (z_1.toNatClampNeg) (mulW ((f_47 (r_45.toNatClampNeg)), (f_48 (r_45.toNatClampNeg))) (r_50.toInt64) (1 : Int64)).2 := hr_51.2
        have hnw9 : (f_53 (z_1.toNatClampNeg), f_54 (z_1.toNatClampNeg)) = mulW ((VALW l9 f1 f2 f3 f4 f5) z_4 x2 x3) (r_50.toInt64) (1 : Int64) := by rw [put_at (q := mulW ((f_47 (r_45.toNatClampNeg)), (f_48 (r_45.toNatClampNeg))) (r_50.toInt64) (1 : Int64)) hrd1 hrd2, hv_r_45]
        have hp_z_1 := hnw9
        have hst : stW (VALW l9 f1 f2 f3 f4 f5) n0 n (rgW x1 x2) g0 g1 g4 f_53 f_54 f_49 := by rw [hrd1, hrd2]; exact hst.put (fun h9 => ⟨rg_self (by omega) (by omega) (by omega) hsl, hnf h9⟩)
        have hmm : memW (VALW l9 f1 f2 f3 f4 f5) n0 n f_53 f_54 f_49 := hst.1
        have hv_r_45 : (f_53 (r_45.toNatClampNeg), f_54 (r_45.toNatClampNeg)) = (VALW l9 f1 f2 f3 f4 f5) z_4 x2 x3 := hst.val (by omega) (by omega) (by omega) hsl_r_45 hfo_r_45
        have hb_r_45 : 0 ≤ (f_54 (r_45.toNatClampNeg)).toInt := val_nn (VAL_low hlq.1 hlq.2 31 _ _ _) hv_r_45
        obtain ⟨hP1, hD1⟩ := hB
        rw [ht] at hP1
        obtain ⟨hP, hD⟩ := va_repl [(h0, .inr (8, [.ref la, .ref cl, .ref p0, .ref p1, .ref p4, .int n])), (la, .inr (5, [.int (l9 0), .int (l9 1), .int (l9 2), .int (l9 3), .int (l9 4), .int (l9 5), .int (l9 6)])), (cl, .inr (1, [.int n0, .ref c1, .ref c2, .ref c3, .ref c4, .ref c5, .ref c6, .ref c7])), (c1, .inl (T 0, 24, .inl f1)), (c2, .inl (T 0, 24, .inl f2)), (c3, .inl (T 0, 24, .inl f3)), (c4, .inl (T 0, 24, .inl f4)), (c5, .inl (T 0, 24, .inl f5)), (p0, .inl (T 1, 676, .inr (.inl f_53))), (p1, .inl (T 1, 676, .inr (.inl f_54))), (p4, .inl (T 0, 672, .inl f_49))] hP hD [0, 8, 9] [0, 8, 9] rfl (by decide +kernel) rfl rfl rfl hk1 hP1
        clear hP1 hD1 hFc
        generalize H1 = H at hP hS ⊢
        refine lv_goto (tgt := 364) hx hb dX11_settle_224 (by decide +kernel) ?_
        refine lv_aload_n hx hb dX11_settle_364 rfl (lv_at hl 3 rfl) ?_
        refine va_get (D := D) (ci := 8) (v := .ref p4) (C := RX11) (T := TX11) (N := 6) hx hb hts in_X11_settle_X11 hown hE.1 hP 0 rfl rfl 4 (by decide +kernel) (hts (.fieldLink RX11 18 "ClauseBook$Worth" "foundAt" "[I") (List.mem_of_getElem? (i := 1) rfl)) (fun _ h9 => h9) rfl dX11_settle_365 ?_
        refine lv_iload hx hb dX11_settle_368 (lv_at hl 2 rfl) ?_
        refine lv_aload_n hx hb dX11_settle_370 rfl (lv_at hl 3 rfl) ?_
        refine va_get (D := D) (ci := 8) (v := .int n) (C := RX11) (T := TX11) (N := 6) hx hb hts in_X11_settle_X11 hown hE.1 hP 0 rfl rfl 5 (by decide +kernel) (hts (.fieldLink RX11 22 "ClauseBook$Worth" "age" "I") (List.mem_of_getElem? (i := 2) rfl)) (fun _ h9 => h9) rfl dX11_settle_371 ?_
        refine va_iast hx hb hE.1 hP hD hS 10 0 rfl rfl (by rw [vp_in_iff]; first | omega | (subst_vars; omega)) dX11_settle_374 (fun H locs hP hD hS => ?_)
        obtain ⟨hP, hD⟩ := wPD [(h0, .inr (8, [.ref la, .ref cl, .ref p0, .ref p1, .ref p4, .int n])), (la, .inr (5, [.int (l9 0), .int (l9 1), .int (l9 2), .int (l9 3), .int (l9 4), .int (l9 5), .int (l9 6)])), (cl, .inr (1, [.int n0, .ref c1, .ref c2, .ref c3, .ref c4, .ref c5, .ref c6, .ref c7])), (c1, .inl (T 0, 24, .inl f1)), (c2, .inl (T 0, 24, .inl f2)), (c3, .inl (T 0, 24, .inl f3)), (c4, .inl (T 0, 24, .inl f4)), (c5, .inl (T 0, 24, .inl f5)), (p0, .inl (T 1, 676, .inr (.inl f_53))), (p1, .inl (T 1, 676, .inr (.inl f_54))), (p4, .inl (T 0, 672, .inl (upd f_49 (z_1.toNatClampNeg) n)))] hP hD rfl
        refine lv_iload hx hb dX11_settle_375 (lv_at hl 2 rfl) ?_
        exact W.iret hx hb hr (fun t ht hW => ⟨⟨_, (f_53, f_54, (upd f_49 (z_1.toNatClampNeg) n)), rfl, ⟨hsb, hsl, (by rw [← hsl]; exact upd_at), hst.mark (by omega) (by omega) (by omega) (by omega) hsl (rg_self (by omega) (by omega) (by omega) hsl) (by rw [hp_z_1, VAL_step (l := l9) (fn := f2) (x := x1) (t := x2) (k := x3) hok (by omega) (by omega), sw_4 (l := l9) (fk := f1) (fn := f2) (fc := f3) (fd := f4) (fe := f5) (V := (VALW l9 f1 f2 f3 f4 f5)) (x := x1) (t := x2) (k := x3) (show ¬ (f5 (x1.toNatClampNeg)).toInt < x2.toInt from by omega) hk9, ← ez_4]; unfold prW; rw [← hr_50])⟩, by rw [ht]; exact hP.sub [0, 1, 2, 3, 4, 5, 6, 7, 8, 9, 10] rfl, hD.sub [0, 1, 2, 3, 4, 5, 6, 7, 8, 9, 10] (by decide +kernel) rfl⟩, hS.F ht⟩) hS.2.2 dX11_settle_377
      · refine W.eq (g2 := F0 m 71 ls [.ref (ad 5)]) (by rw [hk9]) ?_
        have hc9 : 0 ≤ z_4.toInt ∧ z_4.toInt < x1.toInt := by
          have h := (hok _ (in24 (x := x1) (by omega)).1).2.1 (by rw [hk9]; decide)
          have h2 := (in24 (x := x1) (by omega)).2
          rw [ez_4]
          omega
        have hd9 : 0 ≤ (f4 (x1.toNatClampNeg)).toInt ∧ (f4 (x1.toNatClampNeg)).toInt < x1.toInt := by
          have h := (hok _ (in24 (x := x1) (by omega)).1).2.2.1 (by rw [hk9]; decide)
          have h2 := (in24 (x := x1) (by omega)).2
          omega
        refine lv_astore (lv' := [(6, .ref (ad 5)), (5, .int z_4), (4, .int z_1), (0, .ref h0), (1, .int x1), (2, .int x2), (3, .int x3)]) hx hb dX11_settle_71 hl (by decide +kernel) rfl (fun ls hl => ?_)
        refine va_gets (v := .ref (av 13)) hx hb hV.2.2.2.2.1 hS hown (hts (.fieldLink RX11 58 "ClauseBook$1" "$SwitchMap$ClauseBook$Kind" "[I") (List.mem_of_getElem? (i := 7) rfl)) (fun _ h9 => h9) dX11_settle_73 ?_
        refine lv_aload hx hb dX11_settle_76 (lv_at hl 0 rfl) ?_
        refine vp_callSi (va_Run.run (va_runU (As := []) (rest := [.ref (av 13)]) ⟨hx, hb, hml, hown, hts⟩ (c_Jx29ce0_ordinal_8abf5 l D T ad sa av ta 5 (by decide +kernel)) (va_cwU 0 hts gX11_settle_Jx29ce0_ordinal_8abf5_u63X7 rfl rfl rfl rfl (by decide +kernel) ⟨(show _ ≤ (2 * (d + 1) + 6 : Nat) from by (try dsimp only); omega), (show _ ≤ (64 * (d + 1) + 250 : Nat) from by (try dsimp only); omega)⟩) (pRk_VE (i := 5) (by decide +kernel) hP hE hV hS [] rfl) rfl rfl hl.1 rfl (lv_room (Nat.le_of_ble_eq_true rfl)) dX11_settle_78 ⟨Nat.le_of_ble_eq_true rfl, Nat.le_of_ble_eq_true rfl⟩)) (fun r_55 hr_55 => ?_)
        obtain rfl : (odT 5) = r_55 := (hr_55).symm
        refine va_ti (v := .int (swT 5)) hx hb hV.2.2.2.2.2.1 hS (odT_in (by decide +kernel)) (congrArg (fun z => Value.int (swT z)) (odT_at (by decide +kernel))) dX11_settle_81 ?_
        refine lv_topi (fun z_56 ez_56 => ?_)
        obtain rfl : z_56 = 6 := ez_56.trans (by decide +kernel)
        refine lv_tableIn (off := 145) (tgt := 227) hx hb dX11_settle_82 (by decide +kernel) (by decide +kernel) (by decide +kernel) (by decide +kernel) ?_
        refine lv_aload_n hx hb dX11_settle_227 rfl (lv_at hl 3 rfl) ?_
        refine lv_iload hx hb dX11_settle_228 (lv_at hl 2 rfl) ?_
        refine lv_aload_n hx hb dX11_settle_230 rfl (lv_at hl 3 rfl) ?_
        refine lv_iload hx hb dX11_settle_231 (lv_at hl 1 rfl) ?_
        refine lv_iload_n hx hb dX11_settle_233 rfl (lv_at hl 5 rfl) ?_
        refine lv_iload_n hx hb dX11_settle_234 rfl (lv_at hl 6 rfl) ?_
        have hFc := va_free (wc := [(h0, .inr (8, [.ref la, .ref cl, .ref p0, .ref p1, .ref p4, .int n])), (la, .inr (5, [.int (l9 0), .int (l9 1), .int (l9 2), .int (l9 3), .int (l9 4), .int (l9 5), .int (l9 6)])), (cl, .inr (1, [.int n0, .ref c1, .ref c2, .ref c3, .ref c4, .ref c5, .ref c6, .ref c7])), (c1, .inl (T 0, 24, .inl f1)), (c2, .inl (T 0, 24, .inl f2)), (c3, .inl (T 0, 24, .inl f3)), (c4, .inl (T 0, 24, .inl f4)), (c5, .inl (T 0, 24, .inl f5)), (p0, .inl (T 1, 676, .inr (.inl g0))), (p1, .inl (T 1, 676, .inr (.inl g1))), (p4, .inl (T 0, 672, .inl g4))]) hD hS hA [0, 1, 2, 3, 4, 5, 6, 7, 8, 9, 10] rfl
        refine va_calli (va_runV (As := [.int z_4, .int x2, .int x3]) (rest := [.int z_1, .ref h0]) ⟨hx, hb, hml, hown, hts⟩ (hrec _ h0 la cl p0 p1 p4 n l9 n0 c1 c2 c3 c4 c5 c6 c7 f1 f2 f3 f4 f5 g0 g1 g4 z_4 x2 x3 (by omega) (by omega) (by omega) hok (by omega) hmm hlq (by omega)) (cwV 3 hts gX11_settle_X11_settle rfl rfl rfl hv_X11_settle ⟨(show _ ≤ (2 * (d + 1) + 6 : Nat) from by (try dsimp only); omega), (show _ ≤ (64 * (d + 1) + 250 : Nat) from by (try dsimp only); omega)⟩) (pWk_V (q := (RX11, TX11, 6)) (ci := 8) (q0 := 0) hP hE hD hV hS hFc rfl rfl [0, 1, 2, 3, 4, 5, 6, 7, 8, 9, 10] (by decide +kernel) rfl rfl) rfl rfl hl.1 rfl (lv_room (Nat.le_of_ble_eq_true rfl)) dX11_settle_235 ⟨Nat.le_of_ble_eq_true rfl, Nat.le_of_ble_eq_true rfl⟩) hS (fun q _ h => hFc q h) hFc (fun r_57 u_58 t H1 locs ht hvm hr_57 hB hz1 hk1 hS => ?_)
        obtain ⟨f_59, f_60, f_61⟩ := u_58
        obtain ⟨hqr_57, hsl_r_57, hfo_r_57, hstr_57⟩ := hr_57
        have hqr_57 : 0 ≤ r_57.toInt ∧ r_57.toInt < 672 := hqr_57
        have hsl_r_57 : r_57.toNatClampNeg = slN z_4 x2 x3 := hsl_r_57
        have hfo_r_57 : f_61 (slN z_4 x2 x3) = n := hfo_r_57
        have hsr_57 : stW (VALW l9 f1 f2 f3 f4 f5) n0 n (rgW z_4 x2) g0 g1 g4 f_59 f_60 f_61 := hstr_57
        have hg9 : z_1.toNatClampNeg < 672 → f_61 (z_1.toNatClampNeg) = g4 (z_1.toNatClampNeg) := fun h9 => (hsr_57.2.2.2 _ h9 (nrg_c (by omega) hsl)).2.2
        have hnf : z_1.toNatClampNeg < 672 → f_61 (z_1.toNatClampNeg) ≠ n := fun h9 => by rw [hg9 h9]; exact hnf h9
        have hst : stW (VALW l9 f1 f2 f3 f4 f5) n0 n (rgW x1 x2) g0 g1 g4 f_59 f_60 f_61 := hst.tr hsr_57 (fun j9 h9 => rg_c (by omega) h9)
        have hmm : memW (VALW l9 f1 f2 f3 f4 f5) n0 n f_59 f_60 f_61 := hst.1
        have hv_r_57 : (f_59 (r_57.toNatClampNeg), f_60 (r_57.toNatClampNeg)) = (VALW l9 f1 f2 f3 f4 f5) z_4 x2 x3 := hst.val (by omega) (by omega) (by first | (rw [ti_0]; omega) | omega) hsl_r_57 hfo_r_57
        have hb_r_57 : 0 ≤ (f_60 (r_57.toNatClampNeg)).toInt := val_nn (VAL_low hlq.1 hlq.2 31 _ _ _) hv_r_57
        obtain ⟨hP1, hD1⟩ := hB
        rw [ht] at hP1
        obtain ⟨hP, hD⟩ := va_repl [(h0, .inr (8, [.ref la, .ref cl, .ref p0, .ref p1, .ref p4, .int n])), (la, .inr (5, [.int (l9 0), .int (l9 1), .int (l9 2), .int (l9 3), .int (l9 4), .int (l9 5), .int (l9 6)])), (cl, .inr (1, [.int n0, .ref c1, .ref c2, .ref c3, .ref c4, .ref c5, .ref c6, .ref c7])), (c1, .inl (T 0, 24, .inl f1)), (c2, .inl (T 0, 24, .inl f2)), (c3, .inl (T 0, 24, .inl f3)), (c4, .inl (T 0, 24, .inl f4)), (c5, .inl (T 0, 24, .inl f5)), (p0, .inl (T 1, 676, .inr (.inl f_59))), (p1, .inl (T 1, 676, .inr (.inl f_60))), (p4, .inl (T 0, 672, .inl f_61))] hP hD [0, 1, 2, 3, 4, 5, 6, 7, 8, 9, 10] [0, 1, 2, 3, 4, 5, 6, 7, 8, 9, 10] rfl (by decide +kernel) rfl rfl rfl hk1 hP1
        clear hP1 hD1 hFc
        generalize H1 = H at hP hS ⊢
        refine lv_aload_n hx hb dX11_settle_238 rfl (lv_at hl 3 rfl) ?_
        refine lv_aload_n hx hb dX11_settle_239 rfl (lv_at hl 3 rfl) ?_
        refine va_get (D := D) (ci := 8) (v := .ref cl) (C := RX11) (T := TX11) (N := 6) hx hb hts in_X11_settle_X11 hown hE.1 hP 0 rfl rfl 1 (by decide +kernel) (hts (.fieldLink RX11 30 "ClauseBook$Worth" "clauses" "LClauseBook$Clauses;") (List.mem_of_getElem? (i := 3) rfl)) (fun _ h9 => h9) rfl dX11_settle_240 ?_
        refine va_get (D := D) (ci := 1) (v := .ref c4) (C := RX2) (T := TX2) (N := 8) hx hb hts in_X11_settle_X2 hown hE.1 hP 2 rfl rfl 4 (by decide +kernel) (hts (.fieldLink RX11 90 "ClauseBook$Clauses" "d" "[I") (List.mem_of_getElem? (i := 11) rfl)) (fun _ h9 => h9) rfl dX11_settle_243 ?_
        refine lv_iload_n hx hb dX11_settle_246 rfl (lv_at hl 4 rfl) ?_
        refine va_iald hx hb hE.1 hP 6 0 rfl rfl (by rw [vp_in_iff]; first | omega | (subst_vars; omega)) dX11_settle_247 ?_
        refine lv_topi (fun z_62 ez_62 => ?_)
        have hzz_62 : 0 ≤ z_62.toInt ∧ z_62.toInt < x1.toInt := by rw [ez_62]; exact hd9
        refine lv_iload_n hx hb dX11_settle_248 rfl (lv_at hl 5 rfl) ?_
        refine lv_iload_n hx hb dX11_settle_249 rfl (lv_at hl 6 rfl) ?_
        have hFc := va_free (wc := [(h0, .inr (8, [.ref la, .ref cl, .ref p0, .ref p1, .ref p4, .int n])), (la, .inr (5, [.int (l9 0), .int (l9 1), .int (l9 2), .int (l9 3), .int (l9 4), .int (l9 5), .int (l9 6)])), (cl, .inr (1, [.int n0, .ref c1, .ref c2, .ref c3, .ref c4, .ref c5, .ref c6, .ref c7])), (c1, .inl (T 0, 24, .inl f1)), (c2, .inl (T 0, 24, .inl f2)), (c3, .inl (T 0, 24, .inl f3)), (c4, .inl (T 0, 24, .inl f4)), (c5, .inl (T 0, 24, .inl f5)), (p0, .inl (T 1, 676, .inr (.inl f_59))), (p1, .inl (T 1, 676, .inr (.inl f_60))), (p4, .inl (T 0, 672, .inl f_61))]) hD hS hA [0, 1, 2, 3, 4, 5, 6, 7, 8, 9, 10] rfl
        refine va_calli (va_runV (As := [.int z_62, .int x2, .int x3]) (rest := [.int r_57, .int z_1, .ref h0]) ⟨hx, hb, hml, hown, hts⟩ (hrec _ h0 la cl p0 p1 p4 n l9 n0 c1 c2 c3 c4 c5 c6 c7 f1 f2 f3 f4 f5 f_59 f_60 f_61 z_62 x2 x3 (by omega) (by omega) (by omega) hok (by omega) hmm hlq (by omega)) (cwV 3 hts gX11_settle_X11_settle rfl rfl rfl hv_X11_settle ⟨(show _ ≤ (2 * (d + 1) + 6 : Nat) from by (try dsimp only); omega), (show _ ≤ (64 * (d + 1) + 250 : Nat) from by (try dsimp only); omega)⟩) (pWk_V (q := (RX11, TX11, 6)) (ci := 8) (q0 := 0) hP hE hD hV hS hFc rfl rfl [0, 1, 2, 3, 4, 5, 6, 7, 8, 9, 10] (by decide +kernel) rfl rfl) rfl rfl hl.1 rfl (lv_room (Nat.le_of_ble_eq_true rfl)) dX11_settle_250 ⟨Nat.le_of_ble_eq_true rfl, Nat.le_of_ble_eq_true rfl⟩) hS (fun q _ h => hFc q h) hFc (fun r_63 u_64 t H1 locs ht hvm hr_63 hB hz1 hk1 hS => ?_)
        obtain ⟨f_65, f_66, f_67⟩ := u_64
        obtain ⟨hqr_63, hsl_r_63, hfo_r_63, hstr_63⟩ := hr_63
        have hqr_63 : 0 ≤ r_63.toInt ∧ r_63.toInt < 672 := hqr_63
        have hsl_r_63 : r_63.toNatClampNeg = slN z_62 x2 x3 := hsl_r_63
        have hfo_r_63 : f_67 (slN z_62 x2 x3) = n := hfo_r_63
        have hsr_63 : stW (VALW l9 f1 f2 f3 f4 f5) n0 n (rgW z_62 x2) f_59 f_60 f_61 f_65 f_66 f_67 := hstr_63
        have hg9 : z_1.toNatClampNeg < 672 → f_67 (z_1.toNatClampNeg) = f_61 (z_1.toNatClampNeg) := fun h9 => (hsr_63.2.2.2 _ h9 (nrg_c (by omega) hsl)).2.2
        have hnf : z_1.toNatClampNeg < 672 → f_67 (z_1.toNatClampNeg) ≠ n := fun h9 => by rw [hg9 h9]; exact hnf h9
        have hst : stW (VALW l9 f1 f2 f3 f4 f5) n0 n (rgW x1 x2) g0 g1 g4 f_65 f_66 f_67 := hst.tr hsr_63 (fun j9 h9 => rg_c (by omega) h9)
        have hmm : memW (VALW l9 f1 f2 f3 f4 f5) n0 n f_65 f_66 f_67 := hst.1
        have hfo_r_57 : f_67 (slN z_4 x2 x3) = n := hsr_63.2.1 _ (slN_lt (by omega) (by omega) (by omega)) hfo_r_57
        have hv_r_57 : (f_65 (r_57.toNatClampNeg), f_66 (r_57.toNatClampNeg)) = (VALW l9 f1 f2 f3 f4 f5) z_4 x2 x3 := hst.val (by omega) (by omega) (by omega) hsl_r_57 hfo_r_57
        have hb_r_57 : 0 ≤ (f_66 (r_57.toNatClampNeg)).toInt := val_nn (VAL_low hlq.1 hlq.2 31 _ _ _) hv_r_57
        have hv_r_63 : (f_65 (r_63.toNatClampNeg), f_66 (r_63.toNatClampNeg)) = (VALW l9 f1 f2 f3 f4 f5) z_62 x2 x3 := hst.val (by omega) (by omega) (by first | (rw [ti_0]; omega) | omega) hsl_r_63 hfo_r_63
        have hb_r_63 : 0 ≤ (f_66 (r_63.toNatClampNeg)).toInt := val_nn (VAL_low hlq.1 hlq.2 31 _ _ _) hv_r_63
        obtain ⟨hP1, hD1⟩ := hB
        rw [ht] at hP1
        obtain ⟨hP, hD⟩ := va_repl [(h0, .inr (8, [.ref la, .ref cl, .ref p0, .ref p1, .ref p4, .int n])), (la, .inr (5, [.int (l9 0), .int (l9 1), .int (l9 2), .int (l9 3), .int (l9 4), .int (l9 5), .int (l9 6)])), (cl, .inr (1, [.int n0, .ref c1, .ref c2, .ref c3, .ref c4, .ref c5, .ref c6, .ref c7])), (c1, .inl (T 0, 24, .inl f1)), (c2, .inl (T 0, 24, .inl f2)), (c3, .inl (T 0, 24, .inl f3)), (c4, .inl (T 0, 24, .inl f4)), (c5, .inl (T 0, 24, .inl f5)), (p0, .inl (T 1, 676, .inr (.inl f_65))), (p1, .inl (T 1, 676, .inr (.inl f_66))), (p4, .inl (T 0, 672, .inl f_67))] hP hD [0, 1, 2, 3, 4, 5, 6, 7, 8, 9, 10] [0, 1, 2, 3, 4, 5, 6, 7, 8, 9, 10] rfl (by decide +kernel) rfl rfl rfl hk1 hP1
        clear hP1 hD1 hFc
        generalize H1 = H at hP hS ⊢
        have hFc := va_free (wc := [(h0, .inr (8, [.ref la, .ref cl, .ref p0, .ref p1, .ref p4, .int n])), (p0, .inl (T 1, 676, .inr (.inl f_65))), (p1, .inl (T 1, 676, .inr (.inl f_66)))]) hD hS hA [0, 8, 9] rfl
        refine va_callv (va_runV (As := [.int z_1, .int r_57, .int r_63]) (rest := []) ⟨hx, hb, hml, hown, hts⟩ (c_X11_plus l D T _ h0 p0 p1 (.ref la) (.ref cl) (.ref p4) n f_65 f_66 z_1 r_57 r_63 (by first | decide | omega) (by first | decide | omega) (by first | decide | omega) (by first | omega | assumption | decide) (by first | omega | assumption | decide)) (cwV 3 hts gX11_settle_X11_plus rfl rfl rfl hv_X11_plus ⟨(show _ ≤ (2 * (d + 1) + 6 : Nat) from by (try dsimp only); omega), (show _ ≤ (64 * (d + 1) + 250 : Nat) from by (try dsimp only); omega)⟩) (pW_V (q := (RX11, TX11, 6)) (ci := 8) (q0 := 0) hP hE hD rfl rfl [0, 8, 9] (by decide +kernel) rfl rfl) rfl rfl hl.1 rfl (lv_room (Nat.le_of_ble_eq_true rfl)) dX11_settle_253 ⟨Nat.le_of_ble_eq_true rfl, Nat.le_of_ble_eq_true rfl⟩) hS (fun q _ h => hFc q h) hFc (fun u_69 t H1 locs ht hvm hr_68 hB hz1 hk1 hS => ?_)
        obtain ⟨f_70, f_71⟩ := u_69
        have hrd1 : f_70 = vp_updL f_65 (z_1.toNatClampNeg) (addW ((f_65 (r_57.toNatClampNeg)), (f_66 (r_57.toNatClampNeg))) ((f_65 (r_63.toNatClampNeg)), (f_66 (r_63.toNatClampNeg)))).1 := hr_68.1
        have hrd2 : f_71 = vp_updL f_66 (z_1.toNatClampNeg) (addW ((f_65 (r_57.toNatClampNeg)), (f_66 (r_57.toNatClampNeg))) ((f_65 (r_63.toNatClampNeg)), (f_66 (r_63.toNatClampNeg)))).2 := hr_68.2
        have hnw9 : (f_70 (z_1.toNatClampNeg), f_71 (z_1.toNatClampNeg)) = addW ((VALW l9 f1 f2 f3 f4 f5) z_4 x2 x3) ((VALW l9 f1 f2 f3 f4 f5) z_62 x2 x3) := by rw [put_at (q := addW ((f_65 (r_57.toNatClampNeg)), (f_66 (r_57.toNatClampNeg))) ((f_65 (r_63.toNatClampNeg)), (f_66 (r_63.toNatClampNeg)))) hrd1 hrd2, hv_r_57, hv_r_63]
        have hp_z_1 := hnw9
        have hst : stW (VALW l9 f1 f2 f3 f4 f5) n0 n (rgW x1 x2) g0 g1 g4 f_70 f_71 f_67 := by rw [hrd1, hrd2]; exact hst.put (fun h9 => ⟨rg_self (by omega) (by omega) (by omega) hsl, hnf h9⟩)
        have hmm : memW (VALW l9 f1 f2 f3 f4 f5) n0 n f_70 f_71 f_67 := hst.1
        have hv_r_57 : (f_70 (r_57.toNatClampNeg), f_71 (r_57.toNatClampNeg)) = (VALW l9 f1 f2 f3 f4 f5) z_4 x2 x3 := hst.val (by omega) (by omega) (by omega) hsl_r_57 hfo_r_57
        have hb_r_57 : 0 ≤ (f_71 (r_57.toNatClampNeg)).toInt := val_nn (VAL_low hlq.1 hlq.2 31 _ _ _) hv_r_57
        have hv_r_63 : (f_70 (r_63.toNatClampNeg), f_71 (r_63.toNatClampNeg)) = (VALW l9 f1 f2 f3 f4 f5) z_62 x2 x3 := hst.val (by omega) (by omega) (by omega) hsl_r_63 hfo_r_63
        have hb_r_63 : 0 ≤ (f_71 (r_63.toNatClampNeg)).toInt := val_nn (VAL_low hlq.1 hlq.2 31 _ _ _) hv_r_63
        obtain ⟨hP1, hD1⟩ := hB
        rw [ht] at hP1
        obtain ⟨hP, hD⟩ := va_repl [(h0, .inr (8, [.ref la, .ref cl, .ref p0, .ref p1, .ref p4, .int n])), (la, .inr (5, [.int (l9 0), .int (l9 1), .int (l9 2), .int (l9 3), .int (l9 4), .int (l9 5), .int (l9 6)])), (cl, .inr (1, [.int n0, .ref c1, .ref c2, .ref c3, .ref c4, .ref c5, .ref c6, .ref c7])), (c1, .inl (T 0, 24, .inl f1)), (c2, .inl (T 0, 24, .inl f2)), (c3, .inl (T 0, 24, .inl f3)), (c4, .inl (T 0, 24, .inl f4)), (c5, .inl (T 0, 24, .inl f5)), (p0, .inl (T 1, 676, .inr (.inl f_70))), (p1, .inl (T 1, 676, .inr (.inl f_71))), (p4, .inl (T 0, 672, .inl f_67))] hP hD [0, 8, 9] [0, 8, 9] rfl (by decide +kernel) rfl rfl rfl hk1 hP1
        clear hP1 hD1 hFc
        generalize H1 = H at hP hS ⊢
        refine lv_goto (tgt := 364) hx hb dX11_settle_256 (by decide +kernel) ?_
        refine lv_aload_n hx hb dX11_settle_364 rfl (lv_at hl 3 rfl) ?_
        refine va_get (D := D) (ci := 8) (v := .ref p4) (C := RX11) (T := TX11) (N := 6) hx hb hts in_X11_settle_X11 hown hE.1 hP 0 rfl rfl 4 (by decide +kernel) (hts (.fieldLink RX11 18 "ClauseBook$Worth" "foundAt" "[I") (List.mem_of_getElem? (i := 1) rfl)) (fun _ h9 => h9) rfl dX11_settle_365 ?_
        refine lv_iload hx hb dX11_settle_368 (lv_at hl 2 rfl) ?_
        refine lv_aload_n hx hb dX11_settle_370 rfl (lv_at hl 3 rfl) ?_
        refine va_get (D := D) (ci := 8) (v := .int n) (C := RX11) (T := TX11) (N := 6) hx hb hts in_X11_settle_X11 hown hE.1 hP 0 rfl rfl 5 (by decide +kernel) (hts (.fieldLink RX11 22 "ClauseBook$Worth" "age" "I") (List.mem_of_getElem? (i := 2) rfl)) (fun _ h9 => h9) rfl dX11_settle_371 ?_
        refine va_iast hx hb hE.1 hP hD hS 10 0 rfl rfl (by rw [vp_in_iff]; first | omega | (subst_vars; omega)) dX11_settle_374 (fun H locs hP hD hS => ?_)
        obtain ⟨hP, hD⟩ := wPD [(h0, .inr (8, [.ref la, .ref cl, .ref p0, .ref p1, .ref p4, .int n])), (la, .inr (5, [.int (l9 0), .int (l9 1), .int (l9 2), .int (l9 3), .int (l9 4), .int (l9 5), .int (l9 6)])), (cl, .inr (1, [.int n0, .ref c1, .ref c2, .ref c3, .ref c4, .ref c5, .ref c6, .ref c7])), (c1, .inl (T 0, 24, .inl f1)), (c2, .inl (T 0, 24, .inl f2)), (c3, .inl (T 0, 24, .inl f3)), (c4, .inl (T 0, 24, .inl f4)), (c5, .inl (T 0, 24, .inl f5)), (p0, .inl (T 1, 676, .inr (.inl f_70))), (p1, .inl (T 1, 676, .inr (.inl f_71))), (p4, .inl (T 0, 672, .inl (upd f_67 (z_1.toNatClampNeg) n)))] hP hD rfl
        refine lv_iload hx hb dX11_settle_375 (lv_at hl 2 rfl) ?_
        exact W.iret hx hb hr (fun t ht hW => ⟨⟨_, (f_70, f_71, (upd f_67 (z_1.toNatClampNeg) n)), rfl, ⟨hsb, hsl, (by rw [← hsl]; exact upd_at), hst.mark (by omega) (by omega) (by omega) (by omega) hsl (rg_self (by omega) (by omega) (by omega) hsl) (by rw [hp_z_1, VAL_step (l := l9) (fn := f2) (x := x1) (t := x2) (k := x3) hok (by omega) (by omega), sw_5 (l := l9) (fk := f1) (fn := f2) (fc := f3) (fd := f4) (fe := f5) (V := (VALW l9 f1 f2 f3 f4 f5)) (x := x1) (t := x2) (k := x3) (show ¬ (f5 (x1.toNatClampNeg)).toInt < x2.toInt from by omega) hk9, ← ez_4, ← ez_62])⟩, by rw [ht]; exact hP.sub [0, 1, 2, 3, 4, 5, 6, 7, 8, 9, 10] rfl, hD.sub [0, 1, 2, 3, 4, 5, 6, 7, 8, 9, 10] (by decide +kernel) rfl⟩, hS.F ht⟩) hS.2.2 dX11_settle_377
      · refine W.eq (g2 := F0 m 71 ls [.ref (ad 6)]) (by rw [hk9]) ?_
        have hc9 : 0 ≤ z_4.toInt ∧ z_4.toInt < x1.toInt := by
          have h := (hok _ (in24 (x := x1) (by omega)).1).2.1 (by rw [hk9]; decide)
          have h2 := (in24 (x := x1) (by omega)).2
          rw [ez_4]
          omega
        have hd9 : 0 ≤ (f4 (x1.toNatClampNeg)).toInt ∧ (f4 (x1.toNatClampNeg)).toInt < x1.toInt := by
          have h := (hok _ (in24 (x := x1) (by omega)).1).2.2.1 (by rw [hk9]; decide)
          have h2 := (in24 (x := x1) (by omega)).2
          omega
        refine lv_astore (lv' := [(6, .ref (ad 6)), (5, .int z_4), (4, .int z_1), (0, .ref h0), (1, .int x1), (2, .int x2), (3, .int x3)]) hx hb dX11_settle_71 hl (by decide +kernel) rfl (fun ls hl => ?_)
        refine va_gets (v := .ref (av 13)) hx hb hV.2.2.2.2.1 hS hown (hts (.fieldLink RX11 58 "ClauseBook$1" "$SwitchMap$ClauseBook$Kind" "[I") (List.mem_of_getElem? (i := 7) rfl)) (fun _ h9 => h9) dX11_settle_73 ?_
        refine lv_aload hx hb dX11_settle_76 (lv_at hl 0 rfl) ?_
        refine vp_callSi (va_Run.run (va_runU (As := []) (rest := [.ref (av 13)]) ⟨hx, hb, hml, hown, hts⟩ (c_Jx29ce0_ordinal_8abf5 l D T ad sa av ta 6 (by decide +kernel)) (va_cwU 0 hts gX11_settle_Jx29ce0_ordinal_8abf5_u63X7 rfl rfl rfl rfl (by decide +kernel) ⟨(show _ ≤ (2 * (d + 1) + 6 : Nat) from by (try dsimp only); omega), (show _ ≤ (64 * (d + 1) + 250 : Nat) from by (try dsimp only); omega)⟩) (pRk_VE (i := 6) (by decide +kernel) hP hE hV hS [] rfl) rfl rfl hl.1 rfl (lv_room (Nat.le_of_ble_eq_true rfl)) dX11_settle_78 ⟨Nat.le_of_ble_eq_true rfl, Nat.le_of_ble_eq_true rfl⟩)) (fun r_72 hr_72 => ?_)
        obtain rfl : (odT 6) = r_72 := (hr_72).symm
        refine va_ti (v := .int (swT 6)) hx hb hV.2.2.2.2.2.1 hS (odT_in (by decide +kernel)) (congrArg (fun z => Value.int (swT z)) (odT_at (by decide +kernel))) dX11_settle_81 ?_
        refine lv_topi (fun z_73 ez_73 => ?_)
        obtain rfl : z_73 = 0 := ez_73.trans (by decide +kernel)
        refine lv_tableOut (tgt := 323) hx hb dX11_settle_82 (by decide +kernel) (by decide +kernel) ?_
        refine lv_aload_n hx hb dX11_settle_323 rfl (lv_at hl 3 rfl) ?_
        refine lv_iload_n hx hb dX11_settle_324 rfl (lv_at hl 4 rfl) ?_
        refine lv_iload_n hx hb dX11_settle_325 rfl (lv_at hl 5 rfl) ?_
        refine lv_iload_n hx hb dX11_settle_326 rfl (lv_at hl 6 rfl) ?_
        have hFc := va_free (wc := [(h0, .inr (8, [.ref la, .ref cl, .ref p0, .ref p1, .ref p4, .int n])), (la, .inr (5, [.int (l9 0), .int (l9 1), .int (l9 2), .int (l9 3), .int (l9 4), .int (l9 5), .int (l9 6)])), (cl, .inr (1, [.int n0, .ref c1, .ref c2, .ref c3, .ref c4, .ref c5, .ref c6, .ref c7])), (c1, .inl (T 0, 24, .inl f1)), (c2, .inl (T 0, 24, .inl f2)), (c3, .inl (T 0, 24, .inl f3)), (c4, .inl (T 0, 24, .inl f4)), (c5, .inl (T 0, 24, .inl f5)), (p0, .inl (T 1, 676, .inr (.inl g0))), (p1, .inl (T 1, 676, .inr (.inl g1))), (p4, .inl (T 0, 672, .inl g4))]) hD hS hA [0, 1, 2, 3, 4, 5, 6, 7, 8, 9, 10] rfl
        refine va_calli (va_runV (As := [.int x1, .int x2, .int x3]) (rest := []) ⟨hx, hb, hml, hown, hts⟩ (s_X11_picked l D T ad sa av ta _ h0 la cl p0 p1 p4 n l9 n0 c1 c2 c3 c4 c5 c6 c7 f1 f2 f3 f4 f5 g0 g1 g4 d x1 x2 x3 (by omega) (by omega) (by omega) hok (by omega) hmm hlq (by omega) (by omega) hrec) (cwV 3 hts gX11_settle_X11_picked rfl rfl rfl hv_X11_picked ⟨(show _ ≤ (2 * (d + 1) + 6 : Nat) from by (try dsimp only); omega), (show _ ≤ (64 * (d + 1) + 250 : Nat) from by (try dsimp only); omega)⟩) (pWk_V (q := (RX11, TX11, 6)) (ci := 8) (q0 := 0) hP hE hD hV hS hFc rfl rfl [0, 1, 2, 3, 4, 5, 6, 7, 8, 9, 10] (by decide +kernel) rfl rfl) rfl rfl hl.1 rfl (lv_room (Nat.le_of_ble_eq_true rfl)) dX11_settle_327 ⟨Nat.le_of_ble_eq_true rfl, Nat.le_of_ble_eq_true rfl⟩) hS (fun q _ h => hFc q h) hFc (fun r_74 u_75 t H1 locs ht hvm hr_74 hB hz1 hk1 hS => ?_)
        obtain ⟨f_76, f_77, f_78⟩ := u_75
        obtain ⟨hqr_74, hpk_r_74, hstr_74⟩ := hr_74
        have hqr_74 : r_74.toInt = -5 ∨ (0 ≤ r_74.toInt ∧ r_74.toInt < x1.toInt) := hqr_74
        have hpk_r_74 : r_74 = pickW l9 f1 f2 f3 f4 f5 (VALW l9 f1 f2 f3 f4 f5) x1 x2 x3 := hpk_r_74
        have hsr_74 : stW (VALW l9 f1 f2 f3 f4 f5) n0 n (rgP x1) g0 g1 g4 f_76 f_77 f_78 := hstr_74
        have hg9 : z_1.toNatClampNeg < 672 → f_78 (z_1.toNatClampNeg) = g4 (z_1.toNatClampNeg) := fun h9 => (hsr_74.2.2.2 _ h9 (nrg_p hsl)).2.2
        have hnf : z_1.toNatClampNeg < 672 → f_78 (z_1.toNatClampNeg) ≠ n := fun h9 => by rw [hg9 h9]; exact hnf h9
        have hst : stW (VALW l9 f1 f2 f3 f4 f5) n0 n (rgW x1 x2) g0 g1 g4 f_76 f_77 f_78 := hst.tr hsr_74 (fun j9 h9 => rg_p h9)
        have hmm : memW (VALW l9 f1 f2 f3 f4 f5) n0 n f_76 f_77 f_78 := hst.1
        obtain ⟨hP1, hD1⟩ := hB
        rw [ht] at hP1
        obtain ⟨hP, hD⟩ := va_repl [(h0, .inr (8, [.ref la, .ref cl, .ref p0, .ref p1, .ref p4, .int n])), (la, .inr (5, [.int (l9 0), .int (l9 1), .int (l9 2), .int (l9 3), .int (l9 4), .int (l9 5), .int (l9 6)])), (cl, .inr (1, [.int n0, .ref c1, .ref c2, .ref c3, .ref c4, .ref c5, .ref c6, .ref c7])), (c1, .inl (T 0, 24, .inl f1)), (c2, .inl (T 0, 24, .inl f2)), (c3, .inl (T 0, 24, .inl f3)), (c4, .inl (T 0, 24, .inl f4)), (c5, .inl (T 0, 24, .inl f5)), (p0, .inl (T 1, 676, .inr (.inl f_76))), (p1, .inl (T 1, 676, .inr (.inl f_77))), (p4, .inl (T 0, 672, .inl f_78))] hP hD [0, 1, 2, 3, 4, 5, 6, 7, 8, 9, 10] [0, 1, 2, 3, 4, 5, 6, 7, 8, 9, 10] rfl (by decide +kernel) rfl rfl rfl hk1 hP1
        clear hP1 hD1 hFc
        generalize H1 = H at hP hS ⊢
        refine lv_istore (lv' := [(7, .int r_74), (6, .ref (ad 6)), (5, .int z_4), (4, .int z_1), (0, .ref h0), (1, .int x1), (2, .int x2), (3, .int x3)]) hx hb dX11_settle_330 hl (by decide +kernel) rfl (fun ls hl => ?_)
        refine lv_iload hx hb dX11_settle_332 (lv_at hl 0 rfl) ?_
        refine lv_bipush (v := (-5)) hx hb dX11_settle_334 (by decide +kernel) ?_
        refine lv_icmp_ne (tgt := 350) hx hb dX11_settle_336 (by decide +kernel) (fun c_79 => ?_) (fun c_79 => ?_)
        · rw [fa_eq] at c_79
          try rw [ti_n5] at c_79
          refine lv_aload_n hx hb dX11_settle_350 rfl (lv_at hl 4 rfl) ?_
          refine lv_iload hx hb dX11_settle_351 (lv_at hl 3 rfl) ?_
          refine lv_aload_n hx hb dX11_settle_353 rfl (lv_at hl 4 rfl) ?_
          refine lv_iload hx hb dX11_settle_354 (lv_at hl 0 rfl) ?_
          refine lv_iload_n hx hb dX11_settle_356 rfl (lv_at hl 6 rfl) ?_
          refine lv_iload_n hx hb dX11_settle_357 rfl (lv_at hl 7 rfl) ?_
          have hFc := va_free (wc := [(h0, .inr (8, [.ref la, .ref cl, .ref p0, .ref p1, .ref p4, .int n])), (la, .inr (5, [.int (l9 0), .int (l9 1), .int (l9 2), .int (l9 3), .int (l9 4), .int (l9 5), .int (l9 6)])), (cl, .inr (1, [.int n0, .ref c1, .ref c2, .ref c3, .ref c4, .ref c5, .ref c6, .ref c7])), (c1, .inl (T 0, 24, .inl f1)), (c2, .inl (T 0, 24, .inl f2)), (c3, .inl (T 0, 24, .inl f3)), (c4, .inl (T 0, 24, .inl f4)), (c5, .inl (T 0, 24, .inl f5)), (p0, .inl (T 1, 676, .inr (.inl f_76))), (p1, .inl (T 1, 676, .inr (.inl f_77))), (p4, .inl (T 0, 672, .inl f_78))]) hD hS hA [0, 1, 2, 3, 4, 5, 6, 7, 8, 9, 10] rfl
          refine va_calli (va_runV (As := [.int r_74, .int x2, .int x3]) (rest := [.int z_1, .ref h0]) ⟨hx, hb, hml, hown, hts⟩ (hrec _ h0 la cl p0 p1 p4 n l9 n0 c1 c2 c3 c4 c5 c6 c7 f1 f2 f3 f4 f5 f_76 f_77 f_78 r_74 x2 x3 (by omega) (by omega) (by omega) hok (by omega) hmm hlq (by omega)) (cwV 3 hts gX11_settle_X11_settle rfl rfl rfl hv_X11_settle ⟨(show _ ≤ (2 * (d + 1) + 6 : Nat) from by (try dsimp only); omega), (show _ ≤ (64 * (d + 1) + 250 : Nat) from by (try dsimp only); omega)⟩) (pWk_V (q := (RX11, TX11, 6)) (ci := 8) (q0 := 0) hP hE hD hV hS hFc rfl rfl [0, 1, 2, 3, 4, 5, 6, 7, 8, 9, 10] (by decide +kernel) rfl rfl) rfl rfl hl.1 rfl (lv_room (Nat.le_of_ble_eq_true rfl)) dX11_settle_358 ⟨Nat.le_of_ble_eq_true rfl, Nat.le_of_ble_eq_true rfl⟩) hS (fun q _ h => hFc q h) hFc (fun r_80 u_81 t H1 locs ht hvm hr_80 hB hz1 hk1 hS => ?_)
          obtain ⟨f_82, f_83, f_84⟩ := u_81
          obtain ⟨hqr_80, hsl_r_80, hfo_r_80, hstr_80⟩ := hr_80
          have hqr_80 : 0 ≤ r_80.toInt ∧ r_80.toInt < 672 := hqr_80
          have hsl_r_80 : r_80.toNatClampNeg = slN r_74 x2 x3 := hsl_r_80
          have hfo_r_80 : f_84 (slN r_74 x2 x3) = n := hfo_r_80
          have hsr_80 : stW (VALW l9 f1 f2 f3 f4 f5) n0 n (rgW r_74 x2) f_76 f_77 f_78 f_82 f_83 f_84 := hstr_80
          have hg9 : z_1.toNatClampNeg < 672 → f_84 (z_1.toNatClampNeg) = f_78 (z_1.toNatClampNeg) := fun h9 => (hsr_80.2.2.2 _ h9 (nrg_c (by omega) hsl)).2.2
          have hnf : z_1.toNatClampNeg < 672 → f_84 (z_1.toNatClampNeg) ≠ n := fun h9 => by rw [hg9 h9]; exact hnf h9
          have hst : stW (VALW l9 f1 f2 f3 f4 f5) n0 n (rgW x1 x2) g0 g1 g4 f_82 f_83 f_84 := hst.tr hsr_80 (fun j9 h9 => rg_c (by omega) h9)
          have hmm : memW (VALW l9 f1 f2 f3 f4 f5) n0 n f_82 f_83 f_84 := hst.1
          have hv_r_80 : (f_82 (r_80.toNatClampNeg), f_83 (r_80.toNatClampNeg)) = (VALW l9 f1 f2 f3 f4 f5) r_74 x2 x3 := hst.val (by omega) (by omega) (by first | (rw [ti_0]; omega) | omega) hsl_r_80 hfo_r_80
          have hb_r_80 : 0 ≤ (f_83 (r_80.toNatClampNeg)).toInt := val_nn (VAL_low hlq.1 hlq.2 31 _ _ _) hv_r_80
          obtain ⟨hP1, hD1⟩ := hB
          rw [ht] at hP1
          obtain ⟨hP, hD⟩ := va_repl [(h0, .inr (8, [.ref la, .ref cl, .ref p0, .ref p1, .ref p4, .int n])), (la, .inr (5, [.int (l9 0), .int (l9 1), .int (l9 2), .int (l9 3), .int (l9 4), .int (l9 5), .int (l9 6)])), (cl, .inr (1, [.int n0, .ref c1, .ref c2, .ref c3, .ref c4, .ref c5, .ref c6, .ref c7])), (c1, .inl (T 0, 24, .inl f1)), (c2, .inl (T 0, 24, .inl f2)), (c3, .inl (T 0, 24, .inl f3)), (c4, .inl (T 0, 24, .inl f4)), (c5, .inl (T 0, 24, .inl f5)), (p0, .inl (T 1, 676, .inr (.inl f_82))), (p1, .inl (T 1, 676, .inr (.inl f_83))), (p4, .inl (T 0, 672, .inl f_84))] hP hD [0, 1, 2, 3, 4, 5, 6, 7, 8, 9, 10] [0, 1, 2, 3, 4, 5, 6, 7, 8, 9, 10] rfl (by decide +kernel) rfl rfl rfl hk1 hP1
          clear hP1 hD1 hFc
          generalize H1 = H at hP hS ⊢
          have hFc := va_free (wc := [(h0, .inr (8, [.ref la, .ref cl, .ref p0, .ref p1, .ref p4, .int n])), (p0, .inl (T 1, 676, .inr (.inl f_82))), (p1, .inl (T 1, 676, .inr (.inl f_83)))]) hD hS hA [0, 8, 9] rfl
          refine va_callv (va_runV (As := [.int z_1, .int r_80]) (rest := []) ⟨hx, hb, hml, hown, hts⟩ (c_X11_repeat l D T _ h0 p0 p1 (.ref la) (.ref cl) (.ref p4) n f_82 f_83 z_1 r_80 (by first | decide | omega) (by first | decide | omega)) (cwV 2 hts gX11_settle_X11_repeat rfl rfl rfl hv_X11_repeat ⟨(show _ ≤ (2 * (d + 1) + 6 : Nat) from by (try dsimp only); omega), (show _ ≤ (64 * (d + 1) + 250 : Nat) from by (try dsimp only); omega)⟩) (pW_V (q := (RX11, TX11, 6)) (ci := 8) (q0 := 0) hP hE hD rfl rfl [0, 8, 9] (by decide +kernel) rfl rfl) rfl rfl hl.1 rfl (lv_room (Nat.le_of_ble_eq_true rfl)) dX11_settle_361 ⟨Nat.le_of_ble_eq_true rfl, Nat.le_of_ble_eq_true rfl⟩) hS (fun q _ h => hFc q h) hFc (fun u_86 t H1 locs ht hvm hr_85 hB hz1 hk1 hS => ?_)
          obtain ⟨f_87, f_88⟩ := u_86
          have hrd1 : f_87 = vp_updL f_82 (z_1.toNatClampNeg) (((f_82 (r_80.toNatClampNeg)), (f_83 (r_80.toNatClampNeg)))).1 := hr_85.1
          have hrd2 : f_88 = vp_updL f_83 (z_1.toNatClampNeg) (((f_82 (r_80.toNatClampNeg)), (f_83 (r_80.toNatClampNeg)))).2 := hr_85.2
          have hnw9 : (f_87 (z_1.toNatClampNeg), f_88 (z_1.toNatClampNeg)) = ((VALW l9 f1 f2 f3 f4 f5) r_74 x2 x3) := by rw [put_at (q := ((f_82 (r_80.toNatClampNeg)), (f_83 (r_80.toNatClampNeg)))) hrd1 hrd2, hv_r_80]
          have hp_z_1 := hnw9
          have hst : stW (VALW l9 f1 f2 f3 f4 f5) n0 n (rgW x1 x2) g0 g1 g4 f_87 f_88 f_84 := by rw [hrd1, hrd2]; exact hst.put (fun h9 => ⟨rg_self (by omega) (by omega) (by omega) hsl, hnf h9⟩)
          have hmm : memW (VALW l9 f1 f2 f3 f4 f5) n0 n f_87 f_88 f_84 := hst.1
          have hv_r_80 : (f_87 (r_80.toNatClampNeg), f_88 (r_80.toNatClampNeg)) = (VALW l9 f1 f2 f3 f4 f5) r_74 x2 x3 := hst.val (by omega) (by omega) (by omega) hsl_r_80 hfo_r_80
          have hb_r_80 : 0 ≤ (f_88 (r_80.toNatClampNeg)).toInt := val_nn (VAL_low hlq.1 hlq.2 31 _ _ _) hv_r_80
          obtain ⟨hP1, hD1⟩ := hB
          rw [ht] at hP1
          obtain ⟨hP, hD⟩ := va_repl [(h0, .inr (8, [.ref la, .ref cl, .ref p0, .ref p1, .ref p4, .int n])), (la, .inr (5, [.int (l9 0), .int (l9 1), .int (l9 2), .int (l9 3), .int (l9 4), .int (l9 5), .int (l9 6)])), (cl, .inr (1, [.int n0, .ref c1, .ref c2, .ref c3, .ref c4, .ref c5, .ref c6, .ref c7])), (c1, .inl (T 0, 24, .inl f1)), (c2, .inl (T 0, 24, .inl f2)), (c3, .inl (T 0, 24, .inl f3)), (c4, .inl (T 0, 24, .inl f4)), (c5, .inl (T 0, 24, .inl f5)), (p0, .inl (T 1, 676, .inr (.inl f_87))), (p1, .inl (T 1, 676, .inr (.inl f_88))), (p4, .inl (T 0, 672, .inl f_84))] hP hD [0, 8, 9] [0, 8, 9] rfl (by decide +kernel) rfl rfl rfl hk1 hP1
          clear hP1 hD1 hFc
          generalize H1 = H at hP hS ⊢
          refine lv_aload_n hx hb dX11_settle_364 rfl (lv_at hl 4 rfl) ?_
          refine va_get (D := D) (ci := 8) (v := .ref p4) (C := RX11) (T := TX11) (N := 6) hx hb hts in_X11_settle_X11 hown hE.1 hP 0 rfl rfl 4 (by decide +kernel) (hts (.fieldLink RX11 18 "ClauseBook$Worth" "foundAt" "[I") (List.mem_of_getElem? (i := 1) rfl)) (fun _ h9 => h9) rfl dX11_settle_365 ?_
          refine lv_iload hx hb dX11_settle_368 (lv_at hl 3 rfl) ?_
          refine lv_aload_n hx hb dX11_settle_370 rfl (lv_at hl 4 rfl) ?_
          refine va_get (D := D) (ci := 8) (v := .int n) (C := RX11) (T := TX11) (N := 6) hx hb hts in_X11_settle_X11 hown hE.1 hP 0 rfl rfl 5 (by decide +kernel) (hts (.fieldLink RX11 22 "ClauseBook$Worth" "age" "I") (List.mem_of_getElem? (i := 2) rfl)) (fun _ h9 => h9) rfl dX11_settle_371 ?_
          refine va_iast hx hb hE.1 hP hD hS 10 0 rfl rfl (by rw [vp_in_iff]; first | omega | (subst_vars; omega)) dX11_settle_374 (fun H locs hP hD hS => ?_)
          obtain ⟨hP, hD⟩ := wPD [(h0, .inr (8, [.ref la, .ref cl, .ref p0, .ref p1, .ref p4, .int n])), (la, .inr (5, [.int (l9 0), .int (l9 1), .int (l9 2), .int (l9 3), .int (l9 4), .int (l9 5), .int (l9 6)])), (cl, .inr (1, [.int n0, .ref c1, .ref c2, .ref c3, .ref c4, .ref c5, .ref c6, .ref c7])), (c1, .inl (T 0, 24, .inl f1)), (c2, .inl (T 0, 24, .inl f2)), (c3, .inl (T 0, 24, .inl f3)), (c4, .inl (T 0, 24, .inl f4)), (c5, .inl (T 0, 24, .inl f5)), (p0, .inl (T 1, 676, .inr (.inl f_87))), (p1, .inl (T 1, 676, .inr (.inl f_88))), (p4, .inl (T 0, 672, .inl (upd f_84 (z_1.toNatClampNeg) n)))] hP hD rfl
          refine lv_iload hx hb dX11_settle_375 (lv_at hl 3 rfl) ?_
          exact W.iret hx hb hr (fun t ht hW => ⟨⟨_, (f_87, f_88, (upd f_84 (z_1.toNatClampNeg) n)), rfl, ⟨hsb, hsl, (by rw [← hsl]; exact upd_at), hst.mark (by omega) (by omega) (by omega) (by omega) hsl (rg_self (by omega) (by omega) (by omega) hsl) (by rw [hp_z_1, VAL_step (l := l9) (fn := f2) (x := x1) (t := x2) (k := x3) hok (by omega) (by omega), sw_p (l := l9) (fk := f1) (fn := f2) (fc := f3) (fd := f4) (fe := f5) (V := (VALW l9 f1 f2 f3 f4 f5)) (x := x1) (t := x2) (k := x3) (show ¬ (f5 (x1.toNatClampNeg)).toInt < x2.toInt from by omega) (by omega), if_neg (show ¬ pickW l9 f1 f2 f3 f4 f5 (VALW l9 f1 f2 f3 f4 f5) x1 x2 x3 = -5 from by rw [← hpk_r_74]; intro h9; have h7 : r_74.toInt = -5 := (by rw [h9]; decide); omega), ← hpk_r_74])⟩, by rw [ht]; exact hP.sub [0, 1, 2, 3, 4, 5, 6, 7, 8, 9, 10] rfl, hD.sub [0, 1, 2, 3, 4, 5, 6, 7, 8, 9, 10] (by decide +kernel) rfl⟩, hS.F ht⟩) hS.2.2 dX11_settle_377
        · rw [fa_eq] at c_79
          try rw [ti_n5] at c_79
          refine lv_aload_n hx hb dX11_settle_339 rfl (lv_at hl 4 rfl) ?_
          refine lv_iload hx hb dX11_settle_340 (lv_at hl 3 rfl) ?_
          refine lv_lconst (v := 0) hx hb dX11_settle_342 (by decide +kernel) ?_
          refine lv_lconst (v := 0) hx hb dX11_settle_343 (by decide +kernel) ?_
          have hFc := va_free (wc := [(h0, .inr (8, [.ref la, .ref cl, .ref p0, .ref p1, .ref p4, .int n])), (p0, .inl (T 1, 676, .inr (.inl f_76))), (p1, .inl (T 1, 676, .inr (.inl f_77)))]) hD hS hA [0, 8, 9] rfl
          refine va_callv (va_runV (As := [.int z_1, .long 0, .long 0]) (rest := []) ⟨hx, hb, hml, hown, hts⟩ (c_X11_assign l D T _ h0 p0 p1 (.ref la) (.ref cl) (.ref p4) n f_76 f_77 z_1 0 0 (by first | decide | omega)) (cwV 3 hts gX11_settle_X11_assign rfl rfl rfl hv_X11_assign ⟨(show _ ≤ (2 * (d + 1) + 6 : Nat) from by (try dsimp only); omega), (show _ ≤ (64 * (d + 1) + 250 : Nat) from by (try dsimp only); omega)⟩) (pW_V (q := (RX11, TX11, 6)) (ci := 8) (q0 := 0) hP hE hD rfl rfl [0, 8, 9] (by decide +kernel) rfl rfl) rfl rfl hl.1 rfl (lv_room (Nat.le_of_ble_eq_true rfl)) dX11_settle_344 ⟨Nat.le_of_ble_eq_true rfl, Nat.le_of_ble_eq_true rfl⟩) hS (fun q _ h => hFc q h) hFc (fun u_90 t H1 locs ht hvm hr_89 hB hz1 hk1 hS => ?_)
          obtain ⟨f_91, f_92⟩ := u_90
          have hrd1 : f_91 = vp_updL f_76 (z_1.toNatClampNeg) (((0 : Int64), (0 : Int64))).1 := hr_89.1
          have hrd2 : f_92 = vp_updL f_77 (z_1.toNatClampNeg) (((0 : Int64), (0 : Int64))).2 := hr_89.2
          have hnw9 : (f_91 (z_1.toNatClampNeg), f_92 (z_1.toNatClampNeg)) = ((0 : Int64), (0 : Int64)) := by rw [put_at (q := ((0 : Int64), (0 : Int64))) hrd1 hrd2]
          have hp_z_1 := hnw9
          have hst : stW (VALW l9 f1 f2 f3 f4 f5) n0 n (rgW x1 x2) g0 g1 g4 f_91 f_92 f_78 := by rw [hrd1, hrd2]; exact hst.put (fun h9 => ⟨rg_self (by omega) (by omega) (by omega) hsl, hnf h9⟩)
          have hmm : memW (VALW l9 f1 f2 f3 f4 f5) n0 n f_91 f_92 f_78 := hst.1
          obtain ⟨hP1, hD1⟩ := hB
          rw [ht] at hP1
          obtain ⟨hP, hD⟩ := va_repl [(h0, .inr (8, [.ref la, .ref cl, .ref p0, .ref p1, .ref p4, .int n])), (la, .inr (5, [.int (l9 0), .int (l9 1), .int (l9 2), .int (l9 3), .int (l9 4), .int (l9 5), .int (l9 6)])), (cl, .inr (1, [.int n0, .ref c1, .ref c2, .ref c3, .ref c4, .ref c5, .ref c6, .ref c7])), (c1, .inl (T 0, 24, .inl f1)), (c2, .inl (T 0, 24, .inl f2)), (c3, .inl (T 0, 24, .inl f3)), (c4, .inl (T 0, 24, .inl f4)), (c5, .inl (T 0, 24, .inl f5)), (p0, .inl (T 1, 676, .inr (.inl f_91))), (p1, .inl (T 1, 676, .inr (.inl f_92))), (p4, .inl (T 0, 672, .inl f_78))] hP hD [0, 8, 9] [0, 8, 9] rfl (by decide +kernel) rfl rfl rfl hk1 hP1
          clear hP1 hD1 hFc
          generalize H1 = H at hP hS ⊢
          refine lv_goto (tgt := 364) hx hb dX11_settle_347 (by decide +kernel) ?_
          refine lv_aload_n hx hb dX11_settle_364 rfl (lv_at hl 4 rfl) ?_
          refine va_get (D := D) (ci := 8) (v := .ref p4) (C := RX11) (T := TX11) (N := 6) hx hb hts in_X11_settle_X11 hown hE.1 hP 0 rfl rfl 4 (by decide +kernel) (hts (.fieldLink RX11 18 "ClauseBook$Worth" "foundAt" "[I") (List.mem_of_getElem? (i := 1) rfl)) (fun _ h9 => h9) rfl dX11_settle_365 ?_
          refine lv_iload hx hb dX11_settle_368 (lv_at hl 3 rfl) ?_
          refine lv_aload_n hx hb dX11_settle_370 rfl (lv_at hl 4 rfl) ?_
          refine va_get (D := D) (ci := 8) (v := .int n) (C := RX11) (T := TX11) (N := 6) hx hb hts in_X11_settle_X11 hown hE.1 hP 0 rfl rfl 5 (by decide +kernel) (hts (.fieldLink RX11 22 "ClauseBook$Worth" "age" "I") (List.mem_of_getElem? (i := 2) rfl)) (fun _ h9 => h9) rfl dX11_settle_371 ?_
          refine va_iast hx hb hE.1 hP hD hS 10 0 rfl rfl (by rw [vp_in_iff]; first | omega | (subst_vars; omega)) dX11_settle_374 (fun H locs hP hD hS => ?_)
          obtain ⟨hP, hD⟩ := wPD [(h0, .inr (8, [.ref la, .ref cl, .ref p0, .ref p1, .ref p4, .int n])), (la, .inr (5, [.int (l9 0), .int (l9 1), .int (l9 2), .int (l9 3), .int (l9 4), .int (l9 5), .int (l9 6)])), (cl, .inr (1, [.int n0, .ref c1, .ref c2, .ref c3, .ref c4, .ref c5, .ref c6, .ref c7])), (c1, .inl (T 0, 24, .inl f1)), (c2, .inl (T 0, 24, .inl f2)), (c3, .inl (T 0, 24, .inl f3)), (c4, .inl (T 0, 24, .inl f4)), (c5, .inl (T 0, 24, .inl f5)), (p0, .inl (T 1, 676, .inr (.inl f_91))), (p1, .inl (T 1, 676, .inr (.inl f_92))), (p4, .inl (T 0, 672, .inl (upd f_78 (z_1.toNatClampNeg) n)))] hP hD rfl
          refine lv_iload hx hb dX11_settle_375 (lv_at hl 3 rfl) ?_
          exact W.iret hx hb hr (fun t ht hW => ⟨⟨_, (f_91, f_92, (upd f_78 (z_1.toNatClampNeg) n)), rfl, ⟨hsb, hsl, (by rw [← hsl]; exact upd_at), hst.mark (by omega) (by omega) (by omega) (by omega) hsl (rg_self (by omega) (by omega) (by omega) hsl) (by rw [hp_z_1, VAL_step (l := l9) (fn := f2) (x := x1) (t := x2) (k := x3) hok (by omega) (by omega), sw_p (l := l9) (fk := f1) (fn := f2) (fc := f3) (fd := f4) (fe := f5) (V := (VALW l9 f1 f2 f3 f4 f5)) (x := x1) (t := x2) (k := x3) (show ¬ (f5 (x1.toNatClampNeg)).toInt < x2.toInt from by omega) (by omega), if_pos (show pickW l9 f1 f2 f3 f4 f5 (VALW l9 f1 f2 f3 f4 f5) x1 x2 x3 = -5 from by rw [← hpk_r_74]; exact Int32.toInt_inj.1 (by have h9 : (-5 : Int32).toInt = -5 := (by decide +kernel); omega))])⟩, by rw [ht]; exact hP.sub [0, 1, 2, 3, 4, 5, 6, 7, 8, 9, 10] rfl, hD.sub [0, 1, 2, 3, 4, 5, 6, 7, 8, 9, 10] (by decide +kernel) rfl⟩, hS.F ht⟩) hS.2.2 dX11_settle_377
      · refine W.eq (g2 := F0 m 71 ls [.ref (ad 7)]) (by rw [hk9]) ?_
        have hc9 : 0 ≤ z_4.toInt ∧ z_4.toInt < x1.toInt := by
          have h := (hok _ (in24 (x := x1) (by omega)).1).2.1 (by rw [hk9]; decide)
          have h2 := (in24 (x := x1) (by omega)).2
          rw [ez_4]
          omega
        have hd9 : 0 ≤ (f4 (x1.toNatClampNeg)).toInt ∧ (f4 (x1.toNatClampNeg)).toInt < x1.toInt := by
          have h := (hok _ (in24 (x := x1) (by omega)).1).2.2.1 (by rw [hk9]; decide)
          have h2 := (in24 (x := x1) (by omega)).2
          omega
        refine lv_astore (lv' := [(6, .ref (ad 7)), (5, .int z_4), (4, .int z_1), (0, .ref h0), (1, .int x1), (2, .int x2), (3, .int x3)]) hx hb dX11_settle_71 hl (by decide +kernel) rfl (fun ls hl => ?_)
        refine va_gets (v := .ref (av 13)) hx hb hV.2.2.2.2.1 hS hown (hts (.fieldLink RX11 58 "ClauseBook$1" "$SwitchMap$ClauseBook$Kind" "[I") (List.mem_of_getElem? (i := 7) rfl)) (fun _ h9 => h9) dX11_settle_73 ?_
        refine lv_aload hx hb dX11_settle_76 (lv_at hl 0 rfl) ?_
        refine vp_callSi (va_Run.run (va_runU (As := []) (rest := [.ref (av 13)]) ⟨hx, hb, hml, hown, hts⟩ (c_Jx29ce0_ordinal_8abf5 l D T ad sa av ta 7 (by decide +kernel)) (va_cwU 0 hts gX11_settle_Jx29ce0_ordinal_8abf5_u63X7 rfl rfl rfl rfl (by decide +kernel) ⟨(show _ ≤ (2 * (d + 1) + 6 : Nat) from by (try dsimp only); omega), (show _ ≤ (64 * (d + 1) + 250 : Nat) from by (try dsimp only); omega)⟩) (pRk_VE (i := 7) (by decide +kernel) hP hE hV hS [] rfl) rfl rfl hl.1 rfl (lv_room (Nat.le_of_ble_eq_true rfl)) dX11_settle_78 ⟨Nat.le_of_ble_eq_true rfl, Nat.le_of_ble_eq_true rfl⟩)) (fun r_93 hr_93 => ?_)
        obtain rfl : (odT 7) = r_93 := (hr_93).symm
        refine va_ti (v := .int (swT 7)) hx hb hV.2.2.2.2.2.1 hS (odT_in (by decide +kernel)) (congrArg (fun z => Value.int (swT z)) (odT_at (by decide +kernel))) dX11_settle_81 ?_
        refine lv_topi (fun z_94 ez_94 => ?_)
        obtain rfl : z_94 = 0 := ez_94.trans (by decide +kernel)
        refine lv_tableOut (tgt := 323) hx hb dX11_settle_82 (by decide +kernel) (by decide +kernel) ?_
        refine lv_aload_n hx hb dX11_settle_323 rfl (lv_at hl 3 rfl) ?_
        refine lv_iload_n hx hb dX11_settle_324 rfl (lv_at hl 4 rfl) ?_
        refine lv_iload_n hx hb dX11_settle_325 rfl (lv_at hl 5 rfl) ?_
        refine lv_iload_n hx hb dX11_settle_326 rfl (lv_at hl 6 rfl) ?_
        have hFc := va_free (wc := [(h0, .inr (8, [.ref la, .ref cl, .ref p0, .ref p1, .ref p4, .int n])), (la, .inr (5, [.int (l9 0), .int (l9 1), .int (l9 2), .int (l9 3), .int (l9 4), .int (l9 5), .int (l9 6)])), (cl, .inr (1, [.int n0, .ref c1, .ref c2, .ref c3, .ref c4, .ref c5, .ref c6, .ref c7])), (c1, .inl (T 0, 24, .inl f1)), (c2, .inl (T 0, 24, .inl f2)), (c3, .inl (T 0, 24, .inl f3)), (c4, .inl (T 0, 24, .inl f4)), (c5, .inl (T 0, 24, .inl f5)), (p0, .inl (T 1, 676, .inr (.inl g0))), (p1, .inl (T 1, 676, .inr (.inl g1))), (p4, .inl (T 0, 672, .inl g4))]) hD hS hA [0, 1, 2, 3, 4, 5, 6, 7, 8, 9, 10] rfl
        refine va_calli (va_runV (As := [.int x1, .int x2, .int x3]) (rest := []) ⟨hx, hb, hml, hown, hts⟩ (s_X11_picked l D T ad sa av ta _ h0 la cl p0 p1 p4 n l9 n0 c1 c2 c3 c4 c5 c6 c7 f1 f2 f3 f4 f5 g0 g1 g4 d x1 x2 x3 (by omega) (by omega) (by omega) hok (by omega) hmm hlq (by omega) (by omega) hrec) (cwV 3 hts gX11_settle_X11_picked rfl rfl rfl hv_X11_picked ⟨(show _ ≤ (2 * (d + 1) + 6 : Nat) from by (try dsimp only); omega), (show _ ≤ (64 * (d + 1) + 250 : Nat) from by (try dsimp only); omega)⟩) (pWk_V (q := (RX11, TX11, 6)) (ci := 8) (q0 := 0) hP hE hD hV hS hFc rfl rfl [0, 1, 2, 3, 4, 5, 6, 7, 8, 9, 10] (by decide +kernel) rfl rfl) rfl rfl hl.1 rfl (lv_room (Nat.le_of_ble_eq_true rfl)) dX11_settle_327 ⟨Nat.le_of_ble_eq_true rfl, Nat.le_of_ble_eq_true rfl⟩) hS (fun q _ h => hFc q h) hFc (fun r_95 u_96 t H1 locs ht hvm hr_95 hB hz1 hk1 hS => ?_)
        obtain ⟨f_97, f_98, f_99⟩ := u_96
        obtain ⟨hqr_95, hpk_r_95, hstr_95⟩ := hr_95
        have hqr_95 : r_95.toInt = -5 ∨ (0 ≤ r_95.toInt ∧ r_95.toInt < x1.toInt) := hqr_95
        have hpk_r_95 : r_95 = pickW l9 f1 f2 f3 f4 f5 (VALW l9 f1 f2 f3 f4 f5) x1 x2 x3 := hpk_r_95
        have hsr_95 : stW (VALW l9 f1 f2 f3 f4 f5) n0 n (rgP x1) g0 g1 g4 f_97 f_98 f_99 := hstr_95
        have hg9 : z_1.toNatClampNeg < 672 → f_99 (z_1.toNatClampNeg) = g4 (z_1.toNatClampNeg) := fun h9 => (hsr_95.2.2.2 _ h9 (nrg_p hsl)).2.2
        have hnf : z_1.toNatClampNeg < 672 → f_99 (z_1.toNatClampNeg) ≠ n := fun h9 => by rw [hg9 h9]; exact hnf h9
        have hst : stW (VALW l9 f1 f2 f3 f4 f5) n0 n (rgW x1 x2) g0 g1 g4 f_97 f_98 f_99 := hst.tr hsr_95 (fun j9 h9 => rg_p h9)
        have hmm : memW (VALW l9 f1 f2 f3 f4 f5) n0 n f_97 f_98 f_99 := hst.1
        obtain ⟨hP1, hD1⟩ := hB
        rw [ht] at hP1
        obtain ⟨hP, hD⟩ := va_repl [(h0, .inr (8, [.ref la, .ref cl, .ref p0, .ref p1, .ref p4, .int n])), (la, .inr (5, [.int (l9 0), .int (l9 1), .int (l9 2), .int (l9 3), .int (l9 4), .int (l9 5), .int (l9 6)])), (cl, .inr (1, [.int n0, .ref c1, .ref c2, .ref c3, .ref c4, .ref c5, .ref c6, .ref c7])), (c1, .inl (T 0, 24, .inl f1)), (c2, .inl (T 0, 24, .inl f2)), (c3, .inl (T 0, 24, .inl f3)), (c4, .inl (T 0, 24, .inl f4)), (c5, .inl (T 0, 24, .inl f5)), (p0, .inl (T 1, 676, .inr (.inl f_97))), (p1, .inl (T 1, 676, .inr (.inl f_98))), (p4, .inl (T 0, 672, .inl f_99))] hP hD [0, 1, 2, 3, 4, 5, 6, 7, 8, 9, 10] [0, 1, 2, 3, 4, 5, 6, 7, 8, 9, 10] rfl (by decide +kernel) rfl rfl rfl hk1 hP1
        clear hP1 hD1 hFc
        generalize H1 = H at hP hS ⊢
        refine lv_istore (lv' := [(7, .int r_95), (6, .ref (ad 7)), (5, .int z_4), (4, .int z_1), (0, .ref h0), (1, .int x1), (2, .int x2), (3, .int x3)]) hx hb dX11_settle_330 hl (by decide +kernel) rfl (fun ls hl => ?_)
        refine lv_iload hx hb dX11_settle_332 (lv_at hl 0 rfl) ?_
        refine lv_bipush (v := (-5)) hx hb dX11_settle_334 (by decide +kernel) ?_
        refine lv_icmp_ne (tgt := 350) hx hb dX11_settle_336 (by decide +kernel) (fun c_100 => ?_) (fun c_100 => ?_)
        · rw [fa_eq] at c_100
          try rw [ti_n5] at c_100
          refine lv_aload_n hx hb dX11_settle_350 rfl (lv_at hl 4 rfl) ?_
          refine lv_iload hx hb dX11_settle_351 (lv_at hl 3 rfl) ?_
          refine lv_aload_n hx hb dX11_settle_353 rfl (lv_at hl 4 rfl) ?_
          refine lv_iload hx hb dX11_settle_354 (lv_at hl 0 rfl) ?_
          refine lv_iload_n hx hb dX11_settle_356 rfl (lv_at hl 6 rfl) ?_
          refine lv_iload_n hx hb dX11_settle_357 rfl (lv_at hl 7 rfl) ?_
          have hFc := va_free (wc := [(h0, .inr (8, [.ref la, .ref cl, .ref p0, .ref p1, .ref p4, .int n])), (la, .inr (5, [.int (l9 0), .int (l9 1), .int (l9 2), .int (l9 3), .int (l9 4), .int (l9 5), .int (l9 6)])), (cl, .inr (1, [.int n0, .ref c1, .ref c2, .ref c3, .ref c4, .ref c5, .ref c6, .ref c7])), (c1, .inl (T 0, 24, .inl f1)), (c2, .inl (T 0, 24, .inl f2)), (c3, .inl (T 0, 24, .inl f3)), (c4, .inl (T 0, 24, .inl f4)), (c5, .inl (T 0, 24, .inl f5)), (p0, .inl (T 1, 676, .inr (.inl f_97))), (p1, .inl (T 1, 676, .inr (.inl f_98))), (p4, .inl (T 0, 672, .inl f_99))]) hD hS hA [0, 1, 2, 3, 4, 5, 6, 7, 8, 9, 10] rfl
          refine va_calli (va_runV (As := [.int r_95, .int x2, .int x3]) (rest := [.int z_1, .ref h0]) ⟨hx, hb, hml, hown, hts⟩ (hrec _ h0 la cl p0 p1 p4 n l9 n0 c1 c2 c3 c4 c5 c6 c7 f1 f2 f3 f4 f5 f_97 f_98 f_99 r_95 x2 x3 (by omega) (by omega) (by omega) hok (by omega) hmm hlq (by omega)) (cwV 3 hts gX11_settle_X11_settle rfl rfl rfl hv_X11_settle ⟨(show _ ≤ (2 * (d + 1) + 6 : Nat) from by (try dsimp only); omega), (show _ ≤ (64 * (d + 1) + 250 : Nat) from by (try dsimp only); omega)⟩) (pWk_V (q := (RX11, TX11, 6)) (ci := 8) (q0 := 0) hP hE hD hV hS hFc rfl rfl [0, 1, 2, 3, 4, 5, 6, 7, 8, 9, 10] (by decide +kernel) rfl rfl) rfl rfl hl.1 rfl (lv_room (Nat.le_of_ble_eq_true rfl)) dX11_settle_358 ⟨Nat.le_of_ble_eq_true rfl, Nat.le_of_ble_eq_true rfl⟩) hS (fun q _ h => hFc q h) hFc (fun r_101 u_102 t H1 locs ht hvm hr_101 hB hz1 hk1 hS => ?_)
          obtain ⟨f_103, f_104, f_105⟩ := u_102
          obtain ⟨hqr_101, hsl_r_101, hfo_r_101, hstr_101⟩ := hr_101
          have hqr_101 : 0 ≤ r_101.toInt ∧ r_101.toInt < 672 := hqr_101
          have hsl_r_101 : r_101.toNatClampNeg = slN r_95 x2 x3 := hsl_r_101
          have hfo_r_101 : f_105 (slN r_95 x2 x3) = n := hfo_r_101
          have hsr_101 : stW (VALW l9 f1 f2 f3 f4 f5) n0 n (rgW r_95 x2) f_97 f_98 f_99 f_103 f_104 f_105 := hstr_101
          have hg9 : z_1.toNatClampNeg < 672 → f_105 (z_1.toNatClampNeg) = f_99 (z_1.toNatClampNeg) := fun h9 => (hsr_101.2.2.2 _ h9 (nrg_c (by omega) hsl)).2.2
          have hnf : z_1.toNatClampNeg < 672 → f_105 (z_1.toNatClampNeg) ≠ n := fun h9 => by rw [hg9 h9]; exact hnf h9
          have hst : stW (VALW l9 f1 f2 f3 f4 f5) n0 n (rgW x1 x2) g0 g1 g4 f_103 f_104 f_105 := hst.tr hsr_101 (fun j9 h9 => rg_c (by omega) h9)
          have hmm : memW (VALW l9 f1 f2 f3 f4 f5) n0 n f_103 f_104 f_105 := hst.1
          have hv_r_101 : (f_103 (r_101.toNatClampNeg), f_104 (r_101.toNatClampNeg)) = (VALW l9 f1 f2 f3 f4 f5) r_95 x2 x3 := hst.val (by omega) (by omega) (by first | (rw [ti_0]; omega) | omega) hsl_r_101 hfo_r_101
          have hb_r_101 : 0 ≤ (f_104 (r_101.toNatClampNeg)).toInt := val_nn (VAL_low hlq.1 hlq.2 31 _ _ _) hv_r_101
          obtain ⟨hP1, hD1⟩ := hB
          rw [ht] at hP1
          obtain ⟨hP, hD⟩ := va_repl [(h0, .inr (8, [.ref la, .ref cl, .ref p0, .ref p1, .ref p4, .int n])), (la, .inr (5, [.int (l9 0), .int (l9 1), .int (l9 2), .int (l9 3), .int (l9 4), .int (l9 5), .int (l9 6)])), (cl, .inr (1, [.int n0, .ref c1, .ref c2, .ref c3, .ref c4, .ref c5, .ref c6, .ref c7])), (c1, .inl (T 0, 24, .inl f1)), (c2, .inl (T 0, 24, .inl f2)), (c3, .inl (T 0, 24, .inl f3)), (c4, .inl (T 0, 24, .inl f4)), (c5, .inl (T 0, 24, .inl f5)), (p0, .inl (T 1, 676, .inr (.inl f_103))), (p1, .inl (T 1, 676, .inr (.inl f_104))), (p4, .inl (T 0, 672, .inl f_105))] hP hD [0, 1, 2, 3, 4, 5, 6, 7, 8, 9, 10] [0, 1, 2, 3, 4, 5, 6, 7, 8, 9, 10] rfl (by decide +kernel) rfl rfl rfl hk1 hP1
          clear hP1 hD1 hFc
          generalize H1 = H at hP hS ⊢
          have hFc := va_free (wc := [(h0, .inr (8, [.ref la, .ref cl, .ref p0, .ref p1, .ref p4, .int n])), (p0, .inl (T 1, 676, .inr (.inl f_103))), (p1, .inl (T 1, 676, .inr (.inl f_104)))]) hD hS hA [0, 8, 9] rfl
          refine va_callv (va_runV (As := [.int z_1, .int r_101]) (rest := []) ⟨hx, hb, hml, hown, hts⟩ (c_X11_repeat l D T _ h0 p0 p1 (.ref la) (.ref cl) (.ref p4) n f_103 f_104 z_1 r_101 (by first | decide | omega) (by first | decide | omega)) (cwV 2 hts gX11_settle_X11_repeat rfl rfl rfl hv_X11_repeat ⟨(show _ ≤ (2 * (d + 1) + 6 : Nat) from by (try dsimp only); omega), (show _ ≤ (64 * (d + 1) + 250 : Nat) from by (try dsimp only); omega)⟩) (pW_V (q := (RX11, TX11, 6)) (ci := 8) (q0 := 0) hP hE hD rfl rfl [0, 8, 9] (by decide +kernel) rfl rfl) rfl rfl hl.1 rfl (lv_room (Nat.le_of_ble_eq_true rfl)) dX11_settle_361 ⟨Nat.le_of_ble_eq_true rfl, Nat.le_of_ble_eq_true rfl⟩) hS (fun q _ h => hFc q h) hFc (fun u_107 t H1 locs ht hvm hr_106 hB hz1 hk1 hS => ?_)
          obtain ⟨f_108, f_109⟩ := u_107
          have hrd1 : f_108 = vp_updL f_103 (z_1.toNatClampNeg) (((f_103 (r_101.toNatClampNeg)), (f_104 (r_101.toNatClampNeg)))).1 := hr_106.1
          have hrd2 : f_109 = vp_updL f_104 (z_1.toNatClampNeg) (((f_103 (r_101.toNatClampNeg)), (f_104 (r_101.toNatClampNeg)))).2 := hr_106.2
          have hnw9 : (f_108 (z_1.toNatClampNeg), f_109 (z_1.toNatClampNeg)) = ((VALW l9 f1 f2 f3 f4 f5) r_95 x2 x3) := by rw [put_at (q := ((f_103 (r_101.toNatClampNeg)), (f_104 (r_101.toNatClampNeg)))) hrd1 hrd2, hv_r_101]
          have hp_z_1 := hnw9
          have hst : stW (VALW l9 f1 f2 f3 f4 f5) n0 n (rgW x1 x2) g0 g1 g4 f_108 f_109 f_105 := by rw [hrd1, hrd2]; exact hst.put (fun h9 => ⟨rg_self (by omega) (by omega) (by omega) hsl, hnf h9⟩)
          have hmm : memW (VALW l9 f1 f2 f3 f4 f5) n0 n f_108 f_109 f_105 := hst.1
          have hv_r_101 : (f_108 (r_101.toNatClampNeg), f_109 (r_101.toNatClampNeg)) = (VALW l9 f1 f2 f3 f4 f5) r_95 x2 x3 := hst.val (by omega) (by omega) (by omega) hsl_r_101 hfo_r_101
          have hb_r_101 : 0 ≤ (f_109 (r_101.toNatClampNeg)).toInt := val_nn (VAL_low hlq.1 hlq.2 31 _ _ _) hv_r_101
          obtain ⟨hP1, hD1⟩ := hB
          rw [ht] at hP1
          obtain ⟨hP, hD⟩ := va_repl [(h0, .inr (8, [.ref la, .ref cl, .ref p0, .ref p1, .ref p4, .int n])), (la, .inr (5, [.int (l9 0), .int (l9 1), .int (l9 2), .int (l9 3), .int (l9 4), .int (l9 5), .int (l9 6)])), (cl, .inr (1, [.int n0, .ref c1, .ref c2, .ref c3, .ref c4, .ref c5, .ref c6, .ref c7])), (c1, .inl (T 0, 24, .inl f1)), (c2, .inl (T 0, 24, .inl f2)), (c3, .inl (T 0, 24, .inl f3)), (c4, .inl (T 0, 24, .inl f4)), (c5, .inl (T 0, 24, .inl f5)), (p0, .inl (T 1, 676, .inr (.inl f_108))), (p1, .inl (T 1, 676, .inr (.inl f_109))), (p4, .inl (T 0, 672, .inl f_105))] hP hD [0, 8, 9] [0, 8, 9] rfl (by decide +kernel) rfl rfl rfl hk1 hP1
          clear hP1 hD1 hFc
          generalize H1 = H at hP hS ⊢
          refine lv_aload_n hx hb dX11_settle_364 rfl (lv_at hl 4 rfl) ?_
          refine va_get (D := D) (ci := 8) (v := .ref p4) (C := RX11) (T := TX11) (N := 6) hx hb hts in_X11_settle_X11 hown hE.1 hP 0 rfl rfl 4 (by decide +kernel) (hts (.fieldLink RX11 18 "ClauseBook$Worth" "foundAt" "[I") (List.mem_of_getElem? (i := 1) rfl)) (fun _ h9 => h9) rfl dX11_settle_365 ?_
          refine lv_iload hx hb dX11_settle_368 (lv_at hl 3 rfl) ?_
          refine lv_aload_n hx hb dX11_settle_370 rfl (lv_at hl 4 rfl) ?_
          refine va_get (D := D) (ci := 8) (v := .int n) (C := RX11) (T := TX11) (N := 6) hx hb hts in_X11_settle_X11 hown hE.1 hP 0 rfl rfl 5 (by decide +kernel) (hts (.fieldLink RX11 22 "ClauseBook$Worth" "age" "I") (List.mem_of_getElem? (i := 2) rfl)) (fun _ h9 => h9) rfl dX11_settle_371 ?_
          refine va_iast hx hb hE.1 hP hD hS 10 0 rfl rfl (by rw [vp_in_iff]; first | omega | (subst_vars; omega)) dX11_settle_374 (fun H locs hP hD hS => ?_)
          obtain ⟨hP, hD⟩ := wPD [(h0, .inr (8, [.ref la, .ref cl, .ref p0, .ref p1, .ref p4, .int n])), (la, .inr (5, [.int (l9 0), .int (l9 1), .int (l9 2), .int (l9 3), .int (l9 4), .int (l9 5), .int (l9 6)])), (cl, .inr (1, [.int n0, .ref c1, .ref c2, .ref c3, .ref c4, .ref c5, .ref c6, .ref c7])), (c1, .inl (T 0, 24, .inl f1)), (c2, .inl (T 0, 24, .inl f2)), (c3, .inl (T 0, 24, .inl f3)), (c4, .inl (T 0, 24, .inl f4)), (c5, .inl (T 0, 24, .inl f5)), (p0, .inl (T 1, 676, .inr (.inl f_108))), (p1, .inl (T 1, 676, .inr (.inl f_109))), (p4, .inl (T 0, 672, .inl (upd f_105 (z_1.toNatClampNeg) n)))] hP hD rfl
          refine lv_iload hx hb dX11_settle_375 (lv_at hl 3 rfl) ?_
          exact W.iret hx hb hr (fun t ht hW => ⟨⟨_, (f_108, f_109, (upd f_105 (z_1.toNatClampNeg) n)), rfl, ⟨hsb, hsl, (by rw [← hsl]; exact upd_at), hst.mark (by omega) (by omega) (by omega) (by omega) hsl (rg_self (by omega) (by omega) (by omega) hsl) (by rw [hp_z_1, VAL_step (l := l9) (fn := f2) (x := x1) (t := x2) (k := x3) hok (by omega) (by omega), sw_p (l := l9) (fk := f1) (fn := f2) (fc := f3) (fd := f4) (fe := f5) (V := (VALW l9 f1 f2 f3 f4 f5)) (x := x1) (t := x2) (k := x3) (show ¬ (f5 (x1.toNatClampNeg)).toInt < x2.toInt from by omega) (by omega), if_neg (show ¬ pickW l9 f1 f2 f3 f4 f5 (VALW l9 f1 f2 f3 f4 f5) x1 x2 x3 = -5 from by rw [← hpk_r_95]; intro h9; have h7 : r_95.toInt = -5 := (by rw [h9]; decide); omega), ← hpk_r_95])⟩, by rw [ht]; exact hP.sub [0, 1, 2, 3, 4, 5, 6, 7, 8, 9, 10] rfl, hD.sub [0, 1, 2, 3, 4, 5, 6, 7, 8, 9, 10] (by decide +kernel) rfl⟩, hS.F ht⟩) hS.2.2 dX11_settle_377
        · rw [fa_eq] at c_100
          try rw [ti_n5] at c_100
          refine lv_aload_n hx hb dX11_settle_339 rfl (lv_at hl 4 rfl) ?_
          refine lv_iload hx hb dX11_settle_340 (lv_at hl 3 rfl) ?_
          refine lv_lconst (v := 0) hx hb dX11_settle_342 (by decide +kernel) ?_
          refine lv_lconst (v := 0) hx hb dX11_settle_343 (by decide +kernel) ?_
          have hFc := va_free (wc := [(h0, .inr (8, [.ref la, .ref cl, .ref p0, .ref p1, .ref p4, .int n])), (p0, .inl (T 1, 676, .inr (.inl f_97))), (p1, .inl (T 1, 676, .inr (.inl f_98)))]) hD hS hA [0, 8, 9] rfl
          refine va_callv (va_runV (As := [.int z_1, .long 0, .long 0]) (rest := []) ⟨hx, hb, hml, hown, hts⟩ (c_X11_assign l D T _ h0 p0 p1 (.ref la) (.ref cl) (.ref p4) n f_97 f_98 z_1 0 0 (by first | decide | omega)) (cwV 3 hts gX11_settle_X11_assign rfl rfl rfl hv_X11_assign ⟨(show _ ≤ (2 * (d + 1) + 6 : Nat) from by (try dsimp only); omega), (show _ ≤ (64 * (d + 1) + 250 : Nat) from by (try dsimp only); omega)⟩) (pW_V (q := (RX11, TX11, 6)) (ci := 8) (q0 := 0) hP hE hD rfl rfl [0, 8, 9] (by decide +kernel) rfl rfl) rfl rfl hl.1 rfl (lv_room (Nat.le_of_ble_eq_true rfl)) dX11_settle_344 ⟨Nat.le_of_ble_eq_true rfl, Nat.le_of_ble_eq_true rfl⟩) hS (fun q _ h => hFc q h) hFc (fun u_111 t H1 locs ht hvm hr_110 hB hz1 hk1 hS => ?_)
          obtain ⟨f_112, f_113⟩ := u_111
          have hrd1 : f_112 = vp_updL f_97 (z_1.toNatClampNeg) (((0 : Int64), (0 : Int64))).1 := hr_110.1
          have hrd2 : f_113 = vp_updL f_98 (z_1.toNatClampNeg) (((0 : Int64), (0 : Int64))).2 := hr_110.2
          have hnw9 : (f_112 (z_1.toNatClampNeg), f_113 (z_1.toNatClampNeg)) = ((0 : Int64), (0 : Int64)) := by rw [put_at (q := ((0 : Int64), (0 : Int64))) hrd1 hrd2]
          have hp_z_1 := hnw9
          have hst : stW (VALW l9 f1 f2 f3 f4 f5) n0 n (rgW x1 x2) g0 g1 g4 f_112 f_113 f_99 := by rw [hrd1, hrd2]; exact hst.put (fun h9 => ⟨rg_self (by omega) (by omega) (by omega) hsl, hnf h9⟩)
          have hmm : memW (VALW l9 f1 f2 f3 f4 f5) n0 n f_112 f_113 f_99 := hst.1
          obtain ⟨hP1, hD1⟩ := hB
          rw [ht] at hP1
          obtain ⟨hP, hD⟩ := va_repl [(h0, .inr (8, [.ref la, .ref cl, .ref p0, .ref p1, .ref p4, .int n])), (la, .inr (5, [.int (l9 0), .int (l9 1), .int (l9 2), .int (l9 3), .int (l9 4), .int (l9 5), .int (l9 6)])), (cl, .inr (1, [.int n0, .ref c1, .ref c2, .ref c3, .ref c4, .ref c5, .ref c6, .ref c7])), (c1, .inl (T 0, 24, .inl f1)), (c2, .inl (T 0, 24, .inl f2)), (c3, .inl (T 0, 24, .inl f3)), (c4, .inl (T 0, 24, .inl f4)), (c5, .inl (T 0, 24, .inl f5)), (p0, .inl (T 1, 676, .inr (.inl f_112))), (p1, .inl (T 1, 676, .inr (.inl f_113))), (p4, .inl (T 0, 672, .inl f_99))] hP hD [0, 8, 9] [0, 8, 9] rfl (by decide +kernel) rfl rfl rfl hk1 hP1
          clear hP1 hD1 hFc
          generalize H1 = H at hP hS ⊢
          refine lv_goto (tgt := 364) hx hb dX11_settle_347 (by decide +kernel) ?_
          refine lv_aload_n hx hb dX11_settle_364 rfl (lv_at hl 4 rfl) ?_
          refine va_get (D := D) (ci := 8) (v := .ref p4) (C := RX11) (T := TX11) (N := 6) hx hb hts in_X11_settle_X11 hown hE.1 hP 0 rfl rfl 4 (by decide +kernel) (hts (.fieldLink RX11 18 "ClauseBook$Worth" "foundAt" "[I") (List.mem_of_getElem? (i := 1) rfl)) (fun _ h9 => h9) rfl dX11_settle_365 ?_
          refine lv_iload hx hb dX11_settle_368 (lv_at hl 3 rfl) ?_
          refine lv_aload_n hx hb dX11_settle_370 rfl (lv_at hl 4 rfl) ?_
          refine va_get (D := D) (ci := 8) (v := .int n) (C := RX11) (T := TX11) (N := 6) hx hb hts in_X11_settle_X11 hown hE.1 hP 0 rfl rfl 5 (by decide +kernel) (hts (.fieldLink RX11 22 "ClauseBook$Worth" "age" "I") (List.mem_of_getElem? (i := 2) rfl)) (fun _ h9 => h9) rfl dX11_settle_371 ?_
          refine va_iast hx hb hE.1 hP hD hS 10 0 rfl rfl (by rw [vp_in_iff]; first | omega | (subst_vars; omega)) dX11_settle_374 (fun H locs hP hD hS => ?_)
          obtain ⟨hP, hD⟩ := wPD [(h0, .inr (8, [.ref la, .ref cl, .ref p0, .ref p1, .ref p4, .int n])), (la, .inr (5, [.int (l9 0), .int (l9 1), .int (l9 2), .int (l9 3), .int (l9 4), .int (l9 5), .int (l9 6)])), (cl, .inr (1, [.int n0, .ref c1, .ref c2, .ref c3, .ref c4, .ref c5, .ref c6, .ref c7])), (c1, .inl (T 0, 24, .inl f1)), (c2, .inl (T 0, 24, .inl f2)), (c3, .inl (T 0, 24, .inl f3)), (c4, .inl (T 0, 24, .inl f4)), (c5, .inl (T 0, 24, .inl f5)), (p0, .inl (T 1, 676, .inr (.inl f_112))), (p1, .inl (T 1, 676, .inr (.inl f_113))), (p4, .inl (T 0, 672, .inl (upd f_99 (z_1.toNatClampNeg) n)))] hP hD rfl
          refine lv_iload hx hb dX11_settle_375 (lv_at hl 3 rfl) ?_
          exact W.iret hx hb hr (fun t ht hW => ⟨⟨_, (f_112, f_113, (upd f_99 (z_1.toNatClampNeg) n)), rfl, ⟨hsb, hsl, (by rw [← hsl]; exact upd_at), hst.mark (by omega) (by omega) (by omega) (by omega) hsl (rg_self (by omega) (by omega) (by omega) hsl) (by rw [hp_z_1, VAL_step (l := l9) (fn := f2) (x := x1) (t := x2) (k := x3) hok (by omega) (by omega), sw_p (l := l9) (fk := f1) (fn := f2) (fc := f3) (fd := f4) (fe := f5) (V := (VALW l9 f1 f2 f3 f4 f5)) (x := x1) (t := x2) (k := x3) (show ¬ (f5 (x1.toNatClampNeg)).toInt < x2.toInt from by omega) (by omega), if_pos (show pickW l9 f1 f2 f3 f4 f5 (VALW l9 f1 f2 f3 f4 f5) x1 x2 x3 = -5 from by rw [← hpk_r_95]; exact Int32.toInt_inj.1 (by have h9 : (-5 : Int32).toInt = -5 := (by decide +kernel); omega))])⟩, by rw [ht]; exact hP.sub [0, 1, 2, 3, 4, 5, 6, 7, 8, 9, 10] rfl, hD.sub [0, 1, 2, 3, 4, 5, 6, 7, 8, 9, 10] (by decide +kernel) rfl⟩, hS.F ht⟩) hS.2.2 dX11_settle_377
      · refine W.eq (g2 := F0 m 71 ls [.ref (ad 8)]) (by rw [hk9]) ?_
        have hc9 : 0 ≤ z_4.toInt ∧ z_4.toInt < x1.toInt := by
          have h := (hok _ (in24 (x := x1) (by omega)).1).2.1 (by rw [hk9]; decide)
          have h2 := (in24 (x := x1) (by omega)).2
          rw [ez_4]
          omega
        refine lv_astore (lv' := [(6, .ref (ad 8)), (5, .int z_4), (4, .int z_1), (0, .ref h0), (1, .int x1), (2, .int x2), (3, .int x3)]) hx hb dX11_settle_71 hl (by decide +kernel) rfl (fun ls hl => ?_)
        refine va_gets (v := .ref (av 13)) hx hb hV.2.2.2.2.1 hS hown (hts (.fieldLink RX11 58 "ClauseBook$1" "$SwitchMap$ClauseBook$Kind" "[I") (List.mem_of_getElem? (i := 7) rfl)) (fun _ h9 => h9) dX11_settle_73 ?_
        refine lv_aload hx hb dX11_settle_76 (lv_at hl 0 rfl) ?_
        refine vp_callSi (va_Run.run (va_runU (As := []) (rest := [.ref (av 13)]) ⟨hx, hb, hml, hown, hts⟩ (c_Jx29ce0_ordinal_8abf5 l D T ad sa av ta 8 (by decide +kernel)) (va_cwU 0 hts gX11_settle_Jx29ce0_ordinal_8abf5_u63X7 rfl rfl rfl rfl (by decide +kernel) ⟨(show _ ≤ (2 * (d + 1) + 6 : Nat) from by (try dsimp only); omega), (show _ ≤ (64 * (d + 1) + 250 : Nat) from by (try dsimp only); omega)⟩) (pRk_VE (i := 8) (by decide +kernel) hP hE hV hS [] rfl) rfl rfl hl.1 rfl (lv_room (Nat.le_of_ble_eq_true rfl)) dX11_settle_78 ⟨Nat.le_of_ble_eq_true rfl, Nat.le_of_ble_eq_true rfl⟩)) (fun r_114 hr_114 => ?_)
        obtain rfl : (odT 8) = r_114 := (hr_114).symm
        refine va_ti (v := .int (swT 8)) hx hb hV.2.2.2.2.2.1 hS (odT_in (by decide +kernel)) (congrArg (fun z => Value.int (swT z)) (odT_at (by decide +kernel))) dX11_settle_81 ?_
        refine lv_topi (fun z_115 ez_115 => ?_)
        obtain rfl : z_115 = 0 := ez_115.trans (by decide +kernel)
        refine lv_tableOut (tgt := 323) hx hb dX11_settle_82 (by decide +kernel) (by decide +kernel) ?_
        refine lv_aload_n hx hb dX11_settle_323 rfl (lv_at hl 3 rfl) ?_
        refine lv_iload_n hx hb dX11_settle_324 rfl (lv_at hl 4 rfl) ?_
        refine lv_iload_n hx hb dX11_settle_325 rfl (lv_at hl 5 rfl) ?_
        refine lv_iload_n hx hb dX11_settle_326 rfl (lv_at hl 6 rfl) ?_
        have hFc := va_free (wc := [(h0, .inr (8, [.ref la, .ref cl, .ref p0, .ref p1, .ref p4, .int n])), (la, .inr (5, [.int (l9 0), .int (l9 1), .int (l9 2), .int (l9 3), .int (l9 4), .int (l9 5), .int (l9 6)])), (cl, .inr (1, [.int n0, .ref c1, .ref c2, .ref c3, .ref c4, .ref c5, .ref c6, .ref c7])), (c1, .inl (T 0, 24, .inl f1)), (c2, .inl (T 0, 24, .inl f2)), (c3, .inl (T 0, 24, .inl f3)), (c4, .inl (T 0, 24, .inl f4)), (c5, .inl (T 0, 24, .inl f5)), (p0, .inl (T 1, 676, .inr (.inl g0))), (p1, .inl (T 1, 676, .inr (.inl g1))), (p4, .inl (T 0, 672, .inl g4))]) hD hS hA [0, 1, 2, 3, 4, 5, 6, 7, 8, 9, 10] rfl
        refine va_calli (va_runV (As := [.int x1, .int x2, .int x3]) (rest := []) ⟨hx, hb, hml, hown, hts⟩ (s_X11_picked l D T ad sa av ta _ h0 la cl p0 p1 p4 n l9 n0 c1 c2 c3 c4 c5 c6 c7 f1 f2 f3 f4 f5 g0 g1 g4 d x1 x2 x3 (by omega) (by omega) (by omega) hok (by omega) hmm hlq (by omega) (by omega) hrec) (cwV 3 hts gX11_settle_X11_picked rfl rfl rfl hv_X11_picked ⟨(show _ ≤ (2 * (d + 1) + 6 : Nat) from by (try dsimp only); omega), (show _ ≤ (64 * (d + 1) + 250 : Nat) from by (try dsimp only); omega)⟩) (pWk_V (q := (RX11, TX11, 6)) (ci := 8) (q0 := 0) hP hE hD hV hS hFc rfl rfl [0, 1, 2, 3, 4, 5, 6, 7, 8, 9, 10] (by decide +kernel) rfl rfl) rfl rfl hl.1 rfl (lv_room (Nat.le_of_ble_eq_true rfl)) dX11_settle_327 ⟨Nat.le_of_ble_eq_true rfl, Nat.le_of_ble_eq_true rfl⟩) hS (fun q _ h => hFc q h) hFc (fun r_116 u_117 t H1 locs ht hvm hr_116 hB hz1 hk1 hS => ?_)
        obtain ⟨f_118, f_119, f_120⟩ := u_117
        obtain ⟨hqr_116, hpk_r_116, hstr_116⟩ := hr_116
        have hqr_116 : r_116.toInt = -5 ∨ (0 ≤ r_116.toInt ∧ r_116.toInt < x1.toInt) := hqr_116
        have hpk_r_116 : r_116 = pickW l9 f1 f2 f3 f4 f5 (VALW l9 f1 f2 f3 f4 f5) x1 x2 x3 := hpk_r_116
        have hsr_116 : stW (VALW l9 f1 f2 f3 f4 f5) n0 n (rgP x1) g0 g1 g4 f_118 f_119 f_120 := hstr_116
        have hg9 : z_1.toNatClampNeg < 672 → f_120 (z_1.toNatClampNeg) = g4 (z_1.toNatClampNeg) := fun h9 => (hsr_116.2.2.2 _ h9 (nrg_p hsl)).2.2
        have hnf : z_1.toNatClampNeg < 672 → f_120 (z_1.toNatClampNeg) ≠ n := fun h9 => by rw [hg9 h9]; exact hnf h9
        have hst : stW (VALW l9 f1 f2 f3 f4 f5) n0 n (rgW x1 x2) g0 g1 g4 f_118 f_119 f_120 := hst.tr hsr_116 (fun j9 h9 => rg_p h9)
        have hmm : memW (VALW l9 f1 f2 f3 f4 f5) n0 n f_118 f_119 f_120 := hst.1
        obtain ⟨hP1, hD1⟩ := hB
        rw [ht] at hP1
        obtain ⟨hP, hD⟩ := va_repl [(h0, .inr (8, [.ref la, .ref cl, .ref p0, .ref p1, .ref p4, .int n])), (la, .inr (5, [.int (l9 0), .int (l9 1), .int (l9 2), .int (l9 3), .int (l9 4), .int (l9 5), .int (l9 6)])), (cl, .inr (1, [.int n0, .ref c1, .ref c2, .ref c3, .ref c4, .ref c5, .ref c6, .ref c7])), (c1, .inl (T 0, 24, .inl f1)), (c2, .inl (T 0, 24, .inl f2)), (c3, .inl (T 0, 24, .inl f3)), (c4, .inl (T 0, 24, .inl f4)), (c5, .inl (T 0, 24, .inl f5)), (p0, .inl (T 1, 676, .inr (.inl f_118))), (p1, .inl (T 1, 676, .inr (.inl f_119))), (p4, .inl (T 0, 672, .inl f_120))] hP hD [0, 1, 2, 3, 4, 5, 6, 7, 8, 9, 10] [0, 1, 2, 3, 4, 5, 6, 7, 8, 9, 10] rfl (by decide +kernel) rfl rfl rfl hk1 hP1
        clear hP1 hD1 hFc
        generalize H1 = H at hP hS ⊢
        refine lv_istore (lv' := [(7, .int r_116), (6, .ref (ad 8)), (5, .int z_4), (4, .int z_1), (0, .ref h0), (1, .int x1), (2, .int x2), (3, .int x3)]) hx hb dX11_settle_330 hl (by decide +kernel) rfl (fun ls hl => ?_)
        refine lv_iload hx hb dX11_settle_332 (lv_at hl 0 rfl) ?_
        refine lv_bipush (v := (-5)) hx hb dX11_settle_334 (by decide +kernel) ?_
        refine lv_icmp_ne (tgt := 350) hx hb dX11_settle_336 (by decide +kernel) (fun c_121 => ?_) (fun c_121 => ?_)
        · rw [fa_eq] at c_121
          try rw [ti_n5] at c_121
          refine lv_aload_n hx hb dX11_settle_350 rfl (lv_at hl 4 rfl) ?_
          refine lv_iload hx hb dX11_settle_351 (lv_at hl 3 rfl) ?_
          refine lv_aload_n hx hb dX11_settle_353 rfl (lv_at hl 4 rfl) ?_
          refine lv_iload hx hb dX11_settle_354 (lv_at hl 0 rfl) ?_
          refine lv_iload_n hx hb dX11_settle_356 rfl (lv_at hl 6 rfl) ?_
          refine lv_iload_n hx hb dX11_settle_357 rfl (lv_at hl 7 rfl) ?_
          have hFc := va_free (wc := [(h0, .inr (8, [.ref la, .ref cl, .ref p0, .ref p1, .ref p4, .int n])), (la, .inr (5, [.int (l9 0), .int (l9 1), .int (l9 2), .int (l9 3), .int (l9 4), .int (l9 5), .int (l9 6)])), (cl, .inr (1, [.int n0, .ref c1, .ref c2, .ref c3, .ref c4, .ref c5, .ref c6, .ref c7])), (c1, .inl (T 0, 24, .inl f1)), (c2, .inl (T 0, 24, .inl f2)), (c3, .inl (T 0, 24, .inl f3)), (c4, .inl (T 0, 24, .inl f4)), (c5, .inl (T 0, 24, .inl f5)), (p0, .inl (T 1, 676, .inr (.inl f_118))), (p1, .inl (T 1, 676, .inr (.inl f_119))), (p4, .inl (T 0, 672, .inl f_120))]) hD hS hA [0, 1, 2, 3, 4, 5, 6, 7, 8, 9, 10] rfl
          refine va_calli (va_runV (As := [.int r_116, .int x2, .int x3]) (rest := [.int z_1, .ref h0]) ⟨hx, hb, hml, hown, hts⟩ (hrec _ h0 la cl p0 p1 p4 n l9 n0 c1 c2 c3 c4 c5 c6 c7 f1 f2 f3 f4 f5 f_118 f_119 f_120 r_116 x2 x3 (by omega) (by omega) (by omega) hok (by omega) hmm hlq (by omega)) (cwV 3 hts gX11_settle_X11_settle rfl rfl rfl hv_X11_settle ⟨(show _ ≤ (2 * (d + 1) + 6 : Nat) from by (try dsimp only); omega), (show _ ≤ (64 * (d + 1) + 250 : Nat) from by (try dsimp only); omega)⟩) (pWk_V (q := (RX11, TX11, 6)) (ci := 8) (q0 := 0) hP hE hD hV hS hFc rfl rfl [0, 1, 2, 3, 4, 5, 6, 7, 8, 9, 10] (by decide +kernel) rfl rfl) rfl rfl hl.1 rfl (lv_room (Nat.le_of_ble_eq_true rfl)) dX11_settle_358 ⟨Nat.le_of_ble_eq_true rfl, Nat.le_of_ble_eq_true rfl⟩) hS (fun q _ h => hFc q h) hFc (fun r_122 u_123 t H1 locs ht hvm hr_122 hB hz1 hk1 hS => ?_)
          obtain ⟨f_124, f_125, f_126⟩ := u_123
          obtain ⟨hqr_122, hsl_r_122, hfo_r_122, hstr_122⟩ := hr_122
          have hqr_122 : 0 ≤ r_122.toInt ∧ r_122.toInt < 672 := hqr_122
          have hsl_r_122 : r_122.toNatClampNeg = slN r_116 x2 x3 := hsl_r_122
          have hfo_r_122 : f_126 (slN r_116 x2 x3) = n := hfo_r_122
          have hsr_122 : stW (VALW l9 f1 f2 f3 f4 f5) n0 n (rgW r_116 x2) f_118 f_119 f_120 f_124 f_125 f_126 := hstr_122
          have hg9 : z_1.toNatClampNeg < 672 → f_126 (z_1.toNatClampNeg) = f_120 (z_1.toNatClampNeg) := fun h9 => (hsr_122.2.2.2 _ h9 (nrg_c (by omega) hsl)).2.2
          have hnf : z_1.toNatClampNeg < 672 → f_126 (z_1.toNatClampNeg) ≠ n := fun h9 => by rw [hg9 h9]; exact hnf h9
          have hst : stW (VALW l9 f1 f2 f3 f4 f5) n0 n (rgW x1 x2) g0 g1 g4 f_124 f_125 f_126 := hst.tr hsr_122 (fun j9 h9 => rg_c (by omega) h9)
          have hmm : memW (VALW l9 f1 f2 f3 f4 f5) n0 n f_124 f_125 f_126 := hst.1
          have hv_r_122 : (f_124 (r_122.toNatClampNeg), f_125 (r_122.toNatClampNeg)) = (VALW l9 f1 f2 f3 f4 f5) r_116 x2 x3 := hst.val (by omega) (by omega) (by first | (rw [ti_0]; omega) | omega) hsl_r_122 hfo_r_122
          have hb_r_122 : 0 ≤ (f_125 (r_122.toNatClampNeg)).toInt := val_nn (VAL_low hlq.1 hlq.2 31 _ _ _) hv_r_122
          obtain ⟨hP1, hD1⟩ := hB
          rw [ht] at hP1
          obtain ⟨hP, hD⟩ := va_repl [(h0, .inr (8, [.ref la, .ref cl, .ref p0, .ref p1, .ref p4, .int n])), (la, .inr (5, [.int (l9 0), .int (l9 1), .int (l9 2), .int (l9 3), .int (l9 4), .int (l9 5), .int (l9 6)])), (cl, .inr (1, [.int n0, .ref c1, .ref c2, .ref c3, .ref c4, .ref c5, .ref c6, .ref c7])), (c1, .inl (T 0, 24, .inl f1)), (c2, .inl (T 0, 24, .inl f2)), (c3, .inl (T 0, 24, .inl f3)), (c4, .inl (T 0, 24, .inl f4)), (c5, .inl (T 0, 24, .inl f5)), (p0, .inl (T 1, 676, .inr (.inl f_124))), (p1, .inl (T 1, 676, .inr (.inl f_125))), (p4, .inl (T 0, 672, .inl f_126))] hP hD [0, 1, 2, 3, 4, 5, 6, 7, 8, 9, 10] [0, 1, 2, 3, 4, 5, 6, 7, 8, 9, 10] rfl (by decide +kernel) rfl rfl rfl hk1 hP1
          clear hP1 hD1 hFc
          generalize H1 = H at hP hS ⊢
          have hFc := va_free (wc := [(h0, .inr (8, [.ref la, .ref cl, .ref p0, .ref p1, .ref p4, .int n])), (p0, .inl (T 1, 676, .inr (.inl f_124))), (p1, .inl (T 1, 676, .inr (.inl f_125)))]) hD hS hA [0, 8, 9] rfl
          refine va_callv (va_runV (As := [.int z_1, .int r_122]) (rest := []) ⟨hx, hb, hml, hown, hts⟩ (c_X11_repeat l D T _ h0 p0 p1 (.ref la) (.ref cl) (.ref p4) n f_124 f_125 z_1 r_122 (by first | decide | omega) (by first | decide | omega)) (cwV 2 hts gX11_settle_X11_repeat rfl rfl rfl hv_X11_repeat ⟨(show _ ≤ (2 * (d + 1) + 6 : Nat) from by (try dsimp only); omega), (show _ ≤ (64 * (d + 1) + 250 : Nat) from by (try dsimp only); omega)⟩) (pW_V (q := (RX11, TX11, 6)) (ci := 8) (q0 := 0) hP hE hD rfl rfl [0, 8, 9] (by decide +kernel) rfl rfl) rfl rfl hl.1 rfl (lv_room (Nat.le_of_ble_eq_true rfl)) dX11_settle_361 ⟨Nat.le_of_ble_eq_true rfl, Nat.le_of_ble_eq_true rfl⟩) hS (fun q _ h => hFc q h) hFc (fun u_128 t H1 locs ht hvm hr_127 hB hz1 hk1 hS => ?_)
          obtain ⟨f_129, f_130⟩ := u_128
          have hrd1 : f_129 = vp_updL f_124 (z_1.toNatClampNeg) (((f_124 (r_122.toNatClampNeg)), (f_125 (r_122.toNatClampNeg)))).1 := hr_127.1
          have hrd2 : f_130 = vp_updL f_125 (z_1.toNatClampNeg) (((f_124 (r_122.toNatClampNeg)), (f_125 (r_122.toNatClampNeg)))).2 := hr_127.2
          have hnw9 : (f_129 (z_1.toNatClampNeg), f_130 (z_1.toNatClampNeg)) = ((VALW l9 f1 f2 f3 f4 f5) r_116 x2 x3) := by rw [put_at (q := ((f_124 (r_122.toNatClampNeg)), (f_125 (r_122.toNatClampNeg)))) hrd1 hrd2, hv_r_122]
          have hp_z_1 := hnw9
          have hst : stW (VALW l9 f1 f2 f3 f4 f5) n0 n (rgW x1 x2) g0 g1 g4 f_129 f_130 f_126 := by rw [hrd1, hrd2]; exact hst.put (fun h9 => ⟨rg_self (by omega) (by omega) (by omega) hsl, hnf h9⟩)
          have hmm : memW (VALW l9 f1 f2 f3 f4 f5) n0 n f_129 f_130 f_126 := hst.1
          have hv_r_122 : (f_129 (r_122.toNatClampNeg), f_130 (r_122.toNatClampNeg)) = (VALW l9 f1 f2 f3 f4 f5) r_116 x2 x3 := hst.val (by omega) (by omega) (by omega) hsl_r_122 hfo_r_122
          have hb_r_122 : 0 ≤ (f_130 (r_122.toNatClampNeg)).toInt := val_nn (VAL_low hlq.1 hlq.2 31 _ _ _) hv_r_122
          obtain ⟨hP1, hD1⟩ := hB
          rw [ht] at hP1
          obtain ⟨hP, hD⟩ := va_repl [(h0, .inr (8, [.ref la, .ref cl, .ref p0, .ref p1, .ref p4, .int n])), (la, .inr (5, [.int (l9 0), .int (l9 1), .int (l9 2), .int (l9 3), .int (l9 4), .int (l9 5), .int (l9 6)])), (cl, .inr (1, [.int n0, .ref c1, .ref c2, .ref c3, .ref c4, .ref c5, .ref c6, .ref c7])), (c1, .inl (T 0, 24, .inl f1)), (c2, .inl (T 0, 24, .inl f2)), (c3, .inl (T 0, 24, .inl f3)), (c4, .inl (T 0, 24, .inl f4)), (c5, .inl (T 0, 24, .inl f5)), (p0, .inl (T 1, 676, .inr (.inl f_129))), (p1, .inl (T 1, 676, .inr (.inl f_130))), (p4, .inl (T 0, 672, .inl f_126))] hP hD [0, 8, 9] [0, 8, 9] rfl (by decide +kernel) rfl rfl rfl hk1 hP1
          clear hP1 hD1 hFc
          generalize H1 = H at hP hS ⊢
          refine lv_aload_n hx hb dX11_settle_364 rfl (lv_at hl 4 rfl) ?_
          refine va_get (D := D) (ci := 8) (v := .ref p4) (C := RX11) (T := TX11) (N := 6) hx hb hts in_X11_settle_X11 hown hE.1 hP 0 rfl rfl 4 (by decide +kernel) (hts (.fieldLink RX11 18 "ClauseBook$Worth" "foundAt" "[I") (List.mem_of_getElem? (i := 1) rfl)) (fun _ h9 => h9) rfl dX11_settle_365 ?_
          refine lv_iload hx hb dX11_settle_368 (lv_at hl 3 rfl) ?_
          refine lv_aload_n hx hb dX11_settle_370 rfl (lv_at hl 4 rfl) ?_
          refine va_get (D := D) (ci := 8) (v := .int n) (C := RX11) (T := TX11) (N := 6) hx hb hts in_X11_settle_X11 hown hE.1 hP 0 rfl rfl 5 (by decide +kernel) (hts (.fieldLink RX11 22 "ClauseBook$Worth" "age" "I") (List.mem_of_getElem? (i := 2) rfl)) (fun _ h9 => h9) rfl dX11_settle_371 ?_
          refine va_iast hx hb hE.1 hP hD hS 10 0 rfl rfl (by rw [vp_in_iff]; first | omega | (subst_vars; omega)) dX11_settle_374 (fun H locs hP hD hS => ?_)
          obtain ⟨hP, hD⟩ := wPD [(h0, .inr (8, [.ref la, .ref cl, .ref p0, .ref p1, .ref p4, .int n])), (la, .inr (5, [.int (l9 0), .int (l9 1), .int (l9 2), .int (l9 3), .int (l9 4), .int (l9 5), .int (l9 6)])), (cl, .inr (1, [.int n0, .ref c1, .ref c2, .ref c3, .ref c4, .ref c5, .ref c6, .ref c7])), (c1, .inl (T 0, 24, .inl f1)), (c2, .inl (T 0, 24, .inl f2)), (c3, .inl (T 0, 24, .inl f3)), (c4, .inl (T 0, 24, .inl f4)), (c5, .inl (T 0, 24, .inl f5)), (p0, .inl (T 1, 676, .inr (.inl f_129))), (p1, .inl (T 1, 676, .inr (.inl f_130))), (p4, .inl (T 0, 672, .inl (upd f_126 (z_1.toNatClampNeg) n)))] hP hD rfl
          refine lv_iload hx hb dX11_settle_375 (lv_at hl 3 rfl) ?_
          exact W.iret hx hb hr (fun t ht hW => ⟨⟨_, (f_129, f_130, (upd f_126 (z_1.toNatClampNeg) n)), rfl, ⟨hsb, hsl, (by rw [← hsl]; exact upd_at), hst.mark (by omega) (by omega) (by omega) (by omega) hsl (rg_self (by omega) (by omega) (by omega) hsl) (by rw [hp_z_1, VAL_step (l := l9) (fn := f2) (x := x1) (t := x2) (k := x3) hok (by omega) (by omega), sw_p (l := l9) (fk := f1) (fn := f2) (fc := f3) (fd := f4) (fe := f5) (V := (VALW l9 f1 f2 f3 f4 f5)) (x := x1) (t := x2) (k := x3) (show ¬ (f5 (x1.toNatClampNeg)).toInt < x2.toInt from by omega) (by omega), if_neg (show ¬ pickW l9 f1 f2 f3 f4 f5 (VALW l9 f1 f2 f3 f4 f5) x1 x2 x3 = -5 from by rw [← hpk_r_116]; intro h9; have h7 : r_116.toInt = -5 := (by rw [h9]; decide); omega), ← hpk_r_116])⟩, by rw [ht]; exact hP.sub [0, 1, 2, 3, 4, 5, 6, 7, 8, 9, 10] rfl, hD.sub [0, 1, 2, 3, 4, 5, 6, 7, 8, 9, 10] (by decide +kernel) rfl⟩, hS.F ht⟩) hS.2.2 dX11_settle_377
        · rw [fa_eq] at c_121
          try rw [ti_n5] at c_121
          refine lv_aload_n hx hb dX11_settle_339 rfl (lv_at hl 4 rfl) ?_
          refine lv_iload hx hb dX11_settle_340 (lv_at hl 3 rfl) ?_
          refine lv_lconst (v := 0) hx hb dX11_settle_342 (by decide +kernel) ?_
          refine lv_lconst (v := 0) hx hb dX11_settle_343 (by decide +kernel) ?_
          have hFc := va_free (wc := [(h0, .inr (8, [.ref la, .ref cl, .ref p0, .ref p1, .ref p4, .int n])), (p0, .inl (T 1, 676, .inr (.inl f_118))), (p1, .inl (T 1, 676, .inr (.inl f_119)))]) hD hS hA [0, 8, 9] rfl
          refine va_callv (va_runV (As := [.int z_1, .long 0, .long 0]) (rest := []) ⟨hx, hb, hml, hown, hts⟩ (c_X11_assign l D T _ h0 p0 p1 (.ref la) (.ref cl) (.ref p4) n f_118 f_119 z_1 0 0 (by first | decide | omega)) (cwV 3 hts gX11_settle_X11_assign rfl rfl rfl hv_X11_assign ⟨(show _ ≤ (2 * (d + 1) + 6 : Nat) from by (try dsimp only); omega), (show _ ≤ (64 * (d + 1) + 250 : Nat) from by (try dsimp only); omega)⟩) (pW_V (q := (RX11, TX11, 6)) (ci := 8) (q0 := 0) hP hE hD rfl rfl [0, 8, 9] (by decide +kernel) rfl rfl) rfl rfl hl.1 rfl (lv_room (Nat.le_of_ble_eq_true rfl)) dX11_settle_344 ⟨Nat.le_of_ble_eq_true rfl, Nat.le_of_ble_eq_true rfl⟩) hS (fun q _ h => hFc q h) hFc (fun u_132 t H1 locs ht hvm hr_131 hB hz1 hk1 hS => ?_)
          obtain ⟨f_133, f_134⟩ := u_132
          have hrd1 : f_133 = vp_updL f_118 (z_1.toNatClampNeg) (((0 : Int64), (0 : Int64))).1 := hr_131.1
          have hrd2 : f_134 = vp_updL f_119 (z_1.toNatClampNeg) (((0 : Int64), (0 : Int64))).2 := hr_131.2
          have hnw9 : (f_133 (z_1.toNatClampNeg), f_134 (z_1.toNatClampNeg)) = ((0 : Int64), (0 : Int64)) := by rw [put_at (q := ((0 : Int64), (0 : Int64))) hrd1 hrd2]
          have hp_z_1 := hnw9
          have hst : stW (VALW l9 f1 f2 f3 f4 f5) n0 n (rgW x1 x2) g0 g1 g4 f_133 f_134 f_120 := by rw [hrd1, hrd2]; exact hst.put (fun h9 => ⟨rg_self (by omega) (by omega) (by omega) hsl, hnf h9⟩)
          have hmm : memW (VALW l9 f1 f2 f3 f4 f5) n0 n f_133 f_134 f_120 := hst.1
          obtain ⟨hP1, hD1⟩ := hB
          rw [ht] at hP1
          obtain ⟨hP, hD⟩ := va_repl [(h0, .inr (8, [.ref la, .ref cl, .ref p0, .ref p1, .ref p4, .int n])), (la, .inr (5, [.int (l9 0), .int (l9 1), .int (l9 2), .int (l9 3), .int (l9 4), .int (l9 5), .int (l9 6)])), (cl, .inr (1, [.int n0, .ref c1, .ref c2, .ref c3, .ref c4, .ref c5, .ref c6, .ref c7])), (c1, .inl (T 0, 24, .inl f1)), (c2, .inl (T 0, 24, .inl f2)), (c3, .inl (T 0, 24, .inl f3)), (c4, .inl (T 0, 24, .inl f4)), (c5, .inl (T 0, 24, .inl f5)), (p0, .inl (T 1, 676, .inr (.inl f_133))), (p1, .inl (T 1, 676, .inr (.inl f_134))), (p4, .inl (T 0, 672, .inl f_120))] hP hD [0, 8, 9] [0, 8, 9] rfl (by decide +kernel) rfl rfl rfl hk1 hP1
          clear hP1 hD1 hFc
          generalize H1 = H at hP hS ⊢
          refine lv_goto (tgt := 364) hx hb dX11_settle_347 (by decide +kernel) ?_
          refine lv_aload_n hx hb dX11_settle_364 rfl (lv_at hl 4 rfl) ?_
          refine va_get (D := D) (ci := 8) (v := .ref p4) (C := RX11) (T := TX11) (N := 6) hx hb hts in_X11_settle_X11 hown hE.1 hP 0 rfl rfl 4 (by decide +kernel) (hts (.fieldLink RX11 18 "ClauseBook$Worth" "foundAt" "[I") (List.mem_of_getElem? (i := 1) rfl)) (fun _ h9 => h9) rfl dX11_settle_365 ?_
          refine lv_iload hx hb dX11_settle_368 (lv_at hl 3 rfl) ?_
          refine lv_aload_n hx hb dX11_settle_370 rfl (lv_at hl 4 rfl) ?_
          refine va_get (D := D) (ci := 8) (v := .int n) (C := RX11) (T := TX11) (N := 6) hx hb hts in_X11_settle_X11 hown hE.1 hP 0 rfl rfl 5 (by decide +kernel) (hts (.fieldLink RX11 22 "ClauseBook$Worth" "age" "I") (List.mem_of_getElem? (i := 2) rfl)) (fun _ h9 => h9) rfl dX11_settle_371 ?_
          refine va_iast hx hb hE.1 hP hD hS 10 0 rfl rfl (by rw [vp_in_iff]; first | omega | (subst_vars; omega)) dX11_settle_374 (fun H locs hP hD hS => ?_)
          obtain ⟨hP, hD⟩ := wPD [(h0, .inr (8, [.ref la, .ref cl, .ref p0, .ref p1, .ref p4, .int n])), (la, .inr (5, [.int (l9 0), .int (l9 1), .int (l9 2), .int (l9 3), .int (l9 4), .int (l9 5), .int (l9 6)])), (cl, .inr (1, [.int n0, .ref c1, .ref c2, .ref c3, .ref c4, .ref c5, .ref c6, .ref c7])), (c1, .inl (T 0, 24, .inl f1)), (c2, .inl (T 0, 24, .inl f2)), (c3, .inl (T 0, 24, .inl f3)), (c4, .inl (T 0, 24, .inl f4)), (c5, .inl (T 0, 24, .inl f5)), (p0, .inl (T 1, 676, .inr (.inl f_133))), (p1, .inl (T 1, 676, .inr (.inl f_134))), (p4, .inl (T 0, 672, .inl (upd f_120 (z_1.toNatClampNeg) n)))] hP hD rfl
          refine lv_iload hx hb dX11_settle_375 (lv_at hl 3 rfl) ?_
          exact W.iret hx hb hr (fun t ht hW => ⟨⟨_, (f_133, f_134, (upd f_120 (z_1.toNatClampNeg) n)), rfl, ⟨hsb, hsl, (by rw [← hsl]; exact upd_at), hst.mark (by omega) (by omega) (by omega) (by omega) hsl (rg_self (by omega) (by omega) (by omega) hsl) (by rw [hp_z_1, VAL_step (l := l9) (fn := f2) (x := x1) (t := x2) (k := x3) hok (by omega) (by omega), sw_p (l := l9) (fk := f1) (fn := f2) (fc := f3) (fd := f4) (fe := f5) (V := (VALW l9 f1 f2 f3 f4 f5)) (x := x1) (t := x2) (k := x3) (show ¬ (f5 (x1.toNatClampNeg)).toInt < x2.toInt from by omega) (by omega), if_pos (show pickW l9 f1 f2 f3 f4 f5 (VALW l9 f1 f2 f3 f4 f5) x1 x2 x3 = -5 from by rw [← hpk_r_116]; exact Int32.toInt_inj.1 (by have h9 : (-5 : Int32).toInt = -5 := (by decide +kernel); omega))])⟩, by rw [ht]; exact hP.sub [0, 1, 2, 3, 4, 5, 6, 7, 8, 9, 10] rfl, hD.sub [0, 1, 2, 3, 4, 5, 6, 7, 8, 9, 10] (by decide +kernel) rfl⟩, hS.F ht⟩) hS.2.2 dX11_settle_377
      · refine W.eq (g2 := F0 m 71 ls [.ref (ad 9)]) (by rw [hk9]) ?_
        have hc9 : 0 ≤ z_4.toInt ∧ z_4.toInt < x1.toInt := by
          have h := (hok _ (in24 (x := x1) (by omega)).1).2.1 (by rw [hk9]; decide)
          have h2 := (in24 (x := x1) (by omega)).2
          rw [ez_4]
          omega
        have hd9 : 0 ≤ (f4 (x1.toNatClampNeg)).toInt ∧ (f4 (x1.toNatClampNeg)).toInt < x1.toInt := by
          have h := (hok _ (in24 (x := x1) (by omega)).1).2.2.1 (by rw [hk9]; decide)
          have h2 := (in24 (x := x1) (by omega)).2
          omega
        refine lv_astore (lv' := [(6, .ref (ad 9)), (5, .int z_4), (4, .int z_1), (0, .ref h0), (1, .int x1), (2, .int x2), (3, .int x3)]) hx hb dX11_settle_71 hl (by decide +kernel) rfl (fun ls hl => ?_)
        refine va_gets (v := .ref (av 13)) hx hb hV.2.2.2.2.1 hS hown (hts (.fieldLink RX11 58 "ClauseBook$1" "$SwitchMap$ClauseBook$Kind" "[I") (List.mem_of_getElem? (i := 7) rfl)) (fun _ h9 => h9) dX11_settle_73 ?_
        refine lv_aload hx hb dX11_settle_76 (lv_at hl 0 rfl) ?_
        refine vp_callSi (va_Run.run (va_runU (As := []) (rest := [.ref (av 13)]) ⟨hx, hb, hml, hown, hts⟩ (c_Jx29ce0_ordinal_8abf5 l D T ad sa av ta 9 (by decide +kernel)) (va_cwU 0 hts gX11_settle_Jx29ce0_ordinal_8abf5_u63X7 rfl rfl rfl rfl (by decide +kernel) ⟨(show _ ≤ (2 * (d + 1) + 6 : Nat) from by (try dsimp only); omega), (show _ ≤ (64 * (d + 1) + 250 : Nat) from by (try dsimp only); omega)⟩) (pRk_VE (i := 9) (by decide +kernel) hP hE hV hS [] rfl) rfl rfl hl.1 rfl (lv_room (Nat.le_of_ble_eq_true rfl)) dX11_settle_78 ⟨Nat.le_of_ble_eq_true rfl, Nat.le_of_ble_eq_true rfl⟩)) (fun r_135 hr_135 => ?_)
        obtain rfl : (odT 9) = r_135 := (hr_135).symm
        refine va_ti (v := .int (swT 9)) hx hb hV.2.2.2.2.2.1 hS (odT_in (by decide +kernel)) (congrArg (fun z => Value.int (swT z)) (odT_at (by decide +kernel))) dX11_settle_81 ?_
        refine lv_topi (fun z_136 ez_136 => ?_)
        obtain rfl : z_136 = 0 := ez_136.trans (by decide +kernel)
        refine lv_tableOut (tgt := 323) hx hb dX11_settle_82 (by decide +kernel) (by decide +kernel) ?_
        refine lv_aload_n hx hb dX11_settle_323 rfl (lv_at hl 3 rfl) ?_
        refine lv_iload_n hx hb dX11_settle_324 rfl (lv_at hl 4 rfl) ?_
        refine lv_iload_n hx hb dX11_settle_325 rfl (lv_at hl 5 rfl) ?_
        refine lv_iload_n hx hb dX11_settle_326 rfl (lv_at hl 6 rfl) ?_
        have hFc := va_free (wc := [(h0, .inr (8, [.ref la, .ref cl, .ref p0, .ref p1, .ref p4, .int n])), (la, .inr (5, [.int (l9 0), .int (l9 1), .int (l9 2), .int (l9 3), .int (l9 4), .int (l9 5), .int (l9 6)])), (cl, .inr (1, [.int n0, .ref c1, .ref c2, .ref c3, .ref c4, .ref c5, .ref c6, .ref c7])), (c1, .inl (T 0, 24, .inl f1)), (c2, .inl (T 0, 24, .inl f2)), (c3, .inl (T 0, 24, .inl f3)), (c4, .inl (T 0, 24, .inl f4)), (c5, .inl (T 0, 24, .inl f5)), (p0, .inl (T 1, 676, .inr (.inl g0))), (p1, .inl (T 1, 676, .inr (.inl g1))), (p4, .inl (T 0, 672, .inl g4))]) hD hS hA [0, 1, 2, 3, 4, 5, 6, 7, 8, 9, 10] rfl
        refine va_calli (va_runV (As := [.int x1, .int x2, .int x3]) (rest := []) ⟨hx, hb, hml, hown, hts⟩ (s_X11_picked l D T ad sa av ta _ h0 la cl p0 p1 p4 n l9 n0 c1 c2 c3 c4 c5 c6 c7 f1 f2 f3 f4 f5 g0 g1 g4 d x1 x2 x3 (by omega) (by omega) (by omega) hok (by omega) hmm hlq (by omega) (by omega) hrec) (cwV 3 hts gX11_settle_X11_picked rfl rfl rfl hv_X11_picked ⟨(show _ ≤ (2 * (d + 1) + 6 : Nat) from by (try dsimp only); omega), (show _ ≤ (64 * (d + 1) + 250 : Nat) from by (try dsimp only); omega)⟩) (pWk_V (q := (RX11, TX11, 6)) (ci := 8) (q0 := 0) hP hE hD hV hS hFc rfl rfl [0, 1, 2, 3, 4, 5, 6, 7, 8, 9, 10] (by decide +kernel) rfl rfl) rfl rfl hl.1 rfl (lv_room (Nat.le_of_ble_eq_true rfl)) dX11_settle_327 ⟨Nat.le_of_ble_eq_true rfl, Nat.le_of_ble_eq_true rfl⟩) hS (fun q _ h => hFc q h) hFc (fun r_137 u_138 t H1 locs ht hvm hr_137 hB hz1 hk1 hS => ?_)
        obtain ⟨f_139, f_140, f_141⟩ := u_138
        obtain ⟨hqr_137, hpk_r_137, hstr_137⟩ := hr_137
        have hqr_137 : r_137.toInt = -5 ∨ (0 ≤ r_137.toInt ∧ r_137.toInt < x1.toInt) := hqr_137
        have hpk_r_137 : r_137 = pickW l9 f1 f2 f3 f4 f5 (VALW l9 f1 f2 f3 f4 f5) x1 x2 x3 := hpk_r_137
        have hsr_137 : stW (VALW l9 f1 f2 f3 f4 f5) n0 n (rgP x1) g0 g1 g4 f_139 f_140 f_141 := hstr_137
        have hg9 : z_1.toNatClampNeg < 672 → f_141 (z_1.toNatClampNeg) = g4 (z_1.toNatClampNeg) := fun h9 => (hsr_137.2.2.2 _ h9 (nrg_p hsl)).2.2
        have hnf : z_1.toNatClampNeg < 672 → f_141 (z_1.toNatClampNeg) ≠ n := fun h9 => by rw [hg9 h9]; exact hnf h9
        have hst : stW (VALW l9 f1 f2 f3 f4 f5) n0 n (rgW x1 x2) g0 g1 g4 f_139 f_140 f_141 := hst.tr hsr_137 (fun j9 h9 => rg_p h9)
        have hmm : memW (VALW l9 f1 f2 f3 f4 f5) n0 n f_139 f_140 f_141 := hst.1
        obtain ⟨hP1, hD1⟩ := hB
        rw [ht] at hP1
        obtain ⟨hP, hD⟩ := va_repl [(h0, .inr (8, [.ref la, .ref cl, .ref p0, .ref p1, .ref p4, .int n])), (la, .inr (5, [.int (l9 0), .int (l9 1), .int (l9 2), .int (l9 3), .int (l9 4), .int (l9 5), .int (l9 6)])), (cl, .inr (1, [.int n0, .ref c1, .ref c2, .ref c3, .ref c4, .ref c5, .ref c6, .ref c7])), (c1, .inl (T 0, 24, .inl f1)), (c2, .inl (T 0, 24, .inl f2)), (c3, .inl (T 0, 24, .inl f3)), (c4, .inl (T 0, 24, .inl f4)), (c5, .inl (T 0, 24, .inl f5)), (p0, .inl (T 1, 676, .inr (.inl f_139))), (p1, .inl (T 1, 676, .inr (.inl f_140))), (p4, .inl (T 0, 672, .inl f_141))] hP hD [0, 1, 2, 3, 4, 5, 6, 7, 8, 9, 10] [0, 1, 2, 3, 4, 5, 6, 7, 8, 9, 10] rfl (by decide +kernel) rfl rfl rfl hk1 hP1
        clear hP1 hD1 hFc
        generalize H1 = H at hP hS ⊢
        refine lv_istore (lv' := [(7, .int r_137), (6, .ref (ad 9)), (5, .int z_4), (4, .int z_1), (0, .ref h0), (1, .int x1), (2, .int x2), (3, .int x3)]) hx hb dX11_settle_330 hl (by decide +kernel) rfl (fun ls hl => ?_)
        refine lv_iload hx hb dX11_settle_332 (lv_at hl 0 rfl) ?_
        refine lv_bipush (v := (-5)) hx hb dX11_settle_334 (by decide +kernel) ?_
        refine lv_icmp_ne (tgt := 350) hx hb dX11_settle_336 (by decide +kernel) (fun c_142 => ?_) (fun c_142 => ?_)
        · rw [fa_eq] at c_142
          try rw [ti_n5] at c_142
          refine lv_aload_n hx hb dX11_settle_350 rfl (lv_at hl 4 rfl) ?_
          refine lv_iload hx hb dX11_settle_351 (lv_at hl 3 rfl) ?_
          refine lv_aload_n hx hb dX11_settle_353 rfl (lv_at hl 4 rfl) ?_
          refine lv_iload hx hb dX11_settle_354 (lv_at hl 0 rfl) ?_
          refine lv_iload_n hx hb dX11_settle_356 rfl (lv_at hl 6 rfl) ?_
          refine lv_iload_n hx hb dX11_settle_357 rfl (lv_at hl 7 rfl) ?_
          have hFc := va_free (wc := [(h0, .inr (8, [.ref la, .ref cl, .ref p0, .ref p1, .ref p4, .int n])), (la, .inr (5, [.int (l9 0), .int (l9 1), .int (l9 2), .int (l9 3), .int (l9 4), .int (l9 5), .int (l9 6)])), (cl, .inr (1, [.int n0, .ref c1, .ref c2, .ref c3, .ref c4, .ref c5, .ref c6, .ref c7])), (c1, .inl (T 0, 24, .inl f1)), (c2, .inl (T 0, 24, .inl f2)), (c3, .inl (T 0, 24, .inl f3)), (c4, .inl (T 0, 24, .inl f4)), (c5, .inl (T 0, 24, .inl f5)), (p0, .inl (T 1, 676, .inr (.inl f_139))), (p1, .inl (T 1, 676, .inr (.inl f_140))), (p4, .inl (T 0, 672, .inl f_141))]) hD hS hA [0, 1, 2, 3, 4, 5, 6, 7, 8, 9, 10] rfl
          refine va_calli (va_runV (As := [.int r_137, .int x2, .int x3]) (rest := [.int z_1, .ref h0]) ⟨hx, hb, hml, hown, hts⟩ (hrec _ h0 la cl p0 p1 p4 n l9 n0 c1 c2 c3 c4 c5 c6 c7 f1 f2 f3 f4 f5 f_139 f_140 f_141 r_137 x2 x3 (by omega) (by omega) (by omega) hok (by omega) hmm hlq (by omega)) (cwV 3 hts gX11_settle_X11_settle rfl rfl rfl hv_X11_settle ⟨(show _ ≤ (2 * (d + 1) + 6 : Nat) from by (try dsimp only); omega), (show _ ≤ (64 * (d + 1) + 250 : Nat) from by (try dsimp only); omega)⟩) (pWk_V (q := (RX11, TX11, 6)) (ci := 8) (q0 := 0) hP hE hD hV hS hFc rfl rfl [0, 1, 2, 3, 4, 5, 6, 7, 8, 9, 10] (by decide +kernel) rfl rfl) rfl rfl hl.1 rfl (lv_room (Nat.le_of_ble_eq_true rfl)) dX11_settle_358 ⟨Nat.le_of_ble_eq_true rfl, Nat.le_of_ble_eq_true rfl⟩) hS (fun q _ h => hFc q h) hFc (fun r_143 u_144 t H1 locs ht hvm hr_143 hB hz1 hk1 hS => ?_)
          obtain ⟨f_145, f_146, f_147⟩ := u_144
          obtain ⟨hqr_143, hsl_r_143, hfo_r_143, hstr_143⟩ := hr_143
          have hqr_143 : 0 ≤ r_143.toInt ∧ r_143.toInt < 672 := hqr_143
          have hsl_r_143 : r_143.toNatClampNeg = slN r_137 x2 x3 := hsl_r_143
          have hfo_r_143 : f_147 (slN r_137 x2 x3) = n := hfo_r_143
          have hsr_143 : stW (VALW l9 f1 f2 f3 f4 f5) n0 n (rgW r_137 x2) f_139 f_140 f_141 f_145 f_146 f_147 := hstr_143
          have hg9 : z_1.toNatClampNeg < 672 → f_147 (z_1.toNatClampNeg) = f_141 (z_1.toNatClampNeg) := fun h9 => (hsr_143.2.2.2 _ h9 (nrg_c (by omega) hsl)).2.2
          have hnf : z_1.toNatClampNeg < 672 → f_147 (z_1.toNatClampNeg) ≠ n := fun h9 => by rw [hg9 h9]; exact hnf h9
          have hst : stW (VALW l9 f1 f2 f3 f4 f5) n0 n (rgW x1 x2) g0 g1 g4 f_145 f_146 f_147 := hst.tr hsr_143 (fun j9 h9 => rg_c (by omega) h9)
          have hmm : memW (VALW l9 f1 f2 f3 f4 f5) n0 n f_145 f_146 f_147 := hst.1
          have hv_r_143 : (f_145 (r_143.toNatClampNeg), f_146 (r_143.toNatClampNeg)) = (VALW l9 f1 f2 f3 f4 f5) r_137 x2 x3 := hst.val (by omega) (by omega) (by first | (rw [ti_0]; omega) | omega) hsl_r_143 hfo_r_143
          have hb_r_143 : 0 ≤ (f_146 (r_143.toNatClampNeg)).toInt := val_nn (VAL_low hlq.1 hlq.2 31 _ _ _) hv_r_143
          obtain ⟨hP1, hD1⟩ := hB
          rw [ht] at hP1
          obtain ⟨hP, hD⟩ := va_repl [(h0, .inr (8, [.ref la, .ref cl, .ref p0, .ref p1, .ref p4, .int n])), (la, .inr (5, [.int (l9 0), .int (l9 1), .int (l9 2), .int (l9 3), .int (l9 4), .int (l9 5), .int (l9 6)])), (cl, .inr (1, [.int n0, .ref c1, .ref c2, .ref c3, .ref c4, .ref c5, .ref c6, .ref c7])), (c1, .inl (T 0, 24, .inl f1)), (c2, .inl (T 0, 24, .inl f2)), (c3, .inl (T 0, 24, .inl f3)), (c4, .inl (T 0, 24, .inl f4)), (c5, .inl (T 0, 24, .inl f5)), (p0, .inl (T 1, 676, .inr (.inl f_145))), (p1, .inl (T 1, 676, .inr (.inl f_146))), (p4, .inl (T 0, 672, .inl f_147))] hP hD [0, 1, 2, 3, 4, 5, 6, 7, 8, 9, 10] [0, 1, 2, 3, 4, 5, 6, 7, 8, 9, 10] rfl (by decide +kernel) rfl rfl rfl hk1 hP1
          clear hP1 hD1 hFc
          generalize H1 = H at hP hS ⊢
          have hFc := va_free (wc := [(h0, .inr (8, [.ref la, .ref cl, .ref p0, .ref p1, .ref p4, .int n])), (p0, .inl (T 1, 676, .inr (.inl f_145))), (p1, .inl (T 1, 676, .inr (.inl f_146)))]) hD hS hA [0, 8, 9] rfl
          refine va_callv (va_runV (As := [.int z_1, .int r_143]) (rest := []) ⟨hx, hb, hml, hown, hts⟩ (c_X11_repeat l D T _ h0 p0 p1 (.ref la) (.ref cl) (.ref p4) n f_145 f_146 z_1 r_143 (by first | decide | omega) (by first | decide | omega)) (cwV 2 hts gX11_settle_X11_repeat rfl rfl rfl hv_X11_repeat ⟨(show _ ≤ (2 * (d + 1) + 6 : Nat) from by (try dsimp only); omega), (show _ ≤ (64 * (d + 1) + 250 : Nat) from by (try dsimp only); omega)⟩) (pW_V (q := (RX11, TX11, 6)) (ci := 8) (q0 := 0) hP hE hD rfl rfl [0, 8, 9] (by decide +kernel) rfl rfl) rfl rfl hl.1 rfl (lv_room (Nat.le_of_ble_eq_true rfl)) dX11_settle_361 ⟨Nat.le_of_ble_eq_true rfl, Nat.le_of_ble_eq_true rfl⟩) hS (fun q _ h => hFc q h) hFc (fun u_149 t H1 locs ht hvm hr_148 hB hz1 hk1 hS => ?_)
          obtain ⟨f_150, f_151⟩ := u_149
          have hrd1 : f_150 = vp_updL f_145 (z_1.toNatClampNeg) (((f_145 (r_143.toNatClampNeg)), (f_146 (r_143.toNatClampNeg)))).1 := hr_148.1
          have hrd2 : f_151 = vp_updL f_146 (z_1.toNatClampNeg) (((f_145 (r_143.toNatClampNeg)), (f_146 (r_143.toNatClampNeg)))).2 := hr_148.2
          have hnw9 : (f_150 (z_1.toNatClampNeg), f_151 (z_1.toNatClampNeg)) = ((VALW l9 f1 f2 f3 f4 f5) r_137 x2 x3) := by rw [put_at (q := ((f_145 (r_143.toNatClampNeg)), (f_146 (r_143.toNatClampNeg)))) hrd1 hrd2, hv_r_143]
          have hp_z_1 := hnw9
          have hst : stW (VALW l9 f1 f2 f3 f4 f5) n0 n (rgW x1 x2) g0 g1 g4 f_150 f_151 f_147 := by rw [hrd1, hrd2]; exact hst.put (fun h9 => ⟨rg_self (by omega) (by omega) (by omega) hsl, hnf h9⟩)
          have hmm : memW (VALW l9 f1 f2 f3 f4 f5) n0 n f_150 f_151 f_147 := hst.1
          have hv_r_143 : (f_150 (r_143.toNatClampNeg), f_151 (r_143.toNatClampNeg)) = (VALW l9 f1 f2 f3 f4 f5) r_137 x2 x3 := hst.val (by omega) (by omega) (by omega) hsl_r_143 hfo_r_143
          have hb_r_143 : 0 ≤ (f_151 (r_143.toNatClampNeg)).toInt := val_nn (VAL_low hlq.1 hlq.2 31 _ _ _) hv_r_143
          obtain ⟨hP1, hD1⟩ := hB
          rw [ht] at hP1
          obtain ⟨hP, hD⟩ := va_repl [(h0, .inr (8, [.ref la, .ref cl, .ref p0, .ref p1, .ref p4, .int n])), (la, .inr (5, [.int (l9 0), .int (l9 1), .int (l9 2), .int (l9 3), .int (l9 4), .int (l9 5), .int (l9 6)])), (cl, .inr (1, [.int n0, .ref c1, .ref c2, .ref c3, .ref c4, .ref c5, .ref c6, .ref c7])), (c1, .inl (T 0, 24, .inl f1)), (c2, .inl (T 0, 24, .inl f2)), (c3, .inl (T 0, 24, .inl f3)), (c4, .inl (T 0, 24, .inl f4)), (c5, .inl (T 0, 24, .inl f5)), (p0, .inl (T 1, 676, .inr (.inl f_150))), (p1, .inl (T 1, 676, .inr (.inl f_151))), (p4, .inl (T 0, 672, .inl f_147))] hP hD [0, 8, 9] [0, 8, 9] rfl (by decide +kernel) rfl rfl rfl hk1 hP1
          clear hP1 hD1 hFc
          generalize H1 = H at hP hS ⊢
          refine lv_aload_n hx hb dX11_settle_364 rfl (lv_at hl 4 rfl) ?_
          refine va_get (D := D) (ci := 8) (v := .ref p4) (C := RX11) (T := TX11) (N := 6) hx hb hts in_X11_settle_X11 hown hE.1 hP 0 rfl rfl 4 (by decide +kernel) (hts (.fieldLink RX11 18 "ClauseBook$Worth" "foundAt" "[I") (List.mem_of_getElem? (i := 1) rfl)) (fun _ h9 => h9) rfl dX11_settle_365 ?_
          refine lv_iload hx hb dX11_settle_368 (lv_at hl 3 rfl) ?_
          refine lv_aload_n hx hb dX11_settle_370 rfl (lv_at hl 4 rfl) ?_
          refine va_get (D := D) (ci := 8) (v := .int n) (C := RX11) (T := TX11) (N := 6) hx hb hts in_X11_settle_X11 hown hE.1 hP 0 rfl rfl 5 (by decide +kernel) (hts (.fieldLink RX11 22 "ClauseBook$Worth" "age" "I") (List.mem_of_getElem? (i := 2) rfl)) (fun _ h9 => h9) rfl dX11_settle_371 ?_
          refine va_iast hx hb hE.1 hP hD hS 10 0 rfl rfl (by rw [vp_in_iff]; first | omega | (subst_vars; omega)) dX11_settle_374 (fun H locs hP hD hS => ?_)
          obtain ⟨hP, hD⟩ := wPD [(h0, .inr (8, [.ref la, .ref cl, .ref p0, .ref p1, .ref p4, .int n])), (la, .inr (5, [.int (l9 0), .int (l9 1), .int (l9 2), .int (l9 3), .int (l9 4), .int (l9 5), .int (l9 6)])), (cl, .inr (1, [.int n0, .ref c1, .ref c2, .ref c3, .ref c4, .ref c5, .ref c6, .ref c7])), (c1, .inl (T 0, 24, .inl f1)), (c2, .inl (T 0, 24, .inl f2)), (c3, .inl (T 0, 24, .inl f3)), (c4, .inl (T 0, 24, .inl f4)), (c5, .inl (T 0, 24, .inl f5)), (p0, .inl (T 1, 676, .inr (.inl f_150))), (p1, .inl (T 1, 676, .inr (.inl f_151))), (p4, .inl (T 0, 672, .inl (upd f_147 (z_1.toNatClampNeg) n)))] hP hD rfl
          refine lv_iload hx hb dX11_settle_375 (lv_at hl 3 rfl) ?_
          exact W.iret hx hb hr (fun t ht hW => ⟨⟨_, (f_150, f_151, (upd f_147 (z_1.toNatClampNeg) n)), rfl, ⟨hsb, hsl, (by rw [← hsl]; exact upd_at), hst.mark (by omega) (by omega) (by omega) (by omega) hsl (rg_self (by omega) (by omega) (by omega) hsl) (by rw [hp_z_1, VAL_step (l := l9) (fn := f2) (x := x1) (t := x2) (k := x3) hok (by omega) (by omega), sw_p (l := l9) (fk := f1) (fn := f2) (fc := f3) (fd := f4) (fe := f5) (V := (VALW l9 f1 f2 f3 f4 f5)) (x := x1) (t := x2) (k := x3) (show ¬ (f5 (x1.toNatClampNeg)).toInt < x2.toInt from by omega) (by omega), if_neg (show ¬ pickW l9 f1 f2 f3 f4 f5 (VALW l9 f1 f2 f3 f4 f5) x1 x2 x3 = -5 from by rw [← hpk_r_137]; intro h9; have h7 : r_137.toInt = -5 := (by rw [h9]; decide); omega), ← hpk_r_137])⟩, by rw [ht]; exact hP.sub [0, 1, 2, 3, 4, 5, 6, 7, 8, 9, 10] rfl, hD.sub [0, 1, 2, 3, 4, 5, 6, 7, 8, 9, 10] (by decide +kernel) rfl⟩, hS.F ht⟩) hS.2.2 dX11_settle_377
        · rw [fa_eq] at c_142
          try rw [ti_n5] at c_142
          refine lv_aload_n hx hb dX11_settle_339 rfl (lv_at hl 4 rfl) ?_
          refine lv_iload hx hb dX11_settle_340 (lv_at hl 3 rfl) ?_
          refine lv_lconst (v := 0) hx hb dX11_settle_342 (by decide +kernel) ?_
          refine lv_lconst (v := 0) hx hb dX11_settle_343 (by decide +kernel) ?_
          have hFc := va_free (wc := [(h0, .inr (8, [.ref la, .ref cl, .ref p0, .ref p1, .ref p4, .int n])), (p0, .inl (T 1, 676, .inr (.inl f_139))), (p1, .inl (T 1, 676, .inr (.inl f_140)))]) hD hS hA [0, 8, 9] rfl
          refine va_callv (va_runV (As := [.int z_1, .long 0, .long 0]) (rest := []) ⟨hx, hb, hml, hown, hts⟩ (c_X11_assign l D T _ h0 p0 p1 (.ref la) (.ref cl) (.ref p4) n f_139 f_140 z_1 0 0 (by first | decide | omega)) (cwV 3 hts gX11_settle_X11_assign rfl rfl rfl hv_X11_assign ⟨(show _ ≤ (2 * (d + 1) + 6 : Nat) from by (try dsimp only); omega), (show _ ≤ (64 * (d + 1) + 250 : Nat) from by (try dsimp only); omega)⟩) (pW_V (q := (RX11, TX11, 6)) (ci := 8) (q0 := 0) hP hE hD rfl rfl [0, 8, 9] (by decide +kernel) rfl rfl) rfl rfl hl.1 rfl (lv_room (Nat.le_of_ble_eq_true rfl)) dX11_settle_344 ⟨Nat.le_of_ble_eq_true rfl, Nat.le_of_ble_eq_true rfl⟩) hS (fun q _ h => hFc q h) hFc (fun u_153 t H1 locs ht hvm hr_152 hB hz1 hk1 hS => ?_)
          obtain ⟨f_154, f_155⟩ := u_153
          have hrd1 : f_154 = vp_updL f_139 (z_1.toNatClampNeg) (((0 : Int64), (0 : Int64))).1 := hr_152.1
          have hrd2 : f_155 = vp_updL f_140 (z_1.toNatClampNeg) (((0 : Int64), (0 : Int64))).2 := hr_152.2
          have hnw9 : (f_154 (z_1.toNatClampNeg), f_155 (z_1.toNatClampNeg)) = ((0 : Int64), (0 : Int64)) := by rw [put_at (q := ((0 : Int64), (0 : Int64))) hrd1 hrd2]
          have hp_z_1 := hnw9
          have hst : stW (VALW l9 f1 f2 f3 f4 f5) n0 n (rgW x1 x2) g0 g1 g4 f_154 f_155 f_141 := by rw [hrd1, hrd2]; exact hst.put (fun h9 => ⟨rg_self (by omega) (by omega) (by omega) hsl, hnf h9⟩)
          have hmm : memW (VALW l9 f1 f2 f3 f4 f5) n0 n f_154 f_155 f_141 := hst.1
          obtain ⟨hP1, hD1⟩ := hB
          rw [ht] at hP1
          obtain ⟨hP, hD⟩ := va_repl [(h0, .inr (8, [.ref la, .ref cl, .ref p0, .ref p1, .ref p4, .int n])), (la, .inr (5, [.int (l9 0), .int (l9 1), .int (l9 2), .int (l9 3), .int (l9 4), .int (l9 5), .int (l9 6)])), (cl, .inr (1, [.int n0, .ref c1, .ref c2, .ref c3, .ref c4, .ref c5, .ref c6, .ref c7])), (c1, .inl (T 0, 24, .inl f1)), (c2, .inl (T 0, 24, .inl f2)), (c3, .inl (T 0, 24, .inl f3)), (c4, .inl (T 0, 24, .inl f4)), (c5, .inl (T 0, 24, .inl f5)), (p0, .inl (T 1, 676, .inr (.inl f_154))), (p1, .inl (T 1, 676, .inr (.inl f_155))), (p4, .inl (T 0, 672, .inl f_141))] hP hD [0, 8, 9] [0, 8, 9] rfl (by decide +kernel) rfl rfl rfl hk1 hP1
          clear hP1 hD1 hFc
          generalize H1 = H at hP hS ⊢
          refine lv_goto (tgt := 364) hx hb dX11_settle_347 (by decide +kernel) ?_
          refine lv_aload_n hx hb dX11_settle_364 rfl (lv_at hl 4 rfl) ?_
          refine va_get (D := D) (ci := 8) (v := .ref p4) (C := RX11) (T := TX11) (N := 6) hx hb hts in_X11_settle_X11 hown hE.1 hP 0 rfl rfl 4 (by decide +kernel) (hts (.fieldLink RX11 18 "ClauseBook$Worth" "foundAt" "[I") (List.mem_of_getElem? (i := 1) rfl)) (fun _ h9 => h9) rfl dX11_settle_365 ?_
          refine lv_iload hx hb dX11_settle_368 (lv_at hl 3 rfl) ?_
          refine lv_aload_n hx hb dX11_settle_370 rfl (lv_at hl 4 rfl) ?_
          refine va_get (D := D) (ci := 8) (v := .int n) (C := RX11) (T := TX11) (N := 6) hx hb hts in_X11_settle_X11 hown hE.1 hP 0 rfl rfl 5 (by decide +kernel) (hts (.fieldLink RX11 22 "ClauseBook$Worth" "age" "I") (List.mem_of_getElem? (i := 2) rfl)) (fun _ h9 => h9) rfl dX11_settle_371 ?_
          refine va_iast hx hb hE.1 hP hD hS 10 0 rfl rfl (by rw [vp_in_iff]; first | omega | (subst_vars; omega)) dX11_settle_374 (fun H locs hP hD hS => ?_)
          obtain ⟨hP, hD⟩ := wPD [(h0, .inr (8, [.ref la, .ref cl, .ref p0, .ref p1, .ref p4, .int n])), (la, .inr (5, [.int (l9 0), .int (l9 1), .int (l9 2), .int (l9 3), .int (l9 4), .int (l9 5), .int (l9 6)])), (cl, .inr (1, [.int n0, .ref c1, .ref c2, .ref c3, .ref c4, .ref c5, .ref c6, .ref c7])), (c1, .inl (T 0, 24, .inl f1)), (c2, .inl (T 0, 24, .inl f2)), (c3, .inl (T 0, 24, .inl f3)), (c4, .inl (T 0, 24, .inl f4)), (c5, .inl (T 0, 24, .inl f5)), (p0, .inl (T 1, 676, .inr (.inl f_154))), (p1, .inl (T 1, 676, .inr (.inl f_155))), (p4, .inl (T 0, 672, .inl (upd f_141 (z_1.toNatClampNeg) n)))] hP hD rfl
          refine lv_iload hx hb dX11_settle_375 (lv_at hl 3 rfl) ?_
          exact W.iret hx hb hr (fun t ht hW => ⟨⟨_, (f_154, f_155, (upd f_141 (z_1.toNatClampNeg) n)), rfl, ⟨hsb, hsl, (by rw [← hsl]; exact upd_at), hst.mark (by omega) (by omega) (by omega) (by omega) hsl (rg_self (by omega) (by omega) (by omega) hsl) (by rw [hp_z_1, VAL_step (l := l9) (fn := f2) (x := x1) (t := x2) (k := x3) hok (by omega) (by omega), sw_p (l := l9) (fk := f1) (fn := f2) (fc := f3) (fd := f4) (fe := f5) (V := (VALW l9 f1 f2 f3 f4 f5)) (x := x1) (t := x2) (k := x3) (show ¬ (f5 (x1.toNatClampNeg)).toInt < x2.toInt from by omega) (by omega), if_pos (show pickW l9 f1 f2 f3 f4 f5 (VALW l9 f1 f2 f3 f4 f5) x1 x2 x3 = -5 from by rw [← hpk_r_137]; exact Int32.toInt_inj.1 (by have h9 : (-5 : Int32).toInt = -5 := (by decide +kernel); omega))])⟩, by rw [ht]; exact hP.sub [0, 1, 2, 3, 4, 5, 6, 7, 8, 9, 10] rfl, hD.sub [0, 1, 2, 3, 4, 5, 6, 7, 8, 9, 10] (by decide +kernel) rfl⟩, hS.F ht⟩) hS.2.2 dX11_settle_377
      · refine W.eq (g2 := F0 m 71 ls [.ref (ad 10)]) (by rw [hk9]) ?_
        have hc9 : 0 ≤ z_4.toInt ∧ z_4.toInt < x1.toInt := by
          have h := (hok _ (in24 (x := x1) (by omega)).1).2.1 (by rw [hk9]; decide)
          have h2 := (in24 (x := x1) (by omega)).2
          rw [ez_4]
          omega
        refine lv_astore (lv' := [(6, .ref (ad 10)), (5, .int z_4), (4, .int z_1), (0, .ref h0), (1, .int x1), (2, .int x2), (3, .int x3)]) hx hb dX11_settle_71 hl (by decide +kernel) rfl (fun ls hl => ?_)
        refine va_gets (v := .ref (av 13)) hx hb hV.2.2.2.2.1 hS hown (hts (.fieldLink RX11 58 "ClauseBook$1" "$SwitchMap$ClauseBook$Kind" "[I") (List.mem_of_getElem? (i := 7) rfl)) (fun _ h9 => h9) dX11_settle_73 ?_
        refine lv_aload hx hb dX11_settle_76 (lv_at hl 0 rfl) ?_
        refine vp_callSi (va_Run.run (va_runU (As := []) (rest := [.ref (av 13)]) ⟨hx, hb, hml, hown, hts⟩ (c_Jx29ce0_ordinal_8abf5 l D T ad sa av ta 10 (by decide +kernel)) (va_cwU 0 hts gX11_settle_Jx29ce0_ordinal_8abf5_u63X7 rfl rfl rfl rfl (by decide +kernel) ⟨(show _ ≤ (2 * (d + 1) + 6 : Nat) from by (try dsimp only); omega), (show _ ≤ (64 * (d + 1) + 250 : Nat) from by (try dsimp only); omega)⟩) (pRk_VE (i := 10) (by decide +kernel) hP hE hV hS [] rfl) rfl rfl hl.1 rfl (lv_room (Nat.le_of_ble_eq_true rfl)) dX11_settle_78 ⟨Nat.le_of_ble_eq_true rfl, Nat.le_of_ble_eq_true rfl⟩)) (fun r_156 hr_156 => ?_)
        obtain rfl : (odT 10) = r_156 := (hr_156).symm
        refine va_ti (v := .int (swT 10)) hx hb hV.2.2.2.2.2.1 hS (odT_in (by decide +kernel)) (congrArg (fun z => Value.int (swT z)) (odT_at (by decide +kernel))) dX11_settle_81 ?_
        refine lv_topi (fun z_157 ez_157 => ?_)
        obtain rfl : z_157 = 7 := ez_157.trans (by decide +kernel)
        refine lv_tableIn (off := 177) (tgt := 259) hx hb dX11_settle_82 (by decide +kernel) (by decide +kernel) (by decide +kernel) (by decide +kernel) ?_
        refine lv_iload_n hx hb dX11_settle_259 rfl (lv_at hl 5 rfl) ?_
        refine lv_aload_n hx hb dX11_settle_260 rfl (lv_at hl 3 rfl) ?_
        refine va_get (D := D) (ci := 8) (v := .ref cl) (C := RX11) (T := TX11) (N := 6) hx hb hts in_X11_settle_X11 hown hE.1 hP 0 rfl rfl 1 (by decide +kernel) (hts (.fieldLink RX11 30 "ClauseBook$Worth" "clauses" "LClauseBook$Clauses;") (List.mem_of_getElem? (i := 3) rfl)) (fun _ h9 => h9) rfl dX11_settle_261 ?_
        refine va_get (D := D) (ci := 1) (v := .ref c5) (C := RX2) (T := TX2) (N := 8) hx hb hts in_X11_settle_X2 hown hE.1 hP 2 rfl rfl 5 (by decide +kernel) (hts (.fieldLink RX11 45 "ClauseBook$Clauses" "end" "[I") (List.mem_of_getElem? (i := 5) rfl)) (fun _ h9 => h9) rfl dX11_settle_264 ?_
        refine lv_iload_n hx hb dX11_settle_267 rfl (lv_at hl 4 rfl) ?_
        refine va_iald hx hb hE.1 hP 7 0 rfl rfl (by rw [vp_in_iff]; first | omega | (subst_vars; omega)) dX11_settle_268 ?_
        refine lv_topi (fun z_158 ez_158 => ?_)
        have hzz_158 : z_158.toInt = (f5 (x1.toNatClampNeg)).toInt := by rw [ez_158]
        refine lv_icmp_ne (tgt := 289) hx hb dX11_settle_269 (by decide +kernel) (fun c_159 => ?_) (fun c_159 => ?_)
        · rw [fa_eq] at c_159
          refine lv_aload_n hx hb dX11_settle_289 rfl (lv_at hl 3 rfl) ?_
          refine lv_iload hx hb dX11_settle_290 (lv_at hl 2 rfl) ?_
          refine lv_iload_n hx hb dX11_settle_292 rfl (lv_at hl 4 rfl) ?_
          refine lv_iload_n hx hb dX11_settle_293 rfl (lv_at hl 5 rfl) ?_
          refine lv_iload_n hx hb dX11_settle_294 rfl (lv_at hl 6 rfl) ?_
          have hFc := va_free (wc := [(h0, .inr (8, [.ref la, .ref cl, .ref p0, .ref p1, .ref p4, .int n])), (la, .inr (5, [.int (l9 0), .int (l9 1), .int (l9 2), .int (l9 3), .int (l9 4), .int (l9 5), .int (l9 6)])), (cl, .inr (1, [.int n0, .ref c1, .ref c2, .ref c3, .ref c4, .ref c5, .ref c6, .ref c7])), (c1, .inl (T 0, 24, .inl f1)), (c2, .inl (T 0, 24, .inl f2)), (c3, .inl (T 0, 24, .inl f3)), (c4, .inl (T 0, 24, .inl f4)), (c5, .inl (T 0, 24, .inl f5)), (p0, .inl (T 1, 676, .inr (.inl g0))), (p1, .inl (T 1, 676, .inr (.inl g1))), (p4, .inl (T 0, 672, .inl g4))]) hD hS hA [0, 1, 2, 3, 4, 5, 6, 7, 8, 9, 10] rfl
          refine va_callv (va_runV (As := [.int z_1, .int x1, .int x2, .int x3]) (rest := []) ⟨hx, hb, hml, hown, hts⟩ (s_X11_average l D T ad sa av ta _ h0 la cl p0 p1 p4 n l9 n0 c1 c2 c3 c4 c5 c6 c7 f1 f2 f3 f4 f5 g0 g1 g4 d z_1 x1 x2 x3 (by first | decide | omega) (by omega) (by omega) (by omega) hok (by omega) hmm hlq (by omega) (fun h9 => ⟨hnf h9, nrg_d (by omega) (by omega) hsl⟩) (by omega) hrec) (cwV 4 hts gX11_settle_X11_average rfl rfl rfl hv_X11_average ⟨(show _ ≤ (2 * (d + 1) + 6 : Nat) from by (try dsimp only); omega), (show _ ≤ (64 * (d + 1) + 250 : Nat) from by (try dsimp only); omega)⟩) (pWk_V (q := (RX11, TX11, 6)) (ci := 8) (q0 := 0) hP hE hD hV hS hFc rfl rfl [0, 1, 2, 3, 4, 5, 6, 7, 8, 9, 10] (by decide +kernel) rfl rfl) rfl rfl hl.1 rfl (lv_room (Nat.le_of_ble_eq_true rfl)) dX11_settle_295 ⟨Nat.le_of_ble_eq_true rfl, Nat.le_of_ble_eq_true rfl⟩) hS (fun q _ h => hFc q h) hFc (fun u_161 t H1 locs ht hvm hr_160 hB hz1 hk1 hS => ?_)
          obtain ⟨f_162, f_163, f_164⟩ := u_161
          have hsahr_160 : stW (VALW l9 f1 f2 f3 f4 f5) n0 n (rgA z_1 x1 x2) g0 g1 g4 f_162 f_163 f_164 := hr_160.1
          have hg9 : z_1.toNatClampNeg < 672 → f_164 (z_1.toNatClampNeg) = g4 (z_1.toNatClampNeg) := hr_160.2.2
          have hnf : z_1.toNatClampNeg < 672 → f_164 (z_1.toNatClampNeg) ≠ n := fun h9 => by rw [hg9 h9]; exact hnf h9
          have hst : stW (VALW l9 f1 f2 f3 f4 f5) n0 n (rgW x1 x2) g0 g1 g4 f_162 f_163 f_164 := hst.tr hsahr_160 (fun j9 h9 => rg_a (by omega) (by omega) (by omega) hsl h9)
          have hmm : memW (VALW l9 f1 f2 f3 f4 f5) n0 n f_162 f_163 f_164 := hst.1
          have hp_z_1 : (f_162 (z_1.toNatClampNeg), f_163 (z_1.toNatClampNeg)) = avgW l9 (VALW l9 f1 f2 f3 f4 f5) x1 x2 x3 := hr_160.2.1
          obtain ⟨hP1, hD1⟩ := hB
          rw [ht] at hP1
          obtain ⟨hP, hD⟩ := va_repl [(h0, .inr (8, [.ref la, .ref cl, .ref p0, .ref p1, .ref p4, .int n])), (la, .inr (5, [.int (l9 0), .int (l9 1), .int (l9 2), .int (l9 3), .int (l9 4), .int (l9 5), .int (l9 6)])), (cl, .inr (1, [.int n0, .ref c1, .ref c2, .ref c3, .ref c4, .ref c5, .ref c6, .ref c7])), (c1, .inl (T 0, 24, .inl f1)), (c2, .inl (T 0, 24, .inl f2)), (c3, .inl (T 0, 24, .inl f3)), (c4, .inl (T 0, 24, .inl f4)), (c5, .inl (T 0, 24, .inl f5)), (p0, .inl (T 1, 676, .inr (.inl f_162))), (p1, .inl (T 1, 676, .inr (.inl f_163))), (p4, .inl (T 0, 672, .inl f_164))] hP hD [0, 1, 2, 3, 4, 5, 6, 7, 8, 9, 10] [0, 1, 2, 3, 4, 5, 6, 7, 8, 9, 10] rfl (by decide +kernel) rfl rfl rfl hk1 hP1
          clear hP1 hD1 hFc
          generalize H1 = H at hP hS ⊢
          refine lv_aload hx hb dX11_settle_298 (lv_at hl 0 rfl) ?_
          refine va_gets (v := .ref (ad 11)) hx hb (hV.1.1.1 11 (by decide +kernel)).1 hS hown (hts (.fieldLink RX11 105 "ClauseBook$Kind" "FREE" "LClauseBook$Kind;") (List.mem_of_getElem? (i := 12) rfl)) (fun _ h9 => h9) dX11_settle_300 ?_
          refine lv_acmp_ne (rx := some (ad 10)) (ry := some (ad 11)) (tgt := 364) hx hb dX11_settle_303 (by decide +kernel) (fun _ => ?_) (fun c9 => absurd c9 (fun h => absurd (hV.1.1.2 10 11 (by decide +kernel) (by decide +kernel) (Option.some.inj h)) (by decide +kernel)))
          refine lv_aload_n hx hb dX11_settle_364 rfl (lv_at hl 3 rfl) ?_
          refine va_get (D := D) (ci := 8) (v := .ref p4) (C := RX11) (T := TX11) (N := 6) hx hb hts in_X11_settle_X11 hown hE.1 hP 0 rfl rfl 4 (by decide +kernel) (hts (.fieldLink RX11 18 "ClauseBook$Worth" "foundAt" "[I") (List.mem_of_getElem? (i := 1) rfl)) (fun _ h9 => h9) rfl dX11_settle_365 ?_
          refine lv_iload hx hb dX11_settle_368 (lv_at hl 2 rfl) ?_
          refine lv_aload_n hx hb dX11_settle_370 rfl (lv_at hl 3 rfl) ?_
          refine va_get (D := D) (ci := 8) (v := .int n) (C := RX11) (T := TX11) (N := 6) hx hb hts in_X11_settle_X11 hown hE.1 hP 0 rfl rfl 5 (by decide +kernel) (hts (.fieldLink RX11 22 "ClauseBook$Worth" "age" "I") (List.mem_of_getElem? (i := 2) rfl)) (fun _ h9 => h9) rfl dX11_settle_371 ?_
          refine va_iast hx hb hE.1 hP hD hS 10 0 rfl rfl (by rw [vp_in_iff]; first | omega | (subst_vars; omega)) dX11_settle_374 (fun H locs hP hD hS => ?_)
          obtain ⟨hP, hD⟩ := wPD [(h0, .inr (8, [.ref la, .ref cl, .ref p0, .ref p1, .ref p4, .int n])), (la, .inr (5, [.int (l9 0), .int (l9 1), .int (l9 2), .int (l9 3), .int (l9 4), .int (l9 5), .int (l9 6)])), (cl, .inr (1, [.int n0, .ref c1, .ref c2, .ref c3, .ref c4, .ref c5, .ref c6, .ref c7])), (c1, .inl (T 0, 24, .inl f1)), (c2, .inl (T 0, 24, .inl f2)), (c3, .inl (T 0, 24, .inl f3)), (c4, .inl (T 0, 24, .inl f4)), (c5, .inl (T 0, 24, .inl f5)), (p0, .inl (T 1, 676, .inr (.inl f_162))), (p1, .inl (T 1, 676, .inr (.inl f_163))), (p4, .inl (T 0, 672, .inl (upd f_164 (z_1.toNatClampNeg) n)))] hP hD rfl
          refine lv_iload hx hb dX11_settle_375 (lv_at hl 2 rfl) ?_
          exact W.iret hx hb hr (fun t ht hW => ⟨⟨_, (f_162, f_163, (upd f_164 (z_1.toNatClampNeg) n)), rfl, ⟨hsb, hsl, (by rw [← hsl]; exact upd_at), hst.mark (by omega) (by omega) (by omega) (by omega) hsl (rg_self (by omega) (by omega) (by omega) hsl) (by rw [hp_z_1, VAL_step (l := l9) (fn := f2) (x := x1) (t := x2) (k := x3) hok (by omega) (by omega), sw_10 (l := l9) (fk := f1) (fn := f2) (fc := f3) (fd := f4) (fe := f5) (V := (VALW l9 f1 f2 f3 f4 f5)) (x := x1) (t := x2) (k := x3) (show ¬ (f5 (x1.toNatClampNeg)).toInt < x2.toInt from by omega) hk9, if_neg (show ¬ x2.toInt = (f5 (x1.toNatClampNeg)).toInt from by omega)])⟩, by rw [ht]; exact hP.sub [0, 1, 2, 3, 4, 5, 6, 7, 8, 9, 10] rfl, hD.sub [0, 1, 2, 3, 4, 5, 6, 7, 8, 9, 10] (by decide +kernel) rfl⟩, hS.F ht⟩) hS.2.2 dX11_settle_377
        · rw [fa_eq] at c_159
          refine lv_aload_n hx hb dX11_settle_272 rfl (lv_at hl 3 rfl) ?_
          refine lv_iload hx hb dX11_settle_273 (lv_at hl 2 rfl) ?_
          refine lv_aload_n hx hb dX11_settle_275 rfl (lv_at hl 3 rfl) ?_
          refine lv_iload hx hb dX11_settle_276 (lv_at hl 1 rfl) ?_
          refine lv_iload_n hx hb dX11_settle_278 rfl (lv_at hl 5 rfl) ?_
          refine lv_iload_n hx hb dX11_settle_279 rfl (lv_at hl 6 rfl) ?_
          have hFc := va_free (wc := [(h0, .inr (8, [.ref la, .ref cl, .ref p0, .ref p1, .ref p4, .int n])), (la, .inr (5, [.int (l9 0), .int (l9 1), .int (l9 2), .int (l9 3), .int (l9 4), .int (l9 5), .int (l9 6)])), (cl, .inr (1, [.int n0, .ref c1, .ref c2, .ref c3, .ref c4, .ref c5, .ref c6, .ref c7])), (c1, .inl (T 0, 24, .inl f1)), (c2, .inl (T 0, 24, .inl f2)), (c3, .inl (T 0, 24, .inl f3)), (c4, .inl (T 0, 24, .inl f4)), (c5, .inl (T 0, 24, .inl f5)), (p0, .inl (T 1, 676, .inr (.inl g0))), (p1, .inl (T 1, 676, .inr (.inl g1))), (p4, .inl (T 0, 672, .inl g4))]) hD hS hA [0, 1, 2, 3, 4, 5, 6, 7, 8, 9, 10] rfl
          refine va_calli (va_runV (As := [.int z_4, .int x2, .int x3]) (rest := [.int z_1, .ref h0]) ⟨hx, hb, hml, hown, hts⟩ (hrec _ h0 la cl p0 p1 p4 n l9 n0 c1 c2 c3 c4 c5 c6 c7 f1 f2 f3 f4 f5 g0 g1 g4 z_4 x2 x3 (by omega) (by omega) (by omega) hok (by omega) hmm hlq (by omega)) (cwV 3 hts gX11_settle_X11_settle rfl rfl rfl hv_X11_settle ⟨(show _ ≤ (2 * (d + 1) + 6 : Nat) from by (try dsimp only); omega), (show _ ≤ (64 * (d + 1) + 250 : Nat) from by (try dsimp only); omega)⟩) (pWk_V (q := (RX11, TX11, 6)) (ci := 8) (q0 := 0) hP hE hD hV hS hFc rfl rfl [0, 1, 2, 3, 4, 5, 6, 7, 8, 9, 10] (by decide +kernel) rfl rfl) rfl rfl hl.1 rfl (lv_room (Nat.le_of_ble_eq_true rfl)) dX11_settle_280 ⟨Nat.le_of_ble_eq_true rfl, Nat.le_of_ble_eq_true rfl⟩) hS (fun q _ h => hFc q h) hFc (fun r_165 u_166 t H1 locs ht hvm hr_165 hB hz1 hk1 hS => ?_)
          obtain ⟨f_167, f_168, f_169⟩ := u_166
          obtain ⟨hqr_165, hsl_r_165, hfo_r_165, hstr_165⟩ := hr_165
          have hqr_165 : 0 ≤ r_165.toInt ∧ r_165.toInt < 672 := hqr_165
          have hsl_r_165 : r_165.toNatClampNeg = slN z_4 x2 x3 := hsl_r_165
          have hfo_r_165 : f_169 (slN z_4 x2 x3) = n := hfo_r_165
          have hsr_165 : stW (VALW l9 f1 f2 f3 f4 f5) n0 n (rgW z_4 x2) g0 g1 g4 f_167 f_168 f_169 := hstr_165
          have hg9 : z_1.toNatClampNeg < 672 → f_169 (z_1.toNatClampNeg) = g4 (z_1.toNatClampNeg) := fun h9 => (hsr_165.2.2.2 _ h9 (nrg_c (by omega) hsl)).2.2
          have hnf : z_1.toNatClampNeg < 672 → f_169 (z_1.toNatClampNeg) ≠ n := fun h9 => by rw [hg9 h9]; exact hnf h9
          have hst : stW (VALW l9 f1 f2 f3 f4 f5) n0 n (rgW x1 x2) g0 g1 g4 f_167 f_168 f_169 := hst.tr hsr_165 (fun j9 h9 => rg_c (by omega) h9)
          have hmm : memW (VALW l9 f1 f2 f3 f4 f5) n0 n f_167 f_168 f_169 := hst.1
          have hv_r_165 : (f_167 (r_165.toNatClampNeg), f_168 (r_165.toNatClampNeg)) = (VALW l9 f1 f2 f3 f4 f5) z_4 x2 x3 := hst.val (by omega) (by omega) (by first | (rw [ti_0]; omega) | omega) hsl_r_165 hfo_r_165
          have hb_r_165 : 0 ≤ (f_168 (r_165.toNatClampNeg)).toInt := val_nn (VAL_low hlq.1 hlq.2 31 _ _ _) hv_r_165
          obtain ⟨hP1, hD1⟩ := hB
          rw [ht] at hP1
          obtain ⟨hP, hD⟩ := va_repl [(h0, .inr (8, [.ref la, .ref cl, .ref p0, .ref p1, .ref p4, .int n])), (la, .inr (5, [.int (l9 0), .int (l9 1), .int (l9 2), .int (l9 3), .int (l9 4), .int (l9 5), .int (l9 6)])), (cl, .inr (1, [.int n0, .ref c1, .ref c2, .ref c3, .ref c4, .ref c5, .ref c6, .ref c7])), (c1, .inl (T 0, 24, .inl f1)), (c2, .inl (T 0, 24, .inl f2)), (c3, .inl (T 0, 24, .inl f3)), (c4, .inl (T 0, 24, .inl f4)), (c5, .inl (T 0, 24, .inl f5)), (p0, .inl (T 1, 676, .inr (.inl f_167))), (p1, .inl (T 1, 676, .inr (.inl f_168))), (p4, .inl (T 0, 672, .inl f_169))] hP hD [0, 1, 2, 3, 4, 5, 6, 7, 8, 9, 10] [0, 1, 2, 3, 4, 5, 6, 7, 8, 9, 10] rfl (by decide +kernel) rfl rfl rfl hk1 hP1
          clear hP1 hD1 hFc
          generalize H1 = H at hP hS ⊢
          have hFc := va_free (wc := [(h0, .inr (8, [.ref la, .ref cl, .ref p0, .ref p1, .ref p4, .int n])), (p0, .inl (T 1, 676, .inr (.inl f_167))), (p1, .inl (T 1, 676, .inr (.inl f_168)))]) hD hS hA [0, 8, 9] rfl
          refine va_callv (va_runV (As := [.int z_1, .int r_165]) (rest := []) ⟨hx, hb, hml, hown, hts⟩ (c_X11_repeat l D T _ h0 p0 p1 (.ref la) (.ref cl) (.ref p4) n f_167 f_168 z_1 r_165 (by first | decide | omega) (by first | decide | omega)) (cwV 2 hts gX11_settle_X11_repeat rfl rfl rfl hv_X11_repeat ⟨(show _ ≤ (2 * (d + 1) + 6 : Nat) from by (try dsimp only); omega), (show _ ≤ (64 * (d + 1) + 250 : Nat) from by (try dsimp only); omega)⟩) (pW_V (q := (RX11, TX11, 6)) (ci := 8) (q0 := 0) hP hE hD rfl rfl [0, 8, 9] (by decide +kernel) rfl rfl) rfl rfl hl.1 rfl (lv_room (Nat.le_of_ble_eq_true rfl)) dX11_settle_283 ⟨Nat.le_of_ble_eq_true rfl, Nat.le_of_ble_eq_true rfl⟩) hS (fun q _ h => hFc q h) hFc (fun u_171 t H1 locs ht hvm hr_170 hB hz1 hk1 hS => ?_)
          obtain ⟨f_172, f_173⟩ := u_171
          have hrd1 : f_172 = vp_updL f_167 (z_1.toNatClampNeg) (((f_167 (r_165.toNatClampNeg)), (f_168 (r_165.toNatClampNeg)))).1 := hr_170.1
          have hrd2 : f_173 = vp_updL f_168 (z_1.toNatClampNeg) (((f_167 (r_165.toNatClampNeg)), (f_168 (r_165.toNatClampNeg)))).2 := hr_170.2
          have hnw9 : (f_172 (z_1.toNatClampNeg), f_173 (z_1.toNatClampNeg)) = ((VALW l9 f1 f2 f3 f4 f5) z_4 x2 x3) := by rw [put_at (q := ((f_167 (r_165.toNatClampNeg)), (f_168 (r_165.toNatClampNeg)))) hrd1 hrd2, hv_r_165]
          have hp_z_1 := hnw9
          have hst : stW (VALW l9 f1 f2 f3 f4 f5) n0 n (rgW x1 x2) g0 g1 g4 f_172 f_173 f_169 := by rw [hrd1, hrd2]; exact hst.put (fun h9 => ⟨rg_self (by omega) (by omega) (by omega) hsl, hnf h9⟩)
          have hmm : memW (VALW l9 f1 f2 f3 f4 f5) n0 n f_172 f_173 f_169 := hst.1
          have hv_r_165 : (f_172 (r_165.toNatClampNeg), f_173 (r_165.toNatClampNeg)) = (VALW l9 f1 f2 f3 f4 f5) z_4 x2 x3 := hst.val (by omega) (by omega) (by omega) hsl_r_165 hfo_r_165
          have hb_r_165 : 0 ≤ (f_173 (r_165.toNatClampNeg)).toInt := val_nn (VAL_low hlq.1 hlq.2 31 _ _ _) hv_r_165
          obtain ⟨hP1, hD1⟩ := hB
          rw [ht] at hP1
          obtain ⟨hP, hD⟩ := va_repl [(h0, .inr (8, [.ref la, .ref cl, .ref p0, .ref p1, .ref p4, .int n])), (la, .inr (5, [.int (l9 0), .int (l9 1), .int (l9 2), .int (l9 3), .int (l9 4), .int (l9 5), .int (l9 6)])), (cl, .inr (1, [.int n0, .ref c1, .ref c2, .ref c3, .ref c4, .ref c5, .ref c6, .ref c7])), (c1, .inl (T 0, 24, .inl f1)), (c2, .inl (T 0, 24, .inl f2)), (c3, .inl (T 0, 24, .inl f3)), (c4, .inl (T 0, 24, .inl f4)), (c5, .inl (T 0, 24, .inl f5)), (p0, .inl (T 1, 676, .inr (.inl f_172))), (p1, .inl (T 1, 676, .inr (.inl f_173))), (p4, .inl (T 0, 672, .inl f_169))] hP hD [0, 8, 9] [0, 8, 9] rfl (by decide +kernel) rfl rfl rfl hk1 hP1
          clear hP1 hD1 hFc
          generalize H1 = H at hP hS ⊢
          refine lv_goto (tgt := 364) hx hb dX11_settle_286 (by decide +kernel) ?_
          refine lv_aload_n hx hb dX11_settle_364 rfl (lv_at hl 3 rfl) ?_
          refine va_get (D := D) (ci := 8) (v := .ref p4) (C := RX11) (T := TX11) (N := 6) hx hb hts in_X11_settle_X11 hown hE.1 hP 0 rfl rfl 4 (by decide +kernel) (hts (.fieldLink RX11 18 "ClauseBook$Worth" "foundAt" "[I") (List.mem_of_getElem? (i := 1) rfl)) (fun _ h9 => h9) rfl dX11_settle_365 ?_
          refine lv_iload hx hb dX11_settle_368 (lv_at hl 2 rfl) ?_
          refine lv_aload_n hx hb dX11_settle_370 rfl (lv_at hl 3 rfl) ?_
          refine va_get (D := D) (ci := 8) (v := .int n) (C := RX11) (T := TX11) (N := 6) hx hb hts in_X11_settle_X11 hown hE.1 hP 0 rfl rfl 5 (by decide +kernel) (hts (.fieldLink RX11 22 "ClauseBook$Worth" "age" "I") (List.mem_of_getElem? (i := 2) rfl)) (fun _ h9 => h9) rfl dX11_settle_371 ?_
          refine va_iast hx hb hE.1 hP hD hS 10 0 rfl rfl (by rw [vp_in_iff]; first | omega | (subst_vars; omega)) dX11_settle_374 (fun H locs hP hD hS => ?_)
          obtain ⟨hP, hD⟩ := wPD [(h0, .inr (8, [.ref la, .ref cl, .ref p0, .ref p1, .ref p4, .int n])), (la, .inr (5, [.int (l9 0), .int (l9 1), .int (l9 2), .int (l9 3), .int (l9 4), .int (l9 5), .int (l9 6)])), (cl, .inr (1, [.int n0, .ref c1, .ref c2, .ref c3, .ref c4, .ref c5, .ref c6, .ref c7])), (c1, .inl (T 0, 24, .inl f1)), (c2, .inl (T 0, 24, .inl f2)), (c3, .inl (T 0, 24, .inl f3)), (c4, .inl (T 0, 24, .inl f4)), (c5, .inl (T 0, 24, .inl f5)), (p0, .inl (T 1, 676, .inr (.inl f_172))), (p1, .inl (T 1, 676, .inr (.inl f_173))), (p4, .inl (T 0, 672, .inl (upd f_169 (z_1.toNatClampNeg) n)))] hP hD rfl
          refine lv_iload hx hb dX11_settle_375 (lv_at hl 2 rfl) ?_
          exact W.iret hx hb hr (fun t ht hW => ⟨⟨_, (f_172, f_173, (upd f_169 (z_1.toNatClampNeg) n)), rfl, ⟨hsb, hsl, (by rw [← hsl]; exact upd_at), hst.mark (by omega) (by omega) (by omega) (by omega) hsl (rg_self (by omega) (by omega) (by omega) hsl) (by rw [hp_z_1, VAL_step (l := l9) (fn := f2) (x := x1) (t := x2) (k := x3) hok (by omega) (by omega), sw_10 (l := l9) (fk := f1) (fn := f2) (fc := f3) (fd := f4) (fe := f5) (V := (VALW l9 f1 f2 f3 f4 f5)) (x := x1) (t := x2) (k := x3) (show ¬ (f5 (x1.toNatClampNeg)).toInt < x2.toInt from by omega) hk9, if_pos (show x2.toInt = (f5 (x1.toNatClampNeg)).toInt from by omega), ← ez_4])⟩, by rw [ht]; exact hP.sub [0, 1, 2, 3, 4, 5, 6, 7, 8, 9, 10] rfl, hD.sub [0, 1, 2, 3, 4, 5, 6, 7, 8, 9, 10] (by decide +kernel) rfl⟩, hS.F ht⟩) hS.2.2 dX11_settle_377
      · refine W.eq (g2 := F0 m 71 ls [.ref (ad 11)]) (by rw [hk9]) ?_
        have hc9 : 0 ≤ z_4.toInt ∧ z_4.toInt < x1.toInt := by
          have h := (hok _ (in24 (x := x1) (by omega)).1).2.1 (by rw [hk9]; decide)
          have h2 := (in24 (x := x1) (by omega)).2
          rw [ez_4]
          omega
        refine lv_astore (lv' := [(6, .ref (ad 11)), (5, .int z_4), (4, .int z_1), (0, .ref h0), (1, .int x1), (2, .int x2), (3, .int x3)]) hx hb dX11_settle_71 hl (by decide +kernel) rfl (fun ls hl => ?_)
        refine va_gets (v := .ref (av 13)) hx hb hV.2.2.2.2.1 hS hown (hts (.fieldLink RX11 58 "ClauseBook$1" "$SwitchMap$ClauseBook$Kind" "[I") (List.mem_of_getElem? (i := 7) rfl)) (fun _ h9 => h9) dX11_settle_73 ?_
        refine lv_aload hx hb dX11_settle_76 (lv_at hl 0 rfl) ?_
        refine vp_callSi (va_Run.run (va_runU (As := []) (rest := [.ref (av 13)]) ⟨hx, hb, hml, hown, hts⟩ (c_Jx29ce0_ordinal_8abf5 l D T ad sa av ta 11 (by decide +kernel)) (va_cwU 0 hts gX11_settle_Jx29ce0_ordinal_8abf5_u63X7 rfl rfl rfl rfl (by decide +kernel) ⟨(show _ ≤ (2 * (d + 1) + 6 : Nat) from by (try dsimp only); omega), (show _ ≤ (64 * (d + 1) + 250 : Nat) from by (try dsimp only); omega)⟩) (pRk_VE (i := 11) (by decide +kernel) hP hE hV hS [] rfl) rfl rfl hl.1 rfl (lv_room (Nat.le_of_ble_eq_true rfl)) dX11_settle_78 ⟨Nat.le_of_ble_eq_true rfl, Nat.le_of_ble_eq_true rfl⟩)) (fun r_174 hr_174 => ?_)
        obtain rfl : (odT 11) = r_174 := (hr_174).symm
        refine va_ti (v := .int (swT 11)) hx hb hV.2.2.2.2.2.1 hS (odT_in (by decide +kernel)) (congrArg (fun z => Value.int (swT z)) (odT_at (by decide +kernel))) dX11_settle_81 ?_
        refine lv_topi (fun z_175 ez_175 => ?_)
        obtain rfl : z_175 = 8 := ez_175.trans (by decide +kernel)
        refine lv_tableIn (off := 177) (tgt := 259) hx hb dX11_settle_82 (by decide +kernel) (by decide +kernel) (by decide +kernel) (by decide +kernel) ?_
        refine lv_iload_n hx hb dX11_settle_259 rfl (lv_at hl 5 rfl) ?_
        refine lv_aload_n hx hb dX11_settle_260 rfl (lv_at hl 3 rfl) ?_
        refine va_get (D := D) (ci := 8) (v := .ref cl) (C := RX11) (T := TX11) (N := 6) hx hb hts in_X11_settle_X11 hown hE.1 hP 0 rfl rfl 1 (by decide +kernel) (hts (.fieldLink RX11 30 "ClauseBook$Worth" "clauses" "LClauseBook$Clauses;") (List.mem_of_getElem? (i := 3) rfl)) (fun _ h9 => h9) rfl dX11_settle_261 ?_
        refine va_get (D := D) (ci := 1) (v := .ref c5) (C := RX2) (T := TX2) (N := 8) hx hb hts in_X11_settle_X2 hown hE.1 hP 2 rfl rfl 5 (by decide +kernel) (hts (.fieldLink RX11 45 "ClauseBook$Clauses" "end" "[I") (List.mem_of_getElem? (i := 5) rfl)) (fun _ h9 => h9) rfl dX11_settle_264 ?_
        refine lv_iload_n hx hb dX11_settle_267 rfl (lv_at hl 4 rfl) ?_
        refine va_iald hx hb hE.1 hP 7 0 rfl rfl (by rw [vp_in_iff]; first | omega | (subst_vars; omega)) dX11_settle_268 ?_
        refine lv_topi (fun z_176 ez_176 => ?_)
        have hzz_176 : z_176.toInt = (f5 (x1.toNatClampNeg)).toInt := by rw [ez_176]
        refine lv_icmp_ne (tgt := 289) hx hb dX11_settle_269 (by decide +kernel) (fun c_177 => ?_) (fun c_177 => ?_)
        · rw [fa_eq] at c_177
          refine lv_aload_n hx hb dX11_settle_289 rfl (lv_at hl 3 rfl) ?_
          refine lv_iload hx hb dX11_settle_290 (lv_at hl 2 rfl) ?_
          refine lv_iload_n hx hb dX11_settle_292 rfl (lv_at hl 4 rfl) ?_
          refine lv_iload_n hx hb dX11_settle_293 rfl (lv_at hl 5 rfl) ?_
          refine lv_iload_n hx hb dX11_settle_294 rfl (lv_at hl 6 rfl) ?_
          have hFc := va_free (wc := [(h0, .inr (8, [.ref la, .ref cl, .ref p0, .ref p1, .ref p4, .int n])), (la, .inr (5, [.int (l9 0), .int (l9 1), .int (l9 2), .int (l9 3), .int (l9 4), .int (l9 5), .int (l9 6)])), (cl, .inr (1, [.int n0, .ref c1, .ref c2, .ref c3, .ref c4, .ref c5, .ref c6, .ref c7])), (c1, .inl (T 0, 24, .inl f1)), (c2, .inl (T 0, 24, .inl f2)), (c3, .inl (T 0, 24, .inl f3)), (c4, .inl (T 0, 24, .inl f4)), (c5, .inl (T 0, 24, .inl f5)), (p0, .inl (T 1, 676, .inr (.inl g0))), (p1, .inl (T 1, 676, .inr (.inl g1))), (p4, .inl (T 0, 672, .inl g4))]) hD hS hA [0, 1, 2, 3, 4, 5, 6, 7, 8, 9, 10] rfl
          refine va_callv (va_runV (As := [.int z_1, .int x1, .int x2, .int x3]) (rest := []) ⟨hx, hb, hml, hown, hts⟩ (s_X11_average l D T ad sa av ta _ h0 la cl p0 p1 p4 n l9 n0 c1 c2 c3 c4 c5 c6 c7 f1 f2 f3 f4 f5 g0 g1 g4 d z_1 x1 x2 x3 (by first | decide | omega) (by omega) (by omega) (by omega) hok (by omega) hmm hlq (by omega) (fun h9 => ⟨hnf h9, nrg_d (by omega) (by omega) hsl⟩) (by omega) hrec) (cwV 4 hts gX11_settle_X11_average rfl rfl rfl hv_X11_average ⟨(show _ ≤ (2 * (d + 1) + 6 : Nat) from by (try dsimp only); omega), (show _ ≤ (64 * (d + 1) + 250 : Nat) from by (try dsimp only); omega)⟩) (pWk_V (q := (RX11, TX11, 6)) (ci := 8) (q0 := 0) hP hE hD hV hS hFc rfl rfl [0, 1, 2, 3, 4, 5, 6, 7, 8, 9, 10] (by decide +kernel) rfl rfl) rfl rfl hl.1 rfl (lv_room (Nat.le_of_ble_eq_true rfl)) dX11_settle_295 ⟨Nat.le_of_ble_eq_true rfl, Nat.le_of_ble_eq_true rfl⟩) hS (fun q _ h => hFc q h) hFc (fun u_179 t H1 locs ht hvm hr_178 hB hz1 hk1 hS => ?_)
          obtain ⟨f_180, f_181, f_182⟩ := u_179
          have hsahr_178 : stW (VALW l9 f1 f2 f3 f4 f5) n0 n (rgA z_1 x1 x2) g0 g1 g4 f_180 f_181 f_182 := hr_178.1
          have hg9 : z_1.toNatClampNeg < 672 → f_182 (z_1.toNatClampNeg) = g4 (z_1.toNatClampNeg) := hr_178.2.2
          have hnf : z_1.toNatClampNeg < 672 → f_182 (z_1.toNatClampNeg) ≠ n := fun h9 => by rw [hg9 h9]; exact hnf h9
          have hst : stW (VALW l9 f1 f2 f3 f4 f5) n0 n (rgW x1 x2) g0 g1 g4 f_180 f_181 f_182 := hst.tr hsahr_178 (fun j9 h9 => rg_a (by omega) (by omega) (by omega) hsl h9)
          have hmm : memW (VALW l9 f1 f2 f3 f4 f5) n0 n f_180 f_181 f_182 := hst.1
          have hp_z_1 : (f_180 (z_1.toNatClampNeg), f_181 (z_1.toNatClampNeg)) = avgW l9 (VALW l9 f1 f2 f3 f4 f5) x1 x2 x3 := hr_178.2.1
          obtain ⟨hP1, hD1⟩ := hB
          rw [ht] at hP1
          obtain ⟨hP, hD⟩ := va_repl [(h0, .inr (8, [.ref la, .ref cl, .ref p0, .ref p1, .ref p4, .int n])), (la, .inr (5, [.int (l9 0), .int (l9 1), .int (l9 2), .int (l9 3), .int (l9 4), .int (l9 5), .int (l9 6)])), (cl, .inr (1, [.int n0, .ref c1, .ref c2, .ref c3, .ref c4, .ref c5, .ref c6, .ref c7])), (c1, .inl (T 0, 24, .inl f1)), (c2, .inl (T 0, 24, .inl f2)), (c3, .inl (T 0, 24, .inl f3)), (c4, .inl (T 0, 24, .inl f4)), (c5, .inl (T 0, 24, .inl f5)), (p0, .inl (T 1, 676, .inr (.inl f_180))), (p1, .inl (T 1, 676, .inr (.inl f_181))), (p4, .inl (T 0, 672, .inl f_182))] hP hD [0, 1, 2, 3, 4, 5, 6, 7, 8, 9, 10] [0, 1, 2, 3, 4, 5, 6, 7, 8, 9, 10] rfl (by decide +kernel) rfl rfl rfl hk1 hP1
          clear hP1 hD1 hFc
          generalize H1 = H at hP hS ⊢
          refine lv_aload hx hb dX11_settle_298 (lv_at hl 0 rfl) ?_
          refine va_gets (v := .ref (ad 11)) hx hb (hV.1.1.1 11 (by decide +kernel)).1 hS hown (hts (.fieldLink RX11 105 "ClauseBook$Kind" "FREE" "LClauseBook$Kind;") (List.mem_of_getElem? (i := 12) rfl)) (fun _ h9 => h9) dX11_settle_300 ?_
          refine lv_acmp_ne (rx := some (ad 11)) (ry := some (ad 11)) (tgt := 364) hx hb dX11_settle_303 (by decide +kernel) (fun c9 => absurd c9 (not_not_intro rfl)) (fun _ => ?_)
          refine lv_aload_n hx hb dX11_settle_306 rfl (lv_at hl 3 rfl) ?_
          refine lv_iload hx hb dX11_settle_307 (lv_at hl 2 rfl) ?_
          refine lv_aload_n hx hb dX11_settle_309 rfl (lv_at hl 3 rfl) ?_
          refine lv_iload hx hb dX11_settle_310 (lv_at hl 1 rfl) ?_
          refine lv_iload_n hx hb dX11_settle_312 rfl (lv_at hl 5 rfl) ?_
          refine lv_iload_n hx hb dX11_settle_313 rfl (lv_at hl 6 rfl) ?_
          have hFc := va_free (wc := [(h0, .inr (8, [.ref la, .ref cl, .ref p0, .ref p1, .ref p4, .int n])), (la, .inr (5, [.int (l9 0), .int (l9 1), .int (l9 2), .int (l9 3), .int (l9 4), .int (l9 5), .int (l9 6)])), (cl, .inr (1, [.int n0, .ref c1, .ref c2, .ref c3, .ref c4, .ref c5, .ref c6, .ref c7])), (c1, .inl (T 0, 24, .inl f1)), (c2, .inl (T 0, 24, .inl f2)), (c3, .inl (T 0, 24, .inl f3)), (c4, .inl (T 0, 24, .inl f4)), (c5, .inl (T 0, 24, .inl f5)), (p0, .inl (T 1, 676, .inr (.inl f_180))), (p1, .inl (T 1, 676, .inr (.inl f_181))), (p4, .inl (T 0, 672, .inl f_182))]) hD hS hA [0, 1, 2, 3, 4, 5, 6, 7, 8, 9, 10] rfl
          refine va_calli (va_runV (As := [.int z_4, .int x2, .int x3]) (rest := [.int z_1, .ref h0]) ⟨hx, hb, hml, hown, hts⟩ (hrec _ h0 la cl p0 p1 p4 n l9 n0 c1 c2 c3 c4 c5 c6 c7 f1 f2 f3 f4 f5 f_180 f_181 f_182 z_4 x2 x3 (by omega) (by omega) (by omega) hok (by omega) hmm hlq (by omega)) (cwV 3 hts gX11_settle_X11_settle rfl rfl rfl hv_X11_settle ⟨(show _ ≤ (2 * (d + 1) + 6 : Nat) from by (try dsimp only); omega), (show _ ≤ (64 * (d + 1) + 250 : Nat) from by (try dsimp only); omega)⟩) (pWk_V (q := (RX11, TX11, 6)) (ci := 8) (q0 := 0) hP hE hD hV hS hFc rfl rfl [0, 1, 2, 3, 4, 5, 6, 7, 8, 9, 10] (by decide +kernel) rfl rfl) rfl rfl hl.1 rfl (lv_room (Nat.le_of_ble_eq_true rfl)) dX11_settle_314 ⟨Nat.le_of_ble_eq_true rfl, Nat.le_of_ble_eq_true rfl⟩) hS (fun q _ h => hFc q h) hFc (fun r_183 u_184 t H1 locs ht hvm hr_183 hB hz1 hk1 hS => ?_)
          obtain ⟨f_185, f_186, f_187⟩ := u_184
          obtain ⟨hqr_183, hsl_r_183, hfo_r_183, hstr_183⟩ := hr_183
          have hqr_183 : 0 ≤ r_183.toInt ∧ r_183.toInt < 672 := hqr_183
          have hsl_r_183 : r_183.toNatClampNeg = slN z_4 x2 x3 := hsl_r_183
          have hfo_r_183 : f_187 (slN z_4 x2 x3) = n := hfo_r_183
          have hsr_183 : stW (VALW l9 f1 f2 f3 f4 f5) n0 n (rgW z_4 x2) f_180 f_181 f_182 f_185 f_186 f_187 := hstr_183
          have hg9 : z_1.toNatClampNeg < 672 → f_187 (z_1.toNatClampNeg) = f_182 (z_1.toNatClampNeg) := fun h9 => (hsr_183.2.2.2 _ h9 (nrg_c (by omega) hsl)).2.2
          have hnf : z_1.toNatClampNeg < 672 → f_187 (z_1.toNatClampNeg) ≠ n := fun h9 => by rw [hg9 h9]; exact hnf h9
          have hp_z_1 : (f_185 (z_1.toNatClampNeg), f_186 (z_1.toNatClampNeg)) = avgW l9 (VALW l9 f1 f2 f3 f4 f5) x1 x2 x3 := by rw [(hsr_183.2.2.2 _ hsl9 (nrg_c (by omega) hsl)).1, (hsr_183.2.2.2 _ hsl9 (nrg_c (by omega) hsl)).2.1]; exact hp_z_1
          have hst : stW (VALW l9 f1 f2 f3 f4 f5) n0 n (rgW x1 x2) g0 g1 g4 f_185 f_186 f_187 := hst.tr hsr_183 (fun j9 h9 => rg_c (by omega) h9)
          have hmm : memW (VALW l9 f1 f2 f3 f4 f5) n0 n f_185 f_186 f_187 := hst.1
          have hv_r_183 : (f_185 (r_183.toNatClampNeg), f_186 (r_183.toNatClampNeg)) = (VALW l9 f1 f2 f3 f4 f5) z_4 x2 x3 := hst.val (by omega) (by omega) (by first | (rw [ti_0]; omega) | omega) hsl_r_183 hfo_r_183
          have hb_r_183 : 0 ≤ (f_186 (r_183.toNatClampNeg)).toInt := val_nn (VAL_low hlq.1 hlq.2 31 _ _ _) hv_r_183
          obtain ⟨hP1, hD1⟩ := hB
          rw [ht] at hP1
          obtain ⟨hP, hD⟩ := va_repl [(h0, .inr (8, [.ref la, .ref cl, .ref p0, .ref p1, .ref p4, .int n])), (la, .inr (5, [.int (l9 0), .int (l9 1), .int (l9 2), .int (l9 3), .int (l9 4), .int (l9 5), .int (l9 6)])), (cl, .inr (1, [.int n0, .ref c1, .ref c2, .ref c3, .ref c4, .ref c5, .ref c6, .ref c7])), (c1, .inl (T 0, 24, .inl f1)), (c2, .inl (T 0, 24, .inl f2)), (c3, .inl (T 0, 24, .inl f3)), (c4, .inl (T 0, 24, .inl f4)), (c5, .inl (T 0, 24, .inl f5)), (p0, .inl (T 1, 676, .inr (.inl f_185))), (p1, .inl (T 1, 676, .inr (.inl f_186))), (p4, .inl (T 0, 672, .inl f_187))] hP hD [0, 1, 2, 3, 4, 5, 6, 7, 8, 9, 10] [0, 1, 2, 3, 4, 5, 6, 7, 8, 9, 10] rfl (by decide +kernel) rfl rfl rfl hk1 hP1
          clear hP1 hD1 hFc
          generalize H1 = H at hP hS ⊢
          have hbsl : 0 ≤ (f_186 (z_1.toNatClampNeg)).toInt := val_nn (mulW_low (addW_low (mulW_low (VAL_low hlq.1 hlq.2 31 _ _ _) (by decide +kernel)) (mulW_low (VAL_low hlq.1 hlq.2 31 _ _ _) (by decide +kernel))) (wt_pos hlq.1 hlq.2)) hp_z_1
          have hFc := va_free (wc := [(h0, .inr (8, [.ref la, .ref cl, .ref p0, .ref p1, .ref p4, .int n])), (p0, .inl (T 1, 676, .inr (.inl f_185))), (p1, .inl (T 1, 676, .inr (.inl f_186)))]) hD hS hA [0, 8, 9] rfl
          refine va_callv (va_runV (As := [.int z_1, .int r_183]) (rest := []) ⟨hx, hb, hml, hown, hts⟩ (c_X11_raise l D T _ h0 p0 p1 (.ref la) (.ref cl) (.ref p4) n f_185 f_186 z_1 r_183 (by first | decide | omega) (by first | decide | omega) (by first | omega | assumption | decide) (by first | omega | assumption | decide)) (cwV 2 hts gX11_settle_X11_raise rfl rfl rfl hv_X11_raise ⟨(show _ ≤ (2 * (d + 1) + 6 : Nat) from by (try dsimp only); omega), (show _ ≤ (64 * (d + 1) + 250 : Nat) from by (try dsimp only); omega)⟩) (pW_V (q := (RX11, TX11, 6)) (ci := 8) (q0 := 0) hP hE hD rfl rfl [0, 8, 9] (by decide +kernel) rfl rfl) rfl rfl hl.1 rfl (lv_room (Nat.le_of_ble_eq_true rfl)) dX11_settle_317 ⟨Nat.le_of_ble_eq_true rfl, Nat.le_of_ble_eq_true rfl⟩) hS (fun q _ h => hFc q h) hFc (fun u_189 t H1 locs ht hvm hr_188 hB hz1 hk1 hS => ?_)
          obtain ⟨f_190, f_191⟩ := u_189
          have hrd1 : f_190 = vp_updL f_185 (z_1.toNatClampNeg) (maxW ((f_185 (z_1.toNatClampNeg)), (f_186 (z_1.toNatClampNeg))) ((f_185 (r_183.toNatClampNeg)), (f_186 (r_183.toNatClampNeg)))).1 := hr_188.1
          have hrd2 : f_191 = vp_updL f_186 (z_1.toNatClampNeg) (maxW ((f_185 (z_1.toNatClampNeg)), (f_186 (z_1.toNatClampNeg))) ((f_185 (r_183.toNatClampNeg)), (f_186 (r_183.toNatClampNeg)))).2 := hr_188.2
          have hnw9 : (f_190 (z_1.toNatClampNeg), f_191 (z_1.toNatClampNeg)) = maxW (avgW l9 (VALW l9 f1 f2 f3 f4 f5) x1 x2 x3) ((VALW l9 f1 f2 f3 f4 f5) z_4 x2 x3) := by rw [put_at (q := maxW ((f_185 (z_1.toNatClampNeg)), (f_186 (z_1.toNatClampNeg))) ((f_185 (r_183.toNatClampNeg)), (f_186 (r_183.toNatClampNeg)))) hrd1 hrd2, hv_r_183, hp_z_1]
          have hp_z_1 := hnw9
          have hst : stW (VALW l9 f1 f2 f3 f4 f5) n0 n (rgW x1 x2) g0 g1 g4 f_190 f_191 f_187 := by rw [hrd1, hrd2]; exact hst.put (fun h9 => ⟨rg_self (by omega) (by omega) (by omega) hsl, hnf h9⟩)
          have hmm : memW (VALW l9 f1 f2 f3 f4 f5) n0 n f_190 f_191 f_187 := hst.1
          have hv_r_183 : (f_190 (r_183.toNatClampNeg), f_191 (r_183.toNatClampNeg)) = (VALW l9 f1 f2 f3 f4 f5) z_4 x2 x3 := hst.val (by omega) (by omega) (by omega) hsl_r_183 hfo_r_183
          have hb_r_183 : 0 ≤ (f_191 (r_183.toNatClampNeg)).toInt := val_nn (VAL_low hlq.1 hlq.2 31 _ _ _) hv_r_183
          obtain ⟨hP1, hD1⟩ := hB
          rw [ht] at hP1
          obtain ⟨hP, hD⟩ := va_repl [(h0, .inr (8, [.ref la, .ref cl, .ref p0, .ref p1, .ref p4, .int n])), (la, .inr (5, [.int (l9 0), .int (l9 1), .int (l9 2), .int (l9 3), .int (l9 4), .int (l9 5), .int (l9 6)])), (cl, .inr (1, [.int n0, .ref c1, .ref c2, .ref c3, .ref c4, .ref c5, .ref c6, .ref c7])), (c1, .inl (T 0, 24, .inl f1)), (c2, .inl (T 0, 24, .inl f2)), (c3, .inl (T 0, 24, .inl f3)), (c4, .inl (T 0, 24, .inl f4)), (c5, .inl (T 0, 24, .inl f5)), (p0, .inl (T 1, 676, .inr (.inl f_190))), (p1, .inl (T 1, 676, .inr (.inl f_191))), (p4, .inl (T 0, 672, .inl f_187))] hP hD [0, 8, 9] [0, 8, 9] rfl (by decide +kernel) rfl rfl rfl hk1 hP1
          clear hP1 hD1 hFc
          generalize H1 = H at hP hS ⊢
          refine lv_goto (tgt := 364) hx hb dX11_settle_320 (by decide +kernel) ?_
          refine lv_aload_n hx hb dX11_settle_364 rfl (lv_at hl 3 rfl) ?_
          refine va_get (D := D) (ci := 8) (v := .ref p4) (C := RX11) (T := TX11) (N := 6) hx hb hts in_X11_settle_X11 hown hE.1 hP 0 rfl rfl 4 (by decide +kernel) (hts (.fieldLink RX11 18 "ClauseBook$Worth" "foundAt" "[I") (List.mem_of_getElem? (i := 1) rfl)) (fun _ h9 => h9) rfl dX11_settle_365 ?_
          refine lv_iload hx hb dX11_settle_368 (lv_at hl 2 rfl) ?_
          refine lv_aload_n hx hb dX11_settle_370 rfl (lv_at hl 3 rfl) ?_
          refine va_get (D := D) (ci := 8) (v := .int n) (C := RX11) (T := TX11) (N := 6) hx hb hts in_X11_settle_X11 hown hE.1 hP 0 rfl rfl 5 (by decide +kernel) (hts (.fieldLink RX11 22 "ClauseBook$Worth" "age" "I") (List.mem_of_getElem? (i := 2) rfl)) (fun _ h9 => h9) rfl dX11_settle_371 ?_
          refine va_iast hx hb hE.1 hP hD hS 10 0 rfl rfl (by rw [vp_in_iff]; first | omega | (subst_vars; omega)) dX11_settle_374 (fun H locs hP hD hS => ?_)
          obtain ⟨hP, hD⟩ := wPD [(h0, .inr (8, [.ref la, .ref cl, .ref p0, .ref p1, .ref p4, .int n])), (la, .inr (5, [.int (l9 0), .int (l9 1), .int (l9 2), .int (l9 3), .int (l9 4), .int (l9 5), .int (l9 6)])), (cl, .inr (1, [.int n0, .ref c1, .ref c2, .ref c3, .ref c4, .ref c5, .ref c6, .ref c7])), (c1, .inl (T 0, 24, .inl f1)), (c2, .inl (T 0, 24, .inl f2)), (c3, .inl (T 0, 24, .inl f3)), (c4, .inl (T 0, 24, .inl f4)), (c5, .inl (T 0, 24, .inl f5)), (p0, .inl (T 1, 676, .inr (.inl f_190))), (p1, .inl (T 1, 676, .inr (.inl f_191))), (p4, .inl (T 0, 672, .inl (upd f_187 (z_1.toNatClampNeg) n)))] hP hD rfl
          refine lv_iload hx hb dX11_settle_375 (lv_at hl 2 rfl) ?_
          exact W.iret hx hb hr (fun t ht hW => ⟨⟨_, (f_190, f_191, (upd f_187 (z_1.toNatClampNeg) n)), rfl, ⟨hsb, hsl, (by rw [← hsl]; exact upd_at), hst.mark (by omega) (by omega) (by omega) (by omega) hsl (rg_self (by omega) (by omega) (by omega) hsl) (by rw [hp_z_1, VAL_step (l := l9) (fn := f2) (x := x1) (t := x2) (k := x3) hok (by omega) (by omega), sw_11 (l := l9) (fk := f1) (fn := f2) (fc := f3) (fd := f4) (fe := f5) (V := (VALW l9 f1 f2 f3 f4 f5)) (x := x1) (t := x2) (k := x3) (show ¬ (f5 (x1.toNatClampNeg)).toInt < x2.toInt from by omega) hk9, if_neg (show ¬ x2.toInt = (f5 (x1.toNatClampNeg)).toInt from by omega), ← ez_4])⟩, by rw [ht]; exact hP.sub [0, 1, 2, 3, 4, 5, 6, 7, 8, 9, 10] rfl, hD.sub [0, 1, 2, 3, 4, 5, 6, 7, 8, 9, 10] (by decide +kernel) rfl⟩, hS.F ht⟩) hS.2.2 dX11_settle_377
        · rw [fa_eq] at c_177
          refine lv_aload_n hx hb dX11_settle_272 rfl (lv_at hl 3 rfl) ?_
          refine lv_iload hx hb dX11_settle_273 (lv_at hl 2 rfl) ?_
          refine lv_aload_n hx hb dX11_settle_275 rfl (lv_at hl 3 rfl) ?_
          refine lv_iload hx hb dX11_settle_276 (lv_at hl 1 rfl) ?_
          refine lv_iload_n hx hb dX11_settle_278 rfl (lv_at hl 5 rfl) ?_
          refine lv_iload_n hx hb dX11_settle_279 rfl (lv_at hl 6 rfl) ?_
          have hFc := va_free (wc := [(h0, .inr (8, [.ref la, .ref cl, .ref p0, .ref p1, .ref p4, .int n])), (la, .inr (5, [.int (l9 0), .int (l9 1), .int (l9 2), .int (l9 3), .int (l9 4), .int (l9 5), .int (l9 6)])), (cl, .inr (1, [.int n0, .ref c1, .ref c2, .ref c3, .ref c4, .ref c5, .ref c6, .ref c7])), (c1, .inl (T 0, 24, .inl f1)), (c2, .inl (T 0, 24, .inl f2)), (c3, .inl (T 0, 24, .inl f3)), (c4, .inl (T 0, 24, .inl f4)), (c5, .inl (T 0, 24, .inl f5)), (p0, .inl (T 1, 676, .inr (.inl g0))), (p1, .inl (T 1, 676, .inr (.inl g1))), (p4, .inl (T 0, 672, .inl g4))]) hD hS hA [0, 1, 2, 3, 4, 5, 6, 7, 8, 9, 10] rfl
          refine va_calli (va_runV (As := [.int z_4, .int x2, .int x3]) (rest := [.int z_1, .ref h0]) ⟨hx, hb, hml, hown, hts⟩ (hrec _ h0 la cl p0 p1 p4 n l9 n0 c1 c2 c3 c4 c5 c6 c7 f1 f2 f3 f4 f5 g0 g1 g4 z_4 x2 x3 (by omega) (by omega) (by omega) hok (by omega) hmm hlq (by omega)) (cwV 3 hts gX11_settle_X11_settle rfl rfl rfl hv_X11_settle ⟨(show _ ≤ (2 * (d + 1) + 6 : Nat) from by (try dsimp only); omega), (show _ ≤ (64 * (d + 1) + 250 : Nat) from by (try dsimp only); omega)⟩) (pWk_V (q := (RX11, TX11, 6)) (ci := 8) (q0 := 0) hP hE hD hV hS hFc rfl rfl [0, 1, 2, 3, 4, 5, 6, 7, 8, 9, 10] (by decide +kernel) rfl rfl) rfl rfl hl.1 rfl (lv_room (Nat.le_of_ble_eq_true rfl)) dX11_settle_280 ⟨Nat.le_of_ble_eq_true rfl, Nat.le_of_ble_eq_true rfl⟩) hS (fun q _ h => hFc q h) hFc (fun r_192 u_193 t H1 locs ht hvm hr_192 hB hz1 hk1 hS => ?_)
          obtain ⟨f_194, f_195, f_196⟩ := u_193
          obtain ⟨hqr_192, hsl_r_192, hfo_r_192, hstr_192⟩ := hr_192
          have hqr_192 : 0 ≤ r_192.toInt ∧ r_192.toInt < 672 := hqr_192
          have hsl_r_192 : r_192.toNatClampNeg = slN z_4 x2 x3 := hsl_r_192
          have hfo_r_192 : f_196 (slN z_4 x2 x3) = n := hfo_r_192
          have hsr_192 : stW (VALW l9 f1 f2 f3 f4 f5) n0 n (rgW z_4 x2) g0 g1 g4 f_194 f_195 f_196 := hstr_192
          have hg9 : z_1.toNatClampNeg < 672 → f_196 (z_1.toNatClampNeg) = g4 (z_1.toNatClampNeg) := fun h9 => (hsr_192.2.2.2 _ h9 (nrg_c (by omega) hsl)).2.2
          have hnf : z_1.toNatClampNeg < 672 → f_196 (z_1.toNatClampNeg) ≠ n := fun h9 => by rw [hg9 h9]; exact hnf h9
          have hst : stW (VALW l9 f1 f2 f3 f4 f5) n0 n (rgW x1 x2) g0 g1 g4 f_194 f_195 f_196 := hst.tr hsr_192 (fun j9 h9 => rg_c (by omega) h9)
          have hmm : memW (VALW l9 f1 f2 f3 f4 f5) n0 n f_194 f_195 f_196 := hst.1
          have hv_r_192 : (f_194 (r_192.toNatClampNeg), f_195 (r_192.toNatClampNeg)) = (VALW l9 f1 f2 f3 f4 f5) z_4 x2 x3 := hst.val (by omega) (by omega) (by first | (rw [ti_0]; omega) | omega) hsl_r_192 hfo_r_192
          have hb_r_192 : 0 ≤ (f_195 (r_192.toNatClampNeg)).toInt := val_nn (VAL_low hlq.1 hlq.2 31 _ _ _) hv_r_192
          obtain ⟨hP1, hD1⟩ := hB
          rw [ht] at hP1
          obtain ⟨hP, hD⟩ := va_repl [(h0, .inr (8, [.ref la, .ref cl, .ref p0, .ref p1, .ref p4, .int n])), (la, .inr (5, [.int (l9 0), .int (l9 1), .int (l9 2), .int (l9 3), .int (l9 4), .int (l9 5), .int (l9 6)])), (cl, .inr (1, [.int n0, .ref c1, .ref c2, .ref c3, .ref c4, .ref c5, .ref c6, .ref c7])), (c1, .inl (T 0, 24, .inl f1)), (c2, .inl (T 0, 24, .inl f2)), (c3, .inl (T 0, 24, .inl f3)), (c4, .inl (T 0, 24, .inl f4)), (c5, .inl (T 0, 24, .inl f5)), (p0, .inl (T 1, 676, .inr (.inl f_194))), (p1, .inl (T 1, 676, .inr (.inl f_195))), (p4, .inl (T 0, 672, .inl f_196))] hP hD [0, 1, 2, 3, 4, 5, 6, 7, 8, 9, 10] [0, 1, 2, 3, 4, 5, 6, 7, 8, 9, 10] rfl (by decide +kernel) rfl rfl rfl hk1 hP1
          clear hP1 hD1 hFc
          generalize H1 = H at hP hS ⊢
          have hFc := va_free (wc := [(h0, .inr (8, [.ref la, .ref cl, .ref p0, .ref p1, .ref p4, .int n])), (p0, .inl (T 1, 676, .inr (.inl f_194))), (p1, .inl (T 1, 676, .inr (.inl f_195)))]) hD hS hA [0, 8, 9] rfl
          refine va_callv (va_runV (As := [.int z_1, .int r_192]) (rest := []) ⟨hx, hb, hml, hown, hts⟩ (c_X11_repeat l D T _ h0 p0 p1 (.ref la) (.ref cl) (.ref p4) n f_194 f_195 z_1 r_192 (by first | decide | omega) (by first | decide | omega)) (cwV 2 hts gX11_settle_X11_repeat rfl rfl rfl hv_X11_repeat ⟨(show _ ≤ (2 * (d + 1) + 6 : Nat) from by (try dsimp only); omega), (show _ ≤ (64 * (d + 1) + 250 : Nat) from by (try dsimp only); omega)⟩) (pW_V (q := (RX11, TX11, 6)) (ci := 8) (q0 := 0) hP hE hD rfl rfl [0, 8, 9] (by decide +kernel) rfl rfl) rfl rfl hl.1 rfl (lv_room (Nat.le_of_ble_eq_true rfl)) dX11_settle_283 ⟨Nat.le_of_ble_eq_true rfl, Nat.le_of_ble_eq_true rfl⟩) hS (fun q _ h => hFc q h) hFc (fun u_198 t H1 locs ht hvm hr_197 hB hz1 hk1 hS => ?_)
          obtain ⟨f_199, f_200⟩ := u_198
          have hrd1 : f_199 = vp_updL f_194 (z_1.toNatClampNeg) (((f_194 (r_192.toNatClampNeg)), (f_195 (r_192.toNatClampNeg)))).1 := hr_197.1
          have hrd2 : f_200 = vp_updL f_195 (z_1.toNatClampNeg) (((f_194 (r_192.toNatClampNeg)), (f_195 (r_192.toNatClampNeg)))).2 := hr_197.2
          have hnw9 : (f_199 (z_1.toNatClampNeg), f_200 (z_1.toNatClampNeg)) = ((VALW l9 f1 f2 f3 f4 f5) z_4 x2 x3) := by rw [put_at (q := ((f_194 (r_192.toNatClampNeg)), (f_195 (r_192.toNatClampNeg)))) hrd1 hrd2, hv_r_192]
          have hp_z_1 := hnw9
          have hst : stW (VALW l9 f1 f2 f3 f4 f5) n0 n (rgW x1 x2) g0 g1 g4 f_199 f_200 f_196 := by rw [hrd1, hrd2]; exact hst.put (fun h9 => ⟨rg_self (by omega) (by omega) (by omega) hsl, hnf h9⟩)
          have hmm : memW (VALW l9 f1 f2 f3 f4 f5) n0 n f_199 f_200 f_196 := hst.1
          have hv_r_192 : (f_199 (r_192.toNatClampNeg), f_200 (r_192.toNatClampNeg)) = (VALW l9 f1 f2 f3 f4 f5) z_4 x2 x3 := hst.val (by omega) (by omega) (by omega) hsl_r_192 hfo_r_192
          have hb_r_192 : 0 ≤ (f_200 (r_192.toNatClampNeg)).toInt := val_nn (VAL_low hlq.1 hlq.2 31 _ _ _) hv_r_192
          obtain ⟨hP1, hD1⟩ := hB
          rw [ht] at hP1
          obtain ⟨hP, hD⟩ := va_repl [(h0, .inr (8, [.ref la, .ref cl, .ref p0, .ref p1, .ref p4, .int n])), (la, .inr (5, [.int (l9 0), .int (l9 1), .int (l9 2), .int (l9 3), .int (l9 4), .int (l9 5), .int (l9 6)])), (cl, .inr (1, [.int n0, .ref c1, .ref c2, .ref c3, .ref c4, .ref c5, .ref c6, .ref c7])), (c1, .inl (T 0, 24, .inl f1)), (c2, .inl (T 0, 24, .inl f2)), (c3, .inl (T 0, 24, .inl f3)), (c4, .inl (T 0, 24, .inl f4)), (c5, .inl (T 0, 24, .inl f5)), (p0, .inl (T 1, 676, .inr (.inl f_199))), (p1, .inl (T 1, 676, .inr (.inl f_200))), (p4, .inl (T 0, 672, .inl f_196))] hP hD [0, 8, 9] [0, 8, 9] rfl (by decide +kernel) rfl rfl rfl hk1 hP1
          clear hP1 hD1 hFc
          generalize H1 = H at hP hS ⊢
          refine lv_goto (tgt := 364) hx hb dX11_settle_286 (by decide +kernel) ?_
          refine lv_aload_n hx hb dX11_settle_364 rfl (lv_at hl 3 rfl) ?_
          refine va_get (D := D) (ci := 8) (v := .ref p4) (C := RX11) (T := TX11) (N := 6) hx hb hts in_X11_settle_X11 hown hE.1 hP 0 rfl rfl 4 (by decide +kernel) (hts (.fieldLink RX11 18 "ClauseBook$Worth" "foundAt" "[I") (List.mem_of_getElem? (i := 1) rfl)) (fun _ h9 => h9) rfl dX11_settle_365 ?_
          refine lv_iload hx hb dX11_settle_368 (lv_at hl 2 rfl) ?_
          refine lv_aload_n hx hb dX11_settle_370 rfl (lv_at hl 3 rfl) ?_
          refine va_get (D := D) (ci := 8) (v := .int n) (C := RX11) (T := TX11) (N := 6) hx hb hts in_X11_settle_X11 hown hE.1 hP 0 rfl rfl 5 (by decide +kernel) (hts (.fieldLink RX11 22 "ClauseBook$Worth" "age" "I") (List.mem_of_getElem? (i := 2) rfl)) (fun _ h9 => h9) rfl dX11_settle_371 ?_
          refine va_iast hx hb hE.1 hP hD hS 10 0 rfl rfl (by rw [vp_in_iff]; first | omega | (subst_vars; omega)) dX11_settle_374 (fun H locs hP hD hS => ?_)
          obtain ⟨hP, hD⟩ := wPD [(h0, .inr (8, [.ref la, .ref cl, .ref p0, .ref p1, .ref p4, .int n])), (la, .inr (5, [.int (l9 0), .int (l9 1), .int (l9 2), .int (l9 3), .int (l9 4), .int (l9 5), .int (l9 6)])), (cl, .inr (1, [.int n0, .ref c1, .ref c2, .ref c3, .ref c4, .ref c5, .ref c6, .ref c7])), (c1, .inl (T 0, 24, .inl f1)), (c2, .inl (T 0, 24, .inl f2)), (c3, .inl (T 0, 24, .inl f3)), (c4, .inl (T 0, 24, .inl f4)), (c5, .inl (T 0, 24, .inl f5)), (p0, .inl (T 1, 676, .inr (.inl f_199))), (p1, .inl (T 1, 676, .inr (.inl f_200))), (p4, .inl (T 0, 672, .inl (upd f_196 (z_1.toNatClampNeg) n)))] hP hD rfl
          refine lv_iload hx hb dX11_settle_375 (lv_at hl 2 rfl) ?_
          exact W.iret hx hb hr (fun t ht hW => ⟨⟨_, (f_199, f_200, (upd f_196 (z_1.toNatClampNeg) n)), rfl, ⟨hsb, hsl, (by rw [← hsl]; exact upd_at), hst.mark (by omega) (by omega) (by omega) (by omega) hsl (rg_self (by omega) (by omega) (by omega) hsl) (by rw [hp_z_1, VAL_step (l := l9) (fn := f2) (x := x1) (t := x2) (k := x3) hok (by omega) (by omega), sw_11 (l := l9) (fk := f1) (fn := f2) (fc := f3) (fd := f4) (fe := f5) (V := (VALW l9 f1 f2 f3 f4 f5)) (x := x1) (t := x2) (k := x3) (show ¬ (f5 (x1.toNatClampNeg)).toInt < x2.toInt from by omega) hk9, if_pos (show x2.toInt = (f5 (x1.toNatClampNeg)).toInt from by omega), ← ez_4])⟩, by rw [ht]; exact hP.sub [0, 1, 2, 3, 4, 5, 6, 7, 8, 9, 10] rfl, hD.sub [0, 1, 2, 3, 4, 5, 6, 7, 8, 9, 10] (by decide +kernel) rfl⟩, hS.F ht⟩) hS.2.2 dX11_settle_377
      · refine W.eq (g2 := F0 m 71 ls [.ref (ad 12)]) (by rw [hk9]) ?_
        have hc9 : 0 ≤ z_4.toInt ∧ z_4.toInt < x1.toInt := by
          have h := (hok _ (in24 (x := x1) (by omega)).1).2.1 (by rw [hk9]; decide)
          have h2 := (in24 (x := x1) (by omega)).2
          rw [ez_4]
          omega
        have hd9 : 0 ≤ (f4 (x1.toNatClampNeg)).toInt ∧ (f4 (x1.toNatClampNeg)).toInt < x1.toInt := by
          have h := (hok _ (in24 (x := x1) (by omega)).1).2.2.1 (by rw [hk9]; decide)
          have h2 := (in24 (x := x1) (by omega)).2
          omega
        refine lv_astore (lv' := [(6, .ref (ad 12)), (5, .int z_4), (4, .int z_1), (0, .ref h0), (1, .int x1), (2, .int x2), (3, .int x3)]) hx hb dX11_settle_71 hl (by decide +kernel) rfl (fun ls hl => ?_)
        refine va_gets (v := .ref (av 13)) hx hb hV.2.2.2.2.1 hS hown (hts (.fieldLink RX11 58 "ClauseBook$1" "$SwitchMap$ClauseBook$Kind" "[I") (List.mem_of_getElem? (i := 7) rfl)) (fun _ h9 => h9) dX11_settle_73 ?_
        refine lv_aload hx hb dX11_settle_76 (lv_at hl 0 rfl) ?_
        refine vp_callSi (va_Run.run (va_runU (As := []) (rest := [.ref (av 13)]) ⟨hx, hb, hml, hown, hts⟩ (c_Jx29ce0_ordinal_8abf5 l D T ad sa av ta 12 (by decide +kernel)) (va_cwU 0 hts gX11_settle_Jx29ce0_ordinal_8abf5_u63X7 rfl rfl rfl rfl (by decide +kernel) ⟨(show _ ≤ (2 * (d + 1) + 6 : Nat) from by (try dsimp only); omega), (show _ ≤ (64 * (d + 1) + 250 : Nat) from by (try dsimp only); omega)⟩) (pRk_VE (i := 12) (by decide +kernel) hP hE hV hS [] rfl) rfl rfl hl.1 rfl (lv_room (Nat.le_of_ble_eq_true rfl)) dX11_settle_78 ⟨Nat.le_of_ble_eq_true rfl, Nat.le_of_ble_eq_true rfl⟩)) (fun r_201 hr_201 => ?_)
        obtain rfl : (odT 12) = r_201 := (hr_201).symm
        refine va_ti (v := .int (swT 12)) hx hb hV.2.2.2.2.2.1 hS (odT_in (by decide +kernel)) (congrArg (fun z => Value.int (swT z)) (odT_at (by decide +kernel))) dX11_settle_81 ?_
        refine lv_topi (fun z_202 ez_202 => ?_)
        obtain rfl : z_202 = 0 := ez_202.trans (by decide +kernel)
        refine lv_tableOut (tgt := 323) hx hb dX11_settle_82 (by decide +kernel) (by decide +kernel) ?_
        refine lv_aload_n hx hb dX11_settle_323 rfl (lv_at hl 3 rfl) ?_
        refine lv_iload_n hx hb dX11_settle_324 rfl (lv_at hl 4 rfl) ?_
        refine lv_iload_n hx hb dX11_settle_325 rfl (lv_at hl 5 rfl) ?_
        refine lv_iload_n hx hb dX11_settle_326 rfl (lv_at hl 6 rfl) ?_
        have hFc := va_free (wc := [(h0, .inr (8, [.ref la, .ref cl, .ref p0, .ref p1, .ref p4, .int n])), (la, .inr (5, [.int (l9 0), .int (l9 1), .int (l9 2), .int (l9 3), .int (l9 4), .int (l9 5), .int (l9 6)])), (cl, .inr (1, [.int n0, .ref c1, .ref c2, .ref c3, .ref c4, .ref c5, .ref c6, .ref c7])), (c1, .inl (T 0, 24, .inl f1)), (c2, .inl (T 0, 24, .inl f2)), (c3, .inl (T 0, 24, .inl f3)), (c4, .inl (T 0, 24, .inl f4)), (c5, .inl (T 0, 24, .inl f5)), (p0, .inl (T 1, 676, .inr (.inl g0))), (p1, .inl (T 1, 676, .inr (.inl g1))), (p4, .inl (T 0, 672, .inl g4))]) hD hS hA [0, 1, 2, 3, 4, 5, 6, 7, 8, 9, 10] rfl
        refine va_calli (va_runV (As := [.int x1, .int x2, .int x3]) (rest := []) ⟨hx, hb, hml, hown, hts⟩ (s_X11_picked l D T ad sa av ta _ h0 la cl p0 p1 p4 n l9 n0 c1 c2 c3 c4 c5 c6 c7 f1 f2 f3 f4 f5 g0 g1 g4 d x1 x2 x3 (by omega) (by omega) (by omega) hok (by omega) hmm hlq (by omega) (by omega) hrec) (cwV 3 hts gX11_settle_X11_picked rfl rfl rfl hv_X11_picked ⟨(show _ ≤ (2 * (d + 1) + 6 : Nat) from by (try dsimp only); omega), (show _ ≤ (64 * (d + 1) + 250 : Nat) from by (try dsimp only); omega)⟩) (pWk_V (q := (RX11, TX11, 6)) (ci := 8) (q0 := 0) hP hE hD hV hS hFc rfl rfl [0, 1, 2, 3, 4, 5, 6, 7, 8, 9, 10] (by decide +kernel) rfl rfl) rfl rfl hl.1 rfl (lv_room (Nat.le_of_ble_eq_true rfl)) dX11_settle_327 ⟨Nat.le_of_ble_eq_true rfl, Nat.le_of_ble_eq_true rfl⟩) hS (fun q _ h => hFc q h) hFc (fun r_203 u_204 t H1 locs ht hvm hr_203 hB hz1 hk1 hS => ?_)
        obtain ⟨f_205, f_206, f_207⟩ := u_204
        obtain ⟨hqr_203, hpk_r_203, hstr_203⟩ := hr_203
        have hqr_203 : r_203.toInt = -5 ∨ (0 ≤ r_203.toInt ∧ r_203.toInt < x1.toInt) := hqr_203
        have hpk_r_203 : r_203 = pickW l9 f1 f2 f3 f4 f5 (VALW l9 f1 f2 f3 f4 f5) x1 x2 x3 := hpk_r_203
        have hsr_203 : stW (VALW l9 f1 f2 f3 f4 f5) n0 n (rgP x1) g0 g1 g4 f_205 f_206 f_207 := hstr_203
        have hg9 : z_1.toNatClampNeg < 672 → f_207 (z_1.toNatClampNeg) = g4 (z_1.toNatClampNeg) := fun h9 => (hsr_203.2.2.2 _ h9 (nrg_p hsl)).2.2
        have hnf : z_1.toNatClampNeg < 672 → f_207 (z_1.toNatClampNeg) ≠ n := fun h9 => by rw [hg9 h9]; exact hnf h9
        have hst : stW (VALW l9 f1 f2 f3 f4 f5) n0 n (rgW x1 x2) g0 g1 g4 f_205 f_206 f_207 := hst.tr hsr_203 (fun j9 h9 => rg_p h9)
        have hmm : memW (VALW l9 f1 f2 f3 f4 f5) n0 n f_205 f_206 f_207 := hst.1
        obtain ⟨hP1, hD1⟩ := hB
        rw [ht] at hP1
        obtain ⟨hP, hD⟩ := va_repl [(h0, .inr (8, [.ref la, .ref cl, .ref p0, .ref p1, .ref p4, .int n])), (la, .inr (5, [.int (l9 0), .int (l9 1), .int (l9 2), .int (l9 3), .int (l9 4), .int (l9 5), .int (l9 6)])), (cl, .inr (1, [.int n0, .ref c1, .ref c2, .ref c3, .ref c4, .ref c5, .ref c6, .ref c7])), (c1, .inl (T 0, 24, .inl f1)), (c2, .inl (T 0, 24, .inl f2)), (c3, .inl (T 0, 24, .inl f3)), (c4, .inl (T 0, 24, .inl f4)), (c5, .inl (T 0, 24, .inl f5)), (p0, .inl (T 1, 676, .inr (.inl f_205))), (p1, .inl (T 1, 676, .inr (.inl f_206))), (p4, .inl (T 0, 672, .inl f_207))] hP hD [0, 1, 2, 3, 4, 5, 6, 7, 8, 9, 10] [0, 1, 2, 3, 4, 5, 6, 7, 8, 9, 10] rfl (by decide +kernel) rfl rfl rfl hk1 hP1
        clear hP1 hD1 hFc
        generalize H1 = H at hP hS ⊢
        refine lv_istore (lv' := [(7, .int r_203), (6, .ref (ad 12)), (5, .int z_4), (4, .int z_1), (0, .ref h0), (1, .int x1), (2, .int x2), (3, .int x3)]) hx hb dX11_settle_330 hl (by decide +kernel) rfl (fun ls hl => ?_)
        refine lv_iload hx hb dX11_settle_332 (lv_at hl 0 rfl) ?_
        refine lv_bipush (v := (-5)) hx hb dX11_settle_334 (by decide +kernel) ?_
        refine lv_icmp_ne (tgt := 350) hx hb dX11_settle_336 (by decide +kernel) (fun c_208 => ?_) (fun c_208 => ?_)
        · rw [fa_eq] at c_208
          try rw [ti_n5] at c_208
          refine lv_aload_n hx hb dX11_settle_350 rfl (lv_at hl 4 rfl) ?_
          refine lv_iload hx hb dX11_settle_351 (lv_at hl 3 rfl) ?_
          refine lv_aload_n hx hb dX11_settle_353 rfl (lv_at hl 4 rfl) ?_
          refine lv_iload hx hb dX11_settle_354 (lv_at hl 0 rfl) ?_
          refine lv_iload_n hx hb dX11_settle_356 rfl (lv_at hl 6 rfl) ?_
          refine lv_iload_n hx hb dX11_settle_357 rfl (lv_at hl 7 rfl) ?_
          have hFc := va_free (wc := [(h0, .inr (8, [.ref la, .ref cl, .ref p0, .ref p1, .ref p4, .int n])), (la, .inr (5, [.int (l9 0), .int (l9 1), .int (l9 2), .int (l9 3), .int (l9 4), .int (l9 5), .int (l9 6)])), (cl, .inr (1, [.int n0, .ref c1, .ref c2, .ref c3, .ref c4, .ref c5, .ref c6, .ref c7])), (c1, .inl (T 0, 24, .inl f1)), (c2, .inl (T 0, 24, .inl f2)), (c3, .inl (T 0, 24, .inl f3)), (c4, .inl (T 0, 24, .inl f4)), (c5, .inl (T 0, 24, .inl f5)), (p0, .inl (T 1, 676, .inr (.inl f_205))), (p1, .inl (T 1, 676, .inr (.inl f_206))), (p4, .inl (T 0, 672, .inl f_207))]) hD hS hA [0, 1, 2, 3, 4, 5, 6, 7, 8, 9, 10] rfl
          refine va_calli (va_runV (As := [.int r_203, .int x2, .int x3]) (rest := [.int z_1, .ref h0]) ⟨hx, hb, hml, hown, hts⟩ (hrec _ h0 la cl p0 p1 p4 n l9 n0 c1 c2 c3 c4 c5 c6 c7 f1 f2 f3 f4 f5 f_205 f_206 f_207 r_203 x2 x3 (by omega) (by omega) (by omega) hok (by omega) hmm hlq (by omega)) (cwV 3 hts gX11_settle_X11_settle rfl rfl rfl hv_X11_settle ⟨(show _ ≤ (2 * (d + 1) + 6 : Nat) from by (try dsimp only); omega), (show _ ≤ (64 * (d + 1) + 250 : Nat) from by (try dsimp only); omega)⟩) (pWk_V (q := (RX11, TX11, 6)) (ci := 8) (q0 := 0) hP hE hD hV hS hFc rfl rfl [0, 1, 2, 3, 4, 5, 6, 7, 8, 9, 10] (by decide +kernel) rfl rfl) rfl rfl hl.1 rfl (lv_room (Nat.le_of_ble_eq_true rfl)) dX11_settle_358 ⟨Nat.le_of_ble_eq_true rfl, Nat.le_of_ble_eq_true rfl⟩) hS (fun q _ h => hFc q h) hFc (fun r_209 u_210 t H1 locs ht hvm hr_209 hB hz1 hk1 hS => ?_)
          obtain ⟨f_211, f_212, f_213⟩ := u_210
          obtain ⟨hqr_209, hsl_r_209, hfo_r_209, hstr_209⟩ := hr_209
          have hqr_209 : 0 ≤ r_209.toInt ∧ r_209.toInt < 672 := hqr_209
          have hsl_r_209 : r_209.toNatClampNeg = slN r_203 x2 x3 := hsl_r_209
          have hfo_r_209 : f_213 (slN r_203 x2 x3) = n := hfo_r_209
          have hsr_209 : stW (VALW l9 f1 f2 f3 f4 f5) n0 n (rgW r_203 x2) f_205 f_206 f_207 f_211 f_212 f_213 := hstr_209
          have hg9 : z_1.toNatClampNeg < 672 → f_213 (z_1.toNatClampNeg) = f_207 (z_1.toNatClampNeg) := fun h9 => (hsr_209.2.2.2 _ h9 (nrg_c (by omega) hsl)).2.2
          have hnf : z_1.toNatClampNeg < 672 → f_213 (z_1.toNatClampNeg) ≠ n := fun h9 => by rw [hg9 h9]; exact hnf h9
          have hst : stW (VALW l9 f1 f2 f3 f4 f5) n0 n (rgW x1 x2) g0 g1 g4 f_211 f_212 f_213 := hst.tr hsr_209 (fun j9 h9 => rg_c (by omega) h9)
          have hmm : memW (VALW l9 f1 f2 f3 f4 f5) n0 n f_211 f_212 f_213 := hst.1
          have hv_r_209 : (f_211 (r_209.toNatClampNeg), f_212 (r_209.toNatClampNeg)) = (VALW l9 f1 f2 f3 f4 f5) r_203 x2 x3 := hst.val (by omega) (by omega) (by first | (rw [ti_0]; omega) | omega) hsl_r_209 hfo_r_209
          have hb_r_209 : 0 ≤ (f_212 (r_209.toNatClampNeg)).toInt := val_nn (VAL_low hlq.1 hlq.2 31 _ _ _) hv_r_209
          obtain ⟨hP1, hD1⟩ := hB
          rw [ht] at hP1
          obtain ⟨hP, hD⟩ := va_repl [(h0, .inr (8, [.ref la, .ref cl, .ref p0, .ref p1, .ref p4, .int n])), (la, .inr (5, [.int (l9 0), .int (l9 1), .int (l9 2), .int (l9 3), .int (l9 4), .int (l9 5), .int (l9 6)])), (cl, .inr (1, [.int n0, .ref c1, .ref c2, .ref c3, .ref c4, .ref c5, .ref c6, .ref c7])), (c1, .inl (T 0, 24, .inl f1)), (c2, .inl (T 0, 24, .inl f2)), (c3, .inl (T 0, 24, .inl f3)), (c4, .inl (T 0, 24, .inl f4)), (c5, .inl (T 0, 24, .inl f5)), (p0, .inl (T 1, 676, .inr (.inl f_211))), (p1, .inl (T 1, 676, .inr (.inl f_212))), (p4, .inl (T 0, 672, .inl f_213))] hP hD [0, 1, 2, 3, 4, 5, 6, 7, 8, 9, 10] [0, 1, 2, 3, 4, 5, 6, 7, 8, 9, 10] rfl (by decide +kernel) rfl rfl rfl hk1 hP1
          clear hP1 hD1 hFc
          generalize H1 = H at hP hS ⊢
          have hFc := va_free (wc := [(h0, .inr (8, [.ref la, .ref cl, .ref p0, .ref p1, .ref p4, .int n])), (p0, .inl (T 1, 676, .inr (.inl f_211))), (p1, .inl (T 1, 676, .inr (.inl f_212)))]) hD hS hA [0, 8, 9] rfl
          refine va_callv (va_runV (As := [.int z_1, .int r_209]) (rest := []) ⟨hx, hb, hml, hown, hts⟩ (c_X11_repeat l D T _ h0 p0 p1 (.ref la) (.ref cl) (.ref p4) n f_211 f_212 z_1 r_209 (by first | decide | omega) (by first | decide | omega)) (cwV 2 hts gX11_settle_X11_repeat rfl rfl rfl hv_X11_repeat ⟨(show _ ≤ (2 * (d + 1) + 6 : Nat) from by (try dsimp only); omega), (show _ ≤ (64 * (d + 1) + 250 : Nat) from by (try dsimp only); omega)⟩) (pW_V (q := (RX11, TX11, 6)) (ci := 8) (q0 := 0) hP hE hD rfl rfl [0, 8, 9] (by decide +kernel) rfl rfl) rfl rfl hl.1 rfl (lv_room (Nat.le_of_ble_eq_true rfl)) dX11_settle_361 ⟨Nat.le_of_ble_eq_true rfl, Nat.le_of_ble_eq_true rfl⟩) hS (fun q _ h => hFc q h) hFc (fun u_215 t H1 locs ht hvm hr_214 hB hz1 hk1 hS => ?_)
          obtain ⟨f_216, f_217⟩ := u_215
          have hrd1 : f_216 = vp_updL f_211 (z_1.toNatClampNeg) (((f_211 (r_209.toNatClampNeg)), (f_212 (r_209.toNatClampNeg)))).1 := hr_214.1
          have hrd2 : f_217 = vp_updL f_212 (z_1.toNatClampNeg) (((f_211 (r_209.toNatClampNeg)), (f_212 (r_209.toNatClampNeg)))).2 := hr_214.2
          have hnw9 : (f_216 (z_1.toNatClampNeg), f_217 (z_1.toNatClampNeg)) = ((VALW l9 f1 f2 f3 f4 f5) r_203 x2 x3) := by rw [put_at (q := ((f_211 (r_209.toNatClampNeg)), (f_212 (r_209.toNatClampNeg)))) hrd1 hrd2, hv_r_209]
          have hp_z_1 := hnw9
          have hst : stW (VALW l9 f1 f2 f3 f4 f5) n0 n (rgW x1 x2) g0 g1 g4 f_216 f_217 f_213 := by rw [hrd1, hrd2]; exact hst.put (fun h9 => ⟨rg_self (by omega) (by omega) (by omega) hsl, hnf h9⟩)
          have hmm : memW (VALW l9 f1 f2 f3 f4 f5) n0 n f_216 f_217 f_213 := hst.1
          have hv_r_209 : (f_216 (r_209.toNatClampNeg), f_217 (r_209.toNatClampNeg)) = (VALW l9 f1 f2 f3 f4 f5) r_203 x2 x3 := hst.val (by omega) (by omega) (by omega) hsl_r_209 hfo_r_209
          have hb_r_209 : 0 ≤ (f_217 (r_209.toNatClampNeg)).toInt := val_nn (VAL_low hlq.1 hlq.2 31 _ _ _) hv_r_209
          obtain ⟨hP1, hD1⟩ := hB
          rw [ht] at hP1
          obtain ⟨hP, hD⟩ := va_repl [(h0, .inr (8, [.ref la, .ref cl, .ref p0, .ref p1, .ref p4, .int n])), (la, .inr (5, [.int (l9 0), .int (l9 1), .int (l9 2), .int (l9 3), .int (l9 4), .int (l9 5), .int (l9 6)])), (cl, .inr (1, [.int n0, .ref c1, .ref c2, .ref c3, .ref c4, .ref c5, .ref c6, .ref c7])), (c1, .inl (T 0, 24, .inl f1)), (c2, .inl (T 0, 24, .inl f2)), (c3, .inl (T 0, 24, .inl f3)), (c4, .inl (T 0, 24, .inl f4)), (c5, .inl (T 0, 24, .inl f5)), (p0, .inl (T 1, 676, .inr (.inl f_216))), (p1, .inl (T 1, 676, .inr (.inl f_217))), (p4, .inl (T 0, 672, .inl f_213))] hP hD [0, 8, 9] [0, 8, 9] rfl (by decide +kernel) rfl rfl rfl hk1 hP1
          clear hP1 hD1 hFc
          generalize H1 = H at hP hS ⊢
          refine lv_aload_n hx hb dX11_settle_364 rfl (lv_at hl 4 rfl) ?_
          refine va_get (D := D) (ci := 8) (v := .ref p4) (C := RX11) (T := TX11) (N := 6) hx hb hts in_X11_settle_X11 hown hE.1 hP 0 rfl rfl 4 (by decide +kernel) (hts (.fieldLink RX11 18 "ClauseBook$Worth" "foundAt" "[I") (List.mem_of_getElem? (i := 1) rfl)) (fun _ h9 => h9) rfl dX11_settle_365 ?_
          refine lv_iload hx hb dX11_settle_368 (lv_at hl 3 rfl) ?_
          refine lv_aload_n hx hb dX11_settle_370 rfl (lv_at hl 4 rfl) ?_
          refine va_get (D := D) (ci := 8) (v := .int n) (C := RX11) (T := TX11) (N := 6) hx hb hts in_X11_settle_X11 hown hE.1 hP 0 rfl rfl 5 (by decide +kernel) (hts (.fieldLink RX11 22 "ClauseBook$Worth" "age" "I") (List.mem_of_getElem? (i := 2) rfl)) (fun _ h9 => h9) rfl dX11_settle_371 ?_
          refine va_iast hx hb hE.1 hP hD hS 10 0 rfl rfl (by rw [vp_in_iff]; first | omega | (subst_vars; omega)) dX11_settle_374 (fun H locs hP hD hS => ?_)
          obtain ⟨hP, hD⟩ := wPD [(h0, .inr (8, [.ref la, .ref cl, .ref p0, .ref p1, .ref p4, .int n])), (la, .inr (5, [.int (l9 0), .int (l9 1), .int (l9 2), .int (l9 3), .int (l9 4), .int (l9 5), .int (l9 6)])), (cl, .inr (1, [.int n0, .ref c1, .ref c2, .ref c3, .ref c4, .ref c5, .ref c6, .ref c7])), (c1, .inl (T 0, 24, .inl f1)), (c2, .inl (T 0, 24, .inl f2)), (c3, .inl (T 0, 24, .inl f3)), (c4, .inl (T 0, 24, .inl f4)), (c5, .inl (T 0, 24, .inl f5)), (p0, .inl (T 1, 676, .inr (.inl f_216))), (p1, .inl (T 1, 676, .inr (.inl f_217))), (p4, .inl (T 0, 672, .inl (upd f_213 (z_1.toNatClampNeg) n)))] hP hD rfl
          refine lv_iload hx hb dX11_settle_375 (lv_at hl 3 rfl) ?_
          exact W.iret hx hb hr (fun t ht hW => ⟨⟨_, (f_216, f_217, (upd f_213 (z_1.toNatClampNeg) n)), rfl, ⟨hsb, hsl, (by rw [← hsl]; exact upd_at), hst.mark (by omega) (by omega) (by omega) (by omega) hsl (rg_self (by omega) (by omega) (by omega) hsl) (by rw [hp_z_1, VAL_step (l := l9) (fn := f2) (x := x1) (t := x2) (k := x3) hok (by omega) (by omega), sw_p (l := l9) (fk := f1) (fn := f2) (fc := f3) (fd := f4) (fe := f5) (V := (VALW l9 f1 f2 f3 f4 f5)) (x := x1) (t := x2) (k := x3) (show ¬ (f5 (x1.toNatClampNeg)).toInt < x2.toInt from by omega) (by omega), if_neg (show ¬ pickW l9 f1 f2 f3 f4 f5 (VALW l9 f1 f2 f3 f4 f5) x1 x2 x3 = -5 from by rw [← hpk_r_203]; intro h9; have h7 : r_203.toInt = -5 := (by rw [h9]; decide); omega), ← hpk_r_203])⟩, by rw [ht]; exact hP.sub [0, 1, 2, 3, 4, 5, 6, 7, 8, 9, 10] rfl, hD.sub [0, 1, 2, 3, 4, 5, 6, 7, 8, 9, 10] (by decide +kernel) rfl⟩, hS.F ht⟩) hS.2.2 dX11_settle_377
        · rw [fa_eq] at c_208
          try rw [ti_n5] at c_208
          refine lv_aload_n hx hb dX11_settle_339 rfl (lv_at hl 4 rfl) ?_
          refine lv_iload hx hb dX11_settle_340 (lv_at hl 3 rfl) ?_
          refine lv_lconst (v := 0) hx hb dX11_settle_342 (by decide +kernel) ?_
          refine lv_lconst (v := 0) hx hb dX11_settle_343 (by decide +kernel) ?_
          have hFc := va_free (wc := [(h0, .inr (8, [.ref la, .ref cl, .ref p0, .ref p1, .ref p4, .int n])), (p0, .inl (T 1, 676, .inr (.inl f_205))), (p1, .inl (T 1, 676, .inr (.inl f_206)))]) hD hS hA [0, 8, 9] rfl
          refine va_callv (va_runV (As := [.int z_1, .long 0, .long 0]) (rest := []) ⟨hx, hb, hml, hown, hts⟩ (c_X11_assign l D T _ h0 p0 p1 (.ref la) (.ref cl) (.ref p4) n f_205 f_206 z_1 0 0 (by first | decide | omega)) (cwV 3 hts gX11_settle_X11_assign rfl rfl rfl hv_X11_assign ⟨(show _ ≤ (2 * (d + 1) + 6 : Nat) from by (try dsimp only); omega), (show _ ≤ (64 * (d + 1) + 250 : Nat) from by (try dsimp only); omega)⟩) (pW_V (q := (RX11, TX11, 6)) (ci := 8) (q0 := 0) hP hE hD rfl rfl [0, 8, 9] (by decide +kernel) rfl rfl) rfl rfl hl.1 rfl (lv_room (Nat.le_of_ble_eq_true rfl)) dX11_settle_344 ⟨Nat.le_of_ble_eq_true rfl, Nat.le_of_ble_eq_true rfl⟩) hS (fun q _ h => hFc q h) hFc (fun u_219 t H1 locs ht hvm hr_218 hB hz1 hk1 hS => ?_)
          obtain ⟨f_220, f_221⟩ := u_219
          have hrd1 : f_220 = vp_updL f_205 (z_1.toNatClampNeg) (((0 : Int64), (0 : Int64))).1 := hr_218.1
          have hrd2 : f_221 = vp_updL f_206 (z_1.toNatClampNeg) (((0 : Int64), (0 : Int64))).2 := hr_218.2
          have hnw9 : (f_220 (z_1.toNatClampNeg), f_221 (z_1.toNatClampNeg)) = ((0 : Int64), (0 : Int64)) := by rw [put_at (q := ((0 : Int64), (0 : Int64))) hrd1 hrd2]
          have hp_z_1 := hnw9
          have hst : stW (VALW l9 f1 f2 f3 f4 f5) n0 n (rgW x1 x2) g0 g1 g4 f_220 f_221 f_207 := by rw [hrd1, hrd2]; exact hst.put (fun h9 => ⟨rg_self (by omega) (by omega) (by omega) hsl, hnf h9⟩)
          have hmm : memW (VALW l9 f1 f2 f3 f4 f5) n0 n f_220 f_221 f_207 := hst.1
          obtain ⟨hP1, hD1⟩ := hB
          rw [ht] at hP1
          obtain ⟨hP, hD⟩ := va_repl [(h0, .inr (8, [.ref la, .ref cl, .ref p0, .ref p1, .ref p4, .int n])), (la, .inr (5, [.int (l9 0), .int (l9 1), .int (l9 2), .int (l9 3), .int (l9 4), .int (l9 5), .int (l9 6)])), (cl, .inr (1, [.int n0, .ref c1, .ref c2, .ref c3, .ref c4, .ref c5, .ref c6, .ref c7])), (c1, .inl (T 0, 24, .inl f1)), (c2, .inl (T 0, 24, .inl f2)), (c3, .inl (T 0, 24, .inl f3)), (c4, .inl (T 0, 24, .inl f4)), (c5, .inl (T 0, 24, .inl f5)), (p0, .inl (T 1, 676, .inr (.inl f_220))), (p1, .inl (T 1, 676, .inr (.inl f_221))), (p4, .inl (T 0, 672, .inl f_207))] hP hD [0, 8, 9] [0, 8, 9] rfl (by decide +kernel) rfl rfl rfl hk1 hP1
          clear hP1 hD1 hFc
          generalize H1 = H at hP hS ⊢
          refine lv_goto (tgt := 364) hx hb dX11_settle_347 (by decide +kernel) ?_
          refine lv_aload_n hx hb dX11_settle_364 rfl (lv_at hl 4 rfl) ?_
          refine va_get (D := D) (ci := 8) (v := .ref p4) (C := RX11) (T := TX11) (N := 6) hx hb hts in_X11_settle_X11 hown hE.1 hP 0 rfl rfl 4 (by decide +kernel) (hts (.fieldLink RX11 18 "ClauseBook$Worth" "foundAt" "[I") (List.mem_of_getElem? (i := 1) rfl)) (fun _ h9 => h9) rfl dX11_settle_365 ?_
          refine lv_iload hx hb dX11_settle_368 (lv_at hl 3 rfl) ?_
          refine lv_aload_n hx hb dX11_settle_370 rfl (lv_at hl 4 rfl) ?_
          refine va_get (D := D) (ci := 8) (v := .int n) (C := RX11) (T := TX11) (N := 6) hx hb hts in_X11_settle_X11 hown hE.1 hP 0 rfl rfl 5 (by decide +kernel) (hts (.fieldLink RX11 22 "ClauseBook$Worth" "age" "I") (List.mem_of_getElem? (i := 2) rfl)) (fun _ h9 => h9) rfl dX11_settle_371 ?_
          refine va_iast hx hb hE.1 hP hD hS 10 0 rfl rfl (by rw [vp_in_iff]; first | omega | (subst_vars; omega)) dX11_settle_374 (fun H locs hP hD hS => ?_)
          obtain ⟨hP, hD⟩ := wPD [(h0, .inr (8, [.ref la, .ref cl, .ref p0, .ref p1, .ref p4, .int n])), (la, .inr (5, [.int (l9 0), .int (l9 1), .int (l9 2), .int (l9 3), .int (l9 4), .int (l9 5), .int (l9 6)])), (cl, .inr (1, [.int n0, .ref c1, .ref c2, .ref c3, .ref c4, .ref c5, .ref c6, .ref c7])), (c1, .inl (T 0, 24, .inl f1)), (c2, .inl (T 0, 24, .inl f2)), (c3, .inl (T 0, 24, .inl f3)), (c4, .inl (T 0, 24, .inl f4)), (c5, .inl (T 0, 24, .inl f5)), (p0, .inl (T 1, 676, .inr (.inl f_220))), (p1, .inl (T 1, 676, .inr (.inl f_221))), (p4, .inl (T 0, 672, .inl (upd f_207 (z_1.toNatClampNeg) n)))] hP hD rfl
          refine lv_iload hx hb dX11_settle_375 (lv_at hl 3 rfl) ?_
          exact W.iret hx hb hr (fun t ht hW => ⟨⟨_, (f_220, f_221, (upd f_207 (z_1.toNatClampNeg) n)), rfl, ⟨hsb, hsl, (by rw [← hsl]; exact upd_at), hst.mark (by omega) (by omega) (by omega) (by omega) hsl (rg_self (by omega) (by omega) (by omega) hsl) (by rw [hp_z_1, VAL_step (l := l9) (fn := f2) (x := x1) (t := x2) (k := x3) hok (by omega) (by omega), sw_p (l := l9) (fk := f1) (fn := f2) (fc := f3) (fd := f4) (fe := f5) (V := (VALW l9 f1 f2 f3 f4 f5)) (x := x1) (t := x2) (k := x3) (show ¬ (f5 (x1.toNatClampNeg)).toInt < x2.toInt from by omega) (by omega), if_pos (show pickW l9 f1 f2 f3 f4 f5 (VALW l9 f1 f2 f3 f4 f5) x1 x2 x3 = -5 from by rw [← hpk_r_203]; exact Int32.toInt_inj.1 (by have h9 : (-5 : Int32).toInt = -5 := (by decide +kernel); omega))])⟩, by rw [ht]; exact hP.sub [0, 1, 2, 3, 4, 5, 6, 7, 8, 9, 10] rfl, hD.sub [0, 1, 2, 3, 4, 5, 6, 7, 8, 9, 10] (by decide +kernel) rfl⟩, hS.F ht⟩) hS.2.2 dX11_settle_377
    · rw [fa_le] at c_6
      refine va_gets (v := .ref (ad 0)) hx hb (hV.1.1.1 0 (by decide +kernel)).1 hS hown (hts (.fieldLink RX11 48 "ClauseBook$Kind" "NOTHING" "LClauseBook$Kind;") (List.mem_of_getElem? (i := 6) rfl)) (fun _ h9 => h9) dX11_settle_57 ?_
      refine lv_goto (tgt := 71) hx hb dX11_settle_60 (by decide +kernel) ?_
      refine lv_astore (lv' := [(6, .ref (ad 0)), (5, .int z_4), (4, .int z_1), (0, .ref h0), (1, .int x1), (2, .int x2), (3, .int x3)]) hx hb dX11_settle_71 hl (by decide +kernel) rfl (fun ls hl => ?_)
      refine va_gets (v := .ref (av 13)) hx hb hV.2.2.2.2.1 hS hown (hts (.fieldLink RX11 58 "ClauseBook$1" "$SwitchMap$ClauseBook$Kind" "[I") (List.mem_of_getElem? (i := 7) rfl)) (fun _ h9 => h9) dX11_settle_73 ?_
      refine lv_aload hx hb dX11_settle_76 (lv_at hl 0 rfl) ?_
      refine vp_callSi (va_Run.run (va_runU (As := []) (rest := [.ref (av 13)]) ⟨hx, hb, hml, hown, hts⟩ (c_Jx29ce0_ordinal_8abf5 l D T ad sa av ta 0 (by decide +kernel)) (va_cwU 0 hts gX11_settle_Jx29ce0_ordinal_8abf5_u63X7 rfl rfl rfl rfl (by decide +kernel) ⟨(show _ ≤ (2 * (d + 1) + 6 : Nat) from by (try dsimp only); omega), (show _ ≤ (64 * (d + 1) + 250 : Nat) from by (try dsimp only); omega)⟩) (pRk_VE (i := 0) (by decide +kernel) hP hE hV hS [] rfl) rfl rfl hl.1 rfl (lv_room (Nat.le_of_ble_eq_true rfl)) dX11_settle_78 ⟨Nat.le_of_ble_eq_true rfl, Nat.le_of_ble_eq_true rfl⟩)) (fun r_222 hr_222 => ?_)
      obtain rfl : (odT 0) = r_222 := (hr_222).symm
      refine va_ti (v := .int (swT 0)) hx hb hV.2.2.2.2.2.1 hS (odT_in (by decide +kernel)) (congrArg (fun z => Value.int (swT z)) (odT_at (by decide +kernel))) dX11_settle_81 ?_
      refine lv_topi (fun z_223 ez_223 => ?_)
      obtain rfl : z_223 = 1 := ez_223.trans (by decide +kernel)
      refine lv_tableIn (off := 46) (tgt := 128) hx hb dX11_settle_82 (by decide +kernel) (by decide +kernel) (by decide +kernel) (by decide +kernel) ?_
      refine lv_aload_n hx hb dX11_settle_128 rfl (lv_at hl 3 rfl) ?_
      refine lv_iload hx hb dX11_settle_129 (lv_at hl 2 rfl) ?_
      refine lv_lconst (v := 0) hx hb dX11_settle_131 (by decide +kernel) ?_
      refine lv_lconst (v := 1) hx hb dX11_settle_132 (by decide +kernel) ?_
      have hFc := va_free (wc := [(h0, .inr (8, [.ref la, .ref cl, .ref p0, .ref p1, .ref p4, .int n])), (p0, .inl (T 1, 676, .inr (.inl g0))), (p1, .inl (T 1, 676, .inr (.inl g1)))]) hD hS hA [0, 8, 9] rfl
      refine va_callv (va_runV (As := [.int z_1, .long 0, .long 1]) (rest := []) ⟨hx, hb, hml, hown, hts⟩ (c_X11_assign l D T _ h0 p0 p1 (.ref la) (.ref cl) (.ref p4) n g0 g1 z_1 0 1 (by first | decide | omega)) (cwV 3 hts gX11_settle_X11_assign rfl rfl rfl hv_X11_assign ⟨(show _ ≤ (2 * (d + 1) + 6 : Nat) from by (try dsimp only); omega), (show _ ≤ (64 * (d + 1) + 250 : Nat) from by (try dsimp only); omega)⟩) (pW_V (q := (RX11, TX11, 6)) (ci := 8) (q0 := 0) hP hE hD rfl rfl [0, 8, 9] (by decide +kernel) rfl rfl) rfl rfl hl.1 rfl (lv_room (Nat.le_of_ble_eq_true rfl)) dX11_settle_133 ⟨Nat.le_of_ble_eq_true rfl, Nat.le_of_ble_eq_true rfl⟩) hS (fun q _ h => hFc q h) hFc (fun u_225 t H1 locs ht hvm hr_224 hB hz1 hk1 hS => ?_)
      obtain ⟨f_226, f_227⟩ := u_225
      have hrd1 : f_226 = vp_updL g0 (z_1.toNatClampNeg) (((0 : Int64), (1 : Int64))).1 := hr_224.1
      have hrd2 : f_227 = vp_updL g1 (z_1.toNatClampNeg) (((0 : Int64), (1 : Int64))).2 := hr_224.2
      have hnw9 : (f_226 (z_1.toNatClampNeg), f_227 (z_1.toNatClampNeg)) = ((0 : Int64), (1 : Int64)) := by rw [put_at (q := ((0 : Int64), (1 : Int64))) hrd1 hrd2]
      have hp_z_1 := hnw9
      have hst : stW (VALW l9 f1 f2 f3 f4 f5) n0 n (rgW x1 x2) g0 g1 g4 f_226 f_227 g4 := by rw [hrd1, hrd2]; exact hst.put (fun h9 => ⟨rg_self (by omega) (by omega) (by omega) hsl, hnf h9⟩)
      have hmm : memW (VALW l9 f1 f2 f3 f4 f5) n0 n f_226 f_227 g4 := hst.1
      obtain ⟨hP1, hD1⟩ := hB
      rw [ht] at hP1
      obtain ⟨hP, hD⟩ := va_repl [(h0, .inr (8, [.ref la, .ref cl, .ref p0, .ref p1, .ref p4, .int n])), (la, .inr (5, [.int (l9 0), .int (l9 1), .int (l9 2), .int (l9 3), .int (l9 4), .int (l9 5), .int (l9 6)])), (cl, .inr (1, [.int n0, .ref c1, .ref c2, .ref c3, .ref c4, .ref c5, .ref c6, .ref c7])), (c1, .inl (T 0, 24, .inl f1)), (c2, .inl (T 0, 24, .inl f2)), (c3, .inl (T 0, 24, .inl f3)), (c4, .inl (T 0, 24, .inl f4)), (c5, .inl (T 0, 24, .inl f5)), (p0, .inl (T 1, 676, .inr (.inl f_226))), (p1, .inl (T 1, 676, .inr (.inl f_227))), (p4, .inl (T 0, 672, .inl g4))] hP hD [0, 8, 9] [0, 8, 9] rfl (by decide +kernel) rfl rfl rfl hk1 hP1
      clear hP1 hD1 hFc
      generalize H1 = H at hP hS ⊢
      refine lv_goto (tgt := 364) hx hb dX11_settle_136 (by decide +kernel) ?_
      refine lv_aload_n hx hb dX11_settle_364 rfl (lv_at hl 3 rfl) ?_
      refine va_get (D := D) (ci := 8) (v := .ref p4) (C := RX11) (T := TX11) (N := 6) hx hb hts in_X11_settle_X11 hown hE.1 hP 0 rfl rfl 4 (by decide +kernel) (hts (.fieldLink RX11 18 "ClauseBook$Worth" "foundAt" "[I") (List.mem_of_getElem? (i := 1) rfl)) (fun _ h9 => h9) rfl dX11_settle_365 ?_
      refine lv_iload hx hb dX11_settle_368 (lv_at hl 2 rfl) ?_
      refine lv_aload_n hx hb dX11_settle_370 rfl (lv_at hl 3 rfl) ?_
      refine va_get (D := D) (ci := 8) (v := .int n) (C := RX11) (T := TX11) (N := 6) hx hb hts in_X11_settle_X11 hown hE.1 hP 0 rfl rfl 5 (by decide +kernel) (hts (.fieldLink RX11 22 "ClauseBook$Worth" "age" "I") (List.mem_of_getElem? (i := 2) rfl)) (fun _ h9 => h9) rfl dX11_settle_371 ?_
      refine va_iast hx hb hE.1 hP hD hS 10 0 rfl rfl (by rw [vp_in_iff]; first | omega | (subst_vars; omega)) dX11_settle_374 (fun H locs hP hD hS => ?_)
      obtain ⟨hP, hD⟩ := wPD [(h0, .inr (8, [.ref la, .ref cl, .ref p0, .ref p1, .ref p4, .int n])), (la, .inr (5, [.int (l9 0), .int (l9 1), .int (l9 2), .int (l9 3), .int (l9 4), .int (l9 5), .int (l9 6)])), (cl, .inr (1, [.int n0, .ref c1, .ref c2, .ref c3, .ref c4, .ref c5, .ref c6, .ref c7])), (c1, .inl (T 0, 24, .inl f1)), (c2, .inl (T 0, 24, .inl f2)), (c3, .inl (T 0, 24, .inl f3)), (c4, .inl (T 0, 24, .inl f4)), (c5, .inl (T 0, 24, .inl f5)), (p0, .inl (T 1, 676, .inr (.inl f_226))), (p1, .inl (T 1, 676, .inr (.inl f_227))), (p4, .inl (T 0, 672, .inl (upd g4 (z_1.toNatClampNeg) n)))] hP hD rfl
      refine lv_iload hx hb dX11_settle_375 (lv_at hl 2 rfl) ?_
      exact W.iret hx hb hr (fun t ht hW => ⟨⟨_, (f_226, f_227, (upd g4 (z_1.toNatClampNeg) n)), rfl, ⟨hsb, hsl, (by rw [← hsl]; exact upd_at), hst.mark (by omega) (by omega) (by omega) (by omega) hsl (rg_self (by omega) (by omega) (by omega) hsl) (by rw [hp_z_1, VAL_step (l := l9) (fn := f2) (x := x1) (t := x2) (k := x3) hok (by omega) (by omega), sw_e (l := l9) (fk := f1) (fn := f2) (fc := f3) (fd := f4) (fe := f5) (V := (VALW l9 f1 f2 f3 f4 f5)) (x := x1) (t := x2) (k := x3) (show (f5 (x1.toNatClampNeg)).toInt < x2.toInt from by omega)])⟩, by rw [ht]; exact hP.sub [0, 1, 2, 3, 4, 5, 6, 7, 8, 9, 10] rfl, hD.sub [0, 1, 2, 3, 4, 5, 6, 7, 8, 9, 10] (by decide +kernel) rfl⟩, hS.F ht⟩) hS.2.2 dX11_settle_377
  · rw [fa_eq] at c_3
    refine lv_iload hx hb dX11_settle_30 (lv_at hl 0 rfl) ?_
    exact W.iret hx hb hr (fun t ht hW => ⟨⟨_, (g0, g1, g4), rfl, ⟨hsb, hsl, (by rw [← hsl]; exact ez_2.symm.trans (Int32.toInt_inj.1 (by omega))), hst⟩, by rw [ht]; exact hP.sub [0, 1, 2, 3, 4, 5, 6, 7, 8, 9, 10] rfl, hD.sub [0, 1, 2, 3, 4, 5, 6, 7, 8, 9, 10] (by decide +kernel) rfl⟩, hS.F ht⟩) hS.2.2 dX11_settle_32
theorem cS_step {l : Launch} {D : va_G} {T : Nat → ClassId} {ad sa av : Nat → Nat} {ta : Nat} {d : Nat} (hrec : cS_settle l D T ad sa av ta d) : cS_settle l D T ad sa av ta (d + 1) := by
  intro sz h0 la cl p0 p1 p4 n l9 n0 c1 c2 c3 c4 c5 c6 c7 f1 f2 f3 f4 f5 g0 g1 g4 x1 x2 x3 hx hd hsp hok hxn hmm hlq hdep
  exact s_X11_settle l D T ad sa av ta sz h0 la cl p0 p1 p4 n l9 n0 c1 c2 c3 c4 c5 c6 c7 f1 f2 f3 f4 f5 g0 g1 g4 d x1 x2 x3 hx hd hsp hok hxn hmm hlq (by omega) hrec
theorem cS_all (l : Launch) (D : va_G) (T : Nat → ClassId) (ad sa av : Nat → Nat) (ta : Nat) : ∀ d : Nat, cS_settle l D T ad sa av ta d
  | 0 => by
    intro sz h0 la cl p0 p1 p4 n l9 n0 c1 c2 c3 c4 c5 c6 c7 f1 f2 f3 f4 f5 g0 g1 g4 x1 x2 x3 hx hd hsp hok hxn hmm hlq hdep
    exfalso
    omega
  | d + 1 => cS_step (cS_all l D T ad sa av ta d)
end
section
/-! what is asked of worth, out of any table V of VALUES -/
/-- the spot of a path on a day -/
def spW (p t : Int32) : Int32 := sp_bits (p &&& ((1 <<< (t &&& 31)) - 1))
/-- on day t it can't be told; what tells it -/
def tkM (l fc : Nat → Int32) (V : vaF) (x p t : Int32) : Prop := (V (fc x.toNatClampNeg) t (spW p t)).2.toInt = 0 ∨ (avgW l V x t (spW p t)).2.toInt = 0
def tkS (l fc : Nat → Int32) (V : vaF) (x p t : Int32) : Int := cmpP (V (fc x.toNatClampNeg) t (spW p t)) (avgW l V x t (spW p t))
def tkN (l fc : Nat → Int32) (V : vaF) (x p t : Int32) : Prop := ¬ tkM l fc V x p t ∧ tkS l fc V x p t < 0
/-- FREE x, had on day t0, no later than e: the day on which it is taken; -5, if it can't be told -/
def takQ (l fc : Nat → Int32) (V : vaF) (e : Int) (x p t0 r : Int32) : Prop := (r.toInt = -5 ∧ ∃ t : Int32, t0.toInt ≤ t.toInt ∧ t.toInt < e ∧ tkM l fc V x p t ∧ ∀ s : Int32, t0.toInt ≤ s.toInt → s.toInt < t.toInt → tkN l fc V x p s) ∨ (t0.toInt ≤ r.toInt ∧ r.toInt ≤ e ∧ (r.toInt < e → ¬ tkM l fc V x p r ∧ 0 ≤ tkS l fc V x p r) ∧ ∀ s : Int32, t0.toInt ≤ s.toInt → s.toInt < r.toInt → tkN l fc V x p s)
theorem takQ_uniq {l fc : Nat → Int32} {V : vaF} {e : Int} {x p t0 r r' : Int32} (a : takQ l fc V e x p t0 r) (b : takQ l fc V e x p t0 r') : r = r' := by
  refine Int32.toInt_inj.1 ?_
  rcases a with ⟨a1, t, a2, a3, a4, a5⟩ | ⟨a2, a3, a4, a5⟩
  · rcases b with ⟨b1, _⟩ | ⟨b2, b3, b4, b5⟩
    · omega
    · exfalso
      rcases Int.lt_trichotomy t.toInt r'.toInt with h | h | h
      · exact (b5 t a2 h).1 a4
      · have h2 : t = r' := Int32.toInt_inj.1 h
        subst h2
        exact (b4 a3).1 a4
      · have h2 := (a5 r' b2 h).2
        have h3 := (b4 (by omega)).2
        omega
  · rcases b with ⟨b1, t, b2, b3, b4, b5⟩ | ⟨b2, b3, b4, b5⟩
    · exfalso
      rcases Int.lt_trichotomy t.toInt r.toInt with h | h | h
      · exact (a5 t b2 h).1 b4
      · have h2 : t = r := Int32.toInt_inj.1 h
        subst h2
        exact (a4 b3).1 b4
      · have h2 := (b5 r a2 h).2
        have h3 := (a4 (by omega)).2
        omega
    · rcases Int.lt_trichotomy r.toInt r'.toInt with h | h | h
      · exfalso
        have h2 := (b5 r a2 h).2
        have h3 := (a4 (by omega)).2
        omega
      · exact h
      · exfalso
        have h2 := (a5 r' b2 h).2
        have h3 := (b4 (by omega)).2
        omega
theorem upto_step {P : Int32 → Prop} {t0 t t' : Int32} (h : ∀ s : Int32, t0.toInt ≤ s.toInt → s.toInt < t.toInt → P s) (hp : P t) (hi : t'.toInt = t.toInt + 1) : ∀ s : Int32, t0.toInt ≤ s.toInt → s.toInt < t'.toInt → P s := by
  intro s h1 h2
  by_cases e : s.toInt = t.toInt
  · rw [Int32.toInt_inj.1 e]; exact hp
  · exact h s h1 (by omega)
theorem upto_0 {P : Int32 → Prop} {t0 : Int32} : ∀ s : Int32, t0.toInt ≤ s.toInt → s.toInt < t0.toInt → P s := fun s h1 h2 => by exfalso; omega
/-- a clause that there is, on a day, at a spot -/
abbrev atV (n x t k : Int32) : Prop := (0 ≤ x.toInt ∧ x.toInt < n.toInt) ∧ (0 ≤ t.toInt ∧ t.toInt ≤ 6) ∧ 0 ≤ k.toInt ∧ k.toInt ≤ t.toInt
def valQ (V : vaF) (n x t k i : Int32) (r : Int64) : Prop := (¬ (atV n x t k ∧ 0 ≤ i.toInt ∧ i.toInt ≤ 1) ∧ r.toInt = -4611686018427387906) ∨ ((atV n x t k ∧ 0 ≤ i.toInt ∧ i.toInt ≤ 1) ∧ partW (V x t k) i r)
def meanQ (l : Nat → Int32) (V : vaF) (n x t k i : Int32) (r : Int64) : Prop := (¬ (atV n x t k ∧ t.toInt ≠ 6 ∧ 0 ≤ i.toInt ∧ i.toInt ≤ 1) ∧ r.toInt = -4611686018427387906) ∨ ((atV n x t k ∧ t.toInt ≠ 6 ∧ 0 ≤ i.toInt ∧ i.toInt ≤ 1) ∧ partW (avgW l V x t k) i r)
def chQ (l fk fn fc fd fe : Nat → Int32) (V : vaF) (n x t k r : Int32) : Prop := (¬ (atV n x t k ∧ ((fk x.toNatClampNeg).toNatClampNeg = 6 ∨ (fk x.toNatClampNeg).toNatClampNeg = 7)) ∧ r.toInt = -2) ∨ ((atV n x t k ∧ ((fk x.toNatClampNeg).toNatClampNeg = 6 ∨ (fk x.toNatClampNeg).toNatClampNeg = 7)) ∧ (((fe x.toNatClampNeg).toInt < t.toInt ∧ r.toInt = -3) ∨ (¬ (fe x.toNatClampNeg).toInt < t.toInt ∧ r = pickW l fk fn fc fd fe V x t k)))
abbrev hadV (n x t p : Int32) : Prop := (0 ≤ x.toInt ∧ x.toInt < n.toInt) ∧ (0 ≤ t.toInt ∧ t.toInt ≤ 6) ∧ 0 ≤ p.toInt ∧ p.toInt ≤ 63
def tkQ (l fk fc fe : Nat → Int32) (V : vaF) (n x t p r : Int32) : Prop := (¬ (hadV n x t p ∧ (fk x.toNatClampNeg).toNatClampNeg = 11) ∧ r.toInt = -2) ∨ ((hadV n x t p ∧ (fk x.toNatClampNeg).toNatClampNeg = 11) ∧ (((fe x.toNatClampNeg).toInt < t.toInt ∧ r.toInt = -3) ∨ (¬ (fe x.toNatClampNeg).toInt < t.toInt ∧ takQ l fc V (fe x.toNatClampNeg).toInt x p t r)))
/-- spots in their order -/
abbrev spK (t k : Int32) : Prop := (0 ≤ t.toInt ∧ t.toInt ≤ 6) ∧ 0 ≤ k.toInt ∧ k.toInt ≤ t.toInt
abbrev spL (t k t' k' : Int32) : Prop := t.toInt < t'.toInt ∨ (t.toInt = t'.toInt ∧ k.toInt < k'.toInt)
abbrev mu2 (V : vaF) (x y t k : Int32) : Prop := (V x t k).2.toInt = 0 ∨ (V y t k).2.toInt = 0
def alkQ (V : vaF) (fe : Nat → Int32) (n x y r : Int32) : Prop := (¬ ((0 ≤ x.toInt ∧ x.toInt < n.toInt) ∧ 0 ≤ y.toInt ∧ y.toInt < n.toInt) ∧ r.toInt = -2) ∨ (((0 ≤ x.toInt ∧ x.toInt < n.toInt) ∧ 0 ≤ y.toInt ∧ y.toInt < n.toInt) ∧ (((∃ t k : Int32, spK t k ∧ mu2 V x y t k) ∧ r.toInt = -5) ∨ ((∀ t k : Int32, spK t k → ¬ mu2 V x y t k) ∧ (((fe x.toNatClampNeg).toInt = (fe y.toNatClampNeg).toInt ∧ ∀ t k : Int32, spK t k → V x t k = V y t k) ∧ r.toInt = 1 ∨ ¬ ((fe x.toNatClampNeg).toInt = (fe y.toNatClampNeg).toInt ∧ ∀ t k : Int32, spK t k → V x t k = V y t k) ∧ r.toInt = 0))))
def unlQ (V : vaF) (n x y r : Int32) : Prop := (¬ ((0 ≤ x.toInt ∧ x.toInt < n.toInt) ∧ 0 ≤ y.toInt ∧ y.toInt < n.toInt) ∧ r.toInt = -2) ∨ (((0 ≤ x.toInt ∧ x.toInt < n.toInt) ∧ 0 ≤ y.toInt ∧ y.toInt < n.toInt) ∧ ((∃ t k : Int32, spK t k ∧ (∀ t' k' : Int32, spK t' k' → spL t' k' t k → ¬ mu2 V x y t' k' ∧ V x t' k' = V y t' k') ∧ ((mu2 V x y t k ∧ r.toInt = -5) ∨ (¬ mu2 V x y t k ∧ V x t k ≠ V y t k ∧ r.toInt = 10 * t.toInt + k.toInt))) ∨ ((∀ t k : Int32, spK t k → ¬ mu2 V x y t k ∧ V x t k = V y t k) ∧ r.toInt = -1)))
/-- the first of the greatest among i < m -/
def bestI (W : Int32 → Int64 × Int64) (b m : Int32) : Prop := (0 ≤ b.toInt ∧ b.toInt < m.toInt) ∧ (∀ j : Int32, 0 ≤ j.toInt → j.toInt < b.toInt → cmpP (W j) (W b) < 0) ∧ ∀ j : Int32, b.toInt ≤ j.toInt → j.toInt < m.toInt → cmpP (W j) (W b) ≤ 0
def mostQ (V : vaF) (n x t r : Int32) : Prop := (¬ ((0 ≤ x.toInt ∧ x.toInt < n.toInt) ∧ 0 ≤ t.toInt ∧ t.toInt ≤ 6) ∧ r.toInt = -2) ∨ (((0 ≤ x.toInt ∧ x.toInt < n.toInt) ∧ 0 ≤ t.toInt ∧ t.toInt ≤ 6) ∧ (((∃ k : Int32, spK t k ∧ (V x t k).2.toInt = 0) ∧ r.toInt = -5) ∨ ((∀ k : Int32, spK t k → ¬ (V x t k).2.toInt = 0) ∧ spK t r ∧ (∀ j : Int32, 0 ≤ j.toInt → j.toInt < r.toInt → cmpP (V x t j) (V x t r) < 0) ∧ ∀ j : Int32, r.toInt ≤ j.toInt → j.toInt ≤ t.toInt → cmpP (V x t j) (V x t r) ≤ 0)))
theorem partW_of {p q : Int64 × Int64} {i : Int32} {r : Int64} (h : p = q) (a : partW p i r) : partW q i r := h ▸ a
theorem valQ_uniq {V V' : vaF} {n x t k i : Int32} {r r' : Int64} (hV : atV n x t k → V x t k = V' x t k) (a : valQ V n x t k i r) (b : valQ V' n x t k i r') : r = r' := by
  rcases a with ⟨a1, a2⟩ | ⟨a1, a2⟩
  · have b := b.resolve_right (fun q => a1 q.1)
    exact Int64.toInt_inj.1 (a2.trans b.2.symm)
  · have b := b.resolve_left (fun q => q.1 a1)
    rw [hV a1.1] at a2
    exact partW_uniq a2 b.2
theorem meanQ_uniq {l l' : Nat → Int32} {V V' : vaF} {n x t k i : Int32} {r r' : Int64} (hV : atV n x t k → t.toInt ≠ 6 → avgW l V x t k = avgW l' V' x t k) (a : meanQ l V n x t k i r) (b : meanQ l' V' n x t k i r') : r = r' := by
  rcases a with ⟨a1, a2⟩ | ⟨a1, a2⟩
  · have b := b.resolve_right (fun q => a1 q.1)
    exact Int64.toInt_inj.1 (a2.trans b.2.symm)
  · have b := b.resolve_left (fun q => q.1 a1)
    rw [hV a1.1 a1.2.1] at a2
    exact partW_uniq a2 b.2
theorem dX11_takenOn_0 : decode cX11_takenOn 0 = .ok (.aload_n 0, 1) := by decide +kernel
theorem dX11_takenOn_1 : decode cX11_takenOn 1 = .ok (.getfield 30, 3) := by decide +kernel
theorem dX11_takenOn_100 : decode cX11_takenOn 100 = .ok (.ireturn, 1) := by decide +kernel
theorem dX11_takenOn_101 : decode cX11_takenOn 101 = .ok (.iinc 6 1, 3) := by decide +kernel
theorem dX11_takenOn_104 : decode cX11_takenOn 104 = .ok (.goto (-79), 3) := by decide +kernel
theorem dX11_takenOn_107 : decode cX11_takenOn 107 = .ok (.iload 5, 2) := by decide +kernel
theorem dX11_takenOn_109 : decode cX11_takenOn 109 = .ok (.ireturn, 1) := by decide +kernel
theorem dX11_takenOn_11 : decode cX11_takenOn 11 = .ok (.aload_n 0, 1) := by decide +kernel
theorem dX11_takenOn_12 : decode cX11_takenOn 12 = .ok (.getfield 30, 3) := by decide +kernel
theorem dX11_takenOn_15 : decode cX11_takenOn 15 = .ok (.getfield 45, 3) := by decide +kernel
theorem dX11_takenOn_18 : decode cX11_takenOn 18 = .ok (.iload_n 1, 1) := by decide +kernel
theorem dX11_takenOn_19 : decode cX11_takenOn 19 = .ok (.iaload, 1) := by decide +kernel
theorem dX11_takenOn_20 : decode cX11_takenOn 20 = .ok (.istore 5, 2) := by decide +kernel
theorem dX11_takenOn_22 : decode cX11_takenOn 22 = .ok (.iload_n 2, 1) := by decide +kernel
theorem dX11_takenOn_23 : decode cX11_takenOn 23 = .ok (.istore 6, 2) := by decide +kernel
theorem dX11_takenOn_25 : decode cX11_takenOn 25 = .ok (.iload 6, 2) := by decide +kernel
theorem dX11_takenOn_27 : decode cX11_takenOn 27 = .ok (.iload 5, 2) := by decide +kernel
theorem dX11_takenOn_29 : decode cX11_takenOn 29 = .ok (.if_icmp .ge 78, 3) := by decide +kernel
theorem dX11_takenOn_32 : decode cX11_takenOn 32 = .ok (.iload_n 3, 1) := by decide +kernel
theorem dX11_takenOn_33 : decode cX11_takenOn 33 = .ok (.iload 6, 2) := by decide +kernel
theorem dX11_takenOn_35 : decode cX11_takenOn 35 = .ok (.invokestatic 144, 3) := by decide +kernel
theorem dX11_takenOn_38 : decode cX11_takenOn 38 = .ok (.istore 7, 2) := by decide +kernel
theorem dX11_takenOn_4 : decode cX11_takenOn 4 = .ok (.getfield 40, 3) := by decide +kernel
theorem dX11_takenOn_40 : decode cX11_takenOn 40 = .ok (.aload_n 0, 1) := by decide +kernel
theorem dX11_takenOn_41 : decode cX11_takenOn 41 = .ok (.iload 4, 2) := by decide +kernel
theorem dX11_takenOn_43 : decode cX11_takenOn 43 = .ok (.iload 6, 2) := by decide +kernel
theorem dX11_takenOn_45 : decode cX11_takenOn 45 = .ok (.iload 7, 2) := by decide +kernel
theorem dX11_takenOn_47 : decode cX11_takenOn 47 = .ok (.invokevirtual 71, 3) := by decide +kernel
theorem dX11_takenOn_50 : decode cX11_takenOn 50 = .ok (.istore 8, 2) := by decide +kernel
theorem dX11_takenOn_52 : decode cX11_takenOn 52 = .ok (.aload_n 0, 1) := by decide +kernel
theorem dX11_takenOn_53 : decode cX11_takenOn 53 = .ok (.sipush 674, 3) := by decide +kernel
theorem dX11_takenOn_56 : decode cX11_takenOn 56 = .ok (.iload_n 1, 1) := by decide +kernel
theorem dX11_takenOn_57 : decode cX11_takenOn 57 = .ok (.iload 6, 2) := by decide +kernel
theorem dX11_takenOn_59 : decode cX11_takenOn 59 = .ok (.iload 7, 2) := by decide +kernel
theorem dX11_takenOn_61 : decode cX11_takenOn 61 = .ok (.invokevirtual 101, 3) := by decide +kernel
theorem dX11_takenOn_64 : decode cX11_takenOn 64 = .ok (.aload_n 0, 1) := by decide +kernel
theorem dX11_takenOn_65 : decode cX11_takenOn 65 = .ok (.iload 8, 2) := by decide +kernel
theorem dX11_takenOn_67 : decode cX11_takenOn 67 = .ok (.invokevirtual 34, 3) := by decide +kernel
theorem dX11_takenOn_7 : decode cX11_takenOn 7 = .ok (.iload_n 1, 1) := by decide +kernel
theorem dX11_takenOn_70 : decode cX11_takenOn 70 = .ok (.ifCond .ne 13, 3) := by decide +kernel
theorem dX11_takenOn_73 : decode cX11_takenOn 73 = .ok (.aload_n 0, 1) := by decide +kernel
theorem dX11_takenOn_74 : decode cX11_takenOn 74 = .ok (.sipush 674, 3) := by decide +kernel
theorem dX11_takenOn_77 : decode cX11_takenOn 77 = .ok (.invokevirtual 34, 3) := by decide +kernel
theorem dX11_takenOn_8 : decode cX11_takenOn 8 = .ok (.iaload, 1) := by decide +kernel
theorem dX11_takenOn_80 : decode cX11_takenOn 80 = .ok (.ifCond .eq 6, 3) := by decide +kernel
theorem dX11_takenOn_83 : decode cX11_takenOn 83 = .ok (.bipush (-5), 2) := by decide +kernel
theorem dX11_takenOn_85 : decode cX11_takenOn 85 = .ok (.ireturn, 1) := by decide +kernel
theorem dX11_takenOn_86 : decode cX11_takenOn 86 = .ok (.aload_n 0, 1) := by decide +kernel
theorem dX11_takenOn_87 : decode cX11_takenOn 87 = .ok (.iload 8, 2) := by decide +kernel
theorem dX11_takenOn_89 : decode cX11_takenOn 89 = .ok (.sipush 674, 3) := by decide +kernel
theorem dX11_takenOn_9 : decode cX11_takenOn 9 = .ok (.istore 4, 2) := by decide +kernel
theorem dX11_takenOn_92 : decode cX11_takenOn 92 = .ok (.invokevirtual 114, 3) := by decide +kernel
theorem dX11_takenOn_95 : decode cX11_takenOn 95 = .ok (.ifCond .lt 6, 3) := by decide +kernel
theorem dX11_takenOn_98 : decode cX11_takenOn 98 = .ok (.iload 6, 2) := by decide +kernel
set_option maxRecDepth 20000 in
theorem ggX11_takenOn_X11_average : GoodIn wsX11_takenOn wsX11_average := goodIn_r _ [107, 26, 108, 109, 110, 111, 46, 47, 15, 16, 17, 18, 48, 49, 50, 51, 52, 53, 54, 24, 55, 42, 43, 44, 45, 56, 57, 58, 59, 60, 61, 62, 63, 71, 72, 73, 74, 75, 76, 77, 112, 1, 2, 27, 113, 114, 25, 3, 115, 116, 29, 30, 31, 32, 33, 34, 64, 65, 66, 6, 67, 68, 69, 70, 89, 90, 91, 92, 93, 94, 95, 96, 97, 98, 99, 100, 101, 102, 103, 19, 20, 21, 22, 23, 28, 35, 36, 37, 38, 39, 40, 41, 78, 79, 80, 81, 82, 83, 84, 85, 86, 87, 88, 104, 105, 106, 117, 118, 119, 120, 121, 122, 131, 132, 133, 134, 135, 136, 137, 123, 124, 125, 126, 127, 128, 129, 130] rfl (by decide +kernel)
set_option maxRecDepth 20000 in
theorem ggX11_takenOn_X11_isMuch : GoodIn wsX11_takenOn wsX11_isMuch := goodIn_r _ [92, 47, 117, 118, 119, 120, 121, 122] rfl (by decide +kernel)
set_option maxRecDepth 20000 in
theorem ggX11_takenOn_X11_order : GoodIn wsX11_takenOn wsX11_order := goodIn_r _ [96, 46, 47, 97, 98, 99, 100, 101, 102, 103, 117, 118, 119, 120, 121, 122] rfl (by decide +kernel)
set_option maxRecDepth 20000 in
theorem ggX11_takenOn_X11_settle : GoodIn wsX11_takenOn wsX11_settle := goodIn_r _ [19, 20, 21, 1, 2, 3, 22, 23, 24, 25, 26, 27, 28, 29, 30, 31, 32, 33, 34, 35, 36, 37, 38, 39, 40, 41, 42, 43, 44, 18, 45, 46, 47, 15, 16, 17, 48, 49, 50, 51, 52, 53, 54, 55, 56, 57, 58, 59, 60, 61, 62, 63, 64, 65, 66, 6, 67, 68, 69, 70, 71, 72, 73, 74, 75, 76, 77, 78, 79, 80, 81, 82, 83, 84, 85, 86, 87, 88, 89, 90, 91, 92, 93, 94, 95, 96, 97, 98, 99, 100, 101, 102, 103, 104, 105, 106, 107, 108, 109, 110, 111, 112, 113, 114, 115, 116, 117, 118, 119, 120, 121, 122, 131, 132, 133, 134, 135, 136, 137, 123, 124, 125, 126, 127, 128, 129, 130] rfl (by decide +kernel)
set_option maxRecDepth 20000 in
theorem ggX11_takenOn_X8_spotOn : GoodIn wsX11_takenOn wsX8_spotOn := goodIn_r _ [7, 8, 9, 10, 11, 12, 13, 14] rfl (by decide +kernel)
set_option maxRecDepth 20000 in
theorem gX11_takenOn_X11_average : GoodIn wsX11_takenOn (wsV RX11 101 RX11 yX11_average wsX11_average) := goodIn_app (goodIn_r _ [82, 83, 84, 18] rfl (by decide +kernel)) ggX11_takenOn_X11_average
set_option maxRecDepth 20000 in
theorem gX11_takenOn_X11_isMuch : GoodIn wsX11_takenOn (wsV RX11 34 RX11 yX11_isMuch wsX11_isMuch) := goodIn_app (goodIn_r _ [89, 90, 91, 18] rfl (by decide +kernel)) ggX11_takenOn_X11_isMuch
set_option maxRecDepth 20000 in
theorem gX11_takenOn_X11_order : GoodIn wsX11_takenOn (wsV RX11 114 RX11 yX11_order wsX11_order) := goodIn_app (goodIn_r _ [93, 94, 95, 18] rfl (by decide +kernel)) ggX11_takenOn_X11_order
set_option maxRecDepth 20000 in
theorem gX11_takenOn_X11_settle : GoodIn wsX11_takenOn (wsV RX11 71 RX11 yX11_settle wsX11_settle) := goodIn_app (goodIn_r _ [15, 16, 17, 18] rfl (by decide +kernel)) ggX11_takenOn_X11_settle
set_option maxRecDepth 20000 in
theorem gX11_takenOn_X8_spotOn : GoodIn wsX11_takenOn (va_wsS RX11 144 yX8_spotOn wsX8_spotOn) := goodIn_app (goodIn_of _ (by decide +kernel)) ggX11_takenOn_X8_spotOn
set_option maxRecDepth 20000 in
theorem in_X11_takenOn_X11 : ∀ w ∈ wsX110, w ∈ wsX11_takenOn := sub_r [117, 118, 119, 120, 121, 122] rfl
set_option maxRecDepth 20000 in
theorem in_X11_takenOn_X2 : ∀ w ∈ wsX20, w ∈ wsX11_takenOn := sub_r [123, 124, 125, 126, 127, 128, 129, 130] rfl
set_option maxHeartbeats 4000000 in
set_option maxRecDepth 100000 in
theorem c_X11_takenOn (l : Launch) (D : va_G) (T : Nat → ClassId) (ad sa av : Nat → Nat) (ta : Nat) (sz : Nat) (h0 : Nat) (la : Nat) (cl : Nat) (p0 : Nat) (p1 : Nat) (p4 : Nat) (n : Int32) (l9 : Nat → Int32) (n0 : Int32) (c1 : Nat) (c2 : Nat) (c3 : Nat) (c4 : Nat) (c5 : Nat) (c6 : Nat) (c7 : Nat) (f1 : Nat → Int32) (f2 : Nat → Int32) (f3 : Nat → Int32) (f4 : Nat → Int32) (f5 : Nat → Int32) (g0 : Nat → Int64) (g1 : Nat → Int64) (g4 : Nat → Int32) (x1 : Int32) (x2 : Int32) (x3 : Int32) (hx : 0 ≤ x1.toInt ∧ x1.toInt < 24) (hd : 0 ≤ x2.toInt ∧ x2.toInt ≤ 6) (hpa : 0 ≤ x3.toInt ∧ x3.toInt ≤ 63) (hok : okC f1 f3 f4 f5) (hk11 : (f1 (x1.toNatClampNeg)).toNatClampNeg = 11) (hend : x2.toInt ≤ (f5 (x1.toNatClampNeg)).toInt) (hxn : x1.toInt < n0.toInt) (hmm : memW (VALW l9 f1 f2 f3 f4 f5) n0 n g0 g1 g4) (hlq : (1 ≤ (l9 4).toInt ∧ (l9 4).toInt ≤ 9) ∧ 1 ≤ (l9 6).toInt ∧ (l9 6).toInt ≤ 9) : Met l yX11_takenOn wsX11_takenOn ({ frames := 68, cells := 0, slots := 0, locals := 2226 }) (pWk [.ref h0, .int x1, .int x2, .int x3] D T [(h0, .inr (8, [.ref la, .ref cl, .ref p0, .ref p1, .ref p4, .int n])), (la, .inr (5, [.int (l9 0), .int (l9 1), .int (l9 2), .int (l9 3), .int (l9 4), .int (l9 5), .int (l9 6)])), (cl, .inr (1, [.int n0, .ref c1, .ref c2, .ref c3, .ref c4, .ref c5, .ref c6, .ref c7])), (c1, .inl (T 0, 24, .inl f1)), (c2, .inl (T 0, 24, .inl f2)), (c3, .inl (T 0, 24, .inl f3)), (c4, .inl (T 0, 24, .inl f4)), (c5, .inl (T 0, 24, .inl f5)), (p0, .inl (T 1, 676, .inr (.inl g0))), (p1, .inl (T 1, 676, .inr (.inl g1))), (p4, .inl (T 0, 672, .inl g4))] sz ad sa av ta) (va_Qi (fun (r : Int32) (u : (Nat → Int64) × (Nat → Int64) × (Nat → Int32)) => (r.toInt = -5 ∨ (0 ≤ r.toInt ∧ r.toInt ≤ 6)) ∧ takQ l9 f3 (VALW l9 f1 f2 f3 f4 f5) (f5 (x1.toNatClampNeg)).toInt x1 x3 x2 r ∧ stW (VALW l9 f1 f2 f3 f4 f5) n0 n (fun _ => True) g0 g1 g4 u.1 u.2.1 u.2.2) (bW D (va_A [(h0, .inr (8, [.ref la, .ref cl, .ref p0, .ref p1, .ref p4, .int n])), (la, .inr (5, [.int (l9 0), .int (l9 1), .int (l9 2), .int (l9 3), .int (l9 4), .int (l9 5), .int (l9 6)])), (cl, .inr (1, [.int n0, .ref c1, .ref c2, .ref c3, .ref c4, .ref c5, .ref c6, .ref c7])), (c1, .inl (T 0, 24, .inl f1)), (c2, .inl (T 0, 24, .inl f2)), (c3, .inl (T 0, 24, .inl f3)), (c4, .inl (T 0, 24, .inl f4)), (c5, .inl (T 0, 24, .inl f5)), (p0, .inl (T 1, 676, .inr (.inl g0))), (p1, .inl (T 1, 676, .inr (.inl g1))), (p4, .inl (T 0, 672, .inl g4))] sz) (fun (u : (Nat → Int64) × (Nat → Int64) × (Nat → Int32)) => [(h0, .inr (8, [.ref la, .ref cl, .ref p0, .ref p1, .ref p4, .int n])), (la, .inr (5, [.int (l9 0), .int (l9 1), .int (l9 2), .int (l9 3), .int (l9 4), .int (l9 5), .int (l9 6)])), (cl, .inr (1, [.int n0, .ref c1, .ref c2, .ref c3, .ref c4, .ref c5, .ref c6, .ref c7])), (c1, .inl (T 0, 24, .inl f1)), (c2, .inl (T 0, 24, .inl f2)), (c3, .inl (T 0, 24, .inl f3)), (c4, .inl (T 0, 24, .inl f4)), (c5, .inl (T 0, 24, .inl f5)), (p0, .inl (T 1, 676, .inr (.inl u.1))), (p1, .inl (T 1, 676, .inr (.inl u.2.1))), (p4, .inl (T 0, 672, .inl u.2.2))])) (va_A [(h0, .inr (8, [.ref la, .ref cl, .ref p0, .ref p1, .ref p4, .int n])), (la, .inr (5, [.int (l9 0), .int (l9 1), .int (l9 2), .int (l9 3), .int (l9 4), .int (l9 5), .int (l9 6)])), (cl, .inr (1, [.int n0, .ref c1, .ref c2, .ref c3, .ref c4, .ref c5, .ref c6, .ref c7])), (c1, .inl (T 0, 24, .inl f1)), (c2, .inl (T 0, 24, .inl f2)), (c3, .inl (T 0, 24, .inl f3)), (c4, .inl (T 0, 24, .inl f4)), (c5, .inl (T 0, 24, .inl f5)), (p0, .inl (T 1, 676, .inr (.inl g0))), (p1, .inl (T 1, 676, .inr (.inl g1))), (p4, .inl (T 0, 672, .inl g4))] sz)) 0 0 (va_A [(h0, .inr (8, [.ref la, .ref cl, .ref p0, .ref p1, .ref p4, .int n])), (la, .inr (5, [.int (l9 0), .int (l9 1), .int (l9 2), .int (l9 3), .int (l9 4), .int (l9 5), .int (l9 6)])), (cl, .inr (1, [.int n0, .ref c1, .ref c2, .ref c3, .ref c4, .ref c5, .ref c6, .ref c7])), (c1, .inl (T 0, 24, .inl f1)), (c2, .inl (T 0, 24, .inl f2)), (c3, .inl (T 0, 24, .inl f3)), (c4, .inl (T 0, 24, .inl f4)), (c5, .inl (T 0, 24, .inl f5)), (p0, .inl (T 1, 676, .inr (.inl g0))), (p1, .inl (T 1, 676, .inr (.inl g1))), (p4, .inl (T 0, 672, .inl g4))] sz) := by
  refine Met.ofW (cc := cX11_takenOn) (maxL := 9) (ret := (some .int)) (by decide +kernel) rfl ?_
  intro p e s m args below meth c s₁ B hml hv
  obtain ⟨rfl, hsz, hP, hE, hD0, hV⟩ := hv
  have hx := B.exec
  have hb := B.bytes
  have hr := B.returns
  have hts := atoms_spec (ws := wsX11_takenOn) B.pre
  have hown : s.vm.findClass RX11 = some m.cls := findClass_of_methodNamed B.named
  have hlocks := B.notSynchronized
  subst hsz
  have hD := hD0.self (sz := s.heap.size)
  generalize hAe : va_A [(h0, .inr (8, [.ref la, .ref cl, .ref p0, .ref p1, .ref p4, .int n])), (la, .inr (5, [.int (l9 0), .int (l9 1), .int (l9 2), .int (l9 3), .int (l9 4), .int (l9 5), .int (l9 6)])), (cl, .inr (1, [.int n0, .ref c1, .ref c2, .ref c3, .ref c4, .ref c5, .ref c6, .ref c7])), (c1, .inl (T 0, 24, .inl f1)), (c2, .inl (T 0, 24, .inl f2)), (c3, .inl (T 0, 24, .inl f3)), (c4, .inl (T 0, 24, .inl f4)), (c5, .inl (T 0, 24, .inl f5)), (p0, .inl (T 1, 676, .inr (.inl g0))), (p1, .inl (T 1, 676, .inr (.inl g1))), (p4, .inl (T 0, 672, .inl g4))] s.heap.size = A at hD hV ⊢
  have hA : ∀ q : Nat, s.heap.size ≤ q → A q := fun q h => by rw [← hAe]; exact Or.inr h
  have hS : va_S A s.heap s.heap [] := va_S.rf
  have hP : va_P D vwCl [(h0, .inr (8, [.ref la, .ref cl, .ref p0, .ref p1, .ref p4, .int n])), (la, .inr (5, [.int (l9 0), .int (l9 1), .int (l9 2), .int (l9 3), .int (l9 4), .int (l9 5), .int (l9 6)])), (cl, .inr (1, [.int n0, .ref c1, .ref c2, .ref c3, .ref c4, .ref c5, .ref c6, .ref c7])), (c1, .inl (T 0, 24, .inl f1)), (c2, .inl (T 0, 24, .inl f2)), (c3, .inl (T 0, 24, .inl f3)), (c4, .inl (T 0, 24, .inl f4)), (c5, .inl (T 0, 24, .inl f5)), (p0, .inl (T 1, 676, .inr (.inl g0))), (p1, .inl (T 1, 676, .inr (.inl g1))), (p4, .inl (T 0, 672, .inl g4))] s.heap := hP
  have hl := lv_entry ([.ref h0, .int x1, .int x2, .int x3]) (n := 9) (Nat.le_of_ble_eq_true rfl)
  rw [lg_entry_eq]
  generalize (lg_sl ([.ref h0, .int x1, .int x2, .int x3]) ++ List.replicate (9 - (lg_sl ([.ref h0, .int x1, .int x2, .int x3])).length) Slot.unset).toArray = ls at hl ⊢
  have hl : lv_has ls 9 [(0, .ref h0), (1, .int x1), (2, .int x2), (3, .int x3)] := hl
  have he6 : (f5 (x1.toNatClampNeg)).toInt ≤ 6 := (hok _ (in24 (x := x1) (by omega)).1).2.2.2
  clear hD0
  have hst : stW (VALW l9 f1 f2 f3 f4 f5) n0 n (fun _ => True) g0 g1 g4 g0 g1 g4 := stW_rf hmm
  refine lv_aload_n hx hb dX11_takenOn_0 rfl (lv_at hl 0 rfl) ?_
  refine va_get (D := D) (ci := 8) (v := .ref cl) (C := RX11) (T := TX11) (N := 6) hx hb hts in_X11_takenOn_X11 hown hE.1 hP 0 rfl rfl 1 (by decide +kernel) (hts (.fieldLink RX11 30 "ClauseBook$Worth" "clauses" "LClauseBook$Clauses;") (List.mem_of_getElem? (i := 1) rfl)) (fun _ h9 => h9) rfl dX11_takenOn_1 ?_
  refine va_get (D := D) (ci := 1) (v := .ref c3) (C := RX2) (T := TX2) (N := 8) hx hb hts in_X11_takenOn_X2 hown hE.1 hP 2 rfl rfl 3 (by decide +kernel) (hts (.fieldLink RX11 40 "ClauseBook$Clauses" "c" "[I") (List.mem_of_getElem? (i := 2) rfl)) (fun _ h9 => h9) rfl dX11_takenOn_4 ?_
  refine lv_iload_n hx hb dX11_takenOn_7 rfl (lv_at hl 1 rfl) ?_
  refine va_iald hx hb hE.1 hP 5 0 rfl rfl (by rw [vp_in_iff]; first | omega | (subst_vars; omega)) dX11_takenOn_8 ?_
  refine lv_topi (fun z_1 ez_1 => ?_)
  refine lv_istore (lv' := [(4, .int z_1), (0, .ref h0), (1, .int x1), (2, .int x2), (3, .int x3)]) hx hb dX11_takenOn_9 hl (by decide +kernel) rfl (fun ls hl => ?_)
  have hc9 : 0 ≤ z_1.toInt ∧ z_1.toInt < x1.toInt := by
    have h := (hok _ (in24 (x := x1) (by omega)).1).2.1 (by rw [hk11]; decide)
    have h2 := (in24 (x := x1) (by omega)).2
    rw [ez_1]
    omega
  refine lv_aload_n hx hb dX11_takenOn_11 rfl (lv_at hl 1 rfl) ?_
  refine va_get (D := D) (ci := 8) (v := .ref cl) (C := RX11) (T := TX11) (N := 6) hx hb hts in_X11_takenOn_X11 hown hE.1 hP 0 rfl rfl 1 (by decide +kernel) (hts (.fieldLink RX11 30 "ClauseBook$Worth" "clauses" "LClauseBook$Clauses;") (List.mem_of_getElem? (i := 1) rfl)) (fun _ h9 => h9) rfl dX11_takenOn_12 ?_
  refine va_get (D := D) (ci := 1) (v := .ref c5) (C := RX2) (T := TX2) (N := 8) hx hb hts in_X11_takenOn_X2 hown hE.1 hP 2 rfl rfl 5 (by decide +kernel) (hts (.fieldLink RX11 45 "ClauseBook$Clauses" "end" "[I") (List.mem_of_getElem? (i := 3) rfl)) (fun _ h9 => h9) rfl dX11_takenOn_15 ?_
  refine lv_iload_n hx hb dX11_takenOn_18 rfl (lv_at hl 2 rfl) ?_
  refine va_iald hx hb hE.1 hP 7 0 rfl rfl (by rw [vp_in_iff]; first | omega | (subst_vars; omega)) dX11_takenOn_19 ?_
  refine lv_topi (fun z_2 ez_2 => ?_)
  refine lv_istore (lv' := [(5, .int z_2), (4, .int z_1), (0, .ref h0), (1, .int x1), (2, .int x2), (3, .int x3)]) hx hb dX11_takenOn_20 hl (by decide +kernel) rfl (fun ls hl => ?_)
  have hz9 : z_2.toInt = (f5 (x1.toNatClampNeg)).toInt := by rw [ez_2]
  refine lv_iload_n hx hb dX11_takenOn_22 rfl (lv_at hl 4 rfl) ?_
  refine lv_istore (lv' := [(6, .int x2), (5, .int z_2), (4, .int z_1), (0, .ref h0), (1, .int x1), (2, .int x2), (3, .int x3)]) hx hb dX11_takenOn_23 hl (by decide +kernel) rfl (fun ls hl => ?_)
  refine loopW (σ := (Int32) × (Nat → Int64) × (Nat → Int64) × (Nat → Int32)) (fun x9 ls H locs => lv_has ls 9 [(6, .int x9.1), (5, .int z_2), (4, .int z_1), (0, .ref h0), (1, .int x1), (2, .int x2), (3, .int x3)] ∧ va_P D vwCl [(h0, .inr (8, [.ref la, .ref cl, .ref p0, .ref p1, .ref p4, .int n])), (la, .inr (5, [.int (l9 0), .int (l9 1), .int (l9 2), .int (l9 3), .int (l9 4), .int (l9 5), .int (l9 6)])), (cl, .inr (1, [.int n0, .ref c1, .ref c2, .ref c3, .ref c4, .ref c5, .ref c6, .ref c7])), (c1, .inl (T 0, 24, .inl f1)), (c2, .inl (T 0, 24, .inl f2)), (c3, .inl (T 0, 24, .inl f3)), (c4, .inl (T 0, 24, .inl f4)), (c5, .inl (T 0, 24, .inl f5)), (p0, .inl (T 1, 676, .inr (.inl x9.2.1))), (p1, .inl (T 1, 676, .inr (.inl x9.2.2.1))), (p4, .inl (T 0, 672, .inl x9.2.2.2))] H ∧ va_D A [(h0, .inr (8, [.ref la, .ref cl, .ref p0, .ref p1, .ref p4, .int n])), (la, .inr (5, [.int (l9 0), .int (l9 1), .int (l9 2), .int (l9 3), .int (l9 4), .int (l9 5), .int (l9 6)])), (cl, .inr (1, [.int n0, .ref c1, .ref c2, .ref c3, .ref c4, .ref c5, .ref c6, .ref c7])), (c1, .inl (T 0, 24, .inl f1)), (c2, .inl (T 0, 24, .inl f2)), (c3, .inl (T 0, 24, .inl f3)), (c4, .inl (T 0, 24, .inl f4)), (c5, .inl (T 0, 24, .inl f5)), (p0, .inl (T 1, 676, .inr (.inl x9.2.1))), (p1, .inl (T 1, 676, .inr (.inl x9.2.2.1))), (p4, .inl (T 0, 672, .inl x9.2.2.2))] ∧ va_S A s.heap H locs ∧ ((x2.toInt ≤ x9.1.toInt ∧ x9.1.toInt ≤ z_2.toInt) ∧ stW (VALW l9 f1 f2 f3 f4 f5) n0 n (fun _ => True) g0 g1 g4 x9.2.1 x9.2.2.1 x9.2.2.2 ∧ ∀ s : Int32, x2.toInt ≤ s.toInt → s.toInt < x9.1.toInt → tkN l9 f3 (VALW l9 f1 f2 f3 f4 f5) x1 x3 s)) (fun x9 => (7 - x9.1.toInt).toNat) (fun x9 ls H locs hI ih => ?_) (x2, g0, g1, g4) ls ⟨lv_sub hl [0, 1, 2, 3, 4, 5, 6] rfl, hP.sub [0, 1, 2, 3, 4, 5, 6, 7, 8, 9, 10] rfl, hD.sub [0, 1, 2, 3, 4, 5, 6, 7, 8, 9, 10] (by decide +kernel) rfl, hS, ⟨(by (try dsimp only); omega), hst, upto_0⟩⟩
  obtain ⟨tt, v0, v1, v4⟩ := x9
  obtain ⟨hl, hP, hD, hS, hinv⟩ := hI
  have hl : lv_has ls 9 [(6, .int tt), (5, .int z_2), (4, .int z_1), (0, .ref h0), (1, .int x1), (2, .int x2), (3, .int x3)] := hl
  have hP : va_P D vwCl [(h0, .inr (8, [.ref la, .ref cl, .ref p0, .ref p1, .ref p4, .int n])), (la, .inr (5, [.int (l9 0), .int (l9 1), .int (l9 2), .int (l9 3), .int (l9 4), .int (l9 5), .int (l9 6)])), (cl, .inr (1, [.int n0, .ref c1, .ref c2, .ref c3, .ref c4, .ref c5, .ref c6, .ref c7])), (c1, .inl (T 0, 24, .inl f1)), (c2, .inl (T 0, 24, .inl f2)), (c3, .inl (T 0, 24, .inl f3)), (c4, .inl (T 0, 24, .inl f4)), (c5, .inl (T 0, 24, .inl f5)), (p0, .inl (T 1, 676, .inr (.inl v0))), (p1, .inl (T 1, 676, .inr (.inl v1))), (p4, .inl (T 0, 672, .inl v4))] H := hP
  have hD : va_D A [(h0, .inr (8, [.ref la, .ref cl, .ref p0, .ref p1, .ref p4, .int n])), (la, .inr (5, [.int (l9 0), .int (l9 1), .int (l9 2), .int (l9 3), .int (l9 4), .int (l9 5), .int (l9 6)])), (cl, .inr (1, [.int n0, .ref c1, .ref c2, .ref c3, .ref c4, .ref c5, .ref c6, .ref c7])), (c1, .inl (T 0, 24, .inl f1)), (c2, .inl (T 0, 24, .inl f2)), (c3, .inl (T 0, 24, .inl f3)), (c4, .inl (T 0, 24, .inl f4)), (c5, .inl (T 0, 24, .inl f5)), (p0, .inl (T 1, 676, .inr (.inl v0))), (p1, .inl (T 1, 676, .inr (.inl v1))), (p4, .inl (T 0, 672, .inl v4))] := hD
  have hinv : (x2.toInt ≤ tt.toInt ∧ tt.toInt ≤ z_2.toInt) ∧ stW (VALW l9 f1 f2 f3 f4 f5) n0 n (fun _ => True) g0 g1 g4 v0 v1 v4 ∧ ∀ s : Int32, x2.toInt ≤ s.toInt → s.toInt < tt.toInt → tkN l9 f3 (VALW l9 f1 f2 f3 f4 f5) x1 x3 s := hinv
  obtain ⟨hinv, hst, hno⟩ := hinv
  have hmm : memW (VALW l9 f1 f2 f3 f4 f5) n0 n v0 v1 v4 := hst.1
  refine lv_iload hx hb dX11_takenOn_25 (lv_at hl 0 rfl) ?_
  refine lv_iload hx hb dX11_takenOn_27 (lv_at hl 1 rfl) ?_
  refine lv_icmp_ge (tgt := 107) hx hb dX11_takenOn_29 (by decide +kernel) (fun c_3 => ?_) (fun c_3 => ?_)
  · rw [fa_le] at c_3
    refine lv_iload hx hb dX11_takenOn_107 (lv_at hl 1 rfl) ?_
    exact W.iret hx hb hr (fun t ht hW => ⟨⟨_, (v0, v1, v4), rfl, ⟨(Or.inr (by omega)), (Or.inr ⟨(by omega), (by omega), (fun h9 => by exfalso; omega), (fun s9 h8 h7 => hno s9 h8 (by omega))⟩), hst⟩, by rw [ht]; exact hP.sub [0, 1, 2, 3, 4, 5, 6, 7, 8, 9, 10] rfl, hD.sub [0, 1, 2, 3, 4, 5, 6, 7, 8, 9, 10] (by decide +kernel) rfl⟩, hS.F ht⟩) hS.2.2 dX11_takenOn_109
  · rw [fa_le] at c_3
    refine lv_iload_n hx hb dX11_takenOn_32 rfl (lv_at hl 6 rfl) ?_
    refine lv_iload hx hb dX11_takenOn_33 (lv_at hl 0 rfl) ?_
    refine vp_callSi (W.runS (As := [.int x3, .int tt]) (rest := []) ⟨hx, hb, hml, hown, hts⟩ (c_X8_spotOn l D T x3 tt) (va_cwS 2 hts gX11_takenOn_X8_spotOn rfl rfl rfl hs_X8_spotOn ⟨Nat.le_of_ble_eq_true rfl, Nat.le_of_ble_eq_true rfl⟩) (pR_S hP hE [] rfl) rfl rfl hl.1 rfl (lv_room (Nat.le_of_ble_eq_true rfl)) dX11_takenOn_35 ⟨Nat.le_of_ble_eq_true rfl, Nat.le_of_ble_eq_true rfl⟩) (fun r_4 hr_4 => ?_)
    obtain rfl : (sp_bits (x3 &&& ((1 <<< (tt &&& 31)) - 1))) = r_4 := (hr_4).symm
    refine lv_topi (fun z_5 ez_5 => ?_)
    refine lv_istore (lv' := [(7, .int z_5), (6, .int tt), (5, .int z_2), (4, .int z_1), (0, .ref h0), (1, .int x1), (2, .int x2), (3, .int x3)]) hx hb dX11_takenOn_38 hl (by decide +kernel) rfl (fun ls hl => ?_)
    have hsp9 : 0 ≤ z_5.toInt ∧ z_5.toInt ≤ tt.toInt := by rw [ez_5]; exact spot_in (by omega) (by omega)
    refine lv_aload_n hx hb dX11_takenOn_40 rfl (lv_at hl 4 rfl) ?_
    refine lv_iload hx hb dX11_takenOn_41 (lv_at hl 3 rfl) ?_
    refine lv_iload hx hb dX11_takenOn_43 (lv_at hl 1 rfl) ?_
    refine lv_iload hx hb dX11_takenOn_45 (lv_at hl 0 rfl) ?_
    have hFc := va_free (wc := [(h0, .inr (8, [.ref la, .ref cl, .ref p0, .ref p1, .ref p4, .int n])), (la, .inr (5, [.int (l9 0), .int (l9 1), .int (l9 2), .int (l9 3), .int (l9 4), .int (l9 5), .int (l9 6)])), (cl, .inr (1, [.int n0, .ref c1, .ref c2, .ref c3, .ref c4, .ref c5, .ref c6, .ref c7])), (c1, .inl (T 0, 24, .inl f1)), (c2, .inl (T 0, 24, .inl f2)), (c3, .inl (T 0, 24, .inl f3)), (c4, .inl (T 0, 24, .inl f4)), (c5, .inl (T 0, 24, .inl f5)), (p0, .inl (T 1, 676, .inr (.inl v0))), (p1, .inl (T 1, 676, .inr (.inl v1))), (p4, .inl (T 0, 672, .inl v4))]) hD hS hA [0, 1, 2, 3, 4, 5, 6, 7, 8, 9, 10] rfl
    refine va_calli (va_runV (As := [.int z_1, .int tt, .int z_5]) (rest := []) ⟨hx, hb, hml, hown, hts⟩ (cS_all l D T ad sa av ta 30 _ h0 la cl p0 p1 p4 n l9 n0 c1 c2 c3 c4 c5 c6 c7 f1 f2 f3 f4 f5 v0 v1 v4 z_1 tt z_5 (by omega) (by omega) (by omega) hok (by omega) hmm hlq (by omega)) (cwV 3 hts gX11_takenOn_X11_settle rfl rfl rfl hv_X11_settle ⟨Nat.le_of_ble_eq_true rfl, Nat.le_of_ble_eq_true rfl⟩) (pWk_V (q := (RX11, TX11, 6)) (ci := 8) (q0 := 0) hP hE hD hV hS hFc rfl rfl [0, 1, 2, 3, 4, 5, 6, 7, 8, 9, 10] (by decide +kernel) rfl rfl) rfl rfl hl.1 rfl (lv_room (Nat.le_of_ble_eq_true rfl)) dX11_takenOn_47 ⟨Nat.le_of_ble_eq_true rfl, Nat.le_of_ble_eq_true rfl⟩) hS (fun q _ h => hFc q h) hFc (fun r_6 u_7 t H1 locs ht hvm hr_6 hB hz1 hk1 hS => ?_)
    obtain ⟨f_8, f_9, f_10⟩ := u_7
    obtain ⟨hqr_6, hsl_r_6, hfo_r_6, hstr_6⟩ := hr_6
    have hqr_6 : 0 ≤ r_6.toInt ∧ r_6.toInt < 672 := hqr_6
    have hsl_r_6 : r_6.toNatClampNeg = slN z_1 tt z_5 := hsl_r_6
    have hfo_r_6 : f_10 (slN z_1 tt z_5) = n := hfo_r_6
    have hsr_6 : stW (VALW l9 f1 f2 f3 f4 f5) n0 n (rgW z_1 tt) v0 v1 v4 f_8 f_9 f_10 := hstr_6
    have hst : stW (VALW l9 f1 f2 f3 f4 f5) n0 n (fun _ => True) g0 g1 g4 f_8 f_9 f_10 := hst.tr hsr_6 (fun _ _ => trivial)
    have hmm : memW (VALW l9 f1 f2 f3 f4 f5) n0 n f_8 f_9 f_10 := hst.1
    have hv_r_6 : (f_8 (r_6.toNatClampNeg), f_9 (r_6.toNatClampNeg)) = (VALW l9 f1 f2 f3 f4 f5) z_1 tt z_5 := hst.val (by omega) (by omega) (by first | (rw [ti_0]; omega) | omega) hsl_r_6 hfo_r_6
    have hb_r_6 : 0 ≤ (f_9 (r_6.toNatClampNeg)).toInt := val_nn (VAL_low hlq.1 hlq.2 31 _ _ _) hv_r_6
    obtain ⟨hP1, hD1⟩ := hB
    rw [ht] at hP1
    obtain ⟨hP, hD⟩ := va_repl [(h0, .inr (8, [.ref la, .ref cl, .ref p0, .ref p1, .ref p4, .int n])), (la, .inr (5, [.int (l9 0), .int (l9 1), .int (l9 2), .int (l9 3), .int (l9 4), .int (l9 5), .int (l9 6)])), (cl, .inr (1, [.int n0, .ref c1, .ref c2, .ref c3, .ref c4, .ref c5, .ref c6, .ref c7])), (c1, .inl (T 0, 24, .inl f1)), (c2, .inl (T 0, 24, .inl f2)), (c3, .inl (T 0, 24, .inl f3)), (c4, .inl (T 0, 24, .inl f4)), (c5, .inl (T 0, 24, .inl f5)), (p0, .inl (T 1, 676, .inr (.inl f_8))), (p1, .inl (T 1, 676, .inr (.inl f_9))), (p4, .inl (T 0, 672, .inl f_10))] hP hD [0, 1, 2, 3, 4, 5, 6, 7, 8, 9, 10] [0, 1, 2, 3, 4, 5, 6, 7, 8, 9, 10] rfl (by decide +kernel) rfl rfl rfl hk1 hP1
    clear hP1 hD1 hFc
    generalize H1 = H at hP hS ⊢
    refine lv_istore (lv' := [(8, .int r_6), (7, .int z_5), (6, .int tt), (5, .int z_2), (4, .int z_1), (0, .ref h0), (1, .int x1), (2, .int x2), (3, .int x3)]) hx hb dX11_takenOn_50 hl (by decide +kernel) rfl (fun ls hl => ?_)
    refine lv_aload_n hx hb dX11_takenOn_52 rfl (lv_at hl 5 rfl) ?_
    refine lv_sipush (v := 674) hx hb dX11_takenOn_53 (by decide +kernel) ?_
    refine lv_iload_n hx hb dX11_takenOn_56 rfl (lv_at hl 6 rfl) ?_
    refine lv_iload hx hb dX11_takenOn_57 (lv_at hl 2 rfl) ?_
    refine lv_iload hx hb dX11_takenOn_59 (lv_at hl 1 rfl) ?_
    have hFc := va_free (wc := [(h0, .inr (8, [.ref la, .ref cl, .ref p0, .ref p1, .ref p4, .int n])), (la, .inr (5, [.int (l9 0), .int (l9 1), .int (l9 2), .int (l9 3), .int (l9 4), .int (l9 5), .int (l9 6)])), (cl, .inr (1, [.int n0, .ref c1, .ref c2, .ref c3, .ref c4, .ref c5, .ref c6, .ref c7])), (c1, .inl (T 0, 24, .inl f1)), (c2, .inl (T 0, 24, .inl f2)), (c3, .inl (T 0, 24, .inl f3)), (c4, .inl (T 0, 24, .inl f4)), (c5, .inl (T 0, 24, .inl f5)), (p0, .inl (T 1, 676, .inr (.inl f_8))), (p1, .inl (T 1, 676, .inr (.inl f_9))), (p4, .inl (T 0, 672, .inl f_10))]) hD hS hA [0, 1, 2, 3, 4, 5, 6, 7, 8, 9, 10] rfl
    refine va_callv (va_runV (As := [.int 674, .int x1, .int tt, .int z_5]) (rest := []) ⟨hx, hb, hml, hown, hts⟩ (s_X11_average l D T ad sa av ta _ h0 la cl p0 p1 p4 n l9 n0 c1 c2 c3 c4 c5 c6 c7 f1 f2 f3 f4 f5 f_8 f_9 f_10 30 674 x1 tt z_5 (by first | decide | omega) (by omega) (by omega) (by omega) hok (by omega) hmm hlq (by decide +kernel) (fun h9 => absurd h9 (by decide +kernel)) (by omega) (cS_all l D T ad sa av ta 30)) (cwV 4 hts gX11_takenOn_X11_average rfl rfl rfl hv_X11_average ⟨Nat.le_of_ble_eq_true rfl, Nat.le_of_ble_eq_true rfl⟩) (pWk_V (q := (RX11, TX11, 6)) (ci := 8) (q0 := 0) hP hE hD hV hS hFc rfl rfl [0, 1, 2, 3, 4, 5, 6, 7, 8, 9, 10] (by decide +kernel) rfl rfl) rfl rfl hl.1 rfl (lv_room (Nat.le_of_ble_eq_true rfl)) dX11_takenOn_61 ⟨Nat.le_of_ble_eq_true rfl, Nat.le_of_ble_eq_true rfl⟩) hS (fun q _ h => hFc q h) hFc (fun u_12 t H1 locs ht hvm hr_11 hB hz1 hk1 hS => ?_)
    obtain ⟨f_13, f_14, f_15⟩ := u_12
    have hsahr_11 : stW (VALW l9 f1 f2 f3 f4 f5) n0 n (rgA (674 : Int32) x1 tt) f_8 f_9 f_10 f_13 f_14 f_15 := hr_11.1
    have hst : stW (VALW l9 f1 f2 f3 f4 f5) n0 n (fun _ => True) g0 g1 g4 f_13 f_14 f_15 := hst.tr hsahr_11 (fun _ _ => trivial)
    have hmm : memW (VALW l9 f1 f2 f3 f4 f5) n0 n f_13 f_14 f_15 := hst.1
    have hfo_r_6 : f_15 (slN z_1 tt z_5) = n := hsahr_11.2.1 _ (slN_lt (by omega) (by omega) (by omega)) hfo_r_6
    have hv_r_6 : (f_13 (r_6.toNatClampNeg), f_14 (r_6.toNatClampNeg)) = (VALW l9 f1 f2 f3 f4 f5) z_1 tt z_5 := hst.val (by omega) (by omega) (by omega) hsl_r_6 hfo_r_6
    have hb_r_6 : 0 ≤ (f_14 (r_6.toNatClampNeg)).toInt := val_nn (VAL_low hlq.1 hlq.2 31 _ _ _) hv_r_6
    have hp_674 : (f_13 ((674 : Int32).toNatClampNeg), f_14 ((674 : Int32).toNatClampNeg)) = avgW l9 (VALW l9 f1 f2 f3 f4 f5) x1 tt z_5 := hr_11.2.1
    obtain ⟨hP1, hD1⟩ := hB
    rw [ht] at hP1
    obtain ⟨hP, hD⟩ := va_repl [(h0, .inr (8, [.ref la, .ref cl, .ref p0, .ref p1, .ref p4, .int n])), (la, .inr (5, [.int (l9 0), .int (l9 1), .int (l9 2), .int (l9 3), .int (l9 4), .int (l9 5), .int (l9 6)])), (cl, .inr (1, [.int n0, .ref c1, .ref c2, .ref c3, .ref c4, .ref c5, .ref c6, .ref c7])), (c1, .inl (T 0, 24, .inl f1)), (c2, .inl (T 0, 24, .inl f2)), (c3, .inl (T 0, 24, .inl f3)), (c4, .inl (T 0, 24, .inl f4)), (c5, .inl (T 0, 24, .inl f5)), (p0, .inl (T 1, 676, .inr (.inl f_13))), (p1, .inl (T 1, 676, .inr (.inl f_14))), (p4, .inl (T 0, 672, .inl f_15))] hP hD [0, 1, 2, 3, 4, 5, 6, 7, 8, 9, 10] [0, 1, 2, 3, 4, 5, 6, 7, 8, 9, 10] rfl (by decide +kernel) rfl rfl rfl hk1 hP1
    clear hP1 hD1 hFc
    generalize H1 = H at hP hS ⊢
    have hb674 : 0 ≤ (f_14 ((674 : Int32).toNatClampNeg)).toInt := val_nn (mulW_low (addW_low (mulW_low (VAL_low hlq.1 hlq.2 31 _ _ _) (by decide +kernel)) (mulW_low (VAL_low hlq.1 hlq.2 31 _ _ _) (by decide +kernel))) (wt_pos hlq.1 hlq.2)) hp_674
    have hsp8 : spW x3 tt = z_5 := ez_5.symm
    have hVc : (VALW l9 f1 f2 f3 f4 f5) (f3 (x1.toNatClampNeg)) tt (spW x3 tt) = ((f_13 (r_6.toNatClampNeg)), (f_14 (r_6.toNatClampNeg))) := by rw [← ez_1, hsp8]; exact hv_r_6.symm
    have hVa : avgW l9 (VALW l9 f1 f2 f3 f4 f5) x1 tt (spW x3 tt) = ((f_13 ((674 : Int32).toNatClampNeg)), (f_14 ((674 : Int32).toNatClampNeg))) := by rw [hsp8]; exact hp_674.symm
    refine lv_aload_n hx hb dX11_takenOn_64 rfl (lv_at hl 5 rfl) ?_
    refine lv_iload hx hb dX11_takenOn_65 (lv_at hl 0 rfl) ?_
    refine vp_callSi (W.runV (As := [.int r_6]) (rest := []) ⟨hx, hb, hml, hown, hts⟩ (c_X11_isMuch l D T h0 [.ref la, .ref cl, .ref p0, .ref p1, .ref p4, .int n] p1 f_14 r_6 rfl (by first | decide | omega)) (cwV 1 hts gX11_takenOn_X11_isMuch rfl rfl rfl hv_X11_isMuch ⟨Nat.le_of_ble_eq_true rfl, Nat.le_of_ble_eq_true rfl⟩) (pR_V (q := (RX11, TX11, 6)) (ci := 8) (q0 := 0) hP hE rfl rfl [0, 9] rfl) rfl rfl hl.1 rfl (lv_room (Nat.le_of_ble_eq_true rfl)) dX11_takenOn_67 ⟨Nat.le_of_ble_eq_true rfl, Nat.le_of_ble_eq_true rfl⟩) (fun r_16 hr_16 => ?_)
    rcases bool_post hr_16 with ⟨c_17, rfl⟩ | ⟨c_17, rfl⟩
    · refine lv_if_ne (tgt := 83) hx hb dX11_takenOn_70 (by decide +kernel) (fun _ => ?_) (fun c9 => absurd c9 (by decide +kernel))
      refine lv_bipush (v := (-5)) hx hb dX11_takenOn_83 (by decide +kernel) ?_
      exact W.iret hx hb hr (fun t ht hW => ⟨⟨_, (f_13, f_14, f_15), rfl, ⟨(Or.inl (by decide +kernel)), (Or.inl ⟨(by decide +kernel), tt, (by omega), (by omega), (show tkM l9 f3 (VALW l9 f1 f2 f3 f4 f5) x1 x3 tt from by unfold tkM; rw [hVc, hVa]; first | exact Or.inl (show (f_14 (r_6.toNatClampNeg)).toInt = 0 from by omega) | exact Or.inr (show (f_14 ((674 : Int32).toNatClampNeg)).toInt = 0 from by omega)), hno⟩), hst⟩, by rw [ht]; exact hP.sub [0, 1, 2, 3, 4, 5, 6, 7, 8, 9, 10] rfl, hD.sub [0, 1, 2, 3, 4, 5, 6, 7, 8, 9, 10] (by decide +kernel) rfl⟩, hS.F ht⟩) hS.2.2 dX11_takenOn_85
    · refine lv_if_ne (tgt := 83) hx hb dX11_takenOn_70 (by decide +kernel) (fun c9 => absurd c9 (by decide +kernel)) (fun _ => ?_)
      refine lv_aload_n hx hb dX11_takenOn_73 rfl (lv_at hl 5 rfl) ?_
      refine lv_sipush (v := 674) hx hb dX11_takenOn_74 (by decide +kernel) ?_
      refine vp_callSi (W.runV (As := [.int 674]) (rest := []) ⟨hx, hb, hml, hown, hts⟩ (c_X11_isMuch l D T h0 [.ref la, .ref cl, .ref p0, .ref p1, .ref p4, .int n] p1 f_14 674 rfl (by first | decide | omega)) (cwV 1 hts gX11_takenOn_X11_isMuch rfl rfl rfl hv_X11_isMuch ⟨Nat.le_of_ble_eq_true rfl, Nat.le_of_ble_eq_true rfl⟩) (pR_V (q := (RX11, TX11, 6)) (ci := 8) (q0 := 0) hP hE rfl rfl [0, 9] rfl) rfl rfl hl.1 rfl (lv_room (Nat.le_of_ble_eq_true rfl)) dX11_takenOn_77 ⟨Nat.le_of_ble_eq_true rfl, Nat.le_of_ble_eq_true rfl⟩) (fun r_18 hr_18 => ?_)
      rcases bool_post hr_18 with ⟨c_19, rfl⟩ | ⟨c_19, rfl⟩
      · refine lv_if_eq (tgt := 86) hx hb dX11_takenOn_80 (by decide +kernel) (fun c9 => absurd c9 (by decide +kernel)) (fun _ => ?_)
        refine lv_bipush (v := (-5)) hx hb dX11_takenOn_83 (by decide +kernel) ?_
        exact W.iret hx hb hr (fun t ht hW => ⟨⟨_, (f_13, f_14, f_15), rfl, ⟨(Or.inl (by decide +kernel)), (Or.inl ⟨(by decide +kernel), tt, (by omega), (by omega), (show tkM l9 f3 (VALW l9 f1 f2 f3 f4 f5) x1 x3 tt from by unfold tkM; rw [hVc, hVa]; first | exact Or.inl (show (f_14 (r_6.toNatClampNeg)).toInt = 0 from by omega) | exact Or.inr (show (f_14 ((674 : Int32).toNatClampNeg)).toInt = 0 from by omega)), hno⟩), hst⟩, by rw [ht]; exact hP.sub [0, 1, 2, 3, 4, 5, 6, 7, 8, 9, 10] rfl, hD.sub [0, 1, 2, 3, 4, 5, 6, 7, 8, 9, 10] (by decide +kernel) rfl⟩, hS.F ht⟩) hS.2.2 dX11_takenOn_85
      · refine lv_if_eq (tgt := 86) hx hb dX11_takenOn_80 (by decide +kernel) (fun _ => ?_) (fun c9 => absurd c9 (by decide +kernel))
        refine lv_aload_n hx hb dX11_takenOn_86 rfl (lv_at hl 5 rfl) ?_
        refine lv_iload hx hb dX11_takenOn_87 (lv_at hl 0 rfl) ?_
        refine lv_sipush (v := 674) hx hb dX11_takenOn_89 (by decide +kernel) ?_
        refine vp_callSi (W.runV (As := [.int r_6, .int 674]) (rest := []) ⟨hx, hb, hml, hown, hts⟩ (c_X11_order l D T h0 [.ref la, .ref cl, .ref p0, .ref p1, .ref p4, .int n] p1 f_14 p0 f_13 r_6 674 rfl rfl (by first | decide | omega) (by first | decide | omega) (by first | omega | assumption | decide) (by first | omega | assumption | decide)) (cwV 2 hts gX11_takenOn_X11_order rfl rfl rfl hv_X11_order ⟨Nat.le_of_ble_eq_true rfl, Nat.le_of_ble_eq_true rfl⟩) (pR_V (q := (RX11, TX11, 6)) (ci := 8) (q0 := 0) hP hE rfl rfl [0, 9, 8] rfl) rfl rfl hl.1 rfl (lv_room (Nat.le_of_ble_eq_true rfl)) dX11_takenOn_92 ⟨Nat.le_of_ble_eq_true rfl, Nat.le_of_ble_eq_true rfl⟩) (fun r_20 hr_20 => ?_)
        refine lv_if_lt (tgt := 101) hx hb dX11_takenOn_95 (by decide +kernel) (fun c_21 => ?_) (fun c_21 => ?_)
        · rw [fa_lt] at c_21
          try rw [ti_0] at c_21
          obtain ⟨z_22, ez_22⟩ : ∃ y : Int32, y = tt + 1 := ⟨_, rfl⟩
          refine lv_iinc (v := z_22) (lv' := [(6, .int z_22), (8, .int r_6), (7, .int z_5), (5, .int z_2), (4, .int z_1), (0, .ref h0), (1, .int x1), (2, .int x2), (3, .int x3)]) hx hb dX11_takenOn_101 hl (k := 2) rfl (by rw [ez_22]; rfl) (by decide +kernel) rfl (fun ls hl => ?_)
          refine lv_goto (tgt := 25) hx hb dX11_takenOn_104 (by decide +kernel) ?_
          have hi9 : z_22.toInt = tt.toInt + 1 := by rw [ez_22]; exact inc1 (n := 1000) (by omega) (by decide +kernel)
          exact ih (z_22, f_13, f_14, f_15) ls _ _ ⟨lv_sub hl [0, 3, 4, 5, 6, 7, 8] rfl, hP.sub [0, 1, 2, 3, 4, 5, 6, 7, 8, 9, 10] rfl, hD.sub [0, 1, 2, 3, 4, 5, 6, 7, 8, 9, 10] (by decide +kernel) rfl, hS, ⟨(by (try dsimp only); omega), hst, upto_step hno ⟨(show ¬ tkM l9 f3 (VALW l9 f1 f2 f3 f4 f5) x1 x3 tt from by unfold tkM; rw [hVc, hVa]; intro h9; rcases h9 with h9 | h9 <;> first | exact absurd (show (f_14 (r_6.toNatClampNeg)).toInt = 0 from h9) (by omega) | exact absurd (show (f_14 ((674 : Int32).toNatClampNeg)).toInt = 0 from h9) (by omega)), (by unfold tkS; rw [hVc, hVa]; show cmpW (f_13 (r_6.toNatClampNeg)).toInt (f_14 (r_6.toNatClampNeg)).toInt (f_13 ((674 : Int32).toNatClampNeg)).toInt (f_14 ((674 : Int32).toNatClampNeg)).toInt < 0; rw [← hr_20]; omega)⟩ hi9⟩⟩ (by (try dsimp only); omega)
        · rw [fa_lt] at c_21
          try rw [ti_0] at c_21
          refine lv_iload hx hb dX11_takenOn_98 (lv_at hl 2 rfl) ?_
          exact W.iret hx hb hr (fun t ht hW => ⟨⟨_, (f_13, f_14, f_15), rfl, ⟨(Or.inr (by omega)), (Or.inr ⟨(by omega), (by omega), (fun _ => ⟨(show ¬ tkM l9 f3 (VALW l9 f1 f2 f3 f4 f5) x1 x3 tt from by unfold tkM; rw [hVc, hVa]; intro h9; rcases h9 with h9 | h9 <;> first | exact absurd (show (f_14 (r_6.toNatClampNeg)).toInt = 0 from h9) (by omega) | exact absurd (show (f_14 ((674 : Int32).toNatClampNeg)).toInt = 0 from h9) (by omega)), (by unfold tkS; rw [hVc, hVa]; show 0 ≤ cmpW (f_13 (r_6.toNatClampNeg)).toInt (f_14 (r_6.toNatClampNeg)).toInt (f_13 ((674 : Int32).toNatClampNeg)).toInt (f_14 ((674 : Int32).toNatClampNeg)).toInt; rw [← hr_20]; omega)⟩), hno⟩), hst⟩, by rw [ht]; exact hP.sub [0, 1, 2, 3, 4, 5, 6, 7, 8, 9, 10] rfl, hD.sub [0, 1, 2, 3, 4, 5, 6, 7, 8, 9, 10] (by decide +kernel) rfl⟩, hS.F ht⟩) hS.2.2 dX11_takenOn_100
end
section
/-! what falls due, by fuel: on (a row of days), days (bits), much -/
abbrev duS : Type := (Nat → Int64) × Int32 × Int32
/-- one more falls due on day t -/
def entP (t : Int32) (m : Int64) (s s' : duS) : Prop := (fitA (s.1 t.toNatClampNeg) m → s' = (vp_updL s.1 t.toNatClampNeg (s.1 t.toNatClampNeg + m), s.2.1 ||| (1 <<< (t &&& 31)), s.2.2)) ∧ (¬ fitA (s.1 t.toNatClampNeg) m → ¬ s'.2.2.toInt = 0)
/-- v times as much -/
def duT (m v : Int64) (F : Int64 → Prop) (s' : duS) : Prop := (fitM m v → F (m * v)) ∧ (¬ fitM m v → ¬ s'.2.2.toInt = 0)
/-- had as it is taken, or as another one; told to be too much -/
def duR (r : Int32) (F : Int32 → Prop) (s' : duS) : Prop := (r.toInt = -5 → ¬ s'.2.2.toInt = 0) ∧ (¬ r.toInt = -5 → F r)
abbrev pkK (k : Nat) : Prop := k = 6 ∨ k = 7 ∨ k = 8 ∨ k = 9 ∨ k = 12
def falB (l fk fn fc fd fe : Nat → Int32) (V : vaF) (p : Int32) (G : Int32 → Int32 → Int64 → duS → duS → Prop) (x t : Int32) (m : Int64) (s s' : duS) : Prop :=
  ((fk x.toNatClampNeg).toNatClampNeg = 0 → s' = s) ∧
  ((fk x.toNatClampNeg).toNatClampNeg = 1 → entP t m s s') ∧
  ((fk x.toNatClampNeg).toNatClampNeg = 2 → duT m (-1) (fun v => G (fc x.toNatClampNeg) t v s s') s') ∧
  ((fk x.toNatClampNeg).toNatClampNeg = 3 → duT m (fn x.toNatClampNeg).toInt64 (fun v => G (fc x.toNatClampNeg) t v s s') s') ∧
  ((fk x.toNatClampNeg).toNatClampNeg = 4 → duT m (prW l t (spW p t)).toInt64 (fun v => G (fc x.toNatClampNeg) t v s s') s') ∧
  ((fk x.toNatClampNeg).toNatClampNeg = 5 → ∃ s1 : duS, G (fc x.toNatClampNeg) t m s s1 ∧ G (fd x.toNatClampNeg) t m s1 s') ∧
  ((fk x.toNatClampNeg).toNatClampNeg = 10 → G (fc x.toNatClampNeg) (fe x.toNatClampNeg) m s s') ∧
  ((fk x.toNatClampNeg).toNatClampNeg = 11 → ∃ r : Int32, takQ l fc V (fe x.toNatClampNeg).toInt x p t r ∧ duR r (fun r => G (fc x.toNatClampNeg) r m s s') s') ∧
  (pkK (fk x.toNatClampNeg).toNatClampNeg → duR (pickW l fk fn fc fd fe V x t (spW p t)) (fun r => G r t m s s') s')
def falP (l fk fn fc fd fe : Nat → Int32) (V : vaF) (p : Int32) : Nat → Int32 → Int32 → Int64 → duS → duS → Prop
  | 0, _, _, _, _, _ => True
  | d + 1, x, t, m, s, s' => (¬ s.2.2.toInt = 0 → ¬ s'.2.2.toInt = 0) ∧ (s.2.2.toInt = 0 → ((fe x.toNatClampNeg).toInt < t.toInt → s' = s) ∧ (¬ (fe x.toNatClampNeg).toInt < t.toInt → falB l fk fn fc fd fe V p (falP l fk fn fc fd fe V p d) x t m s s'))
section
variable {l fk fn fc fd fe : Nat → Int32} {V : vaF} {p : Int32} {d : Nat} {x t : Int32} {m : Int64} {s s' : duS}
theorem fal_ret (h : ¬ s.2.2.toInt = 0 ∨ (fe x.toNatClampNeg).toInt < t.toInt) : falP l fk fn fc fd fe V p (d + 1) x t m s s := by
  refine ⟨fun q => q, fun q => ⟨fun _ => rfl, fun q2 => ?_⟩⟩
  rcases h with h | h
  · exact absurd q h
  · exact absurd h q2
theorem fal_of (h0 : s.2.2.toInt = 0) (he : ¬ (fe x.toNatClampNeg).toInt < t.toInt) (h : falB l fk fn fc fd fe V p (falP l fk fn fc fd fe V p d) x t m s s') : falP l fk fn fc fd fe V p (d + 1) x t m s s' := ⟨fun q => absurd h0 q, fun _ => ⟨fun q => absurd q he, fun _ => h⟩⟩
theorem fal_0 (h0 : s.2.2.toInt = 0) (he : ¬ (fe x.toNatClampNeg).toInt < t.toInt) (k : (fk x.toNatClampNeg).toNatClampNeg = 0) : falP l fk fn fc fd fe V p (d + 1) x t m s s := fal_of h0 he ⟨fun _ => rfl, fun q => absurd (k.symm.trans q) (by decide +kernel), fun q => absurd (k.symm.trans q) (by decide +kernel), fun q => absurd (k.symm.trans q) (by decide +kernel), fun q => absurd (k.symm.trans q) (by decide +kernel), fun q => absurd (k.symm.trans q) (by decide +kernel), fun q => absurd (k.symm.trans q) (by decide +kernel), fun q => absurd (k.symm.trans q) (by decide +kernel), fun q => by unfold pkK at q; omega⟩
theorem fal_1 (h0 : s.2.2.toInt = 0) (he : ¬ (fe x.toNatClampNeg).toInt < t.toInt) (k : (fk x.toNatClampNeg).toNatClampNeg = 1) (h : entP t m s s') : falP l fk fn fc fd fe V p (d + 1) x t m s s' := fal_of h0 he ⟨fun q => absurd (k.symm.trans q) (by decide +kernel), fun _ => h, fun q => absurd (k.symm.trans q) (by decide +kernel), fun q => absurd (k.symm.trans q) (by decide +kernel), fun q => absurd (k.symm.trans q) (by decide +kernel), fun q => absurd (k.symm.trans q) (by decide +kernel), fun q => absurd (k.symm.trans q) (by decide +kernel), fun q => absurd (k.symm.trans q) (by decide +kernel), fun q => by unfold pkK at q; omega⟩
theorem fal_2 (h0 : s.2.2.toInt = 0) (he : ¬ (fe x.toNatClampNeg).toInt < t.toInt) (k : (fk x.toNatClampNeg).toNatClampNeg = 2) (h : duT m (-1) (fun v => falP l fk fn fc fd fe V p d (fc x.toNatClampNeg) t v s s') s') : falP l fk fn fc fd fe V p (d + 1) x t m s s' := fal_of h0 he ⟨fun q => absurd (k.symm.trans q) (by decide +kernel), fun q => absurd (k.symm.trans q) (by decide +kernel), fun _ => h, fun q => absurd (k.symm.trans q) (by decide +kernel), fun q => absurd (k.symm.trans q) (by decide +kernel), fun q => absurd (k.symm.trans q) (by decide +kernel), fun q => absurd (k.symm.trans q) (by decide +kernel), fun q => absurd (k.symm.trans q) (by decide +kernel), fun q => by unfold pkK at q; omega⟩
theorem fal_3 (h0 : s.2.2.toInt = 0) (he : ¬ (fe x.toNatClampNeg).toInt < t.toInt) (k : (fk x.toNatClampNeg).toNatClampNeg = 3) (h : duT m (fn x.toNatClampNeg).toInt64 (fun v => falP l fk fn fc fd fe V p d (fc x.toNatClampNeg) t v s s') s') : falP l fk fn fc fd fe V p (d + 1) x t m s s' := fal_of h0 he ⟨fun q => absurd (k.symm.trans q) (by decide +kernel), fun q => absurd (k.symm.trans q) (by decide +kernel), fun q => absurd (k.symm.trans q) (by decide +kernel), fun _ => h, fun q => absurd (k.symm.trans q) (by decide +kernel), fun q => absurd (k.symm.trans q) (by decide +kernel), fun q => absurd (k.symm.trans q) (by decide +kernel), fun q => absurd (k.symm.trans q) (by decide +kernel), fun q => by unfold pkK at q; omega⟩
theorem fal_4 (h0 : s.2.2.toInt = 0) (he : ¬ (fe x.toNatClampNeg).toInt < t.toInt) (k : (fk x.toNatClampNeg).toNatClampNeg = 4) (h : duT m (prW l t (spW p t)).toInt64 (fun v => falP l fk fn fc fd fe V p d (fc x.toNatClampNeg) t v s s') s') : falP l fk fn fc fd fe V p (d + 1) x t m s s' := fal_of h0 he ⟨fun q => absurd (k.symm.trans q) (by decide +kernel), fun q => absurd (k.symm.trans q) (by decide +kernel), fun q => absurd (k.symm.trans q) (by decide +kernel), fun q => absurd (k.symm.trans q) (by decide +kernel), fun _ => h, fun q => absurd (k.symm.trans q) (by decide +kernel), fun q => absurd (k.symm.trans q) (by decide +kernel), fun q => absurd (k.symm.trans q) (by decide +kernel), fun q => by unfold pkK at q; omega⟩
theorem fal_5 {s1 : duS} (h0 : s.2.2.toInt = 0) (he : ¬ (fe x.toNatClampNeg).toInt < t.toInt) (k : (fk x.toNatClampNeg).toNatClampNeg = 5) (h : falP l fk fn fc fd fe V p d (fc x.toNatClampNeg) t m s s1) (g : falP l fk fn fc fd fe V p d (fd x.toNatClampNeg) t m s1 s') : falP l fk fn fc fd fe V p (d + 1) x t m s s' := fal_of h0 he ⟨fun q => absurd (k.symm.trans q) (by decide +kernel), fun q => absurd (k.symm.trans q) (by decide +kernel), fun q => absurd (k.symm.trans q) (by decide +kernel), fun q => absurd (k.symm.trans q) (by decide +kernel), fun q => absurd (k.symm.trans q) (by decide +kernel), fun _ => ⟨s1, h, g⟩, fun q => absurd (k.symm.trans q) (by decide +kernel), fun q => absurd (k.symm.trans q) (by decide +kernel), fun q => by unfold pkK at q; omega⟩
theorem fal_10 (h0 : s.2.2.toInt = 0) (he : ¬ (fe x.toNatClampNeg).toInt < t.toInt) (k : (fk x.toNatClampNeg).toNatClampNeg = 10) (h : falP l fk fn fc fd fe V p d (fc x.toNatClampNeg) (fe x.toNatClampNeg) m s s') : falP l fk fn fc fd fe V p (d + 1) x t m s s' := fal_of h0 he ⟨fun q => absurd (k.symm.trans q) (by decide +kernel), fun q => absurd (k.symm.trans q) (by decide +kernel), fun q => absurd (k.symm.trans q) (by decide +kernel), fun q => absurd (k.symm.trans q) (by decide +kernel), fun q => absurd (k.symm.trans q) (by decide +kernel), fun q => absurd (k.symm.trans q) (by decide +kernel), fun _ => h, fun q => absurd (k.symm.trans q) (by decide +kernel), fun q => by unfold pkK at q; omega⟩
theorem fal_11 {r : Int32} (h0 : s.2.2.toInt = 0) (he : ¬ (fe x.toNatClampNeg).toInt < t.toInt) (k : (fk x.toNatClampNeg).toNatClampNeg = 11) (h : takQ l fc V (fe x.toNatClampNeg).toInt x p t r) (g : duR r (fun r => falP l fk fn fc fd fe V p d (fc x.toNatClampNeg) r m s s') s') : falP l fk fn fc fd fe V p (d + 1) x t m s s' := fal_of h0 he ⟨fun q => absurd (k.symm.trans q) (by decide +kernel), fun q => absurd (k.symm.trans q) (by decide +kernel), fun q => absurd (k.symm.trans q) (by decide +kernel), fun q => absurd (k.symm.trans q) (by decide +kernel), fun q => absurd (k.symm.trans q) (by decide +kernel), fun q => absurd (k.symm.trans q) (by decide +kernel), fun q => absurd (k.symm.trans q) (by decide +kernel), fun _ => ⟨r, h, g⟩, fun q => by unfold pkK at q; omega⟩
theorem fal_p (h0 : s.2.2.toInt = 0) (he : ¬ (fe x.toNatClampNeg).toInt < t.toInt) (k : pkK (fk x.toNatClampNeg).toNatClampNeg) (h : duR (pickW l fk fn fc fd fe V x t (spW p t)) (fun r => falP l fk fn fc fd fe V p d r t m s s') s') : falP l fk fn fc fd fe V p (d + 1) x t m s s' := fal_of h0 he (by
  unfold pkK at k
  exact ⟨fun q => by omega, fun q => by omega, fun q => by omega, fun q => by omega, fun q => by omega, fun q => by omega, fun q => by omega, fun q => by omega, fun _ => h⟩)
end
/-- told alike: too much on both sides, or on neither, and then the same -/
def duE (s s' : duS) : Prop := (s.2.2.toInt = 0 ↔ s'.2.2.toInt = 0) ∧ (s.2.2.toInt = 0 → s.2.1 = s'.2.1 ∧ ∀ j : Nat, j < 7 → s.1 j = s'.1 j)
theorem duE_mu {s s' : duS} (h : ¬ s.2.2.toInt = 0) (g : ¬ s'.2.2.toInt = 0) : duE s s' := ⟨⟨fun q => absurd q h, fun q => absurd q g⟩, fun q => absurd q h⟩
theorem ent_det {t : Int32} {m : Int64} {s u s' u' : duS} (ht : 0 ≤ t.toInt ∧ t.toInt ≤ 6) (h0 : s.2.2.toInt = 0) (E : duE s s') (a : entP t m s u) (b : entP t m s' u') : duE u u' := by
  have h0' := E.1.1 h0
  obtain ⟨e1, e2⟩ := E.2 h0
  have k := tn ht.1
  have e3 := e2 t.toNatClampNeg (by omega)
  by_cases f : fitA (s.1 t.toNatClampNeg) m
  · have ua := a.1 f
    have ub := b.1 (by rw [← e3]; exact f)
    subst ua
    subst ub
    refine ⟨⟨fun _ => h0', fun _ => h0⟩, fun _ => ⟨?_, fun j hj => ?_⟩⟩
    · show s.2.1 ||| _ = s'.2.1 ||| _
      rw [e1]
    · show vp_updL s.1 _ _ j = vp_updL s'.1 _ _ j
      simp only [vp_updL]
      by_cases q : j = t.toNatClampNeg
      · rw [if_pos q, if_pos q, e3]
      · rw [if_neg q, if_neg q, e2 j hj]
  · exact duE_mu (a.2 f) (b.2 (by rw [← e3]; exact f))
theorem fal_det {l fk fn fc fd fe : Nat → Int32} {V : vaF} {p : Int32} (hok : okC fk fc fd fe) : ∀ (d : Nat) (x t : Int32) (m : Int64) (s u s' u' : duS), (0 ≤ x.toInt ∧ x.toInt < 24) → x.toInt < d → (0 ≤ t.toInt ∧ t.toInt ≤ 6) → duE s s' → falP l fk fn fc fd fe V p d x t m s u → falP l fk fn fc fd fe V p d x t m s' u' → duE u u'
  | 0, x, t, m, s, u, s', u', hx, hd, ht, E, a, b => by omega
  | d + 1, x, t, m, s, u, s', u', hx, hd, ht, E, a, b => by
    have ih := fal_det (l := l) (fn := fn) (V := V) (p := p) hok d
    by_cases h0 : s.2.2.toInt = 0
    · have h0' := E.1.1 h0
      obtain ⟨a1, a2⟩ := a.2 h0
      obtain ⟨b1, b2⟩ := b.2 h0'
      by_cases he : (fe x.toNatClampNeg).toInt < t.toInt
      · rw [a1 he, b1 he]
        exact E
      · have a := a2 he
        have b := b2 he
        have k1 := tn hx.1
        obtain ⟨o1, o2, o3, o4⟩ := hok x.toNatClampNeg (by omega)
        have k2 := tn o1.1
        have T : ∀ (v : Int64) (y : Int32), 0 ≤ y.toInt ∧ y.toInt < x.toInt → duT m v (fun v => falP l fk fn fc fd fe V p d y t v s u) u → duT m v (fun v => falP l fk fn fc fd fe V p d y t v s' u') u' → duE u u' := fun v y hy A B => by
          by_cases f : fitM m v
          · exact ih y t (m * v) s u s' u' ⟨hy.1, by omega⟩ (by omega) ht E (A.1 f) (B.1 f)
          · exact duE_mu (A.2 f) (B.2 f)
        have hT := nmT_tab ⟨(fk x.toNatClampNeg).toNatClampNeg, by omega⟩
        have hT : (nmT (fk x.toNatClampNeg).toNatClampNeg).toInt = if (fk x.toNatClampNeg).toNatClampNeg < 2 then 0 else if (fk x.toNatClampNeg).toNatClampNeg = 5 ∨ (fk x.toNatClampNeg).toNatClampNeg = 6 ∨ (fk x.toNatClampNeg).toNatClampNeg = 7 ∨ (fk x.toNatClampNeg).toNatClampNeg = 9 ∨ (fk x.toNatClampNeg).toNatClampNeg = 12 then 2 else 1 := hT
        obtain ⟨a0, a1, a2, a3, a4, a5, a10, a11, ap⟩ := a
        obtain ⟨b0, b1, b2, b3, b4, b5, b10, b11, bp⟩ := b
        by_cases q0 : (fk x.toNatClampNeg).toNatClampNeg = 0
        · rw [a0 q0, b0 q0]
          exact E
        by_cases q1 : (fk x.toNatClampNeg).toNatClampNeg = 1
        · exact ent_det ht h0 E (a1 q1) (b1 q1)
        rw [if_neg (by omega)] at hT
        have c := o2 (by rw [hT]; split <;> decide)
        rw [k1] at c
        by_cases q2 : (fk x.toNatClampNeg).toNatClampNeg = 2
        · exact T _ _ c (a2 q2) (b2 q2)
        by_cases q3 : (fk x.toNatClampNeg).toNatClampNeg = 3
        · exact T _ _ c (a3 q3) (b3 q3)
        by_cases q4 : (fk x.toNatClampNeg).toNatClampNeg = 4
        · exact T _ _ c (a4 q4) (b4 q4)
        by_cases q5 : (fk x.toNatClampNeg).toNatClampNeg = 5
        · obtain ⟨s1, x1, x2⟩ := a5 q5
          obtain ⟨s2, y1, y2⟩ := b5 q5
          have dd := o3 (by rw [hT, if_pos (by omega)])
          exact ih _ t m s1 u s2 u' ⟨dd.1, by omega⟩ (by omega) ht (ih _ t m s s1 s' s2 ⟨c.1, by omega⟩ (by omega) ht E x1 y1) x2 y2
        by_cases q10 : (fk x.toNatClampNeg).toNatClampNeg = 10
        · exact ih _ _ m s u s' u' ⟨c.1, by omega⟩ (by omega) ⟨by omega, o4⟩ E (a10 q10) (b10 q10)
        by_cases q11 : (fk x.toNatClampNeg).toNatClampNeg = 11
        · obtain ⟨r, x1, x2⟩ := a11 q11
          obtain ⟨r', y1, y2⟩ := b11 q11
          have e := takQ_uniq x1 y1
          subst e
          by_cases q : r.toInt = -5
          · exact duE_mu (x2.1 q) (y2.1 q)
          · rcases x1 with ⟨z1, _⟩ | ⟨z1, z2, _⟩
            · exact absurd z1 q
            · exact ih _ r m s u s' u' ⟨c.1, by omega⟩ (by omega) ⟨by omega, by omega⟩ E (x2.2 q) (y2.2 q)
        have kp : pkK (fk x.toNatClampNeg).toNatClampNeg := by unfold pkK; omega
        have x2 := ap kp
        have y2 := bp kp
        by_cases q : (pickW l fk fn fc fd fe V x t (spW p t)).toInt = -5
        · exact duE_mu (x2.1 q) (y2.1 q)
        · have x3 := x2.2 q
          have y3 := y2.2 q
          rcases pick_in (l := l) (fk := fk) (fn := fn) (fc := fc) (fd := fd) (fe := fe) (V := V) (x := x) (t := t) (k := spW p t) with e | e | ⟨e8, e⟩
          · rw [e] at q
            exact absurd (by decide +kernel) q
          · rw [e] at x3 y3
            exact ih _ t m s u s' u' ⟨c.1, by omega⟩ (by omega) ht E x3 y3
          · rw [e] at x3 y3
            have dd := o3 (by rw [hT, if_pos (by unfold pkK at kp; omega)])
            exact ih _ t m s u s' u' ⟨dd.1, by omega⟩ (by omega) ht E x3 y3
    · exact duE_mu (a.1 h0) (b.1 (fun q => h0 (E.1.2 q)))
/-- all that falls due of x, had on day t of path p -/
def dusP (l fk fn fc fd fe fm : Nat → Int32) (V : vaF) (p x t : Int32) (u : duS) : Prop := ∃ s : duS, (∀ j : Nat, j < 7 → s.1 j = 0) ∧ s.2.1 = 0 ∧ (s.2.2.toInt = 0 ↔ ¬ 2000 < (fm x.toNatClampNeg).toInt) ∧ falP l fk fn fc fd fe V p 24 x t 1 s u
theorem dus_of {l fk fn fc fd fe fm : Nat → Int32} {V : vaF} {p x t b c : Int32} {f : Nat → Int64} {u : duS} (h1 : ∀ j : Nat, j < 7 → f j = 0) (h2 : b = 0) (h3 : c.toInt = 0 ↔ ¬ 2000 < (fm x.toNatClampNeg).toInt) (h : falP l fk fn fc fd fe V p 24 x t 1 (f, b, c) u) : dusP l fk fn fc fd fe fm V p x t u := ⟨(f, b, c), h1, h2, h3, h⟩
/-- sums of a row, with whether each fits -/
def sumT (f : Nat → Int64) (a : Nat) : Nat → Int64 × Prop
  | 0 => (0, True)
  | k + 1 => ((sumT f a k).1 + f (a + k), (sumT f a k).2 ∧ fitA (sumT f a k).1 (f (a + k)))
theorem sumT_ext {f g : Nat → Int64} {a : Nat} : ∀ k : Nat, (∀ j : Nat, a ≤ j → j < a + k → f j = g j) → sumT f a k = sumT g a k
  | 0, _ => rfl
  | k + 1, h => by
    have ih := sumT_ext (f := f) (g := g) (a := a) k (fun j h1 h2 => h j h1 (by omega))
    show ((sumT f a k).1 + f (a + k), (sumT f a k).2 ∧ fitA (sumT f a k).1 (f (a + k))) = ((sumT g a k).1 + g (a + k), (sumT g a k).2 ∧ fitA (sumT g a k).1 (g (a + k)))
    rw [ih, h (a + k) (by omega) (by omega)]
abbrev odV (n x t p o : Int32) : Prop := hadV n x t p ∧ 0 ≤ o.toInt ∧ o.toInt ≤ 6
def duQ (l fk fn fc fd fe fm : Nat → Int32) (V : vaF) (n x t p o : Int32) (r : Int64) : Prop := (¬ odV n x t p o ∧ r.toInt = -4611686018427387906) ∨ (odV n x t p o ∧ ∃ u : duS, dusP l fk fn fc fd fe fm V p x t u ∧ ((¬ u.2.2.toInt = 0 ∧ r.toInt = -4611686018427387909) ∨ (u.2.2.toInt = 0 ∧ r = u.1 o.toNatClampNeg)))
def ddQ (l fk fn fc fd fe fm : Nat → Int32) (V : vaF) (n x t p r : Int32) : Prop := (¬ hadV n x t p ∧ r.toInt = -2) ∨ (hadV n x t p ∧ ∃ u : duS, dusP l fk fn fc fd fe fm V p x t u ∧ ((¬ u.2.2.toInt = 0 ∧ r.toInt = -5) ∨ (u.2.2.toInt = 0 ∧ r = u.2.1)))
/-- what is left, if it fails on day o and k parts of nine are saved -/
def fsO (u : duS) (o : Nat) (k : Int64) : Prop := u.2.2.toInt = 0 ∧ (sumT u.1 0 o).2 ∧ (sumT u.1 o (7 - o)).2 ∧ fitM (sumT u.1 o (7 - o)).1 k ∧ fitA (sumT u.1 0 o).1 (((sumT u.1 o (7 - o)).1 * k) / 9)
def fsR (u : duS) (o : Nat) (k r : Int64) : Prop := (fsO u o k ∧ r = (sumT u.1 0 o).1 + ((sumT u.1 o (7 - o)).1 * k) / 9) ∨ (¬ fsO u o k ∧ r.toInt = -4611686018427387909)
def faQ (l fk fn fc fd fe fm : Nat → Int32) (V : vaF) (n x t p o k : Int32) (r : Int64) : Prop := (¬ (odV n x t p o ∧ 0 ≤ k.toInt ∧ k.toInt ≤ 9) ∧ r.toInt = -4611686018427387906) ∨ ((odV n x t p o ∧ 0 ≤ k.toInt ∧ k.toInt ≤ 9) ∧ ∃ u : duS, dusP l fk fn fc fd fe fm V p x t u ∧ fsR u o.toNatClampNeg k.toInt64 r)
/-- total(a, b): what comes of the mark -/
def totP (f : Nat → Int64) (a k : Nat) (r : Int64) (mu mu' : Int32) : Prop := r = (sumT f a k).1 ∧ ((sumT f a k).2 → mu' = mu) ∧ (¬ (sumT f a k).2 → ¬ mu'.toInt = 0) ∧ (¬ mu.toInt = 0 → ¬ mu'.toInt = 0)
theorem tot_0 {f : Nat → Int64} {a : Nat} {mu : Int32} : totP f a 0 0 mu mu := ⟨rfl, fun _ => rfl, fun q => absurd trivial q, fun q => q⟩
theorem tot_y {f : Nat → Int64} {a k : Nat} {r z z' : Int64} {mu m1 : Int32} (h : totP f a k r mu m1) (hz : z = f (a + k)) (h2 : z' = f (a + k)) (c : fitA r z) : totP f a (k + 1) (r + z') mu m1 := by
  obtain ⟨h1, h3, h4, h5⟩ := h
  subst h1
  rw [hz] at c
  rw [h2]
  exact ⟨rfl, fun q => h3 q.1, fun q => h4 (fun q2 => q ⟨q2, c⟩), h5⟩
theorem tot_n {f : Nat → Int64} {a k : Nat} {r z z' : Int64} {mu m1 m2 : Int32} (h : totP f a k r mu m1) (hz : z = f (a + k)) (h2 : z' = f (a + k)) (c : ¬ fitA r z) (e : ¬ m2.toInt = 0) : totP f a (k + 1) (r + z') mu m2 := by
  obtain ⟨h1, h3, h4, h5⟩ := h
  subst h1
  rw [hz] at c
  rw [h2]
  exact ⟨rfl, fun q => absurd q.2 c, fun _ => e, fun _ => e⟩
theorem tot_a {f : Nat → Int64} {x mu mu' : Int32} {a : Int64} (h : totP f (0 : Int32).toNatClampNeg (x.toNatClampNeg - (0 : Int32).toNatClampNeg) a mu mu') : totP f 0 x.toNatClampNeg a mu mu' := by
  have e : (0 : Int32).toNatClampNeg = 0 := by decide
  rw [e] at h
  exact h
theorem tot_b {f : Nat → Int64} {x mu mu' : Int32} {a : Int64} (h : totP f x.toNatClampNeg ((7 : Int32).toNatClampNeg - x.toNatClampNeg) a mu mu') : totP f x.toNatClampNeg (7 - x.toNatClampNeg) a mu mu' := by
  have e : (7 : Int32).toNatClampNeg = 7 := by decide
  rw [e] at h
  exact h
theorem tot_i {f : Nat → Int64} {x mu : Int32} : totP f x.toNatClampNeg (x.toNatClampNeg - x.toNatClampNeg) 0 mu mu := by
  rw [Nat.sub_self]
  exact tot_0
theorem fs_mu {u : duS} {o : Nat} {k r a b : Int64} {m1 m2 : Int32} (hA : totP u.1 0 o a u.2.2 m1) (hB : totP u.1 o (7 - o) b m1 m2) (h : ¬ m2.toInt = 0 ∨ ¬ fitM b k) (e : r.toInt = -4611686018427387909) : fsR u o k r := by
  refine Or.inr ⟨fun q => ?_, e⟩
  obtain ⟨q1, q2, q3, q4, q5⟩ := q
  rcases h with h | h
  · rw [hB.2.1 q3, hA.2.1 q2] at h
    exact h q1
  · rw [hB.1] at h
    exact h q4
theorem fs_ok {u : duS} {o : Nat} {k a b c : Int64} {m1 m2 : Int32} (hA : totP u.1 0 o a u.2.2 m1) (hB : totP u.1 o (7 - o) b m1 m2) (h : m2.toInt = 0) (h2 : fitM b k) (hc : c = (b * k) / 9) (h3 : fitA a c) : fsR u o k (a + c) := by
  obtain ⟨a1, a2, a3, a4⟩ := hA
  obtain ⟨b1, b2, b3, b4⟩ := hB
  have e1 : m1.toInt = 0 := Classical.byContradiction (fun q => b4 q h)
  have e2 : u.2.2.toInt = 0 := Classical.byContradiction (fun q => a4 q e1)
  have e3 : (sumT u.1 o (7 - o)).2 := Classical.byContradiction (fun q => b3 q h)
  have e4 : (sumT u.1 0 o).2 := Classical.byContradiction (fun q => a3 q e1)
  subst a1
  subst b1
  subst hc
  exact Or.inl ⟨⟨e2, e4, e3, h2, h3⟩, rfl⟩
theorem fs_no {u : duS} {o : Nat} {k a b c r : Int64} {m1 m2 : Int32} (hA : totP u.1 0 o a u.2.2 m1) (hB : totP u.1 o (7 - o) b m1 m2) (hc : c = (b * k) / 9) (h3 : ¬ fitA a c) (e : r.toInt = -4611686018427387909) : fsR u o k r := by
  refine Or.inr ⟨fun q => ?_, e⟩
  rw [hc, hA.1, hB.1] at h3
  exact h3 q.2.2.2.2
theorem fsR_uniq {u u' : duS} {o : Nat} {k r r' : Int64} (ho : o ≤ 6) (E : duE u u') (a : fsR u o k r) (b : fsR u' o k r') : r = r' := by
  by_cases h : u.2.2.toInt = 0
  · obtain ⟨e1, e2⟩ := E.2 h
    have s1 : sumT u.1 0 o = sumT u'.1 0 o := sumT_ext o (fun j h1 h2 => e2 j (by omega))
    have s2 : sumT u.1 o (7 - o) = sumT u'.1 o (7 - o) := sumT_ext (7 - o) (fun j h1 h2 => e2 j (by omega))
    unfold fsR fsO at a b
    rw [← s1, ← s2] at b
    have hu : (u'.2.2.toInt = 0) = (u.2.2.toInt = 0) := propext E.1.symm
    rw [hu] at b
    rcases a with ⟨a1, a2⟩ | ⟨a1, a2⟩
    · have b := (b.resolve_right (fun q => q.1 a1)).2
      rw [a2, b]
    · have b := (b.resolve_left (fun q => a1 q.1)).2
      exact Int64.toInt_inj.1 (a2.trans b.symm)
  · have a := (a.resolve_left (fun q => h q.1.1)).2
    have b := (b.resolve_left (fun q => h (E.1.2 q.1.1))).2
    exact Int64.toInt_inj.1 (a.trans b.symm)
theorem fal_keep {l fk fn fc fd fe : Nat → Int32} {V : vaF} {p x t : Int32} {d : Nat} {m : Int64} {s s' : duS} (hx : 0 ≤ x.toInt ∧ x.toInt < d) (h : falP l fk fn fc fd fe V p d x t m s s') (hm : ¬ s.2.2.toInt = 0) : ¬ s'.2.2.toInt = 0 := by
  match d, hx, h with
  | 0, hx, _ => omega
  | d + 1, _, h => exact h.1 hm
/-- failed(), as the reference adds it: behind m days -/
def faI (f : Nat → Int64) (o m : Nat) (a b : Int64) (mm : Int32) : Prop := a = (sumT f 0 (min m o)).1 ∧ b = (sumT f o (m - o)).1 ∧ (mm.toInt = 0 ↔ ((sumT f 0 (min m o)).2 ∧ (sumT f o (m - o)).2))
theorem fa_0 {f : Nat → Int64} {o : Nat} {mm : Int32} (h : mm.toInt = 0) : faI f o 0 0 0 mm := by
  have e : min 0 o = 0 := by omega
  have e2 : 0 - o = 0 := by omega
  unfold faI
  rw [e, e2]
  exact ⟨rfl, rfl, ⟨fun _ => ⟨trivial, trivial⟩, fun _ => h⟩⟩
theorem fa_a {f : Nat → Int64} {o m : Nat} {a b z r : Int64} {mm m2 : Int32} (h : faI f o m a b mm) (hm : m < o) (hz : z = f m) (hr : r = a + z) (g : m2.toInt = 0 ↔ (mm.toInt = 0 ∧ fitA a z)) : faI f o (m + 1) r b m2 := by
  obtain ⟨h1, h2, h3⟩ := h
  have e : min (m + 1) o = min m o + 1 := by omega
  have e2 : m + 1 - o = m - o := by omega
  have e3 : 0 + min m o = m := by omega
  have e4 : sumT f 0 (min m o + 1) = ((sumT f 0 (min m o)).1 + f (0 + min m o), (sumT f 0 (min m o)).2 ∧ fitA (sumT f 0 (min m o)).1 (f (0 + min m o))) := rfl
  rw [e3] at e4
  unfold faI
  rw [e, e2, e4]
  refine ⟨by rw [hr, hz, h1], h2, ?_⟩
  rw [g, h3, hz, h1]
  exact ⟨fun q => ⟨⟨q.1.1, q.2⟩, q.1.2⟩, fun q => ⟨⟨q.1.1, q.2⟩, q.1.2⟩⟩
theorem fa_b {f : Nat → Int64} {o m : Nat} {a b z r : Int64} {mm m2 : Int32} (h : faI f o m a b mm) (hm : o ≤ m) (hz : z = f m) (hr : r = b + z) (g : m2.toInt = 0 ↔ (mm.toInt = 0 ∧ fitA b z)) : faI f o (m + 1) a r m2 := by
  obtain ⟨h1, h2, h3⟩ := h
  have e : min (m + 1) o = min m o := by omega
  have e2 : m + 1 - o = (m - o) + 1 := by omega
  have e3 : o + (m - o) = m := by omega
  have e4 : sumT f o (m - o + 1) = ((sumT f o (m - o)).1 + f (o + (m - o)), (sumT f o (m - o)).2 ∧ fitA (sumT f o (m - o)).1 (f (o + (m - o)))) := rfl
  rw [e3] at e4
  unfold faI
  rw [e, e2, e4]
  refine ⟨h1, by rw [hr, hz, h2], ?_⟩
  rw [g, h3, hz, h2]
  exact ⟨fun q => ⟨q.1.1, q.1.2, q.2⟩, fun q => ⟨⟨q.1, q.2.1⟩, q.2.2⟩⟩
theorem fs_rn {u : duS} {o : Nat} {k a b r : Int64} {mm : Int32} (ho : o ≤ 6) (I : faI u.1 o 7 a b mm) (h : ¬ mm.toInt = 0 ∨ ¬ fitM k b ∨ ¬ fitA a ((k * b) / 9)) (e : r.toInt = -4611686018427387909) : fsR u o k r := by
  obtain ⟨h1, h2, h3⟩ := I
  have e1 : min 7 o = o := by omega
  rw [e1] at h1 h3
  refine Or.inr ⟨fun q => ?_, e⟩
  obtain ⟨q1, q2, q3, q4, q5⟩ := q
  rw [← h2] at q4 q5
  rw [← h1] at q5
  rcases h with h | h | h
  · exact h (h3.2 ⟨q2, q3⟩)
  · exact h (fitM_c.1 q4)
  · rw [Int64.mul_comm] at h
    exact h q5
theorem fs_ry {u : duS} {o : Nat} {k a b r : Int64} {mm : Int32} (ho : o ≤ 6) (hu : u.2.2.toInt = 0) (I : faI u.1 o 7 a b mm) (h : mm.toInt = 0) (h4 : fitM k b) (h5 : fitA a ((k * b) / 9)) (e : r = a + (k * b) / 9) : fsR u o k r := by
  obtain ⟨h1, h2, h3⟩ := I
  have e1 : min 7 o = o := by omega
  rw [e1] at h1 h3
  have g := h3.1 h
  rw [Int64.mul_comm] at h5 e
  rw [h1, h2] at h5 e
  exact Or.inl ⟨⟨hu, g.1, g.2, (by rw [← h2]; exact fitM_c.1 h4), h5⟩, e⟩
end
section
theorem dX3_enter_0 : decode cX3_enter 0 = .ok (.aload_n 0, 1) := by decide +kernel
theorem dX3_enter_1 : decode cX3_enter 1 = .ok (.dup, 1) := by decide +kernel
theorem dX3_enter_12 : decode cX3_enter 12 = .ok (.aload_n 0, 1) := by decide +kernel
theorem dX3_enter_13 : decode cX3_enter 13 = .ok (.getfield 9, 3) := by decide +kernel
theorem dX3_enter_16 : decode cX3_enter 16 = .ok (.iload_n 1, 1) := by decide +kernel
theorem dX3_enter_17 : decode cX3_enter 17 = .ok (.laload, 1) := by decide +kernel
theorem dX3_enter_18 : decode cX3_enter 18 = .ok (.lload_n 2, 1) := by decide +kernel
theorem dX3_enter_19 : decode cX3_enter 19 = .ok (.invokestatic 107, 3) := by decide +kernel
theorem dX3_enter_2 : decode cX3_enter 2 = .ok (.getfield 15, 3) := by decide +kernel
theorem dX3_enter_22 : decode cX3_enter 22 = .ok (.ifCond .eq 16, 3) := by decide +kernel
theorem dX3_enter_25 : decode cX3_enter 25 = .ok (.aload_n 0, 1) := by decide +kernel
theorem dX3_enter_26 : decode cX3_enter 26 = .ok (.getfield 9, 3) := by decide +kernel
theorem dX3_enter_29 : decode cX3_enter 29 = .ok (.iload_n 1, 1) := by decide +kernel
theorem dX3_enter_30 : decode cX3_enter 30 = .ok (.dup2, 1) := by decide +kernel
theorem dX3_enter_31 : decode cX3_enter 31 = .ok (.laload, 1) := by decide +kernel
theorem dX3_enter_32 : decode cX3_enter 32 = .ok (.lload_n 2, 1) := by decide +kernel
theorem dX3_enter_33 : decode cX3_enter 33 = .ok (.ladd, 1) := by decide +kernel
theorem dX3_enter_34 : decode cX3_enter 34 = .ok (.lastore, 1) := by decide +kernel
theorem dX3_enter_35 : decode cX3_enter 35 = .ok (.goto 8, 3) := by decide +kernel
theorem dX3_enter_38 : decode cX3_enter 38 = .ok (.aload_n 0, 1) := by decide +kernel
theorem dX3_enter_39 : decode cX3_enter 39 = .ok (.iconst 1, 1) := by decide +kernel
theorem dX3_enter_40 : decode cX3_enter 40 = .ok (.putfield 19, 3) := by decide +kernel
theorem dX3_enter_43 : decode cX3_enter 43 = .ok (.return_, 1) := by decide +kernel
theorem dX3_enter_5 : decode cX3_enter 5 = .ok (.iconst 1, 1) := by decide +kernel
theorem dX3_enter_6 : decode cX3_enter 6 = .ok (.iload_n 1, 1) := by decide +kernel
theorem dX3_enter_7 : decode cX3_enter 7 = .ok (.ishl, 1) := by decide +kernel
theorem dX3_enter_8 : decode cX3_enter 8 = .ok (.ior, 1) := by decide +kernel
theorem dX3_enter_9 : decode cX3_enter 9 = .ok (.putfield 15, 3) := by decide +kernel
set_option maxRecDepth 20000 in
theorem ggX3_enter_X11_sumFits : GoodIn wsX3_enter wsX11_sumFits := goodIn_r _ [7] rfl (by decide +kernel)
set_option maxRecDepth 20000 in
theorem gX3_enter_X11_sumFits : GoodIn wsX3_enter (va_wsS RX3 107 yX11_sumFits wsX11_sumFits) := goodIn_app (goodIn_of _ (by decide +kernel)) ggX3_enter_X11_sumFits
set_option maxRecDepth 20000 in
theorem in_X3_enter_X3 : ∀ w ∈ wsX30, w ∈ wsX3_enter := sub_r [8, 9, 10, 11, 12, 13, 14] rfl
set_option maxHeartbeats 4000000 in
set_option maxRecDepth 100000 in
theorem c_X3_enter (l : Launch) (D : va_G) (T : Nat → ClassId) (sz : Nat) (h0 : Nat) (on : Nat) (w0 : Value) (w1 : Value) (w2 : Value) (dy : Int32) (mu : Int32) (pa : Int32) (fo : Nat → Int64) (x1 : Int32) (x2 : Int64) (hd : 0 ≤ x1.toInt ∧ x1.toInt ≤ 6) : Met l yX3_enter wsX3_enter ({ frames := 1, cells := 0, slots := 0, locals := 25 }) (pW [.ref h0, .int x1, .long x2] D T [(h0, .inr (2, [w0, w1, w2, .ref on, .int dy, .int mu, .int pa])), (on, .inl (T 1, 7, .inr (.inl fo)))] sz) (va_Qv (fun (u : (Nat → Int64) × Int32 × Int32) => entP x1 x2 ((fo, dy, mu) : duS) ((u.1, u.2.1, u.2.2) : duS)) (bW D (va_A [(h0, .inr (2, [w0, w1, w2, .ref on, .int dy, .int mu, .int pa])), (on, .inl (T 1, 7, .inr (.inl fo)))] sz) (fun (u : (Nat → Int64) × Int32 × Int32) => [(h0, .inr (2, [w0, w1, w2, .ref on, .int u.2.1, .int u.2.2, .int pa])), (on, .inl (T 1, 7, .inr (.inl u.1)))])) (va_A [(h0, .inr (2, [w0, w1, w2, .ref on, .int dy, .int mu, .int pa])), (on, .inl (T 1, 7, .inr (.inl fo)))] sz)) 0 0 (va_A [(h0, .inr (2, [w0, w1, w2, .ref on, .int dy, .int mu, .int pa])), (on, .inl (T 1, 7, .inr (.inl fo)))] sz) := by
  refine Met.ofW (cc := cX3_enter) (maxL := 4) (ret := none) (by decide +kernel) rfl ?_
  intro p e s m args below meth c s₁ B hml hv
  obtain ⟨rfl, hsz, hP, hE, hD0⟩ := hv
  have hx := B.exec
  have hb := B.bytes
  have hr := B.returns
  have hts := atoms_spec (ws := wsX3_enter) B.pre
  have hown : s.vm.findClass RX3 = some m.cls := findClass_of_methodNamed B.named
  have hlocks := B.notSynchronized
  subst hsz
  have hD := hD0.self (sz := s.heap.size)
  generalize hAe : va_A [(h0, .inr (2, [w0, w1, w2, .ref on, .int dy, .int mu, .int pa])), (on, .inl (T 1, 7, .inr (.inl fo)))] s.heap.size = A at hD ⊢
  have hA : ∀ q : Nat, s.heap.size ≤ q → A q := fun q h => by rw [← hAe]; exact Or.inr h
  have hS : va_S A s.heap s.heap [] := va_S.rf
  have hP : va_P D vwCl [(h0, .inr (2, [w0, w1, w2, .ref on, .int dy, .int mu, .int pa])), (on, .inl (T 1, 7, .inr (.inl fo)))] s.heap := hP
  have hl := lv_entry ([.ref h0, .int x1, .long x2]) (n := 4) (Nat.le_of_ble_eq_true rfl)
  rw [lg_entry_eq]
  generalize (lg_sl ([.ref h0, .int x1, .long x2]) ++ List.replicate (4 - (lg_sl ([.ref h0, .int x1, .long x2])).length) Slot.unset).toArray = ls at hl ⊢
  have hl : lv_has ls 4 [(0, .ref h0), (1, .int x1), (2, .long x2)] := hl
  clear hD0
  refine lv_aload_n hx hb dX3_enter_0 rfl (lv_at hl 0 rfl) ?_
  refine lv_dup hx hb dX3_enter_1 rfl ?_
  refine va_get (D := D) (ci := 2) (v := .int dy) (C := RX3) (T := TX3) (N := 7) hx hb hts in_X3_enter_X3 hown hE.1 hP 0 rfl rfl 4 (by decide +kernel) (hts (.fieldLink RX3 15 "ClauseBook$Falling" "days" "I") (List.mem_of_getElem? (i := 1) rfl)) (fun _ h9 => h9) rfl dX3_enter_2 ?_
  refine lv_iconst (v := 1) hx hb dX3_enter_5 (by decide +kernel) ?_
  refine lv_iload_n hx hb dX3_enter_6 rfl (lv_at hl 1 rfl) ?_
  refine lv_ishl hx hb dX3_enter_7 ?_
  refine lv_ior hx hb dX3_enter_8 ?_
  refine lv_topi (fun z_1 ez_1 => ?_)
  refine va_put (D := D) (ci := 2) (v := .int z_1) (ty := .int) (C := RX3) (T := TX3) (N := 7) hx hb hts in_X3_enter_X3 tyX3 tyX3_ok nmX3 hown hE.1 hP hD hS 0 rfl rfl 4 (by decide +kernel) (hts (.fieldLink RX3 15 "ClauseBook$Falling" "days" "I") (List.mem_of_getElem? (i := 1) rfl)) (fun _ h9 => h9) rfl (by decide +kernel) rfl rfl (Nat.le_of_ble_eq_true rfl) dX3_enter_9 (fun H locs hP hD hS => ?_)
  obtain ⟨hP, hD⟩ := wPD [(h0, .inr (2, [w0, w1, w2, .ref on, .int z_1, .int mu, .int pa])), (on, .inl (T 1, 7, .inr (.inl fo)))] hP hD rfl
  refine lv_aload_n hx hb dX3_enter_12 rfl (lv_at hl 0 rfl) ?_
  refine va_get (D := D) (ci := 2) (v := .ref on) (C := RX3) (T := TX3) (N := 7) hx hb hts in_X3_enter_X3 hown hE.1 hP 0 rfl rfl 3 (by decide +kernel) (hts (.fieldLink RX3 9 "ClauseBook$Falling" "on" "[J") (List.mem_of_getElem? (i := 2) rfl)) (fun _ h9 => h9) rfl dX3_enter_13 ?_
  refine lv_iload_n hx hb dX3_enter_16 rfl (lv_at hl 1 rfl) ?_
  refine va_lald hx hb hE.1 hP 1 1 rfl rfl (by rw [vp_in_iff]; first | omega | (subst_vars; omega)) dX3_enter_17 ?_
  refine lv_topl (fun z_2 ez_2 => ?_)
  refine lv_lload_n hx hb dX3_enter_18 rfl (lv_at hl 2 rfl) ?_
  refine vp_callSi (W.runS (As := [.long z_2, .long x2]) (rest := []) ⟨hx, hb, hml, hown, hts⟩ (c_X11_sumFits l D T z_2 x2) (va_cwS 2 hts gX3_enter_X11_sumFits rfl rfl rfl hs_X11_sumFits ⟨Nat.le_of_ble_eq_true rfl, Nat.le_of_ble_eq_true rfl⟩) (pR_S hP hE [] rfl) rfl rfl hl.1 rfl (lv_room (Nat.le_of_ble_eq_true rfl)) dX3_enter_19 ⟨Nat.le_of_ble_eq_true rfl, Nat.le_of_ble_eq_true rfl⟩) (fun r_3 hr_3 => ?_)
  rcases bool_post hr_3 with ⟨c_4, rfl⟩ | ⟨c_4, rfl⟩
  · refine lv_if_eq (tgt := 38) hx hb dX3_enter_22 (by decide +kernel) (fun c9 => absurd c9 (by decide +kernel)) (fun _ => ?_)
    refine lv_aload_n hx hb dX3_enter_25 rfl (lv_at hl 0 rfl) ?_
    refine va_get (D := D) (ci := 2) (v := .ref on) (C := RX3) (T := TX3) (N := 7) hx hb hts in_X3_enter_X3 hown hE.1 hP 0 rfl rfl 3 (by decide +kernel) (hts (.fieldLink RX3 9 "ClauseBook$Falling" "on" "[J") (List.mem_of_getElem? (i := 2) rfl)) (fun _ h9 => h9) rfl dX3_enter_26 ?_
    refine lv_iload_n hx hb dX3_enter_29 rfl (lv_at hl 1 rfl) ?_
    refine lv_dup2_11 hx hb dX3_enter_30 rfl rfl ?_
    refine va_lald hx hb hE.1 hP 1 1 rfl rfl (by rw [vp_in_iff]; first | omega | (subst_vars; omega)) dX3_enter_31 ?_
    refine lv_topl (fun z_5 ez_5 => ?_)
    refine lv_lload_n hx hb dX3_enter_32 rfl (lv_at hl 2 rfl) ?_
    refine lv_ladd hx hb dX3_enter_33 ?_
    refine va_last hx hb hE.1 hP hD hS 1 1 rfl rfl (by rw [vp_in_iff]; first | omega | (subst_vars; omega)) dX3_enter_34 (fun H locs hP hD hS => ?_)
    obtain ⟨hP, hD⟩ := wPD [(h0, .inr (2, [w0, w1, w2, .ref on, .int z_1, .int mu, .int pa])), (on, .inl (T 1, 7, .inr (.inl (vp_updL fo (x1.toNatClampNeg) (z_5 + x2)))))] hP hD rfl
    refine lv_goto (tgt := 43) hx hb dX3_enter_35 (by decide +kernel) ?_
    exact W.vret hx hb hr (fun t ht hW => ⟨⟨((vp_updL fo (x1.toNatClampNeg) (z_5 + x2)), z_1, mu), rfl, ⟨(fun _ => (by rw [ez_1, ez_5])), (fun q9 => absurd (show fitA z_2 x2 from (by assumption)) (by rw [ez_2]; exact q9))⟩, by rw [ht]; exact hP.sub [0, 1] rfl, hD.sub [0, 1] (by decide +kernel) rfl⟩, hS.F ht⟩) hS.2.2 dX3_enter_43
  · refine lv_if_eq (tgt := 38) hx hb dX3_enter_22 (by decide +kernel) (fun _ => ?_) (fun c9 => absurd c9 (by decide +kernel))
    refine lv_aload_n hx hb dX3_enter_38 rfl (lv_at hl 0 rfl) ?_
    refine lv_iconst (v := 1) hx hb dX3_enter_39 (by decide +kernel) ?_
    refine va_put (D := D) (ci := 2) (v := .int 1) (ty := .boolean) (C := RX3) (T := TX3) (N := 7) hx hb hts in_X3_enter_X3 tyX3 tyX3_ok nmX3 hown hE.1 hP hD hS 0 rfl rfl 5 (by decide +kernel) (hts (.fieldLink RX3 19 "ClauseBook$Falling" "much" "Z") (List.mem_of_getElem? (i := 3) rfl)) (fun _ h9 => h9) rfl (by decide +kernel) rfl rfl (Nat.le_of_ble_eq_true rfl) dX3_enter_40 (fun H locs hP hD hS => ?_)
    obtain ⟨hP, hD⟩ := wPD [(h0, .inr (2, [w0, w1, w2, .ref on, .int z_1, .int 1, .int pa])), (on, .inl (T 1, 7, .inr (.inl fo)))] hP hD rfl
    exact W.vret hx hb hr (fun t ht hW => ⟨⟨(fo, z_1, 1), rfl, ⟨(fun q9 => absurd (show fitA z_2 x2 from by rw [ez_2]; exact q9) (by assumption)), (fun _ => (show ¬ (1 : Int32).toInt = 0 from by decide))⟩, by rw [ht]; exact hP.sub [0, 1] rfl, hD.sub [0, 1] (by decide +kernel) rfl⟩, hS.F ht⟩) hS.2.2 dX3_enter_43
theorem dX3_total_0 : decode cX3_total 0 = .ok (.lconst 0, 1) := by decide +kernel
theorem dX3_total_1 : decode cX3_total 1 = .ok (.lstore_n 3, 1) := by decide +kernel
theorem dX3_total_11 : decode cX3_total 11 = .ok (.lload_n 3, 1) := by decide +kernel
theorem dX3_total_12 : decode cX3_total 12 = .ok (.aload_n 0, 1) := by decide +kernel
theorem dX3_total_13 : decode cX3_total 13 = .ok (.getfield 9, 3) := by decide +kernel
theorem dX3_total_16 : decode cX3_total 16 = .ok (.iload 5, 2) := by decide +kernel
theorem dX3_total_18 : decode cX3_total 18 = .ok (.laload, 1) := by decide +kernel
theorem dX3_total_19 : decode cX3_total 19 = .ok (.invokestatic 107, 3) := by decide +kernel
theorem dX3_total_2 : decode cX3_total 2 = .ok (.iload_n 1, 1) := by decide +kernel
theorem dX3_total_22 : decode cX3_total 22 = .ok (.ifCond .ne 8, 3) := by decide +kernel
theorem dX3_total_25 : decode cX3_total 25 = .ok (.aload_n 0, 1) := by decide +kernel
theorem dX3_total_26 : decode cX3_total 26 = .ok (.iconst 1, 1) := by decide +kernel
theorem dX3_total_27 : decode cX3_total 27 = .ok (.putfield 19, 3) := by decide +kernel
theorem dX3_total_3 : decode cX3_total 3 = .ok (.istore 5, 2) := by decide +kernel
theorem dX3_total_30 : decode cX3_total 30 = .ok (.lload_n 3, 1) := by decide +kernel
theorem dX3_total_31 : decode cX3_total 31 = .ok (.aload_n 0, 1) := by decide +kernel
theorem dX3_total_32 : decode cX3_total 32 = .ok (.getfield 9, 3) := by decide +kernel
theorem dX3_total_35 : decode cX3_total 35 = .ok (.iload 5, 2) := by decide +kernel
theorem dX3_total_37 : decode cX3_total 37 = .ok (.laload, 1) := by decide +kernel
theorem dX3_total_38 : decode cX3_total 38 = .ok (.ladd, 1) := by decide +kernel
theorem dX3_total_39 : decode cX3_total 39 = .ok (.lstore_n 3, 1) := by decide +kernel
theorem dX3_total_40 : decode cX3_total 40 = .ok (.iinc 5 1, 3) := by decide +kernel
theorem dX3_total_43 : decode cX3_total 43 = .ok (.goto (-38), 3) := by decide +kernel
theorem dX3_total_46 : decode cX3_total 46 = .ok (.lload_n 3, 1) := by decide +kernel
theorem dX3_total_47 : decode cX3_total 47 = .ok (.lreturn, 1) := by decide +kernel
theorem dX3_total_5 : decode cX3_total 5 = .ok (.iload 5, 2) := by decide +kernel
theorem dX3_total_7 : decode cX3_total 7 = .ok (.iload_n 2, 1) := by decide +kernel
theorem dX3_total_8 : decode cX3_total 8 = .ok (.if_icmp .ge 38, 3) := by decide +kernel
set_option maxRecDepth 20000 in
theorem ggX3_total_X11_sumFits : GoodIn wsX3_total wsX11_sumFits := goodIn_r _ [6] rfl (by decide +kernel)
set_option maxRecDepth 20000 in
theorem gX3_total_X11_sumFits : GoodIn wsX3_total (va_wsS RX3 107 yX11_sumFits wsX11_sumFits) := goodIn_app (goodIn_of _ (by decide +kernel)) ggX3_total_X11_sumFits
set_option maxRecDepth 20000 in
theorem in_X3_total_X3 : ∀ w ∈ wsX30, w ∈ wsX3_total := sub_r [7, 8, 9, 10, 11, 12, 13] rfl
set_option maxHeartbeats 4000000 in
set_option maxRecDepth 100000 in
theorem c_X3_total (l : Launch) (D : va_G) (T : Nat → ClassId) (sz : Nat) (h0 : Nat) (on : Nat) (w0 : Value) (w1 : Value) (w2 : Value) (dy : Int32) (mu : Int32) (pa : Int32) (fo : Nat → Int64) (x1 : Int32) (x2 : Int32) (hd : (0 ≤ x1.toInt ∧ x1.toInt ≤ x2.toInt) ∧ x2.toInt ≤ 7) : Met l yX3_total wsX3_total ({ frames := 1, cells := 0, slots := 0, locals := 25 }) (pW [.ref h0, .int x1, .int x2] D T [(h0, .inr (2, [w0, w1, w2, .ref on, .int dy, .int mu, .int pa])), (on, .inl (T 1, 7, .inr (.inl fo)))] sz) (va_Ql (fun (r : Int64) (u : Int32) => totP fo x1.toNatClampNeg (x2.toNatClampNeg - x1.toNatClampNeg) r mu u) (bW D (va_A [(h0, .inr (2, [w0, w1, w2, .ref on, .int dy, .int mu, .int pa])), (on, .inl (T 1, 7, .inr (.inl fo)))] sz) (fun (u : Int32) => [(h0, .inr (2, [w0, w1, w2, .ref on, .int dy, .int u, .int pa])), (on, .inl (T 1, 7, .inr (.inl fo)))])) (va_A [(h0, .inr (2, [w0, w1, w2, .ref on, .int dy, .int mu, .int pa])), (on, .inl (T 1, 7, .inr (.inl fo)))] sz)) 0 0 (va_A [(h0, .inr (2, [w0, w1, w2, .ref on, .int dy, .int mu, .int pa])), (on, .inl (T 1, 7, .inr (.inl fo)))] sz) := by
  refine Met.ofW (cc := cX3_total) (maxL := 6) (ret := (some .long)) (by decide +kernel) rfl ?_
  intro p e s m args below meth c s₁ B hml hv
  obtain ⟨rfl, hsz, hP, hE, hD0⟩ := hv
  have hx := B.exec
  have hb := B.bytes
  have hr := B.returns
  have hts := atoms_spec (ws := wsX3_total) B.pre
  have hown : s.vm.findClass RX3 = some m.cls := findClass_of_methodNamed B.named
  have hlocks := B.notSynchronized
  subst hsz
  have hD := hD0.self (sz := s.heap.size)
  generalize hAe : va_A [(h0, .inr (2, [w0, w1, w2, .ref on, .int dy, .int mu, .int pa])), (on, .inl (T 1, 7, .inr (.inl fo)))] s.heap.size = A at hD ⊢
  have hA : ∀ q : Nat, s.heap.size ≤ q → A q := fun q h => by rw [← hAe]; exact Or.inr h
  have hS : va_S A s.heap s.heap [] := va_S.rf
  have hP : va_P D vwCl [(h0, .inr (2, [w0, w1, w2, .ref on, .int dy, .int mu, .int pa])), (on, .inl (T 1, 7, .inr (.inl fo)))] s.heap := hP
  have hl := lv_entry ([.ref h0, .int x1, .int x2]) (n := 6) (Nat.le_of_ble_eq_true rfl)
  rw [lg_entry_eq]
  generalize (lg_sl ([.ref h0, .int x1, .int x2]) ++ List.replicate (6 - (lg_sl ([.ref h0, .int x1, .int x2])).length) Slot.unset).toArray = ls at hl ⊢
  have hl : lv_has ls 6 [(0, .ref h0), (1, .int x1), (2, .int x2)] := hl
  clear hD0
  refine lv_lconst (v := 0) hx hb dX3_total_0 (by decide +kernel) ?_
  refine lv_lstore_n (lv' := [(3, .long 0), (0, .ref h0), (1, .int x1), (2, .int x2)]) hx hb dX3_total_1 rfl hl (by decide +kernel) rfl (fun ls hl => ?_)
  refine lv_iload_n hx hb dX3_total_2 rfl (lv_at hl 2 rfl) ?_
  refine lv_istore (lv' := [(5, .int x1), (3, .long 0), (0, .ref h0), (1, .int x1), (2, .int x2)]) hx hb dX3_total_3 hl (by decide +kernel) rfl (fun ls hl => ?_)
  refine loopW (σ := (Int32) × (Int64) × (Int32)) (fun x9 ls H locs => lv_has ls 6 [(5, .int x9.1), (3, .long x9.2.1), (0, .ref h0), (1, .int x1), (2, .int x2)] ∧ va_P D vwCl [(h0, .inr (2, [w0, w1, w2, .ref on, .int dy, .int x9.2.2, .int pa])), (on, .inl (T 1, 7, .inr (.inl fo)))] H ∧ va_D A [(h0, .inr (2, [w0, w1, w2, .ref on, .int dy, .int x9.2.2, .int pa])), (on, .inl (T 1, 7, .inr (.inl fo)))] ∧ va_S A s.heap H locs ∧ ((x1.toInt ≤ x9.1.toInt ∧ x9.1.toInt ≤ x2.toInt) ∧ totP fo x1.toNatClampNeg (x9.1.toNatClampNeg - x1.toNatClampNeg) x9.2.1 mu x9.2.2)) (fun x9 => (7 - x9.1.toInt).toNat) (fun x9 ls H locs hI ih => ?_) (x1, 0, mu) ls ⟨lv_sub hl [0, 1, 2, 3, 4] rfl, hP.sub [0, 1] rfl, hD.sub [0, 1] (by decide +kernel) rfl, hS, ⟨⟨(by (try dsimp only); omega), (by (try dsimp only); omega)⟩, tot_i⟩⟩
  obtain ⟨tt, al, mm⟩ := x9
  obtain ⟨hl, hP, hD, hS, hinv⟩ := hI
  have hl : lv_has ls 6 [(5, .int tt), (3, .long al), (0, .ref h0), (1, .int x1), (2, .int x2)] := hl
  have hP : va_P D vwCl [(h0, .inr (2, [w0, w1, w2, .ref on, .int dy, .int mm, .int pa])), (on, .inl (T 1, 7, .inr (.inl fo)))] H := hP
  have hD : va_D A [(h0, .inr (2, [w0, w1, w2, .ref on, .int dy, .int mm, .int pa])), (on, .inl (T 1, 7, .inr (.inl fo)))] := hD
  have hinv : (x1.toInt ≤ tt.toInt ∧ tt.toInt ≤ x2.toInt) ∧ totP fo x1.toNatClampNeg (tt.toNatClampNeg - x1.toNatClampNeg) al mu mm := hinv
  obtain ⟨htt, htot⟩ := hinv
  refine lv_iload hx hb dX3_total_5 (lv_at hl 0 rfl) ?_
  refine lv_iload_n hx hb dX3_total_7 rfl (lv_at hl 4 rfl) ?_
  refine lv_icmp_ge (tgt := 46) hx hb dX3_total_8 (by decide +kernel) (fun c_1 => ?_) (fun c_1 => ?_)
  · rw [fa_le] at c_1
    refine lv_lload_n hx hb dX3_total_46 rfl (lv_at hl 1 rfl) ?_
    exact W.lret hx hb hr (fun t ht hW => ⟨⟨_, mm, rfl, (by have h9 : tt.toNatClampNeg = x2.toNatClampNeg := (by have ht7 := tn (x := tt) (by omega); have ht8 := tn (x := x2) (by omega); omega); rw [← h9]; exact htot), by rw [ht]; exact hP.sub [0, 1] rfl, hD.sub [0, 1] (by decide +kernel) rfl⟩, hS.F ht⟩) hS.2.2 dX3_total_47
  · rw [fa_le] at c_1
    refine lv_lload_n hx hb dX3_total_11 rfl (lv_at hl 1 rfl) ?_
    refine lv_aload_n hx hb dX3_total_12 rfl (lv_at hl 2 rfl) ?_
    refine va_get (D := D) (ci := 2) (v := .ref on) (C := RX3) (T := TX3) (N := 7) hx hb hts in_X3_total_X3 hown hE.1 hP 0 rfl rfl 3 (by decide +kernel) (hts (.fieldLink RX3 9 "ClauseBook$Falling" "on" "[J") (List.mem_of_getElem? (i := 1) rfl)) (fun _ h9 => h9) rfl dX3_total_13 ?_
    refine lv_iload hx hb dX3_total_16 (lv_at hl 0 rfl) ?_
    refine va_lald hx hb hE.1 hP 1 1 rfl rfl (by rw [vp_in_iff]; first | omega | (subst_vars; omega)) dX3_total_18 ?_
    refine lv_topl (fun z_2 ez_2 => ?_)
    refine vp_callSi (W.runS (As := [.long al, .long z_2]) (rest := []) ⟨hx, hb, hml, hown, hts⟩ (c_X11_sumFits l D T al z_2) (va_cwS 2 hts gX3_total_X11_sumFits rfl rfl rfl hs_X11_sumFits ⟨Nat.le_of_ble_eq_true rfl, Nat.le_of_ble_eq_true rfl⟩) (pR_S hP hE [] rfl) rfl rfl hl.1 rfl (lv_room (Nat.le_of_ble_eq_true rfl)) dX3_total_19 ⟨Nat.le_of_ble_eq_true rfl, Nat.le_of_ble_eq_true rfl⟩) (fun r_3 hr_3 => ?_)
    rcases bool_post hr_3 with ⟨c_4, rfl⟩ | ⟨c_4, rfl⟩
    · refine lv_if_ne (tgt := 30) hx hb dX3_total_22 (by decide +kernel) (fun _ => ?_) (fun c9 => absurd c9 (by decide +kernel))
      refine lv_lload_n hx hb dX3_total_30 rfl (lv_at hl 1 rfl) ?_
      refine lv_aload_n hx hb dX3_total_31 rfl (lv_at hl 2 rfl) ?_
      refine va_get (D := D) (ci := 2) (v := .ref on) (C := RX3) (T := TX3) (N := 7) hx hb hts in_X3_total_X3 hown hE.1 hP 0 rfl rfl 3 (by decide +kernel) (hts (.fieldLink RX3 9 "ClauseBook$Falling" "on" "[J") (List.mem_of_getElem? (i := 1) rfl)) (fun _ h9 => h9) rfl dX3_total_32 ?_
      refine lv_iload hx hb dX3_total_35 (lv_at hl 0 rfl) ?_
      refine va_lald hx hb hE.1 hP 1 1 rfl rfl (by rw [vp_in_iff]; first | omega | (subst_vars; omega)) dX3_total_37 ?_
      refine lv_topl (fun z_5 ez_5 => ?_)
      refine lv_ladd hx hb dX3_total_38 ?_
      refine lv_topl (fun z_6 ez_6 => ?_)
      refine lv_lstore_n (lv' := [(3, .long z_6), (5, .int tt), (0, .ref h0), (1, .int x1), (2, .int x2)]) hx hb dX3_total_39 rfl hl (by decide +kernel) rfl (fun ls hl => ?_)
      obtain ⟨z_7, ez_7⟩ : ∃ y : Int32, y = tt + 1 := ⟨_, rfl⟩
      refine lv_iinc (v := z_7) (lv' := [(5, .int z_7), (3, .long z_6), (0, .ref h0), (1, .int x1), (2, .int x2)]) hx hb dX3_total_40 hl (k := 1) rfl (by rw [ez_7]; rfl) (by decide +kernel) rfl (fun ls hl => ?_)
      refine lv_goto (tgt := 5) hx hb dX3_total_43 (by decide +kernel) ?_
      have hi9 : z_7.toInt = tt.toInt + 1 := by rw [ez_7]; exact inc1 (i := tt) (n := 1000) (by omega) (by decide +kernel)
      have ht7 := tn (x := tt) (by omega)
      have ht8 := tn (x := x1) (by omega)
      have ht9 := tn (x := z_7) (by omega)
      have hk9 : z_7.toNatClampNeg - x1.toNatClampNeg = (tt.toNatClampNeg - x1.toNatClampNeg) + 1 := by omega
      have hk8 : x1.toNatClampNeg + (tt.toNatClampNeg - x1.toNatClampNeg) = tt.toNatClampNeg := by omega
      exact ih (z_7, z_6, mm) ls _ _ ⟨lv_sub hl [0, 1, 2, 3, 4] rfl, hP.sub [0, 1] rfl, hD.sub [0, 1] (by decide +kernel) rfl, hS, ⟨⟨(by (try dsimp only); omega), (by (try dsimp only); omega)⟩, (by (try dsimp only); rw [hk9, ez_6]; exact tot_y htot (by rw [hk8]; exact ez_2) (by rw [hk8]; exact ez_5) (show fitA al z_2 from by assumption))⟩⟩ (by (try dsimp only); omega)
    · refine lv_if_ne (tgt := 30) hx hb dX3_total_22 (by decide +kernel) (fun c9 => absurd c9 (by decide +kernel)) (fun _ => ?_)
      refine lv_aload_n hx hb dX3_total_25 rfl (lv_at hl 2 rfl) ?_
      refine lv_iconst (v := 1) hx hb dX3_total_26 (by decide +kernel) ?_
      refine va_put (D := D) (ci := 2) (v := .int 1) (ty := .boolean) (C := RX3) (T := TX3) (N := 7) hx hb hts in_X3_total_X3 tyX3 tyX3_ok nmX3 hown hE.1 hP hD hS 0 rfl rfl 5 (by decide +kernel) (hts (.fieldLink RX3 19 "ClauseBook$Falling" "much" "Z") (List.mem_of_getElem? (i := 2) rfl)) (fun _ h9 => h9) rfl (by decide +kernel) rfl rfl (Nat.le_of_ble_eq_true rfl) dX3_total_27 (fun H locs hP hD hS => ?_)
      obtain ⟨hP, hD⟩ := wPD [(h0, .inr (2, [w0, w1, w2, .ref on, .int dy, .int 1, .int pa])), (on, .inl (T 1, 7, .inr (.inl fo)))] hP hD rfl
      refine lv_lload_n hx hb dX3_total_30 rfl (lv_at hl 1 rfl) ?_
      refine lv_aload_n hx hb dX3_total_31 rfl (lv_at hl 2 rfl) ?_
      refine va_get (D := D) (ci := 2) (v := .ref on) (C := RX3) (T := TX3) (N := 7) hx hb hts in_X3_total_X3 hown hE.1 hP 0 rfl rfl 3 (by decide +kernel) (hts (.fieldLink RX3 9 "ClauseBook$Falling" "on" "[J") (List.mem_of_getElem? (i := 1) rfl)) (fun _ h9 => h9) rfl dX3_total_32 ?_
      refine lv_iload hx hb dX3_total_35 (lv_at hl 0 rfl) ?_
      refine va_lald hx hb hE.1 hP 1 1 rfl rfl (by rw [vp_in_iff]; first | omega | (subst_vars; omega)) dX3_total_37 ?_
      refine lv_topl (fun z_8 ez_8 => ?_)
      refine lv_ladd hx hb dX3_total_38 ?_
      refine lv_topl (fun z_9 ez_9 => ?_)
      refine lv_lstore_n (lv' := [(3, .long z_9), (5, .int tt), (0, .ref h0), (1, .int x1), (2, .int x2)]) hx hb dX3_total_39 rfl hl (by decide +kernel) rfl (fun ls hl => ?_)
      obtain ⟨z_10, ez_10⟩ : ∃ y : Int32, y = tt + 1 := ⟨_, rfl⟩
      refine lv_iinc (v := z_10) (lv' := [(5, .int z_10), (3, .long z_9), (0, .ref h0), (1, .int x1), (2, .int x2)]) hx hb dX3_total_40 hl (k := 1) rfl (by rw [ez_10]; rfl) (by decide +kernel) rfl (fun ls hl => ?_)
      refine lv_goto (tgt := 5) hx hb dX3_total_43 (by decide +kernel) ?_
      have hi9 : z_10.toInt = tt.toInt + 1 := by rw [ez_10]; exact inc1 (i := tt) (n := 1000) (by omega) (by decide +kernel)
      have ht7 := tn (x := tt) (by omega)
      have ht8 := tn (x := x1) (by omega)
      have ht9 := tn (x := z_10) (by omega)
      have hk9 : z_10.toNatClampNeg - x1.toNatClampNeg = (tt.toNatClampNeg - x1.toNatClampNeg) + 1 := by omega
      have hk8 : x1.toNatClampNeg + (tt.toNatClampNeg - x1.toNatClampNeg) = tt.toNatClampNeg := by omega
      exact ih (z_10, z_9, 1) ls _ _ ⟨lv_sub hl [0, 1, 2, 3, 4] rfl, hP.sub [0, 1] rfl, hD.sub [0, 1] (by decide +kernel) rfl, hS, ⟨⟨(by (try dsimp only); omega), (by (try dsimp only); omega)⟩, (by (try dsimp only); rw [hk9, ez_9]; exact tot_n htot (by rw [hk8]; exact ez_2) (by rw [hk8]; exact ez_8) (show ¬ fitA al z_2 from by assumption) (by decide +kernel))⟩⟩ (by (try dsimp only); omega)
end
