section SaMStep
variable {l : Launch} {D : va_G} {ca : Nat → ClassId}
theorem ol_fr {F : List Nat} {u u' : ab_S} (g : gP F u u') (h9 : ¬ 100 + 9 ∈ F) (k n : Nat) : ol u' k n = ol u k n := ol_congr n k (fun i _ _ => g.ai h9 rfl)
theorem d_MO_step_0 : decode b_MO_step 0 = .ok (.aload_n 0, 1) := by decide +kernel
theorem d_MO_step_1 : decode b_MO_step 1 = .ok (.getfield 57, 3) := by decide +kernel
theorem d_MO_step_4 : decode b_MO_step 4 = .ok (.iload_n 1, 1) := by decide +kernel
theorem d_MO_step_5 : decode b_MO_step 5 = .ok (.iaload, 1) := by decide +kernel
theorem d_MO_step_6 : decode b_MO_step 6 = .ok (.sipush 1000, 3) := by decide +kernel
theorem d_MO_step_9 : decode b_MO_step 9 = .ok (.idiv, 1) := by decide +kernel
theorem d_MO_step_10 : decode b_MO_step 10 = .ok (.istore 4, 2) := by decide +kernel
theorem d_MO_step_12 : decode b_MO_step 12 = .ok (.aload_n 0, 1) := by decide +kernel
theorem d_MO_step_13 : decode b_MO_step 13 = .ok (.getfield 57, 3) := by decide +kernel
theorem d_MO_step_16 : decode b_MO_step 16 = .ok (.iload_n 1, 1) := by decide +kernel
theorem d_MO_step_17 : decode b_MO_step 17 = .ok (.iaload, 1) := by decide +kernel
theorem d_MO_step_18 : decode b_MO_step 18 = .ok (.sipush 1000, 3) := by decide +kernel
theorem d_MO_step_21 : decode b_MO_step 21 = .ok (.irem, 1) := by decide +kernel
theorem d_MO_step_22 : decode b_MO_step 22 = .ok (.istore 5, 2) := by decide +kernel
theorem d_MO_step_24 : decode b_MO_step 24 = .ok (.iload 4, 2) := by decide +kernel
theorem d_MO_step_26 : decode b_MO_step 26 = .ok (.iconst 1, 1) := by decide +kernel
theorem d_MO_step_27 : decode b_MO_step 27 = .ok (.if_icmp .ne 46, 3) := by decide +kernel
theorem d_MO_step_30 : decode b_MO_step 30 = .ok (.aload_n 0, 1) := by decide +kernel
theorem d_MO_step_31 : decode b_MO_step 31 = .ok (.invokevirtual 294, 3) := by decide +kernel
theorem d_MO_step_34 : decode b_MO_step 34 = .ok (.istore 6, 2) := by decide +kernel
theorem d_MO_step_36 : decode b_MO_step 36 = .ok (.iload 6, 2) := by decide +kernel
theorem d_MO_step_38 : decode b_MO_step 38 = .ok (.ifCond .eq 18, 3) := by decide +kernel
theorem d_MO_step_41 : decode b_MO_step 41 = .ok (.iload 6, 2) := by decide +kernel
theorem d_MO_step_43 : decode b_MO_step 43 = .ok (.bipush 10, 2) := by decide +kernel
theorem d_MO_step_45 : decode b_MO_step 45 = .ok (.iload 5, 2) := by decide +kernel
theorem d_MO_step_47 : decode b_MO_step 47 = .ok (.iadd, 1) := by decide +kernel
theorem d_MO_step_48 : decode b_MO_step 48 = .ok (.if_icmp .eq 8, 3) := by decide +kernel
theorem d_MO_step_51 : decode b_MO_step 51 = .ok (.aload_n 0, 1) := by decide +kernel
theorem d_MO_step_52 : decode b_MO_step 52 = .ok (.iconst 1, 1) := by decide +kernel
theorem d_MO_step_53 : decode b_MO_step 53 = .ok (.putfield 132, 3) := by decide +kernel
theorem d_MO_step_56 : decode b_MO_step 56 = .ok (.aload_n 0, 1) := by decide +kernel
theorem d_MO_step_57 : decode b_MO_step 57 = .ok (.iload 6, 2) := by decide +kernel
theorem d_MO_step_59 : decode b_MO_step 59 = .ok (.ifCond .ne 7, 3) := by decide +kernel
theorem d_MO_step_62 : decode b_MO_step 62 = .ok (.iconst 0, 1) := by decide +kernel
theorem d_MO_step_63 : decode b_MO_step 63 = .ok (.goto 4, 3) := by decide +kernel
theorem d_MO_step_66 : decode b_MO_step 66 = .ok (.iconst 1, 1) := by decide +kernel
theorem d_MO_step_67 : decode b_MO_step 67 = .ok (.invokevirtual 301, 3) := by decide +kernel
theorem d_MO_step_70 : decode b_MO_step 70 = .ok (.goto 370, 3) := by decide +kernel
theorem d_MO_step_73 : decode b_MO_step 73 = .ok (.iload 4, 2) := by decide +kernel
theorem d_MO_step_75 : decode b_MO_step 75 = .ok (.iconst 2, 1) := by decide +kernel
theorem d_MO_step_76 : decode b_MO_step 76 = .ok (.if_icmp .ne 27, 3) := by decide +kernel
theorem d_MO_step_79 : decode b_MO_step 79 = .ok (.aload_n 0, 1) := by decide +kernel
theorem d_MO_step_80 : decode b_MO_step 80 = .ok (.aload_n 0, 1) := by decide +kernel
theorem d_MO_step_81 : decode b_MO_step 81 = .ok (.invokevirtual 294, 3) := by decide +kernel
theorem d_MO_step_84 : decode b_MO_step 84 = .ok (.bipush 20, 2) := by decide +kernel
theorem d_MO_step_86 : decode b_MO_step 86 = .ok (.iload 5, 2) := by decide +kernel
theorem d_MO_step_88 : decode b_MO_step 88 = .ok (.iadd, 1) := by decide +kernel
theorem d_MO_step_89 : decode b_MO_step 89 = .ok (.if_icmp .ne 7, 3) := by decide +kernel
theorem d_MO_step_92 : decode b_MO_step 92 = .ok (.iconst 1, 1) := by decide +kernel
theorem d_MO_step_93 : decode b_MO_step 93 = .ok (.goto 4, 3) := by decide +kernel
theorem d_MO_step_96 : decode b_MO_step 96 = .ok (.iconst 0, 1) := by decide +kernel
theorem d_MO_step_97 : decode b_MO_step 97 = .ok (.invokevirtual 301, 3) := by decide +kernel
theorem d_MO_step_100 : decode b_MO_step 100 = .ok (.goto 340, 3) := by decide +kernel
theorem d_MO_step_103 : decode b_MO_step 103 = .ok (.iload 4, 2) := by decide +kernel
theorem d_MO_step_105 : decode b_MO_step 105 = .ok (.iconst 3, 1) := by decide +kernel
theorem d_MO_step_106 : decode b_MO_step 106 = .ok (.if_icmp .eq 9, 3) := by decide +kernel
theorem d_MO_step_109 : decode b_MO_step 109 = .ok (.iload 4, 2) := by decide +kernel
theorem d_MO_step_111 : decode b_MO_step 111 = .ok (.iconst 4, 1) := by decide +kernel
theorem d_MO_step_112 : decode b_MO_step 112 = .ok (.if_icmp .ne 32, 3) := by decide +kernel
theorem d_MO_step_115 : decode b_MO_step 115 = .ok (.iload 4, 2) := by decide +kernel
theorem d_MO_step_117 : decode b_MO_step 117 = .ok (.iconst 3, 1) := by decide +kernel
theorem d_MO_step_118 : decode b_MO_step 118 = .ok (.if_icmp .ne 7, 3) := by decide +kernel
theorem d_MO_step_121 : decode b_MO_step 121 = .ok (.iload_n 2, 1) := by decide +kernel
theorem d_MO_step_122 : decode b_MO_step 122 = .ok (.goto 4, 3) := by decide +kernel
theorem d_MO_step_125 : decode b_MO_step 125 = .ok (.iload_n 3, 1) := by decide +kernel
theorem d_MO_step_126 : decode b_MO_step 126 = .ok (.iload 5, 2) := by decide +kernel
theorem d_MO_step_128 : decode b_MO_step 128 = .ok (.if_icmp .ge 8, 3) := by decide +kernel
theorem d_MO_step_131 : decode b_MO_step 131 = .ok (.aload_n 0, 1) := by decide +kernel
theorem d_MO_step_132 : decode b_MO_step 132 = .ok (.iconst 1, 1) := by decide +kernel
theorem d_MO_step_133 : decode b_MO_step 133 = .ok (.putfield 132, 3) := by decide +kernel
theorem d_MO_step_136 : decode b_MO_step 136 = .ok (.aload_n 0, 1) := by decide +kernel
theorem d_MO_step_137 : decode b_MO_step 137 = .ok (.iconst 1, 1) := by decide +kernel
theorem d_MO_step_138 : decode b_MO_step 138 = .ok (.invokevirtual 301, 3) := by decide +kernel
theorem d_MO_step_141 : decode b_MO_step 141 = .ok (.goto 299, 3) := by decide +kernel
theorem d_MO_step_144 : decode b_MO_step 144 = .ok (.iload 4, 2) := by decide +kernel
theorem d_MO_step_146 : decode b_MO_step 146 = .ok (.iconst 5, 1) := by decide +kernel
theorem d_MO_step_147 : decode b_MO_step 147 = .ok (.if_icmp .ne 18, 3) := by decide +kernel
theorem d_MO_step_150 : decode b_MO_step 150 = .ok (.aload_n 0, 1) := by decide +kernel
theorem d_MO_step_151 : decode b_MO_step 151 = .ok (.invokevirtual 298, 3) := by decide +kernel
theorem d_MO_step_154 : decode b_MO_step 154 = .ok (.ifCond .ne 286, 3) := by decide +kernel
theorem d_MO_step_157 : decode b_MO_step 157 = .ok (.aload_n 0, 1) := by decide +kernel
theorem d_MO_step_158 : decode b_MO_step 158 = .ok (.iconst 1, 1) := by decide +kernel
theorem d_MO_step_159 : decode b_MO_step 159 = .ok (.putfield 132, 3) := by decide +kernel
theorem d_MO_step_162 : decode b_MO_step 162 = .ok (.goto 278, 3) := by decide +kernel
theorem d_MO_step_165 : decode b_MO_step 165 = .ok (.iload 4, 2) := by decide +kernel
theorem d_MO_step_167 : decode b_MO_step 167 = .ok (.bipush 9, 2) := by decide +kernel
theorem d_MO_step_169 : decode b_MO_step 169 = .ok (.if_icmp .ge 12, 3) := by decide +kernel
theorem d_MO_step_172 : decode b_MO_step 172 = .ok (.aload_n 0, 1) := by decide +kernel
theorem d_MO_step_173 : decode b_MO_step 173 = .ok (.iload 4, 2) := by decide +kernel
theorem d_MO_step_175 : decode b_MO_step 175 = .ok (.invokevirtual 304, 3) := by decide +kernel
theorem d_MO_step_178 : decode b_MO_step 178 = .ok (.goto 262, 3) := by decide +kernel
theorem d_MO_step_181 : decode b_MO_step 181 = .ok (.iload 4, 2) := by decide +kernel
theorem d_MO_step_183 : decode b_MO_step 183 = .ok (.bipush 9, 2) := by decide +kernel
theorem d_MO_step_185 : decode b_MO_step 185 = .ok (.if_icmp .ne 24, 3) := by decide +kernel
theorem d_MO_step_188 : decode b_MO_step 188 = .ok (.aload_n 0, 1) := by decide +kernel
theorem d_MO_step_189 : decode b_MO_step 189 = .ok (.aload_n 0, 1) := by decide +kernel
theorem d_MO_step_190 : decode b_MO_step 190 = .ok (.invokevirtual 298, 3) := by decide +kernel
theorem d_MO_step_193 : decode b_MO_step 193 = .ok (.iload 5, 2) := by decide +kernel
theorem d_MO_step_195 : decode b_MO_step 195 = .ok (.if_icmp .ne 7, 3) := by decide +kernel
theorem d_MO_step_198 : decode b_MO_step 198 = .ok (.iconst 1, 1) := by decide +kernel
theorem d_MO_step_199 : decode b_MO_step 199 = .ok (.goto 4, 3) := by decide +kernel
theorem d_MO_step_202 : decode b_MO_step 202 = .ok (.iconst 0, 1) := by decide +kernel
theorem d_MO_step_203 : decode b_MO_step 203 = .ok (.invokevirtual 301, 3) := by decide +kernel
theorem d_MO_step_206 : decode b_MO_step 206 = .ok (.goto 234, 3) := by decide +kernel
theorem d_MO_step_209 : decode b_MO_step 209 = .ok (.iload 4, 2) := by decide +kernel
theorem d_MO_step_211 : decode b_MO_step 211 = .ok (.bipush 10, 2) := by decide +kernel
theorem d_MO_step_213 : decode b_MO_step 213 = .ok (.if_icmp .ne 29, 3) := by decide +kernel
theorem d_MO_step_216 : decode b_MO_step 216 = .ok (.aload_n 0, 1) := by decide +kernel
theorem d_MO_step_217 : decode b_MO_step 217 = .ok (.getfield 120, 3) := by decide +kernel
theorem d_MO_step_220 : decode b_MO_step 220 = .ok (.aload_n 0, 1) := by decide +kernel
theorem d_MO_step_221 : decode b_MO_step 221 = .ok (.getfield 123, 3) := by decide +kernel
theorem d_MO_step_224 : decode b_MO_step 224 = .ok (.aload_n 0, 1) := by decide +kernel
theorem d_MO_step_225 : decode b_MO_step 225 = .ok (.invokevirtual 294, 3) := by decide +kernel
theorem d_MO_step_228 : decode b_MO_step 228 = .ok (.iastore, 1) := by decide +kernel
theorem d_MO_step_229 : decode b_MO_step 229 = .ok (.aload_n 0, 1) := by decide +kernel
theorem d_MO_step_230 : decode b_MO_step 230 = .ok (.dup, 1) := by decide +kernel
theorem d_MO_step_231 : decode b_MO_step 231 = .ok (.getfield 123, 3) := by decide +kernel
theorem d_MO_step_234 : decode b_MO_step 234 = .ok (.iconst 1, 1) := by decide +kernel
theorem d_MO_step_235 : decode b_MO_step 235 = .ok (.iadd, 1) := by decide +kernel
theorem d_MO_step_236 : decode b_MO_step 236 = .ok (.putfield 123, 3) := by decide +kernel
theorem d_MO_step_239 : decode b_MO_step 239 = .ok (.goto 201, 3) := by decide +kernel
theorem d_MO_step_242 : decode b_MO_step 242 = .ok (.iload 4, 2) := by decide +kernel
theorem d_MO_step_244 : decode b_MO_step 244 = .ok (.bipush 11, 2) := by decide +kernel
theorem d_MO_step_246 : decode b_MO_step 246 = .ok (.if_icmp .ne 44, 3) := by decide +kernel
theorem d_MO_step_249 : decode b_MO_step 249 = .ok (.aload_n 0, 1) := by decide +kernel
theorem d_MO_step_250 : decode b_MO_step 250 = .ok (.getfield 123, 3) := by decide +kernel
theorem d_MO_step_253 : decode b_MO_step 253 = .ok (.ifCond .ne 11, 3) := by decide +kernel
theorem d_MO_step_256 : decode b_MO_step 256 = .ok (.aload_n 0, 1) := by decide +kernel
theorem d_MO_step_257 : decode b_MO_step 257 = .ok (.iconst 1, 1) := by decide +kernel
theorem d_MO_step_258 : decode b_MO_step 258 = .ok (.putfield 132, 3) := by decide +kernel
theorem d_MO_step_261 : decode b_MO_step 261 = .ok (.goto 179, 3) := by decide +kernel
theorem d_MO_step_264 : decode b_MO_step 264 = .ok (.aload_n 0, 1) := by decide +kernel
theorem d_MO_step_265 : decode b_MO_step 265 = .ok (.dup, 1) := by decide +kernel
theorem d_MO_step_266 : decode b_MO_step 266 = .ok (.getfield 123, 3) := by decide +kernel
theorem d_MO_step_269 : decode b_MO_step 269 = .ok (.iconst 1, 1) := by decide +kernel
theorem d_MO_step_270 : decode b_MO_step 270 = .ok (.isub, 1) := by decide +kernel
theorem d_MO_step_271 : decode b_MO_step 271 = .ok (.putfield 123, 3) := by decide +kernel
theorem d_MO_step_274 : decode b_MO_step 274 = .ok (.aload_n 0, 1) := by decide +kernel
theorem d_MO_step_275 : decode b_MO_step 275 = .ok (.aload_n 0, 1) := by decide +kernel
theorem d_MO_step_276 : decode b_MO_step 276 = .ok (.getfield 120, 3) := by decide +kernel
theorem d_MO_step_279 : decode b_MO_step 279 = .ok (.aload_n 0, 1) := by decide +kernel
theorem d_MO_step_280 : decode b_MO_step 280 = .ok (.getfield 123, 3) := by decide +kernel
theorem d_MO_step_283 : decode b_MO_step 283 = .ok (.iaload, 1) := by decide +kernel
theorem d_MO_step_284 : decode b_MO_step 284 = .ok (.invokevirtual 301, 3) := by decide +kernel
theorem d_MO_step_287 : decode b_MO_step 287 = .ok (.goto 153, 3) := by decide +kernel
theorem d_MO_step_290 : decode b_MO_step 290 = .ok (.iload 4, 2) := by decide +kernel
theorem d_MO_step_292 : decode b_MO_step 292 = .ok (.bipush 12, 2) := by decide +kernel
theorem d_MO_step_294 : decode b_MO_step 294 = .ok (.if_icmp .ne 51, 3) := by decide +kernel
theorem d_MO_step_297 : decode b_MO_step 297 = .ok (.aload_n 0, 1) := by decide +kernel
theorem d_MO_step_298 : decode b_MO_step 298 = .ok (.invokevirtual 294, 3) := by decide +kernel
theorem d_MO_step_301 : decode b_MO_step 301 = .ok (.istore 6, 2) := by decide +kernel
theorem d_MO_step_303 : decode b_MO_step 303 = .ok (.iload 6, 2) := by decide +kernel
theorem d_MO_step_305 : decode b_MO_step 305 = .ok (.iconst 1, 1) := by decide +kernel
theorem d_MO_step_306 : decode b_MO_step 306 = .ok (.if_icmp .le 8, 3) := by decide +kernel
theorem d_MO_step_309 : decode b_MO_step 309 = .ok (.aload_n 0, 1) := by decide +kernel
theorem d_MO_step_310 : decode b_MO_step 310 = .ok (.iconst 1, 1) := by decide +kernel
theorem d_MO_step_311 : decode b_MO_step 311 = .ok (.putfield 132, 3) := by decide +kernel
theorem d_MO_step_314 : decode b_MO_step 314 = .ok (.iload 6, 2) := by decide +kernel
theorem d_MO_step_316 : decode b_MO_step 316 = .ok (.iconst 1, 1) := by decide +kernel
theorem d_MO_step_317 : decode b_MO_step 317 = .ok (.if_icmp .ne 9, 3) := by decide +kernel
theorem d_MO_step_320 : decode b_MO_step 320 = .ok (.iload_n 1, 1) := by decide +kernel
theorem d_MO_step_321 : decode b_MO_step 321 = .ok (.iconst 1, 1) := by decide +kernel
theorem d_MO_step_322 : decode b_MO_step 322 = .ok (.iadd, 1) := by decide +kernel
theorem d_MO_step_323 : decode b_MO_step 323 = .ok (.goto 21, 3) := by decide +kernel
theorem d_MO_step_326 : decode b_MO_step 326 = .ok (.aload_n 0, 1) := by decide +kernel
theorem d_MO_step_327 : decode b_MO_step 327 = .ok (.getfield 132, 3) := by decide +kernel
theorem d_MO_step_330 : decode b_MO_step 330 = .ok (.ifCond .eq 7, 3) := by decide +kernel
theorem d_MO_step_333 : decode b_MO_step 333 = .ok (.iload_n 1, 1) := by decide +kernel
theorem d_MO_step_334 : decode b_MO_step 334 = .ok (.goto 10, 3) := by decide +kernel
theorem d_MO_step_337 : decode b_MO_step 337 = .ok (.aload_n 0, 1) := by decide +kernel
theorem d_MO_step_338 : decode b_MO_step 338 = .ok (.iload_n 1, 1) := by decide +kernel
theorem d_MO_step_339 : decode b_MO_step 339 = .ok (.bipush 13, 2) := by decide +kernel
theorem d_MO_step_341 : decode b_MO_step 341 = .ok (.invokevirtual 307, 3) := by decide +kernel
theorem d_MO_step_344 : decode b_MO_step 344 = .ok (.ireturn, 1) := by decide +kernel
theorem d_MO_step_345 : decode b_MO_step 345 = .ok (.iload 4, 2) := by decide +kernel
theorem d_MO_step_347 : decode b_MO_step 347 = .ok (.bipush 13, 2) := by decide +kernel
theorem d_MO_step_349 : decode b_MO_step 349 = .ok (.if_icmp .ne 11, 3) := by decide +kernel
theorem d_MO_step_352 : decode b_MO_step 352 = .ok (.aload_n 0, 1) := by decide +kernel
theorem d_MO_step_353 : decode b_MO_step 353 = .ok (.iload_n 1, 1) := by decide +kernel
theorem d_MO_step_354 : decode b_MO_step 354 = .ok (.bipush 14, 2) := by decide +kernel
theorem d_MO_step_356 : decode b_MO_step 356 = .ok (.invokevirtual 307, 3) := by decide +kernel
theorem d_MO_step_359 : decode b_MO_step 359 = .ok (.ireturn, 1) := by decide +kernel
theorem d_MO_step_360 : decode b_MO_step 360 = .ok (.iload 4, 2) := by decide +kernel
theorem d_MO_step_362 : decode b_MO_step 362 = .ok (.bipush 15, 2) := by decide +kernel
theorem d_MO_step_364 : decode b_MO_step 364 = .ok (.if_icmp .ne 24, 3) := by decide +kernel
theorem d_MO_step_367 : decode b_MO_step 367 = .ok (.aload_n 0, 1) := by decide +kernel
theorem d_MO_step_368 : decode b_MO_step 368 = .ok (.invokevirtual 298, 3) := by decide +kernel
theorem d_MO_step_371 : decode b_MO_step 371 = .ok (.ifCond .eq 13, 3) := by decide +kernel
theorem d_MO_step_374 : decode b_MO_step 374 = .ok (.aload_n 0, 1) := by decide +kernel
theorem d_MO_step_375 : decode b_MO_step 375 = .ok (.iload_n 1, 1) := by decide +kernel
theorem d_MO_step_376 : decode b_MO_step 376 = .ok (.bipush 14, 2) := by decide +kernel
theorem d_MO_step_378 : decode b_MO_step 378 = .ok (.invokevirtual 307, 3) := by decide +kernel
theorem d_MO_step_381 : decode b_MO_step 381 = .ok (.goto 6, 3) := by decide +kernel
theorem d_MO_step_384 : decode b_MO_step 384 = .ok (.iload_n 1, 1) := by decide +kernel
theorem d_MO_step_385 : decode b_MO_step 385 = .ok (.iconst 1, 1) := by decide +kernel
theorem d_MO_step_386 : decode b_MO_step 386 = .ok (.iadd, 1) := by decide +kernel
theorem d_MO_step_387 : decode b_MO_step 387 = .ok (.ireturn, 1) := by decide +kernel
theorem d_MO_step_388 : decode b_MO_step 388 = .ok (.iload 4, 2) := by decide +kernel
theorem d_MO_step_390 : decode b_MO_step 390 = .ok (.bipush 16, 2) := by decide +kernel
theorem d_MO_step_392 : decode b_MO_step 392 = .ok (.if_icmp .ne 36, 3) := by decide +kernel
theorem d_MO_step_395 : decode b_MO_step 395 = .ok (.aload_n 0, 1) := by decide +kernel
theorem d_MO_step_396 : decode b_MO_step 396 = .ok (.invokevirtual 298, 3) := by decide +kernel
theorem d_MO_step_399 : decode b_MO_step 399 = .ok (.istore 6, 2) := by decide +kernel
theorem d_MO_step_401 : decode b_MO_step 401 = .ok (.aload_n 0, 1) := by decide +kernel
theorem d_MO_step_402 : decode b_MO_step 402 = .ok (.getfield 132, 3) := by decide +kernel
theorem d_MO_step_405 : decode b_MO_step 405 = .ok (.ifCond .ne 9, 3) := by decide +kernel
theorem d_MO_step_408 : decode b_MO_step 408 = .ok (.aload_n 0, 1) := by decide +kernel
theorem d_MO_step_409 : decode b_MO_step 409 = .ok (.iload 6, 2) := by decide +kernel
theorem d_MO_step_411 : decode b_MO_step 411 = .ok (.invokevirtual 301, 3) := by decide +kernel
theorem d_MO_step_414 : decode b_MO_step 414 = .ok (.iload 6, 2) := by decide +kernel
theorem d_MO_step_416 : decode b_MO_step 416 = .ok (.ifCond .eq 9, 3) := by decide +kernel
theorem d_MO_step_419 : decode b_MO_step 419 = .ok (.aload_n 0, 1) := by decide +kernel
theorem d_MO_step_420 : decode b_MO_step 420 = .ok (.iload 6, 2) := by decide +kernel
theorem d_MO_step_422 : decode b_MO_step 422 = .ok (.invokevirtual 301, 3) := by decide +kernel
theorem d_MO_step_425 : decode b_MO_step 425 = .ok (.goto 15, 3) := by decide +kernel
theorem d_MO_step_428 : decode b_MO_step 428 = .ok (.iload 4, 2) := by decide +kernel
theorem d_MO_step_430 : decode b_MO_step 430 = .ok (.bipush 17, 2) := by decide +kernel
theorem d_MO_step_432 : decode b_MO_step 432 = .ok (.if_icmp .ne 8, 3) := by decide +kernel
theorem d_MO_step_435 : decode b_MO_step 435 = .ok (.aload_n 0, 1) := by decide +kernel
theorem d_MO_step_436 : decode b_MO_step 436 = .ok (.iconst 0, 1) := by decide +kernel
theorem d_MO_step_437 : decode b_MO_step 437 = .ok (.invokevirtual 301, 3) := by decide +kernel
theorem d_MO_step_440 : decode b_MO_step 440 = .ok (.iload_n 1, 1) := by decide +kernel
theorem d_MO_step_441 : decode b_MO_step 441 = .ok (.iconst 1, 1) := by decide +kernel
theorem d_MO_step_442 : decode b_MO_step 442 = .ok (.iadd, 1) := by decide +kernel
theorem d_MO_step_443 : decode b_MO_step 443 = .ok (.ireturn, 1) := by decide +kernel
theorem lk_MO_304 : ab_lk "PolicyForgeModel" 304 y_MO_join b_MO_join 4 none 1 17 := ⟨⟨rfl, T_MO, 44, rfl⟩, List.forall_mem_cons.mpr ⟨(ab_in 1309 (by decide +kernel) (by decide +kernel)), List.forall_mem_cons.mpr ⟨(ab_in 1311 (by decide +kernel) (by decide +kernel)), List.forall_mem_cons.mpr ⟨(ab_in 89 (by decide +kernel) (by decide +kernel)), List.forall_mem_cons.mpr ⟨(ab_in 100 (by decide +kernel) (by decide +kernel)), List.forall_mem_cons.mpr ⟨(ab_in 1312 (by decide +kernel) (by decide +kernel)), fun _ h => absurd h List.not_mem_nil⟩⟩⟩⟩⟩, ⟨by decide +kernel, by decide +kernel, by decide +kernel⟩, by decide⟩
theorem fl_MO_120 : ab_fl "PolicyForgeModel" 120 17 36 1 := ⟨rfl, R_MO, T_MO, 44, rfl, uw_MO, by decide, rfl, (ab_in 962 (by decide +kernel) (by decide +kernel))⟩
theorem lk_MO_307 : ab_lk "PolicyForgeModel" 307 y_MO_behind b_MO_behind 6 (some FieldType.int) 2 17 := ⟨⟨rfl, T_MO, 44, rfl⟩, List.forall_mem_cons.mpr ⟨(ab_in 1313 (by decide +kernel) (by decide +kernel)), List.forall_mem_cons.mpr ⟨(ab_in 1315 (by decide +kernel) (by decide +kernel)), List.forall_mem_cons.mpr ⟨(ab_in 90 (by decide +kernel) (by decide +kernel)), List.forall_mem_cons.mpr ⟨(ab_in 100 (by decide +kernel) (by decide +kernel)), List.forall_mem_cons.mpr ⟨(ab_in 1316 (by decide +kernel) (by decide +kernel)), fun _ h => absurd h List.not_mem_nil⟩⟩⟩⟩⟩, ⟨by decide +kernel, by decide +kernel, by decide +kernel⟩, by decide⟩
set_option maxRecDepth 100000 in
set_option maxHeartbeats 4000000 in
theorem s_MO_step (u : ab_S) (i n t z : Nat) (hh aa : Int32) (h : mR u.2.1) (hi : i < n) (hn : n ≤ 100) (ht : t < 128) (et : u.1 17 0 35 = nI t) (hz : z < 64) (ez : u.1 17 0 37 = nI z) (s0 : List Nat) (hb : rl (ol u i (n - i)) s0 = some []) : ab_C false l D ca y_MO_step b_MO_step 7 (some FieldType.int) 3 ab_nQ u [ab_O 17 0, ab_I (nI i), ab_I hh, ab_I aa] (fun u' v => (gP [35, 37, 40, 118, 119] u u' ∧ (∃ t', t' ≤ t + 1 ∧  u'.1 17 0 35 = nI t') ∧ (∃ z', z' ≤ z + (if opv u i = 10 then 1 else 0) ∧  u'.1 17 0 37 = nI z')) ∧ ∃ a, ((i < a ∧ a ≤ n) ∨ (a = i ∧ ¬ u'.1 17 0 40 = 0)) ∧ v = some (ab_I (nI a))) := by
  refine ab_C.of (by decide) (Nat.le_of_ble_eq_true rfl) ?_
  intro p e s m args below meth c ad X hZ hr0 hlk
  have P0 : gP [35, 40, 118] u u := gP.rf h
  have hst : (st1 (opv u i) s0).bind (rl (ol u (i + 1) (n - (i + 1)))) = some [] := by
    rw [show n - i = (n - (i + 1)) + 1 by omega] at hb
    exact hb
  have K440 : ∀ u1, gP [35, 37, 40, 118, 119] u u1 → (∃ t', t' ≤ t + 1 ∧  u1.1 17 0 35 = nI t') → (∃ z', z' ≤ z + (if opv u i = 10 then 1 else 0) ∧  u1.1 17 0 37 = nI z') → ab_J p l e (ab_rm 3 0 0) s m args below meth c (MQ below (ab_Q D ca ad ab_nQ s.heap.size (fun u' v => (gP [35, 37, 40, 118, 119] u u' ∧ (∃ t', t' ≤ t + 1 ∧  u'.1 17 0 35 = nI t') ∧ (∃ z', z' ≤ z + (if opv u i = 10 then 1 else 0) ∧  u'.1 17 0 37 = nI z')) ∧ ∃ a, ((i < a ∧ a ≤ n) ∨ (a = i ∧ ¬ u'.1 17 0 40 = 0)) ∧ v = some (ab_I (nI a)))) args s 0 0 (ab_A ad ab_nQ s.heap.size)) D ca (ab_A ad ab_nQ s.heap.size) s.heap 7 0 0 ad ab_nQ u1 440 [(1, ab_I (nI i)), (0, ab_O 17 0)] [] := by
    intro u1 P1 a1 a2
    refine ab_iload_n X 0 d_MO_step_440 rfl rfl ?_
    refine ab_iconst (v := 1) X d_MO_step_441 (by decide) ?_
    refine ab_iadd X d_MO_step_442 ?_
    refine ab_top (nI_1 _) ?_
    exact ab_reti X hr0 hlk d_MO_step_443 ⟨⟨P1, a1, a2⟩, i + 1, Or.inl ⟨by omega, by omega⟩, rfl⟩
  refine ab_aload_n X 0 d_MO_step_0 rfl rfl ?_
  refine ab_gR X fl_MO_57 d_MO_step_1 (by first | assumption | decide | (show _ < 124; omega) | (show _ < 61; omega) | (show _ < 20; omega)) (P0.1.mo15) ?_
  refine ab_iload_n X 1 d_MO_step_4 rfl rfl ?_
  refine ab_iald X (i) ⟨rfl, rfl⟩ d_MO_step_5 (by first | assumption | decide | (show _ < 124; omega) | (show _ < 61; omega) | (show _ < 20; omega)) (rfl) (show i < 7200 by omega) (ab_ln_lt _ _) ?_
  refine ab_sipush (v := 1000) X d_MO_step_6 (by decide) ?_
  refine ab_idiv X d_MO_step_9 (by decide) ?_
  refine ab_istore4 X 0 1 2 3 d_MO_step_10 (by decide) rfl rfl rfl rfl rfl rfl rfl rfl ?_
  refine ab_aload_n X 1 d_MO_step_12 rfl rfl ?_
  refine ab_gR X fl_MO_57 d_MO_step_13 (by first | assumption | decide | (show _ < 124; omega) | (show _ < 61; omega) | (show _ < 20; omega)) (P0.1.mo15) ?_
  refine ab_iload_n X 2 d_MO_step_16 rfl rfl ?_
  refine ab_iald X (i) ⟨rfl, rfl⟩ d_MO_step_17 (by first | assumption | decide | (show _ < 124; omega) | (show _ < 61; omega) | (show _ < 20; omega)) (rfl) (show i < 7200 by omega) (ab_ln_lt _ _) ?_
  refine ab_sipush (v := 1000) X d_MO_step_18 (by decide) ?_
  refine ab_irem X d_MO_step_21 (by decide) ?_
  refine ab_istore5 X 0 1 2 3 4 d_MO_step_22 (by decide) rfl rfl rfl rfl rfl rfl rfl rfl rfl rfl ?_
  refine ab_iload X 1 d_MO_step_24 rfl ?_
  refine ab_iconst (v := 1) X d_MO_step_26 (by decide) ?_
  refine ab_icmp_ne X 73 d_MO_step_27 rfl (fun h27 => ?_) (fun h27 => ?_)
  ·
    refine ab_iload X 1 d_MO_step_73 rfl ?_
    refine ab_iconst (v := 2) X d_MO_step_75 (by decide) ?_
    refine ab_icmp_ne X 103 d_MO_step_76 rfl (fun h76 => ?_) (fun h76 => ?_)
    ·
      refine ab_iload X 1 d_MO_step_103 rfl ?_
      refine ab_iconst (v := 3) X d_MO_step_105 (by decide) ?_
      refine ab_icmp_eq X 115 d_MO_step_106 rfl (fun h106 => ?_) (fun h106 => ?_)
      ·
        refine ab_iload X 1 d_MO_step_115 rfl ?_
        refine ab_iconst (v := 3) X d_MO_step_117 (by decide) ?_
        refine ab_icmp_ne X 125 d_MO_step_118 rfl (fun h118 => ?_) (fun h118 => ?_)
        ·
          refine ab_iload_n X 5 d_MO_step_125 rfl rfl ?_
          refine ab_iload X 0 d_MO_step_126 rfl ?_
          refine ab_icmp_ge X 136 d_MO_step_128 rfl (fun h128 => ?_) (fun h128 => ?_)
          ·
            refine ab_aload_n X 2 d_MO_step_136 rfl rfl ?_
            refine ab_iconst (v := 1) X d_MO_step_137 (by decide) ?_
            refine ab_callV (as := [ab_I 1]) X (fun h => by cases h) (s_MO_putOn u 1 t P0.1 (by omega) (by first | exact et | (rw [e133]; simpa [ab_up] using et))) lk_MO_301 d_MO_step_138 rfl rfl (by first | assumption | decide | (show _ < 124; omega) | (show _ < 61; omega) | (show _ < 20; omega)) ⟨by first | exact Nat.le_of_ble_eq_true rfl | (simp only [ab_rm]; omega), by first | exact Nat.le_of_ble_eq_true rfl | (simp only [ab_rm]; omega)⟩ ⟨by first | exact Nat.le_of_ble_eq_true rfl | (simp only [ab_rm]; omega), by first | exact Nat.le_of_ble_eq_true rfl | (simp only [ab_rm]; omega)⟩ (Nat.le_of_ble_eq_true rfl) (fun u138 r138 h138 => ?_)
            obtain ⟨⟨q138, a138⟩, rfl⟩ := h138
            have P138 := P0.trans q138 (by decide)
            have hH : (∃ t', t' ≤ t + 1 ∧  u138.1 17 0 35 = nI t') := ⟨_, by omega, a138⟩
            refine ab_goto X 440 d_MO_step_141 rfl ?_
            refine ab_lv (List.forall_mem_cons.mpr ⟨List.mem_of_getElem? (i := 3) rfl, List.forall_mem_cons.mpr ⟨List.mem_of_getElem? (i := 2) rfl, fun _ h => absurd h List.not_mem_nil⟩⟩) ?_
            first | exact K440 _ (P138.wk (by decide)) hH ⟨z, Nat.le_add_right _ _, P138.fi (by decide) ez⟩ | exact K440 _ (P138.wk (by decide)) hH hZ2
          ·
            refine ab_aload_n X 2 d_MO_step_131 rfl rfl ?_
            refine ab_iconst (v := 1) X d_MO_step_132 (by decide) ?_
            refine ab_putI X fp_MO_132 d_MO_step_133 (by first | assumption | decide | (show _ < 124; omega) | (show _ < 61; omega) | (show _ < 20; omega)) rfl rfl ?_
            refine ab_gen (fun u133 e133 => ?_)
            have P133 : gP [35, 40, 118] u u133 := by rw [e133]; exact P0.ui rfl (by decide)
            refine ab_aload_n X 2 d_MO_step_136 rfl rfl ?_
            refine ab_iconst (v := 1) X d_MO_step_137 (by decide) ?_
            refine ab_callV (as := [ab_I 1]) X (fun h => by cases h) (s_MO_putOn u133 1 t P133.1 (by omega) (by first | exact et | (rw [e133]; simpa [ab_up] using et))) lk_MO_301 d_MO_step_138 rfl rfl (by first | assumption | decide | (show _ < 124; omega) | (show _ < 61; omega) | (show _ < 20; omega)) ⟨by first | exact Nat.le_of_ble_eq_true rfl | (simp only [ab_rm]; omega), by first | exact Nat.le_of_ble_eq_true rfl | (simp only [ab_rm]; omega)⟩ ⟨by first | exact Nat.le_of_ble_eq_true rfl | (simp only [ab_rm]; omega), by first | exact Nat.le_of_ble_eq_true rfl | (simp only [ab_rm]; omega)⟩ (Nat.le_of_ble_eq_true rfl) (fun u138 r138 h138 => ?_)
            obtain ⟨⟨q138, a138⟩, rfl⟩ := h138
            have P138 := P133.trans q138 (by decide)
            have hH : (∃ t', t' ≤ t + 1 ∧  u138.1 17 0 35 = nI t') := ⟨_, by omega, a138⟩
            refine ab_goto X 440 d_MO_step_141 rfl ?_
            refine ab_lv (List.forall_mem_cons.mpr ⟨List.mem_of_getElem? (i := 3) rfl, List.forall_mem_cons.mpr ⟨List.mem_of_getElem? (i := 2) rfl, fun _ h => absurd h List.not_mem_nil⟩⟩) ?_
            first | exact K440 _ (P138.wk (by decide)) hH ⟨z, Nat.le_add_right _ _, P138.fi (by decide) ez⟩ | exact K440 _ (P138.wk (by decide)) hH hZ2
        ·
          refine ab_iload_n X 4 d_MO_step_121 rfl rfl ?_
          refine ab_goto X 126 d_MO_step_122 rfl ?_
          refine ab_iload X 0 d_MO_step_126 rfl ?_
          refine ab_icmp_ge X 136 d_MO_step_128 rfl (fun h128 => ?_) (fun h128 => ?_)
          ·
            refine ab_aload_n X 2 d_MO_step_136 rfl rfl ?_
            refine ab_iconst (v := 1) X d_MO_step_137 (by decide) ?_
            refine ab_callV (as := [ab_I 1]) X (fun h => by cases h) (s_MO_putOn u 1 t P0.1 (by omega) (by first | exact et | (rw [e133]; simpa [ab_up] using et))) lk_MO_301 d_MO_step_138 rfl rfl (by first | assumption | decide | (show _ < 124; omega) | (show _ < 61; omega) | (show _ < 20; omega)) ⟨by first | exact Nat.le_of_ble_eq_true rfl | (simp only [ab_rm]; omega), by first | exact Nat.le_of_ble_eq_true rfl | (simp only [ab_rm]; omega)⟩ ⟨by first | exact Nat.le_of_ble_eq_true rfl | (simp only [ab_rm]; omega), by first | exact Nat.le_of_ble_eq_true rfl | (simp only [ab_rm]; omega)⟩ (Nat.le_of_ble_eq_true rfl) (fun u138 r138 h138 => ?_)
            obtain ⟨⟨q138, a138⟩, rfl⟩ := h138
            have P138 := P0.trans q138 (by decide)
            have hH : (∃ t', t' ≤ t + 1 ∧  u138.1 17 0 35 = nI t') := ⟨_, by omega, a138⟩
            refine ab_goto X 440 d_MO_step_141 rfl ?_
            refine ab_lv (List.forall_mem_cons.mpr ⟨List.mem_of_getElem? (i := 3) rfl, List.forall_mem_cons.mpr ⟨List.mem_of_getElem? (i := 2) rfl, fun _ h => absurd h List.not_mem_nil⟩⟩) ?_
            first | exact K440 _ (P138.wk (by decide)) hH ⟨z, Nat.le_add_right _ _, P138.fi (by decide) ez⟩ | exact K440 _ (P138.wk (by decide)) hH hZ2
          ·
            refine ab_aload_n X 2 d_MO_step_131 rfl rfl ?_
            refine ab_iconst (v := 1) X d_MO_step_132 (by decide) ?_
            refine ab_putI X fp_MO_132 d_MO_step_133 (by first | assumption | decide | (show _ < 124; omega) | (show _ < 61; omega) | (show _ < 20; omega)) rfl rfl ?_
            refine ab_gen (fun u133 e133 => ?_)
            have P133 : gP [35, 40, 118] u u133 := by rw [e133]; exact P0.ui rfl (by decide)
            refine ab_aload_n X 2 d_MO_step_136 rfl rfl ?_
            refine ab_iconst (v := 1) X d_MO_step_137 (by decide) ?_
            refine ab_callV (as := [ab_I 1]) X (fun h => by cases h) (s_MO_putOn u133 1 t P133.1 (by omega) (by first | exact et | (rw [e133]; simpa [ab_up] using et))) lk_MO_301 d_MO_step_138 rfl rfl (by first | assumption | decide | (show _ < 124; omega) | (show _ < 61; omega) | (show _ < 20; omega)) ⟨by first | exact Nat.le_of_ble_eq_true rfl | (simp only [ab_rm]; omega), by first | exact Nat.le_of_ble_eq_true rfl | (simp only [ab_rm]; omega)⟩ ⟨by first | exact Nat.le_of_ble_eq_true rfl | (simp only [ab_rm]; omega), by first | exact Nat.le_of_ble_eq_true rfl | (simp only [ab_rm]; omega)⟩ (Nat.le_of_ble_eq_true rfl) (fun u138 r138 h138 => ?_)
            obtain ⟨⟨q138, a138⟩, rfl⟩ := h138
            have P138 := P133.trans q138 (by decide)
            have hH : (∃ t', t' ≤ t + 1 ∧  u138.1 17 0 35 = nI t') := ⟨_, by omega, a138⟩
            refine ab_goto X 440 d_MO_step_141 rfl ?_
            refine ab_lv (List.forall_mem_cons.mpr ⟨List.mem_of_getElem? (i := 3) rfl, List.forall_mem_cons.mpr ⟨List.mem_of_getElem? (i := 2) rfl, fun _ h => absurd h List.not_mem_nil⟩⟩) ?_
            first | exact K440 _ (P138.wk (by decide)) hH ⟨z, Nat.le_add_right _ _, P138.fi (by decide) ez⟩ | exact K440 _ (P138.wk (by decide)) hH hZ2
      ·
        refine ab_iload X 1 d_MO_step_109 rfl ?_
        refine ab_iconst (v := 4) X d_MO_step_111 (by decide) ?_
        refine ab_icmp_ne X 144 d_MO_step_112 rfl (fun h112 => ?_) (fun h112 => ?_)
        ·
          refine ab_iload X 1 d_MO_step_144 rfl ?_
          refine ab_iconst (v := 5) X d_MO_step_146 (by decide) ?_
          refine ab_icmp_ne X 165 d_MO_step_147 rfl (fun h147 => ?_) (fun h147 => ?_)
          ·
            refine ab_iload X 1 d_MO_step_165 rfl ?_
            refine ab_bipush (v := 9) X d_MO_step_167 (by decide) ?_
            refine ab_icmp_ge X 181 d_MO_step_169 rfl (fun h169 => ?_) (fun h169 => ?_)
            ·
              refine ab_iload X 1 d_MO_step_181 rfl ?_
              refine ab_bipush (v := 9) X d_MO_step_183 (by decide) ?_
              refine ab_icmp_ne X 209 d_MO_step_185 rfl (fun h185 => ?_) (fun h185 => ?_)
              ·
                refine ab_iload X 1 d_MO_step_209 rfl ?_
                refine ab_bipush (v := 10) X d_MO_step_211 (by decide) ?_
                refine ab_icmp_ne X 242 d_MO_step_213 rfl (fun h213 => ?_) (fun h213 => ?_)
                ·
                  refine ab_iload X 1 d_MO_step_242 rfl ?_
                  refine ab_bipush (v := 11) X d_MO_step_244 (by decide) ?_
                  refine ab_icmp_ne X 290 d_MO_step_246 rfl (fun h246 => ?_) (fun h246 => ?_)
                  ·
                    refine ab_iload X 1 d_MO_step_290 rfl ?_
                    refine ab_bipush (v := 12) X d_MO_step_292 (by decide) ?_
                    refine ab_icmp_ne X 345 d_MO_step_294 rfl (fun h294 => ?_) (fun h294 => ?_)
                    ·
                      refine ab_iload X 1 d_MO_step_345 rfl ?_
                      refine ab_bipush (v := 13) X d_MO_step_347 (by decide) ?_
                      refine ab_icmp_ne X 360 d_MO_step_349 rfl (fun h349 => ?_) (fun h349 => ?_)
                      ·
                        refine ab_iload X 1 d_MO_step_360 rfl ?_
                        refine ab_bipush (v := 15) X d_MO_step_362 (by decide) ?_
                        refine ab_icmp_ne X 388 d_MO_step_364 rfl (fun h364 => ?_) (fun h364 => ?_)
                        ·
                          refine ab_iload X 1 d_MO_step_388 rfl ?_
                          refine ab_bipush (v := 16) X d_MO_step_390 (by decide) ?_
                          refine ab_icmp_ne X 428 d_MO_step_392 rfl (fun h392 => ?_) (fun h392 => ?_)
                          ·
                            refine ab_iload X 1 d_MO_step_428 rfl ?_
                            refine ab_bipush (v := 17) X d_MO_step_430 (by decide) ?_
                            refine ab_icmp_ne X 440 d_MO_step_432 rfl (fun h432 => ?_) (fun h432 => ?_)
                            ·
                              have hH : (∃ t', t' ≤ t + 1 ∧  u.1 17 0 35 = nI t') := ⟨t, by omega, et⟩
                              refine ab_lv (List.forall_mem_cons.mpr ⟨List.mem_of_getElem? (i := 3) rfl, List.forall_mem_cons.mpr ⟨List.mem_of_getElem? (i := 2) rfl, fun _ h => absurd h List.not_mem_nil⟩⟩) ?_
                              first | exact K440 _ (P0.wk (by decide)) hH ⟨z, Nat.le_add_right _ _, P0.fi (by decide) ez⟩ | exact K440 _ (P0.wk (by decide)) hH hZ2
                            ·
                              refine ab_aload_n X 2 d_MO_step_435 rfl rfl ?_
                              refine ab_iconst (v := 0) X d_MO_step_436 (by decide) ?_
                              refine ab_callV (as := [ab_I 0]) X (fun h => by cases h) (s_MO_putOn u 0 t h (by omega) et) lk_MO_301 d_MO_step_437 rfl rfl (by first | assumption | decide | (show _ < 124; omega) | (show _ < 61; omega) | (show _ < 20; omega)) ⟨by first | exact Nat.le_of_ble_eq_true rfl | (simp only [ab_rm]; omega), by first | exact Nat.le_of_ble_eq_true rfl | (simp only [ab_rm]; omega)⟩ ⟨by first | exact Nat.le_of_ble_eq_true rfl | (simp only [ab_rm]; omega), by first | exact Nat.le_of_ble_eq_true rfl | (simp only [ab_rm]; omega)⟩ (Nat.le_of_ble_eq_true rfl) (fun u437 r437 h437 => ?_)
                              obtain ⟨⟨q437, a437⟩, rfl⟩ := h437
                              have P437 := P0.trans q437 (by decide)
                              have hH : (∃ t', t' ≤ t + 1 ∧  u437.1 17 0 35 = nI t') := ⟨_, by omega, a437⟩
                              refine ab_lv (List.forall_mem_cons.mpr ⟨List.mem_of_getElem? (i := 3) rfl, List.forall_mem_cons.mpr ⟨List.mem_of_getElem? (i := 2) rfl, fun _ h => absurd h List.not_mem_nil⟩⟩) ?_
                              first | exact K440 _ (P437.wk (by decide)) hH ⟨z, Nat.le_add_right _ _, P437.fi (by decide) ez⟩ | exact K440 _ (P437.wk (by decide)) hH hZ2
                          ·
                            refine ab_aload_n X 2 d_MO_step_395 rfl rfl ?_
                            refine ab_callV (as := []) X (fun h => by cases h) (s_MO_takeNumber u t h (by omega) et) lk_MO_298 d_MO_step_396 rfl rfl (by first | assumption | decide | (show _ < 124; omega) | (show _ < 61; omega) | (show _ < 20; omega)) ⟨by first | exact Nat.le_of_ble_eq_true rfl | (simp only [ab_rm]; omega), by first | exact Nat.le_of_ble_eq_true rfl | (simp only [ab_rm]; omega)⟩ ⟨by first | exact Nat.le_of_ble_eq_true rfl | (simp only [ab_rm]; omega), by first | exact Nat.le_of_ble_eq_true rfl | (simp only [ab_rm]; omega)⟩ (Nat.le_of_ble_eq_true rfl) (fun u396 r396 h396 => ?_)
                            obtain ⟨⟨q396, a396⟩, x396, hx396, rfl⟩ := h396
                            have P396 := P0.trans q396 (by decide)
                            have hH : (∃ t', t' ≤ t + 1 ∧  u396.1 17 0 35 = nI t') := ⟨_, by omega, a396⟩
                            refine ab_istore6 X 0 1 2 3 4 5 d_MO_step_399 (by decide) rfl rfl rfl rfl rfl rfl rfl rfl rfl rfl rfl rfl ?_
                            refine ab_aload_n X 3 d_MO_step_401 rfl rfl ?_
                            refine ab_gI X fl_MO_132 d_MO_step_402 (by first | assumption | decide | (show _ < 124; omega) | (show _ < 61; omega) | (show _ < 20; omega)) (rfl) ?_
                            refine ab_if_ne X 414 d_MO_step_405 rfl (fun h405 => ?_) (fun h405 => ?_)
                            ·
                              refine ab_iload X 0 d_MO_step_414 rfl ?_
                              refine ab_if_eq X 425 d_MO_step_416 rfl (fun h416 => ?_) (fun h416 => ?_)
                              ·
                                refine ab_goto X 440 d_MO_step_425 rfl ?_
                                refine ab_lv (List.forall_mem_cons.mpr ⟨List.mem_of_getElem? (i := 4) rfl, List.forall_mem_cons.mpr ⟨List.mem_of_getElem? (i := 3) rfl, fun _ h => absurd h List.not_mem_nil⟩⟩) ?_
                                first | exact K440 _ (P396.wk (by decide)) hH ⟨z, Nat.le_add_right _ _, P396.fi (by decide) ez⟩ | exact K440 _ (P396.wk (by decide)) hH hZ2
                              ·
                                have t0 : 0 < t := Nat.pos_of_ne_zero (fun q => h416 (hx396 q))
                                obtain ⟨t5, ht5, et5⟩ : ∃ t5, t5 ≤ t ∧ u396.1 17 0 35 = nI t5 := by first | exact ⟨_, by omega, a411⟩ | exact ⟨_, by omega, a396⟩
                                refine ab_aload_n X 3 d_MO_step_419 rfl rfl ?_
                                refine ab_iload X 0 d_MO_step_420 rfl ?_
                                refine ab_callV (as := [ab_I _]) X (fun h => by cases h) (s_MO_putOn u396 _ t5 P396.1 (by omega) et5) lk_MO_301 d_MO_step_422 rfl rfl (by first | assumption | decide | (show _ < 124; omega) | (show _ < 61; omega) | (show _ < 20; omega)) ⟨by first | exact Nat.le_of_ble_eq_true rfl | (simp only [ab_rm]; omega), by first | exact Nat.le_of_ble_eq_true rfl | (simp only [ab_rm]; omega)⟩ ⟨by first | exact Nat.le_of_ble_eq_true rfl | (simp only [ab_rm]; omega), by first | exact Nat.le_of_ble_eq_true rfl | (simp only [ab_rm]; omega)⟩ (Nat.le_of_ble_eq_true rfl) (fun u422 r422 h422 => ?_)
                                obtain ⟨⟨q422, a422⟩, rfl⟩ := h422
                                have P422 := P396.trans q422 (by decide)
                                have hH : (∃ t', t' ≤ t + 1 ∧  u422.1 17 0 35 = nI t') := ⟨_, by omega, a422⟩
                                refine ab_goto X 440 d_MO_step_425 rfl ?_
                                refine ab_lv (List.forall_mem_cons.mpr ⟨List.mem_of_getElem? (i := 4) rfl, List.forall_mem_cons.mpr ⟨List.mem_of_getElem? (i := 3) rfl, fun _ h => absurd h List.not_mem_nil⟩⟩) ?_
                                first | exact K440 _ (P422.wk (by decide)) hH ⟨z, Nat.le_add_right _ _, P422.fi (by decide) ez⟩ | exact K440 _ (P422.wk (by decide)) hH hZ2
                            ·
                              refine ab_aload_n X 3 d_MO_step_408 rfl rfl ?_
                              refine ab_iload X 0 d_MO_step_409 rfl ?_
                              refine ab_callV (as := [ab_I _]) X (fun h => by cases h) (s_MO_putOn u396 _ (t - 1) P396.1 (by omega) a396) lk_MO_301 d_MO_step_411 rfl rfl (by first | assumption | decide | (show _ < 124; omega) | (show _ < 61; omega) | (show _ < 20; omega)) ⟨by first | exact Nat.le_of_ble_eq_true rfl | (simp only [ab_rm]; omega), by first | exact Nat.le_of_ble_eq_true rfl | (simp only [ab_rm]; omega)⟩ ⟨by first | exact Nat.le_of_ble_eq_true rfl | (simp only [ab_rm]; omega), by first | exact Nat.le_of_ble_eq_true rfl | (simp only [ab_rm]; omega)⟩ (Nat.le_of_ble_eq_true rfl) (fun u411 r411 h411 => ?_)
                              obtain ⟨⟨q411, a411⟩, rfl⟩ := h411
                              have P411 := P396.trans q411 (by decide)
                              have hH : (∃ t', t' ≤ t + 1 ∧  u411.1 17 0 35 = nI t') := ⟨_, by omega, a411⟩
                              refine ab_iload X 0 d_MO_step_414 rfl ?_
                              refine ab_if_eq X 425 d_MO_step_416 rfl (fun h416 => ?_) (fun h416 => ?_)
                              ·
                                refine ab_goto X 440 d_MO_step_425 rfl ?_
                                refine ab_lv (List.forall_mem_cons.mpr ⟨List.mem_of_getElem? (i := 4) rfl, List.forall_mem_cons.mpr ⟨List.mem_of_getElem? (i := 3) rfl, fun _ h => absurd h List.not_mem_nil⟩⟩) ?_
                                first | exact K440 _ (P411.wk (by decide)) hH ⟨z, Nat.le_add_right _ _, P411.fi (by decide) ez⟩ | exact K440 _ (P411.wk (by decide)) hH hZ2
                              ·
                                have t0 : 0 < t := Nat.pos_of_ne_zero (fun q => h416 (hx396 q))
                                obtain ⟨t5, ht5, et5⟩ : ∃ t5, t5 ≤ t ∧ u411.1 17 0 35 = nI t5 := by first | exact ⟨_, by omega, a411⟩ | exact ⟨_, by omega, a396⟩
                                refine ab_aload_n X 3 d_MO_step_419 rfl rfl ?_
                                refine ab_iload X 0 d_MO_step_420 rfl ?_
                                refine ab_callV (as := [ab_I _]) X (fun h => by cases h) (s_MO_putOn u411 _ t5 P411.1 (by omega) et5) lk_MO_301 d_MO_step_422 rfl rfl (by first | assumption | decide | (show _ < 124; omega) | (show _ < 61; omega) | (show _ < 20; omega)) ⟨by first | exact Nat.le_of_ble_eq_true rfl | (simp only [ab_rm]; omega), by first | exact Nat.le_of_ble_eq_true rfl | (simp only [ab_rm]; omega)⟩ ⟨by first | exact Nat.le_of_ble_eq_true rfl | (simp only [ab_rm]; omega), by first | exact Nat.le_of_ble_eq_true rfl | (simp only [ab_rm]; omega)⟩ (Nat.le_of_ble_eq_true rfl) (fun u422 r422 h422 => ?_)
                                obtain ⟨⟨q422, a422⟩, rfl⟩ := h422
                                have P422 := P411.trans q422 (by decide)
                                have hH : (∃ t', t' ≤ t + 1 ∧  u422.1 17 0 35 = nI t') := ⟨_, by omega, a422⟩
                                refine ab_goto X 440 d_MO_step_425 rfl ?_
                                refine ab_lv (List.forall_mem_cons.mpr ⟨List.mem_of_getElem? (i := 4) rfl, List.forall_mem_cons.mpr ⟨List.mem_of_getElem? (i := 3) rfl, fun _ h => absurd h List.not_mem_nil⟩⟩) ?_
                                first | exact K440 _ (P422.wk (by decide)) hH ⟨z, Nat.le_add_right _ _, P422.fi (by decide) ez⟩ | exact K440 _ (P422.wk (by decide)) hH hZ2
                        ·
                          refine ab_aload_n X 2 d_MO_step_367 rfl rfl ?_
                          refine ab_callV (as := []) X (fun h => by cases h) (s_MO_takeNumber u t h (by omega) et) lk_MO_298 d_MO_step_368 rfl rfl (by first | assumption | decide | (show _ < 124; omega) | (show _ < 61; omega) | (show _ < 20; omega)) ⟨by first | exact Nat.le_of_ble_eq_true rfl | (simp only [ab_rm]; omega), by first | exact Nat.le_of_ble_eq_true rfl | (simp only [ab_rm]; omega)⟩ ⟨by first | exact Nat.le_of_ble_eq_true rfl | (simp only [ab_rm]; omega), by first | exact Nat.le_of_ble_eq_true rfl | (simp only [ab_rm]; omega)⟩ (Nat.le_of_ble_eq_true rfl) (fun u368 r368 h368 => ?_)
                          obtain ⟨⟨q368, a368⟩, x368, hx368, rfl⟩ := h368
                          have P368 := P0.trans q368 (by decide)
                          have hH : (∃ t', t' ≤ t + 1 ∧  u368.1 17 0 35 = nI t') := ⟨_, by omega, a368⟩
                          refine ab_if_eq X 384 d_MO_step_371 rfl (fun h371 => ?_) (fun h371 => ?_)
                          ·
                            refine ab_iload_n X 3 d_MO_step_384 rfl rfl ?_
                            refine ab_iconst (v := 1) X d_MO_step_385 (by decide) ?_
                            refine ab_iadd X d_MO_step_386 ?_
                            refine ab_top (nI_1 _) ?_
                            first | exact ab_reti X hr0 hlk d_MO_step_387 ⟨⟨P368.wk (by decide), hH, z, Nat.le_add_right _ _, P368.fi (by decide) ez⟩, i + 1, Or.inl ⟨by omega, by omega⟩, rfl⟩ | exact ab_reti X hr0 hlk d_MO_step_387 ⟨⟨P368.wk (by decide), hH, z, Nat.le_add_right _ _, P368.fi (by decide) ez⟩, a9, Or.inl ⟨h9, k9⟩, rfl⟩
                          ·
                            refine ab_aload_n X 2 d_MO_step_374 rfl rfl ?_
                            refine ab_iload_n X 3 d_MO_step_375 rfl rfl ?_
                            refine ab_bipush (v := 14) X d_MO_step_376 (by decide) ?_
                            refine ab_callV (as := [ab_I (nI i), ab_I 14]) X (fun h => by cases h) (t_MO_behind u368 i n 15 14 s0 P368.1 hi hn (Or.inr ⟨Or.inr rfl, rfl⟩) (by rw [ol_fr P368 (by decide)]; rw [show opv u i = 15 from h364] at hst; exact hst)) lk_MO_307 d_MO_step_378 rfl rfl (by first | assumption | decide | (show _ < 124; omega) | (show _ < 61; omega) | (show _ < 20; omega)) ⟨by first | exact Nat.le_of_ble_eq_true rfl | (simp only [ab_rm]; omega), by first | exact Nat.le_of_ble_eq_true rfl | (simp only [ab_rm]; omega)⟩ ⟨by first | exact Nat.le_of_ble_eq_true rfl | (simp only [ab_rm]; omega), by first | exact Nat.le_of_ble_eq_true rfl | (simp only [ab_rm]; omega)⟩ (Nat.le_of_ble_eq_true rfl) (fun u378 r378 h378 => ?_)
                            obtain ⟨e378, a9, h9, k9, rfl⟩ := h378
                            subst u378
                            refine ab_goto X 387 d_MO_step_381 rfl ?_
                            first | exact ab_reti X hr0 hlk d_MO_step_387 ⟨⟨P368.wk (by decide), hH, z, Nat.le_add_right _ _, P368.fi (by decide) ez⟩, i + 1, Or.inl ⟨by omega, by omega⟩, rfl⟩ | exact ab_reti X hr0 hlk d_MO_step_387 ⟨⟨P368.wk (by decide), hH, z, Nat.le_add_right _ _, P368.fi (by decide) ez⟩, a9, Or.inl ⟨h9, k9⟩, rfl⟩
                      ·
                        obtain ⟨s1, hs1⟩ : ∃ s1, rl (ol u (i + 1) (n - (i + 1))) (13 :: s1) = some [] := by
                          rw [show opv u i = 13 from h349] at hst
                          unfold st1 at hst
                          rw [if_neg (by decide), if_neg (by decide), if_pos rfl] at hst
                          by_cases q : s0.head? = some 12
                          · rw [if_pos q] at hst; exact ⟨_, hst⟩
                          · rw [if_neg q] at hst; exact absurd hst (by simp)
                        refine ab_aload_n X 2 d_MO_step_352 rfl rfl ?_
                        refine ab_iload_n X 3 d_MO_step_353 rfl rfl ?_
                        refine ab_bipush (v := 14) X d_MO_step_354 (by decide) ?_
                        refine ab_callV (as := [ab_I (nI i), ab_I 14]) X (fun h => by cases h) (t_MO_behind u i n 13 14 s1 P0.1 hi hn (Or.inr ⟨Or.inl rfl, rfl⟩) hs1) lk_MO_307 d_MO_step_356 rfl rfl (by first | assumption | decide | (show _ < 124; omega) | (show _ < 61; omega) | (show _ < 20; omega)) ⟨by first | exact Nat.le_of_ble_eq_true rfl | (simp only [ab_rm]; omega), by first | exact Nat.le_of_ble_eq_true rfl | (simp only [ab_rm]; omega)⟩ ⟨by first | exact Nat.le_of_ble_eq_true rfl | (simp only [ab_rm]; omega), by first | exact Nat.le_of_ble_eq_true rfl | (simp only [ab_rm]; omega)⟩ (Nat.le_of_ble_eq_true rfl) (fun u356 r356 h356 => ?_)
                        obtain ⟨e356, a9, h9, k9, rfl⟩ := h356
                        subst u356
                        exact ab_reti X hr0 hlk d_MO_step_359 ⟨⟨P0.wk (by decide), ⟨t, by omega, et⟩, z, Nat.le_add_right _ _, ez⟩, a9, Or.inl ⟨h9, k9⟩, rfl⟩
                    ·
                      refine ab_aload_n X 2 d_MO_step_297 rfl rfl ?_
                      refine ab_callV (as := []) X (fun h => by cases h) (s_MO_take u t h (by omega) et) lk_MO_294 d_MO_step_298 rfl rfl (by first | assumption | decide | (show _ < 124; omega) | (show _ < 61; omega) | (show _ < 20; omega)) ⟨by first | exact Nat.le_of_ble_eq_true rfl | (simp only [ab_rm]; omega), by first | exact Nat.le_of_ble_eq_true rfl | (simp only [ab_rm]; omega)⟩ ⟨by first | exact Nat.le_of_ble_eq_true rfl | (simp only [ab_rm]; omega), by first | exact Nat.le_of_ble_eq_true rfl | (simp only [ab_rm]; omega)⟩ (Nat.le_of_ble_eq_true rfl) (fun u298 r298 h298 => ?_)
                      obtain ⟨⟨q298, a298⟩, x298, hx298, rfl⟩ := h298
                      have P298 := P0.trans q298 (by decide)
                      have hH : (∃ t', t' ≤ t + 1 ∧  u298.1 17 0 35 = nI t') := ⟨_, by omega, a298⟩
                      refine ab_istore6 X 0 1 2 3 4 5 d_MO_step_301 (by decide) rfl rfl rfl rfl rfl rfl rfl rfl rfl rfl rfl rfl ?_
                      refine ab_iload X 0 d_MO_step_303 rfl ?_
                      refine ab_iconst (v := 1) X d_MO_step_305 (by decide) ?_
                      refine ab_icmp_le X 314 d_MO_step_306 rfl (fun h306 => ?_) (fun h306 => ?_)
                      ·
                        refine ab_iload X 0 d_MO_step_314 rfl ?_
                        refine ab_iconst (v := 1) X d_MO_step_316 (by decide) ?_
                        refine ab_icmp_ne X 326 d_MO_step_317 rfl (fun h317 => ?_) (fun h317 => ?_)
                        ·
                          refine ab_aload_n X 3 d_MO_step_326 rfl rfl ?_
                          refine ab_gI X fl_MO_132 d_MO_step_327 (by first | assumption | decide | (show _ < 124; omega) | (show _ < 61; omega) | (show _ < 20; omega)) (rfl) ?_
                          refine ab_if_eq X 337 d_MO_step_330 rfl (fun h330 => ?_) (fun h330 => ?_)
                          ·
                            refine ab_aload_n X 3 d_MO_step_337 rfl rfl ?_
                            refine ab_iload_n X 4 d_MO_step_338 rfl rfl ?_
                            refine ab_bipush (v := 13) X d_MO_step_339 (by decide) ?_
                            refine ab_callV (as := [ab_I (nI i), ab_I 13]) X (fun h => by cases h) (t_MO_behind u298 i n 12 13 s0 P298.1 hi hn (Or.inl ⟨rfl, rfl⟩) (by rw [ol_fr P298 (by decide)]; rw [show opv u i = 12 from h294] at hst; exact hst)) lk_MO_307 d_MO_step_341 rfl rfl (by first | assumption | decide | (show _ < 124; omega) | (show _ < 61; omega) | (show _ < 20; omega)) ⟨by first | exact Nat.le_of_ble_eq_true rfl | (simp only [ab_rm]; omega), by first | exact Nat.le_of_ble_eq_true rfl | (simp only [ab_rm]; omega)⟩ ⟨by first | exact Nat.le_of_ble_eq_true rfl | (simp only [ab_rm]; omega), by first | exact Nat.le_of_ble_eq_true rfl | (simp only [ab_rm]; omega)⟩ (Nat.le_of_ble_eq_true rfl) (fun u341 r341 h341 => ?_)
                            obtain ⟨e341, a9, h9, k9, rfl⟩ := h341
                            subst u341
                            first | exact ab_reti X hr0 hlk d_MO_step_344 ⟨⟨P298.wk (by decide), hH, z, Nat.le_add_right _ _, P298.fi (by decide) ez⟩, i + 1, Or.inl ⟨by omega, by omega⟩, rfl⟩ | exact ab_reti X hr0 hlk d_MO_step_344 ⟨⟨P298.wk (by decide), hH, z, Nat.le_add_right _ _, P298.fi (by decide) ez⟩, i, Or.inr ⟨rfl, h330⟩, rfl⟩ | exact ab_reti X hr0 hlk d_MO_step_344 ⟨⟨P298.wk (by decide), hH, z, Nat.le_add_right _ _, P298.fi (by decide) ez⟩, a9, Or.inl ⟨h9, k9⟩, rfl⟩
                          ·
                            refine ab_iload_n X 4 d_MO_step_333 rfl rfl ?_
                            refine ab_goto X 344 d_MO_step_334 rfl ?_
                            first | exact ab_reti X hr0 hlk d_MO_step_344 ⟨⟨P298.wk (by decide), hH, z, Nat.le_add_right _ _, P298.fi (by decide) ez⟩, i + 1, Or.inl ⟨by omega, by omega⟩, rfl⟩ | exact ab_reti X hr0 hlk d_MO_step_344 ⟨⟨P298.wk (by decide), hH, z, Nat.le_add_right _ _, P298.fi (by decide) ez⟩, i, Or.inr ⟨rfl, h330⟩, rfl⟩ | exact ab_reti X hr0 hlk d_MO_step_344 ⟨⟨P298.wk (by decide), hH, z, Nat.le_add_right _ _, P298.fi (by decide) ez⟩, a9, Or.inl ⟨h9, k9⟩, rfl⟩
                        ·
                          refine ab_iload_n X 4 d_MO_step_320 rfl rfl ?_
                          refine ab_iconst (v := 1) X d_MO_step_321 (by decide) ?_
                          refine ab_iadd X d_MO_step_322 ?_
                          refine ab_top (nI_1 _) ?_
                          refine ab_goto X 344 d_MO_step_323 rfl ?_
                          first | exact ab_reti X hr0 hlk d_MO_step_344 ⟨⟨P298.wk (by decide), hH, z, Nat.le_add_right _ _, P298.fi (by decide) ez⟩, i + 1, Or.inl ⟨by omega, by omega⟩, rfl⟩ | exact ab_reti X hr0 hlk d_MO_step_344 ⟨⟨P298.wk (by decide), hH, z, Nat.le_add_right _ _, P298.fi (by decide) ez⟩, i, Or.inr ⟨rfl, h330⟩, rfl⟩ | exact ab_reti X hr0 hlk d_MO_step_344 ⟨⟨P298.wk (by decide), hH, z, Nat.le_add_right _ _, P298.fi (by decide) ez⟩, a9, Or.inl ⟨h9, k9⟩, rfl⟩
                      ·
                        refine ab_aload_n X 3 d_MO_step_309 rfl rfl ?_
                        refine ab_iconst (v := 1) X d_MO_step_310 (by decide) ?_
                        refine ab_putI X fp_MO_132 d_MO_step_311 (by first | assumption | decide | (show _ < 124; omega) | (show _ < 61; omega) | (show _ < 20; omega)) rfl rfl ?_
                        refine ab_gen (fun u311 e311 => ?_)
                        have P311 : gP [35, 40, 118] u u311 := by rw [e311]; exact P298.ui rfl (by decide)
                        have hH : (∃ t', t' ≤ t + 1 ∧  u311.1 17 0 35 = nI t') := ⟨t - 1, by omega, by rw [e311]; simpa [ab_up] using a298⟩
                        refine ab_iload X 0 d_MO_step_314 rfl ?_
                        refine ab_iconst (v := 1) X d_MO_step_316 (by decide) ?_
                        refine ab_icmp_ne X 326 d_MO_step_317 rfl (fun h317 => ?_) (fun h317 => ?_)
                        ·
                          refine ab_aload_n X 3 d_MO_step_326 rfl rfl ?_
                          refine ab_gI X fl_MO_132 d_MO_step_327 (by first | assumption | decide | (show _ < 124; omega) | (show _ < 61; omega) | (show _ < 20; omega)) (rfl) ?_
                          refine ab_if_eq X 337 d_MO_step_330 rfl (fun h330 => ?_) (fun h330 => ?_)
                          ·
                            refine ab_aload_n X 3 d_MO_step_337 rfl rfl ?_
                            refine ab_iload_n X 4 d_MO_step_338 rfl rfl ?_
                            refine ab_bipush (v := 13) X d_MO_step_339 (by decide) ?_
                            refine ab_callV (as := [ab_I (nI i), ab_I 13]) X (fun h => by cases h) (t_MO_behind u311 i n 12 13 s0 P311.1 hi hn (Or.inl ⟨rfl, rfl⟩) (by rw [ol_fr P311 (by decide)]; rw [show opv u i = 12 from h294] at hst; exact hst)) lk_MO_307 d_MO_step_341 rfl rfl (by first | assumption | decide | (show _ < 124; omega) | (show _ < 61; omega) | (show _ < 20; omega)) ⟨by first | exact Nat.le_of_ble_eq_true rfl | (simp only [ab_rm]; omega), by first | exact Nat.le_of_ble_eq_true rfl | (simp only [ab_rm]; omega)⟩ ⟨by first | exact Nat.le_of_ble_eq_true rfl | (simp only [ab_rm]; omega), by first | exact Nat.le_of_ble_eq_true rfl | (simp only [ab_rm]; omega)⟩ (Nat.le_of_ble_eq_true rfl) (fun u341 r341 h341 => ?_)
                            obtain ⟨e341, a9, h9, k9, rfl⟩ := h341
                            subst u341
                            first | exact ab_reti X hr0 hlk d_MO_step_344 ⟨⟨P311.wk (by decide), hH, z, Nat.le_add_right _ _, P311.fi (by decide) ez⟩, i + 1, Or.inl ⟨by omega, by omega⟩, rfl⟩ | exact ab_reti X hr0 hlk d_MO_step_344 ⟨⟨P311.wk (by decide), hH, z, Nat.le_add_right _ _, P311.fi (by decide) ez⟩, i, Or.inr ⟨rfl, h330⟩, rfl⟩ | exact ab_reti X hr0 hlk d_MO_step_344 ⟨⟨P311.wk (by decide), hH, z, Nat.le_add_right _ _, P311.fi (by decide) ez⟩, a9, Or.inl ⟨h9, k9⟩, rfl⟩
                          ·
                            refine ab_iload_n X 4 d_MO_step_333 rfl rfl ?_
                            refine ab_goto X 344 d_MO_step_334 rfl ?_
                            first | exact ab_reti X hr0 hlk d_MO_step_344 ⟨⟨P311.wk (by decide), hH, z, Nat.le_add_right _ _, P311.fi (by decide) ez⟩, i + 1, Or.inl ⟨by omega, by omega⟩, rfl⟩ | exact ab_reti X hr0 hlk d_MO_step_344 ⟨⟨P311.wk (by decide), hH, z, Nat.le_add_right _ _, P311.fi (by decide) ez⟩, i, Or.inr ⟨rfl, h330⟩, rfl⟩ | exact ab_reti X hr0 hlk d_MO_step_344 ⟨⟨P311.wk (by decide), hH, z, Nat.le_add_right _ _, P311.fi (by decide) ez⟩, a9, Or.inl ⟨h9, k9⟩, rfl⟩
                        ·
                          refine ab_iload_n X 4 d_MO_step_320 rfl rfl ?_
                          refine ab_iconst (v := 1) X d_MO_step_321 (by decide) ?_
                          refine ab_iadd X d_MO_step_322 ?_
                          refine ab_top (nI_1 _) ?_
                          refine ab_goto X 344 d_MO_step_323 rfl ?_
                          first | exact ab_reti X hr0 hlk d_MO_step_344 ⟨⟨P311.wk (by decide), hH, z, Nat.le_add_right _ _, P311.fi (by decide) ez⟩, i + 1, Or.inl ⟨by omega, by omega⟩, rfl⟩ | exact ab_reti X hr0 hlk d_MO_step_344 ⟨⟨P311.wk (by decide), hH, z, Nat.le_add_right _ _, P311.fi (by decide) ez⟩, i, Or.inr ⟨rfl, h330⟩, rfl⟩ | exact ab_reti X hr0 hlk d_MO_step_344 ⟨⟨P311.wk (by decide), hH, z, Nat.le_add_right _ _, P311.fi (by decide) ez⟩, a9, Or.inl ⟨h9, k9⟩, rfl⟩
                  ·
                    refine ab_aload_n X 2 d_MO_step_249 rfl rfl ?_
                    refine ab_gI X fl_MO_123 d_MO_step_250 (by first | assumption | decide | (show _ < 124; omega) | (show _ < 61; omega) | (show _ < 20; omega)) (ez) ?_
                    refine ab_if_ne X 264 d_MO_step_253 rfl (fun h253 => ?_) (fun h253 => ?_)
                    ·
                      have z0 : 0 < z := Nat.pos_of_ne_zero (fun q => h253 (by rw [q]; rfl))
                      refine ab_aload_n X 2 d_MO_step_264 rfl rfl ?_
                      refine ab_dup X d_MO_step_265 rfl ?_
                      refine ab_gI X fl_MO_123 d_MO_step_266 (by first | assumption | decide | (show _ < 124; omega) | (show _ < 61; omega) | (show _ < 20; omega)) (ez) ?_
                      refine ab_iconst (v := 1) X d_MO_step_269 (by decide) ?_
                      refine ab_isub X d_MO_step_270 ?_
                      refine ab_top (nI_m1 z0) ?_
                      refine ab_putI X fp_MO_123 d_MO_step_271 (by first | assumption | decide | (show _ < 124; omega) | (show _ < 61; omega) | (show _ < 20; omega)) rfl rfl ?_
                      refine ab_gen (fun u271 e271 => ?_)
                      have P271 : gP [35, 37, 40, 118, 119] u u271 := by rw [e271]; exact (P0.wk (by decide)).ui rfl trivial
                      refine ab_aload_n X 2 d_MO_step_274 rfl rfl ?_
                      refine ab_aload_n X 2 d_MO_step_275 rfl rfl ?_
                      refine ab_gR X fl_MO_120 d_MO_step_276 (by first | assumption | decide | (show _ < 124; omega) | (show _ < 61; omega) | (show _ < 20; omega)) (P271.1.mo36) ?_
                      refine ab_aload_n X 2 d_MO_step_279 rfl rfl ?_
                      refine ab_gI X fl_MO_123 d_MO_step_280 (by first | assumption | decide | (show _ < 124; omega) | (show _ < 61; omega) | (show _ < 20; omega)) ((show _ = nI (z - 1) by rw [e271]; simp [ab_up])) ?_
                      refine ab_iald X (z - 1) ⟨rfl, rfl⟩ d_MO_step_283 (by first | assumption | decide | (show _ < 124; omega) | (show _ < 61; omega) | (show _ < 20; omega)) (rfl) (show z - 1 < 64 by omega) (ab_ln_lt _ _) ?_
                      refine ab_callV (as := [ab_I _]) X (fun h => by cases h) (s_MO_putOn u271 _ t P271.1 (by omega) (by rw [e271]; simpa [ab_up] using et)) lk_MO_301 d_MO_step_284 rfl rfl (by first | assumption | decide | (show _ < 124; omega) | (show _ < 61; omega) | (show _ < 20; omega)) ⟨by first | exact Nat.le_of_ble_eq_true rfl | (simp only [ab_rm]; omega), by first | exact Nat.le_of_ble_eq_true rfl | (simp only [ab_rm]; omega)⟩ ⟨by first | exact Nat.le_of_ble_eq_true rfl | (simp only [ab_rm]; omega), by first | exact Nat.le_of_ble_eq_true rfl | (simp only [ab_rm]; omega)⟩ (Nat.le_of_ble_eq_true rfl) (fun u284 r284 h284 => ?_)
                      obtain ⟨⟨q284, a284⟩, rfl⟩ := h284
                      have P284 := P271.trans q284 (by decide)
                      have hH : (∃ t', t' ≤ t + 1 ∧  u284.1 17 0 35 = nI t') := ⟨_, by omega, a284⟩
                      have hZ2 : (∃ z', z' ≤ z + (if opv u i = 10 then 1 else 0) ∧  u284.1 17 0 37 = nI z') := ⟨z - 1, by omega, (q284.fi (by decide) rfl).trans (by rw [e271]; simp [ab_up])⟩
                      refine ab_goto X 440 d_MO_step_287 rfl ?_
                      refine ab_lv (List.forall_mem_cons.mpr ⟨List.mem_of_getElem? (i := 3) rfl, List.forall_mem_cons.mpr ⟨List.mem_of_getElem? (i := 2) rfl, fun _ h => absurd h List.not_mem_nil⟩⟩) ?_
                      first | exact K440 _ (P284.wk (by decide)) hH ⟨z, Nat.le_add_right _ _, P284.fi (by decide) ez⟩ | exact K440 _ (P284.wk (by decide)) hH hZ2
                    ·
                      refine ab_aload_n X 2 d_MO_step_256 rfl rfl ?_
                      refine ab_iconst (v := 1) X d_MO_step_257 (by decide) ?_
                      refine ab_putI X fp_MO_132 d_MO_step_258 (by first | assumption | decide | (show _ < 124; omega) | (show _ < 61; omega) | (show _ < 20; omega)) rfl rfl ?_
                      refine ab_gen (fun u258 e258 => ?_)
                      have P258 : gP [35, 40, 118] u u258 := by rw [e258]; exact P0.ui rfl (by decide)
                      have hH : (∃ t', t' ≤ t + 1 ∧  u258.1 17 0 35 = nI t') := ⟨t, by omega, by rw [e258]; simpa [ab_up] using et⟩
                      refine ab_goto X 440 d_MO_step_261 rfl ?_
                      refine ab_lv (List.forall_mem_cons.mpr ⟨List.mem_of_getElem? (i := 3) rfl, List.forall_mem_cons.mpr ⟨List.mem_of_getElem? (i := 2) rfl, fun _ h => absurd h List.not_mem_nil⟩⟩) ?_
                      first | exact K440 _ (P258.wk (by decide)) hH ⟨z, Nat.le_add_right _ _, P258.fi (by decide) ez⟩ | exact K440 _ (P258.wk (by decide)) hH hZ2
                ·
                  refine ab_aload_n X 2 d_MO_step_216 rfl rfl ?_
                  refine ab_gR X fl_MO_120 d_MO_step_217 (by first | assumption | decide | (show _ < 124; omega) | (show _ < 61; omega) | (show _ < 20; omega)) (P0.1.mo36) ?_
                  refine ab_aload_n X 2 d_MO_step_220 rfl rfl ?_
                  refine ab_gI X fl_MO_123 d_MO_step_221 (by first | assumption | decide | (show _ < 124; omega) | (show _ < 61; omega) | (show _ < 20; omega)) (ez) ?_
                  refine ab_aload_n X 2 d_MO_step_224 rfl rfl ?_
                  refine ab_callV (as := []) X (fun h => by cases h) (s_MO_take u t h (by omega) et) lk_MO_294 d_MO_step_225 rfl rfl (by first | assumption | decide | (show _ < 124; omega) | (show _ < 61; omega) | (show _ < 20; omega)) ⟨by first | exact Nat.le_of_ble_eq_true rfl | (simp only [ab_rm]; omega), by first | exact Nat.le_of_ble_eq_true rfl | (simp only [ab_rm]; omega)⟩ ⟨by first | exact Nat.le_of_ble_eq_true rfl | (simp only [ab_rm]; omega), by first | exact Nat.le_of_ble_eq_true rfl | (simp only [ab_rm]; omega)⟩ (Nat.le_of_ble_eq_true rfl) (fun u225 r225 h225 => ?_)
                  obtain ⟨⟨q225, a225⟩, x225, hx225, rfl⟩ := h225
                  have P225 := P0.trans q225 (by decide)
                  refine ab_iast X (z) ⟨rfl, rfl⟩ d_MO_step_228 (by first | assumption | decide | (show _ < 124; omega) | (show _ < 61; omega) | (show _ < 20; omega)) (rfl) (show z < 64 by omega) (ab_ln_lt _ _) ?_
                  refine ab_gen (fun u228 e228 => ?_)
                  have P228 : gP [35, 37, 40, 118, 119] u u228 := by rw [e228]; exact (P225.wk (by decide)).ui rfl trivial
                  refine ab_aload_n X 2 d_MO_step_229 rfl rfl ?_
                  refine ab_dup X d_MO_step_230 rfl ?_
                  refine ab_gI X fl_MO_123 d_MO_step_231 (by first | assumption | decide | (show _ < 124; omega) | (show _ < 61; omega) | (show _ < 20; omega)) ((show _ = nI z by rw [e228]; exact (ui_n _ (by omega)).trans (q225.fi (by decide) ez))) ?_
                  refine ab_iconst (v := 1) X d_MO_step_234 (by decide) ?_
                  refine ab_iadd X d_MO_step_235 ?_
                  refine ab_top (nI_1 _) ?_
                  refine ab_putI X fp_MO_123 d_MO_step_236 (by first | assumption | decide | (show _ < 124; omega) | (show _ < 61; omega) | (show _ < 20; omega)) rfl rfl ?_
                  refine ab_gen (fun u236 e236 => ?_)
                  have P236 : gP [35, 37, 40, 118, 119] u u236 := by rw [e236]; exact P228.ui rfl (by decide)
                  have hH : (∃ t', t' ≤ t + 1 ∧  u236.1 17 0 35 = nI t') := ⟨t - 1, by omega, by rw [e236, e228]; simpa [ab_up] using a225⟩
                  have hZ2 : (∃ z', z' ≤ z + (if opv u i = 10 then 1 else 0) ∧  u236.1 17 0 37 = nI z') := ⟨z + 1, by rw [if_pos (show opv u i = 10 from h213)]; omega, by rw [e236]; simp [ab_up]⟩
                  refine ab_goto X 440 d_MO_step_239 rfl ?_
                  refine ab_lv (List.forall_mem_cons.mpr ⟨List.mem_of_getElem? (i := 3) rfl, List.forall_mem_cons.mpr ⟨List.mem_of_getElem? (i := 2) rfl, fun _ h => absurd h List.not_mem_nil⟩⟩) ?_
                  first | exact K440 _ (P236.wk (by decide)) hH ⟨z, Nat.le_add_right _ _, P236.fi (by decide) ez⟩ | exact K440 _ (P236.wk (by decide)) hH hZ2
              ·
                refine ab_aload_n X 2 d_MO_step_188 rfl rfl ?_
                refine ab_aload_n X 2 d_MO_step_189 rfl rfl ?_
                refine ab_callV (as := []) X (fun h => by cases h) (s_MO_takeNumber u t h (by omega) et) lk_MO_298 d_MO_step_190 rfl rfl (by first | assumption | decide | (show _ < 124; omega) | (show _ < 61; omega) | (show _ < 20; omega)) ⟨by first | exact Nat.le_of_ble_eq_true rfl | (simp only [ab_rm]; omega), by first | exact Nat.le_of_ble_eq_true rfl | (simp only [ab_rm]; omega)⟩ ⟨by first | exact Nat.le_of_ble_eq_true rfl | (simp only [ab_rm]; omega), by first | exact Nat.le_of_ble_eq_true rfl | (simp only [ab_rm]; omega)⟩ (Nat.le_of_ble_eq_true rfl) (fun u190 r190 h190 => ?_)
                obtain ⟨⟨q190, a190⟩, x190, hx190, rfl⟩ := h190
                have P190 := P0.trans q190 (by decide)
                refine ab_iload X 0 d_MO_step_193 rfl ?_
                refine ab_icmp_ne X 202 d_MO_step_195 rfl (fun h195 => ?_) (fun h195 => ?_)
                ·
                  refine ab_iconst (v := 0) X d_MO_step_202 (by decide) ?_
                  refine ab_callV (as := [ab_I _]) X (fun h => by cases h) (s_MO_putOn u190 _ (t - 1) P190.1 (by omega) a190) lk_MO_301 d_MO_step_203 rfl rfl (by first | assumption | decide | (show _ < 124; omega) | (show _ < 61; omega) | (show _ < 20; omega)) ⟨by first | exact Nat.le_of_ble_eq_true rfl | (simp only [ab_rm]; omega), by first | exact Nat.le_of_ble_eq_true rfl | (simp only [ab_rm]; omega)⟩ ⟨by first | exact Nat.le_of_ble_eq_true rfl | (simp only [ab_rm]; omega), by first | exact Nat.le_of_ble_eq_true rfl | (simp only [ab_rm]; omega)⟩ (Nat.le_of_ble_eq_true rfl) (fun u203 r203 h203 => ?_)
                  obtain ⟨⟨q203, a203⟩, rfl⟩ := h203
                  have P203 := P190.trans q203 (by decide)
                  have hH : (∃ t', t' ≤ t + 1 ∧  u203.1 17 0 35 = nI t') := ⟨_, by omega, a203⟩
                  refine ab_goto X 440 d_MO_step_206 rfl ?_
                  refine ab_lv (List.forall_mem_cons.mpr ⟨List.mem_of_getElem? (i := 3) rfl, List.forall_mem_cons.mpr ⟨List.mem_of_getElem? (i := 2) rfl, fun _ h => absurd h List.not_mem_nil⟩⟩) ?_
                  first | exact K440 _ (P203.wk (by decide)) hH ⟨z, Nat.le_add_right _ _, P203.fi (by decide) ez⟩ | exact K440 _ (P203.wk (by decide)) hH hZ2
                ·
                  refine ab_iconst (v := 1) X d_MO_step_198 (by decide) ?_
                  refine ab_goto X 203 d_MO_step_199 rfl ?_
                  refine ab_callV (as := [ab_I _]) X (fun h => by cases h) (s_MO_putOn u190 _ (t - 1) P190.1 (by omega) a190) lk_MO_301 d_MO_step_203 rfl rfl (by first | assumption | decide | (show _ < 124; omega) | (show _ < 61; omega) | (show _ < 20; omega)) ⟨by first | exact Nat.le_of_ble_eq_true rfl | (simp only [ab_rm]; omega), by first | exact Nat.le_of_ble_eq_true rfl | (simp only [ab_rm]; omega)⟩ ⟨by first | exact Nat.le_of_ble_eq_true rfl | (simp only [ab_rm]; omega), by first | exact Nat.le_of_ble_eq_true rfl | (simp only [ab_rm]; omega)⟩ (Nat.le_of_ble_eq_true rfl) (fun u203 r203 h203 => ?_)
                  obtain ⟨⟨q203, a203⟩, rfl⟩ := h203
                  have P203 := P190.trans q203 (by decide)
                  have hH : (∃ t', t' ≤ t + 1 ∧  u203.1 17 0 35 = nI t') := ⟨_, by omega, a203⟩
                  refine ab_goto X 440 d_MO_step_206 rfl ?_
                  refine ab_lv (List.forall_mem_cons.mpr ⟨List.mem_of_getElem? (i := 3) rfl, List.forall_mem_cons.mpr ⟨List.mem_of_getElem? (i := 2) rfl, fun _ h => absurd h List.not_mem_nil⟩⟩) ?_
                  first | exact K440 _ (P203.wk (by decide)) hH ⟨z, Nat.le_add_right _ _, P203.fi (by decide) ez⟩ | exact K440 _ (P203.wk (by decide)) hH hZ2
            ·
              refine ab_aload_n X 2 d_MO_step_172 rfl rfl ?_
              refine ab_iload X 1 d_MO_step_173 rfl ?_
              refine ab_callV (as := [ab_I _]) X (fun h => by cases h) (s_MO_join u _ t h ht et) lk_MO_304 d_MO_step_175 rfl rfl (by first | assumption | decide | (show _ < 124; omega) | (show _ < 61; omega) | (show _ < 20; omega)) ⟨by first | exact Nat.le_of_ble_eq_true rfl | (simp only [ab_rm]; omega), by first | exact Nat.le_of_ble_eq_true rfl | (simp only [ab_rm]; omega)⟩ ⟨by first | exact Nat.le_of_ble_eq_true rfl | (simp only [ab_rm]; omega), by first | exact Nat.le_of_ble_eq_true rfl | (simp only [ab_rm]; omega)⟩ (Nat.le_of_ble_eq_true rfl) (fun u175 r175 h175 => ?_)
              obtain ⟨⟨q175, hH⟩, rfl⟩ := h175
              have P175 := P0.trans q175 (by decide)
              refine ab_goto X 440 d_MO_step_178 rfl ?_
              refine ab_lv (List.forall_mem_cons.mpr ⟨List.mem_of_getElem? (i := 3) rfl, List.forall_mem_cons.mpr ⟨List.mem_of_getElem? (i := 2) rfl, fun _ h => absurd h List.not_mem_nil⟩⟩) ?_
              first | exact K440 _ (P175.wk (by decide)) hH ⟨z, Nat.le_add_right _ _, P175.fi (by decide) ez⟩ | exact K440 _ (P175.wk (by decide)) hH hZ2
          ·
            refine ab_aload_n X 2 d_MO_step_150 rfl rfl ?_
            refine ab_callV (as := []) X (fun h => by cases h) (s_MO_takeNumber u t h (by omega) et) lk_MO_298 d_MO_step_151 rfl rfl (by first | assumption | decide | (show _ < 124; omega) | (show _ < 61; omega) | (show _ < 20; omega)) ⟨by first | exact Nat.le_of_ble_eq_true rfl | (simp only [ab_rm]; omega), by first | exact Nat.le_of_ble_eq_true rfl | (simp only [ab_rm]; omega)⟩ ⟨by first | exact Nat.le_of_ble_eq_true rfl | (simp only [ab_rm]; omega), by first | exact Nat.le_of_ble_eq_true rfl | (simp only [ab_rm]; omega)⟩ (Nat.le_of_ble_eq_true rfl) (fun u151 r151 h151 => ?_)
            obtain ⟨⟨q151, a151⟩, x151, hx151, rfl⟩ := h151
            have P151 := P0.trans q151 (by decide)
            have hH : (∃ t', t' ≤ t + 1 ∧  u151.1 17 0 35 = nI t') := ⟨_, by omega, a151⟩
            refine ab_if_ne X 440 d_MO_step_154 rfl (fun h154 => ?_) (fun h154 => ?_)
            ·
              refine ab_lv (List.forall_mem_cons.mpr ⟨List.mem_of_getElem? (i := 3) rfl, List.forall_mem_cons.mpr ⟨List.mem_of_getElem? (i := 2) rfl, fun _ h => absurd h List.not_mem_nil⟩⟩) ?_
              first | exact K440 _ (P151.wk (by decide)) hH ⟨z, Nat.le_add_right _ _, P151.fi (by decide) ez⟩ | exact K440 _ (P151.wk (by decide)) hH hZ2
            ·
              refine ab_aload_n X 2 d_MO_step_157 rfl rfl ?_
              refine ab_iconst (v := 1) X d_MO_step_158 (by decide) ?_
              refine ab_putI X fp_MO_132 d_MO_step_159 (by first | assumption | decide | (show _ < 124; omega) | (show _ < 61; omega) | (show _ < 20; omega)) rfl rfl ?_
              refine ab_gen (fun u159 e159 => ?_)
              have P159 : gP [35, 40, 118] u u159 := by rw [e159]; exact P151.ui rfl (by decide)
              have hH : (∃ t', t' ≤ t + 1 ∧  u159.1 17 0 35 = nI t') := ⟨t - 1, by omega, by rw [e159]; simpa [ab_up] using a151⟩
              refine ab_goto X 440 d_MO_step_162 rfl ?_
              refine ab_lv (List.forall_mem_cons.mpr ⟨List.mem_of_getElem? (i := 3) rfl, List.forall_mem_cons.mpr ⟨List.mem_of_getElem? (i := 2) rfl, fun _ h => absurd h List.not_mem_nil⟩⟩) ?_
              first | exact K440 _ (P159.wk (by decide)) hH ⟨z, Nat.le_add_right _ _, P159.fi (by decide) ez⟩ | exact K440 _ (P159.wk (by decide)) hH hZ2
        ·
          refine ab_iload X 1 d_MO_step_115 rfl ?_
          refine ab_iconst (v := 3) X d_MO_step_117 (by decide) ?_
          refine ab_icmp_ne X 125 d_MO_step_118 rfl (fun h118 => ?_) (fun h118 => ?_)
          ·
            refine ab_iload_n X 5 d_MO_step_125 rfl rfl ?_
            refine ab_iload X 0 d_MO_step_126 rfl ?_
            refine ab_icmp_ge X 136 d_MO_step_128 rfl (fun h128 => ?_) (fun h128 => ?_)
            ·
              refine ab_aload_n X 2 d_MO_step_136 rfl rfl ?_
              refine ab_iconst (v := 1) X d_MO_step_137 (by decide) ?_
              refine ab_callV (as := [ab_I 1]) X (fun h => by cases h) (s_MO_putOn u 1 t P0.1 (by omega) (by first | exact et | (rw [e133]; simpa [ab_up] using et))) lk_MO_301 d_MO_step_138 rfl rfl (by first | assumption | decide | (show _ < 124; omega) | (show _ < 61; omega) | (show _ < 20; omega)) ⟨by first | exact Nat.le_of_ble_eq_true rfl | (simp only [ab_rm]; omega), by first | exact Nat.le_of_ble_eq_true rfl | (simp only [ab_rm]; omega)⟩ ⟨by first | exact Nat.le_of_ble_eq_true rfl | (simp only [ab_rm]; omega), by first | exact Nat.le_of_ble_eq_true rfl | (simp only [ab_rm]; omega)⟩ (Nat.le_of_ble_eq_true rfl) (fun u138 r138 h138 => ?_)
              obtain ⟨⟨q138, a138⟩, rfl⟩ := h138
              have P138 := P0.trans q138 (by decide)
              have hH : (∃ t', t' ≤ t + 1 ∧  u138.1 17 0 35 = nI t') := ⟨_, by omega, a138⟩
              refine ab_goto X 440 d_MO_step_141 rfl ?_
              refine ab_lv (List.forall_mem_cons.mpr ⟨List.mem_of_getElem? (i := 3) rfl, List.forall_mem_cons.mpr ⟨List.mem_of_getElem? (i := 2) rfl, fun _ h => absurd h List.not_mem_nil⟩⟩) ?_
              first | exact K440 _ (P138.wk (by decide)) hH ⟨z, Nat.le_add_right _ _, P138.fi (by decide) ez⟩ | exact K440 _ (P138.wk (by decide)) hH hZ2
            ·
              refine ab_aload_n X 2 d_MO_step_131 rfl rfl ?_
              refine ab_iconst (v := 1) X d_MO_step_132 (by decide) ?_
              refine ab_putI X fp_MO_132 d_MO_step_133 (by first | assumption | decide | (show _ < 124; omega) | (show _ < 61; omega) | (show _ < 20; omega)) rfl rfl ?_
              refine ab_gen (fun u133 e133 => ?_)
              have P133 : gP [35, 40, 118] u u133 := by rw [e133]; exact P0.ui rfl (by decide)
              refine ab_aload_n X 2 d_MO_step_136 rfl rfl ?_
              refine ab_iconst (v := 1) X d_MO_step_137 (by decide) ?_
              refine ab_callV (as := [ab_I 1]) X (fun h => by cases h) (s_MO_putOn u133 1 t P133.1 (by omega) (by first | exact et | (rw [e133]; simpa [ab_up] using et))) lk_MO_301 d_MO_step_138 rfl rfl (by first | assumption | decide | (show _ < 124; omega) | (show _ < 61; omega) | (show _ < 20; omega)) ⟨by first | exact Nat.le_of_ble_eq_true rfl | (simp only [ab_rm]; omega), by first | exact Nat.le_of_ble_eq_true rfl | (simp only [ab_rm]; omega)⟩ ⟨by first | exact Nat.le_of_ble_eq_true rfl | (simp only [ab_rm]; omega), by first | exact Nat.le_of_ble_eq_true rfl | (simp only [ab_rm]; omega)⟩ (Nat.le_of_ble_eq_true rfl) (fun u138 r138 h138 => ?_)
              obtain ⟨⟨q138, a138⟩, rfl⟩ := h138
              have P138 := P133.trans q138 (by decide)
              have hH : (∃ t', t' ≤ t + 1 ∧  u138.1 17 0 35 = nI t') := ⟨_, by omega, a138⟩
              refine ab_goto X 440 d_MO_step_141 rfl ?_
              refine ab_lv (List.forall_mem_cons.mpr ⟨List.mem_of_getElem? (i := 3) rfl, List.forall_mem_cons.mpr ⟨List.mem_of_getElem? (i := 2) rfl, fun _ h => absurd h List.not_mem_nil⟩⟩) ?_
              first | exact K440 _ (P138.wk (by decide)) hH ⟨z, Nat.le_add_right _ _, P138.fi (by decide) ez⟩ | exact K440 _ (P138.wk (by decide)) hH hZ2
          ·
            refine ab_iload_n X 4 d_MO_step_121 rfl rfl ?_
            refine ab_goto X 126 d_MO_step_122 rfl ?_
            refine ab_iload X 0 d_MO_step_126 rfl ?_
            refine ab_icmp_ge X 136 d_MO_step_128 rfl (fun h128 => ?_) (fun h128 => ?_)
            ·
              refine ab_aload_n X 2 d_MO_step_136 rfl rfl ?_
              refine ab_iconst (v := 1) X d_MO_step_137 (by decide) ?_
              refine ab_callV (as := [ab_I 1]) X (fun h => by cases h) (s_MO_putOn u 1 t P0.1 (by omega) (by first | exact et | (rw [e133]; simpa [ab_up] using et))) lk_MO_301 d_MO_step_138 rfl rfl (by first | assumption | decide | (show _ < 124; omega) | (show _ < 61; omega) | (show _ < 20; omega)) ⟨by first | exact Nat.le_of_ble_eq_true rfl | (simp only [ab_rm]; omega), by first | exact Nat.le_of_ble_eq_true rfl | (simp only [ab_rm]; omega)⟩ ⟨by first | exact Nat.le_of_ble_eq_true rfl | (simp only [ab_rm]; omega), by first | exact Nat.le_of_ble_eq_true rfl | (simp only [ab_rm]; omega)⟩ (Nat.le_of_ble_eq_true rfl) (fun u138 r138 h138 => ?_)
              obtain ⟨⟨q138, a138⟩, rfl⟩ := h138
              have P138 := P0.trans q138 (by decide)
              have hH : (∃ t', t' ≤ t + 1 ∧  u138.1 17 0 35 = nI t') := ⟨_, by omega, a138⟩
              refine ab_goto X 440 d_MO_step_141 rfl ?_
              refine ab_lv (List.forall_mem_cons.mpr ⟨List.mem_of_getElem? (i := 3) rfl, List.forall_mem_cons.mpr ⟨List.mem_of_getElem? (i := 2) rfl, fun _ h => absurd h List.not_mem_nil⟩⟩) ?_
              first | exact K440 _ (P138.wk (by decide)) hH ⟨z, Nat.le_add_right _ _, P138.fi (by decide) ez⟩ | exact K440 _ (P138.wk (by decide)) hH hZ2
            ·
              refine ab_aload_n X 2 d_MO_step_131 rfl rfl ?_
              refine ab_iconst (v := 1) X d_MO_step_132 (by decide) ?_
              refine ab_putI X fp_MO_132 d_MO_step_133 (by first | assumption | decide | (show _ < 124; omega) | (show _ < 61; omega) | (show _ < 20; omega)) rfl rfl ?_
              refine ab_gen (fun u133 e133 => ?_)
              have P133 : gP [35, 40, 118] u u133 := by rw [e133]; exact P0.ui rfl (by decide)
              refine ab_aload_n X 2 d_MO_step_136 rfl rfl ?_
              refine ab_iconst (v := 1) X d_MO_step_137 (by decide) ?_
              refine ab_callV (as := [ab_I 1]) X (fun h => by cases h) (s_MO_putOn u133 1 t P133.1 (by omega) (by first | exact et | (rw [e133]; simpa [ab_up] using et))) lk_MO_301 d_MO_step_138 rfl rfl (by first | assumption | decide | (show _ < 124; omega) | (show _ < 61; omega) | (show _ < 20; omega)) ⟨by first | exact Nat.le_of_ble_eq_true rfl | (simp only [ab_rm]; omega), by first | exact Nat.le_of_ble_eq_true rfl | (simp only [ab_rm]; omega)⟩ ⟨by first | exact Nat.le_of_ble_eq_true rfl | (simp only [ab_rm]; omega), by first | exact Nat.le_of_ble_eq_true rfl | (simp only [ab_rm]; omega)⟩ (Nat.le_of_ble_eq_true rfl) (fun u138 r138 h138 => ?_)
              obtain ⟨⟨q138, a138⟩, rfl⟩ := h138
              have P138 := P133.trans q138 (by decide)
              have hH : (∃ t', t' ≤ t + 1 ∧  u138.1 17 0 35 = nI t') := ⟨_, by omega, a138⟩
              refine ab_goto X 440 d_MO_step_141 rfl ?_
              refine ab_lv (List.forall_mem_cons.mpr ⟨List.mem_of_getElem? (i := 3) rfl, List.forall_mem_cons.mpr ⟨List.mem_of_getElem? (i := 2) rfl, fun _ h => absurd h List.not_mem_nil⟩⟩) ?_
              first | exact K440 _ (P138.wk (by decide)) hH ⟨z, Nat.le_add_right _ _, P138.fi (by decide) ez⟩ | exact K440 _ (P138.wk (by decide)) hH hZ2
    ·
      refine ab_aload_n X 2 d_MO_step_79 rfl rfl ?_
      refine ab_aload_n X 2 d_MO_step_80 rfl rfl ?_
      refine ab_callV (as := []) X (fun h => by cases h) (s_MO_take u t h (by omega) et) lk_MO_294 d_MO_step_81 rfl rfl (by first | assumption | decide | (show _ < 124; omega) | (show _ < 61; omega) | (show _ < 20; omega)) ⟨by first | exact Nat.le_of_ble_eq_true rfl | (simp only [ab_rm]; omega), by first | exact Nat.le_of_ble_eq_true rfl | (simp only [ab_rm]; omega)⟩ ⟨by first | exact Nat.le_of_ble_eq_true rfl | (simp only [ab_rm]; omega), by first | exact Nat.le_of_ble_eq_true rfl | (simp only [ab_rm]; omega)⟩ (Nat.le_of_ble_eq_true rfl) (fun u81 r81 h81 => ?_)
      obtain ⟨⟨q81, a81⟩, x81, hx81, rfl⟩ := h81
      have P81 := P0.trans q81 (by decide)
      refine ab_bipush (v := 20) X d_MO_step_84 (by decide) ?_
      refine ab_iload X 0 d_MO_step_86 rfl ?_
      refine ab_iadd X d_MO_step_88 ?_
      refine ab_icmp_ne X 96 d_MO_step_89 rfl (fun h89 => ?_) (fun h89 => ?_)
      ·
        refine ab_iconst (v := 0) X d_MO_step_96 (by decide) ?_
        refine ab_callV (as := [ab_I _]) X (fun h => by cases h) (s_MO_putOn u81 _ (t - 1) P81.1 (by omega) a81) lk_MO_301 d_MO_step_97 rfl rfl (by first | assumption | decide | (show _ < 124; omega) | (show _ < 61; omega) | (show _ < 20; omega)) ⟨by first | exact Nat.le_of_ble_eq_true rfl | (simp only [ab_rm]; omega), by first | exact Nat.le_of_ble_eq_true rfl | (simp only [ab_rm]; omega)⟩ ⟨by first | exact Nat.le_of_ble_eq_true rfl | (simp only [ab_rm]; omega), by first | exact Nat.le_of_ble_eq_true rfl | (simp only [ab_rm]; omega)⟩ (Nat.le_of_ble_eq_true rfl) (fun u97 r97 h97 => ?_)
        obtain ⟨⟨q97, a97⟩, rfl⟩ := h97
        have P97 := P81.trans q97 (by decide)
        have hH : (∃ t', t' ≤ t + 1 ∧  u97.1 17 0 35 = nI t') := ⟨_, by omega, a97⟩
        refine ab_goto X 440 d_MO_step_100 rfl ?_
        refine ab_lv (List.forall_mem_cons.mpr ⟨List.mem_of_getElem? (i := 3) rfl, List.forall_mem_cons.mpr ⟨List.mem_of_getElem? (i := 2) rfl, fun _ h => absurd h List.not_mem_nil⟩⟩) ?_
        first | exact K440 _ (P97.wk (by decide)) hH ⟨z, Nat.le_add_right _ _, P97.fi (by decide) ez⟩ | exact K440 _ (P97.wk (by decide)) hH hZ2
      ·
        refine ab_iconst (v := 1) X d_MO_step_92 (by decide) ?_
        refine ab_goto X 97 d_MO_step_93 rfl ?_
        refine ab_callV (as := [ab_I _]) X (fun h => by cases h) (s_MO_putOn u81 _ (t - 1) P81.1 (by omega) a81) lk_MO_301 d_MO_step_97 rfl rfl (by first | assumption | decide | (show _ < 124; omega) | (show _ < 61; omega) | (show _ < 20; omega)) ⟨by first | exact Nat.le_of_ble_eq_true rfl | (simp only [ab_rm]; omega), by first | exact Nat.le_of_ble_eq_true rfl | (simp only [ab_rm]; omega)⟩ ⟨by first | exact Nat.le_of_ble_eq_true rfl | (simp only [ab_rm]; omega), by first | exact Nat.le_of_ble_eq_true rfl | (simp only [ab_rm]; omega)⟩ (Nat.le_of_ble_eq_true rfl) (fun u97 r97 h97 => ?_)
        obtain ⟨⟨q97, a97⟩, rfl⟩ := h97
        have P97 := P81.trans q97 (by decide)
        have hH : (∃ t', t' ≤ t + 1 ∧  u97.1 17 0 35 = nI t') := ⟨_, by omega, a97⟩
        refine ab_goto X 440 d_MO_step_100 rfl ?_
        refine ab_lv (List.forall_mem_cons.mpr ⟨List.mem_of_getElem? (i := 3) rfl, List.forall_mem_cons.mpr ⟨List.mem_of_getElem? (i := 2) rfl, fun _ h => absurd h List.not_mem_nil⟩⟩) ?_
        first | exact K440 _ (P97.wk (by decide)) hH ⟨z, Nat.le_add_right _ _, P97.fi (by decide) ez⟩ | exact K440 _ (P97.wk (by decide)) hH hZ2
  ·
    refine ab_aload_n X 2 d_MO_step_30 rfl rfl ?_
    refine ab_callV (as := []) X (fun h => by cases h) (s_MO_take u t h (by omega) et) lk_MO_294 d_MO_step_31 rfl rfl (by first | assumption | decide | (show _ < 124; omega) | (show _ < 61; omega) | (show _ < 20; omega)) ⟨by first | exact Nat.le_of_ble_eq_true rfl | (simp only [ab_rm]; omega), by first | exact Nat.le_of_ble_eq_true rfl | (simp only [ab_rm]; omega)⟩ ⟨by first | exact Nat.le_of_ble_eq_true rfl | (simp only [ab_rm]; omega), by first | exact Nat.le_of_ble_eq_true rfl | (simp only [ab_rm]; omega)⟩ (Nat.le_of_ble_eq_true rfl) (fun u31 r31 h31 => ?_)
    obtain ⟨⟨q31, a31⟩, x31, hx31, rfl⟩ := h31
    have P31 := P0.trans q31 (by decide)
    refine ab_istore6 X 0 1 2 3 4 5 d_MO_step_34 (by decide) rfl rfl rfl rfl rfl rfl rfl rfl rfl rfl rfl rfl ?_
    refine ab_iload X 0 d_MO_step_36 rfl ?_
    refine ab_if_eq X 56 d_MO_step_38 rfl (fun h38 => ?_) (fun h38 => ?_)
    ·
      refine ab_aload_n X 3 d_MO_step_56 rfl rfl ?_
      refine ab_iload X 0 d_MO_step_57 rfl ?_
      refine ab_if_ne X 66 d_MO_step_59 rfl (fun h59 => ?_) (fun h59 => ?_)
      ·
        refine ab_iconst (v := 1) X d_MO_step_66 (by decide) ?_
        refine ab_callV (as := [ab_I _]) X (fun h => by cases h) (s_MO_putOn u31 _ (t - 1) P31.1 (by omega) (by first | exact a31 | (rw [e53]; simpa [ab_up] using a31))) lk_MO_301 d_MO_step_67 rfl rfl (by first | assumption | decide | (show _ < 124; omega) | (show _ < 61; omega) | (show _ < 20; omega)) ⟨by first | exact Nat.le_of_ble_eq_true rfl | (simp only [ab_rm]; omega), by first | exact Nat.le_of_ble_eq_true rfl | (simp only [ab_rm]; omega)⟩ ⟨by first | exact Nat.le_of_ble_eq_true rfl | (simp only [ab_rm]; omega), by first | exact Nat.le_of_ble_eq_true rfl | (simp only [ab_rm]; omega)⟩ (Nat.le_of_ble_eq_true rfl) (fun u67 r67 h67 => ?_)
        obtain ⟨⟨q67, a67⟩, rfl⟩ := h67
        have P67 := P31.trans q67 (by decide)
        have hH : (∃ t', t' ≤ t + 1 ∧  u67.1 17 0 35 = nI t') := ⟨_, by omega, a67⟩
        refine ab_goto X 440 d_MO_step_70 rfl ?_
        refine ab_lv (List.forall_mem_cons.mpr ⟨List.mem_of_getElem? (i := 4) rfl, List.forall_mem_cons.mpr ⟨List.mem_of_getElem? (i := 3) rfl, fun _ h => absurd h List.not_mem_nil⟩⟩) ?_
        first | exact K440 _ (P67.wk (by decide)) hH ⟨z, Nat.le_add_right _ _, P67.fi (by decide) ez⟩ | exact K440 _ (P67.wk (by decide)) hH hZ2
      ·
        refine ab_iconst (v := 0) X d_MO_step_62 (by decide) ?_
        refine ab_goto X 67 d_MO_step_63 rfl ?_
        refine ab_callV (as := [ab_I _]) X (fun h => by cases h) (s_MO_putOn u31 _ (t - 1) P31.1 (by omega) (by first | exact a31 | (rw [e53]; simpa [ab_up] using a31))) lk_MO_301 d_MO_step_67 rfl rfl (by first | assumption | decide | (show _ < 124; omega) | (show _ < 61; omega) | (show _ < 20; omega)) ⟨by first | exact Nat.le_of_ble_eq_true rfl | (simp only [ab_rm]; omega), by first | exact Nat.le_of_ble_eq_true rfl | (simp only [ab_rm]; omega)⟩ ⟨by first | exact Nat.le_of_ble_eq_true rfl | (simp only [ab_rm]; omega), by first | exact Nat.le_of_ble_eq_true rfl | (simp only [ab_rm]; omega)⟩ (Nat.le_of_ble_eq_true rfl) (fun u67 r67 h67 => ?_)
        obtain ⟨⟨q67, a67⟩, rfl⟩ := h67
        have P67 := P31.trans q67 (by decide)
        have hH : (∃ t', t' ≤ t + 1 ∧  u67.1 17 0 35 = nI t') := ⟨_, by omega, a67⟩
        refine ab_goto X 440 d_MO_step_70 rfl ?_
        refine ab_lv (List.forall_mem_cons.mpr ⟨List.mem_of_getElem? (i := 4) rfl, List.forall_mem_cons.mpr ⟨List.mem_of_getElem? (i := 3) rfl, fun _ h => absurd h List.not_mem_nil⟩⟩) ?_
        first | exact K440 _ (P67.wk (by decide)) hH ⟨z, Nat.le_add_right _ _, P67.fi (by decide) ez⟩ | exact K440 _ (P67.wk (by decide)) hH hZ2
    ·
      refine ab_iload X 0 d_MO_step_41 rfl ?_
      refine ab_bipush (v := 10) X d_MO_step_43 (by decide) ?_
      refine ab_iload X 1 d_MO_step_45 rfl ?_
      refine ab_iadd X d_MO_step_47 ?_
      refine ab_icmp_eq X 56 d_MO_step_48 rfl (fun h48 => ?_) (fun h48 => ?_)
      ·
        refine ab_aload_n X 3 d_MO_step_56 rfl rfl ?_
        refine ab_iload X 0 d_MO_step_57 rfl ?_
        refine ab_if_ne X 66 d_MO_step_59 rfl (fun h59 => ?_) (fun h59 => ?_)
        ·
          refine ab_iconst (v := 1) X d_MO_step_66 (by decide) ?_
          refine ab_callV (as := [ab_I _]) X (fun h => by cases h) (s_MO_putOn u31 _ (t - 1) P31.1 (by omega) (by first | exact a31 | (rw [e53]; simpa [ab_up] using a31))) lk_MO_301 d_MO_step_67 rfl rfl (by first | assumption | decide | (show _ < 124; omega) | (show _ < 61; omega) | (show _ < 20; omega)) ⟨by first | exact Nat.le_of_ble_eq_true rfl | (simp only [ab_rm]; omega), by first | exact Nat.le_of_ble_eq_true rfl | (simp only [ab_rm]; omega)⟩ ⟨by first | exact Nat.le_of_ble_eq_true rfl | (simp only [ab_rm]; omega), by first | exact Nat.le_of_ble_eq_true rfl | (simp only [ab_rm]; omega)⟩ (Nat.le_of_ble_eq_true rfl) (fun u67 r67 h67 => ?_)
          obtain ⟨⟨q67, a67⟩, rfl⟩ := h67
          have P67 := P31.trans q67 (by decide)
          have hH : (∃ t', t' ≤ t + 1 ∧  u67.1 17 0 35 = nI t') := ⟨_, by omega, a67⟩
          refine ab_goto X 440 d_MO_step_70 rfl ?_
          refine ab_lv (List.forall_mem_cons.mpr ⟨List.mem_of_getElem? (i := 4) rfl, List.forall_mem_cons.mpr ⟨List.mem_of_getElem? (i := 3) rfl, fun _ h => absurd h List.not_mem_nil⟩⟩) ?_
          first | exact K440 _ (P67.wk (by decide)) hH ⟨z, Nat.le_add_right _ _, P67.fi (by decide) ez⟩ | exact K440 _ (P67.wk (by decide)) hH hZ2
        ·
          refine ab_iconst (v := 0) X d_MO_step_62 (by decide) ?_
          refine ab_goto X 67 d_MO_step_63 rfl ?_
          refine ab_callV (as := [ab_I _]) X (fun h => by cases h) (s_MO_putOn u31 _ (t - 1) P31.1 (by omega) (by first | exact a31 | (rw [e53]; simpa [ab_up] using a31))) lk_MO_301 d_MO_step_67 rfl rfl (by first | assumption | decide | (show _ < 124; omega) | (show _ < 61; omega) | (show _ < 20; omega)) ⟨by first | exact Nat.le_of_ble_eq_true rfl | (simp only [ab_rm]; omega), by first | exact Nat.le_of_ble_eq_true rfl | (simp only [ab_rm]; omega)⟩ ⟨by first | exact Nat.le_of_ble_eq_true rfl | (simp only [ab_rm]; omega), by first | exact Nat.le_of_ble_eq_true rfl | (simp only [ab_rm]; omega)⟩ (Nat.le_of_ble_eq_true rfl) (fun u67 r67 h67 => ?_)
          obtain ⟨⟨q67, a67⟩, rfl⟩ := h67
          have P67 := P31.trans q67 (by decide)
          have hH : (∃ t', t' ≤ t + 1 ∧  u67.1 17 0 35 = nI t') := ⟨_, by omega, a67⟩
          refine ab_goto X 440 d_MO_step_70 rfl ?_
          refine ab_lv (List.forall_mem_cons.mpr ⟨List.mem_of_getElem? (i := 4) rfl, List.forall_mem_cons.mpr ⟨List.mem_of_getElem? (i := 3) rfl, fun _ h => absurd h List.not_mem_nil⟩⟩) ?_
          first | exact K440 _ (P67.wk (by decide)) hH ⟨z, Nat.le_add_right _ _, P67.fi (by decide) ez⟩ | exact K440 _ (P67.wk (by decide)) hH hZ2
      ·
        refine ab_aload_n X 3 d_MO_step_51 rfl rfl ?_
        refine ab_iconst (v := 1) X d_MO_step_52 (by decide) ?_
        refine ab_putI X fp_MO_132 d_MO_step_53 (by first | assumption | decide | (show _ < 124; omega) | (show _ < 61; omega) | (show _ < 20; omega)) rfl rfl ?_
        refine ab_gen (fun u53 e53 => ?_)
        have P53 : gP [35, 40, 118] u u53 := by rw [e53]; exact P31.ui rfl (by decide)
        refine ab_aload_n X 3 d_MO_step_56 rfl rfl ?_
        refine ab_iload X 0 d_MO_step_57 rfl ?_
        refine ab_if_ne X 66 d_MO_step_59 rfl (fun h59 => ?_) (fun h59 => ?_)
        ·
          refine ab_iconst (v := 1) X d_MO_step_66 (by decide) ?_
          refine ab_callV (as := [ab_I _]) X (fun h => by cases h) (s_MO_putOn u53 _ (t - 1) P53.1 (by omega) (by first | exact a31 | (rw [e53]; simpa [ab_up] using a31))) lk_MO_301 d_MO_step_67 rfl rfl (by first | assumption | decide | (show _ < 124; omega) | (show _ < 61; omega) | (show _ < 20; omega)) ⟨by first | exact Nat.le_of_ble_eq_true rfl | (simp only [ab_rm]; omega), by first | exact Nat.le_of_ble_eq_true rfl | (simp only [ab_rm]; omega)⟩ ⟨by first | exact Nat.le_of_ble_eq_true rfl | (simp only [ab_rm]; omega), by first | exact Nat.le_of_ble_eq_true rfl | (simp only [ab_rm]; omega)⟩ (Nat.le_of_ble_eq_true rfl) (fun u67 r67 h67 => ?_)
          obtain ⟨⟨q67, a67⟩, rfl⟩ := h67
          have P67 := P53.trans q67 (by decide)
          have hH : (∃ t', t' ≤ t + 1 ∧  u67.1 17 0 35 = nI t') := ⟨_, by omega, a67⟩
          refine ab_goto X 440 d_MO_step_70 rfl ?_
          refine ab_lv (List.forall_mem_cons.mpr ⟨List.mem_of_getElem? (i := 4) rfl, List.forall_mem_cons.mpr ⟨List.mem_of_getElem? (i := 3) rfl, fun _ h => absurd h List.not_mem_nil⟩⟩) ?_
          first | exact K440 _ (P67.wk (by decide)) hH ⟨z, Nat.le_add_right _ _, P67.fi (by decide) ez⟩ | exact K440 _ (P67.wk (by decide)) hH hZ2
        ·
          refine ab_iconst (v := 0) X d_MO_step_62 (by decide) ?_
          refine ab_goto X 67 d_MO_step_63 rfl ?_
          refine ab_callV (as := [ab_I _]) X (fun h => by cases h) (s_MO_putOn u53 _ (t - 1) P53.1 (by omega) (by first | exact a31 | (rw [e53]; simpa [ab_up] using a31))) lk_MO_301 d_MO_step_67 rfl rfl (by first | assumption | decide | (show _ < 124; omega) | (show _ < 61; omega) | (show _ < 20; omega)) ⟨by first | exact Nat.le_of_ble_eq_true rfl | (simp only [ab_rm]; omega), by first | exact Nat.le_of_ble_eq_true rfl | (simp only [ab_rm]; omega)⟩ ⟨by first | exact Nat.le_of_ble_eq_true rfl | (simp only [ab_rm]; omega), by first | exact Nat.le_of_ble_eq_true rfl | (simp only [ab_rm]; omega)⟩ (Nat.le_of_ble_eq_true rfl) (fun u67 r67 h67 => ?_)
          obtain ⟨⟨q67, a67⟩, rfl⟩ := h67
          have P67 := P53.trans q67 (by decide)
          have hH : (∃ t', t' ≤ t + 1 ∧  u67.1 17 0 35 = nI t') := ⟨_, by omega, a67⟩
          refine ab_goto X 440 d_MO_step_70 rfl ?_
          refine ab_lv (List.forall_mem_cons.mpr ⟨List.mem_of_getElem? (i := 4) rfl, List.forall_mem_cons.mpr ⟨List.mem_of_getElem? (i := 3) rfl, fun _ h => absurd h List.not_mem_nil⟩⟩) ?_
          first | exact K440 _ (P67.wk (by decide)) hH ⟨z, Nat.le_add_right _ _, P67.fi (by decide) ez⟩ | exact K440 _ (P67.wk (by decide)) hH hZ2
/-- what the script of a whole is: no longer than n, all that is begun is ended, few words lay aside -/
def scV (n : Nat) (u : ab_S) : Prop := 1 ≤ n ∧ n ≤ 86 ∧ bal (ol u 0 n) ∧ cas (ol u 0 n) ≤ 9
theorem scV.run {n : Nat} {u : ab_S} (h : scV n u) (i : Nat) (hi : i ≤ n) : ∃ s, rl (ol u i (n - i)) s = some [] := by
  have e := h.2.2.1 []
  rw [show n = i + (n - i) by omega, ol_app, rl_app] at e
  rw [Nat.zero_add] at e
  cases q : rl (ol u 0 i) [] with
  | none => rw [q] at e; exact absurd e (by simp)
  | some s =>
    rw [q] at e
    exact ⟨s, e⟩
theorem cas_le {u : ab_S} {m n : Nat} (h : m ≤ n) : cas (ol u 0 m) ≤ cas (ol u 0 n) := by
  rw [show n = m + (n - m) by omega, ol_app, cas_app]; omega
theorem cas_step {u : ab_S} {i a : Nat} (h : i < a) : cas (ol u 0 i) + (if opv u i = 10 then 1 else 0) ≤ cas (ol u 0 a) := by
  refine Nat.le_trans ?_ (cas_le (show i + 1 ≤ a by omega))
  rw [ol_app, cas_app, Nat.zero_add]
  exact Nat.le_refl _
set_option maxRecDepth 100000 in
set_option maxHeartbeats 4000000 in
theorem s_MO_check (u : ab_S) (mi : Nat) (hh aa : Int32) (h : mR u.2.1) (hm : mi ≤ 40) (em : u.1 17 0 32 = nI mi) (hs : u.1 17 0 4 = 0 ∨ ∃ n, scV n u ∧ u.1 18 6 0 = nI n) : ab_C false l D ca y_MO_check b_MO_check 5 (some FieldType.int) 4 ab_nQ u [ab_O 17 0, ab_I hh, ab_I aa] (fun u' v => gP [0, 33, 35, 37, 40, 118, 119] u u' ∧ ∃ x : Int32, v = some (ab_I x)) := by
  refine ab_C.of (by decide) (Nat.le_of_ble_eq_true rfl) ?_
  intro p e s m args below meth c ad X hZ hr0 hlk
  have P0 : gP [0, 33, 35, 37, 40, 118, 119] u u := gP.rf h
  have main : ∀ n, scV n u → u.1 18 6 0 = nI n → ∀ u1, gP [0, 33, 35, 37, 40, 118, 119] u u1 → u1.1 17 0 35 = nI mi → u1.1 17 0 37 = nI 0 → ab_J p l e (ab_rm 4 0 0) s m args below meth c (MQ below (ab_Q D ca ad ab_nQ s.heap.size (fun u' v => gP [0, 33, 35, 37, 40, 118, 119] u u' ∧ ∃ x : Int32, v = some (ab_I x))) args s 0 0 (ab_A ad ab_nQ s.heap.size)) D ca (ab_A ad ab_nQ s.heap.size) s.heap 5 0 0 ad ab_nQ u1 72 [(0, ab_O 17 0), (1, ab_I hh), (2, ab_I aa)] [] := by
    intro n hV en
    have K118 : ∀ (u1 : ab_S) (y : Int32), gP [0, 33, 35, 37, 40, 118, 119] u u1 → ab_J p l e (ab_rm 4 0 0) s m args below meth c (MQ below (ab_Q D ca ad ab_nQ s.heap.size (fun u' v => gP [0, 33, 35, 37, 40, 118, 119] u u' ∧ ∃ x : Int32, v = some (ab_I x))) args s 0 0 (ab_A ad ab_nQ s.heap.size)) D ca (ab_A ad ab_nQ s.heap.size) s.heap 5 0 0 ad ab_nQ u1 118 [(4, ab_I y), (0, ab_O 17 0), (1, ab_I hh), (2, ab_I aa)] [] := by
      intro u1 y P1
      refine ab_aload_n X 1 d_MO_check_118 rfl rfl ?_
      refine ab_gI X fl_MO_132 d_MO_check_119 (by first | assumption | decide | (show _ < 124; omega) | (show _ < 61; omega) | (show _ < 20; omega)) (rfl) ?_
      refine ab_if_eq X 128 d_MO_check_122 rfl (fun h122 => ?_) (fun h122 => ?_)
      ·
        refine ab_aload_n X 1 d_MO_check_128 rfl rfl ?_
        refine ab_gI X fl_MO_117 d_MO_check_129 (by first | assumption | decide | (show _ < 124; omega) | (show _ < 61; omega) | (show _ < 20; omega)) (rfl) ?_
        refine ab_iconst (v := 1) X d_MO_check_132 (by decide) ?_
        refine ab_icmp_ne X 157 d_MO_check_133 rfl (fun h133 => ?_) (fun h133 => ?_)
        ·
          refine ab_aload_n X 1 d_MO_check_157 rfl rfl ?_
          refine ab_gR X fl_MO_48 d_MO_check_158 (by first | assumption | decide | (show _ < 124; omega) | (show _ < 61; omega) | (show _ < 20; omega)) (P1.1.mo12) ?_
          refine ab_iconst (v := 0) X d_MO_check_161 (by decide) ?_
          refine ab_iald X (0) ⟨rfl, rfl⟩ d_MO_check_162 (by first | assumption | decide | (show _ < 124; omega) | (show _ < 61; omega) | (show _ < 20; omega)) (rfl) (show 0 < 72 by decide) (ab_ln_lt _ _) ?_
          exact ab_reti X hr0 hlk d_MO_check_163 ⟨P1, _, rfl⟩
        ·
          refine ab_aload_n X 1 d_MO_check_136 rfl rfl ?_
          refine ab_gR X fl_MO_114 d_MO_check_137 (by first | assumption | decide | (show _ < 124; omega) | (show _ < 61; omega) | (show _ < 20; omega)) (P1.1.mo34) ?_
          refine ab_iconst (v := 0) X d_MO_check_140 (by decide) ?_
          refine ab_iald X (0) ⟨rfl, rfl⟩ d_MO_check_141 (by first | assumption | decide | (show _ < 124; omega) | (show _ < 61; omega) | (show _ < 20; omega)) (rfl) (show 0 < 128 by decide) (ab_ln_lt _ _) ?_
          refine ab_iconst (v := 1) X d_MO_check_142 (by decide) ?_
          refine ab_icmp_ne X 157 d_MO_check_143 rfl (fun h143 => ?_) (fun h143 => ?_)
          ·
            refine ab_aload_n X 1 d_MO_check_157 rfl rfl ?_
            refine ab_gR X fl_MO_48 d_MO_check_158 (by first | assumption | decide | (show _ < 124; omega) | (show _ < 61; omega) | (show _ < 20; omega)) (P1.1.mo12) ?_
            refine ab_iconst (v := 0) X d_MO_check_161 (by decide) ?_
            refine ab_iald X (0) ⟨rfl, rfl⟩ d_MO_check_162 (by first | assumption | decide | (show _ < 124; omega) | (show _ < 61; omega) | (show _ < 20; omega)) (rfl) (show 0 < 72 by decide) (ab_ln_lt _ _) ?_
            exact ab_reti X hr0 hlk d_MO_check_163 ⟨P1, _, rfl⟩
          ·
            refine ab_aload_n X 1 d_MO_check_146 rfl rfl ?_
            refine ab_gI X fl_MO_123 d_MO_check_147 (by first | assumption | decide | (show _ < 124; omega) | (show _ < 61; omega) | (show _ < 20; omega)) (rfl) ?_
            refine ab_if_ne X 157 d_MO_check_150 rfl (fun h150 => ?_) (fun h150 => ?_)
            ·
              refine ab_aload_n X 1 d_MO_check_157 rfl rfl ?_
              refine ab_gR X fl_MO_48 d_MO_check_158 (by first | assumption | decide | (show _ < 124; omega) | (show _ < 61; omega) | (show _ < 20; omega)) (P1.1.mo12) ?_
              refine ab_iconst (v := 0) X d_MO_check_161 (by decide) ?_
              refine ab_iald X (0) ⟨rfl, rfl⟩ d_MO_check_162 (by first | assumption | decide | (show _ < 124; omega) | (show _ < 61; omega) | (show _ < 20; omega)) (rfl) (show 0 < 72 by decide) (ab_ln_lt _ _) ?_
              exact ab_reti X hr0 hlk d_MO_check_163 ⟨P1, _, rfl⟩
            ·
              refine ab_iconst (v := (-1)) X d_MO_check_153 (by decide) ?_
              refine ab_goto X 163 d_MO_check_154 rfl ?_
              exact ab_reti X hr0 hlk d_MO_check_163 ⟨P1, _, rfl⟩
      ·
        refine ab_iload X 0 d_MO_check_125 rfl ?_
        exact ab_reti X hr0 hlk d_MO_check_127 ⟨P1, _, rfl⟩
    have stop : ∀ (u1 : ab_S) (a : Nat) (y : Int32), gP [0, 33, 35, 37, 40, 118, 119] u u1 → ¬ u1.1 17 0 40 = 0 → ab_J p l e (ab_rm 4 0 0) s m args below meth c (MQ below (ab_Q D ca ad ab_nQ s.heap.size (fun u' v => gP [0, 33, 35, 37, 40, 118, 119] u u' ∧ ∃ x : Int32, v = some (ab_I x))) args s 0 0 (ab_A ad ab_nQ s.heap.size)) D ca (ab_A ad ab_nQ s.heap.size) s.heap 5 0 0 ad ab_nQ u1 77 [(3, ab_I (nI a)), (4, ab_I y), (0, ab_O 17 0), (1, ab_I hh), (2, ab_I aa)] [] := by
      intro u1 a y P1 hf
      refine ab_iload_n X 0 d_MO_check_77 rfl rfl ?_
      refine ab_aload_n X 2 d_MO_check_78 rfl rfl ?_
      refine ab_gR X fl_MO_48 d_MO_check_79 (by first | assumption | decide | (show _ < 124; omega) | (show _ < 61; omega) | (show _ < 20; omega)) (P1.1.mo12) ?_
      refine ab_iconst (v := 0) X d_MO_check_82 (by decide) ?_
      refine ab_iald X (0) ⟨rfl, rfl⟩ d_MO_check_83 (by first | assumption | decide | (show _ < 124; omega) | (show _ < 61; omega) | (show _ < 20; omega)) (rfl) (show 0 < 72 by decide) (ab_ln_lt _ _) ?_
      refine ab_icmp_ge X 118 d_MO_check_84 rfl (fun h84 => ?_) (fun h84 => ?_)
      ·
        refine ab_lv (List.forall_mem_cons.mpr ⟨List.mem_of_getElem? (i := 1) rfl, List.forall_mem_cons.mpr ⟨List.mem_of_getElem? (i := 2) rfl, List.forall_mem_cons.mpr ⟨List.mem_of_getElem? (i := 3) rfl, List.forall_mem_cons.mpr ⟨List.mem_of_getElem? (i := 4) rfl, fun _ h => absurd h List.not_mem_nil⟩⟩⟩⟩) ?_
        exact K118 _ _ P1
      ·
        refine ab_aload_n X 2 d_MO_check_87 rfl rfl ?_
        refine ab_gI X fl_MO_132 d_MO_check_88 (by first | assumption | decide | (show _ < 124; omega) | (show _ < 61; omega) | (show _ < 20; omega)) (rfl) ?_
        refine ab_if_ne X 118 d_MO_check_91 rfl (fun _ => ?_) (fun hb => absurd hb (hf))
        refine ab_lv (List.forall_mem_cons.mpr ⟨List.mem_of_getElem? (i := 1) rfl, List.forall_mem_cons.mpr ⟨List.mem_of_getElem? (i := 2) rfl, List.forall_mem_cons.mpr ⟨List.mem_of_getElem? (i := 3) rfl, List.forall_mem_cons.mpr ⟨List.mem_of_getElem? (i := 4) rfl, fun _ h => absurd h List.not_mem_nil⟩⟩⟩⟩) ?_
        exact K118 _ _ P1
    have loop : ∀ (k a t z : Nat) (u1 : ab_S) (y : Int32), k + a = n → gP [0, 33, 35, 37, 40, 118, 119] u u1 → t ≤ mi + a → u1.1 17 0 35 = nI t → z ≤ cas (ol u 0 a) → u1.1 17 0 37 = nI z → ab_J p l e (ab_rm 4 0 0) s m args below meth c (MQ below (ab_Q D ca ad ab_nQ s.heap.size (fun u' v => gP [0, 33, 35, 37, 40, 118, 119] u u' ∧ ∃ x : Int32, v = some (ab_I x))) args s 0 0 (ab_A ad ab_nQ s.heap.size)) D ca (ab_A ad ab_nQ s.heap.size) s.heap 5 0 0 ad ab_nQ u1 77 [(3, ab_I (nI a)), (4, ab_I y), (0, ab_O 17 0), (1, ab_I hh), (2, ab_I aa)] [] := by
      intro k
      induction k using Nat.strongRecOn with
      | ind k ih =>
      intro a t z u1 y hk P1 ht et hz ez
      have hc := cas_le (u := u) (show a ≤ n by omega)
      have hc9 := hV.2.2.2
      have hn := hV.2.1
      by_cases q : a = n
      · subst q
        refine ab_iload_n X 0 d_MO_check_77 rfl rfl ?_
        refine ab_aload_n X 2 d_MO_check_78 rfl rfl ?_
        refine ab_gR X fl_MO_48 d_MO_check_79 (by first | assumption | decide | (show _ < 124; omega) | (show _ < 61; omega) | (show _ < 20; omega)) (P1.1.mo12) ?_
        refine ab_iconst (v := 0) X d_MO_check_82 (by decide) ?_
        refine ab_iald X (0) ⟨rfl, rfl⟩ d_MO_check_83 (by first | assumption | decide | (show _ < 124; omega) | (show _ < 61; omega) | (show _ < 20; omega)) (rfl) (show 0 < 72 by decide) (ab_ln_lt _ _) ?_
        refine ab_top (P1.ai (by decide) en) ?_
        refine ab_icmp_ge X 118 d_MO_check_84 rfl (fun _ => ?_) (fun hb => absurd ((nI_le (Nat.le_refl _) (by omega))) hb)
        refine ab_lv (List.forall_mem_cons.mpr ⟨List.mem_of_getElem? (i := 1) rfl, List.forall_mem_cons.mpr ⟨List.mem_of_getElem? (i := 2) rfl, List.forall_mem_cons.mpr ⟨List.mem_of_getElem? (i := 3) rfl, List.forall_mem_cons.mpr ⟨List.mem_of_getElem? (i := 4) rfl, fun _ h => absurd h List.not_mem_nil⟩⟩⟩⟩) ?_
        exact K118 _ _ P1
      · obtain ⟨s0, hs0⟩ := hV.run a (by omega)
        refine ab_iload_n X 0 d_MO_check_77 rfl rfl ?_
        refine ab_aload_n X 2 d_MO_check_78 rfl rfl ?_
        refine ab_gR X fl_MO_48 d_MO_check_79 (by first | assumption | decide | (show _ < 124; omega) | (show _ < 61; omega) | (show _ < 20; omega)) (P1.1.mo12) ?_
        refine ab_iconst (v := 0) X d_MO_check_82 (by decide) ?_
        refine ab_iald X (0) ⟨rfl, rfl⟩ d_MO_check_83 (by first | assumption | decide | (show _ < 124; omega) | (show _ < 61; omega) | (show _ < 20; omega)) (rfl) (show 0 < 72 by decide) (ab_ln_lt _ _) ?_
        refine ab_top (P1.ai (by decide) en) ?_
        refine ab_icmp_ge X 118 d_MO_check_84 rfl (fun hb => absurd hb ((nI_ge (by omega) (by omega)))) (fun _ => ?_)
        refine ab_aload_n X 2 d_MO_check_87 rfl rfl ?_
        refine ab_gI X fl_MO_132 d_MO_check_88 (by first | assumption | decide | (show _ < 124; omega) | (show _ < 61; omega) | (show _ < 20; omega)) (rfl) ?_
        refine ab_if_ne X 118 d_MO_check_91 rfl (fun h91 => ?_) (fun h91 => ?_)
        ·
          refine ab_lv (List.forall_mem_cons.mpr ⟨List.mem_of_getElem? (i := 1) rfl, List.forall_mem_cons.mpr ⟨List.mem_of_getElem? (i := 2) rfl, List.forall_mem_cons.mpr ⟨List.mem_of_getElem? (i := 3) rfl, List.forall_mem_cons.mpr ⟨List.mem_of_getElem? (i := 4) rfl, fun _ h => absurd h List.not_mem_nil⟩⟩⟩⟩) ?_
          exact K118 _ _ P1
        ·
          refine ab_iload_n X 0 d_MO_check_94 rfl rfl ?_
          refine ab_istore4 X 0 2 3 4 d_MO_check_95 (by decide) rfl rfl rfl rfl rfl rfl rfl rfl ?_
          refine ab_aload_n X 2 d_MO_check_97 rfl rfl ?_
          refine ab_iload_n X 1 d_MO_check_98 rfl rfl ?_
          refine ab_iload_n X 3 d_MO_check_99 rfl rfl ?_
          refine ab_iload_n X 4 d_MO_check_100 rfl rfl ?_
          refine ab_callV (as := [ab_I (nI a), ab_I hh, ab_I aa]) X (fun h => by cases h) (s_MO_step u1 a n t z hh aa P1.1 (by omega) (by omega) (by omega) et (by omega) ez s0 (by rw [ol_fr P1 (by decide)]; exact hs0)) lk_MO_330 d_MO_check_101 rfl rfl (by first | assumption | decide | (show _ < 124; omega) | (show _ < 61; omega) | (show _ < 20; omega)) ⟨by first | exact Nat.le_of_ble_eq_true rfl | (simp only [ab_rm]; omega), by first | exact Nat.le_of_ble_eq_true rfl | (simp only [ab_rm]; omega)⟩ ⟨by first | exact Nat.le_of_ble_eq_true rfl | (simp only [ab_rm]; omega), by first | exact Nat.le_of_ble_eq_true rfl | (simp only [ab_rm]; omega)⟩ (Nat.le_of_ble_eq_true rfl) (fun u101 r101 h101 => ?_)
          obtain ⟨⟨q101, ⟨t', ht', et'⟩, z', hz', ez'⟩, a', ha', rfl⟩ := h101
          have P101 := P1.trans q101 (by decide)
          refine ab_istore_n4 X 0 2 3 4 d_MO_check_104 rfl (by decide) rfl rfl rfl rfl rfl rfl rfl rfl ?_
          refine ab_aload_n X 2 d_MO_check_105 rfl rfl ?_
          refine ab_dup X d_MO_check_106 rfl ?_
          refine ab_gI X fl_MO_111 d_MO_check_107 (by first | assumption | decide | (show _ < 124; omega) | (show _ < 61; omega) | (show _ < 20; omega)) (rfl) ?_
          refine ab_iconst (v := 1) X d_MO_check_110 (by decide) ?_
          refine ab_iadd X d_MO_check_111 ?_
          refine ab_putI X fp_MO_111 d_MO_check_112 (by first | assumption | decide | (show _ < 124; omega) | (show _ < 61; omega) | (show _ < 20; omega)) rfl rfl ?_
          refine ab_gen (fun u112 e112 => ?_)
          have P112 : gP [0, 33, 35, 37, 40, 118, 119] u u112 := by rw [e112]; exact P101.ui rfl (by decide)
          refine ab_goto X 77 d_MO_check_115 rfl ?_
          rcases ha' with ⟨b1, b2⟩ | ⟨rfl, b2⟩
          · exact ih (n - a') (by omega) a' t' z' _ _ (by omega) P112 (by omega) (by rw [e112]; simpa [ab_up] using et') (by have := cas_step (u := u) b1; rw [show opv u1 a = opv u a by unfold opv; rw [P1.ai (by decide) rfl]] at hz'; omega) (by rw [e112]; simpa [ab_up] using ez')
          · exact stop _ _ _ P112 (by rw [e112]; simpa [ab_up] using b2)
    intro u1 P1 a1 a2
    refine ab_iconst (v := 0) X d_MO_check_72 (by decide) ?_
    refine ab_istore_n3 X 0 1 2 d_MO_check_73 rfl (by decide) rfl rfl rfl rfl rfl rfl ?_
    refine ab_iconst (v := 0) X d_MO_check_74 (by decide) ?_
    refine ab_istore4 X 0 1 2 3 d_MO_check_75 (by decide) rfl rfl rfl rfl rfl rfl rfl rfl ?_
    refine ab_lv (List.forall_mem_cons.mpr ⟨List.mem_of_getElem? (i := 1) rfl, List.forall_mem_cons.mpr ⟨List.mem_of_getElem? (i := 0) rfl, List.forall_mem_cons.mpr ⟨List.mem_of_getElem? (i := 2) rfl, List.forall_mem_cons.mpr ⟨List.mem_of_getElem? (i := 3) rfl, List.forall_mem_cons.mpr ⟨List.mem_of_getElem? (i := 4) rfl, fun _ h => absurd h List.not_mem_nil⟩⟩⟩⟩⟩) ?_
    exact loop n 0 mi 0 _ _ (by omega) P1 (by omega) a1 (Nat.zero_le _) a2
  have put : ∀ n, scV n u → u.1 18 6 0 = nI n → ∀ (j : Nat) (u1 : ab_S), j ≤ mi → gP [0, 33, 35, 37, 40, 118, 119] u u1 → u1.1 17 0 35 = nI (mi - j) → u1.1 17 0 37 = nI 0 → ab_J p l e (ab_rm 4 0 0) s m args below meth c (MQ below (ab_Q D ca ad ab_nQ s.heap.size (fun u' v => gP [0, 33, 35, 37, 40, 118, 119] u u' ∧ ∃ x : Int32, v = some (ab_I x))) args s 0 0 (ab_A ad ab_nQ s.heap.size)) D ca (ab_A ad ab_nQ s.heap.size) s.heap 5 0 0 ad ab_nQ u1 52 [(3, ab_I (nI j - 1)), (0, ab_O 17 0), (1, ab_I hh), (2, ab_I aa)] [] := by
    intro n hV en j
    induction j with
    | zero =>
      intro u1 hj P1 a1 a2
      refine ab_iload_n X 0 d_MO_check_52 rfl rfl ?_
      refine ab_if_lt X 72 d_MO_check_53 rfl (fun _ => ?_) (fun hb => absurd ((by decide)) hb)
      refine ab_lv (List.forall_mem_cons.mpr ⟨List.mem_of_getElem? (i := 1) rfl, List.forall_mem_cons.mpr ⟨List.mem_of_getElem? (i := 2) rfl, List.forall_mem_cons.mpr ⟨List.mem_of_getElem? (i := 3) rfl, fun _ h => absurd h List.not_mem_nil⟩⟩⟩) ?_
      exact main n hV en _ P1 a1 a2
    | succ j ih =>
      intro u1 hj P1 a1 a2
      rw [nI_m1 (by omega), show j + 1 - 1 = j by omega]
      refine ab_iload_n X 0 d_MO_check_52 rfl rfl ?_
      refine ab_if_lt X 72 d_MO_check_53 rfl (fun hb => absurd hb ((nI_pos (by omega)))) (fun _ => ?_)
      refine ab_aload_n X 1 d_MO_check_56 rfl rfl ?_
      refine ab_aload_n X 1 d_MO_check_57 rfl rfl ?_
      refine ab_gR X fl_MO_105 d_MO_check_58 (by first | assumption | decide | (show _ < 124; omega) | (show _ < 61; omega) | (show _ < 20; omega)) (P1.1.mo31) ?_
      refine ab_iload_n X 0 d_MO_check_61 rfl rfl ?_
      refine ab_iald X (j) ⟨rfl, rfl⟩ d_MO_check_62 (by first | assumption | decide | (show _ < 124; omega) | (show _ < 61; omega) | (show _ < 20; omega)) (rfl) (show j < 64 by omega) (ab_ln_lt _ _) ?_
      refine ab_callV (as := [ab_I _]) X (fun h => by cases h) (s_MO_putOn u1 _ (mi - (j + 1)) P1.1 (by omega) a1) lk_MO_301 d_MO_check_63 rfl rfl (by first | assumption | decide | (show _ < 124; omega) | (show _ < 61; omega) | (show _ < 20; omega)) ⟨by first | exact Nat.le_of_ble_eq_true rfl | (simp only [ab_rm]; omega), by first | exact Nat.le_of_ble_eq_true rfl | (simp only [ab_rm]; omega)⟩ ⟨by first | exact Nat.le_of_ble_eq_true rfl | (simp only [ab_rm]; omega), by first | exact Nat.le_of_ble_eq_true rfl | (simp only [ab_rm]; omega)⟩ (Nat.le_of_ble_eq_true rfl) (fun u63 r63 h63 => ?_)
      obtain ⟨⟨q63, a63⟩, rfl⟩ := h63
      have P63 := P1.trans q63 (by decide)
      refine ab_iinc3 X 0 1 2 3 d_MO_check_66 rfl (by decide) rfl rfl rfl rfl rfl rfl ?_
      refine ab_goto X 52 d_MO_check_69 rfl ?_
      rw [show nI j + Int32.ofInt (-1) = nI j - 1 from by rw [Int32.sub_eq_add_neg]; rfl]
      exact ih _ (by omega) P63 (a63.trans (by congr 1; omega)) (q63.fi (by decide) a2)
  rcases hs with h0 | ⟨n, hV, en⟩
  ·
    refine ab_aload_n X 0 d_MO_check_0 rfl rfl ?_
    refine ab_aload_n X 0 d_MO_check_1 rfl rfl ?_
    refine ab_gI X fl_MO_23 d_MO_check_2 (by first | assumption | decide | (show _ < 124; omega) | (show _ < 61; omega) | (show _ < 20; omega)) (h0) ?_
    refine ab_if_eq X 12 d_MO_check_5 rfl (fun _ => ?_) (fun hb => absurd (rfl) hb)
    refine ab_iconst (v := 1) X d_MO_check_12 (by decide) ?_
    refine ab_putI X fp_MO_7 d_MO_check_13 (by first | assumption | decide | (show _ < 124; omega) | (show _ < 61; omega) | (show _ < 20; omega)) rfl rfl ?_
    refine ab_gen (fun u13 e13 => ?_)
    have P13 : gP [0, 33, 35, 37, 40, 118, 119] u u13 := by rw [e13]; exact P0.ui rfl (by decide)
    refine ab_aload_n X 0 d_MO_check_16 rfl rfl ?_
    refine ab_gI X fl_MO_23 d_MO_check_17 (by first | assumption | decide | (show _ < 124; omega) | (show _ < 61; omega) | (show _ < 20; omega)) ((show _ = (0 : Int32) by rw [e13]; simpa [ab_up] using h0)) ?_
    refine ab_if_ne X 25 d_MO_check_20 rfl (fun hb => absurd (rfl) hb) (fun _ => ?_)
    refine ab_iconst (v := 0) X d_MO_check_23 (by decide) ?_
    exact ab_reti X hr0 hlk d_MO_check_24 ⟨P13, _, rfl⟩
  ·
    refine ab_aload_n X 0 d_MO_check_0 rfl rfl ?_
    refine ab_aload_n X 0 d_MO_check_1 rfl rfl ?_
    refine ab_gI X fl_MO_23 d_MO_check_2 (by first | assumption | decide | (show _ < 124; omega) | (show _ < 61; omega) | (show _ < 20; omega)) (rfl) ?_
    refine ab_if_eq X 12 d_MO_check_5 rfl (fun h5 => ?_) (fun h5 => ?_)
    ·
      refine ab_iconst (v := 1) X d_MO_check_12 (by decide) ?_
      refine ab_putI X fp_MO_7 d_MO_check_13 (by first | assumption | decide | (show _ < 124; omega) | (show _ < 61; omega) | (show _ < 20; omega)) rfl rfl ?_
      refine ab_gen (fun u13 e13 => ?_)
      have P13 : gP [0, 33, 35, 37, 40, 118, 119] u u13 := by rw [e13]; exact P0.ui rfl (by decide)
      refine ab_aload_n X 0 d_MO_check_16 rfl rfl ?_
      refine ab_gI X fl_MO_23 d_MO_check_17 (by first | assumption | decide | (show _ < 124; omega) | (show _ < 61; omega) | (show _ < 20; omega)) (rfl) ?_
      refine ab_if_ne X 25 d_MO_check_20 rfl (fun h20 => ?_) (fun h20 => ?_)
      ·
        refine ab_aload_n X 0 d_MO_check_25 rfl rfl ?_
        refine ab_iconst (v := 0) X d_MO_check_26 (by decide) ?_
        refine ab_putI X fp_MO_117 d_MO_check_27 (by first | assumption | decide | (show _ < 124; omega) | (show _ < 61; omega) | (show _ < 20; omega)) rfl rfl ?_
        refine ab_gen (fun u27 e27 => ?_)
        have P27 : gP [0, 33, 35, 37, 40, 118, 119] u u27 := by rw [e27]; exact P13.ui rfl (by decide)
        refine ab_aload_n X 0 d_MO_check_30 rfl rfl ?_
        refine ab_iconst (v := 0) X d_MO_check_31 (by decide) ?_
        refine ab_putI X fp_MO_123 d_MO_check_32 (by first | assumption | decide | (show _ < 124; omega) | (show _ < 61; omega) | (show _ < 20; omega)) rfl rfl ?_
        refine ab_gen (fun u32 e32 => ?_)
        have P32 : gP [0, 33, 35, 37, 40, 118, 119] u u32 := by rw [e32]; exact P27.ui rfl (by decide)
        refine ab_aload_n X 0 d_MO_check_35 rfl rfl ?_
        refine ab_iconst (v := 0) X d_MO_check_36 (by decide) ?_
        refine ab_putI X fp_MO_132 d_MO_check_37 (by first | assumption | decide | (show _ < 124; omega) | (show _ < 61; omega) | (show _ < 20; omega)) rfl rfl ?_
        refine ab_gen (fun u37 e37 => ?_)
        have P37 : gP [0, 33, 35, 37, 40, 118, 119] u u37 := by rw [e37]; exact P32.ui rfl (by decide)
        refine ab_aload_n X 0 d_MO_check_40 rfl rfl ?_
        refine ab_iconst (v := 0) X d_MO_check_41 (by decide) ?_
        refine ab_putI X fp_MO_111 d_MO_check_42 (by first | assumption | decide | (show _ < 124; omega) | (show _ < 61; omega) | (show _ < 20; omega)) rfl rfl ?_
        refine ab_gen (fun u42 e42 => ?_)
        have P42 : gP [0, 33, 35, 37, 40, 118, 119] u u42 := by rw [e42]; exact P37.ui rfl (by decide)
        refine ab_aload_n X 0 d_MO_check_45 rfl rfl ?_
        refine ab_gI X fl_MO_108 d_MO_check_46 (by first | assumption | decide | (show _ < 124; omega) | (show _ < 61; omega) | (show _ < 20; omega)) (P42.fi (by decide) em) ?_
        refine ab_iconst (v := 1) X d_MO_check_49 (by decide) ?_
        refine ab_isub X d_MO_check_50 ?_
        refine ab_istore_n3 X 0 1 2 d_MO_check_51 rfl (by decide) rfl rfl rfl rfl rfl rfl ?_
        exact put n hV en mi _ (by omega) P42 (by rw [e42, e37, e32, e27]; simp [ab_up]; rfl) (by rw [e42, e37, e32]; simp [ab_up]; rfl)
      ·
        refine ab_iconst (v := 0) X d_MO_check_23 (by decide) ?_
        exact ab_reti X hr0 hlk d_MO_check_24 ⟨P13, _, rfl⟩
    ·
      refine ab_iconst (v := 0) X d_MO_check_8 (by decide) ?_
      refine ab_goto X 13 d_MO_check_9 rfl ?_
      refine ab_putI X fp_MO_7 d_MO_check_13 (by first | assumption | decide | (show _ < 124; omega) | (show _ < 61; omega) | (show _ < 20; omega)) rfl rfl ?_
      refine ab_gen (fun u13 e13 => ?_)
      have P13 : gP [0, 33, 35, 37, 40, 118, 119] u u13 := by rw [e13]; exact P0.ui rfl (by decide)
      refine ab_aload_n X 0 d_MO_check_16 rfl rfl ?_
      refine ab_gI X fl_MO_23 d_MO_check_17 (by first | assumption | decide | (show _ < 124; omega) | (show _ < 61; omega) | (show _ < 20; omega)) (rfl) ?_
      refine ab_if_ne X 25 d_MO_check_20 rfl (fun h20 => ?_) (fun h20 => ?_)
      ·
        refine ab_aload_n X 0 d_MO_check_25 rfl rfl ?_
        refine ab_iconst (v := 0) X d_MO_check_26 (by decide) ?_
        refine ab_putI X fp_MO_117 d_MO_check_27 (by first | assumption | decide | (show _ < 124; omega) | (show _ < 61; omega) | (show _ < 20; omega)) rfl rfl ?_
        refine ab_gen (fun u27 e27 => ?_)
        have P27 : gP [0, 33, 35, 37, 40, 118, 119] u u27 := by rw [e27]; exact P13.ui rfl (by decide)
        refine ab_aload_n X 0 d_MO_check_30 rfl rfl ?_
        refine ab_iconst (v := 0) X d_MO_check_31 (by decide) ?_
        refine ab_putI X fp_MO_123 d_MO_check_32 (by first | assumption | decide | (show _ < 124; omega) | (show _ < 61; omega) | (show _ < 20; omega)) rfl rfl ?_
        refine ab_gen (fun u32 e32 => ?_)
        have P32 : gP [0, 33, 35, 37, 40, 118, 119] u u32 := by rw [e32]; exact P27.ui rfl (by decide)
        refine ab_aload_n X 0 d_MO_check_35 rfl rfl ?_
        refine ab_iconst (v := 0) X d_MO_check_36 (by decide) ?_
        refine ab_putI X fp_MO_132 d_MO_check_37 (by first | assumption | decide | (show _ < 124; omega) | (show _ < 61; omega) | (show _ < 20; omega)) rfl rfl ?_
        refine ab_gen (fun u37 e37 => ?_)
        have P37 : gP [0, 33, 35, 37, 40, 118, 119] u u37 := by rw [e37]; exact P32.ui rfl (by decide)
        refine ab_aload_n X 0 d_MO_check_40 rfl rfl ?_
        refine ab_iconst (v := 0) X d_MO_check_41 (by decide) ?_
        refine ab_putI X fp_MO_111 d_MO_check_42 (by first | assumption | decide | (show _ < 124; omega) | (show _ < 61; omega) | (show _ < 20; omega)) rfl rfl ?_
        refine ab_gen (fun u42 e42 => ?_)
        have P42 : gP [0, 33, 35, 37, 40, 118, 119] u u42 := by rw [e42]; exact P37.ui rfl (by decide)
        refine ab_aload_n X 0 d_MO_check_45 rfl rfl ?_
        refine ab_gI X fl_MO_108 d_MO_check_46 (by first | assumption | decide | (show _ < 124; omega) | (show _ < 61; omega) | (show _ < 20; omega)) (P42.fi (by decide) em) ?_
        refine ab_iconst (v := 1) X d_MO_check_49 (by decide) ?_
        refine ab_isub X d_MO_check_50 ?_
        refine ab_istore_n3 X 0 1 2 d_MO_check_51 rfl (by decide) rfl rfl rfl rfl rfl rfl ?_
        exact put n hV en mi _ (by omega) P42 (by rw [e42, e37, e32, e27]; simp [ab_up]; rfl) (by rw [e42, e37, e32]; simp [ab_up]; rfl)
      ·
        refine ab_iconst (v := 0) X d_MO_check_23 (by decide) ?_
        exact ab_reti X hr0 hlk d_MO_check_24 ⟨P13, _, rfl⟩
end SaMStep

