theorem q_31 : Cond.selects R_Md y_Md_askedToken y_Md_askedToken ∈ TB := tq 31 (by decide +kernel) rfl
theorem q_36 : Cond.selects R_Md y_Md_code y_Md_code ∈ TB := tq 36 (by decide +kernel) rfl
theorem q_37 : Cond.selects R_Md y_Md_category y_Md_category ∈ TB := tq 37 (by decide +kernel) rfl
theorem q_38 : Cond.selects R_Md y_Md_number y_Md_number ∈ TB := tq 38 (by decide +kernel) rfl
theorem q_591 : Cond.methodLink R_Md 118 y_Md_askedToken ∈ TB := tq 591 (by decide +kernel) rfl
theorem q_593 : Cond.instanceMethod y_Md_askedToken ∈ TB := tq 593 (by decide +kernel) rfl
theorem q_594 : Cond.code y_Md_askedToken b_Md_askedToken 3 (some .int) ∈ TB := tq 594 (by decide +kernel) rfl
theorem q_611 : Cond.methodLink R_Md 121 y_Md_code ∈ TB := tq 611 (by decide +kernel) rfl
theorem q_613 : Cond.instanceMethod y_Md_code ∈ TB := tq 613 (by decide +kernel) rfl
theorem q_614 : Cond.code y_Md_code b_Md_code 2 (some .int) ∈ TB := tq 614 (by decide +kernel) rfl
theorem q_615 : Cond.methodLink R_Md 124 y_Md_category ∈ TB := tq 615 (by decide +kernel) rfl
theorem q_617 : Cond.instanceMethod y_Md_category ∈ TB := tq 617 (by decide +kernel) rfl
theorem q_618 : Cond.code y_Md_category b_Md_category 2 (some .int) ∈ TB := tq 618 (by decide +kernel) rfl
theorem q_619 : Cond.methodLink R_Md 127 y_Md_yes ∈ TB := tq 619 (by decide +kernel) rfl
theorem q_620 : Cond.static y_Md_yes ∈ TB := tq 620 (by decide +kernel) rfl
theorem q_621 : Cond.code y_Md_yes b_Md_yes 1 (some .int) ∈ TB := tq 621 (by decide +kernel) rfl
theorem q_622 : Cond.methodLink R_Md 131 y_Md_number ∈ TB := tq 622 (by decide +kernel) rfl
theorem q_624 : Cond.instanceMethod y_Md_number ∈ TB := tq 624 (by decide +kernel) rfl
theorem q_625 : Cond.code y_Md_number b_Md_number 6 (some .int) ∈ TB := tq 625 (by decide +kernel) rfl
theorem d_Md_answer_0 : decode b_Md_answer 0 = .ok (.iload_n 1, 1) := by decide +kernel
theorem d_Md_answer_1 : decode b_Md_answer 1 = .ok (.iconst 2, 1) := by decide +kernel
theorem d_Md_answer_2 : decode b_Md_answer 2 = .ok (.if_icmp .ge 87, 3) := by decide +kernel
theorem d_Md_answer_5 : decode b_Md_answer 5 = .ok (.aload_n 0, 1) := by decide +kernel
theorem d_Md_answer_6 : decode b_Md_answer 6 = .ok (.iload_n 2, 1) := by decide +kernel
theorem d_Md_answer_7 : decode b_Md_answer 7 = .ok (.invokevirtual 118, 3) := by decide +kernel
theorem d_Md_answer_10 : decode b_Md_answer 10 = .ok (.istore_n 3, 1) := by decide +kernel
theorem d_Md_answer_11 : decode b_Md_answer 11 = .ok (.aload_n 0, 1) := by decide +kernel
theorem d_Md_answer_12 : decode b_Md_answer 12 = .ok (.getfield 72, 3) := by decide +kernel
theorem d_Md_answer_15 : decode b_Md_answer 15 = .ok (.ifCond .le 7, 3) := by decide +kernel
theorem d_Md_answer_18 : decode b_Md_answer 18 = .ok (.iconst (-1), 1) := by decide +kernel
theorem d_Md_answer_19 : decode b_Md_answer 19 = .ok (.goto 8, 3) := by decide +kernel
theorem d_Md_answer_22 : decode b_Md_answer 22 = .ok (.aload_n 0, 1) := by decide +kernel
theorem d_Md_answer_23 : decode b_Md_answer 23 = .ok (.iload_n 2, 1) := by decide +kernel
theorem d_Md_answer_24 : decode b_Md_answer 24 = .ok (.invokevirtual 118, 3) := by decide +kernel
theorem d_Md_answer_27 : decode b_Md_answer 27 = .ok (.istore 4, 2) := by decide +kernel
theorem d_Md_answer_29 : decode b_Md_answer 29 = .ok (.aload_n 0, 1) := by decide +kernel
theorem d_Md_answer_30 : decode b_Md_answer 30 = .ok (.getfield 72, 3) := by decide +kernel
theorem d_Md_answer_33 : decode b_Md_answer 33 = .ok (.ifCond .le 7, 3) := by decide +kernel
theorem d_Md_answer_36 : decode b_Md_answer 36 = .ok (.iconst 0, 1) := by decide +kernel
theorem d_Md_answer_37 : decode b_Md_answer 37 = .ok (.goto 51, 3) := by decide +kernel
theorem d_Md_answer_40 : decode b_Md_answer 40 = .ok (.iload_n 1, 1) := by decide +kernel
theorem d_Md_answer_41 : decode b_Md_answer 41 = .ok (.ifCond .ne 25, 3) := by decide +kernel
theorem d_Md_answer_44 : decode b_Md_answer 44 = .ok (.aload_n 0, 1) := by decide +kernel
theorem d_Md_answer_45 : decode b_Md_answer 45 = .ok (.iload_n 3, 1) := by decide +kernel
theorem d_Md_answer_46 : decode b_Md_answer 46 = .ok (.invokevirtual 121, 3) := by decide +kernel
theorem d_Md_answer_49 : decode b_Md_answer 49 = .ok (.aload_n 0, 1) := by decide +kernel
theorem d_Md_answer_50 : decode b_Md_answer 50 = .ok (.iload 4, 2) := by decide +kernel
theorem d_Md_answer_52 : decode b_Md_answer 52 = .ok (.invokevirtual 121, 3) := by decide +kernel
theorem d_Md_answer_55 : decode b_Md_answer 55 = .ok (.if_icmp .ne 7, 3) := by decide +kernel
theorem d_Md_answer_58 : decode b_Md_answer 58 = .ok (.iconst 1, 1) := by decide +kernel
theorem d_Md_answer_59 : decode b_Md_answer 59 = .ok (.goto 26, 3) := by decide +kernel
theorem d_Md_answer_62 : decode b_Md_answer 62 = .ok (.iconst 0, 1) := by decide +kernel
theorem d_Md_answer_63 : decode b_Md_answer 63 = .ok (.goto 22, 3) := by decide +kernel
theorem d_Md_answer_66 : decode b_Md_answer 66 = .ok (.aload_n 0, 1) := by decide +kernel
theorem d_Md_answer_67 : decode b_Md_answer 67 = .ok (.iload_n 3, 1) := by decide +kernel
theorem d_Md_answer_68 : decode b_Md_answer 68 = .ok (.invokevirtual 124, 3) := by decide +kernel
theorem d_Md_answer_71 : decode b_Md_answer 71 = .ok (.aload_n 0, 1) := by decide +kernel
theorem d_Md_answer_72 : decode b_Md_answer 72 = .ok (.iload 4, 2) := by decide +kernel
theorem d_Md_answer_74 : decode b_Md_answer 74 = .ok (.invokevirtual 124, 3) := by decide +kernel
theorem d_Md_answer_77 : decode b_Md_answer 77 = .ok (.if_icmp .ne 7, 3) := by decide +kernel
theorem d_Md_answer_80 : decode b_Md_answer 80 = .ok (.iconst 1, 1) := by decide +kernel
theorem d_Md_answer_81 : decode b_Md_answer 81 = .ok (.goto 4, 3) := by decide +kernel
theorem d_Md_answer_84 : decode b_Md_answer 84 = .ok (.iconst 0, 1) := by decide +kernel
theorem d_Md_answer_85 : decode b_Md_answer 85 = .ok (.invokestatic 127, 3) := by decide +kernel
theorem d_Md_answer_88 : decode b_Md_answer 88 = .ok (.ireturn, 1) := by decide +kernel
theorem d_Md_answer_89 : decode b_Md_answer 89 = .ok (.iload_n 1, 1) := by decide +kernel
theorem d_Md_answer_90 : decode b_Md_answer 90 = .ok (.iconst 2, 1) := by decide +kernel
theorem d_Md_answer_91 : decode b_Md_answer 91 = .ok (.if_icmp .ne 36, 3) := by decide +kernel
theorem d_Md_answer_94 : decode b_Md_answer 94 = .ok (.aload_n 0, 1) := by decide +kernel
theorem d_Md_answer_95 : decode b_Md_answer 95 = .ok (.invokevirtual 92, 3) := by decide +kernel
theorem d_Md_answer_98 : decode b_Md_answer 98 = .ok (.istore_n 3, 1) := by decide +kernel
theorem d_Md_answer_99 : decode b_Md_answer 99 = .ok (.aload_n 0, 1) := by decide +kernel
theorem d_Md_answer_100 : decode b_Md_answer 100 = .ok (.invokevirtual 92, 3) := by decide +kernel
theorem d_Md_answer_103 : decode b_Md_answer 103 = .ok (.istore 4, 2) := by decide +kernel
theorem d_Md_answer_105 : decode b_Md_answer 105 = .ok (.aload_n 0, 1) := by decide +kernel
theorem d_Md_answer_106 : decode b_Md_answer 106 = .ok (.getfield 72, 3) := by decide +kernel
theorem d_Md_answer_109 : decode b_Md_answer 109 = .ok (.ifCond .le 7, 3) := by decide +kernel
theorem d_Md_answer_112 : decode b_Md_answer 112 = .ok (.iconst 0, 1) := by decide +kernel
theorem d_Md_answer_113 : decode b_Md_answer 113 = .ok (.goto 13, 3) := by decide +kernel
theorem d_Md_answer_116 : decode b_Md_answer 116 = .ok (.aload_n 0, 1) := by decide +kernel
theorem d_Md_answer_117 : decode b_Md_answer 117 = .ok (.iload_n 3, 1) := by decide +kernel
theorem d_Md_answer_118 : decode b_Md_answer 118 = .ok (.iload 4, 2) := by decide +kernel
theorem d_Md_answer_120 : decode b_Md_answer 120 = .ok (.invokevirtual 68, 3) := by decide +kernel
theorem d_Md_answer_123 : decode b_Md_answer 123 = .ok (.invokestatic 127, 3) := by decide +kernel
theorem d_Md_answer_126 : decode b_Md_answer 126 = .ok (.ireturn, 1) := by decide +kernel
theorem d_Md_answer_127 : decode b_Md_answer 127 = .ok (.iload_n 1, 1) := by decide +kernel
theorem d_Md_answer_128 : decode b_Md_answer 128 = .ok (.iconst 3, 1) := by decide +kernel
theorem d_Md_answer_129 : decode b_Md_answer 129 = .ok (.if_icmp .ne 141, 3) := by decide +kernel
theorem d_Md_answer_132 : decode b_Md_answer 132 = .ok (.aload_n 0, 1) := by decide +kernel
theorem d_Md_answer_133 : decode b_Md_answer 133 = .ok (.iload_n 2, 1) := by decide +kernel
theorem d_Md_answer_134 : decode b_Md_answer 134 = .ok (.invokevirtual 131, 3) := by decide +kernel
theorem d_Md_answer_137 : decode b_Md_answer 137 = .ok (.istore_n 3, 1) := by decide +kernel
theorem d_Md_answer_138 : decode b_Md_answer 138 = .ok (.aload_n 0, 1) := by decide +kernel
theorem d_Md_answer_139 : decode b_Md_answer 139 = .ok (.getfield 72, 3) := by decide +kernel
theorem d_Md_answer_142 : decode b_Md_answer 142 = .ok (.ifCond .le 7, 3) := by decide +kernel
theorem d_Md_answer_145 : decode b_Md_answer 145 = .ok (.iconst (-1), 1) := by decide +kernel
theorem d_Md_answer_146 : decode b_Md_answer 146 = .ok (.goto 8, 3) := by decide +kernel
theorem d_Md_answer_149 : decode b_Md_answer 149 = .ok (.aload_n 0, 1) := by decide +kernel
theorem d_Md_answer_150 : decode b_Md_answer 150 = .ok (.iload_n 2, 1) := by decide +kernel
theorem d_Md_answer_151 : decode b_Md_answer 151 = .ok (.invokevirtual 118, 3) := by decide +kernel
theorem d_Md_answer_154 : decode b_Md_answer 154 = .ok (.istore 4, 2) := by decide +kernel
theorem d_Md_answer_156 : decode b_Md_answer 156 = .ok (.aload_n 0, 1) := by decide +kernel
theorem d_Md_answer_157 : decode b_Md_answer 157 = .ok (.getfield 72, 3) := by decide +kernel
theorem d_Md_answer_160 : decode b_Md_answer 160 = .ok (.ifCond .ne 22, 3) := by decide +kernel
theorem d_Md_answer_163 : decode b_Md_answer 163 = .ok (.iload 4, 2) := by decide +kernel
theorem d_Md_answer_165 : decode b_Md_answer 165 = .ok (.sipush 3132, 3) := by decide +kernel
theorem d_Md_answer_168 : decode b_Md_answer 168 = .ok (.sipush 3134, 3) := by decide +kernel
theorem d_Md_answer_171 : decode b_Md_answer 171 = .ok (.invokestatic 48, 3) := by decide +kernel
theorem d_Md_answer_174 : decode b_Md_answer 174 = .ok (.ifCond .ne 8, 3) := by decide +kernel
theorem d_Md_answer_177 : decode b_Md_answer 177 = .ok (.aload_n 0, 1) := by decide +kernel
theorem d_Md_answer_178 : decode b_Md_answer 178 = .ok (.iconst 4, 1) := by decide +kernel
theorem d_Md_answer_179 : decode b_Md_answer 179 = .ok (.invokevirtual 84, 3) := by decide +kernel
theorem d_Md_answer_182 : decode b_Md_answer 182 = .ok (.aload_n 0, 1) := by decide +kernel
theorem d_Md_answer_183 : decode b_Md_answer 183 = .ok (.getfield 72, 3) := by decide +kernel
theorem d_Md_answer_186 : decode b_Md_answer 186 = .ok (.ifCond .le 7, 3) := by decide +kernel
theorem d_Md_answer_189 : decode b_Md_answer 189 = .ok (.iconst 0, 1) := by decide +kernel
theorem d_Md_answer_190 : decode b_Md_answer 190 = .ok (.goto 8, 3) := by decide +kernel
theorem d_Md_answer_193 : decode b_Md_answer 193 = .ok (.aload_n 0, 1) := by decide +kernel
theorem d_Md_answer_194 : decode b_Md_answer 194 = .ok (.iload_n 2, 1) := by decide +kernel
theorem d_Md_answer_195 : decode b_Md_answer 195 = .ok (.invokevirtual 131, 3) := by decide +kernel
theorem d_Md_answer_198 : decode b_Md_answer 198 = .ok (.istore 5, 2) := by decide +kernel
theorem d_Md_answer_200 : decode b_Md_answer 200 = .ok (.aload_n 0, 1) := by decide +kernel
theorem d_Md_answer_201 : decode b_Md_answer 201 = .ok (.getfield 72, 3) := by decide +kernel
theorem d_Md_answer_204 : decode b_Md_answer 204 = .ok (.ifCond .le 7, 3) := by decide +kernel
theorem d_Md_answer_207 : decode b_Md_answer 207 = .ok (.iconst 0, 1) := by decide +kernel
theorem d_Md_answer_208 : decode b_Md_answer 208 = .ok (.goto 61, 3) := by decide +kernel
theorem d_Md_answer_211 : decode b_Md_answer 211 = .ok (.iload 4, 2) := by decide +kernel
theorem d_Md_answer_213 : decode b_Md_answer 213 = .ok (.sipush 3132, 3) := by decide +kernel
theorem d_Md_answer_216 : decode b_Md_answer 216 = .ok (.if_icmp .ne 17, 3) := by decide +kernel
theorem d_Md_answer_219 : decode b_Md_answer 219 = .ok (.iload_n 3, 1) := by decide +kernel
theorem d_Md_answer_220 : decode b_Md_answer 220 = .ok (.iload 5, 2) := by decide +kernel
theorem d_Md_answer_222 : decode b_Md_answer 222 = .ok (.if_icmp .ge 7, 3) := by decide +kernel
theorem d_Md_answer_225 : decode b_Md_answer 225 = .ok (.iconst 1, 1) := by decide +kernel
theorem d_Md_answer_226 : decode b_Md_answer 226 = .ok (.goto 40, 3) := by decide +kernel
theorem d_Md_answer_229 : decode b_Md_answer 229 = .ok (.iconst 0, 1) := by decide +kernel
theorem d_Md_answer_230 : decode b_Md_answer 230 = .ok (.goto 36, 3) := by decide +kernel
theorem d_Md_answer_233 : decode b_Md_answer 233 = .ok (.iload 4, 2) := by decide +kernel
theorem d_Md_answer_235 : decode b_Md_answer 235 = .ok (.sipush 3133, 3) := by decide +kernel
theorem d_Md_answer_238 : decode b_Md_answer 238 = .ok (.if_icmp .ne 17, 3) := by decide +kernel
theorem d_Md_answer_241 : decode b_Md_answer 241 = .ok (.iload_n 3, 1) := by decide +kernel
theorem d_Md_answer_242 : decode b_Md_answer 242 = .ok (.iload 5, 2) := by decide +kernel
theorem d_Md_answer_244 : decode b_Md_answer 244 = .ok (.if_icmp .ne 7, 3) := by decide +kernel
theorem d_Md_answer_247 : decode b_Md_answer 247 = .ok (.iconst 1, 1) := by decide +kernel
theorem d_Md_answer_248 : decode b_Md_answer 248 = .ok (.goto 18, 3) := by decide +kernel
theorem d_Md_answer_251 : decode b_Md_answer 251 = .ok (.iconst 0, 1) := by decide +kernel
theorem d_Md_answer_252 : decode b_Md_answer 252 = .ok (.goto 14, 3) := by decide +kernel
theorem d_Md_answer_255 : decode b_Md_answer 255 = .ok (.iload_n 3, 1) := by decide +kernel
theorem d_Md_answer_256 : decode b_Md_answer 256 = .ok (.iload 5, 2) := by decide +kernel
theorem d_Md_answer_258 : decode b_Md_answer 258 = .ok (.if_icmp .le 7, 3) := by decide +kernel
theorem d_Md_answer_261 : decode b_Md_answer 261 = .ok (.iconst 1, 1) := by decide +kernel
theorem d_Md_answer_262 : decode b_Md_answer 262 = .ok (.goto 4, 3) := by decide +kernel
theorem d_Md_answer_265 : decode b_Md_answer 265 = .ok (.iconst 0, 1) := by decide +kernel
theorem d_Md_answer_266 : decode b_Md_answer 266 = .ok (.invokestatic 127, 3) := by decide +kernel
theorem d_Md_answer_269 : decode b_Md_answer 269 = .ok (.ireturn, 1) := by decide +kernel
theorem d_Md_answer_270 : decode b_Md_answer 270 = .ok (.iload_n 1, 1) := by decide +kernel
theorem d_Md_answer_271 : decode b_Md_answer 271 = .ok (.iconst 5, 1) := by decide +kernel
theorem d_Md_answer_272 : decode b_Md_answer 272 = .ok (.if_icmp .eq 9, 3) := by decide +kernel
theorem d_Md_answer_275 : decode b_Md_answer 275 = .ok (.iload_n 1, 1) := by decide +kernel
theorem d_Md_answer_276 : decode b_Md_answer 276 = .ok (.bipush 6, 2) := by decide +kernel
theorem d_Md_answer_278 : decode b_Md_answer 278 = .ok (.if_icmp .ne 14, 3) := by decide +kernel
theorem d_Md_answer_281 : decode b_Md_answer 281 = .ok (.iload_n 1, 1) := by decide +kernel
theorem d_Md_answer_282 : decode b_Md_answer 282 = .ok (.iconst 5, 1) := by decide +kernel
theorem d_Md_answer_283 : decode b_Md_answer 283 = .ok (.if_icmp .ne 7, 3) := by decide +kernel
theorem d_Md_answer_286 : decode b_Md_answer 286 = .ok (.iconst 1, 1) := by decide +kernel
theorem d_Md_answer_287 : decode b_Md_answer 287 = .ok (.goto 4, 3) := by decide +kernel
theorem d_Md_answer_290 : decode b_Md_answer 290 = .ok (.iconst 0, 1) := by decide +kernel
theorem d_Md_answer_291 : decode b_Md_answer 291 = .ok (.ireturn, 1) := by decide +kernel
theorem d_Md_answer_292 : decode b_Md_answer 292 = .ok (.iload_n 1, 1) := by decide +kernel
theorem d_Md_answer_293 : decode b_Md_answer 293 = .ok (.bipush 8, 2) := by decide +kernel
theorem d_Md_answer_295 : decode b_Md_answer 295 = .ok (.if_icmp .ne 43, 3) := by decide +kernel
theorem d_Md_answer_298 : decode b_Md_answer 298 = .ok (.aload_n 0, 1) := by decide +kernel
theorem d_Md_answer_299 : decode b_Md_answer 299 = .ok (.invokevirtual 92, 3) := by decide +kernel
theorem d_Md_answer_302 : decode b_Md_answer 302 = .ok (.istore_n 3, 1) := by decide +kernel
theorem d_Md_answer_303 : decode b_Md_answer 303 = .ok (.aload_n 0, 1) := by decide +kernel
theorem d_Md_answer_304 : decode b_Md_answer 304 = .ok (.getfield 72, 3) := by decide +kernel
theorem d_Md_answer_307 : decode b_Md_answer 307 = .ok (.ifCond .le 7, 3) := by decide +kernel
theorem d_Md_answer_310 : decode b_Md_answer 310 = .ok (.iconst 0, 1) := by decide +kernel
theorem d_Md_answer_311 : decode b_Md_answer 311 = .ok (.goto 26, 3) := by decide +kernel
theorem d_Md_answer_314 : decode b_Md_answer 314 = .ok (.iload_n 3, 1) := by decide +kernel
theorem d_Md_answer_315 : decode b_Md_answer 315 = .ok (.sipush 4096, 3) := by decide +kernel
theorem d_Md_answer_318 : decode b_Md_answer 318 = .ok (.if_icmp .lt 11, 3) := by decide +kernel
theorem d_Md_answer_321 : decode b_Md_answer 321 = .ok (.aload_n 0, 1) := by decide +kernel
theorem d_Md_answer_322 : decode b_Md_answer 322 = .ok (.iload_n 3, 1) := by decide +kernel
theorem d_Md_answer_323 : decode b_Md_answer 323 = .ok (.invokevirtual 61, 3) := by decide +kernel
theorem d_Md_answer_326 : decode b_Md_answer 326 = .ok (.ifCond .eq 7, 3) := by decide +kernel
theorem d_Md_answer_329 : decode b_Md_answer 329 = .ok (.iconst 1, 1) := by decide +kernel
theorem d_Md_answer_330 : decode b_Md_answer 330 = .ok (.goto 4, 3) := by decide +kernel
theorem d_Md_answer_333 : decode b_Md_answer 333 = .ok (.iconst 0, 1) := by decide +kernel
theorem d_Md_answer_334 : decode b_Md_answer 334 = .ok (.invokestatic 127, 3) := by decide +kernel
theorem d_Md_answer_337 : decode b_Md_answer 337 = .ok (.ireturn, 1) := by decide +kernel
theorem d_Md_answer_338 : decode b_Md_answer 338 = .ok (.aload_n 0, 1) := by decide +kernel
theorem d_Md_answer_339 : decode b_Md_answer 339 = .ok (.iload_n 2, 1) := by decide +kernel
theorem d_Md_answer_340 : decode b_Md_answer 340 = .ok (.invokevirtual 131, 3) := by decide +kernel
theorem d_Md_answer_343 : decode b_Md_answer 343 = .ok (.istore_n 3, 1) := by decide +kernel
theorem d_Md_answer_344 : decode b_Md_answer 344 = .ok (.aload_n 0, 1) := by decide +kernel
theorem d_Md_answer_345 : decode b_Md_answer 345 = .ok (.getfield 72, 3) := by decide +kernel
theorem d_Md_answer_348 : decode b_Md_answer 348 = .ok (.ifCond .gt 9, 3) := by decide +kernel
theorem d_Md_answer_351 : decode b_Md_answer 351 = .ok (.iload_n 1, 1) := by decide +kernel
theorem d_Md_answer_352 : decode b_Md_answer 352 = .ok (.bipush 7, 2) := by decide +kernel
theorem d_Md_answer_354 : decode b_Md_answer 354 = .ok (.if_icmp .ne 5, 3) := by decide +kernel
theorem d_Md_answer_357 : decode b_Md_answer 357 = .ok (.iload_n 3, 1) := by decide +kernel
theorem d_Md_answer_358 : decode b_Md_answer 358 = .ok (.ireturn, 1) := by decide +kernel
theorem d_Md_answer_359 : decode b_Md_answer 359 = .ok (.iload_n 1, 1) := by decide +kernel
theorem d_Md_answer_360 : decode b_Md_answer 360 = .ok (.iconst 4, 1) := by decide +kernel
theorem d_Md_answer_361 : decode b_Md_answer 361 = .ok (.if_icmp .ne 18, 3) := by decide +kernel
theorem d_Md_answer_364 : decode b_Md_answer 364 = .ok (.iload_n 3, 1) := by decide +kernel
theorem d_Md_answer_365 : decode b_Md_answer 365 = .ok (.iconst 2, 1) := by decide +kernel
theorem d_Md_answer_366 : decode b_Md_answer 366 = .ok (.irem, 1) := by decide +kernel
theorem d_Md_answer_367 : decode b_Md_answer 367 = .ok (.ifCond .eq 7, 3) := by decide +kernel
theorem d_Md_answer_370 : decode b_Md_answer 370 = .ok (.iconst 1, 1) := by decide +kernel
theorem d_Md_answer_371 : decode b_Md_answer 371 = .ok (.goto 4, 3) := by decide +kernel
theorem d_Md_answer_374 : decode b_Md_answer 374 = .ok (.iconst 0, 1) := by decide +kernel
theorem d_Md_answer_375 : decode b_Md_answer 375 = .ok (.invokestatic 127, 3) := by decide +kernel
theorem d_Md_answer_378 : decode b_Md_answer 378 = .ok (.ireturn, 1) := by decide +kernel
theorem d_Md_answer_379 : decode b_Md_answer 379 = .ok (.iload_n 3, 1) := by decide +kernel
theorem d_Md_answer_380 : decode b_Md_answer 380 = .ok (.iconst 0, 1) := by decide +kernel
theorem d_Md_answer_381 : decode b_Md_answer 381 = .ok (.iload_n 1, 1) := by decide +kernel
theorem d_Md_answer_382 : decode b_Md_answer 382 = .ok (.bipush 9, 2) := by decide +kernel
theorem d_Md_answer_384 : decode b_Md_answer 384 = .ok (.if_icmp .ne 7, 3) := by decide +kernel
theorem d_Md_answer_387 : decode b_Md_answer 387 = .ok (.iconst 3, 1) := by decide +kernel
theorem d_Md_answer_388 : decode b_Md_answer 388 = .ok (.goto 5, 3) := by decide +kernel
theorem d_Md_answer_391 : decode b_Md_answer 391 = .ok (.bipush 7, 2) := by decide +kernel
theorem d_Md_answer_393 : decode b_Md_answer 393 = .ok (.invokestatic 48, 3) := by decide +kernel
theorem d_Md_answer_396 : decode b_Md_answer 396 = .ok (.ifCond .ne 11, 3) := by decide +kernel
theorem d_Md_answer_399 : decode b_Md_answer 399 = .ok (.aload_n 0, 1) := by decide +kernel
theorem d_Md_answer_400 : decode b_Md_answer 400 = .ok (.bipush 8, 2) := by decide +kernel
theorem d_Md_answer_402 : decode b_Md_answer 402 = .ok (.invokevirtual 84, 3) := by decide +kernel
theorem d_Md_answer_405 : decode b_Md_answer 405 = .ok (.iconst 0, 1) := by decide +kernel
theorem d_Md_answer_406 : decode b_Md_answer 406 = .ok (.ireturn, 1) := by decide +kernel
theorem d_Md_answer_407 : decode b_Md_answer 407 = .ok (.iload_n 1, 1) := by decide +kernel
theorem d_Md_answer_408 : decode b_Md_answer 408 = .ok (.bipush 9, 2) := by decide +kernel
theorem d_Md_answer_410 : decode b_Md_answer 410 = .ok (.if_icmp .ne 12, 3) := by decide +kernel
theorem d_Md_answer_413 : decode b_Md_answer 413 = .ok (.aload_n 0, 1) := by decide +kernel
theorem d_Md_answer_414 : decode b_Md_answer 414 = .ok (.getfield 22, 3) := by decide +kernel
theorem d_Md_answer_417 : decode b_Md_answer 417 = .ok (.iload_n 3, 1) := by decide +kernel
theorem d_Md_answer_418 : decode b_Md_answer 418 = .ok (.baload, 1) := by decide +kernel
theorem d_Md_answer_419 : decode b_Md_answer 419 = .ok (.goto 9, 3) := by decide +kernel
theorem d_Md_answer_422 : decode b_Md_answer 422 = .ok (.aload_n 0, 1) := by decide +kernel
theorem d_Md_answer_423 : decode b_Md_answer 423 = .ok (.getfield 26, 3) := by decide +kernel
theorem d_Md_answer_426 : decode b_Md_answer 426 = .ok (.iload_n 3, 1) := by decide +kernel
theorem d_Md_answer_427 : decode b_Md_answer 427 = .ok (.baload, 1) := by decide +kernel
theorem d_Md_answer_428 : decode b_Md_answer 428 = .ok (.invokestatic 127, 3) := by decide +kernel
theorem d_Md_answer_431 : decode b_Md_answer 431 = .ok (.ireturn, 1) := by decide +kernel
noncomputable def f_Md_answer (op : TMd → Int32 → TMd) (d : TMd) (p0 : Int32) (p1 : Int32) : (Int32 × TMd) := (if 2 ≤ p0 then (if p0 = 2 then (match f_Md_need d with | (r_76, v_76) => (match f_Md_need v_76 with | (r_77, v_77) => (if (TMd_fault v_77) ≤ 0 then ((f_Md_yes (f_Md_areSame v_77 r_76 r_77)), v_77) else (0, v_77)))) else (if p0 = 3 then (match f_Md_number op d p1 with | (r_35, v_35) => (if (TMd_fault v_35) ≤ 0 then (match f_Md_askedToken op v_35 p1 with | (r_37, v_37) => (if (TMd_fault v_37) = 0 then (if (f_Md_in r_37 3132 3134) = 0 then (let v_57 := f_Md_fail v_37 4; (if (TMd_fault v_57) ≤ 0 then (match f_Md_number op v_57 p1 with | (r_59, v_59) => (if (TMd_fault v_59) ≤ 0 then (if r_37 = 3132 then (if r_59 ≤ r_35 then ((f_Md_yes 0), v_59) else ((f_Md_yes 1), v_59)) else (if r_37 = 3133 then (if r_35 = r_59 then ((f_Md_yes 1), v_59) else ((f_Md_yes 0), v_59)) else (if r_35 ≤ r_59 then ((f_Md_yes 0), v_59) else ((f_Md_yes 1), v_59)))) else (0, v_59))) else (0, v_57))) else (if (TMd_fault v_37) ≤ 0 then (match f_Md_number op v_37 p1 with | (r_44, v_44) => (if (TMd_fault v_44) ≤ 0 then (if r_37 = 3132 then (if r_44 ≤ r_35 then ((f_Md_yes 0), v_44) else ((f_Md_yes 1), v_44)) else (if r_37 = 3133 then (if r_35 = r_44 then ((f_Md_yes 1), v_44) else ((f_Md_yes 0), v_44)) else (if r_35 ≤ r_44 then ((f_Md_yes 0), v_44) else ((f_Md_yes 1), v_44)))) else (0, v_44))) else (0, v_37))) else (if (TMd_fault v_37) ≤ 0 then (0, v_37) else (0, v_37)))) else (if (TMd_fault v_35) = 0 then (0, v_35) else (0, v_35)))) else (if p0 = 5 then (1, d) else (if p0 = 6 then (0, d) else (if p0 = 8 then (match f_Md_need d with | (r_26, v_26) => (if (TMd_fault v_26) ≤ 0 then (if r_26 < 4096 then ((f_Md_yes 1), v_26) else (if (f_Md_kindOf v_26 r_26) = 0 then ((f_Md_yes 0), v_26) else ((f_Md_yes 1), v_26))) else (0, v_26))) else (match f_Md_number op d p1 with | (r_8, v_8) => (if 0 < (TMd_fault v_8) then (r_8, v_8) else (if p0 = 7 then (r_8, v_8) else (if p0 = 4 then (if (r_8 - r_8 / 2 * 2) = 0 then ((f_Md_yes 0), v_8) else ((f_Md_yes 1), v_8)) else (if p0 = 9 then (if (f_Md_in r_8 0 3) = 0 then (let v_22 := f_Md_fail v_8 8; (0, v_22)) else ((f_Md_yes ((TMd_modes v_8) r_8.toNatClampNeg)), v_8)) else (if (f_Md_in r_8 0 7) = 0 then (let v_17 := f_Md_fail v_8 8; (0, v_17)) else ((f_Md_yes ((TMd_ends v_8) r_8.toNatClampNeg)), v_8)))))))))))) else (match f_Md_askedToken op d p1 with | (r_81, v_81) => (if (TMd_fault v_81) ≤ 0 then (match f_Md_askedToken op v_81 p1 with | (r_83, v_83) => (if (TMd_fault v_83) ≤ 0 then (if p0 = 0 then (if (f_Md_code v_83 r_81) = (f_Md_code v_83 r_83) then ((f_Md_yes 1), v_83) else ((f_Md_yes 0), v_83)) else (if (f_Md_category v_83 r_81) = (f_Md_category v_83 r_83) then ((f_Md_yes 1), v_83) else ((f_Md_yes 0), v_83))) else (0, v_83))) else (0, v_81))))
set_option maxHeartbeats 4000000 in
set_option maxRecDepth 100000 in
theorem c_Md_answer (l : Launch) (dC : Nat → ClassId) (dI : Nat → Nat → Nat) (ad : Nat → Nat) (ca : Nat → ClassId) (op : TMd → Int32 → TMd) (rf rl : Nat) (k : Int) (hopm : ∀ (d : TMd) (w : Int32), OPP k d → LVS 0 d (op d w)) (hop : ∀ (sz : Nat) (d : TMd) (w : Int32), OPP k d → wx_Mv l y_Md_open ws_Md_open ({ frames := rf, cells := 0, slots := 0, locals := rl } : Room) (dC, dI) vwCl (t_M ca) [.ref (ad 16), .int w] (w_M ad ca d) sz (fun v : TMd => w_M ad ca v) (fun v : TMd => v = op d w)) (sz : Nat) (d : TMd) (p0 : Int32) (p1 : Int32) (hpre : APk k p1 d) (F : (Int32 × TMd)) (he : F = f_Md_answer op d p0 p1) : wx_Mi l y_Md_answer ws_Md_answer ({ frames := rf + 7, cells := 0, slots := 0, locals := rl + 162 } : Room) (dC, dI) vwCl (t_M ca) [.ref (ad 16), .int p0, .int p1] (w_M ad ca d) sz (fun v : TMd => w_M ad ca v) (fun (r : Int32) (v : TMd) => (r, v) = F) := by
  refine Met.ofW (cc := b_Md_answer) (maxL := 6) (ret := some .int) (by decide) rfl ?_
  intro p e s m args below meth c s₁ B hml hv
  obtain ⟨rfl, hsz, hP, hK, hD0, hN⟩ := hv
  have hx := B.exec
  have hb := B.bytes
  have hr := B.returns
  have hts := atoms_spec (ws := ws_Md_answer) B.pre
  have ht : ∀ w ∈ TB, w.before _ s = true := fun w h => hts w (List.mem_cons_of_mem _ h)
  have hown : s.vm.findClass R_Md = some m.cls := findClass_of_methodNamed B.named
  have hlocks := B.notSynchronized
  subst hsz
  have hD := hD0.self (sz := s.heap.size)
  generalize hAe : va_A (w_M ad ca d) s.heap.size = A at hD ⊢
  have hA : ∀ q : Nat, s.heap.size ≤ q → A q := fun q h => by rw [← hAe]; exact Or.inr h
  have hS : va_S A s.heap s.heap [] := va_S.rf
  have hl := lv_entry ([.ref (ad 16), .int p0, .int p1]) (n := 6) (Nat.le_of_ble_eq_true rfl)
  rw [lg_entry_eq]
  generalize (lg_sl ([.ref (ad 16), .int p0, .int p1]) ++ List.replicate (6 - (lg_sl ([.ref (ad 16), .int p0, .int p1])).length) Slot.unset).toArray = ls at hl ⊢
  have hl : lv_has ls 6 [(0, .ref (ad 16)), (1, .int p0), (2, .int p1)] := hl
  unfold f_Md_answer at he
  refine lv_iload_n hx hb d_Md_answer_0 rfl (lv_at hl 1 rfl) ?_
  refine lv_iconst (v := 2) hx hb d_Md_answer_1 (by decide) ?_
  refine lv_icmp_ge (tgt := 89) hx hb d_Md_answer_2 (by decide) (fun c_1 => ?_) (fun c_1 => ?_)
  · have he := he.trans (if_pos c_1)
    refine lv_iload_n hx hb d_Md_answer_89 rfl (lv_at hl 1 rfl) ?_
    refine lv_iconst (v := 2) hx hb d_Md_answer_90 (by decide) ?_
    refine lv_icmp_ne (tgt := 127) hx hb d_Md_answer_91 (by decide) (fun c_2 => ?_) (fun c_2 => ?_)
    · have he := he.trans (if_neg c_2)
      refine lv_iload_n hx hb d_Md_answer_127 rfl (lv_at hl 1 rfl) ?_
      refine lv_iconst (v := 3) hx hb d_Md_answer_128 (by decide) ?_
      refine lv_icmp_ne (tgt := 270) hx hb d_Md_answer_129 (by decide) (fun c_3 => ?_) (fun c_3 => ?_)
      · have he := he.trans (if_neg c_3)
        refine lv_iload_n hx hb d_Md_answer_270 rfl (lv_at hl 1 rfl) ?_
        refine lv_iconst (v := 5) hx hb d_Md_answer_271 (by decide) ?_
        refine lv_icmp_eq (tgt := 281) hx hb d_Md_answer_272 (by decide) (fun c_4 => ?_) (fun c_4 => ?_)
        · have he := he.trans (if_pos c_4)
          refine lv_iload_n hx hb d_Md_answer_281 rfl (lv_at hl 1 rfl) ?_
          refine lv_iconst (v := 5) hx hb d_Md_answer_282 (by decide) ?_
          refine lv_icmp_ne (tgt := 290) hx hb d_Md_answer_283 (by decide) (fun c_5 => ?_) (fun c_5 => ?_)
          · exact absurd c_4 c_5
          · refine lv_iconst (v := 1) hx hb d_Md_answer_286 (by decide) ?_
            refine lv_goto (tgt := 291) hx hb d_Md_answer_287 (by decide) ?_
            exact W.iret hx hb hr (v := 1) (fun t ht hW => ⟨⟨1, d, rfl, he.symm, by rw [ht]; exact hP, va_K.moved hW.alike hK, hD⟩, hS.F ht⟩) hS.2.2 d_Md_answer_291
        · have he := he.trans (if_neg c_4)
          refine lv_iload_n hx hb d_Md_answer_275 rfl (lv_at hl 1 rfl) ?_
          refine lv_bipush (v := 6) hx hb d_Md_answer_276 (by decide) ?_
          refine lv_icmp_ne (tgt := 292) hx hb d_Md_answer_278 (by decide) (fun c_6 => ?_) (fun c_6 => ?_)
          · have he := he.trans (if_neg c_6)
            refine lv_iload_n hx hb d_Md_answer_292 rfl (lv_at hl 1 rfl) ?_
            refine lv_bipush (v := 8) hx hb d_Md_answer_293 (by decide) ?_
            refine lv_icmp_ne (tgt := 338) hx hb d_Md_answer_295 (by decide) (fun c_7 => ?_) (fun c_7 => ?_)
            · have he := he.trans (if_neg c_7)
              refine lv_aload_n hx hb d_Md_answer_338 rfl (lv_at hl 0 rfl) ?_
              refine lv_iload_n hx hb d_Md_answer_339 rfl (lv_at hl 2 rfl) ?_
              refine wx_ci (wS := fun v : TMd => w_M ad ca v) (ws2 := fun v : TMd => w_M ad ca v) (va_runV (As := [.int p1]) (rest := []) ⟨hx, hb, hml, hown, ht⟩ (c_Md_number l dC dI ad ca op rf rl k hopm hop s.heap.size d p1 hpre _ rfl) (cwV 1 ht (tb_V q_622 q_624 q_38 q_47 q_625) rfl rfl rfl p_Md_number ⟨show (rf + 6) + 1 ≤ rf + 7 by omega, show 8 + (6 + 11) + (rl + 137) ≤ rl + 162 by omega⟩) (wx_preV (wc := (w_M ad ca d)) hN hK hP hD [0, 1, 2, 3, 4, 5, 6, 7, 8, 9, 10, 11] [0, 1, 2, 3, 4, 5, 6, 7, 8, 9, 10] rfl (by decide) rfl (ci := 4) (q0 := 0) rfl rfl) rfl rfl hl.1 rfl (lv_room (Nat.le_of_ble_eq_true rfl)) d_Md_answer_340 ⟨Nat.zero_le _, Nat.zero_le _⟩) hP hD hS hA [0, 1, 2, 3, 4, 5, 6, 7, 8, 9, 10, 11] [] [0, 1, 2, 3, 4, 5, 6, 7, 8, 9, 10, 11] rfl rfl (by decide) (by decide) (by decide) (fun _ => rfl) (fun r_8 v_8 H locs hw_8 hP hD hS => ?_)
              have hP : va_P (dC, dI) vwCl (w_M ad ca v_8) H := hP
              have hD : va_D A (w_M ad ca v_8) := hD
              rw [← hw_8] at he
              try dsimp only at he
              refine lv_istore_n (lv' := [(3, .int r_8), (0, .ref (ad 16)), (1, .int p0), (2, .int p1)]) hx hb d_Md_answer_343 rfl hl (by decide) rfl (fun ls hl => ?_)
              refine lv_aload_n hx hb d_Md_answer_344 rfl (lv_at hl 1 rfl) ?_
              refine va_get (D := (dC, dI)) (ci := 4) (v := .int (TMd_fault v_8)) (C := R_Md) (T := T_Md) (N := 23) hx hb ht i_Md hown hK hP 0 rfl rfl 13 (by decide) (ht _ q_458) (fun _ h9 => h9) rfl d_Md_answer_345 ?_
              refine lv_if_gt (tgt := 357) hx hb d_Md_answer_348 (by decide) (fun c_9 => ?_) (fun c_9 => ?_)
              · have he := he.trans (if_pos c_9)
                refine lv_iload_n hx hb d_Md_answer_357 rfl (lv_at hl 0 rfl) ?_
                exact W.iret hx hb hr (v := r_8) (fun t ht hW => ⟨⟨r_8, v_8, rfl, he.symm, by rw [ht]; exact hP, va_K.moved hW.alike hK, hD⟩, hS.F ht⟩) hS.2.2 d_Md_answer_358
              · have he := he.trans (if_neg c_9)
                refine lv_iload_n hx hb d_Md_answer_351 rfl (lv_at hl 2 rfl) ?_
                refine lv_bipush (v := 7) hx hb d_Md_answer_352 (by decide) ?_
                refine lv_icmp_ne (tgt := 359) hx hb d_Md_answer_354 (by decide) (fun c_10 => ?_) (fun c_10 => ?_)
                · have he := he.trans (if_neg c_10)
                  refine lv_iload_n hx hb d_Md_answer_359 rfl (lv_at hl 2 rfl) ?_
                  refine lv_iconst (v := 4) hx hb d_Md_answer_360 (by decide) ?_
                  refine lv_icmp_ne (tgt := 379) hx hb d_Md_answer_361 (by decide) (fun c_11 => ?_) (fun c_11 => ?_)
                  · have he := he.trans (if_neg c_11)
                    refine lv_iload_n hx hb d_Md_answer_379 rfl (lv_at hl 0 rfl) ?_
                    refine lv_iconst (v := 0) hx hb d_Md_answer_380 (by decide) ?_
                    refine lv_iload_n hx hb d_Md_answer_381 rfl (lv_at hl 2 rfl) ?_
                    refine lv_bipush (v := 9) hx hb d_Md_answer_382 (by decide) ?_
                    refine lv_icmp_ne (tgt := 391) hx hb d_Md_answer_384 (by decide) (fun c_12 => ?_) (fun c_12 => ?_)
                    · have he := he.trans (if_neg c_12)
                      refine lv_bipush (v := 7) hx hb d_Md_answer_391 (by decide) ?_
                      refine wx_ci (wS := fun _ : Unit => w_E ad ca) (ws2 := fun _ : Unit => w_M ad ca v_8) (va_runS (As := [.int r_8, .int 0, .int 7]) (rest := []) ⟨hx, hb, hml, hown, ht⟩ (c_Md_in l dC dI ad ca H.size r_8 0 7 _ rfl) (va_cwS 3 ht (tb_S q_519 q_520 q_47 q_521) rfl rfl rfl p_Md_in.2 ⟨show 0 + 1 ≤ rf + 7 by omega, show 8 + (3 + 11) + 0 ≤ rl + 162 by omega⟩) (wx_preS (wc := (w_E ad ca)) hN hK hP hD [] [] rfl (by decide) rfl) rfl rfl hl.1 rfl (lv_room (Nat.le_of_ble_eq_true rfl)) d_Md_answer_393 ⟨Nat.zero_le _, Nat.zero_le _⟩) hP hD hS hA [] [0, 1, 2, 3, 4, 5, 6, 7, 8, 9, 10, 11] [0, 1, 2, 3, 4, 5, 6, 7, 8, 9, 10, 11] rfl rfl (by decide) (by decide) (by decide) (fun _ => rfl) (fun r_13 _ H locs hw_13 hP hD hS => ?_)
                      subst hw_13
                      have hP : va_P (dC, dI) vwCl (w_M ad ca v_8) H := hP
                      have hD : va_D A (w_M ad ca v_8) := hD
                      refine lv_if_ne (tgt := 407) hx hb d_Md_answer_396 (by decide) (fun c_14 => ?_) (fun c_14 => ?_)
                      · have he := he.trans (if_neg c_14)
                        refine lv_iload_n hx hb d_Md_answer_407 rfl (lv_at hl 2 rfl) ?_
                        refine lv_bipush (v := 9) hx hb d_Md_answer_408 (by decide) ?_
                        refine lv_icmp_ne (tgt := 422) hx hb d_Md_answer_410 (by decide) (fun c_15 => ?_) (fun c_15 => ?_)
                        · refine lv_aload_n hx hb d_Md_answer_422 rfl (lv_at hl 1 rfl) ?_
                          refine va_get (D := (dC, dI)) (ci := 4) (v := .ref (ad 22)) (C := R_Md) (T := T_Md) (N := 23) hx hb ht i_Md hown hK hP 0 rfl rfl 7 (by decide) (ht _ q_452) (fun _ h9 => h9) rfl d_Md_answer_423 ?_
                          refine lv_iload_n hx hb d_Md_answer_426 rfl (lv_at hl 0 rfl) ?_
                          refine va_zald (f := (TMd_ends v_8)) hx hb hK hP 6 5 rfl rfl (in_vp c_14 (by decide)) d_Md_answer_427 ?_
                          refine wx_ci (wS := fun _ : Unit => w_E ad ca) (ws2 := fun _ : Unit => w_M ad ca v_8) (va_runS (As := [.int ((TMd_ends v_8) r_8.toNatClampNeg)]) (rest := []) ⟨hx, hb, hml, hown, ht⟩ (c_Md_yes l dC dI ad ca H.size ((TMd_ends v_8) r_8.toNatClampNeg) _ rfl) (va_cwS 1 ht (tb_S q_619 q_620 q_47 q_621) rfl rfl rfl p_Md_yes.2 ⟨show 0 + 1 ≤ rf + 7 by omega, show 8 + (1 + 11) + 0 ≤ rl + 162 by omega⟩) (wx_preS (wc := (w_E ad ca)) hN hK hP hD [] [] rfl (by decide) rfl) rfl rfl hl.1 rfl (lv_room (Nat.le_of_ble_eq_true rfl)) d_Md_answer_428 ⟨Nat.zero_le _, Nat.zero_le _⟩) hP hD hS hA [] [0, 1, 2, 3, 4, 5, 6, 7, 8, 9, 10, 11] [0, 1, 2, 3, 4, 5, 6, 7, 8, 9, 10, 11] rfl rfl (by decide) (by decide) (by decide) (fun _ => rfl) (fun r_16 _ H locs hw_16 hP hD hS => ?_)
                          subst hw_16
                          have hP : va_P (dC, dI) vwCl (w_M ad ca v_8) H := hP
                          have hD : va_D A (w_M ad ca v_8) := hD
                          exact W.iret hx hb hr (v := (f_Md_yes ((TMd_ends v_8) r_8.toNatClampNeg))) (fun t ht hW => ⟨⟨(f_Md_yes ((TMd_ends v_8) r_8.toNatClampNeg)), v_8, rfl, he.symm, by rw [ht]; exact hP, va_K.moved hW.alike hK, hD⟩, hS.F ht⟩) hS.2.2 d_Md_answer_431
                        · exact absurd c_15 c_12
                      · have he := he.trans (if_pos c_14)
                        refine lv_aload_n hx hb d_Md_answer_399 rfl (lv_at hl 1 rfl) ?_
                        refine lv_bipush (v := 8) hx hb d_Md_answer_400 (by decide) ?_
                        refine wx_cv (wS := fun v : TMd => w_M ad ca v) (ws2 := fun v : TMd => w_M ad ca v) (va_runV (As := [.int 8]) (rest := []) ⟨hx, hb, hml, hown, ht⟩ (c_Md_fail l dC dI ad ca H.size v_8 8 _ rfl) (cwV 1 ht (tb_V q_571 q_573 q_26 q_47 q_574) rfl rfl rfl p_Md_fail ⟨show 0 + 1 ≤ rf + 7 by omega, show 8 + (2 + 11) + 0 ≤ rl + 162 by omega⟩) (wx_preV (wc := (w_M ad ca v_8)) hN hK hP hD [0, 1, 2, 3, 4, 5, 6, 7, 8, 9, 10, 11] [0, 1, 2, 3, 4, 5, 6, 7, 8, 9, 10] rfl (by decide) rfl (ci := 4) (q0 := 0) rfl rfl) rfl rfl hl.1 rfl (lv_room (Nat.le_of_ble_eq_true rfl)) d_Md_answer_402 ⟨Nat.zero_le _, Nat.zero_le _⟩) hP hD hS hA [0, 1, 2, 3, 4, 5, 6, 7, 8, 9, 10, 11] [] [0, 1, 2, 3, 4, 5, 6, 7, 8, 9, 10, 11] rfl rfl (by decide) (by decide) (by decide) (fun _ => rfl) (fun v_17 H locs hw_17 hP hD hS => ?_)
                        have hP : va_P (dC, dI) vwCl (w_M ad ca v_17) H := hP
                        have hD : va_D A (w_M ad ca v_17) := hD
                        rw [← hw_17] at he
                        try dsimp only at he
                        refine lv_iconst (v := 0) hx hb d_Md_answer_405 (by decide) ?_
                        exact W.iret hx hb hr (v := 0) (fun t ht hW => ⟨⟨0, v_17, rfl, he.symm, by rw [ht]; exact hP, va_K.moved hW.alike hK, hD⟩, hS.F ht⟩) hS.2.2 d_Md_answer_406
                    · have he := he.trans (if_pos c_12)
                      refine lv_iconst (v := 3) hx hb d_Md_answer_387 (by decide) ?_
                      refine lv_goto (tgt := 393) hx hb d_Md_answer_388 (by decide) ?_
                      refine wx_ci (wS := fun _ : Unit => w_E ad ca) (ws2 := fun _ : Unit => w_M ad ca v_8) (va_runS (As := [.int r_8, .int 0, .int 3]) (rest := []) ⟨hx, hb, hml, hown, ht⟩ (c_Md_in l dC dI ad ca H.size r_8 0 3 _ rfl) (va_cwS 3 ht (tb_S q_519 q_520 q_47 q_521) rfl rfl rfl p_Md_in.2 ⟨show 0 + 1 ≤ rf + 7 by omega, show 8 + (3 + 11) + 0 ≤ rl + 162 by omega⟩) (wx_preS (wc := (w_E ad ca)) hN hK hP hD [] [] rfl (by decide) rfl) rfl rfl hl.1 rfl (lv_room (Nat.le_of_ble_eq_true rfl)) d_Md_answer_393 ⟨Nat.zero_le _, Nat.zero_le _⟩) hP hD hS hA [] [0, 1, 2, 3, 4, 5, 6, 7, 8, 9, 10, 11] [0, 1, 2, 3, 4, 5, 6, 7, 8, 9, 10, 11] rfl rfl (by decide) (by decide) (by decide) (fun _ => rfl) (fun r_18 _ H locs hw_18 hP hD hS => ?_)
                      subst hw_18
                      have hP : va_P (dC, dI) vwCl (w_M ad ca v_8) H := hP
                      have hD : va_D A (w_M ad ca v_8) := hD
                      refine lv_if_ne (tgt := 407) hx hb d_Md_answer_396 (by decide) (fun c_19 => ?_) (fun c_19 => ?_)
                      · have he := he.trans (if_neg c_19)
                        refine lv_iload_n hx hb d_Md_answer_407 rfl (lv_at hl 2 rfl) ?_
                        refine lv_bipush (v := 9) hx hb d_Md_answer_408 (by decide) ?_
                        refine lv_icmp_ne (tgt := 422) hx hb d_Md_answer_410 (by decide) (fun c_20 => ?_) (fun c_20 => ?_)
                        · exact absurd c_12 c_20
                        · refine lv_aload_n hx hb d_Md_answer_413 rfl (lv_at hl 1 rfl) ?_
                          refine va_get (D := (dC, dI)) (ci := 4) (v := .ref (ad 21)) (C := R_Md) (T := T_Md) (N := 23) hx hb ht i_Md hown hK hP 0 rfl rfl 6 (by decide) (ht _ q_451) (fun _ h9 => h9) rfl d_Md_answer_414 ?_
                          refine lv_iload_n hx hb d_Md_answer_417 rfl (lv_at hl 0 rfl) ?_
                          refine va_zald (f := (TMd_modes v_8)) hx hb hK hP 5 4 rfl rfl (in_vp c_19 (by decide)) d_Md_answer_418 ?_
                          refine lv_goto (tgt := 428) hx hb d_Md_answer_419 (by decide) ?_
                          refine wx_ci (wS := fun _ : Unit => w_E ad ca) (ws2 := fun _ : Unit => w_M ad ca v_8) (va_runS (As := [.int ((TMd_modes v_8) r_8.toNatClampNeg)]) (rest := []) ⟨hx, hb, hml, hown, ht⟩ (c_Md_yes l dC dI ad ca H.size ((TMd_modes v_8) r_8.toNatClampNeg) _ rfl) (va_cwS 1 ht (tb_S q_619 q_620 q_47 q_621) rfl rfl rfl p_Md_yes.2 ⟨show 0 + 1 ≤ rf + 7 by omega, show 8 + (1 + 11) + 0 ≤ rl + 162 by omega⟩) (wx_preS (wc := (w_E ad ca)) hN hK hP hD [] [] rfl (by decide) rfl) rfl rfl hl.1 rfl (lv_room (Nat.le_of_ble_eq_true rfl)) d_Md_answer_428 ⟨Nat.zero_le _, Nat.zero_le _⟩) hP hD hS hA [] [0, 1, 2, 3, 4, 5, 6, 7, 8, 9, 10, 11] [0, 1, 2, 3, 4, 5, 6, 7, 8, 9, 10, 11] rfl rfl (by decide) (by decide) (by decide) (fun _ => rfl) (fun r_21 _ H locs hw_21 hP hD hS => ?_)
                          subst hw_21
                          have hP : va_P (dC, dI) vwCl (w_M ad ca v_8) H := hP
                          have hD : va_D A (w_M ad ca v_8) := hD
                          exact W.iret hx hb hr (v := (f_Md_yes ((TMd_modes v_8) r_8.toNatClampNeg))) (fun t ht hW => ⟨⟨(f_Md_yes ((TMd_modes v_8) r_8.toNatClampNeg)), v_8, rfl, he.symm, by rw [ht]; exact hP, va_K.moved hW.alike hK, hD⟩, hS.F ht⟩) hS.2.2 d_Md_answer_431
                      · have he := he.trans (if_pos c_19)
                        refine lv_aload_n hx hb d_Md_answer_399 rfl (lv_at hl 1 rfl) ?_
                        refine lv_bipush (v := 8) hx hb d_Md_answer_400 (by decide) ?_
                        refine wx_cv (wS := fun v : TMd => w_M ad ca v) (ws2 := fun v : TMd => w_M ad ca v) (va_runV (As := [.int 8]) (rest := []) ⟨hx, hb, hml, hown, ht⟩ (c_Md_fail l dC dI ad ca H.size v_8 8 _ rfl) (cwV 1 ht (tb_V q_571 q_573 q_26 q_47 q_574) rfl rfl rfl p_Md_fail ⟨show 0 + 1 ≤ rf + 7 by omega, show 8 + (2 + 11) + 0 ≤ rl + 162 by omega⟩) (wx_preV (wc := (w_M ad ca v_8)) hN hK hP hD [0, 1, 2, 3, 4, 5, 6, 7, 8, 9, 10, 11] [0, 1, 2, 3, 4, 5, 6, 7, 8, 9, 10] rfl (by decide) rfl (ci := 4) (q0 := 0) rfl rfl) rfl rfl hl.1 rfl (lv_room (Nat.le_of_ble_eq_true rfl)) d_Md_answer_402 ⟨Nat.zero_le _, Nat.zero_le _⟩) hP hD hS hA [0, 1, 2, 3, 4, 5, 6, 7, 8, 9, 10, 11] [] [0, 1, 2, 3, 4, 5, 6, 7, 8, 9, 10, 11] rfl rfl (by decide) (by decide) (by decide) (fun _ => rfl) (fun v_22 H locs hw_22 hP hD hS => ?_)
                        have hP : va_P (dC, dI) vwCl (w_M ad ca v_22) H := hP
                        have hD : va_D A (w_M ad ca v_22) := hD
                        rw [← hw_22] at he
                        try dsimp only at he
                        refine lv_iconst (v := 0) hx hb d_Md_answer_405 (by decide) ?_
                        exact W.iret hx hb hr (v := 0) (fun t ht hW => ⟨⟨0, v_22, rfl, he.symm, by rw [ht]; exact hP, va_K.moved hW.alike hK, hD⟩, hS.F ht⟩) hS.2.2 d_Md_answer_406
                  · have he := he.trans (if_pos c_11)
                    refine lv_iload_n hx hb d_Md_answer_364 rfl (lv_at hl 0 rfl) ?_
                    refine lv_iconst (v := 2) hx hb d_Md_answer_365 (by decide) ?_
                    refine lv_irem hx hb d_Md_answer_366 (by decide) ?_
                    refine lv_if_eq (tgt := 374) hx hb d_Md_answer_367 (by decide) (fun c_23 => ?_) (fun c_23 => ?_)
                    · have he := he.trans (if_pos c_23)
                      refine lv_iconst (v := 0) hx hb d_Md_answer_374 (by decide) ?_
                      refine wx_ci (wS := fun _ : Unit => w_E ad ca) (ws2 := fun _ : Unit => w_M ad ca v_8) (va_runS (As := [.int 0]) (rest := []) ⟨hx, hb, hml, hown, ht⟩ (c_Md_yes l dC dI ad ca H.size 0 _ rfl) (va_cwS 1 ht (tb_S q_619 q_620 q_47 q_621) rfl rfl rfl p_Md_yes.2 ⟨show 0 + 1 ≤ rf + 7 by omega, show 8 + (1 + 11) + 0 ≤ rl + 162 by omega⟩) (wx_preS (wc := (w_E ad ca)) hN hK hP hD [] [] rfl (by decide) rfl) rfl rfl hl.1 rfl (lv_room (Nat.le_of_ble_eq_true rfl)) d_Md_answer_375 ⟨Nat.zero_le _, Nat.zero_le _⟩) hP hD hS hA [] [0, 1, 2, 3, 4, 5, 6, 7, 8, 9, 10, 11] [0, 1, 2, 3, 4, 5, 6, 7, 8, 9, 10, 11] rfl rfl (by decide) (by decide) (by decide) (fun _ => rfl) (fun r_24 _ H locs hw_24 hP hD hS => ?_)
                      subst hw_24
                      have hP : va_P (dC, dI) vwCl (w_M ad ca v_8) H := hP
                      have hD : va_D A (w_M ad ca v_8) := hD
                      exact W.iret hx hb hr (v := (f_Md_yes 0)) (fun t ht hW => ⟨⟨(f_Md_yes 0), v_8, rfl, he.symm, by rw [ht]; exact hP, va_K.moved hW.alike hK, hD⟩, hS.F ht⟩) hS.2.2 d_Md_answer_378
                    · have he := he.trans (if_neg c_23)
                      refine lv_iconst (v := 1) hx hb d_Md_answer_370 (by decide) ?_
                      refine lv_goto (tgt := 375) hx hb d_Md_answer_371 (by decide) ?_
                      refine wx_ci (wS := fun _ : Unit => w_E ad ca) (ws2 := fun _ : Unit => w_M ad ca v_8) (va_runS (As := [.int 1]) (rest := []) ⟨hx, hb, hml, hown, ht⟩ (c_Md_yes l dC dI ad ca H.size 1 _ rfl) (va_cwS 1 ht (tb_S q_619 q_620 q_47 q_621) rfl rfl rfl p_Md_yes.2 ⟨show 0 + 1 ≤ rf + 7 by omega, show 8 + (1 + 11) + 0 ≤ rl + 162 by omega⟩) (wx_preS (wc := (w_E ad ca)) hN hK hP hD [] [] rfl (by decide) rfl) rfl rfl hl.1 rfl (lv_room (Nat.le_of_ble_eq_true rfl)) d_Md_answer_375 ⟨Nat.zero_le _, Nat.zero_le _⟩) hP hD hS hA [] [0, 1, 2, 3, 4, 5, 6, 7, 8, 9, 10, 11] [0, 1, 2, 3, 4, 5, 6, 7, 8, 9, 10, 11] rfl rfl (by decide) (by decide) (by decide) (fun _ => rfl) (fun r_25 _ H locs hw_25 hP hD hS => ?_)
                      subst hw_25
                      have hP : va_P (dC, dI) vwCl (w_M ad ca v_8) H := hP
                      have hD : va_D A (w_M ad ca v_8) := hD
                      exact W.iret hx hb hr (v := (f_Md_yes 1)) (fun t ht hW => ⟨⟨(f_Md_yes 1), v_8, rfl, he.symm, by rw [ht]; exact hP, va_K.moved hW.alike hK, hD⟩, hS.F ht⟩) hS.2.2 d_Md_answer_378
                · have he := he.trans (if_pos c_10)
                  refine lv_iload_n hx hb d_Md_answer_357 rfl (lv_at hl 0 rfl) ?_
                  exact W.iret hx hb hr (v := r_8) (fun t ht hW => ⟨⟨r_8, v_8, rfl, he.symm, by rw [ht]; exact hP, va_K.moved hW.alike hK, hD⟩, hS.F ht⟩) hS.2.2 d_Md_answer_358
            · have he := he.trans (if_pos c_7)
              refine lv_aload_n hx hb d_Md_answer_298 rfl (lv_at hl 0 rfl) ?_
              refine wx_ci (wS := fun v : TMd => w_M ad ca v) (ws2 := fun v : TMd => w_M ad ca v) (va_runV (As := []) (rest := []) ⟨hx, hb, hml, hown, ht⟩ (c_Md_need l dC dI ad ca s.heap.size d ⟨hpre.1, hpre.2.1⟩ _ rfl) (cwV 0 ht (tb_V q_599 q_601 q_33 q_47 q_602) rfl rfl rfl p_Md_need ⟨show 2 + 1 ≤ rf + 7 by omega, show 8 + (2 + 11) + 42 ≤ rl + 162 by omega⟩) (wx_preV (wc := (w_M ad ca d)) hN hK hP hD [0, 1, 2, 3, 4, 5, 6, 7, 8, 9, 10, 11] [0, 1, 2, 3, 4, 5, 6, 7, 8, 9, 10] rfl (by decide) rfl (ci := 4) (q0 := 0) rfl rfl) rfl rfl hl.1 rfl (lv_room (Nat.le_of_ble_eq_true rfl)) d_Md_answer_299 ⟨Nat.zero_le _, Nat.zero_le _⟩) hP hD hS hA [0, 1, 2, 3, 4, 5, 6, 7, 8, 9, 10, 11] [] [0, 1, 2, 3, 4, 5, 6, 7, 8, 9, 10, 11] rfl rfl (by decide) (by decide) (by decide) (fun _ => rfl) (fun r_26 v_26 H locs hw_26 hP hD hS => ?_)
              have hP : va_P (dC, dI) vwCl (w_M ad ca v_26) H := hP
              have hD : va_D A (w_M ad ca v_26) := hD
              rw [← hw_26] at he
              try dsimp only at he
              refine lv_istore_n (lv' := [(3, .int r_26), (0, .ref (ad 16)), (1, .int p0), (2, .int p1)]) hx hb d_Md_answer_302 rfl hl (by decide) rfl (fun ls hl => ?_)
              refine lv_aload_n hx hb d_Md_answer_303 rfl (lv_at hl 1 rfl) ?_
              refine va_get (D := (dC, dI)) (ci := 4) (v := .int (TMd_fault v_26)) (C := R_Md) (T := T_Md) (N := 23) hx hb ht i_Md hown hK hP 0 rfl rfl 13 (by decide) (ht _ q_458) (fun _ h9 => h9) rfl d_Md_answer_304 ?_
              refine lv_if_le (tgt := 314) hx hb d_Md_answer_307 (by decide) (fun c_27 => ?_) (fun c_27 => ?_)
              · have he := he.trans (if_pos c_27)
                refine lv_iload_n hx hb d_Md_answer_314 rfl (lv_at hl 0 rfl) ?_
                refine lv_sipush (v := 4096) hx hb d_Md_answer_315 (by decide) ?_
                refine lv_icmp_lt (tgt := 329) hx hb d_Md_answer_318 (by decide) (fun c_28 => ?_) (fun c_28 => ?_)
                · have he := he.trans (if_pos c_28)
                  refine lv_iconst (v := 1) hx hb d_Md_answer_329 (by decide) ?_
                  refine lv_goto (tgt := 334) hx hb d_Md_answer_330 (by decide) ?_
                  refine wx_ci (wS := fun _ : Unit => w_E ad ca) (ws2 := fun _ : Unit => w_M ad ca v_26) (va_runS (As := [.int 1]) (rest := []) ⟨hx, hb, hml, hown, ht⟩ (c_Md_yes l dC dI ad ca H.size 1 _ rfl) (va_cwS 1 ht (tb_S q_619 q_620 q_47 q_621) rfl rfl rfl p_Md_yes.2 ⟨show 0 + 1 ≤ rf + 7 by omega, show 8 + (1 + 11) + 0 ≤ rl + 162 by omega⟩) (wx_preS (wc := (w_E ad ca)) hN hK hP hD [] [] rfl (by decide) rfl) rfl rfl hl.1 rfl (lv_room (Nat.le_of_ble_eq_true rfl)) d_Md_answer_334 ⟨Nat.zero_le _, Nat.zero_le _⟩) hP hD hS hA [] [0, 1, 2, 3, 4, 5, 6, 7, 8, 9, 10, 11] [0, 1, 2, 3, 4, 5, 6, 7, 8, 9, 10, 11] rfl rfl (by decide) (by decide) (by decide) (fun _ => rfl) (fun r_29 _ H locs hw_29 hP hD hS => ?_)
                  subst hw_29
                  have hP : va_P (dC, dI) vwCl (w_M ad ca v_26) H := hP
                  have hD : va_D A (w_M ad ca v_26) := hD
                  exact W.iret hx hb hr (v := (f_Md_yes 1)) (fun t ht hW => ⟨⟨(f_Md_yes 1), v_26, rfl, he.symm, by rw [ht]; exact hP, va_K.moved hW.alike hK, hD⟩, hS.F ht⟩) hS.2.2 d_Md_answer_337
                · have he := he.trans (if_neg c_28)
                  refine lv_aload_n hx hb d_Md_answer_321 rfl (lv_at hl 1 rfl) ?_
                  refine lv_iload_n hx hb d_Md_answer_322 rfl (lv_at hl 0 rfl) ?_
                  refine wx_ci (wS := fun _ : Unit => w_M ad ca v_26) (ws2 := fun _ : Unit => w_M ad ca v_26) (va_runV (As := [.int r_26]) (rest := []) ⟨hx, hb, hml, hown, ht⟩ (c_Md_kindOf l dC dI ad ca H.size v_26 r_26 (nd_hi hw_26 hpre.1 hpre.2.1) _ rfl) (cwV 1 ht (tb_V q_555 q_557 q_23 q_47 q_558) rfl rfl rfl p_Md_kindOf ⟨show 0 + 1 ≤ rf + 7 by omega, show 8 + (2 + 11) + 0 ≤ rl + 162 by omega⟩) (wx_preV (wc := (w_M ad ca v_26)) hN hK hP hD [0, 1, 2, 3, 4, 5, 6, 7, 8, 9, 10, 11] [0, 1, 2, 3, 4, 5, 6, 7, 8, 9, 10] rfl (by decide) rfl (ci := 4) (q0 := 0) rfl rfl) rfl rfl hl.1 rfl (lv_room (Nat.le_of_ble_eq_true rfl)) d_Md_answer_323 ⟨Nat.zero_le _, Nat.zero_le _⟩) hP hD hS hA [0, 1, 2, 3, 4, 5, 6, 7, 8, 9, 10, 11] [] [0, 1, 2, 3, 4, 5, 6, 7, 8, 9, 10, 11] rfl rfl (by decide) (by decide) (by decide) (fun _ => rfl) (fun r_30 _ H locs hw_30 hP hD hS => ?_)
                  subst hw_30
                  have hP : va_P (dC, dI) vwCl (w_M ad ca v_26) H := hP
                  have hD : va_D A (w_M ad ca v_26) := hD
                  refine lv_if_eq (tgt := 333) hx hb d_Md_answer_326 (by decide) (fun c_31 => ?_) (fun c_31 => ?_)
                  · have he := he.trans (if_pos c_31)
                    refine lv_iconst (v := 0) hx hb d_Md_answer_333 (by decide) ?_
                    refine wx_ci (wS := fun _ : Unit => w_E ad ca) (ws2 := fun _ : Unit => w_M ad ca v_26) (va_runS (As := [.int 0]) (rest := []) ⟨hx, hb, hml, hown, ht⟩ (c_Md_yes l dC dI ad ca H.size 0 _ rfl) (va_cwS 1 ht (tb_S q_619 q_620 q_47 q_621) rfl rfl rfl p_Md_yes.2 ⟨show 0 + 1 ≤ rf + 7 by omega, show 8 + (1 + 11) + 0 ≤ rl + 162 by omega⟩) (wx_preS (wc := (w_E ad ca)) hN hK hP hD [] [] rfl (by decide) rfl) rfl rfl hl.1 rfl (lv_room (Nat.le_of_ble_eq_true rfl)) d_Md_answer_334 ⟨Nat.zero_le _, Nat.zero_le _⟩) hP hD hS hA [] [0, 1, 2, 3, 4, 5, 6, 7, 8, 9, 10, 11] [0, 1, 2, 3, 4, 5, 6, 7, 8, 9, 10, 11] rfl rfl (by decide) (by decide) (by decide) (fun _ => rfl) (fun r_32 _ H locs hw_32 hP hD hS => ?_)
                    subst hw_32
                    have hP : va_P (dC, dI) vwCl (w_M ad ca v_26) H := hP
                    have hD : va_D A (w_M ad ca v_26) := hD
                    exact W.iret hx hb hr (v := (f_Md_yes 0)) (fun t ht hW => ⟨⟨(f_Md_yes 0), v_26, rfl, he.symm, by rw [ht]; exact hP, va_K.moved hW.alike hK, hD⟩, hS.F ht⟩) hS.2.2 d_Md_answer_337
                  · have he := he.trans (if_neg c_31)
                    refine lv_iconst (v := 1) hx hb d_Md_answer_329 (by decide) ?_
                    refine lv_goto (tgt := 334) hx hb d_Md_answer_330 (by decide) ?_
                    refine wx_ci (wS := fun _ : Unit => w_E ad ca) (ws2 := fun _ : Unit => w_M ad ca v_26) (va_runS (As := [.int 1]) (rest := []) ⟨hx, hb, hml, hown, ht⟩ (c_Md_yes l dC dI ad ca H.size 1 _ rfl) (va_cwS 1 ht (tb_S q_619 q_620 q_47 q_621) rfl rfl rfl p_Md_yes.2 ⟨show 0 + 1 ≤ rf + 7 by omega, show 8 + (1 + 11) + 0 ≤ rl + 162 by omega⟩) (wx_preS (wc := (w_E ad ca)) hN hK hP hD [] [] rfl (by decide) rfl) rfl rfl hl.1 rfl (lv_room (Nat.le_of_ble_eq_true rfl)) d_Md_answer_334 ⟨Nat.zero_le _, Nat.zero_le _⟩) hP hD hS hA [] [0, 1, 2, 3, 4, 5, 6, 7, 8, 9, 10, 11] [0, 1, 2, 3, 4, 5, 6, 7, 8, 9, 10, 11] rfl rfl (by decide) (by decide) (by decide) (fun _ => rfl) (fun r_33 _ H locs hw_33 hP hD hS => ?_)
                    subst hw_33
                    have hP : va_P (dC, dI) vwCl (w_M ad ca v_26) H := hP
                    have hD : va_D A (w_M ad ca v_26) := hD
                    exact W.iret hx hb hr (v := (f_Md_yes 1)) (fun t ht hW => ⟨⟨(f_Md_yes 1), v_26, rfl, he.symm, by rw [ht]; exact hP, va_K.moved hW.alike hK, hD⟩, hS.F ht⟩) hS.2.2 d_Md_answer_337
              · have he := he.trans (if_neg c_27)
                refine lv_iconst (v := 0) hx hb d_Md_answer_310 (by decide) ?_
                refine lv_goto (tgt := 337) hx hb d_Md_answer_311 (by decide) ?_
                exact W.iret hx hb hr (v := 0) (fun t ht hW => ⟨⟨0, v_26, rfl, he.symm, by rw [ht]; exact hP, va_K.moved hW.alike hK, hD⟩, hS.F ht⟩) hS.2.2 d_Md_answer_337
          · have he := he.trans (if_pos c_6)
            refine lv_iload_n hx hb d_Md_answer_281 rfl (lv_at hl 1 rfl) ?_
            refine lv_iconst (v := 5) hx hb d_Md_answer_282 (by decide) ?_
            refine lv_icmp_ne (tgt := 290) hx hb d_Md_answer_283 (by decide) (fun c_34 => ?_) (fun c_34 => ?_)
            · refine lv_iconst (v := 0) hx hb d_Md_answer_290 (by decide) ?_
              exact W.iret hx hb hr (v := 0) (fun t ht hW => ⟨⟨0, d, rfl, he.symm, by rw [ht]; exact hP, va_K.moved hW.alike hK, hD⟩, hS.F ht⟩) hS.2.2 d_Md_answer_291
            · exact absurd c_34 c_4
      · have he := he.trans (if_pos c_3)
        refine lv_aload_n hx hb d_Md_answer_132 rfl (lv_at hl 0 rfl) ?_
        refine lv_iload_n hx hb d_Md_answer_133 rfl (lv_at hl 2 rfl) ?_
        refine wx_ci (wS := fun v : TMd => w_M ad ca v) (ws2 := fun v : TMd => w_M ad ca v) (va_runV (As := [.int p1]) (rest := []) ⟨hx, hb, hml, hown, ht⟩ (c_Md_number l dC dI ad ca op rf rl k hopm hop s.heap.size d p1 hpre _ rfl) (cwV 1 ht (tb_V q_622 q_624 q_38 q_47 q_625) rfl rfl rfl p_Md_number ⟨show (rf + 6) + 1 ≤ rf + 7 by omega, show 8 + (6 + 11) + (rl + 137) ≤ rl + 162 by omega⟩) (wx_preV (wc := (w_M ad ca d)) hN hK hP hD [0, 1, 2, 3, 4, 5, 6, 7, 8, 9, 10, 11] [0, 1, 2, 3, 4, 5, 6, 7, 8, 9, 10] rfl (by decide) rfl (ci := 4) (q0 := 0) rfl rfl) rfl rfl hl.1 rfl (lv_room (Nat.le_of_ble_eq_true rfl)) d_Md_answer_134 ⟨Nat.zero_le _, Nat.zero_le _⟩) hP hD hS hA [0, 1, 2, 3, 4, 5, 6, 7, 8, 9, 10, 11] [] [0, 1, 2, 3, 4, 5, 6, 7, 8, 9, 10, 11] rfl rfl (by decide) (by decide) (by decide) (fun _ => rfl) (fun r_35 v_35 H locs hw_35 hP hD hS => ?_)
        have hP : va_P (dC, dI) vwCl (w_M ad ca v_35) H := hP
        have hD : va_D A (w_M ad ca v_35) := hD
        rw [← hw_35] at he
        try dsimp only at he
        refine lv_istore_n (lv' := [(3, .int r_35), (0, .ref (ad 16)), (1, .int p0), (2, .int p1)]) hx hb d_Md_answer_137 rfl hl (by decide) rfl (fun ls hl => ?_)
        refine lv_aload_n hx hb d_Md_answer_138 rfl (lv_at hl 1 rfl) ?_
        refine va_get (D := (dC, dI)) (ci := 4) (v := .int (TMd_fault v_35)) (C := R_Md) (T := T_Md) (N := 23) hx hb ht i_Md hown hK hP 0 rfl rfl 13 (by decide) (ht _ q_458) (fun _ h9 => h9) rfl d_Md_answer_139 ?_
        refine lv_if_le (tgt := 149) hx hb d_Md_answer_142 (by decide) (fun c_36 => ?_) (fun c_36 => ?_)
        · have he := he.trans (if_pos c_36)
          refine lv_aload_n hx hb d_Md_answer_149 rfl (lv_at hl 1 rfl) ?_
          refine lv_iload_n hx hb d_Md_answer_150 rfl (lv_at hl 3 rfl) ?_
          refine wx_ci (wS := fun v : TMd => w_M ad ca v) (ws2 := fun v : TMd => w_M ad ca v) (va_runV (As := [.int p1]) (rest := []) ⟨hx, hb, hml, hown, ht⟩ (c_Md_askedToken l dC dI ad ca op rf rl k hopm hop H.size v_35 p1 (num_l op k hopm hw_35 hpre).1 _ rfl) (cwV 1 ht (tb_V q_591 q_593 q_31 q_47 q_594) rfl rfl rfl p_Md_askedToken ⟨show (rf + 6) + 1 ≤ rf + 7 by omega, show 8 + (3 + 11) + (rl + 137) ≤ rl + 162 by omega⟩) (wx_preV (wc := (w_M ad ca v_35)) hN hK hP hD [0, 1, 2, 3, 4, 5, 6, 7, 8, 9, 10, 11] [0, 1, 2, 3, 4, 5, 6, 7, 8, 9, 10] rfl (by decide) rfl (ci := 4) (q0 := 0) rfl rfl) rfl rfl hl.1 rfl (lv_room (Nat.le_of_ble_eq_true rfl)) d_Md_answer_151 ⟨Nat.zero_le _, Nat.zero_le _⟩) hP hD hS hA [0, 1, 2, 3, 4, 5, 6, 7, 8, 9, 10, 11] [] [0, 1, 2, 3, 4, 5, 6, 7, 8, 9, 10, 11] rfl rfl (by decide) (by decide) (by decide) (fun _ => rfl) (fun r_37 v_37 H locs hw_37 hP hD hS => ?_)
          have hP : va_P (dC, dI) vwCl (w_M ad ca v_37) H := hP
          have hD : va_D A (w_M ad ca v_37) := hD
          rw [← hw_37] at he
          try dsimp only at he
          refine lv_istore (lv' := [(4, .int r_37), (3, .int r_35), (0, .ref (ad 16)), (1, .int p0), (2, .int p1)]) hx hb d_Md_answer_154 hl (by decide) rfl (fun ls hl => ?_)
          refine lv_aload_n hx hb d_Md_answer_156 rfl (lv_at hl 2 rfl) ?_
          refine va_get (D := (dC, dI)) (ci := 4) (v := .int (TMd_fault v_37)) (C := R_Md) (T := T_Md) (N := 23) hx hb ht i_Md hown hK hP 0 rfl rfl 13 (by decide) (ht _ q_458) (fun _ h9 => h9) rfl d_Md_answer_157 ?_
          refine lv_if_ne (tgt := 182) hx hb d_Md_answer_160 (by decide) (fun c_38 => ?_) (fun c_38 => ?_)
          · have he := he.trans (if_neg c_38)
            refine lv_aload_n hx hb d_Md_answer_182 rfl (lv_at hl 2 rfl) ?_
            refine va_get (D := (dC, dI)) (ci := 4) (v := .int (TMd_fault v_37)) (C := R_Md) (T := T_Md) (N := 23) hx hb ht i_Md hown hK hP 0 rfl rfl 13 (by decide) (ht _ q_458) (fun _ h9 => h9) rfl d_Md_answer_183 ?_
            refine lv_if_le (tgt := 193) hx hb d_Md_answer_186 (by decide) (fun c_39 => ?_) (fun c_39 => ?_)
            · have he := he.trans (if_pos c_39)
              exact False.elim (c_38 (nu_f0 (at_l op k hopm hw_37 (num_l op k hopm hw_35 hpre).1).1.2.1 c_39))
            · have he := he.trans (if_neg c_39)
              refine lv_iconst (v := 0) hx hb d_Md_answer_189 (by decide) ?_
              refine lv_goto (tgt := 198) hx hb d_Md_answer_190 (by decide) ?_
              refine lv_istore (lv' := [(5, .int 0), (4, .int r_37), (3, .int r_35), (0, .ref (ad 16)), (1, .int p0), (2, .int p1)]) hx hb d_Md_answer_198 hl (by decide) rfl (fun ls hl => ?_)
              refine lv_aload_n hx hb d_Md_answer_200 rfl (lv_at hl 3 rfl) ?_
              refine va_get (D := (dC, dI)) (ci := 4) (v := .int (TMd_fault v_37)) (C := R_Md) (T := T_Md) (N := 23) hx hb ht i_Md hown hK hP 0 rfl rfl 13 (by decide) (ht _ q_458) (fun _ h9 => h9) rfl d_Md_answer_201 ?_
              refine lv_if_le (tgt := 211) hx hb d_Md_answer_204 (by decide) (fun c_40 => ?_) (fun c_40 => ?_)
              · exact absurd c_40 c_39
              · refine lv_iconst (v := 0) hx hb d_Md_answer_207 (by decide) ?_
                refine lv_goto (tgt := 269) hx hb d_Md_answer_208 (by decide) ?_
                exact W.iret hx hb hr (v := 0) (fun t ht hW => ⟨⟨0, v_37, rfl, he.symm, by rw [ht]; exact hP, va_K.moved hW.alike hK, hD⟩, hS.F ht⟩) hS.2.2 d_Md_answer_269
          · have he := he.trans (if_pos c_38)
            refine lv_iload hx hb d_Md_answer_163 (lv_at hl 0 rfl) ?_
            refine lv_sipush (v := 3132) hx hb d_Md_answer_165 (by decide) ?_
            refine lv_sipush (v := 3134) hx hb d_Md_answer_168 (by decide) ?_
            refine wx_ci (wS := fun _ : Unit => w_E ad ca) (ws2 := fun _ : Unit => w_M ad ca v_37) (va_runS (As := [.int r_37, .int 3132, .int 3134]) (rest := []) ⟨hx, hb, hml, hown, ht⟩ (c_Md_in l dC dI ad ca H.size r_37 3132 3134 _ rfl) (va_cwS 3 ht (tb_S q_519 q_520 q_47 q_521) rfl rfl rfl p_Md_in.2 ⟨show 0 + 1 ≤ rf + 7 by omega, show 8 + (3 + 11) + 0 ≤ rl + 162 by omega⟩) (wx_preS (wc := (w_E ad ca)) hN hK hP hD [] [] rfl (by decide) rfl) rfl rfl hl.1 rfl (lv_room (Nat.le_of_ble_eq_true rfl)) d_Md_answer_171 ⟨Nat.zero_le _, Nat.zero_le _⟩) hP hD hS hA [] [0, 1, 2, 3, 4, 5, 6, 7, 8, 9, 10, 11] [0, 1, 2, 3, 4, 5, 6, 7, 8, 9, 10, 11] rfl rfl (by decide) (by decide) (by decide) (fun _ => rfl) (fun r_41 _ H locs hw_41 hP hD hS => ?_)
            subst hw_41
            have hP : va_P (dC, dI) vwCl (w_M ad ca v_37) H := hP
            have hD : va_D A (w_M ad ca v_37) := hD
            refine lv_if_ne (tgt := 182) hx hb d_Md_answer_174 (by decide) (fun c_42 => ?_) (fun c_42 => ?_)
            · have he := he.trans (if_neg c_42)
              refine lv_aload_n hx hb d_Md_answer_182 rfl (lv_at hl 2 rfl) ?_
              refine va_get (D := (dC, dI)) (ci := 4) (v := .int (TMd_fault v_37)) (C := R_Md) (T := T_Md) (N := 23) hx hb ht i_Md hown hK hP 0 rfl rfl 13 (by decide) (ht _ q_458) (fun _ h9 => h9) rfl d_Md_answer_183 ?_
              refine lv_if_le (tgt := 193) hx hb d_Md_answer_186 (by decide) (fun c_43 => ?_) (fun c_43 => ?_)
              · have he := he.trans (if_pos c_43)
                refine lv_aload_n hx hb d_Md_answer_193 rfl (lv_at hl 2 rfl) ?_
                refine lv_iload_n hx hb d_Md_answer_194 rfl (lv_at hl 4 rfl) ?_
                refine wx_ci (wS := fun v : TMd => w_M ad ca v) (ws2 := fun v : TMd => w_M ad ca v) (va_runV (As := [.int p1]) (rest := []) ⟨hx, hb, hml, hown, ht⟩ (c_Md_number l dC dI ad ca op rf rl k hopm hop H.size v_37 p1 (at_l op k hopm hw_37 (num_l op k hopm hw_35 hpre).1).1 _ rfl) (cwV 1 ht (tb_V q_622 q_624 q_38 q_47 q_625) rfl rfl rfl p_Md_number ⟨show (rf + 6) + 1 ≤ rf + 7 by omega, show 8 + (6 + 11) + (rl + 137) ≤ rl + 162 by omega⟩) (wx_preV (wc := (w_M ad ca v_37)) hN hK hP hD [0, 1, 2, 3, 4, 5, 6, 7, 8, 9, 10, 11] [0, 1, 2, 3, 4, 5, 6, 7, 8, 9, 10] rfl (by decide) rfl (ci := 4) (q0 := 0) rfl rfl) rfl rfl hl.1 rfl (lv_room (Nat.le_of_ble_eq_true rfl)) d_Md_answer_195 ⟨Nat.zero_le _, Nat.zero_le _⟩) hP hD hS hA [0, 1, 2, 3, 4, 5, 6, 7, 8, 9, 10, 11] [] [0, 1, 2, 3, 4, 5, 6, 7, 8, 9, 10, 11] rfl rfl (by decide) (by decide) (by decide) (fun _ => rfl) (fun r_44 v_44 H locs hw_44 hP hD hS => ?_)
                have hP : va_P (dC, dI) vwCl (w_M ad ca v_44) H := hP
                have hD : va_D A (w_M ad ca v_44) := hD
                rw [← hw_44] at he
                try dsimp only at he
                refine lv_istore (lv' := [(5, .int r_44), (4, .int r_37), (3, .int r_35), (0, .ref (ad 16)), (1, .int p0), (2, .int p1)]) hx hb d_Md_answer_198 hl (by decide) rfl (fun ls hl => ?_)
                refine lv_aload_n hx hb d_Md_answer_200 rfl (lv_at hl 3 rfl) ?_
                refine va_get (D := (dC, dI)) (ci := 4) (v := .int (TMd_fault v_44)) (C := R_Md) (T := T_Md) (N := 23) hx hb ht i_Md hown hK hP 0 rfl rfl 13 (by decide) (ht _ q_458) (fun _ h9 => h9) rfl d_Md_answer_201 ?_
                refine lv_if_le (tgt := 211) hx hb d_Md_answer_204 (by decide) (fun c_45 => ?_) (fun c_45 => ?_)
                · have he := he.trans (if_pos c_45)
                  refine lv_iload hx hb d_Md_answer_211 (lv_at hl 1 rfl) ?_
                  refine lv_sipush (v := 3132) hx hb d_Md_answer_213 (by decide) ?_
                  refine lv_icmp_ne (tgt := 233) hx hb d_Md_answer_216 (by decide) (fun c_46 => ?_) (fun c_46 => ?_)
                  · have he := he.trans (if_neg c_46)
                    refine lv_iload hx hb d_Md_answer_233 (lv_at hl 1 rfl) ?_
                    refine lv_sipush (v := 3133) hx hb d_Md_answer_235 (by decide) ?_
                    refine lv_icmp_ne (tgt := 255) hx hb d_Md_answer_238 (by decide) (fun c_47 => ?_) (fun c_47 => ?_)
                    · have he := he.trans (if_neg c_47)
                      refine lv_iload_n hx hb d_Md_answer_255 rfl (lv_at hl 2 rfl) ?_
                      refine lv_iload hx hb d_Md_answer_256 (lv_at hl 0 rfl) ?_
                      refine lv_icmp_le (tgt := 265) hx hb d_Md_answer_258 (by decide) (fun c_48 => ?_) (fun c_48 => ?_)
                      · have he := he.trans (if_pos c_48)
                        refine lv_iconst (v := 0) hx hb d_Md_answer_265 (by decide) ?_
                        refine wx_ci (wS := fun _ : Unit => w_E ad ca) (ws2 := fun _ : Unit => w_M ad ca v_44) (va_runS (As := [.int 0]) (rest := []) ⟨hx, hb, hml, hown, ht⟩ (c_Md_yes l dC dI ad ca H.size 0 _ rfl) (va_cwS 1 ht (tb_S q_619 q_620 q_47 q_621) rfl rfl rfl p_Md_yes.2 ⟨show 0 + 1 ≤ rf + 7 by omega, show 8 + (1 + 11) + 0 ≤ rl + 162 by omega⟩) (wx_preS (wc := (w_E ad ca)) hN hK hP hD [] [] rfl (by decide) rfl) rfl rfl hl.1 rfl (lv_room (Nat.le_of_ble_eq_true rfl)) d_Md_answer_266 ⟨Nat.zero_le _, Nat.zero_le _⟩) hP hD hS hA [] [0, 1, 2, 3, 4, 5, 6, 7, 8, 9, 10, 11] [0, 1, 2, 3, 4, 5, 6, 7, 8, 9, 10, 11] rfl rfl (by decide) (by decide) (by decide) (fun _ => rfl) (fun r_49 _ H locs hw_49 hP hD hS => ?_)
                        subst hw_49
                        have hP : va_P (dC, dI) vwCl (w_M ad ca v_44) H := hP
                        have hD : va_D A (w_M ad ca v_44) := hD
                        exact W.iret hx hb hr (v := (f_Md_yes 0)) (fun t ht hW => ⟨⟨(f_Md_yes 0), v_44, rfl, he.symm, by rw [ht]; exact hP, va_K.moved hW.alike hK, hD⟩, hS.F ht⟩) hS.2.2 d_Md_answer_269
                      · have he := he.trans (if_neg c_48)
                        refine lv_iconst (v := 1) hx hb d_Md_answer_261 (by decide) ?_
                        refine lv_goto (tgt := 266) hx hb d_Md_answer_262 (by decide) ?_
                        refine wx_ci (wS := fun _ : Unit => w_E ad ca) (ws2 := fun _ : Unit => w_M ad ca v_44) (va_runS (As := [.int 1]) (rest := []) ⟨hx, hb, hml, hown, ht⟩ (c_Md_yes l dC dI ad ca H.size 1 _ rfl) (va_cwS 1 ht (tb_S q_619 q_620 q_47 q_621) rfl rfl rfl p_Md_yes.2 ⟨show 0 + 1 ≤ rf + 7 by omega, show 8 + (1 + 11) + 0 ≤ rl + 162 by omega⟩) (wx_preS (wc := (w_E ad ca)) hN hK hP hD [] [] rfl (by decide) rfl) rfl rfl hl.1 rfl (lv_room (Nat.le_of_ble_eq_true rfl)) d_Md_answer_266 ⟨Nat.zero_le _, Nat.zero_le _⟩) hP hD hS hA [] [0, 1, 2, 3, 4, 5, 6, 7, 8, 9, 10, 11] [0, 1, 2, 3, 4, 5, 6, 7, 8, 9, 10, 11] rfl rfl (by decide) (by decide) (by decide) (fun _ => rfl) (fun r_50 _ H locs hw_50 hP hD hS => ?_)
                        subst hw_50
                        have hP : va_P (dC, dI) vwCl (w_M ad ca v_44) H := hP
                        have hD : va_D A (w_M ad ca v_44) := hD
                        exact W.iret hx hb hr (v := (f_Md_yes 1)) (fun t ht hW => ⟨⟨(f_Md_yes 1), v_44, rfl, he.symm, by rw [ht]; exact hP, va_K.moved hW.alike hK, hD⟩, hS.F ht⟩) hS.2.2 d_Md_answer_269
                    · have he := he.trans (if_pos c_47)
                      refine lv_iload_n hx hb d_Md_answer_241 rfl (lv_at hl 2 rfl) ?_
                      refine lv_iload hx hb d_Md_answer_242 (lv_at hl 0 rfl) ?_
                      refine lv_icmp_ne (tgt := 251) hx hb d_Md_answer_244 (by decide) (fun c_51 => ?_) (fun c_51 => ?_)
                      · have he := he.trans (if_neg c_51)
                        refine lv_iconst (v := 0) hx hb d_Md_answer_251 (by decide) ?_
                        refine lv_goto (tgt := 266) hx hb d_Md_answer_252 (by decide) ?_
                        refine wx_ci (wS := fun _ : Unit => w_E ad ca) (ws2 := fun _ : Unit => w_M ad ca v_44) (va_runS (As := [.int 0]) (rest := []) ⟨hx, hb, hml, hown, ht⟩ (c_Md_yes l dC dI ad ca H.size 0 _ rfl) (va_cwS 1 ht (tb_S q_619 q_620 q_47 q_621) rfl rfl rfl p_Md_yes.2 ⟨show 0 + 1 ≤ rf + 7 by omega, show 8 + (1 + 11) + 0 ≤ rl + 162 by omega⟩) (wx_preS (wc := (w_E ad ca)) hN hK hP hD [] [] rfl (by decide) rfl) rfl rfl hl.1 rfl (lv_room (Nat.le_of_ble_eq_true rfl)) d_Md_answer_266 ⟨Nat.zero_le _, Nat.zero_le _⟩) hP hD hS hA [] [0, 1, 2, 3, 4, 5, 6, 7, 8, 9, 10, 11] [0, 1, 2, 3, 4, 5, 6, 7, 8, 9, 10, 11] rfl rfl (by decide) (by decide) (by decide) (fun _ => rfl) (fun r_52 _ H locs hw_52 hP hD hS => ?_)
                        subst hw_52
                        have hP : va_P (dC, dI) vwCl (w_M ad ca v_44) H := hP
                        have hD : va_D A (w_M ad ca v_44) := hD
                        exact W.iret hx hb hr (v := (f_Md_yes 0)) (fun t ht hW => ⟨⟨(f_Md_yes 0), v_44, rfl, he.symm, by rw [ht]; exact hP, va_K.moved hW.alike hK, hD⟩, hS.F ht⟩) hS.2.2 d_Md_answer_269
                      · have he := he.trans (if_pos c_51)
                        refine lv_iconst (v := 1) hx hb d_Md_answer_247 (by decide) ?_
                        refine lv_goto (tgt := 266) hx hb d_Md_answer_248 (by decide) ?_
                        refine wx_ci (wS := fun _ : Unit => w_E ad ca) (ws2 := fun _ : Unit => w_M ad ca v_44) (va_runS (As := [.int 1]) (rest := []) ⟨hx, hb, hml, hown, ht⟩ (c_Md_yes l dC dI ad ca H.size 1 _ rfl) (va_cwS 1 ht (tb_S q_619 q_620 q_47 q_621) rfl rfl rfl p_Md_yes.2 ⟨show 0 + 1 ≤ rf + 7 by omega, show 8 + (1 + 11) + 0 ≤ rl + 162 by omega⟩) (wx_preS (wc := (w_E ad ca)) hN hK hP hD [] [] rfl (by decide) rfl) rfl rfl hl.1 rfl (lv_room (Nat.le_of_ble_eq_true rfl)) d_Md_answer_266 ⟨Nat.zero_le _, Nat.zero_le _⟩) hP hD hS hA [] [0, 1, 2, 3, 4, 5, 6, 7, 8, 9, 10, 11] [0, 1, 2, 3, 4, 5, 6, 7, 8, 9, 10, 11] rfl rfl (by decide) (by decide) (by decide) (fun _ => rfl) (fun r_53 _ H locs hw_53 hP hD hS => ?_)
                        subst hw_53
                        have hP : va_P (dC, dI) vwCl (w_M ad ca v_44) H := hP
                        have hD : va_D A (w_M ad ca v_44) := hD
                        exact W.iret hx hb hr (v := (f_Md_yes 1)) (fun t ht hW => ⟨⟨(f_Md_yes 1), v_44, rfl, he.symm, by rw [ht]; exact hP, va_K.moved hW.alike hK, hD⟩, hS.F ht⟩) hS.2.2 d_Md_answer_269
                  · have he := he.trans (if_pos c_46)
                    refine lv_iload_n hx hb d_Md_answer_219 rfl (lv_at hl 2 rfl) ?_
                    refine lv_iload hx hb d_Md_answer_220 (lv_at hl 0 rfl) ?_
                    refine lv_icmp_ge (tgt := 229) hx hb d_Md_answer_222 (by decide) (fun c_54 => ?_) (fun c_54 => ?_)
                    · have he := he.trans (if_pos c_54)
                      refine lv_iconst (v := 0) hx hb d_Md_answer_229 (by decide) ?_
                      refine lv_goto (tgt := 266) hx hb d_Md_answer_230 (by decide) ?_
                      refine wx_ci (wS := fun _ : Unit => w_E ad ca) (ws2 := fun _ : Unit => w_M ad ca v_44) (va_runS (As := [.int 0]) (rest := []) ⟨hx, hb, hml, hown, ht⟩ (c_Md_yes l dC dI ad ca H.size 0 _ rfl) (va_cwS 1 ht (tb_S q_619 q_620 q_47 q_621) rfl rfl rfl p_Md_yes.2 ⟨show 0 + 1 ≤ rf + 7 by omega, show 8 + (1 + 11) + 0 ≤ rl + 162 by omega⟩) (wx_preS (wc := (w_E ad ca)) hN hK hP hD [] [] rfl (by decide) rfl) rfl rfl hl.1 rfl (lv_room (Nat.le_of_ble_eq_true rfl)) d_Md_answer_266 ⟨Nat.zero_le _, Nat.zero_le _⟩) hP hD hS hA [] [0, 1, 2, 3, 4, 5, 6, 7, 8, 9, 10, 11] [0, 1, 2, 3, 4, 5, 6, 7, 8, 9, 10, 11] rfl rfl (by decide) (by decide) (by decide) (fun _ => rfl) (fun r_55 _ H locs hw_55 hP hD hS => ?_)
                      subst hw_55
                      have hP : va_P (dC, dI) vwCl (w_M ad ca v_44) H := hP
                      have hD : va_D A (w_M ad ca v_44) := hD
                      exact W.iret hx hb hr (v := (f_Md_yes 0)) (fun t ht hW => ⟨⟨(f_Md_yes 0), v_44, rfl, he.symm, by rw [ht]; exact hP, va_K.moved hW.alike hK, hD⟩, hS.F ht⟩) hS.2.2 d_Md_answer_269
                    · have he := he.trans (if_neg c_54)
                      refine lv_iconst (v := 1) hx hb d_Md_answer_225 (by decide) ?_
                      refine lv_goto (tgt := 266) hx hb d_Md_answer_226 (by decide) ?_
                      refine wx_ci (wS := fun _ : Unit => w_E ad ca) (ws2 := fun _ : Unit => w_M ad ca v_44) (va_runS (As := [.int 1]) (rest := []) ⟨hx, hb, hml, hown, ht⟩ (c_Md_yes l dC dI ad ca H.size 1 _ rfl) (va_cwS 1 ht (tb_S q_619 q_620 q_47 q_621) rfl rfl rfl p_Md_yes.2 ⟨show 0 + 1 ≤ rf + 7 by omega, show 8 + (1 + 11) + 0 ≤ rl + 162 by omega⟩) (wx_preS (wc := (w_E ad ca)) hN hK hP hD [] [] rfl (by decide) rfl) rfl rfl hl.1 rfl (lv_room (Nat.le_of_ble_eq_true rfl)) d_Md_answer_266 ⟨Nat.zero_le _, Nat.zero_le _⟩) hP hD hS hA [] [0, 1, 2, 3, 4, 5, 6, 7, 8, 9, 10, 11] [0, 1, 2, 3, 4, 5, 6, 7, 8, 9, 10, 11] rfl rfl (by decide) (by decide) (by decide) (fun _ => rfl) (fun r_56 _ H locs hw_56 hP hD hS => ?_)
                      subst hw_56
                      have hP : va_P (dC, dI) vwCl (w_M ad ca v_44) H := hP
                      have hD : va_D A (w_M ad ca v_44) := hD
                      exact W.iret hx hb hr (v := (f_Md_yes 1)) (fun t ht hW => ⟨⟨(f_Md_yes 1), v_44, rfl, he.symm, by rw [ht]; exact hP, va_K.moved hW.alike hK, hD⟩, hS.F ht⟩) hS.2.2 d_Md_answer_269
                · have he := he.trans (if_neg c_45)
                  refine lv_iconst (v := 0) hx hb d_Md_answer_207 (by decide) ?_
                  refine lv_goto (tgt := 269) hx hb d_Md_answer_208 (by decide) ?_
                  exact W.iret hx hb hr (v := 0) (fun t ht hW => ⟨⟨0, v_44, rfl, he.symm, by rw [ht]; exact hP, va_K.moved hW.alike hK, hD⟩, hS.F ht⟩) hS.2.2 d_Md_answer_269
              · have he := he.trans (if_neg c_43)
                exact False.elim (c_43 (by rw [c_38]; decide))
            · have he := he.trans (if_pos c_42)
              refine lv_aload_n hx hb d_Md_answer_177 rfl (lv_at hl 2 rfl) ?_
              refine lv_iconst (v := 4) hx hb d_Md_answer_178 (by decide) ?_
              refine wx_cv (wS := fun v : TMd => w_M ad ca v) (ws2 := fun v : TMd => w_M ad ca v) (va_runV (As := [.int 4]) (rest := []) ⟨hx, hb, hml, hown, ht⟩ (c_Md_fail l dC dI ad ca H.size v_37 4 _ rfl) (cwV 1 ht (tb_V q_571 q_573 q_26 q_47 q_574) rfl rfl rfl p_Md_fail ⟨show 0 + 1 ≤ rf + 7 by omega, show 8 + (2 + 11) + 0 ≤ rl + 162 by omega⟩) (wx_preV (wc := (w_M ad ca v_37)) hN hK hP hD [0, 1, 2, 3, 4, 5, 6, 7, 8, 9, 10, 11] [0, 1, 2, 3, 4, 5, 6, 7, 8, 9, 10] rfl (by decide) rfl (ci := 4) (q0 := 0) rfl rfl) rfl rfl hl.1 rfl (lv_room (Nat.le_of_ble_eq_true rfl)) d_Md_answer_179 ⟨Nat.zero_le _, Nat.zero_le _⟩) hP hD hS hA [0, 1, 2, 3, 4, 5, 6, 7, 8, 9, 10, 11] [] [0, 1, 2, 3, 4, 5, 6, 7, 8, 9, 10, 11] rfl rfl (by decide) (by decide) (by decide) (fun _ => rfl) (fun v_57 H locs hw_57 hP hD hS => ?_)
              have hP : va_P (dC, dI) vwCl (w_M ad ca v_57) H := hP
              have hD : va_D A (w_M ad ca v_57) := hD
              rw [← hw_57] at he
              try dsimp only at he
              refine lv_aload_n hx hb d_Md_answer_182 rfl (lv_at hl 2 rfl) ?_
              refine va_get (D := (dC, dI)) (ci := 4) (v := .int (TMd_fault v_57)) (C := R_Md) (T := T_Md) (N := 23) hx hb ht i_Md hown hK hP 0 rfl rfl 13 (by decide) (ht _ q_458) (fun _ h9 => h9) rfl d_Md_answer_183 ?_
              refine lv_if_le (tgt := 193) hx hb d_Md_answer_186 (by decide) (fun c_58 => ?_) (fun c_58 => ?_)
              · have he := he.trans (if_pos c_58)
                refine lv_aload_n hx hb d_Md_answer_193 rfl (lv_at hl 2 rfl) ?_
                refine lv_iload_n hx hb d_Md_answer_194 rfl (lv_at hl 4 rfl) ?_
                refine wx_ci (wS := fun v : TMd => w_M ad ca v) (ws2 := fun v : TMd => w_M ad ca v) (va_runV (As := [.int p1]) (rest := []) ⟨hx, hb, hml, hown, ht⟩ (c_Md_number l dC dI ad ca op rf rl k hopm hop H.size v_57 p1 (an_fail hw_57 (by decide) (at_l op k hopm hw_37 (num_l op k hopm hw_35 hpre).1).1) _ rfl) (cwV 1 ht (tb_V q_622 q_624 q_38 q_47 q_625) rfl rfl rfl p_Md_number ⟨show (rf + 6) + 1 ≤ rf + 7 by omega, show 8 + (6 + 11) + (rl + 137) ≤ rl + 162 by omega⟩) (wx_preV (wc := (w_M ad ca v_57)) hN hK hP hD [0, 1, 2, 3, 4, 5, 6, 7, 8, 9, 10, 11] [0, 1, 2, 3, 4, 5, 6, 7, 8, 9, 10] rfl (by decide) rfl (ci := 4) (q0 := 0) rfl rfl) rfl rfl hl.1 rfl (lv_room (Nat.le_of_ble_eq_true rfl)) d_Md_answer_195 ⟨Nat.zero_le _, Nat.zero_le _⟩) hP hD hS hA [0, 1, 2, 3, 4, 5, 6, 7, 8, 9, 10, 11] [] [0, 1, 2, 3, 4, 5, 6, 7, 8, 9, 10, 11] rfl rfl (by decide) (by decide) (by decide) (fun _ => rfl) (fun r_59 v_59 H locs hw_59 hP hD hS => ?_)
                have hP : va_P (dC, dI) vwCl (w_M ad ca v_59) H := hP
                have hD : va_D A (w_M ad ca v_59) := hD
                rw [← hw_59] at he
                try dsimp only at he
                refine lv_istore (lv' := [(5, .int r_59), (4, .int r_37), (3, .int r_35), (0, .ref (ad 16)), (1, .int p0), (2, .int p1)]) hx hb d_Md_answer_198 hl (by decide) rfl (fun ls hl => ?_)
                refine lv_aload_n hx hb d_Md_answer_200 rfl (lv_at hl 3 rfl) ?_
                refine va_get (D := (dC, dI)) (ci := 4) (v := .int (TMd_fault v_59)) (C := R_Md) (T := T_Md) (N := 23) hx hb ht i_Md hown hK hP 0 rfl rfl 13 (by decide) (ht _ q_458) (fun _ h9 => h9) rfl d_Md_answer_201 ?_
                refine lv_if_le (tgt := 211) hx hb d_Md_answer_204 (by decide) (fun c_60 => ?_) (fun c_60 => ?_)
                · have he := he.trans (if_pos c_60)
                  refine lv_iload hx hb d_Md_answer_211 (lv_at hl 1 rfl) ?_
                  refine lv_sipush (v := 3132) hx hb d_Md_answer_213 (by decide) ?_
                  refine lv_icmp_ne (tgt := 233) hx hb d_Md_answer_216 (by decide) (fun c_61 => ?_) (fun c_61 => ?_)
                  · have he := he.trans (if_neg c_61)
                    refine lv_iload hx hb d_Md_answer_233 (lv_at hl 1 rfl) ?_
                    refine lv_sipush (v := 3133) hx hb d_Md_answer_235 (by decide) ?_
                    refine lv_icmp_ne (tgt := 255) hx hb d_Md_answer_238 (by decide) (fun c_62 => ?_) (fun c_62 => ?_)
                    · have he := he.trans (if_neg c_62)
                      refine lv_iload_n hx hb d_Md_answer_255 rfl (lv_at hl 2 rfl) ?_
                      refine lv_iload hx hb d_Md_answer_256 (lv_at hl 0 rfl) ?_
                      refine lv_icmp_le (tgt := 265) hx hb d_Md_answer_258 (by decide) (fun c_63 => ?_) (fun c_63 => ?_)
                      · have he := he.trans (if_pos c_63)
                        refine lv_iconst (v := 0) hx hb d_Md_answer_265 (by decide) ?_
                        refine wx_ci (wS := fun _ : Unit => w_E ad ca) (ws2 := fun _ : Unit => w_M ad ca v_59) (va_runS (As := [.int 0]) (rest := []) ⟨hx, hb, hml, hown, ht⟩ (c_Md_yes l dC dI ad ca H.size 0 _ rfl) (va_cwS 1 ht (tb_S q_619 q_620 q_47 q_621) rfl rfl rfl p_Md_yes.2 ⟨show 0 + 1 ≤ rf + 7 by omega, show 8 + (1 + 11) + 0 ≤ rl + 162 by omega⟩) (wx_preS (wc := (w_E ad ca)) hN hK hP hD [] [] rfl (by decide) rfl) rfl rfl hl.1 rfl (lv_room (Nat.le_of_ble_eq_true rfl)) d_Md_answer_266 ⟨Nat.zero_le _, Nat.zero_le _⟩) hP hD hS hA [] [0, 1, 2, 3, 4, 5, 6, 7, 8, 9, 10, 11] [0, 1, 2, 3, 4, 5, 6, 7, 8, 9, 10, 11] rfl rfl (by decide) (by decide) (by decide) (fun _ => rfl) (fun r_64 _ H locs hw_64 hP hD hS => ?_)
                        subst hw_64
                        have hP : va_P (dC, dI) vwCl (w_M ad ca v_59) H := hP
                        have hD : va_D A (w_M ad ca v_59) := hD
                        exact W.iret hx hb hr (v := (f_Md_yes 0)) (fun t ht hW => ⟨⟨(f_Md_yes 0), v_59, rfl, he.symm, by rw [ht]; exact hP, va_K.moved hW.alike hK, hD⟩, hS.F ht⟩) hS.2.2 d_Md_answer_269
                      · have he := he.trans (if_neg c_63)
                        refine lv_iconst (v := 1) hx hb d_Md_answer_261 (by decide) ?_
                        refine lv_goto (tgt := 266) hx hb d_Md_answer_262 (by decide) ?_
                        refine wx_ci (wS := fun _ : Unit => w_E ad ca) (ws2 := fun _ : Unit => w_M ad ca v_59) (va_runS (As := [.int 1]) (rest := []) ⟨hx, hb, hml, hown, ht⟩ (c_Md_yes l dC dI ad ca H.size 1 _ rfl) (va_cwS 1 ht (tb_S q_619 q_620 q_47 q_621) rfl rfl rfl p_Md_yes.2 ⟨show 0 + 1 ≤ rf + 7 by omega, show 8 + (1 + 11) + 0 ≤ rl + 162 by omega⟩) (wx_preS (wc := (w_E ad ca)) hN hK hP hD [] [] rfl (by decide) rfl) rfl rfl hl.1 rfl (lv_room (Nat.le_of_ble_eq_true rfl)) d_Md_answer_266 ⟨Nat.zero_le _, Nat.zero_le _⟩) hP hD hS hA [] [0, 1, 2, 3, 4, 5, 6, 7, 8, 9, 10, 11] [0, 1, 2, 3, 4, 5, 6, 7, 8, 9, 10, 11] rfl rfl (by decide) (by decide) (by decide) (fun _ => rfl) (fun r_65 _ H locs hw_65 hP hD hS => ?_)
                        subst hw_65
                        have hP : va_P (dC, dI) vwCl (w_M ad ca v_59) H := hP
                        have hD : va_D A (w_M ad ca v_59) := hD
                        exact W.iret hx hb hr (v := (f_Md_yes 1)) (fun t ht hW => ⟨⟨(f_Md_yes 1), v_59, rfl, he.symm, by rw [ht]; exact hP, va_K.moved hW.alike hK, hD⟩, hS.F ht⟩) hS.2.2 d_Md_answer_269
                    · have he := he.trans (if_pos c_62)
                      refine lv_iload_n hx hb d_Md_answer_241 rfl (lv_at hl 2 rfl) ?_
                      refine lv_iload hx hb d_Md_answer_242 (lv_at hl 0 rfl) ?_
                      refine lv_icmp_ne (tgt := 251) hx hb d_Md_answer_244 (by decide) (fun c_66 => ?_) (fun c_66 => ?_)
                      · have he := he.trans (if_neg c_66)
                        refine lv_iconst (v := 0) hx hb d_Md_answer_251 (by decide) ?_
                        refine lv_goto (tgt := 266) hx hb d_Md_answer_252 (by decide) ?_
                        refine wx_ci (wS := fun _ : Unit => w_E ad ca) (ws2 := fun _ : Unit => w_M ad ca v_59) (va_runS (As := [.int 0]) (rest := []) ⟨hx, hb, hml, hown, ht⟩ (c_Md_yes l dC dI ad ca H.size 0 _ rfl) (va_cwS 1 ht (tb_S q_619 q_620 q_47 q_621) rfl rfl rfl p_Md_yes.2 ⟨show 0 + 1 ≤ rf + 7 by omega, show 8 + (1 + 11) + 0 ≤ rl + 162 by omega⟩) (wx_preS (wc := (w_E ad ca)) hN hK hP hD [] [] rfl (by decide) rfl) rfl rfl hl.1 rfl (lv_room (Nat.le_of_ble_eq_true rfl)) d_Md_answer_266 ⟨Nat.zero_le _, Nat.zero_le _⟩) hP hD hS hA [] [0, 1, 2, 3, 4, 5, 6, 7, 8, 9, 10, 11] [0, 1, 2, 3, 4, 5, 6, 7, 8, 9, 10, 11] rfl rfl (by decide) (by decide) (by decide) (fun _ => rfl) (fun r_67 _ H locs hw_67 hP hD hS => ?_)
                        subst hw_67
                        have hP : va_P (dC, dI) vwCl (w_M ad ca v_59) H := hP
                        have hD : va_D A (w_M ad ca v_59) := hD
                        exact W.iret hx hb hr (v := (f_Md_yes 0)) (fun t ht hW => ⟨⟨(f_Md_yes 0), v_59, rfl, he.symm, by rw [ht]; exact hP, va_K.moved hW.alike hK, hD⟩, hS.F ht⟩) hS.2.2 d_Md_answer_269
                      · have he := he.trans (if_pos c_66)
                        refine lv_iconst (v := 1) hx hb d_Md_answer_247 (by decide) ?_
                        refine lv_goto (tgt := 266) hx hb d_Md_answer_248 (by decide) ?_
                        refine wx_ci (wS := fun _ : Unit => w_E ad ca) (ws2 := fun _ : Unit => w_M ad ca v_59) (va_runS (As := [.int 1]) (rest := []) ⟨hx, hb, hml, hown, ht⟩ (c_Md_yes l dC dI ad ca H.size 1 _ rfl) (va_cwS 1 ht (tb_S q_619 q_620 q_47 q_621) rfl rfl rfl p_Md_yes.2 ⟨show 0 + 1 ≤ rf + 7 by omega, show 8 + (1 + 11) + 0 ≤ rl + 162 by omega⟩) (wx_preS (wc := (w_E ad ca)) hN hK hP hD [] [] rfl (by decide) rfl) rfl rfl hl.1 rfl (lv_room (Nat.le_of_ble_eq_true rfl)) d_Md_answer_266 ⟨Nat.zero_le _, Nat.zero_le _⟩) hP hD hS hA [] [0, 1, 2, 3, 4, 5, 6, 7, 8, 9, 10, 11] [0, 1, 2, 3, 4, 5, 6, 7, 8, 9, 10, 11] rfl rfl (by decide) (by decide) (by decide) (fun _ => rfl) (fun r_68 _ H locs hw_68 hP hD hS => ?_)
                        subst hw_68
                        have hP : va_P (dC, dI) vwCl (w_M ad ca v_59) H := hP
                        have hD : va_D A (w_M ad ca v_59) := hD
                        exact W.iret hx hb hr (v := (f_Md_yes 1)) (fun t ht hW => ⟨⟨(f_Md_yes 1), v_59, rfl, he.symm, by rw [ht]; exact hP, va_K.moved hW.alike hK, hD⟩, hS.F ht⟩) hS.2.2 d_Md_answer_269
                  · have he := he.trans (if_pos c_61)
                    refine lv_iload_n hx hb d_Md_answer_219 rfl (lv_at hl 2 rfl) ?_
                    refine lv_iload hx hb d_Md_answer_220 (lv_at hl 0 rfl) ?_
                    refine lv_icmp_ge (tgt := 229) hx hb d_Md_answer_222 (by decide) (fun c_69 => ?_) (fun c_69 => ?_)
                    · have he := he.trans (if_pos c_69)
                      refine lv_iconst (v := 0) hx hb d_Md_answer_229 (by decide) ?_
                      refine lv_goto (tgt := 266) hx hb d_Md_answer_230 (by decide) ?_
                      refine wx_ci (wS := fun _ : Unit => w_E ad ca) (ws2 := fun _ : Unit => w_M ad ca v_59) (va_runS (As := [.int 0]) (rest := []) ⟨hx, hb, hml, hown, ht⟩ (c_Md_yes l dC dI ad ca H.size 0 _ rfl) (va_cwS 1 ht (tb_S q_619 q_620 q_47 q_621) rfl rfl rfl p_Md_yes.2 ⟨show 0 + 1 ≤ rf + 7 by omega, show 8 + (1 + 11) + 0 ≤ rl + 162 by omega⟩) (wx_preS (wc := (w_E ad ca)) hN hK hP hD [] [] rfl (by decide) rfl) rfl rfl hl.1 rfl (lv_room (Nat.le_of_ble_eq_true rfl)) d_Md_answer_266 ⟨Nat.zero_le _, Nat.zero_le _⟩) hP hD hS hA [] [0, 1, 2, 3, 4, 5, 6, 7, 8, 9, 10, 11] [0, 1, 2, 3, 4, 5, 6, 7, 8, 9, 10, 11] rfl rfl (by decide) (by decide) (by decide) (fun _ => rfl) (fun r_70 _ H locs hw_70 hP hD hS => ?_)
                      subst hw_70
                      have hP : va_P (dC, dI) vwCl (w_M ad ca v_59) H := hP
                      have hD : va_D A (w_M ad ca v_59) := hD
                      exact W.iret hx hb hr (v := (f_Md_yes 0)) (fun t ht hW => ⟨⟨(f_Md_yes 0), v_59, rfl, he.symm, by rw [ht]; exact hP, va_K.moved hW.alike hK, hD⟩, hS.F ht⟩) hS.2.2 d_Md_answer_269
                    · have he := he.trans (if_neg c_69)
                      refine lv_iconst (v := 1) hx hb d_Md_answer_225 (by decide) ?_
                      refine lv_goto (tgt := 266) hx hb d_Md_answer_226 (by decide) ?_
                      refine wx_ci (wS := fun _ : Unit => w_E ad ca) (ws2 := fun _ : Unit => w_M ad ca v_59) (va_runS (As := [.int 1]) (rest := []) ⟨hx, hb, hml, hown, ht⟩ (c_Md_yes l dC dI ad ca H.size 1 _ rfl) (va_cwS 1 ht (tb_S q_619 q_620 q_47 q_621) rfl rfl rfl p_Md_yes.2 ⟨show 0 + 1 ≤ rf + 7 by omega, show 8 + (1 + 11) + 0 ≤ rl + 162 by omega⟩) (wx_preS (wc := (w_E ad ca)) hN hK hP hD [] [] rfl (by decide) rfl) rfl rfl hl.1 rfl (lv_room (Nat.le_of_ble_eq_true rfl)) d_Md_answer_266 ⟨Nat.zero_le _, Nat.zero_le _⟩) hP hD hS hA [] [0, 1, 2, 3, 4, 5, 6, 7, 8, 9, 10, 11] [0, 1, 2, 3, 4, 5, 6, 7, 8, 9, 10, 11] rfl rfl (by decide) (by decide) (by decide) (fun _ => rfl) (fun r_71 _ H locs hw_71 hP hD hS => ?_)
                      subst hw_71
                      have hP : va_P (dC, dI) vwCl (w_M ad ca v_59) H := hP
                      have hD : va_D A (w_M ad ca v_59) := hD
                      exact W.iret hx hb hr (v := (f_Md_yes 1)) (fun t ht hW => ⟨⟨(f_Md_yes 1), v_59, rfl, he.symm, by rw [ht]; exact hP, va_K.moved hW.alike hK, hD⟩, hS.F ht⟩) hS.2.2 d_Md_answer_269
                · have he := he.trans (if_neg c_60)
                  refine lv_iconst (v := 0) hx hb d_Md_answer_207 (by decide) ?_
                  refine lv_goto (tgt := 269) hx hb d_Md_answer_208 (by decide) ?_
                  exact W.iret hx hb hr (v := 0) (fun t ht hW => ⟨⟨0, v_59, rfl, he.symm, by rw [ht]; exact hP, va_K.moved hW.alike hK, hD⟩, hS.F ht⟩) hS.2.2 d_Md_answer_269
              · have he := he.trans (if_neg c_58)
                refine lv_iconst (v := 0) hx hb d_Md_answer_189 (by decide) ?_
                refine lv_goto (tgt := 198) hx hb d_Md_answer_190 (by decide) ?_
                refine lv_istore (lv' := [(5, .int 0), (4, .int r_37), (3, .int r_35), (0, .ref (ad 16)), (1, .int p0), (2, .int p1)]) hx hb d_Md_answer_198 hl (by decide) rfl (fun ls hl => ?_)
                refine lv_aload_n hx hb d_Md_answer_200 rfl (lv_at hl 3 rfl) ?_
                refine va_get (D := (dC, dI)) (ci := 4) (v := .int (TMd_fault v_57)) (C := R_Md) (T := T_Md) (N := 23) hx hb ht i_Md hown hK hP 0 rfl rfl 13 (by decide) (ht _ q_458) (fun _ h9 => h9) rfl d_Md_answer_201 ?_
                refine lv_if_le (tgt := 211) hx hb d_Md_answer_204 (by decide) (fun c_72 => ?_) (fun c_72 => ?_)
                · exact absurd c_72 c_58
                · refine lv_iconst (v := 0) hx hb d_Md_answer_207 (by decide) ?_
                  refine lv_goto (tgt := 269) hx hb d_Md_answer_208 (by decide) ?_
                  exact W.iret hx hb hr (v := 0) (fun t ht hW => ⟨⟨0, v_57, rfl, he.symm, by rw [ht]; exact hP, va_K.moved hW.alike hK, hD⟩, hS.F ht⟩) hS.2.2 d_Md_answer_269
        · have he := he.trans (if_neg c_36)
          refine lv_iconst (v := (-1)) hx hb d_Md_answer_145 (by decide) ?_
          refine lv_goto (tgt := 154) hx hb d_Md_answer_146 (by decide) ?_
          refine lv_istore (lv' := [(4, .int (-1)), (3, .int r_35), (0, .ref (ad 16)), (1, .int p0), (2, .int p1)]) hx hb d_Md_answer_154 hl (by decide) rfl (fun ls hl => ?_)
          refine lv_aload_n hx hb d_Md_answer_156 rfl (lv_at hl 2 rfl) ?_
          refine va_get (D := (dC, dI)) (ci := 4) (v := .int (TMd_fault v_35)) (C := R_Md) (T := T_Md) (N := 23) hx hb ht i_Md hown hK hP 0 rfl rfl 13 (by decide) (ht _ q_458) (fun _ h9 => h9) rfl d_Md_answer_157 ?_
          refine lv_if_ne (tgt := 182) hx hb d_Md_answer_160 (by decide) (fun c_73 => ?_) (fun c_73 => ?_)
          · have he := he.trans (if_neg c_73)
            refine lv_aload_n hx hb d_Md_answer_182 rfl (lv_at hl 2 rfl) ?_
            refine va_get (D := (dC, dI)) (ci := 4) (v := .int (TMd_fault v_35)) (C := R_Md) (T := T_Md) (N := 23) hx hb ht i_Md hown hK hP 0 rfl rfl 13 (by decide) (ht _ q_458) (fun _ h9 => h9) rfl d_Md_answer_183 ?_
            refine lv_if_le (tgt := 193) hx hb d_Md_answer_186 (by decide) (fun c_74 => ?_) (fun c_74 => ?_)
            · exact absurd c_74 c_36
            · refine lv_iconst (v := 0) hx hb d_Md_answer_189 (by decide) ?_
              refine lv_goto (tgt := 198) hx hb d_Md_answer_190 (by decide) ?_
              refine lv_istore (lv' := [(5, .int 0), (4, .int (-1)), (3, .int r_35), (0, .ref (ad 16)), (1, .int p0), (2, .int p1)]) hx hb d_Md_answer_198 hl (by decide) rfl (fun ls hl => ?_)
              refine lv_aload_n hx hb d_Md_answer_200 rfl (lv_at hl 3 rfl) ?_
              refine va_get (D := (dC, dI)) (ci := 4) (v := .int (TMd_fault v_35)) (C := R_Md) (T := T_Md) (N := 23) hx hb ht i_Md hown hK hP 0 rfl rfl 13 (by decide) (ht _ q_458) (fun _ h9 => h9) rfl d_Md_answer_201 ?_
              refine lv_if_le (tgt := 211) hx hb d_Md_answer_204 (by decide) (fun c_75 => ?_) (fun c_75 => ?_)
              · exact absurd c_75 c_36
              · refine lv_iconst (v := 0) hx hb d_Md_answer_207 (by decide) ?_
                refine lv_goto (tgt := 269) hx hb d_Md_answer_208 (by decide) ?_
                exact W.iret hx hb hr (v := 0) (fun t ht hW => ⟨⟨0, v_35, rfl, he.symm, by rw [ht]; exact hP, va_K.moved hW.alike hK, hD⟩, hS.F ht⟩) hS.2.2 d_Md_answer_269
          · have he := he.trans (if_pos c_73)
            exact False.elim (c_36 (by rw [c_73]; decide))
    · have he := he.trans (if_pos c_2)
      refine lv_aload_n hx hb d_Md_answer_94 rfl (lv_at hl 0 rfl) ?_
      refine wx_ci (wS := fun v : TMd => w_M ad ca v) (ws2 := fun v : TMd => w_M ad ca v) (va_runV (As := []) (rest := []) ⟨hx, hb, hml, hown, ht⟩ (c_Md_need l dC dI ad ca s.heap.size d ⟨hpre.1, hpre.2.1⟩ _ rfl) (cwV 0 ht (tb_V q_599 q_601 q_33 q_47 q_602) rfl rfl rfl p_Md_need ⟨show 2 + 1 ≤ rf + 7 by omega, show 8 + (2 + 11) + 42 ≤ rl + 162 by omega⟩) (wx_preV (wc := (w_M ad ca d)) hN hK hP hD [0, 1, 2, 3, 4, 5, 6, 7, 8, 9, 10, 11] [0, 1, 2, 3, 4, 5, 6, 7, 8, 9, 10] rfl (by decide) rfl (ci := 4) (q0 := 0) rfl rfl) rfl rfl hl.1 rfl (lv_room (Nat.le_of_ble_eq_true rfl)) d_Md_answer_95 ⟨Nat.zero_le _, Nat.zero_le _⟩) hP hD hS hA [0, 1, 2, 3, 4, 5, 6, 7, 8, 9, 10, 11] [] [0, 1, 2, 3, 4, 5, 6, 7, 8, 9, 10, 11] rfl rfl (by decide) (by decide) (by decide) (fun _ => rfl) (fun r_76 v_76 H locs hw_76 hP hD hS => ?_)
      have hP : va_P (dC, dI) vwCl (w_M ad ca v_76) H := hP
      have hD : va_D A (w_M ad ca v_76) := hD
      rw [← hw_76] at he
      try dsimp only at he
      refine lv_istore_n (lv' := [(3, .int r_76), (0, .ref (ad 16)), (1, .int p0), (2, .int p1)]) hx hb d_Md_answer_98 rfl hl (by decide) rfl (fun ls hl => ?_)
      refine lv_aload_n hx hb d_Md_answer_99 rfl (lv_at hl 1 rfl) ?_
      refine wx_ci (wS := fun v : TMd => w_M ad ca v) (ws2 := fun v : TMd => w_M ad ca v) (va_runV (As := []) (rest := []) ⟨hx, hb, hml, hown, ht⟩ (c_Md_need l dC dI ad ca H.size v_76 ⟨(an_ned hw_76 hpre).1, (an_ned hw_76 hpre).2.1⟩ _ rfl) (cwV 0 ht (tb_V q_599 q_601 q_33 q_47 q_602) rfl rfl rfl p_Md_need ⟨show 2 + 1 ≤ rf + 7 by omega, show 8 + (2 + 11) + 42 ≤ rl + 162 by omega⟩) (wx_preV (wc := (w_M ad ca v_76)) hN hK hP hD [0, 1, 2, 3, 4, 5, 6, 7, 8, 9, 10, 11] [0, 1, 2, 3, 4, 5, 6, 7, 8, 9, 10] rfl (by decide) rfl (ci := 4) (q0 := 0) rfl rfl) rfl rfl hl.1 rfl (lv_room (Nat.le_of_ble_eq_true rfl)) d_Md_answer_100 ⟨Nat.zero_le _, Nat.zero_le _⟩) hP hD hS hA [0, 1, 2, 3, 4, 5, 6, 7, 8, 9, 10, 11] [] [0, 1, 2, 3, 4, 5, 6, 7, 8, 9, 10, 11] rfl rfl (by decide) (by decide) (by decide) (fun _ => rfl) (fun r_77 v_77 H locs hw_77 hP hD hS => ?_)
      have hP : va_P (dC, dI) vwCl (w_M ad ca v_77) H := hP
      have hD : va_D A (w_M ad ca v_77) := hD
      rw [← hw_77] at he
      try dsimp only at he
      refine lv_istore (lv' := [(4, .int r_77), (3, .int r_76), (0, .ref (ad 16)), (1, .int p0), (2, .int p1)]) hx hb d_Md_answer_103 hl (by decide) rfl (fun ls hl => ?_)
      refine lv_aload_n hx hb d_Md_answer_105 rfl (lv_at hl 2 rfl) ?_
      refine va_get (D := (dC, dI)) (ci := 4) (v := .int (TMd_fault v_77)) (C := R_Md) (T := T_Md) (N := 23) hx hb ht i_Md hown hK hP 0 rfl rfl 13 (by decide) (ht _ q_458) (fun _ h9 => h9) rfl d_Md_answer_106 ?_
      refine lv_if_le (tgt := 116) hx hb d_Md_answer_109 (by decide) (fun c_78 => ?_) (fun c_78 => ?_)
      · have he := he.trans (if_pos c_78)
        refine lv_aload_n hx hb d_Md_answer_116 rfl (lv_at hl 2 rfl) ?_
        refine lv_iload_n hx hb d_Md_answer_117 rfl (lv_at hl 1 rfl) ?_
        refine lv_iload hx hb d_Md_answer_118 (lv_at hl 0 rfl) ?_
        refine wx_ci (wS := fun _ : Unit => w_M ad ca v_77) (ws2 := fun _ : Unit => w_M ad ca v_77) (va_runV (As := [.int r_76, .int r_77]) (rest := []) ⟨hx, hb, hml, hown, ht⟩ (c_Md_areSame l dC dI ad ca H.size v_77 r_76 r_77 ⟨nd_hi hw_76 hpre.1 hpre.2.1, nd_hi hw_77 (an_ned hw_76 hpre).1 (an_ned hw_76 hpre).2.1, (an_ned hw_77 (an_ned hw_76 hpre)).1⟩ _ rfl) (cwV 2 ht (tb_V q_551 q_553 q_22 q_47 q_554) rfl rfl rfl p_Md_areSame ⟨show 1 + 1 ≤ rf + 7 by omega, show 8 + (8 + 11) + 21 ≤ rl + 162 by omega⟩) (wx_preV (wc := (w_M ad ca v_77)) hN hK hP hD [0, 1, 2, 3, 4, 5, 6, 7, 8, 9, 10, 11] [0, 1, 2, 3, 4, 5, 6, 7, 8, 9, 10] rfl (by decide) rfl (ci := 4) (q0 := 0) rfl rfl) rfl rfl hl.1 rfl (lv_room (Nat.le_of_ble_eq_true rfl)) d_Md_answer_120 ⟨Nat.zero_le _, Nat.zero_le _⟩) hP hD hS hA [0, 1, 2, 3, 4, 5, 6, 7, 8, 9, 10, 11] [] [0, 1, 2, 3, 4, 5, 6, 7, 8, 9, 10, 11] rfl rfl (by decide) (by decide) (by decide) (fun _ => rfl) (fun r_79 _ H locs hw_79 hP hD hS => ?_)
        subst hw_79
        have hP : va_P (dC, dI) vwCl (w_M ad ca v_77) H := hP
        have hD : va_D A (w_M ad ca v_77) := hD
        refine wx_ci (wS := fun _ : Unit => w_E ad ca) (ws2 := fun _ : Unit => w_M ad ca v_77) (va_runS (As := [.int (f_Md_areSame v_77 r_76 r_77)]) (rest := []) ⟨hx, hb, hml, hown, ht⟩ (c_Md_yes l dC dI ad ca H.size (f_Md_areSame v_77 r_76 r_77) _ rfl) (va_cwS 1 ht (tb_S q_619 q_620 q_47 q_621) rfl rfl rfl p_Md_yes.2 ⟨show 0 + 1 ≤ rf + 7 by omega, show 8 + (1 + 11) + 0 ≤ rl + 162 by omega⟩) (wx_preS (wc := (w_E ad ca)) hN hK hP hD [] [] rfl (by decide) rfl) rfl rfl hl.1 rfl (lv_room (Nat.le_of_ble_eq_true rfl)) d_Md_answer_123 ⟨Nat.zero_le _, Nat.zero_le _⟩) hP hD hS hA [] [0, 1, 2, 3, 4, 5, 6, 7, 8, 9, 10, 11] [0, 1, 2, 3, 4, 5, 6, 7, 8, 9, 10, 11] rfl rfl (by decide) (by decide) (by decide) (fun _ => rfl) (fun r_80 _ H locs hw_80 hP hD hS => ?_)
        subst hw_80
        have hP : va_P (dC, dI) vwCl (w_M ad ca v_77) H := hP
        have hD : va_D A (w_M ad ca v_77) := hD
        exact W.iret hx hb hr (v := (f_Md_yes (f_Md_areSame v_77 r_76 r_77))) (fun t ht hW => ⟨⟨(f_Md_yes (f_Md_areSame v_77 r_76 r_77)), v_77, rfl, he.symm, by rw [ht]; exact hP, va_K.moved hW.alike hK, hD⟩, hS.F ht⟩) hS.2.2 d_Md_answer_126
      · have he := he.trans (if_neg c_78)
        refine lv_iconst (v := 0) hx hb d_Md_answer_112 (by decide) ?_
        refine lv_goto (tgt := 126) hx hb d_Md_answer_113 (by decide) ?_
        exact W.iret hx hb hr (v := 0) (fun t ht hW => ⟨⟨0, v_77, rfl, he.symm, by rw [ht]; exact hP, va_K.moved hW.alike hK, hD⟩, hS.F ht⟩) hS.2.2 d_Md_answer_126
  · have he := he.trans (if_neg c_1)
    refine lv_aload_n hx hb d_Md_answer_5 rfl (lv_at hl 0 rfl) ?_
    refine lv_iload_n hx hb d_Md_answer_6 rfl (lv_at hl 2 rfl) ?_
    refine wx_ci (wS := fun v : TMd => w_M ad ca v) (ws2 := fun v : TMd => w_M ad ca v) (va_runV (As := [.int p1]) (rest := []) ⟨hx, hb, hml, hown, ht⟩ (c_Md_askedToken l dC dI ad ca op rf rl k hopm hop s.heap.size d p1 hpre _ rfl) (cwV 1 ht (tb_V q_591 q_593 q_31 q_47 q_594) rfl rfl rfl p_Md_askedToken ⟨show (rf + 6) + 1 ≤ rf + 7 by omega, show 8 + (3 + 11) + (rl + 137) ≤ rl + 162 by omega⟩) (wx_preV (wc := (w_M ad ca d)) hN hK hP hD [0, 1, 2, 3, 4, 5, 6, 7, 8, 9, 10, 11] [0, 1, 2, 3, 4, 5, 6, 7, 8, 9, 10] rfl (by decide) rfl (ci := 4) (q0 := 0) rfl rfl) rfl rfl hl.1 rfl (lv_room (Nat.le_of_ble_eq_true rfl)) d_Md_answer_7 ⟨Nat.zero_le _, Nat.zero_le _⟩) hP hD hS hA [0, 1, 2, 3, 4, 5, 6, 7, 8, 9, 10, 11] [] [0, 1, 2, 3, 4, 5, 6, 7, 8, 9, 10, 11] rfl rfl (by decide) (by decide) (by decide) (fun _ => rfl) (fun r_81 v_81 H locs hw_81 hP hD hS => ?_)
    have hP : va_P (dC, dI) vwCl (w_M ad ca v_81) H := hP
    have hD : va_D A (w_M ad ca v_81) := hD
    rw [← hw_81] at he
    try dsimp only at he
    refine lv_istore_n (lv' := [(3, .int r_81), (0, .ref (ad 16)), (1, .int p0), (2, .int p1)]) hx hb d_Md_answer_10 rfl hl (by decide) rfl (fun ls hl => ?_)
    refine lv_aload_n hx hb d_Md_answer_11 rfl (lv_at hl 1 rfl) ?_
    refine va_get (D := (dC, dI)) (ci := 4) (v := .int (TMd_fault v_81)) (C := R_Md) (T := T_Md) (N := 23) hx hb ht i_Md hown hK hP 0 rfl rfl 13 (by decide) (ht _ q_458) (fun _ h9 => h9) rfl d_Md_answer_12 ?_
    refine lv_if_le (tgt := 22) hx hb d_Md_answer_15 (by decide) (fun c_82 => ?_) (fun c_82 => ?_)
    · have he := he.trans (if_pos c_82)
      refine lv_aload_n hx hb d_Md_answer_22 rfl (lv_at hl 1 rfl) ?_
      refine lv_iload_n hx hb d_Md_answer_23 rfl (lv_at hl 3 rfl) ?_
      refine wx_ci (wS := fun v : TMd => w_M ad ca v) (ws2 := fun v : TMd => w_M ad ca v) (va_runV (As := [.int p1]) (rest := []) ⟨hx, hb, hml, hown, ht⟩ (c_Md_askedToken l dC dI ad ca op rf rl k hopm hop H.size v_81 p1 (at_l op k hopm hw_81 hpre).1 _ rfl) (cwV 1 ht (tb_V q_591 q_593 q_31 q_47 q_594) rfl rfl rfl p_Md_askedToken ⟨show (rf + 6) + 1 ≤ rf + 7 by omega, show 8 + (3 + 11) + (rl + 137) ≤ rl + 162 by omega⟩) (wx_preV (wc := (w_M ad ca v_81)) hN hK hP hD [0, 1, 2, 3, 4, 5, 6, 7, 8, 9, 10, 11] [0, 1, 2, 3, 4, 5, 6, 7, 8, 9, 10] rfl (by decide) rfl (ci := 4) (q0 := 0) rfl rfl) rfl rfl hl.1 rfl (lv_room (Nat.le_of_ble_eq_true rfl)) d_Md_answer_24 ⟨Nat.zero_le _, Nat.zero_le _⟩) hP hD hS hA [0, 1, 2, 3, 4, 5, 6, 7, 8, 9, 10, 11] [] [0, 1, 2, 3, 4, 5, 6, 7, 8, 9, 10, 11] rfl rfl (by decide) (by decide) (by decide) (fun _ => rfl) (fun r_83 v_83 H locs hw_83 hP hD hS => ?_)
      have hP : va_P (dC, dI) vwCl (w_M ad ca v_83) H := hP
      have hD : va_D A (w_M ad ca v_83) := hD
      rw [← hw_83] at he
      try dsimp only at he
      refine lv_istore (lv' := [(4, .int r_83), (3, .int r_81), (0, .ref (ad 16)), (1, .int p0), (2, .int p1)]) hx hb d_Md_answer_27 hl (by decide) rfl (fun ls hl => ?_)
      refine lv_aload_n hx hb d_Md_answer_29 rfl (lv_at hl 2 rfl) ?_
      refine va_get (D := (dC, dI)) (ci := 4) (v := .int (TMd_fault v_83)) (C := R_Md) (T := T_Md) (N := 23) hx hb ht i_Md hown hK hP 0 rfl rfl 13 (by decide) (ht _ q_458) (fun _ h9 => h9) rfl d_Md_answer_30 ?_
      refine lv_if_le (tgt := 40) hx hb d_Md_answer_33 (by decide) (fun c_84 => ?_) (fun c_84 => ?_)
      · have he := he.trans (if_pos c_84)
        refine lv_iload_n hx hb d_Md_answer_40 rfl (lv_at hl 3 rfl) ?_
        refine lv_if_ne (tgt := 66) hx hb d_Md_answer_41 (by decide) (fun c_85 => ?_) (fun c_85 => ?_)
        · have he := he.trans (if_neg c_85)
          refine lv_aload_n hx hb d_Md_answer_66 rfl (lv_at hl 2 rfl) ?_
          refine lv_iload_n hx hb d_Md_answer_67 rfl (lv_at hl 1 rfl) ?_
          refine wx_ci (wS := fun _ : Unit => w_M ad ca v_83) (ws2 := fun _ : Unit => w_M ad ca v_83) (va_runV (As := [.int r_81]) (rest := []) ⟨hx, hb, hml, hown, ht⟩ (c_Md_category l dC dI ad ca H.size v_83 r_81 (an_tok (at_l op k hopm hw_81 hpre) c_82) _ rfl) (cwV 1 ht (tb_V q_615 q_617 q_37 q_47 q_618) rfl rfl rfl p_Md_category ⟨show 1 + 1 ≤ rf + 7 by omega, show 8 + (2 + 11) + 21 ≤ rl + 162 by omega⟩) (wx_preV (wc := (w_M ad ca v_83)) hN hK hP hD [0, 1, 2, 3, 4, 5, 6, 7, 8, 9, 10, 11] [0, 1, 2, 3, 4, 5, 6, 7, 8, 9, 10] rfl (by decide) rfl (ci := 4) (q0 := 0) rfl rfl) rfl rfl hl.1 rfl (lv_room (Nat.le_of_ble_eq_true rfl)) d_Md_answer_68 ⟨Nat.zero_le _, Nat.zero_le _⟩) hP hD hS hA [0, 1, 2, 3, 4, 5, 6, 7, 8, 9, 10, 11] [] [0, 1, 2, 3, 4, 5, 6, 7, 8, 9, 10, 11] rfl rfl (by decide) (by decide) (by decide) (fun _ => rfl) (fun r_86 _ H locs hw_86 hP hD hS => ?_)
          subst hw_86
          have hP : va_P (dC, dI) vwCl (w_M ad ca v_83) H := hP
          have hD : va_D A (w_M ad ca v_83) := hD
          refine lv_aload_n hx hb d_Md_answer_71 rfl (lv_at hl 2 rfl) ?_
          refine lv_iload hx hb d_Md_answer_72 (lv_at hl 0 rfl) ?_
          refine wx_ci (wS := fun _ : Unit => w_M ad ca v_83) (ws2 := fun _ : Unit => w_M ad ca v_83) (va_runV (As := [.int r_83]) (rest := [.int (f_Md_category v_83 r_81)]) ⟨hx, hb, hml, hown, ht⟩ (c_Md_category l dC dI ad ca H.size v_83 r_83 (an_tok (at_l op k hopm hw_83 (at_l op k hopm hw_81 hpre).1) c_84) _ rfl) (cwV 1 ht (tb_V q_615 q_617 q_37 q_47 q_618) rfl rfl rfl p_Md_category ⟨show 1 + 1 ≤ rf + 7 by omega, show 8 + (2 + 11) + 21 ≤ rl + 162 by omega⟩) (wx_preV (wc := (w_M ad ca v_83)) hN hK hP hD [0, 1, 2, 3, 4, 5, 6, 7, 8, 9, 10, 11] [0, 1, 2, 3, 4, 5, 6, 7, 8, 9, 10] rfl (by decide) rfl (ci := 4) (q0 := 0) rfl rfl) rfl rfl hl.1 rfl (lv_room (Nat.le_of_ble_eq_true rfl)) d_Md_answer_74 ⟨Nat.zero_le _, Nat.zero_le _⟩) hP hD hS hA [0, 1, 2, 3, 4, 5, 6, 7, 8, 9, 10, 11] [] [0, 1, 2, 3, 4, 5, 6, 7, 8, 9, 10, 11] rfl rfl (by decide) (by decide) (by decide) (fun _ => rfl) (fun r_87 _ H locs hw_87 hP hD hS => ?_)
          subst hw_87
          have hP : va_P (dC, dI) vwCl (w_M ad ca v_83) H := hP
          have hD : va_D A (w_M ad ca v_83) := hD
          refine lv_icmp_ne (tgt := 84) hx hb d_Md_answer_77 (by decide) (fun c_88 => ?_) (fun c_88 => ?_)
          · have he := he.trans (if_neg c_88)
            refine lv_iconst (v := 0) hx hb d_Md_answer_84 (by decide) ?_
            refine wx_ci (wS := fun _ : Unit => w_E ad ca) (ws2 := fun _ : Unit => w_M ad ca v_83) (va_runS (As := [.int 0]) (rest := []) ⟨hx, hb, hml, hown, ht⟩ (c_Md_yes l dC dI ad ca H.size 0 _ rfl) (va_cwS 1 ht (tb_S q_619 q_620 q_47 q_621) rfl rfl rfl p_Md_yes.2 ⟨show 0 + 1 ≤ rf + 7 by omega, show 8 + (1 + 11) + 0 ≤ rl + 162 by omega⟩) (wx_preS (wc := (w_E ad ca)) hN hK hP hD [] [] rfl (by decide) rfl) rfl rfl hl.1 rfl (lv_room (Nat.le_of_ble_eq_true rfl)) d_Md_answer_85 ⟨Nat.zero_le _, Nat.zero_le _⟩) hP hD hS hA [] [0, 1, 2, 3, 4, 5, 6, 7, 8, 9, 10, 11] [0, 1, 2, 3, 4, 5, 6, 7, 8, 9, 10, 11] rfl rfl (by decide) (by decide) (by decide) (fun _ => rfl) (fun r_89 _ H locs hw_89 hP hD hS => ?_)
            subst hw_89
            have hP : va_P (dC, dI) vwCl (w_M ad ca v_83) H := hP
            have hD : va_D A (w_M ad ca v_83) := hD
            exact W.iret hx hb hr (v := (f_Md_yes 0)) (fun t ht hW => ⟨⟨(f_Md_yes 0), v_83, rfl, he.symm, by rw [ht]; exact hP, va_K.moved hW.alike hK, hD⟩, hS.F ht⟩) hS.2.2 d_Md_answer_88
          · have he := he.trans (if_pos c_88)
            refine lv_iconst (v := 1) hx hb d_Md_answer_80 (by decide) ?_
            refine lv_goto (tgt := 85) hx hb d_Md_answer_81 (by decide) ?_
            refine wx_ci (wS := fun _ : Unit => w_E ad ca) (ws2 := fun _ : Unit => w_M ad ca v_83) (va_runS (As := [.int 1]) (rest := []) ⟨hx, hb, hml, hown, ht⟩ (c_Md_yes l dC dI ad ca H.size 1 _ rfl) (va_cwS 1 ht (tb_S q_619 q_620 q_47 q_621) rfl rfl rfl p_Md_yes.2 ⟨show 0 + 1 ≤ rf + 7 by omega, show 8 + (1 + 11) + 0 ≤ rl + 162 by omega⟩) (wx_preS (wc := (w_E ad ca)) hN hK hP hD [] [] rfl (by decide) rfl) rfl rfl hl.1 rfl (lv_room (Nat.le_of_ble_eq_true rfl)) d_Md_answer_85 ⟨Nat.zero_le _, Nat.zero_le _⟩) hP hD hS hA [] [0, 1, 2, 3, 4, 5, 6, 7, 8, 9, 10, 11] [0, 1, 2, 3, 4, 5, 6, 7, 8, 9, 10, 11] rfl rfl (by decide) (by decide) (by decide) (fun _ => rfl) (fun r_90 _ H locs hw_90 hP hD hS => ?_)
            subst hw_90
            have hP : va_P (dC, dI) vwCl (w_M ad ca v_83) H := hP
            have hD : va_D A (w_M ad ca v_83) := hD
            exact W.iret hx hb hr (v := (f_Md_yes 1)) (fun t ht hW => ⟨⟨(f_Md_yes 1), v_83, rfl, he.symm, by rw [ht]; exact hP, va_K.moved hW.alike hK, hD⟩, hS.F ht⟩) hS.2.2 d_Md_answer_88
        · have he := he.trans (if_pos c_85)
          refine lv_aload_n hx hb d_Md_answer_44 rfl (lv_at hl 2 rfl) ?_
          refine lv_iload_n hx hb d_Md_answer_45 rfl (lv_at hl 1 rfl) ?_
          refine wx_ci (wS := fun _ : Unit => w_M ad ca v_83) (ws2 := fun _ : Unit => w_M ad ca v_83) (va_runV (As := [.int r_81]) (rest := []) ⟨hx, hb, hml, hown, ht⟩ (c_Md_code l dC dI ad ca H.size v_83 r_81 (an_tok (at_l op k hopm hw_81 hpre) c_82) _ rfl) (cwV 1 ht (tb_V q_611 q_613 q_36 q_47 q_614) rfl rfl rfl p_Md_code ⟨show 1 + 1 ≤ rf + 7 by omega, show 8 + (2 + 11) + 21 ≤ rl + 162 by omega⟩) (wx_preV (wc := (w_M ad ca v_83)) hN hK hP hD [0, 1, 2, 3, 4, 5, 6, 7, 8, 9, 10, 11] [0, 1, 2, 3, 4, 5, 6, 7, 8, 9, 10] rfl (by decide) rfl (ci := 4) (q0 := 0) rfl rfl) rfl rfl hl.1 rfl (lv_room (Nat.le_of_ble_eq_true rfl)) d_Md_answer_46 ⟨Nat.zero_le _, Nat.zero_le _⟩) hP hD hS hA [0, 1, 2, 3, 4, 5, 6, 7, 8, 9, 10, 11] [] [0, 1, 2, 3, 4, 5, 6, 7, 8, 9, 10, 11] rfl rfl (by decide) (by decide) (by decide) (fun _ => rfl) (fun r_91 _ H locs hw_91 hP hD hS => ?_)
          subst hw_91
          have hP : va_P (dC, dI) vwCl (w_M ad ca v_83) H := hP
          have hD : va_D A (w_M ad ca v_83) := hD
          refine lv_aload_n hx hb d_Md_answer_49 rfl (lv_at hl 2 rfl) ?_
          refine lv_iload hx hb d_Md_answer_50 (lv_at hl 0 rfl) ?_
          refine wx_ci (wS := fun _ : Unit => w_M ad ca v_83) (ws2 := fun _ : Unit => w_M ad ca v_83) (va_runV (As := [.int r_83]) (rest := [.int (f_Md_code v_83 r_81)]) ⟨hx, hb, hml, hown, ht⟩ (c_Md_code l dC dI ad ca H.size v_83 r_83 (an_tok (at_l op k hopm hw_83 (at_l op k hopm hw_81 hpre).1) c_84) _ rfl) (cwV 1 ht (tb_V q_611 q_613 q_36 q_47 q_614) rfl rfl rfl p_Md_code ⟨show 1 + 1 ≤ rf + 7 by omega, show 8 + (2 + 11) + 21 ≤ rl + 162 by omega⟩) (wx_preV (wc := (w_M ad ca v_83)) hN hK hP hD [0, 1, 2, 3, 4, 5, 6, 7, 8, 9, 10, 11] [0, 1, 2, 3, 4, 5, 6, 7, 8, 9, 10] rfl (by decide) rfl (ci := 4) (q0 := 0) rfl rfl) rfl rfl hl.1 rfl (lv_room (Nat.le_of_ble_eq_true rfl)) d_Md_answer_52 ⟨Nat.zero_le _, Nat.zero_le _⟩) hP hD hS hA [0, 1, 2, 3, 4, 5, 6, 7, 8, 9, 10, 11] [] [0, 1, 2, 3, 4, 5, 6, 7, 8, 9, 10, 11] rfl rfl (by decide) (by decide) (by decide) (fun _ => rfl) (fun r_92 _ H locs hw_92 hP hD hS => ?_)
          subst hw_92
          have hP : va_P (dC, dI) vwCl (w_M ad ca v_83) H := hP
          have hD : va_D A (w_M ad ca v_83) := hD
          refine lv_icmp_ne (tgt := 62) hx hb d_Md_answer_55 (by decide) (fun c_93 => ?_) (fun c_93 => ?_)
          · have he := he.trans (if_neg c_93)
            refine lv_iconst (v := 0) hx hb d_Md_answer_62 (by decide) ?_
            refine lv_goto (tgt := 85) hx hb d_Md_answer_63 (by decide) ?_
            refine wx_ci (wS := fun _ : Unit => w_E ad ca) (ws2 := fun _ : Unit => w_M ad ca v_83) (va_runS (As := [.int 0]) (rest := []) ⟨hx, hb, hml, hown, ht⟩ (c_Md_yes l dC dI ad ca H.size 0 _ rfl) (va_cwS 1 ht (tb_S q_619 q_620 q_47 q_621) rfl rfl rfl p_Md_yes.2 ⟨show 0 + 1 ≤ rf + 7 by omega, show 8 + (1 + 11) + 0 ≤ rl + 162 by omega⟩) (wx_preS (wc := (w_E ad ca)) hN hK hP hD [] [] rfl (by decide) rfl) rfl rfl hl.1 rfl (lv_room (Nat.le_of_ble_eq_true rfl)) d_Md_answer_85 ⟨Nat.zero_le _, Nat.zero_le _⟩) hP hD hS hA [] [0, 1, 2, 3, 4, 5, 6, 7, 8, 9, 10, 11] [0, 1, 2, 3, 4, 5, 6, 7, 8, 9, 10, 11] rfl rfl (by decide) (by decide) (by decide) (fun _ => rfl) (fun r_94 _ H locs hw_94 hP hD hS => ?_)
            subst hw_94
            have hP : va_P (dC, dI) vwCl (w_M ad ca v_83) H := hP
            have hD : va_D A (w_M ad ca v_83) := hD
            exact W.iret hx hb hr (v := (f_Md_yes 0)) (fun t ht hW => ⟨⟨(f_Md_yes 0), v_83, rfl, he.symm, by rw [ht]; exact hP, va_K.moved hW.alike hK, hD⟩, hS.F ht⟩) hS.2.2 d_Md_answer_88
          · have he := he.trans (if_pos c_93)
            refine lv_iconst (v := 1) hx hb d_Md_answer_58 (by decide) ?_
            refine lv_goto (tgt := 85) hx hb d_Md_answer_59 (by decide) ?_
            refine wx_ci (wS := fun _ : Unit => w_E ad ca) (ws2 := fun _ : Unit => w_M ad ca v_83) (va_runS (As := [.int 1]) (rest := []) ⟨hx, hb, hml, hown, ht⟩ (c_Md_yes l dC dI ad ca H.size 1 _ rfl) (va_cwS 1 ht (tb_S q_619 q_620 q_47 q_621) rfl rfl rfl p_Md_yes.2 ⟨show 0 + 1 ≤ rf + 7 by omega, show 8 + (1 + 11) + 0 ≤ rl + 162 by omega⟩) (wx_preS (wc := (w_E ad ca)) hN hK hP hD [] [] rfl (by decide) rfl) rfl rfl hl.1 rfl (lv_room (Nat.le_of_ble_eq_true rfl)) d_Md_answer_85 ⟨Nat.zero_le _, Nat.zero_le _⟩) hP hD hS hA [] [0, 1, 2, 3, 4, 5, 6, 7, 8, 9, 10, 11] [0, 1, 2, 3, 4, 5, 6, 7, 8, 9, 10, 11] rfl rfl (by decide) (by decide) (by decide) (fun _ => rfl) (fun r_95 _ H locs hw_95 hP hD hS => ?_)
            subst hw_95
            have hP : va_P (dC, dI) vwCl (w_M ad ca v_83) H := hP
            have hD : va_D A (w_M ad ca v_83) := hD
            exact W.iret hx hb hr (v := (f_Md_yes 1)) (fun t ht hW => ⟨⟨(f_Md_yes 1), v_83, rfl, he.symm, by rw [ht]; exact hP, va_K.moved hW.alike hK, hD⟩, hS.F ht⟩) hS.2.2 d_Md_answer_88
      · have he := he.trans (if_neg c_84)
        refine lv_iconst (v := 0) hx hb d_Md_answer_36 (by decide) ?_
        refine lv_goto (tgt := 88) hx hb d_Md_answer_37 (by decide) ?_
        exact W.iret hx hb hr (v := 0) (fun t ht hW => ⟨⟨0, v_83, rfl, he.symm, by rw [ht]; exact hP, va_K.moved hW.alike hK, hD⟩, hS.F ht⟩) hS.2.2 d_Md_answer_88
    · have he := he.trans (if_neg c_82)
      refine lv_iconst (v := (-1)) hx hb d_Md_answer_18 (by decide) ?_
      refine lv_goto (tgt := 27) hx hb d_Md_answer_19 (by decide) ?_
      refine lv_istore (lv' := [(4, .int (-1)), (3, .int r_81), (0, .ref (ad 16)), (1, .int p0), (2, .int p1)]) hx hb d_Md_answer_27 hl (by decide) rfl (fun ls hl => ?_)
      refine lv_aload_n hx hb d_Md_answer_29 rfl (lv_at hl 2 rfl) ?_
      refine va_get (D := (dC, dI)) (ci := 4) (v := .int (TMd_fault v_81)) (C := R_Md) (T := T_Md) (N := 23) hx hb ht i_Md hown hK hP 0 rfl rfl 13 (by decide) (ht _ q_458) (fun _ h9 => h9) rfl d_Md_answer_30 ?_
      refine lv_if_le (tgt := 40) hx hb d_Md_answer_33 (by decide) (fun c_96 => ?_) (fun c_96 => ?_)
      · exact absurd c_96 c_82
      · refine lv_iconst (v := 0) hx hb d_Md_answer_36 (by decide) ?_
        refine lv_goto (tgt := 88) hx hb d_Md_answer_37 (by decide) ?_
        exact W.iret hx hb hr (v := 0) (fun t ht hW => ⟨⟨0, v_81, rfl, he.symm, by rw [ht]; exact hP, va_K.moved hW.alike hK, hD⟩, hS.F ht⟩) hS.2.2 d_Md_answer_88
