theorem isSign_01 (x : Int32) : f_Ct_isSign x = 0 ∨ f_Ct_isSign x = 1 := by
  unfold f_Ct_isSign
  repeat' split
  all_goals first
    | exact Or.inl rfl
    | exact Or.inr rfl
theorem in_turn {x : Int32} {n : Nat} (hn : n < 2147483648) (h0 : ¬ x < 0) (h1 : x < Int32.ofNat n) : vp_in x n := by
  rw [i32_lt] at h0 h1
  rw [Int32.toInt_zero] at h0
  have h2 : (Int32.ofNat n).toInt = n := nI_toInt hn
  rw [vp_in_iff]
  omega
theorem q_68 : Cond.fieldLink R_Ct 51 "ConditionText$Book" "modes" "[Z" ∈ TB := tq 68 (by decide +kernel) rfl
theorem q_71 : Cond.fieldLink R_Ct 59 "ConditionText$Book" "files" "[Z" ∈ TB := tq 71 (by decide +kernel) rfl
theorem q_74 : Cond.fieldLink R_Ct 78 "ConditionText$Book" "bodyCount" "I" ∈ TB := tq 74 (by decide +kernel) rfl
theorem q_167 : Cond.fieldLink R_Ct 12 "ConditionText" "book" "LConditionText$Book;" ∈ TB := tq 167 (by decide +kernel) rfl
theorem q_168 : Cond.fieldLink R_Ct 21 "ConditionText" "runner" "LConditionText$Runner;" ∈ TB := tq 168 (by decide +kernel) rfl
theorem q_178 : Cond.methodLink R_Ct 25 y_Bk_hasBody ∈ TB := tq 178 (by decide +kernel) rfl
theorem q_179 : Cond.instanceMethod y_Bk_hasBody ∈ TB := tq 179 (by decide +kernel) rfl
theorem q_180 : Cond.selects R_Bk y_Bk_hasBody y_Bk_hasBody ∈ TB := tq 180 (by decide +kernel) rfl
theorem q_181 : Cond.code y_Bk_hasBody b_Bk_hasBody 2 (some .boolean) ∈ TB := tq 181 (by decide +kernel) rfl
theorem q_182 : Cond.methodLink R_Ct 29 y_Ct_fitsKind ∈ TB := tq 182 (by decide +kernel) rfl
theorem q_183 : Cond.static y_Ct_fitsKind ∈ TB := tq 183 (by decide +kernel) rfl
theorem q_184 : Cond.code y_Ct_fitsKind b_Ct_fitsKind 2 (some .boolean) ∈ TB := tq 184 (by decide +kernel) rfl
theorem q_188 : Cond.constant R_Ct 91 (-999999999) ∈ TB := tq 188 (by decide +kernel) rfl
theorem q_189 : Cond.constant R_Ct 92 999999999 ∈ TB := tq 189 (by decide +kernel) rfl
theorem q_190 : Cond.methodLink R_Ct 33 y_Bk_define ∈ TB := tq 190 (by decide +kernel) rfl
theorem q_191 : Cond.instanceMethod y_Bk_define ∈ TB := tq 191 (by decide +kernel) rfl
theorem q_192 : Cond.selects R_Bk y_Bk_define y_Bk_define ∈ TB := tq 192 (by decide +kernel) rfl
theorem q_193 : Cond.code y_Bk_define b_Bk_define 4 (none : Option Jvm.ClassFile.FieldType) ∈ TB := tq 193 (by decide +kernel) rfl
theorem q_198 : Cond.methodLink R_Ct 37 y_Bk_addBody ∈ TB := tq 198 (by decide +kernel) rfl
theorem q_199 : Cond.instanceMethod y_Bk_addBody ∈ TB := tq 199 (by decide +kernel) rfl
theorem q_200 : Cond.selects R_Bk y_Bk_addBody y_Bk_addBody ∈ TB := tq 200 (by decide +kernel) rfl
theorem q_201 : Cond.code y_Bk_addBody b_Bk_addBody 1 (some .int) ∈ TB := tq 201 (by decide +kernel) rfl
theorem q_206 : Cond.methodLink R_Ct 41 y_Ct_isToken ∈ TB := tq 206 (by decide +kernel) rfl
theorem q_207 : Cond.static y_Ct_isToken ∈ TB := tq 207 (by decide +kernel) rfl
theorem q_208 : Cond.code y_Ct_isToken b_Ct_isToken 1 (some .boolean) ∈ TB := tq 208 (by decide +kernel) rfl
theorem q_212 : Cond.methodLink R_Ct 44 y_Bk_append ∈ TB := tq 212 (by decide +kernel) rfl
theorem q_213 : Cond.instanceMethod y_Bk_append ∈ TB := tq 213 (by decide +kernel) rfl
theorem q_214 : Cond.selects R_Bk y_Bk_append y_Bk_append ∈ TB := tq 214 (by decide +kernel) rfl
theorem q_215 : Cond.code y_Bk_append b_Bk_append 6 (some .int) ∈ TB := tq 215 (by decide +kernel) rfl
theorem q_224 : Cond.methodLink R_Ct 48 y_Bk_emptyInput ∈ TB := tq 224 (by decide +kernel) rfl
theorem q_225 : Cond.instanceMethod y_Bk_emptyInput ∈ TB := tq 225 (by decide +kernel) rfl
theorem q_226 : Cond.selects R_Bk y_Bk_emptyInput y_Bk_emptyInput ∈ TB := tq 226 (by decide +kernel) rfl
theorem q_227 : Cond.code y_Bk_emptyInput b_Bk_emptyInput 2 (some .int) ∈ TB := tq 227 (by decide +kernel) rfl
theorem q_232 : Cond.methodLink R_Ct 55 y_Ct_turn ∈ TB := tq 232 (by decide +kernel) rfl
theorem q_233 : Cond.static y_Ct_turn ∈ TB := tq 233 (by decide +kernel) rfl
theorem q_234 : Cond.code y_Ct_turn b_Ct_turn 3 (some .int) ∈ TB := tq 234 (by decide +kernel) rfl
theorem q_401 : Cond.methodLink R_Ct 65 y_Rn_putOutAt ∈ TB := tq 401 (by decide +kernel) rfl
theorem q_402 : Cond.instanceMethod y_Rn_putOutAt ∈ TB := tq 402 (by decide +kernel) rfl
theorem q_403 : Cond.selects R_Rn y_Rn_putOutAt y_Rn_putOutAt ∈ TB := tq 403 (by decide +kernel) rfl
theorem q_404 : Cond.code y_Rn_putOutAt b_Rn_putOutAt 2 (some .int) ∈ TB := tq 404 (by decide +kernel) rfl
theorem q_409 : Cond.methodLink R_Ct 69 y_Rn_tell ∈ TB := tq 409 (by decide +kernel) rfl
theorem q_410 : Cond.instanceMethod y_Rn_tell ∈ TB := tq 410 (by decide +kernel) rfl
theorem q_411 : Cond.selects R_Rn y_Rn_tell y_Rn_tell ∈ TB := tq 411 (by decide +kernel) rfl
theorem q_412 : Cond.code y_Rn_tell b_Rn_tell 2 (some .int) ∈ TB := tq 412 (by decide +kernel) rfl
theorem q_421 : Cond.methodLink R_Ct 72 y_Rn_decisionOf ∈ TB := tq 421 (by decide +kernel) rfl
theorem q_422 : Cond.instanceMethod y_Rn_decisionOf ∈ TB := tq 422 (by decide +kernel) rfl
theorem q_423 : Cond.selects R_Rn y_Rn_decisionOf y_Rn_decisionOf ∈ TB := tq 423 (by decide +kernel) rfl
theorem q_424 : Cond.code y_Rn_decisionOf b_Rn_decisionOf 2 (some .int) ∈ TB := tq 424 (by decide +kernel) rfl
theorem q_429 : Cond.methodLink R_Ct 75 y_Bk_meanTheSame ∈ TB := tq 429 (by decide +kernel) rfl
theorem q_434 : Cond.methodLink R_Ct 82 y_Bk_sizeOf ∈ TB := tq 434 (by decide +kernel) rfl
theorem q_435 : Cond.methodLink R_Ct 85 y_Bk_tokensOfBodies ∈ TB := tq 435 (by decide +kernel) rfl
theorem q_436 : Cond.instanceMethod y_Bk_tokensOfBodies ∈ TB := tq 436 (by decide +kernel) rfl
theorem q_437 : Cond.selects R_Bk y_Bk_tokensOfBodies y_Bk_tokensOfBodies ∈ TB := tq 437 (by decide +kernel) rfl
theorem q_438 : Cond.code y_Bk_tokensOfBodies b_Bk_tokensOfBodies 3 (some .int) ∈ TB := tq 438 (by decide +kernel) rfl
theorem d_Ct_fitsKind_0 : decode b_Ct_fitsKind 0 = .ok (.iload_n 0, 1) := by decide +kernel
theorem d_Ct_fitsKind_1 : decode b_Ct_fitsKind 1 = .ok (.tableswitch 116 0 8 #[51, 61, 66, 66, 82, 100, 51, 51, 51], 51) := by decide +kernel
theorem d_Ct_fitsKind_52 : decode b_Ct_fitsKind 52 = .ok (.iload_n 1, 1) := by decide +kernel
theorem d_Ct_fitsKind_53 : decode b_Ct_fitsKind 53 = .ok (.ifCond .ne 7, 3) := by decide +kernel
theorem d_Ct_fitsKind_56 : decode b_Ct_fitsKind 56 = .ok (.iconst 1, 1) := by decide +kernel
theorem d_Ct_fitsKind_57 : decode b_Ct_fitsKind 57 = .ok (.goto 4, 3) := by decide +kernel
theorem d_Ct_fitsKind_60 : decode b_Ct_fitsKind 60 = .ok (.iconst 0, 1) := by decide +kernel
theorem d_Ct_fitsKind_61 : decode b_Ct_fitsKind 61 = .ok (.ireturn, 1) := by decide +kernel
theorem d_Ct_fitsKind_62 : decode b_Ct_fitsKind 62 = .ok (.iload_n 1, 1) := by decide +kernel
theorem d_Ct_fitsKind_63 : decode b_Ct_fitsKind 63 = .ok (.invokestatic 88, 3) := by decide +kernel
theorem d_Ct_fitsKind_66 : decode b_Ct_fitsKind 66 = .ok (.ireturn, 1) := by decide +kernel
theorem d_Ct_fitsKind_67 : decode b_Ct_fitsKind 67 = .ok (.iload_n 1, 1) := by decide +kernel
theorem d_Ct_fitsKind_68 : decode b_Ct_fitsKind 68 = .ok (.ifCond .lt 13, 3) := by decide +kernel
theorem d_Ct_fitsKind_71 : decode b_Ct_fitsKind 71 = .ok (.iload_n 1, 1) := by decide +kernel
theorem d_Ct_fitsKind_72 : decode b_Ct_fitsKind 72 = .ok (.bipush 20, 2) := by decide +kernel
theorem d_Ct_fitsKind_74 : decode b_Ct_fitsKind 74 = .ok (.if_icmp .ge 7, 3) := by decide +kernel
theorem d_Ct_fitsKind_77 : decode b_Ct_fitsKind 77 = .ok (.iconst 1, 1) := by decide +kernel
theorem d_Ct_fitsKind_78 : decode b_Ct_fitsKind 78 = .ok (.goto 4, 3) := by decide +kernel
theorem d_Ct_fitsKind_81 : decode b_Ct_fitsKind 81 = .ok (.iconst 0, 1) := by decide +kernel
theorem d_Ct_fitsKind_82 : decode b_Ct_fitsKind 82 = .ok (.ireturn, 1) := by decide +kernel
theorem d_Ct_fitsKind_83 : decode b_Ct_fitsKind 83 = .ok (.iload_n 1, 1) := by decide +kernel
theorem d_Ct_fitsKind_84 : decode b_Ct_fitsKind 84 = .ok (.ldc 91, 2) := by decide +kernel
theorem d_Ct_fitsKind_86 : decode b_Ct_fitsKind 86 = .ok (.if_icmp .lt 13, 3) := by decide +kernel
theorem d_Ct_fitsKind_89 : decode b_Ct_fitsKind 89 = .ok (.iload_n 1, 1) := by decide +kernel
theorem d_Ct_fitsKind_90 : decode b_Ct_fitsKind 90 = .ok (.ldc 92, 2) := by decide +kernel
theorem d_Ct_fitsKind_92 : decode b_Ct_fitsKind 92 = .ok (.if_icmp .gt 7, 3) := by decide +kernel
theorem d_Ct_fitsKind_95 : decode b_Ct_fitsKind 95 = .ok (.iconst 1, 1) := by decide +kernel
theorem d_Ct_fitsKind_96 : decode b_Ct_fitsKind 96 = .ok (.goto 4, 3) := by decide +kernel
theorem d_Ct_fitsKind_99 : decode b_Ct_fitsKind 99 = .ok (.iconst 0, 1) := by decide +kernel
theorem d_Ct_fitsKind_100 : decode b_Ct_fitsKind 100 = .ok (.ireturn, 1) := by decide +kernel
theorem d_Ct_fitsKind_101 : decode b_Ct_fitsKind 101 = .ok (.iload_n 1, 1) := by decide +kernel
theorem d_Ct_fitsKind_102 : decode b_Ct_fitsKind 102 = .ok (.ifCond .lt 13, 3) := by decide +kernel
theorem d_Ct_fitsKind_105 : decode b_Ct_fitsKind 105 = .ok (.iload_n 1, 1) := by decide +kernel
theorem d_Ct_fitsKind_106 : decode b_Ct_fitsKind 106 = .ok (.bipush 10, 2) := by decide +kernel
theorem d_Ct_fitsKind_108 : decode b_Ct_fitsKind 108 = .ok (.if_icmp .gt 7, 3) := by decide +kernel
theorem d_Ct_fitsKind_111 : decode b_Ct_fitsKind 111 = .ok (.iconst 1, 1) := by decide +kernel
theorem d_Ct_fitsKind_112 : decode b_Ct_fitsKind 112 = .ok (.goto 4, 3) := by decide +kernel
theorem d_Ct_fitsKind_115 : decode b_Ct_fitsKind 115 = .ok (.iconst 0, 1) := by decide +kernel
theorem d_Ct_fitsKind_116 : decode b_Ct_fitsKind 116 = .ok (.ireturn, 1) := by decide +kernel
theorem d_Ct_fitsKind_117 : decode b_Ct_fitsKind 117 = .ok (.iconst 0, 1) := by decide +kernel
theorem d_Ct_fitsKind_118 : decode b_Ct_fitsKind 118 = .ok (.ireturn, 1) := by decide +kernel
theorem d_Ct_turn_0 : decode b_Ct_turn 0 = .ok (.iload_n 1, 1) := by decide +kernel
theorem d_Ct_turn_1 : decode b_Ct_turn 1 = .ok (.ifCond .lt 9, 3) := by decide +kernel
theorem d_Ct_turn_4 : decode b_Ct_turn 4 = .ok (.iload_n 1, 1) := by decide +kernel
theorem d_Ct_turn_5 : decode b_Ct_turn 5 = .ok (.aload_n 0, 1) := by decide +kernel
theorem d_Ct_turn_6 : decode b_Ct_turn 6 = .ok (.arraylength, 1) := by decide +kernel
theorem d_Ct_turn_7 : decode b_Ct_turn 7 = .ok (.if_icmp .lt 6, 3) := by decide +kernel
theorem d_Ct_turn_10 : decode b_Ct_turn 10 = .ok (.bipush (-2), 2) := by decide +kernel
theorem d_Ct_turn_12 : decode b_Ct_turn 12 = .ok (.ireturn, 1) := by decide +kernel
theorem d_Ct_turn_13 : decode b_Ct_turn 13 = .ok (.aload_n 0, 1) := by decide +kernel
theorem d_Ct_turn_14 : decode b_Ct_turn 14 = .ok (.iload_n 1, 1) := by decide +kernel
theorem d_Ct_turn_15 : decode b_Ct_turn 15 = .ok (.iload_n 2, 1) := by decide +kernel
theorem d_Ct_turn_16 : decode b_Ct_turn 16 = .ok (.bastore, 1) := by decide +kernel
theorem d_Ct_turn_17 : decode b_Ct_turn 17 = .ok (.iconst 1, 1) := by decide +kernel
theorem d_Ct_turn_18 : decode b_Ct_turn 18 = .ok (.ireturn, 1) := by decide +kernel
theorem d_Ct_meaning_0 : decode b_Ct_meaning 0 = .ok (.iload_n 1, 1) := by decide +kernel
theorem d_Ct_meaning_1 : decode b_Ct_meaning 1 = .ok (.ifCond .lt 9, 3) := by decide +kernel
theorem d_Ct_meaning_4 : decode b_Ct_meaning 4 = .ok (.iload_n 1, 1) := by decide +kernel
theorem d_Ct_meaning_5 : decode b_Ct_meaning 5 = .ok (.bipush 40, 2) := by decide +kernel
theorem d_Ct_meaning_7 : decode b_Ct_meaning 7 = .ok (.if_icmp .lt 5, 3) := by decide +kernel
theorem d_Ct_meaning_10 : decode b_Ct_meaning 10 = .ok (.iconst (-1), 1) := by decide +kernel
theorem d_Ct_meaning_11 : decode b_Ct_meaning 11 = .ok (.ireturn, 1) := by decide +kernel
theorem d_Ct_meaning_12 : decode b_Ct_meaning 12 = .ok (.iload_n 2, 1) := by decide +kernel
theorem d_Ct_meaning_13 : decode b_Ct_meaning 13 = .ok (.iconst 2, 1) := by decide +kernel
theorem d_Ct_meaning_14 : decode b_Ct_meaning 14 = .ok (.if_icmp .eq 8, 3) := by decide +kernel
theorem d_Ct_meaning_17 : decode b_Ct_meaning 17 = .ok (.iload_n 2, 1) := by decide +kernel
theorem d_Ct_meaning_18 : decode b_Ct_meaning 18 = .ok (.iconst 3, 1) := by decide +kernel
theorem d_Ct_meaning_19 : decode b_Ct_meaning 19 = .ok (.if_icmp .ne 16, 3) := by decide +kernel
theorem d_Ct_meaning_22 : decode b_Ct_meaning 22 = .ok (.aload_n 0, 1) := by decide +kernel
theorem d_Ct_meaning_23 : decode b_Ct_meaning 23 = .ok (.getfield 12, 3) := by decide +kernel
theorem d_Ct_meaning_26 : decode b_Ct_meaning 26 = .ok (.iload_n 3, 1) := by decide +kernel
theorem d_Ct_meaning_27 : decode b_Ct_meaning 27 = .ok (.invokevirtual 25, 3) := by decide +kernel
theorem d_Ct_meaning_30 : decode b_Ct_meaning 30 = .ok (.ifCond .ne 5, 3) := by decide +kernel
theorem d_Ct_meaning_33 : decode b_Ct_meaning 33 = .ok (.iconst (-1), 1) := by decide +kernel
theorem d_Ct_meaning_34 : decode b_Ct_meaning 34 = .ok (.ireturn, 1) := by decide +kernel
theorem d_Ct_meaning_35 : decode b_Ct_meaning 35 = .ok (.iload_n 2, 1) := by decide +kernel
theorem d_Ct_meaning_36 : decode b_Ct_meaning 36 = .ok (.iload_n 3, 1) := by decide +kernel
theorem d_Ct_meaning_37 : decode b_Ct_meaning 37 = .ok (.invokestatic 29, 3) := by decide +kernel
theorem d_Ct_meaning_40 : decode b_Ct_meaning 40 = .ok (.ifCond .ne 6, 3) := by decide +kernel
theorem d_Ct_meaning_43 : decode b_Ct_meaning 43 = .ok (.bipush (-2), 2) := by decide +kernel
theorem d_Ct_meaning_45 : decode b_Ct_meaning 45 = .ok (.ireturn, 1) := by decide +kernel
theorem d_Ct_meaning_46 : decode b_Ct_meaning 46 = .ok (.aload_n 0, 1) := by decide +kernel
theorem d_Ct_meaning_47 : decode b_Ct_meaning 47 = .ok (.getfield 12, 3) := by decide +kernel
theorem d_Ct_meaning_50 : decode b_Ct_meaning 50 = .ok (.iload_n 1, 1) := by decide +kernel
theorem d_Ct_meaning_51 : decode b_Ct_meaning 51 = .ok (.iload_n 2, 1) := by decide +kernel
theorem d_Ct_meaning_52 : decode b_Ct_meaning 52 = .ok (.iload_n 3, 1) := by decide +kernel
theorem d_Ct_meaning_53 : decode b_Ct_meaning 53 = .ok (.invokevirtual 33, 3) := by decide +kernel
theorem d_Ct_meaning_56 : decode b_Ct_meaning 56 = .ok (.iconst 1, 1) := by decide +kernel
theorem d_Ct_meaning_57 : decode b_Ct_meaning 57 = .ok (.ireturn, 1) := by decide +kernel
theorem d_Ct_body_0 : decode b_Ct_body 0 = .ok (.aload_n 0, 1) := by decide +kernel
theorem d_Ct_body_1 : decode b_Ct_body 1 = .ok (.getfield 12, 3) := by decide +kernel
theorem d_Ct_body_4 : decode b_Ct_body 4 = .ok (.invokevirtual 37, 3) := by decide +kernel
theorem d_Ct_body_7 : decode b_Ct_body 7 = .ok (.ireturn, 1) := by decide +kernel
theorem d_Ct_token_0 : decode b_Ct_token 0 = .ok (.iload_n 1, 1) := by decide +kernel
theorem d_Ct_token_1 : decode b_Ct_token 1 = .ok (.iconst (-1), 1) := by decide +kernel
theorem d_Ct_token_2 : decode b_Ct_token 2 = .ok (.if_icmp .eq 16, 3) := by decide +kernel
theorem d_Ct_token_5 : decode b_Ct_token 5 = .ok (.aload_n 0, 1) := by decide +kernel
theorem d_Ct_token_6 : decode b_Ct_token 6 = .ok (.getfield 12, 3) := by decide +kernel
theorem d_Ct_token_9 : decode b_Ct_token 9 = .ok (.iload_n 1, 1) := by decide +kernel
theorem d_Ct_token_10 : decode b_Ct_token 10 = .ok (.invokevirtual 25, 3) := by decide +kernel
theorem d_Ct_token_13 : decode b_Ct_token 13 = .ok (.ifCond .ne 5, 3) := by decide +kernel
theorem d_Ct_token_16 : decode b_Ct_token 16 = .ok (.iconst (-1), 1) := by decide +kernel
theorem d_Ct_token_17 : decode b_Ct_token 17 = .ok (.ireturn, 1) := by decide +kernel
theorem d_Ct_token_18 : decode b_Ct_token 18 = .ok (.iload_n 2, 1) := by decide +kernel
theorem d_Ct_token_19 : decode b_Ct_token 19 = .ok (.invokestatic 41, 3) := by decide +kernel
theorem d_Ct_token_22 : decode b_Ct_token 22 = .ok (.ifCond .ne 6, 3) := by decide +kernel
theorem d_Ct_token_25 : decode b_Ct_token 25 = .ok (.bipush (-2), 2) := by decide +kernel
theorem d_Ct_token_27 : decode b_Ct_token 27 = .ok (.ireturn, 1) := by decide +kernel
theorem d_Ct_token_28 : decode b_Ct_token 28 = .ok (.aload_n 0, 1) := by decide +kernel
theorem d_Ct_token_29 : decode b_Ct_token 29 = .ok (.getfield 12, 3) := by decide +kernel
theorem d_Ct_token_32 : decode b_Ct_token 32 = .ok (.iload_n 1, 1) := by decide +kernel
theorem d_Ct_token_33 : decode b_Ct_token 33 = .ok (.iconst (-1), 1) := by decide +kernel
theorem d_Ct_token_34 : decode b_Ct_token 34 = .ok (.if_icmp .ne 8, 3) := by decide +kernel
theorem d_Ct_token_37 : decode b_Ct_token 37 = .ok (.bipush 20, 2) := by decide +kernel
theorem d_Ct_token_39 : decode b_Ct_token 39 = .ok (.goto 4, 3) := by decide +kernel
theorem d_Ct_token_42 : decode b_Ct_token 42 = .ok (.iload_n 1, 1) := by decide +kernel
theorem d_Ct_token_43 : decode b_Ct_token 43 = .ok (.iload_n 2, 1) := by decide +kernel
theorem d_Ct_token_44 : decode b_Ct_token 44 = .ok (.invokevirtual 44, 3) := by decide +kernel
theorem d_Ct_token_47 : decode b_Ct_token 47 = .ok (.ireturn, 1) := by decide +kernel
theorem d_Ct_clear_0 : decode b_Ct_clear 0 = .ok (.aload_n 0, 1) := by decide +kernel
theorem d_Ct_clear_1 : decode b_Ct_clear 1 = .ok (.getfield 12, 3) := by decide +kernel
theorem d_Ct_clear_4 : decode b_Ct_clear 4 = .ok (.invokevirtual 48, 3) := by decide +kernel
theorem d_Ct_clear_7 : decode b_Ct_clear 7 = .ok (.ireturn, 1) := by decide +kernel
theorem d_Ct_mode_0 : decode b_Ct_mode 0 = .ok (.aload_n 0, 1) := by decide +kernel
theorem d_Ct_mode_1 : decode b_Ct_mode 1 = .ok (.getfield 12, 3) := by decide +kernel
theorem d_Ct_mode_4 : decode b_Ct_mode 4 = .ok (.getfield 51, 3) := by decide +kernel
theorem d_Ct_mode_7 : decode b_Ct_mode 7 = .ok (.iload_n 1, 1) := by decide +kernel
theorem d_Ct_mode_8 : decode b_Ct_mode 8 = .ok (.iload_n 2, 1) := by decide +kernel
theorem d_Ct_mode_9 : decode b_Ct_mode 9 = .ok (.invokestatic 55, 3) := by decide +kernel
theorem d_Ct_mode_12 : decode b_Ct_mode 12 = .ok (.ireturn, 1) := by decide +kernel
theorem d_Ct_end_0 : decode b_Ct_end 0 = .ok (.aload_n 0, 1) := by decide +kernel
theorem d_Ct_end_1 : decode b_Ct_end 1 = .ok (.getfield 12, 3) := by decide +kernel
theorem d_Ct_end_4 : decode b_Ct_end 4 = .ok (.getfield 59, 3) := by decide +kernel
theorem d_Ct_end_7 : decode b_Ct_end 7 = .ok (.iload_n 1, 1) := by decide +kernel
theorem d_Ct_end_8 : decode b_Ct_end 8 = .ok (.iload_n 2, 1) := by decide +kernel
theorem d_Ct_end_9 : decode b_Ct_end 9 = .ok (.invokestatic 55, 3) := by decide +kernel
theorem d_Ct_end_12 : decode b_Ct_end 12 = .ok (.ireturn, 1) := by decide +kernel
theorem d_Ct_at_0 : decode b_Ct_at 0 = .ok (.aload_n 0, 1) := by decide +kernel
theorem d_Ct_at_1 : decode b_Ct_at 1 = .ok (.getfield 21, 3) := by decide +kernel
theorem d_Ct_at_4 : decode b_Ct_at 4 = .ok (.iload_n 1, 1) := by decide +kernel
theorem d_Ct_at_5 : decode b_Ct_at 5 = .ok (.invokevirtual 65, 3) := by decide +kernel
theorem d_Ct_at_8 : decode b_Ct_at 8 = .ok (.ireturn, 1) := by decide +kernel
theorem d_Ct_told_0 : decode b_Ct_told 0 = .ok (.aload_n 0, 1) := by decide +kernel
theorem d_Ct_told_1 : decode b_Ct_told 1 = .ok (.getfield 21, 3) := by decide +kernel
theorem d_Ct_told_4 : decode b_Ct_told 4 = .ok (.iload_n 1, 1) := by decide +kernel
theorem d_Ct_told_5 : decode b_Ct_told 5 = .ok (.invokevirtual 69, 3) := by decide +kernel
theorem d_Ct_told_8 : decode b_Ct_told 8 = .ok (.ireturn, 1) := by decide +kernel
theorem d_Ct_decided_0 : decode b_Ct_decided 0 = .ok (.aload_n 0, 1) := by decide +kernel
theorem d_Ct_decided_1 : decode b_Ct_decided 1 = .ok (.getfield 21, 3) := by decide +kernel
theorem d_Ct_decided_4 : decode b_Ct_decided 4 = .ok (.iload_n 1, 1) := by decide +kernel
theorem d_Ct_decided_5 : decode b_Ct_decided 5 = .ok (.invokevirtual 72, 3) := by decide +kernel
theorem d_Ct_decided_8 : decode b_Ct_decided 8 = .ok (.ireturn, 1) := by decide +kernel
theorem d_Ct_same_0 : decode b_Ct_same 0 = .ok (.iload_n 1, 1) := by decide +kernel
theorem d_Ct_same_1 : decode b_Ct_same 1 = .ok (.invokestatic 41, 3) := by decide +kernel
theorem d_Ct_same_4 : decode b_Ct_same 4 = .ok (.ifCond .eq 26, 3) := by decide +kernel
theorem d_Ct_same_7 : decode b_Ct_same 7 = .ok (.iload_n 2, 1) := by decide +kernel
theorem d_Ct_same_8 : decode b_Ct_same 8 = .ok (.invokestatic 41, 3) := by decide +kernel
theorem d_Ct_same_11 : decode b_Ct_same 11 = .ok (.ifCond .eq 19, 3) := by decide +kernel
theorem d_Ct_same_14 : decode b_Ct_same 14 = .ok (.aload_n 0, 1) := by decide +kernel
theorem d_Ct_same_15 : decode b_Ct_same 15 = .ok (.getfield 12, 3) := by decide +kernel
theorem d_Ct_same_18 : decode b_Ct_same 18 = .ok (.iload_n 1, 1) := by decide +kernel
theorem d_Ct_same_19 : decode b_Ct_same 19 = .ok (.iload_n 2, 1) := by decide +kernel
theorem d_Ct_same_20 : decode b_Ct_same 20 = .ok (.invokevirtual 75, 3) := by decide +kernel
theorem d_Ct_same_23 : decode b_Ct_same 23 = .ok (.ifCond .eq 7, 3) := by decide +kernel
theorem d_Ct_same_26 : decode b_Ct_same 26 = .ok (.iconst 1, 1) := by decide +kernel
theorem d_Ct_same_27 : decode b_Ct_same 27 = .ok (.goto 4, 3) := by decide +kernel
theorem d_Ct_same_30 : decode b_Ct_same 30 = .ok (.iconst 0, 1) := by decide +kernel
theorem d_Ct_same_31 : decode b_Ct_same 31 = .ok (.ireturn, 1) := by decide +kernel
theorem d_Ct_count_0 : decode b_Ct_count 0 = .ok (.iload_n 1, 1) := by decide +kernel
theorem d_Ct_count_1 : decode b_Ct_count 1 = .ok (.tableswitch 53 0 2 #[27, 35, 45], 27) := by decide +kernel
theorem d_Ct_count_28 : decode b_Ct_count 28 = .ok (.aload_n 0, 1) := by decide +kernel
theorem d_Ct_count_29 : decode b_Ct_count 29 = .ok (.getfield 12, 3) := by decide +kernel
theorem d_Ct_count_32 : decode b_Ct_count 32 = .ok (.getfield 78, 3) := by decide +kernel
theorem d_Ct_count_35 : decode b_Ct_count 35 = .ok (.ireturn, 1) := by decide +kernel
theorem d_Ct_count_36 : decode b_Ct_count 36 = .ok (.aload_n 0, 1) := by decide +kernel
theorem d_Ct_count_37 : decode b_Ct_count 37 = .ok (.getfield 12, 3) := by decide +kernel
theorem d_Ct_count_40 : decode b_Ct_count 40 = .ok (.bipush 20, 2) := by decide +kernel
theorem d_Ct_count_42 : decode b_Ct_count 42 = .ok (.invokevirtual 82, 3) := by decide +kernel
theorem d_Ct_count_45 : decode b_Ct_count 45 = .ok (.ireturn, 1) := by decide +kernel
theorem d_Ct_count_46 : decode b_Ct_count 46 = .ok (.aload_n 0, 1) := by decide +kernel
theorem d_Ct_count_47 : decode b_Ct_count 47 = .ok (.getfield 12, 3) := by decide +kernel
theorem d_Ct_count_50 : decode b_Ct_count 50 = .ok (.invokevirtual 85, 3) := by decide +kernel
theorem d_Ct_count_53 : decode b_Ct_count 53 = .ok (.ireturn, 1) := by decide +kernel
theorem d_Ct_count_54 : decode b_Ct_count 54 = .ok (.bipush (-2), 2) := by decide +kernel
theorem d_Ct_count_56 : decode b_Ct_count 56 = .ok (.ireturn, 1) := by decide +kernel
noncomputable def f_Ct_fitsKind (p0 : Int32) (p1 : Int32) : Int32 := (if p0 = 0 then (if p1 = 0 then 1 else 0) else (if p0 = 1 then (f_Ct_isSign p1) else (if p0 = 2 then (if p1 < 0 then 0 else (if 20 ≤ p1 then 0 else 1)) else (if p0 = 3 then (if p1 < 0 then 0 else (if 20 ≤ p1 then 0 else 1)) else (if p0 = 4 then (if p1 < (-999999999) then 0 else (if 999999999 < p1 then 0 else 1)) else (if p0 = 5 then (if p1 < 0 then 0 else (if 10 < p1 then 0 else 1)) else (if p0 = 6 then (if p1 = 0 then 1 else 0) else (if p0 = 7 then (if p1 = 0 then 1 else 0) else (if p0 = 8 then (if p1 = 0 then 1 else 0) else 0)))))))))
set_option maxHeartbeats 4000000 in
set_option maxRecDepth 100000 in
theorem c_Ct_fitsKind (l : Launch) (dC : Nat → ClassId) (dI : Nat → Nat → Nat) (ad : Nat → Nat) (ca : Nat → ClassId) (sz : Nat) (p0 : Int32) (p1 : Int32) (F : Int32) (he : F = f_Ct_fitsKind p0 p1) : wx_Mi l y_Ct_fitsKind ws_Ct_fitsKind ({ frames := 1, cells := 0, slots := 0, locals := 20 } : Room) (dC, dI) vwCl (t_E ca) [.int p0, .int p1] (w_E ad ca) sz (fun _ : Unit => w_E ad ca) (fun (r : Int32) (_ : Unit) => r = F) := by
  refine Met.ofW (cc := b_Ct_fitsKind) (maxL := 2) (ret := some .boolean) (by decide) rfl ?_
  intro p e s m args below meth c s₁ B hml hv
  obtain ⟨rfl, hsz, hP, hK, hD0, hN⟩ := hv
  have hx := B.exec
  have hb := B.bytes
  have hr := B.returns
  have hts := atoms_spec (ws := ws_Ct_fitsKind) B.pre
  have ht : ∀ w ∈ TB, w.before _ s = true := fun w h => hts w (List.mem_cons_of_mem _ h)
  have hown : s.vm.findClass R_Ct = some m.cls := findClass_of_methodNamed B.named
  have hlocks := B.notSynchronized
  subst hsz
  have hD := hD0.self (sz := s.heap.size)
  generalize hAe : va_A (w_E ad ca) s.heap.size = A at hD ⊢
  have hA : ∀ q : Nat, s.heap.size ≤ q → A q := fun q h => by rw [← hAe]; exact Or.inr h
  have hS : va_S A s.heap s.heap [] := va_S.rf
  have hl := lv_entry ([.int p0, .int p1]) (n := 2) (Nat.le_of_ble_eq_true rfl)
  rw [lg_entry_eq]
  generalize (lg_sl ([.int p0, .int p1]) ++ List.replicate (2 - (lg_sl ([.int p0, .int p1])).length) Slot.unset).toArray = ls at hl ⊢
  have hl : lv_has ls 2 [(0, .int p0), (1, .int p1)] := hl
  unfold f_Ct_fitsKind at he
  refine lv_iload_n hx hb d_Ct_fitsKind_0 rfl (lv_at hl 0 rfl) ?_
  rcases Decidable.em (p0 = 0) with c_1 | c_1
  · have he := he.trans (if_pos c_1)
    refine lv_tableIn (off := 51) (tgt := 52) hx hb d_Ct_fitsKind_1 (by rw [c_1]; decide) (by rw [c_1]; decide) (by rw [c_1]; rfl) (by decide) ?_
    refine lv_iload_n hx hb d_Ct_fitsKind_52 rfl (lv_at hl 1 rfl) ?_
    refine lv_if_ne (tgt := 60) hx hb d_Ct_fitsKind_53 (by decide) (fun c_2 => ?_) (fun c_2 => ?_)
    · have he := he.trans (if_neg c_2)
      refine lv_iconst (v := 0) hx hb d_Ct_fitsKind_60 (by decide) ?_
      exact W.zret hx hb hr (by rfl) (v := 0) (fun t ht hW => ⟨⟨0, (), rfl, he.symm, by rw [ht]; exact hP, va_K.moved hW.alike hK, hD⟩, hS.F ht⟩) hS.2.2 d_Ct_fitsKind_61
    · have he := he.trans (if_pos c_2)
      refine lv_iconst (v := 1) hx hb d_Ct_fitsKind_56 (by decide) ?_
      refine lv_goto (tgt := 61) hx hb d_Ct_fitsKind_57 (by decide) ?_
      exact W.zret hx hb hr (by rfl) (v := 1) (fun t ht hW => ⟨⟨1, (), rfl, he.symm, by rw [ht]; exact hP, va_K.moved hW.alike hK, hD⟩, hS.F ht⟩) hS.2.2 d_Ct_fitsKind_61
  · have he := he.trans (if_neg c_1)
    rcases Decidable.em (p0 = 1) with c_3 | c_3
    · have he := he.trans (if_pos c_3)
      refine lv_tableIn (off := 61) (tgt := 62) hx hb d_Ct_fitsKind_1 (by rw [c_3]; decide) (by rw [c_3]; decide) (by rw [c_3]; rfl) (by decide) ?_
      refine lv_iload_n hx hb d_Ct_fitsKind_62 rfl (lv_at hl 1 rfl) ?_
      refine wx_ci (wS := fun _ : Unit => w_E ad ca) (ws2 := fun _ : Unit => w_E ad ca) (va_runS (As := [.int p1]) (rest := []) ⟨hx, hb, hml, hown, ht⟩ (c_Ct_isSign l dC dI ad ca s.heap.size p1 _ rfl) (va_cwS 1 ht (tb_S q_185 q_186 q_42 q_187) rfl rfl rfl p_Ct_isSign.2 ⟨show 0 + 1 ≤ 1 by omega, show 8 + (1 + 11) + 0 ≤ 20 by omega⟩) (wx_preS (wc := (w_E ad ca)) hN hK hP hD [] [] rfl (by decide) rfl) rfl rfl hl.1 rfl (lv_room (Nat.le_of_ble_eq_true rfl)) d_Ct_fitsKind_63 ⟨Nat.zero_le _, Nat.zero_le _⟩) hP hD hS hA [] [] [] rfl rfl (by decide) (by decide) (by decide) (fun _ => rfl) (fun r_4 _ H locs hw_4 hP hD hS => ?_)
      subst hw_4
      have hP : va_P (dC, dI) vwCl (w_E ad ca) H := hP
      have hD : va_D A (w_E ad ca) := hD
      exact W.zret hx hb hr (by rcases isSign_01 p1 with h | h <;> rw [h] <;> rfl) (v := (f_Ct_isSign p1)) (fun t ht hW => ⟨⟨(f_Ct_isSign p1), (), rfl, he.symm, by rw [ht]; exact hP, va_K.moved hW.alike hK, hD⟩, hS.F ht⟩) hS.2.2 d_Ct_fitsKind_66
    · have he := he.trans (if_neg c_3)
      rcases Decidable.em (p0 = 2) with c_5 | c_5
      · have he := he.trans (if_pos c_5)
        refine lv_tableIn (off := 66) (tgt := 67) hx hb d_Ct_fitsKind_1 (by rw [c_5]; decide) (by rw [c_5]; decide) (by rw [c_5]; rfl) (by decide) ?_
        refine lv_iload_n hx hb d_Ct_fitsKind_67 rfl (lv_at hl 1 rfl) ?_
        refine lv_if_lt (tgt := 81) hx hb d_Ct_fitsKind_68 (by decide) (fun c_6 => ?_) (fun c_6 => ?_)
        · have he := he.trans (if_pos c_6)
          refine lv_iconst (v := 0) hx hb d_Ct_fitsKind_81 (by decide) ?_
          exact W.zret hx hb hr (by rfl) (v := 0) (fun t ht hW => ⟨⟨0, (), rfl, he.symm, by rw [ht]; exact hP, va_K.moved hW.alike hK, hD⟩, hS.F ht⟩) hS.2.2 d_Ct_fitsKind_82
        · have he := he.trans (if_neg c_6)
          refine lv_iload_n hx hb d_Ct_fitsKind_71 rfl (lv_at hl 1 rfl) ?_
          refine lv_bipush (v := 20) hx hb d_Ct_fitsKind_72 (by decide) ?_
          refine lv_icmp_ge (tgt := 81) hx hb d_Ct_fitsKind_74 (by decide) (fun c_7 => ?_) (fun c_7 => ?_)
          · have he := he.trans (if_pos c_7)
            refine lv_iconst (v := 0) hx hb d_Ct_fitsKind_81 (by decide) ?_
            exact W.zret hx hb hr (by rfl) (v := 0) (fun t ht hW => ⟨⟨0, (), rfl, he.symm, by rw [ht]; exact hP, va_K.moved hW.alike hK, hD⟩, hS.F ht⟩) hS.2.2 d_Ct_fitsKind_82
          · have he := he.trans (if_neg c_7)
            refine lv_iconst (v := 1) hx hb d_Ct_fitsKind_77 (by decide) ?_
            refine lv_goto (tgt := 82) hx hb d_Ct_fitsKind_78 (by decide) ?_
            exact W.zret hx hb hr (by rfl) (v := 1) (fun t ht hW => ⟨⟨1, (), rfl, he.symm, by rw [ht]; exact hP, va_K.moved hW.alike hK, hD⟩, hS.F ht⟩) hS.2.2 d_Ct_fitsKind_82
      · have he := he.trans (if_neg c_5)
        rcases Decidable.em (p0 = 3) with c_8 | c_8
        · have he := he.trans (if_pos c_8)
          refine lv_tableIn (off := 66) (tgt := 67) hx hb d_Ct_fitsKind_1 (by rw [c_8]; decide) (by rw [c_8]; decide) (by rw [c_8]; rfl) (by decide) ?_
          refine lv_iload_n hx hb d_Ct_fitsKind_67 rfl (lv_at hl 1 rfl) ?_
          refine lv_if_lt (tgt := 81) hx hb d_Ct_fitsKind_68 (by decide) (fun c_9 => ?_) (fun c_9 => ?_)
          · have he := he.trans (if_pos c_9)
            refine lv_iconst (v := 0) hx hb d_Ct_fitsKind_81 (by decide) ?_
            exact W.zret hx hb hr (by rfl) (v := 0) (fun t ht hW => ⟨⟨0, (), rfl, he.symm, by rw [ht]; exact hP, va_K.moved hW.alike hK, hD⟩, hS.F ht⟩) hS.2.2 d_Ct_fitsKind_82
          · have he := he.trans (if_neg c_9)
            refine lv_iload_n hx hb d_Ct_fitsKind_71 rfl (lv_at hl 1 rfl) ?_
            refine lv_bipush (v := 20) hx hb d_Ct_fitsKind_72 (by decide) ?_
            refine lv_icmp_ge (tgt := 81) hx hb d_Ct_fitsKind_74 (by decide) (fun c_10 => ?_) (fun c_10 => ?_)
            · have he := he.trans (if_pos c_10)
              refine lv_iconst (v := 0) hx hb d_Ct_fitsKind_81 (by decide) ?_
              exact W.zret hx hb hr (by rfl) (v := 0) (fun t ht hW => ⟨⟨0, (), rfl, he.symm, by rw [ht]; exact hP, va_K.moved hW.alike hK, hD⟩, hS.F ht⟩) hS.2.2 d_Ct_fitsKind_82
            · have he := he.trans (if_neg c_10)
              refine lv_iconst (v := 1) hx hb d_Ct_fitsKind_77 (by decide) ?_
              refine lv_goto (tgt := 82) hx hb d_Ct_fitsKind_78 (by decide) ?_
              exact W.zret hx hb hr (by rfl) (v := 1) (fun t ht hW => ⟨⟨1, (), rfl, he.symm, by rw [ht]; exact hP, va_K.moved hW.alike hK, hD⟩, hS.F ht⟩) hS.2.2 d_Ct_fitsKind_82
        · have he := he.trans (if_neg c_8)
          rcases Decidable.em (p0 = 4) with c_11 | c_11
          · have he := he.trans (if_pos c_11)
            refine lv_tableIn (off := 82) (tgt := 83) hx hb d_Ct_fitsKind_1 (by rw [c_11]; decide) (by rw [c_11]; decide) (by rw [c_11]; rfl) (by decide) ?_
            refine lv_iload_n hx hb d_Ct_fitsKind_83 rfl (lv_at hl 1 rfl) ?_
            refine lv_ldc (v := (-999999999)) hx hb hown (ht _ q_188) d_Ct_fitsKind_84 ?_
            refine lv_icmp_lt (tgt := 99) hx hb d_Ct_fitsKind_86 (by decide) (fun c_12 => ?_) (fun c_12 => ?_)
            · have he := he.trans (if_pos c_12)
              refine lv_iconst (v := 0) hx hb d_Ct_fitsKind_99 (by decide) ?_
              exact W.zret hx hb hr (by rfl) (v := 0) (fun t ht hW => ⟨⟨0, (), rfl, he.symm, by rw [ht]; exact hP, va_K.moved hW.alike hK, hD⟩, hS.F ht⟩) hS.2.2 d_Ct_fitsKind_100
            · have he := he.trans (if_neg c_12)
              refine lv_iload_n hx hb d_Ct_fitsKind_89 rfl (lv_at hl 1 rfl) ?_
              refine lv_ldc (v := 999999999) hx hb hown (ht _ q_189) d_Ct_fitsKind_90 ?_
              refine lv_icmp_gt (tgt := 99) hx hb d_Ct_fitsKind_92 (by decide) (fun c_13 => ?_) (fun c_13 => ?_)
              · have he := he.trans (if_pos c_13)
                refine lv_iconst (v := 0) hx hb d_Ct_fitsKind_99 (by decide) ?_
                exact W.zret hx hb hr (by rfl) (v := 0) (fun t ht hW => ⟨⟨0, (), rfl, he.symm, by rw [ht]; exact hP, va_K.moved hW.alike hK, hD⟩, hS.F ht⟩) hS.2.2 d_Ct_fitsKind_100
              · have he := he.trans (if_neg c_13)
                refine lv_iconst (v := 1) hx hb d_Ct_fitsKind_95 (by decide) ?_
                refine lv_goto (tgt := 100) hx hb d_Ct_fitsKind_96 (by decide) ?_
                exact W.zret hx hb hr (by rfl) (v := 1) (fun t ht hW => ⟨⟨1, (), rfl, he.symm, by rw [ht]; exact hP, va_K.moved hW.alike hK, hD⟩, hS.F ht⟩) hS.2.2 d_Ct_fitsKind_100
          · have he := he.trans (if_neg c_11)
            rcases Decidable.em (p0 = 5) with c_14 | c_14
            · have he := he.trans (if_pos c_14)
              refine lv_tableIn (off := 100) (tgt := 101) hx hb d_Ct_fitsKind_1 (by rw [c_14]; decide) (by rw [c_14]; decide) (by rw [c_14]; rfl) (by decide) ?_
              refine lv_iload_n hx hb d_Ct_fitsKind_101 rfl (lv_at hl 1 rfl) ?_
              refine lv_if_lt (tgt := 115) hx hb d_Ct_fitsKind_102 (by decide) (fun c_15 => ?_) (fun c_15 => ?_)
              · have he := he.trans (if_pos c_15)
                refine lv_iconst (v := 0) hx hb d_Ct_fitsKind_115 (by decide) ?_
                exact W.zret hx hb hr (by rfl) (v := 0) (fun t ht hW => ⟨⟨0, (), rfl, he.symm, by rw [ht]; exact hP, va_K.moved hW.alike hK, hD⟩, hS.F ht⟩) hS.2.2 d_Ct_fitsKind_116
              · have he := he.trans (if_neg c_15)
                refine lv_iload_n hx hb d_Ct_fitsKind_105 rfl (lv_at hl 1 rfl) ?_
                refine lv_bipush (v := 10) hx hb d_Ct_fitsKind_106 (by decide) ?_
                refine lv_icmp_gt (tgt := 115) hx hb d_Ct_fitsKind_108 (by decide) (fun c_16 => ?_) (fun c_16 => ?_)
                · have he := he.trans (if_pos c_16)
                  refine lv_iconst (v := 0) hx hb d_Ct_fitsKind_115 (by decide) ?_
                  exact W.zret hx hb hr (by rfl) (v := 0) (fun t ht hW => ⟨⟨0, (), rfl, he.symm, by rw [ht]; exact hP, va_K.moved hW.alike hK, hD⟩, hS.F ht⟩) hS.2.2 d_Ct_fitsKind_116
                · have he := he.trans (if_neg c_16)
                  refine lv_iconst (v := 1) hx hb d_Ct_fitsKind_111 (by decide) ?_
                  refine lv_goto (tgt := 116) hx hb d_Ct_fitsKind_112 (by decide) ?_
                  exact W.zret hx hb hr (by rfl) (v := 1) (fun t ht hW => ⟨⟨1, (), rfl, he.symm, by rw [ht]; exact hP, va_K.moved hW.alike hK, hD⟩, hS.F ht⟩) hS.2.2 d_Ct_fitsKind_116
            · have he := he.trans (if_neg c_14)
              rcases Decidable.em (p0 = 6) with c_17 | c_17
              · have he := he.trans (if_pos c_17)
                refine lv_tableIn (off := 51) (tgt := 52) hx hb d_Ct_fitsKind_1 (by rw [c_17]; decide) (by rw [c_17]; decide) (by rw [c_17]; rfl) (by decide) ?_
                refine lv_iload_n hx hb d_Ct_fitsKind_52 rfl (lv_at hl 1 rfl) ?_
                refine lv_if_ne (tgt := 60) hx hb d_Ct_fitsKind_53 (by decide) (fun c_18 => ?_) (fun c_18 => ?_)
                · have he := he.trans (if_neg c_18)
                  refine lv_iconst (v := 0) hx hb d_Ct_fitsKind_60 (by decide) ?_
                  exact W.zret hx hb hr (by rfl) (v := 0) (fun t ht hW => ⟨⟨0, (), rfl, he.symm, by rw [ht]; exact hP, va_K.moved hW.alike hK, hD⟩, hS.F ht⟩) hS.2.2 d_Ct_fitsKind_61
                · have he := he.trans (if_pos c_18)
                  refine lv_iconst (v := 1) hx hb d_Ct_fitsKind_56 (by decide) ?_
                  refine lv_goto (tgt := 61) hx hb d_Ct_fitsKind_57 (by decide) ?_
                  exact W.zret hx hb hr (by rfl) (v := 1) (fun t ht hW => ⟨⟨1, (), rfl, he.symm, by rw [ht]; exact hP, va_K.moved hW.alike hK, hD⟩, hS.F ht⟩) hS.2.2 d_Ct_fitsKind_61
              · have he := he.trans (if_neg c_17)
                rcases Decidable.em (p0 = 7) with c_19 | c_19
                · have he := he.trans (if_pos c_19)
                  refine lv_tableIn (off := 51) (tgt := 52) hx hb d_Ct_fitsKind_1 (by rw [c_19]; decide) (by rw [c_19]; decide) (by rw [c_19]; rfl) (by decide) ?_
                  refine lv_iload_n hx hb d_Ct_fitsKind_52 rfl (lv_at hl 1 rfl) ?_
                  refine lv_if_ne (tgt := 60) hx hb d_Ct_fitsKind_53 (by decide) (fun c_20 => ?_) (fun c_20 => ?_)
                  · have he := he.trans (if_neg c_20)
                    refine lv_iconst (v := 0) hx hb d_Ct_fitsKind_60 (by decide) ?_
                    exact W.zret hx hb hr (by rfl) (v := 0) (fun t ht hW => ⟨⟨0, (), rfl, he.symm, by rw [ht]; exact hP, va_K.moved hW.alike hK, hD⟩, hS.F ht⟩) hS.2.2 d_Ct_fitsKind_61
                  · have he := he.trans (if_pos c_20)
                    refine lv_iconst (v := 1) hx hb d_Ct_fitsKind_56 (by decide) ?_
                    refine lv_goto (tgt := 61) hx hb d_Ct_fitsKind_57 (by decide) ?_
                    exact W.zret hx hb hr (by rfl) (v := 1) (fun t ht hW => ⟨⟨1, (), rfl, he.symm, by rw [ht]; exact hP, va_K.moved hW.alike hK, hD⟩, hS.F ht⟩) hS.2.2 d_Ct_fitsKind_61
                · have he := he.trans (if_neg c_19)
                  rcases Decidable.em (p0 = 8) with c_21 | c_21
                  · have he := he.trans (if_pos c_21)
                    refine lv_tableIn (off := 51) (tgt := 52) hx hb d_Ct_fitsKind_1 (by rw [c_21]; decide) (by rw [c_21]; decide) (by rw [c_21]; rfl) (by decide) ?_
                    refine lv_iload_n hx hb d_Ct_fitsKind_52 rfl (lv_at hl 1 rfl) ?_
                    refine lv_if_ne (tgt := 60) hx hb d_Ct_fitsKind_53 (by decide) (fun c_22 => ?_) (fun c_22 => ?_)
                    · have he := he.trans (if_neg c_22)
                      refine lv_iconst (v := 0) hx hb d_Ct_fitsKind_60 (by decide) ?_
                      exact W.zret hx hb hr (by rfl) (v := 0) (fun t ht hW => ⟨⟨0, (), rfl, he.symm, by rw [ht]; exact hP, va_K.moved hW.alike hK, hD⟩, hS.F ht⟩) hS.2.2 d_Ct_fitsKind_61
                    · have he := he.trans (if_pos c_22)
                      refine lv_iconst (v := 1) hx hb d_Ct_fitsKind_56 (by decide) ?_
                      refine lv_goto (tgt := 61) hx hb d_Ct_fitsKind_57 (by decide) ?_
                      exact W.zret hx hb hr (by rfl) (v := 1) (fun t ht hW => ⟨⟨1, (), rfl, he.symm, by rw [ht]; exact hP, va_K.moved hW.alike hK, hD⟩, hS.F ht⟩) hS.2.2 d_Ct_fitsKind_61
                  · have he := he.trans (if_neg c_21)
                    have ec_1 := lv_neT (a := 0) c_1 (by decide)
                    have ec_3 := lv_neT (a := 1) c_3 (by decide)
                    have ec_5 := lv_neT (a := 2) c_5 (by decide)
                    have ec_8 := lv_neT (a := 3) c_8 (by decide)
                    have ec_11 := lv_neT (a := 4) c_11 (by decide)
                    have ec_14 := lv_neT (a := 5) c_14 (by decide)
                    have ec_17 := lv_neT (a := 6) c_17 (by decide)
                    have ec_19 := lv_neT (a := 7) c_19 (by decide)
                    have ec_21 := lv_neT (a := 8) c_21 (by decide)
                    refine lv_tableOut (tgt := 117) hx hb d_Ct_fitsKind_1 (by omega) (by decide) ?_
                    refine lv_iconst (v := 0) hx hb d_Ct_fitsKind_117 (by decide) ?_
                    exact W.zret hx hb hr (by rfl) (v := 0) (fun t ht hW => ⟨⟨0, (), rfl, he.symm, by rw [ht]; exact hP, va_K.moved hW.alike hK, hD⟩, hS.F ht⟩) hS.2.2 d_Ct_fitsKind_118
noncomputable def f_Ct_turn (n0 : Nat) (f : (Nat → Int32)) (p0 : Int32) (p1 : Int32) : (Int32 × (Nat → Int32)) := (if p0 < 0 then ((-2), f) else (if p0 < (Int32.ofNat n0) then (1, (upd f p0.toNatClampNeg (vp_nar .boolean p1))) else ((-2), f)))
set_option maxHeartbeats 4000000 in
set_option maxRecDepth 100000 in
theorem c_Ct_turn (l : Launch) (dC : Nat → ClassId) (dI : Nat → Nat → Nat) (ad : Nat → Nat) (ca : Nat → ClassId) (a0 : Nat) (k0 : ClassId) (n0 : Nat) (sz : Nat) (f : (Nat → Int32)) (p0 : Int32) (p1 : Int32) (hpre : n0 < 2147483648) (F : (Int32 × (Nat → Int32))) (he : F = f_Ct_turn n0 f p0 p1) : wx_Mi l y_Ct_turn ws_Ct_turn ({ frames := 0, cells := 0, slots := 0, locals := 0 } : Room) (dC, dI) vwCl (t_Z ca a0 k0 n0) [.ref a0, .int p0, .int p1] (w_Z ad ca a0 k0 n0 f) sz (fun v : (Nat → Int32) => w_Z ad ca a0 k0 n0 v) (fun (r : Int32) (v : (Nat → Int32)) => (r, v) = F) := by
  refine Met.ofW (cc := b_Ct_turn) (maxL := 3) (ret := some .int) (by decide) rfl ?_
  intro p e s m args below meth c s₁ B hml hv
  obtain ⟨rfl, hsz, hP, hK, hD0, hN⟩ := hv
  have hx := B.exec
  have hb := B.bytes
  have hr := B.returns
  have hts := atoms_spec (ws := ws_Ct_turn) B.pre
  have ht : ∀ w ∈ TB, w.before _ s = true := fun w h => hts w (List.mem_cons_of_mem _ h)
  have hown : s.vm.findClass R_Ct = some m.cls := findClass_of_methodNamed B.named
  have hlocks := B.notSynchronized
  subst hsz
  have hD := hD0.self (sz := s.heap.size)
  generalize hAe : va_A (w_Z ad ca a0 k0 n0 f) s.heap.size = A at hD ⊢
  have hA : ∀ q : Nat, s.heap.size ≤ q → A q := fun q h => by rw [← hAe]; exact Or.inr h
  have hS : va_S A s.heap s.heap [] := va_S.rf
  have hl := lv_entry ([.ref a0, .int p0, .int p1]) (n := 3) (Nat.le_of_ble_eq_true rfl)
  rw [lg_entry_eq]
  generalize (lg_sl ([.ref a0, .int p0, .int p1]) ++ List.replicate (3 - (lg_sl ([.ref a0, .int p0, .int p1])).length) Slot.unset).toArray = ls at hl ⊢
  have hl : lv_has ls 3 [(0, .ref a0), (1, .int p0), (2, .int p1)] := hl
  unfold f_Ct_turn at he
  refine lv_iload_n hx hb d_Ct_turn_0 rfl (lv_at hl 1 rfl) ?_
  refine lv_if_lt (tgt := 10) hx hb d_Ct_turn_1 (by decide) (fun c_1 => ?_) (fun c_1 => ?_)
  · have he := he.trans (if_pos c_1)
    refine lv_bipush (v := (-2)) hx hb d_Ct_turn_10 (by decide) ?_
    exact W.iret hx hb hr (v := (-2)) (fun t ht hW => ⟨⟨(-2), f, rfl, he.symm, by rw [ht]; exact hP, va_K.moved hW.alike hK, hD⟩, hS.F ht⟩) hS.2.2 d_Ct_turn_12
  · have he := he.trans (if_neg c_1)
    refine lv_iload_n hx hb d_Ct_turn_4 rfl (lv_at hl 1 rfl) ?_
    refine lv_aload_n hx hb d_Ct_turn_5 rfl (lv_at hl 0 rfl) ?_
    refine va_alen hx hb hK hP 0 0 rfl rfl (v := (Int32.ofNat n0)) rfl d_Ct_turn_6 ?_
    refine lv_icmp_lt (tgt := 13) hx hb d_Ct_turn_7 (by decide) (fun c_2 => ?_) (fun c_2 => ?_)
    · have he := he.trans (if_pos c_2)
      refine lv_aload_n hx hb d_Ct_turn_13 rfl (lv_at hl 0 rfl) ?_
      refine lv_iload_n hx hb d_Ct_turn_14 rfl (lv_at hl 1 rfl) ?_
      refine lv_iload_n hx hb d_Ct_turn_15 rfl (lv_at hl 2 rfl) ?_
      refine va_zast hx hb hK hP hD hS 0 0 rfl rfl (in_turn hpre c_1 c_2) d_Ct_turn_16 (fun H locs hP hD hS => ?_)
      have hP : va_P (dC, dI) vwCl (w_Z ad ca a0 k0 n0 (upd f p0.toNatClampNeg (vp_nar .boolean p1))) H := hP
      have hD : va_D A (w_Z ad ca a0 k0 n0 (upd f p0.toNatClampNeg (vp_nar .boolean p1))) := hD
      refine lv_iconst (v := 1) hx hb d_Ct_turn_17 (by decide) ?_
      exact W.iret hx hb hr (v := 1) (fun t ht hW => ⟨⟨1, (upd f p0.toNatClampNeg (vp_nar .boolean p1)), rfl, he.symm, by rw [ht]; exact hP, va_K.moved hW.alike hK, hD⟩, hS.F ht⟩) hS.2.2 d_Ct_turn_18
    · have he := he.trans (if_neg c_2)
      refine lv_bipush (v := (-2)) hx hb d_Ct_turn_10 (by decide) ?_
      exact W.iret hx hb hr (v := (-2)) (fun t ht hW => ⟨⟨(-2), f, rfl, he.symm, by rw [ht]; exact hP, va_K.moved hW.alike hK, hD⟩, hS.F ht⟩) hS.2.2 d_Ct_turn_12
noncomputable def f_Ct_meaning (z : TCt) (p0 : Int32) (p1 : Int32) (p2 : Int32) : (Int32 × TCt) := (if p0 < 0 then ((-1), z) else (if p0 < 40 then (if p1 = 2 then (if (f_Bk_hasBody (TCt_bk z) p2) = 0 then ((-1), z) else (if (f_Ct_fitsKind p1 p2) = 0 then ((-2), z) else (let v_8 := f_Bk_define (TCt_bk z) p0 p1 p2; (1, (TCt_set_bk z v_8))))) else (if p1 = 3 then (if (f_Bk_hasBody (TCt_bk z) p2) = 0 then ((-1), z) else (if (f_Ct_fitsKind p1 p2) = 0 then ((-2), z) else (let v_17 := f_Bk_define (TCt_bk z) p0 p1 p2; (1, (TCt_set_bk z v_17))))) else (if (f_Ct_fitsKind p1 p2) = 0 then ((-2), z) else (let v_12 := f_Bk_define (TCt_bk z) p0 p1 p2; (1, (TCt_set_bk z v_12)))))) else ((-1), z)))
set_option maxHeartbeats 4000000 in
set_option maxRecDepth 100000 in
theorem c_Ct_meaning (l : Launch) (dC : Nat → ClassId) (dI : Nat → Nat → Nat) (ad : Nat → Nat) (ca : Nat → ClassId) (sz : Nat) (z : TCt) (p0 : Int32) (p1 : Int32) (p2 : Int32) (F : (Int32 × TCt)) (he : F = f_Ct_meaning z p0 p1 p2) : wx_Mi l y_Ct_meaning ws_Ct_meaning ({ frames := 2, cells := 0, slots := 0, locals := 41 } : Room) (dC, dI) vwCl (t_C ca) [.ref (ad 15), .int p0, .int p1, .int p2] (w_C ad ca z) sz (fun v : TCt => w_C ad ca v) (fun (r : Int32) (v : TCt) => (r, v) = F) := by
  refine Met.ofW (cc := b_Ct_meaning) (maxL := 4) (ret := some .int) (by decide) rfl ?_
  intro p e s m args below meth c s₁ B hml hv
  obtain ⟨rfl, hsz, hP, hK, hD0, hN⟩ := hv
  have hx := B.exec
  have hb := B.bytes
  have hr := B.returns
  have hts := atoms_spec (ws := ws_Ct_meaning) B.pre
  have ht : ∀ w ∈ TB, w.before _ s = true := fun w h => hts w (List.mem_cons_of_mem _ h)
  have hown : s.vm.findClass R_Ct = some m.cls := findClass_of_methodNamed B.named
  have hlocks := B.notSynchronized
  subst hsz
  have hD := hD0.self (sz := s.heap.size)
  generalize hAe : va_A (w_C ad ca z) s.heap.size = A at hD ⊢
  have hA : ∀ q : Nat, s.heap.size ≤ q → A q := fun q h => by rw [← hAe]; exact Or.inr h
  have hS : va_S A s.heap s.heap [] := va_S.rf
  have hl := lv_entry ([.ref (ad 15), .int p0, .int p1, .int p2]) (n := 4) (Nat.le_of_ble_eq_true rfl)
  rw [lg_entry_eq]
  generalize (lg_sl ([.ref (ad 15), .int p0, .int p1, .int p2]) ++ List.replicate (4 - (lg_sl ([.ref (ad 15), .int p0, .int p1, .int p2])).length) Slot.unset).toArray = ls at hl ⊢
  have hl : lv_has ls 4 [(0, .ref (ad 15)), (1, .int p0), (2, .int p1), (3, .int p2)] := hl
  unfold f_Ct_meaning at he
  refine lv_iload_n hx hb d_Ct_meaning_0 rfl (lv_at hl 1 rfl) ?_
  refine lv_if_lt (tgt := 10) hx hb d_Ct_meaning_1 (by decide) (fun c_1 => ?_) (fun c_1 => ?_)
  · have he := he.trans (if_pos c_1)
    refine lv_iconst (v := (-1)) hx hb d_Ct_meaning_10 (by decide) ?_
    exact W.iret hx hb hr (v := (-1)) (fun t ht hW => ⟨⟨(-1), z, rfl, he.symm, by rw [ht]; exact hP, va_K.moved hW.alike hK, hD⟩, hS.F ht⟩) hS.2.2 d_Ct_meaning_11
  · have he := he.trans (if_neg c_1)
    refine lv_iload_n hx hb d_Ct_meaning_4 rfl (lv_at hl 1 rfl) ?_
    refine lv_bipush (v := 40) hx hb d_Ct_meaning_5 (by decide) ?_
    refine lv_icmp_lt (tgt := 12) hx hb d_Ct_meaning_7 (by decide) (fun c_2 => ?_) (fun c_2 => ?_)
    · have he := he.trans (if_pos c_2)
      refine lv_iload_n hx hb d_Ct_meaning_12 rfl (lv_at hl 2 rfl) ?_
      refine lv_iconst (v := 2) hx hb d_Ct_meaning_13 (by decide) ?_
      refine lv_icmp_eq (tgt := 22) hx hb d_Ct_meaning_14 (by decide) (fun c_3 => ?_) (fun c_3 => ?_)
      · have he := he.trans (if_pos c_3)
        refine lv_aload_n hx hb d_Ct_meaning_22 rfl (lv_at hl 0 rfl) ?_
        refine va_get (D := (dC, dI)) (ci := 3) (v := .ref (ad 8)) (C := R_Ct) (T := T_Ct) (N := 2) hx hb ht i_Ct hown hK hP 0 rfl rfl 0 (by decide) (ht _ q_167) (fun _ h9 => h9) rfl d_Ct_meaning_23 ?_
        refine lv_iload_n hx hb d_Ct_meaning_26 rfl (lv_at hl 3 rfl) ?_
        refine wx_ci (wS := fun _ : Unit => w_B ad ca (TCt_bk z)) (ws2 := fun _ : Unit => w_C ad ca z) (va_runV (As := [.int p2]) (rest := []) ⟨hx, hb, hml, hown, ht⟩ (c_Bk_hasBody l dC dI ad ca s.heap.size (TCt_bk z) p2 _ rfl) (cwV 1 ht (tb_V q_178 q_179 q_180 q_43 q_181) rfl rfl rfl p_Bk_hasBody ⟨show 0 + 1 ≤ 2 by omega, show 8 + (2 + 11) + 0 ≤ 41 by omega⟩) (wx_preV (wc := (w_B ad ca (TCt_bk z))) hN hK hP hD [9, 10, 11, 12, 13, 14, 15] [6, 7, 8, 9, 10, 11] rfl (by decide) rfl (ci := 0) (q0 := 0) rfl rfl) rfl rfl hl.1 rfl (lv_room (Nat.le_of_ble_eq_true rfl)) d_Ct_meaning_27 ⟨Nat.zero_le _, Nat.zero_le _⟩) hP hD hS hA [9, 10, 11, 12, 13, 14, 15] [0, 1, 2, 3, 4, 5, 6, 7, 8] [0, 1, 2, 3, 4, 5, 6, 7, 8, 9, 10, 11, 12, 13, 14, 15] rfl rfl (by decide) (by decide) (by decide) (fun _ => rfl) (fun r_4 _ H locs hw_4 hP hD hS => ?_)
        subst hw_4
        have hP : va_P (dC, dI) vwCl (w_C ad ca z) H := hP
        have hD : va_D A (w_C ad ca z) := hD
        refine lv_if_ne (tgt := 35) hx hb d_Ct_meaning_30 (by decide) (fun c_5 => ?_) (fun c_5 => ?_)
        · have he := he.trans (if_neg c_5)
          refine lv_iload_n hx hb d_Ct_meaning_35 rfl (lv_at hl 2 rfl) ?_
          refine lv_iload_n hx hb d_Ct_meaning_36 rfl (lv_at hl 3 rfl) ?_
          refine wx_ci (wS := fun _ : Unit => w_E ad ca) (ws2 := fun _ : Unit => w_C ad ca z) (va_runS (As := [.int p1, .int p2]) (rest := []) ⟨hx, hb, hml, hown, ht⟩ (c_Ct_fitsKind l dC dI ad ca H.size p1 p2 _ rfl) (va_cwS 2 ht (tb_S q_182 q_183 q_42 q_184) rfl rfl rfl p_Ct_fitsKind.2 ⟨show 1 + 1 ≤ 2 by omega, show 8 + (2 + 11) + 20 ≤ 41 by omega⟩) (wx_preS (wc := (w_E ad ca)) hN hK hP hD [] [] rfl (by decide) rfl) rfl rfl hl.1 rfl (lv_room (Nat.le_of_ble_eq_true rfl)) d_Ct_meaning_37 ⟨Nat.zero_le _, Nat.zero_le _⟩) hP hD hS hA [] [0, 1, 2, 3, 4, 5, 6, 7, 8, 9, 10, 11, 12, 13, 14, 15] [0, 1, 2, 3, 4, 5, 6, 7, 8, 9, 10, 11, 12, 13, 14, 15] rfl rfl (by decide) (by decide) (by decide) (fun _ => rfl) (fun r_6 _ H locs hw_6 hP hD hS => ?_)
          subst hw_6
          have hP : va_P (dC, dI) vwCl (w_C ad ca z) H := hP
          have hD : va_D A (w_C ad ca z) := hD
          refine lv_if_ne (tgt := 46) hx hb d_Ct_meaning_40 (by decide) (fun c_7 => ?_) (fun c_7 => ?_)
          · have he := he.trans (if_neg c_7)
            refine lv_aload_n hx hb d_Ct_meaning_46 rfl (lv_at hl 0 rfl) ?_
            refine va_get (D := (dC, dI)) (ci := 3) (v := .ref (ad 8)) (C := R_Ct) (T := T_Ct) (N := 2) hx hb ht i_Ct hown hK hP 0 rfl rfl 0 (by decide) (ht _ q_167) (fun _ h9 => h9) rfl d_Ct_meaning_47 ?_
            refine lv_iload_n hx hb d_Ct_meaning_50 rfl (lv_at hl 1 rfl) ?_
            refine lv_iload_n hx hb d_Ct_meaning_51 rfl (lv_at hl 2 rfl) ?_
            refine lv_iload_n hx hb d_Ct_meaning_52 rfl (lv_at hl 3 rfl) ?_
            refine wx_cv (wS := fun v : TBk => w_B ad ca v) (ws2 := fun v : TBk => w_C ad ca (TCt_set_bk z v)) (va_runV (As := [.int p0, .int p1, .int p2]) (rest := []) ⟨hx, hb, hml, hown, ht⟩ (c_Bk_define l dC dI ad ca H.size (TCt_bk z) p0 p1 p2 _ rfl) (cwV 3 ht (tb_V q_190 q_191 q_192 q_43 q_193) rfl rfl rfl p_Bk_define ⟨show 0 + 1 ≤ 2 by omega, show 8 + (4 + 11) + 0 ≤ 41 by omega⟩) (wx_preV (wc := (w_B ad ca (TCt_bk z))) hN hK hP hD [9, 10, 11, 12, 13, 14, 15] [6, 7, 8, 9, 10, 11] rfl (by decide) rfl (ci := 0) (q0 := 0) rfl rfl) rfl rfl hl.1 rfl (lv_room (Nat.le_of_ble_eq_true rfl)) d_Ct_meaning_53 ⟨Nat.zero_le _, Nat.zero_le _⟩) hP hD hS hA [9, 10, 11, 12, 13, 14, 15] [0, 1, 2, 3, 4, 5, 6, 7, 8] [0, 1, 2, 3, 4, 5, 6, 7, 8, 9, 10, 11, 12, 13, 14, 15] rfl rfl (by decide) (by decide) (by decide) (fun _ => rfl) (fun v_8 H locs hw_8 hP hD hS => ?_)
            have hP : va_P (dC, dI) vwCl (w_C ad ca (TCt_set_bk z v_8)) H := hP
            have hD : va_D A (w_C ad ca (TCt_set_bk z v_8)) := hD
            rw [← hw_8] at he
            try dsimp only at he
            refine lv_iconst (v := 1) hx hb d_Ct_meaning_56 (by decide) ?_
            exact W.iret hx hb hr (v := 1) (fun t ht hW => ⟨⟨1, (TCt_set_bk z v_8), rfl, he.symm, by rw [ht]; exact hP, va_K.moved hW.alike hK, hD⟩, hS.F ht⟩) hS.2.2 d_Ct_meaning_57
          · have he := he.trans (if_pos c_7)
            refine lv_bipush (v := (-2)) hx hb d_Ct_meaning_43 (by decide) ?_
            exact W.iret hx hb hr (v := (-2)) (fun t ht hW => ⟨⟨(-2), z, rfl, he.symm, by rw [ht]; exact hP, va_K.moved hW.alike hK, hD⟩, hS.F ht⟩) hS.2.2 d_Ct_meaning_45
        · have he := he.trans (if_pos c_5)
          refine lv_iconst (v := (-1)) hx hb d_Ct_meaning_33 (by decide) ?_
          exact W.iret hx hb hr (v := (-1)) (fun t ht hW => ⟨⟨(-1), z, rfl, he.symm, by rw [ht]; exact hP, va_K.moved hW.alike hK, hD⟩, hS.F ht⟩) hS.2.2 d_Ct_meaning_34
      · have he := he.trans (if_neg c_3)
        refine lv_iload_n hx hb d_Ct_meaning_17 rfl (lv_at hl 2 rfl) ?_
        refine lv_iconst (v := 3) hx hb d_Ct_meaning_18 (by decide) ?_
        refine lv_icmp_ne (tgt := 35) hx hb d_Ct_meaning_19 (by decide) (fun c_9 => ?_) (fun c_9 => ?_)
        · have he := he.trans (if_neg c_9)
          refine lv_iload_n hx hb d_Ct_meaning_35 rfl (lv_at hl 2 rfl) ?_
          refine lv_iload_n hx hb d_Ct_meaning_36 rfl (lv_at hl 3 rfl) ?_
          refine wx_ci (wS := fun _ : Unit => w_E ad ca) (ws2 := fun _ : Unit => w_C ad ca z) (va_runS (As := [.int p1, .int p2]) (rest := []) ⟨hx, hb, hml, hown, ht⟩ (c_Ct_fitsKind l dC dI ad ca s.heap.size p1 p2 _ rfl) (va_cwS 2 ht (tb_S q_182 q_183 q_42 q_184) rfl rfl rfl p_Ct_fitsKind.2 ⟨show 1 + 1 ≤ 2 by omega, show 8 + (2 + 11) + 20 ≤ 41 by omega⟩) (wx_preS (wc := (w_E ad ca)) hN hK hP hD [] [] rfl (by decide) rfl) rfl rfl hl.1 rfl (lv_room (Nat.le_of_ble_eq_true rfl)) d_Ct_meaning_37 ⟨Nat.zero_le _, Nat.zero_le _⟩) hP hD hS hA [] [0, 1, 2, 3, 4, 5, 6, 7, 8, 9, 10, 11, 12, 13, 14, 15] [0, 1, 2, 3, 4, 5, 6, 7, 8, 9, 10, 11, 12, 13, 14, 15] rfl rfl (by decide) (by decide) (by decide) (fun _ => rfl) (fun r_10 _ H locs hw_10 hP hD hS => ?_)
          subst hw_10
          have hP : va_P (dC, dI) vwCl (w_C ad ca z) H := hP
          have hD : va_D A (w_C ad ca z) := hD
          refine lv_if_ne (tgt := 46) hx hb d_Ct_meaning_40 (by decide) (fun c_11 => ?_) (fun c_11 => ?_)
          · have he := he.trans (if_neg c_11)
            refine lv_aload_n hx hb d_Ct_meaning_46 rfl (lv_at hl 0 rfl) ?_
            refine va_get (D := (dC, dI)) (ci := 3) (v := .ref (ad 8)) (C := R_Ct) (T := T_Ct) (N := 2) hx hb ht i_Ct hown hK hP 0 rfl rfl 0 (by decide) (ht _ q_167) (fun _ h9 => h9) rfl d_Ct_meaning_47 ?_
            refine lv_iload_n hx hb d_Ct_meaning_50 rfl (lv_at hl 1 rfl) ?_
            refine lv_iload_n hx hb d_Ct_meaning_51 rfl (lv_at hl 2 rfl) ?_
            refine lv_iload_n hx hb d_Ct_meaning_52 rfl (lv_at hl 3 rfl) ?_
            refine wx_cv (wS := fun v : TBk => w_B ad ca v) (ws2 := fun v : TBk => w_C ad ca (TCt_set_bk z v)) (va_runV (As := [.int p0, .int p1, .int p2]) (rest := []) ⟨hx, hb, hml, hown, ht⟩ (c_Bk_define l dC dI ad ca H.size (TCt_bk z) p0 p1 p2 _ rfl) (cwV 3 ht (tb_V q_190 q_191 q_192 q_43 q_193) rfl rfl rfl p_Bk_define ⟨show 0 + 1 ≤ 2 by omega, show 8 + (4 + 11) + 0 ≤ 41 by omega⟩) (wx_preV (wc := (w_B ad ca (TCt_bk z))) hN hK hP hD [9, 10, 11, 12, 13, 14, 15] [6, 7, 8, 9, 10, 11] rfl (by decide) rfl (ci := 0) (q0 := 0) rfl rfl) rfl rfl hl.1 rfl (lv_room (Nat.le_of_ble_eq_true rfl)) d_Ct_meaning_53 ⟨Nat.zero_le _, Nat.zero_le _⟩) hP hD hS hA [9, 10, 11, 12, 13, 14, 15] [0, 1, 2, 3, 4, 5, 6, 7, 8] [0, 1, 2, 3, 4, 5, 6, 7, 8, 9, 10, 11, 12, 13, 14, 15] rfl rfl (by decide) (by decide) (by decide) (fun _ => rfl) (fun v_12 H locs hw_12 hP hD hS => ?_)
            have hP : va_P (dC, dI) vwCl (w_C ad ca (TCt_set_bk z v_12)) H := hP
            have hD : va_D A (w_C ad ca (TCt_set_bk z v_12)) := hD
            rw [← hw_12] at he
            try dsimp only at he
            refine lv_iconst (v := 1) hx hb d_Ct_meaning_56 (by decide) ?_
            exact W.iret hx hb hr (v := 1) (fun t ht hW => ⟨⟨1, (TCt_set_bk z v_12), rfl, he.symm, by rw [ht]; exact hP, va_K.moved hW.alike hK, hD⟩, hS.F ht⟩) hS.2.2 d_Ct_meaning_57
          · have he := he.trans (if_pos c_11)
            refine lv_bipush (v := (-2)) hx hb d_Ct_meaning_43 (by decide) ?_
            exact W.iret hx hb hr (v := (-2)) (fun t ht hW => ⟨⟨(-2), z, rfl, he.symm, by rw [ht]; exact hP, va_K.moved hW.alike hK, hD⟩, hS.F ht⟩) hS.2.2 d_Ct_meaning_45
        · have he := he.trans (if_pos c_9)
          refine lv_aload_n hx hb d_Ct_meaning_22 rfl (lv_at hl 0 rfl) ?_
          refine va_get (D := (dC, dI)) (ci := 3) (v := .ref (ad 8)) (C := R_Ct) (T := T_Ct) (N := 2) hx hb ht i_Ct hown hK hP 0 rfl rfl 0 (by decide) (ht _ q_167) (fun _ h9 => h9) rfl d_Ct_meaning_23 ?_
          refine lv_iload_n hx hb d_Ct_meaning_26 rfl (lv_at hl 3 rfl) ?_
          refine wx_ci (wS := fun _ : Unit => w_B ad ca (TCt_bk z)) (ws2 := fun _ : Unit => w_C ad ca z) (va_runV (As := [.int p2]) (rest := []) ⟨hx, hb, hml, hown, ht⟩ (c_Bk_hasBody l dC dI ad ca s.heap.size (TCt_bk z) p2 _ rfl) (cwV 1 ht (tb_V q_178 q_179 q_180 q_43 q_181) rfl rfl rfl p_Bk_hasBody ⟨show 0 + 1 ≤ 2 by omega, show 8 + (2 + 11) + 0 ≤ 41 by omega⟩) (wx_preV (wc := (w_B ad ca (TCt_bk z))) hN hK hP hD [9, 10, 11, 12, 13, 14, 15] [6, 7, 8, 9, 10, 11] rfl (by decide) rfl (ci := 0) (q0 := 0) rfl rfl) rfl rfl hl.1 rfl (lv_room (Nat.le_of_ble_eq_true rfl)) d_Ct_meaning_27 ⟨Nat.zero_le _, Nat.zero_le _⟩) hP hD hS hA [9, 10, 11, 12, 13, 14, 15] [0, 1, 2, 3, 4, 5, 6, 7, 8] [0, 1, 2, 3, 4, 5, 6, 7, 8, 9, 10, 11, 12, 13, 14, 15] rfl rfl (by decide) (by decide) (by decide) (fun _ => rfl) (fun r_13 _ H locs hw_13 hP hD hS => ?_)
          subst hw_13
          have hP : va_P (dC, dI) vwCl (w_C ad ca z) H := hP
          have hD : va_D A (w_C ad ca z) := hD
          refine lv_if_ne (tgt := 35) hx hb d_Ct_meaning_30 (by decide) (fun c_14 => ?_) (fun c_14 => ?_)
          · have he := he.trans (if_neg c_14)
            refine lv_iload_n hx hb d_Ct_meaning_35 rfl (lv_at hl 2 rfl) ?_
            refine lv_iload_n hx hb d_Ct_meaning_36 rfl (lv_at hl 3 rfl) ?_
            refine wx_ci (wS := fun _ : Unit => w_E ad ca) (ws2 := fun _ : Unit => w_C ad ca z) (va_runS (As := [.int p1, .int p2]) (rest := []) ⟨hx, hb, hml, hown, ht⟩ (c_Ct_fitsKind l dC dI ad ca H.size p1 p2 _ rfl) (va_cwS 2 ht (tb_S q_182 q_183 q_42 q_184) rfl rfl rfl p_Ct_fitsKind.2 ⟨show 1 + 1 ≤ 2 by omega, show 8 + (2 + 11) + 20 ≤ 41 by omega⟩) (wx_preS (wc := (w_E ad ca)) hN hK hP hD [] [] rfl (by decide) rfl) rfl rfl hl.1 rfl (lv_room (Nat.le_of_ble_eq_true rfl)) d_Ct_meaning_37 ⟨Nat.zero_le _, Nat.zero_le _⟩) hP hD hS hA [] [0, 1, 2, 3, 4, 5, 6, 7, 8, 9, 10, 11, 12, 13, 14, 15] [0, 1, 2, 3, 4, 5, 6, 7, 8, 9, 10, 11, 12, 13, 14, 15] rfl rfl (by decide) (by decide) (by decide) (fun _ => rfl) (fun r_15 _ H locs hw_15 hP hD hS => ?_)
            subst hw_15
            have hP : va_P (dC, dI) vwCl (w_C ad ca z) H := hP
            have hD : va_D A (w_C ad ca z) := hD
            refine lv_if_ne (tgt := 46) hx hb d_Ct_meaning_40 (by decide) (fun c_16 => ?_) (fun c_16 => ?_)
            · have he := he.trans (if_neg c_16)
              refine lv_aload_n hx hb d_Ct_meaning_46 rfl (lv_at hl 0 rfl) ?_
              refine va_get (D := (dC, dI)) (ci := 3) (v := .ref (ad 8)) (C := R_Ct) (T := T_Ct) (N := 2) hx hb ht i_Ct hown hK hP 0 rfl rfl 0 (by decide) (ht _ q_167) (fun _ h9 => h9) rfl d_Ct_meaning_47 ?_
              refine lv_iload_n hx hb d_Ct_meaning_50 rfl (lv_at hl 1 rfl) ?_
              refine lv_iload_n hx hb d_Ct_meaning_51 rfl (lv_at hl 2 rfl) ?_
              refine lv_iload_n hx hb d_Ct_meaning_52 rfl (lv_at hl 3 rfl) ?_
              refine wx_cv (wS := fun v : TBk => w_B ad ca v) (ws2 := fun v : TBk => w_C ad ca (TCt_set_bk z v)) (va_runV (As := [.int p0, .int p1, .int p2]) (rest := []) ⟨hx, hb, hml, hown, ht⟩ (c_Bk_define l dC dI ad ca H.size (TCt_bk z) p0 p1 p2 _ rfl) (cwV 3 ht (tb_V q_190 q_191 q_192 q_43 q_193) rfl rfl rfl p_Bk_define ⟨show 0 + 1 ≤ 2 by omega, show 8 + (4 + 11) + 0 ≤ 41 by omega⟩) (wx_preV (wc := (w_B ad ca (TCt_bk z))) hN hK hP hD [9, 10, 11, 12, 13, 14, 15] [6, 7, 8, 9, 10, 11] rfl (by decide) rfl (ci := 0) (q0 := 0) rfl rfl) rfl rfl hl.1 rfl (lv_room (Nat.le_of_ble_eq_true rfl)) d_Ct_meaning_53 ⟨Nat.zero_le _, Nat.zero_le _⟩) hP hD hS hA [9, 10, 11, 12, 13, 14, 15] [0, 1, 2, 3, 4, 5, 6, 7, 8] [0, 1, 2, 3, 4, 5, 6, 7, 8, 9, 10, 11, 12, 13, 14, 15] rfl rfl (by decide) (by decide) (by decide) (fun _ => rfl) (fun v_17 H locs hw_17 hP hD hS => ?_)
              have hP : va_P (dC, dI) vwCl (w_C ad ca (TCt_set_bk z v_17)) H := hP
              have hD : va_D A (w_C ad ca (TCt_set_bk z v_17)) := hD
              rw [← hw_17] at he
              try dsimp only at he
              refine lv_iconst (v := 1) hx hb d_Ct_meaning_56 (by decide) ?_
              exact W.iret hx hb hr (v := 1) (fun t ht hW => ⟨⟨1, (TCt_set_bk z v_17), rfl, he.symm, by rw [ht]; exact hP, va_K.moved hW.alike hK, hD⟩, hS.F ht⟩) hS.2.2 d_Ct_meaning_57
            · have he := he.trans (if_pos c_16)
              refine lv_bipush (v := (-2)) hx hb d_Ct_meaning_43 (by decide) ?_
              exact W.iret hx hb hr (v := (-2)) (fun t ht hW => ⟨⟨(-2), z, rfl, he.symm, by rw [ht]; exact hP, va_K.moved hW.alike hK, hD⟩, hS.F ht⟩) hS.2.2 d_Ct_meaning_45
          · have he := he.trans (if_pos c_14)
            refine lv_iconst (v := (-1)) hx hb d_Ct_meaning_33 (by decide) ?_
            exact W.iret hx hb hr (v := (-1)) (fun t ht hW => ⟨⟨(-1), z, rfl, he.symm, by rw [ht]; exact hP, va_K.moved hW.alike hK, hD⟩, hS.F ht⟩) hS.2.2 d_Ct_meaning_34
    · have he := he.trans (if_neg c_2)
      refine lv_iconst (v := (-1)) hx hb d_Ct_meaning_10 (by decide) ?_
      exact W.iret hx hb hr (v := (-1)) (fun t ht hW => ⟨⟨(-1), z, rfl, he.symm, by rw [ht]; exact hP, va_K.moved hW.alike hK, hD⟩, hS.F ht⟩) hS.2.2 d_Ct_meaning_11
noncomputable def f_Ct_body (z : TCt) : (Int32 × TCt) := (match f_Bk_addBody (TCt_bk z) with | (r_1, v_1) => (r_1, (TCt_set_bk z v_1)))
set_option maxHeartbeats 4000000 in
set_option maxRecDepth 100000 in
theorem c_Ct_body (l : Launch) (dC : Nat → ClassId) (dI : Nat → Nat → Nat) (ad : Nat → Nat) (ca : Nat → ClassId) (sz : Nat) (z : TCt) (F : (Int32 × TCt)) (he : F = f_Ct_body z) : wx_Mi l y_Ct_body ws_Ct_body ({ frames := 1, cells := 0, slots := 0, locals := 20 } : Room) (dC, dI) vwCl (t_C ca) [.ref (ad 15)] (w_C ad ca z) sz (fun v : TCt => w_C ad ca v) (fun (r : Int32) (v : TCt) => (r, v) = F) := by
  refine Met.ofW (cc := b_Ct_body) (maxL := 1) (ret := some .int) (by decide) rfl ?_
  intro p e s m args below meth c s₁ B hml hv
  obtain ⟨rfl, hsz, hP, hK, hD0, hN⟩ := hv
  have hx := B.exec
  have hb := B.bytes
  have hr := B.returns
  have hts := atoms_spec (ws := ws_Ct_body) B.pre
  have ht : ∀ w ∈ TB, w.before _ s = true := fun w h => hts w (List.mem_cons_of_mem _ h)
  have hown : s.vm.findClass R_Ct = some m.cls := findClass_of_methodNamed B.named
  have hlocks := B.notSynchronized
  subst hsz
  have hD := hD0.self (sz := s.heap.size)
  generalize hAe : va_A (w_C ad ca z) s.heap.size = A at hD ⊢
  have hA : ∀ q : Nat, s.heap.size ≤ q → A q := fun q h => by rw [← hAe]; exact Or.inr h
  have hS : va_S A s.heap s.heap [] := va_S.rf
  have hl := lv_entry ([.ref (ad 15)]) (n := 1) (Nat.le_of_ble_eq_true rfl)
  rw [lg_entry_eq]
  generalize (lg_sl ([.ref (ad 15)]) ++ List.replicate (1 - (lg_sl ([.ref (ad 15)])).length) Slot.unset).toArray = ls at hl ⊢
  have hl : lv_has ls 1 [(0, .ref (ad 15))] := hl
  unfold f_Ct_body at he
  refine lv_aload_n hx hb d_Ct_body_0 rfl (lv_at hl 0 rfl) ?_
  refine va_get (D := (dC, dI)) (ci := 3) (v := .ref (ad 8)) (C := R_Ct) (T := T_Ct) (N := 2) hx hb ht i_Ct hown hK hP 0 rfl rfl 0 (by decide) (ht _ q_167) (fun _ h9 => h9) rfl d_Ct_body_1 ?_
  refine wx_ci (wS := fun v : TBk => w_B ad ca v) (ws2 := fun v : TBk => w_C ad ca (TCt_set_bk z v)) (va_runV (As := []) (rest := []) ⟨hx, hb, hml, hown, ht⟩ (c_Bk_addBody l dC dI ad ca s.heap.size (TCt_bk z) _ rfl) (cwV 0 ht (tb_V q_198 q_199 q_200 q_43 q_201) rfl rfl rfl p_Bk_addBody ⟨show 0 + 1 ≤ 1 by omega, show 8 + (1 + 11) + 0 ≤ 20 by omega⟩) (wx_preV (wc := (w_B ad ca (TCt_bk z))) hN hK hP hD [9, 10, 11, 12, 13, 14, 15] [6, 7, 8, 9, 10, 11] rfl (by decide) rfl (ci := 0) (q0 := 0) rfl rfl) rfl rfl hl.1 rfl (lv_room (Nat.le_of_ble_eq_true rfl)) d_Ct_body_4 ⟨Nat.zero_le _, Nat.zero_le _⟩) hP hD hS hA [9, 10, 11, 12, 13, 14, 15] [0, 1, 2, 3, 4, 5, 6, 7, 8] [0, 1, 2, 3, 4, 5, 6, 7, 8, 9, 10, 11, 12, 13, 14, 15] rfl rfl (by decide) (by decide) (by decide) (fun _ => rfl) (fun r_1 v_1 H locs hw_1 hP hD hS => ?_)
  have hP : va_P (dC, dI) vwCl (w_C ad ca (TCt_set_bk z v_1)) H := hP
  have hD : va_D A (w_C ad ca (TCt_set_bk z v_1)) := hD
  rw [← hw_1] at he
  try dsimp only at he
  exact W.iret hx hb hr (v := r_1) (fun t ht hW => ⟨⟨r_1, (TCt_set_bk z v_1), rfl, he.symm, by rw [ht]; exact hP, va_K.moved hW.alike hK, hD⟩, hS.F ht⟩) hS.2.2 d_Ct_body_7
noncomputable def f_Ct_token (z : TCt) (p0 : Int32) (p1 : Int32) : (Int32 × TCt) := (if p0 = (-1) then (if (f_Ct_isToken p1) = 0 then ((-2), z) else (match f_Bk_append (TCt_bk z) 20 p1 with | (r_5, v_5) => (r_5, (TCt_set_bk z v_5)))) else (if (f_Bk_hasBody (TCt_bk z) p0) = 0 then ((-1), z) else (if (f_Ct_isToken p1) = 0 then ((-2), z) else (match f_Bk_append (TCt_bk z) p0 p1 with | (r_11, v_11) => (r_11, (TCt_set_bk z v_11))))))
set_option maxHeartbeats 4000000 in
set_option maxRecDepth 100000 in
theorem c_Ct_token (l : Launch) (dC : Nat → ClassId) (dI : Nat → Nat → Nat) (ad : Nat → Nat) (ca : Nat → ClassId) (sz : Nat) (z : TCt) (p0 : Int32) (p1 : Int32) (hpre : BkS (TCt_bk z)) (F : (Int32 × TCt)) (he : F = f_Ct_token z p0 p1) : wx_Mi l y_Ct_token ws_Ct_token ({ frames := 2, cells := 0, slots := 0, locals := 46 } : Room) (dC, dI) vwCl (t_C ca) [.ref (ad 15), .int p0, .int p1] (w_C ad ca z) sz (fun v : TCt => w_C ad ca v) (fun (r : Int32) (v : TCt) => (r, v) = F) := by
  refine Met.ofW (cc := b_Ct_token) (maxL := 3) (ret := some .int) (by decide) rfl ?_
  intro p e s m args below meth c s₁ B hml hv
  obtain ⟨rfl, hsz, hP, hK, hD0, hN⟩ := hv
  have hx := B.exec
  have hb := B.bytes
  have hr := B.returns
  have hts := atoms_spec (ws := ws_Ct_token) B.pre
  have ht : ∀ w ∈ TB, w.before _ s = true := fun w h => hts w (List.mem_cons_of_mem _ h)
  have hown : s.vm.findClass R_Ct = some m.cls := findClass_of_methodNamed B.named
  have hlocks := B.notSynchronized
  subst hsz
  have hD := hD0.self (sz := s.heap.size)
  generalize hAe : va_A (w_C ad ca z) s.heap.size = A at hD ⊢
  have hA : ∀ q : Nat, s.heap.size ≤ q → A q := fun q h => by rw [← hAe]; exact Or.inr h
  have hS : va_S A s.heap s.heap [] := va_S.rf
  have hl := lv_entry ([.ref (ad 15), .int p0, .int p1]) (n := 3) (Nat.le_of_ble_eq_true rfl)
  rw [lg_entry_eq]
  generalize (lg_sl ([.ref (ad 15), .int p0, .int p1]) ++ List.replicate (3 - (lg_sl ([.ref (ad 15), .int p0, .int p1])).length) Slot.unset).toArray = ls at hl ⊢
  have hl : lv_has ls 3 [(0, .ref (ad 15)), (1, .int p0), (2, .int p1)] := hl
  unfold f_Ct_token at he
  refine lv_iload_n hx hb d_Ct_token_0 rfl (lv_at hl 1 rfl) ?_
  refine lv_iconst (v := (-1)) hx hb d_Ct_token_1 (by decide) ?_
  refine lv_icmp_eq (tgt := 18) hx hb d_Ct_token_2 (by decide) (fun c_1 => ?_) (fun c_1 => ?_)
  · have he := he.trans (if_pos c_1)
    refine lv_iload_n hx hb d_Ct_token_18 rfl (lv_at hl 2 rfl) ?_
    refine wx_ci (wS := fun _ : Unit => w_E ad ca) (ws2 := fun _ : Unit => w_C ad ca z) (va_runS (As := [.int p1]) (rest := []) ⟨hx, hb, hml, hown, ht⟩ (c_Ct_isToken l dC dI ad ca s.heap.size p1 _ rfl) (va_cwS 1 ht (tb_S q_206 q_207 q_42 q_208) rfl rfl rfl p_Ct_isToken.2 ⟨show 1 + 1 ≤ 2 by omega, show 8 + (1 + 11) + 20 ≤ 46 by omega⟩) (wx_preS (wc := (w_E ad ca)) hN hK hP hD [] [] rfl (by decide) rfl) rfl rfl hl.1 rfl (lv_room (Nat.le_of_ble_eq_true rfl)) d_Ct_token_19 ⟨Nat.zero_le _, Nat.zero_le _⟩) hP hD hS hA [] [0, 1, 2, 3, 4, 5, 6, 7, 8, 9, 10, 11, 12, 13, 14, 15] [0, 1, 2, 3, 4, 5, 6, 7, 8, 9, 10, 11, 12, 13, 14, 15] rfl rfl (by decide) (by decide) (by decide) (fun _ => rfl) (fun r_2 _ H locs hw_2 hP hD hS => ?_)
    subst hw_2
    have hP : va_P (dC, dI) vwCl (w_C ad ca z) H := hP
    have hD : va_D A (w_C ad ca z) := hD
    refine lv_if_ne (tgt := 28) hx hb d_Ct_token_22 (by decide) (fun c_3 => ?_) (fun c_3 => ?_)
    · have he := he.trans (if_neg c_3)
      refine lv_aload_n hx hb d_Ct_token_28 rfl (lv_at hl 0 rfl) ?_
      refine va_get (D := (dC, dI)) (ci := 3) (v := .ref (ad 8)) (C := R_Ct) (T := T_Ct) (N := 2) hx hb ht i_Ct hown hK hP 0 rfl rfl 0 (by decide) (ht _ q_167) (fun _ h9 => h9) rfl d_Ct_token_29 ?_
      refine lv_iload_n hx hb d_Ct_token_32 rfl (lv_at hl 1 rfl) ?_
      refine lv_iconst (v := (-1)) hx hb d_Ct_token_33 (by decide) ?_
      refine lv_icmp_ne (tgt := 42) hx hb d_Ct_token_34 (by decide) (fun c_4 => ?_) (fun c_4 => ?_)
      · exact absurd c_1 c_4
      · refine lv_bipush (v := 20) hx hb d_Ct_token_37 (by decide) ?_
        refine lv_goto (tgt := 43) hx hb d_Ct_token_39 (by decide) ?_
        refine lv_iload_n hx hb d_Ct_token_43 rfl (lv_at hl 2 rfl) ?_
        refine wx_ci (wS := fun v : TBk => w_B ad ca v) (ws2 := fun v : TBk => w_C ad ca (TCt_set_bk z v)) (va_runV (As := [.int 20, .int p1]) (rest := []) ⟨hx, hb, hml, hown, ht⟩ (c_Bk_append l dC dI ad ca H.size (TCt_bk z) 20 p1 hpre _ rfl) (cwV 2 ht (tb_V q_212 q_213 q_214 q_43 q_215) rfl rfl rfl p_Bk_append ⟨show 1 + 1 ≤ 2 by omega, show 8 + (6 + 11) + 21 ≤ 46 by omega⟩) (wx_preV (wc := (w_B ad ca (TCt_bk z))) hN hK hP hD [9, 10, 11, 12, 13, 14, 15] [6, 7, 8, 9, 10, 11] rfl (by decide) rfl (ci := 0) (q0 := 0) rfl rfl) rfl rfl hl.1 rfl (lv_room (Nat.le_of_ble_eq_true rfl)) d_Ct_token_44 ⟨Nat.zero_le _, Nat.zero_le _⟩) hP hD hS hA [9, 10, 11, 12, 13, 14, 15] [0, 1, 2, 3, 4, 5, 6, 7, 8] [0, 1, 2, 3, 4, 5, 6, 7, 8, 9, 10, 11, 12, 13, 14, 15] rfl rfl (by decide) (by decide) (by decide) (fun _ => rfl) (fun r_5 v_5 H locs hw_5 hP hD hS => ?_)
        have hP : va_P (dC, dI) vwCl (w_C ad ca (TCt_set_bk z v_5)) H := hP
        have hD : va_D A (w_C ad ca (TCt_set_bk z v_5)) := hD
        rw [← hw_5] at he
        try dsimp only at he
        exact W.iret hx hb hr (v := r_5) (fun t ht hW => ⟨⟨r_5, (TCt_set_bk z v_5), rfl, he.symm, by rw [ht]; exact hP, va_K.moved hW.alike hK, hD⟩, hS.F ht⟩) hS.2.2 d_Ct_token_47
    · have he := he.trans (if_pos c_3)
      refine lv_bipush (v := (-2)) hx hb d_Ct_token_25 (by decide) ?_
      exact W.iret hx hb hr (v := (-2)) (fun t ht hW => ⟨⟨(-2), z, rfl, he.symm, by rw [ht]; exact hP, va_K.moved hW.alike hK, hD⟩, hS.F ht⟩) hS.2.2 d_Ct_token_27
  · have he := he.trans (if_neg c_1)
    refine lv_aload_n hx hb d_Ct_token_5 rfl (lv_at hl 0 rfl) ?_
    refine va_get (D := (dC, dI)) (ci := 3) (v := .ref (ad 8)) (C := R_Ct) (T := T_Ct) (N := 2) hx hb ht i_Ct hown hK hP 0 rfl rfl 0 (by decide) (ht _ q_167) (fun _ h9 => h9) rfl d_Ct_token_6 ?_
    refine lv_iload_n hx hb d_Ct_token_9 rfl (lv_at hl 1 rfl) ?_
    refine wx_ci (wS := fun _ : Unit => w_B ad ca (TCt_bk z)) (ws2 := fun _ : Unit => w_C ad ca z) (va_runV (As := [.int p0]) (rest := []) ⟨hx, hb, hml, hown, ht⟩ (c_Bk_hasBody l dC dI ad ca s.heap.size (TCt_bk z) p0 _ rfl) (cwV 1 ht (tb_V q_178 q_179 q_180 q_43 q_181) rfl rfl rfl p_Bk_hasBody ⟨show 0 + 1 ≤ 2 by omega, show 8 + (2 + 11) + 0 ≤ 46 by omega⟩) (wx_preV (wc := (w_B ad ca (TCt_bk z))) hN hK hP hD [9, 10, 11, 12, 13, 14, 15] [6, 7, 8, 9, 10, 11] rfl (by decide) rfl (ci := 0) (q0 := 0) rfl rfl) rfl rfl hl.1 rfl (lv_room (Nat.le_of_ble_eq_true rfl)) d_Ct_token_10 ⟨Nat.zero_le _, Nat.zero_le _⟩) hP hD hS hA [9, 10, 11, 12, 13, 14, 15] [0, 1, 2, 3, 4, 5, 6, 7, 8] [0, 1, 2, 3, 4, 5, 6, 7, 8, 9, 10, 11, 12, 13, 14, 15] rfl rfl (by decide) (by decide) (by decide) (fun _ => rfl) (fun r_6 _ H locs hw_6 hP hD hS => ?_)
    subst hw_6
    have hP : va_P (dC, dI) vwCl (w_C ad ca z) H := hP
    have hD : va_D A (w_C ad ca z) := hD
    refine lv_if_ne (tgt := 18) hx hb d_Ct_token_13 (by decide) (fun c_7 => ?_) (fun c_7 => ?_)
    · have he := he.trans (if_neg c_7)
      refine lv_iload_n hx hb d_Ct_token_18 rfl (lv_at hl 2 rfl) ?_
      refine wx_ci (wS := fun _ : Unit => w_E ad ca) (ws2 := fun _ : Unit => w_C ad ca z) (va_runS (As := [.int p1]) (rest := []) ⟨hx, hb, hml, hown, ht⟩ (c_Ct_isToken l dC dI ad ca H.size p1 _ rfl) (va_cwS 1 ht (tb_S q_206 q_207 q_42 q_208) rfl rfl rfl p_Ct_isToken.2 ⟨show 1 + 1 ≤ 2 by omega, show 8 + (1 + 11) + 20 ≤ 46 by omega⟩) (wx_preS (wc := (w_E ad ca)) hN hK hP hD [] [] rfl (by decide) rfl) rfl rfl hl.1 rfl (lv_room (Nat.le_of_ble_eq_true rfl)) d_Ct_token_19 ⟨Nat.zero_le _, Nat.zero_le _⟩) hP hD hS hA [] [0, 1, 2, 3, 4, 5, 6, 7, 8, 9, 10, 11, 12, 13, 14, 15] [0, 1, 2, 3, 4, 5, 6, 7, 8, 9, 10, 11, 12, 13, 14, 15] rfl rfl (by decide) (by decide) (by decide) (fun _ => rfl) (fun r_8 _ H locs hw_8 hP hD hS => ?_)
      subst hw_8
      have hP : va_P (dC, dI) vwCl (w_C ad ca z) H := hP
      have hD : va_D A (w_C ad ca z) := hD
      refine lv_if_ne (tgt := 28) hx hb d_Ct_token_22 (by decide) (fun c_9 => ?_) (fun c_9 => ?_)
      · have he := he.trans (if_neg c_9)
        refine lv_aload_n hx hb d_Ct_token_28 rfl (lv_at hl 0 rfl) ?_
        refine va_get (D := (dC, dI)) (ci := 3) (v := .ref (ad 8)) (C := R_Ct) (T := T_Ct) (N := 2) hx hb ht i_Ct hown hK hP 0 rfl rfl 0 (by decide) (ht _ q_167) (fun _ h9 => h9) rfl d_Ct_token_29 ?_
        refine lv_iload_n hx hb d_Ct_token_32 rfl (lv_at hl 1 rfl) ?_
        refine lv_iconst (v := (-1)) hx hb d_Ct_token_33 (by decide) ?_
        refine lv_icmp_ne (tgt := 42) hx hb d_Ct_token_34 (by decide) (fun c_10 => ?_) (fun c_10 => ?_)
        · refine lv_iload_n hx hb d_Ct_token_42 rfl (lv_at hl 1 rfl) ?_
          refine lv_iload_n hx hb d_Ct_token_43 rfl (lv_at hl 2 rfl) ?_
          refine wx_ci (wS := fun v : TBk => w_B ad ca v) (ws2 := fun v : TBk => w_C ad ca (TCt_set_bk z v)) (va_runV (As := [.int p0, .int p1]) (rest := []) ⟨hx, hb, hml, hown, ht⟩ (c_Bk_append l dC dI ad ca H.size (TCt_bk z) p0 p1 hpre _ rfl) (cwV 2 ht (tb_V q_212 q_213 q_214 q_43 q_215) rfl rfl rfl p_Bk_append ⟨show 1 + 1 ≤ 2 by omega, show 8 + (6 + 11) + 21 ≤ 46 by omega⟩) (wx_preV (wc := (w_B ad ca (TCt_bk z))) hN hK hP hD [9, 10, 11, 12, 13, 14, 15] [6, 7, 8, 9, 10, 11] rfl (by decide) rfl (ci := 0) (q0 := 0) rfl rfl) rfl rfl hl.1 rfl (lv_room (Nat.le_of_ble_eq_true rfl)) d_Ct_token_44 ⟨Nat.zero_le _, Nat.zero_le _⟩) hP hD hS hA [9, 10, 11, 12, 13, 14, 15] [0, 1, 2, 3, 4, 5, 6, 7, 8] [0, 1, 2, 3, 4, 5, 6, 7, 8, 9, 10, 11, 12, 13, 14, 15] rfl rfl (by decide) (by decide) (by decide) (fun _ => rfl) (fun r_11 v_11 H locs hw_11 hP hD hS => ?_)
          have hP : va_P (dC, dI) vwCl (w_C ad ca (TCt_set_bk z v_11)) H := hP
          have hD : va_D A (w_C ad ca (TCt_set_bk z v_11)) := hD
          rw [← hw_11] at he
          try dsimp only at he
          exact W.iret hx hb hr (v := r_11) (fun t ht hW => ⟨⟨r_11, (TCt_set_bk z v_11), rfl, he.symm, by rw [ht]; exact hP, va_K.moved hW.alike hK, hD⟩, hS.F ht⟩) hS.2.2 d_Ct_token_47
        · exact absurd c_10 c_1
      · have he := he.trans (if_pos c_9)
        refine lv_bipush (v := (-2)) hx hb d_Ct_token_25 (by decide) ?_
        exact W.iret hx hb hr (v := (-2)) (fun t ht hW => ⟨⟨(-2), z, rfl, he.symm, by rw [ht]; exact hP, va_K.moved hW.alike hK, hD⟩, hS.F ht⟩) hS.2.2 d_Ct_token_27
    · have he := he.trans (if_pos c_7)
      refine lv_iconst (v := (-1)) hx hb d_Ct_token_16 (by decide) ?_
      exact W.iret hx hb hr (v := (-1)) (fun t ht hW => ⟨⟨(-1), z, rfl, he.symm, by rw [ht]; exact hP, va_K.moved hW.alike hK, hD⟩, hS.F ht⟩) hS.2.2 d_Ct_token_17
noncomputable def f_Ct_clear (z : TCt) : (Int32 × TCt) := (match f_Bk_emptyInput (TCt_bk z) with | (r_1, v_1) => (r_1, (TCt_set_bk z v_1)))
set_option maxHeartbeats 4000000 in
set_option maxRecDepth 100000 in
theorem c_Ct_clear (l : Launch) (dC : Nat → ClassId) (dI : Nat → Nat → Nat) (ad : Nat → Nat) (ca : Nat → ClassId) (sz : Nat) (z : TCt) (F : (Int32 × TCt)) (he : F = f_Ct_clear z) : wx_Mi l y_Ct_clear ws_Ct_clear ({ frames := 1, cells := 0, slots := 0, locals := 21 } : Room) (dC, dI) vwCl (t_C ca) [.ref (ad 15)] (w_C ad ca z) sz (fun v : TCt => w_C ad ca v) (fun (r : Int32) (v : TCt) => (r, v) = F) := by
  refine Met.ofW (cc := b_Ct_clear) (maxL := 1) (ret := some .int) (by decide) rfl ?_
  intro p e s m args below meth c s₁ B hml hv
  obtain ⟨rfl, hsz, hP, hK, hD0, hN⟩ := hv
  have hx := B.exec
  have hb := B.bytes
  have hr := B.returns
  have hts := atoms_spec (ws := ws_Ct_clear) B.pre
  have ht : ∀ w ∈ TB, w.before _ s = true := fun w h => hts w (List.mem_cons_of_mem _ h)
  have hown : s.vm.findClass R_Ct = some m.cls := findClass_of_methodNamed B.named
  have hlocks := B.notSynchronized
  subst hsz
  have hD := hD0.self (sz := s.heap.size)
  generalize hAe : va_A (w_C ad ca z) s.heap.size = A at hD ⊢
  have hA : ∀ q : Nat, s.heap.size ≤ q → A q := fun q h => by rw [← hAe]; exact Or.inr h
  have hS : va_S A s.heap s.heap [] := va_S.rf
  have hl := lv_entry ([.ref (ad 15)]) (n := 1) (Nat.le_of_ble_eq_true rfl)
  rw [lg_entry_eq]
  generalize (lg_sl ([.ref (ad 15)]) ++ List.replicate (1 - (lg_sl ([.ref (ad 15)])).length) Slot.unset).toArray = ls at hl ⊢
  have hl : lv_has ls 1 [(0, .ref (ad 15))] := hl
  unfold f_Ct_clear at he
  refine lv_aload_n hx hb d_Ct_clear_0 rfl (lv_at hl 0 rfl) ?_
  refine va_get (D := (dC, dI)) (ci := 3) (v := .ref (ad 8)) (C := R_Ct) (T := T_Ct) (N := 2) hx hb ht i_Ct hown hK hP 0 rfl rfl 0 (by decide) (ht _ q_167) (fun _ h9 => h9) rfl d_Ct_clear_1 ?_
  refine wx_ci (wS := fun v : TBk => w_B ad ca v) (ws2 := fun v : TBk => w_C ad ca (TCt_set_bk z v)) (va_runV (As := []) (rest := []) ⟨hx, hb, hml, hown, ht⟩ (c_Bk_emptyInput l dC dI ad ca s.heap.size (TCt_bk z) _ rfl) (cwV 0 ht (tb_V q_224 q_225 q_226 q_43 q_227) rfl rfl rfl p_Bk_emptyInput ⟨show 0 + 1 ≤ 1 by omega, show 8 + (2 + 11) + 0 ≤ 21 by omega⟩) (wx_preV (wc := (w_B ad ca (TCt_bk z))) hN hK hP hD [9, 10, 11, 12, 13, 14, 15] [6, 7, 8, 9, 10, 11] rfl (by decide) rfl (ci := 0) (q0 := 0) rfl rfl) rfl rfl hl.1 rfl (lv_room (Nat.le_of_ble_eq_true rfl)) d_Ct_clear_4 ⟨Nat.zero_le _, Nat.zero_le _⟩) hP hD hS hA [9, 10, 11, 12, 13, 14, 15] [0, 1, 2, 3, 4, 5, 6, 7, 8] [0, 1, 2, 3, 4, 5, 6, 7, 8, 9, 10, 11, 12, 13, 14, 15] rfl rfl (by decide) (by decide) (by decide) (fun _ => rfl) (fun r_1 v_1 H locs hw_1 hP hD hS => ?_)
  have hP : va_P (dC, dI) vwCl (w_C ad ca (TCt_set_bk z v_1)) H := hP
  have hD : va_D A (w_C ad ca (TCt_set_bk z v_1)) := hD
  rw [← hw_1] at he
  try dsimp only at he
  exact W.iret hx hb hr (v := r_1) (fun t ht hW => ⟨⟨r_1, (TCt_set_bk z v_1), rfl, he.symm, by rw [ht]; exact hP, va_K.moved hW.alike hK, hD⟩, hS.F ht⟩) hS.2.2 d_Ct_clear_7
noncomputable def f_Ct_mode (z : TCt) (p0 : Int32) (p1 : Int32) : (Int32 × TCt) := (match f_Ct_turn 4 (TBk_modes (TCt_bk z)) p0 p1 with | (r_1, v_1) => (r_1, (TCt_set_bk z (TBk_set_modes (TCt_bk z) v_1))))
set_option maxHeartbeats 4000000 in
set_option maxRecDepth 100000 in
theorem c_Ct_mode (l : Launch) (dC : Nat → ClassId) (dI : Nat → Nat → Nat) (ad : Nat → Nat) (ca : Nat → ClassId) (sz : Nat) (z : TCt) (p0 : Int32) (p1 : Int32) (F : (Int32 × TCt)) (he : F = f_Ct_mode z p0 p1) : wx_Mi l y_Ct_mode ws_Ct_mode ({ frames := 1, cells := 0, slots := 0, locals := 22 } : Room) (dC, dI) vwCl (t_C ca) [.ref (ad 15), .int p0, .int p1] (w_C ad ca z) sz (fun v : TCt => w_C ad ca v) (fun (r : Int32) (v : TCt) => (r, v) = F) := by
  refine Met.ofW (cc := b_Ct_mode) (maxL := 3) (ret := some .int) (by decide) rfl ?_
  intro p e s m args below meth c s₁ B hml hv
  obtain ⟨rfl, hsz, hP, hK, hD0, hN⟩ := hv
  have hx := B.exec
  have hb := B.bytes
  have hr := B.returns
  have hts := atoms_spec (ws := ws_Ct_mode) B.pre
  have ht : ∀ w ∈ TB, w.before _ s = true := fun w h => hts w (List.mem_cons_of_mem _ h)
  have hown : s.vm.findClass R_Ct = some m.cls := findClass_of_methodNamed B.named
  have hlocks := B.notSynchronized
  subst hsz
  have hD := hD0.self (sz := s.heap.size)
  generalize hAe : va_A (w_C ad ca z) s.heap.size = A at hD ⊢
  have hA : ∀ q : Nat, s.heap.size ≤ q → A q := fun q h => by rw [← hAe]; exact Or.inr h
  have hS : va_S A s.heap s.heap [] := va_S.rf
  have hl := lv_entry ([.ref (ad 15), .int p0, .int p1]) (n := 3) (Nat.le_of_ble_eq_true rfl)
  rw [lg_entry_eq]
  generalize (lg_sl ([.ref (ad 15), .int p0, .int p1]) ++ List.replicate (3 - (lg_sl ([.ref (ad 15), .int p0, .int p1])).length) Slot.unset).toArray = ls at hl ⊢
  have hl : lv_has ls 3 [(0, .ref (ad 15)), (1, .int p0), (2, .int p1)] := hl
  unfold f_Ct_mode at he
  refine lv_aload_n hx hb d_Ct_mode_0 rfl (lv_at hl 0 rfl) ?_
  refine va_get (D := (dC, dI)) (ci := 3) (v := .ref (ad 8)) (C := R_Ct) (T := T_Ct) (N := 2) hx hb ht i_Ct hown hK hP 0 rfl rfl 0 (by decide) (ht _ q_167) (fun _ h9 => h9) rfl d_Ct_mode_1 ?_
  refine va_get (D := (dC, dI)) (ci := 0) (v := .ref (ad 13)) (C := R_Bk) (T := T_Bk) (N := 7) hx hb ht i_Bk hown hK hP 9 rfl rfl 4 (by decide) (ht _ q_68) (fun _ h9 => h9) rfl d_Ct_mode_4 ?_
  refine lv_iload_n hx hb d_Ct_mode_7 rfl (lv_at hl 1 rfl) ?_
  refine lv_iload_n hx hb d_Ct_mode_8 rfl (lv_at hl 2 rfl) ?_
  refine wx_ci (wS := fun v : (Nat → Int32) => w_Z ad ca (ad 13) (ca 13) 4 v) (ws2 := fun v : (Nat → Int32) => w_C ad ca (TCt_set_bk z (TBk_set_modes (TCt_bk z) v))) (va_runS (As := [.ref (ad 13), .int p0, .int p1]) (rest := []) ⟨hx, hb, hml, hown, ht⟩ (c_Ct_turn l dC dI ad ca (ad 13) (ca 13) 4 s.heap.size (TBk_modes (TCt_bk z)) p0 p1 (by decide) _ rfl) (va_cwS 3 ht (tb_S q_232 q_233 q_42 q_234) rfl rfl rfl p_Ct_turn.2 ⟨show 0 + 1 ≤ 1 by omega, show 8 + (3 + 11) + 0 ≤ 22 by omega⟩) (wx_preS (wc := (w_Z ad ca (ad 13) (ca 13) 4 (TBk_modes (TCt_bk z)))) hN hK hP hD [14] [10] rfl (by decide) rfl) rfl rfl hl.1 rfl (lv_room (Nat.le_of_ble_eq_true rfl)) d_Ct_mode_9 ⟨Nat.zero_le _, Nat.zero_le _⟩) hP hD hS hA [14] [0, 1, 2, 3, 4, 5, 6, 7, 8, 9, 10, 11, 12, 13, 15] [0, 1, 2, 3, 4, 5, 6, 7, 8, 9, 10, 11, 12, 13, 15, 14] rfl rfl (by decide) (by decide) (by decide) (fun _ => rfl) (fun r_1 v_1 H locs hw_1 hP hD hS => ?_)
  have hP : va_P (dC, dI) vwCl (w_C ad ca (TCt_set_bk z (TBk_set_modes (TCt_bk z) v_1))) H := hP
  have hD : va_D A (w_C ad ca (TCt_set_bk z (TBk_set_modes (TCt_bk z) v_1))) := hD
  rw [← hw_1] at he
  try dsimp only at he
  exact W.iret hx hb hr (v := r_1) (fun t ht hW => ⟨⟨r_1, (TCt_set_bk z (TBk_set_modes (TCt_bk z) v_1)), rfl, he.symm, by rw [ht]; exact hP, va_K.moved hW.alike hK, hD⟩, hS.F ht⟩) hS.2.2 d_Ct_mode_12
noncomputable def f_Ct_end (z : TCt) (p0 : Int32) (p1 : Int32) : (Int32 × TCt) := (match f_Ct_turn 8 (TBk_files (TCt_bk z)) p0 p1 with | (r_1, v_1) => (r_1, (TCt_set_bk z (TBk_set_files (TCt_bk z) v_1))))
set_option maxHeartbeats 4000000 in
set_option maxRecDepth 100000 in
theorem c_Ct_end (l : Launch) (dC : Nat → ClassId) (dI : Nat → Nat → Nat) (ad : Nat → Nat) (ca : Nat → ClassId) (sz : Nat) (z : TCt) (p0 : Int32) (p1 : Int32) (F : (Int32 × TCt)) (he : F = f_Ct_end z p0 p1) : wx_Mi l y_Ct_end ws_Ct_end ({ frames := 1, cells := 0, slots := 0, locals := 22 } : Room) (dC, dI) vwCl (t_C ca) [.ref (ad 15), .int p0, .int p1] (w_C ad ca z) sz (fun v : TCt => w_C ad ca v) (fun (r : Int32) (v : TCt) => (r, v) = F) := by
  refine Met.ofW (cc := b_Ct_end) (maxL := 3) (ret := some .int) (by decide) rfl ?_
  intro p e s m args below meth c s₁ B hml hv
  obtain ⟨rfl, hsz, hP, hK, hD0, hN⟩ := hv
  have hx := B.exec
  have hb := B.bytes
  have hr := B.returns
  have hts := atoms_spec (ws := ws_Ct_end) B.pre
  have ht : ∀ w ∈ TB, w.before _ s = true := fun w h => hts w (List.mem_cons_of_mem _ h)
  have hown : s.vm.findClass R_Ct = some m.cls := findClass_of_methodNamed B.named
  have hlocks := B.notSynchronized
  subst hsz
  have hD := hD0.self (sz := s.heap.size)
  generalize hAe : va_A (w_C ad ca z) s.heap.size = A at hD ⊢
  have hA : ∀ q : Nat, s.heap.size ≤ q → A q := fun q h => by rw [← hAe]; exact Or.inr h
  have hS : va_S A s.heap s.heap [] := va_S.rf
  have hl := lv_entry ([.ref (ad 15), .int p0, .int p1]) (n := 3) (Nat.le_of_ble_eq_true rfl)
  rw [lg_entry_eq]
  generalize (lg_sl ([.ref (ad 15), .int p0, .int p1]) ++ List.replicate (3 - (lg_sl ([.ref (ad 15), .int p0, .int p1])).length) Slot.unset).toArray = ls at hl ⊢
  have hl : lv_has ls 3 [(0, .ref (ad 15)), (1, .int p0), (2, .int p1)] := hl
  unfold f_Ct_end at he
  refine lv_aload_n hx hb d_Ct_end_0 rfl (lv_at hl 0 rfl) ?_
  refine va_get (D := (dC, dI)) (ci := 3) (v := .ref (ad 8)) (C := R_Ct) (T := T_Ct) (N := 2) hx hb ht i_Ct hown hK hP 0 rfl rfl 0 (by decide) (ht _ q_167) (fun _ h9 => h9) rfl d_Ct_end_1 ?_
  refine va_get (D := (dC, dI)) (ci := 0) (v := .ref (ad 14)) (C := R_Bk) (T := T_Bk) (N := 7) hx hb ht i_Bk hown hK hP 9 rfl rfl 5 (by decide) (ht _ q_71) (fun _ h9 => h9) rfl d_Ct_end_4 ?_
  refine lv_iload_n hx hb d_Ct_end_7 rfl (lv_at hl 1 rfl) ?_
  refine lv_iload_n hx hb d_Ct_end_8 rfl (lv_at hl 2 rfl) ?_
  refine wx_ci (wS := fun v : (Nat → Int32) => w_Z ad ca (ad 14) (ca 14) 8 v) (ws2 := fun v : (Nat → Int32) => w_C ad ca (TCt_set_bk z (TBk_set_files (TCt_bk z) v))) (va_runS (As := [.ref (ad 14), .int p0, .int p1]) (rest := []) ⟨hx, hb, hml, hown, ht⟩ (c_Ct_turn l dC dI ad ca (ad 14) (ca 14) 8 s.heap.size (TBk_files (TCt_bk z)) p0 p1 (by decide) _ rfl) (va_cwS 3 ht (tb_S q_232 q_233 q_42 q_234) rfl rfl rfl p_Ct_turn.2 ⟨show 0 + 1 ≤ 1 by omega, show 8 + (3 + 11) + 0 ≤ 22 by omega⟩) (wx_preS (wc := (w_Z ad ca (ad 14) (ca 14) 8 (TBk_files (TCt_bk z)))) hN hK hP hD [15] [11] rfl (by decide) rfl) rfl rfl hl.1 rfl (lv_room (Nat.le_of_ble_eq_true rfl)) d_Ct_end_9 ⟨Nat.zero_le _, Nat.zero_le _⟩) hP hD hS hA [15] [0, 1, 2, 3, 4, 5, 6, 7, 8, 9, 10, 11, 12, 13, 14] [0, 1, 2, 3, 4, 5, 6, 7, 8, 9, 10, 11, 12, 13, 14, 15] rfl rfl (by decide) (by decide) (by decide) (fun _ => rfl) (fun r_1 v_1 H locs hw_1 hP hD hS => ?_)
  have hP : va_P (dC, dI) vwCl (w_C ad ca (TCt_set_bk z (TBk_set_files (TCt_bk z) v_1))) H := hP
  have hD : va_D A (w_C ad ca (TCt_set_bk z (TBk_set_files (TCt_bk z) v_1))) := hD
  rw [← hw_1] at he
  try dsimp only at he
  exact W.iret hx hb hr (v := r_1) (fun t ht hW => ⟨⟨r_1, (TCt_set_bk z (TBk_set_files (TCt_bk z) v_1)), rfl, he.symm, by rw [ht]; exact hP, va_K.moved hW.alike hK, hD⟩, hS.F ht⟩) hS.2.2 d_Ct_end_12
noncomputable def f_Ct_at (z : TCt) (p0 : Int32) : Int32 := (f_Rn_putOutAt (TCt_bk z) (TCt_rn z) p0)
set_option maxHeartbeats 4000000 in
set_option maxRecDepth 100000 in
theorem c_Ct_at (l : Launch) (dC : Nat → ClassId) (dI : Nat → Nat → Nat) (ad : Nat → Nat) (ca : Nat → ClassId) (sz : Nat) (z : TCt) (p0 : Int32) (F : Int32) (he : F = f_Ct_at z p0) : wx_Mi l y_Ct_at ws_Ct_at ({ frames := 1, cells := 0, slots := 0, locals := 21 } : Room) (dC, dI) vwCl (t_C ca) [.ref (ad 15), .int p0] (w_C ad ca z) sz (fun _ : Unit => w_C ad ca z) (fun (r : Int32) (_ : Unit) => r = F) := by
  refine Met.ofW (cc := b_Ct_at) (maxL := 2) (ret := some .int) (by decide) rfl ?_
  intro p e s m args below meth c s₁ B hml hv
  obtain ⟨rfl, hsz, hP, hK, hD0, hN⟩ := hv
  have hx := B.exec
  have hb := B.bytes
  have hr := B.returns
  have hts := atoms_spec (ws := ws_Ct_at) B.pre
  have ht : ∀ w ∈ TB, w.before _ s = true := fun w h => hts w (List.mem_cons_of_mem _ h)
  have hown : s.vm.findClass R_Ct = some m.cls := findClass_of_methodNamed B.named
  have hlocks := B.notSynchronized
  subst hsz
  have hD := hD0.self (sz := s.heap.size)
  generalize hAe : va_A (w_C ad ca z) s.heap.size = A at hD ⊢
  have hA : ∀ q : Nat, s.heap.size ≤ q → A q := fun q h => by rw [← hAe]; exact Or.inr h
  have hS : va_S A s.heap s.heap [] := va_S.rf
  have hl := lv_entry ([.ref (ad 15), .int p0]) (n := 2) (Nat.le_of_ble_eq_true rfl)
  rw [lg_entry_eq]
  generalize (lg_sl ([.ref (ad 15), .int p0]) ++ List.replicate (2 - (lg_sl ([.ref (ad 15), .int p0])).length) Slot.unset).toArray = ls at hl ⊢
  have hl : lv_has ls 2 [(0, .ref (ad 15)), (1, .int p0)] := hl
  unfold f_Ct_at at he
  refine lv_aload_n hx hb d_Ct_at_0 rfl (lv_at hl 0 rfl) ?_
  refine va_get (D := (dC, dI)) (ci := 3) (v := .ref (ad 0)) (C := R_Ct) (T := T_Ct) (N := 2) hx hb ht i_Ct hown hK hP 0 rfl rfl 1 (by decide) (ht _ q_168) (fun _ h9 => h9) rfl d_Ct_at_1 ?_
  refine lv_iload_n hx hb d_Ct_at_4 rfl (lv_at hl 1 rfl) ?_
  refine wx_ci (wS := fun _ : Unit => w_R ad ca (TCt_bk z) (TCt_rn z)) (ws2 := fun _ : Unit => w_C ad ca z) (va_runV (As := [.int p0]) (rest := []) ⟨hx, hb, hml, hown, ht⟩ (c_Rn_putOutAt l dC dI ad ca s.heap.size (TCt_bk z) (TCt_rn z) p0 _ rfl) (cwV 1 ht (tb_V q_401 q_402 q_403 q_44 q_404) rfl rfl rfl p_Rn_putOutAt ⟨show 0 + 1 ≤ 1 by omega, show 8 + (2 + 11) + 0 ≤ 21 by omega⟩) (wx_preV (wc := (w_R ad ca (TCt_bk z) (TCt_rn z))) hN hK hP hD [1, 2, 3, 4, 5, 6, 7, 8, 9, 10, 11, 12, 13, 14, 15] [0, 1, 2, 3, 4, 5, 6, 7, 8, 9, 10, 11] rfl (by decide) rfl (ci := 2) (q0 := 0) rfl rfl) rfl rfl hl.1 rfl (lv_room (Nat.le_of_ble_eq_true rfl)) d_Ct_at_5 ⟨Nat.zero_le _, Nat.zero_le _⟩) hP hD hS hA [1, 2, 3, 4, 5, 6, 7, 8, 9, 10, 11, 12, 13, 14, 15] [0] [0, 1, 2, 3, 4, 5, 6, 7, 8, 9, 10, 11, 12, 13, 14, 15] rfl rfl (by decide) (by decide) (by decide) (fun _ => rfl) (fun r_1 _ H locs hw_1 hP hD hS => ?_)
  subst hw_1
  have hP : va_P (dC, dI) vwCl (w_C ad ca z) H := hP
  have hD : va_D A (w_C ad ca z) := hD
  exact W.iret hx hb hr (v := (f_Rn_putOutAt (TCt_bk z) (TCt_rn z) p0)) (fun t ht hW => ⟨⟨(f_Rn_putOutAt (TCt_bk z) (TCt_rn z) p0), (), rfl, he.symm, by rw [ht]; exact hP, va_K.moved hW.alike hK, hD⟩, hS.F ht⟩) hS.2.2 d_Ct_at_8
noncomputable def f_Ct_told (z : TCt) (p0 : Int32) : Int32 := (f_Rn_tell (TCt_bk z) (TCt_rn z) p0)
set_option maxHeartbeats 4000000 in
set_option maxRecDepth 100000 in
theorem c_Ct_told (l : Launch) (dC : Nat → ClassId) (dI : Nat → Nat → Nat) (ad : Nat → Nat) (ca : Nat → ClassId) (sz : Nat) (z : TCt) (p0 : Int32) (F : Int32) (he : F = f_Ct_told z p0) : wx_Mi l y_Ct_told ws_Ct_told ({ frames := 2, cells := 0, slots := 0, locals := 41 } : Room) (dC, dI) vwCl (t_C ca) [.ref (ad 15), .int p0] (w_C ad ca z) sz (fun _ : Unit => w_C ad ca z) (fun (r : Int32) (_ : Unit) => r = F) := by
  refine Met.ofW (cc := b_Ct_told) (maxL := 2) (ret := some .int) (by decide) rfl ?_
  intro p e s m args below meth c s₁ B hml hv
  obtain ⟨rfl, hsz, hP, hK, hD0, hN⟩ := hv
  have hx := B.exec
  have hb := B.bytes
  have hr := B.returns
  have hts := atoms_spec (ws := ws_Ct_told) B.pre
  have ht : ∀ w ∈ TB, w.before _ s = true := fun w h => hts w (List.mem_cons_of_mem _ h)
  have hown : s.vm.findClass R_Ct = some m.cls := findClass_of_methodNamed B.named
  have hlocks := B.notSynchronized
  subst hsz
  have hD := hD0.self (sz := s.heap.size)
  generalize hAe : va_A (w_C ad ca z) s.heap.size = A at hD ⊢
  have hA : ∀ q : Nat, s.heap.size ≤ q → A q := fun q h => by rw [← hAe]; exact Or.inr h
  have hS : va_S A s.heap s.heap [] := va_S.rf
  have hl := lv_entry ([.ref (ad 15), .int p0]) (n := 2) (Nat.le_of_ble_eq_true rfl)
  rw [lg_entry_eq]
  generalize (lg_sl ([.ref (ad 15), .int p0]) ++ List.replicate (2 - (lg_sl ([.ref (ad 15), .int p0])).length) Slot.unset).toArray = ls at hl ⊢
  have hl : lv_has ls 2 [(0, .ref (ad 15)), (1, .int p0)] := hl
  unfold f_Ct_told at he
  refine lv_aload_n hx hb d_Ct_told_0 rfl (lv_at hl 0 rfl) ?_
  refine va_get (D := (dC, dI)) (ci := 3) (v := .ref (ad 0)) (C := R_Ct) (T := T_Ct) (N := 2) hx hb ht i_Ct hown hK hP 0 rfl rfl 1 (by decide) (ht _ q_168) (fun _ h9 => h9) rfl d_Ct_told_1 ?_
  refine lv_iload_n hx hb d_Ct_told_4 rfl (lv_at hl 1 rfl) ?_
  refine wx_ci (wS := fun _ : Unit => w_R ad ca (TCt_bk z) (TCt_rn z)) (ws2 := fun _ : Unit => w_C ad ca z) (va_runV (As := [.int p0]) (rest := []) ⟨hx, hb, hml, hown, ht⟩ (c_Rn_tell l dC dI ad ca s.heap.size (TCt_bk z) (TCt_rn z) p0 _ rfl) (cwV 1 ht (tb_V q_409 q_410 q_411 q_44 q_412) rfl rfl rfl p_Rn_tell ⟨show 1 + 1 ≤ 2 by omega, show 8 + (2 + 11) + 20 ≤ 41 by omega⟩) (wx_preV (wc := (w_R ad ca (TCt_bk z) (TCt_rn z))) hN hK hP hD [1, 2, 3, 4, 5, 6, 7, 8, 9, 10, 11, 12, 13, 14, 15] [0, 1, 2, 3, 4, 5, 6, 7, 8, 9, 10, 11] rfl (by decide) rfl (ci := 2) (q0 := 0) rfl rfl) rfl rfl hl.1 rfl (lv_room (Nat.le_of_ble_eq_true rfl)) d_Ct_told_5 ⟨Nat.zero_le _, Nat.zero_le _⟩) hP hD hS hA [1, 2, 3, 4, 5, 6, 7, 8, 9, 10, 11, 12, 13, 14, 15] [0] [0, 1, 2, 3, 4, 5, 6, 7, 8, 9, 10, 11, 12, 13, 14, 15] rfl rfl (by decide) (by decide) (by decide) (fun _ => rfl) (fun r_1 _ H locs hw_1 hP hD hS => ?_)
  subst hw_1
  have hP : va_P (dC, dI) vwCl (w_C ad ca z) H := hP
  have hD : va_D A (w_C ad ca z) := hD
  exact W.iret hx hb hr (v := (f_Rn_tell (TCt_bk z) (TCt_rn z) p0)) (fun t ht hW => ⟨⟨(f_Rn_tell (TCt_bk z) (TCt_rn z) p0), (), rfl, he.symm, by rw [ht]; exact hP, va_K.moved hW.alike hK, hD⟩, hS.F ht⟩) hS.2.2 d_Ct_told_8
noncomputable def f_Ct_decided (z : TCt) (p0 : Int32) : Int32 := (f_Rn_decisionOf (TCt_bk z) (TCt_rn z) p0)
set_option maxHeartbeats 4000000 in
set_option maxRecDepth 100000 in
theorem c_Ct_decided (l : Launch) (dC : Nat → ClassId) (dI : Nat → Nat → Nat) (ad : Nat → Nat) (ca : Nat → ClassId) (sz : Nat) (z : TCt) (p0 : Int32) (F : Int32) (he : F = f_Ct_decided z p0) : wx_Mi l y_Ct_decided ws_Ct_decided ({ frames := 1, cells := 0, slots := 0, locals := 21 } : Room) (dC, dI) vwCl (t_C ca) [.ref (ad 15), .int p0] (w_C ad ca z) sz (fun _ : Unit => w_C ad ca z) (fun (r : Int32) (_ : Unit) => r = F) := by
  refine Met.ofW (cc := b_Ct_decided) (maxL := 2) (ret := some .int) (by decide) rfl ?_
  intro p e s m args below meth c s₁ B hml hv
  obtain ⟨rfl, hsz, hP, hK, hD0, hN⟩ := hv
  have hx := B.exec
  have hb := B.bytes
  have hr := B.returns
  have hts := atoms_spec (ws := ws_Ct_decided) B.pre
  have ht : ∀ w ∈ TB, w.before _ s = true := fun w h => hts w (List.mem_cons_of_mem _ h)
  have hown : s.vm.findClass R_Ct = some m.cls := findClass_of_methodNamed B.named
  have hlocks := B.notSynchronized
  subst hsz
  have hD := hD0.self (sz := s.heap.size)
  generalize hAe : va_A (w_C ad ca z) s.heap.size = A at hD ⊢
  have hA : ∀ q : Nat, s.heap.size ≤ q → A q := fun q h => by rw [← hAe]; exact Or.inr h
  have hS : va_S A s.heap s.heap [] := va_S.rf
  have hl := lv_entry ([.ref (ad 15), .int p0]) (n := 2) (Nat.le_of_ble_eq_true rfl)
  rw [lg_entry_eq]
  generalize (lg_sl ([.ref (ad 15), .int p0]) ++ List.replicate (2 - (lg_sl ([.ref (ad 15), .int p0])).length) Slot.unset).toArray = ls at hl ⊢
  have hl : lv_has ls 2 [(0, .ref (ad 15)), (1, .int p0)] := hl
  unfold f_Ct_decided at he
  refine lv_aload_n hx hb d_Ct_decided_0 rfl (lv_at hl 0 rfl) ?_
  refine va_get (D := (dC, dI)) (ci := 3) (v := .ref (ad 0)) (C := R_Ct) (T := T_Ct) (N := 2) hx hb ht i_Ct hown hK hP 0 rfl rfl 1 (by decide) (ht _ q_168) (fun _ h9 => h9) rfl d_Ct_decided_1 ?_
  refine lv_iload_n hx hb d_Ct_decided_4 rfl (lv_at hl 1 rfl) ?_
  refine wx_ci (wS := fun _ : Unit => w_R ad ca (TCt_bk z) (TCt_rn z)) (ws2 := fun _ : Unit => w_C ad ca z) (va_runV (As := [.int p0]) (rest := []) ⟨hx, hb, hml, hown, ht⟩ (c_Rn_decisionOf l dC dI ad ca s.heap.size (TCt_bk z) (TCt_rn z) p0 _ rfl) (cwV 1 ht (tb_V q_421 q_422 q_423 q_44 q_424) rfl rfl rfl p_Rn_decisionOf ⟨show 0 + 1 ≤ 1 by omega, show 8 + (2 + 11) + 0 ≤ 21 by omega⟩) (wx_preV (wc := (w_R ad ca (TCt_bk z) (TCt_rn z))) hN hK hP hD [1, 2, 3, 4, 5, 6, 7, 8, 9, 10, 11, 12, 13, 14, 15] [0, 1, 2, 3, 4, 5, 6, 7, 8, 9, 10, 11] rfl (by decide) rfl (ci := 2) (q0 := 0) rfl rfl) rfl rfl hl.1 rfl (lv_room (Nat.le_of_ble_eq_true rfl)) d_Ct_decided_5 ⟨Nat.zero_le _, Nat.zero_le _⟩) hP hD hS hA [1, 2, 3, 4, 5, 6, 7, 8, 9, 10, 11, 12, 13, 14, 15] [0] [0, 1, 2, 3, 4, 5, 6, 7, 8, 9, 10, 11, 12, 13, 14, 15] rfl rfl (by decide) (by decide) (by decide) (fun _ => rfl) (fun r_1 _ H locs hw_1 hP hD hS => ?_)
  subst hw_1
  have hP : va_P (dC, dI) vwCl (w_C ad ca z) H := hP
  have hD : va_D A (w_C ad ca z) := hD
  exact W.iret hx hb hr (v := (f_Rn_decisionOf (TCt_bk z) (TCt_rn z) p0)) (fun t ht hW => ⟨⟨(f_Rn_decisionOf (TCt_bk z) (TCt_rn z) p0), (), rfl, he.symm, by rw [ht]; exact hP, va_K.moved hW.alike hK, hD⟩, hS.F ht⟩) hS.2.2 d_Ct_decided_8
noncomputable def f_Ct_same (z : TCt) (p0 : Int32) (p1 : Int32) : Int32 := (if (f_Ct_isToken p0) = 0 then 0 else (if (f_Ct_isToken p1) = 0 then 0 else (if (f_Bk_meanTheSame (TCt_bk z) p0 p1) = 0 then 0 else 1)))
set_option maxHeartbeats 4000000 in
set_option maxRecDepth 100000 in
theorem c_Ct_same (l : Launch) (dC : Nat → ClassId) (dI : Nat → Nat → Nat) (ad : Nat → Nat) (ca : Nat → ClassId) (sz : Nat) (z : TCt) (p0 : Int32) (p1 : Int32) (hpre : BkS (TCt_bk z)) (F : Int32) (he : F = f_Ct_same z p0 p1) : wx_Mi l y_Ct_same ws_Ct_same ({ frames := 3, cells := 0, slots := 0, locals := 70 } : Room) (dC, dI) vwCl (t_C ca) [.ref (ad 15), .int p0, .int p1] (w_C ad ca z) sz (fun _ : Unit => w_C ad ca z) (fun (r : Int32) (_ : Unit) => r = F) := by
  refine Met.ofW (cc := b_Ct_same) (maxL := 3) (ret := some .boolean) (by decide) rfl ?_
  intro p e s m args below meth c s₁ B hml hv
  obtain ⟨rfl, hsz, hP, hK, hD0, hN⟩ := hv
  have hx := B.exec
  have hb := B.bytes
  have hr := B.returns
  have hts := atoms_spec (ws := ws_Ct_same) B.pre
  have ht : ∀ w ∈ TB, w.before _ s = true := fun w h => hts w (List.mem_cons_of_mem _ h)
  have hown : s.vm.findClass R_Ct = some m.cls := findClass_of_methodNamed B.named
  have hlocks := B.notSynchronized
  subst hsz
  have hD := hD0.self (sz := s.heap.size)
  generalize hAe : va_A (w_C ad ca z) s.heap.size = A at hD ⊢
  have hA : ∀ q : Nat, s.heap.size ≤ q → A q := fun q h => by rw [← hAe]; exact Or.inr h
  have hS : va_S A s.heap s.heap [] := va_S.rf
  have hl := lv_entry ([.ref (ad 15), .int p0, .int p1]) (n := 3) (Nat.le_of_ble_eq_true rfl)
  rw [lg_entry_eq]
  generalize (lg_sl ([.ref (ad 15), .int p0, .int p1]) ++ List.replicate (3 - (lg_sl ([.ref (ad 15), .int p0, .int p1])).length) Slot.unset).toArray = ls at hl ⊢
  have hl : lv_has ls 3 [(0, .ref (ad 15)), (1, .int p0), (2, .int p1)] := hl
  unfold f_Ct_same at he
  refine lv_iload_n hx hb d_Ct_same_0 rfl (lv_at hl 1 rfl) ?_
  refine wx_ci (wS := fun _ : Unit => w_E ad ca) (ws2 := fun _ : Unit => w_C ad ca z) (va_runS (As := [.int p0]) (rest := []) ⟨hx, hb, hml, hown, ht⟩ (c_Ct_isToken l dC dI ad ca s.heap.size p0 _ rfl) (va_cwS 1 ht (tb_S q_206 q_207 q_42 q_208) rfl rfl rfl p_Ct_isToken.2 ⟨show 1 + 1 ≤ 3 by omega, show 8 + (1 + 11) + 20 ≤ 70 by omega⟩) (wx_preS (wc := (w_E ad ca)) hN hK hP hD [] [] rfl (by decide) rfl) rfl rfl hl.1 rfl (lv_room (Nat.le_of_ble_eq_true rfl)) d_Ct_same_1 ⟨Nat.zero_le _, Nat.zero_le _⟩) hP hD hS hA [] [0, 1, 2, 3, 4, 5, 6, 7, 8, 9, 10, 11, 12, 13, 14, 15] [0, 1, 2, 3, 4, 5, 6, 7, 8, 9, 10, 11, 12, 13, 14, 15] rfl rfl (by decide) (by decide) (by decide) (fun _ => rfl) (fun r_1 _ H locs hw_1 hP hD hS => ?_)
  subst hw_1
  have hP : va_P (dC, dI) vwCl (w_C ad ca z) H := hP
  have hD : va_D A (w_C ad ca z) := hD
  refine lv_if_eq (tgt := 30) hx hb d_Ct_same_4 (by decide) (fun c_2 => ?_) (fun c_2 => ?_)
  · have he := he.trans (if_pos c_2)
    refine lv_iconst (v := 0) hx hb d_Ct_same_30 (by decide) ?_
    exact W.zret hx hb hr (by rfl) (v := 0) (fun t ht hW => ⟨⟨0, (), rfl, he.symm, by rw [ht]; exact hP, va_K.moved hW.alike hK, hD⟩, hS.F ht⟩) hS.2.2 d_Ct_same_31
  · have he := he.trans (if_neg c_2)
    refine lv_iload_n hx hb d_Ct_same_7 rfl (lv_at hl 2 rfl) ?_
    refine wx_ci (wS := fun _ : Unit => w_E ad ca) (ws2 := fun _ : Unit => w_C ad ca z) (va_runS (As := [.int p1]) (rest := []) ⟨hx, hb, hml, hown, ht⟩ (c_Ct_isToken l dC dI ad ca H.size p1 _ rfl) (va_cwS 1 ht (tb_S q_206 q_207 q_42 q_208) rfl rfl rfl p_Ct_isToken.2 ⟨show 1 + 1 ≤ 3 by omega, show 8 + (1 + 11) + 20 ≤ 70 by omega⟩) (wx_preS (wc := (w_E ad ca)) hN hK hP hD [] [] rfl (by decide) rfl) rfl rfl hl.1 rfl (lv_room (Nat.le_of_ble_eq_true rfl)) d_Ct_same_8 ⟨Nat.zero_le _, Nat.zero_le _⟩) hP hD hS hA [] [0, 1, 2, 3, 4, 5, 6, 7, 8, 9, 10, 11, 12, 13, 14, 15] [0, 1, 2, 3, 4, 5, 6, 7, 8, 9, 10, 11, 12, 13, 14, 15] rfl rfl (by decide) (by decide) (by decide) (fun _ => rfl) (fun r_3 _ H locs hw_3 hP hD hS => ?_)
    subst hw_3
    have hP : va_P (dC, dI) vwCl (w_C ad ca z) H := hP
    have hD : va_D A (w_C ad ca z) := hD
    refine lv_if_eq (tgt := 30) hx hb d_Ct_same_11 (by decide) (fun c_4 => ?_) (fun c_4 => ?_)
    · have he := he.trans (if_pos c_4)
      refine lv_iconst (v := 0) hx hb d_Ct_same_30 (by decide) ?_
      exact W.zret hx hb hr (by rfl) (v := 0) (fun t ht hW => ⟨⟨0, (), rfl, he.symm, by rw [ht]; exact hP, va_K.moved hW.alike hK, hD⟩, hS.F ht⟩) hS.2.2 d_Ct_same_31
    · have he := he.trans (if_neg c_4)
      refine lv_aload_n hx hb d_Ct_same_14 rfl (lv_at hl 0 rfl) ?_
      refine va_get (D := (dC, dI)) (ci := 3) (v := .ref (ad 8)) (C := R_Ct) (T := T_Ct) (N := 2) hx hb ht i_Ct hown hK hP 0 rfl rfl 0 (by decide) (ht _ q_167) (fun _ h9 => h9) rfl d_Ct_same_15 ?_
      refine lv_iload_n hx hb d_Ct_same_18 rfl (lv_at hl 1 rfl) ?_
      refine lv_iload_n hx hb d_Ct_same_19 rfl (lv_at hl 2 rfl) ?_
      refine wx_ci (wS := fun _ : Unit => w_B ad ca (TCt_bk z)) (ws2 := fun _ : Unit => w_C ad ca z) (va_runV (As := [.int p0, .int p1]) (rest := []) ⟨hx, hb, hml, hown, ht⟩ (c_Bk_meanTheSame l dC dI ad ca H.size (TCt_bk z) p0 p1 hpre _ rfl) (cwV 2 ht (tb_V q_429 q_331 q_332 q_43 q_333) rfl rfl rfl p_Bk_meanTheSame ⟨show 2 + 1 ≤ 3 by omega, show 8 + (4 + 11) + 47 ≤ 70 by omega⟩) (wx_preV (wc := (w_B ad ca (TCt_bk z))) hN hK hP hD [9, 10, 11, 12, 13, 14, 15] [6, 7, 8, 9, 10, 11] rfl (by decide) rfl (ci := 0) (q0 := 0) rfl rfl) rfl rfl hl.1 rfl (lv_room (Nat.le_of_ble_eq_true rfl)) d_Ct_same_20 ⟨Nat.zero_le _, Nat.zero_le _⟩) hP hD hS hA [9, 10, 11, 12, 13, 14, 15] [0, 1, 2, 3, 4, 5, 6, 7, 8] [0, 1, 2, 3, 4, 5, 6, 7, 8, 9, 10, 11, 12, 13, 14, 15] rfl rfl (by decide) (by decide) (by decide) (fun _ => rfl) (fun r_5 _ H locs hw_5 hP hD hS => ?_)
      subst hw_5
      have hP : va_P (dC, dI) vwCl (w_C ad ca z) H := hP
      have hD : va_D A (w_C ad ca z) := hD
      refine lv_if_eq (tgt := 30) hx hb d_Ct_same_23 (by decide) (fun c_6 => ?_) (fun c_6 => ?_)
      · have he := he.trans (if_pos c_6)
        refine lv_iconst (v := 0) hx hb d_Ct_same_30 (by decide) ?_
        exact W.zret hx hb hr (by rfl) (v := 0) (fun t ht hW => ⟨⟨0, (), rfl, he.symm, by rw [ht]; exact hP, va_K.moved hW.alike hK, hD⟩, hS.F ht⟩) hS.2.2 d_Ct_same_31
      · have he := he.trans (if_neg c_6)
        refine lv_iconst (v := 1) hx hb d_Ct_same_26 (by decide) ?_
        refine lv_goto (tgt := 31) hx hb d_Ct_same_27 (by decide) ?_
        exact W.zret hx hb hr (by rfl) (v := 1) (fun t ht hW => ⟨⟨1, (), rfl, he.symm, by rw [ht]; exact hP, va_K.moved hW.alike hK, hD⟩, hS.F ht⟩) hS.2.2 d_Ct_same_31
noncomputable def f_Ct_count (z : TCt) (p0 : Int32) : Int32 := (if p0 = 0 then (TBk_bodyCount (TCt_bk z)) else (if p0 = 1 then (f_Bk_sizeOf (TCt_bk z) 20) else (if p0 = 2 then (f_Bk_tokensOfBodies (TCt_bk z)) else (-2))))
set_option maxHeartbeats 4000000 in
set_option maxRecDepth 100000 in
theorem c_Ct_count (l : Launch) (dC : Nat → ClassId) (dI : Nat → Nat → Nat) (ad : Nat → Nat) (ca : Nat → ClassId) (sz : Nat) (z : TCt) (p0 : Int32) (F : Int32) (he : F = f_Ct_count z p0) : wx_Mi l y_Ct_count ws_Ct_count ({ frames := 1, cells := 0, slots := 0, locals := 22 } : Room) (dC, dI) vwCl (t_C ca) [.ref (ad 15), .int p0] (w_C ad ca z) sz (fun _ : Unit => w_C ad ca z) (fun (r : Int32) (_ : Unit) => r = F) := by
  refine Met.ofW (cc := b_Ct_count) (maxL := 2) (ret := some .int) (by decide) rfl ?_
  intro p e s m args below meth c s₁ B hml hv
  obtain ⟨rfl, hsz, hP, hK, hD0, hN⟩ := hv
  have hx := B.exec
  have hb := B.bytes
  have hr := B.returns
  have hts := atoms_spec (ws := ws_Ct_count) B.pre
  have ht : ∀ w ∈ TB, w.before _ s = true := fun w h => hts w (List.mem_cons_of_mem _ h)
  have hown : s.vm.findClass R_Ct = some m.cls := findClass_of_methodNamed B.named
  have hlocks := B.notSynchronized
  subst hsz
  have hD := hD0.self (sz := s.heap.size)
  generalize hAe : va_A (w_C ad ca z) s.heap.size = A at hD ⊢
  have hA : ∀ q : Nat, s.heap.size ≤ q → A q := fun q h => by rw [← hAe]; exact Or.inr h
  have hS : va_S A s.heap s.heap [] := va_S.rf
  have hl := lv_entry ([.ref (ad 15), .int p0]) (n := 2) (Nat.le_of_ble_eq_true rfl)
  rw [lg_entry_eq]
  generalize (lg_sl ([.ref (ad 15), .int p0]) ++ List.replicate (2 - (lg_sl ([.ref (ad 15), .int p0])).length) Slot.unset).toArray = ls at hl ⊢
  have hl : lv_has ls 2 [(0, .ref (ad 15)), (1, .int p0)] := hl
  unfold f_Ct_count at he
  refine lv_iload_n hx hb d_Ct_count_0 rfl (lv_at hl 1 rfl) ?_
  rcases Decidable.em (p0 = 0) with c_1 | c_1
  · have he := he.trans (if_pos c_1)
    refine lv_tableIn (off := 27) (tgt := 28) hx hb d_Ct_count_1 (by rw [c_1]; decide) (by rw [c_1]; decide) (by rw [c_1]; rfl) (by decide) ?_
    refine lv_aload_n hx hb d_Ct_count_28 rfl (lv_at hl 0 rfl) ?_
    refine va_get (D := (dC, dI)) (ci := 3) (v := .ref (ad 8)) (C := R_Ct) (T := T_Ct) (N := 2) hx hb ht i_Ct hown hK hP 0 rfl rfl 0 (by decide) (ht _ q_167) (fun _ h9 => h9) rfl d_Ct_count_29 ?_
    refine va_get (D := (dC, dI)) (ci := 0) (v := .int (TBk_bodyCount (TCt_bk z))) (C := R_Bk) (T := T_Bk) (N := 7) hx hb ht i_Bk hown hK hP 9 rfl rfl 6 (by decide) (ht _ q_74) (fun _ h9 => h9) rfl d_Ct_count_32 ?_
    exact W.iret hx hb hr (v := (TBk_bodyCount (TCt_bk z))) (fun t ht hW => ⟨⟨(TBk_bodyCount (TCt_bk z)), (), rfl, he.symm, by rw [ht]; exact hP, va_K.moved hW.alike hK, hD⟩, hS.F ht⟩) hS.2.2 d_Ct_count_35
  · have he := he.trans (if_neg c_1)
    rcases Decidable.em (p0 = 1) with c_2 | c_2
    · have he := he.trans (if_pos c_2)
      refine lv_tableIn (off := 35) (tgt := 36) hx hb d_Ct_count_1 (by rw [c_2]; decide) (by rw [c_2]; decide) (by rw [c_2]; rfl) (by decide) ?_
      refine lv_aload_n hx hb d_Ct_count_36 rfl (lv_at hl 0 rfl) ?_
      refine va_get (D := (dC, dI)) (ci := 3) (v := .ref (ad 8)) (C := R_Ct) (T := T_Ct) (N := 2) hx hb ht i_Ct hown hK hP 0 rfl rfl 0 (by decide) (ht _ q_167) (fun _ h9 => h9) rfl d_Ct_count_37 ?_
      refine lv_bipush (v := 20) hx hb d_Ct_count_40 (by decide) ?_
      refine wx_ci (wS := fun _ : Unit => w_B ad ca (TCt_bk z)) (ws2 := fun _ : Unit => w_C ad ca z) (va_runV (As := [.int 20]) (rest := []) ⟨hx, hb, hml, hown, ht⟩ (c_Bk_sizeOf l dC dI ad ca s.heap.size (TCt_bk z) 20 _ rfl) (cwV 1 ht (tb_V q_434 q_217 q_218 q_43 q_219) rfl rfl rfl p_Bk_sizeOf ⟨show 0 + 1 ≤ 1 by omega, show 8 + (2 + 11) + 0 ≤ 22 by omega⟩) (wx_preV (wc := (w_B ad ca (TCt_bk z))) hN hK hP hD [9, 10, 11, 12, 13, 14, 15] [6, 7, 8, 9, 10, 11] rfl (by decide) rfl (ci := 0) (q0 := 0) rfl rfl) rfl rfl hl.1 rfl (lv_room (Nat.le_of_ble_eq_true rfl)) d_Ct_count_42 ⟨Nat.zero_le _, Nat.zero_le _⟩) hP hD hS hA [9, 10, 11, 12, 13, 14, 15] [0, 1, 2, 3, 4, 5, 6, 7, 8] [0, 1, 2, 3, 4, 5, 6, 7, 8, 9, 10, 11, 12, 13, 14, 15] rfl rfl (by decide) (by decide) (by decide) (fun _ => rfl) (fun r_3 _ H locs hw_3 hP hD hS => ?_)
      subst hw_3
      have hP : va_P (dC, dI) vwCl (w_C ad ca z) H := hP
      have hD : va_D A (w_C ad ca z) := hD
      exact W.iret hx hb hr (v := (f_Bk_sizeOf (TCt_bk z) 20)) (fun t ht hW => ⟨⟨(f_Bk_sizeOf (TCt_bk z) 20), (), rfl, he.symm, by rw [ht]; exact hP, va_K.moved hW.alike hK, hD⟩, hS.F ht⟩) hS.2.2 d_Ct_count_45
    · have he := he.trans (if_neg c_2)
      rcases Decidable.em (p0 = 2) with c_4 | c_4
      · have he := he.trans (if_pos c_4)
        refine lv_tableIn (off := 45) (tgt := 46) hx hb d_Ct_count_1 (by rw [c_4]; decide) (by rw [c_4]; decide) (by rw [c_4]; rfl) (by decide) ?_
        refine lv_aload_n hx hb d_Ct_count_46 rfl (lv_at hl 0 rfl) ?_
        refine va_get (D := (dC, dI)) (ci := 3) (v := .ref (ad 8)) (C := R_Ct) (T := T_Ct) (N := 2) hx hb ht i_Ct hown hK hP 0 rfl rfl 0 (by decide) (ht _ q_167) (fun _ h9 => h9) rfl d_Ct_count_47 ?_
        refine wx_ci (wS := fun _ : Unit => w_B ad ca (TCt_bk z)) (ws2 := fun _ : Unit => w_C ad ca z) (va_runV (As := []) (rest := []) ⟨hx, hb, hml, hown, ht⟩ (c_Bk_tokensOfBodies l dC dI ad ca s.heap.size (TCt_bk z) _ rfl) (cwV 0 ht (tb_V q_435 q_436 q_437 q_43 q_438) rfl rfl rfl p_Bk_tokensOfBodies ⟨show 0 + 1 ≤ 1 by omega, show 8 + (3 + 11) + 0 ≤ 22 by omega⟩) (wx_preV (wc := (w_B ad ca (TCt_bk z))) hN hK hP hD [9, 10, 11, 12, 13, 14, 15] [6, 7, 8, 9, 10, 11] rfl (by decide) rfl (ci := 0) (q0 := 0) rfl rfl) rfl rfl hl.1 rfl (lv_room (Nat.le_of_ble_eq_true rfl)) d_Ct_count_50 ⟨Nat.zero_le _, Nat.zero_le _⟩) hP hD hS hA [9, 10, 11, 12, 13, 14, 15] [0, 1, 2, 3, 4, 5, 6, 7, 8] [0, 1, 2, 3, 4, 5, 6, 7, 8, 9, 10, 11, 12, 13, 14, 15] rfl rfl (by decide) (by decide) (by decide) (fun _ => rfl) (fun r_5 _ H locs hw_5 hP hD hS => ?_)
        subst hw_5
        have hP : va_P (dC, dI) vwCl (w_C ad ca z) H := hP
        have hD : va_D A (w_C ad ca z) := hD
        exact W.iret hx hb hr (v := (f_Bk_tokensOfBodies (TCt_bk z))) (fun t ht hW => ⟨⟨(f_Bk_tokensOfBodies (TCt_bk z)), (), rfl, he.symm, by rw [ht]; exact hP, va_K.moved hW.alike hK, hD⟩, hS.F ht⟩) hS.2.2 d_Ct_count_53
      · have he := he.trans (if_neg c_4)
        have ec_1 := lv_neT (a := 0) c_1 (by decide)
        have ec_2 := lv_neT (a := 1) c_2 (by decide)
        have ec_4 := lv_neT (a := 2) c_4 (by decide)
        refine lv_tableOut (tgt := 54) hx hb d_Ct_count_1 (by omega) (by decide) ?_
        refine lv_bipush (v := (-2)) hx hb d_Ct_count_54 (by decide) ?_
        exact W.iret hx hb hr (v := (-2)) (fun t ht hW => ⟨⟨(-2), (), rfl, he.symm, by rw [ht]; exact hP, va_K.moved hW.alike hK, hD⟩, hS.F ht⟩) hS.2.2 d_Ct_count_56
