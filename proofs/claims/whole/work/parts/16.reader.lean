theorem q_10 : Cond.selects R_Bk y_Bk_haveTheSameTokens y_Bk_haveTheSameTokens ∈ TB := tq 10 (by decide +kernel) rfl
theorem q_45 : Cond.initialized R_Rd ∈ TB := tq 45 (by decide +kernel) rfl
theorem q_104 : Cond.fieldLink R_Rd 18 "ConditionText$Reader" "book" "LConditionText$Book;" ∈ TB := tq 104 (by decide +kernel) rfl
theorem q_105 : Cond.fieldLink R_Rd 9 "ConditionText$Reader" "rows" "[I" ∈ TB := tq 105 (by decide +kernel) rfl
theorem q_106 : Cond.fieldLink R_Rd 15 "ConditionText$Reader" "places" "[I" ∈ TB := tq 106 (by decide +kernel) rfl
theorem q_107 : Cond.fieldLink R_Rd 22 "ConditionText$Reader" "top" "I" ∈ TB := tq 107 (by decide +kernel) rfl
theorem q_108 : Cond.fieldLink R_Rd 26 "ConditionText$Reader" "kept" "I" ∈ TB := tq 108 (by decide +kernel) rfl
theorem q_109 : Cond.fieldLink R_Rd 29 "ConditionText$Reader" "steps" "I" ∈ TB := tq 109 (by decide +kernel) rfl
theorem q_251 : Cond.methodLink R_Rd 32 y_Rd_goOnWith ∈ TB := tq 251 (by decide +kernel) rfl
theorem q_252 : Cond.instanceMethod y_Rd_goOnWith ∈ TB := tq 252 (by decide +kernel) rfl
theorem q_253 : Cond.selects R_Rd y_Rd_goOnWith y_Rd_goOnWith ∈ TB := tq 253 (by decide +kernel) rfl
theorem q_254 : Cond.code y_Rd_goOnWith b_Rd_goOnWith 2 (none : Option Jvm.ClassFile.FieldType) ∈ TB := tq 254 (by decide +kernel) rfl
theorem q_260 : Cond.methodLink R_Rd 36 y_Bk_sizeOf ∈ TB := tq 260 (by decide +kernel) rfl
theorem q_261 : Cond.methodLink R_Rd 42 y_Bk_tokenIn ∈ TB := tq 261 (by decide +kernel) rfl
theorem q_279 : Cond.static y_Ct_isMacro ∈ TB := tq 279 (by decide +kernel) rfl
theorem q_280 : Cond.code y_Ct_isMacro b_Ct_isMacro 1 (some .boolean) ∈ TB := tq 280 (by decide +kernel) rfl
theorem q_335 : Cond.methodLink R_Bk 52 y_Bk_haveTheSameTokens ∈ TB := tq 335 (by decide +kernel) rfl
theorem q_337 : Cond.instanceMethod y_Bk_haveTheSameTokens ∈ TB := tq 337 (by decide +kernel) rfl
theorem q_338 : Cond.code y_Bk_haveTheSameTokens b_Bk_haveTheSameTokens 5 (some .boolean) ∈ TB := tq 338 (by decide +kernel) rfl
theorem d_Bk_meanTheSame_0 : decode b_Bk_meanTheSame 0 = .ok (.aload_n 0, 1) := by decide +kernel
theorem d_Bk_meanTheSame_1 : decode b_Bk_meanTheSame 1 = .ok (.iload_n 1, 1) := by decide +kernel
theorem d_Bk_meanTheSame_2 : decode b_Bk_meanTheSame 2 = .ok (.invokevirtual 43, 3) := by decide +kernel
theorem d_Bk_meanTheSame_5 : decode b_Bk_meanTheSame 5 = .ok (.istore_n 3, 1) := by decide +kernel
theorem d_Bk_meanTheSame_6 : decode b_Bk_meanTheSame 6 = .ok (.iload_n 3, 1) := by decide +kernel
theorem d_Bk_meanTheSame_7 : decode b_Bk_meanTheSame 7 = .ok (.aload_n 0, 1) := by decide +kernel
theorem d_Bk_meanTheSame_8 : decode b_Bk_meanTheSame 8 = .ok (.iload_n 2, 1) := by decide +kernel
theorem d_Bk_meanTheSame_9 : decode b_Bk_meanTheSame 9 = .ok (.invokevirtual 43, 3) := by decide +kernel
theorem d_Bk_meanTheSame_12 : decode b_Bk_meanTheSame 12 = .ok (.if_icmp .eq 5, 3) := by decide +kernel
theorem d_Bk_meanTheSame_15 : decode b_Bk_meanTheSame 15 = .ok (.iconst 0, 1) := by decide +kernel
theorem d_Bk_meanTheSame_16 : decode b_Bk_meanTheSame 16 = .ok (.ireturn, 1) := by decide +kernel
theorem d_Bk_meanTheSame_17 : decode b_Bk_meanTheSame 17 = .ok (.iload_n 3, 1) := by decide +kernel
theorem d_Bk_meanTheSame_18 : decode b_Bk_meanTheSame 18 = .ok (.invokestatic 49, 3) := by decide +kernel
theorem d_Bk_meanTheSame_21 : decode b_Bk_meanTheSame 21 = .ok (.ifCond .eq 18, 3) := by decide +kernel
theorem d_Bk_meanTheSame_24 : decode b_Bk_meanTheSame 24 = .ok (.aload_n 0, 1) := by decide +kernel
theorem d_Bk_meanTheSame_25 : decode b_Bk_meanTheSame 25 = .ok (.aload_n 0, 1) := by decide +kernel
theorem d_Bk_meanTheSame_26 : decode b_Bk_meanTheSame 26 = .ok (.iload_n 1, 1) := by decide +kernel
theorem d_Bk_meanTheSame_27 : decode b_Bk_meanTheSame 27 = .ok (.invokevirtual 46, 3) := by decide +kernel
theorem d_Bk_meanTheSame_30 : decode b_Bk_meanTheSame 30 = .ok (.aload_n 0, 1) := by decide +kernel
theorem d_Bk_meanTheSame_31 : decode b_Bk_meanTheSame 31 = .ok (.iload_n 2, 1) := by decide +kernel
theorem d_Bk_meanTheSame_32 : decode b_Bk_meanTheSame 32 = .ok (.invokevirtual 46, 3) := by decide +kernel
theorem d_Bk_meanTheSame_35 : decode b_Bk_meanTheSame 35 = .ok (.invokevirtual 52, 3) := by decide +kernel
theorem d_Bk_meanTheSame_38 : decode b_Bk_meanTheSame 38 = .ok (.ireturn, 1) := by decide +kernel
theorem d_Bk_meanTheSame_39 : decode b_Bk_meanTheSame 39 = .ok (.aload_n 0, 1) := by decide +kernel
theorem d_Bk_meanTheSame_40 : decode b_Bk_meanTheSame 40 = .ok (.iload_n 1, 1) := by decide +kernel
theorem d_Bk_meanTheSame_41 : decode b_Bk_meanTheSame 41 = .ok (.invokevirtual 46, 3) := by decide +kernel
theorem d_Bk_meanTheSame_44 : decode b_Bk_meanTheSame 44 = .ok (.aload_n 0, 1) := by decide +kernel
theorem d_Bk_meanTheSame_45 : decode b_Bk_meanTheSame 45 = .ok (.iload_n 2, 1) := by decide +kernel
theorem d_Bk_meanTheSame_46 : decode b_Bk_meanTheSame 46 = .ok (.invokevirtual 46, 3) := by decide +kernel
theorem d_Bk_meanTheSame_49 : decode b_Bk_meanTheSame 49 = .ok (.if_icmp .ne 7, 3) := by decide +kernel
theorem d_Bk_meanTheSame_52 : decode b_Bk_meanTheSame 52 = .ok (.iconst 1, 1) := by decide +kernel
theorem d_Bk_meanTheSame_53 : decode b_Bk_meanTheSame 53 = .ok (.goto 4, 3) := by decide +kernel
theorem d_Bk_meanTheSame_56 : decode b_Bk_meanTheSame 56 = .ok (.iconst 0, 1) := by decide +kernel
theorem d_Bk_meanTheSame_57 : decode b_Bk_meanTheSame 57 = .ok (.ireturn, 1) := by decide +kernel
theorem d_Rd_goOnWith_0 : decode b_Rd_goOnWith 0 = .ok (.aload_n 0, 1) := by decide +kernel
theorem d_Rd_goOnWith_1 : decode b_Rd_goOnWith 1 = .ok (.getfield 22, 3) := by decide +kernel
theorem d_Rd_goOnWith_4 : decode b_Rd_goOnWith 4 = .ok (.iconst (-1), 1) := by decide +kernel
theorem d_Rd_goOnWith_5 : decode b_Rd_goOnWith 5 = .ok (.if_icmp .lt 47, 3) := by decide +kernel
theorem d_Rd_goOnWith_8 : decode b_Rd_goOnWith 8 = .ok (.aload_n 0, 1) := by decide +kernel
theorem d_Rd_goOnWith_9 : decode b_Rd_goOnWith 9 = .ok (.getfield 22, 3) := by decide +kernel
theorem d_Rd_goOnWith_12 : decode b_Rd_goOnWith 12 = .ok (.aload_n 0, 1) := by decide +kernel
theorem d_Rd_goOnWith_13 : decode b_Rd_goOnWith 13 = .ok (.getfield 9, 3) := by decide +kernel
theorem d_Rd_goOnWith_16 : decode b_Rd_goOnWith 16 = .ok (.arraylength, 1) := by decide +kernel
theorem d_Rd_goOnWith_17 : decode b_Rd_goOnWith 17 = .ok (.iconst 1, 1) := by decide +kernel
theorem d_Rd_goOnWith_18 : decode b_Rd_goOnWith 18 = .ok (.isub, 1) := by decide +kernel
theorem d_Rd_goOnWith_19 : decode b_Rd_goOnWith 19 = .ok (.if_icmp .ge 33, 3) := by decide +kernel
theorem d_Rd_goOnWith_22 : decode b_Rd_goOnWith 22 = .ok (.aload_n 0, 1) := by decide +kernel
theorem d_Rd_goOnWith_23 : decode b_Rd_goOnWith 23 = .ok (.dup, 1) := by decide +kernel
theorem d_Rd_goOnWith_24 : decode b_Rd_goOnWith 24 = .ok (.getfield 22, 3) := by decide +kernel
theorem d_Rd_goOnWith_27 : decode b_Rd_goOnWith 27 = .ok (.iconst 1, 1) := by decide +kernel
theorem d_Rd_goOnWith_28 : decode b_Rd_goOnWith 28 = .ok (.iadd, 1) := by decide +kernel
theorem d_Rd_goOnWith_29 : decode b_Rd_goOnWith 29 = .ok (.putfield 22, 3) := by decide +kernel
theorem d_Rd_goOnWith_32 : decode b_Rd_goOnWith 32 = .ok (.aload_n 0, 1) := by decide +kernel
theorem d_Rd_goOnWith_33 : decode b_Rd_goOnWith 33 = .ok (.getfield 9, 3) := by decide +kernel
theorem d_Rd_goOnWith_36 : decode b_Rd_goOnWith 36 = .ok (.aload_n 0, 1) := by decide +kernel
theorem d_Rd_goOnWith_37 : decode b_Rd_goOnWith 37 = .ok (.getfield 22, 3) := by decide +kernel
theorem d_Rd_goOnWith_40 : decode b_Rd_goOnWith 40 = .ok (.iload_n 1, 1) := by decide +kernel
theorem d_Rd_goOnWith_41 : decode b_Rd_goOnWith 41 = .ok (.iastore, 1) := by decide +kernel
theorem d_Rd_goOnWith_42 : decode b_Rd_goOnWith 42 = .ok (.aload_n 0, 1) := by decide +kernel
theorem d_Rd_goOnWith_43 : decode b_Rd_goOnWith 43 = .ok (.getfield 15, 3) := by decide +kernel
theorem d_Rd_goOnWith_46 : decode b_Rd_goOnWith 46 = .ok (.aload_n 0, 1) := by decide +kernel
theorem d_Rd_goOnWith_47 : decode b_Rd_goOnWith 47 = .ok (.getfield 22, 3) := by decide +kernel
theorem d_Rd_goOnWith_50 : decode b_Rd_goOnWith 50 = .ok (.iconst 0, 1) := by decide +kernel
theorem d_Rd_goOnWith_51 : decode b_Rd_goOnWith 51 = .ok (.iastore, 1) := by decide +kernel
theorem d_Rd_goOnWith_52 : decode b_Rd_goOnWith 52 = .ok (.return_, 1) := by decide +kernel
theorem d_Rd_restart_0 : decode b_Rd_restart 0 = .ok (.aload_n 0, 1) := by decide +kernel
theorem d_Rd_restart_1 : decode b_Rd_restart 1 = .ok (.iconst (-1), 1) := by decide +kernel
theorem d_Rd_restart_2 : decode b_Rd_restart 2 = .ok (.putfield 22, 3) := by decide +kernel
theorem d_Rd_restart_5 : decode b_Rd_restart 5 = .ok (.aload_n 0, 1) := by decide +kernel
theorem d_Rd_restart_6 : decode b_Rd_restart 6 = .ok (.iconst (-1), 1) := by decide +kernel
theorem d_Rd_restart_7 : decode b_Rd_restart 7 = .ok (.putfield 26, 3) := by decide +kernel
theorem d_Rd_restart_10 : decode b_Rd_restart 10 = .ok (.aload_n 0, 1) := by decide +kernel
theorem d_Rd_restart_11 : decode b_Rd_restart 11 = .ok (.iconst 0, 1) := by decide +kernel
theorem d_Rd_restart_12 : decode b_Rd_restart 12 = .ok (.putfield 29, 3) := by decide +kernel
theorem d_Rd_restart_15 : decode b_Rd_restart 15 = .ok (.aload_n 0, 1) := by decide +kernel
theorem d_Rd_restart_16 : decode b_Rd_restart 16 = .ok (.bipush 20, 2) := by decide +kernel
theorem d_Rd_restart_18 : decode b_Rd_restart 18 = .ok (.invokevirtual 32, 3) := by decide +kernel
theorem d_Rd_restart_21 : decode b_Rd_restart 21 = .ok (.return_, 1) := by decide +kernel
theorem d_Rd_keep_0 : decode b_Rd_keep 0 = .ok (.aload_n 0, 1) := by decide +kernel
theorem d_Rd_keep_1 : decode b_Rd_keep 1 = .ok (.iload_n 1, 1) := by decide +kernel
theorem d_Rd_keep_2 : decode b_Rd_keep 2 = .ok (.putfield 26, 3) := by decide +kernel
theorem d_Rd_keep_5 : decode b_Rd_keep 5 = .ok (.return_, 1) := by decide +kernel
theorem d_Rd_stepsMade_0 : decode b_Rd_stepsMade 0 = .ok (.aload_n 0, 1) := by decide +kernel
theorem d_Rd_stepsMade_1 : decode b_Rd_stepsMade 1 = .ok (.getfield 29, 3) := by decide +kernel
theorem d_Rd_stepsMade_4 : decode b_Rd_stepsMade 4 = .ok (.ireturn, 1) := by decide +kernel
theorem d_Rd_look_0 : decode b_Rd_look 0 = .ok (.aload_n 0, 1) := by decide +kernel
theorem d_Rd_look_1 : decode b_Rd_look 1 = .ok (.getfield 26, 3) := by decide +kernel
theorem d_Rd_look_4 : decode b_Rd_look 4 = .ok (.iconst (-1), 1) := by decide +kernel
theorem d_Rd_look_5 : decode b_Rd_look 5 = .ok (.if_icmp .eq 15, 3) := by decide +kernel
theorem d_Rd_look_8 : decode b_Rd_look 8 = .ok (.aload_n 0, 1) := by decide +kernel
theorem d_Rd_look_9 : decode b_Rd_look 9 = .ok (.getfield 26, 3) := by decide +kernel
theorem d_Rd_look_12 : decode b_Rd_look 12 = .ok (.istore_n 1, 1) := by decide +kernel
theorem d_Rd_look_13 : decode b_Rd_look 13 = .ok (.aload_n 0, 1) := by decide +kernel
theorem d_Rd_look_14 : decode b_Rd_look 14 = .ok (.iconst (-1), 1) := by decide +kernel
theorem d_Rd_look_15 : decode b_Rd_look 15 = .ok (.putfield 26, 3) := by decide +kernel
theorem d_Rd_look_18 : decode b_Rd_look 18 = .ok (.iload_n 1, 1) := by decide +kernel
theorem d_Rd_look_19 : decode b_Rd_look 19 = .ok (.ireturn, 1) := by decide +kernel
theorem d_Rd_look_20 : decode b_Rd_look 20 = .ok (.aload_n 0, 1) := by decide +kernel
theorem d_Rd_look_21 : decode b_Rd_look 21 = .ok (.getfield 22, 3) := by decide +kernel
theorem d_Rd_look_24 : decode b_Rd_look 24 = .ok (.ifCond .lt 56, 3) := by decide +kernel
theorem d_Rd_look_27 : decode b_Rd_look 27 = .ok (.aload_n 0, 1) := by decide +kernel
theorem d_Rd_look_28 : decode b_Rd_look 28 = .ok (.getfield 22, 3) := by decide +kernel
theorem d_Rd_look_31 : decode b_Rd_look 31 = .ok (.aload_n 0, 1) := by decide +kernel
theorem d_Rd_look_32 : decode b_Rd_look 32 = .ok (.getfield 9, 3) := by decide +kernel
theorem d_Rd_look_35 : decode b_Rd_look 35 = .ok (.arraylength, 1) := by decide +kernel
theorem d_Rd_look_36 : decode b_Rd_look 36 = .ok (.if_icmp .ge 44, 3) := by decide +kernel
theorem d_Rd_look_39 : decode b_Rd_look 39 = .ok (.aload_n 0, 1) := by decide +kernel
theorem d_Rd_look_40 : decode b_Rd_look 40 = .ok (.getfield 15, 3) := by decide +kernel
theorem d_Rd_look_43 : decode b_Rd_look 43 = .ok (.aload_n 0, 1) := by decide +kernel
theorem d_Rd_look_44 : decode b_Rd_look 44 = .ok (.getfield 22, 3) := by decide +kernel
theorem d_Rd_look_47 : decode b_Rd_look 47 = .ok (.iaload, 1) := by decide +kernel
theorem d_Rd_look_48 : decode b_Rd_look 48 = .ok (.aload_n 0, 1) := by decide +kernel
theorem d_Rd_look_49 : decode b_Rd_look 49 = .ok (.getfield 18, 3) := by decide +kernel
theorem d_Rd_look_52 : decode b_Rd_look 52 = .ok (.aload_n 0, 1) := by decide +kernel
theorem d_Rd_look_53 : decode b_Rd_look 53 = .ok (.getfield 9, 3) := by decide +kernel
theorem d_Rd_look_56 : decode b_Rd_look 56 = .ok (.aload_n 0, 1) := by decide +kernel
theorem d_Rd_look_57 : decode b_Rd_look 57 = .ok (.getfield 22, 3) := by decide +kernel
theorem d_Rd_look_60 : decode b_Rd_look 60 = .ok (.iaload, 1) := by decide +kernel
theorem d_Rd_look_61 : decode b_Rd_look 61 = .ok (.invokevirtual 36, 3) := by decide +kernel
theorem d_Rd_look_64 : decode b_Rd_look 64 = .ok (.if_icmp .lt 16, 3) := by decide +kernel
theorem d_Rd_look_67 : decode b_Rd_look 67 = .ok (.aload_n 0, 1) := by decide +kernel
theorem d_Rd_look_68 : decode b_Rd_look 68 = .ok (.dup, 1) := by decide +kernel
theorem d_Rd_look_69 : decode b_Rd_look 69 = .ok (.getfield 22, 3) := by decide +kernel
theorem d_Rd_look_72 : decode b_Rd_look 72 = .ok (.iconst 1, 1) := by decide +kernel
theorem d_Rd_look_73 : decode b_Rd_look 73 = .ok (.isub, 1) := by decide +kernel
theorem d_Rd_look_74 : decode b_Rd_look 74 = .ok (.putfield 22, 3) := by decide +kernel
theorem d_Rd_look_77 : decode b_Rd_look 77 = .ok (.goto (-57), 3) := by decide +kernel
theorem d_Rd_look_80 : decode b_Rd_look 80 = .ok (.aload_n 0, 1) := by decide +kernel
theorem d_Rd_look_81 : decode b_Rd_look 81 = .ok (.getfield 22, 3) := by decide +kernel
theorem d_Rd_look_84 : decode b_Rd_look 84 = .ok (.ifCond .lt 15, 3) := by decide +kernel
theorem d_Rd_look_87 : decode b_Rd_look 87 = .ok (.aload_n 0, 1) := by decide +kernel
theorem d_Rd_look_88 : decode b_Rd_look 88 = .ok (.getfield 22, 3) := by decide +kernel
theorem d_Rd_look_91 : decode b_Rd_look 91 = .ok (.aload_n 0, 1) := by decide +kernel
theorem d_Rd_look_92 : decode b_Rd_look 92 = .ok (.getfield 9, 3) := by decide +kernel
theorem d_Rd_look_95 : decode b_Rd_look 95 = .ok (.arraylength, 1) := by decide +kernel
theorem d_Rd_look_96 : decode b_Rd_look 96 = .ok (.if_icmp .lt 5, 3) := by decide +kernel
theorem d_Rd_look_99 : decode b_Rd_look 99 = .ok (.iconst (-1), 1) := by decide +kernel
theorem d_Rd_look_100 : decode b_Rd_look 100 = .ok (.ireturn, 1) := by decide +kernel
theorem d_Rd_look_101 : decode b_Rd_look 101 = .ok (.aload_n 0, 1) := by decide +kernel
theorem d_Rd_look_102 : decode b_Rd_look 102 = .ok (.getfield 29, 3) := by decide +kernel
theorem d_Rd_look_105 : decode b_Rd_look 105 = .ok (.sipush 5000, 3) := by decide +kernel
theorem d_Rd_look_108 : decode b_Rd_look 108 = .ok (.if_icmp .lt 6, 3) := by decide +kernel
theorem d_Rd_look_111 : decode b_Rd_look 111 = .ok (.bipush (-2), 2) := by decide +kernel
theorem d_Rd_look_113 : decode b_Rd_look 113 = .ok (.ireturn, 1) := by decide +kernel
theorem d_Rd_look_114 : decode b_Rd_look 114 = .ok (.aload_n 0, 1) := by decide +kernel
theorem d_Rd_look_115 : decode b_Rd_look 115 = .ok (.dup, 1) := by decide +kernel
theorem d_Rd_look_116 : decode b_Rd_look 116 = .ok (.getfield 29, 3) := by decide +kernel
theorem d_Rd_look_119 : decode b_Rd_look 119 = .ok (.iconst 1, 1) := by decide +kernel
theorem d_Rd_look_120 : decode b_Rd_look 120 = .ok (.iadd, 1) := by decide +kernel
theorem d_Rd_look_121 : decode b_Rd_look 121 = .ok (.putfield 29, 3) := by decide +kernel
theorem d_Rd_look_124 : decode b_Rd_look 124 = .ok (.aload_n 0, 1) := by decide +kernel
theorem d_Rd_look_125 : decode b_Rd_look 125 = .ok (.getfield 15, 3) := by decide +kernel
theorem d_Rd_look_128 : decode b_Rd_look 128 = .ok (.aload_n 0, 1) := by decide +kernel
theorem d_Rd_look_129 : decode b_Rd_look 129 = .ok (.getfield 22, 3) := by decide +kernel
theorem d_Rd_look_132 : decode b_Rd_look 132 = .ok (.dup2, 1) := by decide +kernel
theorem d_Rd_look_133 : decode b_Rd_look 133 = .ok (.iaload, 1) := by decide +kernel
theorem d_Rd_look_134 : decode b_Rd_look 134 = .ok (.iconst 1, 1) := by decide +kernel
theorem d_Rd_look_135 : decode b_Rd_look 135 = .ok (.iadd, 1) := by decide +kernel
theorem d_Rd_look_136 : decode b_Rd_look 136 = .ok (.iastore, 1) := by decide +kernel
theorem d_Rd_look_137 : decode b_Rd_look 137 = .ok (.aload_n 0, 1) := by decide +kernel
theorem d_Rd_look_138 : decode b_Rd_look 138 = .ok (.getfield 18, 3) := by decide +kernel
theorem d_Rd_look_141 : decode b_Rd_look 141 = .ok (.aload_n 0, 1) := by decide +kernel
theorem d_Rd_look_142 : decode b_Rd_look 142 = .ok (.getfield 9, 3) := by decide +kernel
theorem d_Rd_look_145 : decode b_Rd_look 145 = .ok (.aload_n 0, 1) := by decide +kernel
theorem d_Rd_look_146 : decode b_Rd_look 146 = .ok (.getfield 22, 3) := by decide +kernel
theorem d_Rd_look_149 : decode b_Rd_look 149 = .ok (.iaload, 1) := by decide +kernel
theorem d_Rd_look_150 : decode b_Rd_look 150 = .ok (.aload_n 0, 1) := by decide +kernel
theorem d_Rd_look_151 : decode b_Rd_look 151 = .ok (.getfield 15, 3) := by decide +kernel
theorem d_Rd_look_154 : decode b_Rd_look 154 = .ok (.aload_n 0, 1) := by decide +kernel
theorem d_Rd_look_155 : decode b_Rd_look 155 = .ok (.getfield 22, 3) := by decide +kernel
theorem d_Rd_look_158 : decode b_Rd_look 158 = .ok (.iaload, 1) := by decide +kernel
theorem d_Rd_look_159 : decode b_Rd_look 159 = .ok (.iconst 1, 1) := by decide +kernel
theorem d_Rd_look_160 : decode b_Rd_look 160 = .ok (.isub, 1) := by decide +kernel
theorem d_Rd_look_161 : decode b_Rd_look 161 = .ok (.invokevirtual 42, 3) := by decide +kernel
theorem d_Rd_look_164 : decode b_Rd_look 164 = .ok (.ireturn, 1) := by decide +kernel
def f_Bk_meanTheSame (b : TBk) (p0 : Int32) (p1 : Int32) : Int32 := (if (f_Bk_kindOf b p0) = (f_Bk_kindOf b p1) then (if (f_Ct_isMacro (f_Bk_kindOf b p0)) = 0 then (if (f_Bk_valueOf b p0) = (f_Bk_valueOf b p1) then 1 else 0) else (f_Bk_haveTheSameTokens b (f_Bk_valueOf b p0) (f_Bk_valueOf b p1))) else 0)
set_option maxHeartbeats 4000000 in
set_option maxRecDepth 100000 in
theorem c_Bk_meanTheSame (l : Launch) (dC : Nat → ClassId) (dI : Nat → Nat → Nat) (ad : Nat → Nat) (ca : Nat → ClassId) (sz : Nat) (b : TBk) (p0 : Int32) (p1 : Int32) (hpre : BkS b) (F : Int32) (he : F = f_Bk_meanTheSame b p0 p1) : wx_Mi l y_Bk_meanTheSame ws_Bk_meanTheSame ({ frames := 2, cells := 0, slots := 0, locals := 47 } : Room) (dC, dI) vwCl (t_B ca) [.ref (ad 8), .int p0, .int p1] (w_B ad ca b) sz (fun _ : Unit => w_B ad ca b) (fun (r : Int32) (_ : Unit) => r = F) := by
  refine Met.ofW (cc := b_Bk_meanTheSame) (maxL := 4) (ret := some .boolean) (by decide) rfl ?_
  intro p e s m args below meth c s₁ B hml hv
  obtain ⟨rfl, hsz, hP, hK, hD0, hN⟩ := hv
  have hx := B.exec
  have hb := B.bytes
  have hr := B.returns
  have hts := atoms_spec (ws := ws_Bk_meanTheSame) B.pre
  have ht : ∀ w ∈ TB, w.before _ s = true := fun w h => hts w (List.mem_cons_of_mem _ h)
  have hown : s.vm.findClass R_Bk = some m.cls := findClass_of_methodNamed B.named
  have hlocks := B.notSynchronized
  subst hsz
  have hD := hD0.self (sz := s.heap.size)
  generalize hAe : va_A (w_B ad ca b) s.heap.size = A at hD ⊢
  have hA : ∀ q : Nat, s.heap.size ≤ q → A q := fun q h => by rw [← hAe]; exact Or.inr h
  have hS : va_S A s.heap s.heap [] := va_S.rf
  have hl := lv_entry ([.ref (ad 8), .int p0, .int p1]) (n := 4) (Nat.le_of_ble_eq_true rfl)
  rw [lg_entry_eq]
  generalize (lg_sl ([.ref (ad 8), .int p0, .int p1]) ++ List.replicate (4 - (lg_sl ([.ref (ad 8), .int p0, .int p1])).length) Slot.unset).toArray = ls at hl ⊢
  have hl : lv_has ls 4 [(0, .ref (ad 8)), (1, .int p0), (2, .int p1)] := hl
  unfold f_Bk_meanTheSame at he
  refine lv_aload_n hx hb d_Bk_meanTheSame_0 rfl (lv_at hl 0 rfl) ?_
  refine lv_iload_n hx hb d_Bk_meanTheSame_1 rfl (lv_at hl 1 rfl) ?_
  refine wx_ci (wS := fun _ : Unit => w_B ad ca b) (ws2 := fun _ : Unit => w_B ad ca b) (va_runV (As := [.int p0]) (rest := []) ⟨hx, hb, hml, hown, ht⟩ (c_Bk_kindOf l dC dI ad ca s.heap.size b p0 _ rfl) (cwV 1 ht (tb_V q_320 q_274 q_275 q_43 q_276) rfl rfl rfl p_Bk_kindOf ⟨show 1 + 1 ≤ 2 by omega, show 8 + (2 + 11) + 20 ≤ 47 by omega⟩) (wx_preV (wc := (w_B ad ca b)) hN hK hP hD [0, 1, 2, 3, 4, 5, 6] [0, 1, 2, 3, 4, 5] rfl (by decide) rfl (ci := 0) (q0 := 0) rfl rfl) rfl rfl hl.1 rfl (lv_room (Nat.le_of_ble_eq_true rfl)) d_Bk_meanTheSame_2 ⟨Nat.zero_le _, Nat.zero_le _⟩) hP hD hS hA [0, 1, 2, 3, 4, 5, 6] [] [0, 1, 2, 3, 4, 5, 6] rfl rfl (by decide) (by decide) (by decide) (fun _ => rfl) (fun r_1 _ H locs hw hP hD hS => ?_)
  subst hw
  have hP : va_P (dC, dI) vwCl (w_B ad ca b) H := hP
  have hD : va_D A (w_B ad ca b) := hD
  refine lv_istore_n (lv' := [(3, .int (f_Bk_kindOf b p0)), (0, .ref (ad 8)), (1, .int p0), (2, .int p1)]) hx hb d_Bk_meanTheSame_5 rfl hl (by decide) rfl (fun ls hl => ?_)
  refine lv_iload_n hx hb d_Bk_meanTheSame_6 rfl (lv_at hl 0 rfl) ?_
  refine lv_aload_n hx hb d_Bk_meanTheSame_7 rfl (lv_at hl 1 rfl) ?_
  refine lv_iload_n hx hb d_Bk_meanTheSame_8 rfl (lv_at hl 3 rfl) ?_
  refine wx_ci (wS := fun _ : Unit => w_B ad ca b) (ws2 := fun _ : Unit => w_B ad ca b) (va_runV (As := [.int p1]) (rest := [.int (f_Bk_kindOf b p0)]) ⟨hx, hb, hml, hown, ht⟩ (c_Bk_kindOf l dC dI ad ca H.size b p1 _ rfl) (cwV 1 ht (tb_V q_320 q_274 q_275 q_43 q_276) rfl rfl rfl p_Bk_kindOf ⟨show 1 + 1 ≤ 2 by omega, show 8 + (2 + 11) + 20 ≤ 47 by omega⟩) (wx_preV (wc := (w_B ad ca b)) hN hK hP hD [0, 1, 2, 3, 4, 5, 6] [0, 1, 2, 3, 4, 5] rfl (by decide) rfl (ci := 0) (q0 := 0) rfl rfl) rfl rfl hl.1 rfl (lv_room (Nat.le_of_ble_eq_true rfl)) d_Bk_meanTheSame_9 ⟨Nat.zero_le _, Nat.zero_le _⟩) hP hD hS hA [0, 1, 2, 3, 4, 5, 6] [] [0, 1, 2, 3, 4, 5, 6] rfl rfl (by decide) (by decide) (by decide) (fun _ => rfl) (fun r_2 _ H locs hw hP hD hS => ?_)
  subst hw
  have hP : va_P (dC, dI) vwCl (w_B ad ca b) H := hP
  have hD : va_D A (w_B ad ca b) := hD
  refine lv_icmp_eq (tgt := 17) hx hb d_Bk_meanTheSame_12 (by decide) (fun c_3 => ?_) (fun c_3 => ?_)
  · have he := he.trans (if_pos c_3)
    refine lv_iload_n hx hb d_Bk_meanTheSame_17 rfl (lv_at hl 0 rfl) ?_
    refine wx_ci (wS := fun _ : Unit => w_E ad ca) (ws2 := fun _ : Unit => w_B ad ca b) (va_runSN (As := [.int (f_Bk_kindOf b p0)]) (rest := []) ⟨hx, hb, hml, hown, ht⟩ (c_Ct_isMacro l dC dI ad ca H.size (f_Bk_kindOf b p0) _ rfl) ⟨va_cnB 1 ht (tb_in q_280) rfl rfl rfl (hN _ nest_3) (ht _ q_42) p_Ct_isMacro.2 ⟨show 0 + 1 ≤ 2 by omega, show 8 + (1 + 11) + 0 ≤ 47 by omega⟩, ht _ q_279, trivial⟩ (wx_preS (wc := (w_E ad ca)) hN hK hP hD [] [] rfl (by decide) rfl) rfl rfl hl.1 rfl (lv_room (Nat.le_of_ble_eq_true rfl)) d_Bk_meanTheSame_18 ⟨Nat.zero_le _, Nat.zero_le _⟩) hP hD hS hA [] [0, 1, 2, 3, 4, 5, 6] [0, 1, 2, 3, 4, 5, 6] rfl rfl (by decide) (by decide) (by decide) (fun _ => rfl) (fun r_4 _ H locs hw hP hD hS => ?_)
    subst hw
    have hP : va_P (dC, dI) vwCl (w_B ad ca b) H := hP
    have hD : va_D A (w_B ad ca b) := hD
    refine lv_if_eq (tgt := 39) hx hb d_Bk_meanTheSame_21 (by decide) (fun c_5 => ?_) (fun c_5 => ?_)
    · have he := he.trans (if_pos c_5)
      refine lv_aload_n hx hb d_Bk_meanTheSame_39 rfl (lv_at hl 1 rfl) ?_
      refine lv_iload_n hx hb d_Bk_meanTheSame_40 rfl (lv_at hl 2 rfl) ?_
      refine wx_ci (wS := fun _ : Unit => w_B ad ca b) (ws2 := fun _ : Unit => w_B ad ca b) (va_runV (As := [.int p0]) (rest := []) ⟨hx, hb, hml, hown, ht⟩ (c_Bk_valueOf l dC dI ad ca H.size b p0 _ rfl) (cwV 1 ht (tb_V q_321 q_282 q_283 q_43 q_284) rfl rfl rfl p_Bk_valueOf ⟨show 1 + 1 ≤ 2 by omega, show 8 + (2 + 11) + 20 ≤ 47 by omega⟩) (wx_preV (wc := (w_B ad ca b)) hN hK hP hD [0, 1, 2, 3, 4, 5, 6] [0, 1, 2, 3, 4, 5] rfl (by decide) rfl (ci := 0) (q0 := 0) rfl rfl) rfl rfl hl.1 rfl (lv_room (Nat.le_of_ble_eq_true rfl)) d_Bk_meanTheSame_41 ⟨Nat.zero_le _, Nat.zero_le _⟩) hP hD hS hA [0, 1, 2, 3, 4, 5, 6] [] [0, 1, 2, 3, 4, 5, 6] rfl rfl (by decide) (by decide) (by decide) (fun _ => rfl) (fun r_6 _ H locs hw hP hD hS => ?_)
      subst hw
      have hP : va_P (dC, dI) vwCl (w_B ad ca b) H := hP
      have hD : va_D A (w_B ad ca b) := hD
      refine lv_aload_n hx hb d_Bk_meanTheSame_44 rfl (lv_at hl 1 rfl) ?_
      refine lv_iload_n hx hb d_Bk_meanTheSame_45 rfl (lv_at hl 3 rfl) ?_
      refine wx_ci (wS := fun _ : Unit => w_B ad ca b) (ws2 := fun _ : Unit => w_B ad ca b) (va_runV (As := [.int p1]) (rest := [.int (f_Bk_valueOf b p0)]) ⟨hx, hb, hml, hown, ht⟩ (c_Bk_valueOf l dC dI ad ca H.size b p1 _ rfl) (cwV 1 ht (tb_V q_321 q_282 q_283 q_43 q_284) rfl rfl rfl p_Bk_valueOf ⟨show 1 + 1 ≤ 2 by omega, show 8 + (2 + 11) + 20 ≤ 47 by omega⟩) (wx_preV (wc := (w_B ad ca b)) hN hK hP hD [0, 1, 2, 3, 4, 5, 6] [0, 1, 2, 3, 4, 5] rfl (by decide) rfl (ci := 0) (q0 := 0) rfl rfl) rfl rfl hl.1 rfl (lv_room (Nat.le_of_ble_eq_true rfl)) d_Bk_meanTheSame_46 ⟨Nat.zero_le _, Nat.zero_le _⟩) hP hD hS hA [0, 1, 2, 3, 4, 5, 6] [] [0, 1, 2, 3, 4, 5, 6] rfl rfl (by decide) (by decide) (by decide) (fun _ => rfl) (fun r_7 _ H locs hw hP hD hS => ?_)
      subst hw
      have hP : va_P (dC, dI) vwCl (w_B ad ca b) H := hP
      have hD : va_D A (w_B ad ca b) := hD
      refine lv_icmp_ne (tgt := 56) hx hb d_Bk_meanTheSame_49 (by decide) (fun c_8 => ?_) (fun c_8 => ?_)
      · have he := he.trans (if_neg c_8)
        refine lv_iconst (v := 0) hx hb d_Bk_meanTheSame_56 (by decide) ?_
        exact W.zret hx hb hr (by rfl) (v := 0) (fun t ht hW => ⟨⟨0, (), rfl, he.symm, by rw [ht]; exact hP, va_K.moved hW.alike hK, hD⟩, hS.F ht⟩) hS.2.2 d_Bk_meanTheSame_57
      · have he := he.trans (if_pos c_8)
        refine lv_iconst (v := 1) hx hb d_Bk_meanTheSame_52 (by decide) ?_
        refine lv_goto (tgt := 57) hx hb d_Bk_meanTheSame_53 (by decide) ?_
        exact W.zret hx hb hr (by rfl) (v := 1) (fun t ht hW => ⟨⟨1, (), rfl, he.symm, by rw [ht]; exact hP, va_K.moved hW.alike hK, hD⟩, hS.F ht⟩) hS.2.2 d_Bk_meanTheSame_57
    · have he := he.trans (if_neg c_5)
      refine lv_aload_n hx hb d_Bk_meanTheSame_24 rfl (lv_at hl 1 rfl) ?_
      refine lv_aload_n hx hb d_Bk_meanTheSame_25 rfl (lv_at hl 1 rfl) ?_
      refine lv_iload_n hx hb d_Bk_meanTheSame_26 rfl (lv_at hl 2 rfl) ?_
      refine wx_ci (wS := fun _ : Unit => w_B ad ca b) (ws2 := fun _ : Unit => w_B ad ca b) (va_runV (As := [.int p0]) (rest := [.ref (ad 8)]) ⟨hx, hb, hml, hown, ht⟩ (c_Bk_valueOf l dC dI ad ca H.size b p0 _ rfl) (cwV 1 ht (tb_V q_321 q_282 q_283 q_43 q_284) rfl rfl rfl p_Bk_valueOf ⟨show 1 + 1 ≤ 2 by omega, show 8 + (2 + 11) + 20 ≤ 47 by omega⟩) (wx_preV (wc := (w_B ad ca b)) hN hK hP hD [0, 1, 2, 3, 4, 5, 6] [0, 1, 2, 3, 4, 5] rfl (by decide) rfl (ci := 0) (q0 := 0) rfl rfl) rfl rfl hl.1 rfl (lv_room (Nat.le_of_ble_eq_true rfl)) d_Bk_meanTheSame_27 ⟨Nat.zero_le _, Nat.zero_le _⟩) hP hD hS hA [0, 1, 2, 3, 4, 5, 6] [] [0, 1, 2, 3, 4, 5, 6] rfl rfl (by decide) (by decide) (by decide) (fun _ => rfl) (fun r_9 _ H locs hw hP hD hS => ?_)
      subst hw
      have hP : va_P (dC, dI) vwCl (w_B ad ca b) H := hP
      have hD : va_D A (w_B ad ca b) := hD
      refine lv_aload_n hx hb d_Bk_meanTheSame_30 rfl (lv_at hl 1 rfl) ?_
      refine lv_iload_n hx hb d_Bk_meanTheSame_31 rfl (lv_at hl 3 rfl) ?_
      refine wx_ci (wS := fun _ : Unit => w_B ad ca b) (ws2 := fun _ : Unit => w_B ad ca b) (va_runV (As := [.int p1]) (rest := [.int (f_Bk_valueOf b p0), .ref (ad 8)]) ⟨hx, hb, hml, hown, ht⟩ (c_Bk_valueOf l dC dI ad ca H.size b p1 _ rfl) (cwV 1 ht (tb_V q_321 q_282 q_283 q_43 q_284) rfl rfl rfl p_Bk_valueOf ⟨show 1 + 1 ≤ 2 by omega, show 8 + (2 + 11) + 20 ≤ 47 by omega⟩) (wx_preV (wc := (w_B ad ca b)) hN hK hP hD [0, 1, 2, 3, 4, 5, 6] [0, 1, 2, 3, 4, 5] rfl (by decide) rfl (ci := 0) (q0 := 0) rfl rfl) rfl rfl hl.1 rfl (lv_room (Nat.le_of_ble_eq_true rfl)) d_Bk_meanTheSame_32 ⟨Nat.zero_le _, Nat.zero_le _⟩) hP hD hS hA [0, 1, 2, 3, 4, 5, 6] [] [0, 1, 2, 3, 4, 5, 6] rfl rfl (by decide) (by decide) (by decide) (fun _ => rfl) (fun r_10 _ H locs hw hP hD hS => ?_)
      subst hw
      have hP : va_P (dC, dI) vwCl (w_B ad ca b) H := hP
      have hD : va_D A (w_B ad ca b) := hD
      refine wx_ci (wS := fun _ : Unit => w_B ad ca b) (ws2 := fun _ : Unit => w_B ad ca b) (va_runV (As := [.int (f_Bk_valueOf b p0), .int (f_Bk_valueOf b p1)]) (rest := []) ⟨hx, hb, hml, hown, ht⟩ (c_Bk_haveTheSameTokens l dC dI ad ca H.size b (f_Bk_valueOf b p0) (f_Bk_valueOf b p1) hpre _ rfl) (cwV 2 ht (tb_V q_335 q_337 q_10 q_43 q_338) rfl rfl rfl p_Bk_haveTheSameTokens ⟨show 1 + 1 ≤ 2 by omega, show 8 + (5 + 11) + 23 ≤ 47 by omega⟩) (wx_preV (wc := (w_B ad ca b)) hN hK hP hD [0, 1, 2, 3, 4, 5, 6] [0, 1, 2, 3, 4, 5] rfl (by decide) rfl (ci := 0) (q0 := 0) rfl rfl) rfl rfl hl.1 rfl (lv_room (Nat.le_of_ble_eq_true rfl)) d_Bk_meanTheSame_35 ⟨Nat.zero_le _, Nat.zero_le _⟩) hP hD hS hA [0, 1, 2, 3, 4, 5, 6] [] [0, 1, 2, 3, 4, 5, 6] rfl rfl (by decide) (by decide) (by decide) (fun _ => rfl) (fun r_11 _ H locs hw hP hD hS => ?_)
      subst hw
      have hP : va_P (dC, dI) vwCl (w_B ad ca b) H := hP
      have hD : va_D A (w_B ad ca b) := hD
      exact W.zret hx hb hr (by rcases hs_01 b (f_Bk_valueOf b p0) (f_Bk_valueOf b p1) with h | h <;> rw [h] <;> rfl) (v := (f_Bk_haveTheSameTokens b (f_Bk_valueOf b p0) (f_Bk_valueOf b p1))) (fun t ht hW => ⟨⟨(f_Bk_haveTheSameTokens b (f_Bk_valueOf b p0) (f_Bk_valueOf b p1)), (), rfl, he.symm, by rw [ht]; exact hP, va_K.moved hW.alike hK, hD⟩, hS.F ht⟩) hS.2.2 d_Bk_meanTheSame_38
  · have he := he.trans (if_neg c_3)
    refine lv_iconst (v := 0) hx hb d_Bk_meanTheSame_15 (by decide) ?_
    exact W.zret hx hb hr (by rfl) (v := 0) (fun t ht hW => ⟨⟨0, (), rfl, he.symm, by rw [ht]; exact hP, va_K.moved hW.alike hK, hD⟩, hS.F ht⟩) hS.2.2 d_Bk_meanTheSame_16
def f_Rd_goOnWith (b : TBk) (r : TRd) (p0 : Int32) : TRd := (if (TRd_top r) < (-1) then r else (if (5001 - 1) ≤ (TRd_top r) then r else (TRd_set_top (TRd_set_places (TRd_set_rows r (upd (TRd_rows r) ((TRd_top r) + 1).toNatClampNeg p0)) (upd (TRd_places r) ((TRd_top r) + 1).toNatClampNeg 0)) ((TRd_top r) + 1))))
set_option maxHeartbeats 4000000 in
set_option maxRecDepth 100000 in
theorem c_Rd_goOnWith (l : Launch) (dC : Nat → ClassId) (dI : Nat → Nat → Nat) (ad : Nat → Nat) (ca : Nat → ClassId) (sz : Nat) (b : TBk) (r : TRd) (p0 : Int32) (F : TRd) (he : F = f_Rd_goOnWith b r p0) : wx_Mv l y_Rd_goOnWith ws_Rd_goOnWith ({ frames := 0, cells := 0, slots := 0, locals := 0 } : Room) (dC, dI) vwCl (t_D ca) [.ref (ad 5), .int p0] (w_D ad ca b r) sz (fun v : TRd => w_D ad ca b v) (fun v : TRd => v = F) := by
  refine Met.ofW (cc := b_Rd_goOnWith) (maxL := 2) (ret := none) (by decide) rfl ?_
  intro p e s m args below meth c s₁ B hml hv
  obtain ⟨rfl, hsz, hP, hK, hD0, hN⟩ := hv
  have hx := B.exec
  have hb := B.bytes
  have hr := B.returns
  have hts := atoms_spec (ws := ws_Rd_goOnWith) B.pre
  have ht : ∀ w ∈ TB, w.before _ s = true := fun w h => hts w (List.mem_cons_of_mem _ h)
  have hown : s.vm.findClass R_Rd = some m.cls := findClass_of_methodNamed B.named
  have hlocks := B.notSynchronized
  subst hsz
  have hD := hD0.self (sz := s.heap.size)
  generalize hAe : va_A (w_D ad ca b r) s.heap.size = A at hD ⊢
  have hA : ∀ q : Nat, s.heap.size ≤ q → A q := fun q h => by rw [← hAe]; exact Or.inr h
  have hS : va_S A s.heap s.heap [] := va_S.rf
  have hl := lv_entry ([.ref (ad 5), .int p0]) (n := 2) (Nat.le_of_ble_eq_true rfl)
  rw [lg_entry_eq]
  generalize (lg_sl ([.ref (ad 5), .int p0]) ++ List.replicate (2 - (lg_sl ([.ref (ad 5), .int p0])).length) Slot.unset).toArray = ls at hl ⊢
  have hl : lv_has ls 2 [(0, .ref (ad 5)), (1, .int p0)] := hl
  unfold f_Rd_goOnWith at he
  refine lv_aload_n hx hb d_Rd_goOnWith_0 rfl (lv_at hl 0 rfl) ?_
  refine va_get (D := (dC, dI)) (ci := 1) (v := .int (TRd_top r)) (C := R_Rd) (T := T_Rd) (N := 6) hx hb ht i_Rd hown hK hP 0 rfl rfl 3 (by decide) (ht _ q_107) (fun _ h9 => h9) rfl d_Rd_goOnWith_1 ?_
  refine lv_iconst (v := (-1)) hx hb d_Rd_goOnWith_4 (by decide) ?_
  refine lv_icmp_lt (tgt := 52) hx hb d_Rd_goOnWith_5 (by decide) (fun c_1 => ?_) (fun c_1 => ?_)
  · have he := he.trans (if_pos c_1)
    exact W.vret hx hb hr (fun t ht hW => ⟨⟨r, rfl, he.symm, by rw [ht]; exact hP, va_K.moved hW.alike hK, hD⟩, hS.F ht⟩) hS.2.2 d_Rd_goOnWith_52
  · have he := he.trans (if_neg c_1)
    refine lv_aload_n hx hb d_Rd_goOnWith_8 rfl (lv_at hl 0 rfl) ?_
    refine va_get (D := (dC, dI)) (ci := 1) (v := .int (TRd_top r)) (C := R_Rd) (T := T_Rd) (N := 6) hx hb ht i_Rd hown hK hP 0 rfl rfl 3 (by decide) (ht _ q_107) (fun _ h9 => h9) rfl d_Rd_goOnWith_9 ?_
    refine lv_aload_n hx hb d_Rd_goOnWith_12 rfl (lv_at hl 0 rfl) ?_
    refine va_get (D := (dC, dI)) (ci := 1) (v := .ref (ad 6)) (C := R_Rd) (T := T_Rd) (N := 6) hx hb ht i_Rd hown hK hP 0 rfl rfl 1 (by decide) (ht _ q_105) (fun _ h9 => h9) rfl d_Rd_goOnWith_13 ?_
    refine va_alen hx hb hK hP 1 0 rfl rfl (v := 5001) rfl d_Rd_goOnWith_16 ?_
    refine lv_iconst (v := 1) hx hb d_Rd_goOnWith_17 (by decide) ?_
    refine lv_isub hx hb d_Rd_goOnWith_18 ?_
    refine lv_icmp_ge (tgt := 52) hx hb d_Rd_goOnWith_19 (by decide) (fun c_2 => ?_) (fun c_2 => ?_)
    · have he := he.trans (if_pos c_2)
      exact W.vret hx hb hr (fun t ht hW => ⟨⟨r, rfl, he.symm, by rw [ht]; exact hP, va_K.moved hW.alike hK, hD⟩, hS.F ht⟩) hS.2.2 d_Rd_goOnWith_52
    · have he := he.trans (if_neg c_2)
      refine lv_aload_n hx hb d_Rd_goOnWith_22 rfl (lv_at hl 0 rfl) ?_
      refine lv_dup hx hb d_Rd_goOnWith_23 rfl ?_
      refine va_get (D := (dC, dI)) (ci := 1) (v := .int (TRd_top r)) (C := R_Rd) (T := T_Rd) (N := 6) hx hb ht i_Rd hown hK hP 0 rfl rfl 3 (by decide) (ht _ q_107) (fun _ h9 => h9) rfl d_Rd_goOnWith_24 ?_
      refine lv_iconst (v := 1) hx hb d_Rd_goOnWith_27 (by decide) ?_
      refine lv_iadd hx hb d_Rd_goOnWith_28 ?_
      refine va_put (D := (dC, dI)) (ci := 1) (v := .int ((TRd_top r) + 1)) (ty := .int) (C := R_Rd) (T := T_Rd) (N := 6) hx hb ht i_Rd ty_Rd ty_Rd_ok nm_Rd hown hK hP hD hS 0 rfl rfl 3 (by decide) (ht _ q_107) (fun _ h9 => h9) rfl (by decide +kernel) rfl rfl (Nat.le_of_ble_eq_true rfl) d_Rd_goOnWith_29 (fun H locs hP hD hS => ?_)
      have hP : va_P (dC, dI) vwCl (w_D ad ca b (TRd_set_top r ((TRd_top r) + 1))) H := hP
      have hD : va_D A (w_D ad ca b (TRd_set_top r ((TRd_top r) + 1))) := hD
      refine lv_aload_n hx hb d_Rd_goOnWith_32 rfl (lv_at hl 0 rfl) ?_
      refine va_get (D := (dC, dI)) (ci := 1) (v := .ref (ad 6)) (C := R_Rd) (T := T_Rd) (N := 6) hx hb ht i_Rd hown hK hP 0 rfl rfl 1 (by decide) (ht _ q_105) (fun _ h9 => h9) rfl d_Rd_goOnWith_33 ?_
      refine lv_aload_n hx hb d_Rd_goOnWith_36 rfl (lv_at hl 0 rfl) ?_
      refine va_get (D := (dC, dI)) (ci := 1) (v := .int ((TRd_top r) + 1)) (C := R_Rd) (T := T_Rd) (N := 6) hx hb ht i_Rd hown hK hP 0 rfl rfl 3 (by decide) (ht _ q_107) (fun _ h9 => h9) rfl d_Rd_goOnWith_37 ?_
      refine lv_iload_n hx hb d_Rd_goOnWith_40 rfl (lv_at hl 1 rfl) ?_
      refine va_iast hx hb hK hP hD hS 1 0 rfl rfl (in_top1 c_1 c_2) d_Rd_goOnWith_41 (fun H locs hP hD hS => ?_)
      have hP : va_P (dC, dI) vwCl (w_D ad ca b (TRd_set_top (TRd_set_rows r (upd (TRd_rows r) ((TRd_top r) + 1).toNatClampNeg p0)) ((TRd_top r) + 1))) H := hP
      have hD : va_D A (w_D ad ca b (TRd_set_top (TRd_set_rows r (upd (TRd_rows r) ((TRd_top r) + 1).toNatClampNeg p0)) ((TRd_top r) + 1))) := hD
      refine lv_aload_n hx hb d_Rd_goOnWith_42 rfl (lv_at hl 0 rfl) ?_
      refine va_get (D := (dC, dI)) (ci := 1) (v := .ref (ad 7)) (C := R_Rd) (T := T_Rd) (N := 6) hx hb ht i_Rd hown hK hP 0 rfl rfl 2 (by decide) (ht _ q_106) (fun _ h9 => h9) rfl d_Rd_goOnWith_43 ?_
      refine lv_aload_n hx hb d_Rd_goOnWith_46 rfl (lv_at hl 0 rfl) ?_
      refine va_get (D := (dC, dI)) (ci := 1) (v := .int ((TRd_top r) + 1)) (C := R_Rd) (T := T_Rd) (N := 6) hx hb ht i_Rd hown hK hP 0 rfl rfl 3 (by decide) (ht _ q_107) (fun _ h9 => h9) rfl d_Rd_goOnWith_47 ?_
      refine lv_iconst (v := 0) hx hb d_Rd_goOnWith_50 (by decide) ?_
      refine va_iast hx hb hK hP hD hS 2 1 rfl rfl (in_top1 c_1 c_2) d_Rd_goOnWith_51 (fun H locs hP hD hS => ?_)
      have hP : va_P (dC, dI) vwCl (w_D ad ca b (TRd_set_top (TRd_set_places (TRd_set_rows r (upd (TRd_rows r) ((TRd_top r) + 1).toNatClampNeg p0)) (upd (TRd_places r) ((TRd_top r) + 1).toNatClampNeg 0)) ((TRd_top r) + 1))) H := hP
      have hD : va_D A (w_D ad ca b (TRd_set_top (TRd_set_places (TRd_set_rows r (upd (TRd_rows r) ((TRd_top r) + 1).toNatClampNeg p0)) (upd (TRd_places r) ((TRd_top r) + 1).toNatClampNeg 0)) ((TRd_top r) + 1))) := hD
      exact W.vret hx hb hr (fun t ht hW => ⟨⟨(TRd_set_top (TRd_set_places (TRd_set_rows r (upd (TRd_rows r) ((TRd_top r) + 1).toNatClampNeg p0)) (upd (TRd_places r) ((TRd_top r) + 1).toNatClampNeg 0)) ((TRd_top r) + 1)), rfl, he.symm, by rw [ht]; exact hP, va_K.moved hW.alike hK, hD⟩, hS.F ht⟩) hS.2.2 d_Rd_goOnWith_52
def f_Rd_restart (b : TBk) (r : TRd) : TRd := (let v_1 := f_Rd_goOnWith b (TRd_set_steps (TRd_set_kept (TRd_set_top r (-1)) (-1)) 0) 20; v_1)
set_option maxHeartbeats 4000000 in
set_option maxRecDepth 100000 in
theorem c_Rd_restart (l : Launch) (dC : Nat → ClassId) (dI : Nat → Nat → Nat) (ad : Nat → Nat) (ca : Nat → ClassId) (sz : Nat) (b : TBk) (r : TRd) (F : TRd) (he : F = f_Rd_restart b r) : wx_Mv l y_Rd_restart ws_Rd_restart ({ frames := 1, cells := 0, slots := 0, locals := 21 } : Room) (dC, dI) vwCl (t_D ca) [.ref (ad 5)] (w_D ad ca b r) sz (fun v : TRd => w_D ad ca b v) (fun v : TRd => v = F) := by
  refine Met.ofW (cc := b_Rd_restart) (maxL := 1) (ret := none) (by decide) rfl ?_
  intro p e s m args below meth c s₁ B hml hv
  obtain ⟨rfl, hsz, hP, hK, hD0, hN⟩ := hv
  have hx := B.exec
  have hb := B.bytes
  have hr := B.returns
  have hts := atoms_spec (ws := ws_Rd_restart) B.pre
  have ht : ∀ w ∈ TB, w.before _ s = true := fun w h => hts w (List.mem_cons_of_mem _ h)
  have hown : s.vm.findClass R_Rd = some m.cls := findClass_of_methodNamed B.named
  have hlocks := B.notSynchronized
  subst hsz
  have hD := hD0.self (sz := s.heap.size)
  generalize hAe : va_A (w_D ad ca b r) s.heap.size = A at hD ⊢
  have hA : ∀ q : Nat, s.heap.size ≤ q → A q := fun q h => by rw [← hAe]; exact Or.inr h
  have hS : va_S A s.heap s.heap [] := va_S.rf
  have hl := lv_entry ([.ref (ad 5)]) (n := 1) (Nat.le_of_ble_eq_true rfl)
  rw [lg_entry_eq]
  generalize (lg_sl ([.ref (ad 5)]) ++ List.replicate (1 - (lg_sl ([.ref (ad 5)])).length) Slot.unset).toArray = ls at hl ⊢
  have hl : lv_has ls 1 [(0, .ref (ad 5))] := hl
  unfold f_Rd_restart at he
  refine lv_aload_n hx hb d_Rd_restart_0 rfl (lv_at hl 0 rfl) ?_
  refine lv_iconst (v := (-1)) hx hb d_Rd_restart_1 (by decide) ?_
  refine va_put (D := (dC, dI)) (ci := 1) (v := .int (-1)) (ty := .int) (C := R_Rd) (T := T_Rd) (N := 6) hx hb ht i_Rd ty_Rd ty_Rd_ok nm_Rd hown hK hP hD hS 0 rfl rfl 3 (by decide) (ht _ q_107) (fun _ h9 => h9) rfl (by decide +kernel) rfl rfl (Nat.le_of_ble_eq_true rfl) d_Rd_restart_2 (fun H locs hP hD hS => ?_)
  have hP : va_P (dC, dI) vwCl (w_D ad ca b (TRd_set_top r (-1))) H := hP
  have hD : va_D A (w_D ad ca b (TRd_set_top r (-1))) := hD
  refine lv_aload_n hx hb d_Rd_restart_5 rfl (lv_at hl 0 rfl) ?_
  refine lv_iconst (v := (-1)) hx hb d_Rd_restart_6 (by decide) ?_
  refine va_put (D := (dC, dI)) (ci := 1) (v := .int (-1)) (ty := .int) (C := R_Rd) (T := T_Rd) (N := 6) hx hb ht i_Rd ty_Rd ty_Rd_ok nm_Rd hown hK hP hD hS 0 rfl rfl 4 (by decide) (ht _ q_108) (fun _ h9 => h9) rfl (by decide +kernel) rfl rfl (Nat.le_of_ble_eq_true rfl) d_Rd_restart_7 (fun H locs hP hD hS => ?_)
  have hP : va_P (dC, dI) vwCl (w_D ad ca b (TRd_set_kept (TRd_set_top r (-1)) (-1))) H := hP
  have hD : va_D A (w_D ad ca b (TRd_set_kept (TRd_set_top r (-1)) (-1))) := hD
  refine lv_aload_n hx hb d_Rd_restart_10 rfl (lv_at hl 0 rfl) ?_
  refine lv_iconst (v := 0) hx hb d_Rd_restart_11 (by decide) ?_
  refine va_put (D := (dC, dI)) (ci := 1) (v := .int 0) (ty := .int) (C := R_Rd) (T := T_Rd) (N := 6) hx hb ht i_Rd ty_Rd ty_Rd_ok nm_Rd hown hK hP hD hS 0 rfl rfl 5 (by decide) (ht _ q_109) (fun _ h9 => h9) rfl (by decide +kernel) rfl rfl (Nat.le_of_ble_eq_true rfl) d_Rd_restart_12 (fun H locs hP hD hS => ?_)
  have hP : va_P (dC, dI) vwCl (w_D ad ca b (TRd_set_steps (TRd_set_kept (TRd_set_top r (-1)) (-1)) 0)) H := hP
  have hD : va_D A (w_D ad ca b (TRd_set_steps (TRd_set_kept (TRd_set_top r (-1)) (-1)) 0)) := hD
  refine lv_aload_n hx hb d_Rd_restart_15 rfl (lv_at hl 0 rfl) ?_
  refine lv_bipush (v := 20) hx hb d_Rd_restart_16 (by decide) ?_
  refine wx_cv (wS := fun v : TRd => w_D ad ca b v) (ws2 := fun v : TRd => w_D ad ca b v) (va_runV (As := [.int 20]) (rest := []) ⟨hx, hb, hml, hown, ht⟩ (c_Rd_goOnWith l dC dI ad ca H.size b (TRd_set_steps (TRd_set_kept (TRd_set_top r (-1)) (-1)) 0) 20 _ rfl) (cwV 1 ht (tb_V q_251 q_252 q_253 q_45 q_254) rfl rfl rfl p_Rd_goOnWith ⟨show 0 + 1 ≤ 1 by omega, show 8 + (2 + 11) + 0 ≤ 21 by omega⟩) (wx_preV (wc := (w_D ad ca b (TRd_set_steps (TRd_set_kept (TRd_set_top r (-1)) (-1)) 0))) hN hK hP hD [0, 1, 2, 3, 4, 5, 6, 7, 8, 9] [0, 1, 2, 3, 4, 5, 6, 7] rfl (by decide) rfl (ci := 1) (q0 := 0) rfl rfl) rfl rfl hl.1 rfl (lv_room (Nat.le_of_ble_eq_true rfl)) d_Rd_restart_18 ⟨Nat.zero_le _, Nat.zero_le _⟩) hP hD hS hA [0, 1, 2, 3, 4, 5, 6, 7, 8, 9] [] [0, 1, 2, 3, 4, 5, 6, 7, 8, 9] rfl rfl (by decide) (by decide) (by decide) (fun _ => rfl) (fun v_1 H locs hw hP hD hS => ?_)
  have hP : va_P (dC, dI) vwCl (w_D ad ca b v_1) H := hP
  have hD : va_D A (w_D ad ca b v_1) := hD
  rw [← hw] at he
  try dsimp only at he
  exact W.vret hx hb hr (fun t ht hW => ⟨⟨v_1, rfl, he.symm, by rw [ht]; exact hP, va_K.moved hW.alike hK, hD⟩, hS.F ht⟩) hS.2.2 d_Rd_restart_21
def f_Rd_keep (b : TBk) (r : TRd) (p0 : Int32) : TRd := (TRd_set_kept r p0)
set_option maxHeartbeats 4000000 in
set_option maxRecDepth 100000 in
theorem c_Rd_keep (l : Launch) (dC : Nat → ClassId) (dI : Nat → Nat → Nat) (ad : Nat → Nat) (ca : Nat → ClassId) (sz : Nat) (b : TBk) (r : TRd) (p0 : Int32) (F : TRd) (he : F = f_Rd_keep b r p0) : wx_Mv l y_Rd_keep ws_Rd_keep ({ frames := 0, cells := 0, slots := 0, locals := 0 } : Room) (dC, dI) vwCl (t_D ca) [.ref (ad 5), .int p0] (w_D ad ca b r) sz (fun v : TRd => w_D ad ca b v) (fun v : TRd => v = F) := by
  refine Met.ofW (cc := b_Rd_keep) (maxL := 2) (ret := none) (by decide) rfl ?_
  intro p e s m args below meth c s₁ B hml hv
  obtain ⟨rfl, hsz, hP, hK, hD0, hN⟩ := hv
  have hx := B.exec
  have hb := B.bytes
  have hr := B.returns
  have hts := atoms_spec (ws := ws_Rd_keep) B.pre
  have ht : ∀ w ∈ TB, w.before _ s = true := fun w h => hts w (List.mem_cons_of_mem _ h)
  have hown : s.vm.findClass R_Rd = some m.cls := findClass_of_methodNamed B.named
  have hlocks := B.notSynchronized
  subst hsz
  have hD := hD0.self (sz := s.heap.size)
  generalize hAe : va_A (w_D ad ca b r) s.heap.size = A at hD ⊢
  have hA : ∀ q : Nat, s.heap.size ≤ q → A q := fun q h => by rw [← hAe]; exact Or.inr h
  have hS : va_S A s.heap s.heap [] := va_S.rf
  have hl := lv_entry ([.ref (ad 5), .int p0]) (n := 2) (Nat.le_of_ble_eq_true rfl)
  rw [lg_entry_eq]
  generalize (lg_sl ([.ref (ad 5), .int p0]) ++ List.replicate (2 - (lg_sl ([.ref (ad 5), .int p0])).length) Slot.unset).toArray = ls at hl ⊢
  have hl : lv_has ls 2 [(0, .ref (ad 5)), (1, .int p0)] := hl
  unfold f_Rd_keep at he
  refine lv_aload_n hx hb d_Rd_keep_0 rfl (lv_at hl 0 rfl) ?_
  refine lv_iload_n hx hb d_Rd_keep_1 rfl (lv_at hl 1 rfl) ?_
  refine va_put (D := (dC, dI)) (ci := 1) (v := .int p0) (ty := .int) (C := R_Rd) (T := T_Rd) (N := 6) hx hb ht i_Rd ty_Rd ty_Rd_ok nm_Rd hown hK hP hD hS 0 rfl rfl 4 (by decide) (ht _ q_108) (fun _ h9 => h9) rfl (by decide +kernel) rfl rfl (Nat.le_of_ble_eq_true rfl) d_Rd_keep_2 (fun H locs hP hD hS => ?_)
  have hP : va_P (dC, dI) vwCl (w_D ad ca b (TRd_set_kept r p0)) H := hP
  have hD : va_D A (w_D ad ca b (TRd_set_kept r p0)) := hD
  exact W.vret hx hb hr (fun t ht hW => ⟨⟨(TRd_set_kept r p0), rfl, he.symm, by rw [ht]; exact hP, va_K.moved hW.alike hK, hD⟩, hS.F ht⟩) hS.2.2 d_Rd_keep_5
def f_Rd_stepsMade (b : TBk) (r : TRd) : Int32 := (TRd_steps r)
set_option maxHeartbeats 4000000 in
set_option maxRecDepth 100000 in
theorem c_Rd_stepsMade (l : Launch) (dC : Nat → ClassId) (dI : Nat → Nat → Nat) (ad : Nat → Nat) (ca : Nat → ClassId) (sz : Nat) (b : TBk) (r : TRd) (F : Int32) (he : F = f_Rd_stepsMade b r) : wx_Mi l y_Rd_stepsMade ws_Rd_stepsMade ({ frames := 0, cells := 0, slots := 0, locals := 0 } : Room) (dC, dI) vwCl (t_D ca) [.ref (ad 5)] (w_D ad ca b r) sz (fun _ : Unit => w_D ad ca b r) (fun (r : Int32) (_ : Unit) => r = F) := by
  refine Met.ofW (cc := b_Rd_stepsMade) (maxL := 1) (ret := some .int) (by decide) rfl ?_
  intro p e s m args below meth c s₁ B hml hv
  obtain ⟨rfl, hsz, hP, hK, hD0, hN⟩ := hv
  have hx := B.exec
  have hb := B.bytes
  have hr := B.returns
  have hts := atoms_spec (ws := ws_Rd_stepsMade) B.pre
  have ht : ∀ w ∈ TB, w.before _ s = true := fun w h => hts w (List.mem_cons_of_mem _ h)
  have hown : s.vm.findClass R_Rd = some m.cls := findClass_of_methodNamed B.named
  have hlocks := B.notSynchronized
  subst hsz
  have hD := hD0.self (sz := s.heap.size)
  generalize hAe : va_A (w_D ad ca b r) s.heap.size = A at hD ⊢
  have hA : ∀ q : Nat, s.heap.size ≤ q → A q := fun q h => by rw [← hAe]; exact Or.inr h
  have hS : va_S A s.heap s.heap [] := va_S.rf
  have hl := lv_entry ([.ref (ad 5)]) (n := 1) (Nat.le_of_ble_eq_true rfl)
  rw [lg_entry_eq]
  generalize (lg_sl ([.ref (ad 5)]) ++ List.replicate (1 - (lg_sl ([.ref (ad 5)])).length) Slot.unset).toArray = ls at hl ⊢
  have hl : lv_has ls 1 [(0, .ref (ad 5))] := hl
  unfold f_Rd_stepsMade at he
  refine lv_aload_n hx hb d_Rd_stepsMade_0 rfl (lv_at hl 0 rfl) ?_
  refine va_get (D := (dC, dI)) (ci := 1) (v := .int (TRd_steps r)) (C := R_Rd) (T := T_Rd) (N := 6) hx hb ht i_Rd hown hK hP 0 rfl rfl 5 (by decide) (ht _ q_109) (fun _ h9 => h9) rfl d_Rd_stepsMade_1 ?_
  exact W.iret hx hb hr (v := (TRd_steps r)) (fun t ht hW => ⟨⟨(TRd_steps r), (), rfl, he.symm, by rw [ht]; exact hP, va_K.moved hW.alike hK, hD⟩, hS.F ht⟩) hS.2.2 d_Rd_stepsMade_4
def f_Rd_look_80 (b : TBk) (r : TRd) : (Int32 × TRd) := (if (TRd_top r) < 0 then ((-1), r) else (if (TRd_top r) < 5001 then (if (TRd_steps r) < 5000 then ((f_Bk_tokenIn b ((TRd_rows r) (TRd_top r).toNatClampNeg) (((upd (TRd_places r) (TRd_top r).toNatClampNeg (((TRd_places r) (TRd_top r).toNatClampNeg) + 1)) (TRd_top r).toNatClampNeg) - 1)), (TRd_set_steps (TRd_set_places r (upd (TRd_places r) (TRd_top r).toNatClampNeg (((TRd_places r) (TRd_top r).toNatClampNeg) + 1))) ((TRd_steps r) + 1))) else ((-2), r)) else ((-1), r)))
set_option maxHeartbeats 4000000 in
set_option maxRecDepth 100000 in
theorem k_Rd_look_80 {p : Program} {e : Env} {s : State} {m : MethodId} {args : Array Value} {below : List Frame} {meth : Method} {c : Code} {A : Nat → Prop} (l : Launch) (dC : Nat → ClassId) (dI : Nat → Nat → Nat) (ad : Nat → Nat) (ca : Nat → ClassId) (C0 : wx_C p s m args meth c b_Rd_look (some .int) 2 R_Rd A (dC, dI) vwCl (t_D ca)) (F : (Int32 × TRd)) : ∀ (b : TBk) (r : TRd), (BkS b) → F = f_Rd_look_80 b r → ∀ (H : Heap) (locs : List Loc), va_P (dC, dI) vwCl (w_D ad ca b r) H → va_D A (w_D ad ca b r) → va_S A s.heap H locs → ∀ (ls : Array Slot), lv_has ls 2 [(0, .ref (ad 5))] → W p l e ({ frames := 1, cells := 0, slots := 0, locals := 23 } : Room) s m args below meth c H locs 0 0 (MQ below (va_Qi (fun (r : Int32) (v : TRd) => (r, v) = F) (wx_B (dC, dI) vwCl (t_D ca) (fun v : TRd => w_D ad ca b v) A) A) args s 0 0 A) (F0 m 80 ls []) := by
  have C1 := C0
  obtain ⟨hx, hb, hr, hml, hown, ht, hlocks, hA, hK, hN⟩ := C1
  intro b r hpre he H locs hP hD hS ls hl
  unfold f_Rd_look_80 at he
  refine lv_aload_n hx hb d_Rd_look_80 rfl (lv_at hl 0 rfl) ?_
  refine va_get (D := (dC, dI)) (ci := 1) (v := .int (TRd_top r)) (C := R_Rd) (T := T_Rd) (N := 6) hx hb ht i_Rd hown hK hP 0 rfl rfl 3 (by decide) (ht _ q_107) (fun _ h9 => h9) rfl d_Rd_look_81 ?_
  refine lv_if_lt (tgt := 99) hx hb d_Rd_look_84 (by decide) (fun c_1 => ?_) (fun c_1 => ?_)
  · have he := he.trans (if_pos c_1)
    refine lv_iconst (v := (-1)) hx hb d_Rd_look_99 (by decide) ?_
    exact W.iret hx hb hr (v := (-1)) (fun t ht hW => ⟨⟨(-1), r, rfl, he.symm, by rw [ht]; exact hP, va_K.moved hW.alike hK, hD⟩, hS.F ht⟩) hS.2.2 d_Rd_look_100
  · have he := he.trans (if_neg c_1)
    refine lv_aload_n hx hb d_Rd_look_87 rfl (lv_at hl 0 rfl) ?_
    refine va_get (D := (dC, dI)) (ci := 1) (v := .int (TRd_top r)) (C := R_Rd) (T := T_Rd) (N := 6) hx hb ht i_Rd hown hK hP 0 rfl rfl 3 (by decide) (ht _ q_107) (fun _ h9 => h9) rfl d_Rd_look_88 ?_
    refine lv_aload_n hx hb d_Rd_look_91 rfl (lv_at hl 0 rfl) ?_
    refine va_get (D := (dC, dI)) (ci := 1) (v := .ref (ad 6)) (C := R_Rd) (T := T_Rd) (N := 6) hx hb ht i_Rd hown hK hP 0 rfl rfl 1 (by decide) (ht _ q_105) (fun _ h9 => h9) rfl d_Rd_look_92 ?_
    refine va_alen hx hb hK hP 1 0 rfl rfl (v := 5001) rfl d_Rd_look_95 ?_
    refine lv_icmp_lt (tgt := 101) hx hb d_Rd_look_96 (by decide) (fun c_2 => ?_) (fun c_2 => ?_)
    · have he := he.trans (if_pos c_2)
      refine lv_aload_n hx hb d_Rd_look_101 rfl (lv_at hl 0 rfl) ?_
      refine va_get (D := (dC, dI)) (ci := 1) (v := .int (TRd_steps r)) (C := R_Rd) (T := T_Rd) (N := 6) hx hb ht i_Rd hown hK hP 0 rfl rfl 5 (by decide) (ht _ q_109) (fun _ h9 => h9) rfl d_Rd_look_102 ?_
      refine lv_sipush (v := 5000) hx hb d_Rd_look_105 (by decide) ?_
      refine lv_icmp_lt (tgt := 114) hx hb d_Rd_look_108 (by decide) (fun c_3 => ?_) (fun c_3 => ?_)
      · have he := he.trans (if_pos c_3)
        refine lv_aload_n hx hb d_Rd_look_114 rfl (lv_at hl 0 rfl) ?_
        refine lv_dup hx hb d_Rd_look_115 rfl ?_
        refine va_get (D := (dC, dI)) (ci := 1) (v := .int (TRd_steps r)) (C := R_Rd) (T := T_Rd) (N := 6) hx hb ht i_Rd hown hK hP 0 rfl rfl 5 (by decide) (ht _ q_109) (fun _ h9 => h9) rfl d_Rd_look_116 ?_
        refine lv_iconst (v := 1) hx hb d_Rd_look_119 (by decide) ?_
        refine lv_iadd hx hb d_Rd_look_120 ?_
        refine va_put (D := (dC, dI)) (ci := 1) (v := .int ((TRd_steps r) + 1)) (ty := .int) (C := R_Rd) (T := T_Rd) (N := 6) hx hb ht i_Rd ty_Rd ty_Rd_ok nm_Rd hown hK hP hD hS 0 rfl rfl 5 (by decide) (ht _ q_109) (fun _ h9 => h9) rfl (by decide +kernel) rfl rfl (Nat.le_of_ble_eq_true rfl) d_Rd_look_121 (fun H locs hP hD hS => ?_)
        have hP : va_P (dC, dI) vwCl (w_D ad ca b (TRd_set_steps r ((TRd_steps r) + 1))) H := hP
        have hD : va_D A (w_D ad ca b (TRd_set_steps r ((TRd_steps r) + 1))) := hD
        refine lv_aload_n hx hb d_Rd_look_124 rfl (lv_at hl 0 rfl) ?_
        refine va_get (D := (dC, dI)) (ci := 1) (v := .ref (ad 7)) (C := R_Rd) (T := T_Rd) (N := 6) hx hb ht i_Rd hown hK hP 0 rfl rfl 2 (by decide) (ht _ q_106) (fun _ h9 => h9) rfl d_Rd_look_125 ?_
        refine lv_aload_n hx hb d_Rd_look_128 rfl (lv_at hl 0 rfl) ?_
        refine va_get (D := (dC, dI)) (ci := 1) (v := .int (TRd_top r)) (C := R_Rd) (T := T_Rd) (N := 6) hx hb ht i_Rd hown hK hP 0 rfl rfl 3 (by decide) (ht _ q_107) (fun _ h9 => h9) rfl d_Rd_look_129 ?_
        refine lv_dup2_11 hx hb d_Rd_look_132 rfl rfl ?_
        refine va_iald hx hb hK hP 2 1 rfl rfl (wx_inAV (by decide) c_1 c_2) d_Rd_look_133 ?_
        refine lv_iconst (v := 1) hx hb d_Rd_look_134 (by decide) ?_
        refine lv_iadd hx hb d_Rd_look_135 ?_
        refine va_iast hx hb hK hP hD hS 2 1 rfl rfl (wx_inAV (by decide) c_1 c_2) d_Rd_look_136 (fun H locs hP hD hS => ?_)
        have hP : va_P (dC, dI) vwCl (w_D ad ca b (TRd_set_steps (TRd_set_places r (upd (TRd_places r) (TRd_top r).toNatClampNeg (((TRd_places r) (TRd_top r).toNatClampNeg) + 1))) ((TRd_steps r) + 1))) H := hP
        have hD : va_D A (w_D ad ca b (TRd_set_steps (TRd_set_places r (upd (TRd_places r) (TRd_top r).toNatClampNeg (((TRd_places r) (TRd_top r).toNatClampNeg) + 1))) ((TRd_steps r) + 1))) := hD
        refine lv_aload_n hx hb d_Rd_look_137 rfl (lv_at hl 0 rfl) ?_
        refine va_get (D := (dC, dI)) (ci := 1) (v := .ref (ad 8)) (C := R_Rd) (T := T_Rd) (N := 6) hx hb ht i_Rd hown hK hP 0 rfl rfl 0 (by decide) (ht _ q_104) (fun _ h9 => h9) rfl d_Rd_look_138 ?_
        refine lv_aload_n hx hb d_Rd_look_141 rfl (lv_at hl 0 rfl) ?_
        refine va_get (D := (dC, dI)) (ci := 1) (v := .ref (ad 6)) (C := R_Rd) (T := T_Rd) (N := 6) hx hb ht i_Rd hown hK hP 0 rfl rfl 1 (by decide) (ht _ q_105) (fun _ h9 => h9) rfl d_Rd_look_142 ?_
        refine lv_aload_n hx hb d_Rd_look_145 rfl (lv_at hl 0 rfl) ?_
        refine va_get (D := (dC, dI)) (ci := 1) (v := .int (TRd_top r)) (C := R_Rd) (T := T_Rd) (N := 6) hx hb ht i_Rd hown hK hP 0 rfl rfl 3 (by decide) (ht _ q_107) (fun _ h9 => h9) rfl d_Rd_look_146 ?_
        refine va_iald hx hb hK hP 1 0 rfl rfl (wx_inAV (by decide) c_1 c_2) d_Rd_look_149 ?_
        refine lv_aload_n hx hb d_Rd_look_150 rfl (lv_at hl 0 rfl) ?_
        refine va_get (D := (dC, dI)) (ci := 1) (v := .ref (ad 7)) (C := R_Rd) (T := T_Rd) (N := 6) hx hb ht i_Rd hown hK hP 0 rfl rfl 2 (by decide) (ht _ q_106) (fun _ h9 => h9) rfl d_Rd_look_151 ?_
        refine lv_aload_n hx hb d_Rd_look_154 rfl (lv_at hl 0 rfl) ?_
        refine va_get (D := (dC, dI)) (ci := 1) (v := .int (TRd_top r)) (C := R_Rd) (T := T_Rd) (N := 6) hx hb ht i_Rd hown hK hP 0 rfl rfl 3 (by decide) (ht _ q_107) (fun _ h9 => h9) rfl d_Rd_look_155 ?_
        refine va_iald hx hb hK hP 2 1 rfl rfl (wx_inAV (by decide) c_1 c_2) d_Rd_look_158 ?_
        refine lv_iconst (v := 1) hx hb d_Rd_look_159 (by decide) ?_
        refine lv_isub hx hb d_Rd_look_160 ?_
        refine wx_ci (wS := fun _ : Unit => w_B ad ca b) (ws2 := fun _ : Unit => w_D ad ca b (TRd_set_steps (TRd_set_places r (upd (TRd_places r) (TRd_top r).toNatClampNeg (((TRd_places r) (TRd_top r).toNatClampNeg) + 1))) ((TRd_steps r) + 1))) (va_runV (As := [.int ((TRd_rows r) (TRd_top r).toNatClampNeg), .int (((upd (TRd_places r) (TRd_top r).toNatClampNeg (((TRd_places r) (TRd_top r).toNatClampNeg) + 1)) (TRd_top r).toNatClampNeg) - 1)]) (rest := []) ⟨hx, hb, hml, hown, ht⟩ (c_Bk_tokenIn l dC dI ad ca H.size b ((TRd_rows r) (TRd_top r).toNatClampNeg) (((upd (TRd_places r) (TRd_top r).toNatClampNeg (((TRd_places r) (TRd_top r).toNatClampNeg) + 1)) (TRd_top r).toNatClampNeg) - 1) hpre _ rfl) (cwV 2 ht (tb_V q_261 q_262 q_263 q_43 q_264) rfl rfl rfl p_Bk_tokenIn ⟨show 0 + 1 ≤ 1 by omega, show 8 + (4 + 11) + 0 ≤ 23 by omega⟩) (wx_preV (wc := (w_B ad ca b)) hN hK hP hD [3, 4, 5, 6, 7, 8, 9] [2, 3, 4, 5, 6, 7] rfl (by decide) rfl (ci := 0) (q0 := 0) rfl rfl) rfl rfl hl.1 rfl (lv_room (Nat.le_of_ble_eq_true rfl)) d_Rd_look_161 ⟨Nat.zero_le _, Nat.zero_le _⟩) hP hD hS hA [3, 4, 5, 6, 7, 8, 9] [0, 1, 2] [0, 1, 2, 3, 4, 5, 6, 7, 8, 9] rfl rfl (by decide) (by decide) (by decide) (fun _ => rfl) (fun r_4 _ H locs hw hP hD hS => ?_)
        subst hw
        have hP : va_P (dC, dI) vwCl (w_D ad ca b (TRd_set_steps (TRd_set_places r (upd (TRd_places r) (TRd_top r).toNatClampNeg (((TRd_places r) (TRd_top r).toNatClampNeg) + 1))) ((TRd_steps r) + 1))) H := hP
        have hD : va_D A (w_D ad ca b (TRd_set_steps (TRd_set_places r (upd (TRd_places r) (TRd_top r).toNatClampNeg (((TRd_places r) (TRd_top r).toNatClampNeg) + 1))) ((TRd_steps r) + 1))) := hD
        exact W.iret hx hb hr (v := (f_Bk_tokenIn b ((TRd_rows r) (TRd_top r).toNatClampNeg) (((upd (TRd_places r) (TRd_top r).toNatClampNeg (((TRd_places r) (TRd_top r).toNatClampNeg) + 1)) (TRd_top r).toNatClampNeg) - 1))) (fun t ht hW => ⟨⟨(f_Bk_tokenIn b ((TRd_rows r) (TRd_top r).toNatClampNeg) (((upd (TRd_places r) (TRd_top r).toNatClampNeg (((TRd_places r) (TRd_top r).toNatClampNeg) + 1)) (TRd_top r).toNatClampNeg) - 1)), (TRd_set_steps (TRd_set_places r (upd (TRd_places r) (TRd_top r).toNatClampNeg (((TRd_places r) (TRd_top r).toNatClampNeg) + 1))) ((TRd_steps r) + 1)), rfl, he.symm, by rw [ht]; exact hP, va_K.moved hW.alike hK, hD⟩, hS.F ht⟩) hS.2.2 d_Rd_look_164
      · have he := he.trans (if_neg c_3)
        refine lv_bipush (v := (-2)) hx hb d_Rd_look_111 (by decide) ?_
        exact W.iret hx hb hr (v := (-2)) (fun t ht hW => ⟨⟨(-2), r, rfl, he.symm, by rw [ht]; exact hP, va_K.moved hW.alike hK, hD⟩, hS.F ht⟩) hS.2.2 d_Rd_look_113
    · have he := he.trans (if_neg c_2)
      refine lv_iconst (v := (-1)) hx hb d_Rd_look_99 (by decide) ?_
      exact W.iret hx hb hr (v := (-1)) (fun t ht hW => ⟨⟨(-1), r, rfl, he.symm, by rw [ht]; exact hP, va_K.moved hW.alike hK, hD⟩, hS.F ht⟩) hS.2.2 d_Rd_look_100
def f_Rd_look_20 : Nat → TBk → TRd → (Int32 × TRd)
  | 0, _, r => (0, r)
  | n + 1, b, r => (if (TRd_top r) < 0 then (f_Rd_look_80 b r) else (if 5001 ≤ (TRd_top r) then (f_Rd_look_80 b r) else (if ((TRd_places r) (TRd_top r).toNatClampNeg) < (f_Bk_sizeOf b ((TRd_rows r) (TRd_top r).toNatClampNeg)) then (f_Rd_look_80 b r) else (f_Rd_look_20 n b (TRd_set_top r ((TRd_top r) - 1))))))
set_option maxHeartbeats 4000000 in
set_option maxRecDepth 100000 in
theorem k_Rd_look_20 {p : Program} {e : Env} {s : State} {m : MethodId} {args : Array Value} {below : List Frame} {meth : Method} {c : Code} {A : Nat → Prop} (l : Launch) (dC : Nat → ClassId) (dI : Nat → Nat → Nat) (ad : Nat → Nat) (ca : Nat → ClassId) (C0 : wx_C p s m args meth c b_Rd_look (some .int) 2 R_Rd A (dC, dI) vwCl (t_D ca)) (F : (Int32 × TRd)) : ∀ (n : Nat) (b : TBk) (r : TRd), (BkS b) → (LvF (TRd_top r) n) → F = f_Rd_look_20 n b r → ∀ (H : Heap) (locs : List Loc), va_P (dC, dI) vwCl (w_D ad ca b r) H → va_D A (w_D ad ca b r) → va_S A s.heap H locs → ∀ (ls : Array Slot), lv_has ls 2 [(0, .ref (ad 5))] → W p l e ({ frames := 1, cells := 0, slots := 0, locals := 23 } : Room) s m args below meth c H locs 0 0 (MQ below (va_Qi (fun (r : Int32) (v : TRd) => (r, v) = F) (wx_B (dC, dI) vwCl (t_D ca) (fun v : TRd => w_D ad ca b v) A) A) args s 0 0 A) (F0 m 20 ls []) := by
  have C1 := C0
  obtain ⟨hx, hb, hr, hml, hown, ht, hlocks, hA, hK, hN⟩ := C1
  intro n
  induction n with
  | zero =>
    intro b r hpre hc he
    exact absurd hc (fun h => LvF_0 h)
  | succ n ih =>
    intro b r hpre hc he H locs hP hD hS ls hl
    rw [f_Rd_look_20] at he
    refine lv_aload_n hx hb d_Rd_look_20 rfl (lv_at hl 0 rfl) ?_
    refine va_get (D := (dC, dI)) (ci := 1) (v := .int (TRd_top r)) (C := R_Rd) (T := T_Rd) (N := 6) hx hb ht i_Rd hown hK hP 0 rfl rfl 3 (by decide) (ht _ q_107) (fun _ h9 => h9) rfl d_Rd_look_21 ?_
    refine lv_if_lt (tgt := 80) hx hb d_Rd_look_24 (by decide) (fun c_1 => ?_) (fun c_1 => ?_)
    · have he := he.trans (if_pos c_1)
      exact k_Rd_look_80 l dC dI ad ca C0 F b r hpre he _ _ hP hD hS _ (lv_sub hl [0] rfl)
    · have he := he.trans (if_neg c_1)
      refine lv_aload_n hx hb d_Rd_look_27 rfl (lv_at hl 0 rfl) ?_
      refine va_get (D := (dC, dI)) (ci := 1) (v := .int (TRd_top r)) (C := R_Rd) (T := T_Rd) (N := 6) hx hb ht i_Rd hown hK hP 0 rfl rfl 3 (by decide) (ht _ q_107) (fun _ h9 => h9) rfl d_Rd_look_28 ?_
      refine lv_aload_n hx hb d_Rd_look_31 rfl (lv_at hl 0 rfl) ?_
      refine va_get (D := (dC, dI)) (ci := 1) (v := .ref (ad 6)) (C := R_Rd) (T := T_Rd) (N := 6) hx hb ht i_Rd hown hK hP 0 rfl rfl 1 (by decide) (ht _ q_105) (fun _ h9 => h9) rfl d_Rd_look_32 ?_
      refine va_alen hx hb hK hP 1 0 rfl rfl (v := 5001) rfl d_Rd_look_35 ?_
      refine lv_icmp_ge (tgt := 80) hx hb d_Rd_look_36 (by decide) (fun c_2 => ?_) (fun c_2 => ?_)
      · have he := he.trans (if_pos c_2)
        exact k_Rd_look_80 l dC dI ad ca C0 F b r hpre he _ _ hP hD hS _ (lv_sub hl [0] rfl)
      · have he := he.trans (if_neg c_2)
        refine lv_aload_n hx hb d_Rd_look_39 rfl (lv_at hl 0 rfl) ?_
        refine va_get (D := (dC, dI)) (ci := 1) (v := .ref (ad 7)) (C := R_Rd) (T := T_Rd) (N := 6) hx hb ht i_Rd hown hK hP 0 rfl rfl 2 (by decide) (ht _ q_106) (fun _ h9 => h9) rfl d_Rd_look_40 ?_
        refine lv_aload_n hx hb d_Rd_look_43 rfl (lv_at hl 0 rfl) ?_
        refine va_get (D := (dC, dI)) (ci := 1) (v := .int (TRd_top r)) (C := R_Rd) (T := T_Rd) (N := 6) hx hb ht i_Rd hown hK hP 0 rfl rfl 3 (by decide) (ht _ q_107) (fun _ h9 => h9) rfl d_Rd_look_44 ?_
        refine va_iald hx hb hK hP 2 1 rfl rfl (wx_inAU (by decide) c_1 c_2) d_Rd_look_47 ?_
        refine lv_aload_n hx hb d_Rd_look_48 rfl (lv_at hl 0 rfl) ?_
        refine va_get (D := (dC, dI)) (ci := 1) (v := .ref (ad 8)) (C := R_Rd) (T := T_Rd) (N := 6) hx hb ht i_Rd hown hK hP 0 rfl rfl 0 (by decide) (ht _ q_104) (fun _ h9 => h9) rfl d_Rd_look_49 ?_
        refine lv_aload_n hx hb d_Rd_look_52 rfl (lv_at hl 0 rfl) ?_
        refine va_get (D := (dC, dI)) (ci := 1) (v := .ref (ad 6)) (C := R_Rd) (T := T_Rd) (N := 6) hx hb ht i_Rd hown hK hP 0 rfl rfl 1 (by decide) (ht _ q_105) (fun _ h9 => h9) rfl d_Rd_look_53 ?_
        refine lv_aload_n hx hb d_Rd_look_56 rfl (lv_at hl 0 rfl) ?_
        refine va_get (D := (dC, dI)) (ci := 1) (v := .int (TRd_top r)) (C := R_Rd) (T := T_Rd) (N := 6) hx hb ht i_Rd hown hK hP 0 rfl rfl 3 (by decide) (ht _ q_107) (fun _ h9 => h9) rfl d_Rd_look_57 ?_
        refine va_iald hx hb hK hP 1 0 rfl rfl (wx_inAU (by decide) c_1 c_2) d_Rd_look_60 ?_
        refine wx_ci (wS := fun _ : Unit => w_B ad ca b) (ws2 := fun _ : Unit => w_D ad ca b r) (va_runV (As := [.int ((TRd_rows r) (TRd_top r).toNatClampNeg)]) (rest := [.int ((TRd_places r) (TRd_top r).toNatClampNeg)]) ⟨hx, hb, hml, hown, ht⟩ (c_Bk_sizeOf l dC dI ad ca H.size b ((TRd_rows r) (TRd_top r).toNatClampNeg) _ rfl) (cwV 1 ht (tb_V q_260 q_217 q_218 q_43 q_219) rfl rfl rfl p_Bk_sizeOf ⟨show 0 + 1 ≤ 1 by omega, show 8 + (2 + 11) + 0 ≤ 23 by omega⟩) (wx_preV (wc := (w_B ad ca b)) hN hK hP hD [3, 4, 5, 6, 7, 8, 9] [2, 3, 4, 5, 6, 7] rfl (by decide) rfl (ci := 0) (q0 := 0) rfl rfl) rfl rfl hl.1 rfl (lv_room (Nat.le_of_ble_eq_true rfl)) d_Rd_look_61 ⟨Nat.zero_le _, Nat.zero_le _⟩) hP hD hS hA [3, 4, 5, 6, 7, 8, 9] [0, 1, 2] [0, 1, 2, 3, 4, 5, 6, 7, 8, 9] rfl rfl (by decide) (by decide) (by decide) (fun _ => rfl) (fun r_3 _ H locs hw hP hD hS => ?_)
        subst hw
        have hP : va_P (dC, dI) vwCl (w_D ad ca b r) H := hP
        have hD : va_D A (w_D ad ca b r) := hD
        refine lv_icmp_lt (tgt := 80) hx hb d_Rd_look_64 (by decide) (fun c_4 => ?_) (fun c_4 => ?_)
        · have he := he.trans (if_pos c_4)
          exact k_Rd_look_80 l dC dI ad ca C0 F b r hpre he _ _ hP hD hS _ (lv_sub hl [0] rfl)
        · have he := he.trans (if_neg c_4)
          refine lv_aload_n hx hb d_Rd_look_67 rfl (lv_at hl 0 rfl) ?_
          refine lv_dup hx hb d_Rd_look_68 rfl ?_
          refine va_get (D := (dC, dI)) (ci := 1) (v := .int (TRd_top r)) (C := R_Rd) (T := T_Rd) (N := 6) hx hb ht i_Rd hown hK hP 0 rfl rfl 3 (by decide) (ht _ q_107) (fun _ h9 => h9) rfl d_Rd_look_69 ?_
          refine lv_iconst (v := 1) hx hb d_Rd_look_72 (by decide) ?_
          refine lv_isub hx hb d_Rd_look_73 ?_
          refine va_put (D := (dC, dI)) (ci := 1) (v := .int ((TRd_top r) - 1)) (ty := .int) (C := R_Rd) (T := T_Rd) (N := 6) hx hb ht i_Rd ty_Rd ty_Rd_ok nm_Rd hown hK hP hD hS 0 rfl rfl 3 (by decide) (ht _ q_107) (fun _ h9 => h9) rfl (by decide +kernel) rfl rfl (Nat.le_of_ble_eq_true rfl) d_Rd_look_74 (fun H locs hP hD hS => ?_)
          have hP : va_P (dC, dI) vwCl (w_D ad ca b (TRd_set_top r ((TRd_top r) - 1))) H := hP
          have hD : va_D A (w_D ad ca b (TRd_set_top r ((TRd_top r) - 1))) := hD
          refine lv_goto (tgt := 20) hx hb d_Rd_look_77 (by decide) ?_
          exact ih b (TRd_set_top r ((TRd_top r) - 1)) hpre (LvF_s hc c_1) he _ _ hP hD hS _ (lv_sub hl [0] rfl)
def f_Rd_look (b : TBk) (r : TRd) : (Int32 × TRd) := (if (TRd_kept r) = (-1) then (f_Rd_look_20 (((TRd_top r).toInt + 2).toNat + 1) b r) else ((TRd_kept r), (TRd_set_kept r (-1))))
set_option maxHeartbeats 4000000 in
set_option maxRecDepth 100000 in
theorem c_Rd_look (l : Launch) (dC : Nat → ClassId) (dI : Nat → Nat → Nat) (ad : Nat → Nat) (ca : Nat → ClassId) (sz : Nat) (b : TBk) (r : TRd) (hpre : BkS b) (F : (Int32 × TRd)) (he : F = f_Rd_look b r) : wx_Mi l y_Rd_look ws_Rd_look ({ frames := 1, cells := 0, slots := 0, locals := 23 } : Room) (dC, dI) vwCl (t_D ca) [.ref (ad 5)] (w_D ad ca b r) sz (fun v : TRd => w_D ad ca b v) (fun (r : Int32) (v : TRd) => (r, v) = F) := by
  refine Met.ofW (cc := b_Rd_look) (maxL := 2) (ret := some .int) (by decide) rfl ?_
  intro p e s m args below meth c s₁ B hml hv
  obtain ⟨rfl, hsz, hP, hK, hD0, hN⟩ := hv
  have hx := B.exec
  have hb := B.bytes
  have hr := B.returns
  have hts := atoms_spec (ws := ws_Rd_look) B.pre
  have ht : ∀ w ∈ TB, w.before _ s = true := fun w h => hts w (List.mem_cons_of_mem _ h)
  have hown : s.vm.findClass R_Rd = some m.cls := findClass_of_methodNamed B.named
  have hlocks := B.notSynchronized
  subst hsz
  have hD := hD0.self (sz := s.heap.size)
  generalize hAe : va_A (w_D ad ca b r) s.heap.size = A at hD ⊢
  have hA : ∀ q : Nat, s.heap.size ≤ q → A q := fun q h => by rw [← hAe]; exact Or.inr h
  have hS : va_S A s.heap s.heap [] := va_S.rf
  have C0 : wx_C p s m ([.ref (ad 5)] : List Value).toArray meth c b_Rd_look (some .int) 2 R_Rd A (dC, dI) vwCl (t_D ca) := ⟨hx, hb, hr, hml, hown, ht, hlocks, hA, hK, hN⟩
  have hl := lv_entry ([.ref (ad 5)]) (n := 2) (Nat.le_of_ble_eq_true rfl)
  rw [lg_entry_eq]
  generalize (lg_sl ([.ref (ad 5)]) ++ List.replicate (2 - (lg_sl ([.ref (ad 5)])).length) Slot.unset).toArray = ls at hl ⊢
  have hl : lv_has ls 2 [(0, .ref (ad 5))] := hl
  unfold f_Rd_look at he
  refine lv_aload_n hx hb d_Rd_look_0 rfl (lv_at hl 0 rfl) ?_
  refine va_get (D := (dC, dI)) (ci := 1) (v := .int (TRd_kept r)) (C := R_Rd) (T := T_Rd) (N := 6) hx hb ht i_Rd hown hK hP 0 rfl rfl 4 (by decide) (ht _ q_108) (fun _ h9 => h9) rfl d_Rd_look_1 ?_
  refine lv_iconst (v := (-1)) hx hb d_Rd_look_4 (by decide) ?_
  refine lv_icmp_eq (tgt := 20) hx hb d_Rd_look_5 (by decide) (fun c_1 => ?_) (fun c_1 => ?_)
  · have he := he.trans (if_pos c_1)
    exact k_Rd_look_20 l dC dI ad ca C0 F (((TRd_top r).toInt + 2).toNat + 1) b r hpre (LvF_i _) he _ _ hP hD hS _ (lv_sub hl [0] rfl)
  · have he := he.trans (if_neg c_1)
    refine lv_aload_n hx hb d_Rd_look_8 rfl (lv_at hl 0 rfl) ?_
    refine va_get (D := (dC, dI)) (ci := 1) (v := .int (TRd_kept r)) (C := R_Rd) (T := T_Rd) (N := 6) hx hb ht i_Rd hown hK hP 0 rfl rfl 4 (by decide) (ht _ q_108) (fun _ h9 => h9) rfl d_Rd_look_9 ?_
    refine lv_istore_n (lv' := [(1, .int (TRd_kept r)), (0, .ref (ad 5))]) hx hb d_Rd_look_12 rfl hl (by decide) rfl (fun ls hl => ?_)
    refine lv_aload_n hx hb d_Rd_look_13 rfl (lv_at hl 1 rfl) ?_
    refine lv_iconst (v := (-1)) hx hb d_Rd_look_14 (by decide) ?_
    refine va_put (D := (dC, dI)) (ci := 1) (v := .int (-1)) (ty := .int) (C := R_Rd) (T := T_Rd) (N := 6) hx hb ht i_Rd ty_Rd ty_Rd_ok nm_Rd hown hK hP hD hS 0 rfl rfl 4 (by decide) (ht _ q_108) (fun _ h9 => h9) rfl (by decide +kernel) rfl rfl (Nat.le_of_ble_eq_true rfl) d_Rd_look_15 (fun H locs hP hD hS => ?_)
    have hP : va_P (dC, dI) vwCl (w_D ad ca b (TRd_set_kept r (-1))) H := hP
    have hD : va_D A (w_D ad ca b (TRd_set_kept r (-1))) := hD
    refine lv_iload_n hx hb d_Rd_look_18 rfl (lv_at hl 0 rfl) ?_
    exact W.iret hx hb hr (v := (TRd_kept r)) (fun t ht hW => ⟨⟨(TRd_kept r), (TRd_set_kept r (-1)), rfl, he.symm, by rw [ht]; exact hP, va_K.moved hW.alike hK, hD⟩, hS.F ht⟩) hS.2.2 d_Rd_look_19
