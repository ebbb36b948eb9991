theorem q_449 : Cond.fieldLink R_Md 16 "ConditionTextModel" "rows" "[I" ∈ TB := tq 449 (by decide +kernel) rfl
theorem q_451 : Cond.fieldLink R_Md 22 "ConditionTextModel" "modes" "[Z" ∈ TB := tq 451 (by decide +kernel) rfl
theorem q_452 : Cond.fieldLink R_Md 26 "ConditionTextModel" "ends" "[Z" ∈ TB := tq 452 (by decide +kernel) rfl
theorem q_457 : Cond.fieldLink R_Md 81 "ConditionTextModel" "steps" "I" ∈ TB := tq 457 (by decide +kernel) rfl
theorem q_460 : Cond.fieldLink R_Md 151 "ConditionTextModel" "outSize" "I" ∈ TB := tq 460 (by decide +kernel) rfl
theorem q_461 : Cond.fieldLink R_Md 134 "ConditionTextModel" "opened" "I" ∈ TB := tq 461 (by decide +kernel) rfl
theorem q_462 : Cond.fieldLink R_Md 137 "ConditionTextModel" "most" "I" ∈ TB := tq 462 (by decide +kernel) rfl
theorem q_463 : Cond.fieldLink R_Md 148 "ConditionTextModel" "skipped" "I" ∈ TB := tq 463 (by decide +kernel) rfl
theorem q_464 : Cond.fieldLink R_Md 38 "ConditionTextModel" "decided" "[I" ∈ TB := tq 464 (by decide +kernel) rfl
theorem q_466 : Cond.fieldLink R_Md 104 "ConditionTextModel" "open" "I" ∈ TB := tq 466 (by decide +kernel) rfl
theorem q_467 : Cond.fieldLink R_Md 154 "ConditionTextModel" "hasRun" "Z" ∈ TB := tq 467 (by decide +kernel) rfl
theorem q_522 : Cond.constant R_Md 55 (-999999999) ∈ TB := tq 522 (by decide +kernel) rfl
theorem q_523 : Cond.constant R_Md 56 999999999 ∈ TB := tq 523 (by decide +kernel) rfl
theorem q_532 : Cond.methodLink R_Md 57 y_Md_isToken ∈ TB := tq 532 (by decide +kernel) rfl
theorem q_533 : Cond.static y_Md_isToken ∈ TB := tq 533 (by decide +kernel) rfl
theorem q_534 : Cond.code y_Md_isToken b_Md_isToken 1 (some .boolean) ∈ TB := tq 534 (by decide +kernel) rfl
theorem d_Md_meaning_0 : decode b_Md_meaning 0 = .ok (.aload_n 0, 1) := by decide +kernel
theorem d_Md_meaning_1 : decode b_Md_meaning 1 = .ok (.iconst 0, 1) := by decide +kernel
theorem d_Md_meaning_2 : decode b_Md_meaning 2 = .ok (.putfield 44, 3) := by decide +kernel
theorem d_Md_meaning_5 : decode b_Md_meaning 5 = .ok (.iload_n 1, 1) := by decide +kernel
theorem d_Md_meaning_6 : decode b_Md_meaning 6 = .ok (.iconst 0, 1) := by decide +kernel
theorem d_Md_meaning_7 : decode b_Md_meaning 7 = .ok (.bipush 39, 2) := by decide +kernel
theorem d_Md_meaning_9 : decode b_Md_meaning 9 = .ok (.invokestatic 48, 3) := by decide +kernel
theorem d_Md_meaning_12 : decode b_Md_meaning 12 = .ok (.ifCond .eq 26, 3) := by decide +kernel
theorem d_Md_meaning_15 : decode b_Md_meaning 15 = .ok (.iload_n 2, 1) := by decide +kernel
theorem d_Md_meaning_16 : decode b_Md_meaning 16 = .ok (.iconst 2, 1) := by decide +kernel
theorem d_Md_meaning_17 : decode b_Md_meaning 17 = .ok (.iconst 3, 1) := by decide +kernel
theorem d_Md_meaning_18 : decode b_Md_meaning 18 = .ok (.invokestatic 48, 3) := by decide +kernel
theorem d_Md_meaning_21 : decode b_Md_meaning 21 = .ok (.ifCond .eq 19, 3) := by decide +kernel
theorem d_Md_meaning_24 : decode b_Md_meaning 24 = .ok (.iload_n 3, 1) := by decide +kernel
theorem d_Md_meaning_25 : decode b_Md_meaning 25 = .ok (.iconst 0, 1) := by decide +kernel
theorem d_Md_meaning_26 : decode b_Md_meaning 26 = .ok (.aload_n 0, 1) := by decide +kernel
theorem d_Md_meaning_27 : decode b_Md_meaning 27 = .ok (.getfield 52, 3) := by decide +kernel
theorem d_Md_meaning_30 : decode b_Md_meaning 30 = .ok (.iconst 1, 1) := by decide +kernel
theorem d_Md_meaning_31 : decode b_Md_meaning 31 = .ok (.isub, 1) := by decide +kernel
theorem d_Md_meaning_32 : decode b_Md_meaning 32 = .ok (.invokestatic 48, 3) := by decide +kernel
theorem d_Md_meaning_35 : decode b_Md_meaning 35 = .ok (.ifCond .ne 5, 3) := by decide +kernel
theorem d_Md_meaning_38 : decode b_Md_meaning 38 = .ok (.iconst (-1), 1) := by decide +kernel
theorem d_Md_meaning_39 : decode b_Md_meaning 39 = .ok (.ireturn, 1) := by decide +kernel
theorem d_Md_meaning_40 : decode b_Md_meaning 40 = .ok (.iload_n 2, 1) := by decide +kernel
theorem d_Md_meaning_41 : decode b_Md_meaning 41 = .ok (.iconst 1, 1) := by decide +kernel
theorem d_Md_meaning_42 : decode b_Md_meaning 42 = .ok (.if_icmp .ne 14, 3) := by decide +kernel
theorem d_Md_meaning_45 : decode b_Md_meaning 45 = .ok (.iload_n 3, 1) := by decide +kernel
theorem d_Md_meaning_46 : decode b_Md_meaning 46 = .ok (.iconst 0, 1) := by decide +kernel
theorem d_Md_meaning_47 : decode b_Md_meaning 47 = .ok (.sipush 4095, 3) := by decide +kernel
theorem d_Md_meaning_50 : decode b_Md_meaning 50 = .ok (.invokestatic 48, 3) := by decide +kernel
theorem d_Md_meaning_53 : decode b_Md_meaning 53 = .ok (.goto 52, 3) := by decide +kernel
theorem d_Md_meaning_56 : decode b_Md_meaning 56 = .ok (.iload_n 2, 1) := by decide +kernel
theorem d_Md_meaning_57 : decode b_Md_meaning 57 = .ok (.iconst 4, 1) := by decide +kernel
theorem d_Md_meaning_58 : decode b_Md_meaning 58 = .ok (.if_icmp .ne 14, 3) := by decide +kernel
theorem d_Md_meaning_61 : decode b_Md_meaning 61 = .ok (.iload_n 3, 1) := by decide +kernel
theorem d_Md_meaning_62 : decode b_Md_meaning 62 = .ok (.ldc 55, 2) := by decide +kernel
theorem d_Md_meaning_64 : decode b_Md_meaning 64 = .ok (.ldc 56, 2) := by decide +kernel
theorem d_Md_meaning_66 : decode b_Md_meaning 66 = .ok (.invokestatic 48, 3) := by decide +kernel
theorem d_Md_meaning_69 : decode b_Md_meaning 69 = .ok (.goto 36, 3) := by decide +kernel
theorem d_Md_meaning_72 : decode b_Md_meaning 72 = .ok (.iload_n 2, 1) := by decide +kernel
theorem d_Md_meaning_73 : decode b_Md_meaning 73 = .ok (.iconst 5, 1) := by decide +kernel
theorem d_Md_meaning_74 : decode b_Md_meaning 74 = .ok (.if_icmp .ne 13, 3) := by decide +kernel
theorem d_Md_meaning_77 : decode b_Md_meaning 77 = .ok (.iload_n 3, 1) := by decide +kernel
theorem d_Md_meaning_78 : decode b_Md_meaning 78 = .ok (.iconst 0, 1) := by decide +kernel
theorem d_Md_meaning_79 : decode b_Md_meaning 79 = .ok (.bipush 10, 2) := by decide +kernel
theorem d_Md_meaning_81 : decode b_Md_meaning 81 = .ok (.invokestatic 48, 3) := by decide +kernel
theorem d_Md_meaning_84 : decode b_Md_meaning 84 = .ok (.goto 21, 3) := by decide +kernel
theorem d_Md_meaning_87 : decode b_Md_meaning 87 = .ok (.iload_n 2, 1) := by decide +kernel
theorem d_Md_meaning_88 : decode b_Md_meaning 88 = .ok (.iconst 2, 1) := by decide +kernel
theorem d_Md_meaning_89 : decode b_Md_meaning 89 = .ok (.iconst 3, 1) := by decide +kernel
theorem d_Md_meaning_90 : decode b_Md_meaning 90 = .ok (.invokestatic 48, 3) := by decide +kernel
theorem d_Md_meaning_93 : decode b_Md_meaning 93 = .ok (.ifCond .ne 7, 3) := by decide +kernel
theorem d_Md_meaning_96 : decode b_Md_meaning 96 = .ok (.iload_n 3, 1) := by decide +kernel
theorem d_Md_meaning_97 : decode b_Md_meaning 97 = .ok (.ifCond .ne 7, 3) := by decide +kernel
theorem d_Md_meaning_100 : decode b_Md_meaning 100 = .ok (.iconst 1, 1) := by decide +kernel
theorem d_Md_meaning_101 : decode b_Md_meaning 101 = .ok (.goto 4, 3) := by decide +kernel
theorem d_Md_meaning_104 : decode b_Md_meaning 104 = .ok (.iconst 0, 1) := by decide +kernel
theorem d_Md_meaning_105 : decode b_Md_meaning 105 = .ok (.istore 4, 2) := by decide +kernel
theorem d_Md_meaning_107 : decode b_Md_meaning 107 = .ok (.iload_n 2, 1) := by decide +kernel
theorem d_Md_meaning_108 : decode b_Md_meaning 108 = .ok (.iconst 0, 1) := by decide +kernel
theorem d_Md_meaning_109 : decode b_Md_meaning 109 = .ok (.bipush 8, 2) := by decide +kernel
theorem d_Md_meaning_111 : decode b_Md_meaning 111 = .ok (.invokestatic 48, 3) := by decide +kernel
theorem d_Md_meaning_114 : decode b_Md_meaning 114 = .ok (.ifCond .eq 8, 3) := by decide +kernel
theorem d_Md_meaning_117 : decode b_Md_meaning 117 = .ok (.iload 4, 2) := by decide +kernel
theorem d_Md_meaning_119 : decode b_Md_meaning 119 = .ok (.ifCond .ne 6, 3) := by decide +kernel
theorem d_Md_meaning_122 : decode b_Md_meaning 122 = .ok (.bipush (-2), 2) := by decide +kernel
theorem d_Md_meaning_124 : decode b_Md_meaning 124 = .ok (.ireturn, 1) := by decide +kernel
theorem d_Md_meaning_125 : decode b_Md_meaning 125 = .ok (.aload_n 0, 1) := by decide +kernel
theorem d_Md_meaning_126 : decode b_Md_meaning 126 = .ok (.getfield 7, 3) := by decide +kernel
theorem d_Md_meaning_129 : decode b_Md_meaning 129 = .ok (.iload_n 1, 1) := by decide +kernel
theorem d_Md_meaning_130 : decode b_Md_meaning 130 = .ok (.iload_n 2, 1) := by decide +kernel
theorem d_Md_meaning_131 : decode b_Md_meaning 131 = .ok (.iastore, 1) := by decide +kernel
theorem d_Md_meaning_132 : decode b_Md_meaning 132 = .ok (.aload_n 0, 1) := by decide +kernel
theorem d_Md_meaning_133 : decode b_Md_meaning 133 = .ok (.getfield 13, 3) := by decide +kernel
theorem d_Md_meaning_136 : decode b_Md_meaning 136 = .ok (.iload_n 1, 1) := by decide +kernel
theorem d_Md_meaning_137 : decode b_Md_meaning 137 = .ok (.iload_n 3, 1) := by decide +kernel
theorem d_Md_meaning_138 : decode b_Md_meaning 138 = .ok (.iastore, 1) := by decide +kernel
theorem d_Md_meaning_139 : decode b_Md_meaning 139 = .ok (.iconst 1, 1) := by decide +kernel
theorem d_Md_meaning_140 : decode b_Md_meaning 140 = .ok (.ireturn, 1) := by decide +kernel
theorem d_Md_token_0 : decode b_Md_token 0 = .ok (.aload_n 0, 1) := by decide +kernel
theorem d_Md_token_1 : decode b_Md_token 1 = .ok (.iconst 0, 1) := by decide +kernel
theorem d_Md_token_2 : decode b_Md_token 2 = .ok (.putfield 44, 3) := by decide +kernel
theorem d_Md_token_5 : decode b_Md_token 5 = .ok (.iload_n 1, 1) := by decide +kernel
theorem d_Md_token_6 : decode b_Md_token 6 = .ok (.iconst (-1), 1) := by decide +kernel
theorem d_Md_token_7 : decode b_Md_token 7 = .ok (.if_icmp .eq 19, 3) := by decide +kernel
theorem d_Md_token_10 : decode b_Md_token 10 = .ok (.iload_n 1, 1) := by decide +kernel
theorem d_Md_token_11 : decode b_Md_token 11 = .ok (.iconst 0, 1) := by decide +kernel
theorem d_Md_token_12 : decode b_Md_token 12 = .ok (.aload_n 0, 1) := by decide +kernel
theorem d_Md_token_13 : decode b_Md_token 13 = .ok (.getfield 52, 3) := by decide +kernel
theorem d_Md_token_16 : decode b_Md_token 16 = .ok (.iconst 1, 1) := by decide +kernel
theorem d_Md_token_17 : decode b_Md_token 17 = .ok (.isub, 1) := by decide +kernel
theorem d_Md_token_18 : decode b_Md_token 18 = .ok (.invokestatic 48, 3) := by decide +kernel
theorem d_Md_token_21 : decode b_Md_token 21 = .ok (.ifCond .ne 5, 3) := by decide +kernel
theorem d_Md_token_24 : decode b_Md_token 24 = .ok (.iconst (-1), 1) := by decide +kernel
theorem d_Md_token_25 : decode b_Md_token 25 = .ok (.ireturn, 1) := by decide +kernel
theorem d_Md_token_26 : decode b_Md_token 26 = .ok (.iload_n 2, 1) := by decide +kernel
theorem d_Md_token_27 : decode b_Md_token 27 = .ok (.invokestatic 57, 3) := by decide +kernel
theorem d_Md_token_30 : decode b_Md_token 30 = .ok (.ifCond .ne 6, 3) := by decide +kernel
theorem d_Md_token_33 : decode b_Md_token 33 = .ok (.bipush (-2), 2) := by decide +kernel
theorem d_Md_token_35 : decode b_Md_token 35 = .ok (.ireturn, 1) := by decide +kernel
theorem d_Md_token_36 : decode b_Md_token 36 = .ok (.iload_n 1, 1) := by decide +kernel
theorem d_Md_token_37 : decode b_Md_token 37 = .ok (.ifCond .ge 8, 3) := by decide +kernel
theorem d_Md_token_40 : decode b_Md_token 40 = .ok (.bipush 20, 2) := by decide +kernel
theorem d_Md_token_42 : decode b_Md_token 42 = .ok (.goto 4, 3) := by decide +kernel
theorem d_Md_token_45 : decode b_Md_token 45 = .ok (.iload_n 1, 1) := by decide +kernel
theorem d_Md_token_46 : decode b_Md_token 46 = .ok (.istore_n 3, 1) := by decide +kernel
theorem d_Md_token_47 : decode b_Md_token 47 = .ok (.aload_n 0, 1) := by decide +kernel
theorem d_Md_token_48 : decode b_Md_token 48 = .ok (.getfield 19, 3) := by decide +kernel
theorem d_Md_token_51 : decode b_Md_token 51 = .ok (.iload_n 3, 1) := by decide +kernel
theorem d_Md_token_52 : decode b_Md_token 52 = .ok (.iaload, 1) := by decide +kernel
theorem d_Md_token_53 : decode b_Md_token 53 = .ok (.iload_n 1, 1) := by decide +kernel
theorem d_Md_token_54 : decode b_Md_token 54 = .ok (.ifCond .ge 9, 3) := by decide +kernel
theorem d_Md_token_57 : decode b_Md_token 57 = .ok (.sipush 200, 3) := by decide +kernel
theorem d_Md_token_60 : decode b_Md_token 60 = .ok (.goto 5, 3) := by decide +kernel
theorem d_Md_token_63 : decode b_Md_token 63 = .ok (.bipush 12, 2) := by decide +kernel
theorem d_Md_token_65 : decode b_Md_token 65 = .ok (.if_icmp .ne 6, 3) := by decide +kernel
theorem d_Md_token_68 : decode b_Md_token 68 = .ok (.bipush (-4), 2) := by decide +kernel
theorem d_Md_token_70 : decode b_Md_token 70 = .ok (.ireturn, 1) := by decide +kernel
theorem d_Md_token_71 : decode b_Md_token 71 = .ok (.aload_n 0, 1) := by decide +kernel
theorem d_Md_token_72 : decode b_Md_token 72 = .ok (.getfield 16, 3) := by decide +kernel
theorem d_Md_token_75 : decode b_Md_token 75 = .ok (.sipush 200, 3) := by decide +kernel
theorem d_Md_token_78 : decode b_Md_token 78 = .ok (.iload_n 3, 1) := by decide +kernel
theorem d_Md_token_79 : decode b_Md_token 79 = .ok (.imul, 1) := by decide +kernel
theorem d_Md_token_80 : decode b_Md_token 80 = .ok (.aload_n 0, 1) := by decide +kernel
theorem d_Md_token_81 : decode b_Md_token 81 = .ok (.getfield 19, 3) := by decide +kernel
theorem d_Md_token_84 : decode b_Md_token 84 = .ok (.iload_n 3, 1) := by decide +kernel
theorem d_Md_token_85 : decode b_Md_token 85 = .ok (.iaload, 1) := by decide +kernel
theorem d_Md_token_86 : decode b_Md_token 86 = .ok (.iadd, 1) := by decide +kernel
theorem d_Md_token_87 : decode b_Md_token 87 = .ok (.iload_n 2, 1) := by decide +kernel
theorem d_Md_token_88 : decode b_Md_token 88 = .ok (.iastore, 1) := by decide +kernel
theorem d_Md_token_89 : decode b_Md_token 89 = .ok (.aload_n 0, 1) := by decide +kernel
theorem d_Md_token_90 : decode b_Md_token 90 = .ok (.getfield 19, 3) := by decide +kernel
theorem d_Md_token_93 : decode b_Md_token 93 = .ok (.iload_n 3, 1) := by decide +kernel
theorem d_Md_token_94 : decode b_Md_token 94 = .ok (.dup2, 1) := by decide +kernel
theorem d_Md_token_95 : decode b_Md_token 95 = .ok (.iaload, 1) := by decide +kernel
theorem d_Md_token_96 : decode b_Md_token 96 = .ok (.iconst 1, 1) := by decide +kernel
theorem d_Md_token_97 : decode b_Md_token 97 = .ok (.iadd, 1) := by decide +kernel
theorem d_Md_token_98 : decode b_Md_token 98 = .ok (.iastore, 1) := by decide +kernel
theorem d_Md_token_99 : decode b_Md_token 99 = .ok (.aload_n 0, 1) := by decide +kernel
theorem d_Md_token_100 : decode b_Md_token 100 = .ok (.getfield 19, 3) := by decide +kernel
theorem d_Md_token_103 : decode b_Md_token 103 = .ok (.iload_n 3, 1) := by decide +kernel
theorem d_Md_token_104 : decode b_Md_token 104 = .ok (.iaload, 1) := by decide +kernel
theorem d_Md_token_105 : decode b_Md_token 105 = .ok (.ireturn, 1) := by decide +kernel
theorem d_Md_mode_0 : decode b_Md_mode 0 = .ok (.aload_n 0, 1) := by decide +kernel
theorem d_Md_mode_1 : decode b_Md_mode 1 = .ok (.iconst 0, 1) := by decide +kernel
theorem d_Md_mode_2 : decode b_Md_mode 2 = .ok (.putfield 44, 3) := by decide +kernel
theorem d_Md_mode_5 : decode b_Md_mode 5 = .ok (.iload_n 1, 1) := by decide +kernel
theorem d_Md_mode_6 : decode b_Md_mode 6 = .ok (.iconst 0, 1) := by decide +kernel
theorem d_Md_mode_7 : decode b_Md_mode 7 = .ok (.iconst 3, 1) := by decide +kernel
theorem d_Md_mode_8 : decode b_Md_mode 8 = .ok (.invokestatic 48, 3) := by decide +kernel
theorem d_Md_mode_11 : decode b_Md_mode 11 = .ok (.ifCond .ne 6, 3) := by decide +kernel
theorem d_Md_mode_14 : decode b_Md_mode 14 = .ok (.bipush (-2), 2) := by decide +kernel
theorem d_Md_mode_16 : decode b_Md_mode 16 = .ok (.ireturn, 1) := by decide +kernel
theorem d_Md_mode_17 : decode b_Md_mode 17 = .ok (.aload_n 0, 1) := by decide +kernel
theorem d_Md_mode_18 : decode b_Md_mode 18 = .ok (.getfield 22, 3) := by decide +kernel
theorem d_Md_mode_21 : decode b_Md_mode 21 = .ok (.iload_n 1, 1) := by decide +kernel
theorem d_Md_mode_22 : decode b_Md_mode 22 = .ok (.iload_n 2, 1) := by decide +kernel
theorem d_Md_mode_23 : decode b_Md_mode 23 = .ok (.bastore, 1) := by decide +kernel
theorem d_Md_mode_24 : decode b_Md_mode 24 = .ok (.iconst 1, 1) := by decide +kernel
theorem d_Md_mode_25 : decode b_Md_mode 25 = .ok (.ireturn, 1) := by decide +kernel
theorem d_Md_end_0 : decode b_Md_end 0 = .ok (.aload_n 0, 1) := by decide +kernel
theorem d_Md_end_1 : decode b_Md_end 1 = .ok (.iconst 0, 1) := by decide +kernel
theorem d_Md_end_2 : decode b_Md_end 2 = .ok (.putfield 44, 3) := by decide +kernel
theorem d_Md_end_5 : decode b_Md_end 5 = .ok (.iload_n 1, 1) := by decide +kernel
theorem d_Md_end_6 : decode b_Md_end 6 = .ok (.iconst 0, 1) := by decide +kernel
theorem d_Md_end_7 : decode b_Md_end 7 = .ok (.bipush 7, 2) := by decide +kernel
theorem d_Md_end_9 : decode b_Md_end 9 = .ok (.invokestatic 48, 3) := by decide +kernel
theorem d_Md_end_12 : decode b_Md_end 12 = .ok (.ifCond .ne 6, 3) := by decide +kernel
theorem d_Md_end_15 : decode b_Md_end 15 = .ok (.bipush (-2), 2) := by decide +kernel
theorem d_Md_end_17 : decode b_Md_end 17 = .ok (.ireturn, 1) := by decide +kernel
theorem d_Md_end_18 : decode b_Md_end 18 = .ok (.aload_n 0, 1) := by decide +kernel
theorem d_Md_end_19 : decode b_Md_end 19 = .ok (.getfield 26, 3) := by decide +kernel
theorem d_Md_end_22 : decode b_Md_end 22 = .ok (.iload_n 1, 1) := by decide +kernel
theorem d_Md_end_23 : decode b_Md_end 23 = .ok (.iload_n 2, 1) := by decide +kernel
theorem d_Md_end_24 : decode b_Md_end 24 = .ok (.bastore, 1) := by decide +kernel
theorem d_Md_end_25 : decode b_Md_end 25 = .ok (.iconst 1, 1) := by decide +kernel
theorem d_Md_end_26 : decode b_Md_end 26 = .ok (.ireturn, 1) := by decide +kernel
theorem d_Md_told_0 : decode b_Md_told 0 = .ok (.aload_n 0, 1) := by decide +kernel
theorem d_Md_told_1 : decode b_Md_told 1 = .ok (.iconst 0, 1) := by decide +kernel
theorem d_Md_told_2 : decode b_Md_told 2 = .ok (.putfield 44, 3) := by decide +kernel
theorem d_Md_told_5 : decode b_Md_told 5 = .ok (.iload_n 1, 1) := by decide +kernel
theorem d_Md_told_6 : decode b_Md_told 6 = .ok (.tableswitch 77 0 6 #[42, 47, 52, 57, 62, 67, 72], 42) := by decide +kernel
theorem d_Md_told_48 : decode b_Md_told 48 = .ok (.aload_n 0, 1) := by decide +kernel
theorem d_Md_told_49 : decode b_Md_told 49 = .ok (.getfield 81, 3) := by decide +kernel
theorem d_Md_told_52 : decode b_Md_told 52 = .ok (.ireturn, 1) := by decide +kernel
theorem d_Md_told_53 : decode b_Md_told 53 = .ok (.aload_n 0, 1) := by decide +kernel
theorem d_Md_told_54 : decode b_Md_told 54 = .ok (.getfield 151, 3) := by decide +kernel
theorem d_Md_told_57 : decode b_Md_told 57 = .ok (.ireturn, 1) := by decide +kernel
theorem d_Md_told_58 : decode b_Md_told 58 = .ok (.aload_n 0, 1) := by decide +kernel
theorem d_Md_told_59 : decode b_Md_told 59 = .ok (.getfield 134, 3) := by decide +kernel
theorem d_Md_told_62 : decode b_Md_told 62 = .ok (.ireturn, 1) := by decide +kernel
theorem d_Md_told_63 : decode b_Md_told 63 = .ok (.aload_n 0, 1) := by decide +kernel
theorem d_Md_told_64 : decode b_Md_told 64 = .ok (.getfield 137, 3) := by decide +kernel
theorem d_Md_told_67 : decode b_Md_told 67 = .ok (.ireturn, 1) := by decide +kernel
theorem d_Md_told_68 : decode b_Md_told 68 = .ok (.aload_n 0, 1) := by decide +kernel
theorem d_Md_told_69 : decode b_Md_told 69 = .ok (.getfield 148, 3) := by decide +kernel
theorem d_Md_told_72 : decode b_Md_told 72 = .ok (.ireturn, 1) := by decide +kernel
theorem d_Md_told_73 : decode b_Md_told 73 = .ok (.aload_n 0, 1) := by decide +kernel
theorem d_Md_told_74 : decode b_Md_told 74 = .ok (.getfield 104, 3) := by decide +kernel
theorem d_Md_told_77 : decode b_Md_told 77 = .ok (.ireturn, 1) := by decide +kernel
theorem d_Md_told_78 : decode b_Md_told 78 = .ok (.aload_n 0, 1) := by decide +kernel
theorem d_Md_told_79 : decode b_Md_told 79 = .ok (.getfield 72, 3) := by decide +kernel
theorem d_Md_told_82 : decode b_Md_told 82 = .ok (.ireturn, 1) := by decide +kernel
theorem d_Md_told_83 : decode b_Md_told 83 = .ok (.bipush (-2), 2) := by decide +kernel
theorem d_Md_told_85 : decode b_Md_told 85 = .ok (.ireturn, 1) := by decide +kernel
theorem d_Md_decided_0 : decode b_Md_decided 0 = .ok (.aload_n 0, 1) := by decide +kernel
theorem d_Md_decided_1 : decode b_Md_decided 1 = .ok (.iconst 0, 1) := by decide +kernel
theorem d_Md_decided_2 : decode b_Md_decided 2 = .ok (.putfield 44, 3) := by decide +kernel
theorem d_Md_decided_5 : decode b_Md_decided 5 = .ok (.aload_n 0, 1) := by decide +kernel
theorem d_Md_decided_6 : decode b_Md_decided 6 = .ok (.getfield 154, 3) := by decide +kernel
theorem d_Md_decided_9 : decode b_Md_decided 9 = .ok (.ifCond .eq 22, 3) := by decide +kernel
theorem d_Md_decided_12 : decode b_Md_decided 12 = .ok (.iload_n 1, 1) := by decide +kernel
theorem d_Md_decided_13 : decode b_Md_decided 13 = .ok (.iconst 0, 1) := by decide +kernel
theorem d_Md_decided_14 : decode b_Md_decided 14 = .ok (.bipush 99, 2) := by decide +kernel
theorem d_Md_decided_16 : decode b_Md_decided 16 = .ok (.invokestatic 48, 3) := by decide +kernel
theorem d_Md_decided_19 : decode b_Md_decided 19 = .ok (.ifCond .eq 12, 3) := by decide +kernel
theorem d_Md_decided_22 : decode b_Md_decided 22 = .ok (.aload_n 0, 1) := by decide +kernel
theorem d_Md_decided_23 : decode b_Md_decided 23 = .ok (.getfield 38, 3) := by decide +kernel
theorem d_Md_decided_26 : decode b_Md_decided 26 = .ok (.iload_n 1, 1) := by decide +kernel
theorem d_Md_decided_27 : decode b_Md_decided 27 = .ok (.iaload, 1) := by decide +kernel
theorem d_Md_decided_28 : decode b_Md_decided 28 = .ok (.goto 5, 3) := by decide +kernel
theorem d_Md_decided_31 : decode b_Md_decided 31 = .ok (.bipush (-5), 2) := by decide +kernel
theorem d_Md_decided_33 : decode b_Md_decided 33 = .ok (.ireturn, 1) := by decide +kernel
noncomputable def f_Md_meaning (d : TMd) (p0 : Int32) (p1 : Int32) (p2 : Int32) : (Int32 × TMd) := (if (f_Md_in p0 0 39) = 0 then ((-1), (TMd_set_thrown d 0)) else (if (f_Md_in p1 2 3) = 0 then (if p1 = 1 then (if (f_Md_in p1 0 8) = 0 then ((-2), (TMd_set_thrown d 0)) else (if (f_Md_in p2 0 4095) = 0 then ((-2), (TMd_set_thrown d 0)) else (1, (TMd_set_values (TMd_set_kinds (TMd_set_thrown d 0) (upd (TMd_kinds d) p0.toNatClampNeg p1)) (upd (TMd_values d) p0.toNatClampNeg p2))))) else (if p1 = 4 then (if (f_Md_in p1 0 8) = 0 then ((-2), (TMd_set_thrown d 0)) else (if (f_Md_in p2 (-999999999) 999999999) = 0 then ((-2), (TMd_set_thrown d 0)) else (1, (TMd_set_values (TMd_set_kinds (TMd_set_thrown d 0) (upd (TMd_kinds d) p0.toNatClampNeg p1)) (upd (TMd_values d) p0.toNatClampNeg p2))))) else (if p1 = 5 then (if (f_Md_in p1 0 8) = 0 then ((-2), (TMd_set_thrown d 0)) else (if (f_Md_in p2 0 10) = 0 then ((-2), (TMd_set_thrown d 0)) else (1, (TMd_set_values (TMd_set_kinds (TMd_set_thrown d 0) (upd (TMd_kinds d) p0.toNatClampNeg p1)) (upd (TMd_values d) p0.toNatClampNeg p2))))) else (if p2 = 0 then (if (f_Md_in p1 0 8) = 0 then ((-2), (TMd_set_thrown d 0)) else (1, (TMd_set_values (TMd_set_kinds (TMd_set_thrown d 0) (upd (TMd_kinds d) p0.toNatClampNeg p1)) (upd (TMd_values d) p0.toNatClampNeg p2)))) else (if (f_Md_in p1 0 8) = 0 then ((-2), (TMd_set_thrown d 0)) else ((-2), (TMd_set_thrown d 0))))))) else (if (f_Md_in p2 0 ((TMd_bodies d) - 1)) = 0 then ((-1), (TMd_set_thrown d 0)) else (if p1 = 1 then (if (f_Md_in p1 0 8) = 0 then ((-2), (TMd_set_thrown d 0)) else (if (f_Md_in p2 0 4095) = 0 then ((-2), (TMd_set_thrown d 0)) else (1, (TMd_set_values (TMd_set_kinds (TMd_set_thrown d 0) (upd (TMd_kinds d) p0.toNatClampNeg p1)) (upd (TMd_values d) p0.toNatClampNeg p2))))) else (if p1 = 4 then (if (f_Md_in p1 0 8) = 0 then ((-2), (TMd_set_thrown d 0)) else (if (f_Md_in p2 (-999999999) 999999999) = 0 then ((-2), (TMd_set_thrown d 0)) else (1, (TMd_set_values (TMd_set_kinds (TMd_set_thrown d 0) (upd (TMd_kinds d) p0.toNatClampNeg p1)) (upd (TMd_values d) p0.toNatClampNeg p2))))) else (if p1 = 5 then (if (f_Md_in p1 0 8) = 0 then ((-2), (TMd_set_thrown d 0)) else (if (f_Md_in p2 0 10) = 0 then ((-2), (TMd_set_thrown d 0)) else (1, (TMd_set_values (TMd_set_kinds (TMd_set_thrown d 0) (upd (TMd_kinds d) p0.toNatClampNeg p1)) (upd (TMd_values d) p0.toNatClampNeg p2))))) else (if (f_Md_in p1 0 8) = 0 then ((-2), (TMd_set_thrown d 0)) else (1, (TMd_set_values (TMd_set_kinds (TMd_set_thrown d 0) (upd (TMd_kinds d) p0.toNatClampNeg p1)) (upd (TMd_values d) p0.toNatClampNeg p2))))))))))
set_option maxHeartbeats 4000000 in
set_option maxRecDepth 100000 in
theorem c_Md_meaning (l : Launch) (dC : Nat → ClassId) (dI : Nat → Nat → Nat) (ad : Nat → Nat) (ca : Nat → ClassId) (sz : Nat) (d : TMd) (p0 : Int32) (p1 : Int32) (p2 : Int32) (F : (Int32 × TMd)) (he : F = f_Md_meaning d p0 p1 p2) : wx_Mi l y_Md_meaning ws_Md_meaning ({ frames := 1, cells := 0, slots := 0, locals := 22 } : Room) (dC, dI) vwCl (t_M ca) [.ref (ad 16), .int p0, .int p1, .int p2] (w_M ad ca d) sz (fun v : TMd => w_M ad ca v) (fun (r : Int32) (v : TMd) => (r, v) = F) := by
  refine Met.ofW (cc := b_Md_meaning) (maxL := 5) (ret := some .int) (by decide) rfl ?_
  intro p e s m args below meth c s₁ B hml hv
  obtain ⟨rfl, hsz, hP, hK, hD0, hN⟩ := hv
  have hx := B.exec
  have hb := B.bytes
  have hr := B.returns
  have hts := atoms_spec (ws := ws_Md_meaning) B.pre
  have ht : ∀ w ∈ TB, w.before _ s = true := fun w h => hts w (List.mem_cons_of_mem _ h)
  have hown : s.vm.findClass R_Md = some m.cls := findClass_of_methodNamed B.named
  have hlocks := B.notSynchronized
  subst hsz
  have hD := hD0.self (sz := s.heap.size)
  generalize hAe : va_A (w_M ad ca d) s.heap.size = A at hD ⊢
  have hA : ∀ q : Nat, s.heap.size ≤ q → A q := fun q h => by rw [← hAe]; exact Or.inr h
  have hS : va_S A s.heap s.heap [] := va_S.rf
  have hl := lv_entry ([.ref (ad 16), .int p0, .int p1, .int p2]) (n := 5) (Nat.le_of_ble_eq_true rfl)
  rw [lg_entry_eq]
  generalize (lg_sl ([.ref (ad 16), .int p0, .int p1, .int p2]) ++ List.replicate (5 - (lg_sl ([.ref (ad 16), .int p0, .int p1, .int p2])).length) Slot.unset).toArray = ls at hl ⊢
  have hl : lv_has ls 5 [(0, .ref (ad 16)), (1, .int p0), (2, .int p1), (3, .int p2)] := hl
  unfold f_Md_meaning at he
  refine lv_aload_n hx hb d_Md_meaning_0 rfl (lv_at hl 0 rfl) ?_
  refine lv_iconst (v := 0) hx hb d_Md_meaning_1 (by decide) ?_
  refine va_put (D := (dC, dI)) (ci := 4) (v := .int 0) (ty := .int) (C := R_Md) (T := T_Md) (N := 23) hx hb ht i_Md ty_Md ty_Md_ok nm_Md hown hK hP hD hS 0 rfl rfl 0 (by decide) (ht _ q_445) (fun _ h9 => h9) rfl (by decide +kernel) rfl rfl (Nat.le_of_ble_eq_true rfl) d_Md_meaning_2 (fun H locs hP hD hS => ?_)
  have hP : va_P (dC, dI) vwCl (w_M ad ca (TMd_set_thrown d 0)) H := hP
  have hD : va_D A (w_M ad ca (TMd_set_thrown d 0)) := hD
  refine lv_iload_n hx hb d_Md_meaning_5 rfl (lv_at hl 1 rfl) ?_
  refine lv_iconst (v := 0) hx hb d_Md_meaning_6 (by decide) ?_
  refine lv_bipush (v := 39) hx hb d_Md_meaning_7 (by decide) ?_
  refine wx_ci (wS := fun _ : Unit => w_E ad ca) (ws2 := fun _ : Unit => w_M ad ca (TMd_set_thrown d 0)) (va_runS (As := [.int p0, .int 0, .int 39]) (rest := []) ⟨hx, hb, hml, hown, ht⟩ (c_Md_in l dC dI ad ca H.size p0 0 39 _ rfl) (va_cwS 3 ht (tb_S q_519 q_520 q_47 q_521) rfl rfl rfl p_Md_in.2 ⟨show 0 + 1 ≤ 1 by omega, show 8 + (3 + 11) + 0 ≤ 22 by omega⟩) (wx_preS (wc := (w_E ad ca)) hN hK hP hD [] [] rfl (by decide) rfl) rfl rfl hl.1 rfl (lv_room (Nat.le_of_ble_eq_true rfl)) d_Md_meaning_9 ⟨Nat.zero_le _, Nat.zero_le _⟩) hP hD hS hA [] [0, 1, 2, 3, 4, 5, 6, 7, 8, 9, 10, 11] [0, 1, 2, 3, 4, 5, 6, 7, 8, 9, 10, 11] rfl rfl (by decide) (by decide) (by decide) (fun _ => rfl) (fun r_1 _ H locs hw_1 hP hD hS => ?_)
  subst hw_1
  have hP : va_P (dC, dI) vwCl (w_M ad ca (TMd_set_thrown d 0)) H := hP
  have hD : va_D A (w_M ad ca (TMd_set_thrown d 0)) := hD
  refine lv_if_eq (tgt := 38) hx hb d_Md_meaning_12 (by decide) (fun c_2 => ?_) (fun c_2 => ?_)
  · have he := he.trans (if_pos c_2)
    refine lv_iconst (v := (-1)) hx hb d_Md_meaning_38 (by decide) ?_
    exact W.iret hx hb hr (v := (-1)) (fun t ht hW => ⟨⟨(-1), (TMd_set_thrown d 0), rfl, he.symm, by rw [ht]; exact hP, va_K.moved hW.alike hK, hD⟩, hS.F ht⟩) hS.2.2 d_Md_meaning_39
  · have he := he.trans (if_neg c_2)
    refine lv_iload_n hx hb d_Md_meaning_15 rfl (lv_at hl 2 rfl) ?_
    refine lv_iconst (v := 2) hx hb d_Md_meaning_16 (by decide) ?_
    refine lv_iconst (v := 3) hx hb d_Md_meaning_17 (by decide) ?_
    refine wx_ci (wS := fun _ : Unit => w_E ad ca) (ws2 := fun _ : Unit => w_M ad ca (TMd_set_thrown d 0)) (va_runS (As := [.int p1, .int 2, .int 3]) (rest := []) ⟨hx, hb, hml, hown, ht⟩ (c_Md_in l dC dI ad ca H.size p1 2 3 _ rfl) (va_cwS 3 ht (tb_S q_519 q_520 q_47 q_521) rfl rfl rfl p_Md_in.2 ⟨show 0 + 1 ≤ 1 by omega, show 8 + (3 + 11) + 0 ≤ 22 by omega⟩) (wx_preS (wc := (w_E ad ca)) hN hK hP hD [] [] rfl (by decide) rfl) rfl rfl hl.1 rfl (lv_room (Nat.le_of_ble_eq_true rfl)) d_Md_meaning_18 ⟨Nat.zero_le _, Nat.zero_le _⟩) hP hD hS hA [] [0, 1, 2, 3, 4, 5, 6, 7, 8, 9, 10, 11] [0, 1, 2, 3, 4, 5, 6, 7, 8, 9, 10, 11] rfl rfl (by decide) (by decide) (by decide) (fun _ => rfl) (fun r_3 _ H locs hw_3 hP hD hS => ?_)
    subst hw_3
    have hP : va_P (dC, dI) vwCl (w_M ad ca (TMd_set_thrown d 0)) H := hP
    have hD : va_D A (w_M ad ca (TMd_set_thrown d 0)) := hD
    refine lv_if_eq (tgt := 40) hx hb d_Md_meaning_21 (by decide) (fun c_4 => ?_) (fun c_4 => ?_)
    · have he := he.trans (if_pos c_4)
      refine lv_iload_n hx hb d_Md_meaning_40 rfl (lv_at hl 2 rfl) ?_
      refine lv_iconst (v := 1) hx hb d_Md_meaning_41 (by decide) ?_
      refine lv_icmp_ne (tgt := 56) hx hb d_Md_meaning_42 (by decide) (fun c_5 => ?_) (fun c_5 => ?_)
      · have he := he.trans (if_neg c_5)
        refine lv_iload_n hx hb d_Md_meaning_56 rfl (lv_at hl 2 rfl) ?_
        refine lv_iconst (v := 4) hx hb d_Md_meaning_57 (by decide) ?_
        refine lv_icmp_ne (tgt := 72) hx hb d_Md_meaning_58 (by decide) (fun c_6 => ?_) (fun c_6 => ?_)
        · have he := he.trans (if_neg c_6)
          refine lv_iload_n hx hb d_Md_meaning_72 rfl (lv_at hl 2 rfl) ?_
          refine lv_iconst (v := 5) hx hb d_Md_meaning_73 (by decide) ?_
          refine lv_icmp_ne (tgt := 87) hx hb d_Md_meaning_74 (by decide) (fun c_7 => ?_) (fun c_7 => ?_)
          · have he := he.trans (if_neg c_7)
            refine lv_iload_n hx hb d_Md_meaning_87 rfl (lv_at hl 2 rfl) ?_
            refine lv_iconst (v := 2) hx hb d_Md_meaning_88 (by decide) ?_
            refine lv_iconst (v := 3) hx hb d_Md_meaning_89 (by decide) ?_
            refine wx_ci (wS := fun _ : Unit => w_E ad ca) (ws2 := fun _ : Unit => w_M ad ca (TMd_set_thrown d 0)) (va_runS (As := [.int p1, .int 2, .int 3]) (rest := []) ⟨hx, hb, hml, hown, ht⟩ (c_Md_in l dC dI ad ca H.size p1 2 3 _ rfl) (va_cwS 3 ht (tb_S q_519 q_520 q_47 q_521) rfl rfl rfl p_Md_in.2 ⟨show 0 + 1 ≤ 1 by omega, show 8 + (3 + 11) + 0 ≤ 22 by omega⟩) (wx_preS (wc := (w_E ad ca)) hN hK hP hD [] [] rfl (by decide) rfl) rfl rfl hl.1 rfl (lv_room (Nat.le_of_ble_eq_true rfl)) d_Md_meaning_90 ⟨Nat.zero_le _, Nat.zero_le _⟩) hP hD hS hA [] [0, 1, 2, 3, 4, 5, 6, 7, 8, 9, 10, 11] [0, 1, 2, 3, 4, 5, 6, 7, 8, 9, 10, 11] rfl rfl (by decide) (by decide) (by decide) (fun _ => rfl) (fun r_8 _ H locs hw_8 hP hD hS => ?_)
            subst hw_8
            have hP : va_P (dC, dI) vwCl (w_M ad ca (TMd_set_thrown d 0)) H := hP
            have hD : va_D A (w_M ad ca (TMd_set_thrown d 0)) := hD
            refine lv_if_ne (tgt := 100) hx hb d_Md_meaning_93 (by decide) (fun c_9 => ?_) (fun c_9 => ?_)
            · exact absurd c_4 c_9
            · refine lv_iload_n hx hb d_Md_meaning_96 rfl (lv_at hl 3 rfl) ?_
              refine lv_if_ne (tgt := 104) hx hb d_Md_meaning_97 (by decide) (fun c_10 => ?_) (fun c_10 => ?_)
              · have he := he.trans (if_neg c_10)
                refine lv_iconst (v := 0) hx hb d_Md_meaning_104 (by decide) ?_
                refine lv_istore (lv' := [(4, .int 0), (0, .ref (ad 16)), (1, .int p0), (2, .int p1), (3, .int p2)]) hx hb d_Md_meaning_105 hl (by decide) rfl (fun ls hl => ?_)
                refine lv_iload_n hx hb d_Md_meaning_107 rfl (lv_at hl 3 rfl) ?_
                refine lv_iconst (v := 0) hx hb d_Md_meaning_108 (by decide) ?_
                refine lv_bipush (v := 8) hx hb d_Md_meaning_109 (by decide) ?_
                refine wx_ci (wS := fun _ : Unit => w_E ad ca) (ws2 := fun _ : Unit => w_M ad ca (TMd_set_thrown d 0)) (va_runS (As := [.int p1, .int 0, .int 8]) (rest := []) ⟨hx, hb, hml, hown, ht⟩ (c_Md_in l dC dI ad ca H.size p1 0 8 _ rfl) (va_cwS 3 ht (tb_S q_519 q_520 q_47 q_521) rfl rfl rfl p_Md_in.2 ⟨show 0 + 1 ≤ 1 by omega, show 8 + (3 + 11) + 0 ≤ 22 by omega⟩) (wx_preS (wc := (w_E ad ca)) hN hK hP hD [] [] rfl (by decide) rfl) rfl rfl hl.1 rfl (lv_room (Nat.le_of_ble_eq_true rfl)) d_Md_meaning_111 ⟨Nat.zero_le _, Nat.zero_le _⟩) hP hD hS hA [] [0, 1, 2, 3, 4, 5, 6, 7, 8, 9, 10, 11] [0, 1, 2, 3, 4, 5, 6, 7, 8, 9, 10, 11] rfl rfl (by decide) (by decide) (by decide) (fun _ => rfl) (fun r_11 _ H locs hw_11 hP hD hS => ?_)
                subst hw_11
                have hP : va_P (dC, dI) vwCl (w_M ad ca (TMd_set_thrown d 0)) H := hP
                have hD : va_D A (w_M ad ca (TMd_set_thrown d 0)) := hD
                refine lv_if_eq (tgt := 122) hx hb d_Md_meaning_114 (by decide) (fun c_12 => ?_) (fun c_12 => ?_)
                · have he := he.trans (if_pos c_12)
                  refine lv_bipush (v := (-2)) hx hb d_Md_meaning_122 (by decide) ?_
                  exact W.iret hx hb hr (v := (-2)) (fun t ht hW => ⟨⟨(-2), (TMd_set_thrown d 0), rfl, he.symm, by rw [ht]; exact hP, va_K.moved hW.alike hK, hD⟩, hS.F ht⟩) hS.2.2 d_Md_meaning_124
                · have he := he.trans (if_neg c_12)
                  refine lv_iload hx hb d_Md_meaning_117 (lv_at hl 0 rfl) ?_
                  refine lv_if_ne (tgt := 125) hx hb d_Md_meaning_119 (by decide) (fun c_13 => ?_) (fun c_13 => ?_)
                  · exact absurd c_13 (by decide)
                  · refine lv_bipush (v := (-2)) hx hb d_Md_meaning_122 (by decide) ?_
                    exact W.iret hx hb hr (v := (-2)) (fun t ht hW => ⟨⟨(-2), (TMd_set_thrown d 0), rfl, he.symm, by rw [ht]; exact hP, va_K.moved hW.alike hK, hD⟩, hS.F ht⟩) hS.2.2 d_Md_meaning_124
              · have he := he.trans (if_pos c_10)
                refine lv_iconst (v := 1) hx hb d_Md_meaning_100 (by decide) ?_
                refine lv_goto (tgt := 105) hx hb d_Md_meaning_101 (by decide) ?_
                refine lv_istore (lv' := [(4, .int 1), (0, .ref (ad 16)), (1, .int p0), (2, .int p1), (3, .int p2)]) hx hb d_Md_meaning_105 hl (by decide) rfl (fun ls hl => ?_)
                refine lv_iload_n hx hb d_Md_meaning_107 rfl (lv_at hl 3 rfl) ?_
                refine lv_iconst (v := 0) hx hb d_Md_meaning_108 (by decide) ?_
                refine lv_bipush (v := 8) hx hb d_Md_meaning_109 (by decide) ?_
                refine wx_ci (wS := fun _ : Unit => w_E ad ca) (ws2 := fun _ : Unit => w_M ad ca (TMd_set_thrown d 0)) (va_runS (As := [.int p1, .int 0, .int 8]) (rest := []) ⟨hx, hb, hml, hown, ht⟩ (c_Md_in l dC dI ad ca H.size p1 0 8 _ rfl) (va_cwS 3 ht (tb_S q_519 q_520 q_47 q_521) rfl rfl rfl p_Md_in.2 ⟨show 0 + 1 ≤ 1 by omega, show 8 + (3 + 11) + 0 ≤ 22 by omega⟩) (wx_preS (wc := (w_E ad ca)) hN hK hP hD [] [] rfl (by decide) rfl) rfl rfl hl.1 rfl (lv_room (Nat.le_of_ble_eq_true rfl)) d_Md_meaning_111 ⟨Nat.zero_le _, Nat.zero_le _⟩) hP hD hS hA [] [0, 1, 2, 3, 4, 5, 6, 7, 8, 9, 10, 11] [0, 1, 2, 3, 4, 5, 6, 7, 8, 9, 10, 11] rfl rfl (by decide) (by decide) (by decide) (fun _ => rfl) (fun r_14 _ H locs hw_14 hP hD hS => ?_)
                subst hw_14
                have hP : va_P (dC, dI) vwCl (w_M ad ca (TMd_set_thrown d 0)) H := hP
                have hD : va_D A (w_M ad ca (TMd_set_thrown d 0)) := hD
                refine lv_if_eq (tgt := 122) hx hb d_Md_meaning_114 (by decide) (fun c_15 => ?_) (fun c_15 => ?_)
                · have he := he.trans (if_pos c_15)
                  refine lv_bipush (v := (-2)) hx hb d_Md_meaning_122 (by decide) ?_
                  exact W.iret hx hb hr (v := (-2)) (fun t ht hW => ⟨⟨(-2), (TMd_set_thrown d 0), rfl, he.symm, by rw [ht]; exact hP, va_K.moved hW.alike hK, hD⟩, hS.F ht⟩) hS.2.2 d_Md_meaning_124
                · have he := he.trans (if_neg c_15)
                  refine lv_iload hx hb d_Md_meaning_117 (lv_at hl 0 rfl) ?_
                  refine lv_if_ne (tgt := 125) hx hb d_Md_meaning_119 (by decide) (fun c_16 => ?_) (fun c_16 => ?_)
                  · refine lv_aload_n hx hb d_Md_meaning_125 rfl (lv_at hl 1 rfl) ?_
                    refine va_get (D := (dC, dI)) (ci := 4) (v := .ref (ad 17)) (C := R_Md) (T := T_Md) (N := 23) hx hb ht i_Md hown hK hP 0 rfl rfl 1 (by decide) (ht _ q_446) (fun _ h9 => h9) rfl d_Md_meaning_126 ?_
                    refine lv_iload_n hx hb d_Md_meaning_129 rfl (lv_at hl 2 rfl) ?_
                    refine lv_iload_n hx hb d_Md_meaning_130 rfl (lv_at hl 3 rfl) ?_
                    refine va_iast hx hb hK hP hD hS 1 0 rfl rfl (in_vp c_2 (by decide)) d_Md_meaning_131 (fun H locs hP hD hS => ?_)
                    have hP : va_P (dC, dI) vwCl (w_M ad ca (TMd_set_kinds (TMd_set_thrown d 0) (upd (TMd_kinds d) p0.toNatClampNeg p1))) H := hP
                    have hD : va_D A (w_M ad ca (TMd_set_kinds (TMd_set_thrown d 0) (upd (TMd_kinds d) p0.toNatClampNeg p1))) := hD
                    refine lv_aload_n hx hb d_Md_meaning_132 rfl (lv_at hl 1 rfl) ?_
                    refine va_get (D := (dC, dI)) (ci := 4) (v := .ref (ad 18)) (C := R_Md) (T := T_Md) (N := 23) hx hb ht i_Md hown hK hP 0 rfl rfl 2 (by decide) (ht _ q_447) (fun _ h9 => h9) rfl d_Md_meaning_133 ?_
                    refine lv_iload_n hx hb d_Md_meaning_136 rfl (lv_at hl 2 rfl) ?_
                    refine lv_iload_n hx hb d_Md_meaning_137 rfl (lv_at hl 4 rfl) ?_
                    refine va_iast hx hb hK hP hD hS 2 1 rfl rfl (in_vp c_2 (by decide)) d_Md_meaning_138 (fun H locs hP hD hS => ?_)
                    have hP : va_P (dC, dI) vwCl (w_M ad ca (TMd_set_values (TMd_set_kinds (TMd_set_thrown d 0) (upd (TMd_kinds d) p0.toNatClampNeg p1)) (upd (TMd_values d) p0.toNatClampNeg p2))) H := hP
                    have hD : va_D A (w_M ad ca (TMd_set_values (TMd_set_kinds (TMd_set_thrown d 0) (upd (TMd_kinds d) p0.toNatClampNeg p1)) (upd (TMd_values d) p0.toNatClampNeg p2))) := hD
                    refine lv_iconst (v := 1) hx hb d_Md_meaning_139 (by decide) ?_
                    exact W.iret hx hb hr (v := 1) (fun t ht hW => ⟨⟨1, (TMd_set_values (TMd_set_kinds (TMd_set_thrown d 0) (upd (TMd_kinds d) p0.toNatClampNeg p1)) (upd (TMd_values d) p0.toNatClampNeg p2)), rfl, he.symm, by rw [ht]; exact hP, va_K.moved hW.alike hK, hD⟩, hS.F ht⟩) hS.2.2 d_Md_meaning_140
                  · exact absurd c_16 (by decide)
          · have he := he.trans (if_pos c_7)
            refine lv_iload_n hx hb d_Md_meaning_77 rfl (lv_at hl 3 rfl) ?_
            refine lv_iconst (v := 0) hx hb d_Md_meaning_78 (by decide) ?_
            refine lv_bipush (v := 10) hx hb d_Md_meaning_79 (by decide) ?_
            refine wx_ci (wS := fun _ : Unit => w_E ad ca) (ws2 := fun _ : Unit => w_M ad ca (TMd_set_thrown d 0)) (va_runS (As := [.int p2, .int 0, .int 10]) (rest := []) ⟨hx, hb, hml, hown, ht⟩ (c_Md_in l dC dI ad ca H.size p2 0 10 _ rfl) (va_cwS 3 ht (tb_S q_519 q_520 q_47 q_521) rfl rfl rfl p_Md_in.2 ⟨show 0 + 1 ≤ 1 by omega, show 8 + (3 + 11) + 0 ≤ 22 by omega⟩) (wx_preS (wc := (w_E ad ca)) hN hK hP hD [] [] rfl (by decide) rfl) rfl rfl hl.1 rfl (lv_room (Nat.le_of_ble_eq_true rfl)) d_Md_meaning_81 ⟨Nat.zero_le _, Nat.zero_le _⟩) hP hD hS hA [] [0, 1, 2, 3, 4, 5, 6, 7, 8, 9, 10, 11] [0, 1, 2, 3, 4, 5, 6, 7, 8, 9, 10, 11] rfl rfl (by decide) (by decide) (by decide) (fun _ => rfl) (fun r_17 _ H locs hw_17 hP hD hS => ?_)
            subst hw_17
            have hP : va_P (dC, dI) vwCl (w_M ad ca (TMd_set_thrown d 0)) H := hP
            have hD : va_D A (w_M ad ca (TMd_set_thrown d 0)) := hD
            refine lv_goto (tgt := 105) hx hb d_Md_meaning_84 (by decide) ?_
            refine lv_istore (lv' := [(4, .int (f_Md_in p2 0 10)), (0, .ref (ad 16)), (1, .int p0), (2, .int p1), (3, .int p2)]) hx hb d_Md_meaning_105 hl (by decide) rfl (fun ls hl => ?_)
            refine lv_iload_n hx hb d_Md_meaning_107 rfl (lv_at hl 3 rfl) ?_
            refine lv_iconst (v := 0) hx hb d_Md_meaning_108 (by decide) ?_
            refine lv_bipush (v := 8) hx hb d_Md_meaning_109 (by decide) ?_
            refine wx_ci (wS := fun _ : Unit => w_E ad ca) (ws2 := fun _ : Unit => w_M ad ca (TMd_set_thrown d 0)) (va_runS (As := [.int p1, .int 0, .int 8]) (rest := []) ⟨hx, hb, hml, hown, ht⟩ (c_Md_in l dC dI ad ca H.size p1 0 8 _ rfl) (va_cwS 3 ht (tb_S q_519 q_520 q_47 q_521) rfl rfl rfl p_Md_in.2 ⟨show 0 + 1 ≤ 1 by omega, show 8 + (3 + 11) + 0 ≤ 22 by omega⟩) (wx_preS (wc := (w_E ad ca)) hN hK hP hD [] [] rfl (by decide) rfl) rfl rfl hl.1 rfl (lv_room (Nat.le_of_ble_eq_true rfl)) d_Md_meaning_111 ⟨Nat.zero_le _, Nat.zero_le _⟩) hP hD hS hA [] [0, 1, 2, 3, 4, 5, 6, 7, 8, 9, 10, 11] [0, 1, 2, 3, 4, 5, 6, 7, 8, 9, 10, 11] rfl rfl (by decide) (by decide) (by decide) (fun _ => rfl) (fun r_18 _ H locs hw_18 hP hD hS => ?_)
            subst hw_18
            have hP : va_P (dC, dI) vwCl (w_M ad ca (TMd_set_thrown d 0)) H := hP
            have hD : va_D A (w_M ad ca (TMd_set_thrown d 0)) := hD
            refine lv_if_eq (tgt := 122) hx hb d_Md_meaning_114 (by decide) (fun c_19 => ?_) (fun c_19 => ?_)
            · have he := he.trans (if_pos c_19)
              refine lv_bipush (v := (-2)) hx hb d_Md_meaning_122 (by decide) ?_
              exact W.iret hx hb hr (v := (-2)) (fun t ht hW => ⟨⟨(-2), (TMd_set_thrown d 0), rfl, he.symm, by rw [ht]; exact hP, va_K.moved hW.alike hK, hD⟩, hS.F ht⟩) hS.2.2 d_Md_meaning_124
            · have he := he.trans (if_neg c_19)
              refine lv_iload hx hb d_Md_meaning_117 (lv_at hl 0 rfl) ?_
              refine lv_if_ne (tgt := 125) hx hb d_Md_meaning_119 (by decide) (fun c_20 => ?_) (fun c_20 => ?_)
              · have he := he.trans (if_neg c_20)
                refine lv_aload_n hx hb d_Md_meaning_125 rfl (lv_at hl 1 rfl) ?_
                refine va_get (D := (dC, dI)) (ci := 4) (v := .ref (ad 17)) (C := R_Md) (T := T_Md) (N := 23) hx hb ht i_Md hown hK hP 0 rfl rfl 1 (by decide) (ht _ q_446) (fun _ h9 => h9) rfl d_Md_meaning_126 ?_
                refine lv_iload_n hx hb d_Md_meaning_129 rfl (lv_at hl 2 rfl) ?_
                refine lv_iload_n hx hb d_Md_meaning_130 rfl (lv_at hl 3 rfl) ?_
                refine va_iast hx hb hK hP hD hS 1 0 rfl rfl (in_vp c_2 (by decide)) d_Md_meaning_131 (fun H locs hP hD hS => ?_)
                have hP : va_P (dC, dI) vwCl (w_M ad ca (TMd_set_kinds (TMd_set_thrown d 0) (upd (TMd_kinds d) p0.toNatClampNeg p1))) H := hP
                have hD : va_D A (w_M ad ca (TMd_set_kinds (TMd_set_thrown d 0) (upd (TMd_kinds d) p0.toNatClampNeg p1))) := hD
                refine lv_aload_n hx hb d_Md_meaning_132 rfl (lv_at hl 1 rfl) ?_
                refine va_get (D := (dC, dI)) (ci := 4) (v := .ref (ad 18)) (C := R_Md) (T := T_Md) (N := 23) hx hb ht i_Md hown hK hP 0 rfl rfl 2 (by decide) (ht _ q_447) (fun _ h9 => h9) rfl d_Md_meaning_133 ?_
                refine lv_iload_n hx hb d_Md_meaning_136 rfl (lv_at hl 2 rfl) ?_
                refine lv_iload_n hx hb d_Md_meaning_137 rfl (lv_at hl 4 rfl) ?_
                refine va_iast hx hb hK hP hD hS 2 1 rfl rfl (in_vp c_2 (by decide)) d_Md_meaning_138 (fun H locs hP hD hS => ?_)
                have hP : va_P (dC, dI) vwCl (w_M ad ca (TMd_set_values (TMd_set_kinds (TMd_set_thrown d 0) (upd (TMd_kinds d) p0.toNatClampNeg p1)) (upd (TMd_values d) p0.toNatClampNeg p2))) H := hP
                have hD : va_D A (w_M ad ca (TMd_set_values (TMd_set_kinds (TMd_set_thrown d 0) (upd (TMd_kinds d) p0.toNatClampNeg p1)) (upd (TMd_values d) p0.toNatClampNeg p2))) := hD
                refine lv_iconst (v := 1) hx hb d_Md_meaning_139 (by decide) ?_
                exact W.iret hx hb hr (v := 1) (fun t ht hW => ⟨⟨1, (TMd_set_values (TMd_set_kinds (TMd_set_thrown d 0) (upd (TMd_kinds d) p0.toNatClampNeg p1)) (upd (TMd_values d) p0.toNatClampNeg p2)), rfl, he.symm, by rw [ht]; exact hP, va_K.moved hW.alike hK, hD⟩, hS.F ht⟩) hS.2.2 d_Md_meaning_140
              · have he := he.trans (if_pos c_20)
                refine lv_bipush (v := (-2)) hx hb d_Md_meaning_122 (by decide) ?_
                exact W.iret hx hb hr (v := (-2)) (fun t ht hW => ⟨⟨(-2), (TMd_set_thrown d 0), rfl, he.symm, by rw [ht]; exact hP, va_K.moved hW.alike hK, hD⟩, hS.F ht⟩) hS.2.2 d_Md_meaning_124
        · have he := he.trans (if_pos c_6)
          refine lv_iload_n hx hb d_Md_meaning_61 rfl (lv_at hl 3 rfl) ?_
          refine lv_ldc (v := (-999999999)) hx hb hown (ht _ q_522) d_Md_meaning_62 ?_
          refine lv_ldc (v := 999999999) hx hb hown (ht _ q_523) d_Md_meaning_64 ?_
          refine wx_ci (wS := fun _ : Unit => w_E ad ca) (ws2 := fun _ : Unit => w_M ad ca (TMd_set_thrown d 0)) (va_runS (As := [.int p2, .int (-999999999), .int 999999999]) (rest := []) ⟨hx, hb, hml, hown, ht⟩ (c_Md_in l dC dI ad ca H.size p2 (-999999999) 999999999 _ rfl) (va_cwS 3 ht (tb_S q_519 q_520 q_47 q_521) rfl rfl rfl p_Md_in.2 ⟨show 0 + 1 ≤ 1 by omega, show 8 + (3 + 11) + 0 ≤ 22 by omega⟩) (wx_preS (wc := (w_E ad ca)) hN hK hP hD [] [] rfl (by decide) rfl) rfl rfl hl.1 rfl (lv_room (Nat.le_of_ble_eq_true rfl)) d_Md_meaning_66 ⟨Nat.zero_le _, Nat.zero_le _⟩) hP hD hS hA [] [0, 1, 2, 3, 4, 5, 6, 7, 8, 9, 10, 11] [0, 1, 2, 3, 4, 5, 6, 7, 8, 9, 10, 11] rfl rfl (by decide) (by decide) (by decide) (fun _ => rfl) (fun r_21 _ H locs hw_21 hP hD hS => ?_)
          subst hw_21
          have hP : va_P (dC, dI) vwCl (w_M ad ca (TMd_set_thrown d 0)) H := hP
          have hD : va_D A (w_M ad ca (TMd_set_thrown d 0)) := hD
          refine lv_goto (tgt := 105) hx hb d_Md_meaning_69 (by decide) ?_
          refine lv_istore (lv' := [(4, .int (f_Md_in p2 (-999999999) 999999999)), (0, .ref (ad 16)), (1, .int p0), (2, .int p1), (3, .int p2)]) hx hb d_Md_meaning_105 hl (by decide) rfl (fun ls hl => ?_)
          refine lv_iload_n hx hb d_Md_meaning_107 rfl (lv_at hl 3 rfl) ?_
          refine lv_iconst (v := 0) hx hb d_Md_meaning_108 (by decide) ?_
          refine lv_bipush (v := 8) hx hb d_Md_meaning_109 (by decide) ?_
          refine wx_ci (wS := fun _ : Unit => w_E ad ca) (ws2 := fun _ : Unit => w_M ad ca (TMd_set_thrown d 0)) (va_runS (As := [.int p1, .int 0, .int 8]) (rest := []) ⟨hx, hb, hml, hown, ht⟩ (c_Md_in l dC dI ad ca H.size p1 0 8 _ rfl) (va_cwS 3 ht (tb_S q_519 q_520 q_47 q_521) rfl rfl rfl p_Md_in.2 ⟨show 0 + 1 ≤ 1 by omega, show 8 + (3 + 11) + 0 ≤ 22 by omega⟩) (wx_preS (wc := (w_E ad ca)) hN hK hP hD [] [] rfl (by decide) rfl) rfl rfl hl.1 rfl (lv_room (Nat.le_of_ble_eq_true rfl)) d_Md_meaning_111 ⟨Nat.zero_le _, Nat.zero_le _⟩) hP hD hS hA [] [0, 1, 2, 3, 4, 5, 6, 7, 8, 9, 10, 11] [0, 1, 2, 3, 4, 5, 6, 7, 8, 9, 10, 11] rfl rfl (by decide) (by decide) (by decide) (fun _ => rfl) (fun r_22 _ H locs hw_22 hP hD hS => ?_)
          subst hw_22
          have hP : va_P (dC, dI) vwCl (w_M ad ca (TMd_set_thrown d 0)) H := hP
          have hD : va_D A (w_M ad ca (TMd_set_thrown d 0)) := hD
          refine lv_if_eq (tgt := 122) hx hb d_Md_meaning_114 (by decide) (fun c_23 => ?_) (fun c_23 => ?_)
          · have he := he.trans (if_pos c_23)
            refine lv_bipush (v := (-2)) hx hb d_Md_meaning_122 (by decide) ?_
            exact W.iret hx hb hr (v := (-2)) (fun t ht hW => ⟨⟨(-2), (TMd_set_thrown d 0), rfl, he.symm, by rw [ht]; exact hP, va_K.moved hW.alike hK, hD⟩, hS.F ht⟩) hS.2.2 d_Md_meaning_124
          · have he := he.trans (if_neg c_23)
            refine lv_iload hx hb d_Md_meaning_117 (lv_at hl 0 rfl) ?_
            refine lv_if_ne (tgt := 125) hx hb d_Md_meaning_119 (by decide) (fun c_24 => ?_) (fun c_24 => ?_)
            · have he := he.trans (if_neg c_24)
              refine lv_aload_n hx hb d_Md_meaning_125 rfl (lv_at hl 1 rfl) ?_
              refine va_get (D := (dC, dI)) (ci := 4) (v := .ref (ad 17)) (C := R_Md) (T := T_Md) (N := 23) hx hb ht i_Md hown hK hP 0 rfl rfl 1 (by decide) (ht _ q_446) (fun _ h9 => h9) rfl d_Md_meaning_126 ?_
              refine lv_iload_n hx hb d_Md_meaning_129 rfl (lv_at hl 2 rfl) ?_
              refine lv_iload_n hx hb d_Md_meaning_130 rfl (lv_at hl 3 rfl) ?_
              refine va_iast hx hb hK hP hD hS 1 0 rfl rfl (in_vp c_2 (by decide)) d_Md_meaning_131 (fun H locs hP hD hS => ?_)
              have hP : va_P (dC, dI) vwCl (w_M ad ca (TMd_set_kinds (TMd_set_thrown d 0) (upd (TMd_kinds d) p0.toNatClampNeg p1))) H := hP
              have hD : va_D A (w_M ad ca (TMd_set_kinds (TMd_set_thrown d 0) (upd (TMd_kinds d) p0.toNatClampNeg p1))) := hD
              refine lv_aload_n hx hb d_Md_meaning_132 rfl (lv_at hl 1 rfl) ?_
              refine va_get (D := (dC, dI)) (ci := 4) (v := .ref (ad 18)) (C := R_Md) (T := T_Md) (N := 23) hx hb ht i_Md hown hK hP 0 rfl rfl 2 (by decide) (ht _ q_447) (fun _ h9 => h9) rfl d_Md_meaning_133 ?_
              refine lv_iload_n hx hb d_Md_meaning_136 rfl (lv_at hl 2 rfl) ?_
              refine lv_iload_n hx hb d_Md_meaning_137 rfl (lv_at hl 4 rfl) ?_
              refine va_iast hx hb hK hP hD hS 2 1 rfl rfl (in_vp c_2 (by decide)) d_Md_meaning_138 (fun H locs hP hD hS => ?_)
              have hP : va_P (dC, dI) vwCl (w_M ad ca (TMd_set_values (TMd_set_kinds (TMd_set_thrown d 0) (upd (TMd_kinds d) p0.toNatClampNeg p1)) (upd (TMd_values d) p0.toNatClampNeg p2))) H := hP
              have hD : va_D A (w_M ad ca (TMd_set_values (TMd_set_kinds (TMd_set_thrown d 0) (upd (TMd_kinds d) p0.toNatClampNeg p1)) (upd (TMd_values d) p0.toNatClampNeg p2))) := hD
              refine lv_iconst (v := 1) hx hb d_Md_meaning_139 (by decide) ?_
              exact W.iret hx hb hr (v := 1) (fun t ht hW => ⟨⟨1, (TMd_set_values (TMd_set_kinds (TMd_set_thrown d 0) (upd (TMd_kinds d) p0.toNatClampNeg p1)) (upd (TMd_values d) p0.toNatClampNeg p2)), rfl, he.symm, by rw [ht]; exact hP, va_K.moved hW.alike hK, hD⟩, hS.F ht⟩) hS.2.2 d_Md_meaning_140
            · have he := he.trans (if_pos c_24)
              refine lv_bipush (v := (-2)) hx hb d_Md_meaning_122 (by decide) ?_
              exact W.iret hx hb hr (v := (-2)) (fun t ht hW => ⟨⟨(-2), (TMd_set_thrown d 0), rfl, he.symm, by rw [ht]; exact hP, va_K.moved hW.alike hK, hD⟩, hS.F ht⟩) hS.2.2 d_Md_meaning_124
      · have he := he.trans (if_pos c_5)
        refine lv_iload_n hx hb d_Md_meaning_45 rfl (lv_at hl 3 rfl) ?_
        refine lv_iconst (v := 0) hx hb d_Md_meaning_46 (by decide) ?_
        refine lv_sipush (v := 4095) hx hb d_Md_meaning_47 (by decide) ?_
        refine wx_ci (wS := fun _ : Unit => w_E ad ca) (ws2 := fun _ : Unit => w_M ad ca (TMd_set_thrown d 0)) (va_runS (As := [.int p2, .int 0, .int 4095]) (rest := []) ⟨hx, hb, hml, hown, ht⟩ (c_Md_in l dC dI ad ca H.size p2 0 4095 _ rfl) (va_cwS 3 ht (tb_S q_519 q_520 q_47 q_521) rfl rfl rfl p_Md_in.2 ⟨show 0 + 1 ≤ 1 by omega, show 8 + (3 + 11) + 0 ≤ 22 by omega⟩) (wx_preS (wc := (w_E ad ca)) hN hK hP hD [] [] rfl (by decide) rfl) rfl rfl hl.1 rfl (lv_room (Nat.le_of_ble_eq_true rfl)) d_Md_meaning_50 ⟨Nat.zero_le _, Nat.zero_le _⟩) hP hD hS hA [] [0, 1, 2, 3, 4, 5, 6, 7, 8, 9, 10, 11] [0, 1, 2, 3, 4, 5, 6, 7, 8, 9, 10, 11] rfl rfl (by decide) (by decide) (by decide) (fun _ => rfl) (fun r_25 _ H locs hw_25 hP hD hS => ?_)
        subst hw_25
        have hP : va_P (dC, dI) vwCl (w_M ad ca (TMd_set_thrown d 0)) H := hP
        have hD : va_D A (w_M ad ca (TMd_set_thrown d 0)) := hD
        refine lv_goto (tgt := 105) hx hb d_Md_meaning_53 (by decide) ?_
        refine lv_istore (lv' := [(4, .int (f_Md_in p2 0 4095)), (0, .ref (ad 16)), (1, .int p0), (2, .int p1), (3, .int p2)]) hx hb d_Md_meaning_105 hl (by decide) rfl (fun ls hl => ?_)
        refine lv_iload_n hx hb d_Md_meaning_107 rfl (lv_at hl 3 rfl) ?_
        refine lv_iconst (v := 0) hx hb d_Md_meaning_108 (by decide) ?_
        refine lv_bipush (v := 8) hx hb d_Md_meaning_109 (by decide) ?_
        refine wx_ci (wS := fun _ : Unit => w_E ad ca) (ws2 := fun _ : Unit => w_M ad ca (TMd_set_thrown d 0)) (va_runS (As := [.int p1, .int 0, .int 8]) (rest := []) ⟨hx, hb, hml, hown, ht⟩ (c_Md_in l dC dI ad ca H.size p1 0 8 _ rfl) (va_cwS 3 ht (tb_S q_519 q_520 q_47 q_521) rfl rfl rfl p_Md_in.2 ⟨show 0 + 1 ≤ 1 by omega, show 8 + (3 + 11) + 0 ≤ 22 by omega⟩) (wx_preS (wc := (w_E ad ca)) hN hK hP hD [] [] rfl (by decide) rfl) rfl rfl hl.1 rfl (lv_room (Nat.le_of_ble_eq_true rfl)) d_Md_meaning_111 ⟨Nat.zero_le _, Nat.zero_le _⟩) hP hD hS hA [] [0, 1, 2, 3, 4, 5, 6, 7, 8, 9, 10, 11] [0, 1, 2, 3, 4, 5, 6, 7, 8, 9, 10, 11] rfl rfl (by decide) (by decide) (by decide) (fun _ => rfl) (fun r_26 _ H locs hw_26 hP hD hS => ?_)
        subst hw_26
        have hP : va_P (dC, dI) vwCl (w_M ad ca (TMd_set_thrown d 0)) H := hP
        have hD : va_D A (w_M ad ca (TMd_set_thrown d 0)) := hD
        refine lv_if_eq (tgt := 122) hx hb d_Md_meaning_114 (by decide) (fun c_27 => ?_) (fun c_27 => ?_)
        · have he := he.trans (if_pos c_27)
          refine lv_bipush (v := (-2)) hx hb d_Md_meaning_122 (by decide) ?_
          exact W.iret hx hb hr (v := (-2)) (fun t ht hW => ⟨⟨(-2), (TMd_set_thrown d 0), rfl, he.symm, by rw [ht]; exact hP, va_K.moved hW.alike hK, hD⟩, hS.F ht⟩) hS.2.2 d_Md_meaning_124
        · have he := he.trans (if_neg c_27)
          refine lv_iload hx hb d_Md_meaning_117 (lv_at hl 0 rfl) ?_
          refine lv_if_ne (tgt := 125) hx hb d_Md_meaning_119 (by decide) (fun c_28 => ?_) (fun c_28 => ?_)
          · have he := he.trans (if_neg c_28)
            refine lv_aload_n hx hb d_Md_meaning_125 rfl (lv_at hl 1 rfl) ?_
            refine va_get (D := (dC, dI)) (ci := 4) (v := .ref (ad 17)) (C := R_Md) (T := T_Md) (N := 23) hx hb ht i_Md hown hK hP 0 rfl rfl 1 (by decide) (ht _ q_446) (fun _ h9 => h9) rfl d_Md_meaning_126 ?_
            refine lv_iload_n hx hb d_Md_meaning_129 rfl (lv_at hl 2 rfl) ?_
            refine lv_iload_n hx hb d_Md_meaning_130 rfl (lv_at hl 3 rfl) ?_
            refine va_iast hx hb hK hP hD hS 1 0 rfl rfl (in_vp c_2 (by decide)) d_Md_meaning_131 (fun H locs hP hD hS => ?_)
            have hP : va_P (dC, dI) vwCl (w_M ad ca (TMd_set_kinds (TMd_set_thrown d 0) (upd (TMd_kinds d) p0.toNatClampNeg p1))) H := hP
            have hD : va_D A (w_M ad ca (TMd_set_kinds (TMd_set_thrown d 0) (upd (TMd_kinds d) p0.toNatClampNeg p1))) := hD
            refine lv_aload_n hx hb d_Md_meaning_132 rfl (lv_at hl 1 rfl) ?_
            refine va_get (D := (dC, dI)) (ci := 4) (v := .ref (ad 18)) (C := R_Md) (T := T_Md) (N := 23) hx hb ht i_Md hown hK hP 0 rfl rfl 2 (by decide) (ht _ q_447) (fun _ h9 => h9) rfl d_Md_meaning_133 ?_
            refine lv_iload_n hx hb d_Md_meaning_136 rfl (lv_at hl 2 rfl) ?_
            refine lv_iload_n hx hb d_Md_meaning_137 rfl (lv_at hl 4 rfl) ?_
            refine va_iast hx hb hK hP hD hS 2 1 rfl rfl (in_vp c_2 (by decide)) d_Md_meaning_138 (fun H locs hP hD hS => ?_)
            have hP : va_P (dC, dI) vwCl (w_M ad ca (TMd_set_values (TMd_set_kinds (TMd_set_thrown d 0) (upd (TMd_kinds d) p0.toNatClampNeg p1)) (upd (TMd_values d) p0.toNatClampNeg p2))) H := hP
            have hD : va_D A (w_M ad ca (TMd_set_values (TMd_set_kinds (TMd_set_thrown d 0) (upd (TMd_kinds d) p0.toNatClampNeg p1)) (upd (TMd_values d) p0.toNatClampNeg p2))) := hD
            refine lv_iconst (v := 1) hx hb d_Md_meaning_139 (by decide) ?_
            exact W.iret hx hb hr (v := 1) (fun t ht hW => ⟨⟨1, (TMd_set_values (TMd_set_kinds (TMd_set_thrown d 0) (upd (TMd_kinds d) p0.toNatClampNeg p1)) (upd (TMd_values d) p0.toNatClampNeg p2)), rfl, he.symm, by rw [ht]; exact hP, va_K.moved hW.alike hK, hD⟩, hS.F ht⟩) hS.2.2 d_Md_meaning_140
          · have he := he.trans (if_pos c_28)
            refine lv_bipush (v := (-2)) hx hb d_Md_meaning_122 (by decide) ?_
            exact W.iret hx hb hr (v := (-2)) (fun t ht hW => ⟨⟨(-2), (TMd_set_thrown d 0), rfl, he.symm, by rw [ht]; exact hP, va_K.moved hW.alike hK, hD⟩, hS.F ht⟩) hS.2.2 d_Md_meaning_124
    · have he := he.trans (if_neg c_4)
      refine lv_iload_n hx hb d_Md_meaning_24 rfl (lv_at hl 3 rfl) ?_
      refine lv_iconst (v := 0) hx hb d_Md_meaning_25 (by decide) ?_
      refine lv_aload_n hx hb d_Md_meaning_26 rfl (lv_at hl 0 rfl) ?_
      refine va_get (D := (dC, dI)) (ci := 4) (v := .int (TMd_bodies d)) (C := R_Md) (T := T_Md) (N := 23) hx hb ht i_Md hown hK hP 0 rfl rfl 3 (by decide) (ht _ q_448) (fun _ h9 => h9) rfl d_Md_meaning_27 ?_
      refine lv_iconst (v := 1) hx hb d_Md_meaning_30 (by decide) ?_
      refine lv_isub hx hb d_Md_meaning_31 ?_
      refine wx_ci (wS := fun _ : Unit => w_E ad ca) (ws2 := fun _ : Unit => w_M ad ca (TMd_set_thrown d 0)) (va_runS (As := [.int p2, .int 0, .int ((TMd_bodies d) - 1)]) (rest := []) ⟨hx, hb, hml, hown, ht⟩ (c_Md_in l dC dI ad ca H.size p2 0 ((TMd_bodies d) - 1) _ rfl) (va_cwS 3 ht (tb_S q_519 q_520 q_47 q_521) rfl rfl rfl p_Md_in.2 ⟨show 0 + 1 ≤ 1 by omega, show 8 + (3 + 11) + 0 ≤ 22 by omega⟩) (wx_preS (wc := (w_E ad ca)) hN hK hP hD [] [] rfl (by decide) rfl) rfl rfl hl.1 rfl (lv_room (Nat.le_of_ble_eq_true rfl)) d_Md_meaning_32 ⟨Nat.zero_le _, Nat.zero_le _⟩) hP hD hS hA [] [0, 1, 2, 3, 4, 5, 6, 7, 8, 9, 10, 11] [0, 1, 2, 3, 4, 5, 6, 7, 8, 9, 10, 11] rfl rfl (by decide) (by decide) (by decide) (fun _ => rfl) (fun r_29 _ H locs hw_29 hP hD hS => ?_)
      subst hw_29
      have hP : va_P (dC, dI) vwCl (w_M ad ca (TMd_set_thrown d 0)) H := hP
      have hD : va_D A (w_M ad ca (TMd_set_thrown d 0)) := hD
      refine lv_if_ne (tgt := 40) hx hb d_Md_meaning_35 (by decide) (fun c_30 => ?_) (fun c_30 => ?_)
      · have he := he.trans (if_neg c_30)
        refine lv_iload_n hx hb d_Md_meaning_40 rfl (lv_at hl 2 rfl) ?_
        refine lv_iconst (v := 1) hx hb d_Md_meaning_41 (by decide) ?_
        refine lv_icmp_ne (tgt := 56) hx hb d_Md_meaning_42 (by decide) (fun c_31 => ?_) (fun c_31 => ?_)
        · have he := he.trans (if_neg c_31)
          refine lv_iload_n hx hb d_Md_meaning_56 rfl (lv_at hl 2 rfl) ?_
          refine lv_iconst (v := 4) hx hb d_Md_meaning_57 (by decide) ?_
          refine lv_icmp_ne (tgt := 72) hx hb d_Md_meaning_58 (by decide) (fun c_32 => ?_) (fun c_32 => ?_)
          · have he := he.trans (if_neg c_32)
            refine lv_iload_n hx hb d_Md_meaning_72 rfl (lv_at hl 2 rfl) ?_
            refine lv_iconst (v := 5) hx hb d_Md_meaning_73 (by decide) ?_
            refine lv_icmp_ne (tgt := 87) hx hb d_Md_meaning_74 (by decide) (fun c_33 => ?_) (fun c_33 => ?_)
            · have he := he.trans (if_neg c_33)
              refine lv_iload_n hx hb d_Md_meaning_87 rfl (lv_at hl 2 rfl) ?_
              refine lv_iconst (v := 2) hx hb d_Md_meaning_88 (by decide) ?_
              refine lv_iconst (v := 3) hx hb d_Md_meaning_89 (by decide) ?_
              refine wx_ci (wS := fun _ : Unit => w_E ad ca) (ws2 := fun _ : Unit => w_M ad ca (TMd_set_thrown d 0)) (va_runS (As := [.int p1, .int 2, .int 3]) (rest := []) ⟨hx, hb, hml, hown, ht⟩ (c_Md_in l dC dI ad ca H.size p1 2 3 _ rfl) (va_cwS 3 ht (tb_S q_519 q_520 q_47 q_521) rfl rfl rfl p_Md_in.2 ⟨show 0 + 1 ≤ 1 by omega, show 8 + (3 + 11) + 0 ≤ 22 by omega⟩) (wx_preS (wc := (w_E ad ca)) hN hK hP hD [] [] rfl (by decide) rfl) rfl rfl hl.1 rfl (lv_room (Nat.le_of_ble_eq_true rfl)) d_Md_meaning_90 ⟨Nat.zero_le _, Nat.zero_le _⟩) hP hD hS hA [] [0, 1, 2, 3, 4, 5, 6, 7, 8, 9, 10, 11] [0, 1, 2, 3, 4, 5, 6, 7, 8, 9, 10, 11] rfl rfl (by decide) (by decide) (by decide) (fun _ => rfl) (fun r_34 _ H locs hw_34 hP hD hS => ?_)
              subst hw_34
              have hP : va_P (dC, dI) vwCl (w_M ad ca (TMd_set_thrown d 0)) H := hP
              have hD : va_D A (w_M ad ca (TMd_set_thrown d 0)) := hD
              refine lv_if_ne (tgt := 100) hx hb d_Md_meaning_93 (by decide) (fun c_35 => ?_) (fun c_35 => ?_)
              · refine lv_iconst (v := 1) hx hb d_Md_meaning_100 (by decide) ?_
                refine lv_goto (tgt := 105) hx hb d_Md_meaning_101 (by decide) ?_
                refine lv_istore (lv' := [(4, .int 1), (0, .ref (ad 16)), (1, .int p0), (2, .int p1), (3, .int p2)]) hx hb d_Md_meaning_105 hl (by decide) rfl (fun ls hl => ?_)
                refine lv_iload_n hx hb d_Md_meaning_107 rfl (lv_at hl 3 rfl) ?_
                refine lv_iconst (v := 0) hx hb d_Md_meaning_108 (by decide) ?_
                refine lv_bipush (v := 8) hx hb d_Md_meaning_109 (by decide) ?_
                refine wx_ci (wS := fun _ : Unit => w_E ad ca) (ws2 := fun _ : Unit => w_M ad ca (TMd_set_thrown d 0)) (va_runS (As := [.int p1, .int 0, .int 8]) (rest := []) ⟨hx, hb, hml, hown, ht⟩ (c_Md_in l dC dI ad ca H.size p1 0 8 _ rfl) (va_cwS 3 ht (tb_S q_519 q_520 q_47 q_521) rfl rfl rfl p_Md_in.2 ⟨show 0 + 1 ≤ 1 by omega, show 8 + (3 + 11) + 0 ≤ 22 by omega⟩) (wx_preS (wc := (w_E ad ca)) hN hK hP hD [] [] rfl (by decide) rfl) rfl rfl hl.1 rfl (lv_room (Nat.le_of_ble_eq_true rfl)) d_Md_meaning_111 ⟨Nat.zero_le _, Nat.zero_le _⟩) hP hD hS hA [] [0, 1, 2, 3, 4, 5, 6, 7, 8, 9, 10, 11] [0, 1, 2, 3, 4, 5, 6, 7, 8, 9, 10, 11] rfl rfl (by decide) (by decide) (by decide) (fun _ => rfl) (fun r_36 _ H locs hw_36 hP hD hS => ?_)
                subst hw_36
                have hP : va_P (dC, dI) vwCl (w_M ad ca (TMd_set_thrown d 0)) H := hP
                have hD : va_D A (w_M ad ca (TMd_set_thrown d 0)) := hD
                refine lv_if_eq (tgt := 122) hx hb d_Md_meaning_114 (by decide) (fun c_37 => ?_) (fun c_37 => ?_)
                · have he := he.trans (if_pos c_37)
                  refine lv_bipush (v := (-2)) hx hb d_Md_meaning_122 (by decide) ?_
                  exact W.iret hx hb hr (v := (-2)) (fun t ht hW => ⟨⟨(-2), (TMd_set_thrown d 0), rfl, he.symm, by rw [ht]; exact hP, va_K.moved hW.alike hK, hD⟩, hS.F ht⟩) hS.2.2 d_Md_meaning_124
                · have he := he.trans (if_neg c_37)
                  refine lv_iload hx hb d_Md_meaning_117 (lv_at hl 0 rfl) ?_
                  refine lv_if_ne (tgt := 125) hx hb d_Md_meaning_119 (by decide) (fun c_38 => ?_) (fun c_38 => ?_)
                  · refine lv_aload_n hx hb d_Md_meaning_125 rfl (lv_at hl 1 rfl) ?_
                    refine va_get (D := (dC, dI)) (ci := 4) (v := .ref (ad 17)) (C := R_Md) (T := T_Md) (N := 23) hx hb ht i_Md hown hK hP 0 rfl rfl 1 (by decide) (ht _ q_446) (fun _ h9 => h9) rfl d_Md_meaning_126 ?_
                    refine lv_iload_n hx hb d_Md_meaning_129 rfl (lv_at hl 2 rfl) ?_
                    refine lv_iload_n hx hb d_Md_meaning_130 rfl (lv_at hl 3 rfl) ?_
                    refine va_iast hx hb hK hP hD hS 1 0 rfl rfl (in_vp c_2 (by decide)) d_Md_meaning_131 (fun H locs hP hD hS => ?_)
                    have hP : va_P (dC, dI) vwCl (w_M ad ca (TMd_set_kinds (TMd_set_thrown d 0) (upd (TMd_kinds d) p0.toNatClampNeg p1))) H := hP
                    have hD : va_D A (w_M ad ca (TMd_set_kinds (TMd_set_thrown d 0) (upd (TMd_kinds d) p0.toNatClampNeg p1))) := hD
                    refine lv_aload_n hx hb d_Md_meaning_132 rfl (lv_at hl 1 rfl) ?_
                    refine va_get (D := (dC, dI)) (ci := 4) (v := .ref (ad 18)) (C := R_Md) (T := T_Md) (N := 23) hx hb ht i_Md hown hK hP 0 rfl rfl 2 (by decide) (ht _ q_447) (fun _ h9 => h9) rfl d_Md_meaning_133 ?_
                    refine lv_iload_n hx hb d_Md_meaning_136 rfl (lv_at hl 2 rfl) ?_
                    refine lv_iload_n hx hb d_Md_meaning_137 rfl (lv_at hl 4 rfl) ?_
                    refine va_iast hx hb hK hP hD hS 2 1 rfl rfl (in_vp c_2 (by decide)) d_Md_meaning_138 (fun H locs hP hD hS => ?_)
                    have hP : va_P (dC, dI) vwCl (w_M ad ca (TMd_set_values (TMd_set_kinds (TMd_set_thrown d 0) (upd (TMd_kinds d) p0.toNatClampNeg p1)) (upd (TMd_values d) p0.toNatClampNeg p2))) H := hP
                    have hD : va_D A (w_M ad ca (TMd_set_values (TMd_set_kinds (TMd_set_thrown d 0) (upd (TMd_kinds d) p0.toNatClampNeg p1)) (upd (TMd_values d) p0.toNatClampNeg p2))) := hD
                    refine lv_iconst (v := 1) hx hb d_Md_meaning_139 (by decide) ?_
                    exact W.iret hx hb hr (v := 1) (fun t ht hW => ⟨⟨1, (TMd_set_values (TMd_set_kinds (TMd_set_thrown d 0) (upd (TMd_kinds d) p0.toNatClampNeg p1)) (upd (TMd_values d) p0.toNatClampNeg p2)), rfl, he.symm, by rw [ht]; exact hP, va_K.moved hW.alike hK, hD⟩, hS.F ht⟩) hS.2.2 d_Md_meaning_140
                  · exact absurd c_38 (by decide)
              · exact absurd c_35 c_4
            · have he := he.trans (if_pos c_33)
              refine lv_iload_n hx hb d_Md_meaning_77 rfl (lv_at hl 3 rfl) ?_
              refine lv_iconst (v := 0) hx hb d_Md_meaning_78 (by decide) ?_
              refine lv_bipush (v := 10) hx hb d_Md_meaning_79 (by decide) ?_
              refine wx_ci (wS := fun _ : Unit => w_E ad ca) (ws2 := fun _ : Unit => w_M ad ca (TMd_set_thrown d 0)) (va_runS (As := [.int p2, .int 0, .int 10]) (rest := []) ⟨hx, hb, hml, hown, ht⟩ (c_Md_in l dC dI ad ca H.size p2 0 10 _ rfl) (va_cwS 3 ht (tb_S q_519 q_520 q_47 q_521) rfl rfl rfl p_Md_in.2 ⟨show 0 + 1 ≤ 1 by omega, show 8 + (3 + 11) + 0 ≤ 22 by omega⟩) (wx_preS (wc := (w_E ad ca)) hN hK hP hD [] [] rfl (by decide) rfl) rfl rfl hl.1 rfl (lv_room (Nat.le_of_ble_eq_true rfl)) d_Md_meaning_81 ⟨Nat.zero_le _, Nat.zero_le _⟩) hP hD hS hA [] [0, 1, 2, 3, 4, 5, 6, 7, 8, 9, 10, 11] [0, 1, 2, 3, 4, 5, 6, 7, 8, 9, 10, 11] rfl rfl (by decide) (by decide) (by decide) (fun _ => rfl) (fun r_39 _ H locs hw_39 hP hD hS => ?_)
              subst hw_39
              have hP : va_P (dC, dI) vwCl (w_M ad ca (TMd_set_thrown d 0)) H := hP
              have hD : va_D A (w_M ad ca (TMd_set_thrown d 0)) := hD
              refine lv_goto (tgt := 105) hx hb d_Md_meaning_84 (by decide) ?_
              refine lv_istore (lv' := [(4, .int (f_Md_in p2 0 10)), (0, .ref (ad 16)), (1, .int p0), (2, .int p1), (3, .int p2)]) hx hb d_Md_meaning_105 hl (by decide) rfl (fun ls hl => ?_)
              refine lv_iload_n hx hb d_Md_meaning_107 rfl (lv_at hl 3 rfl) ?_
              refine lv_iconst (v := 0) hx hb d_Md_meaning_108 (by decide) ?_
              refine lv_bipush (v := 8) hx hb d_Md_meaning_109 (by decide) ?_
              refine wx_ci (wS := fun _ : Unit => w_E ad ca) (ws2 := fun _ : Unit => w_M ad ca (TMd_set_thrown d 0)) (va_runS (As := [.int p1, .int 0, .int 8]) (rest := []) ⟨hx, hb, hml, hown, ht⟩ (c_Md_in l dC dI ad ca H.size p1 0 8 _ rfl) (va_cwS 3 ht (tb_S q_519 q_520 q_47 q_521) rfl rfl rfl p_Md_in.2 ⟨show 0 + 1 ≤ 1 by omega, show 8 + (3 + 11) + 0 ≤ 22 by omega⟩) (wx_preS (wc := (w_E ad ca)) hN hK hP hD [] [] rfl (by decide) rfl) rfl rfl hl.1 rfl (lv_room (Nat.le_of_ble_eq_true rfl)) d_Md_meaning_111 ⟨Nat.zero_le _, Nat.zero_le _⟩) hP hD hS hA [] [0, 1, 2, 3, 4, 5, 6, 7, 8, 9, 10, 11] [0, 1, 2, 3, 4, 5, 6, 7, 8, 9, 10, 11] rfl rfl (by decide) (by decide) (by decide) (fun _ => rfl) (fun r_40 _ H locs hw_40 hP hD hS => ?_)
              subst hw_40
              have hP : va_P (dC, dI) vwCl (w_M ad ca (TMd_set_thrown d 0)) H := hP
              have hD : va_D A (w_M ad ca (TMd_set_thrown d 0)) := hD
              refine lv_if_eq (tgt := 122) hx hb d_Md_meaning_114 (by decide) (fun c_41 => ?_) (fun c_41 => ?_)
              · have he := he.trans (if_pos c_41)
                refine lv_bipush (v := (-2)) hx hb d_Md_meaning_122 (by decide) ?_
                exact W.iret hx hb hr (v := (-2)) (fun t ht hW => ⟨⟨(-2), (TMd_set_thrown d 0), rfl, he.symm, by rw [ht]; exact hP, va_K.moved hW.alike hK, hD⟩, hS.F ht⟩) hS.2.2 d_Md_meaning_124
              · have he := he.trans (if_neg c_41)
                refine lv_iload hx hb d_Md_meaning_117 (lv_at hl 0 rfl) ?_
                refine lv_if_ne (tgt := 125) hx hb d_Md_meaning_119 (by decide) (fun c_42 => ?_) (fun c_42 => ?_)
                · have he := he.trans (if_neg c_42)
                  refine lv_aload_n hx hb d_Md_meaning_125 rfl (lv_at hl 1 rfl) ?_
                  refine va_get (D := (dC, dI)) (ci := 4) (v := .ref (ad 17)) (C := R_Md) (T := T_Md) (N := 23) hx hb ht i_Md hown hK hP 0 rfl rfl 1 (by decide) (ht _ q_446) (fun _ h9 => h9) rfl d_Md_meaning_126 ?_
                  refine lv_iload_n hx hb d_Md_meaning_129 rfl (lv_at hl 2 rfl) ?_
                  refine lv_iload_n hx hb d_Md_meaning_130 rfl (lv_at hl 3 rfl) ?_
                  refine va_iast hx hb hK hP hD hS 1 0 rfl rfl (in_vp c_2 (by decide)) d_Md_meaning_131 (fun H locs hP hD hS => ?_)
                  have hP : va_P (dC, dI) vwCl (w_M ad ca (TMd_set_kinds (TMd_set_thrown d 0) (upd (TMd_kinds d) p0.toNatClampNeg p1))) H := hP
                  have hD : va_D A (w_M ad ca (TMd_set_kinds (TMd_set_thrown d 0) (upd (TMd_kinds d) p0.toNatClampNeg p1))) := hD
                  refine lv_aload_n hx hb d_Md_meaning_132 rfl (lv_at hl 1 rfl) ?_
                  refine va_get (D := (dC, dI)) (ci := 4) (v := .ref (ad 18)) (C := R_Md) (T := T_Md) (N := 23) hx hb ht i_Md hown hK hP 0 rfl rfl 2 (by decide) (ht _ q_447) (fun _ h9 => h9) rfl d_Md_meaning_133 ?_
                  refine lv_iload_n hx hb d_Md_meaning_136 rfl (lv_at hl 2 rfl) ?_
                  refine lv_iload_n hx hb d_Md_meaning_137 rfl (lv_at hl 4 rfl) ?_
                  refine va_iast hx hb hK hP hD hS 2 1 rfl rfl (in_vp c_2 (by decide)) d_Md_meaning_138 (fun H locs hP hD hS => ?_)
                  have hP : va_P (dC, dI) vwCl (w_M ad ca (TMd_set_values (TMd_set_kinds (TMd_set_thrown d 0) (upd (TMd_kinds d) p0.toNatClampNeg p1)) (upd (TMd_values d) p0.toNatClampNeg p2))) H := hP
                  have hD : va_D A (w_M ad ca (TMd_set_values (TMd_set_kinds (TMd_set_thrown d 0) (upd (TMd_kinds d) p0.toNatClampNeg p1)) (upd (TMd_values d) p0.toNatClampNeg p2))) := hD
                  refine lv_iconst (v := 1) hx hb d_Md_meaning_139 (by decide) ?_
                  exact W.iret hx hb hr (v := 1) (fun t ht hW => ⟨⟨1, (TMd_set_values (TMd_set_kinds (TMd_set_thrown d 0) (upd (TMd_kinds d) p0.toNatClampNeg p1)) (upd (TMd_values d) p0.toNatClampNeg p2)), rfl, he.symm, by rw [ht]; exact hP, va_K.moved hW.alike hK, hD⟩, hS.F ht⟩) hS.2.2 d_Md_meaning_140
                · have he := he.trans (if_pos c_42)
                  refine lv_bipush (v := (-2)) hx hb d_Md_meaning_122 (by decide) ?_
                  exact W.iret hx hb hr (v := (-2)) (fun t ht hW => ⟨⟨(-2), (TMd_set_thrown d 0), rfl, he.symm, by rw [ht]; exact hP, va_K.moved hW.alike hK, hD⟩, hS.F ht⟩) hS.2.2 d_Md_meaning_124
          · have he := he.trans (if_pos c_32)
            refine lv_iload_n hx hb d_Md_meaning_61 rfl (lv_at hl 3 rfl) ?_
            refine lv_ldc (v := (-999999999)) hx hb hown (ht _ q_522) d_Md_meaning_62 ?_
            refine lv_ldc (v := 999999999) hx hb hown (ht _ q_523) d_Md_meaning_64 ?_
            refine wx_ci (wS := fun _ : Unit => w_E ad ca) (ws2 := fun _ : Unit => w_M ad ca (TMd_set_thrown d 0)) (va_runS (As := [.int p2, .int (-999999999), .int 999999999]) (rest := []) ⟨hx, hb, hml, hown, ht⟩ (c_Md_in l dC dI ad ca H.size p2 (-999999999) 999999999 _ rfl) (va_cwS 3 ht (tb_S q_519 q_520 q_47 q_521) rfl rfl rfl p_Md_in.2 ⟨show 0 + 1 ≤ 1 by omega, show 8 + (3 + 11) + 0 ≤ 22 by omega⟩) (wx_preS (wc := (w_E ad ca)) hN hK hP hD [] [] rfl (by decide) rfl) rfl rfl hl.1 rfl (lv_room (Nat.le_of_ble_eq_true rfl)) d_Md_meaning_66 ⟨Nat.zero_le _, Nat.zero_le _⟩) hP hD hS hA [] [0, 1, 2, 3, 4, 5, 6, 7, 8, 9, 10, 11] [0, 1, 2, 3, 4, 5, 6, 7, 8, 9, 10, 11] rfl rfl (by decide) (by decide) (by decide) (fun _ => rfl) (fun r_43 _ H locs hw_43 hP hD hS => ?_)
            subst hw_43
            have hP : va_P (dC, dI) vwCl (w_M ad ca (TMd_set_thrown d 0)) H := hP
            have hD : va_D A (w_M ad ca (TMd_set_thrown d 0)) := hD
            refine lv_goto (tgt := 105) hx hb d_Md_meaning_69 (by decide) ?_
            refine lv_istore (lv' := [(4, .int (f_Md_in p2 (-999999999) 999999999)), (0, .ref (ad 16)), (1, .int p0), (2, .int p1), (3, .int p2)]) hx hb d_Md_meaning_105 hl (by decide) rfl (fun ls hl => ?_)
            refine lv_iload_n hx hb d_Md_meaning_107 rfl (lv_at hl 3 rfl) ?_
            refine lv_iconst (v := 0) hx hb d_Md_meaning_108 (by decide) ?_
            refine lv_bipush (v := 8) hx hb d_Md_meaning_109 (by decide) ?_
            refine wx_ci (wS := fun _ : Unit => w_E ad ca) (ws2 := fun _ : Unit => w_M ad ca (TMd_set_thrown d 0)) (va_runS (As := [.int p1, .int 0, .int 8]) (rest := []) ⟨hx, hb, hml, hown, ht⟩ (c_Md_in l dC dI ad ca H.size p1 0 8 _ rfl) (va_cwS 3 ht (tb_S q_519 q_520 q_47 q_521) rfl rfl rfl p_Md_in.2 ⟨show 0 + 1 ≤ 1 by omega, show 8 + (3 + 11) + 0 ≤ 22 by omega⟩) (wx_preS (wc := (w_E ad ca)) hN hK hP hD [] [] rfl (by decide) rfl) rfl rfl hl.1 rfl (lv_room (Nat.le_of_ble_eq_true rfl)) d_Md_meaning_111 ⟨Nat.zero_le _, Nat.zero_le _⟩) hP hD hS hA [] [0, 1, 2, 3, 4, 5, 6, 7, 8, 9, 10, 11] [0, 1, 2, 3, 4, 5, 6, 7, 8, 9, 10, 11] rfl rfl (by decide) (by decide) (by decide) (fun _ => rfl) (fun r_44 _ H locs hw_44 hP hD hS => ?_)
            subst hw_44
            have hP : va_P (dC, dI) vwCl (w_M ad ca (TMd_set_thrown d 0)) H := hP
            have hD : va_D A (w_M ad ca (TMd_set_thrown d 0)) := hD
            refine lv_if_eq (tgt := 122) hx hb d_Md_meaning_114 (by decide) (fun c_45 => ?_) (fun c_45 => ?_)
            · have he := he.trans (if_pos c_45)
              refine lv_bipush (v := (-2)) hx hb d_Md_meaning_122 (by decide) ?_
              exact W.iret hx hb hr (v := (-2)) (fun t ht hW => ⟨⟨(-2), (TMd_set_thrown d 0), rfl, he.symm, by rw [ht]; exact hP, va_K.moved hW.alike hK, hD⟩, hS.F ht⟩) hS.2.2 d_Md_meaning_124
            · have he := he.trans (if_neg c_45)
              refine lv_iload hx hb d_Md_meaning_117 (lv_at hl 0 rfl) ?_
              refine lv_if_ne (tgt := 125) hx hb d_Md_meaning_119 (by decide) (fun c_46 => ?_) (fun c_46 => ?_)
              · have he := he.trans (if_neg c_46)
                refine lv_aload_n hx hb d_Md_meaning_125 rfl (lv_at hl 1 rfl) ?_
                refine va_get (D := (dC, dI)) (ci := 4) (v := .ref (ad 17)) (C := R_Md) (T := T_Md) (N := 23) hx hb ht i_Md hown hK hP 0 rfl rfl 1 (by decide) (ht _ q_446) (fun _ h9 => h9) rfl d_Md_meaning_126 ?_
                refine lv_iload_n hx hb d_Md_meaning_129 rfl (lv_at hl 2 rfl) ?_
                refine lv_iload_n hx hb d_Md_meaning_130 rfl (lv_at hl 3 rfl) ?_
                refine va_iast hx hb hK hP hD hS 1 0 rfl rfl (in_vp c_2 (by decide)) d_Md_meaning_131 (fun H locs hP hD hS => ?_)
                have hP : va_P (dC, dI) vwCl (w_M ad ca (TMd_set_kinds (TMd_set_thrown d 0) (upd (TMd_kinds d) p0.toNatClampNeg p1))) H := hP
                have hD : va_D A (w_M ad ca (TMd_set_kinds (TMd_set_thrown d 0) (upd (TMd_kinds d) p0.toNatClampNeg p1))) := hD
                refine lv_aload_n hx hb d_Md_meaning_132 rfl (lv_at hl 1 rfl) ?_
                refine va_get (D := (dC, dI)) (ci := 4) (v := .ref (ad 18)) (C := R_Md) (T := T_Md) (N := 23) hx hb ht i_Md hown hK hP 0 rfl rfl 2 (by decide) (ht _ q_447) (fun _ h9 => h9) rfl d_Md_meaning_133 ?_
                refine lv_iload_n hx hb d_Md_meaning_136 rfl (lv_at hl 2 rfl) ?_
                refine lv_iload_n hx hb d_Md_meaning_137 rfl (lv_at hl 4 rfl) ?_
                refine va_iast hx hb hK hP hD hS 2 1 rfl rfl (in_vp c_2 (by decide)) d_Md_meaning_138 (fun H locs hP hD hS => ?_)
                have hP : va_P (dC, dI) vwCl (w_M ad ca (TMd_set_values (TMd_set_kinds (TMd_set_thrown d 0) (upd (TMd_kinds d) p0.toNatClampNeg p1)) (upd (TMd_values d) p0.toNatClampNeg p2))) H := hP
                have hD : va_D A (w_M ad ca (TMd_set_values (TMd_set_kinds (TMd_set_thrown d 0) (upd (TMd_kinds d) p0.toNatClampNeg p1)) (upd (TMd_values d) p0.toNatClampNeg p2))) := hD
                refine lv_iconst (v := 1) hx hb d_Md_meaning_139 (by decide) ?_
                exact W.iret hx hb hr (v := 1) (fun t ht hW => ⟨⟨1, (TMd_set_values (TMd_set_kinds (TMd_set_thrown d 0) (upd (TMd_kinds d) p0.toNatClampNeg p1)) (upd (TMd_values d) p0.toNatClampNeg p2)), rfl, he.symm, by rw [ht]; exact hP, va_K.moved hW.alike hK, hD⟩, hS.F ht⟩) hS.2.2 d_Md_meaning_140
              · have he := he.trans (if_pos c_46)
                refine lv_bipush (v := (-2)) hx hb d_Md_meaning_122 (by decide) ?_
                exact W.iret hx hb hr (v := (-2)) (fun t ht hW => ⟨⟨(-2), (TMd_set_thrown d 0), rfl, he.symm, by rw [ht]; exact hP, va_K.moved hW.alike hK, hD⟩, hS.F ht⟩) hS.2.2 d_Md_meaning_124
        · have he := he.trans (if_pos c_31)
          refine lv_iload_n hx hb d_Md_meaning_45 rfl (lv_at hl 3 rfl) ?_
          refine lv_iconst (v := 0) hx hb d_Md_meaning_46 (by decide) ?_
          refine lv_sipush (v := 4095) hx hb d_Md_meaning_47 (by decide) ?_
          refine wx_ci (wS := fun _ : Unit => w_E ad ca) (ws2 := fun _ : Unit => w_M ad ca (TMd_set_thrown d 0)) (va_runS (As := [.int p2, .int 0, .int 4095]) (rest := []) ⟨hx, hb, hml, hown, ht⟩ (c_Md_in l dC dI ad ca H.size p2 0 4095 _ rfl) (va_cwS 3 ht (tb_S q_519 q_520 q_47 q_521) rfl rfl rfl p_Md_in.2 ⟨show 0 + 1 ≤ 1 by omega, show 8 + (3 + 11) + 0 ≤ 22 by omega⟩) (wx_preS (wc := (w_E ad ca)) hN hK hP hD [] [] rfl (by decide) rfl) rfl rfl hl.1 rfl (lv_room (Nat.le_of_ble_eq_true rfl)) d_Md_meaning_50 ⟨Nat.zero_le _, Nat.zero_le _⟩) hP hD hS hA [] [0, 1, 2, 3, 4, 5, 6, 7, 8, 9, 10, 11] [0, 1, 2, 3, 4, 5, 6, 7, 8, 9, 10, 11] rfl rfl (by decide) (by decide) (by decide) (fun _ => rfl) (fun r_47 _ H locs hw_47 hP hD hS => ?_)
          subst hw_47
          have hP : va_P (dC, dI) vwCl (w_M ad ca (TMd_set_thrown d 0)) H := hP
          have hD : va_D A (w_M ad ca (TMd_set_thrown d 0)) := hD
          refine lv_goto (tgt := 105) hx hb d_Md_meaning_53 (by decide) ?_
          refine lv_istore (lv' := [(4, .int (f_Md_in p2 0 4095)), (0, .ref (ad 16)), (1, .int p0), (2, .int p1), (3, .int p2)]) hx hb d_Md_meaning_105 hl (by decide) rfl (fun ls hl => ?_)
          refine lv_iload_n hx hb d_Md_meaning_107 rfl (lv_at hl 3 rfl) ?_
          refine lv_iconst (v := 0) hx hb d_Md_meaning_108 (by decide) ?_
          refine lv_bipush (v := 8) hx hb d_Md_meaning_109 (by decide) ?_
          refine wx_ci (wS := fun _ : Unit => w_E ad ca) (ws2 := fun _ : Unit => w_M ad ca (TMd_set_thrown d 0)) (va_runS (As := [.int p1, .int 0, .int 8]) (rest := []) ⟨hx, hb, hml, hown, ht⟩ (c_Md_in l dC dI ad ca H.size p1 0 8 _ rfl) (va_cwS 3 ht (tb_S q_519 q_520 q_47 q_521) rfl rfl rfl p_Md_in.2 ⟨show 0 + 1 ≤ 1 by omega, show 8 + (3 + 11) + 0 ≤ 22 by omega⟩) (wx_preS (wc := (w_E ad ca)) hN hK hP hD [] [] rfl (by decide) rfl) rfl rfl hl.1 rfl (lv_room (Nat.le_of_ble_eq_true rfl)) d_Md_meaning_111 ⟨Nat.zero_le _, Nat.zero_le _⟩) hP hD hS hA [] [0, 1, 2, 3, 4, 5, 6, 7, 8, 9, 10, 11] [0, 1, 2, 3, 4, 5, 6, 7, 8, 9, 10, 11] rfl rfl (by decide) (by decide) (by decide) (fun _ => rfl) (fun r_48 _ H locs hw_48 hP hD hS => ?_)
          subst hw_48
          have hP : va_P (dC, dI) vwCl (w_M ad ca (TMd_set_thrown d 0)) H := hP
          have hD : va_D A (w_M ad ca (TMd_set_thrown d 0)) := hD
          refine lv_if_eq (tgt := 122) hx hb d_Md_meaning_114 (by decide) (fun c_49 => ?_) (fun c_49 => ?_)
          · have he := he.trans (if_pos c_49)
            refine lv_bipush (v := (-2)) hx hb d_Md_meaning_122 (by decide) ?_
            exact W.iret hx hb hr (v := (-2)) (fun t ht hW => ⟨⟨(-2), (TMd_set_thrown d 0), rfl, he.symm, by rw [ht]; exact hP, va_K.moved hW.alike hK, hD⟩, hS.F ht⟩) hS.2.2 d_Md_meaning_124
          · have he := he.trans (if_neg c_49)
            refine lv_iload hx hb d_Md_meaning_117 (lv_at hl 0 rfl) ?_
            refine lv_if_ne (tgt := 125) hx hb d_Md_meaning_119 (by decide) (fun c_50 => ?_) (fun c_50 => ?_)
            · have he := he.trans (if_neg c_50)
              refine lv_aload_n hx hb d_Md_meaning_125 rfl (lv_at hl 1 rfl) ?_
              refine va_get (D := (dC, dI)) (ci := 4) (v := .ref (ad 17)) (C := R_Md) (T := T_Md) (N := 23) hx hb ht i_Md hown hK hP 0 rfl rfl 1 (by decide) (ht _ q_446) (fun _ h9 => h9) rfl d_Md_meaning_126 ?_
              refine lv_iload_n hx hb d_Md_meaning_129 rfl (lv_at hl 2 rfl) ?_
              refine lv_iload_n hx hb d_Md_meaning_130 rfl (lv_at hl 3 rfl) ?_
              refine va_iast hx hb hK hP hD hS 1 0 rfl rfl (in_vp c_2 (by decide)) d_Md_meaning_131 (fun H locs hP hD hS => ?_)
              have hP : va_P (dC, dI) vwCl (w_M ad ca (TMd_set_kinds (TMd_set_thrown d 0) (upd (TMd_kinds d) p0.toNatClampNeg p1))) H := hP
              have hD : va_D A (w_M ad ca (TMd_set_kinds (TMd_set_thrown d 0) (upd (TMd_kinds d) p0.toNatClampNeg p1))) := hD
              refine lv_aload_n hx hb d_Md_meaning_132 rfl (lv_at hl 1 rfl) ?_
              refine va_get (D := (dC, dI)) (ci := 4) (v := .ref (ad 18)) (C := R_Md) (T := T_Md) (N := 23) hx hb ht i_Md hown hK hP 0 rfl rfl 2 (by decide) (ht _ q_447) (fun _ h9 => h9) rfl d_Md_meaning_133 ?_
              refine lv_iload_n hx hb d_Md_meaning_136 rfl (lv_at hl 2 rfl) ?_
              refine lv_iload_n hx hb d_Md_meaning_137 rfl (lv_at hl 4 rfl) ?_
              refine va_iast hx hb hK hP hD hS 2 1 rfl rfl (in_vp c_2 (by decide)) d_Md_meaning_138 (fun H locs hP hD hS => ?_)
              have hP : va_P (dC, dI) vwCl (w_M ad ca (TMd_set_values (TMd_set_kinds (TMd_set_thrown d 0) (upd (TMd_kinds d) p0.toNatClampNeg p1)) (upd (TMd_values d) p0.toNatClampNeg p2))) H := hP
              have hD : va_D A (w_M ad ca (TMd_set_values (TMd_set_kinds (TMd_set_thrown d 0) (upd (TMd_kinds d) p0.toNatClampNeg p1)) (upd (TMd_values d) p0.toNatClampNeg p2))) := hD
              refine lv_iconst (v := 1) hx hb d_Md_meaning_139 (by decide) ?_
              exact W.iret hx hb hr (v := 1) (fun t ht hW => ⟨⟨1, (TMd_set_values (TMd_set_kinds (TMd_set_thrown d 0) (upd (TMd_kinds d) p0.toNatClampNeg p1)) (upd (TMd_values d) p0.toNatClampNeg p2)), rfl, he.symm, by rw [ht]; exact hP, va_K.moved hW.alike hK, hD⟩, hS.F ht⟩) hS.2.2 d_Md_meaning_140
            · have he := he.trans (if_pos c_50)
              refine lv_bipush (v := (-2)) hx hb d_Md_meaning_122 (by decide) ?_
              exact W.iret hx hb hr (v := (-2)) (fun t ht hW => ⟨⟨(-2), (TMd_set_thrown d 0), rfl, he.symm, by rw [ht]; exact hP, va_K.moved hW.alike hK, hD⟩, hS.F ht⟩) hS.2.2 d_Md_meaning_124
      · have he := he.trans (if_pos c_30)
        refine lv_iconst (v := (-1)) hx hb d_Md_meaning_38 (by decide) ?_
        exact W.iret hx hb hr (v := (-1)) (fun t ht hW => ⟨⟨(-1), (TMd_set_thrown d 0), rfl, he.symm, by rw [ht]; exact hP, va_K.moved hW.alike hK, hD⟩, hS.F ht⟩) hS.2.2 d_Md_meaning_39
noncomputable def f_Md_token (d : TMd) (p0 : Int32) (p1 : Int32) : (Int32 × TMd) := (if p0 = (-1) then (if (f_Md_isToken p1) = 0 then ((-2), (TMd_set_thrown d 0)) else (if 0 ≤ p0 then (if ((TMd_sizes d) p0.toNatClampNeg) = 12 then ((-4), (TMd_set_thrown d 0)) else (((upd (TMd_sizes d) p0.toNatClampNeg (((TMd_sizes d) p0.toNatClampNeg) + 1)) p0.toNatClampNeg), (TMd_set_sizes (TMd_set_rows (TMd_set_thrown d 0) (upd (TMd_rows d) ((200 * p0) + ((TMd_sizes d) p0.toNatClampNeg)).toNatClampNeg p1)) (upd (TMd_sizes d) p0.toNatClampNeg (((TMd_sizes d) p0.toNatClampNeg) + 1))))) else (if ((TMd_sizes d) (20 : Int32).toNatClampNeg) = 200 then ((-4), (TMd_set_thrown d 0)) else (((upd (TMd_sizes d) (20 : Int32).toNatClampNeg (((TMd_sizes d) (20 : Int32).toNatClampNeg) + 1)) (20 : Int32).toNatClampNeg), (TMd_set_sizes (TMd_set_rows (TMd_set_thrown d 0) (upd (TMd_rows d) ((200 * 20) + ((TMd_sizes d) (20 : Int32).toNatClampNeg)).toNatClampNeg p1)) (upd (TMd_sizes d) (20 : Int32).toNatClampNeg (((TMd_sizes d) (20 : Int32).toNatClampNeg) + 1))))))) else (if (f_Md_in p0 0 ((TMd_bodies d) - 1)) = 0 then ((-1), (TMd_set_thrown d 0)) else (if (f_Md_isToken p1) = 0 then ((-2), (TMd_set_thrown d 0)) else (if 0 ≤ p0 then (if ((TMd_sizes d) p0.toNatClampNeg) = 12 then ((-4), (TMd_set_thrown d 0)) else (((upd (TMd_sizes d) p0.toNatClampNeg (((TMd_sizes d) p0.toNatClampNeg) + 1)) p0.toNatClampNeg), (TMd_set_sizes (TMd_set_rows (TMd_set_thrown d 0) (upd (TMd_rows d) ((200 * p0) + ((TMd_sizes d) p0.toNatClampNeg)).toNatClampNeg p1)) (upd (TMd_sizes d) p0.toNatClampNeg (((TMd_sizes d) p0.toNatClampNeg) + 1))))) else (if ((TMd_sizes d) (20 : Int32).toNatClampNeg) = 200 then ((-4), (TMd_set_thrown d 0)) else (((upd (TMd_sizes d) (20 : Int32).toNatClampNeg (((TMd_sizes d) (20 : Int32).toNatClampNeg) + 1)) (20 : Int32).toNatClampNeg), (TMd_set_sizes (TMd_set_rows (TMd_set_thrown d 0) (upd (TMd_rows d) ((200 * 20) + ((TMd_sizes d) (20 : Int32).toNatClampNeg)).toNatClampNeg p1)) (upd (TMd_sizes d) (20 : Int32).toNatClampNeg (((TMd_sizes d) (20 : Int32).toNatClampNeg) + 1)))))))))
set_option maxHeartbeats 4000000 in
set_option maxRecDepth 100000 in
theorem c_Md_token (l : Launch) (dC : Nat → ClassId) (dI : Nat → Nat → Nat) (ad : Nat → Nat) (ca : Nat → ClassId) (sz : Nat) (d : TMd) (p0 : Int32) (p1 : Int32) (hpre : MdS d) (F : (Int32 × TMd)) (he : F = f_Md_token d p0 p1) : wx_Mi l y_Md_token ws_Md_token ({ frames := 2, cells := 0, slots := 0, locals := 42 } : Room) (dC, dI) vwCl (t_M ca) [.ref (ad 16), .int p0, .int p1] (w_M ad ca d) sz (fun v : TMd => w_M ad ca v) (fun (r : Int32) (v : TMd) => (r, v) = F) := by
  refine Met.ofW (cc := b_Md_token) (maxL := 4) (ret := some .int) (by decide) rfl ?_
  intro p e s m args below meth c s₁ B hml hv
  obtain ⟨rfl, hsz, hP, hK, hD0, hN⟩ := hv
  have hx := B.exec
  have hb := B.bytes
  have hr := B.returns
  have hts := atoms_spec (ws := ws_Md_token) B.pre
  have ht : ∀ w ∈ TB, w.before _ s = true := fun w h => hts w (List.mem_cons_of_mem _ h)
  have hown : s.vm.findClass R_Md = some m.cls := findClass_of_methodNamed B.named
  have hlocks := B.notSynchronized
  subst hsz
  have hD := hD0.self (sz := s.heap.size)
  generalize hAe : va_A (w_M ad ca d) s.heap.size = A at hD ⊢
  have hA : ∀ q : Nat, s.heap.size ≤ q → A q := fun q h => by rw [← hAe]; exact Or.inr h
  have hS : va_S A s.heap s.heap [] := va_S.rf
  have hl := lv_entry ([.ref (ad 16), .int p0, .int p1]) (n := 4) (Nat.le_of_ble_eq_true rfl)
  rw [lg_entry_eq]
  generalize (lg_sl ([.ref (ad 16), .int p0, .int p1]) ++ List.replicate (4 - (lg_sl ([.ref (ad 16), .int p0, .int p1])).length) Slot.unset).toArray = ls at hl ⊢
  have hl : lv_has ls 4 [(0, .ref (ad 16)), (1, .int p0), (2, .int p1)] := hl
  unfold f_Md_token at he
  refine lv_aload_n hx hb d_Md_token_0 rfl (lv_at hl 0 rfl) ?_
  refine lv_iconst (v := 0) hx hb d_Md_token_1 (by decide) ?_
  refine va_put (D := (dC, dI)) (ci := 4) (v := .int 0) (ty := .int) (C := R_Md) (T := T_Md) (N := 23) hx hb ht i_Md ty_Md ty_Md_ok nm_Md hown hK hP hD hS 0 rfl rfl 0 (by decide) (ht _ q_445) (fun _ h9 => h9) rfl (by decide +kernel) rfl rfl (Nat.le_of_ble_eq_true rfl) d_Md_token_2 (fun H locs hP hD hS => ?_)
  have hP : va_P (dC, dI) vwCl (w_M ad ca (TMd_set_thrown d 0)) H := hP
  have hD : va_D A (w_M ad ca (TMd_set_thrown d 0)) := hD
  refine lv_iload_n hx hb d_Md_token_5 rfl (lv_at hl 1 rfl) ?_
  refine lv_iconst (v := (-1)) hx hb d_Md_token_6 (by decide) ?_
  refine lv_icmp_eq (tgt := 26) hx hb d_Md_token_7 (by decide) (fun c_1 => ?_) (fun c_1 => ?_)
  · have he := he.trans (if_pos c_1)
    refine lv_iload_n hx hb d_Md_token_26 rfl (lv_at hl 2 rfl) ?_
    refine wx_ci (wS := fun _ : Unit => w_E ad ca) (ws2 := fun _ : Unit => w_M ad ca (TMd_set_thrown d 0)) (va_runS (As := [.int p1]) (rest := []) ⟨hx, hb, hml, hown, ht⟩ (c_Md_isToken l dC dI ad ca H.size p1 _ rfl) (va_cwS 1 ht (tb_S q_532 q_533 q_47 q_534) rfl rfl rfl p_Md_isToken.2 ⟨show 1 + 1 ≤ 2 by omega, show 8 + (1 + 11) + 22 ≤ 42 by omega⟩) (wx_preS (wc := (w_E ad ca)) hN hK hP hD [] [] rfl (by decide) rfl) rfl rfl hl.1 rfl (lv_room (Nat.le_of_ble_eq_true rfl)) d_Md_token_27 ⟨Nat.zero_le _, Nat.zero_le _⟩) hP hD hS hA [] [0, 1, 2, 3, 4, 5, 6, 7, 8, 9, 10, 11] [0, 1, 2, 3, 4, 5, 6, 7, 8, 9, 10, 11] rfl rfl (by decide) (by decide) (by decide) (fun _ => rfl) (fun r_2 _ H locs hw_2 hP hD hS => ?_)
    subst hw_2
    have hP : va_P (dC, dI) vwCl (w_M ad ca (TMd_set_thrown d 0)) H := hP
    have hD : va_D A (w_M ad ca (TMd_set_thrown d 0)) := hD
    refine lv_if_ne (tgt := 36) hx hb d_Md_token_30 (by decide) (fun c_3 => ?_) (fun c_3 => ?_)
    · have he := he.trans (if_neg c_3)
      refine lv_iload_n hx hb d_Md_token_36 rfl (lv_at hl 1 rfl) ?_
      refine lv_if_ge (tgt := 45) hx hb d_Md_token_37 (by decide) (fun c_4 => ?_) (fun c_4 => ?_)
      · have he := he.trans (if_pos c_4)
        refine lv_iload_n hx hb d_Md_token_45 rfl (lv_at hl 1 rfl) ?_
        refine lv_istore_n (lv' := [(3, .int p0), (0, .ref (ad 16)), (1, .int p0), (2, .int p1)]) hx hb d_Md_token_46 rfl hl (by decide) rfl (fun ls hl => ?_)
        refine lv_aload_n hx hb d_Md_token_47 rfl (lv_at hl 1 rfl) ?_
        refine va_get (D := (dC, dI)) (ci := 4) (v := .ref (ad 20)) (C := R_Md) (T := T_Md) (N := 23) hx hb ht i_Md hown hK hP 0 rfl rfl 5 (by decide) (ht _ q_450) (fun _ h9 => h9) rfl d_Md_token_48 ?_
        refine lv_iload_n hx hb d_Md_token_51 rfl (lv_at hl 0 rfl) ?_
        refine va_iald hx hb hK hP 4 3 rfl rfl (absurd c_4 (by rw [c_1]; decide)) d_Md_token_52 ?_
        refine lv_iload_n hx hb d_Md_token_53 rfl (lv_at hl 2 rfl) ?_
        refine lv_if_ge (tgt := 63) hx hb d_Md_token_54 (by decide) (fun c_5 => ?_) (fun c_5 => ?_)
        · refine lv_bipush (v := 12) hx hb d_Md_token_63 (by decide) ?_
          refine lv_icmp_ne (tgt := 71) hx hb d_Md_token_65 (by decide) (fun c_6 => ?_) (fun c_6 => ?_)
          · have he := he.trans (if_neg c_6)
            refine lv_aload_n hx hb d_Md_token_71 rfl (lv_at hl 1 rfl) ?_
            refine va_get (D := (dC, dI)) (ci := 4) (v := .ref (ad 19)) (C := R_Md) (T := T_Md) (N := 23) hx hb ht i_Md hown hK hP 0 rfl rfl 4 (by decide) (ht _ q_449) (fun _ h9 => h9) rfl d_Md_token_72 ?_
            refine lv_sipush (v := 200) hx hb d_Md_token_75 (by decide) ?_
            refine lv_iload_n hx hb d_Md_token_78 rfl (lv_at hl 0 rfl) ?_
            refine lv_imul hx hb d_Md_token_79 ?_
            refine lv_aload_n hx hb d_Md_token_80 rfl (lv_at hl 1 rfl) ?_
            refine va_get (D := (dC, dI)) (ci := 4) (v := .ref (ad 20)) (C := R_Md) (T := T_Md) (N := 23) hx hb ht i_Md hown hK hP 0 rfl rfl 5 (by decide) (ht _ q_450) (fun _ h9 => h9) rfl d_Md_token_81 ?_
            refine lv_iload_n hx hb d_Md_token_84 rfl (lv_at hl 0 rfl) ?_
            refine va_iald hx hb hK hP 4 3 rfl rfl (absurd c_4 (by rw [c_1]; decide)) d_Md_token_85 ?_
            refine lv_iadd hx hb d_Md_token_86 ?_
            refine lv_iload_n hx hb d_Md_token_87 rfl (lv_at hl 3 rfl) ?_
            refine va_iast hx hb hK hP hD hS 3 2 rfl rfl (absurd c_4 (by rw [c_1]; decide)) d_Md_token_88 (fun H locs hP hD hS => ?_)
            have hP : va_P (dC, dI) vwCl (w_M ad ca (TMd_set_rows (TMd_set_thrown d 0) (upd (TMd_rows d) ((200 * p0) + ((TMd_sizes d) p0.toNatClampNeg)).toNatClampNeg p1))) H := hP
            have hD : va_D A (w_M ad ca (TMd_set_rows (TMd_set_thrown d 0) (upd (TMd_rows d) ((200 * p0) + ((TMd_sizes d) p0.toNatClampNeg)).toNatClampNeg p1))) := hD
            refine lv_aload_n hx hb d_Md_token_89 rfl (lv_at hl 1 rfl) ?_
            refine va_get (D := (dC, dI)) (ci := 4) (v := .ref (ad 20)) (C := R_Md) (T := T_Md) (N := 23) hx hb ht i_Md hown hK hP 0 rfl rfl 5 (by decide) (ht _ q_450) (fun _ h9 => h9) rfl d_Md_token_90 ?_
            refine lv_iload_n hx hb d_Md_token_93 rfl (lv_at hl 0 rfl) ?_
            refine lv_dup2_11 hx hb d_Md_token_94 rfl rfl ?_
            refine va_iald hx hb hK hP 4 3 rfl rfl (absurd c_4 (by rw [c_1]; decide)) d_Md_token_95 ?_
            refine lv_iconst (v := 1) hx hb d_Md_token_96 (by decide) ?_
            refine lv_iadd hx hb d_Md_token_97 ?_
            refine va_iast hx hb hK hP hD hS 4 3 rfl rfl (absurd c_4 (by rw [c_1]; decide)) d_Md_token_98 (fun H locs hP hD hS => ?_)
            have hP : va_P (dC, dI) vwCl (w_M ad ca (TMd_set_sizes (TMd_set_rows (TMd_set_thrown d 0) (upd (TMd_rows d) ((200 * p0) + ((TMd_sizes d) p0.toNatClampNeg)).toNatClampNeg p1)) (upd (TMd_sizes d) p0.toNatClampNeg (((TMd_sizes d) p0.toNatClampNeg) + 1)))) H := hP
            have hD : va_D A (w_M ad ca (TMd_set_sizes (TMd_set_rows (TMd_set_thrown d 0) (upd (TMd_rows d) ((200 * p0) + ((TMd_sizes d) p0.toNatClampNeg)).toNatClampNeg p1)) (upd (TMd_sizes d) p0.toNatClampNeg (((TMd_sizes d) p0.toNatClampNeg) + 1)))) := hD
            refine lv_aload_n hx hb d_Md_token_99 rfl (lv_at hl 1 rfl) ?_
            refine va_get (D := (dC, dI)) (ci := 4) (v := .ref (ad 20)) (C := R_Md) (T := T_Md) (N := 23) hx hb ht i_Md hown hK hP 0 rfl rfl 5 (by decide) (ht _ q_450) (fun _ h9 => h9) rfl d_Md_token_100 ?_
            refine lv_iload_n hx hb d_Md_token_103 rfl (lv_at hl 0 rfl) ?_
            refine va_iald hx hb hK hP 4 3 rfl rfl (absurd c_4 (by rw [c_1]; decide)) d_Md_token_104 ?_
            exact W.iret hx hb hr (v := ((upd (TMd_sizes d) p0.toNatClampNeg (((TMd_sizes d) p0.toNatClampNeg) + 1)) p0.toNatClampNeg)) (fun t ht hW => ⟨⟨((upd (TMd_sizes d) p0.toNatClampNeg (((TMd_sizes d) p0.toNatClampNeg) + 1)) p0.toNatClampNeg), (TMd_set_sizes (TMd_set_rows (TMd_set_thrown d 0) (upd (TMd_rows d) ((200 * p0) + ((TMd_sizes d) p0.toNatClampNeg)).toNatClampNeg p1)) (upd (TMd_sizes d) p0.toNatClampNeg (((TMd_sizes d) p0.toNatClampNeg) + 1))), rfl, he.symm, by rw [ht]; exact hP, va_K.moved hW.alike hK, hD⟩, hS.F ht⟩) hS.2.2 d_Md_token_105
          · have he := he.trans (if_pos c_6)
            refine lv_bipush (v := (-4)) hx hb d_Md_token_68 (by decide) ?_
            exact W.iret hx hb hr (v := (-4)) (fun t ht hW => ⟨⟨(-4), (TMd_set_thrown d 0), rfl, he.symm, by rw [ht]; exact hP, va_K.moved hW.alike hK, hD⟩, hS.F ht⟩) hS.2.2 d_Md_token_70
        · exact absurd c_4 c_5
      · have he := he.trans (if_neg c_4)
        refine lv_bipush (v := 20) hx hb d_Md_token_40 (by decide) ?_
        refine lv_goto (tgt := 46) hx hb d_Md_token_42 (by decide) ?_
        refine lv_istore_n (lv' := [(3, .int 20), (0, .ref (ad 16)), (1, .int p0), (2, .int p1)]) hx hb d_Md_token_46 rfl hl (by decide) rfl (fun ls hl => ?_)
        refine lv_aload_n hx hb d_Md_token_47 rfl (lv_at hl 1 rfl) ?_
        refine va_get (D := (dC, dI)) (ci := 4) (v := .ref (ad 20)) (C := R_Md) (T := T_Md) (N := 23) hx hb ht i_Md hown hK hP 0 rfl rfl 5 (by decide) (ht _ q_450) (fun _ h9 => h9) rfl d_Md_token_48 ?_
        refine lv_iload_n hx hb d_Md_token_51 rfl (lv_at hl 0 rfl) ?_
        refine va_iald hx hb hK hP 4 3 rfl rfl (show vp_in 20 21 by unfold vp_in; decide) d_Md_token_52 ?_
        refine lv_iload_n hx hb d_Md_token_53 rfl (lv_at hl 2 rfl) ?_
        refine lv_if_ge (tgt := 63) hx hb d_Md_token_54 (by decide) (fun c_7 => ?_) (fun c_7 => ?_)
        · exact absurd c_7 c_4
        · refine lv_sipush (v := 200) hx hb d_Md_token_57 (by decide) ?_
          refine lv_goto (tgt := 65) hx hb d_Md_token_60 (by decide) ?_
          refine lv_icmp_ne (tgt := 71) hx hb d_Md_token_65 (by decide) (fun c_8 => ?_) (fun c_8 => ?_)
          · have he := he.trans (if_neg c_8)
            refine lv_aload_n hx hb d_Md_token_71 rfl (lv_at hl 1 rfl) ?_
            refine va_get (D := (dC, dI)) (ci := 4) (v := .ref (ad 19)) (C := R_Md) (T := T_Md) (N := 23) hx hb ht i_Md hown hK hP 0 rfl rfl 4 (by decide) (ht _ q_449) (fun _ h9 => h9) rfl d_Md_token_72 ?_
            refine lv_sipush (v := 200) hx hb d_Md_token_75 (by decide) ?_
            refine lv_iload_n hx hb d_Md_token_78 rfl (lv_at hl 0 rfl) ?_
            refine lv_imul hx hb d_Md_token_79 ?_
            refine lv_aload_n hx hb d_Md_token_80 rfl (lv_at hl 1 rfl) ?_
            refine va_get (D := (dC, dI)) (ci := 4) (v := .ref (ad 20)) (C := R_Md) (T := T_Md) (N := 23) hx hb ht i_Md hown hK hP 0 rfl rfl 5 (by decide) (ht _ q_450) (fun _ h9 => h9) rfl d_Md_token_81 ?_
            refine lv_iload_n hx hb d_Md_token_84 rfl (lv_at hl 0 rfl) ?_
            refine va_iald hx hb hK hP 4 3 rfl rfl (show vp_in 20 21 by unfold vp_in; decide) d_Md_token_85 ?_
            refine lv_iadd hx hb d_Md_token_86 ?_
            refine lv_iload_n hx hb d_Md_token_87 rfl (lv_at hl 3 rfl) ?_
            refine va_iast hx hb hK hP hD hS 3 2 rfl rfl (tok_cell20 hpre c_8) d_Md_token_88 (fun H locs hP hD hS => ?_)
            have hP : va_P (dC, dI) vwCl (w_M ad ca (TMd_set_rows (TMd_set_thrown d 0) (upd (TMd_rows d) ((200 * 20) + ((TMd_sizes d) (20 : Int32).toNatClampNeg)).toNatClampNeg p1))) H := hP
            have hD : va_D A (w_M ad ca (TMd_set_rows (TMd_set_thrown d 0) (upd (TMd_rows d) ((200 * 20) + ((TMd_sizes d) (20 : Int32).toNatClampNeg)).toNatClampNeg p1))) := hD
            refine lv_aload_n hx hb d_Md_token_89 rfl (lv_at hl 1 rfl) ?_
            refine va_get (D := (dC, dI)) (ci := 4) (v := .ref (ad 20)) (C := R_Md) (T := T_Md) (N := 23) hx hb ht i_Md hown hK hP 0 rfl rfl 5 (by decide) (ht _ q_450) (fun _ h9 => h9) rfl d_Md_token_90 ?_
            refine lv_iload_n hx hb d_Md_token_93 rfl (lv_at hl 0 rfl) ?_
            refine lv_dup2_11 hx hb d_Md_token_94 rfl rfl ?_
            refine va_iald hx hb hK hP 4 3 rfl rfl (show vp_in 20 21 by unfold vp_in; decide) d_Md_token_95 ?_
            refine lv_iconst (v := 1) hx hb d_Md_token_96 (by decide) ?_
            refine lv_iadd hx hb d_Md_token_97 ?_
            refine va_iast hx hb hK hP hD hS 4 3 rfl rfl (show vp_in 20 21 by unfold vp_in; decide) d_Md_token_98 (fun H locs hP hD hS => ?_)
            have hP : va_P (dC, dI) vwCl (w_M ad ca (TMd_set_sizes (TMd_set_rows (TMd_set_thrown d 0) (upd (TMd_rows d) ((200 * 20) + ((TMd_sizes d) (20 : Int32).toNatClampNeg)).toNatClampNeg p1)) (upd (TMd_sizes d) (20 : Int32).toNatClampNeg (((TMd_sizes d) (20 : Int32).toNatClampNeg) + 1)))) H := hP
            have hD : va_D A (w_M ad ca (TMd_set_sizes (TMd_set_rows (TMd_set_thrown d 0) (upd (TMd_rows d) ((200 * 20) + ((TMd_sizes d) (20 : Int32).toNatClampNeg)).toNatClampNeg p1)) (upd (TMd_sizes d) (20 : Int32).toNatClampNeg (((TMd_sizes d) (20 : Int32).toNatClampNeg) + 1)))) := hD
            refine lv_aload_n hx hb d_Md_token_99 rfl (lv_at hl 1 rfl) ?_
            refine va_get (D := (dC, dI)) (ci := 4) (v := .ref (ad 20)) (C := R_Md) (T := T_Md) (N := 23) hx hb ht i_Md hown hK hP 0 rfl rfl 5 (by decide) (ht _ q_450) (fun _ h9 => h9) rfl d_Md_token_100 ?_
            refine lv_iload_n hx hb d_Md_token_103 rfl (lv_at hl 0 rfl) ?_
            refine va_iald hx hb hK hP 4 3 rfl rfl (show vp_in 20 21 by unfold vp_in; decide) d_Md_token_104 ?_
            exact W.iret hx hb hr (v := ((upd (TMd_sizes d) (20 : Int32).toNatClampNeg (((TMd_sizes d) (20 : Int32).toNatClampNeg) + 1)) (20 : Int32).toNatClampNeg)) (fun t ht hW => ⟨⟨((upd (TMd_sizes d) (20 : Int32).toNatClampNeg (((TMd_sizes d) (20 : Int32).toNatClampNeg) + 1)) (20 : Int32).toNatClampNeg), (TMd_set_sizes (TMd_set_rows (TMd_set_thrown d 0) (upd (TMd_rows d) ((200 * 20) + ((TMd_sizes d) (20 : Int32).toNatClampNeg)).toNatClampNeg p1)) (upd (TMd_sizes d) (20 : Int32).toNatClampNeg (((TMd_sizes d) (20 : Int32).toNatClampNeg) + 1))), rfl, he.symm, by rw [ht]; exact hP, va_K.moved hW.alike hK, hD⟩, hS.F ht⟩) hS.2.2 d_Md_token_105
          · have he := he.trans (if_pos c_8)
            refine lv_bipush (v := (-4)) hx hb d_Md_token_68 (by decide) ?_
            exact W.iret hx hb hr (v := (-4)) (fun t ht hW => ⟨⟨(-4), (TMd_set_thrown d 0), rfl, he.symm, by rw [ht]; exact hP, va_K.moved hW.alike hK, hD⟩, hS.F ht⟩) hS.2.2 d_Md_token_70
    · have he := he.trans (if_pos c_3)
      refine lv_bipush (v := (-2)) hx hb d_Md_token_33 (by decide) ?_
      exact W.iret hx hb hr (v := (-2)) (fun t ht hW => ⟨⟨(-2), (TMd_set_thrown d 0), rfl, he.symm, by rw [ht]; exact hP, va_K.moved hW.alike hK, hD⟩, hS.F ht⟩) hS.2.2 d_Md_token_35
  · have he := he.trans (if_neg c_1)
    refine lv_iload_n hx hb d_Md_token_10 rfl (lv_at hl 1 rfl) ?_
    refine lv_iconst (v := 0) hx hb d_Md_token_11 (by decide) ?_
    refine lv_aload_n hx hb d_Md_token_12 rfl (lv_at hl 0 rfl) ?_
    refine va_get (D := (dC, dI)) (ci := 4) (v := .int (TMd_bodies d)) (C := R_Md) (T := T_Md) (N := 23) hx hb ht i_Md hown hK hP 0 rfl rfl 3 (by decide) (ht _ q_448) (fun _ h9 => h9) rfl d_Md_token_13 ?_
    refine lv_iconst (v := 1) hx hb d_Md_token_16 (by decide) ?_
    refine lv_isub hx hb d_Md_token_17 ?_
    refine wx_ci (wS := fun _ : Unit => w_E ad ca) (ws2 := fun _ : Unit => w_M ad ca (TMd_set_thrown d 0)) (va_runS (As := [.int p0, .int 0, .int ((TMd_bodies d) - 1)]) (rest := []) ⟨hx, hb, hml, hown, ht⟩ (c_Md_in l dC dI ad ca H.size p0 0 ((TMd_bodies d) - 1) _ rfl) (va_cwS 3 ht (tb_S q_519 q_520 q_47 q_521) rfl rfl rfl p_Md_in.2 ⟨show 0 + 1 ≤ 2 by omega, show 8 + (3 + 11) + 0 ≤ 42 by omega⟩) (wx_preS (wc := (w_E ad ca)) hN hK hP hD [] [] rfl (by decide) rfl) rfl rfl hl.1 rfl (lv_room (Nat.le_of_ble_eq_true rfl)) d_Md_token_18 ⟨Nat.zero_le _, Nat.zero_le _⟩) hP hD hS hA [] [0, 1, 2, 3, 4, 5, 6, 7, 8, 9, 10, 11] [0, 1, 2, 3, 4, 5, 6, 7, 8, 9, 10, 11] rfl rfl (by decide) (by decide) (by decide) (fun _ => rfl) (fun r_9 _ H locs hw_9 hP hD hS => ?_)
    subst hw_9
    have hP : va_P (dC, dI) vwCl (w_M ad ca (TMd_set_thrown d 0)) H := hP
    have hD : va_D A (w_M ad ca (TMd_set_thrown d 0)) := hD
    refine lv_if_ne (tgt := 26) hx hb d_Md_token_21 (by decide) (fun c_10 => ?_) (fun c_10 => ?_)
    · have he := he.trans (if_neg c_10)
      refine lv_iload_n hx hb d_Md_token_26 rfl (lv_at hl 2 rfl) ?_
      refine wx_ci (wS := fun _ : Unit => w_E ad ca) (ws2 := fun _ : Unit => w_M ad ca (TMd_set_thrown d 0)) (va_runS (As := [.int p1]) (rest := []) ⟨hx, hb, hml, hown, ht⟩ (c_Md_isToken l dC dI ad ca H.size p1 _ rfl) (va_cwS 1 ht (tb_S q_532 q_533 q_47 q_534) rfl rfl rfl p_Md_isToken.2 ⟨show 1 + 1 ≤ 2 by omega, show 8 + (1 + 11) + 22 ≤ 42 by omega⟩) (wx_preS (wc := (w_E ad ca)) hN hK hP hD [] [] rfl (by decide) rfl) rfl rfl hl.1 rfl (lv_room (Nat.le_of_ble_eq_true rfl)) d_Md_token_27 ⟨Nat.zero_le _, Nat.zero_le _⟩) hP hD hS hA [] [0, 1, 2, 3, 4, 5, 6, 7, 8, 9, 10, 11] [0, 1, 2, 3, 4, 5, 6, 7, 8, 9, 10, 11] rfl rfl (by decide) (by decide) (by decide) (fun _ => rfl) (fun r_11 _ H locs hw_11 hP hD hS => ?_)
      subst hw_11
      have hP : va_P (dC, dI) vwCl (w_M ad ca (TMd_set_thrown d 0)) H := hP
      have hD : va_D A (w_M ad ca (TMd_set_thrown d 0)) := hD
      refine lv_if_ne (tgt := 36) hx hb d_Md_token_30 (by decide) (fun c_12 => ?_) (fun c_12 => ?_)
      · have he := he.trans (if_neg c_12)
        refine lv_iload_n hx hb d_Md_token_36 rfl (lv_at hl 1 rfl) ?_
        refine lv_if_ge (tgt := 45) hx hb d_Md_token_37 (by decide) (fun c_13 => ?_) (fun c_13 => ?_)
        · have he := he.trans (if_pos c_13)
          refine lv_iload_n hx hb d_Md_token_45 rfl (lv_at hl 1 rfl) ?_
          refine lv_istore_n (lv' := [(3, .int p0), (0, .ref (ad 16)), (1, .int p0), (2, .int p1)]) hx hb d_Md_token_46 rfl hl (by decide) rfl (fun ls hl => ?_)
          refine lv_aload_n hx hb d_Md_token_47 rfl (lv_at hl 1 rfl) ?_
          refine va_get (D := (dC, dI)) (ci := 4) (v := .ref (ad 20)) (C := R_Md) (T := T_Md) (N := 23) hx hb ht i_Md hown hK hP 0 rfl rfl 5 (by decide) (ht _ q_450) (fun _ h9 => h9) rfl d_Md_token_48 ?_
          refine lv_iload_n hx hb d_Md_token_51 rfl (lv_at hl 0 rfl) ?_
          refine va_iald hx hb hK hP 4 3 rfl rfl (vp_of (tok_row hpre c_10).1 (by have := (tok_row hpre c_10).2; omega)) d_Md_token_52 ?_
          refine lv_iload_n hx hb d_Md_token_53 rfl (lv_at hl 2 rfl) ?_
          refine lv_if_ge (tgt := 63) hx hb d_Md_token_54 (by decide) (fun c_14 => ?_) (fun c_14 => ?_)
          · refine lv_bipush (v := 12) hx hb d_Md_token_63 (by decide) ?_
            refine lv_icmp_ne (tgt := 71) hx hb d_Md_token_65 (by decide) (fun c_15 => ?_) (fun c_15 => ?_)
            · have he := he.trans (if_neg c_15)
              refine lv_aload_n hx hb d_Md_token_71 rfl (lv_at hl 1 rfl) ?_
              refine va_get (D := (dC, dI)) (ci := 4) (v := .ref (ad 19)) (C := R_Md) (T := T_Md) (N := 23) hx hb ht i_Md hown hK hP 0 rfl rfl 4 (by decide) (ht _ q_449) (fun _ h9 => h9) rfl d_Md_token_72 ?_
              refine lv_sipush (v := 200) hx hb d_Md_token_75 (by decide) ?_
              refine lv_iload_n hx hb d_Md_token_78 rfl (lv_at hl 0 rfl) ?_
              refine lv_imul hx hb d_Md_token_79 ?_
              refine lv_aload_n hx hb d_Md_token_80 rfl (lv_at hl 1 rfl) ?_
              refine va_get (D := (dC, dI)) (ci := 4) (v := .ref (ad 20)) (C := R_Md) (T := T_Md) (N := 23) hx hb ht i_Md hown hK hP 0 rfl rfl 5 (by decide) (ht _ q_450) (fun _ h9 => h9) rfl d_Md_token_81 ?_
              refine lv_iload_n hx hb d_Md_token_84 rfl (lv_at hl 0 rfl) ?_
              refine va_iald hx hb hK hP 4 3 rfl rfl (vp_of (tok_row hpre c_10).1 (by have := (tok_row hpre c_10).2; omega)) d_Md_token_85 ?_
              refine lv_iadd hx hb d_Md_token_86 ?_
              refine lv_iload_n hx hb d_Md_token_87 rfl (lv_at hl 3 rfl) ?_
              refine va_iast hx hb hK hP hD hS 3 2 rfl rfl (tok_cell hpre (tok_row hpre c_10).1 (tok_row hpre c_10).2 c_15) d_Md_token_88 (fun H locs hP hD hS => ?_)
              have hP : va_P (dC, dI) vwCl (w_M ad ca (TMd_set_rows (TMd_set_thrown d 0) (upd (TMd_rows d) ((200 * p0) + ((TMd_sizes d) p0.toNatClampNeg)).toNatClampNeg p1))) H := hP
              have hD : va_D A (w_M ad ca (TMd_set_rows (TMd_set_thrown d 0) (upd (TMd_rows d) ((200 * p0) + ((TMd_sizes d) p0.toNatClampNeg)).toNatClampNeg p1))) := hD
              refine lv_aload_n hx hb d_Md_token_89 rfl (lv_at hl 1 rfl) ?_
              refine va_get (D := (dC, dI)) (ci := 4) (v := .ref (ad 20)) (C := R_Md) (T := T_Md) (N := 23) hx hb ht i_Md hown hK hP 0 rfl rfl 5 (by decide) (ht _ q_450) (fun _ h9 => h9) rfl d_Md_token_90 ?_
              refine lv_iload_n hx hb d_Md_token_93 rfl (lv_at hl 0 rfl) ?_
              refine lv_dup2_11 hx hb d_Md_token_94 rfl rfl ?_
              refine va_iald hx hb hK hP 4 3 rfl rfl (vp_of (tok_row hpre c_10).1 (by have := (tok_row hpre c_10).2; omega)) d_Md_token_95 ?_
              refine lv_iconst (v := 1) hx hb d_Md_token_96 (by decide) ?_
              refine lv_iadd hx hb d_Md_token_97 ?_
              refine va_iast hx hb hK hP hD hS 4 3 rfl rfl (vp_of (tok_row hpre c_10).1 (by have := (tok_row hpre c_10).2; omega)) d_Md_token_98 (fun H locs hP hD hS => ?_)
              have hP : va_P (dC, dI) vwCl (w_M ad ca (TMd_set_sizes (TMd_set_rows (TMd_set_thrown d 0) (upd (TMd_rows d) ((200 * p0) + ((TMd_sizes d) p0.toNatClampNeg)).toNatClampNeg p1)) (upd (TMd_sizes d) p0.toNatClampNeg (((TMd_sizes d) p0.toNatClampNeg) + 1)))) H := hP
              have hD : va_D A (w_M ad ca (TMd_set_sizes (TMd_set_rows (TMd_set_thrown d 0) (upd (TMd_rows d) ((200 * p0) + ((TMd_sizes d) p0.toNatClampNeg)).toNatClampNeg p1)) (upd (TMd_sizes d) p0.toNatClampNeg (((TMd_sizes d) p0.toNatClampNeg) + 1)))) := hD
              refine lv_aload_n hx hb d_Md_token_99 rfl (lv_at hl 1 rfl) ?_
              refine va_get (D := (dC, dI)) (ci := 4) (v := .ref (ad 20)) (C := R_Md) (T := T_Md) (N := 23) hx hb ht i_Md hown hK hP 0 rfl rfl 5 (by decide) (ht _ q_450) (fun _ h9 => h9) rfl d_Md_token_100 ?_
              refine lv_iload_n hx hb d_Md_token_103 rfl (lv_at hl 0 rfl) ?_
              refine va_iald hx hb hK hP 4 3 rfl rfl (vp_of (tok_row hpre c_10).1 (by have := (tok_row hpre c_10).2; omega)) d_Md_token_104 ?_
              exact W.iret hx hb hr (v := ((upd (TMd_sizes d) p0.toNatClampNeg (((TMd_sizes d) p0.toNatClampNeg) + 1)) p0.toNatClampNeg)) (fun t ht hW => ⟨⟨((upd (TMd_sizes d) p0.toNatClampNeg (((TMd_sizes d) p0.toNatClampNeg) + 1)) p0.toNatClampNeg), (TMd_set_sizes (TMd_set_rows (TMd_set_thrown d 0) (upd (TMd_rows d) ((200 * p0) + ((TMd_sizes d) p0.toNatClampNeg)).toNatClampNeg p1)) (upd (TMd_sizes d) p0.toNatClampNeg (((TMd_sizes d) p0.toNatClampNeg) + 1))), rfl, he.symm, by rw [ht]; exact hP, va_K.moved hW.alike hK, hD⟩, hS.F ht⟩) hS.2.2 d_Md_token_105
            · have he := he.trans (if_pos c_15)
              refine lv_bipush (v := (-4)) hx hb d_Md_token_68 (by decide) ?_
              exact W.iret hx hb hr (v := (-4)) (fun t ht hW => ⟨⟨(-4), (TMd_set_thrown d 0), rfl, he.symm, by rw [ht]; exact hP, va_K.moved hW.alike hK, hD⟩, hS.F ht⟩) hS.2.2 d_Md_token_70
          · exact absurd c_13 c_14
        · have he := he.trans (if_neg c_13)
          refine lv_bipush (v := 20) hx hb d_Md_token_40 (by decide) ?_
          refine lv_goto (tgt := 46) hx hb d_Md_token_42 (by decide) ?_
          refine lv_istore_n (lv' := [(3, .int 20), (0, .ref (ad 16)), (1, .int p0), (2, .int p1)]) hx hb d_Md_token_46 rfl hl (by decide) rfl (fun ls hl => ?_)
          refine lv_aload_n hx hb d_Md_token_47 rfl (lv_at hl 1 rfl) ?_
          refine va_get (D := (dC, dI)) (ci := 4) (v := .ref (ad 20)) (C := R_Md) (T := T_Md) (N := 23) hx hb ht i_Md hown hK hP 0 rfl rfl 5 (by decide) (ht _ q_450) (fun _ h9 => h9) rfl d_Md_token_48 ?_
          refine lv_iload_n hx hb d_Md_token_51 rfl (lv_at hl 0 rfl) ?_
          refine va_iald hx hb hK hP 4 3 rfl rfl (show vp_in 20 21 by unfold vp_in; decide) d_Md_token_52 ?_
          refine lv_iload_n hx hb d_Md_token_53 rfl (lv_at hl 2 rfl) ?_
          refine lv_if_ge (tgt := 63) hx hb d_Md_token_54 (by decide) (fun c_16 => ?_) (fun c_16 => ?_)
          · exact absurd c_16 c_13
          · refine lv_sipush (v := 200) hx hb d_Md_token_57 (by decide) ?_
            refine lv_goto (tgt := 65) hx hb d_Md_token_60 (by decide) ?_
            refine lv_icmp_ne (tgt := 71) hx hb d_Md_token_65 (by decide) (fun c_17 => ?_) (fun c_17 => ?_)
            · have he := he.trans (if_neg c_17)
              refine lv_aload_n hx hb d_Md_token_71 rfl (lv_at hl 1 rfl) ?_
              refine va_get (D := (dC, dI)) (ci := 4) (v := .ref (ad 19)) (C := R_Md) (T := T_Md) (N := 23) hx hb ht i_Md hown hK hP 0 rfl rfl 4 (by decide) (ht _ q_449) (fun _ h9 => h9) rfl d_Md_token_72 ?_
              refine lv_sipush (v := 200) hx hb d_Md_token_75 (by decide) ?_
              refine lv_iload_n hx hb d_Md_token_78 rfl (lv_at hl 0 rfl) ?_
              refine lv_imul hx hb d_Md_token_79 ?_
              refine lv_aload_n hx hb d_Md_token_80 rfl (lv_at hl 1 rfl) ?_
              refine va_get (D := (dC, dI)) (ci := 4) (v := .ref (ad 20)) (C := R_Md) (T := T_Md) (N := 23) hx hb ht i_Md hown hK hP 0 rfl rfl 5 (by decide) (ht _ q_450) (fun _ h9 => h9) rfl d_Md_token_81 ?_
              refine lv_iload_n hx hb d_Md_token_84 rfl (lv_at hl 0 rfl) ?_
              refine va_iald hx hb hK hP 4 3 rfl rfl (show vp_in 20 21 by unfold vp_in; decide) d_Md_token_85 ?_
              refine lv_iadd hx hb d_Md_token_86 ?_
              refine lv_iload_n hx hb d_Md_token_87 rfl (lv_at hl 3 rfl) ?_
              refine va_iast hx hb hK hP hD hS 3 2 rfl rfl (tok_cell20 hpre c_17) d_Md_token_88 (fun H locs hP hD hS => ?_)
              have hP : va_P (dC, dI) vwCl (w_M ad ca (TMd_set_rows (TMd_set_thrown d 0) (upd (TMd_rows d) ((200 * 20) + ((TMd_sizes d) (20 : Int32).toNatClampNeg)).toNatClampNeg p1))) H := hP
              have hD : va_D A (w_M ad ca (TMd_set_rows (TMd_set_thrown d 0) (upd (TMd_rows d) ((200 * 20) + ((TMd_sizes d) (20 : Int32).toNatClampNeg)).toNatClampNeg p1))) := hD
              refine lv_aload_n hx hb d_Md_token_89 rfl (lv_at hl 1 rfl) ?_
              refine va_get (D := (dC, dI)) (ci := 4) (v := .ref (ad 20)) (C := R_Md) (T := T_Md) (N := 23) hx hb ht i_Md hown hK hP 0 rfl rfl 5 (by decide) (ht _ q_450) (fun _ h9 => h9) rfl d_Md_token_90 ?_
              refine lv_iload_n hx hb d_Md_token_93 rfl (lv_at hl 0 rfl) ?_
              refine lv_dup2_11 hx hb d_Md_token_94 rfl rfl ?_
              refine va_iald hx hb hK hP 4 3 rfl rfl (show vp_in 20 21 by unfold vp_in; decide) d_Md_token_95 ?_
              refine lv_iconst (v := 1) hx hb d_Md_token_96 (by decide) ?_
              refine lv_iadd hx hb d_Md_token_97 ?_
              refine va_iast hx hb hK hP hD hS 4 3 rfl rfl (show vp_in 20 21 by unfold vp_in; decide) d_Md_token_98 (fun H locs hP hD hS => ?_)
              have hP : va_P (dC, dI) vwCl (w_M ad ca (TMd_set_sizes (TMd_set_rows (TMd_set_thrown d 0) (upd (TMd_rows d) ((200 * 20) + ((TMd_sizes d) (20 : Int32).toNatClampNeg)).toNatClampNeg p1)) (upd (TMd_sizes d) (20 : Int32).toNatClampNeg (((TMd_sizes d) (20 : Int32).toNatClampNeg) + 1)))) H := hP
              have hD : va_D A (w_M ad ca (TMd_set_sizes (TMd_set_rows (TMd_set_thrown d 0) (upd (TMd_rows d) ((200 * 20) + ((TMd_sizes d) (20 : Int32).toNatClampNeg)).toNatClampNeg p1)) (upd (TMd_sizes d) (20 : Int32).toNatClampNeg (((TMd_sizes d) (20 : Int32).toNatClampNeg) + 1)))) := hD
              refine lv_aload_n hx hb d_Md_token_99 rfl (lv_at hl 1 rfl) ?_
              refine va_get (D := (dC, dI)) (ci := 4) (v := .ref (ad 20)) (C := R_Md) (T := T_Md) (N := 23) hx hb ht i_Md hown hK hP 0 rfl rfl 5 (by decide) (ht _ q_450) (fun _ h9 => h9) rfl d_Md_token_100 ?_
              refine lv_iload_n hx hb d_Md_token_103 rfl (lv_at hl 0 rfl) ?_
              refine va_iald hx hb hK hP 4 3 rfl rfl (show vp_in 20 21 by unfold vp_in; decide) d_Md_token_104 ?_
              exact W.iret hx hb hr (v := ((upd (TMd_sizes d) (20 : Int32).toNatClampNeg (((TMd_sizes d) (20 : Int32).toNatClampNeg) + 1)) (20 : Int32).toNatClampNeg)) (fun t ht hW => ⟨⟨((upd (TMd_sizes d) (20 : Int32).toNatClampNeg (((TMd_sizes d) (20 : Int32).toNatClampNeg) + 1)) (20 : Int32).toNatClampNeg), (TMd_set_sizes (TMd_set_rows (TMd_set_thrown d 0) (upd (TMd_rows d) ((200 * 20) + ((TMd_sizes d) (20 : Int32).toNatClampNeg)).toNatClampNeg p1)) (upd (TMd_sizes d) (20 : Int32).toNatClampNeg (((TMd_sizes d) (20 : Int32).toNatClampNeg) + 1))), rfl, he.symm, by rw [ht]; exact hP, va_K.moved hW.alike hK, hD⟩, hS.F ht⟩) hS.2.2 d_Md_token_105
            · have he := he.trans (if_pos c_17)
              refine lv_bipush (v := (-4)) hx hb d_Md_token_68 (by decide) ?_
              exact W.iret hx hb hr (v := (-4)) (fun t ht hW => ⟨⟨(-4), (TMd_set_thrown d 0), rfl, he.symm, by rw [ht]; exact hP, va_K.moved hW.alike hK, hD⟩, hS.F ht⟩) hS.2.2 d_Md_token_70
      · have he := he.trans (if_pos c_12)
        refine lv_bipush (v := (-2)) hx hb d_Md_token_33 (by decide) ?_
        exact W.iret hx hb hr (v := (-2)) (fun t ht hW => ⟨⟨(-2), (TMd_set_thrown d 0), rfl, he.symm, by rw [ht]; exact hP, va_K.moved hW.alike hK, hD⟩, hS.F ht⟩) hS.2.2 d_Md_token_35
    · have he := he.trans (if_pos c_10)
      refine lv_iconst (v := (-1)) hx hb d_Md_token_24 (by decide) ?_
      exact W.iret hx hb hr (v := (-1)) (fun t ht hW => ⟨⟨(-1), (TMd_set_thrown d 0), rfl, he.symm, by rw [ht]; exact hP, va_K.moved hW.alike hK, hD⟩, hS.F ht⟩) hS.2.2 d_Md_token_25
noncomputable def f_Md_mode (d : TMd) (p0 : Int32) (p1 : Int32) : (Int32 × TMd) := (if (f_Md_in p0 0 3) = 0 then ((-2), (TMd_set_thrown d 0)) else (1, (TMd_set_modes (TMd_set_thrown d 0) (upd (TMd_modes d) p0.toNatClampNeg (vp_nar .boolean p1)))))
set_option maxHeartbeats 4000000 in
set_option maxRecDepth 100000 in
theorem c_Md_mode (l : Launch) (dC : Nat → ClassId) (dI : Nat → Nat → Nat) (ad : Nat → Nat) (ca : Nat → ClassId) (sz : Nat) (d : TMd) (p0 : Int32) (p1 : Int32) (F : (Int32 × TMd)) (he : F = f_Md_mode d p0 p1) : wx_Mi l y_Md_mode ws_Md_mode ({ frames := 1, cells := 0, slots := 0, locals := 22 } : Room) (dC, dI) vwCl (t_M ca) [.ref (ad 16), .int p0, .int p1] (w_M ad ca d) sz (fun v : TMd => w_M ad ca v) (fun (r : Int32) (v : TMd) => (r, v) = F) := by
  refine Met.ofW (cc := b_Md_mode) (maxL := 3) (ret := some .int) (by decide) rfl ?_
  intro p e s m args below meth c s₁ B hml hv
  obtain ⟨rfl, hsz, hP, hK, hD0, hN⟩ := hv
  have hx := B.exec
  have hb := B.bytes
  have hr := B.returns
  have hts := atoms_spec (ws := ws_Md_mode) B.pre
  have ht : ∀ w ∈ TB, w.before _ s = true := fun w h => hts w (List.mem_cons_of_mem _ h)
  have hown : s.vm.findClass R_Md = some m.cls := findClass_of_methodNamed B.named
  have hlocks := B.notSynchronized
  subst hsz
  have hD := hD0.self (sz := s.heap.size)
  generalize hAe : va_A (w_M ad ca d) s.heap.size = A at hD ⊢
  have hA : ∀ q : Nat, s.heap.size ≤ q → A q := fun q h => by rw [← hAe]; exact Or.inr h
  have hS : va_S A s.heap s.heap [] := va_S.rf
  have hl := lv_entry ([.ref (ad 16), .int p0, .int p1]) (n := 3) (Nat.le_of_ble_eq_true rfl)
  rw [lg_entry_eq]
  generalize (lg_sl ([.ref (ad 16), .int p0, .int p1]) ++ List.replicate (3 - (lg_sl ([.ref (ad 16), .int p0, .int p1])).length) Slot.unset).toArray = ls at hl ⊢
  have hl : lv_has ls 3 [(0, .ref (ad 16)), (1, .int p0), (2, .int p1)] := hl
  unfold f_Md_mode at he
  refine lv_aload_n hx hb d_Md_mode_0 rfl (lv_at hl 0 rfl) ?_
  refine lv_iconst (v := 0) hx hb d_Md_mode_1 (by decide) ?_
  refine va_put (D := (dC, dI)) (ci := 4) (v := .int 0) (ty := .int) (C := R_Md) (T := T_Md) (N := 23) hx hb ht i_Md ty_Md ty_Md_ok nm_Md hown hK hP hD hS 0 rfl rfl 0 (by decide) (ht _ q_445) (fun _ h9 => h9) rfl (by decide +kernel) rfl rfl (Nat.le_of_ble_eq_true rfl) d_Md_mode_2 (fun H locs hP hD hS => ?_)
  have hP : va_P (dC, dI) vwCl (w_M ad ca (TMd_set_thrown d 0)) H := hP
  have hD : va_D A (w_M ad ca (TMd_set_thrown d 0)) := hD
  refine lv_iload_n hx hb d_Md_mode_5 rfl (lv_at hl 1 rfl) ?_
  refine lv_iconst (v := 0) hx hb d_Md_mode_6 (by decide) ?_
  refine lv_iconst (v := 3) hx hb d_Md_mode_7 (by decide) ?_
  refine wx_ci (wS := fun _ : Unit => w_E ad ca) (ws2 := fun _ : Unit => w_M ad ca (TMd_set_thrown d 0)) (va_runS (As := [.int p0, .int 0, .int 3]) (rest := []) ⟨hx, hb, hml, hown, ht⟩ (c_Md_in l dC dI ad ca H.size p0 0 3 _ rfl) (va_cwS 3 ht (tb_S q_519 q_520 q_47 q_521) rfl rfl rfl p_Md_in.2 ⟨show 0 + 1 ≤ 1 by omega, show 8 + (3 + 11) + 0 ≤ 22 by omega⟩) (wx_preS (wc := (w_E ad ca)) hN hK hP hD [] [] rfl (by decide) rfl) rfl rfl hl.1 rfl (lv_room (Nat.le_of_ble_eq_true rfl)) d_Md_mode_8 ⟨Nat.zero_le _, Nat.zero_le _⟩) hP hD hS hA [] [0, 1, 2, 3, 4, 5, 6, 7, 8, 9, 10, 11] [0, 1, 2, 3, 4, 5, 6, 7, 8, 9, 10, 11] rfl rfl (by decide) (by decide) (by decide) (fun _ => rfl) (fun r_1 _ H locs hw_1 hP hD hS => ?_)
  subst hw_1
  have hP : va_P (dC, dI) vwCl (w_M ad ca (TMd_set_thrown d 0)) H := hP
  have hD : va_D A (w_M ad ca (TMd_set_thrown d 0)) := hD
  refine lv_if_ne (tgt := 17) hx hb d_Md_mode_11 (by decide) (fun c_2 => ?_) (fun c_2 => ?_)
  · have he := he.trans (if_neg c_2)
    refine lv_aload_n hx hb d_Md_mode_17 rfl (lv_at hl 0 rfl) ?_
    refine va_get (D := (dC, dI)) (ci := 4) (v := .ref (ad 21)) (C := R_Md) (T := T_Md) (N := 23) hx hb ht i_Md hown hK hP 0 rfl rfl 6 (by decide) (ht _ q_451) (fun _ h9 => h9) rfl d_Md_mode_18 ?_
    refine lv_iload_n hx hb d_Md_mode_21 rfl (lv_at hl 1 rfl) ?_
    refine lv_iload_n hx hb d_Md_mode_22 rfl (lv_at hl 2 rfl) ?_
    refine va_zast hx hb hK hP hD hS 5 4 rfl rfl (in_vp c_2 (by decide)) d_Md_mode_23 (fun H locs hP hD hS => ?_)
    have hP : va_P (dC, dI) vwCl (w_M ad ca (TMd_set_modes (TMd_set_thrown d 0) (upd (TMd_modes d) p0.toNatClampNeg (vp_nar .boolean p1)))) H := hP
    have hD : va_D A (w_M ad ca (TMd_set_modes (TMd_set_thrown d 0) (upd (TMd_modes d) p0.toNatClampNeg (vp_nar .boolean p1)))) := hD
    refine lv_iconst (v := 1) hx hb d_Md_mode_24 (by decide) ?_
    exact W.iret hx hb hr (v := 1) (fun t ht hW => ⟨⟨1, (TMd_set_modes (TMd_set_thrown d 0) (upd (TMd_modes d) p0.toNatClampNeg (vp_nar .boolean p1))), rfl, he.symm, by rw [ht]; exact hP, va_K.moved hW.alike hK, hD⟩, hS.F ht⟩) hS.2.2 d_Md_mode_25
  · have he := he.trans (if_pos c_2)
    refine lv_bipush (v := (-2)) hx hb d_Md_mode_14 (by decide) ?_
    exact W.iret hx hb hr (v := (-2)) (fun t ht hW => ⟨⟨(-2), (TMd_set_thrown d 0), rfl, he.symm, by rw [ht]; exact hP, va_K.moved hW.alike hK, hD⟩, hS.F ht⟩) hS.2.2 d_Md_mode_16
noncomputable def f_Md_end (d : TMd) (p0 : Int32) (p1 : Int32) : (Int32 × TMd) := (if (f_Md_in p0 0 7) = 0 then ((-2), (TMd_set_thrown d 0)) else (1, (TMd_set_ends (TMd_set_thrown d 0) (upd (TMd_ends d) p0.toNatClampNeg (vp_nar .boolean p1)))))
set_option maxHeartbeats 4000000 in
set_option maxRecDepth 100000 in
theorem c_Md_end (l : Launch) (dC : Nat → ClassId) (dI : Nat → Nat → Nat) (ad : Nat → Nat) (ca : Nat → ClassId) (sz : Nat) (d : TMd) (p0 : Int32) (p1 : Int32) (F : (Int32 × TMd)) (he : F = f_Md_end d p0 p1) : wx_Mi l y_Md_end ws_Md_end ({ frames := 1, cells := 0, slots := 0, locals := 22 } : Room) (dC, dI) vwCl (t_M ca) [.ref (ad 16), .int p0, .int p1] (w_M ad ca d) sz (fun v : TMd => w_M ad ca v) (fun (r : Int32) (v : TMd) => (r, v) = F) := by
  refine Met.ofW (cc := b_Md_end) (maxL := 3) (ret := some .int) (by decide) rfl ?_
  intro p e s m args below meth c s₁ B hml hv
  obtain ⟨rfl, hsz, hP, hK, hD0, hN⟩ := hv
  have hx := B.exec
  have hb := B.bytes
  have hr := B.returns
  have hts := atoms_spec (ws := ws_Md_end) B.pre
  have ht : ∀ w ∈ TB, w.before _ s = true := fun w h => hts w (List.mem_cons_of_mem _ h)
  have hown : s.vm.findClass R_Md = some m.cls := findClass_of_methodNamed B.named
  have hlocks := B.notSynchronized
  subst hsz
  have hD := hD0.self (sz := s.heap.size)
  generalize hAe : va_A (w_M ad ca d) s.heap.size = A at hD ⊢
  have hA : ∀ q : Nat, s.heap.size ≤ q → A q := fun q h => by rw [← hAe]; exact Or.inr h
  have hS : va_S A s.heap s.heap [] := va_S.rf
  have hl := lv_entry ([.ref (ad 16), .int p0, .int p1]) (n := 3) (Nat.le_of_ble_eq_true rfl)
  rw [lg_entry_eq]
  generalize (lg_sl ([.ref (ad 16), .int p0, .int p1]) ++ List.replicate (3 - (lg_sl ([.ref (ad 16), .int p0, .int p1])).length) Slot.unset).toArray = ls at hl ⊢
  have hl : lv_has ls 3 [(0, .ref (ad 16)), (1, .int p0), (2, .int p1)] := hl
  unfold f_Md_end at he
  refine lv_aload_n hx hb d_Md_end_0 rfl (lv_at hl 0 rfl) ?_
  refine lv_iconst (v := 0) hx hb d_Md_end_1 (by decide) ?_
  refine va_put (D := (dC, dI)) (ci := 4) (v := .int 0) (ty := .int) (C := R_Md) (T := T_Md) (N := 23) hx hb ht i_Md ty_Md ty_Md_ok nm_Md hown hK hP hD hS 0 rfl rfl 0 (by decide) (ht _ q_445) (fun _ h9 => h9) rfl (by decide +kernel) rfl rfl (Nat.le_of_ble_eq_true rfl) d_Md_end_2 (fun H locs hP hD hS => ?_)
  have hP : va_P (dC, dI) vwCl (w_M ad ca (TMd_set_thrown d 0)) H := hP
  have hD : va_D A (w_M ad ca (TMd_set_thrown d 0)) := hD
  refine lv_iload_n hx hb d_Md_end_5 rfl (lv_at hl 1 rfl) ?_
  refine lv_iconst (v := 0) hx hb d_Md_end_6 (by decide) ?_
  refine lv_bipush (v := 7) hx hb d_Md_end_7 (by decide) ?_
  refine wx_ci (wS := fun _ : Unit => w_E ad ca) (ws2 := fun _ : Unit => w_M ad ca (TMd_set_thrown d 0)) (va_runS (As := [.int p0, .int 0, .int 7]) (rest := []) ⟨hx, hb, hml, hown, ht⟩ (c_Md_in l dC dI ad ca H.size p0 0 7 _ rfl) (va_cwS 3 ht (tb_S q_519 q_520 q_47 q_521) rfl rfl rfl p_Md_in.2 ⟨show 0 + 1 ≤ 1 by omega, show 8 + (3 + 11) + 0 ≤ 22 by omega⟩) (wx_preS (wc := (w_E ad ca)) hN hK hP hD [] [] rfl (by decide) rfl) rfl rfl hl.1 rfl (lv_room (Nat.le_of_ble_eq_true rfl)) d_Md_end_9 ⟨Nat.zero_le _, Nat.zero_le _⟩) hP hD hS hA [] [0, 1, 2, 3, 4, 5, 6, 7, 8, 9, 10, 11] [0, 1, 2, 3, 4, 5, 6, 7, 8, 9, 10, 11] rfl rfl (by decide) (by decide) (by decide) (fun _ => rfl) (fun r_1 _ H locs hw_1 hP hD hS => ?_)
  subst hw_1
  have hP : va_P (dC, dI) vwCl (w_M ad ca (TMd_set_thrown d 0)) H := hP
  have hD : va_D A (w_M ad ca (TMd_set_thrown d 0)) := hD
  refine lv_if_ne (tgt := 18) hx hb d_Md_end_12 (by decide) (fun c_2 => ?_) (fun c_2 => ?_)
  · have he := he.trans (if_neg c_2)
    refine lv_aload_n hx hb d_Md_end_18 rfl (lv_at hl 0 rfl) ?_
    refine va_get (D := (dC, dI)) (ci := 4) (v := .ref (ad 22)) (C := R_Md) (T := T_Md) (N := 23) hx hb ht i_Md hown hK hP 0 rfl rfl 7 (by decide) (ht _ q_452) (fun _ h9 => h9) rfl d_Md_end_19 ?_
    refine lv_iload_n hx hb d_Md_end_22 rfl (lv_at hl 1 rfl) ?_
    refine lv_iload_n hx hb d_Md_end_23 rfl (lv_at hl 2 rfl) ?_
    refine va_zast hx hb hK hP hD hS 6 5 rfl rfl (in_vp c_2 (by decide)) d_Md_end_24 (fun H locs hP hD hS => ?_)
    have hP : va_P (dC, dI) vwCl (w_M ad ca (TMd_set_ends (TMd_set_thrown d 0) (upd (TMd_ends d) p0.toNatClampNeg (vp_nar .boolean p1)))) H := hP
    have hD : va_D A (w_M ad ca (TMd_set_ends (TMd_set_thrown d 0) (upd (TMd_ends d) p0.toNatClampNeg (vp_nar .boolean p1)))) := hD
    refine lv_iconst (v := 1) hx hb d_Md_end_25 (by decide) ?_
    exact W.iret hx hb hr (v := 1) (fun t ht hW => ⟨⟨1, (TMd_set_ends (TMd_set_thrown d 0) (upd (TMd_ends d) p0.toNatClampNeg (vp_nar .boolean p1))), rfl, he.symm, by rw [ht]; exact hP, va_K.moved hW.alike hK, hD⟩, hS.F ht⟩) hS.2.2 d_Md_end_26
  · have he := he.trans (if_pos c_2)
    refine lv_bipush (v := (-2)) hx hb d_Md_end_15 (by decide) ?_
    exact W.iret hx hb hr (v := (-2)) (fun t ht hW => ⟨⟨(-2), (TMd_set_thrown d 0), rfl, he.symm, by rw [ht]; exact hP, va_K.moved hW.alike hK, hD⟩, hS.F ht⟩) hS.2.2 d_Md_end_17
noncomputable def f_Md_told (d : TMd) (p0 : Int32) : (Int32 × TMd) := (if p0 = 0 then ((TMd_steps d), (TMd_set_thrown d 0)) else (if p0 = 1 then ((TMd_outSize d), (TMd_set_thrown d 0)) else (if p0 = 2 then ((TMd_opened d), (TMd_set_thrown d 0)) else (if p0 = 3 then ((TMd_most d), (TMd_set_thrown d 0)) else (if p0 = 4 then ((TMd_skipped d), (TMd_set_thrown d 0)) else (if p0 = 5 then ((TMd_open d), (TMd_set_thrown d 0)) else (if p0 = 6 then ((TMd_fault d), (TMd_set_thrown d 0)) else ((-2), (TMd_set_thrown d 0)))))))))
set_option maxHeartbeats 4000000 in
set_option maxRecDepth 100000 in
theorem c_Md_told (l : Launch) (dC : Nat → ClassId) (dI : Nat → Nat → Nat) (ad : Nat → Nat) (ca : Nat → ClassId) (sz : Nat) (d : TMd) (p0 : Int32) (F : (Int32 × TMd)) (he : F = f_Md_told d p0) : wx_Mi l y_Md_told ws_Md_told ({ frames := 0, cells := 0, slots := 0, locals := 0 } : Room) (dC, dI) vwCl (t_M ca) [.ref (ad 16), .int p0] (w_M ad ca d) sz (fun v : TMd => w_M ad ca v) (fun (r : Int32) (v : TMd) => (r, v) = F) := by
  refine Met.ofW (cc := b_Md_told) (maxL := 2) (ret := some .int) (by decide) rfl ?_
  intro p e s m args below meth c s₁ B hml hv
  obtain ⟨rfl, hsz, hP, hK, hD0, hN⟩ := hv
  have hx := B.exec
  have hb := B.bytes
  have hr := B.returns
  have hts := atoms_spec (ws := ws_Md_told) B.pre
  have ht : ∀ w ∈ TB, w.before _ s = true := fun w h => hts w (List.mem_cons_of_mem _ h)
  have hown : s.vm.findClass R_Md = some m.cls := findClass_of_methodNamed B.named
  have hlocks := B.notSynchronized
  subst hsz
  have hD := hD0.self (sz := s.heap.size)
  generalize hAe : va_A (w_M ad ca d) s.heap.size = A at hD ⊢
  have hA : ∀ q : Nat, s.heap.size ≤ q → A q := fun q h => by rw [← hAe]; exact Or.inr h
  have hS : va_S A s.heap s.heap [] := va_S.rf
  have hl := lv_entry ([.ref (ad 16), .int p0]) (n := 2) (Nat.le_of_ble_eq_true rfl)
  rw [lg_entry_eq]
  generalize (lg_sl ([.ref (ad 16), .int p0]) ++ List.replicate (2 - (lg_sl ([.ref (ad 16), .int p0])).length) Slot.unset).toArray = ls at hl ⊢
  have hl : lv_has ls 2 [(0, .ref (ad 16)), (1, .int p0)] := hl
  unfold f_Md_told at he
  refine lv_aload_n hx hb d_Md_told_0 rfl (lv_at hl 0 rfl) ?_
  refine lv_iconst (v := 0) hx hb d_Md_told_1 (by decide) ?_
  refine va_put (D := (dC, dI)) (ci := 4) (v := .int 0) (ty := .int) (C := R_Md) (T := T_Md) (N := 23) hx hb ht i_Md ty_Md ty_Md_ok nm_Md hown hK hP hD hS 0 rfl rfl 0 (by decide) (ht _ q_445) (fun _ h9 => h9) rfl (by decide +kernel) rfl rfl (Nat.le_of_ble_eq_true rfl) d_Md_told_2 (fun H locs hP hD hS => ?_)
  have hP : va_P (dC, dI) vwCl (w_M ad ca (TMd_set_thrown d 0)) H := hP
  have hD : va_D A (w_M ad ca (TMd_set_thrown d 0)) := hD
  refine lv_iload_n hx hb d_Md_told_5 rfl (lv_at hl 1 rfl) ?_
  rcases Decidable.em (p0 = 0) with c_1 | c_1
  · have he := he.trans (if_pos c_1)
    refine lv_tableIn (off := 42) (tgt := 48) hx hb d_Md_told_6 (by rw [c_1]; decide) (by rw [c_1]; decide) (by rw [c_1]; rfl) (by decide) ?_
    refine lv_aload_n hx hb d_Md_told_48 rfl (lv_at hl 0 rfl) ?_
    refine va_get (D := (dC, dI)) (ci := 4) (v := .int (TMd_steps d)) (C := R_Md) (T := T_Md) (N := 23) hx hb ht i_Md hown hK hP 0 rfl rfl 12 (by decide) (ht _ q_457) (fun _ h9 => h9) rfl d_Md_told_49 ?_
    exact W.iret hx hb hr (v := (TMd_steps d)) (fun t ht hW => ⟨⟨(TMd_steps d), (TMd_set_thrown d 0), rfl, he.symm, by rw [ht]; exact hP, va_K.moved hW.alike hK, hD⟩, hS.F ht⟩) hS.2.2 d_Md_told_52
  · have he := he.trans (if_neg c_1)
    rcases Decidable.em (p0 = 1) with c_2 | c_2
    · have he := he.trans (if_pos c_2)
      refine lv_tableIn (off := 47) (tgt := 53) hx hb d_Md_told_6 (by rw [c_2]; decide) (by rw [c_2]; decide) (by rw [c_2]; rfl) (by decide) ?_
      refine lv_aload_n hx hb d_Md_told_53 rfl (lv_at hl 0 rfl) ?_
      refine va_get (D := (dC, dI)) (ci := 4) (v := .int (TMd_outSize d)) (C := R_Md) (T := T_Md) (N := 23) hx hb ht i_Md hown hK hP 0 rfl rfl 15 (by decide) (ht _ q_460) (fun _ h9 => h9) rfl d_Md_told_54 ?_
      exact W.iret hx hb hr (v := (TMd_outSize d)) (fun t ht hW => ⟨⟨(TMd_outSize d), (TMd_set_thrown d 0), rfl, he.symm, by rw [ht]; exact hP, va_K.moved hW.alike hK, hD⟩, hS.F ht⟩) hS.2.2 d_Md_told_57
    · have he := he.trans (if_neg c_2)
      rcases Decidable.em (p0 = 2) with c_3 | c_3
      · have he := he.trans (if_pos c_3)
        refine lv_tableIn (off := 52) (tgt := 58) hx hb d_Md_told_6 (by rw [c_3]; decide) (by rw [c_3]; decide) (by rw [c_3]; rfl) (by decide) ?_
        refine lv_aload_n hx hb d_Md_told_58 rfl (lv_at hl 0 rfl) ?_
        refine va_get (D := (dC, dI)) (ci := 4) (v := .int (TMd_opened d)) (C := R_Md) (T := T_Md) (N := 23) hx hb ht i_Md hown hK hP 0 rfl rfl 16 (by decide) (ht _ q_461) (fun _ h9 => h9) rfl d_Md_told_59 ?_
        exact W.iret hx hb hr (v := (TMd_opened d)) (fun t ht hW => ⟨⟨(TMd_opened d), (TMd_set_thrown d 0), rfl, he.symm, by rw [ht]; exact hP, va_K.moved hW.alike hK, hD⟩, hS.F ht⟩) hS.2.2 d_Md_told_62
      · have he := he.trans (if_neg c_3)
        rcases Decidable.em (p0 = 3) with c_4 | c_4
        · have he := he.trans (if_pos c_4)
          refine lv_tableIn (off := 57) (tgt := 63) hx hb d_Md_told_6 (by rw [c_4]; decide) (by rw [c_4]; decide) (by rw [c_4]; rfl) (by decide) ?_
          refine lv_aload_n hx hb d_Md_told_63 rfl (lv_at hl 0 rfl) ?_
          refine va_get (D := (dC, dI)) (ci := 4) (v := .int (TMd_most d)) (C := R_Md) (T := T_Md) (N := 23) hx hb ht i_Md hown hK hP 0 rfl rfl 17 (by decide) (ht _ q_462) (fun _ h9 => h9) rfl d_Md_told_64 ?_
          exact W.iret hx hb hr (v := (TMd_most d)) (fun t ht hW => ⟨⟨(TMd_most d), (TMd_set_thrown d 0), rfl, he.symm, by rw [ht]; exact hP, va_K.moved hW.alike hK, hD⟩, hS.F ht⟩) hS.2.2 d_Md_told_67
        · have he := he.trans (if_neg c_4)
          rcases Decidable.em (p0 = 4) with c_5 | c_5
          · have he := he.trans (if_pos c_5)
            refine lv_tableIn (off := 62) (tgt := 68) hx hb d_Md_told_6 (by rw [c_5]; decide) (by rw [c_5]; decide) (by rw [c_5]; rfl) (by decide) ?_
            refine lv_aload_n hx hb d_Md_told_68 rfl (lv_at hl 0 rfl) ?_
            refine va_get (D := (dC, dI)) (ci := 4) (v := .int (TMd_skipped d)) (C := R_Md) (T := T_Md) (N := 23) hx hb ht i_Md hown hK hP 0 rfl rfl 18 (by decide) (ht _ q_463) (fun _ h9 => h9) rfl d_Md_told_69 ?_
            exact W.iret hx hb hr (v := (TMd_skipped d)) (fun t ht hW => ⟨⟨(TMd_skipped d), (TMd_set_thrown d 0), rfl, he.symm, by rw [ht]; exact hP, va_K.moved hW.alike hK, hD⟩, hS.F ht⟩) hS.2.2 d_Md_told_72
          · have he := he.trans (if_neg c_5)
            rcases Decidable.em (p0 = 5) with c_6 | c_6
            · have he := he.trans (if_pos c_6)
              refine lv_tableIn (off := 67) (tgt := 73) hx hb d_Md_told_6 (by rw [c_6]; decide) (by rw [c_6]; decide) (by rw [c_6]; rfl) (by decide) ?_
              refine lv_aload_n hx hb d_Md_told_73 rfl (lv_at hl 0 rfl) ?_
              refine va_get (D := (dC, dI)) (ci := 4) (v := .int (TMd_open d)) (C := R_Md) (T := T_Md) (N := 23) hx hb ht i_Md hown hK hP 0 rfl rfl 21 (by decide) (ht _ q_466) (fun _ h9 => h9) rfl d_Md_told_74 ?_
              exact W.iret hx hb hr (v := (TMd_open d)) (fun t ht hW => ⟨⟨(TMd_open d), (TMd_set_thrown d 0), rfl, he.symm, by rw [ht]; exact hP, va_K.moved hW.alike hK, hD⟩, hS.F ht⟩) hS.2.2 d_Md_told_77
            · have he := he.trans (if_neg c_6)
              rcases Decidable.em (p0 = 6) with c_7 | c_7
              · have he := he.trans (if_pos c_7)
                refine lv_tableIn (off := 72) (tgt := 78) hx hb d_Md_told_6 (by rw [c_7]; decide) (by rw [c_7]; decide) (by rw [c_7]; rfl) (by decide) ?_
                refine lv_aload_n hx hb d_Md_told_78 rfl (lv_at hl 0 rfl) ?_
                refine va_get (D := (dC, dI)) (ci := 4) (v := .int (TMd_fault d)) (C := R_Md) (T := T_Md) (N := 23) hx hb ht i_Md hown hK hP 0 rfl rfl 13 (by decide) (ht _ q_458) (fun _ h9 => h9) rfl d_Md_told_79 ?_
                exact W.iret hx hb hr (v := (TMd_fault d)) (fun t ht hW => ⟨⟨(TMd_fault d), (TMd_set_thrown d 0), rfl, he.symm, by rw [ht]; exact hP, va_K.moved hW.alike hK, hD⟩, hS.F ht⟩) hS.2.2 d_Md_told_82
              · have he := he.trans (if_neg c_7)
                have ec_1 := lv_neT (a := 0) c_1 (by decide)
                have ec_2 := lv_neT (a := 1) c_2 (by decide)
                have ec_3 := lv_neT (a := 2) c_3 (by decide)
                have ec_4 := lv_neT (a := 3) c_4 (by decide)
                have ec_5 := lv_neT (a := 4) c_5 (by decide)
                have ec_6 := lv_neT (a := 5) c_6 (by decide)
                have ec_7 := lv_neT (a := 6) c_7 (by decide)
                refine lv_tableOut (tgt := 83) hx hb d_Md_told_6 (by omega) (by decide) ?_
                refine lv_bipush (v := (-2)) hx hb d_Md_told_83 (by decide) ?_
                exact W.iret hx hb hr (v := (-2)) (fun t ht hW => ⟨⟨(-2), (TMd_set_thrown d 0), rfl, he.symm, by rw [ht]; exact hP, va_K.moved hW.alike hK, hD⟩, hS.F ht⟩) hS.2.2 d_Md_told_85
noncomputable def f_Md_decided (d : TMd) (p0 : Int32) : (Int32 × TMd) := (if (TMd_hasRun d) = 0 then ((-5), (TMd_set_thrown d 0)) else (if (f_Md_in p0 0 99) = 0 then ((-5), (TMd_set_thrown d 0)) else (((TMd_decided d) p0.toNatClampNeg), (TMd_set_thrown d 0))))
set_option maxHeartbeats 4000000 in
set_option maxRecDepth 100000 in
theorem c_Md_decided (l : Launch) (dC : Nat → ClassId) (dI : Nat → Nat → Nat) (ad : Nat → Nat) (ca : Nat → ClassId) (sz : Nat) (d : TMd) (p0 : Int32) (F : (Int32 × TMd)) (he : F = f_Md_decided d p0) : wx_Mi l y_Md_decided ws_Md_decided ({ frames := 1, cells := 0, slots := 0, locals := 22 } : Room) (dC, dI) vwCl (t_M ca) [.ref (ad 16), .int p0] (w_M ad ca d) sz (fun v : TMd => w_M ad ca v) (fun (r : Int32) (v : TMd) => (r, v) = F) := by
  refine Met.ofW (cc := b_Md_decided) (maxL := 2) (ret := some .int) (by decide) rfl ?_
  intro p e s m args below meth c s₁ B hml hv
  obtain ⟨rfl, hsz, hP, hK, hD0, hN⟩ := hv
  have hx := B.exec
  have hb := B.bytes
  have hr := B.returns
  have hts := atoms_spec (ws := ws_Md_decided) B.pre
  have ht : ∀ w ∈ TB, w.before _ s = true := fun w h => hts w (List.mem_cons_of_mem _ h)
  have hown : s.vm.findClass R_Md = some m.cls := findClass_of_methodNamed B.named
  have hlocks := B.notSynchronized
  subst hsz
  have hD := hD0.self (sz := s.heap.size)
  generalize hAe : va_A (w_M ad ca d) s.heap.size = A at hD ⊢
  have hA : ∀ q : Nat, s.heap.size ≤ q → A q := fun q h => by rw [← hAe]; exact Or.inr h
  have hS : va_S A s.heap s.heap [] := va_S.rf
  have hl := lv_entry ([.ref (ad 16), .int p0]) (n := 2) (Nat.le_of_ble_eq_true rfl)
  rw [lg_entry_eq]
  generalize (lg_sl ([.ref (ad 16), .int p0]) ++ List.replicate (2 - (lg_sl ([.ref (ad 16), .int p0])).length) Slot.unset).toArray = ls at hl ⊢
  have hl : lv_has ls 2 [(0, .ref (ad 16)), (1, .int p0)] := hl
  unfold f_Md_decided at he
  refine lv_aload_n hx hb d_Md_decided_0 rfl (lv_at hl 0 rfl) ?_
  refine lv_iconst (v := 0) hx hb d_Md_decided_1 (by decide) ?_
  refine va_put (D := (dC, dI)) (ci := 4) (v := .int 0) (ty := .int) (C := R_Md) (T := T_Md) (N := 23) hx hb ht i_Md ty_Md ty_Md_ok nm_Md hown hK hP hD hS 0 rfl rfl 0 (by decide) (ht _ q_445) (fun _ h9 => h9) rfl (by decide +kernel) rfl rfl (Nat.le_of_ble_eq_true rfl) d_Md_decided_2 (fun H locs hP hD hS => ?_)
  have hP : va_P (dC, dI) vwCl (w_M ad ca (TMd_set_thrown d 0)) H := hP
  have hD : va_D A (w_M ad ca (TMd_set_thrown d 0)) := hD
  refine lv_aload_n hx hb d_Md_decided_5 rfl (lv_at hl 0 rfl) ?_
  refine va_get (D := (dC, dI)) (ci := 4) (v := .int (TMd_hasRun d)) (C := R_Md) (T := T_Md) (N := 23) hx hb ht i_Md hown hK hP 0 rfl rfl 22 (by decide) (ht _ q_467) (fun _ h9 => h9) rfl d_Md_decided_6 ?_
  refine lv_if_eq (tgt := 31) hx hb d_Md_decided_9 (by decide) (fun c_1 => ?_) (fun c_1 => ?_)
  · have he := he.trans (if_pos c_1)
    refine lv_bipush (v := (-5)) hx hb d_Md_decided_31 (by decide) ?_
    exact W.iret hx hb hr (v := (-5)) (fun t ht hW => ⟨⟨(-5), (TMd_set_thrown d 0), rfl, he.symm, by rw [ht]; exact hP, va_K.moved hW.alike hK, hD⟩, hS.F ht⟩) hS.2.2 d_Md_decided_33
  · have he := he.trans (if_neg c_1)
    refine lv_iload_n hx hb d_Md_decided_12 rfl (lv_at hl 1 rfl) ?_
    refine lv_iconst (v := 0) hx hb d_Md_decided_13 (by decide) ?_
    refine lv_bipush (v := 99) hx hb d_Md_decided_14 (by decide) ?_
    refine wx_ci (wS := fun _ : Unit => w_E ad ca) (ws2 := fun _ : Unit => w_M ad ca (TMd_set_thrown d 0)) (va_runS (As := [.int p0, .int 0, .int 99]) (rest := []) ⟨hx, hb, hml, hown, ht⟩ (c_Md_in l dC dI ad ca H.size p0 0 99 _ rfl) (va_cwS 3 ht (tb_S q_519 q_520 q_47 q_521) rfl rfl rfl p_Md_in.2 ⟨show 0 + 1 ≤ 1 by omega, show 8 + (3 + 11) + 0 ≤ 22 by omega⟩) (wx_preS (wc := (w_E ad ca)) hN hK hP hD [] [] rfl (by decide) rfl) rfl rfl hl.1 rfl (lv_room (Nat.le_of_ble_eq_true rfl)) d_Md_decided_16 ⟨Nat.zero_le _, Nat.zero_le _⟩) hP hD hS hA [] [0, 1, 2, 3, 4, 5, 6, 7, 8, 9, 10, 11] [0, 1, 2, 3, 4, 5, 6, 7, 8, 9, 10, 11] rfl rfl (by decide) (by decide) (by decide) (fun _ => rfl) (fun r_2 _ H locs hw_2 hP hD hS => ?_)
    subst hw_2
    have hP : va_P (dC, dI) vwCl (w_M ad ca (TMd_set_thrown d 0)) H := hP
    have hD : va_D A (w_M ad ca (TMd_set_thrown d 0)) := hD
    refine lv_if_eq (tgt := 31) hx hb d_Md_decided_19 (by decide) (fun c_3 => ?_) (fun c_3 => ?_)
    · have he := he.trans (if_pos c_3)
      refine lv_bipush (v := (-5)) hx hb d_Md_decided_31 (by decide) ?_
      exact W.iret hx hb hr (v := (-5)) (fun t ht hW => ⟨⟨(-5), (TMd_set_thrown d 0), rfl, he.symm, by rw [ht]; exact hP, va_K.moved hW.alike hK, hD⟩, hS.F ht⟩) hS.2.2 d_Md_decided_33
    · have he := he.trans (if_neg c_3)
      refine lv_aload_n hx hb d_Md_decided_22 rfl (lv_at hl 0 rfl) ?_
      refine va_get (D := (dC, dI)) (ci := 4) (v := .ref (ad 26)) (C := R_Md) (T := T_Md) (N := 23) hx hb ht i_Md hown hK hP 0 rfl rfl 19 (by decide) (ht _ q_464) (fun _ h9 => h9) rfl d_Md_decided_23 ?_
      refine lv_iload_n hx hb d_Md_decided_26 rfl (lv_at hl 1 rfl) ?_
      refine va_iald hx hb hK hP 10 9 rfl rfl (in_vp c_3 (by decide)) d_Md_decided_27 ?_
      refine lv_goto (tgt := 33) hx hb d_Md_decided_28 (by decide) ?_
      exact W.iret hx hb hr (v := ((TMd_decided d) p0.toNatClampNeg)) (fun t ht hW => ⟨⟨((TMd_decided d) p0.toNatClampNeg), (TMd_set_thrown d 0), rfl, he.symm, by rw [ht]; exact hP, va_K.moved hW.alike hK, hD⟩, hS.F ht⟩) hS.2.2 d_Md_decided_33
