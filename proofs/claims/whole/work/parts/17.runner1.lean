theorem q_1 : Cond.selects R_Rn y_Rn_fail y_Rn_fail ∈ TB := tq 1 (by decide +kernel) rfl
theorem q_44 : Cond.initialized R_Rn ∈ TB := tq 44 (by decide +kernel) rfl
theorem q_46 : Cond.initialized R_Ar ∈ TB := tq 46 (by decide +kernel) rfl
theorem q_127 : Cond.methodLink R_Rn 82 y_Ar_fill ∈ TB := tq 127 (by decide +kernel) rfl
theorem q_128 : Cond.static y_Ar_fill ∈ TB := tq 128 (by decide +kernel) rfl
theorem q_129 : Cond.code y_Ar_fill b_Ar_fill 4 (none : Option Jvm.ClassFile.FieldType) ∈ TB := tq 129 (by decide +kernel) rfl
theorem q_130 : Cond.fieldLink R_Rn 25 "ConditionText$Runner" "book" "LConditionText$Book;" ∈ TB := tq 130 (by decide +kernel) rfl
theorem q_131 : Cond.fieldLink R_Rn 34 "ConditionText$Runner" "reader" "LConditionText$Reader;" ∈ TB := tq 131 (by decide +kernel) rfl
theorem q_132 : Cond.fieldLink R_Rn 9 "ConditionText$Runner" "out" "[I" ∈ TB := tq 132 (by decide +kernel) rfl
theorem q_133 : Cond.fieldLink R_Rn 15 "ConditionText$Runner" "decisions" "[I" ∈ TB := tq 133 (by decide +kernel) rfl
theorem q_134 : Cond.fieldLink R_Rn 18 "ConditionText$Runner" "isCase" "[Z" ∈ TB := tq 134 (by decide +kernel) rfl
theorem q_135 : Cond.fieldLink R_Rn 22 "ConditionText$Runner" "hadElse" "[Z" ∈ TB := tq 135 (by decide +kernel) rfl
theorem q_136 : Cond.fieldLink R_Rn 67 "ConditionText$Runner" "outSize" "I" ∈ TB := tq 136 (by decide +kernel) rfl
theorem q_137 : Cond.fieldLink R_Rn 64 "ConditionText$Runner" "openCount" "I" ∈ TB := tq 137 (by decide +kernel) rfl
theorem q_138 : Cond.fieldLink R_Rn 73 "ConditionText$Runner" "opened" "I" ∈ TB := tq 138 (by decide +kernel) rfl
theorem q_139 : Cond.fieldLink R_Rn 76 "ConditionText$Runner" "mostOpen" "I" ∈ TB := tq 139 (by decide +kernel) rfl
theorem q_140 : Cond.fieldLink R_Rn 79 "ConditionText$Runner" "skipped" "I" ∈ TB := tq 140 (by decide +kernel) rfl
theorem q_141 : Cond.fieldLink R_Rn 45 "ConditionText$Runner" "fault" "I" ∈ TB := tq 141 (by decide +kernel) rfl
theorem q_256 : Cond.methodLink R_Rn 49 y_Rd_look ∈ TB := tq 256 (by decide +kernel) rfl
theorem q_257 : Cond.instanceMethod y_Rd_look ∈ TB := tq 257 (by decide +kernel) rfl
theorem q_258 : Cond.selects R_Rd y_Rd_look y_Rd_look ∈ TB := tq 258 (by decide +kernel) rfl
theorem q_259 : Cond.code y_Rd_look b_Rd_look 2 (some .int) ∈ TB := tq 259 (by decide +kernel) rfl
theorem q_265 : Cond.methodLink R_Rn 53 y_Rn_fail ∈ TB := tq 265 (by decide +kernel) rfl
theorem q_267 : Cond.instanceMethod y_Rn_fail ∈ TB := tq 267 (by decide +kernel) rfl
theorem q_268 : Cond.code y_Rn_fail b_Rn_fail 2 (none : Option Jvm.ClassFile.FieldType) ∈ TB := tq 268 (by decide +kernel) rfl
theorem q_273 : Cond.methodLink R_Rn 88 y_Bk_kindOf ∈ TB := tq 273 (by decide +kernel) rfl
theorem q_314 : Cond.static y_Ct_isMark ∈ TB := tq 314 (by decide +kernel) rfl
theorem q_315 : Cond.code y_Ct_isMark b_Ct_isMark 1 (some .boolean) ∈ TB := tq 315 (by decide +kernel) rfl
theorem d_Ar_fill_0 : decode b_Ar_fill 0 = .ok (.iconst 0, 1) := by decide +kernel
theorem d_Ar_fill_1 : decode b_Ar_fill 1 = .ok (.istore_n 2, 1) := by decide +kernel
theorem d_Ar_fill_2 : decode b_Ar_fill 2 = .ok (.aload_n 0, 1) := by decide +kernel
theorem d_Ar_fill_3 : decode b_Ar_fill 3 = .ok (.arraylength, 1) := by decide +kernel
theorem d_Ar_fill_4 : decode b_Ar_fill 4 = .ok (.istore_n 3, 1) := by decide +kernel
theorem d_Ar_fill_5 : decode b_Ar_fill 5 = .ok (.iload_n 2, 1) := by decide +kernel
theorem d_Ar_fill_6 : decode b_Ar_fill 6 = .ok (.iload_n 3, 1) := by decide +kernel
theorem d_Ar_fill_7 : decode b_Ar_fill 7 = .ok (.if_icmp .ge 13, 3) := by decide +kernel
theorem d_Ar_fill_10 : decode b_Ar_fill 10 = .ok (.aload_n 0, 1) := by decide +kernel
theorem d_Ar_fill_11 : decode b_Ar_fill 11 = .ok (.iload_n 2, 1) := by decide +kernel
theorem d_Ar_fill_12 : decode b_Ar_fill 12 = .ok (.iload_n 1, 1) := by decide +kernel
theorem d_Ar_fill_13 : decode b_Ar_fill 13 = .ok (.iastore, 1) := by decide +kernel
theorem d_Ar_fill_14 : decode b_Ar_fill 14 = .ok (.iinc 2 1, 3) := by decide +kernel
theorem d_Ar_fill_17 : decode b_Ar_fill 17 = .ok (.goto (-12), 3) := by decide +kernel
theorem d_Ar_fill_20 : decode b_Ar_fill 20 = .ok (.return_, 1) := by decide +kernel
theorem d_Rn_fail_0 : decode b_Rn_fail 0 = .ok (.aload_n 0, 1) := by decide +kernel
theorem d_Rn_fail_1 : decode b_Rn_fail 1 = .ok (.getfield 45, 3) := by decide +kernel
theorem d_Rn_fail_4 : decode b_Rn_fail 4 = .ok (.ifCond .ne 8, 3) := by decide +kernel
theorem d_Rn_fail_7 : decode b_Rn_fail 7 = .ok (.aload_n 0, 1) := by decide +kernel
theorem d_Rn_fail_8 : decode b_Rn_fail 8 = .ok (.iload_n 1, 1) := by decide +kernel
theorem d_Rn_fail_9 : decode b_Rn_fail 9 = .ok (.putfield 45, 3) := by decide +kernel
theorem d_Rn_fail_12 : decode b_Rn_fail 12 = .ok (.return_, 1) := by decide +kernel
theorem d_Rn_forget_0 : decode b_Rn_forget 0 = .ok (.aload_n 0, 1) := by decide +kernel
theorem d_Rn_forget_1 : decode b_Rn_forget 1 = .ok (.getfield 15, 3) := by decide +kernel
theorem d_Rn_forget_4 : decode b_Rn_forget 4 = .ok (.bipush (-5), 2) := by decide +kernel
theorem d_Rn_forget_6 : decode b_Rn_forget 6 = .ok (.invokestatic 82, 3) := by decide +kernel
theorem d_Rn_forget_9 : decode b_Rn_forget 9 = .ok (.aload_n 0, 1) := by decide +kernel
theorem d_Rn_forget_10 : decode b_Rn_forget 10 = .ok (.iconst 0, 1) := by decide +kernel
theorem d_Rn_forget_11 : decode b_Rn_forget 11 = .ok (.putfield 67, 3) := by decide +kernel
theorem d_Rn_forget_14 : decode b_Rn_forget 14 = .ok (.aload_n 0, 1) := by decide +kernel
theorem d_Rn_forget_15 : decode b_Rn_forget 15 = .ok (.iconst 0, 1) := by decide +kernel
theorem d_Rn_forget_16 : decode b_Rn_forget 16 = .ok (.putfield 64, 3) := by decide +kernel
theorem d_Rn_forget_19 : decode b_Rn_forget 19 = .ok (.aload_n 0, 1) := by decide +kernel
theorem d_Rn_forget_20 : decode b_Rn_forget 20 = .ok (.iconst 0, 1) := by decide +kernel
theorem d_Rn_forget_21 : decode b_Rn_forget 21 = .ok (.putfield 73, 3) := by decide +kernel
theorem d_Rn_forget_24 : decode b_Rn_forget 24 = .ok (.aload_n 0, 1) := by decide +kernel
theorem d_Rn_forget_25 : decode b_Rn_forget 25 = .ok (.iconst 0, 1) := by decide +kernel
theorem d_Rn_forget_26 : decode b_Rn_forget 26 = .ok (.putfield 76, 3) := by decide +kernel
theorem d_Rn_forget_29 : decode b_Rn_forget 29 = .ok (.aload_n 0, 1) := by decide +kernel
theorem d_Rn_forget_30 : decode b_Rn_forget 30 = .ok (.iconst 0, 1) := by decide +kernel
theorem d_Rn_forget_31 : decode b_Rn_forget 31 = .ok (.putfield 79, 3) := by decide +kernel
theorem d_Rn_forget_34 : decode b_Rn_forget 34 = .ok (.aload_n 0, 1) := by decide +kernel
theorem d_Rn_forget_35 : decode b_Rn_forget 35 = .ok (.iconst 0, 1) := by decide +kernel
theorem d_Rn_forget_36 : decode b_Rn_forget 36 = .ok (.putfield 45, 3) := by decide +kernel
theorem d_Rn_forget_39 : decode b_Rn_forget 39 = .ok (.return_, 1) := by decide +kernel
theorem d_Rn_putOut_0 : decode b_Rn_putOut 0 = .ok (.aload_n 0, 1) := by decide +kernel
theorem d_Rn_putOut_1 : decode b_Rn_putOut 1 = .ok (.getfield 25, 3) := by decide +kernel
theorem d_Rn_putOut_4 : decode b_Rn_putOut 4 = .ok (.iload_n 1, 1) := by decide +kernel
theorem d_Rn_putOut_5 : decode b_Rn_putOut 5 = .ok (.invokevirtual 88, 3) := by decide +kernel
theorem d_Rn_putOut_8 : decode b_Rn_putOut 8 = .ok (.invokestatic 94, 3) := by decide +kernel
theorem d_Rn_putOut_11 : decode b_Rn_putOut 11 = .ok (.ifCond .eq 11, 3) := by decide +kernel
theorem d_Rn_putOut_14 : decode b_Rn_putOut 14 = .ok (.aload_n 0, 1) := by decide +kernel
theorem d_Rn_putOut_15 : decode b_Rn_putOut 15 = .ok (.iconst 2, 1) := by decide +kernel
theorem d_Rn_putOut_16 : decode b_Rn_putOut 16 = .ok (.invokevirtual 53, 3) := by decide +kernel
theorem d_Rn_putOut_19 : decode b_Rn_putOut 19 = .ok (.goto 51, 3) := by decide +kernel
theorem d_Rn_putOut_22 : decode b_Rn_putOut 22 = .ok (.aload_n 0, 1) := by decide +kernel
theorem d_Rn_putOut_23 : decode b_Rn_putOut 23 = .ok (.getfield 67, 3) := by decide +kernel
theorem d_Rn_putOut_26 : decode b_Rn_putOut 26 = .ok (.ifCond .lt 15, 3) := by decide +kernel
theorem d_Rn_putOut_29 : decode b_Rn_putOut 29 = .ok (.aload_n 0, 1) := by decide +kernel
theorem d_Rn_putOut_30 : decode b_Rn_putOut 30 = .ok (.getfield 67, 3) := by decide +kernel
theorem d_Rn_putOut_33 : decode b_Rn_putOut 33 = .ok (.aload_n 0, 1) := by decide +kernel
theorem d_Rn_putOut_34 : decode b_Rn_putOut 34 = .ok (.getfield 9, 3) := by decide +kernel
theorem d_Rn_putOut_37 : decode b_Rn_putOut 37 = .ok (.arraylength, 1) := by decide +kernel
theorem d_Rn_putOut_38 : decode b_Rn_putOut 38 = .ok (.if_icmp .lt 12, 3) := by decide +kernel
theorem d_Rn_putOut_41 : decode b_Rn_putOut 41 = .ok (.aload_n 0, 1) := by decide +kernel
theorem d_Rn_putOut_42 : decode b_Rn_putOut 42 = .ok (.bipush 9, 2) := by decide +kernel
theorem d_Rn_putOut_44 : decode b_Rn_putOut 44 = .ok (.invokevirtual 53, 3) := by decide +kernel
theorem d_Rn_putOut_47 : decode b_Rn_putOut 47 = .ok (.goto 23, 3) := by decide +kernel
theorem d_Rn_putOut_50 : decode b_Rn_putOut 50 = .ok (.aload_n 0, 1) := by decide +kernel
theorem d_Rn_putOut_51 : decode b_Rn_putOut 51 = .ok (.getfield 9, 3) := by decide +kernel
theorem d_Rn_putOut_54 : decode b_Rn_putOut 54 = .ok (.aload_n 0, 1) := by decide +kernel
theorem d_Rn_putOut_55 : decode b_Rn_putOut 55 = .ok (.getfield 67, 3) := by decide +kernel
theorem d_Rn_putOut_58 : decode b_Rn_putOut 58 = .ok (.iload_n 1, 1) := by decide +kernel
theorem d_Rn_putOut_59 : decode b_Rn_putOut 59 = .ok (.iastore, 1) := by decide +kernel
theorem d_Rn_putOut_60 : decode b_Rn_putOut 60 = .ok (.aload_n 0, 1) := by decide +kernel
theorem d_Rn_putOut_61 : decode b_Rn_putOut 61 = .ok (.dup, 1) := by decide +kernel
theorem d_Rn_putOut_62 : decode b_Rn_putOut 62 = .ok (.getfield 67, 3) := by decide +kernel
theorem d_Rn_putOut_65 : decode b_Rn_putOut 65 = .ok (.iconst 1, 1) := by decide +kernel
theorem d_Rn_putOut_66 : decode b_Rn_putOut 66 = .ok (.iadd, 1) := by decide +kernel
theorem d_Rn_putOut_67 : decode b_Rn_putOut 67 = .ok (.putfield 67, 3) := by decide +kernel
theorem d_Rn_putOut_70 : decode b_Rn_putOut 70 = .ok (.return_, 1) := by decide +kernel
theorem d_Rn_lookForMore_0 : decode b_Rn_lookForMore 0 = .ok (.aload_n 0, 1) := by decide +kernel
theorem d_Rn_lookForMore_1 : decode b_Rn_lookForMore 1 = .ok (.getfield 34, 3) := by decide +kernel
theorem d_Rn_lookForMore_4 : decode b_Rn_lookForMore 4 = .ok (.invokevirtual 49, 3) := by decide +kernel
theorem d_Rn_lookForMore_7 : decode b_Rn_lookForMore 7 = .ok (.istore_n 1, 1) := by decide +kernel
theorem d_Rn_lookForMore_8 : decode b_Rn_lookForMore 8 = .ok (.iload_n 1, 1) := by decide +kernel
theorem d_Rn_lookForMore_9 : decode b_Rn_lookForMore 9 = .ok (.bipush (-2), 2) := by decide +kernel
theorem d_Rn_lookForMore_11 : decode b_Rn_lookForMore 11 = .ok (.if_icmp .ne 11, 3) := by decide +kernel
theorem d_Rn_lookForMore_14 : decode b_Rn_lookForMore 14 = .ok (.aload_n 0, 1) := by decide +kernel
theorem d_Rn_lookForMore_15 : decode b_Rn_lookForMore 15 = .ok (.bipush 9, 2) := by decide +kernel
theorem d_Rn_lookForMore_17 : decode b_Rn_lookForMore 17 = .ok (.invokevirtual 53, 3) := by decide +kernel
theorem d_Rn_lookForMore_20 : decode b_Rn_lookForMore 20 = .ok (.iconst (-1), 1) := by decide +kernel
theorem d_Rn_lookForMore_21 : decode b_Rn_lookForMore 21 = .ok (.ireturn, 1) := by decide +kernel
theorem d_Rn_lookForMore_22 : decode b_Rn_lookForMore 22 = .ok (.iload_n 1, 1) := by decide +kernel
theorem d_Rn_lookForMore_23 : decode b_Rn_lookForMore 23 = .ok (.iconst (-1), 1) := by decide +kernel
theorem d_Rn_lookForMore_24 : decode b_Rn_lookForMore 24 = .ok (.if_icmp .ne 8, 3) := by decide +kernel
theorem d_Rn_lookForMore_27 : decode b_Rn_lookForMore 27 = .ok (.aload_n 0, 1) := by decide +kernel
theorem d_Rn_lookForMore_28 : decode b_Rn_lookForMore 28 = .ok (.iconst 1, 1) := by decide +kernel
theorem d_Rn_lookForMore_29 : decode b_Rn_lookForMore 29 = .ok (.invokevirtual 53, 3) := by decide +kernel
theorem d_Rn_lookForMore_32 : decode b_Rn_lookForMore 32 = .ok (.iload_n 1, 1) := by decide +kernel
theorem d_Rn_lookForMore_33 : decode b_Rn_lookForMore 33 = .ok (.ireturn, 1) := by decide +kernel
theorem d_Rn_isInPlace_0 : decode b_Rn_isInPlace 0 = .ok (.aload_n 0, 1) := by decide +kernel
theorem d_Rn_isInPlace_1 : decode b_Rn_isInPlace 1 = .ok (.getfield 64, 3) := by decide +kernel
theorem d_Rn_isInPlace_4 : decode b_Rn_isInPlace 4 = .ok (.iconst 1, 1) := by decide +kernel
theorem d_Rn_isInPlace_5 : decode b_Rn_isInPlace 5 = .ok (.isub, 1) := by decide +kernel
theorem d_Rn_isInPlace_6 : decode b_Rn_isInPlace 6 = .ok (.istore_n 2, 1) := by decide +kernel
theorem d_Rn_isInPlace_7 : decode b_Rn_isInPlace 7 = .ok (.iload_n 2, 1) := by decide +kernel
theorem d_Rn_isInPlace_8 : decode b_Rn_isInPlace 8 = .ok (.ifCond .lt 9, 3) := by decide +kernel
theorem d_Rn_isInPlace_11 : decode b_Rn_isInPlace 11 = .ok (.iload_n 2, 1) := by decide +kernel
theorem d_Rn_isInPlace_12 : decode b_Rn_isInPlace 12 = .ok (.bipush 20, 2) := by decide +kernel
theorem d_Rn_isInPlace_14 : decode b_Rn_isInPlace 14 = .ok (.if_icmp .lt 5, 3) := by decide +kernel
theorem d_Rn_isInPlace_17 : decode b_Rn_isInPlace 17 = .ok (.iconst 0, 1) := by decide +kernel
theorem d_Rn_isInPlace_18 : decode b_Rn_isInPlace 18 = .ok (.ireturn, 1) := by decide +kernel
theorem d_Rn_isInPlace_19 : decode b_Rn_isInPlace 19 = .ok (.iload_n 1, 1) := by decide +kernel
theorem d_Rn_isInPlace_20 : decode b_Rn_isInPlace 20 = .ok (.bipush 7, 2) := by decide +kernel
theorem d_Rn_isInPlace_22 : decode b_Rn_isInPlace 22 = .ok (.if_icmp .ne 27, 3) := by decide +kernel
theorem d_Rn_isInPlace_25 : decode b_Rn_isInPlace 25 = .ok (.aload_n 0, 1) := by decide +kernel
theorem d_Rn_isInPlace_26 : decode b_Rn_isInPlace 26 = .ok (.getfield 18, 3) := by decide +kernel
theorem d_Rn_isInPlace_29 : decode b_Rn_isInPlace 29 = .ok (.iload_n 2, 1) := by decide +kernel
theorem d_Rn_isInPlace_30 : decode b_Rn_isInPlace 30 = .ok (.baload, 1) := by decide +kernel
theorem d_Rn_isInPlace_31 : decode b_Rn_isInPlace 31 = .ok (.ifCond .eq 16, 3) := by decide +kernel
theorem d_Rn_isInPlace_34 : decode b_Rn_isInPlace 34 = .ok (.aload_n 0, 1) := by decide +kernel
theorem d_Rn_isInPlace_35 : decode b_Rn_isInPlace 35 = .ok (.getfield 22, 3) := by decide +kernel
theorem d_Rn_isInPlace_38 : decode b_Rn_isInPlace 38 = .ok (.iload_n 2, 1) := by decide +kernel
theorem d_Rn_isInPlace_39 : decode b_Rn_isInPlace 39 = .ok (.baload, 1) := by decide +kernel
theorem d_Rn_isInPlace_40 : decode b_Rn_isInPlace 40 = .ok (.ifCond .ne 7, 3) := by decide +kernel
theorem d_Rn_isInPlace_43 : decode b_Rn_isInPlace 43 = .ok (.iconst 1, 1) := by decide +kernel
theorem d_Rn_isInPlace_44 : decode b_Rn_isInPlace 44 = .ok (.goto 4, 3) := by decide +kernel
theorem d_Rn_isInPlace_47 : decode b_Rn_isInPlace 47 = .ok (.iconst 0, 1) := by decide +kernel
theorem d_Rn_isInPlace_48 : decode b_Rn_isInPlace 48 = .ok (.ireturn, 1) := by decide +kernel
theorem d_Rn_isInPlace_49 : decode b_Rn_isInPlace 49 = .ok (.iload_n 1, 1) := by decide +kernel
theorem d_Rn_isInPlace_50 : decode b_Rn_isInPlace 50 = .ok (.bipush 8, 2) := by decide +kernel
theorem d_Rn_isInPlace_52 : decode b_Rn_isInPlace 52 = .ok (.if_icmp .eq 12, 3) := by decide +kernel
theorem d_Rn_isInPlace_55 : decode b_Rn_isInPlace 55 = .ok (.aload_n 0, 1) := by decide +kernel
theorem d_Rn_isInPlace_56 : decode b_Rn_isInPlace 56 = .ok (.getfield 22, 3) := by decide +kernel
theorem d_Rn_isInPlace_59 : decode b_Rn_isInPlace 59 = .ok (.iload_n 2, 1) := by decide +kernel
theorem d_Rn_isInPlace_60 : decode b_Rn_isInPlace 60 = .ok (.baload, 1) := by decide +kernel
theorem d_Rn_isInPlace_61 : decode b_Rn_isInPlace 61 = .ok (.ifCond .ne 7, 3) := by decide +kernel
theorem d_Rn_isInPlace_64 : decode b_Rn_isInPlace 64 = .ok (.iconst 1, 1) := by decide +kernel
theorem d_Rn_isInPlace_65 : decode b_Rn_isInPlace 65 = .ok (.goto 4, 3) := by decide +kernel
theorem d_Rn_isInPlace_68 : decode b_Rn_isInPlace 68 = .ok (.iconst 0, 1) := by decide +kernel
theorem d_Rn_isInPlace_69 : decode b_Rn_isInPlace 69 = .ok (.ireturn, 1) := by decide +kernel
theorem d_Rn_passMark_0 : decode b_Rn_passMark 0 = .ok (.aload_n 0, 1) := by decide +kernel
theorem d_Rn_passMark_1 : decode b_Rn_passMark 1 = .ok (.getfield 64, 3) := by decide +kernel
theorem d_Rn_passMark_4 : decode b_Rn_passMark 4 = .ok (.iconst 1, 1) := by decide +kernel
theorem d_Rn_passMark_5 : decode b_Rn_passMark 5 = .ok (.isub, 1) := by decide +kernel
theorem d_Rn_passMark_6 : decode b_Rn_passMark 6 = .ok (.istore_n 2, 1) := by decide +kernel
theorem d_Rn_passMark_7 : decode b_Rn_passMark 7 = .ok (.iload_n 2, 1) := by decide +kernel
theorem d_Rn_passMark_8 : decode b_Rn_passMark 8 = .ok (.ifCond .lt 9, 3) := by decide +kernel
theorem d_Rn_passMark_11 : decode b_Rn_passMark 11 = .ok (.iload_n 2, 1) := by decide +kernel
theorem d_Rn_passMark_12 : decode b_Rn_passMark 12 = .ok (.bipush 20, 2) := by decide +kernel
theorem d_Rn_passMark_14 : decode b_Rn_passMark 14 = .ok (.if_icmp .lt 4, 3) := by decide +kernel
theorem d_Rn_passMark_17 : decode b_Rn_passMark 17 = .ok (.return_, 1) := by decide +kernel
theorem d_Rn_passMark_18 : decode b_Rn_passMark 18 = .ok (.iload_n 1, 1) := by decide +kernel
theorem d_Rn_passMark_19 : decode b_Rn_passMark 19 = .ok (.bipush 8, 2) := by decide +kernel
theorem d_Rn_passMark_21 : decode b_Rn_passMark 21 = .ok (.if_icmp .ne 11, 3) := by decide +kernel
theorem d_Rn_passMark_24 : decode b_Rn_passMark 24 = .ok (.aload_n 0, 1) := by decide +kernel
theorem d_Rn_passMark_25 : decode b_Rn_passMark 25 = .ok (.iload_n 2, 1) := by decide +kernel
theorem d_Rn_passMark_26 : decode b_Rn_passMark 26 = .ok (.putfield 64, 3) := by decide +kernel
theorem d_Rn_passMark_29 : decode b_Rn_passMark 29 = .ok (.goto 16, 3) := by decide +kernel
theorem d_Rn_passMark_32 : decode b_Rn_passMark 32 = .ok (.iload_n 1, 1) := by decide +kernel
theorem d_Rn_passMark_33 : decode b_Rn_passMark 33 = .ok (.bipush 6, 2) := by decide +kernel
theorem d_Rn_passMark_35 : decode b_Rn_passMark 35 = .ok (.if_icmp .ne 10, 3) := by decide +kernel
theorem d_Rn_passMark_38 : decode b_Rn_passMark 38 = .ok (.aload_n 0, 1) := by decide +kernel
theorem d_Rn_passMark_39 : decode b_Rn_passMark 39 = .ok (.getfield 22, 3) := by decide +kernel
theorem d_Rn_passMark_42 : decode b_Rn_passMark 42 = .ok (.iload_n 2, 1) := by decide +kernel
theorem d_Rn_passMark_43 : decode b_Rn_passMark 43 = .ok (.iconst 1, 1) := by decide +kernel
theorem d_Rn_passMark_44 : decode b_Rn_passMark 44 = .ok (.bastore, 1) := by decide +kernel
theorem d_Rn_passMark_45 : decode b_Rn_passMark 45 = .ok (.return_, 1) := by decide +kernel
def f_Ar_fill_5 (n0 : Nat) : Nat → (Nat → Int32) → Int32 → Int32 → Int32 → (Nat → Int32)
  | 0, f, _, _, _ => f
  | n + 1, f, x1, x2, x3 => (if x3 ≤ x2 then f else (f_Ar_fill_5 n0 n (upd f x2.toNatClampNeg x1) x1 (x2 + 1) x3))
set_option maxHeartbeats 4000000 in
set_option maxRecDepth 100000 in
theorem k_Ar_fill_5 {p : Program} {e : Env} {s : State} {m : MethodId} {args : Array Value} {below : List Frame} {meth : Method} {c : Code} {A : Nat → Prop} (l : Launch) (dC : Nat → ClassId) (dI : Nat → Nat → Nat) (ad : Nat → Nat) (ca : Nat → ClassId) (a0 : Nat) (k0 : ClassId) (n0 : Nat) (C0 : wx_C p s m args meth c b_Ar_fill (none) 4 R_Ar A (dC, dI) vwCl (t_I ca a0 k0 n0)) (F : (Nat → Int32)) : ∀ (n : Nat) (f : (Nat → Int32)) (x1 : Int32) (x2 : Int32) (x3 : Int32), (n0 < 2147483648) → (x3.toInt = (n0 : Int) ∧ TLn (n0 : Int) x2 n) → F = f_Ar_fill_5 n0 n f x1 x2 x3 → ∀ (H : Heap) (locs : List Loc), va_P (dC, dI) vwCl (w_I ad ca a0 k0 n0 f) H → va_D A (w_I ad ca a0 k0 n0 f) → va_S A s.heap H locs → ∀ (ls : Array Slot), lv_has ls 4 [(0, .ref a0), (1, .int x1), (2, .int x2), (3, .int x3)] → W p l e ({ frames := 0, cells := 0, slots := 0, locals := 0 } : Room) s m args below meth c H locs 0 0 (MQ below (va_Qv (fun v : (Nat → Int32) => v = F) (wx_B (dC, dI) vwCl (t_I ca a0 k0 n0) (fun v : (Nat → Int32) => w_I ad ca a0 k0 n0 v) A) A) args s 0 0 A) (F0 m 5 ls []) := by
  have C1 := C0
  obtain ⟨hx, hb, hr, hml, hown, ht, hlocks, hA, hK, hN⟩ := C1
  intro n
  induction n with
  | zero =>
    intro f x1 x2 x3 hpre hc he
    exact absurd hc (fun h => TLn_0 h.2)
  | succ n ih =>
    intro f x1 x2 x3 hpre hc he H locs hP hD hS ls hl
    rw [f_Ar_fill_5] at he
    refine lv_iload_n hx hb d_Ar_fill_5 rfl (lv_at hl 2 rfl) ?_
    refine lv_iload_n hx hb d_Ar_fill_6 rfl (lv_at hl 3 rfl) ?_
    refine lv_icmp_ge (tgt := 20) hx hb d_Ar_fill_7 (by decide) (fun c_1 => ?_) (fun c_1 => ?_)
    · have he := he.trans (if_pos c_1)
      exact W.vret hx hb hr (fun t ht hW => ⟨⟨f, rfl, he.symm, by rw [ht]; exact hP, va_K.moved hW.alike hK, hD⟩, hS.F ht⟩) hS.2.2 d_Ar_fill_20
    · have he := he.trans (if_neg c_1)
      refine lv_aload_n hx hb d_Ar_fill_10 rfl (lv_at hl 0 rfl) ?_
      refine lv_iload_n hx hb d_Ar_fill_11 rfl (lv_at hl 2 rfl) ?_
      refine lv_iload_n hx hb d_Ar_fill_12 rfl (lv_at hl 1 rfl) ?_
      refine va_iast hx hb hK hP hD hS 0 0 rfl rfl (wx_tl hc.2 (Int.le_of_eq hc.1) c_1) d_Ar_fill_13 (fun H locs hP hD hS => ?_)
      have hP : va_P (dC, dI) vwCl (w_I ad ca a0 k0 n0 (upd f x2.toNatClampNeg x1)) H := hP
      have hD : va_D A (w_I ad ca a0 k0 n0 (upd f x2.toNatClampNeg x1)) := hD
      refine lv_iinc (v := (x2 + 1)) (lv' := [(2, .int (x2 + 1)), (0, .ref a0), (1, .int x1), (3, .int x3)]) hx hb d_Ar_fill_14 hl (k := 2) rfl rfl (by decide) rfl (fun ls hl => ?_)
      refine lv_goto (tgt := 5) hx hb d_Ar_fill_17 (by decide) ?_
      exact ih (upd f x2.toNatClampNeg x1) x1 (x2 + 1) x3 hpre ⟨hc.1, TLn_s hc.2 hc.1 c_1⟩ he _ _ hP hD hS _ (lv_sub hl [1, 2, 0, 3] rfl)
def f_Ar_fill (n0 : Nat) (f : (Nat → Int32)) (p0 : Int32) : (Nat → Int32) := (f_Ar_fill_5 n0 (n0 + 1) f p0 0 (Int32.ofNat n0))
set_option maxHeartbeats 4000000 in
set_option maxRecDepth 100000 in
theorem c_Ar_fill (l : Launch) (dC : Nat → ClassId) (dI : Nat → Nat → Nat) (ad : Nat → Nat) (ca : Nat → ClassId) (a0 : Nat) (k0 : ClassId) (n0 : Nat) (sz : Nat) (f : (Nat → Int32)) (p0 : Int32) (hpre : n0 < 2147483648) (F : (Nat → Int32)) (he : F = f_Ar_fill n0 f p0) : wx_Mv l y_Ar_fill ws_Ar_fill ({ frames := 0, cells := 0, slots := 0, locals := 0 } : Room) (dC, dI) vwCl (t_I ca a0 k0 n0) [.ref a0, .int p0] (w_I ad ca a0 k0 n0 f) sz (fun v : (Nat → Int32) => w_I ad ca a0 k0 n0 v) (fun v : (Nat → Int32) => v = F) := by
  refine Met.ofW (cc := b_Ar_fill) (maxL := 4) (ret := none) (by decide) rfl ?_
  intro p e s m args below meth c s₁ B hml hv
  obtain ⟨rfl, hsz, hP, hK, hD0, hN⟩ := hv
  have hx := B.exec
  have hb := B.bytes
  have hr := B.returns
  have hts := atoms_spec (ws := ws_Ar_fill) B.pre
  have ht : ∀ w ∈ TB, w.before _ s = true := fun w h => hts w (List.mem_cons_of_mem _ h)
  have hown : s.vm.findClass R_Ar = some m.cls := findClass_of_methodNamed B.named
  have hlocks := B.notSynchronized
  subst hsz
  have hD := hD0.self (sz := s.heap.size)
  generalize hAe : va_A (w_I ad ca a0 k0 n0 f) s.heap.size = A at hD ⊢
  have hA : ∀ q : Nat, s.heap.size ≤ q → A q := fun q h => by rw [← hAe]; exact Or.inr h
  have hS : va_S A s.heap s.heap [] := va_S.rf
  have C0 : wx_C p s m ([.ref a0, .int p0] : List Value).toArray meth c b_Ar_fill (none) 4 R_Ar A (dC, dI) vwCl (t_I ca a0 k0 n0) := ⟨hx, hb, hr, hml, hown, ht, hlocks, hA, hK, hN⟩
  have hl := lv_entry ([.ref a0, .int p0]) (n := 4) (Nat.le_of_ble_eq_true rfl)
  rw [lg_entry_eq]
  generalize (lg_sl ([.ref a0, .int p0]) ++ List.replicate (4 - (lg_sl ([.ref a0, .int p0])).length) Slot.unset).toArray = ls at hl ⊢
  have hl : lv_has ls 4 [(0, .ref a0), (1, .int p0)] := hl
  unfold f_Ar_fill at he
  refine lv_iconst (v := 0) hx hb d_Ar_fill_0 (by decide) ?_
  refine lv_istore_n (lv' := [(2, .int 0), (0, .ref a0), (1, .int p0)]) hx hb d_Ar_fill_1 rfl hl (by decide) rfl (fun ls hl => ?_)
  refine lv_aload_n hx hb d_Ar_fill_2 rfl (lv_at hl 1 rfl) ?_
  refine va_alen hx hb hK hP 0 0 rfl rfl (v := (Int32.ofNat n0)) rfl d_Ar_fill_3 ?_
  refine lv_istore_n (lv' := [(3, .int (Int32.ofNat n0)), (2, .int 0), (0, .ref a0), (1, .int p0)]) hx hb d_Ar_fill_4 rfl hl (by decide) rfl (fun ls hl => ?_)
  exact k_Ar_fill_5 l dC dI ad ca a0 k0 n0 C0 F (n0 + 1) f p0 0 (Int32.ofNat n0) hpre ⟨nI_toInt hpre, TLn_i (by omega) (by omega)⟩ he _ _ hP hD hS _ (lv_sub hl [2, 3, 1, 0] rfl)
def f_Rn_fail (b : TBk) (u : TRn) (p0 : Int32) : TRn := (if (TRn_fault u) = 0 then (TRn_set_fault u p0) else u)
set_option maxHeartbeats 4000000 in
set_option maxRecDepth 100000 in
theorem c_Rn_fail (l : Launch) (dC : Nat → ClassId) (dI : Nat → Nat → Nat) (ad : Nat → Nat) (ca : Nat → ClassId) (sz : Nat) (b : TBk) (u : TRn) (p0 : Int32) (F : TRn) (he : F = f_Rn_fail b u p0) : wx_Mv l y_Rn_fail ws_Rn_fail ({ frames := 0, cells := 0, slots := 0, locals := 0 } : Room) (dC, dI) vwCl (t_R ca) [.ref (ad 0), .int p0] (w_R ad ca b u) sz (fun v : TRn => w_R ad ca b v) (fun v : TRn => v = F) := by
  refine Met.ofW (cc := b_Rn_fail) (maxL := 2) (ret := none) (by decide) rfl ?_
  intro p e s m args below meth c s₁ B hml hv
  obtain ⟨rfl, hsz, hP, hK, hD0, hN⟩ := hv
  have hx := B.exec
  have hb := B.bytes
  have hr := B.returns
  have hts := atoms_spec (ws := ws_Rn_fail) B.pre
  have ht : ∀ w ∈ TB, w.before _ s = true := fun w h => hts w (List.mem_cons_of_mem _ h)
  have hown : s.vm.findClass R_Rn = some m.cls := findClass_of_methodNamed B.named
  have hlocks := B.notSynchronized
  subst hsz
  have hD := hD0.self (sz := s.heap.size)
  generalize hAe : va_A (w_R ad ca b u) s.heap.size = A at hD ⊢
  have hA : ∀ q : Nat, s.heap.size ≤ q → A q := fun q h => by rw [← hAe]; exact Or.inr h
  have hS : va_S A s.heap s.heap [] := va_S.rf
  have hl := lv_entry ([.ref (ad 0), .int p0]) (n := 2) (Nat.le_of_ble_eq_true rfl)
  rw [lg_entry_eq]
  generalize (lg_sl ([.ref (ad 0), .int p0]) ++ List.replicate (2 - (lg_sl ([.ref (ad 0), .int p0])).length) Slot.unset).toArray = ls at hl ⊢
  have hl : lv_has ls 2 [(0, .ref (ad 0)), (1, .int p0)] := hl
  unfold f_Rn_fail at he
  refine lv_aload_n hx hb d_Rn_fail_0 rfl (lv_at hl 0 rfl) ?_
  refine va_get (D := (dC, dI)) (ci := 2) (v := .int (TRn_fault u)) (C := R_Rn) (T := T_Rn) (N := 12) hx hb ht i_Rn hown hK hP 0 rfl rfl 11 (by decide) (ht _ q_141) (fun _ h9 => h9) rfl d_Rn_fail_1 ?_
  refine lv_if_ne (tgt := 12) hx hb d_Rn_fail_4 (by decide) (fun c_1 => ?_) (fun c_1 => ?_)
  · have he := he.trans (if_neg c_1)
    exact W.vret hx hb hr (fun t ht hW => ⟨⟨u, rfl, he.symm, by rw [ht]; exact hP, va_K.moved hW.alike hK, hD⟩, hS.F ht⟩) hS.2.2 d_Rn_fail_12
  · have he := he.trans (if_pos c_1)
    refine lv_aload_n hx hb d_Rn_fail_7 rfl (lv_at hl 0 rfl) ?_
    refine lv_iload_n hx hb d_Rn_fail_8 rfl (lv_at hl 1 rfl) ?_
    refine va_put (D := (dC, dI)) (ci := 2) (v := .int p0) (ty := .int) (C := R_Rn) (T := T_Rn) (N := 12) hx hb ht i_Rn ty_Rn ty_Rn_ok nm_Rn hown hK hP hD hS 0 rfl rfl 11 (by decide) (ht _ q_141) (fun _ h9 => h9) rfl (by decide +kernel) rfl rfl (Nat.le_of_ble_eq_true rfl) d_Rn_fail_9 (fun H locs hP hD hS => ?_)
    have hP : va_P (dC, dI) vwCl (w_R ad ca b (TRn_set_fault u p0)) H := hP
    have hD : va_D A (w_R ad ca b (TRn_set_fault u p0)) := hD
    exact W.vret hx hb hr (fun t ht hW => ⟨⟨(TRn_set_fault u p0), rfl, he.symm, by rw [ht]; exact hP, va_K.moved hW.alike hK, hD⟩, hS.F ht⟩) hS.2.2 d_Rn_fail_12
def f_Rn_forget (b : TBk) (u : TRn) : TRn := (let v_1 := f_Ar_fill 100 (TRn_decisions u) (-5); (TRn_set_fault (TRn_set_skipped (TRn_set_mostOpen (TRn_set_opened (TRn_set_openCount (TRn_set_outSize (TRn_set_decisions u v_1) 0) 0) 0) 0) 0) 0))
set_option maxHeartbeats 4000000 in
set_option maxRecDepth 100000 in
theorem c_Rn_forget (l : Launch) (dC : Nat → ClassId) (dI : Nat → Nat → Nat) (ad : Nat → Nat) (ca : Nat → ClassId) (sz : Nat) (b : TBk) (u : TRn) (F : TRn) (he : F = f_Rn_forget b u) : wx_Mv l y_Rn_forget ws_Rn_forget ({ frames := 1, cells := 0, slots := 0, locals := 23 } : Room) (dC, dI) vwCl (t_R ca) [.ref (ad 0)] (w_R ad ca b u) sz (fun v : TRn => w_R ad ca b v) (fun v : TRn => v = F) := by
  refine Met.ofW (cc := b_Rn_forget) (maxL := 1) (ret := none) (by decide) rfl ?_
  intro p e s m args below meth c s₁ B hml hv
  obtain ⟨rfl, hsz, hP, hK, hD0, hN⟩ := hv
  have hx := B.exec
  have hb := B.bytes
  have hr := B.returns
  have hts := atoms_spec (ws := ws_Rn_forget) B.pre
  have ht : ∀ w ∈ TB, w.before _ s = true := fun w h => hts w (List.mem_cons_of_mem _ h)
  have hown : s.vm.findClass R_Rn = some m.cls := findClass_of_methodNamed B.named
  have hlocks := B.notSynchronized
  subst hsz
  have hD := hD0.self (sz := s.heap.size)
  generalize hAe : va_A (w_R ad ca b u) s.heap.size = A at hD ⊢
  have hA : ∀ q : Nat, s.heap.size ≤ q → A q := fun q h => by rw [← hAe]; exact Or.inr h
  have hS : va_S A s.heap s.heap [] := va_S.rf
  have hl := lv_entry ([.ref (ad 0)]) (n := 1) (Nat.le_of_ble_eq_true rfl)
  rw [lg_entry_eq]
  generalize (lg_sl ([.ref (ad 0)]) ++ List.replicate (1 - (lg_sl ([.ref (ad 0)])).length) Slot.unset).toArray = ls at hl ⊢
  have hl : lv_has ls 1 [(0, .ref (ad 0))] := hl
  unfold f_Rn_forget at he
  refine lv_aload_n hx hb d_Rn_forget_0 rfl (lv_at hl 0 rfl) ?_
  refine va_get (D := (dC, dI)) (ci := 2) (v := .ref (ad 2)) (C := R_Rn) (T := T_Rn) (N := 12) hx hb ht i_Rn hown hK hP 0 rfl rfl 3 (by decide) (ht _ q_133) (fun _ h9 => h9) rfl d_Rn_forget_1 ?_
  refine lv_bipush (v := (-5)) hx hb d_Rn_forget_4 (by decide) ?_
  refine wx_cv (wS := fun v : (Nat → Int32) => w_I ad ca (ad 2) (ca 2) 100 v) (ws2 := fun v : (Nat → Int32) => w_R ad ca b (TRn_set_decisions u v)) (va_runS (As := [.ref (ad 2), .int (-5)]) (rest := []) ⟨hx, hb, hml, hown, ht⟩ (c_Ar_fill l dC dI ad ca (ad 2) (ca 2) 100 s.heap.size (TRn_decisions u) (-5) (by decide) _ rfl) (va_cwS 2 ht (tb_S q_127 q_128 q_46 q_129) rfl rfl rfl p_Ar_fill.2 ⟨show 0 + 1 ≤ 1 by omega, show 8 + (4 + 11) + 0 ≤ 23 by omega⟩) (wx_preS (wc := (w_I ad ca (ad 2) (ca 2) 100 (TRn_decisions u))) hN hK hP hD [2] [1] rfl (by decide) rfl) rfl rfl hl.1 rfl (lv_room (Nat.le_of_ble_eq_true rfl)) d_Rn_forget_6 ⟨Nat.zero_le _, Nat.zero_le _⟩) hP hD hS hA [2] [0, 1, 3, 4, 5, 6, 7, 8, 9, 10, 11, 12, 13, 14] [0, 1, 14, 2, 3, 4, 5, 6, 7, 8, 9, 10, 11, 12, 13] rfl rfl (by decide) (by decide) (by decide) (fun _ => rfl) (fun v_1 H locs hw hP hD hS => ?_)
  have hP : va_P (dC, dI) vwCl (w_R ad ca b (TRn_set_decisions u v_1)) H := hP
  have hD : va_D A (w_R ad ca b (TRn_set_decisions u v_1)) := hD
  rw [← hw] at he
  try dsimp only at he
  refine lv_aload_n hx hb d_Rn_forget_9 rfl (lv_at hl 0 rfl) ?_
  refine lv_iconst (v := 0) hx hb d_Rn_forget_10 (by decide) ?_
  refine va_put (D := (dC, dI)) (ci := 2) (v := .int 0) (ty := .int) (C := R_Rn) (T := T_Rn) (N := 12) hx hb ht i_Rn ty_Rn ty_Rn_ok nm_Rn hown hK hP hD hS 0 rfl rfl 6 (by decide) (ht _ q_136) (fun _ h9 => h9) rfl (by decide +kernel) rfl rfl (Nat.le_of_ble_eq_true rfl) d_Rn_forget_11 (fun H locs hP hD hS => ?_)
  have hP : va_P (dC, dI) vwCl (w_R ad ca b (TRn_set_outSize (TRn_set_decisions u v_1) 0)) H := hP
  have hD : va_D A (w_R ad ca b (TRn_set_outSize (TRn_set_decisions u v_1) 0)) := hD
  refine lv_aload_n hx hb d_Rn_forget_14 rfl (lv_at hl 0 rfl) ?_
  refine lv_iconst (v := 0) hx hb d_Rn_forget_15 (by decide) ?_
  refine va_put (D := (dC, dI)) (ci := 2) (v := .int 0) (ty := .int) (C := R_Rn) (T := T_Rn) (N := 12) hx hb ht i_Rn ty_Rn ty_Rn_ok nm_Rn hown hK hP hD hS 0 rfl rfl 7 (by decide) (ht _ q_137) (fun _ h9 => h9) rfl (by decide +kernel) rfl rfl (Nat.le_of_ble_eq_true rfl) d_Rn_forget_16 (fun H locs hP hD hS => ?_)
  have hP : va_P (dC, dI) vwCl (w_R ad ca b (TRn_set_openCount (TRn_set_outSize (TRn_set_decisions u v_1) 0) 0)) H := hP
  have hD : va_D A (w_R ad ca b (TRn_set_openCount (TRn_set_outSize (TRn_set_decisions u v_1) 0) 0)) := hD
  refine lv_aload_n hx hb d_Rn_forget_19 rfl (lv_at hl 0 rfl) ?_
  refine lv_iconst (v := 0) hx hb d_Rn_forget_20 (by decide) ?_
  refine va_put (D := (dC, dI)) (ci := 2) (v := .int 0) (ty := .int) (C := R_Rn) (T := T_Rn) (N := 12) hx hb ht i_Rn ty_Rn ty_Rn_ok nm_Rn hown hK hP hD hS 0 rfl rfl 8 (by decide) (ht _ q_138) (fun _ h9 => h9) rfl (by decide +kernel) rfl rfl (Nat.le_of_ble_eq_true rfl) d_Rn_forget_21 (fun H locs hP hD hS => ?_)
  have hP : va_P (dC, dI) vwCl (w_R ad ca b (TRn_set_opened (TRn_set_openCount (TRn_set_outSize (TRn_set_decisions u v_1) 0) 0) 0)) H := hP
  have hD : va_D A (w_R ad ca b (TRn_set_opened (TRn_set_openCount (TRn_set_outSize (TRn_set_decisions u v_1) 0) 0) 0)) := hD
  refine lv_aload_n hx hb d_Rn_forget_24 rfl (lv_at hl 0 rfl) ?_
  refine lv_iconst (v := 0) hx hb d_Rn_forget_25 (by decide) ?_
  refine va_put (D := (dC, dI)) (ci := 2) (v := .int 0) (ty := .int) (C := R_Rn) (T := T_Rn) (N := 12) hx hb ht i_Rn ty_Rn ty_Rn_ok nm_Rn hown hK hP hD hS 0 rfl rfl 9 (by decide) (ht _ q_139) (fun _ h9 => h9) rfl (by decide +kernel) rfl rfl (Nat.le_of_ble_eq_true rfl) d_Rn_forget_26 (fun H locs hP hD hS => ?_)
  have hP : va_P (dC, dI) vwCl (w_R ad ca b (TRn_set_mostOpen (TRn_set_opened (TRn_set_openCount (TRn_set_outSize (TRn_set_decisions u v_1) 0) 0) 0) 0)) H := hP
  have hD : va_D A (w_R ad ca b (TRn_set_mostOpen (TRn_set_opened (TRn_set_openCount (TRn_set_outSize (TRn_set_decisions u v_1) 0) 0) 0) 0)) := hD
  refine lv_aload_n hx hb d_Rn_forget_29 rfl (lv_at hl 0 rfl) ?_
  refine lv_iconst (v := 0) hx hb d_Rn_forget_30 (by decide) ?_
  refine va_put (D := (dC, dI)) (ci := 2) (v := .int 0) (ty := .int) (C := R_Rn) (T := T_Rn) (N := 12) hx hb ht i_Rn ty_Rn ty_Rn_ok nm_Rn hown hK hP hD hS 0 rfl rfl 10 (by decide) (ht _ q_140) (fun _ h9 => h9) rfl (by decide +kernel) rfl rfl (Nat.le_of_ble_eq_true rfl) d_Rn_forget_31 (fun H locs hP hD hS => ?_)
  have hP : va_P (dC, dI) vwCl (w_R ad ca b (TRn_set_skipped (TRn_set_mostOpen (TRn_set_opened (TRn_set_openCount (TRn_set_outSize (TRn_set_decisions u v_1) 0) 0) 0) 0) 0)) H := hP
  have hD : va_D A (w_R ad ca b (TRn_set_skipped (TRn_set_mostOpen (TRn_set_opened (TRn_set_openCount (TRn_set_outSize (TRn_set_decisions u v_1) 0) 0) 0) 0) 0)) := hD
  refine lv_aload_n hx hb d_Rn_forget_34 rfl (lv_at hl 0 rfl) ?_
  refine lv_iconst (v := 0) hx hb d_Rn_forget_35 (by decide) ?_
  refine va_put (D := (dC, dI)) (ci := 2) (v := .int 0) (ty := .int) (C := R_Rn) (T := T_Rn) (N := 12) hx hb ht i_Rn ty_Rn ty_Rn_ok nm_Rn hown hK hP hD hS 0 rfl rfl 11 (by decide) (ht _ q_141) (fun _ h9 => h9) rfl (by decide +kernel) rfl rfl (Nat.le_of_ble_eq_true rfl) d_Rn_forget_36 (fun H locs hP hD hS => ?_)
  have hP : va_P (dC, dI) vwCl (w_R ad ca b (TRn_set_fault (TRn_set_skipped (TRn_set_mostOpen (TRn_set_opened (TRn_set_openCount (TRn_set_outSize (TRn_set_decisions u v_1) 0) 0) 0) 0) 0) 0)) H := hP
  have hD : va_D A (w_R ad ca b (TRn_set_fault (TRn_set_skipped (TRn_set_mostOpen (TRn_set_opened (TRn_set_openCount (TRn_set_outSize (TRn_set_decisions u v_1) 0) 0) 0) 0) 0) 0)) := hD
  exact W.vret hx hb hr (fun t ht hW => ⟨⟨(TRn_set_fault (TRn_set_skipped (TRn_set_mostOpen (TRn_set_opened (TRn_set_openCount (TRn_set_outSize (TRn_set_decisions u v_1) 0) 0) 0) 0) 0) 0), rfl, he.symm, by rw [ht]; exact hP, va_K.moved hW.alike hK, hD⟩, hS.F ht⟩) hS.2.2 d_Rn_forget_39
def f_Rn_putOut (b : TBk) (u : TRn) (p0 : Int32) : TRn := (if (f_Ct_isMark (f_Bk_kindOf b p0)) = 0 then (if (TRn_outSize u) < 0 then (let v_5 := f_Rn_fail b u 9; v_5) else (if (TRn_outSize u) < 300 then (TRn_set_outSize (TRn_set_out u (upd (TRn_out u) (TRn_outSize u).toNatClampNeg p0)) ((TRn_outSize u) + 1)) else (let v_7 := f_Rn_fail b u 9; v_7))) else (let v_8 := f_Rn_fail b u 2; v_8))
set_option maxHeartbeats 4000000 in
set_option maxRecDepth 100000 in
theorem c_Rn_putOut (l : Launch) (dC : Nat → ClassId) (dI : Nat → Nat → Nat) (ad : Nat → Nat) (ca : Nat → ClassId) (sz : Nat) (b : TBk) (u : TRn) (p0 : Int32) (F : TRn) (he : F = f_Rn_putOut b u p0) : wx_Mv l y_Rn_putOut ws_Rn_putOut ({ frames := 2, cells := 0, slots := 0, locals := 41 } : Room) (dC, dI) vwCl (t_R ca) [.ref (ad 0), .int p0] (w_R ad ca b u) sz (fun v : TRn => w_R ad ca b v) (fun v : TRn => v = F) := by
  refine Met.ofW (cc := b_Rn_putOut) (maxL := 2) (ret := none) (by decide) rfl ?_
  intro p e s m args below meth c s₁ B hml hv
  obtain ⟨rfl, hsz, hP, hK, hD0, hN⟩ := hv
  have hx := B.exec
  have hb := B.bytes
  have hr := B.returns
  have hts := atoms_spec (ws := ws_Rn_putOut) B.pre
  have ht : ∀ w ∈ TB, w.before _ s = true := fun w h => hts w (List.mem_cons_of_mem _ h)
  have hown : s.vm.findClass R_Rn = some m.cls := findClass_of_methodNamed B.named
  have hlocks := B.notSynchronized
  subst hsz
  have hD := hD0.self (sz := s.heap.size)
  generalize hAe : va_A (w_R ad ca b u) s.heap.size = A at hD ⊢
  have hA : ∀ q : Nat, s.heap.size ≤ q → A q := fun q h => by rw [← hAe]; exact Or.inr h
  have hS : va_S A s.heap s.heap [] := va_S.rf
  have hl := lv_entry ([.ref (ad 0), .int p0]) (n := 2) (Nat.le_of_ble_eq_true rfl)
  rw [lg_entry_eq]
  generalize (lg_sl ([.ref (ad 0), .int p0]) ++ List.replicate (2 - (lg_sl ([.ref (ad 0), .int p0])).length) Slot.unset).toArray = ls at hl ⊢
  have hl : lv_has ls 2 [(0, .ref (ad 0)), (1, .int p0)] := hl
  unfold f_Rn_putOut at he
  refine lv_aload_n hx hb d_Rn_putOut_0 rfl (lv_at hl 0 rfl) ?_
  refine va_get (D := (dC, dI)) (ci := 2) (v := .ref (ad 8)) (C := R_Rn) (T := T_Rn) (N := 12) hx hb ht i_Rn hown hK hP 0 rfl rfl 0 (by decide) (ht _ q_130) (fun _ h9 => h9) rfl d_Rn_putOut_1 ?_
  refine lv_iload_n hx hb d_Rn_putOut_4 rfl (lv_at hl 1 rfl) ?_
  refine wx_ci (wS := fun _ : Unit => w_B ad ca b) (ws2 := fun _ : Unit => w_R ad ca b u) (va_runV (As := [.int p0]) (rest := []) ⟨hx, hb, hml, hown, ht⟩ (c_Bk_kindOf l dC dI ad ca s.heap.size b p0 _ rfl) (cwV 1 ht (tb_V q_273 q_274 q_275 q_43 q_276) rfl rfl rfl p_Bk_kindOf ⟨show 1 + 1 ≤ 2 by omega, show 8 + (2 + 11) + 20 ≤ 41 by omega⟩) (wx_preV (wc := (w_B ad ca b)) hN hK hP hD [8, 9, 10, 11, 12, 13, 14] [6, 7, 8, 9, 10, 11] rfl (by decide) rfl (ci := 0) (q0 := 0) rfl rfl) rfl rfl hl.1 rfl (lv_room (Nat.le_of_ble_eq_true rfl)) d_Rn_putOut_5 ⟨Nat.zero_le _, Nat.zero_le _⟩) hP hD hS hA [8, 9, 10, 11, 12, 13, 14] [0, 1, 2, 3, 4, 5, 6, 7] [0, 1, 2, 3, 4, 5, 6, 7, 8, 9, 10, 11, 12, 13, 14] rfl rfl (by decide) (by decide) (by decide) (fun _ => rfl) (fun r_1 _ H locs hw hP hD hS => ?_)
  subst hw
  have hP : va_P (dC, dI) vwCl (w_R ad ca b u) H := hP
  have hD : va_D A (w_R ad ca b u) := hD
  refine wx_ci (wS := fun _ : Unit => w_E ad ca) (ws2 := fun _ : Unit => w_R ad ca b u) (va_runSN (As := [.int (f_Bk_kindOf b p0)]) (rest := []) ⟨hx, hb, hml, hown, ht⟩ (c_Ct_isMark l dC dI ad ca H.size (f_Bk_kindOf b p0) _ rfl) ⟨va_cnB 1 ht (tb_in q_315) rfl rfl rfl (hN _ nest_2) (ht _ q_42) p_Ct_isMark.2 ⟨show 0 + 1 ≤ 2 by omega, show 8 + (1 + 11) + 0 ≤ 41 by omega⟩, ht _ q_314, trivial⟩ (wx_preS (wc := (w_E ad ca)) hN hK hP hD [] [] rfl (by decide) rfl) rfl rfl hl.1 rfl (lv_room (Nat.le_of_ble_eq_true rfl)) d_Rn_putOut_8 ⟨Nat.zero_le _, Nat.zero_le _⟩) hP hD hS hA [] [0, 1, 2, 3, 4, 5, 6, 7, 8, 9, 10, 11, 12, 13, 14] [0, 1, 2, 3, 4, 5, 6, 7, 8, 9, 10, 11, 12, 13, 14] rfl rfl (by decide) (by decide) (by decide) (fun _ => rfl) (fun r_2 _ H locs hw hP hD hS => ?_)
  subst hw
  have hP : va_P (dC, dI) vwCl (w_R ad ca b u) H := hP
  have hD : va_D A (w_R ad ca b u) := hD
  refine lv_if_eq (tgt := 22) hx hb d_Rn_putOut_11 (by decide) (fun c_3 => ?_) (fun c_3 => ?_)
  · have he := he.trans (if_pos c_3)
    refine lv_aload_n hx hb d_Rn_putOut_22 rfl (lv_at hl 0 rfl) ?_
    refine va_get (D := (dC, dI)) (ci := 2) (v := .int (TRn_outSize u)) (C := R_Rn) (T := T_Rn) (N := 12) hx hb ht i_Rn hown hK hP 0 rfl rfl 6 (by decide) (ht _ q_136) (fun _ h9 => h9) rfl d_Rn_putOut_23 ?_
    refine lv_if_lt (tgt := 41) hx hb d_Rn_putOut_26 (by decide) (fun c_4 => ?_) (fun c_4 => ?_)
    · have he := he.trans (if_pos c_4)
      refine lv_aload_n hx hb d_Rn_putOut_41 rfl (lv_at hl 0 rfl) ?_
      refine lv_bipush (v := 9) hx hb d_Rn_putOut_42 (by decide) ?_
      refine wx_cv (wS := fun v : TRn => w_R ad ca b v) (ws2 := fun v : TRn => w_R ad ca b v) (va_runV (As := [.int 9]) (rest := []) ⟨hx, hb, hml, hown, ht⟩ (c_Rn_fail l dC dI ad ca H.size b u 9 _ rfl) (cwV 1 ht (tb_V q_265 q_267 q_1 q_44 q_268) rfl rfl rfl p_Rn_fail ⟨show 0 + 1 ≤ 2 by omega, show 8 + (2 + 11) + 0 ≤ 41 by omega⟩) (wx_preV (wc := (w_R ad ca b u)) hN hK hP hD [0, 1, 2, 3, 4, 5, 6, 7, 8, 9, 10, 11, 12, 13, 14] [0, 1, 2, 3, 4, 5, 6, 7, 8, 9, 10, 11] rfl (by decide) rfl (ci := 2) (q0 := 0) rfl rfl) rfl rfl hl.1 rfl (lv_room (Nat.le_of_ble_eq_true rfl)) d_Rn_putOut_44 ⟨Nat.zero_le _, Nat.zero_le _⟩) hP hD hS hA [0, 1, 2, 3, 4, 5, 6, 7, 8, 9, 10, 11, 12, 13, 14] [] [0, 1, 2, 3, 4, 5, 6, 7, 8, 9, 10, 11, 12, 13, 14] rfl rfl (by decide) (by decide) (by decide) (fun _ => rfl) (fun v_5 H locs hw hP hD hS => ?_)
      have hP : va_P (dC, dI) vwCl (w_R ad ca b v_5) H := hP
      have hD : va_D A (w_R ad ca b v_5) := hD
      rw [← hw] at he
      try dsimp only at he
      refine lv_goto (tgt := 70) hx hb d_Rn_putOut_47 (by decide) ?_
      exact W.vret hx hb hr (fun t ht hW => ⟨⟨v_5, rfl, he.symm, by rw [ht]; exact hP, va_K.moved hW.alike hK, hD⟩, hS.F ht⟩) hS.2.2 d_Rn_putOut_70
    · have he := he.trans (if_neg c_4)
      refine lv_aload_n hx hb d_Rn_putOut_29 rfl (lv_at hl 0 rfl) ?_
      refine va_get (D := (dC, dI)) (ci := 2) (v := .int (TRn_outSize u)) (C := R_Rn) (T := T_Rn) (N := 12) hx hb ht i_Rn hown hK hP 0 rfl rfl 6 (by decide) (ht _ q_136) (fun _ h9 => h9) rfl d_Rn_putOut_30 ?_
      refine lv_aload_n hx hb d_Rn_putOut_33 rfl (lv_at hl 0 rfl) ?_
      refine va_get (D := (dC, dI)) (ci := 2) (v := .ref (ad 1)) (C := R_Rn) (T := T_Rn) (N := 12) hx hb ht i_Rn hown hK hP 0 rfl rfl 2 (by decide) (ht _ q_132) (fun _ h9 => h9) rfl d_Rn_putOut_34 ?_
      refine va_alen hx hb hK hP 1 0 rfl rfl (v := 300) rfl d_Rn_putOut_37 ?_
      refine lv_icmp_lt (tgt := 50) hx hb d_Rn_putOut_38 (by decide) (fun c_6 => ?_) (fun c_6 => ?_)
      · have he := he.trans (if_pos c_6)
        refine lv_aload_n hx hb d_Rn_putOut_50 rfl (lv_at hl 0 rfl) ?_
        refine va_get (D := (dC, dI)) (ci := 2) (v := .ref (ad 1)) (C := R_Rn) (T := T_Rn) (N := 12) hx hb ht i_Rn hown hK hP 0 rfl rfl 2 (by decide) (ht _ q_132) (fun _ h9 => h9) rfl d_Rn_putOut_51 ?_
        refine lv_aload_n hx hb d_Rn_putOut_54 rfl (lv_at hl 0 rfl) ?_
        refine va_get (D := (dC, dI)) (ci := 2) (v := .int (TRn_outSize u)) (C := R_Rn) (T := T_Rn) (N := 12) hx hb ht i_Rn hown hK hP 0 rfl rfl 6 (by decide) (ht _ q_136) (fun _ h9 => h9) rfl d_Rn_putOut_55 ?_
        refine lv_iload_n hx hb d_Rn_putOut_58 rfl (lv_at hl 1 rfl) ?_
        refine va_iast hx hb hK hP hD hS 1 0 rfl rfl (wx_inAV (by decide) c_4 c_6) d_Rn_putOut_59 (fun H locs hP hD hS => ?_)
        have hP : va_P (dC, dI) vwCl (w_R ad ca b (TRn_set_out u (upd (TRn_out u) (TRn_outSize u).toNatClampNeg p0))) H := hP
        have hD : va_D A (w_R ad ca b (TRn_set_out u (upd (TRn_out u) (TRn_outSize u).toNatClampNeg p0))) := hD
        refine lv_aload_n hx hb d_Rn_putOut_60 rfl (lv_at hl 0 rfl) ?_
        refine lv_dup hx hb d_Rn_putOut_61 rfl ?_
        refine va_get (D := (dC, dI)) (ci := 2) (v := .int (TRn_outSize u)) (C := R_Rn) (T := T_Rn) (N := 12) hx hb ht i_Rn hown hK hP 0 rfl rfl 6 (by decide) (ht _ q_136) (fun _ h9 => h9) rfl d_Rn_putOut_62 ?_
        refine lv_iconst (v := 1) hx hb d_Rn_putOut_65 (by decide) ?_
        refine lv_iadd hx hb d_Rn_putOut_66 ?_
        refine va_put (D := (dC, dI)) (ci := 2) (v := .int ((TRn_outSize u) + 1)) (ty := .int) (C := R_Rn) (T := T_Rn) (N := 12) hx hb ht i_Rn ty_Rn ty_Rn_ok nm_Rn hown hK hP hD hS 0 rfl rfl 6 (by decide) (ht _ q_136) (fun _ h9 => h9) rfl (by decide +kernel) rfl rfl (Nat.le_of_ble_eq_true rfl) d_Rn_putOut_67 (fun H locs hP hD hS => ?_)
        have hP : va_P (dC, dI) vwCl (w_R ad ca b (TRn_set_outSize (TRn_set_out u (upd (TRn_out u) (TRn_outSize u).toNatClampNeg p0)) ((TRn_outSize u) + 1))) H := hP
        have hD : va_D A (w_R ad ca b (TRn_set_outSize (TRn_set_out u (upd (TRn_out u) (TRn_outSize u).toNatClampNeg p0)) ((TRn_outSize u) + 1))) := hD
        exact W.vret hx hb hr (fun t ht hW => ⟨⟨(TRn_set_outSize (TRn_set_out u (upd (TRn_out u) (TRn_outSize u).toNatClampNeg p0)) ((TRn_outSize u) + 1)), rfl, he.symm, by rw [ht]; exact hP, va_K.moved hW.alike hK, hD⟩, hS.F ht⟩) hS.2.2 d_Rn_putOut_70
      · have he := he.trans (if_neg c_6)
        refine lv_aload_n hx hb d_Rn_putOut_41 rfl (lv_at hl 0 rfl) ?_
        refine lv_bipush (v := 9) hx hb d_Rn_putOut_42 (by decide) ?_
        refine wx_cv (wS := fun v : TRn => w_R ad ca b v) (ws2 := fun v : TRn => w_R ad ca b v) (va_runV (As := [.int 9]) (rest := []) ⟨hx, hb, hml, hown, ht⟩ (c_Rn_fail l dC dI ad ca H.size b u 9 _ rfl) (cwV 1 ht (tb_V q_265 q_267 q_1 q_44 q_268) rfl rfl rfl p_Rn_fail ⟨show 0 + 1 ≤ 2 by omega, show 8 + (2 + 11) + 0 ≤ 41 by omega⟩) (wx_preV (wc := (w_R ad ca b u)) hN hK hP hD [0, 1, 2, 3, 4, 5, 6, 7, 8, 9, 10, 11, 12, 13, 14] [0, 1, 2, 3, 4, 5, 6, 7, 8, 9, 10, 11] rfl (by decide) rfl (ci := 2) (q0 := 0) rfl rfl) rfl rfl hl.1 rfl (lv_room (Nat.le_of_ble_eq_true rfl)) d_Rn_putOut_44 ⟨Nat.zero_le _, Nat.zero_le _⟩) hP hD hS hA [0, 1, 2, 3, 4, 5, 6, 7, 8, 9, 10, 11, 12, 13, 14] [] [0, 1, 2, 3, 4, 5, 6, 7, 8, 9, 10, 11, 12, 13, 14] rfl rfl (by decide) (by decide) (by decide) (fun _ => rfl) (fun v_7 H locs hw hP hD hS => ?_)
        have hP : va_P (dC, dI) vwCl (w_R ad ca b v_7) H := hP
        have hD : va_D A (w_R ad ca b v_7) := hD
        rw [← hw] at he
        try dsimp only at he
        refine lv_goto (tgt := 70) hx hb d_Rn_putOut_47 (by decide) ?_
        exact W.vret hx hb hr (fun t ht hW => ⟨⟨v_7, rfl, he.symm, by rw [ht]; exact hP, va_K.moved hW.alike hK, hD⟩, hS.F ht⟩) hS.2.2 d_Rn_putOut_70
  · have he := he.trans (if_neg c_3)
    refine lv_aload_n hx hb d_Rn_putOut_14 rfl (lv_at hl 0 rfl) ?_
    refine lv_iconst (v := 2) hx hb d_Rn_putOut_15 (by decide) ?_
    refine wx_cv (wS := fun v : TRn => w_R ad ca b v) (ws2 := fun v : TRn => w_R ad ca b v) (va_runV (As := [.int 2]) (rest := []) ⟨hx, hb, hml, hown, ht⟩ (c_Rn_fail l dC dI ad ca H.size b u 2 _ rfl) (cwV 1 ht (tb_V q_265 q_267 q_1 q_44 q_268) rfl rfl rfl p_Rn_fail ⟨show 0 + 1 ≤ 2 by omega, show 8 + (2 + 11) + 0 ≤ 41 by omega⟩) (wx_preV (wc := (w_R ad ca b u)) hN hK hP hD [0, 1, 2, 3, 4, 5, 6, 7, 8, 9, 10, 11, 12, 13, 14] [0, 1, 2, 3, 4, 5, 6, 7, 8, 9, 10, 11] rfl (by decide) rfl (ci := 2) (q0 := 0) rfl rfl) rfl rfl hl.1 rfl (lv_room (Nat.le_of_ble_eq_true rfl)) d_Rn_putOut_16 ⟨Nat.zero_le _, Nat.zero_le _⟩) hP hD hS hA [0, 1, 2, 3, 4, 5, 6, 7, 8, 9, 10, 11, 12, 13, 14] [] [0, 1, 2, 3, 4, 5, 6, 7, 8, 9, 10, 11, 12, 13, 14] rfl rfl (by decide) (by decide) (by decide) (fun _ => rfl) (fun v_8 H locs hw hP hD hS => ?_)
    have hP : va_P (dC, dI) vwCl (w_R ad ca b v_8) H := hP
    have hD : va_D A (w_R ad ca b v_8) := hD
    rw [← hw] at he
    try dsimp only at he
    refine lv_goto (tgt := 70) hx hb d_Rn_putOut_19 (by decide) ?_
    exact W.vret hx hb hr (fun t ht hW => ⟨⟨v_8, rfl, he.symm, by rw [ht]; exact hP, va_K.moved hW.alike hK, hD⟩, hS.F ht⟩) hS.2.2 d_Rn_putOut_70
def f_Rn_lookForMore (b : TBk) (u : TRn) : (Int32 × TRn) := (match f_Rd_look b (TRn_rd u) with | (r_1, v_1) => (if r_1 = (-2) then (let v_5 := f_Rn_fail b (TRn_set_rd u v_1) 9; ((-1), v_5)) else (if r_1 = (-1) then (let v_4 := f_Rn_fail b (TRn_set_rd u v_1) 1; (r_1, v_4)) else (r_1, (TRn_set_rd u v_1)))))
set_option maxHeartbeats 4000000 in
set_option maxRecDepth 100000 in
theorem c_Rn_lookForMore (l : Launch) (dC : Nat → ClassId) (dI : Nat → Nat → Nat) (ad : Nat → Nat) (ca : Nat → ClassId) (sz : Nat) (b : TBk) (u : TRn) (hpre : BkS b) (F : (Int32 × TRn)) (he : F = f_Rn_lookForMore b u) : wx_Mi l y_Rn_lookForMore ws_Rn_lookForMore ({ frames := 2, cells := 0, slots := 0, locals := 44 } : Room) (dC, dI) vwCl (t_R ca) [.ref (ad 0)] (w_R ad ca b u) sz (fun v : TRn => w_R ad ca b v) (fun (r : Int32) (v : TRn) => (r, v) = F) := by
  refine Met.ofW (cc := b_Rn_lookForMore) (maxL := 2) (ret := some .int) (by decide) rfl ?_
  intro p e s m args below meth c s₁ B hml hv
  obtain ⟨rfl, hsz, hP, hK, hD0, hN⟩ := hv
  have hx := B.exec
  have hb := B.bytes
  have hr := B.returns
  have hts := atoms_spec (ws := ws_Rn_lookForMore) B.pre
  have ht : ∀ w ∈ TB, w.before _ s = true := fun w h => hts w (List.mem_cons_of_mem _ h)
  have hown : s.vm.findClass R_Rn = some m.cls := findClass_of_methodNamed B.named
  have hlocks := B.notSynchronized
  subst hsz
  have hD := hD0.self (sz := s.heap.size)
  generalize hAe : va_A (w_R ad ca b u) s.heap.size = A at hD ⊢
  have hA : ∀ q : Nat, s.heap.size ≤ q → A q := fun q h => by rw [← hAe]; exact Or.inr h
  have hS : va_S A s.heap s.heap [] := va_S.rf
  have hl := lv_entry ([.ref (ad 0)]) (n := 2) (Nat.le_of_ble_eq_true rfl)
  rw [lg_entry_eq]
  generalize (lg_sl ([.ref (ad 0)]) ++ List.replicate (2 - (lg_sl ([.ref (ad 0)])).length) Slot.unset).toArray = ls at hl ⊢
  have hl : lv_has ls 2 [(0, .ref (ad 0))] := hl
  unfold f_Rn_lookForMore at he
  refine lv_aload_n hx hb d_Rn_lookForMore_0 rfl (lv_at hl 0 rfl) ?_
  refine va_get (D := (dC, dI)) (ci := 2) (v := .ref (ad 5)) (C := R_Rn) (T := T_Rn) (N := 12) hx hb ht i_Rn hown hK hP 0 rfl rfl 1 (by decide) (ht _ q_131) (fun _ h9 => h9) rfl d_Rn_lookForMore_1 ?_
  refine wx_ci (wS := fun v : TRd => w_D ad ca b v) (ws2 := fun v : TRd => w_R ad ca b (TRn_set_rd u v)) (va_runV (As := []) (rest := []) ⟨hx, hb, hml, hown, ht⟩ (c_Rd_look l dC dI ad ca s.heap.size b (TRn_rd u) hpre _ rfl) (cwV 0 ht (tb_V q_256 q_257 q_258 q_45 q_259) rfl rfl rfl p_Rd_look ⟨show 1 + 1 ≤ 2 by omega, show 8 + (2 + 11) + 23 ≤ 44 by omega⟩) (wx_preV (wc := (w_D ad ca b (TRn_rd u))) hN hK hP hD [5, 6, 7, 8, 9, 10, 11, 12, 13, 14] [4, 5, 6, 7, 8, 9, 10, 11] rfl (by decide) rfl (ci := 1) (q0 := 0) rfl rfl) rfl rfl hl.1 rfl (lv_room (Nat.le_of_ble_eq_true rfl)) d_Rn_lookForMore_4 ⟨Nat.zero_le _, Nat.zero_le _⟩) hP hD hS hA [5, 6, 7, 8, 9, 10, 11, 12, 13, 14] [0, 1, 2, 3, 4] [0, 1, 2, 3, 4, 5, 6, 7, 8, 9, 10, 11, 12, 13, 14] rfl rfl (by decide) (by decide) (by decide) (fun _ => rfl) (fun r_1 v_1 H locs hw hP hD hS => ?_)
  have hP : va_P (dC, dI) vwCl (w_R ad ca b (TRn_set_rd u v_1)) H := hP
  have hD : va_D A (w_R ad ca b (TRn_set_rd u v_1)) := hD
  rw [← hw] at he
  try dsimp only at he
  refine lv_istore_n (lv' := [(1, .int r_1), (0, .ref (ad 0))]) hx hb d_Rn_lookForMore_7 rfl hl (by decide) rfl (fun ls hl => ?_)
  refine lv_iload_n hx hb d_Rn_lookForMore_8 rfl (lv_at hl 0 rfl) ?_
  refine lv_bipush (v := (-2)) hx hb d_Rn_lookForMore_9 (by decide) ?_
  refine lv_icmp_ne (tgt := 22) hx hb d_Rn_lookForMore_11 (by decide) (fun c_2 => ?_) (fun c_2 => ?_)
  · have he := he.trans (if_neg c_2)
    refine lv_iload_n hx hb d_Rn_lookForMore_22 rfl (lv_at hl 0 rfl) ?_
    refine lv_iconst (v := (-1)) hx hb d_Rn_lookForMore_23 (by decide) ?_
    refine lv_icmp_ne (tgt := 32) hx hb d_Rn_lookForMore_24 (by decide) (fun c_3 => ?_) (fun c_3 => ?_)
    · have he := he.trans (if_neg c_3)
      refine lv_iload_n hx hb d_Rn_lookForMore_32 rfl (lv_at hl 0 rfl) ?_
      exact W.iret hx hb hr (v := r_1) (fun t ht hW => ⟨⟨r_1, (TRn_set_rd u v_1), rfl, he.symm, by rw [ht]; exact hP, va_K.moved hW.alike hK, hD⟩, hS.F ht⟩) hS.2.2 d_Rn_lookForMore_33
    · have he := he.trans (if_pos c_3)
      refine lv_aload_n hx hb d_Rn_lookForMore_27 rfl (lv_at hl 1 rfl) ?_
      refine lv_iconst (v := 1) hx hb d_Rn_lookForMore_28 (by decide) ?_
      refine wx_cv (wS := fun v : TRn => w_R ad ca b v) (ws2 := fun v : TRn => w_R ad ca b v) (va_runV (As := [.int 1]) (rest := []) ⟨hx, hb, hml, hown, ht⟩ (c_Rn_fail l dC dI ad ca H.size b (TRn_set_rd u v_1) 1 _ rfl) (cwV 1 ht (tb_V q_265 q_267 q_1 q_44 q_268) rfl rfl rfl p_Rn_fail ⟨show 0 + 1 ≤ 2 by omega, show 8 + (2 + 11) + 0 ≤ 44 by omega⟩) (wx_preV (wc := (w_R ad ca b (TRn_set_rd u v_1))) hN hK hP hD [0, 1, 2, 3, 4, 5, 6, 7, 8, 9, 10, 11, 12, 13, 14] [0, 1, 2, 3, 4, 5, 6, 7, 8, 9, 10, 11] rfl (by decide) rfl (ci := 2) (q0 := 0) rfl rfl) rfl rfl hl.1 rfl (lv_room (Nat.le_of_ble_eq_true rfl)) d_Rn_lookForMore_29 ⟨Nat.zero_le _, Nat.zero_le _⟩) hP hD hS hA [0, 1, 2, 3, 4, 5, 6, 7, 8, 9, 10, 11, 12, 13, 14] [] [0, 1, 2, 3, 4, 5, 6, 7, 8, 9, 10, 11, 12, 13, 14] rfl rfl (by decide) (by decide) (by decide) (fun _ => rfl) (fun v_4 H locs hw hP hD hS => ?_)
      have hP : va_P (dC, dI) vwCl (w_R ad ca b v_4) H := hP
      have hD : va_D A (w_R ad ca b v_4) := hD
      rw [← hw] at he
      try dsimp only at he
      refine lv_iload_n hx hb d_Rn_lookForMore_32 rfl (lv_at hl 0 rfl) ?_
      exact W.iret hx hb hr (v := r_1) (fun t ht hW => ⟨⟨r_1, v_4, rfl, he.symm, by rw [ht]; exact hP, va_K.moved hW.alike hK, hD⟩, hS.F ht⟩) hS.2.2 d_Rn_lookForMore_33
  · have he := he.trans (if_pos c_2)
    refine lv_aload_n hx hb d_Rn_lookForMore_14 rfl (lv_at hl 1 rfl) ?_
    refine lv_bipush (v := 9) hx hb d_Rn_lookForMore_15 (by decide) ?_
    refine wx_cv (wS := fun v : TRn => w_R ad ca b v) (ws2 := fun v : TRn => w_R ad ca b v) (va_runV (As := [.int 9]) (rest := []) ⟨hx, hb, hml, hown, ht⟩ (c_Rn_fail l dC dI ad ca H.size b (TRn_set_rd u v_1) 9 _ rfl) (cwV 1 ht (tb_V q_265 q_267 q_1 q_44 q_268) rfl rfl rfl p_Rn_fail ⟨show 0 + 1 ≤ 2 by omega, show 8 + (2 + 11) + 0 ≤ 44 by omega⟩) (wx_preV (wc := (w_R ad ca b (TRn_set_rd u v_1))) hN hK hP hD [0, 1, 2, 3, 4, 5, 6, 7, 8, 9, 10, 11, 12, 13, 14] [0, 1, 2, 3, 4, 5, 6, 7, 8, 9, 10, 11] rfl (by decide) rfl (ci := 2) (q0 := 0) rfl rfl) rfl rfl hl.1 rfl (lv_room (Nat.le_of_ble_eq_true rfl)) d_Rn_lookForMore_17 ⟨Nat.zero_le _, Nat.zero_le _⟩) hP hD hS hA [0, 1, 2, 3, 4, 5, 6, 7, 8, 9, 10, 11, 12, 13, 14] [] [0, 1, 2, 3, 4, 5, 6, 7, 8, 9, 10, 11, 12, 13, 14] rfl rfl (by decide) (by decide) (by decide) (fun _ => rfl) (fun v_5 H locs hw hP hD hS => ?_)
    have hP : va_P (dC, dI) vwCl (w_R ad ca b v_5) H := hP
    have hD : va_D A (w_R ad ca b v_5) := hD
    rw [← hw] at he
    try dsimp only at he
    refine lv_iconst (v := (-1)) hx hb d_Rn_lookForMore_20 (by decide) ?_
    exact W.iret hx hb hr (v := (-1)) (fun t ht hW => ⟨⟨(-1), v_5, rfl, he.symm, by rw [ht]; exact hP, va_K.moved hW.alike hK, hD⟩, hS.F ht⟩) hS.2.2 d_Rn_lookForMore_21
def f_Rn_isInPlace (b : TBk) (u : TRn) (p0 : Int32) : Int32 := (if ((TRn_openCount u) - 1) < 0 then 0 else (if ((TRn_openCount u) - 1) < 20 then (if p0 = 7 then (if ((TRn_isCase u) ((TRn_openCount u) - 1).toNatClampNeg) = 0 then 0 else (if ((TRn_hadElse u) ((TRn_openCount u) - 1).toNatClampNeg) = 0 then 1 else 0)) else (if p0 = 8 then 1 else (if ((TRn_hadElse u) ((TRn_openCount u) - 1).toNatClampNeg) = 0 then 1 else 0))) else 0))
set_option maxHeartbeats 4000000 in
set_option maxRecDepth 100000 in
theorem c_Rn_isInPlace (l : Launch) (dC : Nat → ClassId) (dI : Nat → Nat → Nat) (ad : Nat → Nat) (ca : Nat → ClassId) (sz : Nat) (b : TBk) (u : TRn) (p0 : Int32) (F : Int32) (he : F = f_Rn_isInPlace b u p0) : wx_Mi l y_Rn_isInPlace ws_Rn_isInPlace ({ frames := 0, cells := 0, slots := 0, locals := 0 } : Room) (dC, dI) vwCl (t_R ca) [.ref (ad 0), .int p0] (w_R ad ca b u) sz (fun _ : Unit => w_R ad ca b u) (fun (r : Int32) (_ : Unit) => r = F) := by
  refine Met.ofW (cc := b_Rn_isInPlace) (maxL := 3) (ret := some .boolean) (by decide) rfl ?_
  intro p e s m args below meth c s₁ B hml hv
  obtain ⟨rfl, hsz, hP, hK, hD0, hN⟩ := hv
  have hx := B.exec
  have hb := B.bytes
  have hr := B.returns
  have hts := atoms_spec (ws := ws_Rn_isInPlace) B.pre
  have ht : ∀ w ∈ TB, w.before _ s = true := fun w h => hts w (List.mem_cons_of_mem _ h)
  have hown : s.vm.findClass R_Rn = some m.cls := findClass_of_methodNamed B.named
  have hlocks := B.notSynchronized
  subst hsz
  have hD := hD0.self (sz := s.heap.size)
  generalize hAe : va_A (w_R ad ca b u) s.heap.size = A at hD ⊢
  have hA : ∀ q : Nat, s.heap.size ≤ q → A q := fun q h => by rw [← hAe]; exact Or.inr h
  have hS : va_S A s.heap s.heap [] := va_S.rf
  have hl := lv_entry ([.ref (ad 0), .int p0]) (n := 3) (Nat.le_of_ble_eq_true rfl)
  rw [lg_entry_eq]
  generalize (lg_sl ([.ref (ad 0), .int p0]) ++ List.replicate (3 - (lg_sl ([.ref (ad 0), .int p0])).length) Slot.unset).toArray = ls at hl ⊢
  have hl : lv_has ls 3 [(0, .ref (ad 0)), (1, .int p0)] := hl
  unfold f_Rn_isInPlace at he
  refine lv_aload_n hx hb d_Rn_isInPlace_0 rfl (lv_at hl 0 rfl) ?_
  refine va_get (D := (dC, dI)) (ci := 2) (v := .int (TRn_openCount u)) (C := R_Rn) (T := T_Rn) (N := 12) hx hb ht i_Rn hown hK hP 0 rfl rfl 7 (by decide) (ht _ q_137) (fun _ h9 => h9) rfl d_Rn_isInPlace_1 ?_
  refine lv_iconst (v := 1) hx hb d_Rn_isInPlace_4 (by decide) ?_
  refine lv_isub hx hb d_Rn_isInPlace_5 ?_
  refine lv_istore_n (lv' := [(2, .int ((TRn_openCount u) - 1)), (0, .ref (ad 0)), (1, .int p0)]) hx hb d_Rn_isInPlace_6 rfl hl (by decide) rfl (fun ls hl => ?_)
  refine lv_iload_n hx hb d_Rn_isInPlace_7 rfl (lv_at hl 0 rfl) ?_
  refine lv_if_lt (tgt := 17) hx hb d_Rn_isInPlace_8 (by decide) (fun c_1 => ?_) (fun c_1 => ?_)
  · have he := he.trans (if_pos c_1)
    refine lv_iconst (v := 0) hx hb d_Rn_isInPlace_17 (by decide) ?_
    exact W.zret hx hb hr (by rfl) (v := 0) (fun t ht hW => ⟨⟨0, (), rfl, he.symm, by rw [ht]; exact hP, va_K.moved hW.alike hK, hD⟩, hS.F ht⟩) hS.2.2 d_Rn_isInPlace_18
  · have he := he.trans (if_neg c_1)
    refine lv_iload_n hx hb d_Rn_isInPlace_11 rfl (lv_at hl 0 rfl) ?_
    refine lv_bipush (v := 20) hx hb d_Rn_isInPlace_12 (by decide) ?_
    refine lv_icmp_lt (tgt := 19) hx hb d_Rn_isInPlace_14 (by decide) (fun c_2 => ?_) (fun c_2 => ?_)
    · have he := he.trans (if_pos c_2)
      refine lv_iload_n hx hb d_Rn_isInPlace_19 rfl (lv_at hl 2 rfl) ?_
      refine lv_bipush (v := 7) hx hb d_Rn_isInPlace_20 (by decide) ?_
      refine lv_icmp_ne (tgt := 49) hx hb d_Rn_isInPlace_22 (by decide) (fun c_3 => ?_) (fun c_3 => ?_)
      · have he := he.trans (if_neg c_3)
        refine lv_iload_n hx hb d_Rn_isInPlace_49 rfl (lv_at hl 2 rfl) ?_
        refine lv_bipush (v := 8) hx hb d_Rn_isInPlace_50 (by decide) ?_
        refine lv_icmp_eq (tgt := 64) hx hb d_Rn_isInPlace_52 (by decide) (fun c_4 => ?_) (fun c_4 => ?_)
        · have he := he.trans (if_pos c_4)
          refine lv_iconst (v := 1) hx hb d_Rn_isInPlace_64 (by decide) ?_
          refine lv_goto (tgt := 69) hx hb d_Rn_isInPlace_65 (by decide) ?_
          exact W.zret hx hb hr (by rfl) (v := 1) (fun t ht hW => ⟨⟨1, (), rfl, he.symm, by rw [ht]; exact hP, va_K.moved hW.alike hK, hD⟩, hS.F ht⟩) hS.2.2 d_Rn_isInPlace_69
        · have he := he.trans (if_neg c_4)
          refine lv_aload_n hx hb d_Rn_isInPlace_55 rfl (lv_at hl 1 rfl) ?_
          refine va_get (D := (dC, dI)) (ci := 2) (v := .ref (ad 4)) (C := R_Rn) (T := T_Rn) (N := 12) hx hb ht i_Rn hown hK hP 0 rfl rfl 5 (by decide) (ht _ q_135) (fun _ h9 => h9) rfl d_Rn_isInPlace_56 ?_
          refine lv_iload_n hx hb d_Rn_isInPlace_59 rfl (lv_at hl 0 rfl) ?_
          refine va_zald hx hb hK hP 4 3 rfl rfl (wx_inAV (by decide) c_1 c_2) d_Rn_isInPlace_60 ?_
          refine lv_if_ne (tgt := 68) hx hb d_Rn_isInPlace_61 (by decide) (fun c_5 => ?_) (fun c_5 => ?_)
          · have he := he.trans (if_neg c_5)
            refine lv_iconst (v := 0) hx hb d_Rn_isInPlace_68 (by decide) ?_
            exact W.zret hx hb hr (by rfl) (v := 0) (fun t ht hW => ⟨⟨0, (), rfl, he.symm, by rw [ht]; exact hP, va_K.moved hW.alike hK, hD⟩, hS.F ht⟩) hS.2.2 d_Rn_isInPlace_69
          · have he := he.trans (if_pos c_5)
            refine lv_iconst (v := 1) hx hb d_Rn_isInPlace_64 (by decide) ?_
            refine lv_goto (tgt := 69) hx hb d_Rn_isInPlace_65 (by decide) ?_
            exact W.zret hx hb hr (by rfl) (v := 1) (fun t ht hW => ⟨⟨1, (), rfl, he.symm, by rw [ht]; exact hP, va_K.moved hW.alike hK, hD⟩, hS.F ht⟩) hS.2.2 d_Rn_isInPlace_69
      · have he := he.trans (if_pos c_3)
        refine lv_aload_n hx hb d_Rn_isInPlace_25 rfl (lv_at hl 1 rfl) ?_
        refine va_get (D := (dC, dI)) (ci := 2) (v := .ref (ad 3)) (C := R_Rn) (T := T_Rn) (N := 12) hx hb ht i_Rn hown hK hP 0 rfl rfl 4 (by decide) (ht _ q_134) (fun _ h9 => h9) rfl d_Rn_isInPlace_26 ?_
        refine lv_iload_n hx hb d_Rn_isInPlace_29 rfl (lv_at hl 0 rfl) ?_
        refine va_zald hx hb hK hP 3 2 rfl rfl (wx_inAV (by decide) c_1 c_2) d_Rn_isInPlace_30 ?_
        refine lv_if_eq (tgt := 47) hx hb d_Rn_isInPlace_31 (by decide) (fun c_6 => ?_) (fun c_6 => ?_)
        · have he := he.trans (if_pos c_6)
          refine lv_iconst (v := 0) hx hb d_Rn_isInPlace_47 (by decide) ?_
          exact W.zret hx hb hr (by rfl) (v := 0) (fun t ht hW => ⟨⟨0, (), rfl, he.symm, by rw [ht]; exact hP, va_K.moved hW.alike hK, hD⟩, hS.F ht⟩) hS.2.2 d_Rn_isInPlace_48
        · have he := he.trans (if_neg c_6)
          refine lv_aload_n hx hb d_Rn_isInPlace_34 rfl (lv_at hl 1 rfl) ?_
          refine va_get (D := (dC, dI)) (ci := 2) (v := .ref (ad 4)) (C := R_Rn) (T := T_Rn) (N := 12) hx hb ht i_Rn hown hK hP 0 rfl rfl 5 (by decide) (ht _ q_135) (fun _ h9 => h9) rfl d_Rn_isInPlace_35 ?_
          refine lv_iload_n hx hb d_Rn_isInPlace_38 rfl (lv_at hl 0 rfl) ?_
          refine va_zald hx hb hK hP 4 3 rfl rfl (wx_inAV (by decide) c_1 c_2) d_Rn_isInPlace_39 ?_
          refine lv_if_ne (tgt := 47) hx hb d_Rn_isInPlace_40 (by decide) (fun c_7 => ?_) (fun c_7 => ?_)
          · have he := he.trans (if_neg c_7)
            refine lv_iconst (v := 0) hx hb d_Rn_isInPlace_47 (by decide) ?_
            exact W.zret hx hb hr (by rfl) (v := 0) (fun t ht hW => ⟨⟨0, (), rfl, he.symm, by rw [ht]; exact hP, va_K.moved hW.alike hK, hD⟩, hS.F ht⟩) hS.2.2 d_Rn_isInPlace_48
          · have he := he.trans (if_pos c_7)
            refine lv_iconst (v := 1) hx hb d_Rn_isInPlace_43 (by decide) ?_
            refine lv_goto (tgt := 48) hx hb d_Rn_isInPlace_44 (by decide) ?_
            exact W.zret hx hb hr (by rfl) (v := 1) (fun t ht hW => ⟨⟨1, (), rfl, he.symm, by rw [ht]; exact hP, va_K.moved hW.alike hK, hD⟩, hS.F ht⟩) hS.2.2 d_Rn_isInPlace_48
    · have he := he.trans (if_neg c_2)
      refine lv_iconst (v := 0) hx hb d_Rn_isInPlace_17 (by decide) ?_
      exact W.zret hx hb hr (by rfl) (v := 0) (fun t ht hW => ⟨⟨0, (), rfl, he.symm, by rw [ht]; exact hP, va_K.moved hW.alike hK, hD⟩, hS.F ht⟩) hS.2.2 d_Rn_isInPlace_18
def f_Rn_passMark (b : TBk) (u : TRn) (p0 : Int32) : TRn := (if ((TRn_openCount u) - 1) < 0 then u else (if ((TRn_openCount u) - 1) < 20 then (if p0 = 8 then (TRn_set_openCount u ((TRn_openCount u) - 1)) else (if p0 = 6 then (TRn_set_hadElse u (upd (TRn_hadElse u) ((TRn_openCount u) - 1).toNatClampNeg (vp_nar .boolean 1))) else u)) else u))
set_option maxHeartbeats 4000000 in
set_option maxRecDepth 100000 in
theorem c_Rn_passMark (l : Launch) (dC : Nat → ClassId) (dI : Nat → Nat → Nat) (ad : Nat → Nat) (ca : Nat → ClassId) (sz : Nat) (b : TBk) (u : TRn) (p0 : Int32) (F : TRn) (he : F = f_Rn_passMark b u p0) : wx_Mv l y_Rn_passMark ws_Rn_passMark ({ frames := 0, cells := 0, slots := 0, locals := 0 } : Room) (dC, dI) vwCl (t_R ca) [.ref (ad 0), .int p0] (w_R ad ca b u) sz (fun v : TRn => w_R ad ca b v) (fun v : TRn => v = F) := by
  refine Met.ofW (cc := b_Rn_passMark) (maxL := 3) (ret := none) (by decide) rfl ?_
  intro p e s m args below meth c s₁ B hml hv
  obtain ⟨rfl, hsz, hP, hK, hD0, hN⟩ := hv
  have hx := B.exec
  have hb := B.bytes
  have hr := B.returns
  have hts := atoms_spec (ws := ws_Rn_passMark) B.pre
  have ht : ∀ w ∈ TB, w.before _ s = true := fun w h => hts w (List.mem_cons_of_mem _ h)
  have hown : s.vm.findClass R_Rn = some m.cls := findClass_of_methodNamed B.named
  have hlocks := B.notSynchronized
  subst hsz
  have hD := hD0.self (sz := s.heap.size)
  generalize hAe : va_A (w_R ad ca b u) s.heap.size = A at hD ⊢
  have hA : ∀ q : Nat, s.heap.size ≤ q → A q := fun q h => by rw [← hAe]; exact Or.inr h
  have hS : va_S A s.heap s.heap [] := va_S.rf
  have hl := lv_entry ([.ref (ad 0), .int p0]) (n := 3) (Nat.le_of_ble_eq_true rfl)
  rw [lg_entry_eq]
  generalize (lg_sl ([.ref (ad 0), .int p0]) ++ List.replicate (3 - (lg_sl ([.ref (ad 0), .int p0])).length) Slot.unset).toArray = ls at hl ⊢
  have hl : lv_has ls 3 [(0, .ref (ad 0)), (1, .int p0)] := hl
  unfold f_Rn_passMark at he
  refine lv_aload_n hx hb d_Rn_passMark_0 rfl (lv_at hl 0 rfl) ?_
  refine va_get (D := (dC, dI)) (ci := 2) (v := .int (TRn_openCount u)) (C := R_Rn) (T := T_Rn) (N := 12) hx hb ht i_Rn hown hK hP 0 rfl rfl 7 (by decide) (ht _ q_137) (fun _ h9 => h9) rfl d_Rn_passMark_1 ?_
  refine lv_iconst (v := 1) hx hb d_Rn_passMark_4 (by decide) ?_
  refine lv_isub hx hb d_Rn_passMark_5 ?_
  refine lv_istore_n (lv' := [(2, .int ((TRn_openCount u) - 1)), (0, .ref (ad 0)), (1, .int p0)]) hx hb d_Rn_passMark_6 rfl hl (by decide) rfl (fun ls hl => ?_)
  refine lv_iload_n hx hb d_Rn_passMark_7 rfl (lv_at hl 0 rfl) ?_
  refine lv_if_lt (tgt := 17) hx hb d_Rn_passMark_8 (by decide) (fun c_1 => ?_) (fun c_1 => ?_)
  · have he := he.trans (if_pos c_1)
    exact W.vret hx hb hr (fun t ht hW => ⟨⟨u, rfl, he.symm, by rw [ht]; exact hP, va_K.moved hW.alike hK, hD⟩, hS.F ht⟩) hS.2.2 d_Rn_passMark_17
  · have he := he.trans (if_neg c_1)
    refine lv_iload_n hx hb d_Rn_passMark_11 rfl (lv_at hl 0 rfl) ?_
    refine lv_bipush (v := 20) hx hb d_Rn_passMark_12 (by decide) ?_
    refine lv_icmp_lt (tgt := 18) hx hb d_Rn_passMark_14 (by decide) (fun c_2 => ?_) (fun c_2 => ?_)
    · have he := he.trans (if_pos c_2)
      refine lv_iload_n hx hb d_Rn_passMark_18 rfl (lv_at hl 2 rfl) ?_
      refine lv_bipush (v := 8) hx hb d_Rn_passMark_19 (by decide) ?_
      refine lv_icmp_ne (tgt := 32) hx hb d_Rn_passMark_21 (by decide) (fun c_3 => ?_) (fun c_3 => ?_)
      · have he := he.trans (if_neg c_3)
        refine lv_iload_n hx hb d_Rn_passMark_32 rfl (lv_at hl 2 rfl) ?_
        refine lv_bipush (v := 6) hx hb d_Rn_passMark_33 (by decide) ?_
        refine lv_icmp_ne (tgt := 45) hx hb d_Rn_passMark_35 (by decide) (fun c_4 => ?_) (fun c_4 => ?_)
        · have he := he.trans (if_neg c_4)
          exact W.vret hx hb hr (fun t ht hW => ⟨⟨u, rfl, he.symm, by rw [ht]; exact hP, va_K.moved hW.alike hK, hD⟩, hS.F ht⟩) hS.2.2 d_Rn_passMark_45
        · have he := he.trans (if_pos c_4)
          refine lv_aload_n hx hb d_Rn_passMark_38 rfl (lv_at hl 1 rfl) ?_
          refine va_get (D := (dC, dI)) (ci := 2) (v := .ref (ad 4)) (C := R_Rn) (T := T_Rn) (N := 12) hx hb ht i_Rn hown hK hP 0 rfl rfl 5 (by decide) (ht _ q_135) (fun _ h9 => h9) rfl d_Rn_passMark_39 ?_
          refine lv_iload_n hx hb d_Rn_passMark_42 rfl (lv_at hl 0 rfl) ?_
          refine lv_iconst (v := 1) hx hb d_Rn_passMark_43 (by decide) ?_
          refine va_zast hx hb hK hP hD hS 4 3 rfl rfl (wx_inAV (by decide) c_1 c_2) d_Rn_passMark_44 (fun H locs hP hD hS => ?_)
          have hP : va_P (dC, dI) vwCl (w_R ad ca b (TRn_set_hadElse u (upd (TRn_hadElse u) ((TRn_openCount u) - 1).toNatClampNeg (vp_nar .boolean 1)))) H := hP
          have hD : va_D A (w_R ad ca b (TRn_set_hadElse u (upd (TRn_hadElse u) ((TRn_openCount u) - 1).toNatClampNeg (vp_nar .boolean 1)))) := hD
          exact W.vret hx hb hr (fun t ht hW => ⟨⟨(TRn_set_hadElse u (upd (TRn_hadElse u) ((TRn_openCount u) - 1).toNatClampNeg (vp_nar .boolean 1))), rfl, he.symm, by rw [ht]; exact hP, va_K.moved hW.alike hK, hD⟩, hS.F ht⟩) hS.2.2 d_Rn_passMark_45
      · have he := he.trans (if_pos c_3)
        refine lv_aload_n hx hb d_Rn_passMark_24 rfl (lv_at hl 1 rfl) ?_
        refine lv_iload_n hx hb d_Rn_passMark_25 rfl (lv_at hl 0 rfl) ?_
        refine va_put (D := (dC, dI)) (ci := 2) (v := .int ((TRn_openCount u) - 1)) (ty := .int) (C := R_Rn) (T := T_Rn) (N := 12) hx hb ht i_Rn ty_Rn ty_Rn_ok nm_Rn hown hK hP hD hS 0 rfl rfl 7 (by decide) (ht _ q_137) (fun _ h9 => h9) rfl (by decide +kernel) rfl rfl (Nat.le_of_ble_eq_true rfl) d_Rn_passMark_26 (fun H locs hP hD hS => ?_)
        have hP : va_P (dC, dI) vwCl (w_R ad ca b (TRn_set_openCount u ((TRn_openCount u) - 1))) H := hP
        have hD : va_D A (w_R ad ca b (TRn_set_openCount u ((TRn_openCount u) - 1))) := hD
        refine lv_goto (tgt := 45) hx hb d_Rn_passMark_29 (by decide) ?_
        exact W.vret hx hb hr (fun t ht hW => ⟨⟨(TRn_set_openCount u ((TRn_openCount u) - 1)), rfl, he.symm, by rw [ht]; exact hP, va_K.moved hW.alike hK, hD⟩, hS.F ht⟩) hS.2.2 d_Rn_passMark_45
    · have he := he.trans (if_neg c_2)
      exact W.vret hx hb hr (fun t ht hW => ⟨⟨u, rfl, he.symm, by rw [ht]; exact hP, va_K.moved hW.alike hK, hD⟩, hS.F ht⟩) hS.2.2 d_Rn_passMark_17
