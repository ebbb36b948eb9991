theorem q_17 : Cond.selects R_Rn y_Rn_skip y_Rn_skip ∈ TB := tq 17 (by decide +kernel) rfl
theorem q_330 : Cond.methodLink R_Rn 174 y_Bk_meanTheSame ∈ TB := tq 330 (by decide +kernel) rfl
theorem q_331 : Cond.instanceMethod y_Bk_meanTheSame ∈ TB := tq 331 (by decide +kernel) rfl
theorem q_332 : Cond.selects R_Bk y_Bk_meanTheSame y_Bk_meanTheSame ∈ TB := tq 332 (by decide +kernel) rfl
theorem q_333 : Cond.code y_Bk_meanTheSame b_Bk_meanTheSame 4 (some .boolean) ∈ TB := tq 333 (by decide +kernel) rfl
theorem q_377 : Cond.methodLink R_Rn 126 y_Rn_skip ∈ TB := tq 377 (by decide +kernel) rfl
theorem q_379 : Cond.instanceMethod y_Rn_skip ∈ TB := tq 379 (by decide +kernel) rfl
theorem q_380 : Cond.code y_Rn_skip b_Rn_skip 8 (none : Option Jvm.ClassFile.FieldType) ∈ TB := tq 380 (by decide +kernel) rfl
theorem q_413 : Cond.methodLink R_Rn 70 y_Rd_stepsMade ∈ TB := tq 413 (by decide +kernel) rfl
theorem q_414 : Cond.instanceMethod y_Rd_stepsMade ∈ TB := tq 414 (by decide +kernel) rfl
theorem q_415 : Cond.selects R_Rd y_Rd_stepsMade y_Rd_stepsMade ∈ TB := tq 415 (by decide +kernel) rfl
theorem q_416 : Cond.code y_Rd_stepsMade b_Rd_stepsMade 1 (some .int) ∈ TB := tq 416 (by decide +kernel) rfl
theorem d_Rn_meetMark_0 : decode b_Rn_meetMark 0 = .ok (.aload_n 0, 1) := by decide +kernel
theorem d_Rn_meetMark_1 : decode b_Rn_meetMark 1 = .ok (.iload_n 1, 1) := by decide +kernel
theorem d_Rn_meetMark_2 : decode b_Rn_meetMark 2 = .ok (.invokevirtual 130, 3) := by decide +kernel
theorem d_Rn_meetMark_5 : decode b_Rn_meetMark 5 = .ok (.ifCond .ne 9, 3) := by decide +kernel
theorem d_Rn_meetMark_8 : decode b_Rn_meetMark 8 = .ok (.aload_n 0, 1) := by decide +kernel
theorem d_Rn_meetMark_9 : decode b_Rn_meetMark 9 = .ok (.iconst 2, 1) := by decide +kernel
theorem d_Rn_meetMark_10 : decode b_Rn_meetMark 10 = .ok (.invokevirtual 53, 3) := by decide +kernel
theorem d_Rn_meetMark_13 : decode b_Rn_meetMark 13 = .ok (.return_, 1) := by decide +kernel
theorem d_Rn_meetMark_14 : decode b_Rn_meetMark 14 = .ok (.aload_n 0, 1) := by decide +kernel
theorem d_Rn_meetMark_15 : decode b_Rn_meetMark 15 = .ok (.iload_n 1, 1) := by decide +kernel
theorem d_Rn_meetMark_16 : decode b_Rn_meetMark 16 = .ok (.invokevirtual 133, 3) := by decide +kernel
theorem d_Rn_meetMark_19 : decode b_Rn_meetMark 19 = .ok (.iload_n 1, 1) := by decide +kernel
theorem d_Rn_meetMark_20 : decode b_Rn_meetMark 20 = .ok (.bipush 8, 2) := by decide +kernel
theorem d_Rn_meetMark_22 : decode b_Rn_meetMark 22 = .ok (.if_icmp .eq 9, 3) := by decide +kernel
theorem d_Rn_meetMark_25 : decode b_Rn_meetMark 25 = .ok (.aload_n 0, 1) := by decide +kernel
theorem d_Rn_meetMark_26 : decode b_Rn_meetMark 26 = .ok (.iconst 0, 1) := by decide +kernel
theorem d_Rn_meetMark_27 : decode b_Rn_meetMark 27 = .ok (.iconst 0, 1) := by decide +kernel
theorem d_Rn_meetMark_28 : decode b_Rn_meetMark 28 = .ok (.invokevirtual 126, 3) := by decide +kernel
theorem d_Rn_meetMark_31 : decode b_Rn_meetMark 31 = .ok (.return_, 1) := by decide +kernel
theorem d_Rn_decide_0 : decode b_Rn_decide 0 = .ok (.iload_n 1, 1) := by decide +kernel
theorem d_Rn_decide_1 : decode b_Rn_decide 1 = .ok (.bipush 7, 2) := by decide +kernel
theorem d_Rn_decide_3 : decode b_Rn_decide 3 = .ok (.if_icmp .ne 7, 3) := by decide +kernel
theorem d_Rn_decide_6 : decode b_Rn_decide 6 = .ok (.iconst 1, 1) := by decide +kernel
theorem d_Rn_decide_7 : decode b_Rn_decide 7 = .ok (.goto 4, 3) := by decide +kernel
theorem d_Rn_decide_10 : decode b_Rn_decide 10 = .ok (.iconst 0, 1) := by decide +kernel
theorem d_Rn_decide_11 : decode b_Rn_decide 11 = .ok (.istore 4, 2) := by decide +kernel
theorem d_Rn_decide_13 : decode b_Rn_decide 13 = .ok (.iload_n 2, 1) := by decide +kernel
theorem d_Rn_decide_14 : decode b_Rn_decide 14 = .ok (.ifCond .lt 38, 3) := by decide +kernel
theorem d_Rn_decide_17 : decode b_Rn_decide 17 = .ok (.iload_n 2, 1) := by decide +kernel
theorem d_Rn_decide_18 : decode b_Rn_decide 18 = .ok (.aload_n 0, 1) := by decide +kernel
theorem d_Rn_decide_19 : decode b_Rn_decide 19 = .ok (.getfield 15, 3) := by decide +kernel
theorem d_Rn_decide_22 : decode b_Rn_decide 22 = .ok (.arraylength, 1) := by decide +kernel
theorem d_Rn_decide_23 : decode b_Rn_decide 23 = .ok (.if_icmp .ge 29, 3) := by decide +kernel
theorem d_Rn_decide_26 : decode b_Rn_decide 26 = .ok (.aload_n 0, 1) := by decide +kernel
theorem d_Rn_decide_27 : decode b_Rn_decide 27 = .ok (.getfield 15, 3) := by decide +kernel
theorem d_Rn_decide_30 : decode b_Rn_decide 30 = .ok (.iload_n 2, 1) := by decide +kernel
theorem d_Rn_decide_31 : decode b_Rn_decide 31 = .ok (.iload 4, 2) := by decide +kernel
theorem d_Rn_decide_33 : decode b_Rn_decide 33 = .ok (.ifCond .ne 7, 3) := by decide +kernel
theorem d_Rn_decide_36 : decode b_Rn_decide 36 = .ok (.iload_n 3, 1) := by decide +kernel
theorem d_Rn_decide_37 : decode b_Rn_decide 37 = .ok (.goto 14, 3) := by decide +kernel
theorem d_Rn_decide_40 : decode b_Rn_decide 40 = .ok (.iload_n 3, 1) := by decide +kernel
theorem d_Rn_decide_41 : decode b_Rn_decide 41 = .ok (.ifCond .ge 7, 3) := by decide +kernel
theorem d_Rn_decide_44 : decode b_Rn_decide 44 = .ok (.iconst (-1), 1) := by decide +kernel
theorem d_Rn_decide_45 : decode b_Rn_decide 45 = .ok (.goto 6, 3) := by decide +kernel
theorem d_Rn_decide_48 : decode b_Rn_decide 48 = .ok (.iload_n 3, 1) := by decide +kernel
theorem d_Rn_decide_49 : decode b_Rn_decide 49 = .ok (.iconst 2, 1) := by decide +kernel
theorem d_Rn_decide_50 : decode b_Rn_decide 50 = .ok (.iadd, 1) := by decide +kernel
theorem d_Rn_decide_51 : decode b_Rn_decide 51 = .ok (.iastore, 1) := by decide +kernel
theorem d_Rn_decide_52 : decode b_Rn_decide 52 = .ok (.iload 4, 2) := by decide +kernel
theorem d_Rn_decide_54 : decode b_Rn_decide 54 = .ok (.ifCond .eq 15, 3) := by decide +kernel
theorem d_Rn_decide_57 : decode b_Rn_decide 57 = .ok (.iload_n 3, 1) := by decide +kernel
theorem d_Rn_decide_58 : decode b_Rn_decide 58 = .ok (.ifCond .eq 7, 3) := by decide +kernel
theorem d_Rn_decide_61 : decode b_Rn_decide 61 = .ok (.iconst 1, 1) := by decide +kernel
theorem d_Rn_decide_62 : decode b_Rn_decide 62 = .ok (.goto 16, 3) := by decide +kernel
theorem d_Rn_decide_65 : decode b_Rn_decide 65 = .ok (.iconst 0, 1) := by decide +kernel
theorem d_Rn_decide_66 : decode b_Rn_decide 66 = .ok (.goto 12, 3) := by decide +kernel
theorem d_Rn_decide_69 : decode b_Rn_decide 69 = .ok (.iload_n 3, 1) := by decide +kernel
theorem d_Rn_decide_70 : decode b_Rn_decide 70 = .ok (.ifCond .ne 7, 3) := by decide +kernel
theorem d_Rn_decide_73 : decode b_Rn_decide 73 = .ok (.iconst 1, 1) := by decide +kernel
theorem d_Rn_decide_74 : decode b_Rn_decide 74 = .ok (.goto 4, 3) := by decide +kernel
theorem d_Rn_decide_77 : decode b_Rn_decide 77 = .ok (.iconst 0, 1) := by decide +kernel
theorem d_Rn_decide_78 : decode b_Rn_decide 78 = .ok (.istore 5, 2) := by decide +kernel
theorem d_Rn_decide_80 : decode b_Rn_decide 80 = .ok (.iload 5, 2) := by decide +kernel
theorem d_Rn_decide_82 : decode b_Rn_decide 82 = .ok (.ifCond .eq 18, 3) := by decide +kernel
theorem d_Rn_decide_85 : decode b_Rn_decide 85 = .ok (.aload_n 0, 1) := by decide +kernel
theorem d_Rn_decide_86 : decode b_Rn_decide 86 = .ok (.iload 4, 2) := by decide +kernel
theorem d_Rn_decide_88 : decode b_Rn_decide 88 = .ok (.ifCond .eq 7, 3) := by decide +kernel
theorem d_Rn_decide_91 : decode b_Rn_decide 91 = .ok (.iload_n 3, 1) := by decide +kernel
theorem d_Rn_decide_92 : decode b_Rn_decide 92 = .ok (.goto 4, 3) := by decide +kernel
theorem d_Rn_decide_95 : decode b_Rn_decide 95 = .ok (.iconst 0, 1) := by decide +kernel
theorem d_Rn_decide_96 : decode b_Rn_decide 96 = .ok (.iconst 1, 1) := by decide +kernel
theorem d_Rn_decide_97 : decode b_Rn_decide 97 = .ok (.invokevirtual 126, 3) := by decide +kernel
theorem d_Rn_decide_100 : decode b_Rn_decide 100 = .ok (.return_, 1) := by decide +kernel
theorem d_Rn_compareMeanings_0 : decode b_Rn_compareMeanings 0 = .ok (.aload_n 0, 1) := by decide +kernel
theorem d_Rn_compareMeanings_1 : decode b_Rn_compareMeanings 1 = .ok (.invokevirtual 136, 3) := by decide +kernel
theorem d_Rn_compareMeanings_4 : decode b_Rn_compareMeanings 4 = .ok (.istore_n 1, 1) := by decide +kernel
theorem d_Rn_compareMeanings_5 : decode b_Rn_compareMeanings 5 = .ok (.aload_n 0, 1) := by decide +kernel
theorem d_Rn_compareMeanings_6 : decode b_Rn_compareMeanings 6 = .ok (.getfield 45, 3) := by decide +kernel
theorem d_Rn_compareMeanings_9 : decode b_Rn_compareMeanings 9 = .ok (.ifCond .eq 5, 3) := by decide +kernel
theorem d_Rn_compareMeanings_12 : decode b_Rn_compareMeanings 12 = .ok (.iconst 0, 1) := by decide +kernel
theorem d_Rn_compareMeanings_13 : decode b_Rn_compareMeanings 13 = .ok (.ireturn, 1) := by decide +kernel
theorem d_Rn_compareMeanings_14 : decode b_Rn_compareMeanings 14 = .ok (.aload_n 0, 1) := by decide +kernel
theorem d_Rn_compareMeanings_15 : decode b_Rn_compareMeanings 15 = .ok (.invokevirtual 136, 3) := by decide +kernel
theorem d_Rn_compareMeanings_18 : decode b_Rn_compareMeanings 18 = .ok (.istore_n 2, 1) := by decide +kernel
theorem d_Rn_compareMeanings_19 : decode b_Rn_compareMeanings 19 = .ok (.aload_n 0, 1) := by decide +kernel
theorem d_Rn_compareMeanings_20 : decode b_Rn_compareMeanings 20 = .ok (.getfield 45, 3) := by decide +kernel
theorem d_Rn_compareMeanings_23 : decode b_Rn_compareMeanings 23 = .ok (.ifCond .eq 5, 3) := by decide +kernel
theorem d_Rn_compareMeanings_26 : decode b_Rn_compareMeanings 26 = .ok (.iconst 0, 1) := by decide +kernel
theorem d_Rn_compareMeanings_27 : decode b_Rn_compareMeanings 27 = .ok (.ireturn, 1) := by decide +kernel
theorem d_Rn_compareMeanings_28 : decode b_Rn_compareMeanings 28 = .ok (.aload_n 0, 1) := by decide +kernel
theorem d_Rn_compareMeanings_29 : decode b_Rn_compareMeanings 29 = .ok (.getfield 25, 3) := by decide +kernel
theorem d_Rn_compareMeanings_32 : decode b_Rn_compareMeanings 32 = .ok (.iload_n 1, 1) := by decide +kernel
theorem d_Rn_compareMeanings_33 : decode b_Rn_compareMeanings 33 = .ok (.iload_n 2, 1) := by decide +kernel
theorem d_Rn_compareMeanings_34 : decode b_Rn_compareMeanings 34 = .ok (.invokevirtual 174, 3) := by decide +kernel
theorem d_Rn_compareMeanings_37 : decode b_Rn_compareMeanings 37 = .ok (.ifCond .eq 7, 3) := by decide +kernel
theorem d_Rn_compareMeanings_40 : decode b_Rn_compareMeanings 40 = .ok (.iconst 1, 1) := by decide +kernel
theorem d_Rn_compareMeanings_41 : decode b_Rn_compareMeanings 41 = .ok (.goto 4, 3) := by decide +kernel
theorem d_Rn_compareMeanings_44 : decode b_Rn_compareMeanings 44 = .ok (.iconst 0, 1) := by decide +kernel
theorem d_Rn_compareMeanings_45 : decode b_Rn_compareMeanings 45 = .ok (.ireturn, 1) := by decide +kernel
theorem d_Rn_askWhetherKnown_0 : decode b_Rn_askWhetherKnown 0 = .ok (.aload_n 0, 1) := by decide +kernel
theorem d_Rn_askWhetherKnown_1 : decode b_Rn_askWhetherKnown 1 = .ok (.invokevirtual 136, 3) := by decide +kernel
theorem d_Rn_askWhetherKnown_4 : decode b_Rn_askWhetherKnown 4 = .ok (.istore_n 1, 1) := by decide +kernel
theorem d_Rn_askWhetherKnown_5 : decode b_Rn_askWhetherKnown 5 = .ok (.aload_n 0, 1) := by decide +kernel
theorem d_Rn_askWhetherKnown_6 : decode b_Rn_askWhetherKnown 6 = .ok (.getfield 45, 3) := by decide +kernel
theorem d_Rn_askWhetherKnown_9 : decode b_Rn_askWhetherKnown 9 = .ok (.ifCond .ne 18, 3) := by decide +kernel
theorem d_Rn_askWhetherKnown_12 : decode b_Rn_askWhetherKnown 12 = .ok (.aload_n 0, 1) := by decide +kernel
theorem d_Rn_askWhetherKnown_13 : decode b_Rn_askWhetherKnown 13 = .ok (.getfield 25, 3) := by decide +kernel
theorem d_Rn_askWhetherKnown_16 : decode b_Rn_askWhetherKnown 16 = .ok (.iload_n 1, 1) := by decide +kernel
theorem d_Rn_askWhetherKnown_17 : decode b_Rn_askWhetherKnown 17 = .ok (.invokevirtual 88, 3) := by decide +kernel
theorem d_Rn_askWhetherKnown_20 : decode b_Rn_askWhetherKnown 20 = .ok (.ifCond .eq 7, 3) := by decide +kernel
theorem d_Rn_askWhetherKnown_23 : decode b_Rn_askWhetherKnown 23 = .ok (.iconst 1, 1) := by decide +kernel
theorem d_Rn_askWhetherKnown_24 : decode b_Rn_askWhetherKnown 24 = .ok (.goto 4, 3) := by decide +kernel
theorem d_Rn_askWhetherKnown_27 : decode b_Rn_askWhetherKnown 27 = .ok (.iconst 0, 1) := by decide +kernel
theorem d_Rn_askWhetherKnown_28 : decode b_Rn_askWhetherKnown 28 = .ok (.ireturn, 1) := by decide +kernel
theorem d_Rn_putOutAt_0 : decode b_Rn_putOutAt 0 = .ok (.iload_n 1, 1) := by decide +kernel
theorem d_Rn_putOutAt_1 : decode b_Rn_putOutAt 1 = .ok (.ifCond .lt 29, 3) := by decide +kernel
theorem d_Rn_putOutAt_4 : decode b_Rn_putOutAt 4 = .ok (.iload_n 1, 1) := by decide +kernel
theorem d_Rn_putOutAt_5 : decode b_Rn_putOutAt 5 = .ok (.aload_n 0, 1) := by decide +kernel
theorem d_Rn_putOutAt_6 : decode b_Rn_putOutAt 6 = .ok (.getfield 67, 3) := by decide +kernel
theorem d_Rn_putOutAt_9 : decode b_Rn_putOutAt 9 = .ok (.if_icmp .ge 21, 3) := by decide +kernel
theorem d_Rn_putOutAt_12 : decode b_Rn_putOutAt 12 = .ok (.iload_n 1, 1) := by decide +kernel
theorem d_Rn_putOutAt_13 : decode b_Rn_putOutAt 13 = .ok (.aload_n 0, 1) := by decide +kernel
theorem d_Rn_putOutAt_14 : decode b_Rn_putOutAt 14 = .ok (.getfield 9, 3) := by decide +kernel
theorem d_Rn_putOutAt_17 : decode b_Rn_putOutAt 17 = .ok (.arraylength, 1) := by decide +kernel
theorem d_Rn_putOutAt_18 : decode b_Rn_putOutAt 18 = .ok (.if_icmp .ge 12, 3) := by decide +kernel
theorem d_Rn_putOutAt_21 : decode b_Rn_putOutAt 21 = .ok (.aload_n 0, 1) := by decide +kernel
theorem d_Rn_putOutAt_22 : decode b_Rn_putOutAt 22 = .ok (.getfield 9, 3) := by decide +kernel
theorem d_Rn_putOutAt_25 : decode b_Rn_putOutAt 25 = .ok (.iload_n 1, 1) := by decide +kernel
theorem d_Rn_putOutAt_26 : decode b_Rn_putOutAt 26 = .ok (.iaload, 1) := by decide +kernel
theorem d_Rn_putOutAt_27 : decode b_Rn_putOutAt 27 = .ok (.goto 4, 3) := by decide +kernel
theorem d_Rn_putOutAt_30 : decode b_Rn_putOutAt 30 = .ok (.iconst (-1), 1) := by decide +kernel
theorem d_Rn_putOutAt_31 : decode b_Rn_putOutAt 31 = .ok (.ireturn, 1) := by decide +kernel
theorem d_Rn_decisionOf_0 : decode b_Rn_decisionOf 0 = .ok (.iload_n 1, 1) := by decide +kernel
theorem d_Rn_decisionOf_1 : decode b_Rn_decisionOf 1 = .ok (.ifCond .lt 21, 3) := by decide +kernel
theorem d_Rn_decisionOf_4 : decode b_Rn_decisionOf 4 = .ok (.iload_n 1, 1) := by decide +kernel
theorem d_Rn_decisionOf_5 : decode b_Rn_decisionOf 5 = .ok (.aload_n 0, 1) := by decide +kernel
theorem d_Rn_decisionOf_6 : decode b_Rn_decisionOf 6 = .ok (.getfield 15, 3) := by decide +kernel
theorem d_Rn_decisionOf_9 : decode b_Rn_decisionOf 9 = .ok (.arraylength, 1) := by decide +kernel
theorem d_Rn_decisionOf_10 : decode b_Rn_decisionOf 10 = .ok (.if_icmp .ge 12, 3) := by decide +kernel
theorem d_Rn_decisionOf_13 : decode b_Rn_decisionOf 13 = .ok (.aload_n 0, 1) := by decide +kernel
theorem d_Rn_decisionOf_14 : decode b_Rn_decisionOf 14 = .ok (.getfield 15, 3) := by decide +kernel
theorem d_Rn_decisionOf_17 : decode b_Rn_decisionOf 17 = .ok (.iload_n 1, 1) := by decide +kernel
theorem d_Rn_decisionOf_18 : decode b_Rn_decisionOf 18 = .ok (.iaload, 1) := by decide +kernel
theorem d_Rn_decisionOf_19 : decode b_Rn_decisionOf 19 = .ok (.goto 5, 3) := by decide +kernel
theorem d_Rn_decisionOf_22 : decode b_Rn_decisionOf 22 = .ok (.bipush (-5), 2) := by decide +kernel
theorem d_Rn_decisionOf_24 : decode b_Rn_decisionOf 24 = .ok (.ireturn, 1) := by decide +kernel
theorem d_Rn_tell_0 : decode b_Rn_tell 0 = .ok (.iload_n 1, 1) := by decide +kernel
theorem d_Rn_tell_1 : decode b_Rn_tell 1 = .ok (.tableswitch 81 0 6 #[43, 51, 56, 61, 66, 71, 76], 43) := by decide +kernel
theorem d_Rn_tell_44 : decode b_Rn_tell 44 = .ok (.aload_n 0, 1) := by decide +kernel
theorem d_Rn_tell_45 : decode b_Rn_tell 45 = .ok (.getfield 34, 3) := by decide +kernel
theorem d_Rn_tell_48 : decode b_Rn_tell 48 = .ok (.invokevirtual 70, 3) := by decide +kernel
theorem d_Rn_tell_51 : decode b_Rn_tell 51 = .ok (.ireturn, 1) := by decide +kernel
theorem d_Rn_tell_52 : decode b_Rn_tell 52 = .ok (.aload_n 0, 1) := by decide +kernel
theorem d_Rn_tell_53 : decode b_Rn_tell 53 = .ok (.getfield 67, 3) := by decide +kernel
theorem d_Rn_tell_56 : decode b_Rn_tell 56 = .ok (.ireturn, 1) := by decide +kernel
theorem d_Rn_tell_57 : decode b_Rn_tell 57 = .ok (.aload_n 0, 1) := by decide +kernel
theorem d_Rn_tell_58 : decode b_Rn_tell 58 = .ok (.getfield 73, 3) := by decide +kernel
theorem d_Rn_tell_61 : decode b_Rn_tell 61 = .ok (.ireturn, 1) := by decide +kernel
theorem d_Rn_tell_62 : decode b_Rn_tell 62 = .ok (.aload_n 0, 1) := by decide +kernel
theorem d_Rn_tell_63 : decode b_Rn_tell 63 = .ok (.getfield 76, 3) := by decide +kernel
theorem d_Rn_tell_66 : decode b_Rn_tell 66 = .ok (.ireturn, 1) := by decide +kernel
theorem d_Rn_tell_67 : decode b_Rn_tell 67 = .ok (.aload_n 0, 1) := by decide +kernel
theorem d_Rn_tell_68 : decode b_Rn_tell 68 = .ok (.getfield 79, 3) := by decide +kernel
theorem d_Rn_tell_71 : decode b_Rn_tell 71 = .ok (.ireturn, 1) := by decide +kernel
theorem d_Rn_tell_72 : decode b_Rn_tell 72 = .ok (.aload_n 0, 1) := by decide +kernel
theorem d_Rn_tell_73 : decode b_Rn_tell 73 = .ok (.getfield 64, 3) := by decide +kernel
theorem d_Rn_tell_76 : decode b_Rn_tell 76 = .ok (.ireturn, 1) := by decide +kernel
theorem d_Rn_tell_77 : decode b_Rn_tell 77 = .ok (.aload_n 0, 1) := by decide +kernel
theorem d_Rn_tell_78 : decode b_Rn_tell 78 = .ok (.getfield 45, 3) := by decide +kernel
theorem d_Rn_tell_81 : decode b_Rn_tell 81 = .ok (.ireturn, 1) := by decide +kernel
theorem d_Rn_tell_82 : decode b_Rn_tell 82 = .ok (.bipush (-2), 2) := by decide +kernel
theorem d_Rn_tell_84 : decode b_Rn_tell 84 = .ok (.ireturn, 1) := by decide +kernel
noncomputable def f_Rn_meetMark (b : TBk) (u : TRn) (p0 : Int32) : TRn := (if (f_Rn_isInPlace b u p0) = 0 then (let v_6 := f_Rn_fail b u 2; v_6) else (let v_3 := f_Rn_passMark b u p0; (if p0 = 8 then v_3 else (let v_5 := f_Rn_skip b v_3 0 0; v_5))))
set_option maxHeartbeats 4000000 in
set_option maxRecDepth 100000 in
theorem c_Rn_meetMark (l : Launch) (dC : Nat → ClassId) (dI : Nat → Nat → Nat) (ad : Nat → Nat) (ca : Nat → ClassId) (sz : Nat) (b : TBk) (u : TRn) (p0 : Int32) (hpre : BkS b) (F : TRn) (he : F = f_Rn_meetMark b u p0) : wx_Mv l y_Rn_meetMark ws_Rn_meetMark ({ frames := 4, cells := 0, slots := 0, locals := 92 } : Room) (dC, dI) vwCl (t_R ca) [.ref (ad 0), .int p0] (w_R ad ca b u) sz (fun v : TRn => w_R ad ca b v) (fun v : TRn => v = F) := by
  refine Met.ofW (cc := b_Rn_meetMark) (maxL := 2) (ret := none) (by decide) rfl ?_
  intro p e s m args below meth c s₁ B hml hv
  obtain ⟨rfl, hsz, hP, hK, hD0, hN⟩ := hv
  have hx := B.exec
  have hb := B.bytes
  have hr := B.returns
  have hts := atoms_spec (ws := ws_Rn_meetMark) B.pre
  have ht : ∀ w ∈ TB, w.before _ s = true := fun w h => hts w (List.mem_cons_of_mem _ h)
  have hown : s.vm.findClass R_Rn = some m.cls := findClass_of_methodNamed B.named
  have hlocks := B.notSynchronized
  subst hsz
  have hD := hD0.self (sz := s.heap.size)
  generalize hAe : va_A (w_R ad ca b u) s.heap.size = A at hD ⊢
  have hA : ∀ q : Nat, s.heap.size ≤ q → A q := fun q h => by rw [← hAe]; exact Or.inr h
  have hS : va_S A s.heap s.heap [] := va_S.rf
  have hl := lv_entry ([.ref (ad 0), .int p0]) (n := 2) (Nat.le_of_ble_eq_true rfl)
  rw [lg_entry_eq]
  generalize (lg_sl ([.ref (ad 0), .int p0]) ++ List.replicate (2 - (lg_sl ([.ref (ad 0), .int p0])).length) Slot.unset).toArray = ls at hl ⊢
  have hl : lv_has ls 2 [(0, .ref (ad 0)), (1, .int p0)] := hl
  unfold f_Rn_meetMark at he
  refine lv_aload_n hx hb d_Rn_meetMark_0 rfl (lv_at hl 0 rfl) ?_
  refine lv_iload_n hx hb d_Rn_meetMark_1 rfl (lv_at hl 1 rfl) ?_
  refine wx_ci (wS := fun _ : Unit => w_R ad ca b u) (ws2 := fun _ : Unit => w_R ad ca b u) (va_runV (As := [.int p0]) (rest := []) ⟨hx, hb, hml, hown, ht⟩ (c_Rn_isInPlace l dC dI ad ca s.heap.size b u p0 _ rfl) (cwV 1 ht (tb_V q_381 q_383 q_18 q_44 q_384) rfl rfl rfl p_Rn_isInPlace ⟨show 0 + 1 ≤ 4 by omega, show 8 + (3 + 11) + 0 ≤ 92 by omega⟩) (wx_preV (wc := (w_R ad ca b u)) hN hK hP hD [0, 1, 2, 3, 4, 5, 6, 7, 8, 9, 10, 11, 12, 13, 14] [0, 1, 2, 3, 4, 5, 6, 7, 8, 9, 10, 11] rfl (by decide) rfl (ci := 2) (q0 := 0) rfl rfl) rfl rfl hl.1 rfl (lv_room (Nat.le_of_ble_eq_true rfl)) d_Rn_meetMark_2 ⟨Nat.zero_le _, Nat.zero_le _⟩) hP hD hS hA [0, 1, 2, 3, 4, 5, 6, 7, 8, 9, 10, 11, 12, 13, 14] [] [0, 1, 2, 3, 4, 5, 6, 7, 8, 9, 10, 11, 12, 13, 14] rfl rfl (by decide) (by decide) (by decide) (fun _ => rfl) (fun r_1 _ H locs hw hP hD hS => ?_)
  subst hw
  have hP : va_P (dC, dI) vwCl (w_R ad ca b u) H := hP
  have hD : va_D A (w_R ad ca b u) := hD
  refine lv_if_ne (tgt := 14) hx hb d_Rn_meetMark_5 (by decide) (fun c_2 => ?_) (fun c_2 => ?_)
  · have he := he.trans (if_neg c_2)
    refine lv_aload_n hx hb d_Rn_meetMark_14 rfl (lv_at hl 0 rfl) ?_
    refine lv_iload_n hx hb d_Rn_meetMark_15 rfl (lv_at hl 1 rfl) ?_
    refine wx_cv (wS := fun v : TRn => w_R ad ca b v) (ws2 := fun v : TRn => w_R ad ca b v) (va_runV (As := [.int p0]) (rest := []) ⟨hx, hb, hml, hown, ht⟩ (c_Rn_passMark l dC dI ad ca H.size b u p0 _ rfl) (cwV 1 ht (tb_V q_385 q_387 q_19 q_44 q_388) rfl rfl rfl p_Rn_passMark ⟨show 0 + 1 ≤ 4 by omega, show 8 + (3 + 11) + 0 ≤ 92 by omega⟩) (wx_preV (wc := (w_R ad ca b u)) hN hK hP hD [0, 1, 2, 3, 4, 5, 6, 7, 8, 9, 10, 11, 12, 13, 14] [0, 1, 2, 3, 4, 5, 6, 7, 8, 9, 10, 11] rfl (by decide) rfl (ci := 2) (q0 := 0) rfl rfl) rfl rfl hl.1 rfl (lv_room (Nat.le_of_ble_eq_true rfl)) d_Rn_meetMark_16 ⟨Nat.zero_le _, Nat.zero_le _⟩) hP hD hS hA [0, 1, 2, 3, 4, 5, 6, 7, 8, 9, 10, 11, 12, 13, 14] [] [0, 1, 2, 3, 4, 5, 6, 7, 8, 9, 10, 11, 12, 13, 14] rfl rfl (by decide) (by decide) (by decide) (fun _ => rfl) (fun v_3 H locs hw hP hD hS => ?_)
    have hP : va_P (dC, dI) vwCl (w_R ad ca b v_3) H := hP
    have hD : va_D A (w_R ad ca b v_3) := hD
    rw [← hw] at he
    try dsimp only at he
    refine lv_iload_n hx hb d_Rn_meetMark_19 rfl (lv_at hl 1 rfl) ?_
    refine lv_bipush (v := 8) hx hb d_Rn_meetMark_20 (by decide) ?_
    refine lv_icmp_eq (tgt := 31) hx hb d_Rn_meetMark_22 (by decide) (fun c_4 => ?_) (fun c_4 => ?_)
    · have he := he.trans (if_pos c_4)
      exact W.vret hx hb hr (fun t ht hW => ⟨⟨v_3, rfl, he.symm, by rw [ht]; exact hP, va_K.moved hW.alike hK, hD⟩, hS.F ht⟩) hS.2.2 d_Rn_meetMark_31
    · have he := he.trans (if_neg c_4)
      refine lv_aload_n hx hb d_Rn_meetMark_25 rfl (lv_at hl 0 rfl) ?_
      refine lv_iconst (v := 0) hx hb d_Rn_meetMark_26 (by decide) ?_
      refine lv_iconst (v := 0) hx hb d_Rn_meetMark_27 (by decide) ?_
      refine wx_cv (wS := fun v : TRn => w_R ad ca b v) (ws2 := fun v : TRn => w_R ad ca b v) (va_runV (As := [.int 0, .int 0]) (rest := []) ⟨hx, hb, hml, hown, ht⟩ (c_Rn_skip l dC dI ad ca H.size b v_3 0 0 hpre _ rfl) (cwV 2 ht (tb_V q_377 q_379 q_17 q_44 q_380) rfl rfl rfl p_Rn_skip ⟨show 3 + 1 ≤ 4 by omega, show 8 + (8 + 11) + 65 ≤ 92 by omega⟩) (wx_preV (wc := (w_R ad ca b v_3)) hN hK hP hD [0, 1, 2, 3, 4, 5, 6, 7, 8, 9, 10, 11, 12, 13, 14] [0, 1, 2, 3, 4, 5, 6, 7, 8, 9, 10, 11] rfl (by decide) rfl (ci := 2) (q0 := 0) rfl rfl) rfl rfl hl.1 rfl (lv_room (Nat.le_of_ble_eq_true rfl)) d_Rn_meetMark_28 ⟨Nat.zero_le _, Nat.zero_le _⟩) hP hD hS hA [0, 1, 2, 3, 4, 5, 6, 7, 8, 9, 10, 11, 12, 13, 14] [] [0, 1, 2, 3, 4, 5, 6, 7, 8, 9, 10, 11, 12, 13, 14] rfl rfl (by decide) (by decide) (by decide) (fun _ => rfl) (fun v_5 H locs hw hP hD hS => ?_)
      have hP : va_P (dC, dI) vwCl (w_R ad ca b v_5) H := hP
      have hD : va_D A (w_R ad ca b v_5) := hD
      rw [← hw] at he
      try dsimp only at he
      exact W.vret hx hb hr (fun t ht hW => ⟨⟨v_5, rfl, he.symm, by rw [ht]; exact hP, va_K.moved hW.alike hK, hD⟩, hS.F ht⟩) hS.2.2 d_Rn_meetMark_31
  · have he := he.trans (if_pos c_2)
    refine lv_aload_n hx hb d_Rn_meetMark_8 rfl (lv_at hl 0 rfl) ?_
    refine lv_iconst (v := 2) hx hb d_Rn_meetMark_9 (by decide) ?_
    refine wx_cv (wS := fun v : TRn => w_R ad ca b v) (ws2 := fun v : TRn => w_R ad ca b v) (va_runV (As := [.int 2]) (rest := []) ⟨hx, hb, hml, hown, ht⟩ (c_Rn_fail l dC dI ad ca H.size b u 2 _ rfl) (cwV 1 ht (tb_V q_265 q_267 q_1 q_44 q_268) rfl rfl rfl p_Rn_fail ⟨show 0 + 1 ≤ 4 by omega, show 8 + (2 + 11) + 0 ≤ 92 by omega⟩) (wx_preV (wc := (w_R ad ca b u)) hN hK hP hD [0, 1, 2, 3, 4, 5, 6, 7, 8, 9, 10, 11, 12, 13, 14] [0, 1, 2, 3, 4, 5, 6, 7, 8, 9, 10, 11] rfl (by decide) rfl (ci := 2) (q0 := 0) rfl rfl) rfl rfl hl.1 rfl (lv_room (Nat.le_of_ble_eq_true rfl)) d_Rn_meetMark_10 ⟨Nat.zero_le _, Nat.zero_le _⟩) hP hD hS hA [0, 1, 2, 3, 4, 5, 6, 7, 8, 9, 10, 11, 12, 13, 14] [] [0, 1, 2, 3, 4, 5, 6, 7, 8, 9, 10, 11, 12, 13, 14] rfl rfl (by decide) (by decide) (by decide) (fun _ => rfl) (fun v_6 H locs hw hP hD hS => ?_)
    have hP : va_P (dC, dI) vwCl (w_R ad ca b v_6) H := hP
    have hD : va_D A (w_R ad ca b v_6) := hD
    rw [← hw] at he
    try dsimp only at he
    exact W.vret hx hb hr (fun t ht hW => ⟨⟨v_6, rfl, he.symm, by rw [ht]; exact hP, va_K.moved hW.alike hK, hD⟩, hS.F ht⟩) hS.2.2 d_Rn_meetMark_13
noncomputable def f_Rn_decide (b : TBk) (u : TRn) (p0 : Int32) (p1 : Int32) (p2 : Int32) : TRn := (if p0 = 7 then (if p1 < 0 then (if p2 = 0 then u else (let v_29 := f_Rn_skip b u p2 1; v_29)) else (if 100 ≤ p1 then (if p2 = 0 then u else (let v_36 := f_Rn_skip b u p2 1; v_36)) else (if 0 ≤ p2 then (if p2 = 0 then (TRn_set_decisions u (upd (TRn_decisions u) p1.toNatClampNeg (p2 + 2))) else (let v_44 := f_Rn_skip b (TRn_set_decisions u (upd (TRn_decisions u) p1.toNatClampNeg (p2 + 2))) p2 1; v_44)) else (if p2 = 0 then (TRn_set_decisions u (upd (TRn_decisions u) p1.toNatClampNeg (-1))) else (let v_50 := f_Rn_skip b (TRn_set_decisions u (upd (TRn_decisions u) p1.toNatClampNeg (-1))) p2 1; v_50))))) else (if p1 < 0 then (if p2 = 0 then (let v_8 := f_Rn_skip b u 0 1; v_8) else u) else (if 100 ≤ p1 then (if p2 = 0 then (let v_15 := f_Rn_skip b u 0 1; v_15) else u) else (if p2 = 0 then (let v_22 := f_Rn_skip b (TRn_set_decisions u (upd (TRn_decisions u) p1.toNatClampNeg p2)) 0 1; v_22) else (TRn_set_decisions u (upd (TRn_decisions u) p1.toNatClampNeg p2))))))
set_option maxHeartbeats 4000000 in
set_option maxRecDepth 100000 in
theorem c_Rn_decide (l : Launch) (dC : Nat → ClassId) (dI : Nat → Nat → Nat) (ad : Nat → Nat) (ca : Nat → ClassId) (sz : Nat) (b : TBk) (u : TRn) (p0 : Int32) (p1 : Int32) (p2 : Int32) (hpre : BkS b) (F : TRn) (he : F = f_Rn_decide b u p0 p1 p2) : wx_Mv l y_Rn_decide ws_Rn_decide ({ frames := 4, cells := 0, slots := 0, locals := 92 } : Room) (dC, dI) vwCl (t_R ca) [.ref (ad 0), .int p0, .int p1, .int p2] (w_R ad ca b u) sz (fun v : TRn => w_R ad ca b v) (fun v : TRn => v = F) := by
  refine Met.ofW (cc := b_Rn_decide) (maxL := 6) (ret := none) (by decide) rfl ?_
  intro p e s m args below meth c s₁ B hml hv
  obtain ⟨rfl, hsz, hP, hK, hD0, hN⟩ := hv
  have hx := B.exec
  have hb := B.bytes
  have hr := B.returns
  have hts := atoms_spec (ws := ws_Rn_decide) B.pre
  have ht : ∀ w ∈ TB, w.before _ s = true := fun w h => hts w (List.mem_cons_of_mem _ h)
  have hown : s.vm.findClass R_Rn = some m.cls := findClass_of_methodNamed B.named
  have hlocks := B.notSynchronized
  subst hsz
  have hD := hD0.self (sz := s.heap.size)
  generalize hAe : va_A (w_R ad ca b u) s.heap.size = A at hD ⊢
  have hA : ∀ q : Nat, s.heap.size ≤ q → A q := fun q h => by rw [← hAe]; exact Or.inr h
  have hS : va_S A s.heap s.heap [] := va_S.rf
  have hl := lv_entry ([.ref (ad 0), .int p0, .int p1, .int p2]) (n := 6) (Nat.le_of_ble_eq_true rfl)
  rw [lg_entry_eq]
  generalize (lg_sl ([.ref (ad 0), .int p0, .int p1, .int p2]) ++ List.replicate (6 - (lg_sl ([.ref (ad 0), .int p0, .int p1, .int p2])).length) Slot.unset).toArray = ls at hl ⊢
  have hl : lv_has ls 6 [(0, .ref (ad 0)), (1, .int p0), (2, .int p1), (3, .int p2)] := hl
  unfold f_Rn_decide at he
  refine lv_iload_n hx hb d_Rn_decide_0 rfl (lv_at hl 1 rfl) ?_
  refine lv_bipush (v := 7) hx hb d_Rn_decide_1 (by decide) ?_
  refine lv_icmp_ne (tgt := 10) hx hb d_Rn_decide_3 (by decide) (fun c_1 => ?_) (fun c_1 => ?_)
  · have he := he.trans (if_neg c_1)
    refine lv_iconst (v := 0) hx hb d_Rn_decide_10 (by decide) ?_
    refine lv_istore (lv' := [(4, .int 0), (0, .ref (ad 0)), (1, .int p0), (2, .int p1), (3, .int p2)]) hx hb d_Rn_decide_11 hl (by decide) rfl (fun ls hl => ?_)
    refine lv_iload_n hx hb d_Rn_decide_13 rfl (lv_at hl 3 rfl) ?_
    refine lv_if_lt (tgt := 52) hx hb d_Rn_decide_14 (by decide) (fun c_2 => ?_) (fun c_2 => ?_)
    · have he := he.trans (if_pos c_2)
      refine lv_iload hx hb d_Rn_decide_52 (lv_at hl 0 rfl) ?_
      refine lv_if_eq (tgt := 69) hx hb d_Rn_decide_54 (by decide) (fun c_3 => ?_) (fun c_3 => ?_)
      · refine lv_iload_n hx hb d_Rn_decide_69 rfl (lv_at hl 4 rfl) ?_
        refine lv_if_ne (tgt := 77) hx hb d_Rn_decide_70 (by decide) (fun c_4 => ?_) (fun c_4 => ?_)
        · have he := he.trans (if_neg c_4)
          refine lv_iconst (v := 0) hx hb d_Rn_decide_77 (by decide) ?_
          refine lv_istore (lv' := [(5, .int 0), (4, .int 0), (0, .ref (ad 0)), (1, .int p0), (2, .int p1), (3, .int p2)]) hx hb d_Rn_decide_78 hl (by decide) rfl (fun ls hl => ?_)
          refine lv_iload hx hb d_Rn_decide_80 (lv_at hl 0 rfl) ?_
          refine lv_if_eq (tgt := 100) hx hb d_Rn_decide_82 (by decide) (fun c_5 => ?_) (fun c_5 => ?_)
          · exact W.vret hx hb hr (fun t ht hW => ⟨⟨u, rfl, he.symm, by rw [ht]; exact hP, va_K.moved hW.alike hK, hD⟩, hS.F ht⟩) hS.2.2 d_Rn_decide_100
          · exact absurd c_5 (by decide)
        · have he := he.trans (if_pos c_4)
          refine lv_iconst (v := 1) hx hb d_Rn_decide_73 (by decide) ?_
          refine lv_goto (tgt := 78) hx hb d_Rn_decide_74 (by decide) ?_
          refine lv_istore (lv' := [(5, .int 1), (4, .int 0), (0, .ref (ad 0)), (1, .int p0), (2, .int p1), (3, .int p2)]) hx hb d_Rn_decide_78 hl (by decide) rfl (fun ls hl => ?_)
          refine lv_iload hx hb d_Rn_decide_80 (lv_at hl 0 rfl) ?_
          refine lv_if_eq (tgt := 100) hx hb d_Rn_decide_82 (by decide) (fun c_6 => ?_) (fun c_6 => ?_)
          · exact absurd c_6 (by decide)
          · refine lv_aload_n hx hb d_Rn_decide_85 rfl (lv_at hl 2 rfl) ?_
            refine lv_iload hx hb d_Rn_decide_86 (lv_at hl 1 rfl) ?_
            refine lv_if_eq (tgt := 95) hx hb d_Rn_decide_88 (by decide) (fun c_7 => ?_) (fun c_7 => ?_)
            · refine lv_iconst (v := 0) hx hb d_Rn_decide_95 (by decide) ?_
              refine lv_iconst (v := 1) hx hb d_Rn_decide_96 (by decide) ?_
              refine wx_cv (wS := fun v : TRn => w_R ad ca b v) (ws2 := fun v : TRn => w_R ad ca b v) (va_runV (As := [.int 0, .int 1]) (rest := []) ⟨hx, hb, hml, hown, ht⟩ (c_Rn_skip l dC dI ad ca s.heap.size b u 0 1 hpre _ rfl) (cwV 2 ht (tb_V q_377 q_379 q_17 q_44 q_380) rfl rfl rfl p_Rn_skip ⟨show 3 + 1 ≤ 4 by omega, show 8 + (8 + 11) + 65 ≤ 92 by omega⟩) (wx_preV (wc := (w_R ad ca b u)) hN hK hP hD [0, 1, 2, 3, 4, 5, 6, 7, 8, 9, 10, 11, 12, 13, 14] [0, 1, 2, 3, 4, 5, 6, 7, 8, 9, 10, 11] rfl (by decide) rfl (ci := 2) (q0 := 0) rfl rfl) rfl rfl hl.1 rfl (lv_room (Nat.le_of_ble_eq_true rfl)) d_Rn_decide_97 ⟨Nat.zero_le _, Nat.zero_le _⟩) hP hD hS hA [0, 1, 2, 3, 4, 5, 6, 7, 8, 9, 10, 11, 12, 13, 14] [] [0, 1, 2, 3, 4, 5, 6, 7, 8, 9, 10, 11, 12, 13, 14] rfl rfl (by decide) (by decide) (by decide) (fun _ => rfl) (fun v_8 H locs hw hP hD hS => ?_)
              have hP : va_P (dC, dI) vwCl (w_R ad ca b v_8) H := hP
              have hD : va_D A (w_R ad ca b v_8) := hD
              rw [← hw] at he
              try dsimp only at he
              exact W.vret hx hb hr (fun t ht hW => ⟨⟨v_8, rfl, he.symm, by rw [ht]; exact hP, va_K.moved hW.alike hK, hD⟩, hS.F ht⟩) hS.2.2 d_Rn_decide_100
            · exact absurd c_7 (by decide)
      · exact absurd c_3 (by decide)
    · have he := he.trans (if_neg c_2)
      refine lv_iload_n hx hb d_Rn_decide_17 rfl (lv_at hl 3 rfl) ?_
      refine lv_aload_n hx hb d_Rn_decide_18 rfl (lv_at hl 1 rfl) ?_
      refine va_get (D := (dC, dI)) (ci := 2) (v := .ref (ad 2)) (C := R_Rn) (T := T_Rn) (N := 12) hx hb ht i_Rn hown hK hP 0 rfl rfl 3 (by decide) (ht _ q_133) (fun _ h9 => h9) rfl d_Rn_decide_19 ?_
      refine va_alen hx hb hK hP 2 1 rfl rfl (v := 100) rfl d_Rn_decide_22 ?_
      refine lv_icmp_ge (tgt := 52) hx hb d_Rn_decide_23 (by decide) (fun c_9 => ?_) (fun c_9 => ?_)
      · have he := he.trans (if_pos c_9)
        refine lv_iload hx hb d_Rn_decide_52 (lv_at hl 0 rfl) ?_
        refine lv_if_eq (tgt := 69) hx hb d_Rn_decide_54 (by decide) (fun c_10 => ?_) (fun c_10 => ?_)
        · refine lv_iload_n hx hb d_Rn_decide_69 rfl (lv_at hl 4 rfl) ?_
          refine lv_if_ne (tgt := 77) hx hb d_Rn_decide_70 (by decide) (fun c_11 => ?_) (fun c_11 => ?_)
          · have he := he.trans (if_neg c_11)
            refine lv_iconst (v := 0) hx hb d_Rn_decide_77 (by decide) ?_
            refine lv_istore (lv' := [(5, .int 0), (4, .int 0), (0, .ref (ad 0)), (1, .int p0), (2, .int p1), (3, .int p2)]) hx hb d_Rn_decide_78 hl (by decide) rfl (fun ls hl => ?_)
            refine lv_iload hx hb d_Rn_decide_80 (lv_at hl 0 rfl) ?_
            refine lv_if_eq (tgt := 100) hx hb d_Rn_decide_82 (by decide) (fun c_12 => ?_) (fun c_12 => ?_)
            · exact W.vret hx hb hr (fun t ht hW => ⟨⟨u, rfl, he.symm, by rw [ht]; exact hP, va_K.moved hW.alike hK, hD⟩, hS.F ht⟩) hS.2.2 d_Rn_decide_100
            · exact absurd c_12 (by decide)
          · have he := he.trans (if_pos c_11)
            refine lv_iconst (v := 1) hx hb d_Rn_decide_73 (by decide) ?_
            refine lv_goto (tgt := 78) hx hb d_Rn_decide_74 (by decide) ?_
            refine lv_istore (lv' := [(5, .int 1), (4, .int 0), (0, .ref (ad 0)), (1, .int p0), (2, .int p1), (3, .int p2)]) hx hb d_Rn_decide_78 hl (by decide) rfl (fun ls hl => ?_)
            refine lv_iload hx hb d_Rn_decide_80 (lv_at hl 0 rfl) ?_
            refine lv_if_eq (tgt := 100) hx hb d_Rn_decide_82 (by decide) (fun c_13 => ?_) (fun c_13 => ?_)
            · exact absurd c_13 (by decide)
            · refine lv_aload_n hx hb d_Rn_decide_85 rfl (lv_at hl 2 rfl) ?_
              refine lv_iload hx hb d_Rn_decide_86 (lv_at hl 1 rfl) ?_
              refine lv_if_eq (tgt := 95) hx hb d_Rn_decide_88 (by decide) (fun c_14 => ?_) (fun c_14 => ?_)
              · refine lv_iconst (v := 0) hx hb d_Rn_decide_95 (by decide) ?_
                refine lv_iconst (v := 1) hx hb d_Rn_decide_96 (by decide) ?_
                refine wx_cv (wS := fun v : TRn => w_R ad ca b v) (ws2 := fun v : TRn => w_R ad ca b v) (va_runV (As := [.int 0, .int 1]) (rest := []) ⟨hx, hb, hml, hown, ht⟩ (c_Rn_skip l dC dI ad ca s.heap.size b u 0 1 hpre _ rfl) (cwV 2 ht (tb_V q_377 q_379 q_17 q_44 q_380) rfl rfl rfl p_Rn_skip ⟨show 3 + 1 ≤ 4 by omega, show 8 + (8 + 11) + 65 ≤ 92 by omega⟩) (wx_preV (wc := (w_R ad ca b u)) hN hK hP hD [0, 1, 2, 3, 4, 5, 6, 7, 8, 9, 10, 11, 12, 13, 14] [0, 1, 2, 3, 4, 5, 6, 7, 8, 9, 10, 11] rfl (by decide) rfl (ci := 2) (q0 := 0) rfl rfl) rfl rfl hl.1 rfl (lv_room (Nat.le_of_ble_eq_true rfl)) d_Rn_decide_97 ⟨Nat.zero_le _, Nat.zero_le _⟩) hP hD hS hA [0, 1, 2, 3, 4, 5, 6, 7, 8, 9, 10, 11, 12, 13, 14] [] [0, 1, 2, 3, 4, 5, 6, 7, 8, 9, 10, 11, 12, 13, 14] rfl rfl (by decide) (by decide) (by decide) (fun _ => rfl) (fun v_15 H locs hw hP hD hS => ?_)
                have hP : va_P (dC, dI) vwCl (w_R ad ca b v_15) H := hP
                have hD : va_D A (w_R ad ca b v_15) := hD
                rw [← hw] at he
                try dsimp only at he
                exact W.vret hx hb hr (fun t ht hW => ⟨⟨v_15, rfl, he.symm, by rw [ht]; exact hP, va_K.moved hW.alike hK, hD⟩, hS.F ht⟩) hS.2.2 d_Rn_decide_100
              · exact absurd c_14 (by decide)
        · exact absurd c_10 (by decide)
      · have he := he.trans (if_neg c_9)
        refine lv_aload_n hx hb d_Rn_decide_26 rfl (lv_at hl 1 rfl) ?_
        refine va_get (D := (dC, dI)) (ci := 2) (v := .ref (ad 2)) (C := R_Rn) (T := T_Rn) (N := 12) hx hb ht i_Rn hown hK hP 0 rfl rfl 3 (by decide) (ht _ q_133) (fun _ h9 => h9) rfl d_Rn_decide_27 ?_
        refine lv_iload_n hx hb d_Rn_decide_30 rfl (lv_at hl 3 rfl) ?_
        refine lv_iload hx hb d_Rn_decide_31 (lv_at hl 0 rfl) ?_
        refine lv_if_ne (tgt := 40) hx hb d_Rn_decide_33 (by decide) (fun c_16 => ?_) (fun c_16 => ?_)
        · exact absurd c_16 (by decide)
        · refine lv_iload_n hx hb d_Rn_decide_36 rfl (lv_at hl 4 rfl) ?_
          refine lv_goto (tgt := 51) hx hb d_Rn_decide_37 (by decide) ?_
          refine va_iast hx hb hK hP hD hS 2 1 rfl rfl (wx_inAU (by decide) c_2 c_9) d_Rn_decide_51 (fun H locs hP hD hS => ?_)
          have hP : va_P (dC, dI) vwCl (w_R ad ca b (TRn_set_decisions u (upd (TRn_decisions u) p1.toNatClampNeg p2))) H := hP
          have hD : va_D A (w_R ad ca b (TRn_set_decisions u (upd (TRn_decisions u) p1.toNatClampNeg p2))) := hD
          refine lv_iload hx hb d_Rn_decide_52 (lv_at hl 0 rfl) ?_
          refine lv_if_eq (tgt := 69) hx hb d_Rn_decide_54 (by decide) (fun c_17 => ?_) (fun c_17 => ?_)
          · refine lv_iload_n hx hb d_Rn_decide_69 rfl (lv_at hl 4 rfl) ?_
            refine lv_if_ne (tgt := 77) hx hb d_Rn_decide_70 (by decide) (fun c_18 => ?_) (fun c_18 => ?_)
            · have he := he.trans (if_neg c_18)
              refine lv_iconst (v := 0) hx hb d_Rn_decide_77 (by decide) ?_
              refine lv_istore (lv' := [(5, .int 0), (4, .int 0), (0, .ref (ad 0)), (1, .int p0), (2, .int p1), (3, .int p2)]) hx hb d_Rn_decide_78 hl (by decide) rfl (fun ls hl => ?_)
              refine lv_iload hx hb d_Rn_decide_80 (lv_at hl 0 rfl) ?_
              refine lv_if_eq (tgt := 100) hx hb d_Rn_decide_82 (by decide) (fun c_19 => ?_) (fun c_19 => ?_)
              · exact W.vret hx hb hr (fun t ht hW => ⟨⟨(TRn_set_decisions u (upd (TRn_decisions u) p1.toNatClampNeg p2)), rfl, he.symm, by rw [ht]; exact hP, va_K.moved hW.alike hK, hD⟩, hS.F ht⟩) hS.2.2 d_Rn_decide_100
              · exact absurd c_19 (by decide)
            · have he := he.trans (if_pos c_18)
              refine lv_iconst (v := 1) hx hb d_Rn_decide_73 (by decide) ?_
              refine lv_goto (tgt := 78) hx hb d_Rn_decide_74 (by decide) ?_
              refine lv_istore (lv' := [(5, .int 1), (4, .int 0), (0, .ref (ad 0)), (1, .int p0), (2, .int p1), (3, .int p2)]) hx hb d_Rn_decide_78 hl (by decide) rfl (fun ls hl => ?_)
              refine lv_iload hx hb d_Rn_decide_80 (lv_at hl 0 rfl) ?_
              refine lv_if_eq (tgt := 100) hx hb d_Rn_decide_82 (by decide) (fun c_20 => ?_) (fun c_20 => ?_)
              · exact absurd c_20 (by decide)
              · refine lv_aload_n hx hb d_Rn_decide_85 rfl (lv_at hl 2 rfl) ?_
                refine lv_iload hx hb d_Rn_decide_86 (lv_at hl 1 rfl) ?_
                refine lv_if_eq (tgt := 95) hx hb d_Rn_decide_88 (by decide) (fun c_21 => ?_) (fun c_21 => ?_)
                · refine lv_iconst (v := 0) hx hb d_Rn_decide_95 (by decide) ?_
                  refine lv_iconst (v := 1) hx hb d_Rn_decide_96 (by decide) ?_
                  refine wx_cv (wS := fun v : TRn => w_R ad ca b v) (ws2 := fun v : TRn => w_R ad ca b v) (va_runV (As := [.int 0, .int 1]) (rest := []) ⟨hx, hb, hml, hown, ht⟩ (c_Rn_skip l dC dI ad ca H.size b (TRn_set_decisions u (upd (TRn_decisions u) p1.toNatClampNeg p2)) 0 1 hpre _ rfl) (cwV 2 ht (tb_V q_377 q_379 q_17 q_44 q_380) rfl rfl rfl p_Rn_skip ⟨show 3 + 1 ≤ 4 by omega, show 8 + (8 + 11) + 65 ≤ 92 by omega⟩) (wx_preV (wc := (w_R ad ca b (TRn_set_decisions u (upd (TRn_decisions u) p1.toNatClampNeg p2)))) hN hK hP hD [0, 1, 2, 3, 4, 5, 6, 7, 8, 9, 10, 11, 12, 13, 14] [0, 1, 2, 3, 4, 5, 6, 7, 8, 9, 10, 11] rfl (by decide) rfl (ci := 2) (q0 := 0) rfl rfl) rfl rfl hl.1 rfl (lv_room (Nat.le_of_ble_eq_true rfl)) d_Rn_decide_97 ⟨Nat.zero_le _, Nat.zero_le _⟩) hP hD hS hA [0, 1, 2, 3, 4, 5, 6, 7, 8, 9, 10, 11, 12, 13, 14] [] [0, 1, 2, 3, 4, 5, 6, 7, 8, 9, 10, 11, 12, 13, 14] rfl rfl (by decide) (by decide) (by decide) (fun _ => rfl) (fun v_22 H locs hw hP hD hS => ?_)
                  have hP : va_P (dC, dI) vwCl (w_R ad ca b v_22) H := hP
                  have hD : va_D A (w_R ad ca b v_22) := hD
                  rw [← hw] at he
                  try dsimp only at he
                  exact W.vret hx hb hr (fun t ht hW => ⟨⟨v_22, rfl, he.symm, by rw [ht]; exact hP, va_K.moved hW.alike hK, hD⟩, hS.F ht⟩) hS.2.2 d_Rn_decide_100
                · exact absurd c_21 (by decide)
          · exact absurd c_17 (by decide)
  · have he := he.trans (if_pos c_1)
    refine lv_iconst (v := 1) hx hb d_Rn_decide_6 (by decide) ?_
    refine lv_goto (tgt := 11) hx hb d_Rn_decide_7 (by decide) ?_
    refine lv_istore (lv' := [(4, .int 1), (0, .ref (ad 0)), (1, .int p0), (2, .int p1), (3, .int p2)]) hx hb d_Rn_decide_11 hl (by decide) rfl (fun ls hl => ?_)
    refine lv_iload_n hx hb d_Rn_decide_13 rfl (lv_at hl 3 rfl) ?_
    refine lv_if_lt (tgt := 52) hx hb d_Rn_decide_14 (by decide) (fun c_23 => ?_) (fun c_23 => ?_)
    · have he := he.trans (if_pos c_23)
      refine lv_iload hx hb d_Rn_decide_52 (lv_at hl 0 rfl) ?_
      refine lv_if_eq (tgt := 69) hx hb d_Rn_decide_54 (by decide) (fun c_24 => ?_) (fun c_24 => ?_)
      · exact absurd c_24 (by decide)
      · refine lv_iload_n hx hb d_Rn_decide_57 rfl (lv_at hl 4 rfl) ?_
        refine lv_if_eq (tgt := 65) hx hb d_Rn_decide_58 (by decide) (fun c_25 => ?_) (fun c_25 => ?_)
        · have he := he.trans (if_pos c_25)
          refine lv_iconst (v := 0) hx hb d_Rn_decide_65 (by decide) ?_
          refine lv_goto (tgt := 78) hx hb d_Rn_decide_66 (by decide) ?_
          refine lv_istore (lv' := [(5, .int 0), (4, .int 1), (0, .ref (ad 0)), (1, .int p0), (2, .int p1), (3, .int p2)]) hx hb d_Rn_decide_78 hl (by decide) rfl (fun ls hl => ?_)
          refine lv_iload hx hb d_Rn_decide_80 (lv_at hl 0 rfl) ?_
          refine lv_if_eq (tgt := 100) hx hb d_Rn_decide_82 (by decide) (fun c_26 => ?_) (fun c_26 => ?_)
          · exact W.vret hx hb hr (fun t ht hW => ⟨⟨u, rfl, he.symm, by rw [ht]; exact hP, va_K.moved hW.alike hK, hD⟩, hS.F ht⟩) hS.2.2 d_Rn_decide_100
          · exact absurd c_26 (by decide)
        · have he := he.trans (if_neg c_25)
          refine lv_iconst (v := 1) hx hb d_Rn_decide_61 (by decide) ?_
          refine lv_goto (tgt := 78) hx hb d_Rn_decide_62 (by decide) ?_
          refine lv_istore (lv' := [(5, .int 1), (4, .int 1), (0, .ref (ad 0)), (1, .int p0), (2, .int p1), (3, .int p2)]) hx hb d_Rn_decide_78 hl (by decide) rfl (fun ls hl => ?_)
          refine lv_iload hx hb d_Rn_decide_80 (lv_at hl 0 rfl) ?_
          refine lv_if_eq (tgt := 100) hx hb d_Rn_decide_82 (by decide) (fun c_27 => ?_) (fun c_27 => ?_)
          · exact absurd c_27 (by decide)
          · refine lv_aload_n hx hb d_Rn_decide_85 rfl (lv_at hl 2 rfl) ?_
            refine lv_iload hx hb d_Rn_decide_86 (lv_at hl 1 rfl) ?_
            refine lv_if_eq (tgt := 95) hx hb d_Rn_decide_88 (by decide) (fun c_28 => ?_) (fun c_28 => ?_)
            · exact absurd c_28 (by decide)
            · refine lv_iload_n hx hb d_Rn_decide_91 rfl (lv_at hl 5 rfl) ?_
              refine lv_goto (tgt := 96) hx hb d_Rn_decide_92 (by decide) ?_
              refine lv_iconst (v := 1) hx hb d_Rn_decide_96 (by decide) ?_
              refine wx_cv (wS := fun v : TRn => w_R ad ca b v) (ws2 := fun v : TRn => w_R ad ca b v) (va_runV (As := [.int p2, .int 1]) (rest := []) ⟨hx, hb, hml, hown, ht⟩ (c_Rn_skip l dC dI ad ca s.heap.size b u p2 1 hpre _ rfl) (cwV 2 ht (tb_V q_377 q_379 q_17 q_44 q_380) rfl rfl rfl p_Rn_skip ⟨show 3 + 1 ≤ 4 by omega, show 8 + (8 + 11) + 65 ≤ 92 by omega⟩) (wx_preV (wc := (w_R ad ca b u)) hN hK hP hD [0, 1, 2, 3, 4, 5, 6, 7, 8, 9, 10, 11, 12, 13, 14] [0, 1, 2, 3, 4, 5, 6, 7, 8, 9, 10, 11] rfl (by decide) rfl (ci := 2) (q0 := 0) rfl rfl) rfl rfl hl.1 rfl (lv_room (Nat.le_of_ble_eq_true rfl)) d_Rn_decide_97 ⟨Nat.zero_le _, Nat.zero_le _⟩) hP hD hS hA [0, 1, 2, 3, 4, 5, 6, 7, 8, 9, 10, 11, 12, 13, 14] [] [0, 1, 2, 3, 4, 5, 6, 7, 8, 9, 10, 11, 12, 13, 14] rfl rfl (by decide) (by decide) (by decide) (fun _ => rfl) (fun v_29 H locs hw hP hD hS => ?_)
              have hP : va_P (dC, dI) vwCl (w_R ad ca b v_29) H := hP
              have hD : va_D A (w_R ad ca b v_29) := hD
              rw [← hw] at he
              try dsimp only at he
              exact W.vret hx hb hr (fun t ht hW => ⟨⟨v_29, rfl, he.symm, by rw [ht]; exact hP, va_K.moved hW.alike hK, hD⟩, hS.F ht⟩) hS.2.2 d_Rn_decide_100
    · have he := he.trans (if_neg c_23)
      refine lv_iload_n hx hb d_Rn_decide_17 rfl (lv_at hl 3 rfl) ?_
      refine lv_aload_n hx hb d_Rn_decide_18 rfl (lv_at hl 1 rfl) ?_
      refine va_get (D := (dC, dI)) (ci := 2) (v := .ref (ad 2)) (C := R_Rn) (T := T_Rn) (N := 12) hx hb ht i_Rn hown hK hP 0 rfl rfl 3 (by decide) (ht _ q_133) (fun _ h9 => h9) rfl d_Rn_decide_19 ?_
      refine va_alen hx hb hK hP 2 1 rfl rfl (v := 100) rfl d_Rn_decide_22 ?_
      refine lv_icmp_ge (tgt := 52) hx hb d_Rn_decide_23 (by decide) (fun c_30 => ?_) (fun c_30 => ?_)
      · have he := he.trans (if_pos c_30)
        refine lv_iload hx hb d_Rn_decide_52 (lv_at hl 0 rfl) ?_
        refine lv_if_eq (tgt := 69) hx hb d_Rn_decide_54 (by decide) (fun c_31 => ?_) (fun c_31 => ?_)
        · exact absurd c_31 (by decide)
        · refine lv_iload_n hx hb d_Rn_decide_57 rfl (lv_at hl 4 rfl) ?_
          refine lv_if_eq (tgt := 65) hx hb d_Rn_decide_58 (by decide) (fun c_32 => ?_) (fun c_32 => ?_)
          · have he := he.trans (if_pos c_32)
            refine lv_iconst (v := 0) hx hb d_Rn_decide_65 (by decide) ?_
            refine lv_goto (tgt := 78) hx hb d_Rn_decide_66 (by decide) ?_
            refine lv_istore (lv' := [(5, .int 0), (4, .int 1), (0, .ref (ad 0)), (1, .int p0), (2, .int p1), (3, .int p2)]) hx hb d_Rn_decide_78 hl (by decide) rfl (fun ls hl => ?_)
            refine lv_iload hx hb d_Rn_decide_80 (lv_at hl 0 rfl) ?_
            refine lv_if_eq (tgt := 100) hx hb d_Rn_decide_82 (by decide) (fun c_33 => ?_) (fun c_33 => ?_)
            · exact W.vret hx hb hr (fun t ht hW => ⟨⟨u, rfl, he.symm, by rw [ht]; exact hP, va_K.moved hW.alike hK, hD⟩, hS.F ht⟩) hS.2.2 d_Rn_decide_100
            · exact absurd c_33 (by decide)
          · have he := he.trans (if_neg c_32)
            refine lv_iconst (v := 1) hx hb d_Rn_decide_61 (by decide) ?_
            refine lv_goto (tgt := 78) hx hb d_Rn_decide_62 (by decide) ?_
            refine lv_istore (lv' := [(5, .int 1), (4, .int 1), (0, .ref (ad 0)), (1, .int p0), (2, .int p1), (3, .int p2)]) hx hb d_Rn_decide_78 hl (by decide) rfl (fun ls hl => ?_)
            refine lv_iload hx hb d_Rn_decide_80 (lv_at hl 0 rfl) ?_
            refine lv_if_eq (tgt := 100) hx hb d_Rn_decide_82 (by decide) (fun c_34 => ?_) (fun c_34 => ?_)
            · exact absurd c_34 (by decide)
            · refine lv_aload_n hx hb d_Rn_decide_85 rfl (lv_at hl 2 rfl) ?_
              refine lv_iload hx hb d_Rn_decide_86 (lv_at hl 1 rfl) ?_
              refine lv_if_eq (tgt := 95) hx hb d_Rn_decide_88 (by decide) (fun c_35 => ?_) (fun c_35 => ?_)
              · exact absurd c_35 (by decide)
              · refine lv_iload_n hx hb d_Rn_decide_91 rfl (lv_at hl 5 rfl) ?_
                refine lv_goto (tgt := 96) hx hb d_Rn_decide_92 (by decide) ?_
                refine lv_iconst (v := 1) hx hb d_Rn_decide_96 (by decide) ?_
                refine wx_cv (wS := fun v : TRn => w_R ad ca b v) (ws2 := fun v : TRn => w_R ad ca b v) (va_runV (As := [.int p2, .int 1]) (rest := []) ⟨hx, hb, hml, hown, ht⟩ (c_Rn_skip l dC dI ad ca s.heap.size b u p2 1 hpre _ rfl) (cwV 2 ht (tb_V q_377 q_379 q_17 q_44 q_380) rfl rfl rfl p_Rn_skip ⟨show 3 + 1 ≤ 4 by omega, show 8 + (8 + 11) + 65 ≤ 92 by omega⟩) (wx_preV (wc := (w_R ad ca b u)) hN hK hP hD [0, 1, 2, 3, 4, 5, 6, 7, 8, 9, 10, 11, 12, 13, 14] [0, 1, 2, 3, 4, 5, 6, 7, 8, 9, 10, 11] rfl (by decide) rfl (ci := 2) (q0 := 0) rfl rfl) rfl rfl hl.1 rfl (lv_room (Nat.le_of_ble_eq_true rfl)) d_Rn_decide_97 ⟨Nat.zero_le _, Nat.zero_le _⟩) hP hD hS hA [0, 1, 2, 3, 4, 5, 6, 7, 8, 9, 10, 11, 12, 13, 14] [] [0, 1, 2, 3, 4, 5, 6, 7, 8, 9, 10, 11, 12, 13, 14] rfl rfl (by decide) (by decide) (by decide) (fun _ => rfl) (fun v_36 H locs hw hP hD hS => ?_)
                have hP : va_P (dC, dI) vwCl (w_R ad ca b v_36) H := hP
                have hD : va_D A (w_R ad ca b v_36) := hD
                rw [← hw] at he
                try dsimp only at he
                exact W.vret hx hb hr (fun t ht hW => ⟨⟨v_36, rfl, he.symm, by rw [ht]; exact hP, va_K.moved hW.alike hK, hD⟩, hS.F ht⟩) hS.2.2 d_Rn_decide_100
      · have he := he.trans (if_neg c_30)
        refine lv_aload_n hx hb d_Rn_decide_26 rfl (lv_at hl 1 rfl) ?_
        refine va_get (D := (dC, dI)) (ci := 2) (v := .ref (ad 2)) (C := R_Rn) (T := T_Rn) (N := 12) hx hb ht i_Rn hown hK hP 0 rfl rfl 3 (by decide) (ht _ q_133) (fun _ h9 => h9) rfl d_Rn_decide_27 ?_
        refine lv_iload_n hx hb d_Rn_decide_30 rfl (lv_at hl 3 rfl) ?_
        refine lv_iload hx hb d_Rn_decide_31 (lv_at hl 0 rfl) ?_
        refine lv_if_ne (tgt := 40) hx hb d_Rn_decide_33 (by decide) (fun c_37 => ?_) (fun c_37 => ?_)
        · refine lv_iload_n hx hb d_Rn_decide_40 rfl (lv_at hl 4 rfl) ?_
          refine lv_if_ge (tgt := 48) hx hb d_Rn_decide_41 (by decide) (fun c_38 => ?_) (fun c_38 => ?_)
          · have he := he.trans (if_pos c_38)
            refine lv_iload_n hx hb d_Rn_decide_48 rfl (lv_at hl 4 rfl) ?_
            refine lv_iconst (v := 2) hx hb d_Rn_decide_49 (by decide) ?_
            refine lv_iadd hx hb d_Rn_decide_50 ?_
            refine va_iast hx hb hK hP hD hS 2 1 rfl rfl (wx_inAU (by decide) c_23 c_30) d_Rn_decide_51 (fun H locs hP hD hS => ?_)
            have hP : va_P (dC, dI) vwCl (w_R ad ca b (TRn_set_decisions u (upd (TRn_decisions u) p1.toNatClampNeg (p2 + 2)))) H := hP
            have hD : va_D A (w_R ad ca b (TRn_set_decisions u (upd (TRn_decisions u) p1.toNatClampNeg (p2 + 2)))) := hD
            refine lv_iload hx hb d_Rn_decide_52 (lv_at hl 0 rfl) ?_
            refine lv_if_eq (tgt := 69) hx hb d_Rn_decide_54 (by decide) (fun c_39 => ?_) (fun c_39 => ?_)
            · exact absurd c_39 (by decide)
            · refine lv_iload_n hx hb d_Rn_decide_57 rfl (lv_at hl 4 rfl) ?_
              refine lv_if_eq (tgt := 65) hx hb d_Rn_decide_58 (by decide) (fun c_40 => ?_) (fun c_40 => ?_)
              · have he := he.trans (if_pos c_40)
                refine lv_iconst (v := 0) hx hb d_Rn_decide_65 (by decide) ?_
                refine lv_goto (tgt := 78) hx hb d_Rn_decide_66 (by decide) ?_
                refine lv_istore (lv' := [(5, .int 0), (4, .int 1), (0, .ref (ad 0)), (1, .int p0), (2, .int p1), (3, .int p2)]) hx hb d_Rn_decide_78 hl (by decide) rfl (fun ls hl => ?_)
                refine lv_iload hx hb d_Rn_decide_80 (lv_at hl 0 rfl) ?_
                refine lv_if_eq (tgt := 100) hx hb d_Rn_decide_82 (by decide) (fun c_41 => ?_) (fun c_41 => ?_)
                · exact W.vret hx hb hr (fun t ht hW => ⟨⟨(TRn_set_decisions u (upd (TRn_decisions u) p1.toNatClampNeg (p2 + 2))), rfl, he.symm, by rw [ht]; exact hP, va_K.moved hW.alike hK, hD⟩, hS.F ht⟩) hS.2.2 d_Rn_decide_100
                · exact absurd c_41 (by decide)
              · have he := he.trans (if_neg c_40)
                refine lv_iconst (v := 1) hx hb d_Rn_decide_61 (by decide) ?_
                refine lv_goto (tgt := 78) hx hb d_Rn_decide_62 (by decide) ?_
                refine lv_istore (lv' := [(5, .int 1), (4, .int 1), (0, .ref (ad 0)), (1, .int p0), (2, .int p1), (3, .int p2)]) hx hb d_Rn_decide_78 hl (by decide) rfl (fun ls hl => ?_)
                refine lv_iload hx hb d_Rn_decide_80 (lv_at hl 0 rfl) ?_
                refine lv_if_eq (tgt := 100) hx hb d_Rn_decide_82 (by decide) (fun c_42 => ?_) (fun c_42 => ?_)
                · exact absurd c_42 (by decide)
                · refine lv_aload_n hx hb d_Rn_decide_85 rfl (lv_at hl 2 rfl) ?_
                  refine lv_iload hx hb d_Rn_decide_86 (lv_at hl 1 rfl) ?_
                  refine lv_if_eq (tgt := 95) hx hb d_Rn_decide_88 (by decide) (fun c_43 => ?_) (fun c_43 => ?_)
                  · exact absurd c_43 (by decide)
                  · refine lv_iload_n hx hb d_Rn_decide_91 rfl (lv_at hl 5 rfl) ?_
                    refine lv_goto (tgt := 96) hx hb d_Rn_decide_92 (by decide) ?_
                    refine lv_iconst (v := 1) hx hb d_Rn_decide_96 (by decide) ?_
                    refine wx_cv (wS := fun v : TRn => w_R ad ca b v) (ws2 := fun v : TRn => w_R ad ca b v) (va_runV (As := [.int p2, .int 1]) (rest := []) ⟨hx, hb, hml, hown, ht⟩ (c_Rn_skip l dC dI ad ca H.size b (TRn_set_decisions u (upd (TRn_decisions u) p1.toNatClampNeg (p2 + 2))) p2 1 hpre _ rfl) (cwV 2 ht (tb_V q_377 q_379 q_17 q_44 q_380) rfl rfl rfl p_Rn_skip ⟨show 3 + 1 ≤ 4 by omega, show 8 + (8 + 11) + 65 ≤ 92 by omega⟩) (wx_preV (wc := (w_R ad ca b (TRn_set_decisions u (upd (TRn_decisions u) p1.toNatClampNeg (p2 + 2))))) hN hK hP hD [0, 1, 2, 3, 4, 5, 6, 7, 8, 9, 10, 11, 12, 13, 14] [0, 1, 2, 3, 4, 5, 6, 7, 8, 9, 10, 11] rfl (by decide) rfl (ci := 2) (q0 := 0) rfl rfl) rfl rfl hl.1 rfl (lv_room (Nat.le_of_ble_eq_true rfl)) d_Rn_decide_97 ⟨Nat.zero_le _, Nat.zero_le _⟩) hP hD hS hA [0, 1, 2, 3, 4, 5, 6, 7, 8, 9, 10, 11, 12, 13, 14] [] [0, 1, 2, 3, 4, 5, 6, 7, 8, 9, 10, 11, 12, 13, 14] rfl rfl (by decide) (by decide) (by decide) (fun _ => rfl) (fun v_44 H locs hw hP hD hS => ?_)
                    have hP : va_P (dC, dI) vwCl (w_R ad ca b v_44) H := hP
                    have hD : va_D A (w_R ad ca b v_44) := hD
                    rw [← hw] at he
                    try dsimp only at he
                    exact W.vret hx hb hr (fun t ht hW => ⟨⟨v_44, rfl, he.symm, by rw [ht]; exact hP, va_K.moved hW.alike hK, hD⟩, hS.F ht⟩) hS.2.2 d_Rn_decide_100
          · have he := he.trans (if_neg c_38)
            refine lv_iconst (v := (-1)) hx hb d_Rn_decide_44 (by decide) ?_
            refine lv_goto (tgt := 51) hx hb d_Rn_decide_45 (by decide) ?_
            refine va_iast hx hb hK hP hD hS 2 1 rfl rfl (wx_inAU (by decide) c_23 c_30) d_Rn_decide_51 (fun H locs hP hD hS => ?_)
            have hP : va_P (dC, dI) vwCl (w_R ad ca b (TRn_set_decisions u (upd (TRn_decisions u) p1.toNatClampNeg (-1)))) H := hP
            have hD : va_D A (w_R ad ca b (TRn_set_decisions u (upd (TRn_decisions u) p1.toNatClampNeg (-1)))) := hD
            refine lv_iload hx hb d_Rn_decide_52 (lv_at hl 0 rfl) ?_
            refine lv_if_eq (tgt := 69) hx hb d_Rn_decide_54 (by decide) (fun c_45 => ?_) (fun c_45 => ?_)
            · exact absurd c_45 (by decide)
            · refine lv_iload_n hx hb d_Rn_decide_57 rfl (lv_at hl 4 rfl) ?_
              refine lv_if_eq (tgt := 65) hx hb d_Rn_decide_58 (by decide) (fun c_46 => ?_) (fun c_46 => ?_)
              · have he := he.trans (if_pos c_46)
                refine lv_iconst (v := 0) hx hb d_Rn_decide_65 (by decide) ?_
                refine lv_goto (tgt := 78) hx hb d_Rn_decide_66 (by decide) ?_
                refine lv_istore (lv' := [(5, .int 0), (4, .int 1), (0, .ref (ad 0)), (1, .int p0), (2, .int p1), (3, .int p2)]) hx hb d_Rn_decide_78 hl (by decide) rfl (fun ls hl => ?_)
                refine lv_iload hx hb d_Rn_decide_80 (lv_at hl 0 rfl) ?_
                refine lv_if_eq (tgt := 100) hx hb d_Rn_decide_82 (by decide) (fun c_47 => ?_) (fun c_47 => ?_)
                · exact W.vret hx hb hr (fun t ht hW => ⟨⟨(TRn_set_decisions u (upd (TRn_decisions u) p1.toNatClampNeg (-1))), rfl, he.symm, by rw [ht]; exact hP, va_K.moved hW.alike hK, hD⟩, hS.F ht⟩) hS.2.2 d_Rn_decide_100
                · exact absurd c_47 (by decide)
              · have he := he.trans (if_neg c_46)
                refine lv_iconst (v := 1) hx hb d_Rn_decide_61 (by decide) ?_
                refine lv_goto (tgt := 78) hx hb d_Rn_decide_62 (by decide) ?_
                refine lv_istore (lv' := [(5, .int 1), (4, .int 1), (0, .ref (ad 0)), (1, .int p0), (2, .int p1), (3, .int p2)]) hx hb d_Rn_decide_78 hl (by decide) rfl (fun ls hl => ?_)
                refine lv_iload hx hb d_Rn_decide_80 (lv_at hl 0 rfl) ?_
                refine lv_if_eq (tgt := 100) hx hb d_Rn_decide_82 (by decide) (fun c_48 => ?_) (fun c_48 => ?_)
                · exact absurd c_48 (by decide)
                · refine lv_aload_n hx hb d_Rn_decide_85 rfl (lv_at hl 2 rfl) ?_
                  refine lv_iload hx hb d_Rn_decide_86 (lv_at hl 1 rfl) ?_
                  refine lv_if_eq (tgt := 95) hx hb d_Rn_decide_88 (by decide) (fun c_49 => ?_) (fun c_49 => ?_)
                  · exact absurd c_49 (by decide)
                  · refine lv_iload_n hx hb d_Rn_decide_91 rfl (lv_at hl 5 rfl) ?_
                    refine lv_goto (tgt := 96) hx hb d_Rn_decide_92 (by decide) ?_
                    refine lv_iconst (v := 1) hx hb d_Rn_decide_96 (by decide) ?_
                    refine wx_cv (wS := fun v : TRn => w_R ad ca b v) (ws2 := fun v : TRn => w_R ad ca b v) (va_runV (As := [.int p2, .int 1]) (rest := []) ⟨hx, hb, hml, hown, ht⟩ (c_Rn_skip l dC dI ad ca H.size b (TRn_set_decisions u (upd (TRn_decisions u) p1.toNatClampNeg (-1))) p2 1 hpre _ rfl) (cwV 2 ht (tb_V q_377 q_379 q_17 q_44 q_380) rfl rfl rfl p_Rn_skip ⟨show 3 + 1 ≤ 4 by omega, show 8 + (8 + 11) + 65 ≤ 92 by omega⟩) (wx_preV (wc := (w_R ad ca b (TRn_set_decisions u (upd (TRn_decisions u) p1.toNatClampNeg (-1))))) hN hK hP hD [0, 1, 2, 3, 4, 5, 6, 7, 8, 9, 10, 11, 12, 13, 14] [0, 1, 2, 3, 4, 5, 6, 7, 8, 9, 10, 11] rfl (by decide) rfl (ci := 2) (q0 := 0) rfl rfl) rfl rfl hl.1 rfl (lv_room (Nat.le_of_ble_eq_true rfl)) d_Rn_decide_97 ⟨Nat.zero_le _, Nat.zero_le _⟩) hP hD hS hA [0, 1, 2, 3, 4, 5, 6, 7, 8, 9, 10, 11, 12, 13, 14] [] [0, 1, 2, 3, 4, 5, 6, 7, 8, 9, 10, 11, 12, 13, 14] rfl rfl (by decide) (by decide) (by decide) (fun _ => rfl) (fun v_50 H locs hw hP hD hS => ?_)
                    have hP : va_P (dC, dI) vwCl (w_R ad ca b v_50) H := hP
                    have hD : va_D A (w_R ad ca b v_50) := hD
                    rw [← hw] at he
                    try dsimp only at he
                    exact W.vret hx hb hr (fun t ht hW => ⟨⟨v_50, rfl, he.symm, by rw [ht]; exact hP, va_K.moved hW.alike hK, hD⟩, hS.F ht⟩) hS.2.2 d_Rn_decide_100
        · exact absurd c_37 (by decide)
noncomputable def f_Rn_compareMeanings (b : TBk) (u : TRn) : (Int32 × TRn) := (match f_Rn_lookForMore b u with | (r_1, v_1) => (if (TRn_fault v_1) = 0 then (match f_Rn_lookForMore b v_1 with | (r_3, v_3) => (if (TRn_fault v_3) = 0 then (if (f_Bk_meanTheSame b r_1 r_3) = 0 then (0, v_3) else (1, v_3)) else (0, v_3))) else (0, v_1)))
set_option maxHeartbeats 4000000 in
set_option maxRecDepth 100000 in
theorem c_Rn_compareMeanings (l : Launch) (dC : Nat → ClassId) (dI : Nat → Nat → Nat) (ad : Nat → Nat) (ca : Nat → ClassId) (sz : Nat) (b : TBk) (u : TRn) (hpre : BkS b) (F : (Int32 × TRn)) (he : F = f_Rn_compareMeanings b u) : wx_Mi l y_Rn_compareMeanings ws_Rn_compareMeanings ({ frames := 3, cells := 0, slots := 0, locals := 70 } : Room) (dC, dI) vwCl (t_R ca) [.ref (ad 0)] (w_R ad ca b u) sz (fun v : TRn => w_R ad ca b v) (fun (r : Int32) (v : TRn) => (r, v) = F) := by
  refine Met.ofW (cc := b_Rn_compareMeanings) (maxL := 3) (ret := some .int) (by decide) rfl ?_
  intro p e s m args below meth c s₁ B hml hv
  obtain ⟨rfl, hsz, hP, hK, hD0, hN⟩ := hv
  have hx := B.exec
  have hb := B.bytes
  have hr := B.returns
  have hts := atoms_spec (ws := ws_Rn_compareMeanings) B.pre
  have ht : ∀ w ∈ TB, w.before _ s = true := fun w h => hts w (List.mem_cons_of_mem _ h)
  have hown : s.vm.findClass R_Rn = some m.cls := findClass_of_methodNamed B.named
  have hlocks := B.notSynchronized
  subst hsz
  have hD := hD0.self (sz := s.heap.size)
  generalize hAe : va_A (w_R ad ca b u) s.heap.size = A at hD ⊢
  have hA : ∀ q : Nat, s.heap.size ≤ q → A q := fun q h => by rw [← hAe]; exact Or.inr h
  have hS : va_S A s.heap s.heap [] := va_S.rf
  have hl := lv_entry ([.ref (ad 0)]) (n := 3) (Nat.le_of_ble_eq_true rfl)
  rw [lg_entry_eq]
  generalize (lg_sl ([.ref (ad 0)]) ++ List.replicate (3 - (lg_sl ([.ref (ad 0)])).length) Slot.unset).toArray = ls at hl ⊢
  have hl : lv_has ls 3 [(0, .ref (ad 0))] := hl
  unfold f_Rn_compareMeanings at he
  refine lv_aload_n hx hb d_Rn_compareMeanings_0 rfl (lv_at hl 0 rfl) ?_
  refine wx_ci (wS := fun v : TRn => w_R ad ca b v) (ws2 := fun v : TRn => w_R ad ca b v) (va_runV (As := []) (rest := []) ⟨hx, hb, hml, hown, ht⟩ (c_Rn_lookForMore l dC dI ad ca s.heap.size b u hpre _ rfl) (cwV 0 ht (tb_V q_309 q_311 q_8 q_44 q_312) rfl rfl rfl p_Rn_lookForMore ⟨show 2 + 1 ≤ 3 by omega, show 8 + (2 + 11) + 44 ≤ 70 by omega⟩) (wx_preV (wc := (w_R ad ca b u)) hN hK hP hD [0, 1, 2, 3, 4, 5, 6, 7, 8, 9, 10, 11, 12, 13, 14] [0, 1, 2, 3, 4, 5, 6, 7, 8, 9, 10, 11] rfl (by decide) rfl (ci := 2) (q0 := 0) rfl rfl) rfl rfl hl.1 rfl (lv_room (Nat.le_of_ble_eq_true rfl)) d_Rn_compareMeanings_1 ⟨Nat.zero_le _, Nat.zero_le _⟩) hP hD hS hA [0, 1, 2, 3, 4, 5, 6, 7, 8, 9, 10, 11, 12, 13, 14] [] [0, 1, 2, 3, 4, 5, 6, 7, 8, 9, 10, 11, 12, 13, 14] rfl rfl (by decide) (by decide) (by decide) (fun _ => rfl) (fun r_1 v_1 H locs hw hP hD hS => ?_)
  have hP : va_P (dC, dI) vwCl (w_R ad ca b v_1) H := hP
  have hD : va_D A (w_R ad ca b v_1) := hD
  rw [← hw] at he
  try dsimp only at he
  refine lv_istore_n (lv' := [(1, .int r_1), (0, .ref (ad 0))]) hx hb d_Rn_compareMeanings_4 rfl hl (by decide) rfl (fun ls hl => ?_)
  refine lv_aload_n hx hb d_Rn_compareMeanings_5 rfl (lv_at hl 1 rfl) ?_
  refine va_get (D := (dC, dI)) (ci := 2) (v := .int (TRn_fault v_1)) (C := R_Rn) (T := T_Rn) (N := 12) hx hb ht i_Rn hown hK hP 0 rfl rfl 11 (by decide) (ht _ q_141) (fun _ h9 => h9) rfl d_Rn_compareMeanings_6 ?_
  refine lv_if_eq (tgt := 14) hx hb d_Rn_compareMeanings_9 (by decide) (fun c_2 => ?_) (fun c_2 => ?_)
  · have he := he.trans (if_pos c_2)
    refine lv_aload_n hx hb d_Rn_compareMeanings_14 rfl (lv_at hl 1 rfl) ?_
    refine wx_ci (wS := fun v : TRn => w_R ad ca b v) (ws2 := fun v : TRn => w_R ad ca b v) (va_runV (As := []) (rest := []) ⟨hx, hb, hml, hown, ht⟩ (c_Rn_lookForMore l dC dI ad ca H.size b v_1 hpre _ rfl) (cwV 0 ht (tb_V q_309 q_311 q_8 q_44 q_312) rfl rfl rfl p_Rn_lookForMore ⟨show 2 + 1 ≤ 3 by omega, show 8 + (2 + 11) + 44 ≤ 70 by omega⟩) (wx_preV (wc := (w_R ad ca b v_1)) hN hK hP hD [0, 1, 2, 3, 4, 5, 6, 7, 8, 9, 10, 11, 12, 13, 14] [0, 1, 2, 3, 4, 5, 6, 7, 8, 9, 10, 11] rfl (by decide) rfl (ci := 2) (q0 := 0) rfl rfl) rfl rfl hl.1 rfl (lv_room (Nat.le_of_ble_eq_true rfl)) d_Rn_compareMeanings_15 ⟨Nat.zero_le _, Nat.zero_le _⟩) hP hD hS hA [0, 1, 2, 3, 4, 5, 6, 7, 8, 9, 10, 11, 12, 13, 14] [] [0, 1, 2, 3, 4, 5, 6, 7, 8, 9, 10, 11, 12, 13, 14] rfl rfl (by decide) (by decide) (by decide) (fun _ => rfl) (fun r_3 v_3 H locs hw hP hD hS => ?_)
    have hP : va_P (dC, dI) vwCl (w_R ad ca b v_3) H := hP
    have hD : va_D A (w_R ad ca b v_3) := hD
    rw [← hw] at he
    try dsimp only at he
    refine lv_istore_n (lv' := [(2, .int r_3), (1, .int r_1), (0, .ref (ad 0))]) hx hb d_Rn_compareMeanings_18 rfl hl (by decide) rfl (fun ls hl => ?_)
    refine lv_aload_n hx hb d_Rn_compareMeanings_19 rfl (lv_at hl 2 rfl) ?_
    refine va_get (D := (dC, dI)) (ci := 2) (v := .int (TRn_fault v_3)) (C := R_Rn) (T := T_Rn) (N := 12) hx hb ht i_Rn hown hK hP 0 rfl rfl 11 (by decide) (ht _ q_141) (fun _ h9 => h9) rfl d_Rn_compareMeanings_20 ?_
    refine lv_if_eq (tgt := 28) hx hb d_Rn_compareMeanings_23 (by decide) (fun c_4 => ?_) (fun c_4 => ?_)
    · have he := he.trans (if_pos c_4)
      refine lv_aload_n hx hb d_Rn_compareMeanings_28 rfl (lv_at hl 2 rfl) ?_
      refine va_get (D := (dC, dI)) (ci := 2) (v := .ref (ad 8)) (C := R_Rn) (T := T_Rn) (N := 12) hx hb ht i_Rn hown hK hP 0 rfl rfl 0 (by decide) (ht _ q_130) (fun _ h9 => h9) rfl d_Rn_compareMeanings_29 ?_
      refine lv_iload_n hx hb d_Rn_compareMeanings_32 rfl (lv_at hl 1 rfl) ?_
      refine lv_iload_n hx hb d_Rn_compareMeanings_33 rfl (lv_at hl 0 rfl) ?_
      refine wx_ci (wS := fun _ : Unit => w_B ad ca b) (ws2 := fun _ : Unit => w_R ad ca b v_3) (va_runV (As := [.int r_1, .int r_3]) (rest := []) ⟨hx, hb, hml, hown, ht⟩ (c_Bk_meanTheSame l dC dI ad ca H.size b r_1 r_3 hpre _ rfl) (cwV 2 ht (tb_V q_330 q_331 q_332 q_43 q_333) rfl rfl rfl p_Bk_meanTheSame ⟨show 2 + 1 ≤ 3 by omega, show 8 + (4 + 11) + 47 ≤ 70 by omega⟩) (wx_preV (wc := (w_B ad ca b)) hN hK hP hD [8, 9, 10, 11, 12, 13, 14] [6, 7, 8, 9, 10, 11] rfl (by decide) rfl (ci := 0) (q0 := 0) rfl rfl) rfl rfl hl.1 rfl (lv_room (Nat.le_of_ble_eq_true rfl)) d_Rn_compareMeanings_34 ⟨Nat.zero_le _, Nat.zero_le _⟩) hP hD hS hA [8, 9, 10, 11, 12, 13, 14] [0, 1, 2, 3, 4, 5, 6, 7] [0, 1, 2, 3, 4, 5, 6, 7, 8, 9, 10, 11, 12, 13, 14] rfl rfl (by decide) (by decide) (by decide) (fun _ => rfl) (fun r_5 _ H locs hw hP hD hS => ?_)
      subst hw
      have hP : va_P (dC, dI) vwCl (w_R ad ca b v_3) H := hP
      have hD : va_D A (w_R ad ca b v_3) := hD
      refine lv_if_eq (tgt := 44) hx hb d_Rn_compareMeanings_37 (by decide) (fun c_6 => ?_) (fun c_6 => ?_)
      · have he := he.trans (if_pos c_6)
        refine lv_iconst (v := 0) hx hb d_Rn_compareMeanings_44 (by decide) ?_
        exact W.iret hx hb hr (v := 0) (fun t ht hW => ⟨⟨0, v_3, rfl, he.symm, by rw [ht]; exact hP, va_K.moved hW.alike hK, hD⟩, hS.F ht⟩) hS.2.2 d_Rn_compareMeanings_45
      · have he := he.trans (if_neg c_6)
        refine lv_iconst (v := 1) hx hb d_Rn_compareMeanings_40 (by decide) ?_
        refine lv_goto (tgt := 45) hx hb d_Rn_compareMeanings_41 (by decide) ?_
        exact W.iret hx hb hr (v := 1) (fun t ht hW => ⟨⟨1, v_3, rfl, he.symm, by rw [ht]; exact hP, va_K.moved hW.alike hK, hD⟩, hS.F ht⟩) hS.2.2 d_Rn_compareMeanings_45
    · have he := he.trans (if_neg c_4)
      refine lv_iconst (v := 0) hx hb d_Rn_compareMeanings_26 (by decide) ?_
      exact W.iret hx hb hr (v := 0) (fun t ht hW => ⟨⟨0, v_3, rfl, he.symm, by rw [ht]; exact hP, va_K.moved hW.alike hK, hD⟩, hS.F ht⟩) hS.2.2 d_Rn_compareMeanings_27
  · have he := he.trans (if_neg c_2)
    refine lv_iconst (v := 0) hx hb d_Rn_compareMeanings_12 (by decide) ?_
    exact W.iret hx hb hr (v := 0) (fun t ht hW => ⟨⟨0, v_1, rfl, he.symm, by rw [ht]; exact hP, va_K.moved hW.alike hK, hD⟩, hS.F ht⟩) hS.2.2 d_Rn_compareMeanings_13
noncomputable def f_Rn_askWhetherKnown (b : TBk) (u : TRn) : (Int32 × TRn) := (match f_Rn_lookForMore b u with | (r_1, v_1) => (if (TRn_fault v_1) = 0 then (if (f_Bk_kindOf b r_1) = 0 then (0, v_1) else (1, v_1)) else (0, v_1)))
set_option maxHeartbeats 4000000 in
set_option maxRecDepth 100000 in
theorem c_Rn_askWhetherKnown (l : Launch) (dC : Nat → ClassId) (dI : Nat → Nat → Nat) (ad : Nat → Nat) (ca : Nat → ClassId) (sz : Nat) (b : TBk) (u : TRn) (hpre : BkS b) (F : (Int32 × TRn)) (he : F = f_Rn_askWhetherKnown b u) : wx_Mi l y_Rn_askWhetherKnown ws_Rn_askWhetherKnown ({ frames := 3, cells := 0, slots := 0, locals := 65 } : Room) (dC, dI) vwCl (t_R ca) [.ref (ad 0)] (w_R ad ca b u) sz (fun v : TRn => w_R ad ca b v) (fun (r : Int32) (v : TRn) => (r, v) = F) := by
  refine Met.ofW (cc := b_Rn_askWhetherKnown) (maxL := 2) (ret := some .int) (by decide) rfl ?_
  intro p e s m args below meth c s₁ B hml hv
  obtain ⟨rfl, hsz, hP, hK, hD0, hN⟩ := hv
  have hx := B.exec
  have hb := B.bytes
  have hr := B.returns
  have hts := atoms_spec (ws := ws_Rn_askWhetherKnown) B.pre
  have ht : ∀ w ∈ TB, w.before _ s = true := fun w h => hts w (List.mem_cons_of_mem _ h)
  have hown : s.vm.findClass R_Rn = some m.cls := findClass_of_methodNamed B.named
  have hlocks := B.notSynchronized
  subst hsz
  have hD := hD0.self (sz := s.heap.size)
  generalize hAe : va_A (w_R ad ca b u) s.heap.size = A at hD ⊢
  have hA : ∀ q : Nat, s.heap.size ≤ q → A q := fun q h => by rw [← hAe]; exact Or.inr h
  have hS : va_S A s.heap s.heap [] := va_S.rf
  have hl := lv_entry ([.ref (ad 0)]) (n := 2) (Nat.le_of_ble_eq_true rfl)
  rw [lg_entry_eq]
  generalize (lg_sl ([.ref (ad 0)]) ++ List.replicate (2 - (lg_sl ([.ref (ad 0)])).length) Slot.unset).toArray = ls at hl ⊢
  have hl : lv_has ls 2 [(0, .ref (ad 0))] := hl
  unfold f_Rn_askWhetherKnown at he
  refine lv_aload_n hx hb d_Rn_askWhetherKnown_0 rfl (lv_at hl 0 rfl) ?_
  refine wx_ci (wS := fun v : TRn => w_R ad ca b v) (ws2 := fun v : TRn => w_R ad ca b v) (va_runV (As := []) (rest := []) ⟨hx, hb, hml, hown, ht⟩ (c_Rn_lookForMore l dC dI ad ca s.heap.size b u hpre _ rfl) (cwV 0 ht (tb_V q_309 q_311 q_8 q_44 q_312) rfl rfl rfl p_Rn_lookForMore ⟨show 2 + 1 ≤ 3 by omega, show 8 + (2 + 11) + 44 ≤ 65 by omega⟩) (wx_preV (wc := (w_R ad ca b u)) hN hK hP hD [0, 1, 2, 3, 4, 5, 6, 7, 8, 9, 10, 11, 12, 13, 14] [0, 1, 2, 3, 4, 5, 6, 7, 8, 9, 10, 11] rfl (by decide) rfl (ci := 2) (q0 := 0) rfl rfl) rfl rfl hl.1 rfl (lv_room (Nat.le_of_ble_eq_true rfl)) d_Rn_askWhetherKnown_1 ⟨Nat.zero_le _, Nat.zero_le _⟩) hP hD hS hA [0, 1, 2, 3, 4, 5, 6, 7, 8, 9, 10, 11, 12, 13, 14] [] [0, 1, 2, 3, 4, 5, 6, 7, 8, 9, 10, 11, 12, 13, 14] rfl rfl (by decide) (by decide) (by decide) (fun _ => rfl) (fun r_1 v_1 H locs hw hP hD hS => ?_)
  have hP : va_P (dC, dI) vwCl (w_R ad ca b v_1) H := hP
  have hD : va_D A (w_R ad ca b v_1) := hD
  rw [← hw] at he
  try dsimp only at he
  refine lv_istore_n (lv' := [(1, .int r_1), (0, .ref (ad 0))]) hx hb d_Rn_askWhetherKnown_4 rfl hl (by decide) rfl (fun ls hl => ?_)
  refine lv_aload_n hx hb d_Rn_askWhetherKnown_5 rfl (lv_at hl 1 rfl) ?_
  refine va_get (D := (dC, dI)) (ci := 2) (v := .int (TRn_fault v_1)) (C := R_Rn) (T := T_Rn) (N := 12) hx hb ht i_Rn hown hK hP 0 rfl rfl 11 (by decide) (ht _ q_141) (fun _ h9 => h9) rfl d_Rn_askWhetherKnown_6 ?_
  refine lv_if_ne (tgt := 27) hx hb d_Rn_askWhetherKnown_9 (by decide) (fun c_2 => ?_) (fun c_2 => ?_)
  · have he := he.trans (if_neg c_2)
    refine lv_iconst (v := 0) hx hb d_Rn_askWhetherKnown_27 (by decide) ?_
    exact W.iret hx hb hr (v := 0) (fun t ht hW => ⟨⟨0, v_1, rfl, he.symm, by rw [ht]; exact hP, va_K.moved hW.alike hK, hD⟩, hS.F ht⟩) hS.2.2 d_Rn_askWhetherKnown_28
  · have he := he.trans (if_pos c_2)
    refine lv_aload_n hx hb d_Rn_askWhetherKnown_12 rfl (lv_at hl 1 rfl) ?_
    refine va_get (D := (dC, dI)) (ci := 2) (v := .ref (ad 8)) (C := R_Rn) (T := T_Rn) (N := 12) hx hb ht i_Rn hown hK hP 0 rfl rfl 0 (by decide) (ht _ q_130) (fun _ h9 => h9) rfl d_Rn_askWhetherKnown_13 ?_
    refine lv_iload_n hx hb d_Rn_askWhetherKnown_16 rfl (lv_at hl 0 rfl) ?_
    refine wx_ci (wS := fun _ : Unit => w_B ad ca b) (ws2 := fun _ : Unit => w_R ad ca b v_1) (va_runV (As := [.int r_1]) (rest := []) ⟨hx, hb, hml, hown, ht⟩ (c_Bk_kindOf l dC dI ad ca H.size b r_1 _ rfl) (cwV 1 ht (tb_V q_273 q_274 q_275 q_43 q_276) rfl rfl rfl p_Bk_kindOf ⟨show 1 + 1 ≤ 3 by omega, show 8 + (2 + 11) + 20 ≤ 65 by omega⟩) (wx_preV (wc := (w_B ad ca b)) hN hK hP hD [8, 9, 10, 11, 12, 13, 14] [6, 7, 8, 9, 10, 11] rfl (by decide) rfl (ci := 0) (q0 := 0) rfl rfl) rfl rfl hl.1 rfl (lv_room (Nat.le_of_ble_eq_true rfl)) d_Rn_askWhetherKnown_17 ⟨Nat.zero_le _, Nat.zero_le _⟩) hP hD hS hA [8, 9, 10, 11, 12, 13, 14] [0, 1, 2, 3, 4, 5, 6, 7] [0, 1, 2, 3, 4, 5, 6, 7, 8, 9, 10, 11, 12, 13, 14] rfl rfl (by decide) (by decide) (by decide) (fun _ => rfl) (fun r_3 _ H locs hw hP hD hS => ?_)
    subst hw
    have hP : va_P (dC, dI) vwCl (w_R ad ca b v_1) H := hP
    have hD : va_D A (w_R ad ca b v_1) := hD
    refine lv_if_eq (tgt := 27) hx hb d_Rn_askWhetherKnown_20 (by decide) (fun c_4 => ?_) (fun c_4 => ?_)
    · have he := he.trans (if_pos c_4)
      refine lv_iconst (v := 0) hx hb d_Rn_askWhetherKnown_27 (by decide) ?_
      exact W.iret hx hb hr (v := 0) (fun t ht hW => ⟨⟨0, v_1, rfl, he.symm, by rw [ht]; exact hP, va_K.moved hW.alike hK, hD⟩, hS.F ht⟩) hS.2.2 d_Rn_askWhetherKnown_28
    · have he := he.trans (if_neg c_4)
      refine lv_iconst (v := 1) hx hb d_Rn_askWhetherKnown_23 (by decide) ?_
      refine lv_goto (tgt := 28) hx hb d_Rn_askWhetherKnown_24 (by decide) ?_
      exact W.iret hx hb hr (v := 1) (fun t ht hW => ⟨⟨1, v_1, rfl, he.symm, by rw [ht]; exact hP, va_K.moved hW.alike hK, hD⟩, hS.F ht⟩) hS.2.2 d_Rn_askWhetherKnown_28
noncomputable def f_Rn_putOutAt (b : TBk) (u : TRn) (p0 : Int32) : Int32 := (if p0 < 0 then (-1) else (if (TRn_outSize u) ≤ p0 then (-1) else (if 300 ≤ p0 then (-1) else ((TRn_out u) p0.toNatClampNeg))))
set_option maxHeartbeats 4000000 in
set_option maxRecDepth 100000 in
theorem c_Rn_putOutAt (l : Launch) (dC : Nat → ClassId) (dI : Nat → Nat → Nat) (ad : Nat → Nat) (ca : Nat → ClassId) (sz : Nat) (b : TBk) (u : TRn) (p0 : Int32) (F : Int32) (he : F = f_Rn_putOutAt b u p0) : wx_Mi l y_Rn_putOutAt ws_Rn_putOutAt ({ frames := 0, cells := 0, slots := 0, locals := 0 } : Room) (dC, dI) vwCl (t_R ca) [.ref (ad 0), .int p0] (w_R ad ca b u) sz (fun _ : Unit => w_R ad ca b u) (fun (r : Int32) (_ : Unit) => r = F) := by
  refine Met.ofW (cc := b_Rn_putOutAt) (maxL := 2) (ret := some .int) (by decide) rfl ?_
  intro p e s m args below meth c s₁ B hml hv
  obtain ⟨rfl, hsz, hP, hK, hD0, hN⟩ := hv
  have hx := B.exec
  have hb := B.bytes
  have hr := B.returns
  have hts := atoms_spec (ws := ws_Rn_putOutAt) B.pre
  have ht : ∀ w ∈ TB, w.before _ s = true := fun w h => hts w (List.mem_cons_of_mem _ h)
  have hown : s.vm.findClass R_Rn = some m.cls := findClass_of_methodNamed B.named
  have hlocks := B.notSynchronized
  subst hsz
  have hD := hD0.self (sz := s.heap.size)
  generalize hAe : va_A (w_R ad ca b u) s.heap.size = A at hD ⊢
  have hA : ∀ q : Nat, s.heap.size ≤ q → A q := fun q h => by rw [← hAe]; exact Or.inr h
  have hS : va_S A s.heap s.heap [] := va_S.rf
  have hl := lv_entry ([.ref (ad 0), .int p0]) (n := 2) (Nat.le_of_ble_eq_true rfl)
  rw [lg_entry_eq]
  generalize (lg_sl ([.ref (ad 0), .int p0]) ++ List.replicate (2 - (lg_sl ([.ref (ad 0), .int p0])).length) Slot.unset).toArray = ls at hl ⊢
  have hl : lv_has ls 2 [(0, .ref (ad 0)), (1, .int p0)] := hl
  unfold f_Rn_putOutAt at he
  refine lv_iload_n hx hb d_Rn_putOutAt_0 rfl (lv_at hl 1 rfl) ?_
  refine lv_if_lt (tgt := 30) hx hb d_Rn_putOutAt_1 (by decide) (fun c_1 => ?_) (fun c_1 => ?_)
  · have he := he.trans (if_pos c_1)
    refine lv_iconst (v := (-1)) hx hb d_Rn_putOutAt_30 (by decide) ?_
    exact W.iret hx hb hr (v := (-1)) (fun t ht hW => ⟨⟨(-1), (), rfl, he.symm, by rw [ht]; exact hP, va_K.moved hW.alike hK, hD⟩, hS.F ht⟩) hS.2.2 d_Rn_putOutAt_31
  · have he := he.trans (if_neg c_1)
    refine lv_iload_n hx hb d_Rn_putOutAt_4 rfl (lv_at hl 1 rfl) ?_
    refine lv_aload_n hx hb d_Rn_putOutAt_5 rfl (lv_at hl 0 rfl) ?_
    refine va_get (D := (dC, dI)) (ci := 2) (v := .int (TRn_outSize u)) (C := R_Rn) (T := T_Rn) (N := 12) hx hb ht i_Rn hown hK hP 0 rfl rfl 6 (by decide) (ht _ q_136) (fun _ h9 => h9) rfl d_Rn_putOutAt_6 ?_
    refine lv_icmp_ge (tgt := 30) hx hb d_Rn_putOutAt_9 (by decide) (fun c_2 => ?_) (fun c_2 => ?_)
    · have he := he.trans (if_pos c_2)
      refine lv_iconst (v := (-1)) hx hb d_Rn_putOutAt_30 (by decide) ?_
      exact W.iret hx hb hr (v := (-1)) (fun t ht hW => ⟨⟨(-1), (), rfl, he.symm, by rw [ht]; exact hP, va_K.moved hW.alike hK, hD⟩, hS.F ht⟩) hS.2.2 d_Rn_putOutAt_31
    · have he := he.trans (if_neg c_2)
      refine lv_iload_n hx hb d_Rn_putOutAt_12 rfl (lv_at hl 1 rfl) ?_
      refine lv_aload_n hx hb d_Rn_putOutAt_13 rfl (lv_at hl 0 rfl) ?_
      refine va_get (D := (dC, dI)) (ci := 2) (v := .ref (ad 1)) (C := R_Rn) (T := T_Rn) (N := 12) hx hb ht i_Rn hown hK hP 0 rfl rfl 2 (by decide) (ht _ q_132) (fun _ h9 => h9) rfl d_Rn_putOutAt_14 ?_
      refine va_alen hx hb hK hP 1 0 rfl rfl (v := 300) rfl d_Rn_putOutAt_17 ?_
      refine lv_icmp_ge (tgt := 30) hx hb d_Rn_putOutAt_18 (by decide) (fun c_3 => ?_) (fun c_3 => ?_)
      · have he := he.trans (if_pos c_3)
        refine lv_iconst (v := (-1)) hx hb d_Rn_putOutAt_30 (by decide) ?_
        exact W.iret hx hb hr (v := (-1)) (fun t ht hW => ⟨⟨(-1), (), rfl, he.symm, by rw [ht]; exact hP, va_K.moved hW.alike hK, hD⟩, hS.F ht⟩) hS.2.2 d_Rn_putOutAt_31
      · have he := he.trans (if_neg c_3)
        refine lv_aload_n hx hb d_Rn_putOutAt_21 rfl (lv_at hl 0 rfl) ?_
        refine va_get (D := (dC, dI)) (ci := 2) (v := .ref (ad 1)) (C := R_Rn) (T := T_Rn) (N := 12) hx hb ht i_Rn hown hK hP 0 rfl rfl 2 (by decide) (ht _ q_132) (fun _ h9 => h9) rfl d_Rn_putOutAt_22 ?_
        refine lv_iload_n hx hb d_Rn_putOutAt_25 rfl (lv_at hl 1 rfl) ?_
        refine va_iald hx hb hK hP 1 0 rfl rfl (wx_inAU (by decide) c_1 c_3) d_Rn_putOutAt_26 ?_
        refine lv_goto (tgt := 31) hx hb d_Rn_putOutAt_27 (by decide) ?_
        exact W.iret hx hb hr (v := ((TRn_out u) p0.toNatClampNeg)) (fun t ht hW => ⟨⟨((TRn_out u) p0.toNatClampNeg), (), rfl, he.symm, by rw [ht]; exact hP, va_K.moved hW.alike hK, hD⟩, hS.F ht⟩) hS.2.2 d_Rn_putOutAt_31
noncomputable def f_Rn_decisionOf (b : TBk) (u : TRn) (p0 : Int32) : Int32 := (if p0 < 0 then (-5) else (if 100 ≤ p0 then (-5) else ((TRn_decisions u) p0.toNatClampNeg)))
set_option maxHeartbeats 4000000 in
set_option maxRecDepth 100000 in
theorem c_Rn_decisionOf (l : Launch) (dC : Nat → ClassId) (dI : Nat → Nat → Nat) (ad : Nat → Nat) (ca : Nat → ClassId) (sz : Nat) (b : TBk) (u : TRn) (p0 : Int32) (F : Int32) (he : F = f_Rn_decisionOf b u p0) : wx_Mi l y_Rn_decisionOf ws_Rn_decisionOf ({ frames := 0, cells := 0, slots := 0, locals := 0 } : Room) (dC, dI) vwCl (t_R ca) [.ref (ad 0), .int p0] (w_R ad ca b u) sz (fun _ : Unit => w_R ad ca b u) (fun (r : Int32) (_ : Unit) => r = F) := by
  refine Met.ofW (cc := b_Rn_decisionOf) (maxL := 2) (ret := some .int) (by decide) rfl ?_
  intro p e s m args below meth c s₁ B hml hv
  obtain ⟨rfl, hsz, hP, hK, hD0, hN⟩ := hv
  have hx := B.exec
  have hb := B.bytes
  have hr := B.returns
  have hts := atoms_spec (ws := ws_Rn_decisionOf) B.pre
  have ht : ∀ w ∈ TB, w.before _ s = true := fun w h => hts w (List.mem_cons_of_mem _ h)
  have hown : s.vm.findClass R_Rn = some m.cls := findClass_of_methodNamed B.named
  have hlocks := B.notSynchronized
  subst hsz
  have hD := hD0.self (sz := s.heap.size)
  generalize hAe : va_A (w_R ad ca b u) s.heap.size = A at hD ⊢
  have hA : ∀ q : Nat, s.heap.size ≤ q → A q := fun q h => by rw [← hAe]; exact Or.inr h
  have hS : va_S A s.heap s.heap [] := va_S.rf
  have hl := lv_entry ([.ref (ad 0), .int p0]) (n := 2) (Nat.le_of_ble_eq_true rfl)
  rw [lg_entry_eq]
  generalize (lg_sl ([.ref (ad 0), .int p0]) ++ List.replicate (2 - (lg_sl ([.ref (ad 0), .int p0])).length) Slot.unset).toArray = ls at hl ⊢
  have hl : lv_has ls 2 [(0, .ref (ad 0)), (1, .int p0)] := hl
  unfold f_Rn_decisionOf at he
  refine lv_iload_n hx hb d_Rn_decisionOf_0 rfl (lv_at hl 1 rfl) ?_
  refine lv_if_lt (tgt := 22) hx hb d_Rn_decisionOf_1 (by decide) (fun c_1 => ?_) (fun c_1 => ?_)
  · have he := he.trans (if_pos c_1)
    refine lv_bipush (v := (-5)) hx hb d_Rn_decisionOf_22 (by decide) ?_
    exact W.iret hx hb hr (v := (-5)) (fun t ht hW => ⟨⟨(-5), (), rfl, he.symm, by rw [ht]; exact hP, va_K.moved hW.alike hK, hD⟩, hS.F ht⟩) hS.2.2 d_Rn_decisionOf_24
  · have he := he.trans (if_neg c_1)
    refine lv_iload_n hx hb d_Rn_decisionOf_4 rfl (lv_at hl 1 rfl) ?_
    refine lv_aload_n hx hb d_Rn_decisionOf_5 rfl (lv_at hl 0 rfl) ?_
    refine va_get (D := (dC, dI)) (ci := 2) (v := .ref (ad 2)) (C := R_Rn) (T := T_Rn) (N := 12) hx hb ht i_Rn hown hK hP 0 rfl rfl 3 (by decide) (ht _ q_133) (fun _ h9 => h9) rfl d_Rn_decisionOf_6 ?_
    refine va_alen hx hb hK hP 2 1 rfl rfl (v := 100) rfl d_Rn_decisionOf_9 ?_
    refine lv_icmp_ge (tgt := 22) hx hb d_Rn_decisionOf_10 (by decide) (fun c_2 => ?_) (fun c_2 => ?_)
    · have he := he.trans (if_pos c_2)
      refine lv_bipush (v := (-5)) hx hb d_Rn_decisionOf_22 (by decide) ?_
      exact W.iret hx hb hr (v := (-5)) (fun t ht hW => ⟨⟨(-5), (), rfl, he.symm, by rw [ht]; exact hP, va_K.moved hW.alike hK, hD⟩, hS.F ht⟩) hS.2.2 d_Rn_decisionOf_24
    · have he := he.trans (if_neg c_2)
      refine lv_aload_n hx hb d_Rn_decisionOf_13 rfl (lv_at hl 0 rfl) ?_
      refine va_get (D := (dC, dI)) (ci := 2) (v := .ref (ad 2)) (C := R_Rn) (T := T_Rn) (N := 12) hx hb ht i_Rn hown hK hP 0 rfl rfl 3 (by decide) (ht _ q_133) (fun _ h9 => h9) rfl d_Rn_decisionOf_14 ?_
      refine lv_iload_n hx hb d_Rn_decisionOf_17 rfl (lv_at hl 1 rfl) ?_
      refine va_iald hx hb hK hP 2 1 rfl rfl (wx_inAU (by decide) c_1 c_2) d_Rn_decisionOf_18 ?_
      refine lv_goto (tgt := 24) hx hb d_Rn_decisionOf_19 (by decide) ?_
      exact W.iret hx hb hr (v := ((TRn_decisions u) p0.toNatClampNeg)) (fun t ht hW => ⟨⟨((TRn_decisions u) p0.toNatClampNeg), (), rfl, he.symm, by rw [ht]; exact hP, va_K.moved hW.alike hK, hD⟩, hS.F ht⟩) hS.2.2 d_Rn_decisionOf_24
noncomputable def f_Rn_tell (b : TBk) (u : TRn) (p0 : Int32) : Int32 := (if p0 = 0 then (f_Rd_stepsMade b (TRn_rd u)) else (if p0 = 1 then (TRn_outSize u) else (if p0 = 2 then (TRn_opened u) else (if p0 = 3 then (TRn_mostOpen u) else (if p0 = 4 then (TRn_skipped u) else (if p0 = 5 then (TRn_openCount u) else (if p0 = 6 then (TRn_fault u) else (-2))))))))
set_option maxHeartbeats 4000000 in
set_option maxRecDepth 100000 in
theorem c_Rn_tell (l : Launch) (dC : Nat → ClassId) (dI : Nat → Nat → Nat) (ad : Nat → Nat) (ca : Nat → ClassId) (sz : Nat) (b : TBk) (u : TRn) (p0 : Int32) (F : Int32) (he : F = f_Rn_tell b u p0) : wx_Mi l y_Rn_tell ws_Rn_tell ({ frames := 1, cells := 0, slots := 0, locals := 20 } : Room) (dC, dI) vwCl (t_R ca) [.ref (ad 0), .int p0] (w_R ad ca b u) sz (fun _ : Unit => w_R ad ca b u) (fun (r : Int32) (_ : Unit) => r = F) := by
  refine Met.ofW (cc := b_Rn_tell) (maxL := 2) (ret := some .int) (by decide) rfl ?_
  intro p e s m args below meth c s₁ B hml hv
  obtain ⟨rfl, hsz, hP, hK, hD0, hN⟩ := hv
  have hx := B.exec
  have hb := B.bytes
  have hr := B.returns
  have hts := atoms_spec (ws := ws_Rn_tell) B.pre
  have ht : ∀ w ∈ TB, w.before _ s = true := fun w h => hts w (List.mem_cons_of_mem _ h)
  have hown : s.vm.findClass R_Rn = some m.cls := findClass_of_methodNamed B.named
  have hlocks := B.notSynchronized
  subst hsz
  have hD := hD0.self (sz := s.heap.size)
  generalize hAe : va_A (w_R ad ca b u) s.heap.size = A at hD ⊢
  have hA : ∀ q : Nat, s.heap.size ≤ q → A q := fun q h => by rw [← hAe]; exact Or.inr h
  have hS : va_S A s.heap s.heap [] := va_S.rf
  have hl := lv_entry ([.ref (ad 0), .int p0]) (n := 2) (Nat.le_of_ble_eq_true rfl)
  rw [lg_entry_eq]
  generalize (lg_sl ([.ref (ad 0), .int p0]) ++ List.replicate (2 - (lg_sl ([.ref (ad 0), .int p0])).length) Slot.unset).toArray = ls at hl ⊢
  have hl : lv_has ls 2 [(0, .ref (ad 0)), (1, .int p0)] := hl
  unfold f_Rn_tell at he
  refine lv_iload_n hx hb d_Rn_tell_0 rfl (lv_at hl 1 rfl) ?_
  rcases Decidable.em (p0 = 0) with c_1 | c_1
  · have he := he.trans (if_pos c_1)
    refine lv_tableIn (off := 43) (tgt := 44) hx hb d_Rn_tell_1 (by rw [c_1]; decide) (by rw [c_1]; decide) (by rw [c_1]; rfl) (by decide) ?_
    refine lv_aload_n hx hb d_Rn_tell_44 rfl (lv_at hl 0 rfl) ?_
    refine va_get (D := (dC, dI)) (ci := 2) (v := .ref (ad 5)) (C := R_Rn) (T := T_Rn) (N := 12) hx hb ht i_Rn hown hK hP 0 rfl rfl 1 (by decide) (ht _ q_131) (fun _ h9 => h9) rfl d_Rn_tell_45 ?_
    refine wx_ci (wS := fun _ : Unit => w_D ad ca b (TRn_rd u)) (ws2 := fun _ : Unit => w_R ad ca b u) (va_runV (As := []) (rest := []) ⟨hx, hb, hml, hown, ht⟩ (c_Rd_stepsMade l dC dI ad ca s.heap.size b (TRn_rd u) _ rfl) (cwV 0 ht (tb_V q_413 q_414 q_415 q_45 q_416) rfl rfl rfl p_Rd_stepsMade ⟨show 0 + 1 ≤ 1 by omega, show 8 + (1 + 11) + 0 ≤ 20 by omega⟩) (wx_preV (wc := (w_D ad ca b (TRn_rd u))) hN hK hP hD [5, 6, 7, 8, 9, 10, 11, 12, 13, 14] [4, 5, 6, 7, 8, 9, 10, 11] rfl (by decide) rfl (ci := 1) (q0 := 0) rfl rfl) rfl rfl hl.1 rfl (lv_room (Nat.le_of_ble_eq_true rfl)) d_Rn_tell_48 ⟨Nat.zero_le _, Nat.zero_le _⟩) hP hD hS hA [5, 6, 7, 8, 9, 10, 11, 12, 13, 14] [0, 1, 2, 3, 4] [0, 1, 2, 3, 4, 5, 6, 7, 8, 9, 10, 11, 12, 13, 14] rfl rfl (by decide) (by decide) (by decide) (fun _ => rfl) (fun r_2 _ H locs hw hP hD hS => ?_)
    subst hw
    have hP : va_P (dC, dI) vwCl (w_R ad ca b u) H := hP
    have hD : va_D A (w_R ad ca b u) := hD
    exact W.iret hx hb hr (v := (f_Rd_stepsMade b (TRn_rd u))) (fun t ht hW => ⟨⟨(f_Rd_stepsMade b (TRn_rd u)), (), rfl, he.symm, by rw [ht]; exact hP, va_K.moved hW.alike hK, hD⟩, hS.F ht⟩) hS.2.2 d_Rn_tell_51
  · have he := he.trans (if_neg c_1)
    rcases Decidable.em (p0 = 1) with c_3 | c_3
    · have he := he.trans (if_pos c_3)
      refine lv_tableIn (off := 51) (tgt := 52) hx hb d_Rn_tell_1 (by rw [c_3]; decide) (by rw [c_3]; decide) (by rw [c_3]; rfl) (by decide) ?_
      refine lv_aload_n hx hb d_Rn_tell_52 rfl (lv_at hl 0 rfl) ?_
      refine va_get (D := (dC, dI)) (ci := 2) (v := .int (TRn_outSize u)) (C := R_Rn) (T := T_Rn) (N := 12) hx hb ht i_Rn hown hK hP 0 rfl rfl 6 (by decide) (ht _ q_136) (fun _ h9 => h9) rfl d_Rn_tell_53 ?_
      exact W.iret hx hb hr (v := (TRn_outSize u)) (fun t ht hW => ⟨⟨(TRn_outSize u), (), rfl, he.symm, by rw [ht]; exact hP, va_K.moved hW.alike hK, hD⟩, hS.F ht⟩) hS.2.2 d_Rn_tell_56
    · have he := he.trans (if_neg c_3)
      rcases Decidable.em (p0 = 2) with c_4 | c_4
      · have he := he.trans (if_pos c_4)
        refine lv_tableIn (off := 56) (tgt := 57) hx hb d_Rn_tell_1 (by rw [c_4]; decide) (by rw [c_4]; decide) (by rw [c_4]; rfl) (by decide) ?_
        refine lv_aload_n hx hb d_Rn_tell_57 rfl (lv_at hl 0 rfl) ?_
        refine va_get (D := (dC, dI)) (ci := 2) (v := .int (TRn_opened u)) (C := R_Rn) (T := T_Rn) (N := 12) hx hb ht i_Rn hown hK hP 0 rfl rfl 8 (by decide) (ht _ q_138) (fun _ h9 => h9) rfl d_Rn_tell_58 ?_
        exact W.iret hx hb hr (v := (TRn_opened u)) (fun t ht hW => ⟨⟨(TRn_opened u), (), rfl, he.symm, by rw [ht]; exact hP, va_K.moved hW.alike hK, hD⟩, hS.F ht⟩) hS.2.2 d_Rn_tell_61
      · have he := he.trans (if_neg c_4)
        rcases Decidable.em (p0 = 3) with c_5 | c_5
        · have he := he.trans (if_pos c_5)
          refine lv_tableIn (off := 61) (tgt := 62) hx hb d_Rn_tell_1 (by rw [c_5]; decide) (by rw [c_5]; decide) (by rw [c_5]; rfl) (by decide) ?_
          refine lv_aload_n hx hb d_Rn_tell_62 rfl (lv_at hl 0 rfl) ?_
          refine va_get (D := (dC, dI)) (ci := 2) (v := .int (TRn_mostOpen u)) (C := R_Rn) (T := T_Rn) (N := 12) hx hb ht i_Rn hown hK hP 0 rfl rfl 9 (by decide) (ht _ q_139) (fun _ h9 => h9) rfl d_Rn_tell_63 ?_
          exact W.iret hx hb hr (v := (TRn_mostOpen u)) (fun t ht hW => ⟨⟨(TRn_mostOpen u), (), rfl, he.symm, by rw [ht]; exact hP, va_K.moved hW.alike hK, hD⟩, hS.F ht⟩) hS.2.2 d_Rn_tell_66
        · have he := he.trans (if_neg c_5)
          rcases Decidable.em (p0 = 4) with c_6 | c_6
          · have he := he.trans (if_pos c_6)
            refine lv_tableIn (off := 66) (tgt := 67) hx hb d_Rn_tell_1 (by rw [c_6]; decide) (by rw [c_6]; decide) (by rw [c_6]; rfl) (by decide) ?_
            refine lv_aload_n hx hb d_Rn_tell_67 rfl (lv_at hl 0 rfl) ?_
            refine va_get (D := (dC, dI)) (ci := 2) (v := .int (TRn_skipped u)) (C := R_Rn) (T := T_Rn) (N := 12) hx hb ht i_Rn hown hK hP 0 rfl rfl 10 (by decide) (ht _ q_140) (fun _ h9 => h9) rfl d_Rn_tell_68 ?_
            exact W.iret hx hb hr (v := (TRn_skipped u)) (fun t ht hW => ⟨⟨(TRn_skipped u), (), rfl, he.symm, by rw [ht]; exact hP, va_K.moved hW.alike hK, hD⟩, hS.F ht⟩) hS.2.2 d_Rn_tell_71
          · have he := he.trans (if_neg c_6)
            rcases Decidable.em (p0 = 5) with c_7 | c_7
            · have he := he.trans (if_pos c_7)
              refine lv_tableIn (off := 71) (tgt := 72) hx hb d_Rn_tell_1 (by rw [c_7]; decide) (by rw [c_7]; decide) (by rw [c_7]; rfl) (by decide) ?_
              refine lv_aload_n hx hb d_Rn_tell_72 rfl (lv_at hl 0 rfl) ?_
              refine va_get (D := (dC, dI)) (ci := 2) (v := .int (TRn_openCount u)) (C := R_Rn) (T := T_Rn) (N := 12) hx hb ht i_Rn hown hK hP 0 rfl rfl 7 (by decide) (ht _ q_137) (fun _ h9 => h9) rfl d_Rn_tell_73 ?_
              exact W.iret hx hb hr (v := (TRn_openCount u)) (fun t ht hW => ⟨⟨(TRn_openCount u), (), rfl, he.symm, by rw [ht]; exact hP, va_K.moved hW.alike hK, hD⟩, hS.F ht⟩) hS.2.2 d_Rn_tell_76
            · have he := he.trans (if_neg c_7)
              rcases Decidable.em (p0 = 6) with c_8 | c_8
              · have he := he.trans (if_pos c_8)
                refine lv_tableIn (off := 76) (tgt := 77) hx hb d_Rn_tell_1 (by rw [c_8]; decide) (by rw [c_8]; decide) (by rw [c_8]; rfl) (by decide) ?_
                refine lv_aload_n hx hb d_Rn_tell_77 rfl (lv_at hl 0 rfl) ?_
                refine va_get (D := (dC, dI)) (ci := 2) (v := .int (TRn_fault u)) (C := R_Rn) (T := T_Rn) (N := 12) hx hb ht i_Rn hown hK hP 0 rfl rfl 11 (by decide) (ht _ q_141) (fun _ h9 => h9) rfl d_Rn_tell_78 ?_
                exact W.iret hx hb hr (v := (TRn_fault u)) (fun t ht hW => ⟨⟨(TRn_fault u), (), rfl, he.symm, by rw [ht]; exact hP, va_K.moved hW.alike hK, hD⟩, hS.F ht⟩) hS.2.2 d_Rn_tell_81
              · have he := he.trans (if_neg c_8)
                have ec_1 := lv_neT (a := 0) c_1 (by decide)
                have ec_3 := lv_neT (a := 1) c_3 (by decide)
                have ec_4 := lv_neT (a := 2) c_4 (by decide)
                have ec_5 := lv_neT (a := 3) c_5 (by decide)
                have ec_6 := lv_neT (a := 4) c_6 (by decide)
                have ec_7 := lv_neT (a := 5) c_7 (by decide)
                have ec_8 := lv_neT (a := 6) c_8 (by decide)
                refine lv_tableOut (tgt := 82) hx hb d_Rn_tell_1 (by omega) (by decide) ?_
                refine lv_bipush (v := (-2)) hx hb d_Rn_tell_82 (by decide) ?_
                exact W.iret hx hb hr (v := (-2)) (fun t ht hW => ⟨⟨(-2), (), rfl, he.symm, by rw [ht]; exact hP, va_K.moved hW.alike hK, hD⟩, hS.F ht⟩) hS.2.2 d_Rn_tell_84
