theorem q_6 : Cond.selects R_Rn y_Rn_readSign y_Rn_readSign ∈ TB := tq 6 (by decide +kernel) rfl
theorem q_12 : Cond.selects R_Rn y_Rn_readNumber y_Rn_readNumber ∈ TB := tq 12 (by decide +kernel) rfl
theorem q_301 : Cond.methodLink R_Rn 165 y_Rn_readSign ∈ TB := tq 301 (by decide +kernel) rfl
theorem q_303 : Cond.instanceMethod y_Rn_readSign ∈ TB := tq 303 (by decide +kernel) rfl
theorem q_304 : Cond.code y_Rn_readSign b_Rn_readSign 3 (some .int) ∈ TB := tq 304 (by decide +kernel) rfl
theorem q_316 : Cond.methodLink R_Rn 168 y_Bk_codeOf ∈ TB := tq 316 (by decide +kernel) rfl
theorem q_317 : Cond.instanceMethod y_Bk_codeOf ∈ TB := tq 317 (by decide +kernel) rfl
theorem q_318 : Cond.selects R_Bk y_Bk_codeOf y_Bk_codeOf ∈ TB := tq 318 (by decide +kernel) rfl
theorem q_319 : Cond.code y_Bk_codeOf b_Bk_codeOf 2 (some .int) ∈ TB := tq 319 (by decide +kernel) rfl
theorem q_322 : Cond.methodLink R_Rn 171 y_Bk_categoryOf ∈ TB := tq 322 (by decide +kernel) rfl
theorem q_323 : Cond.instanceMethod y_Bk_categoryOf ∈ TB := tq 323 (by decide +kernel) rfl
theorem q_324 : Cond.selects R_Bk y_Bk_categoryOf y_Bk_categoryOf ∈ TB := tq 324 (by decide +kernel) rfl
theorem q_325 : Cond.code y_Bk_categoryOf b_Bk_categoryOf 2 (some .int) ∈ TB := tq 325 (by decide +kernel) rfl
theorem q_344 : Cond.methodLink R_Rn 149 y_Rn_readNumber ∈ TB := tq 344 (by decide +kernel) rfl
theorem q_346 : Cond.instanceMethod y_Rn_readNumber ∈ TB := tq 346 (by decide +kernel) rfl
theorem q_347 : Cond.code y_Rn_readNumber b_Rn_readNumber 5 (some .int) ∈ TB := tq 347 (by decide +kernel) rfl
theorem q_363 : Cond.static y_Ct_isRelation ∈ TB := tq 363 (by decide +kernel) rfl
theorem q_364 : Cond.code y_Ct_isRelation b_Ct_isRelation 1 (some .boolean) ∈ TB := tq 364 (by decide +kernel) rfl
theorem d_Rn_compareSigns_0 : decode b_Rn_compareSigns 0 = .ok (.aload_n 0, 1) := by decide +kernel
theorem d_Rn_compareSigns_1 : decode b_Rn_compareSigns 1 = .ok (.iload_n 2, 1) := by decide +kernel
theorem d_Rn_compareSigns_2 : decode b_Rn_compareSigns 2 = .ok (.invokevirtual 165, 3) := by decide +kernel
theorem d_Rn_compareSigns_5 : decode b_Rn_compareSigns 5 = .ok (.istore_n 3, 1) := by decide +kernel
theorem d_Rn_compareSigns_6 : decode b_Rn_compareSigns 6 = .ok (.aload_n 0, 1) := by decide +kernel
theorem d_Rn_compareSigns_7 : decode b_Rn_compareSigns 7 = .ok (.getfield 45, 3) := by decide +kernel
theorem d_Rn_compareSigns_10 : decode b_Rn_compareSigns 10 = .ok (.ifCond .eq 5, 3) := by decide +kernel
theorem d_Rn_compareSigns_13 : decode b_Rn_compareSigns 13 = .ok (.iconst 0, 1) := by decide +kernel
theorem d_Rn_compareSigns_14 : decode b_Rn_compareSigns 14 = .ok (.ireturn, 1) := by decide +kernel
theorem d_Rn_compareSigns_15 : decode b_Rn_compareSigns 15 = .ok (.aload_n 0, 1) := by decide +kernel
theorem d_Rn_compareSigns_16 : decode b_Rn_compareSigns 16 = .ok (.iload_n 2, 1) := by decide +kernel
theorem d_Rn_compareSigns_17 : decode b_Rn_compareSigns 17 = .ok (.invokevirtual 165, 3) := by decide +kernel
theorem d_Rn_compareSigns_20 : decode b_Rn_compareSigns 20 = .ok (.istore 4, 2) := by decide +kernel
theorem d_Rn_compareSigns_22 : decode b_Rn_compareSigns 22 = .ok (.aload_n 0, 1) := by decide +kernel
theorem d_Rn_compareSigns_23 : decode b_Rn_compareSigns 23 = .ok (.getfield 45, 3) := by decide +kernel
theorem d_Rn_compareSigns_26 : decode b_Rn_compareSigns 26 = .ok (.ifCond .eq 5, 3) := by decide +kernel
theorem d_Rn_compareSigns_29 : decode b_Rn_compareSigns 29 = .ok (.iconst 0, 1) := by decide +kernel
theorem d_Rn_compareSigns_30 : decode b_Rn_compareSigns 30 = .ok (.ireturn, 1) := by decide +kernel
theorem d_Rn_compareSigns_31 : decode b_Rn_compareSigns 31 = .ok (.iload_n 1, 1) := by decide +kernel
theorem d_Rn_compareSigns_32 : decode b_Rn_compareSigns 32 = .ok (.ifCond .eq 31, 3) := by decide +kernel
theorem d_Rn_compareSigns_35 : decode b_Rn_compareSigns 35 = .ok (.aload_n 0, 1) := by decide +kernel
theorem d_Rn_compareSigns_36 : decode b_Rn_compareSigns 36 = .ok (.getfield 25, 3) := by decide +kernel
theorem d_Rn_compareSigns_39 : decode b_Rn_compareSigns 39 = .ok (.iload_n 3, 1) := by decide +kernel
theorem d_Rn_compareSigns_40 : decode b_Rn_compareSigns 40 = .ok (.invokevirtual 168, 3) := by decide +kernel
theorem d_Rn_compareSigns_43 : decode b_Rn_compareSigns 43 = .ok (.aload_n 0, 1) := by decide +kernel
theorem d_Rn_compareSigns_44 : decode b_Rn_compareSigns 44 = .ok (.getfield 25, 3) := by decide +kernel
theorem d_Rn_compareSigns_47 : decode b_Rn_compareSigns 47 = .ok (.iload 4, 2) := by decide +kernel
theorem d_Rn_compareSigns_49 : decode b_Rn_compareSigns 49 = .ok (.invokevirtual 168, 3) := by decide +kernel
theorem d_Rn_compareSigns_52 : decode b_Rn_compareSigns 52 = .ok (.if_icmp .ne 7, 3) := by decide +kernel
theorem d_Rn_compareSigns_55 : decode b_Rn_compareSigns 55 = .ok (.iconst 1, 1) := by decide +kernel
theorem d_Rn_compareSigns_56 : decode b_Rn_compareSigns 56 = .ok (.goto 32, 3) := by decide +kernel
theorem d_Rn_compareSigns_59 : decode b_Rn_compareSigns 59 = .ok (.iconst 0, 1) := by decide +kernel
theorem d_Rn_compareSigns_60 : decode b_Rn_compareSigns 60 = .ok (.goto 28, 3) := by decide +kernel
theorem d_Rn_compareSigns_63 : decode b_Rn_compareSigns 63 = .ok (.aload_n 0, 1) := by decide +kernel
theorem d_Rn_compareSigns_64 : decode b_Rn_compareSigns 64 = .ok (.getfield 25, 3) := by decide +kernel
theorem d_Rn_compareSigns_67 : decode b_Rn_compareSigns 67 = .ok (.iload_n 3, 1) := by decide +kernel
theorem d_Rn_compareSigns_68 : decode b_Rn_compareSigns 68 = .ok (.invokevirtual 171, 3) := by decide +kernel
theorem d_Rn_compareSigns_71 : decode b_Rn_compareSigns 71 = .ok (.aload_n 0, 1) := by decide +kernel
theorem d_Rn_compareSigns_72 : decode b_Rn_compareSigns 72 = .ok (.getfield 25, 3) := by decide +kernel
theorem d_Rn_compareSigns_75 : decode b_Rn_compareSigns 75 = .ok (.iload 4, 2) := by decide +kernel
theorem d_Rn_compareSigns_77 : decode b_Rn_compareSigns 77 = .ok (.invokevirtual 171, 3) := by decide +kernel
theorem d_Rn_compareSigns_80 : decode b_Rn_compareSigns 80 = .ok (.if_icmp .ne 7, 3) := by decide +kernel
theorem d_Rn_compareSigns_83 : decode b_Rn_compareSigns 83 = .ok (.iconst 1, 1) := by decide +kernel
theorem d_Rn_compareSigns_84 : decode b_Rn_compareSigns 84 = .ok (.goto 4, 3) := by decide +kernel
theorem d_Rn_compareSigns_87 : decode b_Rn_compareSigns 87 = .ok (.iconst 0, 1) := by decide +kernel
theorem d_Rn_compareSigns_88 : decode b_Rn_compareSigns 88 = .ok (.istore 5, 2) := by decide +kernel
theorem d_Rn_compareSigns_90 : decode b_Rn_compareSigns 90 = .ok (.iload 5, 2) := by decide +kernel
theorem d_Rn_compareSigns_92 : decode b_Rn_compareSigns 92 = .ok (.ifCond .eq 7, 3) := by decide +kernel
theorem d_Rn_compareSigns_95 : decode b_Rn_compareSigns 95 = .ok (.iconst 1, 1) := by decide +kernel
theorem d_Rn_compareSigns_96 : decode b_Rn_compareSigns 96 = .ok (.goto 4, 3) := by decide +kernel
theorem d_Rn_compareSigns_99 : decode b_Rn_compareSigns 99 = .ok (.iconst 0, 1) := by decide +kernel
theorem d_Rn_compareSigns_100 : decode b_Rn_compareSigns 100 = .ok (.ireturn, 1) := by decide +kernel
theorem d_Rn_compareNumbers_0 : decode b_Rn_compareNumbers 0 = .ok (.aload_n 0, 1) := by decide +kernel
theorem d_Rn_compareNumbers_1 : decode b_Rn_compareNumbers 1 = .ok (.iload_n 1, 1) := by decide +kernel
theorem d_Rn_compareNumbers_2 : decode b_Rn_compareNumbers 2 = .ok (.invokevirtual 149, 3) := by decide +kernel
theorem d_Rn_compareNumbers_5 : decode b_Rn_compareNumbers 5 = .ok (.istore_n 2, 1) := by decide +kernel
theorem d_Rn_compareNumbers_6 : decode b_Rn_compareNumbers 6 = .ok (.aload_n 0, 1) := by decide +kernel
theorem d_Rn_compareNumbers_7 : decode b_Rn_compareNumbers 7 = .ok (.getfield 45, 3) := by decide +kernel
theorem d_Rn_compareNumbers_10 : decode b_Rn_compareNumbers 10 = .ok (.ifCond .eq 5, 3) := by decide +kernel
theorem d_Rn_compareNumbers_13 : decode b_Rn_compareNumbers 13 = .ok (.iconst 0, 1) := by decide +kernel
theorem d_Rn_compareNumbers_14 : decode b_Rn_compareNumbers 14 = .ok (.ireturn, 1) := by decide +kernel
theorem d_Rn_compareNumbers_15 : decode b_Rn_compareNumbers 15 = .ok (.aload_n 0, 1) := by decide +kernel
theorem d_Rn_compareNumbers_16 : decode b_Rn_compareNumbers 16 = .ok (.iload_n 1, 1) := by decide +kernel
theorem d_Rn_compareNumbers_17 : decode b_Rn_compareNumbers 17 = .ok (.invokevirtual 165, 3) := by decide +kernel
theorem d_Rn_compareNumbers_20 : decode b_Rn_compareNumbers 20 = .ok (.istore_n 3, 1) := by decide +kernel
theorem d_Rn_compareNumbers_21 : decode b_Rn_compareNumbers 21 = .ok (.aload_n 0, 1) := by decide +kernel
theorem d_Rn_compareNumbers_22 : decode b_Rn_compareNumbers 22 = .ok (.getfield 45, 3) := by decide +kernel
theorem d_Rn_compareNumbers_25 : decode b_Rn_compareNumbers 25 = .ok (.ifCond .eq 5, 3) := by decide +kernel
theorem d_Rn_compareNumbers_28 : decode b_Rn_compareNumbers 28 = .ok (.iconst 0, 1) := by decide +kernel
theorem d_Rn_compareNumbers_29 : decode b_Rn_compareNumbers 29 = .ok (.ireturn, 1) := by decide +kernel
theorem d_Rn_compareNumbers_30 : decode b_Rn_compareNumbers 30 = .ok (.iload_n 3, 1) := by decide +kernel
theorem d_Rn_compareNumbers_31 : decode b_Rn_compareNumbers 31 = .ok (.invokestatic 177, 3) := by decide +kernel
theorem d_Rn_compareNumbers_34 : decode b_Rn_compareNumbers 34 = .ok (.ifCond .ne 10, 3) := by decide +kernel
theorem d_Rn_compareNumbers_37 : decode b_Rn_compareNumbers 37 = .ok (.aload_n 0, 1) := by decide +kernel
theorem d_Rn_compareNumbers_38 : decode b_Rn_compareNumbers 38 = .ok (.iconst 4, 1) := by decide +kernel
theorem d_Rn_compareNumbers_39 : decode b_Rn_compareNumbers 39 = .ok (.invokevirtual 53, 3) := by decide +kernel
theorem d_Rn_compareNumbers_42 : decode b_Rn_compareNumbers 42 = .ok (.iconst 0, 1) := by decide +kernel
theorem d_Rn_compareNumbers_43 : decode b_Rn_compareNumbers 43 = .ok (.ireturn, 1) := by decide +kernel
theorem d_Rn_compareNumbers_44 : decode b_Rn_compareNumbers 44 = .ok (.aload_n 0, 1) := by decide +kernel
theorem d_Rn_compareNumbers_45 : decode b_Rn_compareNumbers 45 = .ok (.iload_n 1, 1) := by decide +kernel
theorem d_Rn_compareNumbers_46 : decode b_Rn_compareNumbers 46 = .ok (.invokevirtual 149, 3) := by decide +kernel
theorem d_Rn_compareNumbers_49 : decode b_Rn_compareNumbers 49 = .ok (.istore 4, 2) := by decide +kernel
theorem d_Rn_compareNumbers_51 : decode b_Rn_compareNumbers 51 = .ok (.iload_n 3, 1) := by decide +kernel
theorem d_Rn_compareNumbers_52 : decode b_Rn_compareNumbers 52 = .ok (.sipush 3132, 3) := by decide +kernel
theorem d_Rn_compareNumbers_55 : decode b_Rn_compareNumbers 55 = .ok (.if_icmp .ne 17, 3) := by decide +kernel
theorem d_Rn_compareNumbers_58 : decode b_Rn_compareNumbers 58 = .ok (.iload_n 2, 1) := by decide +kernel
theorem d_Rn_compareNumbers_59 : decode b_Rn_compareNumbers 59 = .ok (.iload 4, 2) := by decide +kernel
theorem d_Rn_compareNumbers_61 : decode b_Rn_compareNumbers 61 = .ok (.if_icmp .ge 7, 3) := by decide +kernel
theorem d_Rn_compareNumbers_64 : decode b_Rn_compareNumbers 64 = .ok (.iconst 1, 1) := by decide +kernel
theorem d_Rn_compareNumbers_65 : decode b_Rn_compareNumbers 65 = .ok (.goto 39, 3) := by decide +kernel
theorem d_Rn_compareNumbers_68 : decode b_Rn_compareNumbers 68 = .ok (.iconst 0, 1) := by decide +kernel
theorem d_Rn_compareNumbers_69 : decode b_Rn_compareNumbers 69 = .ok (.goto 35, 3) := by decide +kernel
theorem d_Rn_compareNumbers_72 : decode b_Rn_compareNumbers 72 = .ok (.iload_n 3, 1) := by decide +kernel
theorem d_Rn_compareNumbers_73 : decode b_Rn_compareNumbers 73 = .ok (.sipush 3133, 3) := by decide +kernel
theorem d_Rn_compareNumbers_76 : decode b_Rn_compareNumbers 76 = .ok (.if_icmp .ne 17, 3) := by decide +kernel
theorem d_Rn_compareNumbers_79 : decode b_Rn_compareNumbers 79 = .ok (.iload_n 2, 1) := by decide +kernel
theorem d_Rn_compareNumbers_80 : decode b_Rn_compareNumbers 80 = .ok (.iload 4, 2) := by decide +kernel
theorem d_Rn_compareNumbers_82 : decode b_Rn_compareNumbers 82 = .ok (.if_icmp .ne 7, 3) := by decide +kernel
theorem d_Rn_compareNumbers_85 : decode b_Rn_compareNumbers 85 = .ok (.iconst 1, 1) := by decide +kernel
theorem d_Rn_compareNumbers_86 : decode b_Rn_compareNumbers 86 = .ok (.goto 18, 3) := by decide +kernel
theorem d_Rn_compareNumbers_89 : decode b_Rn_compareNumbers 89 = .ok (.iconst 0, 1) := by decide +kernel
theorem d_Rn_compareNumbers_90 : decode b_Rn_compareNumbers 90 = .ok (.goto 14, 3) := by decide +kernel
theorem d_Rn_compareNumbers_93 : decode b_Rn_compareNumbers 93 = .ok (.iload_n 2, 1) := by decide +kernel
theorem d_Rn_compareNumbers_94 : decode b_Rn_compareNumbers 94 = .ok (.iload 4, 2) := by decide +kernel
theorem d_Rn_compareNumbers_96 : decode b_Rn_compareNumbers 96 = .ok (.if_icmp .le 7, 3) := by decide +kernel
theorem d_Rn_compareNumbers_99 : decode b_Rn_compareNumbers 99 = .ok (.iconst 1, 1) := by decide +kernel
theorem d_Rn_compareNumbers_100 : decode b_Rn_compareNumbers 100 = .ok (.goto 4, 3) := by decide +kernel
theorem d_Rn_compareNumbers_103 : decode b_Rn_compareNumbers 103 = .ok (.iconst 0, 1) := by decide +kernel
theorem d_Rn_compareNumbers_104 : decode b_Rn_compareNumbers 104 = .ok (.istore 5, 2) := by decide +kernel
theorem d_Rn_compareNumbers_106 : decode b_Rn_compareNumbers 106 = .ok (.iload 5, 2) := by decide +kernel
theorem d_Rn_compareNumbers_108 : decode b_Rn_compareNumbers 108 = .ok (.ifCond .eq 7, 3) := by decide +kernel
theorem d_Rn_compareNumbers_111 : decode b_Rn_compareNumbers 111 = .ok (.iconst 1, 1) := by decide +kernel
theorem d_Rn_compareNumbers_112 : decode b_Rn_compareNumbers 112 = .ok (.goto 4, 3) := by decide +kernel
theorem d_Rn_compareNumbers_115 : decode b_Rn_compareNumbers 115 = .ok (.iconst 0, 1) := by decide +kernel
theorem d_Rn_compareNumbers_116 : decode b_Rn_compareNumbers 116 = .ok (.ireturn, 1) := by decide +kernel
theorem d_Rn_askWhetherOn_0 : decode b_Rn_askWhetherOn 0 = .ok (.aload_n 0, 1) := by decide +kernel
theorem d_Rn_askWhetherOn_1 : decode b_Rn_askWhetherOn 1 = .ok (.iload_n 2, 1) := by decide +kernel
theorem d_Rn_askWhetherOn_2 : decode b_Rn_askWhetherOn 2 = .ok (.invokevirtual 149, 3) := by decide +kernel
theorem d_Rn_askWhetherOn_5 : decode b_Rn_askWhetherOn 5 = .ok (.istore_n 3, 1) := by decide +kernel
theorem d_Rn_askWhetherOn_6 : decode b_Rn_askWhetherOn 6 = .ok (.aload_n 0, 1) := by decide +kernel
theorem d_Rn_askWhetherOn_7 : decode b_Rn_askWhetherOn 7 = .ok (.getfield 45, 3) := by decide +kernel
theorem d_Rn_askWhetherOn_10 : decode b_Rn_askWhetherOn 10 = .ok (.ifCond .eq 5, 3) := by decide +kernel
theorem d_Rn_askWhetherOn_13 : decode b_Rn_askWhetherOn 13 = .ok (.iconst 0, 1) := by decide +kernel
theorem d_Rn_askWhetherOn_14 : decode b_Rn_askWhetherOn 14 = .ok (.ireturn, 1) := by decide +kernel
theorem d_Rn_askWhetherOn_15 : decode b_Rn_askWhetherOn 15 = .ok (.iload_n 3, 1) := by decide +kernel
theorem d_Rn_askWhetherOn_16 : decode b_Rn_askWhetherOn 16 = .ok (.ifCond .lt 9, 3) := by decide +kernel
theorem d_Rn_askWhetherOn_19 : decode b_Rn_askWhetherOn 19 = .ok (.iload_n 3, 1) := by decide +kernel
theorem d_Rn_askWhetherOn_20 : decode b_Rn_askWhetherOn 20 = .ok (.aload_n 1, 1) := by decide +kernel
theorem d_Rn_askWhetherOn_21 : decode b_Rn_askWhetherOn 21 = .ok (.arraylength, 1) := by decide +kernel
theorem d_Rn_askWhetherOn_22 : decode b_Rn_askWhetherOn 22 = .ok (.if_icmp .lt 11, 3) := by decide +kernel
theorem d_Rn_askWhetherOn_25 : decode b_Rn_askWhetherOn 25 = .ok (.aload_n 0, 1) := by decide +kernel
theorem d_Rn_askWhetherOn_26 : decode b_Rn_askWhetherOn 26 = .ok (.bipush 8, 2) := by decide +kernel
theorem d_Rn_askWhetherOn_28 : decode b_Rn_askWhetherOn 28 = .ok (.invokevirtual 53, 3) := by decide +kernel
theorem d_Rn_askWhetherOn_31 : decode b_Rn_askWhetherOn 31 = .ok (.iconst 0, 1) := by decide +kernel
theorem d_Rn_askWhetherOn_32 : decode b_Rn_askWhetherOn 32 = .ok (.ireturn, 1) := by decide +kernel
theorem d_Rn_askWhetherOn_33 : decode b_Rn_askWhetherOn 33 = .ok (.aload_n 1, 1) := by decide +kernel
theorem d_Rn_askWhetherOn_34 : decode b_Rn_askWhetherOn 34 = .ok (.iload_n 3, 1) := by decide +kernel
theorem d_Rn_askWhetherOn_35 : decode b_Rn_askWhetherOn 35 = .ok (.baload, 1) := by decide +kernel
theorem d_Rn_askWhetherOn_36 : decode b_Rn_askWhetherOn 36 = .ok (.ifCond .eq 7, 3) := by decide +kernel
theorem d_Rn_askWhetherOn_39 : decode b_Rn_askWhetherOn 39 = .ok (.iconst 1, 1) := by decide +kernel
theorem d_Rn_askWhetherOn_40 : decode b_Rn_askWhetherOn 40 = .ok (.goto 4, 3) := by decide +kernel
theorem d_Rn_askWhetherOn_43 : decode b_Rn_askWhetherOn 43 = .ok (.iconst 0, 1) := by decide +kernel
theorem d_Rn_askWhetherOn_44 : decode b_Rn_askWhetherOn 44 = .ok (.ireturn, 1) := by decide +kernel
noncomputable def f_Rn_compareSigns (op : TBk → TRn → Int32 → TRn) (b : TBk) (u : TRn) (p0 : Int32) (p1 : Int32) : (Int32 × TRn) := (match f_Rn_readSign op b u p1 with | (r_1, v_1) => (if (TRn_fault v_1) = 0 then (match f_Rn_readSign op b v_1 p1 with | (r_3, v_3) => (if (TRn_fault v_3) = 0 then (if p0 = 0 then (if (f_Bk_categoryOf b r_1) = (f_Bk_categoryOf b r_3) then (1, v_3) else (0, v_3)) else (if (f_Bk_codeOf b r_1) = (f_Bk_codeOf b r_3) then (1, v_3) else (0, v_3))) else (0, v_3))) else (0, v_1)))
set_option maxHeartbeats 4000000 in
set_option maxRecDepth 100000 in
theorem c_Rn_compareSigns (l : Launch) (dC : Nat → ClassId) (dI : Nat → Nat → Nat) (ad : Nat → Nat) (ca : Nat → ClassId) (op : TBk → TRn → Int32 → TRn) (rf rl : Nat) (k : Int) (hopm : ∀ (b : TBk) (u : TRn) (w : Int32), k ≤ oc u → oc u ≤ oc (op b u w)) (hop : ∀ (sz : Nat) (b : TBk) (u : TRn) (w : Int32), BkS b ∧ k ≤ oc u → wx_Mv l y_Rn_open ws_Rn_open ({ frames := rf, cells := 0, slots := 0, locals := rl } : Room) (dC, dI) vwCl (t_R ca) [.ref (ad 0), .int w] (w_R ad ca b u) sz (fun v : TRn => w_R ad ca b v) (fun v : TRn => v = op b u w)) (sz : Nat) (b : TBk) (u : TRn) (p0 : Int32) (p1 : Int32) (hpre : BkS b ∧ k ≤ p1.toInt ∧ p1.toInt ≤ oc u) (F : (Int32 × TRn)) (he : F = f_Rn_compareSigns op b u p0 p1) : wx_Mi l y_Rn_compareSigns ws_Rn_compareSigns ({ frames := rf + 8, cells := 0, slots := 0, locals := rl + 181 } : Room) (dC, dI) vwCl (t_R ca) [.ref (ad 0), .int p0, .int p1] (w_R ad ca b u) sz (fun v : TRn => w_R ad ca b v) (fun (r : Int32) (v : TRn) => (r, v) = F) := by
  refine Met.ofW (cc := b_Rn_compareSigns) (maxL := 6) (ret := some .int) (by decide) rfl ?_
  intro p e s m args below meth c s₁ B hml hv
  obtain ⟨rfl, hsz, hP, hK, hD0, hN⟩ := hv
  have hx := B.exec
  have hb := B.bytes
  have hr := B.returns
  have hts := atoms_spec (ws := ws_Rn_compareSigns) B.pre
  have ht : ∀ w ∈ TB, w.before _ s = true := fun w h => hts w (List.mem_cons_of_mem _ h)
  have hown : s.vm.findClass R_Rn = some m.cls := findClass_of_methodNamed B.named
  have hlocks := B.notSynchronized
  subst hsz
  have hD := hD0.self (sz := s.heap.size)
  generalize hAe : va_A (w_R ad ca b u) s.heap.size = A at hD ⊢
  have hA : ∀ q : Nat, s.heap.size ≤ q → A q := fun q h => by rw [← hAe]; exact Or.inr h
  have hS : va_S A s.heap s.heap [] := va_S.rf
  have hl := lv_entry ([.ref (ad 0), .int p0, .int p1]) (n := 6) (Nat.le_of_ble_eq_true rfl)
  rw [lg_entry_eq]
  generalize (lg_sl ([.ref (ad 0), .int p0, .int p1]) ++ List.replicate (6 - (lg_sl ([.ref (ad 0), .int p0, .int p1])).length) Slot.unset).toArray = ls at hl ⊢
  have hl : lv_has ls 6 [(0, .ref (ad 0)), (1, .int p0), (2, .int p1)] := hl
  unfold f_Rn_compareSigns at he
  refine lv_aload_n hx hb d_Rn_compareSigns_0 rfl (lv_at hl 0 rfl) ?_
  refine lv_iload_n hx hb d_Rn_compareSigns_1 rfl (lv_at hl 2 rfl) ?_
  refine wx_ci (wS := fun v : TRn => w_R ad ca b v) (ws2 := fun v : TRn => w_R ad ca b v) (va_runV (As := [.int p1]) (rest := []) ⟨hx, hb, hml, hown, ht⟩ (c_Rn_readSign l dC dI ad ca op rf rl k hopm hop s.heap.size b u p1 hpre _ rfl) (cwV 1 ht (tb_V q_301 q_303 q_6 q_44 q_304) rfl rfl rfl p_Rn_readSign ⟨show (rf + 7) + 1 ≤ rf + 8 by omega, show 8 + (3 + 11) + (rl + 159) ≤ rl + 181 by omega⟩) (wx_preV (wc := (w_R ad ca b u)) hN hK hP hD [0, 1, 2, 3, 4, 5, 6, 7, 8, 9, 10, 11, 12, 13, 14] [0, 1, 2, 3, 4, 5, 6, 7, 8, 9, 10, 11] rfl (by decide) rfl (ci := 2) (q0 := 0) rfl rfl) rfl rfl hl.1 rfl (lv_room (Nat.le_of_ble_eq_true rfl)) d_Rn_compareSigns_2 ⟨Nat.zero_le _, Nat.zero_le _⟩) hP hD hS hA [0, 1, 2, 3, 4, 5, 6, 7, 8, 9, 10, 11, 12, 13, 14] [] [0, 1, 2, 3, 4, 5, 6, 7, 8, 9, 10, 11, 12, 13, 14] rfl rfl (by decide) (by decide) (by decide) (fun _ => rfl) (fun r_1 v_1 H locs hw_1 hP hD hS => ?_)
  have hP : va_P (dC, dI) vwCl (w_R ad ca b v_1) H := hP
  have hD : va_D A (w_R ad ca b v_1) := hD
  rw [← hw_1] at he
  try dsimp only at he
  refine lv_istore_n (lv' := [(3, .int r_1), (0, .ref (ad 0)), (1, .int p0), (2, .int p1)]) hx hb d_Rn_compareSigns_5 rfl hl (by decide) rfl (fun ls hl => ?_)
  refine lv_aload_n hx hb d_Rn_compareSigns_6 rfl (lv_at hl 1 rfl) ?_
  refine va_get (D := (dC, dI)) (ci := 2) (v := .int (TRn_fault v_1)) (C := R_Rn) (T := T_Rn) (N := 12) hx hb ht i_Rn hown hK hP 0 rfl rfl 11 (by decide) (ht _ q_141) (fun _ h9 => h9) rfl d_Rn_compareSigns_7 ?_
  refine lv_if_eq (tgt := 15) hx hb d_Rn_compareSigns_10 (by decide) (fun c_2 => ?_) (fun c_2 => ?_)
  · have he := he.trans (if_pos c_2)
    refine lv_aload_n hx hb d_Rn_compareSigns_15 rfl (lv_at hl 1 rfl) ?_
    refine lv_iload_n hx hb d_Rn_compareSigns_16 rfl (lv_at hl 3 rfl) ?_
    refine wx_ci (wS := fun v : TRn => w_R ad ca b v) (ws2 := fun v : TRn => w_R ad ca b v) (va_runV (As := [.int p1]) (rest := []) ⟨hx, hb, hml, hown, ht⟩ (c_Rn_readSign l dC dI ad ca op rf rl k hopm hop H.size b v_1 p1 ⟨hpre.1, hpre.2.1, oc_rs op k hopm hw_1 hpre.2.1 hpre.2.2⟩ _ rfl) (cwV 1 ht (tb_V q_301 q_303 q_6 q_44 q_304) rfl rfl rfl p_Rn_readSign ⟨show (rf + 7) + 1 ≤ rf + 8 by omega, show 8 + (3 + 11) + (rl + 159) ≤ rl + 181 by omega⟩) (wx_preV (wc := (w_R ad ca b v_1)) hN hK hP hD [0, 1, 2, 3, 4, 5, 6, 7, 8, 9, 10, 11, 12, 13, 14] [0, 1, 2, 3, 4, 5, 6, 7, 8, 9, 10, 11] rfl (by decide) rfl (ci := 2) (q0 := 0) rfl rfl) rfl rfl hl.1 rfl (lv_room (Nat.le_of_ble_eq_true rfl)) d_Rn_compareSigns_17 ⟨Nat.zero_le _, Nat.zero_le _⟩) hP hD hS hA [0, 1, 2, 3, 4, 5, 6, 7, 8, 9, 10, 11, 12, 13, 14] [] [0, 1, 2, 3, 4, 5, 6, 7, 8, 9, 10, 11, 12, 13, 14] rfl rfl (by decide) (by decide) (by decide) (fun _ => rfl) (fun r_3 v_3 H locs hw_3 hP hD hS => ?_)
    have hP : va_P (dC, dI) vwCl (w_R ad ca b v_3) H := hP
    have hD : va_D A (w_R ad ca b v_3) := hD
    rw [← hw_3] at he
    try dsimp only at he
    refine lv_istore (lv' := [(4, .int r_3), (3, .int r_1), (0, .ref (ad 0)), (1, .int p0), (2, .int p1)]) hx hb d_Rn_compareSigns_20 hl (by decide) rfl (fun ls hl => ?_)
    refine lv_aload_n hx hb d_Rn_compareSigns_22 rfl (lv_at hl 2 rfl) ?_
    refine va_get (D := (dC, dI)) (ci := 2) (v := .int (TRn_fault v_3)) (C := R_Rn) (T := T_Rn) (N := 12) hx hb ht i_Rn hown hK hP 0 rfl rfl 11 (by decide) (ht _ q_141) (fun _ h9 => h9) rfl d_Rn_compareSigns_23 ?_
    refine lv_if_eq (tgt := 31) hx hb d_Rn_compareSigns_26 (by decide) (fun c_4 => ?_) (fun c_4 => ?_)
    · have he := he.trans (if_pos c_4)
      refine lv_iload_n hx hb d_Rn_compareSigns_31 rfl (lv_at hl 3 rfl) ?_
      refine lv_if_eq (tgt := 63) hx hb d_Rn_compareSigns_32 (by decide) (fun c_5 => ?_) (fun c_5 => ?_)
      · have he := he.trans (if_pos c_5)
        refine lv_aload_n hx hb d_Rn_compareSigns_63 rfl (lv_at hl 2 rfl) ?_
        refine va_get (D := (dC, dI)) (ci := 2) (v := .ref (ad 8)) (C := R_Rn) (T := T_Rn) (N := 12) hx hb ht i_Rn hown hK hP 0 rfl rfl 0 (by decide) (ht _ q_130) (fun _ h9 => h9) rfl d_Rn_compareSigns_64 ?_
        refine lv_iload_n hx hb d_Rn_compareSigns_67 rfl (lv_at hl 1 rfl) ?_
        refine wx_ci (wS := fun _ : Unit => w_B ad ca b) (ws2 := fun _ : Unit => w_R ad ca b v_3) (va_runV (As := [.int r_1]) (rest := []) ⟨hx, hb, hml, hown, ht⟩ (c_Bk_categoryOf l dC dI ad ca H.size b r_1 _ rfl) (cwV 1 ht (tb_V q_322 q_323 q_324 q_43 q_325) rfl rfl rfl p_Bk_categoryOf ⟨show 2 + 1 ≤ rf + 8 by omega, show 8 + (2 + 11) + 41 ≤ rl + 181 by omega⟩) (wx_preV (wc := (w_B ad ca b)) hN hK hP hD [8, 9, 10, 11, 12, 13, 14] [6, 7, 8, 9, 10, 11] rfl (by decide) rfl (ci := 0) (q0 := 0) rfl rfl) rfl rfl hl.1 rfl (lv_room (Nat.le_of_ble_eq_true rfl)) d_Rn_compareSigns_68 ⟨Nat.zero_le _, Nat.zero_le _⟩) hP hD hS hA [8, 9, 10, 11, 12, 13, 14] [0, 1, 2, 3, 4, 5, 6, 7] [0, 1, 2, 3, 4, 5, 6, 7, 8, 9, 10, 11, 12, 13, 14] rfl rfl (by decide) (by decide) (by decide) (fun _ => rfl) (fun r_6 _ H locs hw_6 hP hD hS => ?_)
        subst hw_6
        have hP : va_P (dC, dI) vwCl (w_R ad ca b v_3) H := hP
        have hD : va_D A (w_R ad ca b v_3) := hD
        refine lv_aload_n hx hb d_Rn_compareSigns_71 rfl (lv_at hl 2 rfl) ?_
        refine va_get (D := (dC, dI)) (ci := 2) (v := .ref (ad 8)) (C := R_Rn) (T := T_Rn) (N := 12) hx hb ht i_Rn hown hK hP 0 rfl rfl 0 (by decide) (ht _ q_130) (fun _ h9 => h9) rfl d_Rn_compareSigns_72 ?_
        refine lv_iload hx hb d_Rn_compareSigns_75 (lv_at hl 0 rfl) ?_
        refine wx_ci (wS := fun _ : Unit => w_B ad ca b) (ws2 := fun _ : Unit => w_R ad ca b v_3) (va_runV (As := [.int r_3]) (rest := [.int (f_Bk_categoryOf b r_1)]) ⟨hx, hb, hml, hown, ht⟩ (c_Bk_categoryOf l dC dI ad ca H.size b r_3 _ rfl) (cwV 1 ht (tb_V q_322 q_323 q_324 q_43 q_325) rfl rfl rfl p_Bk_categoryOf ⟨show 2 + 1 ≤ rf + 8 by omega, show 8 + (2 + 11) + 41 ≤ rl + 181 by omega⟩) (wx_preV (wc := (w_B ad ca b)) hN hK hP hD [8, 9, 10, 11, 12, 13, 14] [6, 7, 8, 9, 10, 11] rfl (by decide) rfl (ci := 0) (q0 := 0) rfl rfl) rfl rfl hl.1 rfl (lv_room (Nat.le_of_ble_eq_true rfl)) d_Rn_compareSigns_77 ⟨Nat.zero_le _, Nat.zero_le _⟩) hP hD hS hA [8, 9, 10, 11, 12, 13, 14] [0, 1, 2, 3, 4, 5, 6, 7] [0, 1, 2, 3, 4, 5, 6, 7, 8, 9, 10, 11, 12, 13, 14] rfl rfl (by decide) (by decide) (by decide) (fun _ => rfl) (fun r_7 _ H locs hw_7 hP hD hS => ?_)
        subst hw_7
        have hP : va_P (dC, dI) vwCl (w_R ad ca b v_3) H := hP
        have hD : va_D A (w_R ad ca b v_3) := hD
        refine lv_icmp_ne (tgt := 87) hx hb d_Rn_compareSigns_80 (by decide) (fun c_8 => ?_) (fun c_8 => ?_)
        · have he := he.trans (if_neg c_8)
          refine lv_iconst (v := 0) hx hb d_Rn_compareSigns_87 (by decide) ?_
          refine lv_istore (lv' := [(5, .int 0), (4, .int r_3), (3, .int r_1), (0, .ref (ad 0)), (1, .int p0), (2, .int p1)]) hx hb d_Rn_compareSigns_88 hl (by decide) rfl (fun ls hl => ?_)
          refine lv_iload hx hb d_Rn_compareSigns_90 (lv_at hl 0 rfl) ?_
          refine lv_if_eq (tgt := 99) hx hb d_Rn_compareSigns_92 (by decide) (fun c_9 => ?_) (fun c_9 => ?_)
          · refine lv_iconst (v := 0) hx hb d_Rn_compareSigns_99 (by decide) ?_
            exact W.iret hx hb hr (v := 0) (fun t ht hW => ⟨⟨0, v_3, rfl, he.symm, by rw [ht]; exact hP, va_K.moved hW.alike hK, hD⟩, hS.F ht⟩) hS.2.2 d_Rn_compareSigns_100
          · exact absurd c_9 (by decide)
        · have he := he.trans (if_pos c_8)
          refine lv_iconst (v := 1) hx hb d_Rn_compareSigns_83 (by decide) ?_
          refine lv_goto (tgt := 88) hx hb d_Rn_compareSigns_84 (by decide) ?_
          refine lv_istore (lv' := [(5, .int 1), (4, .int r_3), (3, .int r_1), (0, .ref (ad 0)), (1, .int p0), (2, .int p1)]) hx hb d_Rn_compareSigns_88 hl (by decide) rfl (fun ls hl => ?_)
          refine lv_iload hx hb d_Rn_compareSigns_90 (lv_at hl 0 rfl) ?_
          refine lv_if_eq (tgt := 99) hx hb d_Rn_compareSigns_92 (by decide) (fun c_10 => ?_) (fun c_10 => ?_)
          · exact absurd c_10 (by decide)
          · refine lv_iconst (v := 1) hx hb d_Rn_compareSigns_95 (by decide) ?_
            refine lv_goto (tgt := 100) hx hb d_Rn_compareSigns_96 (by decide) ?_
            exact W.iret hx hb hr (v := 1) (fun t ht hW => ⟨⟨1, v_3, rfl, he.symm, by rw [ht]; exact hP, va_K.moved hW.alike hK, hD⟩, hS.F ht⟩) hS.2.2 d_Rn_compareSigns_100
      · have he := he.trans (if_neg c_5)
        refine lv_aload_n hx hb d_Rn_compareSigns_35 rfl (lv_at hl 2 rfl) ?_
        refine va_get (D := (dC, dI)) (ci := 2) (v := .ref (ad 8)) (C := R_Rn) (T := T_Rn) (N := 12) hx hb ht i_Rn hown hK hP 0 rfl rfl 0 (by decide) (ht _ q_130) (fun _ h9 => h9) rfl d_Rn_compareSigns_36 ?_
        refine lv_iload_n hx hb d_Rn_compareSigns_39 rfl (lv_at hl 1 rfl) ?_
        refine wx_ci (wS := fun _ : Unit => w_B ad ca b) (ws2 := fun _ : Unit => w_R ad ca b v_3) (va_runV (As := [.int r_1]) (rest := []) ⟨hx, hb, hml, hown, ht⟩ (c_Bk_codeOf l dC dI ad ca H.size b r_1 _ rfl) (cwV 1 ht (tb_V q_316 q_317 q_318 q_43 q_319) rfl rfl rfl p_Bk_codeOf ⟨show 2 + 1 ≤ rf + 8 by omega, show 8 + (2 + 11) + 41 ≤ rl + 181 by omega⟩) (wx_preV (wc := (w_B ad ca b)) hN hK hP hD [8, 9, 10, 11, 12, 13, 14] [6, 7, 8, 9, 10, 11] rfl (by decide) rfl (ci := 0) (q0 := 0) rfl rfl) rfl rfl hl.1 rfl (lv_room (Nat.le_of_ble_eq_true rfl)) d_Rn_compareSigns_40 ⟨Nat.zero_le _, Nat.zero_le _⟩) hP hD hS hA [8, 9, 10, 11, 12, 13, 14] [0, 1, 2, 3, 4, 5, 6, 7] [0, 1, 2, 3, 4, 5, 6, 7, 8, 9, 10, 11, 12, 13, 14] rfl rfl (by decide) (by decide) (by decide) (fun _ => rfl) (fun r_11 _ H locs hw_11 hP hD hS => ?_)
        subst hw_11
        have hP : va_P (dC, dI) vwCl (w_R ad ca b v_3) H := hP
        have hD : va_D A (w_R ad ca b v_3) := hD
        refine lv_aload_n hx hb d_Rn_compareSigns_43 rfl (lv_at hl 2 rfl) ?_
        refine va_get (D := (dC, dI)) (ci := 2) (v := .ref (ad 8)) (C := R_Rn) (T := T_Rn) (N := 12) hx hb ht i_Rn hown hK hP 0 rfl rfl 0 (by decide) (ht _ q_130) (fun _ h9 => h9) rfl d_Rn_compareSigns_44 ?_
        refine lv_iload hx hb d_Rn_compareSigns_47 (lv_at hl 0 rfl) ?_
        refine wx_ci (wS := fun _ : Unit => w_B ad ca b) (ws2 := fun _ : Unit => w_R ad ca b v_3) (va_runV (As := [.int r_3]) (rest := [.int (f_Bk_codeOf b r_1)]) ⟨hx, hb, hml, hown, ht⟩ (c_Bk_codeOf l dC dI ad ca H.size b r_3 _ rfl) (cwV 1 ht (tb_V q_316 q_317 q_318 q_43 q_319) rfl rfl rfl p_Bk_codeOf ⟨show 2 + 1 ≤ rf + 8 by omega, show 8 + (2 + 11) + 41 ≤ rl + 181 by omega⟩) (wx_preV (wc := (w_B ad ca b)) hN hK hP hD [8, 9, 10, 11, 12, 13, 14] [6, 7, 8, 9, 10, 11] rfl (by decide) rfl (ci := 0) (q0 := 0) rfl rfl) rfl rfl hl.1 rfl (lv_room (Nat.le_of_ble_eq_true rfl)) d_Rn_compareSigns_49 ⟨Nat.zero_le _, Nat.zero_le _⟩) hP hD hS hA [8, 9, 10, 11, 12, 13, 14] [0, 1, 2, 3, 4, 5, 6, 7] [0, 1, 2, 3, 4, 5, 6, 7, 8, 9, 10, 11, 12, 13, 14] rfl rfl (by decide) (by decide) (by decide) (fun _ => rfl) (fun r_12 _ H locs hw_12 hP hD hS => ?_)
        subst hw_12
        have hP : va_P (dC, dI) vwCl (w_R ad ca b v_3) H := hP
        have hD : va_D A (w_R ad ca b v_3) := hD
        refine lv_icmp_ne (tgt := 59) hx hb d_Rn_compareSigns_52 (by decide) (fun c_13 => ?_) (fun c_13 => ?_)
        · have he := he.trans (if_neg c_13)
          refine lv_iconst (v := 0) hx hb d_Rn_compareSigns_59 (by decide) ?_
          refine lv_goto (tgt := 88) hx hb d_Rn_compareSigns_60 (by decide) ?_
          refine lv_istore (lv' := [(5, .int 0), (4, .int r_3), (3, .int r_1), (0, .ref (ad 0)), (1, .int p0), (2, .int p1)]) hx hb d_Rn_compareSigns_88 hl (by decide) rfl (fun ls hl => ?_)
          refine lv_iload hx hb d_Rn_compareSigns_90 (lv_at hl 0 rfl) ?_
          refine lv_if_eq (tgt := 99) hx hb d_Rn_compareSigns_92 (by decide) (fun c_14 => ?_) (fun c_14 => ?_)
          · refine lv_iconst (v := 0) hx hb d_Rn_compareSigns_99 (by decide) ?_
            exact W.iret hx hb hr (v := 0) (fun t ht hW => ⟨⟨0, v_3, rfl, he.symm, by rw [ht]; exact hP, va_K.moved hW.alike hK, hD⟩, hS.F ht⟩) hS.2.2 d_Rn_compareSigns_100
          · exact absurd c_14 (by decide)
        · have he := he.trans (if_pos c_13)
          refine lv_iconst (v := 1) hx hb d_Rn_compareSigns_55 (by decide) ?_
          refine lv_goto (tgt := 88) hx hb d_Rn_compareSigns_56 (by decide) ?_
          refine lv_istore (lv' := [(5, .int 1), (4, .int r_3), (3, .int r_1), (0, .ref (ad 0)), (1, .int p0), (2, .int p1)]) hx hb d_Rn_compareSigns_88 hl (by decide) rfl (fun ls hl => ?_)
          refine lv_iload hx hb d_Rn_compareSigns_90 (lv_at hl 0 rfl) ?_
          refine lv_if_eq (tgt := 99) hx hb d_Rn_compareSigns_92 (by decide) (fun c_15 => ?_) (fun c_15 => ?_)
          · exact absurd c_15 (by decide)
          · refine lv_iconst (v := 1) hx hb d_Rn_compareSigns_95 (by decide) ?_
            refine lv_goto (tgt := 100) hx hb d_Rn_compareSigns_96 (by decide) ?_
            exact W.iret hx hb hr (v := 1) (fun t ht hW => ⟨⟨1, v_3, rfl, he.symm, by rw [ht]; exact hP, va_K.moved hW.alike hK, hD⟩, hS.F ht⟩) hS.2.2 d_Rn_compareSigns_100
    · have he := he.trans (if_neg c_4)
      refine lv_iconst (v := 0) hx hb d_Rn_compareSigns_29 (by decide) ?_
      exact W.iret hx hb hr (v := 0) (fun t ht hW => ⟨⟨0, v_3, rfl, he.symm, by rw [ht]; exact hP, va_K.moved hW.alike hK, hD⟩, hS.F ht⟩) hS.2.2 d_Rn_compareSigns_30
  · have he := he.trans (if_neg c_2)
    refine lv_iconst (v := 0) hx hb d_Rn_compareSigns_13 (by decide) ?_
    exact W.iret hx hb hr (v := 0) (fun t ht hW => ⟨⟨0, v_1, rfl, he.symm, by rw [ht]; exact hP, va_K.moved hW.alike hK, hD⟩, hS.F ht⟩) hS.2.2 d_Rn_compareSigns_14
noncomputable def f_Rn_compareNumbers (op : TBk → TRn → Int32 → TRn) (b : TBk) (u : TRn) (p0 : Int32) : (Int32 × TRn) := (match f_Rn_readNumber op b u p0 with | (r_1, v_1) => (if (TRn_fault v_1) = 0 then (match f_Rn_readSign op b v_1 p0 with | (r_3, v_3) => (if (TRn_fault v_3) = 0 then (if (f_Ct_isRelation r_3) = 0 then (let v_19 := f_Rn_fail b v_3 4; (0, v_19)) else (match f_Rn_readNumber op b v_3 p0 with | (r_7, v_7) => (if r_3 = 3132 then (if r_7 ≤ r_1 then (0, v_7) else (1, v_7)) else (if r_3 = 3133 then (if r_1 = r_7 then (1, v_7) else (0, v_7)) else (if r_1 ≤ r_7 then (0, v_7) else (1, v_7)))))) else (0, v_3))) else (0, v_1)))
set_option maxHeartbeats 4000000 in
set_option maxRecDepth 100000 in
theorem c_Rn_compareNumbers (l : Launch) (dC : Nat → ClassId) (dI : Nat → Nat → Nat) (ad : Nat → Nat) (ca : Nat → ClassId) (op : TBk → TRn → Int32 → TRn) (rf rl : Nat) (k : Int) (hopm : ∀ (b : TBk) (u : TRn) (w : Int32), k ≤ oc u → oc u ≤ oc (op b u w)) (hop : ∀ (sz : Nat) (b : TBk) (u : TRn) (w : Int32), BkS b ∧ k ≤ oc u → wx_Mv l y_Rn_open ws_Rn_open ({ frames := rf, cells := 0, slots := 0, locals := rl } : Room) (dC, dI) vwCl (t_R ca) [.ref (ad 0), .int w] (w_R ad ca b u) sz (fun v : TRn => w_R ad ca b v) (fun v : TRn => v = op b u w)) (sz : Nat) (b : TBk) (u : TRn) (p0 : Int32) (hpre : BkS b ∧ k ≤ p0.toInt ∧ p0.toInt ≤ oc u) (F : (Int32 × TRn)) (he : F = f_Rn_compareNumbers op b u p0) : wx_Mi l y_Rn_compareNumbers ws_Rn_compareNumbers ({ frames := rf + 9, cells := 0, slots := 0, locals := rl + 208 } : Room) (dC, dI) vwCl (t_R ca) [.ref (ad 0), .int p0] (w_R ad ca b u) sz (fun v : TRn => w_R ad ca b v) (fun (r : Int32) (v : TRn) => (r, v) = F) := by
  refine Met.ofW (cc := b_Rn_compareNumbers) (maxL := 6) (ret := some .int) (by decide) rfl ?_
  intro p e s m args below meth c s₁ B hml hv
  obtain ⟨rfl, hsz, hP, hK, hD0, hN⟩ := hv
  have hx := B.exec
  have hb := B.bytes
  have hr := B.returns
  have hts := atoms_spec (ws := ws_Rn_compareNumbers) B.pre
  have ht : ∀ w ∈ TB, w.before _ s = true := fun w h => hts w (List.mem_cons_of_mem _ h)
  have hown : s.vm.findClass R_Rn = some m.cls := findClass_of_methodNamed B.named
  have hlocks := B.notSynchronized
  subst hsz
  have hD := hD0.self (sz := s.heap.size)
  generalize hAe : va_A (w_R ad ca b u) s.heap.size = A at hD ⊢
  have hA : ∀ q : Nat, s.heap.size ≤ q → A q := fun q h => by rw [← hAe]; exact Or.inr h
  have hS : va_S A s.heap s.heap [] := va_S.rf
  have hl := lv_entry ([.ref (ad 0), .int p0]) (n := 6) (Nat.le_of_ble_eq_true rfl)
  rw [lg_entry_eq]
  generalize (lg_sl ([.ref (ad 0), .int p0]) ++ List.replicate (6 - (lg_sl ([.ref (ad 0), .int p0])).length) Slot.unset).toArray = ls at hl ⊢
  have hl : lv_has ls 6 [(0, .ref (ad 0)), (1, .int p0)] := hl
  unfold f_Rn_compareNumbers at he
  refine lv_aload_n hx hb d_Rn_compareNumbers_0 rfl (lv_at hl 0 rfl) ?_
  refine lv_iload_n hx hb d_Rn_compareNumbers_1 rfl (lv_at hl 1 rfl) ?_
  refine wx_ci (wS := fun v : TRn => w_R ad ca b v) (ws2 := fun v : TRn => w_R ad ca b v) (va_runV (As := [.int p0]) (rest := []) ⟨hx, hb, hml, hown, ht⟩ (c_Rn_readNumber l dC dI ad ca op rf rl k hopm hop s.heap.size b u p0 hpre _ rfl) (cwV 1 ht (tb_V q_344 q_346 q_12 q_44 q_347) rfl rfl rfl p_Rn_readNumber ⟨show (rf + 8) + 1 ≤ rf + 9 by omega, show 8 + (5 + 11) + (rl + 184) ≤ rl + 208 by omega⟩) (wx_preV (wc := (w_R ad ca b u)) hN hK hP hD [0, 1, 2, 3, 4, 5, 6, 7, 8, 9, 10, 11, 12, 13, 14] [0, 1, 2, 3, 4, 5, 6, 7, 8, 9, 10, 11] rfl (by decide) rfl (ci := 2) (q0 := 0) rfl rfl) rfl rfl hl.1 rfl (lv_room (Nat.le_of_ble_eq_true rfl)) d_Rn_compareNumbers_2 ⟨Nat.zero_le _, Nat.zero_le _⟩) hP hD hS hA [0, 1, 2, 3, 4, 5, 6, 7, 8, 9, 10, 11, 12, 13, 14] [] [0, 1, 2, 3, 4, 5, 6, 7, 8, 9, 10, 11, 12, 13, 14] rfl rfl (by decide) (by decide) (by decide) (fun _ => rfl) (fun r_1 v_1 H locs hw_1 hP hD hS => ?_)
  have hP : va_P (dC, dI) vwCl (w_R ad ca b v_1) H := hP
  have hD : va_D A (w_R ad ca b v_1) := hD
  rw [← hw_1] at he
  try dsimp only at he
  refine lv_istore_n (lv' := [(2, .int r_1), (0, .ref (ad 0)), (1, .int p0)]) hx hb d_Rn_compareNumbers_5 rfl hl (by decide) rfl (fun ls hl => ?_)
  refine lv_aload_n hx hb d_Rn_compareNumbers_6 rfl (lv_at hl 1 rfl) ?_
  refine va_get (D := (dC, dI)) (ci := 2) (v := .int (TRn_fault v_1)) (C := R_Rn) (T := T_Rn) (N := 12) hx hb ht i_Rn hown hK hP 0 rfl rfl 11 (by decide) (ht _ q_141) (fun _ h9 => h9) rfl d_Rn_compareNumbers_7 ?_
  refine lv_if_eq (tgt := 15) hx hb d_Rn_compareNumbers_10 (by decide) (fun c_2 => ?_) (fun c_2 => ?_)
  · have he := he.trans (if_pos c_2)
    refine lv_aload_n hx hb d_Rn_compareNumbers_15 rfl (lv_at hl 1 rfl) ?_
    refine lv_iload_n hx hb d_Rn_compareNumbers_16 rfl (lv_at hl 2 rfl) ?_
    refine wx_ci (wS := fun v : TRn => w_R ad ca b v) (ws2 := fun v : TRn => w_R ad ca b v) (va_runV (As := [.int p0]) (rest := []) ⟨hx, hb, hml, hown, ht⟩ (c_Rn_readSign l dC dI ad ca op rf rl k hopm hop H.size b v_1 p0 ⟨hpre.1, hpre.2.1, oc_rn op k hopm hw_1 hpre.2.1 hpre.2.2⟩ _ rfl) (cwV 1 ht (tb_V q_301 q_303 q_6 q_44 q_304) rfl rfl rfl p_Rn_readSign ⟨show (rf + 7) + 1 ≤ rf + 9 by omega, show 8 + (3 + 11) + (rl + 159) ≤ rl + 208 by omega⟩) (wx_preV (wc := (w_R ad ca b v_1)) hN hK hP hD [0, 1, 2, 3, 4, 5, 6, 7, 8, 9, 10, 11, 12, 13, 14] [0, 1, 2, 3, 4, 5, 6, 7, 8, 9, 10, 11] rfl (by decide) rfl (ci := 2) (q0 := 0) rfl rfl) rfl rfl hl.1 rfl (lv_room (Nat.le_of_ble_eq_true rfl)) d_Rn_compareNumbers_17 ⟨Nat.zero_le _, Nat.zero_le _⟩) hP hD hS hA [0, 1, 2, 3, 4, 5, 6, 7, 8, 9, 10, 11, 12, 13, 14] [] [0, 1, 2, 3, 4, 5, 6, 7, 8, 9, 10, 11, 12, 13, 14] rfl rfl (by decide) (by decide) (by decide) (fun _ => rfl) (fun r_3 v_3 H locs hw_3 hP hD hS => ?_)
    have hP : va_P (dC, dI) vwCl (w_R ad ca b v_3) H := hP
    have hD : va_D A (w_R ad ca b v_3) := hD
    rw [← hw_3] at he
    try dsimp only at he
    refine lv_istore_n (lv' := [(3, .int r_3), (2, .int r_1), (0, .ref (ad 0)), (1, .int p0)]) hx hb d_Rn_compareNumbers_20 rfl hl (by decide) rfl (fun ls hl => ?_)
    refine lv_aload_n hx hb d_Rn_compareNumbers_21 rfl (lv_at hl 2 rfl) ?_
    refine va_get (D := (dC, dI)) (ci := 2) (v := .int (TRn_fault v_3)) (C := R_Rn) (T := T_Rn) (N := 12) hx hb ht i_Rn hown hK hP 0 rfl rfl 11 (by decide) (ht _ q_141) (fun _ h9 => h9) rfl d_Rn_compareNumbers_22 ?_
    refine lv_if_eq (tgt := 30) hx hb d_Rn_compareNumbers_25 (by decide) (fun c_4 => ?_) (fun c_4 => ?_)
    · have he := he.trans (if_pos c_4)
      refine lv_iload_n hx hb d_Rn_compareNumbers_30 rfl (lv_at hl 0 rfl) ?_
      refine wx_ci (wS := fun _ : Unit => w_E ad ca) (ws2 := fun _ : Unit => w_R ad ca b v_3) (va_runSN (As := [.int r_3]) (rest := []) ⟨hx, hb, hml, hown, ht⟩ (c_Ct_isRelation l dC dI ad ca H.size r_3 _ rfl) ⟨va_cnB 1 ht (tb_in q_364) rfl rfl rfl (hN _ nest_6) (ht _ q_42) p_Ct_isRelation.2 ⟨show 0 + 1 ≤ rf + 9 by omega, show 8 + (1 + 11) + 0 ≤ rl + 208 by omega⟩, ht _ q_363, trivial⟩ (wx_preS (wc := (w_E ad ca)) hN hK hP hD [] [] rfl (by decide) rfl) rfl rfl hl.1 rfl (lv_room (Nat.le_of_ble_eq_true rfl)) d_Rn_compareNumbers_31 ⟨Nat.zero_le _, Nat.zero_le _⟩) hP hD hS hA [] [0, 1, 2, 3, 4, 5, 6, 7, 8, 9, 10, 11, 12, 13, 14] [0, 1, 2, 3, 4, 5, 6, 7, 8, 9, 10, 11, 12, 13, 14] rfl rfl (by decide) (by decide) (by decide) (fun _ => rfl) (fun r_5 _ H locs hw_5 hP hD hS => ?_)
      subst hw_5
      have hP : va_P (dC, dI) vwCl (w_R ad ca b v_3) H := hP
      have hD : va_D A (w_R ad ca b v_3) := hD
      refine lv_if_ne (tgt := 44) hx hb d_Rn_compareNumbers_34 (by decide) (fun c_6 => ?_) (fun c_6 => ?_)
      · have he := he.trans (if_neg c_6)
        refine lv_aload_n hx hb d_Rn_compareNumbers_44 rfl (lv_at hl 2 rfl) ?_
        refine lv_iload_n hx hb d_Rn_compareNumbers_45 rfl (lv_at hl 3 rfl) ?_
        refine wx_ci (wS := fun v : TRn => w_R ad ca b v) (ws2 := fun v : TRn => w_R ad ca b v) (va_runV (As := [.int p0]) (rest := []) ⟨hx, hb, hml, hown, ht⟩ (c_Rn_readNumber l dC dI ad ca op rf rl k hopm hop H.size b v_3 p0 ⟨hpre.1, hpre.2.1, oc_rs op k hopm hw_3 hpre.2.1 (oc_rn op k hopm hw_1 hpre.2.1 hpre.2.2)⟩ _ rfl) (cwV 1 ht (tb_V q_344 q_346 q_12 q_44 q_347) rfl rfl rfl p_Rn_readNumber ⟨show (rf + 8) + 1 ≤ rf + 9 by omega, show 8 + (5 + 11) + (rl + 184) ≤ rl + 208 by omega⟩) (wx_preV (wc := (w_R ad ca b v_3)) hN hK hP hD [0, 1, 2, 3, 4, 5, 6, 7, 8, 9, 10, 11, 12, 13, 14] [0, 1, 2, 3, 4, 5, 6, 7, 8, 9, 10, 11] rfl (by decide) rfl (ci := 2) (q0 := 0) rfl rfl) rfl rfl hl.1 rfl (lv_room (Nat.le_of_ble_eq_true rfl)) d_Rn_compareNumbers_46 ⟨Nat.zero_le _, Nat.zero_le _⟩) hP hD hS hA [0, 1, 2, 3, 4, 5, 6, 7, 8, 9, 10, 11, 12, 13, 14] [] [0, 1, 2, 3, 4, 5, 6, 7, 8, 9, 10, 11, 12, 13, 14] rfl rfl (by decide) (by decide) (by decide) (fun _ => rfl) (fun r_7 v_7 H locs hw_7 hP hD hS => ?_)
        have hP : va_P (dC, dI) vwCl (w_R ad ca b v_7) H := hP
        have hD : va_D A (w_R ad ca b v_7) := hD
        rw [← hw_7] at he
        try dsimp only at he
        refine lv_istore (lv' := [(4, .int r_7), (3, .int r_3), (2, .int r_1), (0, .ref (ad 0)), (1, .int p0)]) hx hb d_Rn_compareNumbers_49 hl (by decide) rfl (fun ls hl => ?_)
        refine lv_iload_n hx hb d_Rn_compareNumbers_51 rfl (lv_at hl 1 rfl) ?_
        refine lv_sipush (v := 3132) hx hb d_Rn_compareNumbers_52 (by decide) ?_
        refine lv_icmp_ne (tgt := 72) hx hb d_Rn_compareNumbers_55 (by decide) (fun c_8 => ?_) (fun c_8 => ?_)
        · have he := he.trans (if_neg c_8)
          refine lv_iload_n hx hb d_Rn_compareNumbers_72 rfl (lv_at hl 1 rfl) ?_
          refine lv_sipush (v := 3133) hx hb d_Rn_compareNumbers_73 (by decide) ?_
          refine lv_icmp_ne (tgt := 93) hx hb d_Rn_compareNumbers_76 (by decide) (fun c_9 => ?_) (fun c_9 => ?_)
          · have he := he.trans (if_neg c_9)
            refine lv_iload_n hx hb d_Rn_compareNumbers_93 rfl (lv_at hl 2 rfl) ?_
            refine lv_iload hx hb d_Rn_compareNumbers_94 (lv_at hl 0 rfl) ?_
            refine lv_icmp_le (tgt := 103) hx hb d_Rn_compareNumbers_96 (by decide) (fun c_10 => ?_) (fun c_10 => ?_)
            · have he := he.trans (if_pos c_10)
              refine lv_iconst (v := 0) hx hb d_Rn_compareNumbers_103 (by decide) ?_
              refine lv_istore (lv' := [(5, .int 0), (4, .int r_7), (3, .int r_3), (2, .int r_1), (0, .ref (ad 0)), (1, .int p0)]) hx hb d_Rn_compareNumbers_104 hl (by decide) rfl (fun ls hl => ?_)
              refine lv_iload hx hb d_Rn_compareNumbers_106 (lv_at hl 0 rfl) ?_
              refine lv_if_eq (tgt := 115) hx hb d_Rn_compareNumbers_108 (by decide) (fun c_11 => ?_) (fun c_11 => ?_)
              · refine lv_iconst (v := 0) hx hb d_Rn_compareNumbers_115 (by decide) ?_
                exact W.iret hx hb hr (v := 0) (fun t ht hW => ⟨⟨0, v_7, rfl, he.symm, by rw [ht]; exact hP, va_K.moved hW.alike hK, hD⟩, hS.F ht⟩) hS.2.2 d_Rn_compareNumbers_116
              · exact absurd c_11 (by decide)
            · have he := he.trans (if_neg c_10)
              refine lv_iconst (v := 1) hx hb d_Rn_compareNumbers_99 (by decide) ?_
              refine lv_goto (tgt := 104) hx hb d_Rn_compareNumbers_100 (by decide) ?_
              refine lv_istore (lv' := [(5, .int 1), (4, .int r_7), (3, .int r_3), (2, .int r_1), (0, .ref (ad 0)), (1, .int p0)]) hx hb d_Rn_compareNumbers_104 hl (by decide) rfl (fun ls hl => ?_)
              refine lv_iload hx hb d_Rn_compareNumbers_106 (lv_at hl 0 rfl) ?_
              refine lv_if_eq (tgt := 115) hx hb d_Rn_compareNumbers_108 (by decide) (fun c_12 => ?_) (fun c_12 => ?_)
              · exact absurd c_12 (by decide)
              · refine lv_iconst (v := 1) hx hb d_Rn_compareNumbers_111 (by decide) ?_
                refine lv_goto (tgt := 116) hx hb d_Rn_compareNumbers_112 (by decide) ?_
                exact W.iret hx hb hr (v := 1) (fun t ht hW => ⟨⟨1, v_7, rfl, he.symm, by rw [ht]; exact hP, va_K.moved hW.alike hK, hD⟩, hS.F ht⟩) hS.2.2 d_Rn_compareNumbers_116
          · have he := he.trans (if_pos c_9)
            refine lv_iload_n hx hb d_Rn_compareNumbers_79 rfl (lv_at hl 2 rfl) ?_
            refine lv_iload hx hb d_Rn_compareNumbers_80 (lv_at hl 0 rfl) ?_
            refine lv_icmp_ne (tgt := 89) hx hb d_Rn_compareNumbers_82 (by decide) (fun c_13 => ?_) (fun c_13 => ?_)
            · have he := he.trans (if_neg c_13)
              refine lv_iconst (v := 0) hx hb d_Rn_compareNumbers_89 (by decide) ?_
              refine lv_goto (tgt := 104) hx hb d_Rn_compareNumbers_90 (by decide) ?_
              refine lv_istore (lv' := [(5, .int 0), (4, .int r_7), (3, .int r_3), (2, .int r_1), (0, .ref (ad 0)), (1, .int p0)]) hx hb d_Rn_compareNumbers_104 hl (by decide) rfl (fun ls hl => ?_)
              refine lv_iload hx hb d_Rn_compareNumbers_106 (lv_at hl 0 rfl) ?_
              refine lv_if_eq (tgt := 115) hx hb d_Rn_compareNumbers_108 (by decide) (fun c_14 => ?_) (fun c_14 => ?_)
              · refine lv_iconst (v := 0) hx hb d_Rn_compareNumbers_115 (by decide) ?_
                exact W.iret hx hb hr (v := 0) (fun t ht hW => ⟨⟨0, v_7, rfl, he.symm, by rw [ht]; exact hP, va_K.moved hW.alike hK, hD⟩, hS.F ht⟩) hS.2.2 d_Rn_compareNumbers_116
              · exact absurd c_14 (by decide)
            · have he := he.trans (if_pos c_13)
              refine lv_iconst (v := 1) hx hb d_Rn_compareNumbers_85 (by decide) ?_
              refine lv_goto (tgt := 104) hx hb d_Rn_compareNumbers_86 (by decide) ?_
              refine lv_istore (lv' := [(5, .int 1), (4, .int r_7), (3, .int r_3), (2, .int r_1), (0, .ref (ad 0)), (1, .int p0)]) hx hb d_Rn_compareNumbers_104 hl (by decide) rfl (fun ls hl => ?_)
              refine lv_iload hx hb d_Rn_compareNumbers_106 (lv_at hl 0 rfl) ?_
              refine lv_if_eq (tgt := 115) hx hb d_Rn_compareNumbers_108 (by decide) (fun c_15 => ?_) (fun c_15 => ?_)
              · exact absurd c_15 (by decide)
              · refine lv_iconst (v := 1) hx hb d_Rn_compareNumbers_111 (by decide) ?_
                refine lv_goto (tgt := 116) hx hb d_Rn_compareNumbers_112 (by decide) ?_
                exact W.iret hx hb hr (v := 1) (fun t ht hW => ⟨⟨1, v_7, rfl, he.symm, by rw [ht]; exact hP, va_K.moved hW.alike hK, hD⟩, hS.F ht⟩) hS.2.2 d_Rn_compareNumbers_116
        · have he := he.trans (if_pos c_8)
          refine lv_iload_n hx hb d_Rn_compareNumbers_58 rfl (lv_at hl 2 rfl) ?_
          refine lv_iload hx hb d_Rn_compareNumbers_59 (lv_at hl 0 rfl) ?_
          refine lv_icmp_ge (tgt := 68) hx hb d_Rn_compareNumbers_61 (by decide) (fun c_16 => ?_) (fun c_16 => ?_)
          · have he := he.trans (if_pos c_16)
            refine lv_iconst (v := 0) hx hb d_Rn_compareNumbers_68 (by decide) ?_
            refine lv_goto (tgt := 104) hx hb d_Rn_compareNumbers_69 (by decide) ?_
            refine lv_istore (lv' := [(5, .int 0), (4, .int r_7), (3, .int r_3), (2, .int r_1), (0, .ref (ad 0)), (1, .int p0)]) hx hb d_Rn_compareNumbers_104 hl (by decide) rfl (fun ls hl => ?_)
            refine lv_iload hx hb d_Rn_compareNumbers_106 (lv_at hl 0 rfl) ?_
            refine lv_if_eq (tgt := 115) hx hb d_Rn_compareNumbers_108 (by decide) (fun c_17 => ?_) (fun c_17 => ?_)
            · refine lv_iconst (v := 0) hx hb d_Rn_compareNumbers_115 (by decide) ?_
              exact W.iret hx hb hr (v := 0) (fun t ht hW => ⟨⟨0, v_7, rfl, he.symm, by rw [ht]; exact hP, va_K.moved hW.alike hK, hD⟩, hS.F ht⟩) hS.2.2 d_Rn_compareNumbers_116
            · exact absurd c_17 (by decide)
          · have he := he.trans (if_neg c_16)
            refine lv_iconst (v := 1) hx hb d_Rn_compareNumbers_64 (by decide) ?_
            refine lv_goto (tgt := 104) hx hb d_Rn_compareNumbers_65 (by decide) ?_
            refine lv_istore (lv' := [(5, .int 1), (4, .int r_7), (3, .int r_3), (2, .int r_1), (0, .ref (ad 0)), (1, .int p0)]) hx hb d_Rn_compareNumbers_104 hl (by decide) rfl (fun ls hl => ?_)
            refine lv_iload hx hb d_Rn_compareNumbers_106 (lv_at hl 0 rfl) ?_
            refine lv_if_eq (tgt := 115) hx hb d_Rn_compareNumbers_108 (by decide) (fun c_18 => ?_) (fun c_18 => ?_)
            · exact absurd c_18 (by decide)
            · refine lv_iconst (v := 1) hx hb d_Rn_compareNumbers_111 (by decide) ?_
              refine lv_goto (tgt := 116) hx hb d_Rn_compareNumbers_112 (by decide) ?_
              exact W.iret hx hb hr (v := 1) (fun t ht hW => ⟨⟨1, v_7, rfl, he.symm, by rw [ht]; exact hP, va_K.moved hW.alike hK, hD⟩, hS.F ht⟩) hS.2.2 d_Rn_compareNumbers_116
      · have he := he.trans (if_pos c_6)
        refine lv_aload_n hx hb d_Rn_compareNumbers_37 rfl (lv_at hl 2 rfl) ?_
        refine lv_iconst (v := 4) hx hb d_Rn_compareNumbers_38 (by decide) ?_
        refine wx_cv (wS := fun v : TRn => w_R ad ca b v) (ws2 := fun v : TRn => w_R ad ca b v) (va_runV (As := [.int 4]) (rest := []) ⟨hx, hb, hml, hown, ht⟩ (c_Rn_fail l dC dI ad ca H.size b v_3 4 _ rfl) (cwV 1 ht (tb_V q_265 q_267 q_1 q_44 q_268) rfl rfl rfl p_Rn_fail ⟨show 0 + 1 ≤ rf + 9 by omega, show 8 + (2 + 11) + 0 ≤ rl + 208 by omega⟩) (wx_preV (wc := (w_R ad ca b v_3)) hN hK hP hD [0, 1, 2, 3, 4, 5, 6, 7, 8, 9, 10, 11, 12, 13, 14] [0, 1, 2, 3, 4, 5, 6, 7, 8, 9, 10, 11] rfl (by decide) rfl (ci := 2) (q0 := 0) rfl rfl) rfl rfl hl.1 rfl (lv_room (Nat.le_of_ble_eq_true rfl)) d_Rn_compareNumbers_39 ⟨Nat.zero_le _, Nat.zero_le _⟩) hP hD hS hA [0, 1, 2, 3, 4, 5, 6, 7, 8, 9, 10, 11, 12, 13, 14] [] [0, 1, 2, 3, 4, 5, 6, 7, 8, 9, 10, 11, 12, 13, 14] rfl rfl (by decide) (by decide) (by decide) (fun _ => rfl) (fun v_19 H locs hw_19 hP hD hS => ?_)
        have hP : va_P (dC, dI) vwCl (w_R ad ca b v_19) H := hP
        have hD : va_D A (w_R ad ca b v_19) := hD
        rw [← hw_19] at he
        try dsimp only at he
        refine lv_iconst (v := 0) hx hb d_Rn_compareNumbers_42 (by decide) ?_
        exact W.iret hx hb hr (v := 0) (fun t ht hW => ⟨⟨0, v_19, rfl, he.symm, by rw [ht]; exact hP, va_K.moved hW.alike hK, hD⟩, hS.F ht⟩) hS.2.2 d_Rn_compareNumbers_43
    · have he := he.trans (if_neg c_4)
      refine lv_iconst (v := 0) hx hb d_Rn_compareNumbers_28 (by decide) ?_
      exact W.iret hx hb hr (v := 0) (fun t ht hW => ⟨⟨0, v_3, rfl, he.symm, by rw [ht]; exact hP, va_K.moved hW.alike hK, hD⟩, hS.F ht⟩) hS.2.2 d_Rn_compareNumbers_29
  · have he := he.trans (if_neg c_2)
    refine lv_iconst (v := 0) hx hb d_Rn_compareNumbers_13 (by decide) ?_
    exact W.iret hx hb hr (v := 0) (fun t ht hW => ⟨⟨0, v_1, rfl, he.symm, by rw [ht]; exact hP, va_K.moved hW.alike hK, hD⟩, hS.F ht⟩) hS.2.2 d_Rn_compareNumbers_14
noncomputable def f_Rn_askWhetherOn_m (op : TBk → TRn → Int32 → TRn) (b : TBk) (u : TRn) (p0 : Int32) : (Int32 × TRn) := (match f_Rn_readNumber op b u p0 with | (r_1, v_1) => (if (TRn_fault v_1) = 0 then (if r_1 < 0 then (let v_4 := f_Rn_fail b v_1 8; (0, v_4)) else (if r_1 < 4 then (if ((TBk_modes b) r_1.toNatClampNeg) = 0 then (0, v_1) else (1, v_1)) else (let v_7 := f_Rn_fail b v_1 8; (0, v_7)))) else (0, v_1)))
set_option maxHeartbeats 4000000 in
set_option maxRecDepth 100000 in
theorem c_Rn_askWhetherOn_m (l : Launch) (dC : Nat → ClassId) (dI : Nat → Nat → Nat) (ad : Nat → Nat) (ca : Nat → ClassId) (op : TBk → TRn → Int32 → TRn) (rf rl : Nat) (k : Int) (hopm : ∀ (b : TBk) (u : TRn) (w : Int32), k ≤ oc u → oc u ≤ oc (op b u w)) (hop : ∀ (sz : Nat) (b : TBk) (u : TRn) (w : Int32), BkS b ∧ k ≤ oc u → wx_Mv l y_Rn_open ws_Rn_open ({ frames := rf, cells := 0, slots := 0, locals := rl } : Room) (dC, dI) vwCl (t_R ca) [.ref (ad 0), .int w] (w_R ad ca b u) sz (fun v : TRn => w_R ad ca b v) (fun v : TRn => v = op b u w)) (sz : Nat) (b : TBk) (u : TRn) (p0 : Int32) (hpre : BkS b ∧ k ≤ p0.toInt ∧ p0.toInt ≤ oc u) (F : (Int32 × TRn)) (he : F = f_Rn_askWhetherOn_m op b u p0) : wx_Mi l y_Rn_askWhetherOn ws_Rn_askWhetherOn ({ frames := rf + 9, cells := 0, slots := 0, locals := rl + 208 } : Room) (dC, dI) vwCl (t_R ca) [.ref (ad 0), .ref (ad 13), .int p0] (w_R ad ca b u) sz (fun v : TRn => w_R ad ca b v) (fun (r : Int32) (v : TRn) => (r, v) = F) := by
  refine Met.ofW (cc := b_Rn_askWhetherOn) (maxL := 4) (ret := some .int) (by decide) rfl ?_
  intro p e s m args below meth c s₁ B hml hv
  obtain ⟨rfl, hsz, hP, hK, hD0, hN⟩ := hv
  have hx := B.exec
  have hb := B.bytes
  have hr := B.returns
  have hts := atoms_spec (ws := ws_Rn_askWhetherOn) B.pre
  have ht : ∀ w ∈ TB, w.before _ s = true := fun w h => hts w (List.mem_cons_of_mem _ h)
  have hown : s.vm.findClass R_Rn = some m.cls := findClass_of_methodNamed B.named
  have hlocks := B.notSynchronized
  subst hsz
  have hD := hD0.self (sz := s.heap.size)
  generalize hAe : va_A (w_R ad ca b u) s.heap.size = A at hD ⊢
  have hA : ∀ q : Nat, s.heap.size ≤ q → A q := fun q h => by rw [← hAe]; exact Or.inr h
  have hS : va_S A s.heap s.heap [] := va_S.rf
  have hl := lv_entry ([.ref (ad 0), .ref (ad 13), .int p0]) (n := 4) (Nat.le_of_ble_eq_true rfl)
  rw [lg_entry_eq]
  generalize (lg_sl ([.ref (ad 0), .ref (ad 13), .int p0]) ++ List.replicate (4 - (lg_sl ([.ref (ad 0), .ref (ad 13), .int p0])).length) Slot.unset).toArray = ls at hl ⊢
  have hl : lv_has ls 4 [(0, .ref (ad 0)), (1, .ref (ad 13)), (2, .int p0)] := hl
  unfold f_Rn_askWhetherOn_m at he
  refine lv_aload_n hx hb d_Rn_askWhetherOn_0 rfl (lv_at hl 0 rfl) ?_
  refine lv_iload_n hx hb d_Rn_askWhetherOn_1 rfl (lv_at hl 2 rfl) ?_
  refine wx_ci (wS := fun v : TRn => w_R ad ca b v) (ws2 := fun v : TRn => w_R ad ca b v) (va_runV (As := [.int p0]) (rest := []) ⟨hx, hb, hml, hown, ht⟩ (c_Rn_readNumber l dC dI ad ca op rf rl k hopm hop s.heap.size b u p0 hpre _ rfl) (cwV 1 ht (tb_V q_344 q_346 q_12 q_44 q_347) rfl rfl rfl p_Rn_readNumber ⟨show (rf + 8) + 1 ≤ rf + 9 by omega, show 8 + (5 + 11) + (rl + 184) ≤ rl + 208 by omega⟩) (wx_preV (wc := (w_R ad ca b u)) hN hK hP hD [0, 1, 2, 3, 4, 5, 6, 7, 8, 9, 10, 11, 12, 13, 14] [0, 1, 2, 3, 4, 5, 6, 7, 8, 9, 10, 11] rfl (by decide) rfl (ci := 2) (q0 := 0) rfl rfl) rfl rfl hl.1 rfl (lv_room (Nat.le_of_ble_eq_true rfl)) d_Rn_askWhetherOn_2 ⟨Nat.zero_le _, Nat.zero_le _⟩) hP hD hS hA [0, 1, 2, 3, 4, 5, 6, 7, 8, 9, 10, 11, 12, 13, 14] [] [0, 1, 2, 3, 4, 5, 6, 7, 8, 9, 10, 11, 12, 13, 14] rfl rfl (by decide) (by decide) (by decide) (fun _ => rfl) (fun r_1 v_1 H locs hw_1 hP hD hS => ?_)
  have hP : va_P (dC, dI) vwCl (w_R ad ca b v_1) H := hP
  have hD : va_D A (w_R ad ca b v_1) := hD
  rw [← hw_1] at he
  try dsimp only at he
  refine lv_istore_n (lv' := [(3, .int r_1), (0, .ref (ad 0)), (1, .ref (ad 13)), (2, .int p0)]) hx hb d_Rn_askWhetherOn_5 rfl hl (by decide) rfl (fun ls hl => ?_)
  refine lv_aload_n hx hb d_Rn_askWhetherOn_6 rfl (lv_at hl 1 rfl) ?_
  refine va_get (D := (dC, dI)) (ci := 2) (v := .int (TRn_fault v_1)) (C := R_Rn) (T := T_Rn) (N := 12) hx hb ht i_Rn hown hK hP 0 rfl rfl 11 (by decide) (ht _ q_141) (fun _ h9 => h9) rfl d_Rn_askWhetherOn_7 ?_
  refine lv_if_eq (tgt := 15) hx hb d_Rn_askWhetherOn_10 (by decide) (fun c_2 => ?_) (fun c_2 => ?_)
  · have he := he.trans (if_pos c_2)
    refine lv_iload_n hx hb d_Rn_askWhetherOn_15 rfl (lv_at hl 0 rfl) ?_
    refine lv_if_lt (tgt := 25) hx hb d_Rn_askWhetherOn_16 (by decide) (fun c_3 => ?_) (fun c_3 => ?_)
    · have he := he.trans (if_pos c_3)
      refine lv_aload_n hx hb d_Rn_askWhetherOn_25 rfl (lv_at hl 1 rfl) ?_
      refine lv_bipush (v := 8) hx hb d_Rn_askWhetherOn_26 (by decide) ?_
      refine wx_cv (wS := fun v : TRn => w_R ad ca b v) (ws2 := fun v : TRn => w_R ad ca b v) (va_runV (As := [.int 8]) (rest := []) ⟨hx, hb, hml, hown, ht⟩ (c_Rn_fail l dC dI ad ca H.size b v_1 8 _ rfl) (cwV 1 ht (tb_V q_265 q_267 q_1 q_44 q_268) rfl rfl rfl p_Rn_fail ⟨show 0 + 1 ≤ rf + 9 by omega, show 8 + (2 + 11) + 0 ≤ rl + 208 by omega⟩) (wx_preV (wc := (w_R ad ca b v_1)) hN hK hP hD [0, 1, 2, 3, 4, 5, 6, 7, 8, 9, 10, 11, 12, 13, 14] [0, 1, 2, 3, 4, 5, 6, 7, 8, 9, 10, 11] rfl (by decide) rfl (ci := 2) (q0 := 0) rfl rfl) rfl rfl hl.1 rfl (lv_room (Nat.le_of_ble_eq_true rfl)) d_Rn_askWhetherOn_28 ⟨Nat.zero_le _, Nat.zero_le _⟩) hP hD hS hA [0, 1, 2, 3, 4, 5, 6, 7, 8, 9, 10, 11, 12, 13, 14] [] [0, 1, 2, 3, 4, 5, 6, 7, 8, 9, 10, 11, 12, 13, 14] rfl rfl (by decide) (by decide) (by decide) (fun _ => rfl) (fun v_4 H locs hw_4 hP hD hS => ?_)
      have hP : va_P (dC, dI) vwCl (w_R ad ca b v_4) H := hP
      have hD : va_D A (w_R ad ca b v_4) := hD
      rw [← hw_4] at he
      try dsimp only at he
      refine lv_iconst (v := 0) hx hb d_Rn_askWhetherOn_31 (by decide) ?_
      exact W.iret hx hb hr (v := 0) (fun t ht hW => ⟨⟨0, v_4, rfl, he.symm, by rw [ht]; exact hP, va_K.moved hW.alike hK, hD⟩, hS.F ht⟩) hS.2.2 d_Rn_askWhetherOn_32
    · have he := he.trans (if_neg c_3)
      refine lv_iload_n hx hb d_Rn_askWhetherOn_19 rfl (lv_at hl 0 rfl) ?_
      refine lv_aload_n hx hb d_Rn_askWhetherOn_20 rfl (lv_at hl 2 rfl) ?_
      refine va_alen hx hb hK hP 13 10 rfl rfl (v := 4) rfl d_Rn_askWhetherOn_21 ?_
      refine lv_icmp_lt (tgt := 33) hx hb d_Rn_askWhetherOn_22 (by decide) (fun c_5 => ?_) (fun c_5 => ?_)
      · have he := he.trans (if_pos c_5)
        refine lv_aload_n hx hb d_Rn_askWhetherOn_33 rfl (lv_at hl 2 rfl) ?_
        refine lv_iload_n hx hb d_Rn_askWhetherOn_34 rfl (lv_at hl 0 rfl) ?_
        refine va_zald hx hb hK hP 13 10 rfl rfl (wx_inAV (by decide) c_3 c_5) d_Rn_askWhetherOn_35 ?_
        refine lv_if_eq (tgt := 43) hx hb d_Rn_askWhetherOn_36 (by decide) (fun c_6 => ?_) (fun c_6 => ?_)
        · have he := he.trans (if_pos c_6)
          refine lv_iconst (v := 0) hx hb d_Rn_askWhetherOn_43 (by decide) ?_
          exact W.iret hx hb hr (v := 0) (fun t ht hW => ⟨⟨0, v_1, rfl, he.symm, by rw [ht]; exact hP, va_K.moved hW.alike hK, hD⟩, hS.F ht⟩) hS.2.2 d_Rn_askWhetherOn_44
        · have he := he.trans (if_neg c_6)
          refine lv_iconst (v := 1) hx hb d_Rn_askWhetherOn_39 (by decide) ?_
          refine lv_goto (tgt := 44) hx hb d_Rn_askWhetherOn_40 (by decide) ?_
          exact W.iret hx hb hr (v := 1) (fun t ht hW => ⟨⟨1, v_1, rfl, he.symm, by rw [ht]; exact hP, va_K.moved hW.alike hK, hD⟩, hS.F ht⟩) hS.2.2 d_Rn_askWhetherOn_44
      · have he := he.trans (if_neg c_5)
        refine lv_aload_n hx hb d_Rn_askWhetherOn_25 rfl (lv_at hl 1 rfl) ?_
        refine lv_bipush (v := 8) hx hb d_Rn_askWhetherOn_26 (by decide) ?_
        refine wx_cv (wS := fun v : TRn => w_R ad ca b v) (ws2 := fun v : TRn => w_R ad ca b v) (va_runV (As := [.int 8]) (rest := []) ⟨hx, hb, hml, hown, ht⟩ (c_Rn_fail l dC dI ad ca H.size b v_1 8 _ rfl) (cwV 1 ht (tb_V q_265 q_267 q_1 q_44 q_268) rfl rfl rfl p_Rn_fail ⟨show 0 + 1 ≤ rf + 9 by omega, show 8 + (2 + 11) + 0 ≤ rl + 208 by omega⟩) (wx_preV (wc := (w_R ad ca b v_1)) hN hK hP hD [0, 1, 2, 3, 4, 5, 6, 7, 8, 9, 10, 11, 12, 13, 14] [0, 1, 2, 3, 4, 5, 6, 7, 8, 9, 10, 11] rfl (by decide) rfl (ci := 2) (q0 := 0) rfl rfl) rfl rfl hl.1 rfl (lv_room (Nat.le_of_ble_eq_true rfl)) d_Rn_askWhetherOn_28 ⟨Nat.zero_le _, Nat.zero_le _⟩) hP hD hS hA [0, 1, 2, 3, 4, 5, 6, 7, 8, 9, 10, 11, 12, 13, 14] [] [0, 1, 2, 3, 4, 5, 6, 7, 8, 9, 10, 11, 12, 13, 14] rfl rfl (by decide) (by decide) (by decide) (fun _ => rfl) (fun v_7 H locs hw_7 hP hD hS => ?_)
        have hP : va_P (dC, dI) vwCl (w_R ad ca b v_7) H := hP
        have hD : va_D A (w_R ad ca b v_7) := hD
        rw [← hw_7] at he
        try dsimp only at he
        refine lv_iconst (v := 0) hx hb d_Rn_askWhetherOn_31 (by decide) ?_
        exact W.iret hx hb hr (v := 0) (fun t ht hW => ⟨⟨0, v_7, rfl, he.symm, by rw [ht]; exact hP, va_K.moved hW.alike hK, hD⟩, hS.F ht⟩) hS.2.2 d_Rn_askWhetherOn_32
  · have he := he.trans (if_neg c_2)
    refine lv_iconst (v := 0) hx hb d_Rn_askWhetherOn_13 (by decide) ?_
    exact W.iret hx hb hr (v := 0) (fun t ht hW => ⟨⟨0, v_1, rfl, he.symm, by rw [ht]; exact hP, va_K.moved hW.alike hK, hD⟩, hS.F ht⟩) hS.2.2 d_Rn_askWhetherOn_14
noncomputable def f_Rn_askWhetherOn_e (op : TBk → TRn → Int32 → TRn) (b : TBk) (u : TRn) (p0 : Int32) : (Int32 × TRn) := (match f_Rn_readNumber op b u p0 with | (r_1, v_1) => (if (TRn_fault v_1) = 0 then (if r_1 < 0 then (let v_4 := f_Rn_fail b v_1 8; (0, v_4)) else (if r_1 < 8 then (if ((TBk_files b) r_1.toNatClampNeg) = 0 then (0, v_1) else (1, v_1)) else (let v_7 := f_Rn_fail b v_1 8; (0, v_7)))) else (0, v_1)))
set_option maxHeartbeats 4000000 in
set_option maxRecDepth 100000 in
theorem c_Rn_askWhetherOn_e (l : Launch) (dC : Nat → ClassId) (dI : Nat → Nat → Nat) (ad : Nat → Nat) (ca : Nat → ClassId) (op : TBk → TRn → Int32 → TRn) (rf rl : Nat) (k : Int) (hopm : ∀ (b : TBk) (u : TRn) (w : Int32), k ≤ oc u → oc u ≤ oc (op b u w)) (hop : ∀ (sz : Nat) (b : TBk) (u : TRn) (w : Int32), BkS b ∧ k ≤ oc u → wx_Mv l y_Rn_open ws_Rn_open ({ frames := rf, cells := 0, slots := 0, locals := rl } : Room) (dC, dI) vwCl (t_R ca) [.ref (ad 0), .int w] (w_R ad ca b u) sz (fun v : TRn => w_R ad ca b v) (fun v : TRn => v = op b u w)) (sz : Nat) (b : TBk) (u : TRn) (p0 : Int32) (hpre : BkS b ∧ k ≤ p0.toInt ∧ p0.toInt ≤ oc u) (F : (Int32 × TRn)) (he : F = f_Rn_askWhetherOn_e op b u p0) : wx_Mi l y_Rn_askWhetherOn ws_Rn_askWhetherOn ({ frames := rf + 9, cells := 0, slots := 0, locals := rl + 208 } : Room) (dC, dI) vwCl (t_R ca) [.ref (ad 0), .ref (ad 14), .int p0] (w_R ad ca b u) sz (fun v : TRn => w_R ad ca b v) (fun (r : Int32) (v : TRn) => (r, v) = F) := by
  refine Met.ofW (cc := b_Rn_askWhetherOn) (maxL := 4) (ret := some .int) (by decide) rfl ?_
  intro p e s m args below meth c s₁ B hml hv
  obtain ⟨rfl, hsz, hP, hK, hD0, hN⟩ := hv
  have hx := B.exec
  have hb := B.bytes
  have hr := B.returns
  have hts := atoms_spec (ws := ws_Rn_askWhetherOn) B.pre
  have ht : ∀ w ∈ TB, w.before _ s = true := fun w h => hts w (List.mem_cons_of_mem _ h)
  have hown : s.vm.findClass R_Rn = some m.cls := findClass_of_methodNamed B.named
  have hlocks := B.notSynchronized
  subst hsz
  have hD := hD0.self (sz := s.heap.size)
  generalize hAe : va_A (w_R ad ca b u) s.heap.size = A at hD ⊢
  have hA : ∀ q : Nat, s.heap.size ≤ q → A q := fun q h => by rw [← hAe]; exact Or.inr h
  have hS : va_S A s.heap s.heap [] := va_S.rf
  have hl := lv_entry ([.ref (ad 0), .ref (ad 14), .int p0]) (n := 4) (Nat.le_of_ble_eq_true rfl)
  rw [lg_entry_eq]
  generalize (lg_sl ([.ref (ad 0), .ref (ad 14), .int p0]) ++ List.replicate (4 - (lg_sl ([.ref (ad 0), .ref (ad 14), .int p0])).length) Slot.unset).toArray = ls at hl ⊢
  have hl : lv_has ls 4 [(0, .ref (ad 0)), (1, .ref (ad 14)), (2, .int p0)] := hl
  unfold f_Rn_askWhetherOn_e at he
  refine lv_aload_n hx hb d_Rn_askWhetherOn_0 rfl (lv_at hl 0 rfl) ?_
  refine lv_iload_n hx hb d_Rn_askWhetherOn_1 rfl (lv_at hl 2 rfl) ?_
  refine wx_ci (wS := fun v : TRn => w_R ad ca b v) (ws2 := fun v : TRn => w_R ad ca b v) (va_runV (As := [.int p0]) (rest := []) ⟨hx, hb, hml, hown, ht⟩ (c_Rn_readNumber l dC dI ad ca op rf rl k hopm hop s.heap.size b u p0 hpre _ rfl) (cwV 1 ht (tb_V q_344 q_346 q_12 q_44 q_347) rfl rfl rfl p_Rn_readNumber ⟨show (rf + 8) + 1 ≤ rf + 9 by omega, show 8 + (5 + 11) + (rl + 184) ≤ rl + 208 by omega⟩) (wx_preV (wc := (w_R ad ca b u)) hN hK hP hD [0, 1, 2, 3, 4, 5, 6, 7, 8, 9, 10, 11, 12, 13, 14] [0, 1, 2, 3, 4, 5, 6, 7, 8, 9, 10, 11] rfl (by decide) rfl (ci := 2) (q0 := 0) rfl rfl) rfl rfl hl.1 rfl (lv_room (Nat.le_of_ble_eq_true rfl)) d_Rn_askWhetherOn_2 ⟨Nat.zero_le _, Nat.zero_le _⟩) hP hD hS hA [0, 1, 2, 3, 4, 5, 6, 7, 8, 9, 10, 11, 12, 13, 14] [] [0, 1, 2, 3, 4, 5, 6, 7, 8, 9, 10, 11, 12, 13, 14] rfl rfl (by decide) (by decide) (by decide) (fun _ => rfl) (fun r_1 v_1 H locs hw_1 hP hD hS => ?_)
  have hP : va_P (dC, dI) vwCl (w_R ad ca b v_1) H := hP
  have hD : va_D A (w_R ad ca b v_1) := hD
  rw [← hw_1] at he
  try dsimp only at he
  refine lv_istore_n (lv' := [(3, .int r_1), (0, .ref (ad 0)), (1, .ref (ad 14)), (2, .int p0)]) hx hb d_Rn_askWhetherOn_5 rfl hl (by decide) rfl (fun ls hl => ?_)
  refine lv_aload_n hx hb d_Rn_askWhetherOn_6 rfl (lv_at hl 1 rfl) ?_
  refine va_get (D := (dC, dI)) (ci := 2) (v := .int (TRn_fault v_1)) (C := R_Rn) (T := T_Rn) (N := 12) hx hb ht i_Rn hown hK hP 0 rfl rfl 11 (by decide) (ht _ q_141) (fun _ h9 => h9) rfl d_Rn_askWhetherOn_7 ?_
  refine lv_if_eq (tgt := 15) hx hb d_Rn_askWhetherOn_10 (by decide) (fun c_2 => ?_) (fun c_2 => ?_)
  · have he := he.trans (if_pos c_2)
    refine lv_iload_n hx hb d_Rn_askWhetherOn_15 rfl (lv_at hl 0 rfl) ?_
    refine lv_if_lt (tgt := 25) hx hb d_Rn_askWhetherOn_16 (by decide) (fun c_3 => ?_) (fun c_3 => ?_)
    · have he := he.trans (if_pos c_3)
      refine lv_aload_n hx hb d_Rn_askWhetherOn_25 rfl (lv_at hl 1 rfl) ?_
      refine lv_bipush (v := 8) hx hb d_Rn_askWhetherOn_26 (by decide) ?_
      refine wx_cv (wS := fun v : TRn => w_R ad ca b v) (ws2 := fun v : TRn => w_R ad ca b v) (va_runV (As := [.int 8]) (rest := []) ⟨hx, hb, hml, hown, ht⟩ (c_Rn_fail l dC dI ad ca H.size b v_1 8 _ rfl) (cwV 1 ht (tb_V q_265 q_267 q_1 q_44 q_268) rfl rfl rfl p_Rn_fail ⟨show 0 + 1 ≤ rf + 9 by omega, show 8 + (2 + 11) + 0 ≤ rl + 208 by omega⟩) (wx_preV (wc := (w_R ad ca b v_1)) hN hK hP hD [0, 1, 2, 3, 4, 5, 6, 7, 8, 9, 10, 11, 12, 13, 14] [0, 1, 2, 3, 4, 5, 6, 7, 8, 9, 10, 11] rfl (by decide) rfl (ci := 2) (q0 := 0) rfl rfl) rfl rfl hl.1 rfl (lv_room (Nat.le_of_ble_eq_true rfl)) d_Rn_askWhetherOn_28 ⟨Nat.zero_le _, Nat.zero_le _⟩) hP hD hS hA [0, 1, 2, 3, 4, 5, 6, 7, 8, 9, 10, 11, 12, 13, 14] [] [0, 1, 2, 3, 4, 5, 6, 7, 8, 9, 10, 11, 12, 13, 14] rfl rfl (by decide) (by decide) (by decide) (fun _ => rfl) (fun v_4 H locs hw_4 hP hD hS => ?_)
      have hP : va_P (dC, dI) vwCl (w_R ad ca b v_4) H := hP
      have hD : va_D A (w_R ad ca b v_4) := hD
      rw [← hw_4] at he
      try dsimp only at he
      refine lv_iconst (v := 0) hx hb d_Rn_askWhetherOn_31 (by decide) ?_
      exact W.iret hx hb hr (v := 0) (fun t ht hW => ⟨⟨0, v_4, rfl, he.symm, by rw [ht]; exact hP, va_K.moved hW.alike hK, hD⟩, hS.F ht⟩) hS.2.2 d_Rn_askWhetherOn_32
    · have he := he.trans (if_neg c_3)
      refine lv_iload_n hx hb d_Rn_askWhetherOn_19 rfl (lv_at hl 0 rfl) ?_
      refine lv_aload_n hx hb d_Rn_askWhetherOn_20 rfl (lv_at hl 2 rfl) ?_
      refine va_alen hx hb hK hP 14 11 rfl rfl (v := 8) rfl d_Rn_askWhetherOn_21 ?_
      refine lv_icmp_lt (tgt := 33) hx hb d_Rn_askWhetherOn_22 (by decide) (fun c_5 => ?_) (fun c_5 => ?_)
      · have he := he.trans (if_pos c_5)
        refine lv_aload_n hx hb d_Rn_askWhetherOn_33 rfl (lv_at hl 2 rfl) ?_
        refine lv_iload_n hx hb d_Rn_askWhetherOn_34 rfl (lv_at hl 0 rfl) ?_
        refine va_zald hx hb hK hP 14 11 rfl rfl (wx_inAV (by decide) c_3 c_5) d_Rn_askWhetherOn_35 ?_
        refine lv_if_eq (tgt := 43) hx hb d_Rn_askWhetherOn_36 (by decide) (fun c_6 => ?_) (fun c_6 => ?_)
        · have he := he.trans (if_pos c_6)
          refine lv_iconst (v := 0) hx hb d_Rn_askWhetherOn_43 (by decide) ?_
          exact W.iret hx hb hr (v := 0) (fun t ht hW => ⟨⟨0, v_1, rfl, he.symm, by rw [ht]; exact hP, va_K.moved hW.alike hK, hD⟩, hS.F ht⟩) hS.2.2 d_Rn_askWhetherOn_44
        · have he := he.trans (if_neg c_6)
          refine lv_iconst (v := 1) hx hb d_Rn_askWhetherOn_39 (by decide) ?_
          refine lv_goto (tgt := 44) hx hb d_Rn_askWhetherOn_40 (by decide) ?_
          exact W.iret hx hb hr (v := 1) (fun t ht hW => ⟨⟨1, v_1, rfl, he.symm, by rw [ht]; exact hP, va_K.moved hW.alike hK, hD⟩, hS.F ht⟩) hS.2.2 d_Rn_askWhetherOn_44
      · have he := he.trans (if_neg c_5)
        refine lv_aload_n hx hb d_Rn_askWhetherOn_25 rfl (lv_at hl 1 rfl) ?_
        refine lv_bipush (v := 8) hx hb d_Rn_askWhetherOn_26 (by decide) ?_
        refine wx_cv (wS := fun v : TRn => w_R ad ca b v) (ws2 := fun v : TRn => w_R ad ca b v) (va_runV (As := [.int 8]) (rest := []) ⟨hx, hb, hml, hown, ht⟩ (c_Rn_fail l dC dI ad ca H.size b v_1 8 _ rfl) (cwV 1 ht (tb_V q_265 q_267 q_1 q_44 q_268) rfl rfl rfl p_Rn_fail ⟨show 0 + 1 ≤ rf + 9 by omega, show 8 + (2 + 11) + 0 ≤ rl + 208 by omega⟩) (wx_preV (wc := (w_R ad ca b v_1)) hN hK hP hD [0, 1, 2, 3, 4, 5, 6, 7, 8, 9, 10, 11, 12, 13, 14] [0, 1, 2, 3, 4, 5, 6, 7, 8, 9, 10, 11] rfl (by decide) rfl (ci := 2) (q0 := 0) rfl rfl) rfl rfl hl.1 rfl (lv_room (Nat.le_of_ble_eq_true rfl)) d_Rn_askWhetherOn_28 ⟨Nat.zero_le _, Nat.zero_le _⟩) hP hD hS hA [0, 1, 2, 3, 4, 5, 6, 7, 8, 9, 10, 11, 12, 13, 14] [] [0, 1, 2, 3, 4, 5, 6, 7, 8, 9, 10, 11, 12, 13, 14] rfl rfl (by decide) (by decide) (by decide) (fun _ => rfl) (fun v_7 H locs hw_7 hP hD hS => ?_)
        have hP : va_P (dC, dI) vwCl (w_R ad ca b v_7) H := hP
        have hD : va_D A (w_R ad ca b v_7) := hD
        rw [← hw_7] at he
        try dsimp only at he
        refine lv_iconst (v := 0) hx hb d_Rn_askWhetherOn_31 (by decide) ?_
        exact W.iret hx hb hr (v := 0) (fun t ht hW => ⟨⟨0, v_7, rfl, he.symm, by rw [ht]; exact hP, va_K.moved hW.alike hK, hD⟩, hS.F ht⟩) hS.2.2 d_Rn_askWhetherOn_32
  · have he := he.trans (if_neg c_2)
    refine lv_iconst (v := 0) hx hb d_Rn_askWhetherOn_13 (by decide) ?_
    exact W.iret hx hb hr (v := 0) (fun t ht hW => ⟨⟨0, v_1, rfl, he.symm, by rw [ht]; exact hP, va_K.moved hW.alike hK, hD⟩, hS.F ht⟩) hS.2.2 d_Rn_askWhetherOn_14
