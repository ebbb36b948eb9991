theorem q_43 : Cond.initialized R_Bk ∈ TB := tq 43 (by decide +kernel) rfl
theorem q_65 : Cond.fieldLink R_Bk 18 "ConditionText$Book" "cells" "[I" ∈ TB := tq 65 (by decide +kernel) rfl
theorem q_216 : Cond.methodLink R_Bk 35 y_Bk_sizeOf ∈ TB := tq 216 (by decide +kernel) rfl
theorem q_217 : Cond.instanceMethod y_Bk_sizeOf ∈ TB := tq 217 (by decide +kernel) rfl
theorem q_218 : Cond.selects R_Bk y_Bk_sizeOf y_Bk_sizeOf ∈ TB := tq 218 (by decide +kernel) rfl
theorem q_219 : Cond.code y_Bk_sizeOf b_Bk_sizeOf 2 (some .int) ∈ TB := tq 219 (by decide +kernel) rfl
theorem q_274 : Cond.instanceMethod y_Bk_kindOf ∈ TB := tq 274 (by decide +kernel) rfl
theorem q_275 : Cond.selects R_Bk y_Bk_kindOf y_Bk_kindOf ∈ TB := tq 275 (by decide +kernel) rfl
theorem q_276 : Cond.code y_Bk_kindOf b_Bk_kindOf 2 (some .int) ∈ TB := tq 276 (by decide +kernel) rfl
theorem q_282 : Cond.instanceMethod y_Bk_valueOf ∈ TB := tq 282 (by decide +kernel) rfl
theorem q_283 : Cond.selects R_Bk y_Bk_valueOf y_Bk_valueOf ∈ TB := tq 283 (by decide +kernel) rfl
theorem q_284 : Cond.code y_Bk_valueOf b_Bk_valueOf 2 (some .int) ∈ TB := tq 284 (by decide +kernel) rfl
theorem q_320 : Cond.methodLink R_Bk 43 y_Bk_kindOf ∈ TB := tq 320 (by decide +kernel) rfl
theorem q_321 : Cond.methodLink R_Bk 46 y_Bk_valueOf ∈ TB := tq 321 (by decide +kernel) rfl
theorem d_Bk_append_0 : decode b_Bk_append 0 = .ok (.aload_n 0, 1) := by decide +kernel
theorem d_Bk_append_1 : decode b_Bk_append 1 = .ok (.iload_n 1, 1) := by decide +kernel
theorem d_Bk_append_2 : decode b_Bk_append 2 = .ok (.invokevirtual 35, 3) := by decide +kernel
theorem d_Bk_append_5 : decode b_Bk_append 5 = .ok (.istore_n 3, 1) := by decide +kernel
theorem d_Bk_append_6 : decode b_Bk_append 6 = .ok (.iload_n 1, 1) := by decide +kernel
theorem d_Bk_append_7 : decode b_Bk_append 7 = .ok (.bipush 20, 2) := by decide +kernel
theorem d_Bk_append_9 : decode b_Bk_append 9 = .ok (.if_icmp .ne 9, 3) := by decide +kernel
theorem d_Bk_append_12 : decode b_Bk_append 12 = .ok (.sipush 200, 3) := by decide +kernel
theorem d_Bk_append_15 : decode b_Bk_append 15 = .ok (.goto 5, 3) := by decide +kernel
theorem d_Bk_append_18 : decode b_Bk_append 18 = .ok (.bipush 12, 2) := by decide +kernel
theorem d_Bk_append_20 : decode b_Bk_append 20 = .ok (.istore 4, 2) := by decide +kernel
theorem d_Bk_append_22 : decode b_Bk_append 22 = .ok (.iload_n 1, 1) := by decide +kernel
theorem d_Bk_append_23 : decode b_Bk_append 23 = .ok (.bipush 12, 2) := by decide +kernel
theorem d_Bk_append_25 : decode b_Bk_append 25 = .ok (.imul, 1) := by decide +kernel
theorem d_Bk_append_26 : decode b_Bk_append 26 = .ok (.iload_n 3, 1) := by decide +kernel
theorem d_Bk_append_27 : decode b_Bk_append 27 = .ok (.iadd, 1) := by decide +kernel
theorem d_Bk_append_28 : decode b_Bk_append 28 = .ok (.istore 5, 2) := by decide +kernel
theorem d_Bk_append_30 : decode b_Bk_append 30 = .ok (.iload_n 1, 1) := by decide +kernel
theorem d_Bk_append_31 : decode b_Bk_append 31 = .ok (.ifCond .lt 25, 3) := by decide +kernel
theorem d_Bk_append_34 : decode b_Bk_append 34 = .ok (.iload_n 1, 1) := by decide +kernel
theorem d_Bk_append_35 : decode b_Bk_append 35 = .ok (.bipush 20, 2) := by decide +kernel
theorem d_Bk_append_37 : decode b_Bk_append 37 = .ok (.if_icmp .gt 19, 3) := by decide +kernel
theorem d_Bk_append_40 : decode b_Bk_append 40 = .ok (.iload_n 3, 1) := by decide +kernel
theorem d_Bk_append_41 : decode b_Bk_append 41 = .ok (.iload 4, 2) := by decide +kernel
theorem d_Bk_append_43 : decode b_Bk_append 43 = .ok (.if_icmp .ge 13, 3) := by decide +kernel
theorem d_Bk_append_46 : decode b_Bk_append 46 = .ok (.iload 5, 2) := by decide +kernel
theorem d_Bk_append_48 : decode b_Bk_append 48 = .ok (.aload_n 0, 1) := by decide +kernel
theorem d_Bk_append_49 : decode b_Bk_append 49 = .ok (.getfield 18, 3) := by decide +kernel
theorem d_Bk_append_52 : decode b_Bk_append 52 = .ok (.arraylength, 1) := by decide +kernel
theorem d_Bk_append_53 : decode b_Bk_append 53 = .ok (.if_icmp .lt 6, 3) := by decide +kernel
theorem d_Bk_append_56 : decode b_Bk_append 56 = .ok (.bipush (-4), 2) := by decide +kernel
theorem d_Bk_append_58 : decode b_Bk_append 58 = .ok (.ireturn, 1) := by decide +kernel
theorem d_Bk_append_59 : decode b_Bk_append 59 = .ok (.aload_n 0, 1) := by decide +kernel
theorem d_Bk_append_60 : decode b_Bk_append 60 = .ok (.getfield 18, 3) := by decide +kernel
theorem d_Bk_append_63 : decode b_Bk_append 63 = .ok (.iload 5, 2) := by decide +kernel
theorem d_Bk_append_65 : decode b_Bk_append 65 = .ok (.iload_n 2, 1) := by decide +kernel
theorem d_Bk_append_66 : decode b_Bk_append 66 = .ok (.iastore, 1) := by decide +kernel
theorem d_Bk_append_67 : decode b_Bk_append 67 = .ok (.aload_n 0, 1) := by decide +kernel
theorem d_Bk_append_68 : decode b_Bk_append 68 = .ok (.getfield 21, 3) := by decide +kernel
theorem d_Bk_append_71 : decode b_Bk_append 71 = .ok (.iload_n 1, 1) := by decide +kernel
theorem d_Bk_append_72 : decode b_Bk_append 72 = .ok (.iload_n 3, 1) := by decide +kernel
theorem d_Bk_append_73 : decode b_Bk_append 73 = .ok (.iconst 1, 1) := by decide +kernel
theorem d_Bk_append_74 : decode b_Bk_append 74 = .ok (.iadd, 1) := by decide +kernel
theorem d_Bk_append_75 : decode b_Bk_append 75 = .ok (.iastore, 1) := by decide +kernel
theorem d_Bk_append_76 : decode b_Bk_append 76 = .ok (.iload_n 3, 1) := by decide +kernel
theorem d_Bk_append_77 : decode b_Bk_append 77 = .ok (.iconst 1, 1) := by decide +kernel
theorem d_Bk_append_78 : decode b_Bk_append 78 = .ok (.iadd, 1) := by decide +kernel
theorem d_Bk_append_79 : decode b_Bk_append 79 = .ok (.ireturn, 1) := by decide +kernel
theorem d_Bk_tokenIn_0 : decode b_Bk_tokenIn 0 = .ok (.iload_n 1, 1) := by decide +kernel
theorem d_Bk_tokenIn_1 : decode b_Bk_tokenIn 1 = .ok (.ifCond .lt 26, 3) := by decide +kernel
theorem d_Bk_tokenIn_4 : decode b_Bk_tokenIn 4 = .ok (.iload_n 1, 1) := by decide +kernel
theorem d_Bk_tokenIn_5 : decode b_Bk_tokenIn 5 = .ok (.aload_n 0, 1) := by decide +kernel
theorem d_Bk_tokenIn_6 : decode b_Bk_tokenIn 6 = .ok (.getfield 21, 3) := by decide +kernel
theorem d_Bk_tokenIn_9 : decode b_Bk_tokenIn 9 = .ok (.arraylength, 1) := by decide +kernel
theorem d_Bk_tokenIn_10 : decode b_Bk_tokenIn 10 = .ok (.if_icmp .ge 17, 3) := by decide +kernel
theorem d_Bk_tokenIn_13 : decode b_Bk_tokenIn 13 = .ok (.iload_n 2, 1) := by decide +kernel
theorem d_Bk_tokenIn_14 : decode b_Bk_tokenIn 14 = .ok (.ifCond .lt 13, 3) := by decide +kernel
theorem d_Bk_tokenIn_17 : decode b_Bk_tokenIn 17 = .ok (.iload_n 2, 1) := by decide +kernel
theorem d_Bk_tokenIn_18 : decode b_Bk_tokenIn 18 = .ok (.aload_n 0, 1) := by decide +kernel
theorem d_Bk_tokenIn_19 : decode b_Bk_tokenIn 19 = .ok (.getfield 21, 3) := by decide +kernel
theorem d_Bk_tokenIn_22 : decode b_Bk_tokenIn 22 = .ok (.iload_n 1, 1) := by decide +kernel
theorem d_Bk_tokenIn_23 : decode b_Bk_tokenIn 23 = .ok (.iaload, 1) := by decide +kernel
theorem d_Bk_tokenIn_24 : decode b_Bk_tokenIn 24 = .ok (.if_icmp .lt 5, 3) := by decide +kernel
theorem d_Bk_tokenIn_27 : decode b_Bk_tokenIn 27 = .ok (.iconst (-1), 1) := by decide +kernel
theorem d_Bk_tokenIn_28 : decode b_Bk_tokenIn 28 = .ok (.ireturn, 1) := by decide +kernel
theorem d_Bk_tokenIn_29 : decode b_Bk_tokenIn 29 = .ok (.iload_n 1, 1) := by decide +kernel
theorem d_Bk_tokenIn_30 : decode b_Bk_tokenIn 30 = .ok (.bipush 12, 2) := by decide +kernel
theorem d_Bk_tokenIn_32 : decode b_Bk_tokenIn 32 = .ok (.imul, 1) := by decide +kernel
theorem d_Bk_tokenIn_33 : decode b_Bk_tokenIn 33 = .ok (.iload_n 2, 1) := by decide +kernel
theorem d_Bk_tokenIn_34 : decode b_Bk_tokenIn 34 = .ok (.iadd, 1) := by decide +kernel
theorem d_Bk_tokenIn_35 : decode b_Bk_tokenIn 35 = .ok (.istore_n 3, 1) := by decide +kernel
theorem d_Bk_tokenIn_36 : decode b_Bk_tokenIn 36 = .ok (.iload_n 3, 1) := by decide +kernel
theorem d_Bk_tokenIn_37 : decode b_Bk_tokenIn 37 = .ok (.aload_n 0, 1) := by decide +kernel
theorem d_Bk_tokenIn_38 : decode b_Bk_tokenIn 38 = .ok (.getfield 18, 3) := by decide +kernel
theorem d_Bk_tokenIn_41 : decode b_Bk_tokenIn 41 = .ok (.arraylength, 1) := by decide +kernel
theorem d_Bk_tokenIn_42 : decode b_Bk_tokenIn 42 = .ok (.if_icmp .ge 12, 3) := by decide +kernel
theorem d_Bk_tokenIn_45 : decode b_Bk_tokenIn 45 = .ok (.aload_n 0, 1) := by decide +kernel
theorem d_Bk_tokenIn_46 : decode b_Bk_tokenIn 46 = .ok (.getfield 18, 3) := by decide +kernel
theorem d_Bk_tokenIn_49 : decode b_Bk_tokenIn 49 = .ok (.iload_n 3, 1) := by decide +kernel
theorem d_Bk_tokenIn_50 : decode b_Bk_tokenIn 50 = .ok (.iaload, 1) := by decide +kernel
theorem d_Bk_tokenIn_51 : decode b_Bk_tokenIn 51 = .ok (.goto 4, 3) := by decide +kernel
theorem d_Bk_tokenIn_54 : decode b_Bk_tokenIn 54 = .ok (.iconst (-1), 1) := by decide +kernel
theorem d_Bk_tokenIn_55 : decode b_Bk_tokenIn 55 = .ok (.ireturn, 1) := by decide +kernel
theorem d_Bk_kindOf_0 : decode b_Bk_kindOf 0 = .ok (.iload_n 1, 1) := by decide +kernel
theorem d_Bk_kindOf_1 : decode b_Bk_kindOf 1 = .ok (.invokestatic 39, 3) := by decide +kernel
theorem d_Bk_kindOf_4 : decode b_Bk_kindOf 4 = .ok (.ifCond .eq 16, 3) := by decide +kernel
theorem d_Bk_kindOf_7 : decode b_Bk_kindOf 7 = .ok (.aload_n 0, 1) := by decide +kernel
theorem d_Bk_kindOf_8 : decode b_Bk_kindOf 8 = .ok (.getfield 9, 3) := by decide +kernel
theorem d_Bk_kindOf_11 : decode b_Bk_kindOf 11 = .ok (.iload_n 1, 1) := by decide +kernel
theorem d_Bk_kindOf_12 : decode b_Bk_kindOf 12 = .ok (.sipush 4096, 3) := by decide +kernel
theorem d_Bk_kindOf_15 : decode b_Bk_kindOf 15 = .ok (.isub, 1) := by decide +kernel
theorem d_Bk_kindOf_16 : decode b_Bk_kindOf 16 = .ok (.iaload, 1) := by decide +kernel
theorem d_Bk_kindOf_17 : decode b_Bk_kindOf 17 = .ok (.goto 4, 3) := by decide +kernel
theorem d_Bk_kindOf_20 : decode b_Bk_kindOf 20 = .ok (.iconst 1, 1) := by decide +kernel
theorem d_Bk_kindOf_21 : decode b_Bk_kindOf 21 = .ok (.ireturn, 1) := by decide +kernel
theorem d_Bk_valueOf_0 : decode b_Bk_valueOf 0 = .ok (.iload_n 1, 1) := by decide +kernel
theorem d_Bk_valueOf_1 : decode b_Bk_valueOf 1 = .ok (.invokestatic 39, 3) := by decide +kernel
theorem d_Bk_valueOf_4 : decode b_Bk_valueOf 4 = .ok (.ifCond .eq 16, 3) := by decide +kernel
theorem d_Bk_valueOf_7 : decode b_Bk_valueOf 7 = .ok (.aload_n 0, 1) := by decide +kernel
theorem d_Bk_valueOf_8 : decode b_Bk_valueOf 8 = .ok (.getfield 15, 3) := by decide +kernel
theorem d_Bk_valueOf_11 : decode b_Bk_valueOf 11 = .ok (.iload_n 1, 1) := by decide +kernel
theorem d_Bk_valueOf_12 : decode b_Bk_valueOf 12 = .ok (.sipush 4096, 3) := by decide +kernel
theorem d_Bk_valueOf_15 : decode b_Bk_valueOf 15 = .ok (.isub, 1) := by decide +kernel
theorem d_Bk_valueOf_16 : decode b_Bk_valueOf 16 = .ok (.iaload, 1) := by decide +kernel
theorem d_Bk_valueOf_17 : decode b_Bk_valueOf 17 = .ok (.goto 4, 3) := by decide +kernel
theorem d_Bk_valueOf_20 : decode b_Bk_valueOf 20 = .ok (.iload_n 1, 1) := by decide +kernel
theorem d_Bk_valueOf_21 : decode b_Bk_valueOf 21 = .ok (.ireturn, 1) := by decide +kernel
theorem d_Bk_codeOf_0 : decode b_Bk_codeOf 0 = .ok (.aload_n 0, 1) := by decide +kernel
theorem d_Bk_codeOf_1 : decode b_Bk_codeOf 1 = .ok (.iload_n 1, 1) := by decide +kernel
theorem d_Bk_codeOf_2 : decode b_Bk_codeOf 2 = .ok (.invokevirtual 43, 3) := by decide +kernel
theorem d_Bk_codeOf_5 : decode b_Bk_codeOf 5 = .ok (.iconst 1, 1) := by decide +kernel
theorem d_Bk_codeOf_6 : decode b_Bk_codeOf 6 = .ok (.if_icmp .ne 15, 3) := by decide +kernel
theorem d_Bk_codeOf_9 : decode b_Bk_codeOf 9 = .ok (.aload_n 0, 1) := by decide +kernel
theorem d_Bk_codeOf_10 : decode b_Bk_codeOf 10 = .ok (.iload_n 1, 1) := by decide +kernel
theorem d_Bk_codeOf_11 : decode b_Bk_codeOf 11 = .ok (.invokevirtual 46, 3) := by decide +kernel
theorem d_Bk_codeOf_14 : decode b_Bk_codeOf 14 = .ok (.sipush 256, 3) := by decide +kernel
theorem d_Bk_codeOf_17 : decode b_Bk_codeOf 17 = .ok (.irem, 1) := by decide +kernel
theorem d_Bk_codeOf_18 : decode b_Bk_codeOf 18 = .ok (.goto 6, 3) := by decide +kernel
theorem d_Bk_codeOf_21 : decode b_Bk_codeOf 21 = .ok (.sipush 256, 3) := by decide +kernel
theorem d_Bk_codeOf_24 : decode b_Bk_codeOf 24 = .ok (.ireturn, 1) := by decide +kernel
theorem d_Bk_categoryOf_0 : decode b_Bk_categoryOf 0 = .ok (.aload_n 0, 1) := by decide +kernel
theorem d_Bk_categoryOf_1 : decode b_Bk_categoryOf 1 = .ok (.iload_n 1, 1) := by decide +kernel
theorem d_Bk_categoryOf_2 : decode b_Bk_categoryOf 2 = .ok (.invokevirtual 43, 3) := by decide +kernel
theorem d_Bk_categoryOf_5 : decode b_Bk_categoryOf 5 = .ok (.iconst 1, 1) := by decide +kernel
theorem d_Bk_categoryOf_6 : decode b_Bk_categoryOf 6 = .ok (.if_icmp .ne 15, 3) := by decide +kernel
theorem d_Bk_categoryOf_9 : decode b_Bk_categoryOf 9 = .ok (.aload_n 0, 1) := by decide +kernel
theorem d_Bk_categoryOf_10 : decode b_Bk_categoryOf 10 = .ok (.iload_n 1, 1) := by decide +kernel
theorem d_Bk_categoryOf_11 : decode b_Bk_categoryOf 11 = .ok (.invokevirtual 46, 3) := by decide +kernel
theorem d_Bk_categoryOf_14 : decode b_Bk_categoryOf 14 = .ok (.sipush 256, 3) := by decide +kernel
theorem d_Bk_categoryOf_17 : decode b_Bk_categoryOf 17 = .ok (.idiv, 1) := by decide +kernel
theorem d_Bk_categoryOf_18 : decode b_Bk_categoryOf 18 = .ok (.goto 5, 3) := by decide +kernel
theorem d_Bk_categoryOf_21 : decode b_Bk_categoryOf 21 = .ok (.bipush 16, 2) := by decide +kernel
theorem d_Bk_categoryOf_23 : decode b_Bk_categoryOf 23 = .ok (.ireturn, 1) := by decide +kernel
theorem d_Bk_tokensOfBodies_0 : decode b_Bk_tokensOfBodies 0 = .ok (.iconst 0, 1) := by decide +kernel
theorem d_Bk_tokensOfBodies_1 : decode b_Bk_tokensOfBodies 1 = .ok (.istore_n 1, 1) := by decide +kernel
theorem d_Bk_tokensOfBodies_2 : decode b_Bk_tokensOfBodies 2 = .ok (.iconst 0, 1) := by decide +kernel
theorem d_Bk_tokensOfBodies_3 : decode b_Bk_tokensOfBodies 3 = .ok (.istore_n 2, 1) := by decide +kernel
theorem d_Bk_tokensOfBodies_4 : decode b_Bk_tokensOfBodies 4 = .ok (.iload_n 2, 1) := by decide +kernel
theorem d_Bk_tokensOfBodies_5 : decode b_Bk_tokensOfBodies 5 = .ok (.bipush 20, 2) := by decide +kernel
theorem d_Bk_tokensOfBodies_7 : decode b_Bk_tokensOfBodies 7 = .ok (.if_icmp .ge 18, 3) := by decide +kernel
theorem d_Bk_tokensOfBodies_10 : decode b_Bk_tokensOfBodies 10 = .ok (.iload_n 1, 1) := by decide +kernel
theorem d_Bk_tokensOfBodies_11 : decode b_Bk_tokensOfBodies 11 = .ok (.aload_n 0, 1) := by decide +kernel
theorem d_Bk_tokensOfBodies_12 : decode b_Bk_tokensOfBodies 12 = .ok (.getfield 21, 3) := by decide +kernel
theorem d_Bk_tokensOfBodies_15 : decode b_Bk_tokensOfBodies 15 = .ok (.iload_n 2, 1) := by decide +kernel
theorem d_Bk_tokensOfBodies_16 : decode b_Bk_tokensOfBodies 16 = .ok (.iaload, 1) := by decide +kernel
theorem d_Bk_tokensOfBodies_17 : decode b_Bk_tokensOfBodies 17 = .ok (.iadd, 1) := by decide +kernel
theorem d_Bk_tokensOfBodies_18 : decode b_Bk_tokensOfBodies 18 = .ok (.istore_n 1, 1) := by decide +kernel
theorem d_Bk_tokensOfBodies_19 : decode b_Bk_tokensOfBodies 19 = .ok (.iinc 2 1, 3) := by decide +kernel
theorem d_Bk_tokensOfBodies_22 : decode b_Bk_tokensOfBodies 22 = .ok (.goto (-18), 3) := by decide +kernel
theorem d_Bk_tokensOfBodies_25 : decode b_Bk_tokensOfBodies 25 = .ok (.iload_n 1, 1) := by decide +kernel
theorem d_Bk_tokensOfBodies_26 : decode b_Bk_tokensOfBodies 26 = .ok (.ireturn, 1) := by decide +kernel
def f_Bk_append (b : TBk) (p0 : Int32) (p1 : Int32) : (Int32 × TBk) := (if p0 = 20 then (if p0 < 0 then ((-4), b) else (if 20 < p0 then ((-4), b) else (if 200 ≤ (f_Bk_sizeOf b p0) then ((-4), b) else (if ((p0 * 12) + (f_Bk_sizeOf b p0)) < 440 then (((f_Bk_sizeOf b p0) + 1), (TBk_set_sizes (TBk_set_cells b (upd (TBk_cells b) ((p0 * 12) + (f_Bk_sizeOf b p0)).toNatClampNeg p1)) (upd (TBk_sizes b) p0.toNatClampNeg ((f_Bk_sizeOf b p0) + 1)))) else ((-4), b))))) else (if p0 < 0 then ((-4), b) else (if 20 < p0 then ((-4), b) else (if 12 ≤ (f_Bk_sizeOf b p0) then ((-4), b) else (if ((p0 * 12) + (f_Bk_sizeOf b p0)) < 440 then (((f_Bk_sizeOf b p0) + 1), (TBk_set_sizes (TBk_set_cells b (upd (TBk_cells b) ((p0 * 12) + (f_Bk_sizeOf b p0)).toNatClampNeg p1)) (upd (TBk_sizes b) p0.toNatClampNeg ((f_Bk_sizeOf b p0) + 1)))) else ((-4), b))))))
set_option maxHeartbeats 4000000 in
set_option maxRecDepth 100000 in
theorem c_Bk_append (l : Launch) (dC : Nat → ClassId) (dI : Nat → Nat → Nat) (ad : Nat → Nat) (ca : Nat → ClassId) (sz : Nat) (b : TBk) (p0 : Int32) (p1 : Int32) (hpre : BkS b) (F : (Int32 × TBk)) (he : F = f_Bk_append b p0 p1) : wx_Mi l y_Bk_append ws_Bk_append ({ frames := 1, cells := 0, slots := 0, locals := 21 } : Room) (dC, dI) vwCl (t_B ca) [.ref (ad 8), .int p0, .int p1] (w_B ad ca b) sz (fun v : TBk => w_B ad ca v) (fun (r : Int32) (v : TBk) => (r, v) = F) := by
  refine Met.ofW (cc := b_Bk_append) (maxL := 6) (ret := some .int) (by decide) rfl ?_
  intro p e s m args below meth c s₁ B hml hv
  obtain ⟨rfl, hsz, hP, hK, hD0, hN⟩ := hv
  have hx := B.exec
  have hb := B.bytes
  have hr := B.returns
  have hts := atoms_spec (ws := ws_Bk_append) B.pre
  have ht : ∀ w ∈ TB, w.before _ s = true := fun w h => hts w (List.mem_cons_of_mem _ h)
  have hown : s.vm.findClass R_Bk = some m.cls := findClass_of_methodNamed B.named
  have hlocks := B.notSynchronized
  subst hsz
  have hD := hD0.self (sz := s.heap.size)
  generalize hAe : va_A (w_B ad ca b) s.heap.size = A at hD ⊢
  have hA : ∀ q : Nat, s.heap.size ≤ q → A q := fun q h => by rw [← hAe]; exact Or.inr h
  have hS : va_S A s.heap s.heap [] := va_S.rf
  have hl := lv_entry ([.ref (ad 8), .int p0, .int p1]) (n := 6) (Nat.le_of_ble_eq_true rfl)
  rw [lg_entry_eq]
  generalize (lg_sl ([.ref (ad 8), .int p0, .int p1]) ++ List.replicate (6 - (lg_sl ([.ref (ad 8), .int p0, .int p1])).length) Slot.unset).toArray = ls at hl ⊢
  have hl : lv_has ls 6 [(0, .ref (ad 8)), (1, .int p0), (2, .int p1)] := hl
  unfold f_Bk_append at he
  refine lv_aload_n hx hb d_Bk_append_0 rfl (lv_at hl 0 rfl) ?_
  refine lv_iload_n hx hb d_Bk_append_1 rfl (lv_at hl 1 rfl) ?_
  refine wx_ci (wS := fun _ : Unit => w_B ad ca b) (ws2 := fun _ : Unit => w_B ad ca b) (va_runV (As := [.int p0]) (rest := []) ⟨hx, hb, hml, hown, ht⟩ (c_Bk_sizeOf l dC dI ad ca s.heap.size b p0 _ rfl) (cwV 1 ht (tb_V q_216 q_217 q_218 q_43 q_219) rfl rfl rfl p_Bk_sizeOf ⟨show 0 + 1 ≤ 1 by omega, show 8 + (2 + 11) + 0 ≤ 21 by omega⟩) (wx_preV (wc := (w_B ad ca b)) hN hK hP hD [0, 1, 2, 3, 4, 5, 6] [0, 1, 2, 3, 4, 5] rfl (by decide) rfl (ci := 0) (q0 := 0) rfl rfl) rfl rfl hl.1 rfl (lv_room (Nat.le_of_ble_eq_true rfl)) d_Bk_append_2 ⟨Nat.zero_le _, Nat.zero_le _⟩) hP hD hS hA [0, 1, 2, 3, 4, 5, 6] [] [0, 1, 2, 3, 4, 5, 6] rfl rfl (by decide) (by decide) (by decide) (fun _ => rfl) (fun r_1 _ H locs hw hP hD hS => ?_)
  subst hw
  have hP : va_P (dC, dI) vwCl (w_B ad ca b) H := hP
  have hD : va_D A (w_B ad ca b) := hD
  refine lv_istore_n (lv' := [(3, .int (f_Bk_sizeOf b p0)), (0, .ref (ad 8)), (1, .int p0), (2, .int p1)]) hx hb d_Bk_append_5 rfl hl (by decide) rfl (fun ls hl => ?_)
  refine lv_iload_n hx hb d_Bk_append_6 rfl (lv_at hl 2 rfl) ?_
  refine lv_bipush (v := 20) hx hb d_Bk_append_7 (by decide) ?_
  refine lv_icmp_ne (tgt := 18) hx hb d_Bk_append_9 (by decide) (fun c_2 => ?_) (fun c_2 => ?_)
  · have he := he.trans (if_neg c_2)
    refine lv_bipush (v := 12) hx hb d_Bk_append_18 (by decide) ?_
    refine lv_istore (lv' := [(4, .int 12), (3, .int (f_Bk_sizeOf b p0)), (0, .ref (ad 8)), (1, .int p0), (2, .int p1)]) hx hb d_Bk_append_20 hl (by decide) rfl (fun ls hl => ?_)
    refine lv_iload_n hx hb d_Bk_append_22 rfl (lv_at hl 3 rfl) ?_
    refine lv_bipush (v := 12) hx hb d_Bk_append_23 (by decide) ?_
    refine lv_imul hx hb d_Bk_append_25 ?_
    refine lv_iload_n hx hb d_Bk_append_26 rfl (lv_at hl 1 rfl) ?_
    refine lv_iadd hx hb d_Bk_append_27 ?_
    refine lv_istore (lv' := [(5, .int ((p0 * 12) + (f_Bk_sizeOf b p0))), (4, .int 12), (3, .int (f_Bk_sizeOf b p0)), (0, .ref (ad 8)), (1, .int p0), (2, .int p1)]) hx hb d_Bk_append_28 hl (by decide) rfl (fun ls hl => ?_)
    refine lv_iload_n hx hb d_Bk_append_30 rfl (lv_at hl 4 rfl) ?_
    refine lv_if_lt (tgt := 56) hx hb d_Bk_append_31 (by decide) (fun c_3 => ?_) (fun c_3 => ?_)
    · have he := he.trans (if_pos c_3)
      refine lv_bipush (v := (-4)) hx hb d_Bk_append_56 (by decide) ?_
      exact W.iret hx hb hr (v := (-4)) (fun t ht hW => ⟨⟨(-4), b, rfl, he.symm, by rw [ht]; exact hP, va_K.moved hW.alike hK, hD⟩, hS.F ht⟩) hS.2.2 d_Bk_append_58
    · have he := he.trans (if_neg c_3)
      refine lv_iload_n hx hb d_Bk_append_34 rfl (lv_at hl 4 rfl) ?_
      refine lv_bipush (v := 20) hx hb d_Bk_append_35 (by decide) ?_
      refine lv_icmp_gt (tgt := 56) hx hb d_Bk_append_37 (by decide) (fun c_4 => ?_) (fun c_4 => ?_)
      · have he := he.trans (if_pos c_4)
        refine lv_bipush (v := (-4)) hx hb d_Bk_append_56 (by decide) ?_
        exact W.iret hx hb hr (v := (-4)) (fun t ht hW => ⟨⟨(-4), b, rfl, he.symm, by rw [ht]; exact hP, va_K.moved hW.alike hK, hD⟩, hS.F ht⟩) hS.2.2 d_Bk_append_58
      · have he := he.trans (if_neg c_4)
        refine lv_iload_n hx hb d_Bk_append_40 rfl (lv_at hl 2 rfl) ?_
        refine lv_iload hx hb d_Bk_append_41 (lv_at hl 1 rfl) ?_
        refine lv_icmp_ge (tgt := 56) hx hb d_Bk_append_43 (by decide) (fun c_5 => ?_) (fun c_5 => ?_)
        · have he := he.trans (if_pos c_5)
          refine lv_bipush (v := (-4)) hx hb d_Bk_append_56 (by decide) ?_
          exact W.iret hx hb hr (v := (-4)) (fun t ht hW => ⟨⟨(-4), b, rfl, he.symm, by rw [ht]; exact hP, va_K.moved hW.alike hK, hD⟩, hS.F ht⟩) hS.2.2 d_Bk_append_58
        · have he := he.trans (if_neg c_5)
          refine lv_iload hx hb d_Bk_append_46 (lv_at hl 0 rfl) ?_
          refine lv_aload_n hx hb d_Bk_append_48 rfl (lv_at hl 3 rfl) ?_
          refine va_get (D := (dC, dI)) (ci := 0) (v := .ref (ad 11)) (C := R_Bk) (T := T_Bk) (N := 7) hx hb ht i_Bk hown hK hP 0 rfl rfl 2 (by decide) (ht _ q_65) (fun _ h9 => h9) rfl d_Bk_append_49 ?_
          refine va_alen hx hb hK hP 3 2 rfl rfl (v := 440) rfl d_Bk_append_52 ?_
          refine lv_icmp_lt (tgt := 59) hx hb d_Bk_append_53 (by decide) (fun c_6 => ?_) (fun c_6 => ?_)
          · have he := he.trans (if_pos c_6)
            refine lv_aload_n hx hb d_Bk_append_59 rfl (lv_at hl 3 rfl) ?_
            refine va_get (D := (dC, dI)) (ci := 0) (v := .ref (ad 11)) (C := R_Bk) (T := T_Bk) (N := 7) hx hb ht i_Bk hown hK hP 0 rfl rfl 2 (by decide) (ht _ q_65) (fun _ h9 => h9) rfl d_Bk_append_60 ?_
            refine lv_iload hx hb d_Bk_append_63 (lv_at hl 0 rfl) ?_
            refine lv_iload_n hx hb d_Bk_append_65 rfl (lv_at hl 5 rfl) ?_
            refine va_iast hx hb hK hP hD hS 3 2 rfl rfl (in_append hpre c_3 c_4 c_6) d_Bk_append_66 (fun H locs hP hD hS => ?_)
            have hP : va_P (dC, dI) vwCl (w_B ad ca (TBk_set_cells b (upd (TBk_cells b) ((p0 * 12) + (f_Bk_sizeOf b p0)).toNatClampNeg p1))) H := hP
            have hD : va_D A (w_B ad ca (TBk_set_cells b (upd (TBk_cells b) ((p0 * 12) + (f_Bk_sizeOf b p0)).toNatClampNeg p1))) := hD
            refine lv_aload_n hx hb d_Bk_append_67 rfl (lv_at hl 3 rfl) ?_
            refine va_get (D := (dC, dI)) (ci := 0) (v := .ref (ad 12)) (C := R_Bk) (T := T_Bk) (N := 7) hx hb ht i_Bk hown hK hP 0 rfl rfl 3 (by decide) (ht _ q_66) (fun _ h9 => h9) rfl d_Bk_append_68 ?_
            refine lv_iload_n hx hb d_Bk_append_71 rfl (lv_at hl 4 rfl) ?_
            refine lv_iload_n hx hb d_Bk_append_72 rfl (lv_at hl 2 rfl) ?_
            refine lv_iconst (v := 1) hx hb d_Bk_append_73 (by decide) ?_
            refine lv_iadd hx hb d_Bk_append_74 ?_
            refine va_iast hx hb hK hP hD hS 4 3 rfl rfl (wx_inAW (by decide) c_3 c_4) d_Bk_append_75 (fun H locs hP hD hS => ?_)
            have hP : va_P (dC, dI) vwCl (w_B ad ca (TBk_set_sizes (TBk_set_cells b (upd (TBk_cells b) ((p0 * 12) + (f_Bk_sizeOf b p0)).toNatClampNeg p1)) (upd (TBk_sizes b) p0.toNatClampNeg ((f_Bk_sizeOf b p0) + 1)))) H := hP
            have hD : va_D A (w_B ad ca (TBk_set_sizes (TBk_set_cells b (upd (TBk_cells b) ((p0 * 12) + (f_Bk_sizeOf b p0)).toNatClampNeg p1)) (upd (TBk_sizes b) p0.toNatClampNeg ((f_Bk_sizeOf b p0) + 1)))) := hD
            refine lv_iload_n hx hb d_Bk_append_76 rfl (lv_at hl 2 rfl) ?_
            refine lv_iconst (v := 1) hx hb d_Bk_append_77 (by decide) ?_
            refine lv_iadd hx hb d_Bk_append_78 ?_
            exact W.iret hx hb hr (v := ((f_Bk_sizeOf b p0) + 1)) (fun t ht hW => ⟨⟨((f_Bk_sizeOf b p0) + 1), (TBk_set_sizes (TBk_set_cells b (upd (TBk_cells b) ((p0 * 12) + (f_Bk_sizeOf b p0)).toNatClampNeg p1)) (upd (TBk_sizes b) p0.toNatClampNeg ((f_Bk_sizeOf b p0) + 1))), rfl, he.symm, by rw [ht]; exact hP, va_K.moved hW.alike hK, hD⟩, hS.F ht⟩) hS.2.2 d_Bk_append_79
          · have he := he.trans (if_neg c_6)
            refine lv_bipush (v := (-4)) hx hb d_Bk_append_56 (by decide) ?_
            exact W.iret hx hb hr (v := (-4)) (fun t ht hW => ⟨⟨(-4), b, rfl, he.symm, by rw [ht]; exact hP, va_K.moved hW.alike hK, hD⟩, hS.F ht⟩) hS.2.2 d_Bk_append_58
  · have he := he.trans (if_pos c_2)
    refine lv_sipush (v := 200) hx hb d_Bk_append_12 (by decide) ?_
    refine lv_goto (tgt := 20) hx hb d_Bk_append_15 (by decide) ?_
    refine lv_istore (lv' := [(4, .int 200), (3, .int (f_Bk_sizeOf b p0)), (0, .ref (ad 8)), (1, .int p0), (2, .int p1)]) hx hb d_Bk_append_20 hl (by decide) rfl (fun ls hl => ?_)
    refine lv_iload_n hx hb d_Bk_append_22 rfl (lv_at hl 3 rfl) ?_
    refine lv_bipush (v := 12) hx hb d_Bk_append_23 (by decide) ?_
    refine lv_imul hx hb d_Bk_append_25 ?_
    refine lv_iload_n hx hb d_Bk_append_26 rfl (lv_at hl 1 rfl) ?_
    refine lv_iadd hx hb d_Bk_append_27 ?_
    refine lv_istore (lv' := [(5, .int ((p0 * 12) + (f_Bk_sizeOf b p0))), (4, .int 200), (3, .int (f_Bk_sizeOf b p0)), (0, .ref (ad 8)), (1, .int p0), (2, .int p1)]) hx hb d_Bk_append_28 hl (by decide) rfl (fun ls hl => ?_)
    refine lv_iload_n hx hb d_Bk_append_30 rfl (lv_at hl 4 rfl) ?_
    refine lv_if_lt (tgt := 56) hx hb d_Bk_append_31 (by decide) (fun c_7 => ?_) (fun c_7 => ?_)
    · have he := he.trans (if_pos c_7)
      refine lv_bipush (v := (-4)) hx hb d_Bk_append_56 (by decide) ?_
      exact W.iret hx hb hr (v := (-4)) (fun t ht hW => ⟨⟨(-4), b, rfl, he.symm, by rw [ht]; exact hP, va_K.moved hW.alike hK, hD⟩, hS.F ht⟩) hS.2.2 d_Bk_append_58
    · have he := he.trans (if_neg c_7)
      refine lv_iload_n hx hb d_Bk_append_34 rfl (lv_at hl 4 rfl) ?_
      refine lv_bipush (v := 20) hx hb d_Bk_append_35 (by decide) ?_
      refine lv_icmp_gt (tgt := 56) hx hb d_Bk_append_37 (by decide) (fun c_8 => ?_) (fun c_8 => ?_)
      · have he := he.trans (if_pos c_8)
        refine lv_bipush (v := (-4)) hx hb d_Bk_append_56 (by decide) ?_
        exact W.iret hx hb hr (v := (-4)) (fun t ht hW => ⟨⟨(-4), b, rfl, he.symm, by rw [ht]; exact hP, va_K.moved hW.alike hK, hD⟩, hS.F ht⟩) hS.2.2 d_Bk_append_58
      · have he := he.trans (if_neg c_8)
        refine lv_iload_n hx hb d_Bk_append_40 rfl (lv_at hl 2 rfl) ?_
        refine lv_iload hx hb d_Bk_append_41 (lv_at hl 1 rfl) ?_
        refine lv_icmp_ge (tgt := 56) hx hb d_Bk_append_43 (by decide) (fun c_9 => ?_) (fun c_9 => ?_)
        · have he := he.trans (if_pos c_9)
          refine lv_bipush (v := (-4)) hx hb d_Bk_append_56 (by decide) ?_
          exact W.iret hx hb hr (v := (-4)) (fun t ht hW => ⟨⟨(-4), b, rfl, he.symm, by rw [ht]; exact hP, va_K.moved hW.alike hK, hD⟩, hS.F ht⟩) hS.2.2 d_Bk_append_58
        · have he := he.trans (if_neg c_9)
          refine lv_iload hx hb d_Bk_append_46 (lv_at hl 0 rfl) ?_
          refine lv_aload_n hx hb d_Bk_append_48 rfl (lv_at hl 3 rfl) ?_
          refine va_get (D := (dC, dI)) (ci := 0) (v := .ref (ad 11)) (C := R_Bk) (T := T_Bk) (N := 7) hx hb ht i_Bk hown hK hP 0 rfl rfl 2 (by decide) (ht _ q_65) (fun _ h9 => h9) rfl d_Bk_append_49 ?_
          refine va_alen hx hb hK hP 3 2 rfl rfl (v := 440) rfl d_Bk_append_52 ?_
          refine lv_icmp_lt (tgt := 59) hx hb d_Bk_append_53 (by decide) (fun c_10 => ?_) (fun c_10 => ?_)
          · have he := he.trans (if_pos c_10)
            refine lv_aload_n hx hb d_Bk_append_59 rfl (lv_at hl 3 rfl) ?_
            refine va_get (D := (dC, dI)) (ci := 0) (v := .ref (ad 11)) (C := R_Bk) (T := T_Bk) (N := 7) hx hb ht i_Bk hown hK hP 0 rfl rfl 2 (by decide) (ht _ q_65) (fun _ h9 => h9) rfl d_Bk_append_60 ?_
            refine lv_iload hx hb d_Bk_append_63 (lv_at hl 0 rfl) ?_
            refine lv_iload_n hx hb d_Bk_append_65 rfl (lv_at hl 5 rfl) ?_
            refine va_iast hx hb hK hP hD hS 3 2 rfl rfl (in_append hpre c_7 c_8 c_10) d_Bk_append_66 (fun H locs hP hD hS => ?_)
            have hP : va_P (dC, dI) vwCl (w_B ad ca (TBk_set_cells b (upd (TBk_cells b) ((p0 * 12) + (f_Bk_sizeOf b p0)).toNatClampNeg p1))) H := hP
            have hD : va_D A (w_B ad ca (TBk_set_cells b (upd (TBk_cells b) ((p0 * 12) + (f_Bk_sizeOf b p0)).toNatClampNeg p1))) := hD
            refine lv_aload_n hx hb d_Bk_append_67 rfl (lv_at hl 3 rfl) ?_
            refine va_get (D := (dC, dI)) (ci := 0) (v := .ref (ad 12)) (C := R_Bk) (T := T_Bk) (N := 7) hx hb ht i_Bk hown hK hP 0 rfl rfl 3 (by decide) (ht _ q_66) (fun _ h9 => h9) rfl d_Bk_append_68 ?_
            refine lv_iload_n hx hb d_Bk_append_71 rfl (lv_at hl 4 rfl) ?_
            refine lv_iload_n hx hb d_Bk_append_72 rfl (lv_at hl 2 rfl) ?_
            refine lv_iconst (v := 1) hx hb d_Bk_append_73 (by decide) ?_
            refine lv_iadd hx hb d_Bk_append_74 ?_
            refine va_iast hx hb hK hP hD hS 4 3 rfl rfl (wx_inAW (by decide) c_7 c_8) d_Bk_append_75 (fun H locs hP hD hS => ?_)
            have hP : va_P (dC, dI) vwCl (w_B ad ca (TBk_set_sizes (TBk_set_cells b (upd (TBk_cells b) ((p0 * 12) + (f_Bk_sizeOf b p0)).toNatClampNeg p1)) (upd (TBk_sizes b) p0.toNatClampNeg ((f_Bk_sizeOf b p0) + 1)))) H := hP
            have hD : va_D A (w_B ad ca (TBk_set_sizes (TBk_set_cells b (upd (TBk_cells b) ((p0 * 12) + (f_Bk_sizeOf b p0)).toNatClampNeg p1)) (upd (TBk_sizes b) p0.toNatClampNeg ((f_Bk_sizeOf b p0) + 1)))) := hD
            refine lv_iload_n hx hb d_Bk_append_76 rfl (lv_at hl 2 rfl) ?_
            refine lv_iconst (v := 1) hx hb d_Bk_append_77 (by decide) ?_
            refine lv_iadd hx hb d_Bk_append_78 ?_
            exact W.iret hx hb hr (v := ((f_Bk_sizeOf b p0) + 1)) (fun t ht hW => ⟨⟨((f_Bk_sizeOf b p0) + 1), (TBk_set_sizes (TBk_set_cells b (upd (TBk_cells b) ((p0 * 12) + (f_Bk_sizeOf b p0)).toNatClampNeg p1)) (upd (TBk_sizes b) p0.toNatClampNeg ((f_Bk_sizeOf b p0) + 1))), rfl, he.symm, by rw [ht]; exact hP, va_K.moved hW.alike hK, hD⟩, hS.F ht⟩) hS.2.2 d_Bk_append_79
          · have he := he.trans (if_neg c_10)
            refine lv_bipush (v := (-4)) hx hb d_Bk_append_56 (by decide) ?_
            exact W.iret hx hb hr (v := (-4)) (fun t ht hW => ⟨⟨(-4), b, rfl, he.symm, by rw [ht]; exact hP, va_K.moved hW.alike hK, hD⟩, hS.F ht⟩) hS.2.2 d_Bk_append_58
def f_Bk_tokenIn (b : TBk) (p0 : Int32) (p1 : Int32) : Int32 := (if p0 < 0 then (-1) else (if 21 ≤ p0 then (-1) else (if p1 < 0 then (-1) else (if p1 < ((TBk_sizes b) p0.toNatClampNeg) then (if 440 ≤ ((p0 * 12) + p1) then (-1) else ((TBk_cells b) ((p0 * 12) + p1).toNatClampNeg)) else (-1)))))
set_option maxHeartbeats 4000000 in
set_option maxRecDepth 100000 in
theorem c_Bk_tokenIn (l : Launch) (dC : Nat → ClassId) (dI : Nat → Nat → Nat) (ad : Nat → Nat) (ca : Nat → ClassId) (sz : Nat) (b : TBk) (p0 : Int32) (p1 : Int32) (hpre : BkS b) (F : Int32) (he : F = f_Bk_tokenIn b p0 p1) : wx_Mi l y_Bk_tokenIn ws_Bk_tokenIn ({ frames := 0, cells := 0, slots := 0, locals := 0 } : Room) (dC, dI) vwCl (t_B ca) [.ref (ad 8), .int p0, .int p1] (w_B ad ca b) sz (fun _ : Unit => w_B ad ca b) (fun (r : Int32) (_ : Unit) => r = F) := by
  refine Met.ofW (cc := b_Bk_tokenIn) (maxL := 4) (ret := some .int) (by decide) rfl ?_
  intro p e s m args below meth c s₁ B hml hv
  obtain ⟨rfl, hsz, hP, hK, hD0, hN⟩ := hv
  have hx := B.exec
  have hb := B.bytes
  have hr := B.returns
  have hts := atoms_spec (ws := ws_Bk_tokenIn) B.pre
  have ht : ∀ w ∈ TB, w.before _ s = true := fun w h => hts w (List.mem_cons_of_mem _ h)
  have hown : s.vm.findClass R_Bk = some m.cls := findClass_of_methodNamed B.named
  have hlocks := B.notSynchronized
  subst hsz
  have hD := hD0.self (sz := s.heap.size)
  generalize hAe : va_A (w_B ad ca b) s.heap.size = A at hD ⊢
  have hA : ∀ q : Nat, s.heap.size ≤ q → A q := fun q h => by rw [← hAe]; exact Or.inr h
  have hS : va_S A s.heap s.heap [] := va_S.rf
  have hl := lv_entry ([.ref (ad 8), .int p0, .int p1]) (n := 4) (Nat.le_of_ble_eq_true rfl)
  rw [lg_entry_eq]
  generalize (lg_sl ([.ref (ad 8), .int p0, .int p1]) ++ List.replicate (4 - (lg_sl ([.ref (ad 8), .int p0, .int p1])).length) Slot.unset).toArray = ls at hl ⊢
  have hl : lv_has ls 4 [(0, .ref (ad 8)), (1, .int p0), (2, .int p1)] := hl
  unfold f_Bk_tokenIn at he
  refine lv_iload_n hx hb d_Bk_tokenIn_0 rfl (lv_at hl 1 rfl) ?_
  refine lv_if_lt (tgt := 27) hx hb d_Bk_tokenIn_1 (by decide) (fun c_1 => ?_) (fun c_1 => ?_)
  · have he := he.trans (if_pos c_1)
    refine lv_iconst (v := (-1)) hx hb d_Bk_tokenIn_27 (by decide) ?_
    exact W.iret hx hb hr (v := (-1)) (fun t ht hW => ⟨⟨(-1), (), rfl, he.symm, by rw [ht]; exact hP, va_K.moved hW.alike hK, hD⟩, hS.F ht⟩) hS.2.2 d_Bk_tokenIn_28
  · have he := he.trans (if_neg c_1)
    refine lv_iload_n hx hb d_Bk_tokenIn_4 rfl (lv_at hl 1 rfl) ?_
    refine lv_aload_n hx hb d_Bk_tokenIn_5 rfl (lv_at hl 0 rfl) ?_
    refine va_get (D := (dC, dI)) (ci := 0) (v := .ref (ad 12)) (C := R_Bk) (T := T_Bk) (N := 7) hx hb ht i_Bk hown hK hP 0 rfl rfl 3 (by decide) (ht _ q_66) (fun _ h9 => h9) rfl d_Bk_tokenIn_6 ?_
    refine va_alen hx hb hK hP 4 3 rfl rfl (v := 21) rfl d_Bk_tokenIn_9 ?_
    refine lv_icmp_ge (tgt := 27) hx hb d_Bk_tokenIn_10 (by decide) (fun c_2 => ?_) (fun c_2 => ?_)
    · have he := he.trans (if_pos c_2)
      refine lv_iconst (v := (-1)) hx hb d_Bk_tokenIn_27 (by decide) ?_
      exact W.iret hx hb hr (v := (-1)) (fun t ht hW => ⟨⟨(-1), (), rfl, he.symm, by rw [ht]; exact hP, va_K.moved hW.alike hK, hD⟩, hS.F ht⟩) hS.2.2 d_Bk_tokenIn_28
    · have he := he.trans (if_neg c_2)
      refine lv_iload_n hx hb d_Bk_tokenIn_13 rfl (lv_at hl 2 rfl) ?_
      refine lv_if_lt (tgt := 27) hx hb d_Bk_tokenIn_14 (by decide) (fun c_3 => ?_) (fun c_3 => ?_)
      · have he := he.trans (if_pos c_3)
        refine lv_iconst (v := (-1)) hx hb d_Bk_tokenIn_27 (by decide) ?_
        exact W.iret hx hb hr (v := (-1)) (fun t ht hW => ⟨⟨(-1), (), rfl, he.symm, by rw [ht]; exact hP, va_K.moved hW.alike hK, hD⟩, hS.F ht⟩) hS.2.2 d_Bk_tokenIn_28
      · have he := he.trans (if_neg c_3)
        refine lv_iload_n hx hb d_Bk_tokenIn_17 rfl (lv_at hl 2 rfl) ?_
        refine lv_aload_n hx hb d_Bk_tokenIn_18 rfl (lv_at hl 0 rfl) ?_
        refine va_get (D := (dC, dI)) (ci := 0) (v := .ref (ad 12)) (C := R_Bk) (T := T_Bk) (N := 7) hx hb ht i_Bk hown hK hP 0 rfl rfl 3 (by decide) (ht _ q_66) (fun _ h9 => h9) rfl d_Bk_tokenIn_19 ?_
        refine lv_iload_n hx hb d_Bk_tokenIn_22 rfl (lv_at hl 1 rfl) ?_
        refine va_iald hx hb hK hP 4 3 rfl rfl (wx_inAU (by decide) c_1 c_2) d_Bk_tokenIn_23 ?_
        refine lv_icmp_lt (tgt := 29) hx hb d_Bk_tokenIn_24 (by decide) (fun c_4 => ?_) (fun c_4 => ?_)
        · have he := he.trans (if_pos c_4)
          refine lv_iload_n hx hb d_Bk_tokenIn_29 rfl (lv_at hl 1 rfl) ?_
          refine lv_bipush (v := 12) hx hb d_Bk_tokenIn_30 (by decide) ?_
          refine lv_imul hx hb d_Bk_tokenIn_32 ?_
          refine lv_iload_n hx hb d_Bk_tokenIn_33 rfl (lv_at hl 2 rfl) ?_
          refine lv_iadd hx hb d_Bk_tokenIn_34 ?_
          refine lv_istore_n (lv' := [(3, .int ((p0 * 12) + p1)), (0, .ref (ad 8)), (1, .int p0), (2, .int p1)]) hx hb d_Bk_tokenIn_35 rfl hl (by decide) rfl (fun ls hl => ?_)
          refine lv_iload_n hx hb d_Bk_tokenIn_36 rfl (lv_at hl 0 rfl) ?_
          refine lv_aload_n hx hb d_Bk_tokenIn_37 rfl (lv_at hl 1 rfl) ?_
          refine va_get (D := (dC, dI)) (ci := 0) (v := .ref (ad 11)) (C := R_Bk) (T := T_Bk) (N := 7) hx hb ht i_Bk hown hK hP 0 rfl rfl 2 (by decide) (ht _ q_65) (fun _ h9 => h9) rfl d_Bk_tokenIn_38 ?_
          refine va_alen hx hb hK hP 3 2 rfl rfl (v := 440) rfl d_Bk_tokenIn_41 ?_
          refine lv_icmp_ge (tgt := 54) hx hb d_Bk_tokenIn_42 (by decide) (fun c_5 => ?_) (fun c_5 => ?_)
          · have he := he.trans (if_pos c_5)
            refine lv_iconst (v := (-1)) hx hb d_Bk_tokenIn_54 (by decide) ?_
            exact W.iret hx hb hr (v := (-1)) (fun t ht hW => ⟨⟨(-1), (), rfl, he.symm, by rw [ht]; exact hP, va_K.moved hW.alike hK, hD⟩, hS.F ht⟩) hS.2.2 d_Bk_tokenIn_55
          · have he := he.trans (if_neg c_5)
            refine lv_aload_n hx hb d_Bk_tokenIn_45 rfl (lv_at hl 1 rfl) ?_
            refine va_get (D := (dC, dI)) (ci := 0) (v := .ref (ad 11)) (C := R_Bk) (T := T_Bk) (N := 7) hx hb ht i_Bk hown hK hP 0 rfl rfl 2 (by decide) (ht _ q_65) (fun _ h9 => h9) rfl d_Bk_tokenIn_46 ?_
            refine lv_iload_n hx hb d_Bk_tokenIn_49 rfl (lv_at hl 0 rfl) ?_
            refine va_iald hx hb hK hP 3 2 rfl rfl (in_tokenIn hpre c_1 c_2 c_3 c_4 c_5) d_Bk_tokenIn_50 ?_
            refine lv_goto (tgt := 55) hx hb d_Bk_tokenIn_51 (by decide) ?_
            exact W.iret hx hb hr (v := ((TBk_cells b) ((p0 * 12) + p1).toNatClampNeg)) (fun t ht hW => ⟨⟨((TBk_cells b) ((p0 * 12) + p1).toNatClampNeg), (), rfl, he.symm, by rw [ht]; exact hP, va_K.moved hW.alike hK, hD⟩, hS.F ht⟩) hS.2.2 d_Bk_tokenIn_55
        · have he := he.trans (if_neg c_4)
          refine lv_iconst (v := (-1)) hx hb d_Bk_tokenIn_27 (by decide) ?_
          exact W.iret hx hb hr (v := (-1)) (fun t ht hW => ⟨⟨(-1), (), rfl, he.symm, by rw [ht]; exact hP, va_K.moved hW.alike hK, hD⟩, hS.F ht⟩) hS.2.2 d_Bk_tokenIn_28
def f_Bk_kindOf (b : TBk) (p0 : Int32) : Int32 := (if (f_Ct_isName p0) = 0 then 1 else ((TBk_kinds b) (p0 - 4096).toNatClampNeg))
set_option maxHeartbeats 4000000 in
set_option maxRecDepth 100000 in
theorem c_Bk_kindOf (l : Launch) (dC : Nat → ClassId) (dI : Nat → Nat → Nat) (ad : Nat → Nat) (ca : Nat → ClassId) (sz : Nat) (b : TBk) (p0 : Int32) (F : Int32) (he : F = f_Bk_kindOf b p0) : wx_Mi l y_Bk_kindOf ws_Bk_kindOf ({ frames := 1, cells := 0, slots := 0, locals := 20 } : Room) (dC, dI) vwCl (t_B ca) [.ref (ad 8), .int p0] (w_B ad ca b) sz (fun _ : Unit => w_B ad ca b) (fun (r : Int32) (_ : Unit) => r = F) := by
  refine Met.ofW (cc := b_Bk_kindOf) (maxL := 2) (ret := some .int) (by decide) rfl ?_
  intro p e s m args below meth c s₁ B hml hv
  obtain ⟨rfl, hsz, hP, hK, hD0, hN⟩ := hv
  have hx := B.exec
  have hb := B.bytes
  have hr := B.returns
  have hts := atoms_spec (ws := ws_Bk_kindOf) B.pre
  have ht : ∀ w ∈ TB, w.before _ s = true := fun w h => hts w (List.mem_cons_of_mem _ h)
  have hown : s.vm.findClass R_Bk = some m.cls := findClass_of_methodNamed B.named
  have hlocks := B.notSynchronized
  subst hsz
  have hD := hD0.self (sz := s.heap.size)
  generalize hAe : va_A (w_B ad ca b) s.heap.size = A at hD ⊢
  have hA : ∀ q : Nat, s.heap.size ≤ q → A q := fun q h => by rw [← hAe]; exact Or.inr h
  have hS : va_S A s.heap s.heap [] := va_S.rf
  have hl := lv_entry ([.ref (ad 8), .int p0]) (n := 2) (Nat.le_of_ble_eq_true rfl)
  rw [lg_entry_eq]
  generalize (lg_sl ([.ref (ad 8), .int p0]) ++ List.replicate (2 - (lg_sl ([.ref (ad 8), .int p0])).length) Slot.unset).toArray = ls at hl ⊢
  have hl : lv_has ls 2 [(0, .ref (ad 8)), (1, .int p0)] := hl
  unfold f_Bk_kindOf at he
  refine lv_iload_n hx hb d_Bk_kindOf_0 rfl (lv_at hl 1 rfl) ?_
  refine wx_ci (wS := fun _ : Unit => w_E ad ca) (ws2 := fun _ : Unit => w_B ad ca b) (va_runSN (As := [.int p0]) (rest := []) ⟨hx, hb, hml, hown, ht⟩ (c_Ct_isName l dC dI ad ca s.heap.size p0 _ rfl) ⟨va_cnB 1 ht (tb_in q_211) rfl rfl rfl (hN _ nest_0) (ht _ q_42) p_Ct_isName.2 ⟨show 0 + 1 ≤ 1 by omega, show 8 + (1 + 11) + 0 ≤ 20 by omega⟩, ht _ q_210, trivial⟩ (wx_preS (wc := (w_E ad ca)) hN hK hP hD [] [] rfl (by decide) rfl) rfl rfl hl.1 rfl (lv_room (Nat.le_of_ble_eq_true rfl)) d_Bk_kindOf_1 ⟨Nat.zero_le _, Nat.zero_le _⟩) hP hD hS hA [] [0, 1, 2, 3, 4, 5, 6] [0, 1, 2, 3, 4, 5, 6] rfl rfl (by decide) (by decide) (by decide) (fun _ => rfl) (fun r_1 _ H locs hw hP hD hS => ?_)
  subst hw
  have hP : va_P (dC, dI) vwCl (w_B ad ca b) H := hP
  have hD : va_D A (w_B ad ca b) := hD
  refine lv_if_eq (tgt := 20) hx hb d_Bk_kindOf_4 (by decide) (fun c_2 => ?_) (fun c_2 => ?_)
  · have he := he.trans (if_pos c_2)
    refine lv_iconst (v := 1) hx hb d_Bk_kindOf_20 (by decide) ?_
    exact W.iret hx hb hr (v := 1) (fun t ht hW => ⟨⟨1, (), rfl, he.symm, by rw [ht]; exact hP, va_K.moved hW.alike hK, hD⟩, hS.F ht⟩) hS.2.2 d_Bk_kindOf_21
  · have he := he.trans (if_neg c_2)
    refine lv_aload_n hx hb d_Bk_kindOf_7 rfl (lv_at hl 0 rfl) ?_
    refine va_get (D := (dC, dI)) (ci := 0) (v := .ref (ad 9)) (C := R_Bk) (T := T_Bk) (N := 7) hx hb ht i_Bk hown hK hP 0 rfl rfl 0 (by decide) (ht _ q_63) (fun _ h9 => h9) rfl d_Bk_kindOf_8 ?_
    refine lv_iload_n hx hb d_Bk_kindOf_11 rfl (lv_at hl 1 rfl) ?_
    refine lv_sipush (v := 4096) hx hb d_Bk_kindOf_12 (by decide) ?_
    refine lv_isub hx hb d_Bk_kindOf_15 ?_
    refine va_iald hx hb hK hP 1 0 rfl rfl (in_name c_2) d_Bk_kindOf_16 ?_
    refine lv_goto (tgt := 21) hx hb d_Bk_kindOf_17 (by decide) ?_
    exact W.iret hx hb hr (v := ((TBk_kinds b) (p0 - 4096).toNatClampNeg)) (fun t ht hW => ⟨⟨((TBk_kinds b) (p0 - 4096).toNatClampNeg), (), rfl, he.symm, by rw [ht]; exact hP, va_K.moved hW.alike hK, hD⟩, hS.F ht⟩) hS.2.2 d_Bk_kindOf_21
def f_Bk_valueOf (b : TBk) (p0 : Int32) : Int32 := (if (f_Ct_isName p0) = 0 then p0 else ((TBk_values b) (p0 - 4096).toNatClampNeg))
set_option maxHeartbeats 4000000 in
set_option maxRecDepth 100000 in
theorem c_Bk_valueOf (l : Launch) (dC : Nat → ClassId) (dI : Nat → Nat → Nat) (ad : Nat → Nat) (ca : Nat → ClassId) (sz : Nat) (b : TBk) (p0 : Int32) (F : Int32) (he : F = f_Bk_valueOf b p0) : wx_Mi l y_Bk_valueOf ws_Bk_valueOf ({ frames := 1, cells := 0, slots := 0, locals := 20 } : Room) (dC, dI) vwCl (t_B ca) [.ref (ad 8), .int p0] (w_B ad ca b) sz (fun _ : Unit => w_B ad ca b) (fun (r : Int32) (_ : Unit) => r = F) := by
  refine Met.ofW (cc := b_Bk_valueOf) (maxL := 2) (ret := some .int) (by decide) rfl ?_
  intro p e s m args below meth c s₁ B hml hv
  obtain ⟨rfl, hsz, hP, hK, hD0, hN⟩ := hv
  have hx := B.exec
  have hb := B.bytes
  have hr := B.returns
  have hts := atoms_spec (ws := ws_Bk_valueOf) B.pre
  have ht : ∀ w ∈ TB, w.before _ s = true := fun w h => hts w (List.mem_cons_of_mem _ h)
  have hown : s.vm.findClass R_Bk = some m.cls := findClass_of_methodNamed B.named
  have hlocks := B.notSynchronized
  subst hsz
  have hD := hD0.self (sz := s.heap.size)
  generalize hAe : va_A (w_B ad ca b) s.heap.size = A at hD ⊢
  have hA : ∀ q : Nat, s.heap.size ≤ q → A q := fun q h => by rw [← hAe]; exact Or.inr h
  have hS : va_S A s.heap s.heap [] := va_S.rf
  have hl := lv_entry ([.ref (ad 8), .int p0]) (n := 2) (Nat.le_of_ble_eq_true rfl)
  rw [lg_entry_eq]
  generalize (lg_sl ([.ref (ad 8), .int p0]) ++ List.replicate (2 - (lg_sl ([.ref (ad 8), .int p0])).length) Slot.unset).toArray = ls at hl ⊢
  have hl : lv_has ls 2 [(0, .ref (ad 8)), (1, .int p0)] := hl
  unfold f_Bk_valueOf at he
  refine lv_iload_n hx hb d_Bk_valueOf_0 rfl (lv_at hl 1 rfl) ?_
  refine wx_ci (wS := fun _ : Unit => w_E ad ca) (ws2 := fun _ : Unit => w_B ad ca b) (va_runSN (As := [.int p0]) (rest := []) ⟨hx, hb, hml, hown, ht⟩ (c_Ct_isName l dC dI ad ca s.heap.size p0 _ rfl) ⟨va_cnB 1 ht (tb_in q_211) rfl rfl rfl (hN _ nest_0) (ht _ q_42) p_Ct_isName.2 ⟨show 0 + 1 ≤ 1 by omega, show 8 + (1 + 11) + 0 ≤ 20 by omega⟩, ht _ q_210, trivial⟩ (wx_preS (wc := (w_E ad ca)) hN hK hP hD [] [] rfl (by decide) rfl) rfl rfl hl.1 rfl (lv_room (Nat.le_of_ble_eq_true rfl)) d_Bk_valueOf_1 ⟨Nat.zero_le _, Nat.zero_le _⟩) hP hD hS hA [] [0, 1, 2, 3, 4, 5, 6] [0, 1, 2, 3, 4, 5, 6] rfl rfl (by decide) (by decide) (by decide) (fun _ => rfl) (fun r_1 _ H locs hw hP hD hS => ?_)
  subst hw
  have hP : va_P (dC, dI) vwCl (w_B ad ca b) H := hP
  have hD : va_D A (w_B ad ca b) := hD
  refine lv_if_eq (tgt := 20) hx hb d_Bk_valueOf_4 (by decide) (fun c_2 => ?_) (fun c_2 => ?_)
  · have he := he.trans (if_pos c_2)
    refine lv_iload_n hx hb d_Bk_valueOf_20 rfl (lv_at hl 1 rfl) ?_
    exact W.iret hx hb hr (v := p0) (fun t ht hW => ⟨⟨p0, (), rfl, he.symm, by rw [ht]; exact hP, va_K.moved hW.alike hK, hD⟩, hS.F ht⟩) hS.2.2 d_Bk_valueOf_21
  · have he := he.trans (if_neg c_2)
    refine lv_aload_n hx hb d_Bk_valueOf_7 rfl (lv_at hl 0 rfl) ?_
    refine va_get (D := (dC, dI)) (ci := 0) (v := .ref (ad 10)) (C := R_Bk) (T := T_Bk) (N := 7) hx hb ht i_Bk hown hK hP 0 rfl rfl 1 (by decide) (ht _ q_64) (fun _ h9 => h9) rfl d_Bk_valueOf_8 ?_
    refine lv_iload_n hx hb d_Bk_valueOf_11 rfl (lv_at hl 1 rfl) ?_
    refine lv_sipush (v := 4096) hx hb d_Bk_valueOf_12 (by decide) ?_
    refine lv_isub hx hb d_Bk_valueOf_15 ?_
    refine va_iald hx hb hK hP 2 1 rfl rfl (in_name c_2) d_Bk_valueOf_16 ?_
    refine lv_goto (tgt := 21) hx hb d_Bk_valueOf_17 (by decide) ?_
    exact W.iret hx hb hr (v := ((TBk_values b) (p0 - 4096).toNatClampNeg)) (fun t ht hW => ⟨⟨((TBk_values b) (p0 - 4096).toNatClampNeg), (), rfl, he.symm, by rw [ht]; exact hP, va_K.moved hW.alike hK, hD⟩, hS.F ht⟩) hS.2.2 d_Bk_valueOf_21
def f_Bk_codeOf (b : TBk) (p0 : Int32) : Int32 := (if (f_Bk_kindOf b p0) = 1 then ((f_Bk_valueOf b p0) - (f_Bk_valueOf b p0) / 256 * 256) else 256)
set_option maxHeartbeats 4000000 in
set_option maxRecDepth 100000 in
theorem c_Bk_codeOf (l : Launch) (dC : Nat → ClassId) (dI : Nat → Nat → Nat) (ad : Nat → Nat) (ca : Nat → ClassId) (sz : Nat) (b : TBk) (p0 : Int32) (F : Int32) (he : F = f_Bk_codeOf b p0) : wx_Mi l y_Bk_codeOf ws_Bk_codeOf ({ frames := 2, cells := 0, slots := 0, locals := 41 } : Room) (dC, dI) vwCl (t_B ca) [.ref (ad 8), .int p0] (w_B ad ca b) sz (fun _ : Unit => w_B ad ca b) (fun (r : Int32) (_ : Unit) => r = F) := by
  refine Met.ofW (cc := b_Bk_codeOf) (maxL := 2) (ret := some .int) (by decide) rfl ?_
  intro p e s m args below meth c s₁ B hml hv
  obtain ⟨rfl, hsz, hP, hK, hD0, hN⟩ := hv
  have hx := B.exec
  have hb := B.bytes
  have hr := B.returns
  have hts := atoms_spec (ws := ws_Bk_codeOf) B.pre
  have ht : ∀ w ∈ TB, w.before _ s = true := fun w h => hts w (List.mem_cons_of_mem _ h)
  have hown : s.vm.findClass R_Bk = some m.cls := findClass_of_methodNamed B.named
  have hlocks := B.notSynchronized
  subst hsz
  have hD := hD0.self (sz := s.heap.size)
  generalize hAe : va_A (w_B ad ca b) s.heap.size = A at hD ⊢
  have hA : ∀ q : Nat, s.heap.size ≤ q → A q := fun q h => by rw [← hAe]; exact Or.inr h
  have hS : va_S A s.heap s.heap [] := va_S.rf
  have hl := lv_entry ([.ref (ad 8), .int p0]) (n := 2) (Nat.le_of_ble_eq_true rfl)
  rw [lg_entry_eq]
  generalize (lg_sl ([.ref (ad 8), .int p0]) ++ List.replicate (2 - (lg_sl ([.ref (ad 8), .int p0])).length) Slot.unset).toArray = ls at hl ⊢
  have hl : lv_has ls 2 [(0, .ref (ad 8)), (1, .int p0)] := hl
  unfold f_Bk_codeOf at he
  refine lv_aload_n hx hb d_Bk_codeOf_0 rfl (lv_at hl 0 rfl) ?_
  refine lv_iload_n hx hb d_Bk_codeOf_1 rfl (lv_at hl 1 rfl) ?_
  refine wx_ci (wS := fun _ : Unit => w_B ad ca b) (ws2 := fun _ : Unit => w_B ad ca b) (va_runV (As := [.int p0]) (rest := []) ⟨hx, hb, hml, hown, ht⟩ (c_Bk_kindOf l dC dI ad ca s.heap.size b p0 _ rfl) (cwV 1 ht (tb_V q_320 q_274 q_275 q_43 q_276) rfl rfl rfl p_Bk_kindOf ⟨show 1 + 1 ≤ 2 by omega, show 8 + (2 + 11) + 20 ≤ 41 by omega⟩) (wx_preV (wc := (w_B ad ca b)) hN hK hP hD [0, 1, 2, 3, 4, 5, 6] [0, 1, 2, 3, 4, 5] rfl (by decide) rfl (ci := 0) (q0 := 0) rfl rfl) rfl rfl hl.1 rfl (lv_room (Nat.le_of_ble_eq_true rfl)) d_Bk_codeOf_2 ⟨Nat.zero_le _, Nat.zero_le _⟩) hP hD hS hA [0, 1, 2, 3, 4, 5, 6] [] [0, 1, 2, 3, 4, 5, 6] rfl rfl (by decide) (by decide) (by decide) (fun _ => rfl) (fun r_1 _ H locs hw hP hD hS => ?_)
  subst hw
  have hP : va_P (dC, dI) vwCl (w_B ad ca b) H := hP
  have hD : va_D A (w_B ad ca b) := hD
  refine lv_iconst (v := 1) hx hb d_Bk_codeOf_5 (by decide) ?_
  refine lv_icmp_ne (tgt := 21) hx hb d_Bk_codeOf_6 (by decide) (fun c_2 => ?_) (fun c_2 => ?_)
  · have he := he.trans (if_neg c_2)
    refine lv_sipush (v := 256) hx hb d_Bk_codeOf_21 (by decide) ?_
    exact W.iret hx hb hr (v := 256) (fun t ht hW => ⟨⟨256, (), rfl, he.symm, by rw [ht]; exact hP, va_K.moved hW.alike hK, hD⟩, hS.F ht⟩) hS.2.2 d_Bk_codeOf_24
  · have he := he.trans (if_pos c_2)
    refine lv_aload_n hx hb d_Bk_codeOf_9 rfl (lv_at hl 0 rfl) ?_
    refine lv_iload_n hx hb d_Bk_codeOf_10 rfl (lv_at hl 1 rfl) ?_
    refine wx_ci (wS := fun _ : Unit => w_B ad ca b) (ws2 := fun _ : Unit => w_B ad ca b) (va_runV (As := [.int p0]) (rest := []) ⟨hx, hb, hml, hown, ht⟩ (c_Bk_valueOf l dC dI ad ca H.size b p0 _ rfl) (cwV 1 ht (tb_V q_321 q_282 q_283 q_43 q_284) rfl rfl rfl p_Bk_valueOf ⟨show 1 + 1 ≤ 2 by omega, show 8 + (2 + 11) + 20 ≤ 41 by omega⟩) (wx_preV (wc := (w_B ad ca b)) hN hK hP hD [0, 1, 2, 3, 4, 5, 6] [0, 1, 2, 3, 4, 5] rfl (by decide) rfl (ci := 0) (q0 := 0) rfl rfl) rfl rfl hl.1 rfl (lv_room (Nat.le_of_ble_eq_true rfl)) d_Bk_codeOf_11 ⟨Nat.zero_le _, Nat.zero_le _⟩) hP hD hS hA [0, 1, 2, 3, 4, 5, 6] [] [0, 1, 2, 3, 4, 5, 6] rfl rfl (by decide) (by decide) (by decide) (fun _ => rfl) (fun r_3 _ H locs hw hP hD hS => ?_)
    subst hw
    have hP : va_P (dC, dI) vwCl (w_B ad ca b) H := hP
    have hD : va_D A (w_B ad ca b) := hD
    refine lv_sipush (v := 256) hx hb d_Bk_codeOf_14 (by decide) ?_
    refine lv_irem hx hb d_Bk_codeOf_17 (by decide) ?_
    refine lv_goto (tgt := 24) hx hb d_Bk_codeOf_18 (by decide) ?_
    exact W.iret hx hb hr (v := ((f_Bk_valueOf b p0) - (f_Bk_valueOf b p0) / 256 * 256)) (fun t ht hW => ⟨⟨((f_Bk_valueOf b p0) - (f_Bk_valueOf b p0) / 256 * 256), (), rfl, he.symm, by rw [ht]; exact hP, va_K.moved hW.alike hK, hD⟩, hS.F ht⟩) hS.2.2 d_Bk_codeOf_24
def f_Bk_categoryOf (b : TBk) (p0 : Int32) : Int32 := (if (f_Bk_kindOf b p0) = 1 then ((f_Bk_valueOf b p0) / 256) else 16)
set_option maxHeartbeats 4000000 in
set_option maxRecDepth 100000 in
theorem c_Bk_categoryOf (l : Launch) (dC : Nat → ClassId) (dI : Nat → Nat → Nat) (ad : Nat → Nat) (ca : Nat → ClassId) (sz : Nat) (b : TBk) (p0 : Int32) (F : Int32) (he : F = f_Bk_categoryOf b p0) : wx_Mi l y_Bk_categoryOf ws_Bk_categoryOf ({ frames := 2, cells := 0, slots := 0, locals := 41 } : Room) (dC, dI) vwCl (t_B ca) [.ref (ad 8), .int p0] (w_B ad ca b) sz (fun _ : Unit => w_B ad ca b) (fun (r : Int32) (_ : Unit) => r = F) := by
  refine Met.ofW (cc := b_Bk_categoryOf) (maxL := 2) (ret := some .int) (by decide) rfl ?_
  intro p e s m args below meth c s₁ B hml hv
  obtain ⟨rfl, hsz, hP, hK, hD0, hN⟩ := hv
  have hx := B.exec
  have hb := B.bytes
  have hr := B.returns
  have hts := atoms_spec (ws := ws_Bk_categoryOf) B.pre
  have ht : ∀ w ∈ TB, w.before _ s = true := fun w h => hts w (List.mem_cons_of_mem _ h)
  have hown : s.vm.findClass R_Bk = some m.cls := findClass_of_methodNamed B.named
  have hlocks := B.notSynchronized
  subst hsz
  have hD := hD0.self (sz := s.heap.size)
  generalize hAe : va_A (w_B ad ca b) s.heap.size = A at hD ⊢
  have hA : ∀ q : Nat, s.heap.size ≤ q → A q := fun q h => by rw [← hAe]; exact Or.inr h
  have hS : va_S A s.heap s.heap [] := va_S.rf
  have hl := lv_entry ([.ref (ad 8), .int p0]) (n := 2) (Nat.le_of_ble_eq_true rfl)
  rw [lg_entry_eq]
  generalize (lg_sl ([.ref (ad 8), .int p0]) ++ List.replicate (2 - (lg_sl ([.ref (ad 8), .int p0])).length) Slot.unset).toArray = ls at hl ⊢
  have hl : lv_has ls 2 [(0, .ref (ad 8)), (1, .int p0)] := hl
  unfold f_Bk_categoryOf at he
  refine lv_aload_n hx hb d_Bk_categoryOf_0 rfl (lv_at hl 0 rfl) ?_
  refine lv_iload_n hx hb d_Bk_categoryOf_1 rfl (lv_at hl 1 rfl) ?_
  refine wx_ci (wS := fun _ : Unit => w_B ad ca b) (ws2 := fun _ : Unit => w_B ad ca b) (va_runV (As := [.int p0]) (rest := []) ⟨hx, hb, hml, hown, ht⟩ (c_Bk_kindOf l dC dI ad ca s.heap.size b p0 _ rfl) (cwV 1 ht (tb_V q_320 q_274 q_275 q_43 q_276) rfl rfl rfl p_Bk_kindOf ⟨show 1 + 1 ≤ 2 by omega, show 8 + (2 + 11) + 20 ≤ 41 by omega⟩) (wx_preV (wc := (w_B ad ca b)) hN hK hP hD [0, 1, 2, 3, 4, 5, 6] [0, 1, 2, 3, 4, 5] rfl (by decide) rfl (ci := 0) (q0 := 0) rfl rfl) rfl rfl hl.1 rfl (lv_room (Nat.le_of_ble_eq_true rfl)) d_Bk_categoryOf_2 ⟨Nat.zero_le _, Nat.zero_le _⟩) hP hD hS hA [0, 1, 2, 3, 4, 5, 6] [] [0, 1, 2, 3, 4, 5, 6] rfl rfl (by decide) (by decide) (by decide) (fun _ => rfl) (fun r_1 _ H locs hw hP hD hS => ?_)
  subst hw
  have hP : va_P (dC, dI) vwCl (w_B ad ca b) H := hP
  have hD : va_D A (w_B ad ca b) := hD
  refine lv_iconst (v := 1) hx hb d_Bk_categoryOf_5 (by decide) ?_
  refine lv_icmp_ne (tgt := 21) hx hb d_Bk_categoryOf_6 (by decide) (fun c_2 => ?_) (fun c_2 => ?_)
  · have he := he.trans (if_neg c_2)
    refine lv_bipush (v := 16) hx hb d_Bk_categoryOf_21 (by decide) ?_
    exact W.iret hx hb hr (v := 16) (fun t ht hW => ⟨⟨16, (), rfl, he.symm, by rw [ht]; exact hP, va_K.moved hW.alike hK, hD⟩, hS.F ht⟩) hS.2.2 d_Bk_categoryOf_23
  · have he := he.trans (if_pos c_2)
    refine lv_aload_n hx hb d_Bk_categoryOf_9 rfl (lv_at hl 0 rfl) ?_
    refine lv_iload_n hx hb d_Bk_categoryOf_10 rfl (lv_at hl 1 rfl) ?_
    refine wx_ci (wS := fun _ : Unit => w_B ad ca b) (ws2 := fun _ : Unit => w_B ad ca b) (va_runV (As := [.int p0]) (rest := []) ⟨hx, hb, hml, hown, ht⟩ (c_Bk_valueOf l dC dI ad ca H.size b p0 _ rfl) (cwV 1 ht (tb_V q_321 q_282 q_283 q_43 q_284) rfl rfl rfl p_Bk_valueOf ⟨show 1 + 1 ≤ 2 by omega, show 8 + (2 + 11) + 20 ≤ 41 by omega⟩) (wx_preV (wc := (w_B ad ca b)) hN hK hP hD [0, 1, 2, 3, 4, 5, 6] [0, 1, 2, 3, 4, 5] rfl (by decide) rfl (ci := 0) (q0 := 0) rfl rfl) rfl rfl hl.1 rfl (lv_room (Nat.le_of_ble_eq_true rfl)) d_Bk_categoryOf_11 ⟨Nat.zero_le _, Nat.zero_le _⟩) hP hD hS hA [0, 1, 2, 3, 4, 5, 6] [] [0, 1, 2, 3, 4, 5, 6] rfl rfl (by decide) (by decide) (by decide) (fun _ => rfl) (fun r_3 _ H locs hw hP hD hS => ?_)
    subst hw
    have hP : va_P (dC, dI) vwCl (w_B ad ca b) H := hP
    have hD : va_D A (w_B ad ca b) := hD
    refine lv_sipush (v := 256) hx hb d_Bk_categoryOf_14 (by decide) ?_
    refine lv_idiv hx hb d_Bk_categoryOf_17 (by decide) ?_
    refine lv_goto (tgt := 23) hx hb d_Bk_categoryOf_18 (by decide) ?_
    exact W.iret hx hb hr (v := ((f_Bk_valueOf b p0) / 256)) (fun t ht hW => ⟨⟨((f_Bk_valueOf b p0) / 256), (), rfl, he.symm, by rw [ht]; exact hP, va_K.moved hW.alike hK, hD⟩, hS.F ht⟩) hS.2.2 d_Bk_categoryOf_23
def f_Bk_tokensOfBodies_4 : Nat → TBk → Int32 → Int32 → Int32
  | 0, _, _, _ => 0
  | n + 1, b, x1, x2 => (if 20 ≤ x2 then x1 else (f_Bk_tokensOfBodies_4 n b (x1 + ((TBk_sizes b) x2.toNatClampNeg)) (x2 + 1)))
set_option maxHeartbeats 4000000 in
set_option maxRecDepth 100000 in
theorem k_Bk_tokensOfBodies_4 {p : Program} {e : Env} {s : State} {m : MethodId} {args : Array Value} {below : List Frame} {meth : Method} {c : Code} {A : Nat → Prop} (l : Launch) (dC : Nat → ClassId) (dI : Nat → Nat → Nat) (ad : Nat → Nat) (ca : Nat → ClassId) (C0 : wx_C p s m args meth c b_Bk_tokensOfBodies (some .int) 3 R_Bk A (dC, dI) vwCl (t_B ca)) (F : Int32) : ∀ (n : Nat) (b : TBk) (x1 : Int32) (x2 : Int32), (TLn 20 x2 n) → F = f_Bk_tokensOfBodies_4 n b x1 x2 → ∀ (H : Heap) (locs : List Loc), va_P (dC, dI) vwCl (w_B ad ca b) H → va_D A (w_B ad ca b) → va_S A s.heap H locs → ∀ (ls : Array Slot), lv_has ls 3 [(0, .ref (ad 8)), (1, .int x1), (2, .int x2)] → W p l e ({ frames := 0, cells := 0, slots := 0, locals := 0 } : Room) s m args below meth c H locs 0 0 (MQ below (va_Qi (fun (r : Int32) (_ : Unit) => r = F) (wx_B (dC, dI) vwCl (t_B ca) (fun _ : Unit => w_B ad ca b) A) A) args s 0 0 A) (F0 m 4 ls []) := by
  have C1 := C0
  obtain ⟨hx, hb, hr, hml, hown, ht, hlocks, hA, hK, hN⟩ := C1
  intro n
  induction n with
  | zero =>
    intro b x1 x2 hc he
    exact absurd hc (fun h => TLn_0 h)
  | succ n ih =>
    intro b x1 x2 hc he H locs hP hD hS ls hl
    rw [f_Bk_tokensOfBodies_4] at he
    refine lv_iload_n hx hb d_Bk_tokensOfBodies_4 rfl (lv_at hl 2 rfl) ?_
    refine lv_bipush (v := 20) hx hb d_Bk_tokensOfBodies_5 (by decide) ?_
    refine lv_icmp_ge (tgt := 25) hx hb d_Bk_tokensOfBodies_7 (by decide) (fun c_1 => ?_) (fun c_1 => ?_)
    · have he := he.trans (if_pos c_1)
      refine lv_iload_n hx hb d_Bk_tokensOfBodies_25 rfl (lv_at hl 1 rfl) ?_
      exact W.iret hx hb hr (v := x1) (fun t ht hW => ⟨⟨x1, (), rfl, he.symm, by rw [ht]; exact hP, va_K.moved hW.alike hK, hD⟩, hS.F ht⟩) hS.2.2 d_Bk_tokensOfBodies_26
    · have he := he.trans (if_neg c_1)
      refine lv_iload_n hx hb d_Bk_tokensOfBodies_10 rfl (lv_at hl 1 rfl) ?_
      refine lv_aload_n hx hb d_Bk_tokensOfBodies_11 rfl (lv_at hl 0 rfl) ?_
      refine va_get (D := (dC, dI)) (ci := 0) (v := .ref (ad 12)) (C := R_Bk) (T := T_Bk) (N := 7) hx hb ht i_Bk hown hK hP 0 rfl rfl 3 (by decide) (ht _ q_66) (fun _ h9 => h9) rfl d_Bk_tokensOfBodies_12 ?_
      refine lv_iload_n hx hb d_Bk_tokensOfBodies_15 rfl (lv_at hl 2 rfl) ?_
      refine va_iald hx hb hK hP 4 3 rfl rfl (wx_tl hc (by decide) c_1) d_Bk_tokensOfBodies_16 ?_
      refine lv_iadd hx hb d_Bk_tokensOfBodies_17 ?_
      refine lv_istore_n (lv' := [(1, .int (x1 + ((TBk_sizes b) x2.toNatClampNeg))), (0, .ref (ad 8)), (2, .int x2)]) hx hb d_Bk_tokensOfBodies_18 rfl hl (by decide) rfl (fun ls hl => ?_)
      refine lv_iinc (v := (x2 + 1)) (lv' := [(2, .int (x2 + 1)), (1, .int (x1 + ((TBk_sizes b) x2.toNatClampNeg))), (0, .ref (ad 8))]) hx hb d_Bk_tokensOfBodies_19 hl (k := 2) rfl rfl (by decide) rfl (fun ls hl => ?_)
      refine lv_goto (tgt := 4) hx hb d_Bk_tokensOfBodies_22 (by decide) ?_
      exact ih b (x1 + ((TBk_sizes b) x2.toNatClampNeg)) (x2 + 1) (TLn_s hc (by decide) c_1) he _ _ hP hD hS _ (lv_sub hl [2, 1, 0] rfl)
def f_Bk_tokensOfBodies (b : TBk) : Int32 := (f_Bk_tokensOfBodies_4 21 b 0 0)
set_option maxHeartbeats 4000000 in
set_option maxRecDepth 100000 in
theorem c_Bk_tokensOfBodies (l : Launch) (dC : Nat → ClassId) (dI : Nat → Nat → Nat) (ad : Nat → Nat) (ca : Nat → ClassId) (sz : Nat) (b : TBk) (F : Int32) (he : F = f_Bk_tokensOfBodies b) : wx_Mi l y_Bk_tokensOfBodies ws_Bk_tokensOfBodies ({ frames := 0, cells := 0, slots := 0, locals := 0 } : Room) (dC, dI) vwCl (t_B ca) [.ref (ad 8)] (w_B ad ca b) sz (fun _ : Unit => w_B ad ca b) (fun (r : Int32) (_ : Unit) => r = F) := by
  refine Met.ofW (cc := b_Bk_tokensOfBodies) (maxL := 3) (ret := some .int) (by decide) rfl ?_
  intro p e s m args below meth c s₁ B hml hv
  obtain ⟨rfl, hsz, hP, hK, hD0, hN⟩ := hv
  have hx := B.exec
  have hb := B.bytes
  have hr := B.returns
  have hts := atoms_spec (ws := ws_Bk_tokensOfBodies) B.pre
  have ht : ∀ w ∈ TB, w.before _ s = true := fun w h => hts w (List.mem_cons_of_mem _ h)
  have hown : s.vm.findClass R_Bk = some m.cls := findClass_of_methodNamed B.named
  have hlocks := B.notSynchronized
  subst hsz
  have hD := hD0.self (sz := s.heap.size)
  generalize hAe : va_A (w_B ad ca b) s.heap.size = A at hD ⊢
  have hA : ∀ q : Nat, s.heap.size ≤ q → A q := fun q h => by rw [← hAe]; exact Or.inr h
  have hS : va_S A s.heap s.heap [] := va_S.rf
  have C0 : wx_C p s m ([.ref (ad 8)] : List Value).toArray meth c b_Bk_tokensOfBodies (some .int) 3 R_Bk A (dC, dI) vwCl (t_B ca) := ⟨hx, hb, hr, hml, hown, ht, hlocks, hA, hK, hN⟩
  have hl := lv_entry ([.ref (ad 8)]) (n := 3) (Nat.le_of_ble_eq_true rfl)
  rw [lg_entry_eq]
  generalize (lg_sl ([.ref (ad 8)]) ++ List.replicate (3 - (lg_sl ([.ref (ad 8)])).length) Slot.unset).toArray = ls at hl ⊢
  have hl : lv_has ls 3 [(0, .ref (ad 8))] := hl
  unfold f_Bk_tokensOfBodies at he
  refine lv_iconst (v := 0) hx hb d_Bk_tokensOfBodies_0 (by decide) ?_
  refine lv_istore_n (lv' := [(1, .int 0), (0, .ref (ad 8))]) hx hb d_Bk_tokensOfBodies_1 rfl hl (by decide) rfl (fun ls hl => ?_)
  refine lv_iconst (v := 0) hx hb d_Bk_tokensOfBodies_2 (by decide) ?_
  refine lv_istore_n (lv' := [(2, .int 0), (1, .int 0), (0, .ref (ad 8))]) hx hb d_Bk_tokensOfBodies_3 rfl hl (by decide) rfl (fun ls hl => ?_)
  exact k_Bk_tokensOfBodies_4 l dC dI ad ca C0 F 21 b 0 0 (TLn_i (by omega) (by omega)) he _ _ hP hD hS _ (lv_sub hl [2, 1, 0] rfl)
