theorem q_0 : Cond.selects R_Rn y_Rn_forget y_Rn_forget ∈ TB := tq 0 (by decide +kernel) rfl
theorem q_21 : Cond.selects R_Rn y_Rn_putOut y_Rn_putOut ∈ TB := tq 21 (by decide +kernel) rfl
theorem q_123 : Cond.methodLink R_Rn 38 y_Rn_forget ∈ TB := tq 123 (by decide +kernel) rfl
theorem q_125 : Cond.instanceMethod y_Rn_forget ∈ TB := tq 125 (by decide +kernel) rfl
theorem q_126 : Cond.code y_Rn_forget b_Rn_forget 1 (none : Option Jvm.ClassFile.FieldType) ∈ TB := tq 126 (by decide +kernel) rfl
theorem q_243 : Cond.methodLink R_Ct 62 y_Rn_goThroughInput ∈ TB := tq 243 (by decide +kernel) rfl
theorem q_244 : Cond.instanceMethod y_Rn_goThroughInput ∈ TB := tq 244 (by decide +kernel) rfl
theorem q_245 : Cond.selects R_Rn y_Rn_goThroughInput y_Rn_goThroughInput ∈ TB := tq 245 (by decide +kernel) rfl
theorem q_246 : Cond.code y_Rn_goThroughInput b_Rn_goThroughInput 3 (some .int) ∈ TB := tq 246 (by decide +kernel) rfl
theorem q_247 : Cond.methodLink R_Rn 41 y_Rd_restart ∈ TB := tq 247 (by decide +kernel) rfl
theorem q_248 : Cond.instanceMethod y_Rd_restart ∈ TB := tq 248 (by decide +kernel) rfl
theorem q_249 : Cond.selects R_Rd y_Rd_restart y_Rd_restart ∈ TB := tq 249 (by decide +kernel) rfl
theorem q_250 : Cond.code y_Rd_restart b_Rd_restart 1 (none : Option Jvm.ClassFile.FieldType) ∈ TB := tq 250 (by decide +kernel) rfl
theorem q_393 : Cond.methodLink R_Rn 61 y_Rn_putOut ∈ TB := tq 393 (by decide +kernel) rfl
theorem q_395 : Cond.instanceMethod y_Rn_putOut ∈ TB := tq 395 (by decide +kernel) rfl
theorem q_396 : Cond.code y_Rn_putOut b_Rn_putOut 2 (none : Option Jvm.ClassFile.FieldType) ∈ TB := tq 396 (by decide +kernel) rfl
theorem d_Rn_goThroughInput_0 : decode b_Rn_goThroughInput 0 = .ok (.aload_n 0, 1) := by decide +kernel
theorem d_Rn_goThroughInput_1 : decode b_Rn_goThroughInput 1 = .ok (.invokevirtual 38, 3) := by decide +kernel
theorem d_Rn_goThroughInput_4 : decode b_Rn_goThroughInput 4 = .ok (.aload_n 0, 1) := by decide +kernel
theorem d_Rn_goThroughInput_5 : decode b_Rn_goThroughInput 5 = .ok (.getfield 34, 3) := by decide +kernel
theorem d_Rn_goThroughInput_8 : decode b_Rn_goThroughInput 8 = .ok (.invokevirtual 41, 3) := by decide +kernel
theorem d_Rn_goThroughInput_11 : decode b_Rn_goThroughInput 11 = .ok (.iconst 0, 1) := by decide +kernel
theorem d_Rn_goThroughInput_12 : decode b_Rn_goThroughInput 12 = .ok (.istore_n 1, 1) := by decide +kernel
theorem d_Rn_goThroughInput_13 : decode b_Rn_goThroughInput 13 = .ok (.iload_n 1, 1) := by decide +kernel
theorem d_Rn_goThroughInput_14 : decode b_Rn_goThroughInput 14 = .ok (.ldc 44, 2) := by decide +kernel
theorem d_Rn_goThroughInput_16 : decode b_Rn_goThroughInput 16 = .ok (.if_icmp .ge 61, 3) := by decide +kernel
theorem d_Rn_goThroughInput_19 : decode b_Rn_goThroughInput 19 = .ok (.aload_n 0, 1) := by decide +kernel
theorem d_Rn_goThroughInput_20 : decode b_Rn_goThroughInput 20 = .ok (.getfield 45, 3) := by decide +kernel
theorem d_Rn_goThroughInput_23 : decode b_Rn_goThroughInput 23 = .ok (.ifCond .ne 54, 3) := by decide +kernel
theorem d_Rn_goThroughInput_26 : decode b_Rn_goThroughInput 26 = .ok (.aload_n 0, 1) := by decide +kernel
theorem d_Rn_goThroughInput_27 : decode b_Rn_goThroughInput 27 = .ok (.getfield 34, 3) := by decide +kernel
theorem d_Rn_goThroughInput_30 : decode b_Rn_goThroughInput 30 = .ok (.invokevirtual 49, 3) := by decide +kernel
theorem d_Rn_goThroughInput_33 : decode b_Rn_goThroughInput 33 = .ok (.istore_n 2, 1) := by decide +kernel
theorem d_Rn_goThroughInput_34 : decode b_Rn_goThroughInput 34 = .ok (.iload_n 2, 1) := by decide +kernel
theorem d_Rn_goThroughInput_35 : decode b_Rn_goThroughInput 35 = .ok (.iconst (-1), 1) := by decide +kernel
theorem d_Rn_goThroughInput_36 : decode b_Rn_goThroughInput 36 = .ok (.if_icmp .ne 6, 3) := by decide +kernel
theorem d_Rn_goThroughInput_39 : decode b_Rn_goThroughInput 39 = .ok (.goto 38, 3) := by decide +kernel
theorem d_Rn_goThroughInput_42 : decode b_Rn_goThroughInput 42 = .ok (.iload_n 2, 1) := by decide +kernel
theorem d_Rn_goThroughInput_43 : decode b_Rn_goThroughInput 43 = .ok (.bipush (-2), 2) := by decide +kernel
theorem d_Rn_goThroughInput_45 : decode b_Rn_goThroughInput 45 = .ok (.if_icmp .ne 12, 3) := by decide +kernel
theorem d_Rn_goThroughInput_48 : decode b_Rn_goThroughInput 48 = .ok (.aload_n 0, 1) := by decide +kernel
theorem d_Rn_goThroughInput_49 : decode b_Rn_goThroughInput 49 = .ok (.bipush 9, 2) := by decide +kernel
theorem d_Rn_goThroughInput_51 : decode b_Rn_goThroughInput 51 = .ok (.invokevirtual 53, 3) := by decide +kernel
theorem d_Rn_goThroughInput_54 : decode b_Rn_goThroughInput 54 = .ok (.goto 17, 3) := by decide +kernel
theorem d_Rn_goThroughInput_57 : decode b_Rn_goThroughInput 57 = .ok (.aload_n 0, 1) := by decide +kernel
theorem d_Rn_goThroughInput_58 : decode b_Rn_goThroughInput 58 = .ok (.iload_n 2, 1) := by decide +kernel
theorem d_Rn_goThroughInput_59 : decode b_Rn_goThroughInput 59 = .ok (.iconst 0, 1) := by decide +kernel
theorem d_Rn_goThroughInput_60 : decode b_Rn_goThroughInput 60 = .ok (.invokevirtual 57, 3) := by decide +kernel
theorem d_Rn_goThroughInput_63 : decode b_Rn_goThroughInput 63 = .ok (.ifCond .ne 8, 3) := by decide +kernel
theorem d_Rn_goThroughInput_66 : decode b_Rn_goThroughInput 66 = .ok (.aload_n 0, 1) := by decide +kernel
theorem d_Rn_goThroughInput_67 : decode b_Rn_goThroughInput 67 = .ok (.iload_n 2, 1) := by decide +kernel
theorem d_Rn_goThroughInput_68 : decode b_Rn_goThroughInput 68 = .ok (.invokevirtual 61, 3) := by decide +kernel
theorem d_Rn_goThroughInput_71 : decode b_Rn_goThroughInput 71 = .ok (.iinc 1 1, 3) := by decide +kernel
theorem d_Rn_goThroughInput_74 : decode b_Rn_goThroughInput 74 = .ok (.goto (-61), 3) := by decide +kernel
theorem d_Rn_goThroughInput_77 : decode b_Rn_goThroughInput 77 = .ok (.aload_n 0, 1) := by decide +kernel
theorem d_Rn_goThroughInput_78 : decode b_Rn_goThroughInput 78 = .ok (.getfield 45, 3) := by decide +kernel
theorem d_Rn_goThroughInput_81 : decode b_Rn_goThroughInput 81 = .ok (.ifCond .ne 15, 3) := by decide +kernel
theorem d_Rn_goThroughInput_84 : decode b_Rn_goThroughInput 84 = .ok (.aload_n 0, 1) := by decide +kernel
theorem d_Rn_goThroughInput_85 : decode b_Rn_goThroughInput 85 = .ok (.getfield 64, 3) := by decide +kernel
theorem d_Rn_goThroughInput_88 : decode b_Rn_goThroughInput 88 = .ok (.ifCond .le 8, 3) := by decide +kernel
theorem d_Rn_goThroughInput_91 : decode b_Rn_goThroughInput 91 = .ok (.aload_n 0, 1) := by decide +kernel
theorem d_Rn_goThroughInput_92 : decode b_Rn_goThroughInput 92 = .ok (.iconst 1, 1) := by decide +kernel
theorem d_Rn_goThroughInput_93 : decode b_Rn_goThroughInput 93 = .ok (.invokevirtual 53, 3) := by decide +kernel
theorem d_Rn_goThroughInput_96 : decode b_Rn_goThroughInput 96 = .ok (.aload_n 0, 1) := by decide +kernel
theorem d_Rn_goThroughInput_97 : decode b_Rn_goThroughInput 97 = .ok (.getfield 45, 3) := by decide +kernel
theorem d_Rn_goThroughInput_100 : decode b_Rn_goThroughInput 100 = .ok (.ifCond .ne 10, 3) := by decide +kernel
theorem d_Rn_goThroughInput_103 : decode b_Rn_goThroughInput 103 = .ok (.aload_n 0, 1) := by decide +kernel
theorem d_Rn_goThroughInput_104 : decode b_Rn_goThroughInput 104 = .ok (.getfield 67, 3) := by decide +kernel
theorem d_Rn_goThroughInput_107 : decode b_Rn_goThroughInput 107 = .ok (.goto 8, 3) := by decide +kernel
theorem d_Rn_goThroughInput_110 : decode b_Rn_goThroughInput 110 = .ok (.aload_n 0, 1) := by decide +kernel
theorem d_Rn_goThroughInput_111 : decode b_Rn_goThroughInput 111 = .ok (.getfield 45, 3) := by decide +kernel
theorem d_Rn_goThroughInput_114 : decode b_Rn_goThroughInput 114 = .ok (.ineg, 1) := by decide +kernel
theorem d_Rn_goThroughInput_115 : decode b_Rn_goThroughInput 115 = .ok (.ireturn, 1) := by decide +kernel
theorem d_Ct_run_0 : decode b_Ct_run 0 = .ok (.aload_n 0, 1) := by decide +kernel
theorem d_Ct_run_1 : decode b_Ct_run 1 = .ok (.getfield 21, 3) := by decide +kernel
theorem d_Ct_run_4 : decode b_Ct_run 4 = .ok (.invokevirtual 62, 3) := by decide +kernel
theorem d_Ct_run_7 : decode b_Ct_run 7 = .ok (.ireturn, 1) := by decide +kernel
noncomputable def f_Rn_goThroughInput_77 (op : TBk → TRn → Int32 → TRn) (b : TBk) (u : TRn) : (Int32 × TRn) := (if (TRn_fault u) = 0 then (if (TRn_openCount u) ≤ 0 then ((TRn_outSize u), u) else (let v_5 := f_Rn_fail b u 1; (if (TRn_fault v_5) = 0 then ((TRn_outSize v_5), v_5) else ((-(TRn_fault v_5)), v_5)))) else ((-(TRn_fault u)), u))
set_option maxHeartbeats 4000000 in
set_option maxRecDepth 100000 in
theorem k_Rn_goThroughInput_77 {p : Program} {e : Env} {s : State} {m : MethodId} {args : Array Value} {below : List Frame} {meth : Method} {c : Code} {A : Nat → Prop} (l : Launch) (dC : Nat → ClassId) (dI : Nat → Nat → Nat) (ad : Nat → Nat) (ca : Nat → ClassId) (op : TBk → TRn → Int32 → TRn) (rf rl : Nat) (k : Int) (hopm : ∀ (b : TBk) (u : TRn) (w : Int32), k ≤ oc u → oc u ≤ oc (op b u w)) (hop : ∀ (sz : Nat) (b : TBk) (u : TRn) (w : Int32), BkS b ∧ k ≤ oc u → wx_Mv l y_Rn_open ws_Rn_open ({ frames := rf, cells := 0, slots := 0, locals := rl } : Room) (dC, dI) vwCl (t_R ca) [.ref (ad 0), .int w] (w_R ad ca b u) sz (fun v : TRn => w_R ad ca b v) (fun v : TRn => v = op b u w)) (C0 : wx_C p s m args meth c b_Rn_goThroughInput (some .int) 3 R_Rn A (dC, dI) vwCl (t_R ca)) (F : (Int32 × TRn)) : ∀ (b : TBk) (u : TRn), (BkS b ∧ k ≤ 0) → F = f_Rn_goThroughInput_77 op b u → ∀ (H : Heap) (locs : List Loc), va_P (dC, dI) vwCl (w_R ad ca b u) H → va_D A (w_R ad ca b u) → va_S A s.heap H locs → ∀ (ls : Array Slot), lv_has ls 3 [(0, .ref (ad 0))] → W p l e ({ frames := rf + 6, cells := 0, slots := 0, locals := rl + 136 } : Room) s m args below meth c H locs 0 0 (MQ below (va_Qi (fun (r : Int32) (v : TRn) => (r, v) = F) (wx_B (dC, dI) vwCl (t_R ca) (fun v : TRn => w_R ad ca b v) A) A) args s 0 0 A) (F0 m 77 ls []) := by
  have C1 := C0
  obtain ⟨hx, hb, hr, hml, hown, ht, hlocks, hA, hK, hN⟩ := C1
  intro b u hpre he H locs hP hD hS ls hl
  unfold f_Rn_goThroughInput_77 at he
  refine lv_aload_n hx hb d_Rn_goThroughInput_77 rfl (lv_at hl 0 rfl) ?_
  refine va_get (D := (dC, dI)) (ci := 2) (v := .int (TRn_fault u)) (C := R_Rn) (T := T_Rn) (N := 12) hx hb ht i_Rn hown hK hP 0 rfl rfl 11 (by decide) (ht _ q_141) (fun _ h9 => h9) rfl d_Rn_goThroughInput_78 ?_
  refine lv_if_ne (tgt := 96) hx hb d_Rn_goThroughInput_81 (by decide) (fun c_1 => ?_) (fun c_1 => ?_)
  · have he := he.trans (if_neg c_1)
    refine lv_aload_n hx hb d_Rn_goThroughInput_96 rfl (lv_at hl 0 rfl) ?_
    refine va_get (D := (dC, dI)) (ci := 2) (v := .int (TRn_fault u)) (C := R_Rn) (T := T_Rn) (N := 12) hx hb ht i_Rn hown hK hP 0 rfl rfl 11 (by decide) (ht _ q_141) (fun _ h9 => h9) rfl d_Rn_goThroughInput_97 ?_
    refine lv_if_ne (tgt := 110) hx hb d_Rn_goThroughInput_100 (by decide) (fun c_2 => ?_) (fun c_2 => ?_)
    · refine lv_aload_n hx hb d_Rn_goThroughInput_110 rfl (lv_at hl 0 rfl) ?_
      refine va_get (D := (dC, dI)) (ci := 2) (v := .int (TRn_fault u)) (C := R_Rn) (T := T_Rn) (N := 12) hx hb ht i_Rn hown hK hP 0 rfl rfl 11 (by decide) (ht _ q_141) (fun _ h9 => h9) rfl d_Rn_goThroughInput_111 ?_
      refine lv_ineg hx hb d_Rn_goThroughInput_114 ?_
      exact W.iret hx hb hr (v := (-(TRn_fault u))) (fun t ht hW => ⟨⟨(-(TRn_fault u)), u, rfl, he.symm, by rw [ht]; exact hP, va_K.moved hW.alike hK, hD⟩, hS.F ht⟩) hS.2.2 d_Rn_goThroughInput_115
    · exact absurd c_2 c_1
  · have he := he.trans (if_pos c_1)
    refine lv_aload_n hx hb d_Rn_goThroughInput_84 rfl (lv_at hl 0 rfl) ?_
    refine va_get (D := (dC, dI)) (ci := 2) (v := .int (TRn_openCount u)) (C := R_Rn) (T := T_Rn) (N := 12) hx hb ht i_Rn hown hK hP 0 rfl rfl 7 (by decide) (ht _ q_137) (fun _ h9 => h9) rfl d_Rn_goThroughInput_85 ?_
    refine lv_if_le (tgt := 96) hx hb d_Rn_goThroughInput_88 (by decide) (fun c_3 => ?_) (fun c_3 => ?_)
    · have he := he.trans (if_pos c_3)
      refine lv_aload_n hx hb d_Rn_goThroughInput_96 rfl (lv_at hl 0 rfl) ?_
      refine va_get (D := (dC, dI)) (ci := 2) (v := .int (TRn_fault u)) (C := R_Rn) (T := T_Rn) (N := 12) hx hb ht i_Rn hown hK hP 0 rfl rfl 11 (by decide) (ht _ q_141) (fun _ h9 => h9) rfl d_Rn_goThroughInput_97 ?_
      refine lv_if_ne (tgt := 110) hx hb d_Rn_goThroughInput_100 (by decide) (fun c_4 => ?_) (fun c_4 => ?_)
      · exact absurd c_1 c_4
      · refine lv_aload_n hx hb d_Rn_goThroughInput_103 rfl (lv_at hl 0 rfl) ?_
        refine va_get (D := (dC, dI)) (ci := 2) (v := .int (TRn_outSize u)) (C := R_Rn) (T := T_Rn) (N := 12) hx hb ht i_Rn hown hK hP 0 rfl rfl 6 (by decide) (ht _ q_136) (fun _ h9 => h9) rfl d_Rn_goThroughInput_104 ?_
        refine lv_goto (tgt := 115) hx hb d_Rn_goThroughInput_107 (by decide) ?_
        exact W.iret hx hb hr (v := (TRn_outSize u)) (fun t ht hW => ⟨⟨(TRn_outSize u), u, rfl, he.symm, by rw [ht]; exact hP, va_K.moved hW.alike hK, hD⟩, hS.F ht⟩) hS.2.2 d_Rn_goThroughInput_115
    · have he := he.trans (if_neg c_3)
      refine lv_aload_n hx hb d_Rn_goThroughInput_91 rfl (lv_at hl 0 rfl) ?_
      refine lv_iconst (v := 1) hx hb d_Rn_goThroughInput_92 (by decide) ?_
      refine wx_cv (wS := fun v : TRn => w_R ad ca b v) (ws2 := fun v : TRn => w_R ad ca b v) (va_runV (As := [.int 1]) (rest := []) ⟨hx, hb, hml, hown, ht⟩ (c_Rn_fail l dC dI ad ca H.size b u 1 _ rfl) (cwV 1 ht (tb_V q_265 q_267 q_1 q_44 q_268) rfl rfl rfl p_Rn_fail ⟨show 0 + 1 ≤ rf + 6 by omega, show 8 + (2 + 11) + 0 ≤ rl + 136 by omega⟩) (wx_preV (wc := (w_R ad ca b u)) hN hK hP hD [0, 1, 2, 3, 4, 5, 6, 7, 8, 9, 10, 11, 12, 13, 14] [0, 1, 2, 3, 4, 5, 6, 7, 8, 9, 10, 11] rfl (by decide) rfl (ci := 2) (q0 := 0) rfl rfl) rfl rfl hl.1 rfl (lv_room (Nat.le_of_ble_eq_true rfl)) d_Rn_goThroughInput_93 ⟨Nat.zero_le _, Nat.zero_le _⟩) hP hD hS hA [0, 1, 2, 3, 4, 5, 6, 7, 8, 9, 10, 11, 12, 13, 14] [] [0, 1, 2, 3, 4, 5, 6, 7, 8, 9, 10, 11, 12, 13, 14] rfl rfl (by decide) (by decide) (by decide) (fun _ => rfl) (fun v_5 H locs hw_5 hP hD hS => ?_)
      have hP : va_P (dC, dI) vwCl (w_R ad ca b v_5) H := hP
      have hD : va_D A (w_R ad ca b v_5) := hD
      rw [← hw_5] at he
      try dsimp only at he
      refine lv_aload_n hx hb d_Rn_goThroughInput_96 rfl (lv_at hl 0 rfl) ?_
      refine va_get (D := (dC, dI)) (ci := 2) (v := .int (TRn_fault v_5)) (C := R_Rn) (T := T_Rn) (N := 12) hx hb ht i_Rn hown hK hP 0 rfl rfl 11 (by decide) (ht _ q_141) (fun _ h9 => h9) rfl d_Rn_goThroughInput_97 ?_
      refine lv_if_ne (tgt := 110) hx hb d_Rn_goThroughInput_100 (by decide) (fun c_6 => ?_) (fun c_6 => ?_)
      · have he := he.trans (if_neg c_6)
        refine lv_aload_n hx hb d_Rn_goThroughInput_110 rfl (lv_at hl 0 rfl) ?_
        refine va_get (D := (dC, dI)) (ci := 2) (v := .int (TRn_fault v_5)) (C := R_Rn) (T := T_Rn) (N := 12) hx hb ht i_Rn hown hK hP 0 rfl rfl 11 (by decide) (ht _ q_141) (fun _ h9 => h9) rfl d_Rn_goThroughInput_111 ?_
        refine lv_ineg hx hb d_Rn_goThroughInput_114 ?_
        exact W.iret hx hb hr (v := (-(TRn_fault v_5))) (fun t ht hW => ⟨⟨(-(TRn_fault v_5)), v_5, rfl, he.symm, by rw [ht]; exact hP, va_K.moved hW.alike hK, hD⟩, hS.F ht⟩) hS.2.2 d_Rn_goThroughInput_115
      · have he := he.trans (if_pos c_6)
        refine lv_aload_n hx hb d_Rn_goThroughInput_103 rfl (lv_at hl 0 rfl) ?_
        refine va_get (D := (dC, dI)) (ci := 2) (v := .int (TRn_outSize v_5)) (C := R_Rn) (T := T_Rn) (N := 12) hx hb ht i_Rn hown hK hP 0 rfl rfl 6 (by decide) (ht _ q_136) (fun _ h9 => h9) rfl d_Rn_goThroughInput_104 ?_
        refine lv_goto (tgt := 115) hx hb d_Rn_goThroughInput_107 (by decide) ?_
        exact W.iret hx hb hr (v := (TRn_outSize v_5)) (fun t ht hW => ⟨⟨(TRn_outSize v_5), v_5, rfl, he.symm, by rw [ht]; exact hP, va_K.moved hW.alike hK, hD⟩, hS.F ht⟩) hS.2.2 d_Rn_goThroughInput_115
noncomputable def f_Rn_goThroughInput_13 (op : TBk → TRn → Int32 → TRn) : Nat → TBk → TRn → Int32 → (Int32 × TRn)
  | 0, _, u, _ => (0, u)
  | n + 1, b, u, x1 => (if 1000000 ≤ x1 then (f_Rn_goThroughInput_77 op b u) else (if (TRn_fault u) = 0 then (match f_Rd_look b (TRn_rd u) with | (r_3, v_3) => (if r_3 = (-1) then (f_Rn_goThroughInput_77 op b (TRn_set_rd u v_3)) else (if r_3 = (-2) then (let v_9 := f_Rn_fail b (TRn_set_rd u v_3) 9; (f_Rn_goThroughInput_13 op n b v_9 (x1 + 1))) else (match f_Rn_takeIn op b (TRn_set_rd u v_3) r_3 0 with | (r_6, v_6) => (if r_6 = 0 then (let v_8 := f_Rn_putOut b v_6 r_3; (f_Rn_goThroughInput_13 op n b v_8 (x1 + 1))) else (f_Rn_goThroughInput_13 op n b v_6 (x1 + 1))))))) else (f_Rn_goThroughInput_77 op b u)))
set_option maxHeartbeats 4000000 in
set_option maxRecDepth 100000 in
theorem k_Rn_goThroughInput_13 {p : Program} {e : Env} {s : State} {m : MethodId} {args : Array Value} {below : List Frame} {meth : Method} {c : Code} {A : Nat → Prop} (l : Launch) (dC : Nat → ClassId) (dI : Nat → Nat → Nat) (ad : Nat → Nat) (ca : Nat → ClassId) (op : TBk → TRn → Int32 → TRn) (rf rl : Nat) (k : Int) (hopm : ∀ (b : TBk) (u : TRn) (w : Int32), k ≤ oc u → oc u ≤ oc (op b u w)) (hop : ∀ (sz : Nat) (b : TBk) (u : TRn) (w : Int32), BkS b ∧ k ≤ oc u → wx_Mv l y_Rn_open ws_Rn_open ({ frames := rf, cells := 0, slots := 0, locals := rl } : Room) (dC, dI) vwCl (t_R ca) [.ref (ad 0), .int w] (w_R ad ca b u) sz (fun v : TRn => w_R ad ca b v) (fun v : TRn => v = op b u w)) (C0 : wx_C p s m args meth c b_Rn_goThroughInput (some .int) 3 R_Rn A (dC, dI) vwCl (t_R ca)) (F : (Int32 × TRn)) : ∀ (n : Nat) (b : TBk) (u : TRn) (x1 : Int32), (BkS b ∧ k ≤ 0) → ((0 ≤ oc u) ∧ TLn 1000000 x1 n) → F = f_Rn_goThroughInput_13 op n b u x1 → ∀ (H : Heap) (locs : List Loc), va_P (dC, dI) vwCl (w_R ad ca b u) H → va_D A (w_R ad ca b u) → va_S A s.heap H locs → ∀ (ls : Array Slot), lv_has ls 3 [(0, .ref (ad 0)), (1, .int x1)] → W p l e ({ frames := rf + 6, cells := 0, slots := 0, locals := rl + 136 } : Room) s m args below meth c H locs 0 0 (MQ below (va_Qi (fun (r : Int32) (v : TRn) => (r, v) = F) (wx_B (dC, dI) vwCl (t_R ca) (fun v : TRn => w_R ad ca b v) A) A) args s 0 0 A) (F0 m 13 ls []) := by
  have C1 := C0
  obtain ⟨hx, hb, hr, hml, hown, ht, hlocks, hA, hK, hN⟩ := C1
  intro n
  induction n with
  | zero =>
    intro b u x1 hpre hc he
    exact absurd hc (fun h => TLn_0 h.2)
  | succ n ih =>
    intro b u x1 hpre hc he H locs hP hD hS ls hl
    rw [f_Rn_goThroughInput_13] at he
    refine lv_iload_n hx hb d_Rn_goThroughInput_13 rfl (lv_at hl 1 rfl) ?_
    refine lv_ldc (v := 1000000) hx hb hown (ht _ q_255) d_Rn_goThroughInput_14 ?_
    refine lv_icmp_ge (tgt := 77) hx hb d_Rn_goThroughInput_16 (by decide) (fun c_1 => ?_) (fun c_1 => ?_)
    · have he := he.trans (if_pos c_1)
      exact k_Rn_goThroughInput_77 l dC dI ad ca op rf rl k hopm hop C0 F b u hpre he _ _ hP hD hS _ (lv_sub hl [0] rfl)
    · have he := he.trans (if_neg c_1)
      refine lv_aload_n hx hb d_Rn_goThroughInput_19 rfl (lv_at hl 0 rfl) ?_
      refine va_get (D := (dC, dI)) (ci := 2) (v := .int (TRn_fault u)) (C := R_Rn) (T := T_Rn) (N := 12) hx hb ht i_Rn hown hK hP 0 rfl rfl 11 (by decide) (ht _ q_141) (fun _ h9 => h9) rfl d_Rn_goThroughInput_20 ?_
      refine lv_if_ne (tgt := 77) hx hb d_Rn_goThroughInput_23 (by decide) (fun c_2 => ?_) (fun c_2 => ?_)
      · have he := he.trans (if_neg c_2)
        exact k_Rn_goThroughInput_77 l dC dI ad ca op rf rl k hopm hop C0 F b u hpre he _ _ hP hD hS _ (lv_sub hl [0] rfl)
      · have he := he.trans (if_pos c_2)
        refine lv_aload_n hx hb d_Rn_goThroughInput_26 rfl (lv_at hl 0 rfl) ?_
        refine va_get (D := (dC, dI)) (ci := 2) (v := .ref (ad 5)) (C := R_Rn) (T := T_Rn) (N := 12) hx hb ht i_Rn hown hK hP 0 rfl rfl 1 (by decide) (ht _ q_131) (fun _ h9 => h9) rfl d_Rn_goThroughInput_27 ?_
        refine wx_ci (wS := fun v : TRd => w_D ad ca b v) (ws2 := fun v : TRd => w_R ad ca b (TRn_set_rd u v)) (va_runV (As := []) (rest := []) ⟨hx, hb, hml, hown, ht⟩ (c_Rd_look l dC dI ad ca H.size b (TRn_rd u) hpre.1 _ rfl) (cwV 0 ht (tb_V q_256 q_257 q_258 q_45 q_259) rfl rfl rfl p_Rd_look ⟨show 1 + 1 ≤ rf + 6 by omega, show 8 + (2 + 11) + 23 ≤ rl + 136 by omega⟩) (wx_preV (wc := (w_D ad ca b (TRn_rd u))) hN hK hP hD [5, 6, 7, 8, 9, 10, 11, 12, 13, 14] [4, 5, 6, 7, 8, 9, 10, 11] rfl (by decide) rfl (ci := 1) (q0 := 0) rfl rfl) rfl rfl hl.1 rfl (lv_room (Nat.le_of_ble_eq_true rfl)) d_Rn_goThroughInput_30 ⟨Nat.zero_le _, Nat.zero_le _⟩) hP hD hS hA [5, 6, 7, 8, 9, 10, 11, 12, 13, 14] [0, 1, 2, 3, 4] [0, 1, 2, 3, 4, 5, 6, 7, 8, 9, 10, 11, 12, 13, 14] rfl rfl (by decide) (by decide) (by decide) (fun _ => rfl) (fun r_3 v_3 H locs hw_3 hP hD hS => ?_)
        have hP : va_P (dC, dI) vwCl (w_R ad ca b (TRn_set_rd u v_3)) H := hP
        have hD : va_D A (w_R ad ca b (TRn_set_rd u v_3)) := hD
        rw [← hw_3] at he
        try dsimp only at he
        refine lv_istore_n (lv' := [(2, .int r_3), (0, .ref (ad 0)), (1, .int x1)]) hx hb d_Rn_goThroughInput_33 rfl hl (by decide) rfl (fun ls hl => ?_)
        refine lv_iload_n hx hb d_Rn_goThroughInput_34 rfl (lv_at hl 0 rfl) ?_
        refine lv_iconst (v := (-1)) hx hb d_Rn_goThroughInput_35 (by decide) ?_
        refine lv_icmp_ne (tgt := 42) hx hb d_Rn_goThroughInput_36 (by decide) (fun c_4 => ?_) (fun c_4 => ?_)
        · have he := he.trans (if_neg c_4)
          refine lv_iload_n hx hb d_Rn_goThroughInput_42 rfl (lv_at hl 0 rfl) ?_
          refine lv_bipush (v := (-2)) hx hb d_Rn_goThroughInput_43 (by decide) ?_
          refine lv_icmp_ne (tgt := 57) hx hb d_Rn_goThroughInput_45 (by decide) (fun c_5 => ?_) (fun c_5 => ?_)
          · have he := he.trans (if_neg c_5)
            refine lv_aload_n hx hb d_Rn_goThroughInput_57 rfl (lv_at hl 1 rfl) ?_
            refine lv_iload_n hx hb d_Rn_goThroughInput_58 rfl (lv_at hl 0 rfl) ?_
            refine lv_iconst (v := 0) hx hb d_Rn_goThroughInput_59 (by decide) ?_
            refine wx_ci (wS := fun v : TRn => w_R ad ca b v) (ws2 := fun v : TRn => w_R ad ca b v) (va_runV (As := [.int r_3, .int 0]) (rest := []) ⟨hx, hb, hml, hown, ht⟩ (c_Rn_takeIn l dC dI ad ca op rf rl k hopm hop H.size b (TRn_set_rd u v_3) r_3 0 ⟨hpre.1, Int.le_trans hpre.2 hc.1⟩ _ rfl) (cwV 2 ht (tb_V q_269 q_271 q_2 q_44 q_272) rfl rfl rfl p_Rn_takeIn ⟨show (rf + 5) + 1 ≤ rf + 6 by omega, show 8 + (4 + 11) + (rl + 113) ≤ rl + 136 by omega⟩) (wx_preV (wc := (w_R ad ca b (TRn_set_rd u v_3))) hN hK hP hD [0, 1, 2, 3, 4, 5, 6, 7, 8, 9, 10, 11, 12, 13, 14] [0, 1, 2, 3, 4, 5, 6, 7, 8, 9, 10, 11] rfl (by decide) rfl (ci := 2) (q0 := 0) rfl rfl) rfl rfl hl.1 rfl (lv_room (Nat.le_of_ble_eq_true rfl)) d_Rn_goThroughInput_60 ⟨Nat.zero_le _, Nat.zero_le _⟩) hP hD hS hA [0, 1, 2, 3, 4, 5, 6, 7, 8, 9, 10, 11, 12, 13, 14] [] [0, 1, 2, 3, 4, 5, 6, 7, 8, 9, 10, 11, 12, 13, 14] rfl rfl (by decide) (by decide) (by decide) (fun _ => rfl) (fun r_6 v_6 H locs hw_6 hP hD hS => ?_)
            have hP : va_P (dC, dI) vwCl (w_R ad ca b v_6) H := hP
            have hD : va_D A (w_R ad ca b v_6) := hD
            rw [← hw_6] at he
            try dsimp only at he
            refine lv_if_ne (tgt := 71) hx hb d_Rn_goThroughInput_63 (by decide) (fun c_7 => ?_) (fun c_7 => ?_)
            · have he := he.trans (if_neg c_7)
              refine lv_iinc (v := (x1 + 1)) (lv' := [(1, .int (x1 + 1)), (2, .int r_3), (0, .ref (ad 0))]) hx hb d_Rn_goThroughInput_71 hl (k := 2) rfl rfl (by decide) rfl (fun ls hl => ?_)
              refine lv_goto (tgt := 13) hx hb d_Rn_goThroughInput_74 (by decide) ?_
              exact ih b v_6 (x1 + 1) hpre ⟨oc_t0 op k hopm hw_6 hpre.2 hc.1, TLn_s hc.2 (by decide) c_1⟩ he _ _ hP hD hS _ (lv_sub hl [2, 0] rfl)
            · have he := he.trans (if_pos c_7)
              refine lv_aload_n hx hb d_Rn_goThroughInput_66 rfl (lv_at hl 1 rfl) ?_
              refine lv_iload_n hx hb d_Rn_goThroughInput_67 rfl (lv_at hl 0 rfl) ?_
              refine wx_cv (wS := fun v : TRn => w_R ad ca b v) (ws2 := fun v : TRn => w_R ad ca b v) (va_runV (As := [.int r_3]) (rest := []) ⟨hx, hb, hml, hown, ht⟩ (c_Rn_putOut l dC dI ad ca H.size b v_6 r_3 _ rfl) (cwV 1 ht (tb_V q_393 q_395 q_21 q_44 q_396) rfl rfl rfl p_Rn_putOut ⟨show 2 + 1 ≤ rf + 6 by omega, show 8 + (2 + 11) + 41 ≤ rl + 136 by omega⟩) (wx_preV (wc := (w_R ad ca b v_6)) hN hK hP hD [0, 1, 2, 3, 4, 5, 6, 7, 8, 9, 10, 11, 12, 13, 14] [0, 1, 2, 3, 4, 5, 6, 7, 8, 9, 10, 11] rfl (by decide) rfl (ci := 2) (q0 := 0) rfl rfl) rfl rfl hl.1 rfl (lv_room (Nat.le_of_ble_eq_true rfl)) d_Rn_goThroughInput_68 ⟨Nat.zero_le _, Nat.zero_le _⟩) hP hD hS hA [0, 1, 2, 3, 4, 5, 6, 7, 8, 9, 10, 11, 12, 13, 14] [] [0, 1, 2, 3, 4, 5, 6, 7, 8, 9, 10, 11, 12, 13, 14] rfl rfl (by decide) (by decide) (by decide) (fun _ => rfl) (fun v_8 H locs hw_8 hP hD hS => ?_)
              have hP : va_P (dC, dI) vwCl (w_R ad ca b v_8) H := hP
              have hD : va_D A (w_R ad ca b v_8) := hD
              rw [← hw_8] at he
              try dsimp only at he
              refine lv_iinc (v := (x1 + 1)) (lv' := [(1, .int (x1 + 1)), (2, .int r_3), (0, .ref (ad 0))]) hx hb d_Rn_goThroughInput_71 hl (k := 2) rfl rfl (by decide) rfl (fun ls hl => ?_)
              refine lv_goto (tgt := 13) hx hb d_Rn_goThroughInput_74 (by decide) ?_
              exact ih b v_8 (x1 + 1) hpre ⟨oc_p0 hw_8 (oc_t0 op k hopm hw_6 hpre.2 hc.1), TLn_s hc.2 (by decide) c_1⟩ he _ _ hP hD hS _ (lv_sub hl [2, 0] rfl)
          · have he := he.trans (if_pos c_5)
            refine lv_aload_n hx hb d_Rn_goThroughInput_48 rfl (lv_at hl 1 rfl) ?_
            refine lv_bipush (v := 9) hx hb d_Rn_goThroughInput_49 (by decide) ?_
            refine wx_cv (wS := fun v : TRn => w_R ad ca b v) (ws2 := fun v : TRn => w_R ad ca b v) (va_runV (As := [.int 9]) (rest := []) ⟨hx, hb, hml, hown, ht⟩ (c_Rn_fail l dC dI ad ca H.size b (TRn_set_rd u v_3) 9 _ rfl) (cwV 1 ht (tb_V q_265 q_267 q_1 q_44 q_268) rfl rfl rfl p_Rn_fail ⟨show 0 + 1 ≤ rf + 6 by omega, show 8 + (2 + 11) + 0 ≤ rl + 136 by omega⟩) (wx_preV (wc := (w_R ad ca b (TRn_set_rd u v_3))) hN hK hP hD [0, 1, 2, 3, 4, 5, 6, 7, 8, 9, 10, 11, 12, 13, 14] [0, 1, 2, 3, 4, 5, 6, 7, 8, 9, 10, 11] rfl (by decide) rfl (ci := 2) (q0 := 0) rfl rfl) rfl rfl hl.1 rfl (lv_room (Nat.le_of_ble_eq_true rfl)) d_Rn_goThroughInput_51 ⟨Nat.zero_le _, Nat.zero_le _⟩) hP hD hS hA [0, 1, 2, 3, 4, 5, 6, 7, 8, 9, 10, 11, 12, 13, 14] [] [0, 1, 2, 3, 4, 5, 6, 7, 8, 9, 10, 11, 12, 13, 14] rfl rfl (by decide) (by decide) (by decide) (fun _ => rfl) (fun v_9 H locs hw_9 hP hD hS => ?_)
            have hP : va_P (dC, dI) vwCl (w_R ad ca b v_9) H := hP
            have hD : va_D A (w_R ad ca b v_9) := hD
            rw [← hw_9] at he
            try dsimp only at he
            refine lv_goto (tgt := 71) hx hb d_Rn_goThroughInput_54 (by decide) ?_
            refine lv_iinc (v := (x1 + 1)) (lv' := [(1, .int (x1 + 1)), (2, .int r_3), (0, .ref (ad 0))]) hx hb d_Rn_goThroughInput_71 hl (k := 2) rfl rfl (by decide) rfl (fun ls hl => ?_)
            refine lv_goto (tgt := 13) hx hb d_Rn_goThroughInput_74 (by decide) ?_
            exact ih b v_9 (x1 + 1) hpre ⟨oc_f0 hw_9 hc.1, TLn_s hc.2 (by decide) c_1⟩ he _ _ hP hD hS _ (lv_sub hl [2, 0] rfl)
        · have he := he.trans (if_pos c_4)
          refine lv_goto (tgt := 77) hx hb d_Rn_goThroughInput_39 (by decide) ?_
          exact k_Rn_goThroughInput_77 l dC dI ad ca op rf rl k hopm hop C0 F b (TRn_set_rd u v_3) hpre he _ _ hP hD hS _ (lv_sub hl [1] rfl)
noncomputable def f_Rn_goThroughInput (op : TBk → TRn → Int32 → TRn) (b : TBk) (u : TRn) : (Int32 × TRn) := (let v_1 := f_Rn_forget b u; (let v_2 := f_Rd_restart b (TRn_rd v_1); (f_Rn_goThroughInput_13 op TM b (TRn_set_rd v_1 v_2) 0)))
set_option maxHeartbeats 4000000 in
set_option maxRecDepth 100000 in
theorem c_Rn_goThroughInput (l : Launch) (dC : Nat → ClassId) (dI : Nat → Nat → Nat) (ad : Nat → Nat) (ca : Nat → ClassId) (op : TBk → TRn → Int32 → TRn) (rf rl : Nat) (k : Int) (hopm : ∀ (b : TBk) (u : TRn) (w : Int32), k ≤ oc u → oc u ≤ oc (op b u w)) (hop : ∀ (sz : Nat) (b : TBk) (u : TRn) (w : Int32), BkS b ∧ k ≤ oc u → wx_Mv l y_Rn_open ws_Rn_open ({ frames := rf, cells := 0, slots := 0, locals := rl } : Room) (dC, dI) vwCl (t_R ca) [.ref (ad 0), .int w] (w_R ad ca b u) sz (fun v : TRn => w_R ad ca b v) (fun v : TRn => v = op b u w)) (sz : Nat) (b : TBk) (u : TRn) (hpre : BkS b ∧ k ≤ 0) (F : (Int32 × TRn)) (he : F = f_Rn_goThroughInput op b u) : wx_Mi l y_Rn_goThroughInput ws_Rn_goThroughInput ({ frames := rf + 6, cells := 0, slots := 0, locals := rl + 136 } : Room) (dC, dI) vwCl (t_R ca) [.ref (ad 0)] (w_R ad ca b u) sz (fun v : TRn => w_R ad ca b v) (fun (r : Int32) (v : TRn) => (r, v) = F) := by
  refine Met.ofW (cc := b_Rn_goThroughInput) (maxL := 3) (ret := some .int) (by decide) rfl ?_
  intro p e s m args below meth c s₁ B hml hv
  obtain ⟨rfl, hsz, hP, hK, hD0, hN⟩ := hv
  have hx := B.exec
  have hb := B.bytes
  have hr := B.returns
  have hts := atoms_spec (ws := ws_Rn_goThroughInput) B.pre
  have ht : ∀ w ∈ TB, w.before _ s = true := fun w h => hts w (List.mem_cons_of_mem _ h)
  have hown : s.vm.findClass R_Rn = some m.cls := findClass_of_methodNamed B.named
  have hlocks := B.notSynchronized
  subst hsz
  have hD := hD0.self (sz := s.heap.size)
  generalize hAe : va_A (w_R ad ca b u) s.heap.size = A at hD ⊢
  have hA : ∀ q : Nat, s.heap.size ≤ q → A q := fun q h => by rw [← hAe]; exact Or.inr h
  have hS : va_S A s.heap s.heap [] := va_S.rf
  have C0 : wx_C p s m ([.ref (ad 0)] : List Value).toArray meth c b_Rn_goThroughInput (some .int) 3 R_Rn A (dC, dI) vwCl (t_R ca) := ⟨hx, hb, hr, hml, hown, ht, hlocks, hA, hK, hN⟩
  have hl := lv_entry ([.ref (ad 0)]) (n := 3) (Nat.le_of_ble_eq_true rfl)
  rw [lg_entry_eq]
  generalize (lg_sl ([.ref (ad 0)]) ++ List.replicate (3 - (lg_sl ([.ref (ad 0)])).length) Slot.unset).toArray = ls at hl ⊢
  have hl : lv_has ls 3 [(0, .ref (ad 0))] := hl
  unfold f_Rn_goThroughInput at he
  refine lv_aload_n hx hb d_Rn_goThroughInput_0 rfl (lv_at hl 0 rfl) ?_
  refine wx_cv (wS := fun v : TRn => w_R ad ca b v) (ws2 := fun v : TRn => w_R ad ca b v) (va_runV (As := []) (rest := []) ⟨hx, hb, hml, hown, ht⟩ (c_Rn_forget l dC dI ad ca s.heap.size b u _ rfl) (cwV 0 ht (tb_V q_123 q_125 q_0 q_44 q_126) rfl rfl rfl p_Rn_forget ⟨show 1 + 1 ≤ rf + 6 by omega, show 8 + (1 + 11) + 23 ≤ rl + 136 by omega⟩) (wx_preV (wc := (w_R ad ca b u)) hN hK hP hD [0, 1, 2, 3, 4, 5, 6, 7, 8, 9, 10, 11, 12, 13, 14] [0, 1, 2, 3, 4, 5, 6, 7, 8, 9, 10, 11] rfl (by decide) rfl (ci := 2) (q0 := 0) rfl rfl) rfl rfl hl.1 rfl (lv_room (Nat.le_of_ble_eq_true rfl)) d_Rn_goThroughInput_1 ⟨Nat.zero_le _, Nat.zero_le _⟩) hP hD hS hA [0, 1, 2, 3, 4, 5, 6, 7, 8, 9, 10, 11, 12, 13, 14] [] [0, 1, 2, 3, 4, 5, 6, 7, 8, 9, 10, 11, 12, 13, 14] rfl rfl (by decide) (by decide) (by decide) (fun _ => rfl) (fun v_1 H locs hw_1 hP hD hS => ?_)
  have hP : va_P (dC, dI) vwCl (w_R ad ca b v_1) H := hP
  have hD : va_D A (w_R ad ca b v_1) := hD
  rw [← hw_1] at he
  try dsimp only at he
  refine lv_aload_n hx hb d_Rn_goThroughInput_4 rfl (lv_at hl 0 rfl) ?_
  refine va_get (D := (dC, dI)) (ci := 2) (v := .ref (ad 5)) (C := R_Rn) (T := T_Rn) (N := 12) hx hb ht i_Rn hown hK hP 0 rfl rfl 1 (by decide) (ht _ q_131) (fun _ h9 => h9) rfl d_Rn_goThroughInput_5 ?_
  refine wx_cv (wS := fun v : TRd => w_D ad ca b v) (ws2 := fun v : TRd => w_R ad ca b (TRn_set_rd v_1 v)) (va_runV (As := []) (rest := []) ⟨hx, hb, hml, hown, ht⟩ (c_Rd_restart l dC dI ad ca H.size b (TRn_rd v_1) _ rfl) (cwV 0 ht (tb_V q_247 q_248 q_249 q_45 q_250) rfl rfl rfl p_Rd_restart ⟨show 1 + 1 ≤ rf + 6 by omega, show 8 + (1 + 11) + 21 ≤ rl + 136 by omega⟩) (wx_preV (wc := (w_D ad ca b (TRn_rd v_1))) hN hK hP hD [5, 6, 7, 8, 9, 10, 11, 12, 13, 14] [4, 5, 6, 7, 8, 9, 10, 11] rfl (by decide) rfl (ci := 1) (q0 := 0) rfl rfl) rfl rfl hl.1 rfl (lv_room (Nat.le_of_ble_eq_true rfl)) d_Rn_goThroughInput_8 ⟨Nat.zero_le _, Nat.zero_le _⟩) hP hD hS hA [5, 6, 7, 8, 9, 10, 11, 12, 13, 14] [0, 1, 2, 3, 4] [0, 1, 2, 3, 4, 5, 6, 7, 8, 9, 10, 11, 12, 13, 14] rfl rfl (by decide) (by decide) (by decide) (fun _ => rfl) (fun v_2 H locs hw_2 hP hD hS => ?_)
  have hP : va_P (dC, dI) vwCl (w_R ad ca b (TRn_set_rd v_1 v_2)) H := hP
  have hD : va_D A (w_R ad ca b (TRn_set_rd v_1 v_2)) := hD
  rw [← hw_2] at he
  try dsimp only at he
  refine lv_iconst (v := 0) hx hb d_Rn_goThroughInput_11 (by decide) ?_
  refine lv_istore_n (lv' := [(1, .int 0), (0, .ref (ad 0))]) hx hb d_Rn_goThroughInput_12 rfl hl (by decide) rfl (fun ls hl => ?_)
  exact k_Rn_goThroughInput_13 l dC dI ad ca op rf rl k hopm hop C0 F TM b (TRn_set_rd v_1 v_2) 0 hpre ⟨(show (0 : Int) ≤ oc v_1 from oc_forget hw_1), TLn_m⟩ he _ _ hP hD hS _ (lv_sub hl [1, 0] rfl)
noncomputable def f_Ct_run (op : TBk → TRn → Int32 → TRn) (z : TCt) : (Int32 × TCt) := (match f_Rn_goThroughInput op (TCt_bk z) (TCt_rn z) with | (r_1, v_1) => (r_1, (TCt_set_rn z v_1)))
set_option maxHeartbeats 4000000 in
set_option maxRecDepth 100000 in
theorem c_Ct_run (l : Launch) (dC : Nat → ClassId) (dI : Nat → Nat → Nat) (ad : Nat → Nat) (ca : Nat → ClassId) (op : TBk → TRn → Int32 → TRn) (rf rl : Nat) (k : Int) (hopm : ∀ (b : TBk) (u : TRn) (w : Int32), k ≤ oc u → oc u ≤ oc (op b u w)) (hop : ∀ (sz : Nat) (b : TBk) (u : TRn) (w : Int32), BkS b ∧ k ≤ oc u → wx_Mv l y_Rn_open ws_Rn_open ({ frames := rf, cells := 0, slots := 0, locals := rl } : Room) (dC, dI) vwCl (t_R ca) [.ref (ad 0), .int w] (w_R ad ca b u) sz (fun v : TRn => w_R ad ca b v) (fun v : TRn => v = op b u w)) (sz : Nat) (z : TCt) (hpre : BkS (TCt_bk z) ∧ k ≤ 0) (F : (Int32 × TCt)) (he : F = f_Ct_run op z) : wx_Mi l y_Ct_run ws_Ct_run ({ frames := rf + 7, cells := 0, slots := 0, locals := rl + 158 } : Room) (dC, dI) vwCl (t_C ca) [.ref (ad 15)] (w_C ad ca z) sz (fun v : TCt => w_C ad ca v) (fun (r : Int32) (v : TCt) => (r, v) = F) := by
  refine Met.ofW (cc := b_Ct_run) (maxL := 1) (ret := some .int) (by decide) rfl ?_
  intro p e s m args below meth c s₁ B hml hv
  obtain ⟨rfl, hsz, hP, hK, hD0, hN⟩ := hv
  have hx := B.exec
  have hb := B.bytes
  have hr := B.returns
  have hts := atoms_spec (ws := ws_Ct_run) B.pre
  have ht : ∀ w ∈ TB, w.before _ s = true := fun w h => hts w (List.mem_cons_of_mem _ h)
  have hown : s.vm.findClass R_Ct = some m.cls := findClass_of_methodNamed B.named
  have hlocks := B.notSynchronized
  subst hsz
  have hD := hD0.self (sz := s.heap.size)
  generalize hAe : va_A (w_C ad ca z) s.heap.size = A at hD ⊢
  have hA : ∀ q : Nat, s.heap.size ≤ q → A q := fun q h => by rw [← hAe]; exact Or.inr h
  have hS : va_S A s.heap s.heap [] := va_S.rf
  have hl := lv_entry ([.ref (ad 15)]) (n := 1) (Nat.le_of_ble_eq_true rfl)
  rw [lg_entry_eq]
  generalize (lg_sl ([.ref (ad 15)]) ++ List.replicate (1 - (lg_sl ([.ref (ad 15)])).length) Slot.unset).toArray = ls at hl ⊢
  have hl : lv_has ls 1 [(0, .ref (ad 15))] := hl
  unfold f_Ct_run at he
  refine lv_aload_n hx hb d_Ct_run_0 rfl (lv_at hl 0 rfl) ?_
  refine va_get (D := (dC, dI)) (ci := 3) (v := .ref (ad 0)) (C := R_Ct) (T := T_Ct) (N := 2) hx hb ht i_Ct hown hK hP 0 rfl rfl 1 (by decide) (ht _ q_168) (fun _ h9 => h9) rfl d_Ct_run_1 ?_
  refine wx_ci (wS := fun v : TRn => w_R ad ca (TCt_bk z) v) (ws2 := fun v : TRn => w_C ad ca (TCt_set_rn z v)) (va_runV (As := []) (rest := []) ⟨hx, hb, hml, hown, ht⟩ (c_Rn_goThroughInput l dC dI ad ca op rf rl k hopm hop s.heap.size (TCt_bk z) (TCt_rn z) hpre _ rfl) (cwV 0 ht (tb_V q_243 q_244 q_245 q_44 q_246) rfl rfl rfl p_Rn_goThroughInput ⟨show (rf + 6) + 1 ≤ rf + 7 by omega, show 8 + (3 + 11) + (rl + 136) ≤ rl + 158 by omega⟩) (wx_preV (wc := (w_R ad ca (TCt_bk z) (TCt_rn z))) hN hK hP hD [1, 2, 3, 4, 5, 6, 7, 8, 9, 10, 11, 12, 13, 14, 15] [0, 1, 2, 3, 4, 5, 6, 7, 8, 9, 10, 11] rfl (by decide) rfl (ci := 2) (q0 := 0) rfl rfl) rfl rfl hl.1 rfl (lv_room (Nat.le_of_ble_eq_true rfl)) d_Ct_run_4 ⟨Nat.zero_le _, Nat.zero_le _⟩) hP hD hS hA [1, 2, 3, 4, 5, 6, 7, 8, 9, 10, 11, 12, 13, 14, 15] [0] [0, 1, 2, 3, 4, 5, 6, 7, 8, 9, 10, 11, 12, 13, 14, 15] rfl rfl (by decide) (by decide) (by decide) (fun _ => rfl) (fun r_1 v_1 H locs hw_1 hP hD hS => ?_)
  have hP : va_P (dC, dI) vwCl (w_C ad ca (TCt_set_rn z v_1)) H := hP
  have hD : va_D A (w_C ad ca (TCt_set_rn z v_1)) := hD
  rw [← hw_1] at he
  try dsimp only at he
  exact W.iret hx hb hr (v := r_1) (fun t ht hW => ⟨⟨r_1, (TCt_set_rn z v_1), rfl, he.symm, by rw [ht]; exact hP, va_K.moved hW.alike hK, hD⟩, hS.F ht⟩) hS.2.2 d_Ct_run_7
