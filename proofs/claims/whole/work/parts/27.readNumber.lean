theorem q_13 : Cond.selects R_Rn y_Rn_readDigits y_Rn_readDigits ∈ TB := tq 13 (by decide +kernel) rfl
theorem q_351 : Cond.methodLink R_Rn 186 y_Rn_readDigits ∈ TB := tq 351 (by decide +kernel) rfl
theorem q_353 : Cond.instanceMethod y_Rn_readDigits ∈ TB := tq 353 (by decide +kernel) rfl
theorem q_354 : Cond.code y_Rn_readDigits b_Rn_readDigits 6 (some .int) ∈ TB := tq 354 (by decide +kernel) rfl
theorem d_Rn_readNumber_0 : decode b_Rn_readNumber 0 = .ok (.iconst 0, 1) := by decide +kernel
theorem d_Rn_readNumber_1 : decode b_Rn_readNumber 1 = .ok (.istore_n 2, 1) := by decide +kernel
theorem d_Rn_readNumber_2 : decode b_Rn_readNumber 2 = .ok (.aload_n 0, 1) := by decide +kernel
theorem d_Rn_readNumber_3 : decode b_Rn_readNumber 3 = .ok (.iload_n 1, 1) := by decide +kernel
theorem d_Rn_readNumber_4 : decode b_Rn_readNumber 4 = .ok (.invokevirtual 180, 3) := by decide +kernel
theorem d_Rn_readNumber_7 : decode b_Rn_readNumber 7 = .ok (.istore_n 3, 1) := by decide +kernel
theorem d_Rn_readNumber_8 : decode b_Rn_readNumber 8 = .ok (.iconst 0, 1) := by decide +kernel
theorem d_Rn_readNumber_9 : decode b_Rn_readNumber 9 = .ok (.istore 4, 2) := by decide +kernel
theorem d_Rn_readNumber_11 : decode b_Rn_readNumber 11 = .ok (.iload 4, 2) := by decide +kernel
theorem d_Rn_readNumber_13 : decode b_Rn_readNumber 13 = .ok (.ldc 44, 2) := by decide +kernel
theorem d_Rn_readNumber_15 : decode b_Rn_readNumber 15 = .ok (.if_icmp .ge 51, 3) := by decide +kernel
theorem d_Rn_readNumber_18 : decode b_Rn_readNumber 18 = .ok (.iload_n 3, 1) := by decide +kernel
theorem d_Rn_readNumber_19 : decode b_Rn_readNumber 19 = .ok (.sipush 3115, 3) := by decide +kernel
theorem d_Rn_readNumber_22 : decode b_Rn_readNumber 22 = .ok (.if_icmp .eq 10, 3) := by decide +kernel
theorem d_Rn_readNumber_25 : decode b_Rn_readNumber 25 = .ok (.iload_n 3, 1) := by decide +kernel
theorem d_Rn_readNumber_26 : decode b_Rn_readNumber 26 = .ok (.sipush 3117, 3) := by decide +kernel
theorem d_Rn_readNumber_29 : decode b_Rn_readNumber 29 = .ok (.if_icmp .ne 37, 3) := by decide +kernel
theorem d_Rn_readNumber_32 : decode b_Rn_readNumber 32 = .ok (.iload_n 2, 1) := by decide +kernel
theorem d_Rn_readNumber_33 : decode b_Rn_readNumber 33 = .ok (.iload_n 3, 1) := by decide +kernel
theorem d_Rn_readNumber_34 : decode b_Rn_readNumber 34 = .ok (.sipush 3117, 3) := by decide +kernel
theorem d_Rn_readNumber_37 : decode b_Rn_readNumber 37 = .ok (.if_icmp .ne 7, 3) := by decide +kernel
theorem d_Rn_readNumber_40 : decode b_Rn_readNumber 40 = .ok (.iconst 1, 1) := by decide +kernel
theorem d_Rn_readNumber_41 : decode b_Rn_readNumber 41 = .ok (.goto 4, 3) := by decide +kernel
theorem d_Rn_readNumber_44 : decode b_Rn_readNumber 44 = .ok (.iconst 0, 1) := by decide +kernel
theorem d_Rn_readNumber_45 : decode b_Rn_readNumber 45 = .ok (.if_icmp .eq 7, 3) := by decide +kernel
theorem d_Rn_readNumber_48 : decode b_Rn_readNumber 48 = .ok (.iconst 1, 1) := by decide +kernel
theorem d_Rn_readNumber_49 : decode b_Rn_readNumber 49 = .ok (.goto 4, 3) := by decide +kernel
theorem d_Rn_readNumber_52 : decode b_Rn_readNumber 52 = .ok (.iconst 0, 1) := by decide +kernel
theorem d_Rn_readNumber_53 : decode b_Rn_readNumber 53 = .ok (.istore_n 2, 1) := by decide +kernel
theorem d_Rn_readNumber_54 : decode b_Rn_readNumber 54 = .ok (.aload_n 0, 1) := by decide +kernel
theorem d_Rn_readNumber_55 : decode b_Rn_readNumber 55 = .ok (.iload_n 1, 1) := by decide +kernel
theorem d_Rn_readNumber_56 : decode b_Rn_readNumber 56 = .ok (.invokevirtual 180, 3) := by decide +kernel
theorem d_Rn_readNumber_59 : decode b_Rn_readNumber 59 = .ok (.istore_n 3, 1) := by decide +kernel
theorem d_Rn_readNumber_60 : decode b_Rn_readNumber 60 = .ok (.iinc 4 1, 3) := by decide +kernel
theorem d_Rn_readNumber_63 : decode b_Rn_readNumber 63 = .ok (.goto (-52), 3) := by decide +kernel
theorem d_Rn_readNumber_66 : decode b_Rn_readNumber 66 = .ok (.aload_n 0, 1) := by decide +kernel
theorem d_Rn_readNumber_67 : decode b_Rn_readNumber 67 = .ok (.getfield 45, 3) := by decide +kernel
theorem d_Rn_readNumber_70 : decode b_Rn_readNumber 70 = .ok (.ifCond .eq 5, 3) := by decide +kernel
theorem d_Rn_readNumber_73 : decode b_Rn_readNumber 73 = .ok (.iconst 0, 1) := by decide +kernel
theorem d_Rn_readNumber_74 : decode b_Rn_readNumber 74 = .ok (.ireturn, 1) := by decide +kernel
theorem d_Rn_readNumber_75 : decode b_Rn_readNumber 75 = .ok (.iconst 0, 1) := by decide +kernel
theorem d_Rn_readNumber_76 : decode b_Rn_readNumber 76 = .ok (.istore 4, 2) := by decide +kernel
theorem d_Rn_readNumber_78 : decode b_Rn_readNumber 78 = .ok (.iload_n 3, 1) := by decide +kernel
theorem d_Rn_readNumber_79 : decode b_Rn_readNumber 79 = .ok (.invokestatic 183, 3) := by decide +kernel
theorem d_Rn_readNumber_82 : decode b_Rn_readNumber 82 = .ok (.ifCond .eq 14, 3) := by decide +kernel
theorem d_Rn_readNumber_85 : decode b_Rn_readNumber 85 = .ok (.aload_n 0, 1) := by decide +kernel
theorem d_Rn_readNumber_86 : decode b_Rn_readNumber 86 = .ok (.iload_n 3, 1) := by decide +kernel
theorem d_Rn_readNumber_87 : decode b_Rn_readNumber 87 = .ok (.iload_n 1, 1) := by decide +kernel
theorem d_Rn_readNumber_88 : decode b_Rn_readNumber 88 = .ok (.invokevirtual 186, 3) := by decide +kernel
theorem d_Rn_readNumber_91 : decode b_Rn_readNumber 91 = .ok (.istore 4, 2) := by decide +kernel
theorem d_Rn_readNumber_93 : decode b_Rn_readNumber 93 = .ok (.goto 33, 3) := by decide +kernel
theorem d_Rn_readNumber_96 : decode b_Rn_readNumber 96 = .ok (.aload_n 0, 1) := by decide +kernel
theorem d_Rn_readNumber_97 : decode b_Rn_readNumber 97 = .ok (.getfield 25, 3) := by decide +kernel
theorem d_Rn_readNumber_100 : decode b_Rn_readNumber 100 = .ok (.iload_n 3, 1) := by decide +kernel
theorem d_Rn_readNumber_101 : decode b_Rn_readNumber 101 = .ok (.invokevirtual 88, 3) := by decide +kernel
theorem d_Rn_readNumber_104 : decode b_Rn_readNumber 104 = .ok (.iconst 4, 1) := by decide +kernel
theorem d_Rn_readNumber_105 : decode b_Rn_readNumber 105 = .ok (.if_icmp .ne 16, 3) := by decide +kernel
theorem d_Rn_readNumber_108 : decode b_Rn_readNumber 108 = .ok (.aload_n 0, 1) := by decide +kernel
theorem d_Rn_readNumber_109 : decode b_Rn_readNumber 109 = .ok (.getfield 25, 3) := by decide +kernel
theorem d_Rn_readNumber_112 : decode b_Rn_readNumber 112 = .ok (.iload_n 3, 1) := by decide +kernel
theorem d_Rn_readNumber_113 : decode b_Rn_readNumber 113 = .ok (.invokevirtual 101, 3) := by decide +kernel
theorem d_Rn_readNumber_116 : decode b_Rn_readNumber 116 = .ok (.istore 4, 2) := by decide +kernel
theorem d_Rn_readNumber_118 : decode b_Rn_readNumber 118 = .ok (.goto 8, 3) := by decide +kernel
theorem d_Rn_readNumber_121 : decode b_Rn_readNumber 121 = .ok (.aload_n 0, 1) := by decide +kernel
theorem d_Rn_readNumber_122 : decode b_Rn_readNumber 122 = .ok (.iconst 3, 1) := by decide +kernel
theorem d_Rn_readNumber_123 : decode b_Rn_readNumber 123 = .ok (.invokevirtual 53, 3) := by decide +kernel
theorem d_Rn_readNumber_126 : decode b_Rn_readNumber 126 = .ok (.iload_n 2, 1) := by decide +kernel
theorem d_Rn_readNumber_127 : decode b_Rn_readNumber 127 = .ok (.ifCond .eq 9, 3) := by decide +kernel
theorem d_Rn_readNumber_130 : decode b_Rn_readNumber 130 = .ok (.iload 4, 2) := by decide +kernel
theorem d_Rn_readNumber_132 : decode b_Rn_readNumber 132 = .ok (.ineg, 1) := by decide +kernel
theorem d_Rn_readNumber_133 : decode b_Rn_readNumber 133 = .ok (.goto 5, 3) := by decide +kernel
theorem d_Rn_readNumber_136 : decode b_Rn_readNumber 136 = .ok (.iload 4, 2) := by decide +kernel
theorem d_Rn_readNumber_138 : decode b_Rn_readNumber 138 = .ok (.ireturn, 1) := by decide +kernel
noncomputable def f_Rn_readNumber_66 (op : TBk → TRn → Int32 → TRn) (b : TBk) (u : TRn) (x1 : Int32) (x2 : Int32) (x3 : Int32) : (Int32 × TRn) := (if (TRn_fault u) = 0 then (if (f_Ct_isDigit x3) = 0 then (if (f_Bk_kindOf b x3) = 4 then (if x2 = 0 then ((f_Bk_valueOf b x3), u) else ((-(f_Bk_valueOf b x3)), u)) else (let v_6 := f_Rn_fail b u 3; (if x2 = 0 then (0, v_6) else ((-0), v_6)))) else (match f_Rn_readDigits op b u x3 x1 with | (r_10, v_10) => (if x2 = 0 then (r_10, v_10) else ((-r_10), v_10)))) else (0, u))
set_option maxHeartbeats 4000000 in
set_option maxRecDepth 100000 in
theorem k_Rn_readNumber_66 {p : Program} {e : Env} {s : State} {m : MethodId} {args : Array Value} {below : List Frame} {meth : Method} {c : Code} {A : Nat → Prop} (l : Launch) (dC : Nat → ClassId) (dI : Nat → Nat → Nat) (ad : Nat → Nat) (ca : Nat → ClassId) (op : TBk → TRn → Int32 → TRn) (rf rl : Nat) (k : Int) (hopm : ∀ (b : TBk) (u : TRn) (w : Int32), k ≤ oc u → oc u ≤ oc (op b u w)) (hop : ∀ (sz : Nat) (b : TBk) (u : TRn) (w : Int32), BkS b ∧ k ≤ oc u → wx_Mv l y_Rn_open ws_Rn_open ({ frames := rf, cells := 0, slots := 0, locals := rl } : Room) (dC, dI) vwCl (t_R ca) [.ref (ad 0), .int w] (w_R ad ca b u) sz (fun v : TRn => w_R ad ca b v) (fun v : TRn => v = op b u w)) (C0 : wx_C p s m args meth c b_Rn_readNumber (some .int) 5 R_Rn A (dC, dI) vwCl (t_R ca)) (F : (Int32 × TRn)) : ∀ (b : TBk) (u : TRn) (x1 : Int32) (x2 : Int32) (x3 : Int32), (BkS b ∧ k ≤ x1.toInt ∧ x1.toInt ≤ oc u) → F = f_Rn_readNumber_66 op b u x1 x2 x3 → ∀ (H : Heap) (locs : List Loc), va_P (dC, dI) vwCl (w_R ad ca b u) H → va_D A (w_R ad ca b u) → va_S A s.heap H locs → ∀ (ls : Array Slot), lv_has ls 5 [(0, .ref (ad 0)), (1, .int x1), (2, .int x2), (3, .int x3)] → W p l e ({ frames := rf + 8, cells := 0, slots := 0, locals := rl + 184 } : Room) s m args below meth c H locs 0 0 (MQ below (va_Qi (fun (r : Int32) (v : TRn) => (r, v) = F) (wx_B (dC, dI) vwCl (t_R ca) (fun v : TRn => w_R ad ca b v) A) A) args s 0 0 A) (F0 m 66 ls []) := by
  have C1 := C0
  obtain ⟨hx, hb, hr, hml, hown, ht, hlocks, hA, hK, hN⟩ := C1
  intro b u x1 x2 x3 hc he H locs hP hD hS ls hl
  unfold f_Rn_readNumber_66 at he
  refine lv_aload_n hx hb d_Rn_readNumber_66 rfl (lv_at hl 0 rfl) ?_
  refine va_get (D := (dC, dI)) (ci := 2) (v := .int (TRn_fault u)) (C := R_Rn) (T := T_Rn) (N := 12) hx hb ht i_Rn hown hK hP 0 rfl rfl 11 (by decide) (ht _ q_141) (fun _ h9 => h9) rfl d_Rn_readNumber_67 ?_
  refine lv_if_eq (tgt := 75) hx hb d_Rn_readNumber_70 (by decide) (fun c_1 => ?_) (fun c_1 => ?_)
  · have he := he.trans (if_pos c_1)
    refine lv_iconst (v := 0) hx hb d_Rn_readNumber_75 (by decide) ?_
    refine lv_istore (lv' := [(4, .int 0), (0, .ref (ad 0)), (1, .int x1), (2, .int x2), (3, .int x3)]) hx hb d_Rn_readNumber_76 hl (by decide) rfl (fun ls hl => ?_)
    refine lv_iload_n hx hb d_Rn_readNumber_78 rfl (lv_at hl 4 rfl) ?_
    refine wx_ci (wS := fun _ : Unit => w_E ad ca) (ws2 := fun _ : Unit => w_R ad ca b u) (va_runSN (As := [.int x3]) (rest := []) ⟨hx, hb, hml, hown, ht⟩ (c_Ct_isDigit l dC dI ad ca H.size x3 _ rfl) ⟨va_cnB 1 ht (tb_in q_350) rfl rfl rfl (hN _ nest_4) (ht _ q_42) p_Ct_isDigit.2 ⟨show 0 + 1 ≤ rf + 8 by omega, show 8 + (1 + 11) + 0 ≤ rl + 184 by omega⟩, ht _ q_349, trivial⟩ (wx_preS (wc := (w_E ad ca)) hN hK hP hD [] [] rfl (by decide) rfl) rfl rfl hl.1 rfl (lv_room (Nat.le_of_ble_eq_true rfl)) d_Rn_readNumber_79 ⟨Nat.zero_le _, Nat.zero_le _⟩) hP hD hS hA [] [0, 1, 2, 3, 4, 5, 6, 7, 8, 9, 10, 11, 12, 13, 14] [0, 1, 2, 3, 4, 5, 6, 7, 8, 9, 10, 11, 12, 13, 14] rfl rfl (by decide) (by decide) (by decide) (fun _ => rfl) (fun r_2 _ H locs hw_2 hP hD hS => ?_)
    subst hw_2
    have hP : va_P (dC, dI) vwCl (w_R ad ca b u) H := hP
    have hD : va_D A (w_R ad ca b u) := hD
    refine lv_if_eq (tgt := 96) hx hb d_Rn_readNumber_82 (by decide) (fun c_3 => ?_) (fun c_3 => ?_)
    · have he := he.trans (if_pos c_3)
      refine lv_aload_n hx hb d_Rn_readNumber_96 rfl (lv_at hl 1 rfl) ?_
      refine va_get (D := (dC, dI)) (ci := 2) (v := .ref (ad 8)) (C := R_Rn) (T := T_Rn) (N := 12) hx hb ht i_Rn hown hK hP 0 rfl rfl 0 (by decide) (ht _ q_130) (fun _ h9 => h9) rfl d_Rn_readNumber_97 ?_
      refine lv_iload_n hx hb d_Rn_readNumber_100 rfl (lv_at hl 4 rfl) ?_
      refine wx_ci (wS := fun _ : Unit => w_B ad ca b) (ws2 := fun _ : Unit => w_R ad ca b u) (va_runV (As := [.int x3]) (rest := []) ⟨hx, hb, hml, hown, ht⟩ (c_Bk_kindOf l dC dI ad ca H.size b x3 _ rfl) (cwV 1 ht (tb_V q_273 q_274 q_275 q_43 q_276) rfl rfl rfl p_Bk_kindOf ⟨show 1 + 1 ≤ rf + 8 by omega, show 8 + (2 + 11) + 20 ≤ rl + 184 by omega⟩) (wx_preV (wc := (w_B ad ca b)) hN hK hP hD [8, 9, 10, 11, 12, 13, 14] [6, 7, 8, 9, 10, 11] rfl (by decide) rfl (ci := 0) (q0 := 0) rfl rfl) rfl rfl hl.1 rfl (lv_room (Nat.le_of_ble_eq_true rfl)) d_Rn_readNumber_101 ⟨Nat.zero_le _, Nat.zero_le _⟩) hP hD hS hA [8, 9, 10, 11, 12, 13, 14] [0, 1, 2, 3, 4, 5, 6, 7] [0, 1, 2, 3, 4, 5, 6, 7, 8, 9, 10, 11, 12, 13, 14] rfl rfl (by decide) (by decide) (by decide) (fun _ => rfl) (fun r_4 _ H locs hw_4 hP hD hS => ?_)
      subst hw_4
      have hP : va_P (dC, dI) vwCl (w_R ad ca b u) H := hP
      have hD : va_D A (w_R ad ca b u) := hD
      refine lv_iconst (v := 4) hx hb d_Rn_readNumber_104 (by decide) ?_
      refine lv_icmp_ne (tgt := 121) hx hb d_Rn_readNumber_105 (by decide) (fun c_5 => ?_) (fun c_5 => ?_)
      · have he := he.trans (if_neg c_5)
        refine lv_aload_n hx hb d_Rn_readNumber_121 rfl (lv_at hl 1 rfl) ?_
        refine lv_iconst (v := 3) hx hb d_Rn_readNumber_122 (by decide) ?_
        refine wx_cv (wS := fun v : TRn => w_R ad ca b v) (ws2 := fun v : TRn => w_R ad ca b v) (va_runV (As := [.int 3]) (rest := []) ⟨hx, hb, hml, hown, ht⟩ (c_Rn_fail l dC dI ad ca H.size b u 3 _ rfl) (cwV 1 ht (tb_V q_265 q_267 q_1 q_44 q_268) rfl rfl rfl p_Rn_fail ⟨show 0 + 1 ≤ rf + 8 by omega, show 8 + (2 + 11) + 0 ≤ rl + 184 by omega⟩) (wx_preV (wc := (w_R ad ca b u)) hN hK hP hD [0, 1, 2, 3, 4, 5, 6, 7, 8, 9, 10, 11, 12, 13, 14] [0, 1, 2, 3, 4, 5, 6, 7, 8, 9, 10, 11] rfl (by decide) rfl (ci := 2) (q0 := 0) rfl rfl) rfl rfl hl.1 rfl (lv_room (Nat.le_of_ble_eq_true rfl)) d_Rn_readNumber_123 ⟨Nat.zero_le _, Nat.zero_le _⟩) hP hD hS hA [0, 1, 2, 3, 4, 5, 6, 7, 8, 9, 10, 11, 12, 13, 14] [] [0, 1, 2, 3, 4, 5, 6, 7, 8, 9, 10, 11, 12, 13, 14] rfl rfl (by decide) (by decide) (by decide) (fun _ => rfl) (fun v_6 H locs hw_6 hP hD hS => ?_)
        have hP : va_P (dC, dI) vwCl (w_R ad ca b v_6) H := hP
        have hD : va_D A (w_R ad ca b v_6) := hD
        rw [← hw_6] at he
        try dsimp only at he
        refine lv_iload_n hx hb d_Rn_readNumber_126 rfl (lv_at hl 3 rfl) ?_
        refine lv_if_eq (tgt := 136) hx hb d_Rn_readNumber_127 (by decide) (fun c_7 => ?_) (fun c_7 => ?_)
        · have he := he.trans (if_pos c_7)
          refine lv_iload hx hb d_Rn_readNumber_136 (lv_at hl 0 rfl) ?_
          exact W.iret hx hb hr (v := 0) (fun t ht hW => ⟨⟨0, v_6, rfl, he.symm, by rw [ht]; exact hP, va_K.moved hW.alike hK, hD⟩, hS.F ht⟩) hS.2.2 d_Rn_readNumber_138
        · have he := he.trans (if_neg c_7)
          refine lv_iload hx hb d_Rn_readNumber_130 (lv_at hl 0 rfl) ?_
          refine lv_ineg hx hb d_Rn_readNumber_132 ?_
          refine lv_goto (tgt := 138) hx hb d_Rn_readNumber_133 (by decide) ?_
          exact W.iret hx hb hr (v := (-0)) (fun t ht hW => ⟨⟨(-0), v_6, rfl, he.symm, by rw [ht]; exact hP, va_K.moved hW.alike hK, hD⟩, hS.F ht⟩) hS.2.2 d_Rn_readNumber_138
      · have he := he.trans (if_pos c_5)
        refine lv_aload_n hx hb d_Rn_readNumber_108 rfl (lv_at hl 1 rfl) ?_
        refine va_get (D := (dC, dI)) (ci := 2) (v := .ref (ad 8)) (C := R_Rn) (T := T_Rn) (N := 12) hx hb ht i_Rn hown hK hP 0 rfl rfl 0 (by decide) (ht _ q_130) (fun _ h9 => h9) rfl d_Rn_readNumber_109 ?_
        refine lv_iload_n hx hb d_Rn_readNumber_112 rfl (lv_at hl 4 rfl) ?_
        refine wx_ci (wS := fun _ : Unit => w_B ad ca b) (ws2 := fun _ : Unit => w_R ad ca b u) (va_runV (As := [.int x3]) (rest := []) ⟨hx, hb, hml, hown, ht⟩ (c_Bk_valueOf l dC dI ad ca H.size b x3 _ rfl) (cwV 1 ht (tb_V q_281 q_282 q_283 q_43 q_284) rfl rfl rfl p_Bk_valueOf ⟨show 1 + 1 ≤ rf + 8 by omega, show 8 + (2 + 11) + 20 ≤ rl + 184 by omega⟩) (wx_preV (wc := (w_B ad ca b)) hN hK hP hD [8, 9, 10, 11, 12, 13, 14] [6, 7, 8, 9, 10, 11] rfl (by decide) rfl (ci := 0) (q0 := 0) rfl rfl) rfl rfl hl.1 rfl (lv_room (Nat.le_of_ble_eq_true rfl)) d_Rn_readNumber_113 ⟨Nat.zero_le _, Nat.zero_le _⟩) hP hD hS hA [8, 9, 10, 11, 12, 13, 14] [0, 1, 2, 3, 4, 5, 6, 7] [0, 1, 2, 3, 4, 5, 6, 7, 8, 9, 10, 11, 12, 13, 14] rfl rfl (by decide) (by decide) (by decide) (fun _ => rfl) (fun r_8 _ H locs hw_8 hP hD hS => ?_)
        subst hw_8
        have hP : va_P (dC, dI) vwCl (w_R ad ca b u) H := hP
        have hD : va_D A (w_R ad ca b u) := hD
        refine lv_istore (lv' := [(4, .int (f_Bk_valueOf b x3)), (0, .ref (ad 0)), (1, .int x1), (2, .int x2), (3, .int x3)]) hx hb d_Rn_readNumber_116 hl (by decide) rfl (fun ls hl => ?_)
        refine lv_goto (tgt := 126) hx hb d_Rn_readNumber_118 (by decide) ?_
        refine lv_iload_n hx hb d_Rn_readNumber_126 rfl (lv_at hl 3 rfl) ?_
        refine lv_if_eq (tgt := 136) hx hb d_Rn_readNumber_127 (by decide) (fun c_9 => ?_) (fun c_9 => ?_)
        · have he := he.trans (if_pos c_9)
          refine lv_iload hx hb d_Rn_readNumber_136 (lv_at hl 0 rfl) ?_
          exact W.iret hx hb hr (v := (f_Bk_valueOf b x3)) (fun t ht hW => ⟨⟨(f_Bk_valueOf b x3), u, rfl, he.symm, by rw [ht]; exact hP, va_K.moved hW.alike hK, hD⟩, hS.F ht⟩) hS.2.2 d_Rn_readNumber_138
        · have he := he.trans (if_neg c_9)
          refine lv_iload hx hb d_Rn_readNumber_130 (lv_at hl 0 rfl) ?_
          refine lv_ineg hx hb d_Rn_readNumber_132 ?_
          refine lv_goto (tgt := 138) hx hb d_Rn_readNumber_133 (by decide) ?_
          exact W.iret hx hb hr (v := (-(f_Bk_valueOf b x3))) (fun t ht hW => ⟨⟨(-(f_Bk_valueOf b x3)), u, rfl, he.symm, by rw [ht]; exact hP, va_K.moved hW.alike hK, hD⟩, hS.F ht⟩) hS.2.2 d_Rn_readNumber_138
    · have he := he.trans (if_neg c_3)
      refine lv_aload_n hx hb d_Rn_readNumber_85 rfl (lv_at hl 1 rfl) ?_
      refine lv_iload_n hx hb d_Rn_readNumber_86 rfl (lv_at hl 4 rfl) ?_
      refine lv_iload_n hx hb d_Rn_readNumber_87 rfl (lv_at hl 2 rfl) ?_
      refine wx_ci (wS := fun v : TRn => w_R ad ca b v) (ws2 := fun v : TRn => w_R ad ca b v) (va_runV (As := [.int x3, .int x1]) (rest := []) ⟨hx, hb, hml, hown, ht⟩ (c_Rn_readDigits l dC dI ad ca op rf rl k hopm hop H.size b u x3 x1 hc _ rfl) (cwV 2 ht (tb_V q_351 q_353 q_13 q_44 q_354) rfl rfl rfl p_Rn_readDigits ⟨show (rf + 7) + 1 ≤ rf + 8 by omega, show 8 + (6 + 11) + (rl + 159) ≤ rl + 184 by omega⟩) (wx_preV (wc := (w_R ad ca b u)) hN hK hP hD [0, 1, 2, 3, 4, 5, 6, 7, 8, 9, 10, 11, 12, 13, 14] [0, 1, 2, 3, 4, 5, 6, 7, 8, 9, 10, 11] rfl (by decide) rfl (ci := 2) (q0 := 0) rfl rfl) rfl rfl hl.1 rfl (lv_room (Nat.le_of_ble_eq_true rfl)) d_Rn_readNumber_88 ⟨Nat.zero_le _, Nat.zero_le _⟩) hP hD hS hA [0, 1, 2, 3, 4, 5, 6, 7, 8, 9, 10, 11, 12, 13, 14] [] [0, 1, 2, 3, 4, 5, 6, 7, 8, 9, 10, 11, 12, 13, 14] rfl rfl (by decide) (by decide) (by decide) (fun _ => rfl) (fun r_10 v_10 H locs hw_10 hP hD hS => ?_)
      have hP : va_P (dC, dI) vwCl (w_R ad ca b v_10) H := hP
      have hD : va_D A (w_R ad ca b v_10) := hD
      rw [← hw_10] at he
      try dsimp only at he
      refine lv_istore (lv' := [(4, .int r_10), (0, .ref (ad 0)), (1, .int x1), (2, .int x2), (3, .int x3)]) hx hb d_Rn_readNumber_91 hl (by decide) rfl (fun ls hl => ?_)
      refine lv_goto (tgt := 126) hx hb d_Rn_readNumber_93 (by decide) ?_
      refine lv_iload_n hx hb d_Rn_readNumber_126 rfl (lv_at hl 3 rfl) ?_
      refine lv_if_eq (tgt := 136) hx hb d_Rn_readNumber_127 (by decide) (fun c_11 => ?_) (fun c_11 => ?_)
      · have he := he.trans (if_pos c_11)
        refine lv_iload hx hb d_Rn_readNumber_136 (lv_at hl 0 rfl) ?_
        exact W.iret hx hb hr (v := r_10) (fun t ht hW => ⟨⟨r_10, v_10, rfl, he.symm, by rw [ht]; exact hP, va_K.moved hW.alike hK, hD⟩, hS.F ht⟩) hS.2.2 d_Rn_readNumber_138
      · have he := he.trans (if_neg c_11)
        refine lv_iload hx hb d_Rn_readNumber_130 (lv_at hl 0 rfl) ?_
        refine lv_ineg hx hb d_Rn_readNumber_132 ?_
        refine lv_goto (tgt := 138) hx hb d_Rn_readNumber_133 (by decide) ?_
        exact W.iret hx hb hr (v := (-r_10)) (fun t ht hW => ⟨⟨(-r_10), v_10, rfl, he.symm, by rw [ht]; exact hP, va_K.moved hW.alike hK, hD⟩, hS.F ht⟩) hS.2.2 d_Rn_readNumber_138
  · have he := he.trans (if_neg c_1)
    refine lv_iconst (v := 0) hx hb d_Rn_readNumber_73 (by decide) ?_
    exact W.iret hx hb hr (v := 0) (fun t ht hW => ⟨⟨0, u, rfl, he.symm, by rw [ht]; exact hP, va_K.moved hW.alike hK, hD⟩, hS.F ht⟩) hS.2.2 d_Rn_readNumber_74
noncomputable def f_Rn_readNumber_11 (op : TBk → TRn → Int32 → TRn) : Nat → TBk → TRn → Int32 → Int32 → Int32 → Int32 → (Int32 × TRn)
  | 0, _, u, _, _, _, _ => (0, u)
  | n + 1, b, u, x1, x2, x3, x4 => (if 1000000 ≤ x4 then (f_Rn_readNumber_66 op b u x1 x2 x3) else (if x3 = 3115 then (if x3 = 3117 then (if x2 = 1 then (match f_Rn_readGoneOnWith op b u x1 with | (r_8, v_8) => (f_Rn_readNumber_11 op n b v_8 x1 0 r_8 (x4 + 1))) else (match f_Rn_readGoneOnWith op b u x1 with | (r_9, v_9) => (f_Rn_readNumber_11 op n b v_9 x1 1 r_9 (x4 + 1)))) else (if x2 = 0 then (match f_Rn_readGoneOnWith op b u x1 with | (r_5, v_5) => (f_Rn_readNumber_11 op n b v_5 x1 0 r_5 (x4 + 1))) else (match f_Rn_readGoneOnWith op b u x1 with | (r_6, v_6) => (f_Rn_readNumber_11 op n b v_6 x1 1 r_6 (x4 + 1))))) else (if x3 = 3117 then (if x2 = 1 then (match f_Rn_readGoneOnWith op b u x1 with | (r_13, v_13) => (f_Rn_readNumber_11 op n b v_13 x1 0 r_13 (x4 + 1))) else (match f_Rn_readGoneOnWith op b u x1 with | (r_14, v_14) => (f_Rn_readNumber_11 op n b v_14 x1 1 r_14 (x4 + 1)))) else (f_Rn_readNumber_66 op b u x1 x2 x3))))
set_option maxHeartbeats 4000000 in
set_option maxRecDepth 100000 in
theorem k_Rn_readNumber_11 {p : Program} {e : Env} {s : State} {m : MethodId} {args : Array Value} {below : List Frame} {meth : Method} {c : Code} {A : Nat → Prop} (l : Launch) (dC : Nat → ClassId) (dI : Nat → Nat → Nat) (ad : Nat → Nat) (ca : Nat → ClassId) (op : TBk → TRn → Int32 → TRn) (rf rl : Nat) (k : Int) (hopm : ∀ (b : TBk) (u : TRn) (w : Int32), k ≤ oc u → oc u ≤ oc (op b u w)) (hop : ∀ (sz : Nat) (b : TBk) (u : TRn) (w : Int32), BkS b ∧ k ≤ oc u → wx_Mv l y_Rn_open ws_Rn_open ({ frames := rf, cells := 0, slots := 0, locals := rl } : Room) (dC, dI) vwCl (t_R ca) [.ref (ad 0), .int w] (w_R ad ca b u) sz (fun v : TRn => w_R ad ca b v) (fun v : TRn => v = op b u w)) (C0 : wx_C p s m args meth c b_Rn_readNumber (some .int) 5 R_Rn A (dC, dI) vwCl (t_R ca)) (F : (Int32 × TRn)) : ∀ (n : Nat) (b : TBk) (u : TRn) (x1 : Int32) (x2 : Int32) (x3 : Int32) (x4 : Int32), ((BkS b ∧ k ≤ x1.toInt ∧ x1.toInt ≤ oc u) ∧ TLn 1000000 x4 n) → F = f_Rn_readNumber_11 op n b u x1 x2 x3 x4 → ∀ (H : Heap) (locs : List Loc), va_P (dC, dI) vwCl (w_R ad ca b u) H → va_D A (w_R ad ca b u) → va_S A s.heap H locs → ∀ (ls : Array Slot), lv_has ls 5 [(0, .ref (ad 0)), (1, .int x1), (2, .int x2), (3, .int x3), (4, .int x4)] → W p l e ({ frames := rf + 8, cells := 0, slots := 0, locals := rl + 184 } : Room) s m args below meth c H locs 0 0 (MQ below (va_Qi (fun (r : Int32) (v : TRn) => (r, v) = F) (wx_B (dC, dI) vwCl (t_R ca) (fun v : TRn => w_R ad ca b v) A) A) args s 0 0 A) (F0 m 11 ls []) := by
  have C1 := C0
  obtain ⟨hx, hb, hr, hml, hown, ht, hlocks, hA, hK, hN⟩ := C1
  intro n
  induction n with
  | zero =>
    intro b u x1 x2 x3 x4 hc he
    exact absurd hc (fun h => TLn_0 h.2)
  | succ n ih =>
    intro b u x1 x2 x3 x4 hc he H locs hP hD hS ls hl
    rw [f_Rn_readNumber_11] at he
    refine lv_iload hx hb d_Rn_readNumber_11 (lv_at hl 4 rfl) ?_
    refine lv_ldc (v := 1000000) hx hb hown (ht _ q_255) d_Rn_readNumber_13 ?_
    refine lv_icmp_ge (tgt := 66) hx hb d_Rn_readNumber_15 (by decide) (fun c_1 => ?_) (fun c_1 => ?_)
    · have he := he.trans (if_pos c_1)
      exact k_Rn_readNumber_66 l dC dI ad ca op rf rl k hopm hop C0 F b u x1 x2 x3 hc.1 he _ _ hP hD hS _ (lv_sub hl [0, 1, 2, 3] rfl)
    · have he := he.trans (if_neg c_1)
      refine lv_iload_n hx hb d_Rn_readNumber_18 rfl (lv_at hl 3 rfl) ?_
      refine lv_sipush (v := 3115) hx hb d_Rn_readNumber_19 (by decide) ?_
      refine lv_icmp_eq (tgt := 32) hx hb d_Rn_readNumber_22 (by decide) (fun c_2 => ?_) (fun c_2 => ?_)
      · have he := he.trans (if_pos c_2)
        refine lv_iload_n hx hb d_Rn_readNumber_32 rfl (lv_at hl 2 rfl) ?_
        refine lv_iload_n hx hb d_Rn_readNumber_33 rfl (lv_at hl 3 rfl) ?_
        refine lv_sipush (v := 3117) hx hb d_Rn_readNumber_34 (by decide) ?_
        refine lv_icmp_ne (tgt := 44) hx hb d_Rn_readNumber_37 (by decide) (fun c_3 => ?_) (fun c_3 => ?_)
        · have he := he.trans (if_neg c_3)
          refine lv_iconst (v := 0) hx hb d_Rn_readNumber_44 (by decide) ?_
          refine lv_icmp_eq (tgt := 52) hx hb d_Rn_readNumber_45 (by decide) (fun c_4 => ?_) (fun c_4 => ?_)
          · have he := he.trans (if_pos c_4)
            refine lv_iconst (v := 0) hx hb d_Rn_readNumber_52 (by decide) ?_
            refine lv_istore_n (lv' := [(2, .int 0), (0, .ref (ad 0)), (1, .int x1), (3, .int x3), (4, .int x4)]) hx hb d_Rn_readNumber_53 rfl hl (by decide) rfl (fun ls hl => ?_)
            refine lv_aload_n hx hb d_Rn_readNumber_54 rfl (lv_at hl 1 rfl) ?_
            refine lv_iload_n hx hb d_Rn_readNumber_55 rfl (lv_at hl 2 rfl) ?_
            refine wx_ci (wS := fun v : TRn => w_R ad ca b v) (ws2 := fun v : TRn => w_R ad ca b v) (va_runV (As := [.int x1]) (rest := []) ⟨hx, hb, hml, hown, ht⟩ (c_Rn_readGoneOnWith l dC dI ad ca op rf rl k hopm hop H.size b u x1 hc.1 _ rfl) (cwV 1 ht (tb_V q_305 q_307 q_7 q_44 q_308) rfl rfl rfl p_Rn_readGoneOnWith ⟨show (rf + 6) + 1 ≤ rf + 8 by omega, show 8 + (4 + 11) + (rl + 136) ≤ rl + 184 by omega⟩) (wx_preV (wc := (w_R ad ca b u)) hN hK hP hD [0, 1, 2, 3, 4, 5, 6, 7, 8, 9, 10, 11, 12, 13, 14] [0, 1, 2, 3, 4, 5, 6, 7, 8, 9, 10, 11] rfl (by decide) rfl (ci := 2) (q0 := 0) rfl rfl) rfl rfl hl.1 rfl (lv_room (Nat.le_of_ble_eq_true rfl)) d_Rn_readNumber_56 ⟨Nat.zero_le _, Nat.zero_le _⟩) hP hD hS hA [0, 1, 2, 3, 4, 5, 6, 7, 8, 9, 10, 11, 12, 13, 14] [] [0, 1, 2, 3, 4, 5, 6, 7, 8, 9, 10, 11, 12, 13, 14] rfl rfl (by decide) (by decide) (by decide) (fun _ => rfl) (fun r_5 v_5 H locs hw_5 hP hD hS => ?_)
            have hP : va_P (dC, dI) vwCl (w_R ad ca b v_5) H := hP
            have hD : va_D A (w_R ad ca b v_5) := hD
            rw [← hw_5] at he
            try dsimp only at he
            refine lv_istore_n (lv' := [(3, .int r_5), (2, .int 0), (0, .ref (ad 0)), (1, .int x1), (4, .int x4)]) hx hb d_Rn_readNumber_59 rfl hl (by decide) rfl (fun ls hl => ?_)
            refine lv_iinc (v := (x4 + 1)) (lv' := [(4, .int (x4 + 1)), (3, .int r_5), (2, .int 0), (0, .ref (ad 0)), (1, .int x1)]) hx hb d_Rn_readNumber_60 hl (k := 4) rfl rfl (by decide) rfl (fun ls hl => ?_)
            refine lv_goto (tgt := 11) hx hb d_Rn_readNumber_63 (by decide) ?_
            exact ih b v_5 x1 0 r_5 (x4 + 1) ⟨⟨hc.1.1, hc.1.2.1, oc_rg op k hopm hw_5 hc.1.2.1 hc.1.2.2⟩, TLn_s hc.2 (by decide) c_1⟩ he _ _ hP hD hS _ (lv_sub hl [3, 4, 2, 1, 0] rfl)
          · have he := he.trans (if_neg c_4)
            refine lv_iconst (v := 1) hx hb d_Rn_readNumber_48 (by decide) ?_
            refine lv_goto (tgt := 53) hx hb d_Rn_readNumber_49 (by decide) ?_
            refine lv_istore_n (lv' := [(2, .int 1), (0, .ref (ad 0)), (1, .int x1), (3, .int x3), (4, .int x4)]) hx hb d_Rn_readNumber_53 rfl hl (by decide) rfl (fun ls hl => ?_)
            refine lv_aload_n hx hb d_Rn_readNumber_54 rfl (lv_at hl 1 rfl) ?_
            refine lv_iload_n hx hb d_Rn_readNumber_55 rfl (lv_at hl 2 rfl) ?_
            refine wx_ci (wS := fun v : TRn => w_R ad ca b v) (ws2 := fun v : TRn => w_R ad ca b v) (va_runV (As := [.int x1]) (rest := []) ⟨hx, hb, hml, hown, ht⟩ (c_Rn_readGoneOnWith l dC dI ad ca op rf rl k hopm hop H.size b u x1 hc.1 _ rfl) (cwV 1 ht (tb_V q_305 q_307 q_7 q_44 q_308) rfl rfl rfl p_Rn_readGoneOnWith ⟨show (rf + 6) + 1 ≤ rf + 8 by omega, show 8 + (4 + 11) + (rl + 136) ≤ rl + 184 by omega⟩) (wx_preV (wc := (w_R ad ca b u)) hN hK hP hD [0, 1, 2, 3, 4, 5, 6, 7, 8, 9, 10, 11, 12, 13, 14] [0, 1, 2, 3, 4, 5, 6, 7, 8, 9, 10, 11] rfl (by decide) rfl (ci := 2) (q0 := 0) rfl rfl) rfl rfl hl.1 rfl (lv_room (Nat.le_of_ble_eq_true rfl)) d_Rn_readNumber_56 ⟨Nat.zero_le _, Nat.zero_le _⟩) hP hD hS hA [0, 1, 2, 3, 4, 5, 6, 7, 8, 9, 10, 11, 12, 13, 14] [] [0, 1, 2, 3, 4, 5, 6, 7, 8, 9, 10, 11, 12, 13, 14] rfl rfl (by decide) (by decide) (by decide) (fun _ => rfl) (fun r_6 v_6 H locs hw_6 hP hD hS => ?_)
            have hP : va_P (dC, dI) vwCl (w_R ad ca b v_6) H := hP
            have hD : va_D A (w_R ad ca b v_6) := hD
            rw [← hw_6] at he
            try dsimp only at he
            refine lv_istore_n (lv' := [(3, .int r_6), (2, .int 1), (0, .ref (ad 0)), (1, .int x1), (4, .int x4)]) hx hb d_Rn_readNumber_59 rfl hl (by decide) rfl (fun ls hl => ?_)
            refine lv_iinc (v := (x4 + 1)) (lv' := [(4, .int (x4 + 1)), (3, .int r_6), (2, .int 1), (0, .ref (ad 0)), (1, .int x1)]) hx hb d_Rn_readNumber_60 hl (k := 4) rfl rfl (by decide) rfl (fun ls hl => ?_)
            refine lv_goto (tgt := 11) hx hb d_Rn_readNumber_63 (by decide) ?_
            exact ih b v_6 x1 1 r_6 (x4 + 1) ⟨⟨hc.1.1, hc.1.2.1, oc_rg op k hopm hw_6 hc.1.2.1 hc.1.2.2⟩, TLn_s hc.2 (by decide) c_1⟩ he _ _ hP hD hS _ (lv_sub hl [3, 4, 2, 1, 0] rfl)
        · have he := he.trans (if_pos c_3)
          refine lv_iconst (v := 1) hx hb d_Rn_readNumber_40 (by decide) ?_
          refine lv_goto (tgt := 45) hx hb d_Rn_readNumber_41 (by decide) ?_
          refine lv_icmp_eq (tgt := 52) hx hb d_Rn_readNumber_45 (by decide) (fun c_7 => ?_) (fun c_7 => ?_)
          · have he := he.trans (if_pos c_7)
            refine lv_iconst (v := 0) hx hb d_Rn_readNumber_52 (by decide) ?_
            refine lv_istore_n (lv' := [(2, .int 0), (0, .ref (ad 0)), (1, .int x1), (3, .int x3), (4, .int x4)]) hx hb d_Rn_readNumber_53 rfl hl (by decide) rfl (fun ls hl => ?_)
            refine lv_aload_n hx hb d_Rn_readNumber_54 rfl (lv_at hl 1 rfl) ?_
            refine lv_iload_n hx hb d_Rn_readNumber_55 rfl (lv_at hl 2 rfl) ?_
            refine wx_ci (wS := fun v : TRn => w_R ad ca b v) (ws2 := fun v : TRn => w_R ad ca b v) (va_runV (As := [.int x1]) (rest := []) ⟨hx, hb, hml, hown, ht⟩ (c_Rn_readGoneOnWith l dC dI ad ca op rf rl k hopm hop H.size b u x1 hc.1 _ rfl) (cwV 1 ht (tb_V q_305 q_307 q_7 q_44 q_308) rfl rfl rfl p_Rn_readGoneOnWith ⟨show (rf + 6) + 1 ≤ rf + 8 by omega, show 8 + (4 + 11) + (rl + 136) ≤ rl + 184 by omega⟩) (wx_preV (wc := (w_R ad ca b u)) hN hK hP hD [0, 1, 2, 3, 4, 5, 6, 7, 8, 9, 10, 11, 12, 13, 14] [0, 1, 2, 3, 4, 5, 6, 7, 8, 9, 10, 11] rfl (by decide) rfl (ci := 2) (q0 := 0) rfl rfl) rfl rfl hl.1 rfl (lv_room (Nat.le_of_ble_eq_true rfl)) d_Rn_readNumber_56 ⟨Nat.zero_le _, Nat.zero_le _⟩) hP hD hS hA [0, 1, 2, 3, 4, 5, 6, 7, 8, 9, 10, 11, 12, 13, 14] [] [0, 1, 2, 3, 4, 5, 6, 7, 8, 9, 10, 11, 12, 13, 14] rfl rfl (by decide) (by decide) (by decide) (fun _ => rfl) (fun r_8 v_8 H locs hw_8 hP hD hS => ?_)
            have hP : va_P (dC, dI) vwCl (w_R ad ca b v_8) H := hP
            have hD : va_D A (w_R ad ca b v_8) := hD
            rw [← hw_8] at he
            try dsimp only at he
            refine lv_istore_n (lv' := [(3, .int r_8), (2, .int 0), (0, .ref (ad 0)), (1, .int x1), (4, .int x4)]) hx hb d_Rn_readNumber_59 rfl hl (by decide) rfl (fun ls hl => ?_)
            refine lv_iinc (v := (x4 + 1)) (lv' := [(4, .int (x4 + 1)), (3, .int r_8), (2, .int 0), (0, .ref (ad 0)), (1, .int x1)]) hx hb d_Rn_readNumber_60 hl (k := 4) rfl rfl (by decide) rfl (fun ls hl => ?_)
            refine lv_goto (tgt := 11) hx hb d_Rn_readNumber_63 (by decide) ?_
            exact ih b v_8 x1 0 r_8 (x4 + 1) ⟨⟨hc.1.1, hc.1.2.1, oc_rg op k hopm hw_8 hc.1.2.1 hc.1.2.2⟩, TLn_s hc.2 (by decide) c_1⟩ he _ _ hP hD hS _ (lv_sub hl [3, 4, 2, 1, 0] rfl)
          · have he := he.trans (if_neg c_7)
            refine lv_iconst (v := 1) hx hb d_Rn_readNumber_48 (by decide) ?_
            refine lv_goto (tgt := 53) hx hb d_Rn_readNumber_49 (by decide) ?_
            refine lv_istore_n (lv' := [(2, .int 1), (0, .ref (ad 0)), (1, .int x1), (3, .int x3), (4, .int x4)]) hx hb d_Rn_readNumber_53 rfl hl (by decide) rfl (fun ls hl => ?_)
            refine lv_aload_n hx hb d_Rn_readNumber_54 rfl (lv_at hl 1 rfl) ?_
            refine lv_iload_n hx hb d_Rn_readNumber_55 rfl (lv_at hl 2 rfl) ?_
            refine wx_ci (wS := fun v : TRn => w_R ad ca b v) (ws2 := fun v : TRn => w_R ad ca b v) (va_runV (As := [.int x1]) (rest := []) ⟨hx, hb, hml, hown, ht⟩ (c_Rn_readGoneOnWith l dC dI ad ca op rf rl k hopm hop H.size b u x1 hc.1 _ rfl) (cwV 1 ht (tb_V q_305 q_307 q_7 q_44 q_308) rfl rfl rfl p_Rn_readGoneOnWith ⟨show (rf + 6) + 1 ≤ rf + 8 by omega, show 8 + (4 + 11) + (rl + 136) ≤ rl + 184 by omega⟩) (wx_preV (wc := (w_R ad ca b u)) hN hK hP hD [0, 1, 2, 3, 4, 5, 6, 7, 8, 9, 10, 11, 12, 13, 14] [0, 1, 2, 3, 4, 5, 6, 7, 8, 9, 10, 11] rfl (by decide) rfl (ci := 2) (q0 := 0) rfl rfl) rfl rfl hl.1 rfl (lv_room (Nat.le_of_ble_eq_true rfl)) d_Rn_readNumber_56 ⟨Nat.zero_le _, Nat.zero_le _⟩) hP hD hS hA [0, 1, 2, 3, 4, 5, 6, 7, 8, 9, 10, 11, 12, 13, 14] [] [0, 1, 2, 3, 4, 5, 6, 7, 8, 9, 10, 11, 12, 13, 14] rfl rfl (by decide) (by decide) (by decide) (fun _ => rfl) (fun r_9 v_9 H locs hw_9 hP hD hS => ?_)
            have hP : va_P (dC, dI) vwCl (w_R ad ca b v_9) H := hP
            have hD : va_D A (w_R ad ca b v_9) := hD
            rw [← hw_9] at he
            try dsimp only at he
            refine lv_istore_n (lv' := [(3, .int r_9), (2, .int 1), (0, .ref (ad 0)), (1, .int x1), (4, .int x4)]) hx hb d_Rn_readNumber_59 rfl hl (by decide) rfl (fun ls hl => ?_)
            refine lv_iinc (v := (x4 + 1)) (lv' := [(4, .int (x4 + 1)), (3, .int r_9), (2, .int 1), (0, .ref (ad 0)), (1, .int x1)]) hx hb d_Rn_readNumber_60 hl (k := 4) rfl rfl (by decide) rfl (fun ls hl => ?_)
            refine lv_goto (tgt := 11) hx hb d_Rn_readNumber_63 (by decide) ?_
            exact ih b v_9 x1 1 r_9 (x4 + 1) ⟨⟨hc.1.1, hc.1.2.1, oc_rg op k hopm hw_9 hc.1.2.1 hc.1.2.2⟩, TLn_s hc.2 (by decide) c_1⟩ he _ _ hP hD hS _ (lv_sub hl [3, 4, 2, 1, 0] rfl)
      · have he := he.trans (if_neg c_2)
        refine lv_iload_n hx hb d_Rn_readNumber_25 rfl (lv_at hl 3 rfl) ?_
        refine lv_sipush (v := 3117) hx hb d_Rn_readNumber_26 (by decide) ?_
        refine lv_icmp_ne (tgt := 66) hx hb d_Rn_readNumber_29 (by decide) (fun c_10 => ?_) (fun c_10 => ?_)
        · have he := he.trans (if_neg c_10)
          exact k_Rn_readNumber_66 l dC dI ad ca op rf rl k hopm hop C0 F b u x1 x2 x3 hc.1 he _ _ hP hD hS _ (lv_sub hl [0, 1, 2, 3] rfl)
        · have he := he.trans (if_pos c_10)
          refine lv_iload_n hx hb d_Rn_readNumber_32 rfl (lv_at hl 2 rfl) ?_
          refine lv_iload_n hx hb d_Rn_readNumber_33 rfl (lv_at hl 3 rfl) ?_
          refine lv_sipush (v := 3117) hx hb d_Rn_readNumber_34 (by decide) ?_
          refine lv_icmp_ne (tgt := 44) hx hb d_Rn_readNumber_37 (by decide) (fun c_11 => ?_) (fun c_11 => ?_)
          · exact absurd c_10 c_11
          · refine lv_iconst (v := 1) hx hb d_Rn_readNumber_40 (by decide) ?_
            refine lv_goto (tgt := 45) hx hb d_Rn_readNumber_41 (by decide) ?_
            refine lv_icmp_eq (tgt := 52) hx hb d_Rn_readNumber_45 (by decide) (fun c_12 => ?_) (fun c_12 => ?_)
            · have he := he.trans (if_pos c_12)
              refine lv_iconst (v := 0) hx hb d_Rn_readNumber_52 (by decide) ?_
              refine lv_istore_n (lv' := [(2, .int 0), (0, .ref (ad 0)), (1, .int x1), (3, .int x3), (4, .int x4)]) hx hb d_Rn_readNumber_53 rfl hl (by decide) rfl (fun ls hl => ?_)
              refine lv_aload_n hx hb d_Rn_readNumber_54 rfl (lv_at hl 1 rfl) ?_
              refine lv_iload_n hx hb d_Rn_readNumber_55 rfl (lv_at hl 2 rfl) ?_
              refine wx_ci (wS := fun v : TRn => w_R ad ca b v) (ws2 := fun v : TRn => w_R ad ca b v) (va_runV (As := [.int x1]) (rest := []) ⟨hx, hb, hml, hown, ht⟩ (c_Rn_readGoneOnWith l dC dI ad ca op rf rl k hopm hop H.size b u x1 hc.1 _ rfl) (cwV 1 ht (tb_V q_305 q_307 q_7 q_44 q_308) rfl rfl rfl p_Rn_readGoneOnWith ⟨show (rf + 6) + 1 ≤ rf + 8 by omega, show 8 + (4 + 11) + (rl + 136) ≤ rl + 184 by omega⟩) (wx_preV (wc := (w_R ad ca b u)) hN hK hP hD [0, 1, 2, 3, 4, 5, 6, 7, 8, 9, 10, 11, 12, 13, 14] [0, 1, 2, 3, 4, 5, 6, 7, 8, 9, 10, 11] rfl (by decide) rfl (ci := 2) (q0 := 0) rfl rfl) rfl rfl hl.1 rfl (lv_room (Nat.le_of_ble_eq_true rfl)) d_Rn_readNumber_56 ⟨Nat.zero_le _, Nat.zero_le _⟩) hP hD hS hA [0, 1, 2, 3, 4, 5, 6, 7, 8, 9, 10, 11, 12, 13, 14] [] [0, 1, 2, 3, 4, 5, 6, 7, 8, 9, 10, 11, 12, 13, 14] rfl rfl (by decide) (by decide) (by decide) (fun _ => rfl) (fun r_13 v_13 H locs hw_13 hP hD hS => ?_)
              have hP : va_P (dC, dI) vwCl (w_R ad ca b v_13) H := hP
              have hD : va_D A (w_R ad ca b v_13) := hD
              rw [← hw_13] at he
              try dsimp only at he
              refine lv_istore_n (lv' := [(3, .int r_13), (2, .int 0), (0, .ref (ad 0)), (1, .int x1), (4, .int x4)]) hx hb d_Rn_readNumber_59 rfl hl (by decide) rfl (fun ls hl => ?_)
              refine lv_iinc (v := (x4 + 1)) (lv' := [(4, .int (x4 + 1)), (3, .int r_13), (2, .int 0), (0, .ref (ad 0)), (1, .int x1)]) hx hb d_Rn_readNumber_60 hl (k := 4) rfl rfl (by decide) rfl (fun ls hl => ?_)
              refine lv_goto (tgt := 11) hx hb d_Rn_readNumber_63 (by decide) ?_
              exact ih b v_13 x1 0 r_13 (x4 + 1) ⟨⟨hc.1.1, hc.1.2.1, oc_rg op k hopm hw_13 hc.1.2.1 hc.1.2.2⟩, TLn_s hc.2 (by decide) c_1⟩ he _ _ hP hD hS _ (lv_sub hl [3, 4, 2, 1, 0] rfl)
            · have he := he.trans (if_neg c_12)
              refine lv_iconst (v := 1) hx hb d_Rn_readNumber_48 (by decide) ?_
              refine lv_goto (tgt := 53) hx hb d_Rn_readNumber_49 (by decide) ?_
              refine lv_istore_n (lv' := [(2, .int 1), (0, .ref (ad 0)), (1, .int x1), (3, .int x3), (4, .int x4)]) hx hb d_Rn_readNumber_53 rfl hl (by decide) rfl (fun ls hl => ?_)
              refine lv_aload_n hx hb d_Rn_readNumber_54 rfl (lv_at hl 1 rfl) ?_
              refine lv_iload_n hx hb d_Rn_readNumber_55 rfl (lv_at hl 2 rfl) ?_
              refine wx_ci (wS := fun v : TRn => w_R ad ca b v) (ws2 := fun v : TRn => w_R ad ca b v) (va_runV (As := [.int x1]) (rest := []) ⟨hx, hb, hml, hown, ht⟩ (c_Rn_readGoneOnWith l dC dI ad ca op rf rl k hopm hop H.size b u x1 hc.1 _ rfl) (cwV 1 ht (tb_V q_305 q_307 q_7 q_44 q_308) rfl rfl rfl p_Rn_readGoneOnWith ⟨show (rf + 6) + 1 ≤ rf + 8 by omega, show 8 + (4 + 11) + (rl + 136) ≤ rl + 184 by omega⟩) (wx_preV (wc := (w_R ad ca b u)) hN hK hP hD [0, 1, 2, 3, 4, 5, 6, 7, 8, 9, 10, 11, 12, 13, 14] [0, 1, 2, 3, 4, 5, 6, 7, 8, 9, 10, 11] rfl (by decide) rfl (ci := 2) (q0 := 0) rfl rfl) rfl rfl hl.1 rfl (lv_room (Nat.le_of_ble_eq_true rfl)) d_Rn_readNumber_56 ⟨Nat.zero_le _, Nat.zero_le _⟩) hP hD hS hA [0, 1, 2, 3, 4, 5, 6, 7, 8, 9, 10, 11, 12, 13, 14] [] [0, 1, 2, 3, 4, 5, 6, 7, 8, 9, 10, 11, 12, 13, 14] rfl rfl (by decide) (by decide) (by decide) (fun _ => rfl) (fun r_14 v_14 H locs hw_14 hP hD hS => ?_)
              have hP : va_P (dC, dI) vwCl (w_R ad ca b v_14) H := hP
              have hD : va_D A (w_R ad ca b v_14) := hD
              rw [← hw_14] at he
              try dsimp only at he
              refine lv_istore_n (lv' := [(3, .int r_14), (2, .int 1), (0, .ref (ad 0)), (1, .int x1), (4, .int x4)]) hx hb d_Rn_readNumber_59 rfl hl (by decide) rfl (fun ls hl => ?_)
              refine lv_iinc (v := (x4 + 1)) (lv' := [(4, .int (x4 + 1)), (3, .int r_14), (2, .int 1), (0, .ref (ad 0)), (1, .int x1)]) hx hb d_Rn_readNumber_60 hl (k := 4) rfl rfl (by decide) rfl (fun ls hl => ?_)
              refine lv_goto (tgt := 11) hx hb d_Rn_readNumber_63 (by decide) ?_
              exact ih b v_14 x1 1 r_14 (x4 + 1) ⟨⟨hc.1.1, hc.1.2.1, oc_rg op k hopm hw_14 hc.1.2.1 hc.1.2.2⟩, TLn_s hc.2 (by decide) c_1⟩ he _ _ hP hD hS _ (lv_sub hl [3, 4, 2, 1, 0] rfl)
noncomputable def f_Rn_readNumber (op : TBk → TRn → Int32 → TRn) (b : TBk) (u : TRn) (p0 : Int32) : (Int32 × TRn) := (match f_Rn_readGoneOnWith op b u p0 with | (r_1, v_1) => (f_Rn_readNumber_11 op TM b v_1 p0 0 r_1 0))
set_option maxHeartbeats 4000000 in
set_option maxRecDepth 100000 in
theorem c_Rn_readNumber (l : Launch) (dC : Nat → ClassId) (dI : Nat → Nat → Nat) (ad : Nat → Nat) (ca : Nat → ClassId) (op : TBk → TRn → Int32 → TRn) (rf rl : Nat) (k : Int) (hopm : ∀ (b : TBk) (u : TRn) (w : Int32), k ≤ oc u → oc u ≤ oc (op b u w)) (hop : ∀ (sz : Nat) (b : TBk) (u : TRn) (w : Int32), BkS b ∧ k ≤ oc u → wx_Mv l y_Rn_open ws_Rn_open ({ frames := rf, cells := 0, slots := 0, locals := rl } : Room) (dC, dI) vwCl (t_R ca) [.ref (ad 0), .int w] (w_R ad ca b u) sz (fun v : TRn => w_R ad ca b v) (fun v : TRn => v = op b u w)) (sz : Nat) (b : TBk) (u : TRn) (p0 : Int32) (hpre : BkS b ∧ k ≤ p0.toInt ∧ p0.toInt ≤ oc u) (F : (Int32 × TRn)) (he : F = f_Rn_readNumber op b u p0) : wx_Mi l y_Rn_readNumber ws_Rn_readNumber ({ frames := rf + 8, cells := 0, slots := 0, locals := rl + 184 } : Room) (dC, dI) vwCl (t_R ca) [.ref (ad 0), .int p0] (w_R ad ca b u) sz (fun v : TRn => w_R ad ca b v) (fun (r : Int32) (v : TRn) => (r, v) = F) := by
  refine Met.ofW (cc := b_Rn_readNumber) (maxL := 5) (ret := some .int) (by decide) rfl ?_
  intro p e s m args below meth c s₁ B hml hv
  obtain ⟨rfl, hsz, hP, hK, hD0, hN⟩ := hv
  have hx := B.exec
  have hb := B.bytes
  have hr := B.returns
  have hts := atoms_spec (ws := ws_Rn_readNumber) B.pre
  have ht : ∀ w ∈ TB, w.before _ s = true := fun w h => hts w (List.mem_cons_of_mem _ h)
  have hown : s.vm.findClass R_Rn = some m.cls := findClass_of_methodNamed B.named
  have hlocks := B.notSynchronized
  subst hsz
  have hD := hD0.self (sz := s.heap.size)
  generalize hAe : va_A (w_R ad ca b u) s.heap.size = A at hD ⊢
  have hA : ∀ q : Nat, s.heap.size ≤ q → A q := fun q h => by rw [← hAe]; exact Or.inr h
  have hS : va_S A s.heap s.heap [] := va_S.rf
  have C0 : wx_C p s m ([.ref (ad 0), .int p0] : List Value).toArray meth c b_Rn_readNumber (some .int) 5 R_Rn A (dC, dI) vwCl (t_R ca) := ⟨hx, hb, hr, hml, hown, ht, hlocks, hA, hK, hN⟩
  have hl := lv_entry ([.ref (ad 0), .int p0]) (n := 5) (Nat.le_of_ble_eq_true rfl)
  rw [lg_entry_eq]
  generalize (lg_sl ([.ref (ad 0), .int p0]) ++ List.replicate (5 - (lg_sl ([.ref (ad 0), .int p0])).length) Slot.unset).toArray = ls at hl ⊢
  have hl : lv_has ls 5 [(0, .ref (ad 0)), (1, .int p0)] := hl
  unfold f_Rn_readNumber at he
  refine lv_iconst (v := 0) hx hb d_Rn_readNumber_0 (by decide) ?_
  refine lv_istore_n (lv' := [(2, .int 0), (0, .ref (ad 0)), (1, .int p0)]) hx hb d_Rn_readNumber_1 rfl hl (by decide) rfl (fun ls hl => ?_)
  refine lv_aload_n hx hb d_Rn_readNumber_2 rfl (lv_at hl 1 rfl) ?_
  refine lv_iload_n hx hb d_Rn_readNumber_3 rfl (lv_at hl 2 rfl) ?_
  refine wx_ci (wS := fun v : TRn => w_R ad ca b v) (ws2 := fun v : TRn => w_R ad ca b v) (va_runV (As := [.int p0]) (rest := []) ⟨hx, hb, hml, hown, ht⟩ (c_Rn_readGoneOnWith l dC dI ad ca op rf rl k hopm hop s.heap.size b u p0 hpre _ rfl) (cwV 1 ht (tb_V q_305 q_307 q_7 q_44 q_308) rfl rfl rfl p_Rn_readGoneOnWith ⟨show (rf + 6) + 1 ≤ rf + 8 by omega, show 8 + (4 + 11) + (rl + 136) ≤ rl + 184 by omega⟩) (wx_preV (wc := (w_R ad ca b u)) hN hK hP hD [0, 1, 2, 3, 4, 5, 6, 7, 8, 9, 10, 11, 12, 13, 14] [0, 1, 2, 3, 4, 5, 6, 7, 8, 9, 10, 11] rfl (by decide) rfl (ci := 2) (q0 := 0) rfl rfl) rfl rfl hl.1 rfl (lv_room (Nat.le_of_ble_eq_true rfl)) d_Rn_readNumber_4 ⟨Nat.zero_le _, Nat.zero_le _⟩) hP hD hS hA [0, 1, 2, 3, 4, 5, 6, 7, 8, 9, 10, 11, 12, 13, 14] [] [0, 1, 2, 3, 4, 5, 6, 7, 8, 9, 10, 11, 12, 13, 14] rfl rfl (by decide) (by decide) (by decide) (fun _ => rfl) (fun r_1 v_1 H locs hw_1 hP hD hS => ?_)
  have hP : va_P (dC, dI) vwCl (w_R ad ca b v_1) H := hP
  have hD : va_D A (w_R ad ca b v_1) := hD
  rw [← hw_1] at he
  try dsimp only at he
  refine lv_istore_n (lv' := [(3, .int r_1), (2, .int 0), (0, .ref (ad 0)), (1, .int p0)]) hx hb d_Rn_readNumber_7 rfl hl (by decide) rfl (fun ls hl => ?_)
  refine lv_iconst (v := 0) hx hb d_Rn_readNumber_8 (by decide) ?_
  refine lv_istore (lv' := [(4, .int 0), (3, .int r_1), (2, .int 0), (0, .ref (ad 0)), (1, .int p0)]) hx hb d_Rn_readNumber_9 hl (by decide) rfl (fun ls hl => ?_)
  exact k_Rn_readNumber_11 l dC dI ad ca op rf rl k hopm hop C0 F TM b v_1 p0 0 r_1 0 ⟨⟨hpre.1, hpre.2.1, oc_rg op k hopm hw_1 hpre.2.1 hpre.2.2⟩, TLn_m⟩ he _ _ hP hD hS _ (lv_sub hl [3, 4, 2, 1, 0] rfl)
