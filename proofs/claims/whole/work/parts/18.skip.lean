theorem q_8 : Cond.selects R_Rn y_Rn_lookForMore y_Rn_lookForMore ∈ TB := tq 8 (by decide +kernel) rfl
theorem q_18 : Cond.selects R_Rn y_Rn_isInPlace y_Rn_isInPlace ∈ TB := tq 18 (by decide +kernel) rfl
theorem q_19 : Cond.selects R_Rn y_Rn_passMark y_Rn_passMark ∈ TB := tq 19 (by decide +kernel) rfl
theorem q_255 : Cond.constant R_Rn 44 1000000 ∈ TB := tq 255 (by decide +kernel) rfl
theorem q_309 : Cond.methodLink R_Rn 136 y_Rn_lookForMore ∈ TB := tq 309 (by decide +kernel) rfl
theorem q_311 : Cond.instanceMethod y_Rn_lookForMore ∈ TB := tq 311 (by decide +kernel) rfl
theorem q_312 : Cond.code y_Rn_lookForMore b_Rn_lookForMore 2 (some .int) ∈ TB := tq 312 (by decide +kernel) rfl
theorem q_381 : Cond.methodLink R_Rn 130 y_Rn_isInPlace ∈ TB := tq 381 (by decide +kernel) rfl
theorem q_383 : Cond.instanceMethod y_Rn_isInPlace ∈ TB := tq 383 (by decide +kernel) rfl
theorem q_384 : Cond.code y_Rn_isInPlace b_Rn_isInPlace 3 (some .boolean) ∈ TB := tq 384 (by decide +kernel) rfl
theorem q_385 : Cond.methodLink R_Rn 133 y_Rn_passMark ∈ TB := tq 385 (by decide +kernel) rfl
theorem q_387 : Cond.instanceMethod y_Rn_passMark ∈ TB := tq 387 (by decide +kernel) rfl
theorem q_388 : Cond.code y_Rn_passMark b_Rn_passMark 3 (none : Option Jvm.ClassFile.FieldType) ∈ TB := tq 388 (by decide +kernel) rfl
theorem d_Rn_skip_0 : decode b_Rn_skip 0 = .ok (.iconst 0, 1) := by decide +kernel
theorem d_Rn_skip_1 : decode b_Rn_skip 1 = .ok (.istore_n 3, 1) := by decide +kernel
theorem d_Rn_skip_2 : decode b_Rn_skip 2 = .ok (.iconst 0, 1) := by decide +kernel
theorem d_Rn_skip_3 : decode b_Rn_skip 3 = .ok (.istore 4, 2) := by decide +kernel
theorem d_Rn_skip_5 : decode b_Rn_skip 5 = .ok (.iconst 0, 1) := by decide +kernel
theorem d_Rn_skip_6 : decode b_Rn_skip 6 = .ok (.istore 5, 2) := by decide +kernel
theorem d_Rn_skip_8 : decode b_Rn_skip 8 = .ok (.iload 5, 2) := by decide +kernel
theorem d_Rn_skip_10 : decode b_Rn_skip 10 = .ok (.ldc 44, 2) := by decide +kernel
theorem d_Rn_skip_12 : decode b_Rn_skip 12 = .ok (.if_icmp .ge 163, 3) := by decide +kernel
theorem d_Rn_skip_15 : decode b_Rn_skip 15 = .ok (.aload_n 0, 1) := by decide +kernel
theorem d_Rn_skip_16 : decode b_Rn_skip 16 = .ok (.invokevirtual 136, 3) := by decide +kernel
theorem d_Rn_skip_19 : decode b_Rn_skip 19 = .ok (.istore 6, 2) := by decide +kernel
theorem d_Rn_skip_21 : decode b_Rn_skip 21 = .ok (.iload 6, 2) := by decide +kernel
theorem d_Rn_skip_23 : decode b_Rn_skip 23 = .ok (.iconst (-1), 1) := by decide +kernel
theorem d_Rn_skip_24 : decode b_Rn_skip 24 = .ok (.if_icmp .ne 4, 3) := by decide +kernel
theorem d_Rn_skip_27 : decode b_Rn_skip 27 = .ok (.return_, 1) := by decide +kernel
theorem d_Rn_skip_28 : decode b_Rn_skip 28 = .ok (.aload_n 0, 1) := by decide +kernel
theorem d_Rn_skip_29 : decode b_Rn_skip 29 = .ok (.getfield 25, 3) := by decide +kernel
theorem d_Rn_skip_32 : decode b_Rn_skip 32 = .ok (.iload 6, 2) := by decide +kernel
theorem d_Rn_skip_34 : decode b_Rn_skip 34 = .ok (.invokevirtual 88, 3) := by decide +kernel
theorem d_Rn_skip_37 : decode b_Rn_skip 37 = .ok (.istore 7, 2) := by decide +kernel
theorem d_Rn_skip_39 : decode b_Rn_skip 39 = .ok (.iload_n 3, 1) := by decide +kernel
theorem d_Rn_skip_40 : decode b_Rn_skip 40 = .ok (.ifCond .ne 81, 3) := by decide +kernel
theorem d_Rn_skip_43 : decode b_Rn_skip 43 = .ok (.iload 7, 2) := by decide +kernel
theorem d_Rn_skip_45 : decode b_Rn_skip 45 = .ok (.invokestatic 94, 3) := by decide +kernel
theorem d_Rn_skip_48 : decode b_Rn_skip 48 = .ok (.ifCond .eq 73, 3) := by decide +kernel
theorem d_Rn_skip_51 : decode b_Rn_skip 51 = .ok (.aload_n 0, 1) := by decide +kernel
theorem d_Rn_skip_52 : decode b_Rn_skip 52 = .ok (.iload 7, 2) := by decide +kernel
theorem d_Rn_skip_54 : decode b_Rn_skip 54 = .ok (.invokevirtual 130, 3) := by decide +kernel
theorem d_Rn_skip_57 : decode b_Rn_skip 57 = .ok (.ifCond .ne 9, 3) := by decide +kernel
theorem d_Rn_skip_60 : decode b_Rn_skip 60 = .ok (.aload_n 0, 1) := by decide +kernel
theorem d_Rn_skip_61 : decode b_Rn_skip 61 = .ok (.iconst 2, 1) := by decide +kernel
theorem d_Rn_skip_62 : decode b_Rn_skip 62 = .ok (.invokevirtual 53, 3) := by decide +kernel
theorem d_Rn_skip_65 : decode b_Rn_skip 65 = .ok (.return_, 1) := by decide +kernel
theorem d_Rn_skip_66 : decode b_Rn_skip 66 = .ok (.aload_n 0, 1) := by decide +kernel
theorem d_Rn_skip_67 : decode b_Rn_skip 67 = .ok (.iload 7, 2) := by decide +kernel
theorem d_Rn_skip_69 : decode b_Rn_skip 69 = .ok (.invokevirtual 133, 3) := by decide +kernel
theorem d_Rn_skip_72 : decode b_Rn_skip 72 = .ok (.iload 4, 2) := by decide +kernel
theorem d_Rn_skip_74 : decode b_Rn_skip 74 = .ok (.iload 7, 2) := by decide +kernel
theorem d_Rn_skip_76 : decode b_Rn_skip 76 = .ok (.bipush 7, 2) := by decide +kernel
theorem d_Rn_skip_78 : decode b_Rn_skip 78 = .ok (.if_icmp .ne 7, 3) := by decide +kernel
theorem d_Rn_skip_81 : decode b_Rn_skip 81 = .ok (.iconst 1, 1) := by decide +kernel
theorem d_Rn_skip_82 : decode b_Rn_skip 82 = .ok (.goto 4, 3) := by decide +kernel
theorem d_Rn_skip_85 : decode b_Rn_skip 85 = .ok (.iconst 0, 1) := by decide +kernel
theorem d_Rn_skip_86 : decode b_Rn_skip 86 = .ok (.iadd, 1) := by decide +kernel
theorem d_Rn_skip_87 : decode b_Rn_skip 87 = .ok (.istore 4, 2) := by decide +kernel
theorem d_Rn_skip_89 : decode b_Rn_skip 89 = .ok (.iload 7, 2) := by decide +kernel
theorem d_Rn_skip_91 : decode b_Rn_skip 91 = .ok (.bipush 8, 2) := by decide +kernel
theorem d_Rn_skip_93 : decode b_Rn_skip 93 = .ok (.if_icmp .eq 27, 3) := by decide +kernel
theorem d_Rn_skip_96 : decode b_Rn_skip 96 = .ok (.iload 7, 2) := by decide +kernel
theorem d_Rn_skip_98 : decode b_Rn_skip 98 = .ok (.bipush 6, 2) := by decide +kernel
theorem d_Rn_skip_100 : decode b_Rn_skip 100 = .ok (.if_icmp .ne 7, 3) := by decide +kernel
theorem d_Rn_skip_103 : decode b_Rn_skip 103 = .ok (.iload_n 2, 1) := by decide +kernel
theorem d_Rn_skip_104 : decode b_Rn_skip 104 = .ok (.ifCond .ne 16, 3) := by decide +kernel
theorem d_Rn_skip_107 : decode b_Rn_skip 107 = .ok (.iload 7, 2) := by decide +kernel
theorem d_Rn_skip_109 : decode b_Rn_skip 109 = .ok (.bipush 7, 2) := by decide +kernel
theorem d_Rn_skip_111 : decode b_Rn_skip 111 = .ok (.if_icmp .ne 58, 3) := by decide +kernel
theorem d_Rn_skip_114 : decode b_Rn_skip 114 = .ok (.iload 4, 2) := by decide +kernel
theorem d_Rn_skip_116 : decode b_Rn_skip 116 = .ok (.iload_n 1, 1) := by decide +kernel
theorem d_Rn_skip_117 : decode b_Rn_skip 117 = .ok (.if_icmp .ne 52, 3) := by decide +kernel
theorem d_Rn_skip_120 : decode b_Rn_skip 120 = .ok (.return_, 1) := by decide +kernel
theorem d_Rn_skip_121 : decode b_Rn_skip 121 = .ok (.iload 7, 2) := by decide +kernel
theorem d_Rn_skip_123 : decode b_Rn_skip 123 = .ok (.iconst 3, 1) := by decide +kernel
theorem d_Rn_skip_124 : decode b_Rn_skip 124 = .ok (.if_icmp .ne 10, 3) := by decide +kernel
theorem d_Rn_skip_127 : decode b_Rn_skip 127 = .ok (.aload_n 0, 1) := by decide +kernel
theorem d_Rn_skip_128 : decode b_Rn_skip 128 = .ok (.bipush 7, 2) := by decide +kernel
theorem d_Rn_skip_130 : decode b_Rn_skip 130 = .ok (.invokevirtual 53, 3) := by decide +kernel
theorem d_Rn_skip_133 : decode b_Rn_skip 133 = .ok (.return_, 1) := by decide +kernel
theorem d_Rn_skip_134 : decode b_Rn_skip 134 = .ok (.aload_n 0, 1) := by decide +kernel
theorem d_Rn_skip_135 : decode b_Rn_skip 135 = .ok (.dup, 1) := by decide +kernel
theorem d_Rn_skip_136 : decode b_Rn_skip 136 = .ok (.getfield 79, 3) := by decide +kernel
theorem d_Rn_skip_139 : decode b_Rn_skip 139 = .ok (.iconst 1, 1) := by decide +kernel
theorem d_Rn_skip_140 : decode b_Rn_skip 140 = .ok (.iadd, 1) := by decide +kernel
theorem d_Rn_skip_141 : decode b_Rn_skip 141 = .ok (.putfield 79, 3) := by decide +kernel
theorem d_Rn_skip_144 : decode b_Rn_skip 144 = .ok (.iload_n 3, 1) := by decide +kernel
theorem d_Rn_skip_145 : decode b_Rn_skip 145 = .ok (.iload 7, 2) := by decide +kernel
theorem d_Rn_skip_147 : decode b_Rn_skip 147 = .ok (.iconst 5, 1) := by decide +kernel
theorem d_Rn_skip_148 : decode b_Rn_skip 148 = .ok (.if_icmp .ne 7, 3) := by decide +kernel
theorem d_Rn_skip_151 : decode b_Rn_skip 151 = .ok (.iconst 1, 1) := by decide +kernel
theorem d_Rn_skip_152 : decode b_Rn_skip 152 = .ok (.goto 15, 3) := by decide +kernel
theorem d_Rn_skip_155 : decode b_Rn_skip 155 = .ok (.iload 7, 2) := by decide +kernel
theorem d_Rn_skip_157 : decode b_Rn_skip 157 = .ok (.bipush 8, 2) := by decide +kernel
theorem d_Rn_skip_159 : decode b_Rn_skip 159 = .ok (.if_icmp .ne 7, 3) := by decide +kernel
theorem d_Rn_skip_162 : decode b_Rn_skip 162 = .ok (.iconst (-1), 1) := by decide +kernel
theorem d_Rn_skip_163 : decode b_Rn_skip 163 = .ok (.goto 4, 3) := by decide +kernel
theorem d_Rn_skip_166 : decode b_Rn_skip 166 = .ok (.iconst 0, 1) := by decide +kernel
theorem d_Rn_skip_167 : decode b_Rn_skip 167 = .ok (.iadd, 1) := by decide +kernel
theorem d_Rn_skip_168 : decode b_Rn_skip 168 = .ok (.istore_n 3, 1) := by decide +kernel
theorem d_Rn_skip_169 : decode b_Rn_skip 169 = .ok (.iinc 5 1, 3) := by decide +kernel
theorem d_Rn_skip_172 : decode b_Rn_skip 172 = .ok (.goto (-164), 3) := by decide +kernel
theorem d_Rn_skip_175 : decode b_Rn_skip 175 = .ok (.return_, 1) := by decide +kernel
noncomputable def f_Rn_skip_8 : Nat → TBk → TRn → Int32 → Int32 → Int32 → Int32 → Int32 → TRn
  | 0, _, u, _, _, _, _, _ => u
  | n + 1, b, u, x1, x2, x3, x4, x5 => (if 1000000 ≤ x5 then u else (match f_Rn_lookForMore b u with | (r_2, v_2) => (if r_2 = (-1) then v_2 else (if x3 = 0 then (if (f_Ct_isMark (f_Bk_kindOf b r_2)) = 0 then (if (f_Bk_kindOf b r_2) = 3 then (let v_15 := f_Rn_fail b v_2 7; v_15) else (if (f_Bk_kindOf b r_2) = 5 then (f_Rn_skip_8 n b (TRn_set_skipped v_2 ((TRn_skipped v_2) + 1)) x1 x2 (x3 + 1) x4 (x5 + 1)) else (if (f_Bk_kindOf b r_2) = 8 then (f_Rn_skip_8 n b (TRn_set_skipped v_2 ((TRn_skipped v_2) + 1)) x1 x2 (x3 + (-1)) x4 (x5 + 1)) else (f_Rn_skip_8 n b (TRn_set_skipped v_2 ((TRn_skipped v_2) + 1)) x1 x2 (x3 + 0) x4 (x5 + 1))))) else (if (f_Rn_isInPlace b v_2 (f_Bk_kindOf b r_2)) = 0 then (let v_32 := f_Rn_fail b v_2 2; v_32) else (let v_18 := f_Rn_passMark b v_2 (f_Bk_kindOf b r_2); (if (f_Bk_kindOf b r_2) = 7 then (if (f_Bk_kindOf b r_2) = 8 then v_18 else (if (f_Bk_kindOf b r_2) = 6 then (if x2 = 0 then (if (x4 + 1) = x1 then v_18 else (f_Rn_skip_8 n b v_18 x1 x2 x3 (x4 + 1) (x5 + 1))) else v_18) else (if (x4 + 1) = x1 then v_18 else (f_Rn_skip_8 n b v_18 x1 x2 x3 (x4 + 1) (x5 + 1))))) else (if (f_Bk_kindOf b r_2) = 8 then v_18 else (if (f_Bk_kindOf b r_2) = 6 then (if x2 = 0 then (f_Rn_skip_8 n b v_18 x1 x2 x3 (x4 + 0) (x5 + 1)) else v_18) else (f_Rn_skip_8 n b v_18 x1 x2 x3 (x4 + 0) (x5 + 1)))))))) else (if (f_Bk_kindOf b r_2) = 3 then (let v_9 := f_Rn_fail b v_2 7; v_9) else (if (f_Bk_kindOf b r_2) = 5 then (f_Rn_skip_8 n b (TRn_set_skipped v_2 ((TRn_skipped v_2) + 1)) x1 x2 (x3 + 1) x4 (x5 + 1)) else (if (f_Bk_kindOf b r_2) = 8 then (f_Rn_skip_8 n b (TRn_set_skipped v_2 ((TRn_skipped v_2) + 1)) x1 x2 (x3 + (-1)) x4 (x5 + 1)) else (f_Rn_skip_8 n b (TRn_set_skipped v_2 ((TRn_skipped v_2) + 1)) x1 x2 (x3 + 0) x4 (x5 + 1)))))))))
set_option maxHeartbeats 4000000 in
set_option maxRecDepth 100000 in
theorem k_Rn_skip_8 {p : Program} {e : Env} {s : State} {m : MethodId} {args : Array Value} {below : List Frame} {meth : Method} {c : Code} {A : Nat → Prop} (l : Launch) (dC : Nat → ClassId) (dI : Nat → Nat → Nat) (ad : Nat → Nat) (ca : Nat → ClassId) (C0 : wx_C p s m args meth c b_Rn_skip (none) 8 R_Rn A (dC, dI) vwCl (t_R ca)) (F : TRn) : ∀ (n : Nat) (b : TBk) (u : TRn) (x1 : Int32) (x2 : Int32) (x3 : Int32) (x4 : Int32) (x5 : Int32), (BkS b) → (TLn 1000000 x5 n) → F = f_Rn_skip_8 n b u x1 x2 x3 x4 x5 → ∀ (H : Heap) (locs : List Loc), va_P (dC, dI) vwCl (w_R ad ca b u) H → va_D A (w_R ad ca b u) → va_S A s.heap H locs → ∀ (ls : Array Slot), lv_has ls 8 [(0, .ref (ad 0)), (1, .int x1), (2, .int x2), (3, .int x3), (4, .int x4), (5, .int x5)] → W p l e ({ frames := 3, cells := 0, slots := 0, locals := 65 } : Room) s m args below meth c H locs 0 0 (MQ below (va_Qv (fun v : TRn => v = F) (wx_B (dC, dI) vwCl (t_R ca) (fun v : TRn => w_R ad ca b v) A) A) args s 0 0 A) (F0 m 8 ls []) := by
  have C1 := C0
  obtain ⟨hx, hb, hr, hml, hown, ht, hlocks, hA, hK, hN⟩ := C1
  intro n
  induction n with
  | zero =>
    intro b u x1 x2 x3 x4 x5 hpre hc he
    exact absurd hc (fun h => TLn_0 h)
  | succ n ih =>
    intro b u x1 x2 x3 x4 x5 hpre hc he H locs hP hD hS ls hl
    rw [f_Rn_skip_8] at he
    refine lv_iload hx hb d_Rn_skip_8 (lv_at hl 5 rfl) ?_
    refine lv_ldc (v := 1000000) hx hb hown (ht _ q_255) d_Rn_skip_10 ?_
    refine lv_icmp_ge (tgt := 175) hx hb d_Rn_skip_12 (by decide) (fun c_1 => ?_) (fun c_1 => ?_)
    · have he := he.trans (if_pos c_1)
      exact W.vret hx hb hr (fun t ht hW => ⟨⟨u, rfl, he.symm, by rw [ht]; exact hP, va_K.moved hW.alike hK, hD⟩, hS.F ht⟩) hS.2.2 d_Rn_skip_175
    · have he := he.trans (if_neg c_1)
      refine lv_aload_n hx hb d_Rn_skip_15 rfl (lv_at hl 0 rfl) ?_
      refine wx_ci (wS := fun v : TRn => w_R ad ca b v) (ws2 := fun v : TRn => w_R ad ca b v) (va_runV (As := []) (rest := []) ⟨hx, hb, hml, hown, ht⟩ (c_Rn_lookForMore l dC dI ad ca H.size b u hpre _ rfl) (cwV 0 ht (tb_V q_309 q_311 q_8 q_44 q_312) rfl rfl rfl p_Rn_lookForMore ⟨show 2 + 1 ≤ 3 by omega, show 8 + (2 + 11) + 44 ≤ 65 by omega⟩) (wx_preV (wc := (w_R ad ca b u)) hN hK hP hD [0, 1, 2, 3, 4, 5, 6, 7, 8, 9, 10, 11, 12, 13, 14] [0, 1, 2, 3, 4, 5, 6, 7, 8, 9, 10, 11] rfl (by decide) rfl (ci := 2) (q0 := 0) rfl rfl) rfl rfl hl.1 rfl (lv_room (Nat.le_of_ble_eq_true rfl)) d_Rn_skip_16 ⟨Nat.zero_le _, Nat.zero_le _⟩) hP hD hS hA [0, 1, 2, 3, 4, 5, 6, 7, 8, 9, 10, 11, 12, 13, 14] [] [0, 1, 2, 3, 4, 5, 6, 7, 8, 9, 10, 11, 12, 13, 14] rfl rfl (by decide) (by decide) (by decide) (fun _ => rfl) (fun r_2 v_2 H locs hw hP hD hS => ?_)
      have hP : va_P (dC, dI) vwCl (w_R ad ca b v_2) H := hP
      have hD : va_D A (w_R ad ca b v_2) := hD
      rw [← hw] at he
      try dsimp only at he
      refine lv_istore (lv' := [(6, .int r_2), (0, .ref (ad 0)), (1, .int x1), (2, .int x2), (3, .int x3), (4, .int x4), (5, .int x5)]) hx hb d_Rn_skip_19 hl (by decide) rfl (fun ls hl => ?_)
      refine lv_iload hx hb d_Rn_skip_21 (lv_at hl 0 rfl) ?_
      refine lv_iconst (v := (-1)) hx hb d_Rn_skip_23 (by decide) ?_
      refine lv_icmp_ne (tgt := 28) hx hb d_Rn_skip_24 (by decide) (fun c_3 => ?_) (fun c_3 => ?_)
      · have he := he.trans (if_neg c_3)
        refine lv_aload_n hx hb d_Rn_skip_28 rfl (lv_at hl 1 rfl) ?_
        refine va_get (D := (dC, dI)) (ci := 2) (v := .ref (ad 8)) (C := R_Rn) (T := T_Rn) (N := 12) hx hb ht i_Rn hown hK hP 0 rfl rfl 0 (by decide) (ht _ q_130) (fun _ h9 => h9) rfl d_Rn_skip_29 ?_
        refine lv_iload hx hb d_Rn_skip_32 (lv_at hl 0 rfl) ?_
        refine wx_ci (wS := fun _ : Unit => w_B ad ca b) (ws2 := fun _ : Unit => w_R ad ca b v_2) (va_runV (As := [.int r_2]) (rest := []) ⟨hx, hb, hml, hown, ht⟩ (c_Bk_kindOf l dC dI ad ca H.size b r_2 _ rfl) (cwV 1 ht (tb_V q_273 q_274 q_275 q_43 q_276) rfl rfl rfl p_Bk_kindOf ⟨show 1 + 1 ≤ 3 by omega, show 8 + (2 + 11) + 20 ≤ 65 by omega⟩) (wx_preV (wc := (w_B ad ca b)) hN hK hP hD [8, 9, 10, 11, 12, 13, 14] [6, 7, 8, 9, 10, 11] rfl (by decide) rfl (ci := 0) (q0 := 0) rfl rfl) rfl rfl hl.1 rfl (lv_room (Nat.le_of_ble_eq_true rfl)) d_Rn_skip_34 ⟨Nat.zero_le _, Nat.zero_le _⟩) hP hD hS hA [8, 9, 10, 11, 12, 13, 14] [0, 1, 2, 3, 4, 5, 6, 7] [0, 1, 2, 3, 4, 5, 6, 7, 8, 9, 10, 11, 12, 13, 14] rfl rfl (by decide) (by decide) (by decide) (fun _ => rfl) (fun r_4 _ H locs hw hP hD hS => ?_)
        subst hw
        have hP : va_P (dC, dI) vwCl (w_R ad ca b v_2) H := hP
        have hD : va_D A (w_R ad ca b v_2) := hD
        refine lv_istore (lv' := [(7, .int (f_Bk_kindOf b r_2)), (6, .int r_2), (0, .ref (ad 0)), (1, .int x1), (2, .int x2), (3, .int x3), (4, .int x4), (5, .int x5)]) hx hb d_Rn_skip_37 hl (by decide) rfl (fun ls hl => ?_)
        refine lv_iload_n hx hb d_Rn_skip_39 rfl (lv_at hl 5 rfl) ?_
        refine lv_if_ne (tgt := 121) hx hb d_Rn_skip_40 (by decide) (fun c_5 => ?_) (fun c_5 => ?_)
        · have he := he.trans (if_neg c_5)
          refine lv_iload hx hb d_Rn_skip_121 (lv_at hl 0 rfl) ?_
          refine lv_iconst (v := 3) hx hb d_Rn_skip_123 (by decide) ?_
          refine lv_icmp_ne (tgt := 134) hx hb d_Rn_skip_124 (by decide) (fun c_6 => ?_) (fun c_6 => ?_)
          · have he := he.trans (if_neg c_6)
            refine lv_aload_n hx hb d_Rn_skip_134 rfl (lv_at hl 2 rfl) ?_
            refine lv_dup hx hb d_Rn_skip_135 rfl ?_
            refine va_get (D := (dC, dI)) (ci := 2) (v := .int (TRn_skipped v_2)) (C := R_Rn) (T := T_Rn) (N := 12) hx hb ht i_Rn hown hK hP 0 rfl rfl 10 (by decide) (ht _ q_140) (fun _ h9 => h9) rfl d_Rn_skip_136 ?_
            refine lv_iconst (v := 1) hx hb d_Rn_skip_139 (by decide) ?_
            refine lv_iadd hx hb d_Rn_skip_140 ?_
            refine va_put (D := (dC, dI)) (ci := 2) (v := .int ((TRn_skipped v_2) + 1)) (ty := .int) (C := R_Rn) (T := T_Rn) (N := 12) hx hb ht i_Rn ty_Rn ty_Rn_ok nm_Rn hown hK hP hD hS 0 rfl rfl 10 (by decide) (ht _ q_140) (fun _ h9 => h9) rfl (by decide +kernel) rfl rfl (Nat.le_of_ble_eq_true rfl) d_Rn_skip_141 (fun H locs hP hD hS => ?_)
            have hP : va_P (dC, dI) vwCl (w_R ad ca b (TRn_set_skipped v_2 ((TRn_skipped v_2) + 1))) H := hP
            have hD : va_D A (w_R ad ca b (TRn_set_skipped v_2 ((TRn_skipped v_2) + 1))) := hD
            refine lv_iload_n hx hb d_Rn_skip_144 rfl (lv_at hl 5 rfl) ?_
            refine lv_iload hx hb d_Rn_skip_145 (lv_at hl 0 rfl) ?_
            refine lv_iconst (v := 5) hx hb d_Rn_skip_147 (by decide) ?_
            refine lv_icmp_ne (tgt := 155) hx hb d_Rn_skip_148 (by decide) (fun c_7 => ?_) (fun c_7 => ?_)
            · have he := he.trans (if_neg c_7)
              refine lv_iload hx hb d_Rn_skip_155 (lv_at hl 0 rfl) ?_
              refine lv_bipush (v := 8) hx hb d_Rn_skip_157 (by decide) ?_
              refine lv_icmp_ne (tgt := 166) hx hb d_Rn_skip_159 (by decide) (fun c_8 => ?_) (fun c_8 => ?_)
              · have he := he.trans (if_neg c_8)
                refine lv_iconst (v := 0) hx hb d_Rn_skip_166 (by decide) ?_
                refine lv_iadd hx hb d_Rn_skip_167 ?_
                refine lv_istore_n (lv' := [(3, .int (x3 + 0)), (7, .int (f_Bk_kindOf b r_2)), (6, .int r_2), (0, .ref (ad 0)), (1, .int x1), (2, .int x2), (4, .int x4), (5, .int x5)]) hx hb d_Rn_skip_168 rfl hl (by decide) rfl (fun ls hl => ?_)
                refine lv_iinc (v := (x5 + 1)) (lv' := [(5, .int (x5 + 1)), (3, .int (x3 + 0)), (7, .int (f_Bk_kindOf b r_2)), (6, .int r_2), (0, .ref (ad 0)), (1, .int x1), (2, .int x2), (4, .int x4)]) hx hb d_Rn_skip_169 hl (k := 7) rfl rfl (by decide) rfl (fun ls hl => ?_)
                refine lv_goto (tgt := 8) hx hb d_Rn_skip_172 (by decide) ?_
                exact ih b (TRn_set_skipped v_2 ((TRn_skipped v_2) + 1)) x1 x2 (x3 + 0) x4 (x5 + 1) hpre (TLn_s hc (by decide) c_1) he _ _ hP hD hS _ (lv_sub hl [4, 5, 6, 1, 7, 0] rfl)
              · have he := he.trans (if_pos c_8)
                refine lv_iconst (v := (-1)) hx hb d_Rn_skip_162 (by decide) ?_
                refine lv_goto (tgt := 167) hx hb d_Rn_skip_163 (by decide) ?_
                refine lv_iadd hx hb d_Rn_skip_167 ?_
                refine lv_istore_n (lv' := [(3, .int (x3 + (-1))), (7, .int (f_Bk_kindOf b r_2)), (6, .int r_2), (0, .ref (ad 0)), (1, .int x1), (2, .int x2), (4, .int x4), (5, .int x5)]) hx hb d_Rn_skip_168 rfl hl (by decide) rfl (fun ls hl => ?_)
                refine lv_iinc (v := (x5 + 1)) (lv' := [(5, .int (x5 + 1)), (3, .int (x3 + (-1))), (7, .int (f_Bk_kindOf b r_2)), (6, .int r_2), (0, .ref (ad 0)), (1, .int x1), (2, .int x2), (4, .int x4)]) hx hb d_Rn_skip_169 hl (k := 7) rfl rfl (by decide) rfl (fun ls hl => ?_)
                refine lv_goto (tgt := 8) hx hb d_Rn_skip_172 (by decide) ?_
                exact ih b (TRn_set_skipped v_2 ((TRn_skipped v_2) + 1)) x1 x2 (x3 + (-1)) x4 (x5 + 1) hpre (TLn_s hc (by decide) c_1) he _ _ hP hD hS _ (lv_sub hl [4, 5, 6, 1, 7, 0] rfl)
            · have he := he.trans (if_pos c_7)
              refine lv_iconst (v := 1) hx hb d_Rn_skip_151 (by decide) ?_
              refine lv_goto (tgt := 167) hx hb d_Rn_skip_152 (by decide) ?_
              refine lv_iadd hx hb d_Rn_skip_167 ?_
              refine lv_istore_n (lv' := [(3, .int (x3 + 1)), (7, .int (f_Bk_kindOf b r_2)), (6, .int r_2), (0, .ref (ad 0)), (1, .int x1), (2, .int x2), (4, .int x4), (5, .int x5)]) hx hb d_Rn_skip_168 rfl hl (by decide) rfl (fun ls hl => ?_)
              refine lv_iinc (v := (x5 + 1)) (lv' := [(5, .int (x5 + 1)), (3, .int (x3 + 1)), (7, .int (f_Bk_kindOf b r_2)), (6, .int r_2), (0, .ref (ad 0)), (1, .int x1), (2, .int x2), (4, .int x4)]) hx hb d_Rn_skip_169 hl (k := 7) rfl rfl (by decide) rfl (fun ls hl => ?_)
              refine lv_goto (tgt := 8) hx hb d_Rn_skip_172 (by decide) ?_
              exact ih b (TRn_set_skipped v_2 ((TRn_skipped v_2) + 1)) x1 x2 (x3 + 1) x4 (x5 + 1) hpre (TLn_s hc (by decide) c_1) he _ _ hP hD hS _ (lv_sub hl [4, 5, 6, 1, 7, 0] rfl)
          · have he := he.trans (if_pos c_6)
            refine lv_aload_n hx hb d_Rn_skip_127 rfl (lv_at hl 2 rfl) ?_
            refine lv_bipush (v := 7) hx hb d_Rn_skip_128 (by decide) ?_
            refine wx_cv (wS := fun v : TRn => w_R ad ca b v) (ws2 := fun v : TRn => w_R ad ca b v) (va_runV (As := [.int 7]) (rest := []) ⟨hx, hb, hml, hown, ht⟩ (c_Rn_fail l dC dI ad ca H.size b v_2 7 _ rfl) (cwV 1 ht (tb_V q_265 q_267 q_1 q_44 q_268) rfl rfl rfl p_Rn_fail ⟨show 0 + 1 ≤ 3 by omega, show 8 + (2 + 11) + 0 ≤ 65 by omega⟩) (wx_preV (wc := (w_R ad ca b v_2)) hN hK hP hD [0, 1, 2, 3, 4, 5, 6, 7, 8, 9, 10, 11, 12, 13, 14] [0, 1, 2, 3, 4, 5, 6, 7, 8, 9, 10, 11] rfl (by decide) rfl (ci := 2) (q0 := 0) rfl rfl) rfl rfl hl.1 rfl (lv_room (Nat.le_of_ble_eq_true rfl)) d_Rn_skip_130 ⟨Nat.zero_le _, Nat.zero_le _⟩) hP hD hS hA [0, 1, 2, 3, 4, 5, 6, 7, 8, 9, 10, 11, 12, 13, 14] [] [0, 1, 2, 3, 4, 5, 6, 7, 8, 9, 10, 11, 12, 13, 14] rfl rfl (by decide) (by decide) (by decide) (fun _ => rfl) (fun v_9 H locs hw hP hD hS => ?_)
            have hP : va_P (dC, dI) vwCl (w_R ad ca b v_9) H := hP
            have hD : va_D A (w_R ad ca b v_9) := hD
            rw [← hw] at he
            try dsimp only at he
            exact W.vret hx hb hr (fun t ht hW => ⟨⟨v_9, rfl, he.symm, by rw [ht]; exact hP, va_K.moved hW.alike hK, hD⟩, hS.F ht⟩) hS.2.2 d_Rn_skip_133
        · have he := he.trans (if_pos c_5)
          refine lv_iload hx hb d_Rn_skip_43 (lv_at hl 0 rfl) ?_
          refine wx_ci (wS := fun _ : Unit => w_E ad ca) (ws2 := fun _ : Unit => w_R ad ca b v_2) (va_runSN (As := [.int (f_Bk_kindOf b r_2)]) (rest := []) ⟨hx, hb, hml, hown, ht⟩ (c_Ct_isMark l dC dI ad ca H.size (f_Bk_kindOf b r_2) _ rfl) ⟨va_cnB 1 ht (tb_in q_315) rfl rfl rfl (hN _ nest_2) (ht _ q_42) p_Ct_isMark.2 ⟨show 0 + 1 ≤ 3 by omega, show 8 + (1 + 11) + 0 ≤ 65 by omega⟩, ht _ q_314, trivial⟩ (wx_preS (wc := (w_E ad ca)) hN hK hP hD [] [] rfl (by decide) rfl) rfl rfl hl.1 rfl (lv_room (Nat.le_of_ble_eq_true rfl)) d_Rn_skip_45 ⟨Nat.zero_le _, Nat.zero_le _⟩) hP hD hS hA [] [0, 1, 2, 3, 4, 5, 6, 7, 8, 9, 10, 11, 12, 13, 14] [0, 1, 2, 3, 4, 5, 6, 7, 8, 9, 10, 11, 12, 13, 14] rfl rfl (by decide) (by decide) (by decide) (fun _ => rfl) (fun r_10 _ H locs hw hP hD hS => ?_)
          subst hw
          have hP : va_P (dC, dI) vwCl (w_R ad ca b v_2) H := hP
          have hD : va_D A (w_R ad ca b v_2) := hD
          refine lv_if_eq (tgt := 121) hx hb d_Rn_skip_48 (by decide) (fun c_11 => ?_) (fun c_11 => ?_)
          · have he := he.trans (if_pos c_11)
            refine lv_iload hx hb d_Rn_skip_121 (lv_at hl 0 rfl) ?_
            refine lv_iconst (v := 3) hx hb d_Rn_skip_123 (by decide) ?_
            refine lv_icmp_ne (tgt := 134) hx hb d_Rn_skip_124 (by decide) (fun c_12 => ?_) (fun c_12 => ?_)
            · have he := he.trans (if_neg c_12)
              refine lv_aload_n hx hb d_Rn_skip_134 rfl (lv_at hl 2 rfl) ?_
              refine lv_dup hx hb d_Rn_skip_135 rfl ?_
              refine va_get (D := (dC, dI)) (ci := 2) (v := .int (TRn_skipped v_2)) (C := R_Rn) (T := T_Rn) (N := 12) hx hb ht i_Rn hown hK hP 0 rfl rfl 10 (by decide) (ht _ q_140) (fun _ h9 => h9) rfl d_Rn_skip_136 ?_
              refine lv_iconst (v := 1) hx hb d_Rn_skip_139 (by decide) ?_
              refine lv_iadd hx hb d_Rn_skip_140 ?_
              refine va_put (D := (dC, dI)) (ci := 2) (v := .int ((TRn_skipped v_2) + 1)) (ty := .int) (C := R_Rn) (T := T_Rn) (N := 12) hx hb ht i_Rn ty_Rn ty_Rn_ok nm_Rn hown hK hP hD hS 0 rfl rfl 10 (by decide) (ht _ q_140) (fun _ h9 => h9) rfl (by decide +kernel) rfl rfl (Nat.le_of_ble_eq_true rfl) d_Rn_skip_141 (fun H locs hP hD hS => ?_)
              have hP : va_P (dC, dI) vwCl (w_R ad ca b (TRn_set_skipped v_2 ((TRn_skipped v_2) + 1))) H := hP
              have hD : va_D A (w_R ad ca b (TRn_set_skipped v_2 ((TRn_skipped v_2) + 1))) := hD
              refine lv_iload_n hx hb d_Rn_skip_144 rfl (lv_at hl 5 rfl) ?_
              refine lv_iload hx hb d_Rn_skip_145 (lv_at hl 0 rfl) ?_
              refine lv_iconst (v := 5) hx hb d_Rn_skip_147 (by decide) ?_
              refine lv_icmp_ne (tgt := 155) hx hb d_Rn_skip_148 (by decide) (fun c_13 => ?_) (fun c_13 => ?_)
              · have he := he.trans (if_neg c_13)
                refine lv_iload hx hb d_Rn_skip_155 (lv_at hl 0 rfl) ?_
                refine lv_bipush (v := 8) hx hb d_Rn_skip_157 (by decide) ?_
                refine lv_icmp_ne (tgt := 166) hx hb d_Rn_skip_159 (by decide) (fun c_14 => ?_) (fun c_14 => ?_)
                · have he := he.trans (if_neg c_14)
                  refine lv_iconst (v := 0) hx hb d_Rn_skip_166 (by decide) ?_
                  refine lv_iadd hx hb d_Rn_skip_167 ?_
                  refine lv_istore_n (lv' := [(3, .int (x3 + 0)), (7, .int (f_Bk_kindOf b r_2)), (6, .int r_2), (0, .ref (ad 0)), (1, .int x1), (2, .int x2), (4, .int x4), (5, .int x5)]) hx hb d_Rn_skip_168 rfl hl (by decide) rfl (fun ls hl => ?_)
                  refine lv_iinc (v := (x5 + 1)) (lv' := [(5, .int (x5 + 1)), (3, .int (x3 + 0)), (7, .int (f_Bk_kindOf b r_2)), (6, .int r_2), (0, .ref (ad 0)), (1, .int x1), (2, .int x2), (4, .int x4)]) hx hb d_Rn_skip_169 hl (k := 7) rfl rfl (by decide) rfl (fun ls hl => ?_)
                  refine lv_goto (tgt := 8) hx hb d_Rn_skip_172 (by decide) ?_
                  exact ih b (TRn_set_skipped v_2 ((TRn_skipped v_2) + 1)) x1 x2 (x3 + 0) x4 (x5 + 1) hpre (TLn_s hc (by decide) c_1) he _ _ hP hD hS _ (lv_sub hl [4, 5, 6, 1, 7, 0] rfl)
                · have he := he.trans (if_pos c_14)
                  refine lv_iconst (v := (-1)) hx hb d_Rn_skip_162 (by decide) ?_
                  refine lv_goto (tgt := 167) hx hb d_Rn_skip_163 (by decide) ?_
                  refine lv_iadd hx hb d_Rn_skip_167 ?_
                  refine lv_istore_n (lv' := [(3, .int (x3 + (-1))), (7, .int (f_Bk_kindOf b r_2)), (6, .int r_2), (0, .ref (ad 0)), (1, .int x1), (2, .int x2), (4, .int x4), (5, .int x5)]) hx hb d_Rn_skip_168 rfl hl (by decide) rfl (fun ls hl => ?_)
                  refine lv_iinc (v := (x5 + 1)) (lv' := [(5, .int (x5 + 1)), (3, .int (x3 + (-1))), (7, .int (f_Bk_kindOf b r_2)), (6, .int r_2), (0, .ref (ad 0)), (1, .int x1), (2, .int x2), (4, .int x4)]) hx hb d_Rn_skip_169 hl (k := 7) rfl rfl (by decide) rfl (fun ls hl => ?_)
                  refine lv_goto (tgt := 8) hx hb d_Rn_skip_172 (by decide) ?_
                  exact ih b (TRn_set_skipped v_2 ((TRn_skipped v_2) + 1)) x1 x2 (x3 + (-1)) x4 (x5 + 1) hpre (TLn_s hc (by decide) c_1) he _ _ hP hD hS _ (lv_sub hl [4, 5, 6, 1, 7, 0] rfl)
              · have he := he.trans (if_pos c_13)
                refine lv_iconst (v := 1) hx hb d_Rn_skip_151 (by decide) ?_
                refine lv_goto (tgt := 167) hx hb d_Rn_skip_152 (by decide) ?_
                refine lv_iadd hx hb d_Rn_skip_167 ?_
                refine lv_istore_n (lv' := [(3, .int (x3 + 1)), (7, .int (f_Bk_kindOf b r_2)), (6, .int r_2), (0, .ref (ad 0)), (1, .int x1), (2, .int x2), (4, .int x4), (5, .int x5)]) hx hb d_Rn_skip_168 rfl hl (by decide) rfl (fun ls hl => ?_)
                refine lv_iinc (v := (x5 + 1)) (lv' := [(5, .int (x5 + 1)), (3, .int (x3 + 1)), (7, .int (f_Bk_kindOf b r_2)), (6, .int r_2), (0, .ref (ad 0)), (1, .int x1), (2, .int x2), (4, .int x4)]) hx hb d_Rn_skip_169 hl (k := 7) rfl rfl (by decide) rfl (fun ls hl => ?_)
                refine lv_goto (tgt := 8) hx hb d_Rn_skip_172 (by decide) ?_
                exact ih b (TRn_set_skipped v_2 ((TRn_skipped v_2) + 1)) x1 x2 (x3 + 1) x4 (x5 + 1) hpre (TLn_s hc (by decide) c_1) he _ _ hP hD hS _ (lv_sub hl [4, 5, 6, 1, 7, 0] rfl)
            · have he := he.trans (if_pos c_12)
              refine lv_aload_n hx hb d_Rn_skip_127 rfl (lv_at hl 2 rfl) ?_
              refine lv_bipush (v := 7) hx hb d_Rn_skip_128 (by decide) ?_
              refine wx_cv (wS := fun v : TRn => w_R ad ca b v) (ws2 := fun v : TRn => w_R ad ca b v) (va_runV (As := [.int 7]) (rest := []) ⟨hx, hb, hml, hown, ht⟩ (c_Rn_fail l dC dI ad ca H.size b v_2 7 _ rfl) (cwV 1 ht (tb_V q_265 q_267 q_1 q_44 q_268) rfl rfl rfl p_Rn_fail ⟨show 0 + 1 ≤ 3 by omega, show 8 + (2 + 11) + 0 ≤ 65 by omega⟩) (wx_preV (wc := (w_R ad ca b v_2)) hN hK hP hD [0, 1, 2, 3, 4, 5, 6, 7, 8, 9, 10, 11, 12, 13, 14] [0, 1, 2, 3, 4, 5, 6, 7, 8, 9, 10, 11] rfl (by decide) rfl (ci := 2) (q0 := 0) rfl rfl) rfl rfl hl.1 rfl (lv_room (Nat.le_of_ble_eq_true rfl)) d_Rn_skip_130 ⟨Nat.zero_le _, Nat.zero_le _⟩) hP hD hS hA [0, 1, 2, 3, 4, 5, 6, 7, 8, 9, 10, 11, 12, 13, 14] [] [0, 1, 2, 3, 4, 5, 6, 7, 8, 9, 10, 11, 12, 13, 14] rfl rfl (by decide) (by decide) (by decide) (fun _ => rfl) (fun v_15 H locs hw hP hD hS => ?_)
              have hP : va_P (dC, dI) vwCl (w_R ad ca b v_15) H := hP
              have hD : va_D A (w_R ad ca b v_15) := hD
              rw [← hw] at he
              try dsimp only at he
              exact W.vret hx hb hr (fun t ht hW => ⟨⟨v_15, rfl, he.symm, by rw [ht]; exact hP, va_K.moved hW.alike hK, hD⟩, hS.F ht⟩) hS.2.2 d_Rn_skip_133
          · have he := he.trans (if_neg c_11)
            refine lv_aload_n hx hb d_Rn_skip_51 rfl (lv_at hl 2 rfl) ?_
            refine lv_iload hx hb d_Rn_skip_52 (lv_at hl 0 rfl) ?_
            refine wx_ci (wS := fun _ : Unit => w_R ad ca b v_2) (ws2 := fun _ : Unit => w_R ad ca b v_2) (va_runV (As := [.int (f_Bk_kindOf b r_2)]) (rest := []) ⟨hx, hb, hml, hown, ht⟩ (c_Rn_isInPlace l dC dI ad ca H.size b v_2 (f_Bk_kindOf b r_2) _ rfl) (cwV 1 ht (tb_V q_381 q_383 q_18 q_44 q_384) rfl rfl rfl p_Rn_isInPlace ⟨show 0 + 1 ≤ 3 by omega, show 8 + (3 + 11) + 0 ≤ 65 by omega⟩) (wx_preV (wc := (w_R ad ca b v_2)) hN hK hP hD [0, 1, 2, 3, 4, 5, 6, 7, 8, 9, 10, 11, 12, 13, 14] [0, 1, 2, 3, 4, 5, 6, 7, 8, 9, 10, 11] rfl (by decide) rfl (ci := 2) (q0 := 0) rfl rfl) rfl rfl hl.1 rfl (lv_room (Nat.le_of_ble_eq_true rfl)) d_Rn_skip_54 ⟨Nat.zero_le _, Nat.zero_le _⟩) hP hD hS hA [0, 1, 2, 3, 4, 5, 6, 7, 8, 9, 10, 11, 12, 13, 14] [] [0, 1, 2, 3, 4, 5, 6, 7, 8, 9, 10, 11, 12, 13, 14] rfl rfl (by decide) (by decide) (by decide) (fun _ => rfl) (fun r_16 _ H locs hw hP hD hS => ?_)
            subst hw
            have hP : va_P (dC, dI) vwCl (w_R ad ca b v_2) H := hP
            have hD : va_D A (w_R ad ca b v_2) := hD
            refine lv_if_ne (tgt := 66) hx hb d_Rn_skip_57 (by decide) (fun c_17 => ?_) (fun c_17 => ?_)
            · have he := he.trans (if_neg c_17)
              refine lv_aload_n hx hb d_Rn_skip_66 rfl (lv_at hl 2 rfl) ?_
              refine lv_iload hx hb d_Rn_skip_67 (lv_at hl 0 rfl) ?_
              refine wx_cv (wS := fun v : TRn => w_R ad ca b v) (ws2 := fun v : TRn => w_R ad ca b v) (va_runV (As := [.int (f_Bk_kindOf b r_2)]) (rest := []) ⟨hx, hb, hml, hown, ht⟩ (c_Rn_passMark l dC dI ad ca H.size b v_2 (f_Bk_kindOf b r_2) _ rfl) (cwV 1 ht (tb_V q_385 q_387 q_19 q_44 q_388) rfl rfl rfl p_Rn_passMark ⟨show 0 + 1 ≤ 3 by omega, show 8 + (3 + 11) + 0 ≤ 65 by omega⟩) (wx_preV (wc := (w_R ad ca b v_2)) hN hK hP hD [0, 1, 2, 3, 4, 5, 6, 7, 8, 9, 10, 11, 12, 13, 14] [0, 1, 2, 3, 4, 5, 6, 7, 8, 9, 10, 11] rfl (by decide) rfl (ci := 2) (q0 := 0) rfl rfl) rfl rfl hl.1 rfl (lv_room (Nat.le_of_ble_eq_true rfl)) d_Rn_skip_69 ⟨Nat.zero_le _, Nat.zero_le _⟩) hP hD hS hA [0, 1, 2, 3, 4, 5, 6, 7, 8, 9, 10, 11, 12, 13, 14] [] [0, 1, 2, 3, 4, 5, 6, 7, 8, 9, 10, 11, 12, 13, 14] rfl rfl (by decide) (by decide) (by decide) (fun _ => rfl) (fun v_18 H locs hw hP hD hS => ?_)
              have hP : va_P (dC, dI) vwCl (w_R ad ca b v_18) H := hP
              have hD : va_D A (w_R ad ca b v_18) := hD
              rw [← hw] at he
              try dsimp only at he
              refine lv_iload hx hb d_Rn_skip_72 (lv_at hl 6 rfl) ?_
              refine lv_iload hx hb d_Rn_skip_74 (lv_at hl 0 rfl) ?_
              refine lv_bipush (v := 7) hx hb d_Rn_skip_76 (by decide) ?_
              refine lv_icmp_ne (tgt := 85) hx hb d_Rn_skip_78 (by decide) (fun c_19 => ?_) (fun c_19 => ?_)
              · have he := he.trans (if_neg c_19)
                refine lv_iconst (v := 0) hx hb d_Rn_skip_85 (by decide) ?_
                refine lv_iadd hx hb d_Rn_skip_86 ?_
                refine lv_istore (lv' := [(4, .int (x4 + 0)), (7, .int (f_Bk_kindOf b r_2)), (6, .int r_2), (0, .ref (ad 0)), (1, .int x1), (2, .int x2), (3, .int x3), (5, .int x5)]) hx hb d_Rn_skip_87 hl (by decide) rfl (fun ls hl => ?_)
                refine lv_iload hx hb d_Rn_skip_89 (lv_at hl 1 rfl) ?_
                refine lv_bipush (v := 8) hx hb d_Rn_skip_91 (by decide) ?_
                refine lv_icmp_eq (tgt := 120) hx hb d_Rn_skip_93 (by decide) (fun c_20 => ?_) (fun c_20 => ?_)
                · have he := he.trans (if_pos c_20)
                  exact W.vret hx hb hr (fun t ht hW => ⟨⟨v_18, rfl, he.symm, by rw [ht]; exact hP, va_K.moved hW.alike hK, hD⟩, hS.F ht⟩) hS.2.2 d_Rn_skip_120
                · have he := he.trans (if_neg c_20)
                  refine lv_iload hx hb d_Rn_skip_96 (lv_at hl 1 rfl) ?_
                  refine lv_bipush (v := 6) hx hb d_Rn_skip_98 (by decide) ?_
                  refine lv_icmp_ne (tgt := 107) hx hb d_Rn_skip_100 (by decide) (fun c_21 => ?_) (fun c_21 => ?_)
                  · have he := he.trans (if_neg c_21)
                    refine lv_iload hx hb d_Rn_skip_107 (lv_at hl 1 rfl) ?_
                    refine lv_bipush (v := 7) hx hb d_Rn_skip_109 (by decide) ?_
                    refine lv_icmp_ne (tgt := 169) hx hb d_Rn_skip_111 (by decide) (fun c_22 => ?_) (fun c_22 => ?_)
                    · refine lv_iinc (v := (x5 + 1)) (lv' := [(5, .int (x5 + 1)), (4, .int (x4 + 0)), (7, .int (f_Bk_kindOf b r_2)), (6, .int r_2), (0, .ref (ad 0)), (1, .int x1), (2, .int x2), (3, .int x3)]) hx hb d_Rn_skip_169 hl (k := 7) rfl rfl (by decide) rfl (fun ls hl => ?_)
                      refine lv_goto (tgt := 8) hx hb d_Rn_skip_172 (by decide) ?_
                      exact ih b v_18 x1 x2 x3 (x4 + 0) (x5 + 1) hpre (TLn_s hc (by decide) c_1) he _ _ hP hD hS _ (lv_sub hl [4, 5, 6, 7, 1, 0] rfl)
                    · exact absurd c_22 c_19
                  · have he := he.trans (if_pos c_21)
                    refine lv_iload_n hx hb d_Rn_skip_103 rfl (lv_at hl 5 rfl) ?_
                    refine lv_if_ne (tgt := 120) hx hb d_Rn_skip_104 (by decide) (fun c_23 => ?_) (fun c_23 => ?_)
                    · have he := he.trans (if_neg c_23)
                      exact W.vret hx hb hr (fun t ht hW => ⟨⟨v_18, rfl, he.symm, by rw [ht]; exact hP, va_K.moved hW.alike hK, hD⟩, hS.F ht⟩) hS.2.2 d_Rn_skip_120
                    · have he := he.trans (if_pos c_23)
                      refine lv_iload hx hb d_Rn_skip_107 (lv_at hl 1 rfl) ?_
                      refine lv_bipush (v := 7) hx hb d_Rn_skip_109 (by decide) ?_
                      refine lv_icmp_ne (tgt := 169) hx hb d_Rn_skip_111 (by decide) (fun c_24 => ?_) (fun c_24 => ?_)
                      · refine lv_iinc (v := (x5 + 1)) (lv' := [(5, .int (x5 + 1)), (4, .int (x4 + 0)), (7, .int (f_Bk_kindOf b r_2)), (6, .int r_2), (0, .ref (ad 0)), (1, .int x1), (2, .int x2), (3, .int x3)]) hx hb d_Rn_skip_169 hl (k := 7) rfl rfl (by decide) rfl (fun ls hl => ?_)
                        refine lv_goto (tgt := 8) hx hb d_Rn_skip_172 (by decide) ?_
                        exact ih b v_18 x1 x2 x3 (x4 + 0) (x5 + 1) hpre (TLn_s hc (by decide) c_1) he _ _ hP hD hS _ (lv_sub hl [4, 5, 6, 7, 1, 0] rfl)
                      · exact absurd c_24 c_19
              · have he := he.trans (if_pos c_19)
                refine lv_iconst (v := 1) hx hb d_Rn_skip_81 (by decide) ?_
                refine lv_goto (tgt := 86) hx hb d_Rn_skip_82 (by decide) ?_
                refine lv_iadd hx hb d_Rn_skip_86 ?_
                refine lv_istore (lv' := [(4, .int (x4 + 1)), (7, .int (f_Bk_kindOf b r_2)), (6, .int r_2), (0, .ref (ad 0)), (1, .int x1), (2, .int x2), (3, .int x3), (5, .int x5)]) hx hb d_Rn_skip_87 hl (by decide) rfl (fun ls hl => ?_)
                refine lv_iload hx hb d_Rn_skip_89 (lv_at hl 1 rfl) ?_
                refine lv_bipush (v := 8) hx hb d_Rn_skip_91 (by decide) ?_
                refine lv_icmp_eq (tgt := 120) hx hb d_Rn_skip_93 (by decide) (fun c_25 => ?_) (fun c_25 => ?_)
                · have he := he.trans (if_pos c_25)
                  exact W.vret hx hb hr (fun t ht hW => ⟨⟨v_18, rfl, he.symm, by rw [ht]; exact hP, va_K.moved hW.alike hK, hD⟩, hS.F ht⟩) hS.2.2 d_Rn_skip_120
                · have he := he.trans (if_neg c_25)
                  refine lv_iload hx hb d_Rn_skip_96 (lv_at hl 1 rfl) ?_
                  refine lv_bipush (v := 6) hx hb d_Rn_skip_98 (by decide) ?_
                  refine lv_icmp_ne (tgt := 107) hx hb d_Rn_skip_100 (by decide) (fun c_26 => ?_) (fun c_26 => ?_)
                  · have he := he.trans (if_neg c_26)
                    refine lv_iload hx hb d_Rn_skip_107 (lv_at hl 1 rfl) ?_
                    refine lv_bipush (v := 7) hx hb d_Rn_skip_109 (by decide) ?_
                    refine lv_icmp_ne (tgt := 169) hx hb d_Rn_skip_111 (by decide) (fun c_27 => ?_) (fun c_27 => ?_)
                    · exact absurd c_19 c_27
                    · refine lv_iload hx hb d_Rn_skip_114 (lv_at hl 0 rfl) ?_
                      refine lv_iload_n hx hb d_Rn_skip_116 rfl (lv_at hl 4 rfl) ?_
                      refine lv_icmp_ne (tgt := 169) hx hb d_Rn_skip_117 (by decide) (fun c_28 => ?_) (fun c_28 => ?_)
                      · have he := he.trans (if_neg c_28)
                        refine lv_iinc (v := (x5 + 1)) (lv' := [(5, .int (x5 + 1)), (4, .int (x4 + 1)), (7, .int (f_Bk_kindOf b r_2)), (6, .int r_2), (0, .ref (ad 0)), (1, .int x1), (2, .int x2), (3, .int x3)]) hx hb d_Rn_skip_169 hl (k := 7) rfl rfl (by decide) rfl (fun ls hl => ?_)
                        refine lv_goto (tgt := 8) hx hb d_Rn_skip_172 (by decide) ?_
                        exact ih b v_18 x1 x2 x3 (x4 + 1) (x5 + 1) hpre (TLn_s hc (by decide) c_1) he _ _ hP hD hS _ (lv_sub hl [4, 5, 6, 7, 1, 0] rfl)
                      · have he := he.trans (if_pos c_28)
                        exact W.vret hx hb hr (fun t ht hW => ⟨⟨v_18, rfl, he.symm, by rw [ht]; exact hP, va_K.moved hW.alike hK, hD⟩, hS.F ht⟩) hS.2.2 d_Rn_skip_120
                  · have he := he.trans (if_pos c_26)
                    refine lv_iload_n hx hb d_Rn_skip_103 rfl (lv_at hl 5 rfl) ?_
                    refine lv_if_ne (tgt := 120) hx hb d_Rn_skip_104 (by decide) (fun c_29 => ?_) (fun c_29 => ?_)
                    · have he := he.trans (if_neg c_29)
                      exact W.vret hx hb hr (fun t ht hW => ⟨⟨v_18, rfl, he.symm, by rw [ht]; exact hP, va_K.moved hW.alike hK, hD⟩, hS.F ht⟩) hS.2.2 d_Rn_skip_120
                    · have he := he.trans (if_pos c_29)
                      refine lv_iload hx hb d_Rn_skip_107 (lv_at hl 1 rfl) ?_
                      refine lv_bipush (v := 7) hx hb d_Rn_skip_109 (by decide) ?_
                      refine lv_icmp_ne (tgt := 169) hx hb d_Rn_skip_111 (by decide) (fun c_30 => ?_) (fun c_30 => ?_)
                      · exact absurd c_19 c_30
                      · refine lv_iload hx hb d_Rn_skip_114 (lv_at hl 0 rfl) ?_
                        refine lv_iload_n hx hb d_Rn_skip_116 rfl (lv_at hl 4 rfl) ?_
                        refine lv_icmp_ne (tgt := 169) hx hb d_Rn_skip_117 (by decide) (fun c_31 => ?_) (fun c_31 => ?_)
                        · have he := he.trans (if_neg c_31)
                          refine lv_iinc (v := (x5 + 1)) (lv' := [(5, .int (x5 + 1)), (4, .int (x4 + 1)), (7, .int (f_Bk_kindOf b r_2)), (6, .int r_2), (0, .ref (ad 0)), (1, .int x1), (2, .int x2), (3, .int x3)]) hx hb d_Rn_skip_169 hl (k := 7) rfl rfl (by decide) rfl (fun ls hl => ?_)
                          refine lv_goto (tgt := 8) hx hb d_Rn_skip_172 (by decide) ?_
                          exact ih b v_18 x1 x2 x3 (x4 + 1) (x5 + 1) hpre (TLn_s hc (by decide) c_1) he _ _ hP hD hS _ (lv_sub hl [4, 5, 6, 7, 1, 0] rfl)
                        · have he := he.trans (if_pos c_31)
                          exact W.vret hx hb hr (fun t ht hW => ⟨⟨v_18, rfl, he.symm, by rw [ht]; exact hP, va_K.moved hW.alike hK, hD⟩, hS.F ht⟩) hS.2.2 d_Rn_skip_120
            · have he := he.trans (if_pos c_17)
              refine lv_aload_n hx hb d_Rn_skip_60 rfl (lv_at hl 2 rfl) ?_
              refine lv_iconst (v := 2) hx hb d_Rn_skip_61 (by decide) ?_
              refine wx_cv (wS := fun v : TRn => w_R ad ca b v) (ws2 := fun v : TRn => w_R ad ca b v) (va_runV (As := [.int 2]) (rest := []) ⟨hx, hb, hml, hown, ht⟩ (c_Rn_fail l dC dI ad ca H.size b v_2 2 _ rfl) (cwV 1 ht (tb_V q_265 q_267 q_1 q_44 q_268) rfl rfl rfl p_Rn_fail ⟨show 0 + 1 ≤ 3 by omega, show 8 + (2 + 11) + 0 ≤ 65 by omega⟩) (wx_preV (wc := (w_R ad ca b v_2)) hN hK hP hD [0, 1, 2, 3, 4, 5, 6, 7, 8, 9, 10, 11, 12, 13, 14] [0, 1, 2, 3, 4, 5, 6, 7, 8, 9, 10, 11] rfl (by decide) rfl (ci := 2) (q0 := 0) rfl rfl) rfl rfl hl.1 rfl (lv_room (Nat.le_of_ble_eq_true rfl)) d_Rn_skip_62 ⟨Nat.zero_le _, Nat.zero_le _⟩) hP hD hS hA [0, 1, 2, 3, 4, 5, 6, 7, 8, 9, 10, 11, 12, 13, 14] [] [0, 1, 2, 3, 4, 5, 6, 7, 8, 9, 10, 11, 12, 13, 14] rfl rfl (by decide) (by decide) (by decide) (fun _ => rfl) (fun v_32 H locs hw hP hD hS => ?_)
              have hP : va_P (dC, dI) vwCl (w_R ad ca b v_32) H := hP
              have hD : va_D A (w_R ad ca b v_32) := hD
              rw [← hw] at he
              try dsimp only at he
              exact W.vret hx hb hr (fun t ht hW => ⟨⟨v_32, rfl, he.symm, by rw [ht]; exact hP, va_K.moved hW.alike hK, hD⟩, hS.F ht⟩) hS.2.2 d_Rn_skip_65
      · have he := he.trans (if_pos c_3)
        exact W.vret hx hb hr (fun t ht hW => ⟨⟨v_2, rfl, he.symm, by rw [ht]; exact hP, va_K.moved hW.alike hK, hD⟩, hS.F ht⟩) hS.2.2 d_Rn_skip_27
noncomputable def f_Rn_skip (b : TBk) (u : TRn) (p0 : Int32) (p1 : Int32) : TRn := (f_Rn_skip_8 TM b u p0 p1 0 0 0)
set_option maxHeartbeats 4000000 in
set_option maxRecDepth 100000 in
theorem c_Rn_skip (l : Launch) (dC : Nat → ClassId) (dI : Nat → Nat → Nat) (ad : Nat → Nat) (ca : Nat → ClassId) (sz : Nat) (b : TBk) (u : TRn) (p0 : Int32) (p1 : Int32) (hpre : BkS b) (F : TRn) (he : F = f_Rn_skip b u p0 p1) : wx_Mv l y_Rn_skip ws_Rn_skip ({ frames := 3, cells := 0, slots := 0, locals := 65 } : Room) (dC, dI) vwCl (t_R ca) [.ref (ad 0), .int p0, .int p1] (w_R ad ca b u) sz (fun v : TRn => w_R ad ca b v) (fun v : TRn => v = F) := by
  refine Met.ofW (cc := b_Rn_skip) (maxL := 8) (ret := none) (by decide) rfl ?_
  intro p e s m args below meth c s₁ B hml hv
  obtain ⟨rfl, hsz, hP, hK, hD0, hN⟩ := hv
  have hx := B.exec
  have hb := B.bytes
  have hr := B.returns
  have hts := atoms_spec (ws := ws_Rn_skip) B.pre
  have ht : ∀ w ∈ TB, w.before _ s = true := fun w h => hts w (List.mem_cons_of_mem _ h)
  have hown : s.vm.findClass R_Rn = some m.cls := findClass_of_methodNamed B.named
  have hlocks := B.notSynchronized
  subst hsz
  have hD := hD0.self (sz := s.heap.size)
  generalize hAe : va_A (w_R ad ca b u) s.heap.size = A at hD ⊢
  have hA : ∀ q : Nat, s.heap.size ≤ q → A q := fun q h => by rw [← hAe]; exact Or.inr h
  have hS : va_S A s.heap s.heap [] := va_S.rf
  have C0 : wx_C p s m ([.ref (ad 0), .int p0, .int p1] : List Value).toArray meth c b_Rn_skip (none) 8 R_Rn A (dC, dI) vwCl (t_R ca) := ⟨hx, hb, hr, hml, hown, ht, hlocks, hA, hK, hN⟩
  have hl := lv_entry ([.ref (ad 0), .int p0, .int p1]) (n := 8) (Nat.le_of_ble_eq_true rfl)
  rw [lg_entry_eq]
  generalize (lg_sl ([.ref (ad 0), .int p0, .int p1]) ++ List.replicate (8 - (lg_sl ([.ref (ad 0), .int p0, .int p1])).length) Slot.unset).toArray = ls at hl ⊢
  have hl : lv_has ls 8 [(0, .ref (ad 0)), (1, .int p0), (2, .int p1)] := hl
  unfold f_Rn_skip at he
  refine lv_iconst (v := 0) hx hb d_Rn_skip_0 (by decide) ?_
  refine lv_istore_n (lv' := [(3, .int 0), (0, .ref (ad 0)), (1, .int p0), (2, .int p1)]) hx hb d_Rn_skip_1 rfl hl (by decide) rfl (fun ls hl => ?_)
  refine lv_iconst (v := 0) hx hb d_Rn_skip_2 (by decide) ?_
  refine lv_istore (lv' := [(4, .int 0), (3, .int 0), (0, .ref (ad 0)), (1, .int p0), (2, .int p1)]) hx hb d_Rn_skip_3 hl (by decide) rfl (fun ls hl => ?_)
  refine lv_iconst (v := 0) hx hb d_Rn_skip_5 (by decide) ?_
  refine lv_istore (lv' := [(5, .int 0), (4, .int 0), (3, .int 0), (0, .ref (ad 0)), (1, .int p0), (2, .int p1)]) hx hb d_Rn_skip_6 hl (by decide) rfl (fun ls hl => ?_)
  exact k_Rn_skip_8 l dC dI ad ca C0 F TM b u p0 p1 0 0 0 hpre TLn_m he _ _ hP hD hS _ (lv_sub hl [3, 4, 5, 2, 1, 0] rfl)
