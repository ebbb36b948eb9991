theorem q_39 : Cond.selects R_Md y_Md_isSignOf y_Md_isSignOf ∈ TB := tq 39 (by decide +kernel) rfl
theorem q_40 : Cond.selects R_Md y_Md_isDigit y_Md_isDigit ∈ TB := tq 40 (by decide +kernel) rfl
theorem q_626 : Cond.methodLink R_Md 112 y_Md_isSignOf ∈ TB := tq 626 (by decide +kernel) rfl
theorem q_628 : Cond.instanceMethod y_Md_isSignOf ∈ TB := tq 628 (by decide +kernel) rfl
theorem q_629 : Cond.code y_Md_isSignOf b_Md_isSignOf 4 (some .boolean) ∈ TB := tq 629 (by decide +kernel) rfl
theorem q_630 : Cond.methodLink R_Md 115 y_Md_isDigit ∈ TB := tq 630 (by decide +kernel) rfl
theorem q_632 : Cond.instanceMethod y_Md_isDigit ∈ TB := tq 632 (by decide +kernel) rfl
theorem q_633 : Cond.code y_Md_isDigit b_Md_isDigit 2 (some .boolean) ∈ TB := tq 633 (by decide +kernel) rfl
theorem d_Md_number_0 : decode b_Md_number 0 = .ok (.iconst 0, 1) := by decide +kernel
theorem d_Md_number_1 : decode b_Md_number 1 = .ok (.istore_n 2, 1) := by decide +kernel
theorem d_Md_number_2 : decode b_Md_number 2 = .ok (.aload_n 0, 1) := by decide +kernel
theorem d_Md_number_3 : decode b_Md_number 3 = .ok (.iload_n 1, 1) := by decide +kernel
theorem d_Md_number_4 : decode b_Md_number 4 = .ok (.invokevirtual 109, 3) := by decide +kernel
theorem d_Md_number_7 : decode b_Md_number 7 = .ok (.istore_n 3, 1) := by decide +kernel
theorem d_Md_number_8 : decode b_Md_number 8 = .ok (.aload_n 0, 1) := by decide +kernel
theorem d_Md_number_9 : decode b_Md_number 9 = .ok (.getfield 72, 3) := by decide +kernel
theorem d_Md_number_12 : decode b_Md_number 12 = .ok (.ifCond .ne 55, 3) := by decide +kernel
theorem d_Md_number_15 : decode b_Md_number 15 = .ok (.aload_n 0, 1) := by decide +kernel
theorem d_Md_number_16 : decode b_Md_number 16 = .ok (.iload_n 3, 1) := by decide +kernel
theorem d_Md_number_17 : decode b_Md_number 17 = .ok (.bipush 43, 2) := by decide +kernel
theorem d_Md_number_19 : decode b_Md_number 19 = .ok (.bipush 12, 2) := by decide +kernel
theorem d_Md_number_21 : decode b_Md_number 21 = .ok (.invokevirtual 112, 3) := by decide +kernel
theorem d_Md_number_24 : decode b_Md_number 24 = .ok (.ifCond .ne 15, 3) := by decide +kernel
theorem d_Md_number_27 : decode b_Md_number 27 = .ok (.aload_n 0, 1) := by decide +kernel
theorem d_Md_number_28 : decode b_Md_number 28 = .ok (.iload_n 3, 1) := by decide +kernel
theorem d_Md_number_29 : decode b_Md_number 29 = .ok (.bipush 45, 2) := by decide +kernel
theorem d_Md_number_31 : decode b_Md_number 31 = .ok (.bipush 12, 2) := by decide +kernel
theorem d_Md_number_33 : decode b_Md_number 33 = .ok (.invokevirtual 112, 3) := by decide +kernel
theorem d_Md_number_36 : decode b_Md_number 36 = .ok (.ifCond .eq 31, 3) := by decide +kernel
theorem d_Md_number_39 : decode b_Md_number 39 = .ok (.iload_n 2, 1) := by decide +kernel
theorem d_Md_number_40 : decode b_Md_number 40 = .ok (.aload_n 0, 1) := by decide +kernel
theorem d_Md_number_41 : decode b_Md_number 41 = .ok (.iload_n 3, 1) := by decide +kernel
theorem d_Md_number_42 : decode b_Md_number 42 = .ok (.bipush 45, 2) := by decide +kernel
theorem d_Md_number_44 : decode b_Md_number 44 = .ok (.bipush 12, 2) := by decide +kernel
theorem d_Md_number_46 : decode b_Md_number 46 = .ok (.invokevirtual 112, 3) := by decide +kernel
theorem d_Md_number_49 : decode b_Md_number 49 = .ok (.if_icmp .eq 7, 3) := by decide +kernel
theorem d_Md_number_52 : decode b_Md_number 52 = .ok (.iconst 1, 1) := by decide +kernel
theorem d_Md_number_53 : decode b_Md_number 53 = .ok (.goto 4, 3) := by decide +kernel
theorem d_Md_number_56 : decode b_Md_number 56 = .ok (.iconst 0, 1) := by decide +kernel
theorem d_Md_number_57 : decode b_Md_number 57 = .ok (.istore_n 2, 1) := by decide +kernel
theorem d_Md_number_58 : decode b_Md_number 58 = .ok (.aload_n 0, 1) := by decide +kernel
theorem d_Md_number_59 : decode b_Md_number 59 = .ok (.iload_n 1, 1) := by decide +kernel
theorem d_Md_number_60 : decode b_Md_number 60 = .ok (.invokevirtual 109, 3) := by decide +kernel
theorem d_Md_number_63 : decode b_Md_number 63 = .ok (.istore_n 3, 1) := by decide +kernel
theorem d_Md_number_64 : decode b_Md_number 64 = .ok (.goto (-56), 3) := by decide +kernel
theorem d_Md_number_67 : decode b_Md_number 67 = .ok (.aload_n 0, 1) := by decide +kernel
theorem d_Md_number_68 : decode b_Md_number 68 = .ok (.getfield 72, 3) := by decide +kernel
theorem d_Md_number_71 : decode b_Md_number 71 = .ok (.ifCond .le 5, 3) := by decide +kernel
theorem d_Md_number_74 : decode b_Md_number 74 = .ok (.iconst 0, 1) := by decide +kernel
theorem d_Md_number_75 : decode b_Md_number 75 = .ok (.ireturn, 1) := by decide +kernel
theorem d_Md_number_76 : decode b_Md_number 76 = .ok (.iconst 0, 1) := by decide +kernel
theorem d_Md_number_77 : decode b_Md_number 77 = .ok (.istore 4, 2) := by decide +kernel
theorem d_Md_number_79 : decode b_Md_number 79 = .ok (.iload_n 3, 1) := by decide +kernel
theorem d_Md_number_80 : decode b_Md_number 80 = .ok (.sipush 4096, 3) := by decide +kernel
theorem d_Md_number_83 : decode b_Md_number 83 = .ok (.if_icmp .lt 22, 3) := by decide +kernel
theorem d_Md_number_86 : decode b_Md_number 86 = .ok (.aload_n 0, 1) := by decide +kernel
theorem d_Md_number_87 : decode b_Md_number 87 = .ok (.iload_n 3, 1) := by decide +kernel
theorem d_Md_number_88 : decode b_Md_number 88 = .ok (.invokevirtual 61, 3) := by decide +kernel
theorem d_Md_number_91 : decode b_Md_number 91 = .ok (.iconst 4, 1) := by decide +kernel
theorem d_Md_number_92 : decode b_Md_number 92 = .ok (.if_icmp .ne 13, 3) := by decide +kernel
theorem d_Md_number_95 : decode b_Md_number 95 = .ok (.aload_n 0, 1) := by decide +kernel
theorem d_Md_number_96 : decode b_Md_number 96 = .ok (.iload_n 3, 1) := by decide +kernel
theorem d_Md_number_97 : decode b_Md_number 97 = .ok (.invokevirtual 65, 3) := by decide +kernel
theorem d_Md_number_100 : decode b_Md_number 100 = .ok (.istore 4, 2) := by decide +kernel
theorem d_Md_number_102 : decode b_Md_number 102 = .ok (.goto 111, 3) := by decide +kernel
theorem d_Md_number_105 : decode b_Md_number 105 = .ok (.aload_n 0, 1) := by decide +kernel
theorem d_Md_number_106 : decode b_Md_number 106 = .ok (.iload_n 3, 1) := by decide +kernel
theorem d_Md_number_107 : decode b_Md_number 107 = .ok (.invokevirtual 115, 3) := by decide +kernel
theorem d_Md_number_110 : decode b_Md_number 110 = .ok (.ifCond .ne 11, 3) := by decide +kernel
theorem d_Md_number_113 : decode b_Md_number 113 = .ok (.aload_n 0, 1) := by decide +kernel
theorem d_Md_number_114 : decode b_Md_number 114 = .ok (.iconst 3, 1) := by decide +kernel
theorem d_Md_number_115 : decode b_Md_number 115 = .ok (.invokevirtual 84, 3) := by decide +kernel
theorem d_Md_number_118 : decode b_Md_number 118 = .ok (.goto 95, 3) := by decide +kernel
theorem d_Md_number_121 : decode b_Md_number 121 = .ok (.iconst 0, 1) := by decide +kernel
theorem d_Md_number_122 : decode b_Md_number 122 = .ok (.istore 5, 2) := by decide +kernel
theorem d_Md_number_124 : decode b_Md_number 124 = .ok (.aload_n 0, 1) := by decide +kernel
theorem d_Md_number_125 : decode b_Md_number 125 = .ok (.getfield 72, 3) := by decide +kernel
theorem d_Md_number_128 : decode b_Md_number 128 = .ok (.ifCond .ne 52, 3) := by decide +kernel
theorem d_Md_number_131 : decode b_Md_number 131 = .ok (.aload_n 0, 1) := by decide +kernel
theorem d_Md_number_132 : decode b_Md_number 132 = .ok (.iload_n 3, 1) := by decide +kernel
theorem d_Md_number_133 : decode b_Md_number 133 = .ok (.invokevirtual 115, 3) := by decide +kernel
theorem d_Md_number_136 : decode b_Md_number 136 = .ok (.ifCond .eq 44, 3) := by decide +kernel
theorem d_Md_number_139 : decode b_Md_number 139 = .ok (.iinc 5 1, 3) := by decide +kernel
theorem d_Md_number_142 : decode b_Md_number 142 = .ok (.iload 5, 2) := by decide +kernel
theorem d_Md_number_144 : decode b_Md_number 144 = .ok (.bipush 10, 2) := by decide +kernel
theorem d_Md_number_146 : decode b_Md_number 146 = .ok (.if_icmp .ne 12, 3) := by decide +kernel
theorem d_Md_number_149 : decode b_Md_number 149 = .ok (.aload_n 0, 1) := by decide +kernel
theorem d_Md_number_150 : decode b_Md_number 150 = .ok (.bipush 8, 2) := by decide +kernel
theorem d_Md_number_152 : decode b_Md_number 152 = .ok (.invokevirtual 84, 3) := by decide +kernel
theorem d_Md_number_155 : decode b_Md_number 155 = .ok (.goto (-31), 3) := by decide +kernel
theorem d_Md_number_158 : decode b_Md_number 158 = .ok (.bipush 10, 2) := by decide +kernel
theorem d_Md_number_160 : decode b_Md_number 160 = .ok (.iload 4, 2) := by decide +kernel
theorem d_Md_number_162 : decode b_Md_number 162 = .ok (.imul, 1) := by decide +kernel
theorem d_Md_number_163 : decode b_Md_number 163 = .ok (.iload_n 3, 1) := by decide +kernel
theorem d_Md_number_164 : decode b_Md_number 164 = .ok (.iadd, 1) := by decide +kernel
theorem d_Md_number_165 : decode b_Md_number 165 = .ok (.sipush 3120, 3) := by decide +kernel
theorem d_Md_number_168 : decode b_Md_number 168 = .ok (.isub, 1) := by decide +kernel
theorem d_Md_number_169 : decode b_Md_number 169 = .ok (.istore 4, 2) := by decide +kernel
theorem d_Md_number_171 : decode b_Md_number 171 = .ok (.aload_n 0, 1) := by decide +kernel
theorem d_Md_number_172 : decode b_Md_number 172 = .ok (.iload_n 1, 1) := by decide +kernel
theorem d_Md_number_173 : decode b_Md_number 173 = .ok (.invokevirtual 109, 3) := by decide +kernel
theorem d_Md_number_176 : decode b_Md_number 176 = .ok (.istore_n 3, 1) := by decide +kernel
theorem d_Md_number_177 : decode b_Md_number 177 = .ok (.goto (-53), 3) := by decide +kernel
theorem d_Md_number_180 : decode b_Md_number 180 = .ok (.aload_n 0, 1) := by decide +kernel
theorem d_Md_number_181 : decode b_Md_number 181 = .ok (.getfield 72, 3) := by decide +kernel
theorem d_Md_number_184 : decode b_Md_number 184 = .ok (.ifCond .ne 29, 3) := by decide +kernel
theorem d_Md_number_187 : decode b_Md_number 187 = .ok (.aload_n 0, 1) := by decide +kernel
theorem d_Md_number_188 : decode b_Md_number 188 = .ok (.iload_n 3, 1) := by decide +kernel
theorem d_Md_number_189 : decode b_Md_number 189 = .ok (.sipush 4096, 3) := by decide +kernel
theorem d_Md_number_192 : decode b_Md_number 192 = .ok (.if_icmp .ge 17, 3) := by decide +kernel
theorem d_Md_number_195 : decode b_Md_number 195 = .ok (.iload_n 3, 1) := by decide +kernel
theorem d_Md_number_196 : decode b_Md_number 196 = .ok (.sipush 256, 3) := by decide +kernel
theorem d_Md_number_199 : decode b_Md_number 199 = .ok (.idiv, 1) := by decide +kernel
theorem d_Md_number_200 : decode b_Md_number 200 = .ok (.bipush 10, 2) := by decide +kernel
theorem d_Md_number_202 : decode b_Md_number 202 = .ok (.if_icmp .ne 7, 3) := by decide +kernel
theorem d_Md_number_205 : decode b_Md_number 205 = .ok (.iconst (-1), 1) := by decide +kernel
theorem d_Md_number_206 : decode b_Md_number 206 = .ok (.goto 4, 3) := by decide +kernel
theorem d_Md_number_209 : decode b_Md_number 209 = .ok (.iload_n 3, 1) := by decide +kernel
theorem d_Md_number_210 : decode b_Md_number 210 = .ok (.putfield 75, 3) := by decide +kernel
theorem d_Md_number_213 : decode b_Md_number 213 = .ok (.iload_n 2, 1) := by decide +kernel
theorem d_Md_number_214 : decode b_Md_number 214 = .ok (.ifCond .eq 9, 3) := by decide +kernel
theorem d_Md_number_217 : decode b_Md_number 217 = .ok (.iload 4, 2) := by decide +kernel
theorem d_Md_number_219 : decode b_Md_number 219 = .ok (.ineg, 1) := by decide +kernel
theorem d_Md_number_220 : decode b_Md_number 220 = .ok (.goto 5, 3) := by decide +kernel
theorem d_Md_number_223 : decode b_Md_number 223 = .ok (.iload 4, 2) := by decide +kernel
theorem d_Md_number_225 : decode b_Md_number 225 = .ok (.ireturn, 1) := by decide +kernel
noncomputable def f_Md_number_124 (op : TMd → Int32 → TMd) : Nat → TMd → Int32 → Int32 → Int32 → Int32 → Int32 → (Int32 × TMd)
  | 0, d, _, _, _, _, _ => (0, d)
  | n + 1, d, x1, x2, x3, x4, x5 => (if (TMd_fault d) = 0 then (if (f_Md_isDigit d x3) = 0 then (if 4096 ≤ x3 then (if x2 = 0 then (x4, (TMd_set_held d x3)) else ((-x4), (TMd_set_held d x3))) else (if (x3 / 256) = 10 then (if x2 = 0 then (x4, (TMd_set_held d (-1))) else ((-x4), (TMd_set_held d (-1)))) else (if x2 = 0 then (x4, (TMd_set_held d x3)) else ((-x4), (TMd_set_held d x3))))) else (if (x5 + 1) = 10 then (let v_14 := f_Md_fail d 8; (f_Md_number_124 op n v_14 x1 x2 x3 x4 (x5 + 1))) else (match f_Md_asked op d x1 with | (r_13, v_13) => (f_Md_number_124 op n v_13 x1 x2 r_13 (((10 * x4) + x3) - 3120) (x5 + 1))))) else (if x2 = 0 then (x4, d) else ((-x4), d)))
set_option maxHeartbeats 4000000 in
set_option maxRecDepth 100000 in
theorem k_Md_number_124 {p : Program} {e : Env} {s : State} {m : MethodId} {args : Array Value} {below : List Frame} {meth : Method} {c : Code} {A : Nat → Prop} (l : Launch) (dC : Nat → ClassId) (dI : Nat → Nat → Nat) (ad : Nat → Nat) (ca : Nat → ClassId) (op : TMd → Int32 → TMd) (rf rl : Nat) (k : Int) (hopm : ∀ (d : TMd) (w : Int32), OPP k d → LVS 0 d (op d w)) (hop : ∀ (sz : Nat) (d : TMd) (w : Int32), OPP k d → wx_Mv l y_Md_open ws_Md_open ({ frames := rf, cells := 0, slots := 0, locals := rl } : Room) (dC, dI) vwCl (t_M ca) [.ref (ad 16), .int w] (w_M ad ca d) sz (fun v : TMd => w_M ad ca v) (fun v : TMd => v = op d w)) (C0 : wx_C p s m args meth c b_Md_number (some .int) 6 R_Md A (dC, dI) vwCl (t_M ca)) (F : (Int32 × TMd)) : ∀ (n : Nat) (d : TMd) (x1 : Int32) (x2 : Int32) (x3 : Int32) (x4 : Int32) (x5 : Int32), (APk k x1 d ∧ (TMd_fault d = 0 → GTok d x3 ∧ mu d + 1 < (n : Int)) ∧ 0 < n) → F = f_Md_number_124 op n d x1 x2 x3 x4 x5 → ∀ (H : Heap) (locs : List Loc), va_P (dC, dI) vwCl (w_M ad ca d) H → va_D A (w_M ad ca d) → va_S A s.heap H locs → ∀ (ls : Array Slot), lv_has ls 6 [(0, .ref (ad 16)), (1, .int x1), (2, .int x2), (3, .int x3), (4, .int x4), (5, .int x5)] → W p l e ({ frames := rf + 6, cells := 0, slots := 0, locals := rl + 137 } : Room) s m args below meth c H locs 0 0 (MQ below (va_Qi (fun (r : Int32) (v : TMd) => (r, v) = F) (wx_B (dC, dI) vwCl (t_M ca) (fun v : TMd => w_M ad ca v) A) A) args s 0 0 A) (F0 m 124 ls []) := by
  have C1 := C0
  obtain ⟨hx, hb, hr, hml, hown, ht, hlocks, hA, hK, hN⟩ := C1
  intro n
  induction n with
  | zero =>
    intro d x1 x2 x3 x4 x5 hc he
    exact absurd hc (fun h => Nat.lt_irrefl 0 h.2.2)
  | succ n ih =>
    intro d x1 x2 x3 x4 x5 hc he H locs hP hD hS ls hl
    rw [f_Md_number_124] at he
    refine lv_aload_n hx hb d_Md_number_124 rfl (lv_at hl 0 rfl) ?_
    refine va_get (D := (dC, dI)) (ci := 4) (v := .int (TMd_fault d)) (C := R_Md) (T := T_Md) (N := 23) hx hb ht i_Md hown hK hP 0 rfl rfl 13 (by decide) (ht _ q_458) (fun _ h9 => h9) rfl d_Md_number_125 ?_
    refine lv_if_ne (tgt := 180) hx hb d_Md_number_128 (by decide) (fun c_1 => ?_) (fun c_1 => ?_)
    · have he := he.trans (if_neg c_1)
      refine lv_aload_n hx hb d_Md_number_180 rfl (lv_at hl 0 rfl) ?_
      refine va_get (D := (dC, dI)) (ci := 4) (v := .int (TMd_fault d)) (C := R_Md) (T := T_Md) (N := 23) hx hb ht i_Md hown hK hP 0 rfl rfl 13 (by decide) (ht _ q_458) (fun _ h9 => h9) rfl d_Md_number_181 ?_
      refine lv_if_ne (tgt := 213) hx hb d_Md_number_184 (by decide) (fun c_2 => ?_) (fun c_2 => ?_)
      · refine lv_iload_n hx hb d_Md_number_213 rfl (lv_at hl 2 rfl) ?_
        refine lv_if_eq (tgt := 223) hx hb d_Md_number_214 (by decide) (fun c_3 => ?_) (fun c_3 => ?_)
        · have he := he.trans (if_pos c_3)
          refine lv_iload hx hb d_Md_number_223 (lv_at hl 4 rfl) ?_
          exact W.iret hx hb hr (v := x4) (fun t ht hW => ⟨⟨x4, d, rfl, he.symm, by rw [ht]; exact hP, va_K.moved hW.alike hK, hD⟩, hS.F ht⟩) hS.2.2 d_Md_number_225
        · have he := he.trans (if_neg c_3)
          refine lv_iload hx hb d_Md_number_217 (lv_at hl 4 rfl) ?_
          refine lv_ineg hx hb d_Md_number_219 ?_
          refine lv_goto (tgt := 225) hx hb d_Md_number_220 (by decide) ?_
          exact W.iret hx hb hr (v := (-x4)) (fun t ht hW => ⟨⟨(-x4), d, rfl, he.symm, by rw [ht]; exact hP, va_K.moved hW.alike hK, hD⟩, hS.F ht⟩) hS.2.2 d_Md_number_225
      · exact absurd c_2 c_1
    · have he := he.trans (if_pos c_1)
      refine lv_aload_n hx hb d_Md_number_131 rfl (lv_at hl 0 rfl) ?_
      refine lv_iload_n hx hb d_Md_number_132 rfl (lv_at hl 3 rfl) ?_
      refine wx_ci (wS := fun _ : Unit => w_M ad ca d) (ws2 := fun _ : Unit => w_M ad ca d) (va_runV (As := [.int x3]) (rest := []) ⟨hx, hb, hml, hown, ht⟩ (c_Md_isDigit l dC dI ad ca H.size d x3 _ rfl) (cwV 1 ht (tb_V q_630 q_632 q_40 q_47 q_633) rfl rfl rfl p_Md_isDigit ⟨show 0 + 1 ≤ rf + 6 by omega, show 8 + (2 + 11) + 0 ≤ rl + 137 by omega⟩) (wx_preV (wc := (w_M ad ca d)) hN hK hP hD [0, 1, 2, 3, 4, 5, 6, 7, 8, 9, 10, 11] [0, 1, 2, 3, 4, 5, 6, 7, 8, 9, 10] rfl (by decide) rfl (ci := 4) (q0 := 0) rfl rfl) rfl rfl hl.1 rfl (lv_room (Nat.le_of_ble_eq_true rfl)) d_Md_number_133 ⟨Nat.zero_le _, Nat.zero_le _⟩) hP hD hS hA [0, 1, 2, 3, 4, 5, 6, 7, 8, 9, 10, 11] [] [0, 1, 2, 3, 4, 5, 6, 7, 8, 9, 10, 11] rfl rfl (by decide) (by decide) (by decide) (fun _ => rfl) (fun r_4 _ H locs hw_4 hP hD hS => ?_)
      subst hw_4
      have hP : va_P (dC, dI) vwCl (w_M ad ca d) H := hP
      have hD : va_D A (w_M ad ca d) := hD
      refine lv_if_eq (tgt := 180) hx hb d_Md_number_136 (by decide) (fun c_5 => ?_) (fun c_5 => ?_)
      · have he := he.trans (if_pos c_5)
        refine lv_aload_n hx hb d_Md_number_180 rfl (lv_at hl 0 rfl) ?_
        refine va_get (D := (dC, dI)) (ci := 4) (v := .int (TMd_fault d)) (C := R_Md) (T := T_Md) (N := 23) hx hb ht i_Md hown hK hP 0 rfl rfl 13 (by decide) (ht _ q_458) (fun _ h9 => h9) rfl d_Md_number_181 ?_
        refine lv_if_ne (tgt := 213) hx hb d_Md_number_184 (by decide) (fun c_6 => ?_) (fun c_6 => ?_)
        · exact absurd c_1 c_6
        · refine lv_aload_n hx hb d_Md_number_187 rfl (lv_at hl 0 rfl) ?_
          refine lv_iload_n hx hb d_Md_number_188 rfl (lv_at hl 3 rfl) ?_
          refine lv_sipush (v := 4096) hx hb d_Md_number_189 (by decide) ?_
          refine lv_icmp_ge (tgt := 209) hx hb d_Md_number_192 (by decide) (fun c_7 => ?_) (fun c_7 => ?_)
          · have he := he.trans (if_pos c_7)
            refine lv_iload_n hx hb d_Md_number_209 rfl (lv_at hl 3 rfl) ?_
            refine va_put (D := (dC, dI)) (ci := 4) (v := .int x3) (ty := .int) (C := R_Md) (T := T_Md) (N := 23) hx hb ht i_Md ty_Md ty_Md_ok nm_Md hown hK hP hD hS 0 rfl rfl 11 (by decide) (ht _ q_456) (fun _ h9 => h9) rfl (by decide +kernel) rfl rfl (Nat.le_of_ble_eq_true rfl) d_Md_number_210 (fun H locs hP hD hS => ?_)
            have hP : va_P (dC, dI) vwCl (w_M ad ca (TMd_set_held d x3)) H := hP
            have hD : va_D A (w_M ad ca (TMd_set_held d x3)) := hD
            refine lv_iload_n hx hb d_Md_number_213 rfl (lv_at hl 2 rfl) ?_
            refine lv_if_eq (tgt := 223) hx hb d_Md_number_214 (by decide) (fun c_8 => ?_) (fun c_8 => ?_)
            · have he := he.trans (if_pos c_8)
              refine lv_iload hx hb d_Md_number_223 (lv_at hl 4 rfl) ?_
              exact W.iret hx hb hr (v := x4) (fun t ht hW => ⟨⟨x4, (TMd_set_held d x3), rfl, he.symm, by rw [ht]; exact hP, va_K.moved hW.alike hK, hD⟩, hS.F ht⟩) hS.2.2 d_Md_number_225
            · have he := he.trans (if_neg c_8)
              refine lv_iload hx hb d_Md_number_217 (lv_at hl 4 rfl) ?_
              refine lv_ineg hx hb d_Md_number_219 ?_
              refine lv_goto (tgt := 225) hx hb d_Md_number_220 (by decide) ?_
              exact W.iret hx hb hr (v := (-x4)) (fun t ht hW => ⟨⟨(-x4), (TMd_set_held d x3), rfl, he.symm, by rw [ht]; exact hP, va_K.moved hW.alike hK, hD⟩, hS.F ht⟩) hS.2.2 d_Md_number_225
          · have he := he.trans (if_neg c_7)
            refine lv_iload_n hx hb d_Md_number_195 rfl (lv_at hl 3 rfl) ?_
            refine lv_sipush (v := 256) hx hb d_Md_number_196 (by decide) ?_
            refine lv_idiv hx hb d_Md_number_199 (by decide) ?_
            refine lv_bipush (v := 10) hx hb d_Md_number_200 (by decide) ?_
            refine lv_icmp_ne (tgt := 209) hx hb d_Md_number_202 (by decide) (fun c_9 => ?_) (fun c_9 => ?_)
            · have he := he.trans (if_neg c_9)
              refine lv_iload_n hx hb d_Md_number_209 rfl (lv_at hl 3 rfl) ?_
              refine va_put (D := (dC, dI)) (ci := 4) (v := .int x3) (ty := .int) (C := R_Md) (T := T_Md) (N := 23) hx hb ht i_Md ty_Md ty_Md_ok nm_Md hown hK hP hD hS 0 rfl rfl 11 (by decide) (ht _ q_456) (fun _ h9 => h9) rfl (by decide +kernel) rfl rfl (Nat.le_of_ble_eq_true rfl) d_Md_number_210 (fun H locs hP hD hS => ?_)
              have hP : va_P (dC, dI) vwCl (w_M ad ca (TMd_set_held d x3)) H := hP
              have hD : va_D A (w_M ad ca (TMd_set_held d x3)) := hD
              refine lv_iload_n hx hb d_Md_number_213 rfl (lv_at hl 2 rfl) ?_
              refine lv_if_eq (tgt := 223) hx hb d_Md_number_214 (by decide) (fun c_10 => ?_) (fun c_10 => ?_)
              · have he := he.trans (if_pos c_10)
                refine lv_iload hx hb d_Md_number_223 (lv_at hl 4 rfl) ?_
                exact W.iret hx hb hr (v := x4) (fun t ht hW => ⟨⟨x4, (TMd_set_held d x3), rfl, he.symm, by rw [ht]; exact hP, va_K.moved hW.alike hK, hD⟩, hS.F ht⟩) hS.2.2 d_Md_number_225
              · have he := he.trans (if_neg c_10)
                refine lv_iload hx hb d_Md_number_217 (lv_at hl 4 rfl) ?_
                refine lv_ineg hx hb d_Md_number_219 ?_
                refine lv_goto (tgt := 225) hx hb d_Md_number_220 (by decide) ?_
                exact W.iret hx hb hr (v := (-x4)) (fun t ht hW => ⟨⟨(-x4), (TMd_set_held d x3), rfl, he.symm, by rw [ht]; exact hP, va_K.moved hW.alike hK, hD⟩, hS.F ht⟩) hS.2.2 d_Md_number_225
            · have he := he.trans (if_pos c_9)
              refine lv_iconst (v := (-1)) hx hb d_Md_number_205 (by decide) ?_
              refine lv_goto (tgt := 210) hx hb d_Md_number_206 (by decide) ?_
              refine va_put (D := (dC, dI)) (ci := 4) (v := .int (-1)) (ty := .int) (C := R_Md) (T := T_Md) (N := 23) hx hb ht i_Md ty_Md ty_Md_ok nm_Md hown hK hP hD hS 0 rfl rfl 11 (by decide) (ht _ q_456) (fun _ h9 => h9) rfl (by decide +kernel) rfl rfl (Nat.le_of_ble_eq_true rfl) d_Md_number_210 (fun H locs hP hD hS => ?_)
              have hP : va_P (dC, dI) vwCl (w_M ad ca (TMd_set_held d (-1))) H := hP
              have hD : va_D A (w_M ad ca (TMd_set_held d (-1))) := hD
              refine lv_iload_n hx hb d_Md_number_213 rfl (lv_at hl 2 rfl) ?_
              refine lv_if_eq (tgt := 223) hx hb d_Md_number_214 (by decide) (fun c_11 => ?_) (fun c_11 => ?_)
              · have he := he.trans (if_pos c_11)
                refine lv_iload hx hb d_Md_number_223 (lv_at hl 4 rfl) ?_
                exact W.iret hx hb hr (v := x4) (fun t ht hW => ⟨⟨x4, (TMd_set_held d (-1)), rfl, he.symm, by rw [ht]; exact hP, va_K.moved hW.alike hK, hD⟩, hS.F ht⟩) hS.2.2 d_Md_number_225
              · have he := he.trans (if_neg c_11)
                refine lv_iload hx hb d_Md_number_217 (lv_at hl 4 rfl) ?_
                refine lv_ineg hx hb d_Md_number_219 ?_
                refine lv_goto (tgt := 225) hx hb d_Md_number_220 (by decide) ?_
                exact W.iret hx hb hr (v := (-x4)) (fun t ht hW => ⟨⟨(-x4), (TMd_set_held d (-1)), rfl, he.symm, by rw [ht]; exact hP, va_K.moved hW.alike hK, hD⟩, hS.F ht⟩) hS.2.2 d_Md_number_225
      · have he := he.trans (if_neg c_5)
        refine lv_iinc (v := (x5 + 1)) (lv' := [(5, .int (x5 + 1)), (0, .ref (ad 16)), (1, .int x1), (2, .int x2), (3, .int x3), (4, .int x4)]) hx hb d_Md_number_139 hl (k := 5) rfl rfl (by decide) rfl (fun ls hl => ?_)
        refine lv_iload hx hb d_Md_number_142 (lv_at hl 0 rfl) ?_
        refine lv_bipush (v := 10) hx hb d_Md_number_144 (by decide) ?_
        refine lv_icmp_ne (tgt := 158) hx hb d_Md_number_146 (by decide) (fun c_12 => ?_) (fun c_12 => ?_)
        · have he := he.trans (if_neg c_12)
          refine lv_bipush (v := 10) hx hb d_Md_number_158 (by decide) ?_
          refine lv_iload hx hb d_Md_number_160 (lv_at hl 5 rfl) ?_
          refine lv_imul hx hb d_Md_number_162 ?_
          refine lv_iload_n hx hb d_Md_number_163 rfl (lv_at hl 4 rfl) ?_
          refine lv_iadd hx hb d_Md_number_164 ?_
          refine lv_sipush (v := 3120) hx hb d_Md_number_165 (by decide) ?_
          refine lv_isub hx hb d_Md_number_168 ?_
          refine lv_istore (lv' := [(4, .int (((10 * x4) + x3) - 3120)), (5, .int (x5 + 1)), (0, .ref (ad 16)), (1, .int x1), (2, .int x2), (3, .int x3)]) hx hb d_Md_number_169 hl (by decide) rfl (fun ls hl => ?_)
          refine lv_aload_n hx hb d_Md_number_171 rfl (lv_at hl 2 rfl) ?_
          refine lv_iload_n hx hb d_Md_number_172 rfl (lv_at hl 3 rfl) ?_
          refine wx_ci (wS := fun v : TMd => w_M ad ca v) (ws2 := fun v : TMd => w_M ad ca v) (va_runV (As := [.int x1]) (rest := []) ⟨hx, hb, hml, hown, ht⟩ (c_Md_asked l dC dI ad ca op rf rl k hopm hop H.size d x1 hc.1 _ rfl) (cwV 1 ht (tb_V q_595 q_597 q_32 q_47 q_598) rfl rfl rfl p_Md_asked ⟨show (rf + 5) + 1 ≤ rf + 6 by omega, show 8 + (5 + 11) + (rl + 113) ≤ rl + 137 by omega⟩) (wx_preV (wc := (w_M ad ca d)) hN hK hP hD [0, 1, 2, 3, 4, 5, 6, 7, 8, 9, 10, 11] [0, 1, 2, 3, 4, 5, 6, 7, 8, 9, 10] rfl (by decide) rfl (ci := 4) (q0 := 0) rfl rfl) rfl rfl hl.1 rfl (lv_room (Nat.le_of_ble_eq_true rfl)) d_Md_number_173 ⟨Nat.zero_le _, Nat.zero_le _⟩) hP hD hS hA [0, 1, 2, 3, 4, 5, 6, 7, 8, 9, 10, 11] [] [0, 1, 2, 3, 4, 5, 6, 7, 8, 9, 10, 11] rfl rfl (by decide) (by decide) (by decide) (fun _ => rfl) (fun r_13 v_13 H locs hw_13 hP hD hS => ?_)
          have hP : va_P (dC, dI) vwCl (w_M ad ca v_13) H := hP
          have hD : va_D A (w_M ad ca v_13) := hD
          rw [← hw_13] at he
          try dsimp only at he
          refine lv_istore_n (lv' := [(3, .int r_13), (4, .int (((10 * x4) + x3) - 3120)), (5, .int (x5 + 1)), (0, .ref (ad 16)), (1, .int x1), (2, .int x2)]) hx hb d_Md_number_176 rfl hl (by decide) rfl (fun ls hl => ?_)
          refine lv_goto (tgt := 124) hx hb d_Md_number_177 (by decide) ?_
          exact ih v_13 x1 x2 r_13 (((10 * x4) + x3) - 3120) (x5 + 1) (nu_next op k hopm hc.1 (nu_mu hc.2.1 c_1) hw_13) he _ _ hP hD hS _ (lv_sub hl [3, 4, 5, 0, 1, 2] rfl)
        · have he := he.trans (if_pos c_12)
          refine lv_aload_n hx hb d_Md_number_149 rfl (lv_at hl 1 rfl) ?_
          refine lv_bipush (v := 8) hx hb d_Md_number_150 (by decide) ?_
          refine wx_cv (wS := fun v : TMd => w_M ad ca v) (ws2 := fun v : TMd => w_M ad ca v) (va_runV (As := [.int 8]) (rest := []) ⟨hx, hb, hml, hown, ht⟩ (c_Md_fail l dC dI ad ca H.size d 8 _ rfl) (cwV 1 ht (tb_V q_571 q_573 q_26 q_47 q_574) rfl rfl rfl p_Md_fail ⟨show 0 + 1 ≤ rf + 6 by omega, show 8 + (2 + 11) + 0 ≤ rl + 137 by omega⟩) (wx_preV (wc := (w_M ad ca d)) hN hK hP hD [0, 1, 2, 3, 4, 5, 6, 7, 8, 9, 10, 11] [0, 1, 2, 3, 4, 5, 6, 7, 8, 9, 10] rfl (by decide) rfl (ci := 4) (q0 := 0) rfl rfl) rfl rfl hl.1 rfl (lv_room (Nat.le_of_ble_eq_true rfl)) d_Md_number_152 ⟨Nat.zero_le _, Nat.zero_le _⟩) hP hD hS hA [0, 1, 2, 3, 4, 5, 6, 7, 8, 9, 10, 11] [] [0, 1, 2, 3, 4, 5, 6, 7, 8, 9, 10, 11] rfl rfl (by decide) (by decide) (by decide) (fun _ => rfl) (fun v_14 H locs hw_14 hP hD hS => ?_)
          have hP : va_P (dC, dI) vwCl (w_M ad ca v_14) H := hP
          have hD : va_D A (w_M ad ca v_14) := hD
          rw [← hw_14] at he
          try dsimp only at he
          refine lv_goto (tgt := 124) hx hb d_Md_number_155 (by decide) ?_
          exact ih v_14 x1 x2 x3 x4 (x5 + 1) (nu_fail hw_14 (by decide) hc.1 (nu_mu hc.2.1 c_1)) he _ _ hP hD hS _ (lv_sub hl [1, 2, 3, 4, 5, 0] rfl)
noncomputable def f_Md_number_67 (op : TMd → Int32 → TMd) (d : TMd) (x1 : Int32) (x2 : Int32) (x3 : Int32) : (Int32 × TMd) := (if (TMd_fault d) ≤ 0 then (if x3 < 4096 then (if (f_Md_isDigit d x3) = 0 then (let v_5 := f_Md_fail d 3; (if x2 = 0 then (0, v_5) else ((-0), v_5))) else (f_Md_number_124 op TM d x1 x2 x3 0 0)) else (if (f_Md_kindOf d x3) = 4 then (if x2 = 0 then ((f_Md_valueOf d x3), d) else ((-(f_Md_valueOf d x3)), d)) else (if (f_Md_isDigit d x3) = 0 then (let v_11 := f_Md_fail d 3; (if x2 = 0 then (0, v_11) else ((-0), v_11))) else (f_Md_number_124 op TM d x1 x2 x3 0 0)))) else (0, d))
set_option maxHeartbeats 4000000 in
set_option maxRecDepth 100000 in
theorem k_Md_number_67 {p : Program} {e : Env} {s : State} {m : MethodId} {args : Array Value} {below : List Frame} {meth : Method} {c : Code} {A : Nat → Prop} (l : Launch) (dC : Nat → ClassId) (dI : Nat → Nat → Nat) (ad : Nat → Nat) (ca : Nat → ClassId) (op : TMd → Int32 → TMd) (rf rl : Nat) (k : Int) (hopm : ∀ (d : TMd) (w : Int32), OPP k d → LVS 0 d (op d w)) (hop : ∀ (sz : Nat) (d : TMd) (w : Int32), OPP k d → wx_Mv l y_Md_open ws_Md_open ({ frames := rf, cells := 0, slots := 0, locals := rl } : Room) (dC, dI) vwCl (t_M ca) [.ref (ad 16), .int w] (w_M ad ca d) sz (fun v : TMd => w_M ad ca v) (fun v : TMd => v = op d w)) (C0 : wx_C p s m args meth c b_Md_number (some .int) 6 R_Md A (dC, dI) vwCl (t_M ca)) (F : (Int32 × TMd)) : ∀ (d : TMd) (x1 : Int32) (x2 : Int32) (x3 : Int32), (APk k x1 d ∧ (TMd_fault d = 0 → GTok d x3)) → F = f_Md_number_67 op d x1 x2 x3 → ∀ (H : Heap) (locs : List Loc), va_P (dC, dI) vwCl (w_M ad ca d) H → va_D A (w_M ad ca d) → va_S A s.heap H locs → ∀ (ls : Array Slot), lv_has ls 6 [(0, .ref (ad 16)), (1, .int x1), (2, .int x2), (3, .int x3)] → W p l e ({ frames := rf + 6, cells := 0, slots := 0, locals := rl + 137 } : Room) s m args below meth c H locs 0 0 (MQ below (va_Qi (fun (r : Int32) (v : TMd) => (r, v) = F) (wx_B (dC, dI) vwCl (t_M ca) (fun v : TMd => w_M ad ca v) A) A) args s 0 0 A) (F0 m 67 ls []) := by
  have C1 := C0
  obtain ⟨hx, hb, hr, hml, hown, ht, hlocks, hA, hK, hN⟩ := C1
  intro d x1 x2 x3 hc he H locs hP hD hS ls hl
  unfold f_Md_number_67 at he
  refine lv_aload_n hx hb d_Md_number_67 rfl (lv_at hl 0 rfl) ?_
  refine va_get (D := (dC, dI)) (ci := 4) (v := .int (TMd_fault d)) (C := R_Md) (T := T_Md) (N := 23) hx hb ht i_Md hown hK hP 0 rfl rfl 13 (by decide) (ht _ q_458) (fun _ h9 => h9) rfl d_Md_number_68 ?_
  refine lv_if_le (tgt := 76) hx hb d_Md_number_71 (by decide) (fun c_1 => ?_) (fun c_1 => ?_)
  · have he := he.trans (if_pos c_1)
    refine lv_iconst (v := 0) hx hb d_Md_number_76 (by decide) ?_
    refine lv_istore (lv' := [(4, .int 0), (0, .ref (ad 16)), (1, .int x1), (2, .int x2), (3, .int x3)]) hx hb d_Md_number_77 hl (by decide) rfl (fun ls hl => ?_)
    refine lv_iload_n hx hb d_Md_number_79 rfl (lv_at hl 4 rfl) ?_
    refine lv_sipush (v := 4096) hx hb d_Md_number_80 (by decide) ?_
    refine lv_icmp_lt (tgt := 105) hx hb d_Md_number_83 (by decide) (fun c_2 => ?_) (fun c_2 => ?_)
    · have he := he.trans (if_pos c_2)
      refine lv_aload_n hx hb d_Md_number_105 rfl (lv_at hl 1 rfl) ?_
      refine lv_iload_n hx hb d_Md_number_106 rfl (lv_at hl 4 rfl) ?_
      refine wx_ci (wS := fun _ : Unit => w_M ad ca d) (ws2 := fun _ : Unit => w_M ad ca d) (va_runV (As := [.int x3]) (rest := []) ⟨hx, hb, hml, hown, ht⟩ (c_Md_isDigit l dC dI ad ca H.size d x3 _ rfl) (cwV 1 ht (tb_V q_630 q_632 q_40 q_47 q_633) rfl rfl rfl p_Md_isDigit ⟨show 0 + 1 ≤ rf + 6 by omega, show 8 + (2 + 11) + 0 ≤ rl + 137 by omega⟩) (wx_preV (wc := (w_M ad ca d)) hN hK hP hD [0, 1, 2, 3, 4, 5, 6, 7, 8, 9, 10, 11] [0, 1, 2, 3, 4, 5, 6, 7, 8, 9, 10] rfl (by decide) rfl (ci := 4) (q0 := 0) rfl rfl) rfl rfl hl.1 rfl (lv_room (Nat.le_of_ble_eq_true rfl)) d_Md_number_107 ⟨Nat.zero_le _, Nat.zero_le _⟩) hP hD hS hA [0, 1, 2, 3, 4, 5, 6, 7, 8, 9, 10, 11] [] [0, 1, 2, 3, 4, 5, 6, 7, 8, 9, 10, 11] rfl rfl (by decide) (by decide) (by decide) (fun _ => rfl) (fun r_3 _ H locs hw_3 hP hD hS => ?_)
      subst hw_3
      have hP : va_P (dC, dI) vwCl (w_M ad ca d) H := hP
      have hD : va_D A (w_M ad ca d) := hD
      refine lv_if_ne (tgt := 121) hx hb d_Md_number_110 (by decide) (fun c_4 => ?_) (fun c_4 => ?_)
      · have he := he.trans (if_neg c_4)
        refine lv_iconst (v := 0) hx hb d_Md_number_121 (by decide) ?_
        refine lv_istore (lv' := [(5, .int 0), (4, .int 0), (0, .ref (ad 16)), (1, .int x1), (2, .int x2), (3, .int x3)]) hx hb d_Md_number_122 hl (by decide) rfl (fun ls hl => ?_)
        exact k_Md_number_124 l dC dI ad ca op rf rl k hopm hop C0 F TM d x1 x2 x3 0 0 ⟨hc.1, fun q => ⟨hc.2 q, (nu_TM hc.1.2.1).1⟩, (nu_TM hc.1.2.1).2⟩ he _ _ hP hD hS _ (lv_sub hl [2, 3, 4, 5, 1, 0] rfl)
      · have he := he.trans (if_pos c_4)
        refine lv_aload_n hx hb d_Md_number_113 rfl (lv_at hl 1 rfl) ?_
        refine lv_iconst (v := 3) hx hb d_Md_number_114 (by decide) ?_
        refine wx_cv (wS := fun v : TMd => w_M ad ca v) (ws2 := fun v : TMd => w_M ad ca v) (va_runV (As := [.int 3]) (rest := []) ⟨hx, hb, hml, hown, ht⟩ (c_Md_fail l dC dI ad ca H.size d 3 _ rfl) (cwV 1 ht (tb_V q_571 q_573 q_26 q_47 q_574) rfl rfl rfl p_Md_fail ⟨show 0 + 1 ≤ rf + 6 by omega, show 8 + (2 + 11) + 0 ≤ rl + 137 by omega⟩) (wx_preV (wc := (w_M ad ca d)) hN hK hP hD [0, 1, 2, 3, 4, 5, 6, 7, 8, 9, 10, 11] [0, 1, 2, 3, 4, 5, 6, 7, 8, 9, 10] rfl (by decide) rfl (ci := 4) (q0 := 0) rfl rfl) rfl rfl hl.1 rfl (lv_room (Nat.le_of_ble_eq_true rfl)) d_Md_number_115 ⟨Nat.zero_le _, Nat.zero_le _⟩) hP hD hS hA [0, 1, 2, 3, 4, 5, 6, 7, 8, 9, 10, 11] [] [0, 1, 2, 3, 4, 5, 6, 7, 8, 9, 10, 11] rfl rfl (by decide) (by decide) (by decide) (fun _ => rfl) (fun v_5 H locs hw_5 hP hD hS => ?_)
        have hP : va_P (dC, dI) vwCl (w_M ad ca v_5) H := hP
        have hD : va_D A (w_M ad ca v_5) := hD
        rw [← hw_5] at he
        try dsimp only at he
        refine lv_goto (tgt := 213) hx hb d_Md_number_118 (by decide) ?_
        refine lv_iload_n hx hb d_Md_number_213 rfl (lv_at hl 3 rfl) ?_
        refine lv_if_eq (tgt := 223) hx hb d_Md_number_214 (by decide) (fun c_6 => ?_) (fun c_6 => ?_)
        · have he := he.trans (if_pos c_6)
          refine lv_iload hx hb d_Md_number_223 (lv_at hl 0 rfl) ?_
          exact W.iret hx hb hr (v := 0) (fun t ht hW => ⟨⟨0, v_5, rfl, he.symm, by rw [ht]; exact hP, va_K.moved hW.alike hK, hD⟩, hS.F ht⟩) hS.2.2 d_Md_number_225
        · have he := he.trans (if_neg c_6)
          refine lv_iload hx hb d_Md_number_217 (lv_at hl 0 rfl) ?_
          refine lv_ineg hx hb d_Md_number_219 ?_
          refine lv_goto (tgt := 225) hx hb d_Md_number_220 (by decide) ?_
          exact W.iret hx hb hr (v := (-0)) (fun t ht hW => ⟨⟨(-0), v_5, rfl, he.symm, by rw [ht]; exact hP, va_K.moved hW.alike hK, hD⟩, hS.F ht⟩) hS.2.2 d_Md_number_225
    · have he := he.trans (if_neg c_2)
      refine lv_aload_n hx hb d_Md_number_86 rfl (lv_at hl 1 rfl) ?_
      refine lv_iload_n hx hb d_Md_number_87 rfl (lv_at hl 4 rfl) ?_
      refine wx_ci (wS := fun _ : Unit => w_M ad ca d) (ws2 := fun _ : Unit => w_M ad ca d) (va_runV (As := [.int x3]) (rest := []) ⟨hx, hb, hml, hown, ht⟩ (c_Md_kindOf l dC dI ad ca H.size d x3 (nu_tok hc.1.2.1 hc.2 c_1) _ rfl) (cwV 1 ht (tb_V q_555 q_557 q_23 q_47 q_558) rfl rfl rfl p_Md_kindOf ⟨show 0 + 1 ≤ rf + 6 by omega, show 8 + (2 + 11) + 0 ≤ rl + 137 by omega⟩) (wx_preV (wc := (w_M ad ca d)) hN hK hP hD [0, 1, 2, 3, 4, 5, 6, 7, 8, 9, 10, 11] [0, 1, 2, 3, 4, 5, 6, 7, 8, 9, 10] rfl (by decide) rfl (ci := 4) (q0 := 0) rfl rfl) rfl rfl hl.1 rfl (lv_room (Nat.le_of_ble_eq_true rfl)) d_Md_number_88 ⟨Nat.zero_le _, Nat.zero_le _⟩) hP hD hS hA [0, 1, 2, 3, 4, 5, 6, 7, 8, 9, 10, 11] [] [0, 1, 2, 3, 4, 5, 6, 7, 8, 9, 10, 11] rfl rfl (by decide) (by decide) (by decide) (fun _ => rfl) (fun r_7 _ H locs hw_7 hP hD hS => ?_)
      subst hw_7
      have hP : va_P (dC, dI) vwCl (w_M ad ca d) H := hP
      have hD : va_D A (w_M ad ca d) := hD
      refine lv_iconst (v := 4) hx hb d_Md_number_91 (by decide) ?_
      refine lv_icmp_ne (tgt := 105) hx hb d_Md_number_92 (by decide) (fun c_8 => ?_) (fun c_8 => ?_)
      · have he := he.trans (if_neg c_8)
        refine lv_aload_n hx hb d_Md_number_105 rfl (lv_at hl 1 rfl) ?_
        refine lv_iload_n hx hb d_Md_number_106 rfl (lv_at hl 4 rfl) ?_
        refine wx_ci (wS := fun _ : Unit => w_M ad ca d) (ws2 := fun _ : Unit => w_M ad ca d) (va_runV (As := [.int x3]) (rest := []) ⟨hx, hb, hml, hown, ht⟩ (c_Md_isDigit l dC dI ad ca H.size d x3 _ rfl) (cwV 1 ht (tb_V q_630 q_632 q_40 q_47 q_633) rfl rfl rfl p_Md_isDigit ⟨show 0 + 1 ≤ rf + 6 by omega, show 8 + (2 + 11) + 0 ≤ rl + 137 by omega⟩) (wx_preV (wc := (w_M ad ca d)) hN hK hP hD [0, 1, 2, 3, 4, 5, 6, 7, 8, 9, 10, 11] [0, 1, 2, 3, 4, 5, 6, 7, 8, 9, 10] rfl (by decide) rfl (ci := 4) (q0 := 0) rfl rfl) rfl rfl hl.1 rfl (lv_room (Nat.le_of_ble_eq_true rfl)) d_Md_number_107 ⟨Nat.zero_le _, Nat.zero_le _⟩) hP hD hS hA [0, 1, 2, 3, 4, 5, 6, 7, 8, 9, 10, 11] [] [0, 1, 2, 3, 4, 5, 6, 7, 8, 9, 10, 11] rfl rfl (by decide) (by decide) (by decide) (fun _ => rfl) (fun r_9 _ H locs hw_9 hP hD hS => ?_)
        subst hw_9
        have hP : va_P (dC, dI) vwCl (w_M ad ca d) H := hP
        have hD : va_D A (w_M ad ca d) := hD
        refine lv_if_ne (tgt := 121) hx hb d_Md_number_110 (by decide) (fun c_10 => ?_) (fun c_10 => ?_)
        · have he := he.trans (if_neg c_10)
          refine lv_iconst (v := 0) hx hb d_Md_number_121 (by decide) ?_
          refine lv_istore (lv' := [(5, .int 0), (4, .int 0), (0, .ref (ad 16)), (1, .int x1), (2, .int x2), (3, .int x3)]) hx hb d_Md_number_122 hl (by decide) rfl (fun ls hl => ?_)
          exact k_Md_number_124 l dC dI ad ca op rf rl k hopm hop C0 F TM d x1 x2 x3 0 0 ⟨hc.1, fun q => ⟨hc.2 q, (nu_TM hc.1.2.1).1⟩, (nu_TM hc.1.2.1).2⟩ he _ _ hP hD hS _ (lv_sub hl [2, 3, 4, 5, 1, 0] rfl)
        · have he := he.trans (if_pos c_10)
          refine lv_aload_n hx hb d_Md_number_113 rfl (lv_at hl 1 rfl) ?_
          refine lv_iconst (v := 3) hx hb d_Md_number_114 (by decide) ?_
          refine wx_cv (wS := fun v : TMd => w_M ad ca v) (ws2 := fun v : TMd => w_M ad ca v) (va_runV (As := [.int 3]) (rest := []) ⟨hx, hb, hml, hown, ht⟩ (c_Md_fail l dC dI ad ca H.size d 3 _ rfl) (cwV 1 ht (tb_V q_571 q_573 q_26 q_47 q_574) rfl rfl rfl p_Md_fail ⟨show 0 + 1 ≤ rf + 6 by omega, show 8 + (2 + 11) + 0 ≤ rl + 137 by omega⟩) (wx_preV (wc := (w_M ad ca d)) hN hK hP hD [0, 1, 2, 3, 4, 5, 6, 7, 8, 9, 10, 11] [0, 1, 2, 3, 4, 5, 6, 7, 8, 9, 10] rfl (by decide) rfl (ci := 4) (q0 := 0) rfl rfl) rfl rfl hl.1 rfl (lv_room (Nat.le_of_ble_eq_true rfl)) d_Md_number_115 ⟨Nat.zero_le _, Nat.zero_le _⟩) hP hD hS hA [0, 1, 2, 3, 4, 5, 6, 7, 8, 9, 10, 11] [] [0, 1, 2, 3, 4, 5, 6, 7, 8, 9, 10, 11] rfl rfl (by decide) (by decide) (by decide) (fun _ => rfl) (fun v_11 H locs hw_11 hP hD hS => ?_)
          have hP : va_P (dC, dI) vwCl (w_M ad ca v_11) H := hP
          have hD : va_D A (w_M ad ca v_11) := hD
          rw [← hw_11] at he
          try dsimp only at he
          refine lv_goto (tgt := 213) hx hb d_Md_number_118 (by decide) ?_
          refine lv_iload_n hx hb d_Md_number_213 rfl (lv_at hl 3 rfl) ?_
          refine lv_if_eq (tgt := 223) hx hb d_Md_number_214 (by decide) (fun c_12 => ?_) (fun c_12 => ?_)
          · have he := he.trans (if_pos c_12)
            refine lv_iload hx hb d_Md_number_223 (lv_at hl 0 rfl) ?_
            exact W.iret hx hb hr (v := 0) (fun t ht hW => ⟨⟨0, v_11, rfl, he.symm, by rw [ht]; exact hP, va_K.moved hW.alike hK, hD⟩, hS.F ht⟩) hS.2.2 d_Md_number_225
          · have he := he.trans (if_neg c_12)
            refine lv_iload hx hb d_Md_number_217 (lv_at hl 0 rfl) ?_
            refine lv_ineg hx hb d_Md_number_219 ?_
            refine lv_goto (tgt := 225) hx hb d_Md_number_220 (by decide) ?_
            exact W.iret hx hb hr (v := (-0)) (fun t ht hW => ⟨⟨(-0), v_11, rfl, he.symm, by rw [ht]; exact hP, va_K.moved hW.alike hK, hD⟩, hS.F ht⟩) hS.2.2 d_Md_number_225
      · have he := he.trans (if_pos c_8)
        refine lv_aload_n hx hb d_Md_number_95 rfl (lv_at hl 1 rfl) ?_
        refine lv_iload_n hx hb d_Md_number_96 rfl (lv_at hl 4 rfl) ?_
        refine wx_ci (wS := fun _ : Unit => w_M ad ca d) (ws2 := fun _ : Unit => w_M ad ca d) (va_runV (As := [.int x3]) (rest := []) ⟨hx, hb, hml, hown, ht⟩ (c_Md_valueOf l dC dI ad ca H.size d x3 (nu_tok hc.1.2.1 hc.2 c_1) _ rfl) (cwV 1 ht (tb_V q_559 q_561 q_24 q_47 q_562) rfl rfl rfl p_Md_valueOf ⟨show 0 + 1 ≤ rf + 6 by omega, show 8 + (2 + 11) + 0 ≤ rl + 137 by omega⟩) (wx_preV (wc := (w_M ad ca d)) hN hK hP hD [0, 1, 2, 3, 4, 5, 6, 7, 8, 9, 10, 11] [0, 1, 2, 3, 4, 5, 6, 7, 8, 9, 10] rfl (by decide) rfl (ci := 4) (q0 := 0) rfl rfl) rfl rfl hl.1 rfl (lv_room (Nat.le_of_ble_eq_true rfl)) d_Md_number_97 ⟨Nat.zero_le _, Nat.zero_le _⟩) hP hD hS hA [0, 1, 2, 3, 4, 5, 6, 7, 8, 9, 10, 11] [] [0, 1, 2, 3, 4, 5, 6, 7, 8, 9, 10, 11] rfl rfl (by decide) (by decide) (by decide) (fun _ => rfl) (fun r_13 _ H locs hw_13 hP hD hS => ?_)
        subst hw_13
        have hP : va_P (dC, dI) vwCl (w_M ad ca d) H := hP
        have hD : va_D A (w_M ad ca d) := hD
        refine lv_istore (lv' := [(4, .int (f_Md_valueOf d x3)), (0, .ref (ad 16)), (1, .int x1), (2, .int x2), (3, .int x3)]) hx hb d_Md_number_100 hl (by decide) rfl (fun ls hl => ?_)
        refine lv_goto (tgt := 213) hx hb d_Md_number_102 (by decide) ?_
        refine lv_iload_n hx hb d_Md_number_213 rfl (lv_at hl 3 rfl) ?_
        refine lv_if_eq (tgt := 223) hx hb d_Md_number_214 (by decide) (fun c_14 => ?_) (fun c_14 => ?_)
        · have he := he.trans (if_pos c_14)
          refine lv_iload hx hb d_Md_number_223 (lv_at hl 0 rfl) ?_
          exact W.iret hx hb hr (v := (f_Md_valueOf d x3)) (fun t ht hW => ⟨⟨(f_Md_valueOf d x3), d, rfl, he.symm, by rw [ht]; exact hP, va_K.moved hW.alike hK, hD⟩, hS.F ht⟩) hS.2.2 d_Md_number_225
        · have he := he.trans (if_neg c_14)
          refine lv_iload hx hb d_Md_number_217 (lv_at hl 0 rfl) ?_
          refine lv_ineg hx hb d_Md_number_219 ?_
          refine lv_goto (tgt := 225) hx hb d_Md_number_220 (by decide) ?_
          exact W.iret hx hb hr (v := (-(f_Md_valueOf d x3))) (fun t ht hW => ⟨⟨(-(f_Md_valueOf d x3)), d, rfl, he.symm, by rw [ht]; exact hP, va_K.moved hW.alike hK, hD⟩, hS.F ht⟩) hS.2.2 d_Md_number_225
  · have he := he.trans (if_neg c_1)
    refine lv_iconst (v := 0) hx hb d_Md_number_74 (by decide) ?_
    exact W.iret hx hb hr (v := 0) (fun t ht hW => ⟨⟨0, d, rfl, he.symm, by rw [ht]; exact hP, va_K.moved hW.alike hK, hD⟩, hS.F ht⟩) hS.2.2 d_Md_number_75
noncomputable def f_Md_number_8 (op : TMd → Int32 → TMd) : Nat → TMd → Int32 → Int32 → Int32 → (Int32 × TMd)
  | 0, d, _, _, _ => (0, d)
  | n + 1, d, x1, x2, x3 => (if (TMd_fault d) = 0 then (if (f_Md_isSignOf d x3 43 12) = 0 then (if (f_Md_isSignOf d x3 45 12) = 0 then (f_Md_number_67 op d x1 x2 x3) else (if x2 = (f_Md_isSignOf d x3 45 12) then (match f_Md_asked op d x1 with | (r_12, v_12) => (f_Md_number_8 op n v_12 x1 0 r_12)) else (match f_Md_asked op d x1 with | (r_13, v_13) => (f_Md_number_8 op n v_13 x1 1 r_13)))) else (if x2 = (f_Md_isSignOf d x3 45 12) then (match f_Md_asked op d x1 with | (r_6, v_6) => (f_Md_number_8 op n v_6 x1 0 r_6)) else (match f_Md_asked op d x1 with | (r_7, v_7) => (f_Md_number_8 op n v_7 x1 1 r_7)))) else (f_Md_number_67 op d x1 x2 x3))
set_option maxHeartbeats 4000000 in
set_option maxRecDepth 100000 in
theorem k_Md_number_8 {p : Program} {e : Env} {s : State} {m : MethodId} {args : Array Value} {below : List Frame} {meth : Method} {c : Code} {A : Nat → Prop} (l : Launch) (dC : Nat → ClassId) (dI : Nat → Nat → Nat) (ad : Nat → Nat) (ca : Nat → ClassId) (op : TMd → Int32 → TMd) (rf rl : Nat) (k : Int) (hopm : ∀ (d : TMd) (w : Int32), OPP k d → LVS 0 d (op d w)) (hop : ∀ (sz : Nat) (d : TMd) (w : Int32), OPP k d → wx_Mv l y_Md_open ws_Md_open ({ frames := rf, cells := 0, slots := 0, locals := rl } : Room) (dC, dI) vwCl (t_M ca) [.ref (ad 16), .int w] (w_M ad ca d) sz (fun v : TMd => w_M ad ca v) (fun v : TMd => v = op d w)) (C0 : wx_C p s m args meth c b_Md_number (some .int) 6 R_Md A (dC, dI) vwCl (t_M ca)) (F : (Int32 × TMd)) : ∀ (n : Nat) (d : TMd) (x1 : Int32) (x2 : Int32) (x3 : Int32), (APk k x1 d ∧ (TMd_fault d = 0 → GTok d x3 ∧ mu d + 1 < (n : Int)) ∧ 0 < n) → F = f_Md_number_8 op n d x1 x2 x3 → ∀ (H : Heap) (locs : List Loc), va_P (dC, dI) vwCl (w_M ad ca d) H → va_D A (w_M ad ca d) → va_S A s.heap H locs → ∀ (ls : Array Slot), lv_has ls 6 [(0, .ref (ad 16)), (1, .int x1), (2, .int x2), (3, .int x3)] → W p l e ({ frames := rf + 6, cells := 0, slots := 0, locals := rl + 137 } : Room) s m args below meth c H locs 0 0 (MQ below (va_Qi (fun (r : Int32) (v : TMd) => (r, v) = F) (wx_B (dC, dI) vwCl (t_M ca) (fun v : TMd => w_M ad ca v) A) A) args s 0 0 A) (F0 m 8 ls []) := by
  have C1 := C0
  obtain ⟨hx, hb, hr, hml, hown, ht, hlocks, hA, hK, hN⟩ := C1
  intro n
  induction n with
  | zero =>
    intro d x1 x2 x3 hc he
    exact absurd hc (fun h => Nat.lt_irrefl 0 h.2.2)
  | succ n ih =>
    intro d x1 x2 x3 hc he H locs hP hD hS ls hl
    rw [f_Md_number_8] at he
    refine lv_aload_n hx hb d_Md_number_8 rfl (lv_at hl 0 rfl) ?_
    refine va_get (D := (dC, dI)) (ci := 4) (v := .int (TMd_fault d)) (C := R_Md) (T := T_Md) (N := 23) hx hb ht i_Md hown hK hP 0 rfl rfl 13 (by decide) (ht _ q_458) (fun _ h9 => h9) rfl d_Md_number_9 ?_
    refine lv_if_ne (tgt := 67) hx hb d_Md_number_12 (by decide) (fun c_1 => ?_) (fun c_1 => ?_)
    · have he := he.trans (if_neg c_1)
      exact k_Md_number_67 l dC dI ad ca op rf rl k hopm hop C0 F d x1 x2 x3 ⟨hc.1, fun q => (hc.2.1 q).1⟩ he _ _ hP hD hS _ (lv_sub hl [0, 1, 2, 3] rfl)
    · have he := he.trans (if_pos c_1)
      refine lv_aload_n hx hb d_Md_number_15 rfl (lv_at hl 0 rfl) ?_
      refine lv_iload_n hx hb d_Md_number_16 rfl (lv_at hl 3 rfl) ?_
      refine lv_bipush (v := 43) hx hb d_Md_number_17 (by decide) ?_
      refine lv_bipush (v := 12) hx hb d_Md_number_19 (by decide) ?_
      refine wx_ci (wS := fun _ : Unit => w_M ad ca d) (ws2 := fun _ : Unit => w_M ad ca d) (va_runV (As := [.int x3, .int 43, .int 12]) (rest := []) ⟨hx, hb, hml, hown, ht⟩ (c_Md_isSignOf l dC dI ad ca H.size d x3 43 12 _ rfl) (cwV 3 ht (tb_V q_626 q_628 q_39 q_47 q_629) rfl rfl rfl p_Md_isSignOf ⟨show 0 + 1 ≤ rf + 6 by omega, show 8 + (4 + 11) + 0 ≤ rl + 137 by omega⟩) (wx_preV (wc := (w_M ad ca d)) hN hK hP hD [0, 1, 2, 3, 4, 5, 6, 7, 8, 9, 10, 11] [0, 1, 2, 3, 4, 5, 6, 7, 8, 9, 10] rfl (by decide) rfl (ci := 4) (q0 := 0) rfl rfl) rfl rfl hl.1 rfl (lv_room (Nat.le_of_ble_eq_true rfl)) d_Md_number_21 ⟨Nat.zero_le _, Nat.zero_le _⟩) hP hD hS hA [0, 1, 2, 3, 4, 5, 6, 7, 8, 9, 10, 11] [] [0, 1, 2, 3, 4, 5, 6, 7, 8, 9, 10, 11] rfl rfl (by decide) (by decide) (by decide) (fun _ => rfl) (fun r_2 _ H locs hw_2 hP hD hS => ?_)
      subst hw_2
      have hP : va_P (dC, dI) vwCl (w_M ad ca d) H := hP
      have hD : va_D A (w_M ad ca d) := hD
      refine lv_if_ne (tgt := 39) hx hb d_Md_number_24 (by decide) (fun c_3 => ?_) (fun c_3 => ?_)
      · have he := he.trans (if_neg c_3)
        refine lv_iload_n hx hb d_Md_number_39 rfl (lv_at hl 2 rfl) ?_
        refine lv_aload_n hx hb d_Md_number_40 rfl (lv_at hl 0 rfl) ?_
        refine lv_iload_n hx hb d_Md_number_41 rfl (lv_at hl 3 rfl) ?_
        refine lv_bipush (v := 45) hx hb d_Md_number_42 (by decide) ?_
        refine lv_bipush (v := 12) hx hb d_Md_number_44 (by decide) ?_
        refine wx_ci (wS := fun _ : Unit => w_M ad ca d) (ws2 := fun _ : Unit => w_M ad ca d) (va_runV (As := [.int x3, .int 45, .int 12]) (rest := [.int x2]) ⟨hx, hb, hml, hown, ht⟩ (c_Md_isSignOf l dC dI ad ca H.size d x3 45 12 _ rfl) (cwV 3 ht (tb_V q_626 q_628 q_39 q_47 q_629) rfl rfl rfl p_Md_isSignOf ⟨show 0 + 1 ≤ rf + 6 by omega, show 8 + (4 + 11) + 0 ≤ rl + 137 by omega⟩) (wx_preV (wc := (w_M ad ca d)) hN hK hP hD [0, 1, 2, 3, 4, 5, 6, 7, 8, 9, 10, 11] [0, 1, 2, 3, 4, 5, 6, 7, 8, 9, 10] rfl (by decide) rfl (ci := 4) (q0 := 0) rfl rfl) rfl rfl hl.1 rfl (lv_room (Nat.le_of_ble_eq_true rfl)) d_Md_number_46 ⟨Nat.zero_le _, Nat.zero_le _⟩) hP hD hS hA [0, 1, 2, 3, 4, 5, 6, 7, 8, 9, 10, 11] [] [0, 1, 2, 3, 4, 5, 6, 7, 8, 9, 10, 11] rfl rfl (by decide) (by decide) (by decide) (fun _ => rfl) (fun r_4 _ H locs hw_4 hP hD hS => ?_)
        subst hw_4
        have hP : va_P (dC, dI) vwCl (w_M ad ca d) H := hP
        have hD : va_D A (w_M ad ca d) := hD
        refine lv_icmp_eq (tgt := 56) hx hb d_Md_number_49 (by decide) (fun c_5 => ?_) (fun c_5 => ?_)
        · have he := he.trans (if_pos c_5)
          refine lv_iconst (v := 0) hx hb d_Md_number_56 (by decide) ?_
          refine lv_istore_n (lv' := [(2, .int 0), (0, .ref (ad 16)), (1, .int x1), (3, .int x3)]) hx hb d_Md_number_57 rfl hl (by decide) rfl (fun ls hl => ?_)
          refine lv_aload_n hx hb d_Md_number_58 rfl (lv_at hl 1 rfl) ?_
          refine lv_iload_n hx hb d_Md_number_59 rfl (lv_at hl 2 rfl) ?_
          refine wx_ci (wS := fun v : TMd => w_M ad ca v) (ws2 := fun v : TMd => w_M ad ca v) (va_runV (As := [.int x1]) (rest := []) ⟨hx, hb, hml, hown, ht⟩ (c_Md_asked l dC dI ad ca op rf rl k hopm hop H.size d x1 hc.1 _ rfl) (cwV 1 ht (tb_V q_595 q_597 q_32 q_47 q_598) rfl rfl rfl p_Md_asked ⟨show (rf + 5) + 1 ≤ rf + 6 by omega, show 8 + (5 + 11) + (rl + 113) ≤ rl + 137 by omega⟩) (wx_preV (wc := (w_M ad ca d)) hN hK hP hD [0, 1, 2, 3, 4, 5, 6, 7, 8, 9, 10, 11] [0, 1, 2, 3, 4, 5, 6, 7, 8, 9, 10] rfl (by decide) rfl (ci := 4) (q0 := 0) rfl rfl) rfl rfl hl.1 rfl (lv_room (Nat.le_of_ble_eq_true rfl)) d_Md_number_60 ⟨Nat.zero_le _, Nat.zero_le _⟩) hP hD hS hA [0, 1, 2, 3, 4, 5, 6, 7, 8, 9, 10, 11] [] [0, 1, 2, 3, 4, 5, 6, 7, 8, 9, 10, 11] rfl rfl (by decide) (by decide) (by decide) (fun _ => rfl) (fun r_6 v_6 H locs hw_6 hP hD hS => ?_)
          have hP : va_P (dC, dI) vwCl (w_M ad ca v_6) H := hP
          have hD : va_D A (w_M ad ca v_6) := hD
          rw [← hw_6] at he
          try dsimp only at he
          refine lv_istore_n (lv' := [(3, .int r_6), (2, .int 0), (0, .ref (ad 16)), (1, .int x1)]) hx hb d_Md_number_63 rfl hl (by decide) rfl (fun ls hl => ?_)
          refine lv_goto (tgt := 8) hx hb d_Md_number_64 (by decide) ?_
          exact ih v_6 x1 0 r_6 (nu_next op k hopm hc.1 (nu_mu hc.2.1 c_1) hw_6) he _ _ hP hD hS _ (lv_sub hl [2, 3, 1, 0] rfl)
        · have he := he.trans (if_neg c_5)
          refine lv_iconst (v := 1) hx hb d_Md_number_52 (by decide) ?_
          refine lv_goto (tgt := 57) hx hb d_Md_number_53 (by decide) ?_
          refine lv_istore_n (lv' := [(2, .int 1), (0, .ref (ad 16)), (1, .int x1), (3, .int x3)]) hx hb d_Md_number_57 rfl hl (by decide) rfl (fun ls hl => ?_)
          refine lv_aload_n hx hb d_Md_number_58 rfl (lv_at hl 1 rfl) ?_
          refine lv_iload_n hx hb d_Md_number_59 rfl (lv_at hl 2 rfl) ?_
          refine wx_ci (wS := fun v : TMd => w_M ad ca v) (ws2 := fun v : TMd => w_M ad ca v) (va_runV (As := [.int x1]) (rest := []) ⟨hx, hb, hml, hown, ht⟩ (c_Md_asked l dC dI ad ca op rf rl k hopm hop H.size d x1 hc.1 _ rfl) (cwV 1 ht (tb_V q_595 q_597 q_32 q_47 q_598) rfl rfl rfl p_Md_asked ⟨show (rf + 5) + 1 ≤ rf + 6 by omega, show 8 + (5 + 11) + (rl + 113) ≤ rl + 137 by omega⟩) (wx_preV (wc := (w_M ad ca d)) hN hK hP hD [0, 1, 2, 3, 4, 5, 6, 7, 8, 9, 10, 11] [0, 1, 2, 3, 4, 5, 6, 7, 8, 9, 10] rfl (by decide) rfl (ci := 4) (q0 := 0) rfl rfl) rfl rfl hl.1 rfl (lv_room (Nat.le_of_ble_eq_true rfl)) d_Md_number_60 ⟨Nat.zero_le _, Nat.zero_le _⟩) hP hD hS hA [0, 1, 2, 3, 4, 5, 6, 7, 8, 9, 10, 11] [] [0, 1, 2, 3, 4, 5, 6, 7, 8, 9, 10, 11] rfl rfl (by decide) (by decide) (by decide) (fun _ => rfl) (fun r_7 v_7 H locs hw_7 hP hD hS => ?_)
          have hP : va_P (dC, dI) vwCl (w_M ad ca v_7) H := hP
          have hD : va_D A (w_M ad ca v_7) := hD
          rw [← hw_7] at he
          try dsimp only at he
          refine lv_istore_n (lv' := [(3, .int r_7), (2, .int 1), (0, .ref (ad 16)), (1, .int x1)]) hx hb d_Md_number_63 rfl hl (by decide) rfl (fun ls hl => ?_)
          refine lv_goto (tgt := 8) hx hb d_Md_number_64 (by decide) ?_
          exact ih v_7 x1 1 r_7 (nu_next op k hopm hc.1 (nu_mu hc.2.1 c_1) hw_7) he _ _ hP hD hS _ (lv_sub hl [2, 3, 1, 0] rfl)
      · have he := he.trans (if_pos c_3)
        refine lv_aload_n hx hb d_Md_number_27 rfl (lv_at hl 0 rfl) ?_
        refine lv_iload_n hx hb d_Md_number_28 rfl (lv_at hl 3 rfl) ?_
        refine lv_bipush (v := 45) hx hb d_Md_number_29 (by decide) ?_
        refine lv_bipush (v := 12) hx hb d_Md_number_31 (by decide) ?_
        refine wx_ci (wS := fun _ : Unit => w_M ad ca d) (ws2 := fun _ : Unit => w_M ad ca d) (va_runV (As := [.int x3, .int 45, .int 12]) (rest := []) ⟨hx, hb, hml, hown, ht⟩ (c_Md_isSignOf l dC dI ad ca H.size d x3 45 12 _ rfl) (cwV 3 ht (tb_V q_626 q_628 q_39 q_47 q_629) rfl rfl rfl p_Md_isSignOf ⟨show 0 + 1 ≤ rf + 6 by omega, show 8 + (4 + 11) + 0 ≤ rl + 137 by omega⟩) (wx_preV (wc := (w_M ad ca d)) hN hK hP hD [0, 1, 2, 3, 4, 5, 6, 7, 8, 9, 10, 11] [0, 1, 2, 3, 4, 5, 6, 7, 8, 9, 10] rfl (by decide) rfl (ci := 4) (q0 := 0) rfl rfl) rfl rfl hl.1 rfl (lv_room (Nat.le_of_ble_eq_true rfl)) d_Md_number_33 ⟨Nat.zero_le _, Nat.zero_le _⟩) hP hD hS hA [0, 1, 2, 3, 4, 5, 6, 7, 8, 9, 10, 11] [] [0, 1, 2, 3, 4, 5, 6, 7, 8, 9, 10, 11] rfl rfl (by decide) (by decide) (by decide) (fun _ => rfl) (fun r_8 _ H locs hw_8 hP hD hS => ?_)
        subst hw_8
        have hP : va_P (dC, dI) vwCl (w_M ad ca d) H := hP
        have hD : va_D A (w_M ad ca d) := hD
        refine lv_if_eq (tgt := 67) hx hb d_Md_number_36 (by decide) (fun c_9 => ?_) (fun c_9 => ?_)
        · have he := he.trans (if_pos c_9)
          exact k_Md_number_67 l dC dI ad ca op rf rl k hopm hop C0 F d x1 x2 x3 ⟨hc.1, fun q => (hc.2.1 q).1⟩ he _ _ hP hD hS _ (lv_sub hl [0, 1, 2, 3] rfl)
        · have he := he.trans (if_neg c_9)
          refine lv_iload_n hx hb d_Md_number_39 rfl (lv_at hl 2 rfl) ?_
          refine lv_aload_n hx hb d_Md_number_40 rfl (lv_at hl 0 rfl) ?_
          refine lv_iload_n hx hb d_Md_number_41 rfl (lv_at hl 3 rfl) ?_
          refine lv_bipush (v := 45) hx hb d_Md_number_42 (by decide) ?_
          refine lv_bipush (v := 12) hx hb d_Md_number_44 (by decide) ?_
          refine wx_ci (wS := fun _ : Unit => w_M ad ca d) (ws2 := fun _ : Unit => w_M ad ca d) (va_runV (As := [.int x3, .int 45, .int 12]) (rest := [.int x2]) ⟨hx, hb, hml, hown, ht⟩ (c_Md_isSignOf l dC dI ad ca H.size d x3 45 12 _ rfl) (cwV 3 ht (tb_V q_626 q_628 q_39 q_47 q_629) rfl rfl rfl p_Md_isSignOf ⟨show 0 + 1 ≤ rf + 6 by omega, show 8 + (4 + 11) + 0 ≤ rl + 137 by omega⟩) (wx_preV (wc := (w_M ad ca d)) hN hK hP hD [0, 1, 2, 3, 4, 5, 6, 7, 8, 9, 10, 11] [0, 1, 2, 3, 4, 5, 6, 7, 8, 9, 10] rfl (by decide) rfl (ci := 4) (q0 := 0) rfl rfl) rfl rfl hl.1 rfl (lv_room (Nat.le_of_ble_eq_true rfl)) d_Md_number_46 ⟨Nat.zero_le _, Nat.zero_le _⟩) hP hD hS hA [0, 1, 2, 3, 4, 5, 6, 7, 8, 9, 10, 11] [] [0, 1, 2, 3, 4, 5, 6, 7, 8, 9, 10, 11] rfl rfl (by decide) (by decide) (by decide) (fun _ => rfl) (fun r_10 _ H locs hw_10 hP hD hS => ?_)
          subst hw_10
          have hP : va_P (dC, dI) vwCl (w_M ad ca d) H := hP
          have hD : va_D A (w_M ad ca d) := hD
          refine lv_icmp_eq (tgt := 56) hx hb d_Md_number_49 (by decide) (fun c_11 => ?_) (fun c_11 => ?_)
          · have he := he.trans (if_pos c_11)
            refine lv_iconst (v := 0) hx hb d_Md_number_56 (by decide) ?_
            refine lv_istore_n (lv' := [(2, .int 0), (0, .ref (ad 16)), (1, .int x1), (3, .int x3)]) hx hb d_Md_number_57 rfl hl (by decide) rfl (fun ls hl => ?_)
            refine lv_aload_n hx hb d_Md_number_58 rfl (lv_at hl 1 rfl) ?_
            refine lv_iload_n hx hb d_Md_number_59 rfl (lv_at hl 2 rfl) ?_
            refine wx_ci (wS := fun v : TMd => w_M ad ca v) (ws2 := fun v : TMd => w_M ad ca v) (va_runV (As := [.int x1]) (rest := []) ⟨hx, hb, hml, hown, ht⟩ (c_Md_asked l dC dI ad ca op rf rl k hopm hop H.size d x1 hc.1 _ rfl) (cwV 1 ht (tb_V q_595 q_597 q_32 q_47 q_598) rfl rfl rfl p_Md_asked ⟨show (rf + 5) + 1 ≤ rf + 6 by omega, show 8 + (5 + 11) + (rl + 113) ≤ rl + 137 by omega⟩) (wx_preV (wc := (w_M ad ca d)) hN hK hP hD [0, 1, 2, 3, 4, 5, 6, 7, 8, 9, 10, 11] [0, 1, 2, 3, 4, 5, 6, 7, 8, 9, 10] rfl (by decide) rfl (ci := 4) (q0 := 0) rfl rfl) rfl rfl hl.1 rfl (lv_room (Nat.le_of_ble_eq_true rfl)) d_Md_number_60 ⟨Nat.zero_le _, Nat.zero_le _⟩) hP hD hS hA [0, 1, 2, 3, 4, 5, 6, 7, 8, 9, 10, 11] [] [0, 1, 2, 3, 4, 5, 6, 7, 8, 9, 10, 11] rfl rfl (by decide) (by decide) (by decide) (fun _ => rfl) (fun r_12 v_12 H locs hw_12 hP hD hS => ?_)
            have hP : va_P (dC, dI) vwCl (w_M ad ca v_12) H := hP
            have hD : va_D A (w_M ad ca v_12) := hD
            rw [← hw_12] at he
            try dsimp only at he
            refine lv_istore_n (lv' := [(3, .int r_12), (2, .int 0), (0, .ref (ad 16)), (1, .int x1)]) hx hb d_Md_number_63 rfl hl (by decide) rfl (fun ls hl => ?_)
            refine lv_goto (tgt := 8) hx hb d_Md_number_64 (by decide) ?_
            exact ih v_12 x1 0 r_12 (nu_next op k hopm hc.1 (nu_mu hc.2.1 c_1) hw_12) he _ _ hP hD hS _ (lv_sub hl [2, 3, 1, 0] rfl)
          · have he := he.trans (if_neg c_11)
            refine lv_iconst (v := 1) hx hb d_Md_number_52 (by decide) ?_
            refine lv_goto (tgt := 57) hx hb d_Md_number_53 (by decide) ?_
            refine lv_istore_n (lv' := [(2, .int 1), (0, .ref (ad 16)), (1, .int x1), (3, .int x3)]) hx hb d_Md_number_57 rfl hl (by decide) rfl (fun ls hl => ?_)
            refine lv_aload_n hx hb d_Md_number_58 rfl (lv_at hl 1 rfl) ?_
            refine lv_iload_n hx hb d_Md_number_59 rfl (lv_at hl 2 rfl) ?_
            refine wx_ci (wS := fun v : TMd => w_M ad ca v) (ws2 := fun v : TMd => w_M ad ca v) (va_runV (As := [.int x1]) (rest := []) ⟨hx, hb, hml, hown, ht⟩ (c_Md_asked l dC dI ad ca op rf rl k hopm hop H.size d x1 hc.1 _ rfl) (cwV 1 ht (tb_V q_595 q_597 q_32 q_47 q_598) rfl rfl rfl p_Md_asked ⟨show (rf + 5) + 1 ≤ rf + 6 by omega, show 8 + (5 + 11) + (rl + 113) ≤ rl + 137 by omega⟩) (wx_preV (wc := (w_M ad ca d)) hN hK hP hD [0, 1, 2, 3, 4, 5, 6, 7, 8, 9, 10, 11] [0, 1, 2, 3, 4, 5, 6, 7, 8, 9, 10] rfl (by decide) rfl (ci := 4) (q0 := 0) rfl rfl) rfl rfl hl.1 rfl (lv_room (Nat.le_of_ble_eq_true rfl)) d_Md_number_60 ⟨Nat.zero_le _, Nat.zero_le _⟩) hP hD hS hA [0, 1, 2, 3, 4, 5, 6, 7, 8, 9, 10, 11] [] [0, 1, 2, 3, 4, 5, 6, 7, 8, 9, 10, 11] rfl rfl (by decide) (by decide) (by decide) (fun _ => rfl) (fun r_13 v_13 H locs hw_13 hP hD hS => ?_)
            have hP : va_P (dC, dI) vwCl (w_M ad ca v_13) H := hP
            have hD : va_D A (w_M ad ca v_13) := hD
            rw [← hw_13] at he
            try dsimp only at he
            refine lv_istore_n (lv' := [(3, .int r_13), (2, .int 1), (0, .ref (ad 16)), (1, .int x1)]) hx hb d_Md_number_63 rfl hl (by decide) rfl (fun ls hl => ?_)
            refine lv_goto (tgt := 8) hx hb d_Md_number_64 (by decide) ?_
            exact ih v_13 x1 1 r_13 (nu_next op k hopm hc.1 (nu_mu hc.2.1 c_1) hw_13) he _ _ hP hD hS _ (lv_sub hl [2, 3, 1, 0] rfl)
noncomputable def f_Md_number (op : TMd → Int32 → TMd) (d : TMd) (p0 : Int32) : (Int32 × TMd) := (match f_Md_asked op d p0 with | (r_1, v_1) => (f_Md_number_8 op TM v_1 p0 0 r_1))
set_option maxHeartbeats 4000000 in
set_option maxRecDepth 100000 in
theorem c_Md_number (l : Launch) (dC : Nat → ClassId) (dI : Nat → Nat → Nat) (ad : Nat → Nat) (ca : Nat → ClassId) (op : TMd → Int32 → TMd) (rf rl : Nat) (k : Int) (hopm : ∀ (d : TMd) (w : Int32), OPP k d → LVS 0 d (op d w)) (hop : ∀ (sz : Nat) (d : TMd) (w : Int32), OPP k d → wx_Mv l y_Md_open ws_Md_open ({ frames := rf, cells := 0, slots := 0, locals := rl } : Room) (dC, dI) vwCl (t_M ca) [.ref (ad 16), .int w] (w_M ad ca d) sz (fun v : TMd => w_M ad ca v) (fun v : TMd => v = op d w)) (sz : Nat) (d : TMd) (p0 : Int32) (hpre : APk k p0 d) (F : (Int32 × TMd)) (he : F = f_Md_number op d p0) : wx_Mi l y_Md_number ws_Md_number ({ frames := rf + 6, cells := 0, slots := 0, locals := rl + 137 } : Room) (dC, dI) vwCl (t_M ca) [.ref (ad 16), .int p0] (w_M ad ca d) sz (fun v : TMd => w_M ad ca v) (fun (r : Int32) (v : TMd) => (r, v) = F) := by
  refine Met.ofW (cc := b_Md_number) (maxL := 6) (ret := some .int) (by decide) rfl ?_
  intro p e s m args below meth c s₁ B hml hv
  obtain ⟨rfl, hsz, hP, hK, hD0, hN⟩ := hv
  have hx := B.exec
  have hb := B.bytes
  have hr := B.returns
  have hts := atoms_spec (ws := ws_Md_number) B.pre
  have ht : ∀ w ∈ TB, w.before _ s = true := fun w h => hts w (List.mem_cons_of_mem _ h)
  have hown : s.vm.findClass R_Md = some m.cls := findClass_of_methodNamed B.named
  have hlocks := B.notSynchronized
  subst hsz
  have hD := hD0.self (sz := s.heap.size)
  generalize hAe : va_A (w_M ad ca d) s.heap.size = A at hD ⊢
  have hA : ∀ q : Nat, s.heap.size ≤ q → A q := fun q h => by rw [← hAe]; exact Or.inr h
  have hS : va_S A s.heap s.heap [] := va_S.rf
  have C0 : wx_C p s m ([.ref (ad 16), .int p0] : List Value).toArray meth c b_Md_number (some .int) 6 R_Md A (dC, dI) vwCl (t_M ca) := ⟨hx, hb, hr, hml, hown, ht, hlocks, hA, hK, hN⟩
  have hl := lv_entry ([.ref (ad 16), .int p0]) (n := 6) (Nat.le_of_ble_eq_true rfl)
  rw [lg_entry_eq]
  generalize (lg_sl ([.ref (ad 16), .int p0]) ++ List.replicate (6 - (lg_sl ([.ref (ad 16), .int p0])).length) Slot.unset).toArray = ls at hl ⊢
  have hl : lv_has ls 6 [(0, .ref (ad 16)), (1, .int p0)] := hl
  unfold f_Md_number at he
  refine lv_iconst (v := 0) hx hb d_Md_number_0 (by decide) ?_
  refine lv_istore_n (lv' := [(2, .int 0), (0, .ref (ad 16)), (1, .int p0)]) hx hb d_Md_number_1 rfl hl (by decide) rfl (fun ls hl => ?_)
  refine lv_aload_n hx hb d_Md_number_2 rfl (lv_at hl 1 rfl) ?_
  refine lv_iload_n hx hb d_Md_number_3 rfl (lv_at hl 2 rfl) ?_
  refine wx_ci (wS := fun v : TMd => w_M ad ca v) (ws2 := fun v : TMd => w_M ad ca v) (va_runV (As := [.int p0]) (rest := []) ⟨hx, hb, hml, hown, ht⟩ (c_Md_asked l dC dI ad ca op rf rl k hopm hop s.heap.size d p0 hpre _ rfl) (cwV 1 ht (tb_V q_595 q_597 q_32 q_47 q_598) rfl rfl rfl p_Md_asked ⟨show (rf + 5) + 1 ≤ rf + 6 by omega, show 8 + (5 + 11) + (rl + 113) ≤ rl + 137 by omega⟩) (wx_preV (wc := (w_M ad ca d)) hN hK hP hD [0, 1, 2, 3, 4, 5, 6, 7, 8, 9, 10, 11] [0, 1, 2, 3, 4, 5, 6, 7, 8, 9, 10] rfl (by decide) rfl (ci := 4) (q0 := 0) rfl rfl) rfl rfl hl.1 rfl (lv_room (Nat.le_of_ble_eq_true rfl)) d_Md_number_4 ⟨Nat.zero_le _, Nat.zero_le _⟩) hP hD hS hA [0, 1, 2, 3, 4, 5, 6, 7, 8, 9, 10, 11] [] [0, 1, 2, 3, 4, 5, 6, 7, 8, 9, 10, 11] rfl rfl (by decide) (by decide) (by decide) (fun _ => rfl) (fun r_1 v_1 H locs hw_1 hP hD hS => ?_)
  have hP : va_P (dC, dI) vwCl (w_M ad ca v_1) H := hP
  have hD : va_D A (w_M ad ca v_1) := hD
  rw [← hw_1] at he
  try dsimp only at he
  refine lv_istore_n (lv' := [(3, .int r_1), (2, .int 0), (0, .ref (ad 16)), (1, .int p0)]) hx hb d_Md_number_7 rfl hl (by decide) rfl (fun ls hl => ?_)
  exact k_Md_number_8 l dC dI ad ca op rf rl k hopm hop C0 F TM v_1 p0 0 r_1 (nu_next op k hopm hpre (by have h := nu_TM hpre.2.1; omega) hw_1) he _ _ hP hD hS _ (lv_sub hl [2, 3, 1, 0] rfl)
