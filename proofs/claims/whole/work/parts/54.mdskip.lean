theorem q_33 : Cond.selects R_Md y_Md_need y_Md_need ∈ TB := tq 33 (by decide +kernel) rfl
theorem q_465 : Cond.fieldLink R_Md 41 "ConditionTextModel" "phases" "[I" ∈ TB := tq 465 (by decide +kernel) rfl
theorem q_599 : Cond.methodLink R_Md 92 y_Md_need ∈ TB := tq 599 (by decide +kernel) rfl
theorem q_601 : Cond.instanceMethod y_Md_need ∈ TB := tq 601 (by decide +kernel) rfl
theorem q_602 : Cond.code y_Md_need b_Md_need 2 (some .int) ∈ TB := tq 602 (by decide +kernel) rfl
theorem d_Md_skip_0 : decode b_Md_skip 0 = .ok (.iload_n 2, 1) := by decide +kernel
theorem d_Md_skip_1 : decode b_Md_skip 1 = .ok (.istore 4, 2) := by decide +kernel
theorem d_Md_skip_3 : decode b_Md_skip 3 = .ok (.iconst 0, 1) := by decide +kernel
theorem d_Md_skip_4 : decode b_Md_skip 4 = .ok (.istore 5, 2) := by decide +kernel
theorem d_Md_skip_6 : decode b_Md_skip 6 = .ok (.iconst 0, 1) := by decide +kernel
theorem d_Md_skip_7 : decode b_Md_skip 7 = .ok (.istore 6, 2) := by decide +kernel
theorem d_Md_skip_9 : decode b_Md_skip 9 = .ok (.aload_n 0, 1) := by decide +kernel
theorem d_Md_skip_10 : decode b_Md_skip 10 = .ok (.invokevirtual 92, 3) := by decide +kernel
theorem d_Md_skip_13 : decode b_Md_skip 13 = .ok (.istore 7, 2) := by decide +kernel
theorem d_Md_skip_15 : decode b_Md_skip 15 = .ok (.aload_n 0, 1) := by decide +kernel
theorem d_Md_skip_16 : decode b_Md_skip 16 = .ok (.getfield 72, 3) := by decide +kernel
theorem d_Md_skip_19 : decode b_Md_skip 19 = .ok (.ifCond .ne 212, 3) := by decide +kernel
theorem d_Md_skip_22 : decode b_Md_skip 22 = .ok (.aload_n 0, 1) := by decide +kernel
theorem d_Md_skip_23 : decode b_Md_skip 23 = .ok (.iload 7, 2) := by decide +kernel
theorem d_Md_skip_25 : decode b_Md_skip 25 = .ok (.invokevirtual 61, 3) := by decide +kernel
theorem d_Md_skip_28 : decode b_Md_skip 28 = .ok (.istore 8, 2) := by decide +kernel
theorem d_Md_skip_30 : decode b_Md_skip 30 = .ok (.iload 8, 2) := by decide +kernel
theorem d_Md_skip_32 : decode b_Md_skip 32 = .ok (.iconst 3, 1) := by decide +kernel
theorem d_Md_skip_33 : decode b_Md_skip 33 = .ok (.if_icmp .ne 12, 3) := by decide +kernel
theorem d_Md_skip_36 : decode b_Md_skip 36 = .ok (.aload_n 0, 1) := by decide +kernel
theorem d_Md_skip_37 : decode b_Md_skip 37 = .ok (.bipush 7, 2) := by decide +kernel
theorem d_Md_skip_39 : decode b_Md_skip 39 = .ok (.invokevirtual 84, 3) := by decide +kernel
theorem d_Md_skip_42 : decode b_Md_skip 42 = .ok (.goto 169, 3) := by decide +kernel
theorem d_Md_skip_45 : decode b_Md_skip 45 = .ok (.iload 8, 2) := by decide +kernel
theorem d_Md_skip_47 : decode b_Md_skip 47 = .ok (.iconst 5, 1) := by decide +kernel
theorem d_Md_skip_48 : decode b_Md_skip 48 = .ok (.if_icmp .ne 19, 3) := by decide +kernel
theorem d_Md_skip_51 : decode b_Md_skip 51 = .ok (.iinc 5 1, 3) := by decide +kernel
theorem d_Md_skip_54 : decode b_Md_skip 54 = .ok (.aload_n 0, 1) := by decide +kernel
theorem d_Md_skip_55 : decode b_Md_skip 55 = .ok (.dup, 1) := by decide +kernel
theorem d_Md_skip_56 : decode b_Md_skip 56 = .ok (.getfield 148, 3) := by decide +kernel
theorem d_Md_skip_59 : decode b_Md_skip 59 = .ok (.iconst 1, 1) := by decide +kernel
theorem d_Md_skip_60 : decode b_Md_skip 60 = .ok (.iadd, 1) := by decide +kernel
theorem d_Md_skip_61 : decode b_Md_skip 61 = .ok (.putfield 148, 3) := by decide +kernel
theorem d_Md_skip_64 : decode b_Md_skip 64 = .ok (.goto 147, 3) := by decide +kernel
theorem d_Md_skip_67 : decode b_Md_skip 67 = .ok (.iload 8, 2) := by decide +kernel
theorem d_Md_skip_69 : decode b_Md_skip 69 = .ok (.bipush 6, 2) := by decide +kernel
theorem d_Md_skip_71 : decode b_Md_skip 71 = .ok (.if_icmp .lt 8, 3) := by decide +kernel
theorem d_Md_skip_74 : decode b_Md_skip 74 = .ok (.iload 5, 2) := by decide +kernel
theorem d_Md_skip_76 : decode b_Md_skip 76 = .ok (.ifCond .le 34, 3) := by decide +kernel
theorem d_Md_skip_79 : decode b_Md_skip 79 = .ok (.iload 8, 2) := by decide +kernel
theorem d_Md_skip_81 : decode b_Md_skip 81 = .ok (.bipush 8, 2) := by decide +kernel
theorem d_Md_skip_83 : decode b_Md_skip 83 = .ok (.if_icmp .ne 10, 3) := by decide +kernel
theorem d_Md_skip_86 : decode b_Md_skip 86 = .ok (.iload 5, 2) := by decide +kernel
theorem d_Md_skip_88 : decode b_Md_skip 88 = .ok (.iconst 1, 1) := by decide +kernel
theorem d_Md_skip_89 : decode b_Md_skip 89 = .ok (.isub, 1) := by decide +kernel
theorem d_Md_skip_90 : decode b_Md_skip 90 = .ok (.goto 5, 3) := by decide +kernel
theorem d_Md_skip_93 : decode b_Md_skip 93 = .ok (.iload 5, 2) := by decide +kernel
theorem d_Md_skip_95 : decode b_Md_skip 95 = .ok (.istore 5, 2) := by decide +kernel
theorem d_Md_skip_97 : decode b_Md_skip 97 = .ok (.aload_n 0, 1) := by decide +kernel
theorem d_Md_skip_98 : decode b_Md_skip 98 = .ok (.dup, 1) := by decide +kernel
theorem d_Md_skip_99 : decode b_Md_skip 99 = .ok (.getfield 148, 3) := by decide +kernel
theorem d_Md_skip_102 : decode b_Md_skip 102 = .ok (.iconst 1, 1) := by decide +kernel
theorem d_Md_skip_103 : decode b_Md_skip 103 = .ok (.iadd, 1) := by decide +kernel
theorem d_Md_skip_104 : decode b_Md_skip 104 = .ok (.putfield 148, 3) := by decide +kernel
theorem d_Md_skip_107 : decode b_Md_skip 107 = .ok (.goto 104, 3) := by decide +kernel
theorem d_Md_skip_110 : decode b_Md_skip 110 = .ok (.iload 8, 2) := by decide +kernel
theorem d_Md_skip_112 : decode b_Md_skip 112 = .ok (.bipush 8, 2) := by decide +kernel
theorem d_Md_skip_114 : decode b_Md_skip 114 = .ok (.if_icmp .ne 14, 3) := by decide +kernel
theorem d_Md_skip_117 : decode b_Md_skip 117 = .ok (.aload_n 0, 1) := by decide +kernel
theorem d_Md_skip_118 : decode b_Md_skip 118 = .ok (.dup, 1) := by decide +kernel
theorem d_Md_skip_119 : decode b_Md_skip 119 = .ok (.getfield 104, 3) := by decide +kernel
theorem d_Md_skip_122 : decode b_Md_skip 122 = .ok (.iconst 1, 1) := by decide +kernel
theorem d_Md_skip_123 : decode b_Md_skip 123 = .ok (.isub, 1) := by decide +kernel
theorem d_Md_skip_124 : decode b_Md_skip 124 = .ok (.putfield 104, 3) := by decide +kernel
theorem d_Md_skip_127 : decode b_Md_skip 127 = .ok (.return_, 1) := by decide +kernel
theorem d_Md_skip_128 : decode b_Md_skip 128 = .ok (.iload 4, 2) := by decide +kernel
theorem d_Md_skip_130 : decode b_Md_skip 130 = .ok (.ifCond .ne 14, 3) := by decide +kernel
theorem d_Md_skip_133 : decode b_Md_skip 133 = .ok (.iload 8, 2) := by decide +kernel
theorem d_Md_skip_135 : decode b_Md_skip 135 = .ok (.bipush 7, 2) := by decide +kernel
theorem d_Md_skip_137 : decode b_Md_skip 137 = .ok (.if_icmp .ne 15, 3) := by decide +kernel
theorem d_Md_skip_140 : decode b_Md_skip 140 = .ok (.iload_n 1, 1) := by decide +kernel
theorem d_Md_skip_141 : decode b_Md_skip 141 = .ok (.ifCond .ne 11, 3) := by decide +kernel
theorem d_Md_skip_144 : decode b_Md_skip 144 = .ok (.aload_n 0, 1) := by decide +kernel
theorem d_Md_skip_145 : decode b_Md_skip 145 = .ok (.iconst 2, 1) := by decide +kernel
theorem d_Md_skip_146 : decode b_Md_skip 146 = .ok (.invokevirtual 84, 3) := by decide +kernel
theorem d_Md_skip_149 : decode b_Md_skip 149 = .ok (.goto 62, 3) := by decide +kernel
theorem d_Md_skip_152 : decode b_Md_skip 152 = .ok (.iload 8, 2) := by decide +kernel
theorem d_Md_skip_154 : decode b_Md_skip 154 = .ok (.bipush 6, 2) := by decide +kernel
theorem d_Md_skip_156 : decode b_Md_skip 156 = .ok (.if_icmp .ne 13, 3) := by decide +kernel
theorem d_Md_skip_159 : decode b_Md_skip 159 = .ok (.iload_n 3, 1) := by decide +kernel
theorem d_Md_skip_160 : decode b_Md_skip 160 = .ok (.ifCond .ne 9, 3) := by decide +kernel
theorem d_Md_skip_163 : decode b_Md_skip 163 = .ok (.iconst 1, 1) := by decide +kernel
theorem d_Md_skip_164 : decode b_Md_skip 164 = .ok (.istore 4, 2) := by decide +kernel
theorem d_Md_skip_166 : decode b_Md_skip 166 = .ok (.goto 45, 3) := by decide +kernel
theorem d_Md_skip_169 : decode b_Md_skip 169 = .ok (.iload 8, 2) := by decide +kernel
theorem d_Md_skip_171 : decode b_Md_skip 171 = .ok (.bipush 6, 2) := by decide +kernel
theorem d_Md_skip_173 : decode b_Md_skip 173 = .ok (.if_icmp .ne 16, 3) := by decide +kernel
theorem d_Md_skip_176 : decode b_Md_skip 176 = .ok (.aload_n 0, 1) := by decide +kernel
theorem d_Md_skip_177 : decode b_Md_skip 177 = .ok (.getfield 41, 3) := by decide +kernel
theorem d_Md_skip_180 : decode b_Md_skip 180 = .ok (.aload_n 0, 1) := by decide +kernel
theorem d_Md_skip_181 : decode b_Md_skip 181 = .ok (.getfield 104, 3) := by decide +kernel
theorem d_Md_skip_184 : decode b_Md_skip 184 = .ok (.iconst 1, 1) := by decide +kernel
theorem d_Md_skip_185 : decode b_Md_skip 185 = .ok (.isub, 1) := by decide +kernel
theorem d_Md_skip_186 : decode b_Md_skip 186 = .ok (.iconst 2, 1) := by decide +kernel
theorem d_Md_skip_187 : decode b_Md_skip 187 = .ok (.iastore, 1) := by decide +kernel
theorem d_Md_skip_188 : decode b_Md_skip 188 = .ok (.return_, 1) := by decide +kernel
theorem d_Md_skip_189 : decode b_Md_skip 189 = .ok (.iinc 6 1, 3) := by decide +kernel
theorem d_Md_skip_192 : decode b_Md_skip 192 = .ok (.iload 6, 2) := by decide +kernel
theorem d_Md_skip_194 : decode b_Md_skip 194 = .ok (.iload_n 3, 1) := by decide +kernel
theorem d_Md_skip_195 : decode b_Md_skip 195 = .ok (.if_icmp .ne 16, 3) := by decide +kernel
theorem d_Md_skip_198 : decode b_Md_skip 198 = .ok (.aload_n 0, 1) := by decide +kernel
theorem d_Md_skip_199 : decode b_Md_skip 199 = .ok (.getfield 41, 3) := by decide +kernel
theorem d_Md_skip_202 : decode b_Md_skip 202 = .ok (.aload_n 0, 1) := by decide +kernel
theorem d_Md_skip_203 : decode b_Md_skip 203 = .ok (.getfield 104, 3) := by decide +kernel
theorem d_Md_skip_206 : decode b_Md_skip 206 = .ok (.iconst 1, 1) := by decide +kernel
theorem d_Md_skip_207 : decode b_Md_skip 207 = .ok (.isub, 1) := by decide +kernel
theorem d_Md_skip_208 : decode b_Md_skip 208 = .ok (.iconst 3, 1) := by decide +kernel
theorem d_Md_skip_209 : decode b_Md_skip 209 = .ok (.iastore, 1) := by decide +kernel
theorem d_Md_skip_210 : decode b_Md_skip 210 = .ok (.return_, 1) := by decide +kernel
theorem d_Md_skip_211 : decode b_Md_skip 211 = .ok (.aload_n 0, 1) := by decide +kernel
theorem d_Md_skip_212 : decode b_Md_skip 212 = .ok (.getfield 72, 3) := by decide +kernel
theorem d_Md_skip_215 : decode b_Md_skip 215 = .ok (.ifCond .le 7, 3) := by decide +kernel
theorem d_Md_skip_218 : decode b_Md_skip 218 = .ok (.iconst (-1), 1) := by decide +kernel
theorem d_Md_skip_219 : decode b_Md_skip 219 = .ok (.goto 7, 3) := by decide +kernel
theorem d_Md_skip_222 : decode b_Md_skip 222 = .ok (.aload_n 0, 1) := by decide +kernel
theorem d_Md_skip_223 : decode b_Md_skip 223 = .ok (.invokevirtual 92, 3) := by decide +kernel
theorem d_Md_skip_226 : decode b_Md_skip 226 = .ok (.istore 7, 2) := by decide +kernel
theorem d_Md_skip_228 : decode b_Md_skip 228 = .ok (.goto (-213), 3) := by decide +kernel
theorem d_Md_skip_231 : decode b_Md_skip 231 = .ok (.return_, 1) := by decide +kernel
noncomputable def f_Md_skip_15 : Nat → TMd → Int32 → Int32 → Int32 → Int32 → Int32 → Int32 → TMd
  | 0, d, _, _, _, _, _, _ => d
  | n + 1, d, x1, x3, x4, x5, x6, x7 => (if (TMd_fault d) = 0 then (if (f_Md_kindOf d x7) = 3 then (let v_55 := f_Md_fail d 7; (if (TMd_fault v_55) ≤ 0 then v_55 else (f_Md_skip_15 n v_55 x1 x3 x4 x5 x6 (-1)))) else (if (f_Md_kindOf d x7) = 5 then (let y_52 := ((TMd_skipped d) + 1); (if (TMd_fault d) ≤ 0 then (match f_Md_need (TMd_set_skipped d y_52) with | (r_54, v_54) => (f_Md_skip_15 n v_54 x1 x3 x4 (x5 + 1) x6 r_54)) else (TMd_set_skipped d y_52))) else (if (f_Md_kindOf d x7) < 6 then (if (f_Md_kindOf d x7) = 8 then (let y_10 := ((TMd_skipped d) + 1); (if (TMd_fault d) ≤ 0 then (match f_Md_need (TMd_set_skipped d y_10) with | (r_12, v_12) => (f_Md_skip_15 n v_12 x1 x3 x4 (x5 - 1) x6 r_12)) else (TMd_set_skipped d y_10))) else (let y_7 := ((TMd_skipped d) + 1); (if (TMd_fault d) ≤ 0 then (match f_Md_need (TMd_set_skipped d y_7) with | (r_9, v_9) => (f_Md_skip_15 n v_9 x1 x3 x4 x5 x6 r_9)) else (TMd_set_skipped d y_7)))) else (if x5 ≤ 0 then (if (f_Md_kindOf d x7) = 8 then (let y_44 := ((TMd_open d) - 1); (TMd_set_open d y_44)) else (if x4 = 0 then (if (f_Md_kindOf d x7) = 7 then (if x1 = 0 then (let v_42 := f_Md_fail d 2; (if (TMd_fault v_42) ≤ 0 then v_42 else (f_Md_skip_15 n v_42 x1 x3 x4 x5 x6 (-1)))) else (if (f_Md_kindOf d x7) = 6 then (if x3 = 0 then (if (TMd_fault d) ≤ 0 then (match f_Md_need d with | (r_41, v_41) => (f_Md_skip_15 n v_41 x1 x3 1 x5 x6 r_41)) else d) else (let g_39 := (upd (TMd_phases d) ((TMd_open d) - 1).toNatClampNeg 2); (TMd_set_phases d g_39))) else (if (x6 + 1) = x3 then (let g_36 := (upd (TMd_phases d) ((TMd_open d) - 1).toNatClampNeg 3); (TMd_set_phases d g_36)) else (if (TMd_fault d) ≤ 0 then (match f_Md_need d with | (r_35, v_35) => (f_Md_skip_15 n v_35 x1 x3 x4 x5 (x6 + 1) r_35)) else d)))) else (if (f_Md_kindOf d x7) = 6 then (if x3 = 0 then (if (TMd_fault d) ≤ 0 then (match f_Md_need d with | (r_29, v_29) => (f_Md_skip_15 n v_29 x1 x3 1 x5 x6 r_29)) else d) else (let g_27 := (upd (TMd_phases d) ((TMd_open d) - 1).toNatClampNeg 2); (TMd_set_phases d g_27))) else (if (x6 + 1) = x3 then (let g_24 := (upd (TMd_phases d) ((TMd_open d) - 1).toNatClampNeg 3); (TMd_set_phases d g_24)) else (if (TMd_fault d) ≤ 0 then (match f_Md_need d with | (r_23, v_23) => (f_Md_skip_15 n v_23 x1 x3 x4 x5 (x6 + 1) r_23)) else d)))) else (let v_16 := f_Md_fail d 2; (if (TMd_fault v_16) ≤ 0 then v_16 else (f_Md_skip_15 n v_16 x1 x3 x4 x5 x6 (-1)))))) else (if (f_Md_kindOf d x7) = 8 then (let y_49 := ((TMd_skipped d) + 1); (if (TMd_fault d) ≤ 0 then (match f_Md_need (TMd_set_skipped d y_49) with | (r_51, v_51) => (f_Md_skip_15 n v_51 x1 x3 x4 (x5 - 1) x6 r_51)) else (TMd_set_skipped d y_49))) else (let y_46 := ((TMd_skipped d) + 1); (if (TMd_fault d) ≤ 0 then (match f_Md_need (TMd_set_skipped d y_46) with | (r_48, v_48) => (f_Md_skip_15 n v_48 x1 x3 x4 x5 x6 r_48)) else (TMd_set_skipped d y_46)))))))) else d)
set_option maxHeartbeats 4000000 in
set_option maxRecDepth 100000 in
theorem k_Md_skip_15 {p : Program} {e : Env} {s : State} {m : MethodId} {args : Array Value} {below : List Frame} {meth : Method} {c : Code} {A : Nat → Prop} (l : Launch) (dC : Nat → ClassId) (dI : Nat → Nat → Nat) (ad : Nat → Nat) (ca : Nat → ClassId) (C0 : wx_C p s m args meth c b_Md_skip (none) 9 R_Md A (dC, dI) vwCl (t_M ca)) (F : TMd) : ∀ (n : Nat) (d : TMd) (x1 : Int32) (x3 : Int32) (x4 : Int32) (x5 : Int32) (x6 : Int32) (x7 : Int32), ((MdS d ∧ MdP d ∧ 0 < (TMd_open d).toInt) ∧ (TMd_fault d = 0 → TokIn d x7 ∧ mu d + 1 < (n : Int)) ∧ 0 < n) → F = f_Md_skip_15 n d x1 x3 x4 x5 x6 x7 → ∀ (H : Heap) (locs : List Loc), va_P (dC, dI) vwCl (w_M ad ca d) H → va_D A (w_M ad ca d) → va_S A s.heap H locs → ∀ (ls : Array Slot), lv_has ls 9 [(0, .ref (ad 16)), (1, .int x1), (3, .int x3), (4, .int x4), (5, .int x5), (6, .int x6), (7, .int x7)] → W p l e ({ frames := 3, cells := 0, slots := 0, locals := 63 } : Room) s m args below meth c H locs 0 0 (MQ below (va_Qv (fun v : TMd => v = F) (wx_B (dC, dI) vwCl (t_M ca) (fun v : TMd => w_M ad ca v) A) A) args s 0 0 A) (F0 m 15 ls []) := by
  have C1 := C0
  obtain ⟨hx, hb, hr, hml, hown, ht, hlocks, hA, hK, hN⟩ := C1
  intro n
  induction n with
  | zero =>
    intro d x1 x3 x4 x5 x6 x7 hc he
    exact absurd hc (fun h => Nat.lt_irrefl 0 h.2.2)
  | succ n ih =>
    intro d x1 x3 x4 x5 x6 x7 hc he H locs hP hD hS ls hl
    rw [f_Md_skip_15] at he
    refine lv_aload_n hx hb d_Md_skip_15 rfl (lv_at hl 0 rfl) ?_
    refine va_get (D := (dC, dI)) (ci := 4) (v := .int (TMd_fault d)) (C := R_Md) (T := T_Md) (N := 23) hx hb ht i_Md hown hK hP 0 rfl rfl 13 (by decide) (ht _ q_458) (fun _ h9 => h9) rfl d_Md_skip_16 ?_
    refine lv_if_ne (tgt := 231) hx hb d_Md_skip_19 (by decide) (fun c_1 => ?_) (fun c_1 => ?_)
    · have he := he.trans (if_neg c_1)
      exact W.vret hx hb hr (fun t ht hW => ⟨⟨d, rfl, he.symm, by rw [ht]; exact hP, va_K.moved hW.alike hK, hD⟩, hS.F ht⟩) hS.2.2 d_Md_skip_231
    · have he := he.trans (if_pos c_1)
      refine lv_aload_n hx hb d_Md_skip_22 rfl (lv_at hl 0 rfl) ?_
      refine lv_iload hx hb d_Md_skip_23 (lv_at hl 6 rfl) ?_
      refine wx_ci (wS := fun _ : Unit => w_M ad ca d) (ws2 := fun _ : Unit => w_M ad ca d) (va_runV (As := [.int x7]) (rest := []) ⟨hx, hb, hml, hown, ht⟩ (c_Md_kindOf l dC dI ad ca H.size d x7 (sk_tok hc.2.1 c_1) _ rfl) (cwV 1 ht (tb_V q_555 q_557 q_23 q_47 q_558) rfl rfl rfl p_Md_kindOf ⟨show 0 + 1 ≤ 3 by omega, show 8 + (2 + 11) + 0 ≤ 63 by omega⟩) (wx_preV (wc := (w_M ad ca d)) hN hK hP hD [0, 1, 2, 3, 4, 5, 6, 7, 8, 9, 10, 11] [0, 1, 2, 3, 4, 5, 6, 7, 8, 9, 10] rfl (by decide) rfl (ci := 4) (q0 := 0) rfl rfl) rfl rfl hl.1 rfl (lv_room (Nat.le_of_ble_eq_true rfl)) d_Md_skip_25 ⟨Nat.zero_le _, Nat.zero_le _⟩) hP hD hS hA [0, 1, 2, 3, 4, 5, 6, 7, 8, 9, 10, 11] [] [0, 1, 2, 3, 4, 5, 6, 7, 8, 9, 10, 11] rfl rfl (by decide) (by decide) (by decide) (fun _ => rfl) (fun r_2 _ H locs hw_2 hP hD hS => ?_)
      subst hw_2
      have hP : va_P (dC, dI) vwCl (w_M ad ca d) H := hP
      have hD : va_D A (w_M ad ca d) := hD
      refine lv_istore (lv' := [(8, .int (f_Md_kindOf d x7)), (0, .ref (ad 16)), (1, .int x1), (3, .int x3), (4, .int x4), (5, .int x5), (6, .int x6), (7, .int x7)]) hx hb d_Md_skip_28 hl (by decide) rfl (fun ls hl => ?_)
      refine lv_iload hx hb d_Md_skip_30 (lv_at hl 0 rfl) ?_
      refine lv_iconst (v := 3) hx hb d_Md_skip_32 (by decide) ?_
      refine lv_icmp_ne (tgt := 45) hx hb d_Md_skip_33 (by decide) (fun c_3 => ?_) (fun c_3 => ?_)
      · have he := he.trans (if_neg c_3)
        refine lv_iload hx hb d_Md_skip_45 (lv_at hl 0 rfl) ?_
        refine lv_iconst (v := 5) hx hb d_Md_skip_47 (by decide) ?_
        refine lv_icmp_ne (tgt := 67) hx hb d_Md_skip_48 (by decide) (fun c_4 => ?_) (fun c_4 => ?_)
        · have he := he.trans (if_neg c_4)
          refine lv_iload hx hb d_Md_skip_67 (lv_at hl 0 rfl) ?_
          refine lv_bipush (v := 6) hx hb d_Md_skip_69 (by decide) ?_
          refine lv_icmp_lt (tgt := 79) hx hb d_Md_skip_71 (by decide) (fun c_5 => ?_) (fun c_5 => ?_)
          · have he := he.trans (if_pos c_5)
            refine lv_iload hx hb d_Md_skip_79 (lv_at hl 0 rfl) ?_
            refine lv_bipush (v := 8) hx hb d_Md_skip_81 (by decide) ?_
            refine lv_icmp_ne (tgt := 93) hx hb d_Md_skip_83 (by decide) (fun c_6 => ?_) (fun c_6 => ?_)
            · have he := he.trans (if_neg c_6)
              refine lv_iload hx hb d_Md_skip_93 (lv_at hl 5 rfl) ?_
              refine lv_istore (lv' := [(5, .int x5), (8, .int (f_Md_kindOf d x7)), (0, .ref (ad 16)), (1, .int x1), (3, .int x3), (4, .int x4), (6, .int x6), (7, .int x7)]) hx hb d_Md_skip_95 hl (by decide) rfl (fun ls hl => ?_)
              refine lv_aload_n hx hb d_Md_skip_97 rfl (lv_at hl 2 rfl) ?_
              refine lv_dup hx hb d_Md_skip_98 rfl ?_
              refine va_get (D := (dC, dI)) (ci := 4) (v := .int (TMd_skipped d)) (C := R_Md) (T := T_Md) (N := 23) hx hb ht i_Md hown hK hP 0 rfl rfl 18 (by decide) (ht _ q_463) (fun _ h9 => h9) rfl d_Md_skip_99 ?_
              refine lv_iconst (v := 1) hx hb d_Md_skip_102 (by decide) ?_
              refine lv_iadd hx hb d_Md_skip_103 ?_
              refine lv_topi (fun y_7 ey_7 => ?_)
              rw [← ey_7] at he
              try dsimp only at he
              refine va_put (D := (dC, dI)) (ci := 4) (v := .int y_7) (ty := .int) (C := R_Md) (T := T_Md) (N := 23) hx hb ht i_Md ty_Md ty_Md_ok nm_Md hown hK hP hD hS 0 rfl rfl 18 (by decide) (ht _ q_463) (fun _ h9 => h9) rfl (by decide +kernel) rfl rfl (Nat.le_of_ble_eq_true rfl) d_Md_skip_104 (fun H locs hP hD hS => ?_)
              have hP : va_P (dC, dI) vwCl (w_M ad ca (TMd_set_skipped d y_7)) H := hP
              have hD : va_D A (w_M ad ca (TMd_set_skipped d y_7)) := hD
              refine lv_goto (tgt := 211) hx hb d_Md_skip_107 (by decide) ?_
              refine lv_aload_n hx hb d_Md_skip_211 rfl (lv_at hl 2 rfl) ?_
              refine va_get (D := (dC, dI)) (ci := 4) (v := .int (TMd_fault d)) (C := R_Md) (T := T_Md) (N := 23) hx hb ht i_Md hown hK hP 0 rfl rfl 13 (by decide) (ht _ q_458) (fun _ h9 => h9) rfl d_Md_skip_212 ?_
              refine lv_if_le (tgt := 222) hx hb d_Md_skip_215 (by decide) (fun c_8 => ?_) (fun c_8 => ?_)
              · have he := he.trans (if_pos c_8)
                refine lv_aload_n hx hb d_Md_skip_222 rfl (lv_at hl 2 rfl) ?_
                refine wx_ci (wS := fun v : TMd => w_M ad ca v) (ws2 := fun v : TMd => w_M ad ca v) (va_runV (As := []) (rest := []) ⟨hx, hb, hml, hown, ht⟩ (c_Md_need l dC dI ad ca H.size (TMd_set_skipped d y_7) ⟨hc.1.1, hc.1.2.1⟩ _ rfl) (cwV 0 ht (tb_V q_599 q_601 q_33 q_47 q_602) rfl rfl rfl p_Md_need ⟨show 2 + 1 ≤ 3 by omega, show 8 + (2 + 11) + 42 ≤ 63 by omega⟩) (wx_preV (wc := (w_M ad ca (TMd_set_skipped d y_7))) hN hK hP hD [0, 1, 2, 3, 4, 5, 6, 7, 8, 9, 10, 11] [0, 1, 2, 3, 4, 5, 6, 7, 8, 9, 10] rfl (by decide) rfl (ci := 4) (q0 := 0) rfl rfl) rfl rfl hl.1 rfl (lv_room (Nat.le_of_ble_eq_true rfl)) d_Md_skip_223 ⟨Nat.zero_le _, Nat.zero_le _⟩) hP hD hS hA [0, 1, 2, 3, 4, 5, 6, 7, 8, 9, 10, 11] [] [0, 1, 2, 3, 4, 5, 6, 7, 8, 9, 10, 11] rfl rfl (by decide) (by decide) (by decide) (fun _ => rfl) (fun r_9 v_9 H locs hw_9 hP hD hS => ?_)
                have hP : va_P (dC, dI) vwCl (w_M ad ca v_9) H := hP
                have hD : va_D A (w_M ad ca v_9) := hD
                rw [← hw_9] at he
                try dsimp only at he
                refine lv_istore (lv' := [(7, .int r_9), (5, .int x5), (8, .int (f_Md_kindOf d x7)), (0, .ref (ad 16)), (1, .int x1), (3, .int x3), (4, .int x4), (6, .int x6)]) hx hb d_Md_skip_226 hl (by decide) rfl (fun ls hl => ?_)
                refine lv_goto (tgt := 15) hx hb d_Md_skip_228 (by decide) ?_
                exact ih v_9 x1 x3 x4 x5 x6 r_9 (sk_next (d1 := (TMd_set_skipped d y_7)) hc.1.1 hc.1.2.1 hc.1.2.2 (sk_mu hc.2.1 c_1) hw_9) he _ _ hP hD hS _ (lv_sub hl [3, 4, 5, 6, 1, 7, 0] rfl)
              · have he := he.trans (if_neg c_8)
                exact False.elim (c_8 (by rw [c_1]; decide))
            · have he := he.trans (if_pos c_6)
              refine lv_iload hx hb d_Md_skip_86 (lv_at hl 5 rfl) ?_
              refine lv_iconst (v := 1) hx hb d_Md_skip_88 (by decide) ?_
              refine lv_isub hx hb d_Md_skip_89 ?_
              refine lv_goto (tgt := 95) hx hb d_Md_skip_90 (by decide) ?_
              refine lv_istore (lv' := [(5, .int (x5 - 1)), (8, .int (f_Md_kindOf d x7)), (0, .ref (ad 16)), (1, .int x1), (3, .int x3), (4, .int x4), (6, .int x6), (7, .int x7)]) hx hb d_Md_skip_95 hl (by decide) rfl (fun ls hl => ?_)
              refine lv_aload_n hx hb d_Md_skip_97 rfl (lv_at hl 2 rfl) ?_
              refine lv_dup hx hb d_Md_skip_98 rfl ?_
              refine va_get (D := (dC, dI)) (ci := 4) (v := .int (TMd_skipped d)) (C := R_Md) (T := T_Md) (N := 23) hx hb ht i_Md hown hK hP 0 rfl rfl 18 (by decide) (ht _ q_463) (fun _ h9 => h9) rfl d_Md_skip_99 ?_
              refine lv_iconst (v := 1) hx hb d_Md_skip_102 (by decide) ?_
              refine lv_iadd hx hb d_Md_skip_103 ?_
              refine lv_topi (fun y_10 ey_10 => ?_)
              rw [← ey_10] at he
              try dsimp only at he
              refine va_put (D := (dC, dI)) (ci := 4) (v := .int y_10) (ty := .int) (C := R_Md) (T := T_Md) (N := 23) hx hb ht i_Md ty_Md ty_Md_ok nm_Md hown hK hP hD hS 0 rfl rfl 18 (by decide) (ht _ q_463) (fun _ h9 => h9) rfl (by decide +kernel) rfl rfl (Nat.le_of_ble_eq_true rfl) d_Md_skip_104 (fun H locs hP hD hS => ?_)
              have hP : va_P (dC, dI) vwCl (w_M ad ca (TMd_set_skipped d y_10)) H := hP
              have hD : va_D A (w_M ad ca (TMd_set_skipped d y_10)) := hD
              refine lv_goto (tgt := 211) hx hb d_Md_skip_107 (by decide) ?_
              refine lv_aload_n hx hb d_Md_skip_211 rfl (lv_at hl 2 rfl) ?_
              refine va_get (D := (dC, dI)) (ci := 4) (v := .int (TMd_fault d)) (C := R_Md) (T := T_Md) (N := 23) hx hb ht i_Md hown hK hP 0 rfl rfl 13 (by decide) (ht _ q_458) (fun _ h9 => h9) rfl d_Md_skip_212 ?_
              refine lv_if_le (tgt := 222) hx hb d_Md_skip_215 (by decide) (fun c_11 => ?_) (fun c_11 => ?_)
              · have he := he.trans (if_pos c_11)
                refine lv_aload_n hx hb d_Md_skip_222 rfl (lv_at hl 2 rfl) ?_
                refine wx_ci (wS := fun v : TMd => w_M ad ca v) (ws2 := fun v : TMd => w_M ad ca v) (va_runV (As := []) (rest := []) ⟨hx, hb, hml, hown, ht⟩ (c_Md_need l dC dI ad ca H.size (TMd_set_skipped d y_10) ⟨hc.1.1, hc.1.2.1⟩ _ rfl) (cwV 0 ht (tb_V q_599 q_601 q_33 q_47 q_602) rfl rfl rfl p_Md_need ⟨show 2 + 1 ≤ 3 by omega, show 8 + (2 + 11) + 42 ≤ 63 by omega⟩) (wx_preV (wc := (w_M ad ca (TMd_set_skipped d y_10))) hN hK hP hD [0, 1, 2, 3, 4, 5, 6, 7, 8, 9, 10, 11] [0, 1, 2, 3, 4, 5, 6, 7, 8, 9, 10] rfl (by decide) rfl (ci := 4) (q0 := 0) rfl rfl) rfl rfl hl.1 rfl (lv_room (Nat.le_of_ble_eq_true rfl)) d_Md_skip_223 ⟨Nat.zero_le _, Nat.zero_le _⟩) hP hD hS hA [0, 1, 2, 3, 4, 5, 6, 7, 8, 9, 10, 11] [] [0, 1, 2, 3, 4, 5, 6, 7, 8, 9, 10, 11] rfl rfl (by decide) (by decide) (by decide) (fun _ => rfl) (fun r_12 v_12 H locs hw_12 hP hD hS => ?_)
                have hP : va_P (dC, dI) vwCl (w_M ad ca v_12) H := hP
                have hD : va_D A (w_M ad ca v_12) := hD
                rw [← hw_12] at he
                try dsimp only at he
                refine lv_istore (lv' := [(7, .int r_12), (5, .int (x5 - 1)), (8, .int (f_Md_kindOf d x7)), (0, .ref (ad 16)), (1, .int x1), (3, .int x3), (4, .int x4), (6, .int x6)]) hx hb d_Md_skip_226 hl (by decide) rfl (fun ls hl => ?_)
                refine lv_goto (tgt := 15) hx hb d_Md_skip_228 (by decide) ?_
                exact ih v_12 x1 x3 x4 (x5 - 1) x6 r_12 (sk_next (d1 := (TMd_set_skipped d y_10)) hc.1.1 hc.1.2.1 hc.1.2.2 (sk_mu hc.2.1 c_1) hw_12) he _ _ hP hD hS _ (lv_sub hl [3, 4, 5, 6, 1, 7, 0] rfl)
              · have he := he.trans (if_neg c_11)
                exact False.elim (c_11 (by rw [c_1]; decide))
          · have he := he.trans (if_neg c_5)
            refine lv_iload hx hb d_Md_skip_74 (lv_at hl 5 rfl) ?_
            refine lv_if_le (tgt := 110) hx hb d_Md_skip_76 (by decide) (fun c_13 => ?_) (fun c_13 => ?_)
            · have he := he.trans (if_pos c_13)
              refine lv_iload hx hb d_Md_skip_110 (lv_at hl 0 rfl) ?_
              refine lv_bipush (v := 8) hx hb d_Md_skip_112 (by decide) ?_
              refine lv_icmp_ne (tgt := 128) hx hb d_Md_skip_114 (by decide) (fun c_14 => ?_) (fun c_14 => ?_)
              · have he := he.trans (if_neg c_14)
                refine lv_iload hx hb d_Md_skip_128 (lv_at hl 4 rfl) ?_
                refine lv_if_ne (tgt := 144) hx hb d_Md_skip_130 (by decide) (fun c_15 => ?_) (fun c_15 => ?_)
                · have he := he.trans (if_neg c_15)
                  refine lv_aload_n hx hb d_Md_skip_144 rfl (lv_at hl 1 rfl) ?_
                  refine lv_iconst (v := 2) hx hb d_Md_skip_145 (by decide) ?_
                  refine wx_cv (wS := fun v : TMd => w_M ad ca v) (ws2 := fun v : TMd => w_M ad ca v) (va_runV (As := [.int 2]) (rest := []) ⟨hx, hb, hml, hown, ht⟩ (c_Md_fail l dC dI ad ca H.size d 2 _ rfl) (cwV 1 ht (tb_V q_571 q_573 q_26 q_47 q_574) rfl rfl rfl p_Md_fail ⟨show 0 + 1 ≤ 3 by omega, show 8 + (2 + 11) + 0 ≤ 63 by omega⟩) (wx_preV (wc := (w_M ad ca d)) hN hK hP hD [0, 1, 2, 3, 4, 5, 6, 7, 8, 9, 10, 11] [0, 1, 2, 3, 4, 5, 6, 7, 8, 9, 10] rfl (by decide) rfl (ci := 4) (q0 := 0) rfl rfl) rfl rfl hl.1 rfl (lv_room (Nat.le_of_ble_eq_true rfl)) d_Md_skip_146 ⟨Nat.zero_le _, Nat.zero_le _⟩) hP hD hS hA [0, 1, 2, 3, 4, 5, 6, 7, 8, 9, 10, 11] [] [0, 1, 2, 3, 4, 5, 6, 7, 8, 9, 10, 11] rfl rfl (by decide) (by decide) (by decide) (fun _ => rfl) (fun v_16 H locs hw_16 hP hD hS => ?_)
                  have hP : va_P (dC, dI) vwCl (w_M ad ca v_16) H := hP
                  have hD : va_D A (w_M ad ca v_16) := hD
                  rw [← hw_16] at he
                  try dsimp only at he
                  refine lv_goto (tgt := 211) hx hb d_Md_skip_149 (by decide) ?_
                  refine lv_aload_n hx hb d_Md_skip_211 rfl (lv_at hl 1 rfl) ?_
                  refine va_get (D := (dC, dI)) (ci := 4) (v := .int (TMd_fault v_16)) (C := R_Md) (T := T_Md) (N := 23) hx hb ht i_Md hown hK hP 0 rfl rfl 13 (by decide) (ht _ q_458) (fun _ h9 => h9) rfl d_Md_skip_212 ?_
                  refine lv_if_le (tgt := 222) hx hb d_Md_skip_215 (by decide) (fun c_17 => ?_) (fun c_17 => ?_)
                  · have he := he.trans (if_pos c_17)
                    exact False.elim (sk_fp hw_16 (by decide) hc.1.2.1 c_17)
                  · have he := he.trans (if_neg c_17)
                    refine lv_iconst (v := (-1)) hx hb d_Md_skip_218 (by decide) ?_
                    refine lv_goto (tgt := 226) hx hb d_Md_skip_219 (by decide) ?_
                    refine lv_istore (lv' := [(7, .int (-1)), (8, .int (f_Md_kindOf d x7)), (0, .ref (ad 16)), (1, .int x1), (3, .int x3), (4, .int x4), (5, .int x5), (6, .int x6)]) hx hb d_Md_skip_226 hl (by decide) rfl (fun ls hl => ?_)
                    refine lv_goto (tgt := 15) hx hb d_Md_skip_228 (by decide) ?_
                    exact ih v_16 x1 x3 x4 x5 x6 (-1) (sk_fail hw_16 (by decide) hc.1.1 hc.1.2.1 hc.1.2.2 (sk_mu hc.2.1 c_1)) he _ _ hP hD hS _ (lv_sub hl [2, 3, 4, 5, 6, 7, 0] rfl)
                · have he := he.trans (if_pos c_15)
                  refine lv_iload hx hb d_Md_skip_133 (lv_at hl 0 rfl) ?_
                  refine lv_bipush (v := 7) hx hb d_Md_skip_135 (by decide) ?_
                  refine lv_icmp_ne (tgt := 152) hx hb d_Md_skip_137 (by decide) (fun c_18 => ?_) (fun c_18 => ?_)
                  · have he := he.trans (if_neg c_18)
                    refine lv_iload hx hb d_Md_skip_152 (lv_at hl 0 rfl) ?_
                    refine lv_bipush (v := 6) hx hb d_Md_skip_154 (by decide) ?_
                    refine lv_icmp_ne (tgt := 169) hx hb d_Md_skip_156 (by decide) (fun c_19 => ?_) (fun c_19 => ?_)
                    · have he := he.trans (if_neg c_19)
                      refine lv_iload hx hb d_Md_skip_169 (lv_at hl 0 rfl) ?_
                      refine lv_bipush (v := 6) hx hb d_Md_skip_171 (by decide) ?_
                      refine lv_icmp_ne (tgt := 189) hx hb d_Md_skip_173 (by decide) (fun c_20 => ?_) (fun c_20 => ?_)
                      · refine lv_iinc (v := (x6 + 1)) (lv' := [(6, .int (x6 + 1)), (8, .int (f_Md_kindOf d x7)), (0, .ref (ad 16)), (1, .int x1), (3, .int x3), (4, .int x4), (5, .int x5), (7, .int x7)]) hx hb d_Md_skip_189 hl (k := 6) rfl rfl (by decide) rfl (fun ls hl => ?_)
                        refine lv_iload hx hb d_Md_skip_192 (lv_at hl 0 rfl) ?_
                        refine lv_iload_n hx hb d_Md_skip_194 rfl (lv_at hl 4 rfl) ?_
                        refine lv_icmp_ne (tgt := 211) hx hb d_Md_skip_195 (by decide) (fun c_21 => ?_) (fun c_21 => ?_)
                        · have he := he.trans (if_neg c_21)
                          refine lv_aload_n hx hb d_Md_skip_211 rfl (lv_at hl 2 rfl) ?_
                          refine va_get (D := (dC, dI)) (ci := 4) (v := .int (TMd_fault d)) (C := R_Md) (T := T_Md) (N := 23) hx hb ht i_Md hown hK hP 0 rfl rfl 13 (by decide) (ht _ q_458) (fun _ h9 => h9) rfl d_Md_skip_212 ?_
                          refine lv_if_le (tgt := 222) hx hb d_Md_skip_215 (by decide) (fun c_22 => ?_) (fun c_22 => ?_)
                          · have he := he.trans (if_pos c_22)
                            refine lv_aload_n hx hb d_Md_skip_222 rfl (lv_at hl 2 rfl) ?_
                            refine wx_ci (wS := fun v : TMd => w_M ad ca v) (ws2 := fun v : TMd => w_M ad ca v) (va_runV (As := []) (rest := []) ⟨hx, hb, hml, hown, ht⟩ (c_Md_need l dC dI ad ca H.size d ⟨hc.1.1, hc.1.2.1⟩ _ rfl) (cwV 0 ht (tb_V q_599 q_601 q_33 q_47 q_602) rfl rfl rfl p_Md_need ⟨show 2 + 1 ≤ 3 by omega, show 8 + (2 + 11) + 42 ≤ 63 by omega⟩) (wx_preV (wc := (w_M ad ca d)) hN hK hP hD [0, 1, 2, 3, 4, 5, 6, 7, 8, 9, 10, 11] [0, 1, 2, 3, 4, 5, 6, 7, 8, 9, 10] rfl (by decide) rfl (ci := 4) (q0 := 0) rfl rfl) rfl rfl hl.1 rfl (lv_room (Nat.le_of_ble_eq_true rfl)) d_Md_skip_223 ⟨Nat.zero_le _, Nat.zero_le _⟩) hP hD hS hA [0, 1, 2, 3, 4, 5, 6, 7, 8, 9, 10, 11] [] [0, 1, 2, 3, 4, 5, 6, 7, 8, 9, 10, 11] rfl rfl (by decide) (by decide) (by decide) (fun _ => rfl) (fun r_23 v_23 H locs hw_23 hP hD hS => ?_)
                            have hP : va_P (dC, dI) vwCl (w_M ad ca v_23) H := hP
                            have hD : va_D A (w_M ad ca v_23) := hD
                            rw [← hw_23] at he
                            try dsimp only at he
                            refine lv_istore (lv' := [(7, .int r_23), (6, .int (x6 + 1)), (8, .int (f_Md_kindOf d x7)), (0, .ref (ad 16)), (1, .int x1), (3, .int x3), (4, .int x4), (5, .int x5)]) hx hb d_Md_skip_226 hl (by decide) rfl (fun ls hl => ?_)
                            refine lv_goto (tgt := 15) hx hb d_Md_skip_228 (by decide) ?_
                            exact ih v_23 x1 x3 x4 x5 (x6 + 1) r_23 (sk_next (d1 := d) hc.1.1 hc.1.2.1 hc.1.2.2 (sk_mu hc.2.1 c_1) hw_23) he _ _ hP hD hS _ (lv_sub hl [3, 4, 5, 6, 7, 1, 0] rfl)
                          · have he := he.trans (if_neg c_22)
                            exact False.elim (c_22 (by rw [c_1]; decide))
                        · have he := he.trans (if_pos c_21)
                          refine lv_aload_n hx hb d_Md_skip_198 rfl (lv_at hl 2 rfl) ?_
                          refine va_get (D := (dC, dI)) (ci := 4) (v := .ref (ad 27)) (C := R_Md) (T := T_Md) (N := 23) hx hb ht i_Md hown hK hP 0 rfl rfl 20 (by decide) (ht _ q_465) (fun _ h9 => h9) rfl d_Md_skip_199 ?_
                          refine lv_aload_n hx hb d_Md_skip_202 rfl (lv_at hl 2 rfl) ?_
                          refine va_get (D := (dC, dI)) (ci := 4) (v := .int (TMd_open d)) (C := R_Md) (T := T_Md) (N := 23) hx hb ht i_Md hown hK hP 0 rfl rfl 21 (by decide) (ht _ q_466) (fun _ h9 => h9) rfl d_Md_skip_203 ?_
                          refine lv_iconst (v := 1) hx hb d_Md_skip_206 (by decide) ?_
                          refine lv_isub hx hb d_Md_skip_207 ?_
                          refine lv_iconst (v := 3) hx hb d_Md_skip_208 (by decide) ?_
                          refine va_iast (f := (TMd_phases d)) hx hb hK hP hD hS 11 10 rfl rfl (sk_ph (d := d) hc.1.2.1 hc.1.2.2) d_Md_skip_209 (fun H locs hP hD hS => ?_)
                          obtain ⟨g_24, eg_24⟩ : ∃ z, z = (upd (TMd_phases d) ((TMd_open d) - 1).toNatClampNeg 3) := ⟨_, rfl⟩
                          rw [← eg_24] at he hP hD
                          try dsimp only at he
                          have hP : va_P (dC, dI) vwCl (w_M ad ca (TMd_set_phases d g_24)) H := hP
                          have hD : va_D A (w_M ad ca (TMd_set_phases d g_24)) := hD
                          exact W.vret hx hb hr (fun t ht hW => ⟨⟨(TMd_set_phases d g_24), rfl, he.symm, by rw [ht]; exact hP, va_K.moved hW.alike hK, hD⟩, hS.F ht⟩) hS.2.2 d_Md_skip_210
                      · exact absurd c_20 c_19
                    · have he := he.trans (if_pos c_19)
                      refine lv_iload_n hx hb d_Md_skip_159 rfl (lv_at hl 3 rfl) ?_
                      refine lv_if_ne (tgt := 169) hx hb d_Md_skip_160 (by decide) (fun c_25 => ?_) (fun c_25 => ?_)
                      · have he := he.trans (if_neg c_25)
                        refine lv_iload hx hb d_Md_skip_169 (lv_at hl 0 rfl) ?_
                        refine lv_bipush (v := 6) hx hb d_Md_skip_171 (by decide) ?_
                        refine lv_icmp_ne (tgt := 189) hx hb d_Md_skip_173 (by decide) (fun c_26 => ?_) (fun c_26 => ?_)
                        · exact absurd c_19 c_26
                        · refine lv_aload_n hx hb d_Md_skip_176 rfl (lv_at hl 1 rfl) ?_
                          refine va_get (D := (dC, dI)) (ci := 4) (v := .ref (ad 27)) (C := R_Md) (T := T_Md) (N := 23) hx hb ht i_Md hown hK hP 0 rfl rfl 20 (by decide) (ht _ q_465) (fun _ h9 => h9) rfl d_Md_skip_177 ?_
                          refine lv_aload_n hx hb d_Md_skip_180 rfl (lv_at hl 1 rfl) ?_
                          refine va_get (D := (dC, dI)) (ci := 4) (v := .int (TMd_open d)) (C := R_Md) (T := T_Md) (N := 23) hx hb ht i_Md hown hK hP 0 rfl rfl 21 (by decide) (ht _ q_466) (fun _ h9 => h9) rfl d_Md_skip_181 ?_
                          refine lv_iconst (v := 1) hx hb d_Md_skip_184 (by decide) ?_
                          refine lv_isub hx hb d_Md_skip_185 ?_
                          refine lv_iconst (v := 2) hx hb d_Md_skip_186 (by decide) ?_
                          refine va_iast (f := (TMd_phases d)) hx hb hK hP hD hS 11 10 rfl rfl (sk_ph (d := d) hc.1.2.1 hc.1.2.2) d_Md_skip_187 (fun H locs hP hD hS => ?_)
                          obtain ⟨g_27, eg_27⟩ : ∃ z, z = (upd (TMd_phases d) ((TMd_open d) - 1).toNatClampNeg 2) := ⟨_, rfl⟩
                          rw [← eg_27] at he hP hD
                          try dsimp only at he
                          have hP : va_P (dC, dI) vwCl (w_M ad ca (TMd_set_phases d g_27)) H := hP
                          have hD : va_D A (w_M ad ca (TMd_set_phases d g_27)) := hD
                          exact W.vret hx hb hr (fun t ht hW => ⟨⟨(TMd_set_phases d g_27), rfl, he.symm, by rw [ht]; exact hP, va_K.moved hW.alike hK, hD⟩, hS.F ht⟩) hS.2.2 d_Md_skip_188
                      · have he := he.trans (if_pos c_25)
                        refine lv_iconst (v := 1) hx hb d_Md_skip_163 (by decide) ?_
                        refine lv_istore (lv' := [(4, .int 1), (8, .int (f_Md_kindOf d x7)), (0, .ref (ad 16)), (1, .int x1), (3, .int x3), (5, .int x5), (6, .int x6), (7, .int x7)]) hx hb d_Md_skip_164 hl (by decide) rfl (fun ls hl => ?_)
                        refine lv_goto (tgt := 211) hx hb d_Md_skip_166 (by decide) ?_
                        refine lv_aload_n hx hb d_Md_skip_211 rfl (lv_at hl 2 rfl) ?_
                        refine va_get (D := (dC, dI)) (ci := 4) (v := .int (TMd_fault d)) (C := R_Md) (T := T_Md) (N := 23) hx hb ht i_Md hown hK hP 0 rfl rfl 13 (by decide) (ht _ q_458) (fun _ h9 => h9) rfl d_Md_skip_212 ?_
                        refine lv_if_le (tgt := 222) hx hb d_Md_skip_215 (by decide) (fun c_28 => ?_) (fun c_28 => ?_)
                        · have he := he.trans (if_pos c_28)
                          refine lv_aload_n hx hb d_Md_skip_222 rfl (lv_at hl 2 rfl) ?_
                          refine wx_ci (wS := fun v : TMd => w_M ad ca v) (ws2 := fun v : TMd => w_M ad ca v) (va_runV (As := []) (rest := []) ⟨hx, hb, hml, hown, ht⟩ (c_Md_need l dC dI ad ca H.size d ⟨hc.1.1, hc.1.2.1⟩ _ rfl) (cwV 0 ht (tb_V q_599 q_601 q_33 q_47 q_602) rfl rfl rfl p_Md_need ⟨show 2 + 1 ≤ 3 by omega, show 8 + (2 + 11) + 42 ≤ 63 by omega⟩) (wx_preV (wc := (w_M ad ca d)) hN hK hP hD [0, 1, 2, 3, 4, 5, 6, 7, 8, 9, 10, 11] [0, 1, 2, 3, 4, 5, 6, 7, 8, 9, 10] rfl (by decide) rfl (ci := 4) (q0 := 0) rfl rfl) rfl rfl hl.1 rfl (lv_room (Nat.le_of_ble_eq_true rfl)) d_Md_skip_223 ⟨Nat.zero_le _, Nat.zero_le _⟩) hP hD hS hA [0, 1, 2, 3, 4, 5, 6, 7, 8, 9, 10, 11] [] [0, 1, 2, 3, 4, 5, 6, 7, 8, 9, 10, 11] rfl rfl (by decide) (by decide) (by decide) (fun _ => rfl) (fun r_29 v_29 H locs hw_29 hP hD hS => ?_)
                          have hP : va_P (dC, dI) vwCl (w_M ad ca v_29) H := hP
                          have hD : va_D A (w_M ad ca v_29) := hD
                          rw [← hw_29] at he
                          try dsimp only at he
                          refine lv_istore (lv' := [(7, .int r_29), (4, .int 1), (8, .int (f_Md_kindOf d x7)), (0, .ref (ad 16)), (1, .int x1), (3, .int x3), (5, .int x5), (6, .int x6)]) hx hb d_Md_skip_226 hl (by decide) rfl (fun ls hl => ?_)
                          refine lv_goto (tgt := 15) hx hb d_Md_skip_228 (by decide) ?_
                          exact ih v_29 x1 x3 1 x5 x6 r_29 (sk_next (d1 := d) hc.1.1 hc.1.2.1 hc.1.2.2 (sk_mu hc.2.1 c_1) hw_29) he _ _ hP hD hS _ (lv_sub hl [3, 4, 5, 1, 6, 7, 0] rfl)
                        · have he := he.trans (if_neg c_28)
                          exact False.elim (c_28 (by rw [c_1]; decide))
                  · have he := he.trans (if_pos c_18)
                    refine lv_iload_n hx hb d_Md_skip_140 rfl (lv_at hl 2 rfl) ?_
                    refine lv_if_ne (tgt := 152) hx hb d_Md_skip_141 (by decide) (fun c_30 => ?_) (fun c_30 => ?_)
                    · have he := he.trans (if_neg c_30)
                      refine lv_iload hx hb d_Md_skip_152 (lv_at hl 0 rfl) ?_
                      refine lv_bipush (v := 6) hx hb d_Md_skip_154 (by decide) ?_
                      refine lv_icmp_ne (tgt := 169) hx hb d_Md_skip_156 (by decide) (fun c_31 => ?_) (fun c_31 => ?_)
                      · have he := he.trans (if_neg c_31)
                        refine lv_iload hx hb d_Md_skip_169 (lv_at hl 0 rfl) ?_
                        refine lv_bipush (v := 6) hx hb d_Md_skip_171 (by decide) ?_
                        refine lv_icmp_ne (tgt := 189) hx hb d_Md_skip_173 (by decide) (fun c_32 => ?_) (fun c_32 => ?_)
                        · refine lv_iinc (v := (x6 + 1)) (lv' := [(6, .int (x6 + 1)), (8, .int (f_Md_kindOf d x7)), (0, .ref (ad 16)), (1, .int x1), (3, .int x3), (4, .int x4), (5, .int x5), (7, .int x7)]) hx hb d_Md_skip_189 hl (k := 6) rfl rfl (by decide) rfl (fun ls hl => ?_)
                          refine lv_iload hx hb d_Md_skip_192 (lv_at hl 0 rfl) ?_
                          refine lv_iload_n hx hb d_Md_skip_194 rfl (lv_at hl 4 rfl) ?_
                          refine lv_icmp_ne (tgt := 211) hx hb d_Md_skip_195 (by decide) (fun c_33 => ?_) (fun c_33 => ?_)
                          · have he := he.trans (if_neg c_33)
                            refine lv_aload_n hx hb d_Md_skip_211 rfl (lv_at hl 2 rfl) ?_
                            refine va_get (D := (dC, dI)) (ci := 4) (v := .int (TMd_fault d)) (C := R_Md) (T := T_Md) (N := 23) hx hb ht i_Md hown hK hP 0 rfl rfl 13 (by decide) (ht _ q_458) (fun _ h9 => h9) rfl d_Md_skip_212 ?_
                            refine lv_if_le (tgt := 222) hx hb d_Md_skip_215 (by decide) (fun c_34 => ?_) (fun c_34 => ?_)
                            · have he := he.trans (if_pos c_34)
                              refine lv_aload_n hx hb d_Md_skip_222 rfl (lv_at hl 2 rfl) ?_
                              refine wx_ci (wS := fun v : TMd => w_M ad ca v) (ws2 := fun v : TMd => w_M ad ca v) (va_runV (As := []) (rest := []) ⟨hx, hb, hml, hown, ht⟩ (c_Md_need l dC dI ad ca H.size d ⟨hc.1.1, hc.1.2.1⟩ _ rfl) (cwV 0 ht (tb_V q_599 q_601 q_33 q_47 q_602) rfl rfl rfl p_Md_need ⟨show 2 + 1 ≤ 3 by omega, show 8 + (2 + 11) + 42 ≤ 63 by omega⟩) (wx_preV (wc := (w_M ad ca d)) hN hK hP hD [0, 1, 2, 3, 4, 5, 6, 7, 8, 9, 10, 11] [0, 1, 2, 3, 4, 5, 6, 7, 8, 9, 10] rfl (by decide) rfl (ci := 4) (q0 := 0) rfl rfl) rfl rfl hl.1 rfl (lv_room (Nat.le_of_ble_eq_true rfl)) d_Md_skip_223 ⟨Nat.zero_le _, Nat.zero_le _⟩) hP hD hS hA [0, 1, 2, 3, 4, 5, 6, 7, 8, 9, 10, 11] [] [0, 1, 2, 3, 4, 5, 6, 7, 8, 9, 10, 11] rfl rfl (by decide) (by decide) (by decide) (fun _ => rfl) (fun r_35 v_35 H locs hw_35 hP hD hS => ?_)
                              have hP : va_P (dC, dI) vwCl (w_M ad ca v_35) H := hP
                              have hD : va_D A (w_M ad ca v_35) := hD
                              rw [← hw_35] at he
                              try dsimp only at he
                              refine lv_istore (lv' := [(7, .int r_35), (6, .int (x6 + 1)), (8, .int (f_Md_kindOf d x7)), (0, .ref (ad 16)), (1, .int x1), (3, .int x3), (4, .int x4), (5, .int x5)]) hx hb d_Md_skip_226 hl (by decide) rfl (fun ls hl => ?_)
                              refine lv_goto (tgt := 15) hx hb d_Md_skip_228 (by decide) ?_
                              exact ih v_35 x1 x3 x4 x5 (x6 + 1) r_35 (sk_next (d1 := d) hc.1.1 hc.1.2.1 hc.1.2.2 (sk_mu hc.2.1 c_1) hw_35) he _ _ hP hD hS _ (lv_sub hl [3, 4, 5, 6, 7, 1, 0] rfl)
                            · have he := he.trans (if_neg c_34)
                              exact False.elim (c_34 (by rw [c_1]; decide))
                          · have he := he.trans (if_pos c_33)
                            refine lv_aload_n hx hb d_Md_skip_198 rfl (lv_at hl 2 rfl) ?_
                            refine va_get (D := (dC, dI)) (ci := 4) (v := .ref (ad 27)) (C := R_Md) (T := T_Md) (N := 23) hx hb ht i_Md hown hK hP 0 rfl rfl 20 (by decide) (ht _ q_465) (fun _ h9 => h9) rfl d_Md_skip_199 ?_
                            refine lv_aload_n hx hb d_Md_skip_202 rfl (lv_at hl 2 rfl) ?_
                            refine va_get (D := (dC, dI)) (ci := 4) (v := .int (TMd_open d)) (C := R_Md) (T := T_Md) (N := 23) hx hb ht i_Md hown hK hP 0 rfl rfl 21 (by decide) (ht _ q_466) (fun _ h9 => h9) rfl d_Md_skip_203 ?_
                            refine lv_iconst (v := 1) hx hb d_Md_skip_206 (by decide) ?_
                            refine lv_isub hx hb d_Md_skip_207 ?_
                            refine lv_iconst (v := 3) hx hb d_Md_skip_208 (by decide) ?_
                            refine va_iast (f := (TMd_phases d)) hx hb hK hP hD hS 11 10 rfl rfl (sk_ph (d := d) hc.1.2.1 hc.1.2.2) d_Md_skip_209 (fun H locs hP hD hS => ?_)
                            obtain ⟨g_36, eg_36⟩ : ∃ z, z = (upd (TMd_phases d) ((TMd_open d) - 1).toNatClampNeg 3) := ⟨_, rfl⟩
                            rw [← eg_36] at he hP hD
                            try dsimp only at he
                            have hP : va_P (dC, dI) vwCl (w_M ad ca (TMd_set_phases d g_36)) H := hP
                            have hD : va_D A (w_M ad ca (TMd_set_phases d g_36)) := hD
                            exact W.vret hx hb hr (fun t ht hW => ⟨⟨(TMd_set_phases d g_36), rfl, he.symm, by rw [ht]; exact hP, va_K.moved hW.alike hK, hD⟩, hS.F ht⟩) hS.2.2 d_Md_skip_210
                        · exact absurd c_32 c_31
                      · have he := he.trans (if_pos c_31)
                        refine lv_iload_n hx hb d_Md_skip_159 rfl (lv_at hl 3 rfl) ?_
                        refine lv_if_ne (tgt := 169) hx hb d_Md_skip_160 (by decide) (fun c_37 => ?_) (fun c_37 => ?_)
                        · have he := he.trans (if_neg c_37)
                          refine lv_iload hx hb d_Md_skip_169 (lv_at hl 0 rfl) ?_
                          refine lv_bipush (v := 6) hx hb d_Md_skip_171 (by decide) ?_
                          refine lv_icmp_ne (tgt := 189) hx hb d_Md_skip_173 (by decide) (fun c_38 => ?_) (fun c_38 => ?_)
                          · exact absurd c_31 c_38
                          · refine lv_aload_n hx hb d_Md_skip_176 rfl (lv_at hl 1 rfl) ?_
                            refine va_get (D := (dC, dI)) (ci := 4) (v := .ref (ad 27)) (C := R_Md) (T := T_Md) (N := 23) hx hb ht i_Md hown hK hP 0 rfl rfl 20 (by decide) (ht _ q_465) (fun _ h9 => h9) rfl d_Md_skip_177 ?_
                            refine lv_aload_n hx hb d_Md_skip_180 rfl (lv_at hl 1 rfl) ?_
                            refine va_get (D := (dC, dI)) (ci := 4) (v := .int (TMd_open d)) (C := R_Md) (T := T_Md) (N := 23) hx hb ht i_Md hown hK hP 0 rfl rfl 21 (by decide) (ht _ q_466) (fun _ h9 => h9) rfl d_Md_skip_181 ?_
                            refine lv_iconst (v := 1) hx hb d_Md_skip_184 (by decide) ?_
                            refine lv_isub hx hb d_Md_skip_185 ?_
                            refine lv_iconst (v := 2) hx hb d_Md_skip_186 (by decide) ?_
                            refine va_iast (f := (TMd_phases d)) hx hb hK hP hD hS 11 10 rfl rfl (sk_ph (d := d) hc.1.2.1 hc.1.2.2) d_Md_skip_187 (fun H locs hP hD hS => ?_)
                            obtain ⟨g_39, eg_39⟩ : ∃ z, z = (upd (TMd_phases d) ((TMd_open d) - 1).toNatClampNeg 2) := ⟨_, rfl⟩
                            rw [← eg_39] at he hP hD
                            try dsimp only at he
                            have hP : va_P (dC, dI) vwCl (w_M ad ca (TMd_set_phases d g_39)) H := hP
                            have hD : va_D A (w_M ad ca (TMd_set_phases d g_39)) := hD
                            exact W.vret hx hb hr (fun t ht hW => ⟨⟨(TMd_set_phases d g_39), rfl, he.symm, by rw [ht]; exact hP, va_K.moved hW.alike hK, hD⟩, hS.F ht⟩) hS.2.2 d_Md_skip_188
                        · have he := he.trans (if_pos c_37)
                          refine lv_iconst (v := 1) hx hb d_Md_skip_163 (by decide) ?_
                          refine lv_istore (lv' := [(4, .int 1), (8, .int (f_Md_kindOf d x7)), (0, .ref (ad 16)), (1, .int x1), (3, .int x3), (5, .int x5), (6, .int x6), (7, .int x7)]) hx hb d_Md_skip_164 hl (by decide) rfl (fun ls hl => ?_)
                          refine lv_goto (tgt := 211) hx hb d_Md_skip_166 (by decide) ?_
                          refine lv_aload_n hx hb d_Md_skip_211 rfl (lv_at hl 2 rfl) ?_
                          refine va_get (D := (dC, dI)) (ci := 4) (v := .int (TMd_fault d)) (C := R_Md) (T := T_Md) (N := 23) hx hb ht i_Md hown hK hP 0 rfl rfl 13 (by decide) (ht _ q_458) (fun _ h9 => h9) rfl d_Md_skip_212 ?_
                          refine lv_if_le (tgt := 222) hx hb d_Md_skip_215 (by decide) (fun c_40 => ?_) (fun c_40 => ?_)
                          · have he := he.trans (if_pos c_40)
                            refine lv_aload_n hx hb d_Md_skip_222 rfl (lv_at hl 2 rfl) ?_
                            refine wx_ci (wS := fun v : TMd => w_M ad ca v) (ws2 := fun v : TMd => w_M ad ca v) (va_runV (As := []) (rest := []) ⟨hx, hb, hml, hown, ht⟩ (c_Md_need l dC dI ad ca H.size d ⟨hc.1.1, hc.1.2.1⟩ _ rfl) (cwV 0 ht (tb_V q_599 q_601 q_33 q_47 q_602) rfl rfl rfl p_Md_need ⟨show 2 + 1 ≤ 3 by omega, show 8 + (2 + 11) + 42 ≤ 63 by omega⟩) (wx_preV (wc := (w_M ad ca d)) hN hK hP hD [0, 1, 2, 3, 4, 5, 6, 7, 8, 9, 10, 11] [0, 1, 2, 3, 4, 5, 6, 7, 8, 9, 10] rfl (by decide) rfl (ci := 4) (q0 := 0) rfl rfl) rfl rfl hl.1 rfl (lv_room (Nat.le_of_ble_eq_true rfl)) d_Md_skip_223 ⟨Nat.zero_le _, Nat.zero_le _⟩) hP hD hS hA [0, 1, 2, 3, 4, 5, 6, 7, 8, 9, 10, 11] [] [0, 1, 2, 3, 4, 5, 6, 7, 8, 9, 10, 11] rfl rfl (by decide) (by decide) (by decide) (fun _ => rfl) (fun r_41 v_41 H locs hw_41 hP hD hS => ?_)
                            have hP : va_P (dC, dI) vwCl (w_M ad ca v_41) H := hP
                            have hD : va_D A (w_M ad ca v_41) := hD
                            rw [← hw_41] at he
                            try dsimp only at he
                            refine lv_istore (lv' := [(7, .int r_41), (4, .int 1), (8, .int (f_Md_kindOf d x7)), (0, .ref (ad 16)), (1, .int x1), (3, .int x3), (5, .int x5), (6, .int x6)]) hx hb d_Md_skip_226 hl (by decide) rfl (fun ls hl => ?_)
                            refine lv_goto (tgt := 15) hx hb d_Md_skip_228 (by decide) ?_
                            exact ih v_41 x1 x3 1 x5 x6 r_41 (sk_next (d1 := d) hc.1.1 hc.1.2.1 hc.1.2.2 (sk_mu hc.2.1 c_1) hw_41) he _ _ hP hD hS _ (lv_sub hl [3, 4, 5, 1, 6, 7, 0] rfl)
                          · have he := he.trans (if_neg c_40)
                            exact False.elim (c_40 (by rw [c_1]; decide))
                    · have he := he.trans (if_pos c_30)
                      refine lv_aload_n hx hb d_Md_skip_144 rfl (lv_at hl 1 rfl) ?_
                      refine lv_iconst (v := 2) hx hb d_Md_skip_145 (by decide) ?_
                      refine wx_cv (wS := fun v : TMd => w_M ad ca v) (ws2 := fun v : TMd => w_M ad ca v) (va_runV (As := [.int 2]) (rest := []) ⟨hx, hb, hml, hown, ht⟩ (c_Md_fail l dC dI ad ca H.size d 2 _ rfl) (cwV 1 ht (tb_V q_571 q_573 q_26 q_47 q_574) rfl rfl rfl p_Md_fail ⟨show 0 + 1 ≤ 3 by omega, show 8 + (2 + 11) + 0 ≤ 63 by omega⟩) (wx_preV (wc := (w_M ad ca d)) hN hK hP hD [0, 1, 2, 3, 4, 5, 6, 7, 8, 9, 10, 11] [0, 1, 2, 3, 4, 5, 6, 7, 8, 9, 10] rfl (by decide) rfl (ci := 4) (q0 := 0) rfl rfl) rfl rfl hl.1 rfl (lv_room (Nat.le_of_ble_eq_true rfl)) d_Md_skip_146 ⟨Nat.zero_le _, Nat.zero_le _⟩) hP hD hS hA [0, 1, 2, 3, 4, 5, 6, 7, 8, 9, 10, 11] [] [0, 1, 2, 3, 4, 5, 6, 7, 8, 9, 10, 11] rfl rfl (by decide) (by decide) (by decide) (fun _ => rfl) (fun v_42 H locs hw_42 hP hD hS => ?_)
                      have hP : va_P (dC, dI) vwCl (w_M ad ca v_42) H := hP
                      have hD : va_D A (w_M ad ca v_42) := hD
                      rw [← hw_42] at he
                      try dsimp only at he
                      refine lv_goto (tgt := 211) hx hb d_Md_skip_149 (by decide) ?_
                      refine lv_aload_n hx hb d_Md_skip_211 rfl (lv_at hl 1 rfl) ?_
                      refine va_get (D := (dC, dI)) (ci := 4) (v := .int (TMd_fault v_42)) (C := R_Md) (T := T_Md) (N := 23) hx hb ht i_Md hown hK hP 0 rfl rfl 13 (by decide) (ht _ q_458) (fun _ h9 => h9) rfl d_Md_skip_212 ?_
                      refine lv_if_le (tgt := 222) hx hb d_Md_skip_215 (by decide) (fun c_43 => ?_) (fun c_43 => ?_)
                      · have he := he.trans (if_pos c_43)
                        exact False.elim (sk_fp hw_42 (by decide) hc.1.2.1 c_43)
                      · have he := he.trans (if_neg c_43)
                        refine lv_iconst (v := (-1)) hx hb d_Md_skip_218 (by decide) ?_
                        refine lv_goto (tgt := 226) hx hb d_Md_skip_219 (by decide) ?_
                        refine lv_istore (lv' := [(7, .int (-1)), (8, .int (f_Md_kindOf d x7)), (0, .ref (ad 16)), (1, .int x1), (3, .int x3), (4, .int x4), (5, .int x5), (6, .int x6)]) hx hb d_Md_skip_226 hl (by decide) rfl (fun ls hl => ?_)
                        refine lv_goto (tgt := 15) hx hb d_Md_skip_228 (by decide) ?_
                        exact ih v_42 x1 x3 x4 x5 x6 (-1) (sk_fail hw_42 (by decide) hc.1.1 hc.1.2.1 hc.1.2.2 (sk_mu hc.2.1 c_1)) he _ _ hP hD hS _ (lv_sub hl [2, 3, 4, 5, 6, 7, 0] rfl)
              · have he := he.trans (if_pos c_14)
                refine lv_aload_n hx hb d_Md_skip_117 rfl (lv_at hl 1 rfl) ?_
                refine lv_dup hx hb d_Md_skip_118 rfl ?_
                refine va_get (D := (dC, dI)) (ci := 4) (v := .int (TMd_open d)) (C := R_Md) (T := T_Md) (N := 23) hx hb ht i_Md hown hK hP 0 rfl rfl 21 (by decide) (ht _ q_466) (fun _ h9 => h9) rfl d_Md_skip_119 ?_
                refine lv_iconst (v := 1) hx hb d_Md_skip_122 (by decide) ?_
                refine lv_isub hx hb d_Md_skip_123 ?_
                refine lv_topi (fun y_44 ey_44 => ?_)
                rw [← ey_44] at he
                try dsimp only at he
                refine va_put (D := (dC, dI)) (ci := 4) (v := .int y_44) (ty := .int) (C := R_Md) (T := T_Md) (N := 23) hx hb ht i_Md ty_Md ty_Md_ok nm_Md hown hK hP hD hS 0 rfl rfl 21 (by decide) (ht _ q_466) (fun _ h9 => h9) rfl (by decide +kernel) rfl rfl (Nat.le_of_ble_eq_true rfl) d_Md_skip_124 (fun H locs hP hD hS => ?_)
                have hP : va_P (dC, dI) vwCl (w_M ad ca (TMd_set_open d y_44)) H := hP
                have hD : va_D A (w_M ad ca (TMd_set_open d y_44)) := hD
                exact W.vret hx hb hr (fun t ht hW => ⟨⟨(TMd_set_open d y_44), rfl, he.symm, by rw [ht]; exact hP, va_K.moved hW.alike hK, hD⟩, hS.F ht⟩) hS.2.2 d_Md_skip_127
            · have he := he.trans (if_neg c_13)
              refine lv_iload hx hb d_Md_skip_79 (lv_at hl 0 rfl) ?_
              refine lv_bipush (v := 8) hx hb d_Md_skip_81 (by decide) ?_
              refine lv_icmp_ne (tgt := 93) hx hb d_Md_skip_83 (by decide) (fun c_45 => ?_) (fun c_45 => ?_)
              · have he := he.trans (if_neg c_45)
                refine lv_iload hx hb d_Md_skip_93 (lv_at hl 5 rfl) ?_
                refine lv_istore (lv' := [(5, .int x5), (8, .int (f_Md_kindOf d x7)), (0, .ref (ad 16)), (1, .int x1), (3, .int x3), (4, .int x4), (6, .int x6), (7, .int x7)]) hx hb d_Md_skip_95 hl (by decide) rfl (fun ls hl => ?_)
                refine lv_aload_n hx hb d_Md_skip_97 rfl (lv_at hl 2 rfl) ?_
                refine lv_dup hx hb d_Md_skip_98 rfl ?_
                refine va_get (D := (dC, dI)) (ci := 4) (v := .int (TMd_skipped d)) (C := R_Md) (T := T_Md) (N := 23) hx hb ht i_Md hown hK hP 0 rfl rfl 18 (by decide) (ht _ q_463) (fun _ h9 => h9) rfl d_Md_skip_99 ?_
                refine lv_iconst (v := 1) hx hb d_Md_skip_102 (by decide) ?_
                refine lv_iadd hx hb d_Md_skip_103 ?_
                refine lv_topi (fun y_46 ey_46 => ?_)
                rw [← ey_46] at he
                try dsimp only at he
                refine va_put (D := (dC, dI)) (ci := 4) (v := .int y_46) (ty := .int) (C := R_Md) (T := T_Md) (N := 23) hx hb ht i_Md ty_Md ty_Md_ok nm_Md hown hK hP hD hS 0 rfl rfl 18 (by decide) (ht _ q_463) (fun _ h9 => h9) rfl (by decide +kernel) rfl rfl (Nat.le_of_ble_eq_true rfl) d_Md_skip_104 (fun H locs hP hD hS => ?_)
                have hP : va_P (dC, dI) vwCl (w_M ad ca (TMd_set_skipped d y_46)) H := hP
                have hD : va_D A (w_M ad ca (TMd_set_skipped d y_46)) := hD
                refine lv_goto (tgt := 211) hx hb d_Md_skip_107 (by decide) ?_
                refine lv_aload_n hx hb d_Md_skip_211 rfl (lv_at hl 2 rfl) ?_
                refine va_get (D := (dC, dI)) (ci := 4) (v := .int (TMd_fault d)) (C := R_Md) (T := T_Md) (N := 23) hx hb ht i_Md hown hK hP 0 rfl rfl 13 (by decide) (ht _ q_458) (fun _ h9 => h9) rfl d_Md_skip_212 ?_
                refine lv_if_le (tgt := 222) hx hb d_Md_skip_215 (by decide) (fun c_47 => ?_) (fun c_47 => ?_)
                · have he := he.trans (if_pos c_47)
                  refine lv_aload_n hx hb d_Md_skip_222 rfl (lv_at hl 2 rfl) ?_
                  refine wx_ci (wS := fun v : TMd => w_M ad ca v) (ws2 := fun v : TMd => w_M ad ca v) (va_runV (As := []) (rest := []) ⟨hx, hb, hml, hown, ht⟩ (c_Md_need l dC dI ad ca H.size (TMd_set_skipped d y_46) ⟨hc.1.1, hc.1.2.1⟩ _ rfl) (cwV 0 ht (tb_V q_599 q_601 q_33 q_47 q_602) rfl rfl rfl p_Md_need ⟨show 2 + 1 ≤ 3 by omega, show 8 + (2 + 11) + 42 ≤ 63 by omega⟩) (wx_preV (wc := (w_M ad ca (TMd_set_skipped d y_46))) hN hK hP hD [0, 1, 2, 3, 4, 5, 6, 7, 8, 9, 10, 11] [0, 1, 2, 3, 4, 5, 6, 7, 8, 9, 10] rfl (by decide) rfl (ci := 4) (q0 := 0) rfl rfl) rfl rfl hl.1 rfl (lv_room (Nat.le_of_ble_eq_true rfl)) d_Md_skip_223 ⟨Nat.zero_le _, Nat.zero_le _⟩) hP hD hS hA [0, 1, 2, 3, 4, 5, 6, 7, 8, 9, 10, 11] [] [0, 1, 2, 3, 4, 5, 6, 7, 8, 9, 10, 11] rfl rfl (by decide) (by decide) (by decide) (fun _ => rfl) (fun r_48 v_48 H locs hw_48 hP hD hS => ?_)
                  have hP : va_P (dC, dI) vwCl (w_M ad ca v_48) H := hP
                  have hD : va_D A (w_M ad ca v_48) := hD
                  rw [← hw_48] at he
                  try dsimp only at he
                  refine lv_istore (lv' := [(7, .int r_48), (5, .int x5), (8, .int (f_Md_kindOf d x7)), (0, .ref (ad 16)), (1, .int x1), (3, .int x3), (4, .int x4), (6, .int x6)]) hx hb d_Md_skip_226 hl (by decide) rfl (fun ls hl => ?_)
                  refine lv_goto (tgt := 15) hx hb d_Md_skip_228 (by decide) ?_
                  exact ih v_48 x1 x3 x4 x5 x6 r_48 (sk_next (d1 := (TMd_set_skipped d y_46)) hc.1.1 hc.1.2.1 hc.1.2.2 (sk_mu hc.2.1 c_1) hw_48) he _ _ hP hD hS _ (lv_sub hl [3, 4, 5, 6, 1, 7, 0] rfl)
                · have he := he.trans (if_neg c_47)
                  exact False.elim (c_47 (by rw [c_1]; decide))
              · have he := he.trans (if_pos c_45)
                refine lv_iload hx hb d_Md_skip_86 (lv_at hl 5 rfl) ?_
                refine lv_iconst (v := 1) hx hb d_Md_skip_88 (by decide) ?_
                refine lv_isub hx hb d_Md_skip_89 ?_
                refine lv_goto (tgt := 95) hx hb d_Md_skip_90 (by decide) ?_
                refine lv_istore (lv' := [(5, .int (x5 - 1)), (8, .int (f_Md_kindOf d x7)), (0, .ref (ad 16)), (1, .int x1), (3, .int x3), (4, .int x4), (6, .int x6), (7, .int x7)]) hx hb d_Md_skip_95 hl (by decide) rfl (fun ls hl => ?_)
                refine lv_aload_n hx hb d_Md_skip_97 rfl (lv_at hl 2 rfl) ?_
                refine lv_dup hx hb d_Md_skip_98 rfl ?_
                refine va_get (D := (dC, dI)) (ci := 4) (v := .int (TMd_skipped d)) (C := R_Md) (T := T_Md) (N := 23) hx hb ht i_Md hown hK hP 0 rfl rfl 18 (by decide) (ht _ q_463) (fun _ h9 => h9) rfl d_Md_skip_99 ?_
                refine lv_iconst (v := 1) hx hb d_Md_skip_102 (by decide) ?_
                refine lv_iadd hx hb d_Md_skip_103 ?_
                refine lv_topi (fun y_49 ey_49 => ?_)
                rw [← ey_49] at he
                try dsimp only at he
                refine va_put (D := (dC, dI)) (ci := 4) (v := .int y_49) (ty := .int) (C := R_Md) (T := T_Md) (N := 23) hx hb ht i_Md ty_Md ty_Md_ok nm_Md hown hK hP hD hS 0 rfl rfl 18 (by decide) (ht _ q_463) (fun _ h9 => h9) rfl (by decide +kernel) rfl rfl (Nat.le_of_ble_eq_true rfl) d_Md_skip_104 (fun H locs hP hD hS => ?_)
                have hP : va_P (dC, dI) vwCl (w_M ad ca (TMd_set_skipped d y_49)) H := hP
                have hD : va_D A (w_M ad ca (TMd_set_skipped d y_49)) := hD
                refine lv_goto (tgt := 211) hx hb d_Md_skip_107 (by decide) ?_
                refine lv_aload_n hx hb d_Md_skip_211 rfl (lv_at hl 2 rfl) ?_
                refine va_get (D := (dC, dI)) (ci := 4) (v := .int (TMd_fault d)) (C := R_Md) (T := T_Md) (N := 23) hx hb ht i_Md hown hK hP 0 rfl rfl 13 (by decide) (ht _ q_458) (fun _ h9 => h9) rfl d_Md_skip_212 ?_
                refine lv_if_le (tgt := 222) hx hb d_Md_skip_215 (by decide) (fun c_50 => ?_) (fun c_50 => ?_)
                · have he := he.trans (if_pos c_50)
                  refine lv_aload_n hx hb d_Md_skip_222 rfl (lv_at hl 2 rfl) ?_
                  refine wx_ci (wS := fun v : TMd => w_M ad ca v) (ws2 := fun v : TMd => w_M ad ca v) (va_runV (As := []) (rest := []) ⟨hx, hb, hml, hown, ht⟩ (c_Md_need l dC dI ad ca H.size (TMd_set_skipped d y_49) ⟨hc.1.1, hc.1.2.1⟩ _ rfl) (cwV 0 ht (tb_V q_599 q_601 q_33 q_47 q_602) rfl rfl rfl p_Md_need ⟨show 2 + 1 ≤ 3 by omega, show 8 + (2 + 11) + 42 ≤ 63 by omega⟩) (wx_preV (wc := (w_M ad ca (TMd_set_skipped d y_49))) hN hK hP hD [0, 1, 2, 3, 4, 5, 6, 7, 8, 9, 10, 11] [0, 1, 2, 3, 4, 5, 6, 7, 8, 9, 10] rfl (by decide) rfl (ci := 4) (q0 := 0) rfl rfl) rfl rfl hl.1 rfl (lv_room (Nat.le_of_ble_eq_true rfl)) d_Md_skip_223 ⟨Nat.zero_le _, Nat.zero_le _⟩) hP hD hS hA [0, 1, 2, 3, 4, 5, 6, 7, 8, 9, 10, 11] [] [0, 1, 2, 3, 4, 5, 6, 7, 8, 9, 10, 11] rfl rfl (by decide) (by decide) (by decide) (fun _ => rfl) (fun r_51 v_51 H locs hw_51 hP hD hS => ?_)
                  have hP : va_P (dC, dI) vwCl (w_M ad ca v_51) H := hP
                  have hD : va_D A (w_M ad ca v_51) := hD
                  rw [← hw_51] at he
                  try dsimp only at he
                  refine lv_istore (lv' := [(7, .int r_51), (5, .int (x5 - 1)), (8, .int (f_Md_kindOf d x7)), (0, .ref (ad 16)), (1, .int x1), (3, .int x3), (4, .int x4), (6, .int x6)]) hx hb d_Md_skip_226 hl (by decide) rfl (fun ls hl => ?_)
                  refine lv_goto (tgt := 15) hx hb d_Md_skip_228 (by decide) ?_
                  exact ih v_51 x1 x3 x4 (x5 - 1) x6 r_51 (sk_next (d1 := (TMd_set_skipped d y_49)) hc.1.1 hc.1.2.1 hc.1.2.2 (sk_mu hc.2.1 c_1) hw_51) he _ _ hP hD hS _ (lv_sub hl [3, 4, 5, 6, 1, 7, 0] rfl)
                · have he := he.trans (if_neg c_50)
                  exact False.elim (c_50 (by rw [c_1]; decide))
        · have he := he.trans (if_pos c_4)
          refine lv_iinc (v := (x5 + 1)) (lv' := [(5, .int (x5 + 1)), (8, .int (f_Md_kindOf d x7)), (0, .ref (ad 16)), (1, .int x1), (3, .int x3), (4, .int x4), (6, .int x6), (7, .int x7)]) hx hb d_Md_skip_51 hl (k := 5) rfl rfl (by decide) rfl (fun ls hl => ?_)
          refine lv_aload_n hx hb d_Md_skip_54 rfl (lv_at hl 2 rfl) ?_
          refine lv_dup hx hb d_Md_skip_55 rfl ?_
          refine va_get (D := (dC, dI)) (ci := 4) (v := .int (TMd_skipped d)) (C := R_Md) (T := T_Md) (N := 23) hx hb ht i_Md hown hK hP 0 rfl rfl 18 (by decide) (ht _ q_463) (fun _ h9 => h9) rfl d_Md_skip_56 ?_
          refine lv_iconst (v := 1) hx hb d_Md_skip_59 (by decide) ?_
          refine lv_iadd hx hb d_Md_skip_60 ?_
          refine lv_topi (fun y_52 ey_52 => ?_)
          rw [← ey_52] at he
          try dsimp only at he
          refine va_put (D := (dC, dI)) (ci := 4) (v := .int y_52) (ty := .int) (C := R_Md) (T := T_Md) (N := 23) hx hb ht i_Md ty_Md ty_Md_ok nm_Md hown hK hP hD hS 0 rfl rfl 18 (by decide) (ht _ q_463) (fun _ h9 => h9) rfl (by decide +kernel) rfl rfl (Nat.le_of_ble_eq_true rfl) d_Md_skip_61 (fun H locs hP hD hS => ?_)
          have hP : va_P (dC, dI) vwCl (w_M ad ca (TMd_set_skipped d y_52)) H := hP
          have hD : va_D A (w_M ad ca (TMd_set_skipped d y_52)) := hD
          refine lv_goto (tgt := 211) hx hb d_Md_skip_64 (by decide) ?_
          refine lv_aload_n hx hb d_Md_skip_211 rfl (lv_at hl 2 rfl) ?_
          refine va_get (D := (dC, dI)) (ci := 4) (v := .int (TMd_fault d)) (C := R_Md) (T := T_Md) (N := 23) hx hb ht i_Md hown hK hP 0 rfl rfl 13 (by decide) (ht _ q_458) (fun _ h9 => h9) rfl d_Md_skip_212 ?_
          refine lv_if_le (tgt := 222) hx hb d_Md_skip_215 (by decide) (fun c_53 => ?_) (fun c_53 => ?_)
          · have he := he.trans (if_pos c_53)
            refine lv_aload_n hx hb d_Md_skip_222 rfl (lv_at hl 2 rfl) ?_
            refine wx_ci (wS := fun v : TMd => w_M ad ca v) (ws2 := fun v : TMd => w_M ad ca v) (va_runV (As := []) (rest := []) ⟨hx, hb, hml, hown, ht⟩ (c_Md_need l dC dI ad ca H.size (TMd_set_skipped d y_52) ⟨hc.1.1, hc.1.2.1⟩ _ rfl) (cwV 0 ht (tb_V q_599 q_601 q_33 q_47 q_602) rfl rfl rfl p_Md_need ⟨show 2 + 1 ≤ 3 by omega, show 8 + (2 + 11) + 42 ≤ 63 by omega⟩) (wx_preV (wc := (w_M ad ca (TMd_set_skipped d y_52))) hN hK hP hD [0, 1, 2, 3, 4, 5, 6, 7, 8, 9, 10, 11] [0, 1, 2, 3, 4, 5, 6, 7, 8, 9, 10] rfl (by decide) rfl (ci := 4) (q0 := 0) rfl rfl) rfl rfl hl.1 rfl (lv_room (Nat.le_of_ble_eq_true rfl)) d_Md_skip_223 ⟨Nat.zero_le _, Nat.zero_le _⟩) hP hD hS hA [0, 1, 2, 3, 4, 5, 6, 7, 8, 9, 10, 11] [] [0, 1, 2, 3, 4, 5, 6, 7, 8, 9, 10, 11] rfl rfl (by decide) (by decide) (by decide) (fun _ => rfl) (fun r_54 v_54 H locs hw_54 hP hD hS => ?_)
            have hP : va_P (dC, dI) vwCl (w_M ad ca v_54) H := hP
            have hD : va_D A (w_M ad ca v_54) := hD
            rw [← hw_54] at he
            try dsimp only at he
            refine lv_istore (lv' := [(7, .int r_54), (5, .int (x5 + 1)), (8, .int (f_Md_kindOf d x7)), (0, .ref (ad 16)), (1, .int x1), (3, .int x3), (4, .int x4), (6, .int x6)]) hx hb d_Md_skip_226 hl (by decide) rfl (fun ls hl => ?_)
            refine lv_goto (tgt := 15) hx hb d_Md_skip_228 (by decide) ?_
            exact ih v_54 x1 x3 x4 (x5 + 1) x6 r_54 (sk_next (d1 := (TMd_set_skipped d y_52)) hc.1.1 hc.1.2.1 hc.1.2.2 (sk_mu hc.2.1 c_1) hw_54) he _ _ hP hD hS _ (lv_sub hl [3, 4, 5, 6, 1, 7, 0] rfl)
          · have he := he.trans (if_neg c_53)
            exact False.elim (c_53 (by rw [c_1]; decide))
      · have he := he.trans (if_pos c_3)
        refine lv_aload_n hx hb d_Md_skip_36 rfl (lv_at hl 1 rfl) ?_
        refine lv_bipush (v := 7) hx hb d_Md_skip_37 (by decide) ?_
        refine wx_cv (wS := fun v : TMd => w_M ad ca v) (ws2 := fun v : TMd => w_M ad ca v) (va_runV (As := [.int 7]) (rest := []) ⟨hx, hb, hml, hown, ht⟩ (c_Md_fail l dC dI ad ca H.size d 7 _ rfl) (cwV 1 ht (tb_V q_571 q_573 q_26 q_47 q_574) rfl rfl rfl p_Md_fail ⟨show 0 + 1 ≤ 3 by omega, show 8 + (2 + 11) + 0 ≤ 63 by omega⟩) (wx_preV (wc := (w_M ad ca d)) hN hK hP hD [0, 1, 2, 3, 4, 5, 6, 7, 8, 9, 10, 11] [0, 1, 2, 3, 4, 5, 6, 7, 8, 9, 10] rfl (by decide) rfl (ci := 4) (q0 := 0) rfl rfl) rfl rfl hl.1 rfl (lv_room (Nat.le_of_ble_eq_true rfl)) d_Md_skip_39 ⟨Nat.zero_le _, Nat.zero_le _⟩) hP hD hS hA [0, 1, 2, 3, 4, 5, 6, 7, 8, 9, 10, 11] [] [0, 1, 2, 3, 4, 5, 6, 7, 8, 9, 10, 11] rfl rfl (by decide) (by decide) (by decide) (fun _ => rfl) (fun v_55 H locs hw_55 hP hD hS => ?_)
        have hP : va_P (dC, dI) vwCl (w_M ad ca v_55) H := hP
        have hD : va_D A (w_M ad ca v_55) := hD
        rw [← hw_55] at he
        try dsimp only at he
        refine lv_goto (tgt := 211) hx hb d_Md_skip_42 (by decide) ?_
        refine lv_aload_n hx hb d_Md_skip_211 rfl (lv_at hl 1 rfl) ?_
        refine va_get (D := (dC, dI)) (ci := 4) (v := .int (TMd_fault v_55)) (C := R_Md) (T := T_Md) (N := 23) hx hb ht i_Md hown hK hP 0 rfl rfl 13 (by decide) (ht _ q_458) (fun _ h9 => h9) rfl d_Md_skip_212 ?_
        refine lv_if_le (tgt := 222) hx hb d_Md_skip_215 (by decide) (fun c_56 => ?_) (fun c_56 => ?_)
        · have he := he.trans (if_pos c_56)
          exact False.elim (sk_fp hw_55 (by decide) hc.1.2.1 c_56)
        · have he := he.trans (if_neg c_56)
          refine lv_iconst (v := (-1)) hx hb d_Md_skip_218 (by decide) ?_
          refine lv_goto (tgt := 226) hx hb d_Md_skip_219 (by decide) ?_
          refine lv_istore (lv' := [(7, .int (-1)), (8, .int (f_Md_kindOf d x7)), (0, .ref (ad 16)), (1, .int x1), (3, .int x3), (4, .int x4), (5, .int x5), (6, .int x6)]) hx hb d_Md_skip_226 hl (by decide) rfl (fun ls hl => ?_)
          refine lv_goto (tgt := 15) hx hb d_Md_skip_228 (by decide) ?_
          exact ih v_55 x1 x3 x4 x5 x6 (-1) (sk_fail hw_55 (by decide) hc.1.1 hc.1.2.1 hc.1.2.2 (sk_mu hc.2.1 c_1)) he _ _ hP hD hS _ (lv_sub hl [2, 3, 4, 5, 6, 7, 0] rfl)
noncomputable def f_Md_skip (d : TMd) (p0 : Int32) (p1 : Int32) (p2 : Int32) : TMd := (match f_Md_need d with | (r_1, v_1) => (f_Md_skip_15 TM v_1 p0 p2 p1 0 0 r_1))
set_option maxHeartbeats 4000000 in
set_option maxRecDepth 100000 in
theorem c_Md_skip (l : Launch) (dC : Nat → ClassId) (dI : Nat → Nat → Nat) (ad : Nat → Nat) (ca : Nat → ClassId) (sz : Nat) (d : TMd) (p0 : Int32) (p1 : Int32) (p2 : Int32) (hpre : MdS d ∧ MdP d ∧ 0 < (TMd_open d).toInt) (F : TMd) (he : F = f_Md_skip d p0 p1 p2) : wx_Mv l y_Md_skip ws_Md_skip ({ frames := 3, cells := 0, slots := 0, locals := 63 } : Room) (dC, dI) vwCl (t_M ca) [.ref (ad 16), .int p0, .int p1, .int p2] (w_M ad ca d) sz (fun v : TMd => w_M ad ca v) (fun v : TMd => v = F) := by
  refine Met.ofW (cc := b_Md_skip) (maxL := 9) (ret := none) (by decide) rfl ?_
  intro p e s m args below meth c s₁ B hml hv
  obtain ⟨rfl, hsz, hP, hK, hD0, hN⟩ := hv
  have hx := B.exec
  have hb := B.bytes
  have hr := B.returns
  have hts := atoms_spec (ws := ws_Md_skip) B.pre
  have ht : ∀ w ∈ TB, w.before _ s = true := fun w h => hts w (List.mem_cons_of_mem _ h)
  have hown : s.vm.findClass R_Md = some m.cls := findClass_of_methodNamed B.named
  have hlocks := B.notSynchronized
  subst hsz
  have hD := hD0.self (sz := s.heap.size)
  generalize hAe : va_A (w_M ad ca d) s.heap.size = A at hD ⊢
  have hA : ∀ q : Nat, s.heap.size ≤ q → A q := fun q h => by rw [← hAe]; exact Or.inr h
  have hS : va_S A s.heap s.heap [] := va_S.rf
  have C0 : wx_C p s m ([.ref (ad 16), .int p0, .int p1, .int p2] : List Value).toArray meth c b_Md_skip (none) 9 R_Md A (dC, dI) vwCl (t_M ca) := ⟨hx, hb, hr, hml, hown, ht, hlocks, hA, hK, hN⟩
  have hl := lv_entry ([.ref (ad 16), .int p0, .int p1, .int p2]) (n := 9) (Nat.le_of_ble_eq_true rfl)
  rw [lg_entry_eq]
  generalize (lg_sl ([.ref (ad 16), .int p0, .int p1, .int p2]) ++ List.replicate (9 - (lg_sl ([.ref (ad 16), .int p0, .int p1, .int p2])).length) Slot.unset).toArray = ls at hl ⊢
  have hl : lv_has ls 9 [(0, .ref (ad 16)), (1, .int p0), (2, .int p1), (3, .int p2)] := hl
  unfold f_Md_skip at he
  refine lv_iload_n hx hb d_Md_skip_0 rfl (lv_at hl 2 rfl) ?_
  refine lv_istore (lv' := [(4, .int p1), (0, .ref (ad 16)), (1, .int p0), (2, .int p1), (3, .int p2)]) hx hb d_Md_skip_1 hl (by decide) rfl (fun ls hl => ?_)
  refine lv_iconst (v := 0) hx hb d_Md_skip_3 (by decide) ?_
  refine lv_istore (lv' := [(5, .int 0), (4, .int p1), (0, .ref (ad 16)), (1, .int p0), (2, .int p1), (3, .int p2)]) hx hb d_Md_skip_4 hl (by decide) rfl (fun ls hl => ?_)
  refine lv_iconst (v := 0) hx hb d_Md_skip_6 (by decide) ?_
  refine lv_istore (lv' := [(6, .int 0), (5, .int 0), (4, .int p1), (0, .ref (ad 16)), (1, .int p0), (2, .int p1), (3, .int p2)]) hx hb d_Md_skip_7 hl (by decide) rfl (fun ls hl => ?_)
  refine lv_aload_n hx hb d_Md_skip_9 rfl (lv_at hl 3 rfl) ?_
  refine wx_ci (wS := fun v : TMd => w_M ad ca v) (ws2 := fun v : TMd => w_M ad ca v) (va_runV (As := []) (rest := []) ⟨hx, hb, hml, hown, ht⟩ (c_Md_need l dC dI ad ca s.heap.size d ⟨hpre.1, hpre.2.1⟩ _ rfl) (cwV 0 ht (tb_V q_599 q_601 q_33 q_47 q_602) rfl rfl rfl p_Md_need ⟨show 2 + 1 ≤ 3 by omega, show 8 + (2 + 11) + 42 ≤ 63 by omega⟩) (wx_preV (wc := (w_M ad ca d)) hN hK hP hD [0, 1, 2, 3, 4, 5, 6, 7, 8, 9, 10, 11] [0, 1, 2, 3, 4, 5, 6, 7, 8, 9, 10] rfl (by decide) rfl (ci := 4) (q0 := 0) rfl rfl) rfl rfl hl.1 rfl (lv_room (Nat.le_of_ble_eq_true rfl)) d_Md_skip_10 ⟨Nat.zero_le _, Nat.zero_le _⟩) hP hD hS hA [0, 1, 2, 3, 4, 5, 6, 7, 8, 9, 10, 11] [] [0, 1, 2, 3, 4, 5, 6, 7, 8, 9, 10, 11] rfl rfl (by decide) (by decide) (by decide) (fun _ => rfl) (fun r_1 v_1 H locs hw_1 hP hD hS => ?_)
  have hP : va_P (dC, dI) vwCl (w_M ad ca v_1) H := hP
  have hD : va_D A (w_M ad ca v_1) := hD
  rw [← hw_1] at he
  try dsimp only at he
  refine lv_istore (lv' := [(7, .int r_1), (6, .int 0), (5, .int 0), (4, .int p1), (0, .ref (ad 16)), (1, .int p0), (2, .int p1), (3, .int p2)]) hx hb d_Md_skip_13 hl (by decide) rfl (fun ls hl => ?_)
  exact k_Md_skip_15 l dC dI ad ca C0 F TM v_1 p0 p2 p1 0 0 r_1 (sk_next hpre.1 hpre.2.1 hpre.2.2 (by have h := mu_0 hpre.2.1; rw [TM_eq]; omega) hw_1) he _ _ hP hD hS _ (lv_sub hl [4, 5, 7, 3, 2, 1, 0] rfl)
