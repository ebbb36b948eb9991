theorem d_Md_run_0 : decode b_Md_run 0 = .ok (.aload_n 0, 1) := by decide +kernel
theorem d_Md_run_1 : decode b_Md_run 1 = .ok (.iconst 0, 1) := by decide +kernel
theorem d_Md_run_2 : decode b_Md_run 2 = .ok (.putfield 44, 3) := by decide +kernel
theorem d_Md_run_5 : decode b_Md_run 5 = .ok (.aload_n 0, 1) := by decide +kernel
theorem d_Md_run_6 : decode b_Md_run 6 = .ok (.getfield 29, 3) := by decide +kernel
theorem d_Md_run_9 : decode b_Md_run 9 = .ok (.iconst 0, 1) := by decide +kernel
theorem d_Md_run_10 : decode b_Md_run 10 = .ok (.bipush 20, 2) := by decide +kernel
theorem d_Md_run_12 : decode b_Md_run 12 = .ok (.iastore, 1) := by decide +kernel
theorem d_Md_run_13 : decode b_Md_run 13 = .ok (.aload_n 0, 1) := by decide +kernel
theorem d_Md_run_14 : decode b_Md_run 14 = .ok (.getfield 32, 3) := by decide +kernel
theorem d_Md_run_17 : decode b_Md_run 17 = .ok (.iconst 0, 1) := by decide +kernel
theorem d_Md_run_18 : decode b_Md_run 18 = .ok (.iconst 0, 1) := by decide +kernel
theorem d_Md_run_19 : decode b_Md_run 19 = .ok (.iastore, 1) := by decide +kernel
theorem d_Md_run_20 : decode b_Md_run 20 = .ok (.aload_n 0, 1) := by decide +kernel
theorem d_Md_run_21 : decode b_Md_run 21 = .ok (.iconst 1, 1) := by decide +kernel
theorem d_Md_run_22 : decode b_Md_run 22 = .ok (.putfield 78, 3) := by decide +kernel
theorem d_Md_run_25 : decode b_Md_run 25 = .ok (.aload_n 0, 1) := by decide +kernel
theorem d_Md_run_26 : decode b_Md_run 26 = .ok (.iconst (-1), 1) := by decide +kernel
theorem d_Md_run_27 : decode b_Md_run 27 = .ok (.putfield 75, 3) := by decide +kernel
theorem d_Md_run_30 : decode b_Md_run 30 = .ok (.aload_n 0, 1) := by decide +kernel
theorem d_Md_run_31 : decode b_Md_run 31 = .ok (.iconst 0, 1) := by decide +kernel
theorem d_Md_run_32 : decode b_Md_run 32 = .ok (.putfield 81, 3) := by decide +kernel
theorem d_Md_run_35 : decode b_Md_run 35 = .ok (.aload_n 0, 1) := by decide +kernel
theorem d_Md_run_36 : decode b_Md_run 36 = .ok (.iconst 0, 1) := by decide +kernel
theorem d_Md_run_37 : decode b_Md_run 37 = .ok (.putfield 72, 3) := by decide +kernel
theorem d_Md_run_40 : decode b_Md_run 40 = .ok (.aload_n 0, 1) := by decide +kernel
theorem d_Md_run_41 : decode b_Md_run 41 = .ok (.iconst 0, 1) := by decide +kernel
theorem d_Md_run_42 : decode b_Md_run 42 = .ok (.putfield 151, 3) := by decide +kernel
theorem d_Md_run_45 : decode b_Md_run 45 = .ok (.aload_n 0, 1) := by decide +kernel
theorem d_Md_run_46 : decode b_Md_run 46 = .ok (.iconst 0, 1) := by decide +kernel
theorem d_Md_run_47 : decode b_Md_run 47 = .ok (.putfield 134, 3) := by decide +kernel
theorem d_Md_run_50 : decode b_Md_run 50 = .ok (.aload_n 0, 1) := by decide +kernel
theorem d_Md_run_51 : decode b_Md_run 51 = .ok (.iconst 0, 1) := by decide +kernel
theorem d_Md_run_52 : decode b_Md_run 52 = .ok (.putfield 137, 3) := by decide +kernel
theorem d_Md_run_55 : decode b_Md_run 55 = .ok (.aload_n 0, 1) := by decide +kernel
theorem d_Md_run_56 : decode b_Md_run 56 = .ok (.iconst 0, 1) := by decide +kernel
theorem d_Md_run_57 : decode b_Md_run 57 = .ok (.putfield 148, 3) := by decide +kernel
theorem d_Md_run_60 : decode b_Md_run 60 = .ok (.aload_n 0, 1) := by decide +kernel
theorem d_Md_run_61 : decode b_Md_run 61 = .ok (.iconst 0, 1) := by decide +kernel
theorem d_Md_run_62 : decode b_Md_run 62 = .ok (.putfield 104, 3) := by decide +kernel
theorem d_Md_run_65 : decode b_Md_run 65 = .ok (.iconst 0, 1) := by decide +kernel
theorem d_Md_run_66 : decode b_Md_run 66 = .ok (.istore_n 1, 1) := by decide +kernel
theorem d_Md_run_67 : decode b_Md_run 67 = .ok (.iload_n 1, 1) := by decide +kernel
theorem d_Md_run_68 : decode b_Md_run 68 = .ok (.bipush 100, 2) := by decide +kernel
theorem d_Md_run_70 : decode b_Md_run 70 = .ok (.if_icmp .ge 17, 3) := by decide +kernel
theorem d_Md_run_73 : decode b_Md_run 73 = .ok (.aload_n 0, 1) := by decide +kernel
theorem d_Md_run_74 : decode b_Md_run 74 = .ok (.getfield 38, 3) := by decide +kernel
theorem d_Md_run_77 : decode b_Md_run 77 = .ok (.iload_n 1, 1) := by decide +kernel
theorem d_Md_run_78 : decode b_Md_run 78 = .ok (.bipush (-5), 2) := by decide +kernel
theorem d_Md_run_80 : decode b_Md_run 80 = .ok (.iastore, 1) := by decide +kernel
theorem d_Md_run_81 : decode b_Md_run 81 = .ok (.iinc 1 1, 3) := by decide +kernel
theorem d_Md_run_84 : decode b_Md_run 84 = .ok (.goto (-17), 3) := by decide +kernel
theorem d_Md_run_87 : decode b_Md_run 87 = .ok (.aload_n 0, 1) := by decide +kernel
theorem d_Md_run_88 : decode b_Md_run 88 = .ok (.iconst 1, 1) := by decide +kernel
theorem d_Md_run_89 : decode b_Md_run 89 = .ok (.putfield 154, 3) := by decide +kernel
theorem d_Md_run_92 : decode b_Md_run 92 = .ok (.aload_n 0, 1) := by decide +kernel
theorem d_Md_run_93 : decode b_Md_run 93 = .ok (.invokevirtual 88, 3) := by decide +kernel
theorem d_Md_run_96 : decode b_Md_run 96 = .ok (.istore_n 1, 1) := by decide +kernel
theorem d_Md_run_97 : decode b_Md_run 97 = .ok (.iload_n 1, 1) := by decide +kernel
theorem d_Md_run_98 : decode b_Md_run 98 = .ok (.ifCond .lt 129, 3) := by decide +kernel
theorem d_Md_run_101 : decode b_Md_run 101 = .ok (.aload_n 0, 1) := by decide +kernel
theorem d_Md_run_102 : decode b_Md_run 102 = .ok (.getfield 72, 3) := by decide +kernel
theorem d_Md_run_105 : decode b_Md_run 105 = .ok (.ifCond .ne 122, 3) := by decide +kernel
theorem d_Md_run_108 : decode b_Md_run 108 = .ok (.aload_n 0, 1) := by decide +kernel
theorem d_Md_run_109 : decode b_Md_run 109 = .ok (.iload_n 1, 1) := by decide +kernel
theorem d_Md_run_110 : decode b_Md_run 110 = .ok (.invokevirtual 61, 3) := by decide +kernel
theorem d_Md_run_113 : decode b_Md_run 113 = .ok (.istore_n 2, 1) := by decide +kernel
theorem d_Md_run_114 : decode b_Md_run 114 = .ok (.aload_n 0, 1) := by decide +kernel
theorem d_Md_run_115 : decode b_Md_run 115 = .ok (.iload_n 1, 1) := by decide +kernel
theorem d_Md_run_116 : decode b_Md_run 116 = .ok (.invokevirtual 95, 3) := by decide +kernel
theorem d_Md_run_119 : decode b_Md_run 119 = .ok (.ifCond .eq 11, 3) := by decide +kernel
theorem d_Md_run_122 : decode b_Md_run 122 = .ok (.aload_n 0, 1) := by decide +kernel
theorem d_Md_run_123 : decode b_Md_run 123 = .ok (.iload_n 1, 1) := by decide +kernel
theorem d_Md_run_124 : decode b_Md_run 124 = .ok (.invokevirtual 98, 3) := by decide +kernel
theorem d_Md_run_127 : decode b_Md_run 127 = .ok (.goto 92, 3) := by decide +kernel
theorem d_Md_run_130 : decode b_Md_run 130 = .ok (.iload_n 2, 1) := by decide +kernel
theorem d_Md_run_131 : decode b_Md_run 131 = .ok (.iconst 5, 1) := by decide +kernel
theorem d_Md_run_132 : decode b_Md_run 132 = .ok (.if_icmp .ne 15, 3) := by decide +kernel
theorem d_Md_run_135 : decode b_Md_run 135 = .ok (.aload_n 0, 1) := by decide +kernel
theorem d_Md_run_136 : decode b_Md_run 136 = .ok (.aload_n 0, 1) := by decide +kernel
theorem d_Md_run_137 : decode b_Md_run 137 = .ok (.iload_n 1, 1) := by decide +kernel
theorem d_Md_run_138 : decode b_Md_run 138 = .ok (.invokevirtual 65, 3) := by decide +kernel
theorem d_Md_run_141 : decode b_Md_run 141 = .ok (.invokevirtual 101, 3) := by decide +kernel
theorem d_Md_run_144 : decode b_Md_run 144 = .ok (.goto 75, 3) := by decide +kernel
theorem d_Md_run_147 : decode b_Md_run 147 = .ok (.iload_n 2, 1) := by decide +kernel
theorem d_Md_run_148 : decode b_Md_run 148 = .ok (.iconst 5, 1) := by decide +kernel
theorem d_Md_run_149 : decode b_Md_run 149 = .ok (.if_icmp .le 18, 3) := by decide +kernel
theorem d_Md_run_152 : decode b_Md_run 152 = .ok (.aload_n 0, 1) := by decide +kernel
theorem d_Md_run_153 : decode b_Md_run 153 = .ok (.getfield 104, 3) := by decide +kernel
theorem d_Md_run_156 : decode b_Md_run 156 = .ok (.ifCond .ne 11, 3) := by decide +kernel
theorem d_Md_run_159 : decode b_Md_run 159 = .ok (.aload_n 0, 1) := by decide +kernel
theorem d_Md_run_160 : decode b_Md_run 160 = .ok (.iconst 2, 1) := by decide +kernel
theorem d_Md_run_161 : decode b_Md_run 161 = .ok (.invokevirtual 84, 3) := by decide +kernel
theorem d_Md_run_164 : decode b_Md_run 164 = .ok (.goto 55, 3) := by decide +kernel
theorem d_Md_run_167 : decode b_Md_run 167 = .ok (.iload_n 2, 1) := by decide +kernel
theorem d_Md_run_168 : decode b_Md_run 168 = .ok (.iconst 5, 1) := by decide +kernel
theorem d_Md_run_169 : decode b_Md_run 169 = .ok (.if_icmp .le 11, 3) := by decide +kernel
theorem d_Md_run_172 : decode b_Md_run 172 = .ok (.aload_n 0, 1) := by decide +kernel
theorem d_Md_run_173 : decode b_Md_run 173 = .ok (.iload_n 2, 1) := by decide +kernel
theorem d_Md_run_174 : decode b_Md_run 174 = .ok (.invokevirtual 106, 3) := by decide +kernel
theorem d_Md_run_177 : decode b_Md_run 177 = .ok (.goto 42, 3) := by decide +kernel
theorem d_Md_run_180 : decode b_Md_run 180 = .ok (.aload_n 0, 1) := by decide +kernel
theorem d_Md_run_181 : decode b_Md_run 181 = .ok (.getfield 151, 3) := by decide +kernel
theorem d_Md_run_184 : decode b_Md_run 184 = .ok (.sipush 300, 3) := by decide +kernel
theorem d_Md_run_187 : decode b_Md_run 187 = .ok (.if_icmp .ne 12, 3) := by decide +kernel
theorem d_Md_run_190 : decode b_Md_run 190 = .ok (.aload_n 0, 1) := by decide +kernel
theorem d_Md_run_191 : decode b_Md_run 191 = .ok (.bipush 9, 2) := by decide +kernel
theorem d_Md_run_193 : decode b_Md_run 193 = .ok (.invokevirtual 84, 3) := by decide +kernel
theorem d_Md_run_196 : decode b_Md_run 196 = .ok (.goto 23, 3) := by decide +kernel
theorem d_Md_run_199 : decode b_Md_run 199 = .ok (.aload_n 0, 1) := by decide +kernel
theorem d_Md_run_200 : decode b_Md_run 200 = .ok (.getfield 35, 3) := by decide +kernel
theorem d_Md_run_203 : decode b_Md_run 203 = .ok (.aload_n 0, 1) := by decide +kernel
theorem d_Md_run_204 : decode b_Md_run 204 = .ok (.getfield 151, 3) := by decide +kernel
theorem d_Md_run_207 : decode b_Md_run 207 = .ok (.iload_n 1, 1) := by decide +kernel
theorem d_Md_run_208 : decode b_Md_run 208 = .ok (.iastore, 1) := by decide +kernel
theorem d_Md_run_209 : decode b_Md_run 209 = .ok (.aload_n 0, 1) := by decide +kernel
theorem d_Md_run_210 : decode b_Md_run 210 = .ok (.dup, 1) := by decide +kernel
theorem d_Md_run_211 : decode b_Md_run 211 = .ok (.getfield 151, 3) := by decide +kernel
theorem d_Md_run_214 : decode b_Md_run 214 = .ok (.iconst 1, 1) := by decide +kernel
theorem d_Md_run_215 : decode b_Md_run 215 = .ok (.iadd, 1) := by decide +kernel
theorem d_Md_run_216 : decode b_Md_run 216 = .ok (.putfield 151, 3) := by decide +kernel
theorem d_Md_run_219 : decode b_Md_run 219 = .ok (.aload_n 0, 1) := by decide +kernel
theorem d_Md_run_220 : decode b_Md_run 220 = .ok (.invokevirtual 88, 3) := by decide +kernel
theorem d_Md_run_223 : decode b_Md_run 223 = .ok (.istore_n 1, 1) := by decide +kernel
theorem d_Md_run_224 : decode b_Md_run 224 = .ok (.goto (-127), 3) := by decide +kernel
theorem d_Md_run_227 : decode b_Md_run 227 = .ok (.aload_n 0, 1) := by decide +kernel
theorem d_Md_run_228 : decode b_Md_run 228 = .ok (.getfield 72, 3) := by decide +kernel
theorem d_Md_run_231 : decode b_Md_run 231 = .ok (.ifCond .ne 15, 3) := by decide +kernel
theorem d_Md_run_234 : decode b_Md_run 234 = .ok (.aload_n 0, 1) := by decide +kernel
theorem d_Md_run_235 : decode b_Md_run 235 = .ok (.getfield 104, 3) := by decide +kernel
theorem d_Md_run_238 : decode b_Md_run 238 = .ok (.ifCond .le 8, 3) := by decide +kernel
theorem d_Md_run_241 : decode b_Md_run 241 = .ok (.aload_n 0, 1) := by decide +kernel
theorem d_Md_run_242 : decode b_Md_run 242 = .ok (.iconst 1, 1) := by decide +kernel
theorem d_Md_run_243 : decode b_Md_run 243 = .ok (.invokevirtual 84, 3) := by decide +kernel
theorem d_Md_run_246 : decode b_Md_run 246 = .ok (.aload_n 0, 1) := by decide +kernel
theorem d_Md_run_247 : decode b_Md_run 247 = .ok (.getfield 72, 3) := by decide +kernel
theorem d_Md_run_250 : decode b_Md_run 250 = .ok (.ifCond .le 11, 3) := by decide +kernel
theorem d_Md_run_253 : decode b_Md_run 253 = .ok (.aload_n 0, 1) := by decide +kernel
theorem d_Md_run_254 : decode b_Md_run 254 = .ok (.getfield 72, 3) := by decide +kernel
theorem d_Md_run_257 : decode b_Md_run 257 = .ok (.ineg, 1) := by decide +kernel
theorem d_Md_run_258 : decode b_Md_run 258 = .ok (.goto 7, 3) := by decide +kernel
theorem d_Md_run_261 : decode b_Md_run 261 = .ok (.aload_n 0, 1) := by decide +kernel
theorem d_Md_run_262 : decode b_Md_run 262 = .ok (.getfield 151, 3) := by decide +kernel
theorem d_Md_run_265 : decode b_Md_run 265 = .ok (.ireturn, 1) := by decide +kernel
noncomputable def f_Md_run_97 (op : TMd → Int32 → TMd) : Nat → TMd → Int32 → (Int32 × TMd)
  | 0, d, _ => (0, d)
  | n + 1, d, x1 => (if x1 < 0 then (if (TMd_fault d) = 0 then (if (TMd_open d) ≤ 0 then (if (TMd_fault d) ≤ 0 then ((TMd_outSize d), d) else ((-(TMd_fault d)), d)) else (let v_6 := f_Md_fail d 1; (if (TMd_fault v_6) ≤ 0 then ((TMd_outSize v_6), v_6) else ((-(TMd_fault v_6)), v_6)))) else (if (TMd_fault d) ≤ 0 then ((TMd_outSize d), d) else ((-(TMd_fault d)), d))) else (if (TMd_fault d) = 0 then (if (f_Md_isMacro d x1) = 0 then (if (f_Md_kindOf d x1) = 5 then (let v_32 := op d (f_Md_valueOf d x1); (match f_Md_next v_32 with | (r_33, v_33) => (f_Md_run_97 op n v_33 r_33))) else (if (f_Md_kindOf d x1) ≤ 5 then (if (TMd_outSize d) = 300 then (let v_23 := f_Md_fail d 9; (match f_Md_next v_23 with | (r_24, v_24) => (f_Md_run_97 op n v_24 r_24))) else (let g_18 := (upd (TMd_out d) (TMd_outSize d).toNatClampNeg x1); (let d_19 := (TMd_set_out d g_18); (let y_20 := ((TMd_outSize d_19) + 1); (let d_21 := (TMd_set_outSize d_19 y_20); (match f_Md_next d_21 with | (r_22, v_22) => (f_Md_run_97 op n v_22 r_22))))))) else (if (TMd_open d) = 0 then (let v_29 := f_Md_fail d 2; (match f_Md_next v_29 with | (r_30, v_30) => (f_Md_run_97 op n v_30 r_30))) else (let v_27 := f_Md_belongs d (f_Md_kindOf d x1); (match f_Md_next v_27 with | (r_28, v_28) => (f_Md_run_97 op n v_28 r_28)))))) else (let v_34 := f_Md_goOnWith d x1; (match f_Md_next v_34 with | (r_35, v_35) => (f_Md_run_97 op n v_35 r_35)))) else (if (TMd_fault d) ≤ 0 then ((TMd_outSize d), d) else ((-(TMd_fault d)), d))))
set_option maxHeartbeats 4000000 in
set_option maxRecDepth 100000 in
theorem k_Md_run_97 {p : Program} {e : Env} {s : State} {m : MethodId} {args : Array Value} {below : List Frame} {meth : Method} {c : Code} {A : Nat → Prop} (l : Launch) (dC : Nat → ClassId) (dI : Nat → Nat → Nat) (ad : Nat → Nat) (ca : Nat → ClassId) (op : TMd → Int32 → TMd) (rf rl : Nat) (k : Int) (hopm : ∀ (d : TMd) (w : Int32), OPP k d → LVS 0 d (op d w)) (hop : ∀ (sz : Nat) (d : TMd) (w : Int32), OPP k d → wx_Mv l y_Md_open ws_Md_open ({ frames := rf, cells := 0, slots := 0, locals := rl } : Room) (dC, dI) vwCl (t_M ca) [.ref (ad 16), .int w] (w_M ad ca d) sz (fun v : TMd => w_M ad ca v) (fun v : TMd => v = op d w)) (C0 : wx_C p s m args meth c b_Md_run (some .int) 3 R_Md A (dC, dI) vwCl (t_M ca)) (F : (Int32 × TMd)) : ∀ (n : Nat) (d : TMd) (x1 : Int32), (RNC k d x1 n) → F = f_Md_run_97 op n d x1 → ∀ (H : Heap) (locs : List Loc), va_P (dC, dI) vwCl (w_M ad ca d) H → va_D A (w_M ad ca d) → va_S A s.heap H locs → ∀ (ls : Array Slot), lv_has ls 3 [(0, .ref (ad 16)), (1, .int x1)] → W p l e ({ frames := rf + 5, cells := 0, slots := 0, locals := rl + 113 } : Room) s m args below meth c H locs 0 0 (MQ below (va_Qi (fun (r : Int32) (v : TMd) => (r, v) = F) (wx_B (dC, dI) vwCl (t_M ca) (fun v : TMd => w_M ad ca v) A) A) args s 0 0 A) (F0 m 97 ls []) := by
  have C1 := C0
  obtain ⟨hx, hb, hr, hml, hown, ht, hlocks, hA, hK, hN⟩ := C1
  intro n
  induction n with
  | zero =>
    intro d x1 hc he
    exact absurd hc (fun h => Nat.lt_irrefl 0 h.2.2.2.2)
  | succ n ih =>
    intro d x1 hc he H locs hP hD hS ls hl
    rw [f_Md_run_97] at he
    refine lv_iload_n hx hb d_Md_run_97 rfl (lv_at hl 1 rfl) ?_
    refine lv_if_lt (tgt := 227) hx hb d_Md_run_98 (by decide) (fun c_1 => ?_) (fun c_1 => ?_)
    · have he := he.trans (if_pos c_1)
      refine lv_aload_n hx hb d_Md_run_227 rfl (lv_at hl 0 rfl) ?_
      refine va_get (D := (dC, dI)) (ci := 4) (v := .int (TMd_fault d)) (C := R_Md) (T := T_Md) (N := 23) hx hb ht i_Md hown hK hP 0 rfl rfl 13 (by decide) (ht _ q_458) (fun _ h9 => h9) rfl d_Md_run_228 ?_
      refine lv_if_ne (tgt := 246) hx hb d_Md_run_231 (by decide) (fun c_2 => ?_) (fun c_2 => ?_)
      · have he := he.trans (if_neg c_2)
        refine lv_aload_n hx hb d_Md_run_246 rfl (lv_at hl 0 rfl) ?_
        refine va_get (D := (dC, dI)) (ci := 4) (v := .int (TMd_fault d)) (C := R_Md) (T := T_Md) (N := 23) hx hb ht i_Md hown hK hP 0 rfl rfl 13 (by decide) (ht _ q_458) (fun _ h9 => h9) rfl d_Md_run_247 ?_
        refine lv_if_le (tgt := 261) hx hb d_Md_run_250 (by decide) (fun c_3 => ?_) (fun c_3 => ?_)
        · have he := he.trans (if_pos c_3)
          refine lv_aload_n hx hb d_Md_run_261 rfl (lv_at hl 0 rfl) ?_
          refine va_get (D := (dC, dI)) (ci := 4) (v := .int (TMd_outSize d)) (C := R_Md) (T := T_Md) (N := 23) hx hb ht i_Md hown hK hP 0 rfl rfl 15 (by decide) (ht _ q_460) (fun _ h9 => h9) rfl d_Md_run_262 ?_
          exact W.iret hx hb hr (v := (TMd_outSize d)) (fun t ht hW => ⟨⟨(TMd_outSize d), d, rfl, he.symm, by rw [ht]; exact hP, va_K.moved hW.alike hK, hD⟩, hS.F ht⟩) hS.2.2 d_Md_run_265
        · have he := he.trans (if_neg c_3)
          refine lv_aload_n hx hb d_Md_run_253 rfl (lv_at hl 0 rfl) ?_
          refine va_get (D := (dC, dI)) (ci := 4) (v := .int (TMd_fault d)) (C := R_Md) (T := T_Md) (N := 23) hx hb ht i_Md hown hK hP 0 rfl rfl 13 (by decide) (ht _ q_458) (fun _ h9 => h9) rfl d_Md_run_254 ?_
          refine lv_ineg hx hb d_Md_run_257 ?_
          refine lv_goto (tgt := 265) hx hb d_Md_run_258 (by decide) ?_
          exact W.iret hx hb hr (v := (-(TMd_fault d))) (fun t ht hW => ⟨⟨(-(TMd_fault d)), d, rfl, he.symm, by rw [ht]; exact hP, va_K.moved hW.alike hK, hD⟩, hS.F ht⟩) hS.2.2 d_Md_run_265
      · have he := he.trans (if_pos c_2)
        refine lv_aload_n hx hb d_Md_run_234 rfl (lv_at hl 0 rfl) ?_
        refine va_get (D := (dC, dI)) (ci := 4) (v := .int (TMd_open d)) (C := R_Md) (T := T_Md) (N := 23) hx hb ht i_Md hown hK hP 0 rfl rfl 21 (by decide) (ht _ q_466) (fun _ h9 => h9) rfl d_Md_run_235 ?_
        refine lv_if_le (tgt := 246) hx hb d_Md_run_238 (by decide) (fun c_4 => ?_) (fun c_4 => ?_)
        · have he := he.trans (if_pos c_4)
          refine lv_aload_n hx hb d_Md_run_246 rfl (lv_at hl 0 rfl) ?_
          refine va_get (D := (dC, dI)) (ci := 4) (v := .int (TMd_fault d)) (C := R_Md) (T := T_Md) (N := 23) hx hb ht i_Md hown hK hP 0 rfl rfl 13 (by decide) (ht _ q_458) (fun _ h9 => h9) rfl d_Md_run_247 ?_
          refine lv_if_le (tgt := 261) hx hb d_Md_run_250 (by decide) (fun c_5 => ?_) (fun c_5 => ?_)
          · have he := he.trans (if_pos c_5)
            refine lv_aload_n hx hb d_Md_run_261 rfl (lv_at hl 0 rfl) ?_
            refine va_get (D := (dC, dI)) (ci := 4) (v := .int (TMd_outSize d)) (C := R_Md) (T := T_Md) (N := 23) hx hb ht i_Md hown hK hP 0 rfl rfl 15 (by decide) (ht _ q_460) (fun _ h9 => h9) rfl d_Md_run_262 ?_
            exact W.iret hx hb hr (v := (TMd_outSize d)) (fun t ht hW => ⟨⟨(TMd_outSize d), d, rfl, he.symm, by rw [ht]; exact hP, va_K.moved hW.alike hK, hD⟩, hS.F ht⟩) hS.2.2 d_Md_run_265
          · have he := he.trans (if_neg c_5)
            refine lv_aload_n hx hb d_Md_run_253 rfl (lv_at hl 0 rfl) ?_
            refine va_get (D := (dC, dI)) (ci := 4) (v := .int (TMd_fault d)) (C := R_Md) (T := T_Md) (N := 23) hx hb ht i_Md hown hK hP 0 rfl rfl 13 (by decide) (ht _ q_458) (fun _ h9 => h9) rfl d_Md_run_254 ?_
            refine lv_ineg hx hb d_Md_run_257 ?_
            refine lv_goto (tgt := 265) hx hb d_Md_run_258 (by decide) ?_
            exact W.iret hx hb hr (v := (-(TMd_fault d))) (fun t ht hW => ⟨⟨(-(TMd_fault d)), d, rfl, he.symm, by rw [ht]; exact hP, va_K.moved hW.alike hK, hD⟩, hS.F ht⟩) hS.2.2 d_Md_run_265
        · have he := he.trans (if_neg c_4)
          refine lv_aload_n hx hb d_Md_run_241 rfl (lv_at hl 0 rfl) ?_
          refine lv_iconst (v := 1) hx hb d_Md_run_242 (by decide) ?_
          refine wx_cv (wS := fun v : TMd => w_M ad ca v) (ws2 := fun v : TMd => w_M ad ca v) (va_runV (As := [.int 1]) (rest := []) ⟨hx, hb, hml, hown, ht⟩ (c_Md_fail l dC dI ad ca H.size d 1 _ rfl) (cwV 1 ht (tb_V q_571 q_573 q_26 q_47 q_574) rfl rfl rfl p_Md_fail ⟨show 0 + 1 ≤ rf + 5 by omega, show 8 + (2 + 11) + 0 ≤ rl + 113 by omega⟩) (wx_preV (wc := (w_M ad ca d)) hN hK hP hD [0, 1, 2, 3, 4, 5, 6, 7, 8, 9, 10, 11] [0, 1, 2, 3, 4, 5, 6, 7, 8, 9, 10] rfl (by decide) rfl (ci := 4) (q0 := 0) rfl rfl) rfl rfl hl.1 rfl (lv_room (Nat.le_of_ble_eq_true rfl)) d_Md_run_243 ⟨Nat.zero_le _, Nat.zero_le _⟩) hP hD hS hA [0, 1, 2, 3, 4, 5, 6, 7, 8, 9, 10, 11] [] [0, 1, 2, 3, 4, 5, 6, 7, 8, 9, 10, 11] rfl rfl (by decide) (by decide) (by decide) (fun _ => rfl) (fun v_6 H locs hw_6 hP hD hS => ?_)
          have hP : va_P (dC, dI) vwCl (w_M ad ca v_6) H := hP
          have hD : va_D A (w_M ad ca v_6) := hD
          rw [← hw_6] at he
          try dsimp only at he
          refine lv_aload_n hx hb d_Md_run_246 rfl (lv_at hl 0 rfl) ?_
          refine va_get (D := (dC, dI)) (ci := 4) (v := .int (TMd_fault v_6)) (C := R_Md) (T := T_Md) (N := 23) hx hb ht i_Md hown hK hP 0 rfl rfl 13 (by decide) (ht _ q_458) (fun _ h9 => h9) rfl d_Md_run_247 ?_
          refine lv_if_le (tgt := 261) hx hb d_Md_run_250 (by decide) (fun c_7 => ?_) (fun c_7 => ?_)
          · have he := he.trans (if_pos c_7)
            refine lv_aload_n hx hb d_Md_run_261 rfl (lv_at hl 0 rfl) ?_
            refine va_get (D := (dC, dI)) (ci := 4) (v := .int (TMd_outSize v_6)) (C := R_Md) (T := T_Md) (N := 23) hx hb ht i_Md hown hK hP 0 rfl rfl 15 (by decide) (ht _ q_460) (fun _ h9 => h9) rfl d_Md_run_262 ?_
            exact W.iret hx hb hr (v := (TMd_outSize v_6)) (fun t ht hW => ⟨⟨(TMd_outSize v_6), v_6, rfl, he.symm, by rw [ht]; exact hP, va_K.moved hW.alike hK, hD⟩, hS.F ht⟩) hS.2.2 d_Md_run_265
          · have he := he.trans (if_neg c_7)
            refine lv_aload_n hx hb d_Md_run_253 rfl (lv_at hl 0 rfl) ?_
            refine va_get (D := (dC, dI)) (ci := 4) (v := .int (TMd_fault v_6)) (C := R_Md) (T := T_Md) (N := 23) hx hb ht i_Md hown hK hP 0 rfl rfl 13 (by decide) (ht _ q_458) (fun _ h9 => h9) rfl d_Md_run_254 ?_
            refine lv_ineg hx hb d_Md_run_257 ?_
            refine lv_goto (tgt := 265) hx hb d_Md_run_258 (by decide) ?_
            exact W.iret hx hb hr (v := (-(TMd_fault v_6))) (fun t ht hW => ⟨⟨(-(TMd_fault v_6)), v_6, rfl, he.symm, by rw [ht]; exact hP, va_K.moved hW.alike hK, hD⟩, hS.F ht⟩) hS.2.2 d_Md_run_265
    · have he := he.trans (if_neg c_1)
      refine lv_aload_n hx hb d_Md_run_101 rfl (lv_at hl 0 rfl) ?_
      refine va_get (D := (dC, dI)) (ci := 4) (v := .int (TMd_fault d)) (C := R_Md) (T := T_Md) (N := 23) hx hb ht i_Md hown hK hP 0 rfl rfl 13 (by decide) (ht _ q_458) (fun _ h9 => h9) rfl d_Md_run_102 ?_
      refine lv_if_ne (tgt := 227) hx hb d_Md_run_105 (by decide) (fun c_8 => ?_) (fun c_8 => ?_)
      · have he := he.trans (if_neg c_8)
        refine lv_aload_n hx hb d_Md_run_227 rfl (lv_at hl 0 rfl) ?_
        refine va_get (D := (dC, dI)) (ci := 4) (v := .int (TMd_fault d)) (C := R_Md) (T := T_Md) (N := 23) hx hb ht i_Md hown hK hP 0 rfl rfl 13 (by decide) (ht _ q_458) (fun _ h9 => h9) rfl d_Md_run_228 ?_
        refine lv_if_ne (tgt := 246) hx hb d_Md_run_231 (by decide) (fun c_9 => ?_) (fun c_9 => ?_)
        · refine lv_aload_n hx hb d_Md_run_246 rfl (lv_at hl 0 rfl) ?_
          refine va_get (D := (dC, dI)) (ci := 4) (v := .int (TMd_fault d)) (C := R_Md) (T := T_Md) (N := 23) hx hb ht i_Md hown hK hP 0 rfl rfl 13 (by decide) (ht _ q_458) (fun _ h9 => h9) rfl d_Md_run_247 ?_
          refine lv_if_le (tgt := 261) hx hb d_Md_run_250 (by decide) (fun c_10 => ?_) (fun c_10 => ?_)
          · have he := he.trans (if_pos c_10)
            refine lv_aload_n hx hb d_Md_run_261 rfl (lv_at hl 0 rfl) ?_
            refine va_get (D := (dC, dI)) (ci := 4) (v := .int (TMd_outSize d)) (C := R_Md) (T := T_Md) (N := 23) hx hb ht i_Md hown hK hP 0 rfl rfl 15 (by decide) (ht _ q_460) (fun _ h9 => h9) rfl d_Md_run_262 ?_
            exact W.iret hx hb hr (v := (TMd_outSize d)) (fun t ht hW => ⟨⟨(TMd_outSize d), d, rfl, he.symm, by rw [ht]; exact hP, va_K.moved hW.alike hK, hD⟩, hS.F ht⟩) hS.2.2 d_Md_run_265
          · have he := he.trans (if_neg c_10)
            refine lv_aload_n hx hb d_Md_run_253 rfl (lv_at hl 0 rfl) ?_
            refine va_get (D := (dC, dI)) (ci := 4) (v := .int (TMd_fault d)) (C := R_Md) (T := T_Md) (N := 23) hx hb ht i_Md hown hK hP 0 rfl rfl 13 (by decide) (ht _ q_458) (fun _ h9 => h9) rfl d_Md_run_254 ?_
            refine lv_ineg hx hb d_Md_run_257 ?_
            refine lv_goto (tgt := 265) hx hb d_Md_run_258 (by decide) ?_
            exact W.iret hx hb hr (v := (-(TMd_fault d))) (fun t ht hW => ⟨⟨(-(TMd_fault d)), d, rfl, he.symm, by rw [ht]; exact hP, va_K.moved hW.alike hK, hD⟩, hS.F ht⟩) hS.2.2 d_Md_run_265
        · exact absurd c_9 c_8
      · have he := he.trans (if_pos c_8)
        refine lv_aload_n hx hb d_Md_run_108 rfl (lv_at hl 0 rfl) ?_
        refine lv_iload_n hx hb d_Md_run_109 rfl (lv_at hl 1 rfl) ?_
        refine wx_ci (wS := fun _ : Unit => w_M ad ca d) (ws2 := fun _ : Unit => w_M ad ca d) (va_runV (As := [.int x1]) (rest := []) ⟨hx, hb, hml, hown, ht⟩ (c_Md_kindOf l dC dI ad ca H.size d x1 (by have h := (rn_x hc c_1).1.2.1; omega) _ rfl) (cwV 1 ht (tb_V q_555 q_557 q_23 q_47 q_558) rfl rfl rfl p_Md_kindOf ⟨show 0 + 1 ≤ rf + 5 by omega, show 8 + (2 + 11) + 0 ≤ rl + 113 by omega⟩) (wx_preV (wc := (w_M ad ca d)) hN hK hP hD [0, 1, 2, 3, 4, 5, 6, 7, 8, 9, 10, 11] [0, 1, 2, 3, 4, 5, 6, 7, 8, 9, 10] rfl (by decide) rfl (ci := 4) (q0 := 0) rfl rfl) rfl rfl hl.1 rfl (lv_room (Nat.le_of_ble_eq_true rfl)) d_Md_run_110 ⟨Nat.zero_le _, Nat.zero_le _⟩) hP hD hS hA [0, 1, 2, 3, 4, 5, 6, 7, 8, 9, 10, 11] [] [0, 1, 2, 3, 4, 5, 6, 7, 8, 9, 10, 11] rfl rfl (by decide) (by decide) (by decide) (fun _ => rfl) (fun r_11 _ H locs hw_11 hP hD hS => ?_)
        subst hw_11
        have hP : va_P (dC, dI) vwCl (w_M ad ca d) H := hP
        have hD : va_D A (w_M ad ca d) := hD
        refine lv_istore_n (lv' := [(2, .int (f_Md_kindOf d x1)), (0, .ref (ad 16)), (1, .int x1)]) hx hb d_Md_run_113 rfl hl (by decide) rfl (fun ls hl => ?_)
        refine lv_aload_n hx hb d_Md_run_114 rfl (lv_at hl 1 rfl) ?_
        refine lv_iload_n hx hb d_Md_run_115 rfl (lv_at hl 2 rfl) ?_
        refine wx_ci (wS := fun _ : Unit => w_M ad ca d) (ws2 := fun _ : Unit => w_M ad ca d) (va_runV (As := [.int x1]) (rest := []) ⟨hx, hb, hml, hown, ht⟩ (c_Md_isMacro l dC dI ad ca H.size d x1 (by have h := (rn_x hc c_1).1.2.1; omega) _ rfl) (cwV 1 ht (tb_V q_575 q_577 q_27 q_47 q_578) rfl rfl rfl p_Md_isMacro ⟨show 1 + 1 ≤ rf + 5 by omega, show 8 + (2 + 11) + 21 ≤ rl + 113 by omega⟩) (wx_preV (wc := (w_M ad ca d)) hN hK hP hD [0, 1, 2, 3, 4, 5, 6, 7, 8, 9, 10, 11] [0, 1, 2, 3, 4, 5, 6, 7, 8, 9, 10] rfl (by decide) rfl (ci := 4) (q0 := 0) rfl rfl) rfl rfl hl.1 rfl (lv_room (Nat.le_of_ble_eq_true rfl)) d_Md_run_116 ⟨Nat.zero_le _, Nat.zero_le _⟩) hP hD hS hA [0, 1, 2, 3, 4, 5, 6, 7, 8, 9, 10, 11] [] [0, 1, 2, 3, 4, 5, 6, 7, 8, 9, 10, 11] rfl rfl (by decide) (by decide) (by decide) (fun _ => rfl) (fun r_12 _ H locs hw_12 hP hD hS => ?_)
        subst hw_12
        have hP : va_P (dC, dI) vwCl (w_M ad ca d) H := hP
        have hD : va_D A (w_M ad ca d) := hD
        refine lv_if_eq (tgt := 130) hx hb d_Md_run_119 (by decide) (fun c_13 => ?_) (fun c_13 => ?_)
        · have he := he.trans (if_pos c_13)
          refine lv_iload_n hx hb d_Md_run_130 rfl (lv_at hl 0 rfl) ?_
          refine lv_iconst (v := 5) hx hb d_Md_run_131 (by decide) ?_
          refine lv_icmp_ne (tgt := 147) hx hb d_Md_run_132 (by decide) (fun c_14 => ?_) (fun c_14 => ?_)
          · have he := he.trans (if_neg c_14)
            refine lv_iload_n hx hb d_Md_run_147 rfl (lv_at hl 0 rfl) ?_
            refine lv_iconst (v := 5) hx hb d_Md_run_148 (by decide) ?_
            refine lv_icmp_le (tgt := 167) hx hb d_Md_run_149 (by decide) (fun c_15 => ?_) (fun c_15 => ?_)
            · have he := he.trans (if_pos c_15)
              refine lv_iload_n hx hb d_Md_run_167 rfl (lv_at hl 0 rfl) ?_
              refine lv_iconst (v := 5) hx hb d_Md_run_168 (by decide) ?_
              refine lv_icmp_le (tgt := 180) hx hb d_Md_run_169 (by decide) (fun c_16 => ?_) (fun c_16 => ?_)
              · refine lv_aload_n hx hb d_Md_run_180 rfl (lv_at hl 1 rfl) ?_
                refine va_get (D := (dC, dI)) (ci := 4) (v := .int (TMd_outSize d)) (C := R_Md) (T := T_Md) (N := 23) hx hb ht i_Md hown hK hP 0 rfl rfl 15 (by decide) (ht _ q_460) (fun _ h9 => h9) rfl d_Md_run_181 ?_
                refine lv_sipush (v := 300) hx hb d_Md_run_184 (by decide) ?_
                refine lv_icmp_ne (tgt := 199) hx hb d_Md_run_187 (by decide) (fun c_17 => ?_) (fun c_17 => ?_)
                · have he := he.trans (if_neg c_17)
                  refine lv_aload_n hx hb d_Md_run_199 rfl (lv_at hl 1 rfl) ?_
                  refine va_get (D := (dC, dI)) (ci := 4) (v := .ref (ad 25)) (C := R_Md) (T := T_Md) (N := 23) hx hb ht i_Md hown hK hP 0 rfl rfl 14 (by decide) (ht _ q_459) (fun _ h9 => h9) rfl d_Md_run_200 ?_
                  refine lv_aload_n hx hb d_Md_run_203 rfl (lv_at hl 1 rfl) ?_
                  refine va_get (D := (dC, dI)) (ci := 4) (v := .int (TMd_outSize d)) (C := R_Md) (T := T_Md) (N := 23) hx hb ht i_Md hown hK hP 0 rfl rfl 15 (by decide) (ht _ q_460) (fun _ h9 => h9) rfl d_Md_run_204 ?_
                  refine lv_iload_n hx hb d_Md_run_207 rfl (lv_at hl 2 rfl) ?_
                  refine va_iast (f := (TMd_out d)) hx hb hK hP hD hS 9 8 rfl rfl (rn_out hc c_17) d_Md_run_208 (fun H locs hP hD hS => ?_)
                  obtain ⟨g_18, eg_18⟩ : ∃ z, z = (upd (TMd_out d) (TMd_outSize d).toNatClampNeg x1) := ⟨_, rfl⟩
                  rw [← eg_18] at he hP hD
                  try dsimp only at he
                  have hP : va_P (dC, dI) vwCl (w_M ad ca (TMd_set_out d g_18)) H := hP
                  have hD : va_D A (w_M ad ca (TMd_set_out d g_18)) := hD
                  obtain ⟨d_19, ed_19⟩ : ∃ z, z = (TMd_set_out d g_18) := ⟨_, rfl⟩
                  rw [← ed_19] at he hP hD
                  try dsimp only at he
                  refine lv_aload_n hx hb d_Md_run_209 rfl (lv_at hl 1 rfl) ?_
                  refine lv_dup hx hb d_Md_run_210 rfl ?_
                  refine va_get (D := (dC, dI)) (ci := 4) (v := .int (TMd_outSize d_19)) (C := R_Md) (T := T_Md) (N := 23) hx hb ht i_Md hown hK hP 0 rfl rfl 15 (by decide) (ht _ q_460) (fun _ h9 => h9) rfl d_Md_run_211 ?_
                  refine lv_iconst (v := 1) hx hb d_Md_run_214 (by decide) ?_
                  refine lv_iadd hx hb d_Md_run_215 ?_
                  refine lv_topi (fun y_20 ey_20 => ?_)
                  rw [← ey_20] at he
                  try dsimp only at he
                  refine va_put (D := (dC, dI)) (ci := 4) (v := .int y_20) (ty := .int) (C := R_Md) (T := T_Md) (N := 23) hx hb ht i_Md ty_Md ty_Md_ok nm_Md hown hK hP hD hS 0 rfl rfl 15 (by decide) (ht _ q_460) (fun _ h9 => h9) rfl (by decide +kernel) rfl rfl (Nat.le_of_ble_eq_true rfl) d_Md_run_216 (fun H locs hP hD hS => ?_)
                  have hP : va_P (dC, dI) vwCl (w_M ad ca (TMd_set_outSize d_19 y_20)) H := hP
                  have hD : va_D A (w_M ad ca (TMd_set_outSize d_19 y_20)) := hD
                  obtain ⟨d_21, ed_21⟩ : ∃ z, z = (TMd_set_outSize d_19 y_20) := ⟨_, rfl⟩
                  rw [← ed_21] at he hP hD
                  try dsimp only at he
                  refine lv_aload_n hx hb d_Md_run_219 rfl (lv_at hl 1 rfl) ?_
                  refine wx_ci (wS := fun v : TMd => w_M ad ca v) (ws2 := fun v : TMd => w_M ad ca v) (va_runV (As := []) (rest := []) ⟨hx, hb, hml, hown, ht⟩ (c_Md_next l dC dI ad ca H.size d_21 ⟨(rn_put hc c_17 ed_19 ey_20 ed_21).1, (rn_put hc c_17 ed_19 ey_20 ed_21).2.1⟩ _ rfl) (cwV 0 ht (tb_V q_567 q_569 q_25 q_47 q_570) rfl rfl rfl p_Md_next ⟨show 1 + 1 ≤ rf + 5 by omega, show 8 + (2 + 11) + 21 ≤ rl + 113 by omega⟩) (wx_preV (wc := (w_M ad ca d_21)) hN hK hP hD [0, 1, 2, 3, 4, 5, 6, 7, 8, 9, 10, 11] [0, 1, 2, 3, 4, 5, 6, 7, 8, 9, 10] rfl (by decide) rfl (ci := 4) (q0 := 0) rfl rfl) rfl rfl hl.1 rfl (lv_room (Nat.le_of_ble_eq_true rfl)) d_Md_run_220 ⟨Nat.zero_le _, Nat.zero_le _⟩) hP hD hS hA [0, 1, 2, 3, 4, 5, 6, 7, 8, 9, 10, 11] [] [0, 1, 2, 3, 4, 5, 6, 7, 8, 9, 10, 11] rfl rfl (by decide) (by decide) (by decide) (fun _ => rfl) (fun r_22 v_22 H locs hw_22 hP hD hS => ?_)
                  have hP : va_P (dC, dI) vwCl (w_M ad ca v_22) H := hP
                  have hD : va_D A (w_M ad ca v_22) := hD
                  rw [← hw_22] at he
                  try dsimp only at he
                  refine lv_istore_n (lv' := [(1, .int r_22), (2, .int (f_Md_kindOf d x1)), (0, .ref (ad 16))]) hx hb d_Md_run_223 rfl hl (by decide) rfl (fun ls hl => ?_)
                  refine lv_goto (tgt := 97) hx hb d_Md_run_224 (by decide) ?_
                  exact ih v_22 r_22 (rn_nx hc c_1 (rn_put hc c_17 ed_19 ey_20 ed_21) hw_22) he _ _ hP hD hS _ (lv_sub hl [2, 0] rfl)
                · have he := he.trans (if_pos c_17)
                  refine lv_aload_n hx hb d_Md_run_190 rfl (lv_at hl 1 rfl) ?_
                  refine lv_bipush (v := 9) hx hb d_Md_run_191 (by decide) ?_
                  refine wx_cv (wS := fun v : TMd => w_M ad ca v) (ws2 := fun v : TMd => w_M ad ca v) (va_runV (As := [.int 9]) (rest := []) ⟨hx, hb, hml, hown, ht⟩ (c_Md_fail l dC dI ad ca H.size d 9 _ rfl) (cwV 1 ht (tb_V q_571 q_573 q_26 q_47 q_574) rfl rfl rfl p_Md_fail ⟨show 0 + 1 ≤ rf + 5 by omega, show 8 + (2 + 11) + 0 ≤ rl + 113 by omega⟩) (wx_preV (wc := (w_M ad ca d)) hN hK hP hD [0, 1, 2, 3, 4, 5, 6, 7, 8, 9, 10, 11] [0, 1, 2, 3, 4, 5, 6, 7, 8, 9, 10] rfl (by decide) rfl (ci := 4) (q0 := 0) rfl rfl) rfl rfl hl.1 rfl (lv_room (Nat.le_of_ble_eq_true rfl)) d_Md_run_193 ⟨Nat.zero_le _, Nat.zero_le _⟩) hP hD hS hA [0, 1, 2, 3, 4, 5, 6, 7, 8, 9, 10, 11] [] [0, 1, 2, 3, 4, 5, 6, 7, 8, 9, 10, 11] rfl rfl (by decide) (by decide) (by decide) (fun _ => rfl) (fun v_23 H locs hw_23 hP hD hS => ?_)
                  have hP : va_P (dC, dI) vwCl (w_M ad ca v_23) H := hP
                  have hD : va_D A (w_M ad ca v_23) := hD
                  rw [← hw_23] at he
                  try dsimp only at he
                  refine lv_goto (tgt := 219) hx hb d_Md_run_196 (by decide) ?_
                  refine lv_aload_n hx hb d_Md_run_219 rfl (lv_at hl 1 rfl) ?_
                  refine wx_ci (wS := fun v : TMd => w_M ad ca v) (ws2 := fun v : TMd => w_M ad ca v) (va_runV (As := []) (rest := []) ⟨hx, hb, hml, hown, ht⟩ (c_Md_next l dC dI ad ca H.size v_23 ⟨(rn_fail hc (by decide) hw_23).1, (rn_fail hc (by decide) hw_23).2.1⟩ _ rfl) (cwV 0 ht (tb_V q_567 q_569 q_25 q_47 q_570) rfl rfl rfl p_Md_next ⟨show 1 + 1 ≤ rf + 5 by omega, show 8 + (2 + 11) + 21 ≤ rl + 113 by omega⟩) (wx_preV (wc := (w_M ad ca v_23)) hN hK hP hD [0, 1, 2, 3, 4, 5, 6, 7, 8, 9, 10, 11] [0, 1, 2, 3, 4, 5, 6, 7, 8, 9, 10] rfl (by decide) rfl (ci := 4) (q0 := 0) rfl rfl) rfl rfl hl.1 rfl (lv_room (Nat.le_of_ble_eq_true rfl)) d_Md_run_220 ⟨Nat.zero_le _, Nat.zero_le _⟩) hP hD hS hA [0, 1, 2, 3, 4, 5, 6, 7, 8, 9, 10, 11] [] [0, 1, 2, 3, 4, 5, 6, 7, 8, 9, 10, 11] rfl rfl (by decide) (by decide) (by decide) (fun _ => rfl) (fun r_24 v_24 H locs hw_24 hP hD hS => ?_)
                  have hP : va_P (dC, dI) vwCl (w_M ad ca v_24) H := hP
                  have hD : va_D A (w_M ad ca v_24) := hD
                  rw [← hw_24] at he
                  try dsimp only at he
                  refine lv_istore_n (lv' := [(1, .int r_24), (2, .int (f_Md_kindOf d x1)), (0, .ref (ad 16))]) hx hb d_Md_run_223 rfl hl (by decide) rfl (fun ls hl => ?_)
                  refine lv_goto (tgt := 97) hx hb d_Md_run_224 (by decide) ?_
                  exact ih v_24 r_24 (rn_nx hc c_1 (rn_fail hc (by decide) hw_23) hw_24) he _ _ hP hD hS _ (lv_sub hl [2, 0] rfl)
              · exact absurd c_15 c_16
            · have he := he.trans (if_neg c_15)
              refine lv_aload_n hx hb d_Md_run_152 rfl (lv_at hl 1 rfl) ?_
              refine va_get (D := (dC, dI)) (ci := 4) (v := .int (TMd_open d)) (C := R_Md) (T := T_Md) (N := 23) hx hb ht i_Md hown hK hP 0 rfl rfl 21 (by decide) (ht _ q_466) (fun _ h9 => h9) rfl d_Md_run_153 ?_
              refine lv_if_ne (tgt := 167) hx hb d_Md_run_156 (by decide) (fun c_25 => ?_) (fun c_25 => ?_)
              · have he := he.trans (if_neg c_25)
                refine lv_iload_n hx hb d_Md_run_167 rfl (lv_at hl 0 rfl) ?_
                refine lv_iconst (v := 5) hx hb d_Md_run_168 (by decide) ?_
                refine lv_icmp_le (tgt := 180) hx hb d_Md_run_169 (by decide) (fun c_26 => ?_) (fun c_26 => ?_)
                · exact absurd c_26 c_15
                · refine lv_aload_n hx hb d_Md_run_172 rfl (lv_at hl 1 rfl) ?_
                  refine lv_iload_n hx hb d_Md_run_173 rfl (lv_at hl 0 rfl) ?_
                  refine wx_cv (wS := fun v : TMd => w_M ad ca v) (ws2 := fun v : TMd => w_M ad ca v) (va_runV (As := [.int (f_Md_kindOf d x1)]) (rest := []) ⟨hx, hb, hml, hown, ht⟩ (c_Md_belongs l dC dI ad ca H.size d (f_Md_kindOf d x1) (rn_bp hc c_25) _ rfl) (cwV 1 ht (tb_V q_603 q_605 q_34 q_47 q_606) rfl rfl rfl p_Md_belongs ⟨show 4 + 1 ≤ rf + 5 by omega, show 8 + (3 + 11) + 91 ≤ rl + 113 by omega⟩) (wx_preV (wc := (w_M ad ca d)) hN hK hP hD [0, 1, 2, 3, 4, 5, 6, 7, 8, 9, 10, 11] [0, 1, 2, 3, 4, 5, 6, 7, 8, 9, 10] rfl (by decide) rfl (ci := 4) (q0 := 0) rfl rfl) rfl rfl hl.1 rfl (lv_room (Nat.le_of_ble_eq_true rfl)) d_Md_run_174 ⟨Nat.zero_le _, Nat.zero_le _⟩) hP hD hS hA [0, 1, 2, 3, 4, 5, 6, 7, 8, 9, 10, 11] [] [0, 1, 2, 3, 4, 5, 6, 7, 8, 9, 10, 11] rfl rfl (by decide) (by decide) (by decide) (fun _ => rfl) (fun v_27 H locs hw_27 hP hD hS => ?_)
                  have hP : va_P (dC, dI) vwCl (w_M ad ca v_27) H := hP
                  have hD : va_D A (w_M ad ca v_27) := hD
                  rw [← hw_27] at he
                  try dsimp only at he
                  refine lv_goto (tgt := 219) hx hb d_Md_run_177 (by decide) ?_
                  refine lv_aload_n hx hb d_Md_run_219 rfl (lv_at hl 1 rfl) ?_
                  refine wx_ci (wS := fun v : TMd => w_M ad ca v) (ws2 := fun v : TMd => w_M ad ca v) (va_runV (As := []) (rest := []) ⟨hx, hb, hml, hown, ht⟩ (c_Md_next l dC dI ad ca H.size v_27 ⟨(rn_bel hc c_25 hw_27).1, (rn_bel hc c_25 hw_27).2.1⟩ _ rfl) (cwV 0 ht (tb_V q_567 q_569 q_25 q_47 q_570) rfl rfl rfl p_Md_next ⟨show 1 + 1 ≤ rf + 5 by omega, show 8 + (2 + 11) + 21 ≤ rl + 113 by omega⟩) (wx_preV (wc := (w_M ad ca v_27)) hN hK hP hD [0, 1, 2, 3, 4, 5, 6, 7, 8, 9, 10, 11] [0, 1, 2, 3, 4, 5, 6, 7, 8, 9, 10] rfl (by decide) rfl (ci := 4) (q0 := 0) rfl rfl) rfl rfl hl.1 rfl (lv_room (Nat.le_of_ble_eq_true rfl)) d_Md_run_220 ⟨Nat.zero_le _, Nat.zero_le _⟩) hP hD hS hA [0, 1, 2, 3, 4, 5, 6, 7, 8, 9, 10, 11] [] [0, 1, 2, 3, 4, 5, 6, 7, 8, 9, 10, 11] rfl rfl (by decide) (by decide) (by decide) (fun _ => rfl) (fun r_28 v_28 H locs hw_28 hP hD hS => ?_)
                  have hP : va_P (dC, dI) vwCl (w_M ad ca v_28) H := hP
                  have hD : va_D A (w_M ad ca v_28) := hD
                  rw [← hw_28] at he
                  try dsimp only at he
                  refine lv_istore_n (lv' := [(1, .int r_28), (2, .int (f_Md_kindOf d x1)), (0, .ref (ad 16))]) hx hb d_Md_run_223 rfl hl (by decide) rfl (fun ls hl => ?_)
                  refine lv_goto (tgt := 97) hx hb d_Md_run_224 (by decide) ?_
                  exact ih v_28 r_28 (rn_nx hc c_1 (rn_bel hc c_25 hw_27) hw_28) he _ _ hP hD hS _ (lv_sub hl [2, 0] rfl)
              · have he := he.trans (if_pos c_25)
                refine lv_aload_n hx hb d_Md_run_159 rfl (lv_at hl 1 rfl) ?_
                refine lv_iconst (v := 2) hx hb d_Md_run_160 (by decide) ?_
                refine wx_cv (wS := fun v : TMd => w_M ad ca v) (ws2 := fun v : TMd => w_M ad ca v) (va_runV (As := [.int 2]) (rest := []) ⟨hx, hb, hml, hown, ht⟩ (c_Md_fail l dC dI ad ca H.size d 2 _ rfl) (cwV 1 ht (tb_V q_571 q_573 q_26 q_47 q_574) rfl rfl rfl p_Md_fail ⟨show 0 + 1 ≤ rf + 5 by omega, show 8 + (2 + 11) + 0 ≤ rl + 113 by omega⟩) (wx_preV (wc := (w_M ad ca d)) hN hK hP hD [0, 1, 2, 3, 4, 5, 6, 7, 8, 9, 10, 11] [0, 1, 2, 3, 4, 5, 6, 7, 8, 9, 10] rfl (by decide) rfl (ci := 4) (q0 := 0) rfl rfl) rfl rfl hl.1 rfl (lv_room (Nat.le_of_ble_eq_true rfl)) d_Md_run_161 ⟨Nat.zero_le _, Nat.zero_le _⟩) hP hD hS hA [0, 1, 2, 3, 4, 5, 6, 7, 8, 9, 10, 11] [] [0, 1, 2, 3, 4, 5, 6, 7, 8, 9, 10, 11] rfl rfl (by decide) (by decide) (by decide) (fun _ => rfl) (fun v_29 H locs hw_29 hP hD hS => ?_)
                have hP : va_P (dC, dI) vwCl (w_M ad ca v_29) H := hP
                have hD : va_D A (w_M ad ca v_29) := hD
                rw [← hw_29] at he
                try dsimp only at he
                refine lv_goto (tgt := 219) hx hb d_Md_run_164 (by decide) ?_
                refine lv_aload_n hx hb d_Md_run_219 rfl (lv_at hl 1 rfl) ?_
                refine wx_ci (wS := fun v : TMd => w_M ad ca v) (ws2 := fun v : TMd => w_M ad ca v) (va_runV (As := []) (rest := []) ⟨hx, hb, hml, hown, ht⟩ (c_Md_next l dC dI ad ca H.size v_29 ⟨(rn_fail hc (by decide) hw_29).1, (rn_fail hc (by decide) hw_29).2.1⟩ _ rfl) (cwV 0 ht (tb_V q_567 q_569 q_25 q_47 q_570) rfl rfl rfl p_Md_next ⟨show 1 + 1 ≤ rf + 5 by omega, show 8 + (2 + 11) + 21 ≤ rl + 113 by omega⟩) (wx_preV (wc := (w_M ad ca v_29)) hN hK hP hD [0, 1, 2, 3, 4, 5, 6, 7, 8, 9, 10, 11] [0, 1, 2, 3, 4, 5, 6, 7, 8, 9, 10] rfl (by decide) rfl (ci := 4) (q0 := 0) rfl rfl) rfl rfl hl.1 rfl (lv_room (Nat.le_of_ble_eq_true rfl)) d_Md_run_220 ⟨Nat.zero_le _, Nat.zero_le _⟩) hP hD hS hA [0, 1, 2, 3, 4, 5, 6, 7, 8, 9, 10, 11] [] [0, 1, 2, 3, 4, 5, 6, 7, 8, 9, 10, 11] rfl rfl (by decide) (by decide) (by decide) (fun _ => rfl) (fun r_30 v_30 H locs hw_30 hP hD hS => ?_)
                have hP : va_P (dC, dI) vwCl (w_M ad ca v_30) H := hP
                have hD : va_D A (w_M ad ca v_30) := hD
                rw [← hw_30] at he
                try dsimp only at he
                refine lv_istore_n (lv' := [(1, .int r_30), (2, .int (f_Md_kindOf d x1)), (0, .ref (ad 16))]) hx hb d_Md_run_223 rfl hl (by decide) rfl (fun ls hl => ?_)
                refine lv_goto (tgt := 97) hx hb d_Md_run_224 (by decide) ?_
                exact ih v_30 r_30 (rn_nx hc c_1 (rn_fail hc (by decide) hw_29) hw_30) he _ _ hP hD hS _ (lv_sub hl [2, 0] rfl)
          · have he := he.trans (if_pos c_14)
            refine lv_aload_n hx hb d_Md_run_135 rfl (lv_at hl 1 rfl) ?_
            refine lv_aload_n hx hb d_Md_run_136 rfl (lv_at hl 1 rfl) ?_
            refine lv_iload_n hx hb d_Md_run_137 rfl (lv_at hl 2 rfl) ?_
            refine wx_ci (wS := fun _ : Unit => w_M ad ca d) (ws2 := fun _ : Unit => w_M ad ca d) (va_runV (As := [.int x1]) (rest := [.ref (ad 16)]) ⟨hx, hb, hml, hown, ht⟩ (c_Md_valueOf l dC dI ad ca H.size d x1 (by have h := (rn_x hc c_1).1.2.1; omega) _ rfl) (cwV 1 ht (tb_V q_559 q_561 q_24 q_47 q_562) rfl rfl rfl p_Md_valueOf ⟨show 0 + 1 ≤ rf + 5 by omega, show 8 + (2 + 11) + 0 ≤ rl + 113 by omega⟩) (wx_preV (wc := (w_M ad ca d)) hN hK hP hD [0, 1, 2, 3, 4, 5, 6, 7, 8, 9, 10, 11] [0, 1, 2, 3, 4, 5, 6, 7, 8, 9, 10] rfl (by decide) rfl (ci := 4) (q0 := 0) rfl rfl) rfl rfl hl.1 rfl (lv_room (Nat.le_of_ble_eq_true rfl)) d_Md_run_138 ⟨Nat.zero_le _, Nat.zero_le _⟩) hP hD hS hA [0, 1, 2, 3, 4, 5, 6, 7, 8, 9, 10, 11] [] [0, 1, 2, 3, 4, 5, 6, 7, 8, 9, 10, 11] rfl rfl (by decide) (by decide) (by decide) (fun _ => rfl) (fun r_31 _ H locs hw_31 hP hD hS => ?_)
            subst hw_31
            have hP : va_P (dC, dI) vwCl (w_M ad ca d) H := hP
            have hD : va_D A (w_M ad ca d) := hD
            refine wx_cv (wS := fun v : TMd => w_M ad ca v) (ws2 := fun v : TMd => w_M ad ca v) (va_runV (As := [.int (f_Md_valueOf d x1)]) (rest := []) ⟨hx, hb, hml, hown, ht⟩ (hop H.size d (f_Md_valueOf d x1) (rn_opp hc c_1 c_14)) (cwV 1 ht (tb_V q_583 q_585 q_29 q_47 q_586) rfl rfl rfl p_Md_open ⟨show rf + 1 ≤ rf + 5 by omega, show 8 + (6 + 11) + rl ≤ rl + 113 by omega⟩) (wx_preV (wc := (w_M ad ca d)) hN hK hP hD [0, 1, 2, 3, 4, 5, 6, 7, 8, 9, 10, 11] [0, 1, 2, 3, 4, 5, 6, 7, 8, 9, 10] rfl (by decide) rfl (ci := 4) (q0 := 0) rfl rfl) rfl rfl hl.1 rfl (lv_room (Nat.le_of_ble_eq_true rfl)) d_Md_run_141 ⟨Nat.zero_le _, Nat.zero_le _⟩) hP hD hS hA [0, 1, 2, 3, 4, 5, 6, 7, 8, 9, 10, 11] [] [0, 1, 2, 3, 4, 5, 6, 7, 8, 9, 10, 11] rfl rfl (by decide) (by decide) (by decide) (fun _ => rfl) (fun v_32 H locs hw_32 hP hD hS => ?_)
            have hP : va_P (dC, dI) vwCl (w_M ad ca v_32) H := hP
            have hD : va_D A (w_M ad ca v_32) := hD
            rw [← hw_32] at he
            try dsimp only at he
            refine lv_goto (tgt := 219) hx hb d_Md_run_144 (by decide) ?_
            refine lv_aload_n hx hb d_Md_run_219 rfl (lv_at hl 1 rfl) ?_
            refine wx_ci (wS := fun v : TMd => w_M ad ca v) (ws2 := fun v : TMd => w_M ad ca v) (va_runV (As := []) (rest := []) ⟨hx, hb, hml, hown, ht⟩ (c_Md_next l dC dI ad ca H.size v_32 ⟨(rn_op op k hopm hc c_1 c_14 hw_32).1, (rn_op op k hopm hc c_1 c_14 hw_32).2.1⟩ _ rfl) (cwV 0 ht (tb_V q_567 q_569 q_25 q_47 q_570) rfl rfl rfl p_Md_next ⟨show 1 + 1 ≤ rf + 5 by omega, show 8 + (2 + 11) + 21 ≤ rl + 113 by omega⟩) (wx_preV (wc := (w_M ad ca v_32)) hN hK hP hD [0, 1, 2, 3, 4, 5, 6, 7, 8, 9, 10, 11] [0, 1, 2, 3, 4, 5, 6, 7, 8, 9, 10] rfl (by decide) rfl (ci := 4) (q0 := 0) rfl rfl) rfl rfl hl.1 rfl (lv_room (Nat.le_of_ble_eq_true rfl)) d_Md_run_220 ⟨Nat.zero_le _, Nat.zero_le _⟩) hP hD hS hA [0, 1, 2, 3, 4, 5, 6, 7, 8, 9, 10, 11] [] [0, 1, 2, 3, 4, 5, 6, 7, 8, 9, 10, 11] rfl rfl (by decide) (by decide) (by decide) (fun _ => rfl) (fun r_33 v_33 H locs hw_33 hP hD hS => ?_)
            have hP : va_P (dC, dI) vwCl (w_M ad ca v_33) H := hP
            have hD : va_D A (w_M ad ca v_33) := hD
            rw [← hw_33] at he
            try dsimp only at he
            refine lv_istore_n (lv' := [(1, .int r_33), (2, .int (f_Md_kindOf d x1)), (0, .ref (ad 16))]) hx hb d_Md_run_223 rfl hl (by decide) rfl (fun ls hl => ?_)
            refine lv_goto (tgt := 97) hx hb d_Md_run_224 (by decide) ?_
            exact ih v_33 r_33 (rn_nx hc c_1 (rn_op op k hopm hc c_1 c_14 hw_32) hw_33) he _ _ hP hD hS _ (lv_sub hl [2, 0] rfl)
        · have he := he.trans (if_neg c_13)
          refine lv_aload_n hx hb d_Md_run_122 rfl (lv_at hl 1 rfl) ?_
          refine lv_iload_n hx hb d_Md_run_123 rfl (lv_at hl 2 rfl) ?_
          refine wx_cv (wS := fun v : TMd => w_M ad ca v) (ws2 := fun v : TMd => w_M ad ca v) (va_runV (As := [.int x1]) (rest := []) ⟨hx, hb, hml, hown, ht⟩ (c_Md_goOnWith l dC dI ad ca H.size d x1 ⟨(by have h := (rn_x hc c_1).1.2.1; omega), hc.2.1⟩ _ rfl) (cwV 1 ht (tb_V q_579 q_581 q_28 q_47 q_582) rfl rfl rfl p_Md_goOnWith ⟨show 1 + 1 ≤ rf + 5 by omega, show 8 + (2 + 11) + 21 ≤ rl + 113 by omega⟩) (wx_preV (wc := (w_M ad ca d)) hN hK hP hD [0, 1, 2, 3, 4, 5, 6, 7, 8, 9, 10, 11] [0, 1, 2, 3, 4, 5, 6, 7, 8, 9, 10] rfl (by decide) rfl (ci := 4) (q0 := 0) rfl rfl) rfl rfl hl.1 rfl (lv_room (Nat.le_of_ble_eq_true rfl)) d_Md_run_124 ⟨Nat.zero_le _, Nat.zero_le _⟩) hP hD hS hA [0, 1, 2, 3, 4, 5, 6, 7, 8, 9, 10, 11] [] [0, 1, 2, 3, 4, 5, 6, 7, 8, 9, 10, 11] rfl rfl (by decide) (by decide) (by decide) (fun _ => rfl) (fun v_34 H locs hw_34 hP hD hS => ?_)
          have hP : va_P (dC, dI) vwCl (w_M ad ca v_34) H := hP
          have hD : va_D A (w_M ad ca v_34) := hD
          rw [← hw_34] at he
          try dsimp only at he
          refine lv_goto (tgt := 219) hx hb d_Md_run_127 (by decide) ?_
          refine lv_aload_n hx hb d_Md_run_219 rfl (lv_at hl 1 rfl) ?_
          refine wx_ci (wS := fun v : TMd => w_M ad ca v) (ws2 := fun v : TMd => w_M ad ca v) (va_runV (As := []) (rest := []) ⟨hx, hb, hml, hown, ht⟩ (c_Md_next l dC dI ad ca H.size v_34 ⟨(rn_go hc c_1 c_13 hw_34).1, (rn_go hc c_1 c_13 hw_34).2.1⟩ _ rfl) (cwV 0 ht (tb_V q_567 q_569 q_25 q_47 q_570) rfl rfl rfl p_Md_next ⟨show 1 + 1 ≤ rf + 5 by omega, show 8 + (2 + 11) + 21 ≤ rl + 113 by omega⟩) (wx_preV (wc := (w_M ad ca v_34)) hN hK hP hD [0, 1, 2, 3, 4, 5, 6, 7, 8, 9, 10, 11] [0, 1, 2, 3, 4, 5, 6, 7, 8, 9, 10] rfl (by decide) rfl (ci := 4) (q0 := 0) rfl rfl) rfl rfl hl.1 rfl (lv_room (Nat.le_of_ble_eq_true rfl)) d_Md_run_220 ⟨Nat.zero_le _, Nat.zero_le _⟩) hP hD hS hA [0, 1, 2, 3, 4, 5, 6, 7, 8, 9, 10, 11] [] [0, 1, 2, 3, 4, 5, 6, 7, 8, 9, 10, 11] rfl rfl (by decide) (by decide) (by decide) (fun _ => rfl) (fun r_35 v_35 H locs hw_35 hP hD hS => ?_)
          have hP : va_P (dC, dI) vwCl (w_M ad ca v_35) H := hP
          have hD : va_D A (w_M ad ca v_35) := hD
          rw [← hw_35] at he
          try dsimp only at he
          refine lv_istore_n (lv' := [(1, .int r_35), (2, .int (f_Md_kindOf d x1)), (0, .ref (ad 16))]) hx hb d_Md_run_223 rfl hl (by decide) rfl (fun ls hl => ?_)
          refine lv_goto (tgt := 97) hx hb d_Md_run_224 (by decide) ?_
          exact ih v_35 r_35 (rn_nx hc c_1 (rn_go hc c_1 c_13 hw_34) hw_35) he _ _ hP hD hS _ (lv_sub hl [2, 0] rfl)
noncomputable def f_Md_run_67 (op : TMd → Int32 → TMd) : Nat → TMd → Int32 → (Int32 × TMd)
  | 0, d, _ => (0, d)
  | n + 1, d, x1 => (if 100 ≤ x1 then (let d_2 := (TMd_set_hasRun d 1); (match f_Md_next d_2 with | (r_3, v_3) => (f_Md_run_97 op TM v_3 r_3))) else (let g_4 := (upd (TMd_decided d) x1.toNatClampNeg (-5)); (let d_5 := (TMd_set_decided d g_4); (f_Md_run_67 op n d_5 (x1 + 1)))))
set_option maxHeartbeats 4000000 in
set_option maxRecDepth 100000 in
theorem k_Md_run_67 {p : Program} {e : Env} {s : State} {m : MethodId} {args : Array Value} {below : List Frame} {meth : Method} {c : Code} {A : Nat → Prop} (l : Launch) (dC : Nat → ClassId) (dI : Nat → Nat → Nat) (ad : Nat → Nat) (ca : Nat → ClassId) (op : TMd → Int32 → TMd) (rf rl : Nat) (k : Int) (hopm : ∀ (d : TMd) (w : Int32), OPP k d → LVS 0 d (op d w)) (hop : ∀ (sz : Nat) (d : TMd) (w : Int32), OPP k d → wx_Mv l y_Md_open ws_Md_open ({ frames := rf, cells := 0, slots := 0, locals := rl } : Room) (dC, dI) vwCl (t_M ca) [.ref (ad 16), .int w] (w_M ad ca d) sz (fun v : TMd => w_M ad ca v) (fun v : TMd => v = op d w)) (C0 : wx_C p s m args meth c b_Md_run (some .int) 3 R_Md A (dC, dI) vwCl (t_M ca)) (F : (Int32 × TMd)) : ∀ (n : Nat) (d : TMd) (x1 : Int32), ((MdS d ∧ MdP d) ∧ k ≤ 0 ∧ TLn 100 x1 n) → F = f_Md_run_67 op n d x1 → ∀ (H : Heap) (locs : List Loc), va_P (dC, dI) vwCl (w_M ad ca d) H → va_D A (w_M ad ca d) → va_S A s.heap H locs → ∀ (ls : Array Slot), lv_has ls 3 [(0, .ref (ad 16)), (1, .int x1)] → W p l e ({ frames := rf + 5, cells := 0, slots := 0, locals := rl + 113 } : Room) s m args below meth c H locs 0 0 (MQ below (va_Qi (fun (r : Int32) (v : TMd) => (r, v) = F) (wx_B (dC, dI) vwCl (t_M ca) (fun v : TMd => w_M ad ca v) A) A) args s 0 0 A) (F0 m 67 ls []) := by
  have C1 := C0
  obtain ⟨hx, hb, hr, hml, hown, ht, hlocks, hA, hK, hN⟩ := C1
  intro n
  induction n with
  | zero =>
    intro d x1 hc he
    exact absurd hc (fun h => TLn_0 h.2.2)
  | succ n ih =>
    intro d x1 hc he H locs hP hD hS ls hl
    rw [f_Md_run_67] at he
    refine lv_iload_n hx hb d_Md_run_67 rfl (lv_at hl 1 rfl) ?_
    refine lv_bipush (v := 100) hx hb d_Md_run_68 (by decide) ?_
    refine lv_icmp_ge (tgt := 87) hx hb d_Md_run_70 (by decide) (fun c_1 => ?_) (fun c_1 => ?_)
    · have he := he.trans (if_pos c_1)
      refine lv_aload_n hx hb d_Md_run_87 rfl (lv_at hl 0 rfl) ?_
      refine lv_iconst (v := 1) hx hb d_Md_run_88 (by decide) ?_
      refine va_put (D := (dC, dI)) (ci := 4) (v := .int 1) (ty := .boolean) (C := R_Md) (T := T_Md) (N := 23) hx hb ht i_Md ty_Md ty_Md_ok nm_Md hown hK hP hD hS 0 rfl rfl 22 (by decide) (ht _ q_467) (fun _ h9 => h9) rfl (by decide +kernel) rfl rfl (Nat.le_of_ble_eq_true rfl) d_Md_run_89 (fun H locs hP hD hS => ?_)
      have hP : va_P (dC, dI) vwCl (w_M ad ca (TMd_set_hasRun d 1)) H := hP
      have hD : va_D A (w_M ad ca (TMd_set_hasRun d 1)) := hD
      obtain ⟨d_2, ed_2⟩ : ∃ z, z = (TMd_set_hasRun d 1) := ⟨_, rfl⟩
      rw [← ed_2] at he hP hD
      try dsimp only at he
      refine lv_aload_n hx hb d_Md_run_92 rfl (lv_at hl 0 rfl) ?_
      refine wx_ci (wS := fun v : TMd => w_M ad ca v) (ws2 := fun v : TMd => w_M ad ca v) (va_runV (As := []) (rest := []) ⟨hx, hb, hml, hown, ht⟩ (c_Md_next l dC dI ad ca H.size d_2 (hr_SP ed_2 hc.1) _ rfl) (cwV 0 ht (tb_V q_567 q_569 q_25 q_47 q_570) rfl rfl rfl p_Md_next ⟨show 1 + 1 ≤ rf + 5 by omega, show 8 + (2 + 11) + 21 ≤ rl + 113 by omega⟩) (wx_preV (wc := (w_M ad ca d_2)) hN hK hP hD [0, 1, 2, 3, 4, 5, 6, 7, 8, 9, 10, 11] [0, 1, 2, 3, 4, 5, 6, 7, 8, 9, 10] rfl (by decide) rfl (ci := 4) (q0 := 0) rfl rfl) rfl rfl hl.1 rfl (lv_room (Nat.le_of_ble_eq_true rfl)) d_Md_run_93 ⟨Nat.zero_le _, Nat.zero_le _⟩) hP hD hS hA [0, 1, 2, 3, 4, 5, 6, 7, 8, 9, 10, 11] [] [0, 1, 2, 3, 4, 5, 6, 7, 8, 9, 10, 11] rfl rfl (by decide) (by decide) (by decide) (fun _ => rfl) (fun r_3 v_3 H locs hw_3 hP hD hS => ?_)
      have hP : va_P (dC, dI) vwCl (w_M ad ca v_3) H := hP
      have hD : va_D A (w_M ad ca v_3) := hD
      rw [← hw_3] at he
      try dsimp only at he
      refine lv_istore_n (lv' := [(1, .int r_3), (0, .ref (ad 16))]) hx hb d_Md_run_96 rfl hl (by decide) rfl (fun ls hl => ?_)
      exact k_Md_run_97 l dC dI ad ca op rf rl k hopm hop C0 F TM v_3 r_3 (rn_next hw_3 (hr_SP ed_2 hc.1).1 (hr_SP ed_2 hc.1).2 hc.2.1 (by have h := nu_TM (hr_SP ed_2 hc.1).2; omega)) he _ _ hP hD hS _ (lv_sub hl [1, 0] rfl)
    · have he := he.trans (if_neg c_1)
      refine lv_aload_n hx hb d_Md_run_73 rfl (lv_at hl 0 rfl) ?_
      refine va_get (D := (dC, dI)) (ci := 4) (v := .ref (ad 26)) (C := R_Md) (T := T_Md) (N := 23) hx hb ht i_Md hown hK hP 0 rfl rfl 19 (by decide) (ht _ q_464) (fun _ h9 => h9) rfl d_Md_run_74 ?_
      refine lv_iload_n hx hb d_Md_run_77 rfl (lv_at hl 1 rfl) ?_
      refine lv_bipush (v := (-5)) hx hb d_Md_run_78 (by decide) ?_
      refine va_iast (f := (TMd_decided d)) hx hb hK hP hD hS 10 9 rfl rfl (wx_tl hc.2.2 (by decide) c_1) d_Md_run_80 (fun H locs hP hD hS => ?_)
      obtain ⟨g_4, eg_4⟩ : ∃ z, z = (upd (TMd_decided d) x1.toNatClampNeg (-5)) := ⟨_, rfl⟩
      rw [← eg_4] at he hP hD
      try dsimp only at he
      have hP : va_P (dC, dI) vwCl (w_M ad ca (TMd_set_decided d g_4)) H := hP
      have hD : va_D A (w_M ad ca (TMd_set_decided d g_4)) := hD
      obtain ⟨d_5, ed_5⟩ : ∃ z, z = (TMd_set_decided d g_4) := ⟨_, rfl⟩
      rw [← ed_5] at he hP hD
      try dsimp only at he
      refine lv_iinc (v := (x1 + 1)) (lv' := [(1, .int (x1 + 1)), (0, .ref (ad 16))]) hx hb d_Md_run_81 hl (k := 1) rfl rfl (by decide) rfl (fun ls hl => ?_)
      refine lv_goto (tgt := 67) hx hb d_Md_run_84 (by decide) ?_
      exact ih d_5 (x1 + 1) ⟨de_SP ed_5 hc.1, hc.2.1, TLn_s hc.2.2 (by decide) c_1⟩ he _ _ hP hD hS _ (lv_sub hl [1, 0] rfl)
noncomputable def f_Md_run (op : TMd → Int32 → TMd) (d : TMd) : (Int32 × TMd) := (let d_1 := (TMd_set_thrown d 0); (let g_2 := (upd (TMd_pileRows d_1) (0 : Int32).toNatClampNeg 20); (let d_3 := (TMd_set_pileRows d_1 g_2); (let g_4 := (upd (TMd_pilePlaces d_3) (0 : Int32).toNatClampNeg 0); (let d_5 := (TMd_set_pilePlaces d_3 g_4); (let d_6 := (TMd_set_pile d_5 1); (let d_7 := (TMd_set_held d_6 (-1)); (let d_8 := (TMd_set_steps d_7 0); (let d_9 := (TMd_set_fault d_8 0); (let d_10 := (TMd_set_outSize d_9 0); (let d_11 := (TMd_set_opened d_10 0); (let d_12 := (TMd_set_most d_11 0); (let d_13 := (TMd_set_skipped d_12 0); (let d_14 := (TMd_set_open d_13 0); (f_Md_run_67 op 101 d_14 0)))))))))))))))
set_option maxHeartbeats 4000000 in
set_option maxRecDepth 100000 in
theorem c_Md_run (l : Launch) (dC : Nat → ClassId) (dI : Nat → Nat → Nat) (ad : Nat → Nat) (ca : Nat → ClassId) (op : TMd → Int32 → TMd) (rf rl : Nat) (k : Int) (hopm : ∀ (d : TMd) (w : Int32), OPP k d → LVS 0 d (op d w)) (hop : ∀ (sz : Nat) (d : TMd) (w : Int32), OPP k d → wx_Mv l y_Md_open ws_Md_open ({ frames := rf, cells := 0, slots := 0, locals := rl } : Room) (dC, dI) vwCl (t_M ca) [.ref (ad 16), .int w] (w_M ad ca d) sz (fun v : TMd => w_M ad ca v) (fun v : TMd => v = op d w)) (sz : Nat) (d : TMd) (hpre : MdS d ∧ k ≤ 0) (F : (Int32 × TMd)) (he : F = f_Md_run op d) : wx_Mi l y_Md_run ws_Md_run ({ frames := rf + 5, cells := 0, slots := 0, locals := rl + 113 } : Room) (dC, dI) vwCl (t_M ca) [.ref (ad 16)] (w_M ad ca d) sz (fun v : TMd => w_M ad ca v) (fun (r : Int32) (v : TMd) => (r, v) = F) := by
  refine Met.ofW (cc := b_Md_run) (maxL := 3) (ret := some .int) (by decide) rfl ?_
  intro p e s m args below meth c s₁ B hml hv
  obtain ⟨rfl, hsz, hP, hK, hD0, hN⟩ := hv
  have hx := B.exec
  have hb := B.bytes
  have hr := B.returns
  have hts := atoms_spec (ws := ws_Md_run) B.pre
  have ht : ∀ w ∈ TB, w.before _ s = true := fun w h => hts w (List.mem_cons_of_mem _ h)
  have hown : s.vm.findClass R_Md = some m.cls := findClass_of_methodNamed B.named
  have hlocks := B.notSynchronized
  subst hsz
  have hD := hD0.self (sz := s.heap.size)
  generalize hAe : va_A (w_M ad ca d) s.heap.size = A at hD ⊢
  have hA : ∀ q : Nat, s.heap.size ≤ q → A q := fun q h => by rw [← hAe]; exact Or.inr h
  have hS : va_S A s.heap s.heap [] := va_S.rf
  have C0 : wx_C p s m ([.ref (ad 16)] : List Value).toArray meth c b_Md_run (some .int) 3 R_Md A (dC, dI) vwCl (t_M ca) := ⟨hx, hb, hr, hml, hown, ht, hlocks, hA, hK, hN⟩
  have hl := lv_entry ([.ref (ad 16)]) (n := 3) (Nat.le_of_ble_eq_true rfl)
  rw [lg_entry_eq]
  generalize (lg_sl ([.ref (ad 16)]) ++ List.replicate (3 - (lg_sl ([.ref (ad 16)])).length) Slot.unset).toArray = ls at hl ⊢
  have hl : lv_has ls 3 [(0, .ref (ad 16))] := hl
  unfold f_Md_run at he
  refine lv_aload_n hx hb d_Md_run_0 rfl (lv_at hl 0 rfl) ?_
  refine lv_iconst (v := 0) hx hb d_Md_run_1 (by decide) ?_
  refine va_put (D := (dC, dI)) (ci := 4) (v := .int 0) (ty := .int) (C := R_Md) (T := T_Md) (N := 23) hx hb ht i_Md ty_Md ty_Md_ok nm_Md hown hK hP hD hS 0 rfl rfl 0 (by decide) (ht _ q_445) (fun _ h9 => h9) rfl (by decide +kernel) rfl rfl (Nat.le_of_ble_eq_true rfl) d_Md_run_2 (fun H locs hP hD hS => ?_)
  have hP : va_P (dC, dI) vwCl (w_M ad ca (TMd_set_thrown d 0)) H := hP
  have hD : va_D A (w_M ad ca (TMd_set_thrown d 0)) := hD
  obtain ⟨d_1, ed_1⟩ : ∃ z, z = (TMd_set_thrown d 0) := ⟨_, rfl⟩
  rw [← ed_1] at he hP hD
  try dsimp only at he
  refine lv_aload_n hx hb d_Md_run_5 rfl (lv_at hl 0 rfl) ?_
  refine va_get (D := (dC, dI)) (ci := 4) (v := .ref (ad 23)) (C := R_Md) (T := T_Md) (N := 23) hx hb ht i_Md hown hK hP 0 rfl rfl 8 (by decide) (ht _ q_453) (fun _ h9 => h9) rfl d_Md_run_6 ?_
  refine lv_iconst (v := 0) hx hb d_Md_run_9 (by decide) ?_
  refine lv_bipush (v := 20) hx hb d_Md_run_10 (by decide) ?_
  refine va_iast (f := (TMd_pileRows d_1)) hx hb hK hP hD hS 7 6 rfl rfl (show vp_in 0 5010 by unfold vp_in; decide) d_Md_run_12 (fun H locs hP hD hS => ?_)
  obtain ⟨g_2, eg_2⟩ : ∃ z, z = (upd (TMd_pileRows d_1) (0 : Int32).toNatClampNeg 20) := ⟨_, rfl⟩
  rw [← eg_2] at he hP hD
  try dsimp only at he
  have hP : va_P (dC, dI) vwCl (w_M ad ca (TMd_set_pileRows d_1 g_2)) H := hP
  have hD : va_D A (w_M ad ca (TMd_set_pileRows d_1 g_2)) := hD
  obtain ⟨d_3, ed_3⟩ : ∃ z, z = (TMd_set_pileRows d_1 g_2) := ⟨_, rfl⟩
  rw [← ed_3] at he hP hD
  try dsimp only at he
  refine lv_aload_n hx hb d_Md_run_13 rfl (lv_at hl 0 rfl) ?_
  refine va_get (D := (dC, dI)) (ci := 4) (v := .ref (ad 24)) (C := R_Md) (T := T_Md) (N := 23) hx hb ht i_Md hown hK hP 0 rfl rfl 9 (by decide) (ht _ q_454) (fun _ h9 => h9) rfl d_Md_run_14 ?_
  refine lv_iconst (v := 0) hx hb d_Md_run_17 (by decide) ?_
  refine lv_iconst (v := 0) hx hb d_Md_run_18 (by decide) ?_
  refine va_iast (f := (TMd_pilePlaces d_3)) hx hb hK hP hD hS 8 7 rfl rfl (show vp_in 0 5010 by unfold vp_in; decide) d_Md_run_19 (fun H locs hP hD hS => ?_)
  obtain ⟨g_4, eg_4⟩ : ∃ z, z = (upd (TMd_pilePlaces d_3) (0 : Int32).toNatClampNeg 0) := ⟨_, rfl⟩
  rw [← eg_4] at he hP hD
  try dsimp only at he
  have hP : va_P (dC, dI) vwCl (w_M ad ca (TMd_set_pilePlaces d_3 g_4)) H := hP
  have hD : va_D A (w_M ad ca (TMd_set_pilePlaces d_3 g_4)) := hD
  obtain ⟨d_5, ed_5⟩ : ∃ z, z = (TMd_set_pilePlaces d_3 g_4) := ⟨_, rfl⟩
  rw [← ed_5] at he hP hD
  try dsimp only at he
  refine lv_aload_n hx hb d_Md_run_20 rfl (lv_at hl 0 rfl) ?_
  refine lv_iconst (v := 1) hx hb d_Md_run_21 (by decide) ?_
  refine va_put (D := (dC, dI)) (ci := 4) (v := .int 1) (ty := .int) (C := R_Md) (T := T_Md) (N := 23) hx hb ht i_Md ty_Md ty_Md_ok nm_Md hown hK hP hD hS 0 rfl rfl 10 (by decide) (ht _ q_455) (fun _ h9 => h9) rfl (by decide +kernel) rfl rfl (Nat.le_of_ble_eq_true rfl) d_Md_run_22 (fun H locs hP hD hS => ?_)
  have hP : va_P (dC, dI) vwCl (w_M ad ca (TMd_set_pile d_5 1)) H := hP
  have hD : va_D A (w_M ad ca (TMd_set_pile d_5 1)) := hD
  obtain ⟨d_6, ed_6⟩ : ∃ z, z = (TMd_set_pile d_5 1) := ⟨_, rfl⟩
  rw [← ed_6] at he hP hD
  try dsimp only at he
  refine lv_aload_n hx hb d_Md_run_25 rfl (lv_at hl 0 rfl) ?_
  refine lv_iconst (v := (-1)) hx hb d_Md_run_26 (by decide) ?_
  refine va_put (D := (dC, dI)) (ci := 4) (v := .int (-1)) (ty := .int) (C := R_Md) (T := T_Md) (N := 23) hx hb ht i_Md ty_Md ty_Md_ok nm_Md hown hK hP hD hS 0 rfl rfl 11 (by decide) (ht _ q_456) (fun _ h9 => h9) rfl (by decide +kernel) rfl rfl (Nat.le_of_ble_eq_true rfl) d_Md_run_27 (fun H locs hP hD hS => ?_)
  have hP : va_P (dC, dI) vwCl (w_M ad ca (TMd_set_held d_6 (-1))) H := hP
  have hD : va_D A (w_M ad ca (TMd_set_held d_6 (-1))) := hD
  obtain ⟨d_7, ed_7⟩ : ∃ z, z = (TMd_set_held d_6 (-1)) := ⟨_, rfl⟩
  rw [← ed_7] at he hP hD
  try dsimp only at he
  refine lv_aload_n hx hb d_Md_run_30 rfl (lv_at hl 0 rfl) ?_
  refine lv_iconst (v := 0) hx hb d_Md_run_31 (by decide) ?_
  refine va_put (D := (dC, dI)) (ci := 4) (v := .int 0) (ty := .int) (C := R_Md) (T := T_Md) (N := 23) hx hb ht i_Md ty_Md ty_Md_ok nm_Md hown hK hP hD hS 0 rfl rfl 12 (by decide) (ht _ q_457) (fun _ h9 => h9) rfl (by decide +kernel) rfl rfl (Nat.le_of_ble_eq_true rfl) d_Md_run_32 (fun H locs hP hD hS => ?_)
  have hP : va_P (dC, dI) vwCl (w_M ad ca (TMd_set_steps d_7 0)) H := hP
  have hD : va_D A (w_M ad ca (TMd_set_steps d_7 0)) := hD
  obtain ⟨d_8, ed_8⟩ : ∃ z, z = (TMd_set_steps d_7 0) := ⟨_, rfl⟩
  rw [← ed_8] at he hP hD
  try dsimp only at he
  refine lv_aload_n hx hb d_Md_run_35 rfl (lv_at hl 0 rfl) ?_
  refine lv_iconst (v := 0) hx hb d_Md_run_36 (by decide) ?_
  refine va_put (D := (dC, dI)) (ci := 4) (v := .int 0) (ty := .int) (C := R_Md) (T := T_Md) (N := 23) hx hb ht i_Md ty_Md ty_Md_ok nm_Md hown hK hP hD hS 0 rfl rfl 13 (by decide) (ht _ q_458) (fun _ h9 => h9) rfl (by decide +kernel) rfl rfl (Nat.le_of_ble_eq_true rfl) d_Md_run_37 (fun H locs hP hD hS => ?_)
  have hP : va_P (dC, dI) vwCl (w_M ad ca (TMd_set_fault d_8 0)) H := hP
  have hD : va_D A (w_M ad ca (TMd_set_fault d_8 0)) := hD
  obtain ⟨d_9, ed_9⟩ : ∃ z, z = (TMd_set_fault d_8 0) := ⟨_, rfl⟩
  rw [← ed_9] at he hP hD
  try dsimp only at he
  refine lv_aload_n hx hb d_Md_run_40 rfl (lv_at hl 0 rfl) ?_
  refine lv_iconst (v := 0) hx hb d_Md_run_41 (by decide) ?_
  refine va_put (D := (dC, dI)) (ci := 4) (v := .int 0) (ty := .int) (C := R_Md) (T := T_Md) (N := 23) hx hb ht i_Md ty_Md ty_Md_ok nm_Md hown hK hP hD hS 0 rfl rfl 15 (by decide) (ht _ q_460) (fun _ h9 => h9) rfl (by decide +kernel) rfl rfl (Nat.le_of_ble_eq_true rfl) d_Md_run_42 (fun H locs hP hD hS => ?_)
  have hP : va_P (dC, dI) vwCl (w_M ad ca (TMd_set_outSize d_9 0)) H := hP
  have hD : va_D A (w_M ad ca (TMd_set_outSize d_9 0)) := hD
  obtain ⟨d_10, ed_10⟩ : ∃ z, z = (TMd_set_outSize d_9 0) := ⟨_, rfl⟩
  rw [← ed_10] at he hP hD
  try dsimp only at he
  refine lv_aload_n hx hb d_Md_run_45 rfl (lv_at hl 0 rfl) ?_
  refine lv_iconst (v := 0) hx hb d_Md_run_46 (by decide) ?_
  refine va_put (D := (dC, dI)) (ci := 4) (v := .int 0) (ty := .int) (C := R_Md) (T := T_Md) (N := 23) hx hb ht i_Md ty_Md ty_Md_ok nm_Md hown hK hP hD hS 0 rfl rfl 16 (by decide) (ht _ q_461) (fun _ h9 => h9) rfl (by decide +kernel) rfl rfl (Nat.le_of_ble_eq_true rfl) d_Md_run_47 (fun H locs hP hD hS => ?_)
  have hP : va_P (dC, dI) vwCl (w_M ad ca (TMd_set_opened d_10 0)) H := hP
  have hD : va_D A (w_M ad ca (TMd_set_opened d_10 0)) := hD
  obtain ⟨d_11, ed_11⟩ : ∃ z, z = (TMd_set_opened d_10 0) := ⟨_, rfl⟩
  rw [← ed_11] at he hP hD
  try dsimp only at he
  refine lv_aload_n hx hb d_Md_run_50 rfl (lv_at hl 0 rfl) ?_
  refine lv_iconst (v := 0) hx hb d_Md_run_51 (by decide) ?_
  refine va_put (D := (dC, dI)) (ci := 4) (v := .int 0) (ty := .int) (C := R_Md) (T := T_Md) (N := 23) hx hb ht i_Md ty_Md ty_Md_ok nm_Md hown hK hP hD hS 0 rfl rfl 17 (by decide) (ht _ q_462) (fun _ h9 => h9) rfl (by decide +kernel) rfl rfl (Nat.le_of_ble_eq_true rfl) d_Md_run_52 (fun H locs hP hD hS => ?_)
  have hP : va_P (dC, dI) vwCl (w_M ad ca (TMd_set_most d_11 0)) H := hP
  have hD : va_D A (w_M ad ca (TMd_set_most d_11 0)) := hD
  obtain ⟨d_12, ed_12⟩ : ∃ z, z = (TMd_set_most d_11 0) := ⟨_, rfl⟩
  rw [← ed_12] at he hP hD
  try dsimp only at he
  refine lv_aload_n hx hb d_Md_run_55 rfl (lv_at hl 0 rfl) ?_
  refine lv_iconst (v := 0) hx hb d_Md_run_56 (by decide) ?_
  refine va_put (D := (dC, dI)) (ci := 4) (v := .int 0) (ty := .int) (C := R_Md) (T := T_Md) (N := 23) hx hb ht i_Md ty_Md ty_Md_ok nm_Md hown hK hP hD hS 0 rfl rfl 18 (by decide) (ht _ q_463) (fun _ h9 => h9) rfl (by decide +kernel) rfl rfl (Nat.le_of_ble_eq_true rfl) d_Md_run_57 (fun H locs hP hD hS => ?_)
  have hP : va_P (dC, dI) vwCl (w_M ad ca (TMd_set_skipped d_12 0)) H := hP
  have hD : va_D A (w_M ad ca (TMd_set_skipped d_12 0)) := hD
  obtain ⟨d_13, ed_13⟩ : ∃ z, z = (TMd_set_skipped d_12 0) := ⟨_, rfl⟩
  rw [← ed_13] at he hP hD
  try dsimp only at he
  refine lv_aload_n hx hb d_Md_run_60 rfl (lv_at hl 0 rfl) ?_
  refine lv_iconst (v := 0) hx hb d_Md_run_61 (by decide) ?_
  refine va_put (D := (dC, dI)) (ci := 4) (v := .int 0) (ty := .int) (C := R_Md) (T := T_Md) (N := 23) hx hb ht i_Md ty_Md ty_Md_ok nm_Md hown hK hP hD hS 0 rfl rfl 21 (by decide) (ht _ q_466) (fun _ h9 => h9) rfl (by decide +kernel) rfl rfl (Nat.le_of_ble_eq_true rfl) d_Md_run_62 (fun H locs hP hD hS => ?_)
  have hP : va_P (dC, dI) vwCl (w_M ad ca (TMd_set_open d_13 0)) H := hP
  have hD : va_D A (w_M ad ca (TMd_set_open d_13 0)) := hD
  obtain ⟨d_14, ed_14⟩ : ∃ z, z = (TMd_set_open d_13 0) := ⟨_, rfl⟩
  rw [← ed_14] at he hP hD
  try dsimp only at he
  refine lv_iconst (v := 0) hx hb d_Md_run_65 (by decide) ?_
  refine lv_istore_n (lv' := [(1, .int 0), (0, .ref (ad 16))]) hx hb d_Md_run_66 rfl hl (by decide) rfl (fun ls hl => ?_)
  exact k_Md_run_67 l dC dI ad ca op rf rl k hopm hop C0 F 101 d_14 0 ⟨ru_0 hpre.1 (by rw [eg_2]; rfl) (by rw [eg_4]; rfl) ed_1 ed_3 ed_5 ed_6 ed_7 ed_8 ed_9 ed_10 ed_11 ed_12 ed_13 ed_14, hpre.2, TLn_i (by omega) (by omega)⟩ he _ _ hP hD hS _ (lv_sub hl [1, 0] rfl)
