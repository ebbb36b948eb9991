theorem q_30 : Cond.selects R_Md y_Md_answer y_Md_answer ∈ TB := tq 30 (by decide +kernel) rfl
theorem q_587 : Cond.methodLink R_Md 140 y_Md_answer ∈ TB := tq 587 (by decide +kernel) rfl
theorem q_589 : Cond.instanceMethod y_Md_answer ∈ TB := tq 589 (by decide +kernel) rfl
theorem q_590 : Cond.code y_Md_answer b_Md_answer 6 (some .int) ∈ TB := tq 590 (by decide +kernel) rfl
theorem d_Md_open_0 : decode b_Md_open 0 = .ok (.aload_n 0, 1) := by decide +kernel
theorem d_Md_open_1 : decode b_Md_open 1 = .ok (.getfield 104, 3) := by decide +kernel
theorem d_Md_open_4 : decode b_Md_open 4 = .ok (.bipush 20, 2) := by decide +kernel
theorem d_Md_open_6 : decode b_Md_open 6 = .ok (.if_icmp .ne 9, 3) := by decide +kernel
theorem d_Md_open_9 : decode b_Md_open 9 = .ok (.aload_n 0, 1) := by decide +kernel
theorem d_Md_open_10 : decode b_Md_open 10 = .ok (.iconst 5, 1) := by decide +kernel
theorem d_Md_open_11 : decode b_Md_open 11 = .ok (.invokevirtual 84, 3) := by decide +kernel
theorem d_Md_open_14 : decode b_Md_open 14 = .ok (.return_, 1) := by decide +kernel
theorem d_Md_open_15 : decode b_Md_open 15 = .ok (.aload_n 0, 1) := by decide +kernel
theorem d_Md_open_16 : decode b_Md_open 16 = .ok (.getfield 134, 3) := by decide +kernel
theorem d_Md_open_19 : decode b_Md_open 19 = .ok (.istore_n 2, 1) := by decide +kernel
theorem d_Md_open_20 : decode b_Md_open 20 = .ok (.aload_n 0, 1) := by decide +kernel
theorem d_Md_open_21 : decode b_Md_open 21 = .ok (.getfield 104, 3) := by decide +kernel
theorem d_Md_open_24 : decode b_Md_open 24 = .ok (.istore_n 3, 1) := by decide +kernel
theorem d_Md_open_25 : decode b_Md_open 25 = .ok (.aload_n 0, 1) := by decide +kernel
theorem d_Md_open_26 : decode b_Md_open 26 = .ok (.dup, 1) := by decide +kernel
theorem d_Md_open_27 : decode b_Md_open 27 = .ok (.getfield 134, 3) := by decide +kernel
theorem d_Md_open_30 : decode b_Md_open 30 = .ok (.iconst 1, 1) := by decide +kernel
theorem d_Md_open_31 : decode b_Md_open 31 = .ok (.iadd, 1) := by decide +kernel
theorem d_Md_open_32 : decode b_Md_open 32 = .ok (.putfield 134, 3) := by decide +kernel
theorem d_Md_open_35 : decode b_Md_open 35 = .ok (.aload_n 0, 1) := by decide +kernel
theorem d_Md_open_36 : decode b_Md_open 36 = .ok (.getfield 41, 3) := by decide +kernel
theorem d_Md_open_39 : decode b_Md_open 39 = .ok (.aload_n 0, 1) := by decide +kernel
theorem d_Md_open_40 : decode b_Md_open 40 = .ok (.getfield 104, 3) := by decide +kernel
theorem d_Md_open_43 : decode b_Md_open 43 = .ok (.iconst 0, 1) := by decide +kernel
theorem d_Md_open_44 : decode b_Md_open 44 = .ok (.iastore, 1) := by decide +kernel
theorem d_Md_open_45 : decode b_Md_open 45 = .ok (.aload_n 0, 1) := by decide +kernel
theorem d_Md_open_46 : decode b_Md_open 46 = .ok (.dup, 1) := by decide +kernel
theorem d_Md_open_47 : decode b_Md_open 47 = .ok (.getfield 104, 3) := by decide +kernel
theorem d_Md_open_50 : decode b_Md_open 50 = .ok (.iconst 1, 1) := by decide +kernel
theorem d_Md_open_51 : decode b_Md_open 51 = .ok (.iadd, 1) := by decide +kernel
theorem d_Md_open_52 : decode b_Md_open 52 = .ok (.putfield 104, 3) := by decide +kernel
theorem d_Md_open_55 : decode b_Md_open 55 = .ok (.aload_n 0, 1) := by decide +kernel
theorem d_Md_open_56 : decode b_Md_open 56 = .ok (.aload_n 0, 1) := by decide +kernel
theorem d_Md_open_57 : decode b_Md_open 57 = .ok (.getfield 104, 3) := by decide +kernel
theorem d_Md_open_60 : decode b_Md_open 60 = .ok (.aload_n 0, 1) := by decide +kernel
theorem d_Md_open_61 : decode b_Md_open 61 = .ok (.getfield 137, 3) := by decide +kernel
theorem d_Md_open_64 : decode b_Md_open 64 = .ok (.if_icmp .le 10, 3) := by decide +kernel
theorem d_Md_open_67 : decode b_Md_open 67 = .ok (.aload_n 0, 1) := by decide +kernel
theorem d_Md_open_68 : decode b_Md_open 68 = .ok (.getfield 104, 3) := by decide +kernel
theorem d_Md_open_71 : decode b_Md_open 71 = .ok (.goto 7, 3) := by decide +kernel
theorem d_Md_open_74 : decode b_Md_open 74 = .ok (.aload_n 0, 1) := by decide +kernel
theorem d_Md_open_75 : decode b_Md_open 75 = .ok (.getfield 137, 3) := by decide +kernel
theorem d_Md_open_78 : decode b_Md_open 78 = .ok (.putfield 137, 3) := by decide +kernel
theorem d_Md_open_81 : decode b_Md_open 81 = .ok (.aload_n 0, 1) := by decide +kernel
theorem d_Md_open_82 : decode b_Md_open 82 = .ok (.iload_n 1, 1) := by decide +kernel
theorem d_Md_open_83 : decode b_Md_open 83 = .ok (.iload_n 3, 1) := by decide +kernel
theorem d_Md_open_84 : decode b_Md_open 84 = .ok (.invokevirtual 140, 3) := by decide +kernel
theorem d_Md_open_87 : decode b_Md_open 87 = .ok (.istore 4, 2) := by decide +kernel
theorem d_Md_open_89 : decode b_Md_open 89 = .ok (.aload_n 0, 1) := by decide +kernel
theorem d_Md_open_90 : decode b_Md_open 90 = .ok (.getfield 72, 3) := by decide +kernel
theorem d_Md_open_93 : decode b_Md_open 93 = .ok (.ifCond .ne 19, 3) := by decide +kernel
theorem d_Md_open_96 : decode b_Md_open 96 = .ok (.aload_n 0, 1) := by decide +kernel
theorem d_Md_open_97 : decode b_Md_open 97 = .ok (.getfield 104, 3) := by decide +kernel
theorem d_Md_open_100 : decode b_Md_open 100 = .ok (.iload_n 3, 1) := by decide +kernel
theorem d_Md_open_101 : decode b_Md_open 101 = .ok (.iconst 1, 1) := by decide +kernel
theorem d_Md_open_102 : decode b_Md_open 102 = .ok (.iadd, 1) := by decide +kernel
theorem d_Md_open_103 : decode b_Md_open 103 = .ok (.if_icmp .le 9, 3) := by decide +kernel
theorem d_Md_open_106 : decode b_Md_open 106 = .ok (.aload_n 0, 1) := by decide +kernel
theorem d_Md_open_107 : decode b_Md_open 107 = .ok (.bipush 6, 2) := by decide +kernel
theorem d_Md_open_109 : decode b_Md_open 109 = .ok (.invokevirtual 84, 3) := by decide +kernel
theorem d_Md_open_112 : decode b_Md_open 112 = .ok (.aload_n 0, 1) := by decide +kernel
theorem d_Md_open_113 : decode b_Md_open 113 = .ok (.getfield 72, 3) := by decide +kernel
theorem d_Md_open_116 : decode b_Md_open 116 = .ok (.ifCond .le 4, 3) := by decide +kernel
theorem d_Md_open_119 : decode b_Md_open 119 = .ok (.return_, 1) := by decide +kernel
theorem d_Md_open_120 : decode b_Md_open 120 = .ok (.iload_n 1, 1) := by decide +kernel
theorem d_Md_open_121 : decode b_Md_open 121 = .ok (.bipush 7, 2) := by decide +kernel
theorem d_Md_open_123 : decode b_Md_open 123 = .ok (.if_icmp .ne 7, 3) := by decide +kernel
theorem d_Md_open_126 : decode b_Md_open 126 = .ok (.iconst 1, 1) := by decide +kernel
theorem d_Md_open_127 : decode b_Md_open 127 = .ok (.goto 4, 3) := by decide +kernel
theorem d_Md_open_130 : decode b_Md_open 130 = .ok (.iconst 0, 1) := by decide +kernel
theorem d_Md_open_131 : decode b_Md_open 131 = .ok (.istore 5, 2) := by decide +kernel
theorem d_Md_open_133 : decode b_Md_open 133 = .ok (.iload_n 2, 1) := by decide +kernel
theorem d_Md_open_134 : decode b_Md_open 134 = .ok (.bipush 100, 2) := by decide +kernel
theorem d_Md_open_136 : decode b_Md_open 136 = .ok (.if_icmp .ge 32, 3) := by decide +kernel
theorem d_Md_open_139 : decode b_Md_open 139 = .ok (.aload_n 0, 1) := by decide +kernel
theorem d_Md_open_140 : decode b_Md_open 140 = .ok (.getfield 38, 3) := by decide +kernel
theorem d_Md_open_143 : decode b_Md_open 143 = .ok (.iload_n 2, 1) := by decide +kernel
theorem d_Md_open_144 : decode b_Md_open 144 = .ok (.iload 5, 2) := by decide +kernel
theorem d_Md_open_146 : decode b_Md_open 146 = .ok (.ifCond .ne 8, 3) := by decide +kernel
theorem d_Md_open_149 : decode b_Md_open 149 = .ok (.iload 4, 2) := by decide +kernel
theorem d_Md_open_151 : decode b_Md_open 151 = .ok (.goto 16, 3) := by decide +kernel
theorem d_Md_open_154 : decode b_Md_open 154 = .ok (.iload 4, 2) := by decide +kernel
theorem d_Md_open_156 : decode b_Md_open 156 = .ok (.ifCond .ge 7, 3) := by decide +kernel
theorem d_Md_open_159 : decode b_Md_open 159 = .ok (.iconst (-1), 1) := by decide +kernel
theorem d_Md_open_160 : decode b_Md_open 160 = .ok (.goto 7, 3) := by decide +kernel
theorem d_Md_open_163 : decode b_Md_open 163 = .ok (.iload 4, 2) := by decide +kernel
theorem d_Md_open_165 : decode b_Md_open 165 = .ok (.iconst 2, 1) := by decide +kernel
theorem d_Md_open_166 : decode b_Md_open 166 = .ok (.iadd, 1) := by decide +kernel
theorem d_Md_open_167 : decode b_Md_open 167 = .ok (.iastore, 1) := by decide +kernel
theorem d_Md_open_168 : decode b_Md_open 168 = .ok (.iload 5, 2) := by decide +kernel
theorem d_Md_open_170 : decode b_Md_open 170 = .ok (.ifCond .eq 26, 3) := by decide +kernel
theorem d_Md_open_173 : decode b_Md_open 173 = .ok (.aload_n 0, 1) := by decide +kernel
theorem d_Md_open_174 : decode b_Md_open 174 = .ok (.getfield 41, 3) := by decide +kernel
theorem d_Md_open_177 : decode b_Md_open 177 = .ok (.iload_n 3, 1) := by decide +kernel
theorem d_Md_open_178 : decode b_Md_open 178 = .ok (.iconst 3, 1) := by decide +kernel
theorem d_Md_open_179 : decode b_Md_open 179 = .ok (.iastore, 1) := by decide +kernel
theorem d_Md_open_180 : decode b_Md_open 180 = .ok (.iload 4, 2) := by decide +kernel
theorem d_Md_open_182 : decode b_Md_open 182 = .ok (.ifCond .eq 37, 3) := by decide +kernel
theorem d_Md_open_185 : decode b_Md_open 185 = .ok (.aload_n 0, 1) := by decide +kernel
theorem d_Md_open_186 : decode b_Md_open 186 = .ok (.iconst 1, 1) := by decide +kernel
theorem d_Md_open_187 : decode b_Md_open 187 = .ok (.iconst 0, 1) := by decide +kernel
theorem d_Md_open_188 : decode b_Md_open 188 = .ok (.iload 4, 2) := by decide +kernel
theorem d_Md_open_190 : decode b_Md_open 190 = .ok (.invokevirtual 144, 3) := by decide +kernel
theorem d_Md_open_193 : decode b_Md_open 193 = .ok (.goto 26, 3) := by decide +kernel
theorem d_Md_open_196 : decode b_Md_open 196 = .ok (.iload 4, 2) := by decide +kernel
theorem d_Md_open_198 : decode b_Md_open 198 = .ok (.iconst 1, 1) := by decide +kernel
theorem d_Md_open_199 : decode b_Md_open 199 = .ok (.if_icmp .ne 13, 3) := by decide +kernel
theorem d_Md_open_202 : decode b_Md_open 202 = .ok (.aload_n 0, 1) := by decide +kernel
theorem d_Md_open_203 : decode b_Md_open 203 = .ok (.getfield 41, 3) := by decide +kernel
theorem d_Md_open_206 : decode b_Md_open 206 = .ok (.iload_n 3, 1) := by decide +kernel
theorem d_Md_open_207 : decode b_Md_open 207 = .ok (.iconst 1, 1) := by decide +kernel
theorem d_Md_open_208 : decode b_Md_open 208 = .ok (.iastore, 1) := by decide +kernel
theorem d_Md_open_209 : decode b_Md_open 209 = .ok (.goto 10, 3) := by decide +kernel
theorem d_Md_open_212 : decode b_Md_open 212 = .ok (.aload_n 0, 1) := by decide +kernel
theorem d_Md_open_213 : decode b_Md_open 213 = .ok (.iconst 0, 1) := by decide +kernel
theorem d_Md_open_214 : decode b_Md_open 214 = .ok (.iconst 0, 1) := by decide +kernel
theorem d_Md_open_215 : decode b_Md_open 215 = .ok (.iconst (-1), 1) := by decide +kernel
theorem d_Md_open_216 : decode b_Md_open 216 = .ok (.invokevirtual 144, 3) := by decide +kernel
theorem d_Md_open_219 : decode b_Md_open 219 = .ok (.return_, 1) := by decide +kernel
noncomputable def f_Md_open_s_120 (op : TMd → Int32 → TMd) (d : TMd) (x1 : Int32) (x2 : Int32) (x3 : Int32) (x4 : Int32) : TMd := (if x1 = 7 then (if 100 ≤ x2 then (let g_18 := (upd (TMd_phases d) x3.toNatClampNeg 3); (let d_19 := (TMd_set_phases d g_18); (if x4 = 0 then d_19 else (let v_21 := f_Md_skip d_19 1 0 x4; v_21)))) else (if 0 ≤ x4 then (let y_24 := (x4 + 2); (let g_25 := (upd (TMd_decided d) x2.toNatClampNeg y_24); (let d_26 := (TMd_set_decided d g_25); (let g_28 := (upd (TMd_phases d_26) x3.toNatClampNeg 3); (let d_29 := (TMd_set_phases d_26 g_28); (if x4 = 0 then d_29 else (let v_31 := f_Md_skip d_29 1 0 x4; v_31))))))) else (let g_32 := (upd (TMd_decided d) x2.toNatClampNeg (-1)); (let d_33 := (TMd_set_decided d g_32); (let g_35 := (upd (TMd_phases d_33) x3.toNatClampNeg 3); (let d_36 := (TMd_set_phases d_33 g_35); (if x4 = 0 then d_36 else (let v_38 := f_Md_skip d_36 1 0 x4; v_38)))))))) else (if 100 ≤ x2 then (if x4 = 1 then (let g_6 := (upd (TMd_phases d) x3.toNatClampNeg 1); (let d_7 := (TMd_set_phases d g_6); d_7)) else (let v_5 := f_Md_skip d 0 0 (-1); v_5)) else (let g_9 := (upd (TMd_decided d) x2.toNatClampNeg x4); (let d_10 := (TMd_set_decided d g_9); (if x4 = 1 then (let g_14 := (upd (TMd_phases d_10) x3.toNatClampNeg 1); (let d_15 := (TMd_set_phases d_10 g_14); d_15)) else (let v_13 := f_Md_skip d_10 0 0 (-1); v_13))))))
set_option maxHeartbeats 4000000 in
set_option maxRecDepth 100000 in
theorem k_Md_open_s_120 {p : Program} {e : Env} {s : State} {m : MethodId} {args : Array Value} {below : List Frame} {meth : Method} {c : Code} {A : Nat → Prop} (l : Launch) (dC : Nat → ClassId) (dI : Nat → Nat → Nat) (ad : Nat → Nat) (ca : Nat → ClassId) (op : TMd → Int32 → TMd) (rf rl : Nat) (k : Int) (hopm : ∀ (d : TMd) (w : Int32), OPP k d → LVS 0 d (op d w)) (hop : ∀ (sz : Nat) (d : TMd) (w : Int32), OPP k d → wx_Mv l y_Md_open ws_Md_open ({ frames := rf, cells := 0, slots := 0, locals := rl } : Room) (dC, dI) vwCl (t_M ca) [.ref (ad 16), .int w] (w_M ad ca d) sz (fun v : TMd => w_M ad ca v) (fun v : TMd => v = op d w)) (C0 : wx_C p s m args meth c b_Md_open (none) 6 R_Md A (dC, dI) vwCl (t_M ca)) (F : TMd) : ∀ (d : TMd) (x1 : Int32) (x2 : Int32) (x3 : Int32) (x4 : Int32), (APk k x3 d ∧ 0 ≤ x2.toInt ∧ x3.toInt < 20) → F = f_Md_open_s_120 op d x1 x2 x3 x4 → ∀ (H : Heap) (locs : List Loc), va_P (dC, dI) vwCl (w_M ad ca d) H → va_D A (w_M ad ca d) → va_S A s.heap H locs → ∀ (ls : Array Slot), lv_has ls 6 [(0, .ref (ad 16)), (1, .int x1), (2, .int x2), (3, .int x3), (4, .int x4)] → W p l e ({ frames := rf + 8, cells := 0, slots := 0, locals := rl + 187 } : Room) s m args below meth c H locs 0 0 (MQ below (va_Qv (fun v : TMd => v = F) (wx_B (dC, dI) vwCl (t_M ca) (fun v : TMd => w_M ad ca v) A) A) args s 0 0 A) (F0 m 120 ls []) := by
  have C1 := C0
  obtain ⟨hx, hb, hr, hml, hown, ht, hlocks, hA, hK, hN⟩ := C1
  intro d x1 x2 x3 x4 hc he H locs hP hD hS ls hl
  unfold f_Md_open_s_120 at he
  refine lv_iload_n hx hb d_Md_open_120 rfl (lv_at hl 1 rfl) ?_
  refine lv_bipush (v := 7) hx hb d_Md_open_121 (by decide) ?_
  refine lv_icmp_ne (tgt := 130) hx hb d_Md_open_123 (by decide) (fun c_1 => ?_) (fun c_1 => ?_)
  · have he := he.trans (if_neg c_1)
    refine lv_iconst (v := 0) hx hb d_Md_open_130 (by decide) ?_
    refine lv_istore (lv' := [(5, .int 0), (0, .ref (ad 16)), (1, .int x1), (2, .int x2), (3, .int x3), (4, .int x4)]) hx hb d_Md_open_131 hl (by decide) rfl (fun ls hl => ?_)
    refine lv_iload_n hx hb d_Md_open_133 rfl (lv_at hl 3 rfl) ?_
    refine lv_bipush (v := 100) hx hb d_Md_open_134 (by decide) ?_
    refine lv_icmp_ge (tgt := 168) hx hb d_Md_open_136 (by decide) (fun c_2 => ?_) (fun c_2 => ?_)
    · have he := he.trans (if_pos c_2)
      refine lv_iload hx hb d_Md_open_168 (lv_at hl 0 rfl) ?_
      refine lv_if_eq (tgt := 196) hx hb d_Md_open_170 (by decide) (fun c_3 => ?_) (fun c_3 => ?_)
      · refine lv_iload hx hb d_Md_open_196 (lv_at hl 5 rfl) ?_
        refine lv_iconst (v := 1) hx hb d_Md_open_198 (by decide) ?_
        refine lv_icmp_ne (tgt := 212) hx hb d_Md_open_199 (by decide) (fun c_4 => ?_) (fun c_4 => ?_)
        · have he := he.trans (if_neg c_4)
          refine lv_aload_n hx hb d_Md_open_212 rfl (lv_at hl 1 rfl) ?_
          refine lv_iconst (v := 0) hx hb d_Md_open_213 (by decide) ?_
          refine lv_iconst (v := 0) hx hb d_Md_open_214 (by decide) ?_
          refine lv_iconst (v := (-1)) hx hb d_Md_open_215 (by decide) ?_
          refine wx_cv (wS := fun v : TMd => w_M ad ca v) (ws2 := fun v : TMd => w_M ad ca v) (va_runV (As := [.int 0, .int 0, .int (-1)]) (rest := []) ⟨hx, hb, hml, hown, ht⟩ (c_Md_skip l dC dI ad ca H.size d 0 0 (-1) (ap_bp hc.1) _ rfl) (cwV 3 ht (tb_V q_607 q_609 q_35 q_47 q_610) rfl rfl rfl p_Md_skip ⟨show 3 + 1 ≤ rf + 8 by omega, show 8 + (9 + 11) + 63 ≤ rl + 187 by omega⟩) (wx_preV (wc := (w_M ad ca d)) hN hK hP hD [0, 1, 2, 3, 4, 5, 6, 7, 8, 9, 10, 11] [0, 1, 2, 3, 4, 5, 6, 7, 8, 9, 10] rfl (by decide) rfl (ci := 4) (q0 := 0) rfl rfl) rfl rfl hl.1 rfl (lv_room (Nat.le_of_ble_eq_true rfl)) d_Md_open_216 ⟨Nat.zero_le _, Nat.zero_le _⟩) hP hD hS hA [0, 1, 2, 3, 4, 5, 6, 7, 8, 9, 10, 11] [] [0, 1, 2, 3, 4, 5, 6, 7, 8, 9, 10, 11] rfl rfl (by decide) (by decide) (by decide) (fun _ => rfl) (fun v_5 H locs hw_5 hP hD hS => ?_)
          have hP : va_P (dC, dI) vwCl (w_M ad ca v_5) H := hP
          have hD : va_D A (w_M ad ca v_5) := hD
          rw [← hw_5] at he
          try dsimp only at he
          exact W.vret hx hb hr (fun t ht hW => ⟨⟨v_5, rfl, he.symm, by rw [ht]; exact hP, va_K.moved hW.alike hK, hD⟩, hS.F ht⟩) hS.2.2 d_Md_open_219
        · have he := he.trans (if_pos c_4)
          refine lv_aload_n hx hb d_Md_open_202 rfl (lv_at hl 1 rfl) ?_
          refine va_get (D := (dC, dI)) (ci := 4) (v := .ref (ad 27)) (C := R_Md) (T := T_Md) (N := 23) hx hb ht i_Md hown hK hP 0 rfl rfl 20 (by decide) (ht _ q_465) (fun _ h9 => h9) rfl d_Md_open_203 ?_
          refine lv_iload_n hx hb d_Md_open_206 rfl (lv_at hl 4 rfl) ?_
          refine lv_iconst (v := 1) hx hb d_Md_open_207 (by decide) ?_
          refine va_iast (f := (TMd_phases d)) hx hb hK hP hD hS 11 10 rfl rfl (vp_of hc.1.2.2.1 hc.2.2) d_Md_open_208 (fun H locs hP hD hS => ?_)
          obtain ⟨g_6, eg_6⟩ : ∃ z, z = (upd (TMd_phases d) x3.toNatClampNeg 1) := ⟨_, rfl⟩
          rw [← eg_6] at he hP hD
          try dsimp only at he
          have hP : va_P (dC, dI) vwCl (w_M ad ca (TMd_set_phases d g_6)) H := hP
          have hD : va_D A (w_M ad ca (TMd_set_phases d g_6)) := hD
          obtain ⟨d_7, ed_7⟩ : ∃ z, z = (TMd_set_phases d g_6) := ⟨_, rfl⟩
          rw [← ed_7] at he hP hD
          try dsimp only at he
          refine lv_goto (tgt := 219) hx hb d_Md_open_209 (by decide) ?_
          exact W.vret hx hb hr (fun t ht hW => ⟨⟨d_7, rfl, he.symm, by rw [ht]; exact hP, va_K.moved hW.alike hK, hD⟩, hS.F ht⟩) hS.2.2 d_Md_open_219
      · exact absurd c_3 (by decide)
    · have he := he.trans (if_neg c_2)
      refine lv_aload_n hx hb d_Md_open_139 rfl (lv_at hl 1 rfl) ?_
      refine va_get (D := (dC, dI)) (ci := 4) (v := .ref (ad 26)) (C := R_Md) (T := T_Md) (N := 23) hx hb ht i_Md hown hK hP 0 rfl rfl 19 (by decide) (ht _ q_464) (fun _ h9 => h9) rfl d_Md_open_140 ?_
      refine lv_iload_n hx hb d_Md_open_143 rfl (lv_at hl 3 rfl) ?_
      refine lv_iload hx hb d_Md_open_144 (lv_at hl 0 rfl) ?_
      refine lv_if_ne (tgt := 154) hx hb d_Md_open_146 (by decide) (fun c_8 => ?_) (fun c_8 => ?_)
      · exact absurd c_8 (by decide)
      · refine lv_iload hx hb d_Md_open_149 (lv_at hl 5 rfl) ?_
        refine lv_goto (tgt := 167) hx hb d_Md_open_151 (by decide) ?_
        refine va_iast (f := (TMd_decided d)) hx hb hK hP hD hS 10 9 rfl rfl (op_de hc.2.1 c_2) d_Md_open_167 (fun H locs hP hD hS => ?_)
        obtain ⟨g_9, eg_9⟩ : ∃ z, z = (upd (TMd_decided d) x2.toNatClampNeg x4) := ⟨_, rfl⟩
        rw [← eg_9] at he hP hD
        try dsimp only at he
        have hP : va_P (dC, dI) vwCl (w_M ad ca (TMd_set_decided d g_9)) H := hP
        have hD : va_D A (w_M ad ca (TMd_set_decided d g_9)) := hD
        obtain ⟨d_10, ed_10⟩ : ∃ z, z = (TMd_set_decided d g_9) := ⟨_, rfl⟩
        rw [← ed_10] at he hP hD
        try dsimp only at he
        refine lv_iload hx hb d_Md_open_168 (lv_at hl 0 rfl) ?_
        refine lv_if_eq (tgt := 196) hx hb d_Md_open_170 (by decide) (fun c_11 => ?_) (fun c_11 => ?_)
        · refine lv_iload hx hb d_Md_open_196 (lv_at hl 5 rfl) ?_
          refine lv_iconst (v := 1) hx hb d_Md_open_198 (by decide) ?_
          refine lv_icmp_ne (tgt := 212) hx hb d_Md_open_199 (by decide) (fun c_12 => ?_) (fun c_12 => ?_)
          · have he := he.trans (if_neg c_12)
            refine lv_aload_n hx hb d_Md_open_212 rfl (lv_at hl 1 rfl) ?_
            refine lv_iconst (v := 0) hx hb d_Md_open_213 (by decide) ?_
            refine lv_iconst (v := 0) hx hb d_Md_open_214 (by decide) ?_
            refine lv_iconst (v := (-1)) hx hb d_Md_open_215 (by decide) ?_
            refine wx_cv (wS := fun v : TMd => w_M ad ca v) (ws2 := fun v : TMd => w_M ad ca v) (va_runV (As := [.int 0, .int 0, .int (-1)]) (rest := []) ⟨hx, hb, hml, hown, ht⟩ (c_Md_skip l dC dI ad ca H.size d_10 0 0 (-1) (bpD (ap_bp hc.1) ed_10) _ rfl) (cwV 3 ht (tb_V q_607 q_609 q_35 q_47 q_610) rfl rfl rfl p_Md_skip ⟨show 3 + 1 ≤ rf + 8 by omega, show 8 + (9 + 11) + 63 ≤ rl + 187 by omega⟩) (wx_preV (wc := (w_M ad ca d_10)) hN hK hP hD [0, 1, 2, 3, 4, 5, 6, 7, 8, 9, 10, 11] [0, 1, 2, 3, 4, 5, 6, 7, 8, 9, 10] rfl (by decide) rfl (ci := 4) (q0 := 0) rfl rfl) rfl rfl hl.1 rfl (lv_room (Nat.le_of_ble_eq_true rfl)) d_Md_open_216 ⟨Nat.zero_le _, Nat.zero_le _⟩) hP hD hS hA [0, 1, 2, 3, 4, 5, 6, 7, 8, 9, 10, 11] [] [0, 1, 2, 3, 4, 5, 6, 7, 8, 9, 10, 11] rfl rfl (by decide) (by decide) (by decide) (fun _ => rfl) (fun v_13 H locs hw_13 hP hD hS => ?_)
            have hP : va_P (dC, dI) vwCl (w_M ad ca v_13) H := hP
            have hD : va_D A (w_M ad ca v_13) := hD
            rw [← hw_13] at he
            try dsimp only at he
            exact W.vret hx hb hr (fun t ht hW => ⟨⟨v_13, rfl, he.symm, by rw [ht]; exact hP, va_K.moved hW.alike hK, hD⟩, hS.F ht⟩) hS.2.2 d_Md_open_219
          · have he := he.trans (if_pos c_12)
            refine lv_aload_n hx hb d_Md_open_202 rfl (lv_at hl 1 rfl) ?_
            refine va_get (D := (dC, dI)) (ci := 4) (v := .ref (ad 27)) (C := R_Md) (T := T_Md) (N := 23) hx hb ht i_Md hown hK hP 0 rfl rfl 20 (by decide) (ht _ q_465) (fun _ h9 => h9) rfl d_Md_open_203 ?_
            refine lv_iload_n hx hb d_Md_open_206 rfl (lv_at hl 4 rfl) ?_
            refine lv_iconst (v := 1) hx hb d_Md_open_207 (by decide) ?_
            refine va_iast (f := (TMd_phases d_10)) hx hb hK hP hD hS 11 10 rfl rfl (vp_of hc.1.2.2.1 hc.2.2) d_Md_open_208 (fun H locs hP hD hS => ?_)
            obtain ⟨g_14, eg_14⟩ : ∃ z, z = (upd (TMd_phases d_10) x3.toNatClampNeg 1) := ⟨_, rfl⟩
            rw [← eg_14] at he hP hD
            try dsimp only at he
            have hP : va_P (dC, dI) vwCl (w_M ad ca (TMd_set_phases d_10 g_14)) H := hP
            have hD : va_D A (w_M ad ca (TMd_set_phases d_10 g_14)) := hD
            obtain ⟨d_15, ed_15⟩ : ∃ z, z = (TMd_set_phases d_10 g_14) := ⟨_, rfl⟩
            rw [← ed_15] at he hP hD
            try dsimp only at he
            refine lv_goto (tgt := 219) hx hb d_Md_open_209 (by decide) ?_
            exact W.vret hx hb hr (fun t ht hW => ⟨⟨d_15, rfl, he.symm, by rw [ht]; exact hP, va_K.moved hW.alike hK, hD⟩, hS.F ht⟩) hS.2.2 d_Md_open_219
        · exact absurd c_11 (by decide)
  · have he := he.trans (if_pos c_1)
    refine lv_iconst (v := 1) hx hb d_Md_open_126 (by decide) ?_
    refine lv_goto (tgt := 131) hx hb d_Md_open_127 (by decide) ?_
    refine lv_istore (lv' := [(5, .int 1), (0, .ref (ad 16)), (1, .int x1), (2, .int x2), (3, .int x3), (4, .int x4)]) hx hb d_Md_open_131 hl (by decide) rfl (fun ls hl => ?_)
    refine lv_iload_n hx hb d_Md_open_133 rfl (lv_at hl 3 rfl) ?_
    refine lv_bipush (v := 100) hx hb d_Md_open_134 (by decide) ?_
    refine lv_icmp_ge (tgt := 168) hx hb d_Md_open_136 (by decide) (fun c_16 => ?_) (fun c_16 => ?_)
    · have he := he.trans (if_pos c_16)
      refine lv_iload hx hb d_Md_open_168 (lv_at hl 0 rfl) ?_
      refine lv_if_eq (tgt := 196) hx hb d_Md_open_170 (by decide) (fun c_17 => ?_) (fun c_17 => ?_)
      · exact absurd c_17 (by decide)
      · refine lv_aload_n hx hb d_Md_open_173 rfl (lv_at hl 1 rfl) ?_
        refine va_get (D := (dC, dI)) (ci := 4) (v := .ref (ad 27)) (C := R_Md) (T := T_Md) (N := 23) hx hb ht i_Md hown hK hP 0 rfl rfl 20 (by decide) (ht _ q_465) (fun _ h9 => h9) rfl d_Md_open_174 ?_
        refine lv_iload_n hx hb d_Md_open_177 rfl (lv_at hl 4 rfl) ?_
        refine lv_iconst (v := 3) hx hb d_Md_open_178 (by decide) ?_
        refine va_iast (f := (TMd_phases d)) hx hb hK hP hD hS 11 10 rfl rfl (vp_of hc.1.2.2.1 hc.2.2) d_Md_open_179 (fun H locs hP hD hS => ?_)
        obtain ⟨g_18, eg_18⟩ : ∃ z, z = (upd (TMd_phases d) x3.toNatClampNeg 3) := ⟨_, rfl⟩
        rw [← eg_18] at he hP hD
        try dsimp only at he
        have hP : va_P (dC, dI) vwCl (w_M ad ca (TMd_set_phases d g_18)) H := hP
        have hD : va_D A (w_M ad ca (TMd_set_phases d g_18)) := hD
        obtain ⟨d_19, ed_19⟩ : ∃ z, z = (TMd_set_phases d g_18) := ⟨_, rfl⟩
        rw [← ed_19] at he hP hD
        try dsimp only at he
        refine lv_iload hx hb d_Md_open_180 (lv_at hl 5 rfl) ?_
        refine lv_if_eq (tgt := 219) hx hb d_Md_open_182 (by decide) (fun c_20 => ?_) (fun c_20 => ?_)
        · have he := he.trans (if_pos c_20)
          exact W.vret hx hb hr (fun t ht hW => ⟨⟨d_19, rfl, he.symm, by rw [ht]; exact hP, va_K.moved hW.alike hK, hD⟩, hS.F ht⟩) hS.2.2 d_Md_open_219
        · have he := he.trans (if_neg c_20)
          refine lv_aload_n hx hb d_Md_open_185 rfl (lv_at hl 1 rfl) ?_
          refine lv_iconst (v := 1) hx hb d_Md_open_186 (by decide) ?_
          refine lv_iconst (v := 0) hx hb d_Md_open_187 (by decide) ?_
          refine lv_iload hx hb d_Md_open_188 (lv_at hl 5 rfl) ?_
          refine wx_cv (wS := fun v : TMd => w_M ad ca v) (ws2 := fun v : TMd => w_M ad ca v) (va_runV (As := [.int 1, .int 0, .int x4]) (rest := []) ⟨hx, hb, hml, hown, ht⟩ (c_Md_skip l dC dI ad ca H.size d_19 1 0 x4 (bpP (ap_bp hc.1) ed_19) _ rfl) (cwV 3 ht (tb_V q_607 q_609 q_35 q_47 q_610) rfl rfl rfl p_Md_skip ⟨show 3 + 1 ≤ rf + 8 by omega, show 8 + (9 + 11) + 63 ≤ rl + 187 by omega⟩) (wx_preV (wc := (w_M ad ca d_19)) hN hK hP hD [0, 1, 2, 3, 4, 5, 6, 7, 8, 9, 10, 11] [0, 1, 2, 3, 4, 5, 6, 7, 8, 9, 10] rfl (by decide) rfl (ci := 4) (q0 := 0) rfl rfl) rfl rfl hl.1 rfl (lv_room (Nat.le_of_ble_eq_true rfl)) d_Md_open_190 ⟨Nat.zero_le _, Nat.zero_le _⟩) hP hD hS hA [0, 1, 2, 3, 4, 5, 6, 7, 8, 9, 10, 11] [] [0, 1, 2, 3, 4, 5, 6, 7, 8, 9, 10, 11] rfl rfl (by decide) (by decide) (by decide) (fun _ => rfl) (fun v_21 H locs hw_21 hP hD hS => ?_)
          have hP : va_P (dC, dI) vwCl (w_M ad ca v_21) H := hP
          have hD : va_D A (w_M ad ca v_21) := hD
          rw [← hw_21] at he
          try dsimp only at he
          refine lv_goto (tgt := 219) hx hb d_Md_open_193 (by decide) ?_
          exact W.vret hx hb hr (fun t ht hW => ⟨⟨v_21, rfl, he.symm, by rw [ht]; exact hP, va_K.moved hW.alike hK, hD⟩, hS.F ht⟩) hS.2.2 d_Md_open_219
    · have he := he.trans (if_neg c_16)
      refine lv_aload_n hx hb d_Md_open_139 rfl (lv_at hl 1 rfl) ?_
      refine va_get (D := (dC, dI)) (ci := 4) (v := .ref (ad 26)) (C := R_Md) (T := T_Md) (N := 23) hx hb ht i_Md hown hK hP 0 rfl rfl 19 (by decide) (ht _ q_464) (fun _ h9 => h9) rfl d_Md_open_140 ?_
      refine lv_iload_n hx hb d_Md_open_143 rfl (lv_at hl 3 rfl) ?_
      refine lv_iload hx hb d_Md_open_144 (lv_at hl 0 rfl) ?_
      refine lv_if_ne (tgt := 154) hx hb d_Md_open_146 (by decide) (fun c_22 => ?_) (fun c_22 => ?_)
      · refine lv_iload hx hb d_Md_open_154 (lv_at hl 5 rfl) ?_
        refine lv_if_ge (tgt := 163) hx hb d_Md_open_156 (by decide) (fun c_23 => ?_) (fun c_23 => ?_)
        · have he := he.trans (if_pos c_23)
          refine lv_iload hx hb d_Md_open_163 (lv_at hl 5 rfl) ?_
          refine lv_iconst (v := 2) hx hb d_Md_open_165 (by decide) ?_
          refine lv_iadd hx hb d_Md_open_166 ?_
          refine lv_topi (fun y_24 ey_24 => ?_)
          rw [← ey_24] at he
          try dsimp only at he
          refine va_iast (f := (TMd_decided d)) hx hb hK hP hD hS 10 9 rfl rfl (op_de hc.2.1 c_16) d_Md_open_167 (fun H locs hP hD hS => ?_)
          obtain ⟨g_25, eg_25⟩ : ∃ z, z = (upd (TMd_decided d) x2.toNatClampNeg y_24) := ⟨_, rfl⟩
          rw [← eg_25] at he hP hD
          try dsimp only at he
          have hP : va_P (dC, dI) vwCl (w_M ad ca (TMd_set_decided d g_25)) H := hP
          have hD : va_D A (w_M ad ca (TMd_set_decided d g_25)) := hD
          obtain ⟨d_26, ed_26⟩ : ∃ z, z = (TMd_set_decided d g_25) := ⟨_, rfl⟩
          rw [← ed_26] at he hP hD
          try dsimp only at he
          refine lv_iload hx hb d_Md_open_168 (lv_at hl 0 rfl) ?_
          refine lv_if_eq (tgt := 196) hx hb d_Md_open_170 (by decide) (fun c_27 => ?_) (fun c_27 => ?_)
          · exact absurd c_27 (by decide)
          · refine lv_aload_n hx hb d_Md_open_173 rfl (lv_at hl 1 rfl) ?_
            refine va_get (D := (dC, dI)) (ci := 4) (v := .ref (ad 27)) (C := R_Md) (T := T_Md) (N := 23) hx hb ht i_Md hown hK hP 0 rfl rfl 20 (by decide) (ht _ q_465) (fun _ h9 => h9) rfl d_Md_open_174 ?_
            refine lv_iload_n hx hb d_Md_open_177 rfl (lv_at hl 4 rfl) ?_
            refine lv_iconst (v := 3) hx hb d_Md_open_178 (by decide) ?_
            refine va_iast (f := (TMd_phases d_26)) hx hb hK hP hD hS 11 10 rfl rfl (vp_of hc.1.2.2.1 hc.2.2) d_Md_open_179 (fun H locs hP hD hS => ?_)
            obtain ⟨g_28, eg_28⟩ : ∃ z, z = (upd (TMd_phases d_26) x3.toNatClampNeg 3) := ⟨_, rfl⟩
            rw [← eg_28] at he hP hD
            try dsimp only at he
            have hP : va_P (dC, dI) vwCl (w_M ad ca (TMd_set_phases d_26 g_28)) H := hP
            have hD : va_D A (w_M ad ca (TMd_set_phases d_26 g_28)) := hD
            obtain ⟨d_29, ed_29⟩ : ∃ z, z = (TMd_set_phases d_26 g_28) := ⟨_, rfl⟩
            rw [← ed_29] at he hP hD
            try dsimp only at he
            refine lv_iload hx hb d_Md_open_180 (lv_at hl 5 rfl) ?_
            refine lv_if_eq (tgt := 219) hx hb d_Md_open_182 (by decide) (fun c_30 => ?_) (fun c_30 => ?_)
            · have he := he.trans (if_pos c_30)
              exact W.vret hx hb hr (fun t ht hW => ⟨⟨d_29, rfl, he.symm, by rw [ht]; exact hP, va_K.moved hW.alike hK, hD⟩, hS.F ht⟩) hS.2.2 d_Md_open_219
            · have he := he.trans (if_neg c_30)
              refine lv_aload_n hx hb d_Md_open_185 rfl (lv_at hl 1 rfl) ?_
              refine lv_iconst (v := 1) hx hb d_Md_open_186 (by decide) ?_
              refine lv_iconst (v := 0) hx hb d_Md_open_187 (by decide) ?_
              refine lv_iload hx hb d_Md_open_188 (lv_at hl 5 rfl) ?_
              refine wx_cv (wS := fun v : TMd => w_M ad ca v) (ws2 := fun v : TMd => w_M ad ca v) (va_runV (As := [.int 1, .int 0, .int x4]) (rest := []) ⟨hx, hb, hml, hown, ht⟩ (c_Md_skip l dC dI ad ca H.size d_29 1 0 x4 (bpP (bpD (ap_bp hc.1) ed_26) ed_29) _ rfl) (cwV 3 ht (tb_V q_607 q_609 q_35 q_47 q_610) rfl rfl rfl p_Md_skip ⟨show 3 + 1 ≤ rf + 8 by omega, show 8 + (9 + 11) + 63 ≤ rl + 187 by omega⟩) (wx_preV (wc := (w_M ad ca d_29)) hN hK hP hD [0, 1, 2, 3, 4, 5, 6, 7, 8, 9, 10, 11] [0, 1, 2, 3, 4, 5, 6, 7, 8, 9, 10] rfl (by decide) rfl (ci := 4) (q0 := 0) rfl rfl) rfl rfl hl.1 rfl (lv_room (Nat.le_of_ble_eq_true rfl)) d_Md_open_190 ⟨Nat.zero_le _, Nat.zero_le _⟩) hP hD hS hA [0, 1, 2, 3, 4, 5, 6, 7, 8, 9, 10, 11] [] [0, 1, 2, 3, 4, 5, 6, 7, 8, 9, 10, 11] rfl rfl (by decide) (by decide) (by decide) (fun _ => rfl) (fun v_31 H locs hw_31 hP hD hS => ?_)
              have hP : va_P (dC, dI) vwCl (w_M ad ca v_31) H := hP
              have hD : va_D A (w_M ad ca v_31) := hD
              rw [← hw_31] at he
              try dsimp only at he
              refine lv_goto (tgt := 219) hx hb d_Md_open_193 (by decide) ?_
              exact W.vret hx hb hr (fun t ht hW => ⟨⟨v_31, rfl, he.symm, by rw [ht]; exact hP, va_K.moved hW.alike hK, hD⟩, hS.F ht⟩) hS.2.2 d_Md_open_219
        · have he := he.trans (if_neg c_23)
          refine lv_iconst (v := (-1)) hx hb d_Md_open_159 (by decide) ?_
          refine lv_goto (tgt := 167) hx hb d_Md_open_160 (by decide) ?_
          refine va_iast (f := (TMd_decided d)) hx hb hK hP hD hS 10 9 rfl rfl (op_de hc.2.1 c_16) d_Md_open_167 (fun H locs hP hD hS => ?_)
          obtain ⟨g_32, eg_32⟩ : ∃ z, z = (upd (TMd_decided d) x2.toNatClampNeg (-1)) := ⟨_, rfl⟩
          rw [← eg_32] at he hP hD
          try dsimp only at he
          have hP : va_P (dC, dI) vwCl (w_M ad ca (TMd_set_decided d g_32)) H := hP
          have hD : va_D A (w_M ad ca (TMd_set_decided d g_32)) := hD
          obtain ⟨d_33, ed_33⟩ : ∃ z, z = (TMd_set_decided d g_32) := ⟨_, rfl⟩
          rw [← ed_33] at he hP hD
          try dsimp only at he
          refine lv_iload hx hb d_Md_open_168 (lv_at hl 0 rfl) ?_
          refine lv_if_eq (tgt := 196) hx hb d_Md_open_170 (by decide) (fun c_34 => ?_) (fun c_34 => ?_)
          · exact absurd c_34 (by decide)
          · refine lv_aload_n hx hb d_Md_open_173 rfl (lv_at hl 1 rfl) ?_
            refine va_get (D := (dC, dI)) (ci := 4) (v := .ref (ad 27)) (C := R_Md) (T := T_Md) (N := 23) hx hb ht i_Md hown hK hP 0 rfl rfl 20 (by decide) (ht _ q_465) (fun _ h9 => h9) rfl d_Md_open_174 ?_
            refine lv_iload_n hx hb d_Md_open_177 rfl (lv_at hl 4 rfl) ?_
            refine lv_iconst (v := 3) hx hb d_Md_open_178 (by decide) ?_
            refine va_iast (f := (TMd_phases d_33)) hx hb hK hP hD hS 11 10 rfl rfl (vp_of hc.1.2.2.1 hc.2.2) d_Md_open_179 (fun H locs hP hD hS => ?_)
            obtain ⟨g_35, eg_35⟩ : ∃ z, z = (upd (TMd_phases d_33) x3.toNatClampNeg 3) := ⟨_, rfl⟩
            rw [← eg_35] at he hP hD
            try dsimp only at he
            have hP : va_P (dC, dI) vwCl (w_M ad ca (TMd_set_phases d_33 g_35)) H := hP
            have hD : va_D A (w_M ad ca (TMd_set_phases d_33 g_35)) := hD
            obtain ⟨d_36, ed_36⟩ : ∃ z, z = (TMd_set_phases d_33 g_35) := ⟨_, rfl⟩
            rw [← ed_36] at he hP hD
            try dsimp only at he
            refine lv_iload hx hb d_Md_open_180 (lv_at hl 5 rfl) ?_
            refine lv_if_eq (tgt := 219) hx hb d_Md_open_182 (by decide) (fun c_37 => ?_) (fun c_37 => ?_)
            · have he := he.trans (if_pos c_37)
              exact W.vret hx hb hr (fun t ht hW => ⟨⟨d_36, rfl, he.symm, by rw [ht]; exact hP, va_K.moved hW.alike hK, hD⟩, hS.F ht⟩) hS.2.2 d_Md_open_219
            · have he := he.trans (if_neg c_37)
              refine lv_aload_n hx hb d_Md_open_185 rfl (lv_at hl 1 rfl) ?_
              refine lv_iconst (v := 1) hx hb d_Md_open_186 (by decide) ?_
              refine lv_iconst (v := 0) hx hb d_Md_open_187 (by decide) ?_
              refine lv_iload hx hb d_Md_open_188 (lv_at hl 5 rfl) ?_
              refine wx_cv (wS := fun v : TMd => w_M ad ca v) (ws2 := fun v : TMd => w_M ad ca v) (va_runV (As := [.int 1, .int 0, .int x4]) (rest := []) ⟨hx, hb, hml, hown, ht⟩ (c_Md_skip l dC dI ad ca H.size d_36 1 0 x4 (bpP (bpD (ap_bp hc.1) ed_33) ed_36) _ rfl) (cwV 3 ht (tb_V q_607 q_609 q_35 q_47 q_610) rfl rfl rfl p_Md_skip ⟨show 3 + 1 ≤ rf + 8 by omega, show 8 + (9 + 11) + 63 ≤ rl + 187 by omega⟩) (wx_preV (wc := (w_M ad ca d_36)) hN hK hP hD [0, 1, 2, 3, 4, 5, 6, 7, 8, 9, 10, 11] [0, 1, 2, 3, 4, 5, 6, 7, 8, 9, 10] rfl (by decide) rfl (ci := 4) (q0 := 0) rfl rfl) rfl rfl hl.1 rfl (lv_room (Nat.le_of_ble_eq_true rfl)) d_Md_open_190 ⟨Nat.zero_le _, Nat.zero_le _⟩) hP hD hS hA [0, 1, 2, 3, 4, 5, 6, 7, 8, 9, 10, 11] [] [0, 1, 2, 3, 4, 5, 6, 7, 8, 9, 10, 11] rfl rfl (by decide) (by decide) (by decide) (fun _ => rfl) (fun v_38 H locs hw_38 hP hD hS => ?_)
              have hP : va_P (dC, dI) vwCl (w_M ad ca v_38) H := hP
              have hD : va_D A (w_M ad ca v_38) := hD
              rw [← hw_38] at he
              try dsimp only at he
              refine lv_goto (tgt := 219) hx hb d_Md_open_193 (by decide) ?_
              exact W.vret hx hb hr (fun t ht hW => ⟨⟨v_38, rfl, he.symm, by rw [ht]; exact hP, va_K.moved hW.alike hK, hD⟩, hS.F ht⟩) hS.2.2 d_Md_open_219
      · exact absurd c_22 (by decide)
noncomputable def f_Md_open_s (op : TMd → Int32 → TMd) (d : TMd) (p0 : Int32) : TMd := (if (TMd_open d) = 20 then (let v_27 := f_Md_fail d 5; v_27) else (let y_2 := ((TMd_opened d) + 1); (let d_3 := (TMd_set_opened d y_2); (let g_4 := (upd (TMd_phases d_3) (TMd_open d_3).toNatClampNeg 0); (let d_5 := (TMd_set_phases d_3 g_4); (let y_6 := ((TMd_open d_5) + 1); (let d_7 := (TMd_set_open d_5 y_6); (if (TMd_open d_7) ≤ (TMd_most d_7) then (let y_9 := (TMd_most d_7); (let d_10 := (TMd_set_most d_7 y_9); (match f_Md_answer op d_10 p0 (TMd_open d) with | (r_11, v_11) => (if (TMd_fault v_11) = 0 then (if (TMd_open v_11) ≤ ((TMd_open d) + 1) then (if (TMd_fault v_11) ≤ 0 then (f_Md_open_s_120 op v_11 p0 (TMd_opened d) (TMd_open d) r_11) else v_11) else (let v_16 := f_Md_fail v_11 6; (if (TMd_fault v_16) ≤ 0 then v_16 else v_16))) else (if (TMd_fault v_11) ≤ 0 then v_11 else v_11))))) else (let y_18 := (TMd_open d_7); (let d_19 := (TMd_set_most d_7 y_18); (match f_Md_answer op d_19 p0 (TMd_open d) with | (r_20, v_20) => (if (TMd_fault v_20) = 0 then (if (TMd_open v_20) ≤ ((TMd_open d) + 1) then (if (TMd_fault v_20) ≤ 0 then (f_Md_open_s_120 op v_20 p0 (TMd_opened d) (TMd_open d) r_20) else v_20) else (let v_25 := f_Md_fail v_20 6; (if (TMd_fault v_25) ≤ 0 then v_25 else v_25))) else (if (TMd_fault v_20) ≤ 0 then v_20 else v_20)))))))))))))
set_option maxHeartbeats 4000000 in
set_option maxRecDepth 100000 in
theorem c_Md_open_s (l : Launch) (dC : Nat → ClassId) (dI : Nat → Nat → Nat) (ad : Nat → Nat) (ca : Nat → ClassId) (op : TMd → Int32 → TMd) (rf rl : Nat) (k : Int) (hopm : ∀ (d : TMd) (w : Int32), OPP k d → LVS 0 d (op d w)) (hop : ∀ (sz : Nat) (d : TMd) (w : Int32), OPP k d → wx_Mv l y_Md_open ws_Md_open ({ frames := rf, cells := 0, slots := 0, locals := rl } : Room) (dC, dI) vwCl (t_M ca) [.ref (ad 16), .int w] (w_M ad ca d) sz (fun v : TMd => w_M ad ca v) (fun v : TMd => v = op d w)) (sz : Nat) (d : TMd) (p0 : Int32) (hpre : OPP (k - 1) d) (F : TMd) (he : F = f_Md_open_s op d p0) : wx_Mv l y_Md_open ws_Md_open ({ frames := rf + 8, cells := 0, slots := 0, locals := rl + 187 } : Room) (dC, dI) vwCl (t_M ca) [.ref (ad 16), .int p0] (w_M ad ca d) sz (fun v : TMd => w_M ad ca v) (fun v : TMd => v = F) := by
  refine Met.ofW (cc := b_Md_open) (maxL := 6) (ret := none) (by decide) rfl ?_
  intro p e s m args below meth c s₁ B hml hv
  obtain ⟨rfl, hsz, hP, hK, hD0, hN⟩ := hv
  have hx := B.exec
  have hb := B.bytes
  have hr := B.returns
  have hts := atoms_spec (ws := ws_Md_open) B.pre
  have ht : ∀ w ∈ TB, w.before _ s = true := fun w h => hts w (List.mem_cons_of_mem _ h)
  have hown : s.vm.findClass R_Md = some m.cls := findClass_of_methodNamed B.named
  have hlocks := B.notSynchronized
  subst hsz
  have hD := hD0.self (sz := s.heap.size)
  generalize hAe : va_A (w_M ad ca d) s.heap.size = A at hD ⊢
  have hA : ∀ q : Nat, s.heap.size ≤ q → A q := fun q h => by rw [← hAe]; exact Or.inr h
  have hS : va_S A s.heap s.heap [] := va_S.rf
  have C0 : wx_C p s m ([.ref (ad 16), .int p0] : List Value).toArray meth c b_Md_open (none) 6 R_Md A (dC, dI) vwCl (t_M ca) := ⟨hx, hb, hr, hml, hown, ht, hlocks, hA, hK, hN⟩
  have hl := lv_entry ([.ref (ad 16), .int p0]) (n := 6) (Nat.le_of_ble_eq_true rfl)
  rw [lg_entry_eq]
  generalize (lg_sl ([.ref (ad 16), .int p0]) ++ List.replicate (6 - (lg_sl ([.ref (ad 16), .int p0])).length) Slot.unset).toArray = ls at hl ⊢
  have hl : lv_has ls 6 [(0, .ref (ad 16)), (1, .int p0)] := hl
  unfold f_Md_open_s at he
  refine lv_aload_n hx hb d_Md_open_0 rfl (lv_at hl 0 rfl) ?_
  refine va_get (D := (dC, dI)) (ci := 4) (v := .int (TMd_open d)) (C := R_Md) (T := T_Md) (N := 23) hx hb ht i_Md hown hK hP 0 rfl rfl 21 (by decide) (ht _ q_466) (fun _ h9 => h9) rfl d_Md_open_1 ?_
  refine lv_bipush (v := 20) hx hb d_Md_open_4 (by decide) ?_
  refine lv_icmp_ne (tgt := 15) hx hb d_Md_open_6 (by decide) (fun c_1 => ?_) (fun c_1 => ?_)
  · have he := he.trans (if_neg c_1)
    refine lv_aload_n hx hb d_Md_open_15 rfl (lv_at hl 0 rfl) ?_
    refine va_get (D := (dC, dI)) (ci := 4) (v := .int (TMd_opened d)) (C := R_Md) (T := T_Md) (N := 23) hx hb ht i_Md hown hK hP 0 rfl rfl 16 (by decide) (ht _ q_461) (fun _ h9 => h9) rfl d_Md_open_16 ?_
    refine lv_istore_n (lv' := [(2, .int (TMd_opened d)), (0, .ref (ad 16)), (1, .int p0)]) hx hb d_Md_open_19 rfl hl (by decide) rfl (fun ls hl => ?_)
    refine lv_aload_n hx hb d_Md_open_20 rfl (lv_at hl 1 rfl) ?_
    refine va_get (D := (dC, dI)) (ci := 4) (v := .int (TMd_open d)) (C := R_Md) (T := T_Md) (N := 23) hx hb ht i_Md hown hK hP 0 rfl rfl 21 (by decide) (ht _ q_466) (fun _ h9 => h9) rfl d_Md_open_21 ?_
    refine lv_istore_n (lv' := [(3, .int (TMd_open d)), (2, .int (TMd_opened d)), (0, .ref (ad 16)), (1, .int p0)]) hx hb d_Md_open_24 rfl hl (by decide) rfl (fun ls hl => ?_)
    refine lv_aload_n hx hb d_Md_open_25 rfl (lv_at hl 2 rfl) ?_
    refine lv_dup hx hb d_Md_open_26 rfl ?_
    refine va_get (D := (dC, dI)) (ci := 4) (v := .int (TMd_opened d)) (C := R_Md) (T := T_Md) (N := 23) hx hb ht i_Md hown hK hP 0 rfl rfl 16 (by decide) (ht _ q_461) (fun _ h9 => h9) rfl d_Md_open_27 ?_
    refine lv_iconst (v := 1) hx hb d_Md_open_30 (by decide) ?_
    refine lv_iadd hx hb d_Md_open_31 ?_
    refine lv_topi (fun y_2 ey_2 => ?_)
    rw [← ey_2] at he
    try dsimp only at he
    refine va_put (D := (dC, dI)) (ci := 4) (v := .int y_2) (ty := .int) (C := R_Md) (T := T_Md) (N := 23) hx hb ht i_Md ty_Md ty_Md_ok nm_Md hown hK hP hD hS 0 rfl rfl 16 (by decide) (ht _ q_461) (fun _ h9 => h9) rfl (by decide +kernel) rfl rfl (Nat.le_of_ble_eq_true rfl) d_Md_open_32 (fun H locs hP hD hS => ?_)
    have hP : va_P (dC, dI) vwCl (w_M ad ca (TMd_set_opened d y_2)) H := hP
    have hD : va_D A (w_M ad ca (TMd_set_opened d y_2)) := hD
    obtain ⟨d_3, ed_3⟩ : ∃ z, z = (TMd_set_opened d y_2) := ⟨_, rfl⟩
    rw [← ed_3] at he hP hD
    try dsimp only at he
    refine lv_aload_n hx hb d_Md_open_35 rfl (lv_at hl 2 rfl) ?_
    refine va_get (D := (dC, dI)) (ci := 4) (v := .ref (ad 27)) (C := R_Md) (T := T_Md) (N := 23) hx hb ht i_Md hown hK hP 0 rfl rfl 20 (by decide) (ht _ q_465) (fun _ h9 => h9) rfl d_Md_open_36 ?_
    refine lv_aload_n hx hb d_Md_open_39 rfl (lv_at hl 2 rfl) ?_
    refine va_get (D := (dC, dI)) (ci := 4) (v := .int (TMd_open d_3)) (C := R_Md) (T := T_Md) (N := 23) hx hb ht i_Md hown hK hP 0 rfl rfl 21 (by decide) (ht _ q_466) (fun _ h9 => h9) rfl d_Md_open_40 ?_
    refine lv_iconst (v := 0) hx hb d_Md_open_43 (by decide) ?_
    refine va_iast (f := (TMd_phases d_3)) hx hb hK hP hD hS 11 10 rfl rfl (op_ph2 ed_3 hpre.2.1 c_1) d_Md_open_44 (fun H locs hP hD hS => ?_)
    obtain ⟨g_4, eg_4⟩ : ∃ z, z = (upd (TMd_phases d_3) (TMd_open d_3).toNatClampNeg 0) := ⟨_, rfl⟩
    rw [← eg_4] at he hP hD
    try dsimp only at he
    have hP : va_P (dC, dI) vwCl (w_M ad ca (TMd_set_phases d_3 g_4)) H := hP
    have hD : va_D A (w_M ad ca (TMd_set_phases d_3 g_4)) := hD
    obtain ⟨d_5, ed_5⟩ : ∃ z, z = (TMd_set_phases d_3 g_4) := ⟨_, rfl⟩
    rw [← ed_5] at he hP hD
    try dsimp only at he
    refine lv_aload_n hx hb d_Md_open_45 rfl (lv_at hl 2 rfl) ?_
    refine lv_dup hx hb d_Md_open_46 rfl ?_
    refine va_get (D := (dC, dI)) (ci := 4) (v := .int (TMd_open d_5)) (C := R_Md) (T := T_Md) (N := 23) hx hb ht i_Md hown hK hP 0 rfl rfl 21 (by decide) (ht _ q_466) (fun _ h9 => h9) rfl d_Md_open_47 ?_
    refine lv_iconst (v := 1) hx hb d_Md_open_50 (by decide) ?_
    refine lv_iadd hx hb d_Md_open_51 ?_
    refine lv_topi (fun y_6 ey_6 => ?_)
    rw [← ey_6] at he
    try dsimp only at he
    refine va_put (D := (dC, dI)) (ci := 4) (v := .int y_6) (ty := .int) (C := R_Md) (T := T_Md) (N := 23) hx hb ht i_Md ty_Md ty_Md_ok nm_Md hown hK hP hD hS 0 rfl rfl 21 (by decide) (ht _ q_466) (fun _ h9 => h9) rfl (by decide +kernel) rfl rfl (Nat.le_of_ble_eq_true rfl) d_Md_open_52 (fun H locs hP hD hS => ?_)
    have hP : va_P (dC, dI) vwCl (w_M ad ca (TMd_set_open d_5 y_6)) H := hP
    have hD : va_D A (w_M ad ca (TMd_set_open d_5 y_6)) := hD
    obtain ⟨d_7, ed_7⟩ : ∃ z, z = (TMd_set_open d_5 y_6) := ⟨_, rfl⟩
    rw [← ed_7] at he hP hD
    try dsimp only at he
    refine lv_aload_n hx hb d_Md_open_55 rfl (lv_at hl 2 rfl) ?_
    refine lv_aload_n hx hb d_Md_open_56 rfl (lv_at hl 2 rfl) ?_
    refine va_get (D := (dC, dI)) (ci := 4) (v := .int (TMd_open d_7)) (C := R_Md) (T := T_Md) (N := 23) hx hb ht i_Md hown hK hP 0 rfl rfl 21 (by decide) (ht _ q_466) (fun _ h9 => h9) rfl d_Md_open_57 ?_
    refine lv_aload_n hx hb d_Md_open_60 rfl (lv_at hl 2 rfl) ?_
    refine va_get (D := (dC, dI)) (ci := 4) (v := .int (TMd_most d_7)) (C := R_Md) (T := T_Md) (N := 23) hx hb ht i_Md hown hK hP 0 rfl rfl 17 (by decide) (ht _ q_462) (fun _ h9 => h9) rfl d_Md_open_61 ?_
    refine lv_icmp_le (tgt := 74) hx hb d_Md_open_64 (by decide) (fun c_8 => ?_) (fun c_8 => ?_)
    · have he := he.trans (if_pos c_8)
      refine lv_aload_n hx hb d_Md_open_74 rfl (lv_at hl 2 rfl) ?_
      refine va_get (D := (dC, dI)) (ci := 4) (v := .int (TMd_most d_7)) (C := R_Md) (T := T_Md) (N := 23) hx hb ht i_Md hown hK hP 0 rfl rfl 17 (by decide) (ht _ q_462) (fun _ h9 => h9) rfl d_Md_open_75 ?_
      refine lv_topi (fun y_9 ey_9 => ?_)
      rw [← ey_9] at he
      try dsimp only at he
      refine va_put (D := (dC, dI)) (ci := 4) (v := .int y_9) (ty := .int) (C := R_Md) (T := T_Md) (N := 23) hx hb ht i_Md ty_Md ty_Md_ok nm_Md hown hK hP hD hS 0 rfl rfl 17 (by decide) (ht _ q_462) (fun _ h9 => h9) rfl (by decide +kernel) rfl rfl (Nat.le_of_ble_eq_true rfl) d_Md_open_78 (fun H locs hP hD hS => ?_)
      have hP : va_P (dC, dI) vwCl (w_M ad ca (TMd_set_most d_7 y_9)) H := hP
      have hD : va_D A (w_M ad ca (TMd_set_most d_7 y_9)) := hD
      obtain ⟨d_10, ed_10⟩ : ∃ z, z = (TMd_set_most d_7 y_9) := ⟨_, rfl⟩
      rw [← ed_10] at he hP hD
      try dsimp only at he
      refine lv_aload_n hx hb d_Md_open_81 rfl (lv_at hl 2 rfl) ?_
      refine lv_iload_n hx hb d_Md_open_82 rfl (lv_at hl 3 rfl) ?_
      refine lv_iload_n hx hb d_Md_open_83 rfl (lv_at hl 0 rfl) ?_
      refine wx_ci (wS := fun v : TMd => w_M ad ca v) (ws2 := fun v : TMd => w_M ad ca v) (va_runV (As := [.int p0, .int (TMd_open d)]) (rest := []) ⟨hx, hb, hml, hown, ht⟩ (c_Md_answer l dC dI ad ca op rf rl k hopm hop H.size d_10 p0 (TMd_open d) (op_in hpre c_1 ey_2 ed_3 ed_5 ey_6 ed_7 ed_10).1 _ rfl) (cwV 2 ht (tb_V q_587 q_589 q_30 q_47 q_590) rfl rfl rfl p_Md_answer ⟨show (rf + 7) + 1 ≤ rf + 8 by omega, show 8 + (6 + 11) + (rl + 162) ≤ rl + 187 by omega⟩) (wx_preV (wc := (w_M ad ca d_10)) hN hK hP hD [0, 1, 2, 3, 4, 5, 6, 7, 8, 9, 10, 11] [0, 1, 2, 3, 4, 5, 6, 7, 8, 9, 10] rfl (by decide) rfl (ci := 4) (q0 := 0) rfl rfl) rfl rfl hl.1 rfl (lv_room (Nat.le_of_ble_eq_true rfl)) d_Md_open_84 ⟨Nat.zero_le _, Nat.zero_le _⟩) hP hD hS hA [0, 1, 2, 3, 4, 5, 6, 7, 8, 9, 10, 11] [] [0, 1, 2, 3, 4, 5, 6, 7, 8, 9, 10, 11] rfl rfl (by decide) (by decide) (by decide) (fun _ => rfl) (fun r_11 v_11 H locs hw_11 hP hD hS => ?_)
      have hP : va_P (dC, dI) vwCl (w_M ad ca v_11) H := hP
      have hD : va_D A (w_M ad ca v_11) := hD
      rw [← hw_11] at he
      try dsimp only at he
      refine lv_istore (lv' := [(4, .int r_11), (3, .int (TMd_open d)), (2, .int (TMd_opened d)), (0, .ref (ad 16)), (1, .int p0)]) hx hb d_Md_open_87 hl (by decide) rfl (fun ls hl => ?_)
      refine lv_aload_n hx hb d_Md_open_89 rfl (lv_at hl 3 rfl) ?_
      refine va_get (D := (dC, dI)) (ci := 4) (v := .int (TMd_fault v_11)) (C := R_Md) (T := T_Md) (N := 23) hx hb ht i_Md hown hK hP 0 rfl rfl 13 (by decide) (ht _ q_458) (fun _ h9 => h9) rfl d_Md_open_90 ?_
      refine lv_if_ne (tgt := 112) hx hb d_Md_open_93 (by decide) (fun c_12 => ?_) (fun c_12 => ?_)
      · have he := he.trans (if_neg c_12)
        refine lv_aload_n hx hb d_Md_open_112 rfl (lv_at hl 3 rfl) ?_
        refine va_get (D := (dC, dI)) (ci := 4) (v := .int (TMd_fault v_11)) (C := R_Md) (T := T_Md) (N := 23) hx hb ht i_Md hown hK hP 0 rfl rfl 13 (by decide) (ht _ q_458) (fun _ h9 => h9) rfl d_Md_open_113 ?_
        refine lv_if_le (tgt := 120) hx hb d_Md_open_116 (by decide) (fun c_13 => ?_) (fun c_13 => ?_)
        · have he := he.trans (if_pos c_13)
          exact False.elim (c_12 (nu_f0 (an_l op k hopm hw_11 (op_in hpre c_1 ey_2 ed_3 ed_5 ey_6 ed_7 ed_10).1).1.2.1 c_13))
        · have he := he.trans (if_neg c_13)
          exact W.vret hx hb hr (fun t ht hW => ⟨⟨v_11, rfl, he.symm, by rw [ht]; exact hP, va_K.moved hW.alike hK, hD⟩, hS.F ht⟩) hS.2.2 d_Md_open_119
      · have he := he.trans (if_pos c_12)
        refine lv_aload_n hx hb d_Md_open_96 rfl (lv_at hl 3 rfl) ?_
        refine va_get (D := (dC, dI)) (ci := 4) (v := .int (TMd_open v_11)) (C := R_Md) (T := T_Md) (N := 23) hx hb ht i_Md hown hK hP 0 rfl rfl 21 (by decide) (ht _ q_466) (fun _ h9 => h9) rfl d_Md_open_97 ?_
        refine lv_iload_n hx hb d_Md_open_100 rfl (lv_at hl 1 rfl) ?_
        refine lv_iconst (v := 1) hx hb d_Md_open_101 (by decide) ?_
        refine lv_iadd hx hb d_Md_open_102 ?_
        refine lv_icmp_le (tgt := 112) hx hb d_Md_open_103 (by decide) (fun c_14 => ?_) (fun c_14 => ?_)
        · have he := he.trans (if_pos c_14)
          refine lv_aload_n hx hb d_Md_open_112 rfl (lv_at hl 3 rfl) ?_
          refine va_get (D := (dC, dI)) (ci := 4) (v := .int (TMd_fault v_11)) (C := R_Md) (T := T_Md) (N := 23) hx hb ht i_Md hown hK hP 0 rfl rfl 13 (by decide) (ht _ q_458) (fun _ h9 => h9) rfl d_Md_open_113 ?_
          refine lv_if_le (tgt := 120) hx hb d_Md_open_116 (by decide) (fun c_15 => ?_) (fun c_15 => ?_)
          · have he := he.trans (if_pos c_15)
            exact k_Md_open_s_120 l dC dI ad ca op rf rl k hopm hop C0 F v_11 p0 (TMd_opened d) (TMd_open d) r_11 ⟨(an_l op k hopm hw_11 (op_in hpre c_1 ey_2 ed_3 ed_5 ey_6 ed_7 ed_10).1).1, hpre.2.1.2.2.2.2.2.2.1, op_lt hpre.2.1 c_1⟩ he _ _ hP hD hS _ (lv_sub hl [3, 4, 2, 1, 0] rfl)
          · have he := he.trans (if_neg c_15)
            exact False.elim (c_15 (by rw [c_12]; decide))
        · have he := he.trans (if_neg c_14)
          refine lv_aload_n hx hb d_Md_open_106 rfl (lv_at hl 3 rfl) ?_
          refine lv_bipush (v := 6) hx hb d_Md_open_107 (by decide) ?_
          refine wx_cv (wS := fun v : TMd => w_M ad ca v) (ws2 := fun v : TMd => w_M ad ca v) (va_runV (As := [.int 6]) (rest := []) ⟨hx, hb, hml, hown, ht⟩ (c_Md_fail l dC dI ad ca H.size v_11 6 _ rfl) (cwV 1 ht (tb_V q_571 q_573 q_26 q_47 q_574) rfl rfl rfl p_Md_fail ⟨show 0 + 1 ≤ rf + 8 by omega, show 8 + (2 + 11) + 0 ≤ rl + 187 by omega⟩) (wx_preV (wc := (w_M ad ca v_11)) hN hK hP hD [0, 1, 2, 3, 4, 5, 6, 7, 8, 9, 10, 11] [0, 1, 2, 3, 4, 5, 6, 7, 8, 9, 10] rfl (by decide) rfl (ci := 4) (q0 := 0) rfl rfl) rfl rfl hl.1 rfl (lv_room (Nat.le_of_ble_eq_true rfl)) d_Md_open_109 ⟨Nat.zero_le _, Nat.zero_le _⟩) hP hD hS hA [0, 1, 2, 3, 4, 5, 6, 7, 8, 9, 10, 11] [] [0, 1, 2, 3, 4, 5, 6, 7, 8, 9, 10, 11] rfl rfl (by decide) (by decide) (by decide) (fun _ => rfl) (fun v_16 H locs hw_16 hP hD hS => ?_)
          have hP : va_P (dC, dI) vwCl (w_M ad ca v_16) H := hP
          have hD : va_D A (w_M ad ca v_16) := hD
          rw [← hw_16] at he
          try dsimp only at he
          refine lv_aload_n hx hb d_Md_open_112 rfl (lv_at hl 3 rfl) ?_
          refine va_get (D := (dC, dI)) (ci := 4) (v := .int (TMd_fault v_16)) (C := R_Md) (T := T_Md) (N := 23) hx hb ht i_Md hown hK hP 0 rfl rfl 13 (by decide) (ht _ q_458) (fun _ h9 => h9) rfl d_Md_open_113 ?_
          refine lv_if_le (tgt := 120) hx hb d_Md_open_116 (by decide) (fun c_17 => ?_) (fun c_17 => ?_)
          · have he := he.trans (if_pos c_17)
            exact False.elim (op_no hw_16 (an_l op k hopm hw_11 (op_in hpre c_1 ey_2 ed_3 ed_5 ey_6 ed_7 ed_10).1).1.2.1 c_17)
          · have he := he.trans (if_neg c_17)
            exact W.vret hx hb hr (fun t ht hW => ⟨⟨v_16, rfl, he.symm, by rw [ht]; exact hP, va_K.moved hW.alike hK, hD⟩, hS.F ht⟩) hS.2.2 d_Md_open_119
    · have he := he.trans (if_neg c_8)
      refine lv_aload_n hx hb d_Md_open_67 rfl (lv_at hl 2 rfl) ?_
      refine va_get (D := (dC, dI)) (ci := 4) (v := .int (TMd_open d_7)) (C := R_Md) (T := T_Md) (N := 23) hx hb ht i_Md hown hK hP 0 rfl rfl 21 (by decide) (ht _ q_466) (fun _ h9 => h9) rfl d_Md_open_68 ?_
      refine lv_goto (tgt := 78) hx hb d_Md_open_71 (by decide) ?_
      refine lv_topi (fun y_18 ey_18 => ?_)
      rw [← ey_18] at he
      try dsimp only at he
      refine va_put (D := (dC, dI)) (ci := 4) (v := .int y_18) (ty := .int) (C := R_Md) (T := T_Md) (N := 23) hx hb ht i_Md ty_Md ty_Md_ok nm_Md hown hK hP hD hS 0 rfl rfl 17 (by decide) (ht _ q_462) (fun _ h9 => h9) rfl (by decide +kernel) rfl rfl (Nat.le_of_ble_eq_true rfl) d_Md_open_78 (fun H locs hP hD hS => ?_)
      have hP : va_P (dC, dI) vwCl (w_M ad ca (TMd_set_most d_7 y_18)) H := hP
      have hD : va_D A (w_M ad ca (TMd_set_most d_7 y_18)) := hD
      obtain ⟨d_19, ed_19⟩ : ∃ z, z = (TMd_set_most d_7 y_18) := ⟨_, rfl⟩
      rw [← ed_19] at he hP hD
      try dsimp only at he
      refine lv_aload_n hx hb d_Md_open_81 rfl (lv_at hl 2 rfl) ?_
      refine lv_iload_n hx hb d_Md_open_82 rfl (lv_at hl 3 rfl) ?_
      refine lv_iload_n hx hb d_Md_open_83 rfl (lv_at hl 0 rfl) ?_
      refine wx_ci (wS := fun v : TMd => w_M ad ca v) (ws2 := fun v : TMd => w_M ad ca v) (va_runV (As := [.int p0, .int (TMd_open d)]) (rest := []) ⟨hx, hb, hml, hown, ht⟩ (c_Md_answer l dC dI ad ca op rf rl k hopm hop H.size d_19 p0 (TMd_open d) (op_in hpre c_1 ey_2 ed_3 ed_5 ey_6 ed_7 ed_19).1 _ rfl) (cwV 2 ht (tb_V q_587 q_589 q_30 q_47 q_590) rfl rfl rfl p_Md_answer ⟨show (rf + 7) + 1 ≤ rf + 8 by omega, show 8 + (6 + 11) + (rl + 162) ≤ rl + 187 by omega⟩) (wx_preV (wc := (w_M ad ca d_19)) hN hK hP hD [0, 1, 2, 3, 4, 5, 6, 7, 8, 9, 10, 11] [0, 1, 2, 3, 4, 5, 6, 7, 8, 9, 10] rfl (by decide) rfl (ci := 4) (q0 := 0) rfl rfl) rfl rfl hl.1 rfl (lv_room (Nat.le_of_ble_eq_true rfl)) d_Md_open_84 ⟨Nat.zero_le _, Nat.zero_le _⟩) hP hD hS hA [0, 1, 2, 3, 4, 5, 6, 7, 8, 9, 10, 11] [] [0, 1, 2, 3, 4, 5, 6, 7, 8, 9, 10, 11] rfl rfl (by decide) (by decide) (by decide) (fun _ => rfl) (fun r_20 v_20 H locs hw_20 hP hD hS => ?_)
      have hP : va_P (dC, dI) vwCl (w_M ad ca v_20) H := hP
      have hD : va_D A (w_M ad ca v_20) := hD
      rw [← hw_20] at he
      try dsimp only at he
      refine lv_istore (lv' := [(4, .int r_20), (3, .int (TMd_open d)), (2, .int (TMd_opened d)), (0, .ref (ad 16)), (1, .int p0)]) hx hb d_Md_open_87 hl (by decide) rfl (fun ls hl => ?_)
      refine lv_aload_n hx hb d_Md_open_89 rfl (lv_at hl 3 rfl) ?_
      refine va_get (D := (dC, dI)) (ci := 4) (v := .int (TMd_fault v_20)) (C := R_Md) (T := T_Md) (N := 23) hx hb ht i_Md hown hK hP 0 rfl rfl 13 (by decide) (ht _ q_458) (fun _ h9 => h9) rfl d_Md_open_90 ?_
      refine lv_if_ne (tgt := 112) hx hb d_Md_open_93 (by decide) (fun c_21 => ?_) (fun c_21 => ?_)
      · have he := he.trans (if_neg c_21)
        refine lv_aload_n hx hb d_Md_open_112 rfl (lv_at hl 3 rfl) ?_
        refine va_get (D := (dC, dI)) (ci := 4) (v := .int (TMd_fault v_20)) (C := R_Md) (T := T_Md) (N := 23) hx hb ht i_Md hown hK hP 0 rfl rfl 13 (by decide) (ht _ q_458) (fun _ h9 => h9) rfl d_Md_open_113 ?_
        refine lv_if_le (tgt := 120) hx hb d_Md_open_116 (by decide) (fun c_22 => ?_) (fun c_22 => ?_)
        · have he := he.trans (if_pos c_22)
          exact False.elim (c_21 (nu_f0 (an_l op k hopm hw_20 (op_in hpre c_1 ey_2 ed_3 ed_5 ey_6 ed_7 ed_19).1).1.2.1 c_22))
        · have he := he.trans (if_neg c_22)
          exact W.vret hx hb hr (fun t ht hW => ⟨⟨v_20, rfl, he.symm, by rw [ht]; exact hP, va_K.moved hW.alike hK, hD⟩, hS.F ht⟩) hS.2.2 d_Md_open_119
      · have he := he.trans (if_pos c_21)
        refine lv_aload_n hx hb d_Md_open_96 rfl (lv_at hl 3 rfl) ?_
        refine va_get (D := (dC, dI)) (ci := 4) (v := .int (TMd_open v_20)) (C := R_Md) (T := T_Md) (N := 23) hx hb ht i_Md hown hK hP 0 rfl rfl 21 (by decide) (ht _ q_466) (fun _ h9 => h9) rfl d_Md_open_97 ?_
        refine lv_iload_n hx hb d_Md_open_100 rfl (lv_at hl 1 rfl) ?_
        refine lv_iconst (v := 1) hx hb d_Md_open_101 (by decide) ?_
        refine lv_iadd hx hb d_Md_open_102 ?_
        refine lv_icmp_le (tgt := 112) hx hb d_Md_open_103 (by decide) (fun c_23 => ?_) (fun c_23 => ?_)
        · have he := he.trans (if_pos c_23)
          refine lv_aload_n hx hb d_Md_open_112 rfl (lv_at hl 3 rfl) ?_
          refine va_get (D := (dC, dI)) (ci := 4) (v := .int (TMd_fault v_20)) (C := R_Md) (T := T_Md) (N := 23) hx hb ht i_Md hown hK hP 0 rfl rfl 13 (by decide) (ht _ q_458) (fun _ h9 => h9) rfl d_Md_open_113 ?_
          refine lv_if_le (tgt := 120) hx hb d_Md_open_116 (by decide) (fun c_24 => ?_) (fun c_24 => ?_)
          · have he := he.trans (if_pos c_24)
            exact k_Md_open_s_120 l dC dI ad ca op rf rl k hopm hop C0 F v_20 p0 (TMd_opened d) (TMd_open d) r_20 ⟨(an_l op k hopm hw_20 (op_in hpre c_1 ey_2 ed_3 ed_5 ey_6 ed_7 ed_19).1).1, hpre.2.1.2.2.2.2.2.2.1, op_lt hpre.2.1 c_1⟩ he _ _ hP hD hS _ (lv_sub hl [3, 4, 2, 1, 0] rfl)
          · have he := he.trans (if_neg c_24)
            exact False.elim (c_24 (by rw [c_21]; decide))
        · have he := he.trans (if_neg c_23)
          refine lv_aload_n hx hb d_Md_open_106 rfl (lv_at hl 3 rfl) ?_
          refine lv_bipush (v := 6) hx hb d_Md_open_107 (by decide) ?_
          refine wx_cv (wS := fun v : TMd => w_M ad ca v) (ws2 := fun v : TMd => w_M ad ca v) (va_runV (As := [.int 6]) (rest := []) ⟨hx, hb, hml, hown, ht⟩ (c_Md_fail l dC dI ad ca H.size v_20 6 _ rfl) (cwV 1 ht (tb_V q_571 q_573 q_26 q_47 q_574) rfl rfl rfl p_Md_fail ⟨show 0 + 1 ≤ rf + 8 by omega, show 8 + (2 + 11) + 0 ≤ rl + 187 by omega⟩) (wx_preV (wc := (w_M ad ca v_20)) hN hK hP hD [0, 1, 2, 3, 4, 5, 6, 7, 8, 9, 10, 11] [0, 1, 2, 3, 4, 5, 6, 7, 8, 9, 10] rfl (by decide) rfl (ci := 4) (q0 := 0) rfl rfl) rfl rfl hl.1 rfl (lv_room (Nat.le_of_ble_eq_true rfl)) d_Md_open_109 ⟨Nat.zero_le _, Nat.zero_le _⟩) hP hD hS hA [0, 1, 2, 3, 4, 5, 6, 7, 8, 9, 10, 11] [] [0, 1, 2, 3, 4, 5, 6, 7, 8, 9, 10, 11] rfl rfl (by decide) (by decide) (by decide) (fun _ => rfl) (fun v_25 H locs hw_25 hP hD hS => ?_)
          have hP : va_P (dC, dI) vwCl (w_M ad ca v_25) H := hP
          have hD : va_D A (w_M ad ca v_25) := hD
          rw [← hw_25] at he
          try dsimp only at he
          refine lv_aload_n hx hb d_Md_open_112 rfl (lv_at hl 3 rfl) ?_
          refine va_get (D := (dC, dI)) (ci := 4) (v := .int (TMd_fault v_25)) (C := R_Md) (T := T_Md) (N := 23) hx hb ht i_Md hown hK hP 0 rfl rfl 13 (by decide) (ht _ q_458) (fun _ h9 => h9) rfl d_Md_open_113 ?_
          refine lv_if_le (tgt := 120) hx hb d_Md_open_116 (by decide) (fun c_26 => ?_) (fun c_26 => ?_)
          · have he := he.trans (if_pos c_26)
            exact False.elim (op_no hw_25 (an_l op k hopm hw_20 (op_in hpre c_1 ey_2 ed_3 ed_5 ey_6 ed_7 ed_19).1).1.2.1 c_26)
          · have he := he.trans (if_neg c_26)
            exact W.vret hx hb hr (fun t ht hW => ⟨⟨v_25, rfl, he.symm, by rw [ht]; exact hP, va_K.moved hW.alike hK, hD⟩, hS.F ht⟩) hS.2.2 d_Md_open_119
  · have he := he.trans (if_pos c_1)
    refine lv_aload_n hx hb d_Md_open_9 rfl (lv_at hl 0 rfl) ?_
    refine lv_iconst (v := 5) hx hb d_Md_open_10 (by decide) ?_
    refine wx_cv (wS := fun v : TMd => w_M ad ca v) (ws2 := fun v : TMd => w_M ad ca v) (va_runV (As := [.int 5]) (rest := []) ⟨hx, hb, hml, hown, ht⟩ (c_Md_fail l dC dI ad ca s.heap.size d 5 _ rfl) (cwV 1 ht (tb_V q_571 q_573 q_26 q_47 q_574) rfl rfl rfl p_Md_fail ⟨show 0 + 1 ≤ rf + 8 by omega, show 8 + (2 + 11) + 0 ≤ rl + 187 by omega⟩) (wx_preV (wc := (w_M ad ca d)) hN hK hP hD [0, 1, 2, 3, 4, 5, 6, 7, 8, 9, 10, 11] [0, 1, 2, 3, 4, 5, 6, 7, 8, 9, 10] rfl (by decide) rfl (ci := 4) (q0 := 0) rfl rfl) rfl rfl hl.1 rfl (lv_room (Nat.le_of_ble_eq_true rfl)) d_Md_open_11 ⟨Nat.zero_le _, Nat.zero_le _⟩) hP hD hS hA [0, 1, 2, 3, 4, 5, 6, 7, 8, 9, 10, 11] [] [0, 1, 2, 3, 4, 5, 6, 7, 8, 9, 10, 11] rfl rfl (by decide) (by decide) (by decide) (fun _ => rfl) (fun v_27 H locs hw_27 hP hD hS => ?_)
    have hP : va_P (dC, dI) vwCl (w_M ad ca v_27) H := hP
    have hD : va_D A (w_M ad ca v_27) := hD
    rw [← hw_27] at he
    try dsimp only at he
    exact W.vret hx hb hr (fun t ht hW => ⟨⟨v_27, rfl, he.symm, by rw [ht]; exact hP, va_K.moved hW.alike hK, hD⟩, hS.F ht⟩) hS.2.2 d_Md_open_14
noncomputable def f_Md_open_0 (d : TMd) (p0 : Int32) : TMd := (let v_2 := f_Md_fail d 5; v_2)
set_option maxHeartbeats 4000000 in
set_option maxRecDepth 100000 in
theorem c_Md_open_0 (l : Launch) (dC : Nat → ClassId) (dI : Nat → Nat → Nat) (ad : Nat → Nat) (ca : Nat → ClassId) (sz : Nat) (d : TMd) (p0 : Int32) (hpre : (TMd_open d) = 20) (F : TMd) (he : F = f_Md_open_0 d p0) : wx_Mv l y_Md_open ws_Md_open ({ frames := 1, cells := 0, slots := 0, locals := 21 } : Room) (dC, dI) vwCl (t_M ca) [.ref (ad 16), .int p0] (w_M ad ca d) sz (fun v : TMd => w_M ad ca v) (fun v : TMd => v = F) := by
  refine Met.ofW (cc := b_Md_open) (maxL := 6) (ret := none) (by decide) rfl ?_
  intro p e s m args below meth c s₁ B hml hv
  obtain ⟨rfl, hsz, hP, hK, hD0, hN⟩ := hv
  have hx := B.exec
  have hb := B.bytes
  have hr := B.returns
  have hts := atoms_spec (ws := ws_Md_open) B.pre
  have ht : ∀ w ∈ TB, w.before _ s = true := fun w h => hts w (List.mem_cons_of_mem _ h)
  have hown : s.vm.findClass R_Md = some m.cls := findClass_of_methodNamed B.named
  have hlocks := B.notSynchronized
  subst hsz
  have hD := hD0.self (sz := s.heap.size)
  generalize hAe : va_A (w_M ad ca d) s.heap.size = A at hD ⊢
  have hA : ∀ q : Nat, s.heap.size ≤ q → A q := fun q h => by rw [← hAe]; exact Or.inr h
  have hS : va_S A s.heap s.heap [] := va_S.rf
  have hl := lv_entry ([.ref (ad 16), .int p0]) (n := 6) (Nat.le_of_ble_eq_true rfl)
  rw [lg_entry_eq]
  generalize (lg_sl ([.ref (ad 16), .int p0]) ++ List.replicate (6 - (lg_sl ([.ref (ad 16), .int p0])).length) Slot.unset).toArray = ls at hl ⊢
  have hl : lv_has ls 6 [(0, .ref (ad 16)), (1, .int p0)] := hl
  unfold f_Md_open_0 at he
  refine lv_aload_n hx hb d_Md_open_0 rfl (lv_at hl 0 rfl) ?_
  refine va_get (D := (dC, dI)) (ci := 4) (v := .int (TMd_open d)) (C := R_Md) (T := T_Md) (N := 23) hx hb ht i_Md hown hK hP 0 rfl rfl 21 (by decide) (ht _ q_466) (fun _ h9 => h9) rfl d_Md_open_1 ?_
  refine lv_bipush (v := 20) hx hb d_Md_open_4 (by decide) ?_
  refine lv_icmp_ne (tgt := 15) hx hb d_Md_open_6 (by decide) (fun c_1 => ?_) (fun c_1 => ?_)
  · exact absurd hpre c_1
  · refine lv_aload_n hx hb d_Md_open_9 rfl (lv_at hl 0 rfl) ?_
    refine lv_iconst (v := 5) hx hb d_Md_open_10 (by decide) ?_
    refine wx_cv (wS := fun v : TMd => w_M ad ca v) (ws2 := fun v : TMd => w_M ad ca v) (va_runV (As := [.int 5]) (rest := []) ⟨hx, hb, hml, hown, ht⟩ (c_Md_fail l dC dI ad ca s.heap.size d 5 _ rfl) (cwV 1 ht (tb_V q_571 q_573 q_26 q_47 q_574) rfl rfl rfl p_Md_fail ⟨show 0 + 1 ≤ 1 by omega, show 8 + (2 + 11) + 0 ≤ 21 by omega⟩) (wx_preV (wc := (w_M ad ca d)) hN hK hP hD [0, 1, 2, 3, 4, 5, 6, 7, 8, 9, 10, 11] [0, 1, 2, 3, 4, 5, 6, 7, 8, 9, 10] rfl (by decide) rfl (ci := 4) (q0 := 0) rfl rfl) rfl rfl hl.1 rfl (lv_room (Nat.le_of_ble_eq_true rfl)) d_Md_open_11 ⟨Nat.zero_le _, Nat.zero_le _⟩) hP hD hS hA [0, 1, 2, 3, 4, 5, 6, 7, 8, 9, 10, 11] [] [0, 1, 2, 3, 4, 5, 6, 7, 8, 9, 10, 11] rfl rfl (by decide) (by decide) (by decide) (fun _ => rfl) (fun v_2 H locs hw_2 hP hD hS => ?_)
    have hP : va_P (dC, dI) vwCl (w_M ad ca v_2) H := hP
    have hD : va_D A (w_M ad ca v_2) := hD
    rw [← hw_2] at he
    try dsimp only at he
    exact W.vret hx hb hr (fun t ht hW => ⟨⟨v_2, rfl, he.symm, by rw [ht]; exact hP, va_K.moved hW.alike hK, hD⟩, hS.F ht⟩) hS.2.2 d_Md_open_14
