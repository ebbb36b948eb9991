theorem q_26 : Cond.selects R_Md y_Md_fail y_Md_fail ∈ TB := tq 26 (by decide +kernel) rfl
theorem q_453 : Cond.fieldLink R_Md 29 "ConditionTextModel" "pileRows" "[I" ∈ TB := tq 453 (by decide +kernel) rfl
theorem q_454 : Cond.fieldLink R_Md 32 "ConditionTextModel" "pilePlaces" "[I" ∈ TB := tq 454 (by decide +kernel) rfl
theorem q_455 : Cond.fieldLink R_Md 78 "ConditionTextModel" "pile" "I" ∈ TB := tq 455 (by decide +kernel) rfl
theorem q_456 : Cond.fieldLink R_Md 75 "ConditionTextModel" "held" "I" ∈ TB := tq 456 (by decide +kernel) rfl
theorem q_571 : Cond.methodLink R_Md 84 y_Md_fail ∈ TB := tq 571 (by decide +kernel) rfl
theorem q_573 : Cond.instanceMethod y_Md_fail ∈ TB := tq 573 (by decide +kernel) rfl
theorem q_574 : Cond.code y_Md_fail b_Md_fail 2 (none : Option Jvm.ClassFile.FieldType) ∈ TB := tq 574 (by decide +kernel) rfl
theorem d_Md_next_0 : decode b_Md_next 0 = .ok (.aload_n 0, 1) := by decide +kernel
theorem d_Md_next_1 : decode b_Md_next 1 = .ok (.getfield 72, 3) := by decide +kernel
theorem d_Md_next_4 : decode b_Md_next 4 = .ok (.ifCond .le 5, 3) := by decide +kernel
theorem d_Md_next_7 : decode b_Md_next 7 = .ok (.iconst (-1), 1) := by decide +kernel
theorem d_Md_next_8 : decode b_Md_next 8 = .ok (.ireturn, 1) := by decide +kernel
theorem d_Md_next_9 : decode b_Md_next 9 = .ok (.aload_n 0, 1) := by decide +kernel
theorem d_Md_next_10 : decode b_Md_next 10 = .ok (.getfield 75, 3) := by decide +kernel
theorem d_Md_next_13 : decode b_Md_next 13 = .ok (.ifCond .lt 15, 3) := by decide +kernel
theorem d_Md_next_16 : decode b_Md_next 16 = .ok (.aload_n 0, 1) := by decide +kernel
theorem d_Md_next_17 : decode b_Md_next 17 = .ok (.getfield 75, 3) := by decide +kernel
theorem d_Md_next_20 : decode b_Md_next 20 = .ok (.istore_n 1, 1) := by decide +kernel
theorem d_Md_next_21 : decode b_Md_next 21 = .ok (.aload_n 0, 1) := by decide +kernel
theorem d_Md_next_22 : decode b_Md_next 22 = .ok (.iconst (-1), 1) := by decide +kernel
theorem d_Md_next_23 : decode b_Md_next 23 = .ok (.putfield 75, 3) := by decide +kernel
theorem d_Md_next_26 : decode b_Md_next 26 = .ok (.iload_n 1, 1) := by decide +kernel
theorem d_Md_next_27 : decode b_Md_next 27 = .ok (.ireturn, 1) := by decide +kernel
theorem d_Md_next_28 : decode b_Md_next 28 = .ok (.aload_n 0, 1) := by decide +kernel
theorem d_Md_next_29 : decode b_Md_next 29 = .ok (.getfield 78, 3) := by decide +kernel
theorem d_Md_next_32 : decode b_Md_next 32 = .ok (.ifCond .le 46, 3) := by decide +kernel
theorem d_Md_next_35 : decode b_Md_next 35 = .ok (.aload_n 0, 1) := by decide +kernel
theorem d_Md_next_36 : decode b_Md_next 36 = .ok (.getfield 32, 3) := by decide +kernel
theorem d_Md_next_39 : decode b_Md_next 39 = .ok (.aload_n 0, 1) := by decide +kernel
theorem d_Md_next_40 : decode b_Md_next 40 = .ok (.getfield 78, 3) := by decide +kernel
theorem d_Md_next_43 : decode b_Md_next 43 = .ok (.iconst 1, 1) := by decide +kernel
theorem d_Md_next_44 : decode b_Md_next 44 = .ok (.isub, 1) := by decide +kernel
theorem d_Md_next_45 : decode b_Md_next 45 = .ok (.iaload, 1) := by decide +kernel
theorem d_Md_next_46 : decode b_Md_next 46 = .ok (.aload_n 0, 1) := by decide +kernel
theorem d_Md_next_47 : decode b_Md_next 47 = .ok (.getfield 19, 3) := by decide +kernel
theorem d_Md_next_50 : decode b_Md_next 50 = .ok (.aload_n 0, 1) := by decide +kernel
theorem d_Md_next_51 : decode b_Md_next 51 = .ok (.getfield 29, 3) := by decide +kernel
theorem d_Md_next_54 : decode b_Md_next 54 = .ok (.aload_n 0, 1) := by decide +kernel
theorem d_Md_next_55 : decode b_Md_next 55 = .ok (.getfield 78, 3) := by decide +kernel
theorem d_Md_next_58 : decode b_Md_next 58 = .ok (.iconst 1, 1) := by decide +kernel
theorem d_Md_next_59 : decode b_Md_next 59 = .ok (.isub, 1) := by decide +kernel
theorem d_Md_next_60 : decode b_Md_next 60 = .ok (.iaload, 1) := by decide +kernel
theorem d_Md_next_61 : decode b_Md_next 61 = .ok (.iaload, 1) := by decide +kernel
theorem d_Md_next_62 : decode b_Md_next 62 = .ok (.if_icmp .ne 16, 3) := by decide +kernel
theorem d_Md_next_65 : decode b_Md_next 65 = .ok (.aload_n 0, 1) := by decide +kernel
theorem d_Md_next_66 : decode b_Md_next 66 = .ok (.dup, 1) := by decide +kernel
theorem d_Md_next_67 : decode b_Md_next 67 = .ok (.getfield 78, 3) := by decide +kernel
theorem d_Md_next_70 : decode b_Md_next 70 = .ok (.iconst 1, 1) := by decide +kernel
theorem d_Md_next_71 : decode b_Md_next 71 = .ok (.isub, 1) := by decide +kernel
theorem d_Md_next_72 : decode b_Md_next 72 = .ok (.putfield 78, 3) := by decide +kernel
theorem d_Md_next_75 : decode b_Md_next 75 = .ok (.goto (-47), 3) := by decide +kernel
theorem d_Md_next_78 : decode b_Md_next 78 = .ok (.aload_n 0, 1) := by decide +kernel
theorem d_Md_next_79 : decode b_Md_next 79 = .ok (.getfield 78, 3) := by decide +kernel
theorem d_Md_next_82 : decode b_Md_next 82 = .ok (.ifCond .ne 5, 3) := by decide +kernel
theorem d_Md_next_85 : decode b_Md_next 85 = .ok (.iconst (-1), 1) := by decide +kernel
theorem d_Md_next_86 : decode b_Md_next 86 = .ok (.ireturn, 1) := by decide +kernel
theorem d_Md_next_87 : decode b_Md_next 87 = .ok (.aload_n 0, 1) := by decide +kernel
theorem d_Md_next_88 : decode b_Md_next 88 = .ok (.getfield 81, 3) := by decide +kernel
theorem d_Md_next_91 : decode b_Md_next 91 = .ok (.sipush 5000, 3) := by decide +kernel
theorem d_Md_next_94 : decode b_Md_next 94 = .ok (.if_icmp .ne 11, 3) := by decide +kernel
theorem d_Md_next_97 : decode b_Md_next 97 = .ok (.aload_n 0, 1) := by decide +kernel
theorem d_Md_next_98 : decode b_Md_next 98 = .ok (.bipush 9, 2) := by decide +kernel
theorem d_Md_next_100 : decode b_Md_next 100 = .ok (.invokevirtual 84, 3) := by decide +kernel
theorem d_Md_next_103 : decode b_Md_next 103 = .ok (.iconst (-1), 1) := by decide +kernel
theorem d_Md_next_104 : decode b_Md_next 104 = .ok (.ireturn, 1) := by decide +kernel
theorem d_Md_next_105 : decode b_Md_next 105 = .ok (.aload_n 0, 1) := by decide +kernel
theorem d_Md_next_106 : decode b_Md_next 106 = .ok (.dup, 1) := by decide +kernel
theorem d_Md_next_107 : decode b_Md_next 107 = .ok (.getfield 81, 3) := by decide +kernel
theorem d_Md_next_110 : decode b_Md_next 110 = .ok (.iconst 1, 1) := by decide +kernel
theorem d_Md_next_111 : decode b_Md_next 111 = .ok (.iadd, 1) := by decide +kernel
theorem d_Md_next_112 : decode b_Md_next 112 = .ok (.putfield 81, 3) := by decide +kernel
theorem d_Md_next_115 : decode b_Md_next 115 = .ok (.aload_n 0, 1) := by decide +kernel
theorem d_Md_next_116 : decode b_Md_next 116 = .ok (.getfield 16, 3) := by decide +kernel
theorem d_Md_next_119 : decode b_Md_next 119 = .ok (.sipush 200, 3) := by decide +kernel
theorem d_Md_next_122 : decode b_Md_next 122 = .ok (.aload_n 0, 1) := by decide +kernel
theorem d_Md_next_123 : decode b_Md_next 123 = .ok (.getfield 29, 3) := by decide +kernel
theorem d_Md_next_126 : decode b_Md_next 126 = .ok (.aload_n 0, 1) := by decide +kernel
theorem d_Md_next_127 : decode b_Md_next 127 = .ok (.getfield 78, 3) := by decide +kernel
theorem d_Md_next_130 : decode b_Md_next 130 = .ok (.iconst 1, 1) := by decide +kernel
theorem d_Md_next_131 : decode b_Md_next 131 = .ok (.isub, 1) := by decide +kernel
theorem d_Md_next_132 : decode b_Md_next 132 = .ok (.iaload, 1) := by decide +kernel
theorem d_Md_next_133 : decode b_Md_next 133 = .ok (.imul, 1) := by decide +kernel
theorem d_Md_next_134 : decode b_Md_next 134 = .ok (.aload_n 0, 1) := by decide +kernel
theorem d_Md_next_135 : decode b_Md_next 135 = .ok (.getfield 32, 3) := by decide +kernel
theorem d_Md_next_138 : decode b_Md_next 138 = .ok (.aload_n 0, 1) := by decide +kernel
theorem d_Md_next_139 : decode b_Md_next 139 = .ok (.getfield 78, 3) := by decide +kernel
theorem d_Md_next_142 : decode b_Md_next 142 = .ok (.iconst 1, 1) := by decide +kernel
theorem d_Md_next_143 : decode b_Md_next 143 = .ok (.isub, 1) := by decide +kernel
theorem d_Md_next_144 : decode b_Md_next 144 = .ok (.iaload, 1) := by decide +kernel
theorem d_Md_next_145 : decode b_Md_next 145 = .ok (.iadd, 1) := by decide +kernel
theorem d_Md_next_146 : decode b_Md_next 146 = .ok (.iaload, 1) := by decide +kernel
theorem d_Md_next_147 : decode b_Md_next 147 = .ok (.istore_n 1, 1) := by decide +kernel
theorem d_Md_next_148 : decode b_Md_next 148 = .ok (.aload_n 0, 1) := by decide +kernel
theorem d_Md_next_149 : decode b_Md_next 149 = .ok (.getfield 32, 3) := by decide +kernel
theorem d_Md_next_152 : decode b_Md_next 152 = .ok (.aload_n 0, 1) := by decide +kernel
theorem d_Md_next_153 : decode b_Md_next 153 = .ok (.getfield 78, 3) := by decide +kernel
theorem d_Md_next_156 : decode b_Md_next 156 = .ok (.iconst 1, 1) := by decide +kernel
theorem d_Md_next_157 : decode b_Md_next 157 = .ok (.isub, 1) := by decide +kernel
theorem d_Md_next_158 : decode b_Md_next 158 = .ok (.dup2, 1) := by decide +kernel
theorem d_Md_next_159 : decode b_Md_next 159 = .ok (.iaload, 1) := by decide +kernel
theorem d_Md_next_160 : decode b_Md_next 160 = .ok (.iconst 1, 1) := by decide +kernel
theorem d_Md_next_161 : decode b_Md_next 161 = .ok (.iadd, 1) := by decide +kernel
theorem d_Md_next_162 : decode b_Md_next 162 = .ok (.iastore, 1) := by decide +kernel
theorem d_Md_next_163 : decode b_Md_next 163 = .ok (.iload_n 1, 1) := by decide +kernel
theorem d_Md_next_164 : decode b_Md_next 164 = .ok (.ireturn, 1) := by decide +kernel
noncomputable def f_Md_next_28 : Nat → TMd → (Int32 × TMd)
  | 0, d => (0, d)
  | n + 1, d => (if (TMd_pile d) ≤ 0 then (if (TMd_pile d) = 0 then ((-1), d) else (0, d)) else (if ((TMd_pilePlaces d) ((TMd_pile d) - 1).toNatClampNeg) = ((TMd_sizes d) ((TMd_pileRows d) ((TMd_pile d) - 1).toNatClampNeg).toNatClampNeg) then (let y_10 := ((TMd_pile d) - 1); (f_Md_next_28 n (TMd_set_pile d y_10))) else (if (TMd_pile d) = 0 then ((-1), d) else (if (TMd_steps d) = 5000 then (let v_9 := f_Md_fail d 9; ((-1), v_9)) else (let y_6 := ((TMd_steps d) + 1); (let y_7 := (((TMd_pilePlaces d) ((TMd_pile d) - 1).toNatClampNeg) + 1); (let g_8 := (upd (TMd_pilePlaces d) ((TMd_pile d) - 1).toNatClampNeg y_7); (((TMd_rows d) ((200 * ((TMd_pileRows d) ((TMd_pile d) - 1).toNatClampNeg)) + ((TMd_pilePlaces d) ((TMd_pile d) - 1).toNatClampNeg)).toNatClampNeg), (TMd_set_steps (TMd_set_pilePlaces d g_8) y_6)))))))))
set_option maxHeartbeats 4000000 in
set_option maxRecDepth 100000 in
theorem k_Md_next_28 {p : Program} {e : Env} {s : State} {m : MethodId} {args : Array Value} {below : List Frame} {meth : Method} {c : Code} {A : Nat → Prop} (l : Launch) (dC : Nat → ClassId) (dI : Nat → Nat → Nat) (ad : Nat → Nat) (ca : Nat → ClassId) (C0 : wx_C p s m args meth c b_Md_next (some .int) 2 R_Md A (dC, dI) vwCl (t_M ca)) (F : (Int32 × TMd)) : ∀ (n : Nat) (d : TMd), ((MdS d ∧ MdP d) ∧ (TMd_pile d).toInt < (n : Int)) → F = f_Md_next_28 n d → ∀ (H : Heap) (locs : List Loc), va_P (dC, dI) vwCl (w_M ad ca d) H → va_D A (w_M ad ca d) → va_S A s.heap H locs → ∀ (ls : Array Slot), lv_has ls 2 [(0, .ref (ad 16))] → W p l e ({ frames := 1, cells := 0, slots := 0, locals := 21 } : Room) s m args below meth c H locs 0 0 (MQ below (va_Qi (fun (r : Int32) (v : TMd) => (r, v) = F) (wx_B (dC, dI) vwCl (t_M ca) (fun v : TMd => w_M ad ca v) A) A) args s 0 0 A) (F0 m 28 ls []) := by
  have C1 := C0
  obtain ⟨hx, hb, hr, hml, hown, ht, hlocks, hA, hK, hN⟩ := C1
  intro n
  induction n with
  | zero =>
    intro d hc he
    exact absurd hc (fun h => by have h1 := h.1.2.1; have h2 := h.2; omega)
  | succ n ih =>
    intro d hc he H locs hP hD hS ls hl
    rw [f_Md_next_28] at he
    refine lv_aload_n hx hb d_Md_next_28 rfl (lv_at hl 0 rfl) ?_
    refine va_get (D := (dC, dI)) (ci := 4) (v := .int (TMd_pile d)) (C := R_Md) (T := T_Md) (N := 23) hx hb ht i_Md hown hK hP 0 rfl rfl 10 (by decide) (ht _ q_455) (fun _ h9 => h9) rfl d_Md_next_29 ?_
    refine lv_if_le (tgt := 78) hx hb d_Md_next_32 (by decide) (fun c_1 => ?_) (fun c_1 => ?_)
    · have he := he.trans (if_pos c_1)
      refine lv_aload_n hx hb d_Md_next_78 rfl (lv_at hl 0 rfl) ?_
      refine va_get (D := (dC, dI)) (ci := 4) (v := .int (TMd_pile d)) (C := R_Md) (T := T_Md) (N := 23) hx hb ht i_Md hown hK hP 0 rfl rfl 10 (by decide) (ht _ q_455) (fun _ h9 => h9) rfl d_Md_next_79 ?_
      refine lv_if_ne (tgt := 87) hx hb d_Md_next_82 (by decide) (fun c_2 => ?_) (fun c_2 => ?_)
      · have he := he.trans (if_neg c_2)
        exact False.elim (nx_no hc.1.2 c_1 c_2)
      · have he := he.trans (if_pos c_2)
        refine lv_iconst (v := (-1)) hx hb d_Md_next_85 (by decide) ?_
        exact W.iret hx hb hr (v := (-1)) (fun t ht hW => ⟨⟨(-1), d, rfl, he.symm, by rw [ht]; exact hP, va_K.moved hW.alike hK, hD⟩, hS.F ht⟩) hS.2.2 d_Md_next_86
    · have he := he.trans (if_neg c_1)
      refine lv_aload_n hx hb d_Md_next_35 rfl (lv_at hl 0 rfl) ?_
      refine va_get (D := (dC, dI)) (ci := 4) (v := .ref (ad 24)) (C := R_Md) (T := T_Md) (N := 23) hx hb ht i_Md hown hK hP 0 rfl rfl 9 (by decide) (ht _ q_454) (fun _ h9 => h9) rfl d_Md_next_36 ?_
      refine lv_aload_n hx hb d_Md_next_39 rfl (lv_at hl 0 rfl) ?_
      refine va_get (D := (dC, dI)) (ci := 4) (v := .int (TMd_pile d)) (C := R_Md) (T := T_Md) (N := 23) hx hb ht i_Md hown hK hP 0 rfl rfl 10 (by decide) (ht _ q_455) (fun _ h9 => h9) rfl d_Md_next_40 ?_
      refine lv_iconst (v := 1) hx hb d_Md_next_43 (by decide) ?_
      refine lv_isub hx hb d_Md_next_44 ?_
      refine va_iald (f := (TMd_pilePlaces d)) hx hb hK hP 8 7 rfl rfl (nx_1 (d := d) hc.1.2 c_1) d_Md_next_45 ?_
      refine lv_aload_n hx hb d_Md_next_46 rfl (lv_at hl 0 rfl) ?_
      refine va_get (D := (dC, dI)) (ci := 4) (v := .ref (ad 20)) (C := R_Md) (T := T_Md) (N := 23) hx hb ht i_Md hown hK hP 0 rfl rfl 5 (by decide) (ht _ q_450) (fun _ h9 => h9) rfl d_Md_next_47 ?_
      refine lv_aload_n hx hb d_Md_next_50 rfl (lv_at hl 0 rfl) ?_
      refine va_get (D := (dC, dI)) (ci := 4) (v := .ref (ad 23)) (C := R_Md) (T := T_Md) (N := 23) hx hb ht i_Md hown hK hP 0 rfl rfl 8 (by decide) (ht _ q_453) (fun _ h9 => h9) rfl d_Md_next_51 ?_
      refine lv_aload_n hx hb d_Md_next_54 rfl (lv_at hl 0 rfl) ?_
      refine va_get (D := (dC, dI)) (ci := 4) (v := .int (TMd_pile d)) (C := R_Md) (T := T_Md) (N := 23) hx hb ht i_Md hown hK hP 0 rfl rfl 10 (by decide) (ht _ q_455) (fun _ h9 => h9) rfl d_Md_next_55 ?_
      refine lv_iconst (v := 1) hx hb d_Md_next_58 (by decide) ?_
      refine lv_isub hx hb d_Md_next_59 ?_
      refine va_iald (f := (TMd_pileRows d)) hx hb hK hP 7 6 rfl rfl (nx_1 (d := d) hc.1.2 c_1) d_Md_next_60 ?_
      refine va_iald (f := (TMd_sizes d)) hx hb hK hP 4 3 rfl rfl (nx_2 (d := d) hc.1.2 c_1) d_Md_next_61 ?_
      refine lv_icmp_ne (tgt := 78) hx hb d_Md_next_62 (by decide) (fun c_3 => ?_) (fun c_3 => ?_)
      · have he := he.trans (if_neg c_3)
        refine lv_aload_n hx hb d_Md_next_78 rfl (lv_at hl 0 rfl) ?_
        refine va_get (D := (dC, dI)) (ci := 4) (v := .int (TMd_pile d)) (C := R_Md) (T := T_Md) (N := 23) hx hb ht i_Md hown hK hP 0 rfl rfl 10 (by decide) (ht _ q_455) (fun _ h9 => h9) rfl d_Md_next_79 ?_
        refine lv_if_ne (tgt := 87) hx hb d_Md_next_82 (by decide) (fun c_4 => ?_) (fun c_4 => ?_)
        · have he := he.trans (if_neg c_4)
          refine lv_aload_n hx hb d_Md_next_87 rfl (lv_at hl 0 rfl) ?_
          refine va_get (D := (dC, dI)) (ci := 4) (v := .int (TMd_steps d)) (C := R_Md) (T := T_Md) (N := 23) hx hb ht i_Md hown hK hP 0 rfl rfl 12 (by decide) (ht _ q_457) (fun _ h9 => h9) rfl d_Md_next_88 ?_
          refine lv_sipush (v := 5000) hx hb d_Md_next_91 (by decide) ?_
          refine lv_icmp_ne (tgt := 105) hx hb d_Md_next_94 (by decide) (fun c_5 => ?_) (fun c_5 => ?_)
          · have he := he.trans (if_neg c_5)
            refine lv_aload_n hx hb d_Md_next_105 rfl (lv_at hl 0 rfl) ?_
            refine lv_dup hx hb d_Md_next_106 rfl ?_
            refine va_get (D := (dC, dI)) (ci := 4) (v := .int (TMd_steps d)) (C := R_Md) (T := T_Md) (N := 23) hx hb ht i_Md hown hK hP 0 rfl rfl 12 (by decide) (ht _ q_457) (fun _ h9 => h9) rfl d_Md_next_107 ?_
            refine lv_iconst (v := 1) hx hb d_Md_next_110 (by decide) ?_
            refine lv_iadd hx hb d_Md_next_111 ?_
            refine lv_topi (fun y_6 ey_6 => ?_)
            rw [← ey_6] at he
            try dsimp only at he
            refine va_put (D := (dC, dI)) (ci := 4) (v := .int y_6) (ty := .int) (C := R_Md) (T := T_Md) (N := 23) hx hb ht i_Md ty_Md ty_Md_ok nm_Md hown hK hP hD hS 0 rfl rfl 12 (by decide) (ht _ q_457) (fun _ h9 => h9) rfl (by decide +kernel) rfl rfl (Nat.le_of_ble_eq_true rfl) d_Md_next_112 (fun H locs hP hD hS => ?_)
            have hP : va_P (dC, dI) vwCl (w_M ad ca (TMd_set_steps d y_6)) H := hP
            have hD : va_D A (w_M ad ca (TMd_set_steps d y_6)) := hD
            refine lv_aload_n hx hb d_Md_next_115 rfl (lv_at hl 0 rfl) ?_
            refine va_get (D := (dC, dI)) (ci := 4) (v := .ref (ad 19)) (C := R_Md) (T := T_Md) (N := 23) hx hb ht i_Md hown hK hP 0 rfl rfl 4 (by decide) (ht _ q_449) (fun _ h9 => h9) rfl d_Md_next_116 ?_
            refine lv_sipush (v := 200) hx hb d_Md_next_119 (by decide) ?_
            refine lv_aload_n hx hb d_Md_next_122 rfl (lv_at hl 0 rfl) ?_
            refine va_get (D := (dC, dI)) (ci := 4) (v := .ref (ad 23)) (C := R_Md) (T := T_Md) (N := 23) hx hb ht i_Md hown hK hP 0 rfl rfl 8 (by decide) (ht _ q_453) (fun _ h9 => h9) rfl d_Md_next_123 ?_
            refine lv_aload_n hx hb d_Md_next_126 rfl (lv_at hl 0 rfl) ?_
            refine va_get (D := (dC, dI)) (ci := 4) (v := .int (TMd_pile d)) (C := R_Md) (T := T_Md) (N := 23) hx hb ht i_Md hown hK hP 0 rfl rfl 10 (by decide) (ht _ q_455) (fun _ h9 => h9) rfl d_Md_next_127 ?_
            refine lv_iconst (v := 1) hx hb d_Md_next_130 (by decide) ?_
            refine lv_isub hx hb d_Md_next_131 ?_
            refine va_iald (f := (TMd_pileRows d)) hx hb hK hP 7 6 rfl rfl (nx_1 (d := d) hc.1.2 c_1) d_Md_next_132 ?_
            refine lv_imul hx hb d_Md_next_133 ?_
            refine lv_aload_n hx hb d_Md_next_134 rfl (lv_at hl 0 rfl) ?_
            refine va_get (D := (dC, dI)) (ci := 4) (v := .ref (ad 24)) (C := R_Md) (T := T_Md) (N := 23) hx hb ht i_Md hown hK hP 0 rfl rfl 9 (by decide) (ht _ q_454) (fun _ h9 => h9) rfl d_Md_next_135 ?_
            refine lv_aload_n hx hb d_Md_next_138 rfl (lv_at hl 0 rfl) ?_
            refine va_get (D := (dC, dI)) (ci := 4) (v := .int (TMd_pile d)) (C := R_Md) (T := T_Md) (N := 23) hx hb ht i_Md hown hK hP 0 rfl rfl 10 (by decide) (ht _ q_455) (fun _ h9 => h9) rfl d_Md_next_139 ?_
            refine lv_iconst (v := 1) hx hb d_Md_next_142 (by decide) ?_
            refine lv_isub hx hb d_Md_next_143 ?_
            refine va_iald (f := (TMd_pilePlaces d)) hx hb hK hP 8 7 rfl rfl (nx_1 (d := d) hc.1.2 c_1) d_Md_next_144 ?_
            refine lv_iadd hx hb d_Md_next_145 ?_
            refine va_iald (f := (TMd_rows d)) hx hb hK hP 3 2 rfl rfl (nx_3 (d := d) hc.1.1 hc.1.2 c_1 c_3) d_Md_next_146 ?_
            refine lv_istore_n (lv' := [(1, .int ((TMd_rows d) ((200 * ((TMd_pileRows d) ((TMd_pile d) - 1).toNatClampNeg)) + ((TMd_pilePlaces d) ((TMd_pile d) - 1).toNatClampNeg)).toNatClampNeg)), (0, .ref (ad 16))]) hx hb d_Md_next_147 rfl hl (by decide) rfl (fun ls hl => ?_)
            refine lv_aload_n hx hb d_Md_next_148 rfl (lv_at hl 1 rfl) ?_
            refine va_get (D := (dC, dI)) (ci := 4) (v := .ref (ad 24)) (C := R_Md) (T := T_Md) (N := 23) hx hb ht i_Md hown hK hP 0 rfl rfl 9 (by decide) (ht _ q_454) (fun _ h9 => h9) rfl d_Md_next_149 ?_
            refine lv_aload_n hx hb d_Md_next_152 rfl (lv_at hl 1 rfl) ?_
            refine va_get (D := (dC, dI)) (ci := 4) (v := .int (TMd_pile d)) (C := R_Md) (T := T_Md) (N := 23) hx hb ht i_Md hown hK hP 0 rfl rfl 10 (by decide) (ht _ q_455) (fun _ h9 => h9) rfl d_Md_next_153 ?_
            refine lv_iconst (v := 1) hx hb d_Md_next_156 (by decide) ?_
            refine lv_isub hx hb d_Md_next_157 ?_
            refine lv_dup2_11 hx hb d_Md_next_158 rfl rfl ?_
            refine va_iald (f := (TMd_pilePlaces d)) hx hb hK hP 8 7 rfl rfl (nx_1 (d := d) hc.1.2 c_1) d_Md_next_159 ?_
            refine lv_iconst (v := 1) hx hb d_Md_next_160 (by decide) ?_
            refine lv_iadd hx hb d_Md_next_161 ?_
            refine lv_topi (fun y_7 ey_7 => ?_)
            rw [← ey_7] at he
            try dsimp only at he
            refine va_iast (f := (TMd_pilePlaces d)) hx hb hK hP hD hS 8 7 rfl rfl (nx_1 (d := d) hc.1.2 c_1) d_Md_next_162 (fun H locs hP hD hS => ?_)
            obtain ⟨g_8, eg_8⟩ : ∃ z, z = (upd (TMd_pilePlaces d) ((TMd_pile d) - 1).toNatClampNeg y_7) := ⟨_, rfl⟩
            rw [← eg_8] at he hP hD
            try dsimp only at he
            have hP : va_P (dC, dI) vwCl (w_M ad ca (TMd_set_steps (TMd_set_pilePlaces d g_8) y_6)) H := hP
            have hD : va_D A (w_M ad ca (TMd_set_steps (TMd_set_pilePlaces d g_8) y_6)) := hD
            refine lv_iload_n hx hb d_Md_next_163 rfl (lv_at hl 0 rfl) ?_
            exact W.iret hx hb hr (v := ((TMd_rows d) ((200 * ((TMd_pileRows d) ((TMd_pile d) - 1).toNatClampNeg)) + ((TMd_pilePlaces d) ((TMd_pile d) - 1).toNatClampNeg)).toNatClampNeg)) (fun t ht hW => ⟨⟨((TMd_rows d) ((200 * ((TMd_pileRows d) ((TMd_pile d) - 1).toNatClampNeg)) + ((TMd_pilePlaces d) ((TMd_pile d) - 1).toNatClampNeg)).toNatClampNeg), (TMd_set_steps (TMd_set_pilePlaces d g_8) y_6), rfl, he.symm, by rw [ht]; exact hP, va_K.moved hW.alike hK, hD⟩, hS.F ht⟩) hS.2.2 d_Md_next_164
          · have he := he.trans (if_pos c_5)
            refine lv_aload_n hx hb d_Md_next_97 rfl (lv_at hl 0 rfl) ?_
            refine lv_bipush (v := 9) hx hb d_Md_next_98 (by decide) ?_
            refine wx_cv (wS := fun v : TMd => w_M ad ca v) (ws2 := fun v : TMd => w_M ad ca v) (va_runV (As := [.int 9]) (rest := []) ⟨hx, hb, hml, hown, ht⟩ (c_Md_fail l dC dI ad ca H.size d 9 _ rfl) (cwV 1 ht (tb_V q_571 q_573 q_26 q_47 q_574) rfl rfl rfl p_Md_fail ⟨show 0 + 1 ≤ 1 by omega, show 8 + (2 + 11) + 0 ≤ 21 by omega⟩) (wx_preV (wc := (w_M ad ca d)) hN hK hP hD [0, 1, 2, 3, 4, 5, 6, 7, 8, 9, 10, 11] [0, 1, 2, 3, 4, 5, 6, 7, 8, 9, 10] rfl (by decide) rfl (ci := 4) (q0 := 0) rfl rfl) rfl rfl hl.1 rfl (lv_room (Nat.le_of_ble_eq_true rfl)) d_Md_next_100 ⟨Nat.zero_le _, Nat.zero_le _⟩) hP hD hS hA [0, 1, 2, 3, 4, 5, 6, 7, 8, 9, 10, 11] [] [0, 1, 2, 3, 4, 5, 6, 7, 8, 9, 10, 11] rfl rfl (by decide) (by decide) (by decide) (fun _ => rfl) (fun v_9 H locs hw_9 hP hD hS => ?_)
            have hP : va_P (dC, dI) vwCl (w_M ad ca v_9) H := hP
            have hD : va_D A (w_M ad ca v_9) := hD
            rw [← hw_9] at he
            try dsimp only at he
            refine lv_iconst (v := (-1)) hx hb d_Md_next_103 (by decide) ?_
            exact W.iret hx hb hr (v := (-1)) (fun t ht hW => ⟨⟨(-1), v_9, rfl, he.symm, by rw [ht]; exact hP, va_K.moved hW.alike hK, hD⟩, hS.F ht⟩) hS.2.2 d_Md_next_104
        · have he := he.trans (if_pos c_4)
          refine lv_iconst (v := (-1)) hx hb d_Md_next_85 (by decide) ?_
          exact W.iret hx hb hr (v := (-1)) (fun t ht hW => ⟨⟨(-1), d, rfl, he.symm, by rw [ht]; exact hP, va_K.moved hW.alike hK, hD⟩, hS.F ht⟩) hS.2.2 d_Md_next_86
      · have he := he.trans (if_pos c_3)
        refine lv_aload_n hx hb d_Md_next_65 rfl (lv_at hl 0 rfl) ?_
        refine lv_dup hx hb d_Md_next_66 rfl ?_
        refine va_get (D := (dC, dI)) (ci := 4) (v := .int (TMd_pile d)) (C := R_Md) (T := T_Md) (N := 23) hx hb ht i_Md hown hK hP 0 rfl rfl 10 (by decide) (ht _ q_455) (fun _ h9 => h9) rfl d_Md_next_67 ?_
        refine lv_iconst (v := 1) hx hb d_Md_next_70 (by decide) ?_
        refine lv_isub hx hb d_Md_next_71 ?_
        refine lv_topi (fun y_10 ey_10 => ?_)
        rw [← ey_10] at he
        try dsimp only at he
        refine va_put (D := (dC, dI)) (ci := 4) (v := .int y_10) (ty := .int) (C := R_Md) (T := T_Md) (N := 23) hx hb ht i_Md ty_Md ty_Md_ok nm_Md hown hK hP hD hS 0 rfl rfl 10 (by decide) (ht _ q_455) (fun _ h9 => h9) rfl (by decide +kernel) rfl rfl (Nat.le_of_ble_eq_true rfl) d_Md_next_72 (fun H locs hP hD hS => ?_)
        have hP : va_P (dC, dI) vwCl (w_M ad ca (TMd_set_pile d y_10)) H := hP
        have hD : va_D A (w_M ad ca (TMd_set_pile d y_10)) := hD
        refine lv_goto (tgt := 28) hx hb d_Md_next_75 (by decide) ?_
        exact ih (TMd_set_pile d y_10) ⟨⟨hc.1.1, by rw [ey_10]; exact nx_pop hc.1.2 c_1⟩, by rw [ey_10]; exact nx_f hc.1.2 hc.2 c_1⟩ he _ _ hP hD hS _ (lv_sub hl [0] rfl)
noncomputable def f_Md_next (d : TMd) : (Int32 × TMd) := (if (TMd_fault d) ≤ 0 then (if (TMd_held d) < 0 then (f_Md_next_28 (((TMd_pile d).toInt + 1).toNat) d) else ((TMd_held d), (TMd_set_held d (-1)))) else ((-1), d))
set_option maxHeartbeats 4000000 in
set_option maxRecDepth 100000 in
theorem c_Md_next (l : Launch) (dC : Nat → ClassId) (dI : Nat → Nat → Nat) (ad : Nat → Nat) (ca : Nat → ClassId) (sz : Nat) (d : TMd) (hpre : MdS d ∧ MdP d) (F : (Int32 × TMd)) (he : F = f_Md_next d) : wx_Mi l y_Md_next ws_Md_next ({ frames := 1, cells := 0, slots := 0, locals := 21 } : Room) (dC, dI) vwCl (t_M ca) [.ref (ad 16)] (w_M ad ca d) sz (fun v : TMd => w_M ad ca v) (fun (r : Int32) (v : TMd) => (r, v) = F) := by
  refine Met.ofW (cc := b_Md_next) (maxL := 2) (ret := some .int) (by decide) rfl ?_
  intro p e s m args below meth c s₁ B hml hv
  obtain ⟨rfl, hsz, hP, hK, hD0, hN⟩ := hv
  have hx := B.exec
  have hb := B.bytes
  have hr := B.returns
  have hts := atoms_spec (ws := ws_Md_next) B.pre
  have ht : ∀ w ∈ TB, w.before _ s = true := fun w h => hts w (List.mem_cons_of_mem _ h)
  have hown : s.vm.findClass R_Md = some m.cls := findClass_of_methodNamed B.named
  have hlocks := B.notSynchronized
  subst hsz
  have hD := hD0.self (sz := s.heap.size)
  generalize hAe : va_A (w_M ad ca d) s.heap.size = A at hD ⊢
  have hA : ∀ q : Nat, s.heap.size ≤ q → A q := fun q h => by rw [← hAe]; exact Or.inr h
  have hS : va_S A s.heap s.heap [] := va_S.rf
  have C0 : wx_C p s m ([.ref (ad 16)] : List Value).toArray meth c b_Md_next (some .int) 2 R_Md A (dC, dI) vwCl (t_M ca) := ⟨hx, hb, hr, hml, hown, ht, hlocks, hA, hK, hN⟩
  have hl := lv_entry ([.ref (ad 16)]) (n := 2) (Nat.le_of_ble_eq_true rfl)
  rw [lg_entry_eq]
  generalize (lg_sl ([.ref (ad 16)]) ++ List.replicate (2 - (lg_sl ([.ref (ad 16)])).length) Slot.unset).toArray = ls at hl ⊢
  have hl : lv_has ls 2 [(0, .ref (ad 16))] := hl
  unfold f_Md_next at he
  refine lv_aload_n hx hb d_Md_next_0 rfl (lv_at hl 0 rfl) ?_
  refine va_get (D := (dC, dI)) (ci := 4) (v := .int (TMd_fault d)) (C := R_Md) (T := T_Md) (N := 23) hx hb ht i_Md hown hK hP 0 rfl rfl 13 (by decide) (ht _ q_458) (fun _ h9 => h9) rfl d_Md_next_1 ?_
  refine lv_if_le (tgt := 9) hx hb d_Md_next_4 (by decide) (fun c_1 => ?_) (fun c_1 => ?_)
  · have he := he.trans (if_pos c_1)
    refine lv_aload_n hx hb d_Md_next_9 rfl (lv_at hl 0 rfl) ?_
    refine va_get (D := (dC, dI)) (ci := 4) (v := .int (TMd_held d)) (C := R_Md) (T := T_Md) (N := 23) hx hb ht i_Md hown hK hP 0 rfl rfl 11 (by decide) (ht _ q_456) (fun _ h9 => h9) rfl d_Md_next_10 ?_
    refine lv_if_lt (tgt := 28) hx hb d_Md_next_13 (by decide) (fun c_2 => ?_) (fun c_2 => ?_)
    · have he := he.trans (if_pos c_2)
      exact k_Md_next_28 l dC dI ad ca C0 F (((TMd_pile d).toInt + 1).toNat) d ⟨hpre, by have h1 := hpre.2.1; omega⟩ he _ _ hP hD hS _ (lv_sub hl [0] rfl)
    · have he := he.trans (if_neg c_2)
      refine lv_aload_n hx hb d_Md_next_16 rfl (lv_at hl 0 rfl) ?_
      refine va_get (D := (dC, dI)) (ci := 4) (v := .int (TMd_held d)) (C := R_Md) (T := T_Md) (N := 23) hx hb ht i_Md hown hK hP 0 rfl rfl 11 (by decide) (ht _ q_456) (fun _ h9 => h9) rfl d_Md_next_17 ?_
      refine lv_istore_n (lv' := [(1, .int (TMd_held d)), (0, .ref (ad 16))]) hx hb d_Md_next_20 rfl hl (by decide) rfl (fun ls hl => ?_)
      refine lv_aload_n hx hb d_Md_next_21 rfl (lv_at hl 1 rfl) ?_
      refine lv_iconst (v := (-1)) hx hb d_Md_next_22 (by decide) ?_
      refine va_put (D := (dC, dI)) (ci := 4) (v := .int (-1)) (ty := .int) (C := R_Md) (T := T_Md) (N := 23) hx hb ht i_Md ty_Md ty_Md_ok nm_Md hown hK hP hD hS 0 rfl rfl 11 (by decide) (ht _ q_456) (fun _ h9 => h9) rfl (by decide +kernel) rfl rfl (Nat.le_of_ble_eq_true rfl) d_Md_next_23 (fun H locs hP hD hS => ?_)
      have hP : va_P (dC, dI) vwCl (w_M ad ca (TMd_set_held d (-1))) H := hP
      have hD : va_D A (w_M ad ca (TMd_set_held d (-1))) := hD
      refine lv_iload_n hx hb d_Md_next_26 rfl (lv_at hl 0 rfl) ?_
      exact W.iret hx hb hr (v := (TMd_held d)) (fun t ht hW => ⟨⟨(TMd_held d), (TMd_set_held d (-1)), rfl, he.symm, by rw [ht]; exact hP, va_K.moved hW.alike hK, hD⟩, hS.F ht⟩) hS.2.2 d_Md_next_27
  · have he := he.trans (if_neg c_1)
    refine lv_iconst (v := (-1)) hx hb d_Md_next_7 (by decide) ?_
    exact W.iret hx hb hr (v := (-1)) (fun t ht hW => ⟨⟨(-1), d, rfl, he.symm, by rw [ht]; exact hP, va_K.moved hW.alike hK, hD⟩, hS.F ht⟩) hS.2.2 d_Md_next_8
