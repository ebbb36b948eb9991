theorem d_Md_areSame_0 : decode b_Md_areSame 0 = .ok (.aload_n 0, 1) := by decide +kernel
theorem d_Md_areSame_1 : decode b_Md_areSame 1 = .ok (.iload_n 1, 1) := by decide +kernel
theorem d_Md_areSame_2 : decode b_Md_areSame 2 = .ok (.invokevirtual 61, 3) := by decide +kernel
theorem d_Md_areSame_5 : decode b_Md_areSame 5 = .ok (.istore_n 3, 1) := by decide +kernel
theorem d_Md_areSame_6 : decode b_Md_areSame 6 = .ok (.aload_n 0, 1) := by decide +kernel
theorem d_Md_areSame_7 : decode b_Md_areSame 7 = .ok (.iload_n 1, 1) := by decide +kernel
theorem d_Md_areSame_8 : decode b_Md_areSame 8 = .ok (.invokevirtual 65, 3) := by decide +kernel
theorem d_Md_areSame_11 : decode b_Md_areSame 11 = .ok (.istore 4, 2) := by decide +kernel
theorem d_Md_areSame_13 : decode b_Md_areSame 13 = .ok (.aload_n 0, 1) := by decide +kernel
theorem d_Md_areSame_14 : decode b_Md_areSame 14 = .ok (.iload_n 2, 1) := by decide +kernel
theorem d_Md_areSame_15 : decode b_Md_areSame 15 = .ok (.invokevirtual 65, 3) := by decide +kernel
theorem d_Md_areSame_18 : decode b_Md_areSame 18 = .ok (.istore 5, 2) := by decide +kernel
theorem d_Md_areSame_20 : decode b_Md_areSame 20 = .ok (.iload_n 3, 1) := by decide +kernel
theorem d_Md_areSame_21 : decode b_Md_areSame 21 = .ok (.aload_n 0, 1) := by decide +kernel
theorem d_Md_areSame_22 : decode b_Md_areSame 22 = .ok (.iload_n 2, 1) := by decide +kernel
theorem d_Md_areSame_23 : decode b_Md_areSame 23 = .ok (.invokevirtual 61, 3) := by decide +kernel
theorem d_Md_areSame_26 : decode b_Md_areSame 26 = .ok (.if_icmp .eq 5, 3) := by decide +kernel
theorem d_Md_areSame_29 : decode b_Md_areSame 29 = .ok (.iconst 0, 1) := by decide +kernel
theorem d_Md_areSame_30 : decode b_Md_areSame 30 = .ok (.ireturn, 1) := by decide +kernel
theorem d_Md_areSame_31 : decode b_Md_areSame 31 = .ok (.iload_n 3, 1) := by decide +kernel
theorem d_Md_areSame_32 : decode b_Md_areSame 32 = .ok (.iconst 2, 1) := by decide +kernel
theorem d_Md_areSame_33 : decode b_Md_areSame 33 = .ok (.if_icmp .eq 21, 3) := by decide +kernel
theorem d_Md_areSame_36 : decode b_Md_areSame 36 = .ok (.iload_n 3, 1) := by decide +kernel
theorem d_Md_areSame_37 : decode b_Md_areSame 37 = .ok (.iconst 3, 1) := by decide +kernel
theorem d_Md_areSame_38 : decode b_Md_areSame 38 = .ok (.if_icmp .eq 16, 3) := by decide +kernel
theorem d_Md_areSame_41 : decode b_Md_areSame 41 = .ok (.iload 4, 2) := by decide +kernel
theorem d_Md_areSame_43 : decode b_Md_areSame 43 = .ok (.iload 5, 2) := by decide +kernel
theorem d_Md_areSame_45 : decode b_Md_areSame 45 = .ok (.if_icmp .ne 7, 3) := by decide +kernel
theorem d_Md_areSame_48 : decode b_Md_areSame 48 = .ok (.iconst 1, 1) := by decide +kernel
theorem d_Md_areSame_49 : decode b_Md_areSame 49 = .ok (.goto 4, 3) := by decide +kernel
theorem d_Md_areSame_52 : decode b_Md_areSame 52 = .ok (.iconst 0, 1) := by decide +kernel
theorem d_Md_areSame_53 : decode b_Md_areSame 53 = .ok (.ireturn, 1) := by decide +kernel
theorem d_Md_areSame_54 : decode b_Md_areSame 54 = .ok (.aload_n 0, 1) := by decide +kernel
theorem d_Md_areSame_55 : decode b_Md_areSame 55 = .ok (.getfield 19, 3) := by decide +kernel
theorem d_Md_areSame_58 : decode b_Md_areSame 58 = .ok (.iload 4, 2) := by decide +kernel
theorem d_Md_areSame_60 : decode b_Md_areSame 60 = .ok (.iaload, 1) := by decide +kernel
theorem d_Md_areSame_61 : decode b_Md_areSame 61 = .ok (.aload_n 0, 1) := by decide +kernel
theorem d_Md_areSame_62 : decode b_Md_areSame 62 = .ok (.getfield 19, 3) := by decide +kernel
theorem d_Md_areSame_65 : decode b_Md_areSame 65 = .ok (.iload 5, 2) := by decide +kernel
theorem d_Md_areSame_67 : decode b_Md_areSame 67 = .ok (.iaload, 1) := by decide +kernel
theorem d_Md_areSame_68 : decode b_Md_areSame 68 = .ok (.if_icmp .ne 7, 3) := by decide +kernel
theorem d_Md_areSame_71 : decode b_Md_areSame 71 = .ok (.iconst 1, 1) := by decide +kernel
theorem d_Md_areSame_72 : decode b_Md_areSame 72 = .ok (.goto 4, 3) := by decide +kernel
theorem d_Md_areSame_75 : decode b_Md_areSame 75 = .ok (.iconst 0, 1) := by decide +kernel
theorem d_Md_areSame_76 : decode b_Md_areSame 76 = .ok (.istore 6, 2) := by decide +kernel
theorem d_Md_areSame_78 : decode b_Md_areSame 78 = .ok (.iconst 0, 1) := by decide +kernel
theorem d_Md_areSame_79 : decode b_Md_areSame 79 = .ok (.istore 7, 2) := by decide +kernel
theorem d_Md_areSame_81 : decode b_Md_areSame 81 = .ok (.iload 7, 2) := by decide +kernel
theorem d_Md_areSame_83 : decode b_Md_areSame 83 = .ok (.aload_n 0, 1) := by decide +kernel
theorem d_Md_areSame_84 : decode b_Md_areSame 84 = .ok (.getfield 19, 3) := by decide +kernel
theorem d_Md_areSame_87 : decode b_Md_areSame 87 = .ok (.iload 4, 2) := by decide +kernel
theorem d_Md_areSame_89 : decode b_Md_areSame 89 = .ok (.iaload, 1) := by decide +kernel
theorem d_Md_areSame_90 : decode b_Md_areSame 90 = .ok (.if_icmp .ge 52, 3) := by decide +kernel
theorem d_Md_areSame_93 : decode b_Md_areSame 93 = .ok (.iload 6, 2) := by decide +kernel
theorem d_Md_areSame_95 : decode b_Md_areSame 95 = .ok (.ifCond .eq 47, 3) := by decide +kernel
theorem d_Md_areSame_98 : decode b_Md_areSame 98 = .ok (.aload_n 0, 1) := by decide +kernel
theorem d_Md_areSame_99 : decode b_Md_areSame 99 = .ok (.getfield 16, 3) := by decide +kernel
theorem d_Md_areSame_102 : decode b_Md_areSame 102 = .ok (.sipush 200, 3) := by decide +kernel
theorem d_Md_areSame_105 : decode b_Md_areSame 105 = .ok (.iload 4, 2) := by decide +kernel
theorem d_Md_areSame_107 : decode b_Md_areSame 107 = .ok (.imul, 1) := by decide +kernel
theorem d_Md_areSame_108 : decode b_Md_areSame 108 = .ok (.iload 7, 2) := by decide +kernel
theorem d_Md_areSame_110 : decode b_Md_areSame 110 = .ok (.iadd, 1) := by decide +kernel
theorem d_Md_areSame_111 : decode b_Md_areSame 111 = .ok (.iaload, 1) := by decide +kernel
theorem d_Md_areSame_112 : decode b_Md_areSame 112 = .ok (.aload_n 0, 1) := by decide +kernel
theorem d_Md_areSame_113 : decode b_Md_areSame 113 = .ok (.getfield 16, 3) := by decide +kernel
theorem d_Md_areSame_116 : decode b_Md_areSame 116 = .ok (.sipush 200, 3) := by decide +kernel
theorem d_Md_areSame_119 : decode b_Md_areSame 119 = .ok (.iload 5, 2) := by decide +kernel
theorem d_Md_areSame_121 : decode b_Md_areSame 121 = .ok (.imul, 1) := by decide +kernel
theorem d_Md_areSame_122 : decode b_Md_areSame 122 = .ok (.iload 7, 2) := by decide +kernel
theorem d_Md_areSame_124 : decode b_Md_areSame 124 = .ok (.iadd, 1) := by decide +kernel
theorem d_Md_areSame_125 : decode b_Md_areSame 125 = .ok (.iaload, 1) := by decide +kernel
theorem d_Md_areSame_126 : decode b_Md_areSame 126 = .ok (.if_icmp .ne 7, 3) := by decide +kernel
theorem d_Md_areSame_129 : decode b_Md_areSame 129 = .ok (.iconst 1, 1) := by decide +kernel
theorem d_Md_areSame_130 : decode b_Md_areSame 130 = .ok (.goto 4, 3) := by decide +kernel
theorem d_Md_areSame_133 : decode b_Md_areSame 133 = .ok (.iconst 0, 1) := by decide +kernel
theorem d_Md_areSame_134 : decode b_Md_areSame 134 = .ok (.istore 6, 2) := by decide +kernel
theorem d_Md_areSame_136 : decode b_Md_areSame 136 = .ok (.iinc 7 1, 3) := by decide +kernel
theorem d_Md_areSame_139 : decode b_Md_areSame 139 = .ok (.goto (-58), 3) := by decide +kernel
theorem d_Md_areSame_142 : decode b_Md_areSame 142 = .ok (.iload 6, 2) := by decide +kernel
theorem d_Md_areSame_144 : decode b_Md_areSame 144 = .ok (.ireturn, 1) := by decide +kernel
noncomputable def f_Md_areSame_81 : Nat → TMd → Int32 → Int32 → Int32 → Int32 → Int32
  | 0, _, _, _, _, _ => 0
  | n + 1, d, x4, x5, x6, x7 => (if ((TMd_sizes d) x4.toNatClampNeg) ≤ x7 then x6 else (if x6 = 0 then x6 else (if ((TMd_rows d) ((200 * x4) + x7).toNatClampNeg) = ((TMd_rows d) ((200 * x5) + x7).toNatClampNeg) then (f_Md_areSame_81 n d x4 x5 1 (x7 + 1)) else (f_Md_areSame_81 n d x4 x5 0 (x7 + 1)))))
set_option maxHeartbeats 4000000 in
set_option maxRecDepth 100000 in
theorem k_Md_areSame_81 {p : Program} {e : Env} {s : State} {m : MethodId} {args : Array Value} {below : List Frame} {meth : Method} {c : Code} {A : Nat → Prop} (l : Launch) (dC : Nat → ClassId) (dI : Nat → Nat → Nat) (ad : Nat → Nat) (ca : Nat → ClassId) (C0 : wx_C p s m args meth c b_Md_areSame (some .boolean) 8 R_Md A (dC, dI) vwCl (t_M ca)) (F : Int32) : ∀ (n : Nat) (d : TMd) (x4 : Int32) (x5 : Int32) (x6 : Int32) (x7 : Int32), ((MdS d) ∧ (0 ≤ x4.toInt ∧ x4.toInt < 20) ∧ (0 ≤ x5.toInt ∧ x5.toInt < 20) ∧ TLn (TMd_sizes d x4.toNatClampNeg).toInt x7 n ∧ (x6 = 0 ∨ x6 = 1)) → F = f_Md_areSame_81 n d x4 x5 x6 x7 → ∀ (H : Heap) (locs : List Loc), va_P (dC, dI) vwCl (w_M ad ca d) H → va_D A (w_M ad ca d) → va_S A s.heap H locs → ∀ (ls : Array Slot), lv_has ls 8 [(0, .ref (ad 16)), (4, .int x4), (5, .int x5), (6, .int x6), (7, .int x7)] → W p l e ({ frames := 1, cells := 0, slots := 0, locals := 21 } : Room) s m args below meth c H locs 0 0 (MQ below (va_Qi (fun (r : Int32) (_ : Unit) => r = F) (wx_B (dC, dI) vwCl (t_M ca) (fun _ : Unit => w_M ad ca d) A) A) args s 0 0 A) (F0 m 81 ls []) := by
  have C1 := C0
  obtain ⟨hx, hb, hr, hml, hown, ht, hlocks, hA, hK, hN⟩ := C1
  intro n
  induction n with
  | zero =>
    intro d x4 x5 x6 x7 hc he
    exact absurd hc (fun h => TLn_0 h.2.2.2.1)
  | succ n ih =>
    intro d x4 x5 x6 x7 hc he H locs hP hD hS ls hl
    rw [f_Md_areSame_81] at he
    refine lv_iload hx hb d_Md_areSame_81 (lv_at hl 4 rfl) ?_
    refine lv_aload_n hx hb d_Md_areSame_83 rfl (lv_at hl 0 rfl) ?_
    refine va_get (D := (dC, dI)) (ci := 4) (v := .ref (ad 20)) (C := R_Md) (T := T_Md) (N := 23) hx hb ht i_Md hown hK hP 0 rfl rfl 5 (by decide) (ht _ q_450) (fun _ h9 => h9) rfl d_Md_areSame_84 ?_
    refine lv_iload hx hb d_Md_areSame_87 (lv_at hl 1 rfl) ?_
    refine va_iald hx hb hK hP 4 3 rfl rfl (as_row hc.2.1) d_Md_areSame_89 ?_
    refine lv_icmp_ge (tgt := 142) hx hb d_Md_areSame_90 (by decide) (fun c_1 => ?_) (fun c_1 => ?_)
    · have he := he.trans (if_pos c_1)
      refine lv_iload hx hb d_Md_areSame_142 (lv_at hl 3 rfl) ?_
      exact W.zret hx hb hr (by rcases hc.2.2.2.2 with h | h <;> rw [h] <;> rfl) (v := x6) (fun t ht hW => ⟨⟨x6, (), rfl, he.symm, by rw [ht]; exact hP, va_K.moved hW.alike hK, hD⟩, hS.F ht⟩) hS.2.2 d_Md_areSame_144
    · have he := he.trans (if_neg c_1)
      refine lv_iload hx hb d_Md_areSame_93 (lv_at hl 3 rfl) ?_
      refine lv_if_eq (tgt := 142) hx hb d_Md_areSame_95 (by decide) (fun c_2 => ?_) (fun c_2 => ?_)
      · have he := he.trans (if_pos c_2)
        refine lv_iload hx hb d_Md_areSame_142 (lv_at hl 3 rfl) ?_
        exact W.zret hx hb hr (by rcases hc.2.2.2.2 with h | h <;> rw [h] <;> rfl) (v := x6) (fun t ht hW => ⟨⟨x6, (), rfl, he.symm, by rw [ht]; exact hP, va_K.moved hW.alike hK, hD⟩, hS.F ht⟩) hS.2.2 d_Md_areSame_144
      · have he := he.trans (if_neg c_2)
        refine lv_aload_n hx hb d_Md_areSame_98 rfl (lv_at hl 0 rfl) ?_
        refine va_get (D := (dC, dI)) (ci := 4) (v := .ref (ad 19)) (C := R_Md) (T := T_Md) (N := 23) hx hb ht i_Md hown hK hP 0 rfl rfl 4 (by decide) (ht _ q_449) (fun _ h9 => h9) rfl d_Md_areSame_99 ?_
        refine lv_sipush (v := 200) hx hb d_Md_areSame_102 (by decide) ?_
        refine lv_iload hx hb d_Md_areSame_105 (lv_at hl 1 rfl) ?_
        refine lv_imul hx hb d_Md_areSame_107 ?_
        refine lv_iload hx hb d_Md_areSame_108 (lv_at hl 4 rfl) ?_
        refine lv_iadd hx hb d_Md_areSame_110 ?_
        refine va_iald hx hb hK hP 3 2 rfl rfl (as_cell (d := d) hc.1 hc.2.1 hc.2.1 hc.2.2.2.1 c_1) d_Md_areSame_111 ?_
        refine lv_aload_n hx hb d_Md_areSame_112 rfl (lv_at hl 0 rfl) ?_
        refine va_get (D := (dC, dI)) (ci := 4) (v := .ref (ad 19)) (C := R_Md) (T := T_Md) (N := 23) hx hb ht i_Md hown hK hP 0 rfl rfl 4 (by decide) (ht _ q_449) (fun _ h9 => h9) rfl d_Md_areSame_113 ?_
        refine lv_sipush (v := 200) hx hb d_Md_areSame_116 (by decide) ?_
        refine lv_iload hx hb d_Md_areSame_119 (lv_at hl 2 rfl) ?_
        refine lv_imul hx hb d_Md_areSame_121 ?_
        refine lv_iload hx hb d_Md_areSame_122 (lv_at hl 4 rfl) ?_
        refine lv_iadd hx hb d_Md_areSame_124 ?_
        refine va_iald hx hb hK hP 3 2 rfl rfl (as_cell (d := d) hc.1 hc.2.2.1 hc.2.1 hc.2.2.2.1 c_1) d_Md_areSame_125 ?_
        refine lv_icmp_ne (tgt := 133) hx hb d_Md_areSame_126 (by decide) (fun c_3 => ?_) (fun c_3 => ?_)
        · have he := he.trans (if_neg c_3)
          refine lv_iconst (v := 0) hx hb d_Md_areSame_133 (by decide) ?_
          refine lv_istore (lv' := [(6, .int 0), (0, .ref (ad 16)), (4, .int x4), (5, .int x5), (7, .int x7)]) hx hb d_Md_areSame_134 hl (by decide) rfl (fun ls hl => ?_)
          refine lv_iinc (v := (x7 + 1)) (lv' := [(7, .int (x7 + 1)), (6, .int 0), (0, .ref (ad 16)), (4, .int x4), (5, .int x5)]) hx hb d_Md_areSame_136 hl (k := 4) rfl rfl (by decide) rfl (fun ls hl => ?_)
          refine lv_goto (tgt := 81) hx hb d_Md_areSame_139 (by decide) ?_
          exact ih d x4 x5 0 (x7 + 1) ⟨hc.1, hc.2.1, hc.2.2.1, TLn_s hc.2.2.2.1 rfl c_1, by decide⟩ he _ _ hP hD hS _ (lv_sub hl [2, 3, 4, 1, 0] rfl)
        · have he := he.trans (if_pos c_3)
          refine lv_iconst (v := 1) hx hb d_Md_areSame_129 (by decide) ?_
          refine lv_goto (tgt := 134) hx hb d_Md_areSame_130 (by decide) ?_
          refine lv_istore (lv' := [(6, .int 1), (0, .ref (ad 16)), (4, .int x4), (5, .int x5), (7, .int x7)]) hx hb d_Md_areSame_134 hl (by decide) rfl (fun ls hl => ?_)
          refine lv_iinc (v := (x7 + 1)) (lv' := [(7, .int (x7 + 1)), (6, .int 1), (0, .ref (ad 16)), (4, .int x4), (5, .int x5)]) hx hb d_Md_areSame_136 hl (k := 4) rfl rfl (by decide) rfl (fun ls hl => ?_)
          refine lv_goto (tgt := 81) hx hb d_Md_areSame_139 (by decide) ?_
          exact ih d x4 x5 1 (x7 + 1) ⟨hc.1, hc.2.1, hc.2.2.1, TLn_s hc.2.2.2.1 rfl c_1, by decide⟩ he _ _ hP hD hS _ (lv_sub hl [2, 3, 4, 1, 0] rfl)
noncomputable def f_Md_areSame (d : TMd) (p0 : Int32) (p1 : Int32) : Int32 := (if (f_Md_kindOf d p0) = (f_Md_kindOf d p1) then (if (f_Md_kindOf d p0) = 2 then (if ((TMd_sizes d) (f_Md_valueOf d p0).toNatClampNeg) = ((TMd_sizes d) (f_Md_valueOf d p1).toNatClampNeg) then (f_Md_areSame_81 (((TMd_sizes d (f_Md_valueOf d p0).toNatClampNeg).toInt + 1).toNat) d (f_Md_valueOf d p0) (f_Md_valueOf d p1) 1 0) else (f_Md_areSame_81 (((TMd_sizes d (f_Md_valueOf d p0).toNatClampNeg).toInt + 1).toNat) d (f_Md_valueOf d p0) (f_Md_valueOf d p1) 0 0)) else (if (f_Md_kindOf d p0) = 3 then (if ((TMd_sizes d) (f_Md_valueOf d p0).toNatClampNeg) = ((TMd_sizes d) (f_Md_valueOf d p1).toNatClampNeg) then (f_Md_areSame_81 (((TMd_sizes d (f_Md_valueOf d p0).toNatClampNeg).toInt + 1).toNat) d (f_Md_valueOf d p0) (f_Md_valueOf d p1) 1 0) else (f_Md_areSame_81 (((TMd_sizes d (f_Md_valueOf d p0).toNatClampNeg).toInt + 1).toNat) d (f_Md_valueOf d p0) (f_Md_valueOf d p1) 0 0)) else (if (f_Md_valueOf d p0) = (f_Md_valueOf d p1) then 1 else 0))) else 0)
set_option maxHeartbeats 4000000 in
set_option maxRecDepth 100000 in
theorem c_Md_areSame (l : Launch) (dC : Nat → ClassId) (dI : Nat → Nat → Nat) (ad : Nat → Nat) (ca : Nat → ClassId) (sz : Nat) (d : TMd) (p0 : Int32) (p1 : Int32) (hpre : p0.toInt < 4136 ∧ p1.toInt < 4136 ∧ MdS d) (F : Int32) (he : F = f_Md_areSame d p0 p1) : wx_Mi l y_Md_areSame ws_Md_areSame ({ frames := 1, cells := 0, slots := 0, locals := 21 } : Room) (dC, dI) vwCl (t_M ca) [.ref (ad 16), .int p0, .int p1] (w_M ad ca d) sz (fun _ : Unit => w_M ad ca d) (fun (r : Int32) (_ : Unit) => r = F) := by
  refine Met.ofW (cc := b_Md_areSame) (maxL := 8) (ret := some .boolean) (by decide) rfl ?_
  intro p e s m args below meth c s₁ B hml hv
  obtain ⟨rfl, hsz, hP, hK, hD0, hN⟩ := hv
  have hx := B.exec
  have hb := B.bytes
  have hr := B.returns
  have hts := atoms_spec (ws := ws_Md_areSame) B.pre
  have ht : ∀ w ∈ TB, w.before _ s = true := fun w h => hts w (List.mem_cons_of_mem _ h)
  have hown : s.vm.findClass R_Md = some m.cls := findClass_of_methodNamed B.named
  have hlocks := B.notSynchronized
  subst hsz
  have hD := hD0.self (sz := s.heap.size)
  generalize hAe : va_A (w_M ad ca d) s.heap.size = A at hD ⊢
  have hA : ∀ q : Nat, s.heap.size ≤ q → A q := fun q h => by rw [← hAe]; exact Or.inr h
  have hS : va_S A s.heap s.heap [] := va_S.rf
  have C0 : wx_C p s m ([.ref (ad 16), .int p0, .int p1] : List Value).toArray meth c b_Md_areSame (some .boolean) 8 R_Md A (dC, dI) vwCl (t_M ca) := ⟨hx, hb, hr, hml, hown, ht, hlocks, hA, hK, hN⟩
  have hl := lv_entry ([.ref (ad 16), .int p0, .int p1]) (n := 8) (Nat.le_of_ble_eq_true rfl)
  rw [lg_entry_eq]
  generalize (lg_sl ([.ref (ad 16), .int p0, .int p1]) ++ List.replicate (8 - (lg_sl ([.ref (ad 16), .int p0, .int p1])).length) Slot.unset).toArray = ls at hl ⊢
  have hl : lv_has ls 8 [(0, .ref (ad 16)), (1, .int p0), (2, .int p1)] := hl
  unfold f_Md_areSame at he
  refine lv_aload_n hx hb d_Md_areSame_0 rfl (lv_at hl 0 rfl) ?_
  refine lv_iload_n hx hb d_Md_areSame_1 rfl (lv_at hl 1 rfl) ?_
  refine wx_ci (wS := fun _ : Unit => w_M ad ca d) (ws2 := fun _ : Unit => w_M ad ca d) (va_runV (As := [.int p0]) (rest := []) ⟨hx, hb, hml, hown, ht⟩ (c_Md_kindOf l dC dI ad ca s.heap.size d p0 hpre.1 _ rfl) (cwV 1 ht (tb_V q_555 q_557 q_23 q_47 q_558) rfl rfl rfl p_Md_kindOf ⟨show 0 + 1 ≤ 1 by omega, show 8 + (2 + 11) + 0 ≤ 21 by omega⟩) (wx_preV (wc := (w_M ad ca d)) hN hK hP hD [0, 1, 2, 3, 4, 5, 6, 7, 8, 9, 10, 11] [0, 1, 2, 3, 4, 5, 6, 7, 8, 9, 10] rfl (by decide) rfl (ci := 4) (q0 := 0) rfl rfl) rfl rfl hl.1 rfl (lv_room (Nat.le_of_ble_eq_true rfl)) d_Md_areSame_2 ⟨Nat.zero_le _, Nat.zero_le _⟩) hP hD hS hA [0, 1, 2, 3, 4, 5, 6, 7, 8, 9, 10, 11] [] [0, 1, 2, 3, 4, 5, 6, 7, 8, 9, 10, 11] rfl rfl (by decide) (by decide) (by decide) (fun _ => rfl) (fun r_1 _ H locs hw_1 hP hD hS => ?_)
  subst hw_1
  have hP : va_P (dC, dI) vwCl (w_M ad ca d) H := hP
  have hD : va_D A (w_M ad ca d) := hD
  refine lv_istore_n (lv' := [(3, .int (f_Md_kindOf d p0)), (0, .ref (ad 16)), (1, .int p0), (2, .int p1)]) hx hb d_Md_areSame_5 rfl hl (by decide) rfl (fun ls hl => ?_)
  refine lv_aload_n hx hb d_Md_areSame_6 rfl (lv_at hl 1 rfl) ?_
  refine lv_iload_n hx hb d_Md_areSame_7 rfl (lv_at hl 2 rfl) ?_
  refine wx_ci (wS := fun _ : Unit => w_M ad ca d) (ws2 := fun _ : Unit => w_M ad ca d) (va_runV (As := [.int p0]) (rest := []) ⟨hx, hb, hml, hown, ht⟩ (c_Md_valueOf l dC dI ad ca H.size d p0 hpre.1 _ rfl) (cwV 1 ht (tb_V q_559 q_561 q_24 q_47 q_562) rfl rfl rfl p_Md_valueOf ⟨show 0 + 1 ≤ 1 by omega, show 8 + (2 + 11) + 0 ≤ 21 by omega⟩) (wx_preV (wc := (w_M ad ca d)) hN hK hP hD [0, 1, 2, 3, 4, 5, 6, 7, 8, 9, 10, 11] [0, 1, 2, 3, 4, 5, 6, 7, 8, 9, 10] rfl (by decide) rfl (ci := 4) (q0 := 0) rfl rfl) rfl rfl hl.1 rfl (lv_room (Nat.le_of_ble_eq_true rfl)) d_Md_areSame_8 ⟨Nat.zero_le _, Nat.zero_le _⟩) hP hD hS hA [0, 1, 2, 3, 4, 5, 6, 7, 8, 9, 10, 11] [] [0, 1, 2, 3, 4, 5, 6, 7, 8, 9, 10, 11] rfl rfl (by decide) (by decide) (by decide) (fun _ => rfl) (fun r_2 _ H locs hw_2 hP hD hS => ?_)
  subst hw_2
  have hP : va_P (dC, dI) vwCl (w_M ad ca d) H := hP
  have hD : va_D A (w_M ad ca d) := hD
  refine lv_istore (lv' := [(4, .int (f_Md_valueOf d p0)), (3, .int (f_Md_kindOf d p0)), (0, .ref (ad 16)), (1, .int p0), (2, .int p1)]) hx hb d_Md_areSame_11 hl (by decide) rfl (fun ls hl => ?_)
  refine lv_aload_n hx hb d_Md_areSame_13 rfl (lv_at hl 2 rfl) ?_
  refine lv_iload_n hx hb d_Md_areSame_14 rfl (lv_at hl 4 rfl) ?_
  refine wx_ci (wS := fun _ : Unit => w_M ad ca d) (ws2 := fun _ : Unit => w_M ad ca d) (va_runV (As := [.int p1]) (rest := []) ⟨hx, hb, hml, hown, ht⟩ (c_Md_valueOf l dC dI ad ca H.size d p1 hpre.2.1 _ rfl) (cwV 1 ht (tb_V q_559 q_561 q_24 q_47 q_562) rfl rfl rfl p_Md_valueOf ⟨show 0 + 1 ≤ 1 by omega, show 8 + (2 + 11) + 0 ≤ 21 by omega⟩) (wx_preV (wc := (w_M ad ca d)) hN hK hP hD [0, 1, 2, 3, 4, 5, 6, 7, 8, 9, 10, 11] [0, 1, 2, 3, 4, 5, 6, 7, 8, 9, 10] rfl (by decide) rfl (ci := 4) (q0 := 0) rfl rfl) rfl rfl hl.1 rfl (lv_room (Nat.le_of_ble_eq_true rfl)) d_Md_areSame_15 ⟨Nat.zero_le _, Nat.zero_le _⟩) hP hD hS hA [0, 1, 2, 3, 4, 5, 6, 7, 8, 9, 10, 11] [] [0, 1, 2, 3, 4, 5, 6, 7, 8, 9, 10, 11] rfl rfl (by decide) (by decide) (by decide) (fun _ => rfl) (fun r_3 _ H locs hw_3 hP hD hS => ?_)
  subst hw_3
  have hP : va_P (dC, dI) vwCl (w_M ad ca d) H := hP
  have hD : va_D A (w_M ad ca d) := hD
  refine lv_istore (lv' := [(5, .int (f_Md_valueOf d p1)), (4, .int (f_Md_valueOf d p0)), (3, .int (f_Md_kindOf d p0)), (0, .ref (ad 16)), (1, .int p0), (2, .int p1)]) hx hb d_Md_areSame_18 hl (by decide) rfl (fun ls hl => ?_)
  refine lv_iload_n hx hb d_Md_areSame_20 rfl (lv_at hl 2 rfl) ?_
  refine lv_aload_n hx hb d_Md_areSame_21 rfl (lv_at hl 3 rfl) ?_
  refine lv_iload_n hx hb d_Md_areSame_22 rfl (lv_at hl 5 rfl) ?_
  refine wx_ci (wS := fun _ : Unit => w_M ad ca d) (ws2 := fun _ : Unit => w_M ad ca d) (va_runV (As := [.int p1]) (rest := [.int (f_Md_kindOf d p0)]) ⟨hx, hb, hml, hown, ht⟩ (c_Md_kindOf l dC dI ad ca H.size d p1 hpre.2.1 _ rfl) (cwV 1 ht (tb_V q_555 q_557 q_23 q_47 q_558) rfl rfl rfl p_Md_kindOf ⟨show 0 + 1 ≤ 1 by omega, show 8 + (2 + 11) + 0 ≤ 21 by omega⟩) (wx_preV (wc := (w_M ad ca d)) hN hK hP hD [0, 1, 2, 3, 4, 5, 6, 7, 8, 9, 10, 11] [0, 1, 2, 3, 4, 5, 6, 7, 8, 9, 10] rfl (by decide) rfl (ci := 4) (q0 := 0) rfl rfl) rfl rfl hl.1 rfl (lv_room (Nat.le_of_ble_eq_true rfl)) d_Md_areSame_23 ⟨Nat.zero_le _, Nat.zero_le _⟩) hP hD hS hA [0, 1, 2, 3, 4, 5, 6, 7, 8, 9, 10, 11] [] [0, 1, 2, 3, 4, 5, 6, 7, 8, 9, 10, 11] rfl rfl (by decide) (by decide) (by decide) (fun _ => rfl) (fun r_4 _ H locs hw_4 hP hD hS => ?_)
  subst hw_4
  have hP : va_P (dC, dI) vwCl (w_M ad ca d) H := hP
  have hD : va_D A (w_M ad ca d) := hD
  refine lv_icmp_eq (tgt := 31) hx hb d_Md_areSame_26 (by decide) (fun c_5 => ?_) (fun c_5 => ?_)
  · have he := he.trans (if_pos c_5)
    refine lv_iload_n hx hb d_Md_areSame_31 rfl (lv_at hl 2 rfl) ?_
    refine lv_iconst (v := 2) hx hb d_Md_areSame_32 (by decide) ?_
    refine lv_icmp_eq (tgt := 54) hx hb d_Md_areSame_33 (by decide) (fun c_6 => ?_) (fun c_6 => ?_)
    · have he := he.trans (if_pos c_6)
      refine lv_aload_n hx hb d_Md_areSame_54 rfl (lv_at hl 3 rfl) ?_
      refine va_get (D := (dC, dI)) (ci := 4) (v := .ref (ad 20)) (C := R_Md) (T := T_Md) (N := 23) hx hb ht i_Md hown hK hP 0 rfl rfl 5 (by decide) (ht _ q_450) (fun _ h9 => h9) rfl d_Md_areSame_55 ?_
      refine lv_iload hx hb d_Md_areSame_58 (lv_at hl 1 rfl) ?_
      refine va_iald hx hb hK hP 4 3 rfl rfl (as_row (kv_M (d := d) hpre.2.2 hpre.1 (Or.inl c_6))) d_Md_areSame_60 ?_
      refine lv_aload_n hx hb d_Md_areSame_61 rfl (lv_at hl 3 rfl) ?_
      refine va_get (D := (dC, dI)) (ci := 4) (v := .ref (ad 20)) (C := R_Md) (T := T_Md) (N := 23) hx hb ht i_Md hown hK hP 0 rfl rfl 5 (by decide) (ht _ q_450) (fun _ h9 => h9) rfl d_Md_areSame_62 ?_
      refine lv_iload hx hb d_Md_areSame_65 (lv_at hl 0 rfl) ?_
      refine va_iald hx hb hK hP 4 3 rfl rfl (as_row (kv_M (d := d) hpre.2.2 hpre.2.1 (by rw [← c_5]; exact (Or.inl c_6)))) d_Md_areSame_67 ?_
      refine lv_icmp_ne (tgt := 75) hx hb d_Md_areSame_68 (by decide) (fun c_7 => ?_) (fun c_7 => ?_)
      · have he := he.trans (if_neg c_7)
        refine lv_iconst (v := 0) hx hb d_Md_areSame_75 (by decide) ?_
        refine lv_istore (lv' := [(6, .int 0), (5, .int (f_Md_valueOf d p1)), (4, .int (f_Md_valueOf d p0)), (3, .int (f_Md_kindOf d p0)), (0, .ref (ad 16)), (1, .int p0), (2, .int p1)]) hx hb d_Md_areSame_76 hl (by decide) rfl (fun ls hl => ?_)
        refine lv_iconst (v := 0) hx hb d_Md_areSame_78 (by decide) ?_
        refine lv_istore (lv' := [(7, .int 0), (6, .int 0), (5, .int (f_Md_valueOf d p1)), (4, .int (f_Md_valueOf d p0)), (3, .int (f_Md_kindOf d p0)), (0, .ref (ad 16)), (1, .int p0), (2, .int p1)]) hx hb d_Md_areSame_79 hl (by decide) rfl (fun ls hl => ?_)
        exact k_Md_areSame_81 l dC dI ad ca C0 F (((TMd_sizes d (f_Md_valueOf d p0).toNatClampNeg).toInt + 1).toNat) d (f_Md_valueOf d p0) (f_Md_valueOf d p1) 0 0 ⟨hpre.2.2, (kv_M (d := d) hpre.2.2 hpre.1 (Or.inl c_6)), (kv_M (d := d) hpre.2.2 hpre.2.1 (by rw [← c_5]; exact (Or.inl c_6))), TLn_i (as_size hpre.2.2 (kv_M (d := d) hpre.2.2 hpre.1 (Or.inl c_6))).1 (by have := (as_size (d := d) hpre.2.2 (kv_M (d := d) hpre.2.2 hpre.1 (Or.inl c_6))).1; omega), by decide⟩ he _ _ hP hD hS _ (lv_sub hl [5, 3, 2, 1, 0] rfl)
      · have he := he.trans (if_pos c_7)
        refine lv_iconst (v := 1) hx hb d_Md_areSame_71 (by decide) ?_
        refine lv_goto (tgt := 76) hx hb d_Md_areSame_72 (by decide) ?_
        refine lv_istore (lv' := [(6, .int 1), (5, .int (f_Md_valueOf d p1)), (4, .int (f_Md_valueOf d p0)), (3, .int (f_Md_kindOf d p0)), (0, .ref (ad 16)), (1, .int p0), (2, .int p1)]) hx hb d_Md_areSame_76 hl (by decide) rfl (fun ls hl => ?_)
        refine lv_iconst (v := 0) hx hb d_Md_areSame_78 (by decide) ?_
        refine lv_istore (lv' := [(7, .int 0), (6, .int 1), (5, .int (f_Md_valueOf d p1)), (4, .int (f_Md_valueOf d p0)), (3, .int (f_Md_kindOf d p0)), (0, .ref (ad 16)), (1, .int p0), (2, .int p1)]) hx hb d_Md_areSame_79 hl (by decide) rfl (fun ls hl => ?_)
        exact k_Md_areSame_81 l dC dI ad ca C0 F (((TMd_sizes d (f_Md_valueOf d p0).toNatClampNeg).toInt + 1).toNat) d (f_Md_valueOf d p0) (f_Md_valueOf d p1) 1 0 ⟨hpre.2.2, (kv_M (d := d) hpre.2.2 hpre.1 (Or.inl c_6)), (kv_M (d := d) hpre.2.2 hpre.2.1 (by rw [← c_5]; exact (Or.inl c_6))), TLn_i (as_size hpre.2.2 (kv_M (d := d) hpre.2.2 hpre.1 (Or.inl c_6))).1 (by have := (as_size (d := d) hpre.2.2 (kv_M (d := d) hpre.2.2 hpre.1 (Or.inl c_6))).1; omega), by decide⟩ he _ _ hP hD hS _ (lv_sub hl [5, 3, 2, 1, 0] rfl)
    · have he := he.trans (if_neg c_6)
      refine lv_iload_n hx hb d_Md_areSame_36 rfl (lv_at hl 2 rfl) ?_
      refine lv_iconst (v := 3) hx hb d_Md_areSame_37 (by decide) ?_
      refine lv_icmp_eq (tgt := 54) hx hb d_Md_areSame_38 (by decide) (fun c_8 => ?_) (fun c_8 => ?_)
      · have he := he.trans (if_pos c_8)
        refine lv_aload_n hx hb d_Md_areSame_54 rfl (lv_at hl 3 rfl) ?_
        refine va_get (D := (dC, dI)) (ci := 4) (v := .ref (ad 20)) (C := R_Md) (T := T_Md) (N := 23) hx hb ht i_Md hown hK hP 0 rfl rfl 5 (by decide) (ht _ q_450) (fun _ h9 => h9) rfl d_Md_areSame_55 ?_
        refine lv_iload hx hb d_Md_areSame_58 (lv_at hl 1 rfl) ?_
        refine va_iald hx hb hK hP 4 3 rfl rfl (as_row (kv_M (d := d) hpre.2.2 hpre.1 (Or.inr c_8))) d_Md_areSame_60 ?_
        refine lv_aload_n hx hb d_Md_areSame_61 rfl (lv_at hl 3 rfl) ?_
        refine va_get (D := (dC, dI)) (ci := 4) (v := .ref (ad 20)) (C := R_Md) (T := T_Md) (N := 23) hx hb ht i_Md hown hK hP 0 rfl rfl 5 (by decide) (ht _ q_450) (fun _ h9 => h9) rfl d_Md_areSame_62 ?_
        refine lv_iload hx hb d_Md_areSame_65 (lv_at hl 0 rfl) ?_
        refine va_iald hx hb hK hP 4 3 rfl rfl (as_row (kv_M (d := d) hpre.2.2 hpre.2.1 (by rw [← c_5]; exact (Or.inr c_8)))) d_Md_areSame_67 ?_
        refine lv_icmp_ne (tgt := 75) hx hb d_Md_areSame_68 (by decide) (fun c_9 => ?_) (fun c_9 => ?_)
        · have he := he.trans (if_neg c_9)
          refine lv_iconst (v := 0) hx hb d_Md_areSame_75 (by decide) ?_
          refine lv_istore (lv' := [(6, .int 0), (5, .int (f_Md_valueOf d p1)), (4, .int (f_Md_valueOf d p0)), (3, .int (f_Md_kindOf d p0)), (0, .ref (ad 16)), (1, .int p0), (2, .int p1)]) hx hb d_Md_areSame_76 hl (by decide) rfl (fun ls hl => ?_)
          refine lv_iconst (v := 0) hx hb d_Md_areSame_78 (by decide) ?_
          refine lv_istore (lv' := [(7, .int 0), (6, .int 0), (5, .int (f_Md_valueOf d p1)), (4, .int (f_Md_valueOf d p0)), (3, .int (f_Md_kindOf d p0)), (0, .ref (ad 16)), (1, .int p0), (2, .int p1)]) hx hb d_Md_areSame_79 hl (by decide) rfl (fun ls hl => ?_)
          exact k_Md_areSame_81 l dC dI ad ca C0 F (((TMd_sizes d (f_Md_valueOf d p0).toNatClampNeg).toInt + 1).toNat) d (f_Md_valueOf d p0) (f_Md_valueOf d p1) 0 0 ⟨hpre.2.2, (kv_M (d := d) hpre.2.2 hpre.1 (Or.inr c_8)), (kv_M (d := d) hpre.2.2 hpre.2.1 (by rw [← c_5]; exact (Or.inr c_8))), TLn_i (as_size hpre.2.2 (kv_M (d := d) hpre.2.2 hpre.1 (Or.inr c_8))).1 (by have := (as_size (d := d) hpre.2.2 (kv_M (d := d) hpre.2.2 hpre.1 (Or.inr c_8))).1; omega), by decide⟩ he _ _ hP hD hS _ (lv_sub hl [5, 3, 2, 1, 0] rfl)
        · have he := he.trans (if_pos c_9)
          refine lv_iconst (v := 1) hx hb d_Md_areSame_71 (by decide) ?_
          refine lv_goto (tgt := 76) hx hb d_Md_areSame_72 (by decide) ?_
          refine lv_istore (lv' := [(6, .int 1), (5, .int (f_Md_valueOf d p1)), (4, .int (f_Md_valueOf d p0)), (3, .int (f_Md_kindOf d p0)), (0, .ref (ad 16)), (1, .int p0), (2, .int p1)]) hx hb d_Md_areSame_76 hl (by decide) rfl (fun ls hl => ?_)
          refine lv_iconst (v := 0) hx hb d_Md_areSame_78 (by decide) ?_
          refine lv_istore (lv' := [(7, .int 0), (6, .int 1), (5, .int (f_Md_valueOf d p1)), (4, .int (f_Md_valueOf d p0)), (3, .int (f_Md_kindOf d p0)), (0, .ref (ad 16)), (1, .int p0), (2, .int p1)]) hx hb d_Md_areSame_79 hl (by decide) rfl (fun ls hl => ?_)
          exact k_Md_areSame_81 l dC dI ad ca C0 F (((TMd_sizes d (f_Md_valueOf d p0).toNatClampNeg).toInt + 1).toNat) d (f_Md_valueOf d p0) (f_Md_valueOf d p1) 1 0 ⟨hpre.2.2, (kv_M (d := d) hpre.2.2 hpre.1 (Or.inr c_8)), (kv_M (d := d) hpre.2.2 hpre.2.1 (by rw [← c_5]; exact (Or.inr c_8))), TLn_i (as_size hpre.2.2 (kv_M (d := d) hpre.2.2 hpre.1 (Or.inr c_8))).1 (by have := (as_size (d := d) hpre.2.2 (kv_M (d := d) hpre.2.2 hpre.1 (Or.inr c_8))).1; omega), by decide⟩ he _ _ hP hD hS _ (lv_sub hl [5, 3, 2, 1, 0] rfl)
      · have he := he.trans (if_neg c_8)
        refine lv_iload hx hb d_Md_areSame_41 (lv_at hl 1 rfl) ?_
        refine lv_iload hx hb d_Md_areSame_43 (lv_at hl 0 rfl) ?_
        refine lv_icmp_ne (tgt := 52) hx hb d_Md_areSame_45 (by decide) (fun c_10 => ?_) (fun c_10 => ?_)
        · have he := he.trans (if_neg c_10)
          refine lv_iconst (v := 0) hx hb d_Md_areSame_52 (by decide) ?_
          exact W.zret hx hb hr (by rfl) (v := 0) (fun t ht hW => ⟨⟨0, (), rfl, he.symm, by rw [ht]; exact hP, va_K.moved hW.alike hK, hD⟩, hS.F ht⟩) hS.2.2 d_Md_areSame_53
        · have he := he.trans (if_pos c_10)
          refine lv_iconst (v := 1) hx hb d_Md_areSame_48 (by decide) ?_
          refine lv_goto (tgt := 53) hx hb d_Md_areSame_49 (by decide) ?_
          exact W.zret hx hb hr (by rfl) (v := 1) (fun t ht hW => ⟨⟨1, (), rfl, he.symm, by rw [ht]; exact hP, va_K.moved hW.alike hK, hD⟩, hS.F ht⟩) hS.2.2 d_Md_areSame_53
  · have he := he.trans (if_neg c_5)
    refine lv_iconst (v := 0) hx hb d_Md_areSame_29 (by decide) ?_
    exact W.zret hx hb hr (by rfl) (v := 0) (fun t ht hW => ⟨⟨0, (), rfl, he.symm, by rw [ht]; exact hP, va_K.moved hW.alike hK, hD⟩, hS.F ht⟩) hS.2.2 d_Md_areSame_30
