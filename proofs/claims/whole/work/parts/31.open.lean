theorem open_k {u : TRn} {k : Int} (h : k - 1 ≤ oc u) (h0 : ¬ TRn_openCount u < 0) (h1 : TRn_openCount u < 20) : k ≤ (TRn_openCount u + 1).toInt := by
  rw [i32_lt] at h0 h1
  rw [Int32.toInt_zero] at h0
  have e1 : (20 : Int32).toInt = 20 := by decide
  have e2 : (1 : Int32).toInt = 1 := by decide
  have h2 : oc u = (TRn_openCount u).toInt := rfl
  rw [i32_add (by rw [e2]; omega) (by rw [e2]; omega), e2]
  omega
theorem q_4 : Cond.selects R_Rn y_Rn_ask y_Rn_ask ∈ TB := tq 4 (by decide +kernel) rfl
theorem q_16 : Cond.selects R_Rn y_Rn_decide y_Rn_decide ∈ TB := tq 16 (by decide +kernel) rfl
theorem q_48 : Cond.initialized "java/lang/Math" ∈ TB := tq 48 (by decide +kernel) rfl
theorem q_290 : Cond.methodLink R_Rn 113 Lib.Math.max.name ∈ TB := tq 290 (by decide +kernel) rfl
theorem q_291 : Cond.static Lib.Math.max.name ∈ TB := tq 291 (by decide +kernel) rfl
theorem q_292 : Cond.code Lib.Math.max.name Lib.Math.max.code 2 (some .int) ∈ TB := tq 292 (by decide +kernel) rfl
theorem q_293 : Cond.methodLink R_Rn 119 y_Rn_ask ∈ TB := tq 293 (by decide +kernel) rfl
theorem q_295 : Cond.instanceMethod y_Rn_ask ∈ TB := tq 295 (by decide +kernel) rfl
theorem q_296 : Cond.code y_Rn_ask b_Rn_ask 3 (some .int) ∈ TB := tq 296 (by decide +kernel) rfl
theorem q_373 : Cond.methodLink R_Rn 122 y_Rn_decide ∈ TB := tq 373 (by decide +kernel) rfl
theorem q_375 : Cond.instanceMethod y_Rn_decide ∈ TB := tq 375 (by decide +kernel) rfl
theorem q_376 : Cond.code y_Rn_decide b_Rn_decide 6 (none : Option Jvm.ClassFile.FieldType) ∈ TB := tq 376 (by decide +kernel) rfl
theorem d_Rn_open_0 : decode b_Rn_open 0 = .ok (.aload_n 0, 1) := by decide +kernel
theorem d_Rn_open_1 : decode b_Rn_open 1 = .ok (.getfield 64, 3) := by decide +kernel
theorem d_Rn_open_4 : decode b_Rn_open 4 = .ok (.ifCond .lt 12, 3) := by decide +kernel
theorem d_Rn_open_7 : decode b_Rn_open 7 = .ok (.aload_n 0, 1) := by decide +kernel
theorem d_Rn_open_8 : decode b_Rn_open 8 = .ok (.getfield 64, 3) := by decide +kernel
theorem d_Rn_open_11 : decode b_Rn_open 11 = .ok (.bipush 20, 2) := by decide +kernel
theorem d_Rn_open_13 : decode b_Rn_open 13 = .ok (.if_icmp .lt 9, 3) := by decide +kernel
theorem d_Rn_open_16 : decode b_Rn_open 16 = .ok (.aload_n 0, 1) := by decide +kernel
theorem d_Rn_open_17 : decode b_Rn_open 17 = .ok (.iconst 5, 1) := by decide +kernel
theorem d_Rn_open_18 : decode b_Rn_open 18 = .ok (.invokevirtual 53, 3) := by decide +kernel
theorem d_Rn_open_21 : decode b_Rn_open 21 = .ok (.return_, 1) := by decide +kernel
theorem d_Rn_open_22 : decode b_Rn_open 22 = .ok (.aload_n 0, 1) := by decide +kernel
theorem d_Rn_open_23 : decode b_Rn_open 23 = .ok (.getfield 73, 3) := by decide +kernel
theorem d_Rn_open_26 : decode b_Rn_open 26 = .ok (.istore_n 2, 1) := by decide +kernel
theorem d_Rn_open_27 : decode b_Rn_open 27 = .ok (.aload_n 0, 1) := by decide +kernel
theorem d_Rn_open_28 : decode b_Rn_open 28 = .ok (.getfield 18, 3) := by decide +kernel
theorem d_Rn_open_31 : decode b_Rn_open 31 = .ok (.aload_n 0, 1) := by decide +kernel
theorem d_Rn_open_32 : decode b_Rn_open 32 = .ok (.getfield 64, 3) := by decide +kernel
theorem d_Rn_open_35 : decode b_Rn_open 35 = .ok (.iload_n 1, 1) := by decide +kernel
theorem d_Rn_open_36 : decode b_Rn_open 36 = .ok (.bipush 7, 2) := by decide +kernel
theorem d_Rn_open_38 : decode b_Rn_open 38 = .ok (.if_icmp .ne 7, 3) := by decide +kernel
theorem d_Rn_open_41 : decode b_Rn_open 41 = .ok (.iconst 1, 1) := by decide +kernel
theorem d_Rn_open_42 : decode b_Rn_open 42 = .ok (.goto 4, 3) := by decide +kernel
theorem d_Rn_open_45 : decode b_Rn_open 45 = .ok (.iconst 0, 1) := by decide +kernel
theorem d_Rn_open_46 : decode b_Rn_open 46 = .ok (.bastore, 1) := by decide +kernel
theorem d_Rn_open_47 : decode b_Rn_open 47 = .ok (.aload_n 0, 1) := by decide +kernel
theorem d_Rn_open_48 : decode b_Rn_open 48 = .ok (.getfield 22, 3) := by decide +kernel
theorem d_Rn_open_51 : decode b_Rn_open 51 = .ok (.aload_n 0, 1) := by decide +kernel
theorem d_Rn_open_52 : decode b_Rn_open 52 = .ok (.getfield 64, 3) := by decide +kernel
theorem d_Rn_open_55 : decode b_Rn_open 55 = .ok (.iconst 0, 1) := by decide +kernel
theorem d_Rn_open_56 : decode b_Rn_open 56 = .ok (.bastore, 1) := by decide +kernel
theorem d_Rn_open_57 : decode b_Rn_open 57 = .ok (.aload_n 0, 1) := by decide +kernel
theorem d_Rn_open_58 : decode b_Rn_open 58 = .ok (.dup, 1) := by decide +kernel
theorem d_Rn_open_59 : decode b_Rn_open 59 = .ok (.getfield 73, 3) := by decide +kernel
theorem d_Rn_open_62 : decode b_Rn_open 62 = .ok (.iconst 1, 1) := by decide +kernel
theorem d_Rn_open_63 : decode b_Rn_open 63 = .ok (.iadd, 1) := by decide +kernel
theorem d_Rn_open_64 : decode b_Rn_open 64 = .ok (.putfield 73, 3) := by decide +kernel
theorem d_Rn_open_67 : decode b_Rn_open 67 = .ok (.aload_n 0, 1) := by decide +kernel
theorem d_Rn_open_68 : decode b_Rn_open 68 = .ok (.dup, 1) := by decide +kernel
theorem d_Rn_open_69 : decode b_Rn_open 69 = .ok (.getfield 64, 3) := by decide +kernel
theorem d_Rn_open_72 : decode b_Rn_open 72 = .ok (.iconst 1, 1) := by decide +kernel
theorem d_Rn_open_73 : decode b_Rn_open 73 = .ok (.iadd, 1) := by decide +kernel
theorem d_Rn_open_74 : decode b_Rn_open 74 = .ok (.putfield 64, 3) := by decide +kernel
theorem d_Rn_open_77 : decode b_Rn_open 77 = .ok (.aload_n 0, 1) := by decide +kernel
theorem d_Rn_open_78 : decode b_Rn_open 78 = .ok (.aload_n 0, 1) := by decide +kernel
theorem d_Rn_open_79 : decode b_Rn_open 79 = .ok (.getfield 76, 3) := by decide +kernel
theorem d_Rn_open_82 : decode b_Rn_open 82 = .ok (.aload_n 0, 1) := by decide +kernel
theorem d_Rn_open_83 : decode b_Rn_open 83 = .ok (.getfield 64, 3) := by decide +kernel
theorem d_Rn_open_86 : decode b_Rn_open 86 = .ok (.invokestatic 113, 3) := by decide +kernel
theorem d_Rn_open_89 : decode b_Rn_open 89 = .ok (.putfield 76, 3) := by decide +kernel
theorem d_Rn_open_92 : decode b_Rn_open 92 = .ok (.aload_n 0, 1) := by decide +kernel
theorem d_Rn_open_93 : decode b_Rn_open 93 = .ok (.getfield 64, 3) := by decide +kernel
theorem d_Rn_open_96 : decode b_Rn_open 96 = .ok (.istore_n 3, 1) := by decide +kernel
theorem d_Rn_open_97 : decode b_Rn_open 97 = .ok (.aload_n 0, 1) := by decide +kernel
theorem d_Rn_open_98 : decode b_Rn_open 98 = .ok (.iload_n 1, 1) := by decide +kernel
theorem d_Rn_open_99 : decode b_Rn_open 99 = .ok (.iload_n 3, 1) := by decide +kernel
theorem d_Rn_open_100 : decode b_Rn_open 100 = .ok (.invokevirtual 119, 3) := by decide +kernel
theorem d_Rn_open_103 : decode b_Rn_open 103 = .ok (.istore 4, 2) := by decide +kernel
theorem d_Rn_open_105 : decode b_Rn_open 105 = .ok (.aload_n 0, 1) := by decide +kernel
theorem d_Rn_open_106 : decode b_Rn_open 106 = .ok (.getfield 64, 3) := by decide +kernel
theorem d_Rn_open_109 : decode b_Rn_open 109 = .ok (.iload_n 3, 1) := by decide +kernel
theorem d_Rn_open_110 : decode b_Rn_open 110 = .ok (.if_icmp .le 9, 3) := by decide +kernel
theorem d_Rn_open_113 : decode b_Rn_open 113 = .ok (.aload_n 0, 1) := by decide +kernel
theorem d_Rn_open_114 : decode b_Rn_open 114 = .ok (.bipush 6, 2) := by decide +kernel
theorem d_Rn_open_116 : decode b_Rn_open 116 = .ok (.invokevirtual 53, 3) := by decide +kernel
theorem d_Rn_open_119 : decode b_Rn_open 119 = .ok (.aload_n 0, 1) := by decide +kernel
theorem d_Rn_open_120 : decode b_Rn_open 120 = .ok (.getfield 45, 3) := by decide +kernel
theorem d_Rn_open_123 : decode b_Rn_open 123 = .ok (.ifCond .ne 11, 3) := by decide +kernel
theorem d_Rn_open_126 : decode b_Rn_open 126 = .ok (.aload_n 0, 1) := by decide +kernel
theorem d_Rn_open_127 : decode b_Rn_open 127 = .ok (.iload_n 1, 1) := by decide +kernel
theorem d_Rn_open_128 : decode b_Rn_open 128 = .ok (.iload_n 2, 1) := by decide +kernel
theorem d_Rn_open_129 : decode b_Rn_open 129 = .ok (.iload 4, 2) := by decide +kernel
theorem d_Rn_open_131 : decode b_Rn_open 131 = .ok (.invokevirtual 122, 3) := by decide +kernel
theorem d_Rn_open_134 : decode b_Rn_open 134 = .ok (.return_, 1) := by decide +kernel
noncomputable def f_Rn_open_s (op : TBk → TRn → Int32 → TRn) (b : TBk) (u : TRn) (p0 : Int32) : TRn := (if (TRn_openCount u) < 0 then (let v_2 := f_Rn_fail b u 5; v_2) else (if (TRn_openCount u) < 20 then (if p0 = 7 then (match f_Rn_ask op b (TRn_set_mostOpen (TRn_set_opened (TRn_set_openCount (TRn_set_hadElse (TRn_set_isCase u (upd (TRn_isCase u) (TRn_openCount u).toNatClampNeg (vp_nar .boolean 1))) (upd (TRn_hadElse u) (TRn_openCount u).toNatClampNeg (vp_nar .boolean 0))) ((TRn_openCount u) + 1)) ((TRn_opened u) + 1)) (if (TRn_mostOpen u) < ((TRn_openCount u) + 1) then ((TRn_openCount u) + 1) else (TRn_mostOpen u))) p0 ((TRn_openCount u) + 1) with | (r_12, v_12) => (if (TRn_openCount v_12) ≤ ((TRn_openCount u) + 1) then (if (TRn_fault v_12) = 0 then (let v_15 := f_Rn_decide b v_12 p0 (TRn_opened u) r_12; v_15) else v_12) else (let v_16 := f_Rn_fail b v_12 6; (if (TRn_fault v_16) = 0 then (let v_18 := f_Rn_decide b v_16 p0 (TRn_opened u) r_12; v_18) else v_16)))) else (match f_Rn_ask op b (TRn_set_mostOpen (TRn_set_opened (TRn_set_openCount (TRn_set_hadElse (TRn_set_isCase u (upd (TRn_isCase u) (TRn_openCount u).toNatClampNeg (vp_nar .boolean 0))) (upd (TRn_hadElse u) (TRn_openCount u).toNatClampNeg (vp_nar .boolean 0))) ((TRn_openCount u) + 1)) ((TRn_opened u) + 1)) (if (TRn_mostOpen u) < ((TRn_openCount u) + 1) then ((TRn_openCount u) + 1) else (TRn_mostOpen u))) p0 ((TRn_openCount u) + 1) with | (r_5, v_5) => (if (TRn_openCount v_5) ≤ ((TRn_openCount u) + 1) then (if (TRn_fault v_5) = 0 then (let v_8 := f_Rn_decide b v_5 p0 (TRn_opened u) r_5; v_8) else v_5) else (let v_9 := f_Rn_fail b v_5 6; (if (TRn_fault v_9) = 0 then (let v_11 := f_Rn_decide b v_9 p0 (TRn_opened u) r_5; v_11) else v_9))))) else (let v_19 := f_Rn_fail b u 5; v_19)))
set_option maxHeartbeats 4000000 in
set_option maxRecDepth 100000 in
theorem c_Rn_open_s (l : Launch) (dC : Nat → ClassId) (dI : Nat → Nat → Nat) (ad : Nat → Nat) (ca : Nat → ClassId) (op : TBk → TRn → Int32 → TRn) (rf rl : Nat) (k : Int) (hopm : ∀ (b : TBk) (u : TRn) (w : Int32), k ≤ oc u → oc u ≤ oc (op b u w)) (hop : ∀ (sz : Nat) (b : TBk) (u : TRn) (w : Int32), BkS b ∧ k ≤ oc u → wx_Mv l y_Rn_open ws_Rn_open ({ frames := rf, cells := 0, slots := 0, locals := rl } : Room) (dC, dI) vwCl (t_R ca) [.ref (ad 0), .int w] (w_R ad ca b u) sz (fun v : TRn => w_R ad ca b v) (fun v : TRn => v = op b u w)) (sz : Nat) (b : TBk) (u : TRn) (p0 : Int32) (hpre : BkS b ∧ k - 1 ≤ oc u) (F : TRn) (he : F = f_Rn_open_s op b u p0) : wx_Mv l y_Rn_open ws_Rn_open ({ frames := rf + 11, cells := 0, slots := 0, locals := rl + 255 } : Room) (dC, dI) vwCl (t_R ca) [.ref (ad 0), .int p0] (w_R ad ca b u) sz (fun v : TRn => w_R ad ca b v) (fun v : TRn => v = F) := by
  refine Met.ofW (cc := b_Rn_open) (maxL := 5) (ret := none) (by decide) rfl ?_
  intro p e s m args below meth c s₁ B hml hv
  obtain ⟨rfl, hsz, hP, hK, hD0, hN⟩ := hv
  have hx := B.exec
  have hb := B.bytes
  have hr := B.returns
  have hts := atoms_spec (ws := ws_Rn_open) B.pre
  have ht : ∀ w ∈ TB, w.before _ s = true := fun w h => hts w (List.mem_cons_of_mem _ h)
  have hown : s.vm.findClass R_Rn = some m.cls := findClass_of_methodNamed B.named
  have hlocks := B.notSynchronized
  subst hsz
  have hD := hD0.self (sz := s.heap.size)
  generalize hAe : va_A (w_R ad ca b u) s.heap.size = A at hD ⊢
  have hA : ∀ q : Nat, s.heap.size ≤ q → A q := fun q h => by rw [← hAe]; exact Or.inr h
  have hS : va_S A s.heap s.heap [] := va_S.rf
  have hl := lv_entry ([.ref (ad 0), .int p0]) (n := 5) (Nat.le_of_ble_eq_true rfl)
  rw [lg_entry_eq]
  generalize (lg_sl ([.ref (ad 0), .int p0]) ++ List.replicate (5 - (lg_sl ([.ref (ad 0), .int p0])).length) Slot.unset).toArray = ls at hl ⊢
  have hl : lv_has ls 5 [(0, .ref (ad 0)), (1, .int p0)] := hl
  unfold f_Rn_open_s at he
  refine lv_aload_n hx hb d_Rn_open_0 rfl (lv_at hl 0 rfl) ?_
  refine va_get (D := (dC, dI)) (ci := 2) (v := .int (TRn_openCount u)) (C := R_Rn) (T := T_Rn) (N := 12) hx hb ht i_Rn hown hK hP 0 rfl rfl 7 (by decide) (ht _ q_137) (fun _ h9 => h9) rfl d_Rn_open_1 ?_
  refine lv_if_lt (tgt := 16) hx hb d_Rn_open_4 (by decide) (fun c_1 => ?_) (fun c_1 => ?_)
  · have he := he.trans (if_pos c_1)
    refine lv_aload_n hx hb d_Rn_open_16 rfl (lv_at hl 0 rfl) ?_
    refine lv_iconst (v := 5) hx hb d_Rn_open_17 (by decide) ?_
    refine wx_cv (wS := fun v : TRn => w_R ad ca b v) (ws2 := fun v : TRn => w_R ad ca b v) (va_runV (As := [.int 5]) (rest := []) ⟨hx, hb, hml, hown, ht⟩ (c_Rn_fail l dC dI ad ca s.heap.size b u 5 _ rfl) (cwV 1 ht (tb_V q_265 q_267 q_1 q_44 q_268) rfl rfl rfl p_Rn_fail ⟨show 0 + 1 ≤ rf + 11 by omega, show 8 + (2 + 11) + 0 ≤ rl + 255 by omega⟩) (wx_preV (wc := (w_R ad ca b u)) hN hK hP hD [0, 1, 2, 3, 4, 5, 6, 7, 8, 9, 10, 11, 12, 13, 14] [0, 1, 2, 3, 4, 5, 6, 7, 8, 9, 10, 11] rfl (by decide) rfl (ci := 2) (q0 := 0) rfl rfl) rfl rfl hl.1 rfl (lv_room (Nat.le_of_ble_eq_true rfl)) d_Rn_open_18 ⟨Nat.zero_le _, Nat.zero_le _⟩) hP hD hS hA [0, 1, 2, 3, 4, 5, 6, 7, 8, 9, 10, 11, 12, 13, 14] [] [0, 1, 2, 3, 4, 5, 6, 7, 8, 9, 10, 11, 12, 13, 14] rfl rfl (by decide) (by decide) (by decide) (fun _ => rfl) (fun v_2 H locs hw_2 hP hD hS => ?_)
    have hP : va_P (dC, dI) vwCl (w_R ad ca b v_2) H := hP
    have hD : va_D A (w_R ad ca b v_2) := hD
    rw [← hw_2] at he
    try dsimp only at he
    exact W.vret hx hb hr (fun t ht hW => ⟨⟨v_2, rfl, he.symm, by rw [ht]; exact hP, va_K.moved hW.alike hK, hD⟩, hS.F ht⟩) hS.2.2 d_Rn_open_21
  · have he := he.trans (if_neg c_1)
    refine lv_aload_n hx hb d_Rn_open_7 rfl (lv_at hl 0 rfl) ?_
    refine va_get (D := (dC, dI)) (ci := 2) (v := .int (TRn_openCount u)) (C := R_Rn) (T := T_Rn) (N := 12) hx hb ht i_Rn hown hK hP 0 rfl rfl 7 (by decide) (ht _ q_137) (fun _ h9 => h9) rfl d_Rn_open_8 ?_
    refine lv_bipush (v := 20) hx hb d_Rn_open_11 (by decide) ?_
    refine lv_icmp_lt (tgt := 22) hx hb d_Rn_open_13 (by decide) (fun c_3 => ?_) (fun c_3 => ?_)
    · have he := he.trans (if_pos c_3)
      refine lv_aload_n hx hb d_Rn_open_22 rfl (lv_at hl 0 rfl) ?_
      refine va_get (D := (dC, dI)) (ci := 2) (v := .int (TRn_opened u)) (C := R_Rn) (T := T_Rn) (N := 12) hx hb ht i_Rn hown hK hP 0 rfl rfl 8 (by decide) (ht _ q_138) (fun _ h9 => h9) rfl d_Rn_open_23 ?_
      refine lv_istore_n (lv' := [(2, .int (TRn_opened u)), (0, .ref (ad 0)), (1, .int p0)]) hx hb d_Rn_open_26 rfl hl (by decide) rfl (fun ls hl => ?_)
      refine lv_aload_n hx hb d_Rn_open_27 rfl (lv_at hl 1 rfl) ?_
      refine va_get (D := (dC, dI)) (ci := 2) (v := .ref (ad 3)) (C := R_Rn) (T := T_Rn) (N := 12) hx hb ht i_Rn hown hK hP 0 rfl rfl 4 (by decide) (ht _ q_134) (fun _ h9 => h9) rfl d_Rn_open_28 ?_
      refine lv_aload_n hx hb d_Rn_open_31 rfl (lv_at hl 1 rfl) ?_
      refine va_get (D := (dC, dI)) (ci := 2) (v := .int (TRn_openCount u)) (C := R_Rn) (T := T_Rn) (N := 12) hx hb ht i_Rn hown hK hP 0 rfl rfl 7 (by decide) (ht _ q_137) (fun _ h9 => h9) rfl d_Rn_open_32 ?_
      refine lv_iload_n hx hb d_Rn_open_35 rfl (lv_at hl 2 rfl) ?_
      refine lv_bipush (v := 7) hx hb d_Rn_open_36 (by decide) ?_
      refine lv_icmp_ne (tgt := 45) hx hb d_Rn_open_38 (by decide) (fun c_4 => ?_) (fun c_4 => ?_)
      · have he := he.trans (if_neg c_4)
        refine lv_iconst (v := 0) hx hb d_Rn_open_45 (by decide) ?_
        refine va_zast hx hb hK hP hD hS 3 2 rfl rfl (wx_inAV (by decide) c_1 c_3) d_Rn_open_46 (fun H locs hP hD hS => ?_)
        have hP : va_P (dC, dI) vwCl (w_R ad ca b (TRn_set_isCase u (upd (TRn_isCase u) (TRn_openCount u).toNatClampNeg (vp_nar .boolean 0)))) H := hP
        have hD : va_D A (w_R ad ca b (TRn_set_isCase u (upd (TRn_isCase u) (TRn_openCount u).toNatClampNeg (vp_nar .boolean 0)))) := hD
        refine lv_aload_n hx hb d_Rn_open_47 rfl (lv_at hl 1 rfl) ?_
        refine va_get (D := (dC, dI)) (ci := 2) (v := .ref (ad 4)) (C := R_Rn) (T := T_Rn) (N := 12) hx hb ht i_Rn hown hK hP 0 rfl rfl 5 (by decide) (ht _ q_135) (fun _ h9 => h9) rfl d_Rn_open_48 ?_
        refine lv_aload_n hx hb d_Rn_open_51 rfl (lv_at hl 1 rfl) ?_
        refine va_get (D := (dC, dI)) (ci := 2) (v := .int (TRn_openCount u)) (C := R_Rn) (T := T_Rn) (N := 12) hx hb ht i_Rn hown hK hP 0 rfl rfl 7 (by decide) (ht _ q_137) (fun _ h9 => h9) rfl d_Rn_open_52 ?_
        refine lv_iconst (v := 0) hx hb d_Rn_open_55 (by decide) ?_
        refine va_zast hx hb hK hP hD hS 4 3 rfl rfl (wx_inAV (by decide) c_1 c_3) d_Rn_open_56 (fun H locs hP hD hS => ?_)
        have hP : va_P (dC, dI) vwCl (w_R ad ca b (TRn_set_hadElse (TRn_set_isCase u (upd (TRn_isCase u) (TRn_openCount u).toNatClampNeg (vp_nar .boolean 0))) (upd (TRn_hadElse u) (TRn_openCount u).toNatClampNeg (vp_nar .boolean 0)))) H := hP
        have hD : va_D A (w_R ad ca b (TRn_set_hadElse (TRn_set_isCase u (upd (TRn_isCase u) (TRn_openCount u).toNatClampNeg (vp_nar .boolean 0))) (upd (TRn_hadElse u) (TRn_openCount u).toNatClampNeg (vp_nar .boolean 0)))) := hD
        refine lv_aload_n hx hb d_Rn_open_57 rfl (lv_at hl 1 rfl) ?_
        refine lv_dup hx hb d_Rn_open_58 rfl ?_
        refine va_get (D := (dC, dI)) (ci := 2) (v := .int (TRn_opened u)) (C := R_Rn) (T := T_Rn) (N := 12) hx hb ht i_Rn hown hK hP 0 rfl rfl 8 (by decide) (ht _ q_138) (fun _ h9 => h9) rfl d_Rn_open_59 ?_
        refine lv_iconst (v := 1) hx hb d_Rn_open_62 (by decide) ?_
        refine lv_iadd hx hb d_Rn_open_63 ?_
        refine va_put (D := (dC, dI)) (ci := 2) (v := .int ((TRn_opened u) + 1)) (ty := .int) (C := R_Rn) (T := T_Rn) (N := 12) hx hb ht i_Rn ty_Rn ty_Rn_ok nm_Rn hown hK hP hD hS 0 rfl rfl 8 (by decide) (ht _ q_138) (fun _ h9 => h9) rfl (by decide +kernel) rfl rfl (Nat.le_of_ble_eq_true rfl) d_Rn_open_64 (fun H locs hP hD hS => ?_)
        have hP : va_P (dC, dI) vwCl (w_R ad ca b (TRn_set_opened (TRn_set_hadElse (TRn_set_isCase u (upd (TRn_isCase u) (TRn_openCount u).toNatClampNeg (vp_nar .boolean 0))) (upd (TRn_hadElse u) (TRn_openCount u).toNatClampNeg (vp_nar .boolean 0))) ((TRn_opened u) + 1))) H := hP
        have hD : va_D A (w_R ad ca b (TRn_set_opened (TRn_set_hadElse (TRn_set_isCase u (upd (TRn_isCase u) (TRn_openCount u).toNatClampNeg (vp_nar .boolean 0))) (upd (TRn_hadElse u) (TRn_openCount u).toNatClampNeg (vp_nar .boolean 0))) ((TRn_opened u) + 1))) := hD
        refine lv_aload_n hx hb d_Rn_open_67 rfl (lv_at hl 1 rfl) ?_
        refine lv_dup hx hb d_Rn_open_68 rfl ?_
        refine va_get (D := (dC, dI)) (ci := 2) (v := .int (TRn_openCount u)) (C := R_Rn) (T := T_Rn) (N := 12) hx hb ht i_Rn hown hK hP 0 rfl rfl 7 (by decide) (ht _ q_137) (fun _ h9 => h9) rfl d_Rn_open_69 ?_
        refine lv_iconst (v := 1) hx hb d_Rn_open_72 (by decide) ?_
        refine lv_iadd hx hb d_Rn_open_73 ?_
        refine va_put (D := (dC, dI)) (ci := 2) (v := .int ((TRn_openCount u) + 1)) (ty := .int) (C := R_Rn) (T := T_Rn) (N := 12) hx hb ht i_Rn ty_Rn ty_Rn_ok nm_Rn hown hK hP hD hS 0 rfl rfl 7 (by decide) (ht _ q_137) (fun _ h9 => h9) rfl (by decide +kernel) rfl rfl (Nat.le_of_ble_eq_true rfl) d_Rn_open_74 (fun H locs hP hD hS => ?_)
        have hP : va_P (dC, dI) vwCl (w_R ad ca b (TRn_set_opened (TRn_set_openCount (TRn_set_hadElse (TRn_set_isCase u (upd (TRn_isCase u) (TRn_openCount u).toNatClampNeg (vp_nar .boolean 0))) (upd (TRn_hadElse u) (TRn_openCount u).toNatClampNeg (vp_nar .boolean 0))) ((TRn_openCount u) + 1)) ((TRn_opened u) + 1))) H := hP
        have hD : va_D A (w_R ad ca b (TRn_set_opened (TRn_set_openCount (TRn_set_hadElse (TRn_set_isCase u (upd (TRn_isCase u) (TRn_openCount u).toNatClampNeg (vp_nar .boolean 0))) (upd (TRn_hadElse u) (TRn_openCount u).toNatClampNeg (vp_nar .boolean 0))) ((TRn_openCount u) + 1)) ((TRn_opened u) + 1))) := hD
        refine lv_aload_n hx hb d_Rn_open_77 rfl (lv_at hl 1 rfl) ?_
        refine lv_aload_n hx hb d_Rn_open_78 rfl (lv_at hl 1 rfl) ?_
        refine va_get (D := (dC, dI)) (ci := 2) (v := .int (TRn_mostOpen u)) (C := R_Rn) (T := T_Rn) (N := 12) hx hb ht i_Rn hown hK hP 0 rfl rfl 9 (by decide) (ht _ q_139) (fun _ h9 => h9) rfl d_Rn_open_79 ?_
        refine lv_aload_n hx hb d_Rn_open_82 rfl (lv_at hl 1 rfl) ?_
        refine va_get (D := (dC, dI)) (ci := 2) (v := .int ((TRn_openCount u) + 1)) (C := R_Rn) (T := T_Rn) (N := 12) hx hb ht i_Rn hown hK hP 0 rfl rfl 7 (by decide) (ht _ q_137) (fun _ h9 => h9) rfl d_Rn_open_83 ?_
        refine va_mmax hx hb (hml.trans hl.1.symm) hown (ht _ q_290) (ht _ q_291) (ht _ q_48) (ht _ q_292) (by exact (show 1 ≤ rf + 11 by omega)) (by exact (show 1 + 13 ≤ rl + 255 by omega)) (Nat.zero_le _) (Nat.zero_le _) d_Rn_open_86 ?_
        refine va_put (D := (dC, dI)) (ci := 2) (v := .int (if (TRn_mostOpen u) < ((TRn_openCount u) + 1) then ((TRn_openCount u) + 1) else (TRn_mostOpen u))) (ty := .int) (C := R_Rn) (T := T_Rn) (N := 12) hx hb ht i_Rn ty_Rn ty_Rn_ok nm_Rn hown hK hP hD hS 0 rfl rfl 9 (by decide) (ht _ q_139) (fun _ h9 => h9) rfl (by decide +kernel) rfl rfl (Nat.le_of_ble_eq_true rfl) d_Rn_open_89 (fun H locs hP hD hS => ?_)
        have hP : va_P (dC, dI) vwCl (w_R ad ca b (TRn_set_mostOpen (TRn_set_opened (TRn_set_openCount (TRn_set_hadElse (TRn_set_isCase u (upd (TRn_isCase u) (TRn_openCount u).toNatClampNeg (vp_nar .boolean 0))) (upd (TRn_hadElse u) (TRn_openCount u).toNatClampNeg (vp_nar .boolean 0))) ((TRn_openCount u) + 1)) ((TRn_opened u) + 1)) (if (TRn_mostOpen u) < ((TRn_openCount u) + 1) then ((TRn_openCount u) + 1) else (TRn_mostOpen u)))) H := hP
        have hD : va_D A (w_R ad ca b (TRn_set_mostOpen (TRn_set_opened (TRn_set_openCount (TRn_set_hadElse (TRn_set_isCase u (upd (TRn_isCase u) (TRn_openCount u).toNatClampNeg (vp_nar .boolean 0))) (upd (TRn_hadElse u) (TRn_openCount u).toNatClampNeg (vp_nar .boolean 0))) ((TRn_openCount u) + 1)) ((TRn_opened u) + 1)) (if (TRn_mostOpen u) < ((TRn_openCount u) + 1) then ((TRn_openCount u) + 1) else (TRn_mostOpen u)))) := hD
        refine lv_aload_n hx hb d_Rn_open_92 rfl (lv_at hl 1 rfl) ?_
        refine va_get (D := (dC, dI)) (ci := 2) (v := .int ((TRn_openCount u) + 1)) (C := R_Rn) (T := T_Rn) (N := 12) hx hb ht i_Rn hown hK hP 0 rfl rfl 7 (by decide) (ht _ q_137) (fun _ h9 => h9) rfl d_Rn_open_93 ?_
        refine lv_istore_n (lv' := [(3, .int ((TRn_openCount u) + 1)), (2, .int (TRn_opened u)), (0, .ref (ad 0)), (1, .int p0)]) hx hb d_Rn_open_96 rfl hl (by decide) rfl (fun ls hl => ?_)
        refine lv_aload_n hx hb d_Rn_open_97 rfl (lv_at hl 2 rfl) ?_
        refine lv_iload_n hx hb d_Rn_open_98 rfl (lv_at hl 3 rfl) ?_
        refine lv_iload_n hx hb d_Rn_open_99 rfl (lv_at hl 0 rfl) ?_
        refine wx_ci (wS := fun v : TRn => w_R ad ca b v) (ws2 := fun v : TRn => w_R ad ca b v) (va_runV (As := [.int p0, .int ((TRn_openCount u) + 1)]) (rest := []) ⟨hx, hb, hml, hown, ht⟩ (c_Rn_ask l dC dI ad ca op rf rl k hopm hop H.size b (TRn_set_mostOpen (TRn_set_opened (TRn_set_openCount (TRn_set_hadElse (TRn_set_isCase u (upd (TRn_isCase u) (TRn_openCount u).toNatClampNeg (vp_nar .boolean 0))) (upd (TRn_hadElse u) (TRn_openCount u).toNatClampNeg (vp_nar .boolean 0))) ((TRn_openCount u) + 1)) ((TRn_opened u) + 1)) (if (TRn_mostOpen u) < ((TRn_openCount u) + 1) then ((TRn_openCount u) + 1) else (TRn_mostOpen u))) p0 ((TRn_openCount u) + 1) ⟨hpre.1, open_k hpre.2 c_1 c_3, Int.le_refl _⟩ _ rfl) (cwV 2 ht (tb_V q_293 q_295 q_4 q_44 q_296) rfl rfl rfl p_Rn_ask ⟨show (rf + 10) + 1 ≤ rf + 11 by omega, show 8 + (3 + 11) + (rl + 233) ≤ rl + 255 by omega⟩) (wx_preV (wc := (w_R ad ca b (TRn_set_mostOpen (TRn_set_opened (TRn_set_openCount (TRn_set_hadElse (TRn_set_isCase u (upd (TRn_isCase u) (TRn_openCount u).toNatClampNeg (vp_nar .boolean 0))) (upd (TRn_hadElse u) (TRn_openCount u).toNatClampNeg (vp_nar .boolean 0))) ((TRn_openCount u) + 1)) ((TRn_opened u) + 1)) (if (TRn_mostOpen u) < ((TRn_openCount u) + 1) then ((TRn_openCount u) + 1) else (TRn_mostOpen u))))) hN hK hP hD [0, 1, 2, 3, 4, 5, 6, 7, 8, 9, 10, 11, 12, 13, 14] [0, 1, 2, 3, 4, 5, 6, 7, 8, 9, 10, 11] rfl (by decide) rfl (ci := 2) (q0 := 0) rfl rfl) rfl rfl hl.1 rfl (lv_room (Nat.le_of_ble_eq_true rfl)) d_Rn_open_100 ⟨Nat.zero_le _, Nat.zero_le _⟩) hP hD hS hA [0, 1, 2, 3, 4, 5, 6, 7, 8, 9, 10, 11, 12, 13, 14] [] [0, 1, 2, 3, 4, 5, 6, 7, 8, 9, 10, 11, 12, 13, 14] rfl rfl (by decide) (by decide) (by decide) (fun _ => rfl) (fun r_5 v_5 H locs hw_5 hP hD hS => ?_)
        have hP : va_P (dC, dI) vwCl (w_R ad ca b v_5) H := hP
        have hD : va_D A (w_R ad ca b v_5) := hD
        rw [← hw_5] at he
        try dsimp only at he
        refine lv_istore (lv' := [(4, .int r_5), (3, .int ((TRn_openCount u) + 1)), (2, .int (TRn_opened u)), (0, .ref (ad 0)), (1, .int p0)]) hx hb d_Rn_open_103 hl (by decide) rfl (fun ls hl => ?_)
        refine lv_aload_n hx hb d_Rn_open_105 rfl (lv_at hl 3 rfl) ?_
        refine va_get (D := (dC, dI)) (ci := 2) (v := .int (TRn_openCount v_5)) (C := R_Rn) (T := T_Rn) (N := 12) hx hb ht i_Rn hown hK hP 0 rfl rfl 7 (by decide) (ht _ q_137) (fun _ h9 => h9) rfl d_Rn_open_106 ?_
        refine lv_iload_n hx hb d_Rn_open_109 rfl (lv_at hl 1 rfl) ?_
        refine lv_icmp_le (tgt := 119) hx hb d_Rn_open_110 (by decide) (fun c_6 => ?_) (fun c_6 => ?_)
        · have he := he.trans (if_pos c_6)
          refine lv_aload_n hx hb d_Rn_open_119 rfl (lv_at hl 3 rfl) ?_
          refine va_get (D := (dC, dI)) (ci := 2) (v := .int (TRn_fault v_5)) (C := R_Rn) (T := T_Rn) (N := 12) hx hb ht i_Rn hown hK hP 0 rfl rfl 11 (by decide) (ht _ q_141) (fun _ h9 => h9) rfl d_Rn_open_120 ?_
          refine lv_if_ne (tgt := 134) hx hb d_Rn_open_123 (by decide) (fun c_7 => ?_) (fun c_7 => ?_)
          · have he := he.trans (if_neg c_7)
            exact W.vret hx hb hr (fun t ht hW => ⟨⟨v_5, rfl, he.symm, by rw [ht]; exact hP, va_K.moved hW.alike hK, hD⟩, hS.F ht⟩) hS.2.2 d_Rn_open_134
          · have he := he.trans (if_pos c_7)
            refine lv_aload_n hx hb d_Rn_open_126 rfl (lv_at hl 3 rfl) ?_
            refine lv_iload_n hx hb d_Rn_open_127 rfl (lv_at hl 4 rfl) ?_
            refine lv_iload_n hx hb d_Rn_open_128 rfl (lv_at hl 2 rfl) ?_
            refine lv_iload hx hb d_Rn_open_129 (lv_at hl 0 rfl) ?_
            refine wx_cv (wS := fun v : TRn => w_R ad ca b v) (ws2 := fun v : TRn => w_R ad ca b v) (va_runV (As := [.int p0, .int (TRn_opened u), .int r_5]) (rest := []) ⟨hx, hb, hml, hown, ht⟩ (c_Rn_decide l dC dI ad ca H.size b v_5 p0 (TRn_opened u) r_5 hpre.1 _ rfl) (cwV 3 ht (tb_V q_373 q_375 q_16 q_44 q_376) rfl rfl rfl p_Rn_decide ⟨show 4 + 1 ≤ rf + 11 by omega, show 8 + (6 + 11) + 92 ≤ rl + 255 by omega⟩) (wx_preV (wc := (w_R ad ca b v_5)) hN hK hP hD [0, 1, 2, 3, 4, 5, 6, 7, 8, 9, 10, 11, 12, 13, 14] [0, 1, 2, 3, 4, 5, 6, 7, 8, 9, 10, 11] rfl (by decide) rfl (ci := 2) (q0 := 0) rfl rfl) rfl rfl hl.1 rfl (lv_room (Nat.le_of_ble_eq_true rfl)) d_Rn_open_131 ⟨Nat.zero_le _, Nat.zero_le _⟩) hP hD hS hA [0, 1, 2, 3, 4, 5, 6, 7, 8, 9, 10, 11, 12, 13, 14] [] [0, 1, 2, 3, 4, 5, 6, 7, 8, 9, 10, 11, 12, 13, 14] rfl rfl (by decide) (by decide) (by decide) (fun _ => rfl) (fun v_8 H locs hw_8 hP hD hS => ?_)
            have hP : va_P (dC, dI) vwCl (w_R ad ca b v_8) H := hP
            have hD : va_D A (w_R ad ca b v_8) := hD
            rw [← hw_8] at he
            try dsimp only at he
            exact W.vret hx hb hr (fun t ht hW => ⟨⟨v_8, rfl, he.symm, by rw [ht]; exact hP, va_K.moved hW.alike hK, hD⟩, hS.F ht⟩) hS.2.2 d_Rn_open_134
        · have he := he.trans (if_neg c_6)
          refine lv_aload_n hx hb d_Rn_open_113 rfl (lv_at hl 3 rfl) ?_
          refine lv_bipush (v := 6) hx hb d_Rn_open_114 (by decide) ?_
          refine wx_cv (wS := fun v : TRn => w_R ad ca b v) (ws2 := fun v : TRn => w_R ad ca b v) (va_runV (As := [.int 6]) (rest := []) ⟨hx, hb, hml, hown, ht⟩ (c_Rn_fail l dC dI ad ca H.size b v_5 6 _ rfl) (cwV 1 ht (tb_V q_265 q_267 q_1 q_44 q_268) rfl rfl rfl p_Rn_fail ⟨show 0 + 1 ≤ rf + 11 by omega, show 8 + (2 + 11) + 0 ≤ rl + 255 by omega⟩) (wx_preV (wc := (w_R ad ca b v_5)) hN hK hP hD [0, 1, 2, 3, 4, 5, 6, 7, 8, 9, 10, 11, 12, 13, 14] [0, 1, 2, 3, 4, 5, 6, 7, 8, 9, 10, 11] rfl (by decide) rfl (ci := 2) (q0 := 0) rfl rfl) rfl rfl hl.1 rfl (lv_room (Nat.le_of_ble_eq_true rfl)) d_Rn_open_116 ⟨Nat.zero_le _, Nat.zero_le _⟩) hP hD hS hA [0, 1, 2, 3, 4, 5, 6, 7, 8, 9, 10, 11, 12, 13, 14] [] [0, 1, 2, 3, 4, 5, 6, 7, 8, 9, 10, 11, 12, 13, 14] rfl rfl (by decide) (by decide) (by decide) (fun _ => rfl) (fun v_9 H locs hw_9 hP hD hS => ?_)
          have hP : va_P (dC, dI) vwCl (w_R ad ca b v_9) H := hP
          have hD : va_D A (w_R ad ca b v_9) := hD
          rw [← hw_9] at he
          try dsimp only at he
          refine lv_aload_n hx hb d_Rn_open_119 rfl (lv_at hl 3 rfl) ?_
          refine va_get (D := (dC, dI)) (ci := 2) (v := .int (TRn_fault v_9)) (C := R_Rn) (T := T_Rn) (N := 12) hx hb ht i_Rn hown hK hP 0 rfl rfl 11 (by decide) (ht _ q_141) (fun _ h9 => h9) rfl d_Rn_open_120 ?_
          refine lv_if_ne (tgt := 134) hx hb d_Rn_open_123 (by decide) (fun c_10 => ?_) (fun c_10 => ?_)
          · have he := he.trans (if_neg c_10)
            exact W.vret hx hb hr (fun t ht hW => ⟨⟨v_9, rfl, he.symm, by rw [ht]; exact hP, va_K.moved hW.alike hK, hD⟩, hS.F ht⟩) hS.2.2 d_Rn_open_134
          · have he := he.trans (if_pos c_10)
            refine lv_aload_n hx hb d_Rn_open_126 rfl (lv_at hl 3 rfl) ?_
            refine lv_iload_n hx hb d_Rn_open_127 rfl (lv_at hl 4 rfl) ?_
            refine lv_iload_n hx hb d_Rn_open_128 rfl (lv_at hl 2 rfl) ?_
            refine lv_iload hx hb d_Rn_open_129 (lv_at hl 0 rfl) ?_
            refine wx_cv (wS := fun v : TRn => w_R ad ca b v) (ws2 := fun v : TRn => w_R ad ca b v) (va_runV (As := [.int p0, .int (TRn_opened u), .int r_5]) (rest := []) ⟨hx, hb, hml, hown, ht⟩ (c_Rn_decide l dC dI ad ca H.size b v_9 p0 (TRn_opened u) r_5 hpre.1 _ rfl) (cwV 3 ht (tb_V q_373 q_375 q_16 q_44 q_376) rfl rfl rfl p_Rn_decide ⟨show 4 + 1 ≤ rf + 11 by omega, show 8 + (6 + 11) + 92 ≤ rl + 255 by omega⟩) (wx_preV (wc := (w_R ad ca b v_9)) hN hK hP hD [0, 1, 2, 3, 4, 5, 6, 7, 8, 9, 10, 11, 12, 13, 14] [0, 1, 2, 3, 4, 5, 6, 7, 8, 9, 10, 11] rfl (by decide) rfl (ci := 2) (q0 := 0) rfl rfl) rfl rfl hl.1 rfl (lv_room (Nat.le_of_ble_eq_true rfl)) d_Rn_open_131 ⟨Nat.zero_le _, Nat.zero_le _⟩) hP hD hS hA [0, 1, 2, 3, 4, 5, 6, 7, 8, 9, 10, 11, 12, 13, 14] [] [0, 1, 2, 3, 4, 5, 6, 7, 8, 9, 10, 11, 12, 13, 14] rfl rfl (by decide) (by decide) (by decide) (fun _ => rfl) (fun v_11 H locs hw_11 hP hD hS => ?_)
            have hP : va_P (dC, dI) vwCl (w_R ad ca b v_11) H := hP
            have hD : va_D A (w_R ad ca b v_11) := hD
            rw [← hw_11] at he
            try dsimp only at he
            exact W.vret hx hb hr (fun t ht hW => ⟨⟨v_11, rfl, he.symm, by rw [ht]; exact hP, va_K.moved hW.alike hK, hD⟩, hS.F ht⟩) hS.2.2 d_Rn_open_134
      · have he := he.trans (if_pos c_4)
        refine lv_iconst (v := 1) hx hb d_Rn_open_41 (by decide) ?_
        refine lv_goto (tgt := 46) hx hb d_Rn_open_42 (by decide) ?_
        refine va_zast hx hb hK hP hD hS 3 2 rfl rfl (wx_inAV (by decide) c_1 c_3) d_Rn_open_46 (fun H locs hP hD hS => ?_)
        have hP : va_P (dC, dI) vwCl (w_R ad ca b (TRn_set_isCase u (upd (TRn_isCase u) (TRn_openCount u).toNatClampNeg (vp_nar .boolean 1)))) H := hP
        have hD : va_D A (w_R ad ca b (TRn_set_isCase u (upd (TRn_isCase u) (TRn_openCount u).toNatClampNeg (vp_nar .boolean 1)))) := hD
        refine lv_aload_n hx hb d_Rn_open_47 rfl (lv_at hl 1 rfl) ?_
        refine va_get (D := (dC, dI)) (ci := 2) (v := .ref (ad 4)) (C := R_Rn) (T := T_Rn) (N := 12) hx hb ht i_Rn hown hK hP 0 rfl rfl 5 (by decide) (ht _ q_135) (fun _ h9 => h9) rfl d_Rn_open_48 ?_
        refine lv_aload_n hx hb d_Rn_open_51 rfl (lv_at hl 1 rfl) ?_
        refine va_get (D := (dC, dI)) (ci := 2) (v := .int (TRn_openCount u)) (C := R_Rn) (T := T_Rn) (N := 12) hx hb ht i_Rn hown hK hP 0 rfl rfl 7 (by decide) (ht _ q_137) (fun _ h9 => h9) rfl d_Rn_open_52 ?_
        refine lv_iconst (v := 0) hx hb d_Rn_open_55 (by decide) ?_
        refine va_zast hx hb hK hP hD hS 4 3 rfl rfl (wx_inAV (by decide) c_1 c_3) d_Rn_open_56 (fun H locs hP hD hS => ?_)
        have hP : va_P (dC, dI) vwCl (w_R ad ca b (TRn_set_hadElse (TRn_set_isCase u (upd (TRn_isCase u) (TRn_openCount u).toNatClampNeg (vp_nar .boolean 1))) (upd (TRn_hadElse u) (TRn_openCount u).toNatClampNeg (vp_nar .boolean 0)))) H := hP
        have hD : va_D A (w_R ad ca b (TRn_set_hadElse (TRn_set_isCase u (upd (TRn_isCase u) (TRn_openCount u).toNatClampNeg (vp_nar .boolean 1))) (upd (TRn_hadElse u) (TRn_openCount u).toNatClampNeg (vp_nar .boolean 0)))) := hD
        refine lv_aload_n hx hb d_Rn_open_57 rfl (lv_at hl 1 rfl) ?_
        refine lv_dup hx hb d_Rn_open_58 rfl ?_
        refine va_get (D := (dC, dI)) (ci := 2) (v := .int (TRn_opened u)) (C := R_Rn) (T := T_Rn) (N := 12) hx hb ht i_Rn hown hK hP 0 rfl rfl 8 (by decide) (ht _ q_138) (fun _ h9 => h9) rfl d_Rn_open_59 ?_
        refine lv_iconst (v := 1) hx hb d_Rn_open_62 (by decide) ?_
        refine lv_iadd hx hb d_Rn_open_63 ?_
        refine va_put (D := (dC, dI)) (ci := 2) (v := .int ((TRn_opened u) + 1)) (ty := .int) (C := R_Rn) (T := T_Rn) (N := 12) hx hb ht i_Rn ty_Rn ty_Rn_ok nm_Rn hown hK hP hD hS 0 rfl rfl 8 (by decide) (ht _ q_138) (fun _ h9 => h9) rfl (by decide +kernel) rfl rfl (Nat.le_of_ble_eq_true rfl) d_Rn_open_64 (fun H locs hP hD hS => ?_)
        have hP : va_P (dC, dI) vwCl (w_R ad ca b (TRn_set_opened (TRn_set_hadElse (TRn_set_isCase u (upd (TRn_isCase u) (TRn_openCount u).toNatClampNeg (vp_nar .boolean 1))) (upd (TRn_hadElse u) (TRn_openCount u).toNatClampNeg (vp_nar .boolean 0))) ((TRn_opened u) + 1))) H := hP
        have hD : va_D A (w_R ad ca b (TRn_set_opened (TRn_set_hadElse (TRn_set_isCase u (upd (TRn_isCase u) (TRn_openCount u).toNatClampNeg (vp_nar .boolean 1))) (upd (TRn_hadElse u) (TRn_openCount u).toNatClampNeg (vp_nar .boolean 0))) ((TRn_opened u) + 1))) := hD
        refine lv_aload_n hx hb d_Rn_open_67 rfl (lv_at hl 1 rfl) ?_
        refine lv_dup hx hb d_Rn_open_68 rfl ?_
        refine va_get (D := (dC, dI)) (ci := 2) (v := .int (TRn_openCount u)) (C := R_Rn) (T := T_Rn) (N := 12) hx hb ht i_Rn hown hK hP 0 rfl rfl 7 (by decide) (ht _ q_137) (fun _ h9 => h9) rfl d_Rn_open_69 ?_
        refine lv_iconst (v := 1) hx hb d_Rn_open_72 (by decide) ?_
        refine lv_iadd hx hb d_Rn_open_73 ?_
        refine va_put (D := (dC, dI)) (ci := 2) (v := .int ((TRn_openCount u) + 1)) (ty := .int) (C := R_Rn) (T := T_Rn) (N := 12) hx hb ht i_Rn ty_Rn ty_Rn_ok nm_Rn hown hK hP hD hS 0 rfl rfl 7 (by decide) (ht _ q_137) (fun _ h9 => h9) rfl (by decide +kernel) rfl rfl (Nat.le_of_ble_eq_true rfl) d_Rn_open_74 (fun H locs hP hD hS => ?_)
        have hP : va_P (dC, dI) vwCl (w_R ad ca b (TRn_set_opened (TRn_set_openCount (TRn_set_hadElse (TRn_set_isCase u (upd (TRn_isCase u) (TRn_openCount u).toNatClampNeg (vp_nar .boolean 1))) (upd (TRn_hadElse u) (TRn_openCount u).toNatClampNeg (vp_nar .boolean 0))) ((TRn_openCount u) + 1)) ((TRn_opened u) + 1))) H := hP
        have hD : va_D A (w_R ad ca b (TRn_set_opened (TRn_set_openCount (TRn_set_hadElse (TRn_set_isCase u (upd (TRn_isCase u) (TRn_openCount u).toNatClampNeg (vp_nar .boolean 1))) (upd (TRn_hadElse u) (TRn_openCount u).toNatClampNeg (vp_nar .boolean 0))) ((TRn_openCount u) + 1)) ((TRn_opened u) + 1))) := hD
        refine lv_aload_n hx hb d_Rn_open_77 rfl (lv_at hl 1 rfl) ?_
        refine lv_aload_n hx hb d_Rn_open_78 rfl (lv_at hl 1 rfl) ?_
        refine va_get (D := (dC, dI)) (ci := 2) (v := .int (TRn_mostOpen u)) (C := R_Rn) (T := T_Rn) (N := 12) hx hb ht i_Rn hown hK hP 0 rfl rfl 9 (by decide) (ht _ q_139) (fun _ h9 => h9) rfl d_Rn_open_79 ?_
        refine lv_aload_n hx hb d_Rn_open_82 rfl (lv_at hl 1 rfl) ?_
        refine va_get (D := (dC, dI)) (ci := 2) (v := .int ((TRn_openCount u) + 1)) (C := R_Rn) (T := T_Rn) (N := 12) hx hb ht i_Rn hown hK hP 0 rfl rfl 7 (by decide) (ht _ q_137) (fun _ h9 => h9) rfl d_Rn_open_83 ?_
        refine va_mmax hx hb (hml.trans hl.1.symm) hown (ht _ q_290) (ht _ q_291) (ht _ q_48) (ht _ q_292) (by exact (show 1 ≤ rf + 11 by omega)) (by exact (show 1 + 13 ≤ rl + 255 by omega)) (Nat.zero_le _) (Nat.zero_le _) d_Rn_open_86 ?_
        refine va_put (D := (dC, dI)) (ci := 2) (v := .int (if (TRn_mostOpen u) < ((TRn_openCount u) + 1) then ((TRn_openCount u) + 1) else (TRn_mostOpen u))) (ty := .int) (C := R_Rn) (T := T_Rn) (N := 12) hx hb ht i_Rn ty_Rn ty_Rn_ok nm_Rn hown hK hP hD hS 0 rfl rfl 9 (by decide) (ht _ q_139) (fun _ h9 => h9) rfl (by decide +kernel) rfl rfl (Nat.le_of_ble_eq_true rfl) d_Rn_open_89 (fun H locs hP hD hS => ?_)
        have hP : va_P (dC, dI) vwCl (w_R ad ca b (TRn_set_mostOpen (TRn_set_opened (TRn_set_openCount (TRn_set_hadElse (TRn_set_isCase u (upd (TRn_isCase u) (TRn_openCount u).toNatClampNeg (vp_nar .boolean 1))) (upd (TRn_hadElse u) (TRn_openCount u).toNatClampNeg (vp_nar .boolean 0))) ((TRn_openCount u) + 1)) ((TRn_opened u) + 1)) (if (TRn_mostOpen u) < ((TRn_openCount u) + 1) then ((TRn_openCount u) + 1) else (TRn_mostOpen u)))) H := hP
        have hD : va_D A (w_R ad ca b (TRn_set_mostOpen (TRn_set_opened (TRn_set_openCount (TRn_set_hadElse (TRn_set_isCase u (upd (TRn_isCase u) (TRn_openCount u).toNatClampNeg (vp_nar .boolean 1))) (upd (TRn_hadElse u) (TRn_openCount u).toNatClampNeg (vp_nar .boolean 0))) ((TRn_openCount u) + 1)) ((TRn_opened u) + 1)) (if (TRn_mostOpen u) < ((TRn_openCount u) + 1) then ((TRn_openCount u) + 1) else (TRn_mostOpen u)))) := hD
        refine lv_aload_n hx hb d_Rn_open_92 rfl (lv_at hl 1 rfl) ?_
        refine va_get (D := (dC, dI)) (ci := 2) (v := .int ((TRn_openCount u) + 1)) (C := R_Rn) (T := T_Rn) (N := 12) hx hb ht i_Rn hown hK hP 0 rfl rfl 7 (by decide) (ht _ q_137) (fun _ h9 => h9) rfl d_Rn_open_93 ?_
        refine lv_istore_n (lv' := [(3, .int ((TRn_openCount u) + 1)), (2, .int (TRn_opened u)), (0, .ref (ad 0)), (1, .int p0)]) hx hb d_Rn_open_96 rfl hl (by decide) rfl (fun ls hl => ?_)
        refine lv_aload_n hx hb d_Rn_open_97 rfl (lv_at hl 2 rfl) ?_
        refine lv_iload_n hx hb d_Rn_open_98 rfl (lv_at hl 3 rfl) ?_
        refine lv_iload_n hx hb d_Rn_open_99 rfl (lv_at hl 0 rfl) ?_
        refine wx_ci (wS := fun v : TRn => w_R ad ca b v) (ws2 := fun v : TRn => w_R ad ca b v) (va_runV (As := [.int p0, .int ((TRn_openCount u) + 1)]) (rest := []) ⟨hx, hb, hml, hown, ht⟩ (c_Rn_ask l dC dI ad ca op rf rl k hopm hop H.size b (TRn_set_mostOpen (TRn_set_opened (TRn_set_openCount (TRn_set_hadElse (TRn_set_isCase u (upd (TRn_isCase u) (TRn_openCount u).toNatClampNeg (vp_nar .boolean 1))) (upd (TRn_hadElse u) (TRn_openCount u).toNatClampNeg (vp_nar .boolean 0))) ((TRn_openCount u) + 1)) ((TRn_opened u) + 1)) (if (TRn_mostOpen u) < ((TRn_openCount u) + 1) then ((TRn_openCount u) + 1) else (TRn_mostOpen u))) p0 ((TRn_openCount u) + 1) ⟨hpre.1, open_k hpre.2 c_1 c_3, Int.le_refl _⟩ _ rfl) (cwV 2 ht (tb_V q_293 q_295 q_4 q_44 q_296) rfl rfl rfl p_Rn_ask ⟨show (rf + 10) + 1 ≤ rf + 11 by omega, show 8 + (3 + 11) + (rl + 233) ≤ rl + 255 by omega⟩) (wx_preV (wc := (w_R ad ca b (TRn_set_mostOpen (TRn_set_opened (TRn_set_openCount (TRn_set_hadElse (TRn_set_isCase u (upd (TRn_isCase u) (TRn_openCount u).toNatClampNeg (vp_nar .boolean 1))) (upd (TRn_hadElse u) (TRn_openCount u).toNatClampNeg (vp_nar .boolean 0))) ((TRn_openCount u) + 1)) ((TRn_opened u) + 1)) (if (TRn_mostOpen u) < ((TRn_openCount u) + 1) then ((TRn_openCount u) + 1) else (TRn_mostOpen u))))) hN hK hP hD [0, 1, 2, 3, 4, 5, 6, 7, 8, 9, 10, 11, 12, 13, 14] [0, 1, 2, 3, 4, 5, 6, 7, 8, 9, 10, 11] rfl (by decide) rfl (ci := 2) (q0 := 0) rfl rfl) rfl rfl hl.1 rfl (lv_room (Nat.le_of_ble_eq_true rfl)) d_Rn_open_100 ⟨Nat.zero_le _, Nat.zero_le _⟩) hP hD hS hA [0, 1, 2, 3, 4, 5, 6, 7, 8, 9, 10, 11, 12, 13, 14] [] [0, 1, 2, 3, 4, 5, 6, 7, 8, 9, 10, 11, 12, 13, 14] rfl rfl (by decide) (by decide) (by decide) (fun _ => rfl) (fun r_12 v_12 H locs hw_12 hP hD hS => ?_)
        have hP : va_P (dC, dI) vwCl (w_R ad ca b v_12) H := hP
        have hD : va_D A (w_R ad ca b v_12) := hD
        rw [← hw_12] at he
        try dsimp only at he
        refine lv_istore (lv' := [(4, .int r_12), (3, .int ((TRn_openCount u) + 1)), (2, .int (TRn_opened u)), (0, .ref (ad 0)), (1, .int p0)]) hx hb d_Rn_open_103 hl (by decide) rfl (fun ls hl => ?_)
        refine lv_aload_n hx hb d_Rn_open_105 rfl (lv_at hl 3 rfl) ?_
        refine va_get (D := (dC, dI)) (ci := 2) (v := .int (TRn_openCount v_12)) (C := R_Rn) (T := T_Rn) (N := 12) hx hb ht i_Rn hown hK hP 0 rfl rfl 7 (by decide) (ht _ q_137) (fun _ h9 => h9) rfl d_Rn_open_106 ?_
        refine lv_iload_n hx hb d_Rn_open_109 rfl (lv_at hl 1 rfl) ?_
        refine lv_icmp_le (tgt := 119) hx hb d_Rn_open_110 (by decide) (fun c_13 => ?_) (fun c_13 => ?_)
        · have he := he.trans (if_pos c_13)
          refine lv_aload_n hx hb d_Rn_open_119 rfl (lv_at hl 3 rfl) ?_
          refine va_get (D := (dC, dI)) (ci := 2) (v := .int (TRn_fault v_12)) (C := R_Rn) (T := T_Rn) (N := 12) hx hb ht i_Rn hown hK hP 0 rfl rfl 11 (by decide) (ht _ q_141) (fun _ h9 => h9) rfl d_Rn_open_120 ?_
          refine lv_if_ne (tgt := 134) hx hb d_Rn_open_123 (by decide) (fun c_14 => ?_) (fun c_14 => ?_)
          · have he := he.trans (if_neg c_14)
            exact W.vret hx hb hr (fun t ht hW => ⟨⟨v_12, rfl, he.symm, by rw [ht]; exact hP, va_K.moved hW.alike hK, hD⟩, hS.F ht⟩) hS.2.2 d_Rn_open_134
          · have he := he.trans (if_pos c_14)
            refine lv_aload_n hx hb d_Rn_open_126 rfl (lv_at hl 3 rfl) ?_
            refine lv_iload_n hx hb d_Rn_open_127 rfl (lv_at hl 4 rfl) ?_
            refine lv_iload_n hx hb d_Rn_open_128 rfl (lv_at hl 2 rfl) ?_
            refine lv_iload hx hb d_Rn_open_129 (lv_at hl 0 rfl) ?_
            refine wx_cv (wS := fun v : TRn => w_R ad ca b v) (ws2 := fun v : TRn => w_R ad ca b v) (va_runV (As := [.int p0, .int (TRn_opened u), .int r_12]) (rest := []) ⟨hx, hb, hml, hown, ht⟩ (c_Rn_decide l dC dI ad ca H.size b v_12 p0 (TRn_opened u) r_12 hpre.1 _ rfl) (cwV 3 ht (tb_V q_373 q_375 q_16 q_44 q_376) rfl rfl rfl p_Rn_decide ⟨show 4 + 1 ≤ rf + 11 by omega, show 8 + (6 + 11) + 92 ≤ rl + 255 by omega⟩) (wx_preV (wc := (w_R ad ca b v_12)) hN hK hP hD [0, 1, 2, 3, 4, 5, 6, 7, 8, 9, 10, 11, 12, 13, 14] [0, 1, 2, 3, 4, 5, 6, 7, 8, 9, 10, 11] rfl (by decide) rfl (ci := 2) (q0 := 0) rfl rfl) rfl rfl hl.1 rfl (lv_room (Nat.le_of_ble_eq_true rfl)) d_Rn_open_131 ⟨Nat.zero_le _, Nat.zero_le _⟩) hP hD hS hA [0, 1, 2, 3, 4, 5, 6, 7, 8, 9, 10, 11, 12, 13, 14] [] [0, 1, 2, 3, 4, 5, 6, 7, 8, 9, 10, 11, 12, 13, 14] rfl rfl (by decide) (by decide) (by decide) (fun _ => rfl) (fun v_15 H locs hw_15 hP hD hS => ?_)
            have hP : va_P (dC, dI) vwCl (w_R ad ca b v_15) H := hP
            have hD : va_D A (w_R ad ca b v_15) := hD
            rw [← hw_15] at he
            try dsimp only at he
            exact W.vret hx hb hr (fun t ht hW => ⟨⟨v_15, rfl, he.symm, by rw [ht]; exact hP, va_K.moved hW.alike hK, hD⟩, hS.F ht⟩) hS.2.2 d_Rn_open_134
        · have he := he.trans (if_neg c_13)
          refine lv_aload_n hx hb d_Rn_open_113 rfl (lv_at hl 3 rfl) ?_
          refine lv_bipush (v := 6) hx hb d_Rn_open_114 (by decide) ?_
          refine wx_cv (wS := fun v : TRn => w_R ad ca b v) (ws2 := fun v : TRn => w_R ad ca b v) (va_runV (As := [.int 6]) (rest := []) ⟨hx, hb, hml, hown, ht⟩ (c_Rn_fail l dC dI ad ca H.size b v_12 6 _ rfl) (cwV 1 ht (tb_V q_265 q_267 q_1 q_44 q_268) rfl rfl rfl p_Rn_fail ⟨show 0 + 1 ≤ rf + 11 by omega, show 8 + (2 + 11) + 0 ≤ rl + 255 by omega⟩) (wx_preV (wc := (w_R ad ca b v_12)) hN hK hP hD [0, 1, 2, 3, 4, 5, 6, 7, 8, 9, 10, 11, 12, 13, 14] [0, 1, 2, 3, 4, 5, 6, 7, 8, 9, 10, 11] rfl (by decide) rfl (ci := 2) (q0 := 0) rfl rfl) rfl rfl hl.1 rfl (lv_room (Nat.le_of_ble_eq_true rfl)) d_Rn_open_116 ⟨Nat.zero_le _, Nat.zero_le _⟩) hP hD hS hA [0, 1, 2, 3, 4, 5, 6, 7, 8, 9, 10, 11, 12, 13, 14] [] [0, 1, 2, 3, 4, 5, 6, 7, 8, 9, 10, 11, 12, 13, 14] rfl rfl (by decide) (by decide) (by decide) (fun _ => rfl) (fun v_16 H locs hw_16 hP hD hS => ?_)
          have hP : va_P (dC, dI) vwCl (w_R ad ca b v_16) H := hP
          have hD : va_D A (w_R ad ca b v_16) := hD
          rw [← hw_16] at he
          try dsimp only at he
          refine lv_aload_n hx hb d_Rn_open_119 rfl (lv_at hl 3 rfl) ?_
          refine va_get (D := (dC, dI)) (ci := 2) (v := .int (TRn_fault v_16)) (C := R_Rn) (T := T_Rn) (N := 12) hx hb ht i_Rn hown hK hP 0 rfl rfl 11 (by decide) (ht _ q_141) (fun _ h9 => h9) rfl d_Rn_open_120 ?_
          refine lv_if_ne (tgt := 134) hx hb d_Rn_open_123 (by decide) (fun c_17 => ?_) (fun c_17 => ?_)
          · have he := he.trans (if_neg c_17)
            exact W.vret hx hb hr (fun t ht hW => ⟨⟨v_16, rfl, he.symm, by rw [ht]; exact hP, va_K.moved hW.alike hK, hD⟩, hS.F ht⟩) hS.2.2 d_Rn_open_134
          · have he := he.trans (if_pos c_17)
            refine lv_aload_n hx hb d_Rn_open_126 rfl (lv_at hl 3 rfl) ?_
            refine lv_iload_n hx hb d_Rn_open_127 rfl (lv_at hl 4 rfl) ?_
            refine lv_iload_n hx hb d_Rn_open_128 rfl (lv_at hl 2 rfl) ?_
            refine lv_iload hx hb d_Rn_open_129 (lv_at hl 0 rfl) ?_
            refine wx_cv (wS := fun v : TRn => w_R ad ca b v) (ws2 := fun v : TRn => w_R ad ca b v) (va_runV (As := [.int p0, .int (TRn_opened u), .int r_12]) (rest := []) ⟨hx, hb, hml, hown, ht⟩ (c_Rn_decide l dC dI ad ca H.size b v_16 p0 (TRn_opened u) r_12 hpre.1 _ rfl) (cwV 3 ht (tb_V q_373 q_375 q_16 q_44 q_376) rfl rfl rfl p_Rn_decide ⟨show 4 + 1 ≤ rf + 11 by omega, show 8 + (6 + 11) + 92 ≤ rl + 255 by omega⟩) (wx_preV (wc := (w_R ad ca b v_16)) hN hK hP hD [0, 1, 2, 3, 4, 5, 6, 7, 8, 9, 10, 11, 12, 13, 14] [0, 1, 2, 3, 4, 5, 6, 7, 8, 9, 10, 11] rfl (by decide) rfl (ci := 2) (q0 := 0) rfl rfl) rfl rfl hl.1 rfl (lv_room (Nat.le_of_ble_eq_true rfl)) d_Rn_open_131 ⟨Nat.zero_le _, Nat.zero_le _⟩) hP hD hS hA [0, 1, 2, 3, 4, 5, 6, 7, 8, 9, 10, 11, 12, 13, 14] [] [0, 1, 2, 3, 4, 5, 6, 7, 8, 9, 10, 11, 12, 13, 14] rfl rfl (by decide) (by decide) (by decide) (fun _ => rfl) (fun v_18 H locs hw_18 hP hD hS => ?_)
            have hP : va_P (dC, dI) vwCl (w_R ad ca b v_18) H := hP
            have hD : va_D A (w_R ad ca b v_18) := hD
            rw [← hw_18] at he
            try dsimp only at he
            exact W.vret hx hb hr (fun t ht hW => ⟨⟨v_18, rfl, he.symm, by rw [ht]; exact hP, va_K.moved hW.alike hK, hD⟩, hS.F ht⟩) hS.2.2 d_Rn_open_134
    · have he := he.trans (if_neg c_3)
      refine lv_aload_n hx hb d_Rn_open_16 rfl (lv_at hl 0 rfl) ?_
      refine lv_iconst (v := 5) hx hb d_Rn_open_17 (by decide) ?_
      refine wx_cv (wS := fun v : TRn => w_R ad ca b v) (ws2 := fun v : TRn => w_R ad ca b v) (va_runV (As := [.int 5]) (rest := []) ⟨hx, hb, hml, hown, ht⟩ (c_Rn_fail l dC dI ad ca s.heap.size b u 5 _ rfl) (cwV 1 ht (tb_V q_265 q_267 q_1 q_44 q_268) rfl rfl rfl p_Rn_fail ⟨show 0 + 1 ≤ rf + 11 by omega, show 8 + (2 + 11) + 0 ≤ rl + 255 by omega⟩) (wx_preV (wc := (w_R ad ca b u)) hN hK hP hD [0, 1, 2, 3, 4, 5, 6, 7, 8, 9, 10, 11, 12, 13, 14] [0, 1, 2, 3, 4, 5, 6, 7, 8, 9, 10, 11] rfl (by decide) rfl (ci := 2) (q0 := 0) rfl rfl) rfl rfl hl.1 rfl (lv_room (Nat.le_of_ble_eq_true rfl)) d_Rn_open_18 ⟨Nat.zero_le _, Nat.zero_le _⟩) hP hD hS hA [0, 1, 2, 3, 4, 5, 6, 7, 8, 9, 10, 11, 12, 13, 14] [] [0, 1, 2, 3, 4, 5, 6, 7, 8, 9, 10, 11, 12, 13, 14] rfl rfl (by decide) (by decide) (by decide) (fun _ => rfl) (fun v_19 H locs hw_19 hP hD hS => ?_)
      have hP : va_P (dC, dI) vwCl (w_R ad ca b v_19) H := hP
      have hD : va_D A (w_R ad ca b v_19) := hD
      rw [← hw_19] at he
      try dsimp only at he
      exact W.vret hx hb hr (fun t ht hW => ⟨⟨v_19, rfl, he.symm, by rw [ht]; exact hP, va_K.moved hW.alike hK, hD⟩, hS.F ht⟩) hS.2.2 d_Rn_open_21
noncomputable def f_Rn_open_0 (b : TBk) (u : TRn) (p0 : Int32) : TRn := (if (TRn_openCount u) < 0 then (let v_2 := f_Rn_fail b u 5; v_2) else (let v_4 := f_Rn_fail b u 5; v_4))
set_option maxHeartbeats 4000000 in
set_option maxRecDepth 100000 in
theorem c_Rn_open_0 (l : Launch) (dC : Nat → ClassId) (dI : Nat → Nat → Nat) (ad : Nat → Nat) (ca : Nat → ClassId) (sz : Nat) (b : TBk) (u : TRn) (p0 : Int32) (hpre : ¬ (TRn_openCount u) < 20) (F : TRn) (he : F = f_Rn_open_0 b u p0) : wx_Mv l y_Rn_open ws_Rn_open ({ frames := 1, cells := 0, slots := 0, locals := 21 } : Room) (dC, dI) vwCl (t_R ca) [.ref (ad 0), .int p0] (w_R ad ca b u) sz (fun v : TRn => w_R ad ca b v) (fun v : TRn => v = F) := by
  refine Met.ofW (cc := b_Rn_open) (maxL := 5) (ret := none) (by decide) rfl ?_
  intro p e s m args below meth c s₁ B hml hv
  obtain ⟨rfl, hsz, hP, hK, hD0, hN⟩ := hv
  have hx := B.exec
  have hb := B.bytes
  have hr := B.returns
  have hts := atoms_spec (ws := ws_Rn_open) B.pre
  have ht : ∀ w ∈ TB, w.before _ s = true := fun w h => hts w (List.mem_cons_of_mem _ h)
  have hown : s.vm.findClass R_Rn = some m.cls := findClass_of_methodNamed B.named
  have hlocks := B.notSynchronized
  subst hsz
  have hD := hD0.self (sz := s.heap.size)
  generalize hAe : va_A (w_R ad ca b u) s.heap.size = A at hD ⊢
  have hA : ∀ q : Nat, s.heap.size ≤ q → A q := fun q h => by rw [← hAe]; exact Or.inr h
  have hS : va_S A s.heap s.heap [] := va_S.rf
  have hl := lv_entry ([.ref (ad 0), .int p0]) (n := 5) (Nat.le_of_ble_eq_true rfl)
  rw [lg_entry_eq]
  generalize (lg_sl ([.ref (ad 0), .int p0]) ++ List.replicate (5 - (lg_sl ([.ref (ad 0), .int p0])).length) Slot.unset).toArray = ls at hl ⊢
  have hl : lv_has ls 5 [(0, .ref (ad 0)), (1, .int p0)] := hl
  unfold f_Rn_open_0 at he
  refine lv_aload_n hx hb d_Rn_open_0 rfl (lv_at hl 0 rfl) ?_
  refine va_get (D := (dC, dI)) (ci := 2) (v := .int (TRn_openCount u)) (C := R_Rn) (T := T_Rn) (N := 12) hx hb ht i_Rn hown hK hP 0 rfl rfl 7 (by decide) (ht _ q_137) (fun _ h9 => h9) rfl d_Rn_open_1 ?_
  refine lv_if_lt (tgt := 16) hx hb d_Rn_open_4 (by decide) (fun c_1 => ?_) (fun c_1 => ?_)
  · have he := he.trans (if_pos c_1)
    refine lv_aload_n hx hb d_Rn_open_16 rfl (lv_at hl 0 rfl) ?_
    refine lv_iconst (v := 5) hx hb d_Rn_open_17 (by decide) ?_
    refine wx_cv (wS := fun v : TRn => w_R ad ca b v) (ws2 := fun v : TRn => w_R ad ca b v) (va_runV (As := [.int 5]) (rest := []) ⟨hx, hb, hml, hown, ht⟩ (c_Rn_fail l dC dI ad ca s.heap.size b u 5 _ rfl) (cwV 1 ht (tb_V q_265 q_267 q_1 q_44 q_268) rfl rfl rfl p_Rn_fail ⟨show 0 + 1 ≤ 1 by omega, show 8 + (2 + 11) + 0 ≤ 21 by omega⟩) (wx_preV (wc := (w_R ad ca b u)) hN hK hP hD [0, 1, 2, 3, 4, 5, 6, 7, 8, 9, 10, 11, 12, 13, 14] [0, 1, 2, 3, 4, 5, 6, 7, 8, 9, 10, 11] rfl (by decide) rfl (ci := 2) (q0 := 0) rfl rfl) rfl rfl hl.1 rfl (lv_room (Nat.le_of_ble_eq_true rfl)) d_Rn_open_18 ⟨Nat.zero_le _, Nat.zero_le _⟩) hP hD hS hA [0, 1, 2, 3, 4, 5, 6, 7, 8, 9, 10, 11, 12, 13, 14] [] [0, 1, 2, 3, 4, 5, 6, 7, 8, 9, 10, 11, 12, 13, 14] rfl rfl (by decide) (by decide) (by decide) (fun _ => rfl) (fun v_2 H locs hw_2 hP hD hS => ?_)
    have hP : va_P (dC, dI) vwCl (w_R ad ca b v_2) H := hP
    have hD : va_D A (w_R ad ca b v_2) := hD
    rw [← hw_2] at he
    try dsimp only at he
    exact W.vret hx hb hr (fun t ht hW => ⟨⟨v_2, rfl, he.symm, by rw [ht]; exact hP, va_K.moved hW.alike hK, hD⟩, hS.F ht⟩) hS.2.2 d_Rn_open_21
  · have he := he.trans (if_neg c_1)
    refine lv_aload_n hx hb d_Rn_open_7 rfl (lv_at hl 0 rfl) ?_
    refine va_get (D := (dC, dI)) (ci := 2) (v := .int (TRn_openCount u)) (C := R_Rn) (T := T_Rn) (N := 12) hx hb ht i_Rn hown hK hP 0 rfl rfl 7 (by decide) (ht _ q_137) (fun _ h9 => h9) rfl d_Rn_open_8 ?_
    refine lv_bipush (v := 20) hx hb d_Rn_open_11 (by decide) ?_
    refine lv_icmp_lt (tgt := 22) hx hb d_Rn_open_13 (by decide) (fun c_3 => ?_) (fun c_3 => ?_)
    · exact absurd c_3 hpre
    · refine lv_aload_n hx hb d_Rn_open_16 rfl (lv_at hl 0 rfl) ?_
      refine lv_iconst (v := 5) hx hb d_Rn_open_17 (by decide) ?_
      refine wx_cv (wS := fun v : TRn => w_R ad ca b v) (ws2 := fun v : TRn => w_R ad ca b v) (va_runV (As := [.int 5]) (rest := []) ⟨hx, hb, hml, hown, ht⟩ (c_Rn_fail l dC dI ad ca s.heap.size b u 5 _ rfl) (cwV 1 ht (tb_V q_265 q_267 q_1 q_44 q_268) rfl rfl rfl p_Rn_fail ⟨show 0 + 1 ≤ 1 by omega, show 8 + (2 + 11) + 0 ≤ 21 by omega⟩) (wx_preV (wc := (w_R ad ca b u)) hN hK hP hD [0, 1, 2, 3, 4, 5, 6, 7, 8, 9, 10, 11, 12, 13, 14] [0, 1, 2, 3, 4, 5, 6, 7, 8, 9, 10, 11] rfl (by decide) rfl (ci := 2) (q0 := 0) rfl rfl) rfl rfl hl.1 rfl (lv_room (Nat.le_of_ble_eq_true rfl)) d_Rn_open_18 ⟨Nat.zero_le _, Nat.zero_le _⟩) hP hD hS hA [0, 1, 2, 3, 4, 5, 6, 7, 8, 9, 10, 11, 12, 13, 14] [] [0, 1, 2, 3, 4, 5, 6, 7, 8, 9, 10, 11, 12, 13, 14] rfl rfl (by decide) (by decide) (by decide) (fun _ => rfl) (fun v_4 H locs hw_4 hP hD hS => ?_)
      have hP : va_P (dC, dI) vwCl (w_R ad ca b v_4) H := hP
      have hD : va_D A (w_R ad ca b v_4) := hD
      rw [← hw_4] at he
      try dsimp only at he
      exact W.vret hx hb hr (fun t ht hW => ⟨⟨v_4, rfl, he.symm, by rw [ht]; exact hP, va_K.moved hW.alike hK, hD⟩, hS.F ht⟩) hS.2.2 d_Rn_open_21
