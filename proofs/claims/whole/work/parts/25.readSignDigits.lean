theorem q_7 : Cond.selects R_Rn y_Rn_readGoneOnWith y_Rn_readGoneOnWith ∈ TB := tq 7 (by decide +kernel) rfl
theorem q_305 : Cond.methodLink R_Rn 180 y_Rn_readGoneOnWith ∈ TB := tq 305 (by decide +kernel) rfl
theorem q_307 : Cond.instanceMethod y_Rn_readGoneOnWith ∈ TB := tq 307 (by decide +kernel) rfl
theorem q_308 : Cond.code y_Rn_readGoneOnWith b_Rn_readGoneOnWith 4 (some .int) ∈ TB := tq 308 (by decide +kernel) rfl
theorem q_349 : Cond.static y_Ct_isDigit ∈ TB := tq 349 (by decide +kernel) rfl
theorem q_350 : Cond.code y_Ct_isDigit b_Ct_isDigit 1 (some .boolean) ∈ TB := tq 350 (by decide +kernel) rfl
theorem q_356 : Cond.static y_Ct_isBlank ∈ TB := tq 356 (by decide +kernel) rfl
theorem q_357 : Cond.code y_Ct_isBlank b_Ct_isBlank 1 (some .boolean) ∈ TB := tq 357 (by decide +kernel) rfl
theorem q_358 : Cond.methodLink R_Rn 192 y_Rd_keep ∈ TB := tq 358 (by decide +kernel) rfl
theorem q_359 : Cond.instanceMethod y_Rd_keep ∈ TB := tq 359 (by decide +kernel) rfl
theorem q_360 : Cond.selects R_Rd y_Rd_keep y_Rd_keep ∈ TB := tq 360 (by decide +kernel) rfl
theorem q_361 : Cond.code y_Rd_keep b_Rd_keep 2 (none : Option Jvm.ClassFile.FieldType) ∈ TB := tq 361 (by decide +kernel) rfl
theorem d_Rn_readSign_0 : decode b_Rn_readSign 0 = .ok (.aload_n 0, 1) := by decide +kernel
theorem d_Rn_readSign_1 : decode b_Rn_readSign 1 = .ok (.iload_n 1, 1) := by decide +kernel
theorem d_Rn_readSign_2 : decode b_Rn_readSign 2 = .ok (.invokevirtual 180, 3) := by decide +kernel
theorem d_Rn_readSign_5 : decode b_Rn_readSign 5 = .ok (.istore_n 2, 1) := by decide +kernel
theorem d_Rn_readSign_6 : decode b_Rn_readSign 6 = .ok (.aload_n 0, 1) := by decide +kernel
theorem d_Rn_readSign_7 : decode b_Rn_readSign 7 = .ok (.getfield 45, 3) := by decide +kernel
theorem d_Rn_readSign_10 : decode b_Rn_readSign 10 = .ok (.ifCond .ne 23, 3) := by decide +kernel
theorem d_Rn_readSign_13 : decode b_Rn_readSign 13 = .ok (.aload_n 0, 1) := by decide +kernel
theorem d_Rn_readSign_14 : decode b_Rn_readSign 14 = .ok (.getfield 25, 3) := by decide +kernel
theorem d_Rn_readSign_17 : decode b_Rn_readSign 17 = .ok (.iload_n 2, 1) := by decide +kernel
theorem d_Rn_readSign_18 : decode b_Rn_readSign 18 = .ok (.invokevirtual 88, 3) := by decide +kernel
theorem d_Rn_readSign_21 : decode b_Rn_readSign 21 = .ok (.invokestatic 94, 3) := by decide +kernel
theorem d_Rn_readSign_24 : decode b_Rn_readSign 24 = .ok (.ifCond .eq 9, 3) := by decide +kernel
theorem d_Rn_readSign_27 : decode b_Rn_readSign 27 = .ok (.aload_n 0, 1) := by decide +kernel
theorem d_Rn_readSign_28 : decode b_Rn_readSign 28 = .ok (.bipush 6, 2) := by decide +kernel
theorem d_Rn_readSign_30 : decode b_Rn_readSign 30 = .ok (.invokevirtual 53, 3) := by decide +kernel
theorem d_Rn_readSign_33 : decode b_Rn_readSign 33 = .ok (.iload_n 2, 1) := by decide +kernel
theorem d_Rn_readSign_34 : decode b_Rn_readSign 34 = .ok (.ireturn, 1) := by decide +kernel
theorem d_Rn_readDigits_0 : decode b_Rn_readDigits 0 = .ok (.iconst 0, 1) := by decide +kernel
theorem d_Rn_readDigits_1 : decode b_Rn_readDigits 1 = .ok (.istore_n 3, 1) := by decide +kernel
theorem d_Rn_readDigits_2 : decode b_Rn_readDigits 2 = .ok (.iload_n 1, 1) := by decide +kernel
theorem d_Rn_readDigits_3 : decode b_Rn_readDigits 3 = .ok (.istore 4, 2) := by decide +kernel
theorem d_Rn_readDigits_5 : decode b_Rn_readDigits 5 = .ok (.iconst 0, 1) := by decide +kernel
theorem d_Rn_readDigits_6 : decode b_Rn_readDigits 6 = .ok (.istore 5, 2) := by decide +kernel
theorem d_Rn_readDigits_8 : decode b_Rn_readDigits 8 = .ok (.iload 5, 2) := by decide +kernel
theorem d_Rn_readDigits_10 : decode b_Rn_readDigits 10 = .ok (.bipush 9, 2) := by decide +kernel
theorem d_Rn_readDigits_12 : decode b_Rn_readDigits 12 = .ok (.if_icmp .ge 64, 3) := by decide +kernel
theorem d_Rn_readDigits_15 : decode b_Rn_readDigits 15 = .ok (.iload_n 3, 1) := by decide +kernel
theorem d_Rn_readDigits_16 : decode b_Rn_readDigits 16 = .ok (.bipush 10, 2) := by decide +kernel
theorem d_Rn_readDigits_18 : decode b_Rn_readDigits 18 = .ok (.imul, 1) := by decide +kernel
theorem d_Rn_readDigits_19 : decode b_Rn_readDigits 19 = .ok (.iload 4, 2) := by decide +kernel
theorem d_Rn_readDigits_21 : decode b_Rn_readDigits 21 = .ok (.sipush 3120, 3) := by decide +kernel
theorem d_Rn_readDigits_24 : decode b_Rn_readDigits 24 = .ok (.isub, 1) := by decide +kernel
theorem d_Rn_readDigits_25 : decode b_Rn_readDigits 25 = .ok (.iadd, 1) := by decide +kernel
theorem d_Rn_readDigits_26 : decode b_Rn_readDigits 26 = .ok (.istore_n 3, 1) := by decide +kernel
theorem d_Rn_readDigits_27 : decode b_Rn_readDigits 27 = .ok (.aload_n 0, 1) := by decide +kernel
theorem d_Rn_readDigits_28 : decode b_Rn_readDigits 28 = .ok (.iload_n 2, 1) := by decide +kernel
theorem d_Rn_readDigits_29 : decode b_Rn_readDigits 29 = .ok (.invokevirtual 180, 3) := by decide +kernel
theorem d_Rn_readDigits_32 : decode b_Rn_readDigits 32 = .ok (.istore 4, 2) := by decide +kernel
theorem d_Rn_readDigits_34 : decode b_Rn_readDigits 34 = .ok (.aload_n 0, 1) := by decide +kernel
theorem d_Rn_readDigits_35 : decode b_Rn_readDigits 35 = .ok (.getfield 45, 3) := by decide +kernel
theorem d_Rn_readDigits_38 : decode b_Rn_readDigits 38 = .ok (.ifCond .eq 5, 3) := by decide +kernel
theorem d_Rn_readDigits_41 : decode b_Rn_readDigits 41 = .ok (.iconst 0, 1) := by decide +kernel
theorem d_Rn_readDigits_42 : decode b_Rn_readDigits 42 = .ok (.ireturn, 1) := by decide +kernel
theorem d_Rn_readDigits_43 : decode b_Rn_readDigits 43 = .ok (.iload 4, 2) := by decide +kernel
theorem d_Rn_readDigits_45 : decode b_Rn_readDigits 45 = .ok (.invokestatic 183, 3) := by decide +kernel
theorem d_Rn_readDigits_48 : decode b_Rn_readDigits 48 = .ok (.ifCond .ne 22, 3) := by decide +kernel
theorem d_Rn_readDigits_51 : decode b_Rn_readDigits 51 = .ok (.iload 4, 2) := by decide +kernel
theorem d_Rn_readDigits_53 : decode b_Rn_readDigits 53 = .ok (.invokestatic 189, 3) := by decide +kernel
theorem d_Rn_readDigits_56 : decode b_Rn_readDigits 56 = .ok (.ifCond .ne 12, 3) := by decide +kernel
theorem d_Rn_readDigits_59 : decode b_Rn_readDigits 59 = .ok (.aload_n 0, 1) := by decide +kernel
theorem d_Rn_readDigits_60 : decode b_Rn_readDigits 60 = .ok (.getfield 34, 3) := by decide +kernel
theorem d_Rn_readDigits_63 : decode b_Rn_readDigits 63 = .ok (.iload 4, 2) := by decide +kernel
theorem d_Rn_readDigits_65 : decode b_Rn_readDigits 65 = .ok (.invokevirtual 192, 3) := by decide +kernel
theorem d_Rn_readDigits_68 : decode b_Rn_readDigits 68 = .ok (.iload_n 3, 1) := by decide +kernel
theorem d_Rn_readDigits_69 : decode b_Rn_readDigits 69 = .ok (.ireturn, 1) := by decide +kernel
theorem d_Rn_readDigits_70 : decode b_Rn_readDigits 70 = .ok (.iinc 5 1, 3) := by decide +kernel
theorem d_Rn_readDigits_73 : decode b_Rn_readDigits 73 = .ok (.goto (-65), 3) := by decide +kernel
theorem d_Rn_readDigits_76 : decode b_Rn_readDigits 76 = .ok (.aload_n 0, 1) := by decide +kernel
theorem d_Rn_readDigits_77 : decode b_Rn_readDigits 77 = .ok (.bipush 8, 2) := by decide +kernel
theorem d_Rn_readDigits_79 : decode b_Rn_readDigits 79 = .ok (.invokevirtual 53, 3) := by decide +kernel
theorem d_Rn_readDigits_82 : decode b_Rn_readDigits 82 = .ok (.iconst 0, 1) := by decide +kernel
theorem d_Rn_readDigits_83 : decode b_Rn_readDigits 83 = .ok (.ireturn, 1) := by decide +kernel
noncomputable def f_Rn_readSign (op : TBk → TRn → Int32 → TRn) (b : TBk) (u : TRn) (p0 : Int32) : (Int32 × TRn) := (match f_Rn_readGoneOnWith op b u p0 with | (r_1, v_1) => (if (TRn_fault v_1) = 0 then (if (f_Ct_isMark (f_Bk_kindOf b r_1)) = 0 then (r_1, v_1) else (let v_6 := f_Rn_fail b v_1 6; (r_1, v_6))) else (r_1, v_1)))
set_option maxHeartbeats 4000000 in
set_option maxRecDepth 100000 in
theorem c_Rn_readSign (l : Launch) (dC : Nat → ClassId) (dI : Nat → Nat → Nat) (ad : Nat → Nat) (ca : Nat → ClassId) (op : TBk → TRn → Int32 → TRn) (rf rl : Nat) (k : Int) (hopm : ∀ (b : TBk) (u : TRn) (w : Int32), k ≤ oc u → oc u ≤ oc (op b u w)) (hop : ∀ (sz : Nat) (b : TBk) (u : TRn) (w : Int32), BkS b ∧ k ≤ oc u → wx_Mv l y_Rn_open ws_Rn_open ({ frames := rf, cells := 0, slots := 0, locals := rl } : Room) (dC, dI) vwCl (t_R ca) [.ref (ad 0), .int w] (w_R ad ca b u) sz (fun v : TRn => w_R ad ca b v) (fun v : TRn => v = op b u w)) (sz : Nat) (b : TBk) (u : TRn) (p0 : Int32) (hpre : BkS b ∧ k ≤ p0.toInt ∧ p0.toInt ≤ oc u) (F : (Int32 × TRn)) (he : F = f_Rn_readSign op b u p0) : wx_Mi l y_Rn_readSign ws_Rn_readSign ({ frames := rf + 7, cells := 0, slots := 0, locals := rl + 159 } : Room) (dC, dI) vwCl (t_R ca) [.ref (ad 0), .int p0] (w_R ad ca b u) sz (fun v : TRn => w_R ad ca b v) (fun (r : Int32) (v : TRn) => (r, v) = F) := by
  refine Met.ofW (cc := b_Rn_readSign) (maxL := 3) (ret := some .int) (by decide) rfl ?_
  intro p e s m args below meth c s₁ B hml hv
  obtain ⟨rfl, hsz, hP, hK, hD0, hN⟩ := hv
  have hx := B.exec
  have hb := B.bytes
  have hr := B.returns
  have hts := atoms_spec (ws := ws_Rn_readSign) B.pre
  have ht : ∀ w ∈ TB, w.before _ s = true := fun w h => hts w (List.mem_cons_of_mem _ h)
  have hown : s.vm.findClass R_Rn = some m.cls := findClass_of_methodNamed B.named
  have hlocks := B.notSynchronized
  subst hsz
  have hD := hD0.self (sz := s.heap.size)
  generalize hAe : va_A (w_R ad ca b u) s.heap.size = A at hD ⊢
  have hA : ∀ q : Nat, s.heap.size ≤ q → A q := fun q h => by rw [← hAe]; exact Or.inr h
  have hS : va_S A s.heap s.heap [] := va_S.rf
  have hl := lv_entry ([.ref (ad 0), .int p0]) (n := 3) (Nat.le_of_ble_eq_true rfl)
  rw [lg_entry_eq]
  generalize (lg_sl ([.ref (ad 0), .int p0]) ++ List.replicate (3 - (lg_sl ([.ref (ad 0), .int p0])).length) Slot.unset).toArray = ls at hl ⊢
  have hl : lv_has ls 3 [(0, .ref (ad 0)), (1, .int p0)] := hl
  unfold f_Rn_readSign at he
  refine lv_aload_n hx hb d_Rn_readSign_0 rfl (lv_at hl 0 rfl) ?_
  refine lv_iload_n hx hb d_Rn_readSign_1 rfl (lv_at hl 1 rfl) ?_
  refine wx_ci (wS := fun v : TRn => w_R ad ca b v) (ws2 := fun v : TRn => w_R ad ca b v) (va_runV (As := [.int p0]) (rest := []) ⟨hx, hb, hml, hown, ht⟩ (c_Rn_readGoneOnWith l dC dI ad ca op rf rl k hopm hop s.heap.size b u p0 hpre _ rfl) (cwV 1 ht (tb_V q_305 q_307 q_7 q_44 q_308) rfl rfl rfl p_Rn_readGoneOnWith ⟨show (rf + 6) + 1 ≤ rf + 7 by omega, show 8 + (4 + 11) + (rl + 136) ≤ rl + 159 by omega⟩) (wx_preV (wc := (w_R ad ca b u)) hN hK hP hD [0, 1, 2, 3, 4, 5, 6, 7, 8, 9, 10, 11, 12, 13, 14] [0, 1, 2, 3, 4, 5, 6, 7, 8, 9, 10, 11] rfl (by decide) rfl (ci := 2) (q0 := 0) rfl rfl) rfl rfl hl.1 rfl (lv_room (Nat.le_of_ble_eq_true rfl)) d_Rn_readSign_2 ⟨Nat.zero_le _, Nat.zero_le _⟩) hP hD hS hA [0, 1, 2, 3, 4, 5, 6, 7, 8, 9, 10, 11, 12, 13, 14] [] [0, 1, 2, 3, 4, 5, 6, 7, 8, 9, 10, 11, 12, 13, 14] rfl rfl (by decide) (by decide) (by decide) (fun _ => rfl) (fun r_1 v_1 H locs hw_1 hP hD hS => ?_)
  have hP : va_P (dC, dI) vwCl (w_R ad ca b v_1) H := hP
  have hD : va_D A (w_R ad ca b v_1) := hD
  rw [← hw_1] at he
  try dsimp only at he
  refine lv_istore_n (lv' := [(2, .int r_1), (0, .ref (ad 0)), (1, .int p0)]) hx hb d_Rn_readSign_5 rfl hl (by decide) rfl (fun ls hl => ?_)
  refine lv_aload_n hx hb d_Rn_readSign_6 rfl (lv_at hl 1 rfl) ?_
  refine va_get (D := (dC, dI)) (ci := 2) (v := .int (TRn_fault v_1)) (C := R_Rn) (T := T_Rn) (N := 12) hx hb ht i_Rn hown hK hP 0 rfl rfl 11 (by decide) (ht _ q_141) (fun _ h9 => h9) rfl d_Rn_readSign_7 ?_
  refine lv_if_ne (tgt := 33) hx hb d_Rn_readSign_10 (by decide) (fun c_2 => ?_) (fun c_2 => ?_)
  · have he := he.trans (if_neg c_2)
    refine lv_iload_n hx hb d_Rn_readSign_33 rfl (lv_at hl 0 rfl) ?_
    exact W.iret hx hb hr (v := r_1) (fun t ht hW => ⟨⟨r_1, v_1, rfl, he.symm, by rw [ht]; exact hP, va_K.moved hW.alike hK, hD⟩, hS.F ht⟩) hS.2.2 d_Rn_readSign_34
  · have he := he.trans (if_pos c_2)
    refine lv_aload_n hx hb d_Rn_readSign_13 rfl (lv_at hl 1 rfl) ?_
    refine va_get (D := (dC, dI)) (ci := 2) (v := .ref (ad 8)) (C := R_Rn) (T := T_Rn) (N := 12) hx hb ht i_Rn hown hK hP 0 rfl rfl 0 (by decide) (ht _ q_130) (fun _ h9 => h9) rfl d_Rn_readSign_14 ?_
    refine lv_iload_n hx hb d_Rn_readSign_17 rfl (lv_at hl 0 rfl) ?_
    refine wx_ci (wS := fun _ : Unit => w_B ad ca b) (ws2 := fun _ : Unit => w_R ad ca b v_1) (va_runV (As := [.int r_1]) (rest := []) ⟨hx, hb, hml, hown, ht⟩ (c_Bk_kindOf l dC dI ad ca H.size b r_1 _ rfl) (cwV 1 ht (tb_V q_273 q_274 q_275 q_43 q_276) rfl rfl rfl p_Bk_kindOf ⟨show 1 + 1 ≤ rf + 7 by omega, show 8 + (2 + 11) + 20 ≤ rl + 159 by omega⟩) (wx_preV (wc := (w_B ad ca b)) hN hK hP hD [8, 9, 10, 11, 12, 13, 14] [6, 7, 8, 9, 10, 11] rfl (by decide) rfl (ci := 0) (q0 := 0) rfl rfl) rfl rfl hl.1 rfl (lv_room (Nat.le_of_ble_eq_true rfl)) d_Rn_readSign_18 ⟨Nat.zero_le _, Nat.zero_le _⟩) hP hD hS hA [8, 9, 10, 11, 12, 13, 14] [0, 1, 2, 3, 4, 5, 6, 7] [0, 1, 2, 3, 4, 5, 6, 7, 8, 9, 10, 11, 12, 13, 14] rfl rfl (by decide) (by decide) (by decide) (fun _ => rfl) (fun r_3 _ H locs hw_3 hP hD hS => ?_)
    subst hw_3
    have hP : va_P (dC, dI) vwCl (w_R ad ca b v_1) H := hP
    have hD : va_D A (w_R ad ca b v_1) := hD
    refine wx_ci (wS := fun _ : Unit => w_E ad ca) (ws2 := fun _ : Unit => w_R ad ca b v_1) (va_runSN (As := [.int (f_Bk_kindOf b r_1)]) (rest := []) ⟨hx, hb, hml, hown, ht⟩ (c_Ct_isMark l dC dI ad ca H.size (f_Bk_kindOf b r_1) _ rfl) ⟨va_cnB 1 ht (tb_in q_315) rfl rfl rfl (hN _ nest_2) (ht _ q_42) p_Ct_isMark.2 ⟨show 0 + 1 ≤ rf + 7 by omega, show 8 + (1 + 11) + 0 ≤ rl + 159 by omega⟩, ht _ q_314, trivial⟩ (wx_preS (wc := (w_E ad ca)) hN hK hP hD [] [] rfl (by decide) rfl) rfl rfl hl.1 rfl (lv_room (Nat.le_of_ble_eq_true rfl)) d_Rn_readSign_21 ⟨Nat.zero_le _, Nat.zero_le _⟩) hP hD hS hA [] [0, 1, 2, 3, 4, 5, 6, 7, 8, 9, 10, 11, 12, 13, 14] [0, 1, 2, 3, 4, 5, 6, 7, 8, 9, 10, 11, 12, 13, 14] rfl rfl (by decide) (by decide) (by decide) (fun _ => rfl) (fun r_4 _ H locs hw_4 hP hD hS => ?_)
    subst hw_4
    have hP : va_P (dC, dI) vwCl (w_R ad ca b v_1) H := hP
    have hD : va_D A (w_R ad ca b v_1) := hD
    refine lv_if_eq (tgt := 33) hx hb d_Rn_readSign_24 (by decide) (fun c_5 => ?_) (fun c_5 => ?_)
    · have he := he.trans (if_pos c_5)
      refine lv_iload_n hx hb d_Rn_readSign_33 rfl (lv_at hl 0 rfl) ?_
      exact W.iret hx hb hr (v := r_1) (fun t ht hW => ⟨⟨r_1, v_1, rfl, he.symm, by rw [ht]; exact hP, va_K.moved hW.alike hK, hD⟩, hS.F ht⟩) hS.2.2 d_Rn_readSign_34
    · have he := he.trans (if_neg c_5)
      refine lv_aload_n hx hb d_Rn_readSign_27 rfl (lv_at hl 1 rfl) ?_
      refine lv_bipush (v := 6) hx hb d_Rn_readSign_28 (by decide) ?_
      refine wx_cv (wS := fun v : TRn => w_R ad ca b v) (ws2 := fun v : TRn => w_R ad ca b v) (va_runV (As := [.int 6]) (rest := []) ⟨hx, hb, hml, hown, ht⟩ (c_Rn_fail l dC dI ad ca H.size b v_1 6 _ rfl) (cwV 1 ht (tb_V q_265 q_267 q_1 q_44 q_268) rfl rfl rfl p_Rn_fail ⟨show 0 + 1 ≤ rf + 7 by omega, show 8 + (2 + 11) + 0 ≤ rl + 159 by omega⟩) (wx_preV (wc := (w_R ad ca b v_1)) hN hK hP hD [0, 1, 2, 3, 4, 5, 6, 7, 8, 9, 10, 11, 12, 13, 14] [0, 1, 2, 3, 4, 5, 6, 7, 8, 9, 10, 11] rfl (by decide) rfl (ci := 2) (q0 := 0) rfl rfl) rfl rfl hl.1 rfl (lv_room (Nat.le_of_ble_eq_true rfl)) d_Rn_readSign_30 ⟨Nat.zero_le _, Nat.zero_le _⟩) hP hD hS hA [0, 1, 2, 3, 4, 5, 6, 7, 8, 9, 10, 11, 12, 13, 14] [] [0, 1, 2, 3, 4, 5, 6, 7, 8, 9, 10, 11, 12, 13, 14] rfl rfl (by decide) (by decide) (by decide) (fun _ => rfl) (fun v_6 H locs hw_6 hP hD hS => ?_)
      have hP : va_P (dC, dI) vwCl (w_R ad ca b v_6) H := hP
      have hD : va_D A (w_R ad ca b v_6) := hD
      rw [← hw_6] at he
      try dsimp only at he
      refine lv_iload_n hx hb d_Rn_readSign_33 rfl (lv_at hl 0 rfl) ?_
      exact W.iret hx hb hr (v := r_1) (fun t ht hW => ⟨⟨r_1, v_6, rfl, he.symm, by rw [ht]; exact hP, va_K.moved hW.alike hK, hD⟩, hS.F ht⟩) hS.2.2 d_Rn_readSign_34
noncomputable def f_Rn_readDigits_8 (op : TBk → TRn → Int32 → TRn) : Nat → TBk → TRn → Int32 → Int32 → Int32 → Int32 → (Int32 × TRn)
  | 0, _, u, _, _, _, _ => (0, u)
  | n + 1, b, u, x2, x3, x4, x5 => (if 9 ≤ x5 then (let v_2 := f_Rn_fail b u 8; (0, v_2)) else (match f_Rn_readGoneOnWith op b u x2 with | (r_3, v_3) => (if (TRn_fault v_3) = 0 then (if (f_Ct_isDigit r_3) = 0 then (if (f_Ct_isBlank r_3) = 0 then (let v_9 := f_Rd_keep b (TRn_rd v_3) r_3; (((x3 * 10) + (x4 - 3120)), (TRn_set_rd v_3 v_9))) else (((x3 * 10) + (x4 - 3120)), v_3)) else (f_Rn_readDigits_8 op n b v_3 x2 ((x3 * 10) + (x4 - 3120)) r_3 (x5 + 1))) else (0, v_3))))
set_option maxHeartbeats 4000000 in
set_option maxRecDepth 100000 in
theorem k_Rn_readDigits_8 {p : Program} {e : Env} {s : State} {m : MethodId} {args : Array Value} {below : List Frame} {meth : Method} {c : Code} {A : Nat → Prop} (l : Launch) (dC : Nat → ClassId) (dI : Nat → Nat → Nat) (ad : Nat → Nat) (ca : Nat → ClassId) (op : TBk → TRn → Int32 → TRn) (rf rl : Nat) (k : Int) (hopm : ∀ (b : TBk) (u : TRn) (w : Int32), k ≤ oc u → oc u ≤ oc (op b u w)) (hop : ∀ (sz : Nat) (b : TBk) (u : TRn) (w : Int32), BkS b ∧ k ≤ oc u → wx_Mv l y_Rn_open ws_Rn_open ({ frames := rf, cells := 0, slots := 0, locals := rl } : Room) (dC, dI) vwCl (t_R ca) [.ref (ad 0), .int w] (w_R ad ca b u) sz (fun v : TRn => w_R ad ca b v) (fun v : TRn => v = op b u w)) (C0 : wx_C p s m args meth c b_Rn_readDigits (some .int) 6 R_Rn A (dC, dI) vwCl (t_R ca)) (F : (Int32 × TRn)) : ∀ (n : Nat) (b : TBk) (u : TRn) (x2 : Int32) (x3 : Int32) (x4 : Int32) (x5 : Int32), ((BkS b ∧ k ≤ x2.toInt ∧ x2.toInt ≤ oc u) ∧ TLn 9 x5 n) → F = f_Rn_readDigits_8 op n b u x2 x3 x4 x5 → ∀ (H : Heap) (locs : List Loc), va_P (dC, dI) vwCl (w_R ad ca b u) H → va_D A (w_R ad ca b u) → va_S A s.heap H locs → ∀ (ls : Array Slot), lv_has ls 6 [(0, .ref (ad 0)), (2, .int x2), (3, .int x3), (4, .int x4), (5, .int x5)] → W p l e ({ frames := rf + 7, cells := 0, slots := 0, locals := rl + 159 } : Room) s m args below meth c H locs 0 0 (MQ below (va_Qi (fun (r : Int32) (v : TRn) => (r, v) = F) (wx_B (dC, dI) vwCl (t_R ca) (fun v : TRn => w_R ad ca b v) A) A) args s 0 0 A) (F0 m 8 ls []) := by
  have C1 := C0
  obtain ⟨hx, hb, hr, hml, hown, ht, hlocks, hA, hK, hN⟩ := C1
  intro n
  induction n with
  | zero =>
    intro b u x2 x3 x4 x5 hc he
    exact absurd hc (fun h => TLn_0 h.2)
  | succ n ih =>
    intro b u x2 x3 x4 x5 hc he H locs hP hD hS ls hl
    rw [f_Rn_readDigits_8] at he
    refine lv_iload hx hb d_Rn_readDigits_8 (lv_at hl 4 rfl) ?_
    refine lv_bipush (v := 9) hx hb d_Rn_readDigits_10 (by decide) ?_
    refine lv_icmp_ge (tgt := 76) hx hb d_Rn_readDigits_12 (by decide) (fun c_1 => ?_) (fun c_1 => ?_)
    · have he := he.trans (if_pos c_1)
      refine lv_aload_n hx hb d_Rn_readDigits_76 rfl (lv_at hl 0 rfl) ?_
      refine lv_bipush (v := 8) hx hb d_Rn_readDigits_77 (by decide) ?_
      refine wx_cv (wS := fun v : TRn => w_R ad ca b v) (ws2 := fun v : TRn => w_R ad ca b v) (va_runV (As := [.int 8]) (rest := []) ⟨hx, hb, hml, hown, ht⟩ (c_Rn_fail l dC dI ad ca H.size b u 8 _ rfl) (cwV 1 ht (tb_V q_265 q_267 q_1 q_44 q_268) rfl rfl rfl p_Rn_fail ⟨show 0 + 1 ≤ rf + 7 by omega, show 8 + (2 + 11) + 0 ≤ rl + 159 by omega⟩) (wx_preV (wc := (w_R ad ca b u)) hN hK hP hD [0, 1, 2, 3, 4, 5, 6, 7, 8, 9, 10, 11, 12, 13, 14] [0, 1, 2, 3, 4, 5, 6, 7, 8, 9, 10, 11] rfl (by decide) rfl (ci := 2) (q0 := 0) rfl rfl) rfl rfl hl.1 rfl (lv_room (Nat.le_of_ble_eq_true rfl)) d_Rn_readDigits_79 ⟨Nat.zero_le _, Nat.zero_le _⟩) hP hD hS hA [0, 1, 2, 3, 4, 5, 6, 7, 8, 9, 10, 11, 12, 13, 14] [] [0, 1, 2, 3, 4, 5, 6, 7, 8, 9, 10, 11, 12, 13, 14] rfl rfl (by decide) (by decide) (by decide) (fun _ => rfl) (fun v_2 H locs hw_2 hP hD hS => ?_)
      have hP : va_P (dC, dI) vwCl (w_R ad ca b v_2) H := hP
      have hD : va_D A (w_R ad ca b v_2) := hD
      rw [← hw_2] at he
      try dsimp only at he
      refine lv_iconst (v := 0) hx hb d_Rn_readDigits_82 (by decide) ?_
      exact W.iret hx hb hr (v := 0) (fun t ht hW => ⟨⟨0, v_2, rfl, he.symm, by rw [ht]; exact hP, va_K.moved hW.alike hK, hD⟩, hS.F ht⟩) hS.2.2 d_Rn_readDigits_83
    · have he := he.trans (if_neg c_1)
      refine lv_iload_n hx hb d_Rn_readDigits_15 rfl (lv_at hl 2 rfl) ?_
      refine lv_bipush (v := 10) hx hb d_Rn_readDigits_16 (by decide) ?_
      refine lv_imul hx hb d_Rn_readDigits_18 ?_
      refine lv_iload hx hb d_Rn_readDigits_19 (lv_at hl 3 rfl) ?_
      refine lv_sipush (v := 3120) hx hb d_Rn_readDigits_21 (by decide) ?_
      refine lv_isub hx hb d_Rn_readDigits_24 ?_
      refine lv_iadd hx hb d_Rn_readDigits_25 ?_
      refine lv_istore_n (lv' := [(3, .int ((x3 * 10) + (x4 - 3120))), (0, .ref (ad 0)), (2, .int x2), (4, .int x4), (5, .int x5)]) hx hb d_Rn_readDigits_26 rfl hl (by decide) rfl (fun ls hl => ?_)
      refine lv_aload_n hx hb d_Rn_readDigits_27 rfl (lv_at hl 1 rfl) ?_
      refine lv_iload_n hx hb d_Rn_readDigits_28 rfl (lv_at hl 2 rfl) ?_
      refine wx_ci (wS := fun v : TRn => w_R ad ca b v) (ws2 := fun v : TRn => w_R ad ca b v) (va_runV (As := [.int x2]) (rest := []) ⟨hx, hb, hml, hown, ht⟩ (c_Rn_readGoneOnWith l dC dI ad ca op rf rl k hopm hop H.size b u x2 hc.1 _ rfl) (cwV 1 ht (tb_V q_305 q_307 q_7 q_44 q_308) rfl rfl rfl p_Rn_readGoneOnWith ⟨show (rf + 6) + 1 ≤ rf + 7 by omega, show 8 + (4 + 11) + (rl + 136) ≤ rl + 159 by omega⟩) (wx_preV (wc := (w_R ad ca b u)) hN hK hP hD [0, 1, 2, 3, 4, 5, 6, 7, 8, 9, 10, 11, 12, 13, 14] [0, 1, 2, 3, 4, 5, 6, 7, 8, 9, 10, 11] rfl (by decide) rfl (ci := 2) (q0 := 0) rfl rfl) rfl rfl hl.1 rfl (lv_room (Nat.le_of_ble_eq_true rfl)) d_Rn_readDigits_29 ⟨Nat.zero_le _, Nat.zero_le _⟩) hP hD hS hA [0, 1, 2, 3, 4, 5, 6, 7, 8, 9, 10, 11, 12, 13, 14] [] [0, 1, 2, 3, 4, 5, 6, 7, 8, 9, 10, 11, 12, 13, 14] rfl rfl (by decide) (by decide) (by decide) (fun _ => rfl) (fun r_3 v_3 H locs hw_3 hP hD hS => ?_)
      have hP : va_P (dC, dI) vwCl (w_R ad ca b v_3) H := hP
      have hD : va_D A (w_R ad ca b v_3) := hD
      rw [← hw_3] at he
      try dsimp only at he
      refine lv_istore (lv' := [(4, .int r_3), (3, .int ((x3 * 10) + (x4 - 3120))), (0, .ref (ad 0)), (2, .int x2), (5, .int x5)]) hx hb d_Rn_readDigits_32 hl (by decide) rfl (fun ls hl => ?_)
      refine lv_aload_n hx hb d_Rn_readDigits_34 rfl (lv_at hl 2 rfl) ?_
      refine va_get (D := (dC, dI)) (ci := 2) (v := .int (TRn_fault v_3)) (C := R_Rn) (T := T_Rn) (N := 12) hx hb ht i_Rn hown hK hP 0 rfl rfl 11 (by decide) (ht _ q_141) (fun _ h9 => h9) rfl d_Rn_readDigits_35 ?_
      refine lv_if_eq (tgt := 43) hx hb d_Rn_readDigits_38 (by decide) (fun c_4 => ?_) (fun c_4 => ?_)
      · have he := he.trans (if_pos c_4)
        refine lv_iload hx hb d_Rn_readDigits_43 (lv_at hl 0 rfl) ?_
        refine wx_ci (wS := fun _ : Unit => w_E ad ca) (ws2 := fun _ : Unit => w_R ad ca b v_3) (va_runSN (As := [.int r_3]) (rest := []) ⟨hx, hb, hml, hown, ht⟩ (c_Ct_isDigit l dC dI ad ca H.size r_3 _ rfl) ⟨va_cnB 1 ht (tb_in q_350) rfl rfl rfl (hN _ nest_4) (ht _ q_42) p_Ct_isDigit.2 ⟨show 0 + 1 ≤ rf + 7 by omega, show 8 + (1 + 11) + 0 ≤ rl + 159 by omega⟩, ht _ q_349, trivial⟩ (wx_preS (wc := (w_E ad ca)) hN hK hP hD [] [] rfl (by decide) rfl) rfl rfl hl.1 rfl (lv_room (Nat.le_of_ble_eq_true rfl)) d_Rn_readDigits_45 ⟨Nat.zero_le _, Nat.zero_le _⟩) hP hD hS hA [] [0, 1, 2, 3, 4, 5, 6, 7, 8, 9, 10, 11, 12, 13, 14] [0, 1, 2, 3, 4, 5, 6, 7, 8, 9, 10, 11, 12, 13, 14] rfl rfl (by decide) (by decide) (by decide) (fun _ => rfl) (fun r_5 _ H locs hw_5 hP hD hS => ?_)
        subst hw_5
        have hP : va_P (dC, dI) vwCl (w_R ad ca b v_3) H := hP
        have hD : va_D A (w_R ad ca b v_3) := hD
        refine lv_if_ne (tgt := 70) hx hb d_Rn_readDigits_48 (by decide) (fun c_6 => ?_) (fun c_6 => ?_)
        · have he := he.trans (if_neg c_6)
          refine lv_iinc (v := (x5 + 1)) (lv' := [(5, .int (x5 + 1)), (4, .int r_3), (3, .int ((x3 * 10) + (x4 - 3120))), (0, .ref (ad 0)), (2, .int x2)]) hx hb d_Rn_readDigits_70 hl (k := 4) rfl rfl (by decide) rfl (fun ls hl => ?_)
          refine lv_goto (tgt := 8) hx hb d_Rn_readDigits_73 (by decide) ?_
          exact ih b v_3 x2 ((x3 * 10) + (x4 - 3120)) r_3 (x5 + 1) ⟨⟨hc.1.1, hc.1.2.1, oc_rg op k hopm hw_3 hc.1.2.1 hc.1.2.2⟩, TLn_s hc.2 (by decide) c_1⟩ he _ _ hP hD hS _ (lv_sub hl [3, 4, 2, 1, 0] rfl)
        · have he := he.trans (if_pos c_6)
          refine lv_iload hx hb d_Rn_readDigits_51 (lv_at hl 0 rfl) ?_
          refine wx_ci (wS := fun _ : Unit => w_E ad ca) (ws2 := fun _ : Unit => w_R ad ca b v_3) (va_runSN (As := [.int r_3]) (rest := []) ⟨hx, hb, hml, hown, ht⟩ (c_Ct_isBlank l dC dI ad ca H.size r_3 _ rfl) ⟨va_cnB 1 ht (tb_in q_357) rfl rfl rfl (hN _ nest_5) (ht _ q_42) p_Ct_isBlank.2 ⟨show 0 + 1 ≤ rf + 7 by omega, show 8 + (1 + 11) + 0 ≤ rl + 159 by omega⟩, ht _ q_356, trivial⟩ (wx_preS (wc := (w_E ad ca)) hN hK hP hD [] [] rfl (by decide) rfl) rfl rfl hl.1 rfl (lv_room (Nat.le_of_ble_eq_true rfl)) d_Rn_readDigits_53 ⟨Nat.zero_le _, Nat.zero_le _⟩) hP hD hS hA [] [0, 1, 2, 3, 4, 5, 6, 7, 8, 9, 10, 11, 12, 13, 14] [0, 1, 2, 3, 4, 5, 6, 7, 8, 9, 10, 11, 12, 13, 14] rfl rfl (by decide) (by decide) (by decide) (fun _ => rfl) (fun r_7 _ H locs hw_7 hP hD hS => ?_)
          subst hw_7
          have hP : va_P (dC, dI) vwCl (w_R ad ca b v_3) H := hP
          have hD : va_D A (w_R ad ca b v_3) := hD
          refine lv_if_ne (tgt := 68) hx hb d_Rn_readDigits_56 (by decide) (fun c_8 => ?_) (fun c_8 => ?_)
          · have he := he.trans (if_neg c_8)
            refine lv_iload_n hx hb d_Rn_readDigits_68 rfl (lv_at hl 1 rfl) ?_
            exact W.iret hx hb hr (v := ((x3 * 10) + (x4 - 3120))) (fun t ht hW => ⟨⟨((x3 * 10) + (x4 - 3120)), v_3, rfl, he.symm, by rw [ht]; exact hP, va_K.moved hW.alike hK, hD⟩, hS.F ht⟩) hS.2.2 d_Rn_readDigits_69
          · have he := he.trans (if_pos c_8)
            refine lv_aload_n hx hb d_Rn_readDigits_59 rfl (lv_at hl 2 rfl) ?_
            refine va_get (D := (dC, dI)) (ci := 2) (v := .ref (ad 5)) (C := R_Rn) (T := T_Rn) (N := 12) hx hb ht i_Rn hown hK hP 0 rfl rfl 1 (by decide) (ht _ q_131) (fun _ h9 => h9) rfl d_Rn_readDigits_60 ?_
            refine lv_iload hx hb d_Rn_readDigits_63 (lv_at hl 0 rfl) ?_
            refine wx_cv (wS := fun v : TRd => w_D ad ca b v) (ws2 := fun v : TRd => w_R ad ca b (TRn_set_rd v_3 v)) (va_runV (As := [.int r_3]) (rest := []) ⟨hx, hb, hml, hown, ht⟩ (c_Rd_keep l dC dI ad ca H.size b (TRn_rd v_3) r_3 _ rfl) (cwV 1 ht (tb_V q_358 q_359 q_360 q_45 q_361) rfl rfl rfl p_Rd_keep ⟨show 0 + 1 ≤ rf + 7 by omega, show 8 + (2 + 11) + 0 ≤ rl + 159 by omega⟩) (wx_preV (wc := (w_D ad ca b (TRn_rd v_3))) hN hK hP hD [5, 6, 7, 8, 9, 10, 11, 12, 13, 14] [4, 5, 6, 7, 8, 9, 10, 11] rfl (by decide) rfl (ci := 1) (q0 := 0) rfl rfl) rfl rfl hl.1 rfl (lv_room (Nat.le_of_ble_eq_true rfl)) d_Rn_readDigits_65 ⟨Nat.zero_le _, Nat.zero_le _⟩) hP hD hS hA [5, 6, 7, 8, 9, 10, 11, 12, 13, 14] [0, 1, 2, 3, 4] [0, 1, 2, 3, 4, 5, 6, 7, 8, 9, 10, 11, 12, 13, 14] rfl rfl (by decide) (by decide) (by decide) (fun _ => rfl) (fun v_9 H locs hw_9 hP hD hS => ?_)
            have hP : va_P (dC, dI) vwCl (w_R ad ca b (TRn_set_rd v_3 v_9)) H := hP
            have hD : va_D A (w_R ad ca b (TRn_set_rd v_3 v_9)) := hD
            rw [← hw_9] at he
            try dsimp only at he
            refine lv_iload_n hx hb d_Rn_readDigits_68 rfl (lv_at hl 1 rfl) ?_
            exact W.iret hx hb hr (v := ((x3 * 10) + (x4 - 3120))) (fun t ht hW => ⟨⟨((x3 * 10) + (x4 - 3120)), (TRn_set_rd v_3 v_9), rfl, he.symm, by rw [ht]; exact hP, va_K.moved hW.alike hK, hD⟩, hS.F ht⟩) hS.2.2 d_Rn_readDigits_69
      · have he := he.trans (if_neg c_4)
        refine lv_iconst (v := 0) hx hb d_Rn_readDigits_41 (by decide) ?_
        exact W.iret hx hb hr (v := 0) (fun t ht hW => ⟨⟨0, v_3, rfl, he.symm, by rw [ht]; exact hP, va_K.moved hW.alike hK, hD⟩, hS.F ht⟩) hS.2.2 d_Rn_readDigits_42
noncomputable def f_Rn_readDigits (op : TBk → TRn → Int32 → TRn) (b : TBk) (u : TRn) (p0 : Int32) (p1 : Int32) : (Int32 × TRn) := (f_Rn_readDigits_8 op 10 b u p1 0 p0 0)
set_option maxHeartbeats 4000000 in
set_option maxRecDepth 100000 in
theorem c_Rn_readDigits (l : Launch) (dC : Nat → ClassId) (dI : Nat → Nat → Nat) (ad : Nat → Nat) (ca : Nat → ClassId) (op : TBk → TRn → Int32 → TRn) (rf rl : Nat) (k : Int) (hopm : ∀ (b : TBk) (u : TRn) (w : Int32), k ≤ oc u → oc u ≤ oc (op b u w)) (hop : ∀ (sz : Nat) (b : TBk) (u : TRn) (w : Int32), BkS b ∧ k ≤ oc u → wx_Mv l y_Rn_open ws_Rn_open ({ frames := rf, cells := 0, slots := 0, locals := rl } : Room) (dC, dI) vwCl (t_R ca) [.ref (ad 0), .int w] (w_R ad ca b u) sz (fun v : TRn => w_R ad ca b v) (fun v : TRn => v = op b u w)) (sz : Nat) (b : TBk) (u : TRn) (p0 : Int32) (p1 : Int32) (hpre : BkS b ∧ k ≤ p1.toInt ∧ p1.toInt ≤ oc u) (F : (Int32 × TRn)) (he : F = f_Rn_readDigits op b u p0 p1) : wx_Mi l y_Rn_readDigits ws_Rn_readDigits ({ frames := rf + 7, cells := 0, slots := 0, locals := rl + 159 } : Room) (dC, dI) vwCl (t_R ca) [.ref (ad 0), .int p0, .int p1] (w_R ad ca b u) sz (fun v : TRn => w_R ad ca b v) (fun (r : Int32) (v : TRn) => (r, v) = F) := by
  refine Met.ofW (cc := b_Rn_readDigits) (maxL := 6) (ret := some .int) (by decide) rfl ?_
  intro p e s m args below meth c s₁ B hml hv
  obtain ⟨rfl, hsz, hP, hK, hD0, hN⟩ := hv
  have hx := B.exec
  have hb := B.bytes
  have hr := B.returns
  have hts := atoms_spec (ws := ws_Rn_readDigits) B.pre
  have ht : ∀ w ∈ TB, w.before _ s = true := fun w h => hts w (List.mem_cons_of_mem _ h)
  have hown : s.vm.findClass R_Rn = some m.cls := findClass_of_methodNamed B.named
  have hlocks := B.notSynchronized
  subst hsz
  have hD := hD0.self (sz := s.heap.size)
  generalize hAe : va_A (w_R ad ca b u) s.heap.size = A at hD ⊢
  have hA : ∀ q : Nat, s.heap.size ≤ q → A q := fun q h => by rw [← hAe]; exact Or.inr h
  have hS : va_S A s.heap s.heap [] := va_S.rf
  have C0 : wx_C p s m ([.ref (ad 0), .int p0, .int p1] : List Value).toArray meth c b_Rn_readDigits (some .int) 6 R_Rn A (dC, dI) vwCl (t_R ca) := ⟨hx, hb, hr, hml, hown, ht, hlocks, hA, hK, hN⟩
  have hl := lv_entry ([.ref (ad 0), .int p0, .int p1]) (n := 6) (Nat.le_of_ble_eq_true rfl)
  rw [lg_entry_eq]
  generalize (lg_sl ([.ref (ad 0), .int p0, .int p1]) ++ List.replicate (6 - (lg_sl ([.ref (ad 0), .int p0, .int p1])).length) Slot.unset).toArray = ls at hl ⊢
  have hl : lv_has ls 6 [(0, .ref (ad 0)), (1, .int p0), (2, .int p1)] := hl
  unfold f_Rn_readDigits at he
  refine lv_iconst (v := 0) hx hb d_Rn_readDigits_0 (by decide) ?_
  refine lv_istore_n (lv' := [(3, .int 0), (0, .ref (ad 0)), (1, .int p0), (2, .int p1)]) hx hb d_Rn_readDigits_1 rfl hl (by decide) rfl (fun ls hl => ?_)
  refine lv_iload_n hx hb d_Rn_readDigits_2 rfl (lv_at hl 2 rfl) ?_
  refine lv_istore (lv' := [(4, .int p0), (3, .int 0), (0, .ref (ad 0)), (1, .int p0), (2, .int p1)]) hx hb d_Rn_readDigits_3 hl (by decide) rfl (fun ls hl => ?_)
  refine lv_iconst (v := 0) hx hb d_Rn_readDigits_5 (by decide) ?_
  refine lv_istore (lv' := [(5, .int 0), (4, .int p0), (3, .int 0), (0, .ref (ad 0)), (1, .int p0), (2, .int p1)]) hx hb d_Rn_readDigits_6 hl (by decide) rfl (fun ls hl => ?_)
  exact k_Rn_readDigits_8 l dC dI ad ca op rf rl k hopm hop C0 F 10 b u p1 0 p0 0 ⟨hpre, TLn_i (by omega) (by omega)⟩ he _ _ hP hD hS _ (lv_sub hl [3, 5, 2, 1, 0] rfl)
