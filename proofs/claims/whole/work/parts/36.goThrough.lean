theorem q_23 : Cond.selects R_Rn y_Rn_putOut y_Rn_putOut ∈ TB := tq 23 (by decide +kernel) rfl
theorem q_403 : Cond.methodLink R_Rn 98 y_Rn_putOut ∈ TB := tq 403 (by decide +kernel) rfl
theorem q_405 : Cond.instanceMethod y_Rn_putOut ∈ TB := tq 405 (by decide +kernel) rfl
theorem q_406 : Cond.code y_Rn_putOut b_Rn_putOut 2 (none : Option Jvm.ClassFile.FieldType) ∈ TB := tq 406 (by decide +kernel) rfl
theorem d_Rn_goThrough_0 : decode b_Rn_goThrough 0 = .ok (.iload_n 1, 1) := by decide +kernel
theorem d_Rn_goThrough_1 : decode b_Rn_goThrough 1 = .ok (.bipush (-2), 2) := by decide +kernel
theorem d_Rn_goThrough_3 : decode b_Rn_goThrough 3 = .ok (.if_icmp .ne 12, 3) := by decide +kernel
theorem d_Rn_goThrough_6 : decode b_Rn_goThrough 6 = .ok (.aload_n 0, 1) := by decide +kernel
theorem d_Rn_goThrough_7 : decode b_Rn_goThrough 7 = .ok (.bipush 9, 2) := by decide +kernel
theorem d_Rn_goThrough_9 : decode b_Rn_goThrough 9 = .ok (.invokevirtual 60, 3) := by decide +kernel
theorem d_Rn_goThrough_12 : decode b_Rn_goThrough 12 = .ok (.goto 39, 3) := by decide +kernel
theorem d_Rn_goThrough_15 : decode b_Rn_goThrough 15 = .ok (.aload_n 0, 1) := by decide +kernel
theorem d_Rn_goThrough_16 : decode b_Rn_goThrough 16 = .ok (.iload_n 1, 1) := by decide +kernel
theorem d_Rn_goThrough_17 : decode b_Rn_goThrough 17 = .ok (.iconst 0, 1) := by decide +kernel
theorem d_Rn_goThrough_18 : decode b_Rn_goThrough 18 = .ok (.invokevirtual 84, 3) := by decide +kernel
theorem d_Rn_goThrough_21 : decode b_Rn_goThrough 21 = .ok (.ifCond .ne 30, 3) := by decide +kernel
theorem d_Rn_goThrough_24 : decode b_Rn_goThrough 24 = .ok (.aload_n 0, 1) := by decide +kernel
theorem d_Rn_goThrough_25 : decode b_Rn_goThrough 25 = .ok (.getfield 25, 3) := by decide +kernel
theorem d_Rn_goThrough_28 : decode b_Rn_goThrough 28 = .ok (.iload_n 1, 1) := by decide +kernel
theorem d_Rn_goThrough_29 : decode b_Rn_goThrough 29 = .ok (.invokevirtual 88, 3) := by decide +kernel
theorem d_Rn_goThrough_32 : decode b_Rn_goThrough 32 = .ok (.invokestatic 94, 3) := by decide +kernel
theorem d_Rn_goThrough_35 : decode b_Rn_goThrough 35 = .ok (.ifCond .eq 11, 3) := by decide +kernel
theorem d_Rn_goThrough_38 : decode b_Rn_goThrough 38 = .ok (.aload_n 0, 1) := by decide +kernel
theorem d_Rn_goThrough_39 : decode b_Rn_goThrough 39 = .ok (.iconst 2, 1) := by decide +kernel
theorem d_Rn_goThrough_40 : decode b_Rn_goThrough 40 = .ok (.invokevirtual 60, 3) := by decide +kernel
theorem d_Rn_goThrough_43 : decode b_Rn_goThrough 43 = .ok (.goto 8, 3) := by decide +kernel
theorem d_Rn_goThrough_46 : decode b_Rn_goThrough 46 = .ok (.aload_n 0, 1) := by decide +kernel
theorem d_Rn_goThrough_47 : decode b_Rn_goThrough 47 = .ok (.iload_n 1, 1) := by decide +kernel
theorem d_Rn_goThrough_48 : decode b_Rn_goThrough 48 = .ok (.invokevirtual 98, 3) := by decide +kernel
theorem d_Rn_goThrough_51 : decode b_Rn_goThrough 51 = .ok (.return_, 1) := by decide +kernel
noncomputable def f_Rn_goThrough (op : TBk → TRn → Int32 → TRn) (b : TBk) (u : TRn) (p0 : Int32) : TRn := (if p0 = (-2) then (let v_9 := f_Rn_fail b u 9; v_9) else (match f_Rn_takeIn op b u p0 0 with | (r_2, v_2) => (if r_2 = 0 then (if (f_Ct_isMark (f_Bk_kindOf b p0)) = 0 then (let v_7 := f_Rn_putOut b v_2 p0; v_7) else (let v_8 := f_Rn_fail b v_2 2; v_8)) else v_2)))
set_option maxHeartbeats 4000000 in
set_option maxRecDepth 100000 in
theorem c_Rn_goThrough (l : Launch) (dC : Nat → ClassId) (dI : Nat → Nat → Nat) (ad : Nat → Nat) (ca : Nat → ClassId) (op : TBk → TRn → Int32 → TRn) (rf rl : Nat) (k : Int) (hopm : ∀ (b : TBk) (u : TRn) (w : Int32), k ≤ oc u → oc u ≤ oc (op b u w)) (hop : ∀ (sz : Nat) (b : TBk) (u : TRn) (w : Int32), BkS b ∧ k ≤ oc u → wx_Mv l y_Rn_open ws_Rn_open ({ frames := rf, cells := 0, slots := 0, locals := rl } : Room) (dC, dI) vwCl (t_R ca) [.ref (ad 0), .int w] (w_R ad ca b u) sz (fun v : TRn => w_R ad ca b v) (fun v : TRn => v = op b u w)) (sz : Nat) (b : TBk) (u : TRn) (p0 : Int32) (hpre : BkS b ∧ k ≤ 0 ∧ 0 ≤ oc u) (F : TRn) (he : F = f_Rn_goThrough op b u p0) : wx_Mv l y_Rn_goThrough ws_Rn_goThrough ({ frames := rf + 7, cells := 0, slots := 0, locals := rl + 157 } : Room) (dC, dI) vwCl (t_R ca) [.ref (ad 0), .int p0] (w_R ad ca b u) sz (fun v : TRn => w_R ad ca b v) (fun v : TRn => v = F) := by
  refine Met.ofW (cc := b_Rn_goThrough) (maxL := 2) (ret := none) (by decide) rfl ?_
  intro p e s m args below meth c s₁ B hml hv
  obtain ⟨rfl, hsz, hP, hK, hD0, hN⟩ := hv
  have hx := B.exec
  have hb := B.bytes
  have hr := B.returns
  have hts := atoms_spec (ws := ws_Rn_goThrough) B.pre
  have ht : ∀ w ∈ TB, w.before _ s = true := fun w h => hts w (List.mem_cons_of_mem _ h)
  have hown : s.vm.findClass R_Rn = some m.cls := findClass_of_methodNamed B.named
  have hlocks := B.notSynchronized
  subst hsz
  have hD := hD0.self (sz := s.heap.size)
  generalize hAe : va_A (w_R ad ca b u) s.heap.size = A at hD ⊢
  have hA : ∀ q : Nat, s.heap.size ≤ q → A q := fun q h => by rw [← hAe]; exact Or.inr h
  have hS : va_S A s.heap s.heap [] := va_S.rf
  have hl := lv_entry ([.ref (ad 0), .int p0]) (n := 2) (Nat.le_of_ble_eq_true rfl)
  rw [lg_entry_eq]
  generalize (lg_sl ([.ref (ad 0), .int p0]) ++ List.replicate (2 - (lg_sl ([.ref (ad 0), .int p0])).length) Slot.unset).toArray = ls at hl ⊢
  have hl : lv_has ls 2 [(0, .ref (ad 0)), (1, .int p0)] := hl
  unfold f_Rn_goThrough at he
  refine lv_iload_n hx hb d_Rn_goThrough_0 rfl (lv_at hl 1 rfl) ?_
  refine lv_bipush (v := (-2)) hx hb d_Rn_goThrough_1 (by decide) ?_
  refine lv_icmp_ne (tgt := 15) hx hb d_Rn_goThrough_3 (by decide) (fun c_1 => ?_) (fun c_1 => ?_)
  · have he := he.trans (if_neg c_1)
    refine lv_aload_n hx hb d_Rn_goThrough_15 rfl (lv_at hl 0 rfl) ?_
    refine lv_iload_n hx hb d_Rn_goThrough_16 rfl (lv_at hl 1 rfl) ?_
    refine lv_iconst (v := 0) hx hb d_Rn_goThrough_17 (by decide) ?_
    refine wx_ci (wS := fun v : TRn => w_R ad ca b v) (ws2 := fun v : TRn => w_R ad ca b v) (va_runV (As := [.int p0, .int 0]) (rest := []) ⟨hx, hb, hml, hown, ht⟩ (c_Rn_takeIn l dC dI ad ca op rf rl k hopm hop s.heap.size b u p0 0 ⟨hpre.1, Int.le_trans hpre.2.1 hpre.2.2⟩ _ rfl) (cwV 2 ht (tb_V q_279 q_281 q_4 q_46 q_282) rfl rfl rfl p_Rn_takeIn ⟨show (rf + 6) + 1 ≤ rf + 7 by omega, show 8 + (4 + 11) + (rl + 134) ≤ rl + 157 by omega⟩) (wx_preV (wc := (w_R ad ca b u)) hN hK hP hD [0, 1, 2, 3, 4, 5, 6, 7, 8, 9, 10, 11, 12, 13, 14] [0, 1, 2, 3, 4, 5, 6, 7, 8, 9, 10, 11] rfl (by decide) rfl (ci := 2) (q0 := 0) rfl rfl) rfl rfl hl.1 rfl (lv_room (Nat.le_of_ble_eq_true rfl)) d_Rn_goThrough_18 ⟨Nat.zero_le _, Nat.zero_le _⟩) hP hD hS hA [0, 1, 2, 3, 4, 5, 6, 7, 8, 9, 10, 11, 12, 13, 14] [] [0, 1, 2, 3, 4, 5, 6, 7, 8, 9, 10, 11, 12, 13, 14] rfl rfl (by decide) (by decide) (by decide) (fun _ => rfl) (fun r_2 v_2 H locs hw_2 hP hD hS => ?_)
    have hP : va_P (dC, dI) vwCl (w_R ad ca b v_2) H := hP
    have hD : va_D A (w_R ad ca b v_2) := hD
    rw [← hw_2] at he
    try dsimp only at he
    refine lv_if_ne (tgt := 51) hx hb d_Rn_goThrough_21 (by decide) (fun c_3 => ?_) (fun c_3 => ?_)
    · have he := he.trans (if_neg c_3)
      exact W.vret hx hb hr (fun t ht hW => ⟨⟨v_2, rfl, he.symm, by rw [ht]; exact hP, va_K.moved hW.alike hK, hD⟩, hS.F ht⟩) hS.2.2 d_Rn_goThrough_51
    · have he := he.trans (if_pos c_3)
      refine lv_aload_n hx hb d_Rn_goThrough_24 rfl (lv_at hl 0 rfl) ?_
      refine va_get (D := (dC, dI)) (ci := 2) (v := .ref (ad 8)) (C := R_Rn) (T := T_Rn) (N := 12) hx hb ht i_Rn hown hK hP 0 rfl rfl 0 (by decide) (ht _ q_132) (fun _ h9 => h9) rfl d_Rn_goThrough_25 ?_
      refine lv_iload_n hx hb d_Rn_goThrough_28 rfl (lv_at hl 1 rfl) ?_
      refine wx_ci (wS := fun _ : Unit => w_B ad ca b) (ws2 := fun _ : Unit => w_R ad ca b v_2) (va_runV (As := [.int p0]) (rest := []) ⟨hx, hb, hml, hown, ht⟩ (c_Bk_kindOf l dC dI ad ca H.size b p0 _ rfl) (cwV 1 ht (tb_V q_283 q_284 q_285 q_45 q_286) rfl rfl rfl p_Bk_kindOf ⟨show 1 + 1 ≤ rf + 7 by omega, show 8 + (2 + 11) + 20 ≤ rl + 157 by omega⟩) (wx_preV (wc := (w_B ad ca b)) hN hK hP hD [8, 9, 10, 11, 12, 13, 14] [6, 7, 8, 9, 10, 11] rfl (by decide) rfl (ci := 0) (q0 := 0) rfl rfl) rfl rfl hl.1 rfl (lv_room (Nat.le_of_ble_eq_true rfl)) d_Rn_goThrough_29 ⟨Nat.zero_le _, Nat.zero_le _⟩) hP hD hS hA [8, 9, 10, 11, 12, 13, 14] [0, 1, 2, 3, 4, 5, 6, 7] [0, 1, 2, 3, 4, 5, 6, 7, 8, 9, 10, 11, 12, 13, 14] rfl rfl (by decide) (by decide) (by decide) (fun _ => rfl) (fun r_4 _ H locs hw_4 hP hD hS => ?_)
      subst hw_4
      have hP : va_P (dC, dI) vwCl (w_R ad ca b v_2) H := hP
      have hD : va_D A (w_R ad ca b v_2) := hD
      refine wx_ci (wS := fun _ : Unit => w_E ad ca) (ws2 := fun _ : Unit => w_R ad ca b v_2) (va_runSN (As := [.int (f_Bk_kindOf b p0)]) (rest := []) ⟨hx, hb, hml, hown, ht⟩ (c_Ct_isMark l dC dI ad ca H.size (f_Bk_kindOf b p0) _ rfl) ⟨va_cnB 1 ht (tb_in q_325) rfl rfl rfl (hN _ nest_2) (ht _ q_44) p_Ct_isMark.2 ⟨show 0 + 1 ≤ rf + 7 by omega, show 8 + (1 + 11) + 0 ≤ rl + 157 by omega⟩, ht _ q_324, trivial⟩ (wx_preS (wc := (w_E ad ca)) hN hK hP hD [] [] rfl (by decide) rfl) rfl rfl hl.1 rfl (lv_room (Nat.le_of_ble_eq_true rfl)) d_Rn_goThrough_32 ⟨Nat.zero_le _, Nat.zero_le _⟩) hP hD hS hA [] [0, 1, 2, 3, 4, 5, 6, 7, 8, 9, 10, 11, 12, 13, 14] [0, 1, 2, 3, 4, 5, 6, 7, 8, 9, 10, 11, 12, 13, 14] rfl rfl (by decide) (by decide) (by decide) (fun _ => rfl) (fun r_5 _ H locs hw_5 hP hD hS => ?_)
      subst hw_5
      have hP : va_P (dC, dI) vwCl (w_R ad ca b v_2) H := hP
      have hD : va_D A (w_R ad ca b v_2) := hD
      refine lv_if_eq (tgt := 46) hx hb d_Rn_goThrough_35 (by decide) (fun c_6 => ?_) (fun c_6 => ?_)
      · have he := he.trans (if_pos c_6)
        refine lv_aload_n hx hb d_Rn_goThrough_46 rfl (lv_at hl 0 rfl) ?_
        refine lv_iload_n hx hb d_Rn_goThrough_47 rfl (lv_at hl 1 rfl) ?_
        refine wx_cv (wS := fun v : TRn => w_R ad ca b v) (ws2 := fun v : TRn => w_R ad ca b v) (va_runV (As := [.int p0]) (rest := []) ⟨hx, hb, hml, hown, ht⟩ (c_Rn_putOut l dC dI ad ca H.size b v_2 p0 _ rfl) (cwV 1 ht (tb_V q_403 q_405 q_23 q_46 q_406) rfl rfl rfl p_Rn_putOut ⟨show 1 + 1 ≤ rf + 7 by omega, show 8 + (2 + 11) + 21 ≤ rl + 157 by omega⟩) (wx_preV (wc := (w_R ad ca b v_2)) hN hK hP hD [0, 1, 2, 3, 4, 5, 6, 7, 8, 9, 10, 11, 12, 13, 14] [0, 1, 2, 3, 4, 5, 6, 7, 8, 9, 10, 11] rfl (by decide) rfl (ci := 2) (q0 := 0) rfl rfl) rfl rfl hl.1 rfl (lv_room (Nat.le_of_ble_eq_true rfl)) d_Rn_goThrough_48 ⟨Nat.zero_le _, Nat.zero_le _⟩) hP hD hS hA [0, 1, 2, 3, 4, 5, 6, 7, 8, 9, 10, 11, 12, 13, 14] [] [0, 1, 2, 3, 4, 5, 6, 7, 8, 9, 10, 11, 12, 13, 14] rfl rfl (by decide) (by decide) (by decide) (fun _ => rfl) (fun v_7 H locs hw_7 hP hD hS => ?_)
        have hP : va_P (dC, dI) vwCl (w_R ad ca b v_7) H := hP
        have hD : va_D A (w_R ad ca b v_7) := hD
        rw [← hw_7] at he
        try dsimp only at he
        exact W.vret hx hb hr (fun t ht hW => ⟨⟨v_7, rfl, he.symm, by rw [ht]; exact hP, va_K.moved hW.alike hK, hD⟩, hS.F ht⟩) hS.2.2 d_Rn_goThrough_51
      · have he := he.trans (if_neg c_6)
        refine lv_aload_n hx hb d_Rn_goThrough_38 rfl (lv_at hl 0 rfl) ?_
        refine lv_iconst (v := 2) hx hb d_Rn_goThrough_39 (by decide) ?_
        refine wx_cv (wS := fun v : TRn => w_R ad ca b v) (ws2 := fun v : TRn => w_R ad ca b v) (va_runV (As := [.int 2]) (rest := []) ⟨hx, hb, hml, hown, ht⟩ (c_Rn_fail l dC dI ad ca H.size b v_2 2 _ rfl) (cwV 1 ht (tb_V q_275 q_277 q_3 q_46 q_278) rfl rfl rfl p_Rn_fail ⟨show 0 + 1 ≤ rf + 7 by omega, show 8 + (2 + 11) + 0 ≤ rl + 157 by omega⟩) (wx_preV (wc := (w_R ad ca b v_2)) hN hK hP hD [0, 1, 2, 3, 4, 5, 6, 7, 8, 9, 10, 11, 12, 13, 14] [0, 1, 2, 3, 4, 5, 6, 7, 8, 9, 10, 11] rfl (by decide) rfl (ci := 2) (q0 := 0) rfl rfl) rfl rfl hl.1 rfl (lv_room (Nat.le_of_ble_eq_true rfl)) d_Rn_goThrough_40 ⟨Nat.zero_le _, Nat.zero_le _⟩) hP hD hS hA [0, 1, 2, 3, 4, 5, 6, 7, 8, 9, 10, 11, 12, 13, 14] [] [0, 1, 2, 3, 4, 5, 6, 7, 8, 9, 10, 11, 12, 13, 14] rfl rfl (by decide) (by decide) (by decide) (fun _ => rfl) (fun v_8 H locs hw_8 hP hD hS => ?_)
        have hP : va_P (dC, dI) vwCl (w_R ad ca b v_8) H := hP
        have hD : va_D A (w_R ad ca b v_8) := hD
        rw [← hw_8] at he
        try dsimp only at he
        refine lv_goto (tgt := 51) hx hb d_Rn_goThrough_43 (by decide) ?_
        exact W.vret hx hb hr (fun t ht hW => ⟨⟨v_8, rfl, he.symm, by rw [ht]; exact hP, va_K.moved hW.alike hK, hD⟩, hS.F ht⟩) hS.2.2 d_Rn_goThrough_51
  · have he := he.trans (if_pos c_1)
    refine lv_aload_n hx hb d_Rn_goThrough_6 rfl (lv_at hl 0 rfl) ?_
    refine lv_bipush (v := 9) hx hb d_Rn_goThrough_7 (by decide) ?_
    refine wx_cv (wS := fun v : TRn => w_R ad ca b v) (ws2 := fun v : TRn => w_R ad ca b v) (va_runV (As := [.int 9]) (rest := []) ⟨hx, hb, hml, hown, ht⟩ (c_Rn_fail l dC dI ad ca s.heap.size b u 9 _ rfl) (cwV 1 ht (tb_V q_275 q_277 q_3 q_46 q_278) rfl rfl rfl p_Rn_fail ⟨show 0 + 1 ≤ rf + 7 by omega, show 8 + (2 + 11) + 0 ≤ rl + 157 by omega⟩) (wx_preV (wc := (w_R ad ca b u)) hN hK hP hD [0, 1, 2, 3, 4, 5, 6, 7, 8, 9, 10, 11, 12, 13, 14] [0, 1, 2, 3, 4, 5, 6, 7, 8, 9, 10, 11] rfl (by decide) rfl (ci := 2) (q0 := 0) rfl rfl) rfl rfl hl.1 rfl (lv_room (Nat.le_of_ble_eq_true rfl)) d_Rn_goThrough_9 ⟨Nat.zero_le _, Nat.zero_le _⟩) hP hD hS hA [0, 1, 2, 3, 4, 5, 6, 7, 8, 9, 10, 11, 12, 13, 14] [] [0, 1, 2, 3, 4, 5, 6, 7, 8, 9, 10, 11, 12, 13, 14] rfl rfl (by decide) (by decide) (by decide) (fun _ => rfl) (fun v_9 H locs hw_9 hP hD hS => ?_)
    have hP : va_P (dC, dI) vwCl (w_R ad ca b v_9) H := hP
    have hD : va_D A (w_R ad ca b v_9) := hD
    rw [← hw_9] at he
    try dsimp only at he
    refine lv_goto (tgt := 51) hx hb d_Rn_goThrough_12 (by decide) ?_
    exact W.vret hx hb hr (fun t ht hW => ⟨⟨v_9, rfl, he.symm, by rw [ht]; exact hP, va_K.moved hW.alike hK, hD⟩, hS.F ht⟩) hS.2.2 d_Rn_goThrough_51
