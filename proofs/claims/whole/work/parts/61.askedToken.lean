theorem q_32 : Cond.selects R_Md y_Md_asked y_Md_asked ∈ TB := tq 32 (by decide +kernel) rfl
theorem q_595 : Cond.methodLink R_Md 109 y_Md_asked ∈ TB := tq 595 (by decide +kernel) rfl
theorem q_597 : Cond.instanceMethod y_Md_asked ∈ TB := tq 597 (by decide +kernel) rfl
theorem q_598 : Cond.code y_Md_asked b_Md_asked 5 (some .int) ∈ TB := tq 598 (by decide +kernel) rfl
theorem d_Md_askedToken_0 : decode b_Md_askedToken 0 = .ok (.aload_n 0, 1) := by decide +kernel
theorem d_Md_askedToken_1 : decode b_Md_askedToken 1 = .ok (.iload_n 1, 1) := by decide +kernel
theorem d_Md_askedToken_2 : decode b_Md_askedToken 2 = .ok (.invokevirtual 109, 3) := by decide +kernel
theorem d_Md_askedToken_5 : decode b_Md_askedToken 5 = .ok (.istore_n 2, 1) := by decide +kernel
theorem d_Md_askedToken_6 : decode b_Md_askedToken 6 = .ok (.aload_n 0, 1) := by decide +kernel
theorem d_Md_askedToken_7 : decode b_Md_askedToken 7 = .ok (.getfield 72, 3) := by decide +kernel
theorem d_Md_askedToken_10 : decode b_Md_askedToken 10 = .ok (.ifCond .ne 18, 3) := by decide +kernel
theorem d_Md_askedToken_13 : decode b_Md_askedToken 13 = .ok (.aload_n 0, 1) := by decide +kernel
theorem d_Md_askedToken_14 : decode b_Md_askedToken 14 = .ok (.iload_n 2, 1) := by decide +kernel
theorem d_Md_askedToken_15 : decode b_Md_askedToken 15 = .ok (.invokevirtual 61, 3) := by decide +kernel
theorem d_Md_askedToken_18 : decode b_Md_askedToken 18 = .ok (.iconst 5, 1) := by decide +kernel
theorem d_Md_askedToken_19 : decode b_Md_askedToken 19 = .ok (.if_icmp .le 9, 3) := by decide +kernel
theorem d_Md_askedToken_22 : decode b_Md_askedToken 22 = .ok (.aload_n 0, 1) := by decide +kernel
theorem d_Md_askedToken_23 : decode b_Md_askedToken 23 = .ok (.bipush 6, 2) := by decide +kernel
theorem d_Md_askedToken_25 : decode b_Md_askedToken 25 = .ok (.invokevirtual 84, 3) := by decide +kernel
theorem d_Md_askedToken_28 : decode b_Md_askedToken 28 = .ok (.aload_n 0, 1) := by decide +kernel
theorem d_Md_askedToken_29 : decode b_Md_askedToken 29 = .ok (.getfield 72, 3) := by decide +kernel
theorem d_Md_askedToken_32 : decode b_Md_askedToken 32 = .ok (.ifCond .le 7, 3) := by decide +kernel
theorem d_Md_askedToken_35 : decode b_Md_askedToken 35 = .ok (.iconst (-1), 1) := by decide +kernel
theorem d_Md_askedToken_36 : decode b_Md_askedToken 36 = .ok (.goto 4, 3) := by decide +kernel
theorem d_Md_askedToken_39 : decode b_Md_askedToken 39 = .ok (.iload_n 2, 1) := by decide +kernel
theorem d_Md_askedToken_40 : decode b_Md_askedToken 40 = .ok (.ireturn, 1) := by decide +kernel
noncomputable def f_Md_askedToken (op : TMd → Int32 → TMd) (d : TMd) (p0 : Int32) : (Int32 × TMd) := (match f_Md_asked op d p0 with | (r_1, v_1) => (if (TMd_fault v_1) = 0 then (if (f_Md_kindOf v_1 r_1) ≤ 5 then (if (TMd_fault v_1) ≤ 0 then (r_1, v_1) else ((-1), v_1)) else (let v_7 := f_Md_fail v_1 6; (if (TMd_fault v_7) ≤ 0 then (r_1, v_7) else ((-1), v_7)))) else (if (TMd_fault v_1) ≤ 0 then (r_1, v_1) else ((-1), v_1))))
set_option maxHeartbeats 4000000 in
set_option maxRecDepth 100000 in
theorem c_Md_askedToken (l : Launch) (dC : Nat → ClassId) (dI : Nat → Nat → Nat) (ad : Nat → Nat) (ca : Nat → ClassId) (op : TMd → Int32 → TMd) (rf rl : Nat) (k : Int) (hopm : ∀ (d : TMd) (w : Int32), OPP k d → LVS 0 d (op d w)) (hop : ∀ (sz : Nat) (d : TMd) (w : Int32), OPP k d → wx_Mv l y_Md_open ws_Md_open ({ frames := rf, cells := 0, slots := 0, locals := rl } : Room) (dC, dI) vwCl (t_M ca) [.ref (ad 16), .int w] (w_M ad ca d) sz (fun v : TMd => w_M ad ca v) (fun v : TMd => v = op d w)) (sz : Nat) (d : TMd) (p0 : Int32) (hpre : APk k p0 d) (F : (Int32 × TMd)) (he : F = f_Md_askedToken op d p0) : wx_Mi l y_Md_askedToken ws_Md_askedToken ({ frames := rf + 6, cells := 0, slots := 0, locals := rl + 137 } : Room) (dC, dI) vwCl (t_M ca) [.ref (ad 16), .int p0] (w_M ad ca d) sz (fun v : TMd => w_M ad ca v) (fun (r : Int32) (v : TMd) => (r, v) = F) := by
  refine Met.ofW (cc := b_Md_askedToken) (maxL := 3) (ret := some .int) (by decide) rfl ?_
  intro p e s m args below meth c s₁ B hml hv
  obtain ⟨rfl, hsz, hP, hK, hD0, hN⟩ := hv
  have hx := B.exec
  have hb := B.bytes
  have hr := B.returns
  have hts := atoms_spec (ws := ws_Md_askedToken) B.pre
  have ht : ∀ w ∈ TB, w.before _ s = true := fun w h => hts w (List.mem_cons_of_mem _ h)
  have hown : s.vm.findClass R_Md = some m.cls := findClass_of_methodNamed B.named
  have hlocks := B.notSynchronized
  subst hsz
  have hD := hD0.self (sz := s.heap.size)
  generalize hAe : va_A (w_M ad ca d) s.heap.size = A at hD ⊢
  have hA : ∀ q : Nat, s.heap.size ≤ q → A q := fun q h => by rw [← hAe]; exact Or.inr h
  have hS : va_S A s.heap s.heap [] := va_S.rf
  have hl := lv_entry ([.ref (ad 16), .int p0]) (n := 3) (Nat.le_of_ble_eq_true rfl)
  rw [lg_entry_eq]
  generalize (lg_sl ([.ref (ad 16), .int p0]) ++ List.replicate (3 - (lg_sl ([.ref (ad 16), .int p0])).length) Slot.unset).toArray = ls at hl ⊢
  have hl : lv_has ls 3 [(0, .ref (ad 16)), (1, .int p0)] := hl
  unfold f_Md_askedToken at he
  refine lv_aload_n hx hb d_Md_askedToken_0 rfl (lv_at hl 0 rfl) ?_
  refine lv_iload_n hx hb d_Md_askedToken_1 rfl (lv_at hl 1 rfl) ?_
  refine wx_ci (wS := fun v : TMd => w_M ad ca v) (ws2 := fun v : TMd => w_M ad ca v) (va_runV (As := [.int p0]) (rest := []) ⟨hx, hb, hml, hown, ht⟩ (c_Md_asked l dC dI ad ca op rf rl k hopm hop s.heap.size d p0 hpre _ rfl) (cwV 1 ht (tb_V q_595 q_597 q_32 q_47 q_598) rfl rfl rfl p_Md_asked ⟨show (rf + 5) + 1 ≤ rf + 6 by omega, show 8 + (5 + 11) + (rl + 113) ≤ rl + 137 by omega⟩) (wx_preV (wc := (w_M ad ca d)) hN hK hP hD [0, 1, 2, 3, 4, 5, 6, 7, 8, 9, 10, 11] [0, 1, 2, 3, 4, 5, 6, 7, 8, 9, 10] rfl (by decide) rfl (ci := 4) (q0 := 0) rfl rfl) rfl rfl hl.1 rfl (lv_room (Nat.le_of_ble_eq_true rfl)) d_Md_askedToken_2 ⟨Nat.zero_le _, Nat.zero_le _⟩) hP hD hS hA [0, 1, 2, 3, 4, 5, 6, 7, 8, 9, 10, 11] [] [0, 1, 2, 3, 4, 5, 6, 7, 8, 9, 10, 11] rfl rfl (by decide) (by decide) (by decide) (fun _ => rfl) (fun r_1 v_1 H locs hw_1 hP hD hS => ?_)
  have hP : va_P (dC, dI) vwCl (w_M ad ca v_1) H := hP
  have hD : va_D A (w_M ad ca v_1) := hD
  rw [← hw_1] at he
  try dsimp only at he
  refine lv_istore_n (lv' := [(2, .int r_1), (0, .ref (ad 16)), (1, .int p0)]) hx hb d_Md_askedToken_5 rfl hl (by decide) rfl (fun ls hl => ?_)
  refine lv_aload_n hx hb d_Md_askedToken_6 rfl (lv_at hl 1 rfl) ?_
  refine va_get (D := (dC, dI)) (ci := 4) (v := .int (TMd_fault v_1)) (C := R_Md) (T := T_Md) (N := 23) hx hb ht i_Md hown hK hP 0 rfl rfl 13 (by decide) (ht _ q_458) (fun _ h9 => h9) rfl d_Md_askedToken_7 ?_
  refine lv_if_ne (tgt := 28) hx hb d_Md_askedToken_10 (by decide) (fun c_2 => ?_) (fun c_2 => ?_)
  · have he := he.trans (if_neg c_2)
    refine lv_aload_n hx hb d_Md_askedToken_28 rfl (lv_at hl 1 rfl) ?_
    refine va_get (D := (dC, dI)) (ci := 4) (v := .int (TMd_fault v_1)) (C := R_Md) (T := T_Md) (N := 23) hx hb ht i_Md hown hK hP 0 rfl rfl 13 (by decide) (ht _ q_458) (fun _ h9 => h9) rfl d_Md_askedToken_29 ?_
    refine lv_if_le (tgt := 39) hx hb d_Md_askedToken_32 (by decide) (fun c_3 => ?_) (fun c_3 => ?_)
    · have he := he.trans (if_pos c_3)
      refine lv_iload_n hx hb d_Md_askedToken_39 rfl (lv_at hl 0 rfl) ?_
      exact W.iret hx hb hr (v := r_1) (fun t ht hW => ⟨⟨r_1, v_1, rfl, he.symm, by rw [ht]; exact hP, va_K.moved hW.alike hK, hD⟩, hS.F ht⟩) hS.2.2 d_Md_askedToken_40
    · have he := he.trans (if_neg c_3)
      refine lv_iconst (v := (-1)) hx hb d_Md_askedToken_35 (by decide) ?_
      refine lv_goto (tgt := 40) hx hb d_Md_askedToken_36 (by decide) ?_
      exact W.iret hx hb hr (v := (-1)) (fun t ht hW => ⟨⟨(-1), v_1, rfl, he.symm, by rw [ht]; exact hP, va_K.moved hW.alike hK, hD⟩, hS.F ht⟩) hS.2.2 d_Md_askedToken_40
  · have he := he.trans (if_pos c_2)
    refine lv_aload_n hx hb d_Md_askedToken_13 rfl (lv_at hl 1 rfl) ?_
    refine lv_iload_n hx hb d_Md_askedToken_14 rfl (lv_at hl 0 rfl) ?_
    refine wx_ci (wS := fun _ : Unit => w_M ad ca v_1) (ws2 := fun _ : Unit => w_M ad ca v_1) (va_runV (As := [.int r_1]) (rest := []) ⟨hx, hb, hml, hown, ht⟩ (c_Md_kindOf l dC dI ad ca H.size v_1 r_1 (by have h := ((ask_l op k hopm hw_1 hpre).2.2.2 c_2).2.1; omega) _ rfl) (cwV 1 ht (tb_V q_555 q_557 q_23 q_47 q_558) rfl rfl rfl p_Md_kindOf ⟨show 0 + 1 ≤ rf + 6 by omega, show 8 + (2 + 11) + 0 ≤ rl + 137 by omega⟩) (wx_preV (wc := (w_M ad ca v_1)) hN hK hP hD [0, 1, 2, 3, 4, 5, 6, 7, 8, 9, 10, 11] [0, 1, 2, 3, 4, 5, 6, 7, 8, 9, 10] rfl (by decide) rfl (ci := 4) (q0 := 0) rfl rfl) rfl rfl hl.1 rfl (lv_room (Nat.le_of_ble_eq_true rfl)) d_Md_askedToken_15 ⟨Nat.zero_le _, Nat.zero_le _⟩) hP hD hS hA [0, 1, 2, 3, 4, 5, 6, 7, 8, 9, 10, 11] [] [0, 1, 2, 3, 4, 5, 6, 7, 8, 9, 10, 11] rfl rfl (by decide) (by decide) (by decide) (fun _ => rfl) (fun r_4 _ H locs hw_4 hP hD hS => ?_)
    subst hw_4
    have hP : va_P (dC, dI) vwCl (w_M ad ca v_1) H := hP
    have hD : va_D A (w_M ad ca v_1) := hD
    refine lv_iconst (v := 5) hx hb d_Md_askedToken_18 (by decide) ?_
    refine lv_icmp_le (tgt := 28) hx hb d_Md_askedToken_19 (by decide) (fun c_5 => ?_) (fun c_5 => ?_)
    · have he := he.trans (if_pos c_5)
      refine lv_aload_n hx hb d_Md_askedToken_28 rfl (lv_at hl 1 rfl) ?_
      refine va_get (D := (dC, dI)) (ci := 4) (v := .int (TMd_fault v_1)) (C := R_Md) (T := T_Md) (N := 23) hx hb ht i_Md hown hK hP 0 rfl rfl 13 (by decide) (ht _ q_458) (fun _ h9 => h9) rfl d_Md_askedToken_29 ?_
      refine lv_if_le (tgt := 39) hx hb d_Md_askedToken_32 (by decide) (fun c_6 => ?_) (fun c_6 => ?_)
      · have he := he.trans (if_pos c_6)
        refine lv_iload_n hx hb d_Md_askedToken_39 rfl (lv_at hl 0 rfl) ?_
        exact W.iret hx hb hr (v := r_1) (fun t ht hW => ⟨⟨r_1, v_1, rfl, he.symm, by rw [ht]; exact hP, va_K.moved hW.alike hK, hD⟩, hS.F ht⟩) hS.2.2 d_Md_askedToken_40
      · have he := he.trans (if_neg c_6)
        refine lv_iconst (v := (-1)) hx hb d_Md_askedToken_35 (by decide) ?_
        refine lv_goto (tgt := 40) hx hb d_Md_askedToken_36 (by decide) ?_
        exact W.iret hx hb hr (v := (-1)) (fun t ht hW => ⟨⟨(-1), v_1, rfl, he.symm, by rw [ht]; exact hP, va_K.moved hW.alike hK, hD⟩, hS.F ht⟩) hS.2.2 d_Md_askedToken_40
    · have he := he.trans (if_neg c_5)
      refine lv_aload_n hx hb d_Md_askedToken_22 rfl (lv_at hl 1 rfl) ?_
      refine lv_bipush (v := 6) hx hb d_Md_askedToken_23 (by decide) ?_
      refine wx_cv (wS := fun v : TMd => w_M ad ca v) (ws2 := fun v : TMd => w_M ad ca v) (va_runV (As := [.int 6]) (rest := []) ⟨hx, hb, hml, hown, ht⟩ (c_Md_fail l dC dI ad ca H.size v_1 6 _ rfl) (cwV 1 ht (tb_V q_571 q_573 q_26 q_47 q_574) rfl rfl rfl p_Md_fail ⟨show 0 + 1 ≤ rf + 6 by omega, show 8 + (2 + 11) + 0 ≤ rl + 137 by omega⟩) (wx_preV (wc := (w_M ad ca v_1)) hN hK hP hD [0, 1, 2, 3, 4, 5, 6, 7, 8, 9, 10, 11] [0, 1, 2, 3, 4, 5, 6, 7, 8, 9, 10] rfl (by decide) rfl (ci := 4) (q0 := 0) rfl rfl) rfl rfl hl.1 rfl (lv_room (Nat.le_of_ble_eq_true rfl)) d_Md_askedToken_25 ⟨Nat.zero_le _, Nat.zero_le _⟩) hP hD hS hA [0, 1, 2, 3, 4, 5, 6, 7, 8, 9, 10, 11] [] [0, 1, 2, 3, 4, 5, 6, 7, 8, 9, 10, 11] rfl rfl (by decide) (by decide) (by decide) (fun _ => rfl) (fun v_7 H locs hw_7 hP hD hS => ?_)
      have hP : va_P (dC, dI) vwCl (w_M ad ca v_7) H := hP
      have hD : va_D A (w_M ad ca v_7) := hD
      rw [← hw_7] at he
      try dsimp only at he
      refine lv_aload_n hx hb d_Md_askedToken_28 rfl (lv_at hl 1 rfl) ?_
      refine va_get (D := (dC, dI)) (ci := 4) (v := .int (TMd_fault v_7)) (C := R_Md) (T := T_Md) (N := 23) hx hb ht i_Md hown hK hP 0 rfl rfl 13 (by decide) (ht _ q_458) (fun _ h9 => h9) rfl d_Md_askedToken_29 ?_
      refine lv_if_le (tgt := 39) hx hb d_Md_askedToken_32 (by decide) (fun c_8 => ?_) (fun c_8 => ?_)
      · have he := he.trans (if_pos c_8)
        refine lv_iload_n hx hb d_Md_askedToken_39 rfl (lv_at hl 0 rfl) ?_
        exact W.iret hx hb hr (v := r_1) (fun t ht hW => ⟨⟨r_1, v_7, rfl, he.symm, by rw [ht]; exact hP, va_K.moved hW.alike hK, hD⟩, hS.F ht⟩) hS.2.2 d_Md_askedToken_40
      · have he := he.trans (if_neg c_8)
        refine lv_iconst (v := (-1)) hx hb d_Md_askedToken_35 (by decide) ?_
        refine lv_goto (tgt := 40) hx hb d_Md_askedToken_36 (by decide) ?_
        exact W.iret hx hb hr (v := (-1)) (fun t ht hW => ⟨⟨(-1), v_7, rfl, he.symm, by rw [ht]; exact hP, va_K.moved hW.alike hK, hD⟩, hS.F ht⟩) hS.2.2 d_Md_askedToken_40
