theorem q_22 : Cond.selects R_Md y_Md_areSame y_Md_areSame ∈ TB := tq 22 (by decide +kernel) rfl
theorem q_551 : Cond.methodLink R_Md 68 y_Md_areSame ∈ TB := tq 551 (by decide +kernel) rfl
theorem q_553 : Cond.instanceMethod y_Md_areSame ∈ TB := tq 553 (by decide +kernel) rfl
theorem q_554 : Cond.code y_Md_areSame b_Md_areSame 8 (some .boolean) ∈ TB := tq 554 (by decide +kernel) rfl
theorem d_Md_same_0 : decode b_Md_same 0 = .ok (.aload_n 0, 1) := by decide +kernel
theorem d_Md_same_1 : decode b_Md_same 1 = .ok (.iconst 0, 1) := by decide +kernel
theorem d_Md_same_2 : decode b_Md_same 2 = .ok (.putfield 44, 3) := by decide +kernel
theorem d_Md_same_5 : decode b_Md_same 5 = .ok (.iload_n 1, 1) := by decide +kernel
theorem d_Md_same_6 : decode b_Md_same 6 = .ok (.invokestatic 57, 3) := by decide +kernel
theorem d_Md_same_9 : decode b_Md_same 9 = .ok (.ifCond .eq 23, 3) := by decide +kernel
theorem d_Md_same_12 : decode b_Md_same 12 = .ok (.iload_n 2, 1) := by decide +kernel
theorem d_Md_same_13 : decode b_Md_same 13 = .ok (.invokestatic 57, 3) := by decide +kernel
theorem d_Md_same_16 : decode b_Md_same 16 = .ok (.ifCond .eq 16, 3) := by decide +kernel
theorem d_Md_same_19 : decode b_Md_same 19 = .ok (.aload_n 0, 1) := by decide +kernel
theorem d_Md_same_20 : decode b_Md_same 20 = .ok (.iload_n 1, 1) := by decide +kernel
theorem d_Md_same_21 : decode b_Md_same 21 = .ok (.iload_n 2, 1) := by decide +kernel
theorem d_Md_same_22 : decode b_Md_same 22 = .ok (.invokevirtual 68, 3) := by decide +kernel
theorem d_Md_same_25 : decode b_Md_same 25 = .ok (.ifCond .eq 7, 3) := by decide +kernel
theorem d_Md_same_28 : decode b_Md_same 28 = .ok (.iconst 1, 1) := by decide +kernel
theorem d_Md_same_29 : decode b_Md_same 29 = .ok (.goto 4, 3) := by decide +kernel
theorem d_Md_same_32 : decode b_Md_same 32 = .ok (.iconst 0, 1) := by decide +kernel
theorem d_Md_same_33 : decode b_Md_same 33 = .ok (.ireturn, 1) := by decide +kernel
noncomputable def f_Md_same (d : TMd) (p0 : Int32) (p1 : Int32) : (Int32 × TMd) := (if (f_Md_isToken p0) = 0 then (0, (TMd_set_thrown d 0)) else (if (f_Md_isToken p1) = 0 then (0, (TMd_set_thrown d 0)) else (if (f_Md_areSame (TMd_set_thrown d 0) p0 p1) = 0 then (0, (TMd_set_thrown d 0)) else (1, (TMd_set_thrown d 0)))))
set_option maxHeartbeats 4000000 in
set_option maxRecDepth 100000 in
theorem c_Md_same (l : Launch) (dC : Nat → ClassId) (dI : Nat → Nat → Nat) (ad : Nat → Nat) (ca : Nat → ClassId) (sz : Nat) (d : TMd) (p0 : Int32) (p1 : Int32) (hpre : MdS d) (F : (Int32 × TMd)) (he : F = f_Md_same d p0 p1) : wx_Mi l y_Md_same ws_Md_same ({ frames := 2, cells := 0, slots := 0, locals := 48 } : Room) (dC, dI) vwCl (t_M ca) [.ref (ad 16), .int p0, .int p1] (w_M ad ca d) sz (fun v : TMd => w_M ad ca v) (fun (r : Int32) (v : TMd) => (r, v) = F) := by
  refine Met.ofW (cc := b_Md_same) (maxL := 3) (ret := some .boolean) (by decide) rfl ?_
  intro p e s m args below meth c s₁ B hml hv
  obtain ⟨rfl, hsz, hP, hK, hD0, hN⟩ := hv
  have hx := B.exec
  have hb := B.bytes
  have hr := B.returns
  have hts := atoms_spec (ws := ws_Md_same) B.pre
  have ht : ∀ w ∈ TB, w.before _ s = true := fun w h => hts w (List.mem_cons_of_mem _ h)
  have hown : s.vm.findClass R_Md = some m.cls := findClass_of_methodNamed B.named
  have hlocks := B.notSynchronized
  subst hsz
  have hD := hD0.self (sz := s.heap.size)
  generalize hAe : va_A (w_M ad ca d) s.heap.size = A at hD ⊢
  have hA : ∀ q : Nat, s.heap.size ≤ q → A q := fun q h => by rw [← hAe]; exact Or.inr h
  have hS : va_S A s.heap s.heap [] := va_S.rf
  have hl := lv_entry ([.ref (ad 16), .int p0, .int p1]) (n := 3) (Nat.le_of_ble_eq_true rfl)
  rw [lg_entry_eq]
  generalize (lg_sl ([.ref (ad 16), .int p0, .int p1]) ++ List.replicate (3 - (lg_sl ([.ref (ad 16), .int p0, .int p1])).length) Slot.unset).toArray = ls at hl ⊢
  have hl : lv_has ls 3 [(0, .ref (ad 16)), (1, .int p0), (2, .int p1)] := hl
  unfold f_Md_same at he
  refine lv_aload_n hx hb d_Md_same_0 rfl (lv_at hl 0 rfl) ?_
  refine lv_iconst (v := 0) hx hb d_Md_same_1 (by decide) ?_
  refine va_put (D := (dC, dI)) (ci := 4) (v := .int 0) (ty := .int) (C := R_Md) (T := T_Md) (N := 23) hx hb ht i_Md ty_Md ty_Md_ok nm_Md hown hK hP hD hS 0 rfl rfl 0 (by decide) (ht _ q_445) (fun _ h9 => h9) rfl (by decide +kernel) rfl rfl (Nat.le_of_ble_eq_true rfl) d_Md_same_2 (fun H locs hP hD hS => ?_)
  have hP : va_P (dC, dI) vwCl (w_M ad ca (TMd_set_thrown d 0)) H := hP
  have hD : va_D A (w_M ad ca (TMd_set_thrown d 0)) := hD
  refine lv_iload_n hx hb d_Md_same_5 rfl (lv_at hl 1 rfl) ?_
  refine wx_ci (wS := fun _ : Unit => w_E ad ca) (ws2 := fun _ : Unit => w_M ad ca (TMd_set_thrown d 0)) (va_runS (As := [.int p0]) (rest := []) ⟨hx, hb, hml, hown, ht⟩ (c_Md_isToken l dC dI ad ca H.size p0 _ rfl) (va_cwS 1 ht (tb_S q_532 q_533 q_47 q_534) rfl rfl rfl p_Md_isToken.2 ⟨show 1 + 1 ≤ 2 by omega, show 8 + (1 + 11) + 22 ≤ 48 by omega⟩) (wx_preS (wc := (w_E ad ca)) hN hK hP hD [] [] rfl (by decide) rfl) rfl rfl hl.1 rfl (lv_room (Nat.le_of_ble_eq_true rfl)) d_Md_same_6 ⟨Nat.zero_le _, Nat.zero_le _⟩) hP hD hS hA [] [0, 1, 2, 3, 4, 5, 6, 7, 8, 9, 10, 11] [0, 1, 2, 3, 4, 5, 6, 7, 8, 9, 10, 11] rfl rfl (by decide) (by decide) (by decide) (fun _ => rfl) (fun r_1 _ H locs hw_1 hP hD hS => ?_)
  subst hw_1
  have hP : va_P (dC, dI) vwCl (w_M ad ca (TMd_set_thrown d 0)) H := hP
  have hD : va_D A (w_M ad ca (TMd_set_thrown d 0)) := hD
  refine lv_if_eq (tgt := 32) hx hb d_Md_same_9 (by decide) (fun c_2 => ?_) (fun c_2 => ?_)
  · have he := he.trans (if_pos c_2)
    refine lv_iconst (v := 0) hx hb d_Md_same_32 (by decide) ?_
    exact W.zret hx hb hr (by rfl) (v := 0) (fun t ht hW => ⟨⟨0, (TMd_set_thrown d 0), rfl, he.symm, by rw [ht]; exact hP, va_K.moved hW.alike hK, hD⟩, hS.F ht⟩) hS.2.2 d_Md_same_33
  · have he := he.trans (if_neg c_2)
    refine lv_iload_n hx hb d_Md_same_12 rfl (lv_at hl 2 rfl) ?_
    refine wx_ci (wS := fun _ : Unit => w_E ad ca) (ws2 := fun _ : Unit => w_M ad ca (TMd_set_thrown d 0)) (va_runS (As := [.int p1]) (rest := []) ⟨hx, hb, hml, hown, ht⟩ (c_Md_isToken l dC dI ad ca H.size p1 _ rfl) (va_cwS 1 ht (tb_S q_532 q_533 q_47 q_534) rfl rfl rfl p_Md_isToken.2 ⟨show 1 + 1 ≤ 2 by omega, show 8 + (1 + 11) + 22 ≤ 48 by omega⟩) (wx_preS (wc := (w_E ad ca)) hN hK hP hD [] [] rfl (by decide) rfl) rfl rfl hl.1 rfl (lv_room (Nat.le_of_ble_eq_true rfl)) d_Md_same_13 ⟨Nat.zero_le _, Nat.zero_le _⟩) hP hD hS hA [] [0, 1, 2, 3, 4, 5, 6, 7, 8, 9, 10, 11] [0, 1, 2, 3, 4, 5, 6, 7, 8, 9, 10, 11] rfl rfl (by decide) (by decide) (by decide) (fun _ => rfl) (fun r_3 _ H locs hw_3 hP hD hS => ?_)
    subst hw_3
    have hP : va_P (dC, dI) vwCl (w_M ad ca (TMd_set_thrown d 0)) H := hP
    have hD : va_D A (w_M ad ca (TMd_set_thrown d 0)) := hD
    refine lv_if_eq (tgt := 32) hx hb d_Md_same_16 (by decide) (fun c_4 => ?_) (fun c_4 => ?_)
    · have he := he.trans (if_pos c_4)
      refine lv_iconst (v := 0) hx hb d_Md_same_32 (by decide) ?_
      exact W.zret hx hb hr (by rfl) (v := 0) (fun t ht hW => ⟨⟨0, (TMd_set_thrown d 0), rfl, he.symm, by rw [ht]; exact hP, va_K.moved hW.alike hK, hD⟩, hS.F ht⟩) hS.2.2 d_Md_same_33
    · have he := he.trans (if_neg c_4)
      refine lv_aload_n hx hb d_Md_same_19 rfl (lv_at hl 0 rfl) ?_
      refine lv_iload_n hx hb d_Md_same_20 rfl (lv_at hl 1 rfl) ?_
      refine lv_iload_n hx hb d_Md_same_21 rfl (lv_at hl 2 rfl) ?_
      refine wx_ci (wS := fun _ : Unit => w_M ad ca (TMd_set_thrown d 0)) (ws2 := fun _ : Unit => w_M ad ca (TMd_set_thrown d 0)) (va_runV (As := [.int p0, .int p1]) (rest := []) ⟨hx, hb, hml, hown, ht⟩ (c_Md_areSame l dC dI ad ca H.size (TMd_set_thrown d 0) p0 p1 ⟨isTok c_2, isTok c_4, hpre⟩ _ rfl) (cwV 2 ht (tb_V q_551 q_553 q_22 q_47 q_554) rfl rfl rfl p_Md_areSame ⟨show 1 + 1 ≤ 2 by omega, show 8 + (8 + 11) + 21 ≤ 48 by omega⟩) (wx_preV (wc := (w_M ad ca (TMd_set_thrown d 0))) hN hK hP hD [0, 1, 2, 3, 4, 5, 6, 7, 8, 9, 10, 11] [0, 1, 2, 3, 4, 5, 6, 7, 8, 9, 10] rfl (by decide) rfl (ci := 4) (q0 := 0) rfl rfl) rfl rfl hl.1 rfl (lv_room (Nat.le_of_ble_eq_true rfl)) d_Md_same_22 ⟨Nat.zero_le _, Nat.zero_le _⟩) hP hD hS hA [0, 1, 2, 3, 4, 5, 6, 7, 8, 9, 10, 11] [] [0, 1, 2, 3, 4, 5, 6, 7, 8, 9, 10, 11] rfl rfl (by decide) (by decide) (by decide) (fun _ => rfl) (fun r_5 _ H locs hw_5 hP hD hS => ?_)
      subst hw_5
      have hP : va_P (dC, dI) vwCl (w_M ad ca (TMd_set_thrown d 0)) H := hP
      have hD : va_D A (w_M ad ca (TMd_set_thrown d 0)) := hD
      refine lv_if_eq (tgt := 32) hx hb d_Md_same_25 (by decide) (fun c_6 => ?_) (fun c_6 => ?_)
      · have he := he.trans (if_pos c_6)
        refine lv_iconst (v := 0) hx hb d_Md_same_32 (by decide) ?_
        exact W.zret hx hb hr (by rfl) (v := 0) (fun t ht hW => ⟨⟨0, (TMd_set_thrown d 0), rfl, he.symm, by rw [ht]; exact hP, va_K.moved hW.alike hK, hD⟩, hS.F ht⟩) hS.2.2 d_Md_same_33
      · have he := he.trans (if_neg c_6)
        refine lv_iconst (v := 1) hx hb d_Md_same_28 (by decide) ?_
        refine lv_goto (tgt := 33) hx hb d_Md_same_29 (by decide) ?_
        exact W.zret hx hb hr (by rfl) (v := 1) (fun t ht hW => ⟨⟨1, (TMd_set_thrown d 0), rfl, he.symm, by rw [ht]; exact hP, va_K.moved hW.alike hK, hD⟩, hS.F ht⟩) hS.2.2 d_Md_same_33
