theorem at_w1 {d : TMd} {x : Int32} (h : 0 ≤ (TMd_outSize d).toInt ∧ (TMd_outSize d).toInt ≤ 300) (c : ¬ f_Md_in x 0 (TMd_outSize d - 1) = 0) : vp_in x 300 := by
  have h1 := in_of c
  rw [e_0, pred_toInt (by omega)] at h1
  exact vp_of h1.1 (by omega)
noncomputable def f_Md_at_w (d : TMd) (p0 : Int32) : (Int32 × TMd) := (if (f_Md_in p0 0 ((TMd_outSize d) - 1)) = 0 then ((-1), (TMd_set_thrown d 0)) else (((TMd_out d) p0.toNatClampNeg), (TMd_set_thrown d 0)))
set_option maxHeartbeats 4000000 in
set_option maxRecDepth 100000 in
theorem c_Md_at_w (l : Launch) (dC : Nat → ClassId) (dI : Nat → Nat → Nat) (ad : Nat → Nat) (ca : Nat → ClassId) (sz : Nat) (d : TMd) (p0 : Int32) (hpre : 0 ≤ (TMd_outSize d).toInt ∧ (TMd_outSize d).toInt ≤ 300) (F : (Int32 × TMd)) (he : F = f_Md_at_w d p0) : wx_Mi l y_Md_at ws_Md_at ({ frames := 1, cells := 0, slots := 0, locals := 22 } : Room) (dC, dI) vwCl (t_M ca) [.ref (ad 16), .int p0] (w_M ad ca d) sz (fun v : TMd => w_M ad ca v) (fun (r : Int32) (v : TMd) => (r, v) = F) := by
  refine Met.ofW (cc := b_Md_at) (maxL := 2) (ret := some .int) (by decide) rfl ?_
  intro p e s m args below meth c s₁ B hml hv
  obtain ⟨rfl, hsz, hP, hK, hD0, hN⟩ := hv
  have hx := B.exec
  have hb := B.bytes
  have hr := B.returns
  have hts := atoms_spec (ws := ws_Md_at) B.pre
  have ht : ∀ w ∈ TB, w.before _ s = true := fun w h => hts w (List.mem_cons_of_mem _ h)
  have hown : s.vm.findClass R_Md = some m.cls := findClass_of_methodNamed B.named
  have hlocks := B.notSynchronized
  subst hsz
  have hD := hD0.self (sz := s.heap.size)
  generalize hAe : va_A (w_M ad ca d) s.heap.size = A at hD ⊢
  have hA : ∀ q : Nat, s.heap.size ≤ q → A q := fun q h => by rw [← hAe]; exact Or.inr h
  have hS : va_S A s.heap s.heap [] := va_S.rf
  have hl := lv_entry ([.ref (ad 16), .int p0]) (n := 2) (Nat.le_of_ble_eq_true rfl)
  rw [lg_entry_eq]
  generalize (lg_sl ([.ref (ad 16), .int p0]) ++ List.replicate (2 - (lg_sl ([.ref (ad 16), .int p0])).length) Slot.unset).toArray = ls at hl ⊢
  have hl : lv_has ls 2 [(0, .ref (ad 16)), (1, .int p0)] := hl
  unfold f_Md_at_w at he
  refine lv_aload_n hx hb d_Md_at_0 rfl (lv_at hl 0 rfl) ?_
  refine lv_iconst (v := 0) hx hb d_Md_at_1 (by decide) ?_
  refine va_put (D := (dC, dI)) (ci := 4) (v := .int 0) (ty := .int) (C := R_Md) (T := T_Md) (N := 23) hx hb ht i_Md ty_Md ty_Md_ok nm_Md hown hK hP hD hS 0 rfl rfl 0 (by decide) (ht _ q_445) (fun _ h9 => h9) rfl (by decide +kernel) rfl rfl (Nat.le_of_ble_eq_true rfl) d_Md_at_2 (fun H locs hP hD hS => ?_)
  have hP : va_P (dC, dI) vwCl (w_M ad ca (TMd_set_thrown d 0)) H := hP
  have hD : va_D A (w_M ad ca (TMd_set_thrown d 0)) := hD
  refine lv_iload_n hx hb d_Md_at_5 rfl (lv_at hl 1 rfl) ?_
  refine lv_iconst (v := 0) hx hb d_Md_at_6 (by decide) ?_
  refine lv_aload_n hx hb d_Md_at_7 rfl (lv_at hl 0 rfl) ?_
  refine va_get (D := (dC, dI)) (ci := 4) (v := .int (TMd_outSize d)) (C := R_Md) (T := T_Md) (N := 23) hx hb ht i_Md hown hK hP 0 rfl rfl 15 (by decide) (ht _ q_460) (fun _ h9 => h9) rfl d_Md_at_8 ?_
  refine lv_iconst (v := 1) hx hb d_Md_at_11 (by decide) ?_
  refine lv_isub hx hb d_Md_at_12 ?_
  refine wx_ci (wS := fun _ : Unit => w_E ad ca) (ws2 := fun _ : Unit => w_M ad ca (TMd_set_thrown d 0)) (va_runS (As := [.int p0, .int 0, .int ((TMd_outSize d) - 1)]) (rest := []) ⟨hx, hb, hml, hown, ht⟩ (c_Md_in l dC dI ad ca H.size p0 0 ((TMd_outSize d) - 1) _ rfl) (va_cwS 3 ht (tb_S q_519 q_520 q_47 q_521) rfl rfl rfl p_Md_in.2 ⟨show 0 + 1 ≤ 1 by omega, show 8 + (3 + 11) + 0 ≤ 22 by omega⟩) (wx_preS (wc := (w_E ad ca)) hN hK hP hD [] [] rfl (by decide) rfl) rfl rfl hl.1 rfl (lv_room (Nat.le_of_ble_eq_true rfl)) d_Md_at_13 ⟨Nat.zero_le _, Nat.zero_le _⟩) hP hD hS hA [] [0, 1, 2, 3, 4, 5, 6, 7, 8, 9, 10, 11] [0, 1, 2, 3, 4, 5, 6, 7, 8, 9, 10, 11] rfl rfl (by decide) (by decide) (by decide) (fun _ => rfl) (fun r_1 _ H locs hw_1 hP hD hS => ?_)
  subst hw_1
  have hP : va_P (dC, dI) vwCl (w_M ad ca (TMd_set_thrown d 0)) H := hP
  have hD : va_D A (w_M ad ca (TMd_set_thrown d 0)) := hD
  refine lv_if_eq (tgt := 28) hx hb d_Md_at_16 (by decide) (fun c_2 => ?_) (fun c_2 => ?_)
  · have he := he.trans (if_pos c_2)
    refine lv_iconst (v := (-1)) hx hb d_Md_at_28 (by decide) ?_
    exact W.iret hx hb hr (v := (-1)) (fun t ht hW => ⟨⟨(-1), (TMd_set_thrown d 0), rfl, he.symm, by rw [ht]; exact hP, va_K.moved hW.alike hK, hD⟩, hS.F ht⟩) hS.2.2 d_Md_at_29
  · have he := he.trans (if_neg c_2)
    refine lv_aload_n hx hb d_Md_at_19 rfl (lv_at hl 0 rfl) ?_
    refine va_get (D := (dC, dI)) (ci := 4) (v := .ref (ad 25)) (C := R_Md) (T := T_Md) (N := 23) hx hb ht i_Md hown hK hP 0 rfl rfl 14 (by decide) (ht _ q_459) (fun _ h9 => h9) rfl d_Md_at_20 ?_
    refine lv_iload_n hx hb d_Md_at_23 rfl (lv_at hl 1 rfl) ?_
    refine va_iald (f := (TMd_out d)) hx hb hK hP 9 8 rfl rfl (at_w1 (d := d) hpre c_2) d_Md_at_24 ?_
    refine lv_goto (tgt := 29) hx hb d_Md_at_25 (by decide) ?_
    exact W.iret hx hb hr (v := ((TMd_out d) p0.toNatClampNeg)) (fun t ht hW => ⟨⟨((TMd_out d) p0.toNatClampNeg), (TMd_set_thrown d 0), rfl, he.symm, by rw [ht]; exact hP, va_K.moved hW.alike hK, hD⟩, hS.F ht⟩) hS.2.2 d_Md_at_29
