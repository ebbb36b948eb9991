theorem q_25 : Cond.selects R_Md y_Md_next y_Md_next ∈ TB := tq 25 (by decide +kernel) rfl
theorem q_459 : Cond.fieldLink R_Md 35 "ConditionTextModel" "out" "[I" ∈ TB := tq 459 (by decide +kernel) rfl
theorem q_567 : Cond.methodLink R_Md 88 y_Md_next ∈ TB := tq 567 (by decide +kernel) rfl
theorem q_569 : Cond.instanceMethod y_Md_next ∈ TB := tq 569 (by decide +kernel) rfl
theorem q_570 : Cond.code y_Md_next b_Md_next 2 (some .int) ∈ TB := tq 570 (by decide +kernel) rfl
theorem d_Md_need_0 : decode b_Md_need 0 = .ok (.aload_n 0, 1) := by decide +kernel
theorem d_Md_need_1 : decode b_Md_need 1 = .ok (.invokevirtual 88, 3) := by decide +kernel
theorem d_Md_need_4 : decode b_Md_need 4 = .ok (.istore_n 1, 1) := by decide +kernel
theorem d_Md_need_5 : decode b_Md_need 5 = .ok (.iload_n 1, 1) := by decide +kernel
theorem d_Md_need_6 : decode b_Md_need 6 = .ok (.ifCond .ge 8, 3) := by decide +kernel
theorem d_Md_need_9 : decode b_Md_need 9 = .ok (.aload_n 0, 1) := by decide +kernel
theorem d_Md_need_10 : decode b_Md_need 10 = .ok (.iconst 1, 1) := by decide +kernel
theorem d_Md_need_11 : decode b_Md_need 11 = .ok (.invokevirtual 84, 3) := by decide +kernel
theorem d_Md_need_14 : decode b_Md_need 14 = .ok (.iload_n 1, 1) := by decide +kernel
theorem d_Md_need_15 : decode b_Md_need 15 = .ok (.ireturn, 1) := by decide +kernel
theorem d_Md_goOnWith_0 : decode b_Md_goOnWith 0 = .ok (.aload_n 0, 1) := by decide +kernel
theorem d_Md_goOnWith_1 : decode b_Md_goOnWith 1 = .ok (.getfield 29, 3) := by decide +kernel
theorem d_Md_goOnWith_4 : decode b_Md_goOnWith 4 = .ok (.aload_n 0, 1) := by decide +kernel
theorem d_Md_goOnWith_5 : decode b_Md_goOnWith 5 = .ok (.getfield 78, 3) := by decide +kernel
theorem d_Md_goOnWith_8 : decode b_Md_goOnWith 8 = .ok (.aload_n 0, 1) := by decide +kernel
theorem d_Md_goOnWith_9 : decode b_Md_goOnWith 9 = .ok (.iload_n 1, 1) := by decide +kernel
theorem d_Md_goOnWith_10 : decode b_Md_goOnWith 10 = .ok (.invokevirtual 65, 3) := by decide +kernel
theorem d_Md_goOnWith_13 : decode b_Md_goOnWith 13 = .ok (.iastore, 1) := by decide +kernel
theorem d_Md_goOnWith_14 : decode b_Md_goOnWith 14 = .ok (.aload_n 0, 1) := by decide +kernel
theorem d_Md_goOnWith_15 : decode b_Md_goOnWith 15 = .ok (.getfield 32, 3) := by decide +kernel
theorem d_Md_goOnWith_18 : decode b_Md_goOnWith 18 = .ok (.aload_n 0, 1) := by decide +kernel
theorem d_Md_goOnWith_19 : decode b_Md_goOnWith 19 = .ok (.getfield 78, 3) := by decide +kernel
theorem d_Md_goOnWith_22 : decode b_Md_goOnWith 22 = .ok (.iconst 0, 1) := by decide +kernel
theorem d_Md_goOnWith_23 : decode b_Md_goOnWith 23 = .ok (.iastore, 1) := by decide +kernel
theorem d_Md_goOnWith_24 : decode b_Md_goOnWith 24 = .ok (.aload_n 0, 1) := by decide +kernel
theorem d_Md_goOnWith_25 : decode b_Md_goOnWith 25 = .ok (.dup, 1) := by decide +kernel
theorem d_Md_goOnWith_26 : decode b_Md_goOnWith 26 = .ok (.getfield 78, 3) := by decide +kernel
theorem d_Md_goOnWith_29 : decode b_Md_goOnWith 29 = .ok (.iconst 1, 1) := by decide +kernel
theorem d_Md_goOnWith_30 : decode b_Md_goOnWith 30 = .ok (.iadd, 1) := by decide +kernel
theorem d_Md_goOnWith_31 : decode b_Md_goOnWith 31 = .ok (.putfield 78, 3) := by decide +kernel
theorem d_Md_goOnWith_34 : decode b_Md_goOnWith 34 = .ok (.return_, 1) := by decide +kernel
theorem d_Md_at_0 : decode b_Md_at 0 = .ok (.aload_n 0, 1) := by decide +kernel
theorem d_Md_at_1 : decode b_Md_at 1 = .ok (.iconst 0, 1) := by decide +kernel
theorem d_Md_at_2 : decode b_Md_at 2 = .ok (.putfield 44, 3) := by decide +kernel
theorem d_Md_at_5 : decode b_Md_at 5 = .ok (.iload_n 1, 1) := by decide +kernel
theorem d_Md_at_6 : decode b_Md_at 6 = .ok (.iconst 0, 1) := by decide +kernel
theorem d_Md_at_7 : decode b_Md_at 7 = .ok (.aload_n 0, 1) := by decide +kernel
theorem d_Md_at_8 : decode b_Md_at 8 = .ok (.getfield 151, 3) := by decide +kernel
theorem d_Md_at_11 : decode b_Md_at 11 = .ok (.iconst 1, 1) := by decide +kernel
theorem d_Md_at_12 : decode b_Md_at 12 = .ok (.isub, 1) := by decide +kernel
theorem d_Md_at_13 : decode b_Md_at 13 = .ok (.invokestatic 48, 3) := by decide +kernel
theorem d_Md_at_16 : decode b_Md_at 16 = .ok (.ifCond .eq 12, 3) := by decide +kernel
theorem d_Md_at_19 : decode b_Md_at 19 = .ok (.aload_n 0, 1) := by decide +kernel
theorem d_Md_at_20 : decode b_Md_at 20 = .ok (.getfield 35, 3) := by decide +kernel
theorem d_Md_at_23 : decode b_Md_at 23 = .ok (.iload_n 1, 1) := by decide +kernel
theorem d_Md_at_24 : decode b_Md_at 24 = .ok (.iaload, 1) := by decide +kernel
theorem d_Md_at_25 : decode b_Md_at 25 = .ok (.goto 4, 3) := by decide +kernel
theorem d_Md_at_28 : decode b_Md_at 28 = .ok (.iconst (-1), 1) := by decide +kernel
theorem d_Md_at_29 : decode b_Md_at 29 = .ok (.ireturn, 1) := by decide +kernel
noncomputable def f_Md_need (d : TMd) : (Int32 × TMd) := (match f_Md_next d with | (r_1, v_1) => (if 0 ≤ r_1 then (r_1, v_1) else (let v_3 := f_Md_fail v_1 1; (r_1, v_3))))
set_option maxHeartbeats 4000000 in
set_option maxRecDepth 100000 in
theorem c_Md_need (l : Launch) (dC : Nat → ClassId) (dI : Nat → Nat → Nat) (ad : Nat → Nat) (ca : Nat → ClassId) (sz : Nat) (d : TMd) (hpre : MdS d ∧ MdP d) (F : (Int32 × TMd)) (he : F = f_Md_need d) : wx_Mi l y_Md_need ws_Md_need ({ frames := 2, cells := 0, slots := 0, locals := 42 } : Room) (dC, dI) vwCl (t_M ca) [.ref (ad 16)] (w_M ad ca d) sz (fun v : TMd => w_M ad ca v) (fun (r : Int32) (v : TMd) => (r, v) = F) := by
  refine Met.ofW (cc := b_Md_need) (maxL := 2) (ret := some .int) (by decide) rfl ?_
  intro p e s m args below meth c s₁ B hml hv
  obtain ⟨rfl, hsz, hP, hK, hD0, hN⟩ := hv
  have hx := B.exec
  have hb := B.bytes
  have hr := B.returns
  have hts := atoms_spec (ws := ws_Md_need) B.pre
  have ht : ∀ w ∈ TB, w.before _ s = true := fun w h => hts w (List.mem_cons_of_mem _ h)
  have hown : s.vm.findClass R_Md = some m.cls := findClass_of_methodNamed B.named
  have hlocks := B.notSynchronized
  subst hsz
  have hD := hD0.self (sz := s.heap.size)
  generalize hAe : va_A (w_M ad ca d) s.heap.size = A at hD ⊢
  have hA : ∀ q : Nat, s.heap.size ≤ q → A q := fun q h => by rw [← hAe]; exact Or.inr h
  have hS : va_S A s.heap s.heap [] := va_S.rf
  have hl := lv_entry ([.ref (ad 16)]) (n := 2) (Nat.le_of_ble_eq_true rfl)
  rw [lg_entry_eq]
  generalize (lg_sl ([.ref (ad 16)]) ++ List.replicate (2 - (lg_sl ([.ref (ad 16)])).length) Slot.unset).toArray = ls at hl ⊢
  have hl : lv_has ls 2 [(0, .ref (ad 16))] := hl
  unfold f_Md_need at he
  refine lv_aload_n hx hb d_Md_need_0 rfl (lv_at hl 0 rfl) ?_
  refine wx_ci (wS := fun v : TMd => w_M ad ca v) (ws2 := fun v : TMd => w_M ad ca v) (va_runV (As := []) (rest := []) ⟨hx, hb, hml, hown, ht⟩ (c_Md_next l dC dI ad ca s.heap.size d hpre _ rfl) (cwV 0 ht (tb_V q_567 q_569 q_25 q_47 q_570) rfl rfl rfl p_Md_next ⟨show 1 + 1 ≤ 2 by omega, show 8 + (2 + 11) + 21 ≤ 42 by omega⟩) (wx_preV (wc := (w_M ad ca d)) hN hK hP hD [0, 1, 2, 3, 4, 5, 6, 7, 8, 9, 10, 11] [0, 1, 2, 3, 4, 5, 6, 7, 8, 9, 10] rfl (by decide) rfl (ci := 4) (q0 := 0) rfl rfl) rfl rfl hl.1 rfl (lv_room (Nat.le_of_ble_eq_true rfl)) d_Md_need_1 ⟨Nat.zero_le _, Nat.zero_le _⟩) hP hD hS hA [0, 1, 2, 3, 4, 5, 6, 7, 8, 9, 10, 11] [] [0, 1, 2, 3, 4, 5, 6, 7, 8, 9, 10, 11] rfl rfl (by decide) (by decide) (by decide) (fun _ => rfl) (fun r_1 v_1 H locs hw_1 hP hD hS => ?_)
  have hP : va_P (dC, dI) vwCl (w_M ad ca v_1) H := hP
  have hD : va_D A (w_M ad ca v_1) := hD
  rw [← hw_1] at he
  try dsimp only at he
  refine lv_istore_n (lv' := [(1, .int r_1), (0, .ref (ad 16))]) hx hb d_Md_need_4 rfl hl (by decide) rfl (fun ls hl => ?_)
  refine lv_iload_n hx hb d_Md_need_5 rfl (lv_at hl 0 rfl) ?_
  refine lv_if_ge (tgt := 14) hx hb d_Md_need_6 (by decide) (fun c_2 => ?_) (fun c_2 => ?_)
  · have he := he.trans (if_pos c_2)
    refine lv_iload_n hx hb d_Md_need_14 rfl (lv_at hl 0 rfl) ?_
    exact W.iret hx hb hr (v := r_1) (fun t ht hW => ⟨⟨r_1, v_1, rfl, he.symm, by rw [ht]; exact hP, va_K.moved hW.alike hK, hD⟩, hS.F ht⟩) hS.2.2 d_Md_need_15
  · have he := he.trans (if_neg c_2)
    refine lv_aload_n hx hb d_Md_need_9 rfl (lv_at hl 1 rfl) ?_
    refine lv_iconst (v := 1) hx hb d_Md_need_10 (by decide) ?_
    refine wx_cv (wS := fun v : TMd => w_M ad ca v) (ws2 := fun v : TMd => w_M ad ca v) (va_runV (As := [.int 1]) (rest := []) ⟨hx, hb, hml, hown, ht⟩ (c_Md_fail l dC dI ad ca H.size v_1 1 _ rfl) (cwV 1 ht (tb_V q_571 q_573 q_26 q_47 q_574) rfl rfl rfl p_Md_fail ⟨show 0 + 1 ≤ 2 by omega, show 8 + (2 + 11) + 0 ≤ 42 by omega⟩) (wx_preV (wc := (w_M ad ca v_1)) hN hK hP hD [0, 1, 2, 3, 4, 5, 6, 7, 8, 9, 10, 11] [0, 1, 2, 3, 4, 5, 6, 7, 8, 9, 10] rfl (by decide) rfl (ci := 4) (q0 := 0) rfl rfl) rfl rfl hl.1 rfl (lv_room (Nat.le_of_ble_eq_true rfl)) d_Md_need_11 ⟨Nat.zero_le _, Nat.zero_le _⟩) hP hD hS hA [0, 1, 2, 3, 4, 5, 6, 7, 8, 9, 10, 11] [] [0, 1, 2, 3, 4, 5, 6, 7, 8, 9, 10, 11] rfl rfl (by decide) (by decide) (by decide) (fun _ => rfl) (fun v_3 H locs hw_3 hP hD hS => ?_)
    have hP : va_P (dC, dI) vwCl (w_M ad ca v_3) H := hP
    have hD : va_D A (w_M ad ca v_3) := hD
    rw [← hw_3] at he
    try dsimp only at he
    refine lv_iload_n hx hb d_Md_need_14 rfl (lv_at hl 0 rfl) ?_
    exact W.iret hx hb hr (v := r_1) (fun t ht hW => ⟨⟨r_1, v_3, rfl, he.symm, by rw [ht]; exact hP, va_K.moved hW.alike hK, hD⟩, hS.F ht⟩) hS.2.2 d_Md_need_15
noncomputable def f_Md_goOnWith (d : TMd) (p0 : Int32) : TMd := (let y_2 := (f_Md_valueOf d p0); (let g_3 := (upd (TMd_pileRows d) (TMd_pile d).toNatClampNeg y_2); (let g_4 := (upd (TMd_pilePlaces d) (TMd_pile d).toNatClampNeg 0); (let y_5 := ((TMd_pile d) + 1); (TMd_set_pile (TMd_set_pilePlaces (TMd_set_pileRows d g_3) g_4) y_5)))))
set_option maxHeartbeats 4000000 in
set_option maxRecDepth 100000 in
theorem c_Md_goOnWith (l : Launch) (dC : Nat → ClassId) (dI : Nat → Nat → Nat) (ad : Nat → Nat) (ca : Nat → ClassId) (sz : Nat) (d : TMd) (p0 : Int32) (hpre : p0.toInt < 4136 ∧ MdP d) (F : TMd) (he : F = f_Md_goOnWith d p0) : wx_Mv l y_Md_goOnWith ws_Md_goOnWith ({ frames := 1, cells := 0, slots := 0, locals := 21 } : Room) (dC, dI) vwCl (t_M ca) [.ref (ad 16), .int p0] (w_M ad ca d) sz (fun v : TMd => w_M ad ca v) (fun v : TMd => v = F) := by
  refine Met.ofW (cc := b_Md_goOnWith) (maxL := 2) (ret := none) (by decide) rfl ?_
  intro p e s m args below meth c s₁ B hml hv
  obtain ⟨rfl, hsz, hP, hK, hD0, hN⟩ := hv
  have hx := B.exec
  have hb := B.bytes
  have hr := B.returns
  have hts := atoms_spec (ws := ws_Md_goOnWith) B.pre
  have ht : ∀ w ∈ TB, w.before _ s = true := fun w h => hts w (List.mem_cons_of_mem _ h)
  have hown : s.vm.findClass R_Md = some m.cls := findClass_of_methodNamed B.named
  have hlocks := B.notSynchronized
  subst hsz
  have hD := hD0.self (sz := s.heap.size)
  generalize hAe : va_A (w_M ad ca d) s.heap.size = A at hD ⊢
  have hA : ∀ q : Nat, s.heap.size ≤ q → A q := fun q h => by rw [← hAe]; exact Or.inr h
  have hS : va_S A s.heap s.heap [] := va_S.rf
  have hl := lv_entry ([.ref (ad 16), .int p0]) (n := 2) (Nat.le_of_ble_eq_true rfl)
  rw [lg_entry_eq]
  generalize (lg_sl ([.ref (ad 16), .int p0]) ++ List.replicate (2 - (lg_sl ([.ref (ad 16), .int p0])).length) Slot.unset).toArray = ls at hl ⊢
  have hl : lv_has ls 2 [(0, .ref (ad 16)), (1, .int p0)] := hl
  unfold f_Md_goOnWith at he
  refine lv_aload_n hx hb d_Md_goOnWith_0 rfl (lv_at hl 0 rfl) ?_
  refine va_get (D := (dC, dI)) (ci := 4) (v := .ref (ad 23)) (C := R_Md) (T := T_Md) (N := 23) hx hb ht i_Md hown hK hP 0 rfl rfl 8 (by decide) (ht _ q_453) (fun _ h9 => h9) rfl d_Md_goOnWith_1 ?_
  refine lv_aload_n hx hb d_Md_goOnWith_4 rfl (lv_at hl 0 rfl) ?_
  refine va_get (D := (dC, dI)) (ci := 4) (v := .int (TMd_pile d)) (C := R_Md) (T := T_Md) (N := 23) hx hb ht i_Md hown hK hP 0 rfl rfl 10 (by decide) (ht _ q_455) (fun _ h9 => h9) rfl d_Md_goOnWith_5 ?_
  refine lv_aload_n hx hb d_Md_goOnWith_8 rfl (lv_at hl 0 rfl) ?_
  refine lv_iload_n hx hb d_Md_goOnWith_9 rfl (lv_at hl 1 rfl) ?_
  refine wx_ci (wS := fun _ : Unit => w_M ad ca d) (ws2 := fun _ : Unit => w_M ad ca d) (va_runV (As := [.int p0]) (rest := [.int (TMd_pile d), .ref (ad 23)]) ⟨hx, hb, hml, hown, ht⟩ (c_Md_valueOf l dC dI ad ca s.heap.size d p0 hpre.1 _ rfl) (cwV 1 ht (tb_V q_559 q_561 q_24 q_47 q_562) rfl rfl rfl p_Md_valueOf ⟨show 0 + 1 ≤ 1 by omega, show 8 + (2 + 11) + 0 ≤ 21 by omega⟩) (wx_preV (wc := (w_M ad ca d)) hN hK hP hD [0, 1, 2, 3, 4, 5, 6, 7, 8, 9, 10, 11] [0, 1, 2, 3, 4, 5, 6, 7, 8, 9, 10] rfl (by decide) rfl (ci := 4) (q0 := 0) rfl rfl) rfl rfl hl.1 rfl (lv_room (Nat.le_of_ble_eq_true rfl)) d_Md_goOnWith_10 ⟨Nat.zero_le _, Nat.zero_le _⟩) hP hD hS hA [0, 1, 2, 3, 4, 5, 6, 7, 8, 9, 10, 11] [] [0, 1, 2, 3, 4, 5, 6, 7, 8, 9, 10, 11] rfl rfl (by decide) (by decide) (by decide) (fun _ => rfl) (fun r_1 _ H locs hw_1 hP hD hS => ?_)
  subst hw_1
  have hP : va_P (dC, dI) vwCl (w_M ad ca d) H := hP
  have hD : va_D A (w_M ad ca d) := hD
  refine lv_topi (fun y_2 ey_2 => ?_)
  rw [← ey_2] at he
  try dsimp only at he
  refine va_iast (f := (TMd_pileRows d)) hx hb hK hP hD hS 7 6 rfl rfl (go_1 (d := d) hpre.2) d_Md_goOnWith_13 (fun H locs hP hD hS => ?_)
  obtain ⟨g_3, eg_3⟩ : ∃ z, z = (upd (TMd_pileRows d) (TMd_pile d).toNatClampNeg y_2) := ⟨_, rfl⟩
  rw [← eg_3] at he hP hD
  try dsimp only at he
  have hP : va_P (dC, dI) vwCl (w_M ad ca (TMd_set_pileRows d g_3)) H := hP
  have hD : va_D A (w_M ad ca (TMd_set_pileRows d g_3)) := hD
  refine lv_aload_n hx hb d_Md_goOnWith_14 rfl (lv_at hl 0 rfl) ?_
  refine va_get (D := (dC, dI)) (ci := 4) (v := .ref (ad 24)) (C := R_Md) (T := T_Md) (N := 23) hx hb ht i_Md hown hK hP 0 rfl rfl 9 (by decide) (ht _ q_454) (fun _ h9 => h9) rfl d_Md_goOnWith_15 ?_
  refine lv_aload_n hx hb d_Md_goOnWith_18 rfl (lv_at hl 0 rfl) ?_
  refine va_get (D := (dC, dI)) (ci := 4) (v := .int (TMd_pile d)) (C := R_Md) (T := T_Md) (N := 23) hx hb ht i_Md hown hK hP 0 rfl rfl 10 (by decide) (ht _ q_455) (fun _ h9 => h9) rfl d_Md_goOnWith_19 ?_
  refine lv_iconst (v := 0) hx hb d_Md_goOnWith_22 (by decide) ?_
  refine va_iast (f := (TMd_pilePlaces d)) hx hb hK hP hD hS 8 7 rfl rfl (go_1 (d := d) hpre.2) d_Md_goOnWith_23 (fun H locs hP hD hS => ?_)
  obtain ⟨g_4, eg_4⟩ : ∃ z, z = (upd (TMd_pilePlaces d) (TMd_pile d).toNatClampNeg 0) := ⟨_, rfl⟩
  rw [← eg_4] at he hP hD
  try dsimp only at he
  have hP : va_P (dC, dI) vwCl (w_M ad ca (TMd_set_pilePlaces (TMd_set_pileRows d g_3) g_4)) H := hP
  have hD : va_D A (w_M ad ca (TMd_set_pilePlaces (TMd_set_pileRows d g_3) g_4)) := hD
  refine lv_aload_n hx hb d_Md_goOnWith_24 rfl (lv_at hl 0 rfl) ?_
  refine lv_dup hx hb d_Md_goOnWith_25 rfl ?_
  refine va_get (D := (dC, dI)) (ci := 4) (v := .int (TMd_pile d)) (C := R_Md) (T := T_Md) (N := 23) hx hb ht i_Md hown hK hP 0 rfl rfl 10 (by decide) (ht _ q_455) (fun _ h9 => h9) rfl d_Md_goOnWith_26 ?_
  refine lv_iconst (v := 1) hx hb d_Md_goOnWith_29 (by decide) ?_
  refine lv_iadd hx hb d_Md_goOnWith_30 ?_
  refine lv_topi (fun y_5 ey_5 => ?_)
  rw [← ey_5] at he
  try dsimp only at he
  refine va_put (D := (dC, dI)) (ci := 4) (v := .int y_5) (ty := .int) (C := R_Md) (T := T_Md) (N := 23) hx hb ht i_Md ty_Md ty_Md_ok nm_Md hown hK hP hD hS 0 rfl rfl 10 (by decide) (ht _ q_455) (fun _ h9 => h9) rfl (by decide +kernel) rfl rfl (Nat.le_of_ble_eq_true rfl) d_Md_goOnWith_31 (fun H locs hP hD hS => ?_)
  have hP : va_P (dC, dI) vwCl (w_M ad ca (TMd_set_pile (TMd_set_pilePlaces (TMd_set_pileRows d g_3) g_4) y_5)) H := hP
  have hD : va_D A (w_M ad ca (TMd_set_pile (TMd_set_pilePlaces (TMd_set_pileRows d g_3) g_4) y_5)) := hD
  exact W.vret hx hb hr (fun t ht hW => ⟨⟨(TMd_set_pile (TMd_set_pilePlaces (TMd_set_pileRows d g_3) g_4) y_5), rfl, he.symm, by rw [ht]; exact hP, va_K.moved hW.alike hK, hD⟩, hS.F ht⟩) hS.2.2 d_Md_goOnWith_34
noncomputable def f_Md_at (d : TMd) (p0 : Int32) : (Int32 × TMd) := (if (f_Md_in p0 0 ((TMd_outSize d) - 1)) = 0 then ((-1), (TMd_set_thrown d 0)) else (((TMd_out d) p0.toNatClampNeg), (TMd_set_thrown d 0)))
set_option maxHeartbeats 4000000 in
set_option maxRecDepth 100000 in
theorem c_Md_at (l : Launch) (dC : Nat → ClassId) (dI : Nat → Nat → Nat) (ad : Nat → Nat) (ca : Nat → ClassId) (sz : Nat) (d : TMd) (p0 : Int32) (hpre : MdP d) (F : (Int32 × TMd)) (he : F = f_Md_at d p0) : wx_Mi l y_Md_at ws_Md_at ({ frames := 1, cells := 0, slots := 0, locals := 22 } : Room) (dC, dI) vwCl (t_M ca) [.ref (ad 16), .int p0] (w_M ad ca d) sz (fun v : TMd => w_M ad ca v) (fun (r : Int32) (v : TMd) => (r, v) = F) := by
  refine Met.ofW (cc := b_Md_at) (maxL := 2) (ret := some .int) (by decide) rfl ?_
  intro p e s m args below meth c s₁ B hml hv
  obtain ⟨rfl, hsz, hP, hK, hD0, hN⟩ := hv
  have hx := B.exec
  have hb := B.bytes
  have hr := B.returns
  have hts := atoms_spec (ws := ws_Md_at) B.pre
  have ht : ∀ w ∈ TB, w.before _ s = true := fun w h => hts w (List.mem_cons_of_mem _ h)
  have hown : s.vm.findClass R_Md = some m.cls := findClass_of_methodNamed B.named
  have hlocks := B.notSynchronized
  subst hsz
  have hD := hD0.self (sz := s.heap.size)
  generalize hAe : va_A (w_M ad ca d) s.heap.size = A at hD ⊢
  have hA : ∀ q : Nat, s.heap.size ≤ q → A q := fun q h => by rw [← hAe]; exact Or.inr h
  have hS : va_S A s.heap s.heap [] := va_S.rf
  have hl := lv_entry ([.ref (ad 16), .int p0]) (n := 2) (Nat.le_of_ble_eq_true rfl)
  rw [lg_entry_eq]
  generalize (lg_sl ([.ref (ad 16), .int p0]) ++ List.replicate (2 - (lg_sl ([.ref (ad 16), .int p0])).length) Slot.unset).toArray = ls at hl ⊢
  have hl : lv_has ls 2 [(0, .ref (ad 16)), (1, .int p0)] := hl
  unfold f_Md_at at he
  refine lv_aload_n hx hb d_Md_at_0 rfl (lv_at hl 0 rfl) ?_
  refine lv_iconst (v := 0) hx hb d_Md_at_1 (by decide) ?_
  refine va_put (D := (dC, dI)) (ci := 4) (v := .int 0) (ty := .int) (C := R_Md) (T := T_Md) (N := 23) hx hb ht i_Md ty_Md ty_Md_ok nm_Md hown hK hP hD hS 0 rfl rfl 0 (by decide) (ht _ q_445) (fun _ h9 => h9) rfl (by decide +kernel) rfl rfl (Nat.le_of_ble_eq_true rfl) d_Md_at_2 (fun H locs hP hD hS => ?_)
  have hP : va_P (dC, dI) vwCl (w_M ad ca (TMd_set_thrown d 0)) H := hP
  have hD : va_D A (w_M ad ca (TMd_set_thrown d 0)) := hD
  refine lv_iload_n hx hb d_Md_at_5 rfl (lv_at hl 1 rfl) ?_
  refine lv_iconst (v := 0) hx hb d_Md_at_6 (by decide) ?_
  refine lv_aload_n hx hb d_Md_at_7 rfl (lv_at hl 0 rfl) ?_
  refine va_get (D := (dC, dI)) (ci := 4) (v := .int (TMd_outSize d)) (C := R_Md) (T := T_Md) (N := 23) hx hb ht i_Md hown hK hP 0 rfl rfl 15 (by decide) (ht _ q_460) (fun _ h9 => h9) rfl d_Md_at_8 ?_
  refine lv_iconst (v := 1) hx hb d_Md_at_11 (by decide) ?_
  refine lv_isub hx hb d_Md_at_12 ?_
  refine wx_ci (wS := fun _ : Unit => w_E ad ca) (ws2 := fun _ : Unit => w_M ad ca (TMd_set_thrown d 0)) (va_runS (As := [.int p0, .int 0, .int ((TMd_outSize d) - 1)]) (rest := []) ⟨hx, hb, hml, hown, ht⟩ (c_Md_in l dC dI ad ca H.size p0 0 ((TMd_outSize d) - 1) _ rfl) (va_cwS 3 ht (tb_S q_519 q_520 q_47 q_521) rfl rfl rfl p_Md_in.2 ⟨show 0 + 1 ≤ 1 by omega, show 8 + (3 + 11) + 0 ≤ 22 by omega⟩) (wx_preS (wc := (w_E ad ca)) hN hK hP hD [] [] rfl (by decide) rfl) rfl rfl hl.1 rfl (lv_room (Nat.le_of_ble_eq_true rfl)) d_Md_at_13 ⟨Nat.zero_le _, Nat.zero_le _⟩) hP hD hS hA [] [0, 1, 2, 3, 4, 5, 6, 7, 8, 9, 10, 11] [0, 1, 2, 3, 4, 5, 6, 7, 8, 9, 10, 11] rfl rfl (by decide) (by decide) (by decide) (fun _ => rfl) (fun r_1 _ H locs hw_1 hP hD hS => ?_)
  subst hw_1
  have hP : va_P (dC, dI) vwCl (w_M ad ca (TMd_set_thrown d 0)) H := hP
  have hD : va_D A (w_M ad ca (TMd_set_thrown d 0)) := hD
  refine lv_if_eq (tgt := 28) hx hb d_Md_at_16 (by decide) (fun c_2 => ?_) (fun c_2 => ?_)
  · have he := he.trans (if_pos c_2)
    refine lv_iconst (v := (-1)) hx hb d_Md_at_28 (by decide) ?_
    exact W.iret hx hb hr (v := (-1)) (fun t ht hW => ⟨⟨(-1), (TMd_set_thrown d 0), rfl, he.symm, by rw [ht]; exact hP, va_K.moved hW.alike hK, hD⟩, hS.F ht⟩) hS.2.2 d_Md_at_29
  · have he := he.trans (if_neg c_2)
    refine lv_aload_n hx hb d_Md_at_19 rfl (lv_at hl 0 rfl) ?_
    refine va_get (D := (dC, dI)) (ci := 4) (v := .ref (ad 25)) (C := R_Md) (T := T_Md) (N := 23) hx hb ht i_Md hown hK hP 0 rfl rfl 14 (by decide) (ht _ q_459) (fun _ h9 => h9) rfl d_Md_at_20 ?_
    refine lv_iload_n hx hb d_Md_at_23 rfl (lv_at hl 1 rfl) ?_
    refine va_iald (f := (TMd_out d)) hx hb hK hP 9 8 rfl rfl (at_1 (d := d) hpre c_2) d_Md_at_24 ?_
    refine lv_goto (tgt := 29) hx hb d_Md_at_25 (by decide) ?_
    exact W.iret hx hb hr (v := ((TMd_out d) p0.toNatClampNeg)) (fun t ht hW => ⟨⟨((TMd_out d) p0.toNatClampNeg), (TMd_set_thrown d 0), rfl, he.symm, by rw [ht]; exact hP, va_K.moved hW.alike hK, hD⟩, hS.F ht⟩) hS.2.2 d_Md_at_29
