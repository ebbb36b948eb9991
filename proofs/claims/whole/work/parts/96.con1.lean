def b_0 : TBk := (fun _ => 0, fun _ => 0, fun _ => 0, fun _ => 0, fun _ => 0, fun _ => 0, 0)
theorem q_55 : Cond.instanceMethod Lib.objectInit ∈ TB := tq 55 (by decide +kernel) rfl
theorem q_56 : Cond.code Lib.objectInit ⟨#[0xb1]⟩ 1 none ∈ TB := tq 56 (by decide +kernel) rfl
theorem q_62 : Cond.methodLink R_Bk 3 Lib.objectInit ∈ TB := tq 62 (by decide +kernel) rfl
theorem q_67 : Cond.fieldLink R_Bk 24 "ConditionText$Book" "modes" "[Z" ∈ TB := tq 67 (by decide +kernel) rfl
theorem q_70 : Cond.fieldLink R_Bk 28 "ConditionText$Book" "files" "[Z" ∈ TB := tq 70 (by decide +kernel) rfl
theorem q_90 : Cond.arrayClass .int ∈ TB := tq 90 (by decide +kernel) rfl
theorem q_91 : Cond.arrayClass .boolean ∈ TB := tq 91 (by decide +kernel) rfl
theorem q_103 : Cond.methodLink R_Rd 3 Lib.objectInit ∈ TB := tq 103 (by decide +kernel) rfl
theorem d_Bk_init_0 : decode b_Bk_init 0 = .ok (.aload_n 0, 1) := by decide +kernel
theorem d_Bk_init_1 : decode b_Bk_init 1 = .ok (.invokespecial 3, 3) := by decide +kernel
theorem d_Bk_init_4 : decode b_Bk_init 4 = .ok (.aload_n 0, 1) := by decide +kernel
theorem d_Bk_init_5 : decode b_Bk_init 5 = .ok (.bipush 40, 2) := by decide +kernel
theorem d_Bk_init_7 : decode b_Bk_init 7 = .ok (.newarray .int, 2) := by decide +kernel
theorem d_Bk_init_9 : decode b_Bk_init 9 = .ok (.putfield 9, 3) := by decide +kernel
theorem d_Bk_init_12 : decode b_Bk_init 12 = .ok (.aload_n 0, 1) := by decide +kernel
theorem d_Bk_init_13 : decode b_Bk_init 13 = .ok (.bipush 40, 2) := by decide +kernel
theorem d_Bk_init_15 : decode b_Bk_init 15 = .ok (.newarray .int, 2) := by decide +kernel
theorem d_Bk_init_17 : decode b_Bk_init 17 = .ok (.putfield 15, 3) := by decide +kernel
theorem d_Bk_init_20 : decode b_Bk_init 20 = .ok (.aload_n 0, 1) := by decide +kernel
theorem d_Bk_init_21 : decode b_Bk_init 21 = .ok (.sipush 440, 3) := by decide +kernel
theorem d_Bk_init_24 : decode b_Bk_init 24 = .ok (.newarray .int, 2) := by decide +kernel
theorem d_Bk_init_26 : decode b_Bk_init 26 = .ok (.putfield 18, 3) := by decide +kernel
theorem d_Bk_init_29 : decode b_Bk_init 29 = .ok (.aload_n 0, 1) := by decide +kernel
theorem d_Bk_init_30 : decode b_Bk_init 30 = .ok (.bipush 21, 2) := by decide +kernel
theorem d_Bk_init_32 : decode b_Bk_init 32 = .ok (.newarray .int, 2) := by decide +kernel
theorem d_Bk_init_34 : decode b_Bk_init 34 = .ok (.putfield 21, 3) := by decide +kernel
theorem d_Bk_init_37 : decode b_Bk_init 37 = .ok (.aload_n 0, 1) := by decide +kernel
theorem d_Bk_init_38 : decode b_Bk_init 38 = .ok (.iconst 4, 1) := by decide +kernel
theorem d_Bk_init_39 : decode b_Bk_init 39 = .ok (.newarray .boolean, 2) := by decide +kernel
theorem d_Bk_init_41 : decode b_Bk_init 41 = .ok (.putfield 24, 3) := by decide +kernel
theorem d_Bk_init_44 : decode b_Bk_init 44 = .ok (.aload_n 0, 1) := by decide +kernel
theorem d_Bk_init_45 : decode b_Bk_init 45 = .ok (.bipush 8, 2) := by decide +kernel
theorem d_Bk_init_47 : decode b_Bk_init 47 = .ok (.newarray .boolean, 2) := by decide +kernel
theorem d_Bk_init_49 : decode b_Bk_init 49 = .ok (.putfield 28, 3) := by decide +kernel
theorem d_Bk_init_52 : decode b_Bk_init 52 = .ok (.aload_n 0, 1) := by decide +kernel
theorem d_Bk_init_53 : decode b_Bk_init 53 = .ok (.iconst 0, 1) := by decide +kernel
theorem d_Bk_init_54 : decode b_Bk_init 54 = .ok (.putfield 31, 3) := by decide +kernel
theorem d_Bk_init_57 : decode b_Bk_init 57 = .ok (.return_, 1) := by decide +kernel
theorem d_Rd_init_0 : decode b_Rd_init 0 = .ok (.aload_n 0, 1) := by decide +kernel
theorem d_Rd_init_1 : decode b_Rd_init 1 = .ok (.invokespecial 3, 3) := by decide +kernel
theorem d_Rd_init_4 : decode b_Rd_init 4 = .ok (.aload_n 0, 1) := by decide +kernel
theorem d_Rd_init_5 : decode b_Rd_init 5 = .ok (.sipush 5001, 3) := by decide +kernel
theorem d_Rd_init_8 : decode b_Rd_init 8 = .ok (.newarray .int, 2) := by decide +kernel
theorem d_Rd_init_10 : decode b_Rd_init 10 = .ok (.putfield 9, 3) := by decide +kernel
theorem d_Rd_init_13 : decode b_Rd_init 13 = .ok (.aload_n 0, 1) := by decide +kernel
theorem d_Rd_init_14 : decode b_Rd_init 14 = .ok (.sipush 5001, 3) := by decide +kernel
theorem d_Rd_init_17 : decode b_Rd_init 17 = .ok (.newarray .int, 2) := by decide +kernel
theorem d_Rd_init_19 : decode b_Rd_init 19 = .ok (.putfield 15, 3) := by decide +kernel
theorem d_Rd_init_22 : decode b_Rd_init 22 = .ok (.aload_n 0, 1) := by decide +kernel
theorem d_Rd_init_23 : decode b_Rd_init 23 = .ok (.aload_n 1, 1) := by decide +kernel
theorem d_Rd_init_24 : decode b_Rd_init 24 = .ok (.putfield 18, 3) := by decide +kernel
theorem d_Rd_init_27 : decode b_Rd_init 27 = .ok (.aload_n 0, 1) := by decide +kernel
theorem d_Rd_init_28 : decode b_Rd_init 28 = .ok (.iconst (-1), 1) := by decide +kernel
theorem d_Rd_init_29 : decode b_Rd_init 29 = .ok (.putfield 22, 3) := by decide +kernel
theorem d_Rd_init_32 : decode b_Rd_init 32 = .ok (.aload_n 0, 1) := by decide +kernel
theorem d_Rd_init_33 : decode b_Rd_init 33 = .ok (.iconst (-1), 1) := by decide +kernel
theorem d_Rd_init_34 : decode b_Rd_init 34 = .ok (.putfield 26, 3) := by decide +kernel
theorem d_Rd_init_37 : decode b_Rd_init 37 = .ok (.aload_n 0, 1) := by decide +kernel
theorem d_Rd_init_38 : decode b_Rd_init 38 = .ok (.iconst 0, 1) := by decide +kernel
theorem d_Rd_init_39 : decode b_Rd_init 39 = .ok (.putfield 29, 3) := by decide +kernel
theorem d_Rd_init_42 : decode b_Rd_init 42 = .ok (.return_, 1) := by decide +kernel
set_option maxHeartbeats 4000000 in
set_option maxRecDepth 100000 in
theorem c_Bk_init (l : Launch) (dC : Nat → ClassId) (dI : Nat → Nat → Nat) (h0 : Nat) (sz : Nat) : Met l y_Bk_init ws_Bk_init ({ frames := 1, cells := 6, slots := 553, locals := 12 } : Room) (va_Pc [.ref h0] (wx_P (dC, dI) vwCl [] [(h0, .inr (0, [.null, .null, .null, .null, .null, .null, .int 0]))] sz)) (va_Qv (fun _ : Unit => True) (fun _ t => ∃ (ad : Nat → Nat) (ca : Nat → ClassId), ad 8 = h0 ∧ va_P (dC, dI) vwCl (w_B ad ca b_0) t.heap ∧ va_K (dC, dI) vwCl (t_B ca) t ∧ va_D (va_A [(h0, .inr (0, [.null, .null, .null, .null, .null, .null, .int 0]))] sz) (w_B ad ca b_0)) (va_A [(h0, .inr (0, [.null, .null, .null, .null, .null, .null, .int 0]))] sz)) 6 553 (va_A [(h0, .inr (0, [.null, .null, .null, .null, .null, .null, .int 0]))] sz) := by
  refine Met.ofW (cc := b_Bk_init) (maxL := 1) (ret := none) (by decide) rfl ?_
  intro p e s m args below meth c s₁ B hml hv
  obtain ⟨rfl, hsz, hP, hK, hD0, hN⟩ := hv
  have hx := B.exec
  have hb := B.bytes
  have hr := B.returns
  have hts := atoms_spec (ws := ws_Bk_init) B.pre
  have ht : ∀ w ∈ TB, w.before _ s = true := fun w h => hts w (List.mem_cons_of_mem _ h)
  have hown : s.vm.findClass R_Bk = some m.cls := findClass_of_methodNamed B.named
  have hlocks := B.notSynchronized
  have hin : meth.name = "<init>" := (name_of_methodNamed B.named B.method).1
  subst hsz
  have hD := hD0.self (sz := s.heap.size)
  generalize hAe : va_A [(h0, .inr (0, [.null, .null, .null, .null, .null, .null, .int 0]))] s.heap.size = A at hD ⊢
  have hA : ∀ q : Nat, s.heap.size ≤ q → A q := fun q h => by rw [← hAe]; exact Or.inr h
  clear hAe
  have hS : va_S A s.heap s.heap [] := va_S.rf
  have hl := lv_entry ([.ref h0]) (n := 1) (Nat.le_of_ble_eq_true rfl)
  rw [lg_entry_eq]
  generalize (lg_sl ([.ref h0]) ++ List.replicate (1 - (lg_sl ([.ref h0])).length) Slot.unset).toArray = ls at hl ⊢
  have hl : lv_has ls 1 [(0, .ref h0)] := hl
  refine lv_aload_n hx hb d_Bk_init_0 rfl (lv_at hl 0 rfl) ?_
  refine W.objInit hx hb hown (ht _ q_62) (ht _ q_55) (ht _ q_56) rfl (by rw [hml]; exact hl.1) rfl d_Bk_init_1 (Nat.le_of_ble_eq_true rfl) (Nat.le_of_ble_eq_true rfl) ?_
  refine W.eq (g2 := F0 m 4 ls []) rfl ?_
  refine lv_aload_n hx hb d_Bk_init_4 rfl (lv_at hl 0 rfl) ?_
  refine lv_bipush (v := 40) hx hb d_Bk_init_5 (by decide) ?_
  refine va_newa (atype := .int) hx hb (ht _ q_90) (ty := .int) rfl hK hP hD hS hA (n := 40) (N' := 40) (a0 := (40, .inl (fun _ => 0))) (fun _ => rfl) (by decide) (by decide) (by decide) (Nat.le_of_ble_eq_true rfl) (Nat.le_of_ble_eq_true rfl) d_Bk_init_7 (fun q7 c7 H hK hP hD hS => ?_)
  have hP : va_P (dC, dI) vwCl [(h0, .inr (0, [.null, .null, .null, .null, .null, .null, .int 0])), (q7, .inl (c7, 40, .inl (fun _ => 0)))] H := hP
  have hD : va_D A [(h0, .inr (0, [.null, .null, .null, .null, .null, .null, .int 0])), (q7, .inl (c7, 40, .inl (fun _ => 0)))] := hD
  have hK : va_K (dC, dI) vwCl [(c7, .int)] s := hK
  refine W.widen (k := 1) (n := 40) (by omega) (by omega) ?_
  refine va_putF (D := (dC, dI)) (ci := 0) (v := .ref q7) (ty := .array .int) (C := R_Bk) (T := T_Bk) (N := 7) hx hb ht i_Bk ty_Bk ty_Bk_ok nm_Bk hown hK hP hD hS 0 rfl rfl 0 (by decide) (ht _ q_63) (fun _ h9 => h9) rfl hin rfl (by decide +kernel) rfl rfl (Nat.le_of_ble_eq_true rfl) d_Bk_init_9 (fun H locs hP hD hS => ?_)
  have hP : va_P (dC, dI) vwCl [(h0, .inr (0, [.ref q7, .null, .null, .null, .null, .null, .int 0])), (q7, .inl (c7, 40, .inl (fun _ => 0)))] H := hP
  have hD : va_D A [(h0, .inr (0, [.ref q7, .null, .null, .null, .null, .null, .int 0])), (q7, .inl (c7, 40, .inl (fun _ => 0)))] := hD
  refine lv_aload_n hx hb d_Bk_init_12 rfl (lv_at hl 0 rfl) ?_
  refine lv_bipush (v := 40) hx hb d_Bk_init_13 (by decide) ?_
  refine va_newa (atype := .int) hx hb (ht _ q_90) (ty := .int) rfl hK hP hD hS hA (n := 40) (N' := 40) (a0 := (40, .inl (fun _ => 0))) (fun _ => rfl) (by decide) (by decide) (by decide) (Nat.le_of_ble_eq_true rfl) (Nat.le_of_ble_eq_true rfl) d_Bk_init_15 (fun q15 c15 H hK hP hD hS => ?_)
  have hP : va_P (dC, dI) vwCl [(h0, .inr (0, [.ref q7, .null, .null, .null, .null, .null, .int 0])), (q7, .inl (c7, 40, .inl (fun _ => 0))), (q15, .inl (c15, 40, .inl (fun _ => 0)))] H := hP
  have hD : va_D A [(h0, .inr (0, [.ref q7, .null, .null, .null, .null, .null, .int 0])), (q7, .inl (c7, 40, .inl (fun _ => 0))), (q15, .inl (c15, 40, .inl (fun _ => 0)))] := hD
  have hK : va_K (dC, dI) vwCl [(c7, .int), (c15, .int)] s := hK
  refine W.widen (k := 2) (n := 80) (by omega) (by omega) ?_
  refine va_putF (D := (dC, dI)) (ci := 0) (v := .ref q15) (ty := .array .int) (C := R_Bk) (T := T_Bk) (N := 7) hx hb ht i_Bk ty_Bk ty_Bk_ok nm_Bk hown hK hP hD hS 0 rfl rfl 1 (by decide) (ht _ q_64) (fun _ h9 => h9) rfl hin rfl (by decide +kernel) rfl rfl (Nat.le_of_ble_eq_true rfl) d_Bk_init_17 (fun H locs hP hD hS => ?_)
  have hP : va_P (dC, dI) vwCl [(h0, .inr (0, [.ref q7, .ref q15, .null, .null, .null, .null, .int 0])), (q7, .inl (c7, 40, .inl (fun _ => 0))), (q15, .inl (c15, 40, .inl (fun _ => 0)))] H := hP
  have hD : va_D A [(h0, .inr (0, [.ref q7, .ref q15, .null, .null, .null, .null, .int 0])), (q7, .inl (c7, 40, .inl (fun _ => 0))), (q15, .inl (c15, 40, .inl (fun _ => 0)))] := hD
  refine lv_aload_n hx hb d_Bk_init_20 rfl (lv_at hl 0 rfl) ?_
  refine lv_sipush (v := 440) hx hb d_Bk_init_21 (by decide) ?_
  refine va_newa (atype := .int) hx hb (ht _ q_90) (ty := .int) rfl hK hP hD hS hA (n := 440) (N' := 440) (a0 := (440, .inl (fun _ => 0))) (fun _ => rfl) (by decide) (by decide) (by decide) (Nat.le_of_ble_eq_true rfl) (Nat.le_of_ble_eq_true rfl) d_Bk_init_24 (fun q24 c24 H hK hP hD hS => ?_)
  have hP : va_P (dC, dI) vwCl [(h0, .inr (0, [.ref q7, .ref q15, .null, .null, .null, .null, .int 0])), (q7, .inl (c7, 40, .inl (fun _ => 0))), (q15, .inl (c15, 40, .inl (fun _ => 0))), (q24, .inl (c24, 440, .inl (fun _ => 0)))] H := hP
  have hD : va_D A [(h0, .inr (0, [.ref q7, .ref q15, .null, .null, .null, .null, .int 0])), (q7, .inl (c7, 40, .inl (fun _ => 0))), (q15, .inl (c15, 40, .inl (fun _ => 0))), (q24, .inl (c24, 440, .inl (fun _ => 0)))] := hD
  have hK : va_K (dC, dI) vwCl [(c7, .int), (c15, .int), (c24, .int)] s := hK
  refine W.widen (k := 3) (n := 520) (by omega) (by omega) ?_
  refine va_putF (D := (dC, dI)) (ci := 0) (v := .ref q24) (ty := .array .int) (C := R_Bk) (T := T_Bk) (N := 7) hx hb ht i_Bk ty_Bk ty_Bk_ok nm_Bk hown hK hP hD hS 0 rfl rfl 2 (by decide) (ht _ q_65) (fun _ h9 => h9) rfl hin rfl (by decide +kernel) rfl rfl (Nat.le_of_ble_eq_true rfl) d_Bk_init_26 (fun H locs hP hD hS => ?_)
  have hP : va_P (dC, dI) vwCl [(h0, .inr (0, [.ref q7, .ref q15, .ref q24, .null, .null, .null, .int 0])), (q7, .inl (c7, 40, .inl (fun _ => 0))), (q15, .inl (c15, 40, .inl (fun _ => 0))), (q24, .inl (c24, 440, .inl (fun _ => 0)))] H := hP
  have hD : va_D A [(h0, .inr (0, [.ref q7, .ref q15, .ref q24, .null, .null, .null, .int 0])), (q7, .inl (c7, 40, .inl (fun _ => 0))), (q15, .inl (c15, 40, .inl (fun _ => 0))), (q24, .inl (c24, 440, .inl (fun _ => 0)))] := hD
  refine lv_aload_n hx hb d_Bk_init_29 rfl (lv_at hl 0 rfl) ?_
  refine lv_bipush (v := 21) hx hb d_Bk_init_30 (by decide) ?_
  refine va_newa (atype := .int) hx hb (ht _ q_90) (ty := .int) rfl hK hP hD hS hA (n := 21) (N' := 21) (a0 := (21, .inl (fun _ => 0))) (fun _ => rfl) (by decide) (by decide) (by decide) (Nat.le_of_ble_eq_true rfl) (Nat.le_of_ble_eq_true rfl) d_Bk_init_32 (fun q32 c32 H hK hP hD hS => ?_)
  have hP : va_P (dC, dI) vwCl [(h0, .inr (0, [.ref q7, .ref q15, .ref q24, .null, .null, .null, .int 0])), (q7, .inl (c7, 40, .inl (fun _ => 0))), (q15, .inl (c15, 40, .inl (fun _ => 0))), (q24, .inl (c24, 440, .inl (fun _ => 0))), (q32, .inl (c32, 21, .inl (fun _ => 0)))] H := hP
  have hD : va_D A [(h0, .inr (0, [.ref q7, .ref q15, .ref q24, .null, .null, .null, .int 0])), (q7, .inl (c7, 40, .inl (fun _ => 0))), (q15, .inl (c15, 40, .inl (fun _ => 0))), (q24, .inl (c24, 440, .inl (fun _ => 0))), (q32, .inl (c32, 21, .inl (fun _ => 0)))] := hD
  have hK : va_K (dC, dI) vwCl [(c7, .int), (c15, .int), (c24, .int), (c32, .int)] s := hK
  refine W.widen (k := 4) (n := 541) (by omega) (by omega) ?_
  refine va_putF (D := (dC, dI)) (ci := 0) (v := .ref q32) (ty := .array .int) (C := R_Bk) (T := T_Bk) (N := 7) hx hb ht i_Bk ty_Bk ty_Bk_ok nm_Bk hown hK hP hD hS 0 rfl rfl 3 (by decide) (ht _ q_66) (fun _ h9 => h9) rfl hin rfl (by decide +kernel) rfl rfl (Nat.le_of_ble_eq_true rfl) d_Bk_init_34 (fun H locs hP hD hS => ?_)
  have hP : va_P (dC, dI) vwCl [(h0, .inr (0, [.ref q7, .ref q15, .ref q24, .ref q32, .null, .null, .int 0])), (q7, .inl (c7, 40, .inl (fun _ => 0))), (q15, .inl (c15, 40, .inl (fun _ => 0))), (q24, .inl (c24, 440, .inl (fun _ => 0))), (q32, .inl (c32, 21, .inl (fun _ => 0)))] H := hP
  have hD : va_D A [(h0, .inr (0, [.ref q7, .ref q15, .ref q24, .ref q32, .null, .null, .int 0])), (q7, .inl (c7, 40, .inl (fun _ => 0))), (q15, .inl (c15, 40, .inl (fun _ => 0))), (q24, .inl (c24, 440, .inl (fun _ => 0))), (q32, .inl (c32, 21, .inl (fun _ => 0)))] := hD
  refine lv_aload_n hx hb d_Bk_init_37 rfl (lv_at hl 0 rfl) ?_
  refine lv_iconst (v := 4) hx hb d_Bk_init_38 (by decide) ?_
  refine va_newa (atype := .boolean) hx hb (ht _ q_91) (ty := .boolean) rfl hK hP hD hS hA (n := 4) (N' := 4) (a0 := (4, .inl (fun _ => 0))) (fun _ => rfl) (by decide) (by decide) (by decide) (Nat.le_of_ble_eq_true rfl) (Nat.le_of_ble_eq_true rfl) d_Bk_init_39 (fun q39 c39 H hK hP hD hS => ?_)
  have hP : va_P (dC, dI) vwCl [(h0, .inr (0, [.ref q7, .ref q15, .ref q24, .ref q32, .null, .null, .int 0])), (q7, .inl (c7, 40, .inl (fun _ => 0))), (q15, .inl (c15, 40, .inl (fun _ => 0))), (q24, .inl (c24, 440, .inl (fun _ => 0))), (q32, .inl (c32, 21, .inl (fun _ => 0))), (q39, .inl (c39, 4, .inl (fun _ => 0)))] H := hP
  have hD : va_D A [(h0, .inr (0, [.ref q7, .ref q15, .ref q24, .ref q32, .null, .null, .int 0])), (q7, .inl (c7, 40, .inl (fun _ => 0))), (q15, .inl (c15, 40, .inl (fun _ => 0))), (q24, .inl (c24, 440, .inl (fun _ => 0))), (q32, .inl (c32, 21, .inl (fun _ => 0))), (q39, .inl (c39, 4, .inl (fun _ => 0)))] := hD
  have hK : va_K (dC, dI) vwCl [(c7, .int), (c15, .int), (c24, .int), (c32, .int), (c39, .boolean)] s := hK
  refine W.widen (k := 5) (n := 545) (by omega) (by omega) ?_
  refine va_putF (D := (dC, dI)) (ci := 0) (v := .ref q39) (ty := .array .boolean) (C := R_Bk) (T := T_Bk) (N := 7) hx hb ht i_Bk ty_Bk ty_Bk_ok nm_Bk hown hK hP hD hS 0 rfl rfl 4 (by decide) (ht _ q_67) (fun _ h9 => h9) rfl hin rfl (by decide +kernel) rfl rfl (Nat.le_of_ble_eq_true rfl) d_Bk_init_41 (fun H locs hP hD hS => ?_)
  have hP : va_P (dC, dI) vwCl [(h0, .inr (0, [.ref q7, .ref q15, .ref q24, .ref q32, .ref q39, .null, .int 0])), (q7, .inl (c7, 40, .inl (fun _ => 0))), (q15, .inl (c15, 40, .inl (fun _ => 0))), (q24, .inl (c24, 440, .inl (fun _ => 0))), (q32, .inl (c32, 21, .inl (fun _ => 0))), (q39, .inl (c39, 4, .inl (fun _ => 0)))] H := hP
  have hD : va_D A [(h0, .inr (0, [.ref q7, .ref q15, .ref q24, .ref q32, .ref q39, .null, .int 0])), (q7, .inl (c7, 40, .inl (fun _ => 0))), (q15, .inl (c15, 40, .inl (fun _ => 0))), (q24, .inl (c24, 440, .inl (fun _ => 0))), (q32, .inl (c32, 21, .inl (fun _ => 0))), (q39, .inl (c39, 4, .inl (fun _ => 0)))] := hD
  refine lv_aload_n hx hb d_Bk_init_44 rfl (lv_at hl 0 rfl) ?_
  refine lv_bipush (v := 8) hx hb d_Bk_init_45 (by decide) ?_
  refine va_newa (atype := .boolean) hx hb (ht _ q_91) (ty := .boolean) rfl hK hP hD hS hA (n := 8) (N' := 8) (a0 := (8, .inl (fun _ => 0))) (fun _ => rfl) (by decide) (by decide) (by decide) (Nat.le_of_ble_eq_true rfl) (Nat.le_of_ble_eq_true rfl) d_Bk_init_47 (fun q47 c47 H hK hP hD hS => ?_)
  have hP : va_P (dC, dI) vwCl [(h0, .inr (0, [.ref q7, .ref q15, .ref q24, .ref q32, .ref q39, .null, .int 0])), (q7, .inl (c7, 40, .inl (fun _ => 0))), (q15, .inl (c15, 40, .inl (fun _ => 0))), (q24, .inl (c24, 440, .inl (fun _ => 0))), (q32, .inl (c32, 21, .inl (fun _ => 0))), (q39, .inl (c39, 4, .inl (fun _ => 0))), (q47, .inl (c47, 8, .inl (fun _ => 0)))] H := hP
  have hD : va_D A [(h0, .inr (0, [.ref q7, .ref q15, .ref q24, .ref q32, .ref q39, .null, .int 0])), (q7, .inl (c7, 40, .inl (fun _ => 0))), (q15, .inl (c15, 40, .inl (fun _ => 0))), (q24, .inl (c24, 440, .inl (fun _ => 0))), (q32, .inl (c32, 21, .inl (fun _ => 0))), (q39, .inl (c39, 4, .inl (fun _ => 0))), (q47, .inl (c47, 8, .inl (fun _ => 0)))] := hD
  have hK : va_K (dC, dI) vwCl [(c7, .int), (c15, .int), (c24, .int), (c32, .int), (c39, .boolean), (c47, .boolean)] s := hK
  refine W.widen (k := 6) (n := 553) (by omega) (by omega) ?_
  refine va_putF (D := (dC, dI)) (ci := 0) (v := .ref q47) (ty := .array .boolean) (C := R_Bk) (T := T_Bk) (N := 7) hx hb ht i_Bk ty_Bk ty_Bk_ok nm_Bk hown hK hP hD hS 0 rfl rfl 5 (by decide) (ht _ q_70) (fun _ h9 => h9) rfl hin rfl (by decide +kernel) rfl rfl (Nat.le_of_ble_eq_true rfl) d_Bk_init_49 (fun H locs hP hD hS => ?_)
  have hP : va_P (dC, dI) vwCl [(h0, .inr (0, [.ref q7, .ref q15, .ref q24, .ref q32, .ref q39, .ref q47, .int 0])), (q7, .inl (c7, 40, .inl (fun _ => 0))), (q15, .inl (c15, 40, .inl (fun _ => 0))), (q24, .inl (c24, 440, .inl (fun _ => 0))), (q32, .inl (c32, 21, .inl (fun _ => 0))), (q39, .inl (c39, 4, .inl (fun _ => 0))), (q47, .inl (c47, 8, .inl (fun _ => 0)))] H := hP
  have hD : va_D A [(h0, .inr (0, [.ref q7, .ref q15, .ref q24, .ref q32, .ref q39, .ref q47, .int 0])), (q7, .inl (c7, 40, .inl (fun _ => 0))), (q15, .inl (c15, 40, .inl (fun _ => 0))), (q24, .inl (c24, 440, .inl (fun _ => 0))), (q32, .inl (c32, 21, .inl (fun _ => 0))), (q39, .inl (c39, 4, .inl (fun _ => 0))), (q47, .inl (c47, 8, .inl (fun _ => 0)))] := hD
  refine lv_aload_n hx hb d_Bk_init_52 rfl (lv_at hl 0 rfl) ?_
  refine lv_iconst (v := 0) hx hb d_Bk_init_53 (by decide) ?_
  refine va_put (D := (dC, dI)) (ci := 0) (v := .int 0) (ty := .int) (C := R_Bk) (T := T_Bk) (N := 7) hx hb ht i_Bk ty_Bk ty_Bk_ok nm_Bk hown hK hP hD hS 0 rfl rfl 6 (by decide) (ht _ q_73) (fun _ h9 => h9) rfl (by decide +kernel) rfl rfl (Nat.le_of_ble_eq_true rfl) d_Bk_init_54 (fun H locs hP hD hS => ?_)
  have hP : va_P (dC, dI) vwCl [(h0, .inr (0, [.ref q7, .ref q15, .ref q24, .ref q32, .ref q39, .ref q47, .int 0])), (q7, .inl (c7, 40, .inl (fun _ => 0))), (q15, .inl (c15, 40, .inl (fun _ => 0))), (q24, .inl (c24, 440, .inl (fun _ => 0))), (q32, .inl (c32, 21, .inl (fun _ => 0))), (q39, .inl (c39, 4, .inl (fun _ => 0))), (q47, .inl (c47, 8, .inl (fun _ => 0)))] H := hP
  have hD : va_D A [(h0, .inr (0, [.ref q7, .ref q15, .ref q24, .ref q32, .ref q39, .ref q47, .int 0])), (q7, .inl (c7, 40, .inl (fun _ => 0))), (q15, .inl (c15, 40, .inl (fun _ => 0))), (q24, .inl (c24, 440, .inl (fun _ => 0))), (q32, .inl (c32, 21, .inl (fun _ => 0))), (q39, .inl (c39, 4, .inl (fun _ => 0))), (q47, .inl (c47, 8, .inl (fun _ => 0)))] := hD
  obtain ⟨ad, ea8, ea9, ea10, ea11, ea12, ea13, ea14⟩ : ∃ ad : Nat → Nat, ad 8 = h0 ∧ ad 9 = q7 ∧ ad 10 = q15 ∧ ad 11 = q24 ∧ ad 12 = q32 ∧ ad 13 = q39 ∧ ad 14 = q47 := ⟨fun k => if k = 8 then h0 else if k = 9 then q7 else if k = 10 then q15 else if k = 11 then q24 else if k = 12 then q32 else if k = 13 then q39 else if k = 14 then q47 else 0, rfl, rfl, rfl, rfl, rfl, rfl, rfl⟩
  obtain ⟨ca, ec9, ec10, ec11, ec12, ec13, ec14⟩ : ∃ ca : Nat → ClassId, ca 9 = c7 ∧ ca 10 = c15 ∧ ca 11 = c24 ∧ ca 12 = c32 ∧ ca 13 = c39 ∧ ca 14 = c47 := ⟨fun k => if k = 9 then c7 else if k = 10 then c15 else if k = 11 then c24 else if k = 12 then c32 else if k = 13 then c39 else if k = 14 then c47 else c7, rfl, rfl, rfl, rfl, rfl, rfl⟩
  subst ea8 ea9 ea10 ea11 ea12 ea13 ea14 ec9 ec10 ec11 ec12 ec13 ec14
  have hP : va_P (dC, dI) vwCl (w_B ad ca b_0) H := hP
  have hD : va_D A (w_B ad ca b_0) := hD
  have hK : va_K (dC, dI) vwCl (t_B ca) s := hK
  exact W.vret hx hb hr (fun t ht hW => ⟨⟨(), rfl, trivial, ad, ca, rfl, by rw [ht]; exact hP, va_K.moved hW.alike hK, hD⟩, hS.F ht⟩) hS.2.2 d_Bk_init_57
set_option maxHeartbeats 4000000 in
set_option maxRecDepth 100000 in
theorem c_Rd_init (l : Launch) (dC : Nat → ClassId) (dI : Nat → Nat → Nat) (h0 hb0 : Nat) (sz : Nat) : Met l y_Rd_init ws_Rd_init ({ frames := 1, cells := 2, slots := 10002, locals := 12 } : Room) (va_Pc [.ref h0, .ref hb0] (wx_P (dC, dI) vwCl [] [(h0, .inr (1, [.null, .null, .null, .int 0, .int 0, .int 0]))] sz)) (va_Qv (fun _ : Unit => True) (fun _ t => ∃ (q6 q7 : Nat) (c6 c7 : ClassId), va_P (dC, dI) vwCl [(h0, .inr (1, [.ref hb0, .ref q6, .ref q7, .int (-1), .int (-1), .int 0])), (q6, .inl (c6, 5001, .inl (fun _ => 0))), (q7, .inl (c7, 5001, .inl (fun _ => 0)))] t.heap ∧ va_K (dC, dI) vwCl [(c6, .int), (c7, .int)] t ∧ va_D (va_A [(h0, .inr (1, [.null, .null, .null, .int 0, .int 0, .int 0]))] sz) [(h0, .inr (1, [.ref hb0, .ref q6, .ref q7, .int (-1), .int (-1), .int 0])), (q6, .inl (c6, 5001, .inl (fun _ => 0))), (q7, .inl (c7, 5001, .inl (fun _ => 0)))]) (va_A [(h0, .inr (1, [.null, .null, .null, .int 0, .int 0, .int 0]))] sz)) 2 10002 (va_A [(h0, .inr (1, [.null, .null, .null, .int 0, .int 0, .int 0]))] sz) := by
  refine Met.ofW (cc := b_Rd_init) (maxL := 2) (ret := none) (by decide) rfl ?_
  intro p e s m args below meth c s₁ B hml hv
  obtain ⟨rfl, hsz, hP, hK, hD0, hN⟩ := hv
  have hx := B.exec
  have hb := B.bytes
  have hr := B.returns
  have hts := atoms_spec (ws := ws_Rd_init) B.pre
  have ht : ∀ w ∈ TB, w.before _ s = true := fun w h => hts w (List.mem_cons_of_mem _ h)
  have hown : s.vm.findClass R_Rd = some m.cls := findClass_of_methodNamed B.named
  have hlocks := B.notSynchronized
  have hin : meth.name = "<init>" := (name_of_methodNamed B.named B.method).1
  subst hsz
  have hD := hD0.self (sz := s.heap.size)
  generalize hAe : va_A [(h0, .inr (1, [.null, .null, .null, .int 0, .int 0, .int 0]))] s.heap.size = A at hD ⊢
  have hA : ∀ q : Nat, s.heap.size ≤ q → A q := fun q h => by rw [← hAe]; exact Or.inr h
  clear hAe
  have hS : va_S A s.heap s.heap [] := va_S.rf
  have hl := lv_entry ([.ref h0, .ref hb0]) (n := 2) (Nat.le_of_ble_eq_true rfl)
  rw [lg_entry_eq]
  generalize (lg_sl ([.ref h0, .ref hb0]) ++ List.replicate (2 - (lg_sl ([.ref h0, .ref hb0])).length) Slot.unset).toArray = ls at hl ⊢
  have hl : lv_has ls 2 [(0, .ref h0), (1, .ref hb0)] := hl
  refine lv_aload_n hx hb d_Rd_init_0 rfl (lv_at hl 0 rfl) ?_
  refine W.objInit hx hb hown (ht _ q_103) (ht _ q_55) (ht _ q_56) rfl (by rw [hml]; exact hl.1) rfl d_Rd_init_1 (Nat.le_of_ble_eq_true rfl) (Nat.le_of_ble_eq_true rfl) ?_
  refine W.eq (g2 := F0 m 4 ls []) rfl ?_
  refine lv_aload_n hx hb d_Rd_init_4 rfl (lv_at hl 0 rfl) ?_
  refine lv_sipush (v := 5001) hx hb d_Rd_init_5 (by decide) ?_
  refine va_newa (atype := .int) hx hb (ht _ q_90) (ty := .int) rfl hK hP hD hS hA (n := 5001) (N' := 5001) (a0 := (5001, .inl (fun _ => 0))) (fun _ => rfl) (by decide) (by decide) (by decide) (Nat.le_of_ble_eq_true rfl) (Nat.le_of_ble_eq_true rfl) d_Rd_init_8 (fun q8 c8 H hK hP hD hS => ?_)
  have hP : va_P (dC, dI) vwCl [(h0, .inr (1, [.null, .null, .null, .int 0, .int 0, .int 0])), (q8, .inl (c8, 5001, .inl (fun _ => 0)))] H := hP
  have hD : va_D A [(h0, .inr (1, [.null, .null, .null, .int 0, .int 0, .int 0])), (q8, .inl (c8, 5001, .inl (fun _ => 0)))] := hD
  have hK : va_K (dC, dI) vwCl [(c8, .int)] s := hK
  refine W.widen (k := 1) (n := 5001) (by omega) (by omega) ?_
  refine va_putF (D := (dC, dI)) (ci := 1) (v := .ref q8) (ty := .array .int) (C := R_Rd) (T := T_Rd) (N := 6) hx hb ht i_Rd ty_Rd ty_Rd_ok nm_Rd hown hK hP hD hS 0 rfl rfl 1 (by decide) (ht _ q_105) (fun _ h9 => h9) rfl hin rfl (by decide +kernel) rfl rfl (Nat.le_of_ble_eq_true rfl) d_Rd_init_10 (fun H locs hP hD hS => ?_)
  have hP : va_P (dC, dI) vwCl [(h0, .inr (1, [.null, .ref q8, .null, .int 0, .int 0, .int 0])), (q8, .inl (c8, 5001, .inl (fun _ => 0)))] H := hP
  have hD : va_D A [(h0, .inr (1, [.null, .ref q8, .null, .int 0, .int 0, .int 0])), (q8, .inl (c8, 5001, .inl (fun _ => 0)))] := hD
  refine lv_aload_n hx hb d_Rd_init_13 rfl (lv_at hl 0 rfl) ?_
  refine lv_sipush (v := 5001) hx hb d_Rd_init_14 (by decide) ?_
  refine va_newa (atype := .int) hx hb (ht _ q_90) (ty := .int) rfl hK hP hD hS hA (n := 5001) (N' := 5001) (a0 := (5001, .inl (fun _ => 0))) (fun _ => rfl) (by decide) (by decide) (by decide) (Nat.le_of_ble_eq_true rfl) (Nat.le_of_ble_eq_true rfl) d_Rd_init_17 (fun q17 c17 H hK hP hD hS => ?_)
  have hP : va_P (dC, dI) vwCl [(h0, .inr (1, [.null, .ref q8, .null, .int 0, .int 0, .int 0])), (q8, .inl (c8, 5001, .inl (fun _ => 0))), (q17, .inl (c17, 5001, .inl (fun _ => 0)))] H := hP
  have hD : va_D A [(h0, .inr (1, [.null, .ref q8, .null, .int 0, .int 0, .int 0])), (q8, .inl (c8, 5001, .inl (fun _ => 0))), (q17, .inl (c17, 5001, .inl (fun _ => 0)))] := hD
  have hK : va_K (dC, dI) vwCl [(c8, .int), (c17, .int)] s := hK
  refine W.widen (k := 2) (n := 10002) (by omega) (by omega) ?_
  refine va_putF (D := (dC, dI)) (ci := 1) (v := .ref q17) (ty := .array .int) (C := R_Rd) (T := T_Rd) (N := 6) hx hb ht i_Rd ty_Rd ty_Rd_ok nm_Rd hown hK hP hD hS 0 rfl rfl 2 (by decide) (ht _ q_106) (fun _ h9 => h9) rfl hin rfl (by decide +kernel) rfl rfl (Nat.le_of_ble_eq_true rfl) d_Rd_init_19 (fun H locs hP hD hS => ?_)
  have hP : va_P (dC, dI) vwCl [(h0, .inr (1, [.null, .ref q8, .ref q17, .int 0, .int 0, .int 0])), (q8, .inl (c8, 5001, .inl (fun _ => 0))), (q17, .inl (c17, 5001, .inl (fun _ => 0)))] H := hP
  have hD : va_D A [(h0, .inr (1, [.null, .ref q8, .ref q17, .int 0, .int 0, .int 0])), (q8, .inl (c8, 5001, .inl (fun _ => 0))), (q17, .inl (c17, 5001, .inl (fun _ => 0)))] := hD
  refine lv_aload_n hx hb d_Rd_init_22 rfl (lv_at hl 0 rfl) ?_
  refine lv_aload_n hx hb d_Rd_init_23 rfl (lv_at hl 1 rfl) ?_
  refine va_putF (D := (dC, dI)) (ci := 1) (v := .ref hb0) (ty := .object "ConditionText$Book") (C := R_Rd) (T := T_Rd) (N := 6) hx hb ht i_Rd ty_Rd ty_Rd_ok nm_Rd hown hK hP hD hS 0 rfl rfl 0 (by decide) (ht _ q_104) (fun _ h9 => h9) rfl hin rfl (by decide +kernel) rfl rfl (Nat.le_of_ble_eq_true rfl) d_Rd_init_24 (fun H locs hP hD hS => ?_)
  have hP : va_P (dC, dI) vwCl [(h0, .inr (1, [.ref hb0, .ref q8, .ref q17, .int 0, .int 0, .int 0])), (q8, .inl (c8, 5001, .inl (fun _ => 0))), (q17, .inl (c17, 5001, .inl (fun _ => 0)))] H := hP
  have hD : va_D A [(h0, .inr (1, [.ref hb0, .ref q8, .ref q17, .int 0, .int 0, .int 0])), (q8, .inl (c8, 5001, .inl (fun _ => 0))), (q17, .inl (c17, 5001, .inl (fun _ => 0)))] := hD
  refine lv_aload_n hx hb d_Rd_init_27 rfl (lv_at hl 0 rfl) ?_
  refine lv_iconst (v := (-1)) hx hb d_Rd_init_28 (by decide) ?_
  refine va_put (D := (dC, dI)) (ci := 1) (v := .int (-1)) (ty := .int) (C := R_Rd) (T := T_Rd) (N := 6) hx hb ht i_Rd ty_Rd ty_Rd_ok nm_Rd hown hK hP hD hS 0 rfl rfl 3 (by decide) (ht _ q_107) (fun _ h9 => h9) rfl (by decide +kernel) rfl rfl (Nat.le_of_ble_eq_true rfl) d_Rd_init_29 (fun H locs hP hD hS => ?_)
  have hP : va_P (dC, dI) vwCl [(h0, .inr (1, [.ref hb0, .ref q8, .ref q17, .int (-1), .int 0, .int 0])), (q8, .inl (c8, 5001, .inl (fun _ => 0))), (q17, .inl (c17, 5001, .inl (fun _ => 0)))] H := hP
  have hD : va_D A [(h0, .inr (1, [.ref hb0, .ref q8, .ref q17, .int (-1), .int 0, .int 0])), (q8, .inl (c8, 5001, .inl (fun _ => 0))), (q17, .inl (c17, 5001, .inl (fun _ => 0)))] := hD
  refine lv_aload_n hx hb d_Rd_init_32 rfl (lv_at hl 0 rfl) ?_
  refine lv_iconst (v := (-1)) hx hb d_Rd_init_33 (by decide) ?_
  refine va_put (D := (dC, dI)) (ci := 1) (v := .int (-1)) (ty := .int) (C := R_Rd) (T := T_Rd) (N := 6) hx hb ht i_Rd ty_Rd ty_Rd_ok nm_Rd hown hK hP hD hS 0 rfl rfl 4 (by decide) (ht _ q_108) (fun _ h9 => h9) rfl (by decide +kernel) rfl rfl (Nat.le_of_ble_eq_true rfl) d_Rd_init_34 (fun H locs hP hD hS => ?_)
  have hP : va_P (dC, dI) vwCl [(h0, .inr (1, [.ref hb0, .ref q8, .ref q17, .int (-1), .int (-1), .int 0])), (q8, .inl (c8, 5001, .inl (fun _ => 0))), (q17, .inl (c17, 5001, .inl (fun _ => 0)))] H := hP
  have hD : va_D A [(h0, .inr (1, [.ref hb0, .ref q8, .ref q17, .int (-1), .int (-1), .int 0])), (q8, .inl (c8, 5001, .inl (fun _ => 0))), (q17, .inl (c17, 5001, .inl (fun _ => 0)))] := hD
  refine lv_aload_n hx hb d_Rd_init_37 rfl (lv_at hl 0 rfl) ?_
  refine lv_iconst (v := 0) hx hb d_Rd_init_38 (by decide) ?_
  refine va_put (D := (dC, dI)) (ci := 1) (v := .int 0) (ty := .int) (C := R_Rd) (T := T_Rd) (N := 6) hx hb ht i_Rd ty_Rd ty_Rd_ok nm_Rd hown hK hP hD hS 0 rfl rfl 5 (by decide) (ht _ q_109) (fun _ h9 => h9) rfl (by decide +kernel) rfl rfl (Nat.le_of_ble_eq_true rfl) d_Rd_init_39 (fun H locs hP hD hS => ?_)
  have hP : va_P (dC, dI) vwCl [(h0, .inr (1, [.ref hb0, .ref q8, .ref q17, .int (-1), .int (-1), .int 0])), (q8, .inl (c8, 5001, .inl (fun _ => 0))), (q17, .inl (c17, 5001, .inl (fun _ => 0)))] H := hP
  have hD : va_D A [(h0, .inr (1, [.ref hb0, .ref q8, .ref q17, .int (-1), .int (-1), .int 0])), (q8, .inl (c8, 5001, .inl (fun _ => 0))), (q17, .inl (c17, 5001, .inl (fun _ => 0)))] := hD
  exact W.vret hx hb hr (fun t ht hW => ⟨⟨(), rfl, trivial, q8, q17, c8, c17, by rw [ht]; exact hP, va_K.moved hW.alike hK, hD⟩, hS.F ht⟩) hS.2.2 d_Rd_init_42
