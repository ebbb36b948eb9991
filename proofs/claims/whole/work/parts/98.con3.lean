/-- a new object of the class, and of the reference -/
def z_0 : TCt := (b_0, f_Rn_forget b_0 u_00)
theorem q_54 : Cond.methodLink R_Ct 3 Lib.objectInit ∈ TB := tq 54 (by decide +kernel) rfl
theorem q_57 : Cond.classLink R_Ct 9 R_Bk ∈ TB := tq 57 (by decide +kernel) rfl
theorem q_58 : Cond.instantiable R_Bk 7 ∈ TB := tq 58 (by decide +kernel) rfl
theorem q_59 : Cond.methodLink R_Ct 11 y_Bk_init ∈ TB := tq 59 (by decide +kernel) rfl
theorem q_60 : Cond.instanceMethod y_Bk_init ∈ TB := tq 60 (by decide +kernel) rfl
theorem q_61 : Cond.code y_Bk_init b_Bk_init 1 (none : Option Jvm.ClassFile.FieldType) ∈ TB := tq 61 (by decide +kernel) rfl
theorem q_92 : Cond.classLink R_Ct 16 R_Rn ∈ TB := tq 92 (by decide +kernel) rfl
theorem q_93 : Cond.instantiable R_Rn 12 ∈ TB := tq 93 (by decide +kernel) rfl
theorem q_94 : Cond.methodLink R_Ct 18 y_Rn_init ∈ TB := tq 94 (by decide +kernel) rfl
theorem q_95 : Cond.instanceMethod y_Rn_init ∈ TB := tq 95 (by decide +kernel) rfl
theorem q_96 : Cond.code y_Rn_init b_Rn_init 2 (none : Option Jvm.ClassFile.FieldType) ∈ TB := tq 96 (by decide +kernel) rfl
theorem d_Ct_init_0 : decode b_Ct_init 0 = .ok (.aload_n 0, 1) := by decide +kernel
theorem d_Ct_init_1 : decode b_Ct_init 1 = .ok (.invokespecial 3, 3) := by decide +kernel
theorem d_Ct_init_4 : decode b_Ct_init 4 = .ok (.aload_n 0, 1) := by decide +kernel
theorem d_Ct_init_5 : decode b_Ct_init 5 = .ok (.new 9, 3) := by decide +kernel
theorem d_Ct_init_8 : decode b_Ct_init 8 = .ok (.dup, 1) := by decide +kernel
theorem d_Ct_init_9 : decode b_Ct_init 9 = .ok (.invokespecial 11, 3) := by decide +kernel
theorem d_Ct_init_12 : decode b_Ct_init 12 = .ok (.putfield 12, 3) := by decide +kernel
theorem d_Ct_init_15 : decode b_Ct_init 15 = .ok (.aload_n 0, 1) := by decide +kernel
theorem d_Ct_init_16 : decode b_Ct_init 16 = .ok (.new 16, 3) := by decide +kernel
theorem d_Ct_init_19 : decode b_Ct_init 19 = .ok (.dup, 1) := by decide +kernel
theorem d_Ct_init_20 : decode b_Ct_init 20 = .ok (.aload_n 0, 1) := by decide +kernel
theorem d_Ct_init_21 : decode b_Ct_init 21 = .ok (.getfield 12, 3) := by decide +kernel
theorem d_Ct_init_24 : decode b_Ct_init 24 = .ok (.invokespecial 18, 3) := by decide +kernel
theorem d_Ct_init_27 : decode b_Ct_init 27 = .ok (.putfield 21, 3) := by decide +kernel
theorem d_Ct_init_30 : decode b_Ct_init 30 = .ok (.return_, 1) := by decide +kernel
set_option maxHeartbeats 4000000 in
set_option maxRecDepth 100000 in
theorem c_Ct_init (l : Launch) (dC : Nat → ClassId) (dI : Nat → Nat → Nat) (h0 : Nat) (sz : Nat) : Met l y_Ct_init ws_Ct_init ({ frames := 3, cells := 15, slots := 11020, locals := 64 } : Room) (va_Pc [.ref h0] (wx_P (dC, dI) vwCl [] [(h0, .inr (3, [.null, .null]))] sz)) (va_Qv (fun _ : Unit => True) (fun _ t => ∃ (ad : Nat → Nat) (ca : Nat → ClassId), ad 15 = h0 ∧ va_P (dC, dI) vwCl (w_C ad ca z_0) t.heap ∧ va_K (dC, dI) vwCl (t_C ca) t ∧ va_D (va_A [(h0, .inr (3, [.null, .null]))] sz) (w_C ad ca z_0)) (va_A [(h0, .inr (3, [.null, .null]))] sz)) 15 11020 (va_A [(h0, .inr (3, [.null, .null]))] sz) := by
  refine Met.ofW (cc := b_Ct_init) (maxL := 1) (ret := none) (by decide) rfl ?_
  intro p e s m args below meth c s₁ B hml hv
  obtain ⟨rfl, hsz, hP, hK, hD0, hN⟩ := hv
  have hx := B.exec
  have hb := B.bytes
  have hr := B.returns
  have hts := atoms_spec (ws := ws_Ct_init) B.pre
  have ht : ∀ w ∈ TB, w.before _ s = true := fun w h => hts w (List.mem_cons_of_mem _ h)
  have hown : s.vm.findClass R_Ct = some m.cls := findClass_of_methodNamed B.named
  have hlocks := B.notSynchronized
  have hin : meth.name = "<init>" := (name_of_methodNamed B.named B.method).1
  subst hsz
  have hD := hD0.self (sz := s.heap.size)
  generalize hAe : va_A [(h0, .inr (3, [.null, .null]))] s.heap.size = A at hD ⊢
  have hA : ∀ q : Nat, s.heap.size ≤ q → A q := fun q h => by rw [← hAe]; exact Or.inr h
  clear hAe
  have hS : va_S A s.heap s.heap [] := va_S.rf
  have hl := lv_entry ([.ref h0]) (n := 1) (Nat.le_of_ble_eq_true rfl)
  rw [lg_entry_eq]
  generalize (lg_sl ([.ref h0]) ++ List.replicate (1 - (lg_sl ([.ref h0])).length) Slot.unset).toArray = ls at hl ⊢
  have hl : lv_has ls 1 [(0, .ref h0)] := hl
  refine lv_aload_n hx hb d_Ct_init_0 rfl (lv_at hl 0 rfl) ?_
  refine W.objInit hx hb hown (ht _ q_54) (ht _ q_55) (ht _ q_56) rfl (by rw [hml]; exact hl.1) rfl d_Ct_init_1 (Nat.le_of_ble_eq_true rfl) (Nat.le_of_ble_eq_true rfl) ?_
  refine W.eq (g2 := F0 m 4 ls []) rfl ?_
  refine lv_aload_n hx hb d_Ct_init_4 rfl (lv_at hl 0 rfl) ?_
  refine va_new (ci := 0) (fs := [.null, .null, .null, .null, .null, .null, .int 0]) (C := R_Bk) (T := T_Bk) (N := 7) hx hb ht i_Bk ty_Bk ty_Bk_ok hown (ht _ q_57) (ht _ q_58) (ht _ q_43) hK hP hD hS hA rfl (by decide +kernel) (Nat.le_of_ble_eq_true rfl) (Nat.le_of_ble_eq_true rfl) d_Ct_init_5 (fun q5 H hP hD hS => ?_)
  have hP : va_P (dC, dI) vwCl [(h0, .inr (3, [.null, .null])), (q5, .inr (0, [.null, .null, .null, .null, .null, .null, .int 0]))] H := hP
  have hD : va_D A [(h0, .inr (3, [.null, .null])), (q5, .inr (0, [.null, .null, .null, .null, .null, .null, .int 0]))] := hD
  refine W.widen (k := 1) (n := 7) (by omega) (by omega) ?_
  refine lv_dup hx hb d_Ct_init_8 rfl ?_
  have hFc := va_free (wc := [(q5, .inr (0, [.null, .null, .null, .null, .null, .null, .int 0]))]) hD hS hA [1] rfl
  refine va_callv (va_runI (As := []) (rest := [.ref q5, .ref h0]) ⟨hx, hb, hml, hown, ht⟩ (c_Bk_init l dC dI q5 H.size) (cwI 0 ht (tb_in q_61) rfl rfl rfl (ht _ q_43) (ht _ q_59) (ht _ q_60) rfl p_Bk_init.2 ⟨Nat.le_of_ble_eq_true rfl, Nat.le_of_ble_eq_true rfl⟩) (wx_preS (wc := [(q5, .inr (0, [.null, .null, .null, .null, .null, .null, .int 0]))]) hN hK hP hD [1] [] rfl (by decide) rfl) rfl rfl hl.1 rfl (lv_room (Nat.le_of_ble_eq_true rfl)) d_Ct_init_9 ⟨Nat.le_of_ble_eq_true rfl, Nat.le_of_ble_eq_true rfl⟩) hS (fun q _ h => hFc q h) hFc (fun u t H1 locs ht9 hvm hw hB hz1 hk1 hS => ?_)
  obtain ⟨ad1, ca1, e8, hP1, hK1, hD1⟩ := hB
  rw [ht9] at hP1
  have hK1 := va_K.moved hvm.symm hK1
  obtain ⟨hPn, hDn⟩ := va_join (wr := [(h0, .inr (3, [.null, .null]))]) (w1 := (w_B ad1 ca1 b_0)) hP hD [1] [0] rfl rfl (by decide) (by decide) hk1 hFc hP1 hD1
  have hKn := (hK.sub (tys' := []) [] rfl).app hK1
  generalize H1 = H at hPn hS ⊢
  subst e8
  have hP : va_P (dC, dI) vwCl [(h0, .inr (3, [.null, .null])), ((ad1 8), .inr (0, [.ref (ad1 9), .ref (ad1 10), .ref (ad1 11), .ref (ad1 12), .ref (ad1 13), .ref (ad1 14), .int (TBk_bodyCount b_0)])), ((ad1 9), .inl ((ca1 9), 40, .inl (TBk_kinds b_0))), ((ad1 10), .inl ((ca1 10), 40, .inl (TBk_values b_0))), ((ad1 11), .inl ((ca1 11), 440, .inl (TBk_cells b_0))), ((ad1 12), .inl ((ca1 12), 21, .inl (TBk_sizes b_0))), ((ad1 13), .inl ((ca1 13), 4, .inl (TBk_modes b_0))), ((ad1 14), .inl ((ca1 14), 8, .inl (TBk_files b_0)))] H := hPn
  have hD : va_D A [(h0, .inr (3, [.null, .null])), ((ad1 8), .inr (0, [.ref (ad1 9), .ref (ad1 10), .ref (ad1 11), .ref (ad1 12), .ref (ad1 13), .ref (ad1 14), .int (TBk_bodyCount b_0)])), ((ad1 9), .inl ((ca1 9), 40, .inl (TBk_kinds b_0))), ((ad1 10), .inl ((ca1 10), 40, .inl (TBk_values b_0))), ((ad1 11), .inl ((ca1 11), 440, .inl (TBk_cells b_0))), ((ad1 12), .inl ((ca1 12), 21, .inl (TBk_sizes b_0))), ((ad1 13), .inl ((ca1 13), 4, .inl (TBk_modes b_0))), ((ad1 14), .inl ((ca1 14), 8, .inl (TBk_files b_0)))] := hDn
  have hK : va_K (dC, dI) vwCl [((ca1 9), .int), ((ca1 10), .int), ((ca1 11), .int), ((ca1 12), .int), ((ca1 13), .boolean), ((ca1 14), .boolean)] s := hKn
  refine W.widen (k := 7) (n := 560) (by omega) (by omega) ?_
  refine va_putF (D := (dC, dI)) (ci := 3) (v := .ref (ad1 8)) (ty := .object "ConditionText$Book") (C := R_Ct) (T := T_Ct) (N := 2) hx hb ht i_Ct ty_Ct ty_Ct_ok nm_Ct hown hK hP hD hS 0 rfl rfl 0 (by decide) (ht _ q_167) (fun _ h9 => h9) rfl hin rfl (by decide +kernel) rfl rfl (Nat.le_of_ble_eq_true rfl) d_Ct_init_12 (fun H locs hP hD hS => ?_)
  have hP : va_P (dC, dI) vwCl [(h0, .inr (3, [.ref (ad1 8), .null])), ((ad1 8), .inr (0, [.ref (ad1 9), .ref (ad1 10), .ref (ad1 11), .ref (ad1 12), .ref (ad1 13), .ref (ad1 14), .int (TBk_bodyCount b_0)])), ((ad1 9), .inl ((ca1 9), 40, .inl (TBk_kinds b_0))), ((ad1 10), .inl ((ca1 10), 40, .inl (TBk_values b_0))), ((ad1 11), .inl ((ca1 11), 440, .inl (TBk_cells b_0))), ((ad1 12), .inl ((ca1 12), 21, .inl (TBk_sizes b_0))), ((ad1 13), .inl ((ca1 13), 4, .inl (TBk_modes b_0))), ((ad1 14), .inl ((ca1 14), 8, .inl (TBk_files b_0)))] H := hP
  have hD : va_D A [(h0, .inr (3, [.ref (ad1 8), .null])), ((ad1 8), .inr (0, [.ref (ad1 9), .ref (ad1 10), .ref (ad1 11), .ref (ad1 12), .ref (ad1 13), .ref (ad1 14), .int (TBk_bodyCount b_0)])), ((ad1 9), .inl ((ca1 9), 40, .inl (TBk_kinds b_0))), ((ad1 10), .inl ((ca1 10), 40, .inl (TBk_values b_0))), ((ad1 11), .inl ((ca1 11), 440, .inl (TBk_cells b_0))), ((ad1 12), .inl ((ca1 12), 21, .inl (TBk_sizes b_0))), ((ad1 13), .inl ((ca1 13), 4, .inl (TBk_modes b_0))), ((ad1 14), .inl ((ca1 14), 8, .inl (TBk_files b_0)))] := hD
  refine lv_aload_n hx hb d_Ct_init_15 rfl (lv_at hl 0 rfl) ?_
  refine va_new (ci := 2) (fs := [.null, .null, .null, .null, .null, .null, .int 0, .int 0, .int 0, .int 0, .int 0, .int 0]) (C := R_Rn) (T := T_Rn) (N := 12) hx hb ht i_Rn ty_Rn ty_Rn_ok hown (ht _ q_92) (ht _ q_93) (ht _ q_44) hK hP hD hS hA rfl (by decide +kernel) (Nat.le_of_ble_eq_true rfl) (Nat.le_of_ble_eq_true rfl) d_Ct_init_16 (fun q16 H hP hD hS => ?_)
  have hP : va_P (dC, dI) vwCl [(h0, .inr (3, [.ref (ad1 8), .null])), ((ad1 8), .inr (0, [.ref (ad1 9), .ref (ad1 10), .ref (ad1 11), .ref (ad1 12), .ref (ad1 13), .ref (ad1 14), .int (TBk_bodyCount b_0)])), ((ad1 9), .inl ((ca1 9), 40, .inl (TBk_kinds b_0))), ((ad1 10), .inl ((ca1 10), 40, .inl (TBk_values b_0))), ((ad1 11), .inl ((ca1 11), 440, .inl (TBk_cells b_0))), ((ad1 12), .inl ((ca1 12), 21, .inl (TBk_sizes b_0))), ((ad1 13), .inl ((ca1 13), 4, .inl (TBk_modes b_0))), ((ad1 14), .inl ((ca1 14), 8, .inl (TBk_files b_0))), (q16, .inr (2, [.null, .null, .null, .null, .null, .null, .int 0, .int 0, .int 0, .int 0, .int 0, .int 0]))] H := hP
  have hD : va_D A [(h0, .inr (3, [.ref (ad1 8), .null])), ((ad1 8), .inr (0, [.ref (ad1 9), .ref (ad1 10), .ref (ad1 11), .ref (ad1 12), .ref (ad1 13), .ref (ad1 14), .int (TBk_bodyCount b_0)])), ((ad1 9), .inl ((ca1 9), 40, .inl (TBk_kinds b_0))), ((ad1 10), .inl ((ca1 10), 40, .inl (TBk_values b_0))), ((ad1 11), .inl ((ca1 11), 440, .inl (TBk_cells b_0))), ((ad1 12), .inl ((ca1 12), 21, .inl (TBk_sizes b_0))), ((ad1 13), .inl ((ca1 13), 4, .inl (TBk_modes b_0))), ((ad1 14), .inl ((ca1 14), 8, .inl (TBk_files b_0))), (q16, .inr (2, [.null, .null, .null, .null, .null, .null, .int 0, .int 0, .int 0, .int 0, .int 0, .int 0]))] := hD
  refine W.widen (k := 8) (n := 572) (by omega) (by omega) ?_
  refine lv_dup hx hb d_Ct_init_19 rfl ?_
  refine lv_aload_n hx hb d_Ct_init_20 rfl (lv_at hl 0 rfl) ?_
  refine va_get (D := (dC, dI)) (ci := 3) (v := .ref (ad1 8)) (C := R_Ct) (T := T_Ct) (N := 2) hx hb ht i_Ct hown hK hP 0 rfl rfl 0 (by decide) (ht _ q_167) (fun _ h9 => h9) rfl d_Ct_init_21 ?_
  have hFc := va_free (wc := [(q16, .inr (2, [.null, .null, .null, .null, .null, .null, .int 0, .int 0, .int 0, .int 0, .int 0, .int 0])), ((ad1 8), .inr (0, [.ref (ad1 9), .ref (ad1 10), .ref (ad1 11), .ref (ad1 12), .ref (ad1 13), .ref (ad1 14), .int (TBk_bodyCount b_0)])), ((ad1 9), .inl ((ca1 9), 40, .inl (TBk_kinds b_0))), ((ad1 10), .inl ((ca1 10), 40, .inl (TBk_values b_0))), ((ad1 11), .inl ((ca1 11), 440, .inl (TBk_cells b_0))), ((ad1 12), .inl ((ca1 12), 21, .inl (TBk_sizes b_0))), ((ad1 13), .inl ((ca1 13), 4, .inl (TBk_modes b_0))), ((ad1 14), .inl ((ca1 14), 8, .inl (TBk_files b_0)))]) hD hS hA [8, 1, 2, 3, 4, 5, 6, 7] rfl
  refine va_callv (va_runI (As := [.ref (ad1 8)]) (rest := [.ref q16, .ref h0]) ⟨hx, hb, hml, hown, ht⟩ (c_Rn_init l dC dI q16 h0 (ad1 8) (ad1 9) (ad1 10) (ad1 11) (ad1 12) (ad1 13) (ad1 14) (ca1 9) (ca1 10) (ca1 11) (ca1 12) (ca1 13) (ca1 14) b_0 H.size) (cwI 1 ht (tb_in q_96) rfl rfl rfl (ht _ q_44) (ht _ q_94) (ht _ q_95) rfl p_Rn_init.2 ⟨Nat.le_of_ble_eq_true rfl, Nat.le_of_ble_eq_true rfl⟩) (wx_preS (wc := [(q16, .inr (2, [.null, .null, .null, .null, .null, .null, .int 0, .int 0, .int 0, .int 0, .int 0, .int 0])), ((ad1 8), .inr (0, [.ref (ad1 9), .ref (ad1 10), .ref (ad1 11), .ref (ad1 12), .ref (ad1 13), .ref (ad1 14), .int (TBk_bodyCount b_0)])), ((ad1 9), .inl ((ca1 9), 40, .inl (TBk_kinds b_0))), ((ad1 10), .inl ((ca1 10), 40, .inl (TBk_values b_0))), ((ad1 11), .inl ((ca1 11), 440, .inl (TBk_cells b_0))), ((ad1 12), .inl ((ca1 12), 21, .inl (TBk_sizes b_0))), ((ad1 13), .inl ((ca1 13), 4, .inl (TBk_modes b_0))), ((ad1 14), .inl ((ca1 14), 8, .inl (TBk_files b_0)))]) hN hK hP hD [8, 1, 2, 3, 4, 5, 6, 7] [0, 1, 2, 3, 4, 5] rfl (by decide) rfl) rfl rfl hl.1 rfl (lv_room (Nat.le_of_ble_eq_true rfl)) d_Ct_init_24 ⟨Nat.le_of_ble_eq_true rfl, Nat.le_of_ble_eq_true rfl⟩) hS (fun q _ h => hFc q h) hFc (fun u t H1 locs ht9 hvm hw hB hz1 hk1 hS => ?_)
  obtain ⟨ad, ca, e0, e15, f8, f9, f10, f11, f12, f13, f14, g9, g10, g11, g12, g13, g14, hP1, hK1, hD1⟩ := hB
  rw [ht9] at hP1
  have hK1 := va_K.moved hvm.symm hK1
  obtain ⟨hPn, hDn⟩ := va_join (wr := [(h0, .inr (3, [.ref (ad1 8), .null]))]) (w1 := (w_R ad ca b_0 (f_Rn_forget b_0 u_00))) hP hD [8, 1, 2, 3, 4, 5, 6, 7] [0] rfl rfl (by decide) (by decide) hk1 hFc hP1 hD1
  have hKn := (hK.sub (tys' := []) [] rfl).app hK1
  generalize H1 = H at hPn hS ⊢
  subst e0
  rw [← f8] at hPn hDn
  subst e15
  have hP : va_P (dC, dI) vwCl [((ad 15), .inr (3, [.ref (ad 8), .null])), ((ad 0), .inr (2, [.ref (ad 8), .ref (ad 5), .ref (ad 1), .ref (ad 2), .ref (ad 3), .ref (ad 4), .int (TRn_outSize (f_Rn_forget b_0 u_00)), .int (TRn_openCount (f_Rn_forget b_0 u_00)), .int (TRn_opened (f_Rn_forget b_0 u_00)), .int (TRn_mostOpen (f_Rn_forget b_0 u_00)), .int (TRn_skipped (f_Rn_forget b_0 u_00)), .int (TRn_fault (f_Rn_forget b_0 u_00))])), ((ad 1), .inl ((ca 1), 300, .inl (TRn_out (f_Rn_forget b_0 u_00)))), ((ad 2), .inl ((ca 2), 100, .inl (TRn_decisions (f_Rn_forget b_0 u_00)))), ((ad 3), .inl ((ca 3), 20, .inl (TRn_isCase (f_Rn_forget b_0 u_00)))), ((ad 4), .inl ((ca 4), 20, .inl (TRn_hadElse (f_Rn_forget b_0 u_00)))), ((ad 5), .inr (1, [.ref (ad 8), .ref (ad 6), .ref (ad 7), .int (TRd_top (TRn_rd (f_Rn_forget b_0 u_00))), .int (TRd_kept (TRn_rd (f_Rn_forget b_0 u_00))), .int (TRd_steps (TRn_rd (f_Rn_forget b_0 u_00)))])), ((ad 6), .inl ((ca 6), 5001, .inl (TRd_rows (TRn_rd (f_Rn_forget b_0 u_00))))), ((ad 7), .inl ((ca 7), 5001, .inl (TRd_places (TRn_rd (f_Rn_forget b_0 u_00))))), ((ad 8), .inr (0, [.ref (ad 9), .ref (ad 10), .ref (ad 11), .ref (ad 12), .ref (ad 13), .ref (ad 14), .int (TBk_bodyCount b_0)])), ((ad 9), .inl ((ca 9), 40, .inl (TBk_kinds b_0))), ((ad 10), .inl ((ca 10), 40, .inl (TBk_values b_0))), ((ad 11), .inl ((ca 11), 440, .inl (TBk_cells b_0))), ((ad 12), .inl ((ca 12), 21, .inl (TBk_sizes b_0))), ((ad 13), .inl ((ca 13), 4, .inl (TBk_modes b_0))), ((ad 14), .inl ((ca 14), 8, .inl (TBk_files b_0)))] H := hPn
  have hD : va_D A [((ad 15), .inr (3, [.ref (ad 8), .null])), ((ad 0), .inr (2, [.ref (ad 8), .ref (ad 5), .ref (ad 1), .ref (ad 2), .ref (ad 3), .ref (ad 4), .int (TRn_outSize (f_Rn_forget b_0 u_00)), .int (TRn_openCount (f_Rn_forget b_0 u_00)), .int (TRn_opened (f_Rn_forget b_0 u_00)), .int (TRn_mostOpen (f_Rn_forget b_0 u_00)), .int (TRn_skipped (f_Rn_forget b_0 u_00)), .int (TRn_fault (f_Rn_forget b_0 u_00))])), ((ad 1), .inl ((ca 1), 300, .inl (TRn_out (f_Rn_forget b_0 u_00)))), ((ad 2), .inl ((ca 2), 100, .inl (TRn_decisions (f_Rn_forget b_0 u_00)))), ((ad 3), .inl ((ca 3), 20, .inl (TRn_isCase (f_Rn_forget b_0 u_00)))), ((ad 4), .inl ((ca 4), 20, .inl (TRn_hadElse (f_Rn_forget b_0 u_00)))), ((ad 5), .inr (1, [.ref (ad 8), .ref (ad 6), .ref (ad 7), .int (TRd_top (TRn_rd (f_Rn_forget b_0 u_00))), .int (TRd_kept (TRn_rd (f_Rn_forget b_0 u_00))), .int (TRd_steps (TRn_rd (f_Rn_forget b_0 u_00)))])), ((ad 6), .inl ((ca 6), 5001, .inl (TRd_rows (TRn_rd (f_Rn_forget b_0 u_00))))), ((ad 7), .inl ((ca 7), 5001, .inl (TRd_places (TRn_rd (f_Rn_forget b_0 u_00))))), ((ad 8), .inr (0, [.ref (ad 9), .ref (ad 10), .ref (ad 11), .ref (ad 12), .ref (ad 13), .ref (ad 14), .int (TBk_bodyCount b_0)])), ((ad 9), .inl ((ca 9), 40, .inl (TBk_kinds b_0))), ((ad 10), .inl ((ca 10), 40, .inl (TBk_values b_0))), ((ad 11), .inl ((ca 11), 440, .inl (TBk_cells b_0))), ((ad 12), .inl ((ca 12), 21, .inl (TBk_sizes b_0))), ((ad 13), .inl ((ca 13), 4, .inl (TBk_modes b_0))), ((ad 14), .inl ((ca 14), 8, .inl (TBk_files b_0)))] := hDn
  have hK : va_K (dC, dI) vwCl [((ca 1), .int), ((ca 2), .int), ((ca 3), .boolean), ((ca 4), .boolean), ((ca 6), .int), ((ca 7), .int), ((ca 9), .int), ((ca 10), .int), ((ca 11), .int), ((ca 12), .int), ((ca 13), .boolean), ((ca 14), .boolean)] s := hKn
  refine W.widen (k := 15) (n := 11020) (by omega) (by omega) ?_
  refine va_putF (D := (dC, dI)) (ci := 3) (v := .ref (ad 0)) (ty := .object "ConditionText$Runner") (C := R_Ct) (T := T_Ct) (N := 2) hx hb ht i_Ct ty_Ct ty_Ct_ok nm_Ct hown hK hP hD hS 0 rfl rfl 1 (by decide) (ht _ q_168) (fun _ h9 => h9) rfl hin rfl (by decide +kernel) rfl rfl (Nat.le_of_ble_eq_true rfl) d_Ct_init_27 (fun H locs hP hD hS => ?_)
  have hP : va_P (dC, dI) vwCl [((ad 15), .inr (3, [.ref (ad 8), .ref (ad 0)])), ((ad 0), .inr (2, [.ref (ad 8), .ref (ad 5), .ref (ad 1), .ref (ad 2), .ref (ad 3), .ref (ad 4), .int (TRn_outSize (f_Rn_forget b_0 u_00)), .int (TRn_openCount (f_Rn_forget b_0 u_00)), .int (TRn_opened (f_Rn_forget b_0 u_00)), .int (TRn_mostOpen (f_Rn_forget b_0 u_00)), .int (TRn_skipped (f_Rn_forget b_0 u_00)), .int (TRn_fault (f_Rn_forget b_0 u_00))])), ((ad 1), .inl ((ca 1), 300, .inl (TRn_out (f_Rn_forget b_0 u_00)))), ((ad 2), .inl ((ca 2), 100, .inl (TRn_decisions (f_Rn_forget b_0 u_00)))), ((ad 3), .inl ((ca 3), 20, .inl (TRn_isCase (f_Rn_forget b_0 u_00)))), ((ad 4), .inl ((ca 4), 20, .inl (TRn_hadElse (f_Rn_forget b_0 u_00)))), ((ad 5), .inr (1, [.ref (ad 8), .ref (ad 6), .ref (ad 7), .int (TRd_top (TRn_rd (f_Rn_forget b_0 u_00))), .int (TRd_kept (TRn_rd (f_Rn_forget b_0 u_00))), .int (TRd_steps (TRn_rd (f_Rn_forget b_0 u_00)))])), ((ad 6), .inl ((ca 6), 5001, .inl (TRd_rows (TRn_rd (f_Rn_forget b_0 u_00))))), ((ad 7), .inl ((ca 7), 5001, .inl (TRd_places (TRn_rd (f_Rn_forget b_0 u_00))))), ((ad 8), .inr (0, [.ref (ad 9), .ref (ad 10), .ref (ad 11), .ref (ad 12), .ref (ad 13), .ref (ad 14), .int (TBk_bodyCount b_0)])), ((ad 9), .inl ((ca 9), 40, .inl (TBk_kinds b_0))), ((ad 10), .inl ((ca 10), 40, .inl (TBk_values b_0))), ((ad 11), .inl ((ca 11), 440, .inl (TBk_cells b_0))), ((ad 12), .inl ((ca 12), 21, .inl (TBk_sizes b_0))), ((ad 13), .inl ((ca 13), 4, .inl (TBk_modes b_0))), ((ad 14), .inl ((ca 14), 8, .inl (TBk_files b_0)))] H := hP
  have hD : va_D A [((ad 15), .inr (3, [.ref (ad 8), .ref (ad 0)])), ((ad 0), .inr (2, [.ref (ad 8), .ref (ad 5), .ref (ad 1), .ref (ad 2), .ref (ad 3), .ref (ad 4), .int (TRn_outSize (f_Rn_forget b_0 u_00)), .int (TRn_openCount (f_Rn_forget b_0 u_00)), .int (TRn_opened (f_Rn_forget b_0 u_00)), .int (TRn_mostOpen (f_Rn_forget b_0 u_00)), .int (TRn_skipped (f_Rn_forget b_0 u_00)), .int (TRn_fault (f_Rn_forget b_0 u_00))])), ((ad 1), .inl ((ca 1), 300, .inl (TRn_out (f_Rn_forget b_0 u_00)))), ((ad 2), .inl ((ca 2), 100, .inl (TRn_decisions (f_Rn_forget b_0 u_00)))), ((ad 3), .inl ((ca 3), 20, .inl (TRn_isCase (f_Rn_forget b_0 u_00)))), ((ad 4), .inl ((ca 4), 20, .inl (TRn_hadElse (f_Rn_forget b_0 u_00)))), ((ad 5), .inr (1, [.ref (ad 8), .ref (ad 6), .ref (ad 7), .int (TRd_top (TRn_rd (f_Rn_forget b_0 u_00))), .int (TRd_kept (TRn_rd (f_Rn_forget b_0 u_00))), .int (TRd_steps (TRn_rd (f_Rn_forget b_0 u_00)))])), ((ad 6), .inl ((ca 6), 5001, .inl (TRd_rows (TRn_rd (f_Rn_forget b_0 u_00))))), ((ad 7), .inl ((ca 7), 5001, .inl (TRd_places (TRn_rd (f_Rn_forget b_0 u_00))))), ((ad 8), .inr (0, [.ref (ad 9), .ref (ad 10), .ref (ad 11), .ref (ad 12), .ref (ad 13), .ref (ad 14), .int (TBk_bodyCount b_0)])), ((ad 9), .inl ((ca 9), 40, .inl (TBk_kinds b_0))), ((ad 10), .inl ((ca 10), 40, .inl (TBk_values b_0))), ((ad 11), .inl ((ca 11), 440, .inl (TBk_cells b_0))), ((ad 12), .inl ((ca 12), 21, .inl (TBk_sizes b_0))), ((ad 13), .inl ((ca 13), 4, .inl (TBk_modes b_0))), ((ad 14), .inl ((ca 14), 8, .inl (TBk_files b_0)))] := hD
  have hP : va_P (dC, dI) vwCl (w_C ad ca z_0) H := hP
  have hD : va_D A (w_C ad ca z_0) := hD
  have hK : va_K (dC, dI) vwCl (t_C ca) s := hK
  exact W.vret hx hb hr (fun t ht hW => ⟨⟨(), rfl, trivial, ad, ca, rfl, by rw [ht]; exact hP, va_K.moved hW.alike hK, hD⟩, hS.F ht⟩) hS.2.2 d_Ct_init_30
