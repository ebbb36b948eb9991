theorem q_35 : Cond.selects R_Md y_Md_skip y_Md_skip ∈ TB := tq 35 (by decide +kernel) rfl
theorem q_607 : Cond.methodLink R_Md 144 y_Md_skip ∈ TB := tq 607 (by decide +kernel) rfl
theorem q_609 : Cond.instanceMethod y_Md_skip ∈ TB := tq 609 (by decide +kernel) rfl
theorem q_610 : Cond.code y_Md_skip b_Md_skip 9 (none : Option Jvm.ClassFile.FieldType) ∈ TB := tq 610 (by decide +kernel) rfl
theorem d_Md_belongs_0 : decode b_Md_belongs 0 = .ok (.aload_n 0, 1) := by decide +kernel
theorem d_Md_belongs_1 : decode b_Md_belongs 1 = .ok (.getfield 41, 3) := by decide +kernel
theorem d_Md_belongs_4 : decode b_Md_belongs 4 = .ok (.aload_n 0, 1) := by decide +kernel
theorem d_Md_belongs_5 : decode b_Md_belongs 5 = .ok (.getfield 104, 3) := by decide +kernel
theorem d_Md_belongs_8 : decode b_Md_belongs 8 = .ok (.iconst 1, 1) := by decide +kernel
theorem d_Md_belongs_9 : decode b_Md_belongs 9 = .ok (.isub, 1) := by decide +kernel
theorem d_Md_belongs_10 : decode b_Md_belongs 10 = .ok (.iaload, 1) := by decide +kernel
theorem d_Md_belongs_11 : decode b_Md_belongs 11 = .ok (.istore_n 2, 1) := by decide +kernel
theorem d_Md_belongs_12 : decode b_Md_belongs 12 = .ok (.iload_n 1, 1) := by decide +kernel
theorem d_Md_belongs_13 : decode b_Md_belongs 13 = .ok (.bipush 8, 2) := by decide +kernel
theorem d_Md_belongs_15 : decode b_Md_belongs 15 = .ok (.if_icmp .ne 16, 3) := by decide +kernel
theorem d_Md_belongs_18 : decode b_Md_belongs 18 = .ok (.aload_n 0, 1) := by decide +kernel
theorem d_Md_belongs_19 : decode b_Md_belongs 19 = .ok (.dup, 1) := by decide +kernel
theorem d_Md_belongs_20 : decode b_Md_belongs 20 = .ok (.getfield 104, 3) := by decide +kernel
theorem d_Md_belongs_23 : decode b_Md_belongs 23 = .ok (.iconst 1, 1) := by decide +kernel
theorem d_Md_belongs_24 : decode b_Md_belongs 24 = .ok (.isub, 1) := by decide +kernel
theorem d_Md_belongs_25 : decode b_Md_belongs 25 = .ok (.putfield 104, 3) := by decide +kernel
theorem d_Md_belongs_28 : decode b_Md_belongs 28 = .ok (.goto 53, 3) := by decide +kernel
theorem d_Md_belongs_31 : decode b_Md_belongs 31 = .ok (.iload_n 2, 1) := by decide +kernel
theorem d_Md_belongs_32 : decode b_Md_belongs 32 = .ok (.iconst 2, 1) := by decide +kernel
theorem d_Md_belongs_33 : decode b_Md_belongs 33 = .ok (.if_icmp .eq 14, 3) := by decide +kernel
theorem d_Md_belongs_36 : decode b_Md_belongs 36 = .ok (.iload_n 1, 1) := by decide +kernel
theorem d_Md_belongs_37 : decode b_Md_belongs 37 = .ok (.bipush 7, 2) := by decide +kernel
theorem d_Md_belongs_39 : decode b_Md_belongs 39 = .ok (.if_icmp .ne 16, 3) := by decide +kernel
theorem d_Md_belongs_42 : decode b_Md_belongs 42 = .ok (.iload_n 2, 1) := by decide +kernel
theorem d_Md_belongs_43 : decode b_Md_belongs 43 = .ok (.iconst 1, 1) := by decide +kernel
theorem d_Md_belongs_44 : decode b_Md_belongs 44 = .ok (.if_icmp .ne 11, 3) := by decide +kernel
theorem d_Md_belongs_47 : decode b_Md_belongs 47 = .ok (.aload_n 0, 1) := by decide +kernel
theorem d_Md_belongs_48 : decode b_Md_belongs 48 = .ok (.iconst 2, 1) := by decide +kernel
theorem d_Md_belongs_49 : decode b_Md_belongs 49 = .ok (.invokevirtual 84, 3) := by decide +kernel
theorem d_Md_belongs_52 : decode b_Md_belongs 52 = .ok (.goto 29, 3) := by decide +kernel
theorem d_Md_belongs_55 : decode b_Md_belongs 55 = .ok (.aload_n 0, 1) := by decide +kernel
theorem d_Md_belongs_56 : decode b_Md_belongs 56 = .ok (.iload_n 2, 1) := by decide +kernel
theorem d_Md_belongs_57 : decode b_Md_belongs 57 = .ok (.iconst 3, 1) := by decide +kernel
theorem d_Md_belongs_58 : decode b_Md_belongs 58 = .ok (.if_icmp .ne 7, 3) := by decide +kernel
theorem d_Md_belongs_61 : decode b_Md_belongs 61 = .ok (.iconst 1, 1) := by decide +kernel
theorem d_Md_belongs_62 : decode b_Md_belongs 62 = .ok (.goto 4, 3) := by decide +kernel
theorem d_Md_belongs_65 : decode b_Md_belongs 65 = .ok (.iconst 0, 1) := by decide +kernel
theorem d_Md_belongs_66 : decode b_Md_belongs 66 = .ok (.iload_n 1, 1) := by decide +kernel
theorem d_Md_belongs_67 : decode b_Md_belongs 67 = .ok (.bipush 6, 2) := by decide +kernel
theorem d_Md_belongs_69 : decode b_Md_belongs 69 = .ok (.if_icmp .ne 7, 3) := by decide +kernel
theorem d_Md_belongs_72 : decode b_Md_belongs 72 = .ok (.iconst 1, 1) := by decide +kernel
theorem d_Md_belongs_73 : decode b_Md_belongs 73 = .ok (.goto 4, 3) := by decide +kernel
theorem d_Md_belongs_76 : decode b_Md_belongs 76 = .ok (.iconst 0, 1) := by decide +kernel
theorem d_Md_belongs_77 : decode b_Md_belongs 77 = .ok (.iconst 0, 1) := by decide +kernel
theorem d_Md_belongs_78 : decode b_Md_belongs 78 = .ok (.invokevirtual 144, 3) := by decide +kernel
theorem d_Md_belongs_81 : decode b_Md_belongs 81 = .ok (.return_, 1) := by decide +kernel
noncomputable def f_Md_belongs (d : TMd) (p0 : Int32) : TMd := (if p0 = 8 then (let y_21 := ((TMd_open d) - 1); (TMd_set_open d y_21)) else (if ((TMd_phases d) ((TMd_open d) - 1).toNatClampNeg) = 2 then (let v_3 := f_Md_fail d 2; v_3) else (if p0 = 7 then (if ((TMd_phases d) ((TMd_open d) - 1).toNatClampNeg) = 1 then (let v_20 := f_Md_fail d 2; v_20) else (if ((TMd_phases d) ((TMd_open d) - 1).toNatClampNeg) = 3 then (if p0 = 6 then (let v_19 := f_Md_skip d 1 1 0; v_19) else (let v_18 := f_Md_skip d 1 0 0; v_18)) else (if p0 = 6 then (let v_16 := f_Md_skip d 0 1 0; v_16) else (let v_15 := f_Md_skip d 0 0 0; v_15)))) else (if ((TMd_phases d) ((TMd_open d) - 1).toNatClampNeg) = 3 then (if p0 = 6 then (let v_11 := f_Md_skip d 1 1 0; v_11) else (let v_10 := f_Md_skip d 1 0 0; v_10)) else (if p0 = 6 then (let v_8 := f_Md_skip d 0 1 0; v_8) else (let v_7 := f_Md_skip d 0 0 0; v_7))))))
set_option maxHeartbeats 4000000 in
set_option maxRecDepth 100000 in
theorem c_Md_belongs (l : Launch) (dC : Nat → ClassId) (dI : Nat → Nat → Nat) (ad : Nat → Nat) (ca : Nat → ClassId) (sz : Nat) (d : TMd) (p0 : Int32) (hpre : MdS d ∧ MdP d ∧ 0 < (TMd_open d).toInt) (F : TMd) (he : F = f_Md_belongs d p0) : wx_Mv l y_Md_belongs ws_Md_belongs ({ frames := 4, cells := 0, slots := 0, locals := 91 } : Room) (dC, dI) vwCl (t_M ca) [.ref (ad 16), .int p0] (w_M ad ca d) sz (fun v : TMd => w_M ad ca v) (fun v : TMd => v = F) := by
  refine Met.ofW (cc := b_Md_belongs) (maxL := 3) (ret := none) (by decide) rfl ?_
  intro p e s m args below meth c s₁ B hml hv
  obtain ⟨rfl, hsz, hP, hK, hD0, hN⟩ := hv
  have hx := B.exec
  have hb := B.bytes
  have hr := B.returns
  have hts := atoms_spec (ws := ws_Md_belongs) B.pre
  have ht : ∀ w ∈ TB, w.before _ s = true := fun w h => hts w (List.mem_cons_of_mem _ h)
  have hown : s.vm.findClass R_Md = some m.cls := findClass_of_methodNamed B.named
  have hlocks := B.notSynchronized
  subst hsz
  have hD := hD0.self (sz := s.heap.size)
  generalize hAe : va_A (w_M ad ca d) s.heap.size = A at hD ⊢
  have hA : ∀ q : Nat, s.heap.size ≤ q → A q := fun q h => by rw [← hAe]; exact Or.inr h
  have hS : va_S A s.heap s.heap [] := va_S.rf
  have hl := lv_entry ([.ref (ad 16), .int p0]) (n := 3) (Nat.le_of_ble_eq_true rfl)
  rw [lg_entry_eq]
  generalize (lg_sl ([.ref (ad 16), .int p0]) ++ List.replicate (3 - (lg_sl ([.ref (ad 16), .int p0])).length) Slot.unset).toArray = ls at hl ⊢
  have hl : lv_has ls 3 [(0, .ref (ad 16)), (1, .int p0)] := hl
  unfold f_Md_belongs at he
  refine lv_aload_n hx hb d_Md_belongs_0 rfl (lv_at hl 0 rfl) ?_
  refine va_get (D := (dC, dI)) (ci := 4) (v := .ref (ad 27)) (C := R_Md) (T := T_Md) (N := 23) hx hb ht i_Md hown hK hP 0 rfl rfl 20 (by decide) (ht _ q_465) (fun _ h9 => h9) rfl d_Md_belongs_1 ?_
  refine lv_aload_n hx hb d_Md_belongs_4 rfl (lv_at hl 0 rfl) ?_
  refine va_get (D := (dC, dI)) (ci := 4) (v := .int (TMd_open d)) (C := R_Md) (T := T_Md) (N := 23) hx hb ht i_Md hown hK hP 0 rfl rfl 21 (by decide) (ht _ q_466) (fun _ h9 => h9) rfl d_Md_belongs_5 ?_
  refine lv_iconst (v := 1) hx hb d_Md_belongs_8 (by decide) ?_
  refine lv_isub hx hb d_Md_belongs_9 ?_
  refine va_iald (f := (TMd_phases d)) hx hb hK hP 11 10 rfl rfl (sk_ph (d := d) hpre.2.1 hpre.2.2) d_Md_belongs_10 ?_
  refine lv_istore_n (lv' := [(2, .int ((TMd_phases d) ((TMd_open d) - 1).toNatClampNeg)), (0, .ref (ad 16)), (1, .int p0)]) hx hb d_Md_belongs_11 rfl hl (by decide) rfl (fun ls hl => ?_)
  refine lv_iload_n hx hb d_Md_belongs_12 rfl (lv_at hl 2 rfl) ?_
  refine lv_bipush (v := 8) hx hb d_Md_belongs_13 (by decide) ?_
  refine lv_icmp_ne (tgt := 31) hx hb d_Md_belongs_15 (by decide) (fun c_1 => ?_) (fun c_1 => ?_)
  · have he := he.trans (if_neg c_1)
    refine lv_iload_n hx hb d_Md_belongs_31 rfl (lv_at hl 0 rfl) ?_
    refine lv_iconst (v := 2) hx hb d_Md_belongs_32 (by decide) ?_
    refine lv_icmp_eq (tgt := 47) hx hb d_Md_belongs_33 (by decide) (fun c_2 => ?_) (fun c_2 => ?_)
    · have he := he.trans (if_pos c_2)
      refine lv_aload_n hx hb d_Md_belongs_47 rfl (lv_at hl 1 rfl) ?_
      refine lv_iconst (v := 2) hx hb d_Md_belongs_48 (by decide) ?_
      refine wx_cv (wS := fun v : TMd => w_M ad ca v) (ws2 := fun v : TMd => w_M ad ca v) (va_runV (As := [.int 2]) (rest := []) ⟨hx, hb, hml, hown, ht⟩ (c_Md_fail l dC dI ad ca s.heap.size d 2 _ rfl) (cwV 1 ht (tb_V q_571 q_573 q_26 q_47 q_574) rfl rfl rfl p_Md_fail ⟨show 0 + 1 ≤ 4 by omega, show 8 + (2 + 11) + 0 ≤ 91 by omega⟩) (wx_preV (wc := (w_M ad ca d)) hN hK hP hD [0, 1, 2, 3, 4, 5, 6, 7, 8, 9, 10, 11] [0, 1, 2, 3, 4, 5, 6, 7, 8, 9, 10] rfl (by decide) rfl (ci := 4) (q0 := 0) rfl rfl) rfl rfl hl.1 rfl (lv_room (Nat.le_of_ble_eq_true rfl)) d_Md_belongs_49 ⟨Nat.zero_le _, Nat.zero_le _⟩) hP hD hS hA [0, 1, 2, 3, 4, 5, 6, 7, 8, 9, 10, 11] [] [0, 1, 2, 3, 4, 5, 6, 7, 8, 9, 10, 11] rfl rfl (by decide) (by decide) (by decide) (fun _ => rfl) (fun v_3 H locs hw_3 hP hD hS => ?_)
      have hP : va_P (dC, dI) vwCl (w_M ad ca v_3) H := hP
      have hD : va_D A (w_M ad ca v_3) := hD
      rw [← hw_3] at he
      try dsimp only at he
      refine lv_goto (tgt := 81) hx hb d_Md_belongs_52 (by decide) ?_
      exact W.vret hx hb hr (fun t ht hW => ⟨⟨v_3, rfl, he.symm, by rw [ht]; exact hP, va_K.moved hW.alike hK, hD⟩, hS.F ht⟩) hS.2.2 d_Md_belongs_81
    · have he := he.trans (if_neg c_2)
      refine lv_iload_n hx hb d_Md_belongs_36 rfl (lv_at hl 2 rfl) ?_
      refine lv_bipush (v := 7) hx hb d_Md_belongs_37 (by decide) ?_
      refine lv_icmp_ne (tgt := 55) hx hb d_Md_belongs_39 (by decide) (fun c_4 => ?_) (fun c_4 => ?_)
      · have he := he.trans (if_neg c_4)
        refine lv_aload_n hx hb d_Md_belongs_55 rfl (lv_at hl 1 rfl) ?_
        refine lv_iload_n hx hb d_Md_belongs_56 rfl (lv_at hl 0 rfl) ?_
        refine lv_iconst (v := 3) hx hb d_Md_belongs_57 (by decide) ?_
        refine lv_icmp_ne (tgt := 65) hx hb d_Md_belongs_58 (by decide) (fun c_5 => ?_) (fun c_5 => ?_)
        · have he := he.trans (if_neg c_5)
          refine lv_iconst (v := 0) hx hb d_Md_belongs_65 (by decide) ?_
          refine lv_iload_n hx hb d_Md_belongs_66 rfl (lv_at hl 2 rfl) ?_
          refine lv_bipush (v := 6) hx hb d_Md_belongs_67 (by decide) ?_
          refine lv_icmp_ne (tgt := 76) hx hb d_Md_belongs_69 (by decide) (fun c_6 => ?_) (fun c_6 => ?_)
          · have he := he.trans (if_neg c_6)
            refine lv_iconst (v := 0) hx hb d_Md_belongs_76 (by decide) ?_
            refine lv_iconst (v := 0) hx hb d_Md_belongs_77 (by decide) ?_
            refine wx_cv (wS := fun v : TMd => w_M ad ca v) (ws2 := fun v : TMd => w_M ad ca v) (va_runV (As := [.int 0, .int 0, .int 0]) (rest := []) ⟨hx, hb, hml, hown, ht⟩ (c_Md_skip l dC dI ad ca s.heap.size d 0 0 0 hpre _ rfl) (cwV 3 ht (tb_V q_607 q_609 q_35 q_47 q_610) rfl rfl rfl p_Md_skip ⟨show 3 + 1 ≤ 4 by omega, show 8 + (9 + 11) + 63 ≤ 91 by omega⟩) (wx_preV (wc := (w_M ad ca d)) hN hK hP hD [0, 1, 2, 3, 4, 5, 6, 7, 8, 9, 10, 11] [0, 1, 2, 3, 4, 5, 6, 7, 8, 9, 10] rfl (by decide) rfl (ci := 4) (q0 := 0) rfl rfl) rfl rfl hl.1 rfl (lv_room (Nat.le_of_ble_eq_true rfl)) d_Md_belongs_78 ⟨Nat.zero_le _, Nat.zero_le _⟩) hP hD hS hA [0, 1, 2, 3, 4, 5, 6, 7, 8, 9, 10, 11] [] [0, 1, 2, 3, 4, 5, 6, 7, 8, 9, 10, 11] rfl rfl (by decide) (by decide) (by decide) (fun _ => rfl) (fun v_7 H locs hw_7 hP hD hS => ?_)
            have hP : va_P (dC, dI) vwCl (w_M ad ca v_7) H := hP
            have hD : va_D A (w_M ad ca v_7) := hD
            rw [← hw_7] at he
            try dsimp only at he
            exact W.vret hx hb hr (fun t ht hW => ⟨⟨v_7, rfl, he.symm, by rw [ht]; exact hP, va_K.moved hW.alike hK, hD⟩, hS.F ht⟩) hS.2.2 d_Md_belongs_81
          · have he := he.trans (if_pos c_6)
            refine lv_iconst (v := 1) hx hb d_Md_belongs_72 (by decide) ?_
            refine lv_goto (tgt := 77) hx hb d_Md_belongs_73 (by decide) ?_
            refine lv_iconst (v := 0) hx hb d_Md_belongs_77 (by decide) ?_
            refine wx_cv (wS := fun v : TMd => w_M ad ca v) (ws2 := fun v : TMd => w_M ad ca v) (va_runV (As := [.int 0, .int 1, .int 0]) (rest := []) ⟨hx, hb, hml, hown, ht⟩ (c_Md_skip l dC dI ad ca s.heap.size d 0 1 0 hpre _ rfl) (cwV 3 ht (tb_V q_607 q_609 q_35 q_47 q_610) rfl rfl rfl p_Md_skip ⟨show 3 + 1 ≤ 4 by omega, show 8 + (9 + 11) + 63 ≤ 91 by omega⟩) (wx_preV (wc := (w_M ad ca d)) hN hK hP hD [0, 1, 2, 3, 4, 5, 6, 7, 8, 9, 10, 11] [0, 1, 2, 3, 4, 5, 6, 7, 8, 9, 10] rfl (by decide) rfl (ci := 4) (q0 := 0) rfl rfl) rfl rfl hl.1 rfl (lv_room (Nat.le_of_ble_eq_true rfl)) d_Md_belongs_78 ⟨Nat.zero_le _, Nat.zero_le _⟩) hP hD hS hA [0, 1, 2, 3, 4, 5, 6, 7, 8, 9, 10, 11] [] [0, 1, 2, 3, 4, 5, 6, 7, 8, 9, 10, 11] rfl rfl (by decide) (by decide) (by decide) (fun _ => rfl) (fun v_8 H locs hw_8 hP hD hS => ?_)
            have hP : va_P (dC, dI) vwCl (w_M ad ca v_8) H := hP
            have hD : va_D A (w_M ad ca v_8) := hD
            rw [← hw_8] at he
            try dsimp only at he
            exact W.vret hx hb hr (fun t ht hW => ⟨⟨v_8, rfl, he.symm, by rw [ht]; exact hP, va_K.moved hW.alike hK, hD⟩, hS.F ht⟩) hS.2.2 d_Md_belongs_81
        · have he := he.trans (if_pos c_5)
          refine lv_iconst (v := 1) hx hb d_Md_belongs_61 (by decide) ?_
          refine lv_goto (tgt := 66) hx hb d_Md_belongs_62 (by decide) ?_
          refine lv_iload_n hx hb d_Md_belongs_66 rfl (lv_at hl 2 rfl) ?_
          refine lv_bipush (v := 6) hx hb d_Md_belongs_67 (by decide) ?_
          refine lv_icmp_ne (tgt := 76) hx hb d_Md_belongs_69 (by decide) (fun c_9 => ?_) (fun c_9 => ?_)
          · have he := he.trans (if_neg c_9)
            refine lv_iconst (v := 0) hx hb d_Md_belongs_76 (by decide) ?_
            refine lv_iconst (v := 0) hx hb d_Md_belongs_77 (by decide) ?_
            refine wx_cv (wS := fun v : TMd => w_M ad ca v) (ws2 := fun v : TMd => w_M ad ca v) (va_runV (As := [.int 1, .int 0, .int 0]) (rest := []) ⟨hx, hb, hml, hown, ht⟩ (c_Md_skip l dC dI ad ca s.heap.size d 1 0 0 hpre _ rfl) (cwV 3 ht (tb_V q_607 q_609 q_35 q_47 q_610) rfl rfl rfl p_Md_skip ⟨show 3 + 1 ≤ 4 by omega, show 8 + (9 + 11) + 63 ≤ 91 by omega⟩) (wx_preV (wc := (w_M ad ca d)) hN hK hP hD [0, 1, 2, 3, 4, 5, 6, 7, 8, 9, 10, 11] [0, 1, 2, 3, 4, 5, 6, 7, 8, 9, 10] rfl (by decide) rfl (ci := 4) (q0 := 0) rfl rfl) rfl rfl hl.1 rfl (lv_room (Nat.le_of_ble_eq_true rfl)) d_Md_belongs_78 ⟨Nat.zero_le _, Nat.zero_le _⟩) hP hD hS hA [0, 1, 2, 3, 4, 5, 6, 7, 8, 9, 10, 11] [] [0, 1, 2, 3, 4, 5, 6, 7, 8, 9, 10, 11] rfl rfl (by decide) (by decide) (by decide) (fun _ => rfl) (fun v_10 H locs hw_10 hP hD hS => ?_)
            have hP : va_P (dC, dI) vwCl (w_M ad ca v_10) H := hP
            have hD : va_D A (w_M ad ca v_10) := hD
            rw [← hw_10] at he
            try dsimp only at he
            exact W.vret hx hb hr (fun t ht hW => ⟨⟨v_10, rfl, he.symm, by rw [ht]; exact hP, va_K.moved hW.alike hK, hD⟩, hS.F ht⟩) hS.2.2 d_Md_belongs_81
          · have he := he.trans (if_pos c_9)
            refine lv_iconst (v := 1) hx hb d_Md_belongs_72 (by decide) ?_
            refine lv_goto (tgt := 77) hx hb d_Md_belongs_73 (by decide) ?_
            refine lv_iconst (v := 0) hx hb d_Md_belongs_77 (by decide) ?_
            refine wx_cv (wS := fun v : TMd => w_M ad ca v) (ws2 := fun v : TMd => w_M ad ca v) (va_runV (As := [.int 1, .int 1, .int 0]) (rest := []) ⟨hx, hb, hml, hown, ht⟩ (c_Md_skip l dC dI ad ca s.heap.size d 1 1 0 hpre _ rfl) (cwV 3 ht (tb_V q_607 q_609 q_35 q_47 q_610) rfl rfl rfl p_Md_skip ⟨show 3 + 1 ≤ 4 by omega, show 8 + (9 + 11) + 63 ≤ 91 by omega⟩) (wx_preV (wc := (w_M ad ca d)) hN hK hP hD [0, 1, 2, 3, 4, 5, 6, 7, 8, 9, 10, 11] [0, 1, 2, 3, 4, 5, 6, 7, 8, 9, 10] rfl (by decide) rfl (ci := 4) (q0 := 0) rfl rfl) rfl rfl hl.1 rfl (lv_room (Nat.le_of_ble_eq_true rfl)) d_Md_belongs_78 ⟨Nat.zero_le _, Nat.zero_le _⟩) hP hD hS hA [0, 1, 2, 3, 4, 5, 6, 7, 8, 9, 10, 11] [] [0, 1, 2, 3, 4, 5, 6, 7, 8, 9, 10, 11] rfl rfl (by decide) (by decide) (by decide) (fun _ => rfl) (fun v_11 H locs hw_11 hP hD hS => ?_)
            have hP : va_P (dC, dI) vwCl (w_M ad ca v_11) H := hP
            have hD : va_D A (w_M ad ca v_11) := hD
            rw [← hw_11] at he
            try dsimp only at he
            exact W.vret hx hb hr (fun t ht hW => ⟨⟨v_11, rfl, he.symm, by rw [ht]; exact hP, va_K.moved hW.alike hK, hD⟩, hS.F ht⟩) hS.2.2 d_Md_belongs_81
      · have he := he.trans (if_pos c_4)
        refine lv_iload_n hx hb d_Md_belongs_42 rfl (lv_at hl 0 rfl) ?_
        refine lv_iconst (v := 1) hx hb d_Md_belongs_43 (by decide) ?_
        refine lv_icmp_ne (tgt := 55) hx hb d_Md_belongs_44 (by decide) (fun c_12 => ?_) (fun c_12 => ?_)
        · have he := he.trans (if_neg c_12)
          refine lv_aload_n hx hb d_Md_belongs_55 rfl (lv_at hl 1 rfl) ?_
          refine lv_iload_n hx hb d_Md_belongs_56 rfl (lv_at hl 0 rfl) ?_
          refine lv_iconst (v := 3) hx hb d_Md_belongs_57 (by decide) ?_
          refine lv_icmp_ne (tgt := 65) hx hb d_Md_belongs_58 (by decide) (fun c_13 => ?_) (fun c_13 => ?_)
          · have he := he.trans (if_neg c_13)
            refine lv_iconst (v := 0) hx hb d_Md_belongs_65 (by decide) ?_
            refine lv_iload_n hx hb d_Md_belongs_66 rfl (lv_at hl 2 rfl) ?_
            refine lv_bipush (v := 6) hx hb d_Md_belongs_67 (by decide) ?_
            refine lv_icmp_ne (tgt := 76) hx hb d_Md_belongs_69 (by decide) (fun c_14 => ?_) (fun c_14 => ?_)
            · have he := he.trans (if_neg c_14)
              refine lv_iconst (v := 0) hx hb d_Md_belongs_76 (by decide) ?_
              refine lv_iconst (v := 0) hx hb d_Md_belongs_77 (by decide) ?_
              refine wx_cv (wS := fun v : TMd => w_M ad ca v) (ws2 := fun v : TMd => w_M ad ca v) (va_runV (As := [.int 0, .int 0, .int 0]) (rest := []) ⟨hx, hb, hml, hown, ht⟩ (c_Md_skip l dC dI ad ca s.heap.size d 0 0 0 hpre _ rfl) (cwV 3 ht (tb_V q_607 q_609 q_35 q_47 q_610) rfl rfl rfl p_Md_skip ⟨show 3 + 1 ≤ 4 by omega, show 8 + (9 + 11) + 63 ≤ 91 by omega⟩) (wx_preV (wc := (w_M ad ca d)) hN hK hP hD [0, 1, 2, 3, 4, 5, 6, 7, 8, 9, 10, 11] [0, 1, 2, 3, 4, 5, 6, 7, 8, 9, 10] rfl (by decide) rfl (ci := 4) (q0 := 0) rfl rfl) rfl rfl hl.1 rfl (lv_room (Nat.le_of_ble_eq_true rfl)) d_Md_belongs_78 ⟨Nat.zero_le _, Nat.zero_le _⟩) hP hD hS hA [0, 1, 2, 3, 4, 5, 6, 7, 8, 9, 10, 11] [] [0, 1, 2, 3, 4, 5, 6, 7, 8, 9, 10, 11] rfl rfl (by decide) (by decide) (by decide) (fun _ => rfl) (fun v_15 H locs hw_15 hP hD hS => ?_)
              have hP : va_P (dC, dI) vwCl (w_M ad ca v_15) H := hP
              have hD : va_D A (w_M ad ca v_15) := hD
              rw [← hw_15] at he
              try dsimp only at he
              exact W.vret hx hb hr (fun t ht hW => ⟨⟨v_15, rfl, he.symm, by rw [ht]; exact hP, va_K.moved hW.alike hK, hD⟩, hS.F ht⟩) hS.2.2 d_Md_belongs_81
            · have he := he.trans (if_pos c_14)
              refine lv_iconst (v := 1) hx hb d_Md_belongs_72 (by decide) ?_
              refine lv_goto (tgt := 77) hx hb d_Md_belongs_73 (by decide) ?_
              refine lv_iconst (v := 0) hx hb d_Md_belongs_77 (by decide) ?_
              refine wx_cv (wS := fun v : TMd => w_M ad ca v) (ws2 := fun v : TMd => w_M ad ca v) (va_runV (As := [.int 0, .int 1, .int 0]) (rest := []) ⟨hx, hb, hml, hown, ht⟩ (c_Md_skip l dC dI ad ca s.heap.size d 0 1 0 hpre _ rfl) (cwV 3 ht (tb_V q_607 q_609 q_35 q_47 q_610) rfl rfl rfl p_Md_skip ⟨show 3 + 1 ≤ 4 by omega, show 8 + (9 + 11) + 63 ≤ 91 by omega⟩) (wx_preV (wc := (w_M ad ca d)) hN hK hP hD [0, 1, 2, 3, 4, 5, 6, 7, 8, 9, 10, 11] [0, 1, 2, 3, 4, 5, 6, 7, 8, 9, 10] rfl (by decide) rfl (ci := 4) (q0 := 0) rfl rfl) rfl rfl hl.1 rfl (lv_room (Nat.le_of_ble_eq_true rfl)) d_Md_belongs_78 ⟨Nat.zero_le _, Nat.zero_le _⟩) hP hD hS hA [0, 1, 2, 3, 4, 5, 6, 7, 8, 9, 10, 11] [] [0, 1, 2, 3, 4, 5, 6, 7, 8, 9, 10, 11] rfl rfl (by decide) (by decide) (by decide) (fun _ => rfl) (fun v_16 H locs hw_16 hP hD hS => ?_)
              have hP : va_P (dC, dI) vwCl (w_M ad ca v_16) H := hP
              have hD : va_D A (w_M ad ca v_16) := hD
              rw [← hw_16] at he
              try dsimp only at he
              exact W.vret hx hb hr (fun t ht hW => ⟨⟨v_16, rfl, he.symm, by rw [ht]; exact hP, va_K.moved hW.alike hK, hD⟩, hS.F ht⟩) hS.2.2 d_Md_belongs_81
          · have he := he.trans (if_pos c_13)
            refine lv_iconst (v := 1) hx hb d_Md_belongs_61 (by decide) ?_
            refine lv_goto (tgt := 66) hx hb d_Md_belongs_62 (by decide) ?_
            refine lv_iload_n hx hb d_Md_belongs_66 rfl (lv_at hl 2 rfl) ?_
            refine lv_bipush (v := 6) hx hb d_Md_belongs_67 (by decide) ?_
            refine lv_icmp_ne (tgt := 76) hx hb d_Md_belongs_69 (by decide) (fun c_17 => ?_) (fun c_17 => ?_)
            · have he := he.trans (if_neg c_17)
              refine lv_iconst (v := 0) hx hb d_Md_belongs_76 (by decide) ?_
              refine lv_iconst (v := 0) hx hb d_Md_belongs_77 (by decide) ?_
              refine wx_cv (wS := fun v : TMd => w_M ad ca v) (ws2 := fun v : TMd => w_M ad ca v) (va_runV (As := [.int 1, .int 0, .int 0]) (rest := []) ⟨hx, hb, hml, hown, ht⟩ (c_Md_skip l dC dI ad ca s.heap.size d 1 0 0 hpre _ rfl) (cwV 3 ht (tb_V q_607 q_609 q_35 q_47 q_610) rfl rfl rfl p_Md_skip ⟨show 3 + 1 ≤ 4 by omega, show 8 + (9 + 11) + 63 ≤ 91 by omega⟩) (wx_preV (wc := (w_M ad ca d)) hN hK hP hD [0, 1, 2, 3, 4, 5, 6, 7, 8, 9, 10, 11] [0, 1, 2, 3, 4, 5, 6, 7, 8, 9, 10] rfl (by decide) rfl (ci := 4) (q0 := 0) rfl rfl) rfl rfl hl.1 rfl (lv_room (Nat.le_of_ble_eq_true rfl)) d_Md_belongs_78 ⟨Nat.zero_le _, Nat.zero_le _⟩) hP hD hS hA [0, 1, 2, 3, 4, 5, 6, 7, 8, 9, 10, 11] [] [0, 1, 2, 3, 4, 5, 6, 7, 8, 9, 10, 11] rfl rfl (by decide) (by decide) (by decide) (fun _ => rfl) (fun v_18 H locs hw_18 hP hD hS => ?_)
              have hP : va_P (dC, dI) vwCl (w_M ad ca v_18) H := hP
              have hD : va_D A (w_M ad ca v_18) := hD
              rw [← hw_18] at he
              try dsimp only at he
              exact W.vret hx hb hr (fun t ht hW => ⟨⟨v_18, rfl, he.symm, by rw [ht]; exact hP, va_K.moved hW.alike hK, hD⟩, hS.F ht⟩) hS.2.2 d_Md_belongs_81
            · have he := he.trans (if_pos c_17)
              refine lv_iconst (v := 1) hx hb d_Md_belongs_72 (by decide) ?_
              refine lv_goto (tgt := 77) hx hb d_Md_belongs_73 (by decide) ?_
              refine lv_iconst (v := 0) hx hb d_Md_belongs_77 (by decide) ?_
              refine wx_cv (wS := fun v : TMd => w_M ad ca v) (ws2 := fun v : TMd => w_M ad ca v) (va_runV (As := [.int 1, .int 1, .int 0]) (rest := []) ⟨hx, hb, hml, hown, ht⟩ (c_Md_skip l dC dI ad ca s.heap.size d 1 1 0 hpre _ rfl) (cwV 3 ht (tb_V q_607 q_609 q_35 q_47 q_610) rfl rfl rfl p_Md_skip ⟨show 3 + 1 ≤ 4 by omega, show 8 + (9 + 11) + 63 ≤ 91 by omega⟩) (wx_preV (wc := (w_M ad ca d)) hN hK hP hD [0, 1, 2, 3, 4, 5, 6, 7, 8, 9, 10, 11] [0, 1, 2, 3, 4, 5, 6, 7, 8, 9, 10] rfl (by decide) rfl (ci := 4) (q0 := 0) rfl rfl) rfl rfl hl.1 rfl (lv_room (Nat.le_of_ble_eq_true rfl)) d_Md_belongs_78 ⟨Nat.zero_le _, Nat.zero_le _⟩) hP hD hS hA [0, 1, 2, 3, 4, 5, 6, 7, 8, 9, 10, 11] [] [0, 1, 2, 3, 4, 5, 6, 7, 8, 9, 10, 11] rfl rfl (by decide) (by decide) (by decide) (fun _ => rfl) (fun v_19 H locs hw_19 hP hD hS => ?_)
              have hP : va_P (dC, dI) vwCl (w_M ad ca v_19) H := hP
              have hD : va_D A (w_M ad ca v_19) := hD
              rw [← hw_19] at he
              try dsimp only at he
              exact W.vret hx hb hr (fun t ht hW => ⟨⟨v_19, rfl, he.symm, by rw [ht]; exact hP, va_K.moved hW.alike hK, hD⟩, hS.F ht⟩) hS.2.2 d_Md_belongs_81
        · have he := he.trans (if_pos c_12)
          refine lv_aload_n hx hb d_Md_belongs_47 rfl (lv_at hl 1 rfl) ?_
          refine lv_iconst (v := 2) hx hb d_Md_belongs_48 (by decide) ?_
          refine wx_cv (wS := fun v : TMd => w_M ad ca v) (ws2 := fun v : TMd => w_M ad ca v) (va_runV (As := [.int 2]) (rest := []) ⟨hx, hb, hml, hown, ht⟩ (c_Md_fail l dC dI ad ca s.heap.size d 2 _ rfl) (cwV 1 ht (tb_V q_571 q_573 q_26 q_47 q_574) rfl rfl rfl p_Md_fail ⟨show 0 + 1 ≤ 4 by omega, show 8 + (2 + 11) + 0 ≤ 91 by omega⟩) (wx_preV (wc := (w_M ad ca d)) hN hK hP hD [0, 1, 2, 3, 4, 5, 6, 7, 8, 9, 10, 11] [0, 1, 2, 3, 4, 5, 6, 7, 8, 9, 10] rfl (by decide) rfl (ci := 4) (q0 := 0) rfl rfl) rfl rfl hl.1 rfl (lv_room (Nat.le_of_ble_eq_true rfl)) d_Md_belongs_49 ⟨Nat.zero_le _, Nat.zero_le _⟩) hP hD hS hA [0, 1, 2, 3, 4, 5, 6, 7, 8, 9, 10, 11] [] [0, 1, 2, 3, 4, 5, 6, 7, 8, 9, 10, 11] rfl rfl (by decide) (by decide) (by decide) (fun _ => rfl) (fun v_20 H locs hw_20 hP hD hS => ?_)
          have hP : va_P (dC, dI) vwCl (w_M ad ca v_20) H := hP
          have hD : va_D A (w_M ad ca v_20) := hD
          rw [← hw_20] at he
          try dsimp only at he
          refine lv_goto (tgt := 81) hx hb d_Md_belongs_52 (by decide) ?_
          exact W.vret hx hb hr (fun t ht hW => ⟨⟨v_20, rfl, he.symm, by rw [ht]; exact hP, va_K.moved hW.alike hK, hD⟩, hS.F ht⟩) hS.2.2 d_Md_belongs_81
  · have he := he.trans (if_pos c_1)
    refine lv_aload_n hx hb d_Md_belongs_18 rfl (lv_at hl 1 rfl) ?_
    refine lv_dup hx hb d_Md_belongs_19 rfl ?_
    refine va_get (D := (dC, dI)) (ci := 4) (v := .int (TMd_open d)) (C := R_Md) (T := T_Md) (N := 23) hx hb ht i_Md hown hK hP 0 rfl rfl 21 (by decide) (ht _ q_466) (fun _ h9 => h9) rfl d_Md_belongs_20 ?_
    refine lv_iconst (v := 1) hx hb d_Md_belongs_23 (by decide) ?_
    refine lv_isub hx hb d_Md_belongs_24 ?_
    refine lv_topi (fun y_21 ey_21 => ?_)
    rw [← ey_21] at he
    try dsimp only at he
    refine va_put (D := (dC, dI)) (ci := 4) (v := .int y_21) (ty := .int) (C := R_Md) (T := T_Md) (N := 23) hx hb ht i_Md ty_Md ty_Md_ok nm_Md hown hK hP hD hS 0 rfl rfl 21 (by decide) (ht _ q_466) (fun _ h9 => h9) rfl (by decide +kernel) rfl rfl (Nat.le_of_ble_eq_true rfl) d_Md_belongs_25 (fun H locs hP hD hS => ?_)
    have hP : va_P (dC, dI) vwCl (w_M ad ca (TMd_set_open d y_21)) H := hP
    have hD : va_D A (w_M ad ca (TMd_set_open d y_21)) := hD
    refine lv_goto (tgt := 81) hx hb d_Md_belongs_28 (by decide) ?_
    exact W.vret hx hb hr (fun t ht hW => ⟨⟨(TMd_set_open d y_21), rfl, he.symm, by rw [ht]; exact hP, va_K.moved hW.alike hK, hD⟩, hS.F ht⟩) hS.2.2 d_Md_belongs_81
