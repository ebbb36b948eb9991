theorem q_3 : Cond.selects R_Rn y_Rn_open y_Rn_open ∈ TB := tq 3 (by decide +kernel) rfl
theorem q_20 : Cond.selects R_Rn y_Rn_meetMark y_Rn_meetMark ∈ TB := tq 20 (by decide +kernel) rfl
theorem q_281 : Cond.methodLink R_Rn 101 y_Bk_valueOf ∈ TB := tq 281 (by decide +kernel) rfl
theorem q_285 : Cond.methodLink R_Rn 104 y_Rd_goOnWith ∈ TB := tq 285 (by decide +kernel) rfl
theorem q_286 : Cond.methodLink R_Rn 107 y_Rn_open ∈ TB := tq 286 (by decide +kernel) rfl
theorem q_288 : Cond.instanceMethod y_Rn_open ∈ TB := tq 288 (by decide +kernel) rfl
theorem q_289 : Cond.code y_Rn_open b_Rn_open 5 (none : Option Jvm.ClassFile.FieldType) ∈ TB := tq 289 (by decide +kernel) rfl
theorem q_389 : Cond.methodLink R_Rn 110 y_Rn_meetMark ∈ TB := tq 389 (by decide +kernel) rfl
theorem q_391 : Cond.instanceMethod y_Rn_meetMark ∈ TB := tq 391 (by decide +kernel) rfl
theorem q_392 : Cond.code y_Rn_meetMark b_Rn_meetMark 2 (none : Option Jvm.ClassFile.FieldType) ∈ TB := tq 392 (by decide +kernel) rfl
theorem d_Rn_takeIn_0 : decode b_Rn_takeIn 0 = .ok (.aload_n 0, 1) := by decide +kernel
theorem d_Rn_takeIn_1 : decode b_Rn_takeIn 1 = .ok (.getfield 25, 3) := by decide +kernel
theorem d_Rn_takeIn_4 : decode b_Rn_takeIn 4 = .ok (.iload_n 1, 1) := by decide +kernel
theorem d_Rn_takeIn_5 : decode b_Rn_takeIn 5 = .ok (.invokevirtual 88, 3) := by decide +kernel
theorem d_Rn_takeIn_8 : decode b_Rn_takeIn 8 = .ok (.istore_n 3, 1) := by decide +kernel
theorem d_Rn_takeIn_9 : decode b_Rn_takeIn 9 = .ok (.iload_n 3, 1) := by decide +kernel
theorem d_Rn_takeIn_10 : decode b_Rn_takeIn 10 = .ok (.invokestatic 98, 3) := by decide +kernel
theorem d_Rn_takeIn_13 : decode b_Rn_takeIn 13 = .ok (.ifCond .eq 20, 3) := by decide +kernel
theorem d_Rn_takeIn_16 : decode b_Rn_takeIn 16 = .ok (.aload_n 0, 1) := by decide +kernel
theorem d_Rn_takeIn_17 : decode b_Rn_takeIn 17 = .ok (.getfield 34, 3) := by decide +kernel
theorem d_Rn_takeIn_20 : decode b_Rn_takeIn 20 = .ok (.aload_n 0, 1) := by decide +kernel
theorem d_Rn_takeIn_21 : decode b_Rn_takeIn 21 = .ok (.getfield 25, 3) := by decide +kernel
theorem d_Rn_takeIn_24 : decode b_Rn_takeIn 24 = .ok (.iload_n 1, 1) := by decide +kernel
theorem d_Rn_takeIn_25 : decode b_Rn_takeIn 25 = .ok (.invokevirtual 101, 3) := by decide +kernel
theorem d_Rn_takeIn_28 : decode b_Rn_takeIn 28 = .ok (.invokevirtual 104, 3) := by decide +kernel
theorem d_Rn_takeIn_31 : decode b_Rn_takeIn 31 = .ok (.iconst 1, 1) := by decide +kernel
theorem d_Rn_takeIn_32 : decode b_Rn_takeIn 32 = .ok (.ireturn, 1) := by decide +kernel
theorem d_Rn_takeIn_33 : decode b_Rn_takeIn 33 = .ok (.iload_n 3, 1) := by decide +kernel
theorem d_Rn_takeIn_34 : decode b_Rn_takeIn 34 = .ok (.iconst 5, 1) := by decide +kernel
theorem d_Rn_takeIn_35 : decode b_Rn_takeIn 35 = .ok (.if_icmp .ne 17, 3) := by decide +kernel
theorem d_Rn_takeIn_38 : decode b_Rn_takeIn 38 = .ok (.aload_n 0, 1) := by decide +kernel
theorem d_Rn_takeIn_39 : decode b_Rn_takeIn 39 = .ok (.aload_n 0, 1) := by decide +kernel
theorem d_Rn_takeIn_40 : decode b_Rn_takeIn 40 = .ok (.getfield 25, 3) := by decide +kernel
theorem d_Rn_takeIn_43 : decode b_Rn_takeIn 43 = .ok (.iload_n 1, 1) := by decide +kernel
theorem d_Rn_takeIn_44 : decode b_Rn_takeIn 44 = .ok (.invokevirtual 101, 3) := by decide +kernel
theorem d_Rn_takeIn_47 : decode b_Rn_takeIn 47 = .ok (.invokevirtual 107, 3) := by decide +kernel
theorem d_Rn_takeIn_50 : decode b_Rn_takeIn 50 = .ok (.iconst 1, 1) := by decide +kernel
theorem d_Rn_takeIn_51 : decode b_Rn_takeIn 51 = .ok (.ireturn, 1) := by decide +kernel
theorem d_Rn_takeIn_52 : decode b_Rn_takeIn 52 = .ok (.iload_n 3, 1) := by decide +kernel
theorem d_Rn_takeIn_53 : decode b_Rn_takeIn 53 = .ok (.invokestatic 94, 3) := by decide +kernel
theorem d_Rn_takeIn_56 : decode b_Rn_takeIn 56 = .ok (.ifCond .eq 18, 3) := by decide +kernel
theorem d_Rn_takeIn_59 : decode b_Rn_takeIn 59 = .ok (.aload_n 0, 1) := by decide +kernel
theorem d_Rn_takeIn_60 : decode b_Rn_takeIn 60 = .ok (.getfield 64, 3) := by decide +kernel
theorem d_Rn_takeIn_63 : decode b_Rn_takeIn 63 = .ok (.iload_n 2, 1) := by decide +kernel
theorem d_Rn_takeIn_64 : decode b_Rn_takeIn 64 = .ok (.if_icmp .le 10, 3) := by decide +kernel
theorem d_Rn_takeIn_67 : decode b_Rn_takeIn 67 = .ok (.aload_n 0, 1) := by decide +kernel
theorem d_Rn_takeIn_68 : decode b_Rn_takeIn 68 = .ok (.iload_n 3, 1) := by decide +kernel
theorem d_Rn_takeIn_69 : decode b_Rn_takeIn 69 = .ok (.invokevirtual 110, 3) := by decide +kernel
theorem d_Rn_takeIn_72 : decode b_Rn_takeIn 72 = .ok (.iconst 1, 1) := by decide +kernel
theorem d_Rn_takeIn_73 : decode b_Rn_takeIn 73 = .ok (.ireturn, 1) := by decide +kernel
theorem d_Rn_takeIn_74 : decode b_Rn_takeIn 74 = .ok (.iconst 0, 1) := by decide +kernel
theorem d_Rn_takeIn_75 : decode b_Rn_takeIn 75 = .ok (.ireturn, 1) := by decide +kernel
noncomputable def f_Rn_takeIn (op : TBk → TRn → Int32 → TRn) (b : TBk) (u : TRn) (p0 : Int32) (p1 : Int32) : (Int32 × TRn) := (if (f_Ct_isMacro (f_Bk_kindOf b p0)) = 0 then (if (f_Bk_kindOf b p0) = 5 then (let v_10 := op b u (f_Bk_valueOf b p0); (1, v_10)) else (if (f_Ct_isMark (f_Bk_kindOf b p0)) = 0 then (0, u) else (if (TRn_openCount u) ≤ p1 then (0, u) else (let v_8 := f_Rn_meetMark b u (f_Bk_kindOf b p0); (1, v_8))))) else (let v_12 := f_Rd_goOnWith b (TRn_rd u) (f_Bk_valueOf b p0); (1, (TRn_set_rd u v_12))))
set_option maxHeartbeats 4000000 in
set_option maxRecDepth 100000 in
theorem c_Rn_takeIn (l : Launch) (dC : Nat → ClassId) (dI : Nat → Nat → Nat) (ad : Nat → Nat) (ca : Nat → ClassId) (op : TBk → TRn → Int32 → TRn) (rf rl : Nat) (k : Int) (hopm : ∀ (b : TBk) (u : TRn) (w : Int32), k ≤ oc u → oc u ≤ oc (op b u w)) (hop : ∀ (sz : Nat) (b : TBk) (u : TRn) (w : Int32), BkS b ∧ k ≤ oc u → wx_Mv l y_Rn_open ws_Rn_open ({ frames := rf, cells := 0, slots := 0, locals := rl } : Room) (dC, dI) vwCl (t_R ca) [.ref (ad 0), .int w] (w_R ad ca b u) sz (fun v : TRn => w_R ad ca b v) (fun v : TRn => v = op b u w)) (sz : Nat) (b : TBk) (u : TRn) (p0 : Int32) (p1 : Int32) (hpre : BkS b ∧ k ≤ oc u) (F : (Int32 × TRn)) (he : F = f_Rn_takeIn op b u p0 p1) : wx_Mi l y_Rn_takeIn ws_Rn_takeIn ({ frames := rf + 5, cells := 0, slots := 0, locals := rl + 113 } : Room) (dC, dI) vwCl (t_R ca) [.ref (ad 0), .int p0, .int p1] (w_R ad ca b u) sz (fun v : TRn => w_R ad ca b v) (fun (r : Int32) (v : TRn) => (r, v) = F) := by
  refine Met.ofW (cc := b_Rn_takeIn) (maxL := 4) (ret := some .boolean) (by decide) rfl ?_
  intro p e s m args below meth c s₁ B hml hv
  obtain ⟨rfl, hsz, hP, hK, hD0, hN⟩ := hv
  have hx := B.exec
  have hb := B.bytes
  have hr := B.returns
  have hts := atoms_spec (ws := ws_Rn_takeIn) B.pre
  have ht : ∀ w ∈ TB, w.before _ s = true := fun w h => hts w (List.mem_cons_of_mem _ h)
  have hown : s.vm.findClass R_Rn = some m.cls := findClass_of_methodNamed B.named
  have hlocks := B.notSynchronized
  subst hsz
  have hD := hD0.self (sz := s.heap.size)
  generalize hAe : va_A (w_R ad ca b u) s.heap.size = A at hD ⊢
  have hA : ∀ q : Nat, s.heap.size ≤ q → A q := fun q h => by rw [← hAe]; exact Or.inr h
  have hS : va_S A s.heap s.heap [] := va_S.rf
  have hl := lv_entry ([.ref (ad 0), .int p0, .int p1]) (n := 4) (Nat.le_of_ble_eq_true rfl)
  rw [lg_entry_eq]
  generalize (lg_sl ([.ref (ad 0), .int p0, .int p1]) ++ List.replicate (4 - (lg_sl ([.ref (ad 0), .int p0, .int p1])).length) Slot.unset).toArray = ls at hl ⊢
  have hl : lv_has ls 4 [(0, .ref (ad 0)), (1, .int p0), (2, .int p1)] := hl
  unfold f_Rn_takeIn at he
  refine lv_aload_n hx hb d_Rn_takeIn_0 rfl (lv_at hl 0 rfl) ?_
  refine va_get (D := (dC, dI)) (ci := 2) (v := .ref (ad 8)) (C := R_Rn) (T := T_Rn) (N := 12) hx hb ht i_Rn hown hK hP 0 rfl rfl 0 (by decide) (ht _ q_130) (fun _ h9 => h9) rfl d_Rn_takeIn_1 ?_
  refine lv_iload_n hx hb d_Rn_takeIn_4 rfl (lv_at hl 1 rfl) ?_
  refine wx_ci (wS := fun _ : Unit => w_B ad ca b) (ws2 := fun _ : Unit => w_R ad ca b u) (va_runV (As := [.int p0]) (rest := []) ⟨hx, hb, hml, hown, ht⟩ (c_Bk_kindOf l dC dI ad ca s.heap.size b p0 _ rfl) (cwV 1 ht (tb_V q_273 q_274 q_275 q_43 q_276) rfl rfl rfl p_Bk_kindOf ⟨show 1 + 1 ≤ rf + 5 by omega, show 8 + (2 + 11) + 20 ≤ rl + 113 by omega⟩) (wx_preV (wc := (w_B ad ca b)) hN hK hP hD [8, 9, 10, 11, 12, 13, 14] [6, 7, 8, 9, 10, 11] rfl (by decide) rfl (ci := 0) (q0 := 0) rfl rfl) rfl rfl hl.1 rfl (lv_room (Nat.le_of_ble_eq_true rfl)) d_Rn_takeIn_5 ⟨Nat.zero_le _, Nat.zero_le _⟩) hP hD hS hA [8, 9, 10, 11, 12, 13, 14] [0, 1, 2, 3, 4, 5, 6, 7] [0, 1, 2, 3, 4, 5, 6, 7, 8, 9, 10, 11, 12, 13, 14] rfl rfl (by decide) (by decide) (by decide) (fun _ => rfl) (fun r_1 _ H locs hw_1 hP hD hS => ?_)
  subst hw_1
  have hP : va_P (dC, dI) vwCl (w_R ad ca b u) H := hP
  have hD : va_D A (w_R ad ca b u) := hD
  refine lv_istore_n (lv' := [(3, .int (f_Bk_kindOf b p0)), (0, .ref (ad 0)), (1, .int p0), (2, .int p1)]) hx hb d_Rn_takeIn_8 rfl hl (by decide) rfl (fun ls hl => ?_)
  refine lv_iload_n hx hb d_Rn_takeIn_9 rfl (lv_at hl 0 rfl) ?_
  refine wx_ci (wS := fun _ : Unit => w_E ad ca) (ws2 := fun _ : Unit => w_R ad ca b u) (va_runSN (As := [.int (f_Bk_kindOf b p0)]) (rest := []) ⟨hx, hb, hml, hown, ht⟩ (c_Ct_isMacro l dC dI ad ca H.size (f_Bk_kindOf b p0) _ rfl) ⟨va_cnB 1 ht (tb_in q_280) rfl rfl rfl (hN _ nest_1) (ht _ q_42) p_Ct_isMacro.2 ⟨show 0 + 1 ≤ rf + 5 by omega, show 8 + (1 + 11) + 0 ≤ rl + 113 by omega⟩, ht _ q_279, trivial⟩ (wx_preS (wc := (w_E ad ca)) hN hK hP hD [] [] rfl (by decide) rfl) rfl rfl hl.1 rfl (lv_room (Nat.le_of_ble_eq_true rfl)) d_Rn_takeIn_10 ⟨Nat.zero_le _, Nat.zero_le _⟩) hP hD hS hA [] [0, 1, 2, 3, 4, 5, 6, 7, 8, 9, 10, 11, 12, 13, 14] [0, 1, 2, 3, 4, 5, 6, 7, 8, 9, 10, 11, 12, 13, 14] rfl rfl (by decide) (by decide) (by decide) (fun _ => rfl) (fun r_2 _ H locs hw_2 hP hD hS => ?_)
  subst hw_2
  have hP : va_P (dC, dI) vwCl (w_R ad ca b u) H := hP
  have hD : va_D A (w_R ad ca b u) := hD
  refine lv_if_eq (tgt := 33) hx hb d_Rn_takeIn_13 (by decide) (fun c_3 => ?_) (fun c_3 => ?_)
  · have he := he.trans (if_pos c_3)
    refine lv_iload_n hx hb d_Rn_takeIn_33 rfl (lv_at hl 0 rfl) ?_
    refine lv_iconst (v := 5) hx hb d_Rn_takeIn_34 (by decide) ?_
    refine lv_icmp_ne (tgt := 52) hx hb d_Rn_takeIn_35 (by decide) (fun c_4 => ?_) (fun c_4 => ?_)
    · have he := he.trans (if_neg c_4)
      refine lv_iload_n hx hb d_Rn_takeIn_52 rfl (lv_at hl 0 rfl) ?_
      refine wx_ci (wS := fun _ : Unit => w_E ad ca) (ws2 := fun _ : Unit => w_R ad ca b u) (va_runSN (As := [.int (f_Bk_kindOf b p0)]) (rest := []) ⟨hx, hb, hml, hown, ht⟩ (c_Ct_isMark l dC dI ad ca H.size (f_Bk_kindOf b p0) _ rfl) ⟨va_cnB 1 ht (tb_in q_315) rfl rfl rfl (hN _ nest_2) (ht _ q_42) p_Ct_isMark.2 ⟨show 0 + 1 ≤ rf + 5 by omega, show 8 + (1 + 11) + 0 ≤ rl + 113 by omega⟩, ht _ q_314, trivial⟩ (wx_preS (wc := (w_E ad ca)) hN hK hP hD [] [] rfl (by decide) rfl) rfl rfl hl.1 rfl (lv_room (Nat.le_of_ble_eq_true rfl)) d_Rn_takeIn_53 ⟨Nat.zero_le _, Nat.zero_le _⟩) hP hD hS hA [] [0, 1, 2, 3, 4, 5, 6, 7, 8, 9, 10, 11, 12, 13, 14] [0, 1, 2, 3, 4, 5, 6, 7, 8, 9, 10, 11, 12, 13, 14] rfl rfl (by decide) (by decide) (by decide) (fun _ => rfl) (fun r_5 _ H locs hw_5 hP hD hS => ?_)
      subst hw_5
      have hP : va_P (dC, dI) vwCl (w_R ad ca b u) H := hP
      have hD : va_D A (w_R ad ca b u) := hD
      refine lv_if_eq (tgt := 74) hx hb d_Rn_takeIn_56 (by decide) (fun c_6 => ?_) (fun c_6 => ?_)
      · have he := he.trans (if_pos c_6)
        refine lv_iconst (v := 0) hx hb d_Rn_takeIn_74 (by decide) ?_
        exact W.zret hx hb hr (by rfl) (v := 0) (fun t ht hW => ⟨⟨0, u, rfl, he.symm, by rw [ht]; exact hP, va_K.moved hW.alike hK, hD⟩, hS.F ht⟩) hS.2.2 d_Rn_takeIn_75
      · have he := he.trans (if_neg c_6)
        refine lv_aload_n hx hb d_Rn_takeIn_59 rfl (lv_at hl 1 rfl) ?_
        refine va_get (D := (dC, dI)) (ci := 2) (v := .int (TRn_openCount u)) (C := R_Rn) (T := T_Rn) (N := 12) hx hb ht i_Rn hown hK hP 0 rfl rfl 7 (by decide) (ht _ q_137) (fun _ h9 => h9) rfl d_Rn_takeIn_60 ?_
        refine lv_iload_n hx hb d_Rn_takeIn_63 rfl (lv_at hl 3 rfl) ?_
        refine lv_icmp_le (tgt := 74) hx hb d_Rn_takeIn_64 (by decide) (fun c_7 => ?_) (fun c_7 => ?_)
        · have he := he.trans (if_pos c_7)
          refine lv_iconst (v := 0) hx hb d_Rn_takeIn_74 (by decide) ?_
          exact W.zret hx hb hr (by rfl) (v := 0) (fun t ht hW => ⟨⟨0, u, rfl, he.symm, by rw [ht]; exact hP, va_K.moved hW.alike hK, hD⟩, hS.F ht⟩) hS.2.2 d_Rn_takeIn_75
        · have he := he.trans (if_neg c_7)
          refine lv_aload_n hx hb d_Rn_takeIn_67 rfl (lv_at hl 1 rfl) ?_
          refine lv_iload_n hx hb d_Rn_takeIn_68 rfl (lv_at hl 0 rfl) ?_
          refine wx_cv (wS := fun v : TRn => w_R ad ca b v) (ws2 := fun v : TRn => w_R ad ca b v) (va_runV (As := [.int (f_Bk_kindOf b p0)]) (rest := []) ⟨hx, hb, hml, hown, ht⟩ (c_Rn_meetMark l dC dI ad ca H.size b u (f_Bk_kindOf b p0) hpre.1 _ rfl) (cwV 1 ht (tb_V q_389 q_391 q_20 q_44 q_392) rfl rfl rfl p_Rn_meetMark ⟨show 4 + 1 ≤ rf + 5 by omega, show 8 + (2 + 11) + 92 ≤ rl + 113 by omega⟩) (wx_preV (wc := (w_R ad ca b u)) hN hK hP hD [0, 1, 2, 3, 4, 5, 6, 7, 8, 9, 10, 11, 12, 13, 14] [0, 1, 2, 3, 4, 5, 6, 7, 8, 9, 10, 11] rfl (by decide) rfl (ci := 2) (q0 := 0) rfl rfl) rfl rfl hl.1 rfl (lv_room (Nat.le_of_ble_eq_true rfl)) d_Rn_takeIn_69 ⟨Nat.zero_le _, Nat.zero_le _⟩) hP hD hS hA [0, 1, 2, 3, 4, 5, 6, 7, 8, 9, 10, 11, 12, 13, 14] [] [0, 1, 2, 3, 4, 5, 6, 7, 8, 9, 10, 11, 12, 13, 14] rfl rfl (by decide) (by decide) (by decide) (fun _ => rfl) (fun v_8 H locs hw_8 hP hD hS => ?_)
          have hP : va_P (dC, dI) vwCl (w_R ad ca b v_8) H := hP
          have hD : va_D A (w_R ad ca b v_8) := hD
          rw [← hw_8] at he
          try dsimp only at he
          refine lv_iconst (v := 1) hx hb d_Rn_takeIn_72 (by decide) ?_
          exact W.zret hx hb hr (by rfl) (v := 1) (fun t ht hW => ⟨⟨1, v_8, rfl, he.symm, by rw [ht]; exact hP, va_K.moved hW.alike hK, hD⟩, hS.F ht⟩) hS.2.2 d_Rn_takeIn_73
    · have he := he.trans (if_pos c_4)
      refine lv_aload_n hx hb d_Rn_takeIn_38 rfl (lv_at hl 1 rfl) ?_
      refine lv_aload_n hx hb d_Rn_takeIn_39 rfl (lv_at hl 1 rfl) ?_
      refine va_get (D := (dC, dI)) (ci := 2) (v := .ref (ad 8)) (C := R_Rn) (T := T_Rn) (N := 12) hx hb ht i_Rn hown hK hP 0 rfl rfl 0 (by decide) (ht _ q_130) (fun _ h9 => h9) rfl d_Rn_takeIn_40 ?_
      refine lv_iload_n hx hb d_Rn_takeIn_43 rfl (lv_at hl 2 rfl) ?_
      refine wx_ci (wS := fun _ : Unit => w_B ad ca b) (ws2 := fun _ : Unit => w_R ad ca b u) (va_runV (As := [.int p0]) (rest := [.ref (ad 0)]) ⟨hx, hb, hml, hown, ht⟩ (c_Bk_valueOf l dC dI ad ca H.size b p0 _ rfl) (cwV 1 ht (tb_V q_281 q_282 q_283 q_43 q_284) rfl rfl rfl p_Bk_valueOf ⟨show 1 + 1 ≤ rf + 5 by omega, show 8 + (2 + 11) + 20 ≤ rl + 113 by omega⟩) (wx_preV (wc := (w_B ad ca b)) hN hK hP hD [8, 9, 10, 11, 12, 13, 14] [6, 7, 8, 9, 10, 11] rfl (by decide) rfl (ci := 0) (q0 := 0) rfl rfl) rfl rfl hl.1 rfl (lv_room (Nat.le_of_ble_eq_true rfl)) d_Rn_takeIn_44 ⟨Nat.zero_le _, Nat.zero_le _⟩) hP hD hS hA [8, 9, 10, 11, 12, 13, 14] [0, 1, 2, 3, 4, 5, 6, 7] [0, 1, 2, 3, 4, 5, 6, 7, 8, 9, 10, 11, 12, 13, 14] rfl rfl (by decide) (by decide) (by decide) (fun _ => rfl) (fun r_9 _ H locs hw_9 hP hD hS => ?_)
      subst hw_9
      have hP : va_P (dC, dI) vwCl (w_R ad ca b u) H := hP
      have hD : va_D A (w_R ad ca b u) := hD
      refine wx_cv (wS := fun v : TRn => w_R ad ca b v) (ws2 := fun v : TRn => w_R ad ca b v) (va_runV (As := [.int (f_Bk_valueOf b p0)]) (rest := []) ⟨hx, hb, hml, hown, ht⟩ (hop H.size b u (f_Bk_valueOf b p0) hpre) (cwV 1 ht (tb_V q_286 q_288 q_3 q_44 q_289) rfl rfl rfl p_Rn_open ⟨show rf + 1 ≤ rf + 5 by omega, show 8 + (5 + 11) + rl ≤ rl + 113 by omega⟩) (wx_preV (wc := (w_R ad ca b u)) hN hK hP hD [0, 1, 2, 3, 4, 5, 6, 7, 8, 9, 10, 11, 12, 13, 14] [0, 1, 2, 3, 4, 5, 6, 7, 8, 9, 10, 11] rfl (by decide) rfl (ci := 2) (q0 := 0) rfl rfl) rfl rfl hl.1 rfl (lv_room (Nat.le_of_ble_eq_true rfl)) d_Rn_takeIn_47 ⟨Nat.zero_le _, Nat.zero_le _⟩) hP hD hS hA [0, 1, 2, 3, 4, 5, 6, 7, 8, 9, 10, 11, 12, 13, 14] [] [0, 1, 2, 3, 4, 5, 6, 7, 8, 9, 10, 11, 12, 13, 14] rfl rfl (by decide) (by decide) (by decide) (fun _ => rfl) (fun v_10 H locs hw_10 hP hD hS => ?_)
      have hP : va_P (dC, dI) vwCl (w_R ad ca b v_10) H := hP
      have hD : va_D A (w_R ad ca b v_10) := hD
      rw [← hw_10] at he
      try dsimp only at he
      refine lv_iconst (v := 1) hx hb d_Rn_takeIn_50 (by decide) ?_
      exact W.zret hx hb hr (by rfl) (v := 1) (fun t ht hW => ⟨⟨1, v_10, rfl, he.symm, by rw [ht]; exact hP, va_K.moved hW.alike hK, hD⟩, hS.F ht⟩) hS.2.2 d_Rn_takeIn_51
  · have he := he.trans (if_neg c_3)
    refine lv_aload_n hx hb d_Rn_takeIn_16 rfl (lv_at hl 1 rfl) ?_
    refine va_get (D := (dC, dI)) (ci := 2) (v := .ref (ad 5)) (C := R_Rn) (T := T_Rn) (N := 12) hx hb ht i_Rn hown hK hP 0 rfl rfl 1 (by decide) (ht _ q_131) (fun _ h9 => h9) rfl d_Rn_takeIn_17 ?_
    refine lv_aload_n hx hb d_Rn_takeIn_20 rfl (lv_at hl 1 rfl) ?_
    refine va_get (D := (dC, dI)) (ci := 2) (v := .ref (ad 8)) (C := R_Rn) (T := T_Rn) (N := 12) hx hb ht i_Rn hown hK hP 0 rfl rfl 0 (by decide) (ht _ q_130) (fun _ h9 => h9) rfl d_Rn_takeIn_21 ?_
    refine lv_iload_n hx hb d_Rn_takeIn_24 rfl (lv_at hl 2 rfl) ?_
    refine wx_ci (wS := fun _ : Unit => w_B ad ca b) (ws2 := fun _ : Unit => w_R ad ca b u) (va_runV (As := [.int p0]) (rest := [.ref (ad 5)]) ⟨hx, hb, hml, hown, ht⟩ (c_Bk_valueOf l dC dI ad ca H.size b p0 _ rfl) (cwV 1 ht (tb_V q_281 q_282 q_283 q_43 q_284) rfl rfl rfl p_Bk_valueOf ⟨show 1 + 1 ≤ rf + 5 by omega, show 8 + (2 + 11) + 20 ≤ rl + 113 by omega⟩) (wx_preV (wc := (w_B ad ca b)) hN hK hP hD [8, 9, 10, 11, 12, 13, 14] [6, 7, 8, 9, 10, 11] rfl (by decide) rfl (ci := 0) (q0 := 0) rfl rfl) rfl rfl hl.1 rfl (lv_room (Nat.le_of_ble_eq_true rfl)) d_Rn_takeIn_25 ⟨Nat.zero_le _, Nat.zero_le _⟩) hP hD hS hA [8, 9, 10, 11, 12, 13, 14] [0, 1, 2, 3, 4, 5, 6, 7] [0, 1, 2, 3, 4, 5, 6, 7, 8, 9, 10, 11, 12, 13, 14] rfl rfl (by decide) (by decide) (by decide) (fun _ => rfl) (fun r_11 _ H locs hw_11 hP hD hS => ?_)
    subst hw_11
    have hP : va_P (dC, dI) vwCl (w_R ad ca b u) H := hP
    have hD : va_D A (w_R ad ca b u) := hD
    refine wx_cv (wS := fun v : TRd => w_D ad ca b v) (ws2 := fun v : TRd => w_R ad ca b (TRn_set_rd u v)) (va_runV (As := [.int (f_Bk_valueOf b p0)]) (rest := []) ⟨hx, hb, hml, hown, ht⟩ (c_Rd_goOnWith l dC dI ad ca H.size b (TRn_rd u) (f_Bk_valueOf b p0) _ rfl) (cwV 1 ht (tb_V q_285 q_252 q_253 q_45 q_254) rfl rfl rfl p_Rd_goOnWith ⟨show 0 + 1 ≤ rf + 5 by omega, show 8 + (2 + 11) + 0 ≤ rl + 113 by omega⟩) (wx_preV (wc := (w_D ad ca b (TRn_rd u))) hN hK hP hD [5, 6, 7, 8, 9, 10, 11, 12, 13, 14] [4, 5, 6, 7, 8, 9, 10, 11] rfl (by decide) rfl (ci := 1) (q0 := 0) rfl rfl) rfl rfl hl.1 rfl (lv_room (Nat.le_of_ble_eq_true rfl)) d_Rn_takeIn_28 ⟨Nat.zero_le _, Nat.zero_le _⟩) hP hD hS hA [5, 6, 7, 8, 9, 10, 11, 12, 13, 14] [0, 1, 2, 3, 4] [0, 1, 2, 3, 4, 5, 6, 7, 8, 9, 10, 11, 12, 13, 14] rfl rfl (by decide) (by decide) (by decide) (fun _ => rfl) (fun v_12 H locs hw_12 hP hD hS => ?_)
    have hP : va_P (dC, dI) vwCl (w_R ad ca b (TRn_set_rd u v_12)) H := hP
    have hD : va_D A (w_R ad ca b (TRn_set_rd u v_12)) := hD
    rw [← hw_12] at he
    try dsimp only at he
    refine lv_iconst (v := 1) hx hb d_Rn_takeIn_31 (by decide) ?_
    exact W.zret hx hb hr (by rfl) (v := 1) (fun t ht hW => ⟨⟨1, (TRn_set_rd u v_12), rfl, he.symm, by rw [ht]; exact hP, va_K.moved hW.alike hK, hD⟩, hS.F ht⟩) hS.2.2 d_Rn_takeIn_32
