theorem q_23 : Cond.selects R_Md y_Md_kindOf y_Md_kindOf ∈ TB := tq 23 (by decide +kernel) rfl
theorem q_24 : Cond.selects R_Md y_Md_valueOf y_Md_valueOf ∈ TB := tq 24 (by decide +kernel) rfl
theorem q_47 : Cond.initialized R_Md ∈ TB := tq 47 (by decide +kernel) rfl
theorem q_445 : Cond.fieldLink R_Md 44 "ConditionTextModel" "thrown" "I" ∈ TB := tq 445 (by decide +kernel) rfl
theorem q_446 : Cond.fieldLink R_Md 7 "ConditionTextModel" "kinds" "[I" ∈ TB := tq 446 (by decide +kernel) rfl
theorem q_447 : Cond.fieldLink R_Md 13 "ConditionTextModel" "values" "[I" ∈ TB := tq 447 (by decide +kernel) rfl
theorem q_448 : Cond.fieldLink R_Md 52 "ConditionTextModel" "bodies" "I" ∈ TB := tq 448 (by decide +kernel) rfl
theorem q_450 : Cond.fieldLink R_Md 19 "ConditionTextModel" "sizes" "[I" ∈ TB := tq 450 (by decide +kernel) rfl
theorem q_458 : Cond.fieldLink R_Md 72 "ConditionTextModel" "fault" "I" ∈ TB := tq 458 (by decide +kernel) rfl
theorem q_519 : Cond.methodLink R_Md 48 y_Md_in ∈ TB := tq 519 (by decide +kernel) rfl
theorem q_520 : Cond.static y_Md_in ∈ TB := tq 520 (by decide +kernel) rfl
theorem q_521 : Cond.code y_Md_in b_Md_in 3 (some .boolean) ∈ TB := tq 521 (by decide +kernel) rfl
theorem q_555 : Cond.methodLink R_Md 61 y_Md_kindOf ∈ TB := tq 555 (by decide +kernel) rfl
theorem q_557 : Cond.instanceMethod y_Md_kindOf ∈ TB := tq 557 (by decide +kernel) rfl
theorem q_558 : Cond.code y_Md_kindOf b_Md_kindOf 2 (some .int) ∈ TB := tq 558 (by decide +kernel) rfl
theorem q_559 : Cond.methodLink R_Md 65 y_Md_valueOf ∈ TB := tq 559 (by decide +kernel) rfl
theorem q_561 : Cond.instanceMethod y_Md_valueOf ∈ TB := tq 561 (by decide +kernel) rfl
theorem q_562 : Cond.code y_Md_valueOf b_Md_valueOf 2 (some .int) ∈ TB := tq 562 (by decide +kernel) rfl
theorem d_Md_isToken_0 : decode b_Md_isToken 0 = .ok (.iload_n 0, 1) := by decide +kernel
theorem d_Md_isToken_1 : decode b_Md_isToken 1 = .ok (.iconst 0, 1) := by decide +kernel
theorem d_Md_isToken_2 : decode b_Md_isToken 2 = .ok (.sipush 4135, 3) := by decide +kernel
theorem d_Md_isToken_5 : decode b_Md_isToken 5 = .ok (.invokestatic 48, 3) := by decide +kernel
theorem d_Md_isToken_8 : decode b_Md_isToken 8 = .ok (.ireturn, 1) := by decide +kernel
theorem d_Md_yes_0 : decode b_Md_yes 0 = .ok (.iload_n 0, 1) := by decide +kernel
theorem d_Md_yes_1 : decode b_Md_yes 1 = .ok (.ifCond .eq 7, 3) := by decide +kernel
theorem d_Md_yes_4 : decode b_Md_yes 4 = .ok (.iconst 1, 1) := by decide +kernel
theorem d_Md_yes_5 : decode b_Md_yes 5 = .ok (.goto 4, 3) := by decide +kernel
theorem d_Md_yes_8 : decode b_Md_yes 8 = .ok (.iconst 0, 1) := by decide +kernel
theorem d_Md_yes_9 : decode b_Md_yes 9 = .ok (.ireturn, 1) := by decide +kernel
theorem d_Md_kindOf_0 : decode b_Md_kindOf 0 = .ok (.iload_n 1, 1) := by decide +kernel
theorem d_Md_kindOf_1 : decode b_Md_kindOf 1 = .ok (.sipush 4096, 3) := by decide +kernel
theorem d_Md_kindOf_4 : decode b_Md_kindOf 4 = .ok (.if_icmp .ge 7, 3) := by decide +kernel
theorem d_Md_kindOf_7 : decode b_Md_kindOf 7 = .ok (.iconst 1, 1) := by decide +kernel
theorem d_Md_kindOf_8 : decode b_Md_kindOf 8 = .ok (.goto 13, 3) := by decide +kernel
theorem d_Md_kindOf_11 : decode b_Md_kindOf 11 = .ok (.aload_n 0, 1) := by decide +kernel
theorem d_Md_kindOf_12 : decode b_Md_kindOf 12 = .ok (.getfield 7, 3) := by decide +kernel
theorem d_Md_kindOf_15 : decode b_Md_kindOf 15 = .ok (.iload_n 1, 1) := by decide +kernel
theorem d_Md_kindOf_16 : decode b_Md_kindOf 16 = .ok (.sipush 4096, 3) := by decide +kernel
theorem d_Md_kindOf_19 : decode b_Md_kindOf 19 = .ok (.isub, 1) := by decide +kernel
theorem d_Md_kindOf_20 : decode b_Md_kindOf 20 = .ok (.iaload, 1) := by decide +kernel
theorem d_Md_kindOf_21 : decode b_Md_kindOf 21 = .ok (.ireturn, 1) := by decide +kernel
theorem d_Md_valueOf_0 : decode b_Md_valueOf 0 = .ok (.iload_n 1, 1) := by decide +kernel
theorem d_Md_valueOf_1 : decode b_Md_valueOf 1 = .ok (.sipush 4096, 3) := by decide +kernel
theorem d_Md_valueOf_4 : decode b_Md_valueOf 4 = .ok (.if_icmp .ge 7, 3) := by decide +kernel
theorem d_Md_valueOf_7 : decode b_Md_valueOf 7 = .ok (.iload_n 1, 1) := by decide +kernel
theorem d_Md_valueOf_8 : decode b_Md_valueOf 8 = .ok (.goto 13, 3) := by decide +kernel
theorem d_Md_valueOf_11 : decode b_Md_valueOf 11 = .ok (.aload_n 0, 1) := by decide +kernel
theorem d_Md_valueOf_12 : decode b_Md_valueOf 12 = .ok (.getfield 13, 3) := by decide +kernel
theorem d_Md_valueOf_15 : decode b_Md_valueOf 15 = .ok (.iload_n 1, 1) := by decide +kernel
theorem d_Md_valueOf_16 : decode b_Md_valueOf 16 = .ok (.sipush 4096, 3) := by decide +kernel
theorem d_Md_valueOf_19 : decode b_Md_valueOf 19 = .ok (.isub, 1) := by decide +kernel
theorem d_Md_valueOf_20 : decode b_Md_valueOf 20 = .ok (.iaload, 1) := by decide +kernel
theorem d_Md_valueOf_21 : decode b_Md_valueOf 21 = .ok (.ireturn, 1) := by decide +kernel
theorem d_Md_isMacro_0 : decode b_Md_isMacro 0 = .ok (.aload_n 0, 1) := by decide +kernel
theorem d_Md_isMacro_1 : decode b_Md_isMacro 1 = .ok (.iload_n 1, 1) := by decide +kernel
theorem d_Md_isMacro_2 : decode b_Md_isMacro 2 = .ok (.invokevirtual 61, 3) := by decide +kernel
theorem d_Md_isMacro_5 : decode b_Md_isMacro 5 = .ok (.iconst 2, 1) := by decide +kernel
theorem d_Md_isMacro_6 : decode b_Md_isMacro 6 = .ok (.if_icmp .eq 12, 3) := by decide +kernel
theorem d_Md_isMacro_9 : decode b_Md_isMacro 9 = .ok (.aload_n 0, 1) := by decide +kernel
theorem d_Md_isMacro_10 : decode b_Md_isMacro 10 = .ok (.iload_n 1, 1) := by decide +kernel
theorem d_Md_isMacro_11 : decode b_Md_isMacro 11 = .ok (.invokevirtual 61, 3) := by decide +kernel
theorem d_Md_isMacro_14 : decode b_Md_isMacro 14 = .ok (.iconst 3, 1) := by decide +kernel
theorem d_Md_isMacro_15 : decode b_Md_isMacro 15 = .ok (.if_icmp .ne 7, 3) := by decide +kernel
theorem d_Md_isMacro_18 : decode b_Md_isMacro 18 = .ok (.iconst 1, 1) := by decide +kernel
theorem d_Md_isMacro_19 : decode b_Md_isMacro 19 = .ok (.goto 4, 3) := by decide +kernel
theorem d_Md_isMacro_22 : decode b_Md_isMacro 22 = .ok (.iconst 0, 1) := by decide +kernel
theorem d_Md_isMacro_23 : decode b_Md_isMacro 23 = .ok (.ireturn, 1) := by decide +kernel
theorem d_Md_isSignOf_0 : decode b_Md_isSignOf 0 = .ok (.iload_n 1, 1) := by decide +kernel
theorem d_Md_isSignOf_1 : decode b_Md_isSignOf 1 = .ok (.sipush 256, 3) := by decide +kernel
theorem d_Md_isSignOf_4 : decode b_Md_isSignOf 4 = .ok (.iload_n 3, 1) := by decide +kernel
theorem d_Md_isSignOf_5 : decode b_Md_isSignOf 5 = .ok (.imul, 1) := by decide +kernel
theorem d_Md_isSignOf_6 : decode b_Md_isSignOf 6 = .ok (.iload_n 2, 1) := by decide +kernel
theorem d_Md_isSignOf_7 : decode b_Md_isSignOf 7 = .ok (.iadd, 1) := by decide +kernel
theorem d_Md_isSignOf_8 : decode b_Md_isSignOf 8 = .ok (.if_icmp .ne 7, 3) := by decide +kernel
theorem d_Md_isSignOf_11 : decode b_Md_isSignOf 11 = .ok (.iconst 1, 1) := by decide +kernel
theorem d_Md_isSignOf_12 : decode b_Md_isSignOf 12 = .ok (.goto 4, 3) := by decide +kernel
theorem d_Md_isSignOf_15 : decode b_Md_isSignOf 15 = .ok (.iconst 0, 1) := by decide +kernel
theorem d_Md_isSignOf_16 : decode b_Md_isSignOf 16 = .ok (.ireturn, 1) := by decide +kernel
theorem d_Md_isDigit_0 : decode b_Md_isDigit 0 = .ok (.iload_n 1, 1) := by decide +kernel
theorem d_Md_isDigit_1 : decode b_Md_isDigit 1 = .ok (.sipush 3120, 3) := by decide +kernel
theorem d_Md_isDigit_4 : decode b_Md_isDigit 4 = .ok (.if_icmp .lt 14, 3) := by decide +kernel
theorem d_Md_isDigit_7 : decode b_Md_isDigit 7 = .ok (.iload_n 1, 1) := by decide +kernel
theorem d_Md_isDigit_8 : decode b_Md_isDigit 8 = .ok (.sipush 3129, 3) := by decide +kernel
theorem d_Md_isDigit_11 : decode b_Md_isDigit 11 = .ok (.if_icmp .gt 7, 3) := by decide +kernel
theorem d_Md_isDigit_14 : decode b_Md_isDigit 14 = .ok (.iconst 1, 1) := by decide +kernel
theorem d_Md_isDigit_15 : decode b_Md_isDigit 15 = .ok (.goto 4, 3) := by decide +kernel
theorem d_Md_isDigit_18 : decode b_Md_isDigit 18 = .ok (.iconst 0, 1) := by decide +kernel
theorem d_Md_isDigit_19 : decode b_Md_isDigit 19 = .ok (.ireturn, 1) := by decide +kernel
theorem d_Md_code_0 : decode b_Md_code 0 = .ok (.aload_n 0, 1) := by decide +kernel
theorem d_Md_code_1 : decode b_Md_code 1 = .ok (.iload_n 1, 1) := by decide +kernel
theorem d_Md_code_2 : decode b_Md_code 2 = .ok (.invokevirtual 61, 3) := by decide +kernel
theorem d_Md_code_5 : decode b_Md_code 5 = .ok (.iconst 1, 1) := by decide +kernel
theorem d_Md_code_6 : decode b_Md_code 6 = .ok (.if_icmp .ne 15, 3) := by decide +kernel
theorem d_Md_code_9 : decode b_Md_code 9 = .ok (.aload_n 0, 1) := by decide +kernel
theorem d_Md_code_10 : decode b_Md_code 10 = .ok (.iload_n 1, 1) := by decide +kernel
theorem d_Md_code_11 : decode b_Md_code 11 = .ok (.invokevirtual 65, 3) := by decide +kernel
theorem d_Md_code_14 : decode b_Md_code 14 = .ok (.sipush 256, 3) := by decide +kernel
theorem d_Md_code_17 : decode b_Md_code 17 = .ok (.irem, 1) := by decide +kernel
theorem d_Md_code_18 : decode b_Md_code 18 = .ok (.goto 6, 3) := by decide +kernel
theorem d_Md_code_21 : decode b_Md_code 21 = .ok (.sipush 256, 3) := by decide +kernel
theorem d_Md_code_24 : decode b_Md_code 24 = .ok (.ireturn, 1) := by decide +kernel
theorem d_Md_category_0 : decode b_Md_category 0 = .ok (.aload_n 0, 1) := by decide +kernel
theorem d_Md_category_1 : decode b_Md_category 1 = .ok (.iload_n 1, 1) := by decide +kernel
theorem d_Md_category_2 : decode b_Md_category 2 = .ok (.invokevirtual 61, 3) := by decide +kernel
theorem d_Md_category_5 : decode b_Md_category 5 = .ok (.iconst 1, 1) := by decide +kernel
theorem d_Md_category_6 : decode b_Md_category 6 = .ok (.if_icmp .ne 15, 3) := by decide +kernel
theorem d_Md_category_9 : decode b_Md_category 9 = .ok (.aload_n 0, 1) := by decide +kernel
theorem d_Md_category_10 : decode b_Md_category 10 = .ok (.iload_n 1, 1) := by decide +kernel
theorem d_Md_category_11 : decode b_Md_category 11 = .ok (.invokevirtual 65, 3) := by decide +kernel
theorem d_Md_category_14 : decode b_Md_category 14 = .ok (.sipush 256, 3) := by decide +kernel
theorem d_Md_category_17 : decode b_Md_category 17 = .ok (.idiv, 1) := by decide +kernel
theorem d_Md_category_18 : decode b_Md_category 18 = .ok (.goto 5, 3) := by decide +kernel
theorem d_Md_category_21 : decode b_Md_category 21 = .ok (.bipush 16, 2) := by decide +kernel
theorem d_Md_category_23 : decode b_Md_category 23 = .ok (.ireturn, 1) := by decide +kernel
theorem d_Md_fail_0 : decode b_Md_fail 0 = .ok (.aload_n 0, 1) := by decide +kernel
theorem d_Md_fail_1 : decode b_Md_fail 1 = .ok (.aload_n 0, 1) := by decide +kernel
theorem d_Md_fail_2 : decode b_Md_fail 2 = .ok (.getfield 72, 3) := by decide +kernel
theorem d_Md_fail_5 : decode b_Md_fail 5 = .ok (.ifCond .ne 7, 3) := by decide +kernel
theorem d_Md_fail_8 : decode b_Md_fail 8 = .ok (.iload_n 1, 1) := by decide +kernel
theorem d_Md_fail_9 : decode b_Md_fail 9 = .ok (.goto 7, 3) := by decide +kernel
theorem d_Md_fail_12 : decode b_Md_fail 12 = .ok (.aload_n 0, 1) := by decide +kernel
theorem d_Md_fail_13 : decode b_Md_fail 13 = .ok (.getfield 72, 3) := by decide +kernel
theorem d_Md_fail_16 : decode b_Md_fail 16 = .ok (.putfield 72, 3) := by decide +kernel
theorem d_Md_fail_19 : decode b_Md_fail 19 = .ok (.return_, 1) := by decide +kernel
theorem d_Md_body_0 : decode b_Md_body 0 = .ok (.aload_n 0, 1) := by decide +kernel
theorem d_Md_body_1 : decode b_Md_body 1 = .ok (.iconst 0, 1) := by decide +kernel
theorem d_Md_body_2 : decode b_Md_body 2 = .ok (.putfield 44, 3) := by decide +kernel
theorem d_Md_body_5 : decode b_Md_body 5 = .ok (.aload_n 0, 1) := by decide +kernel
theorem d_Md_body_6 : decode b_Md_body 6 = .ok (.getfield 52, 3) := by decide +kernel
theorem d_Md_body_9 : decode b_Md_body 9 = .ok (.bipush 20, 2) := by decide +kernel
theorem d_Md_body_11 : decode b_Md_body 11 = .ok (.if_icmp .ne 6, 3) := by decide +kernel
theorem d_Md_body_14 : decode b_Md_body 14 = .ok (.bipush (-4), 2) := by decide +kernel
theorem d_Md_body_16 : decode b_Md_body 16 = .ok (.ireturn, 1) := by decide +kernel
theorem d_Md_body_17 : decode b_Md_body 17 = .ok (.aload_n 0, 1) := by decide +kernel
theorem d_Md_body_18 : decode b_Md_body 18 = .ok (.dup, 1) := by decide +kernel
theorem d_Md_body_19 : decode b_Md_body 19 = .ok (.getfield 52, 3) := by decide +kernel
theorem d_Md_body_22 : decode b_Md_body 22 = .ok (.iconst 1, 1) := by decide +kernel
theorem d_Md_body_23 : decode b_Md_body 23 = .ok (.iadd, 1) := by decide +kernel
theorem d_Md_body_24 : decode b_Md_body 24 = .ok (.putfield 52, 3) := by decide +kernel
theorem d_Md_body_27 : decode b_Md_body 27 = .ok (.aload_n 0, 1) := by decide +kernel
theorem d_Md_body_28 : decode b_Md_body 28 = .ok (.getfield 52, 3) := by decide +kernel
theorem d_Md_body_31 : decode b_Md_body 31 = .ok (.iconst 1, 1) := by decide +kernel
theorem d_Md_body_32 : decode b_Md_body 32 = .ok (.isub, 1) := by decide +kernel
theorem d_Md_body_33 : decode b_Md_body 33 = .ok (.ireturn, 1) := by decide +kernel
theorem d_Md_clear_0 : decode b_Md_clear 0 = .ok (.aload_n 0, 1) := by decide +kernel
theorem d_Md_clear_1 : decode b_Md_clear 1 = .ok (.iconst 0, 1) := by decide +kernel
theorem d_Md_clear_2 : decode b_Md_clear 2 = .ok (.putfield 44, 3) := by decide +kernel
theorem d_Md_clear_5 : decode b_Md_clear 5 = .ok (.aload_n 0, 1) := by decide +kernel
theorem d_Md_clear_6 : decode b_Md_clear 6 = .ok (.getfield 19, 3) := by decide +kernel
theorem d_Md_clear_9 : decode b_Md_clear 9 = .ok (.bipush 20, 2) := by decide +kernel
theorem d_Md_clear_11 : decode b_Md_clear 11 = .ok (.iaload, 1) := by decide +kernel
theorem d_Md_clear_12 : decode b_Md_clear 12 = .ok (.istore_n 1, 1) := by decide +kernel
theorem d_Md_clear_13 : decode b_Md_clear 13 = .ok (.aload_n 0, 1) := by decide +kernel
theorem d_Md_clear_14 : decode b_Md_clear 14 = .ok (.getfield 19, 3) := by decide +kernel
theorem d_Md_clear_17 : decode b_Md_clear 17 = .ok (.bipush 20, 2) := by decide +kernel
theorem d_Md_clear_19 : decode b_Md_clear 19 = .ok (.iconst 0, 1) := by decide +kernel
theorem d_Md_clear_20 : decode b_Md_clear 20 = .ok (.iastore, 1) := by decide +kernel
theorem d_Md_clear_21 : decode b_Md_clear 21 = .ok (.iload_n 1, 1) := by decide +kernel
theorem d_Md_clear_22 : decode b_Md_clear 22 = .ok (.ireturn, 1) := by decide +kernel
noncomputable def f_Md_isToken (p0 : Int32) : Int32 := (f_Md_in p0 0 4135)
set_option maxHeartbeats 4000000 in
set_option maxRecDepth 100000 in
theorem c_Md_isToken (l : Launch) (dC : Nat → ClassId) (dI : Nat → Nat → Nat) (ad : Nat → Nat) (ca : Nat → ClassId) (sz : Nat) (p0 : Int32) (F : Int32) (he : F = f_Md_isToken p0) : wx_Mi l y_Md_isToken ws_Md_isToken ({ frames := 1, cells := 0, slots := 0, locals := 22 } : Room) (dC, dI) vwCl (t_E ca) [.int p0] (w_E ad ca) sz (fun _ : Unit => w_E ad ca) (fun (r : Int32) (_ : Unit) => r = F) := by
  refine Met.ofW (cc := b_Md_isToken) (maxL := 1) (ret := some .boolean) (by decide) rfl ?_
  intro p e s m args below meth c s₁ B hml hv
  obtain ⟨rfl, hsz, hP, hK, hD0, hN⟩ := hv
  have hx := B.exec
  have hb := B.bytes
  have hr := B.returns
  have hts := atoms_spec (ws := ws_Md_isToken) B.pre
  have ht : ∀ w ∈ TB, w.before _ s = true := fun w h => hts w (List.mem_cons_of_mem _ h)
  have hown : s.vm.findClass R_Md = some m.cls := findClass_of_methodNamed B.named
  have hlocks := B.notSynchronized
  subst hsz
  have hD := hD0.self (sz := s.heap.size)
  generalize hAe : va_A (w_E ad ca) s.heap.size = A at hD ⊢
  have hA : ∀ q : Nat, s.heap.size ≤ q → A q := fun q h => by rw [← hAe]; exact Or.inr h
  have hS : va_S A s.heap s.heap [] := va_S.rf
  have hl := lv_entry ([.int p0]) (n := 1) (Nat.le_of_ble_eq_true rfl)
  rw [lg_entry_eq]
  generalize (lg_sl ([.int p0]) ++ List.replicate (1 - (lg_sl ([.int p0])).length) Slot.unset).toArray = ls at hl ⊢
  have hl : lv_has ls 1 [(0, .int p0)] := hl
  unfold f_Md_isToken at he
  refine lv_iload_n hx hb d_Md_isToken_0 rfl (lv_at hl 0 rfl) ?_
  refine lv_iconst (v := 0) hx hb d_Md_isToken_1 (by decide) ?_
  refine lv_sipush (v := 4135) hx hb d_Md_isToken_2 (by decide) ?_
  refine wx_ci (wS := fun _ : Unit => w_E ad ca) (ws2 := fun _ : Unit => w_E ad ca) (va_runS (As := [.int p0, .int 0, .int 4135]) (rest := []) ⟨hx, hb, hml, hown, ht⟩ (c_Md_in l dC dI ad ca s.heap.size p0 0 4135 _ rfl) (va_cwS 3 ht (tb_S q_519 q_520 q_47 q_521) rfl rfl rfl p_Md_in.2 ⟨show 0 + 1 ≤ 1 by omega, show 8 + (3 + 11) + 0 ≤ 22 by omega⟩) (wx_preS (wc := (w_E ad ca)) hN hK hP hD [] [] rfl (by decide) rfl) rfl rfl hl.1 rfl (lv_room (Nat.le_of_ble_eq_true rfl)) d_Md_isToken_5 ⟨Nat.zero_le _, Nat.zero_le _⟩) hP hD hS hA [] [] [] rfl rfl (by decide) (by decide) (by decide) (fun _ => rfl) (fun r_1 _ H locs hw_1 hP hD hS => ?_)
  subst hw_1
  have hP : va_P (dC, dI) vwCl (w_E ad ca) H := hP
  have hD : va_D A (w_E ad ca) := hD
  exact W.zret hx hb hr (by rcases in_01 p0 0 4135 with h | h <;> rw [h] <;> rfl) (v := (f_Md_in p0 0 4135)) (fun t ht hW => ⟨⟨(f_Md_in p0 0 4135), (), rfl, he.symm, by rw [ht]; exact hP, va_K.moved hW.alike hK, hD⟩, hS.F ht⟩) hS.2.2 d_Md_isToken_8
noncomputable def f_Md_yes (p0 : Int32) : Int32 := (if p0 = 0 then 0 else 1)
set_option maxHeartbeats 4000000 in
set_option maxRecDepth 100000 in
theorem c_Md_yes (l : Launch) (dC : Nat → ClassId) (dI : Nat → Nat → Nat) (ad : Nat → Nat) (ca : Nat → ClassId) (sz : Nat) (p0 : Int32) (F : Int32) (he : F = f_Md_yes p0) : wx_Mi l y_Md_yes ws_Md_yes ({ frames := 0, cells := 0, slots := 0, locals := 0 } : Room) (dC, dI) vwCl (t_E ca) [.int p0] (w_E ad ca) sz (fun _ : Unit => w_E ad ca) (fun (r : Int32) (_ : Unit) => r = F) := by
  refine Met.ofW (cc := b_Md_yes) (maxL := 1) (ret := some .int) (by decide) rfl ?_
  intro p e s m args below meth c s₁ B hml hv
  obtain ⟨rfl, hsz, hP, hK, hD0, hN⟩ := hv
  have hx := B.exec
  have hb := B.bytes
  have hr := B.returns
  have hts := atoms_spec (ws := ws_Md_yes) B.pre
  have ht : ∀ w ∈ TB, w.before _ s = true := fun w h => hts w (List.mem_cons_of_mem _ h)
  have hown : s.vm.findClass R_Md = some m.cls := findClass_of_methodNamed B.named
  have hlocks := B.notSynchronized
  subst hsz
  have hD := hD0.self (sz := s.heap.size)
  generalize hAe : va_A (w_E ad ca) s.heap.size = A at hD ⊢
  have hA : ∀ q : Nat, s.heap.size ≤ q → A q := fun q h => by rw [← hAe]; exact Or.inr h
  have hS : va_S A s.heap s.heap [] := va_S.rf
  have hl := lv_entry ([.int p0]) (n := 1) (Nat.le_of_ble_eq_true rfl)
  rw [lg_entry_eq]
  generalize (lg_sl ([.int p0]) ++ List.replicate (1 - (lg_sl ([.int p0])).length) Slot.unset).toArray = ls at hl ⊢
  have hl : lv_has ls 1 [(0, .int p0)] := hl
  unfold f_Md_yes at he
  refine lv_iload_n hx hb d_Md_yes_0 rfl (lv_at hl 0 rfl) ?_
  refine lv_if_eq (tgt := 8) hx hb d_Md_yes_1 (by decide) (fun c_1 => ?_) (fun c_1 => ?_)
  · have he := he.trans (if_pos c_1)
    refine lv_iconst (v := 0) hx hb d_Md_yes_8 (by decide) ?_
    exact W.iret hx hb hr (v := 0) (fun t ht hW => ⟨⟨0, (), rfl, he.symm, by rw [ht]; exact hP, va_K.moved hW.alike hK, hD⟩, hS.F ht⟩) hS.2.2 d_Md_yes_9
  · have he := he.trans (if_neg c_1)
    refine lv_iconst (v := 1) hx hb d_Md_yes_4 (by decide) ?_
    refine lv_goto (tgt := 9) hx hb d_Md_yes_5 (by decide) ?_
    exact W.iret hx hb hr (v := 1) (fun t ht hW => ⟨⟨1, (), rfl, he.symm, by rw [ht]; exact hP, va_K.moved hW.alike hK, hD⟩, hS.F ht⟩) hS.2.2 d_Md_yes_9
noncomputable def f_Md_kindOf (d : TMd) (p0 : Int32) : Int32 := (if 4096 ≤ p0 then ((TMd_kinds d) (p0 - 4096).toNatClampNeg) else 1)
set_option maxHeartbeats 4000000 in
set_option maxRecDepth 100000 in
theorem c_Md_kindOf (l : Launch) (dC : Nat → ClassId) (dI : Nat → Nat → Nat) (ad : Nat → Nat) (ca : Nat → ClassId) (sz : Nat) (d : TMd) (p0 : Int32) (hpre : p0.toInt < 4136) (F : Int32) (he : F = f_Md_kindOf d p0) : wx_Mi l y_Md_kindOf ws_Md_kindOf ({ frames := 0, cells := 0, slots := 0, locals := 0 } : Room) (dC, dI) vwCl (t_M ca) [.ref (ad 16), .int p0] (w_M ad ca d) sz (fun _ : Unit => w_M ad ca d) (fun (r : Int32) (_ : Unit) => r = F) := by
  refine Met.ofW (cc := b_Md_kindOf) (maxL := 2) (ret := some .int) (by decide) rfl ?_
  intro p e s m args below meth c s₁ B hml hv
  obtain ⟨rfl, hsz, hP, hK, hD0, hN⟩ := hv
  have hx := B.exec
  have hb := B.bytes
  have hr := B.returns
  have hts := atoms_spec (ws := ws_Md_kindOf) B.pre
  have ht : ∀ w ∈ TB, w.before _ s = true := fun w h => hts w (List.mem_cons_of_mem _ h)
  have hown : s.vm.findClass R_Md = some m.cls := findClass_of_methodNamed B.named
  have hlocks := B.notSynchronized
  subst hsz
  have hD := hD0.self (sz := s.heap.size)
  generalize hAe : va_A (w_M ad ca d) s.heap.size = A at hD ⊢
  have hA : ∀ q : Nat, s.heap.size ≤ q → A q := fun q h => by rw [← hAe]; exact Or.inr h
  have hS : va_S A s.heap s.heap [] := va_S.rf
  have hl := lv_entry ([.ref (ad 16), .int p0]) (n := 2) (Nat.le_of_ble_eq_true rfl)
  rw [lg_entry_eq]
  generalize (lg_sl ([.ref (ad 16), .int p0]) ++ List.replicate (2 - (lg_sl ([.ref (ad 16), .int p0])).length) Slot.unset).toArray = ls at hl ⊢
  have hl : lv_has ls 2 [(0, .ref (ad 16)), (1, .int p0)] := hl
  unfold f_Md_kindOf at he
  refine lv_iload_n hx hb d_Md_kindOf_0 rfl (lv_at hl 1 rfl) ?_
  refine lv_sipush (v := 4096) hx hb d_Md_kindOf_1 (by decide) ?_
  refine lv_icmp_ge (tgt := 11) hx hb d_Md_kindOf_4 (by decide) (fun c_1 => ?_) (fun c_1 => ?_)
  · have he := he.trans (if_pos c_1)
    refine lv_aload_n hx hb d_Md_kindOf_11 rfl (lv_at hl 0 rfl) ?_
    refine va_get (D := (dC, dI)) (ci := 4) (v := .ref (ad 17)) (C := R_Md) (T := T_Md) (N := 23) hx hb ht i_Md hown hK hP 0 rfl rfl 1 (by decide) (ht _ q_446) (fun _ h9 => h9) rfl d_Md_kindOf_12 ?_
    refine lv_iload_n hx hb d_Md_kindOf_15 rfl (lv_at hl 1 rfl) ?_
    refine lv_sipush (v := 4096) hx hb d_Md_kindOf_16 (by decide) ?_
    refine lv_isub hx hb d_Md_kindOf_19 ?_
    refine va_iald hx hb hK hP 1 0 rfl rfl (in_nameM hpre c_1) d_Md_kindOf_20 ?_
    exact W.iret hx hb hr (v := ((TMd_kinds d) (p0 - 4096).toNatClampNeg)) (fun t ht hW => ⟨⟨((TMd_kinds d) (p0 - 4096).toNatClampNeg), (), rfl, he.symm, by rw [ht]; exact hP, va_K.moved hW.alike hK, hD⟩, hS.F ht⟩) hS.2.2 d_Md_kindOf_21
  · have he := he.trans (if_neg c_1)
    refine lv_iconst (v := 1) hx hb d_Md_kindOf_7 (by decide) ?_
    refine lv_goto (tgt := 21) hx hb d_Md_kindOf_8 (by decide) ?_
    exact W.iret hx hb hr (v := 1) (fun t ht hW => ⟨⟨1, (), rfl, he.symm, by rw [ht]; exact hP, va_K.moved hW.alike hK, hD⟩, hS.F ht⟩) hS.2.2 d_Md_kindOf_21
noncomputable def f_Md_valueOf (d : TMd) (p0 : Int32) : Int32 := (if 4096 ≤ p0 then ((TMd_values d) (p0 - 4096).toNatClampNeg) else p0)
set_option maxHeartbeats 4000000 in
set_option maxRecDepth 100000 in
theorem c_Md_valueOf (l : Launch) (dC : Nat → ClassId) (dI : Nat → Nat → Nat) (ad : Nat → Nat) (ca : Nat → ClassId) (sz : Nat) (d : TMd) (p0 : Int32) (hpre : p0.toInt < 4136) (F : Int32) (he : F = f_Md_valueOf d p0) : wx_Mi l y_Md_valueOf ws_Md_valueOf ({ frames := 0, cells := 0, slots := 0, locals := 0 } : Room) (dC, dI) vwCl (t_M ca) [.ref (ad 16), .int p0] (w_M ad ca d) sz (fun _ : Unit => w_M ad ca d) (fun (r : Int32) (_ : Unit) => r = F) := by
  refine Met.ofW (cc := b_Md_valueOf) (maxL := 2) (ret := some .int) (by decide) rfl ?_
  intro p e s m args below meth c s₁ B hml hv
  obtain ⟨rfl, hsz, hP, hK, hD0, hN⟩ := hv
  have hx := B.exec
  have hb := B.bytes
  have hr := B.returns
  have hts := atoms_spec (ws := ws_Md_valueOf) B.pre
  have ht : ∀ w ∈ TB, w.before _ s = true := fun w h => hts w (List.mem_cons_of_mem _ h)
  have hown : s.vm.findClass R_Md = some m.cls := findClass_of_methodNamed B.named
  have hlocks := B.notSynchronized
  subst hsz
  have hD := hD0.self (sz := s.heap.size)
  generalize hAe : va_A (w_M ad ca d) s.heap.size = A at hD ⊢
  have hA : ∀ q : Nat, s.heap.size ≤ q → A q := fun q h => by rw [← hAe]; exact Or.inr h
  have hS : va_S A s.heap s.heap [] := va_S.rf
  have hl := lv_entry ([.ref (ad 16), .int p0]) (n := 2) (Nat.le_of_ble_eq_true rfl)
  rw [lg_entry_eq]
  generalize (lg_sl ([.ref (ad 16), .int p0]) ++ List.replicate (2 - (lg_sl ([.ref (ad 16), .int p0])).length) Slot.unset).toArray = ls at hl ⊢
  have hl : lv_has ls 2 [(0, .ref (ad 16)), (1, .int p0)] := hl
  unfold f_Md_valueOf at he
  refine lv_iload_n hx hb d_Md_valueOf_0 rfl (lv_at hl 1 rfl) ?_
  refine lv_sipush (v := 4096) hx hb d_Md_valueOf_1 (by decide) ?_
  refine lv_icmp_ge (tgt := 11) hx hb d_Md_valueOf_4 (by decide) (fun c_1 => ?_) (fun c_1 => ?_)
  · have he := he.trans (if_pos c_1)
    refine lv_aload_n hx hb d_Md_valueOf_11 rfl (lv_at hl 0 rfl) ?_
    refine va_get (D := (dC, dI)) (ci := 4) (v := .ref (ad 18)) (C := R_Md) (T := T_Md) (N := 23) hx hb ht i_Md hown hK hP 0 rfl rfl 2 (by decide) (ht _ q_447) (fun _ h9 => h9) rfl d_Md_valueOf_12 ?_
    refine lv_iload_n hx hb d_Md_valueOf_15 rfl (lv_at hl 1 rfl) ?_
    refine lv_sipush (v := 4096) hx hb d_Md_valueOf_16 (by decide) ?_
    refine lv_isub hx hb d_Md_valueOf_19 ?_
    refine va_iald hx hb hK hP 2 1 rfl rfl (in_nameM hpre c_1) d_Md_valueOf_20 ?_
    exact W.iret hx hb hr (v := ((TMd_values d) (p0 - 4096).toNatClampNeg)) (fun t ht hW => ⟨⟨((TMd_values d) (p0 - 4096).toNatClampNeg), (), rfl, he.symm, by rw [ht]; exact hP, va_K.moved hW.alike hK, hD⟩, hS.F ht⟩) hS.2.2 d_Md_valueOf_21
  · have he := he.trans (if_neg c_1)
    refine lv_iload_n hx hb d_Md_valueOf_7 rfl (lv_at hl 1 rfl) ?_
    refine lv_goto (tgt := 21) hx hb d_Md_valueOf_8 (by decide) ?_
    exact W.iret hx hb hr (v := p0) (fun t ht hW => ⟨⟨p0, (), rfl, he.symm, by rw [ht]; exact hP, va_K.moved hW.alike hK, hD⟩, hS.F ht⟩) hS.2.2 d_Md_valueOf_21
noncomputable def f_Md_isMacro (d : TMd) (p0 : Int32) : Int32 := (if (f_Md_kindOf d p0) = 2 then 1 else (if (f_Md_kindOf d p0) = 3 then 1 else 0))
set_option maxHeartbeats 4000000 in
set_option maxRecDepth 100000 in
theorem c_Md_isMacro (l : Launch) (dC : Nat → ClassId) (dI : Nat → Nat → Nat) (ad : Nat → Nat) (ca : Nat → ClassId) (sz : Nat) (d : TMd) (p0 : Int32) (hpre : p0.toInt < 4136) (F : Int32) (he : F = f_Md_isMacro d p0) : wx_Mi l y_Md_isMacro ws_Md_isMacro ({ frames := 1, cells := 0, slots := 0, locals := 21 } : Room) (dC, dI) vwCl (t_M ca) [.ref (ad 16), .int p0] (w_M ad ca d) sz (fun _ : Unit => w_M ad ca d) (fun (r : Int32) (_ : Unit) => r = F) := by
  refine Met.ofW (cc := b_Md_isMacro) (maxL := 2) (ret := some .boolean) (by decide) rfl ?_
  intro p e s m args below meth c s₁ B hml hv
  obtain ⟨rfl, hsz, hP, hK, hD0, hN⟩ := hv
  have hx := B.exec
  have hb := B.bytes
  have hr := B.returns
  have hts := atoms_spec (ws := ws_Md_isMacro) B.pre
  have ht : ∀ w ∈ TB, w.before _ s = true := fun w h => hts w (List.mem_cons_of_mem _ h)
  have hown : s.vm.findClass R_Md = some m.cls := findClass_of_methodNamed B.named
  have hlocks := B.notSynchronized
  subst hsz
  have hD := hD0.self (sz := s.heap.size)
  generalize hAe : va_A (w_M ad ca d) s.heap.size = A at hD ⊢
  have hA : ∀ q : Nat, s.heap.size ≤ q → A q := fun q h => by rw [← hAe]; exact Or.inr h
  have hS : va_S A s.heap s.heap [] := va_S.rf
  have hl := lv_entry ([.ref (ad 16), .int p0]) (n := 2) (Nat.le_of_ble_eq_true rfl)
  rw [lg_entry_eq]
  generalize (lg_sl ([.ref (ad 16), .int p0]) ++ List.replicate (2 - (lg_sl ([.ref (ad 16), .int p0])).length) Slot.unset).toArray = ls at hl ⊢
  have hl : lv_has ls 2 [(0, .ref (ad 16)), (1, .int p0)] := hl
  unfold f_Md_isMacro at he
  refine lv_aload_n hx hb d_Md_isMacro_0 rfl (lv_at hl 0 rfl) ?_
  refine lv_iload_n hx hb d_Md_isMacro_1 rfl (lv_at hl 1 rfl) ?_
  refine wx_ci (wS := fun _ : Unit => w_M ad ca d) (ws2 := fun _ : Unit => w_M ad ca d) (va_runV (As := [.int p0]) (rest := []) ⟨hx, hb, hml, hown, ht⟩ (c_Md_kindOf l dC dI ad ca s.heap.size d p0 hpre _ rfl) (cwV 1 ht (tb_V q_555 q_557 q_23 q_47 q_558) rfl rfl rfl p_Md_kindOf ⟨show 0 + 1 ≤ 1 by omega, show 8 + (2 + 11) + 0 ≤ 21 by omega⟩) (wx_preV (wc := (w_M ad ca d)) hN hK hP hD [0, 1, 2, 3, 4, 5, 6, 7, 8, 9, 10, 11] [0, 1, 2, 3, 4, 5, 6, 7, 8, 9, 10] rfl (by decide) rfl (ci := 4) (q0 := 0) rfl rfl) rfl rfl hl.1 rfl (lv_room (Nat.le_of_ble_eq_true rfl)) d_Md_isMacro_2 ⟨Nat.zero_le _, Nat.zero_le _⟩) hP hD hS hA [0, 1, 2, 3, 4, 5, 6, 7, 8, 9, 10, 11] [] [0, 1, 2, 3, 4, 5, 6, 7, 8, 9, 10, 11] rfl rfl (by decide) (by decide) (by decide) (fun _ => rfl) (fun r_1 _ H locs hw_1 hP hD hS => ?_)
  subst hw_1
  have hP : va_P (dC, dI) vwCl (w_M ad ca d) H := hP
  have hD : va_D A (w_M ad ca d) := hD
  refine lv_iconst (v := 2) hx hb d_Md_isMacro_5 (by decide) ?_
  refine lv_icmp_eq (tgt := 18) hx hb d_Md_isMacro_6 (by decide) (fun c_2 => ?_) (fun c_2 => ?_)
  · have he := he.trans (if_pos c_2)
    refine lv_iconst (v := 1) hx hb d_Md_isMacro_18 (by decide) ?_
    refine lv_goto (tgt := 23) hx hb d_Md_isMacro_19 (by decide) ?_
    exact W.zret hx hb hr (by rfl) (v := 1) (fun t ht hW => ⟨⟨1, (), rfl, he.symm, by rw [ht]; exact hP, va_K.moved hW.alike hK, hD⟩, hS.F ht⟩) hS.2.2 d_Md_isMacro_23
  · have he := he.trans (if_neg c_2)
    refine lv_aload_n hx hb d_Md_isMacro_9 rfl (lv_at hl 0 rfl) ?_
    refine lv_iload_n hx hb d_Md_isMacro_10 rfl (lv_at hl 1 rfl) ?_
    refine wx_ci (wS := fun _ : Unit => w_M ad ca d) (ws2 := fun _ : Unit => w_M ad ca d) (va_runV (As := [.int p0]) (rest := []) ⟨hx, hb, hml, hown, ht⟩ (c_Md_kindOf l dC dI ad ca H.size d p0 hpre _ rfl) (cwV 1 ht (tb_V q_555 q_557 q_23 q_47 q_558) rfl rfl rfl p_Md_kindOf ⟨show 0 + 1 ≤ 1 by omega, show 8 + (2 + 11) + 0 ≤ 21 by omega⟩) (wx_preV (wc := (w_M ad ca d)) hN hK hP hD [0, 1, 2, 3, 4, 5, 6, 7, 8, 9, 10, 11] [0, 1, 2, 3, 4, 5, 6, 7, 8, 9, 10] rfl (by decide) rfl (ci := 4) (q0 := 0) rfl rfl) rfl rfl hl.1 rfl (lv_room (Nat.le_of_ble_eq_true rfl)) d_Md_isMacro_11 ⟨Nat.zero_le _, Nat.zero_le _⟩) hP hD hS hA [0, 1, 2, 3, 4, 5, 6, 7, 8, 9, 10, 11] [] [0, 1, 2, 3, 4, 5, 6, 7, 8, 9, 10, 11] rfl rfl (by decide) (by decide) (by decide) (fun _ => rfl) (fun r_3 _ H locs hw_3 hP hD hS => ?_)
    subst hw_3
    have hP : va_P (dC, dI) vwCl (w_M ad ca d) H := hP
    have hD : va_D A (w_M ad ca d) := hD
    refine lv_iconst (v := 3) hx hb d_Md_isMacro_14 (by decide) ?_
    refine lv_icmp_ne (tgt := 22) hx hb d_Md_isMacro_15 (by decide) (fun c_4 => ?_) (fun c_4 => ?_)
    · have he := he.trans (if_neg c_4)
      refine lv_iconst (v := 0) hx hb d_Md_isMacro_22 (by decide) ?_
      exact W.zret hx hb hr (by rfl) (v := 0) (fun t ht hW => ⟨⟨0, (), rfl, he.symm, by rw [ht]; exact hP, va_K.moved hW.alike hK, hD⟩, hS.F ht⟩) hS.2.2 d_Md_isMacro_23
    · have he := he.trans (if_pos c_4)
      refine lv_iconst (v := 1) hx hb d_Md_isMacro_18 (by decide) ?_
      refine lv_goto (tgt := 23) hx hb d_Md_isMacro_19 (by decide) ?_
      exact W.zret hx hb hr (by rfl) (v := 1) (fun t ht hW => ⟨⟨1, (), rfl, he.symm, by rw [ht]; exact hP, va_K.moved hW.alike hK, hD⟩, hS.F ht⟩) hS.2.2 d_Md_isMacro_23
noncomputable def f_Md_isSignOf (d : TMd) (p0 : Int32) (p1 : Int32) (p2 : Int32) : Int32 := (if p0 = ((256 * p2) + p1) then 1 else 0)
set_option maxHeartbeats 4000000 in
set_option maxRecDepth 100000 in
theorem c_Md_isSignOf (l : Launch) (dC : Nat → ClassId) (dI : Nat → Nat → Nat) (ad : Nat → Nat) (ca : Nat → ClassId) (sz : Nat) (d : TMd) (p0 : Int32) (p1 : Int32) (p2 : Int32) (F : Int32) (he : F = f_Md_isSignOf d p0 p1 p2) : wx_Mi l y_Md_isSignOf ws_Md_isSignOf ({ frames := 0, cells := 0, slots := 0, locals := 0 } : Room) (dC, dI) vwCl (t_M ca) [.ref (ad 16), .int p0, .int p1, .int p2] (w_M ad ca d) sz (fun _ : Unit => w_M ad ca d) (fun (r : Int32) (_ : Unit) => r = F) := by
  refine Met.ofW (cc := b_Md_isSignOf) (maxL := 4) (ret := some .boolean) (by decide) rfl ?_
  intro p e s m args below meth c s₁ B hml hv
  obtain ⟨rfl, hsz, hP, hK, hD0, hN⟩ := hv
  have hx := B.exec
  have hb := B.bytes
  have hr := B.returns
  have hts := atoms_spec (ws := ws_Md_isSignOf) B.pre
  have ht : ∀ w ∈ TB, w.before _ s = true := fun w h => hts w (List.mem_cons_of_mem _ h)
  have hown : s.vm.findClass R_Md = some m.cls := findClass_of_methodNamed B.named
  have hlocks := B.notSynchronized
  subst hsz
  have hD := hD0.self (sz := s.heap.size)
  generalize hAe : va_A (w_M ad ca d) s.heap.size = A at hD ⊢
  have hA : ∀ q : Nat, s.heap.size ≤ q → A q := fun q h => by rw [← hAe]; exact Or.inr h
  have hS : va_S A s.heap s.heap [] := va_S.rf
  have hl := lv_entry ([.ref (ad 16), .int p0, .int p1, .int p2]) (n := 4) (Nat.le_of_ble_eq_true rfl)
  rw [lg_entry_eq]
  generalize (lg_sl ([.ref (ad 16), .int p0, .int p1, .int p2]) ++ List.replicate (4 - (lg_sl ([.ref (ad 16), .int p0, .int p1, .int p2])).length) Slot.unset).toArray = ls at hl ⊢
  have hl : lv_has ls 4 [(0, .ref (ad 16)), (1, .int p0), (2, .int p1), (3, .int p2)] := hl
  unfold f_Md_isSignOf at he
  refine lv_iload_n hx hb d_Md_isSignOf_0 rfl (lv_at hl 1 rfl) ?_
  refine lv_sipush (v := 256) hx hb d_Md_isSignOf_1 (by decide) ?_
  refine lv_iload_n hx hb d_Md_isSignOf_4 rfl (lv_at hl 3 rfl) ?_
  refine lv_imul hx hb d_Md_isSignOf_5 ?_
  refine lv_iload_n hx hb d_Md_isSignOf_6 rfl (lv_at hl 2 rfl) ?_
  refine lv_iadd hx hb d_Md_isSignOf_7 ?_
  refine lv_icmp_ne (tgt := 15) hx hb d_Md_isSignOf_8 (by decide) (fun c_1 => ?_) (fun c_1 => ?_)
  · have he := he.trans (if_neg c_1)
    refine lv_iconst (v := 0) hx hb d_Md_isSignOf_15 (by decide) ?_
    exact W.zret hx hb hr (by rfl) (v := 0) (fun t ht hW => ⟨⟨0, (), rfl, he.symm, by rw [ht]; exact hP, va_K.moved hW.alike hK, hD⟩, hS.F ht⟩) hS.2.2 d_Md_isSignOf_16
  · have he := he.trans (if_pos c_1)
    refine lv_iconst (v := 1) hx hb d_Md_isSignOf_11 (by decide) ?_
    refine lv_goto (tgt := 16) hx hb d_Md_isSignOf_12 (by decide) ?_
    exact W.zret hx hb hr (by rfl) (v := 1) (fun t ht hW => ⟨⟨1, (), rfl, he.symm, by rw [ht]; exact hP, va_K.moved hW.alike hK, hD⟩, hS.F ht⟩) hS.2.2 d_Md_isSignOf_16
noncomputable def f_Md_isDigit (d : TMd) (p0 : Int32) : Int32 := (if p0 < 3120 then 0 else (if 3129 < p0 then 0 else 1))
set_option maxHeartbeats 4000000 in
set_option maxRecDepth 100000 in
theorem c_Md_isDigit (l : Launch) (dC : Nat → ClassId) (dI : Nat → Nat → Nat) (ad : Nat → Nat) (ca : Nat → ClassId) (sz : Nat) (d : TMd) (p0 : Int32) (F : Int32) (he : F = f_Md_isDigit d p0) : wx_Mi l y_Md_isDigit ws_Md_isDigit ({ frames := 0, cells := 0, slots := 0, locals := 0 } : Room) (dC, dI) vwCl (t_M ca) [.ref (ad 16), .int p0] (w_M ad ca d) sz (fun _ : Unit => w_M ad ca d) (fun (r : Int32) (_ : Unit) => r = F) := by
  refine Met.ofW (cc := b_Md_isDigit) (maxL := 2) (ret := some .boolean) (by decide) rfl ?_
  intro p e s m args below meth c s₁ B hml hv
  obtain ⟨rfl, hsz, hP, hK, hD0, hN⟩ := hv
  have hx := B.exec
  have hb := B.bytes
  have hr := B.returns
  have hts := atoms_spec (ws := ws_Md_isDigit) B.pre
  have ht : ∀ w ∈ TB, w.before _ s = true := fun w h => hts w (List.mem_cons_of_mem _ h)
  have hown : s.vm.findClass R_Md = some m.cls := findClass_of_methodNamed B.named
  have hlocks := B.notSynchronized
  subst hsz
  have hD := hD0.self (sz := s.heap.size)
  generalize hAe : va_A (w_M ad ca d) s.heap.size = A at hD ⊢
  have hA : ∀ q : Nat, s.heap.size ≤ q → A q := fun q h => by rw [← hAe]; exact Or.inr h
  have hS : va_S A s.heap s.heap [] := va_S.rf
  have hl := lv_entry ([.ref (ad 16), .int p0]) (n := 2) (Nat.le_of_ble_eq_true rfl)
  rw [lg_entry_eq]
  generalize (lg_sl ([.ref (ad 16), .int p0]) ++ List.replicate (2 - (lg_sl ([.ref (ad 16), .int p0])).length) Slot.unset).toArray = ls at hl ⊢
  have hl : lv_has ls 2 [(0, .ref (ad 16)), (1, .int p0)] := hl
  unfold f_Md_isDigit at he
  refine lv_iload_n hx hb d_Md_isDigit_0 rfl (lv_at hl 1 rfl) ?_
  refine lv_sipush (v := 3120) hx hb d_Md_isDigit_1 (by decide) ?_
  refine lv_icmp_lt (tgt := 18) hx hb d_Md_isDigit_4 (by decide) (fun c_1 => ?_) (fun c_1 => ?_)
  · have he := he.trans (if_pos c_1)
    refine lv_iconst (v := 0) hx hb d_Md_isDigit_18 (by decide) ?_
    exact W.zret hx hb hr (by rfl) (v := 0) (fun t ht hW => ⟨⟨0, (), rfl, he.symm, by rw [ht]; exact hP, va_K.moved hW.alike hK, hD⟩, hS.F ht⟩) hS.2.2 d_Md_isDigit_19
  · have he := he.trans (if_neg c_1)
    refine lv_iload_n hx hb d_Md_isDigit_7 rfl (lv_at hl 1 rfl) ?_
    refine lv_sipush (v := 3129) hx hb d_Md_isDigit_8 (by decide) ?_
    refine lv_icmp_gt (tgt := 18) hx hb d_Md_isDigit_11 (by decide) (fun c_2 => ?_) (fun c_2 => ?_)
    · have he := he.trans (if_pos c_2)
      refine lv_iconst (v := 0) hx hb d_Md_isDigit_18 (by decide) ?_
      exact W.zret hx hb hr (by rfl) (v := 0) (fun t ht hW => ⟨⟨0, (), rfl, he.symm, by rw [ht]; exact hP, va_K.moved hW.alike hK, hD⟩, hS.F ht⟩) hS.2.2 d_Md_isDigit_19
    · have he := he.trans (if_neg c_2)
      refine lv_iconst (v := 1) hx hb d_Md_isDigit_14 (by decide) ?_
      refine lv_goto (tgt := 19) hx hb d_Md_isDigit_15 (by decide) ?_
      exact W.zret hx hb hr (by rfl) (v := 1) (fun t ht hW => ⟨⟨1, (), rfl, he.symm, by rw [ht]; exact hP, va_K.moved hW.alike hK, hD⟩, hS.F ht⟩) hS.2.2 d_Md_isDigit_19
noncomputable def f_Md_code (d : TMd) (p0 : Int32) : Int32 := (if (f_Md_kindOf d p0) = 1 then ((f_Md_valueOf d p0) - (f_Md_valueOf d p0) / 256 * 256) else 256)
set_option maxHeartbeats 4000000 in
set_option maxRecDepth 100000 in
theorem c_Md_code (l : Launch) (dC : Nat → ClassId) (dI : Nat → Nat → Nat) (ad : Nat → Nat) (ca : Nat → ClassId) (sz : Nat) (d : TMd) (p0 : Int32) (hpre : p0.toInt < 4136) (F : Int32) (he : F = f_Md_code d p0) : wx_Mi l y_Md_code ws_Md_code ({ frames := 1, cells := 0, slots := 0, locals := 21 } : Room) (dC, dI) vwCl (t_M ca) [.ref (ad 16), .int p0] (w_M ad ca d) sz (fun _ : Unit => w_M ad ca d) (fun (r : Int32) (_ : Unit) => r = F) := by
  refine Met.ofW (cc := b_Md_code) (maxL := 2) (ret := some .int) (by decide) rfl ?_
  intro p e s m args below meth c s₁ B hml hv
  obtain ⟨rfl, hsz, hP, hK, hD0, hN⟩ := hv
  have hx := B.exec
  have hb := B.bytes
  have hr := B.returns
  have hts := atoms_spec (ws := ws_Md_code) B.pre
  have ht : ∀ w ∈ TB, w.before _ s = true := fun w h => hts w (List.mem_cons_of_mem _ h)
  have hown : s.vm.findClass R_Md = some m.cls := findClass_of_methodNamed B.named
  have hlocks := B.notSynchronized
  subst hsz
  have hD := hD0.self (sz := s.heap.size)
  generalize hAe : va_A (w_M ad ca d) s.heap.size = A at hD ⊢
  have hA : ∀ q : Nat, s.heap.size ≤ q → A q := fun q h => by rw [← hAe]; exact Or.inr h
  have hS : va_S A s.heap s.heap [] := va_S.rf
  have hl := lv_entry ([.ref (ad 16), .int p0]) (n := 2) (Nat.le_of_ble_eq_true rfl)
  rw [lg_entry_eq]
  generalize (lg_sl ([.ref (ad 16), .int p0]) ++ List.replicate (2 - (lg_sl ([.ref (ad 16), .int p0])).length) Slot.unset).toArray = ls at hl ⊢
  have hl : lv_has ls 2 [(0, .ref (ad 16)), (1, .int p0)] := hl
  unfold f_Md_code at he
  refine lv_aload_n hx hb d_Md_code_0 rfl (lv_at hl 0 rfl) ?_
  refine lv_iload_n hx hb d_Md_code_1 rfl (lv_at hl 1 rfl) ?_
  refine wx_ci (wS := fun _ : Unit => w_M ad ca d) (ws2 := fun _ : Unit => w_M ad ca d) (va_runV (As := [.int p0]) (rest := []) ⟨hx, hb, hml, hown, ht⟩ (c_Md_kindOf l dC dI ad ca s.heap.size d p0 hpre _ rfl) (cwV 1 ht (tb_V q_555 q_557 q_23 q_47 q_558) rfl rfl rfl p_Md_kindOf ⟨show 0 + 1 ≤ 1 by omega, show 8 + (2 + 11) + 0 ≤ 21 by omega⟩) (wx_preV (wc := (w_M ad ca d)) hN hK hP hD [0, 1, 2, 3, 4, 5, 6, 7, 8, 9, 10, 11] [0, 1, 2, 3, 4, 5, 6, 7, 8, 9, 10] rfl (by decide) rfl (ci := 4) (q0 := 0) rfl rfl) rfl rfl hl.1 rfl (lv_room (Nat.le_of_ble_eq_true rfl)) d_Md_code_2 ⟨Nat.zero_le _, Nat.zero_le _⟩) hP hD hS hA [0, 1, 2, 3, 4, 5, 6, 7, 8, 9, 10, 11] [] [0, 1, 2, 3, 4, 5, 6, 7, 8, 9, 10, 11] rfl rfl (by decide) (by decide) (by decide) (fun _ => rfl) (fun r_1 _ H locs hw_1 hP hD hS => ?_)
  subst hw_1
  have hP : va_P (dC, dI) vwCl (w_M ad ca d) H := hP
  have hD : va_D A (w_M ad ca d) := hD
  refine lv_iconst (v := 1) hx hb d_Md_code_5 (by decide) ?_
  refine lv_icmp_ne (tgt := 21) hx hb d_Md_code_6 (by decide) (fun c_2 => ?_) (fun c_2 => ?_)
  · have he := he.trans (if_neg c_2)
    refine lv_sipush (v := 256) hx hb d_Md_code_21 (by decide) ?_
    exact W.iret hx hb hr (v := 256) (fun t ht hW => ⟨⟨256, (), rfl, he.symm, by rw [ht]; exact hP, va_K.moved hW.alike hK, hD⟩, hS.F ht⟩) hS.2.2 d_Md_code_24
  · have he := he.trans (if_pos c_2)
    refine lv_aload_n hx hb d_Md_code_9 rfl (lv_at hl 0 rfl) ?_
    refine lv_iload_n hx hb d_Md_code_10 rfl (lv_at hl 1 rfl) ?_
    refine wx_ci (wS := fun _ : Unit => w_M ad ca d) (ws2 := fun _ : Unit => w_M ad ca d) (va_runV (As := [.int p0]) (rest := []) ⟨hx, hb, hml, hown, ht⟩ (c_Md_valueOf l dC dI ad ca H.size d p0 hpre _ rfl) (cwV 1 ht (tb_V q_559 q_561 q_24 q_47 q_562) rfl rfl rfl p_Md_valueOf ⟨show 0 + 1 ≤ 1 by omega, show 8 + (2 + 11) + 0 ≤ 21 by omega⟩) (wx_preV (wc := (w_M ad ca d)) hN hK hP hD [0, 1, 2, 3, 4, 5, 6, 7, 8, 9, 10, 11] [0, 1, 2, 3, 4, 5, 6, 7, 8, 9, 10] rfl (by decide) rfl (ci := 4) (q0 := 0) rfl rfl) rfl rfl hl.1 rfl (lv_room (Nat.le_of_ble_eq_true rfl)) d_Md_code_11 ⟨Nat.zero_le _, Nat.zero_le _⟩) hP hD hS hA [0, 1, 2, 3, 4, 5, 6, 7, 8, 9, 10, 11] [] [0, 1, 2, 3, 4, 5, 6, 7, 8, 9, 10, 11] rfl rfl (by decide) (by decide) (by decide) (fun _ => rfl) (fun r_3 _ H locs hw_3 hP hD hS => ?_)
    subst hw_3
    have hP : va_P (dC, dI) vwCl (w_M ad ca d) H := hP
    have hD : va_D A (w_M ad ca d) := hD
    refine lv_sipush (v := 256) hx hb d_Md_code_14 (by decide) ?_
    refine lv_irem hx hb d_Md_code_17 (by decide) ?_
    refine lv_goto (tgt := 24) hx hb d_Md_code_18 (by decide) ?_
    exact W.iret hx hb hr (v := ((f_Md_valueOf d p0) - (f_Md_valueOf d p0) / 256 * 256)) (fun t ht hW => ⟨⟨((f_Md_valueOf d p0) - (f_Md_valueOf d p0) / 256 * 256), (), rfl, he.symm, by rw [ht]; exact hP, va_K.moved hW.alike hK, hD⟩, hS.F ht⟩) hS.2.2 d_Md_code_24
noncomputable def f_Md_category (d : TMd) (p0 : Int32) : Int32 := (if (f_Md_kindOf d p0) = 1 then ((f_Md_valueOf d p0) / 256) else 16)
set_option maxHeartbeats 4000000 in
set_option maxRecDepth 100000 in
theorem c_Md_category (l : Launch) (dC : Nat → ClassId) (dI : Nat → Nat → Nat) (ad : Nat → Nat) (ca : Nat → ClassId) (sz : Nat) (d : TMd) (p0 : Int32) (hpre : p0.toInt < 4136) (F : Int32) (he : F = f_Md_category d p0) : wx_Mi l y_Md_category ws_Md_category ({ frames := 1, cells := 0, slots := 0, locals := 21 } : Room) (dC, dI) vwCl (t_M ca) [.ref (ad 16), .int p0] (w_M ad ca d) sz (fun _ : Unit => w_M ad ca d) (fun (r : Int32) (_ : Unit) => r = F) := by
  refine Met.ofW (cc := b_Md_category) (maxL := 2) (ret := some .int) (by decide) rfl ?_
  intro p e s m args below meth c s₁ B hml hv
  obtain ⟨rfl, hsz, hP, hK, hD0, hN⟩ := hv
  have hx := B.exec
  have hb := B.bytes
  have hr := B.returns
  have hts := atoms_spec (ws := ws_Md_category) B.pre
  have ht : ∀ w ∈ TB, w.before _ s = true := fun w h => hts w (List.mem_cons_of_mem _ h)
  have hown : s.vm.findClass R_Md = some m.cls := findClass_of_methodNamed B.named
  have hlocks := B.notSynchronized
  subst hsz
  have hD := hD0.self (sz := s.heap.size)
  generalize hAe : va_A (w_M ad ca d) s.heap.size = A at hD ⊢
  have hA : ∀ q : Nat, s.heap.size ≤ q → A q := fun q h => by rw [← hAe]; exact Or.inr h
  have hS : va_S A s.heap s.heap [] := va_S.rf
  have hl := lv_entry ([.ref (ad 16), .int p0]) (n := 2) (Nat.le_of_ble_eq_true rfl)
  rw [lg_entry_eq]
  generalize (lg_sl ([.ref (ad 16), .int p0]) ++ List.replicate (2 - (lg_sl ([.ref (ad 16), .int p0])).length) Slot.unset).toArray = ls at hl ⊢
  have hl : lv_has ls 2 [(0, .ref (ad 16)), (1, .int p0)] := hl
  unfold f_Md_category at he
  refine lv_aload_n hx hb d_Md_category_0 rfl (lv_at hl 0 rfl) ?_
  refine lv_iload_n hx hb d_Md_category_1 rfl (lv_at hl 1 rfl) ?_
  refine wx_ci (wS := fun _ : Unit => w_M ad ca d) (ws2 := fun _ : Unit => w_M ad ca d) (va_runV (As := [.int p0]) (rest := []) ⟨hx, hb, hml, hown, ht⟩ (c_Md_kindOf l dC dI ad ca s.heap.size d p0 hpre _ rfl) (cwV 1 ht (tb_V q_555 q_557 q_23 q_47 q_558) rfl rfl rfl p_Md_kindOf ⟨show 0 + 1 ≤ 1 by omega, show 8 + (2 + 11) + 0 ≤ 21 by omega⟩) (wx_preV (wc := (w_M ad ca d)) hN hK hP hD [0, 1, 2, 3, 4, 5, 6, 7, 8, 9, 10, 11] [0, 1, 2, 3, 4, 5, 6, 7, 8, 9, 10] rfl (by decide) rfl (ci := 4) (q0 := 0) rfl rfl) rfl rfl hl.1 rfl (lv_room (Nat.le_of_ble_eq_true rfl)) d_Md_category_2 ⟨Nat.zero_le _, Nat.zero_le _⟩) hP hD hS hA [0, 1, 2, 3, 4, 5, 6, 7, 8, 9, 10, 11] [] [0, 1, 2, 3, 4, 5, 6, 7, 8, 9, 10, 11] rfl rfl (by decide) (by decide) (by decide) (fun _ => rfl) (fun r_1 _ H locs hw_1 hP hD hS => ?_)
  subst hw_1
  have hP : va_P (dC, dI) vwCl (w_M ad ca d) H := hP
  have hD : va_D A (w_M ad ca d) := hD
  refine lv_iconst (v := 1) hx hb d_Md_category_5 (by decide) ?_
  refine lv_icmp_ne (tgt := 21) hx hb d_Md_category_6 (by decide) (fun c_2 => ?_) (fun c_2 => ?_)
  · have he := he.trans (if_neg c_2)
    refine lv_bipush (v := 16) hx hb d_Md_category_21 (by decide) ?_
    exact W.iret hx hb hr (v := 16) (fun t ht hW => ⟨⟨16, (), rfl, he.symm, by rw [ht]; exact hP, va_K.moved hW.alike hK, hD⟩, hS.F ht⟩) hS.2.2 d_Md_category_23
  · have he := he.trans (if_pos c_2)
    refine lv_aload_n hx hb d_Md_category_9 rfl (lv_at hl 0 rfl) ?_
    refine lv_iload_n hx hb d_Md_category_10 rfl (lv_at hl 1 rfl) ?_
    refine wx_ci (wS := fun _ : Unit => w_M ad ca d) (ws2 := fun _ : Unit => w_M ad ca d) (va_runV (As := [.int p0]) (rest := []) ⟨hx, hb, hml, hown, ht⟩ (c_Md_valueOf l dC dI ad ca H.size d p0 hpre _ rfl) (cwV 1 ht (tb_V q_559 q_561 q_24 q_47 q_562) rfl rfl rfl p_Md_valueOf ⟨show 0 + 1 ≤ 1 by omega, show 8 + (2 + 11) + 0 ≤ 21 by omega⟩) (wx_preV (wc := (w_M ad ca d)) hN hK hP hD [0, 1, 2, 3, 4, 5, 6, 7, 8, 9, 10, 11] [0, 1, 2, 3, 4, 5, 6, 7, 8, 9, 10] rfl (by decide) rfl (ci := 4) (q0 := 0) rfl rfl) rfl rfl hl.1 rfl (lv_room (Nat.le_of_ble_eq_true rfl)) d_Md_category_11 ⟨Nat.zero_le _, Nat.zero_le _⟩) hP hD hS hA [0, 1, 2, 3, 4, 5, 6, 7, 8, 9, 10, 11] [] [0, 1, 2, 3, 4, 5, 6, 7, 8, 9, 10, 11] rfl rfl (by decide) (by decide) (by decide) (fun _ => rfl) (fun r_3 _ H locs hw_3 hP hD hS => ?_)
    subst hw_3
    have hP : va_P (dC, dI) vwCl (w_M ad ca d) H := hP
    have hD : va_D A (w_M ad ca d) := hD
    refine lv_sipush (v := 256) hx hb d_Md_category_14 (by decide) ?_
    refine lv_idiv hx hb d_Md_category_17 (by decide) ?_
    refine lv_goto (tgt := 23) hx hb d_Md_category_18 (by decide) ?_
    exact W.iret hx hb hr (v := ((f_Md_valueOf d p0) / 256)) (fun t ht hW => ⟨⟨((f_Md_valueOf d p0) / 256), (), rfl, he.symm, by rw [ht]; exact hP, va_K.moved hW.alike hK, hD⟩, hS.F ht⟩) hS.2.2 d_Md_category_23
noncomputable def f_Md_fail (d : TMd) (p0 : Int32) : TMd := (if (TMd_fault d) = 0 then (TMd_set_fault d p0) else (TMd_set_fault d (TMd_fault d)))
set_option maxHeartbeats 4000000 in
set_option maxRecDepth 100000 in
theorem c_Md_fail (l : Launch) (dC : Nat → ClassId) (dI : Nat → Nat → Nat) (ad : Nat → Nat) (ca : Nat → ClassId) (sz : Nat) (d : TMd) (p0 : Int32) (F : TMd) (he : F = f_Md_fail d p0) : wx_Mv l y_Md_fail ws_Md_fail ({ frames := 0, cells := 0, slots := 0, locals := 0 } : Room) (dC, dI) vwCl (t_M ca) [.ref (ad 16), .int p0] (w_M ad ca d) sz (fun v : TMd => w_M ad ca v) (fun v : TMd => v = F) := by
  refine Met.ofW (cc := b_Md_fail) (maxL := 2) (ret := none) (by decide) rfl ?_
  intro p e s m args below meth c s₁ B hml hv
  obtain ⟨rfl, hsz, hP, hK, hD0, hN⟩ := hv
  have hx := B.exec
  have hb := B.bytes
  have hr := B.returns
  have hts := atoms_spec (ws := ws_Md_fail) B.pre
  have ht : ∀ w ∈ TB, w.before _ s = true := fun w h => hts w (List.mem_cons_of_mem _ h)
  have hown : s.vm.findClass R_Md = some m.cls := findClass_of_methodNamed B.named
  have hlocks := B.notSynchronized
  subst hsz
  have hD := hD0.self (sz := s.heap.size)
  generalize hAe : va_A (w_M ad ca d) s.heap.size = A at hD ⊢
  have hA : ∀ q : Nat, s.heap.size ≤ q → A q := fun q h => by rw [← hAe]; exact Or.inr h
  have hS : va_S A s.heap s.heap [] := va_S.rf
  have hl := lv_entry ([.ref (ad 16), .int p0]) (n := 2) (Nat.le_of_ble_eq_true rfl)
  rw [lg_entry_eq]
  generalize (lg_sl ([.ref (ad 16), .int p0]) ++ List.replicate (2 - (lg_sl ([.ref (ad 16), .int p0])).length) Slot.unset).toArray = ls at hl ⊢
  have hl : lv_has ls 2 [(0, .ref (ad 16)), (1, .int p0)] := hl
  unfold f_Md_fail at he
  refine lv_aload_n hx hb d_Md_fail_0 rfl (lv_at hl 0 rfl) ?_
  refine lv_aload_n hx hb d_Md_fail_1 rfl (lv_at hl 0 rfl) ?_
  refine va_get (D := (dC, dI)) (ci := 4) (v := .int (TMd_fault d)) (C := R_Md) (T := T_Md) (N := 23) hx hb ht i_Md hown hK hP 0 rfl rfl 13 (by decide) (ht _ q_458) (fun _ h9 => h9) rfl d_Md_fail_2 ?_
  refine lv_if_ne (tgt := 12) hx hb d_Md_fail_5 (by decide) (fun c_1 => ?_) (fun c_1 => ?_)
  · have he := he.trans (if_neg c_1)
    refine lv_aload_n hx hb d_Md_fail_12 rfl (lv_at hl 0 rfl) ?_
    refine va_get (D := (dC, dI)) (ci := 4) (v := .int (TMd_fault d)) (C := R_Md) (T := T_Md) (N := 23) hx hb ht i_Md hown hK hP 0 rfl rfl 13 (by decide) (ht _ q_458) (fun _ h9 => h9) rfl d_Md_fail_13 ?_
    refine va_put (D := (dC, dI)) (ci := 4) (v := .int (TMd_fault d)) (ty := .int) (C := R_Md) (T := T_Md) (N := 23) hx hb ht i_Md ty_Md ty_Md_ok nm_Md hown hK hP hD hS 0 rfl rfl 13 (by decide) (ht _ q_458) (fun _ h9 => h9) rfl (by decide +kernel) rfl rfl (Nat.le_of_ble_eq_true rfl) d_Md_fail_16 (fun H locs hP hD hS => ?_)
    have hP : va_P (dC, dI) vwCl (w_M ad ca (TMd_set_fault d (TMd_fault d))) H := hP
    have hD : va_D A (w_M ad ca (TMd_set_fault d (TMd_fault d))) := hD
    exact W.vret hx hb hr (fun t ht hW => ⟨⟨(TMd_set_fault d (TMd_fault d)), rfl, he.symm, by rw [ht]; exact hP, va_K.moved hW.alike hK, hD⟩, hS.F ht⟩) hS.2.2 d_Md_fail_19
  · have he := he.trans (if_pos c_1)
    refine lv_iload_n hx hb d_Md_fail_8 rfl (lv_at hl 1 rfl) ?_
    refine lv_goto (tgt := 16) hx hb d_Md_fail_9 (by decide) ?_
    refine va_put (D := (dC, dI)) (ci := 4) (v := .int p0) (ty := .int) (C := R_Md) (T := T_Md) (N := 23) hx hb ht i_Md ty_Md ty_Md_ok nm_Md hown hK hP hD hS 0 rfl rfl 13 (by decide) (ht _ q_458) (fun _ h9 => h9) rfl (by decide +kernel) rfl rfl (Nat.le_of_ble_eq_true rfl) d_Md_fail_16 (fun H locs hP hD hS => ?_)
    have hP : va_P (dC, dI) vwCl (w_M ad ca (TMd_set_fault d p0)) H := hP
    have hD : va_D A (w_M ad ca (TMd_set_fault d p0)) := hD
    exact W.vret hx hb hr (fun t ht hW => ⟨⟨(TMd_set_fault d p0), rfl, he.symm, by rw [ht]; exact hP, va_K.moved hW.alike hK, hD⟩, hS.F ht⟩) hS.2.2 d_Md_fail_19
noncomputable def f_Md_body (d : TMd) : (Int32 × TMd) := (if (TMd_bodies d) = 20 then ((-4), (TMd_set_thrown d 0)) else ((((TMd_bodies d) + 1) - 1), (TMd_set_bodies (TMd_set_thrown d 0) ((TMd_bodies d) + 1))))
set_option maxHeartbeats 4000000 in
set_option maxRecDepth 100000 in
theorem c_Md_body (l : Launch) (dC : Nat → ClassId) (dI : Nat → Nat → Nat) (ad : Nat → Nat) (ca : Nat → ClassId) (sz : Nat) (d : TMd) (F : (Int32 × TMd)) (he : F = f_Md_body d) : wx_Mi l y_Md_body ws_Md_body ({ frames := 0, cells := 0, slots := 0, locals := 0 } : Room) (dC, dI) vwCl (t_M ca) [.ref (ad 16)] (w_M ad ca d) sz (fun v : TMd => w_M ad ca v) (fun (r : Int32) (v : TMd) => (r, v) = F) := by
  refine Met.ofW (cc := b_Md_body) (maxL := 1) (ret := some .int) (by decide) rfl ?_
  intro p e s m args below meth c s₁ B hml hv
  obtain ⟨rfl, hsz, hP, hK, hD0, hN⟩ := hv
  have hx := B.exec
  have hb := B.bytes
  have hr := B.returns
  have hts := atoms_spec (ws := ws_Md_body) B.pre
  have ht : ∀ w ∈ TB, w.before _ s = true := fun w h => hts w (List.mem_cons_of_mem _ h)
  have hown : s.vm.findClass R_Md = some m.cls := findClass_of_methodNamed B.named
  have hlocks := B.notSynchronized
  subst hsz
  have hD := hD0.self (sz := s.heap.size)
  generalize hAe : va_A (w_M ad ca d) s.heap.size = A at hD ⊢
  have hA : ∀ q : Nat, s.heap.size ≤ q → A q := fun q h => by rw [← hAe]; exact Or.inr h
  have hS : va_S A s.heap s.heap [] := va_S.rf
  have hl := lv_entry ([.ref (ad 16)]) (n := 1) (Nat.le_of_ble_eq_true rfl)
  rw [lg_entry_eq]
  generalize (lg_sl ([.ref (ad 16)]) ++ List.replicate (1 - (lg_sl ([.ref (ad 16)])).length) Slot.unset).toArray = ls at hl ⊢
  have hl : lv_has ls 1 [(0, .ref (ad 16))] := hl
  unfold f_Md_body at he
  refine lv_aload_n hx hb d_Md_body_0 rfl (lv_at hl 0 rfl) ?_
  refine lv_iconst (v := 0) hx hb d_Md_body_1 (by decide) ?_
  refine va_put (D := (dC, dI)) (ci := 4) (v := .int 0) (ty := .int) (C := R_Md) (T := T_Md) (N := 23) hx hb ht i_Md ty_Md ty_Md_ok nm_Md hown hK hP hD hS 0 rfl rfl 0 (by decide) (ht _ q_445) (fun _ h9 => h9) rfl (by decide +kernel) rfl rfl (Nat.le_of_ble_eq_true rfl) d_Md_body_2 (fun H locs hP hD hS => ?_)
  have hP : va_P (dC, dI) vwCl (w_M ad ca (TMd_set_thrown d 0)) H := hP
  have hD : va_D A (w_M ad ca (TMd_set_thrown d 0)) := hD
  refine lv_aload_n hx hb d_Md_body_5 rfl (lv_at hl 0 rfl) ?_
  refine va_get (D := (dC, dI)) (ci := 4) (v := .int (TMd_bodies d)) (C := R_Md) (T := T_Md) (N := 23) hx hb ht i_Md hown hK hP 0 rfl rfl 3 (by decide) (ht _ q_448) (fun _ h9 => h9) rfl d_Md_body_6 ?_
  refine lv_bipush (v := 20) hx hb d_Md_body_9 (by decide) ?_
  refine lv_icmp_ne (tgt := 17) hx hb d_Md_body_11 (by decide) (fun c_1 => ?_) (fun c_1 => ?_)
  · have he := he.trans (if_neg c_1)
    refine lv_aload_n hx hb d_Md_body_17 rfl (lv_at hl 0 rfl) ?_
    refine lv_dup hx hb d_Md_body_18 rfl ?_
    refine va_get (D := (dC, dI)) (ci := 4) (v := .int (TMd_bodies d)) (C := R_Md) (T := T_Md) (N := 23) hx hb ht i_Md hown hK hP 0 rfl rfl 3 (by decide) (ht _ q_448) (fun _ h9 => h9) rfl d_Md_body_19 ?_
    refine lv_iconst (v := 1) hx hb d_Md_body_22 (by decide) ?_
    refine lv_iadd hx hb d_Md_body_23 ?_
    refine va_put (D := (dC, dI)) (ci := 4) (v := .int ((TMd_bodies d) + 1)) (ty := .int) (C := R_Md) (T := T_Md) (N := 23) hx hb ht i_Md ty_Md ty_Md_ok nm_Md hown hK hP hD hS 0 rfl rfl 3 (by decide) (ht _ q_448) (fun _ h9 => h9) rfl (by decide +kernel) rfl rfl (Nat.le_of_ble_eq_true rfl) d_Md_body_24 (fun H locs hP hD hS => ?_)
    have hP : va_P (dC, dI) vwCl (w_M ad ca (TMd_set_bodies (TMd_set_thrown d 0) ((TMd_bodies d) + 1))) H := hP
    have hD : va_D A (w_M ad ca (TMd_set_bodies (TMd_set_thrown d 0) ((TMd_bodies d) + 1))) := hD
    refine lv_aload_n hx hb d_Md_body_27 rfl (lv_at hl 0 rfl) ?_
    refine va_get (D := (dC, dI)) (ci := 4) (v := .int ((TMd_bodies d) + 1)) (C := R_Md) (T := T_Md) (N := 23) hx hb ht i_Md hown hK hP 0 rfl rfl 3 (by decide) (ht _ q_448) (fun _ h9 => h9) rfl d_Md_body_28 ?_
    refine lv_iconst (v := 1) hx hb d_Md_body_31 (by decide) ?_
    refine lv_isub hx hb d_Md_body_32 ?_
    exact W.iret hx hb hr (v := (((TMd_bodies d) + 1) - 1)) (fun t ht hW => ⟨⟨(((TMd_bodies d) + 1) - 1), (TMd_set_bodies (TMd_set_thrown d 0) ((TMd_bodies d) + 1)), rfl, he.symm, by rw [ht]; exact hP, va_K.moved hW.alike hK, hD⟩, hS.F ht⟩) hS.2.2 d_Md_body_33
  · have he := he.trans (if_pos c_1)
    refine lv_bipush (v := (-4)) hx hb d_Md_body_14 (by decide) ?_
    exact W.iret hx hb hr (v := (-4)) (fun t ht hW => ⟨⟨(-4), (TMd_set_thrown d 0), rfl, he.symm, by rw [ht]; exact hP, va_K.moved hW.alike hK, hD⟩, hS.F ht⟩) hS.2.2 d_Md_body_16
noncomputable def f_Md_clear (d : TMd) : (Int32 × TMd) := (((TMd_sizes d) (20 : Int32).toNatClampNeg), (TMd_set_sizes (TMd_set_thrown d 0) (upd (TMd_sizes d) (20 : Int32).toNatClampNeg 0)))
set_option maxHeartbeats 4000000 in
set_option maxRecDepth 100000 in
theorem c_Md_clear (l : Launch) (dC : Nat → ClassId) (dI : Nat → Nat → Nat) (ad : Nat → Nat) (ca : Nat → ClassId) (sz : Nat) (d : TMd) (F : (Int32 × TMd)) (he : F = f_Md_clear d) : wx_Mi l y_Md_clear ws_Md_clear ({ frames := 0, cells := 0, slots := 0, locals := 0 } : Room) (dC, dI) vwCl (t_M ca) [.ref (ad 16)] (w_M ad ca d) sz (fun v : TMd => w_M ad ca v) (fun (r : Int32) (v : TMd) => (r, v) = F) := by
  refine Met.ofW (cc := b_Md_clear) (maxL := 2) (ret := some .int) (by decide) rfl ?_
  intro p e s m args below meth c s₁ B hml hv
  obtain ⟨rfl, hsz, hP, hK, hD0, hN⟩ := hv
  have hx := B.exec
  have hb := B.bytes
  have hr := B.returns
  have hts := atoms_spec (ws := ws_Md_clear) B.pre
  have ht : ∀ w ∈ TB, w.before _ s = true := fun w h => hts w (List.mem_cons_of_mem _ h)
  have hown : s.vm.findClass R_Md = some m.cls := findClass_of_methodNamed B.named
  have hlocks := B.notSynchronized
  subst hsz
  have hD := hD0.self (sz := s.heap.size)
  generalize hAe : va_A (w_M ad ca d) s.heap.size = A at hD ⊢
  have hA : ∀ q : Nat, s.heap.size ≤ q → A q := fun q h => by rw [← hAe]; exact Or.inr h
  have hS : va_S A s.heap s.heap [] := va_S.rf
  have hl := lv_entry ([.ref (ad 16)]) (n := 2) (Nat.le_of_ble_eq_true rfl)
  rw [lg_entry_eq]
  generalize (lg_sl ([.ref (ad 16)]) ++ List.replicate (2 - (lg_sl ([.ref (ad 16)])).length) Slot.unset).toArray = ls at hl ⊢
  have hl : lv_has ls 2 [(0, .ref (ad 16))] := hl
  unfold f_Md_clear at he
  refine lv_aload_n hx hb d_Md_clear_0 rfl (lv_at hl 0 rfl) ?_
  refine lv_iconst (v := 0) hx hb d_Md_clear_1 (by decide) ?_
  refine va_put (D := (dC, dI)) (ci := 4) (v := .int 0) (ty := .int) (C := R_Md) (T := T_Md) (N := 23) hx hb ht i_Md ty_Md ty_Md_ok nm_Md hown hK hP hD hS 0 rfl rfl 0 (by decide) (ht _ q_445) (fun _ h9 => h9) rfl (by decide +kernel) rfl rfl (Nat.le_of_ble_eq_true rfl) d_Md_clear_2 (fun H locs hP hD hS => ?_)
  have hP : va_P (dC, dI) vwCl (w_M ad ca (TMd_set_thrown d 0)) H := hP
  have hD : va_D A (w_M ad ca (TMd_set_thrown d 0)) := hD
  refine lv_aload_n hx hb d_Md_clear_5 rfl (lv_at hl 0 rfl) ?_
  refine va_get (D := (dC, dI)) (ci := 4) (v := .ref (ad 20)) (C := R_Md) (T := T_Md) (N := 23) hx hb ht i_Md hown hK hP 0 rfl rfl 5 (by decide) (ht _ q_450) (fun _ h9 => h9) rfl d_Md_clear_6 ?_
  refine lv_bipush (v := 20) hx hb d_Md_clear_9 (by decide) ?_
  refine va_iald hx hb hK hP 4 3 rfl rfl (show vp_in 20 21 by unfold vp_in; decide) d_Md_clear_11 ?_
  refine lv_istore_n (lv' := [(1, .int ((TMd_sizes d) (20 : Int32).toNatClampNeg)), (0, .ref (ad 16))]) hx hb d_Md_clear_12 rfl hl (by decide) rfl (fun ls hl => ?_)
  refine lv_aload_n hx hb d_Md_clear_13 rfl (lv_at hl 1 rfl) ?_
  refine va_get (D := (dC, dI)) (ci := 4) (v := .ref (ad 20)) (C := R_Md) (T := T_Md) (N := 23) hx hb ht i_Md hown hK hP 0 rfl rfl 5 (by decide) (ht _ q_450) (fun _ h9 => h9) rfl d_Md_clear_14 ?_
  refine lv_bipush (v := 20) hx hb d_Md_clear_17 (by decide) ?_
  refine lv_iconst (v := 0) hx hb d_Md_clear_19 (by decide) ?_
  refine va_iast hx hb hK hP hD hS 4 3 rfl rfl (show vp_in 20 21 by unfold vp_in; decide) d_Md_clear_20 (fun H locs hP hD hS => ?_)
  have hP : va_P (dC, dI) vwCl (w_M ad ca (TMd_set_sizes (TMd_set_thrown d 0) (upd (TMd_sizes d) (20 : Int32).toNatClampNeg 0))) H := hP
  have hD : va_D A (w_M ad ca (TMd_set_sizes (TMd_set_thrown d 0) (upd (TMd_sizes d) (20 : Int32).toNatClampNeg 0))) := hD
  refine lv_iload_n hx hb d_Md_clear_21 rfl (lv_at hl 0 rfl) ?_
  exact W.iret hx hb hr (v := ((TMd_sizes d) (20 : Int32).toNatClampNeg)) (fun t ht hW => ⟨⟨((TMd_sizes d) (20 : Int32).toNatClampNeg), (TMd_set_sizes (TMd_set_thrown d 0) (upd (TMd_sizes d) (20 : Int32).toNatClampNeg 0)), rfl, he.symm, by rw [ht]; exact hP, va_K.moved hW.alike hK, hD⟩, hS.F ht⟩) hS.2.2 d_Md_clear_22
