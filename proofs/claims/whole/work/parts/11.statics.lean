theorem q_42 : Cond.initialized R_Ct ∈ TB := tq 42 (by decide +kernel) rfl
theorem q_185 : Cond.methodLink R_Ct 88 y_Ct_isSign ∈ TB := tq 185 (by decide +kernel) rfl
theorem q_186 : Cond.static y_Ct_isSign ∈ TB := tq 186 (by decide +kernel) rfl
theorem q_187 : Cond.code y_Ct_isSign b_Ct_isSign 1 (some .boolean) ∈ TB := tq 187 (by decide +kernel) rfl
theorem q_209 : Cond.methodLink R_Ct 93 y_Ct_isName ∈ TB := tq 209 (by decide +kernel) rfl
theorem q_210 : Cond.static y_Ct_isName ∈ TB := tq 210 (by decide +kernel) rfl
theorem q_211 : Cond.code y_Ct_isName b_Ct_isName 1 (some .boolean) ∈ TB := tq 211 (by decide +kernel) rfl
theorem d_Ct_isSign_0 : decode b_Ct_isSign 0 = .ok (.iload_n 0, 1) := by decide +kernel
theorem d_Ct_isSign_1 : decode b_Ct_isSign 1 = .ok (.ifCond .lt 14, 3) := by decide +kernel
theorem d_Ct_isSign_4 : decode b_Ct_isSign 4 = .ok (.iload_n 0, 1) := by decide +kernel
theorem d_Ct_isSign_5 : decode b_Ct_isSign 5 = .ok (.sipush 4096, 3) := by decide +kernel
theorem d_Ct_isSign_8 : decode b_Ct_isSign 8 = .ok (.if_icmp .ge 7, 3) := by decide +kernel
theorem d_Ct_isSign_11 : decode b_Ct_isSign 11 = .ok (.iconst 1, 1) := by decide +kernel
theorem d_Ct_isSign_12 : decode b_Ct_isSign 12 = .ok (.goto 4, 3) := by decide +kernel
theorem d_Ct_isSign_15 : decode b_Ct_isSign 15 = .ok (.iconst 0, 1) := by decide +kernel
theorem d_Ct_isSign_16 : decode b_Ct_isSign 16 = .ok (.ireturn, 1) := by decide +kernel
theorem d_Ct_isName_0 : decode b_Ct_isName 0 = .ok (.iload_n 0, 1) := by decide +kernel
theorem d_Ct_isName_1 : decode b_Ct_isName 1 = .ok (.sipush 4096, 3) := by decide +kernel
theorem d_Ct_isName_4 : decode b_Ct_isName 4 = .ok (.if_icmp .lt 14, 3) := by decide +kernel
theorem d_Ct_isName_7 : decode b_Ct_isName 7 = .ok (.iload_n 0, 1) := by decide +kernel
theorem d_Ct_isName_8 : decode b_Ct_isName 8 = .ok (.sipush 4136, 3) := by decide +kernel
theorem d_Ct_isName_11 : decode b_Ct_isName 11 = .ok (.if_icmp .ge 7, 3) := by decide +kernel
theorem d_Ct_isName_14 : decode b_Ct_isName 14 = .ok (.iconst 1, 1) := by decide +kernel
theorem d_Ct_isName_15 : decode b_Ct_isName 15 = .ok (.goto 4, 3) := by decide +kernel
theorem d_Ct_isName_18 : decode b_Ct_isName 18 = .ok (.iconst 0, 1) := by decide +kernel
theorem d_Ct_isName_19 : decode b_Ct_isName 19 = .ok (.ireturn, 1) := by decide +kernel
theorem d_Ct_isToken_0 : decode b_Ct_isToken 0 = .ok (.iload_n 0, 1) := by decide +kernel
theorem d_Ct_isToken_1 : decode b_Ct_isToken 1 = .ok (.invokestatic 88, 3) := by decide +kernel
theorem d_Ct_isToken_4 : decode b_Ct_isToken 4 = .ok (.ifCond .ne 10, 3) := by decide +kernel
theorem d_Ct_isToken_7 : decode b_Ct_isToken 7 = .ok (.iload_n 0, 1) := by decide +kernel
theorem d_Ct_isToken_8 : decode b_Ct_isToken 8 = .ok (.invokestatic 93, 3) := by decide +kernel
theorem d_Ct_isToken_11 : decode b_Ct_isToken 11 = .ok (.ifCond .eq 7, 3) := by decide +kernel
theorem d_Ct_isToken_14 : decode b_Ct_isToken 14 = .ok (.iconst 1, 1) := by decide +kernel
theorem d_Ct_isToken_15 : decode b_Ct_isToken 15 = .ok (.goto 4, 3) := by decide +kernel
theorem d_Ct_isToken_18 : decode b_Ct_isToken 18 = .ok (.iconst 0, 1) := by decide +kernel
theorem d_Ct_isToken_19 : decode b_Ct_isToken 19 = .ok (.ireturn, 1) := by decide +kernel
theorem d_Ct_isDigit_0 : decode b_Ct_isDigit 0 = .ok (.iload_n 0, 1) := by decide +kernel
theorem d_Ct_isDigit_1 : decode b_Ct_isDigit 1 = .ok (.sipush 3120, 3) := by decide +kernel
theorem d_Ct_isDigit_4 : decode b_Ct_isDigit 4 = .ok (.if_icmp .lt 14, 3) := by decide +kernel
theorem d_Ct_isDigit_7 : decode b_Ct_isDigit 7 = .ok (.iload_n 0, 1) := by decide +kernel
theorem d_Ct_isDigit_8 : decode b_Ct_isDigit 8 = .ok (.sipush 3129, 3) := by decide +kernel
theorem d_Ct_isDigit_11 : decode b_Ct_isDigit 11 = .ok (.if_icmp .gt 7, 3) := by decide +kernel
theorem d_Ct_isDigit_14 : decode b_Ct_isDigit 14 = .ok (.iconst 1, 1) := by decide +kernel
theorem d_Ct_isDigit_15 : decode b_Ct_isDigit 15 = .ok (.goto 4, 3) := by decide +kernel
theorem d_Ct_isDigit_18 : decode b_Ct_isDigit 18 = .ok (.iconst 0, 1) := by decide +kernel
theorem d_Ct_isDigit_19 : decode b_Ct_isDigit 19 = .ok (.ireturn, 1) := by decide +kernel
theorem d_Ct_isRelation_0 : decode b_Ct_isRelation 0 = .ok (.iload_n 0, 1) := by decide +kernel
theorem d_Ct_isRelation_1 : decode b_Ct_isRelation 1 = .ok (.sipush 3132, 3) := by decide +kernel
theorem d_Ct_isRelation_4 : decode b_Ct_isRelation 4 = .ok (.if_icmp .eq 17, 3) := by decide +kernel
theorem d_Ct_isRelation_7 : decode b_Ct_isRelation 7 = .ok (.iload_n 0, 1) := by decide +kernel
theorem d_Ct_isRelation_8 : decode b_Ct_isRelation 8 = .ok (.sipush 3133, 3) := by decide +kernel
theorem d_Ct_isRelation_11 : decode b_Ct_isRelation 11 = .ok (.if_icmp .eq 10, 3) := by decide +kernel
theorem d_Ct_isRelation_14 : decode b_Ct_isRelation 14 = .ok (.iload_n 0, 1) := by decide +kernel
theorem d_Ct_isRelation_15 : decode b_Ct_isRelation 15 = .ok (.sipush 3134, 3) := by decide +kernel
theorem d_Ct_isRelation_18 : decode b_Ct_isRelation 18 = .ok (.if_icmp .ne 7, 3) := by decide +kernel
theorem d_Ct_isRelation_21 : decode b_Ct_isRelation 21 = .ok (.iconst 1, 1) := by decide +kernel
theorem d_Ct_isRelation_22 : decode b_Ct_isRelation 22 = .ok (.goto 4, 3) := by decide +kernel
theorem d_Ct_isRelation_25 : decode b_Ct_isRelation 25 = .ok (.iconst 0, 1) := by decide +kernel
theorem d_Ct_isRelation_26 : decode b_Ct_isRelation 26 = .ok (.ireturn, 1) := by decide +kernel
theorem d_Ct_isBlank_0 : decode b_Ct_isBlank 0 = .ok (.iload_n 0, 1) := by decide +kernel
theorem d_Ct_isBlank_1 : decode b_Ct_isBlank 1 = .ok (.sipush 2560, 3) := by decide +kernel
theorem d_Ct_isBlank_4 : decode b_Ct_isBlank 4 = .ok (.if_icmp .lt 14, 3) := by decide +kernel
theorem d_Ct_isBlank_7 : decode b_Ct_isBlank 7 = .ok (.iload_n 0, 1) := by decide +kernel
theorem d_Ct_isBlank_8 : decode b_Ct_isBlank 8 = .ok (.sipush 2815, 3) := by decide +kernel
theorem d_Ct_isBlank_11 : decode b_Ct_isBlank 11 = .ok (.if_icmp .gt 7, 3) := by decide +kernel
theorem d_Ct_isBlank_14 : decode b_Ct_isBlank 14 = .ok (.iconst 1, 1) := by decide +kernel
theorem d_Ct_isBlank_15 : decode b_Ct_isBlank 15 = .ok (.goto 4, 3) := by decide +kernel
theorem d_Ct_isBlank_18 : decode b_Ct_isBlank 18 = .ok (.iconst 0, 1) := by decide +kernel
theorem d_Ct_isBlank_19 : decode b_Ct_isBlank 19 = .ok (.ireturn, 1) := by decide +kernel
theorem d_Ct_isMacro_0 : decode b_Ct_isMacro 0 = .ok (.iload_n 0, 1) := by decide +kernel
theorem d_Ct_isMacro_1 : decode b_Ct_isMacro 1 = .ok (.iconst 2, 1) := by decide +kernel
theorem d_Ct_isMacro_2 : decode b_Ct_isMacro 2 = .ok (.if_icmp .eq 8, 3) := by decide +kernel
theorem d_Ct_isMacro_5 : decode b_Ct_isMacro 5 = .ok (.iload_n 0, 1) := by decide +kernel
theorem d_Ct_isMacro_6 : decode b_Ct_isMacro 6 = .ok (.iconst 3, 1) := by decide +kernel
theorem d_Ct_isMacro_7 : decode b_Ct_isMacro 7 = .ok (.if_icmp .ne 7, 3) := by decide +kernel
theorem d_Ct_isMacro_10 : decode b_Ct_isMacro 10 = .ok (.iconst 1, 1) := by decide +kernel
theorem d_Ct_isMacro_11 : decode b_Ct_isMacro 11 = .ok (.goto 4, 3) := by decide +kernel
theorem d_Ct_isMacro_14 : decode b_Ct_isMacro 14 = .ok (.iconst 0, 1) := by decide +kernel
theorem d_Ct_isMacro_15 : decode b_Ct_isMacro 15 = .ok (.ireturn, 1) := by decide +kernel
theorem d_Ct_isMark_0 : decode b_Ct_isMark 0 = .ok (.iload_n 0, 1) := by decide +kernel
theorem d_Ct_isMark_1 : decode b_Ct_isMark 1 = .ok (.bipush 6, 2) := by decide +kernel
theorem d_Ct_isMark_3 : decode b_Ct_isMark 3 = .ok (.if_icmp .eq 15, 3) := by decide +kernel
theorem d_Ct_isMark_6 : decode b_Ct_isMark 6 = .ok (.iload_n 0, 1) := by decide +kernel
theorem d_Ct_isMark_7 : decode b_Ct_isMark 7 = .ok (.bipush 7, 2) := by decide +kernel
theorem d_Ct_isMark_9 : decode b_Ct_isMark 9 = .ok (.if_icmp .eq 9, 3) := by decide +kernel
theorem d_Ct_isMark_12 : decode b_Ct_isMark 12 = .ok (.iload_n 0, 1) := by decide +kernel
theorem d_Ct_isMark_13 : decode b_Ct_isMark 13 = .ok (.bipush 8, 2) := by decide +kernel
theorem d_Ct_isMark_15 : decode b_Ct_isMark 15 = .ok (.if_icmp .ne 7, 3) := by decide +kernel
theorem d_Ct_isMark_18 : decode b_Ct_isMark 18 = .ok (.iconst 1, 1) := by decide +kernel
theorem d_Ct_isMark_19 : decode b_Ct_isMark 19 = .ok (.goto 4, 3) := by decide +kernel
theorem d_Ct_isMark_22 : decode b_Ct_isMark 22 = .ok (.iconst 0, 1) := by decide +kernel
theorem d_Ct_isMark_23 : decode b_Ct_isMark 23 = .ok (.ireturn, 1) := by decide +kernel
def f_Ct_isSign (p0 : Int32) : Int32 := (if p0 < 0 then 0 else (if 4096 ≤ p0 then 0 else 1))
set_option maxHeartbeats 4000000 in
set_option maxRecDepth 100000 in
theorem c_Ct_isSign (l : Launch) (dC : Nat → ClassId) (dI : Nat → Nat → Nat) (ad : Nat → Nat) (ca : Nat → ClassId) (sz : Nat) (p0 : Int32) (F : Int32) (he : F = f_Ct_isSign p0) : wx_Mi l y_Ct_isSign ws_Ct_isSign ({ frames := 0, cells := 0, slots := 0, locals := 0 } : Room) (dC, dI) vwCl (t_E ca) [.int p0] (w_E ad ca) sz (fun _ : Unit => w_E ad ca) (fun (r : Int32) (_ : Unit) => r = F) := by
  refine Met.ofW (cc := b_Ct_isSign) (maxL := 1) (ret := some .boolean) (by decide) rfl ?_
  intro p e s m args below meth c s₁ B hml hv
  obtain ⟨rfl, hsz, hP, hK, hD0, hN⟩ := hv
  have hx := B.exec
  have hb := B.bytes
  have hr := B.returns
  have hts := atoms_spec (ws := ws_Ct_isSign) B.pre
  have ht : ∀ w ∈ TB, w.before _ s = true := fun w h => hts w (List.mem_cons_of_mem _ h)
  have hown : s.vm.findClass R_Ct = some m.cls := findClass_of_methodNamed B.named
  have hlocks := B.notSynchronized
  subst hsz
  have hD := hD0.self (sz := s.heap.size)
  generalize hAe : va_A (w_E ad ca) s.heap.size = A at hD ⊢
  have hA : ∀ q : Nat, s.heap.size ≤ q → A q := fun q h => by rw [← hAe]; exact Or.inr h
  have hS : va_S A s.heap s.heap [] := va_S.rf
  have hl := lv_entry ([.int p0]) (n := 1) (Nat.le_of_ble_eq_true rfl)
  rw [lg_entry_eq]
  generalize (lg_sl ([.int p0]) ++ List.replicate (1 - (lg_sl ([.int p0])).length) Slot.unset).toArray = ls at hl ⊢
  have hl : lv_has ls 1 [(0, .int p0)] := hl
  unfold f_Ct_isSign at he
  refine lv_iload_n hx hb d_Ct_isSign_0 rfl (lv_at hl 0 rfl) ?_
  refine lv_if_lt (tgt := 15) hx hb d_Ct_isSign_1 (by decide) (fun c_1 => ?_) (fun c_1 => ?_)
  · have he := he.trans (if_pos c_1)
    refine lv_iconst (v := 0) hx hb d_Ct_isSign_15 (by decide) ?_
    exact W.zret hx hb hr (by rfl) (v := 0) (fun t ht hW => ⟨⟨0, (), rfl, he.symm, by rw [ht]; exact hP, va_K.moved hW.alike hK, hD⟩, hS.F ht⟩) hS.2.2 d_Ct_isSign_16
  · have he := he.trans (if_neg c_1)
    refine lv_iload_n hx hb d_Ct_isSign_4 rfl (lv_at hl 0 rfl) ?_
    refine lv_sipush (v := 4096) hx hb d_Ct_isSign_5 (by decide) ?_
    refine lv_icmp_ge (tgt := 15) hx hb d_Ct_isSign_8 (by decide) (fun c_2 => ?_) (fun c_2 => ?_)
    · have he := he.trans (if_pos c_2)
      refine lv_iconst (v := 0) hx hb d_Ct_isSign_15 (by decide) ?_
      exact W.zret hx hb hr (by rfl) (v := 0) (fun t ht hW => ⟨⟨0, (), rfl, he.symm, by rw [ht]; exact hP, va_K.moved hW.alike hK, hD⟩, hS.F ht⟩) hS.2.2 d_Ct_isSign_16
    · have he := he.trans (if_neg c_2)
      refine lv_iconst (v := 1) hx hb d_Ct_isSign_11 (by decide) ?_
      refine lv_goto (tgt := 16) hx hb d_Ct_isSign_12 (by decide) ?_
      exact W.zret hx hb hr (by rfl) (v := 1) (fun t ht hW => ⟨⟨1, (), rfl, he.symm, by rw [ht]; exact hP, va_K.moved hW.alike hK, hD⟩, hS.F ht⟩) hS.2.2 d_Ct_isSign_16
def f_Ct_isName (p0 : Int32) : Int32 := (if p0 < 4096 then 0 else (if 4136 ≤ p0 then 0 else 1))
set_option maxHeartbeats 4000000 in
set_option maxRecDepth 100000 in
theorem c_Ct_isName (l : Launch) (dC : Nat → ClassId) (dI : Nat → Nat → Nat) (ad : Nat → Nat) (ca : Nat → ClassId) (sz : Nat) (p0 : Int32) (F : Int32) (he : F = f_Ct_isName p0) : wx_Mi l y_Ct_isName ws_Ct_isName ({ frames := 0, cells := 0, slots := 0, locals := 0 } : Room) (dC, dI) vwCl (t_E ca) [.int p0] (w_E ad ca) sz (fun _ : Unit => w_E ad ca) (fun (r : Int32) (_ : Unit) => r = F) := by
  refine Met.ofW (cc := b_Ct_isName) (maxL := 1) (ret := some .boolean) (by decide) rfl ?_
  intro p e s m args below meth c s₁ B hml hv
  obtain ⟨rfl, hsz, hP, hK, hD0, hN⟩ := hv
  have hx := B.exec
  have hb := B.bytes
  have hr := B.returns
  have hts := atoms_spec (ws := ws_Ct_isName) B.pre
  have ht : ∀ w ∈ TB, w.before _ s = true := fun w h => hts w (List.mem_cons_of_mem _ h)
  have hown : s.vm.findClass R_Ct = some m.cls := findClass_of_methodNamed B.named
  have hlocks := B.notSynchronized
  subst hsz
  have hD := hD0.self (sz := s.heap.size)
  generalize hAe : va_A (w_E ad ca) s.heap.size = A at hD ⊢
  have hA : ∀ q : Nat, s.heap.size ≤ q → A q := fun q h => by rw [← hAe]; exact Or.inr h
  have hS : va_S A s.heap s.heap [] := va_S.rf
  have hl := lv_entry ([.int p0]) (n := 1) (Nat.le_of_ble_eq_true rfl)
  rw [lg_entry_eq]
  generalize (lg_sl ([.int p0]) ++ List.replicate (1 - (lg_sl ([.int p0])).length) Slot.unset).toArray = ls at hl ⊢
  have hl : lv_has ls 1 [(0, .int p0)] := hl
  unfold f_Ct_isName at he
  refine lv_iload_n hx hb d_Ct_isName_0 rfl (lv_at hl 0 rfl) ?_
  refine lv_sipush (v := 4096) hx hb d_Ct_isName_1 (by decide) ?_
  refine lv_icmp_lt (tgt := 18) hx hb d_Ct_isName_4 (by decide) (fun c_1 => ?_) (fun c_1 => ?_)
  · have he := he.trans (if_pos c_1)
    refine lv_iconst (v := 0) hx hb d_Ct_isName_18 (by decide) ?_
    exact W.zret hx hb hr (by rfl) (v := 0) (fun t ht hW => ⟨⟨0, (), rfl, he.symm, by rw [ht]; exact hP, va_K.moved hW.alike hK, hD⟩, hS.F ht⟩) hS.2.2 d_Ct_isName_19
  · have he := he.trans (if_neg c_1)
    refine lv_iload_n hx hb d_Ct_isName_7 rfl (lv_at hl 0 rfl) ?_
    refine lv_sipush (v := 4136) hx hb d_Ct_isName_8 (by decide) ?_
    refine lv_icmp_ge (tgt := 18) hx hb d_Ct_isName_11 (by decide) (fun c_2 => ?_) (fun c_2 => ?_)
    · have he := he.trans (if_pos c_2)
      refine lv_iconst (v := 0) hx hb d_Ct_isName_18 (by decide) ?_
      exact W.zret hx hb hr (by rfl) (v := 0) (fun t ht hW => ⟨⟨0, (), rfl, he.symm, by rw [ht]; exact hP, va_K.moved hW.alike hK, hD⟩, hS.F ht⟩) hS.2.2 d_Ct_isName_19
    · have he := he.trans (if_neg c_2)
      refine lv_iconst (v := 1) hx hb d_Ct_isName_14 (by decide) ?_
      refine lv_goto (tgt := 19) hx hb d_Ct_isName_15 (by decide) ?_
      exact W.zret hx hb hr (by rfl) (v := 1) (fun t ht hW => ⟨⟨1, (), rfl, he.symm, by rw [ht]; exact hP, va_K.moved hW.alike hK, hD⟩, hS.F ht⟩) hS.2.2 d_Ct_isName_19
def f_Ct_isToken (p0 : Int32) : Int32 := (if (f_Ct_isSign p0) = 0 then (if (f_Ct_isName p0) = 0 then 0 else 1) else 1)
set_option maxHeartbeats 4000000 in
set_option maxRecDepth 100000 in
theorem c_Ct_isToken (l : Launch) (dC : Nat → ClassId) (dI : Nat → Nat → Nat) (ad : Nat → Nat) (ca : Nat → ClassId) (sz : Nat) (p0 : Int32) (F : Int32) (he : F = f_Ct_isToken p0) : wx_Mi l y_Ct_isToken ws_Ct_isToken ({ frames := 1, cells := 0, slots := 0, locals := 20 } : Room) (dC, dI) vwCl (t_E ca) [.int p0] (w_E ad ca) sz (fun _ : Unit => w_E ad ca) (fun (r : Int32) (_ : Unit) => r = F) := by
  refine Met.ofW (cc := b_Ct_isToken) (maxL := 1) (ret := some .boolean) (by decide) rfl ?_
  intro p e s m args below meth c s₁ B hml hv
  obtain ⟨rfl, hsz, hP, hK, hD0, hN⟩ := hv
  have hx := B.exec
  have hb := B.bytes
  have hr := B.returns
  have hts := atoms_spec (ws := ws_Ct_isToken) B.pre
  have ht : ∀ w ∈ TB, w.before _ s = true := fun w h => hts w (List.mem_cons_of_mem _ h)
  have hown : s.vm.findClass R_Ct = some m.cls := findClass_of_methodNamed B.named
  have hlocks := B.notSynchronized
  subst hsz
  have hD := hD0.self (sz := s.heap.size)
  generalize hAe : va_A (w_E ad ca) s.heap.size = A at hD ⊢
  have hA : ∀ q : Nat, s.heap.size ≤ q → A q := fun q h => by rw [← hAe]; exact Or.inr h
  have hS : va_S A s.heap s.heap [] := va_S.rf
  have hl := lv_entry ([.int p0]) (n := 1) (Nat.le_of_ble_eq_true rfl)
  rw [lg_entry_eq]
  generalize (lg_sl ([.int p0]) ++ List.replicate (1 - (lg_sl ([.int p0])).length) Slot.unset).toArray = ls at hl ⊢
  have hl : lv_has ls 1 [(0, .int p0)] := hl
  unfold f_Ct_isToken at he
  refine lv_iload_n hx hb d_Ct_isToken_0 rfl (lv_at hl 0 rfl) ?_
  refine wx_ci (wS := fun _ : Unit => w_E ad ca) (ws2 := fun _ : Unit => w_E ad ca) (va_runS (As := [.int p0]) (rest := []) ⟨hx, hb, hml, hown, ht⟩ (c_Ct_isSign l dC dI ad ca s.heap.size p0 _ rfl) (va_cwS 1 ht (tb_S q_185 q_186 q_42 q_187) rfl rfl rfl p_Ct_isSign.2 ⟨show 0 + 1 ≤ 1 by omega, show 8 + (1 + 11) + 0 ≤ 20 by omega⟩) (wx_preS (wc := (w_E ad ca)) hN hK hP hD [] [] rfl (by decide) rfl) rfl rfl hl.1 rfl (lv_room (Nat.le_of_ble_eq_true rfl)) d_Ct_isToken_1 ⟨Nat.zero_le _, Nat.zero_le _⟩) hP hD hS hA [] [] [] rfl rfl (by decide) (by decide) (by decide) (fun _ => rfl) (fun r_1 _ H locs hw hP hD hS => ?_)
  subst hw
  have hP : va_P (dC, dI) vwCl (w_E ad ca) H := hP
  have hD : va_D A (w_E ad ca) := hD
  refine lv_if_ne (tgt := 14) hx hb d_Ct_isToken_4 (by decide) (fun c_2 => ?_) (fun c_2 => ?_)
  · have he := he.trans (if_neg c_2)
    refine lv_iconst (v := 1) hx hb d_Ct_isToken_14 (by decide) ?_
    refine lv_goto (tgt := 19) hx hb d_Ct_isToken_15 (by decide) ?_
    exact W.zret hx hb hr (by rfl) (v := 1) (fun t ht hW => ⟨⟨1, (), rfl, he.symm, by rw [ht]; exact hP, va_K.moved hW.alike hK, hD⟩, hS.F ht⟩) hS.2.2 d_Ct_isToken_19
  · have he := he.trans (if_pos c_2)
    refine lv_iload_n hx hb d_Ct_isToken_7 rfl (lv_at hl 0 rfl) ?_
    refine wx_ci (wS := fun _ : Unit => w_E ad ca) (ws2 := fun _ : Unit => w_E ad ca) (va_runS (As := [.int p0]) (rest := []) ⟨hx, hb, hml, hown, ht⟩ (c_Ct_isName l dC dI ad ca H.size p0 _ rfl) (va_cwS 1 ht (tb_S q_209 q_210 q_42 q_211) rfl rfl rfl p_Ct_isName.2 ⟨show 0 + 1 ≤ 1 by omega, show 8 + (1 + 11) + 0 ≤ 20 by omega⟩) (wx_preS (wc := (w_E ad ca)) hN hK hP hD [] [] rfl (by decide) rfl) rfl rfl hl.1 rfl (lv_room (Nat.le_of_ble_eq_true rfl)) d_Ct_isToken_8 ⟨Nat.zero_le _, Nat.zero_le _⟩) hP hD hS hA [] [] [] rfl rfl (by decide) (by decide) (by decide) (fun _ => rfl) (fun r_3 _ H locs hw hP hD hS => ?_)
    subst hw
    have hP : va_P (dC, dI) vwCl (w_E ad ca) H := hP
    have hD : va_D A (w_E ad ca) := hD
    refine lv_if_eq (tgt := 18) hx hb d_Ct_isToken_11 (by decide) (fun c_4 => ?_) (fun c_4 => ?_)
    · have he := he.trans (if_pos c_4)
      refine lv_iconst (v := 0) hx hb d_Ct_isToken_18 (by decide) ?_
      exact W.zret hx hb hr (by rfl) (v := 0) (fun t ht hW => ⟨⟨0, (), rfl, he.symm, by rw [ht]; exact hP, va_K.moved hW.alike hK, hD⟩, hS.F ht⟩) hS.2.2 d_Ct_isToken_19
    · have he := he.trans (if_neg c_4)
      refine lv_iconst (v := 1) hx hb d_Ct_isToken_14 (by decide) ?_
      refine lv_goto (tgt := 19) hx hb d_Ct_isToken_15 (by decide) ?_
      exact W.zret hx hb hr (by rfl) (v := 1) (fun t ht hW => ⟨⟨1, (), rfl, he.symm, by rw [ht]; exact hP, va_K.moved hW.alike hK, hD⟩, hS.F ht⟩) hS.2.2 d_Ct_isToken_19
def f_Ct_isDigit (p0 : Int32) : Int32 := (if p0 < 3120 then 0 else (if 3129 < p0 then 0 else 1))
set_option maxHeartbeats 4000000 in
set_option maxRecDepth 100000 in
theorem c_Ct_isDigit (l : Launch) (dC : Nat → ClassId) (dI : Nat → Nat → Nat) (ad : Nat → Nat) (ca : Nat → ClassId) (sz : Nat) (p0 : Int32) (F : Int32) (he : F = f_Ct_isDigit p0) : wx_Mi l y_Ct_isDigit ws_Ct_isDigit ({ frames := 0, cells := 0, slots := 0, locals := 0 } : Room) (dC, dI) vwCl (t_E ca) [.int p0] (w_E ad ca) sz (fun _ : Unit => w_E ad ca) (fun (r : Int32) (_ : Unit) => r = F) := by
  refine Met.ofW (cc := b_Ct_isDigit) (maxL := 1) (ret := some .boolean) (by decide) rfl ?_
  intro p e s m args below meth c s₁ B hml hv
  obtain ⟨rfl, hsz, hP, hK, hD0, hN⟩ := hv
  have hx := B.exec
  have hb := B.bytes
  have hr := B.returns
  have hts := atoms_spec (ws := ws_Ct_isDigit) B.pre
  have ht : ∀ w ∈ TB, w.before _ s = true := fun w h => hts w (List.mem_cons_of_mem _ h)
  have hown : s.vm.findClass R_Ct = some m.cls := findClass_of_methodNamed B.named
  have hlocks := B.notSynchronized
  subst hsz
  have hD := hD0.self (sz := s.heap.size)
  generalize hAe : va_A (w_E ad ca) s.heap.size = A at hD ⊢
  have hA : ∀ q : Nat, s.heap.size ≤ q → A q := fun q h => by rw [← hAe]; exact Or.inr h
  have hS : va_S A s.heap s.heap [] := va_S.rf
  have hl := lv_entry ([.int p0]) (n := 1) (Nat.le_of_ble_eq_true rfl)
  rw [lg_entry_eq]
  generalize (lg_sl ([.int p0]) ++ List.replicate (1 - (lg_sl ([.int p0])).length) Slot.unset).toArray = ls at hl ⊢
  have hl : lv_has ls 1 [(0, .int p0)] := hl
  unfold f_Ct_isDigit at he
  refine lv_iload_n hx hb d_Ct_isDigit_0 rfl (lv_at hl 0 rfl) ?_
  refine lv_sipush (v := 3120) hx hb d_Ct_isDigit_1 (by decide) ?_
  refine lv_icmp_lt (tgt := 18) hx hb d_Ct_isDigit_4 (by decide) (fun c_1 => ?_) (fun c_1 => ?_)
  · have he := he.trans (if_pos c_1)
    refine lv_iconst (v := 0) hx hb d_Ct_isDigit_18 (by decide) ?_
    exact W.zret hx hb hr (by rfl) (v := 0) (fun t ht hW => ⟨⟨0, (), rfl, he.symm, by rw [ht]; exact hP, va_K.moved hW.alike hK, hD⟩, hS.F ht⟩) hS.2.2 d_Ct_isDigit_19
  · have he := he.trans (if_neg c_1)
    refine lv_iload_n hx hb d_Ct_isDigit_7 rfl (lv_at hl 0 rfl) ?_
    refine lv_sipush (v := 3129) hx hb d_Ct_isDigit_8 (by decide) ?_
    refine lv_icmp_gt (tgt := 18) hx hb d_Ct_isDigit_11 (by decide) (fun c_2 => ?_) (fun c_2 => ?_)
    · have he := he.trans (if_pos c_2)
      refine lv_iconst (v := 0) hx hb d_Ct_isDigit_18 (by decide) ?_
      exact W.zret hx hb hr (by rfl) (v := 0) (fun t ht hW => ⟨⟨0, (), rfl, he.symm, by rw [ht]; exact hP, va_K.moved hW.alike hK, hD⟩, hS.F ht⟩) hS.2.2 d_Ct_isDigit_19
    · have he := he.trans (if_neg c_2)
      refine lv_iconst (v := 1) hx hb d_Ct_isDigit_14 (by decide) ?_
      refine lv_goto (tgt := 19) hx hb d_Ct_isDigit_15 (by decide) ?_
      exact W.zret hx hb hr (by rfl) (v := 1) (fun t ht hW => ⟨⟨1, (), rfl, he.symm, by rw [ht]; exact hP, va_K.moved hW.alike hK, hD⟩, hS.F ht⟩) hS.2.2 d_Ct_isDigit_19
def f_Ct_isRelation (p0 : Int32) : Int32 := (if p0 = 3132 then 1 else (if p0 = 3133 then 1 else (if p0 = 3134 then 1 else 0)))
set_option maxHeartbeats 4000000 in
set_option maxRecDepth 100000 in
theorem c_Ct_isRelation (l : Launch) (dC : Nat → ClassId) (dI : Nat → Nat → Nat) (ad : Nat → Nat) (ca : Nat → ClassId) (sz : Nat) (p0 : Int32) (F : Int32) (he : F = f_Ct_isRelation p0) : wx_Mi l y_Ct_isRelation ws_Ct_isRelation ({ frames := 0, cells := 0, slots := 0, locals := 0 } : Room) (dC, dI) vwCl (t_E ca) [.int p0] (w_E ad ca) sz (fun _ : Unit => w_E ad ca) (fun (r : Int32) (_ : Unit) => r = F) := by
  refine Met.ofW (cc := b_Ct_isRelation) (maxL := 1) (ret := some .boolean) (by decide) rfl ?_
  intro p e s m args below meth c s₁ B hml hv
  obtain ⟨rfl, hsz, hP, hK, hD0, hN⟩ := hv
  have hx := B.exec
  have hb := B.bytes
  have hr := B.returns
  have hts := atoms_spec (ws := ws_Ct_isRelation) B.pre
  have ht : ∀ w ∈ TB, w.before _ s = true := fun w h => hts w (List.mem_cons_of_mem _ h)
  have hown : s.vm.findClass R_Ct = some m.cls := findClass_of_methodNamed B.named
  have hlocks := B.notSynchronized
  subst hsz
  have hD := hD0.self (sz := s.heap.size)
  generalize hAe : va_A (w_E ad ca) s.heap.size = A at hD ⊢
  have hA : ∀ q : Nat, s.heap.size ≤ q → A q := fun q h => by rw [← hAe]; exact Or.inr h
  have hS : va_S A s.heap s.heap [] := va_S.rf
  have hl := lv_entry ([.int p0]) (n := 1) (Nat.le_of_ble_eq_true rfl)
  rw [lg_entry_eq]
  generalize (lg_sl ([.int p0]) ++ List.replicate (1 - (lg_sl ([.int p0])).length) Slot.unset).toArray = ls at hl ⊢
  have hl : lv_has ls 1 [(0, .int p0)] := hl
  unfold f_Ct_isRelation at he
  refine lv_iload_n hx hb d_Ct_isRelation_0 rfl (lv_at hl 0 rfl) ?_
  refine lv_sipush (v := 3132) hx hb d_Ct_isRelation_1 (by decide) ?_
  refine lv_icmp_eq (tgt := 21) hx hb d_Ct_isRelation_4 (by decide) (fun c_1 => ?_) (fun c_1 => ?_)
  · have he := he.trans (if_pos c_1)
    refine lv_iconst (v := 1) hx hb d_Ct_isRelation_21 (by decide) ?_
    refine lv_goto (tgt := 26) hx hb d_Ct_isRelation_22 (by decide) ?_
    exact W.zret hx hb hr (by rfl) (v := 1) (fun t ht hW => ⟨⟨1, (), rfl, he.symm, by rw [ht]; exact hP, va_K.moved hW.alike hK, hD⟩, hS.F ht⟩) hS.2.2 d_Ct_isRelation_26
  · have he := he.trans (if_neg c_1)
    refine lv_iload_n hx hb d_Ct_isRelation_7 rfl (lv_at hl 0 rfl) ?_
    refine lv_sipush (v := 3133) hx hb d_Ct_isRelation_8 (by decide) ?_
    refine lv_icmp_eq (tgt := 21) hx hb d_Ct_isRelation_11 (by decide) (fun c_2 => ?_) (fun c_2 => ?_)
    · have he := he.trans (if_pos c_2)
      refine lv_iconst (v := 1) hx hb d_Ct_isRelation_21 (by decide) ?_
      refine lv_goto (tgt := 26) hx hb d_Ct_isRelation_22 (by decide) ?_
      exact W.zret hx hb hr (by rfl) (v := 1) (fun t ht hW => ⟨⟨1, (), rfl, he.symm, by rw [ht]; exact hP, va_K.moved hW.alike hK, hD⟩, hS.F ht⟩) hS.2.2 d_Ct_isRelation_26
    · have he := he.trans (if_neg c_2)
      refine lv_iload_n hx hb d_Ct_isRelation_14 rfl (lv_at hl 0 rfl) ?_
      refine lv_sipush (v := 3134) hx hb d_Ct_isRelation_15 (by decide) ?_
      refine lv_icmp_ne (tgt := 25) hx hb d_Ct_isRelation_18 (by decide) (fun c_3 => ?_) (fun c_3 => ?_)
      · have he := he.trans (if_neg c_3)
        refine lv_iconst (v := 0) hx hb d_Ct_isRelation_25 (by decide) ?_
        exact W.zret hx hb hr (by rfl) (v := 0) (fun t ht hW => ⟨⟨0, (), rfl, he.symm, by rw [ht]; exact hP, va_K.moved hW.alike hK, hD⟩, hS.F ht⟩) hS.2.2 d_Ct_isRelation_26
      · have he := he.trans (if_pos c_3)
        refine lv_iconst (v := 1) hx hb d_Ct_isRelation_21 (by decide) ?_
        refine lv_goto (tgt := 26) hx hb d_Ct_isRelation_22 (by decide) ?_
        exact W.zret hx hb hr (by rfl) (v := 1) (fun t ht hW => ⟨⟨1, (), rfl, he.symm, by rw [ht]; exact hP, va_K.moved hW.alike hK, hD⟩, hS.F ht⟩) hS.2.2 d_Ct_isRelation_26
def f_Ct_isBlank (p0 : Int32) : Int32 := (if p0 < 2560 then 0 else (if 2815 < p0 then 0 else 1))
set_option maxHeartbeats 4000000 in
set_option maxRecDepth 100000 in
theorem c_Ct_isBlank (l : Launch) (dC : Nat → ClassId) (dI : Nat → Nat → Nat) (ad : Nat → Nat) (ca : Nat → ClassId) (sz : Nat) (p0 : Int32) (F : Int32) (he : F = f_Ct_isBlank p0) : wx_Mi l y_Ct_isBlank ws_Ct_isBlank ({ frames := 0, cells := 0, slots := 0, locals := 0 } : Room) (dC, dI) vwCl (t_E ca) [.int p0] (w_E ad ca) sz (fun _ : Unit => w_E ad ca) (fun (r : Int32) (_ : Unit) => r = F) := by
  refine Met.ofW (cc := b_Ct_isBlank) (maxL := 1) (ret := some .boolean) (by decide) rfl ?_
  intro p e s m args below meth c s₁ B hml hv
  obtain ⟨rfl, hsz, hP, hK, hD0, hN⟩ := hv
  have hx := B.exec
  have hb := B.bytes
  have hr := B.returns
  have hts := atoms_spec (ws := ws_Ct_isBlank) B.pre
  have ht : ∀ w ∈ TB, w.before _ s = true := fun w h => hts w (List.mem_cons_of_mem _ h)
  have hown : s.vm.findClass R_Ct = some m.cls := findClass_of_methodNamed B.named
  have hlocks := B.notSynchronized
  subst hsz
  have hD := hD0.self (sz := s.heap.size)
  generalize hAe : va_A (w_E ad ca) s.heap.size = A at hD ⊢
  have hA : ∀ q : Nat, s.heap.size ≤ q → A q := fun q h => by rw [← hAe]; exact Or.inr h
  have hS : va_S A s.heap s.heap [] := va_S.rf
  have hl := lv_entry ([.int p0]) (n := 1) (Nat.le_of_ble_eq_true rfl)
  rw [lg_entry_eq]
  generalize (lg_sl ([.int p0]) ++ List.replicate (1 - (lg_sl ([.int p0])).length) Slot.unset).toArray = ls at hl ⊢
  have hl : lv_has ls 1 [(0, .int p0)] := hl
  unfold f_Ct_isBlank at he
  refine lv_iload_n hx hb d_Ct_isBlank_0 rfl (lv_at hl 0 rfl) ?_
  refine lv_sipush (v := 2560) hx hb d_Ct_isBlank_1 (by decide) ?_
  refine lv_icmp_lt (tgt := 18) hx hb d_Ct_isBlank_4 (by decide) (fun c_1 => ?_) (fun c_1 => ?_)
  · have he := he.trans (if_pos c_1)
    refine lv_iconst (v := 0) hx hb d_Ct_isBlank_18 (by decide) ?_
    exact W.zret hx hb hr (by rfl) (v := 0) (fun t ht hW => ⟨⟨0, (), rfl, he.symm, by rw [ht]; exact hP, va_K.moved hW.alike hK, hD⟩, hS.F ht⟩) hS.2.2 d_Ct_isBlank_19
  · have he := he.trans (if_neg c_1)
    refine lv_iload_n hx hb d_Ct_isBlank_7 rfl (lv_at hl 0 rfl) ?_
    refine lv_sipush (v := 2815) hx hb d_Ct_isBlank_8 (by decide) ?_
    refine lv_icmp_gt (tgt := 18) hx hb d_Ct_isBlank_11 (by decide) (fun c_2 => ?_) (fun c_2 => ?_)
    · have he := he.trans (if_pos c_2)
      refine lv_iconst (v := 0) hx hb d_Ct_isBlank_18 (by decide) ?_
      exact W.zret hx hb hr (by rfl) (v := 0) (fun t ht hW => ⟨⟨0, (), rfl, he.symm, by rw [ht]; exact hP, va_K.moved hW.alike hK, hD⟩, hS.F ht⟩) hS.2.2 d_Ct_isBlank_19
    · have he := he.trans (if_neg c_2)
      refine lv_iconst (v := 1) hx hb d_Ct_isBlank_14 (by decide) ?_
      refine lv_goto (tgt := 19) hx hb d_Ct_isBlank_15 (by decide) ?_
      exact W.zret hx hb hr (by rfl) (v := 1) (fun t ht hW => ⟨⟨1, (), rfl, he.symm, by rw [ht]; exact hP, va_K.moved hW.alike hK, hD⟩, hS.F ht⟩) hS.2.2 d_Ct_isBlank_19
def f_Ct_isMacro (p0 : Int32) : Int32 := (if p0 = 2 then 1 else (if p0 = 3 then 1 else 0))
set_option maxHeartbeats 4000000 in
set_option maxRecDepth 100000 in
theorem c_Ct_isMacro (l : Launch) (dC : Nat → ClassId) (dI : Nat → Nat → Nat) (ad : Nat → Nat) (ca : Nat → ClassId) (sz : Nat) (p0 : Int32) (F : Int32) (he : F = f_Ct_isMacro p0) : wx_Mi l y_Ct_isMacro ws_Ct_isMacro ({ frames := 0, cells := 0, slots := 0, locals := 0 } : Room) (dC, dI) vwCl (t_E ca) [.int p0] (w_E ad ca) sz (fun _ : Unit => w_E ad ca) (fun (r : Int32) (_ : Unit) => r = F) := by
  refine Met.ofW (cc := b_Ct_isMacro) (maxL := 1) (ret := some .boolean) (by decide) rfl ?_
  intro p e s m args below meth c s₁ B hml hv
  obtain ⟨rfl, hsz, hP, hK, hD0, hN⟩ := hv
  have hx := B.exec
  have hb := B.bytes
  have hr := B.returns
  have hts := atoms_spec (ws := ws_Ct_isMacro) B.pre
  have ht : ∀ w ∈ TB, w.before _ s = true := fun w h => hts w (List.mem_cons_of_mem _ h)
  have hown : s.vm.findClass R_Ct = some m.cls := findClass_of_methodNamed B.named
  have hlocks := B.notSynchronized
  subst hsz
  have hD := hD0.self (sz := s.heap.size)
  generalize hAe : va_A (w_E ad ca) s.heap.size = A at hD ⊢
  have hA : ∀ q : Nat, s.heap.size ≤ q → A q := fun q h => by rw [← hAe]; exact Or.inr h
  have hS : va_S A s.heap s.heap [] := va_S.rf
  have hl := lv_entry ([.int p0]) (n := 1) (Nat.le_of_ble_eq_true rfl)
  rw [lg_entry_eq]
  generalize (lg_sl ([.int p0]) ++ List.replicate (1 - (lg_sl ([.int p0])).length) Slot.unset).toArray = ls at hl ⊢
  have hl : lv_has ls 1 [(0, .int p0)] := hl
  unfold f_Ct_isMacro at he
  refine lv_iload_n hx hb d_Ct_isMacro_0 rfl (lv_at hl 0 rfl) ?_
  refine lv_iconst (v := 2) hx hb d_Ct_isMacro_1 (by decide) ?_
  refine lv_icmp_eq (tgt := 10) hx hb d_Ct_isMacro_2 (by decide) (fun c_1 => ?_) (fun c_1 => ?_)
  · have he := he.trans (if_pos c_1)
    refine lv_iconst (v := 1) hx hb d_Ct_isMacro_10 (by decide) ?_
    refine lv_goto (tgt := 15) hx hb d_Ct_isMacro_11 (by decide) ?_
    exact W.zret hx hb hr (by rfl) (v := 1) (fun t ht hW => ⟨⟨1, (), rfl, he.symm, by rw [ht]; exact hP, va_K.moved hW.alike hK, hD⟩, hS.F ht⟩) hS.2.2 d_Ct_isMacro_15
  · have he := he.trans (if_neg c_1)
    refine lv_iload_n hx hb d_Ct_isMacro_5 rfl (lv_at hl 0 rfl) ?_
    refine lv_iconst (v := 3) hx hb d_Ct_isMacro_6 (by decide) ?_
    refine lv_icmp_ne (tgt := 14) hx hb d_Ct_isMacro_7 (by decide) (fun c_2 => ?_) (fun c_2 => ?_)
    · have he := he.trans (if_neg c_2)
      refine lv_iconst (v := 0) hx hb d_Ct_isMacro_14 (by decide) ?_
      exact W.zret hx hb hr (by rfl) (v := 0) (fun t ht hW => ⟨⟨0, (), rfl, he.symm, by rw [ht]; exact hP, va_K.moved hW.alike hK, hD⟩, hS.F ht⟩) hS.2.2 d_Ct_isMacro_15
    · have he := he.trans (if_pos c_2)
      refine lv_iconst (v := 1) hx hb d_Ct_isMacro_10 (by decide) ?_
      refine lv_goto (tgt := 15) hx hb d_Ct_isMacro_11 (by decide) ?_
      exact W.zret hx hb hr (by rfl) (v := 1) (fun t ht hW => ⟨⟨1, (), rfl, he.symm, by rw [ht]; exact hP, va_K.moved hW.alike hK, hD⟩, hS.F ht⟩) hS.2.2 d_Ct_isMacro_15
def f_Ct_isMark (p0 : Int32) : Int32 := (if p0 = 6 then 1 else (if p0 = 7 then 1 else (if p0 = 8 then 1 else 0)))
set_option maxHeartbeats 4000000 in
set_option maxRecDepth 100000 in
theorem c_Ct_isMark (l : Launch) (dC : Nat → ClassId) (dI : Nat → Nat → Nat) (ad : Nat → Nat) (ca : Nat → ClassId) (sz : Nat) (p0 : Int32) (F : Int32) (he : F = f_Ct_isMark p0) : wx_Mi l y_Ct_isMark ws_Ct_isMark ({ frames := 0, cells := 0, slots := 0, locals := 0 } : Room) (dC, dI) vwCl (t_E ca) [.int p0] (w_E ad ca) sz (fun _ : Unit => w_E ad ca) (fun (r : Int32) (_ : Unit) => r = F) := by
  refine Met.ofW (cc := b_Ct_isMark) (maxL := 1) (ret := some .boolean) (by decide) rfl ?_
  intro p e s m args below meth c s₁ B hml hv
  obtain ⟨rfl, hsz, hP, hK, hD0, hN⟩ := hv
  have hx := B.exec
  have hb := B.bytes
  have hr := B.returns
  have hts := atoms_spec (ws := ws_Ct_isMark) B.pre
  have ht : ∀ w ∈ TB, w.before _ s = true := fun w h => hts w (List.mem_cons_of_mem _ h)
  have hown : s.vm.findClass R_Ct = some m.cls := findClass_of_methodNamed B.named
  have hlocks := B.notSynchronized
  subst hsz
  have hD := hD0.self (sz := s.heap.size)
  generalize hAe : va_A (w_E ad ca) s.heap.size = A at hD ⊢
  have hA : ∀ q : Nat, s.heap.size ≤ q → A q := fun q h => by rw [← hAe]; exact Or.inr h
  have hS : va_S A s.heap s.heap [] := va_S.rf
  have hl := lv_entry ([.int p0]) (n := 1) (Nat.le_of_ble_eq_true rfl)
  rw [lg_entry_eq]
  generalize (lg_sl ([.int p0]) ++ List.replicate (1 - (lg_sl ([.int p0])).length) Slot.unset).toArray = ls at hl ⊢
  have hl : lv_has ls 1 [(0, .int p0)] := hl
  unfold f_Ct_isMark at he
  refine lv_iload_n hx hb d_Ct_isMark_0 rfl (lv_at hl 0 rfl) ?_
  refine lv_bipush (v := 6) hx hb d_Ct_isMark_1 (by decide) ?_
  refine lv_icmp_eq (tgt := 18) hx hb d_Ct_isMark_3 (by decide) (fun c_1 => ?_) (fun c_1 => ?_)
  · have he := he.trans (if_pos c_1)
    refine lv_iconst (v := 1) hx hb d_Ct_isMark_18 (by decide) ?_
    refine lv_goto (tgt := 23) hx hb d_Ct_isMark_19 (by decide) ?_
    exact W.zret hx hb hr (by rfl) (v := 1) (fun t ht hW => ⟨⟨1, (), rfl, he.symm, by rw [ht]; exact hP, va_K.moved hW.alike hK, hD⟩, hS.F ht⟩) hS.2.2 d_Ct_isMark_23
  · have he := he.trans (if_neg c_1)
    refine lv_iload_n hx hb d_Ct_isMark_6 rfl (lv_at hl 0 rfl) ?_
    refine lv_bipush (v := 7) hx hb d_Ct_isMark_7 (by decide) ?_
    refine lv_icmp_eq (tgt := 18) hx hb d_Ct_isMark_9 (by decide) (fun c_2 => ?_) (fun c_2 => ?_)
    · have he := he.trans (if_pos c_2)
      refine lv_iconst (v := 1) hx hb d_Ct_isMark_18 (by decide) ?_
      refine lv_goto (tgt := 23) hx hb d_Ct_isMark_19 (by decide) ?_
      exact W.zret hx hb hr (by rfl) (v := 1) (fun t ht hW => ⟨⟨1, (), rfl, he.symm, by rw [ht]; exact hP, va_K.moved hW.alike hK, hD⟩, hS.F ht⟩) hS.2.2 d_Ct_isMark_23
    · have he := he.trans (if_neg c_2)
      refine lv_iload_n hx hb d_Ct_isMark_12 rfl (lv_at hl 0 rfl) ?_
      refine lv_bipush (v := 8) hx hb d_Ct_isMark_13 (by decide) ?_
      refine lv_icmp_ne (tgt := 22) hx hb d_Ct_isMark_15 (by decide) (fun c_3 => ?_) (fun c_3 => ?_)
      · have he := he.trans (if_neg c_3)
        refine lv_iconst (v := 0) hx hb d_Ct_isMark_22 (by decide) ?_
        exact W.zret hx hb hr (by rfl) (v := 0) (fun t ht hW => ⟨⟨0, (), rfl, he.symm, by rw [ht]; exact hP, va_K.moved hW.alike hK, hD⟩, hS.F ht⟩) hS.2.2 d_Ct_isMark_23
      · have he := he.trans (if_pos c_3)
        refine lv_iconst (v := 1) hx hb d_Ct_isMark_18 (by decide) ?_
        refine lv_goto (tgt := 23) hx hb d_Ct_isMark_19 (by decide) ?_
        exact W.zret hx hb hr (by rfl) (v := 1) (fun t ht hW => ⟨⟨1, (), rfl, he.symm, by rw [ht]; exact hP, va_K.moved hW.alike hK, hD⟩, hS.F ht⟩) hS.2.2 d_Ct_isMark_23
