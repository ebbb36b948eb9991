theorem q_63 : Cond.fieldLink R_Bk 9 "ConditionText$Book" "kinds" "[I" ∈ TB := tq 63 (by decide +kernel) rfl
theorem q_64 : Cond.fieldLink R_Bk 15 "ConditionText$Book" "values" "[I" ∈ TB := tq 64 (by decide +kernel) rfl
theorem q_66 : Cond.fieldLink R_Bk 21 "ConditionText$Book" "sizes" "[I" ∈ TB := tq 66 (by decide +kernel) rfl
theorem q_73 : Cond.fieldLink R_Bk 31 "ConditionText$Book" "bodyCount" "I" ∈ TB := tq 73 (by decide +kernel) rfl
theorem d_Bk_hasBody_0 : decode b_Bk_hasBody 0 = .ok (.iload_n 1, 1) := by decide +kernel
theorem d_Bk_hasBody_1 : decode b_Bk_hasBody 1 = .ok (.ifCond .lt 15, 3) := by decide +kernel
theorem d_Bk_hasBody_4 : decode b_Bk_hasBody 4 = .ok (.iload_n 1, 1) := by decide +kernel
theorem d_Bk_hasBody_5 : decode b_Bk_hasBody 5 = .ok (.aload_n 0, 1) := by decide +kernel
theorem d_Bk_hasBody_6 : decode b_Bk_hasBody 6 = .ok (.getfield 31, 3) := by decide +kernel
theorem d_Bk_hasBody_9 : decode b_Bk_hasBody 9 = .ok (.if_icmp .ge 7, 3) := by decide +kernel
theorem d_Bk_hasBody_12 : decode b_Bk_hasBody 12 = .ok (.iconst 1, 1) := by decide +kernel
theorem d_Bk_hasBody_13 : decode b_Bk_hasBody 13 = .ok (.goto 4, 3) := by decide +kernel
theorem d_Bk_hasBody_16 : decode b_Bk_hasBody 16 = .ok (.iconst 0, 1) := by decide +kernel
theorem d_Bk_hasBody_17 : decode b_Bk_hasBody 17 = .ok (.ireturn, 1) := by decide +kernel
theorem d_Bk_addBody_0 : decode b_Bk_addBody 0 = .ok (.aload_n 0, 1) := by decide +kernel
theorem d_Bk_addBody_1 : decode b_Bk_addBody 1 = .ok (.getfield 31, 3) := by decide +kernel
theorem d_Bk_addBody_4 : decode b_Bk_addBody 4 = .ok (.bipush 20, 2) := by decide +kernel
theorem d_Bk_addBody_6 : decode b_Bk_addBody 6 = .ok (.if_icmp .lt 6, 3) := by decide +kernel
theorem d_Bk_addBody_9 : decode b_Bk_addBody 9 = .ok (.bipush (-4), 2) := by decide +kernel
theorem d_Bk_addBody_11 : decode b_Bk_addBody 11 = .ok (.ireturn, 1) := by decide +kernel
theorem d_Bk_addBody_12 : decode b_Bk_addBody 12 = .ok (.aload_n 0, 1) := by decide +kernel
theorem d_Bk_addBody_13 : decode b_Bk_addBody 13 = .ok (.dup, 1) := by decide +kernel
theorem d_Bk_addBody_14 : decode b_Bk_addBody 14 = .ok (.getfield 31, 3) := by decide +kernel
theorem d_Bk_addBody_17 : decode b_Bk_addBody 17 = .ok (.iconst 1, 1) := by decide +kernel
theorem d_Bk_addBody_18 : decode b_Bk_addBody 18 = .ok (.iadd, 1) := by decide +kernel
theorem d_Bk_addBody_19 : decode b_Bk_addBody 19 = .ok (.putfield 31, 3) := by decide +kernel
theorem d_Bk_addBody_22 : decode b_Bk_addBody 22 = .ok (.aload_n 0, 1) := by decide +kernel
theorem d_Bk_addBody_23 : decode b_Bk_addBody 23 = .ok (.getfield 31, 3) := by decide +kernel
theorem d_Bk_addBody_26 : decode b_Bk_addBody 26 = .ok (.iconst 1, 1) := by decide +kernel
theorem d_Bk_addBody_27 : decode b_Bk_addBody 27 = .ok (.isub, 1) := by decide +kernel
theorem d_Bk_addBody_28 : decode b_Bk_addBody 28 = .ok (.ireturn, 1) := by decide +kernel
theorem d_Bk_sizeOf_0 : decode b_Bk_sizeOf 0 = .ok (.iload_n 1, 1) := by decide +kernel
theorem d_Bk_sizeOf_1 : decode b_Bk_sizeOf 1 = .ok (.ifCond .lt 21, 3) := by decide +kernel
theorem d_Bk_sizeOf_4 : decode b_Bk_sizeOf 4 = .ok (.iload_n 1, 1) := by decide +kernel
theorem d_Bk_sizeOf_5 : decode b_Bk_sizeOf 5 = .ok (.aload_n 0, 1) := by decide +kernel
theorem d_Bk_sizeOf_6 : decode b_Bk_sizeOf 6 = .ok (.getfield 21, 3) := by decide +kernel
theorem d_Bk_sizeOf_9 : decode b_Bk_sizeOf 9 = .ok (.arraylength, 1) := by decide +kernel
theorem d_Bk_sizeOf_10 : decode b_Bk_sizeOf 10 = .ok (.if_icmp .ge 12, 3) := by decide +kernel
theorem d_Bk_sizeOf_13 : decode b_Bk_sizeOf 13 = .ok (.aload_n 0, 1) := by decide +kernel
theorem d_Bk_sizeOf_14 : decode b_Bk_sizeOf 14 = .ok (.getfield 21, 3) := by decide +kernel
theorem d_Bk_sizeOf_17 : decode b_Bk_sizeOf 17 = .ok (.iload_n 1, 1) := by decide +kernel
theorem d_Bk_sizeOf_18 : decode b_Bk_sizeOf 18 = .ok (.iaload, 1) := by decide +kernel
theorem d_Bk_sizeOf_19 : decode b_Bk_sizeOf 19 = .ok (.goto 4, 3) := by decide +kernel
theorem d_Bk_sizeOf_22 : decode b_Bk_sizeOf 22 = .ok (.iconst 0, 1) := by decide +kernel
theorem d_Bk_sizeOf_23 : decode b_Bk_sizeOf 23 = .ok (.ireturn, 1) := by decide +kernel
theorem d_Bk_emptyInput_0 : decode b_Bk_emptyInput 0 = .ok (.aload_n 0, 1) := by decide +kernel
theorem d_Bk_emptyInput_1 : decode b_Bk_emptyInput 1 = .ok (.getfield 21, 3) := by decide +kernel
theorem d_Bk_emptyInput_4 : decode b_Bk_emptyInput 4 = .ok (.bipush 20, 2) := by decide +kernel
theorem d_Bk_emptyInput_6 : decode b_Bk_emptyInput 6 = .ok (.iaload, 1) := by decide +kernel
theorem d_Bk_emptyInput_7 : decode b_Bk_emptyInput 7 = .ok (.istore_n 1, 1) := by decide +kernel
theorem d_Bk_emptyInput_8 : decode b_Bk_emptyInput 8 = .ok (.aload_n 0, 1) := by decide +kernel
theorem d_Bk_emptyInput_9 : decode b_Bk_emptyInput 9 = .ok (.getfield 21, 3) := by decide +kernel
theorem d_Bk_emptyInput_12 : decode b_Bk_emptyInput 12 = .ok (.bipush 20, 2) := by decide +kernel
theorem d_Bk_emptyInput_14 : decode b_Bk_emptyInput 14 = .ok (.iconst 0, 1) := by decide +kernel
theorem d_Bk_emptyInput_15 : decode b_Bk_emptyInput 15 = .ok (.iastore, 1) := by decide +kernel
theorem d_Bk_emptyInput_16 : decode b_Bk_emptyInput 16 = .ok (.iload_n 1, 1) := by decide +kernel
theorem d_Bk_emptyInput_17 : decode b_Bk_emptyInput 17 = .ok (.ireturn, 1) := by decide +kernel
theorem d_Bk_define_0 : decode b_Bk_define 0 = .ok (.iload_n 1, 1) := by decide +kernel
theorem d_Bk_define_1 : decode b_Bk_define 1 = .ok (.ifCond .lt 23, 3) := by decide +kernel
theorem d_Bk_define_4 : decode b_Bk_define 4 = .ok (.iload_n 1, 1) := by decide +kernel
theorem d_Bk_define_5 : decode b_Bk_define 5 = .ok (.bipush 40, 2) := by decide +kernel
theorem d_Bk_define_7 : decode b_Bk_define 7 = .ok (.if_icmp .ge 17, 3) := by decide +kernel
theorem d_Bk_define_10 : decode b_Bk_define 10 = .ok (.aload_n 0, 1) := by decide +kernel
theorem d_Bk_define_11 : decode b_Bk_define 11 = .ok (.getfield 9, 3) := by decide +kernel
theorem d_Bk_define_14 : decode b_Bk_define 14 = .ok (.iload_n 1, 1) := by decide +kernel
theorem d_Bk_define_15 : decode b_Bk_define 15 = .ok (.iload_n 2, 1) := by decide +kernel
theorem d_Bk_define_16 : decode b_Bk_define 16 = .ok (.iastore, 1) := by decide +kernel
theorem d_Bk_define_17 : decode b_Bk_define 17 = .ok (.aload_n 0, 1) := by decide +kernel
theorem d_Bk_define_18 : decode b_Bk_define 18 = .ok (.getfield 15, 3) := by decide +kernel
theorem d_Bk_define_21 : decode b_Bk_define 21 = .ok (.iload_n 1, 1) := by decide +kernel
theorem d_Bk_define_22 : decode b_Bk_define 22 = .ok (.iload_n 3, 1) := by decide +kernel
theorem d_Bk_define_23 : decode b_Bk_define 23 = .ok (.iastore, 1) := by decide +kernel
theorem d_Bk_define_24 : decode b_Bk_define 24 = .ok (.return_, 1) := by decide +kernel
def f_Bk_hasBody (b : TBk) (p0 : Int32) : Int32 := (if p0 < 0 then 0 else (if (TBk_bodyCount b) ≤ p0 then 0 else 1))
set_option maxHeartbeats 4000000 in
set_option maxRecDepth 100000 in
theorem c_Bk_hasBody (l : Launch) (dC : Nat → ClassId) (dI : Nat → Nat → Nat) (ad : Nat → Nat) (ca : Nat → ClassId) (sz : Nat) (b : TBk) (p0 : Int32) (F : Int32) (he : F = f_Bk_hasBody b p0) : wx_Mi l y_Bk_hasBody ws_Bk_hasBody ({ frames := 0, cells := 0, slots := 0, locals := 0 } : Room) (dC, dI) vwCl (t_B ca) [.ref (ad 8), .int p0] (w_B ad ca b) sz (fun _ : Unit => w_B ad ca b) (fun (r : Int32) (_ : Unit) => r = F) := by
  refine Met.ofW (cc := b_Bk_hasBody) (maxL := 2) (ret := some .boolean) (by decide) rfl ?_
  intro p e s m args below meth c s₁ B hml hv
  obtain ⟨rfl, hsz, hP, hK, hD0, hN⟩ := hv
  have hx := B.exec
  have hb := B.bytes
  have hr := B.returns
  have hts := atoms_spec (ws := ws_Bk_hasBody) B.pre
  have ht : ∀ w ∈ TB, w.before _ s = true := fun w h => hts w (List.mem_cons_of_mem _ h)
  have hown : s.vm.findClass R_Bk = some m.cls := findClass_of_methodNamed B.named
  have hlocks := B.notSynchronized
  subst hsz
  have hD := hD0.self (sz := s.heap.size)
  generalize hAe : va_A (w_B ad ca b) s.heap.size = A at hD ⊢
  have hA : ∀ q : Nat, s.heap.size ≤ q → A q := fun q h => by rw [← hAe]; exact Or.inr h
  have hS : va_S A s.heap s.heap [] := va_S.rf
  have hl := lv_entry ([.ref (ad 8), .int p0]) (n := 2) (Nat.le_of_ble_eq_true rfl)
  rw [lg_entry_eq]
  generalize (lg_sl ([.ref (ad 8), .int p0]) ++ List.replicate (2 - (lg_sl ([.ref (ad 8), .int p0])).length) Slot.unset).toArray = ls at hl ⊢
  have hl : lv_has ls 2 [(0, .ref (ad 8)), (1, .int p0)] := hl
  unfold f_Bk_hasBody at he
  refine lv_iload_n hx hb d_Bk_hasBody_0 rfl (lv_at hl 1 rfl) ?_
  refine lv_if_lt (tgt := 16) hx hb d_Bk_hasBody_1 (by decide) (fun c_1 => ?_) (fun c_1 => ?_)
  · have he := he.trans (if_pos c_1)
    refine lv_iconst (v := 0) hx hb d_Bk_hasBody_16 (by decide) ?_
    exact W.zret hx hb hr (by rfl) (v := 0) (fun t ht hW => ⟨⟨0, (), rfl, he.symm, by rw [ht]; exact hP, va_K.moved hW.alike hK, hD⟩, hS.F ht⟩) hS.2.2 d_Bk_hasBody_17
  · have he := he.trans (if_neg c_1)
    refine lv_iload_n hx hb d_Bk_hasBody_4 rfl (lv_at hl 1 rfl) ?_
    refine lv_aload_n hx hb d_Bk_hasBody_5 rfl (lv_at hl 0 rfl) ?_
    refine va_get (D := (dC, dI)) (ci := 0) (v := .int (TBk_bodyCount b)) (C := R_Bk) (T := T_Bk) (N := 7) hx hb ht i_Bk hown hK hP 0 rfl rfl 6 (by decide) (ht _ q_73) (fun _ h9 => h9) rfl d_Bk_hasBody_6 ?_
    refine lv_icmp_ge (tgt := 16) hx hb d_Bk_hasBody_9 (by decide) (fun c_2 => ?_) (fun c_2 => ?_)
    · have he := he.trans (if_pos c_2)
      refine lv_iconst (v := 0) hx hb d_Bk_hasBody_16 (by decide) ?_
      exact W.zret hx hb hr (by rfl) (v := 0) (fun t ht hW => ⟨⟨0, (), rfl, he.symm, by rw [ht]; exact hP, va_K.moved hW.alike hK, hD⟩, hS.F ht⟩) hS.2.2 d_Bk_hasBody_17
    · have he := he.trans (if_neg c_2)
      refine lv_iconst (v := 1) hx hb d_Bk_hasBody_12 (by decide) ?_
      refine lv_goto (tgt := 17) hx hb d_Bk_hasBody_13 (by decide) ?_
      exact W.zret hx hb hr (by rfl) (v := 1) (fun t ht hW => ⟨⟨1, (), rfl, he.symm, by rw [ht]; exact hP, va_K.moved hW.alike hK, hD⟩, hS.F ht⟩) hS.2.2 d_Bk_hasBody_17
def f_Bk_addBody (b : TBk) : (Int32 × TBk) := (if (TBk_bodyCount b) < 20 then ((((TBk_bodyCount b) + 1) - 1), (TBk_set_bodyCount b ((TBk_bodyCount b) + 1))) else ((-4), b))
set_option maxHeartbeats 4000000 in
set_option maxRecDepth 100000 in
theorem c_Bk_addBody (l : Launch) (dC : Nat → ClassId) (dI : Nat → Nat → Nat) (ad : Nat → Nat) (ca : Nat → ClassId) (sz : Nat) (b : TBk) (F : (Int32 × TBk)) (he : F = f_Bk_addBody b) : wx_Mi l y_Bk_addBody ws_Bk_addBody ({ frames := 0, cells := 0, slots := 0, locals := 0 } : Room) (dC, dI) vwCl (t_B ca) [.ref (ad 8)] (w_B ad ca b) sz (fun v : TBk => w_B ad ca v) (fun (r : Int32) (v : TBk) => (r, v) = F) := by
  refine Met.ofW (cc := b_Bk_addBody) (maxL := 1) (ret := some .int) (by decide) rfl ?_
  intro p e s m args below meth c s₁ B hml hv
  obtain ⟨rfl, hsz, hP, hK, hD0, hN⟩ := hv
  have hx := B.exec
  have hb := B.bytes
  have hr := B.returns
  have hts := atoms_spec (ws := ws_Bk_addBody) B.pre
  have ht : ∀ w ∈ TB, w.before _ s = true := fun w h => hts w (List.mem_cons_of_mem _ h)
  have hown : s.vm.findClass R_Bk = some m.cls := findClass_of_methodNamed B.named
  have hlocks := B.notSynchronized
  subst hsz
  have hD := hD0.self (sz := s.heap.size)
  generalize hAe : va_A (w_B ad ca b) s.heap.size = A at hD ⊢
  have hA : ∀ q : Nat, s.heap.size ≤ q → A q := fun q h => by rw [← hAe]; exact Or.inr h
  have hS : va_S A s.heap s.heap [] := va_S.rf
  have hl := lv_entry ([.ref (ad 8)]) (n := 1) (Nat.le_of_ble_eq_true rfl)
  rw [lg_entry_eq]
  generalize (lg_sl ([.ref (ad 8)]) ++ List.replicate (1 - (lg_sl ([.ref (ad 8)])).length) Slot.unset).toArray = ls at hl ⊢
  have hl : lv_has ls 1 [(0, .ref (ad 8))] := hl
  unfold f_Bk_addBody at he
  refine lv_aload_n hx hb d_Bk_addBody_0 rfl (lv_at hl 0 rfl) ?_
  refine va_get (D := (dC, dI)) (ci := 0) (v := .int (TBk_bodyCount b)) (C := R_Bk) (T := T_Bk) (N := 7) hx hb ht i_Bk hown hK hP 0 rfl rfl 6 (by decide) (ht _ q_73) (fun _ h9 => h9) rfl d_Bk_addBody_1 ?_
  refine lv_bipush (v := 20) hx hb d_Bk_addBody_4 (by decide) ?_
  refine lv_icmp_lt (tgt := 12) hx hb d_Bk_addBody_6 (by decide) (fun c_1 => ?_) (fun c_1 => ?_)
  · have he := he.trans (if_pos c_1)
    refine lv_aload_n hx hb d_Bk_addBody_12 rfl (lv_at hl 0 rfl) ?_
    refine lv_dup hx hb d_Bk_addBody_13 rfl ?_
    refine va_get (D := (dC, dI)) (ci := 0) (v := .int (TBk_bodyCount b)) (C := R_Bk) (T := T_Bk) (N := 7) hx hb ht i_Bk hown hK hP 0 rfl rfl 6 (by decide) (ht _ q_73) (fun _ h9 => h9) rfl d_Bk_addBody_14 ?_
    refine lv_iconst (v := 1) hx hb d_Bk_addBody_17 (by decide) ?_
    refine lv_iadd hx hb d_Bk_addBody_18 ?_
    refine va_put (D := (dC, dI)) (ci := 0) (v := .int ((TBk_bodyCount b) + 1)) (ty := .int) (C := R_Bk) (T := T_Bk) (N := 7) hx hb ht i_Bk ty_Bk ty_Bk_ok nm_Bk hown hK hP hD hS 0 rfl rfl 6 (by decide) (ht _ q_73) (fun _ h9 => h9) rfl (by decide +kernel) rfl rfl (Nat.le_of_ble_eq_true rfl) d_Bk_addBody_19 (fun H locs hP hD hS => ?_)
    have hP : va_P (dC, dI) vwCl (w_B ad ca (TBk_set_bodyCount b ((TBk_bodyCount b) + 1))) H := hP
    have hD : va_D A (w_B ad ca (TBk_set_bodyCount b ((TBk_bodyCount b) + 1))) := hD
    refine lv_aload_n hx hb d_Bk_addBody_22 rfl (lv_at hl 0 rfl) ?_
    refine va_get (D := (dC, dI)) (ci := 0) (v := .int ((TBk_bodyCount b) + 1)) (C := R_Bk) (T := T_Bk) (N := 7) hx hb ht i_Bk hown hK hP 0 rfl rfl 6 (by decide) (ht _ q_73) (fun _ h9 => h9) rfl d_Bk_addBody_23 ?_
    refine lv_iconst (v := 1) hx hb d_Bk_addBody_26 (by decide) ?_
    refine lv_isub hx hb d_Bk_addBody_27 ?_
    exact W.iret hx hb hr (v := (((TBk_bodyCount b) + 1) - 1)) (fun t ht hW => ⟨⟨(((TBk_bodyCount b) + 1) - 1), (TBk_set_bodyCount b ((TBk_bodyCount b) + 1)), rfl, he.symm, by rw [ht]; exact hP, va_K.moved hW.alike hK, hD⟩, hS.F ht⟩) hS.2.2 d_Bk_addBody_28
  · have he := he.trans (if_neg c_1)
    refine lv_bipush (v := (-4)) hx hb d_Bk_addBody_9 (by decide) ?_
    exact W.iret hx hb hr (v := (-4)) (fun t ht hW => ⟨⟨(-4), b, rfl, he.symm, by rw [ht]; exact hP, va_K.moved hW.alike hK, hD⟩, hS.F ht⟩) hS.2.2 d_Bk_addBody_11
def f_Bk_sizeOf (b : TBk) (p0 : Int32) : Int32 := (if p0 < 0 then 0 else (if 21 ≤ p0 then 0 else ((TBk_sizes b) p0.toNatClampNeg)))
set_option maxHeartbeats 4000000 in
set_option maxRecDepth 100000 in
theorem c_Bk_sizeOf (l : Launch) (dC : Nat → ClassId) (dI : Nat → Nat → Nat) (ad : Nat → Nat) (ca : Nat → ClassId) (sz : Nat) (b : TBk) (p0 : Int32) (F : Int32) (he : F = f_Bk_sizeOf b p0) : wx_Mi l y_Bk_sizeOf ws_Bk_sizeOf ({ frames := 0, cells := 0, slots := 0, locals := 0 } : Room) (dC, dI) vwCl (t_B ca) [.ref (ad 8), .int p0] (w_B ad ca b) sz (fun _ : Unit => w_B ad ca b) (fun (r : Int32) (_ : Unit) => r = F) := by
  refine Met.ofW (cc := b_Bk_sizeOf) (maxL := 2) (ret := some .int) (by decide) rfl ?_
  intro p e s m args below meth c s₁ B hml hv
  obtain ⟨rfl, hsz, hP, hK, hD0, hN⟩ := hv
  have hx := B.exec
  have hb := B.bytes
  have hr := B.returns
  have hts := atoms_spec (ws := ws_Bk_sizeOf) B.pre
  have ht : ∀ w ∈ TB, w.before _ s = true := fun w h => hts w (List.mem_cons_of_mem _ h)
  have hown : s.vm.findClass R_Bk = some m.cls := findClass_of_methodNamed B.named
  have hlocks := B.notSynchronized
  subst hsz
  have hD := hD0.self (sz := s.heap.size)
  generalize hAe : va_A (w_B ad ca b) s.heap.size = A at hD ⊢
  have hA : ∀ q : Nat, s.heap.size ≤ q → A q := fun q h => by rw [← hAe]; exact Or.inr h
  have hS : va_S A s.heap s.heap [] := va_S.rf
  have hl := lv_entry ([.ref (ad 8), .int p0]) (n := 2) (Nat.le_of_ble_eq_true rfl)
  rw [lg_entry_eq]
  generalize (lg_sl ([.ref (ad 8), .int p0]) ++ List.replicate (2 - (lg_sl ([.ref (ad 8), .int p0])).length) Slot.unset).toArray = ls at hl ⊢
  have hl : lv_has ls 2 [(0, .ref (ad 8)), (1, .int p0)] := hl
  unfold f_Bk_sizeOf at he
  refine lv_iload_n hx hb d_Bk_sizeOf_0 rfl (lv_at hl 1 rfl) ?_
  refine lv_if_lt (tgt := 22) hx hb d_Bk_sizeOf_1 (by decide) (fun c_1 => ?_) (fun c_1 => ?_)
  · have he := he.trans (if_pos c_1)
    refine lv_iconst (v := 0) hx hb d_Bk_sizeOf_22 (by decide) ?_
    exact W.iret hx hb hr (v := 0) (fun t ht hW => ⟨⟨0, (), rfl, he.symm, by rw [ht]; exact hP, va_K.moved hW.alike hK, hD⟩, hS.F ht⟩) hS.2.2 d_Bk_sizeOf_23
  · have he := he.trans (if_neg c_1)
    refine lv_iload_n hx hb d_Bk_sizeOf_4 rfl (lv_at hl 1 rfl) ?_
    refine lv_aload_n hx hb d_Bk_sizeOf_5 rfl (lv_at hl 0 rfl) ?_
    refine va_get (D := (dC, dI)) (ci := 0) (v := .ref (ad 12)) (C := R_Bk) (T := T_Bk) (N := 7) hx hb ht i_Bk hown hK hP 0 rfl rfl 3 (by decide) (ht _ q_66) (fun _ h9 => h9) rfl d_Bk_sizeOf_6 ?_
    refine va_alen hx hb hK hP 4 3 rfl rfl (v := 21) rfl d_Bk_sizeOf_9 ?_
    refine lv_icmp_ge (tgt := 22) hx hb d_Bk_sizeOf_10 (by decide) (fun c_2 => ?_) (fun c_2 => ?_)
    · have he := he.trans (if_pos c_2)
      refine lv_iconst (v := 0) hx hb d_Bk_sizeOf_22 (by decide) ?_
      exact W.iret hx hb hr (v := 0) (fun t ht hW => ⟨⟨0, (), rfl, he.symm, by rw [ht]; exact hP, va_K.moved hW.alike hK, hD⟩, hS.F ht⟩) hS.2.2 d_Bk_sizeOf_23
    · have he := he.trans (if_neg c_2)
      refine lv_aload_n hx hb d_Bk_sizeOf_13 rfl (lv_at hl 0 rfl) ?_
      refine va_get (D := (dC, dI)) (ci := 0) (v := .ref (ad 12)) (C := R_Bk) (T := T_Bk) (N := 7) hx hb ht i_Bk hown hK hP 0 rfl rfl 3 (by decide) (ht _ q_66) (fun _ h9 => h9) rfl d_Bk_sizeOf_14 ?_
      refine lv_iload_n hx hb d_Bk_sizeOf_17 rfl (lv_at hl 1 rfl) ?_
      refine va_iald hx hb hK hP 4 3 rfl rfl (wx_inAU (by decide) c_1 c_2) d_Bk_sizeOf_18 ?_
      refine lv_goto (tgt := 23) hx hb d_Bk_sizeOf_19 (by decide) ?_
      exact W.iret hx hb hr (v := ((TBk_sizes b) p0.toNatClampNeg)) (fun t ht hW => ⟨⟨((TBk_sizes b) p0.toNatClampNeg), (), rfl, he.symm, by rw [ht]; exact hP, va_K.moved hW.alike hK, hD⟩, hS.F ht⟩) hS.2.2 d_Bk_sizeOf_23
def f_Bk_emptyInput (b : TBk) : (Int32 × TBk) := (((TBk_sizes b) (20 : Int32).toNatClampNeg), (TBk_set_sizes b (upd (TBk_sizes b) (20 : Int32).toNatClampNeg 0)))
set_option maxHeartbeats 4000000 in
set_option maxRecDepth 100000 in
theorem c_Bk_emptyInput (l : Launch) (dC : Nat → ClassId) (dI : Nat → Nat → Nat) (ad : Nat → Nat) (ca : Nat → ClassId) (sz : Nat) (b : TBk) (F : (Int32 × TBk)) (he : F = f_Bk_emptyInput b) : wx_Mi l y_Bk_emptyInput ws_Bk_emptyInput ({ frames := 0, cells := 0, slots := 0, locals := 0 } : Room) (dC, dI) vwCl (t_B ca) [.ref (ad 8)] (w_B ad ca b) sz (fun v : TBk => w_B ad ca v) (fun (r : Int32) (v : TBk) => (r, v) = F) := by
  refine Met.ofW (cc := b_Bk_emptyInput) (maxL := 2) (ret := some .int) (by decide) rfl ?_
  intro p e s m args below meth c s₁ B hml hv
  obtain ⟨rfl, hsz, hP, hK, hD0, hN⟩ := hv
  have hx := B.exec
  have hb := B.bytes
  have hr := B.returns
  have hts := atoms_spec (ws := ws_Bk_emptyInput) B.pre
  have ht : ∀ w ∈ TB, w.before _ s = true := fun w h => hts w (List.mem_cons_of_mem _ h)
  have hown : s.vm.findClass R_Bk = some m.cls := findClass_of_methodNamed B.named
  have hlocks := B.notSynchronized
  subst hsz
  have hD := hD0.self (sz := s.heap.size)
  generalize hAe : va_A (w_B ad ca b) s.heap.size = A at hD ⊢
  have hA : ∀ q : Nat, s.heap.size ≤ q → A q := fun q h => by rw [← hAe]; exact Or.inr h
  have hS : va_S A s.heap s.heap [] := va_S.rf
  have hl := lv_entry ([.ref (ad 8)]) (n := 2) (Nat.le_of_ble_eq_true rfl)
  rw [lg_entry_eq]
  generalize (lg_sl ([.ref (ad 8)]) ++ List.replicate (2 - (lg_sl ([.ref (ad 8)])).length) Slot.unset).toArray = ls at hl ⊢
  have hl : lv_has ls 2 [(0, .ref (ad 8))] := hl
  unfold f_Bk_emptyInput at he
  refine lv_aload_n hx hb d_Bk_emptyInput_0 rfl (lv_at hl 0 rfl) ?_
  refine va_get (D := (dC, dI)) (ci := 0) (v := .ref (ad 12)) (C := R_Bk) (T := T_Bk) (N := 7) hx hb ht i_Bk hown hK hP 0 rfl rfl 3 (by decide) (ht _ q_66) (fun _ h9 => h9) rfl d_Bk_emptyInput_1 ?_
  refine lv_bipush (v := 20) hx hb d_Bk_emptyInput_4 (by decide) ?_
  refine va_iald hx hb hK hP 4 3 rfl rfl (show vp_in 20 21 by unfold vp_in; decide) d_Bk_emptyInput_6 ?_
  refine lv_istore_n (lv' := [(1, .int ((TBk_sizes b) (20 : Int32).toNatClampNeg)), (0, .ref (ad 8))]) hx hb d_Bk_emptyInput_7 rfl hl (by decide) rfl (fun ls hl => ?_)
  refine lv_aload_n hx hb d_Bk_emptyInput_8 rfl (lv_at hl 1 rfl) ?_
  refine va_get (D := (dC, dI)) (ci := 0) (v := .ref (ad 12)) (C := R_Bk) (T := T_Bk) (N := 7) hx hb ht i_Bk hown hK hP 0 rfl rfl 3 (by decide) (ht _ q_66) (fun _ h9 => h9) rfl d_Bk_emptyInput_9 ?_
  refine lv_bipush (v := 20) hx hb d_Bk_emptyInput_12 (by decide) ?_
  refine lv_iconst (v := 0) hx hb d_Bk_emptyInput_14 (by decide) ?_
  refine va_iast hx hb hK hP hD hS 4 3 rfl rfl (show vp_in 20 21 by unfold vp_in; decide) d_Bk_emptyInput_15 (fun H locs hP hD hS => ?_)
  have hP : va_P (dC, dI) vwCl (w_B ad ca (TBk_set_sizes b (upd (TBk_sizes b) (20 : Int32).toNatClampNeg 0))) H := hP
  have hD : va_D A (w_B ad ca (TBk_set_sizes b (upd (TBk_sizes b) (20 : Int32).toNatClampNeg 0))) := hD
  refine lv_iload_n hx hb d_Bk_emptyInput_16 rfl (lv_at hl 0 rfl) ?_
  exact W.iret hx hb hr (v := ((TBk_sizes b) (20 : Int32).toNatClampNeg)) (fun t ht hW => ⟨⟨((TBk_sizes b) (20 : Int32).toNatClampNeg), (TBk_set_sizes b (upd (TBk_sizes b) (20 : Int32).toNatClampNeg 0)), rfl, he.symm, by rw [ht]; exact hP, va_K.moved hW.alike hK, hD⟩, hS.F ht⟩) hS.2.2 d_Bk_emptyInput_17
def f_Bk_define (b : TBk) (p0 : Int32) (p1 : Int32) (p2 : Int32) : TBk := (if p0 < 0 then b else (if 40 ≤ p0 then b else (TBk_set_values (TBk_set_kinds b (upd (TBk_kinds b) p0.toNatClampNeg p1)) (upd (TBk_values b) p0.toNatClampNeg p2))))
set_option maxHeartbeats 4000000 in
set_option maxRecDepth 100000 in
theorem c_Bk_define (l : Launch) (dC : Nat → ClassId) (dI : Nat → Nat → Nat) (ad : Nat → Nat) (ca : Nat → ClassId) (sz : Nat) (b : TBk) (p0 : Int32) (p1 : Int32) (p2 : Int32) (F : TBk) (he : F = f_Bk_define b p0 p1 p2) : wx_Mv l y_Bk_define ws_Bk_define ({ frames := 0, cells := 0, slots := 0, locals := 0 } : Room) (dC, dI) vwCl (t_B ca) [.ref (ad 8), .int p0, .int p1, .int p2] (w_B ad ca b) sz (fun v : TBk => w_B ad ca v) (fun v : TBk => v = F) := by
  refine Met.ofW (cc := b_Bk_define) (maxL := 4) (ret := none) (by decide) rfl ?_
  intro p e s m args below meth c s₁ B hml hv
  obtain ⟨rfl, hsz, hP, hK, hD0, hN⟩ := hv
  have hx := B.exec
  have hb := B.bytes
  have hr := B.returns
  have hts := atoms_spec (ws := ws_Bk_define) B.pre
  have ht : ∀ w ∈ TB, w.before _ s = true := fun w h => hts w (List.mem_cons_of_mem _ h)
  have hown : s.vm.findClass R_Bk = some m.cls := findClass_of_methodNamed B.named
  have hlocks := B.notSynchronized
  subst hsz
  have hD := hD0.self (sz := s.heap.size)
  generalize hAe : va_A (w_B ad ca b) s.heap.size = A at hD ⊢
  have hA : ∀ q : Nat, s.heap.size ≤ q → A q := fun q h => by rw [← hAe]; exact Or.inr h
  have hS : va_S A s.heap s.heap [] := va_S.rf
  have hl := lv_entry ([.ref (ad 8), .int p0, .int p1, .int p2]) (n := 4) (Nat.le_of_ble_eq_true rfl)
  rw [lg_entry_eq]
  generalize (lg_sl ([.ref (ad 8), .int p0, .int p1, .int p2]) ++ List.replicate (4 - (lg_sl ([.ref (ad 8), .int p0, .int p1, .int p2])).length) Slot.unset).toArray = ls at hl ⊢
  have hl : lv_has ls 4 [(0, .ref (ad 8)), (1, .int p0), (2, .int p1), (3, .int p2)] := hl
  unfold f_Bk_define at he
  refine lv_iload_n hx hb d_Bk_define_0 rfl (lv_at hl 1 rfl) ?_
  refine lv_if_lt (tgt := 24) hx hb d_Bk_define_1 (by decide) (fun c_1 => ?_) (fun c_1 => ?_)
  · have he := he.trans (if_pos c_1)
    exact W.vret hx hb hr (fun t ht hW => ⟨⟨b, rfl, he.symm, by rw [ht]; exact hP, va_K.moved hW.alike hK, hD⟩, hS.F ht⟩) hS.2.2 d_Bk_define_24
  · have he := he.trans (if_neg c_1)
    refine lv_iload_n hx hb d_Bk_define_4 rfl (lv_at hl 1 rfl) ?_
    refine lv_bipush (v := 40) hx hb d_Bk_define_5 (by decide) ?_
    refine lv_icmp_ge (tgt := 24) hx hb d_Bk_define_7 (by decide) (fun c_2 => ?_) (fun c_2 => ?_)
    · have he := he.trans (if_pos c_2)
      exact W.vret hx hb hr (fun t ht hW => ⟨⟨b, rfl, he.symm, by rw [ht]; exact hP, va_K.moved hW.alike hK, hD⟩, hS.F ht⟩) hS.2.2 d_Bk_define_24
    · have he := he.trans (if_neg c_2)
      refine lv_aload_n hx hb d_Bk_define_10 rfl (lv_at hl 0 rfl) ?_
      refine va_get (D := (dC, dI)) (ci := 0) (v := .ref (ad 9)) (C := R_Bk) (T := T_Bk) (N := 7) hx hb ht i_Bk hown hK hP 0 rfl rfl 0 (by decide) (ht _ q_63) (fun _ h9 => h9) rfl d_Bk_define_11 ?_
      refine lv_iload_n hx hb d_Bk_define_14 rfl (lv_at hl 1 rfl) ?_
      refine lv_iload_n hx hb d_Bk_define_15 rfl (lv_at hl 2 rfl) ?_
      refine va_iast hx hb hK hP hD hS 1 0 rfl rfl (wx_inAU (by decide) c_1 c_2) d_Bk_define_16 (fun H locs hP hD hS => ?_)
      have hP : va_P (dC, dI) vwCl (w_B ad ca (TBk_set_kinds b (upd (TBk_kinds b) p0.toNatClampNeg p1))) H := hP
      have hD : va_D A (w_B ad ca (TBk_set_kinds b (upd (TBk_kinds b) p0.toNatClampNeg p1))) := hD
      refine lv_aload_n hx hb d_Bk_define_17 rfl (lv_at hl 0 rfl) ?_
      refine va_get (D := (dC, dI)) (ci := 0) (v := .ref (ad 10)) (C := R_Bk) (T := T_Bk) (N := 7) hx hb ht i_Bk hown hK hP 0 rfl rfl 1 (by decide) (ht _ q_64) (fun _ h9 => h9) rfl d_Bk_define_18 ?_
      refine lv_iload_n hx hb d_Bk_define_21 rfl (lv_at hl 1 rfl) ?_
      refine lv_iload_n hx hb d_Bk_define_22 rfl (lv_at hl 3 rfl) ?_
      refine va_iast hx hb hK hP hD hS 2 1 rfl rfl (wx_inAU (by decide) c_1 c_2) d_Bk_define_23 (fun H locs hP hD hS => ?_)
      have hP : va_P (dC, dI) vwCl (w_B ad ca (TBk_set_values (TBk_set_kinds b (upd (TBk_kinds b) p0.toNatClampNeg p1)) (upd (TBk_values b) p0.toNatClampNeg p2))) H := hP
      have hD : va_D A (w_B ad ca (TBk_set_values (TBk_set_kinds b (upd (TBk_kinds b) p0.toNatClampNeg p1)) (upd (TBk_values b) p0.toNatClampNeg p2))) := hD
      exact W.vret hx hb hr (fun t ht hW => ⟨⟨(TBk_set_values (TBk_set_kinds b (upd (TBk_kinds b) p0.toNatClampNeg p1)) (upd (TBk_values b) p0.toNatClampNeg p2)), rfl, he.symm, by rw [ht]; exact hP, va_K.moved hW.alike hK, hD⟩, hS.F ht⟩) hS.2.2 d_Bk_define_24
