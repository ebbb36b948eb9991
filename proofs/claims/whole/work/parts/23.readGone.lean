theorem q_2 : Cond.selects R_Rn y_Rn_takeIn y_Rn_takeIn ∈ TB := tq 2 (by decide +kernel) rfl
theorem q_269 : Cond.methodLink R_Rn 57 y_Rn_takeIn ∈ TB := tq 269 (by decide +kernel) rfl
theorem q_271 : Cond.instanceMethod y_Rn_takeIn ∈ TB := tq 271 (by decide +kernel) rfl
theorem q_272 : Cond.code y_Rn_takeIn b_Rn_takeIn 4 (some .boolean) ∈ TB := tq 272 (by decide +kernel) rfl
theorem d_Rn_readGoneOnWith_0 : decode b_Rn_readGoneOnWith 0 = .ok (.iconst 0, 1) := by decide +kernel
theorem d_Rn_readGoneOnWith_1 : decode b_Rn_readGoneOnWith 1 = .ok (.istore_n 2, 1) := by decide +kernel
theorem d_Rn_readGoneOnWith_2 : decode b_Rn_readGoneOnWith 2 = .ok (.iload_n 2, 1) := by decide +kernel
theorem d_Rn_readGoneOnWith_3 : decode b_Rn_readGoneOnWith 3 = .ok (.ldc 44, 2) := by decide +kernel
theorem d_Rn_readGoneOnWith_5 : decode b_Rn_readGoneOnWith 5 = .ok (.if_icmp .ge 37, 3) := by decide +kernel
theorem d_Rn_readGoneOnWith_8 : decode b_Rn_readGoneOnWith 8 = .ok (.aload_n 0, 1) := by decide +kernel
theorem d_Rn_readGoneOnWith_9 : decode b_Rn_readGoneOnWith 9 = .ok (.getfield 45, 3) := by decide +kernel
theorem d_Rn_readGoneOnWith_12 : decode b_Rn_readGoneOnWith 12 = .ok (.ifCond .ne 30, 3) := by decide +kernel
theorem d_Rn_readGoneOnWith_15 : decode b_Rn_readGoneOnWith 15 = .ok (.aload_n 0, 1) := by decide +kernel
theorem d_Rn_readGoneOnWith_16 : decode b_Rn_readGoneOnWith 16 = .ok (.invokevirtual 136, 3) := by decide +kernel
theorem d_Rn_readGoneOnWith_19 : decode b_Rn_readGoneOnWith 19 = .ok (.istore_n 3, 1) := by decide +kernel
theorem d_Rn_readGoneOnWith_20 : decode b_Rn_readGoneOnWith 20 = .ok (.iload_n 3, 1) := by decide +kernel
theorem d_Rn_readGoneOnWith_21 : decode b_Rn_readGoneOnWith 21 = .ok (.iconst (-1), 1) := by decide +kernel
theorem d_Rn_readGoneOnWith_22 : decode b_Rn_readGoneOnWith 22 = .ok (.if_icmp .eq 12, 3) := by decide +kernel
theorem d_Rn_readGoneOnWith_25 : decode b_Rn_readGoneOnWith 25 = .ok (.aload_n 0, 1) := by decide +kernel
theorem d_Rn_readGoneOnWith_26 : decode b_Rn_readGoneOnWith 26 = .ok (.iload_n 3, 1) := by decide +kernel
theorem d_Rn_readGoneOnWith_27 : decode b_Rn_readGoneOnWith 27 = .ok (.iload_n 1, 1) := by decide +kernel
theorem d_Rn_readGoneOnWith_28 : decode b_Rn_readGoneOnWith 28 = .ok (.invokevirtual 57, 3) := by decide +kernel
theorem d_Rn_readGoneOnWith_31 : decode b_Rn_readGoneOnWith 31 = .ok (.ifCond .ne 5, 3) := by decide +kernel
theorem d_Rn_readGoneOnWith_34 : decode b_Rn_readGoneOnWith 34 = .ok (.iload_n 3, 1) := by decide +kernel
theorem d_Rn_readGoneOnWith_35 : decode b_Rn_readGoneOnWith 35 = .ok (.ireturn, 1) := by decide +kernel
theorem d_Rn_readGoneOnWith_36 : decode b_Rn_readGoneOnWith 36 = .ok (.iinc 2 1, 3) := by decide +kernel
theorem d_Rn_readGoneOnWith_39 : decode b_Rn_readGoneOnWith 39 = .ok (.goto (-37), 3) := by decide +kernel
theorem d_Rn_readGoneOnWith_42 : decode b_Rn_readGoneOnWith 42 = .ok (.iconst (-1), 1) := by decide +kernel
theorem d_Rn_readGoneOnWith_43 : decode b_Rn_readGoneOnWith 43 = .ok (.ireturn, 1) := by decide +kernel
noncomputable def f_Rn_readGoneOnWith_2 (op : TBk → TRn → Int32 → TRn) : Nat → TBk → TRn → Int32 → Int32 → (Int32 × TRn)
  | 0, _, u, _, _ => (0, u)
  | n + 1, b, u, x1, x2 => (if 1000000 ≤ x2 then ((-1), u) else (if (TRn_fault u) = 0 then (match f_Rn_lookForMore b u with | (r_3, v_3) => (if r_3 = (-1) then (r_3, v_3) else (match f_Rn_takeIn op b v_3 r_3 x1 with | (r_5, v_5) => (if r_5 = 0 then (r_3, v_5) else (f_Rn_readGoneOnWith_2 op n b v_5 x1 (x2 + 1)))))) else ((-1), u)))
set_option maxHeartbeats 4000000 in
set_option maxRecDepth 100000 in
theorem k_Rn_readGoneOnWith_2 {p : Program} {e : Env} {s : State} {m : MethodId} {args : Array Value} {below : List Frame} {meth : Method} {c : Code} {A : Nat → Prop} (l : Launch) (dC : Nat → ClassId) (dI : Nat → Nat → Nat) (ad : Nat → Nat) (ca : Nat → ClassId) (op : TBk → TRn → Int32 → TRn) (rf rl : Nat) (k : Int) (hopm : ∀ (b : TBk) (u : TRn) (w : Int32), k ≤ oc u → oc u ≤ oc (op b u w)) (hop : ∀ (sz : Nat) (b : TBk) (u : TRn) (w : Int32), BkS b ∧ k ≤ oc u → wx_Mv l y_Rn_open ws_Rn_open ({ frames := rf, cells := 0, slots := 0, locals := rl } : Room) (dC, dI) vwCl (t_R ca) [.ref (ad 0), .int w] (w_R ad ca b u) sz (fun v : TRn => w_R ad ca b v) (fun v : TRn => v = op b u w)) (C0 : wx_C p s m args meth c b_Rn_readGoneOnWith (some .int) 4 R_Rn A (dC, dI) vwCl (t_R ca)) (F : (Int32 × TRn)) : ∀ (n : Nat) (b : TBk) (u : TRn) (x1 : Int32) (x2 : Int32), ((BkS b ∧ k ≤ x1.toInt ∧ x1.toInt ≤ oc u) ∧ TLn 1000000 x2 n) → F = f_Rn_readGoneOnWith_2 op n b u x1 x2 → ∀ (H : Heap) (locs : List Loc), va_P (dC, dI) vwCl (w_R ad ca b u) H → va_D A (w_R ad ca b u) → va_S A s.heap H locs → ∀ (ls : Array Slot), lv_has ls 4 [(0, .ref (ad 0)), (1, .int x1), (2, .int x2)] → W p l e ({ frames := rf + 6, cells := 0, slots := 0, locals := rl + 136 } : Room) s m args below meth c H locs 0 0 (MQ below (va_Qi (fun (r : Int32) (v : TRn) => (r, v) = F) (wx_B (dC, dI) vwCl (t_R ca) (fun v : TRn => w_R ad ca b v) A) A) args s 0 0 A) (F0 m 2 ls []) := by
  have C1 := C0
  obtain ⟨hx, hb, hr, hml, hown, ht, hlocks, hA, hK, hN⟩ := C1
  intro n
  induction n with
  | zero =>
    intro b u x1 x2 hc he
    exact absurd hc (fun h => TLn_0 h.2)
  | succ n ih =>
    intro b u x1 x2 hc he H locs hP hD hS ls hl
    rw [f_Rn_readGoneOnWith_2] at he
    refine lv_iload_n hx hb d_Rn_readGoneOnWith_2 rfl (lv_at hl 2 rfl) ?_
    refine lv_ldc (v := 1000000) hx hb hown (ht _ q_255) d_Rn_readGoneOnWith_3 ?_
    refine lv_icmp_ge (tgt := 42) hx hb d_Rn_readGoneOnWith_5 (by decide) (fun c_1 => ?_) (fun c_1 => ?_)
    · have he := he.trans (if_pos c_1)
      refine lv_iconst (v := (-1)) hx hb d_Rn_readGoneOnWith_42 (by decide) ?_
      exact W.iret hx hb hr (v := (-1)) (fun t ht hW => ⟨⟨(-1), u, rfl, he.symm, by rw [ht]; exact hP, va_K.moved hW.alike hK, hD⟩, hS.F ht⟩) hS.2.2 d_Rn_readGoneOnWith_43
    · have he := he.trans (if_neg c_1)
      refine lv_aload_n hx hb d_Rn_readGoneOnWith_8 rfl (lv_at hl 0 rfl) ?_
      refine va_get (D := (dC, dI)) (ci := 2) (v := .int (TRn_fault u)) (C := R_Rn) (T := T_Rn) (N := 12) hx hb ht i_Rn hown hK hP 0 rfl rfl 11 (by decide) (ht _ q_141) (fun _ h9 => h9) rfl d_Rn_readGoneOnWith_9 ?_
      refine lv_if_ne (tgt := 42) hx hb d_Rn_readGoneOnWith_12 (by decide) (fun c_2 => ?_) (fun c_2 => ?_)
      · have he := he.trans (if_neg c_2)
        refine lv_iconst (v := (-1)) hx hb d_Rn_readGoneOnWith_42 (by decide) ?_
        exact W.iret hx hb hr (v := (-1)) (fun t ht hW => ⟨⟨(-1), u, rfl, he.symm, by rw [ht]; exact hP, va_K.moved hW.alike hK, hD⟩, hS.F ht⟩) hS.2.2 d_Rn_readGoneOnWith_43
      · have he := he.trans (if_pos c_2)
        refine lv_aload_n hx hb d_Rn_readGoneOnWith_15 rfl (lv_at hl 0 rfl) ?_
        refine wx_ci (wS := fun v : TRn => w_R ad ca b v) (ws2 := fun v : TRn => w_R ad ca b v) (va_runV (As := []) (rest := []) ⟨hx, hb, hml, hown, ht⟩ (c_Rn_lookForMore l dC dI ad ca H.size b u hc.1.1 _ rfl) (cwV 0 ht (tb_V q_309 q_311 q_8 q_44 q_312) rfl rfl rfl p_Rn_lookForMore ⟨show 2 + 1 ≤ rf + 6 by omega, show 8 + (2 + 11) + 44 ≤ rl + 136 by omega⟩) (wx_preV (wc := (w_R ad ca b u)) hN hK hP hD [0, 1, 2, 3, 4, 5, 6, 7, 8, 9, 10, 11, 12, 13, 14] [0, 1, 2, 3, 4, 5, 6, 7, 8, 9, 10, 11] rfl (by decide) rfl (ci := 2) (q0 := 0) rfl rfl) rfl rfl hl.1 rfl (lv_room (Nat.le_of_ble_eq_true rfl)) d_Rn_readGoneOnWith_16 ⟨Nat.zero_le _, Nat.zero_le _⟩) hP hD hS hA [0, 1, 2, 3, 4, 5, 6, 7, 8, 9, 10, 11, 12, 13, 14] [] [0, 1, 2, 3, 4, 5, 6, 7, 8, 9, 10, 11, 12, 13, 14] rfl rfl (by decide) (by decide) (by decide) (fun _ => rfl) (fun r_3 v_3 H locs hw_3 hP hD hS => ?_)
        have hP : va_P (dC, dI) vwCl (w_R ad ca b v_3) H := hP
        have hD : va_D A (w_R ad ca b v_3) := hD
        rw [← hw_3] at he
        try dsimp only at he
        refine lv_istore_n (lv' := [(3, .int r_3), (0, .ref (ad 0)), (1, .int x1), (2, .int x2)]) hx hb d_Rn_readGoneOnWith_19 rfl hl (by decide) rfl (fun ls hl => ?_)
        refine lv_iload_n hx hb d_Rn_readGoneOnWith_20 rfl (lv_at hl 0 rfl) ?_
        refine lv_iconst (v := (-1)) hx hb d_Rn_readGoneOnWith_21 (by decide) ?_
        refine lv_icmp_eq (tgt := 34) hx hb d_Rn_readGoneOnWith_22 (by decide) (fun c_4 => ?_) (fun c_4 => ?_)
        · have he := he.trans (if_pos c_4)
          refine lv_iload_n hx hb d_Rn_readGoneOnWith_34 rfl (lv_at hl 0 rfl) ?_
          exact W.iret hx hb hr (v := r_3) (fun t ht hW => ⟨⟨r_3, v_3, rfl, he.symm, by rw [ht]; exact hP, va_K.moved hW.alike hK, hD⟩, hS.F ht⟩) hS.2.2 d_Rn_readGoneOnWith_35
        · have he := he.trans (if_neg c_4)
          refine lv_aload_n hx hb d_Rn_readGoneOnWith_25 rfl (lv_at hl 1 rfl) ?_
          refine lv_iload_n hx hb d_Rn_readGoneOnWith_26 rfl (lv_at hl 0 rfl) ?_
          refine lv_iload_n hx hb d_Rn_readGoneOnWith_27 rfl (lv_at hl 2 rfl) ?_
          refine wx_ci (wS := fun v : TRn => w_R ad ca b v) (ws2 := fun v : TRn => w_R ad ca b v) (va_runV (As := [.int r_3, .int x1]) (rest := []) ⟨hx, hb, hml, hown, ht⟩ (c_Rn_takeIn l dC dI ad ca op rf rl k hopm hop H.size b v_3 r_3 x1 ⟨hc.1.1, by have h := oc_lk hw_3; have h2 := hc.1.2.1; have h3 := hc.1.2.2; omega⟩ _ rfl) (cwV 2 ht (tb_V q_269 q_271 q_2 q_44 q_272) rfl rfl rfl p_Rn_takeIn ⟨show (rf + 5) + 1 ≤ rf + 6 by omega, show 8 + (4 + 11) + (rl + 113) ≤ rl + 136 by omega⟩) (wx_preV (wc := (w_R ad ca b v_3)) hN hK hP hD [0, 1, 2, 3, 4, 5, 6, 7, 8, 9, 10, 11, 12, 13, 14] [0, 1, 2, 3, 4, 5, 6, 7, 8, 9, 10, 11] rfl (by decide) rfl (ci := 2) (q0 := 0) rfl rfl) rfl rfl hl.1 rfl (lv_room (Nat.le_of_ble_eq_true rfl)) d_Rn_readGoneOnWith_28 ⟨Nat.zero_le _, Nat.zero_le _⟩) hP hD hS hA [0, 1, 2, 3, 4, 5, 6, 7, 8, 9, 10, 11, 12, 13, 14] [] [0, 1, 2, 3, 4, 5, 6, 7, 8, 9, 10, 11, 12, 13, 14] rfl rfl (by decide) (by decide) (by decide) (fun _ => rfl) (fun r_5 v_5 H locs hw_5 hP hD hS => ?_)
          have hP : va_P (dC, dI) vwCl (w_R ad ca b v_5) H := hP
          have hD : va_D A (w_R ad ca b v_5) := hD
          rw [← hw_5] at he
          try dsimp only at he
          refine lv_if_ne (tgt := 36) hx hb d_Rn_readGoneOnWith_31 (by decide) (fun c_6 => ?_) (fun c_6 => ?_)
          · have he := he.trans (if_neg c_6)
            refine lv_iinc (v := (x2 + 1)) (lv' := [(2, .int (x2 + 1)), (3, .int r_3), (0, .ref (ad 0)), (1, .int x1)]) hx hb d_Rn_readGoneOnWith_36 hl (k := 3) rfl rfl (by decide) rfl (fun ls hl => ?_)
            refine lv_goto (tgt := 2) hx hb d_Rn_readGoneOnWith_39 (by decide) ?_
            exact ih b v_5 x1 (x2 + 1) ⟨⟨hc.1.1, hc.1.2.1, oc_take op k hopm hw_5 hc.1.2.1 (by have h := oc_lk hw_3; have h2 := hc.1.2.2; omega)⟩, TLn_s hc.2 (by decide) c_1⟩ he _ _ hP hD hS _ (lv_sub hl [2, 3, 0] rfl)
          · have he := he.trans (if_pos c_6)
            refine lv_iload_n hx hb d_Rn_readGoneOnWith_34 rfl (lv_at hl 0 rfl) ?_
            exact W.iret hx hb hr (v := r_3) (fun t ht hW => ⟨⟨r_3, v_5, rfl, he.symm, by rw [ht]; exact hP, va_K.moved hW.alike hK, hD⟩, hS.F ht⟩) hS.2.2 d_Rn_readGoneOnWith_35
noncomputable def f_Rn_readGoneOnWith (op : TBk → TRn → Int32 → TRn) (b : TBk) (u : TRn) (p0 : Int32) : (Int32 × TRn) := (f_Rn_readGoneOnWith_2 op TM b u p0 0)
set_option maxHeartbeats 4000000 in
set_option maxRecDepth 100000 in
theorem c_Rn_readGoneOnWith (l : Launch) (dC : Nat → ClassId) (dI : Nat → Nat → Nat) (ad : Nat → Nat) (ca : Nat → ClassId) (op : TBk → TRn → Int32 → TRn) (rf rl : Nat) (k : Int) (hopm : ∀ (b : TBk) (u : TRn) (w : Int32), k ≤ oc u → oc u ≤ oc (op b u w)) (hop : ∀ (sz : Nat) (b : TBk) (u : TRn) (w : Int32), BkS b ∧ k ≤ oc u → wx_Mv l y_Rn_open ws_Rn_open ({ frames := rf, cells := 0, slots := 0, locals := rl } : Room) (dC, dI) vwCl (t_R ca) [.ref (ad 0), .int w] (w_R ad ca b u) sz (fun v : TRn => w_R ad ca b v) (fun v : TRn => v = op b u w)) (sz : Nat) (b : TBk) (u : TRn) (p0 : Int32) (hpre : BkS b ∧ k ≤ p0.toInt ∧ p0.toInt ≤ oc u) (F : (Int32 × TRn)) (he : F = f_Rn_readGoneOnWith op b u p0) : wx_Mi l y_Rn_readGoneOnWith ws_Rn_readGoneOnWith ({ frames := rf + 6, cells := 0, slots := 0, locals := rl + 136 } : Room) (dC, dI) vwCl (t_R ca) [.ref (ad 0), .int p0] (w_R ad ca b u) sz (fun v : TRn => w_R ad ca b v) (fun (r : Int32) (v : TRn) => (r, v) = F) := by
  refine Met.ofW (cc := b_Rn_readGoneOnWith) (maxL := 4) (ret := some .int) (by decide) rfl ?_
  intro p e s m args below meth c s₁ B hml hv
  obtain ⟨rfl, hsz, hP, hK, hD0, hN⟩ := hv
  have hx := B.exec
  have hb := B.bytes
  have hr := B.returns
  have hts := atoms_spec (ws := ws_Rn_readGoneOnWith) B.pre
  have ht : ∀ w ∈ TB, w.before _ s = true := fun w h => hts w (List.mem_cons_of_mem _ h)
  have hown : s.vm.findClass R_Rn = some m.cls := findClass_of_methodNamed B.named
  have hlocks := B.notSynchronized
  subst hsz
  have hD := hD0.self (sz := s.heap.size)
  generalize hAe : va_A (w_R ad ca b u) s.heap.size = A at hD ⊢
  have hA : ∀ q : Nat, s.heap.size ≤ q → A q := fun q h => by rw [← hAe]; exact Or.inr h
  have hS : va_S A s.heap s.heap [] := va_S.rf
  have C0 : wx_C p s m ([.ref (ad 0), .int p0] : List Value).toArray meth c b_Rn_readGoneOnWith (some .int) 4 R_Rn A (dC, dI) vwCl (t_R ca) := ⟨hx, hb, hr, hml, hown, ht, hlocks, hA, hK, hN⟩
  have hl := lv_entry ([.ref (ad 0), .int p0]) (n := 4) (Nat.le_of_ble_eq_true rfl)
  rw [lg_entry_eq]
  generalize (lg_sl ([.ref (ad 0), .int p0]) ++ List.replicate (4 - (lg_sl ([.ref (ad 0), .int p0])).length) Slot.unset).toArray = ls at hl ⊢
  have hl : lv_has ls 4 [(0, .ref (ad 0)), (1, .int p0)] := hl
  unfold f_Rn_readGoneOnWith at he
  refine lv_iconst (v := 0) hx hb d_Rn_readGoneOnWith_0 (by decide) ?_
  refine lv_istore_n (lv' := [(2, .int 0), (0, .ref (ad 0)), (1, .int p0)]) hx hb d_Rn_readGoneOnWith_1 rfl hl (by decide) rfl (fun ls hl => ?_)
  exact k_Rn_readGoneOnWith_2 l dC dI ad ca op rf rl k hopm hop C0 F TM b u p0 0 ⟨hpre, TLn_m⟩ he _ _ hP hD hS _ (lv_sub hl [1, 2, 0] rfl)
