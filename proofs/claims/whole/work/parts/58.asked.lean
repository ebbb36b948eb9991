theorem q_27 : Cond.selects R_Md y_Md_isMacro y_Md_isMacro ∈ TB := tq 27 (by decide +kernel) rfl
theorem q_28 : Cond.selects R_Md y_Md_goOnWith y_Md_goOnWith ∈ TB := tq 28 (by decide +kernel) rfl
theorem q_29 : Cond.selects R_Md y_Md_open y_Md_open ∈ TB := tq 29 (by decide +kernel) rfl
theorem q_34 : Cond.selects R_Md y_Md_belongs y_Md_belongs ∈ TB := tq 34 (by decide +kernel) rfl
theorem q_575 : Cond.methodLink R_Md 95 y_Md_isMacro ∈ TB := tq 575 (by decide +kernel) rfl
theorem q_577 : Cond.instanceMethod y_Md_isMacro ∈ TB := tq 577 (by decide +kernel) rfl
theorem q_578 : Cond.code y_Md_isMacro b_Md_isMacro 2 (some .boolean) ∈ TB := tq 578 (by decide +kernel) rfl
theorem q_579 : Cond.methodLink R_Md 98 y_Md_goOnWith ∈ TB := tq 579 (by decide +kernel) rfl
theorem q_581 : Cond.instanceMethod y_Md_goOnWith ∈ TB := tq 581 (by decide +kernel) rfl
theorem q_582 : Cond.code y_Md_goOnWith b_Md_goOnWith 2 (none : Option Jvm.ClassFile.FieldType) ∈ TB := tq 582 (by decide +kernel) rfl
theorem q_583 : Cond.methodLink R_Md 101 y_Md_open ∈ TB := tq 583 (by decide +kernel) rfl
theorem q_585 : Cond.instanceMethod y_Md_open ∈ TB := tq 585 (by decide +kernel) rfl
theorem q_586 : Cond.code y_Md_open b_Md_open 6 (none : Option Jvm.ClassFile.FieldType) ∈ TB := tq 586 (by decide +kernel) rfl
theorem q_603 : Cond.methodLink R_Md 106 y_Md_belongs ∈ TB := tq 603 (by decide +kernel) rfl
theorem q_605 : Cond.instanceMethod y_Md_belongs ∈ TB := tq 605 (by decide +kernel) rfl
theorem q_606 : Cond.code y_Md_belongs b_Md_belongs 3 (none : Option Jvm.ClassFile.FieldType) ∈ TB := tq 606 (by decide +kernel) rfl
theorem d_Md_asked_0 : decode b_Md_asked 0 = .ok (.aload_n 0, 1) := by decide +kernel
theorem d_Md_asked_1 : decode b_Md_asked 1 = .ok (.invokevirtual 92, 3) := by decide +kernel
theorem d_Md_asked_4 : decode b_Md_asked 4 = .ok (.istore_n 2, 1) := by decide +kernel
theorem d_Md_asked_5 : decode b_Md_asked 5 = .ok (.aload_n 0, 1) := by decide +kernel
theorem d_Md_asked_6 : decode b_Md_asked 6 = .ok (.getfield 72, 3) := by decide +kernel
theorem d_Md_asked_9 : decode b_Md_asked 9 = .ok (.ifCond .ne 84, 3) := by decide +kernel
theorem d_Md_asked_12 : decode b_Md_asked 12 = .ok (.aload_n 0, 1) := by decide +kernel
theorem d_Md_asked_13 : decode b_Md_asked 13 = .ok (.iload_n 2, 1) := by decide +kernel
theorem d_Md_asked_14 : decode b_Md_asked 14 = .ok (.invokevirtual 61, 3) := by decide +kernel
theorem d_Md_asked_17 : decode b_Md_asked 17 = .ok (.istore_n 3, 1) := by decide +kernel
theorem d_Md_asked_18 : decode b_Md_asked 18 = .ok (.iload_n 3, 1) := by decide +kernel
theorem d_Md_asked_19 : decode b_Md_asked 19 = .ok (.iconst 5, 1) := by decide +kernel
theorem d_Md_asked_20 : decode b_Md_asked 20 = .ok (.if_icmp .le 7, 3) := by decide +kernel
theorem d_Md_asked_23 : decode b_Md_asked 23 = .ok (.iconst 1, 1) := by decide +kernel
theorem d_Md_asked_24 : decode b_Md_asked 24 = .ok (.goto 4, 3) := by decide +kernel
theorem d_Md_asked_27 : decode b_Md_asked 27 = .ok (.iconst 0, 1) := by decide +kernel
theorem d_Md_asked_28 : decode b_Md_asked 28 = .ok (.istore 4, 2) := by decide +kernel
theorem d_Md_asked_30 : decode b_Md_asked 30 = .ok (.aload_n 0, 1) := by decide +kernel
theorem d_Md_asked_31 : decode b_Md_asked 31 = .ok (.iload_n 2, 1) := by decide +kernel
theorem d_Md_asked_32 : decode b_Md_asked 32 = .ok (.invokevirtual 95, 3) := by decide +kernel
theorem d_Md_asked_35 : decode b_Md_asked 35 = .ok (.ifCond .eq 11, 3) := by decide +kernel
theorem d_Md_asked_38 : decode b_Md_asked 38 = .ok (.aload_n 0, 1) := by decide +kernel
theorem d_Md_asked_39 : decode b_Md_asked 39 = .ok (.iload_n 2, 1) := by decide +kernel
theorem d_Md_asked_40 : decode b_Md_asked 40 = .ok (.invokevirtual 98, 3) := by decide +kernel
theorem d_Md_asked_43 : decode b_Md_asked 43 = .ok (.goto 42, 3) := by decide +kernel
theorem d_Md_asked_46 : decode b_Md_asked 46 = .ok (.iload_n 3, 1) := by decide +kernel
theorem d_Md_asked_47 : decode b_Md_asked 47 = .ok (.iconst 5, 1) := by decide +kernel
theorem d_Md_asked_48 : decode b_Md_asked 48 = .ok (.if_icmp .ne 15, 3) := by decide +kernel
theorem d_Md_asked_51 : decode b_Md_asked 51 = .ok (.aload_n 0, 1) := by decide +kernel
theorem d_Md_asked_52 : decode b_Md_asked 52 = .ok (.aload_n 0, 1) := by decide +kernel
theorem d_Md_asked_53 : decode b_Md_asked 53 = .ok (.iload_n 2, 1) := by decide +kernel
theorem d_Md_asked_54 : decode b_Md_asked 54 = .ok (.invokevirtual 65, 3) := by decide +kernel
theorem d_Md_asked_57 : decode b_Md_asked 57 = .ok (.invokevirtual 101, 3) := by decide +kernel
theorem d_Md_asked_60 : decode b_Md_asked 60 = .ok (.goto 25, 3) := by decide +kernel
theorem d_Md_asked_63 : decode b_Md_asked 63 = .ok (.iload 4, 2) := by decide +kernel
theorem d_Md_asked_65 : decode b_Md_asked 65 = .ok (.ifCond .eq 13, 3) := by decide +kernel
theorem d_Md_asked_68 : decode b_Md_asked 68 = .ok (.aload_n 0, 1) := by decide +kernel
theorem d_Md_asked_69 : decode b_Md_asked 69 = .ok (.getfield 104, 3) := by decide +kernel
theorem d_Md_asked_72 : decode b_Md_asked 72 = .ok (.iload_n 1, 1) := by decide +kernel
theorem d_Md_asked_73 : decode b_Md_asked 73 = .ok (.iconst 1, 1) := by decide +kernel
theorem d_Md_asked_74 : decode b_Md_asked 74 = .ok (.iadd, 1) := by decide +kernel
theorem d_Md_asked_75 : decode b_Md_asked 75 = .ok (.if_icmp .ne 5, 3) := by decide +kernel
theorem d_Md_asked_78 : decode b_Md_asked 78 = .ok (.iload_n 2, 1) := by decide +kernel
theorem d_Md_asked_79 : decode b_Md_asked 79 = .ok (.ireturn, 1) := by decide +kernel
theorem d_Md_asked_80 : decode b_Md_asked 80 = .ok (.aload_n 0, 1) := by decide +kernel
theorem d_Md_asked_81 : decode b_Md_asked 81 = .ok (.iload_n 3, 1) := by decide +kernel
theorem d_Md_asked_82 : decode b_Md_asked 82 = .ok (.invokevirtual 106, 3) := by decide +kernel
theorem d_Md_asked_85 : decode b_Md_asked 85 = .ok (.aload_n 0, 1) := by decide +kernel
theorem d_Md_asked_86 : decode b_Md_asked 86 = .ok (.invokevirtual 92, 3) := by decide +kernel
theorem d_Md_asked_89 : decode b_Md_asked 89 = .ok (.istore_n 2, 1) := by decide +kernel
theorem d_Md_asked_90 : decode b_Md_asked 90 = .ok (.goto (-85), 3) := by decide +kernel
theorem d_Md_asked_93 : decode b_Md_asked 93 = .ok (.iconst (-1), 1) := by decide +kernel
theorem d_Md_asked_94 : decode b_Md_asked 94 = .ok (.ireturn, 1) := by decide +kernel
noncomputable def f_Md_asked_5 (op : TMd → Int32 → TMd) : Nat → TMd → Int32 → Int32 → (Int32 × TMd)
  | 0, d, _, _ => (0, d)
  | n + 1, d, x1, x2 => (if (TMd_fault d) = 0 then (if (f_Md_kindOf d x2) ≤ 5 then (if (f_Md_isMacro d x2) = 0 then (if (f_Md_kindOf d x2) = 5 then (let v_9 := op d (f_Md_valueOf d x2); (match f_Md_need v_9 with | (r_10, v_10) => (f_Md_asked_5 op n v_10 x1 r_10))) else (x2, d)) else (let v_11 := f_Md_goOnWith d x2; (match f_Md_need v_11 with | (r_12, v_12) => (f_Md_asked_5 op n v_12 x1 r_12)))) else (if (f_Md_isMacro d x2) = 0 then (if (f_Md_kindOf d x2) = 5 then (let v_21 := op d (f_Md_valueOf d x2); (match f_Md_need v_21 with | (r_22, v_22) => (f_Md_asked_5 op n v_22 x1 r_22))) else (if (TMd_open d) = (x1 + 1) then (x2, d) else (let v_18 := f_Md_belongs d (f_Md_kindOf d x2); (match f_Md_need v_18 with | (r_19, v_19) => (f_Md_asked_5 op n v_19 x1 r_19))))) else (let v_23 := f_Md_goOnWith d x2; (match f_Md_need v_23 with | (r_24, v_24) => (f_Md_asked_5 op n v_24 x1 r_24))))) else ((-1), d))
set_option maxHeartbeats 4000000 in
set_option maxRecDepth 100000 in
theorem k_Md_asked_5 {p : Program} {e : Env} {s : State} {m : MethodId} {args : Array Value} {below : List Frame} {meth : Method} {c : Code} {A : Nat → Prop} (l : Launch) (dC : Nat → ClassId) (dI : Nat → Nat → Nat) (ad : Nat → Nat) (ca : Nat → ClassId) (op : TMd → Int32 → TMd) (rf rl : Nat) (k : Int) (hopm : ∀ (d : TMd) (w : Int32), OPP k d → LVS 0 d (op d w)) (hop : ∀ (sz : Nat) (d : TMd) (w : Int32), OPP k d → wx_Mv l y_Md_open ws_Md_open ({ frames := rf, cells := 0, slots := 0, locals := rl } : Room) (dC, dI) vwCl (t_M ca) [.ref (ad 16), .int w] (w_M ad ca d) sz (fun v : TMd => w_M ad ca v) (fun v : TMd => v = op d w)) (C0 : wx_C p s m args meth c b_Md_asked (some .int) 5 R_Md A (dC, dI) vwCl (t_M ca)) (F : (Int32 × TMd)) : ∀ (n : Nat) (d : TMd) (x1 : Int32) (x2 : Int32), (APk k x1 d ∧ (TMd_fault d = 0 → TokIn d x2 ∧ mu d + 1 < (n : Int)) ∧ 0 < n) → F = f_Md_asked_5 op n d x1 x2 → ∀ (H : Heap) (locs : List Loc), va_P (dC, dI) vwCl (w_M ad ca d) H → va_D A (w_M ad ca d) → va_S A s.heap H locs → ∀ (ls : Array Slot), lv_has ls 5 [(0, .ref (ad 16)), (1, .int x1), (2, .int x2)] → W p l e ({ frames := rf + 5, cells := 0, slots := 0, locals := rl + 113 } : Room) s m args below meth c H locs 0 0 (MQ below (va_Qi (fun (r : Int32) (v : TMd) => (r, v) = F) (wx_B (dC, dI) vwCl (t_M ca) (fun v : TMd => w_M ad ca v) A) A) args s 0 0 A) (F0 m 5 ls []) := by
  have C1 := C0
  obtain ⟨hx, hb, hr, hml, hown, ht, hlocks, hA, hK, hN⟩ := C1
  intro n
  induction n with
  | zero =>
    intro d x1 x2 hc he
    exact absurd hc (fun h => Nat.lt_irrefl 0 h.2.2)
  | succ n ih =>
    intro d x1 x2 hc he H locs hP hD hS ls hl
    rw [f_Md_asked_5] at he
    refine lv_aload_n hx hb d_Md_asked_5 rfl (lv_at hl 0 rfl) ?_
    refine va_get (D := (dC, dI)) (ci := 4) (v := .int (TMd_fault d)) (C := R_Md) (T := T_Md) (N := 23) hx hb ht i_Md hown hK hP 0 rfl rfl 13 (by decide) (ht _ q_458) (fun _ h9 => h9) rfl d_Md_asked_6 ?_
    refine lv_if_ne (tgt := 93) hx hb d_Md_asked_9 (by decide) (fun c_1 => ?_) (fun c_1 => ?_)
    · have he := he.trans (if_neg c_1)
      refine lv_iconst (v := (-1)) hx hb d_Md_asked_93 (by decide) ?_
      exact W.iret hx hb hr (v := (-1)) (fun t ht hW => ⟨⟨(-1), d, rfl, he.symm, by rw [ht]; exact hP, va_K.moved hW.alike hK, hD⟩, hS.F ht⟩) hS.2.2 d_Md_asked_94
    · have he := he.trans (if_pos c_1)
      refine lv_aload_n hx hb d_Md_asked_12 rfl (lv_at hl 0 rfl) ?_
      refine lv_iload_n hx hb d_Md_asked_13 rfl (lv_at hl 2 rfl) ?_
      refine wx_ci (wS := fun _ : Unit => w_M ad ca d) (ws2 := fun _ : Unit => w_M ad ca d) (va_runV (As := [.int x2]) (rest := []) ⟨hx, hb, hml, hown, ht⟩ (c_Md_kindOf l dC dI ad ca H.size d x2 (sk_tok hc.2.1 c_1) _ rfl) (cwV 1 ht (tb_V q_555 q_557 q_23 q_47 q_558) rfl rfl rfl p_Md_kindOf ⟨show 0 + 1 ≤ rf + 5 by omega, show 8 + (2 + 11) + 0 ≤ rl + 113 by omega⟩) (wx_preV (wc := (w_M ad ca d)) hN hK hP hD [0, 1, 2, 3, 4, 5, 6, 7, 8, 9, 10, 11] [0, 1, 2, 3, 4, 5, 6, 7, 8, 9, 10] rfl (by decide) rfl (ci := 4) (q0 := 0) rfl rfl) rfl rfl hl.1 rfl (lv_room (Nat.le_of_ble_eq_true rfl)) d_Md_asked_14 ⟨Nat.zero_le _, Nat.zero_le _⟩) hP hD hS hA [0, 1, 2, 3, 4, 5, 6, 7, 8, 9, 10, 11] [] [0, 1, 2, 3, 4, 5, 6, 7, 8, 9, 10, 11] rfl rfl (by decide) (by decide) (by decide) (fun _ => rfl) (fun r_2 _ H locs hw_2 hP hD hS => ?_)
      subst hw_2
      have hP : va_P (dC, dI) vwCl (w_M ad ca d) H := hP
      have hD : va_D A (w_M ad ca d) := hD
      refine lv_istore_n (lv' := [(3, .int (f_Md_kindOf d x2)), (0, .ref (ad 16)), (1, .int x1), (2, .int x2)]) hx hb d_Md_asked_17 rfl hl (by decide) rfl (fun ls hl => ?_)
      refine lv_iload_n hx hb d_Md_asked_18 rfl (lv_at hl 0 rfl) ?_
      refine lv_iconst (v := 5) hx hb d_Md_asked_19 (by decide) ?_
      refine lv_icmp_le (tgt := 27) hx hb d_Md_asked_20 (by decide) (fun c_3 => ?_) (fun c_3 => ?_)
      · have he := he.trans (if_pos c_3)
        refine lv_iconst (v := 0) hx hb d_Md_asked_27 (by decide) ?_
        refine lv_istore (lv' := [(4, .int 0), (3, .int (f_Md_kindOf d x2)), (0, .ref (ad 16)), (1, .int x1), (2, .int x2)]) hx hb d_Md_asked_28 hl (by decide) rfl (fun ls hl => ?_)
        refine lv_aload_n hx hb d_Md_asked_30 rfl (lv_at hl 2 rfl) ?_
        refine lv_iload_n hx hb d_Md_asked_31 rfl (lv_at hl 4 rfl) ?_
        refine wx_ci (wS := fun _ : Unit => w_M ad ca d) (ws2 := fun _ : Unit => w_M ad ca d) (va_runV (As := [.int x2]) (rest := []) ⟨hx, hb, hml, hown, ht⟩ (c_Md_isMacro l dC dI ad ca H.size d x2 (sk_tok hc.2.1 c_1) _ rfl) (cwV 1 ht (tb_V q_575 q_577 q_27 q_47 q_578) rfl rfl rfl p_Md_isMacro ⟨show 1 + 1 ≤ rf + 5 by omega, show 8 + (2 + 11) + 21 ≤ rl + 113 by omega⟩) (wx_preV (wc := (w_M ad ca d)) hN hK hP hD [0, 1, 2, 3, 4, 5, 6, 7, 8, 9, 10, 11] [0, 1, 2, 3, 4, 5, 6, 7, 8, 9, 10] rfl (by decide) rfl (ci := 4) (q0 := 0) rfl rfl) rfl rfl hl.1 rfl (lv_room (Nat.le_of_ble_eq_true rfl)) d_Md_asked_32 ⟨Nat.zero_le _, Nat.zero_le _⟩) hP hD hS hA [0, 1, 2, 3, 4, 5, 6, 7, 8, 9, 10, 11] [] [0, 1, 2, 3, 4, 5, 6, 7, 8, 9, 10, 11] rfl rfl (by decide) (by decide) (by decide) (fun _ => rfl) (fun r_4 _ H locs hw_4 hP hD hS => ?_)
        subst hw_4
        have hP : va_P (dC, dI) vwCl (w_M ad ca d) H := hP
        have hD : va_D A (w_M ad ca d) := hD
        refine lv_if_eq (tgt := 46) hx hb d_Md_asked_35 (by decide) (fun c_5 => ?_) (fun c_5 => ?_)
        · have he := he.trans (if_pos c_5)
          refine lv_iload_n hx hb d_Md_asked_46 rfl (lv_at hl 1 rfl) ?_
          refine lv_iconst (v := 5) hx hb d_Md_asked_47 (by decide) ?_
          refine lv_icmp_ne (tgt := 63) hx hb d_Md_asked_48 (by decide) (fun c_6 => ?_) (fun c_6 => ?_)
          · have he := he.trans (if_neg c_6)
            refine lv_iload hx hb d_Md_asked_63 (lv_at hl 0 rfl) ?_
            refine lv_if_eq (tgt := 78) hx hb d_Md_asked_65 (by decide) (fun c_7 => ?_) (fun c_7 => ?_)
            · refine lv_iload_n hx hb d_Md_asked_78 rfl (lv_at hl 4 rfl) ?_
              exact W.iret hx hb hr (v := x2) (fun t ht hW => ⟨⟨x2, d, rfl, he.symm, by rw [ht]; exact hP, va_K.moved hW.alike hK, hD⟩, hS.F ht⟩) hS.2.2 d_Md_asked_79
            · exact absurd c_7 (by decide)
          · have he := he.trans (if_pos c_6)
            refine lv_aload_n hx hb d_Md_asked_51 rfl (lv_at hl 2 rfl) ?_
            refine lv_aload_n hx hb d_Md_asked_52 rfl (lv_at hl 2 rfl) ?_
            refine lv_iload_n hx hb d_Md_asked_53 rfl (lv_at hl 4 rfl) ?_
            refine wx_ci (wS := fun _ : Unit => w_M ad ca d) (ws2 := fun _ : Unit => w_M ad ca d) (va_runV (As := [.int x2]) (rest := [.ref (ad 16)]) ⟨hx, hb, hml, hown, ht⟩ (c_Md_valueOf l dC dI ad ca H.size d x2 (sk_tok hc.2.1 c_1) _ rfl) (cwV 1 ht (tb_V q_559 q_561 q_24 q_47 q_562) rfl rfl rfl p_Md_valueOf ⟨show 0 + 1 ≤ rf + 5 by omega, show 8 + (2 + 11) + 0 ≤ rl + 113 by omega⟩) (wx_preV (wc := (w_M ad ca d)) hN hK hP hD [0, 1, 2, 3, 4, 5, 6, 7, 8, 9, 10, 11] [0, 1, 2, 3, 4, 5, 6, 7, 8, 9, 10] rfl (by decide) rfl (ci := 4) (q0 := 0) rfl rfl) rfl rfl hl.1 rfl (lv_room (Nat.le_of_ble_eq_true rfl)) d_Md_asked_54 ⟨Nat.zero_le _, Nat.zero_le _⟩) hP hD hS hA [0, 1, 2, 3, 4, 5, 6, 7, 8, 9, 10, 11] [] [0, 1, 2, 3, 4, 5, 6, 7, 8, 9, 10, 11] rfl rfl (by decide) (by decide) (by decide) (fun _ => rfl) (fun r_8 _ H locs hw_8 hP hD hS => ?_)
            subst hw_8
            have hP : va_P (dC, dI) vwCl (w_M ad ca d) H := hP
            have hD : va_D A (w_M ad ca d) := hD
            refine wx_cv (wS := fun v : TMd => w_M ad ca v) (ws2 := fun v : TMd => w_M ad ca v) (va_runV (As := [.int (f_Md_valueOf d x2)]) (rest := []) ⟨hx, hb, hml, hown, ht⟩ (hop H.size d (f_Md_valueOf d x2) (ap_opp hc.1 (hc.2.1 c_1).1 c_6)) (cwV 1 ht (tb_V q_583 q_585 q_29 q_47 q_586) rfl rfl rfl p_Md_open ⟨show rf + 1 ≤ rf + 5 by omega, show 8 + (6 + 11) + rl ≤ rl + 113 by omega⟩) (wx_preV (wc := (w_M ad ca d)) hN hK hP hD [0, 1, 2, 3, 4, 5, 6, 7, 8, 9, 10, 11] [0, 1, 2, 3, 4, 5, 6, 7, 8, 9, 10] rfl (by decide) rfl (ci := 4) (q0 := 0) rfl rfl) rfl rfl hl.1 rfl (lv_room (Nat.le_of_ble_eq_true rfl)) d_Md_asked_57 ⟨Nat.zero_le _, Nat.zero_le _⟩) hP hD hS hA [0, 1, 2, 3, 4, 5, 6, 7, 8, 9, 10, 11] [] [0, 1, 2, 3, 4, 5, 6, 7, 8, 9, 10, 11] rfl rfl (by decide) (by decide) (by decide) (fun _ => rfl) (fun v_9 H locs hw_9 hP hD hS => ?_)
            have hP : va_P (dC, dI) vwCl (w_M ad ca v_9) H := hP
            have hD : va_D A (w_M ad ca v_9) := hD
            rw [← hw_9] at he
            try dsimp only at he
            refine lv_goto (tgt := 85) hx hb d_Md_asked_60 (by decide) ?_
            refine lv_aload_n hx hb d_Md_asked_85 rfl (lv_at hl 2 rfl) ?_
            refine wx_ci (wS := fun v : TMd => w_M ad ca v) (ws2 := fun v : TMd => w_M ad ca v) (va_runV (As := []) (rest := []) ⟨hx, hb, hml, hown, ht⟩ (c_Md_need l dC dI ad ca H.size v_9 ⟨(ap_op op k hopm hc.1 (hc.2.1 c_1).1 c_6 (sk_mu hc.2.1 c_1) hw_9).1.1, (ap_op op k hopm hc.1 (hc.2.1 c_1).1 c_6 (sk_mu hc.2.1 c_1) hw_9).1.2.1⟩ _ rfl) (cwV 0 ht (tb_V q_599 q_601 q_33 q_47 q_602) rfl rfl rfl p_Md_need ⟨show 2 + 1 ≤ rf + 5 by omega, show 8 + (2 + 11) + 42 ≤ rl + 113 by omega⟩) (wx_preV (wc := (w_M ad ca v_9)) hN hK hP hD [0, 1, 2, 3, 4, 5, 6, 7, 8, 9, 10, 11] [0, 1, 2, 3, 4, 5, 6, 7, 8, 9, 10] rfl (by decide) rfl (ci := 4) (q0 := 0) rfl rfl) rfl rfl hl.1 rfl (lv_room (Nat.le_of_ble_eq_true rfl)) d_Md_asked_86 ⟨Nat.zero_le _, Nat.zero_le _⟩) hP hD hS hA [0, 1, 2, 3, 4, 5, 6, 7, 8, 9, 10, 11] [] [0, 1, 2, 3, 4, 5, 6, 7, 8, 9, 10, 11] rfl rfl (by decide) (by decide) (by decide) (fun _ => rfl) (fun r_10 v_10 H locs hw_10 hP hD hS => ?_)
            have hP : va_P (dC, dI) vwCl (w_M ad ca v_10) H := hP
            have hD : va_D A (w_M ad ca v_10) := hD
            rw [← hw_10] at he
            try dsimp only at he
            refine lv_istore_n (lv' := [(2, .int r_10), (4, .int 0), (3, .int (f_Md_kindOf d x2)), (0, .ref (ad 16)), (1, .int x1)]) hx hb d_Md_asked_89 rfl hl (by decide) rfl (fun ls hl => ?_)
            refine lv_goto (tgt := 5) hx hb d_Md_asked_90 (by decide) ?_
            exact ih v_10 x1 r_10 (ap_next (ap_op op k hopm hc.1 (hc.2.1 c_1).1 c_6 (sk_mu hc.2.1 c_1) hw_9).1 (ap_op op k hopm hc.1 (hc.2.1 c_1).1 c_6 (sk_mu hc.2.1 c_1) hw_9).2 hw_10) he _ _ hP hD hS _ (lv_sub hl [3, 4, 0] rfl)
        · have he := he.trans (if_neg c_5)
          refine lv_aload_n hx hb d_Md_asked_38 rfl (lv_at hl 2 rfl) ?_
          refine lv_iload_n hx hb d_Md_asked_39 rfl (lv_at hl 4 rfl) ?_
          refine wx_cv (wS := fun v : TMd => w_M ad ca v) (ws2 := fun v : TMd => w_M ad ca v) (va_runV (As := [.int x2]) (rest := []) ⟨hx, hb, hml, hown, ht⟩ (c_Md_goOnWith l dC dI ad ca H.size d x2 ⟨sk_tok hc.2.1 c_1, hc.1.2.1⟩ _ rfl) (cwV 1 ht (tb_V q_579 q_581 q_28 q_47 q_582) rfl rfl rfl p_Md_goOnWith ⟨show 1 + 1 ≤ rf + 5 by omega, show 8 + (2 + 11) + 21 ≤ rl + 113 by omega⟩) (wx_preV (wc := (w_M ad ca d)) hN hK hP hD [0, 1, 2, 3, 4, 5, 6, 7, 8, 9, 10, 11] [0, 1, 2, 3, 4, 5, 6, 7, 8, 9, 10] rfl (by decide) rfl (ci := 4) (q0 := 0) rfl rfl) rfl rfl hl.1 rfl (lv_room (Nat.le_of_ble_eq_true rfl)) d_Md_asked_40 ⟨Nat.zero_le _, Nat.zero_le _⟩) hP hD hS hA [0, 1, 2, 3, 4, 5, 6, 7, 8, 9, 10, 11] [] [0, 1, 2, 3, 4, 5, 6, 7, 8, 9, 10, 11] rfl rfl (by decide) (by decide) (by decide) (fun _ => rfl) (fun v_11 H locs hw_11 hP hD hS => ?_)
          have hP : va_P (dC, dI) vwCl (w_M ad ca v_11) H := hP
          have hD : va_D A (w_M ad ca v_11) := hD
          rw [← hw_11] at he
          try dsimp only at he
          refine lv_goto (tgt := 85) hx hb d_Md_asked_43 (by decide) ?_
          refine lv_aload_n hx hb d_Md_asked_85 rfl (lv_at hl 2 rfl) ?_
          refine wx_ci (wS := fun v : TMd => w_M ad ca v) (ws2 := fun v : TMd => w_M ad ca v) (va_runV (As := []) (rest := []) ⟨hx, hb, hml, hown, ht⟩ (c_Md_need l dC dI ad ca H.size v_11 ⟨(ap_go hc.1 (hc.2.1 c_1).1 (isMac c_5) (sk_mu hc.2.1 c_1) hw_11).1.1, (ap_go hc.1 (hc.2.1 c_1).1 (isMac c_5) (sk_mu hc.2.1 c_1) hw_11).1.2.1⟩ _ rfl) (cwV 0 ht (tb_V q_599 q_601 q_33 q_47 q_602) rfl rfl rfl p_Md_need ⟨show 2 + 1 ≤ rf + 5 by omega, show 8 + (2 + 11) + 42 ≤ rl + 113 by omega⟩) (wx_preV (wc := (w_M ad ca v_11)) hN hK hP hD [0, 1, 2, 3, 4, 5, 6, 7, 8, 9, 10, 11] [0, 1, 2, 3, 4, 5, 6, 7, 8, 9, 10] rfl (by decide) rfl (ci := 4) (q0 := 0) rfl rfl) rfl rfl hl.1 rfl (lv_room (Nat.le_of_ble_eq_true rfl)) d_Md_asked_86 ⟨Nat.zero_le _, Nat.zero_le _⟩) hP hD hS hA [0, 1, 2, 3, 4, 5, 6, 7, 8, 9, 10, 11] [] [0, 1, 2, 3, 4, 5, 6, 7, 8, 9, 10, 11] rfl rfl (by decide) (by decide) (by decide) (fun _ => rfl) (fun r_12 v_12 H locs hw_12 hP hD hS => ?_)
          have hP : va_P (dC, dI) vwCl (w_M ad ca v_12) H := hP
          have hD : va_D A (w_M ad ca v_12) := hD
          rw [← hw_12] at he
          try dsimp only at he
          refine lv_istore_n (lv' := [(2, .int r_12), (4, .int 0), (3, .int (f_Md_kindOf d x2)), (0, .ref (ad 16)), (1, .int x1)]) hx hb d_Md_asked_89 rfl hl (by decide) rfl (fun ls hl => ?_)
          refine lv_goto (tgt := 5) hx hb d_Md_asked_90 (by decide) ?_
          exact ih v_12 x1 r_12 (ap_next (ap_go hc.1 (hc.2.1 c_1).1 (isMac c_5) (sk_mu hc.2.1 c_1) hw_11).1 (ap_go hc.1 (hc.2.1 c_1).1 (isMac c_5) (sk_mu hc.2.1 c_1) hw_11).2 hw_12) he _ _ hP hD hS _ (lv_sub hl [3, 4, 0] rfl)
      · have he := he.trans (if_neg c_3)
        refine lv_iconst (v := 1) hx hb d_Md_asked_23 (by decide) ?_
        refine lv_goto (tgt := 28) hx hb d_Md_asked_24 (by decide) ?_
        refine lv_istore (lv' := [(4, .int 1), (3, .int (f_Md_kindOf d x2)), (0, .ref (ad 16)), (1, .int x1), (2, .int x2)]) hx hb d_Md_asked_28 hl (by decide) rfl (fun ls hl => ?_)
        refine lv_aload_n hx hb d_Md_asked_30 rfl (lv_at hl 2 rfl) ?_
        refine lv_iload_n hx hb d_Md_asked_31 rfl (lv_at hl 4 rfl) ?_
        refine wx_ci (wS := fun _ : Unit => w_M ad ca d) (ws2 := fun _ : Unit => w_M ad ca d) (va_runV (As := [.int x2]) (rest := []) ⟨hx, hb, hml, hown, ht⟩ (c_Md_isMacro l dC dI ad ca H.size d x2 (sk_tok hc.2.1 c_1) _ rfl) (cwV 1 ht (tb_V q_575 q_577 q_27 q_47 q_578) rfl rfl rfl p_Md_isMacro ⟨show 1 + 1 ≤ rf + 5 by omega, show 8 + (2 + 11) + 21 ≤ rl + 113 by omega⟩) (wx_preV (wc := (w_M ad ca d)) hN hK hP hD [0, 1, 2, 3, 4, 5, 6, 7, 8, 9, 10, 11] [0, 1, 2, 3, 4, 5, 6, 7, 8, 9, 10] rfl (by decide) rfl (ci := 4) (q0 := 0) rfl rfl) rfl rfl hl.1 rfl (lv_room (Nat.le_of_ble_eq_true rfl)) d_Md_asked_32 ⟨Nat.zero_le _, Nat.zero_le _⟩) hP hD hS hA [0, 1, 2, 3, 4, 5, 6, 7, 8, 9, 10, 11] [] [0, 1, 2, 3, 4, 5, 6, 7, 8, 9, 10, 11] rfl rfl (by decide) (by decide) (by decide) (fun _ => rfl) (fun r_13 _ H locs hw_13 hP hD hS => ?_)
        subst hw_13
        have hP : va_P (dC, dI) vwCl (w_M ad ca d) H := hP
        have hD : va_D A (w_M ad ca d) := hD
        refine lv_if_eq (tgt := 46) hx hb d_Md_asked_35 (by decide) (fun c_14 => ?_) (fun c_14 => ?_)
        · have he := he.trans (if_pos c_14)
          refine lv_iload_n hx hb d_Md_asked_46 rfl (lv_at hl 1 rfl) ?_
          refine lv_iconst (v := 5) hx hb d_Md_asked_47 (by decide) ?_
          refine lv_icmp_ne (tgt := 63) hx hb d_Md_asked_48 (by decide) (fun c_15 => ?_) (fun c_15 => ?_)
          · have he := he.trans (if_neg c_15)
            refine lv_iload hx hb d_Md_asked_63 (lv_at hl 0 rfl) ?_
            refine lv_if_eq (tgt := 78) hx hb d_Md_asked_65 (by decide) (fun c_16 => ?_) (fun c_16 => ?_)
            · exact absurd c_16 (by decide)
            · refine lv_aload_n hx hb d_Md_asked_68 rfl (lv_at hl 2 rfl) ?_
              refine va_get (D := (dC, dI)) (ci := 4) (v := .int (TMd_open d)) (C := R_Md) (T := T_Md) (N := 23) hx hb ht i_Md hown hK hP 0 rfl rfl 21 (by decide) (ht _ q_466) (fun _ h9 => h9) rfl d_Md_asked_69 ?_
              refine lv_iload_n hx hb d_Md_asked_72 rfl (lv_at hl 3 rfl) ?_
              refine lv_iconst (v := 1) hx hb d_Md_asked_73 (by decide) ?_
              refine lv_iadd hx hb d_Md_asked_74 ?_
              refine lv_icmp_ne (tgt := 80) hx hb d_Md_asked_75 (by decide) (fun c_17 => ?_) (fun c_17 => ?_)
              · have he := he.trans (if_neg c_17)
                refine lv_aload_n hx hb d_Md_asked_80 rfl (lv_at hl 2 rfl) ?_
                refine lv_iload_n hx hb d_Md_asked_81 rfl (lv_at hl 1 rfl) ?_
                refine wx_cv (wS := fun v : TMd => w_M ad ca v) (ws2 := fun v : TMd => w_M ad ca v) (va_runV (As := [.int (f_Md_kindOf d x2)]) (rest := []) ⟨hx, hb, hml, hown, ht⟩ (c_Md_belongs l dC dI ad ca H.size d (f_Md_kindOf d x2) (ap_bp hc.1) _ rfl) (cwV 1 ht (tb_V q_603 q_605 q_34 q_47 q_606) rfl rfl rfl p_Md_belongs ⟨show 4 + 1 ≤ rf + 5 by omega, show 8 + (3 + 11) + 91 ≤ rl + 113 by omega⟩) (wx_preV (wc := (w_M ad ca d)) hN hK hP hD [0, 1, 2, 3, 4, 5, 6, 7, 8, 9, 10, 11] [0, 1, 2, 3, 4, 5, 6, 7, 8, 9, 10] rfl (by decide) rfl (ci := 4) (q0 := 0) rfl rfl) rfl rfl hl.1 rfl (lv_room (Nat.le_of_ble_eq_true rfl)) d_Md_asked_82 ⟨Nat.zero_le _, Nat.zero_le _⟩) hP hD hS hA [0, 1, 2, 3, 4, 5, 6, 7, 8, 9, 10, 11] [] [0, 1, 2, 3, 4, 5, 6, 7, 8, 9, 10, 11] rfl rfl (by decide) (by decide) (by decide) (fun _ => rfl) (fun v_18 H locs hw_18 hP hD hS => ?_)
                have hP : va_P (dC, dI) vwCl (w_M ad ca v_18) H := hP
                have hD : va_D A (w_M ad ca v_18) := hD
                rw [← hw_18] at he
                try dsimp only at he
                refine lv_aload_n hx hb d_Md_asked_85 rfl (lv_at hl 2 rfl) ?_
                refine wx_ci (wS := fun v : TMd => w_M ad ca v) (ws2 := fun v : TMd => w_M ad ca v) (va_runV (As := []) (rest := []) ⟨hx, hb, hml, hown, ht⟩ (c_Md_need l dC dI ad ca H.size v_18 ⟨(ap_bel hc.1 c_17 (sk_mu hc.2.1 c_1) hw_18).1.1, (ap_bel hc.1 c_17 (sk_mu hc.2.1 c_1) hw_18).1.2.1⟩ _ rfl) (cwV 0 ht (tb_V q_599 q_601 q_33 q_47 q_602) rfl rfl rfl p_Md_need ⟨show 2 + 1 ≤ rf + 5 by omega, show 8 + (2 + 11) + 42 ≤ rl + 113 by omega⟩) (wx_preV (wc := (w_M ad ca v_18)) hN hK hP hD [0, 1, 2, 3, 4, 5, 6, 7, 8, 9, 10, 11] [0, 1, 2, 3, 4, 5, 6, 7, 8, 9, 10] rfl (by decide) rfl (ci := 4) (q0 := 0) rfl rfl) rfl rfl hl.1 rfl (lv_room (Nat.le_of_ble_eq_true rfl)) d_Md_asked_86 ⟨Nat.zero_le _, Nat.zero_le _⟩) hP hD hS hA [0, 1, 2, 3, 4, 5, 6, 7, 8, 9, 10, 11] [] [0, 1, 2, 3, 4, 5, 6, 7, 8, 9, 10, 11] rfl rfl (by decide) (by decide) (by decide) (fun _ => rfl) (fun r_19 v_19 H locs hw_19 hP hD hS => ?_)
                have hP : va_P (dC, dI) vwCl (w_M ad ca v_19) H := hP
                have hD : va_D A (w_M ad ca v_19) := hD
                rw [← hw_19] at he
                try dsimp only at he
                refine lv_istore_n (lv' := [(2, .int r_19), (4, .int 1), (3, .int (f_Md_kindOf d x2)), (0, .ref (ad 16)), (1, .int x1)]) hx hb d_Md_asked_89 rfl hl (by decide) rfl (fun ls hl => ?_)
                refine lv_goto (tgt := 5) hx hb d_Md_asked_90 (by decide) ?_
                exact ih v_19 x1 r_19 (ap_next (ap_bel hc.1 c_17 (sk_mu hc.2.1 c_1) hw_18).1 (ap_bel hc.1 c_17 (sk_mu hc.2.1 c_1) hw_18).2 hw_19) he _ _ hP hD hS _ (lv_sub hl [3, 4, 0] rfl)
              · have he := he.trans (if_pos c_17)
                refine lv_iload_n hx hb d_Md_asked_78 rfl (lv_at hl 4 rfl) ?_
                exact W.iret hx hb hr (v := x2) (fun t ht hW => ⟨⟨x2, d, rfl, he.symm, by rw [ht]; exact hP, va_K.moved hW.alike hK, hD⟩, hS.F ht⟩) hS.2.2 d_Md_asked_79
          · have he := he.trans (if_pos c_15)
            refine lv_aload_n hx hb d_Md_asked_51 rfl (lv_at hl 2 rfl) ?_
            refine lv_aload_n hx hb d_Md_asked_52 rfl (lv_at hl 2 rfl) ?_
            refine lv_iload_n hx hb d_Md_asked_53 rfl (lv_at hl 4 rfl) ?_
            refine wx_ci (wS := fun _ : Unit => w_M ad ca d) (ws2 := fun _ : Unit => w_M ad ca d) (va_runV (As := [.int x2]) (rest := [.ref (ad 16)]) ⟨hx, hb, hml, hown, ht⟩ (c_Md_valueOf l dC dI ad ca H.size d x2 (sk_tok hc.2.1 c_1) _ rfl) (cwV 1 ht (tb_V q_559 q_561 q_24 q_47 q_562) rfl rfl rfl p_Md_valueOf ⟨show 0 + 1 ≤ rf + 5 by omega, show 8 + (2 + 11) + 0 ≤ rl + 113 by omega⟩) (wx_preV (wc := (w_M ad ca d)) hN hK hP hD [0, 1, 2, 3, 4, 5, 6, 7, 8, 9, 10, 11] [0, 1, 2, 3, 4, 5, 6, 7, 8, 9, 10] rfl (by decide) rfl (ci := 4) (q0 := 0) rfl rfl) rfl rfl hl.1 rfl (lv_room (Nat.le_of_ble_eq_true rfl)) d_Md_asked_54 ⟨Nat.zero_le _, Nat.zero_le _⟩) hP hD hS hA [0, 1, 2, 3, 4, 5, 6, 7, 8, 9, 10, 11] [] [0, 1, 2, 3, 4, 5, 6, 7, 8, 9, 10, 11] rfl rfl (by decide) (by decide) (by decide) (fun _ => rfl) (fun r_20 _ H locs hw_20 hP hD hS => ?_)
            subst hw_20
            have hP : va_P (dC, dI) vwCl (w_M ad ca d) H := hP
            have hD : va_D A (w_M ad ca d) := hD
            refine wx_cv (wS := fun v : TMd => w_M ad ca v) (ws2 := fun v : TMd => w_M ad ca v) (va_runV (As := [.int (f_Md_valueOf d x2)]) (rest := []) ⟨hx, hb, hml, hown, ht⟩ (hop H.size d (f_Md_valueOf d x2) (ap_opp hc.1 (hc.2.1 c_1).1 c_15)) (cwV 1 ht (tb_V q_583 q_585 q_29 q_47 q_586) rfl rfl rfl p_Md_open ⟨show rf + 1 ≤ rf + 5 by omega, show 8 + (6 + 11) + rl ≤ rl + 113 by omega⟩) (wx_preV (wc := (w_M ad ca d)) hN hK hP hD [0, 1, 2, 3, 4, 5, 6, 7, 8, 9, 10, 11] [0, 1, 2, 3, 4, 5, 6, 7, 8, 9, 10] rfl (by decide) rfl (ci := 4) (q0 := 0) rfl rfl) rfl rfl hl.1 rfl (lv_room (Nat.le_of_ble_eq_true rfl)) d_Md_asked_57 ⟨Nat.zero_le _, Nat.zero_le _⟩) hP hD hS hA [0, 1, 2, 3, 4, 5, 6, 7, 8, 9, 10, 11] [] [0, 1, 2, 3, 4, 5, 6, 7, 8, 9, 10, 11] rfl rfl (by decide) (by decide) (by decide) (fun _ => rfl) (fun v_21 H locs hw_21 hP hD hS => ?_)
            have hP : va_P (dC, dI) vwCl (w_M ad ca v_21) H := hP
            have hD : va_D A (w_M ad ca v_21) := hD
            rw [← hw_21] at he
            try dsimp only at he
            refine lv_goto (tgt := 85) hx hb d_Md_asked_60 (by decide) ?_
            refine lv_aload_n hx hb d_Md_asked_85 rfl (lv_at hl 2 rfl) ?_
            refine wx_ci (wS := fun v : TMd => w_M ad ca v) (ws2 := fun v : TMd => w_M ad ca v) (va_runV (As := []) (rest := []) ⟨hx, hb, hml, hown, ht⟩ (c_Md_need l dC dI ad ca H.size v_21 ⟨(ap_op op k hopm hc.1 (hc.2.1 c_1).1 c_15 (sk_mu hc.2.1 c_1) hw_21).1.1, (ap_op op k hopm hc.1 (hc.2.1 c_1).1 c_15 (sk_mu hc.2.1 c_1) hw_21).1.2.1⟩ _ rfl) (cwV 0 ht (tb_V q_599 q_601 q_33 q_47 q_602) rfl rfl rfl p_Md_need ⟨show 2 + 1 ≤ rf + 5 by omega, show 8 + (2 + 11) + 42 ≤ rl + 113 by omega⟩) (wx_preV (wc := (w_M ad ca v_21)) hN hK hP hD [0, 1, 2, 3, 4, 5, 6, 7, 8, 9, 10, 11] [0, 1, 2, 3, 4, 5, 6, 7, 8, 9, 10] rfl (by decide) rfl (ci := 4) (q0 := 0) rfl rfl) rfl rfl hl.1 rfl (lv_room (Nat.le_of_ble_eq_true rfl)) d_Md_asked_86 ⟨Nat.zero_le _, Nat.zero_le _⟩) hP hD hS hA [0, 1, 2, 3, 4, 5, 6, 7, 8, 9, 10, 11] [] [0, 1, 2, 3, 4, 5, 6, 7, 8, 9, 10, 11] rfl rfl (by decide) (by decide) (by decide) (fun _ => rfl) (fun r_22 v_22 H locs hw_22 hP hD hS => ?_)
            have hP : va_P (dC, dI) vwCl (w_M ad ca v_22) H := hP
            have hD : va_D A (w_M ad ca v_22) := hD
            rw [← hw_22] at he
            try dsimp only at he
            refine lv_istore_n (lv' := [(2, .int r_22), (4, .int 1), (3, .int (f_Md_kindOf d x2)), (0, .ref (ad 16)), (1, .int x1)]) hx hb d_Md_asked_89 rfl hl (by decide) rfl (fun ls hl => ?_)
            refine lv_goto (tgt := 5) hx hb d_Md_asked_90 (by decide) ?_
            exact ih v_22 x1 r_22 (ap_next (ap_op op k hopm hc.1 (hc.2.1 c_1).1 c_15 (sk_mu hc.2.1 c_1) hw_21).1 (ap_op op k hopm hc.1 (hc.2.1 c_1).1 c_15 (sk_mu hc.2.1 c_1) hw_21).2 hw_22) he _ _ hP hD hS _ (lv_sub hl [3, 4, 0] rfl)
        · have he := he.trans (if_neg c_14)
          refine lv_aload_n hx hb d_Md_asked_38 rfl (lv_at hl 2 rfl) ?_
          refine lv_iload_n hx hb d_Md_asked_39 rfl (lv_at hl 4 rfl) ?_
          refine wx_cv (wS := fun v : TMd => w_M ad ca v) (ws2 := fun v : TMd => w_M ad ca v) (va_runV (As := [.int x2]) (rest := []) ⟨hx, hb, hml, hown, ht⟩ (c_Md_goOnWith l dC dI ad ca H.size d x2 ⟨sk_tok hc.2.1 c_1, hc.1.2.1⟩ _ rfl) (cwV 1 ht (tb_V q_579 q_581 q_28 q_47 q_582) rfl rfl rfl p_Md_goOnWith ⟨show 1 + 1 ≤ rf + 5 by omega, show 8 + (2 + 11) + 21 ≤ rl + 113 by omega⟩) (wx_preV (wc := (w_M ad ca d)) hN hK hP hD [0, 1, 2, 3, 4, 5, 6, 7, 8, 9, 10, 11] [0, 1, 2, 3, 4, 5, 6, 7, 8, 9, 10] rfl (by decide) rfl (ci := 4) (q0 := 0) rfl rfl) rfl rfl hl.1 rfl (lv_room (Nat.le_of_ble_eq_true rfl)) d_Md_asked_40 ⟨Nat.zero_le _, Nat.zero_le _⟩) hP hD hS hA [0, 1, 2, 3, 4, 5, 6, 7, 8, 9, 10, 11] [] [0, 1, 2, 3, 4, 5, 6, 7, 8, 9, 10, 11] rfl rfl (by decide) (by decide) (by decide) (fun _ => rfl) (fun v_23 H locs hw_23 hP hD hS => ?_)
          have hP : va_P (dC, dI) vwCl (w_M ad ca v_23) H := hP
          have hD : va_D A (w_M ad ca v_23) := hD
          rw [← hw_23] at he
          try dsimp only at he
          refine lv_goto (tgt := 85) hx hb d_Md_asked_43 (by decide) ?_
          refine lv_aload_n hx hb d_Md_asked_85 rfl (lv_at hl 2 rfl) ?_
          refine wx_ci (wS := fun v : TMd => w_M ad ca v) (ws2 := fun v : TMd => w_M ad ca v) (va_runV (As := []) (rest := []) ⟨hx, hb, hml, hown, ht⟩ (c_Md_need l dC dI ad ca H.size v_23 ⟨(ap_go hc.1 (hc.2.1 c_1).1 (isMac c_14) (sk_mu hc.2.1 c_1) hw_23).1.1, (ap_go hc.1 (hc.2.1 c_1).1 (isMac c_14) (sk_mu hc.2.1 c_1) hw_23).1.2.1⟩ _ rfl) (cwV 0 ht (tb_V q_599 q_601 q_33 q_47 q_602) rfl rfl rfl p_Md_need ⟨show 2 + 1 ≤ rf + 5 by omega, show 8 + (2 + 11) + 42 ≤ rl + 113 by omega⟩) (wx_preV (wc := (w_M ad ca v_23)) hN hK hP hD [0, 1, 2, 3, 4, 5, 6, 7, 8, 9, 10, 11] [0, 1, 2, 3, 4, 5, 6, 7, 8, 9, 10] rfl (by decide) rfl (ci := 4) (q0 := 0) rfl rfl) rfl rfl hl.1 rfl (lv_room (Nat.le_of_ble_eq_true rfl)) d_Md_asked_86 ⟨Nat.zero_le _, Nat.zero_le _⟩) hP hD hS hA [0, 1, 2, 3, 4, 5, 6, 7, 8, 9, 10, 11] [] [0, 1, 2, 3, 4, 5, 6, 7, 8, 9, 10, 11] rfl rfl (by decide) (by decide) (by decide) (fun _ => rfl) (fun r_24 v_24 H locs hw_24 hP hD hS => ?_)
          have hP : va_P (dC, dI) vwCl (w_M ad ca v_24) H := hP
          have hD : va_D A (w_M ad ca v_24) := hD
          rw [← hw_24] at he
          try dsimp only at he
          refine lv_istore_n (lv' := [(2, .int r_24), (4, .int 1), (3, .int (f_Md_kindOf d x2)), (0, .ref (ad 16)), (1, .int x1)]) hx hb d_Md_asked_89 rfl hl (by decide) rfl (fun ls hl => ?_)
          refine lv_goto (tgt := 5) hx hb d_Md_asked_90 (by decide) ?_
          exact ih v_24 x1 r_24 (ap_next (ap_go hc.1 (hc.2.1 c_1).1 (isMac c_14) (sk_mu hc.2.1 c_1) hw_23).1 (ap_go hc.1 (hc.2.1 c_1).1 (isMac c_14) (sk_mu hc.2.1 c_1) hw_23).2 hw_24) he _ _ hP hD hS _ (lv_sub hl [3, 4, 0] rfl)
noncomputable def f_Md_asked (op : TMd → Int32 → TMd) (d : TMd) (p0 : Int32) : (Int32 × TMd) := (match f_Md_need d with | (r_1, v_1) => (f_Md_asked_5 op TM v_1 p0 r_1))
set_option maxHeartbeats 4000000 in
set_option maxRecDepth 100000 in
theorem c_Md_asked (l : Launch) (dC : Nat → ClassId) (dI : Nat → Nat → Nat) (ad : Nat → Nat) (ca : Nat → ClassId) (op : TMd → Int32 → TMd) (rf rl : Nat) (k : Int) (hopm : ∀ (d : TMd) (w : Int32), OPP k d → LVS 0 d (op d w)) (hop : ∀ (sz : Nat) (d : TMd) (w : Int32), OPP k d → wx_Mv l y_Md_open ws_Md_open ({ frames := rf, cells := 0, slots := 0, locals := rl } : Room) (dC, dI) vwCl (t_M ca) [.ref (ad 16), .int w] (w_M ad ca d) sz (fun v : TMd => w_M ad ca v) (fun v : TMd => v = op d w)) (sz : Nat) (d : TMd) (p0 : Int32) (hpre : APk k p0 d) (F : (Int32 × TMd)) (he : F = f_Md_asked op d p0) : wx_Mi l y_Md_asked ws_Md_asked ({ frames := rf + 5, cells := 0, slots := 0, locals := rl + 113 } : Room) (dC, dI) vwCl (t_M ca) [.ref (ad 16), .int p0] (w_M ad ca d) sz (fun v : TMd => w_M ad ca v) (fun (r : Int32) (v : TMd) => (r, v) = F) := by
  refine Met.ofW (cc := b_Md_asked) (maxL := 5) (ret := some .int) (by decide) rfl ?_
  intro p e s m args below meth c s₁ B hml hv
  obtain ⟨rfl, hsz, hP, hK, hD0, hN⟩ := hv
  have hx := B.exec
  have hb := B.bytes
  have hr := B.returns
  have hts := atoms_spec (ws := ws_Md_asked) B.pre
  have ht : ∀ w ∈ TB, w.before _ s = true := fun w h => hts w (List.mem_cons_of_mem _ h)
  have hown : s.vm.findClass R_Md = some m.cls := findClass_of_methodNamed B.named
  have hlocks := B.notSynchronized
  subst hsz
  have hD := hD0.self (sz := s.heap.size)
  generalize hAe : va_A (w_M ad ca d) s.heap.size = A at hD ⊢
  have hA : ∀ q : Nat, s.heap.size ≤ q → A q := fun q h => by rw [← hAe]; exact Or.inr h
  have hS : va_S A s.heap s.heap [] := va_S.rf
  have C0 : wx_C p s m ([.ref (ad 16), .int p0] : List Value).toArray meth c b_Md_asked (some .int) 5 R_Md A (dC, dI) vwCl (t_M ca) := ⟨hx, hb, hr, hml, hown, ht, hlocks, hA, hK, hN⟩
  have hl := lv_entry ([.ref (ad 16), .int p0]) (n := 5) (Nat.le_of_ble_eq_true rfl)
  rw [lg_entry_eq]
  generalize (lg_sl ([.ref (ad 16), .int p0]) ++ List.replicate (5 - (lg_sl ([.ref (ad 16), .int p0])).length) Slot.unset).toArray = ls at hl ⊢
  have hl : lv_has ls 5 [(0, .ref (ad 16)), (1, .int p0)] := hl
  unfold f_Md_asked at he
  refine lv_aload_n hx hb d_Md_asked_0 rfl (lv_at hl 0 rfl) ?_
  refine wx_ci (wS := fun v : TMd => w_M ad ca v) (ws2 := fun v : TMd => w_M ad ca v) (va_runV (As := []) (rest := []) ⟨hx, hb, hml, hown, ht⟩ (c_Md_need l dC dI ad ca s.heap.size d ⟨hpre.1, hpre.2.1⟩ _ rfl) (cwV 0 ht (tb_V q_599 q_601 q_33 q_47 q_602) rfl rfl rfl p_Md_need ⟨show 2 + 1 ≤ rf + 5 by omega, show 8 + (2 + 11) + 42 ≤ rl + 113 by omega⟩) (wx_preV (wc := (w_M ad ca d)) hN hK hP hD [0, 1, 2, 3, 4, 5, 6, 7, 8, 9, 10, 11] [0, 1, 2, 3, 4, 5, 6, 7, 8, 9, 10] rfl (by decide) rfl (ci := 4) (q0 := 0) rfl rfl) rfl rfl hl.1 rfl (lv_room (Nat.le_of_ble_eq_true rfl)) d_Md_asked_1 ⟨Nat.zero_le _, Nat.zero_le _⟩) hP hD hS hA [0, 1, 2, 3, 4, 5, 6, 7, 8, 9, 10, 11] [] [0, 1, 2, 3, 4, 5, 6, 7, 8, 9, 10, 11] rfl rfl (by decide) (by decide) (by decide) (fun _ => rfl) (fun r_1 v_1 H locs hw_1 hP hD hS => ?_)
  have hP : va_P (dC, dI) vwCl (w_M ad ca v_1) H := hP
  have hD : va_D A (w_M ad ca v_1) := hD
  rw [← hw_1] at he
  try dsimp only at he
  refine lv_istore_n (lv' := [(2, .int r_1), (0, .ref (ad 16)), (1, .int p0)]) hx hb d_Md_asked_4 rfl hl (by decide) rfl (fun ls hl => ?_)
  exact k_Md_asked_5 l dC dI ad ca op rf rl k hopm hop C0 F TM v_1 p0 r_1 (ap_next hpre (by have h := mu_0 hpre.2.1; rw [TM_eq]; omega) hw_1) he _ _ hP hD hS _ (lv_sub hl [1, 2, 0] rfl)
