theorem q_5 : Cond.selects R_Rn y_Rn_compareSigns y_Rn_compareSigns ∈ TB := tq 5 (by decide +kernel) rfl
theorem q_9 : Cond.selects R_Rn y_Rn_compareMeanings y_Rn_compareMeanings ∈ TB := tq 9 (by decide +kernel) rfl
theorem q_11 : Cond.selects R_Rn y_Rn_compareNumbers y_Rn_compareNumbers ∈ TB := tq 11 (by decide +kernel) rfl
theorem q_14 : Cond.selects R_Rn y_Rn_askWhetherKnown y_Rn_askWhetherKnown ∈ TB := tq 14 (by decide +kernel) rfl
theorem q_15 : Cond.selects R_Rn y_Rn_askWhetherOn y_Rn_askWhetherOn ∈ TB := tq 15 (by decide +kernel) rfl
theorem q_69 : Cond.fieldLink R_Rn 155 "ConditionText$Book" "modes" "[Z" ∈ TB := tq 69 (by decide +kernel) rfl
theorem q_72 : Cond.fieldLink R_Rn 162 "ConditionText$Book" "files" "[Z" ∈ TB := tq 72 (by decide +kernel) rfl
theorem q_297 : Cond.methodLink R_Rn 139 y_Rn_compareSigns ∈ TB := tq 297 (by decide +kernel) rfl
theorem q_299 : Cond.instanceMethod y_Rn_compareSigns ∈ TB := tq 299 (by decide +kernel) rfl
theorem q_300 : Cond.code y_Rn_compareSigns b_Rn_compareSigns 6 (some .int) ∈ TB := tq 300 (by decide +kernel) rfl
theorem q_326 : Cond.methodLink R_Rn 143 y_Rn_compareMeanings ∈ TB := tq 326 (by decide +kernel) rfl
theorem q_328 : Cond.instanceMethod y_Rn_compareMeanings ∈ TB := tq 328 (by decide +kernel) rfl
theorem q_329 : Cond.code y_Rn_compareMeanings b_Rn_compareMeanings 3 (some .int) ∈ TB := tq 329 (by decide +kernel) rfl
theorem q_340 : Cond.methodLink R_Rn 146 y_Rn_compareNumbers ∈ TB := tq 340 (by decide +kernel) rfl
theorem q_342 : Cond.instanceMethod y_Rn_compareNumbers ∈ TB := tq 342 (by decide +kernel) rfl
theorem q_343 : Cond.code y_Rn_compareNumbers b_Rn_compareNumbers 6 (some .int) ∈ TB := tq 343 (by decide +kernel) rfl
theorem q_365 : Cond.methodLink R_Rn 152 y_Rn_askWhetherKnown ∈ TB := tq 365 (by decide +kernel) rfl
theorem q_367 : Cond.instanceMethod y_Rn_askWhetherKnown ∈ TB := tq 367 (by decide +kernel) rfl
theorem q_368 : Cond.code y_Rn_askWhetherKnown b_Rn_askWhetherKnown 2 (some .int) ∈ TB := tq 368 (by decide +kernel) rfl
theorem q_369 : Cond.methodLink R_Rn 158 y_Rn_askWhetherOn ∈ TB := tq 369 (by decide +kernel) rfl
theorem q_371 : Cond.instanceMethod y_Rn_askWhetherOn ∈ TB := tq 371 (by decide +kernel) rfl
theorem q_372 : Cond.code y_Rn_askWhetherOn b_Rn_askWhetherOn 4 (some .int) ∈ TB := tq 372 (by decide +kernel) rfl
theorem d_Rn_ask_0 : decode b_Rn_ask 0 = .ok (.iload_n 1, 1) := by decide +kernel
theorem d_Rn_ask_1 : decode b_Rn_ask 1 = .ok (.tableswitch 134 0 10 #[59, 59, 74, 79, 85, 93, 95, 97, 103, 108, 121], 59) := by decide +kernel
theorem d_Rn_ask_60 : decode b_Rn_ask 60 = .ok (.aload_n 0, 1) := by decide +kernel
theorem d_Rn_ask_61 : decode b_Rn_ask 61 = .ok (.iload_n 1, 1) := by decide +kernel
theorem d_Rn_ask_62 : decode b_Rn_ask 62 = .ok (.ifCond .ne 7, 3) := by decide +kernel
theorem d_Rn_ask_65 : decode b_Rn_ask 65 = .ok (.iconst 1, 1) := by decide +kernel
theorem d_Rn_ask_66 : decode b_Rn_ask 66 = .ok (.goto 4, 3) := by decide +kernel
theorem d_Rn_ask_69 : decode b_Rn_ask 69 = .ok (.iconst 0, 1) := by decide +kernel
theorem d_Rn_ask_70 : decode b_Rn_ask 70 = .ok (.iload_n 2, 1) := by decide +kernel
theorem d_Rn_ask_71 : decode b_Rn_ask 71 = .ok (.invokevirtual 139, 3) := by decide +kernel
theorem d_Rn_ask_74 : decode b_Rn_ask 74 = .ok (.ireturn, 1) := by decide +kernel
theorem d_Rn_ask_75 : decode b_Rn_ask 75 = .ok (.aload_n 0, 1) := by decide +kernel
theorem d_Rn_ask_76 : decode b_Rn_ask 76 = .ok (.invokevirtual 143, 3) := by decide +kernel
theorem d_Rn_ask_79 : decode b_Rn_ask 79 = .ok (.ireturn, 1) := by decide +kernel
theorem d_Rn_ask_80 : decode b_Rn_ask 80 = .ok (.aload_n 0, 1) := by decide +kernel
theorem d_Rn_ask_81 : decode b_Rn_ask 81 = .ok (.iload_n 2, 1) := by decide +kernel
theorem d_Rn_ask_82 : decode b_Rn_ask 82 = .ok (.invokevirtual 146, 3) := by decide +kernel
theorem d_Rn_ask_85 : decode b_Rn_ask 85 = .ok (.ireturn, 1) := by decide +kernel
theorem d_Rn_ask_86 : decode b_Rn_ask 86 = .ok (.aload_n 0, 1) := by decide +kernel
theorem d_Rn_ask_87 : decode b_Rn_ask 87 = .ok (.iload_n 2, 1) := by decide +kernel
theorem d_Rn_ask_88 : decode b_Rn_ask 88 = .ok (.invokevirtual 149, 3) := by decide +kernel
theorem d_Rn_ask_91 : decode b_Rn_ask 91 = .ok (.iconst 1, 1) := by decide +kernel
theorem d_Rn_ask_92 : decode b_Rn_ask 92 = .ok (.iand, 1) := by decide +kernel
theorem d_Rn_ask_93 : decode b_Rn_ask 93 = .ok (.ireturn, 1) := by decide +kernel
theorem d_Rn_ask_94 : decode b_Rn_ask 94 = .ok (.iconst 1, 1) := by decide +kernel
theorem d_Rn_ask_95 : decode b_Rn_ask 95 = .ok (.ireturn, 1) := by decide +kernel
theorem d_Rn_ask_96 : decode b_Rn_ask 96 = .ok (.iconst 0, 1) := by decide +kernel
theorem d_Rn_ask_97 : decode b_Rn_ask 97 = .ok (.ireturn, 1) := by decide +kernel
theorem d_Rn_ask_98 : decode b_Rn_ask 98 = .ok (.aload_n 0, 1) := by decide +kernel
theorem d_Rn_ask_99 : decode b_Rn_ask 99 = .ok (.iload_n 2, 1) := by decide +kernel
theorem d_Rn_ask_100 : decode b_Rn_ask 100 = .ok (.invokevirtual 149, 3) := by decide +kernel
theorem d_Rn_ask_103 : decode b_Rn_ask 103 = .ok (.ireturn, 1) := by decide +kernel
theorem d_Rn_ask_104 : decode b_Rn_ask 104 = .ok (.aload_n 0, 1) := by decide +kernel
theorem d_Rn_ask_105 : decode b_Rn_ask 105 = .ok (.invokevirtual 152, 3) := by decide +kernel
theorem d_Rn_ask_108 : decode b_Rn_ask 108 = .ok (.ireturn, 1) := by decide +kernel
theorem d_Rn_ask_109 : decode b_Rn_ask 109 = .ok (.aload_n 0, 1) := by decide +kernel
theorem d_Rn_ask_110 : decode b_Rn_ask 110 = .ok (.aload_n 0, 1) := by decide +kernel
theorem d_Rn_ask_111 : decode b_Rn_ask 111 = .ok (.getfield 25, 3) := by decide +kernel
theorem d_Rn_ask_114 : decode b_Rn_ask 114 = .ok (.getfield 155, 3) := by decide +kernel
theorem d_Rn_ask_117 : decode b_Rn_ask 117 = .ok (.iload_n 2, 1) := by decide +kernel
theorem d_Rn_ask_118 : decode b_Rn_ask 118 = .ok (.invokevirtual 158, 3) := by decide +kernel
theorem d_Rn_ask_121 : decode b_Rn_ask 121 = .ok (.ireturn, 1) := by decide +kernel
theorem d_Rn_ask_122 : decode b_Rn_ask 122 = .ok (.aload_n 0, 1) := by decide +kernel
theorem d_Rn_ask_123 : decode b_Rn_ask 123 = .ok (.aload_n 0, 1) := by decide +kernel
theorem d_Rn_ask_124 : decode b_Rn_ask 124 = .ok (.getfield 25, 3) := by decide +kernel
theorem d_Rn_ask_127 : decode b_Rn_ask 127 = .ok (.getfield 162, 3) := by decide +kernel
theorem d_Rn_ask_130 : decode b_Rn_ask 130 = .ok (.iload_n 2, 1) := by decide +kernel
theorem d_Rn_ask_131 : decode b_Rn_ask 131 = .ok (.invokevirtual 158, 3) := by decide +kernel
theorem d_Rn_ask_134 : decode b_Rn_ask 134 = .ok (.ireturn, 1) := by decide +kernel
theorem d_Rn_ask_135 : decode b_Rn_ask 135 = .ok (.iconst 0, 1) := by decide +kernel
theorem d_Rn_ask_136 : decode b_Rn_ask 136 = .ok (.ireturn, 1) := by decide +kernel
noncomputable def f_Rn_ask (op : TBk → TRn → Int32 → TRn) (b : TBk) (u : TRn) (p0 : Int32) (p1 : Int32) : (Int32 × TRn) := (if p0 = 0 then (match f_Rn_compareSigns op b u 1 p1 with | (r_3, v_3) => (r_3, v_3)) else (if p0 = 1 then (match f_Rn_compareSigns op b u 0 p1 with | (r_6, v_6) => (r_6, v_6)) else (if p0 = 2 then (match f_Rn_compareMeanings b u with | (r_8, v_8) => (r_8, v_8)) else (if p0 = 3 then (match f_Rn_compareNumbers op b u p1 with | (r_10, v_10) => (r_10, v_10)) else (if p0 = 4 then (match f_Rn_readNumber op b u p1 with | (r_12, v_12) => ((r_12 &&& 1), v_12)) else (if p0 = 5 then (1, u) else (if p0 = 6 then (0, u) else (if p0 = 7 then (match f_Rn_readNumber op b u p1 with | (r_16, v_16) => (r_16, v_16)) else (if p0 = 8 then (match f_Rn_askWhetherKnown b u with | (r_18, v_18) => (r_18, v_18)) else (if p0 = 9 then (match f_Rn_askWhetherOn_m op b u p1 with | (r_20, v_20) => (r_20, v_20)) else (if p0 = 10 then (match f_Rn_askWhetherOn_e op b u p1 with | (r_22, v_22) => (r_22, v_22)) else (0, u))))))))))))
set_option maxHeartbeats 4000000 in
set_option maxRecDepth 100000 in
theorem c_Rn_ask (l : Launch) (dC : Nat → ClassId) (dI : Nat → Nat → Nat) (ad : Nat → Nat) (ca : Nat → ClassId) (op : TBk → TRn → Int32 → TRn) (rf rl : Nat) (k : Int) (hopm : ∀ (b : TBk) (u : TRn) (w : Int32), k ≤ oc u → oc u ≤ oc (op b u w)) (hop : ∀ (sz : Nat) (b : TBk) (u : TRn) (w : Int32), BkS b ∧ k ≤ oc u → wx_Mv l y_Rn_open ws_Rn_open ({ frames := rf, cells := 0, slots := 0, locals := rl } : Room) (dC, dI) vwCl (t_R ca) [.ref (ad 0), .int w] (w_R ad ca b u) sz (fun v : TRn => w_R ad ca b v) (fun v : TRn => v = op b u w)) (sz : Nat) (b : TBk) (u : TRn) (p0 : Int32) (p1 : Int32) (hpre : BkS b ∧ k ≤ p1.toInt ∧ p1.toInt ≤ oc u) (F : (Int32 × TRn)) (he : F = f_Rn_ask op b u p0 p1) : wx_Mi l y_Rn_ask ws_Rn_ask ({ frames := rf + 10, cells := 0, slots := 0, locals := rl + 233 } : Room) (dC, dI) vwCl (t_R ca) [.ref (ad 0), .int p0, .int p1] (w_R ad ca b u) sz (fun v : TRn => w_R ad ca b v) (fun (r : Int32) (v : TRn) => (r, v) = F) := by
  refine Met.ofW (cc := b_Rn_ask) (maxL := 3) (ret := some .int) (by decide) rfl ?_
  intro p e s m args below meth c s₁ B hml hv
  obtain ⟨rfl, hsz, hP, hK, hD0, hN⟩ := hv
  have hx := B.exec
  have hb := B.bytes
  have hr := B.returns
  have hts := atoms_spec (ws := ws_Rn_ask) B.pre
  have ht : ∀ w ∈ TB, w.before _ s = true := fun w h => hts w (List.mem_cons_of_mem _ h)
  have hown : s.vm.findClass R_Rn = some m.cls := findClass_of_methodNamed B.named
  have hlocks := B.notSynchronized
  subst hsz
  have hD := hD0.self (sz := s.heap.size)
  generalize hAe : va_A (w_R ad ca b u) s.heap.size = A at hD ⊢
  have hA : ∀ q : Nat, s.heap.size ≤ q → A q := fun q h => by rw [← hAe]; exact Or.inr h
  have hS : va_S A s.heap s.heap [] := va_S.rf
  have hl := lv_entry ([.ref (ad 0), .int p0, .int p1]) (n := 3) (Nat.le_of_ble_eq_true rfl)
  rw [lg_entry_eq]
  generalize (lg_sl ([.ref (ad 0), .int p0, .int p1]) ++ List.replicate (3 - (lg_sl ([.ref (ad 0), .int p0, .int p1])).length) Slot.unset).toArray = ls at hl ⊢
  have hl : lv_has ls 3 [(0, .ref (ad 0)), (1, .int p0), (2, .int p1)] := hl
  unfold f_Rn_ask at he
  refine lv_iload_n hx hb d_Rn_ask_0 rfl (lv_at hl 1 rfl) ?_
  rcases Decidable.em (p0 = 0) with c_1 | c_1
  · have he := he.trans (if_pos c_1)
    refine lv_tableIn (off := 59) (tgt := 60) hx hb d_Rn_ask_1 (by rw [c_1]; decide) (by rw [c_1]; decide) (by rw [c_1]; rfl) (by decide) ?_
    refine lv_aload_n hx hb d_Rn_ask_60 rfl (lv_at hl 0 rfl) ?_
    refine lv_iload_n hx hb d_Rn_ask_61 rfl (lv_at hl 1 rfl) ?_
    refine lv_if_ne (tgt := 69) hx hb d_Rn_ask_62 (by decide) (fun c_2 => ?_) (fun c_2 => ?_)
    · exact absurd c_1 c_2
    · refine lv_iconst (v := 1) hx hb d_Rn_ask_65 (by decide) ?_
      refine lv_goto (tgt := 70) hx hb d_Rn_ask_66 (by decide) ?_
      refine lv_iload_n hx hb d_Rn_ask_70 rfl (lv_at hl 2 rfl) ?_
      refine wx_ci (wS := fun v : TRn => w_R ad ca b v) (ws2 := fun v : TRn => w_R ad ca b v) (va_runV (As := [.int 1, .int p1]) (rest := []) ⟨hx, hb, hml, hown, ht⟩ (c_Rn_compareSigns l dC dI ad ca op rf rl k hopm hop s.heap.size b u 1 p1 hpre _ rfl) (cwV 2 ht (tb_V q_297 q_299 q_5 q_44 q_300) rfl rfl rfl p_Rn_compareSigns ⟨show (rf + 8) + 1 ≤ rf + 10 by omega, show 8 + (6 + 11) + (rl + 181) ≤ rl + 233 by omega⟩) (wx_preV (wc := (w_R ad ca b u)) hN hK hP hD [0, 1, 2, 3, 4, 5, 6, 7, 8, 9, 10, 11, 12, 13, 14] [0, 1, 2, 3, 4, 5, 6, 7, 8, 9, 10, 11] rfl (by decide) rfl (ci := 2) (q0 := 0) rfl rfl) rfl rfl hl.1 rfl (lv_room (Nat.le_of_ble_eq_true rfl)) d_Rn_ask_71 ⟨Nat.zero_le _, Nat.zero_le _⟩) hP hD hS hA [0, 1, 2, 3, 4, 5, 6, 7, 8, 9, 10, 11, 12, 13, 14] [] [0, 1, 2, 3, 4, 5, 6, 7, 8, 9, 10, 11, 12, 13, 14] rfl rfl (by decide) (by decide) (by decide) (fun _ => rfl) (fun r_3 v_3 H locs hw_3 hP hD hS => ?_)
      have hP : va_P (dC, dI) vwCl (w_R ad ca b v_3) H := hP
      have hD : va_D A (w_R ad ca b v_3) := hD
      rw [← hw_3] at he
      try dsimp only at he
      exact W.iret hx hb hr (v := r_3) (fun t ht hW => ⟨⟨r_3, v_3, rfl, he.symm, by rw [ht]; exact hP, va_K.moved hW.alike hK, hD⟩, hS.F ht⟩) hS.2.2 d_Rn_ask_74
  · have he := he.trans (if_neg c_1)
    rcases Decidable.em (p0 = 1) with c_4 | c_4
    · have he := he.trans (if_pos c_4)
      refine lv_tableIn (off := 59) (tgt := 60) hx hb d_Rn_ask_1 (by rw [c_4]; decide) (by rw [c_4]; decide) (by rw [c_4]; rfl) (by decide) ?_
      refine lv_aload_n hx hb d_Rn_ask_60 rfl (lv_at hl 0 rfl) ?_
      refine lv_iload_n hx hb d_Rn_ask_61 rfl (lv_at hl 1 rfl) ?_
      refine lv_if_ne (tgt := 69) hx hb d_Rn_ask_62 (by decide) (fun c_5 => ?_) (fun c_5 => ?_)
      · refine lv_iconst (v := 0) hx hb d_Rn_ask_69 (by decide) ?_
        refine lv_iload_n hx hb d_Rn_ask_70 rfl (lv_at hl 2 rfl) ?_
        refine wx_ci (wS := fun v : TRn => w_R ad ca b v) (ws2 := fun v : TRn => w_R ad ca b v) (va_runV (As := [.int 0, .int p1]) (rest := []) ⟨hx, hb, hml, hown, ht⟩ (c_Rn_compareSigns l dC dI ad ca op rf rl k hopm hop s.heap.size b u 0 p1 hpre _ rfl) (cwV 2 ht (tb_V q_297 q_299 q_5 q_44 q_300) rfl rfl rfl p_Rn_compareSigns ⟨show (rf + 8) + 1 ≤ rf + 10 by omega, show 8 + (6 + 11) + (rl + 181) ≤ rl + 233 by omega⟩) (wx_preV (wc := (w_R ad ca b u)) hN hK hP hD [0, 1, 2, 3, 4, 5, 6, 7, 8, 9, 10, 11, 12, 13, 14] [0, 1, 2, 3, 4, 5, 6, 7, 8, 9, 10, 11] rfl (by decide) rfl (ci := 2) (q0 := 0) rfl rfl) rfl rfl hl.1 rfl (lv_room (Nat.le_of_ble_eq_true rfl)) d_Rn_ask_71 ⟨Nat.zero_le _, Nat.zero_le _⟩) hP hD hS hA [0, 1, 2, 3, 4, 5, 6, 7, 8, 9, 10, 11, 12, 13, 14] [] [0, 1, 2, 3, 4, 5, 6, 7, 8, 9, 10, 11, 12, 13, 14] rfl rfl (by decide) (by decide) (by decide) (fun _ => rfl) (fun r_6 v_6 H locs hw_6 hP hD hS => ?_)
        have hP : va_P (dC, dI) vwCl (w_R ad ca b v_6) H := hP
        have hD : va_D A (w_R ad ca b v_6) := hD
        rw [← hw_6] at he
        try dsimp only at he
        exact W.iret hx hb hr (v := r_6) (fun t ht hW => ⟨⟨r_6, v_6, rfl, he.symm, by rw [ht]; exact hP, va_K.moved hW.alike hK, hD⟩, hS.F ht⟩) hS.2.2 d_Rn_ask_74
      · exact absurd c_5 c_1
    · have he := he.trans (if_neg c_4)
      rcases Decidable.em (p0 = 2) with c_7 | c_7
      · have he := he.trans (if_pos c_7)
        refine lv_tableIn (off := 74) (tgt := 75) hx hb d_Rn_ask_1 (by rw [c_7]; decide) (by rw [c_7]; decide) (by rw [c_7]; rfl) (by decide) ?_
        refine lv_aload_n hx hb d_Rn_ask_75 rfl (lv_at hl 0 rfl) ?_
        refine wx_ci (wS := fun v : TRn => w_R ad ca b v) (ws2 := fun v : TRn => w_R ad ca b v) (va_runV (As := []) (rest := []) ⟨hx, hb, hml, hown, ht⟩ (c_Rn_compareMeanings l dC dI ad ca s.heap.size b u hpre.1 _ rfl) (cwV 0 ht (tb_V q_326 q_328 q_9 q_44 q_329) rfl rfl rfl p_Rn_compareMeanings ⟨show 3 + 1 ≤ rf + 10 by omega, show 8 + (3 + 11) + 70 ≤ rl + 233 by omega⟩) (wx_preV (wc := (w_R ad ca b u)) hN hK hP hD [0, 1, 2, 3, 4, 5, 6, 7, 8, 9, 10, 11, 12, 13, 14] [0, 1, 2, 3, 4, 5, 6, 7, 8, 9, 10, 11] rfl (by decide) rfl (ci := 2) (q0 := 0) rfl rfl) rfl rfl hl.1 rfl (lv_room (Nat.le_of_ble_eq_true rfl)) d_Rn_ask_76 ⟨Nat.zero_le _, Nat.zero_le _⟩) hP hD hS hA [0, 1, 2, 3, 4, 5, 6, 7, 8, 9, 10, 11, 12, 13, 14] [] [0, 1, 2, 3, 4, 5, 6, 7, 8, 9, 10, 11, 12, 13, 14] rfl rfl (by decide) (by decide) (by decide) (fun _ => rfl) (fun r_8 v_8 H locs hw_8 hP hD hS => ?_)
        have hP : va_P (dC, dI) vwCl (w_R ad ca b v_8) H := hP
        have hD : va_D A (w_R ad ca b v_8) := hD
        rw [← hw_8] at he
        try dsimp only at he
        exact W.iret hx hb hr (v := r_8) (fun t ht hW => ⟨⟨r_8, v_8, rfl, he.symm, by rw [ht]; exact hP, va_K.moved hW.alike hK, hD⟩, hS.F ht⟩) hS.2.2 d_Rn_ask_79
      · have he := he.trans (if_neg c_7)
        rcases Decidable.em (p0 = 3) with c_9 | c_9
        · have he := he.trans (if_pos c_9)
          refine lv_tableIn (off := 79) (tgt := 80) hx hb d_Rn_ask_1 (by rw [c_9]; decide) (by rw [c_9]; decide) (by rw [c_9]; rfl) (by decide) ?_
          refine lv_aload_n hx hb d_Rn_ask_80 rfl (lv_at hl 0 rfl) ?_
          refine lv_iload_n hx hb d_Rn_ask_81 rfl (lv_at hl 2 rfl) ?_
          refine wx_ci (wS := fun v : TRn => w_R ad ca b v) (ws2 := fun v : TRn => w_R ad ca b v) (va_runV (As := [.int p1]) (rest := []) ⟨hx, hb, hml, hown, ht⟩ (c_Rn_compareNumbers l dC dI ad ca op rf rl k hopm hop s.heap.size b u p1 hpre _ rfl) (cwV 1 ht (tb_V q_340 q_342 q_11 q_44 q_343) rfl rfl rfl p_Rn_compareNumbers ⟨show (rf + 9) + 1 ≤ rf + 10 by omega, show 8 + (6 + 11) + (rl + 208) ≤ rl + 233 by omega⟩) (wx_preV (wc := (w_R ad ca b u)) hN hK hP hD [0, 1, 2, 3, 4, 5, 6, 7, 8, 9, 10, 11, 12, 13, 14] [0, 1, 2, 3, 4, 5, 6, 7, 8, 9, 10, 11] rfl (by decide) rfl (ci := 2) (q0 := 0) rfl rfl) rfl rfl hl.1 rfl (lv_room (Nat.le_of_ble_eq_true rfl)) d_Rn_ask_82 ⟨Nat.zero_le _, Nat.zero_le _⟩) hP hD hS hA [0, 1, 2, 3, 4, 5, 6, 7, 8, 9, 10, 11, 12, 13, 14] [] [0, 1, 2, 3, 4, 5, 6, 7, 8, 9, 10, 11, 12, 13, 14] rfl rfl (by decide) (by decide) (by decide) (fun _ => rfl) (fun r_10 v_10 H locs hw_10 hP hD hS => ?_)
          have hP : va_P (dC, dI) vwCl (w_R ad ca b v_10) H := hP
          have hD : va_D A (w_R ad ca b v_10) := hD
          rw [← hw_10] at he
          try dsimp only at he
          exact W.iret hx hb hr (v := r_10) (fun t ht hW => ⟨⟨r_10, v_10, rfl, he.symm, by rw [ht]; exact hP, va_K.moved hW.alike hK, hD⟩, hS.F ht⟩) hS.2.2 d_Rn_ask_85
        · have he := he.trans (if_neg c_9)
          rcases Decidable.em (p0 = 4) with c_11 | c_11
          · have he := he.trans (if_pos c_11)
            refine lv_tableIn (off := 85) (tgt := 86) hx hb d_Rn_ask_1 (by rw [c_11]; decide) (by rw [c_11]; decide) (by rw [c_11]; rfl) (by decide) ?_
            refine lv_aload_n hx hb d_Rn_ask_86 rfl (lv_at hl 0 rfl) ?_
            refine lv_iload_n hx hb d_Rn_ask_87 rfl (lv_at hl 2 rfl) ?_
            refine wx_ci (wS := fun v : TRn => w_R ad ca b v) (ws2 := fun v : TRn => w_R ad ca b v) (va_runV (As := [.int p1]) (rest := []) ⟨hx, hb, hml, hown, ht⟩ (c_Rn_readNumber l dC dI ad ca op rf rl k hopm hop s.heap.size b u p1 hpre _ rfl) (cwV 1 ht (tb_V q_344 q_346 q_12 q_44 q_347) rfl rfl rfl p_Rn_readNumber ⟨show (rf + 8) + 1 ≤ rf + 10 by omega, show 8 + (5 + 11) + (rl + 184) ≤ rl + 233 by omega⟩) (wx_preV (wc := (w_R ad ca b u)) hN hK hP hD [0, 1, 2, 3, 4, 5, 6, 7, 8, 9, 10, 11, 12, 13, 14] [0, 1, 2, 3, 4, 5, 6, 7, 8, 9, 10, 11] rfl (by decide) rfl (ci := 2) (q0 := 0) rfl rfl) rfl rfl hl.1 rfl (lv_room (Nat.le_of_ble_eq_true rfl)) d_Rn_ask_88 ⟨Nat.zero_le _, Nat.zero_le _⟩) hP hD hS hA [0, 1, 2, 3, 4, 5, 6, 7, 8, 9, 10, 11, 12, 13, 14] [] [0, 1, 2, 3, 4, 5, 6, 7, 8, 9, 10, 11, 12, 13, 14] rfl rfl (by decide) (by decide) (by decide) (fun _ => rfl) (fun r_12 v_12 H locs hw_12 hP hD hS => ?_)
            have hP : va_P (dC, dI) vwCl (w_R ad ca b v_12) H := hP
            have hD : va_D A (w_R ad ca b v_12) := hD
            rw [← hw_12] at he
            try dsimp only at he
            refine lv_iconst (v := 1) hx hb d_Rn_ask_91 (by decide) ?_
            refine lv_iand hx hb d_Rn_ask_92 ?_
            exact W.iret hx hb hr (v := (r_12 &&& 1)) (fun t ht hW => ⟨⟨(r_12 &&& 1), v_12, rfl, he.symm, by rw [ht]; exact hP, va_K.moved hW.alike hK, hD⟩, hS.F ht⟩) hS.2.2 d_Rn_ask_93
          · have he := he.trans (if_neg c_11)
            rcases Decidable.em (p0 = 5) with c_13 | c_13
            · have he := he.trans (if_pos c_13)
              refine lv_tableIn (off := 93) (tgt := 94) hx hb d_Rn_ask_1 (by rw [c_13]; decide) (by rw [c_13]; decide) (by rw [c_13]; rfl) (by decide) ?_
              refine lv_iconst (v := 1) hx hb d_Rn_ask_94 (by decide) ?_
              exact W.iret hx hb hr (v := 1) (fun t ht hW => ⟨⟨1, u, rfl, he.symm, by rw [ht]; exact hP, va_K.moved hW.alike hK, hD⟩, hS.F ht⟩) hS.2.2 d_Rn_ask_95
            · have he := he.trans (if_neg c_13)
              rcases Decidable.em (p0 = 6) with c_14 | c_14
              · have he := he.trans (if_pos c_14)
                refine lv_tableIn (off := 95) (tgt := 96) hx hb d_Rn_ask_1 (by rw [c_14]; decide) (by rw [c_14]; decide) (by rw [c_14]; rfl) (by decide) ?_
                refine lv_iconst (v := 0) hx hb d_Rn_ask_96 (by decide) ?_
                exact W.iret hx hb hr (v := 0) (fun t ht hW => ⟨⟨0, u, rfl, he.symm, by rw [ht]; exact hP, va_K.moved hW.alike hK, hD⟩, hS.F ht⟩) hS.2.2 d_Rn_ask_97
              · have he := he.trans (if_neg c_14)
                rcases Decidable.em (p0 = 7) with c_15 | c_15
                · have he := he.trans (if_pos c_15)
                  refine lv_tableIn (off := 97) (tgt := 98) hx hb d_Rn_ask_1 (by rw [c_15]; decide) (by rw [c_15]; decide) (by rw [c_15]; rfl) (by decide) ?_
                  refine lv_aload_n hx hb d_Rn_ask_98 rfl (lv_at hl 0 rfl) ?_
                  refine lv_iload_n hx hb d_Rn_ask_99 rfl (lv_at hl 2 rfl) ?_
                  refine wx_ci (wS := fun v : TRn => w_R ad ca b v) (ws2 := fun v : TRn => w_R ad ca b v) (va_runV (As := [.int p1]) (rest := []) ⟨hx, hb, hml, hown, ht⟩ (c_Rn_readNumber l dC dI ad ca op rf rl k hopm hop s.heap.size b u p1 hpre _ rfl) (cwV 1 ht (tb_V q_344 q_346 q_12 q_44 q_347) rfl rfl rfl p_Rn_readNumber ⟨show (rf + 8) + 1 ≤ rf + 10 by omega, show 8 + (5 + 11) + (rl + 184) ≤ rl + 233 by omega⟩) (wx_preV (wc := (w_R ad ca b u)) hN hK hP hD [0, 1, 2, 3, 4, 5, 6, 7, 8, 9, 10, 11, 12, 13, 14] [0, 1, 2, 3, 4, 5, 6, 7, 8, 9, 10, 11] rfl (by decide) rfl (ci := 2) (q0 := 0) rfl rfl) rfl rfl hl.1 rfl (lv_room (Nat.le_of_ble_eq_true rfl)) d_Rn_ask_100 ⟨Nat.zero_le _, Nat.zero_le _⟩) hP hD hS hA [0, 1, 2, 3, 4, 5, 6, 7, 8, 9, 10, 11, 12, 13, 14] [] [0, 1, 2, 3, 4, 5, 6, 7, 8, 9, 10, 11, 12, 13, 14] rfl rfl (by decide) (by decide) (by decide) (fun _ => rfl) (fun r_16 v_16 H locs hw_16 hP hD hS => ?_)
                  have hP : va_P (dC, dI) vwCl (w_R ad ca b v_16) H := hP
                  have hD : va_D A (w_R ad ca b v_16) := hD
                  rw [← hw_16] at he
                  try dsimp only at he
                  exact W.iret hx hb hr (v := r_16) (fun t ht hW => ⟨⟨r_16, v_16, rfl, he.symm, by rw [ht]; exact hP, va_K.moved hW.alike hK, hD⟩, hS.F ht⟩) hS.2.2 d_Rn_ask_103
                · have he := he.trans (if_neg c_15)
                  rcases Decidable.em (p0 = 8) with c_17 | c_17
                  · have he := he.trans (if_pos c_17)
                    refine lv_tableIn (off := 103) (tgt := 104) hx hb d_Rn_ask_1 (by rw [c_17]; decide) (by rw [c_17]; decide) (by rw [c_17]; rfl) (by decide) ?_
                    refine lv_aload_n hx hb d_Rn_ask_104 rfl (lv_at hl 0 rfl) ?_
                    refine wx_ci (wS := fun v : TRn => w_R ad ca b v) (ws2 := fun v : TRn => w_R ad ca b v) (va_runV (As := []) (rest := []) ⟨hx, hb, hml, hown, ht⟩ (c_Rn_askWhetherKnown l dC dI ad ca s.heap.size b u hpre.1 _ rfl) (cwV 0 ht (tb_V q_365 q_367 q_14 q_44 q_368) rfl rfl rfl p_Rn_askWhetherKnown ⟨show 3 + 1 ≤ rf + 10 by omega, show 8 + (2 + 11) + 65 ≤ rl + 233 by omega⟩) (wx_preV (wc := (w_R ad ca b u)) hN hK hP hD [0, 1, 2, 3, 4, 5, 6, 7, 8, 9, 10, 11, 12, 13, 14] [0, 1, 2, 3, 4, 5, 6, 7, 8, 9, 10, 11] rfl (by decide) rfl (ci := 2) (q0 := 0) rfl rfl) rfl rfl hl.1 rfl (lv_room (Nat.le_of_ble_eq_true rfl)) d_Rn_ask_105 ⟨Nat.zero_le _, Nat.zero_le _⟩) hP hD hS hA [0, 1, 2, 3, 4, 5, 6, 7, 8, 9, 10, 11, 12, 13, 14] [] [0, 1, 2, 3, 4, 5, 6, 7, 8, 9, 10, 11, 12, 13, 14] rfl rfl (by decide) (by decide) (by decide) (fun _ => rfl) (fun r_18 v_18 H locs hw_18 hP hD hS => ?_)
                    have hP : va_P (dC, dI) vwCl (w_R ad ca b v_18) H := hP
                    have hD : va_D A (w_R ad ca b v_18) := hD
                    rw [← hw_18] at he
                    try dsimp only at he
                    exact W.iret hx hb hr (v := r_18) (fun t ht hW => ⟨⟨r_18, v_18, rfl, he.symm, by rw [ht]; exact hP, va_K.moved hW.alike hK, hD⟩, hS.F ht⟩) hS.2.2 d_Rn_ask_108
                  · have he := he.trans (if_neg c_17)
                    rcases Decidable.em (p0 = 9) with c_19 | c_19
                    · have he := he.trans (if_pos c_19)
                      refine lv_tableIn (off := 108) (tgt := 109) hx hb d_Rn_ask_1 (by rw [c_19]; decide) (by rw [c_19]; decide) (by rw [c_19]; rfl) (by decide) ?_
                      refine lv_aload_n hx hb d_Rn_ask_109 rfl (lv_at hl 0 rfl) ?_
                      refine lv_aload_n hx hb d_Rn_ask_110 rfl (lv_at hl 0 rfl) ?_
                      refine va_get (D := (dC, dI)) (ci := 2) (v := .ref (ad 8)) (C := R_Rn) (T := T_Rn) (N := 12) hx hb ht i_Rn hown hK hP 0 rfl rfl 0 (by decide) (ht _ q_130) (fun _ h9 => h9) rfl d_Rn_ask_111 ?_
                      refine va_get (D := (dC, dI)) (ci := 0) (v := .ref (ad 13)) (C := R_Bk) (T := T_Bk) (N := 7) hx hb ht i_Bk hown hK hP 8 rfl rfl 4 (by decide) (ht _ q_69) (fun _ h9 => h9) rfl d_Rn_ask_114 ?_
                      refine lv_iload_n hx hb d_Rn_ask_117 rfl (lv_at hl 2 rfl) ?_
                      refine wx_ci (wS := fun v : TRn => w_R ad ca b v) (ws2 := fun v : TRn => w_R ad ca b v) (va_runV (As := [.ref (ad 13), .int p1]) (rest := []) ⟨hx, hb, hml, hown, ht⟩ (c_Rn_askWhetherOn_m l dC dI ad ca op rf rl k hopm hop s.heap.size b u p1 hpre _ rfl) (cwV 2 ht (tb_V q_369 q_371 q_15 q_44 q_372) rfl rfl rfl p_Rn_askWhetherOn ⟨show (rf + 9) + 1 ≤ rf + 10 by omega, show 8 + (4 + 11) + (rl + 208) ≤ rl + 233 by omega⟩) (wx_preV (wc := (w_R ad ca b u)) hN hK hP hD [0, 1, 2, 3, 4, 5, 6, 7, 8, 9, 10, 11, 12, 13, 14] [0, 1, 2, 3, 4, 5, 6, 7, 8, 9, 10, 11] rfl (by decide) rfl (ci := 2) (q0 := 0) rfl rfl) rfl rfl hl.1 rfl (lv_room (Nat.le_of_ble_eq_true rfl)) d_Rn_ask_118 ⟨Nat.zero_le _, Nat.zero_le _⟩) hP hD hS hA [0, 1, 2, 3, 4, 5, 6, 7, 8, 9, 10, 11, 12, 13, 14] [] [0, 1, 2, 3, 4, 5, 6, 7, 8, 9, 10, 11, 12, 13, 14] rfl rfl (by decide) (by decide) (by decide) (fun _ => rfl) (fun r_20 v_20 H locs hw_20 hP hD hS => ?_)
                      have hP : va_P (dC, dI) vwCl (w_R ad ca b v_20) H := hP
                      have hD : va_D A (w_R ad ca b v_20) := hD
                      rw [← hw_20] at he
                      try dsimp only at he
                      exact W.iret hx hb hr (v := r_20) (fun t ht hW => ⟨⟨r_20, v_20, rfl, he.symm, by rw [ht]; exact hP, va_K.moved hW.alike hK, hD⟩, hS.F ht⟩) hS.2.2 d_Rn_ask_121
                    · have he := he.trans (if_neg c_19)
                      rcases Decidable.em (p0 = 10) with c_21 | c_21
                      · have he := he.trans (if_pos c_21)
                        refine lv_tableIn (off := 121) (tgt := 122) hx hb d_Rn_ask_1 (by rw [c_21]; decide) (by rw [c_21]; decide) (by rw [c_21]; rfl) (by decide) ?_
                        refine lv_aload_n hx hb d_Rn_ask_122 rfl (lv_at hl 0 rfl) ?_
                        refine lv_aload_n hx hb d_Rn_ask_123 rfl (lv_at hl 0 rfl) ?_
                        refine va_get (D := (dC, dI)) (ci := 2) (v := .ref (ad 8)) (C := R_Rn) (T := T_Rn) (N := 12) hx hb ht i_Rn hown hK hP 0 rfl rfl 0 (by decide) (ht _ q_130) (fun _ h9 => h9) rfl d_Rn_ask_124 ?_
                        refine va_get (D := (dC, dI)) (ci := 0) (v := .ref (ad 14)) (C := R_Bk) (T := T_Bk) (N := 7) hx hb ht i_Bk hown hK hP 8 rfl rfl 5 (by decide) (ht _ q_72) (fun _ h9 => h9) rfl d_Rn_ask_127 ?_
                        refine lv_iload_n hx hb d_Rn_ask_130 rfl (lv_at hl 2 rfl) ?_
                        refine wx_ci (wS := fun v : TRn => w_R ad ca b v) (ws2 := fun v : TRn => w_R ad ca b v) (va_runV (As := [.ref (ad 14), .int p1]) (rest := []) ⟨hx, hb, hml, hown, ht⟩ (c_Rn_askWhetherOn_e l dC dI ad ca op rf rl k hopm hop s.heap.size b u p1 hpre _ rfl) (cwV 2 ht (tb_V q_369 q_371 q_15 q_44 q_372) rfl rfl rfl p_Rn_askWhetherOn ⟨show (rf + 9) + 1 ≤ rf + 10 by omega, show 8 + (4 + 11) + (rl + 208) ≤ rl + 233 by omega⟩) (wx_preV (wc := (w_R ad ca b u)) hN hK hP hD [0, 1, 2, 3, 4, 5, 6, 7, 8, 9, 10, 11, 12, 13, 14] [0, 1, 2, 3, 4, 5, 6, 7, 8, 9, 10, 11] rfl (by decide) rfl (ci := 2) (q0 := 0) rfl rfl) rfl rfl hl.1 rfl (lv_room (Nat.le_of_ble_eq_true rfl)) d_Rn_ask_131 ⟨Nat.zero_le _, Nat.zero_le _⟩) hP hD hS hA [0, 1, 2, 3, 4, 5, 6, 7, 8, 9, 10, 11, 12, 13, 14] [] [0, 1, 2, 3, 4, 5, 6, 7, 8, 9, 10, 11, 12, 13, 14] rfl rfl (by decide) (by decide) (by decide) (fun _ => rfl) (fun r_22 v_22 H locs hw_22 hP hD hS => ?_)
                        have hP : va_P (dC, dI) vwCl (w_R ad ca b v_22) H := hP
                        have hD : va_D A (w_R ad ca b v_22) := hD
                        rw [← hw_22] at he
                        try dsimp only at he
                        exact W.iret hx hb hr (v := r_22) (fun t ht hW => ⟨⟨r_22, v_22, rfl, he.symm, by rw [ht]; exact hP, va_K.moved hW.alike hK, hD⟩, hS.F ht⟩) hS.2.2 d_Rn_ask_134
                      · have he := he.trans (if_neg c_21)
                        have ec_1 := lv_neT (a := 0) c_1 (by decide)
                        have ec_4 := lv_neT (a := 1) c_4 (by decide)
                        have ec_7 := lv_neT (a := 2) c_7 (by decide)
                        have ec_9 := lv_neT (a := 3) c_9 (by decide)
                        have ec_11 := lv_neT (a := 4) c_11 (by decide)
                        have ec_13 := lv_neT (a := 5) c_13 (by decide)
                        have ec_14 := lv_neT (a := 6) c_14 (by decide)
                        have ec_15 := lv_neT (a := 7) c_15 (by decide)
                        have ec_17 := lv_neT (a := 8) c_17 (by decide)
                        have ec_19 := lv_neT (a := 9) c_19 (by decide)
                        have ec_21 := lv_neT (a := 10) c_21 (by decide)
                        refine lv_tableOut (tgt := 135) hx hb d_Rn_ask_1 (by omega) (by decide) ?_
                        refine lv_iconst (v := 0) hx hb d_Rn_ask_135 (by decide) ?_
                        exact W.iret hx hb hr (v := 0) (fun t ht hW => ⟨⟨0, u, rfl, he.symm, by rw [ht]; exact hP, va_K.moved hW.alike hK, hD⟩, hS.F ht⟩) hS.2.2 d_Rn_ask_136
