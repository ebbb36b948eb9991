theorem q_262 : Cond.instanceMethod y_Bk_tokenIn ∈ TB := tq 262 (by decide +kernel) rfl
theorem q_263 : Cond.selects R_Bk y_Bk_tokenIn y_Bk_tokenIn ∈ TB := tq 263 (by decide +kernel) rfl
theorem q_264 : Cond.code y_Bk_tokenIn b_Bk_tokenIn 4 (some .int) ∈ TB := tq 264 (by decide +kernel) rfl
theorem q_339 : Cond.methodLink R_Bk 56 y_Bk_tokenIn ∈ TB := tq 339 (by decide +kernel) rfl
theorem d_Bk_haveTheSameTokens_0 : decode b_Bk_haveTheSameTokens 0 = .ok (.aload_n 0, 1) := by decide +kernel
theorem d_Bk_haveTheSameTokens_1 : decode b_Bk_haveTheSameTokens 1 = .ok (.iload_n 1, 1) := by decide +kernel
theorem d_Bk_haveTheSameTokens_2 : decode b_Bk_haveTheSameTokens 2 = .ok (.invokevirtual 35, 3) := by decide +kernel
theorem d_Bk_haveTheSameTokens_5 : decode b_Bk_haveTheSameTokens 5 = .ok (.istore_n 3, 1) := by decide +kernel
theorem d_Bk_haveTheSameTokens_6 : decode b_Bk_haveTheSameTokens 6 = .ok (.iload_n 3, 1) := by decide +kernel
theorem d_Bk_haveTheSameTokens_7 : decode b_Bk_haveTheSameTokens 7 = .ok (.aload_n 0, 1) := by decide +kernel
theorem d_Bk_haveTheSameTokens_8 : decode b_Bk_haveTheSameTokens 8 = .ok (.iload_n 2, 1) := by decide +kernel
theorem d_Bk_haveTheSameTokens_9 : decode b_Bk_haveTheSameTokens 9 = .ok (.invokevirtual 35, 3) := by decide +kernel
theorem d_Bk_haveTheSameTokens_12 : decode b_Bk_haveTheSameTokens 12 = .ok (.if_icmp .eq 5, 3) := by decide +kernel
theorem d_Bk_haveTheSameTokens_15 : decode b_Bk_haveTheSameTokens 15 = .ok (.iconst 0, 1) := by decide +kernel
theorem d_Bk_haveTheSameTokens_16 : decode b_Bk_haveTheSameTokens 16 = .ok (.ireturn, 1) := by decide +kernel
theorem d_Bk_haveTheSameTokens_17 : decode b_Bk_haveTheSameTokens 17 = .ok (.iconst 0, 1) := by decide +kernel
theorem d_Bk_haveTheSameTokens_18 : decode b_Bk_haveTheSameTokens 18 = .ok (.istore 4, 2) := by decide +kernel
theorem d_Bk_haveTheSameTokens_20 : decode b_Bk_haveTheSameTokens 20 = .ok (.iload 4, 2) := by decide +kernel
theorem d_Bk_haveTheSameTokens_22 : decode b_Bk_haveTheSameTokens 22 = .ok (.iload_n 3, 1) := by decide +kernel
theorem d_Bk_haveTheSameTokens_23 : decode b_Bk_haveTheSameTokens 23 = .ok (.if_icmp .ge 28, 3) := by decide +kernel
theorem d_Bk_haveTheSameTokens_26 : decode b_Bk_haveTheSameTokens 26 = .ok (.aload_n 0, 1) := by decide +kernel
theorem d_Bk_haveTheSameTokens_27 : decode b_Bk_haveTheSameTokens 27 = .ok (.iload_n 1, 1) := by decide +kernel
theorem d_Bk_haveTheSameTokens_28 : decode b_Bk_haveTheSameTokens 28 = .ok (.iload 4, 2) := by decide +kernel
theorem d_Bk_haveTheSameTokens_30 : decode b_Bk_haveTheSameTokens 30 = .ok (.invokevirtual 56, 3) := by decide +kernel
theorem d_Bk_haveTheSameTokens_33 : decode b_Bk_haveTheSameTokens 33 = .ok (.aload_n 0, 1) := by decide +kernel
theorem d_Bk_haveTheSameTokens_34 : decode b_Bk_haveTheSameTokens 34 = .ok (.iload_n 2, 1) := by decide +kernel
theorem d_Bk_haveTheSameTokens_35 : decode b_Bk_haveTheSameTokens 35 = .ok (.iload 4, 2) := by decide +kernel
theorem d_Bk_haveTheSameTokens_37 : decode b_Bk_haveTheSameTokens 37 = .ok (.invokevirtual 56, 3) := by decide +kernel
theorem d_Bk_haveTheSameTokens_40 : decode b_Bk_haveTheSameTokens 40 = .ok (.if_icmp .eq 5, 3) := by decide +kernel
theorem d_Bk_haveTheSameTokens_43 : decode b_Bk_haveTheSameTokens 43 = .ok (.iconst 0, 1) := by decide +kernel
theorem d_Bk_haveTheSameTokens_44 : decode b_Bk_haveTheSameTokens 44 = .ok (.ireturn, 1) := by decide +kernel
theorem d_Bk_haveTheSameTokens_45 : decode b_Bk_haveTheSameTokens 45 = .ok (.iinc 4 1, 3) := by decide +kernel
theorem d_Bk_haveTheSameTokens_48 : decode b_Bk_haveTheSameTokens 48 = .ok (.goto (-28), 3) := by decide +kernel
theorem d_Bk_haveTheSameTokens_51 : decode b_Bk_haveTheSameTokens 51 = .ok (.iconst 1, 1) := by decide +kernel
theorem d_Bk_haveTheSameTokens_52 : decode b_Bk_haveTheSameTokens 52 = .ok (.ireturn, 1) := by decide +kernel
def f_Bk_haveTheSameTokens_20 : Nat → TBk → Int32 → Int32 → Int32 → Int32 → Int32
  | 0, _, _, _, _, _ => 0
  | n + 1, b, x1, x2, x3, x4 => (if x3 ≤ x4 then 1 else (if (f_Bk_tokenIn b x1 x4) = (f_Bk_tokenIn b x2 x4) then (f_Bk_haveTheSameTokens_20 n b x1 x2 x3 (x4 + 1)) else 0))
set_option maxHeartbeats 4000000 in
set_option maxRecDepth 100000 in
theorem k_Bk_haveTheSameTokens_20 {p : Program} {e : Env} {s : State} {m : MethodId} {args : Array Value} {below : List Frame} {meth : Method} {c : Code} {A : Nat → Prop} (l : Launch) (dC : Nat → ClassId) (dI : Nat → Nat → Nat) (ad : Nat → Nat) (ca : Nat → ClassId) (C0 : wx_C p s m args meth c b_Bk_haveTheSameTokens (some .boolean) 5 R_Bk A (dC, dI) vwCl (t_B ca)) (F : Int32) : ∀ (n : Nat) (b : TBk) (x1 : Int32) (x2 : Int32) (x3 : Int32) (x4 : Int32), (BkS b) → (TLn x3.toInt x4 n) → F = f_Bk_haveTheSameTokens_20 n b x1 x2 x3 x4 → ∀ (H : Heap) (locs : List Loc), va_P (dC, dI) vwCl (w_B ad ca b) H → va_D A (w_B ad ca b) → va_S A s.heap H locs → ∀ (ls : Array Slot), lv_has ls 5 [(0, .ref (ad 8)), (1, .int x1), (2, .int x2), (3, .int x3), (4, .int x4)] → W p l e ({ frames := 1, cells := 0, slots := 0, locals := 23 } : Room) s m args below meth c H locs 0 0 (MQ below (va_Qi (fun (r : Int32) (_ : Unit) => r = F) (wx_B (dC, dI) vwCl (t_B ca) (fun _ : Unit => w_B ad ca b) A) A) args s 0 0 A) (F0 m 20 ls []) := by
  have C1 := C0
  obtain ⟨hx, hb, hr, hml, hown, ht, hlocks, hA, hK, hN⟩ := C1
  intro n
  induction n with
  | zero =>
    intro b x1 x2 x3 x4 hpre hc he
    exact absurd hc (fun h => TLn_0 h)
  | succ n ih =>
    intro b x1 x2 x3 x4 hpre hc he H locs hP hD hS ls hl
    rw [f_Bk_haveTheSameTokens_20] at he
    refine lv_iload hx hb d_Bk_haveTheSameTokens_20 (lv_at hl 4 rfl) ?_
    refine lv_iload_n hx hb d_Bk_haveTheSameTokens_22 rfl (lv_at hl 3 rfl) ?_
    refine lv_icmp_ge (tgt := 51) hx hb d_Bk_haveTheSameTokens_23 (by decide) (fun c_1 => ?_) (fun c_1 => ?_)
    · have he := he.trans (if_pos c_1)
      refine lv_iconst (v := 1) hx hb d_Bk_haveTheSameTokens_51 (by decide) ?_
      exact W.zret hx hb hr (by rfl) (v := 1) (fun t ht hW => ⟨⟨1, (), rfl, he.symm, by rw [ht]; exact hP, va_K.moved hW.alike hK, hD⟩, hS.F ht⟩) hS.2.2 d_Bk_haveTheSameTokens_52
    · have he := he.trans (if_neg c_1)
      refine lv_aload_n hx hb d_Bk_haveTheSameTokens_26 rfl (lv_at hl 0 rfl) ?_
      refine lv_iload_n hx hb d_Bk_haveTheSameTokens_27 rfl (lv_at hl 1 rfl) ?_
      refine lv_iload hx hb d_Bk_haveTheSameTokens_28 (lv_at hl 4 rfl) ?_
      refine wx_ci (wS := fun _ : Unit => w_B ad ca b) (ws2 := fun _ : Unit => w_B ad ca b) (va_runV (As := [.int x1, .int x4]) (rest := []) ⟨hx, hb, hml, hown, ht⟩ (c_Bk_tokenIn l dC dI ad ca H.size b x1 x4 hpre _ rfl) (cwV 2 ht (tb_V q_339 q_262 q_263 q_43 q_264) rfl rfl rfl p_Bk_tokenIn ⟨show 0 + 1 ≤ 1 by omega, show 8 + (4 + 11) + 0 ≤ 23 by omega⟩) (wx_preV (wc := (w_B ad ca b)) hN hK hP hD [0, 1, 2, 3, 4, 5, 6] [0, 1, 2, 3, 4, 5] rfl (by decide) rfl (ci := 0) (q0 := 0) rfl rfl) rfl rfl hl.1 rfl (lv_room (Nat.le_of_ble_eq_true rfl)) d_Bk_haveTheSameTokens_30 ⟨Nat.zero_le _, Nat.zero_le _⟩) hP hD hS hA [0, 1, 2, 3, 4, 5, 6] [] [0, 1, 2, 3, 4, 5, 6] rfl rfl (by decide) (by decide) (by decide) (fun _ => rfl) (fun r_2 _ H locs hw hP hD hS => ?_)
      subst hw
      have hP : va_P (dC, dI) vwCl (w_B ad ca b) H := hP
      have hD : va_D A (w_B ad ca b) := hD
      refine lv_aload_n hx hb d_Bk_haveTheSameTokens_33 rfl (lv_at hl 0 rfl) ?_
      refine lv_iload_n hx hb d_Bk_haveTheSameTokens_34 rfl (lv_at hl 2 rfl) ?_
      refine lv_iload hx hb d_Bk_haveTheSameTokens_35 (lv_at hl 4 rfl) ?_
      refine wx_ci (wS := fun _ : Unit => w_B ad ca b) (ws2 := fun _ : Unit => w_B ad ca b) (va_runV (As := [.int x2, .int x4]) (rest := [.int (f_Bk_tokenIn b x1 x4)]) ⟨hx, hb, hml, hown, ht⟩ (c_Bk_tokenIn l dC dI ad ca H.size b x2 x4 hpre _ rfl) (cwV 2 ht (tb_V q_339 q_262 q_263 q_43 q_264) rfl rfl rfl p_Bk_tokenIn ⟨show 0 + 1 ≤ 1 by omega, show 8 + (4 + 11) + 0 ≤ 23 by omega⟩) (wx_preV (wc := (w_B ad ca b)) hN hK hP hD [0, 1, 2, 3, 4, 5, 6] [0, 1, 2, 3, 4, 5] rfl (by decide) rfl (ci := 0) (q0 := 0) rfl rfl) rfl rfl hl.1 rfl (lv_room (Nat.le_of_ble_eq_true rfl)) d_Bk_haveTheSameTokens_37 ⟨Nat.zero_le _, Nat.zero_le _⟩) hP hD hS hA [0, 1, 2, 3, 4, 5, 6] [] [0, 1, 2, 3, 4, 5, 6] rfl rfl (by decide) (by decide) (by decide) (fun _ => rfl) (fun r_3 _ H locs hw hP hD hS => ?_)
      subst hw
      have hP : va_P (dC, dI) vwCl (w_B ad ca b) H := hP
      have hD : va_D A (w_B ad ca b) := hD
      refine lv_icmp_eq (tgt := 45) hx hb d_Bk_haveTheSameTokens_40 (by decide) (fun c_4 => ?_) (fun c_4 => ?_)
      · have he := he.trans (if_pos c_4)
        refine lv_iinc (v := (x4 + 1)) (lv' := [(4, .int (x4 + 1)), (0, .ref (ad 8)), (1, .int x1), (2, .int x2), (3, .int x3)]) hx hb d_Bk_haveTheSameTokens_45 hl (k := 4) rfl rfl (by decide) rfl (fun ls hl => ?_)
        refine lv_goto (tgt := 20) hx hb d_Bk_haveTheSameTokens_48 (by decide) ?_
        exact ih b x1 x2 x3 (x4 + 1) hpre (TLn_s hc rfl c_1) he _ _ hP hD hS _ (lv_sub hl [1, 2, 3, 4, 0] rfl)
      · have he := he.trans (if_neg c_4)
        refine lv_iconst (v := 0) hx hb d_Bk_haveTheSameTokens_43 (by decide) ?_
        exact W.zret hx hb hr (by rfl) (v := 0) (fun t ht hW => ⟨⟨0, (), rfl, he.symm, by rw [ht]; exact hP, va_K.moved hW.alike hK, hD⟩, hS.F ht⟩) hS.2.2 d_Bk_haveTheSameTokens_44
def f_Bk_haveTheSameTokens (b : TBk) (p0 : Int32) (p1 : Int32) : Int32 := (if (f_Bk_sizeOf b p0) = (f_Bk_sizeOf b p1) then (f_Bk_haveTheSameTokens_20 (((f_Bk_sizeOf b p0).toInt + 1).toNat) b p0 p1 (f_Bk_sizeOf b p0) 0) else 0)
set_option maxHeartbeats 4000000 in
set_option maxRecDepth 100000 in
theorem c_Bk_haveTheSameTokens (l : Launch) (dC : Nat → ClassId) (dI : Nat → Nat → Nat) (ad : Nat → Nat) (ca : Nat → ClassId) (sz : Nat) (b : TBk) (p0 : Int32) (p1 : Int32) (hpre : BkS b) (F : Int32) (he : F = f_Bk_haveTheSameTokens b p0 p1) : wx_Mi l y_Bk_haveTheSameTokens ws_Bk_haveTheSameTokens ({ frames := 1, cells := 0, slots := 0, locals := 23 } : Room) (dC, dI) vwCl (t_B ca) [.ref (ad 8), .int p0, .int p1] (w_B ad ca b) sz (fun _ : Unit => w_B ad ca b) (fun (r : Int32) (_ : Unit) => r = F) := by
  refine Met.ofW (cc := b_Bk_haveTheSameTokens) (maxL := 5) (ret := some .boolean) (by decide) rfl ?_
  intro p e s m args below meth c s₁ B hml hv
  obtain ⟨rfl, hsz, hP, hK, hD0, hN⟩ := hv
  have hx := B.exec
  have hb := B.bytes
  have hr := B.returns
  have hts := atoms_spec (ws := ws_Bk_haveTheSameTokens) B.pre
  have ht : ∀ w ∈ TB, w.before _ s = true := fun w h => hts w (List.mem_cons_of_mem _ h)
  have hown : s.vm.findClass R_Bk = some m.cls := findClass_of_methodNamed B.named
  have hlocks := B.notSynchronized
  subst hsz
  have hD := hD0.self (sz := s.heap.size)
  generalize hAe : va_A (w_B ad ca b) s.heap.size = A at hD ⊢
  have hA : ∀ q : Nat, s.heap.size ≤ q → A q := fun q h => by rw [← hAe]; exact Or.inr h
  have hS : va_S A s.heap s.heap [] := va_S.rf
  have C0 : wx_C p s m ([.ref (ad 8), .int p0, .int p1] : List Value).toArray meth c b_Bk_haveTheSameTokens (some .boolean) 5 R_Bk A (dC, dI) vwCl (t_B ca) := ⟨hx, hb, hr, hml, hown, ht, hlocks, hA, hK, hN⟩
  have hl := lv_entry ([.ref (ad 8), .int p0, .int p1]) (n := 5) (Nat.le_of_ble_eq_true rfl)
  rw [lg_entry_eq]
  generalize (lg_sl ([.ref (ad 8), .int p0, .int p1]) ++ List.replicate (5 - (lg_sl ([.ref (ad 8), .int p0, .int p1])).length) Slot.unset).toArray = ls at hl ⊢
  have hl : lv_has ls 5 [(0, .ref (ad 8)), (1, .int p0), (2, .int p1)] := hl
  unfold f_Bk_haveTheSameTokens at he
  refine lv_aload_n hx hb d_Bk_haveTheSameTokens_0 rfl (lv_at hl 0 rfl) ?_
  refine lv_iload_n hx hb d_Bk_haveTheSameTokens_1 rfl (lv_at hl 1 rfl) ?_
  refine wx_ci (wS := fun _ : Unit => w_B ad ca b) (ws2 := fun _ : Unit => w_B ad ca b) (va_runV (As := [.int p0]) (rest := []) ⟨hx, hb, hml, hown, ht⟩ (c_Bk_sizeOf l dC dI ad ca s.heap.size b p0 _ rfl) (cwV 1 ht (tb_V q_216 q_217 q_218 q_43 q_219) rfl rfl rfl p_Bk_sizeOf ⟨show 0 + 1 ≤ 1 by omega, show 8 + (2 + 11) + 0 ≤ 23 by omega⟩) (wx_preV (wc := (w_B ad ca b)) hN hK hP hD [0, 1, 2, 3, 4, 5, 6] [0, 1, 2, 3, 4, 5] rfl (by decide) rfl (ci := 0) (q0 := 0) rfl rfl) rfl rfl hl.1 rfl (lv_room (Nat.le_of_ble_eq_true rfl)) d_Bk_haveTheSameTokens_2 ⟨Nat.zero_le _, Nat.zero_le _⟩) hP hD hS hA [0, 1, 2, 3, 4, 5, 6] [] [0, 1, 2, 3, 4, 5, 6] rfl rfl (by decide) (by decide) (by decide) (fun _ => rfl) (fun r_1 _ H locs hw hP hD hS => ?_)
  subst hw
  have hP : va_P (dC, dI) vwCl (w_B ad ca b) H := hP
  have hD : va_D A (w_B ad ca b) := hD
  refine lv_istore_n (lv' := [(3, .int (f_Bk_sizeOf b p0)), (0, .ref (ad 8)), (1, .int p0), (2, .int p1)]) hx hb d_Bk_haveTheSameTokens_5 rfl hl (by decide) rfl (fun ls hl => ?_)
  refine lv_iload_n hx hb d_Bk_haveTheSameTokens_6 rfl (lv_at hl 0 rfl) ?_
  refine lv_aload_n hx hb d_Bk_haveTheSameTokens_7 rfl (lv_at hl 1 rfl) ?_
  refine lv_iload_n hx hb d_Bk_haveTheSameTokens_8 rfl (lv_at hl 3 rfl) ?_
  refine wx_ci (wS := fun _ : Unit => w_B ad ca b) (ws2 := fun _ : Unit => w_B ad ca b) (va_runV (As := [.int p1]) (rest := [.int (f_Bk_sizeOf b p0)]) ⟨hx, hb, hml, hown, ht⟩ (c_Bk_sizeOf l dC dI ad ca H.size b p1 _ rfl) (cwV 1 ht (tb_V q_216 q_217 q_218 q_43 q_219) rfl rfl rfl p_Bk_sizeOf ⟨show 0 + 1 ≤ 1 by omega, show 8 + (2 + 11) + 0 ≤ 23 by omega⟩) (wx_preV (wc := (w_B ad ca b)) hN hK hP hD [0, 1, 2, 3, 4, 5, 6] [0, 1, 2, 3, 4, 5] rfl (by decide) rfl (ci := 0) (q0 := 0) rfl rfl) rfl rfl hl.1 rfl (lv_room (Nat.le_of_ble_eq_true rfl)) d_Bk_haveTheSameTokens_9 ⟨Nat.zero_le _, Nat.zero_le _⟩) hP hD hS hA [0, 1, 2, 3, 4, 5, 6] [] [0, 1, 2, 3, 4, 5, 6] rfl rfl (by decide) (by decide) (by decide) (fun _ => rfl) (fun r_2 _ H locs hw hP hD hS => ?_)
  subst hw
  have hP : va_P (dC, dI) vwCl (w_B ad ca b) H := hP
  have hD : va_D A (w_B ad ca b) := hD
  refine lv_icmp_eq (tgt := 17) hx hb d_Bk_haveTheSameTokens_12 (by decide) (fun c_3 => ?_) (fun c_3 => ?_)
  · have he := he.trans (if_pos c_3)
    refine lv_iconst (v := 0) hx hb d_Bk_haveTheSameTokens_17 (by decide) ?_
    refine lv_istore (lv' := [(4, .int 0), (3, .int (f_Bk_sizeOf b p0)), (0, .ref (ad 8)), (1, .int p0), (2, .int p1)]) hx hb d_Bk_haveTheSameTokens_18 hl (by decide) rfl (fun ls hl => ?_)
    exact k_Bk_haveTheSameTokens_20 l dC dI ad ca C0 F (((f_Bk_sizeOf b p0).toInt + 1).toNat) b p0 p1 (f_Bk_sizeOf b p0) 0 hpre (TLn_i (BkS_size hpre p0).1 (by have := (BkS_size hpre p0).1; omega)) he _ _ hP hD hS _ (lv_sub hl [2, 3, 4, 1, 0] rfl)
  · have he := he.trans (if_neg c_3)
    refine lv_iconst (v := 0) hx hb d_Bk_haveTheSameTokens_15 (by decide) ?_
    exact W.zret hx hb hr (by rfl) (v := 0) (fun t ht hW => ⟨⟨0, (), rfl, he.symm, by rw [ht]; exact hP, va_K.moved hW.alike hK, hD⟩, hS.F ht⟩) hS.2.2 d_Bk_haveTheSameTokens_16
theorem hst_01 (n : Nat) : ∀ (b : TBk) (x1 x2 x3 x4 : Int32), f_Bk_haveTheSameTokens_20 n b x1 x2 x3 x4 = 0 ∨ f_Bk_haveTheSameTokens_20 n b x1 x2 x3 x4 = 1 := by
  induction n with
  | zero =>
    intro b x1 x2 x3 x4
    exact Or.inl rfl
  | succ n ih =>
    intro b x1 x2 x3 x4
    rw [f_Bk_haveTheSameTokens_20]
    split
    · exact Or.inr rfl
    · split
      · exact ih _ _ _ _ _
      · exact Or.inl rfl
theorem hs_01 (b : TBk) (x y : Int32) : f_Bk_haveTheSameTokens b x y = 0 ∨ f_Bk_haveTheSameTokens b x y = 1 := by
  unfold f_Bk_haveTheSameTokens
  split
  · exact hst_01 _ _ _ _ _ _
  · exact Or.inl rfl
