theorem d_Md_count_0 : decode b_Md_count 0 = .ok (.aload_n 0, 1) := by decide +kernel
theorem d_Md_count_1 : decode b_Md_count 1 = .ok (.iconst 0, 1) := by decide +kernel
theorem d_Md_count_2 : decode b_Md_count 2 = .ok (.putfield 44, 3) := by decide +kernel
theorem d_Md_count_5 : decode b_Md_count 5 = .ok (.iconst 0, 1) := by decide +kernel
theorem d_Md_count_6 : decode b_Md_count 6 = .ok (.istore_n 2, 1) := by decide +kernel
theorem d_Md_count_7 : decode b_Md_count 7 = .ok (.iconst 0, 1) := by decide +kernel
theorem d_Md_count_8 : decode b_Md_count 8 = .ok (.istore_n 3, 1) := by decide +kernel
theorem d_Md_count_9 : decode b_Md_count 9 = .ok (.iload_n 3, 1) := by decide +kernel
theorem d_Md_count_10 : decode b_Md_count 10 = .ok (.aload_n 0, 1) := by decide +kernel
theorem d_Md_count_11 : decode b_Md_count 11 = .ok (.getfield 52, 3) := by decide +kernel
theorem d_Md_count_14 : decode b_Md_count 14 = .ok (.if_icmp .ge 18, 3) := by decide +kernel
theorem d_Md_count_17 : decode b_Md_count 17 = .ok (.iload_n 2, 1) := by decide +kernel
theorem d_Md_count_18 : decode b_Md_count 18 = .ok (.aload_n 0, 1) := by decide +kernel
theorem d_Md_count_19 : decode b_Md_count 19 = .ok (.getfield 19, 3) := by decide +kernel
theorem d_Md_count_22 : decode b_Md_count 22 = .ok (.iload_n 3, 1) := by decide +kernel
theorem d_Md_count_23 : decode b_Md_count 23 = .ok (.iaload, 1) := by decide +kernel
theorem d_Md_count_24 : decode b_Md_count 24 = .ok (.iadd, 1) := by decide +kernel
theorem d_Md_count_25 : decode b_Md_count 25 = .ok (.istore_n 2, 1) := by decide +kernel
theorem d_Md_count_26 : decode b_Md_count 26 = .ok (.iinc 3 1, 3) := by decide +kernel
theorem d_Md_count_29 : decode b_Md_count 29 = .ok (.goto (-20), 3) := by decide +kernel
theorem d_Md_count_32 : decode b_Md_count 32 = .ok (.iload_n 1, 1) := by decide +kernel
theorem d_Md_count_33 : decode b_Md_count 33 = .ok (.ifCond .ne 10, 3) := by decide +kernel
theorem d_Md_count_36 : decode b_Md_count 36 = .ok (.aload_n 0, 1) := by decide +kernel
theorem d_Md_count_37 : decode b_Md_count 37 = .ok (.getfield 52, 3) := by decide +kernel
theorem d_Md_count_40 : decode b_Md_count 40 = .ok (.goto 29, 3) := by decide +kernel
theorem d_Md_count_43 : decode b_Md_count 43 = .ok (.iload_n 1, 1) := by decide +kernel
theorem d_Md_count_44 : decode b_Md_count 44 = .ok (.iconst 1, 1) := by decide +kernel
theorem d_Md_count_45 : decode b_Md_count 45 = .ok (.if_icmp .ne 13, 3) := by decide +kernel
theorem d_Md_count_48 : decode b_Md_count 48 = .ok (.aload_n 0, 1) := by decide +kernel
theorem d_Md_count_49 : decode b_Md_count 49 = .ok (.getfield 19, 3) := by decide +kernel
theorem d_Md_count_52 : decode b_Md_count 52 = .ok (.bipush 20, 2) := by decide +kernel
theorem d_Md_count_54 : decode b_Md_count 54 = .ok (.iaload, 1) := by decide +kernel
theorem d_Md_count_55 : decode b_Md_count 55 = .ok (.goto 14, 3) := by decide +kernel
theorem d_Md_count_58 : decode b_Md_count 58 = .ok (.iload_n 1, 1) := by decide +kernel
theorem d_Md_count_59 : decode b_Md_count 59 = .ok (.iconst 2, 1) := by decide +kernel
theorem d_Md_count_60 : decode b_Md_count 60 = .ok (.if_icmp .ne 7, 3) := by decide +kernel
theorem d_Md_count_63 : decode b_Md_count 63 = .ok (.iload_n 2, 1) := by decide +kernel
theorem d_Md_count_64 : decode b_Md_count 64 = .ok (.goto 5, 3) := by decide +kernel
theorem d_Md_count_67 : decode b_Md_count 67 = .ok (.bipush (-2), 2) := by decide +kernel
theorem d_Md_count_69 : decode b_Md_count 69 = .ok (.ireturn, 1) := by decide +kernel
noncomputable def f_Md_count_9 : Nat → TMd → Int32 → Int32 → Int32 → (Int32 × TMd)
  | 0, d, _, _, _ => (0, d)
  | n + 1, d, x1, x2, x3 => (if (TMd_bodies d) ≤ x3 then (if x1 = 0 then ((TMd_bodies d), d) else (if x1 = 1 then (((TMd_sizes d) (20 : Int32).toNatClampNeg), d) else (if x1 = 2 then (x2, d) else ((-2), d)))) else (f_Md_count_9 n d x1 (x2 + ((TMd_sizes d) x3.toNatClampNeg)) (x3 + 1)))
set_option maxHeartbeats 4000000 in
set_option maxRecDepth 100000 in
theorem k_Md_count_9 {p : Program} {e : Env} {s : State} {m : MethodId} {args : Array Value} {below : List Frame} {meth : Method} {c : Code} {A : Nat → Prop} (l : Launch) (dC : Nat → ClassId) (dI : Nat → Nat → Nat) (ad : Nat → Nat) (ca : Nat → ClassId) (C0 : wx_C p s m args meth c b_Md_count (some .int) 4 R_Md A (dC, dI) vwCl (t_M ca)) (F : (Int32 × TMd)) : ∀ (n : Nat) (d : TMd) (x1 : Int32) (x2 : Int32) (x3 : Int32), ((MdS d) ∧ TLn (TMd_bodies d).toInt x3 n) → F = f_Md_count_9 n d x1 x2 x3 → ∀ (H : Heap) (locs : List Loc), va_P (dC, dI) vwCl (w_M ad ca d) H → va_D A (w_M ad ca d) → va_S A s.heap H locs → ∀ (ls : Array Slot), lv_has ls 4 [(0, .ref (ad 16)), (1, .int x1), (2, .int x2), (3, .int x3)] → W p l e ({ frames := 0, cells := 0, slots := 0, locals := 0 } : Room) s m args below meth c H locs 0 0 (MQ below (va_Qi (fun (r : Int32) (v : TMd) => (r, v) = F) (wx_B (dC, dI) vwCl (t_M ca) (fun v : TMd => w_M ad ca v) A) A) args s 0 0 A) (F0 m 9 ls []) := by
  have C1 := C0
  obtain ⟨hx, hb, hr, hml, hown, ht, hlocks, hA, hK, hN⟩ := C1
  intro n
  induction n with
  | zero =>
    intro d x1 x2 x3 hc he
    exact absurd hc (fun h => TLn_0 h.2)
  | succ n ih =>
    intro d x1 x2 x3 hc he H locs hP hD hS ls hl
    rw [f_Md_count_9] at he
    refine lv_iload_n hx hb d_Md_count_9 rfl (lv_at hl 3 rfl) ?_
    refine lv_aload_n hx hb d_Md_count_10 rfl (lv_at hl 0 rfl) ?_
    refine va_get (D := (dC, dI)) (ci := 4) (v := .int (TMd_bodies d)) (C := R_Md) (T := T_Md) (N := 23) hx hb ht i_Md hown hK hP 0 rfl rfl 3 (by decide) (ht _ q_448) (fun _ h9 => h9) rfl d_Md_count_11 ?_
    refine lv_icmp_ge (tgt := 32) hx hb d_Md_count_14 (by decide) (fun c_1 => ?_) (fun c_1 => ?_)
    · have he := he.trans (if_pos c_1)
      refine lv_iload_n hx hb d_Md_count_32 rfl (lv_at hl 1 rfl) ?_
      refine lv_if_ne (tgt := 43) hx hb d_Md_count_33 (by decide) (fun c_2 => ?_) (fun c_2 => ?_)
      · have he := he.trans (if_neg c_2)
        refine lv_iload_n hx hb d_Md_count_43 rfl (lv_at hl 1 rfl) ?_
        refine lv_iconst (v := 1) hx hb d_Md_count_44 (by decide) ?_
        refine lv_icmp_ne (tgt := 58) hx hb d_Md_count_45 (by decide) (fun c_3 => ?_) (fun c_3 => ?_)
        · have he := he.trans (if_neg c_3)
          refine lv_iload_n hx hb d_Md_count_58 rfl (lv_at hl 1 rfl) ?_
          refine lv_iconst (v := 2) hx hb d_Md_count_59 (by decide) ?_
          refine lv_icmp_ne (tgt := 67) hx hb d_Md_count_60 (by decide) (fun c_4 => ?_) (fun c_4 => ?_)
          · have he := he.trans (if_neg c_4)
            refine lv_bipush (v := (-2)) hx hb d_Md_count_67 (by decide) ?_
            exact W.iret hx hb hr (v := (-2)) (fun t ht hW => ⟨⟨(-2), d, rfl, he.symm, by rw [ht]; exact hP, va_K.moved hW.alike hK, hD⟩, hS.F ht⟩) hS.2.2 d_Md_count_69
          · have he := he.trans (if_pos c_4)
            refine lv_iload_n hx hb d_Md_count_63 rfl (lv_at hl 2 rfl) ?_
            refine lv_goto (tgt := 69) hx hb d_Md_count_64 (by decide) ?_
            exact W.iret hx hb hr (v := x2) (fun t ht hW => ⟨⟨x2, d, rfl, he.symm, by rw [ht]; exact hP, va_K.moved hW.alike hK, hD⟩, hS.F ht⟩) hS.2.2 d_Md_count_69
        · have he := he.trans (if_pos c_3)
          refine lv_aload_n hx hb d_Md_count_48 rfl (lv_at hl 0 rfl) ?_
          refine va_get (D := (dC, dI)) (ci := 4) (v := .ref (ad 20)) (C := R_Md) (T := T_Md) (N := 23) hx hb ht i_Md hown hK hP 0 rfl rfl 5 (by decide) (ht _ q_450) (fun _ h9 => h9) rfl d_Md_count_49 ?_
          refine lv_bipush (v := 20) hx hb d_Md_count_52 (by decide) ?_
          refine va_iald (f := (TMd_sizes d)) hx hb hK hP 4 3 rfl rfl (show vp_in 20 21 by unfold vp_in; decide) d_Md_count_54 ?_
          refine lv_goto (tgt := 69) hx hb d_Md_count_55 (by decide) ?_
          exact W.iret hx hb hr (v := ((TMd_sizes d) (20 : Int32).toNatClampNeg)) (fun t ht hW => ⟨⟨((TMd_sizes d) (20 : Int32).toNatClampNeg), d, rfl, he.symm, by rw [ht]; exact hP, va_K.moved hW.alike hK, hD⟩, hS.F ht⟩) hS.2.2 d_Md_count_69
      · have he := he.trans (if_pos c_2)
        refine lv_aload_n hx hb d_Md_count_36 rfl (lv_at hl 0 rfl) ?_
        refine va_get (D := (dC, dI)) (ci := 4) (v := .int (TMd_bodies d)) (C := R_Md) (T := T_Md) (N := 23) hx hb ht i_Md hown hK hP 0 rfl rfl 3 (by decide) (ht _ q_448) (fun _ h9 => h9) rfl d_Md_count_37 ?_
        refine lv_goto (tgt := 69) hx hb d_Md_count_40 (by decide) ?_
        exact W.iret hx hb hr (v := (TMd_bodies d)) (fun t ht hW => ⟨⟨(TMd_bodies d), d, rfl, he.symm, by rw [ht]; exact hP, va_K.moved hW.alike hK, hD⟩, hS.F ht⟩) hS.2.2 d_Md_count_69
    · have he := he.trans (if_neg c_1)
      refine lv_iload_n hx hb d_Md_count_17 rfl (lv_at hl 2 rfl) ?_
      refine lv_aload_n hx hb d_Md_count_18 rfl (lv_at hl 0 rfl) ?_
      refine va_get (D := (dC, dI)) (ci := 4) (v := .ref (ad 20)) (C := R_Md) (T := T_Md) (N := 23) hx hb ht i_Md hown hK hP 0 rfl rfl 5 (by decide) (ht _ q_450) (fun _ h9 => h9) rfl d_Md_count_19 ?_
      refine lv_iload_n hx hb d_Md_count_22 rfl (lv_at hl 3 rfl) ?_
      refine va_iald (f := (TMd_sizes d)) hx hb hK hP 4 3 rfl rfl (ct_row (d := d) hc.1 hc.2 c_1) d_Md_count_23 ?_
      refine lv_iadd hx hb d_Md_count_24 ?_
      refine lv_istore_n (lv' := [(2, .int (x2 + ((TMd_sizes d) x3.toNatClampNeg))), (0, .ref (ad 16)), (1, .int x1), (3, .int x3)]) hx hb d_Md_count_25 rfl hl (by decide) rfl (fun ls hl => ?_)
      refine lv_iinc (v := (x3 + 1)) (lv' := [(3, .int (x3 + 1)), (2, .int (x2 + ((TMd_sizes d) x3.toNatClampNeg))), (0, .ref (ad 16)), (1, .int x1)]) hx hb d_Md_count_26 hl (k := 3) rfl rfl (by decide) rfl (fun ls hl => ?_)
      refine lv_goto (tgt := 9) hx hb d_Md_count_29 (by decide) ?_
      exact ih d x1 (x2 + ((TMd_sizes d) x3.toNatClampNeg)) (x3 + 1) ⟨hc.1, TLn_s hc.2 rfl c_1⟩ he _ _ hP hD hS _ (lv_sub hl [2, 3, 1, 0] rfl)
noncomputable def f_Md_count (d : TMd) (p0 : Int32) : (Int32 × TMd) := (f_Md_count_9 (((TMd_bodies d).toInt + 1).toNat) (TMd_set_thrown d 0) p0 0 0)
set_option maxHeartbeats 4000000 in
set_option maxRecDepth 100000 in
theorem c_Md_count (l : Launch) (dC : Nat → ClassId) (dI : Nat → Nat → Nat) (ad : Nat → Nat) (ca : Nat → ClassId) (sz : Nat) (d : TMd) (p0 : Int32) (hpre : MdS d) (F : (Int32 × TMd)) (he : F = f_Md_count d p0) : wx_Mi l y_Md_count ws_Md_count ({ frames := 0, cells := 0, slots := 0, locals := 0 } : Room) (dC, dI) vwCl (t_M ca) [.ref (ad 16), .int p0] (w_M ad ca d) sz (fun v : TMd => w_M ad ca v) (fun (r : Int32) (v : TMd) => (r, v) = F) := by
  refine Met.ofW (cc := b_Md_count) (maxL := 4) (ret := some .int) (by decide) rfl ?_
  intro p e s m args below meth c s₁ B hml hv
  obtain ⟨rfl, hsz, hP, hK, hD0, hN⟩ := hv
  have hx := B.exec
  have hb := B.bytes
  have hr := B.returns
  have hts := atoms_spec (ws := ws_Md_count) B.pre
  have ht : ∀ w ∈ TB, w.before _ s = true := fun w h => hts w (List.mem_cons_of_mem _ h)
  have hown : s.vm.findClass R_Md = some m.cls := findClass_of_methodNamed B.named
  have hlocks := B.notSynchronized
  subst hsz
  have hD := hD0.self (sz := s.heap.size)
  generalize hAe : va_A (w_M ad ca d) s.heap.size = A at hD ⊢
  have hA : ∀ q : Nat, s.heap.size ≤ q → A q := fun q h => by rw [← hAe]; exact Or.inr h
  have hS : va_S A s.heap s.heap [] := va_S.rf
  have C0 : wx_C p s m ([.ref (ad 16), .int p0] : List Value).toArray meth c b_Md_count (some .int) 4 R_Md A (dC, dI) vwCl (t_M ca) := ⟨hx, hb, hr, hml, hown, ht, hlocks, hA, hK, hN⟩
  have hl := lv_entry ([.ref (ad 16), .int p0]) (n := 4) (Nat.le_of_ble_eq_true rfl)
  rw [lg_entry_eq]
  generalize (lg_sl ([.ref (ad 16), .int p0]) ++ List.replicate (4 - (lg_sl ([.ref (ad 16), .int p0])).length) Slot.unset).toArray = ls at hl ⊢
  have hl : lv_has ls 4 [(0, .ref (ad 16)), (1, .int p0)] := hl
  unfold f_Md_count at he
  refine lv_aload_n hx hb d_Md_count_0 rfl (lv_at hl 0 rfl) ?_
  refine lv_iconst (v := 0) hx hb d_Md_count_1 (by decide) ?_
  refine va_put (D := (dC, dI)) (ci := 4) (v := .int 0) (ty := .int) (C := R_Md) (T := T_Md) (N := 23) hx hb ht i_Md ty_Md ty_Md_ok nm_Md hown hK hP hD hS 0 rfl rfl 0 (by decide) (ht _ q_445) (fun _ h9 => h9) rfl (by decide +kernel) rfl rfl (Nat.le_of_ble_eq_true rfl) d_Md_count_2 (fun H locs hP hD hS => ?_)
  have hP : va_P (dC, dI) vwCl (w_M ad ca (TMd_set_thrown d 0)) H := hP
  have hD : va_D A (w_M ad ca (TMd_set_thrown d 0)) := hD
  refine lv_iconst (v := 0) hx hb d_Md_count_5 (by decide) ?_
  refine lv_istore_n (lv' := [(2, .int 0), (0, .ref (ad 16)), (1, .int p0)]) hx hb d_Md_count_6 rfl hl (by decide) rfl (fun ls hl => ?_)
  refine lv_iconst (v := 0) hx hb d_Md_count_7 (by decide) ?_
  refine lv_istore_n (lv' := [(3, .int 0), (2, .int 0), (0, .ref (ad 16)), (1, .int p0)]) hx hb d_Md_count_8 rfl hl (by decide) rfl (fun ls hl => ?_)
  exact k_Md_count_9 l dC dI ad ca C0 F (((TMd_bodies d).toInt + 1).toNat) (TMd_set_thrown d 0) p0 0 0 ⟨hpre, (show TLn (TMd_bodies d).toInt 0 _ from TLn_i hpre.1.1 (by have := hpre.1.1; omega))⟩ he _ _ hP hD hS _ (lv_sub hl [2, 3, 1, 0] rfl)
