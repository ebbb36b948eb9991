set_option maxHeartbeats 4000000 in
set_option maxRecDepth 100000 in
theorem lc_run {p : Program} {l : Launch} {e : Env} {s : State} {m : MethodId} {below : List Frame} {meth : Method} {c : Code} {dC : Nat → ClassId} {dI : Nat → Nat → Nat} {ad1 ad2 : Nat → Nat} {ca1 ca2 : Nat → ClassId} {b L : Nat} {xs : Nat → Int32} (hL : L ≤ 2048) (C0 : lw_At p s m meth c b L xs) (hN : wx_N s) (hK : va_K (dC, dI) vwCl (t_L ca1 ca2) s) (n : Nat) (ih : ∀ (i : Nat) (x3 : Int32), i ≤ L → L < i + 4 * n + 4 → x3 = nI i → ∀ (z : TCt) (d : TMd), INV z d → ∀ (H : Heap) (locs : List Loc), va_P (dC, dI) vwCl (w_L ad1 ad2 ca1 ca2 z d) H → va_D (fun q : Nat => s.heap.size ≤ q) (w_L ad1 ad2 ca1 ca2 z d) → va_S (fun q : Nat => s.heap.size ≤ q) s.heap H locs → ∀ (ls : Array Slot), lv_has ls 4 [(0, .ref b), (1, .ref (ad1 15)), (2, .ref (ad2 16)), (3, .int x3)] → W p l e room_1 s m #[Value.ref b] below meth c H locs 28 25798 (lw_Z below #[Value.ref b] s) (F0 m 18 ls [])) (i : Nat) (x3 : Int32) (hi : i + 4 ≤ L) (hn : L < i + 4 * (n + 1) + 4) (hx3 : x3 = nI i) (z : TCt) (d : TMd) (hI : INV z d) (H : Heap) (locs : List Loc) (hP : va_P (dC, dI) vwCl (w_L ad1 ad2 ca1 ca2 z d) H) (hD : va_D (fun q : Nat => s.heap.size ≤ q) (w_L ad1 ad2 ca1 ca2 z d)) (hS : va_S (fun q : Nat => s.heap.size ≤ q) s.heap H locs) (ls : Array Slot) (hl : lv_has ls 4 [(0, .ref b), (1, .ref (ad1 15)), (2, .ref (ad2 16)), (3, .int x3)]) : W p l e room_1 s m #[Value.ref b] below meth c H locs 28 25798 (lw_Z below #[Value.ref b] s) (F0 m 296 ls []) := by
  obtain ⟨hx, hb, hr, hml, hown, hts, hX, hbl, hlocks, hgv⟩ := C0
  have hown : s.vm.findClass R_Lw = some m.cls := hown
  have ht : ∀ w ∈ TB, w.before #[Value.ref b] s = true := fun w h => hts w (List.mem_filter.mp h).1
  have hA : ∀ q : Nat, s.heap.size ≤ q → (fun q : Nat => s.heap.size ≤ q) q := fun _ h => h
  have hbA : ¬ (fun q : Nat => s.heap.size ≤ q) b := Nat.not_le.mpr hbl
  have hv1 : vp_in (x3 + 1) L := in_s hx3 1 1 (by decide) (by omega) (by omega)
  have hv2 : vp_in (x3 + 2) L := in_s hx3 2 2 (by decide) (by omega) (by omega)
  have hv3 : vp_in (x3 + 3) L := in_s hx3 3 3 (by decide) (by omega) (by omega)
  obtain ⟨y1, ey1⟩ : ∃ y, y = xs (x3 + 1).toNatClampNeg := ⟨_, rfl⟩
  obtain ⟨y2, ey2⟩ : ∃ y, y = xs (x3 + 2).toNatClampNeg := ⟨_, rfl⟩
  obtain ⟨y3, ey3⟩ : ∃ y, y = xs (x3 + 3).toNatClampNeg := ⟨_, rfl⟩
  refine lv_aload_n hx hb d_Lw_law_296 rfl (lv_at hl 1 rfl) ?_
  refine wx_ci (wS := fun v : TCt => w_C ad1 ca1 v) (ws2 := fun v : TCt => w_L ad1 ad2 ca1 ca2 v d) (va_runV (As := []) (rest := []) ⟨hx, hb, hml, hown, ht⟩ (c_Ct_run l dC dI ad1 ca1 (opN 20) (1 + 20 * 11) (21 + 20 * 255) ((20 : Int) - (20 : Nat)) (opN_m 20) (opN_c l dC dI ad1 ca1 20) H.size z  ⟨BkS_of hI, by omega⟩ _ rfl) (cwV 0 ht (tb_V q_239 q_240 q_241 q_42 q_242) rfl rfl rfl p_Ct_run ⟨Nat.le_of_ble_eq_true rfl, Nat.le_of_ble_eq_true rfl⟩) (wx_preV (wc := (w_C ad1 ca1 z)) hN hK hP hD [0, 1, 2, 3, 4, 5, 6, 7, 8, 9, 10, 11, 12, 13, 14, 15] [0, 1, 2, 3, 4, 5, 6, 7, 8, 9, 10, 11] rfl (by decide) rfl (ci := 3) (q0 := 0) rfl rfl) rfl rfl hl.1 rfl (lv_room (Nat.le_of_ble_eq_true rfl)) d_Lw_law_297 ⟨Nat.le_of_ble_eq_true rfl, Nat.le_of_ble_eq_true rfl⟩) hP hD hS hA [0, 1, 2, 3, 4, 5, 6, 7, 8, 9, 10, 11, 12, 13, 14, 15] [16, 17, 18, 19, 20, 21, 22, 23, 24, 25, 26, 27] [12, 13, 14, 15, 16, 17, 18, 19, 20, 21, 22, 23, 24, 25, 26, 27, 0, 1, 2, 3, 4, 5, 6, 7, 8, 9, 10, 11] rfl rfl (by decide) (by decide) (by decide) (fun _ => rfl) (fun r_1 v_1 H locs hw_1 hP hD hS => ?_)
  refine lv_aload_n hx hb d_Lw_law_300 rfl (lv_at hl 2 rfl) ?_
  refine wx_ci (wS := fun v : TMd => w_M ad2 ca2 v) (ws2 := fun v : TMd => w_L ad1 ad2 ca1 ca2 v_1 v) (va_runV (As := []) (rest := [.int r_1]) ⟨hx, hb, hml, hown, ht⟩ (c_Md_run l dC dI ad2 ca2 (opM 20) (1 + 20 * 8) (21 + 20 * 187) ((20 : Int) - (20 : Nat)) (opM_m 20) (opM_c l dC dI ad2 ca2 20) H.size d  ⟨hI.2.1, by omega⟩ _ rfl) (cwV 0 ht (tb_V q_563 q_564 q_565 q_47 q_566) rfl rfl rfl p_Md_run ⟨Nat.le_of_ble_eq_true rfl, Nat.le_of_ble_eq_true rfl⟩) (wx_preV (wc := (w_M ad2 ca2 d)) hN hK hP hD [16, 17, 18, 19, 20, 21, 22, 23, 24, 25, 26, 27] [12, 13, 14, 15, 16, 17, 18, 19, 20, 21, 22] rfl (by decide) rfl (ci := 4) (q0 := 0) rfl rfl) rfl rfl hl.1 rfl (lv_room (Nat.le_of_ble_eq_true rfl)) d_Lw_law_301 ⟨Nat.le_of_ble_eq_true rfl, Nat.le_of_ble_eq_true rfl⟩) hP hD hS hA [16, 17, 18, 19, 20, 21, 22, 23, 24, 25, 26, 27] [0, 1, 2, 3, 4, 5, 6, 7, 8, 9, 10, 11, 12, 13, 14, 15] [0, 1, 2, 3, 4, 5, 6, 7, 8, 9, 10, 11, 12, 13, 14, 15, 16, 17, 18, 19, 20, 21, 22, 23, 24, 25, 26, 27] rfl rfl (by decide) (by decide) (by decide) (fun _ => rfl) (fun r_2 v_2 H locs hw_2 hP hD hS => ?_)
  have hq := inv_run hI
  rw [← hw_1, ← hw_2] at hq
  refine lv_icmp_eq (tgt := 434) hx hb d_Lw_law_304 (by decide) (fun c_3 => ?_) (fun c_3 => ?_)
  · obtain ⟨x4, ex4⟩ : ∃ y : Int32, y = x3 + 4 := ⟨_, rfl⟩
    refine lv_iinc (v := x4) (lv' := [(3, .int x4), (0, .ref b), (1, .ref (ad1 15)), (2, .ref (ad2 16))]) hx hb d_Lw_law_434 hl (k := 3) rfl (by rw [ex4]; rfl) (by decide) rfl (fun ls hl => ?_)
    refine lv_goto (tgt := 18) hx hb d_Lw_law_437 (by decide) ?_
    exact ih (i + 4) x4 (by omega) (by omega) (by rw [ex4]; exact step4 hx3 (by omega)) v_1 v_2 hq.2 H locs hP hD hS ls (lv_sub hl [1, 2, 3, 0] rfl)
  · exact absurd hq.1 c_3
set_option maxHeartbeats 4000000 in
set_option maxRecDepth 100000 in
theorem lc_at {p : Program} {l : Launch} {e : Env} {s : State} {m : MethodId} {below : List Frame} {meth : Method} {c : Code} {dC : Nat → ClassId} {dI : Nat → Nat → Nat} {ad1 ad2 : Nat → Nat} {ca1 ca2 : Nat → ClassId} {b L : Nat} {xs : Nat → Int32} (hL : L ≤ 2048) (C0 : lw_At p s m meth c b L xs) (hN : wx_N s) (hK : va_K (dC, dI) vwCl (t_L ca1 ca2) s) (n : Nat) (ih : ∀ (i : Nat) (x3 : Int32), i ≤ L → L < i + 4 * n + 4 → x3 = nI i → ∀ (z : TCt) (d : TMd), INV z d → ∀ (H : Heap) (locs : List Loc), va_P (dC, dI) vwCl (w_L ad1 ad2 ca1 ca2 z d) H → va_D (fun q : Nat => s.heap.size ≤ q) (w_L ad1 ad2 ca1 ca2 z d) → va_S (fun q : Nat => s.heap.size ≤ q) s.heap H locs → ∀ (ls : Array Slot), lv_has ls 4 [(0, .ref b), (1, .ref (ad1 15)), (2, .ref (ad2 16)), (3, .int x3)] → W p l e room_1 s m #[Value.ref b] below meth c H locs 28 25798 (lw_Z below #[Value.ref b] s) (F0 m 18 ls [])) (i : Nat) (x3 : Int32) (hi : i + 4 ≤ L) (hn : L < i + 4 * (n + 1) + 4) (hx3 : x3 = nI i) (z : TCt) (d : TMd) (hI : INV z d) (H : Heap) (locs : List Loc) (hP : va_P (dC, dI) vwCl (w_L ad1 ad2 ca1 ca2 z d) H) (hD : va_D (fun q : Nat => s.heap.size ≤ q) (w_L ad1 ad2 ca1 ca2 z d)) (hS : va_S (fun q : Nat => s.heap.size ≤ q) s.heap H locs) (ls : Array Slot) (hl : lv_has ls 4 [(0, .ref b), (1, .ref (ad1 15)), (2, .ref (ad2 16)), (3, .int x3)]) : W p l e room_1 s m #[Value.ref b] below meth c H locs 28 25798 (lw_Z below #[Value.ref b] s) (F0 m 309 ls []) := by
  obtain ⟨hx, hb, hr, hml, hown, hts, hX, hbl, hlocks, hgv⟩ := C0
  have hown : s.vm.findClass R_Lw = some m.cls := hown
  have ht : ∀ w ∈ TB, w.before #[Value.ref b] s = true := fun w h => hts w (List.mem_filter.mp h).1
  have hA : ∀ q : Nat, s.heap.size ≤ q → (fun q : Nat => s.heap.size ≤ q) q := fun _ h => h
  have hbA : ¬ (fun q : Nat => s.heap.size ≤ q) b := Nat.not_le.mpr hbl
  have hv1 : vp_in (x3 + 1) L := in_s hx3 1 1 (by decide) (by omega) (by omega)
  have hv2 : vp_in (x3 + 2) L := in_s hx3 2 2 (by decide) (by omega) (by omega)
  have hv3 : vp_in (x3 + 3) L := in_s hx3 3 3 (by decide) (by omega) (by omega)
  obtain ⟨y1, ey1⟩ : ∃ y, y = xs (x3 + 1).toNatClampNeg := ⟨_, rfl⟩
  obtain ⟨y2, ey2⟩ : ∃ y, y = xs (x3 + 2).toNatClampNeg := ⟨_, rfl⟩
  obtain ⟨y3, ey3⟩ : ∃ y, y = xs (x3 + 3).toNatClampNeg := ⟨_, rfl⟩
  refine lv_aload_n hx hb d_Lw_law_309 rfl (lv_at hl 1 rfl) ?_
  refine lv_aload_n hx hb d_Lw_law_310 rfl (lv_at hl 0 rfl) ?_
  refine lv_iload_n hx hb d_Lw_law_311 rfl (lv_at hl 3 rfl) ?_
  refine lv_iconst (v := 1) hx hb d_Lw_law_312 (by decide) ?_
  refine lv_iadd hx hb d_Lw_law_313 ?_
  refine va_sld hx hb hX hbl hbA hS hv1 d_Lw_law_314 ?_
  rw [← ey1]
  refine wx_ci (wS := fun _ : Unit => (w_C ad1 ca1 z)) (ws2 := fun _ : Unit => (w_L ad1 ad2 ca1 ca2 z d)) (va_runV (As := [.int y1]) (rest := []) ⟨hx, hb, hml, hown, ht⟩ (c_Ct_at l dC dI ad1 ca1 H.size z y1  _ rfl) (cwV 1 ht (tb_V q_397 q_398 q_399 q_42 q_400) rfl rfl rfl p_Ct_at ⟨Nat.le_of_ble_eq_true rfl, Nat.le_of_ble_eq_true rfl⟩) (wx_preV (wc := (w_C ad1 ca1 z)) hN hK hP hD [0, 1, 2, 3, 4, 5, 6, 7, 8, 9, 10, 11, 12, 13, 14, 15] [0, 1, 2, 3, 4, 5, 6, 7, 8, 9, 10, 11] rfl (by decide) rfl (ci := 3) (q0 := 0) rfl rfl) rfl rfl hl.1 rfl (lv_room (Nat.le_of_ble_eq_true rfl)) d_Lw_law_315 ⟨Nat.le_of_ble_eq_true rfl, Nat.le_of_ble_eq_true rfl⟩) hP hD hS hA [0, 1, 2, 3, 4, 5, 6, 7, 8, 9, 10, 11, 12, 13, 14, 15] [16, 17, 18, 19, 20, 21, 22, 23, 24, 25, 26, 27] [12, 13, 14, 15, 16, 17, 18, 19, 20, 21, 22, 23, 24, 25, 26, 27, 0, 1, 2, 3, 4, 5, 6, 7, 8, 9, 10, 11] rfl rfl (by decide) (by decide) (by decide) (fun _ => rfl) (fun r_1 _ H locs hw_1 hP hD hS => ?_)
  refine lv_aload_n hx hb d_Lw_law_318 rfl (lv_at hl 2 rfl) ?_
  refine lv_aload_n hx hb d_Lw_law_319 rfl (lv_at hl 0 rfl) ?_
  refine lv_iload_n hx hb d_Lw_law_320 rfl (lv_at hl 3 rfl) ?_
  refine lv_iconst (v := 1) hx hb d_Lw_law_321 (by decide) ?_
  refine lv_iadd hx hb d_Lw_law_322 ?_
  refine va_sld hx hb hX hbl hbA hS hv1 d_Lw_law_323 ?_
  rw [← ey1]
  refine wx_ci (wS := fun v : TMd => w_M ad2 ca2 v) (ws2 := fun v : TMd => w_L ad1 ad2 ca1 ca2 z v) (va_runV (As := [.int y1]) (rest := [.int r_1]) ⟨hx, hb, hml, hown, ht⟩ (c_Md_at_w l dC dI ad2 ca2 H.size d y1 hI.2.2.2.2.2.2.2.2.2.2.2.2.2.1 _ rfl) (cwV 1 ht (tb_V q_634 q_635 q_636 q_47 q_637) rfl rfl rfl p_Md_at ⟨Nat.le_of_ble_eq_true rfl, Nat.le_of_ble_eq_true rfl⟩) (wx_preV (wc := (w_M ad2 ca2 d)) hN hK hP hD [16, 17, 18, 19, 20, 21, 22, 23, 24, 25, 26, 27] [12, 13, 14, 15, 16, 17, 18, 19, 20, 21, 22] rfl (by decide) rfl (ci := 4) (q0 := 0) rfl rfl) rfl rfl hl.1 rfl (lv_room (Nat.le_of_ble_eq_true rfl)) d_Lw_law_324 ⟨Nat.le_of_ble_eq_true rfl, Nat.le_of_ble_eq_true rfl⟩) hP hD hS hA [16, 17, 18, 19, 20, 21, 22, 23, 24, 25, 26, 27] [0, 1, 2, 3, 4, 5, 6, 7, 8, 9, 10, 11, 12, 13, 14, 15] [0, 1, 2, 3, 4, 5, 6, 7, 8, 9, 10, 11, 12, 13, 14, 15, 16, 17, 18, 19, 20, 21, 22, 23, 24, 25, 26, 27] rfl rfl (by decide) (by decide) (by decide) (fun _ => rfl) (fun r_2 v_2 H locs hw_2 hP hD hS => ?_)
  have hq := inv_at hI y1
  rw [at_w_eq] at hw_2
  rw [← hw_1, ← hw_2] at hq
  refine lv_icmp_eq (tgt := 434) hx hb d_Lw_law_327 (by decide) (fun c_3 => ?_) (fun c_3 => ?_)
  · obtain ⟨x4, ex4⟩ : ∃ y : Int32, y = x3 + 4 := ⟨_, rfl⟩
    refine lv_iinc (v := x4) (lv' := [(3, .int x4), (0, .ref b), (1, .ref (ad1 15)), (2, .ref (ad2 16))]) hx hb d_Lw_law_434 hl (k := 3) rfl (by rw [ex4]; rfl) (by decide) rfl (fun ls hl => ?_)
    refine lv_goto (tgt := 18) hx hb d_Lw_law_437 (by decide) ?_
    exact ih (i + 4) x4 (by omega) (by omega) (by rw [ex4]; exact step4 hx3 (by omega)) z v_2 hq.2 H locs hP hD hS ls (lv_sub hl [1, 2, 3, 0] rfl)
  · exact absurd hq.1 c_3
set_option maxHeartbeats 4000000 in
set_option maxRecDepth 100000 in
theorem lc_told {p : Program} {l : Launch} {e : Env} {s : State} {m : MethodId} {below : List Frame} {meth : Method} {c : Code} {dC : Nat → ClassId} {dI : Nat → Nat → Nat} {ad1 ad2 : Nat → Nat} {ca1 ca2 : Nat → ClassId} {b L : Nat} {xs : Nat → Int32} (hL : L ≤ 2048) (C0 : lw_At p s m meth c b L xs) (hN : wx_N s) (hK : va_K (dC, dI) vwCl (t_L ca1 ca2) s) (n : Nat) (ih : ∀ (i : Nat) (x3 : Int32), i ≤ L → L < i + 4 * n + 4 → x3 = nI i → ∀ (z : TCt) (d : TMd), INV z d → ∀ (H : Heap) (locs : List Loc), va_P (dC, dI) vwCl (w_L ad1 ad2 ca1 ca2 z d) H → va_D (fun q : Nat => s.heap.size ≤ q) (w_L ad1 ad2 ca1 ca2 z d) → va_S (fun q : Nat => s.heap.size ≤ q) s.heap H locs → ∀ (ls : Array Slot), lv_has ls 4 [(0, .ref b), (1, .ref (ad1 15)), (2, .ref (ad2 16)), (3, .int x3)] → W p l e room_1 s m #[Value.ref b] below meth c H locs 28 25798 (lw_Z below #[Value.ref b] s) (F0 m 18 ls [])) (i : Nat) (x3 : Int32) (hi : i + 4 ≤ L) (hn : L < i + 4 * (n + 1) + 4) (hx3 : x3 = nI i) (z : TCt) (d : TMd) (hI : INV z d) (H : Heap) (locs : List Loc) (hP : va_P (dC, dI) vwCl (w_L ad1 ad2 ca1 ca2 z d) H) (hD : va_D (fun q : Nat => s.heap.size ≤ q) (w_L ad1 ad2 ca1 ca2 z d)) (hS : va_S (fun q : Nat => s.heap.size ≤ q) s.heap H locs) (ls : Array Slot) (hl : lv_has ls 4 [(0, .ref b), (1, .ref (ad1 15)), (2, .ref (ad2 16)), (3, .int x3)]) : W p l e room_1 s m #[Value.ref b] below meth c H locs 28 25798 (lw_Z below #[Value.ref b] s) (F0 m 332 ls []) := by
  obtain ⟨hx, hb, hr, hml, hown, hts, hX, hbl, hlocks, hgv⟩ := C0
  have hown : s.vm.findClass R_Lw = some m.cls := hown
  have ht : ∀ w ∈ TB, w.before #[Value.ref b] s = true := fun w h => hts w (List.mem_filter.mp h).1
  have hA : ∀ q : Nat, s.heap.size ≤ q → (fun q : Nat => s.heap.size ≤ q) q := fun _ h => h
  have hbA : ¬ (fun q : Nat => s.heap.size ≤ q) b := Nat.not_le.mpr hbl
  have hv1 : vp_in (x3 + 1) L := in_s hx3 1 1 (by decide) (by omega) (by omega)
  have hv2 : vp_in (x3 + 2) L := in_s hx3 2 2 (by decide) (by omega) (by omega)
  have hv3 : vp_in (x3 + 3) L := in_s hx3 3 3 (by decide) (by omega) (by omega)
  obtain ⟨y1, ey1⟩ : ∃ y, y = xs (x3 + 1).toNatClampNeg := ⟨_, rfl⟩
  obtain ⟨y2, ey2⟩ : ∃ y, y = xs (x3 + 2).toNatClampNeg := ⟨_, rfl⟩
  obtain ⟨y3, ey3⟩ : ∃ y, y = xs (x3 + 3).toNatClampNeg := ⟨_, rfl⟩
  refine lv_aload_n hx hb d_Lw_law_332 rfl (lv_at hl 1 rfl) ?_
  refine lv_aload_n hx hb d_Lw_law_333 rfl (lv_at hl 0 rfl) ?_
  refine lv_iload_n hx hb d_Lw_law_334 rfl (lv_at hl 3 rfl) ?_
  refine lv_iconst (v := 1) hx hb d_Lw_law_335 (by decide) ?_
  refine lv_iadd hx hb d_Lw_law_336 ?_
  refine va_sld hx hb hX hbl hbA hS hv1 d_Lw_law_337 ?_
  rw [← ey1]
  refine wx_ci (wS := fun _ : Unit => (w_C ad1 ca1 z)) (ws2 := fun _ : Unit => (w_L ad1 ad2 ca1 ca2 z d)) (va_runV (As := [.int y1]) (rest := []) ⟨hx, hb, hml, hown, ht⟩ (c_Ct_told l dC dI ad1 ca1 H.size z y1  _ rfl) (cwV 1 ht (tb_V q_405 q_406 q_407 q_42 q_408) rfl rfl rfl p_Ct_told ⟨Nat.le_of_ble_eq_true rfl, Nat.le_of_ble_eq_true rfl⟩) (wx_preV (wc := (w_C ad1 ca1 z)) hN hK hP hD [0, 1, 2, 3, 4, 5, 6, 7, 8, 9, 10, 11, 12, 13, 14, 15] [0, 1, 2, 3, 4, 5, 6, 7, 8, 9, 10, 11] rfl (by decide) rfl (ci := 3) (q0 := 0) rfl rfl) rfl rfl hl.1 rfl (lv_room (Nat.le_of_ble_eq_true rfl)) d_Lw_law_338 ⟨Nat.le_of_ble_eq_true rfl, Nat.le_of_ble_eq_true rfl⟩) hP hD hS hA [0, 1, 2, 3, 4, 5, 6, 7, 8, 9, 10, 11, 12, 13, 14, 15] [16, 17, 18, 19, 20, 21, 22, 23, 24, 25, 26, 27] [12, 13, 14, 15, 16, 17, 18, 19, 20, 21, 22, 23, 24, 25, 26, 27, 0, 1, 2, 3, 4, 5, 6, 7, 8, 9, 10, 11] rfl rfl (by decide) (by decide) (by decide) (fun _ => rfl) (fun r_1 _ H locs hw_1 hP hD hS => ?_)
  refine lv_aload_n hx hb d_Lw_law_341 rfl (lv_at hl 2 rfl) ?_
  refine lv_aload_n hx hb d_Lw_law_342 rfl (lv_at hl 0 rfl) ?_
  refine lv_iload_n hx hb d_Lw_law_343 rfl (lv_at hl 3 rfl) ?_
  refine lv_iconst (v := 1) hx hb d_Lw_law_344 (by decide) ?_
  refine lv_iadd hx hb d_Lw_law_345 ?_
  refine va_sld hx hb hX hbl hbA hS hv1 d_Lw_law_346 ?_
  rw [← ey1]
  refine wx_ci (wS := fun v : TMd => w_M ad2 ca2 v) (ws2 := fun v : TMd => w_L ad1 ad2 ca1 ca2 z v) (va_runV (As := [.int y1]) (rest := [.int r_1]) ⟨hx, hb, hml, hown, ht⟩ (c_Md_told l dC dI ad2 ca2 H.size d y1  _ rfl) (cwV 1 ht (tb_V q_638 q_639 q_640 q_47 q_641) rfl rfl rfl p_Md_told ⟨Nat.le_of_ble_eq_true rfl, Nat.le_of_ble_eq_true rfl⟩) (wx_preV (wc := (w_M ad2 ca2 d)) hN hK hP hD [16, 17, 18, 19, 20, 21, 22, 23, 24, 25, 26, 27] [12, 13, 14, 15, 16, 17, 18, 19, 20, 21, 22] rfl (by decide) rfl (ci := 4) (q0 := 0) rfl rfl) rfl rfl hl.1 rfl (lv_room (Nat.le_of_ble_eq_true rfl)) d_Lw_law_347 ⟨Nat.le_of_ble_eq_true rfl, Nat.le_of_ble_eq_true rfl⟩) hP hD hS hA [16, 17, 18, 19, 20, 21, 22, 23, 24, 25, 26, 27] [0, 1, 2, 3, 4, 5, 6, 7, 8, 9, 10, 11, 12, 13, 14, 15] [0, 1, 2, 3, 4, 5, 6, 7, 8, 9, 10, 11, 12, 13, 14, 15, 16, 17, 18, 19, 20, 21, 22, 23, 24, 25, 26, 27] rfl rfl (by decide) (by decide) (by decide) (fun _ => rfl) (fun r_2 v_2 H locs hw_2 hP hD hS => ?_)
  have hq := inv_told hI y1
  rw [← hw_1, ← hw_2] at hq
  refine lv_icmp_eq (tgt := 434) hx hb d_Lw_law_350 (by decide) (fun c_3 => ?_) (fun c_3 => ?_)
  · obtain ⟨x4, ex4⟩ : ∃ y : Int32, y = x3 + 4 := ⟨_, rfl⟩
    refine lv_iinc (v := x4) (lv' := [(3, .int x4), (0, .ref b), (1, .ref (ad1 15)), (2, .ref (ad2 16))]) hx hb d_Lw_law_434 hl (k := 3) rfl (by rw [ex4]; rfl) (by decide) rfl (fun ls hl => ?_)
    refine lv_goto (tgt := 18) hx hb d_Lw_law_437 (by decide) ?_
    exact ih (i + 4) x4 (by omega) (by omega) (by rw [ex4]; exact step4 hx3 (by omega)) z v_2 hq.2 H locs hP hD hS ls (lv_sub hl [1, 2, 3, 0] rfl)
  · exact absurd hq.1 c_3
set_option maxHeartbeats 4000000 in
set_option maxRecDepth 100000 in
theorem lc_decided {p : Program} {l : Launch} {e : Env} {s : State} {m : MethodId} {below : List Frame} {meth : Method} {c : Code} {dC : Nat → ClassId} {dI : Nat → Nat → Nat} {ad1 ad2 : Nat → Nat} {ca1 ca2 : Nat → ClassId} {b L : Nat} {xs : Nat → Int32} (hL : L ≤ 2048) (C0 : lw_At p s m meth c b L xs) (hN : wx_N s) (hK : va_K (dC, dI) vwCl (t_L ca1 ca2) s) (n : Nat) (ih : ∀ (i : Nat) (x3 : Int32), i ≤ L → L < i + 4 * n + 4 → x3 = nI i → ∀ (z : TCt) (d : TMd), INV z d → ∀ (H : Heap) (locs : List Loc), va_P (dC, dI) vwCl (w_L ad1 ad2 ca1 ca2 z d) H → va_D (fun q : Nat => s.heap.size ≤ q) (w_L ad1 ad2 ca1 ca2 z d) → va_S (fun q : Nat => s.heap.size ≤ q) s.heap H locs → ∀ (ls : Array Slot), lv_has ls 4 [(0, .ref b), (1, .ref (ad1 15)), (2, .ref (ad2 16)), (3, .int x3)] → W p l e room_1 s m #[Value.ref b] below meth c H locs 28 25798 (lw_Z below #[Value.ref b] s) (F0 m 18 ls [])) (i : Nat) (x3 : Int32) (hi : i + 4 ≤ L) (hn : L < i + 4 * (n + 1) + 4) (hx3 : x3 = nI i) (z : TCt) (d : TMd) (hI : INV z d) (H : Heap) (locs : List Loc) (hP : va_P (dC, dI) vwCl (w_L ad1 ad2 ca1 ca2 z d) H) (hD : va_D (fun q : Nat => s.heap.size ≤ q) (w_L ad1 ad2 ca1 ca2 z d)) (hS : va_S (fun q : Nat => s.heap.size ≤ q) s.heap H locs) (ls : Array Slot) (hl : lv_has ls 4 [(0, .ref b), (1, .ref (ad1 15)), (2, .ref (ad2 16)), (3, .int x3)]) : W p l e room_1 s m #[Value.ref b] below meth c H locs 28 25798 (lw_Z below #[Value.ref b] s) (F0 m 355 ls []) := by
  obtain ⟨hx, hb, hr, hml, hown, hts, hX, hbl, hlocks, hgv⟩ := C0
  have hown : s.vm.findClass R_Lw = some m.cls := hown
  have ht : ∀ w ∈ TB, w.before #[Value.ref b] s = true := fun w h => hts w (List.mem_filter.mp h).1
  have hA : ∀ q : Nat, s.heap.size ≤ q → (fun q : Nat => s.heap.size ≤ q) q := fun _ h => h
  have hbA : ¬ (fun q : Nat => s.heap.size ≤ q) b := Nat.not_le.mpr hbl
  have hv1 : vp_in (x3 + 1) L := in_s hx3 1 1 (by decide) (by omega) (by omega)
  have hv2 : vp_in (x3 + 2) L := in_s hx3 2 2 (by decide) (by omega) (by omega)
  have hv3 : vp_in (x3 + 3) L := in_s hx3 3 3 (by decide) (by omega) (by omega)
  obtain ⟨y1, ey1⟩ : ∃ y, y = xs (x3 + 1).toNatClampNeg := ⟨_, rfl⟩
  obtain ⟨y2, ey2⟩ : ∃ y, y = xs (x3 + 2).toNatClampNeg := ⟨_, rfl⟩
  obtain ⟨y3, ey3⟩ : ∃ y, y = xs (x3 + 3).toNatClampNeg := ⟨_, rfl⟩
  refine lv_aload_n hx hb d_Lw_law_355 rfl (lv_at hl 1 rfl) ?_
  refine lv_aload_n hx hb d_Lw_law_356 rfl (lv_at hl 0 rfl) ?_
  refine lv_iload_n hx hb d_Lw_law_357 rfl (lv_at hl 3 rfl) ?_
  refine lv_iconst (v := 1) hx hb d_Lw_law_358 (by decide) ?_
  refine lv_iadd hx hb d_Lw_law_359 ?_
  refine va_sld hx hb hX hbl hbA hS hv1 d_Lw_law_360 ?_
  rw [← ey1]
  refine wx_ci (wS := fun _ : Unit => (w_C ad1 ca1 z)) (ws2 := fun _ : Unit => (w_L ad1 ad2 ca1 ca2 z d)) (va_runV (As := [.int y1]) (rest := []) ⟨hx, hb, hml, hown, ht⟩ (c_Ct_decided l dC dI ad1 ca1 H.size z y1  _ rfl) (cwV 1 ht (tb_V q_417 q_418 q_419 q_42 q_420) rfl rfl rfl p_Ct_decided ⟨Nat.le_of_ble_eq_true rfl, Nat.le_of_ble_eq_true rfl⟩) (wx_preV (wc := (w_C ad1 ca1 z)) hN hK hP hD [0, 1, 2, 3, 4, 5, 6, 7, 8, 9, 10, 11, 12, 13, 14, 15] [0, 1, 2, 3, 4, 5, 6, 7, 8, 9, 10, 11] rfl (by decide) rfl (ci := 3) (q0 := 0) rfl rfl) rfl rfl hl.1 rfl (lv_room (Nat.le_of_ble_eq_true rfl)) d_Lw_law_361 ⟨Nat.le_of_ble_eq_true rfl, Nat.le_of_ble_eq_true rfl⟩) hP hD hS hA [0, 1, 2, 3, 4, 5, 6, 7, 8, 9, 10, 11, 12, 13, 14, 15] [16, 17, 18, 19, 20, 21, 22, 23, 24, 25, 26, 27] [12, 13, 14, 15, 16, 17, 18, 19, 20, 21, 22, 23, 24, 25, 26, 27, 0, 1, 2, 3, 4, 5, 6, 7, 8, 9, 10, 11] rfl rfl (by decide) (by decide) (by decide) (fun _ => rfl) (fun r_1 _ H locs hw_1 hP hD hS => ?_)
  refine lv_aload_n hx hb d_Lw_law_364 rfl (lv_at hl 2 rfl) ?_
  refine lv_aload_n hx hb d_Lw_law_365 rfl (lv_at hl 0 rfl) ?_
  refine lv_iload_n hx hb d_Lw_law_366 rfl (lv_at hl 3 rfl) ?_
  refine lv_iconst (v := 1) hx hb d_Lw_law_367 (by decide) ?_
  refine lv_iadd hx hb d_Lw_law_368 ?_
  refine va_sld hx hb hX hbl hbA hS hv1 d_Lw_law_369 ?_
  rw [← ey1]
  refine wx_ci (wS := fun v : TMd => w_M ad2 ca2 v) (ws2 := fun v : TMd => w_L ad1 ad2 ca1 ca2 z v) (va_runV (As := [.int y1]) (rest := [.int r_1]) ⟨hx, hb, hml, hown, ht⟩ (c_Md_decided l dC dI ad2 ca2 H.size d y1  _ rfl) (cwV 1 ht (tb_V q_642 q_643 q_644 q_47 q_645) rfl rfl rfl p_Md_decided ⟨Nat.le_of_ble_eq_true rfl, Nat.le_of_ble_eq_true rfl⟩) (wx_preV (wc := (w_M ad2 ca2 d)) hN hK hP hD [16, 17, 18, 19, 20, 21, 22, 23, 24, 25, 26, 27] [12, 13, 14, 15, 16, 17, 18, 19, 20, 21, 22] rfl (by decide) rfl (ci := 4) (q0 := 0) rfl rfl) rfl rfl hl.1 rfl (lv_room (Nat.le_of_ble_eq_true rfl)) d_Lw_law_370 ⟨Nat.le_of_ble_eq_true rfl, Nat.le_of_ble_eq_true rfl⟩) hP hD hS hA [16, 17, 18, 19, 20, 21, 22, 23, 24, 25, 26, 27] [0, 1, 2, 3, 4, 5, 6, 7, 8, 9, 10, 11, 12, 13, 14, 15] [0, 1, 2, 3, 4, 5, 6, 7, 8, 9, 10, 11, 12, 13, 14, 15, 16, 17, 18, 19, 20, 21, 22, 23, 24, 25, 26, 27] rfl rfl (by decide) (by decide) (by decide) (fun _ => rfl) (fun r_2 v_2 H locs hw_2 hP hD hS => ?_)
  have hq := inv_decided hI y1
  rw [← hw_1, ← hw_2] at hq
  refine lv_icmp_eq (tgt := 434) hx hb d_Lw_law_373 (by decide) (fun c_3 => ?_) (fun c_3 => ?_)
  · obtain ⟨x4, ex4⟩ : ∃ y : Int32, y = x3 + 4 := ⟨_, rfl⟩
    refine lv_iinc (v := x4) (lv' := [(3, .int x4), (0, .ref b), (1, .ref (ad1 15)), (2, .ref (ad2 16))]) hx hb d_Lw_law_434 hl (k := 3) rfl (by rw [ex4]; rfl) (by decide) rfl (fun ls hl => ?_)
    refine lv_goto (tgt := 18) hx hb d_Lw_law_437 (by decide) ?_
    exact ih (i + 4) x4 (by omega) (by omega) (by rw [ex4]; exact step4 hx3 (by omega)) z v_2 hq.2 H locs hP hD hS ls (lv_sub hl [1, 2, 3, 0] rfl)
  · exact absurd hq.1 c_3
set_option maxHeartbeats 4000000 in
set_option maxRecDepth 100000 in
theorem lc_same {p : Program} {l : Launch} {e : Env} {s : State} {m : MethodId} {below : List Frame} {meth : Method} {c : Code} {dC : Nat → ClassId} {dI : Nat → Nat → Nat} {ad1 ad2 : Nat → Nat} {ca1 ca2 : Nat → ClassId} {b L : Nat} {xs : Nat → Int32} (hL : L ≤ 2048) (C0 : lw_At p s m meth c b L xs) (hN : wx_N s) (hK : va_K (dC, dI) vwCl (t_L ca1 ca2) s) (n : Nat) (ih : ∀ (i : Nat) (x3 : Int32), i ≤ L → L < i + 4 * n + 4 → x3 = nI i → ∀ (z : TCt) (d : TMd), INV z d → ∀ (H : Heap) (locs : List Loc), va_P (dC, dI) vwCl (w_L ad1 ad2 ca1 ca2 z d) H → va_D (fun q : Nat => s.heap.size ≤ q) (w_L ad1 ad2 ca1 ca2 z d) → va_S (fun q : Nat => s.heap.size ≤ q) s.heap H locs → ∀ (ls : Array Slot), lv_has ls 4 [(0, .ref b), (1, .ref (ad1 15)), (2, .ref (ad2 16)), (3, .int x3)] → W p l e room_1 s m #[Value.ref b] below meth c H locs 28 25798 (lw_Z below #[Value.ref b] s) (F0 m 18 ls [])) (i : Nat) (x3 : Int32) (hi : i + 4 ≤ L) (hn : L < i + 4 * (n + 1) + 4) (hx3 : x3 = nI i) (z : TCt) (d : TMd) (hI : INV z d) (H : Heap) (locs : List Loc) (hP : va_P (dC, dI) vwCl (w_L ad1 ad2 ca1 ca2 z d) H) (hD : va_D (fun q : Nat => s.heap.size ≤ q) (w_L ad1 ad2 ca1 ca2 z d)) (hS : va_S (fun q : Nat => s.heap.size ≤ q) s.heap H locs) (ls : Array Slot) (hl : lv_has ls 4 [(0, .ref b), (1, .ref (ad1 15)), (2, .ref (ad2 16)), (3, .int x3)]) : W p l e room_1 s m #[Value.ref b] below meth c H locs 28 25798 (lw_Z below #[Value.ref b] s) (F0 m 378 ls []) := by
  obtain ⟨hx, hb, hr, hml, hown, hts, hX, hbl, hlocks, hgv⟩ := C0
  have hown : s.vm.findClass R_Lw = some m.cls := hown
  have ht : ∀ w ∈ TB, w.before #[Value.ref b] s = true := fun w h => hts w (List.mem_filter.mp h).1
  have hA : ∀ q : Nat, s.heap.size ≤ q → (fun q : Nat => s.heap.size ≤ q) q := fun _ h => h
  have hbA : ¬ (fun q : Nat => s.heap.size ≤ q) b := Nat.not_le.mpr hbl
  have hv1 : vp_in (x3 + 1) L := in_s hx3 1 1 (by decide) (by omega) (by omega)
  have hv2 : vp_in (x3 + 2) L := in_s hx3 2 2 (by decide) (by omega) (by omega)
  have hv3 : vp_in (x3 + 3) L := in_s hx3 3 3 (by decide) (by omega) (by omega)
  obtain ⟨y1, ey1⟩ : ∃ y, y = xs (x3 + 1).toNatClampNeg := ⟨_, rfl⟩
  obtain ⟨y2, ey2⟩ : ∃ y, y = xs (x3 + 2).toNatClampNeg := ⟨_, rfl⟩
  obtain ⟨y3, ey3⟩ : ∃ y, y = xs (x3 + 3).toNatClampNeg := ⟨_, rfl⟩
  refine lv_aload_n hx hb d_Lw_law_378 rfl (lv_at hl 1 rfl) ?_
  refine lv_aload_n hx hb d_Lw_law_379 rfl (lv_at hl 0 rfl) ?_
  refine lv_iload_n hx hb d_Lw_law_380 rfl (lv_at hl 3 rfl) ?_
  refine lv_iconst (v := 1) hx hb d_Lw_law_381 (by decide) ?_
  refine lv_iadd hx hb d_Lw_law_382 ?_
  refine va_sld hx hb hX hbl hbA hS hv1 d_Lw_law_383 ?_
  rw [← ey1]
  refine lv_aload_n hx hb d_Lw_law_384 rfl (lv_at hl 0 rfl) ?_
  refine lv_iload_n hx hb d_Lw_law_385 rfl (lv_at hl 3 rfl) ?_
  refine lv_iconst (v := 2) hx hb d_Lw_law_386 (by decide) ?_
  refine lv_iadd hx hb d_Lw_law_387 ?_
  refine va_sld hx hb hX hbl hbA hS hv2 d_Lw_law_388 ?_
  rw [← ey2]
  refine wx_ci (wS := fun _ : Unit => (w_C ad1 ca1 z)) (ws2 := fun _ : Unit => (w_L ad1 ad2 ca1 ca2 z d)) (va_runV (As := [.int y1, .int y2]) (rest := []) ⟨hx, hb, hml, hown, ht⟩ (c_Ct_same l dC dI ad1 ca1 H.size z y1 y2 (BkS_of hI) _ rfl) (cwV 2 ht (tb_V q_425 q_426 q_427 q_42 q_428) rfl rfl rfl p_Ct_same ⟨Nat.le_of_ble_eq_true rfl, Nat.le_of_ble_eq_true rfl⟩) (wx_preV (wc := (w_C ad1 ca1 z)) hN hK hP hD [0, 1, 2, 3, 4, 5, 6, 7, 8, 9, 10, 11, 12, 13, 14, 15] [0, 1, 2, 3, 4, 5, 6, 7, 8, 9, 10, 11] rfl (by decide) rfl (ci := 3) (q0 := 0) rfl rfl) rfl rfl hl.1 rfl (lv_room (Nat.le_of_ble_eq_true rfl)) d_Lw_law_389 ⟨Nat.le_of_ble_eq_true rfl, Nat.le_of_ble_eq_true rfl⟩) hP hD hS hA [0, 1, 2, 3, 4, 5, 6, 7, 8, 9, 10, 11, 12, 13, 14, 15] [16, 17, 18, 19, 20, 21, 22, 23, 24, 25, 26, 27] [12, 13, 14, 15, 16, 17, 18, 19, 20, 21, 22, 23, 24, 25, 26, 27, 0, 1, 2, 3, 4, 5, 6, 7, 8, 9, 10, 11] rfl rfl (by decide) (by decide) (by decide) (fun _ => rfl) (fun r_1 _ H locs hw_1 hP hD hS => ?_)
  refine lv_aload_n hx hb d_Lw_law_392 rfl (lv_at hl 2 rfl) ?_
  refine lv_aload_n hx hb d_Lw_law_393 rfl (lv_at hl 0 rfl) ?_
  refine lv_iload_n hx hb d_Lw_law_394 rfl (lv_at hl 3 rfl) ?_
  refine lv_iconst (v := 1) hx hb d_Lw_law_395 (by decide) ?_
  refine lv_iadd hx hb d_Lw_law_396 ?_
  refine va_sld hx hb hX hbl hbA hS hv1 d_Lw_law_397 ?_
  rw [← ey1]
  refine lv_aload_n hx hb d_Lw_law_398 rfl (lv_at hl 0 rfl) ?_
  refine lv_iload_n hx hb d_Lw_law_399 rfl (lv_at hl 3 rfl) ?_
  refine lv_iconst (v := 2) hx hb d_Lw_law_400 (by decide) ?_
  refine lv_iadd hx hb d_Lw_law_401 ?_
  refine va_sld hx hb hX hbl hbA hS hv2 d_Lw_law_402 ?_
  rw [← ey2]
  refine wx_ci (wS := fun v : TMd => w_M ad2 ca2 v) (ws2 := fun v : TMd => w_L ad1 ad2 ca1 ca2 z v) (va_runV (As := [.int y1, .int y2]) (rest := [.int r_1]) ⟨hx, hb, hml, hown, ht⟩ (c_Md_same l dC dI ad2 ca2 H.size d y1 y2 hI.2.1 _ rfl) (cwV 2 ht (tb_V q_547 q_548 q_549 q_47 q_550) rfl rfl rfl p_Md_same ⟨Nat.le_of_ble_eq_true rfl, Nat.le_of_ble_eq_true rfl⟩) (wx_preV (wc := (w_M ad2 ca2 d)) hN hK hP hD [16, 17, 18, 19, 20, 21, 22, 23, 24, 25, 26, 27] [12, 13, 14, 15, 16, 17, 18, 19, 20, 21, 22] rfl (by decide) rfl (ci := 4) (q0 := 0) rfl rfl) rfl rfl hl.1 rfl (lv_room (Nat.le_of_ble_eq_true rfl)) d_Lw_law_403 ⟨Nat.le_of_ble_eq_true rfl, Nat.le_of_ble_eq_true rfl⟩) hP hD hS hA [16, 17, 18, 19, 20, 21, 22, 23, 24, 25, 26, 27] [0, 1, 2, 3, 4, 5, 6, 7, 8, 9, 10, 11, 12, 13, 14, 15] [0, 1, 2, 3, 4, 5, 6, 7, 8, 9, 10, 11, 12, 13, 14, 15, 16, 17, 18, 19, 20, 21, 22, 23, 24, 25, 26, 27] rfl rfl (by decide) (by decide) (by decide) (fun _ => rfl) (fun r_2 v_2 H locs hw_2 hP hD hS => ?_)
  have hq := inv_same hI y1 y2
  rw [← hw_1, ← hw_2] at hq
  refine lv_icmp_eq (tgt := 434) hx hb d_Lw_law_406 (by decide) (fun c_3 => ?_) (fun c_3 => ?_)
  · obtain ⟨x4, ex4⟩ : ∃ y : Int32, y = x3 + 4 := ⟨_, rfl⟩
    refine lv_iinc (v := x4) (lv' := [(3, .int x4), (0, .ref b), (1, .ref (ad1 15)), (2, .ref (ad2 16))]) hx hb d_Lw_law_434 hl (k := 3) rfl (by rw [ex4]; rfl) (by decide) rfl (fun ls hl => ?_)
    refine lv_goto (tgt := 18) hx hb d_Lw_law_437 (by decide) ?_
    exact ih (i + 4) x4 (by omega) (by omega) (by rw [ex4]; exact step4 hx3 (by omega)) z v_2 hq.2 H locs hP hD hS ls (lv_sub hl [1, 2, 3, 0] rfl)
  · exact absurd hq.1 c_3
set_option maxHeartbeats 4000000 in
set_option maxRecDepth 100000 in
theorem lc_count {p : Program} {l : Launch} {e : Env} {s : State} {m : MethodId} {below : List Frame} {meth : Method} {c : Code} {dC : Nat → ClassId} {dI : Nat → Nat → Nat} {ad1 ad2 : Nat → Nat} {ca1 ca2 : Nat → ClassId} {b L : Nat} {xs : Nat → Int32} (hL : L ≤ 2048) (C0 : lw_At p s m meth c b L xs) (hN : wx_N s) (hK : va_K (dC, dI) vwCl (t_L ca1 ca2) s) (n : Nat) (ih : ∀ (i : Nat) (x3 : Int32), i ≤ L → L < i + 4 * n + 4 → x3 = nI i → ∀ (z : TCt) (d : TMd), INV z d → ∀ (H : Heap) (locs : List Loc), va_P (dC, dI) vwCl (w_L ad1 ad2 ca1 ca2 z d) H → va_D (fun q : Nat => s.heap.size ≤ q) (w_L ad1 ad2 ca1 ca2 z d) → va_S (fun q : Nat => s.heap.size ≤ q) s.heap H locs → ∀ (ls : Array Slot), lv_has ls 4 [(0, .ref b), (1, .ref (ad1 15)), (2, .ref (ad2 16)), (3, .int x3)] → W p l e room_1 s m #[Value.ref b] below meth c H locs 28 25798 (lw_Z below #[Value.ref b] s) (F0 m 18 ls [])) (i : Nat) (x3 : Int32) (hi : i + 4 ≤ L) (hn : L < i + 4 * (n + 1) + 4) (hx3 : x3 = nI i) (z : TCt) (d : TMd) (hI : INV z d) (H : Heap) (locs : List Loc) (hP : va_P (dC, dI) vwCl (w_L ad1 ad2 ca1 ca2 z d) H) (hD : va_D (fun q : Nat => s.heap.size ≤ q) (w_L ad1 ad2 ca1 ca2 z d)) (hS : va_S (fun q : Nat => s.heap.size ≤ q) s.heap H locs) (ls : Array Slot) (hl : lv_has ls 4 [(0, .ref b), (1, .ref (ad1 15)), (2, .ref (ad2 16)), (3, .int x3)]) : W p l e room_1 s m #[Value.ref b] below meth c H locs 28 25798 (lw_Z below #[Value.ref b] s) (F0 m 411 ls []) := by
  obtain ⟨hx, hb, hr, hml, hown, hts, hX, hbl, hlocks, hgv⟩ := C0
  have hown : s.vm.findClass R_Lw = some m.cls := hown
  have ht : ∀ w ∈ TB, w.before #[Value.ref b] s = true := fun w h => hts w (List.mem_filter.mp h).1
  have hA : ∀ q : Nat, s.heap.size ≤ q → (fun q : Nat => s.heap.size ≤ q) q := fun _ h => h
  have hbA : ¬ (fun q : Nat => s.heap.size ≤ q) b := Nat.not_le.mpr hbl
  have hv1 : vp_in (x3 + 1) L := in_s hx3 1 1 (by decide) (by omega) (by omega)
  have hv2 : vp_in (x3 + 2) L := in_s hx3 2 2 (by decide) (by omega) (by omega)
  have hv3 : vp_in (x3 + 3) L := in_s hx3 3 3 (by decide) (by omega) (by omega)
  obtain ⟨y1, ey1⟩ : ∃ y, y = xs (x3 + 1).toNatClampNeg := ⟨_, rfl⟩
  obtain ⟨y2, ey2⟩ : ∃ y, y = xs (x3 + 2).toNatClampNeg := ⟨_, rfl⟩
  obtain ⟨y3, ey3⟩ : ∃ y, y = xs (x3 + 3).toNatClampNeg := ⟨_, rfl⟩
  refine lv_aload_n hx hb d_Lw_law_411 rfl (lv_at hl 1 rfl) ?_
  refine lv_aload_n hx hb d_Lw_law_412 rfl (lv_at hl 0 rfl) ?_
  refine lv_iload_n hx hb d_Lw_law_413 rfl (lv_at hl 3 rfl) ?_
  refine lv_iconst (v := 1) hx hb d_Lw_law_414 (by decide) ?_
  refine lv_iadd hx hb d_Lw_law_415 ?_
  refine va_sld hx hb hX hbl hbA hS hv1 d_Lw_law_416 ?_
  rw [← ey1]
  refine wx_ci (wS := fun _ : Unit => (w_C ad1 ca1 z)) (ws2 := fun _ : Unit => (w_L ad1 ad2 ca1 ca2 z d)) (va_runV (As := [.int y1]) (rest := []) ⟨hx, hb, hml, hown, ht⟩ (c_Ct_count l dC dI ad1 ca1 H.size z y1  _ rfl) (cwV 1 ht (tb_V q_430 q_431 q_432 q_42 q_433) rfl rfl rfl p_Ct_count ⟨Nat.le_of_ble_eq_true rfl, Nat.le_of_ble_eq_true rfl⟩) (wx_preV (wc := (w_C ad1 ca1 z)) hN hK hP hD [0, 1, 2, 3, 4, 5, 6, 7, 8, 9, 10, 11, 12, 13, 14, 15] [0, 1, 2, 3, 4, 5, 6, 7, 8, 9, 10, 11] rfl (by decide) rfl (ci := 3) (q0 := 0) rfl rfl) rfl rfl hl.1 rfl (lv_room (Nat.le_of_ble_eq_true rfl)) d_Lw_law_417 ⟨Nat.le_of_ble_eq_true rfl, Nat.le_of_ble_eq_true rfl⟩) hP hD hS hA [0, 1, 2, 3, 4, 5, 6, 7, 8, 9, 10, 11, 12, 13, 14, 15] [16, 17, 18, 19, 20, 21, 22, 23, 24, 25, 26, 27] [12, 13, 14, 15, 16, 17, 18, 19, 20, 21, 22, 23, 24, 25, 26, 27, 0, 1, 2, 3, 4, 5, 6, 7, 8, 9, 10, 11] rfl rfl (by decide) (by decide) (by decide) (fun _ => rfl) (fun r_1 _ H locs hw_1 hP hD hS => ?_)
  refine lv_aload_n hx hb d_Lw_law_420 rfl (lv_at hl 2 rfl) ?_
  refine lv_aload_n hx hb d_Lw_law_421 rfl (lv_at hl 0 rfl) ?_
  refine lv_iload_n hx hb d_Lw_law_422 rfl (lv_at hl 3 rfl) ?_
  refine lv_iconst (v := 1) hx hb d_Lw_law_423 (by decide) ?_
  refine lv_iadd hx hb d_Lw_law_424 ?_
  refine va_sld hx hb hX hbl hbA hS hv1 d_Lw_law_425 ?_
  rw [← ey1]
  refine wx_ci (wS := fun v : TMd => w_M ad2 ca2 v) (ws2 := fun v : TMd => w_L ad1 ad2 ca1 ca2 z v) (va_runV (As := [.int y1]) (rest := [.int r_1]) ⟨hx, hb, hml, hown, ht⟩ (c_Md_count l dC dI ad2 ca2 H.size d y1 hI.2.1 _ rfl) (cwV 1 ht (tb_V q_646 q_647 q_648 q_47 q_649) rfl rfl rfl p_Md_count ⟨Nat.le_of_ble_eq_true rfl, Nat.le_of_ble_eq_true rfl⟩) (wx_preV (wc := (w_M ad2 ca2 d)) hN hK hP hD [16, 17, 18, 19, 20, 21, 22, 23, 24, 25, 26, 27] [12, 13, 14, 15, 16, 17, 18, 19, 20, 21, 22] rfl (by decide) rfl (ci := 4) (q0 := 0) rfl rfl) rfl rfl hl.1 rfl (lv_room (Nat.le_of_ble_eq_true rfl)) d_Lw_law_426 ⟨Nat.le_of_ble_eq_true rfl, Nat.le_of_ble_eq_true rfl⟩) hP hD hS hA [16, 17, 18, 19, 20, 21, 22, 23, 24, 25, 26, 27] [0, 1, 2, 3, 4, 5, 6, 7, 8, 9, 10, 11, 12, 13, 14, 15] [0, 1, 2, 3, 4, 5, 6, 7, 8, 9, 10, 11, 12, 13, 14, 15, 16, 17, 18, 19, 20, 21, 22, 23, 24, 25, 26, 27] rfl rfl (by decide) (by decide) (by decide) (fun _ => rfl) (fun r_2 v_2 H locs hw_2 hP hD hS => ?_)
  have hq := inv_count hI y1
  rw [← hw_1, ← hw_2] at hq
  refine lv_icmp_eq (tgt := 434) hx hb d_Lw_law_429 (by decide) (fun c_3 => ?_) (fun c_3 => ?_)
  · obtain ⟨x4, ex4⟩ : ∃ y : Int32, y = x3 + 4 := ⟨_, rfl⟩
    refine lv_iinc (v := x4) (lv' := [(3, .int x4), (0, .ref b), (1, .ref (ad1 15)), (2, .ref (ad2 16))]) hx hb d_Lw_law_434 hl (k := 3) rfl (by rw [ex4]; rfl) (by decide) rfl (fun ls hl => ?_)
    refine lv_goto (tgt := 18) hx hb d_Lw_law_437 (by decide) ?_
    exact ih (i + 4) x4 (by omega) (by omega) (by rw [ex4]; exact step4 hx3 (by omega)) z v_2 hq.2 H locs hP hD hS ls (lv_sub hl [1, 2, 3, 0] rfl)
  · exact absurd hq.1 c_3
