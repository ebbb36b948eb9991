set_option maxHeartbeats 4000000 in
set_option maxRecDepth 100000 in
theorem lc_meaning {p : Program} {l : Launch} {e : Env} {s : State} {m : MethodId} {below : List Frame} {meth : Method} {c : Code} {dC : Nat → ClassId} {dI : Nat → Nat → Nat} {ad1 ad2 : Nat → Nat} {ca1 ca2 : Nat → ClassId} {b L : Nat} {xs : Nat → Int32} (hL : L ≤ 2048) (C0 : lw_At p s m meth c b L xs) (hN : wx_N s) (hK : va_K (dC, dI) vwCl (t_L ca1 ca2) s) (n : Nat) (ih : ∀ (i : Nat) (x3 : Int32), i ≤ L → L < i + 4 * n + 4 → x3 = nI i → ∀ (z : TCt) (d : TMd), INV z d → ∀ (H : Heap) (locs : List Loc), va_P (dC, dI) vwCl (w_L ad1 ad2 ca1 ca2 z d) H → va_D (fun q : Nat => s.heap.size ≤ q) (w_L ad1 ad2 ca1 ca2 z d) → va_S (fun q : Nat => s.heap.size ≤ q) s.heap H locs → ∀ (ls : Array Slot), lv_has ls 4 [(0, .ref b), (1, .ref (ad1 15)), (2, .ref (ad2 16)), (3, .int x3)] → W p l e room_1 s m #[Value.ref b] below meth c H locs 28 25798 (lw_Z below #[Value.ref b] s) (F0 m 18 ls [])) (i : Nat) (x3 : Int32) (hi : i + 4 ≤ L) (hn : L < i + 4 * (n + 1) + 4) (hx3 : x3 = nI i) (z : TCt) (d : TMd) (hI : INV z d) (H : Heap) (locs : List Loc) (hP : va_P (dC, dI) vwCl (w_L ad1 ad2 ca1 ca2 z d) H) (hD : va_D (fun q : Nat => s.heap.size ≤ q) (w_L ad1 ad2 ca1 ca2 z d)) (hS : va_S (fun q : Nat => s.heap.size ≤ q) s.heap H locs) (ls : Array Slot) (hl : lv_has ls 4 [(0, .ref b), (1, .ref (ad1 15)), (2, .ref (ad2 16)), (3, .int x3)]) : W p l e room_1 s m #[Value.ref b] below meth c H locs 28 25798 (lw_Z below #[Value.ref b] s) (F0 m 96 ls []) := by
  obtain ⟨hx, hb, hr, hml, hown, hts, hX, hbl, hlocks, hgv⟩ := C0
  have hown : s.vm.findClass R_Lw = some m.cls := hown
  have ht : ∀ w ∈ TB, w.before #[Value.ref b] s = true := fun w h => hts w (List.mem_filter.mp h).1
  have hA : ∀ q : Nat, s.heap.size ≤ q → (fun q : Nat => s.heap.size ≤ q) q := fun _ h => h
  have hbA : ¬ (fun q : Nat => s.heap.size ≤ q) b := Nat.not_le.mpr hbl
  have hv1 : vp_in (x3 + 1) L := in_s hx3 1 1 (by decide) (by omega) (by omega)
  have hv2 : vp_in (x3 + 2) L := in_s hx3 2 2 (by decide) (by omega) (by omega)
  have hv3 : vp_in (x3 + 3) L := in_s hx3 3 3 (by decide) (by omega) (by omega)
  obtain ⟨y1, ey1⟩ : ∃ y, y = xs (x3 + 1).toNatClampNeg := ⟨_, rfl⟩
  obtain ⟨y2, ey2⟩ : ∃ y, y = xs (x3 + 2).toNatClampNeg := ⟨_, rfl⟩
  obtain ⟨y3, ey3⟩ : ∃ y, y = xs (x3 + 3).toNatClampNeg := ⟨_, rfl⟩
  refine lv_aload_n hx hb d_Lw_law_96 rfl (lv_at hl 1 rfl) ?_
  refine lv_aload_n hx hb d_Lw_law_97 rfl (lv_at hl 0 rfl) ?_
  refine lv_iload_n hx hb d_Lw_law_98 rfl (lv_at hl 3 rfl) ?_
  refine lv_iconst (v := 1) hx hb d_Lw_law_99 (by decide) ?_
  refine lv_iadd hx hb d_Lw_law_100 ?_
  refine va_sld hx hb hX hbl hbA hS hv1 d_Lw_law_101 ?_
  rw [← ey1]
  refine lv_aload_n hx hb d_Lw_law_102 rfl (lv_at hl 0 rfl) ?_
  refine lv_iload_n hx hb d_Lw_law_103 rfl (lv_at hl 3 rfl) ?_
  refine lv_iconst (v := 2) hx hb d_Lw_law_104 (by decide) ?_
  refine lv_iadd hx hb d_Lw_law_105 ?_
  refine va_sld hx hb hX hbl hbA hS hv2 d_Lw_law_106 ?_
  rw [← ey2]
  refine lv_aload_n hx hb d_Lw_law_107 rfl (lv_at hl 0 rfl) ?_
  refine lv_iload_n hx hb d_Lw_law_108 rfl (lv_at hl 3 rfl) ?_
  refine lv_iconst (v := 3) hx hb d_Lw_law_109 (by decide) ?_
  refine lv_iadd hx hb d_Lw_law_110 ?_
  refine va_sld hx hb hX hbl hbA hS hv3 d_Lw_law_111 ?_
  rw [← ey3]
  refine wx_ci (wS := fun v : TCt => w_C ad1 ca1 v) (ws2 := fun v : TCt => w_L ad1 ad2 ca1 ca2 v d) (va_runV (As := [.int y1, .int y2, .int y3]) (rest := []) ⟨hx, hb, hml, hown, ht⟩ (c_Ct_meaning l dC dI ad1 ca1 H.size z y1 y2 y3  _ rfl) (cwV 3 ht (tb_V q_174 q_175 q_176 q_42 q_177) rfl rfl rfl p_Ct_meaning ⟨Nat.le_of_ble_eq_true rfl, Nat.le_of_ble_eq_true rfl⟩) (wx_preV (wc := (w_C ad1 ca1 z)) hN hK hP hD [0, 1, 2, 3, 4, 5, 6, 7, 8, 9, 10, 11, 12, 13, 14, 15] [0, 1, 2, 3, 4, 5, 6, 7, 8, 9, 10, 11] rfl (by decide) rfl (ci := 3) (q0 := 0) rfl rfl) rfl rfl hl.1 rfl (lv_room (Nat.le_of_ble_eq_true rfl)) d_Lw_law_112 ⟨Nat.le_of_ble_eq_true rfl, Nat.le_of_ble_eq_true rfl⟩) hP hD hS hA [0, 1, 2, 3, 4, 5, 6, 7, 8, 9, 10, 11, 12, 13, 14, 15] [16, 17, 18, 19, 20, 21, 22, 23, 24, 25, 26, 27] [12, 13, 14, 15, 16, 17, 18, 19, 20, 21, 22, 23, 24, 25, 26, 27, 0, 1, 2, 3, 4, 5, 6, 7, 8, 9, 10, 11] rfl rfl (by decide) (by decide) (by decide) (fun _ => rfl) (fun r_1 v_1 H locs hw_1 hP hD hS => ?_)
  refine lv_aload_n hx hb d_Lw_law_115 rfl (lv_at hl 2 rfl) ?_
  refine lv_aload_n hx hb d_Lw_law_116 rfl (lv_at hl 0 rfl) ?_
  refine lv_iload_n hx hb d_Lw_law_117 rfl (lv_at hl 3 rfl) ?_
  refine lv_iconst (v := 1) hx hb d_Lw_law_118 (by decide) ?_
  refine lv_iadd hx hb d_Lw_law_119 ?_
  refine va_sld hx hb hX hbl hbA hS hv1 d_Lw_law_120 ?_
  rw [← ey1]
  refine lv_aload_n hx hb d_Lw_law_121 rfl (lv_at hl 0 rfl) ?_
  refine lv_iload_n hx hb d_Lw_law_122 rfl (lv_at hl 3 rfl) ?_
  refine lv_iconst (v := 2) hx hb d_Lw_law_123 (by decide) ?_
  refine lv_iadd hx hb d_Lw_law_124 ?_
  refine va_sld hx hb hX hbl hbA hS hv2 d_Lw_law_125 ?_
  rw [← ey2]
  refine lv_aload_n hx hb d_Lw_law_126 rfl (lv_at hl 0 rfl) ?_
  refine lv_iload_n hx hb d_Lw_law_127 rfl (lv_at hl 3 rfl) ?_
  refine lv_iconst (v := 3) hx hb d_Lw_law_128 (by decide) ?_
  refine lv_iadd hx hb d_Lw_law_129 ?_
  refine va_sld hx hb hX hbl hbA hS hv3 d_Lw_law_130 ?_
  rw [← ey3]
  refine wx_ci (wS := fun v : TMd => w_M ad2 ca2 v) (ws2 := fun v : TMd => w_L ad1 ad2 ca1 ca2 v_1 v) (va_runV (As := [.int y1, .int y2, .int y3]) (rest := [.int r_1]) ⟨hx, hb, hml, hown, ht⟩ (c_Md_meaning l dC dI ad2 ca2 H.size d y1 y2 y3  _ rfl) (cwV 3 ht (tb_V q_515 q_516 q_517 q_47 q_518) rfl rfl rfl p_Md_meaning ⟨Nat.le_of_ble_eq_true rfl, Nat.le_of_ble_eq_true rfl⟩) (wx_preV (wc := (w_M ad2 ca2 d)) hN hK hP hD [16, 17, 18, 19, 20, 21, 22, 23, 24, 25, 26, 27] [12, 13, 14, 15, 16, 17, 18, 19, 20, 21, 22] rfl (by decide) rfl (ci := 4) (q0 := 0) rfl rfl) rfl rfl hl.1 rfl (lv_room (Nat.le_of_ble_eq_true rfl)) d_Lw_law_131 ⟨Nat.le_of_ble_eq_true rfl, Nat.le_of_ble_eq_true rfl⟩) hP hD hS hA [16, 17, 18, 19, 20, 21, 22, 23, 24, 25, 26, 27] [0, 1, 2, 3, 4, 5, 6, 7, 8, 9, 10, 11, 12, 13, 14, 15] [0, 1, 2, 3, 4, 5, 6, 7, 8, 9, 10, 11, 12, 13, 14, 15, 16, 17, 18, 19, 20, 21, 22, 23, 24, 25, 26, 27] rfl rfl (by decide) (by decide) (by decide) (fun _ => rfl) (fun r_2 v_2 H locs hw_2 hP hD hS => ?_)
  have hq := inv_meaning hI y1 y2 y3
  rw [← hw_1, ← hw_2] at hq
  refine lv_icmp_eq (tgt := 434) hx hb d_Lw_law_134 (by decide) (fun c_3 => ?_) (fun c_3 => ?_)
  · obtain ⟨x4, ex4⟩ : ∃ y : Int32, y = x3 + 4 := ⟨_, rfl⟩
    refine lv_iinc (v := x4) (lv' := [(3, .int x4), (0, .ref b), (1, .ref (ad1 15)), (2, .ref (ad2 16))]) hx hb d_Lw_law_434 hl (k := 3) rfl (by rw [ex4]; rfl) (by decide) rfl (fun ls hl => ?_)
    refine lv_goto (tgt := 18) hx hb d_Lw_law_437 (by decide) ?_
    exact ih (i + 4) x4 (by omega) (by omega) (by rw [ex4]; exact step4 hx3 (by omega)) v_1 v_2 hq.2 H locs hP hD hS ls (lv_sub hl [1, 2, 3, 0] rfl)
  · exact absurd hq.1 c_3
set_option maxHeartbeats 4000000 in
set_option maxRecDepth 100000 in
theorem lc_body {p : Program} {l : Launch} {e : Env} {s : State} {m : MethodId} {below : List Frame} {meth : Method} {c : Code} {dC : Nat → ClassId} {dI : Nat → Nat → Nat} {ad1 ad2 : Nat → Nat} {ca1 ca2 : Nat → ClassId} {b L : Nat} {xs : Nat → Int32} (hL : L ≤ 2048) (C0 : lw_At p s m meth c b L xs) (hN : wx_N s) (hK : va_K (dC, dI) vwCl (t_L ca1 ca2) s) (n : Nat) (ih : ∀ (i : Nat) (x3 : Int32), i ≤ L → L < i + 4 * n + 4 → x3 = nI i → ∀ (z : TCt) (d : TMd), INV z d → ∀ (H : Heap) (locs : List Loc), va_P (dC, dI) vwCl (w_L ad1 ad2 ca1 ca2 z d) H → va_D (fun q : Nat => s.heap.size ≤ q) (w_L ad1 ad2 ca1 ca2 z d) → va_S (fun q : Nat => s.heap.size ≤ q) s.heap H locs → ∀ (ls : Array Slot), lv_has ls 4 [(0, .ref b), (1, .ref (ad1 15)), (2, .ref (ad2 16)), (3, .int x3)] → W p l e room_1 s m #[Value.ref b] below meth c H locs 28 25798 (lw_Z below #[Value.ref b] s) (F0 m 18 ls [])) (i : Nat) (x3 : Int32) (hi : i + 4 ≤ L) (hn : L < i + 4 * (n + 1) + 4) (hx3 : x3 = nI i) (z : TCt) (d : TMd) (hI : INV z d) (H : Heap) (locs : List Loc) (hP : va_P (dC, dI) vwCl (w_L ad1 ad2 ca1 ca2 z d) H) (hD : va_D (fun q : Nat => s.heap.size ≤ q) (w_L ad1 ad2 ca1 ca2 z d)) (hS : va_S (fun q : Nat => s.heap.size ≤ q) s.heap H locs) (ls : Array Slot) (hl : lv_has ls 4 [(0, .ref b), (1, .ref (ad1 15)), (2, .ref (ad2 16)), (3, .int x3)]) : W p l e room_1 s m #[Value.ref b] below meth c H locs 28 25798 (lw_Z below #[Value.ref b] s) (F0 m 139 ls []) := by
  obtain ⟨hx, hb, hr, hml, hown, hts, hX, hbl, hlocks, hgv⟩ := C0
  have hown : s.vm.findClass R_Lw = some m.cls := hown
  have ht : ∀ w ∈ TB, w.before #[Value.ref b] s = true := fun w h => hts w (List.mem_filter.mp h).1
  have hA : ∀ q : Nat, s.heap.size ≤ q → (fun q : Nat => s.heap.size ≤ q) q := fun _ h => h
  have hbA : ¬ (fun q : Nat => s.heap.size ≤ q) b := Nat.not_le.mpr hbl
  have hv1 : vp_in (x3 + 1) L := in_s hx3 1 1 (by decide) (by omega) (by omega)
  have hv2 : vp_in (x3 + 2) L := in_s hx3 2 2 (by decide) (by omega) (by omega)
  have hv3 : vp_in (x3 + 3) L := in_s hx3 3 3 (by decide) (by omega) (by omega)
  obtain ⟨y1, ey1⟩ : ∃ y, y = xs (x3 + 1).toNatClampNeg := ⟨_, rfl⟩
  obtain ⟨y2, ey2⟩ : ∃ y, y = xs (x3 + 2).toNatClampNeg := ⟨_, rfl⟩
  obtain ⟨y3, ey3⟩ : ∃ y, y = xs (x3 + 3).toNatClampNeg := ⟨_, rfl⟩
  refine lv_aload_n hx hb d_Lw_law_139 rfl (lv_at hl 1 rfl) ?_
  refine wx_ci (wS := fun v : TCt => w_C ad1 ca1 v) (ws2 := fun v : TCt => w_L ad1 ad2 ca1 ca2 v d) (va_runV (As := []) (rest := []) ⟨hx, hb, hml, hown, ht⟩ (c_Ct_body l dC dI ad1 ca1 H.size z   _ rfl) (cwV 0 ht (tb_V q_194 q_195 q_196 q_42 q_197) rfl rfl rfl p_Ct_body ⟨Nat.le_of_ble_eq_true rfl, Nat.le_of_ble_eq_true rfl⟩) (wx_preV (wc := (w_C ad1 ca1 z)) hN hK hP hD [0, 1, 2, 3, 4, 5, 6, 7, 8, 9, 10, 11, 12, 13, 14, 15] [0, 1, 2, 3, 4, 5, 6, 7, 8, 9, 10, 11] rfl (by decide) rfl (ci := 3) (q0 := 0) rfl rfl) rfl rfl hl.1 rfl (lv_room (Nat.le_of_ble_eq_true rfl)) d_Lw_law_140 ⟨Nat.le_of_ble_eq_true rfl, Nat.le_of_ble_eq_true rfl⟩) hP hD hS hA [0, 1, 2, 3, 4, 5, 6, 7, 8, 9, 10, 11, 12, 13, 14, 15] [16, 17, 18, 19, 20, 21, 22, 23, 24, 25, 26, 27] [12, 13, 14, 15, 16, 17, 18, 19, 20, 21, 22, 23, 24, 25, 26, 27, 0, 1, 2, 3, 4, 5, 6, 7, 8, 9, 10, 11] rfl rfl (by decide) (by decide) (by decide) (fun _ => rfl) (fun r_1 v_1 H locs hw_1 hP hD hS => ?_)
  refine lv_aload_n hx hb d_Lw_law_143 rfl (lv_at hl 2 rfl) ?_
  refine wx_ci (wS := fun v : TMd => w_M ad2 ca2 v) (ws2 := fun v : TMd => w_L ad1 ad2 ca1 ca2 v_1 v) (va_runV (As := []) (rest := [.int r_1]) ⟨hx, hb, hml, hown, ht⟩ (c_Md_body l dC dI ad2 ca2 H.size d   _ rfl) (cwV 0 ht (tb_V q_524 q_525 q_526 q_47 q_527) rfl rfl rfl p_Md_body ⟨Nat.le_of_ble_eq_true rfl, Nat.le_of_ble_eq_true rfl⟩) (wx_preV (wc := (w_M ad2 ca2 d)) hN hK hP hD [16, 17, 18, 19, 20, 21, 22, 23, 24, 25, 26, 27] [12, 13, 14, 15, 16, 17, 18, 19, 20, 21, 22] rfl (by decide) rfl (ci := 4) (q0 := 0) rfl rfl) rfl rfl hl.1 rfl (lv_room (Nat.le_of_ble_eq_true rfl)) d_Lw_law_144 ⟨Nat.le_of_ble_eq_true rfl, Nat.le_of_ble_eq_true rfl⟩) hP hD hS hA [16, 17, 18, 19, 20, 21, 22, 23, 24, 25, 26, 27] [0, 1, 2, 3, 4, 5, 6, 7, 8, 9, 10, 11, 12, 13, 14, 15] [0, 1, 2, 3, 4, 5, 6, 7, 8, 9, 10, 11, 12, 13, 14, 15, 16, 17, 18, 19, 20, 21, 22, 23, 24, 25, 26, 27] rfl rfl (by decide) (by decide) (by decide) (fun _ => rfl) (fun r_2 v_2 H locs hw_2 hP hD hS => ?_)
  have hq := inv_body hI
  rw [← hw_1, ← hw_2] at hq
  refine lv_icmp_eq (tgt := 434) hx hb d_Lw_law_147 (by decide) (fun c_3 => ?_) (fun c_3 => ?_)
  · obtain ⟨x4, ex4⟩ : ∃ y : Int32, y = x3 + 4 := ⟨_, rfl⟩
    refine lv_iinc (v := x4) (lv' := [(3, .int x4), (0, .ref b), (1, .ref (ad1 15)), (2, .ref (ad2 16))]) hx hb d_Lw_law_434 hl (k := 3) rfl (by rw [ex4]; rfl) (by decide) rfl (fun ls hl => ?_)
    refine lv_goto (tgt := 18) hx hb d_Lw_law_437 (by decide) ?_
    exact ih (i + 4) x4 (by omega) (by omega) (by rw [ex4]; exact step4 hx3 (by omega)) v_1 v_2 hq.2 H locs hP hD hS ls (lv_sub hl [1, 2, 3, 0] rfl)
  · exact absurd hq.1 c_3
set_option maxHeartbeats 4000000 in
set_option maxRecDepth 100000 in
theorem lc_token {p : Program} {l : Launch} {e : Env} {s : State} {m : MethodId} {below : List Frame} {meth : Method} {c : Code} {dC : Nat → ClassId} {dI : Nat → Nat → Nat} {ad1 ad2 : Nat → Nat} {ca1 ca2 : Nat → ClassId} {b L : Nat} {xs : Nat → Int32} (hL : L ≤ 2048) (C0 : lw_At p s m meth c b L xs) (hN : wx_N s) (hK : va_K (dC, dI) vwCl (t_L ca1 ca2) s) (n : Nat) (ih : ∀ (i : Nat) (x3 : Int32), i ≤ L → L < i + 4 * n + 4 → x3 = nI i → ∀ (z : TCt) (d : TMd), INV z d → ∀ (H : Heap) (locs : List Loc), va_P (dC, dI) vwCl (w_L ad1 ad2 ca1 ca2 z d) H → va_D (fun q : Nat => s.heap.size ≤ q) (w_L ad1 ad2 ca1 ca2 z d) → va_S (fun q : Nat => s.heap.size ≤ q) s.heap H locs → ∀ (ls : Array Slot), lv_has ls 4 [(0, .ref b), (1, .ref (ad1 15)), (2, .ref (ad2 16)), (3, .int x3)] → W p l e room_1 s m #[Value.ref b] below meth c H locs 28 25798 (lw_Z below #[Value.ref b] s) (F0 m 18 ls [])) (i : Nat) (x3 : Int32) (hi : i + 4 ≤ L) (hn : L < i + 4 * (n + 1) + 4) (hx3 : x3 = nI i) (z : TCt) (d : TMd) (hI : INV z d) (H : Heap) (locs : List Loc) (hP : va_P (dC, dI) vwCl (w_L ad1 ad2 ca1 ca2 z d) H) (hD : va_D (fun q : Nat => s.heap.size ≤ q) (w_L ad1 ad2 ca1 ca2 z d)) (hS : va_S (fun q : Nat => s.heap.size ≤ q) s.heap H locs) (ls : Array Slot) (hl : lv_has ls 4 [(0, .ref b), (1, .ref (ad1 15)), (2, .ref (ad2 16)), (3, .int x3)]) : W p l e room_1 s m #[Value.ref b] below meth c H locs 28 25798 (lw_Z below #[Value.ref b] s) (F0 m 152 ls []) := by
  obtain ⟨hx, hb, hr, hml, hown, hts, hX, hbl, hlocks, hgv⟩ := C0
  have hown : s.vm.findClass R_Lw = some m.cls := hown
  have ht : ∀ w ∈ TB, w.before #[Value.ref b] s = true := fun w h => hts w (List.mem_filter.mp h).1
  have hA : ∀ q : Nat, s.heap.size ≤ q → (fun q : Nat => s.heap.size ≤ q) q := fun _ h => h
  have hbA : ¬ (fun q : Nat => s.heap.size ≤ q) b := Nat.not_le.mpr hbl
  have hv1 : vp_in (x3 + 1) L := in_s hx3 1 1 (by decide) (by omega) (by omega)
  have hv2 : vp_in (x3 + 2) L := in_s hx3 2 2 (by decide) (by omega) (by omega)
  have hv3 : vp_in (x3 + 3) L := in_s hx3 3 3 (by decide) (by omega) (by omega)
  obtain ⟨y1, ey1⟩ : ∃ y, y = xs (x3 + 1).toNatClampNeg := ⟨_, rfl⟩
  obtain ⟨y2, ey2⟩ : ∃ y, y = xs (x3 + 2).toNatClampNeg := ⟨_, rfl⟩
  obtain ⟨y3, ey3⟩ : ∃ y, y = xs (x3 + 3).toNatClampNeg := ⟨_, rfl⟩
  refine lv_aload_n hx hb d_Lw_law_152 rfl (lv_at hl 1 rfl) ?_
  refine lv_aload_n hx hb d_Lw_law_153 rfl (lv_at hl 0 rfl) ?_
  refine lv_iload_n hx hb d_Lw_law_154 rfl (lv_at hl 3 rfl) ?_
  refine lv_iconst (v := 1) hx hb d_Lw_law_155 (by decide) ?_
  refine lv_iadd hx hb d_Lw_law_156 ?_
  refine va_sld hx hb hX hbl hbA hS hv1 d_Lw_law_157 ?_
  rw [← ey1]
  refine lv_aload_n hx hb d_Lw_law_158 rfl (lv_at hl 0 rfl) ?_
  refine lv_iload_n hx hb d_Lw_law_159 rfl (lv_at hl 3 rfl) ?_
  refine lv_iconst (v := 2) hx hb d_Lw_law_160 (by decide) ?_
  refine lv_iadd hx hb d_Lw_law_161 ?_
  refine va_sld hx hb hX hbl hbA hS hv2 d_Lw_law_162 ?_
  rw [← ey2]
  refine wx_ci (wS := fun v : TCt => w_C ad1 ca1 v) (ws2 := fun v : TCt => w_L ad1 ad2 ca1 ca2 v d) (va_runV (As := [.int y1, .int y2]) (rest := []) ⟨hx, hb, hml, hown, ht⟩ (c_Ct_token l dC dI ad1 ca1 H.size z y1 y2 (BkS_of hI) _ rfl) (cwV 2 ht (tb_V q_202 q_203 q_204 q_42 q_205) rfl rfl rfl p_Ct_token ⟨Nat.le_of_ble_eq_true rfl, Nat.le_of_ble_eq_true rfl⟩) (wx_preV (wc := (w_C ad1 ca1 z)) hN hK hP hD [0, 1, 2, 3, 4, 5, 6, 7, 8, 9, 10, 11, 12, 13, 14, 15] [0, 1, 2, 3, 4, 5, 6, 7, 8, 9, 10, 11] rfl (by decide) rfl (ci := 3) (q0 := 0) rfl rfl) rfl rfl hl.1 rfl (lv_room (Nat.le_of_ble_eq_true rfl)) d_Lw_law_163 ⟨Nat.le_of_ble_eq_true rfl, Nat.le_of_ble_eq_true rfl⟩) hP hD hS hA [0, 1, 2, 3, 4, 5, 6, 7, 8, 9, 10, 11, 12, 13, 14, 15] [16, 17, 18, 19, 20, 21, 22, 23, 24, 25, 26, 27] [12, 13, 14, 15, 16, 17, 18, 19, 20, 21, 22, 23, 24, 25, 26, 27, 0, 1, 2, 3, 4, 5, 6, 7, 8, 9, 10, 11] rfl rfl (by decide) (by decide) (by decide) (fun _ => rfl) (fun r_1 v_1 H locs hw_1 hP hD hS => ?_)
  refine lv_aload_n hx hb d_Lw_law_166 rfl (lv_at hl 2 rfl) ?_
  refine lv_aload_n hx hb d_Lw_law_167 rfl (lv_at hl 0 rfl) ?_
  refine lv_iload_n hx hb d_Lw_law_168 rfl (lv_at hl 3 rfl) ?_
  refine lv_iconst (v := 1) hx hb d_Lw_law_169 (by decide) ?_
  refine lv_iadd hx hb d_Lw_law_170 ?_
  refine va_sld hx hb hX hbl hbA hS hv1 d_Lw_law_171 ?_
  rw [← ey1]
  refine lv_aload_n hx hb d_Lw_law_172 rfl (lv_at hl 0 rfl) ?_
  refine lv_iload_n hx hb d_Lw_law_173 rfl (lv_at hl 3 rfl) ?_
  refine lv_iconst (v := 2) hx hb d_Lw_law_174 (by decide) ?_
  refine lv_iadd hx hb d_Lw_law_175 ?_
  refine va_sld hx hb hX hbl hbA hS hv2 d_Lw_law_176 ?_
  rw [← ey2]
  refine wx_ci (wS := fun v : TMd => w_M ad2 ca2 v) (ws2 := fun v : TMd => w_L ad1 ad2 ca1 ca2 v_1 v) (va_runV (As := [.int y1, .int y2]) (rest := [.int r_1]) ⟨hx, hb, hml, hown, ht⟩ (c_Md_token l dC dI ad2 ca2 H.size d y1 y2 hI.2.1 _ rfl) (cwV 2 ht (tb_V q_528 q_529 q_530 q_47 q_531) rfl rfl rfl p_Md_token ⟨Nat.le_of_ble_eq_true rfl, Nat.le_of_ble_eq_true rfl⟩) (wx_preV (wc := (w_M ad2 ca2 d)) hN hK hP hD [16, 17, 18, 19, 20, 21, 22, 23, 24, 25, 26, 27] [12, 13, 14, 15, 16, 17, 18, 19, 20, 21, 22] rfl (by decide) rfl (ci := 4) (q0 := 0) rfl rfl) rfl rfl hl.1 rfl (lv_room (Nat.le_of_ble_eq_true rfl)) d_Lw_law_177 ⟨Nat.le_of_ble_eq_true rfl, Nat.le_of_ble_eq_true rfl⟩) hP hD hS hA [16, 17, 18, 19, 20, 21, 22, 23, 24, 25, 26, 27] [0, 1, 2, 3, 4, 5, 6, 7, 8, 9, 10, 11, 12, 13, 14, 15] [0, 1, 2, 3, 4, 5, 6, 7, 8, 9, 10, 11, 12, 13, 14, 15, 16, 17, 18, 19, 20, 21, 22, 23, 24, 25, 26, 27] rfl rfl (by decide) (by decide) (by decide) (fun _ => rfl) (fun r_2 v_2 H locs hw_2 hP hD hS => ?_)
  have hq := inv_token hI y1 y2
  rw [← hw_1, ← hw_2] at hq
  refine lv_icmp_eq (tgt := 434) hx hb d_Lw_law_180 (by decide) (fun c_3 => ?_) (fun c_3 => ?_)
  · obtain ⟨x4, ex4⟩ : ∃ y : Int32, y = x3 + 4 := ⟨_, rfl⟩
    refine lv_iinc (v := x4) (lv' := [(3, .int x4), (0, .ref b), (1, .ref (ad1 15)), (2, .ref (ad2 16))]) hx hb d_Lw_law_434 hl (k := 3) rfl (by rw [ex4]; rfl) (by decide) rfl (fun ls hl => ?_)
    refine lv_goto (tgt := 18) hx hb d_Lw_law_437 (by decide) ?_
    exact ih (i + 4) x4 (by omega) (by omega) (by rw [ex4]; exact step4 hx3 (by omega)) v_1 v_2 hq.2 H locs hP hD hS ls (lv_sub hl [1, 2, 3, 0] rfl)
  · exact absurd hq.1 c_3
set_option maxHeartbeats 4000000 in
set_option maxRecDepth 100000 in
theorem lc_clear {p : Program} {l : Launch} {e : Env} {s : State} {m : MethodId} {below : List Frame} {meth : Method} {c : Code} {dC : Nat → ClassId} {dI : Nat → Nat → Nat} {ad1 ad2 : Nat → Nat} {ca1 ca2 : Nat → ClassId} {b L : Nat} {xs : Nat → Int32} (hL : L ≤ 2048) (C0 : lw_At p s m meth c b L xs) (hN : wx_N s) (hK : va_K (dC, dI) vwCl (t_L ca1 ca2) s) (n : Nat) (ih : ∀ (i : Nat) (x3 : Int32), i ≤ L → L < i + 4 * n + 4 → x3 = nI i → ∀ (z : TCt) (d : TMd), INV z d → ∀ (H : Heap) (locs : List Loc), va_P (dC, dI) vwCl (w_L ad1 ad2 ca1 ca2 z d) H → va_D (fun q : Nat => s.heap.size ≤ q) (w_L ad1 ad2 ca1 ca2 z d) → va_S (fun q : Nat => s.heap.size ≤ q) s.heap H locs → ∀ (ls : Array Slot), lv_has ls 4 [(0, .ref b), (1, .ref (ad1 15)), (2, .ref (ad2 16)), (3, .int x3)] → W p l e room_1 s m #[Value.ref b] below meth c H locs 28 25798 (lw_Z below #[Value.ref b] s) (F0 m 18 ls [])) (i : Nat) (x3 : Int32) (hi : i + 4 ≤ L) (hn : L < i + 4 * (n + 1) + 4) (hx3 : x3 = nI i) (z : TCt) (d : TMd) (hI : INV z d) (H : Heap) (locs : List Loc) (hP : va_P (dC, dI) vwCl (w_L ad1 ad2 ca1 ca2 z d) H) (hD : va_D (fun q : Nat => s.heap.size ≤ q) (w_L ad1 ad2 ca1 ca2 z d)) (hS : va_S (fun q : Nat => s.heap.size ≤ q) s.heap H locs) (ls : Array Slot) (hl : lv_has ls 4 [(0, .ref b), (1, .ref (ad1 15)), (2, .ref (ad2 16)), (3, .int x3)]) : W p l e room_1 s m #[Value.ref b] below meth c H locs 28 25798 (lw_Z below #[Value.ref b] s) (F0 m 185 ls []) := by
  obtain ⟨hx, hb, hr, hml, hown, hts, hX, hbl, hlocks, hgv⟩ := C0
  have hown : s.vm.findClass R_Lw = some m.cls := hown
  have ht : ∀ w ∈ TB, w.before #[Value.ref b] s = true := fun w h => hts w (List.mem_filter.mp h).1
  have hA : ∀ q : Nat, s.heap.size ≤ q → (fun q : Nat => s.heap.size ≤ q) q := fun _ h => h
  have hbA : ¬ (fun q : Nat => s.heap.size ≤ q) b := Nat.not_le.mpr hbl
  have hv1 : vp_in (x3 + 1) L := in_s hx3 1 1 (by decide) (by omega) (by omega)
  have hv2 : vp_in (x3 + 2) L := in_s hx3 2 2 (by decide) (by omega) (by omega)
  have hv3 : vp_in (x3 + 3) L := in_s hx3 3 3 (by decide) (by omega) (by omega)
  obtain ⟨y1, ey1⟩ : ∃ y, y = xs (x3 + 1).toNatClampNeg := ⟨_, rfl⟩
  obtain ⟨y2, ey2⟩ : ∃ y, y = xs (x3 + 2).toNatClampNeg := ⟨_, rfl⟩
  obtain ⟨y3, ey3⟩ : ∃ y, y = xs (x3 + 3).toNatClampNeg := ⟨_, rfl⟩
  refine lv_aload_n hx hb d_Lw_law_185 rfl (lv_at hl 1 rfl) ?_
  refine wx_ci (wS := fun v : TCt => w_C ad1 ca1 v) (ws2 := fun v : TCt => w_L ad1 ad2 ca1 ca2 v d) (va_runV (As := []) (rest := []) ⟨hx, hb, hml, hown, ht⟩ (c_Ct_clear l dC dI ad1 ca1 H.size z   _ rfl) (cwV 0 ht (tb_V q_220 q_221 q_222 q_42 q_223) rfl rfl rfl p_Ct_clear ⟨Nat.le_of_ble_eq_true rfl, Nat.le_of_ble_eq_true rfl⟩) (wx_preV (wc := (w_C ad1 ca1 z)) hN hK hP hD [0, 1, 2, 3, 4, 5, 6, 7, 8, 9, 10, 11, 12, 13, 14, 15] [0, 1, 2, 3, 4, 5, 6, 7, 8, 9, 10, 11] rfl (by decide) rfl (ci := 3) (q0 := 0) rfl rfl) rfl rfl hl.1 rfl (lv_room (Nat.le_of_ble_eq_true rfl)) d_Lw_law_186 ⟨Nat.le_of_ble_eq_true rfl, Nat.le_of_ble_eq_true rfl⟩) hP hD hS hA [0, 1, 2, 3, 4, 5, 6, 7, 8, 9, 10, 11, 12, 13, 14, 15] [16, 17, 18, 19, 20, 21, 22, 23, 24, 25, 26, 27] [12, 13, 14, 15, 16, 17, 18, 19, 20, 21, 22, 23, 24, 25, 26, 27, 0, 1, 2, 3, 4, 5, 6, 7, 8, 9, 10, 11] rfl rfl (by decide) (by decide) (by decide) (fun _ => rfl) (fun r_1 v_1 H locs hw_1 hP hD hS => ?_)
  refine lv_aload_n hx hb d_Lw_law_189 rfl (lv_at hl 2 rfl) ?_
  refine wx_ci (wS := fun v : TMd => w_M ad2 ca2 v) (ws2 := fun v : TMd => w_L ad1 ad2 ca1 ca2 v_1 v) (va_runV (As := []) (rest := [.int r_1]) ⟨hx, hb, hml, hown, ht⟩ (c_Md_clear l dC dI ad2 ca2 H.size d   _ rfl) (cwV 0 ht (tb_V q_535 q_536 q_537 q_47 q_538) rfl rfl rfl p_Md_clear ⟨Nat.le_of_ble_eq_true rfl, Nat.le_of_ble_eq_true rfl⟩) (wx_preV (wc := (w_M ad2 ca2 d)) hN hK hP hD [16, 17, 18, 19, 20, 21, 22, 23, 24, 25, 26, 27] [12, 13, 14, 15, 16, 17, 18, 19, 20, 21, 22] rfl (by decide) rfl (ci := 4) (q0 := 0) rfl rfl) rfl rfl hl.1 rfl (lv_room (Nat.le_of_ble_eq_true rfl)) d_Lw_law_190 ⟨Nat.le_of_ble_eq_true rfl, Nat.le_of_ble_eq_true rfl⟩) hP hD hS hA [16, 17, 18, 19, 20, 21, 22, 23, 24, 25, 26, 27] [0, 1, 2, 3, 4, 5, 6, 7, 8, 9, 10, 11, 12, 13, 14, 15] [0, 1, 2, 3, 4, 5, 6, 7, 8, 9, 10, 11, 12, 13, 14, 15, 16, 17, 18, 19, 20, 21, 22, 23, 24, 25, 26, 27] rfl rfl (by decide) (by decide) (by decide) (fun _ => rfl) (fun r_2 v_2 H locs hw_2 hP hD hS => ?_)
  have hq := inv_clear hI
  rw [← hw_1, ← hw_2] at hq
  refine lv_icmp_eq (tgt := 434) hx hb d_Lw_law_193 (by decide) (fun c_3 => ?_) (fun c_3 => ?_)
  · obtain ⟨x4, ex4⟩ : ∃ y : Int32, y = x3 + 4 := ⟨_, rfl⟩
    refine lv_iinc (v := x4) (lv' := [(3, .int x4), (0, .ref b), (1, .ref (ad1 15)), (2, .ref (ad2 16))]) hx hb d_Lw_law_434 hl (k := 3) rfl (by rw [ex4]; rfl) (by decide) rfl (fun ls hl => ?_)
    refine lv_goto (tgt := 18) hx hb d_Lw_law_437 (by decide) ?_
    exact ih (i + 4) x4 (by omega) (by omega) (by rw [ex4]; exact step4 hx3 (by omega)) v_1 v_2 hq.2 H locs hP hD hS ls (lv_sub hl [1, 2, 3, 0] rfl)
  · exact absurd hq.1 c_3
set_option maxHeartbeats 4000000 in
set_option maxRecDepth 100000 in
theorem lc_mode {p : Program} {l : Launch} {e : Env} {s : State} {m : MethodId} {below : List Frame} {meth : Method} {c : Code} {dC : Nat → ClassId} {dI : Nat → Nat → Nat} {ad1 ad2 : Nat → Nat} {ca1 ca2 : Nat → ClassId} {b L : Nat} {xs : Nat → Int32} (hL : L ≤ 2048) (C0 : lw_At p s m meth c b L xs) (hN : wx_N s) (hK : va_K (dC, dI) vwCl (t_L ca1 ca2) s) (n : Nat) (ih : ∀ (i : Nat) (x3 : Int32), i ≤ L → L < i + 4 * n + 4 → x3 = nI i → ∀ (z : TCt) (d : TMd), INV z d → ∀ (H : Heap) (locs : List Loc), va_P (dC, dI) vwCl (w_L ad1 ad2 ca1 ca2 z d) H → va_D (fun q : Nat => s.heap.size ≤ q) (w_L ad1 ad2 ca1 ca2 z d) → va_S (fun q : Nat => s.heap.size ≤ q) s.heap H locs → ∀ (ls : Array Slot), lv_has ls 4 [(0, .ref b), (1, .ref (ad1 15)), (2, .ref (ad2 16)), (3, .int x3)] → W p l e room_1 s m #[Value.ref b] below meth c H locs 28 25798 (lw_Z below #[Value.ref b] s) (F0 m 18 ls [])) (i : Nat) (x3 : Int32) (hi : i + 4 ≤ L) (hn : L < i + 4 * (n + 1) + 4) (hx3 : x3 = nI i) (z : TCt) (d : TMd) (hI : INV z d) (H : Heap) (locs : List Loc) (hP : va_P (dC, dI) vwCl (w_L ad1 ad2 ca1 ca2 z d) H) (hD : va_D (fun q : Nat => s.heap.size ≤ q) (w_L ad1 ad2 ca1 ca2 z d)) (hS : va_S (fun q : Nat => s.heap.size ≤ q) s.heap H locs) (ls : Array Slot) (hl : lv_has ls 4 [(0, .ref b), (1, .ref (ad1 15)), (2, .ref (ad2 16)), (3, .int x3)]) : W p l e room_1 s m #[Value.ref b] below meth c H locs 28 25798 (lw_Z below #[Value.ref b] s) (F0 m 198 ls []) := by
  obtain ⟨hx, hb, hr, hml, hown, hts, hX, hbl, hlocks, hgv⟩ := C0
  have hown : s.vm.findClass R_Lw = some m.cls := hown
  have ht : ∀ w ∈ TB, w.before #[Value.ref b] s = true := fun w h => hts w (List.mem_filter.mp h).1
  have hA : ∀ q : Nat, s.heap.size ≤ q → (fun q : Nat => s.heap.size ≤ q) q := fun _ h => h
  have hbA : ¬ (fun q : Nat => s.heap.size ≤ q) b := Nat.not_le.mpr hbl
  have hv1 : vp_in (x3 + 1) L := in_s hx3 1 1 (by decide) (by omega) (by omega)
  have hv2 : vp_in (x3 + 2) L := in_s hx3 2 2 (by decide) (by omega) (by omega)
  have hv3 : vp_in (x3 + 3) L := in_s hx3 3 3 (by decide) (by omega) (by omega)
  obtain ⟨y1, ey1⟩ : ∃ y, y = xs (x3 + 1).toNatClampNeg := ⟨_, rfl⟩
  obtain ⟨y2, ey2⟩ : ∃ y, y = xs (x3 + 2).toNatClampNeg := ⟨_, rfl⟩
  obtain ⟨y3, ey3⟩ : ∃ y, y = xs (x3 + 3).toNatClampNeg := ⟨_, rfl⟩
  refine lv_aload_n hx hb d_Lw_law_198 rfl (lv_at hl 1 rfl) ?_
  refine lv_aload_n hx hb d_Lw_law_199 rfl (lv_at hl 0 rfl) ?_
  refine lv_iload_n hx hb d_Lw_law_200 rfl (lv_at hl 3 rfl) ?_
  refine lv_iconst (v := 1) hx hb d_Lw_law_201 (by decide) ?_
  refine lv_iadd hx hb d_Lw_law_202 ?_
  refine va_sld hx hb hX hbl hbA hS hv1 d_Lw_law_203 ?_
  rw [← ey1]
  refine lv_aload_n hx hb d_Lw_law_204 rfl (lv_at hl 0 rfl) ?_
  refine lv_iload_n hx hb d_Lw_law_205 rfl (lv_at hl 3 rfl) ?_
  refine lv_iconst (v := 2) hx hb d_Lw_law_206 (by decide) ?_
  refine lv_iadd hx hb d_Lw_law_207 ?_
  refine va_sld hx hb hX hbl hbA hS hv2 d_Lw_law_208 ?_
  rw [← ey2]
  refine lv_if_eq (tgt := 216) hx hb d_Lw_law_209 (by decide) (fun c_1 => ?_) (fun c_1 => ?_)
  · refine lv_iconst (v := 0) hx hb d_Lw_law_216 (by decide) ?_
    refine wx_ci (wS := fun v : TCt => w_C ad1 ca1 v) (ws2 := fun v : TCt => w_L ad1 ad2 ca1 ca2 v d) (va_runV (As := [.int y1, .int 0]) (rest := []) ⟨hx, hb, hml, hown, ht⟩ (c_Ct_mode l dC dI ad1 ca1 H.size z y1 0  _ rfl) (cwV 2 ht (tb_V q_228 q_229 q_230 q_42 q_231) rfl rfl rfl p_Ct_mode ⟨Nat.le_of_ble_eq_true rfl, Nat.le_of_ble_eq_true rfl⟩) (wx_preV (wc := (w_C ad1 ca1 z)) hN hK hP hD [0, 1, 2, 3, 4, 5, 6, 7, 8, 9, 10, 11, 12, 13, 14, 15] [0, 1, 2, 3, 4, 5, 6, 7, 8, 9, 10, 11] rfl (by decide) rfl (ci := 3) (q0 := 0) rfl rfl) rfl rfl hl.1 rfl (lv_room (Nat.le_of_ble_eq_true rfl)) d_Lw_law_217 ⟨Nat.le_of_ble_eq_true rfl, Nat.le_of_ble_eq_true rfl⟩) hP hD hS hA [0, 1, 2, 3, 4, 5, 6, 7, 8, 9, 10, 11, 12, 13, 14, 15] [16, 17, 18, 19, 20, 21, 22, 23, 24, 25, 26, 27] [12, 13, 14, 15, 16, 17, 18, 19, 20, 21, 22, 23, 24, 25, 26, 27, 0, 1, 2, 3, 4, 5, 6, 7, 8, 9, 10, 11] rfl rfl (by decide) (by decide) (by decide) (fun _ => rfl) (fun r_2 v_2 H locs hw_2 hP hD hS => ?_)
    refine lv_aload_n hx hb d_Lw_law_220 rfl (lv_at hl 2 rfl) ?_
    refine lv_aload_n hx hb d_Lw_law_221 rfl (lv_at hl 0 rfl) ?_
    refine lv_iload_n hx hb d_Lw_law_222 rfl (lv_at hl 3 rfl) ?_
    refine lv_iconst (v := 1) hx hb d_Lw_law_223 (by decide) ?_
    refine lv_iadd hx hb d_Lw_law_224 ?_
    refine va_sld hx hb hX hbl hbA hS hv1 d_Lw_law_225 ?_
    rw [← ey1]
    refine lv_aload_n hx hb d_Lw_law_226 rfl (lv_at hl 0 rfl) ?_
    refine lv_iload_n hx hb d_Lw_law_227 rfl (lv_at hl 3 rfl) ?_
    refine lv_iconst (v := 2) hx hb d_Lw_law_228 (by decide) ?_
    refine lv_iadd hx hb d_Lw_law_229 ?_
    refine va_sld hx hb hX hbl hbA hS hv2 d_Lw_law_230 ?_
    rw [← ey2]
    refine lv_if_eq (tgt := 238) hx hb d_Lw_law_231 (by decide) (fun c_3 => ?_) (fun c_3 => ?_)
    · refine lv_iconst (v := 0) hx hb d_Lw_law_238 (by decide) ?_
      refine wx_ci (wS := fun v : TMd => w_M ad2 ca2 v) (ws2 := fun v : TMd => w_L ad1 ad2 ca1 ca2 v_2 v) (va_runV (As := [.int y1, .int 0]) (rest := [.int r_2]) ⟨hx, hb, hml, hown, ht⟩ (c_Md_mode l dC dI ad2 ca2 H.size d y1 0  _ rfl) (cwV 2 ht (tb_V q_539 q_540 q_541 q_47 q_542) rfl rfl rfl p_Md_mode ⟨Nat.le_of_ble_eq_true rfl, Nat.le_of_ble_eq_true rfl⟩) (wx_preV (wc := (w_M ad2 ca2 d)) hN hK hP hD [16, 17, 18, 19, 20, 21, 22, 23, 24, 25, 26, 27] [12, 13, 14, 15, 16, 17, 18, 19, 20, 21, 22] rfl (by decide) rfl (ci := 4) (q0 := 0) rfl rfl) rfl rfl hl.1 rfl (lv_room (Nat.le_of_ble_eq_true rfl)) d_Lw_law_239 ⟨Nat.le_of_ble_eq_true rfl, Nat.le_of_ble_eq_true rfl⟩) hP hD hS hA [16, 17, 18, 19, 20, 21, 22, 23, 24, 25, 26, 27] [0, 1, 2, 3, 4, 5, 6, 7, 8, 9, 10, 11, 12, 13, 14, 15] [0, 1, 2, 3, 4, 5, 6, 7, 8, 9, 10, 11, 12, 13, 14, 15, 16, 17, 18, 19, 20, 21, 22, 23, 24, 25, 26, 27] rfl rfl (by decide) (by decide) (by decide) (fun _ => rfl) (fun r_4 v_4 H locs hw_4 hP hD hS => ?_)
      have hq := inv_mode hI y1 0
      rw [← hw_2, ← hw_4] at hq
      refine lv_icmp_eq (tgt := 434) hx hb d_Lw_law_242 (by decide) (fun c_5 => ?_) (fun c_5 => ?_)
      · obtain ⟨x4, ex4⟩ : ∃ y : Int32, y = x3 + 4 := ⟨_, rfl⟩
        refine lv_iinc (v := x4) (lv' := [(3, .int x4), (0, .ref b), (1, .ref (ad1 15)), (2, .ref (ad2 16))]) hx hb d_Lw_law_434 hl (k := 3) rfl (by rw [ex4]; rfl) (by decide) rfl (fun ls hl => ?_)
        refine lv_goto (tgt := 18) hx hb d_Lw_law_437 (by decide) ?_
        exact ih (i + 4) x4 (by omega) (by omega) (by rw [ex4]; exact step4 hx3 (by omega)) v_2 v_4 hq.2 H locs hP hD hS ls (lv_sub hl [1, 2, 3, 0] rfl)
      · exact absurd hq.1 c_5
    · exact absurd c_1 c_3
  · refine lv_iconst (v := 1) hx hb d_Lw_law_212 (by decide) ?_
    refine lv_goto (tgt := 217) hx hb d_Lw_law_213 (by decide) ?_
    refine wx_ci (wS := fun v : TCt => w_C ad1 ca1 v) (ws2 := fun v : TCt => w_L ad1 ad2 ca1 ca2 v d) (va_runV (As := [.int y1, .int 1]) (rest := []) ⟨hx, hb, hml, hown, ht⟩ (c_Ct_mode l dC dI ad1 ca1 H.size z y1 1  _ rfl) (cwV 2 ht (tb_V q_228 q_229 q_230 q_42 q_231) rfl rfl rfl p_Ct_mode ⟨Nat.le_of_ble_eq_true rfl, Nat.le_of_ble_eq_true rfl⟩) (wx_preV (wc := (w_C ad1 ca1 z)) hN hK hP hD [0, 1, 2, 3, 4, 5, 6, 7, 8, 9, 10, 11, 12, 13, 14, 15] [0, 1, 2, 3, 4, 5, 6, 7, 8, 9, 10, 11] rfl (by decide) rfl (ci := 3) (q0 := 0) rfl rfl) rfl rfl hl.1 rfl (lv_room (Nat.le_of_ble_eq_true rfl)) d_Lw_law_217 ⟨Nat.le_of_ble_eq_true rfl, Nat.le_of_ble_eq_true rfl⟩) hP hD hS hA [0, 1, 2, 3, 4, 5, 6, 7, 8, 9, 10, 11, 12, 13, 14, 15] [16, 17, 18, 19, 20, 21, 22, 23, 24, 25, 26, 27] [12, 13, 14, 15, 16, 17, 18, 19, 20, 21, 22, 23, 24, 25, 26, 27, 0, 1, 2, 3, 4, 5, 6, 7, 8, 9, 10, 11] rfl rfl (by decide) (by decide) (by decide) (fun _ => rfl) (fun r_6 v_6 H locs hw_6 hP hD hS => ?_)
    refine lv_aload_n hx hb d_Lw_law_220 rfl (lv_at hl 2 rfl) ?_
    refine lv_aload_n hx hb d_Lw_law_221 rfl (lv_at hl 0 rfl) ?_
    refine lv_iload_n hx hb d_Lw_law_222 rfl (lv_at hl 3 rfl) ?_
    refine lv_iconst (v := 1) hx hb d_Lw_law_223 (by decide) ?_
    refine lv_iadd hx hb d_Lw_law_224 ?_
    refine va_sld hx hb hX hbl hbA hS hv1 d_Lw_law_225 ?_
    rw [← ey1]
    refine lv_aload_n hx hb d_Lw_law_226 rfl (lv_at hl 0 rfl) ?_
    refine lv_iload_n hx hb d_Lw_law_227 rfl (lv_at hl 3 rfl) ?_
    refine lv_iconst (v := 2) hx hb d_Lw_law_228 (by decide) ?_
    refine lv_iadd hx hb d_Lw_law_229 ?_
    refine va_sld hx hb hX hbl hbA hS hv2 d_Lw_law_230 ?_
    rw [← ey2]
    refine lv_if_eq (tgt := 238) hx hb d_Lw_law_231 (by decide) (fun c_7 => ?_) (fun c_7 => ?_)
    · exact absurd c_7 c_1
    · refine lv_iconst (v := 1) hx hb d_Lw_law_234 (by decide) ?_
      refine lv_goto (tgt := 239) hx hb d_Lw_law_235 (by decide) ?_
      refine wx_ci (wS := fun v : TMd => w_M ad2 ca2 v) (ws2 := fun v : TMd => w_L ad1 ad2 ca1 ca2 v_6 v) (va_runV (As := [.int y1, .int 1]) (rest := [.int r_6]) ⟨hx, hb, hml, hown, ht⟩ (c_Md_mode l dC dI ad2 ca2 H.size d y1 1  _ rfl) (cwV 2 ht (tb_V q_539 q_540 q_541 q_47 q_542) rfl rfl rfl p_Md_mode ⟨Nat.le_of_ble_eq_true rfl, Nat.le_of_ble_eq_true rfl⟩) (wx_preV (wc := (w_M ad2 ca2 d)) hN hK hP hD [16, 17, 18, 19, 20, 21, 22, 23, 24, 25, 26, 27] [12, 13, 14, 15, 16, 17, 18, 19, 20, 21, 22] rfl (by decide) rfl (ci := 4) (q0 := 0) rfl rfl) rfl rfl hl.1 rfl (lv_room (Nat.le_of_ble_eq_true rfl)) d_Lw_law_239 ⟨Nat.le_of_ble_eq_true rfl, Nat.le_of_ble_eq_true rfl⟩) hP hD hS hA [16, 17, 18, 19, 20, 21, 22, 23, 24, 25, 26, 27] [0, 1, 2, 3, 4, 5, 6, 7, 8, 9, 10, 11, 12, 13, 14, 15] [0, 1, 2, 3, 4, 5, 6, 7, 8, 9, 10, 11, 12, 13, 14, 15, 16, 17, 18, 19, 20, 21, 22, 23, 24, 25, 26, 27] rfl rfl (by decide) (by decide) (by decide) (fun _ => rfl) (fun r_8 v_8 H locs hw_8 hP hD hS => ?_)
      have hq := inv_mode hI y1 1
      rw [← hw_6, ← hw_8] at hq
      refine lv_icmp_eq (tgt := 434) hx hb d_Lw_law_242 (by decide) (fun c_9 => ?_) (fun c_9 => ?_)
      · obtain ⟨x4, ex4⟩ : ∃ y : Int32, y = x3 + 4 := ⟨_, rfl⟩
        refine lv_iinc (v := x4) (lv' := [(3, .int x4), (0, .ref b), (1, .ref (ad1 15)), (2, .ref (ad2 16))]) hx hb d_Lw_law_434 hl (k := 3) rfl (by rw [ex4]; rfl) (by decide) rfl (fun ls hl => ?_)
        refine lv_goto (tgt := 18) hx hb d_Lw_law_437 (by decide) ?_
        exact ih (i + 4) x4 (by omega) (by omega) (by rw [ex4]; exact step4 hx3 (by omega)) v_6 v_8 hq.2 H locs hP hD hS ls (lv_sub hl [1, 2, 3, 0] rfl)
      · exact absurd hq.1 c_9
set_option maxHeartbeats 4000000 in
set_option maxRecDepth 100000 in
theorem lc_end {p : Program} {l : Launch} {e : Env} {s : State} {m : MethodId} {below : List Frame} {meth : Method} {c : Code} {dC : Nat → ClassId} {dI : Nat → Nat → Nat} {ad1 ad2 : Nat → Nat} {ca1 ca2 : Nat → ClassId} {b L : Nat} {xs : Nat → Int32} (hL : L ≤ 2048) (C0 : lw_At p s m meth c b L xs) (hN : wx_N s) (hK : va_K (dC, dI) vwCl (t_L ca1 ca2) s) (n : Nat) (ih : ∀ (i : Nat) (x3 : Int32), i ≤ L → L < i + 4 * n + 4 → x3 = nI i → ∀ (z : TCt) (d : TMd), INV z d → ∀ (H : Heap) (locs : List Loc), va_P (dC, dI) vwCl (w_L ad1 ad2 ca1 ca2 z d) H → va_D (fun q : Nat => s.heap.size ≤ q) (w_L ad1 ad2 ca1 ca2 z d) → va_S (fun q : Nat => s.heap.size ≤ q) s.heap H locs → ∀ (ls : Array Slot), lv_has ls 4 [(0, .ref b), (1, .ref (ad1 15)), (2, .ref (ad2 16)), (3, .int x3)] → W p l e room_1 s m #[Value.ref b] below meth c H locs 28 25798 (lw_Z below #[Value.ref b] s) (F0 m 18 ls [])) (i : Nat) (x3 : Int32) (hi : i + 4 ≤ L) (hn : L < i + 4 * (n + 1) + 4) (hx3 : x3 = nI i) (z : TCt) (d : TMd) (hI : INV z d) (H : Heap) (locs : List Loc) (hP : va_P (dC, dI) vwCl (w_L ad1 ad2 ca1 ca2 z d) H) (hD : va_D (fun q : Nat => s.heap.size ≤ q) (w_L ad1 ad2 ca1 ca2 z d)) (hS : va_S (fun q : Nat => s.heap.size ≤ q) s.heap H locs) (ls : Array Slot) (hl : lv_has ls 4 [(0, .ref b), (1, .ref (ad1 15)), (2, .ref (ad2 16)), (3, .int x3)]) : W p l e room_1 s m #[Value.ref b] below meth c H locs 28 25798 (lw_Z below #[Value.ref b] s) (F0 m 247 ls []) := by
  obtain ⟨hx, hb, hr, hml, hown, hts, hX, hbl, hlocks, hgv⟩ := C0
  have hown : s.vm.findClass R_Lw = some m.cls := hown
  have ht : ∀ w ∈ TB, w.before #[Value.ref b] s = true := fun w h => hts w (List.mem_filter.mp h).1
  have hA : ∀ q : Nat, s.heap.size ≤ q → (fun q : Nat => s.heap.size ≤ q) q := fun _ h => h
  have hbA : ¬ (fun q : Nat => s.heap.size ≤ q) b := Nat.not_le.mpr hbl
  have hv1 : vp_in (x3 + 1) L := in_s hx3 1 1 (by decide) (by omega) (by omega)
  have hv2 : vp_in (x3 + 2) L := in_s hx3 2 2 (by decide) (by omega) (by omega)
  have hv3 : vp_in (x3 + 3) L := in_s hx3 3 3 (by decide) (by omega) (by omega)
  obtain ⟨y1, ey1⟩ : ∃ y, y = xs (x3 + 1).toNatClampNeg := ⟨_, rfl⟩
  obtain ⟨y2, ey2⟩ : ∃ y, y = xs (x3 + 2).toNatClampNeg := ⟨_, rfl⟩
  obtain ⟨y3, ey3⟩ : ∃ y, y = xs (x3 + 3).toNatClampNeg := ⟨_, rfl⟩
  refine lv_aload_n hx hb d_Lw_law_247 rfl (lv_at hl 1 rfl) ?_
  refine lv_aload_n hx hb d_Lw_law_248 rfl (lv_at hl 0 rfl) ?_
  refine lv_iload_n hx hb d_Lw_law_249 rfl (lv_at hl 3 rfl) ?_
  refine lv_iconst (v := 1) hx hb d_Lw_law_250 (by decide) ?_
  refine lv_iadd hx hb d_Lw_law_251 ?_
  refine va_sld hx hb hX hbl hbA hS hv1 d_Lw_law_252 ?_
  rw [← ey1]
  refine lv_aload_n hx hb d_Lw_law_253 rfl (lv_at hl 0 rfl) ?_
  refine lv_iload_n hx hb d_Lw_law_254 rfl (lv_at hl 3 rfl) ?_
  refine lv_iconst (v := 2) hx hb d_Lw_law_255 (by decide) ?_
  refine lv_iadd hx hb d_Lw_law_256 ?_
  refine va_sld hx hb hX hbl hbA hS hv2 d_Lw_law_257 ?_
  rw [← ey2]
  refine lv_if_eq (tgt := 265) hx hb d_Lw_law_258 (by decide) (fun c_1 => ?_) (fun c_1 => ?_)
  · refine lv_iconst (v := 0) hx hb d_Lw_law_265 (by decide) ?_
    refine wx_ci (wS := fun v : TCt => w_C ad1 ca1 v) (ws2 := fun v : TCt => w_L ad1 ad2 ca1 ca2 v d) (va_runV (As := [.int y1, .int 0]) (rest := []) ⟨hx, hb, hml, hown, ht⟩ (c_Ct_end l dC dI ad1 ca1 H.size z y1 0  _ rfl) (cwV 2 ht (tb_V q_235 q_236 q_237 q_42 q_238) rfl rfl rfl p_Ct_end ⟨Nat.le_of_ble_eq_true rfl, Nat.le_of_ble_eq_true rfl⟩) (wx_preV (wc := (w_C ad1 ca1 z)) hN hK hP hD [0, 1, 2, 3, 4, 5, 6, 7, 8, 9, 10, 11, 12, 13, 14, 15] [0, 1, 2, 3, 4, 5, 6, 7, 8, 9, 10, 11] rfl (by decide) rfl (ci := 3) (q0 := 0) rfl rfl) rfl rfl hl.1 rfl (lv_room (Nat.le_of_ble_eq_true rfl)) d_Lw_law_266 ⟨Nat.le_of_ble_eq_true rfl, Nat.le_of_ble_eq_true rfl⟩) hP hD hS hA [0, 1, 2, 3, 4, 5, 6, 7, 8, 9, 10, 11, 12, 13, 14, 15] [16, 17, 18, 19, 20, 21, 22, 23, 24, 25, 26, 27] [12, 13, 14, 15, 16, 17, 18, 19, 20, 21, 22, 23, 24, 25, 26, 27, 0, 1, 2, 3, 4, 5, 6, 7, 8, 9, 10, 11] rfl rfl (by decide) (by decide) (by decide) (fun _ => rfl) (fun r_2 v_2 H locs hw_2 hP hD hS => ?_)
    refine lv_aload_n hx hb d_Lw_law_269 rfl (lv_at hl 2 rfl) ?_
    refine lv_aload_n hx hb d_Lw_law_270 rfl (lv_at hl 0 rfl) ?_
    refine lv_iload_n hx hb d_Lw_law_271 rfl (lv_at hl 3 rfl) ?_
    refine lv_iconst (v := 1) hx hb d_Lw_law_272 (by decide) ?_
    refine lv_iadd hx hb d_Lw_law_273 ?_
    refine va_sld hx hb hX hbl hbA hS hv1 d_Lw_law_274 ?_
    rw [← ey1]
    refine lv_aload_n hx hb d_Lw_law_275 rfl (lv_at hl 0 rfl) ?_
    refine lv_iload_n hx hb d_Lw_law_276 rfl (lv_at hl 3 rfl) ?_
    refine lv_iconst (v := 2) hx hb d_Lw_law_277 (by decide) ?_
    refine lv_iadd hx hb d_Lw_law_278 ?_
    refine va_sld hx hb hX hbl hbA hS hv2 d_Lw_law_279 ?_
    rw [← ey2]
    refine lv_if_eq (tgt := 287) hx hb d_Lw_law_280 (by decide) (fun c_3 => ?_) (fun c_3 => ?_)
    · refine lv_iconst (v := 0) hx hb d_Lw_law_287 (by decide) ?_
      refine wx_ci (wS := fun v : TMd => w_M ad2 ca2 v) (ws2 := fun v : TMd => w_L ad1 ad2 ca1 ca2 v_2 v) (va_runV (As := [.int y1, .int 0]) (rest := [.int r_2]) ⟨hx, hb, hml, hown, ht⟩ (c_Md_end l dC dI ad2 ca2 H.size d y1 0  _ rfl) (cwV 2 ht (tb_V q_543 q_544 q_545 q_47 q_546) rfl rfl rfl p_Md_end ⟨Nat.le_of_ble_eq_true rfl, Nat.le_of_ble_eq_true rfl⟩) (wx_preV (wc := (w_M ad2 ca2 d)) hN hK hP hD [16, 17, 18, 19, 20, 21, 22, 23, 24, 25, 26, 27] [12, 13, 14, 15, 16, 17, 18, 19, 20, 21, 22] rfl (by decide) rfl (ci := 4) (q0 := 0) rfl rfl) rfl rfl hl.1 rfl (lv_room (Nat.le_of_ble_eq_true rfl)) d_Lw_law_288 ⟨Nat.le_of_ble_eq_true rfl, Nat.le_of_ble_eq_true rfl⟩) hP hD hS hA [16, 17, 18, 19, 20, 21, 22, 23, 24, 25, 26, 27] [0, 1, 2, 3, 4, 5, 6, 7, 8, 9, 10, 11, 12, 13, 14, 15] [0, 1, 2, 3, 4, 5, 6, 7, 8, 9, 10, 11, 12, 13, 14, 15, 16, 17, 18, 19, 20, 21, 22, 23, 24, 25, 26, 27] rfl rfl (by decide) (by decide) (by decide) (fun _ => rfl) (fun r_4 v_4 H locs hw_4 hP hD hS => ?_)
      have hq := inv_end hI y1 0
      rw [← hw_2, ← hw_4] at hq
      refine lv_icmp_eq (tgt := 434) hx hb d_Lw_law_291 (by decide) (fun c_5 => ?_) (fun c_5 => ?_)
      · obtain ⟨x4, ex4⟩ : ∃ y : Int32, y = x3 + 4 := ⟨_, rfl⟩
        refine lv_iinc (v := x4) (lv' := [(3, .int x4), (0, .ref b), (1, .ref (ad1 15)), (2, .ref (ad2 16))]) hx hb d_Lw_law_434 hl (k := 3) rfl (by rw [ex4]; rfl) (by decide) rfl (fun ls hl => ?_)
        refine lv_goto (tgt := 18) hx hb d_Lw_law_437 (by decide) ?_
        exact ih (i + 4) x4 (by omega) (by omega) (by rw [ex4]; exact step4 hx3 (by omega)) v_2 v_4 hq.2 H locs hP hD hS ls (lv_sub hl [1, 2, 3, 0] rfl)
      · exact absurd hq.1 c_5
    · exact absurd c_1 c_3
  · refine lv_iconst (v := 1) hx hb d_Lw_law_261 (by decide) ?_
    refine lv_goto (tgt := 266) hx hb d_Lw_law_262 (by decide) ?_
    refine wx_ci (wS := fun v : TCt => w_C ad1 ca1 v) (ws2 := fun v : TCt => w_L ad1 ad2 ca1 ca2 v d) (va_runV (As := [.int y1, .int 1]) (rest := []) ⟨hx, hb, hml, hown, ht⟩ (c_Ct_end l dC dI ad1 ca1 H.size z y1 1  _ rfl) (cwV 2 ht (tb_V q_235 q_236 q_237 q_42 q_238) rfl rfl rfl p_Ct_end ⟨Nat.le_of_ble_eq_true rfl, Nat.le_of_ble_eq_true rfl⟩) (wx_preV (wc := (w_C ad1 ca1 z)) hN hK hP hD [0, 1, 2, 3, 4, 5, 6, 7, 8, 9, 10, 11, 12, 13, 14, 15] [0, 1, 2, 3, 4, 5, 6, 7, 8, 9, 10, 11] rfl (by decide) rfl (ci := 3) (q0 := 0) rfl rfl) rfl rfl hl.1 rfl (lv_room (Nat.le_of_ble_eq_true rfl)) d_Lw_law_266 ⟨Nat.le_of_ble_eq_true rfl, Nat.le_of_ble_eq_true rfl⟩) hP hD hS hA [0, 1, 2, 3, 4, 5, 6, 7, 8, 9, 10, 11, 12, 13, 14, 15] [16, 17, 18, 19, 20, 21, 22, 23, 24, 25, 26, 27] [12, 13, 14, 15, 16, 17, 18, 19, 20, 21, 22, 23, 24, 25, 26, 27, 0, 1, 2, 3, 4, 5, 6, 7, 8, 9, 10, 11] rfl rfl (by decide) (by decide) (by decide) (fun _ => rfl) (fun r_6 v_6 H locs hw_6 hP hD hS => ?_)
    refine lv_aload_n hx hb d_Lw_law_269 rfl (lv_at hl 2 rfl) ?_
    refine lv_aload_n hx hb d_Lw_law_270 rfl (lv_at hl 0 rfl) ?_
    refine lv_iload_n hx hb d_Lw_law_271 rfl (lv_at hl 3 rfl) ?_
    refine lv_iconst (v := 1) hx hb d_Lw_law_272 (by decide) ?_
    refine lv_iadd hx hb d_Lw_law_273 ?_
    refine va_sld hx hb hX hbl hbA hS hv1 d_Lw_law_274 ?_
    rw [← ey1]
    refine lv_aload_n hx hb d_Lw_law_275 rfl (lv_at hl 0 rfl) ?_
    refine lv_iload_n hx hb d_Lw_law_276 rfl (lv_at hl 3 rfl) ?_
    refine lv_iconst (v := 2) hx hb d_Lw_law_277 (by decide) ?_
    refine lv_iadd hx hb d_Lw_law_278 ?_
    refine va_sld hx hb hX hbl hbA hS hv2 d_Lw_law_279 ?_
    rw [← ey2]
    refine lv_if_eq (tgt := 287) hx hb d_Lw_law_280 (by decide) (fun c_7 => ?_) (fun c_7 => ?_)
    · exact absurd c_7 c_1
    · refine lv_iconst (v := 1) hx hb d_Lw_law_283 (by decide) ?_
      refine lv_goto (tgt := 288) hx hb d_Lw_law_284 (by decide) ?_
      refine wx_ci (wS := fun v : TMd => w_M ad2 ca2 v) (ws2 := fun v : TMd => w_L ad1 ad2 ca1 ca2 v_6 v) (va_runV (As := [.int y1, .int 1]) (rest := [.int r_6]) ⟨hx, hb, hml, hown, ht⟩ (c_Md_end l dC dI ad2 ca2 H.size d y1 1  _ rfl) (cwV 2 ht (tb_V q_543 q_544 q_545 q_47 q_546) rfl rfl rfl p_Md_end ⟨Nat.le_of_ble_eq_true rfl, Nat.le_of_ble_eq_true rfl⟩) (wx_preV (wc := (w_M ad2 ca2 d)) hN hK hP hD [16, 17, 18, 19, 20, 21, 22, 23, 24, 25, 26, 27] [12, 13, 14, 15, 16, 17, 18, 19, 20, 21, 22] rfl (by decide) rfl (ci := 4) (q0 := 0) rfl rfl) rfl rfl hl.1 rfl (lv_room (Nat.le_of_ble_eq_true rfl)) d_Lw_law_288 ⟨Nat.le_of_ble_eq_true rfl, Nat.le_of_ble_eq_true rfl⟩) hP hD hS hA [16, 17, 18, 19, 20, 21, 22, 23, 24, 25, 26, 27] [0, 1, 2, 3, 4, 5, 6, 7, 8, 9, 10, 11, 12, 13, 14, 15] [0, 1, 2, 3, 4, 5, 6, 7, 8, 9, 10, 11, 12, 13, 14, 15, 16, 17, 18, 19, 20, 21, 22, 23, 24, 25, 26, 27] rfl rfl (by decide) (by decide) (by decide) (fun _ => rfl) (fun r_8 v_8 H locs hw_8 hP hD hS => ?_)
      have hq := inv_end hI y1 1
      rw [← hw_6, ← hw_8] at hq
      refine lv_icmp_eq (tgt := 434) hx hb d_Lw_law_291 (by decide) (fun c_9 => ?_) (fun c_9 => ?_)
      · obtain ⟨x4, ex4⟩ : ∃ y : Int32, y = x3 + 4 := ⟨_, rfl⟩
        refine lv_iinc (v := x4) (lv' := [(3, .int x4), (0, .ref b), (1, .ref (ad1 15)), (2, .ref (ad2 16))]) hx hb d_Lw_law_434 hl (k := 3) rfl (by rw [ex4]; rfl) (by decide) rfl (fun ls hl => ?_)
        refine lv_goto (tgt := 18) hx hb d_Lw_law_437 (by decide) ?_
        exact ih (i + 4) x4 (by omega) (by omega) (by rw [ex4]; exact step4 hx3 (by omega)) v_6 v_8 hq.2 H locs hP hD hS ls (lv_sub hl [1, 2, 3, 0] rfl)
      · exact absurd hq.1 c_9
