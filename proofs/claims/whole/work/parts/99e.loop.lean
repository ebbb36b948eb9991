set_option maxHeartbeats 4000000 in
set_option maxRecDepth 100000 in
theorem law_loop {p : Program} {l : Launch} {e : Env} {s : State} {m : MethodId} {below : List Frame} {meth : Method} {c : Code} {dC : Nat → ClassId} {dI : Nat → Nat → Nat} {ad1 ad2 : Nat → Nat} {ca1 ca2 : Nat → ClassId} {b L : Nat} {xs : Nat → Int32} (hL : L ≤ 2048) (C0 : lw_At p s m meth c b L xs) (hN : wx_N s) (hK : va_K (dC, dI) vwCl (t_L ca1 ca2) s) (n : Nat) : ∀ (i : Nat) (x3 : Int32), i ≤ L → L < i + 4 * n + 4 → x3 = nI i → ∀ (z : TCt) (d : TMd), INV z d → ∀ (H : Heap) (locs : List Loc), va_P (dC, dI) vwCl (w_L ad1 ad2 ca1 ca2 z d) H → va_D (fun q : Nat => s.heap.size ≤ q) (w_L ad1 ad2 ca1 ca2 z d) → va_S (fun q : Nat => s.heap.size ≤ q) s.heap H locs → ∀ (ls : Array Slot), lv_has ls 4 [(0, .ref b), (1, .ref (ad1 15)), (2, .ref (ad2 16)), (3, .int x3)] → W p l e room_1 s m #[Value.ref b] below meth c H locs 28 25798 (lw_Z below #[Value.ref b] s) (F0 m 18 ls []) := by
  have C1 := C0
  obtain ⟨hx, hb, hr, hml, hown, hts, hX, hbl, hlocks, hgv⟩ := C1
  have hown : s.vm.findClass R_Lw = some m.cls := hown
  have ht : ∀ w ∈ TB, w.before #[Value.ref b] s = true := fun w h => hts w (List.mem_filter.mp h).1
  have hA : ∀ q : Nat, s.heap.size ≤ q → (fun q : Nat => s.heap.size ≤ q) q := fun _ h => h
  have hbA : ¬ (fun q : Nat => s.heap.size ≤ q) b := Nat.not_le.mpr hbl
  have e4 : (4 : Int32).toInt = 4 := by decide
  have hLi : (Int32.ofNat L).toInt = (L : Int) := nI_toInt (n := L) (by omega)
  have hL4 : (Int32.ofNat L - 4).toInt = (L : Int) - 4 := by rw [i32_sub (by rw [hLi, e4]; omega) (by rw [hLi, e4]; omega), hLi, e4]
  induction n with
  | zero =>
    intro i x3 hi hn hx3 z d hI H locs hP hD hS ls hl
    have h1 : x3.toInt = (i : Int) := by
      rw [hx3]
      exact nI_toInt (by omega)
    refine lv_iload_n hx hb d_Lw_law_18 rfl (lv_at hl 3 rfl) ?_
    refine lv_aload_n hx hb d_Lw_law_19 rfl (lv_at hl 0 rfl) ?_
    refine va_slen hx hb hX hbl hbA hS d_Lw_law_20 ?_
    refine lv_iconst (v := 4) hx hb d_Lw_law_21 (by decide) ?_
    refine lv_isub hx hb d_Lw_law_22 ?_
    refine lv_icmp_gt (tgt := 440) hx hb d_Lw_law_23 (by decide) (fun c_1 => ?_) (fun c_1 => ?_)
    · refine lv_iconst (v := 1) hx hb d_Lw_law_440 (by decide) ?_
      refine va_forget (fun q hq => hS.2.2 q hq) ?_
      refine W.widen (k := 600000) (n := 7302250) (by omega) (by omega) ?_
      exact lw_ret hx hb hr hlocks d_Lw_law_441
    · rw [i32_lt, hL4, h1] at c_1
      omega
  | succ n ih =>
    intro i x3 hi hn hx3 z d hI H locs hP hD hS ls hl
    have h1 : x3.toInt = (i : Int) := by
      rw [hx3]
      exact nI_toInt (by omega)
    refine lv_iload_n hx hb d_Lw_law_18 rfl (lv_at hl 3 rfl) ?_
    refine lv_aload_n hx hb d_Lw_law_19 rfl (lv_at hl 0 rfl) ?_
    refine va_slen hx hb hX hbl hbA hS d_Lw_law_20 ?_
    refine lv_iconst (v := 4) hx hb d_Lw_law_21 (by decide) ?_
    refine lv_isub hx hb d_Lw_law_22 ?_
    refine lv_icmp_gt (tgt := 440) hx hb d_Lw_law_23 (by decide) (fun c_1 => ?_) (fun c_1 => ?_)
    · refine lv_iconst (v := 1) hx hb d_Lw_law_440 (by decide) ?_
      refine va_forget (fun q hq => hS.2.2 q hq) ?_
      refine W.widen (k := 600000) (n := 7302250) (by omega) (by omega) ?_
      exact lw_ret hx hb hr hlocks d_Lw_law_441
    · rw [i32_lt, hL4, h1] at c_1
      have h : i + 4 ≤ L := by omega
      have hv0 : vp_in x3 L := vp_of (by omega) (by omega)
      refine lv_aload_n hx hb d_Lw_law_26 rfl (lv_at hl 0 rfl) ?_
      refine lv_iload_n hx hb d_Lw_law_27 rfl (lv_at hl 3 rfl) ?_
      refine va_sld hx hb hX hbl hbA hS hv0 d_Lw_law_28 ?_
      refine lv_bipush (v := 15) hx hb d_Lw_law_29 (by decide) ?_
      refine lv_iand hx hb d_Lw_law_31 ?_
      refine lv_topi (fun y ey => ?_)
      rcases Decidable.em (y = 0) with c_s0 | c_s0
      · refine lv_tableIn (off := 64) (tgt := 96) hx hb d_Lw_law_32 (by rw [c_s0]; decide) (by rw [c_s0]; decide) (by rw [c_s0]; rfl) (by decide) ?_
        exact lc_meaning hL C0 hN hK n ih i x3 h hn hx3 z d hI H locs hP hD hS ls hl
      rcases Decidable.em (y = 1) with c_s1 | c_s1
      · refine lv_tableIn (off := 107) (tgt := 139) hx hb d_Lw_law_32 (by rw [c_s1]; decide) (by rw [c_s1]; decide) (by rw [c_s1]; rfl) (by decide) ?_
        exact lc_body hL C0 hN hK n ih i x3 h hn hx3 z d hI H locs hP hD hS ls hl
      rcases Decidable.em (y = 2) with c_s2 | c_s2
      · refine lv_tableIn (off := 120) (tgt := 152) hx hb d_Lw_law_32 (by rw [c_s2]; decide) (by rw [c_s2]; decide) (by rw [c_s2]; rfl) (by decide) ?_
        exact lc_token hL C0 hN hK n ih i x3 h hn hx3 z d hI H locs hP hD hS ls hl
      rcases Decidable.em (y = 3) with c_s3 | c_s3
      · refine lv_tableIn (off := 153) (tgt := 185) hx hb d_Lw_law_32 (by rw [c_s3]; decide) (by rw [c_s3]; decide) (by rw [c_s3]; rfl) (by decide) ?_
        exact lc_clear hL C0 hN hK n ih i x3 h hn hx3 z d hI H locs hP hD hS ls hl
      rcases Decidable.em (y = 4) with c_s4 | c_s4
      · refine lv_tableIn (off := 166) (tgt := 198) hx hb d_Lw_law_32 (by rw [c_s4]; decide) (by rw [c_s4]; decide) (by rw [c_s4]; rfl) (by decide) ?_
        exact lc_mode hL C0 hN hK n ih i x3 h hn hx3 z d hI H locs hP hD hS ls hl
      rcases Decidable.em (y = 5) with c_s5 | c_s5
      · refine lv_tableIn (off := 215) (tgt := 247) hx hb d_Lw_law_32 (by rw [c_s5]; decide) (by rw [c_s5]; decide) (by rw [c_s5]; rfl) (by decide) ?_
        exact lc_end hL C0 hN hK n ih i x3 h hn hx3 z d hI H locs hP hD hS ls hl
      rcases Decidable.em (y = 6) with c_s6 | c_s6
      · refine lv_tableIn (off := 264) (tgt := 296) hx hb d_Lw_law_32 (by rw [c_s6]; decide) (by rw [c_s6]; decide) (by rw [c_s6]; rfl) (by decide) ?_
        exact lc_run hL C0 hN hK n ih i x3 h hn hx3 z d hI H locs hP hD hS ls hl
      rcases Decidable.em (y = 7) with c_s7 | c_s7
      · refine lv_tableIn (off := 277) (tgt := 309) hx hb d_Lw_law_32 (by rw [c_s7]; decide) (by rw [c_s7]; decide) (by rw [c_s7]; rfl) (by decide) ?_
        exact lc_at hL C0 hN hK n ih i x3 h hn hx3 z d hI H locs hP hD hS ls hl
      rcases Decidable.em (y = 8) with c_s8 | c_s8
      · refine lv_tableIn (off := 300) (tgt := 332) hx hb d_Lw_law_32 (by rw [c_s8]; decide) (by rw [c_s8]; decide) (by rw [c_s8]; rfl) (by decide) ?_
        exact lc_told hL C0 hN hK n ih i x3 h hn hx3 z d hI H locs hP hD hS ls hl
      rcases Decidable.em (y = 9) with c_s9 | c_s9
      · refine lv_tableIn (off := 323) (tgt := 355) hx hb d_Lw_law_32 (by rw [c_s9]; decide) (by rw [c_s9]; decide) (by rw [c_s9]; rfl) (by decide) ?_
        exact lc_decided hL C0 hN hK n ih i x3 h hn hx3 z d hI H locs hP hD hS ls hl
      rcases Decidable.em (y = 10) with c_s10 | c_s10
      · refine lv_tableIn (off := 346) (tgt := 378) hx hb d_Lw_law_32 (by rw [c_s10]; decide) (by rw [c_s10]; decide) (by rw [c_s10]; rfl) (by decide) ?_
        exact lc_same hL C0 hN hK n ih i x3 h hn hx3 z d hI H locs hP hD hS ls hl
      rcases Decidable.em (y = 11) with c_s11 | c_s11
      · refine lv_tableIn (off := 379) (tgt := 411) hx hb d_Lw_law_32 (by rw [c_s11]; decide) (by rw [c_s11]; decide) (by rw [c_s11]; rfl) (by decide) ?_
        exact lc_count hL C0 hN hK n ih i x3 h hn hx3 z d hI H locs hP hD hS ls hl
      have e_s0 := lv_neT (a := 0) c_s0 (by decide)
      have e_s1 := lv_neT (a := 1) c_s1 (by decide)
      have e_s2 := lv_neT (a := 2) c_s2 (by decide)
      have e_s3 := lv_neT (a := 3) c_s3 (by decide)
      have e_s4 := lv_neT (a := 4) c_s4 (by decide)
      have e_s5 := lv_neT (a := 5) c_s5 (by decide)
      have e_s6 := lv_neT (a := 6) c_s6 (by decide)
      have e_s7 := lv_neT (a := 7) c_s7 (by decide)
      have e_s8 := lv_neT (a := 8) c_s8 (by decide)
      have e_s9 := lv_neT (a := 9) c_s9 (by decide)
      have e_s10 := lv_neT (a := 10) c_s10 (by decide)
      have e_s11 := lv_neT (a := 11) c_s11 (by decide)
      refine lv_tableOut (tgt := 434) hx hb d_Lw_law_32 (by omega) (by decide) ?_
      obtain ⟨x4, ex4⟩ : ∃ y : Int32, y = x3 + 4 := ⟨_, rfl⟩
      refine lv_iinc (v := x4) (lv' := [(3, .int x4), (0, .ref b), (1, .ref (ad1 15)), (2, .ref (ad2 16))]) hx hb d_Lw_law_434 hl (k := 3) rfl (by rw [ex4]; rfl) (by decide) rfl (fun ls hl => ?_)
      refine lv_goto (tgt := 18) hx hb d_Lw_law_437 (by decide) ?_
      exact ih (i + 4) x4 (by omega) (by omega) (by rw [ex4]; exact step4 hx3 (by omega)) z d hI H locs hP hD hS ls (lv_sub hl [1, 2, 3, 0] rfl)
