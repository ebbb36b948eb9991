theorem inv_0 : INV z_0 d_0 := by
  refine ⟨⟨rfl, rfl, rfl, rfl, rfl, rfl, fun i j hi hj => rfl, fun i hi q => ?_⟩, ⟨?_, fun i hi => ?_, fun i hi => ?_, fun i j hi hj q => ?_⟩, fun i hi hi2 => rfl, ⟨rfl, rfl, rfl, rfl, rfl, rfl, rfl, rfl, rfl, rfl, ?_, fun _ i hi => ?_, fun q => absurd rfl q⟩⟩
  · exact absurd (show (0 : Int32) = 5 from q) (by decide)
  · show 0 ≤ (0 : Int32).toInt ∧ (0 : Int32).toInt ≤ 20
    decide
  · show 0 ≤ (0 : Int32).toInt ∧ (0 : Int32).toInt ≤ (if i = 20 then 200 else 12)
    rw [e_0]
    split
    · omega
    · omega
  · show 0 ≤ (0 : Int32).toInt ∧ (0 : Int32).toInt ≤ 8 ∧ (((0 : Int32) = 2 ∨ (0 : Int32) = 3) → 0 ≤ (0 : Int32).toInt ∧ (0 : Int32).toInt < (0 : Int32).toInt)
    decide
  · show 0 ≤ (0 : Int32).toInt ∧ (0 : Int32).toInt ≤ 4135
    decide
  · show 0 ≤ (0 : Int32).toInt ∧ (0 : Int32).toInt ≤ 300
    decide
  · show TRn_decisions (f_Rn_forget b_0 u_00) i = -5
    rw [forget_dec]
    exact fill_e _ (-5) i hi
theorem nest_in : ∀ q ∈ nestL, Cond.methodLinkNest q.1 q.2.1 q.2.2.1 q.2.2.2 ∈ lw_tbl := List.forall_mem_cons.mpr ⟨List.mem_of_getElem? (i := 277) (by decide +kernel), List.forall_mem_cons.mpr ⟨List.mem_of_getElem? (i := 278) (by decide +kernel), List.forall_mem_cons.mpr ⟨List.mem_of_getElem? (i := 313) (by decide +kernel), List.forall_mem_cons.mpr ⟨List.mem_of_getElem? (i := 334) (by decide +kernel), List.forall_mem_cons.mpr ⟨List.mem_of_getElem? (i := 348) (by decide +kernel), List.forall_mem_cons.mpr ⟨List.mem_of_getElem? (i := 355) (by decide +kernel), List.forall_mem_cons.mpr ⟨List.mem_of_getElem? (i := 362) (by decide +kernel), fun _ h => absurd h List.not_mem_nil⟩⟩⟩⟩⟩⟩⟩
theorem q_49 : Cond.classLink R_Lw 7 R_Ct ∈ TB := tq 49 (by decide +kernel) rfl
theorem q_50 : Cond.instantiable R_Ct 2 ∈ TB := tq 50 (by decide +kernel) rfl
theorem q_51 : Cond.methodLink R_Lw 9 y_Ct_init ∈ TB := tq 51 (by decide +kernel) rfl
theorem q_52 : Cond.instanceMethod y_Ct_init ∈ TB := tq 52 (by decide +kernel) rfl
theorem q_53 : Cond.code y_Ct_init b_Ct_init 1 (none : Option Jvm.ClassFile.FieldType) ∈ TB := tq 53 (by decide +kernel) rfl
theorem q_439 : Cond.classLink R_Lw 10 R_Md ∈ TB := tq 439 (by decide +kernel) rfl
theorem q_440 : Cond.instantiable R_Md 23 ∈ TB := tq 440 (by decide +kernel) rfl
theorem q_441 : Cond.methodLink R_Lw 12 y_Md_init ∈ TB := tq 441 (by decide +kernel) rfl
theorem q_442 : Cond.instanceMethod y_Md_init ∈ TB := tq 442 (by decide +kernel) rfl
theorem q_443 : Cond.code y_Md_init b_Md_init 1 (none : Option Jvm.ClassFile.FieldType) ∈ TB := tq 443 (by decide +kernel) rfl
set_option maxHeartbeats 4000000 in
set_option maxRecDepth 100000 in
theorem whole_start {p : Program} {e : Env} {s : State} {m : MethodId} {below : List Frame} {meth : Method} {c : Code} (l : Launch) {b L : Nat} {xs : Nat → Int32} (hL : L ≤ 2048) (C0 : lw_At p s m meth c b L xs) : W p l e room_1 s m #[Value.ref b] below meth c s.heap [] 0 0 (lw_Z below #[Value.ref b] s) (entryFrame m ([Value.ref b] : List Value).toArray 4) := by
  have C1 := C0
  obtain ⟨hx, hb, hr, hml, hown, hts, hX, hbl, hlocks, hgv⟩ := C1
  have hown : s.vm.findClass R_Lw = some m.cls := hown
  have ht : ∀ w ∈ TB, w.before #[Value.ref b] s = true := fun w h => hts w (List.mem_filter.mp h).1
  have hA : ∀ q : Nat, s.heap.size ≤ q → (fun q : Nat => s.heap.size ≤ q) q := fun _ h => h
  have hbA : ¬ (fun q : Nat => s.heap.size ≤ q) b := Nat.not_le.mpr hbl
  have hN : wx_N s := fun q hq => va_Nw.of rfl (hts _ (nest_in q hq))
  obtain ⟨c0, i0, hKn0⟩ := u_known (C := R_Bk) (T := T_Bk) (N := 7) (n := 7) ht i_Bk (ht _ q_58)
  obtain ⟨c1, i1, hKn1⟩ := u_known (C := R_Rd) (T := T_Rd) (N := 6) (n := 6) ht i_Rd (ht _ q_99)
  obtain ⟨c2, i2, hKn2⟩ := u_known (C := R_Rn) (T := T_Rn) (N := 12) (n := 12) ht i_Rn (ht _ q_93)
  obtain ⟨c3, i3, hKn3⟩ := u_known (C := R_Ct) (T := T_Ct) (N := 2) (n := 2) ht i_Ct (ht _ q_50)
  obtain ⟨c4, i4, hKn4⟩ := u_known (C := R_Md) (T := T_Md) (N := 23) (n := 23) ht i_Md (ht _ q_440)
  obtain ⟨dC, dI, hKc⟩ : ∃ (dC : Nat → ClassId) (dI : Nat → Nat → Nat), ∀ (k : Nat) (q : vw_C), vwCl[k]? = some q → u_Kn s q.1 q.2.1 q.2.2 (dC k) (dI k) := by
    refine ⟨fun k => if k = 0 then c0 else if k = 1 then c1 else if k = 2 then c2 else if k = 3 then c3 else c4, fun k => if k = 0 then i0 else if k = 1 then i1 else if k = 2 then i2 else if k = 3 then i3 else i4, ?_⟩
    intro k q hq
    match k, hq with
    | 0, hq => cases hq; exact hKn0
    | 1, hq => cases hq; exact hKn1
    | 2, hq => cases hq; exact hKn2
    | 3, hq => cases hq; exact hKn3
    | 4, hq => cases hq; exact hKn4
    | k + 5, hq => simp [vwCl] at hq
  have hS : va_S (fun q : Nat => s.heap.size ≤ q) s.heap s.heap [] := va_S.rf
  have hK : va_K (dC, dI) vwCl [] s := ⟨hKc, fun k q h => by simp at h⟩
  have hP : va_P (dC, dI) vwCl [] s.heap := fun k q h => by simp at h
  have hD : va_D (fun q : Nat => s.heap.size ≤ q) [] := ⟨fun i j p q h => by simp at h, fun k q h => by simp at h⟩
  have hl := lv_entry ([.ref b]) (n := 4) (Nat.le_of_ble_eq_true rfl)
  rw [lg_entry_eq]
  generalize (lg_sl ([.ref b]) ++ List.replicate (4 - (lg_sl ([.ref b])).length) Slot.unset).toArray = ls at hl ⊢
  have hl : lv_has ls 4 [(0, .ref b)] := hl
  refine va_new (ci := 3) (fs := [.null, .null]) (C := R_Ct) (T := T_Ct) (N := 2) hx hb ht i_Ct ty_Ct ty_Ct_ok hown (ht _ q_49) (ht _ q_50) (ht _ q_42) hK hP hD hS hA rfl (by decide +kernel) (Nat.le_of_ble_eq_true rfl) (Nat.le_of_ble_eq_true rfl) d_Lw_law_0 (fun q0v H hP hD hS => ?_)
  have hP : va_P (dC, dI) vwCl [(q0v, .inr (3, [.null, .null]))] H := hP
  have hD : va_D (fun q : Nat => s.heap.size ≤ q) [(q0v, .inr (3, [.null, .null]))] := hD
  refine W.widen (k := 1) (n := 2) (by omega) (by omega) ?_
  refine lv_dup hx hb d_Lw_law_3 rfl ?_
  have hFc := va_free (wc := [(q0v, .inr (3, [.null, .null]))]) hD hS hA [0] rfl
  refine va_callv (va_runI (As := []) (rest := [.ref q0v]) ⟨hx, hb, hml, hown, ht⟩ (c_Ct_init l dC dI q0v H.size) (cwI 0 ht (tb_in q_53) rfl rfl rfl (ht _ q_42) (ht _ q_51) (ht _ q_52) rfl p_Ct_init.2 ⟨Nat.le_of_ble_eq_true rfl, Nat.le_of_ble_eq_true rfl⟩) (wx_preS (wc := [(q0v, .inr (3, [.null, .null]))]) hN hK hP hD [0] [] rfl (by decide) rfl) rfl rfl hl.1 rfl (lv_room (Nat.le_of_ble_eq_true rfl)) d_Lw_law_4 ⟨Nat.le_of_ble_eq_true rfl, Nat.le_of_ble_eq_true rfl⟩) hS (fun q _ h => hFc q h) hFc (fun u t H1 locs ht9 hvm hw hB hz1 hk1 hS => ?_)
  obtain ⟨ad1, ca1, e15, hP1, hK1, hD1⟩ := hB
  rw [ht9] at hP1
  have hK1 := va_K.moved hvm.symm hK1
  obtain ⟨hPn, hDn⟩ := va_join (wr := []) (w1 := (w_C ad1 ca1 z_0)) hP hD [0] [] rfl rfl (by decide) (by decide) hk1 hFc hP1 hD1
  have hKn := (hK.sub (tys' := []) [] rfl).app hK1
  generalize H1 = H at hPn hS ⊢
  subst e15
  have hP : va_P (dC, dI) vwCl (w_C ad1 ca1 z_0) H := hPn
  have hD : va_D (fun q : Nat => s.heap.size ≤ q) (w_C ad1 ca1 z_0) := hDn
  have hK : va_K (dC, dI) vwCl (t_C ca1) s := hKn
  refine W.widen (k := 16) (n := 11022) (by omega) (by omega) ?_
  refine lv_astore_n (lv' := [(1, .ref (ad1 15)), (0, .ref b)]) hx hb d_Lw_law_7 rfl hl (by decide) rfl (fun ls hl => ?_)
  refine va_new (ci := 4) (fs := [.int 0, .null, .null, .int 0, .null, .null, .null, .null, .null, .null, .int 0, .int 0, .int 0, .int 0, .null, .int 0, .int 0, .int 0, .int 0, .null, .null, .int 0, .int 0]) (C := R_Md) (T := T_Md) (N := 23) hx hb ht i_Md ty_Md ty_Md_ok hown (ht _ q_439) (ht _ q_440) (ht _ q_47) hK hP hD hS hA rfl (by decide +kernel) (Nat.le_of_ble_eq_true rfl) (Nat.le_of_ble_eq_true rfl) d_Lw_law_8 (fun q8v H hP hD hS => ?_)
  have hP : va_P (dC, dI) vwCl (w_C ad1 ca1 z_0 ++ [(q8v, .inr (4, [.int 0, .null, .null, .int 0, .null, .null, .null, .null, .null, .null, .int 0, .int 0, .int 0, .int 0, .null, .int 0, .int 0, .int 0, .int 0, .null, .null, .int 0, .int 0]))]) H := hP
  have hD : va_D (fun q : Nat => s.heap.size ≤ q) (w_C ad1 ca1 z_0 ++ [(q8v, .inr (4, [.int 0, .null, .null, .int 0, .null, .null, .null, .null, .null, .null, .int 0, .int 0, .int 0, .int 0, .null, .int 0, .int 0, .int 0, .int 0, .null, .null, .int 0, .int 0]))]) := hD
  refine W.widen (k := 17) (n := 11045) (by omega) (by omega) ?_
  refine lv_dup hx hb d_Lw_law_11 rfl ?_
  have hFc := va_free (wc := [(q8v, .inr (4, [.int 0, .null, .null, .int 0, .null, .null, .null, .null, .null, .null, .int 0, .int 0, .int 0, .int 0, .null, .int 0, .int 0, .int 0, .int 0, .null, .null, .int 0, .int 0]))]) hD hS hA [16] rfl
  refine va_callv (va_runI (As := []) (rest := [.ref q8v]) ⟨hx, hb, hml, hown, ht⟩ (c_Md_init l dC dI q8v H.size) (cwI 0 ht (tb_in q_443) rfl rfl rfl (ht _ q_47) (ht _ q_441) (ht _ q_442) rfl p_Md_init.2 ⟨Nat.le_of_ble_eq_true rfl, Nat.le_of_ble_eq_true rfl⟩) (wx_preS (wc := [(q8v, .inr (4, [.int 0, .null, .null, .int 0, .null, .null, .null, .null, .null, .null, .int 0, .int 0, .int 0, .int 0, .null, .int 0, .int 0, .int 0, .int 0, .null, .null, .int 0, .int 0]))]) hN hK hP hD [16] [] rfl (by decide) rfl) rfl rfl hl.1 rfl (lv_room (Nat.le_of_ble_eq_true rfl)) d_Lw_law_12 ⟨Nat.le_of_ble_eq_true rfl, Nat.le_of_ble_eq_true rfl⟩) hS (fun q _ h => hFc q h) hFc (fun u t H1 locs ht9 hvm hw hB hz1 hk1 hS => ?_)
  obtain ⟨ad2, ca2, e16, hP1, hK1, hD1⟩ := hB
  rw [ht9] at hP1
  have hK1 := va_K.moved hvm.symm hK1
  obtain ⟨hPn, hDn⟩ := va_join (wr := (w_C ad1 ca1 z_0)) (w1 := (w_M ad2 ca2 d_0)) hP hD [16] [0, 1, 2, 3, 4, 5, 6, 7, 8, 9, 10, 11, 12, 13, 14, 15] rfl rfl (by decide) (by decide) hk1 hFc hP1 hD1
  have hKn := (hK.sub (tys' := (t_C ca1)) [0, 1, 2, 3, 4, 5, 6, 7, 8, 9, 10, 11] rfl).app hK1
  generalize H1 = H at hPn hS ⊢
  subst e16
  have hP : va_P (dC, dI) vwCl (w_L ad1 ad2 ca1 ca2 z_0 d_0) H := hPn
  have hD : va_D (fun q : Nat => s.heap.size ≤ q) (w_L ad1 ad2 ca1 ca2 z_0 d_0) := hDn
  have hK : va_K (dC, dI) vwCl (t_L ca1 ca2) s := hKn
  refine W.widen (k := 28) (n := 25798) (by omega) (by omega) ?_
  refine lv_astore_n (lv' := [(2, .ref (ad2 16)), (1, .ref (ad1 15)), (0, .ref b)]) hx hb d_Lw_law_15 rfl hl (by decide) rfl (fun ls hl => ?_)
  refine lv_iconst (v := 0) hx hb d_Lw_law_16 (by decide) ?_
  refine lv_istore_n (lv' := [(3, .int 0), (2, .ref (ad2 16)), (1, .ref (ad1 15)), (0, .ref b)]) hx hb d_Lw_law_17 rfl hl (by decide) rfl (fun ls hl => ?_)
  exact law_loop hL C0 hN hK (L + 1) 0 0 (Nat.zero_le L) (by omega) nI_0.symm z_0 d_0 inv_0 H _ hP hD hS ls (lv_sub hl [3, 2, 1, 0] rfl)
