/-- the state with which an IF begins to ask -/
def uI (u : TRn) (c : Int32) : TRn := TRn_set_mostOpen (TRn_set_opened (TRn_set_openCount (TRn_set_hadElse (TRn_set_isCase u (upd (TRn_isCase u) (TRn_openCount u).toNatClampNeg (vp_nar .boolean c))) (upd (TRn_hadElse u) (TRn_openCount u).toNatClampNeg (vp_nar .boolean 0))) ((TRn_openCount u) + 1)) ((TRn_opened u) + 1)) (if (TRn_mostOpen u) < ((TRn_openCount u) + 1) then ((TRn_openCount u) + 1) else (TRn_mostOpen u))
def dI_ (d : TMd) (q : Int32) : TMd := TMd_set_most (TMd_set_open (TMd_set_phases (TMd_set_opened d (TMd_opened d + 1)) (upd (TMd_phases d) (TMd_open d).toNatClampNeg 0)) (TMd_open d + 1)) q
/-- open() behind what it asked for -/
noncomputable def otC (b : TBk) (w x at_ : Int32) (p : Int32 × TRn) : TRn := if TRn_openCount p.2 ≤ at_ + 1 then (if TRn_fault p.2 = 0 then f_Rn_decide b p.2 w x p.1 else p.2) else (if TRn_fault (f_Rn_fail b p.2 6) = 0 then f_Rn_decide b (f_Rn_fail b p.2 6) w x p.1 else f_Rn_fail b p.2 6)
noncomputable def otM (op : TMd → Int32 → TMd) (w x at_ : Int32) (p : Int32 × TMd) : TMd := if TMd_fault p.2 = 0 then (if TMd_open p.2 ≤ at_ + 1 then f_Md_open_s_120 op p.2 w x at_ p.1 else f_Md_fail p.2 6) else p.2
theorem os_C (oc_ : TBk → TRn → Int32 → TRn) {b : TBk} {u : TRn} {w : Int32} (h0 : ¬ TRn_openCount u < 0) (h1 : TRn_openCount u < 20) : f_Rn_open_s oc_ b u w = otC b w (TRn_opened u) (TRn_openCount u) (f_Rn_ask oc_ b (uI u (if w = 7 then 1 else 0)) w (TRn_openCount u + 1)) := by
  unfold f_Rn_open_s
  rw [if_neg h0, if_pos h1]
  by_cases c7 : w = 7
  · rw [if_pos c7, if_pos c7]
    rfl
  · rw [if_neg c7, if_neg c7]
    rfl
theorem otM_e (op : TMd → Int32 → TMd) (w x at_ : Int32) (p : Int32 × TMd) : otM op w x at_ p = (match p with | (r_7, v_7) => (if (TMd_fault v_7) = 0 then (if (TMd_open v_7) ≤ (at_ + 1) then (if (TMd_fault v_7) ≤ 0 then (f_Md_open_s_120 op v_7 w x at_ r_7) else v_7) else (let v_12 := f_Md_fail v_7 6; (if (TMd_fault v_12) ≤ 0 then v_12 else v_12))) else (if (TMd_fault v_7) ≤ 0 then v_7 else v_7))) := by
  rcases p with ⟨r, v⟩
  unfold otM
  dsimp only
  rw [ite_self, ite_self]
  by_cases c : TMd_fault v = 0
  · rw [if_pos c, if_pos c, if_pos (f_le c)]
  · rw [if_neg c, if_neg c]
theorem os_M (op : TMd → Int32 → TMd) {d : TMd} {w : Int32} (h1 : ¬ TMd_open d = 20) : f_Md_open_s op d w = otM op w (TMd_opened d) (TMd_open d) (f_Md_answer op (dI_ d (if TMd_open d + 1 ≤ TMd_most d then TMd_most d else TMd_open d + 1)) w (TMd_open d)) := by
  unfold f_Md_open_s
  rw [if_neg h1, otM_e]
  by_cases c : TMd_open d + 1 ≤ TMd_most d
  · rw [if_pos c]
    exact if_pos c
  · rw [if_neg c]
    exact if_neg c
theorem st_isCase {u : TRn} {d : TMd} (h : RR u d) (x : Nat → Int32) : RR (TRn_set_isCase u x) d := by
  obtain ⟨h1, h2, h3, h4, h5, h6, h7, h8, h9⟩ := h
  exact ⟨h1, h2, h3, h4, h5, h6, h7, h8, h9⟩
theorem st_hadElse {u : TRn} {d : TMd} (h : RR u d) (x : Nat → Int32) : RR (TRn_set_hadElse u x) d := by
  obtain ⟨h1, h2, h3, h4, h5, h6, h7, h8, h9⟩ := h
  exact ⟨h1, h2, h3, h4, h5, h6, h7, h8, h9⟩
theorem st_phases {u : TRn} {d : TMd} (h : RR u d) (x : Nat → Int32) : RR u (TMd_set_phases d x) := by
  obtain ⟨h1, h2, h3, h4, h5, h6, h7, h8, h9⟩ := h
  exact ⟨h1, h2, h3, h4, h5, h6, h7, h8, h9⟩
theorem st_open {u : TRn} {d : TMd} (h : RR u d) (x : Int32) : RR (TRn_set_openCount u x) (TMd_set_open d x) := by
  obtain ⟨h1, h2, h3, h4, h5, h6, h7, h8, h9⟩ := h
  exact ⟨h1, h2, h3, rfl, h5, h6, h7, h8, h9⟩
theorem st_opened {u : TRn} {d : TMd} (h : RR u d) (x : Int32) : RR (TRn_set_opened u x) (TMd_set_opened d x) := by
  obtain ⟨h1, h2, h3, h4, h5, h6, h7, h8, h9⟩ := h
  exact ⟨h1, h2, h3, h4, rfl, h6, h7, h8, h9⟩
theorem st_most {u : TRn} {d : TMd} (h : RR u d) (x : Int32) : RR (TRn_set_mostOpen u x) (TMd_set_most d x) := by
  obtain ⟨h1, h2, h3, h4, h5, h6, h7, h8, h9⟩ := h
  exact ⟨h1, h2, h3, h4, h5, rfl, h7, h8, h9⟩
theorem dI_c (d : TMd) (q : Int32) : dI_ d q = TMd_set_most (TMd_set_opened (TMd_set_open (TMd_set_phases d (upd (TMd_phases d) (TMd_open d).toNatClampNeg 0)) (TMd_open d + 1)) (TMd_opened d + 1)) q := rfl
theorem uI_p (u : TRn) (c : Int32) : TRn_isCase (uI u c) = upd (TRn_isCase u) (TRn_openCount u).toNatClampNeg (vp_nar .boolean c) ∧ TRn_hadElse (uI u c) = upd (TRn_hadElse u) (TRn_openCount u).toNatClampNeg (vp_nar .boolean 0) := ⟨rfl, rfl⟩
theorem dI_p (d : TMd) (q : Int32) : TMd_phases (dI_ d q) = upd (TMd_phases d) (TMd_open d).toNatClampNeg 0 ∧ TMd_open (dI_ d q) = TMd_open d + 1 ∧ TMd_fault (dI_ d q) = TMd_fault d := ⟨rfl, rfl, rfl⟩
theorem sim_I {u : TRn} {d : TMd} (hr : RR u d) (c q : Int32) (hq : q = if TRn_mostOpen u < TRn_openCount u + 1 then TRn_openCount u + 1 else TRn_mostOpen u) : RR (uI u c) (dI_ d q) := by
  have ho : TRn_openCount u = TMd_open d := hr.2.2.2.1
  have hop : TRn_opened u = TMd_opened d := hr.2.2.2.2.1
  rw [dI_c, hq]
  unfold uI
  rw [← ho, ← hop]
  exact st_most (st_opened (st_open (st_phases (st_hadElse (st_isCase hr _) _) _) _) _) _
theorem fail_u {b : TBk} {u : TRn} {q : Int32} (h : ¬ TRn_fault u = 0) : f_Rn_fail b u q = u := by
  unfold f_Rn_fail
  rw [if_neg h]
theorem sim_open (oc_ : TBk → TRn → Int32 → TRn) (op : TMd → Int32 → TMd) (k : Int) (hopm : ∀ (d : TMd) (w : Int32), OPP k d → LVS 0 d (op d w)) (hsim : ∀ (b : TBk) (u : TRn) (d : TMd) (w : Int32), BR b d → OPP k d → RR u d → TMd_fault d = 0 → (0 ≤ w.toInt ∧ w.toInt ≤ 10) → OPQ u d (oc_ b u w) (op d w)) (b : TBk) (u : TRn) (d : TMd) (w : Int32) (hb : BR b d) (hO : OPP (k - 1) d) (hr : RR u d) (hf : TMd_fault d = 0) (hw : 0 ≤ w.toInt ∧ w.toInt ≤ 10) : OPQ u d (f_Rn_open_s oc_ b u w) (f_Md_open_s op d w) := by
  have ho : TRn_openCount u = TMd_open d := hr.2.2.2.1
  have hop : TRn_opened u = TMd_opened d := hr.2.2.2.2.1
  have hmo : TRn_mostOpen u = TMd_most d := hr.2.2.2.2.2.1
  have h20 := hO.2.1.2.2.2.2.1
  by_cases c20 : TMd_open d = 20
  · unfold f_Rn_open_s f_Md_open_s
    rw [ho, if_pos c20, c20, if_neg (by decide), if_neg (by decide)]
    exact ⟨sim_fail hr b 5, FRM_e (fail_ce b u 5).1 (fail_ce b u 5).2 (fail_open d 5).2.1, fun h => absurd h (fail_ne d (by decide))⟩
  · have c20' := c20
    rw [i32_eq, e_20] at c20'
    rw [os_C oc_ (by rw [ho, i32_lt, e_0]; omega) (by rw [ho, i32_lt, e_20]; omega), os_M op c20, ho, hop]
    have hq : (if TMd_open d + 1 ≤ TMd_most d then TMd_most d else TMd_open d + 1) = if TRn_mostOpen u < TRn_openCount u + 1 then TRn_openCount u + 1 else TRn_mostOpen u := by
      rw [ho, hmo]
      by_cases c : TMd_open d + 1 ≤ TMd_most d
      · rw [if_pos c, if_neg (by rw [i32_lt]; rw [i32_le] at c; omega)]
      · rw [if_neg c, if_pos (by rw [i32_lt]; rw [i32_le] at c; omega)]
    have hI := sim_I hr (if w = 7 then 1 else 0) _ hq
    obtain ⟨hA, hE, hmu⟩ : APk k (TMd_open d) (dI_ d (if TMd_open d + 1 ≤ TMd_most d then TMd_most d else TMd_open d + 1)) ∧ MdE d (dI_ d (if TMd_open d + 1 ≤ TMd_most d then TMd_most d else TMd_open d + 1)) ∧ mu (dI_ d (if TMd_open d + 1 ≤ TMd_most d then TMd_most d else TMd_open d + 1)) = mu d := op_in hO c20 rfl rfl rfl rfl rfl rfl
    clear hmu
    generalize (if TMd_open d + 1 ≤ TMd_most d then TMd_most d else TMd_open d + 1) = q at hI hA hE ⊢
    have hdp := dI_p d q
    have hup := uI_p u (if w = 7 then 1 else 0)
    have ho1 : (TMd_open d + 1).toInt = (TMd_open d).toInt + 1 := succ_toInt (by omega)
    have hcl := clamp_toInt h20.1
    have hfr0 : FRM (TMd_open d).toInt u (uI u (if w = 7 then 1 else 0)) d (dI_ d q) := fun i hi => by
      rw [hup.1, hup.2, hdp.1, ho, pk_un (by omega), pk_un (by omega), pk_un (by omega)]
      exact ⟨rfl, rfl, rfl⟩
    have hc7 : vp_nar .boolean (if w = 7 then (1 : Int32) else 0) = if w = 7 then 1 else 0 := by
      by_cases c : w = 7
      · rw [if_pos c]
        rfl
      · rw [if_neg c]
        rfl
    have hcas : TRn_isCase (uI u (if w = 7 then 1 else 0)) (TMd_open d).toNatClampNeg = (if w = 7 then 1 else 0) ∧ TRn_hadElse (uI u (if w = 7 then 1 else 0)) (TMd_open d).toNatClampNeg = 0 := by
      rw [hup.1, hup.2, ho, pk_us, pk_us, hc7]
      exact ⟨rfl, rfl⟩
    have hans := sim_ans oc_ op k hopm hsim (BR_E hE hb) hA hI (hdp.2.2.trans hf) (fun i hi hi2 => by rw [hdp.2.1, ho1] at hi2; omega) hw
    generalize uI u (if w = 7 then 1 else 0) = u1 at hI hfr0 hcas hans ⊢
    generalize dI_ d q = d1 at hI hA hE hdp hfr0 hans ⊢
    rcases hl : f_Rn_ask oc_ b u1 w (TMd_open d + 1) with ⟨r, v⟩
    rcases hm : f_Md_answer op d1 w (TMd_open d) with ⟨r', e⟩
    rw [hl, hm] at hans
    have A := an_l op k hopm hm.symm hA
    obtain ⟨⟨q1, q2, q3⟩, q4⟩ := hans
    have q1 : RR v e := q1
    have q2 : FRM ((TMd_open d).toInt + 1) u1 v d1 e := q2
    have q3 : TMd_fault e = 0 → r = r' ∧ PHB ((TMd_open d).toInt + 1) v e := q3
    have q4 : ¬ w = 7 → TMd_fault e = 0 → r' = 0 ∨ r' = 1 := q4
    have hfr1 : FRM (TMd_open d).toInt u v d e := FRM_t hfr0 q2 (by omega)
    have hoe : TRn_openCount v = TMd_open e := q1.2.2.2.1
    have hae := A.1.2.2.2.2
    unfold otC otM
    dsimp only
    by_cases cf : TMd_fault e = 0
    · obtain ⟨q5, q6⟩ := q3 cf
      subst q5
      have hfv : TRn_fault v = 0 := (RR_f q1).trans cf
      rw [if_pos cf, hoe]
      by_cases co : TMd_open e ≤ TMd_open d + 1
      · rw [if_pos co, if_pos co, if_pos hfv]
        rw [i32_le, ho1] at co
        have hpe := A.1.2.1
        have hLe := Lst_i hpe (by omega)
        have hLd : Lst e = (TMd_open d).toNatClampNeg := by omega
        have hq2 := q2 (TMd_open d).toNatClampNeg (by omega)
        obtain ⟨z1, z2, z3⟩ := sim_dec (op := op) (x := TMd_opened d) (at_ := TMd_open d) (r := r) (BR_E A.2.1 (BR_E hE hb)) A.1.1 hpe h20.1 (by omega) q1 cf (by rw [hLd, hq2.1]; exact hcas.1) (by rw [hLd, hq2.2.1]; exact hcas.2) (fun h => q4 h cf) hO.2.1.2.2.2.2.2.2.1
        exact ⟨z1, FRM_t hfr1 z2 (Int.le_refl _), z3⟩
      · have h2 : ¬ TRn_fault (f_Rn_fail b v 6) = 0 := by
          rw [RR_f (sim_fail q1 b 6)]
          exact fail_ne e (by decide)
        rw [if_neg co, if_neg co, if_neg h2]
        exact ⟨sim_fail q1 b 6, FRM_t hfr1 (FRM_e (fail_ce b v 6).1 (fail_ce b v 6).2 (fail_open e 6).2.1) (Int.le_refl _), fun h => absurd h (fail_ne e (by decide))⟩
    · have hfv : ¬ TRn_fault v = 0 := by
        rw [RR_f q1]
        exact cf
      rw [if_neg cf, fail_u hfv, if_neg hfv, ite_self]
      exact ⟨q1, hfr1, fun h => absurd h cf⟩
theorem sim_opN (n : Nat) : ∀ (b : TBk) (u : TRn) (d : TMd) (w : Int32), BR b d → OPP ((20 : Int) - n) d → RR u d → TMd_fault d = 0 → (0 ≤ w.toInt ∧ w.toInt ≤ 10) → OPQ u d (opN n b u w) (opM n d w) := by
  induction n with
  | zero =>
    intro b u d w hb hO hr hf hw
    have h20 := hO.2.1.2.2.2.2.1
    have hk := hO.2.2.2
    have ho : TRn_openCount u = TMd_open d := hr.2.2.2.1
    show OPQ u d (f_Rn_open_0 b u w) (f_Md_open_0 d w)
    unfold f_Rn_open_0 f_Md_open_0
    rw [ite_self]
    exact ⟨sim_fail hr b 5, FRM_e (fail_ce b u 5).1 (fail_ce b u 5).2 (fail_open d 5).2.1, fun h => absurd h (fail_ne d (by decide))⟩
  | succ n ih =>
    intro b u d w hb hO hr hf hw
    exact sim_open (opN n) (opM n) ((20 : Int) - n) (opM_m n) ih b u d w hb ⟨hO.1, hO.2.1, hO.2.2.1, by have := hO.2.2.2; omega⟩ hr hf hw
