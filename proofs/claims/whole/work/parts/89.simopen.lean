/-- the state with which an IF begins to ask -/
def uI (u : TRn) (c : Int32) : TRn := TRn_set_mostOpen (TRn_set_opened (TRn_set_openCount (TRn_set_hadElse (TRn_set_isCase u (upd (TRn_isCase u) (TRn_openCount u).toNatClampNeg (vp_nar .boolean c))) (upd (TRn_hadElse u) (TRn_openCount u).toNatClampNeg (vp_nar .boolean 0))) ((TRn_openCount u) + 1)) ((TRn_opened u) + 1)) (if (TRn_mostOpen u) < ((TRn_openCount u) + 1) then ((TRn_openCount u) + 1) else (TRn_mostOpen u))
def dI1 (d : TMd) : TMd := TMd_set_opened d (TMd_opened d + 1)
def dI2 (d : TMd) : TMd := TMd_set_phases (dI1 d) (upd (TMd_phases (dI1 d)) (TMd_open (dI1 d)).toNatClampNeg 0)
def dI3 (d : TMd) : TMd := TMd_set_open (dI2 d) (TMd_open (dI2 d) + 1)
def dI_ (d : TMd) (q : Int32) : TMd := TMd_set_most (dI3 d) q
theorem dI3_p (d : TMd) : TMd_open (dI3 d) = TMd_open d + 1 ∧ TMd_most (dI3 d) = TMd_most d := by
  unfold dI3 dI2 dI1
  simp only [gs_opened_thrown, gs_opened_kinds, gs_opened_values, gs_opened_bodies, gs_opened_rows, gs_opened_sizes, gs_opened_modes, gs_opened_ends, gs_opened_pileRows, gs_opened_pilePlaces, gs_opened_pile, gs_opened_held, gs_opened_steps, gs_opened_fault, gs_opened_out, gs_opened_outSize, gs_opened_opened, gs_opened_most, gs_opened_skipped, gs_opened_decided, gs_opened_phases, gs_opened_open, gs_opened_hasRun, gs_phases_thrown, gs_phases_kinds, gs_phases_values, gs_phases_bodies, gs_phases_rows, gs_phases_sizes, gs_phases_modes, gs_phases_ends, gs_phases_pileRows, gs_phases_pilePlaces, gs_phases_pile, gs_phases_held, gs_phases_steps, gs_phases_fault, gs_phases_out, gs_phases_outSize, gs_phases_opened, gs_phases_most, gs_phases_skipped, gs_phases_decided, gs_phases_phases, gs_phases_open, gs_phases_hasRun, gs_open_thrown, gs_open_kinds, gs_open_values, gs_open_bodies, gs_open_rows, gs_open_sizes, gs_open_modes, gs_open_ends, gs_open_pileRows, gs_open_pilePlaces, gs_open_pile, gs_open_held, gs_open_steps, gs_open_fault, gs_open_out, gs_open_outSize, gs_open_opened, gs_open_most, gs_open_skipped, gs_open_decided, gs_open_phases, gs_open_open, gs_open_hasRun, gs_most_thrown, gs_most_kinds, gs_most_values, gs_most_bodies, gs_most_rows, gs_most_sizes, gs_most_modes, gs_most_ends, gs_most_pileRows, gs_most_pilePlaces, gs_most_pile, gs_most_held, gs_most_steps, gs_most_fault, gs_most_out, gs_most_outSize, gs_most_opened, gs_most_most, gs_most_skipped, gs_most_decided, gs_most_phases, gs_most_open, gs_most_hasRun, gr_isCase_rd, gr_isCase_out, gr_isCase_decisions, gr_isCase_isCase, gr_isCase_hadElse, gr_isCase_outSize, gr_isCase_openCount, gr_isCase_opened, gr_isCase_mostOpen, gr_isCase_skipped, gr_isCase_fault, gr_hadElse_rd, gr_hadElse_out, gr_hadElse_decisions, gr_hadElse_isCase, gr_hadElse_hadElse, gr_hadElse_outSize, gr_hadElse_openCount, gr_hadElse_opened, gr_hadElse_mostOpen, gr_hadElse_skipped, gr_hadElse_fault, gr_openCount_rd, gr_openCount_out, gr_openCount_decisions, gr_openCount_isCase, gr_openCount_hadElse, gr_openCount_outSize, gr_openCount_openCount, gr_openCount_opened, gr_openCount_mostOpen, gr_openCount_skipped, gr_openCount_fault, gr_opened_rd, gr_opened_out, gr_opened_decisions, gr_opened_isCase, gr_opened_hadElse, gr_opened_outSize, gr_opened_openCount, gr_opened_opened, gr_opened_mostOpen, gr_opened_skipped, gr_opened_fault, gr_mostOpen_rd, gr_mostOpen_out, gr_mostOpen_decisions, gr_mostOpen_isCase, gr_mostOpen_hadElse, gr_mostOpen_outSize, gr_mostOpen_openCount, gr_mostOpen_opened, gr_mostOpen_mostOpen, gr_mostOpen_skipped, gr_mostOpen_fault]
  exact ⟨trivial, trivial⟩
/-- open() behind what it asked for -/
noncomputable def otC (b : TBk) (w x at_ : Int32) (p : Int32 × TRn) : TRn := if TRn_openCount p.2 ≤ at_ + 1 then (if TRn_fault p.2 = 0 then f_Rn_decide b p.2 w x p.1 else p.2) else (if TRn_fault (f_Rn_fail b p.2 6) = 0 then f_Rn_decide b (f_Rn_fail b p.2 6) w x p.1 else f_Rn_fail b p.2 6)
noncomputable def otM (op : TMd → Int32 → TMd) (w x at_ : Int32) (p : Int32 × TMd) : TMd := if TMd_fault p.2 = 0 then (if TMd_open p.2 ≤ at_ + 1 then f_Md_open_s_120 op p.2 w x at_ p.1 else f_Md_fail p.2 6) else p.2
theorem os_C (oc_ : TBk → TRn → Int32 → TRn) {b : TBk} {u : TRn} {w : Int32} (h0 : ¬ TRn_openCount u < 0) (h1 : TRn_openCount u < 20) : f_Rn_open_s oc_ b u w = otC b w (TRn_opened u) (TRn_openCount u) (f_Rn_ask oc_ b (uI u (if w = 7 then 1 else 0)) w (TRn_openCount u + 1)) := by
  unfold f_Rn_open_s
  rw [if_neg h0, if_pos h1]
  by_cases c7 : w = 7
  · rw [if_pos c7, if_pos c7]
    rfl
  · rw [if_neg c7, if_neg c7]
    rfl
theorem otM_e (op : TMd → Int32 → TMd) (w x at_ : Int32) (p : Int32 × TMd) : otM op w x at_ p = (match p with | (r_7, v_7) => (if (TMd_fault v_7) = 0 then (if (TMd_open v_7) ≤ (at_ + 1) then (if (TMd_fault v_7) ≤ 0 then (f_Md_open_s_120 op v_7 w x at_ r_7) else v_7) else (let v_12 := f_Md_fail v_7 6; (if (TMd_fault v_12) ≤ 0 then v_12 else v_12))) else (if (TMd_fault v_7) ≤ 0 then v_7 else v_7))) := by
  rcases p with ⟨r, v⟩
  unfold otM
  dsimp only
  rw [ite_self, ite_self]
  by_cases c : TMd_fault v = 0
  · rw [if_pos c, if_pos c, if_pos (f_le c)]
  · rw [if_neg c, if_neg c]
theorem os_M (op : TMd → Int32 → TMd) {d : TMd} {w : Int32} (h1 : ¬ TMd_open d = 20) : f_Md_open_s op d w = otM op w (TMd_opened d) (TMd_open d) (f_Md_answer op (dI_ d (if TMd_open (dI3 d) ≤ TMd_most (dI3 d) then TMd_most (dI3 d) else TMd_open (dI3 d))) w (TMd_open d)) := by
  have e1 : TMd_set_opened d (TMd_opened d + 1) = dI1 d := rfl
  have e2 : TMd_set_phases (dI1 d) (upd (TMd_phases (dI1 d)) (TMd_open (dI1 d)).toNatClampNeg 0) = dI2 d := rfl
  have e3 : TMd_set_open (dI2 d) (TMd_open (dI2 d) + 1) = dI3 d := rfl
  have e4 : ∀ q, TMd_set_most (dI3 d) q = dI_ d q := fun _ => rfl
  unfold f_Md_open_s
  rw [if_neg h1]
  dsimp only
  rw [e1, e2, e3, e4, e4]
  by_cases c : TMd_open (dI3 d) ≤ TMd_most (dI3 d)
  · rw [if_pos c, if_pos c, otM_e]
    all_goals rfl
  · rw [if_neg c, if_neg c, otM_e]
    all_goals rfl
theorem RR_mk {u : TRn} {d : TMd} (a1 : TRd_rows (TRn_rd u) = TMd_pileRows d) (a2 : TRd_places (TRn_rd u) = TMd_pilePlaces d) (a3 : TRd_top (TRn_rd u) = TMd_pile d - 1) (a4 : TRd_kept (TRn_rd u) = TMd_held d) (a5 : TRd_steps (TRn_rd u) = TMd_steps d) (b1 : TRn_out u = TMd_out d) (b2 : TRn_outSize u = TMd_outSize d) (b3 : TRn_openCount u = TMd_open d) (b4 : TRn_opened u = TMd_opened d) (b5 : TRn_mostOpen u = TMd_most d) (b6 : TRn_skipped u = TMd_skipped d) (b7 : TRn_fault u = TMd_fault d) (b8 : ∀ i : Nat, i < 100 → TRn_decisions u i = TMd_decided d i) : RR u d := ⟨⟨a1, a2, a3, a4, a5⟩, b1, b2, b3, b4, b5, b6, b7, b8⟩
theorem uI_p (u : TRn) (c : Int32) : TRn_isCase (uI u c) = upd (TRn_isCase u) (TRn_openCount u).toNatClampNeg (vp_nar .boolean c) ∧ TRn_hadElse (uI u c) = upd (TRn_hadElse u) (TRn_openCount u).toNatClampNeg (vp_nar .boolean 0) := by
  unfold uI
  simp only [gs_opened_thrown, gs_opened_kinds, gs_opened_values, gs_opened_bodies, gs_opened_rows, gs_opened_sizes, gs_opened_modes, gs_opened_ends, gs_opened_pileRows, gs_opened_pilePlaces, gs_opened_pile, gs_opened_held, gs_opened_steps, gs_opened_fault, gs_opened_out, gs_opened_outSize, gs_opened_opened, gs_opened_most, gs_opened_skipped, gs_opened_decided, gs_opened_phases, gs_opened_open, gs_opened_hasRun, gs_phases_thrown, gs_phases_kinds, gs_phases_values, gs_phases_bodies, gs_phases_rows, gs_phases_sizes, gs_phases_modes, gs_phases_ends, gs_phases_pileRows, gs_phases_pilePlaces, gs_phases_pile, gs_phases_held, gs_phases_steps, gs_phases_fault, gs_phases_out, gs_phases_outSize, gs_phases_opened, gs_phases_most, gs_phases_skipped, gs_phases_decided, gs_phases_phases, gs_phases_open, gs_phases_hasRun, gs_open_thrown, gs_open_kinds, gs_open_values, gs_open_bodies, gs_open_rows, gs_open_sizes, gs_open_modes, gs_open_ends, gs_open_pileRows, gs_open_pilePlaces, gs_open_pile, gs_open_held, gs_open_steps, gs_open_fault, gs_open_out, gs_open_outSize, gs_open_opened, gs_open_most, gs_open_skipped, gs_open_decided, gs_open_phases, gs_open_open, gs_open_hasRun, gs_most_thrown, gs_most_kinds, gs_most_values, gs_most_bodies, gs_most_rows, gs_most_sizes, gs_most_modes, gs_most_ends, gs_most_pileRows, gs_most_pilePlaces, gs_most_pile, gs_most_held, gs_most_steps, gs_most_fault, gs_most_out, gs_most_outSize, gs_most_opened, gs_most_most, gs_most_skipped, gs_most_decided, gs_most_phases, gs_most_open, gs_most_hasRun, gr_isCase_rd, gr_isCase_out, gr_isCase_decisions, gr_isCase_isCase, gr_isCase_hadElse, gr_isCase_outSize, gr_isCase_openCount, gr_isCase_opened, gr_isCase_mostOpen, gr_isCase_skipped, gr_isCase_fault, gr_hadElse_rd, gr_hadElse_out, gr_hadElse_decisions, gr_hadElse_isCase, gr_hadElse_hadElse, gr_hadElse_outSize, gr_hadElse_openCount, gr_hadElse_opened, gr_hadElse_mostOpen, gr_hadElse_skipped, gr_hadElse_fault, gr_openCount_rd, gr_openCount_out, gr_openCount_decisions, gr_openCount_isCase, gr_openCount_hadElse, gr_openCount_outSize, gr_openCount_openCount, gr_openCount_opened, gr_openCount_mostOpen, gr_openCount_skipped, gr_openCount_fault, gr_opened_rd, gr_opened_out, gr_opened_decisions, gr_opened_isCase, gr_opened_hadElse, gr_opened_outSize, gr_opened_openCount, gr_opened_opened, gr_opened_mostOpen, gr_opened_skipped, gr_opened_fault, gr_mostOpen_rd, gr_mostOpen_out, gr_mostOpen_decisions, gr_mostOpen_isCase, gr_mostOpen_hadElse, gr_mostOpen_outSize, gr_mostOpen_openCount, gr_mostOpen_opened, gr_mostOpen_mostOpen, gr_mostOpen_skipped, gr_mostOpen_fault]
  exact ⟨trivial, trivial⟩
theorem dI_p (d : TMd) (q : Int32) : TMd_phases (dI_ d q) = upd (TMd_phases d) (TMd_open d).toNatClampNeg 0 ∧ TMd_open (dI_ d q) = TMd_open d + 1 ∧ TMd_fault (dI_ d q) = TMd_fault d := by
  unfold dI_ dI3 dI2 dI1
  simp only [gs_opened_thrown, gs_opened_kinds, gs_opened_values, gs_opened_bodies, gs_opened_rows, gs_opened_sizes, gs_opened_modes, gs_opened_ends, gs_opened_pileRows, gs_opened_pilePlaces, gs_opened_pile, gs_opened_held, gs_opened_steps, gs_opened_fault, gs_opened_out, gs_opened_outSize, gs_opened_opened, gs_opened_most, gs_opened_skipped, gs_opened_decided, gs_opened_phases, gs_opened_open, gs_opened_hasRun, gs_phases_thrown, gs_phases_kinds, gs_phases_values, gs_phases_bodies, gs_phases_rows, gs_phases_sizes, gs_phases_modes, gs_phases_ends, gs_phases_pileRows, gs_phases_pilePlaces, gs_phases_pile, gs_phases_held, gs_phases_steps, gs_phases_fault, gs_phases_out, gs_phases_outSize, gs_phases_opened, gs_phases_most, gs_phases_skipped, gs_phases_decided, gs_phases_phases, gs_phases_open, gs_phases_hasRun, gs_open_thrown, gs_open_kinds, gs_open_values, gs_open_bodies, gs_open_rows, gs_open_sizes, gs_open_modes, gs_open_ends, gs_open_pileRows, gs_open_pilePlaces, gs_open_pile, gs_open_held, gs_open_steps, gs_open_fault, gs_open_out, gs_open_outSize, gs_open_opened, gs_open_most, gs_open_skipped, gs_open_decided, gs_open_phases, gs_open_open, gs_open_hasRun, gs_most_thrown, gs_most_kinds, gs_most_values, gs_most_bodies, gs_most_rows, gs_most_sizes, gs_most_modes, gs_most_ends, gs_most_pileRows, gs_most_pilePlaces, gs_most_pile, gs_most_held, gs_most_steps, gs_most_fault, gs_most_out, gs_most_outSize, gs_most_opened, gs_most_most, gs_most_skipped, gs_most_decided, gs_most_phases, gs_most_open, gs_most_hasRun, gr_isCase_rd, gr_isCase_out, gr_isCase_decisions, gr_isCase_isCase, gr_isCase_hadElse, gr_isCase_outSize, gr_isCase_openCount, gr_isCase_opened, gr_isCase_mostOpen, gr_isCase_skipped, gr_isCase_fault, gr_hadElse_rd, gr_hadElse_out, gr_hadElse_decisions, gr_hadElse_isCase, gr_hadElse_hadElse, gr_hadElse_outSize, gr_hadElse_openCount, gr_hadElse_opened, gr_hadElse_mostOpen, gr_hadElse_skipped, gr_hadElse_fault, gr_openCount_rd, gr_openCount_out, gr_openCount_decisions, gr_openCount_isCase, gr_openCount_hadElse, gr_openCount_outSize, gr_openCount_openCount, gr_openCount_opened, gr_openCount_mostOpen, gr_openCount_skipped, gr_openCount_fault, gr_opened_rd, gr_opened_out, gr_opened_decisions, gr_opened_isCase, gr_opened_hadElse, gr_opened_outSize, gr_opened_openCount, gr_opened_opened, gr_opened_mostOpen, gr_opened_skipped, gr_opened_fault, gr_mostOpen_rd, gr_mostOpen_out, gr_mostOpen_decisions, gr_mostOpen_isCase, gr_mostOpen_hadElse, gr_mostOpen_outSize, gr_mostOpen_openCount, gr_mostOpen_opened, gr_mostOpen_mostOpen, gr_mostOpen_skipped, gr_mostOpen_fault]
  exact ⟨trivial, trivial, trivial⟩
theorem sim_I {u : TRn} {d : TMd} (hr : RR u d) (c q : Int32) (hq : q = if TRn_mostOpen u < TRn_openCount u + 1 then TRn_openCount u + 1 else TRn_mostOpen u) : RR (uI u c) (dI_ d q) := by
  obtain ⟨⟨a1, a2, a3, a4, a5⟩, b1, b2, b3, b4, b5, b6, b7, b8⟩ := hr
  unfold uI dI_ dI3 dI2 dI1
  refine RR_mk ?_ ?_ ?_ ?_ ?_ ?_ ?_ ?_ ?_ ?_ ?_ ?_ ?_
  all_goals simp only [gs_opened_thrown, gs_opened_kinds, gs_opened_values, gs_opened_bodies, gs_opened_rows, gs_opened_sizes, gs_opened_modes, gs_opened_ends, gs_opened_pileRows, gs_opened_pilePlaces, gs_opened_pile, gs_opened_held, gs_opened_steps, gs_opened_fault, gs_opened_out, gs_opened_outSize, gs_opened_opened, gs_opened_most, gs_opened_skipped, gs_opened_decided, gs_opened_phases, gs_opened_open, gs_opened_hasRun, gs_phases_thrown, gs_phases_kinds, gs_phases_values, gs_phases_bodies, gs_phases_rows, gs_phases_sizes, gs_phases_modes, gs_phases_ends, gs_phases_pileRows, gs_phases_pilePlaces, gs_phases_pile, gs_phases_held, gs_phases_steps, gs_phases_fault, gs_phases_out, gs_phases_outSize, gs_phases_opened, gs_phases_most, gs_phases_skipped, gs_phases_decided, gs_phases_phases, gs_phases_open, gs_phases_hasRun, gs_open_thrown, gs_open_kinds, gs_open_values, gs_open_bodies, gs_open_rows, gs_open_sizes, gs_open_modes, gs_open_ends, gs_open_pileRows, gs_open_pilePlaces, gs_open_pile, gs_open_held, gs_open_steps, gs_open_fault, gs_open_out, gs_open_outSize, gs_open_opened, gs_open_most, gs_open_skipped, gs_open_decided, gs_open_phases, gs_open_open, gs_open_hasRun, gs_most_thrown, gs_most_kinds, gs_most_values, gs_most_bodies, gs_most_rows, gs_most_sizes, gs_most_modes, gs_most_ends, gs_most_pileRows, gs_most_pilePlaces, gs_most_pile, gs_most_held, gs_most_steps, gs_most_fault, gs_most_out, gs_most_outSize, gs_most_opened, gs_most_most, gs_most_skipped, gs_most_decided, gs_most_phases, gs_most_open, gs_most_hasRun, gr_isCase_rd, gr_isCase_out, gr_isCase_decisions, gr_isCase_isCase, gr_isCase_hadElse, gr_isCase_outSize, gr_isCase_openCount, gr_isCase_opened, gr_isCase_mostOpen, gr_isCase_skipped, gr_isCase_fault, gr_hadElse_rd, gr_hadElse_out, gr_hadElse_decisions, gr_hadElse_isCase, gr_hadElse_hadElse, gr_hadElse_outSize, gr_hadElse_openCount, gr_hadElse_opened, gr_hadElse_mostOpen, gr_hadElse_skipped, gr_hadElse_fault, gr_openCount_rd, gr_openCount_out, gr_openCount_decisions, gr_openCount_isCase, gr_openCount_hadElse, gr_openCount_outSize, gr_openCount_openCount, gr_openCount_opened, gr_openCount_mostOpen, gr_openCount_skipped, gr_openCount_fault, gr_opened_rd, gr_opened_out, gr_opened_decisions, gr_opened_isCase, gr_opened_hadElse, gr_opened_outSize, gr_opened_openCount, gr_opened_opened, gr_opened_mostOpen, gr_opened_skipped, gr_opened_fault, gr_mostOpen_rd, gr_mostOpen_out, gr_mostOpen_decisions, gr_mostOpen_isCase, gr_mostOpen_hadElse, gr_mostOpen_outSize, gr_mostOpen_openCount, gr_mostOpen_opened, gr_mostOpen_mostOpen, gr_mostOpen_skipped, gr_mostOpen_fault]
  · exact a1
  · exact a2
  · exact a3
  · exact a4
  · exact a5
  · exact b1
  · exact b2
  · rw [b3]
  · rw [b4]
  · exact hq.symm
  · exact b6
  · exact b7
  · exact b8
theorem fail_u {b : TBk} {u : TRn} {q : Int32} (h : ¬ TRn_fault u = 0) : f_Rn_fail b u q = u := by
  unfold f_Rn_fail
  rw [if_neg h]
theorem sim_open (oc_ : TBk → TRn → Int32 → TRn) (op : TMd → Int32 → TMd) (k : Int) (hopm : ∀ (d : TMd) (w : Int32), OPP k d → LVS 0 d (op d w)) (hsim : ∀ (b : TBk) (u : TRn) (d : TMd) (w : Int32), BR b d → OPP k d → RR u d → TMd_fault d = 0 → (0 ≤ w.toInt ∧ w.toInt ≤ 10) → OPQ u d (oc_ b u w) (op d w)) (b : TBk) (u : TRn) (d : TMd) (w : Int32) (hb : BR b d) (hO : OPP (k - 1) d) (hr : RR u d) (hf : TMd_fault d = 0) (hw : 0 ≤ w.toInt ∧ w.toInt ≤ 10) : OPQ u d (f_Rn_open_s oc_ b u w) (f_Md_open_s op d w) := by
  have ho : TRn_openCount u = TMd_open d := hr.2.2.2.1
  have hop : TRn_opened u = TMd_opened d := hr.2.2.2.2.1
  have hmo : TRn_mostOpen u = TMd_most d := hr.2.2.2.2.2.1
  have h20 := hO.2.1.2.2.2.2.1
  by_cases c20 : TMd_open d = 20
  · unfold f_Rn_open_s f_Md_open_s
    rw [ho, if_pos c20, c20, if_neg (by decide), if_neg (by decide)]
    exact ⟨sim_fail hr b 5, FRM_e (fail_ce b u 5).1 (fail_ce b u 5).2 (fail_open d 5).2.1, fun h => absurd h (fail_ne d (by decide))⟩
  · have c20' := c20
    rw [i32_eq, e_20] at c20'
    rw [os_C oc_ (by rw [ho, i32_lt, e_0]; omega) (by rw [ho, i32_lt, e_20]; omega), os_M op c20, ho, hop]
    have hq : (if TMd_open (dI3 d) ≤ TMd_most (dI3 d) then TMd_most (dI3 d) else TMd_open (dI3 d)) = if TRn_mostOpen u < TRn_openCount u + 1 then TRn_openCount u + 1 else TRn_mostOpen u := by
      rw [ho, hmo, (dI3_p d).1, (dI3_p d).2]
      by_cases c : TMd_open d + 1 ≤ TMd_most d
      · rw [if_pos c, if_neg (by rw [i32_lt]; rw [i32_le] at c; omega)]
      · rw [if_neg c, if_pos (by rw [i32_lt]; rw [i32_le] at c; omega)]
    have hI := sim_I hr (if w = 7 then 1 else 0) _ hq
    obtain ⟨hA, hE, hmu⟩ : APk k (TMd_open d) (dI_ d (if TMd_open (dI3 d) ≤ TMd_most (dI3 d) then TMd_most (dI3 d) else TMd_open (dI3 d))) ∧ MdE d (dI_ d (if TMd_open (dI3 d) ≤ TMd_most (dI3 d) then TMd_most (dI3 d) else TMd_open (dI3 d))) ∧ mu (dI_ d (if TMd_open (dI3 d) ≤ TMd_most (dI3 d) then TMd_most (dI3 d) else TMd_open (dI3 d))) = mu d := op_in hO c20 rfl rfl rfl rfl rfl rfl
    clear hmu
    generalize (if TMd_open (dI3 d) ≤ TMd_most (dI3 d) then TMd_most (dI3 d) else TMd_open (dI3 d)) = q at hI hA hE ⊢
    have hdp := dI_p d q
    have hup := uI_p u (if w = 7 then 1 else 0)
    have ho1 : (TMd_open d + 1).toInt = (TMd_open d).toInt + 1 := succ_toInt (by omega)
    have hcl := clamp_toInt h20.1
    have hfr0 : FRM (TMd_open d).toInt u (uI u (if w = 7 then 1 else 0)) d (dI_ d q) := fun i hi => by
      rw [hup.1, hup.2, hdp.1, ho, pk_un (by omega), pk_un (by omega), pk_un (by omega)]
      exact ⟨rfl, rfl, rfl⟩
    have hc7 : vp_nar .boolean (if w = 7 then (1 : Int32) else 0) = if w = 7 then 1 else 0 := by
      by_cases c : w = 7
      · rw [if_pos c]
        rfl
      · rw [if_neg c]
        rfl
    have hcas : TRn_isCase (uI u (if w = 7 then 1 else 0)) (TMd_open d).toNatClampNeg = (if w = 7 then 1 else 0) ∧ TRn_hadElse (uI u (if w = 7 then 1 else 0)) (TMd_open d).toNatClampNeg = 0 := by
      rw [hup.1, hup.2, ho, pk_us, pk_us, hc7]
      exact ⟨rfl, rfl⟩
    have hans := sim_ans oc_ op k hopm hsim (BR_E hE hb) hA hI (hdp.2.2.trans hf) (fun i hi hi2 => by rw [hdp.2.1, ho1] at hi2; omega) hw
    generalize uI u (if w = 7 then 1 else 0) = u1 at hI hfr0 hcas hans ⊢
    generalize dI_ d q = d1 at hI hA hE hdp hfr0 hans ⊢
    rcases hl : f_Rn_ask oc_ b u1 w (TMd_open d + 1) with ⟨r, v⟩
    rcases hm : f_Md_answer op d1 w (TMd_open d) with ⟨r', e⟩
    rw [hl, hm] at hans
    have A := an_l op k hopm hm.symm hA
    obtain ⟨⟨q1, q2, q3⟩, q4⟩ := hans
    have q1 : RR v e := q1
    have q2 : FRM ((TMd_open d).toInt + 1) u1 v d1 e := q2
    have q3 : TMd_fault e = 0 → r = r' ∧ PHB ((TMd_open d).toInt + 1) v e := q3
    have q4 : ¬ w = 7 → TMd_fault e = 0 → r' = 0 ∨ r' = 1 := q4
    have hfr1 : FRM (TMd_open d).toInt u v d e := FRM_t hfr0 q2 (by omega)
    have hoe : TRn_openCount v = TMd_open e := q1.2.2.2.1
    have hae := A.1.2.2.2.2
    unfold otC otM
    dsimp only
    by_cases cf : TMd_fault e = 0
    · obtain ⟨q5, q6⟩ := q3 cf
      subst q5
      have hfv : TRn_fault v = 0 := (RR_f q1).trans cf
      rw [if_pos cf, hoe]
      by_cases co : TMd_open e ≤ TMd_open d + 1
      · rw [if_pos co, if_pos co, if_pos hfv]
        rw [i32_le, ho1] at co
        have hpe := A.1.2.1
        have hLe := Lst_i hpe (by omega)
        have hLd : Lst e = (TMd_open d).toNatClampNeg := by omega
        have hq2 := q2 (TMd_open d).toNatClampNeg (by omega)
        obtain ⟨z1, z2, z3⟩ := sim_dec (op := op) (x := TMd_opened d) (at_ := TMd_open d) (r := r) (BR_E A.2.1 (BR_E hE hb)) A.1.1 hpe h20.1 (by omega) q1 cf (by rw [hLd, hq2.1]; exact hcas.1) (by rw [hLd, hq2.2.1]; exact hcas.2) (fun h => q4 h cf) hO.2.1.2.2.2.2.2.2.1
        exact ⟨z1, FRM_t hfr1 z2 (Int.le_refl _), z3⟩
      · have h2 : ¬ TRn_fault (f_Rn_fail b v 6) = 0 := by
          rw [RR_f (sim_fail q1 b 6)]
          exact fail_ne e (by decide)
        rw [if_neg co, if_neg co, if_neg h2]
        exact ⟨sim_fail q1 b 6, FRM_t hfr1 (FRM_e (fail_ce b v 6).1 (fail_ce b v 6).2 (fail_open e 6).2.1) (Int.le_refl _), fun h => absurd h (fail_ne e (by decide))⟩
    · have hfv : ¬ TRn_fault v = 0 := by
        rw [RR_f q1]
        exact cf
      rw [if_neg cf, fail_u hfv, if_neg hfv, ite_self]
      exact ⟨q1, hfr1, fun h => absurd h cf⟩
theorem sim_opN (n : Nat) : ∀ (b : TBk) (u : TRn) (d : TMd) (w : Int32), BR b d → OPP ((20 : Int) - n) d → RR u d → TMd_fault d = 0 → (0 ≤ w.toInt ∧ w.toInt ≤ 10) → OPQ u d (opN n b u w) (opM n d w) := by
  induction n with
  | zero =>
    intro b u d w hb hO hr hf hw
    have h20 := hO.2.1.2.2.2.2.1
    have hk := hO.2.2.2
    have ho : TRn_openCount u = TMd_open d := hr.2.2.2.1
    show OPQ u d (f_Rn_open_0 b u w) (f_Md_open_0 d w)
    unfold f_Rn_open_0 f_Md_open_0
    rw [ite_self]
    exact ⟨sim_fail hr b 5, FRM_e (fail_ce b u 5).1 (fail_ce b u 5).2 (fail_open d 5).2.1, fun h => absurd h (fail_ne d (by decide))⟩
  | succ n ih =>
    intro b u d w hb hO hr hf hw
    exact sim_open (opN n) (opM n) ((20 : Int) - n) (opM_m n) ih b u d w hb ⟨hO.1, hO.2.1, hO.2.2.1, by have := hO.2.2.2; omega⟩ hr hf hw
