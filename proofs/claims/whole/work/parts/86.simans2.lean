theorem f_ngt {d : TMd} (h : TMd_fault d = 0) : ¬ 0 < TMd_fault d := by
  rw [h]
  decide
theorem f_gt {d : TMd} (hp : MdP d) (h : ¬ TMd_fault d = 0) : 0 < TMd_fault d := by
  have h1 := hp.2.2.2.1
  rw [i32_eq, e_0] at h
  rw [i32_lt, e_0]
  omega
theorem an_n (op : TMd → Int32 → TMd) (d : TMd) (a : Int32) {w : Int32} (hw : w = 4 ∨ w = 7 ∨ w = 9 ∨ w = 10) : f_Md_answer op d w a = match f_Md_number op d a with | (r_8, v_8) => (if 0 < (TMd_fault v_8) then (r_8, v_8) else (if w = 7 then (r_8, v_8) else (if w = 4 then (if (r_8 - r_8 / 2 * 2) = 0 then ((f_Md_yes 0), v_8) else ((f_Md_yes 1), v_8)) else (if w = 9 then (if (f_Md_in r_8 0 3) = 0 then (let v_22 := f_Md_fail v_8 8; (0, v_22)) else ((f_Md_yes ((TMd_modes v_8) r_8.toNatClampNeg)), v_8)) else (if (f_Md_in r_8 0 7) = 0 then (let v_17 := f_Md_fail v_8 8; (0, v_17)) else ((f_Md_yes ((TMd_ends v_8) r_8.toNatClampNeg)), v_8)))))) := by
  unfold f_Md_answer
  rw [if_pos (show 2 ≤ w by rcases hw with h | h | h | h <;> (rw [h]; decide)), if_neg (show ¬ w = 2 by rcases hw with h | h | h | h <;> (rw [h]; decide)), if_neg (show ¬ w = 3 by rcases hw with h | h | h | h <;> (rw [h]; decide)), if_neg (show ¬ w = 5 by rcases hw with h | h | h | h <;> (rw [h]; decide)), if_neg (show ¬ w = 6 by rcases hw with h | h | h | h <;> (rw [h]; decide)), if_neg (show ¬ w = 8 by rcases hw with h | h | h | h <;> (rw [h]; decide))]
theorem an_4 (oc_ : TBk → TRn → Int32 → TRn) (op : TMd → Int32 → TMd) (k : Int) (hopm : ∀ (d : TMd) (w : Int32), OPP k d → LVS 0 d (op d w)) (hsim : ∀ (b : TBk) (u : TRn) (d : TMd) (w : Int32), BR b d → OPP k d → RR u d → TMd_fault d = 0 → (0 ≤ w.toInt ∧ w.toInt ≤ 10) → OPQ u d (oc_ b u w) (op d w)) {b : TBk} {u : TRn} {d : TMd} {a : Int32} (hb : BR b d) (ha : APk k a d) (hr : RR u d) (hf : TMd_fault d = 0) (hph : PHB (a.toInt + 1) u d) : AQB (a.toInt + 1) u d (match f_Rn_readNumber oc_ b u (a + 1) with | (r, v) => (r &&& 1, v)) (f_Md_answer op d 4 a) := by
  rw [an_n op d a (Or.inl rfl)]
  have q := sim_num oc_ op k hopm hsim hb ha hr (fun _ => hph)
  rcases hl : f_Rn_readNumber oc_ b u (a + 1) with ⟨r, v⟩
  rcases hm : f_Md_number op d a with ⟨r', e⟩
  rw [hl, hm] at q
  have A := num_l op k hopm hm.symm ha
  obtain ⟨q1, q2, q3⟩ := q
  have q1 : RR v e := q1
  have q2 : FRM (a.toInt + 1) u v d e := q2
  have q3 : TMd_fault e = 0 → r = r' ∧ PHB (a.toInt + 1) v e := q3
  dsimp only
  by_cases cf : TMd_fault e = 0
  · obtain ⟨q5, q6⟩ := q3 cf
    subst q5
    rw [if_neg (f_ngt cf), if_neg (show ¬ (4 : Int32) = 7 by decide), if_pos rfl, odd_eq]
    by_cases c : r - r / 2 * 2 = 0
    · rw [if_pos c, if_pos c]
      exact AQB_v yes_0.symm (Or.inl rfl) q1 q2 q6
    · rw [if_neg c, if_neg c]
      exact AQB_v yes_1.symm (Or.inr rfl) q1 q2 q6
  · rw [if_pos (f_gt A.1.2.1 cf)]
    exact AQB_f _ _ q1 q2 cf
theorem an_7 (oc_ : TBk → TRn → Int32 → TRn) (op : TMd → Int32 → TMd) (k : Int) (hopm : ∀ (d : TMd) (w : Int32), OPP k d → LVS 0 d (op d w)) (hsim : ∀ (b : TBk) (u : TRn) (d : TMd) (w : Int32), BR b d → OPP k d → RR u d → TMd_fault d = 0 → (0 ≤ w.toInt ∧ w.toInt ≤ 10) → OPQ u d (oc_ b u w) (op d w)) {b : TBk} {u : TRn} {d : TMd} {a : Int32} (hb : BR b d) (ha : APk k a d) (hr : RR u d) (hf : TMd_fault d = 0) (hph : PHB (a.toInt + 1) u d) : AQ (a.toInt + 1) u d (match f_Rn_readNumber oc_ b u (a + 1) with | (r, v) => (r, v)) (f_Md_answer op d 7 a) := by
  rw [an_n op d a (Or.inr (Or.inl rfl))]
  have q := sim_num oc_ op k hopm hsim hb ha hr (fun _ => hph)
  rcases hl : f_Rn_readNumber oc_ b u (a + 1) with ⟨r, v⟩
  rcases hm : f_Md_number op d a with ⟨r', e⟩
  rw [hl, hm] at q
  have A := num_l op k hopm hm.symm ha
  obtain ⟨q1, q2, q3⟩ := q
  have q1 : RR v e := q1
  have q2 : FRM (a.toInt + 1) u v d e := q2
  have q3 : TMd_fault e = 0 → r = r' ∧ PHB (a.toInt + 1) v e := q3
  dsimp only
  by_cases cf : TMd_fault e = 0
  · obtain ⟨q5, q6⟩ := q3 cf
    subst q5
    rw [if_neg (f_ngt cf), if_pos rfl]
    exact ⟨q1, q2, fun _ => ⟨rfl, q6⟩⟩
  · rw [if_pos (f_gt A.1.2.1 cf)]
    exact AQ_f _ _ q1 q2 cf
theorem in_03 {r : Int32} {n m : Int32} (hm : n.toInt = m.toInt + 1) : (f_Md_in r 0 m = 0) ↔ (r < 0 ∨ ¬ r < n) := by
  unfold f_Md_in
  by_cases c : r < 0
  · rw [if_pos c]
    exact ⟨fun _ => Or.inl c, fun _ => rfl⟩
  · rw [if_neg c]
    by_cases c2 : m < r
    · rw [if_pos c2]
      rw [i32_lt] at c2
      exact ⟨fun _ => Or.inr (by rw [i32_lt]; omega), fun _ => rfl⟩
    · rw [if_neg c2]
      rw [i32_lt] at c2
      exact ⟨fun h => absurd h (by decide), fun h => by
        rcases h with h | h
        · exact absurd h c
        · rw [i32_lt] at h
          omega⟩
theorem an_9 (oc_ : TBk → TRn → Int32 → TRn) (op : TMd → Int32 → TMd) (k : Int) (hopm : ∀ (d : TMd) (w : Int32), OPP k d → LVS 0 d (op d w)) (hsim : ∀ (b : TBk) (u : TRn) (d : TMd) (w : Int32), BR b d → OPP k d → RR u d → TMd_fault d = 0 → (0 ≤ w.toInt ∧ w.toInt ≤ 10) → OPQ u d (oc_ b u w) (op d w)) {b : TBk} {u : TRn} {d : TMd} {a : Int32} (hb : BR b d) (ha : APk k a d) (hr : RR u d) (hf : TMd_fault d = 0) (hph : PHB (a.toInt + 1) u d) : AQB (a.toInt + 1) u d (f_Rn_askWhetherOn_m oc_ b u (a + 1)) (f_Md_answer op d 9 a) := by
  rw [an_n op d a (Or.inr (Or.inr (Or.inl rfl)))]
  unfold f_Rn_askWhetherOn_m
  have q := sim_num oc_ op k hopm hsim hb ha hr (fun _ => hph)
  rcases hl : f_Rn_readNumber oc_ b u (a + 1) with ⟨r, v⟩
  rcases hm : f_Md_number op d a with ⟨r', e⟩
  rw [hl, hm] at q
  have A := num_l op k hopm hm.symm ha
  obtain ⟨q1, q2, q3⟩ := q
  have q1 : RR v e := q1
  have q2 : FRM (a.toInt + 1) u v d e := q2
  have q3 : TMd_fault e = 0 → r = r' ∧ PHB (a.toInt + 1) v e := q3
  dsimp only
  by_cases cf : TMd_fault e = 0
  · obtain ⟨q5, q6⟩ := q3 cf
    subst q5
    rw [if_pos ((RR_f q1).trans cf), if_neg (f_ngt cf), if_neg (show ¬ (9 : Int32) = 7 by decide), if_neg (show ¬ (9 : Int32) = 4 by decide), if_pos rfl]
    have hi := in_03 (r := r) (n := 4) (m := 3) (by decide)
    by_cases c : r < 0
    · rw [if_pos c, if_pos (hi.mpr (Or.inl c))]
      exact AQB_fail b 0 0 (by decide) q1 q2
    · rw [if_neg c]
      by_cases c2 : r < 4
      · rw [if_pos c2, if_neg (show ¬ f_Md_in r 0 3 = 0 from fun h => by rcases hi.mp h with h | h; exact c h; exact h c2), (BR_E A.2.1 hb).2.2.2.1]
        unfold f_Md_yes
        by_cases c3 : TMd_modes e r.toNatClampNeg = 0
        · rw [if_pos c3, if_pos c3]
          exact AQB_v rfl (Or.inl rfl) q1 q2 q6
        · rw [if_neg c3, if_neg c3]
          exact AQB_v rfl (Or.inr rfl) q1 q2 q6
      · rw [if_neg c2, if_pos (hi.mpr (Or.inr c2))]
        exact AQB_fail b 0 0 (by decide) q1 q2
  · rw [if_neg (by rw [RR_f q1]; exact cf), if_pos (f_gt A.1.2.1 cf)]
    exact AQB_f _ _ q1 q2 cf
theorem an_10 (oc_ : TBk → TRn → Int32 → TRn) (op : TMd → Int32 → TMd) (k : Int) (hopm : ∀ (d : TMd) (w : Int32), OPP k d → LVS 0 d (op d w)) (hsim : ∀ (b : TBk) (u : TRn) (d : TMd) (w : Int32), BR b d → OPP k d → RR u d → TMd_fault d = 0 → (0 ≤ w.toInt ∧ w.toInt ≤ 10) → OPQ u d (oc_ b u w) (op d w)) {b : TBk} {u : TRn} {d : TMd} {a : Int32} (hb : BR b d) (ha : APk k a d) (hr : RR u d) (hf : TMd_fault d = 0) (hph : PHB (a.toInt + 1) u d) : AQB (a.toInt + 1) u d (f_Rn_askWhetherOn_e oc_ b u (a + 1)) (f_Md_answer op d 10 a) := by
  rw [an_n op d a (Or.inr (Or.inr (Or.inr rfl)))]
  unfold f_Rn_askWhetherOn_e
  have q := sim_num oc_ op k hopm hsim hb ha hr (fun _ => hph)
  rcases hl : f_Rn_readNumber oc_ b u (a + 1) with ⟨r, v⟩
  rcases hm : f_Md_number op d a with ⟨r', e⟩
  rw [hl, hm] at q
  have A := num_l op k hopm hm.symm ha
  obtain ⟨q1, q2, q3⟩ := q
  have q1 : RR v e := q1
  have q2 : FRM (a.toInt + 1) u v d e := q2
  have q3 : TMd_fault e = 0 → r = r' ∧ PHB (a.toInt + 1) v e := q3
  dsimp only
  by_cases cf : TMd_fault e = 0
  · obtain ⟨q5, q6⟩ := q3 cf
    subst q5
    rw [if_pos ((RR_f q1).trans cf), if_neg (f_ngt cf), if_neg (show ¬ (10 : Int32) = 7 by decide), if_neg (show ¬ (10 : Int32) = 4 by decide), if_neg (show ¬ (10 : Int32) = 9 by decide)]
    have hi := in_03 (r := r) (n := 8) (m := 7) (by decide)
    by_cases c : r < 0
    · rw [if_pos c, if_pos (hi.mpr (Or.inl c))]
      exact AQB_fail b 0 0 (by decide) q1 q2
    · rw [if_neg c]
      by_cases c2 : r < 8
      · rw [if_pos c2, if_neg (show ¬ f_Md_in r 0 7 = 0 from fun h => by rcases hi.mp h with h | h; exact c h; exact h c2), (BR_E A.2.1 hb).2.2.2.2.1]
        unfold f_Md_yes
        by_cases c3 : TMd_ends e r.toNatClampNeg = 0
        · rw [if_pos c3, if_pos c3]
          exact AQB_v rfl (Or.inl rfl) q1 q2 q6
        · rw [if_neg c3, if_neg c3]
          exact AQB_v rfl (Or.inr rfl) q1 q2 q6
      · rw [if_neg c2, if_pos (hi.mpr (Or.inr c2))]
        exact AQB_fail b 0 0 (by decide) q1 q2
  · rw [if_neg (by rw [RR_f q1]; exact cf), if_pos (f_gt A.1.2.1 cf)]
    exact AQB_f _ _ q1 q2 cf
theorem rel_in {r : Int32} : f_Md_in r 3132 3134 = 0 ↔ f_Ct_isRelation r = 0 := by
  have e2 : (3132 : Int32).toInt = 3132 := by decide
  have e3 : (3133 : Int32).toInt = 3133 := by decide
  have e4 : (3134 : Int32).toInt = 3134 := by decide
  unfold f_Md_in f_Ct_isRelation
  by_cases c : r < 3132
  · rw [if_pos c]
    rw [i32_lt, e2] at c
    rw [if_neg (by rw [i32_eq, e2]; omega), if_neg (by rw [i32_eq, e3]; omega), if_neg (by rw [i32_eq, e4]; omega)]
  · rw [if_neg c]
    rw [i32_lt, e2] at c
    by_cases c2 : 3134 < r
    · rw [if_pos c2]
      rw [i32_lt, e4] at c2
      rw [if_neg (by rw [i32_eq, e2]; omega), if_neg (by rw [i32_eq, e3]; omega), if_neg (by rw [i32_eq, e4]; omega)]
    · rw [if_neg c2]
      rw [i32_lt, e4] at c2
      refine ⟨fun h => absurd h (by decide), fun h => ?_⟩
      by_cases d1 : r = 3132
      · rw [if_pos d1] at h
        exact absurd h (by decide)
      · rw [if_neg d1] at h
        by_cases d2 : r = 3133
        · rw [if_pos d2] at h
          exact absurd h (by decide)
        · rw [if_neg d2] at h
          by_cases d3 : r = 3134
          · rw [if_pos d3] at h
            exact absurd h (by decide)
          · rw [i32_eq, e2] at d1
            rw [i32_eq, e3] at d2
            rw [i32_eq, e4] at d3
            omega
