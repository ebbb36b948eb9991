theorem an_3 (oc_ : TBk → TRn → Int32 → TRn) (op : TMd → Int32 → TMd) (k : Int) (hopm : ∀ (d : TMd) (w : Int32), OPP k d → LVS 0 d (op d w)) (hsim : ∀ (b : TBk) (u : TRn) (d : TMd) (w : Int32), BR b d → OPP k d → RR u d → TMd_fault d = 0 → (0 ≤ w.toInt ∧ w.toInt ≤ 10) → OPQ u d (oc_ b u w) (op d w)) {b : TBk} {u : TRn} {d : TMd} {a : Int32} (hb : BR b d) (ha : APk k a d) (hr : RR u d) (hf : TMd_fault d = 0) (hph : PHB (a.toInt + 1) u d) : AQB (a.toInt + 1) u d (f_Rn_compareNumbers oc_ b u (a + 1)) (f_Md_answer op d 3 a) := by
  unfold f_Rn_compareNumbers f_Md_answer
  rw [if_pos (show (2 : Int32) ≤ 3 by decide), if_neg (show ¬ (3 : Int32) = 2 by decide), if_pos (show (3 : Int32) = 3 from rfl)]
  have q := sim_num oc_ op k hopm hsim hb ha hr (fun _ => hph)
  rcases hl : f_Rn_readNumber oc_ b u (a + 1) with ⟨r, v⟩
  rcases hm : f_Md_number op d a with ⟨r', e⟩
  rw [hl, hm] at q
  have A := num_l op k hopm hm.symm ha
  obtain ⟨q1, q2, q3⟩ := q
  have q1 : RR v e := q1
  have q2 : FRM (a.toInt + 1) u v d e := q2
  have q3 : TMd_fault e = 0 → r = r' ∧ PHB (a.toInt + 1) v e := q3
  dsimp only
  by_cases cf : TMd_fault e = 0
  · obtain ⟨q5, q6⟩ := q3 cf
    subst q5
    rw [if_pos ((RR_f q1).trans cf), if_pos (f_le cf)]
    have hb1 := BR_E A.2.1 hb
    have p := sim_sign oc_ op k hopm hsim hb1 A.1 q1 (fun _ => q6)
    rcases hl2 : f_Rn_readSign oc_ b v (a + 1) with ⟨s, w2⟩
    rcases hm2 : f_Md_askedToken op e a with ⟨s', e2⟩
    rw [hl2, hm2] at p
    have B := at_l op k hopm hm2.symm A.1
    obtain ⟨p1, p2, p3⟩ := p
    have p1 : RR w2 e2 := p1
    have p2 : FRM (a.toInt + 1) v w2 e e2 := p2
    have p3 : TMd_fault e2 = 0 → s = s' ∧ PHB (a.toInt + 1) w2 e2 := p3
    have p4 := FRM_t q2 p2 (Int.le_refl _)
    dsimp only
    by_cases cf2 : TMd_fault e2 = 0
    · obtain ⟨p5, p6⟩ := p3 cf2
      subst p5
      rw [if_pos ((RR_f p1).trans cf2), if_pos cf2]
      by_cases cr : f_Ct_isRelation s = 0
      · have h7 := fail_7 cf2 4
        rw [if_pos cr, if_pos (rel_in.mpr cr), if_neg (by rw [h7]; decide)]
        exact AQB_fail b 0 0 (by decide) p1 p4
      · rw [if_neg cr, if_neg (fun h => cr (rel_in.mp h)), if_pos (f_le cf2)]
        have x := sim_num oc_ op k hopm hsim (BR_E B.2.1 hb1) B.1 p1 (fun _ => p6)
        rcases hl3 : f_Rn_readNumber oc_ b w2 (a + 1) with ⟨t, w3⟩
        rcases hm3 : f_Md_number op e2 a with ⟨t', e3⟩
        rw [hl3, hm3] at x
        have D := num_l op k hopm hm3.symm B.1
        obtain ⟨x1, x2, x3⟩ := x
        have x1 : RR w3 e3 := x1
        have x2 : FRM (a.toInt + 1) w2 w3 e2 e3 := x2
        have x3 : TMd_fault e3 = 0 → t = t' ∧ PHB (a.toInt + 1) w3 e3 := x3
        have x4 := FRM_t p4 x2 (Int.le_refl _)
        dsimp only
        by_cases cf3 : TMd_fault e3 = 0
        · obtain ⟨x5, x6⟩ := x3 cf3
          subst x5
          rw [if_pos (f_le cf3)]
          by_cases c1 : s = 3132
          · rw [if_pos c1, if_pos c1]
            by_cases c2 : t ≤ r
            · rw [if_pos c2, if_pos c2]
              exact AQB_v yes_0.symm (Or.inl rfl) x1 x4 x6
            · rw [if_neg c2, if_neg c2]
              exact AQB_v yes_1.symm (Or.inr rfl) x1 x4 x6
          · rw [if_neg c1, if_neg c1]
            by_cases c3 : s = 3133
            · rw [if_pos c3, if_pos c3]
              by_cases c2 : r = t
              · rw [if_pos c2, if_pos c2]
                exact AQB_v yes_1.symm (Or.inr rfl) x1 x4 x6
              · rw [if_neg c2, if_neg c2]
                exact AQB_v yes_0.symm (Or.inl rfl) x1 x4 x6
            · rw [if_neg c3, if_neg c3]
              by_cases c2 : r ≤ t
              · rw [if_pos c2, if_pos c2]
                exact AQB_v yes_0.symm (Or.inl rfl) x1 x4 x6
              · rw [if_neg c2, if_neg c2]
                exact AQB_v yes_1.symm (Or.inr rfl) x1 x4 x6
        · rw [if_neg (fun h => cf3 (nu_f0 D.1.2.1 h))]
          repeat' split
          all_goals exact AQB_f _ 0 x1 x4 cf3
    · have h9 : ¬ TMd_fault e2 ≤ 0 := fun h => cf2 (nu_f0 B.1.2.1 h)
      rw [if_neg (by rw [RR_f p1]; exact cf2), if_neg cf2, if_neg h9]
      exact AQB_f 0 0 p1 p4 cf2
  · rw [if_neg (by rw [RR_f q1]; exact cf), if_neg (fun h => cf (nu_f0 A.1.2.1 h)), if_neg cf]
    exact AQB_f 0 0 q1 q2 cf
/-- what the IF asks for, in the class and in the reference -/
def ANQ (lo : Int) (u : TRn) (d : TMd) (w : Int32) (p : Int32 × TRn) (q : Int32 × TMd) : Prop := AQ lo u d p q ∧ (¬ w = 7 → TMd_fault q.2 = 0 → q.1 = 0 ∨ q.1 = 1)
theorem w_11 {w : Int32} (hw : 0 ≤ w.toInt ∧ w.toInt ≤ 10) : w = 0 ∨ w = 1 ∨ w = 2 ∨ w = 3 ∨ w = 4 ∨ w = 5 ∨ w = 6 ∨ w = 7 ∨ w = 8 ∨ w = 9 ∨ w = 10 := by
  rw [i32_eq, i32_eq, i32_eq, i32_eq, i32_eq, i32_eq, i32_eq, i32_eq, i32_eq, i32_eq, i32_eq, e_0, e_1, show (2 : Int32).toInt = 2 by decide, show (3 : Int32).toInt = 3 by decide, show (4 : Int32).toInt = 4 by decide, show (5 : Int32).toInt = 5 by decide, show (6 : Int32).toInt = 6 by decide, show (7 : Int32).toInt = 7 by decide, show (8 : Int32).toInt = 8 by decide, show (9 : Int32).toInt = 9 by decide, show (10 : Int32).toInt = 10 by decide]
  omega
theorem ANQ_b {lo : Int} {u : TRn} {d : TMd} {w : Int32} {p : Int32 × TRn} {q : Int32 × TMd} (h : AQB lo u d p q) : ANQ lo u d w p q := ⟨h.1, fun _ => h.2⟩
theorem an_5 (oc_ : TBk → TRn → Int32 → TRn) (op : TMd → Int32 → TMd) {k : Int} {b : TBk} {u : TRn} {d : TMd} {a : Int32} (hb : BR b d) (ha : APk k a d) (hr : RR u d) (hf : TMd_fault d = 0) (hph : PHB (a.toInt + 1) u d) : f_Rn_ask oc_ b u 5 (a + 1) = (1, u) ∧ f_Md_answer op d 5 a = (1, d) ∧ f_Rn_ask oc_ b u 6 (a + 1) = (0, u) ∧ f_Md_answer op d 6 a = (0, d) := by
  unfold f_Rn_ask f_Md_answer
  simp +decide only [↓reduceIte]
theorem sim_ans (oc_ : TBk → TRn → Int32 → TRn) (op : TMd → Int32 → TMd) (k : Int) (hopm : ∀ (d : TMd) (w : Int32), OPP k d → LVS 0 d (op d w)) (hsim : ∀ (b : TBk) (u : TRn) (d : TMd) (w : Int32), BR b d → OPP k d → RR u d → TMd_fault d = 0 → (0 ≤ w.toInt ∧ w.toInt ≤ 10) → OPQ u d (oc_ b u w) (op d w)) {b : TBk} {u : TRn} {d : TMd} {a : Int32} (hb : BR b d) (ha : APk k a d) (hr : RR u d) (hf : TMd_fault d = 0) (hph : PHB (a.toInt + 1) u d) {w : Int32} (hw : 0 ≤ w.toInt ∧ w.toInt ≤ 10) : ANQ (a.toInt + 1) u d w (f_Rn_ask oc_ b u w (a + 1)) (f_Md_answer op d w a) := by
  have h5 := an_5 oc_ op hb ha hr hf hph
  rcases w_11 hw with h | h | h | h | h | h | h | h | h | h | h
  · subst h
    have h1 := an_01 oc_ op k hopm hsim hb ha hr hf hph 0 1 (by decide) ⟨fun h => absurd h (by decide), fun h => absurd rfl h⟩
    unfold f_Rn_ask
    rw [if_pos rfl]
    rcases hq : f_Rn_compareSigns oc_ b u 1 (a + 1) with ⟨x, y⟩
    rw [hq] at h1
    exact ANQ_b h1
  · subst h
    have h1 := an_01 oc_ op k hopm hsim hb ha hr hf hph 1 0 (by decide) ⟨fun _ => by decide, fun _ => rfl⟩
    unfold f_Rn_ask
    rw [if_neg (by decide), if_pos rfl]
    rcases hq : f_Rn_compareSigns oc_ b u 0 (a + 1) with ⟨x, y⟩
    rw [hq] at h1
    exact ANQ_b h1
  · subst h
    have h1 := an_2 hb ha hr hf hph op
    unfold f_Rn_ask
    rw [if_neg (by decide), if_neg (by decide), if_pos rfl]
    rcases hq : f_Rn_compareMeanings b u with ⟨x, y⟩
    rw [hq] at h1
    exact ANQ_b h1
  · subst h
    have h1 := an_3 oc_ op k hopm hsim hb ha hr hf hph
    unfold f_Rn_ask
    rw [if_neg (by decide), if_neg (by decide), if_neg (by decide), if_pos rfl]
    rcases hq : f_Rn_compareNumbers oc_ b u (a + 1) with ⟨x, y⟩
    rw [hq] at h1
    exact ANQ_b h1
  · subst h
    have h1 := an_4 oc_ op k hopm hsim hb ha hr hf hph
    unfold f_Rn_ask
    rw [if_neg (by decide), if_neg (by decide), if_neg (by decide), if_neg (by decide), if_pos rfl]
    exact ANQ_b h1
  · subst h
    rw [h5.1, h5.2.1]
    exact ANQ_b (AQB_v rfl (Or.inr rfl) hr (FRM_r _ u d) hph)
  · subst h
    rw [h5.2.2.1, h5.2.2.2]
    exact ANQ_b (AQB_v rfl (Or.inl rfl) hr (FRM_r _ u d) hph)
  · subst h
    have h1 := an_7 oc_ op k hopm hsim hb ha hr hf hph
    unfold f_Rn_ask
    rw [if_neg (by decide), if_neg (by decide), if_neg (by decide), if_neg (by decide), if_neg (by decide), if_neg (by decide), if_neg (by decide), if_pos rfl]
    exact ⟨h1, fun h => absurd rfl h⟩
  · subst h
    have h1 := an_8 hb ha hr hf hph op
    unfold f_Rn_ask
    rw [if_neg (by decide), if_neg (by decide), if_neg (by decide), if_neg (by decide), if_neg (by decide), if_neg (by decide), if_neg (by decide), if_neg (by decide), if_pos rfl]
    rcases hq : f_Rn_askWhetherKnown b u with ⟨x, y⟩
    rw [hq] at h1
    exact ANQ_b h1
  · subst h
    have h1 := an_9 oc_ op k hopm hsim hb ha hr hf hph
    unfold f_Rn_ask
    rw [if_neg (by decide), if_neg (by decide), if_neg (by decide), if_neg (by decide), if_neg (by decide), if_neg (by decide), if_neg (by decide), if_neg (by decide), if_neg (by decide), if_pos rfl]
    rcases hq : f_Rn_askWhetherOn_m oc_ b u (a + 1) with ⟨x, y⟩
    rw [hq] at h1
    exact ANQ_b h1
  · subst h
    have h1 := an_10 oc_ op k hopm hsim hb ha hr hf hph
    unfold f_Rn_ask
    rw [if_neg (by decide), if_neg (by decide), if_neg (by decide), if_neg (by decide), if_neg (by decide), if_neg (by decide), if_neg (by decide), if_neg (by decide), if_neg (by decide), if_neg (by decide), if_pos rfl]
    rcases hq : f_Rn_askWhetherOn_e oc_ b u (a + 1) with ⟨x, y⟩
    rw [hq] at h1
    exact ANQ_b h1
