def AQB (lo : Int) (u : TRn) (d : TMd) (p : Int32 × TRn) (q : Int32 × TMd) : Prop := AQ lo u d p q ∧ (TMd_fault q.2 = 0 → q.1 = 0 ∨ q.1 = 1)
theorem AQB_v {lo : Int} {u v : TRn} {d e : TMd} {x y : Int32} (hxy : x = y) (hx : x = 0 ∨ x = 1) (h1 : RR v e) (h2 : FRM lo u v d e) (h3 : PHB lo v e) : AQB lo u d (x, v) (y, e) := by
  subst hxy
  exact ⟨⟨h1, h2, fun _ => ⟨rfl, h3⟩⟩, fun _ => hx⟩
theorem AQB_f {lo : Int} {u v : TRn} {d e : TMd} (x y : Int32) (h1 : RR v e) (h2 : FRM lo u v d e) (hf : ¬ TMd_fault e = 0) : AQB lo u d (x, v) (y, e) := ⟨AQ_f x y h1 h2 hf, fun h => absurd h hf⟩
theorem AQB_fail {lo : Int} {u v : TRn} {d e : TMd} (b : TBk) (x y : Int32) {q : Int32} (hq : ¬ q = 0) (h1 : RR v e) (h2 : FRM lo u v d e) : AQB lo u d (x, f_Rn_fail b v q) (y, f_Md_fail e q) := ⟨AQ_fail b x y hq h1 h2, fun h => absurd h (fail_ne e hq)⟩
theorem yes_0 : f_Md_yes 0 = 0 := rfl
theorem yes_1 : f_Md_yes 1 = 1 := rfl
theorem f_le {d : TMd} (h : TMd_fault d = 0) : TMd_fault d ≤ 0 := by
  rw [h]
  decide
theorem an_01 (oc_ : TBk → TRn → Int32 → TRn) (op : TMd → Int32 → TMd) (k : Int) (hopm : ∀ (d : TMd) (w : Int32), OPP k d → LVS 0 d (op d w)) (hsim : ∀ (b : TBk) (u : TRn) (d : TMd) (w : Int32), BR b d → OPP k d → RR u d → TMd_fault d = 0 → (0 ≤ w.toInt ∧ w.toInt ≤ 10) → OPQ u d (oc_ b u w) (op d w)) {b : TBk} {u : TRn} {d : TMd} {a : Int32} (hb : BR b d) (ha : APk k a d) (hr : RR u d) (hf : TMd_fault d = 0) (hph : PHB (a.toInt + 1) u d) (w c : Int32) (hw : ¬ 2 ≤ w) (hc : c = 0 ↔ ¬ w = 0) : AQB (a.toInt + 1) u d (f_Rn_compareSigns oc_ b u c (a + 1)) (f_Md_answer op d w a) := by
  unfold f_Rn_compareSigns f_Md_answer
  rw [if_neg hw]
  have q := sim_sign oc_ op k hopm hsim hb ha hr (fun _ => hph)
  rcases hl : f_Rn_readSign oc_ b u (a + 1) with ⟨r, v⟩
  rcases hm : f_Md_askedToken op d a with ⟨r', e⟩
  rw [hl, hm] at q
  have A := at_l op k hopm hm.symm ha
  obtain ⟨q1, q2, q3⟩ := q
  have q1 : RR v e := q1
  have q2 : FRM (a.toInt + 1) u v d e := q2
  have q3 : TMd_fault e = 0 → r = r' ∧ PHB (a.toInt + 1) v e := q3
  dsimp only
  by_cases cf : TMd_fault e = 0
  · obtain ⟨q5, q6⟩ := q3 cf
    subst q5
    rw [if_pos ((RR_f q1).trans cf), if_pos (f_le cf)]
    have p := sim_sign oc_ op k hopm hsim (BR_E A.2.1 hb) A.1 q1 (fun _ => q6)
    rcases hl2 : f_Rn_readSign oc_ b v (a + 1) with ⟨s, w2⟩
    rcases hm2 : f_Md_askedToken op e a with ⟨s', e2⟩
    rw [hl2, hm2] at p
    have B := at_l op k hopm hm2.symm A.1
    obtain ⟨p1, p2, p3⟩ := p
    have p1 : RR w2 e2 := p1
    have p2 : FRM (a.toInt + 1) v w2 e e2 := p2
    have p3 : TMd_fault e2 = 0 → s = s' ∧ PHB (a.toInt + 1) w2 e2 := p3
    have p4 := FRM_t q2 p2 (Int.le_refl _)
    dsimp only
    by_cases cf2 : TMd_fault e2 = 0
    · obtain ⟨p5, p6⟩ := p3 cf2
      subst p5
      have hb2 := BR_E B.2.1 (BR_E A.2.1 hb)
      have g1 := A.2.2.2 cf
      have g2 := B.2.2.2 cf2
      have k1 := sim_code hb2 g1.1 g1.2.1
      have k2 := sim_code hb2 g2.1 g2.2.1
      rw [if_pos ((RR_f p1).trans cf2), if_pos (f_le cf2), k1.1, k1.2, k2.1, k2.2]
      by_cases cw : w = 0
      · rw [if_neg (fun h => (hc.mp h) cw), if_pos cw]
        by_cases cc : f_Md_code e2 r = f_Md_code e2 s
        · rw [if_pos cc, if_pos cc]
          exact AQB_v yes_1.symm (Or.inr rfl) p1 p4 p6
        · rw [if_neg cc, if_neg cc]
          exact AQB_v yes_0.symm (Or.inl rfl) p1 p4 p6
      · rw [if_pos (hc.mpr cw), if_neg cw]
        by_cases cc : f_Md_category e2 r = f_Md_category e2 s
        · rw [if_pos cc, if_pos cc]
          exact AQB_v yes_1.symm (Or.inr rfl) p1 p4 p6
        · rw [if_neg cc, if_neg cc]
          exact AQB_v yes_0.symm (Or.inl rfl) p1 p4 p6
    · rw [if_neg (by rw [RR_f p1]; exact cf2), if_neg (fun h => cf2 (nu_f0 B.1.2.1 h))]
      exact AQB_f 0 0 p1 p4 cf2
  · rw [if_neg (by rw [RR_f q1]; exact cf), if_neg (fun h => cf (nu_f0 A.1.2.1 h))]
    exact AQB_f 0 0 q1 q2 cf
theorem an_2 {k : Int} {b : TBk} {u : TRn} {d : TMd} {a : Int32} (hb : BR b d) (ha : APk k a d) (hr : RR u d) (hf : TMd_fault d = 0) (hph : PHB (a.toInt + 1) u d) (op : TMd → Int32 → TMd) : AQB (a.toInt + 1) u d (f_Rn_compareMeanings b u) (f_Md_answer op d 2 a) := by
  unfold f_Rn_compareMeanings f_Md_answer
  rw [if_pos (show (2 : Int32) ≤ 2 by decide), if_pos rfl]
  rcases hl : f_Rn_lookForMore b u with ⟨r, v⟩
  rcases hm : f_Md_need d with ⟨r', e⟩
  obtain ⟨s1, ⟨s2, s3⟩, s4, s5⟩ := sim_need hb ha.1 ha.2.1 hr hf hl.symm hm.symm
  obtain ⟨a1, a2, a3, a4, a5, a6⟩ := ned hm.symm ha.1 ha.2.1
  have q2 : FRM (a.toInt + 1) u v d e := FRM_e s2 s3 a4
  dsimp only
  by_cases cf : TMd_fault e = 0
  · obtain ⟨t1, t2, t3⟩ := s4 cf
    subst t1
    rw [if_pos ((RR_f s1).trans cf)]
    rcases hl2 : f_Rn_lookForMore b v with ⟨s, w2⟩
    rcases hm2 : f_Md_need e with ⟨s', e2⟩
    have hs' := MdE_S a1 ha.1
    obtain ⟨y1, ⟨y2, y3⟩, y4, y5⟩ := sim_need (BR_E a1 hb) hs' a2 s1 cf hl2.symm hm2.symm
    obtain ⟨b1, b2, b3, b4, b5, b6⟩ := ned hm2.symm hs' a2
    have p4 : FRM (a.toInt + 1) u w2 d e2 := FRM_t q2 (FRM_e y2 y3 b4) (Int.le_refl _)
    dsimp only
    by_cases cf2 : TMd_fault e2 = 0
    · obtain ⟨z1, z2, z3⟩ := y4 cf2
      subst z1
      have g1 := (a6 cf).1
      have g2 := (b6 cf2).1
      have p6 : PHB (a.toInt + 1) w2 e2 := PHB_e (PHB_e hph s2 s3 a4 a3) y2 y3 b4 b3
      rw [if_pos ((RR_f y1).trans cf2), if_pos (f_le cf2), sim_same (BR_E b1 (BR_E a1 hb)) (MdE_S b1 hs') g1.1 g1.2.1 g2.1 g2.2.1]
      unfold f_Md_yes
      by_cases cc : f_Md_areSame e2 r s = 0
      · rw [if_pos cc, if_pos cc]
        exact AQB_v rfl (Or.inl rfl) y1 p4 p6
      · rw [if_neg cc, if_neg cc]
        exact AQB_v rfl (Or.inr rfl) y1 p4 p6
    · rw [if_neg (by rw [RR_f y1]; exact cf2), if_neg (fun h => cf2 (nu_f0 b2 h))]
      exact AQB_f 0 0 y1 p4 cf2
  · rw [if_neg (by rw [RR_f s1]; exact cf), need_f a2 cf]
    dsimp only
    have h2 : ¬ TMd_fault (f_Md_fail e 1) = 0 := by
      rw [fail_f0 e 1 cf]
      exact cf
    rw [if_neg (fun h => h2 (nu_f0 (MdP_fail a2 (by decide)) h))]
    exact AQB_f 0 0 (sim_fail0 s1 1 cf) (FRM_t q2 (FRM_e rfl rfl (fail_open e 1).2.1) (Int.le_refl _)) h2
theorem an_8 {k : Int} {b : TBk} {u : TRn} {d : TMd} {a : Int32} (hb : BR b d) (ha : APk k a d) (hr : RR u d) (hf : TMd_fault d = 0) (hph : PHB (a.toInt + 1) u d) (op : TMd → Int32 → TMd) : AQB (a.toInt + 1) u d (f_Rn_askWhetherKnown b u) (f_Md_answer op d 8 a) := by
  unfold f_Rn_askWhetherKnown f_Md_answer
  rw [if_pos (show (2 : Int32) ≤ 8 by decide), if_neg (show ¬ (8 : Int32) = 2 by decide), if_neg (show ¬ (8 : Int32) = 3 by decide), if_neg (show ¬ (8 : Int32) = 5 by decide), if_neg (show ¬ (8 : Int32) = 6 by decide), if_pos rfl]
  rcases hl : f_Rn_lookForMore b u with ⟨r, v⟩
  rcases hm : f_Md_need d with ⟨r', e⟩
  obtain ⟨s1, ⟨s2, s3⟩, s4, s5⟩ := sim_need hb ha.1 ha.2.1 hr hf hl.symm hm.symm
  obtain ⟨a1, a2, a3, a4, a5, a6⟩ := ned hm.symm ha.1 ha.2.1
  have q2 : FRM (a.toInt + 1) u v d e := FRM_e s2 s3 a4
  dsimp only
  by_cases cf : TMd_fault e = 0
  · obtain ⟨t1, t2, t3⟩ := s4 cf
    subst t1
    have g1 := (a6 cf).1
    have p6 : PHB (a.toInt + 1) v e := PHB_e hph s2 s3 a4 a3
    rw [if_pos ((RR_f s1).trans cf), if_pos (f_le cf), sim_kind (BR_E a1 hb) g1.1 g1.2.1]
    by_cases c : r < 4096
    · rw [if_pos c, kind_lt c, if_neg (by decide)]
      exact AQB_v yes_1.symm (Or.inr rfl) s1 q2 p6
    · rw [if_neg c]
      by_cases c0 : f_Md_kindOf e r = 0
      · rw [if_pos c0, if_pos c0]
        exact AQB_v yes_0.symm (Or.inl rfl) s1 q2 p6
      · rw [if_neg c0, if_neg c0]
        exact AQB_v yes_1.symm (Or.inr rfl) s1 q2 p6
  · rw [if_neg (by rw [RR_f s1]; exact cf), if_neg (fun h => cf (nu_f0 a2 h))]
    exact AQB_f 0 0 s1 q2 cf
