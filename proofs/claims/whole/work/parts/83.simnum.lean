theorem dig_lt {t : Int32} (h : ¬ f_Ct_isDigit t = 0) : t < 4096 := by
  unfold f_Ct_isDigit at h
  have e1 : (3129 : Int32).toInt = 3129 := by decide
  have e3 : (4096 : Int32).toInt = 4096 := by decide
  by_cases c1 : t < 3120
  · rw [if_pos c1] at h
    exact absurd rfl h
  · rw [if_neg c1] at h
    by_cases c2 : 3129 < t
    · rw [if_pos c2] at h
      exact absurd rfl h
    · rw [i32_lt, e1] at c2
      rw [i32_lt, e3]
      omega
theorem kind_lt {d : TMd} {t : Int32} (h : t < 4096) : f_Md_kindOf d t = 1 := by
  unfold f_Md_kindOf
  have e3 : (4096 : Int32).toInt = 4096 := by decide
  rw [i32_lt, e3] at h
  rw [if_neg (by rw [i32_le, e3]; omega)]
theorem sim_66f {oc_ : TBk → TRn → Int32 → TRn} {op : TMd → Int32 → TMd} {b : TBk} {u : TRn} {d : TMd} {lo : Int} (a base tn tn' t t' : Int32) (hp : MdP d) (hr : RR u d) (hf : ¬ TMd_fault d = 0) : AQ lo u d (f_Rn_readNumber_66 oc_ b u base tn t) (f_Md_number_67 op d a tn' t') := by
  unfold f_Rn_readNumber_66 f_Md_number_67
  rw [if_neg (by rw [RR_f hr]; exact hf), if_neg (fun h => hf (nu_f0 hp h))]
  exact AQ_f 0 0 hr (FRM_r _ u d) hf
theorem sim_66 (oc_ : TBk → TRn → Int32 → TRn) (op : TMd → Int32 → TMd) (k : Int) (hopm : ∀ (d : TMd) (w : Int32), OPP k d → LVS 0 d (op d w)) (hsim : ∀ (b : TBk) (u : TRn) (d : TMd) (w : Int32), BR b d → OPP k d → RR u d → TMd_fault d = 0 → (0 ≤ w.toInt ∧ w.toInt ≤ 10) → OPQ u d (oc_ b u w) (op d w)) {b : TBk} {u : TRn} {d : TMd} {a : Int32} (tn : Int32) {t : Int32} (hb : BR b d) (ha : APk k a d) (hr : RR u d) (hf : TMd_fault d = 0) (hph : PHB (a.toInt + 1) u d) (hg : GTok d t) : AQ (a.toInt + 1) u d (f_Rn_readNumber_66 oc_ b u (a + 1) tn t) (f_Md_number_67 op d a tn t) := by
  have hkk : f_Bk_kindOf b t = f_Md_kindOf d t := sim_kind hb hg.1 hg.2.1
  have hvv : f_Bk_valueOf b t = f_Md_valueOf d t := sim_val hb hg.1 hg.2.1
  unfold f_Rn_readNumber_66 f_Md_number_67
  rw [if_pos ((RR_f hr).trans hf), if_pos (show TMd_fault d ≤ 0 by rw [hf]; decide), hkk, hvv]
  dsimp only
  have hfail : AQ (a.toInt + 1) u d (sgn tn ((0 : Int32), f_Rn_fail b u 3)) (sgn tn ((0 : Int32), f_Md_fail d 3)) := AQ_s tn (AQ_fail b 0 0 (by decide) hr (FRM_r _ u d))
  have hval : AQ (a.toInt + 1) u d (sgn tn (f_Md_valueOf d t, u)) (sgn tn (f_Md_valueOf d t, d)) := AQ_s tn ⟨hr, FRM_r _ u d, fun _ => ⟨rfl, hph⟩⟩
  by_cases cd : f_Ct_isDigit t = 0
  · have cd' : f_Md_isDigit d t = 0 := cd
    rw [if_pos cd]
    by_cases c4 : f_Md_kindOf d t = 4
    · rw [if_pos c4, if_neg (show ¬ t < 4096 from fun h => by rw [kind_lt h] at c4; exact absurd c4 (by decide)), if_pos c4]
      exact hval
    · rw [if_neg c4]
      by_cases c : t < 4096
      · rw [if_pos c, if_pos cd']
        exact hfail
      · rw [if_neg c, if_neg c4, if_pos cd']
        exact hfail
  · have cd' : ¬ f_Md_isDigit d t = 0 := cd
    rw [if_neg cd, if_pos (dig_lt cd), if_neg cd']
    have h1 := sim_dig oc_ op k hopm hsim 10 TM b u d a tn t 0 0 hb ha hr hf hph cd (TLn_i (by omega) (by omega)) (by rw [TM_eq, e_0]; omega)
    unfold f_Rn_readDigits
    rcases hl : f_Rn_readDigits_8 oc_ 10 b u (a + 1) 0 t 0 with ⟨r, v⟩
    rw [hl] at h1
    exact h1
theorem sg43 {d : TMd} (t : Int32) : f_Md_isSignOf d t 43 12 = if t = 3115 then 1 else 0 := by
  unfold f_Md_isSignOf
  rw [show (256 * 12 + 43 : Int32) = 3115 by decide]
theorem sg45 {d : TMd} (t : Int32) : f_Md_isSignOf d t 45 12 = if t = 3117 then 1 else 0 := by
  unfold f_Md_isSignOf
  rw [show (256 * 12 + 45 : Int32) = 3117 by decide]
theorem sim_11 (oc_ : TBk → TRn → Int32 → TRn) (op : TMd → Int32 → TMd) (k : Int) (hopm : ∀ (d : TMd) (w : Int32), OPP k d → LVS 0 d (op d w)) (hsim : ∀ (b : TBk) (u : TRn) (d : TMd) (w : Int32), BR b d → OPP k d → RR u d → TMd_fault d = 0 → (0 ≤ w.toInt ∧ w.toInt ≤ 10) → OPQ u d (oc_ b u w) (op d w)) (n : Nat) : ∀ (m : Nat) (b : TBk) (u : TRn) (d : TMd) (a tn t t' x4 : Int32), BR b d → APk k a d → RR u d → (TMd_fault d = 0 → t = t' ∧ PHB (a.toInt + 1) u d ∧ GTok d t' ∧ mu d + 1 < (n : Int) ∧ mu d + 1 < (m : Int) ∧ x4.toInt + mu d ≤ 10001) → (¬ TMd_fault d = 0 → t = -1) → (0 ≤ x4.toInt) → 0 < n → 0 < m → AQ (a.toInt + 1) u d (f_Rn_readNumber_11 oc_ n b u (a + 1) tn t x4) (f_Md_number_8 op m d a tn t') := by
  induction n with
  | zero =>
    intro m b u d a tn t t' x4 hb ha hr h1 h2 h3 hn hm
    omega
  | succ n ih =>
    intro m b u d a tn t t' x4 hb ha hr h1 h2 h3 hn hm
    rcases m with _ | m
    · omega
    rw [f_Rn_readNumber_11, f_Md_number_8]
    by_cases cf : TMd_fault d = 0
    · obtain ⟨t1, hph, hg, g1, g2, g3⟩ := h1 cf
      subst t1
      have hmu := mu_0 ha.2.1
      have e6 : (1000000 : Int32).toInt = 1000000 := by decide
      have hx1 : (x4 + 1).toInt = x4.toInt + 1 := succ_toInt (by omega)
      rw [if_neg (by rw [i32_le, e6]; omega), if_pos cf, sg43, sg45]
      have hgo : ∀ tn2 : Int32, AQ (a.toInt + 1) u d (match f_Rn_readGoneOnWith oc_ b u (a + 1) with | (r, v) => f_Rn_readNumber_11 oc_ n b v (a + 1) tn2 r (x4 + 1)) (match f_Md_asked op d a with | (r, v) => f_Md_number_8 op m v a tn2 r) := fun tn2 => by
        have q := sim_ask oc_ op k hopm hsim hb ha hr (fun _ => hph)
        rcases hl : f_Rn_readGoneOnWith oc_ b u (a + 1) with ⟨r, v⟩
        rcases hm2 : f_Md_asked op d a with ⟨r', e⟩
        rw [hl, hm2] at q
        have A := ask_l op k hopm hm2.symm ha
        obtain ⟨q1, q2, q3, q4⟩ := q
        have q3 : TMd_fault e = 0 → r = r' ∧ PHB (a.toInt + 1) v e ∧ TMd_held e = -1 := q3
        dsimp only
        exact AQ_t q2 (ih m b v e a tn2 r r' (x4 + 1) (BR_E A.2.1 hb) A.1 q1 (fun q => ⟨(q3 q).1, (q3 q).2.1, A.2.2.2 q, by have := ask_lt op k hopm hm2.symm ha q; omega, by have := ask_lt op k hopm hm2.symm ha q; omega, by have := ask_lt op k hopm hm2.symm ha q; omega⟩) q4 (by omega) (by omega) (by omega))
      by_cases c43 : t = 3115
      · have c45 : ¬ t = 3117 := fun h => by rw [h] at c43; exact absurd c43 (by decide)
        rw [if_pos c43, if_neg c45, if_pos c43, if_neg c45, if_neg (show ¬ (1 : Int32) = 0 by decide)]
        by_cases ct : tn = 0
        · rw [if_pos ct, if_pos ct]
          exact hgo 0
        · rw [if_neg ct, if_neg ct]
          exact hgo 1
      · rw [if_neg c43, if_neg c43, if_pos (show (0 : Int32) = 0 from rfl)]
        by_cases c45 : t = 3117
        · rw [if_pos c45, if_pos c45, if_neg (show ¬ (1 : Int32) = 0 by decide)]
          by_cases ct : tn = 1
          · rw [if_pos ct, if_pos ct]
            exact hgo 0
          · rw [if_neg ct, if_neg ct]
            exact hgo 1
        · rw [if_neg c45, if_neg c45, if_pos (show (0 : Int32) = 0 from rfl)]
          exact sim_66 oc_ op k hopm hsim tn hb ha hr cf hph hg
    · have ht := h2 cf
      rw [if_neg cf, if_neg (show ¬ t = 3115 by rw [ht]; decide), if_neg (show ¬ t = 3117 by rw [ht]; decide)]
      by_cases c : 1000000 ≤ x4
      · rw [if_pos c]
        exact sim_66f a (a + 1) tn tn t t' ha.2.1 hr cf
      · rw [if_neg c]
        exact sim_66f a (a + 1) tn tn t t' ha.2.1 hr cf
theorem sim_num (oc_ : TBk → TRn → Int32 → TRn) (op : TMd → Int32 → TMd) (k : Int) (hopm : ∀ (d : TMd) (w : Int32), OPP k d → LVS 0 d (op d w)) (hsim : ∀ (b : TBk) (u : TRn) (d : TMd) (w : Int32), BR b d → OPP k d → RR u d → TMd_fault d = 0 → (0 ≤ w.toInt ∧ w.toInt ≤ 10) → OPQ u d (oc_ b u w) (op d w)) {b : TBk} {u : TRn} {d : TMd} {a : Int32} (hb : BR b d) (ha : APk k a d) (hr : RR u d) (hph : TMd_fault d = 0 → PHB (a.toInt + 1) u d) : AQ (a.toInt + 1) u d (f_Rn_readNumber oc_ b u (a + 1)) (f_Md_number op d a) := by
  have q := sim_ask oc_ op k hopm hsim hb ha hr hph
  unfold f_Rn_readNumber f_Md_number
  rcases hl : f_Rn_readGoneOnWith oc_ b u (a + 1) with ⟨r, v⟩
  rcases hm2 : f_Md_asked op d a with ⟨r', e⟩
  rw [hl, hm2] at q
  have A := ask_l op k hopm hm2.symm ha
  obtain ⟨q1, q2, q3, q4⟩ := q
  have q3 : TMd_fault e = 0 → r = r' ∧ PHB (a.toInt + 1) v e ∧ TMd_held e = -1 := q3
  have h1 := mu_0 A.1.2.1
  dsimp only
  exact AQ_t q2 (sim_11 oc_ op k hopm hsim TM TM b v e a 0 r r' 0 (BR_E A.2.1 hb) A.1 q1 (fun q => ⟨(q3 q).1, (q3 q).2.1, A.2.2.2 q, by rw [TM_eq]; omega, by rw [TM_eq]; omega, by rw [e_0]; omega⟩) q4 (by rw [e_0]; omega) (by rw [TM_eq]; omega) (by rw [TM_eq]; omega))
