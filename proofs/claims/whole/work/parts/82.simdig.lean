/-- what an asking that may be faulty leaves -/
def AQ (lo : Int) (u : TRn) (d : TMd) (p : Int32 × TRn) (q : Int32 × TMd) : Prop := RR p.2 q.2 ∧ FRM lo u p.2 d q.2 ∧ (TMd_fault q.2 = 0 → p.1 = q.1 ∧ PHB lo p.2 q.2)
theorem AQ_t {lo : Int} {u v : TRn} {d e : TMd} {p : Int32 × TRn} {q : Int32 × TMd} (h : FRM lo u v d e) (h2 : AQ lo v e p q) : AQ lo u d p q := ⟨h2.1, FRM_t h h2.2.1 (Int.le_refl _), h2.2.2⟩
theorem AQ_f {lo : Int} {u v : TRn} {d e : TMd} (x y : Int32) (h1 : RR v e) (h2 : FRM lo u v d e) (hf : ¬ TMd_fault e = 0) : AQ lo u d (x, v) (y, e) := ⟨h1, h2, fun h => absurd h hf⟩
theorem AQ_fail {lo : Int} {u v : TRn} {d e : TMd} (b : TBk) (x y : Int32) {q : Int32} (hq : ¬ q = 0) (h1 : RR v e) (h2 : FRM lo u v d e) : AQ lo u d (x, f_Rn_fail b v q) (y, f_Md_fail e q) := AQ_f x y (sim_fail h1 b q) (FRM_t h2 (FRM_e (fail_ce b v q).1 (fail_ce b v q).2 (fail_open e q).2.1) (Int.le_refl _)) (fail_ne e hq)
theorem RR_f {u : TRn} {d : TMd} (h : RR u d) : TRn_fault u = TMd_fault d := h.2.2.2.2.2.2.2.1
theorem sim_sign (oc_ : TBk → TRn → Int32 → TRn) (op : TMd → Int32 → TMd) (k : Int) (hopm : ∀ (d : TMd) (w : Int32), OPP k d → LVS 0 d (op d w)) (hsim : ∀ (b : TBk) (u : TRn) (d : TMd) (w : Int32), BR b d → OPP k d → RR u d → TMd_fault d = 0 → (0 ≤ w.toInt ∧ w.toInt ≤ 10) → OPQ u d (oc_ b u w) (op d w)) {b : TBk} {u : TRn} {d : TMd} {a : Int32} (hb : BR b d) (ha : APk k a d) (hr : RR u d) (hph : TMd_fault d = 0 → PHB (a.toInt + 1) u d) : AQ (a.toInt + 1) u d (f_Rn_readSign oc_ b u (a + 1)) (f_Md_askedToken op d a) := by
  have q := sim_ask oc_ op k hopm hsim hb ha hr hph
  unfold f_Rn_readSign f_Md_askedToken
  rcases hl : f_Rn_readGoneOnWith oc_ b u (a + 1) with ⟨r, v⟩
  rcases hm : f_Md_asked op d a with ⟨r', e⟩
  rw [hl, hm] at q
  have A := ask_l op k hopm hm.symm ha
  obtain ⟨q1, q2, q3, q4⟩ := q
  have q1 : RR v e := q1
  have q2 : FRM (a.toInt + 1) u v d e := q2
  have q3 : TMd_fault e = 0 → r = r' ∧ PHB (a.toInt + 1) v e ∧ TMd_held e = -1 := q3
  dsimp only
  by_cases cf : TMd_fault e = 0
  · obtain ⟨q5, q6, q7⟩ := q3 cf
    subst q5
    have hg := A.2.2.2 cf
    have hkk : f_Bk_kindOf b r = f_Md_kindOf e r := sim_kind (BR_E A.2.1 hb) hg.1 hg.2.1
    have hK := kind_rng (MdE_S A.2.1 ha.1) hg.1 hg.2.1
    rw [if_pos ((RR_f q1).trans cf), if_pos cf, hkk]
    by_cases ck : f_Md_kindOf e r ≤ 5
    · have c6 : ¬ f_Md_kindOf e r = 6 := fun h => by rw [h] at ck; exact absurd ck (by decide)
      have c7 : ¬ f_Md_kindOf e r = 7 := fun h => by rw [h] at ck; exact absurd ck (by decide)
      have c8 : ¬ f_Md_kindOf e r = 8 := fun h => by rw [h] at ck; exact absurd ck (by decide)
      rw [if_pos (mark_0 c6 c7 c8), if_pos ck, if_pos (by rw [cf]; decide)]
      exact ⟨q1, q2, fun _ => ⟨rfl, q6⟩⟩
    · have hmk : f_Md_kindOf e r = 6 ∨ f_Md_kindOf e r = 7 ∨ f_Md_kindOf e r = 8 := by
        have e1 : (6 : Int32).toInt = 6 := by decide
        have e2 : (7 : Int32).toInt = 7 := by decide
        have e3 : (8 : Int32).toInt = 8 := by decide
        have e4 : (5 : Int32).toInt = 5 := by decide
        rw [i32_le, e4] at ck
        rw [i32_eq, i32_eq, i32_eq, e1, e2, e3]
        omega
      have h7 := fail_7 cf 6
      rw [if_neg (mark_1 hmk), if_neg ck, if_neg (by rw [h7]; decide)]
      exact AQ_fail b r (-1) (by decide) q1 q2
  · rw [if_neg (by rw [RR_f q1]; exact cf), if_neg cf, if_neg (fun h => cf (nu_f0 A.1.2.1 h))]
    exact AQ_f r (-1) q1 q2 cf
theorem dig_eq (x t : Int32) : x * 10 + (t - 3120) = 10 * x + t - 3120 := by
  rw [Int32.sub_eq_add_neg t 3120, Int32.sub_eq_add_neg (10 * x + t) 3120, Int32.add_assoc, Int32.mul_comm x 10]
theorem div256 {r : Int32} (h0 : 0 ≤ r.toInt) : (r / 256).toInt = r.toInt / 256 := by
  have e1 : (256 : Int32).toInt = 256 := by decide
  rw [Int32.toInt_div_of_ne_left r 256 (fun h => by rw [h] at h0; exact absurd h0 (by decide)), e1, Int.tdiv_eq_ediv_of_nonneg h0]
theorem blnk {r : Int32} (h0 : 0 ≤ r.toInt) (h1 : r.toInt ≤ 4135) : f_Ct_isBlank r = 0 ↔ (4096 ≤ r ∨ ¬ r / 256 = 10) := by
  have e1 : (2560 : Int32).toInt = 2560 := by decide
  have e2 : (2815 : Int32).toInt = 2815 := by decide
  have e3 : (4096 : Int32).toInt = 4096 := by decide
  have e4 : (10 : Int32).toInt = 10 := by decide
  have h2 := div256 h0
  unfold f_Ct_isBlank
  rw [i32_le, i32_eq (y := 10), h2, e3, e4]
  by_cases c1 : r < 2560
  · rw [if_pos c1]
    rw [i32_lt, e1] at c1
    exact ⟨fun _ => Or.inr (by omega), fun _ => rfl⟩
  · rw [if_neg c1]
    rw [i32_lt, e1] at c1
    by_cases c2 : 2815 < r
    · rw [if_pos c2]
      rw [i32_lt, e2] at c2
      exact ⟨fun _ => Or.inr (by omega), fun _ => rfl⟩
    · rw [if_neg c2]
      rw [i32_lt, e2] at c2
      exact ⟨fun h => absurd h (by decide), fun h => by omega⟩
theorem nm_f (op : TMd → Int32 → TMd) {m : Nat} {d : TMd} (x1 x2 x3 x4 x5 : Int32) (hf : ¬ TMd_fault d = 0) : f_Md_number_124 op (m + 1) d x1 x2 x3 x4 x5 = (if x2 = 0 then (x4, d) else (-x4, d)) := by
  rw [f_Md_number_124, if_neg hf]
/-- the sign that was read before a number -/
def sgn {T : Type} (tn : Int32) (p : Int32 × T) : Int32 × T := if tn = 0 then p else (-p.1, p.2)
theorem sgn_2 {T : Type} (tn : Int32) (p : Int32 × T) : (sgn tn p).2 = p.2 := by
  unfold sgn
  by_cases h : tn = 0
  · rw [if_pos h]
  · rw [if_neg h]
theorem AQ_s {lo : Int} {u : TRn} {d : TMd} {p : Int32 × TRn} {q : Int32 × TMd} (tn : Int32) (h : AQ lo u d p q) : AQ lo u d (sgn tn p) (sgn tn q) := by
  unfold sgn
  by_cases c : tn = 0
  · rw [if_pos c, if_pos c]
    exact h
  · rw [if_neg c, if_neg c]
    exact ⟨h.1, h.2.1, fun q => ⟨by rw [(h.2.2 q).1], (h.2.2 q).2⟩⟩
theorem sgn_e {T : Type} (tn x : Int32) (e : T) : (if tn = 0 then (x, e) else (-x, e)) = sgn tn (x, e) := rfl
theorem sim_held {v : TRn} {e : TMd} (h : RR v e) (b : TBk) (r : Int32) : RR (TRn_set_rd v (f_Rd_keep b (TRn_rd v) r)) (TMd_set_held e r) := by
  obtain ⟨⟨r1, r2, r3, r4, r5⟩, ho⟩ := h
  exact ⟨⟨r1, r2, r3, rfl, r5⟩, ho⟩
theorem sim_heldm {v : TRn} {e : TMd} (h : RR v e) (hh : TMd_held e = -1) : RR v (TMd_set_held e (-1)) := by
  obtain ⟨⟨r1, r2, r3, r4, r5⟩, ho⟩ := h
  exact ⟨⟨r1, r2, r3, r4.trans hh, r5⟩, ho⟩
theorem nm_0 (op : TMd → Int32 → TMd) {m : Nat} {d : TMd} (x1 x2 : Int32) {x3 : Int32} (x4 x5 : Int32) (hf : TMd_fault d = 0) (hd : f_Md_isDigit d x3 = 0) (h0 : 0 ≤ x3.toInt) (h1 : x3.toInt ≤ 4135) : f_Md_number_124 op (m + 1) d x1 x2 x3 x4 x5 = sgn x2 (x4, TMd_set_held d (if f_Ct_isBlank x3 = 0 then x3 else -1)) := by
  rw [f_Md_number_124, if_pos hf, if_pos hd]
  have hbl := blnk h0 h1
  unfold sgn
  by_cases c : 4096 ≤ x3
  · rw [if_pos c, if_pos (hbl.mpr (Or.inl c))]
  · rw [if_neg c]
    by_cases c2 : x3 / 256 = 10
    · rw [if_pos c2, if_neg (show ¬ f_Ct_isBlank x3 = 0 from fun h => by rcases hbl.mp h with h | h; exact c h; exact h c2)]
    · rw [if_neg c2, if_pos (hbl.mpr (Or.inr c2))]
theorem nm_10 (op : TMd → Int32 → TMd) {m : Nat} {d : TMd} (x1 x2 : Int32) {x3 : Int32} (x4 : Int32) {x5 : Int32} (hf : TMd_fault d = 0) (hd : ¬ f_Md_isDigit d x3 = 0) (h5 : x5 + 1 = 10) : f_Md_number_124 op (m + 1 + 1) d x1 x2 x3 x4 x5 = sgn x2 (x4, f_Md_fail d 8) := by
  rw [f_Md_number_124, if_pos hf, if_neg hd, if_pos h5]
  dsimp only
  rw [nm_f op _ _ _ _ _ (by rw [fail_7 hf 8]; decide)]
  rfl
theorem nm_s (op : TMd → Int32 → TMd) {m : Nat} {d : TMd} (x1 x2 : Int32) {x3 : Int32} (x4 : Int32) {x5 : Int32} (hf : TMd_fault d = 0) (hd : ¬ f_Md_isDigit d x3 = 0) (h5 : ¬ x5 + 1 = 10) : f_Md_number_124 op (m + 1) d x1 x2 x3 x4 x5 = match f_Md_asked op d x1 with | (r, w) => f_Md_number_124 op m w x1 x2 r (((10 * x4) + x3) - 3120) (x5 + 1) := by
  rw [f_Md_number_124, if_pos hf, if_neg hd, if_neg h5]
theorem sim_dig (oc_ : TBk → TRn → Int32 → TRn) (op : TMd → Int32 → TMd) (k : Int) (hopm : ∀ (d : TMd) (w : Int32), OPP k d → LVS 0 d (op d w)) (hsim : ∀ (b : TBk) (u : TRn) (d : TMd) (w : Int32), BR b d → OPP k d → RR u d → TMd_fault d = 0 → (0 ≤ w.toInt ∧ w.toInt ≤ 10) → OPQ u d (oc_ b u w) (op d w)) (n : Nat) : ∀ (m : Nat) (b : TBk) (u : TRn) (d : TMd) (a tn t acc x5 : Int32), BR b d → APk k a d → RR u d → TMd_fault d = 0 → PHB (a.toInt + 1) u d → ¬ f_Ct_isDigit t = 0 → TLn 9 x5 n → 12 ≤ (m : Int) + x5.toInt → AQ (a.toInt + 1) u d (sgn tn (f_Rn_readDigits_8 oc_ n b u (a + 1) acc t x5)) (f_Md_number_124 op m d a tn t acc x5) := by
  induction n with
  | zero =>
    intro m b u d a tn t acc x5 hb ha hr hf hph hd hn hm
    exact (TLn_0 hn).elim
  | succ n ih =>
    intro m b u d a tn t acc x5 hb ha hr hf hph hd hn hm
    obtain ⟨n1, n2, n3⟩ := hn
    rcases m with _ | m
    · omega
    rcases m with _ | m
    · omega
    have e9 : (9 : Int32).toInt = 9 := by decide
    have e10 : (10 : Int32).toInt = 10 := by decide
    have hx : (x5 + 1).toInt = x5.toInt + 1 := succ_toInt (by omega)
    rw [f_Rn_readDigits_8]
    by_cases c9 : 9 ≤ x5
    · rw [if_pos c9]
      rw [i32_le, e9] at c9
      rw [nm_10 op _ _ _ hf hd (by rw [i32_eq, hx, e10]; omega)]
      exact AQ_s tn (AQ_fail b 0 acc (by decide) hr (FRM_r _ u d))
    · rw [if_neg c9]
      have c9' := c9
      rw [i32_le, e9] at c9'
      rw [nm_s op _ _ _ hf hd (by rw [i32_eq, hx, e10]; omega)]
      have q := sim_ask oc_ op k hopm hsim hb ha hr (fun _ => hph)
      rcases hl : f_Rn_readGoneOnWith oc_ b u (a + 1) with ⟨r, v⟩
      rcases hm2 : f_Md_asked op d a with ⟨r', e⟩
      rw [hl, hm2] at q
      have A := ask_l op k hopm hm2.symm ha
      obtain ⟨q1, q2, q3, q4⟩ := q
      have q1 : RR v e := q1
      have q2 : FRM (a.toInt + 1) u v d e := q2
      have q3 : TMd_fault e = 0 → r = r' ∧ PHB (a.toInt + 1) v e ∧ TMd_held e = -1 := q3
      dsimp only
      by_cases cf : TMd_fault e = 0
      · obtain ⟨q5, q6, q7⟩ := q3 cf
        subst q5
        have hg := A.2.2.2 cf
        rw [if_pos ((RR_f q1).trans cf), dig_eq]
        by_cases cd : f_Ct_isDigit r = 0
        · rw [if_pos cd, nm_0 op _ _ _ _ cf cd hg.1 hg.2.1]
          by_cases cb : f_Ct_isBlank r = 0
          · rw [if_pos cb, if_pos cb]
            exact AQ_s tn ⟨sim_held q1 b r, q2, fun _ => ⟨rfl, q6⟩⟩
          · rw [if_neg cb, if_neg cb]
            exact AQ_s tn ⟨sim_heldm q1 q7, q2, fun _ => ⟨rfl, q6⟩⟩
        · rw [if_neg cd]
          have e9' : (9 : Int32).toInt = 9 := e9
          exact AQ_t q2 (ih (m + 1) b v e a tn r (10 * acc + t - 3120) (x5 + 1) (BR_E A.2.1 hb) A.1 q1 cf q6 cd ⟨by omega, by omega, by omega⟩ (by omega))
      · rw [if_neg (by rw [RR_f q1]; exact cf), nm_f op _ _ _ _ _ cf]
        rw [sgn_e]
        exact AQ_s tn (AQ_f _ _ q1 q2 cf)
