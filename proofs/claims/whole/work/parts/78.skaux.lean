theorem kind_rng {d : TMd} (hs : MdS d) {t : Int32} (h0 : 0 ≤ t.toInt) (h1 : t.toInt ≤ 4135) : 0 ≤ (f_Md_kindOf d t).toInt ∧ (f_Md_kindOf d t).toInt ≤ 8 := by
  unfold f_Md_kindOf
  have e1 : (4096 : Int32).toInt = 4096 := by decide
  by_cases c : 4096 ≤ t
  · rw [if_pos c]
    rw [i32_le, e1] at c
    have h2 : (t - 4096).toInt = t.toInt - 4096 := by rw [i32_sub (by rw [e1]; omega) (by rw [e1]; omega), e1]
    have h3 := clamp_toInt (x := t - 4096) (by omega)
    have h4 := hs.2.2.1 (t - 4096).toNatClampNeg (by omega)
    exact ⟨h4.1, h4.2.1⟩
  · rw [if_neg c, e_1]
    omega
theorem mark_0 {K : Int32} (h6 : ¬ K = 6) (h7 : ¬ K = 7) (h8 : ¬ K = 8) : f_Ct_isMark K = 0 := by
  unfold f_Ct_isMark
  rw [if_neg h6, if_neg h7, if_neg h8]
theorem mark_1 {K : Int32} (h : K = 6 ∨ K = 7 ∨ K = 8) : ¬ f_Ct_isMark K = 0 := by
  rcases h with h | h | h <;> (rw [h]; decide)
/-- the place of the condition that was opened last -/
def Lst (d : TMd) : Nat := (TMd_open d - 1).toNatClampNeg
theorem Lst_i {d : TMd} (hp : MdP d) (h0 : 0 < (TMd_open d).toInt) : (Lst d : Int) = (TMd_open d).toInt - 1 ∧ ¬ (TMd_open d - 1) < 0 ∧ (TMd_open d - 1) < 20 := by
  have h1 := hp.2.2.2.2.1
  have h2 : (TMd_open d - 1).toInt = (TMd_open d).toInt - 1 := pred_toInt (by omega)
  have h3 := clamp_toInt (x := TMd_open d - 1) (by omega)
  refine ⟨by unfold Lst; omega, ?_, ?_⟩
  · rw [i32_lt, h2, e_0]
    omega
  · rw [i32_lt, h2, e_20]
    omega
theorem ip_67 {b : TBk} {v : TRn} {e : TMd} (hr : RR v e) (hp : MdP e) (h0 : 0 < (TMd_open e).toInt) : (f_Rn_isInPlace b v 7 = 0 ↔ (TRn_isCase v (Lst e) = 0 ∨ ¬ TRn_hadElse v (Lst e) = 0)) ∧ (f_Rn_isInPlace b v 6 = 0 ↔ ¬ TRn_hadElse v (Lst e) = 0) ∧ f_Rn_isInPlace b v 8 = 1 := by
  obtain ⟨h1, h2, h3⟩ := Lst_i hp h0
  have ho : TRn_openCount v = TMd_open e := hr.2.2.2.1
  unfold f_Rn_isInPlace
  rw [ho, if_neg h2, if_pos h3, if_neg h2, if_pos h3, if_neg h2, if_pos h3]
  refine ⟨?_, ?_, ?_⟩
  · rw [if_pos rfl]
    show (if TRn_isCase v (Lst e) = 0 then (0 : Int32) else if TRn_hadElse v (Lst e) = 0 then 1 else 0) = 0 ↔ _
    by_cases c : TRn_isCase v (Lst e) = 0
    · rw [if_pos c]
      exact ⟨fun _ => Or.inl c, fun _ => rfl⟩
    · rw [if_neg c]
      by_cases c2 : TRn_hadElse v (Lst e) = 0
      · rw [if_pos c2]
        exact ⟨fun h => absurd h (by decide), fun h => by rcases h with h | h; exact absurd h c; exact absurd c2 h⟩
      · rw [if_neg c2]
        exact ⟨fun _ => Or.inr c2, fun _ => rfl⟩
  · rw [if_neg (by decide), if_neg (by decide)]
    show (if TRn_hadElse v (Lst e) = 0 then (1 : Int32) else 0) = 0 ↔ _
    by_cases c2 : TRn_hadElse v (Lst e) = 0
    · rw [if_pos c2]
      exact ⟨fun h => absurd h (by decide), fun h => absurd c2 h⟩
    · rw [if_neg c2]
      exact ⟨fun _ => c2, fun _ => rfl⟩
  · rw [if_neg (by decide), if_pos rfl]
theorem pm_678 {b : TBk} {v : TRn} {e : TMd} (hr : RR v e) (hp : MdP e) (h0 : 0 < (TMd_open e).toInt) : f_Rn_passMark b v 7 = v ∧ f_Rn_passMark b v 6 = TRn_set_hadElse v (upd (TRn_hadElse v) (Lst e) 1) ∧ f_Rn_passMark b v 8 = TRn_set_openCount v (TMd_open e - 1) := by
  obtain ⟨h1, h2, h3⟩ := Lst_i hp h0
  have ho : TRn_openCount v = TMd_open e := hr.2.2.2.1
  unfold f_Rn_passMark
  rw [ho, if_neg h2, if_pos h3, if_neg h2, if_pos h3, if_neg h2, if_pos h3]
  refine ⟨?_, ?_, ?_⟩
  · rw [if_neg (by decide), if_neg (by decide)]
  · rw [if_neg (by decide), if_pos rfl]
    rfl
  · rw [if_pos rfl]
/-- what skip() leaves, in the class and in the reference -/
def SKQ (u : TRn) (d : TMd) (v : TRn) (d' : TMd) : Prop := RR v d' ∧ FRM ((TMd_open d).toInt - 1) u v d d' ∧ (TMd_fault d' = 0 → PHB ((TMd_open d).toInt - 1) v d')
theorem sim_skp {v : TRn} {e : TMd} (h : RR v e) : RR (TRn_set_skipped v (TRn_skipped v + 1)) (TMd_set_skipped e (TMd_skipped e + 1)) := by
  obtain ⟨h1, h2, h3, h4, h5, h6, h7, h8, h9⟩ := h
  exact ⟨h1, h2, h3, h4, h5, h6, (by show TRn_skipped v + 1 = TMd_skipped e + 1; rw [h7]), h8, h9⟩
theorem upd_o {f : Nat → Int32} {k j : Nat} {x : Int32} (h : j ≠ k) : upd f k x j = f j := pk_un h
