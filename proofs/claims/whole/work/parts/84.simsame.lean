theorem sm_0 {m : Nat} {d : TMd} (v w j : Int32) : f_Md_areSame_81 (m + 1) d v w 0 j = 0 := by
  rw [f_Md_areSame_81]
  by_cases c : TMd_sizes d v.toNatClampNeg ≤ j
  · rw [if_pos c]
  · rw [if_neg c, if_pos rfl]
theorem sim_hst (n : Nat) : ∀ (m : Nat) (b : TBk) (d : TMd) (v w s j : Int32), BR b d → MdS d → (0 ≤ v.toInt ∧ v.toInt ≤ 20) → (0 ≤ w.toInt ∧ w.toInt ≤ 20) → TMd_sizes d v.toNatClampNeg = s → TMd_sizes d w.toNatClampNeg = s → (0 ≤ j.toInt ∧ j.toInt ≤ s.toInt) → s.toInt - j.toInt < (n : Int) → s.toInt - j.toInt < (m : Int) → f_Bk_haveTheSameTokens_20 n b v w s j = f_Md_areSame_81 m d v w 1 j := by
  induction n with
  | zero =>
    intro m b d v w s j hb hs hv hw h1 h2 hj hn hm
    omega
  | succ n ih =>
    intro m b d v w s j hb hs hv hw h1 h2 hj hn hm
    rcases m with _ | m
    · omega
    rw [f_Bk_haveTheSameTokens_20, f_Md_areSame_81, h1]
    by_cases c : s ≤ j
    · rw [if_pos c, if_pos c]
    · rw [if_neg c, if_neg c, if_neg (show ¬ (1 : Int32) = 0 by decide)]
      rw [i32_le] at c
      have hh := i32_hi s
      have hj1 : (j + 1).toInt = j.toInt + 1 := succ_toInt (by omega)
      rw [sim_in hb hs hv.1 hv.2 hj.1 (by rw [h1]; omega), sim_in hb hs hw.1 hw.2 hj.1 (by rw [h2]; omega)]
      by_cases c2 : TMd_rows d (200 * v + j).toNatClampNeg = TMd_rows d (200 * w + j).toNatClampNeg
      · rw [if_pos c2, if_pos c2]
        exact ih m b d v w s (j + 1) hb hs hv hw h1 h2 (by omega) (by omega) (by omega)
      · rw [if_neg c2, if_neg c2]
        rcases m with _ | m
        · omega
        exact (sm_0 v w (j + 1)).symm
theorem sim_same {b : TBk} {d : TMd} (hb : BR b d) (hs : MdS d) {s t : Int32} (s0 : 0 ≤ s.toInt) (s1 : s.toInt ≤ 4135) (t0 : 0 ≤ t.toInt) (t1 : t.toInt ≤ 4135) : f_Bk_meanTheSame b s t = f_Md_areSame d s t := by
  unfold f_Bk_meanTheSame f_Md_areSame
  rw [sim_kind hb s0 s1, sim_kind hb t0 t1, sim_val hb s0 s1, sim_val hb t0 t1]
  by_cases ck : f_Md_kindOf d s = f_Md_kindOf d t
  · rw [if_pos ck, if_pos ck]
    have hmac : f_Md_kindOf d s = 2 ∨ f_Md_kindOf d s = 3 → f_Bk_haveTheSameTokens b (f_Md_valueOf d s) (f_Md_valueOf d t) = (if TMd_sizes d (f_Md_valueOf d s).toNatClampNeg = TMd_sizes d (f_Md_valueOf d t).toNatClampNeg then f_Md_areSame_81 (((TMd_sizes d (f_Md_valueOf d s).toNatClampNeg).toInt + 1).toNat) d (f_Md_valueOf d s) (f_Md_valueOf d t) 1 0 else f_Md_areSame_81 (((TMd_sizes d (f_Md_valueOf d s).toNatClampNeg).toInt + 1).toNat) d (f_Md_valueOf d s) (f_Md_valueOf d t) 0 0) := fun h => by
      have h1 := kv_M hs (by omega) h
      have h2 := kv_M hs (t := t) (by omega) (by rw [← ck]; exact h)
      have h3 := clamp_toInt h1.1
      have h5 := MdS_size hs (i := (f_Md_valueOf d s).toNatClampNeg) (by omega)
      unfold f_Bk_haveTheSameTokens
      rw [sim_size hb h1.1 (by omega), sim_size hb h2.1 (by omega)]
      by_cases c : TMd_sizes d (f_Md_valueOf d s).toNatClampNeg = TMd_sizes d (f_Md_valueOf d t).toNatClampNeg
      · rw [if_pos c, if_pos c]
        exact sim_hst _ _ b d _ _ _ 0 hb hs ⟨h1.1, by omega⟩ ⟨h2.1, by omega⟩ rfl c.symm ⟨by rw [e_0]; omega, by rw [e_0]; omega⟩ (by rw [e_0]; omega) (by rw [e_0]; omega)
      · rw [if_neg c, if_neg c]
        obtain ⟨m, hm⟩ : ∃ m : Nat, ((TMd_sizes d (f_Md_valueOf d s).toNatClampNeg).toInt + 1).toNat = m + 1 := ⟨(TMd_sizes d (f_Md_valueOf d s).toNatClampNeg).toInt.toNat, by omega⟩
        rw [hm]
        exact (sm_0 _ _ 0).symm
    by_cases c2 : f_Md_kindOf d s = 2
    · rw [if_neg (by rw [c2]; decide), if_pos c2]
      exact hmac (Or.inl c2)
    · rw [if_neg c2]
      by_cases c3 : f_Md_kindOf d s = 3
      · rw [if_neg (by rw [c3]; decide), if_pos c3]
        exact hmac (Or.inr c3)
      · rw [if_neg c3]
        have h4 : f_Ct_isMacro (f_Md_kindOf d s) = 0 := by
          unfold f_Ct_isMacro
          rw [if_neg c2, if_neg c3]
        rw [if_pos h4]
  · rw [if_neg ck, if_neg ck]
theorem sim_code {b : TBk} {d : TMd} (hb : BR b d) {t : Int32} (h0 : 0 ≤ t.toInt) (h1 : t.toInt ≤ 4135) : f_Bk_codeOf b t = f_Md_code d t ∧ f_Bk_categoryOf b t = f_Md_category d t := by
  unfold f_Bk_codeOf f_Md_code f_Bk_categoryOf f_Md_category
  rw [sim_kind hb h0 h1, sim_val hb h0 h1]
  exact ⟨rfl, rfl⟩
theorem tdiv2 (x : Int) : 2 * x.tdiv 2 = x ∨ (2 * x.tdiv 2 = x - 1 ∧ 0 ≤ x) ∨ (2 * x.tdiv 2 = x + 1 ∧ x < 0) := by
  by_cases c : 0 ≤ x
  · rw [Int.tdiv_eq_ediv_of_nonneg c]
    omega
  · have h : x.tdiv 2 = -((-x) / 2) := by
      have h1 := Int.neg_tdiv (-x) 2
      rw [Int.neg_neg] at h1
      rw [h1, Int.tdiv_eq_ediv_of_nonneg (by omega)]
    rw [h]
    omega
theorem odd_eq (x : Int32) : x &&& 1 = if x - x / 2 * 2 = 0 then 0 else 1 := by
  have e2 : (2 : Int32).toInt = 2 := by decide
  have h1 : (x / 2).toInt = x.toInt.tdiv 2 := by rw [Int32.toInt_div_of_ne_right x 2 (by decide), e2]
  have hl := i32_lo x
  have hh := i32_hi x
  have h2 := tdiv2 x.toInt
  have h3 : (x / 2 * 2).toInt = x.toInt.tdiv 2 * 2 := by rw [i32_mul (by rw [h1, e2]; omega) (by rw [h1, e2]; omega), h1, e2]
  have h4 : (x - x / 2 * 2).toInt = x.toInt - x.toInt.tdiv 2 * 2 := by rw [i32_sub (by rw [h3]; omega) (by rw [h3]; omega), h3]
  have h5 : x.toInt = if 2 * x.toBitVec.toNat < 2 ^ 32 then (x.toBitVec.toNat : Int) else (x.toBitVec.toNat : Int) - ((2 ^ 32 : Nat) : Int) := by
    rw [← Int32.toInt_toBitVec]
    exact BitVec.toInt_eq_toNat_cond x.toBitVec
  rw [pk_and x 1 (by decide)]
  by_cases c : x - x / 2 * 2 = 0
  · rw [if_pos c]
    rw [i32_eq, h4, e_0] at c
    have h6 : x.toBitVec.toNat % 2 ^ 1 = 0 := by
      split at h5
      · omega
      · omega
    rw [h6]
    rfl
  · rw [if_neg c]
    rw [i32_eq, h4, e_0] at c
    have h6 : x.toBitVec.toNat % 2 ^ 1 = 1 := by
      split at h5
      · omega
      · omega
    rw [h6]
    rfl
