/-! of the Book: what keeps its rows in their bounds -/
theorem in_name {t : Int32} (h : ¬ f_Ct_isName t = 0) : vp_in (t - 4096) 40 := by
  unfold f_Ct_isName at h
  by_cases h1 : t < 4096
  · rw [if_pos h1] at h
    exact absurd rfl h
  · rw [if_neg h1] at h
    by_cases h2 : (4136 : Int32) ≤ t
    · rw [if_pos h2] at h
      exact absurd rfl h
    · rw [i32_lt] at h1
      rw [i32_le] at h2
      have e1 : (4096 : Int32).toInt = 4096 := by decide
      have e2 : (4136 : Int32).toInt = 4136 := by decide
      rw [e1] at h1
      rw [e2] at h2
      rw [vp_in_iff, i32_sub (by rw [e1]; omega) (by rw [e1]; omega), e1]
      omega
/-- the sizes of the rows are in their bounds -/
def BkS (b : TBk) : Prop := ∀ i, i < 21 → 0 ≤ (TBk_sizes b i).toInt ∧ (TBk_sizes b i).toInt ≤ 200
theorem BkS_size {b : TBk} (h : BkS b) (x : Int32) : 0 ≤ (f_Bk_sizeOf b x).toInt ∧ (f_Bk_sizeOf b x).toInt ≤ 200 := by
  unfold f_Bk_sizeOf
  by_cases h1 : x < 0
  · rw [if_pos h1, Int32.toInt_zero]
    omega
  · rw [if_neg h1]
    by_cases h2 : (21 : Int32) ≤ x
    · rw [if_pos h2, Int32.toInt_zero]
      omega
    · rw [if_neg h2]
      have h3 := vp_in_of (wx_inAU (n := 21) (by decide) h1 h2) (by omega)
      obtain ⟨j, hj, rfl⟩ := h3
      rw [nI_clamp (by omega)]
      exact h j hj
theorem BkS_row {b : TBk} {x : Int32} (h : 0 < (f_Bk_sizeOf b x).toInt) : 0 ≤ x.toInt ∧ x.toInt ≤ 20 := by
  unfold f_Bk_sizeOf at h
  by_cases h1 : x < 0
  · rw [if_pos h1, Int32.toInt_zero] at h
    omega
  · rw [if_neg h1] at h
    by_cases h2 : (21 : Int32) ≤ x
    · rw [if_pos h2, Int32.toInt_zero] at h
      omega
    · rw [i32_lt, Int32.toInt_zero] at h1
      rw [i32_le] at h2
      have e2 : (21 : Int32).toInt = 21 := by decide
      omega
theorem cell_toInt {x y : Int32} (h1 : 0 ≤ x.toInt) (h2 : x.toInt ≤ 20) (h3 : 0 ≤ y.toInt) (h4 : y.toInt ≤ 200) : (x * 12 + y).toInt = x.toInt * 12 + y.toInt := by
  have e : (12 : Int32).toInt = 12 := by decide
  have h5 : (x * 12).toInt = x.toInt * 12 := by rw [i32_mul (by rw [e]; omega) (by rw [e]; omega), e]
  rw [i32_add (by rw [h5]; omega) (by rw [h5]; omega), h5]
theorem in_tokenIn {b : TBk} {x y : Int32} (hb : BkS b) (c1 : ¬ x < 0) (c2 : ¬ (21 : Int32) ≤ x) (h1 : ¬ y < 0) (h0 : y < TBk_sizes b x.toNatClampNeg) (h3 : ¬ (440 : Int32) ≤ x * 12 + y) : vp_in (x * 12 + y) 440 := by
  have h2 : y < f_Bk_sizeOf b x := by
    unfold f_Bk_sizeOf
    rw [if_neg c1, if_neg c2]
    exact h0
  rw [i32_lt, Int32.toInt_zero] at h1
  rw [i32_lt] at h2
  rw [i32_le] at h3
  have h4 := BkS_size hb x
  have h5 := BkS_row (b := b) (x := x) (by omega)
  have e : (440 : Int32).toInt = 440 := by decide
  have h6 := cell_toInt (x := x) (y := y) (by omega) (by omega) (by omega) (by omega)
  rw [vp_in_iff]
  omega
theorem in_append {b : TBk} {x : Int32} (hb : BkS b) (h1 : ¬ x < 0) (h2 : ¬ (20 : Int32) < x) (h3 : x * 12 + f_Bk_sizeOf b x < (440 : Int32)) : vp_in (x * 12 + f_Bk_sizeOf b x) 440 := by
  rw [i32_lt, Int32.toInt_zero] at h1
  rw [i32_lt] at h2 h3
  have h4 := BkS_size hb x
  have e : (440 : Int32).toInt = 440 := by decide
  have e2 : (20 : Int32).toInt = 20 := by decide
  have h6 := cell_toInt (x := x) (y := f_Bk_sizeOf b x) (by omega) (by omega) (by omega) (by omega)
  rw [vp_in_iff]
  omega
theorem in_top1 {x : Int32} (h1 : ¬ x < -1) (h2 : ¬ (5001 - 1 : Int32) ≤ x) : vp_in (x + 1) 5001 := by
  rw [i32_lt] at h1
  rw [i32_le] at h2
  have e1 : (-1 : Int32).toInt = -1 := by decide
  have e2 : (5001 - 1 : Int32).toInt = 5000 := by decide
  have e3 : (1 : Int32).toInt = 1 := by decide
  rw [vp_in_iff, i32_add (by rw [e3]; omega) (by rw [e3]; omega), e3]
  omega
/-- the fuel of the loop that leaves rows that ended -/
def LvF (x : Int32) (n : Nat) : Prop := x.toInt + 1 < n ∧ 0 < n
theorem LvF_0 {x : Int32} (h : LvF x 0) : False := Nat.lt_irrefl 0 h.2
theorem LvF_s {x : Int32} {n : Nat} (h : LvF x (n + 1)) (c : ¬ x < 0) : LvF (x - 1) n := by
  obtain ⟨h1, h2⟩ := h
  rw [i32_lt, Int32.toInt_zero] at c
  have e3 : (1 : Int32).toInt = 1 := by decide
  have h6 : (x - 1).toInt = x.toInt - 1 := by rw [i32_sub (by rw [e3]; omega) (by rw [e3]; have := i32_hi x; omega), e3]
  unfold LvF
  rw [h6]
  omega
theorem LvF_i (x : Int32) : LvF x ((x.toInt + 2).toNat + 1) := by
  unfold LvF
  omega
