/-! numbers, loop counters (before the walks) -/
theorem i32_add {x y : Int32} (h1 : -2147483648 ≤ x.toInt + y.toInt) (h2 : x.toInt + y.toInt < 2147483648) : (x + y).toInt = x.toInt + y.toInt := by
  rw [Int32.toInt_add]
  exact Int.bmod_eq_of_le (by omega) (by omega)
theorem i32_sub {x y : Int32} (h1 : -2147483648 ≤ x.toInt - y.toInt) (h2 : x.toInt - y.toInt < 2147483648) : (x - y).toInt = x.toInt - y.toInt := by
  rw [Int32.toInt_sub]
  exact Int.bmod_eq_of_le (by omega) (by omega)
theorem i32_mul {x y : Int32} (h1 : -2147483648 ≤ x.toInt * y.toInt) (h2 : x.toInt * y.toInt < 2147483648) : (x * y).toInt = x.toInt * y.toInt := by
  rw [Int32.toInt_mul]
  exact Int.bmod_eq_of_le (by omega) (by omega)
theorem i32_lt {x y : Int32} : x < y ↔ x.toInt < y.toInt := Int32.lt_iff_toInt_lt
theorem i32_le {x y : Int32} : x ≤ y ↔ x.toInt ≤ y.toInt := Int32.le_iff_toInt_le
theorem i32_eq {x y : Int32} : x = y ↔ x.toInt = y.toInt := Int32.toInt_inj.symm
theorem i32_lo (x : Int32) : -2147483648 ≤ x.toInt := Int32.le_toInt x
theorem i32_hi (x : Int32) : x.toInt < 2147483648 := Int32.toInt_lt x
/-- a loop's counter x that goes up to k, with n turns of fuel -/
def TLn (k : Int) (x : Int32) (n : Nat) : Prop := x.toInt + n = k + 1 ∧ 0 ≤ x.toInt ∧ x.toInt ≤ k
theorem TLn_0 {k : Int} {x : Int32} (h : TLn k x 0) : False := by
  obtain ⟨h1, h2, h3⟩ := h
  omega
theorem TLn_s {k : Int} {x K : Int32} {n : Nat} (h : TLn k x (n + 1)) (hk : K.toInt = k) (c : ¬ K ≤ x) : TLn k (x + 1) n := by
  obtain ⟨h1, h2, h3⟩ := h
  rw [i32_le] at c
  have h4 := i32_hi K
  have h5 : (1 : Int32).toInt = 1 := by decide
  have h6 : (x + 1).toInt = x.toInt + 1 := by
    rw [i32_add (by rw [h5]; omega) (by rw [h5]; omega), h5]
  unfold TLn
  rw [h6]
  omega
theorem TLn_i {k : Int} {n : Nat} (h0 : 0 ≤ k) (h : (n : Int) = k + 1) : TLn k 0 n := by
  unfold TLn
  rw [Int32.toInt_zero]
  omega
/-- the fuel of the loops that count their turns; a name that nothing unfolds -/
noncomputable def TM : Nat := Classical.choose (⟨1000001, rfl⟩ : ∃ n : Nat, n = 1000001)
theorem TM_eq : TM = 1000001 := Classical.choose_spec (⟨1000001, rfl⟩ : ∃ n : Nat, n = 1000001)
theorem TLn_m : TLn 1000000 0 TM := TLn_i (by omega) (by rw [TM_eq]; rfl)
theorem wx_tl {k : Int} {x K : Int32} {n m : Nat} (h : TLn k x (n + 1)) (hk : K.toInt ≤ (m : Int)) (c : ¬ K ≤ x) : vp_in x m := by
  obtain ⟨h1, h2, h3⟩ := h
  rw [i32_le] at c
  rw [vp_in_iff]
  omega
