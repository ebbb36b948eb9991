/-- the reference between runs: its numbers are in their bounds -/
def MdS (d : TMd) : Prop :=
  (0 ≤ (TMd_bodies d).toInt ∧ (TMd_bodies d).toInt ≤ 20) ∧
  (∀ i : Nat, i < 21 → 0 ≤ (TMd_sizes d i).toInt ∧ (TMd_sizes d i).toInt ≤ (if i = 20 then 200 else 12)) ∧
  (∀ i : Nat, i < 40 → 0 ≤ (TMd_kinds d i).toInt ∧ (TMd_kinds d i).toInt ≤ 8 ∧ ((TMd_kinds d i = 2 ∨ TMd_kinds d i = 3) → 0 ≤ (TMd_values d i).toInt ∧ (TMd_values d i).toInt < (TMd_bodies d).toInt)) ∧
  (∀ i j : Nat, i < 21 → j < 200 → (j : Int) < (TMd_sizes d i).toInt → 0 ≤ (TMd_rows d (200 * i + j)).toInt ∧ (TMd_rows d (200 * i + j)).toInt ≤ 4135)
theorem MdS_size {d : TMd} (h : MdS d) {i : Nat} (hi : i < 21) : 0 ≤ (TMd_sizes d i).toInt ∧ (TMd_sizes d i).toInt ≤ 200 := by
  have h1 := h.2.1 i hi
  split at h1
  · exact h1
  · omega
/-- in a run -/
def MdP (d : TMd) : Prop :=
  (0 ≤ (TMd_pile d).toInt ∧ (TMd_pile d).toInt ≤ (TMd_steps d).toInt + 1 ∧ 0 ≤ (TMd_steps d).toInt ∧ (TMd_steps d).toInt ≤ 5000) ∧
  (∀ i : Nat, (i : Int) < (TMd_pile d).toInt → 0 ≤ (TMd_pileRows d i).toInt ∧ (TMd_pileRows d i).toInt ≤ 20 ∧ 0 ≤ (TMd_pilePlaces d i).toInt ∧ (TMd_pilePlaces d i).toInt ≤ (TMd_sizes d (TMd_pileRows d i).toNatClampNeg).toInt) ∧
  (TMd_held d = -1 ∨ (0 ≤ (TMd_held d).toInt ∧ (TMd_held d).toInt ≤ 4135 ∧ ¬ f_Md_kindOf d (TMd_held d) = 2 ∧ ¬ f_Md_kindOf d (TMd_held d) = 3 ∧ ¬ f_Md_kindOf d (TMd_held d) = 5)) ∧
  0 ≤ (TMd_fault d).toInt ∧ (0 ≤ (TMd_open d).toInt ∧ (TMd_open d).toInt ≤ 20) ∧ (0 ≤ (TMd_outSize d).toInt ∧ (TMd_outSize d).toInt ≤ 300) ∧ (0 ≤ (TMd_opened d).toInt ∧ (TMd_opened d).toInt ≤ (TMd_steps d).toInt)
theorem e_0 : (0 : Int32).toInt = 0 := by decide
theorem e_1 : (1 : Int32).toInt = 1 := by decide
theorem e_20 : (20 : Int32).toInt = 20 := by decide
theorem e_200 : (200 : Int32).toInt = 200 := by decide
theorem e_12 : (12 : Int32).toInt = 12 := by decide
theorem e_m1 : (-1 : Int32).toInt = -1 := by decide
theorem pred_toInt {x : Int32} (h : -2147483648 < x.toInt) : (x - 1).toInt = x.toInt - 1 := by
  have := i32_hi x
  rw [i32_sub (by rw [e_1]; omega) (by rw [e_1]; omega), e_1]
theorem succ_toInt {x : Int32} (h : x.toInt < 2147483647) : (x + 1).toInt = x.toInt + 1 := by
  have := i32_lo x
  rw [i32_add (by rw [e_1]; omega) (by rw [e_1]; omega), e_1]
theorem clamp_toInt {x : Int32} (h : 0 ≤ x.toInt) : (x.toNatClampNeg : Int) = x.toInt := by
  obtain ⟨j, hj, rfl⟩ := nI_of (x := x) (by rw [i32_lt, e_0]; omega)
  rw [nI_clamp hj, nI_toInt hj]
theorem tok_row {d : TMd} {x : Int32} (h : MdS d) (c : ¬ f_Md_in x 0 (TMd_bodies d - 1) = 0) : 0 ≤ x.toInt ∧ x.toInt < 20 := by
  have h1 := in_of c
  have h2 := h.1
  rw [e_0, pred_toInt (by omega)] at h1
  omega
theorem vp_of {x : Int32} {n : Nat} (h0 : 0 ≤ x.toInt) (h1 : x.toInt < n) : vp_in x n := by
  rw [vp_in_iff]
  exact ⟨h0, h1⟩
/-- a place in the rows -/
theorem cellM {x y : Int32} (h0 : 0 ≤ x.toInt) (h1 : x.toInt ≤ 20) (h2 : 0 ≤ y.toInt) (h3 : y.toInt < 200) : (200 * x + y).toInt = 200 * x.toInt + y.toInt ∧ vp_in (200 * x + y) 4200 := by
  have h4 : (200 * x).toInt = 200 * x.toInt := by rw [i32_mul (by rw [e_200]; omega) (by rw [e_200]; omega), e_200]
  have h5 : (200 * x + y).toInt = 200 * x.toInt + y.toInt := by rw [i32_add (by rw [h4]; omega) (by rw [h4]; omega), h4]
  refine ⟨h5, ?_⟩
  rw [vp_in_iff, h5]
  omega
theorem tok_cell {d : TMd} {x : Int32} (h : MdS d) (h0 : 0 ≤ x.toInt) (h1 : x.toInt < 20) (c : ¬ TMd_sizes d x.toNatClampNeg = 12) : vp_in (200 * x + TMd_sizes d x.toNatClampNeg) 4200 := by
  have h2 := clamp_toInt h0
  have h3 := h.2.1 x.toNatClampNeg (by omega)
  rw [if_neg (by omega)] at h3
  exact (cellM h0 (by omega) h3.1 (by omega)).2
theorem tok_cell20 {d : TMd} (h : MdS d) (c : ¬ TMd_sizes d (20 : Int32).toNatClampNeg = 200) : vp_in (200 * 20 + TMd_sizes d (20 : Int32).toNatClampNeg) 4200 := by
  have h2 : (20 : Int32).toNatClampNeg = 20 := by decide
  rw [h2] at c ⊢
  have h3 := MdS_size h (i := 20) (by omega)
  rw [i32_eq, e_200] at c
  exact (cellM (x := 20) (by decide) (by decide) h3.1 (by omega)).2
theorem nx_1 {d : TMd} (h : MdP d) (c : ¬ TMd_pile d ≤ 0) : vp_in (TMd_pile d - 1) 5010 := by
  rw [i32_le, e_0] at c
  have h1 := h.1
  rw [vp_in_iff, pred_toInt (by omega)]
  omega
theorem nx_at {d : TMd} (h : MdP d) (c : ¬ TMd_pile d ≤ 0) : 0 ≤ (TMd_pileRows d (TMd_pile d - 1).toNatClampNeg).toInt ∧ (TMd_pileRows d (TMd_pile d - 1).toNatClampNeg).toInt ≤ 20 ∧ 0 ≤ (TMd_pilePlaces d (TMd_pile d - 1).toNatClampNeg).toInt ∧ (TMd_pilePlaces d (TMd_pile d - 1).toNatClampNeg).toInt ≤ (TMd_sizes d (TMd_pileRows d (TMd_pile d - 1).toNatClampNeg).toNatClampNeg).toInt := by
  rw [i32_le, e_0] at c
  have h1 := h.1
  have h2 : (TMd_pile d - 1).toInt = (TMd_pile d).toInt - 1 := pred_toInt (by omega)
  have h3 := clamp_toInt (x := TMd_pile d - 1) (by omega)
  exact h.2.1 (TMd_pile d - 1).toNatClampNeg (by omega)
theorem nx_2 {d : TMd} (h : MdP d) (c : ¬ TMd_pile d ≤ 0) : vp_in (TMd_pileRows d (TMd_pile d - 1).toNatClampNeg) 21 := by
  have h1 := nx_at h c
  exact vp_of h1.1 (by omega)
theorem nx_3 {d : TMd} (hs : MdS d) (h : MdP d) (c : ¬ TMd_pile d ≤ 0) (c2 : ¬ TMd_pilePlaces d (TMd_pile d - 1).toNatClampNeg = TMd_sizes d (TMd_pileRows d (TMd_pile d - 1).toNatClampNeg).toNatClampNeg) : vp_in (200 * TMd_pileRows d (TMd_pile d - 1).toNatClampNeg + TMd_pilePlaces d (TMd_pile d - 1).toNatClampNeg) 4200 := by
  have h1 := nx_at h c
  have h2 := clamp_toInt h1.1
  have h3 := MdS_size hs (i := (TMd_pileRows d (TMd_pile d - 1).toNatClampNeg).toNatClampNeg) (by omega)
  rw [i32_eq] at c2
  exact (cellM h1.1 h1.2.1 h1.2.2.1 (by omega)).2
theorem nx_pop {d : TMd} (h : MdP d) (c : ¬ TMd_pile d ≤ 0) : MdP (TMd_set_pile d (TMd_pile d - 1)) := by
  rw [i32_le, e_0] at c
  obtain ⟨h1, h2, h3⟩ := h
  have h4 : (TMd_pile d - 1).toInt = (TMd_pile d).toInt - 1 := pred_toInt (by omega)
  refine ⟨?_, fun i hi => h2 i ?_, h3⟩
  · show 0 ≤ (TMd_pile d - 1).toInt ∧ (TMd_pile d - 1).toInt ≤ (TMd_steps d).toInt + 1 ∧ 0 ≤ (TMd_steps d).toInt ∧ (TMd_steps d).toInt ≤ 5000
    rw [h4]
    omega
  · have hi : (i : Int) < (TMd_pile d - 1).toInt := hi
    omega
theorem nx_no {d : TMd} (h : MdP d) (c : TMd_pile d ≤ 0) (c2 : ¬ TMd_pile d = 0) : False := by
  rw [i32_le, e_0] at c
  rw [i32_eq, e_0] at c2
  have h1 := h.1
  omega
theorem nx_f {d : TMd} {n : Nat} (h : MdP d) (hn : (TMd_pile d).toInt < ((n + 1 : Nat) : Int)) (c : ¬ TMd_pile d ≤ 0) : (TMd_pile (TMd_set_pile d (TMd_pile d - 1))).toInt < (n : Int) := by
  rw [i32_le, e_0] at c
  have h1 := h.1
  show (TMd_pile d - 1).toInt < (n : Int)
  rw [pred_toInt (by omega)]
  omega
