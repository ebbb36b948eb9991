theorem go_1 {d : TMd} (h : MdP d) : vp_in (TMd_pile d) 5010 := by
  have h1 := h.1
  exact vp_of h1.1 (by omega)
theorem at_1 {d : TMd} {x : Int32} (h : MdP d) (c : ¬ f_Md_in x 0 (TMd_outSize d - 1) = 0) : vp_in x 300 := by
  have h1 := in_of c
  have h2 := h.2.2.2.2.2.1
  rw [e_0, pred_toInt (by omega)] at h1
  exact vp_of h1.1 (by omega)
theorem isTok {x : Int32} (c : ¬ f_Md_isToken x = 0) : x.toInt < 4136 := by
  have h1 := in_of c
  have e : (4135 : Int32).toInt = 4135 := by decide
  omega
/-- a token's kind and value -/
theorem kv_M {d : TMd} (h : MdS d) {t : Int32} (ht : t.toInt < 4136) (hk : f_Md_kindOf d t = 2 ∨ f_Md_kindOf d t = 3) : 0 ≤ (f_Md_valueOf d t).toInt ∧ (f_Md_valueOf d t).toInt < 20 := by
  unfold f_Md_kindOf at hk
  unfold f_Md_valueOf
  by_cases c : (4096 : Int32) ≤ t
  · rw [if_pos c] at hk ⊢
    rw [i32_le] at c
    have e1 : (4096 : Int32).toInt = 4096 := by decide
    have h1 : (t - 4096).toInt = t.toInt - 4096 := by rw [i32_sub (by rw [e1]; omega) (by rw [e1]; omega), e1]
    have h2 := clamp_toInt (x := t - 4096) (by omega)
    have h3 := h.2.2.1 (t - 4096).toNatClampNeg (by omega)
    have h4 := h.1
    have h5 := h3.2.2 hk
    omega
  · rw [if_neg c] at hk
    rcases hk with hk | hk
    · exact absurd hk (by decide)
    · exact absurd hk (by decide)
theorem as_row {x : Int32} (h : 0 ≤ x.toInt ∧ x.toInt < 20) : vp_in x 21 := vp_of h.1 (by omega)
theorem as_size {d : TMd} (hs : MdS d) {x : Int32} (h : 0 ≤ x.toInt ∧ x.toInt < 20) : 0 ≤ (TMd_sizes d x.toNatClampNeg).toInt ∧ (TMd_sizes d x.toNatClampNeg).toInt ≤ 200 := by
  have h2 := clamp_toInt h.1
  exact MdS_size hs (by omega)
theorem as_cell {d : TMd} (hs : MdS d) {x y z : Int32} {n : Nat} (h : 0 ≤ x.toInt ∧ x.toInt < 20) (hz : 0 ≤ z.toInt ∧ z.toInt < 20) (hn : TLn (TMd_sizes d z.toNatClampNeg).toInt y (n + 1)) (c : ¬ TMd_sizes d z.toNatClampNeg ≤ y) : vp_in (200 * x + y) 4200 := by
  have h1 := as_size hs hz
  have h2 := hn.2.1
  rw [i32_le] at c
  exact (cellM h.1 (by omega) h2 (by omega)).2
theorem ct_row {d : TMd} (hs : MdS d) {x : Int32} {n : Nat} (hn : TLn (TMd_bodies d).toInt x (n + 1)) (c : ¬ TMd_bodies d ≤ x) : vp_in x 21 := by
  have h1 := hs.1
  have h2 := hn.2.1
  rw [i32_le] at c
  exact vp_of h2 (by omega)
