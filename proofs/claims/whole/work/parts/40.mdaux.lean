/-! the reference: what keeps its rows in their bounds -/
theorem in_nameM {t : Int32} (h : t.toInt < 4136) (c : (4096 : Int32) ≤ t) : vp_in (t - 4096) 40 := by
  rw [i32_le] at c
  have e1 : (4096 : Int32).toInt = 4096 := by decide
  rw [vp_in_iff, i32_sub (by rw [e1]; omega) (by rw [e1]; omega), e1]
  omega
