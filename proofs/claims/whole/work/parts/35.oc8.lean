theorem oc_open_tail (b : TBk) (v : TRn) (p0 x y z : Int32) : oc v - 1 ≤ oc (if (TRn_openCount v) ≤ z then (if (TRn_fault v) = 0 then f_Rn_decide b v p0 x y else v) else (if (TRn_fault (f_Rn_fail b v 6)) = 0 then f_Rn_decide b (f_Rn_fail b v 6) p0 x y else f_Rn_fail b v 6)) := by
  split
  · split
    · exact oc_decide _ _ _ _ _
    · omega
  · split
    · have h := oc_decide b (f_Rn_fail b v 6) p0 x y
      rw [oc_fail] at h
      exact h
    · rw [oc_fail]
      omega
theorem oc_ask1 (op : TBk → TRn → Int32 → TRn) (k : Int) (hopm : ∀ (b : TBk) (u : TRn) (w : Int32), k ≤ oc u → oc u ≤ oc (op b u w)) {b : TBk} {st v : TRn} {w x1 r : Int32} (hl : f_Rn_ask op b st w x1 = (r, v)) (h1 : k ≤ x1.toInt) (h2 : x1.toInt ≤ oc st) : x1.toInt ≤ oc v := by
  have h3 := oc_ask op k hopm b st w x1 h1 h2
  rw [hl] at h3
  exact h3
theorem oc_open (op : TBk → TRn → Int32 → TRn) (k : Int) (hopm : ∀ (b : TBk) (u : TRn) (w : Int32), k ≤ oc u → oc u ≤ oc (op b u w)) (b : TBk) (u : TRn) (w : Int32) (h : k - 1 ≤ oc u) : oc u ≤ oc (f_Rn_open_s op b u w) := by
  unfold f_Rn_open_s
  split
  · exact Int.le_of_eq (oc_fail b u 5).symm
  · rename_i h0
    split
    · rename_i h1
      have hk : k ≤ (TRn_openCount u + 1).toInt := open_k h h0 h1
      have hz : oc u = (TRn_openCount u + 1).toInt - 1 := by
        rw [i32_lt] at h0 h1
        rw [Int32.toInt_zero] at h0
        have e1 : (20 : Int32).toInt = 20 := by decide
        have e2 : (1 : Int32).toInt = 1 := by decide
        rw [i32_add (by rw [e2]; omega) (by rw [e2]; omega), e2]
        show (TRn_openCount u).toInt = _
        omega
      split
      · rcases hl : f_Rn_ask op b _ w (TRn_openCount u + 1) with ⟨r, v⟩
        have h3 : (TRn_openCount u + 1).toInt ≤ oc v := oc_ask1 op k hopm hl hk (Int.le_refl _)
        dsimp only
        have h4 := oc_open_tail b v w (TRn_opened u) r (TRn_openCount u + 1)
        exact Int.le_trans (by omega) h4
      · rcases hl : f_Rn_ask op b _ w (TRn_openCount u + 1) with ⟨r, v⟩
        have h3 : (TRn_openCount u + 1).toInt ≤ oc v := oc_ask1 op k hopm hl hk (Int.le_refl _)
        dsimp only
        have h4 := oc_open_tail b v w (TRn_opened u) r (TRn_openCount u + 1)
        exact Int.le_trans (by omega) h4
    · exact Int.le_of_eq (oc_fail b u 5).symm
theorem oc_open0 (b : TBk) (u : TRn) (w : Int32) : oc u ≤ oc (f_Rn_open_0 b u w) := by
  unfold f_Rn_open_0
  split
  · exact Int.le_of_eq (oc_fail b u 5).symm
  · exact Int.le_of_eq (oc_fail b u 5).symm
