theorem oc_take (op : TBk → TRn → Int32 → TRn) (k : Int) (hopm : ∀ (b : TBk) (u : TRn) (w : Int32), k ≤ oc u → oc u ≤ oc (op b u w)) {b : TBk} {u v : TRn} {t base r : Int32} (h : (r, v) = f_Rn_takeIn op b u t base) (hk : k ≤ base.toInt) (hb : base.toInt ≤ oc u) : base.toInt ≤ oc v := by
  have h1 : base.toInt ≤ oc (f_Rn_takeIn op b u t base).2 := by
    unfold f_Rn_takeIn
    dsimp only
    split
    · split
      · exact Int.le_trans hb (hopm b u _ (Int.le_trans hk hb))
      · split
        · exact hb
        · split
          · exact hb
          · rename_i h4
            have h5 := oc_meet b u (f_Bk_kindOf b t)
            rw [i32_le] at h4
            show base.toInt ≤ oc (f_Rn_meetMark b u (f_Bk_kindOf b t))
            have h6 : oc u = (TRn_openCount u).toInt := rfl
            omega
    · exact hb
  rw [← h] at h1
  exact h1
