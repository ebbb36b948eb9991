theorem oc_put (b : TBk) (u : TRn) (t : Int32) : oc (f_Rn_putOut b u t) = oc u := by
  unfold f_Rn_putOut
  dsimp only
  repeat' split
  all_goals first
    | exact oc_fail b u 9
    | exact oc_fail b u 2
    | rfl
theorem oc_f0 {b : TBk} {u v : TRn} {t : Int32} (h : v = f_Rn_fail b u t) (hb : 0 ≤ oc u) : 0 ≤ oc v := by
  rw [h, oc_fail]
  exact hb
theorem oc_p0 {b : TBk} {u v : TRn} {t : Int32} (h : v = f_Rn_putOut b u t) (hb : 0 ≤ oc u) : 0 ≤ oc v := by
  rw [h, oc_put]
  exact hb
theorem oc_t0 (op : TBk → TRn → Int32 → TRn) (k : Int) (hopm : ∀ (b : TBk) (u : TRn) (w : Int32), k ≤ oc u → oc u ≤ oc (op b u w)) {b : TBk} {u v : TRn} {t r : Int32} (h : (r, v) = f_Rn_takeIn op b u t 0) (hk : k ≤ 0) (hb : 0 ≤ oc u) : 0 ≤ oc v := by
  have h3 : (0 : Int32).toInt ≤ oc v := oc_take op k hopm h (by rw [Int32.toInt_zero]; exact hk) (by rw [Int32.toInt_zero]; exact hb)
  rw [Int32.toInt_zero] at h3
  exact h3
theorem oc_forget {b : TBk} {u v : TRn} (h : v = f_Rn_forget b u) : (0 : Int) ≤ oc v := by
  rw [h]
  show (0 : Int) ≤ (0 : Int32).toInt
  decide
