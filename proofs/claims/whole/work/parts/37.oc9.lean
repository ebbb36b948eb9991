theorem oc_put (b : TBk) (u : TRn) (t : Int32) : oc (f_Rn_putOut b u t) = oc u := by
  unfold f_Rn_putOut
  dsimp only
  repeat' split
  all_goals first
    | exact oc_fail b u 9
    | rfl
theorem oc_gt (op : TBk → TRn → Int32 → TRn) (k : Int) (hopm : ∀ (b : TBk) (u : TRn) (w : Int32), k ≤ oc u → oc u ≤ oc (op b u w)) {b : TBk} {u v : TRn} {t : Int32} (h : v = f_Rn_goThrough op b u t) (hk : k ≤ 0) (hb : 0 ≤ oc u) : 0 ≤ oc v := by
  rw [h]
  unfold f_Rn_goThrough
  split
  · dsimp only
    rw [oc_fail]
    exact hb
  · rcases hl : f_Rn_takeIn op b u t 0 with ⟨r, w⟩
    have h3 : (0 : Int32).toInt ≤ oc w := oc_take op k hopm hl.symm (by rw [Int32.toInt_zero]; exact hk) (by rw [Int32.toInt_zero]; exact hb)
    rw [Int32.toInt_zero] at h3
    dsimp only
    repeat' split
    all_goals first
      | (rw [oc_put]; exact h3)
      | (rw [oc_fail]; exact h3)
      | with_reducible exact h3
theorem oc_forget {b : TBk} {u v : TRn} (h : v = f_Rn_forget b u) : (0 : Int) ≤ oc v := by
  rw [h]
  show (0 : Int) ≤ (0 : Int32).toInt
  decide
