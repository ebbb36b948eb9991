theorem oc_rg2 (op : TBk → TRn → Int32 → TRn) (k : Int) (hopm : ∀ (b : TBk) (u : TRn) (w : Int32), k ≤ oc u → oc u ≤ oc (op b u w)) (n : Nat) : ∀ (b : TBk) (u : TRn) (x1 x2 : Int32), k ≤ x1.toInt → x1.toInt ≤ oc u → x1.toInt ≤ oc (f_Rn_readGoneOnWith_2 op n b u x1 x2).2 := by
  induction n with
  | zero =>
    intro b u x1 x2 h1 h2
    rw [f_Rn_readGoneOnWith_2]
    exact h2
  | succ n ih =>
    intro b u x1 x2 h1 h2
    rw [f_Rn_readGoneOnWith_2]
    rcases hl : f_Rn_lookForMore b u with ⟨r, v⟩
    have h3 : x1.toInt ≤ oc v := by
      have := oc_lk hl.symm
      omega
    dsimp only
    rcases ht : f_Rn_takeIn op b v r x1 with ⟨r2, w⟩
    have h4 : x1.toInt ≤ oc w := oc_take op k hopm ht.symm h1 h3
    dsimp only
    repeat' split
    all_goals first
      | exact h2
      | exact h3
      | exact h4
      | exact ih _ _ _ _ h1 h4
theorem oc_rg (op : TBk → TRn → Int32 → TRn) (k : Int) (hopm : ∀ (b : TBk) (u : TRn) (w : Int32), k ≤ oc u → oc u ≤ oc (op b u w)) {b : TBk} {u v : TRn} {base r : Int32} (h : (r, v) = f_Rn_readGoneOnWith op b u base) (hk : k ≤ base.toInt) (hb : base.toInt ≤ oc u) : base.toInt ≤ oc v := by
  have h1 := oc_rg2 op k hopm TM b u base 0 hk hb
  unfold f_Rn_readGoneOnWith at h
  rw [← h] at h1
  exact h1
