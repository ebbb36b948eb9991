theorem oc_rn66 (op : TBk → TRn → Int32 → TRn) (k : Int) (hopm : ∀ (b : TBk) (u : TRn) (w : Int32), k ≤ oc u → oc u ≤ oc (op b u w)) (b : TBk) (u : TRn) (x1 x2 x3 : Int32) (h1 : k ≤ x1.toInt) (h2 : x1.toInt ≤ oc u) : x1.toInt ≤ oc (f_Rn_readNumber_66 op b u x1 x2 x3).2 := by
  unfold f_Rn_readNumber_66
  rcases hl : f_Rn_readDigits op b u x3 x1 with ⟨r, v⟩
  have h3 : x1.toInt ≤ oc v := oc_rdg op k hopm hl.symm h1 h2
  dsimp only
  repeat' split
  all_goals try dsimp only
  all_goals first
    | (rw [oc_fail]; exact h2)
    | with_reducible exact h2
    | with_reducible exact h3
theorem oc_rn11 (op : TBk → TRn → Int32 → TRn) (k : Int) (hopm : ∀ (b : TBk) (u : TRn) (w : Int32), k ≤ oc u → oc u ≤ oc (op b u w)) (n : Nat) : ∀ (b : TBk) (u : TRn) (x1 x2 x3 x4 : Int32), k ≤ x1.toInt → x1.toInt ≤ oc u → x1.toInt ≤ oc (f_Rn_readNumber_11 op n b u x1 x2 x3 x4).2 := by
  induction n with
  | zero =>
    intro b u x1 x2 x3 x4 h1 h2
    rw [f_Rn_readNumber_11]
    exact h2
  | succ n ih =>
    intro b u x1 x2 x3 x4 h1 h2
    rw [f_Rn_readNumber_11]
    rcases hl : f_Rn_readGoneOnWith op b u x1 with ⟨r, v⟩
    have h3 : x1.toInt ≤ oc v := oc_rg op k hopm hl.symm h1 h2
    dsimp only
    repeat' split
    all_goals try dsimp only
    all_goals first
      | with_reducible exact oc_rn66 op k hopm _ _ _ _ _ h1 h2
      | with_reducible exact ih _ _ _ _ _ _ h1 h3
theorem oc_rn (op : TBk → TRn → Int32 → TRn) (k : Int) (hopm : ∀ (b : TBk) (u : TRn) (w : Int32), k ≤ oc u → oc u ≤ oc (op b u w)) {b : TBk} {u v : TRn} {base r : Int32} (h : (r, v) = f_Rn_readNumber op b u base) (hk : k ≤ base.toInt) (hb : base.toInt ≤ oc u) : base.toInt ≤ oc v := by
  have h1 : base.toInt ≤ oc (f_Rn_readNumber op b u base).2 := by
    unfold f_Rn_readNumber
    rcases hl : f_Rn_readGoneOnWith op b u base with ⟨r1, v1⟩
    have h3 : base.toInt ≤ oc v1 := oc_rg op k hopm hl.symm hk hb
    dsimp only
    exact oc_rn11 op k hopm _ _ _ _ _ _ _ hk h3
  rw [← h] at h1
  exact h1
