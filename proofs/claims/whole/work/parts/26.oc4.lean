theorem oc_rs (op : TBk → TRn → Int32 → TRn) (k : Int) (hopm : ∀ (b : TBk) (u : TRn) (w : Int32), k ≤ oc u → oc u ≤ oc (op b u w)) {b : TBk} {u v : TRn} {base r : Int32} (h : (r, v) = f_Rn_readSign op b u base) (hk : k ≤ base.toInt) (hb : base.toInt ≤ oc u) : base.toInt ≤ oc v := by
  have h1 : base.toInt ≤ oc (f_Rn_readSign op b u base).2 := by
    unfold f_Rn_readSign
    rcases hl : f_Rn_readGoneOnWith op b u base with ⟨r1, v1⟩
    have h3 : base.toInt ≤ oc v1 := oc_rg op k hopm hl.symm hk hb
    dsimp only
    repeat' split
    all_goals try dsimp only
    all_goals first
      | (rw [oc_fail]; exact h3)
      | exact h3
  rw [← h] at h1
  exact h1
theorem oc_rd8 (op : TBk → TRn → Int32 → TRn) (k : Int) (hopm : ∀ (b : TBk) (u : TRn) (w : Int32), k ≤ oc u → oc u ≤ oc (op b u w)) (n : Nat) : ∀ (b : TBk) (u : TRn) (x2 x3 x4 x5 : Int32), k ≤ x2.toInt → x2.toInt ≤ oc u → x2.toInt ≤ oc (f_Rn_readDigits_8 op n b u x2 x3 x4 x5).2 := by
  induction n with
  | zero =>
    intro b u x2 x3 x4 x5 h1 h2
    rw [f_Rn_readDigits_8]
    exact h2
  | succ n ih =>
    intro b u x2 x3 x4 x5 h1 h2
    rw [f_Rn_readDigits_8]
    rcases hl : f_Rn_readGoneOnWith op b u x2 with ⟨r, v⟩
    have h3 : x2.toInt ≤ oc v := oc_rg op k hopm hl.symm h1 h2
    dsimp only
    repeat' split
    all_goals try dsimp only
    all_goals first
      | (rw [oc_fail]; exact h2)
      | with_reducible exact ih _ _ _ _ _ _ h1 h3
      | exact h3
theorem oc_rdg (op : TBk → TRn → Int32 → TRn) (k : Int) (hopm : ∀ (b : TBk) (u : TRn) (w : Int32), k ≤ oc u → oc u ≤ oc (op b u w)) {b : TBk} {u v : TRn} {t base r : Int32} (h : (r, v) = f_Rn_readDigits op b u t base) (hk : k ≤ base.toInt) (hb : base.toInt ≤ oc u) : base.toInt ≤ oc v := by
  have h1 := oc_rd8 op k hopm 10 b u base 0 t 0 hk hb
  unfold f_Rn_readDigits at h
  rw [← h] at h1
  exact h1
