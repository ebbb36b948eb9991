theorem oc_cm (b : TBk) (u : TRn) : oc (f_Rn_compareMeanings b u).2 = oc u := by
  unfold f_Rn_compareMeanings
  rcases h1 : f_Rn_lookForMore b u with ⟨r1, v1⟩
  have e1 : oc v1 = oc u := oc_lk h1.symm
  rcases h2 : f_Rn_lookForMore b v1 with ⟨r2, v2⟩
  have e2 : oc v2 = oc u := (oc_lk h2.symm).trans e1
  dsimp only
  rw [h2]
  dsimp only
  repeat' split
  all_goals try dsimp only
  all_goals first
    | with_reducible exact e1
    | with_reducible exact e2
theorem oc_ak (b : TBk) (u : TRn) : oc (f_Rn_askWhetherKnown b u).2 = oc u := by
  unfold f_Rn_askWhetherKnown
  rcases h1 : f_Rn_lookForMore b u with ⟨r1, v1⟩
  have e1 : oc v1 = oc u := oc_lk h1.symm
  dsimp only
  repeat' split
  all_goals try dsimp only
  all_goals with_reducible exact e1
theorem oc_cs (op : TBk → TRn → Int32 → TRn) (k : Int) (hopm : ∀ (b : TBk) (u : TRn) (w : Int32), k ≤ oc u → oc u ≤ oc (op b u w)) (b : TBk) (u : TRn) (p x1 : Int32) (h1 : k ≤ x1.toInt) (h2 : x1.toInt ≤ oc u) : x1.toInt ≤ oc (f_Rn_compareSigns op b u p x1).2 := by
  unfold f_Rn_compareSigns
  rcases hl : f_Rn_readSign op b u x1 with ⟨r, v⟩
  have h3 : x1.toInt ≤ oc v := oc_rs op k hopm hl.symm h1 h2
  rcases hl2 : f_Rn_readSign op b v x1 with ⟨r2, v2⟩
  have h4 : x1.toInt ≤ oc v2 := oc_rs op k hopm hl2.symm h1 h3
  dsimp only
  rw [hl2]
  dsimp only
  repeat' split
  all_goals try dsimp only
  all_goals first
    | with_reducible exact h3
    | with_reducible exact h4
theorem oc_cn (op : TBk → TRn → Int32 → TRn) (k : Int) (hopm : ∀ (b : TBk) (u : TRn) (w : Int32), k ≤ oc u → oc u ≤ oc (op b u w)) (b : TBk) (u : TRn) (x1 : Int32) (h1 : k ≤ x1.toInt) (h2 : x1.toInt ≤ oc u) : x1.toInt ≤ oc (f_Rn_compareNumbers op b u x1).2 := by
  unfold f_Rn_compareNumbers
  rcases hl : f_Rn_readNumber op b u x1 with ⟨r, v⟩
  have h3 : x1.toInt ≤ oc v := oc_rn op k hopm hl.symm h1 h2
  rcases hl2 : f_Rn_readSign op b v x1 with ⟨r2, v2⟩
  have h4 : x1.toInt ≤ oc v2 := oc_rs op k hopm hl2.symm h1 h3
  rcases hl3 : f_Rn_readNumber op b v2 x1 with ⟨r3, v3⟩
  have h5 : x1.toInt ≤ oc v3 := oc_rn op k hopm hl3.symm h1 h4
  dsimp only
  rw [hl2]
  dsimp only
  rw [hl3]
  dsimp only
  repeat' split
  all_goals try dsimp only
  all_goals first
    | (rw [oc_fail]; exact h4)
    | with_reducible exact h3
    | with_reducible exact h4
    | with_reducible exact h5
theorem oc_am (op : TBk → TRn → Int32 → TRn) (k : Int) (hopm : ∀ (b : TBk) (u : TRn) (w : Int32), k ≤ oc u → oc u ≤ oc (op b u w)) (b : TBk) (u : TRn) (x1 : Int32) (h1 : k ≤ x1.toInt) (h2 : x1.toInt ≤ oc u) : x1.toInt ≤ oc (f_Rn_askWhetherOn_m op b u x1).2 := by
  unfold f_Rn_askWhetherOn_m
  rcases hl : f_Rn_readNumber op b u x1 with ⟨r, v⟩
  have h3 : x1.toInt ≤ oc v := oc_rn op k hopm hl.symm h1 h2
  dsimp only
  repeat' split
  all_goals try dsimp only
  all_goals first
    | (rw [oc_fail]; exact h3)
    | with_reducible exact h3
theorem oc_ae (op : TBk → TRn → Int32 → TRn) (k : Int) (hopm : ∀ (b : TBk) (u : TRn) (w : Int32), k ≤ oc u → oc u ≤ oc (op b u w)) (b : TBk) (u : TRn) (x1 : Int32) (h1 : k ≤ x1.toInt) (h2 : x1.toInt ≤ oc u) : x1.toInt ≤ oc (f_Rn_askWhetherOn_e op b u x1).2 := by
  unfold f_Rn_askWhetherOn_e
  rcases hl : f_Rn_readNumber op b u x1 with ⟨r, v⟩
  have h3 : x1.toInt ≤ oc v := oc_rn op k hopm hl.symm h1 h2
  dsimp only
  repeat' split
  all_goals try dsimp only
  all_goals first
    | (rw [oc_fail]; exact h3)
    | with_reducible exact h3
