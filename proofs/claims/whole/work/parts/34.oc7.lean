theorem oc_ask (op : TBk → TRn → Int32 → TRn) (k : Int) (hopm : ∀ (b : TBk) (u : TRn) (w : Int32), k ≤ oc u → oc u ≤ oc (op b u w)) (b : TBk) (u : TRn) (p x1 : Int32) (h1 : k ≤ x1.toInt) (h2 : x1.toInt ≤ oc u) : x1.toInt ≤ oc (f_Rn_ask op b u p x1).2 := by
  have a1 : ∀ q, x1.toInt ≤ oc (f_Rn_compareSigns op b u q x1).2 := fun q => oc_cs op k hopm b u q x1 h1 h2
  have a2 : x1.toInt ≤ oc (f_Rn_compareMeanings b u).2 := by rw [oc_cm]; exact h2
  have a3 : x1.toInt ≤ oc (f_Rn_compareNumbers op b u x1).2 := oc_cn op k hopm b u x1 h1 h2
  have a4 : x1.toInt ≤ oc (f_Rn_readNumber op b u x1).2 := oc_rn op k hopm rfl h1 h2
  have a5 : x1.toInt ≤ oc (f_Rn_askWhetherKnown b u).2 := by rw [oc_ak]; exact h2
  have a6 : x1.toInt ≤ oc (f_Rn_askWhetherOn_m op b u x1).2 := oc_am op k hopm b u x1 h1 h2
  have a7 : x1.toInt ≤ oc (f_Rn_askWhetherOn_e op b u x1).2 := oc_ae op k hopm b u x1 h1 h2
  unfold f_Rn_ask
  repeat' split
  all_goals try dsimp only
  all_goals first
    | with_reducible exact h2
    | with_reducible exact a1 _
    | with_reducible exact a2
    | with_reducible exact a3
    | with_reducible exact a4
    | with_reducible exact a5
    | with_reducible exact a6
    | with_reducible exact a7
    | (rename_i hq; rw [hq] at a1; exact a1)
    | (rename_i hq; have a8 := a1 0; rw [hq] at a8; exact a8)
    | (rename_i hq; have a8 := a1 1; rw [hq] at a8; exact a8)
    | (rename_i hq; rw [hq] at a2; exact a2)
    | (rename_i hq; rw [hq] at a3; exact a3)
    | (rename_i hq; rw [hq] at a4; exact a4)
    | (rename_i hq; rw [hq] at a5; exact a5)
    | (rename_i hq; rw [hq] at a6; exact a6)
    | (rename_i hq; rw [hq] at a7; exact a7)
