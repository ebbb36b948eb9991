/-! how many conditions are open: what the methods leave of it -/
def oc (u : TRn) : Int := (TRn_openCount u).toInt
theorem oc_fail (b : TBk) (u : TRn) (k : Int32) : oc (f_Rn_fail b u k) = oc u := by
  unfold f_Rn_fail
  split <;> rfl
theorem oc_look (b : TBk) (u : TRn) : oc (f_Rn_lookForMore b u).2 = oc u := by
  unfold f_Rn_lookForMore
  rcases f_Rd_look b (TRn_rd u) with ⟨r, v⟩
  dsimp only
  split
  · exact oc_fail b _ _
  · split
    · exact oc_fail b _ _
    · rfl
theorem oc_lk {b : TBk} {u v : TRn} {r : Int32} (h : (r, v) = f_Rn_lookForMore b u) : oc v = oc u := by
  have h1 := oc_look b u
  rw [← h] at h1
  exact h1
theorem oc_pass1 (b : TBk) (u : TRn) (k : Int32) : oc u - 1 ≤ oc (f_Rn_passMark b u k) := by
  unfold f_Rn_passMark
  split
  · omega
  · rename_i h1
    split
    · split
      · rw [i32_lt, Int32.toInt_zero] at h1
        have e3 : (1 : Int32).toInt = 1 := by decide
        have h2 := i32_lo (TRn_openCount u)
        have h3 := i32_hi (TRn_openCount u)
        show oc u - 1 ≤ ((TRn_openCount u) - 1).toInt
        by_cases h4 : -2147483648 ≤ (TRn_openCount u).toInt - 1
        · rw [i32_sub (by rw [e3]; omega) (by rw [e3]; omega), e3]
          exact Int.le_refl _
        · have h5 := i32_lo (TRn_openCount u - 1)
          unfold oc
          omega
      · split
        · show oc u - 1 ≤ oc u
          omega
        · omega
    · omega
theorem oc_pass2 (b : TBk) (u : TRn) (k : Int32) (hk : ¬ k = 8) : oc (f_Rn_passMark b u k) = oc u := by
  unfold f_Rn_passMark
  repeat' split
  all_goals first
    | rfl
    | contradiction
theorem oc_skip8 (n : Nat) : ∀ (b : TBk) (u : TRn) (x1 x2 x3 x4 x5 : Int32), oc u - 1 ≤ oc (f_Rn_skip_8 n b u x1 x2 x3 x4 x5) := by
  induction n with
  | zero =>
    intro b u x1 x2 x3 x4 x5
    rw [f_Rn_skip_8]
    omega
  | succ n ih =>
    intro b u x1 x2 x3 x4 x5
    rw [f_Rn_skip_8]
    have h1 := oc_look b u
    rcases hl : f_Rn_lookForMore b u with ⟨r, v⟩
    rw [hl] at h1
    dsimp only at h1 ⊢
    have hf : ∀ k, oc (f_Rn_fail b v k) = oc v := fun k => oc_fail b v k
    have hs : ∀ x, oc (TRn_set_skipped v x) = oc v := fun _ => rfl
    have hp1 : ∀ k, oc v - 1 ≤ oc (f_Rn_passMark b v k) := fun k => oc_pass1 b v k
    have hp2 : ∀ k, ¬ k = 8 → oc (f_Rn_passMark b v k) = oc v := fun k => oc_pass2 b v k
    generalize f_Bk_kindOf b r = k
    repeat' split
    all_goals first
      | omega
      | (have := hf 7; omega)
      | (have := hf 2; omega)
      | (have := hp1 k; omega)
      | (refine Int.le_trans ?_ (ih _ _ _ _ _ _ _); rw [hs]; omega)
      | (refine Int.le_trans ?_ (ih _ _ _ _ _ _ _); rw [hp2 k (by assumption)]; omega)
theorem oc_skip (b : TBk) (u : TRn) (x y : Int32) : oc u - 1 ≤ oc (f_Rn_skip b u x y) := oc_skip8 _ _ _ _ _ _ _ _
theorem oc_meet (b : TBk) (u : TRn) (k : Int32) : oc u - 1 ≤ oc (f_Rn_meetMark b u k) := by
  unfold f_Rn_meetMark
  dsimp only
  split
  · rw [oc_fail]
    omega
  · split
    · exact oc_pass1 _ _ _
    · rename_i h
      refine Int.le_trans ?_ (oc_skip _ _ _ _)
      rw [oc_pass2 _ _ _ h]
      omega
theorem oc_decide (b : TBk) (u : TRn) (x y z : Int32) : oc u - 1 ≤ oc (f_Rn_decide b u x y z) := by
  have hd : ∀ f, oc (TRn_set_decisions u f) = oc u := fun _ => rfl
  have hs : ∀ w p q, oc w = oc u → oc u - 1 ≤ oc (f_Rn_skip b w p q) := fun w p q h => by
    have := oc_skip b w p q
    omega
  unfold f_Rn_decide
  dsimp only
  repeat' split
  all_goals first
    | omega
    | (rw [hd]; omega)
    | exact hs _ _ _ rfl
