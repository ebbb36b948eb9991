/-- open, as far as conditions may be open within one another -/
noncomputable def opN : Nat → TBk → TRn → Int32 → TRn
  | 0 => fun b u w => f_Rn_open_0 b u w
  | n + 1 => fun b u w => f_Rn_open_s (opN n) b u w
theorem opN_m (n : Nat) : ∀ (b : TBk) (u : TRn) (w : Int32), (20 : Int) - n ≤ oc u → oc u ≤ oc (opN n b u w) := by
  induction n with
  | zero =>
    intro b u w h
    exact oc_open0 b u w
  | succ n ih =>
    intro b u w h
    exact oc_open (opN n) ((20 : Int) - n) ih b u w (by omega)
theorem opN_c (l : Launch) (dC : Nat → ClassId) (dI : Nat → Nat → Nat) (ad : Nat → Nat) (ca : Nat → ClassId) (n : Nat) : ∀ (sz : Nat) (b : TBk) (u : TRn) (w : Int32), BkS b ∧ (20 : Int) - n ≤ oc u → wx_Mv l y_Rn_open ws_Rn_open ({ frames := 1 + n * 11, cells := 0, slots := 0, locals := 21 + n * 255 } : Room) (dC, dI) vwCl (t_R ca) [.ref (ad 0), .int w] (w_R ad ca b u) sz (fun v : TRn => w_R ad ca b v) (fun v : TRn => v = opN n b u w) := by
  induction n with
  | zero =>
    intro sz b u w h
    have h2 : ¬ (TRn_openCount u) < 20 := by
      rw [i32_lt]
      have e1 : (20 : Int32).toInt = 20 := by decide
      have h3 := h.2
      have h4 : oc u = (TRn_openCount u).toInt := rfl
      omega
    exact c_Rn_open_0 l dC dI ad ca sz b u w h2 _ rfl
  | succ n ih =>
    intro sz b u w h
    have h2 := c_Rn_open_s l dC dI ad ca (opN n) (1 + n * 11) (21 + n * 255) ((20 : Int) - n) (opN_m n) ih sz b u w ⟨h.1, by have := h.2; omega⟩ _ rfl
    rw [show 1 + n * 11 + 11 = 1 + (n + 1) * 11 by omega, show 21 + n * 255 + 255 = 21 + (n + 1) * 255 by omega] at h2
    exact h2
