/-- what a method of a run leaves at least: the state's bounds, k conditions fewer at most, no more to take than before -/
def LVS (k : Int) (d d' : TMd) : Prop := MdE d d' ∧ MdP d' ∧ (TMd_open d).toInt - k ≤ (TMd_open d').toInt ∧ mu d' ≤ mu d
theorem MdP_open {d : TMd} (h : MdP d) {y : Int32} (h0 : 0 ≤ y.toInt) (h1 : y.toInt ≤ 20) : MdP (TMd_set_open d y) := ⟨h.1, h.2.1, h.2.2.1, h.2.2.2.1, ⟨h0, h1⟩, h.2.2.2.2.2⟩
theorem lvs_pop {d : TMd} (h : MdP d) (h0 : 0 < (TMd_open d).toInt) : LVS 1 d (TMd_set_open d (TMd_open d - 1)) := by
  have h1 := h.2.2.2.2.1
  have h2 : (TMd_open d - 1).toInt = (TMd_open d).toInt - 1 := pred_toInt (by omega)
  refine ⟨MdE_r d, MdP_open h (by omega) (by omega), ?_, Int.le_refl _⟩
  show (TMd_open d).toInt - 1 ≤ (TMd_open d - 1).toInt
  omega
theorem lvs_r {d d' : TMd} {k : Int} (hk : 0 ≤ k) (h1 : MdE d d') (h2 : MdP d') (h3 : TMd_open d' = TMd_open d) (h4 : mu d' ≤ mu d) : LVS k d d' := ⟨h1, h2, by rw [h3]; omega, h4⟩
theorem lvs_t {d d1 d' : TMd} {k : Int} (h1 : MdE d d1) (h3 : TMd_open d1 = TMd_open d) (h4 : mu d1 ≤ mu d) (h : LVS k d1 d') : LVS k d d' := ⟨MdE_t h1 h.1, h.2.1, by have := h.2.2.1; rw [h3] at this; exact this, Int.le_trans h.2.2.2 h4⟩
theorem lvs_ite {k : Int} {d a b : TMd} {c : Prop} [Decidable c] (h1 : c → LVS k d a) (h2 : ¬ c → LVS k d b) : LVS k d (if c then a else b) := by
  by_cases h : c
  · rw [if_pos h]
    exact h1 h
  · rw [if_neg h]
    exact h2 h
theorem lvs_skip (n : Nat) : ∀ (d : TMd) (x1 x3 x4 x5 x6 x7 : Int32), (MdS d ∧ MdP d ∧ 0 < (TMd_open d).toInt) → LVS 1 d (f_Md_skip_15 n d x1 x3 x4 x5 x6 x7) := by
  induction n with
  | zero =>
    intro d x1 x3 x4 x5 x6 x7 hc
    rw [f_Md_skip_15]
    exact lvs_r (by omega) (MdE_r d) hc.2.1 rfl (Int.le_refl _)
  | succ n ih =>
    intro d x1 x3 x4 x5 x6 x7 hc
    rw [f_Md_skip_15]
    have hr : ∀ {d' : TMd}, MdE d d' → MdP d' → TMd_open d' = TMd_open d → mu d' ≤ mu d → ∀ y1 y3 y4 y5 y6 y7, LVS 1 d (f_Md_skip_15 n d' y1 y3 y4 y5 y6 y7) := fun {d'} a1 a2 a3 a4 y1 y3 y4 y5 y6 y7 => lvs_t a1 a3 a4 (ih d' y1 y3 y4 y5 y6 y7 ⟨MdE_S a1 hc.1, a2, by rw [a3]; exact hc.2.2⟩)
    have hn : ∀ (d1 : TMd), MdE d d1 → MdP d1 → TMd_open d1 = TMd_open d → mu d1 = mu d → ∀ (y1 y3 y4 y5 y6 : Int32), LVS 1 d (match f_Md_need d1 with | (r, v) => f_Md_skip_15 n v y1 y3 y4 y5 y6 r) := fun d1 b1 b2 b3 b4 y1 y3 y4 y5 y6 => by
      rcases hl : f_Md_need d1 with ⟨r, v⟩
      obtain ⟨a1, a2, a3, a4, a5, a6⟩ := ned hl.symm (MdE_S b1 hc.1) b2
      exact hr (MdE_t b1 a1) a2 (a3.trans b3) (by omega) _ _ _ _ _ _
    have hs : ∀ (y : Int32) (y1 y3 y4 y5 y6 : Int32), LVS 1 d (match f_Md_need (TMd_set_skipped d y) with | (r, v) => f_Md_skip_15 n v y1 y3 y4 y5 y6 r) := fun y => hn (TMd_set_skipped d y) (MdE_r d) hc.2.1 rfl rfl
    have hd : ∀ (y1 y3 y4 y5 y6 : Int32), LVS 1 d (match f_Md_need d with | (r, v) => f_Md_skip_15 n v y1 y3 y4 y5 y6 r) := hn d (MdE_r d) hc.2.1 rfl rfl
    have hf : ∀ (q : Int32), 0 ≤ q.toInt → ∀ (y1 y3 y4 y5 y6 y7 : Int32), LVS 1 d (f_Md_skip_15 n (f_Md_fail d q) y1 y3 y4 y5 y6 y7) := fun q hq => hr (MdE_fail d q) (MdP_fail hc.2.1 hq) (fail_open d q).1 (Int.le_of_eq (fail_open d q).2.2)
    have hg : ∀ (q : Int32), 0 ≤ q.toInt → LVS 1 d (f_Md_fail d q) := fun q hq => lvs_r (by omega) (MdE_fail d q) (MdP_fail hc.2.1 hq) (fail_open d q).1 (Int.le_of_eq (fail_open d q).2.2)
    have hk : ∀ (y : Int32), LVS 1 d (TMd_set_skipped d y) := fun y => lvs_r (by omega) (MdE_r d) hc.2.1 rfl (Int.le_refl _)
    have hh : ∀ g, LVS 1 d (TMd_set_phases d g) := fun g => lvs_r (by omega) (MdE_r d) hc.2.1 rfl (Int.le_refl _)
    have h0 : LVS 1 d d := lvs_r (by omega) (MdE_r d) hc.2.1 rfl (Int.le_refl _)
    have hp := lvs_pop hc.2.1 hc.2.2
    dsimp only
    generalize f_Md_kindOf d x7 = kk
    repeat' with_reducible refine lvs_ite (fun _ => ?_) (fun _ => ?_)
    all_goals first
      | with_reducible exact h0
      | with_reducible exact hp
      | with_reducible exact hk _
      | with_reducible exact hh _
      | with_reducible exact hg _ (by decide)
      | with_reducible exact hf _ (by decide) _ _ _ _ _ _
      | exact hs _ _ _ _ _ _
      | exact hd _ _ _ _ _
