/-- a token that an asking may give: no macro, no IF -/
def GTok (d : TMd) (t : Int32) : Prop := 0 ≤ t.toInt ∧ t.toInt ≤ 4135 ∧ ¬ f_Md_kindOf d t = 2 ∧ ¬ f_Md_kindOf d t = 3 ∧ ¬ f_Md_kindOf d t = 5
/-- what an asking leaves -/
def ASK (k : Int) (a : Int32) (d d' : TMd) (r : Int32) : Prop := APk k a d' ∧ MdE d d' ∧ mu d' ≤ mu d ∧ (TMd_fault d' = 0 → GTok d' r)
theorem kind_0 (d : TMd) : f_Md_kindOf d 0 = 1 := by
  unfold f_Md_kindOf
  rw [if_neg (by decide)]
theorem isMac0 {d : TMd} {t : Int32} (h : f_Md_isMacro d t = 0) : ¬ f_Md_kindOf d t = 2 ∧ ¬ f_Md_kindOf d t = 3 := by
  unfold f_Md_isMacro at h
  constructor
  · intro c
    rw [if_pos c] at h
    exact absurd h (by decide)
  · intro c
    rw [if_neg (by rw [c]; decide), if_pos c] at h
    exact absurd h (by decide)
theorem ask_5 (op : TMd → Int32 → TMd) (k : Int) (hopm : ∀ (d : TMd) (w : Int32), OPP k d → LVS 0 d (op d w)) (n : Nat) : ∀ (d d' : TMd) (x1 x2 r : Int32), APk k x1 d → (TMd_fault d = 0 → TokIn d x2) → (r, d') = f_Md_asked_5 op n d x1 x2 → ASK k x1 d d' r := by
  induction n with
  | zero =>
    intro d d' x1 x2 r h1 h2 h
    rw [f_Md_asked_5] at h
    cases h
    exact ⟨h1, MdE_r d, Int.le_refl _, fun _ => ⟨by decide, by decide, by rw [kind_0]; decide, by rw [kind_0]; decide, by rw [kind_0]; decide⟩⟩
  | succ n ih =>
    intro d d' x1 x2 r h1 h2 h
    rw [f_Md_asked_5] at h
    dsimp only at h
    have hrec : ∀ (v : TMd), APk k x1 v → MdE d v → mu v ≤ mu d → (r, d') = (match f_Md_need v with | (r1, v1) => f_Md_asked_5 op n v1 x1 r1) → ASK k x1 d d' r := fun v a1 a2 a3 h => by
      rcases hl : f_Md_need v with ⟨r1, v1⟩
      rw [hl] at h
      obtain ⟨b1, b2, b3, b4, b5, b6⟩ := ned hl.symm a1.1 a1.2.1
      obtain ⟨c1, c2, c3, c4⟩ := ih v1 d' x1 r1 r ⟨MdE_S b1 a1.1, b2, a1.2.2.1, a1.2.2.2.1, by rw [b3]; exact a1.2.2.2.2⟩ (fun q => (b6 q).1) h
      exact ⟨c1, MdE_t a2 (MdE_t b1 c2), by omega, c4⟩
    have hlvs : ∀ {v : TMd} {j : Int}, LVS j d v → x1.toInt + 1 + j ≤ (TMd_open d).toInt → (r, d') = (match f_Md_need v with | (r1, v1) => f_Md_asked_5 op n v1 x1 r1) → ASK k x1 d d' r := fun {v} {j} a1 a2 h => hrec v (ap_lvs h1 a1 a2) a1.1 a1.2.2.2 h
    by_cases c0 : TMd_fault d = 0
    · rw [if_pos c0] at h
      have ht := h2 c0
      have hgo : ¬ f_Md_isMacro d x2 = 0 → (r, d') = (match f_Md_need (f_Md_goOnWith d x2) with | (r1, v1) => f_Md_asked_5 op n v1 x1 r1) → ASK k x1 d d' r := fun q h => by
        obtain ⟨g1, g2, g3, g4, g5, g6⟩ := goOn rfl h1.1 h1.2.1 ht (isMac q)
        exact hrec _ ⟨MdE_S g1 h1.1, g2, h1.2.2.1, h1.2.2.2.1, by rw [g3]; exact h1.2.2.2.2⟩ g1 (Int.le_of_eq g5) h
      have hop5 : f_Md_kindOf d x2 = 5 → (r, d') = (match f_Md_need (op d (f_Md_valueOf d x2)) with | (r1, v1) => f_Md_asked_5 op n v1 x1 r1) → ASK k x1 d d' r := fun q h => hlvs (hopm d _ (ap_opp h1 ht q)) (by have := h1.2.2.2.2; omega) h
      have hret : f_Md_isMacro d x2 = 0 → ¬ f_Md_kindOf d x2 = 5 → (r, d') = (x2, d) → ASK k x1 d d' r := fun q q5 h => by
        cases h
        exact ⟨h1, MdE_r d, Int.le_refl _, fun _ => ⟨ht.1, ht.2.1, (isMac0 q).1, (isMac0 q).2, q5⟩⟩
      by_cases c1 : f_Md_kindOf d x2 ≤ 5
      · rw [if_pos c1] at h
        by_cases c2 : f_Md_isMacro d x2 = 0
        · rw [if_pos c2] at h
          by_cases c3 : f_Md_kindOf d x2 = 5
          · rw [if_pos c3] at h
            exact hop5 c3 h
          · rw [if_neg c3] at h
            exact hret c2 c3 h
        · rw [if_neg c2] at h
          exact hgo c2 h
      · rw [if_neg c1] at h
        by_cases c2 : f_Md_isMacro d x2 = 0
        · rw [if_pos c2] at h
          by_cases c3 : f_Md_kindOf d x2 = 5
          · rw [if_pos c3] at h
            exact hop5 c3 h
          · rw [if_neg c3] at h
            by_cases c4 : TMd_open d = x1 + 1
            · rw [if_pos c4] at h
              exact hret c2 c3 h
            · rw [if_neg c4] at h
              have g2 := h1.2.1.2.2.2.2.1
              have g3 := h1.2.2
              have g4 : (x1 + 1).toInt = x1.toInt + 1 := succ_toInt (by omega)
              rw [i32_eq, g4] at c4
              exact hlvs (lvs_bel rfl (ap_bp h1)) (by omega) h
        · rw [if_neg c2] at h
          exact hgo c2 h
    · rw [if_neg c0] at h
      cases h
      exact ⟨h1, MdE_r d, Int.le_refl _, fun q => absurd q c0⟩
theorem ask_l (op : TMd → Int32 → TMd) (k : Int) (hopm : ∀ (d : TMd) (w : Int32), OPP k d → LVS 0 d (op d w)) {d d' : TMd} {a r : Int32} (h : (r, d') = f_Md_asked op d a) (h1 : APk k a d) : ASK k a d d' r := by
  unfold f_Md_asked at h
  rcases hl : f_Md_need d with ⟨r1, v1⟩
  rw [hl] at h
  obtain ⟨b1, b2, b3, b4, b5, b6⟩ := ned hl.symm h1.1 h1.2.1
  obtain ⟨c1, c2, c3, c4⟩ := ask_5 op k hopm TM v1 d' a r1 r ⟨MdE_S b1 h1.1, b2, h1.2.2.1, h1.2.2.2.1, by rw [b3]; exact h1.2.2.2.2⟩ (fun q => (b6 q).1) h
  exact ⟨c1, MdE_t b1 c2, by omega, c4⟩
