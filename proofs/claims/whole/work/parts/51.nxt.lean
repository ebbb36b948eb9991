/-- what stays through a run -/
def MdE (d d' : TMd) : Prop := TMd_kinds d' = TMd_kinds d ∧ TMd_values d' = TMd_values d ∧ TMd_sizes d' = TMd_sizes d ∧ TMd_rows d' = TMd_rows d ∧ TMd_bodies d' = TMd_bodies d ∧ TMd_modes d' = TMd_modes d ∧ TMd_ends d' = TMd_ends d ∧ TMd_hasRun d' = TMd_hasRun d
theorem MdE_r (d : TMd) : MdE d d := ⟨rfl, rfl, rfl, rfl, rfl, rfl, rfl, rfl⟩
theorem MdE_t {d d' d'' : TMd} (h : MdE d d') (h' : MdE d' d'') : MdE d d'' := ⟨h'.1.trans h.1, h'.2.1.trans h.2.1, h'.2.2.1.trans h.2.2.1, h'.2.2.2.1.trans h.2.2.2.1, h'.2.2.2.2.1.trans h.2.2.2.2.1, h'.2.2.2.2.2.1.trans h.2.2.2.2.2.1, h'.2.2.2.2.2.2.1.trans h.2.2.2.2.2.2.1, h'.2.2.2.2.2.2.2.trans h.2.2.2.2.2.2.2⟩
theorem MdE_S {d d' : TMd} (h : MdE d d') (hs : MdS d) : MdS d' := by
  unfold MdS
  rw [h.1, h.2.1, h.2.2.1, h.2.2.2.1, h.2.2.2.2.1]
  exact hs
theorem MdE_k {d d' : TMd} (h : MdE d d') (t : Int32) : f_Md_kindOf d' t = f_Md_kindOf d t := by
  unfold f_Md_kindOf
  rw [h.1]
theorem MdE_v {d d' : TMd} (h : MdE d d') (t : Int32) : f_Md_valueOf d' t = f_Md_valueOf d t := by
  unfold f_Md_valueOf
  rw [h.2.1]
/-- what a run still can take: two for each step that is left, one for a token that is held -/
def mu (d : TMd) : Int := 2 * (5000 - (TMd_steps d).toInt) + (if TMd_held d = -1 then 0 else 1)
/-- a token that was looked at just now -/
def TokIn (d : TMd) (t : Int32) : Prop := 0 ≤ t.toInt ∧ t.toInt ≤ 4135 ∧ ((f_Md_kindOf d t = 2 ∨ f_Md_kindOf d t = 3 ∨ f_Md_kindOf d t = 5) → (TMd_pile d).toInt ≤ (TMd_steps d).toInt ∧ (TMd_opened d).toInt < (TMd_steps d).toInt)
/-- what next() leaves -/
def NXT (d d' : TMd) (r : Int32) : Prop := MdE d d' ∧ MdP d' ∧ TMd_open d' = TMd_open d ∧ TMd_phases d' = TMd_phases d ∧ (r = -1 ∨ TokIn d' r) ∧ mu d' ≤ mu d ∧ (¬ r = -1 → mu d' < mu d)
theorem MdP_fail {d : TMd} (h : MdP d) {k : Int32} (hk : 0 ≤ k.toInt) : MdP (f_Md_fail d k) := by
  unfold f_Md_fail
  split
  · exact ⟨h.1, h.2.1, h.2.2.1, hk, h.2.2.2.2⟩
  · exact h
theorem MdE_fail (d : TMd) (k : Int32) : MdE d (f_Md_fail d k) := by
  unfold f_Md_fail
  split
  · exact MdE_r d
  · exact MdE_r d
theorem fail_open (d : TMd) (k : Int32) : TMd_open (f_Md_fail d k) = TMd_open d ∧ TMd_phases (f_Md_fail d k) = TMd_phases d ∧ mu (f_Md_fail d k) = mu d := by
  unfold f_Md_fail
  split
  · exact ⟨rfl, rfl, rfl⟩
  · exact ⟨rfl, rfl, rfl⟩
theorem nxt_fresh {d : TMd} {g : Nat → Int32} {y y7 : Int32} (hs : MdS d) (hp : MdP d) (c1 : ¬ TMd_pile d ≤ 0) (c3 : ¬ TMd_pilePlaces d (TMd_pile d - 1).toNatClampNeg = TMd_sizes d (TMd_pileRows d (TMd_pile d - 1).toNatClampNeg).toNatClampNeg) (c5 : ¬ TMd_steps d = 5000)
    (ey : y = TMd_steps d + 1) (ey7 : y7 = TMd_pilePlaces d (TMd_pile d - 1).toNatClampNeg + 1) (eg : g = upd (TMd_pilePlaces d) (TMd_pile d - 1).toNatClampNeg y7) : MdP (TMd_set_steps (TMd_set_pilePlaces d g) y) ∧ y.toInt = (TMd_steps d).toInt + 1 := by
  have h1 := hp.1
  have h2 := nx_at hp c1
  have e5 : (5000 : Int32).toInt = 5000 := by decide
  rw [i32_eq, e5] at c5
  rw [i32_eq] at c3
  have h3 : y.toInt = (TMd_steps d).toInt + 1 := by rw [ey, succ_toInt (by omega)]
  have h4 := clamp_toInt h2.1
  have h5 := MdS_size hs (i := (TMd_pileRows d (TMd_pile d - 1).toNatClampNeg).toNatClampNeg) (by omega)
  have h6 : y7.toInt = (TMd_pilePlaces d (TMd_pile d - 1).toNatClampNeg).toInt + 1 := by rw [ey7, succ_toInt (by omega)]
  refine ⟨⟨?_, ?_, hp.2.2.1, hp.2.2.2.1, hp.2.2.2.2.1, hp.2.2.2.2.2.1, ?_⟩, h3⟩
  · show 0 ≤ (TMd_pile d).toInt ∧ (TMd_pile d).toInt ≤ y.toInt + 1 ∧ 0 ≤ y.toInt ∧ y.toInt ≤ 5000
    omega
  · intro i hi
    have hi : (i : Int) < (TMd_pile d).toInt := hi
    have h7 := hp.2.1 i hi
    show 0 ≤ (TMd_pileRows d i).toInt ∧ (TMd_pileRows d i).toInt ≤ 20 ∧ 0 ≤ (g i).toInt ∧ (g i).toInt ≤ (TMd_sizes d (TMd_pileRows d i).toNatClampNeg).toInt
    rw [eg]
    by_cases hq : i = (TMd_pile d - 1).toNatClampNeg
    · rw [hq, pk_us, h6]
      omega
    · rw [pk_un hq]
      exact h7
  · show 0 ≤ (TMd_opened d).toInt ∧ (TMd_opened d).toInt ≤ y.toInt
    have h8 := hp.2.2.2.2.2.2
    omega
theorem nxt_28 (n : Nat) : ∀ (d d' : TMd) (r : Int32), MdS d → MdP d → TMd_held d = -1 → (r, d') = f_Md_next_28 n d → (TMd_pile d).toInt < (n : Int) → NXT d d' r := by
  induction n with
  | zero =>
    intro d d' r hs hp hh h hn
    have h1 := hp.1
    omega
  | succ n ih =>
    intro d d' r hs hp hh h hn
    rw [f_Md_next_28] at h
    dsimp only at h
    by_cases c1 : TMd_pile d ≤ 0
    · rw [if_pos c1] at h
      by_cases c2 : TMd_pile d = 0
      · rw [if_pos c2] at h
        cases h
        exact ⟨MdE_r d, hp, rfl, rfl, Or.inl rfl, Int.le_refl _, fun q => absurd rfl q⟩
      · exact (nx_no hp c1 c2).elim
    · rw [if_neg c1] at h
      by_cases c3 : TMd_pilePlaces d (TMd_pile d - 1).toNatClampNeg = TMd_sizes d (TMd_pileRows d (TMd_pile d - 1).toNatClampNeg).toNatClampNeg
      · rw [if_pos c3] at h
        have h2 := ih (TMd_set_pile d (TMd_pile d - 1)) d' r hs (nx_pop hp c1) hh h (nx_f hp hn c1)
        exact h2
      · rw [if_neg c3] at h
        by_cases c4 : TMd_pile d = 0
        · rw [if_pos c4] at h
          cases h
          exact ⟨MdE_r d, hp, rfl, rfl, Or.inl rfl, Int.le_refl _, fun q => absurd rfl q⟩
        · rw [if_neg c4] at h
          by_cases c5 : TMd_steps d = 5000
          · rw [if_pos c5] at h
            cases h
            have h3 := fail_open d 9
            exact ⟨MdE_fail d 9, MdP_fail hp (by decide), h3.1, h3.2.1, Or.inl rfl, Int.le_of_eq h3.2.2, fun q => absurd rfl q⟩
          · rw [if_neg c5] at h
            have hf := nxt_fresh hs hp c1 c3 c5 rfl rfl rfl
            have h2 := nx_at hp c1
            have h4 := clamp_toInt h2.1
            have h5 := MdS_size hs (i := (TMd_pileRows d (TMd_pile d - 1).toNatClampNeg).toNatClampNeg) (by omega)
            have c3' := c3
            rw [i32_eq] at c3'
            have h6 := cellM h2.1 h2.2.1 h2.2.2.1 (by omega)
            have h7 := clamp_toInt (x := 200 * TMd_pileRows d (TMd_pile d - 1).toNatClampNeg + TMd_pilePlaces d (TMd_pile d - 1).toNatClampNeg) (by omega)
            have h8 := clamp_toInt h2.2.2.1
            have h9 := hs.2.2.2 (TMd_pileRows d (TMd_pile d - 1).toNatClampNeg).toNatClampNeg (TMd_pilePlaces d (TMd_pile d - 1).toNatClampNeg).toNatClampNeg (by omega) (by omega) (by omega)
            rw [show 200 * (TMd_pileRows d (TMd_pile d - 1).toNatClampNeg).toNatClampNeg + (TMd_pilePlaces d (TMd_pile d - 1).toNatClampNeg).toNatClampNeg = (200 * TMd_pileRows d (TMd_pile d - 1).toNatClampNeg + TMd_pilePlaces d (TMd_pile d - 1).toNatClampNeg).toNatClampNeg by omega] at h9
            have h10 := hp.1
            have h11 := hp.2.2.2.2.2.2
            cases h
            refine ⟨MdE_r d, hf.1, rfl, rfl, Or.inr ⟨h9.1, h9.2, fun _ => ?_⟩, ?_, fun _ => ?_⟩
            · show (TMd_pile d).toInt ≤ (TMd_steps d + 1).toInt ∧ (TMd_opened d).toInt < (TMd_steps d + 1).toInt
              rw [hf.2]
              omega
            · show 2 * (5000 - (TMd_steps d + 1).toInt) + (if TMd_held d = -1 then 0 else 1) ≤ mu d
              rw [hf.2]
              unfold mu
              omega
            · show 2 * (5000 - (TMd_steps d + 1).toInt) + (if TMd_held d = -1 then 0 else 1) < mu d
              rw [hf.2]
              unfold mu
              omega
