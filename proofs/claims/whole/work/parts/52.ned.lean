theorem nxt {d d' : TMd} {r : Int32} (h : (r, d') = f_Md_next d) (hs : MdS d) (hp : MdP d) : NXT d d' r := by
  unfold f_Md_next at h
  by_cases c1 : TMd_fault d ≤ 0
  · rw [if_pos c1] at h
    by_cases c2 : TMd_held d < 0
    · rw [if_pos c2] at h
      have hh : TMd_held d = -1 := by
        rcases hp.2.2.1 with q | q
        · exact q
        · rw [i32_lt, e_0] at c2
          omega
      have h1 := hp.1
      exact nxt_28 _ d d' r hs hp hh h (by omega)
    · rw [if_neg c2] at h
      cases h
      have c3 : ¬ TMd_held d = -1 := by
        rw [i32_lt, e_0] at c2
        rw [i32_eq, e_m1]
        omega
      rcases hp.2.2.1 with q | q
      · exact absurd q c3
      · refine ⟨MdE_r d, ⟨hp.1, hp.2.1, Or.inl rfl, hp.2.2.2⟩, rfl, rfl, Or.inr ⟨q.1, q.2.1, fun w => ?_⟩, ?_, fun _ => ?_⟩
        · rcases w with w | w | w
          · exact absurd w q.2.2.1
          · exact absurd w q.2.2.2.1
          · exact absurd w q.2.2.2.2
        · show 2 * (5000 - (TMd_steps d).toInt) + (if (-1 : Int32) = -1 then 0 else 1) ≤ mu d
          unfold mu
          rw [if_pos rfl, if_neg c3]
          omega
        · show 2 * (5000 - (TMd_steps d).toInt) + (if (-1 : Int32) = -1 then 0 else 1) < mu d
          unfold mu
          rw [if_pos rfl, if_neg c3]
          omega
  · rw [if_neg c1] at h
    cases h
    exact ⟨MdE_r d, hp, rfl, rfl, Or.inl rfl, Int.le_refl _, fun q => absurd rfl q⟩
/-- what need() leaves -/
def NED (d d' : TMd) (r : Int32) : Prop := MdE d d' ∧ MdP d' ∧ TMd_open d' = TMd_open d ∧ TMd_phases d' = TMd_phases d ∧ mu d' ≤ mu d ∧ (TMd_fault d' = 0 → TokIn d' r ∧ mu d' < mu d)
theorem fail_ne (d : TMd) {k : Int32} (hk : ¬ k = 0) : ¬ TMd_fault (f_Md_fail d k) = 0 := by
  unfold f_Md_fail
  split
  · exact hk
  · assumption
theorem ned {d d' : TMd} {r : Int32} (h : (r, d') = f_Md_need d) (hs : MdS d) (hp : MdP d) : NED d d' r := by
  unfold f_Md_need at h
  rcases hl : f_Md_next d with ⟨r1, d1⟩
  rw [hl] at h
  dsimp only at h
  obtain ⟨h1, h2, h3, h4, h5, h6, h7⟩ := nxt hl.symm hs hp
  by_cases c : 0 ≤ r1
  · rw [if_pos c] at h
    cases h
    have c2 : ¬ r = -1 := by
      rw [i32_le, e_0] at c
      rw [i32_eq, e_m1]
      omega
    exact ⟨h1, h2, h3, h4, h6, fun _ => ⟨h5.resolve_left c2, h7 c2⟩⟩
  · rw [if_neg c] at h
    cases h
    have h8 := fail_open d1 1
    refine ⟨MdE_t h1 (MdE_fail d1 1), MdP_fail h2 (by decide), h8.1.trans h3, h8.2.1.trans h4, ?_, fun q => absurd q (fail_ne d1 (by decide))⟩
    rw [h8.2.2]
    exact h6
theorem mu_0 {d : TMd} (h : MdP d) : 0 ≤ mu d ∧ mu d ≤ 10001 := by
  have h1 := h.1
  unfold mu
  split
  · omega
  · omega
/-- going on with a macro that was looked at just now -/
theorem goOn {d d' : TMd} {t : Int32} (h : d' = f_Md_goOnWith d t) (hs : MdS d) (hp : MdP d) (ht : TokIn d t) (hk : f_Md_kindOf d t = 2 ∨ f_Md_kindOf d t = 3) : MdE d d' ∧ MdP d' ∧ TMd_open d' = TMd_open d ∧ TMd_phases d' = TMd_phases d ∧ mu d' = mu d ∧ TMd_fault d' = TMd_fault d := by
  have h1 := kv_M hs (by have := ht.2.1; omega) hk
  have h2 := ht.2.2 (by rcases hk with q | q; exact Or.inl q; exact Or.inr (Or.inl q))
  have h3 := hp.1
  have h4 : (TMd_pile d + 1).toInt = (TMd_pile d).toInt + 1 := succ_toInt (by omega)
  have h5 := clamp_toInt h3.1
  have h6 := clamp_toInt h1.1
  rw [h]
  refine ⟨MdE_r d, ⟨?_, ?_, hp.2.2⟩, rfl, rfl, rfl, rfl⟩
  · show 0 ≤ (TMd_pile d + 1).toInt ∧ (TMd_pile d + 1).toInt ≤ (TMd_steps d).toInt + 1 ∧ 0 ≤ (TMd_steps d).toInt ∧ (TMd_steps d).toInt ≤ 5000
    omega
  · intro i hi
    have hi : (i : Int) < (TMd_pile d + 1).toInt := hi
    show 0 ≤ (upd (TMd_pileRows d) (TMd_pile d).toNatClampNeg (f_Md_valueOf d t) i).toInt ∧ (upd (TMd_pileRows d) (TMd_pile d).toNatClampNeg (f_Md_valueOf d t) i).toInt ≤ 20 ∧ 0 ≤ (upd (TMd_pilePlaces d) (TMd_pile d).toNatClampNeg 0 i).toInt ∧ (upd (TMd_pilePlaces d) (TMd_pile d).toNatClampNeg 0 i).toInt ≤ (TMd_sizes d (upd (TMd_pileRows d) (TMd_pile d).toNatClampNeg (f_Md_valueOf d t) i).toNatClampNeg).toInt
    by_cases hq : i = (TMd_pile d).toNatClampNeg
    · rw [hq, pk_us, pk_us, e_0]
      have h7 := MdS_size hs (i := (f_Md_valueOf d t).toNatClampNeg) (by omega)
      omega
    · rw [pk_un hq, pk_un hq]
      exact hp.2.1 i (by omega)
