/-- what look() does behind the rows that ended -/
def lookT (b : TBk) (v : TRd) : Int32 × TRd := (if (TRd_top v) < 0 then ((-1), v) else (if (TRd_top v) < 5001 then (if (TRd_steps v) < 5000 then ((f_Bk_tokenIn b ((TRd_rows v) (TRd_top v).toNatClampNeg) (((upd (TRd_places v) (TRd_top v).toNatClampNeg (((TRd_places v) (TRd_top v).toNatClampNeg) + 1)) (TRd_top v).toNatClampNeg) - 1)), (TRd_set_steps (TRd_set_places v (upd (TRd_places v) (TRd_top v).toNatClampNeg (((TRd_places v) (TRd_top v).toNatClampNeg) + 1))) ((TRd_steps v) + 1))) else ((-2), v)) else ((-1), v)))
theorem look_80 (b : TBk) (v : TRd) : f_Rd_look_80 b v = lookT b v := rfl
/-- look() and next() -/
def LK (p : Int32 × TRd) (q : Int32 × TMd) (d : TMd) : Prop := (p.1 = -2 ∧ q.1 = -1 ∧ ∃ d0, q.2 = f_Md_fail d0 9 ∧ RD p.2 d0 ∧ ∀ u, RO u d → RO u d0) ∨ (¬ p.1 = -2 ∧ p.1 = q.1 ∧ RD p.2 q.2 ∧ (∀ u, RO u d → RO u q.2) ∧ TMd_held q.2 = -1)
theorem add_sub1 (x : Int32) : x + 1 - 1 = x := by
  rw [Int32.add_sub_cancel]
theorem sim_lv (n : Nat) : ∀ (m : Nat) (b : TBk) (r : TRd) (d : TMd), BR b d → MdS d → MdP d → RD r d → TMd_held d = -1 → (TMd_pile d).toInt < (n : Int) → (TMd_pile d).toInt < (m : Int) → LK (f_Rd_look_20 n b r) (f_Md_next_28 m d) d := by
  induction n with
  | zero =>
    intro m b r d hb hs hp hr hh hn hm
    have h1 := hp.1
    omega
  | succ n ih =>
    intro m b r d hb hs hp hr hh hn hm
    rcases m with _ | m
    · have h1 := hp.1
      omega
    rw [f_Rd_look_20, f_Md_next_28]
    obtain ⟨r1, r2, r3, r4, r5⟩ := hr
    have h1 := hp.1
    have e5 : (5000 : Int32).toInt = 5000 := by decide
    have e6 : (5001 : Int32).toInt = 5001 := by decide
    have ht : (TMd_pile d - 1).toInt = (TMd_pile d).toInt - 1 := pred_toInt (by omega)
    by_cases c1 : TMd_pile d ≤ 0
    · rw [if_pos c1]
      by_cases c2 : TMd_pile d = 0
      · rw [if_pos c2]
        have h3 : TRd_top r < 0 := by
          rw [r3, i32_lt, ht, e_0, c2, e_0]
          omega
        rw [if_pos h3]
        rw [look_80]
        unfold lookT
        rw [if_pos h3]
        exact Or.inr ⟨(show ¬ (-1 : Int32) = -2 by decide), rfl, ⟨r1, r2, r3, r4, r5⟩, fun u h => h, hh⟩
      · exact (nx_no hp c1 c2).elim
    · have h2 := nx_at hp c1
      have c1' := c1
      rw [i32_le, e_0] at c1'
      have h3 : ¬ TRd_top r < 0 := by
        rw [r3, i32_lt, ht, e_0]
        omega
      have h4 : ¬ 5001 ≤ TRd_top r := by
        rw [r3, i32_le, ht, e6]
        omega
      have h4' : TRd_top r < 5001 := by
        rw [r3, i32_lt, ht, e6]
        omega
      have h5 : f_Bk_sizeOf b (TRd_rows r (TRd_top r).toNatClampNeg) = TMd_sizes d (TMd_pileRows d (TMd_pile d - 1).toNatClampNeg).toNatClampNeg := by
        rw [r3, r1]
        exact sim_size hb h2.1 h2.2.1
      have h6 : TRd_places r (TRd_top r).toNatClampNeg = TMd_pilePlaces d (TMd_pile d - 1).toNatClampNeg := by
        rw [r3, r2]
      rw [if_neg c1, if_neg h3, if_neg h4, h5, h6]
      by_cases c3 : TMd_pilePlaces d (TMd_pile d - 1).toNatClampNeg = TMd_sizes d (TMd_pileRows d (TMd_pile d - 1).toNatClampNeg).toNatClampNeg
      · rw [if_pos c3, if_neg (by rw [c3, i32_lt]; omega)]
        exact ih m b (TRd_set_top r (TRd_top r - 1)) (TMd_set_pile d (TMd_pile d - 1)) hb hs (nx_pop hp c1) ⟨r1, r2, (by show TRd_top r - 1 = TMd_pile d - 1 - 1; rw [r3]), r4, r5⟩ hh (nx_f hp hn c1) (nx_f hp hm c1)
      · have c3' := c3
        rw [i32_eq] at c3'
        rw [if_neg c3, if_pos (by rw [i32_lt]; omega), if_neg (by rw [i32_eq, e_0]; omega)]
        rw [look_80]
        unfold lookT
        rw [if_neg h3, if_pos h4', r5]
        by_cases c5 : TMd_steps d = 5000
        · rw [if_pos c5, if_neg (by rw [c5]; decide)]
          exact Or.inl ⟨rfl, rfl, d, rfl, ⟨r1, r2, r3, r4, r5⟩, fun u h => h⟩
        · have c5' := c5
          rw [i32_eq, e5] at c5'
          rw [if_neg c5, if_pos (by rw [i32_lt, e5]; omega)]
          have h7 : f_Bk_tokenIn b (TRd_rows r (TRd_top r).toNatClampNeg) (upd (TRd_places r) (TRd_top r).toNatClampNeg (TRd_places r (TRd_top r).toNatClampNeg + 1) (TRd_top r).toNatClampNeg - 1) = TMd_rows d (200 * TMd_pileRows d (TMd_pile d - 1).toNatClampNeg + TMd_pilePlaces d (TMd_pile d - 1).toNatClampNeg).toNatClampNeg := by
            rw [pk_us, add_sub1, r3, r1, r2]
            exact sim_in hb hs h2.1 h2.2.1 h2.2.2.1 (by omega)
          have h8 := clamp_toInt h2.1
          have h9 := clamp_toInt h2.2.2.1
          have h10 := MdS_size hs (i := (TMd_pileRows d (TMd_pile d - 1).toNatClampNeg).toNatClampNeg) (by omega)
          have h11 := cellM h2.1 h2.2.1 h2.2.2.1 (by omega)
          have h12 := clamp_toInt (x := 200 * TMd_pileRows d (TMd_pile d - 1).toNatClampNeg + TMd_pilePlaces d (TMd_pile d - 1).toNatClampNeg) (by omega)
          have h13 := hs.2.2.2 (TMd_pileRows d (TMd_pile d - 1).toNatClampNeg).toNatClampNeg (TMd_pilePlaces d (TMd_pile d - 1).toNatClampNeg).toNatClampNeg (by omega) (by omega) (by omega)
          rw [show 200 * (TMd_pileRows d (TMd_pile d - 1).toNatClampNeg).toNatClampNeg + (TMd_pilePlaces d (TMd_pile d - 1).toNatClampNeg).toNatClampNeg = (200 * TMd_pileRows d (TMd_pile d - 1).toNatClampNeg + TMd_pilePlaces d (TMd_pile d - 1).toNatClampNeg).toNatClampNeg by omega] at h13
          refine Or.inr ⟨?_, h7, ⟨r1, ?_, r3, r4, ?_⟩, fun u h => h, hh⟩
          · show ¬ f_Bk_tokenIn b (TRd_rows r (TRd_top r).toNatClampNeg) (upd (TRd_places r) (TRd_top r).toNatClampNeg (TRd_places r (TRd_top r).toNatClampNeg + 1) (TRd_top r).toNatClampNeg - 1) = -2
            rw [h7]
            intro e
            rw [e] at h13
            exact absurd h13.1 (by decide)
          · show upd (TRd_places r) (TRd_top r).toNatClampNeg (TRd_places r (TRd_top r).toNatClampNeg + 1) = upd (TMd_pilePlaces d) (TMd_pile d - 1).toNatClampNeg (TMd_pilePlaces d (TMd_pile d - 1).toNatClampNeg + 1)
            rw [r3, r2]
          · rfl
theorem sim_look {b : TBk} {u : TRn} {d : TMd} (hb : BR b d) (hs : MdS d) (hp : MdP d) (hr : RR u d) (hf : TMd_fault d = 0) : LK (f_Rd_look b (TRn_rd u)) (f_Md_next d) d := by
  unfold f_Md_next
  rw [if_pos (show TMd_fault d ≤ 0 by rw [hf]; decide)]
  obtain ⟨⟨r1, r2, r3, r4, r5⟩, ho⟩ := hr
  have h1 := hp.1
  by_cases c : TMd_held d = -1
  · rw [if_pos (by rw [c]; decide)]
    have h2 : f_Rd_look b (TRn_rd u) = f_Rd_look_20 (((TRd_top (TRn_rd u)).toInt + 2).toNat + 1) b (TRn_rd u) := by
      unfold f_Rd_look
      rw [if_pos (by rw [r4]; exact c)]
    rw [h2]
    have ht : (TMd_pile d - 1).toInt = (TMd_pile d).toInt - 1 := pred_toInt (by omega)
    exact sim_lv _ _ b (TRn_rd u) d hb hs hp ⟨r1, r2, r3, r4, r5⟩ c (by rw [r3, ht]; omega) (by omega)
  · have h3 : 0 ≤ (TMd_held d).toInt := by
      rcases hp.2.2.1 with h | h
      · exact absurd h c
      · exact h.1
    rw [if_neg (by rw [i32_lt, e_0]; omega)]
    have h2 : f_Rd_look b (TRn_rd u) = (TRd_kept (TRn_rd u), TRd_set_kept (TRn_rd u) (-1)) := by
      unfold f_Rd_look
      rw [if_neg (by rw [r4]; exact c)]
    rw [h2]
    refine Or.inr ⟨?_, r4, ⟨r1, r2, r3, rfl, r5⟩, fun u h => h, rfl⟩
    show ¬ TRd_kept (TRn_rd u) = -2
    rw [r4]
    intro e
    rw [e] at h3
    exact absurd h3 (by decide)
theorem sim_need {b : TBk} {u v : TRn} {d d' : TMd} {r r' : Int32} (hb : BR b d) (hs : MdS d) (hp : MdP d) (hr : RR u d) (hf : TMd_fault d = 0) (h1 : (r, v) = f_Rn_lookForMore b u) (h2 : (r', d') = f_Md_need d) : RR v d' ∧ (TRn_isCase v = TRn_isCase u ∧ TRn_hadElse v = TRn_hadElse u) ∧ (TMd_fault d' = 0 → r = r' ∧ ¬ r = -1 ∧ TMd_held d' = -1) ∧ (¬ TMd_fault d' = 0 → r = -1) := by
  have hk := sim_look hb hs hp hr hf
  have ho := hr.2
  unfold f_Rn_lookForMore at h1
  unfold f_Md_need at h2
  rcases hl : f_Rd_look b (TRn_rd u) with ⟨x, w⟩
  rcases hn : f_Md_next d with ⟨y, e⟩
  have hx := nxt hn.symm hs hp
  rw [hl] at h1 hk
  rw [hn] at h2 hk
  dsimp only at h1 h2
  rcases hk with ⟨x1, x2, d0, x3, k4, k5⟩ | ⟨x1, x2, k3, k4, k5⟩
  · have k1 : x = -2 := x1
    have k2 : y = -1 := x2
    have k3 : e = f_Md_fail d0 9 := x3
    clear x1 x2 x3
    rw [if_pos k1] at h1
    rw [if_neg (by rw [k2]; decide)] at h2
    cases h1
    cases h2
    have hz : RR (TRn_set_rd u w) d0 := ⟨k4, k5 u ho⟩
    have hz2 := sim_fail hz b 9
    rw [← k3] at hz2
    have hne : ¬ TMd_fault e = 0 := by
      rw [k3]
      exact fail_ne d0 (by decide)
    have hne2 : ¬ TMd_fault (f_Md_fail e 1) = 0 := by
      rw [fail_f0 e 1 hne]
      exact hne
    exact ⟨sim_fail0 hz2 1 hne, fail_ce b (TRn_set_rd u w) 9, fun q => absurd q hne2, fun _ => rfl⟩
  · have k1 : ¬ x = -2 := x1
    have k2 : x = y := x2
    clear x1 x2
    have hz : RR (TRn_set_rd u w) e := ⟨k3, k4 u ho⟩
    rw [if_neg k1] at h1
    by_cases c : x = -1
    · rw [if_pos c] at h1
      rw [if_neg (by rw [← k2, c]; decide)] at h2
      cases h1
      cases h2
      have hne : ¬ TMd_fault (f_Md_fail e 1) = 0 := fail_ne e (by decide)
      exact ⟨sim_fail hz b 1, fail_ce b (TRn_set_rd u w) 1, fun q => absurd q hne, fun _ => c⟩
    · rw [if_neg c] at h1
      have h5 : TokIn e y := by
        rcases hx.2.2.2.2.1 with h | h
        · exact absurd (k2.trans h) c
        · exact h
      rw [if_pos (by rw [i32_le, e_0]; exact h5.1)] at h2
      cases h1
      cases h2
      have h6 : TMd_fault d' = 0 := by
        have h7 : TRn_fault u = TMd_fault d' := (k4 u ho).2.2.2.2.2.2.1
        rw [← h7, ho.2.2.2.2.2.2.1]
        exact hf
      exact ⟨hz, ⟨rfl, rfl⟩, fun _ => ⟨k2, c, k5⟩, fun q => absurd h6 q⟩
