theorem sim_sk {b : TBk} {u : TRn} {d : TMd} {P W O C E : Int32} (hb : BR b d) (hs : MdS d) (hp : MdP d) (h0 : 0 < (TMd_open d).toInt) (hr : RR u d) (hf : TMd_fault d = 0) (hC : TRn_isCase u (Lst d) = 0 ↔ C = 0) (hE : TRn_hadElse u (Lst d) = 0 ↔ E = 0) (hW : W = 0 ↔ O = 0) (hO : O = P ∨ C = 0) : SKQ u d (f_Rn_skip b u P W) (f_Md_skip d C E O) := by
  have h1 := mu_0 hp
  unfold f_Rn_skip f_Md_skip
  exact sim_skip TM TM b u d P W O C E 0 0 0 hb hs hp h0 hr hf hC hE hW hO ⟨by rw [e_0]; omega, by rw [e_0]; omega⟩ ⟨by rw [e_0]; omega, by rw [e_0]; omega⟩ (by rw [TM_eq]; omega) (by rw [TM_eq]; omega)
theorem SKQ_u {u u2 w : TRn} {d d' : TMd} (hp : MdP d) (h0 : 0 < (TMd_open d).toInt) (h : SKQ u2 d w d') (h1 : TRn_isCase u2 = TRn_isCase u) (h2 : ∀ i, i ≠ Lst d → TRn_hadElse u2 i = TRn_hadElse u i) : SKQ u d w d' := by
  have hL := Lst_i hp h0
  refine ⟨h.1, fun i hi => ?_, h.2.2⟩
  have h3 := h.2.1 i hi
  exact ⟨by rw [h3.1, h1], by rw [h3.2.1, h2 i (by omega)], h3.2.2⟩
theorem sim_bel {b : TBk} {u : TRn} {d : TMd} {K : Int32} (hb : BR b d) (hs : MdS d) (hp : MdP d) (h0 : 0 < (TMd_open d).toInt) (hr : RR u d) (hf : TMd_fault d = 0) (hK : K = 6 ∨ K = 7 ∨ K = 8) (hph : PHI (TRn_isCase u (Lst d)) (TRn_hadElse u (Lst d)) (TMd_phases d (Lst d))) : SKQ u d (f_Rn_meetMark b u K) (f_Md_belongs d K) := by
  obtain ⟨ip7, ip6, ip8⟩ := ip_67 (b := b) hr hp h0
  obtain ⟨pm7, pm6, pm8⟩ := pm_678 (b := b) hr hp h0
  have hL := Lst_i hp h0
  have hbad : SKQ u d (f_Rn_fail b u 2) (f_Md_fail d 2) := ⟨sim_fail hr b 2, FRM_e (fail_ce b u 2).1 (fail_ce b u 2).2 (fail_open d 2).2.1, fun h => absurd h (fail_ne d (by decide))⟩
  have h1 : upd (TRn_hadElse u) (Lst d) 1 (Lst d) = 1 := pk_us
  have hels : ∀ C : Int32, (TRn_isCase u (Lst d) = 0 ↔ C = 0) → SKQ u d (f_Rn_skip b (TRn_set_hadElse u (upd (TRn_hadElse u) (Lst d) 1)) 0 0) (f_Md_skip d C 1 0) := fun C hC => SKQ_u hp h0 (sim_sk (u := TRn_set_hadElse u (upd (TRn_hadElse u) (Lst d) 1)) hb hs hp h0 hr hf hC (by show upd (TRn_hadElse u) (Lst d) 1 (Lst d) = 0 ↔ (1 : Int32) = 0; rw [h1]) (Iff.rfl) (Or.inl rfl)) rfl (fun i hi => (show upd (TRn_hadElse u) (Lst d) 1 i = _ from pk_un hi))
  have hor : TRn_hadElse u (Lst d) = 0 → ¬ TRn_isCase u (Lst d) = 0 → SKQ u d (f_Rn_skip b u 0 0) (f_Md_skip d 1 0 0) := fun q q2 => sim_sk hb hs hp h0 hr hf ⟨fun h => absurd h q2, fun h => absurd h (by decide)⟩ ⟨fun _ => rfl, fun _ => q⟩ (Iff.rfl) (Or.inl rfl)
  unfold f_Rn_meetMark f_Md_belongs
  dsimp only
  have hLd : (TMd_open d - 1).toNatClampNeg = Lst d := rfl
  rw [hLd]
  rcases hK with hK | hK | hK
  · rw [hK, pm6, if_neg (show ¬ (6 : Int32) = 8 by decide), if_neg (show ¬ (6 : Int32) = 8 by decide)]
    rcases hph with ⟨q1, q2, q3⟩ | ⟨q1, q2, q3⟩ | ⟨q1, q2⟩
    · rw [if_neg (fun h => (ip6.mp h) q3), if_neg (by rw [q1]; decide), if_neg (by decide), if_neg (by rw [q1]; decide), if_pos rfl]
      exact hels 0 ⟨fun _ => rfl, fun _ => q2⟩
    · rw [if_neg (fun h => (ip6.mp h) q3), if_neg (by rw [q1]; decide), if_neg (by decide), if_pos q1, if_pos rfl]
      exact hels 1 ⟨fun h => absurd h q2, fun h => absurd h (by decide)⟩
    · rw [if_pos (ip6.mpr q2), if_pos q1]
      exact hbad
  · rw [hK, pm7, if_neg (show ¬ (7 : Int32) = 8 by decide), if_neg (show ¬ (7 : Int32) = 8 by decide)]
    rcases hph with ⟨q1, q2, q3⟩ | ⟨q1, q2, q3⟩ | ⟨q1, q2⟩
    · rw [if_pos (ip7.mpr (Or.inl q2)), if_neg (by rw [q1]; decide), if_pos rfl, if_pos q1]
      exact hbad
    · rw [if_neg (fun h => by rcases ip7.mp h with h | h; exact q2 h; exact h q3), if_neg (by rw [q1]; decide), if_pos rfl, if_neg (by rw [q1]; decide), if_pos q1, if_neg (by decide)]
      exact hor q3 q2
    · rw [if_pos (ip7.mpr (Or.inr q2)), if_pos q1]
      exact hbad
  · rw [hK, pm8, ip8, if_pos rfl, if_pos rfl, if_neg (by decide)]
    have h2 : RR (TRn_set_openCount u (TMd_open d - 1)) (TMd_set_open d (TMd_open d - 1)) := by
      obtain ⟨h1, h2, h3, h4, h5, h6, h7, h8, h9⟩ := hr
      exact ⟨h1, h2, h3, rfl, h5, h6, h7, h8, h9⟩
    refine ⟨h2, FRM_e rfl rfl rfl, fun _ i hi hi2 => ?_⟩
    have h3 : (TMd_open d - 1).toInt = (TMd_open d).toInt - 1 := pred_toInt (by omega)
    have hi2 : (i : Int) < (TMd_open d - 1).toInt := hi2
    omega
theorem sim_goOn {b : TBk} {u : TRn} {d : TMd} {t : Int32} (hr : RR u d) (hp : MdP d) (h1 : (TMd_pile d).toInt ≤ (TMd_steps d).toInt) : RR (TRn_set_rd u (f_Rd_goOnWith b (TRn_rd u) (f_Md_valueOf d t))) (f_Md_goOnWith d t) := by
  obtain ⟨⟨r1, r2, r3, r4, r5⟩, ho⟩ := hr
  have h2 := hp.1
  have ht : (TMd_pile d - 1).toInt = (TMd_pile d).toInt - 1 := pred_toInt (by omega)
  have e5 : (5001 - 1 : Int32).toInt = 5000 := by decide
  have h3 : TMd_pile d - 1 + 1 = TMd_pile d := Int32.sub_add_cancel ..
  have h4 : f_Rd_goOnWith b (TRn_rd u) (f_Md_valueOf d t) = TRd_set_top (TRd_set_places (TRd_set_rows (TRn_rd u) (upd (TMd_pileRows d) (TMd_pile d).toNatClampNeg (f_Md_valueOf d t))) (upd (TMd_pilePlaces d) (TMd_pile d).toNatClampNeg 0)) (TMd_pile d) := by
    unfold f_Rd_goOnWith
    rw [r3, r1, r2, h3, if_neg (by rw [i32_lt, ht, e_m1]; omega), if_neg (by rw [i32_le, ht, e5]; omega)]
  rw [h4]
  exact ⟨⟨rfl, rfl, (by show TMd_pile d = TMd_pile d + 1 - 1; rw [add_sub1]), r4, r5⟩, ho⟩
