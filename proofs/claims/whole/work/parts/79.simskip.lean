theorem sim_skip (n : Nat) : ∀ (m : Nat) (b : TBk) (u : TRn) (d : TMd) (P W O C E wi nu tu : Int32), BR b d → MdS d → MdP d → 0 < (TMd_open d).toInt → RR u d → TMd_fault d = 0 → (TRn_isCase u (Lst d) = 0 ↔ C = 0) → (TRn_hadElse u (Lst d) = 0 ↔ E = 0) → (W = 0 ↔ O = 0) → (O = P ∨ C = 0) → (0 ≤ wi.toInt ∧ wi.toInt + mu d ≤ 10001) → (0 ≤ tu.toInt ∧ tu.toInt + mu d ≤ 10001) → mu d < (n : Int) → mu d < (m : Int) → SKQ u d (f_Rn_skip_8 n b u P W wi nu tu) (match f_Md_need d with | (r, w) => f_Md_skip_15 m w C O E wi nu r) := by
  induction n with
  | zero =>
    intro m b u d P W O C E wi nu tu hb hs hp
    intros
    have h1 := mu_0 hp
    omega
  | succ n ih =>
    intro m b u d P W O C E wi nu tu hb hs hp h0 hr hf hC hE hW hO hwi htu hn hm
    have hmu := mu_0 hp
    rcases m with _ | m
    · omega
    have e6 : (1000000 : Int32).toInt = 1000000 := by decide
    have ht : ¬ 1000000 ≤ tu := by
      rw [i32_le, e6]
      omega
    rcases hl : f_Rn_lookForMore b u with ⟨r, v⟩
    rcases hn2 : f_Md_need d with ⟨r', e⟩
    obtain ⟨s1, ⟨s2, s3⟩, s4, s5⟩ := sim_need hb hs hp hr hf hl.symm hn2.symm
    obtain ⟨a1, a2, a3, a4, a5, a6⟩ := ned hn2.symm hs hp
    have hLe : Lst e = Lst d := by
      unfold Lst
      rw [a3]
    have h0e : 0 < (TMd_open e).toInt := by
      rw [a3]
      exact h0
    have hL := Lst_i hp h0
    dsimp only
    by_cases cf : TMd_fault e = 0
    · obtain ⟨t1, t2, t3⟩ := s4 cf
      subst t1
      obtain ⟨⟨k0, k1, k2⟩, k3⟩ := a6 cf
      have hme := mu_0 a2
      have hb' := BR_E a1 hb
      have hs' := MdE_S a1 hs
      have hkk : f_Bk_kindOf b r = f_Md_kindOf e r := sim_kind hb' k0 k1
      have hK := kind_rng hs' k0 k1
      rcases m with _ | m
      · omega
      have hbad : ∀ q : Int32, ¬ q = 0 → SKQ u d (f_Rn_fail b v q) (f_Md_fail e q) := fun q hq => by
        refine ⟨sim_fail s1 b q, ?_, fun h => absurd h (fail_ne e hq)⟩
        exact FRM_e ((fail_ce b v q).1.trans s2) ((fail_ce b v q).2.trans s3) ((fail_open e q).2.1.trans a4)
      have hgo : ∀ (u2 : TRn) (d2 : TMd) (E2 wi2 nu2 : Int32), MdE e d2 → MdP d2 → TMd_open d2 = TMd_open e → TMd_phases d2 = TMd_phases e → mu d2 = mu e → RR u2 d2 → TMd_fault d2 = 0 → TRn_isCase u2 = TRn_isCase v → (∀ i, i ≠ Lst d → TRn_hadElse u2 i = TRn_hadElse v i) → (TRn_hadElse u2 (Lst d) = 0 ↔ E2 = 0) → (0 ≤ wi2.toInt ∧ wi2.toInt ≤ wi.toInt + 1) → SKQ u d (f_Rn_skip_8 n b u2 P W wi2 nu2 (tu + 1)) (match f_Md_need d2 with | (r, w) => f_Md_skip_15 (m + 1) w C O E2 wi2 nu2 r) := by
        intro u2 d2 E2 wi2 nu2 g1 g2 g3 g4 g5 g6 g7 g8 g9 g10 g11
        have hL2 : Lst d2 = Lst d := by
          unfold Lst
          rw [g3, a3]
        have htu1 : (tu + 1).toInt = tu.toInt + 1 := succ_toInt (by omega)
        obtain ⟨q1, q2, q3⟩ := ih (m + 1) b u2 d2 P W O C E2 wi2 nu2 (tu + 1) (BR_E g1 hb') (MdE_S g1 hs') g2 (by rw [g3]; exact h0e) g6 g7 (by rw [hL2, g8, s2]; exact hC) (by rw [hL2]; exact g10) hW hO ⟨g11.1, by omega⟩ ⟨by omega, by omega⟩ (by omega) (by omega)
        rw [g3, a3] at q2 q3
        refine ⟨q1, fun i hi => ?_, q3⟩
        have h3 := q2 i hi
        have h4 : i ≠ Lst d := by
          intro h
          omega
        exact ⟨h3.1.trans (by rw [g8, s2]), h3.2.1.trans ((g9 i h4).trans (by rw [s3])), h3.2.2.trans (by rw [g4, a4])⟩
      have hEv : TRn_hadElse v (Lst d) = 0 ↔ E = 0 := by rw [s3]; exact hE
      have hCv : TRn_isCase v (Lst d) = 0 ↔ C = 0 := by rw [s2]; exact hC
      obtain ⟨ip7, ip6, ip8⟩ := ip_67 (b := b) s1 a2 h0e
      obtain ⟨pm7, pm6, pm8⟩ := pm_678 (b := b) s1 a2 h0e
      rw [hLe] at ip7 ip6 pm6
      have hsk : ∀ wi2 nu2 : Int32, (0 ≤ wi2.toInt ∧ wi2.toInt ≤ wi.toInt + 1) → SKQ u d (f_Rn_skip_8 n b (TRn_set_skipped v (TRn_skipped v + 1)) P W wi2 nu2 (tu + 1)) (match f_Md_need (TMd_set_skipped e (TMd_skipped e + 1)) with | (r, w) => f_Md_skip_15 (m + 1) w C O E wi2 nu2 r) := fun wi2 nu2 hw => hgo (TRn_set_skipped v (TRn_skipped v + 1)) (TMd_set_skipped e (TMd_skipped e + 1)) E wi2 nu2 (MdE_r e) a2 rfl rfl rfl (sim_skp s1) cf rfl (fun _ _ => rfl) hEv hw
      have hwi1 : (wi + 1).toInt = wi.toInt + 1 := succ_toInt (by omega)
      by_cases c3 : f_Md_kindOf e r = 3
      · rw [cs_3 ht hl t2 (hkk.trans c3), ms_3 cf c3]
        exact hbad 7 (by decide)
      by_cases c5 : f_Md_kindOf e r = 5
      · rw [cs_5 ht hl t2 (hkk.trans c5), ms_5 cf c5]
        exact hsk (wi + 1) nu ⟨by omega, by omega⟩
      by_cases c8 : f_Md_kindOf e r = 8
      · by_cases cw : wi = 0
        · have h2 : RR (TRn_set_openCount v (TMd_open e - 1)) (TMd_set_open e (TMd_open e - 1)) := by
            obtain ⟨h1, h2, h3, h4, h5, h6, h7, h8, h9⟩ := s1
            exact ⟨h1, h2, h3, rfl, h5, h6, h7, h8, h9⟩
          rw [cs_8 ht hl t2 cw (hkk.trans c8) (by rw [ip8]; decide), ms_8 cf c8 (by rw [cw]; decide), pm8]
          refine ⟨h2, FRM_e s2 s3 a4, fun _ i hi hi2 => ?_⟩
          have h3 : (TMd_open e - 1).toInt = (TMd_open e).toInt - 1 := pred_toInt (by omega)
          have hi2 : (i : Int) < (TMd_open e - 1).toInt := hi2
          rw [a3] at h3 hi2
          omega
        · have cw' : ¬ wi ≤ 0 := by
            rw [i32_eq, e_0] at cw
            rw [i32_le, e_0]
            omega
          have cw2 := cw'
          rw [i32_le, e_0] at cw2
          have hwi2 : (wi - 1).toInt = wi.toInt - 1 := pred_toInt (by omega)
          rw [cs_w8 ht hl t2 (hkk.trans c8) cw, ms_w8 cf c8 cw', show wi + -1 = wi - 1 from (Int32.sub_eq_add_neg wi 1).symm]
          exact hsk (wi - 1) nu ⟨by omega, by omega⟩
      by_cases cw : ¬ wi = 0 ∨ f_Md_kindOf e r < 6
      · have c1 : ¬ wi = 0 ∨ f_Ct_isMark (f_Bk_kindOf b r) = 0 := by
          rcases cw with cw | cw
          · exact Or.inl cw
          · refine Or.inr ?_
            rw [hkk]
            exact mark_0 (fun h => by rw [h] at cw; exact absurd cw (by decide)) (fun h => by rw [h] at cw; exact absurd cw (by decide)) c8
        have c2 : f_Md_kindOf e r < 6 ∨ ¬ wi ≤ 0 := by
          rcases cw with cw | cw
          · rw [i32_eq, e_0] at cw
            refine Or.inr ?_
            rw [i32_le, e_0]
            omega
          · exact Or.inl cw
        rw [cs_c ht hl t2 (by rw [hkk]; exact c3) (by rw [hkk]; exact c5) (by rw [hkk]; exact c8) c1, ms_c cf c3 c5 c8 c2, Int32.add_zero]
        exact hsk wi nu ⟨by omega, by omega⟩
      · have cw0 : wi = 0 := Decidable.byContradiction (fun h => cw (Or.inl h))
        have ck : ¬ f_Md_kindOf e r < 6 := fun h => cw (Or.inr h)
        have cwl : wi ≤ 0 := by
          rw [cw0]
          decide
        have h67 : f_Md_kindOf e r = 6 ∨ f_Md_kindOf e r = 7 := by
          have e1 : (6 : Int32).toInt = 6 := by decide
          have e2 : (7 : Int32).toInt = 7 := by decide
          have e3 : (8 : Int32).toInt = 8 := by decide
          rw [i32_lt, e1] at ck
          rw [i32_eq, e3] at c8
          rw [i32_eq, i32_eq, e1, e2]
          omega
        by_cases cE : E = 0
        · have hE0 : TRn_hadElse v (Lst d) = 0 := hEv.mpr cE
          rcases h67 with c6 | c7
          · have hip : ¬ f_Rn_isInPlace b v 6 = 0 := fun h => (ip6.mp h) hE0
            rw [cs_6 ht hl t2 cw0 (hkk.trans c6) hip, ms_6 cf c6 cwl cE, pm6, Int32.add_zero]
            have h1 : upd (TRn_hadElse v) (Lst d) 1 (Lst d) = 1 := pk_us
            have hR : RR (TRn_set_hadElse v (upd (TRn_hadElse v) (Lst d) 1)) e := s1
            by_cases cW : W = 0
            · rw [if_pos cW, if_pos (hW.mp cW)]
              exact hgo (TRn_set_hadElse v (upd (TRn_hadElse v) (Lst d) 1)) e 1 wi nu (MdE_r e) a2 rfl rfl rfl hR cf rfl (fun i hi => (show upd (TRn_hadElse v) (Lst d) 1 i = _ from pk_un hi)) (by show upd (TRn_hadElse v) (Lst d) 1 (Lst d) = 0 ↔ (1 : Int32) = 0; rw [h1]) ⟨by omega, by omega⟩
            · rw [if_neg cW, if_neg (fun h => cW (hW.mpr h))]
              refine ⟨hR, fun i hi => ?_, fun _ i hi hi2 => ?_⟩
              · have h4 : i ≠ Lst d := by
                  intro h
                  omega
                have h4' : i ≠ (TMd_open e - 1).toNatClampNeg := by
                  rw [a3]
                  exact h4
                refine ⟨?_, ?_, ?_⟩
                · show TRn_isCase v i = _
                  rw [s2]
                · show upd (TRn_hadElse v) (Lst d) 1 i = _
                  rw [pk_un h4, s3]
                · show upd (TMd_phases e) (TMd_open e - 1).toNatClampNeg 2 i = _
                  rw [pk_un h4', a4]
              · have hi2 : (i : Int) < (TMd_open e).toInt := hi2
                rw [a3] at hi2
                have h4 : i = Lst d := by omega
                have h4' : (TMd_open e - 1).toNatClampNeg = Lst d := by
                  rw [a3]
                  rfl
                refine Or.inr (Or.inr ⟨?_, ?_⟩)
                · show upd (TMd_phases e) (TMd_open e - 1).toNatClampNeg 2 i = 2
                  rw [h4, h4', pk_us]
                · show ¬ upd (TRn_hadElse v) (Lst d) 1 i = 0
                  rw [h4, pk_us]
                  decide
          · by_cases cC : C = 0
            · rw [cs_bad ht hl t2 cw0 (mark_1 (Or.inr (Or.inl (hkk.trans c7)))) (by rw [hkk, c7]; exact ip7.mpr (Or.inl (hCv.mpr cC))), ms_bad7 cf c7 cwl cE cC]
              exact hbad 2 (by decide)
            · have hip : ¬ f_Rn_isInPlace b v 7 = 0 := fun h => by
                rcases ip7.mp h with h | h
                · exact cC (hCv.mp h)
                · exact h hE0
              have hOP : O = P := by
                rcases hO with h | h
                · exact h
                · exact absurd h cC
              rw [cs_7 ht hl t2 cw0 (hkk.trans c7) hip, ms_7 cf c7 cwl cE cC, pm7, hOP]
              by_cases cP : nu + 1 = P
              · rw [if_pos cP, if_pos cP]
                refine ⟨s1, fun i hi => ?_, fun _ i hi hi2 => ?_⟩
                · have h4 : i ≠ Lst d := by
                    intro h
                    omega
                  have h4' : i ≠ (TMd_open e - 1).toNatClampNeg := by
                    rw [a3]
                    exact h4
                  refine ⟨by rw [s2], by rw [s3], ?_⟩
                  show upd (TMd_phases e) (TMd_open e - 1).toNatClampNeg 3 i = _
                  rw [pk_un h4', a4]
                · have hi2 : (i : Int) < (TMd_open e).toInt := hi2
                  rw [a3] at hi2
                  have h4 : i = Lst d := by omega
                  have h4' : (TMd_open e - 1).toNatClampNeg = Lst d := by
                    rw [a3]
                    rfl
                  refine Or.inr (Or.inl ⟨?_, ?_, ?_⟩)
                  · show upd (TMd_phases e) (TMd_open e - 1).toNatClampNeg 3 i = 3
                    rw [h4, h4', pk_us]
                  · rw [h4]
                    exact fun h => cC (hCv.mp h)
                  · rw [h4]
                    exact hE0
              · rw [if_neg cP, if_neg cP]
                have h9 := hgo v e E wi (nu + 1) (MdE_r e) a2 rfl rfl rfl s1 cf rfl (fun _ _ => rfl) hEv ⟨by omega, by omega⟩
                rw [hOP] at h9
                exact h9
        · have hE1 : ¬ TRn_hadElse v (Lst d) = 0 := fun h => cE (hEv.mp h)
          have hbd : f_Rn_isInPlace b v (f_Bk_kindOf b r) = 0 := by
            rcases h67 with c6 | c7
            · rw [hkk, c6]
              exact ip6.mpr hE1
            · rw [hkk, c7]
              exact ip7.mpr (Or.inr hE1)
          rw [cs_bad ht hl t2 cw0 (mark_1 (by rw [hkk]; rcases h67 with h | h; exact Or.inl h; exact Or.inr (Or.inl h))) hbd, ms_bad cf h67 cwl cE]
          exact hbad 2 (by decide)
    · rw [cs_0 ht hl (s5 cf), ms_f _ _ _ _ _ _ cf]
      exact ⟨s1, FRM_e s2 s3 a4, fun h => absurd h cf⟩
