theorem ti_m (op : TBk → TRn → Int32 → TRn) {b : TBk} {u : TRn} {p0 p1 : Int32} (h : ¬ f_Ct_isMacro (f_Bk_kindOf b p0) = 0) : f_Rn_takeIn op b u p0 p1 = (1, TRn_set_rd u (f_Rd_goOnWith b (TRn_rd u) (f_Bk_valueOf b p0))) := by
  unfold f_Rn_takeIn
  rw [if_neg h]
theorem ti_5 (op : TBk → TRn → Int32 → TRn) {b : TBk} {u : TRn} {p0 p1 : Int32} (h : f_Bk_kindOf b p0 = 5) : f_Rn_takeIn op b u p0 p1 = (1, op b u (f_Bk_valueOf b p0)) := by
  unfold f_Rn_takeIn
  rw [if_pos (by rw [h]; decide), if_pos h]
theorem ti_0 (op : TBk → TRn → Int32 → TRn) {b : TBk} {u : TRn} {p0 p1 : Int32} (h : f_Ct_isMacro (f_Bk_kindOf b p0) = 0) (h5 : ¬ f_Bk_kindOf b p0 = 5) (hm : f_Ct_isMark (f_Bk_kindOf b p0) = 0 ∨ TRn_openCount u ≤ p1) : f_Rn_takeIn op b u p0 p1 = (0, u) := by
  unfold f_Rn_takeIn
  rw [if_pos h, if_neg h5]
  by_cases c : f_Ct_isMark (f_Bk_kindOf b p0) = 0
  · rw [if_pos c]
  · rcases hm with hm | hm
    · exact absurd hm c
    · rw [if_neg c, if_pos hm]
theorem ti_k (op : TBk → TRn → Int32 → TRn) {b : TBk} {u : TRn} {p0 p1 : Int32} (h : f_Ct_isMacro (f_Bk_kindOf b p0) = 0) (h5 : ¬ f_Bk_kindOf b p0 = 5) (hm : ¬ f_Ct_isMark (f_Bk_kindOf b p0) = 0) (ho : ¬ TRn_openCount u ≤ p1) : f_Rn_takeIn op b u p0 p1 = (1, f_Rn_meetMark b u (f_Bk_kindOf b p0)) := by
  unfold f_Rn_takeIn
  rw [if_pos h, if_neg h5, if_neg hm, if_neg ho]
theorem as_f (op : TMd → Int32 → TMd) {m : Nat} {d : TMd} (x1 x2 : Int32) (hf : ¬ TMd_fault d = 0) : f_Md_asked_5 op (m + 1) d x1 x2 = (-1, d) := by
  rw [f_Md_asked_5, if_neg hf]
theorem as_m (op : TMd → Int32 → TMd) {m : Nat} {d : TMd} {x1 x2 : Int32} (hf : TMd_fault d = 0) (h : ¬ f_Md_isMacro d x2 = 0) : f_Md_asked_5 op (m + 1) d x1 x2 = match f_Md_need (f_Md_goOnWith d x2) with | (r, w) => f_Md_asked_5 op m w x1 r := by
  rw [f_Md_asked_5, if_pos hf]
  dsimp only
  by_cases c : f_Md_kindOf d x2 ≤ 5
  · rw [if_pos c, if_neg h]
  · rw [if_neg c, if_neg h]
theorem as_5 (op : TMd → Int32 → TMd) {m : Nat} {d : TMd} {x1 x2 : Int32} (hf : TMd_fault d = 0) (h : f_Md_isMacro d x2 = 0) (h5 : f_Md_kindOf d x2 = 5) : f_Md_asked_5 op (m + 1) d x1 x2 = match f_Md_need (op d (f_Md_valueOf d x2)) with | (r, w) => f_Md_asked_5 op m w x1 r := by
  rw [f_Md_asked_5, if_pos hf]
  dsimp only
  rw [if_pos (by rw [h5]; decide), if_pos h, if_pos h5]
theorem as_r (op : TMd → Int32 → TMd) {m : Nat} {d : TMd} {x1 x2 : Int32} (hf : TMd_fault d = 0) (h : f_Md_isMacro d x2 = 0) (h5 : ¬ f_Md_kindOf d x2 = 5) (hm : f_Md_kindOf d x2 ≤ 5 ∨ TMd_open d = x1 + 1) : f_Md_asked_5 op (m + 1) d x1 x2 = (x2, d) := by
  rw [f_Md_asked_5, if_pos hf]
  dsimp only
  by_cases c : f_Md_kindOf d x2 ≤ 5
  · rw [if_pos c, if_pos h, if_neg h5]
  · rcases hm with hm | hm
    · exact absurd hm c
    · rw [if_neg c, if_pos h, if_neg h5, if_pos hm]
theorem as_b (op : TMd → Int32 → TMd) {m : Nat} {d : TMd} {x1 x2 : Int32} (hf : TMd_fault d = 0) (h : f_Md_isMacro d x2 = 0) (h5 : ¬ f_Md_kindOf d x2 = 5) (hk : ¬ f_Md_kindOf d x2 ≤ 5) (ho : ¬ TMd_open d = x1 + 1) : f_Md_asked_5 op (m + 1) d x1 x2 = match f_Md_need (f_Md_belongs d (f_Md_kindOf d x2)) with | (r, w) => f_Md_asked_5 op m w x1 r := by
  rw [f_Md_asked_5, if_pos hf]
  dsimp only
  rw [if_neg hk, if_pos h, if_neg h5, if_neg ho]
theorem need_f {d : TMd} (hp : MdP d) (hf : ¬ TMd_fault d = 0) : f_Md_need d = (-1, f_Md_fail d 1) := by
  unfold f_Md_need f_Md_next
  rw [if_neg (fun h => hf (nu_f0 hp h))]
  dsimp only
  rw [if_neg (by decide)]
theorem mac_eq {d : TMd} (t : Int32) : f_Ct_isMacro (f_Md_kindOf d t) = f_Md_isMacro d t := rfl
/-- what open() leaves, in the class and in the reference -/
def OPQ (u : TRn) (d : TMd) (v : TRn) (d' : TMd) : Prop := RR v d' ∧ FRM (TMd_open d).toInt u v d d' ∧ (TMd_fault d' = 0 → PHB (TMd_open d).toInt v d')
/-- what an asking leaves, in the class and in the reference -/
def ARQ (lo : Int) (u : TRn) (d : TMd) (p : Int32 × TRn) (q : Int32 × TMd) : Prop := RR p.2 q.2 ∧ FRM lo u p.2 d q.2 ∧ (TMd_fault q.2 = 0 → p.1 = q.1 ∧ PHB lo p.2 q.2 ∧ TMd_held q.2 = -1) ∧ (¬ TMd_fault q.2 = 0 → p.1 = -1)
theorem rg_u (oc_ : TBk → TRn → Int32 → TRn) {n : Nat} {b : TBk} {u v : TRn} {x1 x2 r : Int32} (ht : ¬ 1000000 ≤ x2) (hf : TRn_fault u = 0) (hl : f_Rn_lookForMore b u = (r, v)) (hr : ¬ r = -1) : f_Rn_readGoneOnWith_2 oc_ (n + 1) b u x1 x2 = match f_Rn_takeIn oc_ b v r x1 with | (r5, v5) => if r5 = 0 then (r, v5) else f_Rn_readGoneOnWith_2 oc_ n b v5 x1 (x2 + 1) := by
  rw [f_Rn_readGoneOnWith_2, if_neg ht, if_pos hf, hl]
  dsimp only
  rw [if_neg hr]
theorem sim_ask2 (oc_ : TBk → TRn → Int32 → TRn) (op : TMd → Int32 → TMd) (k : Int) (hopm : ∀ (d : TMd) (w : Int32), OPP k d → LVS 0 d (op d w)) (hsim : ∀ (b : TBk) (u : TRn) (d : TMd) (w : Int32), BR b d → OPP k d → RR u d → TMd_fault d = 0 → (0 ≤ w.toInt ∧ w.toInt ≤ 10) → OPQ u d (oc_ b u w) (op d w)) (n : Nat) : ∀ (m : Nat) (b : TBk) (u : TRn) (d : TMd) (a x2 : Int32), BR b d → APk k a d → RR u d → (TMd_fault d = 0 → PHB (a.toInt + 1) u d) → (0 ≤ x2.toInt ∧ x2.toInt + mu d ≤ 10001) → mu d < (n : Int) → mu d < (m : Int) → ARQ (a.toInt + 1) u d (f_Rn_readGoneOnWith_2 oc_ n b u (a + 1) x2) (match f_Md_need d with | (r, w) => f_Md_asked_5 op m w a r) := by
  induction n with
  | zero =>
    intro m b u d a x2 hb ha
    intros
    have h1 := mu_0 ha.2.1
    omega
  | succ n ih =>
    intro m b u d a x2 hb ha hr hph hx hn hm
    have hs := ha.1
    have hp := ha.2.1
    have hmu := mu_0 hp
    rcases m with _ | m
    · omega
    have e6 : (1000000 : Int32).toInt = 1000000 := by decide
    have ht : ¬ 1000000 ≤ x2 := by
      rw [i32_le, e6]
      omega
    have hfu : TRn_fault u = TMd_fault d := hr.2.2.2.2.2.2.2.1
    by_cases hf : TMd_fault d = 0
    · rcases hl : f_Rn_lookForMore b u with ⟨r, v⟩
      rcases hn2 : f_Md_need d with ⟨r', e⟩
      obtain ⟨s1, ⟨s2, s3⟩, s4, s5⟩ := sim_need hb hs hp hr hf hl.symm hn2.symm
      obtain ⟨a1, a2, a3, a4, a5, a6⟩ := ned hn2.symm hs hp
      have hae := an_ned hn2.symm ha
      dsimp only
      by_cases cf : TMd_fault e = 0
      · obtain ⟨t1, t2, t3⟩ := s4 cf
        subst t1
        obtain ⟨ht0, k3⟩ := a6 cf
        obtain ⟨k0, k1, k2⟩ := ht0
        have hme := mu_0 a2
        have hb' := BR_E a1 hb
        have hs' := MdE_S a1 hs
        have hkk : f_Bk_kindOf b r = f_Md_kindOf e r := sim_kind hb' k0 k1
        have hvv : f_Bk_valueOf b r = f_Md_valueOf e r := sim_val hb' k0 k1
        have hK := kind_rng hs' k0 k1
        have hphv : PHB (a.toInt + 1) v e := PHB_e (hph hf) s2 s3 a4 a3
        have hfr : FRM (a.toInt + 1) u v d e := FRM_e s2 s3 a4
        have hx1 : (x2 + 1).toInt = x2.toInt + 1 := succ_toInt (by omega)
        have hgo : ∀ (u2 : TRn) (d2 : TMd), MdE e d2 → APk k a d2 → mu d2 ≤ mu e → RR u2 d2 → FRM (a.toInt + 1) v u2 e d2 → (TMd_fault d2 = 0 → PHB (a.toInt + 1) u2 d2) → ARQ (a.toInt + 1) u d (f_Rn_readGoneOnWith_2 oc_ n b u2 (a + 1) (x2 + 1)) (match f_Md_need d2 with | (r, w) => f_Md_asked_5 op m w a r) := by
          intro u2 d2 g1 g2 g3 g4 g5 g6
          obtain ⟨q1, q2, q3, q4⟩ := ih m b u2 d2 a (x2 + 1) (BR_E g1 hb') g2 g4 g6 ⟨by omega, by omega⟩ (by omega) (by omega)
          exact ⟨q1, FRM_t (FRM_t hfr g5 (Int.le_refl _)) q2 (Int.le_refl _), q3, q4⟩
        have hret : ARQ (a.toInt + 1) u d (r, v) (r, e) := ⟨s1, hfr, fun _ => ⟨rfl, hphv, t3⟩, fun h => absurd cf h⟩
        rw [rg_u oc_ ht (hfu.trans hf) hl t2]
        by_cases cm : f_Md_isMacro e r = 0
        · have cm' : f_Ct_isMacro (f_Bk_kindOf b r) = 0 := by
            rw [hkk]
            exact cm
          by_cases c5 : f_Md_kindOf e r = 5
          · rw [ti_5 oc_ (hkk.trans c5), as_5 op cf cm c5, hvv]
            dsimp only
            rw [if_neg (by decide)]
            have hop := ap_opp hae ⟨k0, k1, k2⟩ c5
            have hlv := hopm e (f_Md_valueOf e r) hop
            have hw : 0 ≤ (f_Md_valueOf e r).toInt ∧ (f_Md_valueOf e r).toInt ≤ 10 := by
              have e1 : (4096 : Int32).toInt = 4096 := by decide
              unfold f_Md_kindOf at c5
              unfold f_Md_valueOf
              by_cases c : 4096 ≤ r
              · rw [if_pos c] at c5 ⊢
                rw [i32_le, e1] at c
                have h2 : (r - 4096).toInt = r.toInt - 4096 := by rw [i32_sub (by rw [e1]; omega) (by rw [e1]; omega), e1]
                have h3 := clamp_toInt (x := r - 4096) (by omega)
                exact hb'.2.2.2.2.2.2.2 (r - 4096).toNatClampNeg (by omega) c5
              · rw [if_neg c] at c5
                exact absurd c5 (by decide)
            obtain ⟨o1, o2, o3⟩ := hsim b v e (f_Md_valueOf e r) hb' hop s1 cf hw
            have hoe := hae.2.2.2.2
            exact hgo _ _ hlv.1 (ap_lvs hae hlv (by omega)) hlv.2.2.2 o1 (FRM_w o2 hoe) (fun q => PHB_t hphv (Int.le_refl _) o2 (o3 q))
          · by_cases ck : f_Md_kindOf e r ≤ 5
            · have c6 : ¬ f_Md_kindOf e r = 6 := fun h => by rw [h] at ck; exact absurd ck (by decide)
              have c7 : ¬ f_Md_kindOf e r = 7 := fun h => by rw [h] at ck; exact absurd ck (by decide)
              have c8 : ¬ f_Md_kindOf e r = 8 := fun h => by rw [h] at ck; exact absurd ck (by decide)
              rw [ti_0 oc_ cm' (by rw [hkk]; exact c5) (Or.inl (by rw [hkk]; exact mark_0 c6 c7 c8)), as_r op cf cm c5 (Or.inl ck)]
              dsimp only
              rw [if_pos rfl]
              exact hret
            · have hmk : f_Md_kindOf e r = 6 ∨ f_Md_kindOf e r = 7 ∨ f_Md_kindOf e r = 8 := by
                have e1 : (6 : Int32).toInt = 6 := by decide
                have e2 : (7 : Int32).toInt = 7 := by decide
                have e3 : (8 : Int32).toInt = 8 := by decide
                have e4 : (5 : Int32).toInt = 5 := by decide
                rw [i32_le, e4] at ck
                rw [i32_eq, i32_eq, i32_eq, e1, e2, e3]
                omega
              have hoe := hae.2.2
              have hoc : TRn_openCount v = TMd_open e := s1.2.2.2.1
              have ho20 := a2.2.2.2.2.1
              have ha1 : (a + 1).toInt = a.toInt + 1 := succ_toInt (by omega)
              by_cases co : TMd_open e = a + 1
              · rw [ti_0 oc_ cm' (by rw [hkk]; exact c5) (Or.inr (by rw [hoc, co, i32_le]; exact Int.le_refl _)), as_r op cf cm c5 (Or.inr co)]
                dsimp only
                rw [if_pos rfl]
                exact hret
              · have co' := co
                rw [i32_eq, ha1] at co'
                rw [ti_k oc_ cm' (by rw [hkk]; exact c5) (by rw [hkk]; exact mark_1 hmk) (by rw [hoc, i32_le, ha1]; omega), as_b op cf cm c5 ck co, hkk]
                dsimp only
                rw [if_neg (by decide)]
                have hbp := ap_bp hae
                have hL := Lst_i a2 hbp.2.2
                have hlv := lvs_bel (k := f_Md_kindOf e r) rfl hbp
                obtain ⟨o1, o2, o3⟩ := sim_bel hb' hs' a2 hbp.2.2 s1 cf hmk (hphv (Lst e) (by omega) (by omega))
                exact hgo _ _ hlv.1 (ap_lvs hae hlv (by omega)) hlv.2.2.2 o1 (FRM_w o2 (by omega)) (fun q => PHB_t hphv (by omega) o2 (o3 q))
        · rw [ti_m oc_ (by rw [hkk]; exact cm), as_m op cf cm, hvv]
          dsimp only
          rw [if_neg (by decide)]
          have hmac := isMac cm
          obtain ⟨g1, g2, g3, g4, g5, g6⟩ := goOn rfl hs' a2 ⟨k0, k1, k2⟩ hmac
          have hpl := (k2 (by rcases hmac with q | q; exact Or.inl q; exact Or.inr (Or.inl q))).1
          exact hgo _ _ g1 ⟨MdE_S g1 hs', g2, hae.2.2.1, hae.2.2.2.1, by rw [g3]; exact hae.2.2.2.2⟩ (Int.le_of_eq g5) (sim_goOn s1 a2 hpl) (FRM_e rfl rfl g4) (fun _ => PHB_e hphv rfl rfl g4 g3)
      · have hr1 := s5 cf
        rw [f_Rn_readGoneOnWith_2, if_neg ht, if_pos (hfu.trans hf), hl]
        dsimp only
        rw [if_pos hr1, as_f op _ _ cf]
        exact ⟨s1, FRM_e s2 s3 a4, fun h => absurd h cf, fun _ => hr1⟩
    · rw [f_Rn_readGoneOnWith_2, if_neg ht, if_neg (by rw [hfu]; exact hf), need_f hp hf]
      dsimp only
      have h2 : ¬ TMd_fault (f_Md_fail d 1) = 0 := by
        rw [fail_f0 d 1 hf]
        exact hf
      rw [as_f op _ _ h2]
      exact ⟨sim_fail0 hr 1 hf, FRM_e rfl rfl (fail_open d 1).2.1, fun h => absurd h h2, fun _ => rfl⟩
theorem sim_ask (oc_ : TBk → TRn → Int32 → TRn) (op : TMd → Int32 → TMd) (k : Int) (hopm : ∀ (d : TMd) (w : Int32), OPP k d → LVS 0 d (op d w)) (hsim : ∀ (b : TBk) (u : TRn) (d : TMd) (w : Int32), BR b d → OPP k d → RR u d → TMd_fault d = 0 → (0 ≤ w.toInt ∧ w.toInt ≤ 10) → OPQ u d (oc_ b u w) (op d w)) {b : TBk} {u : TRn} {d : TMd} {a : Int32} (hb : BR b d) (ha : APk k a d) (hr : RR u d) (hph : TMd_fault d = 0 → PHB (a.toInt + 1) u d) : ARQ (a.toInt + 1) u d (f_Rn_readGoneOnWith oc_ b u (a + 1)) (f_Md_asked op d a) := by
  have h1 := mu_0 ha.2.1
  unfold f_Rn_readGoneOnWith f_Md_asked
  exact sim_ask2 oc_ op k hopm hsim TM TM b u d a 0 hb ha hr hph ⟨by rw [e_0]; omega, by rw [e_0]; omega⟩ (by rw [TM_eq]; omega) (by rw [TM_eq]; omega)
