theorem r97_m (op : TMd → Int32 → TMd) {m : Nat} {d : TMd} {x : Int32} (hx : ¬ x < 0) (hf : TMd_fault d = 0) (h : ¬ f_Md_isMacro d x = 0) : f_Md_run_97 op (m + 1) d x = match f_Md_next (f_Md_goOnWith d x) with | (r, v) => f_Md_run_97 op m v r := by
  rw [f_Md_run_97, if_neg hx, if_pos hf, if_neg h]
  all_goals rfl
theorem r97_5 (op : TMd → Int32 → TMd) {m : Nat} {d : TMd} {x : Int32} (hx : ¬ x < 0) (hf : TMd_fault d = 0) (h : f_Md_isMacro d x = 0) (h5 : f_Md_kindOf d x = 5) : f_Md_run_97 op (m + 1) d x = match f_Md_next (op d (f_Md_valueOf d x)) with | (r, v) => f_Md_run_97 op m v r := by
  rw [f_Md_run_97, if_neg hx, if_pos hf, if_pos h, if_pos h5]
  all_goals rfl
theorem r97_b0 (op : TMd → Int32 → TMd) {m : Nat} {d : TMd} {x : Int32} (hx : ¬ x < 0) (hf : TMd_fault d = 0) (h : f_Md_isMacro d x = 0) (h5 : ¬ f_Md_kindOf d x = 5) (hk : ¬ f_Md_kindOf d x ≤ 5) (ho : TMd_open d = 0) : f_Md_run_97 op (m + 1) d x = match f_Md_next (f_Md_fail d 2) with | (r, v) => f_Md_run_97 op m v r := by
  rw [f_Md_run_97, if_neg hx, if_pos hf, if_pos h, if_neg h5, if_neg hk, if_pos ho]
  all_goals rfl
theorem r97_b (op : TMd → Int32 → TMd) {m : Nat} {d : TMd} {x : Int32} (hx : ¬ x < 0) (hf : TMd_fault d = 0) (h : f_Md_isMacro d x = 0) (h5 : ¬ f_Md_kindOf d x = 5) (hk : ¬ f_Md_kindOf d x ≤ 5) (ho : ¬ TMd_open d = 0) : f_Md_run_97 op (m + 1) d x = match f_Md_next (f_Md_belongs d (f_Md_kindOf d x)) with | (r, v) => f_Md_run_97 op m v r := by
  rw [f_Md_run_97, if_neg hx, if_pos hf, if_pos h, if_neg h5, if_neg hk, if_neg ho]
  all_goals rfl
theorem r97_9 (op : TMd → Int32 → TMd) {m : Nat} {d : TMd} {x : Int32} (hx : ¬ x < 0) (hf : TMd_fault d = 0) (h : f_Md_isMacro d x = 0) (h5 : ¬ f_Md_kindOf d x = 5) (hk : f_Md_kindOf d x ≤ 5) (ho : TMd_outSize d = 300) : f_Md_run_97 op (m + 1) d x = match f_Md_next (f_Md_fail d 9) with | (r, v) => f_Md_run_97 op m v r := by
  rw [f_Md_run_97, if_neg hx, if_pos hf, if_pos h, if_neg h5, if_pos hk, if_pos ho]
  all_goals rfl
theorem r97_o (op : TMd → Int32 → TMd) {m : Nat} {d : TMd} {x : Int32} (hx : ¬ x < 0) (hf : TMd_fault d = 0) (h : f_Md_isMacro d x = 0) (h5 : ¬ f_Md_kindOf d x = 5) (hk : f_Md_kindOf d x ≤ 5) (ho : ¬ TMd_outSize d = 300) : f_Md_run_97 op (m + 1) d x = match f_Md_next (TMd_set_outSize (TMd_set_out d (upd (TMd_out d) (TMd_outSize d).toNatClampNeg x)) (TMd_outSize d + 1)) with | (r, v) => f_Md_run_97 op m v r := by
  rw [f_Md_run_97, if_neg hx, if_pos hf, if_pos h, if_neg h5, if_pos hk, if_neg ho]
  all_goals rfl
/-- what a turn of run's loop does with a token -/
noncomputable def goT (oc_ : TBk → TRn → Int32 → TRn) (b : TBk) (u : TRn) (t : Int32) : TRn := if t = -2 then f_Rn_fail b u 9 else (match f_Rn_takeIn oc_ b u t 0 with | (r, v) => if r = 0 then f_Rn_putOut b v t else v)
theorem gi_s (oc_ : TBk → TRn → Int32 → TRn) (n : Nat) (b : TBk) (u : TRn) (x1 : Int32) : f_Rn_goThroughInput_13 oc_ (n + 1) b u x1 = if 1000000 ≤ x1 then f_Rn_goThroughInput_77 oc_ b u else (if TRn_fault u = 0 then (match f_Rd_look b (TRn_rd u) with | (r, w) => if r = -1 then f_Rn_goThroughInput_77 oc_ b (TRn_set_rd u w) else f_Rn_goThroughInput_13 oc_ n b (goT oc_ b (TRn_set_rd u w) r) (x1 + 1)) else f_Rn_goThroughInput_77 oc_ b u) := by
  rw [f_Rn_goThroughInput_13]
  by_cases c1 : 1000000 ≤ x1
  · rw [if_pos c1, if_pos c1]
  · rw [if_neg c1, if_neg c1]
    by_cases c2 : TRn_fault u = 0
    · rw [if_pos c2, if_pos c2]
      rcases f_Rd_look b (TRn_rd u) with ⟨r, w⟩
      dsimp only
      by_cases c3 : r = -1
      · rw [if_pos c3, if_pos c3]
      · rw [if_neg c3, if_neg c3]
        unfold goT
        by_cases c4 : r = -2
        · rw [if_pos c4, if_pos c4]
        · rw [if_neg c4, if_neg c4]
          rcases f_Rn_takeIn oc_ b (TRn_set_rd u w) r 0 with ⟨x, v⟩
          dsimp only
          by_cases c5 : x = 0
          · rw [if_pos c5, if_pos c5]
          · rw [if_neg c5, if_neg c5]
    · rw [if_neg c2, if_neg c2]
theorem gt_1 (oc_ : TBk → TRn → Int32 → TRn) {b : TBk} {u v : TRn} {t : Int32} (ht : ¬ t = -2) (h : f_Rn_takeIn oc_ b u t 0 = (1, v)) : goT oc_ b u t = v := by
  unfold goT
  rw [if_neg ht, h]
  dsimp only
  rw [if_neg (by decide)]
theorem gt_0 (oc_ : TBk → TRn → Int32 → TRn) {b : TBk} {u v : TRn} {t : Int32} (ht : ¬ t = -2) (h : f_Rn_takeIn oc_ b u t 0 = (0, v)) : goT oc_ b u t = f_Rn_putOut b v t := by
  unfold goT
  rw [if_neg ht, h]
  dsimp only
  rw [if_pos rfl]
theorem st_out {u : TRn} {d : TMd} (h : RR u d) (t : Int32) : RR (TRn_set_outSize (TRn_set_out u (upd (TRn_out u) (TRn_outSize u).toNatClampNeg t)) (TRn_outSize u + 1)) (TMd_set_outSize (TMd_set_out d (upd (TMd_out d) (TMd_outSize d).toNatClampNeg t)) (TMd_outSize d + 1)) := by
  have h1 : TRn_out u = TMd_out d := h.2.1
  have h2 : TRn_outSize u = TMd_outSize d := h.2.2.1
  rw [h1, h2]
  obtain ⟨h1, h2, h3, h4, h5, h6, h7, h8, h9⟩ := h
  exact ⟨h1, rfl, rfl, h4, h5, h6, h7, h8, h9⟩
theorem MdP_put {d : TMd} {g : Nat → Int32} {y : Int32} (hp : MdP d) (h : 0 ≤ y.toInt ∧ y.toInt ≤ 300) : MdP (TMd_set_outSize (TMd_set_out d g) y) := ⟨hp.1, hp.2.1, hp.2.2.1, hp.2.2.2.1, hp.2.2.2.2.1, h, hp.2.2.2.2.2.2⟩
theorem sim_13 (oc_ : TBk → TRn → Int32 → TRn) (op : TMd → Int32 → TMd) (k : Int) (hopm : ∀ (d : TMd) (w : Int32), OPP k d → LVS 0 d (op d w)) (hsim : ∀ (b : TBk) (u : TRn) (d : TMd) (w : Int32), BR b d → OPP k d → RR u d → TMd_fault d = 0 → (0 ≤ w.toInt ∧ w.toInt ≤ 10) → OPQ u d (oc_ b u w) (op d w)) (hk0 : k ≤ 0) (n : Nat) : ∀ (m : Nat) (b : TBk) (u : TRn) (d : TMd) (x1 : Int32), BR b d → MdS d → MdP d → RR u d → (TMd_fault d = 0 → PHB 0 u d) → (0 ≤ x1.toInt) → 0 < n → 0 < m → (TMd_fault d = 0 → x1.toInt + mu d ≤ 10001 ∧ mu d + 1 < (n : Int) ∧ mu d + 1 < (m : Int)) → RNQ d (f_Rn_goThroughInput_13 oc_ n b u x1) (match f_Md_next d with | (r, v) => f_Md_run_97 op m v r) := by
  induction n with
  | zero =>
    intro m b u d x1 hb hs hp hr hph hx hn hm
    omega
  | succ n ih =>
    intro m b u d x1 hb hs hp hr hph hx hn hm hmu
    rcases m with _ | m
    · omega
    have hm0 := mu_0 hp
    have e6 : (1000000 : Int32).toInt = 1000000 := by decide
    rw [gi_s]
    by_cases cf : TMd_fault d = 0
    · obtain ⟨g1, g2, g3⟩ := hmu cf
      have hx1 : (x1 + 1).toInt = x1.toInt + 1 := succ_toInt (by omega)
      rw [if_neg (by rw [i32_le, e6]; omega), if_pos ((RR_f hr).trans cf)]
      have hk := sim_look hb hs hp hr cf
      rcases hl : f_Rd_look b (TRn_rd u) with ⟨r, w⟩
      rcases hn2 : f_Md_next d with ⟨y, e⟩
      have hx2 := nxt hn2.symm hs hp
      rw [hl, hn2] at hk
      dsimp only
      rcases hk with ⟨z1, z2, d0, z3, k4, k5⟩ | ⟨z1, z2, k3, k4, k5⟩
      · have k1 : r = -2 := z1
        have k2 : y = -1 := z2
        have k3 : e = f_Md_fail d0 9 := z3
        clear z1 z2 z3
        subst k2
        have hz : RR (TRn_set_rd u w) d0 := ⟨k4, k5 u hr.2⟩
        have hz2 := sim_fail hz b 9
        rw [← k3] at hz2
        have hne : ¬ TMd_fault e = 0 := by
          rw [k3]
          exact fail_ne d0 (by decide)
        have hgt : goT oc_ b (TRn_set_rd u w) r = f_Rn_fail b (TRn_set_rd u w) 9 := by
          unfold goT
          rw [if_pos k1]
        rw [if_neg (by rw [k1]; decide), hgt]
        have h1 := ih (m + 1) b (f_Rn_fail b (TRn_set_rd u w) 9) e (x1 + 1) (BR_E hx2.1 hb) (MdE_S hx2.1 hs) hx2.2.1 hz2 (fun h => absurd h hne) (by omega) (by omega) (by omega) (fun h => absurd h hne)
        rw [next_f hx2.2.1 hne] at h1
        exact RNQ_t hx2.1 h1
      · have k1 : ¬ r = -2 := z1
        have k2 : r = y := z2
        clear z1 z2
        subst k2
        have hz : RR (TRn_set_rd u w) e := ⟨k3, k4 u hr.2⟩
        have hb' := BR_E hx2.1 hb
        have hs' := MdE_S hx2.1 hs
        have hp' := hx2.2.1
        by_cases c1 : r = -1
        · rw [if_pos c1]
          subst c1
          exact RNQ_t hx2.1 (sim_53 hp' hz)
        · rw [if_neg c1]
          have ht : TokIn e r := by
            rcases hx2.2.2.2.2.1 with h | h
            · exact absurd h c1
            · exact h
          have hmu2 := hx2.2.2.2.2.2.2 c1
          have hxr : ¬ r < 0 := by
            rw [i32_lt, e_0]
            have := ht.1
            omega
          have cfe : TMd_fault e = 0 := by
            have h7 : TRn_fault u = TMd_fault e := (k4 u hr.2).2.2.2.2.2.2.1
            rw [← h7, RR_f hr]
            exact cf
          obtain ⟨k0, k1', k2'⟩ := ht
          have hkk : f_Bk_kindOf b r = f_Md_kindOf e r := sim_kind hb' k0 k1'
          have hvv : f_Bk_valueOf b r = f_Md_valueOf e r := sim_val hb' k0 k1'
          have hK := kind_rng hs' k0 k1'
          have hphe : PHB 0 (TRn_set_rd u w) e := PHB_e (hph cf) rfl rfl hx2.2.2.2.1 hx2.2.2.1
          have hop0 := hp'.2.2.2.2.1
          have hgo : ∀ (u2 : TRn) (d2 : TMd), MdE e d2 → MdP d2 → mu d2 ≤ mu e → RR u2 d2 → (TMd_fault d2 = 0 → PHB 0 u2 d2) → RNQ d (f_Rn_goThroughInput_13 oc_ n b u2 (x1 + 1)) (match f_Md_next d2 with | (r, v) => f_Md_run_97 op m v r) := by
            intro u2 d2 o1 o2 o3 o4 o5
            exact RNQ_t (MdE_t hx2.1 o1) (ih m b u2 d2 (x1 + 1) (BR_E o1 hb') (MdE_S o1 hs') o2 o4 o5 (by omega) (by omega) (by omega) (fun _ => ⟨by omega, by omega, by omega⟩))
          by_cases cm : f_Md_isMacro e r = 0
          · have cm' : f_Ct_isMacro (f_Bk_kindOf b r) = 0 := by
              rw [hkk]
              exact cm
            by_cases c5 : f_Md_kindOf e r = 5
            · rw [gt_1 oc_ k1 (ti_5 oc_ (hkk.trans c5)), r97_5 op hxr cfe cm c5, hvv]
              have hopp : OPP k e := ⟨hs', hp', (k2' (Or.inr (Or.inr c5))).2, by omega⟩
              have hlv := hopm e (f_Md_valueOf e r) hopp
              have hw : 0 ≤ (f_Md_valueOf e r).toInt ∧ (f_Md_valueOf e r).toInt ≤ 10 := by
                have e1 : (4096 : Int32).toInt = 4096 := by decide
                unfold f_Md_kindOf at c5
                unfold f_Md_valueOf
                by_cases c : 4096 ≤ r
                · rw [if_pos c] at c5 ⊢
                  rw [i32_le, e1] at c
                  have h2 : (r - 4096).toInt = r.toInt - 4096 := by rw [i32_sub (by rw [e1]; omega) (by rw [e1]; omega), e1]
                  have h3 := clamp_toInt (x := r - 4096) (by omega)
                  exact hb'.2.2.2.2.2.2.2 (r - 4096).toNatClampNeg (by omega) c5
                · rw [if_neg c] at c5
                  exact absurd c5 (by decide)
              obtain ⟨o1, o2, o3⟩ := hsim b (TRn_set_rd u w) e (f_Md_valueOf e r) hb' hopp hz cfe hw
              exact hgo _ _ hlv.1 hlv.2.1 hlv.2.2.2 o1 (fun q => PHB_t hphe (Int.le_refl _) o2 (o3 q))
            · by_cases ck : f_Md_kindOf e r ≤ 5
              · have c6 : ¬ f_Md_kindOf e r = 6 := fun h => by rw [h] at ck; exact absurd ck (by decide)
                have c7 : ¬ f_Md_kindOf e r = 7 := fun h => by rw [h] at ck; exact absurd ck (by decide)
                have c8 : ¬ f_Md_kindOf e r = 8 := fun h => by rw [h] at ck; exact absurd ck (by decide)
                have hmk : f_Ct_isMark (f_Bk_kindOf b r) = 0 := by rw [hkk]; exact mark_0 c6 c7 c8
                rw [gt_0 oc_ k1 (ti_0 oc_ cm' (by rw [hkk]; exact c5) (Or.inl hmk))]
                unfold f_Rn_putOut
                rw [if_pos hmk]
                have hz3 : TRn_outSize (TRn_set_rd u w) = TMd_outSize e := hz.2.2.1
                have hob := hp'.2.2.2.2.2.1
                have e3 : (300 : Int32).toInt = 300 := by decide
                rw [hz3, if_neg (by rw [i32_lt, e_0]; omega)]
                by_cases c9 : TMd_outSize e = 300
                · rw [if_neg (by rw [c9]; decide), r97_9 op hxr cfe cm c5 ck c9]
                  have hfl := fail_open e 9
                  exact hgo _ _ (MdE_fail e 9) (MdP_fail hp' (by decide)) (Int.le_of_eq hfl.2.2) (sim_fail hz b 9) (fun q => absurd q (fail_ne e (by decide)))
                · have c9' := c9
                  rw [i32_eq, e3] at c9'
                  have hy : (TMd_outSize e + 1).toInt = (TMd_outSize e).toInt + 1 := succ_toInt (by omega)
                  rw [if_pos (by rw [i32_lt, e3]; omega), r97_o op hxr cfe cm c5 ck c9]
                  have hst := st_out hz r
                  rw [hz3] at hst
                  exact hgo _ _ (MdE_t (MdE_out e _) (MdE_outSize _ _)) (MdP_put hp' ⟨by omega, by omega⟩) (Int.le_refl _) hst (fun _ => PHB_e hphe rfl rfl rfl rfl)
              · have hmk : f_Md_kindOf e r = 6 ∨ f_Md_kindOf e r = 7 ∨ f_Md_kindOf e r = 8 := by
                  have e1 : (6 : Int32).toInt = 6 := by decide
                  have e2 : (7 : Int32).toInt = 7 := by decide
                  have e3 : (8 : Int32).toInt = 8 := by decide
                  have e4 : (5 : Int32).toInt = 5 := by decide
                  rw [i32_le, e4] at ck
                  rw [i32_eq, i32_eq, i32_eq, e1, e2, e3]
                  omega
                have hmk1 : ¬ f_Ct_isMark (f_Bk_kindOf b r) = 0 := by rw [hkk]; exact mark_1 hmk
                have hoc : TRn_openCount (TRn_set_rd u w) = TMd_open e := hz.2.2.2.1
                by_cases co : TMd_open e = 0
                · rw [gt_0 oc_ k1 (ti_0 oc_ cm' (by rw [hkk]; exact c5) (Or.inr (by rw [hoc, co]; decide)))]
                  unfold f_Rn_putOut
                  rw [if_neg hmk1, r97_b0 op hxr cfe cm c5 ck co]
                  have hfl := fail_open e 2
                  exact hgo _ _ (MdE_fail e 2) (MdP_fail hp' (by decide)) (Int.le_of_eq hfl.2.2) (sim_fail hz b 2) (fun q => absurd q (fail_ne e (by decide)))
                · have co' := co
                  rw [i32_eq, e_0] at co'
                  have hbp : MdS e ∧ MdP e ∧ 0 < (TMd_open e).toInt := ⟨hs', hp', by omega⟩
                  have hL := Lst_i hp' hbp.2.2
                  rw [gt_1 oc_ k1 (ti_k oc_ cm' (by rw [hkk]; exact c5) hmk1 (by rw [hoc, i32_le, e_0]; omega)), r97_b op hxr cfe cm c5 ck co, hkk]
                  have hlv := lvs_bel (k := f_Md_kindOf e r) rfl hbp
                  obtain ⟨o1, o2, o3⟩ := sim_bel hb' hs' hp' hbp.2.2 hz cfe hmk (hphe (Lst e) (by omega) (by omega))
                  exact hgo _ _ hlv.1 hlv.2.1 hlv.2.2.2 o1 (fun q => PHB_t hphe (by omega) o2 (o3 q))
          · rw [gt_1 oc_ k1 (ti_m oc_ (by rw [hkk]; exact cm)), r97_m op hxr cfe cm, hvv]
            have hmac := isMac cm
            obtain ⟨q1, q2, q3, q4, q5, q6⟩ := goOn rfl hs' hp' ⟨k0, k1', k2'⟩ hmac
            have hpl := (k2' (by rcases hmac with q | q; exact Or.inl q; exact Or.inr (Or.inl q))).1
            exact hgo _ _ q1 q2 (Int.le_of_eq q5) (sim_goOn hz hp' hpl) (fun _ => PHB_e hphe rfl rfl q4 q3)
    · have h1 : ∀ z : Int32 × TRn, (if TRn_fault u = 0 then z else f_Rn_goThroughInput_77 oc_ b u) = f_Rn_goThroughInput_77 oc_ b u := fun z => if_neg (by rw [RR_f hr]; exact cf)
      rw [h1, ite_self, next_f hp cf]
      exact sim_53 hp hr
