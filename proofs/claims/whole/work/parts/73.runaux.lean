/-- at the head of run's loop -/
def RNC (k : Int) (d : TMd) (x : Int32) (n : Nat) : Prop := MdS d ∧ MdP d ∧ k ≤ 0 ∧ (0 ≤ x.toInt → TokIn d x ∧ mu d + 1 < (n : Int)) ∧ 0 < n
theorem rn_next {k : Int} {v v2 : TMd} {r : Int32} {n : Nat} (h : (r, v2) = f_Md_next v) (hs : MdS v) (hp : MdP v) (hk : k ≤ 0) (hm : mu v < (n : Int)) : RNC k v2 r n := by
  obtain ⟨h1, h2, h3, h4, h5, h6, h7⟩ := nxt h hs hp
  have h8 := mu_0 hp
  refine ⟨MdE_S h1 hs, h2, hk, fun q => ?_, by omega⟩
  have h9 : ¬ r = -1 := fun e => by rw [e, e_m1] at q; omega
  rcases h5 with h5 | h5
  · exact absurd h5 h9
  · exact ⟨h5, by have := h7 h9; omega⟩
theorem rn_x {k : Int} {d : TMd} {x : Int32} {n : Nat} (h : RNC k d x (n + 1)) (c : ¬ x < 0) : TokIn d x ∧ mu d < (n : Int) := by
  rw [i32_lt, e_0] at c
  have h1 := h.2.2.2.1 (by omega)
  exact ⟨h1.1, by have := h1.2; omega⟩
/-- where the next token may be looked at -/
def RNV (d v : TMd) : Prop := MdS v ∧ MdP v ∧ mu v ≤ mu d
theorem rn_go {k : Int} {d v : TMd} {x : Int32} {n : Nat} (h : RNC k d x (n + 1)) (c : ¬ x < 0) (hk : ¬ f_Md_isMacro d x = 0) (hw : v = f_Md_goOnWith d x) : RNV d v := by
  obtain ⟨h1, h2, h3, h4, h5, h6⟩ := goOn hw h.1 h.2.1 (rn_x h c).1 (isMac hk)
  exact ⟨MdE_S h1 h.1, h2, Int.le_of_eq h5⟩
theorem rn_opp {k : Int} {d : TMd} {x : Int32} {n : Nat} (h : RNC k d x (n + 1)) (c : ¬ x < 0) (hk : f_Md_kindOf d x = 5) : OPP k d := ⟨h.1, h.2.1, ((rn_x h c).1.2.2 (Or.inr (Or.inr hk))).2, by have := h.2.1.2.2.2.2.1; have := h.2.2.1; omega⟩
theorem rn_op (op : TMd → Int32 → TMd) (k : Int) (hopm : ∀ (d : TMd) (w : Int32), OPP k d → LVS 0 d (op d w)) {d v : TMd} {x w : Int32} {n : Nat} (h : RNC k d x (n + 1)) (c : ¬ x < 0) (hk : f_Md_kindOf d x = 5) (hw : v = op d w) : RNV d v := by
  have h1 := hopm d w (rn_opp h c hk)
  rw [← hw] at h1
  exact ⟨MdE_S h1.1 h.1, h1.2.1, h1.2.2.2⟩
theorem rn_fail {k : Int} {d v : TMd} {x q : Int32} {n : Nat} (h : RNC k d x n) (hq : 0 ≤ q.toInt) (hw : v = f_Md_fail d q) : RNV d v := by
  rw [hw]
  exact ⟨MdE_S (MdE_fail d q) h.1, MdP_fail h.2.1 hq, Int.le_of_eq (fail_open d q).2.2⟩
theorem rn_bp {k : Int} {d : TMd} {x : Int32} {n : Nat} (h : RNC k d x n) (c : ¬ TMd_open d = 0) : MdS d ∧ MdP d ∧ 0 < (TMd_open d).toInt := by
  have h1 := h.2.1.2.2.2.2.1
  rw [i32_eq, e_0] at c
  exact ⟨h.1, h.2.1, by omega⟩
theorem rn_bel {k : Int} {d v : TMd} {x q : Int32} {n : Nat} (h : RNC k d x n) (c : ¬ TMd_open d = 0) (hw : v = f_Md_belongs d q) : RNV d v := by
  have h1 := lvs_bel hw (rn_bp h c)
  exact ⟨MdE_S h1.1 h.1, h1.2.1, h1.2.2.2⟩
theorem rn_out {k : Int} {d : TMd} {x : Int32} {n : Nat} (h : RNC k d x n) (c : ¬ TMd_outSize d = 300) : vp_in (TMd_outSize d) 300 := by
  have h1 := h.2.1.2.2.2.2.2.1
  have e1 : (300 : Int32).toInt = 300 := by decide
  rw [i32_eq, e1] at c
  exact vp_of h1.1 (by omega)
theorem rn_put {k : Int} {d d1 d2 : TMd} {x y : Int32} {n : Nat} {g : Nat → Int32} (h : RNC k d x n) (c : ¬ TMd_outSize d = 300) (e1 : d1 = TMd_set_out d g) (ey : y = TMd_outSize d1 + 1) (e2 : d2 = TMd_set_outSize d1 y) : RNV d d2 := by
  have h1 := h.2.1.2.2.2.2.2.1
  have e3 : (300 : Int32).toInt = 300 := by decide
  rw [i32_eq, e3] at c
  have h0 : TMd_outSize d1 = TMd_outSize d := by
    rw [e1]
    rfl
  have e4 : y.toInt = (TMd_outSize d).toInt + 1 := by rw [ey, h0, succ_toInt (by omega)]
  have hp := h.2.1
  have p1 : MdP d1 := by
    rw [e1]
    exact ⟨hp.1, hp.2.1, hp.2.2.1, hp.2.2.2.1, hp.2.2.2.2.1, hp.2.2.2.2.2.1, hp.2.2.2.2.2.2⟩
  have p2 : MdP d2 := by
    rw [e2]
    exact ⟨p1.1, p1.2.1, p1.2.2.1, p1.2.2.2.1, p1.2.2.2.2.1, (show 0 ≤ y.toInt ∧ y.toInt ≤ 300 by omega), p1.2.2.2.2.2.2⟩
  have hE : MdE d d2 := MdE_t (d' := d1) (by rw [e1]; exact MdE_out d g) (by rw [e2]; exact MdE_outSize d1 y)
  have hm : mu d2 = mu d := by
    rw [e2, e1]
    rfl
  exact ⟨MdE_S hE h.1, p2, Int.le_of_eq hm⟩
theorem rn_nx {k : Int} {d v v2 : TMd} {x r : Int32} {n : Nat} (h : RNC k d x (n + 1)) (c : ¬ x < 0) (hv : RNV d v) (hw : (r, v2) = f_Md_next v) : RNC k v2 r n := rn_next hw hv.1 hv.2.1 h.2.2.1 (by have := (rn_x h c).2; have := hv.2.2; omega)
theorem rn_0 {d : TMd} (hs : MdS d) (ra pa : Nat → Int32) (hr : ra 0 = 20) (hp : pa 0 = 0) (d' : TMd) (e : MdE d d') (e1 : TMd_pileRows d' = ra) (e2 : TMd_pilePlaces d' = pa) (e3 : TMd_pile d' = 1) (e4 : TMd_held d' = -1) (e5 : TMd_steps d' = 0) (e6 : TMd_fault d' = 0) (e7 : TMd_outSize d' = 0) (e8 : TMd_opened d' = 0) (e9 : TMd_open d' = 0) : MdS d' ∧ MdP d' := by
  have h1 := MdE_S e hs
  refine ⟨h1, ?_, ?_, Or.inl e4, ?_, ?_, ?_, ?_⟩
  · rw [e3, e5, e_1, e_0]
    omega
  · intro i hi
    rw [e3, e_1] at hi
    have h0 : i = 0 := by omega
    rw [h0, e1, e2, hr, hp]
    have h2 := MdS_size h1 (i := (20 : Int32).toNatClampNeg) (by decide)
    rw [e_0, e_20]
    omega
  · rw [e6, e_0]
    omega
  · rw [e9, e_0]
    omega
  · rw [e7, e_0]
    omega
  · rw [e8, e5, e_0]
    omega
theorem ru_E (d : TMd) (g1 g2 : Nat → Int32) : MdE d (TMd_set_open (TMd_set_skipped (TMd_set_most (TMd_set_opened (TMd_set_outSize (TMd_set_fault (TMd_set_steps (TMd_set_held (TMd_set_pile (TMd_set_pilePlaces (TMd_set_pileRows (TMd_set_thrown d 0) g1) g2) 1) (-1)) 0) 0) 0) 0) 0) 0) 0) := MdE_t (MdE_thrown d 0) (MdE_t (MdE_pileRows _ g1) (MdE_t (MdE_pilePlaces _ g2) (MdE_t (MdE_pile _ 1) (MdE_t (MdE_held _ (-1)) (MdE_t (MdE_steps _ 0) (MdE_t (MdE_fault _ 0) (MdE_t (MdE_outSize _ 0) (MdE_t (MdE_opened _ 0) (MdE_t (MdE_most _ 0) (MdE_t (MdE_skipped _ 0) (MdE_open _ 0)))))))))))
theorem ru_0 {d d1 d2 d3 d4 d5 d6 d7 d8 d9 d10 d11 d12 : TMd} {g1 g2 : Nat → Int32} (hs : MdS d) (h1 : g1 0 = 20) (h2 : g2 0 = 0) (e1 : d1 = TMd_set_thrown d 0) (e2 : d2 = TMd_set_pileRows d1 g1) (e3 : d3 = TMd_set_pilePlaces d2 g2) (e4 : d4 = TMd_set_pile d3 1) (e5 : d5 = TMd_set_held d4 (-1)) (e6 : d6 = TMd_set_steps d5 0) (e7 : d7 = TMd_set_fault d6 0) (e8 : d8 = TMd_set_outSize d7 0) (e9 : d9 = TMd_set_opened d8 0) (e10 : d10 = TMd_set_most d9 0) (e11 : d11 = TMd_set_skipped d10 0) (e12 : d12 = TMd_set_open d11 0) : MdS d12 ∧ MdP d12 := by
  subst e1 e2 e3 e4 e5 e6 e7 e8 e9 e10 e11 e12
  exact rn_0 hs g1 g2 h1 h2 _ (ru_E d g1 g2) rfl rfl rfl rfl rfl rfl rfl rfl rfl
theorem de_SP {d d' : TMd} {g : Nat → Int32} (e : d' = TMd_set_decided d g) (h : MdS d ∧ MdP d) : MdS d' ∧ MdP d' := by
  rw [e]
  exact ⟨MdE_S (MdE_decided d g) h.1, MdP_decided g h.2⟩
theorem hr_SP {d d' : TMd} (e : d' = TMd_set_hasRun d 1) (h : MdS d ∧ MdP d) : MdS d' ∧ MdP d' := by
  rw [e]
  exact ⟨MdS_hasRun 1 h.1, MdP_hasRun 1 h.2⟩
