/-- the class's book and the reference: the same meanings, rows, modes and files -/
def BR (b : TBk) (d : TMd) : Prop :=
  TBk_kinds b = TMd_kinds d ∧ TBk_values b = TMd_values d ∧ TBk_sizes b = TMd_sizes d ∧ TBk_modes b = TMd_modes d ∧ TBk_files b = TMd_ends d ∧ TBk_bodyCount b = TMd_bodies d ∧
  (∀ i j : Nat, i < 21 → (j : Int) < (TMd_sizes d i).toInt → TBk_cells b (12 * i + j) = TMd_rows d (200 * i + j)) ∧
  (∀ i : Nat, i < 40 → TMd_kinds d i = 5 → 0 ≤ (TMd_values d i).toInt ∧ (TMd_values d i).toInt ≤ 10)
/-- the class's reader and the reference's pile -/
def RD (r : TRd) (d : TMd) : Prop :=
  TRd_rows r = TMd_pileRows d ∧ TRd_places r = TMd_pilePlaces d ∧ TRd_top r = TMd_pile d - 1 ∧ TRd_kept r = TMd_held d ∧ TRd_steps r = TMd_steps d
/-- what the class's run has to tell, and the reference's -/
def RO (u : TRn) (d : TMd) : Prop :=
  TRn_out u = TMd_out d ∧ TRn_outSize u = TMd_outSize d ∧ TRn_openCount u = TMd_open d ∧ TRn_opened u = TMd_opened d ∧ TRn_mostOpen u = TMd_most d ∧ TRn_skipped u = TMd_skipped d ∧ TRn_fault u = TMd_fault d ∧ (∀ i : Nat, i < 100 → TRn_decisions u i = TMd_decided d i)
def RR (u : TRn) (d : TMd) : Prop := RD (TRn_rd u) d ∧ RO u d
theorem BR_E {b : TBk} {d d' : TMd} (h : MdE d d') (hb : BR b d) : BR b d' := by
  unfold BR
  rw [h.1, h.2.1, h.2.2.1, h.2.2.2.1, h.2.2.2.2.1, h.2.2.2.2.2.1, h.2.2.2.2.2.2.1]
  exact hb
/-- a condition that is decided, in the class and in the reference -/
def PHI (c e p : Int32) : Prop := (p = 1 ∧ c = 0 ∧ e = 0) ∨ (p = 3 ∧ ¬ c = 0 ∧ e = 0) ∨ (p = 2 ∧ ¬ e = 0)
def PHB (lo : Int) (u : TRn) (d : TMd) : Prop := ∀ i : Nat, lo ≤ (i : Int) → (i : Int) < (TMd_open d).toInt → PHI (TRn_isCase u i) (TRn_hadElse u i) (TMd_phases d i)
/-- nothing changed below m -/
def FRM (m : Int) (u v : TRn) (d d' : TMd) : Prop := ∀ i : Nat, (i : Int) < m → TRn_isCase v i = TRn_isCase u i ∧ TRn_hadElse v i = TRn_hadElse u i ∧ TMd_phases d' i = TMd_phases d i
theorem FRM_r (m : Int) (u : TRn) (d : TMd) : FRM m u u d d := fun _ _ => ⟨rfl, rfl, rfl⟩
theorem FRM_t {m m' : Int} {u v w : TRn} {d d' d'' : TMd} (h : FRM m u v d d') (h' : FRM m' v w d' d'') (hm : m ≤ m') : FRM m u w d d'' := fun i hi => ⟨(h' i (by omega)).1.trans (h i hi).1, (h' i (by omega)).2.1.trans (h i hi).2.1, (h' i (by omega)).2.2.trans (h i hi).2.2⟩
theorem FRM_w {m m' : Int} {u v : TRn} {d d' : TMd} (h : FRM m' u v d d') (hm : m ≤ m') : FRM m u v d d' := fun i hi => h i (by omega)
theorem FRM_e {m : Int} {u v : TRn} {d d' : TMd} (h1 : TRn_isCase v = TRn_isCase u) (h2 : TRn_hadElse v = TRn_hadElse u) (h3 : TMd_phases d' = TMd_phases d) : FRM m u v d d' := fun i _ => ⟨by rw [h1], by rw [h2], by rw [h3]⟩
theorem PHB_t {base lo : Int} {u v : TRn} {d d' : TMd} (h : PHB base u d) (h2 : lo ≤ (TMd_open d).toInt) (fr : FRM lo u v d d') (ph : PHB lo v d') : PHB base v d' := fun i hi hi2 => by
  by_cases c : lo ≤ (i : Int)
  · exact ph i c hi2
  · have h3 := fr i (by omega)
    rw [h3.1, h3.2.1, h3.2.2]
    exact h i hi (by omega)
theorem PHB_e {base : Int} {u v : TRn} {d d' : TMd} (h : PHB base u d) (h1 : TRn_isCase v = TRn_isCase u) (h2 : TRn_hadElse v = TRn_hadElse u) (h3 : TMd_phases d' = TMd_phases d) (h4 : TMd_open d' = TMd_open d) : PHB base v d' := by
  unfold PHB
  rw [h1, h2, h3, h4]
  exact h
theorem PHB_w {lo lo' : Int} {u : TRn} {d : TMd} (h : PHB lo u d) (hl : lo ≤ lo') : PHB lo' u d := fun i hi => h i (by omega)
theorem sim_fail {u : TRn} {d : TMd} (h : RR u d) (b : TBk) (q : Int32) : RR (f_Rn_fail b u q) (f_Md_fail d q) := by
  obtain ⟨h1, h2, h3, h4, h5, h6, h7, h8, h9⟩ := h
  unfold f_Rn_fail f_Md_fail
  by_cases c : TMd_fault d = 0
  · rw [if_pos c, if_pos (by rw [h8]; exact c)]
    exact ⟨h1, h2, h3, h4, h5, h6, h7, rfl, h9⟩
  · rw [if_neg c, if_neg (by rw [h8]; exact c)]
    exact ⟨h1, h2, h3, h4, h5, h6, h7, h8, h9⟩
theorem sim_fail0 {u : TRn} {d : TMd} (h : RR u d) (q : Int32) (c : ¬ TMd_fault d = 0) : RR u (f_Md_fail d q) := by
  obtain ⟨h1, h2, h3, h4, h5, h6, h7, h8, h9⟩ := h
  unfold f_Md_fail
  rw [if_neg c]
  exact ⟨h1, h2, h3, h4, h5, h6, h7, h8, h9⟩
theorem fail_ce (b : TBk) (u : TRn) (q : Int32) : TRn_isCase (f_Rn_fail b u q) = TRn_isCase u ∧ TRn_hadElse (f_Rn_fail b u q) = TRn_hadElse u := by
  unfold f_Rn_fail
  by_cases c : TRn_fault u = 0
  · rw [if_pos c]
    exact ⟨rfl, rfl⟩
  · rw [if_neg c]
    exact ⟨rfl, rfl⟩
theorem fail_f0 (d : TMd) (q : Int32) (c : ¬ TMd_fault d = 0) : TMd_fault (f_Md_fail d q) = TMd_fault d := by
  unfold f_Md_fail
  rw [if_neg c]
  rfl
theorem i_nm {t : Int32} (h0 : 0 ≤ t.toInt) (h1 : t.toInt ≤ 4135) : f_Ct_isName t = if 4096 ≤ t then 1 else 0 := by
  unfold f_Ct_isName
  have e1 : (4096 : Int32).toInt = 4096 := by decide
  have e2 : (4136 : Int32).toInt = 4136 := by decide
  by_cases c : 4096 ≤ t
  · rw [if_pos c, if_neg (by rw [i32_lt]; rw [i32_le] at c; omega), if_neg (by rw [i32_le, e2]; omega)]
  · rw [if_neg c, if_pos (by rw [i32_lt]; rw [i32_le] at c; omega)]
theorem sim_kind {b : TBk} {d : TMd} (hb : BR b d) {t : Int32} (h0 : 0 ≤ t.toInt) (h1 : t.toInt ≤ 4135) : f_Bk_kindOf b t = f_Md_kindOf d t := by
  unfold f_Bk_kindOf f_Md_kindOf
  rw [i_nm h0 h1, hb.1]
  by_cases c : 4096 ≤ t
  · rw [if_pos c, if_pos c, if_neg (by decide)]
  · rw [if_neg c, if_neg c, if_pos rfl]
theorem sim_val {b : TBk} {d : TMd} (hb : BR b d) {t : Int32} (h0 : 0 ≤ t.toInt) (h1 : t.toInt ≤ 4135) : f_Bk_valueOf b t = f_Md_valueOf d t := by
  unfold f_Bk_valueOf f_Md_valueOf
  rw [i_nm h0 h1, hb.2.1]
  by_cases c : 4096 ≤ t
  · rw [if_pos c, if_pos c, if_neg (by decide)]
  · rw [if_neg c, if_neg c, if_pos rfl]
theorem sim_size {b : TBk} {d : TMd} (hb : BR b d) {x : Int32} (h0 : 0 ≤ x.toInt) (h1 : x.toInt ≤ 20) : f_Bk_sizeOf b x = TMd_sizes d x.toNatClampNeg := by
  unfold f_Bk_sizeOf
  have e1 : (21 : Int32).toInt = 21 := by decide
  rw [if_neg (by rw [i32_lt, e_0]; omega), if_neg (by rw [i32_le, e1]; omega), hb.2.2.1]
theorem sim_in {b : TBk} {d : TMd} (hb : BR b d) (hs : MdS d) {x y : Int32} (h0 : 0 ≤ x.toInt) (h1 : x.toInt ≤ 20) (h2 : 0 ≤ y.toInt) (h3 : y.toInt < (TMd_sizes d x.toNatClampNeg).toInt) : f_Bk_tokenIn b x y = TMd_rows d (200 * x + y).toNatClampNeg := by
  have e1 : (440 : Int32).toInt = 440 := by decide
  have e21 : (21 : Int32).toInt = 21 := by decide
  have h5 := clamp_toInt h0
  have h6 := clamp_toInt h2
  have h7 := hs.2.1 x.toNatClampNeg (by omega)
  have h8 := MdS_size hs (i := x.toNatClampNeg) (by omega)
  have h9 : (x * 12).toInt = x.toInt * 12 := by rw [i32_mul (by rw [e_12]; omega) (by rw [e_12]; omega), e_12]
  have h10 : (x * 12 + y).toInt = x.toInt * 12 + y.toInt := by rw [i32_add (by rw [h9]; omega) (by rw [h9]; omega), h9]
  have h11 := clamp_toInt (x := x * 12 + y) (by omega)
  have h12 := cellM h0 h1 h2 (by omega)
  have h13 := clamp_toInt (x := 200 * x + y) (by omega)
  have h14 : (TMd_sizes d x.toNatClampNeg).toInt + x.toInt * 12 ≤ 440 := by
    split at h7
    · omega
    · omega
  unfold f_Bk_tokenIn
  rw [hb.2.2.1, if_neg (show ¬ x < 0 by rw [i32_lt, e_0]; omega), if_neg (show ¬ 21 ≤ x by rw [i32_le, e21]; omega), if_neg (show ¬ y < 0 by rw [i32_lt, e_0]; omega), if_pos (show y < TMd_sizes d x.toNatClampNeg by rw [i32_lt]; exact h3), if_neg (by rw [i32_le, e1, h10]; omega)]
  have h15 := hb.2.2.2.2.2.2.1 x.toNatClampNeg y.toNatClampNeg (by omega) (by omega)
  rw [show 12 * x.toNatClampNeg + y.toNatClampNeg = (x * 12 + y).toNatClampNeg by omega, show 200 * x.toNatClampNeg + y.toNatClampNeg = (200 * x + y).toNatClampNeg by omega] at h15
  exact h15
