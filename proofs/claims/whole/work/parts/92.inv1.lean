/-- between two calls: the class's run and the reference's -/
def RIv (u : TRn) (d : TMd) : Prop :=
  TRd_rows (TRn_rd u) = TMd_pileRows d ∧ TRd_places (TRn_rd u) = TMd_pilePlaces d ∧ TRd_steps (TRn_rd u) = TMd_steps d ∧ TRn_out u = TMd_out d ∧ TRn_outSize u = TMd_outSize d ∧ TRn_openCount u = TMd_open d ∧ TRn_opened u = TMd_opened d ∧ TRn_mostOpen u = TMd_most d ∧ TRn_skipped u = TMd_skipped d ∧ TRn_fault u = TMd_fault d ∧
  (0 ≤ (TMd_outSize d).toInt ∧ (TMd_outSize d).toInt ≤ 300) ∧ (TMd_hasRun d = 0 → ∀ i : Nat, i < 100 → TRn_decisions u i = -5) ∧ (¬ TMd_hasRun d = 0 → ∀ i : Nat, i < 100 → TRn_decisions u i = TMd_decided d i)
/-- no tokens behind the bodies that were made -/
def ZB (d : TMd) : Prop := ∀ i : Nat, (TMd_bodies d).toInt ≤ (i : Int) → i < 20 → TMd_sizes d i = 0
/-- between two calls -/
def INV (z : TCt) (d : TMd) : Prop := BR (TCt_bk z) d ∧ MdS d ∧ ZB d ∧ RIv (TCt_rn z) d
/-- a call's answer and what it leaves, in the class and in the reference -/
def CQ (p : Int32 × TCt) (q : Int32 × TMd) : Prop := p.1 = q.1 ∧ INV p.2 q.2
theorem BkS_of {z : TCt} {d : TMd} (h : INV z d) : BkS (TCt_bk z) := fun i hi => by
  rw [h.1.2.2.1]
  exact MdS_size h.2.1 hi
theorem RIv_thrown {u : TRn} {d : TMd} (x : Int32) (h : RIv u d) : RIv u (TMd_set_thrown d x) := ⟨h.1, h.2.1, h.2.2.1, h.2.2.2.1, h.2.2.2.2.1, h.2.2.2.2.2.1, h.2.2.2.2.2.2.1, h.2.2.2.2.2.2.2.1, h.2.2.2.2.2.2.2.2.1, h.2.2.2.2.2.2.2.2.2.1, h.2.2.2.2.2.2.2.2.2.2.1, h.2.2.2.2.2.2.2.2.2.2.2.1, h.2.2.2.2.2.2.2.2.2.2.2.2⟩
theorem RIv_kinds {u : TRn} {d : TMd} (x : Nat → Int32) (h : RIv u d) : RIv u (TMd_set_kinds d x) := ⟨h.1, h.2.1, h.2.2.1, h.2.2.2.1, h.2.2.2.2.1, h.2.2.2.2.2.1, h.2.2.2.2.2.2.1, h.2.2.2.2.2.2.2.1, h.2.2.2.2.2.2.2.2.1, h.2.2.2.2.2.2.2.2.2.1, h.2.2.2.2.2.2.2.2.2.2.1, h.2.2.2.2.2.2.2.2.2.2.2.1, h.2.2.2.2.2.2.2.2.2.2.2.2⟩
theorem RIv_values {u : TRn} {d : TMd} (x : Nat → Int32) (h : RIv u d) : RIv u (TMd_set_values d x) := ⟨h.1, h.2.1, h.2.2.1, h.2.2.2.1, h.2.2.2.2.1, h.2.2.2.2.2.1, h.2.2.2.2.2.2.1, h.2.2.2.2.2.2.2.1, h.2.2.2.2.2.2.2.2.1, h.2.2.2.2.2.2.2.2.2.1, h.2.2.2.2.2.2.2.2.2.2.1, h.2.2.2.2.2.2.2.2.2.2.2.1, h.2.2.2.2.2.2.2.2.2.2.2.2⟩
theorem RIv_sizes {u : TRn} {d : TMd} (x : Nat → Int32) (h : RIv u d) : RIv u (TMd_set_sizes d x) := ⟨h.1, h.2.1, h.2.2.1, h.2.2.2.1, h.2.2.2.2.1, h.2.2.2.2.2.1, h.2.2.2.2.2.2.1, h.2.2.2.2.2.2.2.1, h.2.2.2.2.2.2.2.2.1, h.2.2.2.2.2.2.2.2.2.1, h.2.2.2.2.2.2.2.2.2.2.1, h.2.2.2.2.2.2.2.2.2.2.2.1, h.2.2.2.2.2.2.2.2.2.2.2.2⟩
theorem RIv_rows {u : TRn} {d : TMd} (x : Nat → Int32) (h : RIv u d) : RIv u (TMd_set_rows d x) := ⟨h.1, h.2.1, h.2.2.1, h.2.2.2.1, h.2.2.2.2.1, h.2.2.2.2.2.1, h.2.2.2.2.2.2.1, h.2.2.2.2.2.2.2.1, h.2.2.2.2.2.2.2.2.1, h.2.2.2.2.2.2.2.2.2.1, h.2.2.2.2.2.2.2.2.2.2.1, h.2.2.2.2.2.2.2.2.2.2.2.1, h.2.2.2.2.2.2.2.2.2.2.2.2⟩
theorem RIv_bodies {u : TRn} {d : TMd} (x : Int32) (h : RIv u d) : RIv u (TMd_set_bodies d x) := ⟨h.1, h.2.1, h.2.2.1, h.2.2.2.1, h.2.2.2.2.1, h.2.2.2.2.2.1, h.2.2.2.2.2.2.1, h.2.2.2.2.2.2.2.1, h.2.2.2.2.2.2.2.2.1, h.2.2.2.2.2.2.2.2.2.1, h.2.2.2.2.2.2.2.2.2.2.1, h.2.2.2.2.2.2.2.2.2.2.2.1, h.2.2.2.2.2.2.2.2.2.2.2.2⟩
theorem RIv_modes {u : TRn} {d : TMd} (x : Nat → Int32) (h : RIv u d) : RIv u (TMd_set_modes d x) := ⟨h.1, h.2.1, h.2.2.1, h.2.2.2.1, h.2.2.2.2.1, h.2.2.2.2.2.1, h.2.2.2.2.2.2.1, h.2.2.2.2.2.2.2.1, h.2.2.2.2.2.2.2.2.1, h.2.2.2.2.2.2.2.2.2.1, h.2.2.2.2.2.2.2.2.2.2.1, h.2.2.2.2.2.2.2.2.2.2.2.1, h.2.2.2.2.2.2.2.2.2.2.2.2⟩
theorem RIv_ends {u : TRn} {d : TMd} (x : Nat → Int32) (h : RIv u d) : RIv u (TMd_set_ends d x) := ⟨h.1, h.2.1, h.2.2.1, h.2.2.2.1, h.2.2.2.2.1, h.2.2.2.2.2.1, h.2.2.2.2.2.2.1, h.2.2.2.2.2.2.2.1, h.2.2.2.2.2.2.2.2.1, h.2.2.2.2.2.2.2.2.2.1, h.2.2.2.2.2.2.2.2.2.2.1, h.2.2.2.2.2.2.2.2.2.2.2.1, h.2.2.2.2.2.2.2.2.2.2.2.2⟩
theorem INV_thrown {z : TCt} {d : TMd} (h : INV z d) : INV z (TMd_set_thrown d 0) := ⟨BR_E (MdE_thrown d 0) h.1, MdE_S (MdE_thrown d 0) h.2.1, h.2.2.1, RIv_thrown 0 h.2.2.2⟩
theorem CQ_r {z : TCt} {d : TMd} {x y : Int32} (h : INV z d) (hx : x = y) : CQ (x, z) (y, TMd_set_thrown d 0) := ⟨hx, INV_thrown h⟩
theorem inv_told {z : TCt} {d : TMd} (h : INV z d) (x : Int32) : CQ (f_Ct_told z x, z) (f_Md_told d x) := by
  obtain ⟨r1, r2, r3, r4, r5, r6, r7, r8, r9, r10, r11, r12, r13⟩ := h.2.2.2
  unfold f_Ct_told f_Rn_tell f_Md_told f_Rd_stepsMade
  rw [r3, r5, r6, r7, r8, r9, r10]
  by_cases c0 : x = 0
  · rw [if_pos c0, if_pos c0]
    exact CQ_r h rfl
  rw [if_neg c0, if_neg c0]
  by_cases c1 : x = 1
  · rw [if_pos c1, if_pos c1]
    exact CQ_r h rfl
  rw [if_neg c1, if_neg c1]
  by_cases c2 : x = 2
  · rw [if_pos c2, if_pos c2]
    exact CQ_r h rfl
  rw [if_neg c2, if_neg c2]
  by_cases c3 : x = 3
  · rw [if_pos c3, if_pos c3]
    exact CQ_r h rfl
  rw [if_neg c3, if_neg c3]
  by_cases c4 : x = 4
  · rw [if_pos c4, if_pos c4]
    exact CQ_r h rfl
  rw [if_neg c4, if_neg c4]
  by_cases c5 : x = 5
  · rw [if_pos c5, if_pos c5]
    exact CQ_r h rfl
  rw [if_neg c5, if_neg c5]
  by_cases c6 : x = 6
  · rw [if_pos c6, if_pos c6]
    exact CQ_r h rfl
  rw [if_neg c6, if_neg c6]
  exact CQ_r h rfl
theorem in_iff {x a c : Int32} : f_Md_in x a c = 0 ↔ (x < a ∨ c < x) := by
  unfold f_Md_in
  by_cases c1 : x < a
  · rw [if_pos c1]
    exact ⟨fun _ => Or.inl c1, fun _ => rfl⟩
  · rw [if_neg c1]
    by_cases c2 : c < x
    · rw [if_pos c2]
      exact ⟨fun _ => Or.inr c2, fun _ => rfl⟩
    · rw [if_neg c2]
      exact ⟨fun h => absurd h (by decide), fun h => by rcases h with h | h; exact absurd h c1; exact absurd h c2⟩
theorem inv_at {z : TCt} {d : TMd} (h : INV z d) (x : Int32) : CQ (f_Ct_at z x, z) (f_Md_at d x) := by
  obtain ⟨r1, r2, r3, r4, r5, r6, r7, r8, r9, r10, r11, r12, r13⟩ := h.2.2.2
  unfold f_Ct_at f_Rn_putOutAt f_Md_at
  rw [r4, r5]
  have e3 : (300 : Int32).toInt = 300 := by decide
  have hm : (TMd_outSize d - 1).toInt = (TMd_outSize d).toInt - 1 := pred_toInt (by omega)
  by_cases c0 : x < 0
  · rw [if_pos c0, if_pos (in_iff.mpr (Or.inl c0))]
    exact CQ_r h rfl
  · rw [if_neg c0]
    by_cases c1 : TMd_outSize d ≤ x
    · rw [if_pos c1, if_pos (in_iff.mpr (Or.inr (by rw [i32_lt, hm]; rw [i32_le] at c1; omega)))]
      exact CQ_r h rfl
    · have c1' := c1
      rw [i32_le] at c1'
      rw [if_neg c1, if_neg (by rw [i32_le, e3]; omega), if_neg (fun q => by
        rcases in_iff.mp q with q | q
        · exact c0 q
        · rw [i32_lt, hm] at q
          omega)]
      exact CQ_r h rfl
theorem inv_decided {z : TCt} {d : TMd} (h : INV z d) (x : Int32) : CQ (f_Ct_decided z x, z) (f_Md_decided d x) := by
  obtain ⟨r1, r2, r3, r4, r5, r6, r7, r8, r9, r10, r11, r12, r13⟩ := h.2.2.2
  unfold f_Ct_decided f_Rn_decisionOf f_Md_decided
  have e1 : (100 : Int32).toInt = 100 := by decide
  have e9 : (99 : Int32).toInt = 99 := by decide
  by_cases c0 : x < 0
  · rw [if_pos c0, if_pos (show f_Md_in x 0 99 = 0 from in_iff.mpr (Or.inl c0)), ite_self]
    exact CQ_r h rfl
  · rw [if_neg c0]
    by_cases c1 : 100 ≤ x
    · rw [if_pos c1, if_pos (show f_Md_in x 0 99 = 0 from in_iff.mpr (Or.inr (by rw [i32_lt, e9]; rw [i32_le, e1] at c1; omega))), ite_self]
      exact CQ_r h rfl
    · have c1' := c1
      rw [i32_le, e1] at c1'
      have c0' := c0
      rw [i32_lt, e_0] at c0'
      have hc := clamp_toInt (x := x) (by omega)
      rw [if_neg c1, if_neg (show ¬ f_Md_in x 0 99 = 0 from fun q => by
        rcases in_iff.mp q with q | q
        · exact c0 q
        · rw [i32_lt, e9] at q
          omega)]
      by_cases hh : TMd_hasRun d = 0
      · rw [if_pos hh]
        exact CQ_r h (r12 hh _ (by omega))
      · rw [if_neg hh]
        exact CQ_r h (r13 hh _ (by omega))
theorem tok_iff (x : Int32) : f_Ct_isToken x = 0 ↔ f_Md_isToken x = 0 := by
  have e1 : (4096 : Int32).toInt = 4096 := by decide
  have e2 : (4136 : Int32).toInt = 4136 := by decide
  have e3 : (4135 : Int32).toInt = 4135 := by decide
  have hR : f_Md_isToken x = 0 ↔ (x.toInt < 0 ∨ 4135 < x.toInt) := by
    unfold f_Md_isToken
    rw [in_iff, i32_lt, i32_lt, e3, e_0]
  rw [hR]
  unfold f_Ct_isToken f_Ct_isSign f_Ct_isName
  by_cases c0 : x < 0
  · have c2 : x < 4096 := by rw [i32_lt, e1]; rw [i32_lt, e_0] at c0; omega
    rw [if_pos c0, if_pos c2]
    rw [i32_lt, e_0] at c0
    exact ⟨fun _ => Or.inl c0, fun _ => rfl⟩
  · rw [if_neg c0]
    rw [i32_lt, e_0] at c0
    by_cases c1 : 4096 ≤ x
    · rw [if_pos c1, if_pos (show (0 : Int32) = 0 from rfl), if_neg (show ¬ x < 4096 by rw [i32_lt]; rw [i32_le] at c1; omega)]
      by_cases c2 : 4136 ≤ x
      · rw [if_pos c2, if_pos rfl]
        rw [i32_le, e2] at c2
        exact ⟨fun _ => Or.inr (by omega), fun _ => rfl⟩
      · rw [if_neg c2, if_neg (by decide)]
        rw [i32_le, e2] at c2
        exact ⟨fun q => absurd q (by decide), fun q => by omega⟩
    · rw [if_neg c1, if_neg (by decide)]
      rw [i32_le, e1] at c1
      exact ⟨fun q => absurd q (by decide), fun q => by omega⟩
theorem tok_b {x : Int32} (h : ¬ f_Md_isToken x = 0) : 0 ≤ x.toInt ∧ x.toInt ≤ 4135 := by
  have e3 : (4135 : Int32).toInt = 4135 := by decide
  have h1 := in_of h
  rw [e3, e_0] at h1
  exact h1
theorem inv_same {z : TCt} {d : TMd} (h : INV z d) (x y : Int32) : CQ (f_Ct_same z x y, z) (f_Md_same d x y) := by
  unfold f_Ct_same f_Md_same
  by_cases c0 : f_Md_isToken x = 0
  · rw [if_pos ((tok_iff x).mpr c0), if_pos c0]
    exact CQ_r h rfl
  · rw [if_neg (fun q => c0 ((tok_iff x).mp q)), if_neg c0]
    by_cases c1 : f_Md_isToken y = 0
    · rw [if_pos ((tok_iff y).mpr c1), if_pos c1]
      exact CQ_r h rfl
    · have hx := tok_b c0
      have hy := tok_b c1
      have hT := INV_thrown h
      rw [if_neg (fun q => c1 ((tok_iff y).mp q)), if_neg c1, sim_same hT.1 hT.2.1 hx.1 hx.2 hy.1 hy.2]
      by_cases c2 : f_Md_areSame (TMd_set_thrown d 0) x y = 0
      · rw [if_pos c2, if_pos c2]
        exact CQ_r h rfl
      · rw [if_neg c2, if_neg c2]
        exact CQ_r h rfl
theorem inv_clear {z : TCt} {d : TMd} (h : INV z d) : CQ (f_Ct_clear z) (f_Md_clear d) := by
  obtain ⟨hb, hs, hz, hr⟩ := h
  have h20 : (20 : Int32).toNatClampNeg = 20 := rfl
  unfold f_Ct_clear f_Bk_emptyInput f_Md_clear
  dsimp only
  rw [hb.2.2.1, h20]
  refine ⟨rfl, ⟨hb.1, hb.2.1, rfl, hb.2.2.2.1, hb.2.2.2.2.1, hb.2.2.2.2.2.1, fun i j hi hj => ?_, hb.2.2.2.2.2.2.2⟩, ⟨hs.1, fun i hi => ?_, hs.2.2.1, fun i j hi hj hj2 => ?_⟩, fun i hi hi2 => ?_, RIv_sizes _ (RIv_thrown 0 hr)⟩
  · have hj : (j : Int) < (upd (TMd_sizes d) 20 0 i).toInt := hj
    by_cases c : i = 20
    · rw [c, pk_us, e_0] at hj
      omega
    · rw [pk_un c] at hj
      exact hb.2.2.2.2.2.2.1 i j hi hj
  · show 0 ≤ (upd (TMd_sizes d) 20 0 i).toInt ∧ (upd (TMd_sizes d) 20 0 i).toInt ≤ (if i = 20 then 200 else 12)
    by_cases c : i = 20
    · rw [c, pk_us, e_0, if_pos rfl]
      omega
    · rw [pk_un c]
      exact hs.2.1 i hi
  · have hj2 : (j : Int) < (upd (TMd_sizes d) 20 0 i).toInt := hj2
    by_cases c : i = 20
    · rw [c, pk_us, e_0] at hj2
      omega
    · rw [pk_un c] at hj2
      exact hs.2.2.2 i j hi hj hj2
  · show upd (TMd_sizes d) 20 0 i = 0
    rw [pk_un (by omega)]
    exact hz i hi hi2
theorem inv_mode {z : TCt} {d : TMd} (h : INV z d) (x y : Int32) : CQ (f_Ct_mode z x y) (f_Md_mode d x y) := by
  unfold f_Ct_mode f_Ct_turn f_Md_mode
  have e4 : Int32.ofNat 4 = 4 := rfl
  rw [e4]
  have hi := in_03 (r := x) (n := 4) (m := 3) (by decide)
  have hm : TBk_modes (TCt_bk z) = TMd_modes d := h.1.2.2.2.1
  have hz : TCt_set_bk z (TBk_set_modes (TCt_bk z) (TBk_modes (TCt_bk z))) = z := rfl
  by_cases c : x < 0
  · rw [if_pos c, if_pos (hi.mpr (Or.inl c))]
    dsimp only
    rw [hz]
    exact CQ_r h rfl
  · rw [if_neg c]
    by_cases c2 : x < 4
    · rw [if_pos c2, if_neg (fun q => by rcases hi.mp q with q | q; exact c q; exact q c2)]
      dsimp only
      rw [hm]
      obtain ⟨hb, hs, hz, hr⟩ := h
      exact ⟨rfl, ⟨hb.1, hb.2.1, hb.2.2.1, rfl, hb.2.2.2.2.1, hb.2.2.2.2.2.1, hb.2.2.2.2.2.2.1, hb.2.2.2.2.2.2.2⟩, hs, hz, RIv_modes _ (RIv_thrown 0 hr)⟩
    · rw [if_neg c2, if_pos (hi.mpr (Or.inr c2))]
      dsimp only
      rw [hz]
      exact CQ_r h rfl
theorem inv_end {z : TCt} {d : TMd} (h : INV z d) (x y : Int32) : CQ (f_Ct_end z x y) (f_Md_end d x y) := by
  unfold f_Ct_end f_Ct_turn f_Md_end
  have e4 : Int32.ofNat 8 = 8 := rfl
  rw [e4]
  have hi := in_03 (r := x) (n := 8) (m := 7) (by decide)
  have hm : TBk_files (TCt_bk z) = TMd_ends d := h.1.2.2.2.2.1
  have hz : TCt_set_bk z (TBk_set_files (TCt_bk z) (TBk_files (TCt_bk z))) = z := rfl
  by_cases c : x < 0
  · rw [if_pos c, if_pos (hi.mpr (Or.inl c))]
    dsimp only
    rw [hz]
    exact CQ_r h rfl
  · rw [if_neg c]
    by_cases c2 : x < 8
    · rw [if_pos c2, if_neg (fun q => by rcases hi.mp q with q | q; exact c q; exact q c2)]
      dsimp only
      rw [hm]
      obtain ⟨hb, hs, hz, hr⟩ := h
      exact ⟨rfl, ⟨hb.1, hb.2.1, hb.2.2.1, hb.2.2.2.1, rfl, hb.2.2.2.2.2.1, hb.2.2.2.2.2.2.1, hb.2.2.2.2.2.2.2⟩, hs, hz, RIv_ends _ (RIv_thrown 0 hr)⟩
    · rw [if_neg c2, if_pos (hi.mpr (Or.inr c2))]
      dsimp only
      rw [hz]
      exact CQ_r h rfl
theorem inv_body {z : TCt} {d : TMd} (h : INV z d) : CQ (f_Ct_body z) (f_Md_body d) := by
  unfold f_Ct_body f_Bk_addBody f_Md_body
  have hc : TBk_bodyCount (TCt_bk z) = TMd_bodies d := h.1.2.2.2.2.2.1
  have h1 := h.2.1.1
  have hz : TCt_set_bk z (TCt_bk z) = z := rfl
  by_cases c : TMd_bodies d = 20
  · rw [hc, if_neg (by rw [c]; decide), if_pos c]
    dsimp only
    rw [hz]
    exact CQ_r h rfl
  · have c' := c
    rw [i32_eq, e_20] at c'
    have h2 : (TMd_bodies d + 1).toInt = (TMd_bodies d).toInt + 1 := succ_toInt (by omega)
    rw [hc, if_pos (by rw [i32_lt, e_20]; omega), if_neg c]
    dsimp only
    obtain ⟨hb, hs, hz, hr⟩ := h
    refine ⟨rfl, ⟨hb.1, hb.2.1, hb.2.2.1, hb.2.2.2.1, hb.2.2.2.2.1, rfl, hb.2.2.2.2.2.2.1, hb.2.2.2.2.2.2.2⟩, ⟨?_, hs.2.1, fun i hi => ?_, hs.2.2.2⟩, fun i hi hi2 => ?_, RIv_bodies _ (RIv_thrown 0 hr)⟩
    · show 0 ≤ (TMd_bodies d + 1).toInt ∧ (TMd_bodies d + 1).toInt ≤ 20
      omega
    · have h3 := hs.2.2.1 i hi
      refine ⟨h3.1, h3.2.1, fun q => ?_⟩
      have h4 := h3.2.2 q
      show 0 ≤ (TMd_values d i).toInt ∧ (TMd_values d i).toInt < (TMd_bodies d + 1).toInt
      omega
    · have hi : (TMd_bodies d + 1).toInt ≤ (i : Int) := hi
      exact hz i (by omega) hi2
