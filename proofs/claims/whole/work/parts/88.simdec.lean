/-- decide() behind what it writes down -/
noncomputable def tlC (b : TBk) (v : TRn) (w r : Int32) : TRn := if w = 7 then (if r = 0 then v else f_Rn_skip b v r 1) else (if r = 0 then f_Rn_skip b v 0 1 else v)
noncomputable def tlM (e : TMd) (w at_ r : Int32) : TMd := if w = 7 then (if r = 0 then TMd_set_phases e (upd (TMd_phases e) at_.toNatClampNeg 3) else f_Md_skip (TMd_set_phases e (upd (TMd_phases e) at_.toNatClampNeg 3)) 1 0 r) else (if r = 1 then TMd_set_phases e (upd (TMd_phases e) at_.toNatClampNeg 1) else f_Md_skip e 0 0 (-1))
/-- what is written down -/
def wrt (w r : Int32) : Int32 := if w = 7 then (if 0 ≤ r then r + 2 else -1) else r
theorem dcC {b : TBk} {v : TRn} {w x r : Int32} (hx : ¬ x < 0) : f_Rn_decide b v w x r = tlC b (if 100 ≤ x then v else TRn_set_decisions v (upd (TRn_decisions v) x.toNatClampNeg (wrt w r))) w r := by
  unfold f_Rn_decide tlC wrt
  dsimp only
  by_cases c7 : w = 7
  · rw [if_pos c7, if_pos c7, if_pos c7, if_neg hx]
    by_cases c1 : 100 ≤ x
    · rw [if_pos c1, if_pos c1]
    · rw [if_neg c1, if_neg c1]
      by_cases c0 : 0 ≤ r
      · rw [if_pos c0, if_pos c0]
      · rw [if_neg c0, if_neg c0]
  · rw [if_neg c7, if_neg c7, if_neg c7, if_neg hx]
    by_cases c1 : 100 ≤ x
    · rw [if_pos c1, if_pos c1]
    · rw [if_neg c1, if_neg c1]
theorem dcM {op : TMd → Int32 → TMd} {e : TMd} {w x at_ r : Int32} : f_Md_open_s_120 op e w x at_ r = tlM (if 100 ≤ x then e else TMd_set_decided e (upd (TMd_decided e) x.toNatClampNeg (wrt w r))) w at_ r := by
  unfold f_Md_open_s_120 tlM wrt
  dsimp only
  by_cases c7 : w = 7
  · rw [if_pos c7, if_pos c7, if_pos c7]
    by_cases c1 : 100 ≤ x
    · rw [if_pos c1, if_pos c1]
    · rw [if_neg c1, if_neg c1]
      by_cases c0 : 0 ≤ r
      · rw [if_pos c0, if_pos c0]
        all_goals rfl
      · rw [if_neg c0, if_neg c0]
        all_goals rfl
  · rw [if_neg c7, if_neg c7, if_neg c7]
    by_cases c1 : 100 ≤ x
    · rw [if_pos c1, if_pos c1]
    · rw [if_neg c1, if_neg c1]
      all_goals rfl
theorem sim_tl {b : TBk} {v : TRn} {e : TMd} {w at_ r : Int32} (hb : BR b e) (hs : MdS e) (hp : MdP e) (h0 : 0 ≤ at_.toInt) (ho : (TMd_open e).toInt = at_.toInt + 1) (hr : RR v e) (hf : TMd_fault e = 0) (hC : TRn_isCase v (Lst e) = if w = 7 then 1 else 0) (hE : TRn_hadElse v (Lst e) = 0) (hr01 : ¬ w = 7 → r = 0 ∨ r = 1) : RR (tlC b v w r) (tlM e w at_ r) ∧ FRM at_.toInt v (tlC b v w r) e (tlM e w at_ r) ∧ (TMd_fault (tlM e w at_ r) = 0 → PHB at_.toInt (tlC b v w r) (tlM e w at_ r)) := by
  have hL := Lst_i hp (by omega)
  have hat : at_.toNatClampNeg = Lst e := by
    have h1 := clamp_toInt h0
    omega
  have hph : ∀ x : Int32, PHI (TRn_isCase v (Lst e)) (TRn_hadElse v (Lst e)) x → RR v (TMd_set_phases e (upd (TMd_phases e) at_.toNatClampNeg x)) ∧ FRM at_.toInt v v e (TMd_set_phases e (upd (TMd_phases e) at_.toNatClampNeg x)) ∧ (TMd_fault (TMd_set_phases e (upd (TMd_phases e) at_.toNatClampNeg x)) = 0 → PHB at_.toInt v (TMd_set_phases e (upd (TMd_phases e) at_.toNatClampNeg x))) := fun x hx => by
    refine ⟨hr, fun i hi => ⟨rfl, rfl, ?_⟩, fun _ i hi hi2 => ?_⟩
    · show upd (TMd_phases e) at_.toNatClampNeg x i = TMd_phases e i
      exact pk_un (by omega)
    · have hi2 : (i : Int) < (TMd_open e).toInt := hi2
      have h1 : i = Lst e := by omega
      show PHI (TRn_isCase v i) (TRn_hadElse v i) (upd (TMd_phases e) at_.toNatClampNeg x i)
      rw [h1, hat, pk_us]
      exact hx
  unfold tlC tlM
  by_cases c7 : w = 7
  · rw [if_pos c7, if_pos c7]
    rw [if_pos c7] at hC
    by_cases c0 : r = 0
    · rw [if_pos c0, if_pos c0]
      exact hph 3 (Or.inr (Or.inl ⟨rfl, by rw [hC]; decide, hE⟩))
    · rw [if_neg c0, if_neg c0]
      have hB : BR b (TMd_set_phases e (upd (TMd_phases e) at_.toNatClampNeg 3)) := BR_E (MdE_phases e _) hb
      have hS := MdE_S (MdE_phases e (upd (TMd_phases e) at_.toNatClampNeg 3)) hs
      have hP := MdP_phases (upd (TMd_phases e) at_.toNatClampNeg 3) hp
      have hLL : Lst (TMd_set_phases e (upd (TMd_phases e) at_.toNatClampNeg 3)) = Lst e := rfl
      have hO : (TMd_open (TMd_set_phases e (upd (TMd_phases e) at_.toNatClampNeg 3))).toInt = at_.toInt + 1 := ho
      obtain ⟨k1, k2, k3⟩ := sim_sk (P := r) (W := 1) (O := r) (C := 1) (E := 0) hB hS hP (by omega) hr hf (by rw [hLL, hC]) (by rw [hLL, hE]) ⟨fun h => absurd h (by decide), fun h => absurd h c0⟩ (Or.inl rfl)
      rw [hO] at k2 k3
      refine ⟨k1, fun i hi => ?_, fun q => PHB_w (k3 q) (by omega)⟩
      have h3 := k2 i (by omega)
      have h4 : TMd_phases (TMd_set_phases e (upd (TMd_phases e) at_.toNatClampNeg 3)) i = TMd_phases e i := pk_un (by omega)
      exact ⟨h3.1, h3.2.1, h3.2.2.trans h4⟩
  · rw [if_neg c7, if_neg c7]
    rw [if_neg c7] at hC
    rcases hr01 c7 with c0 | c1
    · rw [if_pos c0, if_neg (by rw [c0]; decide)]
      obtain ⟨k1, k2, k3⟩ := sim_sk (P := 0) (W := 1) (O := -1) (C := 0) (E := 0) hb hs hp (by omega) hr hf (by rw [hC]) (by rw [hE]) ⟨fun h => absurd h (by decide), fun h => absurd h (by decide)⟩ (Or.inr rfl)
      rw [ho] at k2 k3
      exact ⟨k1, FRM_w k2 (by omega), fun q => PHB_w (k3 q) (by omega)⟩
    · rw [if_neg (by rw [c1]; decide), if_pos c1]
      exact hph 1 (Or.inl ⟨rfl, hC, hE⟩)
theorem sim_dec {b : TBk} {v : TRn} {e : TMd} {op : TMd → Int32 → TMd} {w x at_ r : Int32} (hb : BR b e) (hs : MdS e) (hp : MdP e) (h0 : 0 ≤ at_.toInt) (ho : (TMd_open e).toInt = at_.toInt + 1) (hr : RR v e) (hf : TMd_fault e = 0) (hC : TRn_isCase v (Lst e) = if w = 7 then 1 else 0) (hE : TRn_hadElse v (Lst e) = 0) (hr01 : ¬ w = 7 → r = 0 ∨ r = 1) (hx : 0 ≤ x.toInt) : RR (f_Rn_decide b v w x r) (f_Md_open_s_120 op e w x at_ r) ∧ FRM at_.toInt v (f_Rn_decide b v w x r) e (f_Md_open_s_120 op e w x at_ r) ∧ (TMd_fault (f_Md_open_s_120 op e w x at_ r) = 0 → PHB at_.toInt (f_Rn_decide b v w x r) (f_Md_open_s_120 op e w x at_ r)) := by
  rw [dcC (by rw [i32_lt, e_0]; omega), dcM]
  by_cases c1 : 100 ≤ x
  · rw [if_pos c1, if_pos c1]
    exact sim_tl hb hs hp h0 ho hr hf hC hE hr01
  · rw [if_neg c1, if_neg c1]
    have h2 : RR (TRn_set_decisions v (upd (TRn_decisions v) x.toNatClampNeg (wrt w r))) (TMd_set_decided e (upd (TMd_decided e) x.toNatClampNeg (wrt w r))) := by
      obtain ⟨h1, h2, h3, h4, h5, h6, h7, h8, h9⟩ := hr
      refine ⟨h1, h2, h3, h4, h5, h6, h7, h8, fun i hi => ?_⟩
      show upd (TRn_decisions v) x.toNatClampNeg (wrt w r) i = upd (TMd_decided e) x.toNatClampNeg (wrt w r) i
      by_cases c : i = x.toNatClampNeg
      · rw [c, pk_us, pk_us]
      · rw [pk_un c, pk_un c]
        exact h9 i hi
    exact sim_tl (v := TRn_set_decisions v (upd (TRn_decisions v) x.toNatClampNeg (wrt w r))) (e := TMd_set_decided e (upd (TMd_decided e) x.toNatClampNeg (wrt w r))) (BR_E (MdE_decided e _) hb) (MdE_S (MdE_decided e _) hs) (MdP_decided _ hp) h0 ho h2 hf hC hE hr01
