theorem lvs_x {d x v : TMd} (h1 : MdE d x) (h3 : TMd_open x = TMd_open d) (h4 : mu x = mu d) (h : LVS 1 x v) : LVS 1 d v := lvs_t h1 h3 (Int.le_of_eq h4) h
theorem op_120 {k : Int} {d : TMd} (op : TMd → Int32 → TMd) (x1 x2 x4 : Int32) {x3 : Int32} (h : APk k x3 d) : LVS 1 d (f_Md_open_s_120 op d x1 x2 x3 x4) := by
  have hb := ap_bp h
  have hd : ∀ g : Nat → Int32, LVS 1 d (TMd_set_phases d g) := fun g => lvs_r (by omega) (MdE_phases d g) (MdP_phases g h.2.1) rfl (Int.le_of_eq (mu_phases d g))
  have hd2 : ∀ g g' : Nat → Int32, LVS 1 d (TMd_set_phases (TMd_set_decided d g) g') := fun g g' => lvs_r (by omega) (MdE_t (MdE_decided d g) (MdE_phases _ g')) (MdP_phases g' (MdP_decided g h.2.1)) rfl (Int.le_of_eq ((mu_phases _ g').trans (mu_decided d g)))
  have s0 : ∀ (x y z : Int32), LVS 1 d (f_Md_skip d x y z) := fun x y z => lvs_sk hb x y z
  have s1 : ∀ (g : Nat → Int32) (x y z : Int32), LVS 1 d (f_Md_skip (TMd_set_phases d g) x y z) := fun g x y z => lvs_x (x := TMd_set_phases d g) (MdE_phases d g) rfl (mu_phases d g) (lvs_sk (d := TMd_set_phases d g) ⟨MdE_S (MdE_phases d g) h.1, MdP_phases g h.2.1, hb.2.2⟩ x y z)
  have s2 : ∀ (g : Nat → Int32) (x y z : Int32), LVS 1 d (f_Md_skip (TMd_set_decided d g) x y z) := fun g x y z => lvs_x (x := TMd_set_decided d g) (MdE_decided d g) rfl (mu_decided d g) (lvs_sk (d := TMd_set_decided d g) ⟨MdE_S (MdE_decided d g) h.1, MdP_decided g h.2.1, hb.2.2⟩ x y z)
  have s3 : ∀ (g g' : Nat → Int32) (x y z : Int32), LVS 1 d (f_Md_skip (TMd_set_phases (TMd_set_decided d g) g') x y z) := fun g g' x y z => lvs_x (x := TMd_set_phases (TMd_set_decided d g) g') (MdE_t (MdE_decided d g) (MdE_phases _ g')) rfl ((mu_phases _ g').trans (mu_decided d g)) (lvs_sk (d := TMd_set_phases (TMd_set_decided d g) g') ⟨MdE_S (MdE_t (MdE_decided d g) (MdE_phases _ g')) h.1, MdP_phases g' (MdP_decided g h.2.1), hb.2.2⟩ x y z)
  unfold f_Md_open_s_120
  dsimp only
  repeat' with_reducible refine lvs_ite (fun _ => ?_) (fun _ => ?_)
  all_goals first
    | with_reducible exact hd _
    | with_reducible exact hd2 _ _
    | with_reducible exact s0 _ _ _
    | with_reducible exact s1 _ _ _ _
    | with_reducible exact s2 _ _ _ _
    | with_reducible exact s3 _ _ _ _ _
theorem op_tail (op : TMd → Int32 → TMd) (k : Int) (hopm : ∀ (d : TMd) (w : Int32), OPP k d → LVS 0 d (op d w)) {d d1 v : TMd} {w r : Int32} (hA : APk k (TMd_open d) d1) (hE : MdE d d1) (hm : mu d1 = mu d) (h : (r, v) = f_Md_answer op d1 w (TMd_open d)) : LVS 0 d v ∧ LVS 0 d (f_Md_fail v 6) ∧ ∀ x1 x2 x4 : Int32, LVS 0 d (f_Md_open_s_120 op v x1 x2 (TMd_open d) x4) := by
  obtain ⟨b1, b2, b3⟩ := an_l op k hopm h hA
  have h5 := b1.2.2.2.2
  have h6 : LVS 0 d v := ⟨MdE_t hE b2, b1.2.1, by omega, by omega⟩
  have h7 := fail_open v 6
  refine ⟨h6, ⟨MdE_t h6.1 (MdE_fail v 6), MdP_fail b1.2.1 (by decide), by rw [h7.1]; exact h6.2.2.1, by rw [h7.2.2]; exact h6.2.2.2⟩, fun x1 x2 x4 => ?_⟩
  have h8 := op_120 op x1 x2 x4 b1
  exact ⟨MdE_t h6.1 h8.1, h8.2.1, by have := h8.2.2.1; omega, by have := h8.2.2.2; omega⟩
theorem op_l (op : TMd → Int32 → TMd) (k : Int) (hopm : ∀ (d : TMd) (w : Int32), OPP k d → LVS 0 d (op d w)) (d : TMd) (w : Int32) (h : OPP (k - 1) d) : LVS 0 d (f_Md_open_s op d w) := by
  unfold f_Md_open_s
  dsimp only
  have h7 := fail_open d 5
  have key : ∀ d4 : TMd, (APk k (TMd_open d) d4 ∧ MdE d d4 ∧ mu d4 = mu d) → LVS 0 d (match f_Md_answer op d4 w (TMd_open d) with | (r_7, v_7) => (if (TMd_fault v_7) = 0 then (if (TMd_open v_7) ≤ ((TMd_open d) + 1) then (if (TMd_fault v_7) ≤ 0 then (f_Md_open_s_120 op v_7 w (TMd_opened d) (TMd_open d) r_7) else v_7) else (let v_12 := f_Md_fail v_7 6; (if (TMd_fault v_12) ≤ 0 then v_12 else v_12))) else (if (TMd_fault v_7) ≤ 0 then v_7 else v_7))) := fun d4 hd => by
    rcases hl : f_Md_answer op d4 w (TMd_open d) with ⟨r, v⟩
    obtain ⟨b1, b2, b3⟩ := op_tail op k hopm hd.1 hd.2.1 hd.2.2 hl.symm
    dsimp only
    exact lvs_ite (fun _ => lvs_ite (fun _ => lvs_ite (fun _ => b3 _ _ _) (fun _ => b1)) (fun _ => lvs_ite (fun _ => b2) (fun _ => b2))) (fun _ => lvs_ite (fun _ => b1) (fun _ => b1))
  refine lvs_ite (fun _ => ⟨MdE_fail d 5, MdP_fail h.2.1 (by decide), by rw [h7.1]; omega, by rw [h7.2.2]; exact Int.le_refl _⟩) (fun c => lvs_ite (fun _ => ?_) (fun _ => ?_))
  · exact key _ (op_in h c rfl rfl rfl rfl rfl rfl)
  · exact key _ (op_in h c rfl rfl rfl rfl rfl rfl)
/-- the reference's open, as far as conditions may be open within one another -/
noncomputable def opM : Nat → TMd → Int32 → TMd
  | 0 => fun d w => f_Md_open_0 d w
  | n + 1 => fun d w => f_Md_open_s (opM n) d w
theorem opM_m (n : Nat) : ∀ (d : TMd) (w : Int32), OPP ((20 : Int) - n) d → LVS 0 d (opM n d w) := by
  induction n with
  | zero =>
    intro d w h
    have h7 := fail_open d 5
    exact ⟨MdE_fail d 5, MdP_fail h.2.1 (by decide), by show _ ≤ (TMd_open (f_Md_fail d 5)).toInt; rw [h7.1]; omega, by show mu (f_Md_fail d 5) ≤ _; rw [h7.2.2]; exact Int.le_refl _⟩
  | succ n ih =>
    intro d w h
    exact op_l (opM n) ((20 : Int) - n) ih d w ⟨h.1, h.2.1, h.2.2.1, by have := h.2.2.2; omega⟩
theorem opM_c (l : Launch) (dC : Nat → ClassId) (dI : Nat → Nat → Nat) (ad : Nat → Nat) (ca : Nat → ClassId) (n : Nat) : ∀ (sz : Nat) (d : TMd) (w : Int32), OPP ((20 : Int) - n) d → wx_Mv l y_Md_open ws_Md_open ({ frames := 1 + n * 8, cells := 0, slots := 0, locals := 21 + n * 187 } : Room) (dC, dI) vwCl (t_M ca) [.ref (ad 16), .int w] (w_M ad ca d) sz (fun v : TMd => w_M ad ca v) (fun v : TMd => v = opM n d w) := by
  induction n with
  | zero =>
    intro sz d w h
    have h2 : TMd_open d = 20 := by
      have h3 := h.2.1.2.2.2.2.1
      have h4 := h.2.2.2
      rw [i32_eq, e_20]
      omega
    exact c_Md_open_0 l dC dI ad ca sz d w h2 _ rfl
  | succ n ih =>
    intro sz d w h
    have h2 := c_Md_open_s l dC dI ad ca (opM n) (1 + n * 8) (21 + n * 187) ((20 : Int) - n) (opM_m n) ih sz d w ⟨h.1, h.2.1, h.2.2.1, by have := h.2.2.2; omega⟩ _ rfl
    rw [show 1 + n * 8 + 8 = 1 + (n + 1) * 8 by omega, show 21 + n * 187 + 187 = 21 + (n + 1) * 187 by omega] at h2
    exact h2
