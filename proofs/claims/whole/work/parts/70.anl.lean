theorem num_t {k : Int} {a : Int32} {m : Int} {d v v' : TMd} (h1 : NUM k a m d v) (h2 : NUM k a (mu v) v v') : NUM k a m d v' := ⟨h2.1, MdE_t h1.2.1 h2.2.1, Int.le_trans h2.2.2 h1.2.2⟩
theorem as_n {k : Int} {a r : Int32} {d v : TMd} (h : ASK k a d v r) : NUM k a (mu d) d v := ⟨h.1, h.2.1, h.2.2.1⟩
theorem ne_n {k : Int} {a r : Int32} {d v : TMd} (h : (r, v) = f_Md_need d) (h1 : APk k a d) : NUM k a (mu d) d v := by
  obtain ⟨b1, b2, b3, b4, b5, b6⟩ := ned h h1.1 h1.2.1
  exact ⟨an_ned h h1, b1, b5⟩
theorem an_l (op : TMd → Int32 → TMd) (k : Int) (hopm : ∀ (d : TMd) (w : Int32), OPP k d → LVS 0 d (op d w)) {d d' : TMd} {w a r : Int32} (h : (r, d') = f_Md_answer op d w a) (h1 : APk k a d) : NUM k a (mu d) d d' := by
  have h0 : NUM k a (mu d) d (f_Md_answer op d w a).2 := by
    unfold f_Md_answer
    have hd : NUM k a (mu d) d d := ⟨h1, MdE_r d, Int.le_refl _⟩
    refine num_ite (fun _ => num_ite (fun _ => ?m2) (fun _ => num_ite (fun _ => ?m3) (fun _ => num_ite (fun _ => hd) (fun _ => num_ite (fun _ => hd) (fun _ => num_ite (fun _ => ?m8) (fun _ => ?mn)))))) (fun _ => ?m0)
    case m2 =>
      rcases hl1 : f_Md_need d with ⟨r1, v1⟩
      have b1 := ne_n hl1.symm h1
      dsimp only
      rcases hl2 : f_Md_need v1 with ⟨r2, v2⟩
      have b2 := num_t b1 (ne_n hl2.symm b1.1)
      dsimp only
      exact num_ite (fun _ => b2) (fun _ => b2)
    case m3 =>
      rcases hl1 : f_Md_number op d a with ⟨r1, v1⟩
      have b1 := num_l op k hopm hl1.symm h1
      dsimp only
      refine num_ite (fun _ => ?_) (fun _ => num_ite (fun _ => b1) (fun _ => b1))
      rcases hl2 : f_Md_askedToken op v1 a with ⟨r2, v2⟩
      have b2 := num_t b1 (as_n (at_l op k hopm hl2.symm b1.1))
      have b3 := num_t b2 (num_fail (q := 4) b2.1 (by decide) (Int.le_refl _))
      dsimp only
      refine num_ite (fun _ => num_ite (fun _ => num_ite (fun _ => ?_) (fun _ => b3)) (fun _ => num_ite (fun _ => ?_) (fun _ => b2))) (fun _ => num_ite (fun _ => b2) (fun _ => b2))
      · rcases hl3 : f_Md_number op (f_Md_fail v2 4) a with ⟨r3, v3⟩
        have b4 := num_t b3 (num_l op k hopm hl3.symm b3.1)
        dsimp only
        repeat' with_reducible refine num_ite (fun _ => ?_) (fun _ => ?_)
        all_goals with_reducible exact b4
      · rcases hl3 : f_Md_number op v2 a with ⟨r3, v3⟩
        have b4 := num_t b2 (num_l op k hopm hl3.symm b2.1)
        dsimp only
        repeat' with_reducible refine num_ite (fun _ => ?_) (fun _ => ?_)
        all_goals with_reducible exact b4
    case m8 =>
      rcases hl1 : f_Md_need d with ⟨r1, v1⟩
      have b1 := ne_n hl1.symm h1
      dsimp only
      repeat' with_reducible refine num_ite (fun _ => ?_) (fun _ => ?_)
      all_goals with_reducible exact b1
    case mn =>
      rcases hl1 : f_Md_number op d a with ⟨r1, v1⟩
      have b1 := num_l op k hopm hl1.symm h1
      have b2 := num_t b1 (num_fail (q := 8) b1.1 (by decide) (Int.le_refl _))
      dsimp only
      repeat' with_reducible refine num_ite (fun _ => ?_) (fun _ => ?_)
      all_goals first
        | with_reducible exact b1
        | with_reducible exact b2
    case m0 =>
      rcases hl1 : f_Md_askedToken op d a with ⟨r1, v1⟩
      have b1 := as_n (at_l op k hopm hl1.symm h1)
      dsimp only
      refine num_ite (fun _ => ?_) (fun _ => b1)
      rcases hl2 : f_Md_askedToken op v1 a with ⟨r2, v2⟩
      have b2 := num_t b1 (as_n (at_l op k hopm hl2.symm b1.1))
      dsimp only
      repeat' with_reducible refine num_ite (fun _ => ?_) (fun _ => ?_)
      all_goals with_reducible exact b2
  rw [← h] at h0
  exact h0
theorem op_in {k : Int} {d d1 d2 d3 d4 : TMd} {y z q : Int32} {g : Nat → Int32} (h : OPP (k - 1) d) (c : ¬ TMd_open d = 20) (ey : y = TMd_opened d + 1) (e1 : d1 = TMd_set_opened d y) (e2 : d2 = TMd_set_phases d1 g) (ez : z = TMd_open d2 + 1) (e3 : d3 = TMd_set_open d2 z) (e4 : d4 = TMd_set_most d3 q) : APk k (TMd_open d) d4 ∧ MdE d d4 ∧ mu d4 = mu d := by
  obtain ⟨h1, h2, h3, h4⟩ := h
  have h5 := h2.2.2.2.2.1
  have h6 := h2.2.2.2.2.2.2
  have h7 := h2.1
  rw [i32_eq, e_20] at c
  have hod : TMd_open d2 = TMd_open d := by
    rw [e2, e1]
    rfl
  have ez1 : z.toInt = (TMd_open d).toInt + 1 := by rw [ez, hod, succ_toInt (by omega)]
  have ey1 : y.toInt = (TMd_opened d).toInt + 1 := by rw [ey, succ_toInt (by omega)]
  have p1 : MdP d1 := by
    rw [e1]
    exact MdP_opened h2 (by omega) (by omega)
  have p2 : MdP d2 := by
    rw [e2]
    exact MdP_phases g p1
  have p3 : MdP d3 := by
    rw [e3]
    exact MdP_open p2 (by omega) (by omega)
  have p4 : MdP d4 := by
    rw [e4]
    exact MdP_most q p3
  have hE : MdE d d4 := by
    refine MdE_t (d' := d1) (by rw [e1]; exact MdE_opened d y) (MdE_t (d' := d2) (by rw [e2]; exact MdE_phases d1 g) (MdE_t (d' := d3) (by rw [e3]; exact MdE_open d2 z) (by rw [e4]; exact MdE_most d3 q)))
  have hm : mu d4 = mu d := by
    rw [e4, mu_most, e3, mu_open, e2, mu_phases, e1, mu_opened]
  have ho : TMd_open d4 = z := by
    rw [e4, e3]
    rfl
  exact ⟨⟨MdE_S hE h1, p4, h5.1, by omega, by rw [ho]; omega⟩, hE, hm⟩
theorem bpP {d d' : TMd} {g : Nat → Int32} (h : MdS d ∧ MdP d ∧ 0 < (TMd_open d).toInt) (e : d' = TMd_set_phases d g) : MdS d' ∧ MdP d' ∧ 0 < (TMd_open d').toInt := by
  rw [e]
  exact ⟨MdE_S (MdE_phases d g) h.1, MdP_phases g h.2.1, h.2.2⟩
theorem bpD {d d' : TMd} {g : Nat → Int32} (h : MdS d ∧ MdP d ∧ 0 < (TMd_open d).toInt) (e : d' = TMd_set_decided d g) : MdS d' ∧ MdP d' ∧ 0 < (TMd_open d').toInt := by
  rw [e]
  exact ⟨MdE_S (MdE_decided d g) h.1, MdP_decided g h.2.1, h.2.2⟩
theorem op_ph {d : TMd} (h : MdP d) (c : ¬ TMd_open d = 20) : vp_in (TMd_open d) 20 := by
  have h5 := h.2.2.2.2.1
  rw [i32_eq, e_20] at c
  exact vp_of h5.1 (by omega)
theorem op_ph2 {d d' : TMd} {y : Int32} (e : d' = TMd_set_opened d y) (h : MdP d) (c : ¬ TMd_open d = 20) : vp_in (TMd_open d') 20 := by
  rw [e]
  exact (op_ph (d := d) h c)
theorem op_lt {d : TMd} (h : MdP d) (c : ¬ TMd_open d = 20) : (TMd_open d).toInt < 20 := by
  have h5 := h.2.2.2.2.1
  rw [i32_eq, e_20] at c
  omega
theorem op_de {x : Int32} (h : 0 ≤ x.toInt) (c : ¬ 100 ≤ x) : vp_in x 100 := by
  have e1 : (100 : Int32).toInt = 100 := by decide
  rw [i32_le, e1] at c
  exact vp_of h (by omega)
theorem op_no {d v : TMd} (h : v = f_Md_fail d 6) (h1 : MdP d) (c : TMd_fault v ≤ 0) : False := by
  rw [h] at c
  exact fail_ne d (by decide) (nu_f0 (MdP_fail h1 (by decide)) c)
