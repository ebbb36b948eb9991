theorem nd_hi {d d' : TMd} {r : Int32} (h : (r, d') = f_Md_need d) (hs : MdS d) (hp : MdP d) : r.toInt < 4136 := by
  unfold f_Md_need at h
  rcases hl : f_Md_next d with ⟨r1, d1⟩
  rw [hl] at h
  dsimp only at h
  obtain ⟨h1, h2, h3, h4, h5, h6, h7⟩ := nxt hl.symm hs hp
  have h8 : r1.toInt < 4136 := by
    rcases h5 with h5 | h5
    · rw [h5, e_m1]
      omega
    · have := h5.2.1
      omega
  by_cases c : 0 ≤ r1
  · rw [if_pos c] at h
    cases h
    exact h8
  · rw [if_neg c] at h
    cases h
    exact h8
theorem ask_ite {k : Int} {a : Int32} {d : TMd} {c : Prop} [Decidable c] {p q : Int32 × TMd} (h1 : c → ASK k a d p.2 p.1) (h2 : ¬ c → ASK k a d q.2 q.1) : ASK k a d (if c then p else q).2 (if c then p else q).1 := by
  by_cases h : c
  · rw [if_pos h]
    exact h1 h
  · rw [if_neg h]
    exact h2 h
theorem ask_fail {k : Int} {a q r r' : Int32} {d d' : TMd} (h : ASK k a d d' r) (hq : 0 < q.toInt) : ASK k a d (f_Md_fail d' q) r' := by
  have h8 := num_fail (q := q) (m := mu d) h.1 (by omega) h.2.2.1
  refine ⟨h8.1, MdE_t h.2.1 h8.2.1, h8.2.2, fun e => absurd e (fail_ne d' (fun e => ?_))⟩
  rw [e, e_0] at hq
  omega
theorem at_l (op : TMd → Int32 → TMd) (k : Int) (hopm : ∀ (d : TMd) (w : Int32), OPP k d → LVS 0 d (op d w)) {d d' : TMd} {a r : Int32} (h : (r, d') = f_Md_askedToken op d a) (h1 : APk k a d) : ASK k a d d' r := by
  have h0 : ASK k a d (f_Md_askedToken op d a).2 (f_Md_askedToken op d a).1 := by
    unfold f_Md_askedToken
    rcases hl : f_Md_asked op d a with ⟨r1, v1⟩
    have hb := ask_l op k hopm hl.symm h1
    have hf := fun r' : Int32 => ask_fail (q := 6) (r' := r') hb (by decide)
    have hn : ¬ TMd_fault v1 ≤ 0 → ASK k a d v1 (-1) := fun c => ⟨hb.1, hb.2.1, hb.2.2.1, fun e => absurd (by rw [e]; decide) c⟩
    dsimp only
    refine ask_ite (fun _ => ask_ite (fun _ => ask_ite (fun _ => hb) (fun c => hn c)) (fun _ => ask_ite (fun _ => hf _) (fun _ => hf _))) (fun _ => ask_ite (fun _ => hb) (fun c => hn c))
  rw [← h] at h0
  exact h0
theorem an_tok {k : Int} {a r : Int32} {d d' : TMd} (h : ASK k a d d' r) (c : TMd_fault d' ≤ 0) : r.toInt < 4136 := by
  have h1 := (h.2.2.2 (nu_f0 h.1.2.1 c)).2.1
  omega
