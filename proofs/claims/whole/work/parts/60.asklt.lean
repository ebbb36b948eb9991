theorem ask_lt (op : TMd → Int32 → TMd) (k : Int) (hopm : ∀ (d : TMd) (w : Int32), OPP k d → LVS 0 d (op d w)) {d d' : TMd} {a r : Int32} (h : (r, d') = f_Md_asked op d a) (h1 : APk k a d) (hf : TMd_fault d' = 0) : mu d' < mu d := by
  unfold f_Md_asked at h
  rcases hl : f_Md_need d with ⟨r1, v1⟩
  rw [hl] at h
  dsimp only at h
  obtain ⟨b1, b2, b3, b4, b5, b6⟩ := ned hl.symm h1.1 h1.2.1
  by_cases c : TMd_fault v1 = 0
  · obtain ⟨c1, c2, c3, c4⟩ := ask_5 op k hopm TM v1 d' a r1 r ⟨MdE_S b1 h1.1, b2, h1.2.2.1, h1.2.2.2.1, by rw [b3]; exact h1.2.2.2.2⟩ (fun q => (b6 q).1) h
    have h2 := (b6 c).2
    omega
  · obtain ⟨m, hm⟩ : ∃ m, TM = m + 1 := ⟨1000000, TM_eq⟩
    rw [hm, f_Md_asked_5, if_neg c] at h
    cases h
    exact absurd hf c
