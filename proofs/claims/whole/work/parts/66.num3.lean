theorem num_67 (op : TMd → Int32 → TMd) (k : Int) (hopm : ∀ (d : TMd) (w : Int32), OPP k d → LVS 0 d (op d w)) (d : TMd) (x1 x2 x3 : Int32) (m : Int) (h1 : APk k x1 d) (h2 : TMd_fault d = 0 → GTok d x3) (h3 : mu d + 1 ≤ m) : NUM k x1 m d (f_Md_number_67 op d x1 x2 x3).2 := by
  unfold f_Md_number_67
  have hd : NUM k x1 m d d := ⟨h1, MdE_r d, by omega⟩
  have hf : NUM k x1 m d (f_Md_fail d 3) := num_fail h1 (by decide) (by omega)
  have hn := num_124 op k hopm TM d x1 x2 x3 0 0 m h1 h2 h3
  dsimp only
  refine num_ite (fun _ => num_ite (fun _ => num_ite (fun _ => num_ite (fun _ => hf) (fun _ => hf)) (fun _ => hn)) (fun _ => num_ite (fun _ => num_ite (fun _ => hd) (fun _ => hd)) (fun _ => num_ite (fun _ => num_ite (fun _ => hf) (fun _ => hf)) (fun _ => hn)))) (fun _ => hd)
theorem num_8 (op : TMd → Int32 → TMd) (k : Int) (hopm : ∀ (d : TMd) (w : Int32), OPP k d → LVS 0 d (op d w)) (n : Nat) : ∀ (d : TMd) (x1 x2 x3 : Int32) (m : Int), APk k x1 d → (TMd_fault d = 0 → GTok d x3) → mu d + 1 ≤ m → NUM k x1 m d (f_Md_number_8 op n d x1 x2 x3).2 := by
  induction n with
  | zero =>
    intro d x1 x2 x3 m h1 h2 h3
    rw [f_Md_number_8]
    exact ⟨h1, MdE_r d, (show mu d ≤ m by omega)⟩
  | succ n ih =>
    intro d x1 x2 x3 m h1 h2 h3
    rw [f_Md_number_8]
    have ht := num_67 op k hopm d x1 x2 x3 m h1 h2 h3
    have hr : ∀ (y : Int32), NUM k x1 m d (match f_Md_asked op d x1 with | (r, v) => f_Md_number_8 op n v x1 y r).2 := fun y => by
      rcases hl : f_Md_asked op d x1 with ⟨r, v⟩
      obtain ⟨b1, b2, b3, b4⟩ := ask_l op k hopm hl.symm h1
      obtain ⟨a1, a2, a3⟩ := ih v x1 y r m b1 b4 (by omega)
      exact ⟨a1, MdE_t b2 a2, a3⟩
    refine num_ite (fun _ => num_ite (fun _ => num_ite (fun _ => ht) (fun _ => num_ite (fun _ => hr 0) (fun _ => hr 1))) (fun _ => num_ite (fun _ => hr 0) (fun _ => hr 1))) (fun _ => ht)
theorem num_l (op : TMd → Int32 → TMd) (k : Int) (hopm : ∀ (d : TMd) (w : Int32), OPP k d → LVS 0 d (op d w)) {d d' : TMd} {a r : Int32} (h : (r, d') = f_Md_number op d a) (h1 : APk k a d) : NUM k a (mu d) d d' := by
  have h0 : NUM k a (mu d) d (f_Md_number op d a).2 := by
    unfold f_Md_number
    rcases hl : f_Md_asked op d a with ⟨r1, v1⟩
    obtain ⟨b1, b2, b3, b4⟩ := ask_l op k hopm hl.symm h1
    dsimp only
    by_cases c : TMd_fault v1 = 0
    · have h2 := ask_lt op k hopm hl.symm h1 c
      obtain ⟨a1, a2, a3⟩ := num_8 op k hopm TM v1 a 0 r1 (mu d) b1 b4 (by omega)
      exact ⟨a1, MdE_t b2 a2, a3⟩
    · obtain ⟨m, hm⟩ : ∃ m, TM = m + 1 := ⟨1000000, TM_eq⟩
      rw [hm, f_Md_number_8, if_neg c]
      unfold f_Md_number_67
      rw [if_neg (fun q => c (nu_f0 b1.2.1 q))]
      exact ⟨b1, b2, b3⟩
  rw [← h] at h0
  exact h0
