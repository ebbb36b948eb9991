theorem num_124 (op : TMd → Int32 → TMd) (k : Int) (hopm : ∀ (d : TMd) (w : Int32), OPP k d → LVS 0 d (op d w)) (n : Nat) : ∀ (d : TMd) (x1 x2 x3 x4 x5 : Int32) (m : Int), APk k x1 d → (TMd_fault d = 0 → GTok d x3) → mu d + 1 ≤ m → NUM k x1 m d (f_Md_number_124 op n d x1 x2 x3 x4 x5).2 := by
  induction n with
  | zero =>
    intro d x1 x2 x3 x4 x5 m h1 h2 h3
    rw [f_Md_number_124]
    exact ⟨h1, MdE_r d, (show mu d ≤ m by omega)⟩
  | succ n ih =>
    intro d x1 x2 x3 x4 x5 m h1 h2 h3
    rw [f_Md_number_124]
    have hd : NUM k x1 m d d := ⟨h1, MdE_r d, by omega⟩
    have hf := num_fail (q := 8) (m := mu d) h1 (by decide) (Int.le_refl _)
    dsimp only
    refine num_ite (fun c0 => num_ite (fun c1 => ?_) (fun c1 => num_ite (fun c2 => ?_) (fun c2 => ?_))) (fun c0 => num_ite (fun _ => hd) (fun _ => hd))
    · have hg := num_held h1 (Or.inr (h2 c0)) h3
      have hb := num_held (t := -1) h1 (Or.inl rfl) h3
      exact num_ite (fun _ => num_ite (fun _ => hg) (fun _ => hg)) (fun _ => num_ite (fun _ => num_ite (fun _ => hb) (fun _ => hb)) (fun _ => num_ite (fun _ => hg) (fun _ => hg)))
    · obtain ⟨a1, a2, a3⟩ := ih (f_Md_fail d 8) x1 x2 x3 x4 (x5 + 1) m hf.1 (fun q => absurd q (fail_ne d (by decide))) (by have := hf.2.2; omega)
      exact ⟨a1, MdE_t hf.2.1 a2, a3⟩
    · rcases hl : f_Md_asked op d x1 with ⟨r, v⟩
      obtain ⟨b1, b2, b3, b4⟩ := ask_l op k hopm hl.symm h1
      obtain ⟨a1, a2, a3⟩ := ih v x1 x2 r (((10 * x4) + x3) - 3120) (x5 + 1) m b1 b4 (by omega)
      exact ⟨a1, MdE_t b2 a2, a3⟩
