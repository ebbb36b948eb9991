theorem nu_next (op : TMd → Int32 → TMd) (k : Int) (hopm : ∀ (d : TMd) (w : Int32), OPP k d → LVS 0 d (op d w)) {d d2 : TMd} {a r : Int32} {n : Nat} (h : APk k a d) (hm : mu d < (n : Int)) (hw : (r, d2) = f_Md_asked op d a) : APk k a d2 ∧ (TMd_fault d2 = 0 → GTok d2 r ∧ mu d2 + 1 < (n : Int)) ∧ 0 < n := by
  obtain ⟨c1, c2, c3, c4⟩ := ask_l op k hopm hw h
  have h7 := mu_0 h.2.1
  refine ⟨c1, fun q => ⟨c4 q, ?_⟩, by omega⟩
  have h8 := ask_lt op k hopm hw h q
  omega
theorem nu_mu {d : TMd} {n : Nat} {x : Int32} (h : TMd_fault d = 0 → GTok d x ∧ mu d + 1 < ((n + 1 : Nat) : Int)) (c : TMd_fault d = 0) : mu d < (n : Int) := by
  have h1 := (h c).2
  omega
theorem nu_f0 {d : TMd} (hp : MdP d) (c : TMd_fault d ≤ 0) : TMd_fault d = 0 := by
  have h1 := hp.2.2.2.1
  rw [i32_le, e_0] at c
  rw [i32_eq, e_0]
  omega
theorem nu_tok {d : TMd} {x : Int32} (hp : MdP d) (h : TMd_fault d = 0 → GTok d x) (c : TMd_fault d ≤ 0) : x.toInt < 4136 := by
  have h1 := (h (nu_f0 hp c)).2.1
  omega
theorem nu_fail {k : Int} {a q x : Int32} {d v : TMd} {n : Nat} (h : v = f_Md_fail d q) (hq : 0 < q.toInt) (h1 : APk k a d) (hm : mu d < (n : Int)) : APk k a v ∧ (TMd_fault v = 0 → GTok v x ∧ mu v + 1 < (n : Int)) ∧ 0 < n := by
  have h7 := mu_0 h1.2.1
  have h8 := fail_open d q
  rw [h]
  refine ⟨⟨MdE_S (MdE_fail d q) h1.1, MdP_fail h1.2.1 (by omega), h1.2.2.1, h1.2.2.2.1, by rw [h8.1]; exact h1.2.2.2.2⟩, fun e => absurd e (fail_ne d (fun e => ?_)), by omega⟩
  rw [e, e_0] at hq
  omega
theorem nu_TM {d : TMd} (hp : MdP d) : mu d + 1 < (TM : Int) ∧ 0 < TM := by
  have h := mu_0 hp
  rw [TM_eq]
  omega
