theorem sk_ph {d : TMd} (hp : MdP d) (h0 : 0 < (TMd_open d).toInt) : vp_in (TMd_open d - 1) 20 := by
  have h1 := hp.2.2.2.2.1
  rw [vp_in_iff, pred_toInt (by omega)]
  omega
theorem sk_next {d1 d2 : TMd} {r : Int32} {n : Nat} (hs : MdS d1) (hp : MdP d1) (ho : 0 < (TMd_open d1).toInt) (hm : mu d1 < (n : Int)) (h : (r, d2) = f_Md_need d1) : (MdS d2 ∧ MdP d2 ∧ 0 < (TMd_open d2).toInt) ∧ (TMd_fault d2 = 0 → TokIn d2 r ∧ mu d2 + 1 < (n : Int)) ∧ 0 < n := by
  obtain ⟨h1, h2, h3, h4, h5, h6⟩ := ned h hs hp
  have h7 := mu_0 hp
  refine ⟨⟨MdE_S h1 hs, h2, ?_⟩, fun q => ⟨(h6 q).1, ?_⟩, ?_⟩
  · rw [h3]
    exact ho
  · have h8 := (h6 q).2
    omega
  · omega
theorem sk_mu {d : TMd} {n : Nat} {x : Int32} (h : TMd_fault d = 0 → TokIn d x ∧ mu d + 1 < ((n + 1 : Nat) : Int)) (c : TMd_fault d = 0) : mu d < (n : Int) := by
  have h1 := (h c).2
  omega
theorem sk_fp {d v : TMd} {k : Int32} (h : v = f_Md_fail d k) (hk : 0 < k.toInt) (hp : MdP d) (c : TMd_fault v ≤ 0) : False := by
  rw [h] at c
  unfold f_Md_fail at c
  have h1 := hp.2.2.2.1
  by_cases q : TMd_fault d = 0
  · rw [if_pos q, i32_le, e_0] at c
    have c : k.toInt ≤ 0 := c
    omega
  · rw [if_neg q, i32_le, e_0] at c
    have c : (TMd_fault d).toInt ≤ 0 := c
    rw [i32_eq, e_0] at q
    omega
theorem sk_fail {d v : TMd} {k x : Int32} {n : Nat} (h : v = f_Md_fail d k) (hk : 0 < k.toInt) (hs : MdS d) (hp : MdP d) (ho : 0 < (TMd_open d).toInt) (hm : mu d < (n : Int)) : (MdS v ∧ MdP v ∧ 0 < (TMd_open v).toInt) ∧ (TMd_fault v = 0 → TokIn v x ∧ mu v + 1 < (n : Int)) ∧ 0 < n := by
  have h7 := mu_0 hp
  have h8 := fail_open d k
  rw [h]
  refine ⟨⟨MdE_S (MdE_fail d k) hs, MdP_fail hp (by omega), ?_⟩, fun q => absurd q (fail_ne d (fun e => ?_)), ?_⟩
  · rw [h8.1]
    exact ho
  · rw [e, e_0] at hk
    omega
  · omega
theorem sk_tok {d : TMd} {n : Nat} {x : Int32} (h : TMd_fault d = 0 → TokIn d x ∧ mu d + 1 < (n : Int)) (c : TMd_fault d = 0) : x.toInt < 4136 := by
  have h1 := (h c).1.2.1
  omega
