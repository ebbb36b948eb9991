theorem lvs_sk {d : TMd} (hc : MdS d ∧ MdP d ∧ 0 < (TMd_open d).toInt) (x y z : Int32) : LVS 1 d (f_Md_skip d x y z) := by
  unfold f_Md_skip
  rcases hl : f_Md_need d with ⟨r, v⟩
  obtain ⟨a1, a2, a3, a4, a5, a6⟩ := ned hl.symm hc.1 hc.2.1
  exact lvs_t a1 a3 a5 (lvs_skip _ v _ _ _ _ _ _ ⟨MdE_S a1 hc.1, a2, by rw [a3]; exact hc.2.2⟩)
theorem lvs_bel {d v : TMd} {k : Int32} (h : v = f_Md_belongs d k) (hc : MdS d ∧ MdP d ∧ 0 < (TMd_open d).toInt) : LVS 1 d v := by
  rw [h]
  have hp := lvs_pop hc.2.1 hc.2.2
  have hg : LVS 1 d (f_Md_fail d 2) := lvs_r (by omega) (MdE_fail d 2) (MdP_fail hc.2.1 (by decide)) (fail_open d 2).1 (Int.le_of_eq (fail_open d 2).2.2)
  have hk := fun x y z => lvs_sk hc x y z
  unfold f_Md_belongs
  dsimp only
  repeat' with_reducible refine lvs_ite (fun _ => ?_) (fun _ => ?_)
  all_goals first
    | with_reducible exact hp
    | with_reducible exact hg
    | with_reducible exact hk _ _ _
/-- where the reference may open a condition -/
def OPP (k : Int) (d : TMd) : Prop := MdS d ∧ MdP d ∧ (TMd_opened d).toInt < (TMd_steps d).toInt ∧ k ≤ (TMd_open d).toInt
/-- in an asking -/
def APk (k : Int) (a : Int32) (d : TMd) : Prop := MdS d ∧ MdP d ∧ 0 ≤ a.toInt ∧ k ≤ a.toInt + 1 ∧ a.toInt + 1 ≤ (TMd_open d).toInt
theorem ap_lvs {k : Int} {a : Int32} {d v : TMd} {j : Int} (h : APk k a d) (hl : LVS j d v) (ho : a.toInt + 1 + j ≤ (TMd_open d).toInt) : APk k a v := ⟨MdE_S hl.1 h.1, hl.2.1, h.2.2.1, h.2.2.2.1, by have := hl.2.2.1; omega⟩
theorem ap_next {k : Int} {a r : Int32} {d1 d2 : TMd} {n : Nat} (h1 : APk k a d1) (hm : mu d1 < (n : Int)) (h : (r, d2) = f_Md_need d1) : APk k a d2 ∧ (TMd_fault d2 = 0 → TokIn d2 r ∧ mu d2 + 1 < (n : Int)) ∧ 0 < n := by
  have h2 := sk_next h1.1 h1.2.1 (by have := h1.2.2; omega) hm h
  have h3 := ned h h1.1 h1.2.1
  exact ⟨⟨h2.1.1, h2.1.2.1, h1.2.2.1, h1.2.2.2.1, by rw [h3.2.2.1]; exact h1.2.2.2.2⟩, h2.2⟩
theorem isMac {d : TMd} {t : Int32} (h : ¬ f_Md_isMacro d t = 0) : f_Md_kindOf d t = 2 ∨ f_Md_kindOf d t = 3 := by
  unfold f_Md_isMacro at h
  by_cases c2 : f_Md_kindOf d t = 2
  · exact Or.inl c2
  · rw [if_neg c2] at h
    by_cases c3 : f_Md_kindOf d t = 3
    · exact Or.inr c3
    · rw [if_neg c3] at h
      exact absurd rfl h
theorem ap_go {k : Int} {a t : Int32} {d v : TMd} {n : Nat} (h : APk k a d) (ht : TokIn d t) (hk : f_Md_kindOf d t = 2 ∨ f_Md_kindOf d t = 3) (hm : mu d < (n : Int)) (hw : v = f_Md_goOnWith d t) : APk k a v ∧ mu v < (n : Int) := by
  obtain ⟨h1, h2, h3, h4, h5, h6⟩ := goOn hw h.1 h.2.1 ht hk
  exact ⟨⟨MdE_S h1 h.1, h2, h.2.2.1, h.2.2.2.1, by rw [h3]; exact h.2.2.2.2⟩, by omega⟩
theorem ap_opp {k : Int} {a t : Int32} {d : TMd} (h : APk k a d) (ht : TokIn d t) (hk : f_Md_kindOf d t = 5) : OPP k d := ⟨h.1, h.2.1, (ht.2.2 (Or.inr (Or.inr hk))).2, by have := h.2.2.2; omega⟩
theorem ap_op (op : TMd → Int32 → TMd) (k : Int) (hopm : ∀ (d : TMd) (w : Int32), OPP k d → LVS 0 d (op d w)) {a t w : Int32} {d v : TMd} {n : Nat} (h : APk k a d) (ht : TokIn d t) (hk : f_Md_kindOf d t = 5) (hm : mu d < (n : Int)) (hw : v = op d w) : APk k a v ∧ mu v < (n : Int) := by
  have h1 := hopm d w (ap_opp h ht hk)
  rw [← hw] at h1
  exact ⟨ap_lvs h h1 (by have := h.2.2.2.2; omega), by have := h1.2.2.2; omega⟩
theorem ap_bp {k : Int} {a : Int32} {d : TMd} (h : APk k a d) : MdS d ∧ MdP d ∧ 0 < (TMd_open d).toInt := ⟨h.1, h.2.1, by have := h.2.2; omega⟩
theorem ap_bel {k : Int} {a q : Int32} {d v : TMd} {n : Nat} (h : APk k a d) (c : ¬ TMd_open d = a + 1) (hm : mu d < (n : Int)) (hw : v = f_Md_belongs d q) : APk k a v ∧ mu v < (n : Int) := by
  have h1 := lvs_bel hw (ap_bp h)
  have h2 := h.2.1.2.2.2.2.1
  have h3 := h.2.2
  have h4 : (a + 1).toInt = a.toInt + 1 := succ_toInt (by omega)
  rw [i32_eq, h4] at c
  exact ⟨ap_lvs h h1 (by omega), by have := h1.2.2.2; omega⟩
