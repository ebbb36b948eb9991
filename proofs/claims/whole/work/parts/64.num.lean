/-- what number() leaves -/
def NUM (k : Int) (a : Int32) (m : Int) (d d' : TMd) : Prop := APk k a d' ∧ MdE d d' ∧ mu d' ≤ m
theorem num_held {k : Int} {a t : Int32} {d : TMd} {m : Int} (h : APk k a d) (ht : t = -1 ∨ GTok d t) (hm : mu d + 1 ≤ m) : NUM k a m d (TMd_set_held d t) := by
  refine ⟨⟨h.1, ⟨h.2.1.1, h.2.1.2.1, ?_, h.2.1.2.2.2⟩, h.2.2⟩, MdE_r d, ?_⟩
  · exact ht
  · have h1 : (TMd_steps (TMd_set_held d t)).toInt = (TMd_steps d).toInt := rfl
    unfold mu at hm ⊢
    rw [h1]
    split
    · split at hm
      · omega
      · omega
    · split at hm
      · omega
      · omega
theorem num_ite {k : Int} {a : Int32} {m : Int} {d : TMd} {c : Prop} [Decidable c] {p q : Int32 × TMd} (h1 : c → NUM k a m d p.2) (h2 : ¬ c → NUM k a m d q.2) : NUM k a m d (if c then p else q).2 := by
  by_cases h : c
  · rw [if_pos h]
    exact h1 h
  · rw [if_neg h]
    exact h2 h
theorem num_fail {k : Int} {a q : Int32} {m : Int} {d : TMd} (h : APk k a d) (hq : 0 ≤ q.toInt) (hm : mu d ≤ m) : NUM k a m d (f_Md_fail d q) := by
  have h8 := fail_open d q
  exact ⟨⟨MdE_S (MdE_fail d q) h.1, MdP_fail h.2.1 hq, h.2.2.1, h.2.2.2.1, by rw [h8.1]; exact h.2.2.2.2⟩, MdE_fail d q, by rw [h8.2.2]; exact hm⟩
