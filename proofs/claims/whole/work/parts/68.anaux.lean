theorem an_fail {k : Int} {a q : Int32} {d v : TMd} (h : v = f_Md_fail d q) (hq : 0 ≤ q.toInt) (h1 : APk k a d) : APk k a v := by
  rw [h]
  exact (num_fail (q := q) (m := mu d) h1 hq (Int.le_refl _)).1
theorem an_ned {k : Int} {a r : Int32} {d v : TMd} (h : (r, v) = f_Md_need d) (h1 : APk k a d) : APk k a v := by
  obtain ⟨b1, b2, b3, b4, b5, b6⟩ := ned h h1.1 h1.2.1
  exact ⟨MdE_S b1 h1.1, b2, h1.2.2.1, h1.2.2.2.1, by rw [b3]; exact h1.2.2.2.2⟩
