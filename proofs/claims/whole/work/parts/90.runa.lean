theorem fill_5 (n0 : Nat) (x1 : Int32) (n : Nat) : ∀ (f : Nat → Int32) (x2 : Int32), (0 ≤ x2.toInt ∧ x2.toInt ≤ 100) → 100 - x2.toInt < (n : Int) → ∀ i : Nat, i < 100 → f_Ar_fill_5 n0 n f x1 x2 100 i = if (i : Int) < x2.toInt then f i else x1 := by
  have e1 : (100 : Int32).toInt = 100 := by decide
  induction n with
  | zero =>
    intro f x2 h1 h2
    omega
  | succ n ih =>
    intro f x2 h1 h2 i hi
    rw [f_Ar_fill_5]
    by_cases c : 100 ≤ x2
    · rw [if_pos c]
      rw [i32_le, e1] at c
      rw [if_pos (by omega)]
    · rw [if_neg c]
      rw [i32_le, e1] at c
      have h3 : (x2 + 1).toInt = x2.toInt + 1 := succ_toInt (by omega)
      have h4 := clamp_toInt h1.1
      rw [ih _ (x2 + 1) ⟨by omega, by omega⟩ (by omega) i hi, h3]
      by_cases c2 : (i : Int) < x2.toInt
      · rw [if_pos (by omega), if_pos c2, pk_un (by omega)]
      · rw [if_neg c2]
        by_cases c3 : i = x2.toNatClampNeg
        · rw [if_pos (by omega), c3, pk_us]
        · rw [if_neg (by omega)]
theorem fill_e (f : Nat → Int32) (x : Int32) (i : Nat) (hi : i < 100) : f_Ar_fill 100 f x i = x := by
  unfold f_Ar_fill
  have e1 : Int32.ofNat 100 = 100 := rfl
  rw [e1, fill_5 100 x (100 + 1) f 0 ⟨by rw [e_0]; omega, by rw [e_0]; omega⟩ (by rw [e_0]; omega) i hi, if_neg (by rw [e_0]; omega)]
theorem ru_67 (op : TMd → Int32 → TMd) (n : Nat) : ∀ (d : TMd) (x : Int32), (0 ≤ x.toInt ∧ x.toInt ≤ 100) → 100 - x.toInt < (n : Int) → (∀ i : Nat, (i : Int) < x.toInt → TMd_decided d i = -5) → ∃ g : Nat → Int32, (∀ i : Nat, i < 100 → g i = -5) ∧ f_Md_run_67 op n d x = (match f_Md_next (TMd_set_hasRun (TMd_set_decided d g) 1) with | (r, v) => f_Md_run_97 op TM v r) := by
  have e1 : (100 : Int32).toInt = 100 := by decide
  induction n with
  | zero =>
    intro d x h1 h2
    omega
  | succ n ih =>
    intro d x h1 h2 h3
    rw [f_Md_run_67]
    by_cases c : 100 ≤ x
    · rw [if_pos c]
      rw [i32_le, e1] at c
      refine ⟨TMd_decided d, fun i hi => h3 i (by omega), rfl⟩
    · rw [if_neg c]
      rw [i32_le, e1] at c
      have h5 : (x + 1).toInt = x.toInt + 1 := succ_toInt (by omega)
      have h4 := clamp_toInt h1.1
      obtain ⟨g, g1, g2⟩ := ih (TMd_set_decided d (upd (TMd_decided d) x.toNatClampNeg (-5))) (x + 1) ⟨by omega, by omega⟩ (by omega) (fun i hi => by
        show upd (TMd_decided d) x.toNatClampNeg (-5) i = -5
        by_cases c3 : i = x.toNatClampNeg
        · rw [c3, pk_us]
        · rw [pk_un c3]
          exact h3 i (by omega))
      exact ⟨g, g1, g2⟩
/-- what a run leaves, in the class and in the reference -/
def RNQ (d : TMd) (p : Int32 × TRn) (q : Int32 × TMd) : Prop := p.1 = q.1 ∧ RR p.2 q.2 ∧ MdE d q.2 ∧ MdP q.2
theorem next_f {d : TMd} (hp : MdP d) (hf : ¬ TMd_fault d = 0) : f_Md_next d = (-1, d) := by
  unfold f_Md_next
  rw [if_neg (fun h => hf (nu_f0 hp h))]
theorem r97_n (op : TMd → Int32 → TMd) {m : Nat} {d : TMd} (hp : MdP d) : f_Md_run_97 op (m + 1) d (-1) = if TMd_fault d = 0 then (if TMd_open d ≤ 0 then (TMd_outSize d, d) else (-(TMd_fault (f_Md_fail d 1)), f_Md_fail d 1)) else (-(TMd_fault d), d) := by
  rw [f_Md_run_97, if_pos (by decide)]
  dsimp only
  by_cases c : TMd_fault d = 0
  · have h7 := fail_7 c 1
    rw [if_pos c, if_pos c, if_pos (f_le c), if_neg (show ¬ TMd_fault (f_Md_fail d 1) ≤ 0 by rw [h7]; decide)]
  · rw [if_neg c, if_neg c, if_neg (fun h => c (nu_f0 hp h))]
theorem sim_53 {oc_ : TBk → TRn → Int32 → TRn} {op : TMd → Int32 → TMd} {m : Nat} {b : TBk} {u : TRn} {d : TMd} (hp : MdP d) (hr : RR u d) : RNQ d (f_Rn_goThroughInput_77 oc_ b u) (f_Md_run_97 op (m + 1) d (-1)) := by
  rw [r97_n op hp]
  unfold f_Rn_goThroughInput_77
  dsimp only
  have ho : TRn_openCount u = TMd_open d := hr.2.2.2.1
  have hz : TRn_outSize u = TMd_outSize d := hr.2.2.1
  rw [RR_f hr, ho, hz]
  by_cases c : TMd_fault d = 0
  · rw [if_pos c, if_pos c]
    by_cases c2 : TMd_open d ≤ 0
    · rw [if_pos c2, if_pos c2]
      exact ⟨rfl, hr, MdE_r d, hp⟩
    · have h1 := sim_fail hr b 1
      have h2 : TRn_fault (f_Rn_fail b u 1) = TMd_fault (f_Md_fail d 1) := RR_f h1
      rw [if_neg c2, if_neg c2, h2, if_neg (fail_ne d (by decide))]
      exact ⟨rfl, h1, MdE_fail d 1, MdP_fail hp (by decide)⟩
  · rw [if_neg c, if_neg c]
    exact ⟨rfl, hr, MdE_r d, hp⟩
theorem RNQ_t {d e : TMd} {p : Int32 × TRn} {q : Int32 × TMd} (h : MdE d e) (h2 : RNQ e p q) : RNQ d p q := ⟨h2.1, h2.2.1, MdE_t h h2.2.2.1, h2.2.2.2⟩
