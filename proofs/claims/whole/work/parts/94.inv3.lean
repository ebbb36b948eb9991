theorem mM_0 {d : TMd} {p0 v : Int32} (h : ¬ f_Md_in p0 0 39 = 0) : f_Md_meaning d p0 0 v = if v = 0 then (1, TMd_set_values (TMd_set_kinds (TMd_set_thrown d 0) (upd (TMd_kinds d) p0.toNatClampNeg 0)) (upd (TMd_values d) p0.toNatClampNeg v)) else (-2, TMd_set_thrown d 0) := by
  have a1 : f_Md_in 0 2 3 = 0 := by decide
  have a2 : f_Md_in 0 0 8 = 1 := by decide
  unfold f_Md_meaning
  rw [if_neg h]
  simp +decide only [a1, a2, ↓reduceIte, ite_self]
theorem mM_6 {d : TMd} {p0 v : Int32} (h : ¬ f_Md_in p0 0 39 = 0) : f_Md_meaning d p0 6 v = if v = 0 then (1, TMd_set_values (TMd_set_kinds (TMd_set_thrown d 0) (upd (TMd_kinds d) p0.toNatClampNeg 6)) (upd (TMd_values d) p0.toNatClampNeg v)) else (-2, TMd_set_thrown d 0) := by
  have a1 : f_Md_in 6 2 3 = 0 := by decide
  have a2 : f_Md_in 6 0 8 = 1 := by decide
  unfold f_Md_meaning
  rw [if_neg h]
  simp +decide only [a1, a2, ↓reduceIte, ite_self]
theorem mM_7 {d : TMd} {p0 v : Int32} (h : ¬ f_Md_in p0 0 39 = 0) : f_Md_meaning d p0 7 v = if v = 0 then (1, TMd_set_values (TMd_set_kinds (TMd_set_thrown d 0) (upd (TMd_kinds d) p0.toNatClampNeg 7)) (upd (TMd_values d) p0.toNatClampNeg v)) else (-2, TMd_set_thrown d 0) := by
  have a1 : f_Md_in 7 2 3 = 0 := by decide
  have a2 : f_Md_in 7 0 8 = 1 := by decide
  unfold f_Md_meaning
  rw [if_neg h]
  simp +decide only [a1, a2, ↓reduceIte, ite_self]
theorem mM_8 {d : TMd} {p0 v : Int32} (h : ¬ f_Md_in p0 0 39 = 0) : f_Md_meaning d p0 8 v = if v = 0 then (1, TMd_set_values (TMd_set_kinds (TMd_set_thrown d 0) (upd (TMd_kinds d) p0.toNatClampNeg 8)) (upd (TMd_values d) p0.toNatClampNeg v)) else (-2, TMd_set_thrown d 0) := by
  have a1 : f_Md_in 8 2 3 = 0 := by decide
  have a2 : f_Md_in 8 0 8 = 1 := by decide
  unfold f_Md_meaning
  rw [if_neg h]
  simp +decide only [a1, a2, ↓reduceIte, ite_self]
theorem mM_1 {d : TMd} {p0 v : Int32} (h : ¬ f_Md_in p0 0 39 = 0) : f_Md_meaning d p0 1 v = if f_Md_in v 0 4095 = 0 then (-2, TMd_set_thrown d 0) else (1, TMd_set_values (TMd_set_kinds (TMd_set_thrown d 0) (upd (TMd_kinds d) p0.toNatClampNeg 1)) (upd (TMd_values d) p0.toNatClampNeg v)) := by
  have a1 : f_Md_in 1 2 3 = 0 := by decide
  have a2 : f_Md_in 1 0 8 = 1 := by decide
  unfold f_Md_meaning
  rw [if_neg h]
  simp +decide only [a1, a2, ↓reduceIte, ite_self]
theorem mM_4 {d : TMd} {p0 v : Int32} (h : ¬ f_Md_in p0 0 39 = 0) : f_Md_meaning d p0 4 v = if f_Md_in v (-999999999) 999999999 = 0 then (-2, TMd_set_thrown d 0) else (1, TMd_set_values (TMd_set_kinds (TMd_set_thrown d 0) (upd (TMd_kinds d) p0.toNatClampNeg 4)) (upd (TMd_values d) p0.toNatClampNeg v)) := by
  have a1 : f_Md_in 4 2 3 = 0 := by decide
  have a2 : f_Md_in 4 0 8 = 1 := by decide
  unfold f_Md_meaning
  rw [if_neg h]
  simp +decide only [a1, a2, ↓reduceIte, ite_self]
theorem mM_5 {d : TMd} {p0 v : Int32} (h : ¬ f_Md_in p0 0 39 = 0) : f_Md_meaning d p0 5 v = if f_Md_in v 0 10 = 0 then (-2, TMd_set_thrown d 0) else (1, TMd_set_values (TMd_set_kinds (TMd_set_thrown d 0) (upd (TMd_kinds d) p0.toNatClampNeg 5)) (upd (TMd_values d) p0.toNatClampNeg v)) := by
  have a1 : f_Md_in 5 2 3 = 0 := by decide
  have a2 : f_Md_in 5 0 8 = 1 := by decide
  unfold f_Md_meaning
  rw [if_neg h]
  simp +decide only [a1, a2, ↓reduceIte, ite_self]
theorem mM_2 {d : TMd} {p0 v : Int32} (h : ¬ f_Md_in p0 0 39 = 0) : f_Md_meaning d p0 2 v = if f_Md_in v 0 (TMd_bodies d - 1) = 0 then (-1, TMd_set_thrown d 0) else (1, TMd_set_values (TMd_set_kinds (TMd_set_thrown d 0) (upd (TMd_kinds d) p0.toNatClampNeg 2)) (upd (TMd_values d) p0.toNatClampNeg v)) := by
  have a1 : f_Md_in 2 2 3 = 1 := by decide
  have a2 : f_Md_in 2 0 8 = 1 := by decide
  unfold f_Md_meaning
  rw [if_neg h]
  simp +decide only [a1, a2, ↓reduceIte, ite_self]
theorem mM_3 {d : TMd} {p0 v : Int32} (h : ¬ f_Md_in p0 0 39 = 0) : f_Md_meaning d p0 3 v = if f_Md_in v 0 (TMd_bodies d - 1) = 0 then (-1, TMd_set_thrown d 0) else (1, TMd_set_values (TMd_set_kinds (TMd_set_thrown d 0) (upd (TMd_kinds d) p0.toNatClampNeg 3)) (upd (TMd_values d) p0.toNatClampNeg v)) := by
  have a1 : f_Md_in 3 2 3 = 1 := by decide
  have a2 : f_Md_in 3 0 8 = 1 := by decide
  unfold f_Md_meaning
  rw [if_neg h]
  simp +decide only [a1, a2, ↓reduceIte, ite_self]
theorem mC {z : TCt} {p0 K v : Int32} (h0 : ¬ p0 < 0) (h1 : p0 < 40) (h2 : ¬ K = 2) (h3 : ¬ K = 3) : f_Ct_meaning z p0 K v = if f_Ct_fitsKind K v = 0 then (-2, z) else (1, TCt_set_bk z (f_Bk_define (TCt_bk z) p0 K v)) := by
  unfold f_Ct_meaning
  rw [if_neg h0, if_pos h1, if_neg h2, if_neg h3]
theorem mC23 {z : TCt} {p0 K v : Int32} (h0 : ¬ p0 < 0) (h1 : p0 < 40) (h2 : K = 2 ∨ K = 3) : f_Ct_meaning z p0 K v = if f_Bk_hasBody (TCt_bk z) v = 0 then (-1, z) else (if f_Ct_fitsKind K v = 0 then (-2, z) else (1, TCt_set_bk z (f_Bk_define (TCt_bk z) p0 K v))) := by
  unfold f_Ct_meaning
  rw [if_neg h0, if_pos h1]
  by_cases c : K = 2
  · rw [if_pos c]
  · rw [if_neg c, if_pos (by rcases h2 with h | h; exact absurd h c; exact h)]
theorem mean_I {z : TCt} {d : TMd} (h : INV z d) {p0 K v : Int32} (h0 : 0 ≤ p0.toInt) (h1 : p0.toInt < 40) (hk : 0 ≤ K.toInt ∧ K.toInt ≤ 8) (h23 : K = 2 ∨ K = 3 → 0 ≤ v.toInt ∧ v.toInt < (TMd_bodies d).toInt) (h5 : K = 5 → 0 ≤ v.toInt ∧ v.toInt ≤ 10) : INV (TCt_set_bk z (f_Bk_define (TCt_bk z) p0 K v)) (TMd_set_values (TMd_set_kinds (TMd_set_thrown d 0) (upd (TMd_kinds d) p0.toNatClampNeg K)) (upd (TMd_values d) p0.toNatClampNeg v)) := by
  obtain ⟨hb, hs, hz, hr⟩ := h
  have e4 : (40 : Int32).toInt = 40 := by decide
  have hcl := clamp_toInt h0
  have hd : f_Bk_define (TCt_bk z) p0 K v = TBk_set_values (TBk_set_kinds (TCt_bk z) (upd (TMd_kinds d) p0.toNatClampNeg K)) (upd (TMd_values d) p0.toNatClampNeg v) := by
    unfold f_Bk_define
    rw [if_neg (by rw [i32_lt, e_0]; omega), if_neg (by rw [i32_le, e4]; omega), hb.1, hb.2.1]
  rw [hd]
  refine ⟨⟨rfl, rfl, hb.2.2.1, hb.2.2.2.1, hb.2.2.2.2.1, hb.2.2.2.2.2.1, hb.2.2.2.2.2.2.1, fun i hi q => ?_⟩, ⟨hs.1, hs.2.1, fun i hi => ?_, hs.2.2.2⟩, hz, RIv_values _ (RIv_kinds _ (RIv_thrown 0 hr))⟩
  · have q : upd (TMd_kinds d) p0.toNatClampNeg K i = 5 := q
    show 0 ≤ (upd (TMd_values d) p0.toNatClampNeg v i).toInt ∧ (upd (TMd_values d) p0.toNatClampNeg v i).toInt ≤ 10
    by_cases c : i = p0.toNatClampNeg
    · rw [c, pk_us] at q
      rw [c, pk_us]
      exact h5 q
    · rw [pk_un c] at q
      rw [pk_un c]
      exact hb.2.2.2.2.2.2.2 i hi q
  · show 0 ≤ (upd (TMd_kinds d) p0.toNatClampNeg K i).toInt ∧ (upd (TMd_kinds d) p0.toNatClampNeg K i).toInt ≤ 8 ∧ ((upd (TMd_kinds d) p0.toNatClampNeg K i = 2 ∨ upd (TMd_kinds d) p0.toNatClampNeg K i = 3) → 0 ≤ (upd (TMd_values d) p0.toNatClampNeg v i).toInt ∧ (upd (TMd_values d) p0.toNatClampNeg v i).toInt < (TMd_bodies d).toInt)
    by_cases c : i = p0.toNatClampNeg
    · rw [c, pk_us, pk_us]
      exact ⟨hk.1, hk.2, h23⟩
    · rw [pk_un c, pk_un c]
      exact hs.2.2.1 i hi
theorem inv_meaning {z : TCt} {d : TMd} (h : INV z d) (p0 K v : Int32) : CQ (f_Ct_meaning z p0 K v) (f_Md_meaning d p0 K v) := by
  have e4 : (40 : Int32).toInt = 40 := by decide
  have e39 : (39 : Int32).toInt = 39 := by decide
  by_cases c0 : p0 < 0
  · unfold f_Ct_meaning f_Md_meaning
    rw [if_pos c0, if_pos (in_iff.mpr (Or.inl c0))]
    exact CQ_r h rfl
  by_cases c1 : p0 < 40
  · have hin : ¬ f_Md_in p0 0 39 = 0 := fun q => by
      rcases in_iff.mp q with q | q
      · exact c0 q
      · rw [i32_lt, e39] at q
        rw [i32_lt, e4] at c1
        omega
    have c0' := c0
    have c1' := c1
    rw [i32_lt, e_0] at c0'
    rw [i32_lt, e4] at c1'
    have hI := fun hk h23 h5 => mean_I h (p0 := p0) (K := K) (v := v) (by omega) c1' hk h23 h5
    have hz : ∀ k : Int32, K = k → (k = 0 ∨ k = 6 ∨ k = 7 ∨ k = 8) → CQ (if v = 0 then (1, TCt_set_bk z (f_Bk_define (TCt_bk z) p0 K v)) else (-2, z)) (if v = 0 then (1, TMd_set_values (TMd_set_kinds (TMd_set_thrown d 0) (upd (TMd_kinds d) p0.toNatClampNeg K)) (upd (TMd_values d) p0.toNatClampNeg v)) else (-2, TMd_set_thrown d 0)) := fun k hk hk2 => by
      by_cases cv : v = 0
      · rw [if_pos cv, if_pos cv]
        refine ⟨rfl, hI ?_ (fun q => ?_) (fun q => ?_)⟩
        · rw [hk]
          rcases hk2 with q | q | q | q <;> (rw [q]; decide)
        · rw [hk] at q
          rcases hk2 with q2 | q2 | q2 | q2 <;> (rw [q2] at q; exact absurd q (by decide))
        · rw [hk] at q
          rcases hk2 with q2 | q2 | q2 | q2 <;> (rw [q2] at q; exact absurd q (by decide))
      · rw [if_neg cv, if_neg cv]
        exact CQ_r h rfl
    have hg : ∀ lo hi k : Int32, K = k → (k = 1 ∨ k = 4 ∨ k = 5) → (k = 5 → lo = 0 ∧ hi = 10) → CQ (if v < lo then (-2, z) else (if hi < v then (-2, z) else (1, TCt_set_bk z (f_Bk_define (TCt_bk z) p0 K v)))) (if f_Md_in v lo hi = 0 then (-2, TMd_set_thrown d 0) else (1, TMd_set_values (TMd_set_kinds (TMd_set_thrown d 0) (upd (TMd_kinds d) p0.toNatClampNeg K)) (upd (TMd_values d) p0.toNatClampNeg v))) := fun lo hi k hk hk2 hk5 => by
      by_cases c2 : v < lo
      · rw [if_pos c2, if_pos (in_iff.mpr (Or.inl c2))]
        exact CQ_r h rfl
      · rw [if_neg c2]
        by_cases c3 : hi < v
        · rw [if_pos c3, if_pos (in_iff.mpr (Or.inr c3))]
          exact CQ_r h rfl
        · rw [if_neg c3, if_neg (fun q => by rcases in_iff.mp q with q | q; exact c2 q; exact c3 q)]
          refine ⟨rfl, hI ?_ (fun q => ?_) (fun q => ?_)⟩
          · rw [hk]
            rcases hk2 with q | q | q <;> (rw [q]; decide)
          · rw [hk] at q
            rcases hk2 with q2 | q2 | q2 <;> (rw [q2] at q; exact absurd q (by decide))
          · obtain ⟨w1, w2⟩ := hk5 (hk ▸ q)
            rw [i32_lt, w1, e_0] at c2
            rw [i32_lt, w2, show (10 : Int32).toInt = 10 by decide] at c3
            omega
    have hm : K = 2 ∨ K = 3 → CQ (f_Ct_meaning z p0 K v) (if f_Md_in v 0 (TMd_bodies d - 1) = 0 then (-1, TMd_set_thrown d 0) else (1, TMd_set_values (TMd_set_kinds (TMd_set_thrown d 0) (upd (TMd_kinds d) p0.toNatClampNeg K)) (upd (TMd_values d) p0.toNatClampNeg v))) := fun hk => by
      rw [mC23 c0 c1 hk]
      by_cases c2 : f_Md_in v 0 (TMd_bodies d - 1) = 0
      · rw [if_pos c2, if_pos ((hasB h v).mpr c2)]
        exact CQ_r h rfl
      · have hv := hasB_b h.2.1 c2
        have hb20 := h.2.1.1
        have hfk : f_Ct_fitsKind K v = 1 := by
          have w0 : ¬ v < 0 := by rw [i32_lt, e_0]; omega
          have w1 : ¬ 20 ≤ v := by rw [i32_le, e_20]; omega
          unfold f_Ct_fitsKind
          rcases hk with hk | hk
          · rw [hk, if_neg (by decide), if_neg (by decide), if_pos rfl, if_neg w0, if_neg w1]
          · rw [hk, if_neg (by decide), if_neg (by decide), if_neg (by decide), if_pos rfl, if_neg w0, if_neg w1]
        rw [if_neg c2, if_neg (fun q => c2 ((hasB h v).mp q)), hfk, if_neg (by decide)]
        refine ⟨rfl, hI ?_ (fun _ => hv) (fun q => ?_)⟩
        · rcases hk with q | q <;> (rw [q]; decide)
        · rcases hk with q2 | q2 <;> (rw [q2] at q; exact absurd q (by decide))
    by_cases k2 : K = 2
    · have := hm (Or.inl k2)
      subst k2
      rw [mM_2 hin]
      exact this
    by_cases k3 : K = 3
    · have := hm (Or.inr k3)
      subst k3
      rw [mM_3 hin]
      exact this
    rw [mC c0 c1 k2 k3]
    have hff : ∀ (c : Prop) [Decidable c] (p q : Int32 × TCt), (if (if c then (1 : Int32) else 0) = 0 then p else q) = if c then q else p := fun c _ p q => by
      by_cases hc : c
      · rw [if_pos hc, if_pos hc, if_neg (by decide)]
      · rw [if_neg hc, if_neg hc, if_pos rfl]
    have hfg : ∀ (c c' : Prop) [Decidable c] [Decidable c'] (p q : Int32 × TCt), (if (if c then (0 : Int32) else (if c' then 0 else 1)) = 0 then p else q) = if c then p else (if c' then p else q) := fun c c' _ _ p q => by
      by_cases hc : c
      · rw [if_pos hc, if_pos hc, if_pos rfl]
      · rw [if_neg hc, if_neg hc]
        by_cases hc' : c'
        · rw [if_pos hc', if_pos hc', if_pos rfl]
        · rw [if_neg hc', if_neg hc', if_neg (by decide)]
    unfold f_Ct_fitsKind
    by_cases k0 : K = 0
    · have := hz 0 k0 (by decide)
      subst k0
      rw [mM_0 hin, if_pos (show (0 : Int32) = 0 from rfl), hff]
      exact this
    by_cases k1 : K = 1
    · have := hg 0 4095 1 k1 (by decide) (fun q => absurd q (by decide))
      subst k1
      rw [mM_1 hin, if_neg (show ¬ (1 : Int32) = 0 by decide), if_pos (show (1 : Int32) = 1 from rfl)]
      unfold f_Ct_isSign
      rw [hfg]
      have e5 : (4096 ≤ v) = (4095 < v) := by
        rw [i32_le, i32_lt, show (4096 : Int32).toInt = 4096 by decide, show (4095 : Int32).toInt = 4095 by decide]
        exact propext ⟨fun q => by omega, fun q => by omega⟩
      simp only [e5]
      exact this
    by_cases k4 : K = 4
    · have := hg (-999999999) 999999999 4 k4 (by decide) (fun q => absurd q (by decide))
      subst k4
      rw [mM_4 hin, if_neg (show ¬ (4 : Int32) = 0 by decide), if_neg (show ¬ (4 : Int32) = 1 by decide), if_neg (show ¬ (4 : Int32) = 2 by decide), if_neg (show ¬ (4 : Int32) = 3 by decide), if_pos (show (4 : Int32) = 4 from rfl), hfg]
      exact this
    by_cases k5 : K = 5
    · have := hg 0 10 5 k5 (by decide) (fun _ => ⟨rfl, rfl⟩)
      subst k5
      rw [mM_5 hin, if_neg (show ¬ (5 : Int32) = 0 by decide), if_neg (show ¬ (5 : Int32) = 1 by decide), if_neg (show ¬ (5 : Int32) = 2 by decide), if_neg (show ¬ (5 : Int32) = 3 by decide), if_neg (show ¬ (5 : Int32) = 4 by decide), if_pos (show (5 : Int32) = 5 from rfl), hfg]
      exact this
    by_cases k6 : K = 6
    · have := hz 6 k6 (by decide)
      subst k6
      rw [mM_6 hin, if_neg (show ¬ (6 : Int32) = 0 by decide), if_neg (show ¬ (6 : Int32) = 1 by decide), if_neg (show ¬ (6 : Int32) = 2 by decide), if_neg (show ¬ (6 : Int32) = 3 by decide), if_neg (show ¬ (6 : Int32) = 4 by decide), if_neg (show ¬ (6 : Int32) = 5 by decide), if_pos (show (6 : Int32) = 6 from rfl), hff]
      exact this
    by_cases k7 : K = 7
    · have := hz 7 k7 (by decide)
      subst k7
      rw [mM_7 hin, if_neg (show ¬ (7 : Int32) = 0 by decide), if_neg (show ¬ (7 : Int32) = 1 by decide), if_neg (show ¬ (7 : Int32) = 2 by decide), if_neg (show ¬ (7 : Int32) = 3 by decide), if_neg (show ¬ (7 : Int32) = 4 by decide), if_neg (show ¬ (7 : Int32) = 5 by decide), if_neg (show ¬ (7 : Int32) = 6 by decide), if_pos (show (7 : Int32) = 7 from rfl), hff]
      exact this
    by_cases k8 : K = 8
    · have := hz 8 k8 (by decide)
      subst k8
      rw [mM_8 hin, if_neg (show ¬ (8 : Int32) = 0 by decide), if_neg (show ¬ (8 : Int32) = 1 by decide), if_neg (show ¬ (8 : Int32) = 2 by decide), if_neg (show ¬ (8 : Int32) = 3 by decide), if_neg (show ¬ (8 : Int32) = 4 by decide), if_neg (show ¬ (8 : Int32) = 5 by decide), if_neg (show ¬ (8 : Int32) = 6 by decide), if_neg (show ¬ (8 : Int32) = 7 by decide), if_pos (show (8 : Int32) = 8 from rfl), hff]
      exact this
    rw [if_neg k0, if_neg k1, if_neg k2, if_neg k3, if_neg k4, if_neg k5, if_neg k6, if_neg k7, if_neg k8, if_pos rfl]
    have q0 := k0
    have q1 := k1
    have q2 := k2
    have q3 := k3
    have q4 := k4
    have q5 := k5
    have q6 := k6
    have q7 := k7
    have q8 := k8
    rw [i32_eq, e_0] at q0
    rw [i32_eq, e_1] at q1
    rw [i32_eq, show (2 : Int32).toInt = 2 by decide] at q2
    rw [i32_eq, show (3 : Int32).toInt = 3 by decide] at q3
    rw [i32_eq, show (4 : Int32).toInt = 4 by decide] at q4
    rw [i32_eq, show (5 : Int32).toInt = 5 by decide] at q5
    rw [i32_eq, show (6 : Int32).toInt = 6 by decide] at q6
    rw [i32_eq, show (7 : Int32).toInt = 7 by decide] at q7
    rw [i32_eq, show (8 : Int32).toInt = 8 by decide] at q8
    have a1 : f_Md_in K 2 3 = 0 := by
      rw [in_iff, i32_lt, i32_lt, show (2 : Int32).toInt = 2 by decide, show (3 : Int32).toInt = 3 by decide]
      omega
    have a2 : f_Md_in K 0 8 = 0 := by
      rw [in_iff, i32_lt, i32_lt, e_0, show (8 : Int32).toInt = 8 by decide]
      omega
    unfold f_Md_meaning
    rw [if_neg hin, if_pos a1, if_neg k1, if_neg k4, if_neg k5, if_pos a2, if_pos a2, ite_self]
    exact CQ_r h rfl
  · unfold f_Ct_meaning f_Md_meaning
    rw [if_neg c0, if_neg c1, if_pos (in_iff.mpr (Or.inr (by rw [i32_lt, e39]; rw [i32_lt, e4] at c1; omega)))]
    exact CQ_r h rfl
