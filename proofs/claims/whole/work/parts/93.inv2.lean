theorem hasB {z : TCt} {d : TMd} (h : INV z d) (x : Int32) : f_Bk_hasBody (TCt_bk z) x = 0 ↔ f_Md_in x 0 (TMd_bodies d - 1) = 0 := by
  have hc : TBk_bodyCount (TCt_bk z) = TMd_bodies d := h.1.2.2.2.2.2.1
  have h1 := h.2.1.1
  have hm : (TMd_bodies d - 1).toInt = (TMd_bodies d).toInt - 1 := pred_toInt (by omega)
  unfold f_Bk_hasBody
  rw [hc, in_iff]
  by_cases c : x < 0
  · rw [if_pos c]
    exact ⟨fun _ => Or.inl c, fun _ => rfl⟩
  · rw [if_neg c]
    by_cases c2 : TMd_bodies d ≤ x
    · rw [if_pos c2]
      rw [i32_le] at c2
      exact ⟨fun _ => Or.inr (by rw [i32_lt, hm]; omega), fun _ => rfl⟩
    · rw [if_neg c2]
      rw [i32_le] at c2
      exact ⟨fun q => absurd q (by decide), fun q => by
        rcases q with q | q
        · exact absurd q c
        · rw [i32_lt, hm] at q
          omega⟩
theorem hasB_b {d : TMd} (hs : MdS d) {x : Int32} (h : ¬ f_Md_in x 0 (TMd_bodies d - 1) = 0) : 0 ≤ x.toInt ∧ x.toInt < (TMd_bodies d).toInt := by
  have h1 := hs.1
  have hm : (TMd_bodies d - 1).toInt = (TMd_bodies d).toInt - 1 := pred_toInt (by omega)
  have h2 := in_of h
  rw [e_0, hm] at h2
  omega
/-- a row and its room -/
theorem app_C {z : TCt} {d : TMd} (h : INV z d) {x t : Int32} (h0 : 0 ≤ x.toInt) (h1 : x.toInt ≤ 20) : f_Bk_append (TCt_bk z) x t = if TMd_sizes d x.toNatClampNeg = (if x = 20 then 200 else 12) then (-4, TCt_bk z) else (TMd_sizes d x.toNatClampNeg + 1, TBk_set_sizes (TBk_set_cells (TCt_bk z) (upd (TBk_cells (TCt_bk z)) (x * 12 + TMd_sizes d x.toNatClampNeg).toNatClampNeg t)) (upd (TMd_sizes d) x.toNatClampNeg (TMd_sizes d x.toNatClampNeg + 1))) := by
  have e4 : (440 : Int32).toInt = 440 := by decide
  have hcl := clamp_toInt h0
  have hsz := h.2.1.2.1 x.toNatClampNeg (by omega)
  have h200 := MdS_size h.2.1 (i := x.toNatClampNeg) (by omega)
  have h9 : (x * 12).toInt = x.toInt * 12 := by rw [i32_mul (by rw [e_12]; omega) (by rw [e_12]; omega), e_12]
  have h10 : (x * 12 + TMd_sizes d x.toNatClampNeg).toInt = x.toInt * 12 + (TMd_sizes d x.toNatClampNeg).toInt := by rw [i32_add (by rw [h9]; omega) (by rw [h9]; omega), h9]
  unfold f_Bk_append
  have hneg : ¬ x < 0 := by
    rw [i32_lt, e_0]
    omega
  have hn20 : ¬ 20 < x := by
    rw [i32_lt, e_20]
    omega
  rw [sim_size h.1 h0 h1, h.1.2.2.1]
  by_cases c20 : x = 20
  · have hx20 : x.toInt = 20 := by rw [c20, e_20]
    rw [if_pos c20, if_pos c20, if_neg hneg, if_neg hn20]
    rw [if_pos (by omega)] at hsz
    by_cases c : TMd_sizes d x.toNatClampNeg = 200
    · rw [if_pos c, if_pos (show 200 ≤ TMd_sizes d x.toNatClampNeg by rw [c]; decide)]
    · have c' := c
      rw [i32_eq, e_200] at c'
      rw [if_neg c, if_neg (show ¬ 200 ≤ TMd_sizes d x.toNatClampNeg by rw [i32_le, e_200]; omega), if_pos (show x * 12 + TMd_sizes d x.toNatClampNeg < 440 by rw [i32_lt, h10, e4]; omega)]
  · have hx20 : ¬ x.toInt = 20 := fun q => c20 (by rw [i32_eq, e_20]; exact q)
    rw [if_neg c20, if_neg c20, if_neg hneg, if_neg hn20]
    rw [if_neg (by omega)] at hsz
    by_cases c : TMd_sizes d x.toNatClampNeg = 12
    · rw [if_pos c, if_pos (show 12 ≤ TMd_sizes d x.toNatClampNeg by rw [c]; decide)]
    · have c' := c
      rw [i32_eq, e_12] at c'
      rw [if_neg c, if_neg (show ¬ 12 ≤ TMd_sizes d x.toNatClampNeg by rw [i32_le, e_12]; omega), if_pos (show x * 12 + TMd_sizes d x.toNatClampNeg < 440 by rw [i32_lt, h10, e4]; omega)]
theorem app_I {z : TCt} {d : TMd} (h : INV z d) {x t : Int32} (h0 : 0 ≤ x.toInt) (h1 : x.toInt ≤ 20) (hx : x.toInt < (TMd_bodies d).toInt ∨ x.toInt = 20) (ht : 0 ≤ t.toInt ∧ t.toInt ≤ 4135) (hc : ¬ TMd_sizes d x.toNatClampNeg = (if x = 20 then 200 else 12)) : INV (TCt_set_bk z (TBk_set_sizes (TBk_set_cells (TCt_bk z) (upd (TBk_cells (TCt_bk z)) (x * 12 + TMd_sizes d x.toNatClampNeg).toNatClampNeg t)) (upd (TMd_sizes d) x.toNatClampNeg (TMd_sizes d x.toNatClampNeg + 1)))) (TMd_set_sizes (TMd_set_rows (TMd_set_thrown d 0) (upd (TMd_rows d) ((200 * x) + TMd_sizes d x.toNatClampNeg).toNatClampNeg t)) (upd (TMd_sizes d) x.toNatClampNeg (TMd_sizes d x.toNatClampNeg + 1))) := by
  obtain ⟨hb, hs, hz, hr⟩ := h
  have hcl := clamp_toInt h0
  have hsz := hs.2.1 x.toNatClampNeg (by omega)
  have h200 := MdS_size hs (i := x.toNatClampNeg) (by omega)
  have hlt : (TMd_sizes d x.toNatClampNeg).toInt < (if x.toNatClampNeg = 20 then 200 else 12) := by
    by_cases c20 : x = 20
    · have hx20 : x.toInt = 20 := by rw [c20, e_20]
      rw [if_pos c20, i32_eq, e_200] at hc
      rw [if_pos (by omega)] at hsz ⊢
      omega
    · have hx20 : ¬ x.toInt = 20 := fun q => c20 (by rw [i32_eq, e_20]; exact q)
      rw [if_neg c20, i32_eq, e_12] at hc
      rw [if_neg (by omega)] at hsz ⊢
      omega
  have hlt2 : (TMd_sizes d x.toNatClampNeg).toInt < 200 := by
    split at hlt
    · exact hlt
    · omega
  have h9 : (x * 12).toInt = x.toInt * 12 := by rw [i32_mul (by rw [e_12]; omega) (by rw [e_12]; omega), e_12]
  have h10 : (x * 12 + TMd_sizes d x.toNatClampNeg).toInt = x.toInt * 12 + (TMd_sizes d x.toNatClampNeg).toInt := by rw [i32_add (by rw [h9]; omega) (by rw [h9]; omega), h9]
  have h11 := clamp_toInt (x := x * 12 + TMd_sizes d x.toNatClampNeg) (by omega)
  have h12 := cellM h0 h1 h200.1 hlt2
  have h13 := clamp_toInt (x := 200 * x + TMd_sizes d x.toNatClampNeg) (by omega)
  have h14 : (TMd_sizes d x.toNatClampNeg + 1).toInt = (TMd_sizes d x.toNatClampNeg).toInt + 1 := succ_toInt (by omega)
  have hroom : (TMd_sizes d x.toNatClampNeg).toInt < 12 ∨ x.toNatClampNeg = 20 := by
    split at hlt
    · rename_i q
      exact Or.inr q
    · exact Or.inl hlt
  refine ⟨⟨hb.1, hb.2.1, rfl, hb.2.2.2.1, hb.2.2.2.2.1, hb.2.2.2.2.2.1, fun i j hi hj => ?_, hb.2.2.2.2.2.2.2⟩, ⟨hs.1, fun i hi => ?_, hs.2.2.1, fun i j hi hj hj2 => ?_⟩, fun i hi hi2 => ?_, RIv_sizes _ (RIv_rows _ (RIv_thrown 0 hr))⟩
  · have hj : (j : Int) < (upd (TMd_sizes d) x.toNatClampNeg (TMd_sizes d x.toNatClampNeg + 1) i).toInt := hj
    show upd (TBk_cells (TCt_bk z)) (x * 12 + TMd_sizes d x.toNatClampNeg).toNatClampNeg t (12 * i + j) = upd (TMd_rows d) ((200 * x) + TMd_sizes d x.toNatClampNeg).toNatClampNeg t (200 * i + j)
    by_cases c : i = x.toNatClampNeg
    · rw [c, pk_us, h14] at hj
      by_cases c2 : (j : Int) = (TMd_sizes d x.toNatClampNeg).toInt
      · have q1 : 12 * i + j = (x * 12 + TMd_sizes d x.toNatClampNeg).toNatClampNeg := by omega
        have q2 : 200 * i + j = ((200 * x) + TMd_sizes d x.toNatClampNeg).toNatClampNeg := by omega
        rw [q1, q2, pk_us, pk_us]
      · rw [pk_un (by omega), pk_un (by omega)]
        exact hb.2.2.2.2.2.2.1 i j hi (by rw [c]; omega)
    · rw [pk_un c] at hj
      have hi2 := hs.2.1 i hi
      have hi3 : (j : Int) < 200 ∧ (i = 20 ∨ (j : Int) < 12) := by
        split at hi2
        · rename_i q
          exact ⟨by omega, Or.inl q⟩
        · exact ⟨by omega, Or.inr (by omega)⟩
      rw [pk_un (by omega), pk_un (by omega)]
      exact hb.2.2.2.2.2.2.1 i j hi hj
  · show 0 ≤ (upd (TMd_sizes d) x.toNatClampNeg (TMd_sizes d x.toNatClampNeg + 1) i).toInt ∧ (upd (TMd_sizes d) x.toNatClampNeg (TMd_sizes d x.toNatClampNeg + 1) i).toInt ≤ (if i = 20 then 200 else 12)
    by_cases c : i = x.toNatClampNeg
    · rw [c, pk_us, h14]
      omega
    · rw [pk_un c]
      exact hs.2.1 i hi
  · have hj2 : (j : Int) < (upd (TMd_sizes d) x.toNatClampNeg (TMd_sizes d x.toNatClampNeg + 1) i).toInt := hj2
    show 0 ≤ (upd (TMd_rows d) ((200 * x) + TMd_sizes d x.toNatClampNeg).toNatClampNeg t (200 * i + j)).toInt ∧ (upd (TMd_rows d) ((200 * x) + TMd_sizes d x.toNatClampNeg).toNatClampNeg t (200 * i + j)).toInt ≤ 4135
    by_cases c2 : 200 * i + j = ((200 * x) + TMd_sizes d x.toNatClampNeg).toNatClampNeg
    · rw [c2, pk_us]
      exact ht
    · rw [pk_un c2]
      by_cases c : i = x.toNatClampNeg
      · rw [c, pk_us, h14] at hj2
        exact hs.2.2.2 i j hi hj (by rw [c]; omega)
      · rw [pk_un c] at hj2
        exact hs.2.2.2 i j hi hj hj2
  · have hi : (TMd_bodies d).toInt ≤ (i : Int) := hi
    show upd (TMd_sizes d) x.toNatClampNeg (TMd_sizes d x.toNatClampNeg + 1) i = 0
    rw [pk_un (by omega)]
    exact hz i hi hi2
theorem inv_token {z : TCt} {d : TMd} (h : INV z d) (x t : Int32) : CQ (f_Ct_token z x t) (f_Md_token d x t) := by
  have hz : TCt_set_bk z (TCt_bk z) = z := rfl
  have key : ∀ y : Int32, 0 ≤ y.toInt → y.toInt ≤ 20 → (y.toInt < (TMd_bodies d).toInt ∨ y.toInt = 20) → (0 ≤ t.toInt ∧ t.toInt ≤ 4135) → CQ (match f_Bk_append (TCt_bk z) y t with | (r, v) => (r, TCt_set_bk z v)) (if TMd_sizes d y.toNatClampNeg = (if y = 20 then 200 else 12) then (-4, TMd_set_thrown d 0) else (upd (TMd_sizes d) y.toNatClampNeg (TMd_sizes d y.toNatClampNeg + 1) y.toNatClampNeg, TMd_set_sizes (TMd_set_rows (TMd_set_thrown d 0) (upd (TMd_rows d) ((200 * y) + TMd_sizes d y.toNatClampNeg).toNatClampNeg t)) (upd (TMd_sizes d) y.toNatClampNeg (TMd_sizes d y.toNatClampNeg + 1)))) := by
    intro y h0 h1 h2 h3
    rw [app_C h h0 h1]
    by_cases c : TMd_sizes d y.toNatClampNeg = (if y = 20 then 200 else 12)
    · rw [if_pos c, if_pos c]
      exact CQ_r h rfl
    · rw [if_neg c, if_neg c, pk_us]
      exact ⟨rfl, app_I h h0 h1 h2 h3 c⟩
  unfold f_Ct_token f_Md_token
  by_cases cm : x = -1
  · rw [if_pos cm, if_pos cm]
    by_cases ct : f_Md_isToken t = 0
    · rw [if_pos ((tok_iff t).mpr ct), if_pos ct]
      exact CQ_r h rfl
    · rw [if_neg (fun q => ct ((tok_iff t).mp q)), if_neg ct, if_neg (show ¬ 0 ≤ x by rw [cm]; decide)]
      have h1 := key 20 (by decide) (by decide) (Or.inr (by decide)) (tok_b ct)
      rw [if_pos rfl] at h1
      exact h1
  · rw [if_neg cm, if_neg cm]
    by_cases cb : f_Md_in x 0 (TMd_bodies d - 1) = 0
    · rw [if_pos ((hasB h x).mpr cb), if_pos cb]
      exact CQ_r h rfl
    · have hxb := hasB_b h.2.1 cb
      have hb20 := h.2.1.1
      rw [if_neg (fun q => cb ((hasB h x).mp q)), if_neg cb]
      by_cases ct : f_Md_isToken t = 0
      · rw [if_pos ((tok_iff t).mpr ct), if_pos ct]
        exact CQ_r h rfl
      · rw [if_neg (fun q => ct ((tok_iff t).mp q)), if_neg ct, if_pos (show 0 ≤ x by rw [i32_le, e_0]; omega)]
        have h1 := key x hxb.1 (by omega) (Or.inl hxb.2) (tok_b ct)
        rw [if_neg (show ¬ x = 20 from fun q => by rw [q, e_20] at hxb; omega)] at h1
        exact h1
theorem tz {b : TBk} {d : TMd} (hb : BR b d) (hz : ZB d) (n : Nat) : ∀ acc i : Int32, (0 ≤ i.toInt ∧ i.toInt ≤ 20) → (TMd_bodies d).toInt ≤ i.toInt → 20 - i.toInt < (n : Int) → f_Bk_tokensOfBodies_4 n b acc i = acc := by
  induction n with
  | zero =>
    intro acc i h1 h2 h3
    omega
  | succ n ih =>
    intro acc i h1 h2 h3
    rw [f_Bk_tokensOfBodies_4]
    by_cases c : 20 ≤ i
    · rw [if_pos c]
    · rw [if_neg c]
      rw [i32_le, e_20] at c
      have h5 : (i + 1).toInt = i.toInt + 1 := succ_toInt (by omega)
      have h4 := clamp_toInt h1.1
      rw [hb.2.2.1, hz i.toNatClampNeg (by omega) (by omega), Int32.add_zero]
      exact ih acc (i + 1) ⟨by omega, by omega⟩ (by omega) (by omega)
theorem cnt_9 {b : TBk} {d : TMd} (hb : BR b d) (hs : MdS d) (hz : ZB d) (x : Int32) (n : Nat) : ∀ (m : Nat) (acc i : Int32), (0 ≤ i.toInt ∧ i.toInt ≤ (TMd_bodies d).toInt) → (TMd_bodies d).toInt - i.toInt < (n : Int) → 20 - i.toInt < (m : Int) → f_Md_count_9 n d x acc i = (if x = 0 then (TMd_bodies d, d) else (if x = 1 then (TMd_sizes d (20 : Int32).toNatClampNeg, d) else (if x = 2 then (f_Bk_tokensOfBodies_4 m b acc i, d) else (-2, d)))) := by
  have h20 := hs.1
  induction n with
  | zero =>
    intro m acc i h1 h2 h3
    omega
  | succ n ih =>
    intro m acc i h1 h2 h3
    rw [f_Md_count_9]
    by_cases c : TMd_bodies d ≤ i
    · rw [if_pos c]
      rw [i32_le] at c
      rw [tz hb hz m acc i ⟨by omega, by omega⟩ c h3]
    · rw [if_neg c]
      rw [i32_le] at c
      have h5 : (i + 1).toInt = i.toInt + 1 := succ_toInt (by omega)
      rcases m with _ | m
      · omega
      rw [ih m (acc + TMd_sizes d i.toNatClampNeg) (i + 1) ⟨by omega, by omega⟩ (by omega) (by omega), f_Bk_tokensOfBodies_4, if_neg (show ¬ 20 ≤ i by rw [i32_le, e_20]; omega), hb.2.2.1]
theorem inv_count {z : TCt} {d : TMd} (h : INV z d) (x : Int32) : CQ (f_Ct_count z x, z) (f_Md_count d x) := by
  have hT := INV_thrown h
  have h20 := h.2.1.1
  unfold f_Ct_count f_Md_count f_Bk_tokensOfBodies
  have hbd : TMd_bodies (TMd_set_thrown d 0) = TMd_bodies d := rfl
  rw [cnt_9 hT.1 hT.2.1 hT.2.2.1 x _ 21 0 0 ⟨by rw [e_0]; omega, by rw [e_0, hbd]; omega⟩ (by rw [e_0, hbd]; omega) (by rw [e_0]; omega)]
  by_cases c0 : x = 0
  · rw [if_pos c0, if_pos c0]
    exact CQ_r h h.1.2.2.2.2.2.1
  · rw [if_neg c0, if_neg c0]
    by_cases c1 : x = 1
    · rw [if_pos c1, if_pos c1]
      exact CQ_r h (sim_size h.1 (by decide) (by decide))
    · rw [if_neg c1, if_neg c1]
      by_cases c2 : x = 2
      · rw [if_pos c2, if_pos c2]
        exact CQ_r h rfl
      · rw [if_neg c2, if_neg c2]
        exact CQ_r h rfl
