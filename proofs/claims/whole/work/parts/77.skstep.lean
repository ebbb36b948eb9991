theorem fail_7 {d : TMd} (hf : TMd_fault d = 0) (q : Int32) : TMd_fault (f_Md_fail d q) = q := by
  unfold f_Md_fail
  rw [if_pos hf]
  rfl
theorem cs_0 {n : Nat} {b : TBk} {u v : TRn} {x1 x2 x3 x4 x5 r : Int32} (ht : ¬ 1000000 ≤ x5) (hl : f_Rn_lookForMore b u = (r, v)) (hr : r = -1) : f_Rn_skip_8 (n + 1) b u x1 x2 x3 x4 x5 = v := by
  rw [f_Rn_skip_8, if_neg ht, hl]
  dsimp only
  rw [if_pos hr]
theorem cs_3 {n : Nat} {b : TBk} {u v : TRn} {x1 x2 x3 x4 x5 r : Int32} (ht : ¬ 1000000 ≤ x5) (hl : f_Rn_lookForMore b u = (r, v)) (hr : ¬ r = -1) (hk : f_Bk_kindOf b r = 3) : f_Rn_skip_8 (n + 1) b u x1 x2 x3 x4 x5 = f_Rn_fail b v 7 := by
  rw [f_Rn_skip_8, if_neg ht, hl]
  dsimp only
  rw [if_neg hr, hk]
  have h1 : f_Ct_isMark 3 = 0 := by decide
  simp +decide only [h1, ↓reduceIte, ite_self]
theorem cs_5 {n : Nat} {b : TBk} {u v : TRn} {x1 x2 x3 x4 x5 r : Int32} (ht : ¬ 1000000 ≤ x5) (hl : f_Rn_lookForMore b u = (r, v)) (hr : ¬ r = -1) (hk : f_Bk_kindOf b r = 5) : f_Rn_skip_8 (n + 1) b u x1 x2 x3 x4 x5 = f_Rn_skip_8 n b (TRn_set_skipped v (TRn_skipped v + 1)) x1 x2 (x3 + 1) x4 (x5 + 1) := by
  rw [f_Rn_skip_8, if_neg ht, hl]
  dsimp only
  rw [if_neg hr, hk]
  have h1 : f_Ct_isMark 5 = 0 := by decide
  simp +decide only [h1, ↓reduceIte, ite_self]
theorem cs_c {n : Nat} {b : TBk} {u v : TRn} {x1 x2 x3 x4 x5 r : Int32} (ht : ¬ 1000000 ≤ x5) (hl : f_Rn_lookForMore b u = (r, v)) (hr : ¬ r = -1) (h3 : ¬ f_Bk_kindOf b r = 3) (h5 : ¬ f_Bk_kindOf b r = 5) (h8 : ¬ f_Bk_kindOf b r = 8) (hx : ¬ x3 = 0 ∨ f_Ct_isMark (f_Bk_kindOf b r) = 0) : f_Rn_skip_8 (n + 1) b u x1 x2 x3 x4 x5 = f_Rn_skip_8 n b (TRn_set_skipped v (TRn_skipped v + 1)) x1 x2 (x3 + 0) x4 (x5 + 1) := by
  rw [f_Rn_skip_8, if_neg ht, hl]
  dsimp only
  rw [if_neg hr]
  by_cases c : x3 = 0
  · rcases hx with hx | hx
    · exact absurd c hx
    · rw [if_pos c, if_pos hx, if_neg h3, if_neg h5, if_neg h8]
  · rw [if_neg c, if_neg h3, if_neg h5, if_neg h8]
theorem cs_w8 {n : Nat} {b : TBk} {u v : TRn} {x1 x2 x3 x4 x5 r : Int32} (ht : ¬ 1000000 ≤ x5) (hl : f_Rn_lookForMore b u = (r, v)) (hr : ¬ r = -1) (hk : f_Bk_kindOf b r = 8) (hx : ¬ x3 = 0) : f_Rn_skip_8 (n + 1) b u x1 x2 x3 x4 x5 = f_Rn_skip_8 n b (TRn_set_skipped v (TRn_skipped v + 1)) x1 x2 (x3 + -1) x4 (x5 + 1) := by
  rw [f_Rn_skip_8, if_neg ht, hl]
  dsimp only
  rw [if_neg hr, if_neg hx, hk]
  simp +decide only [↓reduceIte]
theorem cs_bad {n : Nat} {b : TBk} {u v : TRn} {x1 x2 x3 x4 x5 r : Int32} (ht : ¬ 1000000 ≤ x5) (hl : f_Rn_lookForMore b u = (r, v)) (hr : ¬ r = -1) (hx : x3 = 0) (hk : ¬ f_Ct_isMark (f_Bk_kindOf b r) = 0) (hp : f_Rn_isInPlace b v (f_Bk_kindOf b r) = 0) : f_Rn_skip_8 (n + 1) b u x1 x2 x3 x4 x5 = f_Rn_fail b v 2 := by
  rw [f_Rn_skip_8, if_neg ht, hl]
  dsimp only
  rw [if_neg hr, if_pos hx, if_neg hk, if_pos hp]
theorem cs_8 {n : Nat} {b : TBk} {u v : TRn} {x1 x2 x3 x4 x5 r : Int32} (ht : ¬ 1000000 ≤ x5) (hl : f_Rn_lookForMore b u = (r, v)) (hr : ¬ r = -1) (hx : x3 = 0) (hk : f_Bk_kindOf b r = 8) (hp : ¬ f_Rn_isInPlace b v 8 = 0) : f_Rn_skip_8 (n + 1) b u x1 x2 x3 x4 x5 = f_Rn_passMark b v 8 := by
  rw [f_Rn_skip_8, if_neg ht, hl]
  dsimp only
  rw [if_neg hr, if_pos hx, hk, if_neg (by decide), if_neg hp]
  simp +decide only [↓reduceIte]
theorem cs_6 {n : Nat} {b : TBk} {u v : TRn} {x1 x2 x3 x4 x5 r : Int32} (ht : ¬ 1000000 ≤ x5) (hl : f_Rn_lookForMore b u = (r, v)) (hr : ¬ r = -1) (hx : x3 = 0) (hk : f_Bk_kindOf b r = 6) (hp : ¬ f_Rn_isInPlace b v 6 = 0) : f_Rn_skip_8 (n + 1) b u x1 x2 x3 x4 x5 = if x2 = 0 then f_Rn_skip_8 n b (f_Rn_passMark b v 6) x1 x2 x3 (x4 + 0) (x5 + 1) else f_Rn_passMark b v 6 := by
  rw [f_Rn_skip_8, if_neg ht, hl]
  dsimp only
  rw [if_neg hr, if_pos hx, hk, if_neg (by decide), if_neg hp]
  simp +decide only [↓reduceIte]
theorem cs_7 {n : Nat} {b : TBk} {u v : TRn} {x1 x2 x3 x4 x5 r : Int32} (ht : ¬ 1000000 ≤ x5) (hl : f_Rn_lookForMore b u = (r, v)) (hr : ¬ r = -1) (hx : x3 = 0) (hk : f_Bk_kindOf b r = 7) (hp : ¬ f_Rn_isInPlace b v 7 = 0) : f_Rn_skip_8 (n + 1) b u x1 x2 x3 x4 x5 = if x4 + 1 = x1 then f_Rn_passMark b v 7 else f_Rn_skip_8 n b (f_Rn_passMark b v 7) x1 x2 x3 (x4 + 1) (x5 + 1) := by
  rw [f_Rn_skip_8, if_neg ht, hl]
  dsimp only
  rw [if_neg hr, if_pos hx, hk, if_neg (by decide), if_neg hp]
  simp +decide only [↓reduceIte]
theorem ms_f {m : Nat} {d : TMd} (x1 x3 x4 x5 x6 r : Int32) (hf : ¬ TMd_fault d = 0) : f_Md_skip_15 (m + 1) d x1 x3 x4 x5 x6 r = d := by
  rw [f_Md_skip_15, if_neg hf]
theorem ms_3 {m : Nat} {d : TMd} {x1 x3 x4 x5 x6 r : Int32} (hf : TMd_fault d = 0) (hk : f_Md_kindOf d r = 3) : f_Md_skip_15 (m + 1 + 1) d x1 x3 x4 x5 x6 r = f_Md_fail d 7 := by
  have h1 := fail_7 hf 7
  rw [f_Md_skip_15, if_pos hf, if_pos hk]
  dsimp only
  rw [if_neg (by rw [h1]; decide), ms_f _ _ _ _ _ _ (by rw [h1]; decide)]
theorem ms_5 {m : Nat} {d : TMd} {x1 x3 x4 x5 x6 r : Int32} (hf : TMd_fault d = 0) (hk : f_Md_kindOf d r = 5) : f_Md_skip_15 (m + 1) d x1 x3 x4 x5 x6 r = match f_Md_need (TMd_set_skipped d (TMd_skipped d + 1)) with | (r, w) => f_Md_skip_15 m w x1 x3 x4 (x5 + 1) x6 r := by
  rw [f_Md_skip_15, if_pos hf, if_neg (by rw [hk]; decide), if_pos hk]
  dsimp only
  rw [if_pos (by rw [hf]; decide)]
theorem ms_c {m : Nat} {d : TMd} {x1 x3 x4 x5 x6 r : Int32} (hf : TMd_fault d = 0) (h3 : ¬ f_Md_kindOf d r = 3) (h5 : ¬ f_Md_kindOf d r = 5) (h8 : ¬ f_Md_kindOf d r = 8) (hx : f_Md_kindOf d r < 6 ∨ ¬ x5 ≤ 0) : f_Md_skip_15 (m + 1) d x1 x3 x4 x5 x6 r = match f_Md_need (TMd_set_skipped d (TMd_skipped d + 1)) with | (r, w) => f_Md_skip_15 m w x1 x3 x4 x5 x6 r := by
  rw [f_Md_skip_15, if_pos hf, if_neg h3, if_neg h5]
  dsimp only
  by_cases c : f_Md_kindOf d r < 6
  · rw [if_pos c, if_neg h8, if_pos (by rw [hf]; decide)]
  · rcases hx with hx | hx
    · exact absurd hx c
    · rw [if_neg c, if_neg hx, if_neg h8, if_pos (by rw [hf]; decide)]
theorem ms_w8 {m : Nat} {d : TMd} {x1 x3 x4 x5 x6 r : Int32} (hf : TMd_fault d = 0) (hk : f_Md_kindOf d r = 8) (hx : ¬ x5 ≤ 0) : f_Md_skip_15 (m + 1) d x1 x3 x4 x5 x6 r = match f_Md_need (TMd_set_skipped d (TMd_skipped d + 1)) with | (r, w) => f_Md_skip_15 m w x1 x3 x4 (x5 - 1) x6 r := by
  rw [f_Md_skip_15, if_pos hf, if_neg (by rw [hk]; decide), if_neg (by rw [hk]; decide), if_neg (by rw [hk]; decide), if_neg hx, if_pos hk]
  dsimp only
  rw [if_pos (by rw [hf]; decide)]
theorem ms_8 {m : Nat} {d : TMd} {x1 x3 x4 x5 x6 r : Int32} (hf : TMd_fault d = 0) (hk : f_Md_kindOf d r = 8) (hx : x5 ≤ 0) : f_Md_skip_15 (m + 1) d x1 x3 x4 x5 x6 r = TMd_set_open d (TMd_open d - 1) := by
  rw [f_Md_skip_15, if_pos hf, if_neg (by rw [hk]; decide), if_neg (by rw [hk]; decide), if_neg (by rw [hk]; decide), if_pos hx, if_pos hk]
theorem ms_bad {m : Nat} {d : TMd} {x1 x3 x4 x5 x6 r : Int32} (hf : TMd_fault d = 0) (hk : f_Md_kindOf d r = 6 ∨ f_Md_kindOf d r = 7) (hx : x5 ≤ 0) (h4 : ¬ x4 = 0) : f_Md_skip_15 (m + 1 + 1) d x1 x3 x4 x5 x6 r = f_Md_fail d 2 := by
  have h1 := fail_7 hf 2
  have hk3 : ¬ f_Md_kindOf d r = 3 := by rcases hk with h | h <;> (rw [h]; decide)
  have hk5 : ¬ f_Md_kindOf d r = 5 := by rcases hk with h | h <;> (rw [h]; decide)
  have hk6 : ¬ f_Md_kindOf d r < 6 := by rcases hk with h | h <;> (rw [h]; decide)
  have hk8 : ¬ f_Md_kindOf d r = 8 := by rcases hk with h | h <;> (rw [h]; decide)
  rw [f_Md_skip_15, if_pos hf, if_neg hk3, if_neg hk5, if_neg hk6, if_pos hx, if_neg hk8, if_neg h4]
  dsimp only
  rw [if_neg (by rw [h1]; decide), ms_f _ _ _ _ _ _ (by rw [h1]; decide)]
theorem ms_bad7 {m : Nat} {d : TMd} {x1 x3 x4 x5 x6 r : Int32} (hf : TMd_fault d = 0) (hk : f_Md_kindOf d r = 7) (hx : x5 ≤ 0) (h4 : x4 = 0) (h0 : x1 = 0) : f_Md_skip_15 (m + 1 + 1) d x1 x3 x4 x5 x6 r = f_Md_fail d 2 := by
  have h1 := fail_7 hf 2
  rw [f_Md_skip_15, if_pos hf, if_neg (by rw [hk]; decide), if_neg (by rw [hk]; decide), if_neg (by rw [hk]; decide), if_pos hx, if_neg (by rw [hk]; decide), if_pos h4, if_pos hk, if_pos h0]
  dsimp only
  rw [if_neg (by rw [h1]; decide), ms_f _ _ _ _ _ _ (by rw [h1]; decide)]
theorem ms_6 {m : Nat} {d : TMd} {x1 x3 x4 x5 x6 r : Int32} (hf : TMd_fault d = 0) (hk : f_Md_kindOf d r = 6) (hx : x5 ≤ 0) (h4 : x4 = 0) : f_Md_skip_15 (m + 1) d x1 x3 x4 x5 x6 r = if x3 = 0 then (match f_Md_need d with | (r, w) => f_Md_skip_15 m w x1 x3 1 x5 x6 r) else TMd_set_phases d (upd (TMd_phases d) (TMd_open d - 1).toNatClampNeg 2) := by
  rw [f_Md_skip_15, if_pos hf, if_neg (by rw [hk]; decide), if_neg (by rw [hk]; decide), if_neg (by rw [hk]; decide), if_pos hx, if_neg (by rw [hk]; decide), if_pos h4, if_neg (by rw [hk]; decide), if_pos hk]
  dsimp only
  by_cases c : x3 = 0
  · rw [if_pos c, if_pos c, if_pos (by rw [hf]; decide)]
  · rw [if_neg c, if_neg c]
theorem ms_7 {m : Nat} {d : TMd} {x1 x3 x4 x5 x6 r : Int32} (hf : TMd_fault d = 0) (hk : f_Md_kindOf d r = 7) (hx : x5 ≤ 0) (h4 : x4 = 0) (h0 : ¬ x1 = 0) : f_Md_skip_15 (m + 1) d x1 x3 x4 x5 x6 r = if x6 + 1 = x3 then TMd_set_phases d (upd (TMd_phases d) (TMd_open d - 1).toNatClampNeg 3) else (match f_Md_need d with | (r, w) => f_Md_skip_15 m w x1 x3 x4 x5 (x6 + 1) r) := by
  rw [f_Md_skip_15, if_pos hf, if_neg (by rw [hk]; decide), if_neg (by rw [hk]; decide), if_neg (by rw [hk]; decide), if_pos hx, if_neg (by rw [hk]; decide), if_pos h4, if_pos hk, if_neg h0, if_neg (by rw [hk]; decide)]
  dsimp only
  by_cases c : x6 + 1 = x3
  · rw [if_pos c, if_pos c]
  · rw [if_neg c, if_neg c, if_pos (by rw [hf]; decide)]
