/-- the reference as a run begins -/
def D0_ (d : TMd) (g1 g2 : Nat → Int32) : TMd := TMd_set_open (TMd_set_skipped (TMd_set_most (TMd_set_opened (TMd_set_outSize (TMd_set_fault (TMd_set_steps (TMd_set_held (TMd_set_pile (TMd_set_pilePlaces (TMd_set_pileRows (TMd_set_thrown d 0) g1) g2) 1) (-1)) 0) 0) 0) 0) 0) 0) 0
def D1_ (d : TMd) (g1 g2 g : Nat → Int32) : TMd := TMd_set_hasRun (TMd_set_decided (D0_ d g1 g2) g) 1
theorem D1_p (d : TMd) (g1 g2 g : Nat → Int32) : TMd_pileRows (D1_ d g1 g2 g) = g1 ∧ TMd_pilePlaces (D1_ d g1 g2 g) = g2 ∧ TMd_pile (D1_ d g1 g2 g) = 1 ∧ TMd_held (D1_ d g1 g2 g) = -1 ∧ TMd_steps (D1_ d g1 g2 g) = 0 ∧ TMd_out (D1_ d g1 g2 g) = TMd_out d ∧ TMd_outSize (D1_ d g1 g2 g) = 0 ∧ TMd_open (D1_ d g1 g2 g) = 0 ∧ TMd_opened (D1_ d g1 g2 g) = 0 ∧ TMd_most (D1_ d g1 g2 g) = 0 ∧ TMd_skipped (D1_ d g1 g2 g) = 0 ∧ TMd_fault (D1_ d g1 g2 g) = 0 ∧ TMd_decided (D1_ d g1 g2 g) = g ∧ TMd_hasRun (D1_ d g1 g2 g) = 1 := ⟨rfl, rfl, rfl, rfl, rfl, rfl, rfl, rfl, rfl, rfl, rfl, rfl, rfl, rfl⟩
theorem BR_hasRun {b : TBk} {d : TMd} (x : Int32) (h : BR b d) : BR b (TMd_set_hasRun d x) := ⟨h.1, h.2.1, h.2.2.1, h.2.2.2.1, h.2.2.2.2.1, h.2.2.2.2.2.1, h.2.2.2.2.2.2.1, h.2.2.2.2.2.2.2⟩
theorem D1_S {b : TBk} {d : TMd} (hb : BR b d) (hs : MdS d) (hz : ZB d) {g1 g2 : Nat → Int32} (g : Nat → Int32) (h1 : g1 0 = 20) (h2 : g2 0 = 0) : BR b (D1_ d g1 g2 g) ∧ MdS (D1_ d g1 g2 g) ∧ MdP (D1_ d g1 g2 g) ∧ ZB (D1_ d g1 g2 g) := by
  have q := ru_0 hs g1 g2 h1 h2
  have hE : MdE d (TMd_set_decided (D0_ d g1 g2) g) := MdE_t (ru_E d g1 g2) (MdE_decided _ g)
  refine ⟨BR_hasRun 1 (BR_E hE hb), MdS_hasRun 1 (MdE_S hE hs), MdP_hasRun 1 (MdP_decided g q.2), ?_⟩
  have e1 : TMd_bodies (D1_ d g1 g2 g) = TMd_bodies d := rfl
  have e2 : TMd_sizes (D1_ d g1 g2 g) = TMd_sizes d := rfl
  unfold ZB
  rw [e1, e2]
  exact hz
theorem st_run {u : TRn} {d : TMd} (b : TBk) (h : RIv u d) {g : Nat → Int32} (hg : ∀ i : Nat, i < 100 → g i = -5) : RR (TRn_set_rd (f_Rn_forget b u) (f_Rd_restart b (TRn_rd (f_Rn_forget b u)))) (D1_ d (upd (TMd_pileRows d) (0 : Int32).toNatClampNeg 20) (upd (TMd_pilePlaces d) (0 : Int32).toNatClampNeg 0) g) := by
  obtain ⟨r1, r2, r3, r4, r5, r6, r7, r8, r9, r10, r11, r12, r13⟩ := h
  obtain ⟨p1, p2, p3, p4, p5, p6, p7, p8, p9, p10, p11, p12, p13, p14⟩ := D1_p d (upd (TMd_pileRows d) (0 : Int32).toNatClampNeg 20) (upd (TMd_pilePlaces d) (0 : Int32).toNatClampNeg 0) g
  have hrd : f_Rd_restart b (TRn_rd (f_Rn_forget b u)) = TRd_set_top (TRd_set_places (TRd_set_rows (TRd_set_steps (TRd_set_kept (TRd_set_top (TRn_rd u) (-1)) (-1)) 0) (upd (TRd_rows (TRn_rd u)) ((-1 : Int32) + 1).toNatClampNeg 20)) (upd (TRd_places (TRn_rd u)) ((-1 : Int32) + 1).toNatClampNeg 0)) ((-1 : Int32) + 1) := by
    unfold f_Rd_restart f_Rd_goOnWith
    have ht : TRd_top (TRd_set_steps (TRd_set_kept (TRd_set_top (TRn_rd (f_Rn_forget b u)) (-1)) (-1)) 0) = -1 := rfl
    rw [ht, if_neg (by decide), if_neg (by decide)]
    rfl
  rw [hrd]
  refine ⟨⟨?_, ?_, ?_, ?_, ?_⟩, ?_, ?_, ?_, ?_, ?_, ?_, ?_, ?_⟩
  · rw [p1, ← r1]
    rfl
  · rw [p2, ← r2]
    rfl
  · rw [p3]
    rfl
  · rw [p4]
    rfl
  · rw [p5]
    rfl
  · rw [p6, ← r4]
    rfl
  · rw [p7]
    rfl
  · rw [p8]
    rfl
  · rw [p9]
    rfl
  · rw [p10]
    rfl
  · rw [p11]
    rfl
  · rw [p12]
    rfl
  · intro i hi
    rw [p13, hg i hi]
    exact fill_e (TRn_decisions u) (-5) i hi
theorem inv_run {z : TCt} {d : TMd} (h : INV z d) : CQ (f_Ct_run (opN 20) z) (f_Md_run (opM 20) d) := by
  obtain ⟨hb, hs, hz, hr⟩ := h
  obtain ⟨g, hg, he⟩ := ru_67 (opM 20) 101 (D0_ d (upd (TMd_pileRows d) (0 : Int32).toNatClampNeg 20) (upd (TMd_pilePlaces d) (0 : Int32).toNatClampNeg 0)) 0 ⟨by rw [e_0]; omega, by rw [e_0]; omega⟩ (by rw [e_0]; omega) (fun i hi => by rw [e_0] at hi; omega)
  have hM : f_Md_run (opM 20) d = f_Md_run_67 (opM 20) 101 (D0_ d (upd (TMd_pileRows d) (0 : Int32).toNatClampNeg 20) (upd (TMd_pilePlaces d) (0 : Int32).toNatClampNeg 0)) 0 := rfl
  have hC : f_Ct_run (opN 20) z = match f_Rn_goThroughInput_13 (opN 20) TM (TCt_bk z) (TRn_set_rd (f_Rn_forget (TCt_bk z) (TCt_rn z)) (f_Rd_restart (TCt_bk z) (TRn_rd (f_Rn_forget (TCt_bk z) (TCt_rn z))))) 0 with | (r, v) => (r, TCt_set_rn z v) := rfl
  have hd : TMd_set_hasRun (TMd_set_decided (D0_ d (upd (TMd_pileRows d) (0 : Int32).toNatClampNeg 20) (upd (TMd_pilePlaces d) (0 : Int32).toNatClampNeg 0)) g) 1 = D1_ d (upd (TMd_pileRows d) (0 : Int32).toNatClampNeg 20) (upd (TMd_pilePlaces d) (0 : Int32).toNatClampNeg 0) g := rfl
  rw [hM, he, hC, hd]
  obtain ⟨b1, b2, b3, b4⟩ := D1_S hb hs hz (g1 := upd (TMd_pileRows d) (0 : Int32).toNatClampNeg 20) (g2 := upd (TMd_pilePlaces d) (0 : Int32).toNatClampNeg 0) g pk_us pk_us
  have hRR := st_run (TCt_bk z) hr hg
  have hp := D1_p d (upd (TMd_pileRows d) (0 : Int32).toNatClampNeg 20) (upd (TMd_pilePlaces d) (0 : Int32).toNatClampNeg 0) g
  generalize D1_ d (upd (TMd_pileRows d) (0 : Int32).toNatClampNeg 20) (upd (TMd_pilePlaces d) (0 : Int32).toNatClampNeg 0) g = e at b1 b2 b3 b4 hRR hp ⊢
  generalize TRn_set_rd (f_Rn_forget (TCt_bk z) (TCt_rn z)) (f_Rd_restart (TCt_bk z) (TRn_rd (f_Rn_forget (TCt_bk z) (TCt_rn z)))) = u1 at hRR ⊢
  have hmu := mu_0 b3
  have hop : TMd_open e = 0 := hp.2.2.2.2.2.2.2.1
  have hrun : TMd_hasRun e = 1 := hp.2.2.2.2.2.2.2.2.2.2.2.2.2
  have h13 := sim_13 (opN 20) (opM 20) ((20 : Int) - (20 : Nat)) (opM_m 20) (sim_opN 20) (by omega) TM TM (TCt_bk z) u1 e 0 b1 b2 b3 hRR (fun _ i hi hi2 => by rw [hop, e_0] at hi2; omega) (by rw [e_0]; omega) (by rw [TM_eq]; omega) (by rw [TM_eq]; omega) (fun _ => ⟨by rw [e_0]; omega, by rw [TM_eq]; omega, by rw [TM_eq]; omega⟩)
  rcases hl : f_Rn_goThroughInput_13 (opN 20) TM (TCt_bk z) u1 0 with ⟨r, v⟩
  rcases hm : f_Md_next e with ⟨y, f⟩
  rw [hl, hm] at h13
  dsimp only at h13 ⊢
  rcases hq : f_Md_run_97 (opM 20) TM f y with ⟨r', d'⟩
  rw [hq] at h13
  obtain ⟨q1, q2, q3, q4⟩ := h13
  have q1 : r = r' := q1
  have q2 : RR v d' := q2
  have q3 : MdE e d' := q3
  have q4 : MdP d' := q4
  have hh : ¬ TMd_hasRun d' = 0 := by
    rw [q3.2.2.2.2.2.2.2, hrun]
    decide
  obtain ⟨⟨r1, r2, r3, r4, r5⟩, o1, o2, o3, o4, o5, o6, o7, o8⟩ := q2
  refine ⟨q1, BR_E q3 b1, MdE_S q3 b2, ?_, r1, r2, r5, o1, o2, o3, o4, o5, o6, o7, q4.2.2.2.2.2.1, fun q => absurd q hh, fun _ => o8⟩
  show ZB d'
  unfold ZB
  rw [q3.2.2.1, q3.2.2.2.2.1]
  exact b4
