/-! Rows of my own over the kit: contracts over a world as one word, calls as one row. -/
/-- the links of nest mates hold: a word of this kind isn't kept by the tables' own rows, so every contract carries it -/
def wx_N (U : State) : Prop := ∀ q ∈ nestL, va_Nw (.methodLinkNest q.1 q.2.1 q.2.2.1 q.2.2.2) U
theorem wx_N.warm {s U : State} (hW : s.WarmedH U.vm) (h : wx_N s) : wx_N U := fun q hq => va_Nw.warmM hW (h q hq)
theorem tb_in {c : Cond} (h : c ∈ TB) : GoodIn TB (c :: TB) := fun w hw => (List.mem_cons.mp hw).elim (fun e => by rw [e]; exact ⟨h, good_of_word (TB_good c h)⟩) (fun h => ⟨h, good_of_word (TB_good w h)⟩)
theorem tb_V {own C : String} {idx : Nat} {y : MethodName} {c : Cond} (h1 : Cond.methodLink own idx y ∈ TB) (h2 : Cond.instanceMethod y ∈ TB) (h3 : Cond.selects C y y ∈ TB) (h4 : Cond.initialized C ∈ TB) (h5 : c ∈ TB) : GoodIn TB (wsV own idx C y (c :: TB)) := by
  intro w hw
  unfold wsV at hw
  rcases List.mem_append.mp hw with hw | hw
  · have hm : w ∈ TB := by
      simp only [List.mem_cons, List.not_mem_nil, or_false] at hw
      rcases hw with rfl | rfl | rfl | rfl <;> assumption
    exact ⟨hm, good_of_word (TB_good w hm)⟩
  · exact tb_in h5 w hw
theorem tb_S {own : String} {idx : Nat} {y : MethodName} {c : Cond} (h1 : Cond.methodLink own idx y ∈ TB) (h2 : Cond.static y ∈ TB) (h4 : Cond.initialized y.cls ∈ TB) (h5 : c ∈ TB) : GoodIn TB (va_wsS own idx y (c :: TB)) := by
  intro w hw
  unfold va_wsS at hw
  rcases List.mem_append.mp hw with hw | hw
  · have hm : w ∈ TB := by
      simp only [List.mem_cons, List.not_mem_nil, or_false] at hw
      rcases hw with rfl | rfl | rfl <;> assumption
    exact ⟨hm, good_of_word (TB_good w hm)⟩
  · exact tb_in h5 w hw
abbrev wx_P (D : va_G) (cl : List vw_C) (ty : List (ClassId × FieldType)) (w : va_W) (sz : Nat) : State → Prop := fun U => U.heap.size = sz ∧ va_P D cl w U.heap ∧ va_K D cl ty U ∧ va_D (fun _ => True) w ∧ wx_N U
abbrev wx_B {S : Type} (D : va_G) (cl : List vw_C) (ty : List (ClassId × FieldType)) (w : S → va_W) (A : Nat → Prop) : S → State → Prop := fun v t => va_P D cl (w v) t.heap ∧ va_K D cl ty t ∧ va_D A (w v)
/-- the contract of a method that answers an int (or a boolean) -/
abbrev wx_Mi {S : Type} (l : Launch) (y : MethodName) (ws : List Cond) (rm : Room) (D : va_G) (cl : List vw_C) (ty : List (ClassId × FieldType)) (av : List Value) (w0 : va_W) (sz : Nat) (w : S → va_W) (post : Int32 → S → Prop) : Prop :=
  Met l y ws rm (va_Pc av (wx_P D cl ty w0 sz)) (va_Qi post (wx_B D cl ty w (va_A w0 sz)) (va_A w0 sz)) 0 0 (va_A w0 sz)
/-- the contract of a method that answers nothing -/
abbrev wx_Mv {S : Type} (l : Launch) (y : MethodName) (ws : List Cond) (rm : Room) (D : va_G) (cl : List vw_C) (ty : List (ClassId × FieldType)) (av : List Value) (w0 : va_W) (sz : Nat) (w : S → va_W) (post : S → Prop) : Prop :=
  Met l y ws rm (va_Pc av (wx_P D cl ty w0 sz)) (va_Qv post (wx_B D cl ty w (va_A w0 sz)) (va_A w0 sz)) 0 0 (va_A w0 sz)
theorem wx_blind {D : va_G} {cl : List vw_C} {ty : List (ClassId × FieldType)} {w : va_W} {sz : Nat} {av : List Value} : FrameBlind (va_Pc av (wx_P D cl ty w sz)) := fun a U g mk q => by
  obtain ⟨q0, q1, qP, qK, qD, qN⟩ := q
  exact ⟨q0, q1, qP, va_K.moved (u := U) (U := U.calling g mk a) (Vm.Alike.refl U.vm) qK, qD, fun z hz => va_Nw.same (u := U) (U := U.calling g mk a) rfl rfl (qN z hz)⟩
theorem wx_fm {α : Type} (ws : List α) : ∀ (is : List Nat) (wc : List α), is.map (fun i => ws[i]?) = wc.map some → is.filterMap (fun i => ws[i]?) = wc
  | [], [], _ => rfl
  | [], _ :: _, h => by simp at h
  | _ :: _, [], h => by simp at h
  | i :: is, w :: wc, h => by
    simp only [List.map_cons, List.cons.injEq] at h
    rw [List.filterMap_cons, h.1, wx_fm ws is wc h.2]
theorem wx_mf {α : Type} (ws : List α) : ∀ (is : List Nat), is.all (fun i => decide (i < ws.length)) = true → is.map (fun i => ws[i]?) = (is.filterMap (fun i => ws[i]?)).map some
  | [], _ => rfl
  | i :: is, h => by
    simp only [List.all_cons, Bool.and_eq_true, decide_eq_true_eq] at h
    have h1 : ws[i]? = some ws[i] := List.getElem?_eq_getElem h.1
    rw [List.map_cons, List.filterMap_cons, h1, wx_mf ws is h.2]
    rfl
/-- behind a call: the caller's cells in their old order, those of the callee as they came back -/
theorem wx_mix {A0 : Nat → Prop} {D : va_G} {cl : List vw_C} {ws wc w1 w2 : va_W} {H H1 : Heap} (hP : va_P D cl ws H) (hD : va_D A0 ws) (isC isR pm : List Nat) (hC : isC.map (fun i => ws[i]?) = wc.map some) (hR : isR.all (fun i => decide (i < ws.length)) = true) (hn : va_nd isR = true) (hdis : ∀ i ∈ isR, i ∉ isC) (hpn : va_nd pm = true)
    (hpm : pm.map (fun i => (isR.filterMap (fun i => ws[i]?) ++ w1)[i]?) = w2.map some) (hk : ∀ q : Nat, q < H.size → ¬ va_A wc H.size q → H1[q]? = H[q]?) (hF : ∀ q, va_A wc H.size q → A0 q) (hP1 : va_P D cl w1 H1) (hD1 : va_D (va_A wc H.size) w1) : va_P D cl w2 H1 ∧ va_D A0 w2 := by
  obtain ⟨hP2, hD2⟩ := va_join (wr := isR.filterMap (fun i => ws[i]?)) (w1 := w1) hP hD isC isR hC (wx_mf ws isR hR) hn hdis hk hF hP1 hD1
  exact ⟨hP2.sub pm (wx_fm _ pm w2 hpm), hD2.sub pm hpn hpm⟩
section WX
variable {p : Program} {l : Launch} {e : Env} {R : Room} {s : State} {m : MethodId} {args : Array Value} {below : List Frame} {meth : Method} {c : Code} {H : Heap} {locs : List Loc} {cells slots : Nat} {Q : State → Prop}
  {Ts ws : List Cond} {cc bytes : ByteArray} {nL maxL index n pc : Nat} {own host : String} {y : MethodName} {ret : Option FieldType} {rm : Room} {b : Addr} {As rest st0 : List Value} {ls : Array Slot} {a : Array Value}
  {D : va_G} {cl : List vw_C} {tys tyc : List (ClassId × FieldType)} {ww wc : va_W} {A : Nat → Prop} {ci q0 : Nat} {q : vw_C} {fs : List Value}
theorem wx_ci {S : Type} {wS ws2 : S → va_W} {post : Int32 → S → Prop} (hr : va_Run p l e R s m args below meth c H locs cells slots 0 0 (F0 m pc ls st0) rest (va_Qi post (wx_B D cl tyc wS (va_A wc H.size)) (va_A wc H.size) a) (va_A wc H.size)) (hP : va_P D cl ww H) (hD : va_D A ww) (hS : va_S A s.heap H locs) (hA : ∀ q, s.heap.size ≤ q → A q) (isC isR pm : List Nat)
    (hC : isC.map (fun i => ww[i]?) = wc.map some) (hR : isR.all (fun i => decide (i < ww.length)) = true) (hn : va_nd isR = true) (hdis : ∀ i ∈ isR, i ∉ isC) (hpn : va_nd pm = true) (hpm : ∀ u, pm.map (fun i => (isR.filterMap (fun i => ww[i]?) ++ wS u)[i]?) = (ws2 u).map some)
    (kk : ∀ (r : Int32) (u : S) (H1 : Heap) (locs1 : List Loc), post r u → va_P D cl (ws2 u) H1 → va_D A (ws2 u) → va_S A s.heap H1 locs1 → W p l e R s m args below meth c H1 locs1 cells slots Q (F0 m (pc + 3) ls (.int r :: rest))) : W p l e R s m args below meth c H locs cells slots Q (F0 m pc ls st0) := by
  have hFc := va_free (wc := wc) hD hS hA isC hC
  refine va_calli hr hS (fun q _ h => hFc q h) hFc (fun r u t H1 locs1 ht hvm hw hB hz1 hk1 hS1 => ?_)
  obtain ⟨hP1, hK1, hD1⟩ := hB
  rw [ht] at hP1
  obtain ⟨hP2, hD2⟩ := wx_mix hP hD isC isR pm hC hR hn hdis hpn (hpm u) hk1 hFc hP1 hD1
  exact kk r u H1 locs1 hw hP2 hD2 hS1
theorem wx_cv {S : Type} {wS ws2 : S → va_W} {post : S → Prop} (hr : va_Run p l e R s m args below meth c H locs cells slots 0 0 (F0 m pc ls st0) rest (va_Qv post (wx_B D cl tyc wS (va_A wc H.size)) (va_A wc H.size) a) (va_A wc H.size)) (hP : va_P D cl ww H) (hD : va_D A ww) (hS : va_S A s.heap H locs) (hA : ∀ q, s.heap.size ≤ q → A q) (isC isR pm : List Nat)
    (hC : isC.map (fun i => ww[i]?) = wc.map some) (hR : isR.all (fun i => decide (i < ww.length)) = true) (hn : va_nd isR = true) (hdis : ∀ i ∈ isR, i ∉ isC) (hpn : va_nd pm = true) (hpm : ∀ u, pm.map (fun i => (isR.filterMap (fun i => ww[i]?) ++ wS u)[i]?) = (ws2 u).map some)
    (kk : ∀ (u : S) (H1 : Heap) (locs1 : List Loc), post u → va_P D cl (ws2 u) H1 → va_D A (ws2 u) → va_S A s.heap H1 locs1 → W p l e R s m args below meth c H1 locs1 cells slots Q (F0 m (pc + 3) ls rest)) : W p l e R s m args below meth c H locs cells slots Q (F0 m pc ls st0) := by
  have hFc := va_free (wc := wc) hD hS hA isC hC
  refine va_callv hr hS (fun q _ h => hFc q h) hFc (fun u t H1 locs1 ht hvm hw hB hz1 hk1 hS1 => ?_)
  obtain ⟨hP1, hK1, hD1⟩ := hB
  rw [ht] at hP1
  obtain ⟨hP2, hD2⟩ := wx_mix hP hD isC isR pm hC hR hn hdis hpn (hpm u) hk1 hFc hP1 hD1
  exact kk u H1 locs1 hw hP2 hD2 hS1
/-- what a callee over the cells wc finds at its start -/
theorem wx_preS {av : List Value} (hN : wx_N s) (hK : va_K D cl tys s) (hP : va_P D cl ww H) (hD : va_D A ww) (isC isT : List Nat) (hC : isC.map (fun i => ww[i]?) = wc.map some) (hnC : va_nd isC = true) (hT : isT.filterMap (fun i => tys[i]?) = tyc) : PreS s H (va_Pc av (wx_P D cl tyc wc H.size)) av :=
  ⟨wx_blind, fun U hU hW => ⟨rfl, by rw [hU], by rw [hU]; exact hP.sub isC (wx_fm _ isC wc hC), va_K.moved hW.alike (hK.sub isT hT), (hD.sub isC hnC hC).weaken (fun _ _ _ _ => trivial), hN.warm hW⟩⟩
theorem wx_preV (hN : wx_N s) (hK : va_K D cl tys s) (hP : va_P D cl ww H) (hD : va_D A ww) (isC isT : List Nat) (hC : isC.map (fun i => ww[i]?) = wc.map some) (hnC : va_nd isC = true) (hT : isT.filterMap (fun i => tys[i]?) = tyc) (hc : cl[ci]? = some q) (he : wc[q0]? = some (b, .inr (ci, fs))) : PreV s H q.1 b (va_Pc (.ref b :: As) (wx_P D cl tyc wc H.size)) As :=
  ⟨wx_blind, va_recv (hK.sub isT hT) (hP.sub isC (wx_fm _ isC wc hC)) hc he, fun U hU hW => ⟨rfl, by rw [hU], by rw [hU]; exact hP.sub isC (wx_fm _ isC wc hC), va_K.moved hW.alike (hK.sub isT hT), (hD.sub isC hnC hC).weaken (fun _ _ _ _ => trivial), hN.warm hW⟩⟩
end WX
/-- what stands through a walk: the machine, the code, the tables' words, which cells may change, the classes -/
def wx_C (p : Program) (s : State) (m : MethodId) (args : Array Value) (meth : Method) (c : Code) (cc : ByteArray) (ret : Option FieldType) (nL : Nat) (own : String) (A : Nat → Prop) (D : va_G) (cl : List vw_C) (tys : List (ClassId × FieldType)) : Prop :=
  p.tables.exec = Jvm.exec ∧ c.code = cc ∧ meth.sig.returnType = ret ∧ c.maxLocals = nL ∧ s.vm.findClass own = some m.cls ∧ (∀ w ∈ TB, w.before args s = true) ∧ meth.locks = false ∧ (∀ q : Nat, s.heap.size ≤ q → A q) ∧ va_K D cl tys s ∧ wx_N s
theorem wx_inAU {x N : Int32} {n : Nat} (hN : N.toInt ≤ (n : Int)) (h0 : ¬ x < 0) (h1 : ¬ N ≤ x) : vp_in x n := by
  rw [Int32.lt_iff_toInt_lt, Int32.toInt_zero] at h0
  rw [Int32.le_iff_toInt_le] at h1
  rw [vp_in_iff]
  omega
theorem wx_inAV {x N : Int32} {n : Nat} (hN : N.toInt ≤ (n : Int)) (h0 : ¬ x < 0) (h1 : x < N) : vp_in x n := by
  rw [Int32.lt_iff_toInt_lt, Int32.toInt_zero] at h0
  rw [Int32.lt_iff_toInt_lt] at h1
  rw [vp_in_iff]
  omega
theorem wx_inBU {x N : Int32} {n : Nat} (hN : N.toInt ≤ (n : Int)) (h0 : 0 ≤ x) (h1 : ¬ N ≤ x) : vp_in x n := by
  rw [Int32.le_iff_toInt_le, Int32.toInt_zero] at h0
  rw [Int32.le_iff_toInt_le] at h1
  rw [vp_in_iff]
  omega
theorem wx_inBV {x N : Int32} {n : Nat} (hN : N.toInt ≤ (n : Int)) (h0 : 0 ≤ x) (h1 : x < N) : vp_in x n := by
  rw [Int32.le_iff_toInt_le, Int32.toInt_zero] at h0
  rw [Int32.lt_iff_toInt_lt] at h1
  rw [vp_in_iff]
  omega
theorem wx_inAW {x N : Int32} {n : Nat} (hN : N.toInt < (n : Int)) (h0 : ¬ x < 0) (h1 : ¬ N < x) : vp_in x n := by
  rw [Int32.lt_iff_toInt_lt, Int32.toInt_zero] at h0
  rw [Int32.lt_iff_toInt_lt] at h1
  rw [vp_in_iff]
  omega
