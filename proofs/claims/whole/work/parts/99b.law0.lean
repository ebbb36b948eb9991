/-! THE CLAIM OUT OF ONE WALK OF THE LAW'S BODY. Your part is whole_start (and what it stands on); all else here is the same for every law, but numbers. -/
def R_law : String := "ConditionTextLaw"
def lw_P (b : Addr) (xs : List Int32) (args : Array Value) (s : State) : Prop := args = #[.ref b] ∧ s.IntsAt b xs ∧ xs.length ≤ 2048 ∧ (Jvm.Cond.and given_1 narrow_1).before args s = true
def lw_Q (_ : Array Value) (s : State) (o : Outcome) (t : State) : Prop := o = .returned (some (.int 1)) ∧ Framed s o t [] 600000 7302250
def lw_Z (below : List Frame) (a : Array Value) (s : State) : State → Prop := fun t => ∃ o, t.status = .running ∧ Ended t below o ∧ lw_Q a s o t
/-- the law's own end, with 1 on the stack, nothing written that was there before, its room as the claim has it -/
theorem lw_ret {p : Program} {l : Launch} {e : Env} {s : State} {m : MethodId} {below : List Frame} {meth : Method} {c : Code} {b : Nat} (hx : p.tables.exec = Jvm.exec) (hb : c.code = code) (hr : meth.sig.returnType = ret) (hlocks : meth.locks = false) {pc : Nat} {H : Heap} {ls : Array Slot} (hdg : decode code pc = .ok (.ireturn, 1)) : W p l e room_1 s m #[Value.ref b] below meth c H [] 600000 7302250 (lw_Z below #[Value.ref b] s) (F0 m pc ls [.int 1]) := by
  intro T hT X
  obtain ⟨fs, hret, hrun, hended, hW, hframe⟩ := X.leave (v := some (.int 1)) (hlocks := hlocks) (fun h => by rw [hr] at h; cases h)
  have hmeth' : T.vm.method? m = some meth := X.method'
  refine ⟨T.setFrames fs, ?_, .returned (some (.int 1)), hrun, hended, rfl, ⟨_, rfl⟩, hW, hframe⟩
  jvm_step X.here [X.here.top, hx, hb, hdg, hmeth', hr, ret, narrow_b1]
  (try refine ⟨rfl, ?_⟩); (try refine ⟨rfl, ?_⟩)
  first | (intro acts; rw [hret _ acts rfl rfl rfl]) | rw [hret _ _ rfl rfl rfl]
  exact Steps.refl _
/-- what holds at the law's entry: the machine, the code, the tables' words (any of lw_tbl by 'hts w (by decide +kernel)'), the script of L ints xs at the cell b, what the Statement gives of the start (any of its parts by flat_of_before) -/
def lw_At (p : Program) (s : State) (m : MethodId) (meth : Method) (c : Code) (b L : Nat) (xs : Nat → Int32) : Prop :=
  p.tables.exec = Jvm.exec ∧ c.code = code ∧ meth.sig.returnType = ret ∧ c.maxLocals = 4 ∧ s.vm.findClass R_law = some m.cls ∧ (∀ w ∈ lw_tbl, w.before #[Value.ref b] s = true) ∧ va_X b L xs s s.heap ∧ b < s.heap.size ∧ meth.locks = false ∧ (Jvm.Cond.and given_1 narrow_1).before #[Value.ref b] s = true
/-- the world of the law: the class's object and the reference's -/
abbrev w_L (ad1 ad2 : Nat → Nat) (ca1 ca2 : Nat → ClassId) (z : TCt) (d : TMd) : va_W := [((ad1 15), .inr (3, [.ref (ad1 8), .ref (ad1 0)])), ((ad1 0), .inr (2, [.ref (ad1 8), .ref (ad1 5), .ref (ad1 1), .ref (ad1 2), .ref (ad1 3), .ref (ad1 4), .int (TRn_outSize (TCt_rn z)), .int (TRn_openCount (TCt_rn z)), .int (TRn_opened (TCt_rn z)), .int (TRn_mostOpen (TCt_rn z)), .int (TRn_skipped (TCt_rn z)), .int (TRn_fault (TCt_rn z))])), ((ad1 1), .inl ((ca1 1), 300, .inl (TRn_out (TCt_rn z)))), ((ad1 2), .inl ((ca1 2), 100, .inl (TRn_decisions (TCt_rn z)))), ((ad1 3), .inl ((ca1 3), 20, .inl (TRn_isCase (TCt_rn z)))), ((ad1 4), .inl ((ca1 4), 20, .inl (TRn_hadElse (TCt_rn z)))), ((ad1 5), .inr (1, [.ref (ad1 8), .ref (ad1 6), .ref (ad1 7), .int (TRd_top (TRn_rd (TCt_rn z))), .int (TRd_kept (TRn_rd (TCt_rn z))), .int (TRd_steps (TRn_rd (TCt_rn z)))])), ((ad1 6), .inl ((ca1 6), 5001, .inl (TRd_rows (TRn_rd (TCt_rn z))))), ((ad1 7), .inl ((ca1 7), 5001, .inl (TRd_places (TRn_rd (TCt_rn z))))), ((ad1 8), .inr (0, [.ref (ad1 9), .ref (ad1 10), .ref (ad1 11), .ref (ad1 12), .ref (ad1 13), .ref (ad1 14), .int (TBk_bodyCount (TCt_bk z))])), ((ad1 9), .inl ((ca1 9), 40, .inl (TBk_kinds (TCt_bk z)))), ((ad1 10), .inl ((ca1 10), 40, .inl (TBk_values (TCt_bk z)))), ((ad1 11), .inl ((ca1 11), 440, .inl (TBk_cells (TCt_bk z)))), ((ad1 12), .inl ((ca1 12), 21, .inl (TBk_sizes (TCt_bk z)))), ((ad1 13), .inl ((ca1 13), 4, .inl (TBk_modes (TCt_bk z)))), ((ad1 14), .inl ((ca1 14), 8, .inl (TBk_files (TCt_bk z)))), ((ad2 16), .inr (4, [.int (TMd_thrown d), .ref (ad2 17), .ref (ad2 18), .int (TMd_bodies d), .ref (ad2 19), .ref (ad2 20), .ref (ad2 21), .ref (ad2 22), .ref (ad2 23), .ref (ad2 24), .int (TMd_pile d), .int (TMd_held d), .int (TMd_steps d), .int (TMd_fault d), .ref (ad2 25), .int (TMd_outSize d), .int (TMd_opened d), .int (TMd_most d), .int (TMd_skipped d), .ref (ad2 26), .ref (ad2 27), .int (TMd_open d), .int (TMd_hasRun d)])), ((ad2 17), .inl ((ca2 17), 40, .inl (TMd_kinds d))), ((ad2 18), .inl ((ca2 18), 40, .inl (TMd_values d))), ((ad2 19), .inl ((ca2 19), 4200, .inl (TMd_rows d))), ((ad2 20), .inl ((ca2 20), 21, .inl (TMd_sizes d))), ((ad2 21), .inl ((ca2 21), 4, .inl (TMd_modes d))), ((ad2 22), .inl ((ca2 22), 8, .inl (TMd_ends d))), ((ad2 23), .inl ((ca2 23), 5010, .inl (TMd_pileRows d))), ((ad2 24), .inl ((ca2 24), 5010, .inl (TMd_pilePlaces d))), ((ad2 25), .inl ((ca2 25), 300, .inl (TMd_out d))), ((ad2 26), .inl ((ca2 26), 100, .inl (TMd_decided d))), ((ad2 27), .inl ((ca2 27), 20, .inl (TMd_phases d)))]
abbrev t_L (ca1 ca2 : Nat → ClassId) : List (ClassId × FieldType) := [((ca1 1), .int), ((ca1 2), .int), ((ca1 3), .boolean), ((ca1 4), .boolean), ((ca1 6), .int), ((ca1 7), .int), ((ca1 9), .int), ((ca1 10), .int), ((ca1 11), .int), ((ca1 12), .int), ((ca1 13), .boolean), ((ca1 14), .boolean), ((ca2 17), .int), ((ca2 18), .int), ((ca2 19), .int), ((ca2 20), .int), ((ca2 21), .boolean), ((ca2 22), .boolean), ((ca2 23), .int), ((ca2 24), .int), ((ca2 25), .int), ((ca2 26), .int), ((ca2 27), .int)]
abbrev R_Lw : String := "ConditionTextLaw"
theorem at_w_eq (d : TMd) (x : Int32) : f_Md_at_w d x = f_Md_at d x := rfl
theorem in_s {x3 : Int32} {i L : Nat} (hx : x3 = nI i) (J : Int32) (j : Nat) (hj : J.toInt = (j : Int)) (h : i + j < L) (hL : L < 2100) : vp_in (x3 + J) L := by
  have h1 : x3.toInt = (i : Int) := by
    rw [hx]
    exact nI_toInt (by omega)
  have h2 : (x3 + J).toInt = (i : Int) + j := by rw [i32_add (by omega) (by omega), h1, hj]
  exact vp_of (by omega) (by omega)
theorem step4 {x3 : Int32} {i : Nat} (hx : x3 = nI i) (hi : i < 2100) : x3 + 4 = nI (i + 4) := by
  rw [i32_eq, hx]
  have e4 : (4 : Int32).toInt = 4 := by decide
  have h1 : (nI i).toInt = (i : Int) := nI_toInt (by omega)
  have h2 : (nI (i + 4)).toInt = ((i + 4 : Nat) : Int) := nI_toInt (by omega)
  rw [h2, i32_add (by omega) (by omega), h1, e4]
  omega
theorem q_174 : Cond.methodLink R_Lw 13 y_Ct_meaning ∈ TB := tq 174 (by decide +kernel) rfl
theorem q_175 : Cond.instanceMethod y_Ct_meaning ∈ TB := tq 175 (by decide +kernel) rfl
theorem q_176 : Cond.selects R_Ct y_Ct_meaning y_Ct_meaning ∈ TB := tq 176 (by decide +kernel) rfl
theorem q_177 : Cond.code y_Ct_meaning b_Ct_meaning 4 (some .int) ∈ TB := tq 177 (by decide +kernel) rfl
theorem q_194 : Cond.methodLink R_Lw 18 y_Ct_body ∈ TB := tq 194 (by decide +kernel) rfl
theorem q_195 : Cond.instanceMethod y_Ct_body ∈ TB := tq 195 (by decide +kernel) rfl
theorem q_196 : Cond.selects R_Ct y_Ct_body y_Ct_body ∈ TB := tq 196 (by decide +kernel) rfl
theorem q_197 : Cond.code y_Ct_body b_Ct_body 1 (some .int) ∈ TB := tq 197 (by decide +kernel) rfl
theorem q_202 : Cond.methodLink R_Lw 23 y_Ct_token ∈ TB := tq 202 (by decide +kernel) rfl
theorem q_203 : Cond.instanceMethod y_Ct_token ∈ TB := tq 203 (by decide +kernel) rfl
theorem q_204 : Cond.selects R_Ct y_Ct_token y_Ct_token ∈ TB := tq 204 (by decide +kernel) rfl
theorem q_205 : Cond.code y_Ct_token b_Ct_token 3 (some .int) ∈ TB := tq 205 (by decide +kernel) rfl
theorem q_220 : Cond.methodLink R_Lw 28 y_Ct_clear ∈ TB := tq 220 (by decide +kernel) rfl
theorem q_221 : Cond.instanceMethod y_Ct_clear ∈ TB := tq 221 (by decide +kernel) rfl
theorem q_222 : Cond.selects R_Ct y_Ct_clear y_Ct_clear ∈ TB := tq 222 (by decide +kernel) rfl
theorem q_223 : Cond.code y_Ct_clear b_Ct_clear 1 (some .int) ∈ TB := tq 223 (by decide +kernel) rfl
theorem q_228 : Cond.methodLink R_Lw 32 y_Ct_mode ∈ TB := tq 228 (by decide +kernel) rfl
theorem q_229 : Cond.instanceMethod y_Ct_mode ∈ TB := tq 229 (by decide +kernel) rfl
theorem q_230 : Cond.selects R_Ct y_Ct_mode y_Ct_mode ∈ TB := tq 230 (by decide +kernel) rfl
theorem q_231 : Cond.code y_Ct_mode b_Ct_mode 3 (some .int) ∈ TB := tq 231 (by decide +kernel) rfl
theorem q_235 : Cond.methodLink R_Lw 37 y_Ct_end ∈ TB := tq 235 (by decide +kernel) rfl
theorem q_236 : Cond.instanceMethod y_Ct_end ∈ TB := tq 236 (by decide +kernel) rfl
theorem q_237 : Cond.selects R_Ct y_Ct_end y_Ct_end ∈ TB := tq 237 (by decide +kernel) rfl
theorem q_238 : Cond.code y_Ct_end b_Ct_end 3 (some .int) ∈ TB := tq 238 (by decide +kernel) rfl
theorem q_239 : Cond.methodLink R_Lw 41 y_Ct_run ∈ TB := tq 239 (by decide +kernel) rfl
theorem q_240 : Cond.instanceMethod y_Ct_run ∈ TB := tq 240 (by decide +kernel) rfl
theorem q_241 : Cond.selects R_Ct y_Ct_run y_Ct_run ∈ TB := tq 241 (by decide +kernel) rfl
theorem q_242 : Cond.code y_Ct_run b_Ct_run 1 (some .int) ∈ TB := tq 242 (by decide +kernel) rfl
theorem q_397 : Cond.methodLink R_Lw 45 y_Ct_at ∈ TB := tq 397 (by decide +kernel) rfl
theorem q_398 : Cond.instanceMethod y_Ct_at ∈ TB := tq 398 (by decide +kernel) rfl
theorem q_399 : Cond.selects R_Ct y_Ct_at y_Ct_at ∈ TB := tq 399 (by decide +kernel) rfl
theorem q_400 : Cond.code y_Ct_at b_Ct_at 2 (some .int) ∈ TB := tq 400 (by decide +kernel) rfl
theorem q_405 : Cond.methodLink R_Lw 50 y_Ct_told ∈ TB := tq 405 (by decide +kernel) rfl
theorem q_406 : Cond.instanceMethod y_Ct_told ∈ TB := tq 406 (by decide +kernel) rfl
theorem q_407 : Cond.selects R_Ct y_Ct_told y_Ct_told ∈ TB := tq 407 (by decide +kernel) rfl
theorem q_408 : Cond.code y_Ct_told b_Ct_told 2 (some .int) ∈ TB := tq 408 (by decide +kernel) rfl
theorem q_417 : Cond.methodLink R_Lw 54 y_Ct_decided ∈ TB := tq 417 (by decide +kernel) rfl
theorem q_418 : Cond.instanceMethod y_Ct_decided ∈ TB := tq 418 (by decide +kernel) rfl
theorem q_419 : Cond.selects R_Ct y_Ct_decided y_Ct_decided ∈ TB := tq 419 (by decide +kernel) rfl
theorem q_420 : Cond.code y_Ct_decided b_Ct_decided 2 (some .int) ∈ TB := tq 420 (by decide +kernel) rfl
theorem q_425 : Cond.methodLink R_Lw 58 y_Ct_same ∈ TB := tq 425 (by decide +kernel) rfl
theorem q_426 : Cond.instanceMethod y_Ct_same ∈ TB := tq 426 (by decide +kernel) rfl
theorem q_427 : Cond.selects R_Ct y_Ct_same y_Ct_same ∈ TB := tq 427 (by decide +kernel) rfl
theorem q_428 : Cond.code y_Ct_same b_Ct_same 3 (some .boolean) ∈ TB := tq 428 (by decide +kernel) rfl
theorem q_430 : Cond.methodLink R_Lw 63 y_Ct_count ∈ TB := tq 430 (by decide +kernel) rfl
theorem q_431 : Cond.instanceMethod y_Ct_count ∈ TB := tq 431 (by decide +kernel) rfl
theorem q_432 : Cond.selects R_Ct y_Ct_count y_Ct_count ∈ TB := tq 432 (by decide +kernel) rfl
theorem q_433 : Cond.code y_Ct_count b_Ct_count 2 (some .int) ∈ TB := tq 433 (by decide +kernel) rfl
theorem q_515 : Cond.methodLink R_Lw 17 y_Md_meaning ∈ TB := tq 515 (by decide +kernel) rfl
theorem q_516 : Cond.instanceMethod y_Md_meaning ∈ TB := tq 516 (by decide +kernel) rfl
theorem q_517 : Cond.selects R_Md y_Md_meaning y_Md_meaning ∈ TB := tq 517 (by decide +kernel) rfl
theorem q_518 : Cond.code y_Md_meaning b_Md_meaning 5 (some .int) ∈ TB := tq 518 (by decide +kernel) rfl
theorem q_524 : Cond.methodLink R_Lw 22 y_Md_body ∈ TB := tq 524 (by decide +kernel) rfl
theorem q_525 : Cond.instanceMethod y_Md_body ∈ TB := tq 525 (by decide +kernel) rfl
theorem q_526 : Cond.selects R_Md y_Md_body y_Md_body ∈ TB := tq 526 (by decide +kernel) rfl
theorem q_527 : Cond.code y_Md_body b_Md_body 1 (some .int) ∈ TB := tq 527 (by decide +kernel) rfl
theorem q_528 : Cond.methodLink R_Lw 27 y_Md_token ∈ TB := tq 528 (by decide +kernel) rfl
theorem q_529 : Cond.instanceMethod y_Md_token ∈ TB := tq 529 (by decide +kernel) rfl
theorem q_530 : Cond.selects R_Md y_Md_token y_Md_token ∈ TB := tq 530 (by decide +kernel) rfl
theorem q_531 : Cond.code y_Md_token b_Md_token 4 (some .int) ∈ TB := tq 531 (by decide +kernel) rfl
theorem q_535 : Cond.methodLink R_Lw 31 y_Md_clear ∈ TB := tq 535 (by decide +kernel) rfl
theorem q_536 : Cond.instanceMethod y_Md_clear ∈ TB := tq 536 (by decide +kernel) rfl
theorem q_537 : Cond.selects R_Md y_Md_clear y_Md_clear ∈ TB := tq 537 (by decide +kernel) rfl
theorem q_538 : Cond.code y_Md_clear b_Md_clear 2 (some .int) ∈ TB := tq 538 (by decide +kernel) rfl
theorem q_539 : Cond.methodLink R_Lw 36 y_Md_mode ∈ TB := tq 539 (by decide +kernel) rfl
theorem q_540 : Cond.instanceMethod y_Md_mode ∈ TB := tq 540 (by decide +kernel) rfl
theorem q_541 : Cond.selects R_Md y_Md_mode y_Md_mode ∈ TB := tq 541 (by decide +kernel) rfl
theorem q_542 : Cond.code y_Md_mode b_Md_mode 3 (some .int) ∈ TB := tq 542 (by decide +kernel) rfl
theorem q_543 : Cond.methodLink R_Lw 40 y_Md_end ∈ TB := tq 543 (by decide +kernel) rfl
theorem q_544 : Cond.instanceMethod y_Md_end ∈ TB := tq 544 (by decide +kernel) rfl
theorem q_545 : Cond.selects R_Md y_Md_end y_Md_end ∈ TB := tq 545 (by decide +kernel) rfl
theorem q_546 : Cond.code y_Md_end b_Md_end 3 (some .int) ∈ TB := tq 546 (by decide +kernel) rfl
theorem q_547 : Cond.methodLink R_Lw 62 y_Md_same ∈ TB := tq 547 (by decide +kernel) rfl
theorem q_548 : Cond.instanceMethod y_Md_same ∈ TB := tq 548 (by decide +kernel) rfl
theorem q_549 : Cond.selects R_Md y_Md_same y_Md_same ∈ TB := tq 549 (by decide +kernel) rfl
theorem q_550 : Cond.code y_Md_same b_Md_same 3 (some .boolean) ∈ TB := tq 550 (by decide +kernel) rfl
theorem q_563 : Cond.methodLink R_Lw 44 y_Md_run ∈ TB := tq 563 (by decide +kernel) rfl
theorem q_564 : Cond.instanceMethod y_Md_run ∈ TB := tq 564 (by decide +kernel) rfl
theorem q_565 : Cond.selects R_Md y_Md_run y_Md_run ∈ TB := tq 565 (by decide +kernel) rfl
theorem q_566 : Cond.code y_Md_run b_Md_run 3 (some .int) ∈ TB := tq 566 (by decide +kernel) rfl
theorem q_634 : Cond.methodLink R_Lw 49 y_Md_at ∈ TB := tq 634 (by decide +kernel) rfl
theorem q_635 : Cond.instanceMethod y_Md_at ∈ TB := tq 635 (by decide +kernel) rfl
theorem q_636 : Cond.selects R_Md y_Md_at y_Md_at ∈ TB := tq 636 (by decide +kernel) rfl
theorem q_637 : Cond.code y_Md_at b_Md_at 2 (some .int) ∈ TB := tq 637 (by decide +kernel) rfl
theorem q_638 : Cond.methodLink R_Lw 53 y_Md_told ∈ TB := tq 638 (by decide +kernel) rfl
theorem q_639 : Cond.instanceMethod y_Md_told ∈ TB := tq 639 (by decide +kernel) rfl
theorem q_640 : Cond.selects R_Md y_Md_told y_Md_told ∈ TB := tq 640 (by decide +kernel) rfl
theorem q_641 : Cond.code y_Md_told b_Md_told 2 (some .int) ∈ TB := tq 641 (by decide +kernel) rfl
theorem q_642 : Cond.methodLink R_Lw 57 y_Md_decided ∈ TB := tq 642 (by decide +kernel) rfl
theorem q_643 : Cond.instanceMethod y_Md_decided ∈ TB := tq 643 (by decide +kernel) rfl
theorem q_644 : Cond.selects R_Md y_Md_decided y_Md_decided ∈ TB := tq 644 (by decide +kernel) rfl
theorem q_645 : Cond.code y_Md_decided b_Md_decided 2 (some .int) ∈ TB := tq 645 (by decide +kernel) rfl
theorem q_646 : Cond.methodLink R_Lw 66 y_Md_count ∈ TB := tq 646 (by decide +kernel) rfl
theorem q_647 : Cond.instanceMethod y_Md_count ∈ TB := tq 647 (by decide +kernel) rfl
theorem q_648 : Cond.selects R_Md y_Md_count y_Md_count ∈ TB := tq 648 (by decide +kernel) rfl
theorem q_649 : Cond.code y_Md_count b_Md_count 4 (some .int) ∈ TB := tq 649 (by decide +kernel) rfl
theorem d_Lw_law_0 : decode code 0 = .ok (.new 7, 3) := by decide +kernel
theorem d_Lw_law_3 : decode code 3 = .ok (.dup, 1) := by decide +kernel
theorem d_Lw_law_4 : decode code 4 = .ok (.invokespecial 9, 3) := by decide +kernel
theorem d_Lw_law_7 : decode code 7 = .ok (.astore_n 1, 1) := by decide +kernel
theorem d_Lw_law_8 : decode code 8 = .ok (.new 10, 3) := by decide +kernel
theorem d_Lw_law_11 : decode code 11 = .ok (.dup, 1) := by decide +kernel
theorem d_Lw_law_12 : decode code 12 = .ok (.invokespecial 12, 3) := by decide +kernel
theorem d_Lw_law_15 : decode code 15 = .ok (.astore_n 2, 1) := by decide +kernel
theorem d_Lw_law_16 : decode code 16 = .ok (.iconst 0, 1) := by decide +kernel
theorem d_Lw_law_17 : decode code 17 = .ok (.istore_n 3, 1) := by decide +kernel
theorem d_Lw_law_18 : decode code 18 = .ok (.iload_n 3, 1) := by decide +kernel
theorem d_Lw_law_19 : decode code 19 = .ok (.aload_n 0, 1) := by decide +kernel
theorem d_Lw_law_20 : decode code 20 = .ok (.arraylength, 1) := by decide +kernel
theorem d_Lw_law_21 : decode code 21 = .ok (.iconst 4, 1) := by decide +kernel
theorem d_Lw_law_22 : decode code 22 = .ok (.isub, 1) := by decide +kernel
theorem d_Lw_law_23 : decode code 23 = .ok (.if_icmp .gt 417, 3) := by decide +kernel
theorem d_Lw_law_26 : decode code 26 = .ok (.aload_n 0, 1) := by decide +kernel
theorem d_Lw_law_27 : decode code 27 = .ok (.iload_n 3, 1) := by decide +kernel
theorem d_Lw_law_28 : decode code 28 = .ok (.iaload, 1) := by decide +kernel
theorem d_Lw_law_29 : decode code 29 = .ok (.bipush 15, 2) := by decide +kernel
theorem d_Lw_law_31 : decode code 31 = .ok (.iand, 1) := by decide +kernel
theorem d_Lw_law_32 : decode code 32 = .ok (.tableswitch 402 0 11 #[64, 107, 120, 153, 166, 215, 264, 277, 300, 323, 346, 379], 64) := by decide +kernel
theorem d_Lw_law_96 : decode code 96 = .ok (.aload_n 1, 1) := by decide +kernel
theorem d_Lw_law_97 : decode code 97 = .ok (.aload_n 0, 1) := by decide +kernel
theorem d_Lw_law_98 : decode code 98 = .ok (.iload_n 3, 1) := by decide +kernel
theorem d_Lw_law_99 : decode code 99 = .ok (.iconst 1, 1) := by decide +kernel
theorem d_Lw_law_100 : decode code 100 = .ok (.iadd, 1) := by decide +kernel
theorem d_Lw_law_101 : decode code 101 = .ok (.iaload, 1) := by decide +kernel
theorem d_Lw_law_102 : decode code 102 = .ok (.aload_n 0, 1) := by decide +kernel
theorem d_Lw_law_103 : decode code 103 = .ok (.iload_n 3, 1) := by decide +kernel
theorem d_Lw_law_104 : decode code 104 = .ok (.iconst 2, 1) := by decide +kernel
theorem d_Lw_law_105 : decode code 105 = .ok (.iadd, 1) := by decide +kernel
theorem d_Lw_law_106 : decode code 106 = .ok (.iaload, 1) := by decide +kernel
theorem d_Lw_law_107 : decode code 107 = .ok (.aload_n 0, 1) := by decide +kernel
theorem d_Lw_law_108 : decode code 108 = .ok (.iload_n 3, 1) := by decide +kernel
theorem d_Lw_law_109 : decode code 109 = .ok (.iconst 3, 1) := by decide +kernel
theorem d_Lw_law_110 : decode code 110 = .ok (.iadd, 1) := by decide +kernel
theorem d_Lw_law_111 : decode code 111 = .ok (.iaload, 1) := by decide +kernel
theorem d_Lw_law_112 : decode code 112 = .ok (.invokevirtual 13, 3) := by decide +kernel
theorem d_Lw_law_115 : decode code 115 = .ok (.aload_n 2, 1) := by decide +kernel
theorem d_Lw_law_116 : decode code 116 = .ok (.aload_n 0, 1) := by decide +kernel
theorem d_Lw_law_117 : decode code 117 = .ok (.iload_n 3, 1) := by decide +kernel
theorem d_Lw_law_118 : decode code 118 = .ok (.iconst 1, 1) := by decide +kernel
theorem d_Lw_law_119 : decode code 119 = .ok (.iadd, 1) := by decide +kernel
theorem d_Lw_law_120 : decode code 120 = .ok (.iaload, 1) := by decide +kernel
theorem d_Lw_law_121 : decode code 121 = .ok (.aload_n 0, 1) := by decide +kernel
theorem d_Lw_law_122 : decode code 122 = .ok (.iload_n 3, 1) := by decide +kernel
theorem d_Lw_law_123 : decode code 123 = .ok (.iconst 2, 1) := by decide +kernel
theorem d_Lw_law_124 : decode code 124 = .ok (.iadd, 1) := by decide +kernel
theorem d_Lw_law_125 : decode code 125 = .ok (.iaload, 1) := by decide +kernel
theorem d_Lw_law_126 : decode code 126 = .ok (.aload_n 0, 1) := by decide +kernel
theorem d_Lw_law_127 : decode code 127 = .ok (.iload_n 3, 1) := by decide +kernel
theorem d_Lw_law_128 : decode code 128 = .ok (.iconst 3, 1) := by decide +kernel
theorem d_Lw_law_129 : decode code 129 = .ok (.iadd, 1) := by decide +kernel
theorem d_Lw_law_130 : decode code 130 = .ok (.iaload, 1) := by decide +kernel
theorem d_Lw_law_131 : decode code 131 = .ok (.invokevirtual 17, 3) := by decide +kernel
theorem d_Lw_law_134 : decode code 134 = .ok (.if_icmp .eq 300, 3) := by decide +kernel
theorem d_Lw_law_137 : decode code 137 = .ok (.iconst 0, 1) := by decide +kernel
theorem d_Lw_law_138 : decode code 138 = .ok (.ireturn, 1) := by decide +kernel
theorem d_Lw_law_139 : decode code 139 = .ok (.aload_n 1, 1) := by decide +kernel
theorem d_Lw_law_140 : decode code 140 = .ok (.invokevirtual 18, 3) := by decide +kernel
theorem d_Lw_law_143 : decode code 143 = .ok (.aload_n 2, 1) := by decide +kernel
theorem d_Lw_law_144 : decode code 144 = .ok (.invokevirtual 22, 3) := by decide +kernel
theorem d_Lw_law_147 : decode code 147 = .ok (.if_icmp .eq 287, 3) := by decide +kernel
theorem d_Lw_law_150 : decode code 150 = .ok (.iconst 0, 1) := by decide +kernel
theorem d_Lw_law_151 : decode code 151 = .ok (.ireturn, 1) := by decide +kernel
theorem d_Lw_law_152 : decode code 152 = .ok (.aload_n 1, 1) := by decide +kernel
theorem d_Lw_law_153 : decode code 153 = .ok (.aload_n 0, 1) := by decide +kernel
theorem d_Lw_law_154 : decode code 154 = .ok (.iload_n 3, 1) := by decide +kernel
theorem d_Lw_law_155 : decode code 155 = .ok (.iconst 1, 1) := by decide +kernel
theorem d_Lw_law_156 : decode code 156 = .ok (.iadd, 1) := by decide +kernel
theorem d_Lw_law_157 : decode code 157 = .ok (.iaload, 1) := by decide +kernel
theorem d_Lw_law_158 : decode code 158 = .ok (.aload_n 0, 1) := by decide +kernel
theorem d_Lw_law_159 : decode code 159 = .ok (.iload_n 3, 1) := by decide +kernel
theorem d_Lw_law_160 : decode code 160 = .ok (.iconst 2, 1) := by decide +kernel
theorem d_Lw_law_161 : decode code 161 = .ok (.iadd, 1) := by decide +kernel
theorem d_Lw_law_162 : decode code 162 = .ok (.iaload, 1) := by decide +kernel
theorem d_Lw_law_163 : decode code 163 = .ok (.invokevirtual 23, 3) := by decide +kernel
theorem d_Lw_law_166 : decode code 166 = .ok (.aload_n 2, 1) := by decide +kernel
theorem d_Lw_law_167 : decode code 167 = .ok (.aload_n 0, 1) := by decide +kernel
theorem d_Lw_law_168 : decode code 168 = .ok (.iload_n 3, 1) := by decide +kernel
theorem d_Lw_law_169 : decode code 169 = .ok (.iconst 1, 1) := by decide +kernel
theorem d_Lw_law_170 : decode code 170 = .ok (.iadd, 1) := by decide +kernel
theorem d_Lw_law_171 : decode code 171 = .ok (.iaload, 1) := by decide +kernel
theorem d_Lw_law_172 : decode code 172 = .ok (.aload_n 0, 1) := by decide +kernel
theorem d_Lw_law_173 : decode code 173 = .ok (.iload_n 3, 1) := by decide +kernel
theorem d_Lw_law_174 : decode code 174 = .ok (.iconst 2, 1) := by decide +kernel
theorem d_Lw_law_175 : decode code 175 = .ok (.iadd, 1) := by decide +kernel
theorem d_Lw_law_176 : decode code 176 = .ok (.iaload, 1) := by decide +kernel
theorem d_Lw_law_177 : decode code 177 = .ok (.invokevirtual 27, 3) := by decide +kernel
theorem d_Lw_law_180 : decode code 180 = .ok (.if_icmp .eq 254, 3) := by decide +kernel
theorem d_Lw_law_183 : decode code 183 = .ok (.iconst 0, 1) := by decide +kernel
theorem d_Lw_law_184 : decode code 184 = .ok (.ireturn, 1) := by decide +kernel
theorem d_Lw_law_185 : decode code 185 = .ok (.aload_n 1, 1) := by decide +kernel
theorem d_Lw_law_186 : decode code 186 = .ok (.invokevirtual 28, 3) := by decide +kernel
theorem d_Lw_law_189 : decode code 189 = .ok (.aload_n 2, 1) := by decide +kernel
theorem d_Lw_law_190 : decode code 190 = .ok (.invokevirtual 31, 3) := by decide +kernel
theorem d_Lw_law_193 : decode code 193 = .ok (.if_icmp .eq 241, 3) := by decide +kernel
theorem d_Lw_law_196 : decode code 196 = .ok (.iconst 0, 1) := by decide +kernel
theorem d_Lw_law_197 : decode code 197 = .ok (.ireturn, 1) := by decide +kernel
theorem d_Lw_law_198 : decode code 198 = .ok (.aload_n 1, 1) := by decide +kernel
theorem d_Lw_law_199 : decode code 199 = .ok (.aload_n 0, 1) := by decide +kernel
theorem d_Lw_law_200 : decode code 200 = .ok (.iload_n 3, 1) := by decide +kernel
theorem d_Lw_law_201 : decode code 201 = .ok (.iconst 1, 1) := by decide +kernel
theorem d_Lw_law_202 : decode code 202 = .ok (.iadd, 1) := by decide +kernel
theorem d_Lw_law_203 : decode code 203 = .ok (.iaload, 1) := by decide +kernel
theorem d_Lw_law_204 : decode code 204 = .ok (.aload_n 0, 1) := by decide +kernel
theorem d_Lw_law_205 : decode code 205 = .ok (.iload_n 3, 1) := by decide +kernel
theorem d_Lw_law_206 : decode code 206 = .ok (.iconst 2, 1) := by decide +kernel
theorem d_Lw_law_207 : decode code 207 = .ok (.iadd, 1) := by decide +kernel
theorem d_Lw_law_208 : decode code 208 = .ok (.iaload, 1) := by decide +kernel
theorem d_Lw_law_209 : decode code 209 = .ok (.ifCond .eq 7, 3) := by decide +kernel
theorem d_Lw_law_212 : decode code 212 = .ok (.iconst 1, 1) := by decide +kernel
theorem d_Lw_law_213 : decode code 213 = .ok (.goto 4, 3) := by decide +kernel
theorem d_Lw_law_216 : decode code 216 = .ok (.iconst 0, 1) := by decide +kernel
theorem d_Lw_law_217 : decode code 217 = .ok (.invokevirtual 32, 3) := by decide +kernel
theorem d_Lw_law_220 : decode code 220 = .ok (.aload_n 2, 1) := by decide +kernel
theorem d_Lw_law_221 : decode code 221 = .ok (.aload_n 0, 1) := by decide +kernel
theorem d_Lw_law_222 : decode code 222 = .ok (.iload_n 3, 1) := by decide +kernel
theorem d_Lw_law_223 : decode code 223 = .ok (.iconst 1, 1) := by decide +kernel
theorem d_Lw_law_224 : decode code 224 = .ok (.iadd, 1) := by decide +kernel
theorem d_Lw_law_225 : decode code 225 = .ok (.iaload, 1) := by decide +kernel
theorem d_Lw_law_226 : decode code 226 = .ok (.aload_n 0, 1) := by decide +kernel
theorem d_Lw_law_227 : decode code 227 = .ok (.iload_n 3, 1) := by decide +kernel
theorem d_Lw_law_228 : decode code 228 = .ok (.iconst 2, 1) := by decide +kernel
theorem d_Lw_law_229 : decode code 229 = .ok (.iadd, 1) := by decide +kernel
theorem d_Lw_law_230 : decode code 230 = .ok (.iaload, 1) := by decide +kernel
theorem d_Lw_law_231 : decode code 231 = .ok (.ifCond .eq 7, 3) := by decide +kernel
theorem d_Lw_law_234 : decode code 234 = .ok (.iconst 1, 1) := by decide +kernel
theorem d_Lw_law_235 : decode code 235 = .ok (.goto 4, 3) := by decide +kernel
theorem d_Lw_law_238 : decode code 238 = .ok (.iconst 0, 1) := by decide +kernel
theorem d_Lw_law_239 : decode code 239 = .ok (.invokevirtual 36, 3) := by decide +kernel
theorem d_Lw_law_242 : decode code 242 = .ok (.if_icmp .eq 192, 3) := by decide +kernel
theorem d_Lw_law_245 : decode code 245 = .ok (.iconst 0, 1) := by decide +kernel
theorem d_Lw_law_246 : decode code 246 = .ok (.ireturn, 1) := by decide +kernel
theorem d_Lw_law_247 : decode code 247 = .ok (.aload_n 1, 1) := by decide +kernel
theorem d_Lw_law_248 : decode code 248 = .ok (.aload_n 0, 1) := by decide +kernel
theorem d_Lw_law_249 : decode code 249 = .ok (.iload_n 3, 1) := by decide +kernel
theorem d_Lw_law_250 : decode code 250 = .ok (.iconst 1, 1) := by decide +kernel
theorem d_Lw_law_251 : decode code 251 = .ok (.iadd, 1) := by decide +kernel
theorem d_Lw_law_252 : decode code 252 = .ok (.iaload, 1) := by decide +kernel
theorem d_Lw_law_253 : decode code 253 = .ok (.aload_n 0, 1) := by decide +kernel
theorem d_Lw_law_254 : decode code 254 = .ok (.iload_n 3, 1) := by decide +kernel
theorem d_Lw_law_255 : decode code 255 = .ok (.iconst 2, 1) := by decide +kernel
theorem d_Lw_law_256 : decode code 256 = .ok (.iadd, 1) := by decide +kernel
theorem d_Lw_law_257 : decode code 257 = .ok (.iaload, 1) := by decide +kernel
theorem d_Lw_law_258 : decode code 258 = .ok (.ifCond .eq 7, 3) := by decide +kernel
theorem d_Lw_law_261 : decode code 261 = .ok (.iconst 1, 1) := by decide +kernel
theorem d_Lw_law_262 : decode code 262 = .ok (.goto 4, 3) := by decide +kernel
theorem d_Lw_law_265 : decode code 265 = .ok (.iconst 0, 1) := by decide +kernel
theorem d_Lw_law_266 : decode code 266 = .ok (.invokevirtual 37, 3) := by decide +kernel
theorem d_Lw_law_269 : decode code 269 = .ok (.aload_n 2, 1) := by decide +kernel
theorem d_Lw_law_270 : decode code 270 = .ok (.aload_n 0, 1) := by decide +kernel
theorem d_Lw_law_271 : decode code 271 = .ok (.iload_n 3, 1) := by decide +kernel
theorem d_Lw_law_272 : decode code 272 = .ok (.iconst 1, 1) := by decide +kernel
theorem d_Lw_law_273 : decode code 273 = .ok (.iadd, 1) := by decide +kernel
theorem d_Lw_law_274 : decode code 274 = .ok (.iaload, 1) := by decide +kernel
theorem d_Lw_law_275 : decode code 275 = .ok (.aload_n 0, 1) := by decide +kernel
theorem d_Lw_law_276 : decode code 276 = .ok (.iload_n 3, 1) := by decide +kernel
theorem d_Lw_law_277 : decode code 277 = .ok (.iconst 2, 1) := by decide +kernel
theorem d_Lw_law_278 : decode code 278 = .ok (.iadd, 1) := by decide +kernel
theorem d_Lw_law_279 : decode code 279 = .ok (.iaload, 1) := by decide +kernel
theorem d_Lw_law_280 : decode code 280 = .ok (.ifCond .eq 7, 3) := by decide +kernel
theorem d_Lw_law_283 : decode code 283 = .ok (.iconst 1, 1) := by decide +kernel
theorem d_Lw_law_284 : decode code 284 = .ok (.goto 4, 3) := by decide +kernel
theorem d_Lw_law_287 : decode code 287 = .ok (.iconst 0, 1) := by decide +kernel
theorem d_Lw_law_288 : decode code 288 = .ok (.invokevirtual 40, 3) := by decide +kernel
theorem d_Lw_law_291 : decode code 291 = .ok (.if_icmp .eq 143, 3) := by decide +kernel
theorem d_Lw_law_294 : decode code 294 = .ok (.iconst 0, 1) := by decide +kernel
theorem d_Lw_law_295 : decode code 295 = .ok (.ireturn, 1) := by decide +kernel
theorem d_Lw_law_296 : decode code 296 = .ok (.aload_n 1, 1) := by decide +kernel
theorem d_Lw_law_297 : decode code 297 = .ok (.invokevirtual 41, 3) := by decide +kernel
theorem d_Lw_law_300 : decode code 300 = .ok (.aload_n 2, 1) := by decide +kernel
theorem d_Lw_law_301 : decode code 301 = .ok (.invokevirtual 44, 3) := by decide +kernel
theorem d_Lw_law_304 : decode code 304 = .ok (.if_icmp .eq 130, 3) := by decide +kernel
theorem d_Lw_law_307 : decode code 307 = .ok (.iconst 0, 1) := by decide +kernel
theorem d_Lw_law_308 : decode code 308 = .ok (.ireturn, 1) := by decide +kernel
theorem d_Lw_law_309 : decode code 309 = .ok (.aload_n 1, 1) := by decide +kernel
theorem d_Lw_law_310 : decode code 310 = .ok (.aload_n 0, 1) := by decide +kernel
theorem d_Lw_law_311 : decode code 311 = .ok (.iload_n 3, 1) := by decide +kernel
theorem d_Lw_law_312 : decode code 312 = .ok (.iconst 1, 1) := by decide +kernel
theorem d_Lw_law_313 : decode code 313 = .ok (.iadd, 1) := by decide +kernel
theorem d_Lw_law_314 : decode code 314 = .ok (.iaload, 1) := by decide +kernel
theorem d_Lw_law_315 : decode code 315 = .ok (.invokevirtual 45, 3) := by decide +kernel
theorem d_Lw_law_318 : decode code 318 = .ok (.aload_n 2, 1) := by decide +kernel
theorem d_Lw_law_319 : decode code 319 = .ok (.aload_n 0, 1) := by decide +kernel
theorem d_Lw_law_320 : decode code 320 = .ok (.iload_n 3, 1) := by decide +kernel
theorem d_Lw_law_321 : decode code 321 = .ok (.iconst 1, 1) := by decide +kernel
theorem d_Lw_law_322 : decode code 322 = .ok (.iadd, 1) := by decide +kernel
theorem d_Lw_law_323 : decode code 323 = .ok (.iaload, 1) := by decide +kernel
theorem d_Lw_law_324 : decode code 324 = .ok (.invokevirtual 49, 3) := by decide +kernel
theorem d_Lw_law_327 : decode code 327 = .ok (.if_icmp .eq 107, 3) := by decide +kernel
theorem d_Lw_law_330 : decode code 330 = .ok (.iconst 0, 1) := by decide +kernel
theorem d_Lw_law_331 : decode code 331 = .ok (.ireturn, 1) := by decide +kernel
theorem d_Lw_law_332 : decode code 332 = .ok (.aload_n 1, 1) := by decide +kernel
theorem d_Lw_law_333 : decode code 333 = .ok (.aload_n 0, 1) := by decide +kernel
theorem d_Lw_law_334 : decode code 334 = .ok (.iload_n 3, 1) := by decide +kernel
theorem d_Lw_law_335 : decode code 335 = .ok (.iconst 1, 1) := by decide +kernel
theorem d_Lw_law_336 : decode code 336 = .ok (.iadd, 1) := by decide +kernel
theorem d_Lw_law_337 : decode code 337 = .ok (.iaload, 1) := by decide +kernel
theorem d_Lw_law_338 : decode code 338 = .ok (.invokevirtual 50, 3) := by decide +kernel
theorem d_Lw_law_341 : decode code 341 = .ok (.aload_n 2, 1) := by decide +kernel
theorem d_Lw_law_342 : decode code 342 = .ok (.aload_n 0, 1) := by decide +kernel
theorem d_Lw_law_343 : decode code 343 = .ok (.iload_n 3, 1) := by decide +kernel
theorem d_Lw_law_344 : decode code 344 = .ok (.iconst 1, 1) := by decide +kernel
theorem d_Lw_law_345 : decode code 345 = .ok (.iadd, 1) := by decide +kernel
theorem d_Lw_law_346 : decode code 346 = .ok (.iaload, 1) := by decide +kernel
theorem d_Lw_law_347 : decode code 347 = .ok (.invokevirtual 53, 3) := by decide +kernel
theorem d_Lw_law_350 : decode code 350 = .ok (.if_icmp .eq 84, 3) := by decide +kernel
theorem d_Lw_law_353 : decode code 353 = .ok (.iconst 0, 1) := by decide +kernel
theorem d_Lw_law_354 : decode code 354 = .ok (.ireturn, 1) := by decide +kernel
theorem d_Lw_law_355 : decode code 355 = .ok (.aload_n 1, 1) := by decide +kernel
theorem d_Lw_law_356 : decode code 356 = .ok (.aload_n 0, 1) := by decide +kernel
theorem d_Lw_law_357 : decode code 357 = .ok (.iload_n 3, 1) := by decide +kernel
theorem d_Lw_law_358 : decode code 358 = .ok (.iconst 1, 1) := by decide +kernel
theorem d_Lw_law_359 : decode code 359 = .ok (.iadd, 1) := by decide +kernel
theorem d_Lw_law_360 : decode code 360 = .ok (.iaload, 1) := by decide +kernel
theorem d_Lw_law_361 : decode code 361 = .ok (.invokevirtual 54, 3) := by decide +kernel
theorem d_Lw_law_364 : decode code 364 = .ok (.aload_n 2, 1) := by decide +kernel
theorem d_Lw_law_365 : decode code 365 = .ok (.aload_n 0, 1) := by decide +kernel
theorem d_Lw_law_366 : decode code 366 = .ok (.iload_n 3, 1) := by decide +kernel
theorem d_Lw_law_367 : decode code 367 = .ok (.iconst 1, 1) := by decide +kernel
theorem d_Lw_law_368 : decode code 368 = .ok (.iadd, 1) := by decide +kernel
theorem d_Lw_law_369 : decode code 369 = .ok (.iaload, 1) := by decide +kernel
theorem d_Lw_law_370 : decode code 370 = .ok (.invokevirtual 57, 3) := by decide +kernel
theorem d_Lw_law_373 : decode code 373 = .ok (.if_icmp .eq 61, 3) := by decide +kernel
theorem d_Lw_law_376 : decode code 376 = .ok (.iconst 0, 1) := by decide +kernel
theorem d_Lw_law_377 : decode code 377 = .ok (.ireturn, 1) := by decide +kernel
theorem d_Lw_law_378 : decode code 378 = .ok (.aload_n 1, 1) := by decide +kernel
theorem d_Lw_law_379 : decode code 379 = .ok (.aload_n 0, 1) := by decide +kernel
theorem d_Lw_law_380 : decode code 380 = .ok (.iload_n 3, 1) := by decide +kernel
theorem d_Lw_law_381 : decode code 381 = .ok (.iconst 1, 1) := by decide +kernel
theorem d_Lw_law_382 : decode code 382 = .ok (.iadd, 1) := by decide +kernel
theorem d_Lw_law_383 : decode code 383 = .ok (.iaload, 1) := by decide +kernel
theorem d_Lw_law_384 : decode code 384 = .ok (.aload_n 0, 1) := by decide +kernel
theorem d_Lw_law_385 : decode code 385 = .ok (.iload_n 3, 1) := by decide +kernel
theorem d_Lw_law_386 : decode code 386 = .ok (.iconst 2, 1) := by decide +kernel
theorem d_Lw_law_387 : decode code 387 = .ok (.iadd, 1) := by decide +kernel
theorem d_Lw_law_388 : decode code 388 = .ok (.iaload, 1) := by decide +kernel
theorem d_Lw_law_389 : decode code 389 = .ok (.invokevirtual 58, 3) := by decide +kernel
theorem d_Lw_law_392 : decode code 392 = .ok (.aload_n 2, 1) := by decide +kernel
theorem d_Lw_law_393 : decode code 393 = .ok (.aload_n 0, 1) := by decide +kernel
theorem d_Lw_law_394 : decode code 394 = .ok (.iload_n 3, 1) := by decide +kernel
theorem d_Lw_law_395 : decode code 395 = .ok (.iconst 1, 1) := by decide +kernel
theorem d_Lw_law_396 : decode code 396 = .ok (.iadd, 1) := by decide +kernel
theorem d_Lw_law_397 : decode code 397 = .ok (.iaload, 1) := by decide +kernel
theorem d_Lw_law_398 : decode code 398 = .ok (.aload_n 0, 1) := by decide +kernel
theorem d_Lw_law_399 : decode code 399 = .ok (.iload_n 3, 1) := by decide +kernel
theorem d_Lw_law_400 : decode code 400 = .ok (.iconst 2, 1) := by decide +kernel
theorem d_Lw_law_401 : decode code 401 = .ok (.iadd, 1) := by decide +kernel
theorem d_Lw_law_402 : decode code 402 = .ok (.iaload, 1) := by decide +kernel
theorem d_Lw_law_403 : decode code 403 = .ok (.invokevirtual 62, 3) := by decide +kernel
theorem d_Lw_law_406 : decode code 406 = .ok (.if_icmp .eq 28, 3) := by decide +kernel
theorem d_Lw_law_409 : decode code 409 = .ok (.iconst 0, 1) := by decide +kernel
theorem d_Lw_law_410 : decode code 410 = .ok (.ireturn, 1) := by decide +kernel
theorem d_Lw_law_411 : decode code 411 = .ok (.aload_n 1, 1) := by decide +kernel
theorem d_Lw_law_412 : decode code 412 = .ok (.aload_n 0, 1) := by decide +kernel
theorem d_Lw_law_413 : decode code 413 = .ok (.iload_n 3, 1) := by decide +kernel
theorem d_Lw_law_414 : decode code 414 = .ok (.iconst 1, 1) := by decide +kernel
theorem d_Lw_law_415 : decode code 415 = .ok (.iadd, 1) := by decide +kernel
theorem d_Lw_law_416 : decode code 416 = .ok (.iaload, 1) := by decide +kernel
theorem d_Lw_law_417 : decode code 417 = .ok (.invokevirtual 63, 3) := by decide +kernel
theorem d_Lw_law_420 : decode code 420 = .ok (.aload_n 2, 1) := by decide +kernel
theorem d_Lw_law_421 : decode code 421 = .ok (.aload_n 0, 1) := by decide +kernel
theorem d_Lw_law_422 : decode code 422 = .ok (.iload_n 3, 1) := by decide +kernel
theorem d_Lw_law_423 : decode code 423 = .ok (.iconst 1, 1) := by decide +kernel
theorem d_Lw_law_424 : decode code 424 = .ok (.iadd, 1) := by decide +kernel
theorem d_Lw_law_425 : decode code 425 = .ok (.iaload, 1) := by decide +kernel
theorem d_Lw_law_426 : decode code 426 = .ok (.invokevirtual 66, 3) := by decide +kernel
theorem d_Lw_law_429 : decode code 429 = .ok (.if_icmp .eq 5, 3) := by decide +kernel
theorem d_Lw_law_432 : decode code 432 = .ok (.iconst 0, 1) := by decide +kernel
theorem d_Lw_law_433 : decode code 433 = .ok (.ireturn, 1) := by decide +kernel
theorem d_Lw_law_434 : decode code 434 = .ok (.iinc 3 4, 3) := by decide +kernel
theorem d_Lw_law_437 : decode code 437 = .ok (.goto (-419), 3) := by decide +kernel
theorem d_Lw_law_440 : decode code 440 = .ok (.iconst 1, 1) := by decide +kernel
theorem d_Lw_law_441 : decode code 441 = .ok (.ireturn, 1) := by decide +kernel
