theorem d_Md_in_0 : decode b_Md_in 0 = .ok (.iload_n 0, 1) := by decide +kernel
theorem d_Md_in_1 : decode b_Md_in 1 = .ok (.iload_n 1, 1) := by decide +kernel
theorem d_Md_in_2 : decode b_Md_in 2 = .ok (.if_icmp .lt 12, 3) := by decide +kernel
theorem d_Md_in_5 : decode b_Md_in 5 = .ok (.iload_n 0, 1) := by decide +kernel
theorem d_Md_in_6 : decode b_Md_in 6 = .ok (.iload_n 2, 1) := by decide +kernel
theorem d_Md_in_7 : decode b_Md_in 7 = .ok (.if_icmp .gt 7, 3) := by decide +kernel
theorem d_Md_in_10 : decode b_Md_in 10 = .ok (.iconst 1, 1) := by decide +kernel
theorem d_Md_in_11 : decode b_Md_in 11 = .ok (.goto 4, 3) := by decide +kernel
theorem d_Md_in_14 : decode b_Md_in 14 = .ok (.iconst 0, 1) := by decide +kernel
theorem d_Md_in_15 : decode b_Md_in 15 = .ok (.ireturn, 1) := by decide +kernel
noncomputable def f_Md_in (p0 : Int32) (p1 : Int32) (p2 : Int32) : Int32 := (if p0 < p1 then 0 else (if p2 < p0 then 0 else 1))
set_option maxHeartbeats 4000000 in
set_option maxRecDepth 100000 in
theorem c_Md_in (l : Launch) (dC : Nat → ClassId) (dI : Nat → Nat → Nat) (ad : Nat → Nat) (ca : Nat → ClassId) (sz : Nat) (p0 : Int32) (p1 : Int32) (p2 : Int32) (F : Int32) (he : F = f_Md_in p0 p1 p2) : wx_Mi l y_Md_in ws_Md_in ({ frames := 0, cells := 0, slots := 0, locals := 0 } : Room) (dC, dI) vwCl (t_E ca) [.int p0, .int p1, .int p2] (w_E ad ca) sz (fun _ : Unit => w_E ad ca) (fun (r : Int32) (_ : Unit) => r = F) := by
  refine Met.ofW (cc := b_Md_in) (maxL := 3) (ret := some .boolean) (by decide) rfl ?_
  intro p e s m args below meth c s₁ B hml hv
  obtain ⟨rfl, hsz, hP, hK, hD0, hN⟩ := hv
  have hx := B.exec
  have hb := B.bytes
  have hr := B.returns
  have hts := atoms_spec (ws := ws_Md_in) B.pre
  have ht : ∀ w ∈ TB, w.before _ s = true := fun w h => hts w (List.mem_cons_of_mem _ h)
  have hown : s.vm.findClass R_Md = some m.cls := findClass_of_methodNamed B.named
  have hlocks := B.notSynchronized
  subst hsz
  have hD := hD0.self (sz := s.heap.size)
  generalize hAe : va_A (w_E ad ca) s.heap.size = A at hD ⊢
  have hA : ∀ q : Nat, s.heap.size ≤ q → A q := fun q h => by rw [← hAe]; exact Or.inr h
  have hS : va_S A s.heap s.heap [] := va_S.rf
  have hl := lv_entry ([.int p0, .int p1, .int p2]) (n := 3) (Nat.le_of_ble_eq_true rfl)
  rw [lg_entry_eq]
  generalize (lg_sl ([.int p0, .int p1, .int p2]) ++ List.replicate (3 - (lg_sl ([.int p0, .int p1, .int p2])).length) Slot.unset).toArray = ls at hl ⊢
  have hl : lv_has ls 3 [(0, .int p0), (1, .int p1), (2, .int p2)] := hl
  unfold f_Md_in at he
  refine lv_iload_n hx hb d_Md_in_0 rfl (lv_at hl 0 rfl) ?_
  refine lv_iload_n hx hb d_Md_in_1 rfl (lv_at hl 1 rfl) ?_
  refine lv_icmp_lt (tgt := 14) hx hb d_Md_in_2 (by decide) (fun c_1 => ?_) (fun c_1 => ?_)
  · have he := he.trans (if_pos c_1)
    refine lv_iconst (v := 0) hx hb d_Md_in_14 (by decide) ?_
    exact W.zret hx hb hr (by rfl) (v := 0) (fun t ht hW => ⟨⟨0, (), rfl, he.symm, by rw [ht]; exact hP, va_K.moved hW.alike hK, hD⟩, hS.F ht⟩) hS.2.2 d_Md_in_15
  · have he := he.trans (if_neg c_1)
    refine lv_iload_n hx hb d_Md_in_5 rfl (lv_at hl 0 rfl) ?_
    refine lv_iload_n hx hb d_Md_in_6 rfl (lv_at hl 2 rfl) ?_
    refine lv_icmp_gt (tgt := 14) hx hb d_Md_in_7 (by decide) (fun c_2 => ?_) (fun c_2 => ?_)
    · have he := he.trans (if_pos c_2)
      refine lv_iconst (v := 0) hx hb d_Md_in_14 (by decide) ?_
      exact W.zret hx hb hr (by rfl) (v := 0) (fun t ht hW => ⟨⟨0, (), rfl, he.symm, by rw [ht]; exact hP, va_K.moved hW.alike hK, hD⟩, hS.F ht⟩) hS.2.2 d_Md_in_15
    · have he := he.trans (if_neg c_2)
      refine lv_iconst (v := 1) hx hb d_Md_in_10 (by decide) ?_
      refine lv_goto (tgt := 15) hx hb d_Md_in_11 (by decide) ?_
      exact W.zret hx hb hr (by rfl) (v := 1) (fun t ht hW => ⟨⟨1, (), rfl, he.symm, by rw [ht]; exact hP, va_K.moved hW.alike hK, hD⟩, hS.F ht⟩) hS.2.2 d_Md_in_15
theorem in_01 (x y z : Int32) : f_Md_in x y z = 0 ∨ f_Md_in x y z = 1 := by
  unfold f_Md_in
  repeat' split
  all_goals first
    | exact Or.inl rfl
    | exact Or.inr rfl
theorem in_of {x y z : Int32} (h : ¬ f_Md_in x y z = 0) : y.toInt ≤ x.toInt ∧ x.toInt ≤ z.toInt := by
  unfold f_Md_in at h
  by_cases h1 : x < y
  · rw [if_pos h1] at h
    exact absurd rfl h
  · rw [if_neg h1] at h
    by_cases h2 : z < x
    · rw [if_pos h2] at h
      exact absurd rfl h
    · rw [i32_lt] at h1 h2
      omega
theorem in_vp {x z : Int32} {n : Nat} (h : ¬ f_Md_in x 0 z = 0) (hz : z.toInt < (n : Int)) : vp_in x n := by
  have h1 := in_of h
  rw [Int32.toInt_zero] at h1
  rw [vp_in_iff]
  omega
