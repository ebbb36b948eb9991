theorem MdE_thrown (d : TMd) (x : Int32) : MdE d (TMd_set_thrown d x) := MdE_r d
theorem MdE_opened (d : TMd) (x : Int32) : MdE d (TMd_set_opened d x) := MdE_r d
theorem MdE_most (d : TMd) (x : Int32) : MdE d (TMd_set_most d x) := MdE_r d
theorem MdE_phases (d : TMd) (x : Nat → Int32) : MdE d (TMd_set_phases d x) := MdE_r d
theorem MdE_open (d : TMd) (x : Int32) : MdE d (TMd_set_open d x) := MdE_r d
theorem MdE_decided (d : TMd) (x : Nat → Int32) : MdE d (TMd_set_decided d x) := MdE_r d
theorem MdE_skipped (d : TMd) (x : Int32) : MdE d (TMd_set_skipped d x) := MdE_r d
theorem MdE_held (d : TMd) (x : Int32) : MdE d (TMd_set_held d x) := MdE_r d
theorem MdE_outSize (d : TMd) (x : Int32) : MdE d (TMd_set_outSize d x) := MdE_r d
theorem MdE_out (d : TMd) (x : Nat → Int32) : MdE d (TMd_set_out d x) := MdE_r d
theorem MdE_pile (d : TMd) (x : Int32) : MdE d (TMd_set_pile d x) := MdE_r d
theorem MdE_pileRows (d : TMd) (x : Nat → Int32) : MdE d (TMd_set_pileRows d x) := MdE_r d
theorem MdE_pilePlaces (d : TMd) (x : Nat → Int32) : MdE d (TMd_set_pilePlaces d x) := MdE_r d
theorem MdE_steps (d : TMd) (x : Int32) : MdE d (TMd_set_steps d x) := MdE_r d
theorem MdE_fault (d : TMd) (x : Int32) : MdE d (TMd_set_fault d x) := MdE_r d
theorem mu_opened (d : TMd) (x : Int32) : mu (TMd_set_opened d x) = mu d := rfl
theorem mu_most (d : TMd) (x : Int32) : mu (TMd_set_most d x) = mu d := rfl
theorem mu_phases (d : TMd) (x : Nat → Int32) : mu (TMd_set_phases d x) = mu d := rfl
theorem mu_open (d : TMd) (x : Int32) : mu (TMd_set_open d x) = mu d := rfl
theorem mu_decided (d : TMd) (x : Nat → Int32) : mu (TMd_set_decided d x) = mu d := rfl
theorem MdP_opened {d : TMd} {y : Int32} (h : MdP d) (h0 : 0 ≤ y.toInt) (h1 : y.toInt ≤ (TMd_steps d).toInt) : MdP (TMd_set_opened d y) := ⟨h.1, h.2.1, h.2.2.1, h.2.2.2.1, h.2.2.2.2.1, h.2.2.2.2.2.1, ⟨h0, h1⟩⟩
theorem MdP_most {d : TMd} (y : Int32) (h : MdP d) : MdP (TMd_set_most d y) := ⟨h.1, h.2.1, h.2.2.1, h.2.2.2.1, h.2.2.2.2.1, h.2.2.2.2.2.1, h.2.2.2.2.2.2⟩
theorem MdP_phases {d : TMd} (g : Nat → Int32) (h : MdP d) : MdP (TMd_set_phases d g) := ⟨h.1, h.2.1, h.2.2.1, h.2.2.2.1, h.2.2.2.2.1, h.2.2.2.2.2.1, h.2.2.2.2.2.2⟩
theorem MdP_decided {d : TMd} (g : Nat → Int32) (h : MdP d) : MdP (TMd_set_decided d g) := ⟨h.1, h.2.1, h.2.2.1, h.2.2.2.1, h.2.2.2.2.1, h.2.2.2.2.2.1, h.2.2.2.2.2.2⟩
theorem MdS_hasRun {d : TMd} (x : Int32) (h : MdS d) : MdS (TMd_set_hasRun d x) := h
theorem MdP_hasRun {d : TMd} (x : Int32) (h : MdP d) : MdP (TMd_set_hasRun d x) := ⟨h.1, h.2.1, h.2.2.1, h.2.2.2.1, h.2.2.2.2.1, h.2.2.2.2.2.1, h.2.2.2.2.2.2⟩
