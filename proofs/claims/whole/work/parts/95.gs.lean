theorem gs_thrown_thrown (d : TMd) (x : Int32) : TMd_thrown (TMd_set_thrown d x) = x := rfl
theorem gs_thrown_kinds (d : TMd) (x : Int32) : TMd_kinds (TMd_set_thrown d x) = TMd_kinds d := rfl
theorem gs_thrown_values (d : TMd) (x : Int32) : TMd_values (TMd_set_thrown d x) = TMd_values d := rfl
theorem gs_thrown_bodies (d : TMd) (x : Int32) : TMd_bodies (TMd_set_thrown d x) = TMd_bodies d := rfl
theorem gs_thrown_rows (d : TMd) (x : Int32) : TMd_rows (TMd_set_thrown d x) = TMd_rows d := rfl
theorem gs_thrown_sizes (d : TMd) (x : Int32) : TMd_sizes (TMd_set_thrown d x) = TMd_sizes d := rfl
theorem gs_thrown_modes (d : TMd) (x : Int32) : TMd_modes (TMd_set_thrown d x) = TMd_modes d := rfl
theorem gs_thrown_ends (d : TMd) (x : Int32) : TMd_ends (TMd_set_thrown d x) = TMd_ends d := rfl
theorem gs_thrown_pileRows (d : TMd) (x : Int32) : TMd_pileRows (TMd_set_thrown d x) = TMd_pileRows d := rfl
theorem gs_thrown_pilePlaces (d : TMd) (x : Int32) : TMd_pilePlaces (TMd_set_thrown d x) = TMd_pilePlaces d := rfl
theorem gs_thrown_pile (d : TMd) (x : Int32) : TMd_pile (TMd_set_thrown d x) = TMd_pile d := rfl
theorem gs_thrown_held (d : TMd) (x : Int32) : TMd_held (TMd_set_thrown d x) = TMd_held d := rfl
theorem gs_thrown_steps (d : TMd) (x : Int32) : TMd_steps (TMd_set_thrown d x) = TMd_steps d := rfl
theorem gs_thrown_fault (d : TMd) (x : Int32) : TMd_fault (TMd_set_thrown d x) = TMd_fault d := rfl
theorem gs_thrown_out (d : TMd) (x : Int32) : TMd_out (TMd_set_thrown d x) = TMd_out d := rfl
theorem gs_thrown_outSize (d : TMd) (x : Int32) : TMd_outSize (TMd_set_thrown d x) = TMd_outSize d := rfl
theorem gs_thrown_opened (d : TMd) (x : Int32) : TMd_opened (TMd_set_thrown d x) = TMd_opened d := rfl
theorem gs_thrown_most (d : TMd) (x : Int32) : TMd_most (TMd_set_thrown d x) = TMd_most d := rfl
theorem gs_thrown_skipped (d : TMd) (x : Int32) : TMd_skipped (TMd_set_thrown d x) = TMd_skipped d := rfl
theorem gs_thrown_decided (d : TMd) (x : Int32) : TMd_decided (TMd_set_thrown d x) = TMd_decided d := rfl
theorem gs_thrown_phases (d : TMd) (x : Int32) : TMd_phases (TMd_set_thrown d x) = TMd_phases d := rfl
theorem gs_thrown_open (d : TMd) (x : Int32) : TMd_open (TMd_set_thrown d x) = TMd_open d := rfl
theorem gs_thrown_hasRun (d : TMd) (x : Int32) : TMd_hasRun (TMd_set_thrown d x) = TMd_hasRun d := rfl
theorem gs_pileRows_thrown (d : TMd) (x : (Nat → Int32)) : TMd_thrown (TMd_set_pileRows d x) = TMd_thrown d := rfl
theorem gs_pileRows_kinds (d : TMd) (x : (Nat → Int32)) : TMd_kinds (TMd_set_pileRows d x) = TMd_kinds d := rfl
theorem gs_pileRows_values (d : TMd) (x : (Nat → Int32)) : TMd_values (TMd_set_pileRows d x) = TMd_values d := rfl
theorem gs_pileRows_bodies (d : TMd) (x : (Nat → Int32)) : TMd_bodies (TMd_set_pileRows d x) = TMd_bodies d := rfl
theorem gs_pileRows_rows (d : TMd) (x : (Nat → Int32)) : TMd_rows (TMd_set_pileRows d x) = TMd_rows d := rfl
theorem gs_pileRows_sizes (d : TMd) (x : (Nat → Int32)) : TMd_sizes (TMd_set_pileRows d x) = TMd_sizes d := rfl
theorem gs_pileRows_modes (d : TMd) (x : (Nat → Int32)) : TMd_modes (TMd_set_pileRows d x) = TMd_modes d := rfl
theorem gs_pileRows_ends (d : TMd) (x : (Nat → Int32)) : TMd_ends (TMd_set_pileRows d x) = TMd_ends d := rfl
theorem gs_pileRows_pileRows (d : TMd) (x : (Nat → Int32)) : TMd_pileRows (TMd_set_pileRows d x) = x := rfl
theorem gs_pileRows_pilePlaces (d : TMd) (x : (Nat → Int32)) : TMd_pilePlaces (TMd_set_pileRows d x) = TMd_pilePlaces d := rfl
theorem gs_pileRows_pile (d : TMd) (x : (Nat → Int32)) : TMd_pile (TMd_set_pileRows d x) = TMd_pile d := rfl
theorem gs_pileRows_held (d : TMd) (x : (Nat → Int32)) : TMd_held (TMd_set_pileRows d x) = TMd_held d := rfl
theorem gs_pileRows_steps (d : TMd) (x : (Nat → Int32)) : TMd_steps (TMd_set_pileRows d x) = TMd_steps d := rfl
theorem gs_pileRows_fault (d : TMd) (x : (Nat → Int32)) : TMd_fault (TMd_set_pileRows d x) = TMd_fault d := rfl
theorem gs_pileRows_out (d : TMd) (x : (Nat → Int32)) : TMd_out (TMd_set_pileRows d x) = TMd_out d := rfl
theorem gs_pileRows_outSize (d : TMd) (x : (Nat → Int32)) : TMd_outSize (TMd_set_pileRows d x) = TMd_outSize d := rfl
theorem gs_pileRows_opened (d : TMd) (x : (Nat → Int32)) : TMd_opened (TMd_set_pileRows d x) = TMd_opened d := rfl
theorem gs_pileRows_most (d : TMd) (x : (Nat → Int32)) : TMd_most (TMd_set_pileRows d x) = TMd_most d := rfl
theorem gs_pileRows_skipped (d : TMd) (x : (Nat → Int32)) : TMd_skipped (TMd_set_pileRows d x) = TMd_skipped d := rfl
theorem gs_pileRows_decided (d : TMd) (x : (Nat → Int32)) : TMd_decided (TMd_set_pileRows d x) = TMd_decided d := rfl
theorem gs_pileRows_phases (d : TMd) (x : (Nat → Int32)) : TMd_phases (TMd_set_pileRows d x) = TMd_phases d := rfl
theorem gs_pileRows_open (d : TMd) (x : (Nat → Int32)) : TMd_open (TMd_set_pileRows d x) = TMd_open d := rfl
theorem gs_pileRows_hasRun (d : TMd) (x : (Nat → Int32)) : TMd_hasRun (TMd_set_pileRows d x) = TMd_hasRun d := rfl
theorem gs_pilePlaces_thrown (d : TMd) (x : (Nat → Int32)) : TMd_thrown (TMd_set_pilePlaces d x) = TMd_thrown d := rfl
theorem gs_pilePlaces_kinds (d : TMd) (x : (Nat → Int32)) : TMd_kinds (TMd_set_pilePlaces d x) = TMd_kinds d := rfl
theorem gs_pilePlaces_values (d : TMd) (x : (Nat → Int32)) : TMd_values (TMd_set_pilePlaces d x) = TMd_values d := rfl
theorem gs_pilePlaces_bodies (d : TMd) (x : (Nat → Int32)) : TMd_bodies (TMd_set_pilePlaces d x) = TMd_bodies d := rfl
theorem gs_pilePlaces_rows (d : TMd) (x : (Nat → Int32)) : TMd_rows (TMd_set_pilePlaces d x) = TMd_rows d := rfl
theorem gs_pilePlaces_sizes (d : TMd) (x : (Nat → Int32)) : TMd_sizes (TMd_set_pilePlaces d x) = TMd_sizes d := rfl
theorem gs_pilePlaces_modes (d : TMd) (x : (Nat → Int32)) : TMd_modes (TMd_set_pilePlaces d x) = TMd_modes d := rfl
theorem gs_pilePlaces_ends (d : TMd) (x : (Nat → Int32)) : TMd_ends (TMd_set_pilePlaces d x) = TMd_ends d := rfl
theorem gs_pilePlaces_pileRows (d : TMd) (x : (Nat → Int32)) : TMd_pileRows (TMd_set_pilePlaces d x) = TMd_pileRows d := rfl
theorem gs_pilePlaces_pilePlaces (d : TMd) (x : (Nat → Int32)) : TMd_pilePlaces (TMd_set_pilePlaces d x) = x := rfl
theorem gs_pilePlaces_pile (d : TMd) (x : (Nat → Int32)) : TMd_pile (TMd_set_pilePlaces d x) = TMd_pile d := rfl
theorem gs_pilePlaces_held (d : TMd) (x : (Nat → Int32)) : TMd_held (TMd_set_pilePlaces d x) = TMd_held d := rfl
theorem gs_pilePlaces_steps (d : TMd) (x : (Nat → Int32)) : TMd_steps (TMd_set_pilePlaces d x) = TMd_steps d := rfl
theorem gs_pilePlaces_fault (d : TMd) (x : (Nat → Int32)) : TMd_fault (TMd_set_pilePlaces d x) = TMd_fault d := rfl
theorem gs_pilePlaces_out (d : TMd) (x : (Nat → Int32)) : TMd_out (TMd_set_pilePlaces d x) = TMd_out d := rfl
theorem gs_pilePlaces_outSize (d : TMd) (x : (Nat → Int32)) : TMd_outSize (TMd_set_pilePlaces d x) = TMd_outSize d := rfl
theorem gs_pilePlaces_opened (d : TMd) (x : (Nat → Int32)) : TMd_opened (TMd_set_pilePlaces d x) = TMd_opened d := rfl
theorem gs_pilePlaces_most (d : TMd) (x : (Nat → Int32)) : TMd_most (TMd_set_pilePlaces d x) = TMd_most d := rfl
theorem gs_pilePlaces_skipped (d : TMd) (x : (Nat → Int32)) : TMd_skipped (TMd_set_pilePlaces d x) = TMd_skipped d := rfl
theorem gs_pilePlaces_decided (d : TMd) (x : (Nat → Int32)) : TMd_decided (TMd_set_pilePlaces d x) = TMd_decided d := rfl
theorem gs_pilePlaces_phases (d : TMd) (x : (Nat → Int32)) : TMd_phases (TMd_set_pilePlaces d x) = TMd_phases d := rfl
theorem gs_pilePlaces_open (d : TMd) (x : (Nat → Int32)) : TMd_open (TMd_set_pilePlaces d x) = TMd_open d := rfl
theorem gs_pilePlaces_hasRun (d : TMd) (x : (Nat → Int32)) : TMd_hasRun (TMd_set_pilePlaces d x) = TMd_hasRun d := rfl
theorem gs_pile_thrown (d : TMd) (x : Int32) : TMd_thrown (TMd_set_pile d x) = TMd_thrown d := rfl
theorem gs_pile_kinds (d : TMd) (x : Int32) : TMd_kinds (TMd_set_pile d x) = TMd_kinds d := rfl
theorem gs_pile_values (d : TMd) (x : Int32) : TMd_values (TMd_set_pile d x) = TMd_values d := rfl
theorem gs_pile_bodies (d : TMd) (x : Int32) : TMd_bodies (TMd_set_pile d x) = TMd_bodies d := rfl
theorem gs_pile_rows (d : TMd) (x : Int32) : TMd_rows (TMd_set_pile d x) = TMd_rows d := rfl
theorem gs_pile_sizes (d : TMd) (x : Int32) : TMd_sizes (TMd_set_pile d x) = TMd_sizes d := rfl
theorem gs_pile_modes (d : TMd) (x : Int32) : TMd_modes (TMd_set_pile d x) = TMd_modes d := rfl
theorem gs_pile_ends (d : TMd) (x : Int32) : TMd_ends (TMd_set_pile d x) = TMd_ends d := rfl
theorem gs_pile_pileRows (d : TMd) (x : Int32) : TMd_pileRows (TMd_set_pile d x) = TMd_pileRows d := rfl
theorem gs_pile_pilePlaces (d : TMd) (x : Int32) : TMd_pilePlaces (TMd_set_pile d x) = TMd_pilePlaces d := rfl
theorem gs_pile_pile (d : TMd) (x : Int32) : TMd_pile (TMd_set_pile d x) = x := rfl
theorem gs_pile_held (d : TMd) (x : Int32) : TMd_held (TMd_set_pile d x) = TMd_held d := rfl
theorem gs_pile_steps (d : TMd) (x : Int32) : TMd_steps (TMd_set_pile d x) = TMd_steps d := rfl
theorem gs_pile_fault (d : TMd) (x : Int32) : TMd_fault (TMd_set_pile d x) = TMd_fault d := rfl
theorem gs_pile_out (d : TMd) (x : Int32) : TMd_out (TMd_set_pile d x) = TMd_out d := rfl
theorem gs_pile_outSize (d : TMd) (x : Int32) : TMd_outSize (TMd_set_pile d x) = TMd_outSize d := rfl
theorem gs_pile_opened (d : TMd) (x : Int32) : TMd_opened (TMd_set_pile d x) = TMd_opened d := rfl
theorem gs_pile_most (d : TMd) (x : Int32) : TMd_most (TMd_set_pile d x) = TMd_most d := rfl
theorem gs_pile_skipped (d : TMd) (x : Int32) : TMd_skipped (TMd_set_pile d x) = TMd_skipped d := rfl
theorem gs_pile_decided (d : TMd) (x : Int32) : TMd_decided (TMd_set_pile d x) = TMd_decided d := rfl
theorem gs_pile_phases (d : TMd) (x : Int32) : TMd_phases (TMd_set_pile d x) = TMd_phases d := rfl
theorem gs_pile_open (d : TMd) (x : Int32) : TMd_open (TMd_set_pile d x) = TMd_open d := rfl
theorem gs_pile_hasRun (d : TMd) (x : Int32) : TMd_hasRun (TMd_set_pile d x) = TMd_hasRun d := rfl
theorem gs_held_thrown (d : TMd) (x : Int32) : TMd_thrown (TMd_set_held d x) = TMd_thrown d := rfl
theorem gs_held_kinds (d : TMd) (x : Int32) : TMd_kinds (TMd_set_held d x) = TMd_kinds d := rfl
theorem gs_held_values (d : TMd) (x : Int32) : TMd_values (TMd_set_held d x) = TMd_values d := rfl
theorem gs_held_bodies (d : TMd) (x : Int32) : TMd_bodies (TMd_set_held d x) = TMd_bodies d := rfl
theorem gs_held_rows (d : TMd) (x : Int32) : TMd_rows (TMd_set_held d x) = TMd_rows d := rfl
theorem gs_held_sizes (d : TMd) (x : Int32) : TMd_sizes (TMd_set_held d x) = TMd_sizes d := rfl
theorem gs_held_modes (d : TMd) (x : Int32) : TMd_modes (TMd_set_held d x) = TMd_modes d := rfl
theorem gs_held_ends (d : TMd) (x : Int32) : TMd_ends (TMd_set_held d x) = TMd_ends d := rfl
theorem gs_held_pileRows (d : TMd) (x : Int32) : TMd_pileRows (TMd_set_held d x) = TMd_pileRows d := rfl
theorem gs_held_pilePlaces (d : TMd) (x : Int32) : TMd_pilePlaces (TMd_set_held d x) = TMd_pilePlaces d := rfl
theorem gs_held_pile (d : TMd) (x : Int32) : TMd_pile (TMd_set_held d x) = TMd_pile d := rfl
theorem gs_held_held (d : TMd) (x : Int32) : TMd_held (TMd_set_held d x) = x := rfl
theorem gs_held_steps (d : TMd) (x : Int32) : TMd_steps (TMd_set_held d x) = TMd_steps d := rfl
theorem gs_held_fault (d : TMd) (x : Int32) : TMd_fault (TMd_set_held d x) = TMd_fault d := rfl
theorem gs_held_out (d : TMd) (x : Int32) : TMd_out (TMd_set_held d x) = TMd_out d := rfl
theorem gs_held_outSize (d : TMd) (x : Int32) : TMd_outSize (TMd_set_held d x) = TMd_outSize d := rfl
theorem gs_held_opened (d : TMd) (x : Int32) : TMd_opened (TMd_set_held d x) = TMd_opened d := rfl
theorem gs_held_most (d : TMd) (x : Int32) : TMd_most (TMd_set_held d x) = TMd_most d := rfl
theorem gs_held_skipped (d : TMd) (x : Int32) : TMd_skipped (TMd_set_held d x) = TMd_skipped d := rfl
theorem gs_held_decided (d : TMd) (x : Int32) : TMd_decided (TMd_set_held d x) = TMd_decided d := rfl
theorem gs_held_phases (d : TMd) (x : Int32) : TMd_phases (TMd_set_held d x) = TMd_phases d := rfl
theorem gs_held_open (d : TMd) (x : Int32) : TMd_open (TMd_set_held d x) = TMd_open d := rfl
theorem gs_held_hasRun (d : TMd) (x : Int32) : TMd_hasRun (TMd_set_held d x) = TMd_hasRun d := rfl
theorem gs_steps_thrown (d : TMd) (x : Int32) : TMd_thrown (TMd_set_steps d x) = TMd_thrown d := rfl
theorem gs_steps_kinds (d : TMd) (x : Int32) : TMd_kinds (TMd_set_steps d x) = TMd_kinds d := rfl
theorem gs_steps_values (d : TMd) (x : Int32) : TMd_values (TMd_set_steps d x) = TMd_values d := rfl
theorem gs_steps_bodies (d : TMd) (x : Int32) : TMd_bodies (TMd_set_steps d x) = TMd_bodies d := rfl
theorem gs_steps_rows (d : TMd) (x : Int32) : TMd_rows (TMd_set_steps d x) = TMd_rows d := rfl
theorem gs_steps_sizes (d : TMd) (x : Int32) : TMd_sizes (TMd_set_steps d x) = TMd_sizes d := rfl
theorem gs_steps_modes (d : TMd) (x : Int32) : TMd_modes (TMd_set_steps d x) = TMd_modes d := rfl
theorem gs_steps_ends (d : TMd) (x : Int32) : TMd_ends (TMd_set_steps d x) = TMd_ends d := rfl
theorem gs_steps_pileRows (d : TMd) (x : Int32) : TMd_pileRows (TMd_set_steps d x) = TMd_pileRows d := rfl
theorem gs_steps_pilePlaces (d : TMd) (x : Int32) : TMd_pilePlaces (TMd_set_steps d x) = TMd_pilePlaces d := rfl
theorem gs_steps_pile (d : TMd) (x : Int32) : TMd_pile (TMd_set_steps d x) = TMd_pile d := rfl
theorem gs_steps_held (d : TMd) (x : Int32) : TMd_held (TMd_set_steps d x) = TMd_held d := rfl
theorem gs_steps_steps (d : TMd) (x : Int32) : TMd_steps (TMd_set_steps d x) = x := rfl
theorem gs_steps_fault (d : TMd) (x : Int32) : TMd_fault (TMd_set_steps d x) = TMd_fault d := rfl
theorem gs_steps_out (d : TMd) (x : Int32) : TMd_out (TMd_set_steps d x) = TMd_out d := rfl
theorem gs_steps_outSize (d : TMd) (x : Int32) : TMd_outSize (TMd_set_steps d x) = TMd_outSize d := rfl
theorem gs_steps_opened (d : TMd) (x : Int32) : TMd_opened (TMd_set_steps d x) = TMd_opened d := rfl
theorem gs_steps_most (d : TMd) (x : Int32) : TMd_most (TMd_set_steps d x) = TMd_most d := rfl
theorem gs_steps_skipped (d : TMd) (x : Int32) : TMd_skipped (TMd_set_steps d x) = TMd_skipped d := rfl
theorem gs_steps_decided (d : TMd) (x : Int32) : TMd_decided (TMd_set_steps d x) = TMd_decided d := rfl
theorem gs_steps_phases (d : TMd) (x : Int32) : TMd_phases (TMd_set_steps d x) = TMd_phases d := rfl
theorem gs_steps_open (d : TMd) (x : Int32) : TMd_open (TMd_set_steps d x) = TMd_open d := rfl
theorem gs_steps_hasRun (d : TMd) (x : Int32) : TMd_hasRun (TMd_set_steps d x) = TMd_hasRun d := rfl
theorem gs_fault_thrown (d : TMd) (x : Int32) : TMd_thrown (TMd_set_fault d x) = TMd_thrown d := rfl
theorem gs_fault_kinds (d : TMd) (x : Int32) : TMd_kinds (TMd_set_fault d x) = TMd_kinds d := rfl
theorem gs_fault_values (d : TMd) (x : Int32) : TMd_values (TMd_set_fault d x) = TMd_values d := rfl
theorem gs_fault_bodies (d : TMd) (x : Int32) : TMd_bodies (TMd_set_fault d x) = TMd_bodies d := rfl
theorem gs_fault_rows (d : TMd) (x : Int32) : TMd_rows (TMd_set_fault d x) = TMd_rows d := rfl
theorem gs_fault_sizes (d : TMd) (x : Int32) : TMd_sizes (TMd_set_fault d x) = TMd_sizes d := rfl
theorem gs_fault_modes (d : TMd) (x : Int32) : TMd_modes (TMd_set_fault d x) = TMd_modes d := rfl
theorem gs_fault_ends (d : TMd) (x : Int32) : TMd_ends (TMd_set_fault d x) = TMd_ends d := rfl
theorem gs_fault_pileRows (d : TMd) (x : Int32) : TMd_pileRows (TMd_set_fault d x) = TMd_pileRows d := rfl
theorem gs_fault_pilePlaces (d : TMd) (x : Int32) : TMd_pilePlaces (TMd_set_fault d x) = TMd_pilePlaces d := rfl
theorem gs_fault_pile (d : TMd) (x : Int32) : TMd_pile (TMd_set_fault d x) = TMd_pile d := rfl
theorem gs_fault_held (d : TMd) (x : Int32) : TMd_held (TMd_set_fault d x) = TMd_held d := rfl
theorem gs_fault_steps (d : TMd) (x : Int32) : TMd_steps (TMd_set_fault d x) = TMd_steps d := rfl
theorem gs_fault_fault (d : TMd) (x : Int32) : TMd_fault (TMd_set_fault d x) = x := rfl
theorem gs_fault_out (d : TMd) (x : Int32) : TMd_out (TMd_set_fault d x) = TMd_out d := rfl
theorem gs_fault_outSize (d : TMd) (x : Int32) : TMd_outSize (TMd_set_fault d x) = TMd_outSize d := rfl
theorem gs_fault_opened (d : TMd) (x : Int32) : TMd_opened (TMd_set_fault d x) = TMd_opened d := rfl
theorem gs_fault_most (d : TMd) (x : Int32) : TMd_most (TMd_set_fault d x) = TMd_most d := rfl
theorem gs_fault_skipped (d : TMd) (x : Int32) : TMd_skipped (TMd_set_fault d x) = TMd_skipped d := rfl
theorem gs_fault_decided (d : TMd) (x : Int32) : TMd_decided (TMd_set_fault d x) = TMd_decided d := rfl
theorem gs_fault_phases (d : TMd) (x : Int32) : TMd_phases (TMd_set_fault d x) = TMd_phases d := rfl
theorem gs_fault_open (d : TMd) (x : Int32) : TMd_open (TMd_set_fault d x) = TMd_open d := rfl
theorem gs_fault_hasRun (d : TMd) (x : Int32) : TMd_hasRun (TMd_set_fault d x) = TMd_hasRun d := rfl
theorem gs_outSize_thrown (d : TMd) (x : Int32) : TMd_thrown (TMd_set_outSize d x) = TMd_thrown d := rfl
theorem gs_outSize_kinds (d : TMd) (x : Int32) : TMd_kinds (TMd_set_outSize d x) = TMd_kinds d := rfl
theorem gs_outSize_values (d : TMd) (x : Int32) : TMd_values (TMd_set_outSize d x) = TMd_values d := rfl
theorem gs_outSize_bodies (d : TMd) (x : Int32) : TMd_bodies (TMd_set_outSize d x) = TMd_bodies d := rfl
theorem gs_outSize_rows (d : TMd) (x : Int32) : TMd_rows (TMd_set_outSize d x) = TMd_rows d := rfl
theorem gs_outSize_sizes (d : TMd) (x : Int32) : TMd_sizes (TMd_set_outSize d x) = TMd_sizes d := rfl
theorem gs_outSize_modes (d : TMd) (x : Int32) : TMd_modes (TMd_set_outSize d x) = TMd_modes d := rfl
theorem gs_outSize_ends (d : TMd) (x : Int32) : TMd_ends (TMd_set_outSize d x) = TMd_ends d := rfl
theorem gs_outSize_pileRows (d : TMd) (x : Int32) : TMd_pileRows (TMd_set_outSize d x) = TMd_pileRows d := rfl
theorem gs_outSize_pilePlaces (d : TMd) (x : Int32) : TMd_pilePlaces (TMd_set_outSize d x) = TMd_pilePlaces d := rfl
theorem gs_outSize_pile (d : TMd) (x : Int32) : TMd_pile (TMd_set_outSize d x) = TMd_pile d := rfl
theorem gs_outSize_held (d : TMd) (x : Int32) : TMd_held (TMd_set_outSize d x) = TMd_held d := rfl
theorem gs_outSize_steps (d : TMd) (x : Int32) : TMd_steps (TMd_set_outSize d x) = TMd_steps d := rfl
theorem gs_outSize_fault (d : TMd) (x : Int32) : TMd_fault (TMd_set_outSize d x) = TMd_fault d := rfl
theorem gs_outSize_out (d : TMd) (x : Int32) : TMd_out (TMd_set_outSize d x) = TMd_out d := rfl
theorem gs_outSize_outSize (d : TMd) (x : Int32) : TMd_outSize (TMd_set_outSize d x) = x := rfl
theorem gs_outSize_opened (d : TMd) (x : Int32) : TMd_opened (TMd_set_outSize d x) = TMd_opened d := rfl
theorem gs_outSize_most (d : TMd) (x : Int32) : TMd_most (TMd_set_outSize d x) = TMd_most d := rfl
theorem gs_outSize_skipped (d : TMd) (x : Int32) : TMd_skipped (TMd_set_outSize d x) = TMd_skipped d := rfl
theorem gs_outSize_decided (d : TMd) (x : Int32) : TMd_decided (TMd_set_outSize d x) = TMd_decided d := rfl
theorem gs_outSize_phases (d : TMd) (x : Int32) : TMd_phases (TMd_set_outSize d x) = TMd_phases d := rfl
theorem gs_outSize_open (d : TMd) (x : Int32) : TMd_open (TMd_set_outSize d x) = TMd_open d := rfl
theorem gs_outSize_hasRun (d : TMd) (x : Int32) : TMd_hasRun (TMd_set_outSize d x) = TMd_hasRun d := rfl
theorem gs_skipped_thrown (d : TMd) (x : Int32) : TMd_thrown (TMd_set_skipped d x) = TMd_thrown d := rfl
theorem gs_skipped_kinds (d : TMd) (x : Int32) : TMd_kinds (TMd_set_skipped d x) = TMd_kinds d := rfl
theorem gs_skipped_values (d : TMd) (x : Int32) : TMd_values (TMd_set_skipped d x) = TMd_values d := rfl
theorem gs_skipped_bodies (d : TMd) (x : Int32) : TMd_bodies (TMd_set_skipped d x) = TMd_bodies d := rfl
theorem gs_skipped_rows (d : TMd) (x : Int32) : TMd_rows (TMd_set_skipped d x) = TMd_rows d := rfl
theorem gs_skipped_sizes (d : TMd) (x : Int32) : TMd_sizes (TMd_set_skipped d x) = TMd_sizes d := rfl
theorem gs_skipped_modes (d : TMd) (x : Int32) : TMd_modes (TMd_set_skipped d x) = TMd_modes d := rfl
theorem gs_skipped_ends (d : TMd) (x : Int32) : TMd_ends (TMd_set_skipped d x) = TMd_ends d := rfl
theorem gs_skipped_pileRows (d : TMd) (x : Int32) : TMd_pileRows (TMd_set_skipped d x) = TMd_pileRows d := rfl
theorem gs_skipped_pilePlaces (d : TMd) (x : Int32) : TMd_pilePlaces (TMd_set_skipped d x) = TMd_pilePlaces d := rfl
theorem gs_skipped_pile (d : TMd) (x : Int32) : TMd_pile (TMd_set_skipped d x) = TMd_pile d := rfl
theorem gs_skipped_held (d : TMd) (x : Int32) : TMd_held (TMd_set_skipped d x) = TMd_held d := rfl
theorem gs_skipped_steps (d : TMd) (x : Int32) : TMd_steps (TMd_set_skipped d x) = TMd_steps d := rfl
theorem gs_skipped_fault (d : TMd) (x : Int32) : TMd_fault (TMd_set_skipped d x) = TMd_fault d := rfl
theorem gs_skipped_out (d : TMd) (x : Int32) : TMd_out (TMd_set_skipped d x) = TMd_out d := rfl
theorem gs_skipped_outSize (d : TMd) (x : Int32) : TMd_outSize (TMd_set_skipped d x) = TMd_outSize d := rfl
theorem gs_skipped_opened (d : TMd) (x : Int32) : TMd_opened (TMd_set_skipped d x) = TMd_opened d := rfl
theorem gs_skipped_most (d : TMd) (x : Int32) : TMd_most (TMd_set_skipped d x) = TMd_most d := rfl
theorem gs_skipped_skipped (d : TMd) (x : Int32) : TMd_skipped (TMd_set_skipped d x) = x := rfl
theorem gs_skipped_decided (d : TMd) (x : Int32) : TMd_decided (TMd_set_skipped d x) = TMd_decided d := rfl
theorem gs_skipped_phases (d : TMd) (x : Int32) : TMd_phases (TMd_set_skipped d x) = TMd_phases d := rfl
theorem gs_skipped_open (d : TMd) (x : Int32) : TMd_open (TMd_set_skipped d x) = TMd_open d := rfl
theorem gs_skipped_hasRun (d : TMd) (x : Int32) : TMd_hasRun (TMd_set_skipped d x) = TMd_hasRun d := rfl
theorem gs_decided_thrown (d : TMd) (x : (Nat → Int32)) : TMd_thrown (TMd_set_decided d x) = TMd_thrown d := rfl
theorem gs_decided_kinds (d : TMd) (x : (Nat → Int32)) : TMd_kinds (TMd_set_decided d x) = TMd_kinds d := rfl
theorem gs_decided_values (d : TMd) (x : (Nat → Int32)) : TMd_values (TMd_set_decided d x) = TMd_values d := rfl
theorem gs_decided_bodies (d : TMd) (x : (Nat → Int32)) : TMd_bodies (TMd_set_decided d x) = TMd_bodies d := rfl
theorem gs_decided_rows (d : TMd) (x : (Nat → Int32)) : TMd_rows (TMd_set_decided d x) = TMd_rows d := rfl
theorem gs_decided_sizes (d : TMd) (x : (Nat → Int32)) : TMd_sizes (TMd_set_decided d x) = TMd_sizes d := rfl
theorem gs_decided_modes (d : TMd) (x : (Nat → Int32)) : TMd_modes (TMd_set_decided d x) = TMd_modes d := rfl
theorem gs_decided_ends (d : TMd) (x : (Nat → Int32)) : TMd_ends (TMd_set_decided d x) = TMd_ends d := rfl
theorem gs_decided_pileRows (d : TMd) (x : (Nat → Int32)) : TMd_pileRows (TMd_set_decided d x) = TMd_pileRows d := rfl
theorem gs_decided_pilePlaces (d : TMd) (x : (Nat → Int32)) : TMd_pilePlaces (TMd_set_decided d x) = TMd_pilePlaces d := rfl
theorem gs_decided_pile (d : TMd) (x : (Nat → Int32)) : TMd_pile (TMd_set_decided d x) = TMd_pile d := rfl
theorem gs_decided_held (d : TMd) (x : (Nat → Int32)) : TMd_held (TMd_set_decided d x) = TMd_held d := rfl
theorem gs_decided_steps (d : TMd) (x : (Nat → Int32)) : TMd_steps (TMd_set_decided d x) = TMd_steps d := rfl
theorem gs_decided_fault (d : TMd) (x : (Nat → Int32)) : TMd_fault (TMd_set_decided d x) = TMd_fault d := rfl
theorem gs_decided_out (d : TMd) (x : (Nat → Int32)) : TMd_out (TMd_set_decided d x) = TMd_out d := rfl
theorem gs_decided_outSize (d : TMd) (x : (Nat → Int32)) : TMd_outSize (TMd_set_decided d x) = TMd_outSize d := rfl
theorem gs_decided_opened (d : TMd) (x : (Nat → Int32)) : TMd_opened (TMd_set_decided d x) = TMd_opened d := rfl
theorem gs_decided_most (d : TMd) (x : (Nat → Int32)) : TMd_most (TMd_set_decided d x) = TMd_most d := rfl
theorem gs_decided_skipped (d : TMd) (x : (Nat → Int32)) : TMd_skipped (TMd_set_decided d x) = TMd_skipped d := rfl
theorem gs_decided_decided (d : TMd) (x : (Nat → Int32)) : TMd_decided (TMd_set_decided d x) = x := rfl
theorem gs_decided_phases (d : TMd) (x : (Nat → Int32)) : TMd_phases (TMd_set_decided d x) = TMd_phases d := rfl
theorem gs_decided_open (d : TMd) (x : (Nat → Int32)) : TMd_open (TMd_set_decided d x) = TMd_open d := rfl
theorem gs_decided_hasRun (d : TMd) (x : (Nat → Int32)) : TMd_hasRun (TMd_set_decided d x) = TMd_hasRun d := rfl
theorem gs_hasRun_thrown (d : TMd) (x : Int32) : TMd_thrown (TMd_set_hasRun d x) = TMd_thrown d := rfl
theorem gs_hasRun_kinds (d : TMd) (x : Int32) : TMd_kinds (TMd_set_hasRun d x) = TMd_kinds d := rfl
theorem gs_hasRun_values (d : TMd) (x : Int32) : TMd_values (TMd_set_hasRun d x) = TMd_values d := rfl
theorem gs_hasRun_bodies (d : TMd) (x : Int32) : TMd_bodies (TMd_set_hasRun d x) = TMd_bodies d := rfl
theorem gs_hasRun_rows (d : TMd) (x : Int32) : TMd_rows (TMd_set_hasRun d x) = TMd_rows d := rfl
theorem gs_hasRun_sizes (d : TMd) (x : Int32) : TMd_sizes (TMd_set_hasRun d x) = TMd_sizes d := rfl
theorem gs_hasRun_modes (d : TMd) (x : Int32) : TMd_modes (TMd_set_hasRun d x) = TMd_modes d := rfl
theorem gs_hasRun_ends (d : TMd) (x : Int32) : TMd_ends (TMd_set_hasRun d x) = TMd_ends d := rfl
theorem gs_hasRun_pileRows (d : TMd) (x : Int32) : TMd_pileRows (TMd_set_hasRun d x) = TMd_pileRows d := rfl
theorem gs_hasRun_pilePlaces (d : TMd) (x : Int32) : TMd_pilePlaces (TMd_set_hasRun d x) = TMd_pilePlaces d := rfl
theorem gs_hasRun_pile (d : TMd) (x : Int32) : TMd_pile (TMd_set_hasRun d x) = TMd_pile d := rfl
theorem gs_hasRun_held (d : TMd) (x : Int32) : TMd_held (TMd_set_hasRun d x) = TMd_held d := rfl
theorem gs_hasRun_steps (d : TMd) (x : Int32) : TMd_steps (TMd_set_hasRun d x) = TMd_steps d := rfl
theorem gs_hasRun_fault (d : TMd) (x : Int32) : TMd_fault (TMd_set_hasRun d x) = TMd_fault d := rfl
theorem gs_hasRun_out (d : TMd) (x : Int32) : TMd_out (TMd_set_hasRun d x) = TMd_out d := rfl
theorem gs_hasRun_outSize (d : TMd) (x : Int32) : TMd_outSize (TMd_set_hasRun d x) = TMd_outSize d := rfl
theorem gs_hasRun_opened (d : TMd) (x : Int32) : TMd_opened (TMd_set_hasRun d x) = TMd_opened d := rfl
theorem gs_hasRun_most (d : TMd) (x : Int32) : TMd_most (TMd_set_hasRun d x) = TMd_most d := rfl
theorem gs_hasRun_skipped (d : TMd) (x : Int32) : TMd_skipped (TMd_set_hasRun d x) = TMd_skipped d := rfl
theorem gs_hasRun_decided (d : TMd) (x : Int32) : TMd_decided (TMd_set_hasRun d x) = TMd_decided d := rfl
theorem gs_hasRun_phases (d : TMd) (x : Int32) : TMd_phases (TMd_set_hasRun d x) = TMd_phases d := rfl
theorem gs_hasRun_open (d : TMd) (x : Int32) : TMd_open (TMd_set_hasRun d x) = TMd_open d := rfl
theorem gs_hasRun_hasRun (d : TMd) (x : Int32) : TMd_hasRun (TMd_set_hasRun d x) = x := rfl
