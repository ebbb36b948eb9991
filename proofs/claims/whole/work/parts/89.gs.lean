theorem gs_opened_thrown (d : TMd) (x : Int32) : TMd_thrown (TMd_set_opened d x) = TMd_thrown d := rfl
theorem gs_opened_kinds (d : TMd) (x : Int32) : TMd_kinds (TMd_set_opened d x) = TMd_kinds d := rfl
theorem gs_opened_values (d : TMd) (x : Int32) : TMd_values (TMd_set_opened d x) = TMd_values d := rfl
theorem gs_opened_bodies (d : TMd) (x : Int32) : TMd_bodies (TMd_set_opened d x) = TMd_bodies d := rfl
theorem gs_opened_rows (d : TMd) (x : Int32) : TMd_rows (TMd_set_opened d x) = TMd_rows d := rfl
theorem gs_opened_sizes (d : TMd) (x : Int32) : TMd_sizes (TMd_set_opened d x) = TMd_sizes d := rfl
theorem gs_opened_modes (d : TMd) (x : Int32) : TMd_modes (TMd_set_opened d x) = TMd_modes d := rfl
theorem gs_opened_ends (d : TMd) (x : Int32) : TMd_ends (TMd_set_opened d x) = TMd_ends d := rfl
theorem gs_opened_pileRows (d : TMd) (x : Int32) : TMd_pileRows (TMd_set_opened d x) = TMd_pileRows d := rfl
theorem gs_opened_pilePlaces (d : TMd) (x : Int32) : TMd_pilePlaces (TMd_set_opened d x) = TMd_pilePlaces d := rfl
theorem gs_opened_pile (d : TMd) (x : Int32) : TMd_pile (TMd_set_opened d x) = TMd_pile d := rfl
theorem gs_opened_held (d : TMd) (x : Int32) : TMd_held (TMd_set_opened d x) = TMd_held d := rfl
theorem gs_opened_steps (d : TMd) (x : Int32) : TMd_steps (TMd_set_opened d x) = TMd_steps d := rfl
theorem gs_opened_fault (d : TMd) (x : Int32) : TMd_fault (TMd_set_opened d x) = TMd_fault d := rfl
theorem gs_opened_out (d : TMd) (x : Int32) : TMd_out (TMd_set_opened d x) = TMd_out d := rfl
theorem gs_opened_outSize (d : TMd) (x : Int32) : TMd_outSize (TMd_set_opened d x) = TMd_outSize d := rfl
theorem gs_opened_opened (d : TMd) (x : Int32) : TMd_opened (TMd_set_opened d x) = x := rfl
theorem gs_opened_most (d : TMd) (x : Int32) : TMd_most (TMd_set_opened d x) = TMd_most d := rfl
theorem gs_opened_skipped (d : TMd) (x : Int32) : TMd_skipped (TMd_set_opened d x) = TMd_skipped d := rfl
theorem gs_opened_decided (d : TMd) (x : Int32) : TMd_decided (TMd_set_opened d x) = TMd_decided d := rfl
theorem gs_opened_phases (d : TMd) (x : Int32) : TMd_phases (TMd_set_opened d x) = TMd_phases d := rfl
theorem gs_opened_open (d : TMd) (x : Int32) : TMd_open (TMd_set_opened d x) = TMd_open d := rfl
theorem gs_opened_hasRun (d : TMd) (x : Int32) : TMd_hasRun (TMd_set_opened d x) = TMd_hasRun d := rfl
theorem gs_phases_thrown (d : TMd) (x : (Nat → Int32)) : TMd_thrown (TMd_set_phases d x) = TMd_thrown d := rfl
theorem gs_phases_kinds (d : TMd) (x : (Nat → Int32)) : TMd_kinds (TMd_set_phases d x) = TMd_kinds d := rfl
theorem gs_phases_values (d : TMd) (x : (Nat → Int32)) : TMd_values (TMd_set_phases d x) = TMd_values d := rfl
theorem gs_phases_bodies (d : TMd) (x : (Nat → Int32)) : TMd_bodies (TMd_set_phases d x) = TMd_bodies d := rfl
theorem gs_phases_rows (d : TMd) (x : (Nat → Int32)) : TMd_rows (TMd_set_phases d x) = TMd_rows d := rfl
theorem gs_phases_sizes (d : TMd) (x : (Nat → Int32)) : TMd_sizes (TMd_set_phases d x) = TMd_sizes d := rfl
theorem gs_phases_modes (d : TMd) (x : (Nat → Int32)) : TMd_modes (TMd_set_phases d x) = TMd_modes d := rfl
theorem gs_phases_ends (d : TMd) (x : (Nat → Int32)) : TMd_ends (TMd_set_phases d x) = TMd_ends d := rfl
theorem gs_phases_pileRows (d : TMd) (x : (Nat → Int32)) : TMd_pileRows (TMd_set_phases d x) = TMd_pileRows d := rfl
theorem gs_phases_pilePlaces (d : TMd) (x : (Nat → Int32)) : TMd_pilePlaces (TMd_set_phases d x) = TMd_pilePlaces d := rfl
theorem gs_phases_pile (d : TMd) (x : (Nat → Int32)) : TMd_pile (TMd_set_phases d x) = TMd_pile d := rfl
theorem gs_phases_held (d : TMd) (x : (Nat → Int32)) : TMd_held (TMd_set_phases d x) = TMd_held d := rfl
theorem gs_phases_steps (d : TMd) (x : (Nat → Int32)) : TMd_steps (TMd_set_phases d x) = TMd_steps d := rfl
theorem gs_phases_fault (d : TMd) (x : (Nat → Int32)) : TMd_fault (TMd_set_phases d x) = TMd_fault d := rfl
theorem gs_phases_out (d : TMd) (x : (Nat → Int32)) : TMd_out (TMd_set_phases d x) = TMd_out d := rfl
theorem gs_phases_outSize (d : TMd) (x : (Nat → Int32)) : TMd_outSize (TMd_set_phases d x) = TMd_outSize d := rfl
theorem gs_phases_opened (d : TMd) (x : (Nat → Int32)) : TMd_opened (TMd_set_phases d x) = TMd_opened d := rfl
theorem gs_phases_most (d : TMd) (x : (Nat → Int32)) : TMd_most (TMd_set_phases d x) = TMd_most d := rfl
theorem gs_phases_skipped (d : TMd) (x : (Nat → Int32)) : TMd_skipped (TMd_set_phases d x) = TMd_skipped d := rfl
theorem gs_phases_decided (d : TMd) (x : (Nat → Int32)) : TMd_decided (TMd_set_phases d x) = TMd_decided d := rfl
theorem gs_phases_phases (d : TMd) (x : (Nat → Int32)) : TMd_phases (TMd_set_phases d x) = x := rfl
theorem gs_phases_open (d : TMd) (x : (Nat → Int32)) : TMd_open (TMd_set_phases d x) = TMd_open d := rfl
theorem gs_phases_hasRun (d : TMd) (x : (Nat → Int32)) : TMd_hasRun (TMd_set_phases d x) = TMd_hasRun d := rfl
theorem gs_open_thrown (d : TMd) (x : Int32) : TMd_thrown (TMd_set_open d x) = TMd_thrown d := rfl
theorem gs_open_kinds (d : TMd) (x : Int32) : TMd_kinds (TMd_set_open d x) = TMd_kinds d := rfl
theorem gs_open_values (d : TMd) (x : Int32) : TMd_values (TMd_set_open d x) = TMd_values d := rfl
theorem gs_open_bodies (d : TMd) (x : Int32) : TMd_bodies (TMd_set_open d x) = TMd_bodies d := rfl
theorem gs_open_rows (d : TMd) (x : Int32) : TMd_rows (TMd_set_open d x) = TMd_rows d := rfl
theorem gs_open_sizes (d : TMd) (x : Int32) : TMd_sizes (TMd_set_open d x) = TMd_sizes d := rfl
theorem gs_open_modes (d : TMd) (x : Int32) : TMd_modes (TMd_set_open d x) = TMd_modes d := rfl
theorem gs_open_ends (d : TMd) (x : Int32) : TMd_ends (TMd_set_open d x) = TMd_ends d := rfl
theorem gs_open_pileRows (d : TMd) (x : Int32) : TMd_pileRows (TMd_set_open d x) = TMd_pileRows d := rfl
theorem gs_open_pilePlaces (d : TMd) (x : Int32) : TMd_pilePlaces (TMd_set_open d x) = TMd_pilePlaces d := rfl
theorem gs_open_pile (d : TMd) (x : Int32) : TMd_pile (TMd_set_open d x) = TMd_pile d := rfl
theorem gs_open_held (d : TMd) (x : Int32) : TMd_held (TMd_set_open d x) = TMd_held d := rfl
theorem gs_open_steps (d : TMd) (x : Int32) : TMd_steps (TMd_set_open d x) = TMd_steps d := rfl
theorem gs_open_fault (d : TMd) (x : Int32) : TMd_fault (TMd_set_open d x) = TMd_fault d := rfl
theorem gs_open_out (d : TMd) (x : Int32) : TMd_out (TMd_set_open d x) = TMd_out d := rfl
theorem gs_open_outSize (d : TMd) (x : Int32) : TMd_outSize (TMd_set_open d x) = TMd_outSize d := rfl
theorem gs_open_opened (d : TMd) (x : Int32) : TMd_opened (TMd_set_open d x) = TMd_opened d := rfl
theorem gs_open_most (d : TMd) (x : Int32) : TMd_most (TMd_set_open d x) = TMd_most d := rfl
theorem gs_open_skipped (d : TMd) (x : Int32) : TMd_skipped (TMd_set_open d x) = TMd_skipped d := rfl
theorem gs_open_decided (d : TMd) (x : Int32) : TMd_decided (TMd_set_open d x) = TMd_decided d := rfl
theorem gs_open_phases (d : TMd) (x : Int32) : TMd_phases (TMd_set_open d x) = TMd_phases d := rfl
theorem gs_open_open (d : TMd) (x : Int32) : TMd_open (TMd_set_open d x) = x := rfl
theorem gs_open_hasRun (d : TMd) (x : Int32) : TMd_hasRun (TMd_set_open d x) = TMd_hasRun d := rfl
theorem gs_most_thrown (d : TMd) (x : Int32) : TMd_thrown (TMd_set_most d x) = TMd_thrown d := rfl
theorem gs_most_kinds (d : TMd) (x : Int32) : TMd_kinds (TMd_set_most d x) = TMd_kinds d := rfl
theorem gs_most_values (d : TMd) (x : Int32) : TMd_values (TMd_set_most d x) = TMd_values d := rfl
theorem gs_most_bodies (d : TMd) (x : Int32) : TMd_bodies (TMd_set_most d x) = TMd_bodies d := rfl
theorem gs_most_rows (d : TMd) (x : Int32) : TMd_rows (TMd_set_most d x) = TMd_rows d := rfl
theorem gs_most_sizes (d : TMd) (x : Int32) : TMd_sizes (TMd_set_most d x) = TMd_sizes d := rfl
theorem gs_most_modes (d : TMd) (x : Int32) : TMd_modes (TMd_set_most d x) = TMd_modes d := rfl
theorem gs_most_ends (d : TMd) (x : Int32) : TMd_ends (TMd_set_most d x) = TMd_ends d := rfl
theorem gs_most_pileRows (d : TMd) (x : Int32) : TMd_pileRows (TMd_set_most d x) = TMd_pileRows d := rfl
theorem gs_most_pilePlaces (d : TMd) (x : Int32) : TMd_pilePlaces (TMd_set_most d x) = TMd_pilePlaces d := rfl
theorem gs_most_pile (d : TMd) (x : Int32) : TMd_pile (TMd_set_most d x) = TMd_pile d := rfl
theorem gs_most_held (d : TMd) (x : Int32) : TMd_held (TMd_set_most d x) = TMd_held d := rfl
theorem gs_most_steps (d : TMd) (x : Int32) : TMd_steps (TMd_set_most d x) = TMd_steps d := rfl
theorem gs_most_fault (d : TMd) (x : Int32) : TMd_fault (TMd_set_most d x) = TMd_fault d := rfl
theorem gs_most_out (d : TMd) (x : Int32) : TMd_out (TMd_set_most d x) = TMd_out d := rfl
theorem gs_most_outSize (d : TMd) (x : Int32) : TMd_outSize (TMd_set_most d x) = TMd_outSize d := rfl
theorem gs_most_opened (d : TMd) (x : Int32) : TMd_opened (TMd_set_most d x) = TMd_opened d := rfl
theorem gs_most_most (d : TMd) (x : Int32) : TMd_most (TMd_set_most d x) = x := rfl
theorem gs_most_skipped (d : TMd) (x : Int32) : TMd_skipped (TMd_set_most d x) = TMd_skipped d := rfl
theorem gs_most_decided (d : TMd) (x : Int32) : TMd_decided (TMd_set_most d x) = TMd_decided d := rfl
theorem gs_most_phases (d : TMd) (x : Int32) : TMd_phases (TMd_set_most d x) = TMd_phases d := rfl
theorem gs_most_open (d : TMd) (x : Int32) : TMd_open (TMd_set_most d x) = TMd_open d := rfl
theorem gs_most_hasRun (d : TMd) (x : Int32) : TMd_hasRun (TMd_set_most d x) = TMd_hasRun d := rfl
theorem gr_isCase_rd (d : TRn) (x : (Nat → Int32)) : TRn_rd (TRn_set_isCase d x) = TRn_rd d := rfl
theorem gr_isCase_out (d : TRn) (x : (Nat → Int32)) : TRn_out (TRn_set_isCase d x) = TRn_out d := rfl
theorem gr_isCase_decisions (d : TRn) (x : (Nat → Int32)) : TRn_decisions (TRn_set_isCase d x) = TRn_decisions d := rfl
theorem gr_isCase_isCase (d : TRn) (x : (Nat → Int32)) : TRn_isCase (TRn_set_isCase d x) = x := rfl
theorem gr_isCase_hadElse (d : TRn) (x : (Nat → Int32)) : TRn_hadElse (TRn_set_isCase d x) = TRn_hadElse d := rfl
theorem gr_isCase_outSize (d : TRn) (x : (Nat → Int32)) : TRn_outSize (TRn_set_isCase d x) = TRn_outSize d := rfl
theorem gr_isCase_openCount (d : TRn) (x : (Nat → Int32)) : TRn_openCount (TRn_set_isCase d x) = TRn_openCount d := rfl
theorem gr_isCase_opened (d : TRn) (x : (Nat → Int32)) : TRn_opened (TRn_set_isCase d x) = TRn_opened d := rfl
theorem gr_isCase_mostOpen (d : TRn) (x : (Nat → Int32)) : TRn_mostOpen (TRn_set_isCase d x) = TRn_mostOpen d := rfl
theorem gr_isCase_skipped (d : TRn) (x : (Nat → Int32)) : TRn_skipped (TRn_set_isCase d x) = TRn_skipped d := rfl
theorem gr_isCase_fault (d : TRn) (x : (Nat → Int32)) : TRn_fault (TRn_set_isCase d x) = TRn_fault d := rfl
theorem gr_hadElse_rd (d : TRn) (x : (Nat → Int32)) : TRn_rd (TRn_set_hadElse d x) = TRn_rd d := rfl
theorem gr_hadElse_out (d : TRn) (x : (Nat → Int32)) : TRn_out (TRn_set_hadElse d x) = TRn_out d := rfl
theorem gr_hadElse_decisions (d : TRn) (x : (Nat → Int32)) : TRn_decisions (TRn_set_hadElse d x) = TRn_decisions d := rfl
theorem gr_hadElse_isCase (d : TRn) (x : (Nat → Int32)) : TRn_isCase (TRn_set_hadElse d x) = TRn_isCase d := rfl
theorem gr_hadElse_hadElse (d : TRn) (x : (Nat → Int32)) : TRn_hadElse (TRn_set_hadElse d x) = x := rfl
theorem gr_hadElse_outSize (d : TRn) (x : (Nat → Int32)) : TRn_outSize (TRn_set_hadElse d x) = TRn_outSize d := rfl
theorem gr_hadElse_openCount (d : TRn) (x : (Nat → Int32)) : TRn_openCount (TRn_set_hadElse d x) = TRn_openCount d := rfl
theorem gr_hadElse_opened (d : TRn) (x : (Nat → Int32)) : TRn_opened (TRn_set_hadElse d x) = TRn_opened d := rfl
theorem gr_hadElse_mostOpen (d : TRn) (x : (Nat → Int32)) : TRn_mostOpen (TRn_set_hadElse d x) = TRn_mostOpen d := rfl
theorem gr_hadElse_skipped (d : TRn) (x : (Nat → Int32)) : TRn_skipped (TRn_set_hadElse d x) = TRn_skipped d := rfl
theorem gr_hadElse_fault (d : TRn) (x : (Nat → Int32)) : TRn_fault (TRn_set_hadElse d x) = TRn_fault d := rfl
theorem gr_openCount_rd (d : TRn) (x : Int32) : TRn_rd (TRn_set_openCount d x) = TRn_rd d := rfl
theorem gr_openCount_out (d : TRn) (x : Int32) : TRn_out (TRn_set_openCount d x) = TRn_out d := rfl
theorem gr_openCount_decisions (d : TRn) (x : Int32) : TRn_decisions (TRn_set_openCount d x) = TRn_decisions d := rfl
theorem gr_openCount_isCase (d : TRn) (x : Int32) : TRn_isCase (TRn_set_openCount d x) = TRn_isCase d := rfl
theorem gr_openCount_hadElse (d : TRn) (x : Int32) : TRn_hadElse (TRn_set_openCount d x) = TRn_hadElse d := rfl
theorem gr_openCount_outSize (d : TRn) (x : Int32) : TRn_outSize (TRn_set_openCount d x) = TRn_outSize d := rfl
theorem gr_openCount_openCount (d : TRn) (x : Int32) : TRn_openCount (TRn_set_openCount d x) = x := rfl
theorem gr_openCount_opened (d : TRn) (x : Int32) : TRn_opened (TRn_set_openCount d x) = TRn_opened d := rfl
theorem gr_openCount_mostOpen (d : TRn) (x : Int32) : TRn_mostOpen (TRn_set_openCount d x) = TRn_mostOpen d := rfl
theorem gr_openCount_skipped (d : TRn) (x : Int32) : TRn_skipped (TRn_set_openCount d x) = TRn_skipped d := rfl
theorem gr_openCount_fault (d : TRn) (x : Int32) : TRn_fault (TRn_set_openCount d x) = TRn_fault d := rfl
theorem gr_opened_rd (d : TRn) (x : Int32) : TRn_rd (TRn_set_opened d x) = TRn_rd d := rfl
theorem gr_opened_out (d : TRn) (x : Int32) : TRn_out (TRn_set_opened d x) = TRn_out d := rfl
theorem gr_opened_decisions (d : TRn) (x : Int32) : TRn_decisions (TRn_set_opened d x) = TRn_decisions d := rfl
theorem gr_opened_isCase (d : TRn) (x : Int32) : TRn_isCase (TRn_set_opened d x) = TRn_isCase d := rfl
theorem gr_opened_hadElse (d : TRn) (x : Int32) : TRn_hadElse (TRn_set_opened d x) = TRn_hadElse d := rfl
theorem gr_opened_outSize (d : TRn) (x : Int32) : TRn_outSize (TRn_set_opened d x) = TRn_outSize d := rfl
theorem gr_opened_openCount (d : TRn) (x : Int32) : TRn_openCount (TRn_set_opened d x) = TRn_openCount d := rfl
theorem gr_opened_opened (d : TRn) (x : Int32) : TRn_opened (TRn_set_opened d x) = x := rfl
theorem gr_opened_mostOpen (d : TRn) (x : Int32) : TRn_mostOpen (TRn_set_opened d x) = TRn_mostOpen d := rfl
theorem gr_opened_skipped (d : TRn) (x : Int32) : TRn_skipped (TRn_set_opened d x) = TRn_skipped d := rfl
theorem gr_opened_fault (d : TRn) (x : Int32) : TRn_fault (TRn_set_opened d x) = TRn_fault d := rfl
theorem gr_mostOpen_rd (d : TRn) (x : Int32) : TRn_rd (TRn_set_mostOpen d x) = TRn_rd d := rfl
theorem gr_mostOpen_out (d : TRn) (x : Int32) : TRn_out (TRn_set_mostOpen d x) = TRn_out d := rfl
theorem gr_mostOpen_decisions (d : TRn) (x : Int32) : TRn_decisions (TRn_set_mostOpen d x) = TRn_decisions d := rfl
theorem gr_mostOpen_isCase (d : TRn) (x : Int32) : TRn_isCase (TRn_set_mostOpen d x) = TRn_isCase d := rfl
theorem gr_mostOpen_hadElse (d : TRn) (x : Int32) : TRn_hadElse (TRn_set_mostOpen d x) = TRn_hadElse d := rfl
theorem gr_mostOpen_outSize (d : TRn) (x : Int32) : TRn_outSize (TRn_set_mostOpen d x) = TRn_outSize d := rfl
theorem gr_mostOpen_openCount (d : TRn) (x : Int32) : TRn_openCount (TRn_set_mostOpen d x) = TRn_openCount d := rfl
theorem gr_mostOpen_opened (d : TRn) (x : Int32) : TRn_opened (TRn_set_mostOpen d x) = TRn_opened d := rfl
theorem gr_mostOpen_mostOpen (d : TRn) (x : Int32) : TRn_mostOpen (TRn_set_mostOpen d x) = x := rfl
theorem gr_mostOpen_skipped (d : TRn) (x : Int32) : TRn_skipped (TRn_set_mostOpen d x) = TRn_skipped d := rfl
theorem gr_mostOpen_fault (d : TRn) (x : Int32) : TRn_fault (TRn_set_mostOpen d x) = TRn_fault d := rfl
