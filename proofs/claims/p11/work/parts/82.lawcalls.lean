set_option maxRecDepth 100000 in
theorem xc_law_13 {R : Room} {s : State} {args : Array Value} {w0 : Cond} (rm : Room) (hts : ∀ w ∈ w0 :: q_gw lw_tbl, w.before args s = true) (hR : rm.frames + 1 ≤ R.frames ∧ 8 + (7 + 11) + rm.locals ≤ R.locals) (h0 : rm.cells = 0) (h1 : rm.slots = 0) : CallW R s args xR_law xR_fe 13 xy_fe_add xb_fe_add 7 (some .int) (q_ws (q_gw lw_tbl) xy_fe_add xb_fe_add 7 (some .int)) rm 0 0 4 :=
  cwV 4 hts (q_goodV (q_gw_all _) (q_mf 301 rfl rfl) (q_mf 302 rfl rfl) (q_mf 303 rfl rfl) (q_mf 41 rfl rfl) (q_mf 304 rfl rfl)) rfl h0 h1 (by decide +kernel) hR
set_option maxRecDepth 100000 in
theorem xc_law_18 {R : Room} {s : State} {args : Array Value} {w0 : Cond} (rm : Room) (hts : ∀ w ∈ w0 :: q_gw lw_tbl, w.before args s = true) (hR : rm.frames + 1 ≤ R.frames ∧ 8 + (6 + 11) + rm.locals ≤ R.locals) (h0 : rm.cells = 0) (h1 : rm.slots = 0) : CallW R s args xR_law xR_fe 18 xy_fe_change xb_fe_change 6 (some .boolean) (q_ws (q_gw lw_tbl) xy_fe_change xb_fe_change 6 (some .boolean)) rm 0 0 5 :=
  cwV 5 hts (q_goodV (q_gw_all _) (q_mf 334 rfl rfl) (q_mf 335 rfl rfl) (q_mf 336 rfl rfl) (q_mf 41 rfl rfl) (q_mf 337 rfl rfl)) rfl h0 h1 (by decide +kernel) hR
set_option maxRecDepth 100000 in
theorem xc_law_23 {R : Room} {s : State} {args : Array Value} {w0 : Cond} (rm : Room) (hts : ∀ w ∈ w0 :: q_gw lw_tbl, w.before args s = true) (hR : rm.frames + 1 ≤ R.frames ∧ 8 + (4 + 11) + rm.locals ≤ R.locals) (h0 : rm.cells = 0) (h1 : rm.slots = 0) : CallW R s args xR_law xR_fe 23 xy_fe_start xb_fe_start 4 (some .int) (q_ws (q_gw lw_tbl) xy_fe_start xb_fe_start 4 (some .int)) rm 0 0 2 :=
  cwV 2 hts (q_goodV (q_gw_all _) (q_mf 339 rfl rfl) (q_mf 340 rfl rfl) (q_mf 341 rfl rfl) (q_mf 41 rfl rfl) (q_mf 342 rfl rfl)) rfl h0 h1 (by decide +kernel) hR
set_option maxRecDepth 100000 in
theorem xc_law_28 {R : Room} {s : State} {args : Array Value} {w0 : Cond} (rm : Room) (hts : ∀ w ∈ w0 :: q_gw lw_tbl, w.before args s = true) (hR : rm.frames + 1 ≤ R.frames ∧ 8 + (2 + 11) + rm.locals ≤ R.locals) (h0 : rm.cells = 0) (h1 : rm.slots = 0) : CallW R s args xR_law xR_fe 28 xy_fe_remove xb_fe_remove 2 (some .boolean) (q_ws (q_gw lw_tbl) xy_fe_remove xb_fe_remove 2 (some .boolean)) rm 0 0 1 :=
  cwV 1 hts (q_goodV (q_gw_all _) (q_mf 450 rfl rfl) (q_mf 451 rfl rfl) (q_mf 452 rfl rfl) (q_mf 41 rfl rfl) (q_mf 453 rfl rfl)) rfl h0 h1 (by decide +kernel) hR
set_option maxRecDepth 100000 in
theorem xc_law_33 {R : Room} {s : State} {args : Array Value} {w0 : Cond} (rm : Room) (hts : ∀ w ∈ w0 :: q_gw lw_tbl, w.before args s = true) (hR : rm.frames + 1 ≤ R.frames ∧ 8 + (5 + 11) + rm.locals ≤ R.locals) (h0 : rm.cells = 0) (h1 : rm.slots = 0) : CallW R s args xR_law xR_fe 33 xy_fe_signal xb_fe_signal 5 (some .int) (q_ws (q_gw lw_tbl) xy_fe_signal xb_fe_signal 5 (some .int)) rm 0 0 3 :=
  cwV 3 hts (q_goodV (q_gw_all _) (q_mf 458 rfl rfl) (q_mf 459 rfl rfl) (q_mf 460 rfl rfl) (q_mf 41 rfl rfl) (q_mf 461 rfl rfl)) rfl h0 h1 (by decide +kernel) hR
set_option maxRecDepth 100000 in
theorem xc_law_38 {R : Room} {s : State} {args : Array Value} {w0 : Cond} (rm : Room) (hts : ∀ w ∈ w0 :: q_gw lw_tbl, w.before args s = true) (hR : rm.frames + 1 ≤ R.frames ∧ 8 + (4 + 11) + rm.locals ≤ R.locals) (h0 : rm.cells = 0) (h1 : rm.slots = 0) : CallW R s args xR_law xR_fe 38 xy_fe_take xb_fe_take 4 (some .int) (q_ws (q_gw lw_tbl) xy_fe_take xb_fe_take 4 (some .int)) rm 0 0 0 :=
  cwV 0 hts (q_goodV (q_gw_all _) (q_mf 481 rfl rfl) (q_mf 482 rfl rfl) (q_mf 483 rfl rfl) (q_mf 41 rfl rfl) (q_mf 484 rfl rfl)) rfl h0 h1 (by decide +kernel) hR
set_option maxRecDepth 100000 in
theorem xc_law_43 {R : Room} {s : State} {args : Array Value} {w0 : Cond} (rm : Room) (hts : ∀ w ∈ w0 :: q_gw lw_tbl, w.before args s = true) (hR : rm.frames + 1 ≤ R.frames ∧ 8 + (5 + 11) + rm.locals ≤ R.locals) (h0 : rm.cells = 0) (h1 : rm.slots = 0) : CallW R s args xR_law xR_fe 43 xy_fe_answer xb_fe_answer 5 (some .int) (q_ws (q_gw lw_tbl) xy_fe_answer xb_fe_answer 5 (some .int)) rm 0 0 3 :=
  cwV 3 hts (q_goodV (q_gw_all _) (q_mf 489 rfl rfl) (q_mf 490 rfl rfl) (q_mf 491 rfl rfl) (q_mf 41 rfl rfl) (q_mf 492 rfl rfl)) rfl h0 h1 (by decide +kernel) hR
set_option maxRecDepth 100000 in
theorem xc_law_48 {R : Room} {s : State} {args : Array Value} {w0 : Cond} (rm : Room) (hts : ∀ w ∈ w0 :: q_gw lw_tbl, w.before args s = true) (hR : rm.frames + 1 ≤ R.frames ∧ 8 + (4 + 11) + rm.locals ≤ R.locals) (h0 : rm.cells = 0) (h1 : rm.slots = 0) : CallW R s args xR_law xR_fe 48 xy_fe_tick xb_fe_tick 4 (some .int) (q_ws (q_gw lw_tbl) xy_fe_tick xb_fe_tick 4 (some .int)) rm 0 0 1 :=
  cwV 1 hts (q_goodV (q_gw_all _) (q_mf 501 rfl rfl) (q_mf 502 rfl rfl) (q_mf 503 rfl rfl) (q_mf 41 rfl rfl) (q_mf 504 rfl rfl)) rfl h0 h1 (by decide +kernel) hR
set_option maxRecDepth 100000 in
theorem xc_law_53 {R : Room} {s : State} {args : Array Value} {w0 : Cond} (rm : Room) (hts : ∀ w ∈ w0 :: q_gw lw_tbl, w.before args s = true) (hR : rm.frames + 1 ≤ R.frames ∧ 8 + (2 + 11) + rm.locals ≤ R.locals) (h0 : rm.cells = 0) (h1 : rm.slots = 0) : CallW R s args xR_law xR_fe 53 xy_fe_forget xb_fe_forget 2 (some .boolean) (q_ws (q_gw lw_tbl) xy_fe_forget xb_fe_forget 2 (some .boolean)) rm 0 0 1 :=
  cwV 1 hts (q_goodV (q_gw_all _) (q_mf 513 rfl rfl) (q_mf 514 rfl rfl) (q_mf 515 rfl rfl) (q_mf 41 rfl rfl) (q_mf 516 rfl rfl)) rfl h0 h1 (by decide +kernel) hR
set_option maxRecDepth 100000 in
theorem xc_law_57 {R : Room} {s : State} {args : Array Value} {w0 : Cond} (rm : Room) (hts : ∀ w ∈ w0 :: q_gw lw_tbl, w.before args s = true) (hR : rm.frames + 1 ≤ R.frames ∧ 8 + (4 + 11) + rm.locals ≤ R.locals) (h0 : rm.cells = 0) (h1 : rm.slots = 0) : CallW R s args xR_law xR_fe 57 xy_fe_flow xb_fe_flow 4 (some .int) (q_ws (q_gw lw_tbl) xy_fe_flow xb_fe_flow 4 (some .int)) rm 0 0 2 :=
  cwV 2 hts (q_goodV (q_gw_all _) (q_mf 517 rfl rfl) (q_mf 518 rfl rfl) (q_mf 519 rfl rfl) (q_mf 41 rfl rfl) (q_mf 520 rfl rfl)) rfl h0 h1 (by decide +kernel) hR
set_option maxRecDepth 100000 in
theorem xc_law_61 {R : Room} {s : State} {args : Array Value} {w0 : Cond} (rm : Room) (hts : ∀ w ∈ w0 :: q_gw lw_tbl, w.before args s = true) (hR : rm.frames + 1 ≤ R.frames ∧ 8 + (5 + 11) + rm.locals ≤ R.locals) (h0 : rm.cells = 0) (h1 : rm.slots = 0) : CallW R s args xR_law xR_fe 61 xy_fe_entry xb_fe_entry 5 (some .int) (q_ws (q_gw lw_tbl) xy_fe_entry xb_fe_entry 5 (some .int)) rm 0 0 3 :=
  cwV 3 hts (q_goodV (q_gw_all _) (q_mf 525 rfl rfl) (q_mf 526 rfl rfl) (q_mf 527 rfl rfl) (q_mf 41 rfl rfl) (q_mf 528 rfl rfl)) rfl h0 h1 (by decide +kernel) hR
set_option maxRecDepth 100000 in
theorem xc_law_65 {R : Room} {s : State} {args : Array Value} {w0 : Cond} (rm : Room) (hts : ∀ w ∈ w0 :: q_gw lw_tbl, w.before args s = true) (hR : rm.frames + 1 ≤ R.frames ∧ 8 + (2 + 11) + rm.locals ≤ R.locals) (h0 : rm.cells = 0) (h1 : rm.slots = 0) : CallW R s args xR_law xR_fe 65 xy_fe_line xb_fe_line 2 (some .int) (q_ws (q_gw lw_tbl) xy_fe_line xb_fe_line 2 (some .int)) rm 0 0 1 :=
  cwV 1 hts (q_goodV (q_gw_all _) (q_mf 529 rfl rfl) (q_mf 530 rfl rfl) (q_mf 531 rfl rfl) (q_mf 41 rfl rfl) (q_mf 532 rfl rfl)) rfl h0 h1 (by decide +kernel) hR
set_option maxRecDepth 100000 in
theorem xc_law_69 {R : Room} {s : State} {args : Array Value} {w0 : Cond} (rm : Room) (hts : ∀ w ∈ w0 :: q_gw lw_tbl, w.before args s = true) (hR : rm.frames + 1 ≤ R.frames ∧ 8 + (2 + 11) + rm.locals ≤ R.locals) (h0 : rm.cells = 0) (h1 : rm.slots = 0) : CallW R s args xR_law xR_fe 69 xy_fe_count xb_fe_count 2 (some .int) (q_ws (q_gw lw_tbl) xy_fe_count xb_fe_count 2 (some .int)) rm 0 0 1 :=
  cwV 1 hts (q_goodV (q_gw_all _) (q_mf 533 rfl rfl) (q_mf 534 rfl rfl) (q_mf 535 rfl rfl) (q_mf 41 rfl rfl) (q_mf 536 rfl rfl)) rfl h0 h1 (by decide +kernel) hR
