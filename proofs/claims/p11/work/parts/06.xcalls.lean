set_option maxRecDepth 100000 in
theorem xc_fe_32 {R : Room} {s : State} {args : Array Value} {w0 : Cond} (rm : Room) (hts : ∀ w ∈ w0 :: q_gw lw_tbl, w.before args s = true) (hR : rm.frames + 1 ≤ R.frames ∧ 8 + (1 + 11) + rm.locals ≤ R.locals) (h0 : rm.cells = 0) (h1 : rm.slots = 0) : CallB R s args xR_fe 32 xy_fe_isProgram xb_fe_isProgram 1 (some .boolean) (q_ws (q_gw lw_tbl) xy_fe_isProgram xb_fe_isProgram 1 (some .boolean)) rm 0 0 1 ∧ (Cond.static xy_fe_isProgram).before args s = true :=
  cwS 1 hts (q_goodS (q_gw_all _) (q_mf 305 rfl rfl) (q_mf 306 rfl rfl) (q_mf 41 rfl rfl) (q_mf 307 rfl rfl)) rfl h0 h1 (by decide +kernel) hR
set_option maxRecDepth 100000 in
theorem xc_fe_36 {R : Room} {s : State} {args : Array Value} {w0 : Cond} (rm : Room) (hts : ∀ w ∈ w0 :: q_gw lw_tbl, w.before args s = true) (hR : rm.frames + 1 ≤ R.frames ∧ 8 + (3 + 11) + rm.locals ≤ R.locals) (h0 : rm.cells = 0) (h1 : rm.slots = 0) : CallB R s args xR_fe 36 xy_fe_isInstruction xb_fe_isInstruction 3 (some .boolean) (q_ws (q_gw lw_tbl) xy_fe_isInstruction xb_fe_isInstruction 3 (some .boolean)) rm 0 0 3 ∧ (Cond.static xy_fe_isInstruction).before args s = true :=
  cwS 3 hts (q_goodS (q_gw_all _) (q_mf 308 rfl rfl) (q_mf 309 rfl rfl) (q_mf 41 rfl rfl) (q_mf 310 rfl rfl)) rfl h0 h1 (by decide +kernel) hR
set_option maxRecDepth 100000 in
theorem xc_fe_216 {R : Room} {s : State} {args : Array Value} {w0 : Cond} (rm : Room) (hts : ∀ w ∈ w0 :: q_gw lw_tbl, w.before args s = true) (hR : rm.frames + 1 ≤ R.frames ∧ 8 + (2 + 11) + rm.locals ≤ R.locals) (h0 : rm.cells = 0) (h1 : rm.slots = 0) : CallB R s args xR_fe 216 xy_fe_isWithin xb_fe_isWithin 2 (some .boolean) (q_ws (q_gw lw_tbl) xy_fe_isWithin xb_fe_isWithin 2 (some .boolean)) rm 0 0 2 ∧ (Cond.static xy_fe_isWithin).before args s = true :=
  cwS 2 hts (q_goodS (q_gw_all _) (q_mf 313 rfl rfl) (q_mf 314 rfl rfl) (q_mf 41 rfl rfl) (q_mf 315 rfl rfl)) rfl h0 h1 (by decide +kernel) hR
set_option maxRecDepth 100000 in
theorem xc_fe_44 {R : Room} {s : State} {args : Array Value} {w0 : Cond} (rm : Room) (hts : ∀ w ∈ w0 :: q_gw lw_tbl, w.before args s = true) (hR : rm.frames + 1 ≤ R.frames ∧ 8 + (5 + 11) + rm.locals ≤ R.locals) (h0 : rm.cells = 0) (h1 : rm.slots = 0) : CallW R s args xR_fe xR_pr 44 xy_pr_put xb_pr_put 5 none (q_ws (q_gw lw_tbl) xy_pr_put xb_pr_put 5 none) rm 0 0 4 :=
  cwV 4 hts (q_goodV (q_gw_all _) (q_mf 318 rfl rfl) (q_mf 319 rfl rfl) (q_mf 320 rfl rfl) (q_mf 43 rfl rfl) (q_mf 321 rfl rfl)) rfl h0 h1 (by decide +kernel) hR
set_option maxRecDepth 100000 in
theorem xc_fe_48 {R : Room} {s : State} {args : Array Value} {w0 : Cond} (rm : Room) (hts : ∀ w ∈ w0 :: q_gw lw_tbl, w.before args s = true) (hR : rm.frames + 1 ≤ R.frames ∧ 8 + (4 + 11) + rm.locals ≤ R.locals) (h0 : rm.cells = 0) (h1 : rm.slots = 0) : CallW R s args xR_fe xR_fe 48 xy_fe_forgetAllOf xb_fe_forgetAllOf 4 none (q_ws (q_gw lw_tbl) xy_fe_forgetAllOf xb_fe_forgetAllOf 4 none) rm 0 0 1 :=
  cwV 1 hts (q_goodV (q_gw_all _) (q_mf 326 rfl rfl) (q_mf 328 rfl rfl) (q_mf 0 rfl rfl) (q_mf 41 rfl rfl) (q_mf 329 rfl rfl)) rfl h0 h1 (by decide +kernel) hR
set_option maxRecDepth 100000 in
theorem xc_fe_51 {R : Room} {s : State} {args : Array Value} {w0 : Cond} (rm : Room) (hts : ∀ w ∈ w0 :: q_gw lw_tbl, w.before args s = true) (hR : rm.frames + 1 ≤ R.frames ∧ 8 + (2 + 11) + rm.locals ≤ R.locals) (h0 : rm.cells = 0) (h1 : rm.slots = 0) : CallW R s args xR_fe xR_pr 51 xy_pr_has xb_pr_has 2 (some .boolean) (q_ws (q_gw lw_tbl) xy_pr_has xb_pr_has 2 (some .boolean)) rm 0 0 1 :=
  cwV 1 hts (q_goodV (q_gw_all _) (q_mf 338 rfl rfl) (q_mf 323 rfl rfl) (q_mf 324 rfl rfl) (q_mf 43 rfl rfl) (q_mf 325 rfl rfl)) rfl h0 h1 (by decide +kernel) hR
set_option maxRecDepth 100000 in
theorem xc_fe_54 {R : Room} {s : State} {args : Array Value} {w0 : Cond} (rm : Room) (hts : ∀ w ∈ w0 :: q_gw lw_tbl, w.before args s = true) (hR : rm.frames + 1 ≤ R.frames ∧ 8 + (2 + 11) + rm.locals ≤ R.locals) (h0 : rm.cells = 0) (h1 : rm.slots = 0) : CallW R s args xR_fe xR_fe 54 xy_fe_leastFree xb_fe_leastFree 2 (some .int) (q_ws (q_gw lw_tbl) xy_fe_leastFree xb_fe_leastFree 2 (some .int)) rm 0 0 0 :=
  cwV 0 hts (q_goodV (q_gw_all _) (q_mf 343 rfl rfl) (q_mf 345 rfl rfl) (q_mf 1 rfl rfl) (q_mf 41 rfl rfl) (q_mf 346 rfl rfl)) rfl h0 h1 (by decide +kernel) hR
set_option maxRecDepth 100000 in
theorem xc_fe_58 {R : Room} {s : State} {args : Array Value} {w0 : Cond} (rm : Room) (hts : ∀ w ∈ w0 :: q_gw lw_tbl, w.before args s = true) (hR : rm.frames + 1 ≤ R.frames ∧ 8 + (3 + 11) + rm.locals ≤ R.locals) (h0 : rm.cells = 0) (h1 : rm.slots = 0) : CallW R s args xR_fe xR_wf 58 xy_wf_begin xb_wf_begin 3 none (q_ws (q_gw lw_tbl) xy_wf_begin xb_wf_begin 3 none) rm 0 0 2 :=
  cwV 2 hts (q_goodV (q_gw_all _) (q_mf 347 rfl rfl) (q_mf 348 rfl rfl) (q_mf 349 rfl rfl) (q_mf 44 rfl rfl) (q_mf 350 rfl rfl)) rfl h0 h1 (by decide +kernel) hR
set_option maxRecDepth 100000 in
theorem xc_fe_62 {R : Room} {s : State} {args : Array Value} {w0 : Cond} (rm : Room) (hts : ∀ w ∈ w0 :: q_gw lw_tbl, w.before args s = true) (hR : rm.frames + 1 ≤ R.frames ∧ 8 + (3 + 11) + rm.locals ≤ R.locals) (h0 : rm.cells = 0) (h1 : rm.slots = 0) : CallW R s args xR_fe xR_fe 62 xy_fe_run xb_fe_run 3 none (q_ws (q_gw lw_tbl) xy_fe_run xb_fe_run 3 none) rm 0 0 1 :=
  cwV 1 hts (q_goodV (q_gw_all _) (q_mf 359 rfl rfl) (q_mf 361 rfl rfl) (q_mf 2 rfl rfl) (q_mf 41 rfl rfl) (q_mf 362 rfl rfl)) rfl h0 h1 (by decide +kernel) hR
set_option maxRecDepth 100000 in
theorem xc_fe_66 {R : Room} {s : State} {args : Array Value} {w0 : Cond} (rm : Room) (hts : ∀ w ∈ w0 :: q_gw lw_tbl, w.before args s = true) (hR : rm.frames + 1 ≤ R.frames ∧ 8 + (2 + 11) + rm.locals ≤ R.locals) (h0 : rm.cells = 0) (h1 : rm.slots = 0) : CallW R s args xR_fe xR_fe 66 xy_fe_isThere xb_fe_isThere 2 (some .boolean) (q_ws (q_gw lw_tbl) xy_fe_isThere xb_fe_isThere 2 (some .boolean)) rm 0 0 1 :=
  cwV 1 hts (q_goodV (q_gw_all _) (q_mf 454 rfl rfl) (q_mf 456 rfl rfl) (q_mf 10 rfl rfl) (q_mf 41 rfl rfl) (q_mf 457 rfl rfl)) rfl h0 h1 (by decide +kernel) hR
set_option maxRecDepth 100000 in
theorem xc_fe_69 {R : Room} {s : State} {args : Array Value} {w0 : Cond} (rm : Room) (hts : ∀ w ∈ w0 :: q_gw lw_tbl, w.before args s = true) (hR : rm.frames + 1 ≤ R.frames ∧ 8 + (2 + 11) + rm.locals ≤ R.locals) (h0 : rm.cells = 0) (h1 : rm.slots = 0) : CallW R s args xR_fe xR_fe 69 xy_fe_dropTask xb_fe_dropTask 2 none (q_ws (q_gw lw_tbl) xy_fe_dropTask xb_fe_dropTask 2 none) rm 0 0 1 :=
  cwV 1 hts (q_goodV (q_gw_all _) (q_mf 442 rfl rfl) (q_mf 444 rfl rfl) (q_mf 9 rfl rfl) (q_mf 41 rfl rfl) (q_mf 445 rfl rfl)) rfl h0 h1 (by decide +kernel) hR
set_option maxRecDepth 100000 in
theorem xc_fe_76 {R : Room} {s : State} {args : Array Value} {w0 : Cond} (rm : Room) (hts : ∀ w ∈ w0 :: q_gw lw_tbl, w.before args s = true) (hR : rm.frames + 1 ≤ R.frames ∧ 8 + (1 + 11) + rm.locals ≤ R.locals) (h0 : rm.cells = 0) (h1 : rm.slots = 0) : CallW R s args xR_fe xR_wf 76 xy_wf_hasEnded xb_wf_hasEnded 1 (some .boolean) (q_ws (q_gw lw_tbl) xy_wf_hasEnded xb_wf_hasEnded 1 (some .boolean)) rm 0 0 0 :=
  cwV 0 hts (q_goodV (q_gw_all _) (q_mf 330 rfl rfl) (q_mf 331 rfl rfl) (q_mf 332 rfl rfl) (q_mf 44 rfl rfl) (q_mf 333 rfl rfl)) rfl h0 h1 (by decide +kernel) hR
set_option maxRecDepth 100000 in
theorem xc_fe_84 {R : Room} {s : State} {args : Array Value} {w0 : Cond} (rm : Room) (hts : ∀ w ∈ w0 :: q_gw lw_tbl, w.before args s = true) (hR : rm.frames + 1 ≤ R.frames ∧ 8 + (1 + 11) + rm.locals ≤ R.locals) (h0 : rm.cells = 0) (h1 : rm.slots = 0) : CallW R s args xR_fe xR_ke 84 xy_ke_isFull xb_ke_isFull 1 (some .boolean) (q_ws (q_gw lw_tbl) xy_ke_isFull xb_ke_isFull 1 (some .boolean)) rm 0 0 0 :=
  cwV 0 hts (q_goodV (q_gw_all _) (q_mf 462 rfl rfl) (q_mf 463 rfl rfl) (q_mf 464 rfl rfl) (q_mf 46 rfl rfl) (q_mf 465 rfl rfl)) rfl h0 h1 (by decide +kernel) hR
set_option maxRecDepth 100000 in
theorem xc_fe_89 {R : Room} {s : State} {args : Array Value} {w0 : Cond} (rm : Room) (hts : ∀ w ∈ w0 :: q_gw lw_tbl, w.before args s = true) (hR : rm.frames + 1 ≤ R.frames ∧ 8 + (2 + 11) + rm.locals ≤ R.locals) (h0 : rm.cells = 0) (h1 : rm.slots = 0) : CallW R s args xR_fe xR_fe 89 xy_fe_remember xb_fe_remember 2 none (q_ws (q_gw lw_tbl) xy_fe_remember xb_fe_remember 2 none) rm 0 0 1 :=
  cwV 1 hts (q_goodV (q_gw_all _) (q_mf 466 rfl rfl) (q_mf 468 rfl rfl) (q_mf 11 rfl rfl) (q_mf 41 rfl rfl) (q_mf 469 rfl rfl)) rfl h0 h1 (by decide +kernel) hR
set_option maxRecDepth 100000 in
theorem xc_fe_92 {R : Room} {s : State} {args : Array Value} {w0 : Cond} (rm : Room) (hts : ∀ w ∈ w0 :: q_gw lw_tbl, w.before args s = true) (hR : rm.frames + 1 ≤ R.frames ∧ 8 + (3 + 11) + rm.locals ≤ R.locals) (h0 : rm.cells = 0) (h1 : rm.slots = 0) : CallW R s args xR_fe xR_wf 92 xy_wf_waitsFor xb_wf_waitsFor 3 (some .boolean) (q_ws (q_gw lw_tbl) xy_wf_waitsFor xb_wf_waitsFor 3 (some .boolean)) rm 0 0 2 :=
  cwV 2 hts (q_goodV (q_gw_all _) (q_mf 471 rfl rfl) (q_mf 434 rfl rfl) (q_mf 435 rfl rfl) (q_mf 44 rfl rfl) (q_mf 436 rfl rfl)) rfl h0 h1 (by decide +kernel) hR
set_option maxRecDepth 100000 in
theorem xc_fe_96 {R : Room} {s : State} {args : Array Value} {w0 : Cond} (rm : Room) (hts : ∀ w ∈ w0 :: q_gw lw_tbl, w.before args s = true) (hR : rm.frames + 1 ≤ R.frames ∧ 8 + (5 + 11) + rm.locals ≤ R.locals) (h0 : rm.cells = 0) (h1 : rm.slots = 0) : CallW R s args xR_fe xR_fe 96 xy_fe_happen xb_fe_happen 5 none (q_ws (q_gw lw_tbl) xy_fe_happen xb_fe_happen 5 none) rm 0 0 4 :=
  cwV 4 hts (q_goodV (q_gw_all _) (q_mf 472 rfl rfl) (q_mf 474 rfl rfl) (q_mf 12 rfl rfl) (q_mf 41 rfl rfl) (q_mf 475 rfl rfl)) rfl h0 h1 (by decide +kernel) hR
set_option maxRecDepth 100000 in
theorem xc_fe_100 {R : Room} {s : State} {args : Array Value} {w0 : Cond} (rm : Room) (hts : ∀ w ∈ w0 :: q_gw lw_tbl, w.before args s = true) (hR : rm.frames + 1 ≤ R.frames ∧ 8 + (3 + 11) + rm.locals ≤ R.locals) (h0 : rm.cells = 0) (h1 : rm.slots = 0) : CallW R s args xR_fe xR_ke 100 xy_ke_keep xb_ke_keep 3 none (q_ws (q_gw lw_tbl) xy_ke_keep xb_ke_keep 3 none) rm 0 0 2 :=
  cwV 2 hts (q_goodV (q_gw_all _) (q_mf 476 rfl rfl) (q_mf 477 rfl rfl) (q_mf 478 rfl rfl) (q_mf 46 rfl rfl) (q_mf 479 rfl rfl)) rfl h0 h1 (by decide +kernel) hR
set_option maxRecDepth 100000 in
theorem xc_fe_119 {R : Room} {s : State} {args : Array Value} {w0 : Cond} (rm : Room) (hts : ∀ w ∈ w0 :: q_gw lw_tbl, w.before args s = true) (hR : rm.frames + 1 ≤ R.frames ∧ 8 + (4 + 11) + rm.locals ≤ R.locals) (h0 : rm.cells = 0) (h1 : rm.slots = 0) : CallW R s args xR_fe xR_tl 119 xy_tl_drop xb_tl_drop 4 none (q_ws (q_gw lw_tbl) xy_tl_drop xb_tl_drop 4 none) rm 0 0 1 :=
  cwV 1 hts (q_goodV (q_gw_all _) (q_mf 446 rfl rfl) (q_mf 447 rfl rfl) (q_mf 448 rfl rfl) (q_mf 42 rfl rfl) (q_mf 449 rfl rfl)) rfl h0 h1 (by decide +kernel) hR
set_option maxRecDepth 100000 in
theorem xc_fe_122 {R : Room} {s : State} {args : Array Value} {w0 : Cond} (rm : Room) (hts : ∀ w ∈ w0 :: q_gw lw_tbl, w.before args s = true) (hR : rm.frames + 1 ≤ R.frames ∧ 8 + (2 + 11) + rm.locals ≤ R.locals) (h0 : rm.cells = 0) (h1 : rm.slots = 0) : CallW R s args xR_fe xR_ta 122 xy_ta_goOut xb_ta_goOut 2 none (q_ws (q_gw lw_tbl) xy_ta_goOut xb_ta_goOut 2 none) rm 0 0 1 :=
  cwV 1 hts (q_goodV (q_gw_all _) (q_mf 485 rfl rfl) (q_mf 486 rfl rfl) (q_mf 487 rfl rfl) (q_mf 48 rfl rfl) (q_mf 488 rfl rfl)) rfl h0 h1 (by decide +kernel) hR
set_option maxRecDepth 100000 in
theorem xc_fe_131 {R : Room} {s : State} {args : Array Value} {w0 : Cond} (rm : Room) (hts : ∀ w ∈ w0 :: q_gw lw_tbl, w.before args s = true) (hR : rm.frames + 1 ≤ R.frames ∧ 8 + (3 + 11) + rm.locals ≤ R.locals) (h0 : rm.cells = 0) (h1 : rm.slots = 0) : CallW R s args xR_fe xR_fe 131 xy_fe_goWrong xb_fe_goWrong 3 none (q_ws (q_gw lw_tbl) xy_fe_goWrong xb_fe_goWrong 3 none) rm 0 0 1 :=
  cwV 1 hts (q_goodV (q_gw_all _) (q_mf 493 rfl rfl) (q_mf 495 rfl rfl) (q_mf 13 rfl rfl) (q_mf 41 rfl rfl) (q_mf 496 rfl rfl)) rfl h0 h1 (by decide +kernel) hR
set_option maxRecDepth 100000 in
theorem xc_fe_137 {R : Room} {s : State} {args : Array Value} {w0 : Cond} (rm : Room) (hts : ∀ w ∈ w0 :: q_gw lw_tbl, w.before args s = true) (hR : rm.frames + 1 ≤ R.frames ∧ 8 + (2 + 11) + rm.locals ≤ R.locals) (h0 : rm.cells = 0) (h1 : rm.slots = 0) : CallW R s args xR_fe xR_ta 137 xy_ta_isOverdue xb_ta_isOverdue 2 (some .boolean) (q_ws (q_gw lw_tbl) xy_ta_isOverdue xb_ta_isOverdue 2 (some .boolean)) rm 0 0 1 :=
  cwV 1 hts (q_goodV (q_gw_all _) (q_mf 505 rfl rfl) (q_mf 506 rfl rfl) (q_mf 507 rfl rfl) (q_mf 48 rfl rfl) (q_mf 508 rfl rfl)) rfl h0 h1 (by decide +kernel) hR
set_option maxRecDepth 100000 in
theorem xc_fe_140 {R : Room} {s : State} {args : Array Value} {w0 : Cond} (rm : Room) (hts : ∀ w ∈ w0 :: q_gw lw_tbl, w.before args s = true) (hR : rm.frames + 1 ≤ R.frames ∧ 8 + (2 + 11) + rm.locals ≤ R.locals) (h0 : rm.cells = 0) (h1 : rm.slots = 0) : CallW R s args xR_fe xR_wf 140 xy_wf_hasSlept xb_wf_hasSlept 2 (some .boolean) (q_ws (q_gw lw_tbl) xy_wf_hasSlept xb_wf_hasSlept 2 (some .boolean)) rm 0 0 1 :=
  cwV 1 hts (q_goodV (q_gw_all _) (q_mf 509 rfl rfl) (q_mf 510 rfl rfl) (q_mf 511 rfl rfl) (q_mf 44 rfl rfl) (q_mf 512 rfl rfl)) rfl h0 h1 (by decide +kernel) hR
set_option maxRecDepth 100000 in
theorem xc_fe_156 {R : Room} {s : State} {args : Array Value} {w0 : Cond} (rm : Room) (hts : ∀ w ∈ w0 :: q_gw lw_tbl, w.before args s = true) (hR : rm.frames + 1 ≤ R.frames ∧ 8 + (1 + 11) + rm.locals ≤ R.locals) (h0 : rm.cells = 0) (h1 : rm.slots = 0) : CallW R s args xR_fe xR_wf 156 xy_wf_isInMind xb_wf_isInMind 1 (some .boolean) (q_ws (q_gw lw_tbl) xy_wf_isInMind xb_wf_isInMind 1 (some .boolean)) rm 0 0 0 :=
  cwV 0 hts (q_goodV (q_gw_all _) (q_mf 521 rfl rfl) (q_mf 522 rfl rfl) (q_mf 523 rfl rfl) (q_mf 44 rfl rfl) (q_mf 524 rfl rfl)) rfl h0 h1 (by decide +kernel) hR
set_option maxRecDepth 100000 in
theorem xc_fe_188 {R : Room} {s : State} {args : Array Value} {w0 : Cond} (rm : Room) (hts : ∀ w ∈ w0 :: q_gw lw_tbl, w.before args s = true) (hR : rm.frames + 1 ≤ R.frames ∧ 8 + (4 + 11) + rm.locals ≤ R.locals) (h0 : rm.cells = 0) (h1 : rm.slots = 0) : CallW R s args xR_fe xR_fe 188 xy_fe_countThere xb_fe_countThere 4 (some .int) (q_ws (q_gw lw_tbl) xy_fe_countThere xb_fe_countThere 4 (some .int)) rm 0 0 1 :=
  cwV 1 hts (q_goodV (q_gw_all _) (q_mf 537 rfl rfl) (q_mf 539 rfl rfl) (q_mf 14 rfl rfl) (q_mf 41 rfl rfl) (q_mf 540 rfl rfl)) rfl h0 h1 (by decide +kernel) hR
set_option maxRecDepth 100000 in
theorem xc_fe_222 {R : Room} {s : State} {args : Array Value} {w0 : Cond} (rm : Room) (hts : ∀ w ∈ w0 :: q_gw lw_tbl, w.before args s = true) (hR : rm.frames + 1 ≤ R.frames ∧ 8 + (2 + 11) + rm.locals ≤ R.locals) (h0 : rm.cells = 0) (h1 : rm.slots = 0) : CallW R s args xR_fe xR_wf 222 xy_wf_rewind xb_wf_rewind 2 none (q_ws (q_gw lw_tbl) xy_wf_rewind xb_wf_rewind 2 none) rm 0 0 0 :=
  cwV 0 hts (q_goodV (q_gw_all _) (q_mf 470 rfl rfl) (q_mf 356 rfl rfl) (q_mf 357 rfl rfl) (q_mf 44 rfl rfl) (q_mf 358 rfl rfl)) rfl h0 h1 (by decide +kernel) hR
set_option maxRecDepth 100000 in
theorem xc_fe_225 {R : Room} {s : State} {args : Array Value} {w0 : Cond} (rm : Room) (hts : ∀ w ∈ w0 :: q_gw lw_tbl, w.before args s = true) (hR : rm.frames + 1 ≤ R.frames ∧ 8 + (4 + 11) + rm.locals ≤ R.locals) (h0 : rm.cells = 0) (h1 : rm.slots = 0) : CallW R s args xR_fe xR_hi 225 xy_hi_pass xb_hi_pass 4 (some .boolean) (q_ws (q_gw lw_tbl) xy_hi_pass xb_hi_pass 4 (some .boolean)) rm 0 0 3 :=
  cwV 3 hts (q_goodV (q_gw_all _) (q_mf 375 rfl rfl) (q_mf 352 rfl rfl) (q_mf 353 rfl rfl) (q_mf 45 rfl rfl) (q_mf 354 rfl rfl)) rfl h0 h1 (by decide +kernel) hR
set_option maxRecDepth 100000 in
theorem xc_fe_231 {R : Room} {s : State} {args : Array Value} {w0 : Cond} (rm : Room) (hts : ∀ w ∈ w0 :: q_gw lw_tbl, w.before args s = true) (hR : rm.frames + 1 ≤ R.frames ∧ 8 + (3 + 11) + rm.locals ≤ R.locals) (h0 : rm.cells = 0) (h1 : rm.slots = 0) : CallW R s args xR_fe xR_wf 231 xy_wf_resume xb_wf_resume 3 none (q_ws (q_gw lw_tbl) xy_wf_resume xb_wf_resume 3 none) rm 0 0 2 :=
  cwV 2 hts (q_goodV (q_gw_all _) (q_mf 416 rfl rfl) (q_mf 417 rfl rfl) (q_mf 418 rfl rfl) (q_mf 44 rfl rfl) (q_mf 419 rfl rfl)) rfl h0 h1 (by decide +kernel) hR
set_option maxRecDepth 100000 in
theorem xc_fe_234 {R : Room} {s : State} {args : Array Value} {w0 : Cond} (rm : Room) (hts : ∀ w ∈ w0 :: q_gw lw_tbl, w.before args s = true) (hR : rm.frames + 1 ≤ R.frames ∧ 8 + (2 + 11) + rm.locals ≤ R.locals) (h0 : rm.cells = 0) (h1 : rm.slots = 0) : CallW R s args xR_fe xR_ta 234 xy_ta_comeBack xb_ta_comeBack 2 none (q_ws (q_gw lw_tbl) xy_ta_comeBack xb_ta_comeBack 2 none) rm 0 0 1 :=
  cwV 1 hts (q_goodV (q_gw_all _) (q_mf 497 rfl rfl) (q_mf 498 rfl rfl) (q_mf 499 rfl rfl) (q_mf 48 rfl rfl) (q_mf 500 rfl rfl)) rfl h0 h1 (by decide +kernel) hR
set_option maxRecDepth 100000 in
theorem xc_fe_240 {R : Room} {s : State} {args : Array Value} {w0 : Cond} (rm : Room) (hts : ∀ w ∈ w0 :: q_gw lw_tbl, w.before args s = true) (hR : rm.frames + 1 ≤ R.frames ∧ 8 + (2 + 11) + rm.locals ≤ R.locals) (h0 : rm.cells = 0) (h1 : rm.slots = 0) : CallW R s args xR_fe xR_tl 240 xy_tl_append xb_tl_append 2 none (q_ws (q_gw lw_tbl) xy_tl_append xb_tl_append 2 none) rm 0 0 1 :=
  cwV 1 hts (q_goodV (q_gw_all _) (q_mf 380 rfl rfl) (q_mf 381 rfl rfl) (q_mf 382 rfl rfl) (q_mf 42 rfl rfl) (q_mf 383 rfl rfl)) rfl h0 h1 (by decide +kernel) hR
set_option maxRecDepth 100000 in
theorem xc_fe_246 {R : Room} {s : State} {args : Array Value} {w0 : Cond} (rm : Room) (hts : ∀ w ∈ w0 :: q_gw lw_tbl, w.before args s = true) (hR : rm.frames + 1 ≤ R.frames ∧ 8 + (3 + 11) + rm.locals ≤ R.locals) (h0 : rm.cells = 0) (h1 : rm.slots = 0) : CallW R s args xR_fe xR_fe 246 xy_fe_undoLatest xb_fe_undoLatest 3 none (q_ws (q_gw lw_tbl) xy_fe_undoLatest xb_fe_undoLatest 3 none) rm 0 0 1 :=
  cwV 1 hts (q_goodV (q_gw_all _) (q_mf 363 rfl rfl) (q_mf 365 rfl rfl) (q_mf 3 rfl rfl) (q_mf 41 rfl rfl) (q_mf 366 rfl rfl)) rfl h0 h1 (by decide +kernel) hR
set_option maxRecDepth 100000 in
theorem xc_fe_249 {R : Room} {s : State} {args : Array Value} {w0 : Cond} (rm : Room) (hts : ∀ w ∈ w0 :: q_gw lw_tbl, w.before args s = true) (hR : rm.frames + 1 ≤ R.frames ∧ 8 + (6 + 11) + rm.locals ≤ R.locals) (h0 : rm.cells = 0) (h1 : rm.slots = 0) : CallW R s args xR_fe xR_fe 249 xy_fe_step xb_fe_step 6 none (q_ws (q_gw lw_tbl) xy_fe_step xb_fe_step 6 none) rm 0 0 1 :=
  cwV 1 hts (q_goodV (q_gw_all _) (q_mf 384 rfl rfl) (q_mf 386 rfl rfl) (q_mf 5 rfl rfl) (q_mf 41 rfl rfl) (q_mf 387 rfl rfl)) rfl h0 h1 (by decide +kernel) hR
set_option maxRecDepth 100000 in
theorem xc_fe_252 {R : Room} {s : State} {args : Array Value} {w0 : Cond} (rm : Room) (hts : ∀ w ∈ w0 :: q_gw lw_tbl, w.before args s = true) (hR : rm.frames + 1 ≤ R.frames ∧ 8 + (1 + 11) + rm.locals ≤ R.locals) (h0 : rm.cells = 0) (h1 : rm.slots = 0) : CallW R s args xR_fe xR_hi 252 xy_hi_isLeft xb_hi_isLeft 1 (some .boolean) (q_ws (q_gw lw_tbl) xy_hi_isLeft xb_hi_isLeft 1 (some .boolean)) rm 0 0 0 :=
  cwV 0 hts (q_goodV (q_gw_all _) (q_mf 371 rfl rfl) (q_mf 372 rfl rfl) (q_mf 373 rfl rfl) (q_mf 45 rfl rfl) (q_mf 374 rfl rfl)) rfl h0 h1 (by decide +kernel) hR
set_option maxRecDepth 100000 in
theorem xc_fe_255 {R : Room} {s : State} {args : Array Value} {w0 : Cond} (rm : Room) (hts : ∀ w ∈ w0 :: q_gw lw_tbl, w.before args s = true) (hR : rm.frames + 1 ≤ R.frames ∧ 8 + (2 + 11) + rm.locals ≤ R.locals) (h0 : rm.cells = 0) (h1 : rm.slots = 0) : CallW R s args xR_fe xR_wf 255 xy_wf_meetNext xb_wf_meetNext 2 none (q_ws (q_gw lw_tbl) xy_wf_meetNext xb_wf_meetNext 2 none) rm 0 0 0 :=
  cwV 0 hts (q_goodV (q_gw_all _) (q_mf 428 rfl rfl) (q_mf 429 rfl rfl) (q_mf 430 rfl rfl) (q_mf 44 rfl rfl) (q_mf 431 rfl rfl)) rfl h0 h1 (by decide +kernel) hR
set_option maxRecDepth 100000 in
theorem xc_fe_258 {R : Room} {s : State} {args : Array Value} {w0 : Cond} (rm : Room) (hts : ∀ w ∈ w0 :: q_gw lw_tbl, w.before args s = true) (hR : rm.frames + 1 ≤ R.frames ∧ 8 + (2 + 11) + rm.locals ≤ R.locals) (h0 : rm.cells = 0) (h1 : rm.slots = 0) : CallW R s args xR_fe xR_fe 258 xy_fe_finish xb_fe_finish 2 none (q_ws (q_gw lw_tbl) xy_fe_finish xb_fe_finish 2 none) rm 0 0 1 :=
  cwV 1 hts (q_goodV (q_gw_all _) (q_mf 438 rfl rfl) (q_mf 440 rfl rfl) (q_mf 8 rfl rfl) (q_mf 41 rfl rfl) (q_mf 441 rfl rfl)) rfl h0 h1 (by decide +kernel) hR
set_option maxRecDepth 100000 in
theorem xc_fe_261 {R : Room} {s : State} {args : Array Value} {w0 : Cond} (rm : Room) (hts : ∀ w ∈ w0 :: q_gw lw_tbl, w.before args s = true) (hR : rm.frames + 1 ≤ R.frames ∧ 8 + (2 + 11) + rm.locals ≤ R.locals) (h0 : rm.cells = 0) (h1 : rm.slots = 0) : CallW R s args xR_fe xR_pr 261 xy_pr_opAt xb_pr_opAt 2 (some .int) (q_ws (q_gw lw_tbl) xy_pr_opAt xb_pr_opAt 2 (some .int)) rm 0 0 1 :=
  cwV 1 hts (q_goodV (q_gw_all _) (q_mf 388 rfl rfl) (q_mf 389 rfl rfl) (q_mf 390 rfl rfl) (q_mf 43 rfl rfl) (q_mf 391 rfl rfl)) rfl h0 h1 (by decide +kernel) hR
set_option maxRecDepth 100000 in
theorem xc_fe_265 {R : Room} {s : State} {args : Array Value} {w0 : Cond} (rm : Room) (hts : ∀ w ∈ w0 :: q_gw lw_tbl, w.before args s = true) (hR : rm.frames + 1 ≤ R.frames ∧ 8 + (2 + 11) + rm.locals ≤ R.locals) (h0 : rm.cells = 0) (h1 : rm.slots = 0) : CallW R s args xR_fe xR_pr 265 xy_pr_firstAt xb_pr_firstAt 2 (some .int) (q_ws (q_gw lw_tbl) xy_pr_firstAt xb_pr_firstAt 2 (some .int)) rm 0 0 1 :=
  cwV 1 hts (q_goodV (q_gw_all _) (q_mf 392 rfl rfl) (q_mf 393 rfl rfl) (q_mf 394 rfl rfl) (q_mf 43 rfl rfl) (q_mf 395 rfl rfl)) rfl h0 h1 (by decide +kernel) hR
set_option maxRecDepth 100000 in
theorem xc_fe_268 {R : Room} {s : State} {args : Array Value} {w0 : Cond} (rm : Room) (hts : ∀ w ∈ w0 :: q_gw lw_tbl, w.before args s = true) (hR : rm.frames + 1 ≤ R.frames ∧ 8 + (2 + 11) + rm.locals ≤ R.locals) (h0 : rm.cells = 0) (h1 : rm.slots = 0) : CallW R s args xR_fe xR_pr 268 xy_pr_secondAt xb_pr_secondAt 2 (some .int) (q_ws (q_gw lw_tbl) xy_pr_secondAt xb_pr_secondAt 2 (some .int)) rm 0 0 1 :=
  cwV 1 hts (q_goodV (q_gw_all _) (q_mf 396 rfl rfl) (q_mf 397 rfl rfl) (q_mf 398 rfl rfl) (q_mf 43 rfl rfl) (q_mf 399 rfl rfl)) rfl h0 h1 (by decide +kernel) hR
set_option maxRecDepth 100000 in
theorem xc_fe_274 {R : Room} {s : State} {args : Array Value} {w0 : Cond} (rm : Room) (hts : ∀ w ∈ w0 :: q_gw lw_tbl, w.before args s = true) (hR : rm.frames + 1 ≤ R.frames ∧ 8 + (6 + 11) + rm.locals ≤ R.locals) (h0 : rm.cells = 0) (h1 : rm.slots = 0) : CallW R s args xR_fe xR_fe 274 xy_fe_want xb_fe_want 6 none (q_ws (q_gw lw_tbl) xy_fe_want xb_fe_want 6 none) rm 0 0 4 :=
  cwV 4 hts (q_goodV (q_gw_all _) (q_mf 367 rfl rfl) (q_mf 369 rfl rfl) (q_mf 4 rfl rfl) (q_mf 41 rfl rfl) (q_mf 370 rfl rfl)) rfl h0 h1 (by decide +kernel) hR
set_option maxRecDepth 100000 in
theorem xc_fe_277 {R : Room} {s : State} {args : Array Value} {w0 : Cond} (rm : Room) (hts : ∀ w ∈ w0 :: q_gw lw_tbl, w.before args s = true) (hR : rm.frames + 1 ≤ R.frames ∧ 8 + (4 + 11) + rm.locals ≤ R.locals) (h0 : rm.cells = 0) (h1 : rm.slots = 0) : CallW R s args xR_fe xR_fe 277 xy_fe_sleep xb_fe_sleep 4 none (q_ws (q_gw lw_tbl) xy_fe_sleep xb_fe_sleep 4 none) rm 0 0 2 :=
  cwV 2 hts (q_goodV (q_gw_all _) (q_mf 400 rfl rfl) (q_mf 402 rfl rfl) (q_mf 6 rfl rfl) (q_mf 41 rfl rfl) (q_mf 403 rfl rfl)) rfl h0 h1 (by decide +kernel) hR
set_option maxRecDepth 100000 in
theorem xc_fe_281 {R : Room} {s : State} {args : Array Value} {w0 : Cond} (rm : Room) (hts : ∀ w ∈ w0 :: q_gw lw_tbl, w.before args s = true) (hR : rm.frames + 1 ≤ R.frames ∧ 8 + (5 + 11) + rm.locals ≤ R.locals) (h0 : rm.cells = 0) (h1 : rm.slots = 0) : CallW R s args xR_fe xR_fe 281 xy_fe_awaitSignal xb_fe_awaitSignal 5 none (q_ws (q_gw lw_tbl) xy_fe_awaitSignal xb_fe_awaitSignal 5 none) rm 0 0 2 :=
  cwV 2 hts (q_goodV (q_gw_all _) (q_mf 404 rfl rfl) (q_mf 406 rfl rfl) (q_mf 7 rfl rfl) (q_mf 41 rfl rfl) (q_mf 407 rfl rfl)) rfl h0 h1 (by decide +kernel) hR
set_option maxRecDepth 100000 in
theorem xc_fe_284 {R : Room} {s : State} {args : Array Value} {w0 : Cond} (rm : Room) (hts : ∀ w ∈ w0 :: q_gw lw_tbl, w.before args s = true) (hR : rm.frames + 1 ≤ R.frames ∧ 8 + (3 + 11) + rm.locals ≤ R.locals) (h0 : rm.cells = 0) (h1 : rm.slots = 0) : CallW R s args xR_fe xR_wf 284 xy_wf_note xb_wf_note 3 none (q_ws (q_gw lw_tbl) xy_wf_note xb_wf_note 3 none) rm 0 0 2 :=
  cwV 2 hts (q_goodV (q_gw_all _) (q_mf 420 rfl rfl) (q_mf 421 rfl rfl) (q_mf 422 rfl rfl) (q_mf 44 rfl rfl) (q_mf 423 rfl rfl)) rfl h0 h1 (by decide +kernel) hR
set_option maxRecDepth 100000 in
theorem xc_fe_287 {R : Room} {s : State} {args : Array Value} {w0 : Cond} (rm : Room) (hts : ∀ w ∈ w0 :: q_gw lw_tbl, w.before args s = true) (hR : rm.frames + 1 ≤ R.frames ∧ 8 + (5 + 11) + rm.locals ≤ R.locals) (h0 : rm.cells = 0) (h1 : rm.slots = 0) : CallW R s args xR_fe xR_wf 287 xy_wf_compute xb_wf_compute 5 none (q_ws (q_gw lw_tbl) xy_wf_compute xb_wf_compute 5 none) rm 0 0 3 :=
  cwV 3 hts (q_goodV (q_gw_all _) (q_mf 424 rfl rfl) (q_mf 425 rfl rfl) (q_mf 426 rfl rfl) (q_mf 44 rfl rfl) (q_mf 427 rfl rfl)) rfl h0 h1 (by decide +kernel) hR
set_option maxRecDepth 100000 in
theorem xc_fe_294 {R : Room} {s : State} {args : Array Value} {w0 : Cond} (rm : Room) (hts : ∀ w ∈ w0 :: q_gw lw_tbl, w.before args s = true) (hR : rm.frames + 1 ≤ R.frames ∧ 8 + (2 + 11) + rm.locals ≤ R.locals) (h0 : rm.cells = 0) (h1 : rm.slots = 0) : CallW R s args xR_fe xR_ta 294 xy_ta_renew xb_ta_renew 2 none (q_ws (q_gw lw_tbl) xy_ta_renew xb_ta_renew 2 none) rm 0 0 1 :=
  cwV 1 hts (q_goodV (q_gw_all _) (q_mf 376 rfl rfl) (q_mf 377 rfl rfl) (q_mf 378 rfl rfl) (q_mf 48 rfl rfl) (q_mf 379 rfl rfl)) rfl h0 h1 (by decide +kernel) hR
set_option maxRecDepth 100000 in
theorem xc_fe_301 {R : Room} {s : State} {args : Array Value} {w0 : Cond} (rm : Room) (hts : ∀ w ∈ w0 :: q_gw lw_tbl, w.before args s = true) (hR : rm.frames + 1 ≤ R.frames ∧ 8 + (3 + 11) + rm.locals ≤ R.locals) (h0 : rm.cells = 0) (h1 : rm.slots = 0) : CallW R s args xR_fe xR_ke 301 xy_ke_oldest xb_ke_oldest 3 (some .int) (q_ws (q_gw lw_tbl) xy_ke_oldest xb_ke_oldest 3 (some .int)) rm 0 0 1 :=
  cwV 1 hts (q_goodV (q_gw_all _) (q_mf 408 rfl rfl) (q_mf 409 rfl rfl) (q_mf 410 rfl rfl) (q_mf 46 rfl rfl) (q_mf 411 rfl rfl)) rfl h0 h1 (by decide +kernel) hR
set_option maxRecDepth 100000 in
theorem xc_fe_305 {R : Room} {s : State} {args : Array Value} {w0 : Cond} (rm : Room) (hts : ∀ w ∈ w0 :: q_gw lw_tbl, w.before args s = true) (hR : rm.frames + 1 ≤ R.frames ∧ 8 + (3 + 11) + rm.locals ≤ R.locals) (h0 : rm.cells = 0) (h1 : rm.slots = 0) : CallW R s args xR_fe xR_ke 305 xy_ke_drop xb_ke_drop 3 none (q_ws (q_gw lw_tbl) xy_ke_drop xb_ke_drop 3 none) rm 0 0 1 :=
  cwV 1 hts (q_goodV (q_gw_all _) (q_mf 412 rfl rfl) (q_mf 413 rfl rfl) (q_mf 414 rfl rfl) (q_mf 46 rfl rfl) (q_mf 415 rfl rfl)) rfl h0 h1 (by decide +kernel) hR
set_option maxRecDepth 100000 in
theorem xc_ke_22 {R : Room} {s : State} {args : Array Value} {w0 : Cond} (rm : Room) (hts : ∀ w ∈ w0 :: q_gw lw_tbl, w.before args s = true) (hR : rm.frames + 1 ≤ R.frames ∧ 8 + (1 + 11) + rm.locals ≤ R.locals) (h0 : rm.cells = 0) (h1 : rm.slots = 0) : CallW R s args xR_ke xR_ke 22 xy_ke_isFull xb_ke_isFull 1 (some .boolean) (q_ws (q_gw lw_tbl) xy_ke_isFull xb_ke_isFull 1 (some .boolean)) rm 0 0 0 :=
  cwV 0 hts (q_goodV (q_gw_all _) (q_mf 480 rfl rfl) (q_mf 463 rfl rfl) (q_mf 464 rfl rfl) (q_mf 46 rfl rfl) (q_mf 465 rfl rfl)) rfl h0 h1 (by decide +kernel) hR
set_option maxRecDepth 100000 in
theorem xc_pr_25 {R : Room} {s : State} {args : Array Value} {w0 : Cond} (rm : Room) (hts : ∀ w ∈ w0 :: q_gw lw_tbl, w.before args s = true) (hR : rm.frames + 1 ≤ R.frames ∧ 8 + (2 + 11) + rm.locals ≤ R.locals) (h0 : rm.cells = 0) (h1 : rm.slots = 0) : CallW R s args xR_pr xR_pr 25 xy_pr_has xb_pr_has 2 (some .boolean) (q_ws (q_gw lw_tbl) xy_pr_has xb_pr_has 2 (some .boolean)) rm 0 0 1 :=
  cwV 1 hts (q_goodV (q_gw_all _) (q_mf 322 rfl rfl) (q_mf 323 rfl rfl) (q_mf 324 rfl rfl) (q_mf 43 rfl rfl) (q_mf 325 rfl rfl)) rfl h0 h1 (by decide +kernel) hR
set_option maxRecDepth 100000 in
theorem xc_wf_61 {R : Room} {s : State} {args : Array Value} {w0 : Cond} (rm : Room) (hts : ∀ w ∈ w0 :: q_gw lw_tbl, w.before args s = true) (hR : rm.frames + 1 ≤ R.frames ∧ 8 + (4 + 11) + rm.locals ≤ R.locals) (h0 : rm.cells = 0) (h1 : rm.slots = 0) : CallW R s args xR_wf xR_hi 61 xy_hi_pass xb_hi_pass 4 (some .boolean) (q_ws (q_gw lw_tbl) xy_hi_pass xb_hi_pass 4 (some .boolean)) rm 0 0 3 :=
  cwV 3 hts (q_goodV (q_gw_all _) (q_mf 351 rfl rfl) (q_mf 352 rfl rfl) (q_mf 353 rfl rfl) (q_mf 45 rfl rfl) (q_mf 354 rfl rfl)) rfl h0 h1 (by decide +kernel) hR
set_option maxRecDepth 100000 in
theorem xc_wf_65 {R : Room} {s : State} {args : Array Value} {w0 : Cond} (rm : Room) (hts : ∀ w ∈ w0 :: q_gw lw_tbl, w.before args s = true) (hR : rm.frames + 1 ≤ R.frames ∧ 8 + (2 + 11) + rm.locals ≤ R.locals) (h0 : rm.cells = 0) (h1 : rm.slots = 0) : CallW R s args xR_wf xR_wf 65 xy_wf_rewind xb_wf_rewind 2 none (q_ws (q_gw lw_tbl) xy_wf_rewind xb_wf_rewind 2 none) rm 0 0 0 :=
  cwV 0 hts (q_goodV (q_gw_all _) (q_mf 355 rfl rfl) (q_mf 356 rfl rfl) (q_mf 357 rfl rfl) (q_mf 44 rfl rfl) (q_mf 358 rfl rfl)) rfl h0 h1 (by decide +kernel) hR
set_option maxRecDepth 100000 in
theorem xc_wf_87 {R : Room} {s : State} {args : Array Value} {w0 : Cond} (rm : Room) (hts : ∀ w ∈ w0 :: q_gw lw_tbl, w.before args s = true) (hR : rm.frames + 1 ≤ R.frames ∧ 8 + (1 + 11) + rm.locals ≤ R.locals) (h0 : rm.cells = 0) (h1 : rm.slots = 0) : CallW R s args xR_wf xR_wf 87 xy_wf_hasEnded xb_wf_hasEnded 1 (some .boolean) (q_ws (q_gw lw_tbl) xy_wf_hasEnded xb_wf_hasEnded 1 (some .boolean)) rm 0 0 0 :=
  cwV 0 hts (q_goodV (q_gw_all _) (q_mf 432 rfl rfl) (q_mf 331 rfl rfl) (q_mf 332 rfl rfl) (q_mf 44 rfl rfl) (q_mf 333 rfl rfl)) rfl h0 h1 (by decide +kernel) hR
set_option maxRecDepth 100000 in
theorem xc_wf_104 {R : Room} {s : State} {args : Array Value} {w0 : Cond} (rm : Room) (hts : ∀ w ∈ w0 :: q_gw lw_tbl, w.before args s = true) (hR : rm.frames + 1 ≤ R.frames ∧ 8 + (3 + 11) + rm.locals ≤ R.locals) (h0 : rm.cells = 0) (h1 : rm.slots = 0) : CallW R s args xR_wf xR_wf 104 xy_wf_waitsFor xb_wf_waitsFor 3 (some .boolean) (q_ws (q_gw lw_tbl) xy_wf_waitsFor xb_wf_waitsFor 3 (some .boolean)) rm 0 0 2 :=
  cwV 2 hts (q_goodV (q_gw_all _) (q_mf 433 rfl rfl) (q_mf 434 rfl rfl) (q_mf 435 rfl rfl) (q_mf 44 rfl rfl) (q_mf 436 rfl rfl)) rfl h0 h1 (by decide +kernel) hR
set_option maxRecDepth 100000 in
theorem xc_wf_108 {R : Room} {s : State} {args : Array Value} {w0 : Cond} (rm : Room) (hts : ∀ w ∈ w0 :: q_gw lw_tbl, w.before args s = true) (hR : rm.frames + 1 ≤ R.frames ∧ 8 + (3 + 11) + rm.locals ≤ R.locals) (h0 : rm.cells = 0) (h1 : rm.slots = 0) : CallW R s args xR_wf xR_wf 108 xy_wf_resume xb_wf_resume 3 none (q_ws (q_gw lw_tbl) xy_wf_resume xb_wf_resume 3 none) rm 0 0 2 :=
  cwV 2 hts (q_goodV (q_gw_all _) (q_mf 437 rfl rfl) (q_mf 417 rfl rfl) (q_mf 418 rfl rfl) (q_mf 44 rfl rfl) (q_mf 419 rfl rfl)) rfl h0 h1 (by decide +kernel) hR
