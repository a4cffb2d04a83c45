set_option maxRecDepth 100000 in
theorem mc_law_17 {R : Room} {s : State} {args : Array Value} {w0 : Cond} (rm : Room) (hts : ∀ w ∈ w0 :: q_gw lw_tbl, w.before args s = true) (hR : rm.frames + 1 ≤ R.frames ∧ 8 + (6 + 11) + rm.locals ≤ R.locals) (h0 : rm.cells = 0) (h1 : rm.slots = 0) : CallW R s args xR_law mR_fm 17 my_fm_add mb_fm_add 6 (some .int) (q_ws (q_gw lw_tbl) my_fm_add mb_fm_add 6 (some .int)) rm 0 0 4 :=
  cwV 4 hts (q_goodV (q_gw_all _) (q_mf 655 rfl rfl) (q_mf 656 rfl rfl) (q_mf 657 rfl rfl) (q_mf 49 rfl rfl) (q_mf 658 rfl rfl)) rfl h0 h1 (by decide +kernel) hR
set_option maxRecDepth 100000 in
theorem mc_law_22 {R : Room} {s : State} {args : Array Value} {w0 : Cond} (rm : Room) (hts : ∀ w ∈ w0 :: q_gw lw_tbl, w.before args s = true) (hR : rm.frames + 1 ≤ R.frames ∧ 8 + (7 + 11) + rm.locals ≤ R.locals) (h0 : rm.cells = 0) (h1 : rm.slots = 0) : CallW R s args xR_law mR_fm 22 my_fm_change mb_fm_change 7 (some .boolean) (q_ws (q_gw lw_tbl) my_fm_change mb_fm_change 7 (some .boolean)) rm 0 0 5 :=
  cwV 5 hts (q_goodV (q_gw_all _) (q_mf 673 rfl rfl) (q_mf 674 rfl rfl) (q_mf 675 rfl rfl) (q_mf 49 rfl rfl) (q_mf 676 rfl rfl)) rfl h0 h1 (by decide +kernel) hR
set_option maxRecDepth 100000 in
theorem mc_law_27 {R : Room} {s : State} {args : Array Value} {w0 : Cond} (rm : Room) (hts : ∀ w ∈ w0 :: q_gw lw_tbl, w.before args s = true) (hR : rm.frames + 1 ≤ R.frames ∧ 8 + (4 + 11) + rm.locals ≤ R.locals) (h0 : rm.cells = 0) (h1 : rm.slots = 0) : CallW R s args xR_law mR_fm 27 my_fm_start mb_fm_start 4 (some .int) (q_ws (q_gw lw_tbl) my_fm_start mb_fm_start 4 (some .int)) rm 0 0 2 :=
  cwV 2 hts (q_goodV (q_gw_all _) (q_mf 677 rfl rfl) (q_mf 678 rfl rfl) (q_mf 679 rfl rfl) (q_mf 49 rfl rfl) (q_mf 680 rfl rfl)) rfl h0 h1 (by decide +kernel) hR
set_option maxRecDepth 100000 in
theorem mc_law_32 {R : Room} {s : State} {args : Array Value} {w0 : Cond} (rm : Room) (hts : ∀ w ∈ w0 :: q_gw lw_tbl, w.before args s = true) (hR : rm.frames + 1 ≤ R.frames ∧ 8 + (2 + 11) + rm.locals ≤ R.locals) (h0 : rm.cells = 0) (h1 : rm.slots = 0) : CallW R s args xR_law mR_fm 32 my_fm_remove mb_fm_remove 2 (some .boolean) (q_ws (q_gw lw_tbl) my_fm_remove mb_fm_remove 2 (some .boolean)) rm 0 0 1 :=
  cwV 1 hts (q_goodV (q_gw_all _) (q_mf 749 rfl rfl) (q_mf 750 rfl rfl) (q_mf 751 rfl rfl) (q_mf 49 rfl rfl) (q_mf 752 rfl rfl)) rfl h0 h1 (by decide +kernel) hR
set_option maxRecDepth 100000 in
theorem mc_law_37 {R : Room} {s : State} {args : Array Value} {w0 : Cond} (rm : Room) (hts : ∀ w ∈ w0 :: q_gw lw_tbl, w.before args s = true) (hR : rm.frames + 1 ≤ R.frames ∧ 8 + (4 + 11) + rm.locals ≤ R.locals) (h0 : rm.cells = 0) (h1 : rm.slots = 0) : CallW R s args xR_law mR_fm 37 my_fm_signal mb_fm_signal 4 (some .int) (q_ws (q_gw lw_tbl) my_fm_signal mb_fm_signal 4 (some .int)) rm 0 0 3 :=
  cwV 3 hts (q_goodV (q_gw_all _) (q_mf 757 rfl rfl) (q_mf 758 rfl rfl) (q_mf 759 rfl rfl) (q_mf 49 rfl rfl) (q_mf 760 rfl rfl)) rfl h0 h1 (by decide +kernel) hR
set_option maxRecDepth 100000 in
theorem mc_law_42 {R : Room} {s : State} {args : Array Value} {w0 : Cond} (rm : Room) (hts : ∀ w ∈ w0 :: q_gw lw_tbl, w.before args s = true) (hR : rm.frames + 1 ≤ R.frames ∧ 8 + (3 + 11) + rm.locals ≤ R.locals) (h0 : rm.cells = 0) (h1 : rm.slots = 0) : CallW R s args xR_law mR_fm 42 my_fm_take mb_fm_take 3 (some .int) (q_ws (q_gw lw_tbl) my_fm_take mb_fm_take 3 (some .int)) rm 0 0 0 :=
  cwV 0 hts (q_goodV (q_gw_all _) (q_mf 773 rfl rfl) (q_mf 774 rfl rfl) (q_mf 775 rfl rfl) (q_mf 49 rfl rfl) (q_mf 776 rfl rfl)) rfl h0 h1 (by decide +kernel) hR
set_option maxRecDepth 100000 in
theorem mc_law_47 {R : Room} {s : State} {args : Array Value} {w0 : Cond} (rm : Room) (hts : ∀ w ∈ w0 :: q_gw lw_tbl, w.before args s = true) (hR : rm.frames + 1 ≤ R.frames ∧ 8 + (5 + 11) + rm.locals ≤ R.locals) (h0 : rm.cells = 0) (h1 : rm.slots = 0) : CallW R s args xR_law mR_fm 47 my_fm_answer mb_fm_answer 5 (some .int) (q_ws (q_gw lw_tbl) my_fm_answer mb_fm_answer 5 (some .int)) rm 0 0 3 :=
  cwV 3 hts (q_goodV (q_gw_all _) (q_mf 777 rfl rfl) (q_mf 778 rfl rfl) (q_mf 779 rfl rfl) (q_mf 49 rfl rfl) (q_mf 780 rfl rfl)) rfl h0 h1 (by decide +kernel) hR
set_option maxRecDepth 100000 in
theorem mc_law_52 {R : Room} {s : State} {args : Array Value} {w0 : Cond} (rm : Room) (hts : ∀ w ∈ w0 :: q_gw lw_tbl, w.before args s = true) (hR : rm.frames + 1 ≤ R.frames ∧ 8 + (4 + 11) + rm.locals ≤ R.locals) (h0 : rm.cells = 0) (h1 : rm.slots = 0) : CallW R s args xR_law mR_fm 52 my_fm_tick mb_fm_tick 4 (some .int) (q_ws (q_gw lw_tbl) my_fm_tick mb_fm_tick 4 (some .int)) rm 0 0 1 :=
  cwV 1 hts (q_goodV (q_gw_all _) (q_mf 785 rfl rfl) (q_mf 786 rfl rfl) (q_mf 787 rfl rfl) (q_mf 49 rfl rfl) (q_mf 788 rfl rfl)) rfl h0 h1 (by decide +kernel) hR
set_option maxRecDepth 100000 in
theorem mc_law_56 {R : Room} {s : State} {args : Array Value} {w0 : Cond} (rm : Room) (hts : ∀ w ∈ w0 :: q_gw lw_tbl, w.before args s = true) (hR : rm.frames + 1 ≤ R.frames ∧ 8 + (2 + 11) + rm.locals ≤ R.locals) (h0 : rm.cells = 0) (h1 : rm.slots = 0) : CallW R s args xR_law mR_fm 56 my_fm_forget mb_fm_forget 2 (some .boolean) (q_ws (q_gw lw_tbl) my_fm_forget mb_fm_forget 2 (some .boolean)) rm 0 0 1 :=
  cwV 1 hts (q_goodV (q_gw_all _) (q_mf 789 rfl rfl) (q_mf 790 rfl rfl) (q_mf 791 rfl rfl) (q_mf 49 rfl rfl) (q_mf 792 rfl rfl)) rfl h0 h1 (by decide +kernel) hR
set_option maxRecDepth 100000 in
theorem mc_law_60 {R : Room} {s : State} {args : Array Value} {w0 : Cond} (rm : Room) (hts : ∀ w ∈ w0 :: q_gw lw_tbl, w.before args s = true) (hR : rm.frames + 1 ≤ R.frames ∧ 8 + (4 + 11) + rm.locals ≤ R.locals) (h0 : rm.cells = 0) (h1 : rm.slots = 0) : CallW R s args xR_law mR_fm 60 my_fm_flow mb_fm_flow 4 (some .int) (q_ws (q_gw lw_tbl) my_fm_flow mb_fm_flow 4 (some .int)) rm 0 0 2 :=
  cwV 2 hts (q_goodV (q_gw_all _) (q_mf 793 rfl rfl) (q_mf 794 rfl rfl) (q_mf 795 rfl rfl) (q_mf 49 rfl rfl) (q_mf 796 rfl rfl)) rfl h0 h1 (by decide +kernel) hR
set_option maxRecDepth 100000 in
theorem mc_law_64 {R : Room} {s : State} {args : Array Value} {w0 : Cond} (rm : Room) (hts : ∀ w ∈ w0 :: q_gw lw_tbl, w.before args s = true) (hR : rm.frames + 1 ≤ R.frames ∧ 8 + (5 + 11) + rm.locals ≤ R.locals) (h0 : rm.cells = 0) (h1 : rm.slots = 0) : CallW R s args xR_law mR_fm 64 my_fm_entry mb_fm_entry 5 (some .int) (q_ws (q_gw lw_tbl) my_fm_entry mb_fm_entry 5 (some .int)) rm 0 0 3 :=
  cwV 3 hts (q_goodV (q_gw_all _) (q_mf 797 rfl rfl) (q_mf 798 rfl rfl) (q_mf 799 rfl rfl) (q_mf 49 rfl rfl) (q_mf 800 rfl rfl)) rfl h0 h1 (by decide +kernel) hR
set_option maxRecDepth 100000 in
theorem mc_law_68 {R : Room} {s : State} {args : Array Value} {w0 : Cond} (rm : Room) (hts : ∀ w ∈ w0 :: q_gw lw_tbl, w.before args s = true) (hR : rm.frames + 1 ≤ R.frames ∧ 8 + (2 + 11) + rm.locals ≤ R.locals) (h0 : rm.cells = 0) (h1 : rm.slots = 0) : CallW R s args xR_law mR_fm 68 my_fm_line mb_fm_line 2 (some .int) (q_ws (q_gw lw_tbl) my_fm_line mb_fm_line 2 (some .int)) rm 0 0 1 :=
  cwV 1 hts (q_goodV (q_gw_all _) (q_mf 801 rfl rfl) (q_mf 802 rfl rfl) (q_mf 803 rfl rfl) (q_mf 49 rfl rfl) (q_mf 804 rfl rfl)) rfl h0 h1 (by decide +kernel) hR
set_option maxRecDepth 100000 in
theorem mc_law_72 {R : Room} {s : State} {args : Array Value} {w0 : Cond} (rm : Room) (hts : ∀ w ∈ w0 :: q_gw lw_tbl, w.before args s = true) (hR : rm.frames + 1 ≤ R.frames ∧ 8 + (2 + 11) + rm.locals ≤ R.locals) (h0 : rm.cells = 0) (h1 : rm.slots = 0) : CallW R s args xR_law mR_fm 72 my_fm_count mb_fm_count 2 (some .int) (q_ws (q_gw lw_tbl) my_fm_count mb_fm_count 2 (some .int)) rm 0 0 1 :=
  cwV 1 hts (q_goodV (q_gw_all _) (q_mf 805 rfl rfl) (q_mf 806 rfl rfl) (q_mf 807 rfl rfl) (q_mf 49 rfl rfl) (q_mf 808 rfl rfl)) rfl h0 h1 (by decide +kernel) hR
