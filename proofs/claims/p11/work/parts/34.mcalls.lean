set_option maxRecDepth 100000 in
theorem mc_fm_111 {R : Room} {s : State} {args : Array Value} {w0 : Cond} (rm : Room) (hts : ∀ w ∈ w0 :: q_gw lw_tbl, w.before args s = true) (hR : rm.frames + 1 ≤ R.frames ∧ 8 + (3 + 11) + rm.locals ≤ R.locals) (h0 : rm.cells = 0) (h1 : rm.slots = 0) : CallB R s args mR_fm 111 my_fm_in mb_fm_in 3 (some .boolean) (q_ws (q_gw lw_tbl) my_fm_in mb_fm_in 3 (some .boolean)) rm 0 0 3 ∧ (Cond.static my_fm_in).before args s = true :=
  cwS 3 hts (q_goodS (q_gw_all _) (q_mf 662 rfl rfl) (q_mf 663 rfl rfl) (q_mf 49 rfl rfl) (q_mf 664 rfl rfl)) rfl h0 h1 (by decide +kernel) hR
set_option maxRecDepth 100000 in
theorem mc_fm_115 {R : Room} {s : State} {args : Array Value} {w0 : Cond} (rm : Room) (hts : ∀ w ∈ w0 :: q_gw lw_tbl, w.before args s = true) (hR : rm.frames + 1 ≤ R.frames ∧ 8 + (3 + 11) + rm.locals ≤ R.locals) (h0 : rm.cells = 0) (h1 : rm.slots = 0) : CallB R s args mR_fm 115 my_fm_isGood mb_fm_isGood 3 (some .boolean) (q_ws (q_gw lw_tbl) my_fm_isGood mb_fm_isGood 3 (some .boolean)) rm 0 0 3 ∧ (Cond.static my_fm_isGood).before args s = true :=
  cwS 3 hts (q_goodS (q_gw_all _) (q_mf 659 rfl rfl) (q_mf 660 rfl rfl) (q_mf 49 rfl rfl) (q_mf 661 rfl rfl)) rfl h0 h1 (by decide +kernel) hR
set_option maxRecDepth 100000 in
theorem mc_fm_118 {R : Room} {s : State} {args : Array Value} {w0 : Cond} (rm : Room) (hts : ∀ w ∈ w0 :: q_gw lw_tbl, w.before args s = true) (hR : rm.frames + 1 ≤ R.frames ∧ 8 + (5 + 11) + rm.locals ≤ R.locals) (h0 : rm.cells = 0) (h1 : rm.slots = 0) : CallW R s args mR_fm mR_fm 118 my_fm_set mb_fm_set 5 none (q_ws (q_gw lw_tbl) my_fm_set mb_fm_set 5 none) rm 0 0 4 :=
  cwV 4 hts (q_goodV (q_gw_all _) (q_mf 665 rfl rfl) (q_mf 667 rfl rfl) (q_mf 15 rfl rfl) (q_mf 49 rfl rfl) (q_mf 668 rfl rfl)) rfl h0 h1 (by decide +kernel) hR
set_option maxRecDepth 100000 in
theorem mc_fm_122 {R : Room} {s : State} {args : Array Value} {w0 : Cond} (rm : Room) (hts : ∀ w ∈ w0 :: q_gw lw_tbl, w.before args s = true) (hR : rm.frames + 1 ≤ R.frames ∧ 8 + (3 + 11) + rm.locals ≤ R.locals) (h0 : rm.cells = 0) (h1 : rm.slots = 0) : CallW R s args mR_fm mR_fm 122 my_fm_forgetAll mb_fm_forgetAll 3 none (q_ws (q_gw lw_tbl) my_fm_forgetAll mb_fm_forgetAll 3 none) rm 0 0 1 :=
  cwV 1 hts (q_goodV (q_gw_all _) (q_mf 669 rfl rfl) (q_mf 671 rfl rfl) (q_mf 16 rfl rfl) (q_mf 49 rfl rfl) (q_mf 672 rfl rfl)) rfl h0 h1 (by decide +kernel) hR
set_option maxRecDepth 100000 in
theorem mc_fm_130 {R : Room} {s : State} {args : Array Value} {w0 : Cond} (rm : Room) (hts : ∀ w ∈ w0 :: q_gw lw_tbl, w.before args s = true) (hR : rm.frames + 1 ≤ R.frames ∧ 8 + (4 + 11) + rm.locals ≤ R.locals) (h0 : rm.cells = 0) (h1 : rm.slots = 0) : CallW R s args mR_fm mR_fm 130 my_fm_leaveLine mb_fm_leaveLine 4 none (q_ws (q_gw lw_tbl) my_fm_leaveLine mb_fm_leaveLine 4 none) rm 0 0 1 :=
  cwV 1 hts (q_goodV (q_gw_all _) (q_mf 705 rfl rfl) (q_mf 707 rfl rfl) (q_mf 23 rfl rfl) (q_mf 49 rfl rfl) (q_mf 708 rfl rfl)) rfl h0 h1 (by decide +kernel) hR
set_option maxRecDepth 100000 in
theorem mc_fm_133 {R : Room} {s : State} {args : Array Value} {w0 : Cond} (rm : Room) (hts : ∀ w ∈ w0 :: q_gw lw_tbl, w.before args s = true) (hR : rm.frames + 1 ≤ R.frames ∧ 8 + (2 + 11) + rm.locals ≤ R.locals) (h0 : rm.cells = 0) (h1 : rm.slots = 0) : CallW R s args mR_fm mR_fm 133 my_fm_noTask mb_fm_noTask 2 none (q_ws (q_gw lw_tbl) my_fm_noTask mb_fm_noTask 2 none) rm 0 0 1 :=
  cwV 1 hts (q_goodV (q_gw_all _) (q_mf 701 rfl rfl) (q_mf 703 rfl rfl) (q_mf 22 rfl rfl) (q_mf 49 rfl rfl) (q_mf 704 rfl rfl)) rfl h0 h1 (by decide +kernel) hR
set_option maxRecDepth 100000 in
theorem mc_fm_139 {R : Room} {s : State} {args : Array Value} {w0 : Cond} (rm : Room) (hts : ∀ w ∈ w0 :: q_gw lw_tbl, w.before args s = true) (hR : rm.frames + 1 ≤ R.frames ∧ 8 + (2 + 11) + rm.locals ≤ R.locals) (h0 : rm.cells = 0) (h1 : rm.slots = 0) : CallW R s args mR_fm mR_fm 139 my_fm_left mb_fm_left 2 (some .int) (q_ws (q_gw lw_tbl) my_fm_left mb_fm_left 2 (some .int)) rm 0 0 1 :=
  cwV 1 hts (q_goodV (q_gw_all _) (q_mf 697 rfl rfl) (q_mf 699 rfl rfl) (q_mf 21 rfl rfl) (q_mf 49 rfl rfl) (q_mf 700 rfl rfl)) rfl h0 h1 (by decide +kernel) hR
set_option maxRecDepth 100000 in
theorem mc_fm_143 {R : Room} {s : State} {args : Array Value} {w0 : Cond} (rm : Room) (hts : ∀ w ∈ w0 :: q_gw lw_tbl, w.before args s = true) (hR : rm.frames + 1 ≤ R.frames ∧ 8 + (4 + 11) + rm.locals ≤ R.locals) (h0 : rm.cells = 0) (h1 : rm.slots = 0) : CallW R s args mR_fm mR_fm 143 my_fm_end mb_fm_end 4 none (q_ws (q_gw lw_tbl) my_fm_end mb_fm_end 4 none) rm 0 0 2 :=
  cwV 2 hts (q_goodV (q_gw_all _) (q_mf 693 rfl rfl) (q_mf 695 rfl rfl) (q_mf 20 rfl rfl) (q_mf 49 rfl rfl) (q_mf 696 rfl rfl)) rfl h0 h1 (by decide +kernel) hR
set_option maxRecDepth 100000 in
theorem mc_fm_147 {R : Room} {s : State} {args : Array Value} {w0 : Cond} (rm : Room) (hts : ∀ w ∈ w0 :: q_gw lw_tbl, w.before args s = true) (hR : rm.frames + 1 ≤ R.frames ∧ 8 + (2 + 11) + rm.locals ≤ R.locals) (h0 : rm.cells = 0) (h1 : rm.slots = 0) : CallW R s args mR_fm mR_fm 147 my_fm_breakUp mb_fm_breakUp 2 none (q_ws (q_gw lw_tbl) my_fm_breakUp mb_fm_breakUp 2 none) rm 0 0 1 :=
  cwV 1 hts (q_goodV (q_gw_all _) (q_mf 689 rfl rfl) (q_mf 691 rfl rfl) (q_mf 19 rfl rfl) (q_mf 49 rfl rfl) (q_mf 692 rfl rfl)) rfl h0 h1 (by decide +kernel) hR
set_option maxRecDepth 100000 in
theorem mc_fm_150 {R : Room} {s : State} {args : Array Value} {w0 : Cond} (rm : Room) (hts : ∀ w ∈ w0 :: q_gw lw_tbl, w.before args s = true) (hR : rm.frames + 1 ≤ R.frames ∧ 8 + (7 + 11) + rm.locals ≤ R.locals) (h0 : rm.cells = 0) (h1 : rm.slots = 0) : CallW R s args mR_fm mR_fm 150 my_fm_put mb_fm_put 7 (some .boolean) (q_ws (q_gw lw_tbl) my_fm_put mb_fm_put 7 (some .boolean)) rm 0 0 4 :=
  cwV 4 hts (q_goodV (q_gw_all _) (q_mf 717 rfl rfl) (q_mf 719 rfl rfl) (q_mf 26 rfl rfl) (q_mf 49 rfl rfl) (q_mf 720 rfl rfl)) rfl h0 h1 (by decide +kernel) hR
set_option maxRecDepth 100000 in
theorem mc_fm_154 {R : Room} {s : State} {args : Array Value} {w0 : Cond} (rm : Room) (hts : ∀ w ∈ w0 :: q_gw lw_tbl, w.before args s = true) (hR : rm.frames + 1 ≤ R.frames ∧ 8 + (3 + 11) + rm.locals ≤ R.locals) (h0 : rm.cells = 0) (h1 : rm.slots = 0) : CallW R s args mR_fm mR_fm 154 my_fm_newTask mb_fm_newTask 3 none (q_ws (q_gw lw_tbl) my_fm_newTask mb_fm_newTask 3 none) rm 0 0 2 :=
  cwV 2 hts (q_goodV (q_gw_all _) (q_mf 721 rfl rfl) (q_mf 723 rfl rfl) (q_mf 27 rfl rfl) (q_mf 49 rfl rfl) (q_mf 724 rfl rfl)) rfl h0 h1 (by decide +kernel) hR
set_option maxRecDepth 100000 in
theorem mc_fm_157 {R : Room} {s : State} {args : Array Value} {w0 : Cond} (rm : Room) (hts : ∀ w ∈ w0 :: q_gw lw_tbl, w.before args s = true) (hR : rm.frames + 1 ≤ R.frames ∧ 8 + (7 + 11) + rm.locals ≤ R.locals) (h0 : rm.cells = 0) (h1 : rm.slots = 0) : CallW R s args mR_fm mR_fm 157 my_fm_want mb_fm_want 7 none (q_ws (q_gw lw_tbl) my_fm_want mb_fm_want 7 none) rm 0 0 4 :=
  cwV 4 hts (q_goodV (q_gw_all _) (q_mf 713 rfl rfl) (q_mf 715 rfl rfl) (q_mf 25 rfl rfl) (q_mf 49 rfl rfl) (q_mf 716 rfl rfl)) rfl h0 h1 (by decide +kernel) hR
set_option maxRecDepth 100000 in
theorem mc_fm_160 {R : Room} {s : State} {args : Array Value} {w0 : Cond} (rm : Room) (hts : ∀ w ∈ w0 :: q_gw lw_tbl, w.before args s = true) (hR : rm.frames + 1 ≤ R.frames ∧ 8 + (5 + 11) + rm.locals ≤ R.locals) (h0 : rm.cells = 0) (h1 : rm.slots = 0) : CallW R s args mR_fm mR_fm 160 my_fm_sleep mb_fm_sleep 5 none (q_ws (q_gw lw_tbl) my_fm_sleep mb_fm_sleep 5 none) rm 0 0 2 :=
  cwV 2 hts (q_goodV (q_gw_all _) (q_mf 725 rfl rfl) (q_mf 727 rfl rfl) (q_mf 28 rfl rfl) (q_mf 49 rfl rfl) (q_mf 728 rfl rfl)) rfl h0 h1 (by decide +kernel) hR
set_option maxRecDepth 100000 in
theorem mc_fm_163 {R : Room} {s : State} {args : Array Value} {w0 : Cond} (rm : Room) (hts : ∀ w ∈ w0 :: q_gw lw_tbl, w.before args s = true) (hR : rm.frames + 1 ≤ R.frames ∧ 8 + (8 + 11) + rm.locals ≤ R.locals) (h0 : rm.cells = 0) (h1 : rm.slots = 0) : CallW R s args mR_fm mR_fm 163 my_fm_await mb_fm_await 8 none (q_ws (q_gw lw_tbl) my_fm_await mb_fm_await 8 none) rm 0 0 3 :=
  cwV 3 hts (q_goodV (q_gw_all _) (q_mf 729 rfl rfl) (q_mf 731 rfl rfl) (q_mf 29 rfl rfl) (q_mf 49 rfl rfl) (q_mf 732 rfl rfl)) rfl h0 h1 (by decide +kernel) hR
set_option maxRecDepth 100000 in
theorem mc_fm_167 {R : Room} {s : State} {args : Array Value} {w0 : Cond} (rm : Room) (hts : ∀ w ∈ w0 :: q_gw lw_tbl, w.before args s = true) (hR : rm.frames + 1 ≤ R.frames ∧ 8 + (4 + 11) + rm.locals ≤ R.locals) (h0 : rm.cells = 0) (h1 : rm.slots = 0) : CallW R s args mR_fm mR_fm 167 my_fm_note mb_fm_note 4 none (q_ws (q_gw lw_tbl) my_fm_note mb_fm_note 4 none) rm 0 0 3 :=
  cwV 3 hts (q_goodV (q_gw_all _) (q_mf 733 rfl rfl) (q_mf 735 rfl rfl) (q_mf 30 rfl rfl) (q_mf 49 rfl rfl) (q_mf 736 rfl rfl)) rfl h0 h1 (by decide +kernel) hR
set_option maxRecDepth 100000 in
theorem mc_fm_170 {R : Room} {s : State} {args : Array Value} {w0 : Cond} (rm : Room) (hts : ∀ w ∈ w0 :: q_gw lw_tbl, w.before args s = true) (hR : rm.frames + 1 ≤ R.frames ∧ 8 + (2 + 11) + rm.locals ≤ R.locals) (h0 : rm.cells = 0) (h1 : rm.slots = 0) : CallW R s args mR_fm mR_fm 170 my_fm_undo mb_fm_undo 2 none (q_ws (q_gw lw_tbl) my_fm_undo mb_fm_undo 2 none) rm 0 0 1 :=
  cwV 1 hts (q_goodV (q_gw_all _) (q_mf 737 rfl rfl) (q_mf 739 rfl rfl) (q_mf 31 rfl rfl) (q_mf 49 rfl rfl) (q_mf 740 rfl rfl)) rfl h0 h1 (by decide +kernel) hR
set_option maxRecDepth 100000 in
theorem mc_fm_173 {R : Room} {s : State} {args : Array Value} {w0 : Cond} (rm : Room) (hts : ∀ w ∈ w0 :: q_gw lw_tbl, w.before args s = true) (hR : rm.frames + 1 ≤ R.frames ∧ 8 + (9 + 11) + rm.locals ≤ R.locals) (h0 : rm.cells = 0) (h1 : rm.slots = 0) : CallW R s args mR_fm mR_fm 173 my_fm_step mb_fm_step 9 none (q_ws (q_gw lw_tbl) my_fm_step mb_fm_step 9 none) rm 0 0 1 :=
  cwV 1 hts (q_goodV (q_gw_all _) (q_mf 709 rfl rfl) (q_mf 711 rfl rfl) (q_mf 24 rfl rfl) (q_mf 49 rfl rfl) (q_mf 712 rfl rfl)) rfl h0 h1 (by decide +kernel) hR
set_option maxRecDepth 100000 in
theorem mc_fm_176 {R : Room} {s : State} {args : Array Value} {w0 : Cond} (rm : Room) (hts : ∀ w ∈ w0 :: q_gw lw_tbl, w.before args s = true) (hR : rm.frames + 1 ≤ R.frames ∧ 8 + (4 + 11) + rm.locals ≤ R.locals) (h0 : rm.cells = 0) (h1 : rm.slots = 0) : CallW R s args mR_fm mR_fm 176 my_fm_isFor mb_fm_isFor 4 (some .boolean) (q_ws (q_gw lw_tbl) my_fm_isFor mb_fm_isFor 4 (some .boolean)) rm 0 0 3 :=
  cwV 3 hts (q_goodV (q_gw_all _) (q_mf 741 rfl rfl) (q_mf 743 rfl rfl) (q_mf 32 rfl rfl) (q_mf 49 rfl rfl) (q_mf 744 rfl rfl)) rfl h0 h1 (by decide +kernel) hR
set_option maxRecDepth 100000 in
theorem mc_fm_179 {R : Room} {s : State} {args : Array Value} {w0 : Cond} (rm : Room) (hts : ∀ w ∈ w0 :: q_gw lw_tbl, w.before args s = true) (hR : rm.frames + 1 ≤ R.frames ∧ 8 + (5 + 11) + rm.locals ≤ R.locals) (h0 : rm.cells = 0) (h1 : rm.slots = 0) : CallW R s args mR_fm mR_fm 179 my_fm_came mb_fm_came 5 none (q_ws (q_gw lw_tbl) my_fm_came mb_fm_came 5 none) rm 0 0 3 :=
  cwV 3 hts (q_goodV (q_gw_all _) (q_mf 745 rfl rfl) (q_mf 747 rfl rfl) (q_mf 33 rfl rfl) (q_mf 49 rfl rfl) (q_mf 748 rfl rfl)) rfl h0 h1 (by decide +kernel) hR
set_option maxRecDepth 100000 in
theorem mc_fm_182 {R : Room} {s : State} {args : Array Value} {w0 : Cond} (rm : Room) (hts : ∀ w ∈ w0 :: q_gw lw_tbl, w.before args s = true) (hR : rm.frames + 1 ≤ R.frames ∧ 8 + (4 + 11) + rm.locals ≤ R.locals) (h0 : rm.cells = 0) (h1 : rm.slots = 0) : CallW R s args mR_fm mR_fm 182 my_fm_goOn mb_fm_goOn 4 none (q_ws (q_gw lw_tbl) my_fm_goOn mb_fm_goOn 4 none) rm 0 0 1 :=
  cwV 1 hts (q_goodV (q_gw_all _) (q_mf 685 rfl rfl) (q_mf 687 rfl rfl) (q_mf 18 rfl rfl) (q_mf 49 rfl rfl) (q_mf 688 rfl rfl)) rfl h0 h1 (by decide +kernel) hR
set_option maxRecDepth 100000 in
theorem mc_fm_185 {R : Room} {s : State} {args : Array Value} {w0 : Cond} (rm : Room) (hts : ∀ w ∈ w0 :: q_gw lw_tbl, w.before args s = true) (hR : rm.frames + 1 ≤ R.frames ∧ 8 + (3 + 11) + rm.locals ≤ R.locals) (h0 : rm.cells = 0) (h1 : rm.slots = 0) : CallW R s args mR_fm mR_fm 185 my_fm_begin mb_fm_begin 3 none (q_ws (q_gw lw_tbl) my_fm_begin mb_fm_begin 3 none) rm 0 0 1 :=
  cwV 1 hts (q_goodV (q_gw_all _) (q_mf 681 rfl rfl) (q_mf 683 rfl rfl) (q_mf 17 rfl rfl) (q_mf 49 rfl rfl) (q_mf 684 rfl rfl)) rfl h0 h1 (by decide +kernel) hR
set_option maxRecDepth 100000 in
theorem mc_fm_188 {R : Room} {s : State} {args : Array Value} {w0 : Cond} (rm : Room) (hts : ∀ w ∈ w0 :: q_gw lw_tbl, w.before args s = true) (hR : rm.frames + 1 ≤ R.frames ∧ 8 + (2 + 11) + rm.locals ≤ R.locals) (h0 : rm.cells = 0) (h1 : rm.slots = 0) : CallW R s args mR_fm mR_fm 188 my_fm_remember mb_fm_remember 2 none (q_ws (q_gw lw_tbl) my_fm_remember mb_fm_remember 2 none) rm 0 0 1 :=
  cwV 1 hts (q_goodV (q_gw_all _) (q_mf 765 rfl rfl) (q_mf 767 rfl rfl) (q_mf 36 rfl rfl) (q_mf 49 rfl rfl) (q_mf 768 rfl rfl)) rfl h0 h1 (by decide +kernel) hR
set_option maxRecDepth 100000 in
theorem mc_fm_191 {R : Room} {s : State} {args : Array Value} {w0 : Cond} (rm : Room) (hts : ∀ w ∈ w0 :: q_gw lw_tbl, w.before args s = true) (hR : rm.frames + 1 ≤ R.frames ∧ 8 + (2 + 11) + rm.locals ≤ R.locals) (h0 : rm.cells = 0) (h1 : rm.slots = 0) : CallW R s args mR_fm mR_fm 191 my_fm_hasEnded mb_fm_hasEnded 2 (some .boolean) (q_ws (q_gw lw_tbl) my_fm_hasEnded mb_fm_hasEnded 2 (some .boolean)) rm 0 0 1 :=
  cwV 1 hts (q_goodV (q_gw_all _) (q_mf 761 rfl rfl) (q_mf 763 rfl rfl) (q_mf 35 rfl rfl) (q_mf 49 rfl rfl) (q_mf 764 rfl rfl)) rfl h0 h1 (by decide +kernel) hR
set_option maxRecDepth 100000 in
theorem mc_fm_195 {R : Room} {s : State} {args : Array Value} {w0 : Cond} (rm : Room) (hts : ∀ w ∈ w0 :: q_gw lw_tbl, w.before args s = true) (hR : rm.frames + 1 ≤ R.frames ∧ 8 + (2 + 11) + rm.locals ≤ R.locals) (h0 : rm.cells = 0) (h1 : rm.slots = 0) : CallW R s args mR_fm mR_fm 195 my_fm_isThere mb_fm_isThere 2 (some .boolean) (q_ws (q_gw lw_tbl) my_fm_isThere mb_fm_isThere 2 (some .boolean)) rm 0 0 1 :=
  cwV 1 hts (q_goodV (q_gw_all _) (q_mf 753 rfl rfl) (q_mf 755 rfl rfl) (q_mf 34 rfl rfl) (q_mf 49 rfl rfl) (q_mf 756 rfl rfl)) rfl h0 h1 (by decide +kernel) hR
set_option maxRecDepth 100000 in
theorem mc_fm_198 {R : Room} {s : State} {args : Array Value} {w0 : Cond} (rm : Room) (hts : ∀ w ∈ w0 :: q_gw lw_tbl, w.before args s = true) (hR : rm.frames + 1 ≤ R.frames ∧ 8 + (6 + 11) + rm.locals ≤ R.locals) (h0 : rm.cells = 0) (h1 : rm.slots = 0) : CallW R s args mR_fm mR_fm 198 my_fm_write mb_fm_write 6 none (q_ws (q_gw lw_tbl) my_fm_write mb_fm_write 6 none) rm 0 0 4 :=
  cwV 4 hts (q_goodV (q_gw_all _) (q_mf 769 rfl rfl) (q_mf 771 rfl rfl) (q_mf 37 rfl rfl) (q_mf 49 rfl rfl) (q_mf 772 rfl rfl)) rfl h0 h1 (by decide +kernel) hR
set_option maxRecDepth 100000 in
theorem mc_fm_201 {R : Room} {s : State} {args : Array Value} {w0 : Cond} (rm : Room) (hts : ∀ w ∈ w0 :: q_gw lw_tbl, w.before args s = true) (hR : rm.frames + 1 ≤ R.frames ∧ 8 + (3 + 11) + rm.locals ≤ R.locals) (h0 : rm.cells = 0) (h1 : rm.slots = 0) : CallW R s args mR_fm mR_fm 201 my_fm_wrong mb_fm_wrong 3 none (q_ws (q_gw lw_tbl) my_fm_wrong mb_fm_wrong 3 none) rm 0 0 1 :=
  cwV 1 hts (q_goodV (q_gw_all _) (q_mf 781 rfl rfl) (q_mf 783 rfl rfl) (q_mf 38 rfl rfl) (q_mf 49 rfl rfl) (q_mf 784 rfl rfl)) rfl h0 h1 (by decide +kernel) hR
set_option maxRecDepth 100000 in
theorem mc_fm_204 {R : Room} {s : State} {args : Array Value} {w0 : Cond} (rm : Room) (hts : ∀ w ∈ w0 :: q_gw lw_tbl, w.before args s = true) (hR : rm.frames + 1 ≤ R.frames ∧ 8 + (4 + 11) + rm.locals ≤ R.locals) (h0 : rm.cells = 0) (h1 : rm.slots = 0) : CallW R s args mR_fm mR_fm 204 my_fm_flows mb_fm_flows 4 (some .int) (q_ws (q_gw lw_tbl) my_fm_flows mb_fm_flows 4 (some .int)) rm 0 0 1 :=
  cwV 1 hts (q_goodV (q_gw_all _) (q_mf 809 rfl rfl) (q_mf 811 rfl rfl) (q_mf 39 rfl rfl) (q_mf 49 rfl rfl) (q_mf 812 rfl rfl)) rfl h0 h1 (by decide +kernel) hR
