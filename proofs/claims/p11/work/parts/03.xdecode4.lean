theorem xd_ta_comeBack_0 : decode xb_ta_comeBack 0 = .ok (.aload_n 0, 1) := by decide +kernel
theorem xd_ta_comeBack_1 : decode xb_ta_comeBack 1 = .ok (.iconst 0, 1) := by decide +kernel
theorem xd_ta_comeBack_2 : decode xb_ta_comeBack 2 = .ok (.putfield 18, 3) := by decide +kernel
theorem xd_ta_comeBack_5 : decode xb_ta_comeBack 5 = .ok (.aload_n 0, 1) := by decide +kernel
theorem xd_ta_comeBack_6 : decode xb_ta_comeBack 6 = .ok (.iload_n 1, 1) := by decide +kernel
theorem xd_ta_comeBack_7 : decode xb_ta_comeBack 7 = .ok (.iconst 1, 1) := by decide +kernel
theorem xd_ta_comeBack_8 : decode xb_ta_comeBack 8 = .ok (.aload_n 0, 1) := by decide +kernel
theorem xd_ta_comeBack_9 : decode xb_ta_comeBack 9 = .ok (.getfield 15, 3) := by decide +kernel
theorem xd_ta_comeBack_12 : decode xb_ta_comeBack 12 = .ok (.ishl, 1) := by decide +kernel
theorem xd_ta_comeBack_13 : decode xb_ta_comeBack 13 = .ok (.iadd, 1) := by decide +kernel
theorem xd_ta_comeBack_14 : decode xb_ta_comeBack 14 = .ok (.putfield 25, 3) := by decide +kernel
theorem xd_ta_comeBack_17 : decode xb_ta_comeBack 17 = .ok (.return_, 1) := by decide +kernel
theorem xd_ta_isOverdue_0 : decode xb_ta_isOverdue 0 = .ok (.aload_n 0, 1) := by decide +kernel
theorem xd_ta_isOverdue_1 : decode xb_ta_isOverdue 1 = .ok (.getfield 18, 3) := by decide +kernel
theorem xd_ta_isOverdue_4 : decode xb_ta_isOverdue 4 = .ok (.ifCond .eq 17, 3) := by decide +kernel
theorem xd_ta_isOverdue_7 : decode xb_ta_isOverdue 7 = .ok (.iload_n 1, 1) := by decide +kernel
theorem xd_ta_isOverdue_8 : decode xb_ta_isOverdue 8 = .ok (.aload_n 0, 1) := by decide +kernel
theorem xd_ta_isOverdue_9 : decode xb_ta_isOverdue 9 = .ok (.getfield 22, 3) := by decide +kernel
theorem xd_ta_isOverdue_12 : decode xb_ta_isOverdue 12 = .ok (.isub, 1) := by decide +kernel
theorem xd_ta_isOverdue_13 : decode xb_ta_isOverdue 13 = .ok (.iconst 5, 1) := by decide +kernel
theorem xd_ta_isOverdue_14 : decode xb_ta_isOverdue 14 = .ok (.if_icmp .lt 7, 3) := by decide +kernel
theorem xd_ta_isOverdue_17 : decode xb_ta_isOverdue 17 = .ok (.iconst 1, 1) := by decide +kernel
theorem xd_ta_isOverdue_18 : decode xb_ta_isOverdue 18 = .ok (.goto 4, 3) := by decide +kernel
theorem xd_ta_isOverdue_21 : decode xb_ta_isOverdue 21 = .ok (.iconst 0, 1) := by decide +kernel
theorem xd_ta_isOverdue_22 : decode xb_ta_isOverdue 22 = .ok (.ireturn, 1) := by decide +kernel
theorem xd_tl_init_0 : decode xb_tl_init 0 = .ok (.aload_n 0, 1) := by decide +kernel
theorem xd_tl_init_1 : decode xb_tl_init 1 = .ok (.invokespecial 3, 3) := by decide +kernel
theorem xd_tl_init_4 : decode xb_tl_init 4 = .ok (.aload_n 0, 1) := by decide +kernel
theorem xd_tl_init_5 : decode xb_tl_init 5 = .ok (.bipush 6, 2) := by decide +kernel
theorem xd_tl_init_7 : decode xb_tl_init 7 = .ok (.newarray .int, 2) := by decide +kernel
theorem xd_tl_init_9 : decode xb_tl_init 9 = .ok (.putfield 9, 3) := by decide +kernel
theorem xd_tl_init_12 : decode xb_tl_init 12 = .ok (.return_, 1) := by decide +kernel
theorem xd_tl_append_0 : decode xb_tl_append 0 = .ok (.aload_n 0, 1) := by decide +kernel
theorem xd_tl_append_1 : decode xb_tl_append 1 = .ok (.getfield 15, 3) := by decide +kernel
theorem xd_tl_append_4 : decode xb_tl_append 4 = .ok (.bipush 6, 2) := by decide +kernel
theorem xd_tl_append_6 : decode xb_tl_append 6 = .ok (.if_icmp .ge 23, 3) := by decide +kernel
theorem xd_tl_append_9 : decode xb_tl_append 9 = .ok (.aload_n 0, 1) := by decide +kernel
theorem xd_tl_append_10 : decode xb_tl_append 10 = .ok (.getfield 9, 3) := by decide +kernel
theorem xd_tl_append_13 : decode xb_tl_append 13 = .ok (.aload_n 0, 1) := by decide +kernel
theorem xd_tl_append_14 : decode xb_tl_append 14 = .ok (.getfield 15, 3) := by decide +kernel
theorem xd_tl_append_17 : decode xb_tl_append 17 = .ok (.iload_n 1, 1) := by decide +kernel
theorem xd_tl_append_18 : decode xb_tl_append 18 = .ok (.iastore, 1) := by decide +kernel
theorem xd_tl_append_19 : decode xb_tl_append 19 = .ok (.aload_n 0, 1) := by decide +kernel
theorem xd_tl_append_20 : decode xb_tl_append 20 = .ok (.dup, 1) := by decide +kernel
theorem xd_tl_append_21 : decode xb_tl_append 21 = .ok (.getfield 15, 3) := by decide +kernel
theorem xd_tl_append_24 : decode xb_tl_append 24 = .ok (.iconst 1, 1) := by decide +kernel
theorem xd_tl_append_25 : decode xb_tl_append 25 = .ok (.iadd, 1) := by decide +kernel
theorem xd_tl_append_26 : decode xb_tl_append 26 = .ok (.putfield 15, 3) := by decide +kernel
theorem xd_tl_append_29 : decode xb_tl_append 29 = .ok (.return_, 1) := by decide +kernel
theorem xd_tl_drop_0 : decode xb_tl_drop 0 = .ok (.iconst 0, 1) := by decide +kernel
theorem xd_tl_drop_1 : decode xb_tl_drop 1 = .ok (.istore_n 2, 1) := by decide +kernel
theorem xd_tl_drop_2 : decode xb_tl_drop 2 = .ok (.iconst 0, 1) := by decide +kernel
theorem xd_tl_drop_3 : decode xb_tl_drop 3 = .ok (.istore_n 3, 1) := by decide +kernel
theorem xd_tl_drop_4 : decode xb_tl_drop 4 = .ok (.iload_n 3, 1) := by decide +kernel
theorem xd_tl_drop_5 : decode xb_tl_drop 5 = .ok (.aload_n 0, 1) := by decide +kernel
theorem xd_tl_drop_6 : decode xb_tl_drop 6 = .ok (.getfield 15, 3) := by decide +kernel
theorem xd_tl_drop_9 : decode xb_tl_drop 9 = .ok (.if_icmp .ge 34, 3) := by decide +kernel
theorem xd_tl_drop_12 : decode xb_tl_drop 12 = .ok (.aload_n 0, 1) := by decide +kernel
theorem xd_tl_drop_13 : decode xb_tl_drop 13 = .ok (.getfield 9, 3) := by decide +kernel
theorem xd_tl_drop_16 : decode xb_tl_drop 16 = .ok (.iload_n 3, 1) := by decide +kernel
theorem xd_tl_drop_17 : decode xb_tl_drop 17 = .ok (.iaload, 1) := by decide +kernel
theorem xd_tl_drop_18 : decode xb_tl_drop 18 = .ok (.iload_n 1, 1) := by decide +kernel
theorem xd_tl_drop_19 : decode xb_tl_drop 19 = .ok (.if_icmp .eq 18, 3) := by decide +kernel
theorem xd_tl_drop_22 : decode xb_tl_drop 22 = .ok (.aload_n 0, 1) := by decide +kernel
theorem xd_tl_drop_23 : decode xb_tl_drop 23 = .ok (.getfield 9, 3) := by decide +kernel
theorem xd_tl_drop_26 : decode xb_tl_drop 26 = .ok (.iload_n 2, 1) := by decide +kernel
theorem xd_tl_drop_27 : decode xb_tl_drop 27 = .ok (.aload_n 0, 1) := by decide +kernel
theorem xd_tl_drop_28 : decode xb_tl_drop 28 = .ok (.getfield 9, 3) := by decide +kernel
theorem xd_tl_drop_31 : decode xb_tl_drop 31 = .ok (.iload_n 3, 1) := by decide +kernel
theorem xd_tl_drop_32 : decode xb_tl_drop 32 = .ok (.iaload, 1) := by decide +kernel
theorem xd_tl_drop_33 : decode xb_tl_drop 33 = .ok (.iastore, 1) := by decide +kernel
theorem xd_tl_drop_34 : decode xb_tl_drop 34 = .ok (.iinc 2 1, 3) := by decide +kernel
theorem xd_tl_drop_37 : decode xb_tl_drop 37 = .ok (.iinc 3 1, 3) := by decide +kernel
theorem xd_tl_drop_40 : decode xb_tl_drop 40 = .ok (.goto (-36), 3) := by decide +kernel
theorem xd_tl_drop_43 : decode xb_tl_drop 43 = .ok (.aload_n 0, 1) := by decide +kernel
theorem xd_tl_drop_44 : decode xb_tl_drop 44 = .ok (.iload_n 2, 1) := by decide +kernel
theorem xd_tl_drop_45 : decode xb_tl_drop 45 = .ok (.putfield 15, 3) := by decide +kernel
theorem xd_tl_drop_48 : decode xb_tl_drop 48 = .ok (.return_, 1) := by decide +kernel
theorem xd_ul_init_0 : decode xb_ul_init 0 = .ok (.aload_n 0, 1) := by decide +kernel
theorem xd_ul_init_1 : decode xb_ul_init 1 = .ok (.invokespecial 3, 3) := by decide +kernel
theorem xd_ul_init_4 : decode xb_ul_init 4 = .ok (.aload_n 0, 1) := by decide +kernel
theorem xd_ul_init_5 : decode xb_ul_init 5 = .ok (.bipush 6, 2) := by decide +kernel
theorem xd_ul_init_7 : decode xb_ul_init 7 = .ok (.newarray .int, 2) := by decide +kernel
theorem xd_ul_init_9 : decode xb_ul_init 9 = .ok (.putfield 9, 3) := by decide +kernel
theorem xd_ul_init_12 : decode xb_ul_init 12 = .ok (.aload_n 0, 1) := by decide +kernel
theorem xd_ul_init_13 : decode xb_ul_init 13 = .ok (.bipush 6, 2) := by decide +kernel
theorem xd_ul_init_15 : decode xb_ul_init 15 = .ok (.newarray .int, 2) := by decide +kernel
theorem xd_ul_init_17 : decode xb_ul_init 17 = .ok (.putfield 15, 3) := by decide +kernel
theorem xd_ul_init_20 : decode xb_ul_init 20 = .ok (.return_, 1) := by decide +kernel
theorem xd_wf_init_0 : decode xb_wf_init 0 = .ok (.aload_n 0, 1) := by decide +kernel
theorem xd_wf_init_1 : decode xb_wf_init 1 = .ok (.invokespecial 3, 3) := by decide +kernel
theorem xd_wf_init_4 : decode xb_wf_init 4 = .ok (.aload_n 0, 1) := by decide +kernel
theorem xd_wf_init_5 : decode xb_wf_init 5 = .ok (.iconst 4, 1) := by decide +kernel
theorem xd_wf_init_6 : decode xb_wf_init 6 = .ok (.newarray .int, 2) := by decide +kernel
theorem xd_wf_init_8 : decode xb_wf_init 8 = .ok (.putfield 9, 3) := by decide +kernel
theorem xd_wf_init_11 : decode xb_wf_init 11 = .ok (.aload_n 0, 1) := by decide +kernel
theorem xd_wf_init_12 : decode xb_wf_init 12 = .ok (.new 15, 3) := by decide +kernel
theorem xd_wf_init_15 : decode xb_wf_init 15 = .ok (.dup, 1) := by decide +kernel
theorem xd_wf_init_16 : decode xb_wf_init 16 = .ok (.invokespecial 17, 3) := by decide +kernel
theorem xd_wf_init_19 : decode xb_wf_init 19 = .ok (.putfield 18, 3) := by decide +kernel
theorem xd_wf_init_22 : decode xb_wf_init 22 = .ok (.aload_n 0, 1) := by decide +kernel
theorem xd_wf_init_23 : decode xb_wf_init 23 = .ok (.new 22, 3) := by decide +kernel
theorem xd_wf_init_26 : decode xb_wf_init 26 = .ok (.dup, 1) := by decide +kernel
theorem xd_wf_init_27 : decode xb_wf_init 27 = .ok (.invokespecial 24, 3) := by decide +kernel
theorem xd_wf_init_30 : decode xb_wf_init 30 = .ok (.putfield 25, 3) := by decide +kernel
theorem xd_wf_init_33 : decode xb_wf_init 33 = .ok (.aload_n 0, 1) := by decide +kernel
theorem xd_wf_init_34 : decode xb_wf_init 34 = .ok (.new 29, 3) := by decide +kernel
theorem xd_wf_init_37 : decode xb_wf_init 37 = .ok (.dup, 1) := by decide +kernel
theorem xd_wf_init_38 : decode xb_wf_init 38 = .ok (.invokespecial 31, 3) := by decide +kernel
theorem xd_wf_init_41 : decode xb_wf_init 41 = .ok (.putfield 32, 3) := by decide +kernel
theorem xd_wf_init_44 : decode xb_wf_init 44 = .ok (.aload_n 0, 1) := by decide +kernel
theorem xd_wf_init_45 : decode xb_wf_init 45 = .ok (.new 36, 3) := by decide +kernel
theorem xd_wf_init_48 : decode xb_wf_init 48 = .ok (.dup, 1) := by decide +kernel
theorem xd_wf_init_49 : decode xb_wf_init 49 = .ok (.invokespecial 38, 3) := by decide +kernel
theorem xd_wf_init_52 : decode xb_wf_init 52 = .ok (.putfield 39, 3) := by decide +kernel
theorem xd_wf_init_55 : decode xb_wf_init 55 = .ok (.aload_n 0, 1) := by decide +kernel
theorem xd_wf_init_56 : decode xb_wf_init 56 = .ok (.iload_n 1, 1) := by decide +kernel
theorem xd_wf_init_57 : decode xb_wf_init 57 = .ok (.putfield 43, 3) := by decide +kernel
theorem xd_wf_init_60 : decode xb_wf_init 60 = .ok (.return_, 1) := by decide +kernel
theorem xd_wf_hasEnded_0 : decode xb_wf_hasEnded 0 = .ok (.aload_n 0, 1) := by decide +kernel
theorem xd_wf_hasEnded_1 : decode xb_wf_hasEnded 1 = .ok (.getfield 74, 3) := by decide +kernel
theorem xd_wf_hasEnded_4 : decode xb_wf_hasEnded 4 = .ok (.iconst 5, 1) := by decide +kernel
theorem xd_wf_hasEnded_5 : decode xb_wf_hasEnded 5 = .ok (.if_icmp .lt 7, 3) := by decide +kernel
theorem xd_wf_hasEnded_8 : decode xb_wf_hasEnded 8 = .ok (.iconst 1, 1) := by decide +kernel
theorem xd_wf_hasEnded_9 : decode xb_wf_hasEnded 9 = .ok (.goto 4, 3) := by decide +kernel
theorem xd_wf_hasEnded_12 : decode xb_wf_hasEnded 12 = .ok (.iconst 0, 1) := by decide +kernel
theorem xd_wf_hasEnded_13 : decode xb_wf_hasEnded 13 = .ok (.ireturn, 1) := by decide +kernel
theorem xd_wf_begin_0 : decode xb_wf_begin 0 = .ok (.aload_n 0, 1) := by decide +kernel
theorem xd_wf_begin_1 : decode xb_wf_begin 1 = .ok (.iconst 1, 1) := by decide +kernel
theorem xd_wf_begin_2 : decode xb_wf_begin 2 = .ok (.putfield 47, 3) := by decide +kernel
theorem xd_wf_begin_5 : decode xb_wf_begin 5 = .ok (.aload_n 0, 1) := by decide +kernel
theorem xd_wf_begin_6 : decode xb_wf_begin 6 = .ok (.iload_n 1, 1) := by decide +kernel
theorem xd_wf_begin_7 : decode xb_wf_begin 7 = .ok (.putfield 51, 3) := by decide +kernel
theorem xd_wf_begin_10 : decode xb_wf_begin 10 = .ok (.aload_n 0, 1) := by decide +kernel
theorem xd_wf_begin_11 : decode xb_wf_begin 11 = .ok (.getfield 25, 3) := by decide +kernel
theorem xd_wf_begin_14 : decode xb_wf_begin 14 = .ok (.iconst 0, 1) := by decide +kernel
theorem xd_wf_begin_15 : decode xb_wf_begin 15 = .ok (.putfield 54, 3) := by decide +kernel
theorem xd_wf_begin_18 : decode xb_wf_begin 18 = .ok (.aload_n 0, 1) := by decide +kernel
theorem xd_wf_begin_19 : decode xb_wf_begin 19 = .ok (.getfield 18, 3) := by decide +kernel
theorem xd_wf_begin_22 : decode xb_wf_begin 22 = .ok (.iconst 0, 1) := by decide +kernel
theorem xd_wf_begin_23 : decode xb_wf_begin 23 = .ok (.putfield 57, 3) := by decide +kernel
theorem xd_wf_begin_26 : decode xb_wf_begin 26 = .ok (.aload_n 0, 1) := by decide +kernel
theorem xd_wf_begin_27 : decode xb_wf_begin 27 = .ok (.getfield 18, 3) := by decide +kernel
theorem xd_wf_begin_30 : decode xb_wf_begin 30 = .ok (.iconst 0, 1) := by decide +kernel
theorem xd_wf_begin_31 : decode xb_wf_begin 31 = .ok (.putfield 58, 3) := by decide +kernel
theorem xd_wf_begin_34 : decode xb_wf_begin 34 = .ok (.aload_n 0, 1) := by decide +kernel
theorem xd_wf_begin_35 : decode xb_wf_begin 35 = .ok (.getfield 18, 3) := by decide +kernel
theorem xd_wf_begin_38 : decode xb_wf_begin 38 = .ok (.iconst 1, 1) := by decide +kernel
theorem xd_wf_begin_39 : decode xb_wf_begin 39 = .ok (.iload_n 1, 1) := by decide +kernel
theorem xd_wf_begin_40 : decode xb_wf_begin 40 = .ok (.iload_n 2, 1) := by decide +kernel
theorem xd_wf_begin_41 : decode xb_wf_begin 41 = .ok (.invokevirtual 61, 3) := by decide +kernel
theorem xd_wf_begin_44 : decode xb_wf_begin 44 = .ok (.pop, 1) := by decide +kernel
theorem xd_wf_begin_45 : decode xb_wf_begin 45 = .ok (.aload_n 0, 1) := by decide +kernel
theorem xd_wf_begin_46 : decode xb_wf_begin 46 = .ok (.invokevirtual 65, 3) := by decide +kernel
theorem xd_wf_begin_49 : decode xb_wf_begin 49 = .ok (.return_, 1) := by decide +kernel
theorem xd_wf_rewind_0 : decode xb_wf_rewind 0 = .ok (.aload_n 0, 1) := by decide +kernel
theorem xd_wf_rewind_1 : decode xb_wf_rewind 1 = .ok (.iconst 0, 1) := by decide +kernel
theorem xd_wf_rewind_2 : decode xb_wf_rewind 2 = .ok (.putfield 68, 3) := by decide +kernel
theorem xd_wf_rewind_5 : decode xb_wf_rewind 5 = .ok (.aload_n 0, 1) := by decide +kernel
theorem xd_wf_rewind_6 : decode xb_wf_rewind 6 = .ok (.iconst 0, 1) := by decide +kernel
theorem xd_wf_rewind_7 : decode xb_wf_rewind 7 = .ok (.putfield 71, 3) := by decide +kernel
theorem xd_wf_rewind_10 : decode xb_wf_rewind 10 = .ok (.aload_n 0, 1) := by decide +kernel
theorem xd_wf_rewind_11 : decode xb_wf_rewind 11 = .ok (.iconst 0, 1) := by decide +kernel
theorem xd_wf_rewind_12 : decode xb_wf_rewind 12 = .ok (.putfield 74, 3) := by decide +kernel
theorem xd_wf_rewind_15 : decode xb_wf_rewind 15 = .ok (.aload_n 0, 1) := by decide +kernel
theorem xd_wf_rewind_16 : decode xb_wf_rewind 16 = .ok (.iconst 0, 1) := by decide +kernel
theorem xd_wf_rewind_17 : decode xb_wf_rewind 17 = .ok (.putfield 77, 3) := by decide +kernel
theorem xd_wf_rewind_20 : decode xb_wf_rewind 20 = .ok (.aload_n 0, 1) := by decide +kernel
theorem xd_wf_rewind_21 : decode xb_wf_rewind 21 = .ok (.iconst 0, 1) := by decide +kernel
theorem xd_wf_rewind_22 : decode xb_wf_rewind 22 = .ok (.putfield 80, 3) := by decide +kernel
theorem xd_wf_rewind_25 : decode xb_wf_rewind 25 = .ok (.aload_n 0, 1) := by decide +kernel
theorem xd_wf_rewind_26 : decode xb_wf_rewind 26 = .ok (.getfield 32, 3) := by decide +kernel
theorem xd_wf_rewind_29 : decode xb_wf_rewind 29 = .ok (.iconst 0, 1) := by decide +kernel
theorem xd_wf_rewind_30 : decode xb_wf_rewind 30 = .ok (.putfield 83, 3) := by decide +kernel
theorem xd_wf_rewind_33 : decode xb_wf_rewind 33 = .ok (.aload_n 0, 1) := by decide +kernel
theorem xd_wf_rewind_34 : decode xb_wf_rewind 34 = .ok (.getfield 18, 3) := by decide +kernel
theorem xd_wf_rewind_37 : decode xb_wf_rewind 37 = .ok (.iconst 1, 1) := by decide +kernel
theorem xd_wf_rewind_38 : decode xb_wf_rewind 38 = .ok (.putfield 58, 3) := by decide +kernel
theorem xd_wf_rewind_41 : decode xb_wf_rewind 41 = .ok (.aload_n 0, 1) := by decide +kernel
theorem xd_wf_rewind_42 : decode xb_wf_rewind 42 = .ok (.getfield 9, 3) := by decide +kernel
theorem xd_wf_rewind_45 : decode xb_wf_rewind 45 = .ok (.iconst 0, 1) := by decide +kernel
theorem xd_wf_rewind_46 : decode xb_wf_rewind 46 = .ok (.aload_n 0, 1) := by decide +kernel
theorem xd_wf_rewind_47 : decode xb_wf_rewind 47 = .ok (.getfield 18, 3) := by decide +kernel
theorem xd_wf_rewind_50 : decode xb_wf_rewind 50 = .ok (.getfield 84, 3) := by decide +kernel
theorem xd_wf_rewind_53 : decode xb_wf_rewind 53 = .ok (.iconst 0, 1) := by decide +kernel
theorem xd_wf_rewind_54 : decode xb_wf_rewind 54 = .ok (.iaload, 1) := by decide +kernel
theorem xd_wf_rewind_55 : decode xb_wf_rewind 55 = .ok (.iastore, 1) := by decide +kernel
theorem xd_wf_rewind_56 : decode xb_wf_rewind 56 = .ok (.iconst 1, 1) := by decide +kernel
theorem xd_wf_rewind_57 : decode xb_wf_rewind 57 = .ok (.istore_n 1, 1) := by decide +kernel
theorem xd_wf_rewind_58 : decode xb_wf_rewind 58 = .ok (.iload_n 1, 1) := by decide +kernel
theorem xd_wf_rewind_59 : decode xb_wf_rewind 59 = .ok (.iconst 4, 1) := by decide +kernel
theorem xd_wf_rewind_60 : decode xb_wf_rewind 60 = .ok (.if_icmp .ge 16, 3) := by decide +kernel
theorem xd_wf_rewind_63 : decode xb_wf_rewind 63 = .ok (.aload_n 0, 1) := by decide +kernel
theorem xd_wf_rewind_64 : decode xb_wf_rewind 64 = .ok (.getfield 9, 3) := by decide +kernel
theorem xd_wf_rewind_67 : decode xb_wf_rewind 67 = .ok (.iload_n 1, 1) := by decide +kernel
theorem xd_wf_rewind_68 : decode xb_wf_rewind 68 = .ok (.iconst 0, 1) := by decide +kernel
theorem xd_wf_rewind_69 : decode xb_wf_rewind 69 = .ok (.iastore, 1) := by decide +kernel
theorem xd_wf_rewind_70 : decode xb_wf_rewind 70 = .ok (.iinc 1 1, 3) := by decide +kernel
theorem xd_wf_rewind_73 : decode xb_wf_rewind 73 = .ok (.goto (-15), 3) := by decide +kernel
theorem xd_wf_rewind_76 : decode xb_wf_rewind 76 = .ok (.return_, 1) := by decide +kernel
theorem xd_wf_resume_0 : decode xb_wf_resume 0 = .ok (.iload_n 1, 1) := by decide +kernel
theorem xd_wf_resume_1 : decode xb_wf_resume 1 = .ok (.iconst 4, 1) := by decide +kernel
theorem xd_wf_resume_2 : decode xb_wf_resume 2 = .ok (.if_icmp .ne 8, 3) := by decide +kernel
theorem xd_wf_resume_5 : decode xb_wf_resume 5 = .ok (.aload_n 0, 1) := by decide +kernel
theorem xd_wf_resume_6 : decode xb_wf_resume 6 = .ok (.iconst 1, 1) := by decide +kernel
theorem xd_wf_resume_7 : decode xb_wf_resume 7 = .ok (.putfield 71, 3) := by decide +kernel
theorem xd_wf_resume_10 : decode xb_wf_resume 10 = .ok (.aload_n 0, 1) := by decide +kernel
theorem xd_wf_resume_11 : decode xb_wf_resume 11 = .ok (.getfield 71, 3) := by decide +kernel
theorem xd_wf_resume_14 : decode xb_wf_resume 14 = .ok (.ifCond .ne 31, 3) := by decide +kernel
theorem xd_wf_resume_17 : decode xb_wf_resume 17 = .ok (.aload_n 0, 1) := by decide +kernel
theorem xd_wf_resume_18 : decode xb_wf_resume 18 = .ok (.getfield 74, 3) := by decide +kernel
theorem xd_wf_resume_21 : decode xb_wf_resume 21 = .ok (.iconst 2, 1) := by decide +kernel
theorem xd_wf_resume_22 : decode xb_wf_resume 22 = .ok (.if_icmp .eq 13, 3) := by decide +kernel
theorem xd_wf_resume_25 : decode xb_wf_resume 25 = .ok (.aload_n 0, 1) := by decide +kernel
theorem xd_wf_resume_26 : decode xb_wf_resume 26 = .ok (.getfield 9, 3) := by decide +kernel
theorem xd_wf_resume_29 : decode xb_wf_resume 29 = .ok (.aload_n 0, 1) := by decide +kernel
theorem xd_wf_resume_30 : decode xb_wf_resume 30 = .ok (.getfield 112, 3) := by decide +kernel
theorem xd_wf_resume_33 : decode xb_wf_resume 33 = .ok (.iload_n 2, 1) := by decide +kernel
theorem xd_wf_resume_34 : decode xb_wf_resume 34 = .ok (.iastore, 1) := by decide +kernel
theorem xd_wf_resume_35 : decode xb_wf_resume 35 = .ok (.aload_n 0, 1) := by decide +kernel
theorem xd_wf_resume_36 : decode xb_wf_resume 36 = .ok (.dup, 1) := by decide +kernel
theorem xd_wf_resume_37 : decode xb_wf_resume 37 = .ok (.getfield 77, 3) := by decide +kernel
theorem xd_wf_resume_40 : decode xb_wf_resume 40 = .ok (.iconst 1, 1) := by decide +kernel
theorem xd_wf_resume_41 : decode xb_wf_resume 41 = .ok (.iadd, 1) := by decide +kernel
theorem xd_wf_resume_42 : decode xb_wf_resume 42 = .ok (.putfield 77, 3) := by decide +kernel
theorem xd_wf_resume_45 : decode xb_wf_resume 45 = .ok (.aload_n 0, 1) := by decide +kernel
theorem xd_wf_resume_46 : decode xb_wf_resume 46 = .ok (.iconst 0, 1) := by decide +kernel
theorem xd_wf_resume_47 : decode xb_wf_resume 47 = .ok (.putfield 74, 3) := by decide +kernel
theorem xd_wf_resume_50 : decode xb_wf_resume 50 = .ok (.return_, 1) := by decide +kernel
theorem xd_wf_note_0 : decode xb_wf_note 0 = .ok (.aload_n 0, 1) := by decide +kernel
theorem xd_wf_note_1 : decode xb_wf_note 1 = .ok (.getfield 32, 3) := by decide +kernel
theorem xd_wf_note_4 : decode xb_wf_note 4 = .ok (.getfield 83, 3) := by decide +kernel
theorem xd_wf_note_7 : decode xb_wf_note 7 = .ok (.bipush 6, 2) := by decide +kernel
theorem xd_wf_note_9 : decode xb_wf_note 9 = .ok (.if_icmp .lt 10, 3) := by decide +kernel
theorem xd_wf_note_12 : decode xb_wf_note 12 = .ok (.aload_n 0, 1) := by decide +kernel
theorem xd_wf_note_13 : decode xb_wf_note 13 = .ok (.bipush 7, 2) := by decide +kernel
theorem xd_wf_note_15 : decode xb_wf_note 15 = .ok (.putfield 74, 3) := by decide +kernel
theorem xd_wf_note_18 : decode xb_wf_note 18 = .ok (.return_, 1) := by decide +kernel
theorem xd_wf_note_19 : decode xb_wf_note 19 = .ok (.aload_n 0, 1) := by decide +kernel
theorem xd_wf_note_20 : decode xb_wf_note 20 = .ok (.getfield 32, 3) := by decide +kernel
theorem xd_wf_note_23 : decode xb_wf_note 23 = .ok (.getfield 115, 3) := by decide +kernel
theorem xd_wf_note_26 : decode xb_wf_note 26 = .ok (.aload_n 0, 1) := by decide +kernel
theorem xd_wf_note_27 : decode xb_wf_note 27 = .ok (.getfield 32, 3) := by decide +kernel
theorem xd_wf_note_30 : decode xb_wf_note 30 = .ok (.getfield 83, 3) := by decide +kernel
theorem xd_wf_note_33 : decode xb_wf_note 33 = .ok (.iload_n 1, 1) := by decide +kernel
theorem xd_wf_note_34 : decode xb_wf_note 34 = .ok (.iastore, 1) := by decide +kernel
theorem xd_wf_note_35 : decode xb_wf_note 35 = .ok (.aload_n 0, 1) := by decide +kernel
theorem xd_wf_note_36 : decode xb_wf_note 36 = .ok (.getfield 32, 3) := by decide +kernel
theorem xd_wf_note_39 : decode xb_wf_note 39 = .ok (.getfield 118, 3) := by decide +kernel
theorem xd_wf_note_42 : decode xb_wf_note 42 = .ok (.aload_n 0, 1) := by decide +kernel
theorem xd_wf_note_43 : decode xb_wf_note 43 = .ok (.getfield 32, 3) := by decide +kernel
theorem xd_wf_note_46 : decode xb_wf_note 46 = .ok (.getfield 83, 3) := by decide +kernel
theorem xd_wf_note_49 : decode xb_wf_note 49 = .ok (.iload_n 2, 1) := by decide +kernel
theorem xd_wf_note_50 : decode xb_wf_note 50 = .ok (.iastore, 1) := by decide +kernel
theorem xd_wf_note_51 : decode xb_wf_note 51 = .ok (.aload_n 0, 1) := by decide +kernel
theorem xd_wf_note_52 : decode xb_wf_note 52 = .ok (.getfield 32, 3) := by decide +kernel
theorem xd_wf_note_55 : decode xb_wf_note 55 = .ok (.dup, 1) := by decide +kernel
theorem xd_wf_note_56 : decode xb_wf_note 56 = .ok (.getfield 83, 3) := by decide +kernel
theorem xd_wf_note_59 : decode xb_wf_note 59 = .ok (.iconst 1, 1) := by decide +kernel
theorem xd_wf_note_60 : decode xb_wf_note 60 = .ok (.iadd, 1) := by decide +kernel
theorem xd_wf_note_61 : decode xb_wf_note 61 = .ok (.putfield 83, 3) := by decide +kernel
theorem xd_wf_note_64 : decode xb_wf_note 64 = .ok (.aload_n 0, 1) := by decide +kernel
theorem xd_wf_note_65 : decode xb_wf_note 65 = .ok (.dup, 1) := by decide +kernel
theorem xd_wf_note_66 : decode xb_wf_note 66 = .ok (.getfield 77, 3) := by decide +kernel
theorem xd_wf_note_69 : decode xb_wf_note 69 = .ok (.iconst 1, 1) := by decide +kernel
theorem xd_wf_note_70 : decode xb_wf_note 70 = .ok (.iadd, 1) := by decide +kernel
theorem xd_wf_note_71 : decode xb_wf_note 71 = .ok (.putfield 77, 3) := by decide +kernel
theorem xd_wf_note_74 : decode xb_wf_note 74 = .ok (.return_, 1) := by decide +kernel
theorem xd_wf_compute_0 : decode xb_wf_compute 0 = .ok (.aload_n 0, 1) := by decide +kernel
theorem xd_wf_compute_1 : decode xb_wf_compute 1 = .ok (.getfield 77, 3) := by decide +kernel
theorem xd_wf_compute_4 : decode xb_wf_compute 4 = .ok (.iconst 1, 1) := by decide +kernel
theorem xd_wf_compute_5 : decode xb_wf_compute 5 = .ok (.iadd, 1) := by decide +kernel
theorem xd_wf_compute_6 : decode xb_wf_compute 6 = .ok (.istore 4, 2) := by decide +kernel
theorem xd_wf_compute_8 : decode xb_wf_compute 8 = .ok (.iload_n 1, 1) := by decide +kernel
theorem xd_wf_compute_9 : decode xb_wf_compute 9 = .ok (.tableswitch 118 0 4 #[35, 45, 63, 92, 98], 35) := by decide +kernel
theorem xd_wf_compute_44 : decode xb_wf_compute 44 = .ok (.aload_n 0, 1) := by decide +kernel
theorem xd_wf_compute_45 : decode xb_wf_compute 45 = .ok (.getfield 9, 3) := by decide +kernel
theorem xd_wf_compute_48 : decode xb_wf_compute 48 = .ok (.iload_n 2, 1) := by decide +kernel
theorem xd_wf_compute_49 : decode xb_wf_compute 49 = .ok (.iload_n 3, 1) := by decide +kernel
theorem xd_wf_compute_50 : decode xb_wf_compute 50 = .ok (.iastore, 1) := by decide +kernel
theorem xd_wf_compute_51 : decode xb_wf_compute 51 = .ok (.goto 76, 3) := by decide +kernel
theorem xd_wf_compute_54 : decode xb_wf_compute 54 = .ok (.aload_n 0, 1) := by decide +kernel
theorem xd_wf_compute_55 : decode xb_wf_compute 55 = .ok (.getfield 9, 3) := by decide +kernel
theorem xd_wf_compute_58 : decode xb_wf_compute 58 = .ok (.iload_n 2, 1) := by decide +kernel
theorem xd_wf_compute_59 : decode xb_wf_compute 59 = .ok (.dup2, 1) := by decide +kernel
theorem xd_wf_compute_60 : decode xb_wf_compute 60 = .ok (.iaload, 1) := by decide +kernel
theorem xd_wf_compute_61 : decode xb_wf_compute 61 = .ok (.aload_n 0, 1) := by decide +kernel
theorem xd_wf_compute_62 : decode xb_wf_compute 62 = .ok (.getfield 9, 3) := by decide +kernel
theorem xd_wf_compute_65 : decode xb_wf_compute 65 = .ok (.iload_n 3, 1) := by decide +kernel
theorem xd_wf_compute_66 : decode xb_wf_compute 66 = .ok (.iaload, 1) := by decide +kernel
theorem xd_wf_compute_67 : decode xb_wf_compute 67 = .ok (.iadd, 1) := by decide +kernel
theorem xd_wf_compute_68 : decode xb_wf_compute 68 = .ok (.iastore, 1) := by decide +kernel
theorem xd_wf_compute_69 : decode xb_wf_compute 69 = .ok (.goto 58, 3) := by decide +kernel
theorem xd_wf_compute_72 : decode xb_wf_compute 72 = .ok (.aload_n 0, 1) := by decide +kernel
theorem xd_wf_compute_73 : decode xb_wf_compute 73 = .ok (.getfield 9, 3) := by decide +kernel
theorem xd_wf_compute_76 : decode xb_wf_compute 76 = .ok (.iload_n 2, 1) := by decide +kernel
theorem xd_wf_compute_77 : decode xb_wf_compute 77 = .ok (.aload_n 0, 1) := by decide +kernel
theorem xd_wf_compute_78 : decode xb_wf_compute 78 = .ok (.getfield 9, 3) := by decide +kernel
theorem xd_wf_compute_81 : decode xb_wf_compute 81 = .ok (.iload_n 2, 1) := by decide +kernel
theorem xd_wf_compute_82 : decode xb_wf_compute 82 = .ok (.iaload, 1) := by decide +kernel
theorem xd_wf_compute_83 : decode xb_wf_compute 83 = .ok (.aload_n 0, 1) := by decide +kernel
theorem xd_wf_compute_84 : decode xb_wf_compute 84 = .ok (.getfield 9, 3) := by decide +kernel
theorem xd_wf_compute_87 : decode xb_wf_compute 87 = .ok (.iload_n 3, 1) := by decide +kernel
theorem xd_wf_compute_88 : decode xb_wf_compute 88 = .ok (.iaload, 1) := by decide +kernel
theorem xd_wf_compute_89 : decode xb_wf_compute 89 = .ok (.if_icmp .ge 7, 3) := by decide +kernel
theorem xd_wf_compute_92 : decode xb_wf_compute 92 = .ok (.iconst 1, 1) := by decide +kernel
theorem xd_wf_compute_93 : decode xb_wf_compute 93 = .ok (.goto 4, 3) := by decide +kernel
theorem xd_wf_compute_96 : decode xb_wf_compute 96 = .ok (.iconst 0, 1) := by decide +kernel
theorem xd_wf_compute_97 : decode xb_wf_compute 97 = .ok (.iastore, 1) := by decide +kernel
theorem xd_wf_compute_98 : decode xb_wf_compute 98 = .ok (.goto 29, 3) := by decide +kernel
theorem xd_wf_compute_101 : decode xb_wf_compute 101 = .ok (.iload_n 2, 1) := by decide +kernel
theorem xd_wf_compute_102 : decode xb_wf_compute 102 = .ok (.istore 4, 2) := by decide +kernel
theorem xd_wf_compute_104 : decode xb_wf_compute 104 = .ok (.goto 23, 3) := by decide +kernel
theorem xd_wf_compute_107 : decode xb_wf_compute 107 = .ok (.aload_n 0, 1) := by decide +kernel
theorem xd_wf_compute_108 : decode xb_wf_compute 108 = .ok (.getfield 9, 3) := by decide +kernel
theorem xd_wf_compute_111 : decode xb_wf_compute 111 = .ok (.iload_n 2, 1) := by decide +kernel
theorem xd_wf_compute_112 : decode xb_wf_compute 112 = .ok (.iaload, 1) := by decide +kernel
theorem xd_wf_compute_113 : decode xb_wf_compute 113 = .ok (.ifCond .ne 7, 3) := by decide +kernel
theorem xd_wf_compute_116 : decode xb_wf_compute 116 = .ok (.iload_n 3, 1) := by decide +kernel
theorem xd_wf_compute_117 : decode xb_wf_compute 117 = .ok (.goto 5, 3) := by decide +kernel
theorem xd_wf_compute_120 : decode xb_wf_compute 120 = .ok (.iload 4, 2) := by decide +kernel
theorem xd_wf_compute_122 : decode xb_wf_compute 122 = .ok (.istore 4, 2) := by decide +kernel
theorem xd_wf_compute_124 : decode xb_wf_compute 124 = .ok (.goto 3, 3) := by decide +kernel
theorem xd_wf_compute_127 : decode xb_wf_compute 127 = .ok (.aload_n 0, 1) := by decide +kernel
theorem xd_wf_compute_128 : decode xb_wf_compute 128 = .ok (.iload 4, 2) := by decide +kernel
theorem xd_wf_compute_130 : decode xb_wf_compute 130 = .ok (.putfield 77, 3) := by decide +kernel
theorem xd_wf_compute_133 : decode xb_wf_compute 133 = .ok (.return_, 1) := by decide +kernel
theorem xd_wf_meetNext_0 : decode xb_wf_meetNext 0 = .ok (.aload_n 0, 1) := by decide +kernel
theorem xd_wf_meetNext_1 : decode xb_wf_meetNext 1 = .ok (.getfield 18, 3) := by decide +kernel
theorem xd_wf_meetNext_4 : decode xb_wf_meetNext 4 = .ok (.getfield 58, 3) := by decide +kernel
theorem xd_wf_meetNext_7 : decode xb_wf_meetNext 7 = .ok (.istore_n 1, 1) := by decide +kernel
theorem xd_wf_meetNext_8 : decode xb_wf_meetNext 8 = .ok (.aload_n 0, 1) := by decide +kernel
theorem xd_wf_meetNext_9 : decode xb_wf_meetNext 9 = .ok (.getfield 74, 3) := by decide +kernel
theorem xd_wf_meetNext_12 : decode xb_wf_meetNext 12 = .ok (.ifCond .eq 21, 3) := by decide +kernel
theorem xd_wf_meetNext_15 : decode xb_wf_meetNext 15 = .ok (.aload_n 0, 1) := by decide +kernel
theorem xd_wf_meetNext_16 : decode xb_wf_meetNext 16 = .ok (.invokevirtual 87, 3) := by decide +kernel
theorem xd_wf_meetNext_19 : decode xb_wf_meetNext 19 = .ok (.ifCond .ne 14, 3) := by decide +kernel
theorem xd_wf_meetNext_22 : decode xb_wf_meetNext 22 = .ok (.iload_n 1, 1) := by decide +kernel
theorem xd_wf_meetNext_23 : decode xb_wf_meetNext 23 = .ok (.aload_n 0, 1) := by decide +kernel
theorem xd_wf_meetNext_24 : decode xb_wf_meetNext 24 = .ok (.getfield 18, 3) := by decide +kernel
theorem xd_wf_meetNext_27 : decode xb_wf_meetNext 27 = .ok (.getfield 57, 3) := by decide +kernel
theorem xd_wf_meetNext_30 : decode xb_wf_meetNext 30 = .ok (.if_icmp .lt 4, 3) := by decide +kernel
theorem xd_wf_meetNext_33 : decode xb_wf_meetNext 33 = .ok (.return_, 1) := by decide +kernel
theorem xd_wf_meetNext_34 : decode xb_wf_meetNext 34 = .ok (.aload_n 0, 1) := by decide +kernel
theorem xd_wf_meetNext_35 : decode xb_wf_meetNext 35 = .ok (.aload_n 0, 1) := by decide +kernel
theorem xd_wf_meetNext_36 : decode xb_wf_meetNext 36 = .ok (.getfield 18, 3) := by decide +kernel
theorem xd_wf_meetNext_39 : decode xb_wf_meetNext 39 = .ok (.getfield 98, 3) := by decide +kernel
theorem xd_wf_meetNext_42 : decode xb_wf_meetNext 42 = .ok (.iload_n 1, 1) := by decide +kernel
theorem xd_wf_meetNext_43 : decode xb_wf_meetNext 43 = .ok (.iaload, 1) := by decide +kernel
theorem xd_wf_meetNext_44 : decode xb_wf_meetNext 44 = .ok (.aload_n 0, 1) := by decide +kernel
theorem xd_wf_meetNext_45 : decode xb_wf_meetNext 45 = .ok (.getfield 18, 3) := by decide +kernel
theorem xd_wf_meetNext_48 : decode xb_wf_meetNext 48 = .ok (.getfield 101, 3) := by decide +kernel
theorem xd_wf_meetNext_51 : decode xb_wf_meetNext 51 = .ok (.iload_n 1, 1) := by decide +kernel
theorem xd_wf_meetNext_52 : decode xb_wf_meetNext 52 = .ok (.iaload, 1) := by decide +kernel
theorem xd_wf_meetNext_53 : decode xb_wf_meetNext 53 = .ok (.invokevirtual 104, 3) := by decide +kernel
theorem xd_wf_meetNext_56 : decode xb_wf_meetNext 56 = .ok (.ifCond .ne 10, 3) := by decide +kernel
theorem xd_wf_meetNext_59 : decode xb_wf_meetNext 59 = .ok (.aload_n 0, 1) := by decide +kernel
theorem xd_wf_meetNext_60 : decode xb_wf_meetNext 60 = .ok (.bipush 7, 2) := by decide +kernel
theorem xd_wf_meetNext_62 : decode xb_wf_meetNext 62 = .ok (.putfield 74, 3) := by decide +kernel
theorem xd_wf_meetNext_65 : decode xb_wf_meetNext 65 = .ok (.return_, 1) := by decide +kernel
theorem xd_wf_meetNext_66 : decode xb_wf_meetNext 66 = .ok (.aload_n 0, 1) := by decide +kernel
theorem xd_wf_meetNext_67 : decode xb_wf_meetNext 67 = .ok (.getfield 18, 3) := by decide +kernel
theorem xd_wf_meetNext_70 : decode xb_wf_meetNext 70 = .ok (.dup, 1) := by decide +kernel
theorem xd_wf_meetNext_71 : decode xb_wf_meetNext 71 = .ok (.getfield 58, 3) := by decide +kernel
theorem xd_wf_meetNext_74 : decode xb_wf_meetNext 74 = .ok (.iconst 1, 1) := by decide +kernel
theorem xd_wf_meetNext_75 : decode xb_wf_meetNext 75 = .ok (.iadd, 1) := by decide +kernel
theorem xd_wf_meetNext_76 : decode xb_wf_meetNext 76 = .ok (.putfield 58, 3) := by decide +kernel
theorem xd_wf_meetNext_79 : decode xb_wf_meetNext 79 = .ok (.aload_n 0, 1) := by decide +kernel
theorem xd_wf_meetNext_80 : decode xb_wf_meetNext 80 = .ok (.iconst 0, 1) := by decide +kernel
theorem xd_wf_meetNext_81 : decode xb_wf_meetNext 81 = .ok (.putfield 80, 3) := by decide +kernel
theorem xd_wf_meetNext_84 : decode xb_wf_meetNext 84 = .ok (.aload_n 0, 1) := by decide +kernel
theorem xd_wf_meetNext_85 : decode xb_wf_meetNext 85 = .ok (.aload_n 0, 1) := by decide +kernel
theorem xd_wf_meetNext_86 : decode xb_wf_meetNext 86 = .ok (.getfield 18, 3) := by decide +kernel
theorem xd_wf_meetNext_89 : decode xb_wf_meetNext 89 = .ok (.getfield 98, 3) := by decide +kernel
theorem xd_wf_meetNext_92 : decode xb_wf_meetNext 92 = .ok (.iload_n 1, 1) := by decide +kernel
theorem xd_wf_meetNext_93 : decode xb_wf_meetNext 93 = .ok (.iaload, 1) := by decide +kernel
theorem xd_wf_meetNext_94 : decode xb_wf_meetNext 94 = .ok (.aload_n 0, 1) := by decide +kernel
theorem xd_wf_meetNext_95 : decode xb_wf_meetNext 95 = .ok (.getfield 18, 3) := by decide +kernel
theorem xd_wf_meetNext_98 : decode xb_wf_meetNext 98 = .ok (.getfield 84, 3) := by decide +kernel
theorem xd_wf_meetNext_101 : decode xb_wf_meetNext 101 = .ok (.iload_n 1, 1) := by decide +kernel
theorem xd_wf_meetNext_102 : decode xb_wf_meetNext 102 = .ok (.iaload, 1) := by decide +kernel
theorem xd_wf_meetNext_103 : decode xb_wf_meetNext 103 = .ok (.invokevirtual 108, 3) := by decide +kernel
theorem xd_wf_meetNext_106 : decode xb_wf_meetNext 106 = .ok (.return_, 1) := by decide +kernel
theorem xd_wf_waitsFor_0 : decode xb_wf_waitsFor 0 = .ok (.aload_n 0, 1) := by decide +kernel
theorem xd_wf_waitsFor_1 : decode xb_wf_waitsFor 1 = .ok (.getfield 74, 3) := by decide +kernel
theorem xd_wf_waitsFor_4 : decode xb_wf_waitsFor 4 = .ok (.tableswitch 88 1 4 #[32, 56, 68, 32], 32) := by decide +kernel
theorem xd_wf_waitsFor_36 : decode xb_wf_waitsFor 36 = .ok (.iload_n 1, 1) := by decide +kernel
theorem xd_wf_waitsFor_37 : decode xb_wf_waitsFor 37 = .ok (.iconst 3, 1) := by decide +kernel
theorem xd_wf_waitsFor_38 : decode xb_wf_waitsFor 38 = .ok (.if_icmp .eq 8, 3) := by decide +kernel
theorem xd_wf_waitsFor_41 : decode xb_wf_waitsFor 41 = .ok (.iload_n 1, 1) := by decide +kernel
theorem xd_wf_waitsFor_42 : decode xb_wf_waitsFor 42 = .ok (.iconst 4, 1) := by decide +kernel
theorem xd_wf_waitsFor_43 : decode xb_wf_waitsFor 43 = .ok (.if_icmp .ne 15, 3) := by decide +kernel
theorem xd_wf_waitsFor_46 : decode xb_wf_waitsFor 46 = .ok (.iload_n 2, 1) := by decide +kernel
theorem xd_wf_waitsFor_47 : decode xb_wf_waitsFor 47 = .ok (.aload_n 0, 1) := by decide +kernel
theorem xd_wf_waitsFor_48 : decode xb_wf_waitsFor 48 = .ok (.getfield 95, 3) := by decide +kernel
theorem xd_wf_waitsFor_51 : decode xb_wf_waitsFor 51 = .ok (.if_icmp .ne 7, 3) := by decide +kernel
theorem xd_wf_waitsFor_54 : decode xb_wf_waitsFor 54 = .ok (.iconst 1, 1) := by decide +kernel
theorem xd_wf_waitsFor_55 : decode xb_wf_waitsFor 55 = .ok (.goto 4, 3) := by decide +kernel
theorem xd_wf_waitsFor_58 : decode xb_wf_waitsFor 58 = .ok (.iconst 0, 1) := by decide +kernel
theorem xd_wf_waitsFor_59 : decode xb_wf_waitsFor 59 = .ok (.ireturn, 1) := by decide +kernel
theorem xd_wf_waitsFor_60 : decode xb_wf_waitsFor 60 = .ok (.iload_n 1, 1) := by decide +kernel
theorem xd_wf_waitsFor_61 : decode xb_wf_waitsFor 61 = .ok (.bipush 6, 2) := by decide +kernel
theorem xd_wf_waitsFor_63 : decode xb_wf_waitsFor 63 = .ok (.if_icmp .ne 7, 3) := by decide +kernel
theorem xd_wf_waitsFor_66 : decode xb_wf_waitsFor 66 = .ok (.iconst 1, 1) := by decide +kernel
theorem xd_wf_waitsFor_67 : decode xb_wf_waitsFor 67 = .ok (.goto 4, 3) := by decide +kernel
theorem xd_wf_waitsFor_70 : decode xb_wf_waitsFor 70 = .ok (.iconst 0, 1) := by decide +kernel
theorem xd_wf_waitsFor_71 : decode xb_wf_waitsFor 71 = .ok (.ireturn, 1) := by decide +kernel
theorem xd_wf_waitsFor_72 : decode xb_wf_waitsFor 72 = .ok (.iload_n 1, 1) := by decide +kernel
theorem xd_wf_waitsFor_73 : decode xb_wf_waitsFor 73 = .ok (.bipush 7, 2) := by decide +kernel
theorem xd_wf_waitsFor_75 : decode xb_wf_waitsFor 75 = .ok (.if_icmp .ne 15, 3) := by decide +kernel
theorem xd_wf_waitsFor_78 : decode xb_wf_waitsFor 78 = .ok (.iload_n 2, 1) := by decide +kernel
theorem xd_wf_waitsFor_79 : decode xb_wf_waitsFor 79 = .ok (.aload_n 0, 1) := by decide +kernel
theorem xd_wf_waitsFor_80 : decode xb_wf_waitsFor 80 = .ok (.getfield 95, 3) := by decide +kernel
theorem xd_wf_waitsFor_83 : decode xb_wf_waitsFor 83 = .ok (.if_icmp .ne 7, 3) := by decide +kernel
theorem xd_wf_waitsFor_86 : decode xb_wf_waitsFor 86 = .ok (.iconst 1, 1) := by decide +kernel
theorem xd_wf_waitsFor_87 : decode xb_wf_waitsFor 87 = .ok (.goto 4, 3) := by decide +kernel
theorem xd_wf_waitsFor_90 : decode xb_wf_waitsFor 90 = .ok (.iconst 0, 1) := by decide +kernel
theorem xd_wf_waitsFor_91 : decode xb_wf_waitsFor 91 = .ok (.ireturn, 1) := by decide +kernel
theorem xd_wf_waitsFor_92 : decode xb_wf_waitsFor 92 = .ok (.iconst 0, 1) := by decide +kernel
theorem xd_wf_waitsFor_93 : decode xb_wf_waitsFor 93 = .ok (.ireturn, 1) := by decide +kernel
theorem xd_wf_hasSlept_0 : decode xb_wf_hasSlept 0 = .ok (.aload_n 0, 1) := by decide +kernel
theorem xd_wf_hasSlept_1 : decode xb_wf_hasSlept 1 = .ok (.getfield 47, 3) := by decide +kernel
theorem xd_wf_hasSlept_4 : decode xb_wf_hasSlept 4 = .ok (.ifCond .eq 25, 3) := by decide +kernel
theorem xd_wf_hasSlept_7 : decode xb_wf_hasSlept 7 = .ok (.aload_n 0, 1) := by decide +kernel
theorem xd_wf_hasSlept_8 : decode xb_wf_hasSlept 8 = .ok (.getfield 74, 3) := by decide +kernel
theorem xd_wf_hasSlept_11 : decode xb_wf_hasSlept 11 = .ok (.iconst 2, 1) := by decide +kernel
theorem xd_wf_hasSlept_12 : decode xb_wf_hasSlept 12 = .ok (.if_icmp .ne 17, 3) := by decide +kernel
theorem xd_wf_hasSlept_15 : decode xb_wf_hasSlept 15 = .ok (.aload_n 0, 1) := by decide +kernel
theorem xd_wf_hasSlept_16 : decode xb_wf_hasSlept 16 = .ok (.getfield 91, 3) := by decide +kernel
theorem xd_wf_hasSlept_19 : decode xb_wf_hasSlept 19 = .ok (.iload_n 1, 1) := by decide +kernel
theorem xd_wf_hasSlept_20 : decode xb_wf_hasSlept 20 = .ok (.i2l, 1) := by decide +kernel
theorem xd_wf_hasSlept_21 : decode xb_wf_hasSlept 21 = .ok (.lcmp, 1) := by decide +kernel
theorem xd_wf_hasSlept_22 : decode xb_wf_hasSlept 22 = .ok (.ifCond .gt 7, 3) := by decide +kernel
theorem xd_wf_hasSlept_25 : decode xb_wf_hasSlept 25 = .ok (.iconst 1, 1) := by decide +kernel
theorem xd_wf_hasSlept_26 : decode xb_wf_hasSlept 26 = .ok (.goto 4, 3) := by decide +kernel
theorem xd_wf_hasSlept_29 : decode xb_wf_hasSlept 29 = .ok (.iconst 0, 1) := by decide +kernel
theorem xd_wf_hasSlept_30 : decode xb_wf_hasSlept 30 = .ok (.ireturn, 1) := by decide +kernel
theorem xd_wf_isInMind_0 : decode xb_wf_isInMind 0 = .ok (.aload_n 0, 1) := by decide +kernel
theorem xd_wf_isInMind_1 : decode xb_wf_isInMind 1 = .ok (.getfield 68, 3) := by decide +kernel
theorem xd_wf_isInMind_4 : decode xb_wf_isInMind 4 = .ok (.ifCond .ne 14, 3) := by decide +kernel
theorem xd_wf_isInMind_7 : decode xb_wf_isInMind 7 = .ok (.aload_n 0, 1) := by decide +kernel
theorem xd_wf_isInMind_8 : decode xb_wf_isInMind 8 = .ok (.invokevirtual 87, 3) := by decide +kernel
theorem xd_wf_isInMind_11 : decode xb_wf_isInMind 11 = .ok (.ifCond .ne 7, 3) := by decide +kernel
theorem xd_wf_isInMind_14 : decode xb_wf_isInMind 14 = .ok (.iconst 1, 1) := by decide +kernel
theorem xd_wf_isInMind_15 : decode xb_wf_isInMind 15 = .ok (.goto 4, 3) := by decide +kernel
theorem xd_wf_isInMind_18 : decode xb_wf_isInMind 18 = .ok (.iconst 0, 1) := by decide +kernel
theorem xd_wf_isInMind_19 : decode xb_wf_isInMind 19 = .ok (.ireturn, 1) := by decide +kernel
