theorem md_fm_goOn_0 : decode mb_fm_goOn 0 = .ok (.aload_n 0, 1) := by decide +kernel
theorem md_fm_goOn_1 : decode mb_fm_goOn 1 = .ok (.getfield 38, 3) := by decide +kernel
theorem md_fm_goOn_4 : decode mb_fm_goOn 4 = .ok (.iload_n 1, 1) := by decide +kernel
theorem md_fm_goOn_5 : decode mb_fm_goOn 5 = .ok (.iaload, 1) := by decide +kernel
theorem md_fm_goOn_6 : decode mb_fm_goOn 6 = .ok (.iconst 5, 1) := by decide +kernel
theorem md_fm_goOn_7 : decode mb_fm_goOn 7 = .ok (.if_icmp .ge 120, 3) := by decide +kernel
theorem md_fm_goOn_10 : decode mb_fm_goOn 10 = .ok (.aload_n 0, 1) := by decide +kernel
theorem md_fm_goOn_11 : decode mb_fm_goOn 11 = .ok (.getfield 38, 3) := by decide +kernel
theorem md_fm_goOn_14 : decode mb_fm_goOn 14 = .ok (.iload_n 1, 1) := by decide +kernel
theorem md_fm_goOn_15 : decode mb_fm_goOn 15 = .ok (.iaload, 1) := by decide +kernel
theorem md_fm_goOn_16 : decode mb_fm_goOn 16 = .ok (.ifCond .ne 30, 3) := by decide +kernel
theorem md_fm_goOn_19 : decode mb_fm_goOn 19 = .ok (.aload_n 0, 1) := by decide +kernel
theorem md_fm_goOn_20 : decode mb_fm_goOn 20 = .ok (.getfield 44, 3) := by decide +kernel
theorem md_fm_goOn_23 : decode mb_fm_goOn 23 = .ok (.iload_n 1, 1) := by decide +kernel
theorem md_fm_goOn_24 : decode mb_fm_goOn 24 = .ok (.iaload, 1) := by decide +kernel
theorem md_fm_goOn_25 : decode mb_fm_goOn 25 = .ok (.bipush 60, 2) := by decide +kernel
theorem md_fm_goOn_27 : decode mb_fm_goOn 27 = .ok (.if_icmp .ne 11, 3) := by decide +kernel
theorem md_fm_goOn_30 : decode mb_fm_goOn 30 = .ok (.aload_n 0, 1) := by decide +kernel
theorem md_fm_goOn_31 : decode mb_fm_goOn 31 = .ok (.iload_n 1, 1) := by decide +kernel
theorem md_fm_goOn_32 : decode mb_fm_goOn 32 = .ok (.invokevirtual 147, 3) := by decide +kernel
theorem md_fm_goOn_35 : decode mb_fm_goOn 35 = .ok (.goto (-35), 3) := by decide +kernel
theorem md_fm_goOn_38 : decode mb_fm_goOn 38 = .ok (.aload_n 0, 1) := by decide +kernel
theorem md_fm_goOn_39 : decode mb_fm_goOn 39 = .ok (.iload_n 1, 1) := by decide +kernel
theorem md_fm_goOn_40 : decode mb_fm_goOn 40 = .ok (.invokevirtual 173, 3) := by decide +kernel
theorem md_fm_goOn_43 : decode mb_fm_goOn 43 = .ok (.goto (-43), 3) := by decide +kernel
theorem md_fm_goOn_46 : decode mb_fm_goOn 46 = .ok (.aload_n 0, 1) := by decide +kernel
theorem md_fm_goOn_47 : decode mb_fm_goOn 47 = .ok (.iload_n 1, 1) := by decide +kernel
theorem md_fm_goOn_48 : decode mb_fm_goOn 48 = .ok (.invokevirtual 139, 3) := by decide +kernel
theorem md_fm_goOn_51 : decode mb_fm_goOn 51 = .ok (.ifCond .ne 4, 3) := by decide +kernel
theorem md_fm_goOn_54 : decode mb_fm_goOn 54 = .ok (.return_, 1) := by decide +kernel
theorem md_fm_goOn_55 : decode mb_fm_goOn 55 = .ok (.bipush 20, 2) := by decide +kernel
theorem md_fm_goOn_57 : decode mb_fm_goOn 57 = .ok (.iload_n 1, 1) := by decide +kernel
theorem md_fm_goOn_58 : decode mb_fm_goOn 58 = .ok (.imul, 1) := by decide +kernel
theorem md_fm_goOn_59 : decode mb_fm_goOn 59 = .ok (.aload_n 0, 1) := by decide +kernel
theorem md_fm_goOn_60 : decode mb_fm_goOn 60 = .ok (.getfield 56, 3) := by decide +kernel
theorem md_fm_goOn_63 : decode mb_fm_goOn 63 = .ok (.iload_n 1, 1) := by decide +kernel
theorem md_fm_goOn_64 : decode mb_fm_goOn 64 = .ok (.iaload, 1) := by decide +kernel
theorem md_fm_goOn_65 : decode mb_fm_goOn 65 = .ok (.iadd, 1) := by decide +kernel
theorem md_fm_goOn_66 : decode mb_fm_goOn 66 = .ok (.istore_n 2, 1) := by decide +kernel
theorem md_fm_goOn_67 : decode mb_fm_goOn 67 = .ok (.aload_n 0, 1) := by decide +kernel
theorem md_fm_goOn_68 : decode mb_fm_goOn 68 = .ok (.iload_n 1, 1) := by decide +kernel
theorem md_fm_goOn_69 : decode mb_fm_goOn 69 = .ok (.aload_n 0, 1) := by decide +kernel
theorem md_fm_goOn_70 : decode mb_fm_goOn 70 = .ok (.getfield 59, 3) := by decide +kernel
theorem md_fm_goOn_73 : decode mb_fm_goOn 73 = .ok (.iload_n 2, 1) := by decide +kernel
theorem md_fm_goOn_74 : decode mb_fm_goOn 74 = .ok (.iaload, 1) := by decide +kernel
theorem md_fm_goOn_75 : decode mb_fm_goOn 75 = .ok (.aload_n 0, 1) := by decide +kernel
theorem md_fm_goOn_76 : decode mb_fm_goOn 76 = .ok (.getfield 62, 3) := by decide +kernel
theorem md_fm_goOn_79 : decode mb_fm_goOn 79 = .ok (.iload_n 2, 1) := by decide +kernel
theorem md_fm_goOn_80 : decode mb_fm_goOn 80 = .ok (.iaload, 1) := by decide +kernel
theorem md_fm_goOn_81 : decode mb_fm_goOn 81 = .ok (.invokevirtual 176, 3) := by decide +kernel
theorem md_fm_goOn_84 : decode mb_fm_goOn 84 = .ok (.istore_n 3, 1) := by decide +kernel
theorem md_fm_goOn_85 : decode mb_fm_goOn 85 = .ok (.iload_n 3, 1) := by decide +kernel
theorem md_fm_goOn_86 : decode mb_fm_goOn 86 = .ok (.ifCond .eq 33, 3) := by decide +kernel
theorem md_fm_goOn_89 : decode mb_fm_goOn 89 = .ok (.aload_n 0, 1) := by decide +kernel
theorem md_fm_goOn_90 : decode mb_fm_goOn 90 = .ok (.getfield 56, 3) := by decide +kernel
theorem md_fm_goOn_93 : decode mb_fm_goOn 93 = .ok (.iload_n 1, 1) := by decide +kernel
theorem md_fm_goOn_94 : decode mb_fm_goOn 94 = .ok (.dup2, 1) := by decide +kernel
theorem md_fm_goOn_95 : decode mb_fm_goOn 95 = .ok (.iaload, 1) := by decide +kernel
theorem md_fm_goOn_96 : decode mb_fm_goOn 96 = .ok (.iconst 1, 1) := by decide +kernel
theorem md_fm_goOn_97 : decode mb_fm_goOn 97 = .ok (.iadd, 1) := by decide +kernel
theorem md_fm_goOn_98 : decode mb_fm_goOn 98 = .ok (.iastore, 1) := by decide +kernel
theorem md_fm_goOn_99 : decode mb_fm_goOn 99 = .ok (.aload_n 0, 1) := by decide +kernel
theorem md_fm_goOn_100 : decode mb_fm_goOn 100 = .ok (.iload_n 1, 1) := by decide +kernel
theorem md_fm_goOn_101 : decode mb_fm_goOn 101 = .ok (.aload_n 0, 1) := by decide +kernel
theorem md_fm_goOn_102 : decode mb_fm_goOn 102 = .ok (.getfield 59, 3) := by decide +kernel
theorem md_fm_goOn_105 : decode mb_fm_goOn 105 = .ok (.iload_n 2, 1) := by decide +kernel
theorem md_fm_goOn_106 : decode mb_fm_goOn 106 = .ok (.iaload, 1) := by decide +kernel
theorem md_fm_goOn_107 : decode mb_fm_goOn 107 = .ok (.aload_n 0, 1) := by decide +kernel
theorem md_fm_goOn_108 : decode mb_fm_goOn 108 = .ok (.getfield 65, 3) := by decide +kernel
theorem md_fm_goOn_111 : decode mb_fm_goOn 111 = .ok (.iload_n 2, 1) := by decide +kernel
theorem md_fm_goOn_112 : decode mb_fm_goOn 112 = .ok (.iaload, 1) := by decide +kernel
theorem md_fm_goOn_113 : decode mb_fm_goOn 113 = .ok (.invokevirtual 179, 3) := by decide +kernel
theorem md_fm_goOn_116 : decode mb_fm_goOn 116 = .ok (.goto 8, 3) := by decide +kernel
theorem md_fm_goOn_119 : decode mb_fm_goOn 119 = .ok (.aload_n 0, 1) := by decide +kernel
theorem md_fm_goOn_120 : decode mb_fm_goOn 120 = .ok (.iload_n 1, 1) := by decide +kernel
theorem md_fm_goOn_121 : decode mb_fm_goOn 121 = .ok (.invokevirtual 147, 3) := by decide +kernel
theorem md_fm_goOn_124 : decode mb_fm_goOn 124 = .ok (.goto (-124), 3) := by decide +kernel
theorem md_fm_goOn_127 : decode mb_fm_goOn 127 = .ok (.return_, 1) := by decide +kernel
theorem md_fm_breakUp_0 : decode mb_fm_breakUp 0 = .ok (.aload_n 0, 1) := by decide +kernel
theorem md_fm_breakUp_1 : decode mb_fm_breakUp 1 = .ok (.getfield 56, 3) := by decide +kernel
theorem md_fm_breakUp_4 : decode mb_fm_breakUp 4 = .ok (.iload_n 1, 1) := by decide +kernel
theorem md_fm_breakUp_5 : decode mb_fm_breakUp 5 = .ok (.aload_n 0, 1) := by decide +kernel
theorem md_fm_breakUp_6 : decode mb_fm_breakUp 6 = .ok (.getfield 53, 3) := by decide +kernel
theorem md_fm_breakUp_9 : decode mb_fm_breakUp 9 = .ok (.iload_n 1, 1) := by decide +kernel
theorem md_fm_breakUp_10 : decode mb_fm_breakUp 10 = .ok (.iaload, 1) := by decide +kernel
theorem md_fm_breakUp_11 : decode mb_fm_breakUp 11 = .ok (.iastore, 1) := by decide +kernel
theorem md_fm_breakUp_12 : decode mb_fm_breakUp 12 = .ok (.aload_n 0, 1) := by decide +kernel
theorem md_fm_breakUp_13 : decode mb_fm_breakUp 13 = .ok (.iload_n 1, 1) := by decide +kernel
theorem md_fm_breakUp_14 : decode mb_fm_breakUp 14 = .ok (.bipush 7, 2) := by decide +kernel
theorem md_fm_breakUp_16 : decode mb_fm_breakUp 16 = .ok (.invokevirtual 143, 3) := by decide +kernel
theorem md_fm_breakUp_19 : decode mb_fm_breakUp 19 = .ok (.return_, 1) := by decide +kernel
theorem md_fm_end_0 : decode mb_fm_end 0 = .ok (.aload_n 0, 1) := by decide +kernel
theorem md_fm_end_1 : decode mb_fm_end 1 = .ok (.iload_n 1, 1) := by decide +kernel
theorem md_fm_end_2 : decode mb_fm_end 2 = .ok (.invokevirtual 139, 3) := by decide +kernel
theorem md_fm_end_5 : decode mb_fm_end 5 = .ok (.ifCond .le 8, 3) := by decide +kernel
theorem md_fm_end_8 : decode mb_fm_end 8 = .ok (.bipush 7, 2) := by decide +kernel
theorem md_fm_end_10 : decode mb_fm_end 10 = .ok (.goto 4, 3) := by decide +kernel
theorem md_fm_end_13 : decode mb_fm_end 13 = .ok (.iload_n 2, 1) := by decide +kernel
theorem md_fm_end_14 : decode mb_fm_end 14 = .ok (.istore_n 3, 1) := by decide +kernel
theorem md_fm_end_15 : decode mb_fm_end 15 = .ok (.aload_n 0, 1) := by decide +kernel
theorem md_fm_end_16 : decode mb_fm_end 16 = .ok (.getfield 38, 3) := by decide +kernel
theorem md_fm_end_19 : decode mb_fm_end 19 = .ok (.iload_n 1, 1) := by decide +kernel
theorem md_fm_end_20 : decode mb_fm_end 20 = .ok (.iload_n 3, 1) := by decide +kernel
theorem md_fm_end_21 : decode mb_fm_end 21 = .ok (.iastore, 1) := by decide +kernel
theorem md_fm_end_22 : decode mb_fm_end 22 = .ok (.aload_n 0, 1) := by decide +kernel
theorem md_fm_end_23 : decode mb_fm_end 23 = .ok (.getfield 108, 3) := by decide +kernel
theorem md_fm_end_26 : decode mb_fm_end 26 = .ok (.iconst 2, 1) := by decide +kernel
theorem md_fm_end_27 : decode mb_fm_end 27 = .ok (.iload_n 3, 1) := by decide +kernel
theorem md_fm_end_28 : decode mb_fm_end 28 = .ok (.iadd, 1) := by decide +kernel
theorem md_fm_end_29 : decode mb_fm_end 29 = .ok (.dup2, 1) := by decide +kernel
theorem md_fm_end_30 : decode mb_fm_end 30 = .ok (.iaload, 1) := by decide +kernel
theorem md_fm_end_31 : decode mb_fm_end 31 = .ok (.iconst 1, 1) := by decide +kernel
theorem md_fm_end_32 : decode mb_fm_end 32 = .ok (.iadd, 1) := by decide +kernel
theorem md_fm_end_33 : decode mb_fm_end 33 = .ok (.iastore, 1) := by decide +kernel
theorem md_fm_end_34 : decode mb_fm_end 34 = .ok (.aload_n 0, 1) := by decide +kernel
theorem md_fm_end_35 : decode mb_fm_end 35 = .ok (.iload_n 1, 1) := by decide +kernel
theorem md_fm_end_36 : decode mb_fm_end 36 = .ok (.invokevirtual 133, 3) := by decide +kernel
theorem md_fm_end_39 : decode mb_fm_end 39 = .ok (.return_, 1) := by decide +kernel
theorem md_fm_left_0 : decode mb_fm_left 0 = .ok (.aload_n 0, 1) := by decide +kernel
theorem md_fm_left_1 : decode mb_fm_left 1 = .ok (.getfield 53, 3) := by decide +kernel
theorem md_fm_left_4 : decode mb_fm_left 4 = .ok (.iload_n 1, 1) := by decide +kernel
theorem md_fm_left_5 : decode mb_fm_left 5 = .ok (.iaload, 1) := by decide +kernel
theorem md_fm_left_6 : decode mb_fm_left 6 = .ok (.aload_n 0, 1) := by decide +kernel
theorem md_fm_left_7 : decode mb_fm_left 7 = .ok (.getfield 56, 3) := by decide +kernel
theorem md_fm_left_10 : decode mb_fm_left 10 = .ok (.iload_n 1, 1) := by decide +kernel
theorem md_fm_left_11 : decode mb_fm_left 11 = .ok (.iaload, 1) := by decide +kernel
theorem md_fm_left_12 : decode mb_fm_left 12 = .ok (.isub, 1) := by decide +kernel
theorem md_fm_left_13 : decode mb_fm_left 13 = .ok (.ireturn, 1) := by decide +kernel
theorem md_fm_noTask_0 : decode mb_fm_noTask 0 = .ok (.aload_n 0, 1) := by decide +kernel
theorem md_fm_noTask_1 : decode mb_fm_noTask 1 = .ok (.getfield 32, 3) := by decide +kernel
theorem md_fm_noTask_4 : decode mb_fm_noTask 4 = .ok (.iload_n 1, 1) := by decide +kernel
theorem md_fm_noTask_5 : decode mb_fm_noTask 5 = .ok (.iconst 0, 1) := by decide +kernel
theorem md_fm_noTask_6 : decode mb_fm_noTask 6 = .ok (.bastore, 1) := by decide +kernel
theorem md_fm_noTask_7 : decode mb_fm_noTask 7 = .ok (.aload_n 0, 1) := by decide +kernel
theorem md_fm_noTask_8 : decode mb_fm_noTask 8 = .ok (.getfield 29, 3) := by decide +kernel
theorem md_fm_noTask_11 : decode mb_fm_noTask 11 = .ok (.iload_n 1, 1) := by decide +kernel
theorem md_fm_noTask_12 : decode mb_fm_noTask 12 = .ok (.iconst 0, 1) := by decide +kernel
theorem md_fm_noTask_13 : decode mb_fm_noTask 13 = .ok (.bastore, 1) := by decide +kernel
theorem md_fm_noTask_14 : decode mb_fm_noTask 14 = .ok (.aload_n 0, 1) := by decide +kernel
theorem md_fm_noTask_15 : decode mb_fm_noTask 15 = .ok (.getfield 96, 3) := by decide +kernel
theorem md_fm_noTask_18 : decode mb_fm_noTask 18 = .ok (.iload_n 1, 1) := by decide +kernel
theorem md_fm_noTask_19 : decode mb_fm_noTask 19 = .ok (.iconst 0, 1) := by decide +kernel
theorem md_fm_noTask_20 : decode mb_fm_noTask 20 = .ok (.iastore, 1) := by decide +kernel
theorem md_fm_noTask_21 : decode mb_fm_noTask 21 = .ok (.aload_n 0, 1) := by decide +kernel
theorem md_fm_noTask_22 : decode mb_fm_noTask 22 = .ok (.iload_n 1, 1) := by decide +kernel
theorem md_fm_noTask_23 : decode mb_fm_noTask 23 = .ok (.invokevirtual 130, 3) := by decide +kernel
theorem md_fm_noTask_26 : decode mb_fm_noTask 26 = .ok (.return_, 1) := by decide +kernel
theorem md_fm_leaveLine_0 : decode mb_fm_leaveLine 0 = .ok (.iconst 0, 1) := by decide +kernel
theorem md_fm_leaveLine_1 : decode mb_fm_leaveLine 1 = .ok (.istore_n 2, 1) := by decide +kernel
theorem md_fm_leaveLine_2 : decode mb_fm_leaveLine 2 = .ok (.iconst 0, 1) := by decide +kernel
theorem md_fm_leaveLine_3 : decode mb_fm_leaveLine 3 = .ok (.istore_n 3, 1) := by decide +kernel
theorem md_fm_leaveLine_4 : decode mb_fm_leaveLine 4 = .ok (.iload_n 3, 1) := by decide +kernel
theorem md_fm_leaveLine_5 : decode mb_fm_leaveLine 5 = .ok (.aload_n 0, 1) := by decide +kernel
theorem md_fm_leaveLine_6 : decode mb_fm_leaveLine 6 = .ok (.getfield 126, 3) := by decide +kernel
theorem md_fm_leaveLine_9 : decode mb_fm_leaveLine 9 = .ok (.if_icmp .ge 37, 3) := by decide +kernel
theorem md_fm_leaveLine_12 : decode mb_fm_leaveLine 12 = .ok (.aload_n 0, 1) := by decide +kernel
theorem md_fm_leaveLine_13 : decode mb_fm_leaveLine 13 = .ok (.getfield 105, 3) := by decide +kernel
theorem md_fm_leaveLine_16 : decode mb_fm_leaveLine 16 = .ok (.iload_n 3, 1) := by decide +kernel
theorem md_fm_leaveLine_17 : decode mb_fm_leaveLine 17 = .ok (.iaload, 1) := by decide +kernel
theorem md_fm_leaveLine_18 : decode mb_fm_leaveLine 18 = .ok (.iload_n 1, 1) := by decide +kernel
theorem md_fm_leaveLine_19 : decode mb_fm_leaveLine 19 = .ok (.if_icmp .ne 6, 3) := by decide +kernel
theorem md_fm_leaveLine_22 : decode mb_fm_leaveLine 22 = .ok (.goto 18, 3) := by decide +kernel
theorem md_fm_leaveLine_25 : decode mb_fm_leaveLine 25 = .ok (.aload_n 0, 1) := by decide +kernel
theorem md_fm_leaveLine_26 : decode mb_fm_leaveLine 26 = .ok (.getfield 105, 3) := by decide +kernel
theorem md_fm_leaveLine_29 : decode mb_fm_leaveLine 29 = .ok (.iload_n 2, 1) := by decide +kernel
theorem md_fm_leaveLine_30 : decode mb_fm_leaveLine 30 = .ok (.aload_n 0, 1) := by decide +kernel
theorem md_fm_leaveLine_31 : decode mb_fm_leaveLine 31 = .ok (.getfield 105, 3) := by decide +kernel
theorem md_fm_leaveLine_34 : decode mb_fm_leaveLine 34 = .ok (.iload_n 3, 1) := by decide +kernel
theorem md_fm_leaveLine_35 : decode mb_fm_leaveLine 35 = .ok (.iaload, 1) := by decide +kernel
theorem md_fm_leaveLine_36 : decode mb_fm_leaveLine 36 = .ok (.iastore, 1) := by decide +kernel
theorem md_fm_leaveLine_37 : decode mb_fm_leaveLine 37 = .ok (.iinc 2 1, 3) := by decide +kernel
theorem md_fm_leaveLine_40 : decode mb_fm_leaveLine 40 = .ok (.iinc 3 1, 3) := by decide +kernel
theorem md_fm_leaveLine_43 : decode mb_fm_leaveLine 43 = .ok (.goto (-39), 3) := by decide +kernel
theorem md_fm_leaveLine_46 : decode mb_fm_leaveLine 46 = .ok (.aload_n 0, 1) := by decide +kernel
theorem md_fm_leaveLine_47 : decode mb_fm_leaveLine 47 = .ok (.iload_n 2, 1) := by decide +kernel
theorem md_fm_leaveLine_48 : decode mb_fm_leaveLine 48 = .ok (.putfield 126, 3) := by decide +kernel
theorem md_fm_leaveLine_51 : decode mb_fm_leaveLine 51 = .ok (.return_, 1) := by decide +kernel
theorem md_fm_step_0 : decode mb_fm_step 0 = .ok (.aload_n 0, 1) := by decide +kernel
theorem md_fm_step_1 : decode mb_fm_step 1 = .ok (.getfield 35, 3) := by decide +kernel
theorem md_fm_step_4 : decode mb_fm_step 4 = .ok (.iload_n 1, 1) := by decide +kernel
theorem md_fm_step_5 : decode mb_fm_step 5 = .ok (.iaload, 1) := by decide +kernel
theorem md_fm_step_6 : decode mb_fm_step 6 = .ok (.istore_n 2, 1) := by decide +kernel
theorem md_fm_step_7 : decode mb_fm_step 7 = .ok (.bipush 14, 2) := by decide +kernel
theorem md_fm_step_9 : decode mb_fm_step 9 = .ok (.iload_n 2, 1) := by decide +kernel
theorem md_fm_step_10 : decode mb_fm_step 10 = .ok (.imul, 1) := by decide +kernel
theorem md_fm_step_11 : decode mb_fm_step 11 = .ok (.aload_n 0, 1) := by decide +kernel
theorem md_fm_step_12 : decode mb_fm_step 12 = .ok (.getfield 41, 3) := by decide +kernel
theorem md_fm_step_15 : decode mb_fm_step 15 = .ok (.iload_n 1, 1) := by decide +kernel
theorem md_fm_step_16 : decode mb_fm_step 16 = .ok (.iaload, 1) := by decide +kernel
theorem md_fm_step_17 : decode mb_fm_step 17 = .ok (.iadd, 1) := by decide +kernel
theorem md_fm_step_18 : decode mb_fm_step 18 = .ok (.istore_n 3, 1) := by decide +kernel
theorem md_fm_step_19 : decode mb_fm_step 19 = .ok (.iconst 4, 1) := by decide +kernel
theorem md_fm_step_20 : decode mb_fm_step 20 = .ok (.iload_n 1, 1) := by decide +kernel
theorem md_fm_step_21 : decode mb_fm_step 21 = .ok (.imul, 1) := by decide +kernel
theorem md_fm_step_22 : decode mb_fm_step 22 = .ok (.istore 4, 2) := by decide +kernel
theorem md_fm_step_24 : decode mb_fm_step 24 = .ok (.aload_n 0, 1) := by decide +kernel
theorem md_fm_step_25 : decode mb_fm_step 25 = .ok (.getfield 41, 3) := by decide +kernel
theorem md_fm_step_28 : decode mb_fm_step 28 = .ok (.iload_n 1, 1) := by decide +kernel
theorem md_fm_step_29 : decode mb_fm_step 29 = .ok (.iaload, 1) := by decide +kernel
theorem md_fm_step_30 : decode mb_fm_step 30 = .ok (.aload_n 0, 1) := by decide +kernel
theorem md_fm_step_31 : decode mb_fm_step 31 = .ok (.getfield 19, 3) := by decide +kernel
theorem md_fm_step_34 : decode mb_fm_step 34 = .ok (.iload_n 2, 1) := by decide +kernel
theorem md_fm_step_35 : decode mb_fm_step 35 = .ok (.iaload, 1) := by decide +kernel
theorem md_fm_step_36 : decode mb_fm_step 36 = .ok (.if_icmp .lt 7, 3) := by decide +kernel
theorem md_fm_step_39 : decode mb_fm_step 39 = .ok (.iconst 1, 1) := by decide +kernel
theorem md_fm_step_40 : decode mb_fm_step 40 = .ok (.goto 4, 3) := by decide +kernel
theorem md_fm_step_43 : decode mb_fm_step 43 = .ok (.iconst 0, 1) := by decide +kernel
theorem md_fm_step_44 : decode mb_fm_step 44 = .ok (.istore 5, 2) := by decide +kernel
theorem md_fm_step_46 : decode mb_fm_step 46 = .ok (.iload 5, 2) := by decide +kernel
theorem md_fm_step_48 : decode mb_fm_step 48 = .ok (.ifCond .eq 8, 3) := by decide +kernel
theorem md_fm_step_51 : decode mb_fm_step 51 = .ok (.bipush 10, 2) := by decide +kernel
theorem md_fm_step_53 : decode mb_fm_step 53 = .ok (.goto 9, 3) := by decide +kernel
theorem md_fm_step_56 : decode mb_fm_step 56 = .ok (.aload_n 0, 1) := by decide +kernel
theorem md_fm_step_57 : decode mb_fm_step 57 = .ok (.getfield 7, 3) := by decide +kernel
theorem md_fm_step_60 : decode mb_fm_step 60 = .ok (.iload_n 3, 1) := by decide +kernel
theorem md_fm_step_61 : decode mb_fm_step 61 = .ok (.iaload, 1) := by decide +kernel
theorem md_fm_step_62 : decode mb_fm_step 62 = .ok (.istore 6, 2) := by decide +kernel
theorem md_fm_step_64 : decode mb_fm_step 64 = .ok (.iload 5, 2) := by decide +kernel
theorem md_fm_step_66 : decode mb_fm_step 66 = .ok (.ifCond .eq 7, 3) := by decide +kernel
theorem md_fm_step_69 : decode mb_fm_step 69 = .ok (.iconst 0, 1) := by decide +kernel
theorem md_fm_step_70 : decode mb_fm_step 70 = .ok (.goto 9, 3) := by decide +kernel
theorem md_fm_step_73 : decode mb_fm_step 73 = .ok (.aload_n 0, 1) := by decide +kernel
theorem md_fm_step_74 : decode mb_fm_step 74 = .ok (.getfield 13, 3) := by decide +kernel
theorem md_fm_step_77 : decode mb_fm_step 77 = .ok (.iload_n 3, 1) := by decide +kernel
theorem md_fm_step_78 : decode mb_fm_step 78 = .ok (.iaload, 1) := by decide +kernel
theorem md_fm_step_79 : decode mb_fm_step 79 = .ok (.istore 7, 2) := by decide +kernel
theorem md_fm_step_81 : decode mb_fm_step 81 = .ok (.iload 5, 2) := by decide +kernel
theorem md_fm_step_83 : decode mb_fm_step 83 = .ok (.ifCond .eq 7, 3) := by decide +kernel
theorem md_fm_step_86 : decode mb_fm_step 86 = .ok (.iconst 0, 1) := by decide +kernel
theorem md_fm_step_87 : decode mb_fm_step 87 = .ok (.goto 9, 3) := by decide +kernel
theorem md_fm_step_90 : decode mb_fm_step 90 = .ok (.aload_n 0, 1) := by decide +kernel
theorem md_fm_step_91 : decode mb_fm_step 91 = .ok (.getfield 16, 3) := by decide +kernel
theorem md_fm_step_94 : decode mb_fm_step 94 = .ok (.iload_n 3, 1) := by decide +kernel
theorem md_fm_step_95 : decode mb_fm_step 95 = .ok (.iaload, 1) := by decide +kernel
theorem md_fm_step_96 : decode mb_fm_step 96 = .ok (.istore 8, 2) := by decide +kernel
theorem md_fm_step_98 : decode mb_fm_step 98 = .ok (.aload_n 0, 1) := by decide +kernel
theorem md_fm_step_99 : decode mb_fm_step 99 = .ok (.getfield 108, 3) := by decide +kernel
theorem md_fm_step_102 : decode mb_fm_step 102 = .ok (.aload_n 0, 1) := by decide +kernel
theorem md_fm_step_103 : decode mb_fm_step 103 = .ok (.iload_n 1, 1) := by decide +kernel
theorem md_fm_step_104 : decode mb_fm_step 104 = .ok (.invokevirtual 139, 3) := by decide +kernel
theorem md_fm_step_107 : decode mb_fm_step 107 = .ok (.ifCond .le 7, 3) := by decide +kernel
theorem md_fm_step_110 : decode mb_fm_step 110 = .ok (.iconst 4, 1) := by decide +kernel
theorem md_fm_step_111 : decode mb_fm_step 111 = .ok (.goto 4, 3) := by decide +kernel
theorem md_fm_step_114 : decode mb_fm_step 114 = .ok (.iconst 3, 1) := by decide +kernel
theorem md_fm_step_115 : decode mb_fm_step 115 = .ok (.dup2, 1) := by decide +kernel
theorem md_fm_step_116 : decode mb_fm_step 116 = .ok (.iaload, 1) := by decide +kernel
theorem md_fm_step_117 : decode mb_fm_step 117 = .ok (.iconst 1, 1) := by decide +kernel
theorem md_fm_step_118 : decode mb_fm_step 118 = .ok (.iadd, 1) := by decide +kernel
theorem md_fm_step_119 : decode mb_fm_step 119 = .ok (.iastore, 1) := by decide +kernel
theorem md_fm_step_120 : decode mb_fm_step 120 = .ok (.aload_n 0, 1) := by decide +kernel
theorem md_fm_step_121 : decode mb_fm_step 121 = .ok (.getfield 44, 3) := by decide +kernel
theorem md_fm_step_124 : decode mb_fm_step 124 = .ok (.iload_n 1, 1) := by decide +kernel
theorem md_fm_step_125 : decode mb_fm_step 125 = .ok (.dup2, 1) := by decide +kernel
theorem md_fm_step_126 : decode mb_fm_step 126 = .ok (.iaload, 1) := by decide +kernel
theorem md_fm_step_127 : decode mb_fm_step 127 = .ok (.iconst 1, 1) := by decide +kernel
theorem md_fm_step_128 : decode mb_fm_step 128 = .ok (.iadd, 1) := by decide +kernel
theorem md_fm_step_129 : decode mb_fm_step 129 = .ok (.iastore, 1) := by decide +kernel
theorem md_fm_step_130 : decode mb_fm_step 130 = .ok (.iload 6, 2) := by decide +kernel
theorem md_fm_step_132 : decode mb_fm_step 132 = .ok (.tableswitch 320 0 9 #[56, 81, 117, 168, 179, 214, 235, 280, 292, 312], 56) := by decide +kernel
theorem md_fm_step_188 : decode mb_fm_step 188 = .ok (.aload_n 0, 1) := by decide +kernel
theorem md_fm_step_189 : decode mb_fm_step 189 = .ok (.getfield 50, 3) := by decide +kernel
theorem md_fm_step_192 : decode mb_fm_step 192 = .ok (.iload 4, 2) := by decide +kernel
theorem md_fm_step_194 : decode mb_fm_step 194 = .ok (.iload 7, 2) := by decide +kernel
theorem md_fm_step_196 : decode mb_fm_step 196 = .ok (.iadd, 1) := by decide +kernel
theorem md_fm_step_197 : decode mb_fm_step 197 = .ok (.iload 8, 2) := by decide +kernel
theorem md_fm_step_199 : decode mb_fm_step 199 = .ok (.iastore, 1) := by decide +kernel
theorem md_fm_step_200 : decode mb_fm_step 200 = .ok (.aload_n 0, 1) := by decide +kernel
theorem md_fm_step_201 : decode mb_fm_step 201 = .ok (.getfield 41, 3) := by decide +kernel
theorem md_fm_step_204 : decode mb_fm_step 204 = .ok (.iload_n 1, 1) := by decide +kernel
theorem md_fm_step_205 : decode mb_fm_step 205 = .ok (.dup2, 1) := by decide +kernel
theorem md_fm_step_206 : decode mb_fm_step 206 = .ok (.iaload, 1) := by decide +kernel
theorem md_fm_step_207 : decode mb_fm_step 207 = .ok (.iconst 1, 1) := by decide +kernel
theorem md_fm_step_208 : decode mb_fm_step 208 = .ok (.iadd, 1) := by decide +kernel
theorem md_fm_step_209 : decode mb_fm_step 209 = .ok (.iastore, 1) := by decide +kernel
theorem md_fm_step_210 : decode mb_fm_step 210 = .ok (.goto 264, 3) := by decide +kernel
theorem md_fm_step_213 : decode mb_fm_step 213 = .ok (.aload_n 0, 1) := by decide +kernel
theorem md_fm_step_214 : decode mb_fm_step 214 = .ok (.getfield 50, 3) := by decide +kernel
theorem md_fm_step_217 : decode mb_fm_step 217 = .ok (.iload 4, 2) := by decide +kernel
theorem md_fm_step_219 : decode mb_fm_step 219 = .ok (.iload 7, 2) := by decide +kernel
theorem md_fm_step_221 : decode mb_fm_step 221 = .ok (.iadd, 1) := by decide +kernel
theorem md_fm_step_222 : decode mb_fm_step 222 = .ok (.dup2, 1) := by decide +kernel
theorem md_fm_step_223 : decode mb_fm_step 223 = .ok (.iaload, 1) := by decide +kernel
theorem md_fm_step_224 : decode mb_fm_step 224 = .ok (.aload_n 0, 1) := by decide +kernel
theorem md_fm_step_225 : decode mb_fm_step 225 = .ok (.getfield 50, 3) := by decide +kernel
theorem md_fm_step_228 : decode mb_fm_step 228 = .ok (.iload 4, 2) := by decide +kernel
theorem md_fm_step_230 : decode mb_fm_step 230 = .ok (.iload 8, 2) := by decide +kernel
theorem md_fm_step_232 : decode mb_fm_step 232 = .ok (.iadd, 1) := by decide +kernel
theorem md_fm_step_233 : decode mb_fm_step 233 = .ok (.iaload, 1) := by decide +kernel
theorem md_fm_step_234 : decode mb_fm_step 234 = .ok (.iadd, 1) := by decide +kernel
theorem md_fm_step_235 : decode mb_fm_step 235 = .ok (.iastore, 1) := by decide +kernel
theorem md_fm_step_236 : decode mb_fm_step 236 = .ok (.aload_n 0, 1) := by decide +kernel
theorem md_fm_step_237 : decode mb_fm_step 237 = .ok (.getfield 41, 3) := by decide +kernel
theorem md_fm_step_240 : decode mb_fm_step 240 = .ok (.iload_n 1, 1) := by decide +kernel
theorem md_fm_step_241 : decode mb_fm_step 241 = .ok (.dup2, 1) := by decide +kernel
theorem md_fm_step_242 : decode mb_fm_step 242 = .ok (.iaload, 1) := by decide +kernel
theorem md_fm_step_243 : decode mb_fm_step 243 = .ok (.iconst 1, 1) := by decide +kernel
theorem md_fm_step_244 : decode mb_fm_step 244 = .ok (.iadd, 1) := by decide +kernel
theorem md_fm_step_245 : decode mb_fm_step 245 = .ok (.iastore, 1) := by decide +kernel
theorem md_fm_step_246 : decode mb_fm_step 246 = .ok (.goto 228, 3) := by decide +kernel
theorem md_fm_step_249 : decode mb_fm_step 249 = .ok (.aload_n 0, 1) := by decide +kernel
theorem md_fm_step_250 : decode mb_fm_step 250 = .ok (.getfield 50, 3) := by decide +kernel
theorem md_fm_step_253 : decode mb_fm_step 253 = .ok (.iload 4, 2) := by decide +kernel
theorem md_fm_step_255 : decode mb_fm_step 255 = .ok (.iload 7, 2) := by decide +kernel
theorem md_fm_step_257 : decode mb_fm_step 257 = .ok (.iadd, 1) := by decide +kernel
theorem md_fm_step_258 : decode mb_fm_step 258 = .ok (.aload_n 0, 1) := by decide +kernel
theorem md_fm_step_259 : decode mb_fm_step 259 = .ok (.getfield 50, 3) := by decide +kernel
theorem md_fm_step_262 : decode mb_fm_step 262 = .ok (.iload 4, 2) := by decide +kernel
theorem md_fm_step_264 : decode mb_fm_step 264 = .ok (.iload 7, 2) := by decide +kernel
theorem md_fm_step_266 : decode mb_fm_step 266 = .ok (.iadd, 1) := by decide +kernel
theorem md_fm_step_267 : decode mb_fm_step 267 = .ok (.iaload, 1) := by decide +kernel
theorem md_fm_step_268 : decode mb_fm_step 268 = .ok (.aload_n 0, 1) := by decide +kernel
theorem md_fm_step_269 : decode mb_fm_step 269 = .ok (.getfield 50, 3) := by decide +kernel
theorem md_fm_step_272 : decode mb_fm_step 272 = .ok (.iload 4, 2) := by decide +kernel
theorem md_fm_step_274 : decode mb_fm_step 274 = .ok (.iload 8, 2) := by decide +kernel
theorem md_fm_step_276 : decode mb_fm_step 276 = .ok (.iadd, 1) := by decide +kernel
theorem md_fm_step_277 : decode mb_fm_step 277 = .ok (.iaload, 1) := by decide +kernel
theorem md_fm_step_278 : decode mb_fm_step 278 = .ok (.if_icmp .ge 7, 3) := by decide +kernel
theorem md_fm_step_281 : decode mb_fm_step 281 = .ok (.iconst 1, 1) := by decide +kernel
theorem md_fm_step_282 : decode mb_fm_step 282 = .ok (.goto 4, 3) := by decide +kernel
theorem md_fm_step_285 : decode mb_fm_step 285 = .ok (.iconst 0, 1) := by decide +kernel
theorem md_fm_step_286 : decode mb_fm_step 286 = .ok (.iastore, 1) := by decide +kernel
theorem md_fm_step_287 : decode mb_fm_step 287 = .ok (.aload_n 0, 1) := by decide +kernel
theorem md_fm_step_288 : decode mb_fm_step 288 = .ok (.getfield 41, 3) := by decide +kernel
theorem md_fm_step_291 : decode mb_fm_step 291 = .ok (.iload_n 1, 1) := by decide +kernel
theorem md_fm_step_292 : decode mb_fm_step 292 = .ok (.dup2, 1) := by decide +kernel
theorem md_fm_step_293 : decode mb_fm_step 293 = .ok (.iaload, 1) := by decide +kernel
theorem md_fm_step_294 : decode mb_fm_step 294 = .ok (.iconst 1, 1) := by decide +kernel
theorem md_fm_step_295 : decode mb_fm_step 295 = .ok (.iadd, 1) := by decide +kernel
theorem md_fm_step_296 : decode mb_fm_step 296 = .ok (.iastore, 1) := by decide +kernel
theorem md_fm_step_297 : decode mb_fm_step 297 = .ok (.goto 177, 3) := by decide +kernel
theorem md_fm_step_300 : decode mb_fm_step 300 = .ok (.aload_n 0, 1) := by decide +kernel
theorem md_fm_step_301 : decode mb_fm_step 301 = .ok (.getfield 41, 3) := by decide +kernel
theorem md_fm_step_304 : decode mb_fm_step 304 = .ok (.iload_n 1, 1) := by decide +kernel
theorem md_fm_step_305 : decode mb_fm_step 305 = .ok (.iload 7, 2) := by decide +kernel
theorem md_fm_step_307 : decode mb_fm_step 307 = .ok (.iastore, 1) := by decide +kernel
theorem md_fm_step_308 : decode mb_fm_step 308 = .ok (.goto 166, 3) := by decide +kernel
theorem md_fm_step_311 : decode mb_fm_step 311 = .ok (.aload_n 0, 1) := by decide +kernel
theorem md_fm_step_312 : decode mb_fm_step 312 = .ok (.getfield 41, 3) := by decide +kernel
theorem md_fm_step_315 : decode mb_fm_step 315 = .ok (.iload_n 1, 1) := by decide +kernel
theorem md_fm_step_316 : decode mb_fm_step 316 = .ok (.aload_n 0, 1) := by decide +kernel
theorem md_fm_step_317 : decode mb_fm_step 317 = .ok (.getfield 50, 3) := by decide +kernel
theorem md_fm_step_320 : decode mb_fm_step 320 = .ok (.iload 4, 2) := by decide +kernel
theorem md_fm_step_322 : decode mb_fm_step 322 = .ok (.iload 7, 2) := by decide +kernel
theorem md_fm_step_324 : decode mb_fm_step 324 = .ok (.iadd, 1) := by decide +kernel
theorem md_fm_step_325 : decode mb_fm_step 325 = .ok (.iaload, 1) := by decide +kernel
theorem md_fm_step_326 : decode mb_fm_step 326 = .ok (.ifCond .ne 8, 3) := by decide +kernel
theorem md_fm_step_329 : decode mb_fm_step 329 = .ok (.iload 8, 2) := by decide +kernel
theorem md_fm_step_331 : decode mb_fm_step 331 = .ok (.goto 11, 3) := by decide +kernel
theorem md_fm_step_334 : decode mb_fm_step 334 = .ok (.aload_n 0, 1) := by decide +kernel
theorem md_fm_step_335 : decode mb_fm_step 335 = .ok (.getfield 41, 3) := by decide +kernel
theorem md_fm_step_338 : decode mb_fm_step 338 = .ok (.iload_n 1, 1) := by decide +kernel
theorem md_fm_step_339 : decode mb_fm_step 339 = .ok (.iaload, 1) := by decide +kernel
theorem md_fm_step_340 : decode mb_fm_step 340 = .ok (.iconst 1, 1) := by decide +kernel
theorem md_fm_step_341 : decode mb_fm_step 341 = .ok (.iadd, 1) := by decide +kernel
theorem md_fm_step_342 : decode mb_fm_step 342 = .ok (.iastore, 1) := by decide +kernel
theorem md_fm_step_343 : decode mb_fm_step 343 = .ok (.goto 131, 3) := by decide +kernel
theorem md_fm_step_346 : decode mb_fm_step 346 = .ok (.aload_n 0, 1) := by decide +kernel
theorem md_fm_step_347 : decode mb_fm_step 347 = .ok (.iload_n 1, 1) := by decide +kernel
theorem md_fm_step_348 : decode mb_fm_step 348 = .ok (.iload 7, 2) := by decide +kernel
theorem md_fm_step_350 : decode mb_fm_step 350 = .ok (.aload_n 0, 1) := by decide +kernel
theorem md_fm_step_351 : decode mb_fm_step 351 = .ok (.getfield 50, 3) := by decide +kernel
theorem md_fm_step_354 : decode mb_fm_step 354 = .ok (.iload 4, 2) := by decide +kernel
theorem md_fm_step_356 : decode mb_fm_step 356 = .ok (.iload 8, 2) := by decide +kernel
theorem md_fm_step_358 : decode mb_fm_step 358 = .ok (.iadd, 1) := by decide +kernel
theorem md_fm_step_359 : decode mb_fm_step 359 = .ok (.iaload, 1) := by decide +kernel
theorem md_fm_step_360 : decode mb_fm_step 360 = .ok (.iconst 1, 1) := by decide +kernel
theorem md_fm_step_361 : decode mb_fm_step 361 = .ok (.invokevirtual 157, 3) := by decide +kernel
theorem md_fm_step_364 : decode mb_fm_step 364 = .ok (.goto 110, 3) := by decide +kernel
theorem md_fm_step_367 : decode mb_fm_step 367 = .ok (.aload_n 0, 1) := by decide +kernel
theorem md_fm_step_368 : decode mb_fm_step 368 = .ok (.getfield 50, 3) := by decide +kernel
theorem md_fm_step_371 : decode mb_fm_step 371 = .ok (.iload 4, 2) := by decide +kernel
theorem md_fm_step_373 : decode mb_fm_step 373 = .ok (.iload 7, 2) := by decide +kernel
theorem md_fm_step_375 : decode mb_fm_step 375 = .ok (.iadd, 1) := by decide +kernel
theorem md_fm_step_376 : decode mb_fm_step 376 = .ok (.iaload, 1) := by decide +kernel
theorem md_fm_step_377 : decode mb_fm_step 377 = .ok (.iconst 1, 1) := by decide +kernel
theorem md_fm_step_378 : decode mb_fm_step 378 = .ok (.if_icmp .ge 16, 3) := by decide +kernel
theorem md_fm_step_381 : decode mb_fm_step 381 = .ok (.aload_n 0, 1) := by decide +kernel
theorem md_fm_step_382 : decode mb_fm_step 382 = .ok (.getfield 41, 3) := by decide +kernel
theorem md_fm_step_385 : decode mb_fm_step 385 = .ok (.iload_n 1, 1) := by decide +kernel
theorem md_fm_step_386 : decode mb_fm_step 386 = .ok (.dup2, 1) := by decide +kernel
theorem md_fm_step_387 : decode mb_fm_step 387 = .ok (.iaload, 1) := by decide +kernel
theorem md_fm_step_388 : decode mb_fm_step 388 = .ok (.iconst 1, 1) := by decide +kernel
theorem md_fm_step_389 : decode mb_fm_step 389 = .ok (.iadd, 1) := by decide +kernel
theorem md_fm_step_390 : decode mb_fm_step 390 = .ok (.iastore, 1) := by decide +kernel
theorem md_fm_step_391 : decode mb_fm_step 391 = .ok (.goto 83, 3) := by decide +kernel
theorem md_fm_step_394 : decode mb_fm_step 394 = .ok (.aload_n 0, 1) := by decide +kernel
theorem md_fm_step_395 : decode mb_fm_step 395 = .ok (.iload_n 1, 1) := by decide +kernel
theorem md_fm_step_396 : decode mb_fm_step 396 = .ok (.aload_n 0, 1) := by decide +kernel
theorem md_fm_step_397 : decode mb_fm_step 397 = .ok (.getfield 50, 3) := by decide +kernel
theorem md_fm_step_400 : decode mb_fm_step 400 = .ok (.iload 4, 2) := by decide +kernel
theorem md_fm_step_402 : decode mb_fm_step 402 = .ok (.iload 7, 2) := by decide +kernel
theorem md_fm_step_404 : decode mb_fm_step 404 = .ok (.iadd, 1) := by decide +kernel
theorem md_fm_step_405 : decode mb_fm_step 405 = .ok (.iaload, 1) := by decide +kernel
theorem md_fm_step_406 : decode mb_fm_step 406 = .ok (.invokevirtual 160, 3) := by decide +kernel
theorem md_fm_step_409 : decode mb_fm_step 409 = .ok (.goto 65, 3) := by decide +kernel
theorem md_fm_step_412 : decode mb_fm_step 412 = .ok (.aload_n 0, 1) := by decide +kernel
theorem md_fm_step_413 : decode mb_fm_step 413 = .ok (.iload_n 1, 1) := by decide +kernel
theorem md_fm_step_414 : decode mb_fm_step 414 = .ok (.iload 7, 2) := by decide +kernel
theorem md_fm_step_416 : decode mb_fm_step 416 = .ok (.iload 8, 2) := by decide +kernel
theorem md_fm_step_418 : decode mb_fm_step 418 = .ok (.invokevirtual 163, 3) := by decide +kernel
theorem md_fm_step_421 : decode mb_fm_step 421 = .ok (.goto 53, 3) := by decide +kernel
theorem md_fm_step_424 : decode mb_fm_step 424 = .ok (.aload_n 0, 1) := by decide +kernel
theorem md_fm_step_425 : decode mb_fm_step 425 = .ok (.iload_n 1, 1) := by decide +kernel
theorem md_fm_step_426 : decode mb_fm_step 426 = .ok (.iload 7, 2) := by decide +kernel
theorem md_fm_step_428 : decode mb_fm_step 428 = .ok (.aload_n 0, 1) := by decide +kernel
theorem md_fm_step_429 : decode mb_fm_step 429 = .ok (.getfield 50, 3) := by decide +kernel
theorem md_fm_step_432 : decode mb_fm_step 432 = .ok (.iload 4, 2) := by decide +kernel
theorem md_fm_step_434 : decode mb_fm_step 434 = .ok (.iload 8, 2) := by decide +kernel
theorem md_fm_step_436 : decode mb_fm_step 436 = .ok (.iadd, 1) := by decide +kernel
theorem md_fm_step_437 : decode mb_fm_step 437 = .ok (.iaload, 1) := by decide +kernel
theorem md_fm_step_438 : decode mb_fm_step 438 = .ok (.invokevirtual 167, 3) := by decide +kernel
theorem md_fm_step_441 : decode mb_fm_step 441 = .ok (.goto 33, 3) := by decide +kernel
theorem md_fm_step_444 : decode mb_fm_step 444 = .ok (.aload_n 0, 1) := by decide +kernel
theorem md_fm_step_445 : decode mb_fm_step 445 = .ok (.iload_n 1, 1) := by decide +kernel
theorem md_fm_step_446 : decode mb_fm_step 446 = .ok (.invokevirtual 170, 3) := by decide +kernel
theorem md_fm_step_449 : decode mb_fm_step 449 = .ok (.goto 25, 3) := by decide +kernel
theorem md_fm_step_452 : decode mb_fm_step 452 = .ok (.aload_n 0, 1) := by decide +kernel
theorem md_fm_step_453 : decode mb_fm_step 453 = .ok (.getfield 47, 3) := by decide +kernel
theorem md_fm_step_456 : decode mb_fm_step 456 = .ok (.iload_n 1, 1) := by decide +kernel
theorem md_fm_step_457 : decode mb_fm_step 457 = .ok (.aload_n 0, 1) := by decide +kernel
theorem md_fm_step_458 : decode mb_fm_step 458 = .ok (.getfield 50, 3) := by decide +kernel
theorem md_fm_step_461 : decode mb_fm_step 461 = .ok (.iload 4, 2) := by decide +kernel
theorem md_fm_step_463 : decode mb_fm_step 463 = .ok (.iload 7, 2) := by decide +kernel
theorem md_fm_step_465 : decode mb_fm_step 465 = .ok (.iadd, 1) := by decide +kernel
theorem md_fm_step_466 : decode mb_fm_step 466 = .ok (.iaload, 1) := by decide +kernel
theorem md_fm_step_467 : decode mb_fm_step 467 = .ok (.iastore, 1) := by decide +kernel
theorem md_fm_step_468 : decode mb_fm_step 468 = .ok (.aload_n 0, 1) := by decide +kernel
theorem md_fm_step_469 : decode mb_fm_step 469 = .ok (.iload_n 1, 1) := by decide +kernel
theorem md_fm_step_470 : decode mb_fm_step 470 = .ok (.iconst 5, 1) := by decide +kernel
theorem md_fm_step_471 : decode mb_fm_step 471 = .ok (.invokevirtual 143, 3) := by decide +kernel
theorem md_fm_step_474 : decode mb_fm_step 474 = .ok (.return_, 1) := by decide +kernel
theorem md_fm_want_0 : decode mb_fm_want 0 = .ok (.aload_n 0, 1) := by decide +kernel
theorem md_fm_want_1 : decode mb_fm_want 1 = .ok (.iload_n 1, 1) := by decide +kernel
theorem md_fm_want_2 : decode mb_fm_want 2 = .ok (.invokevirtual 139, 3) := by decide +kernel
theorem md_fm_want_5 : decode mb_fm_want 5 = .ok (.ifCond .ne 7, 3) := by decide +kernel
theorem md_fm_want_8 : decode mb_fm_want 8 = .ok (.iconst 1, 1) := by decide +kernel
theorem md_fm_want_9 : decode mb_fm_want 9 = .ok (.goto 4, 3) := by decide +kernel
theorem md_fm_want_12 : decode mb_fm_want 12 = .ok (.iconst 0, 1) := by decide +kernel
theorem md_fm_want_13 : decode mb_fm_want 13 = .ok (.istore 5, 2) := by decide +kernel
theorem md_fm_want_15 : decode mb_fm_want 15 = .ok (.aload_n 0, 1) := by decide +kernel
theorem md_fm_want_16 : decode mb_fm_want 16 = .ok (.iload_n 1, 1) := by decide +kernel
theorem md_fm_want_17 : decode mb_fm_want 17 = .ok (.iconst 2, 1) := by decide +kernel
theorem md_fm_want_18 : decode mb_fm_want 18 = .ok (.iload_n 2, 1) := by decide +kernel
theorem md_fm_want_19 : decode mb_fm_want 19 = .ok (.iload_n 3, 1) := by decide +kernel
theorem md_fm_want_20 : decode mb_fm_want 20 = .ok (.invokevirtual 150, 3) := by decide +kernel
theorem md_fm_want_23 : decode mb_fm_want 23 = .ok (.istore 6, 2) := by decide +kernel
theorem md_fm_want_25 : decode mb_fm_want 25 = .ok (.iload 6, 2) := by decide +kernel
theorem md_fm_want_27 : decode mb_fm_want 27 = .ok (.ifCond .ne 4, 3) := by decide +kernel
theorem md_fm_want_30 : decode mb_fm_want 30 = .ok (.return_, 1) := by decide +kernel
theorem md_fm_want_31 : decode mb_fm_want 31 = .ok (.aload_n 0, 1) := by decide +kernel
theorem md_fm_want_32 : decode mb_fm_want 32 = .ok (.getfield 90, 3) := by decide +kernel
theorem md_fm_want_35 : decode mb_fm_want 35 = .ok (.iload_n 1, 1) := by decide +kernel
theorem md_fm_want_36 : decode mb_fm_want 36 = .ok (.iload_n 2, 1) := by decide +kernel
theorem md_fm_want_37 : decode mb_fm_want 37 = .ok (.iastore, 1) := by decide +kernel
theorem md_fm_want_38 : decode mb_fm_want 38 = .ok (.aload_n 0, 1) := by decide +kernel
theorem md_fm_want_39 : decode mb_fm_want 39 = .ok (.getfield 38, 3) := by decide +kernel
theorem md_fm_want_42 : decode mb_fm_want 42 = .ok (.iload_n 1, 1) := by decide +kernel
theorem md_fm_want_43 : decode mb_fm_want 43 = .ok (.iload 4, 2) := by decide +kernel
theorem md_fm_want_45 : decode mb_fm_want 45 = .ok (.iastore, 1) := by decide +kernel
theorem md_fm_want_46 : decode mb_fm_want 46 = .ok (.iload 5, 2) := by decide +kernel
theorem md_fm_want_48 : decode mb_fm_want 48 = .ok (.ifCond .eq 9, 3) := by decide +kernel
theorem md_fm_want_51 : decode mb_fm_want 51 = .ok (.aload_n 0, 1) := by decide +kernel
theorem md_fm_want_52 : decode mb_fm_want 52 = .ok (.iload_n 1, 1) := by decide +kernel
theorem md_fm_want_53 : decode mb_fm_want 53 = .ok (.iload_n 2, 1) := by decide +kernel
theorem md_fm_want_54 : decode mb_fm_want 54 = .ok (.invokevirtual 154, 3) := by decide +kernel
theorem md_fm_want_57 : decode mb_fm_want 57 = .ok (.return_, 1) := by decide +kernel
