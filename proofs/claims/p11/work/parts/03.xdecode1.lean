theorem xd_fe_init_0 : decode xb_fe_init 0 = .ok (.aload_n 0, 1) := by decide +kernel
theorem xd_fe_init_1 : decode xb_fe_init 1 = .ok (.invokespecial 3, 3) := by decide +kernel
theorem xd_fe_init_4 : decode xb_fe_init 4 = .ok (.aload_n 0, 1) := by decide +kernel
theorem xd_fe_init_5 : decode xb_fe_init 5 = .ok (.iconst 3, 1) := by decide +kernel
theorem xd_fe_init_6 : decode xb_fe_init 6 = .ok (.anewarray 9, 3) := by decide +kernel
theorem xd_fe_init_9 : decode xb_fe_init 9 = .ok (.putfield 11, 3) := by decide +kernel
theorem xd_fe_init_12 : decode xb_fe_init 12 = .ok (.aload_n 0, 1) := by decide +kernel
theorem xd_fe_init_13 : decode xb_fe_init 13 = .ok (.bipush 6, 2) := by decide +kernel
theorem xd_fe_init_15 : decode xb_fe_init 15 = .ok (.anewarray 15, 3) := by decide +kernel
theorem xd_fe_init_18 : decode xb_fe_init 18 = .ok (.putfield 17, 3) := by decide +kernel
theorem xd_fe_init_21 : decode xb_fe_init 21 = .ok (.aload_n 0, 1) := by decide +kernel
theorem xd_fe_init_22 : decode xb_fe_init 22 = .ok (.new 21, 3) := by decide +kernel
theorem xd_fe_init_25 : decode xb_fe_init 25 = .ok (.dup, 1) := by decide +kernel
theorem xd_fe_init_26 : decode xb_fe_init 26 = .ok (.invokespecial 23, 3) := by decide +kernel
theorem xd_fe_init_29 : decode xb_fe_init 29 = .ok (.putfield 24, 3) := by decide +kernel
theorem xd_fe_init_32 : decode xb_fe_init 32 = .ok (.iconst 0, 1) := by decide +kernel
theorem xd_fe_init_33 : decode xb_fe_init 33 = .ok (.istore_n 1, 1) := by decide +kernel
theorem xd_fe_init_34 : decode xb_fe_init 34 = .ok (.iload_n 1, 1) := by decide +kernel
theorem xd_fe_init_35 : decode xb_fe_init 35 = .ok (.iconst 3, 1) := by decide +kernel
theorem xd_fe_init_36 : decode xb_fe_init 36 = .ok (.if_icmp .ge 22, 3) := by decide +kernel
theorem xd_fe_init_39 : decode xb_fe_init 39 = .ok (.aload_n 0, 1) := by decide +kernel
theorem xd_fe_init_40 : decode xb_fe_init 40 = .ok (.getfield 11, 3) := by decide +kernel
theorem xd_fe_init_43 : decode xb_fe_init 43 = .ok (.iload_n 1, 1) := by decide +kernel
theorem xd_fe_init_44 : decode xb_fe_init 44 = .ok (.new 9, 3) := by decide +kernel
theorem xd_fe_init_47 : decode xb_fe_init 47 = .ok (.dup, 1) := by decide +kernel
theorem xd_fe_init_48 : decode xb_fe_init 48 = .ok (.invokespecial 28, 3) := by decide +kernel
theorem xd_fe_init_51 : decode xb_fe_init 51 = .ok (.aastore, 1) := by decide +kernel
theorem xd_fe_init_52 : decode xb_fe_init 52 = .ok (.iinc 1 1, 3) := by decide +kernel
theorem xd_fe_init_55 : decode xb_fe_init 55 = .ok (.goto (-21), 3) := by decide +kernel
theorem xd_fe_init_58 : decode xb_fe_init 58 = .ok (.iconst 0, 1) := by decide +kernel
theorem xd_fe_init_59 : decode xb_fe_init 59 = .ok (.istore_n 1, 1) := by decide +kernel
theorem xd_fe_init_60 : decode xb_fe_init 60 = .ok (.iload_n 1, 1) := by decide +kernel
theorem xd_fe_init_61 : decode xb_fe_init 61 = .ok (.bipush 6, 2) := by decide +kernel
theorem xd_fe_init_63 : decode xb_fe_init 63 = .ok (.if_icmp .ge 23, 3) := by decide +kernel
theorem xd_fe_init_66 : decode xb_fe_init 66 = .ok (.aload_n 0, 1) := by decide +kernel
theorem xd_fe_init_67 : decode xb_fe_init 67 = .ok (.getfield 17, 3) := by decide +kernel
theorem xd_fe_init_70 : decode xb_fe_init 70 = .ok (.iload_n 1, 1) := by decide +kernel
theorem xd_fe_init_71 : decode xb_fe_init 71 = .ok (.new 15, 3) := by decide +kernel
theorem xd_fe_init_74 : decode xb_fe_init 74 = .ok (.dup, 1) := by decide +kernel
theorem xd_fe_init_75 : decode xb_fe_init 75 = .ok (.iload_n 1, 1) := by decide +kernel
theorem xd_fe_init_76 : decode xb_fe_init 76 = .ok (.invokespecial 29, 3) := by decide +kernel
theorem xd_fe_init_79 : decode xb_fe_init 79 = .ok (.aastore, 1) := by decide +kernel
theorem xd_fe_init_80 : decode xb_fe_init 80 = .ok (.iinc 1 1, 3) := by decide +kernel
theorem xd_fe_init_83 : decode xb_fe_init 83 = .ok (.goto (-23), 3) := by decide +kernel
theorem xd_fe_init_86 : decode xb_fe_init 86 = .ok (.return_, 1) := by decide +kernel
theorem xd_fe_add_0 : decode xb_fe_add 0 = .ok (.iload_n 1, 1) := by decide +kernel
theorem xd_fe_add_1 : decode xb_fe_add 1 = .ok (.invokestatic 32, 3) := by decide +kernel
theorem xd_fe_add_4 : decode xb_fe_add 4 = .ok (.ifCond .eq 13, 3) := by decide +kernel
theorem xd_fe_add_7 : decode xb_fe_add 7 = .ok (.iload_n 2, 1) := by decide +kernel
theorem xd_fe_add_8 : decode xb_fe_add 8 = .ok (.iload_n 3, 1) := by decide +kernel
theorem xd_fe_add_9 : decode xb_fe_add 9 = .ok (.iload 4, 2) := by decide +kernel
theorem xd_fe_add_11 : decode xb_fe_add 11 = .ok (.invokestatic 36, 3) := by decide +kernel
theorem xd_fe_add_14 : decode xb_fe_add 14 = .ok (.ifCond .ne 5, 3) := by decide +kernel
theorem xd_fe_add_17 : decode xb_fe_add 17 = .ok (.iconst (-1), 1) := by decide +kernel
theorem xd_fe_add_18 : decode xb_fe_add 18 = .ok (.ireturn, 1) := by decide +kernel
theorem xd_fe_add_19 : decode xb_fe_add 19 = .ok (.aload_n 0, 1) := by decide +kernel
theorem xd_fe_add_20 : decode xb_fe_add 20 = .ok (.getfield 11, 3) := by decide +kernel
theorem xd_fe_add_23 : decode xb_fe_add 23 = .ok (.iload_n 1, 1) := by decide +kernel
theorem xd_fe_add_24 : decode xb_fe_add 24 = .ok (.aaload, 1) := by decide +kernel
theorem xd_fe_add_25 : decode xb_fe_add 25 = .ok (.astore 5, 2) := by decide +kernel
theorem xd_fe_add_27 : decode xb_fe_add 27 = .ok (.aload 5, 2) := by decide +kernel
theorem xd_fe_add_29 : decode xb_fe_add 29 = .ok (.getfield 40, 3) := by decide +kernel
theorem xd_fe_add_32 : decode xb_fe_add 32 = .ok (.bipush 14, 2) := by decide +kernel
theorem xd_fe_add_34 : decode xb_fe_add 34 = .ok (.if_icmp .lt 6, 3) := by decide +kernel
theorem xd_fe_add_37 : decode xb_fe_add 37 = .ok (.bipush (-3), 2) := by decide +kernel
theorem xd_fe_add_39 : decode xb_fe_add 39 = .ok (.ireturn, 1) := by decide +kernel
theorem xd_fe_add_40 : decode xb_fe_add 40 = .ok (.aload 5, 2) := by decide +kernel
theorem xd_fe_add_42 : decode xb_fe_add 42 = .ok (.getfield 40, 3) := by decide +kernel
theorem xd_fe_add_45 : decode xb_fe_add 45 = .ok (.istore 6, 2) := by decide +kernel
theorem xd_fe_add_47 : decode xb_fe_add 47 = .ok (.aload 5, 2) := by decide +kernel
theorem xd_fe_add_49 : decode xb_fe_add 49 = .ok (.dup, 1) := by decide +kernel
theorem xd_fe_add_50 : decode xb_fe_add 50 = .ok (.getfield 40, 3) := by decide +kernel
theorem xd_fe_add_53 : decode xb_fe_add 53 = .ok (.iconst 1, 1) := by decide +kernel
theorem xd_fe_add_54 : decode xb_fe_add 54 = .ok (.iadd, 1) := by decide +kernel
theorem xd_fe_add_55 : decode xb_fe_add 55 = .ok (.putfield 40, 3) := by decide +kernel
theorem xd_fe_add_58 : decode xb_fe_add 58 = .ok (.aload 5, 2) := by decide +kernel
theorem xd_fe_add_60 : decode xb_fe_add 60 = .ok (.iload 6, 2) := by decide +kernel
theorem xd_fe_add_62 : decode xb_fe_add 62 = .ok (.iload_n 2, 1) := by decide +kernel
theorem xd_fe_add_63 : decode xb_fe_add 63 = .ok (.iload_n 3, 1) := by decide +kernel
theorem xd_fe_add_64 : decode xb_fe_add 64 = .ok (.iload 4, 2) := by decide +kernel
theorem xd_fe_add_66 : decode xb_fe_add 66 = .ok (.invokevirtual 44, 3) := by decide +kernel
theorem xd_fe_add_69 : decode xb_fe_add 69 = .ok (.aload_n 0, 1) := by decide +kernel
theorem xd_fe_add_70 : decode xb_fe_add 70 = .ok (.iload_n 1, 1) := by decide +kernel
theorem xd_fe_add_71 : decode xb_fe_add 71 = .ok (.invokevirtual 48, 3) := by decide +kernel
theorem xd_fe_add_74 : decode xb_fe_add 74 = .ok (.iload 6, 2) := by decide +kernel
theorem xd_fe_add_76 : decode xb_fe_add 76 = .ok (.ireturn, 1) := by decide +kernel
theorem xd_fe_isProgram_0 : decode xb_fe_isProgram 0 = .ok (.iload_n 0, 1) := by decide +kernel
theorem xd_fe_isProgram_1 : decode xb_fe_isProgram 1 = .ok (.ifCond .lt 12, 3) := by decide +kernel
theorem xd_fe_isProgram_4 : decode xb_fe_isProgram 4 = .ok (.iload_n 0, 1) := by decide +kernel
theorem xd_fe_isProgram_5 : decode xb_fe_isProgram 5 = .ok (.iconst 3, 1) := by decide +kernel
theorem xd_fe_isProgram_6 : decode xb_fe_isProgram 6 = .ok (.if_icmp .ge 7, 3) := by decide +kernel
theorem xd_fe_isProgram_9 : decode xb_fe_isProgram 9 = .ok (.iconst 1, 1) := by decide +kernel
theorem xd_fe_isProgram_10 : decode xb_fe_isProgram 10 = .ok (.goto 4, 3) := by decide +kernel
theorem xd_fe_isProgram_13 : decode xb_fe_isProgram 13 = .ok (.iconst 0, 1) := by decide +kernel
theorem xd_fe_isProgram_14 : decode xb_fe_isProgram 14 = .ok (.ireturn, 1) := by decide +kernel
theorem xd_fe_isInstruction_0 : decode xb_fe_isInstruction 0 = .ok (.iload_n 0, 1) := by decide +kernel
theorem xd_fe_isInstruction_1 : decode xb_fe_isInstruction 1 = .ok (.ifCond .lt 37, 3) := by decide +kernel
theorem xd_fe_isInstruction_4 : decode xb_fe_isInstruction 4 = .ok (.iload_n 0, 1) := by decide +kernel
theorem xd_fe_isInstruction_5 : decode xb_fe_isInstruction 5 = .ok (.bipush 10, 2) := by decide +kernel
theorem xd_fe_isInstruction_7 : decode xb_fe_isInstruction 7 = .ok (.if_icmp .gt 31, 3) := by decide +kernel
theorem xd_fe_isInstruction_10 : decode xb_fe_isInstruction 10 = .ok (.iload_n 1, 1) := by decide +kernel
theorem xd_fe_isInstruction_11 : decode xb_fe_isInstruction 11 = .ok (.getstatic 213, 3) := by decide +kernel
theorem xd_fe_isInstruction_14 : decode xb_fe_isInstruction 14 = .ok (.iload_n 0, 1) := by decide +kernel
theorem xd_fe_isInstruction_15 : decode xb_fe_isInstruction 15 = .ok (.iaload, 1) := by decide +kernel
theorem xd_fe_isInstruction_16 : decode xb_fe_isInstruction 16 = .ok (.invokestatic 216, 3) := by decide +kernel
theorem xd_fe_isInstruction_19 : decode xb_fe_isInstruction 19 = .ok (.ifCond .eq 19, 3) := by decide +kernel
theorem xd_fe_isInstruction_22 : decode xb_fe_isInstruction 22 = .ok (.iload_n 2, 1) := by decide +kernel
theorem xd_fe_isInstruction_23 : decode xb_fe_isInstruction 23 = .ok (.getstatic 219, 3) := by decide +kernel
theorem xd_fe_isInstruction_26 : decode xb_fe_isInstruction 26 = .ok (.iload_n 0, 1) := by decide +kernel
theorem xd_fe_isInstruction_27 : decode xb_fe_isInstruction 27 = .ok (.iaload, 1) := by decide +kernel
theorem xd_fe_isInstruction_28 : decode xb_fe_isInstruction 28 = .ok (.invokestatic 216, 3) := by decide +kernel
theorem xd_fe_isInstruction_31 : decode xb_fe_isInstruction 31 = .ok (.ifCond .eq 7, 3) := by decide +kernel
theorem xd_fe_isInstruction_34 : decode xb_fe_isInstruction 34 = .ok (.iconst 1, 1) := by decide +kernel
theorem xd_fe_isInstruction_35 : decode xb_fe_isInstruction 35 = .ok (.goto 4, 3) := by decide +kernel
theorem xd_fe_isInstruction_38 : decode xb_fe_isInstruction 38 = .ok (.iconst 0, 1) := by decide +kernel
theorem xd_fe_isInstruction_39 : decode xb_fe_isInstruction 39 = .ok (.ireturn, 1) := by decide +kernel
theorem xd_fe_isWithin_0 : decode xb_fe_isWithin 0 = .ok (.iload_n 1, 1) := by decide +kernel
theorem xd_fe_isWithin_1 : decode xb_fe_isWithin 1 = .ok (.ifCond .eq 12, 3) := by decide +kernel
theorem xd_fe_isWithin_4 : decode xb_fe_isWithin 4 = .ok (.iload_n 0, 1) := by decide +kernel
theorem xd_fe_isWithin_5 : decode xb_fe_isWithin 5 = .ok (.ifCond .lt 12, 3) := by decide +kernel
theorem xd_fe_isWithin_8 : decode xb_fe_isWithin 8 = .ok (.iload_n 0, 1) := by decide +kernel
theorem xd_fe_isWithin_9 : decode xb_fe_isWithin 9 = .ok (.iload_n 1, 1) := by decide +kernel
theorem xd_fe_isWithin_10 : decode xb_fe_isWithin 10 = .ok (.if_icmp .ge 7, 3) := by decide +kernel
theorem xd_fe_isWithin_13 : decode xb_fe_isWithin 13 = .ok (.iconst 1, 1) := by decide +kernel
theorem xd_fe_isWithin_14 : decode xb_fe_isWithin 14 = .ok (.goto 4, 3) := by decide +kernel
theorem xd_fe_isWithin_17 : decode xb_fe_isWithin 17 = .ok (.iconst 0, 1) := by decide +kernel
theorem xd_fe_isWithin_18 : decode xb_fe_isWithin 18 = .ok (.ireturn, 1) := by decide +kernel
theorem xd_fe_forgetAllOf_0 : decode xb_fe_forgetAllOf 0 = .ok (.iconst 0, 1) := by decide +kernel
theorem xd_fe_forgetAllOf_1 : decode xb_fe_forgetAllOf 1 = .ok (.istore_n 2, 1) := by decide +kernel
theorem xd_fe_forgetAllOf_2 : decode xb_fe_forgetAllOf 2 = .ok (.iload_n 2, 1) := by decide +kernel
theorem xd_fe_forgetAllOf_3 : decode xb_fe_forgetAllOf 3 = .ok (.bipush 6, 2) := by decide +kernel
theorem xd_fe_forgetAllOf_5 : decode xb_fe_forgetAllOf 5 = .ok (.if_icmp .ge 43, 3) := by decide +kernel
theorem xd_fe_forgetAllOf_8 : decode xb_fe_forgetAllOf 8 = .ok (.aload_n 0, 1) := by decide +kernel
theorem xd_fe_forgetAllOf_9 : decode xb_fe_forgetAllOf 9 = .ok (.getfield 17, 3) := by decide +kernel
theorem xd_fe_forgetAllOf_12 : decode xb_fe_forgetAllOf 12 = .ok (.iload_n 2, 1) := by decide +kernel
theorem xd_fe_forgetAllOf_13 : decode xb_fe_forgetAllOf 13 = .ok (.aaload, 1) := by decide +kernel
theorem xd_fe_forgetAllOf_14 : decode xb_fe_forgetAllOf 14 = .ok (.astore_n 3, 1) := by decide +kernel
theorem xd_fe_forgetAllOf_15 : decode xb_fe_forgetAllOf 15 = .ok (.aload_n 3, 1) := by decide +kernel
theorem xd_fe_forgetAllOf_16 : decode xb_fe_forgetAllOf 16 = .ok (.getfield 72, 3) := by decide +kernel
theorem xd_fe_forgetAllOf_19 : decode xb_fe_forgetAllOf 19 = .ok (.ifCond .eq 23, 3) := by decide +kernel
theorem xd_fe_forgetAllOf_22 : decode xb_fe_forgetAllOf 22 = .ok (.aload_n 3, 1) := by decide +kernel
theorem xd_fe_forgetAllOf_23 : decode xb_fe_forgetAllOf 23 = .ok (.getfield 146, 3) := by decide +kernel
theorem xd_fe_forgetAllOf_26 : decode xb_fe_forgetAllOf 26 = .ok (.iload_n 1, 1) := by decide +kernel
theorem xd_fe_forgetAllOf_27 : decode xb_fe_forgetAllOf 27 = .ok (.if_icmp .ne 15, 3) := by decide +kernel
theorem xd_fe_forgetAllOf_30 : decode xb_fe_forgetAllOf 30 = .ok (.aload_n 3, 1) := by decide +kernel
theorem xd_fe_forgetAllOf_31 : decode xb_fe_forgetAllOf 31 = .ok (.invokevirtual 76, 3) := by decide +kernel
theorem xd_fe_forgetAllOf_34 : decode xb_fe_forgetAllOf 34 = .ok (.ifCond .ne 8, 3) := by decide +kernel
theorem xd_fe_forgetAllOf_37 : decode xb_fe_forgetAllOf 37 = .ok (.aload_n 3, 1) := by decide +kernel
theorem xd_fe_forgetAllOf_38 : decode xb_fe_forgetAllOf 38 = .ok (.iconst 1, 1) := by decide +kernel
theorem xd_fe_forgetAllOf_39 : decode xb_fe_forgetAllOf 39 = .ok (.putfield 143, 3) := by decide +kernel
theorem xd_fe_forgetAllOf_42 : decode xb_fe_forgetAllOf 42 = .ok (.iinc 2 1, 3) := by decide +kernel
theorem xd_fe_forgetAllOf_45 : decode xb_fe_forgetAllOf 45 = .ok (.goto (-43), 3) := by decide +kernel
theorem xd_fe_forgetAllOf_48 : decode xb_fe_forgetAllOf 48 = .ok (.return_, 1) := by decide +kernel
theorem xd_fe_change_0 : decode xb_fe_change 0 = .ok (.iload_n 1, 1) := by decide +kernel
theorem xd_fe_change_1 : decode xb_fe_change 1 = .ok (.invokestatic 32, 3) := by decide +kernel
theorem xd_fe_change_4 : decode xb_fe_change 4 = .ok (.ifCond .eq 27, 3) := by decide +kernel
theorem xd_fe_change_7 : decode xb_fe_change 7 = .ok (.iload_n 3, 1) := by decide +kernel
theorem xd_fe_change_8 : decode xb_fe_change 8 = .ok (.iload 4, 2) := by decide +kernel
theorem xd_fe_change_10 : decode xb_fe_change 10 = .ok (.iload 5, 2) := by decide +kernel
theorem xd_fe_change_12 : decode xb_fe_change 12 = .ok (.invokestatic 36, 3) := by decide +kernel
theorem xd_fe_change_15 : decode xb_fe_change 15 = .ok (.ifCond .eq 16, 3) := by decide +kernel
theorem xd_fe_change_18 : decode xb_fe_change 18 = .ok (.aload_n 0, 1) := by decide +kernel
theorem xd_fe_change_19 : decode xb_fe_change 19 = .ok (.getfield 11, 3) := by decide +kernel
theorem xd_fe_change_22 : decode xb_fe_change 22 = .ok (.iload_n 1, 1) := by decide +kernel
theorem xd_fe_change_23 : decode xb_fe_change 23 = .ok (.aaload, 1) := by decide +kernel
theorem xd_fe_change_24 : decode xb_fe_change 24 = .ok (.iload_n 2, 1) := by decide +kernel
theorem xd_fe_change_25 : decode xb_fe_change 25 = .ok (.invokevirtual 51, 3) := by decide +kernel
theorem xd_fe_change_28 : decode xb_fe_change 28 = .ok (.ifCond .ne 5, 3) := by decide +kernel
theorem xd_fe_change_31 : decode xb_fe_change 31 = .ok (.iconst 0, 1) := by decide +kernel
theorem xd_fe_change_32 : decode xb_fe_change 32 = .ok (.ireturn, 1) := by decide +kernel
theorem xd_fe_change_33 : decode xb_fe_change 33 = .ok (.aload_n 0, 1) := by decide +kernel
theorem xd_fe_change_34 : decode xb_fe_change 34 = .ok (.getfield 11, 3) := by decide +kernel
theorem xd_fe_change_37 : decode xb_fe_change 37 = .ok (.iload_n 1, 1) := by decide +kernel
theorem xd_fe_change_38 : decode xb_fe_change 38 = .ok (.aaload, 1) := by decide +kernel
theorem xd_fe_change_39 : decode xb_fe_change 39 = .ok (.iload_n 2, 1) := by decide +kernel
theorem xd_fe_change_40 : decode xb_fe_change 40 = .ok (.iload_n 3, 1) := by decide +kernel
theorem xd_fe_change_41 : decode xb_fe_change 41 = .ok (.iload 4, 2) := by decide +kernel
theorem xd_fe_change_43 : decode xb_fe_change 43 = .ok (.iload 5, 2) := by decide +kernel
theorem xd_fe_change_45 : decode xb_fe_change 45 = .ok (.invokevirtual 44, 3) := by decide +kernel
theorem xd_fe_change_48 : decode xb_fe_change 48 = .ok (.aload_n 0, 1) := by decide +kernel
theorem xd_fe_change_49 : decode xb_fe_change 49 = .ok (.iload_n 1, 1) := by decide +kernel
theorem xd_fe_change_50 : decode xb_fe_change 50 = .ok (.invokevirtual 48, 3) := by decide +kernel
theorem xd_fe_change_53 : decode xb_fe_change 53 = .ok (.iconst 1, 1) := by decide +kernel
theorem xd_fe_change_54 : decode xb_fe_change 54 = .ok (.ireturn, 1) := by decide +kernel
theorem xd_fe_start_0 : decode xb_fe_start 0 = .ok (.iload_n 1, 1) := by decide +kernel
theorem xd_fe_start_1 : decode xb_fe_start 1 = .ok (.invokestatic 32, 3) := by decide +kernel
theorem xd_fe_start_4 : decode xb_fe_start 4 = .ok (.ifCond .ne 5, 3) := by decide +kernel
theorem xd_fe_start_7 : decode xb_fe_start 7 = .ok (.iconst (-1), 1) := by decide +kernel
theorem xd_fe_start_8 : decode xb_fe_start 8 = .ok (.ireturn, 1) := by decide +kernel
theorem xd_fe_start_9 : decode xb_fe_start 9 = .ok (.aload_n 0, 1) := by decide +kernel
theorem xd_fe_start_10 : decode xb_fe_start 10 = .ok (.invokevirtual 54, 3) := by decide +kernel
theorem xd_fe_start_13 : decode xb_fe_start 13 = .ok (.istore_n 3, 1) := by decide +kernel
theorem xd_fe_start_14 : decode xb_fe_start 14 = .ok (.iload_n 3, 1) := by decide +kernel
theorem xd_fe_start_15 : decode xb_fe_start 15 = .ok (.ifCond .ge 6, 3) := by decide +kernel
theorem xd_fe_start_18 : decode xb_fe_start 18 = .ok (.bipush (-3), 2) := by decide +kernel
theorem xd_fe_start_20 : decode xb_fe_start 20 = .ok (.ireturn, 1) := by decide +kernel
theorem xd_fe_start_21 : decode xb_fe_start 21 = .ok (.aload_n 0, 1) := by decide +kernel
theorem xd_fe_start_22 : decode xb_fe_start 22 = .ok (.getfield 17, 3) := by decide +kernel
theorem xd_fe_start_25 : decode xb_fe_start 25 = .ok (.iload_n 3, 1) := by decide +kernel
theorem xd_fe_start_26 : decode xb_fe_start 26 = .ok (.aaload, 1) := by decide +kernel
theorem xd_fe_start_27 : decode xb_fe_start 27 = .ok (.iload_n 1, 1) := by decide +kernel
theorem xd_fe_start_28 : decode xb_fe_start 28 = .ok (.iload_n 2, 1) := by decide +kernel
theorem xd_fe_start_29 : decode xb_fe_start 29 = .ok (.invokevirtual 58, 3) := by decide +kernel
theorem xd_fe_start_32 : decode xb_fe_start 32 = .ok (.aload_n 0, 1) := by decide +kernel
theorem xd_fe_start_33 : decode xb_fe_start 33 = .ok (.aload_n 0, 1) := by decide +kernel
theorem xd_fe_start_34 : decode xb_fe_start 34 = .ok (.getfield 17, 3) := by decide +kernel
theorem xd_fe_start_37 : decode xb_fe_start 37 = .ok (.iload_n 3, 1) := by decide +kernel
theorem xd_fe_start_38 : decode xb_fe_start 38 = .ok (.aaload, 1) := by decide +kernel
theorem xd_fe_start_39 : decode xb_fe_start 39 = .ok (.invokevirtual 62, 3) := by decide +kernel
theorem xd_fe_start_42 : decode xb_fe_start 42 = .ok (.iload_n 3, 1) := by decide +kernel
theorem xd_fe_start_43 : decode xb_fe_start 43 = .ok (.ireturn, 1) := by decide +kernel
theorem xd_fe_leastFree_0 : decode xb_fe_leastFree 0 = .ok (.iconst 0, 1) := by decide +kernel
theorem xd_fe_leastFree_1 : decode xb_fe_leastFree 1 = .ok (.istore_n 1, 1) := by decide +kernel
theorem xd_fe_leastFree_2 : decode xb_fe_leastFree 2 = .ok (.iload_n 1, 1) := by decide +kernel
theorem xd_fe_leastFree_3 : decode xb_fe_leastFree 3 = .ok (.bipush 6, 2) := by decide +kernel
theorem xd_fe_leastFree_5 : decode xb_fe_leastFree 5 = .ok (.if_icmp .ge 23, 3) := by decide +kernel
theorem xd_fe_leastFree_8 : decode xb_fe_leastFree 8 = .ok (.aload_n 0, 1) := by decide +kernel
theorem xd_fe_leastFree_9 : decode xb_fe_leastFree 9 = .ok (.getfield 17, 3) := by decide +kernel
theorem xd_fe_leastFree_12 : decode xb_fe_leastFree 12 = .ok (.iload_n 1, 1) := by decide +kernel
theorem xd_fe_leastFree_13 : decode xb_fe_leastFree 13 = .ok (.aaload, 1) := by decide +kernel
theorem xd_fe_leastFree_14 : decode xb_fe_leastFree 14 = .ok (.getfield 72, 3) := by decide +kernel
theorem xd_fe_leastFree_17 : decode xb_fe_leastFree 17 = .ok (.ifCond .ne 5, 3) := by decide +kernel
theorem xd_fe_leastFree_20 : decode xb_fe_leastFree 20 = .ok (.iload_n 1, 1) := by decide +kernel
theorem xd_fe_leastFree_21 : decode xb_fe_leastFree 21 = .ok (.ireturn, 1) := by decide +kernel
theorem xd_fe_leastFree_22 : decode xb_fe_leastFree 22 = .ok (.iinc 1 1, 3) := by decide +kernel
theorem xd_fe_leastFree_25 : decode xb_fe_leastFree 25 = .ok (.goto (-23), 3) := by decide +kernel
theorem xd_fe_leastFree_28 : decode xb_fe_leastFree 28 = .ok (.iconst (-1), 1) := by decide +kernel
theorem xd_fe_leastFree_29 : decode xb_fe_leastFree 29 = .ok (.ireturn, 1) := by decide +kernel
theorem xd_fe_run_0 : decode xb_fe_run 0 = .ok (.iconst 0, 1) := by decide +kernel
theorem xd_fe_run_1 : decode xb_fe_run 1 = .ok (.istore_n 2, 1) := by decide +kernel
theorem xd_fe_run_2 : decode xb_fe_run 2 = .ok (.iload_n 2, 1) := by decide +kernel
theorem xd_fe_run_3 : decode xb_fe_run 3 = .ok (.sipush 1288, 3) := by decide +kernel
theorem xd_fe_run_6 : decode xb_fe_run 6 = .ok (.if_icmp .ge 50, 3) := by decide +kernel
theorem xd_fe_run_9 : decode xb_fe_run 9 = .ok (.aload_n 1, 1) := by decide +kernel
theorem xd_fe_run_10 : decode xb_fe_run 10 = .ok (.getfield 134, 3) := by decide +kernel
theorem xd_fe_run_13 : decode xb_fe_run 13 = .ok (.ifCond .ne 43, 3) := by decide +kernel
theorem xd_fe_run_16 : decode xb_fe_run 16 = .ok (.aload_n 1, 1) := by decide +kernel
theorem xd_fe_run_17 : decode xb_fe_run 17 = .ok (.getfield 243, 3) := by decide +kernel
theorem xd_fe_run_20 : decode xb_fe_run 20 = .ok (.ifCond .eq 11, 3) := by decide +kernel
theorem xd_fe_run_23 : decode xb_fe_run 23 = .ok (.aload_n 0, 1) := by decide +kernel
theorem xd_fe_run_24 : decode xb_fe_run 24 = .ok (.aload_n 1, 1) := by decide +kernel
theorem xd_fe_run_25 : decode xb_fe_run 25 = .ok (.invokevirtual 246, 3) := by decide +kernel
theorem xd_fe_run_28 : decode xb_fe_run 28 = .ok (.goto 8, 3) := by decide +kernel
theorem xd_fe_run_31 : decode xb_fe_run 31 = .ok (.aload_n 0, 1) := by decide +kernel
theorem xd_fe_run_32 : decode xb_fe_run 32 = .ok (.aload_n 1, 1) := by decide +kernel
theorem xd_fe_run_33 : decode xb_fe_run 33 = .ok (.invokevirtual 249, 3) := by decide +kernel
theorem xd_fe_run_36 : decode xb_fe_run 36 = .ok (.aload_n 1, 1) := by decide +kernel
theorem xd_fe_run_37 : decode xb_fe_run 37 = .ok (.getfield 149, 3) := by decide +kernel
theorem xd_fe_run_40 : decode xb_fe_run 40 = .ok (.invokevirtual 252, 3) := by decide +kernel
theorem xd_fe_run_43 : decode xb_fe_run 43 = .ok (.ifCond .eq 7, 3) := by decide +kernel
theorem xd_fe_run_46 : decode xb_fe_run 46 = .ok (.aload_n 1, 1) := by decide +kernel
theorem xd_fe_run_47 : decode xb_fe_run 47 = .ok (.invokevirtual 255, 3) := by decide +kernel
theorem xd_fe_run_50 : decode xb_fe_run 50 = .ok (.iinc 2 1, 3) := by decide +kernel
theorem xd_fe_run_53 : decode xb_fe_run 53 = .ok (.goto (-51), 3) := by decide +kernel
theorem xd_fe_run_56 : decode xb_fe_run 56 = .ok (.aload_n 1, 1) := by decide +kernel
theorem xd_fe_run_57 : decode xb_fe_run 57 = .ok (.invokevirtual 76, 3) := by decide +kernel
theorem xd_fe_run_60 : decode xb_fe_run 60 = .ok (.ifCond .eq 8, 3) := by decide +kernel
theorem xd_fe_run_63 : decode xb_fe_run 63 = .ok (.aload_n 0, 1) := by decide +kernel
theorem xd_fe_run_64 : decode xb_fe_run 64 = .ok (.aload_n 1, 1) := by decide +kernel
theorem xd_fe_run_65 : decode xb_fe_run 65 = .ok (.invokevirtual 258, 3) := by decide +kernel
theorem xd_fe_run_68 : decode xb_fe_run 68 = .ok (.return_, 1) := by decide +kernel
theorem xd_fe_undoLatest_0 : decode xb_fe_undoLatest 0 = .ok (.aload_n 1, 1) := by decide +kernel
theorem xd_fe_undoLatest_1 : decode xb_fe_undoLatest 1 = .ok (.getfield 162, 3) := by decide +kernel
theorem xd_fe_undoLatest_4 : decode xb_fe_undoLatest 4 = .ok (.astore_n 2, 1) := by decide +kernel
theorem xd_fe_undoLatest_5 : decode xb_fe_undoLatest 5 = .ok (.aload_n 2, 1) := by decide +kernel
theorem xd_fe_undoLatest_6 : decode xb_fe_undoLatest 6 = .ok (.getfield 166, 3) := by decide +kernel
theorem xd_fe_undoLatest_9 : decode xb_fe_undoLatest 9 = .ok (.ifCond .gt 10, 3) := by decide +kernel
theorem xd_fe_undoLatest_12 : decode xb_fe_undoLatest 12 = .ok (.aload_n 1, 1) := by decide +kernel
theorem xd_fe_undoLatest_13 : decode xb_fe_undoLatest 13 = .ok (.bipush 6, 2) := by decide +kernel
theorem xd_fe_undoLatest_15 : decode xb_fe_undoLatest 15 = .ok (.putfield 134, 3) := by decide +kernel
theorem xd_fe_undoLatest_18 : decode xb_fe_undoLatest 18 = .ok (.return_, 1) := by decide +kernel
theorem xd_fe_undoLatest_19 : decode xb_fe_undoLatest 19 = .ok (.aload_n 2, 1) := by decide +kernel
theorem xd_fe_undoLatest_20 : decode xb_fe_undoLatest 20 = .ok (.dup, 1) := by decide +kernel
theorem xd_fe_undoLatest_21 : decode xb_fe_undoLatest 21 = .ok (.getfield 166, 3) := by decide +kernel
theorem xd_fe_undoLatest_24 : decode xb_fe_undoLatest 24 = .ok (.iconst 1, 1) := by decide +kernel
theorem xd_fe_undoLatest_25 : decode xb_fe_undoLatest 25 = .ok (.isub, 1) := by decide +kernel
theorem xd_fe_undoLatest_26 : decode xb_fe_undoLatest 26 = .ok (.putfield 166, 3) := by decide +kernel
theorem xd_fe_undoLatest_29 : decode xb_fe_undoLatest 29 = .ok (.aload_n 0, 1) := by decide +kernel
theorem xd_fe_undoLatest_30 : decode xb_fe_undoLatest 30 = .ok (.aload_n 1, 1) := by decide +kernel
theorem xd_fe_undoLatest_31 : decode xb_fe_undoLatest 31 = .ok (.iconst 4, 1) := by decide +kernel
theorem xd_fe_undoLatest_32 : decode xb_fe_undoLatest 32 = .ok (.aload_n 2, 1) := by decide +kernel
theorem xd_fe_undoLatest_33 : decode xb_fe_undoLatest 33 = .ok (.getfield 306, 3) := by decide +kernel
theorem xd_fe_undoLatest_36 : decode xb_fe_undoLatest 36 = .ok (.aload_n 2, 1) := by decide +kernel
theorem xd_fe_undoLatest_37 : decode xb_fe_undoLatest 37 = .ok (.getfield 166, 3) := by decide +kernel
theorem xd_fe_undoLatest_40 : decode xb_fe_undoLatest 40 = .ok (.iaload, 1) := by decide +kernel
theorem xd_fe_undoLatest_41 : decode xb_fe_undoLatest 41 = .ok (.aload_n 2, 1) := by decide +kernel
theorem xd_fe_undoLatest_42 : decode xb_fe_undoLatest 42 = .ok (.getfield 309, 3) := by decide +kernel
theorem xd_fe_undoLatest_45 : decode xb_fe_undoLatest 45 = .ok (.aload_n 2, 1) := by decide +kernel
theorem xd_fe_undoLatest_46 : decode xb_fe_undoLatest 46 = .ok (.getfield 166, 3) := by decide +kernel
theorem xd_fe_undoLatest_49 : decode xb_fe_undoLatest 49 = .ok (.iaload, 1) := by decide +kernel
theorem xd_fe_undoLatest_50 : decode xb_fe_undoLatest 50 = .ok (.invokevirtual 274, 3) := by decide +kernel
theorem xd_fe_undoLatest_53 : decode xb_fe_undoLatest 53 = .ok (.return_, 1) := by decide +kernel
theorem xd_fe_want_0 : decode xb_fe_want 0 = .ok (.aload_n 1, 1) := by decide +kernel
theorem xd_fe_want_1 : decode xb_fe_want 1 = .ok (.getfield 149, 3) := by decide +kernel
theorem xd_fe_want_4 : decode xb_fe_want 4 = .ok (.invokevirtual 252, 3) := by decide +kernel
theorem xd_fe_want_7 : decode xb_fe_want 7 = .ok (.ifCond .ne 7, 3) := by decide +kernel
theorem xd_fe_want_10 : decode xb_fe_want 10 = .ok (.iconst 1, 1) := by decide +kernel
theorem xd_fe_want_11 : decode xb_fe_want 11 = .ok (.goto 4, 3) := by decide +kernel
theorem xd_fe_want_14 : decode xb_fe_want 14 = .ok (.iconst 0, 1) := by decide +kernel
theorem xd_fe_want_15 : decode xb_fe_want 15 = .ok (.istore 5, 2) := by decide +kernel
theorem xd_fe_want_17 : decode xb_fe_want 17 = .ok (.aload_n 1, 1) := by decide +kernel
theorem xd_fe_want_18 : decode xb_fe_want 18 = .ok (.getfield 149, 3) := by decide +kernel
theorem xd_fe_want_21 : decode xb_fe_want 21 = .ok (.iconst 2, 1) := by decide +kernel
theorem xd_fe_want_22 : decode xb_fe_want 22 = .ok (.iload_n 3, 1) := by decide +kernel
theorem xd_fe_want_23 : decode xb_fe_want 23 = .ok (.iload 4, 2) := by decide +kernel
theorem xd_fe_want_25 : decode xb_fe_want 25 = .ok (.invokevirtual 225, 3) := by decide +kernel
theorem xd_fe_want_28 : decode xb_fe_want 28 = .ok (.ifCond .ne 10, 3) := by decide +kernel
theorem xd_fe_want_31 : decode xb_fe_want 31 = .ok (.aload_n 1, 1) := by decide +kernel
theorem xd_fe_want_32 : decode xb_fe_want 32 = .ok (.bipush 7, 2) := by decide +kernel
theorem xd_fe_want_34 : decode xb_fe_want 34 = .ok (.putfield 134, 3) := by decide +kernel
theorem xd_fe_want_37 : decode xb_fe_want 37 = .ok (.return_, 1) := by decide +kernel
theorem xd_fe_want_38 : decode xb_fe_want 38 = .ok (.aload_n 1, 1) := by decide +kernel
theorem xd_fe_want_39 : decode xb_fe_want 39 = .ok (.iload_n 2, 1) := by decide +kernel
theorem xd_fe_want_40 : decode xb_fe_want 40 = .ok (.putfield 134, 3) := by decide +kernel
theorem xd_fe_want_43 : decode xb_fe_want 43 = .ok (.aload_n 1, 1) := by decide +kernel
theorem xd_fe_want_44 : decode xb_fe_want 44 = .ok (.iload_n 3, 1) := by decide +kernel
theorem xd_fe_want_45 : decode xb_fe_want 45 = .ok (.putfield 291, 3) := by decide +kernel
theorem xd_fe_want_48 : decode xb_fe_want 48 = .ok (.iload 5, 2) := by decide +kernel
theorem xd_fe_want_50 : decode xb_fe_want 50 = .ok (.ifCond .eq 22, 3) := by decide +kernel
theorem xd_fe_want_53 : decode xb_fe_want 53 = .ok (.aload_n 1, 1) := by decide +kernel
theorem xd_fe_want_54 : decode xb_fe_want 54 = .ok (.getfield 107, 3) := by decide +kernel
theorem xd_fe_want_57 : decode xb_fe_want 57 = .ok (.iload_n 3, 1) := by decide +kernel
theorem xd_fe_want_58 : decode xb_fe_want 58 = .ok (.invokevirtual 294, 3) := by decide +kernel
theorem xd_fe_want_61 : decode xb_fe_want 61 = .ok (.aload_n 0, 1) := by decide +kernel
theorem xd_fe_want_62 : decode xb_fe_want 62 = .ok (.getfield 24, 3) := by decide +kernel
theorem xd_fe_want_65 : decode xb_fe_want 65 = .ok (.aload_n 1, 1) := by decide +kernel
theorem xd_fe_want_66 : decode xb_fe_want 66 = .ok (.getfield 237, 3) := by decide +kernel
theorem xd_fe_want_69 : decode xb_fe_want 69 = .ok (.invokevirtual 240, 3) := by decide +kernel
theorem xd_fe_want_72 : decode xb_fe_want 72 = .ok (.return_, 1) := by decide +kernel
theorem xd_fe_step_0 : decode xb_fe_step 0 = .ok (.aload_n 1, 1) := by decide +kernel
theorem xd_fe_step_1 : decode xb_fe_step 1 = .ok (.getfield 228, 3) := by decide +kernel
theorem xd_fe_step_4 : decode xb_fe_step 4 = .ok (.bipush 60, 2) := by decide +kernel
theorem xd_fe_step_6 : decode xb_fe_step 6 = .ok (.if_icmp .lt 10, 3) := by decide +kernel
theorem xd_fe_step_9 : decode xb_fe_step 9 = .ok (.aload_n 1, 1) := by decide +kernel
theorem xd_fe_step_10 : decode xb_fe_step 10 = .ok (.bipush 7, 2) := by decide +kernel
theorem xd_fe_step_12 : decode xb_fe_step 12 = .ok (.putfield 134, 3) := by decide +kernel
theorem xd_fe_step_15 : decode xb_fe_step 15 = .ok (.return_, 1) := by decide +kernel
theorem xd_fe_step_16 : decode xb_fe_step 16 = .ok (.aload_n 1, 1) := by decide +kernel
theorem xd_fe_step_17 : decode xb_fe_step 17 = .ok (.dup, 1) := by decide +kernel
theorem xd_fe_step_18 : decode xb_fe_step 18 = .ok (.getfield 228, 3) := by decide +kernel
theorem xd_fe_step_21 : decode xb_fe_step 21 = .ok (.iconst 1, 1) := by decide +kernel
theorem xd_fe_step_22 : decode xb_fe_step 22 = .ok (.iadd, 1) := by decide +kernel
theorem xd_fe_step_23 : decode xb_fe_step 23 = .ok (.putfield 228, 3) := by decide +kernel
theorem xd_fe_step_26 : decode xb_fe_step 26 = .ok (.aload_n 1, 1) := by decide +kernel
theorem xd_fe_step_27 : decode xb_fe_step 27 = .ok (.getfield 149, 3) := by decide +kernel
theorem xd_fe_step_30 : decode xb_fe_step 30 = .ok (.invokevirtual 252, 3) := by decide +kernel
theorem xd_fe_step_33 : decode xb_fe_step 33 = .ok (.ifCond .eq 16, 3) := by decide +kernel
theorem xd_fe_step_36 : decode xb_fe_step 36 = .ok (.aload_n 0, 1) := by decide +kernel
theorem xd_fe_step_37 : decode xb_fe_step 37 = .ok (.dup, 1) := by decide +kernel
theorem xd_fe_step_38 : decode xb_fe_step 38 = .ok (.getfield 195, 3) := by decide +kernel
theorem xd_fe_step_41 : decode xb_fe_step 41 = .ok (.iconst 1, 1) := by decide +kernel
theorem xd_fe_step_42 : decode xb_fe_step 42 = .ok (.iadd, 1) := by decide +kernel
theorem xd_fe_step_43 : decode xb_fe_step 43 = .ok (.putfield 195, 3) := by decide +kernel
theorem xd_fe_step_46 : decode xb_fe_step 46 = .ok (.goto 13, 3) := by decide +kernel
theorem xd_fe_step_49 : decode xb_fe_step 49 = .ok (.aload_n 0, 1) := by decide +kernel
theorem xd_fe_step_50 : decode xb_fe_step 50 = .ok (.dup, 1) := by decide +kernel
theorem xd_fe_step_51 : decode xb_fe_step 51 = .ok (.getfield 192, 3) := by decide +kernel
theorem xd_fe_step_54 : decode xb_fe_step 54 = .ok (.iconst 1, 1) := by decide +kernel
theorem xd_fe_step_55 : decode xb_fe_step 55 = .ok (.iadd, 1) := by decide +kernel
theorem xd_fe_step_56 : decode xb_fe_step 56 = .ok (.putfield 192, 3) := by decide +kernel
theorem xd_fe_step_59 : decode xb_fe_step 59 = .ok (.aload_n 0, 1) := by decide +kernel
theorem xd_fe_step_60 : decode xb_fe_step 60 = .ok (.getfield 11, 3) := by decide +kernel
theorem xd_fe_step_63 : decode xb_fe_step 63 = .ok (.aload_n 1, 1) := by decide +kernel
theorem xd_fe_step_64 : decode xb_fe_step 64 = .ok (.getfield 146, 3) := by decide +kernel
theorem xd_fe_step_67 : decode xb_fe_step 67 = .ok (.aaload, 1) := by decide +kernel
theorem xd_fe_step_68 : decode xb_fe_step 68 = .ok (.astore_n 2, 1) := by decide +kernel
theorem xd_fe_step_69 : decode xb_fe_step 69 = .ok (.aload_n 2, 1) := by decide +kernel
theorem xd_fe_step_70 : decode xb_fe_step 70 = .ok (.aload_n 1, 1) := by decide +kernel
theorem xd_fe_step_71 : decode xb_fe_step 71 = .ok (.getfield 159, 3) := by decide +kernel
theorem xd_fe_step_74 : decode xb_fe_step 74 = .ok (.invokevirtual 261, 3) := by decide +kernel
theorem xd_fe_step_77 : decode xb_fe_step 77 = .ok (.istore_n 3, 1) := by decide +kernel
theorem xd_fe_step_78 : decode xb_fe_step 78 = .ok (.aload_n 2, 1) := by decide +kernel
theorem xd_fe_step_79 : decode xb_fe_step 79 = .ok (.aload_n 1, 1) := by decide +kernel
theorem xd_fe_step_80 : decode xb_fe_step 80 = .ok (.getfield 159, 3) := by decide +kernel
theorem xd_fe_step_83 : decode xb_fe_step 83 = .ok (.invokevirtual 265, 3) := by decide +kernel
theorem xd_fe_step_86 : decode xb_fe_step 86 = .ok (.istore 4, 2) := by decide +kernel
theorem xd_fe_step_88 : decode xb_fe_step 88 = .ok (.aload_n 2, 1) := by decide +kernel
theorem xd_fe_step_89 : decode xb_fe_step 89 = .ok (.aload_n 1, 1) := by decide +kernel
theorem xd_fe_step_90 : decode xb_fe_step 90 = .ok (.getfield 159, 3) := by decide +kernel
theorem xd_fe_step_93 : decode xb_fe_step 93 = .ok (.invokevirtual 268, 3) := by decide +kernel
theorem xd_fe_step_96 : decode xb_fe_step 96 = .ok (.istore 5, 2) := by decide +kernel
theorem xd_fe_step_98 : decode xb_fe_step 98 = .ok (.iload_n 3, 1) := by decide +kernel
theorem xd_fe_step_99 : decode xb_fe_step 99 = .ok (.tableswitch 135 5 10 #[37, 61, 76, 92, 108, 116], 37) := by decide +kernel
theorem xd_fe_step_136 : decode xb_fe_step 136 = .ok (.aload_n 1, 1) := by decide +kernel
theorem xd_fe_step_137 : decode xb_fe_step 137 = .ok (.iload 5, 2) := by decide +kernel
theorem xd_fe_step_139 : decode xb_fe_step 139 = .ok (.putfield 271, 3) := by decide +kernel
theorem xd_fe_step_142 : decode xb_fe_step 142 = .ok (.aload_n 0, 1) := by decide +kernel
theorem xd_fe_step_143 : decode xb_fe_step 143 = .ok (.aload_n 1, 1) := by decide +kernel
theorem xd_fe_step_144 : decode xb_fe_step 144 = .ok (.iconst 1, 1) := by decide +kernel
theorem xd_fe_step_145 : decode xb_fe_step 145 = .ok (.iload 4, 2) := by decide +kernel
theorem xd_fe_step_147 : decode xb_fe_step 147 = .ok (.aload_n 1, 1) := by decide +kernel
theorem xd_fe_step_148 : decode xb_fe_step 148 = .ok (.getfield 176, 3) := by decide +kernel
theorem xd_fe_step_151 : decode xb_fe_step 151 = .ok (.iload 5, 2) := by decide +kernel
theorem xd_fe_step_153 : decode xb_fe_step 153 = .ok (.iaload, 1) := by decide +kernel
theorem xd_fe_step_154 : decode xb_fe_step 154 = .ok (.invokevirtual 274, 3) := by decide +kernel
theorem xd_fe_step_157 : decode xb_fe_step 157 = .ok (.goto 86, 3) := by decide +kernel
theorem xd_fe_step_160 : decode xb_fe_step 160 = .ok (.aload_n 0, 1) := by decide +kernel
theorem xd_fe_step_161 : decode xb_fe_step 161 = .ok (.aload_n 1, 1) := by decide +kernel
theorem xd_fe_step_162 : decode xb_fe_step 162 = .ok (.aload_n 1, 1) := by decide +kernel
theorem xd_fe_step_163 : decode xb_fe_step 163 = .ok (.getfield 176, 3) := by decide +kernel
theorem xd_fe_step_166 : decode xb_fe_step 166 = .ok (.iload 4, 2) := by decide +kernel
theorem xd_fe_step_168 : decode xb_fe_step 168 = .ok (.iaload, 1) := by decide +kernel
theorem xd_fe_step_169 : decode xb_fe_step 169 = .ok (.invokevirtual 277, 3) := by decide +kernel
theorem xd_fe_step_172 : decode xb_fe_step 172 = .ok (.goto 71, 3) := by decide +kernel
theorem xd_fe_step_175 : decode xb_fe_step 175 = .ok (.aload_n 1, 1) := by decide +kernel
theorem xd_fe_step_176 : decode xb_fe_step 176 = .ok (.iload 5, 2) := by decide +kernel
theorem xd_fe_step_178 : decode xb_fe_step 178 = .ok (.putfield 271, 3) := by decide +kernel
theorem xd_fe_step_181 : decode xb_fe_step 181 = .ok (.aload_n 0, 1) := by decide +kernel
theorem xd_fe_step_182 : decode xb_fe_step 182 = .ok (.aload_n 1, 1) := by decide +kernel
theorem xd_fe_step_183 : decode xb_fe_step 183 = .ok (.iload 4, 2) := by decide +kernel
theorem xd_fe_step_185 : decode xb_fe_step 185 = .ok (.invokevirtual 281, 3) := by decide +kernel
theorem xd_fe_step_188 : decode xb_fe_step 188 = .ok (.goto 55, 3) := by decide +kernel
theorem xd_fe_step_191 : decode xb_fe_step 191 = .ok (.aload_n 1, 1) := by decide +kernel
theorem xd_fe_step_192 : decode xb_fe_step 192 = .ok (.iload 4, 2) := by decide +kernel
theorem xd_fe_step_194 : decode xb_fe_step 194 = .ok (.aload_n 1, 1) := by decide +kernel
theorem xd_fe_step_195 : decode xb_fe_step 195 = .ok (.getfield 176, 3) := by decide +kernel
theorem xd_fe_step_198 : decode xb_fe_step 198 = .ok (.iload 5, 2) := by decide +kernel
theorem xd_fe_step_200 : decode xb_fe_step 200 = .ok (.iaload, 1) := by decide +kernel
theorem xd_fe_step_201 : decode xb_fe_step 201 = .ok (.invokevirtual 284, 3) := by decide +kernel
theorem xd_fe_step_204 : decode xb_fe_step 204 = .ok (.goto 39, 3) := by decide +kernel
theorem xd_fe_step_207 : decode xb_fe_step 207 = .ok (.aload_n 1, 1) := by decide +kernel
theorem xd_fe_step_208 : decode xb_fe_step 208 = .ok (.iconst 1, 1) := by decide +kernel
theorem xd_fe_step_209 : decode xb_fe_step 209 = .ok (.putfield 243, 3) := by decide +kernel
theorem xd_fe_step_212 : decode xb_fe_step 212 = .ok (.goto 31, 3) := by decide +kernel
theorem xd_fe_step_215 : decode xb_fe_step 215 = .ok (.aload_n 1, 1) := by decide +kernel
theorem xd_fe_step_216 : decode xb_fe_step 216 = .ok (.aload_n 1, 1) := by decide +kernel
theorem xd_fe_step_217 : decode xb_fe_step 217 = .ok (.getfield 176, 3) := by decide +kernel
theorem xd_fe_step_220 : decode xb_fe_step 220 = .ok (.iload 4, 2) := by decide +kernel
theorem xd_fe_step_222 : decode xb_fe_step 222 = .ok (.iaload, 1) := by decide +kernel
theorem xd_fe_step_223 : decode xb_fe_step 223 = .ok (.putfield 169, 3) := by decide +kernel
theorem xd_fe_step_226 : decode xb_fe_step 226 = .ok (.aload_n 1, 1) := by decide +kernel
theorem xd_fe_step_227 : decode xb_fe_step 227 = .ok (.iconst 5, 1) := by decide +kernel
theorem xd_fe_step_228 : decode xb_fe_step 228 = .ok (.putfield 134, 3) := by decide +kernel
theorem xd_fe_step_231 : decode xb_fe_step 231 = .ok (.goto 12, 3) := by decide +kernel
theorem xd_fe_step_234 : decode xb_fe_step 234 = .ok (.aload_n 1, 1) := by decide +kernel
theorem xd_fe_step_235 : decode xb_fe_step 235 = .ok (.iload_n 3, 1) := by decide +kernel
theorem xd_fe_step_236 : decode xb_fe_step 236 = .ok (.iload 4, 2) := by decide +kernel
theorem xd_fe_step_238 : decode xb_fe_step 238 = .ok (.iload 5, 2) := by decide +kernel
theorem xd_fe_step_240 : decode xb_fe_step 240 = .ok (.invokevirtual 287, 3) := by decide +kernel
theorem xd_fe_step_243 : decode xb_fe_step 243 = .ok (.return_, 1) := by decide +kernel
theorem xd_fe_sleep_0 : decode xb_fe_sleep 0 = .ok (.iload_n 2, 1) := by decide +kernel
theorem xd_fe_sleep_1 : decode xb_fe_sleep 1 = .ok (.iconst 1, 1) := by decide +kernel
theorem xd_fe_sleep_2 : decode xb_fe_sleep 2 = .ok (.if_icmp .ge 14, 3) := by decide +kernel
theorem xd_fe_sleep_5 : decode xb_fe_sleep 5 = .ok (.aload_n 1, 1) := by decide +kernel
theorem xd_fe_sleep_6 : decode xb_fe_sleep 6 = .ok (.dup, 1) := by decide +kernel
theorem xd_fe_sleep_7 : decode xb_fe_sleep 7 = .ok (.getfield 159, 3) := by decide +kernel
theorem xd_fe_sleep_10 : decode xb_fe_sleep 10 = .ok (.iconst 1, 1) := by decide +kernel
theorem xd_fe_sleep_11 : decode xb_fe_sleep 11 = .ok (.iadd, 1) := by decide +kernel
theorem xd_fe_sleep_12 : decode xb_fe_sleep 12 = .ok (.putfield 159, 3) := by decide +kernel
theorem xd_fe_sleep_15 : decode xb_fe_sleep 15 = .ok (.return_, 1) := by decide +kernel
theorem xd_fe_sleep_16 : decode xb_fe_sleep 16 = .ok (.aload_n 1, 1) := by decide +kernel
theorem xd_fe_sleep_17 : decode xb_fe_sleep 17 = .ok (.getfield 149, 3) := by decide +kernel
theorem xd_fe_sleep_20 : decode xb_fe_sleep 20 = .ok (.invokevirtual 252, 3) := by decide +kernel
theorem xd_fe_sleep_23 : decode xb_fe_sleep 23 = .ok (.ifCond .ne 7, 3) := by decide +kernel
theorem xd_fe_sleep_26 : decode xb_fe_sleep 26 = .ok (.iconst 1, 1) := by decide +kernel
theorem xd_fe_sleep_27 : decode xb_fe_sleep 27 = .ok (.goto 4, 3) := by decide +kernel
theorem xd_fe_sleep_30 : decode xb_fe_sleep 30 = .ok (.iconst 0, 1) := by decide +kernel
theorem xd_fe_sleep_31 : decode xb_fe_sleep 31 = .ok (.istore_n 3, 1) := by decide +kernel
theorem xd_fe_sleep_32 : decode xb_fe_sleep 32 = .ok (.aload_n 1, 1) := by decide +kernel
theorem xd_fe_sleep_33 : decode xb_fe_sleep 33 = .ok (.getfield 149, 3) := by decide +kernel
theorem xd_fe_sleep_36 : decode xb_fe_sleep 36 = .ok (.iconst 5, 1) := by decide +kernel
theorem xd_fe_sleep_37 : decode xb_fe_sleep 37 = .ok (.iload_n 2, 1) := by decide +kernel
theorem xd_fe_sleep_38 : decode xb_fe_sleep 38 = .ok (.iconst 0, 1) := by decide +kernel
theorem xd_fe_sleep_39 : decode xb_fe_sleep 39 = .ok (.invokevirtual 225, 3) := by decide +kernel
theorem xd_fe_sleep_42 : decode xb_fe_sleep 42 = .ok (.ifCond .ne 10, 3) := by decide +kernel
theorem xd_fe_sleep_45 : decode xb_fe_sleep 45 = .ok (.aload_n 1, 1) := by decide +kernel
theorem xd_fe_sleep_46 : decode xb_fe_sleep 46 = .ok (.bipush 7, 2) := by decide +kernel
theorem xd_fe_sleep_48 : decode xb_fe_sleep 48 = .ok (.putfield 134, 3) := by decide +kernel
theorem xd_fe_sleep_51 : decode xb_fe_sleep 51 = .ok (.return_, 1) := by decide +kernel
theorem xd_fe_sleep_52 : decode xb_fe_sleep 52 = .ok (.aload_n 1, 1) := by decide +kernel
theorem xd_fe_sleep_53 : decode xb_fe_sleep 53 = .ok (.iconst 2, 1) := by decide +kernel
theorem xd_fe_sleep_54 : decode xb_fe_sleep 54 = .ok (.putfield 134, 3) := by decide +kernel
theorem xd_fe_sleep_57 : decode xb_fe_sleep 57 = .ok (.iload_n 3, 1) := by decide +kernel
theorem xd_fe_sleep_58 : decode xb_fe_sleep 58 = .ok (.ifCond .eq 15, 3) := by decide +kernel
theorem xd_fe_sleep_61 : decode xb_fe_sleep 61 = .ok (.aload_n 1, 1) := by decide +kernel
theorem xd_fe_sleep_62 : decode xb_fe_sleep 62 = .ok (.aload_n 0, 1) := by decide +kernel
theorem xd_fe_sleep_63 : decode xb_fe_sleep 63 = .ok (.getfield 116, 3) := by decide +kernel
theorem xd_fe_sleep_66 : decode xb_fe_sleep 66 = .ok (.i2l, 1) := by decide +kernel
theorem xd_fe_sleep_67 : decode xb_fe_sleep 67 = .ok (.iload_n 2, 1) := by decide +kernel
theorem xd_fe_sleep_68 : decode xb_fe_sleep 68 = .ok (.i2l, 1) := by decide +kernel
theorem xd_fe_sleep_69 : decode xb_fe_sleep 69 = .ok (.ladd, 1) := by decide +kernel
theorem xd_fe_sleep_70 : decode xb_fe_sleep 70 = .ok (.putfield 297, 3) := by decide +kernel
theorem xd_fe_sleep_73 : decode xb_fe_sleep 73 = .ok (.return_, 1) := by decide +kernel
