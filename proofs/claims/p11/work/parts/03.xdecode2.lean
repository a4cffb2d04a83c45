theorem xd_fe_awaitSignal_0 : decode xb_fe_awaitSignal 0 = .ok (.aload_n 1, 1) := by decide +kernel
theorem xd_fe_awaitSignal_1 : decode xb_fe_awaitSignal 1 = .ok (.iconst 3, 1) := by decide +kernel
theorem xd_fe_awaitSignal_2 : decode xb_fe_awaitSignal 2 = .ok (.putfield 134, 3) := by decide +kernel
theorem xd_fe_awaitSignal_5 : decode xb_fe_awaitSignal 5 = .ok (.aload_n 1, 1) := by decide +kernel
theorem xd_fe_awaitSignal_6 : decode xb_fe_awaitSignal 6 = .ok (.iload_n 2, 1) := by decide +kernel
theorem xd_fe_awaitSignal_7 : decode xb_fe_awaitSignal 7 = .ok (.putfield 291, 3) := by decide +kernel
theorem xd_fe_awaitSignal_10 : decode xb_fe_awaitSignal 10 = .ok (.aload_n 1, 1) := by decide +kernel
theorem xd_fe_awaitSignal_11 : decode xb_fe_awaitSignal 11 = .ok (.getfield 80, 3) := by decide +kernel
theorem xd_fe_awaitSignal_14 : decode xb_fe_awaitSignal 14 = .ok (.iload_n 2, 1) := by decide +kernel
theorem xd_fe_awaitSignal_15 : decode xb_fe_awaitSignal 15 = .ok (.invokevirtual 301, 3) := by decide +kernel
theorem xd_fe_awaitSignal_18 : decode xb_fe_awaitSignal 18 = .ok (.istore_n 3, 1) := by decide +kernel
theorem xd_fe_awaitSignal_19 : decode xb_fe_awaitSignal 19 = .ok (.aload_n 1, 1) := by decide +kernel
theorem xd_fe_awaitSignal_20 : decode xb_fe_awaitSignal 20 = .ok (.getfield 149, 3) := by decide +kernel
theorem xd_fe_awaitSignal_23 : decode xb_fe_awaitSignal 23 = .ok (.invokevirtual 252, 3) := by decide +kernel
theorem xd_fe_awaitSignal_26 : decode xb_fe_awaitSignal 26 = .ok (.ifCond .ne 7, 3) := by decide +kernel
theorem xd_fe_awaitSignal_29 : decode xb_fe_awaitSignal 29 = .ok (.iload_n 3, 1) := by decide +kernel
theorem xd_fe_awaitSignal_30 : decode xb_fe_awaitSignal 30 = .ok (.ifCond .ge 4, 3) := by decide +kernel
theorem xd_fe_awaitSignal_33 : decode xb_fe_awaitSignal 33 = .ok (.return_, 1) := by decide +kernel
theorem xd_fe_awaitSignal_34 : decode xb_fe_awaitSignal 34 = .ok (.aload_n 1, 1) := by decide +kernel
theorem xd_fe_awaitSignal_35 : decode xb_fe_awaitSignal 35 = .ok (.getfield 80, 3) := by decide +kernel
theorem xd_fe_awaitSignal_38 : decode xb_fe_awaitSignal 38 = .ok (.getfield 304, 3) := by decide +kernel
theorem xd_fe_awaitSignal_41 : decode xb_fe_awaitSignal 41 = .ok (.iload_n 3, 1) := by decide +kernel
theorem xd_fe_awaitSignal_42 : decode xb_fe_awaitSignal 42 = .ok (.iaload, 1) := by decide +kernel
theorem xd_fe_awaitSignal_43 : decode xb_fe_awaitSignal 43 = .ok (.istore 4, 2) := by decide +kernel
theorem xd_fe_awaitSignal_45 : decode xb_fe_awaitSignal 45 = .ok (.aload_n 1, 1) := by decide +kernel
theorem xd_fe_awaitSignal_46 : decode xb_fe_awaitSignal 46 = .ok (.getfield 149, 3) := by decide +kernel
theorem xd_fe_awaitSignal_49 : decode xb_fe_awaitSignal 49 = .ok (.bipush 7, 2) := by decide +kernel
theorem xd_fe_awaitSignal_51 : decode xb_fe_awaitSignal 51 = .ok (.iload_n 2, 1) := by decide +kernel
theorem xd_fe_awaitSignal_52 : decode xb_fe_awaitSignal 52 = .ok (.iload 4, 2) := by decide +kernel
theorem xd_fe_awaitSignal_54 : decode xb_fe_awaitSignal 54 = .ok (.invokevirtual 225, 3) := by decide +kernel
theorem xd_fe_awaitSignal_57 : decode xb_fe_awaitSignal 57 = .ok (.ifCond .ne 10, 3) := by decide +kernel
theorem xd_fe_awaitSignal_60 : decode xb_fe_awaitSignal 60 = .ok (.aload_n 1, 1) := by decide +kernel
theorem xd_fe_awaitSignal_61 : decode xb_fe_awaitSignal 61 = .ok (.bipush 7, 2) := by decide +kernel
theorem xd_fe_awaitSignal_63 : decode xb_fe_awaitSignal 63 = .ok (.putfield 134, 3) := by decide +kernel
theorem xd_fe_awaitSignal_66 : decode xb_fe_awaitSignal 66 = .ok (.return_, 1) := by decide +kernel
theorem xd_fe_awaitSignal_67 : decode xb_fe_awaitSignal 67 = .ok (.aload_n 1, 1) := by decide +kernel
theorem xd_fe_awaitSignal_68 : decode xb_fe_awaitSignal 68 = .ok (.getfield 80, 3) := by decide +kernel
theorem xd_fe_awaitSignal_71 : decode xb_fe_awaitSignal 71 = .ok (.iload_n 3, 1) := by decide +kernel
theorem xd_fe_awaitSignal_72 : decode xb_fe_awaitSignal 72 = .ok (.invokevirtual 305, 3) := by decide +kernel
theorem xd_fe_awaitSignal_75 : decode xb_fe_awaitSignal 75 = .ok (.aload_n 1, 1) := by decide +kernel
theorem xd_fe_awaitSignal_76 : decode xb_fe_awaitSignal 76 = .ok (.bipush 7, 2) := by decide +kernel
theorem xd_fe_awaitSignal_78 : decode xb_fe_awaitSignal 78 = .ok (.iload 4, 2) := by decide +kernel
theorem xd_fe_awaitSignal_80 : decode xb_fe_awaitSignal 80 = .ok (.invokevirtual 231, 3) := by decide +kernel
theorem xd_fe_awaitSignal_83 : decode xb_fe_awaitSignal 83 = .ok (.return_, 1) := by decide +kernel
theorem xd_fe_finish_0 : decode xb_fe_finish 0 = .ok (.aload_n 1, 1) := by decide +kernel
theorem xd_fe_finish_1 : decode xb_fe_finish 1 = .ok (.getfield 149, 3) := by decide +kernel
theorem xd_fe_finish_4 : decode xb_fe_finish 4 = .ok (.invokevirtual 252, 3) := by decide +kernel
theorem xd_fe_finish_7 : decode xb_fe_finish 7 = .ok (.ifCond .eq 9, 3) := by decide +kernel
theorem xd_fe_finish_10 : decode xb_fe_finish 10 = .ok (.aload_n 1, 1) := by decide +kernel
theorem xd_fe_finish_11 : decode xb_fe_finish 11 = .ok (.bipush 7, 2) := by decide +kernel
theorem xd_fe_finish_13 : decode xb_fe_finish 13 = .ok (.putfield 134, 3) := by decide +kernel
theorem xd_fe_finish_16 : decode xb_fe_finish 16 = .ok (.aload_n 1, 1) := by decide +kernel
theorem xd_fe_finish_17 : decode xb_fe_finish 17 = .ok (.getfield 134, 3) := by decide +kernel
theorem xd_fe_finish_20 : decode xb_fe_finish 20 = .ok (.iconst 5, 1) := by decide +kernel
theorem xd_fe_finish_21 : decode xb_fe_finish 21 = .ok (.if_icmp .ne 16, 3) := by decide +kernel
theorem xd_fe_finish_24 : decode xb_fe_finish 24 = .ok (.aload_n 0, 1) := by decide +kernel
theorem xd_fe_finish_25 : decode xb_fe_finish 25 = .ok (.dup, 1) := by decide +kernel
theorem xd_fe_finish_26 : decode xb_fe_finish 26 = .ok (.getfield 204, 3) := by decide +kernel
theorem xd_fe_finish_29 : decode xb_fe_finish 29 = .ok (.iconst 1, 1) := by decide +kernel
theorem xd_fe_finish_30 : decode xb_fe_finish 30 = .ok (.iadd, 1) := by decide +kernel
theorem xd_fe_finish_31 : decode xb_fe_finish 31 = .ok (.putfield 204, 3) := by decide +kernel
theorem xd_fe_finish_34 : decode xb_fe_finish 34 = .ok (.goto 35, 3) := by decide +kernel
theorem xd_fe_finish_37 : decode xb_fe_finish 37 = .ok (.aload_n 1, 1) := by decide +kernel
theorem xd_fe_finish_38 : decode xb_fe_finish 38 = .ok (.getfield 134, 3) := by decide +kernel
theorem xd_fe_finish_41 : decode xb_fe_finish 41 = .ok (.bipush 6, 2) := by decide +kernel
theorem xd_fe_finish_43 : decode xb_fe_finish 43 = .ok (.if_icmp .ne 16, 3) := by decide +kernel
theorem xd_fe_finish_46 : decode xb_fe_finish 46 = .ok (.aload_n 0, 1) := by decide +kernel
theorem xd_fe_finish_47 : decode xb_fe_finish 47 = .ok (.dup, 1) := by decide +kernel
theorem xd_fe_finish_48 : decode xb_fe_finish 48 = .ok (.getfield 207, 3) := by decide +kernel
theorem xd_fe_finish_51 : decode xb_fe_finish 51 = .ok (.iconst 1, 1) := by decide +kernel
theorem xd_fe_finish_52 : decode xb_fe_finish 52 = .ok (.iadd, 1) := by decide +kernel
theorem xd_fe_finish_53 : decode xb_fe_finish 53 = .ok (.putfield 207, 3) := by decide +kernel
theorem xd_fe_finish_56 : decode xb_fe_finish 56 = .ok (.goto 13, 3) := by decide +kernel
theorem xd_fe_finish_59 : decode xb_fe_finish 59 = .ok (.aload_n 0, 1) := by decide +kernel
theorem xd_fe_finish_60 : decode xb_fe_finish 60 = .ok (.dup, 1) := by decide +kernel
theorem xd_fe_finish_61 : decode xb_fe_finish 61 = .ok (.getfield 210, 3) := by decide +kernel
theorem xd_fe_finish_64 : decode xb_fe_finish 64 = .ok (.iconst 1, 1) := by decide +kernel
theorem xd_fe_finish_65 : decode xb_fe_finish 65 = .ok (.iadd, 1) := by decide +kernel
theorem xd_fe_finish_66 : decode xb_fe_finish 66 = .ok (.putfield 210, 3) := by decide +kernel
theorem xd_fe_finish_69 : decode xb_fe_finish 69 = .ok (.aload_n 0, 1) := by decide +kernel
theorem xd_fe_finish_70 : decode xb_fe_finish 70 = .ok (.aload_n 1, 1) := by decide +kernel
theorem xd_fe_finish_71 : decode xb_fe_finish 71 = .ok (.invokevirtual 69, 3) := by decide +kernel
theorem xd_fe_finish_74 : decode xb_fe_finish 74 = .ok (.return_, 1) := by decide +kernel
theorem xd_fe_dropTask_0 : decode xb_fe_dropTask 0 = .ok (.aload_n 0, 1) := by decide +kernel
theorem xd_fe_dropTask_1 : decode xb_fe_dropTask 1 = .ok (.getfield 24, 3) := by decide +kernel
theorem xd_fe_dropTask_4 : decode xb_fe_dropTask 4 = .ok (.aload_n 1, 1) := by decide +kernel
theorem xd_fe_dropTask_5 : decode xb_fe_dropTask 5 = .ok (.getfield 237, 3) := by decide +kernel
theorem xd_fe_dropTask_8 : decode xb_fe_dropTask 8 = .ok (.invokevirtual 119, 3) := by decide +kernel
theorem xd_fe_dropTask_11 : decode xb_fe_dropTask 11 = .ok (.aload_n 1, 1) := by decide +kernel
theorem xd_fe_dropTask_12 : decode xb_fe_dropTask 12 = .ok (.getfield 107, 3) := by decide +kernel
theorem xd_fe_dropTask_15 : decode xb_fe_dropTask 15 = .ok (.iconst 0, 1) := by decide +kernel
theorem xd_fe_dropTask_16 : decode xb_fe_dropTask 16 = .ok (.invokevirtual 294, 3) := by decide +kernel
theorem xd_fe_dropTask_19 : decode xb_fe_dropTask 19 = .ok (.return_, 1) := by decide +kernel
theorem xd_fe_remove_0 : decode xb_fe_remove 0 = .ok (.aload_n 0, 1) := by decide +kernel
theorem xd_fe_remove_1 : decode xb_fe_remove 1 = .ok (.iload_n 1, 1) := by decide +kernel
theorem xd_fe_remove_2 : decode xb_fe_remove 2 = .ok (.invokevirtual 66, 3) := by decide +kernel
theorem xd_fe_remove_5 : decode xb_fe_remove 5 = .ok (.ifCond .ne 5, 3) := by decide +kernel
theorem xd_fe_remove_8 : decode xb_fe_remove 8 = .ok (.iconst 0, 1) := by decide +kernel
theorem xd_fe_remove_9 : decode xb_fe_remove 9 = .ok (.ireturn, 1) := by decide +kernel
theorem xd_fe_remove_10 : decode xb_fe_remove 10 = .ok (.aload_n 0, 1) := by decide +kernel
theorem xd_fe_remove_11 : decode xb_fe_remove 11 = .ok (.aload_n 0, 1) := by decide +kernel
theorem xd_fe_remove_12 : decode xb_fe_remove 12 = .ok (.getfield 17, 3) := by decide +kernel
theorem xd_fe_remove_15 : decode xb_fe_remove 15 = .ok (.iload_n 1, 1) := by decide +kernel
theorem xd_fe_remove_16 : decode xb_fe_remove 16 = .ok (.aaload, 1) := by decide +kernel
theorem xd_fe_remove_17 : decode xb_fe_remove 17 = .ok (.invokevirtual 69, 3) := by decide +kernel
theorem xd_fe_remove_20 : decode xb_fe_remove 20 = .ok (.aload_n 0, 1) := by decide +kernel
theorem xd_fe_remove_21 : decode xb_fe_remove 21 = .ok (.getfield 17, 3) := by decide +kernel
theorem xd_fe_remove_24 : decode xb_fe_remove 24 = .ok (.iload_n 1, 1) := by decide +kernel
theorem xd_fe_remove_25 : decode xb_fe_remove 25 = .ok (.aaload, 1) := by decide +kernel
theorem xd_fe_remove_26 : decode xb_fe_remove 26 = .ok (.iconst 0, 1) := by decide +kernel
theorem xd_fe_remove_27 : decode xb_fe_remove 27 = .ok (.putfield 72, 3) := by decide +kernel
theorem xd_fe_remove_30 : decode xb_fe_remove 30 = .ok (.iconst 1, 1) := by decide +kernel
theorem xd_fe_remove_31 : decode xb_fe_remove 31 = .ok (.ireturn, 1) := by decide +kernel
theorem xd_fe_isThere_0 : decode xb_fe_isThere 0 = .ok (.iload_n 1, 1) := by decide +kernel
theorem xd_fe_isThere_1 : decode xb_fe_isThere 1 = .ok (.ifCond .lt 25, 3) := by decide +kernel
theorem xd_fe_isThere_4 : decode xb_fe_isThere 4 = .ok (.iload_n 1, 1) := by decide +kernel
theorem xd_fe_isThere_5 : decode xb_fe_isThere 5 = .ok (.bipush 6, 2) := by decide +kernel
theorem xd_fe_isThere_7 : decode xb_fe_isThere 7 = .ok (.if_icmp .ge 19, 3) := by decide +kernel
theorem xd_fe_isThere_10 : decode xb_fe_isThere 10 = .ok (.aload_n 0, 1) := by decide +kernel
theorem xd_fe_isThere_11 : decode xb_fe_isThere 11 = .ok (.getfield 17, 3) := by decide +kernel
theorem xd_fe_isThere_14 : decode xb_fe_isThere 14 = .ok (.iload_n 1, 1) := by decide +kernel
theorem xd_fe_isThere_15 : decode xb_fe_isThere 15 = .ok (.aaload, 1) := by decide +kernel
theorem xd_fe_isThere_16 : decode xb_fe_isThere 16 = .ok (.getfield 72, 3) := by decide +kernel
theorem xd_fe_isThere_19 : decode xb_fe_isThere 19 = .ok (.ifCond .eq 7, 3) := by decide +kernel
theorem xd_fe_isThere_22 : decode xb_fe_isThere 22 = .ok (.iconst 1, 1) := by decide +kernel
theorem xd_fe_isThere_23 : decode xb_fe_isThere 23 = .ok (.goto 4, 3) := by decide +kernel
theorem xd_fe_isThere_26 : decode xb_fe_isThere 26 = .ok (.iconst 0, 1) := by decide +kernel
theorem xd_fe_isThere_27 : decode xb_fe_isThere 27 = .ok (.ireturn, 1) := by decide +kernel
theorem xd_fe_signal_0 : decode xb_fe_signal 0 = .ok (.aload_n 0, 1) := by decide +kernel
theorem xd_fe_signal_1 : decode xb_fe_signal 1 = .ok (.iload_n 1, 1) := by decide +kernel
theorem xd_fe_signal_2 : decode xb_fe_signal 2 = .ok (.invokevirtual 66, 3) := by decide +kernel
theorem xd_fe_signal_5 : decode xb_fe_signal 5 = .ok (.ifCond .eq 12, 3) := by decide +kernel
theorem xd_fe_signal_8 : decode xb_fe_signal 8 = .ok (.iload_n 2, 1) := by decide +kernel
theorem xd_fe_signal_9 : decode xb_fe_signal 9 = .ok (.ifCond .lt 8, 3) := by decide +kernel
theorem xd_fe_signal_12 : decode xb_fe_signal 12 = .ok (.iload_n 2, 1) := by decide +kernel
theorem xd_fe_signal_13 : decode xb_fe_signal 13 = .ok (.iconst 4, 1) := by decide +kernel
theorem xd_fe_signal_14 : decode xb_fe_signal 14 = .ok (.if_icmp .lt 5, 3) := by decide +kernel
theorem xd_fe_signal_17 : decode xb_fe_signal 17 = .ok (.iconst (-1), 1) := by decide +kernel
theorem xd_fe_signal_18 : decode xb_fe_signal 18 = .ok (.ireturn, 1) := by decide +kernel
theorem xd_fe_signal_19 : decode xb_fe_signal 19 = .ok (.aload_n 0, 1) := by decide +kernel
theorem xd_fe_signal_20 : decode xb_fe_signal 20 = .ok (.getfield 17, 3) := by decide +kernel
theorem xd_fe_signal_23 : decode xb_fe_signal 23 = .ok (.iload_n 1, 1) := by decide +kernel
theorem xd_fe_signal_24 : decode xb_fe_signal 24 = .ok (.aaload, 1) := by decide +kernel
theorem xd_fe_signal_25 : decode xb_fe_signal 25 = .ok (.astore 4, 2) := by decide +kernel
theorem xd_fe_signal_27 : decode xb_fe_signal 27 = .ok (.aload 4, 2) := by decide +kernel
theorem xd_fe_signal_29 : decode xb_fe_signal 29 = .ok (.invokevirtual 76, 3) := by decide +kernel
theorem xd_fe_signal_32 : decode xb_fe_signal 32 = .ok (.ifCond .eq 6, 3) := by decide +kernel
theorem xd_fe_signal_35 : decode xb_fe_signal 35 = .ok (.bipush (-2), 2) := by decide +kernel
theorem xd_fe_signal_37 : decode xb_fe_signal 37 = .ok (.ireturn, 1) := by decide +kernel
theorem xd_fe_signal_38 : decode xb_fe_signal 38 = .ok (.aload 4, 2) := by decide +kernel
theorem xd_fe_signal_40 : decode xb_fe_signal 40 = .ok (.getfield 80, 3) := by decide +kernel
theorem xd_fe_signal_43 : decode xb_fe_signal 43 = .ok (.invokevirtual 84, 3) := by decide +kernel
theorem xd_fe_signal_46 : decode xb_fe_signal 46 = .ok (.ifCond .eq 6, 3) := by decide +kernel
theorem xd_fe_signal_49 : decode xb_fe_signal 49 = .ok (.bipush (-3), 2) := by decide +kernel
theorem xd_fe_signal_51 : decode xb_fe_signal 51 = .ok (.ireturn, 1) := by decide +kernel
theorem xd_fe_signal_52 : decode xb_fe_signal 52 = .ok (.aload_n 0, 1) := by decide +kernel
theorem xd_fe_signal_53 : decode xb_fe_signal 53 = .ok (.aload 4, 2) := by decide +kernel
theorem xd_fe_signal_55 : decode xb_fe_signal 55 = .ok (.invokevirtual 89, 3) := by decide +kernel
theorem xd_fe_signal_58 : decode xb_fe_signal 58 = .ok (.aload 4, 2) := by decide +kernel
theorem xd_fe_signal_60 : decode xb_fe_signal 60 = .ok (.bipush 7, 2) := by decide +kernel
theorem xd_fe_signal_62 : decode xb_fe_signal 62 = .ok (.iload_n 2, 1) := by decide +kernel
theorem xd_fe_signal_63 : decode xb_fe_signal 63 = .ok (.invokevirtual 92, 3) := by decide +kernel
theorem xd_fe_signal_66 : decode xb_fe_signal 66 = .ok (.ifCond .eq 15, 3) := by decide +kernel
theorem xd_fe_signal_69 : decode xb_fe_signal 69 = .ok (.aload_n 0, 1) := by decide +kernel
theorem xd_fe_signal_70 : decode xb_fe_signal 70 = .ok (.aload 4, 2) := by decide +kernel
theorem xd_fe_signal_72 : decode xb_fe_signal 72 = .ok (.bipush 7, 2) := by decide +kernel
theorem xd_fe_signal_74 : decode xb_fe_signal 74 = .ok (.iload_n 2, 1) := by decide +kernel
theorem xd_fe_signal_75 : decode xb_fe_signal 75 = .ok (.iload_n 3, 1) := by decide +kernel
theorem xd_fe_signal_76 : decode xb_fe_signal 76 = .ok (.invokevirtual 96, 3) := by decide +kernel
theorem xd_fe_signal_79 : decode xb_fe_signal 79 = .ok (.iconst 1, 1) := by decide +kernel
theorem xd_fe_signal_80 : decode xb_fe_signal 80 = .ok (.ireturn, 1) := by decide +kernel
theorem xd_fe_signal_81 : decode xb_fe_signal 81 = .ok (.aload 4, 2) := by decide +kernel
theorem xd_fe_signal_83 : decode xb_fe_signal 83 = .ok (.invokevirtual 76, 3) := by decide +kernel
theorem xd_fe_signal_86 : decode xb_fe_signal 86 = .ok (.ifCond .ne 13, 3) := by decide +kernel
theorem xd_fe_signal_89 : decode xb_fe_signal 89 = .ok (.aload 4, 2) := by decide +kernel
theorem xd_fe_signal_91 : decode xb_fe_signal 91 = .ok (.getfield 80, 3) := by decide +kernel
theorem xd_fe_signal_94 : decode xb_fe_signal 94 = .ok (.iload_n 2, 1) := by decide +kernel
theorem xd_fe_signal_95 : decode xb_fe_signal 95 = .ok (.iload_n 3, 1) := by decide +kernel
theorem xd_fe_signal_96 : decode xb_fe_signal 96 = .ok (.invokevirtual 100, 3) := by decide +kernel
theorem xd_fe_signal_99 : decode xb_fe_signal 99 = .ok (.iconst 0, 1) := by decide +kernel
theorem xd_fe_signal_100 : decode xb_fe_signal 100 = .ok (.ireturn, 1) := by decide +kernel
theorem xd_fe_remember_0 : decode xb_fe_remember 0 = .ok (.aload_n 1, 1) := by decide +kernel
theorem xd_fe_remember_1 : decode xb_fe_remember 1 = .ok (.getfield 143, 3) := by decide +kernel
theorem xd_fe_remember_4 : decode xb_fe_remember 4 = .ok (.ifCond .eq 22, 3) := by decide +kernel
theorem xd_fe_remember_7 : decode xb_fe_remember 7 = .ok (.aload_n 0, 1) := by decide +kernel
theorem xd_fe_remember_8 : decode xb_fe_remember 8 = .ok (.dup, 1) := by decide +kernel
theorem xd_fe_remember_9 : decode xb_fe_remember 9 = .ok (.getfield 198, 3) := by decide +kernel
theorem xd_fe_remember_12 : decode xb_fe_remember 12 = .ok (.iconst 1, 1) := by decide +kernel
theorem xd_fe_remember_13 : decode xb_fe_remember 13 = .ok (.iadd, 1) := by decide +kernel
theorem xd_fe_remember_14 : decode xb_fe_remember 14 = .ok (.putfield 198, 3) := by decide +kernel
theorem xd_fe_remember_17 : decode xb_fe_remember 17 = .ok (.aload_n 1, 1) := by decide +kernel
theorem xd_fe_remember_18 : decode xb_fe_remember 18 = .ok (.invokevirtual 222, 3) := by decide +kernel
theorem xd_fe_remember_21 : decode xb_fe_remember 21 = .ok (.aload_n 0, 1) := by decide +kernel
theorem xd_fe_remember_22 : decode xb_fe_remember 22 = .ok (.aload_n 1, 1) := by decide +kernel
theorem xd_fe_remember_23 : decode xb_fe_remember 23 = .ok (.invokevirtual 62, 3) := by decide +kernel
theorem xd_fe_remember_26 : decode xb_fe_remember 26 = .ok (.return_, 1) := by decide +kernel
theorem xd_fe_happen_0 : decode xb_fe_happen 0 = .ok (.aload_n 1, 1) := by decide +kernel
theorem xd_fe_happen_1 : decode xb_fe_happen 1 = .ok (.iload_n 2, 1) := by decide +kernel
theorem xd_fe_happen_2 : decode xb_fe_happen 2 = .ok (.iload_n 3, 1) := by decide +kernel
theorem xd_fe_happen_3 : decode xb_fe_happen 3 = .ok (.invokevirtual 92, 3) := by decide +kernel
theorem xd_fe_happen_6 : decode xb_fe_happen 6 = .ok (.ifCond .ne 4, 3) := by decide +kernel
theorem xd_fe_happen_9 : decode xb_fe_happen 9 = .ok (.return_, 1) := by decide +kernel
theorem xd_fe_happen_10 : decode xb_fe_happen 10 = .ok (.aload_n 1, 1) := by decide +kernel
theorem xd_fe_happen_11 : decode xb_fe_happen 11 = .ok (.getfield 149, 3) := by decide +kernel
theorem xd_fe_happen_14 : decode xb_fe_happen 14 = .ok (.iload_n 2, 1) := by decide +kernel
theorem xd_fe_happen_15 : decode xb_fe_happen 15 = .ok (.iload_n 3, 1) := by decide +kernel
theorem xd_fe_happen_16 : decode xb_fe_happen 16 = .ok (.iload 4, 2) := by decide +kernel
theorem xd_fe_happen_18 : decode xb_fe_happen 18 = .ok (.invokevirtual 225, 3) := by decide +kernel
theorem xd_fe_happen_21 : decode xb_fe_happen 21 = .ok (.ifCond .eq 38, 3) := by decide +kernel
theorem xd_fe_happen_24 : decode xb_fe_happen 24 = .ok (.iload_n 2, 1) := by decide +kernel
theorem xd_fe_happen_25 : decode xb_fe_happen 25 = .ok (.iconst 4, 1) := by decide +kernel
theorem xd_fe_happen_26 : decode xb_fe_happen 26 = .ok (.if_icmp .ne 13, 3) := by decide +kernel
theorem xd_fe_happen_29 : decode xb_fe_happen 29 = .ok (.aload_n 0, 1) := by decide +kernel
theorem xd_fe_happen_30 : decode xb_fe_happen 30 = .ok (.dup, 1) := by decide +kernel
theorem xd_fe_happen_31 : decode xb_fe_happen 31 = .ok (.getfield 201, 3) := by decide +kernel
theorem xd_fe_happen_34 : decode xb_fe_happen 34 = .ok (.iconst 1, 1) := by decide +kernel
theorem xd_fe_happen_35 : decode xb_fe_happen 35 = .ok (.iadd, 1) := by decide +kernel
theorem xd_fe_happen_36 : decode xb_fe_happen 36 = .ok (.putfield 201, 3) := by decide +kernel
theorem xd_fe_happen_39 : decode xb_fe_happen 39 = .ok (.aload_n 0, 1) := by decide +kernel
theorem xd_fe_happen_40 : decode xb_fe_happen 40 = .ok (.aload_n 1, 1) := by decide +kernel
theorem xd_fe_happen_41 : decode xb_fe_happen 41 = .ok (.invokevirtual 69, 3) := by decide +kernel
theorem xd_fe_happen_44 : decode xb_fe_happen 44 = .ok (.aload_n 1, 1) := by decide +kernel
theorem xd_fe_happen_45 : decode xb_fe_happen 45 = .ok (.iconst 0, 1) := by decide +kernel
theorem xd_fe_happen_46 : decode xb_fe_happen 46 = .ok (.putfield 228, 3) := by decide +kernel
theorem xd_fe_happen_49 : decode xb_fe_happen 49 = .ok (.aload_n 1, 1) := by decide +kernel
theorem xd_fe_happen_50 : decode xb_fe_happen 50 = .ok (.iload_n 2, 1) := by decide +kernel
theorem xd_fe_happen_51 : decode xb_fe_happen 51 = .ok (.iload 4, 2) := by decide +kernel
theorem xd_fe_happen_53 : decode xb_fe_happen 53 = .ok (.invokevirtual 231, 3) := by decide +kernel
theorem xd_fe_happen_56 : decode xb_fe_happen 56 = .ok (.goto 9, 3) := by decide +kernel
theorem xd_fe_happen_59 : decode xb_fe_happen 59 = .ok (.aload_n 1, 1) := by decide +kernel
theorem xd_fe_happen_60 : decode xb_fe_happen 60 = .ok (.bipush 7, 2) := by decide +kernel
theorem xd_fe_happen_62 : decode xb_fe_happen 62 = .ok (.putfield 134, 3) := by decide +kernel
theorem xd_fe_happen_65 : decode xb_fe_happen 65 = .ok (.aload_n 0, 1) := by decide +kernel
theorem xd_fe_happen_66 : decode xb_fe_happen 66 = .ok (.aload_n 1, 1) := by decide +kernel
theorem xd_fe_happen_67 : decode xb_fe_happen 67 = .ok (.invokevirtual 62, 3) := by decide +kernel
theorem xd_fe_happen_70 : decode xb_fe_happen 70 = .ok (.return_, 1) := by decide +kernel
theorem xd_fe_take_0 : decode xb_fe_take 0 = .ok (.iconst 0, 1) := by decide +kernel
theorem xd_fe_take_1 : decode xb_fe_take 1 = .ok (.istore_n 1, 1) := by decide +kernel
theorem xd_fe_take_2 : decode xb_fe_take 2 = .ok (.iload_n 1, 1) := by decide +kernel
theorem xd_fe_take_3 : decode xb_fe_take 3 = .ok (.aload_n 0, 1) := by decide +kernel
theorem xd_fe_take_4 : decode xb_fe_take 4 = .ok (.getfield 24, 3) := by decide +kernel
theorem xd_fe_take_7 : decode xb_fe_take 7 = .ok (.getfield 103, 3) := by decide +kernel
theorem xd_fe_take_10 : decode xb_fe_take 10 = .ok (.if_icmp .ge 58, 3) := by decide +kernel
theorem xd_fe_take_13 : decode xb_fe_take 13 = .ok (.aload_n 0, 1) := by decide +kernel
theorem xd_fe_take_14 : decode xb_fe_take 14 = .ok (.getfield 24, 3) := by decide +kernel
theorem xd_fe_take_17 : decode xb_fe_take 17 = .ok (.getfield 104, 3) := by decide +kernel
theorem xd_fe_take_20 : decode xb_fe_take 20 = .ok (.iload_n 1, 1) := by decide +kernel
theorem xd_fe_take_21 : decode xb_fe_take 21 = .ok (.iaload, 1) := by decide +kernel
theorem xd_fe_take_22 : decode xb_fe_take 22 = .ok (.istore_n 2, 1) := by decide +kernel
theorem xd_fe_take_23 : decode xb_fe_take 23 = .ok (.aload_n 0, 1) := by decide +kernel
theorem xd_fe_take_24 : decode xb_fe_take 24 = .ok (.getfield 17, 3) := by decide +kernel
theorem xd_fe_take_27 : decode xb_fe_take 27 = .ok (.iload_n 2, 1) := by decide +kernel
theorem xd_fe_take_28 : decode xb_fe_take 28 = .ok (.aaload, 1) := by decide +kernel
theorem xd_fe_take_29 : decode xb_fe_take 29 = .ok (.getfield 107, 3) := by decide +kernel
theorem xd_fe_take_32 : decode xb_fe_take 32 = .ok (.astore_n 3, 1) := by decide +kernel
theorem xd_fe_take_33 : decode xb_fe_take 33 = .ok (.aload_n 3, 1) := by decide +kernel
theorem xd_fe_take_34 : decode xb_fe_take 34 = .ok (.getfield 111, 3) := by decide +kernel
theorem xd_fe_take_37 : decode xb_fe_take 37 = .ok (.aload_n 0, 1) := by decide +kernel
theorem xd_fe_take_38 : decode xb_fe_take 38 = .ok (.getfield 116, 3) := by decide +kernel
theorem xd_fe_take_41 : decode xb_fe_take 41 = .ok (.if_icmp .gt 21, 3) := by decide +kernel
theorem xd_fe_take_44 : decode xb_fe_take 44 = .ok (.aload_n 0, 1) := by decide +kernel
theorem xd_fe_take_45 : decode xb_fe_take 45 = .ok (.getfield 24, 3) := by decide +kernel
theorem xd_fe_take_48 : decode xb_fe_take 48 = .ok (.iload_n 2, 1) := by decide +kernel
theorem xd_fe_take_49 : decode xb_fe_take 49 = .ok (.invokevirtual 119, 3) := by decide +kernel
theorem xd_fe_take_52 : decode xb_fe_take 52 = .ok (.aload_n 3, 1) := by decide +kernel
theorem xd_fe_take_53 : decode xb_fe_take 53 = .ok (.aload_n 0, 1) := by decide +kernel
theorem xd_fe_take_54 : decode xb_fe_take 54 = .ok (.getfield 116, 3) := by decide +kernel
theorem xd_fe_take_57 : decode xb_fe_take 57 = .ok (.invokevirtual 122, 3) := by decide +kernel
theorem xd_fe_take_60 : decode xb_fe_take 60 = .ok (.iload_n 2, 1) := by decide +kernel
theorem xd_fe_take_61 : decode xb_fe_take 61 = .ok (.ireturn, 1) := by decide +kernel
theorem xd_fe_take_62 : decode xb_fe_take 62 = .ok (.iinc 1 1, 3) := by decide +kernel
theorem xd_fe_take_65 : decode xb_fe_take 65 = .ok (.goto (-63), 3) := by decide +kernel
theorem xd_fe_take_68 : decode xb_fe_take 68 = .ok (.bipush (-2), 2) := by decide +kernel
theorem xd_fe_take_70 : decode xb_fe_take 70 = .ok (.ireturn, 1) := by decide +kernel
theorem xd_fe_answer_0 : decode xb_fe_answer 0 = .ok (.aload_n 0, 1) := by decide +kernel
theorem xd_fe_answer_1 : decode xb_fe_answer 1 = .ok (.iload_n 1, 1) := by decide +kernel
theorem xd_fe_answer_2 : decode xb_fe_answer 2 = .ok (.invokevirtual 66, 3) := by decide +kernel
theorem xd_fe_answer_5 : decode xb_fe_answer 5 = .ok (.ifCond .ne 5, 3) := by decide +kernel
theorem xd_fe_answer_8 : decode xb_fe_answer 8 = .ok (.iconst (-1), 1) := by decide +kernel
theorem xd_fe_answer_9 : decode xb_fe_answer 9 = .ok (.ireturn, 1) := by decide +kernel
theorem xd_fe_answer_10 : decode xb_fe_answer 10 = .ok (.aload_n 0, 1) := by decide +kernel
theorem xd_fe_answer_11 : decode xb_fe_answer 11 = .ok (.getfield 17, 3) := by decide +kernel
theorem xd_fe_answer_14 : decode xb_fe_answer 14 = .ok (.iload_n 1, 1) := by decide +kernel
theorem xd_fe_answer_15 : decode xb_fe_answer 15 = .ok (.aaload, 1) := by decide +kernel
theorem xd_fe_answer_16 : decode xb_fe_answer 16 = .ok (.astore 4, 2) := by decide +kernel
theorem xd_fe_answer_18 : decode xb_fe_answer 18 = .ok (.aload 4, 2) := by decide +kernel
theorem xd_fe_answer_20 : decode xb_fe_answer 20 = .ok (.getfield 107, 3) := by decide +kernel
theorem xd_fe_answer_23 : decode xb_fe_answer 23 = .ok (.getfield 125, 3) := by decide +kernel
theorem xd_fe_answer_26 : decode xb_fe_answer 26 = .ok (.ifCond .ne 6, 3) := by decide +kernel
theorem xd_fe_answer_29 : decode xb_fe_answer 29 = .ok (.bipush (-2), 2) := by decide +kernel
theorem xd_fe_answer_31 : decode xb_fe_answer 31 = .ok (.ireturn, 1) := by decide +kernel
theorem xd_fe_answer_32 : decode xb_fe_answer 32 = .ok (.iload_n 2, 1) := by decide +kernel
theorem xd_fe_answer_33 : decode xb_fe_answer 33 = .ok (.ifCond .eq 28, 3) := by decide +kernel
theorem xd_fe_answer_36 : decode xb_fe_answer 36 = .ok (.aload_n 0, 1) := by decide +kernel
theorem xd_fe_answer_37 : decode xb_fe_answer 37 = .ok (.aload 4, 2) := by decide +kernel
theorem xd_fe_answer_39 : decode xb_fe_answer 39 = .ok (.invokevirtual 89, 3) := by decide +kernel
theorem xd_fe_answer_42 : decode xb_fe_answer 42 = .ok (.aload_n 0, 1) := by decide +kernel
theorem xd_fe_answer_43 : decode xb_fe_answer 43 = .ok (.aload 4, 2) := by decide +kernel
theorem xd_fe_answer_45 : decode xb_fe_answer 45 = .ok (.iconst 3, 1) := by decide +kernel
theorem xd_fe_answer_46 : decode xb_fe_answer 46 = .ok (.aload 4, 2) := by decide +kernel
theorem xd_fe_answer_48 : decode xb_fe_answer 48 = .ok (.getfield 107, 3) := by decide +kernel
theorem xd_fe_answer_51 : decode xb_fe_answer 51 = .ok (.getfield 128, 3) := by decide +kernel
theorem xd_fe_answer_54 : decode xb_fe_answer 54 = .ok (.iload_n 3, 1) := by decide +kernel
theorem xd_fe_answer_55 : decode xb_fe_answer 55 = .ok (.invokevirtual 96, 3) := by decide +kernel
theorem xd_fe_answer_58 : decode xb_fe_answer 58 = .ok (.goto 9, 3) := by decide +kernel
theorem xd_fe_answer_61 : decode xb_fe_answer 61 = .ok (.aload_n 0, 1) := by decide +kernel
theorem xd_fe_answer_62 : decode xb_fe_answer 62 = .ok (.aload 4, 2) := by decide +kernel
theorem xd_fe_answer_64 : decode xb_fe_answer 64 = .ok (.invokevirtual 131, 3) := by decide +kernel
theorem xd_fe_answer_67 : decode xb_fe_answer 67 = .ok (.aload 4, 2) := by decide +kernel
theorem xd_fe_answer_69 : decode xb_fe_answer 69 = .ok (.getfield 134, 3) := by decide +kernel
theorem xd_fe_answer_72 : decode xb_fe_answer 72 = .ok (.ireturn, 1) := by decide +kernel
theorem xd_fe_goWrong_0 : decode xb_fe_goWrong 0 = .ok (.aload_n 1, 1) := by decide +kernel
theorem xd_fe_goWrong_1 : decode xb_fe_goWrong 1 = .ok (.getfield 107, 3) := by decide +kernel
theorem xd_fe_goWrong_4 : decode xb_fe_goWrong 4 = .ok (.astore_n 2, 1) := by decide +kernel
theorem xd_fe_goWrong_5 : decode xb_fe_goWrong 5 = .ok (.aload_n 2, 1) := by decide +kernel
theorem xd_fe_goWrong_6 : decode xb_fe_goWrong 6 = .ok (.getfield 173, 3) := by decide +kernel
theorem xd_fe_goWrong_9 : decode xb_fe_goWrong 9 = .ok (.iconst 3, 1) := by decide +kernel
theorem xd_fe_goWrong_10 : decode xb_fe_goWrong 10 = .ok (.if_icmp .lt 22, 3) := by decide +kernel
theorem xd_fe_goWrong_13 : decode xb_fe_goWrong 13 = .ok (.aload_n 0, 1) := by decide +kernel
theorem xd_fe_goWrong_14 : decode xb_fe_goWrong 14 = .ok (.aload_n 1, 1) := by decide +kernel
theorem xd_fe_goWrong_15 : decode xb_fe_goWrong 15 = .ok (.invokevirtual 89, 3) := by decide +kernel
theorem xd_fe_goWrong_18 : decode xb_fe_goWrong 18 = .ok (.aload_n 0, 1) := by decide +kernel
theorem xd_fe_goWrong_19 : decode xb_fe_goWrong 19 = .ok (.aload_n 1, 1) := by decide +kernel
theorem xd_fe_goWrong_20 : decode xb_fe_goWrong 20 = .ok (.iconst 4, 1) := by decide +kernel
theorem xd_fe_goWrong_21 : decode xb_fe_goWrong 21 = .ok (.aload_n 2, 1) := by decide +kernel
theorem xd_fe_goWrong_22 : decode xb_fe_goWrong 22 = .ok (.getfield 128, 3) := by decide +kernel
theorem xd_fe_goWrong_25 : decode xb_fe_goWrong 25 = .ok (.iconst 0, 1) := by decide +kernel
theorem xd_fe_goWrong_26 : decode xb_fe_goWrong 26 = .ok (.invokevirtual 96, 3) := by decide +kernel
theorem xd_fe_goWrong_29 : decode xb_fe_goWrong 29 = .ok (.goto 22, 3) := by decide +kernel
theorem xd_fe_goWrong_32 : decode xb_fe_goWrong 32 = .ok (.aload_n 2, 1) := by decide +kernel
theorem xd_fe_goWrong_33 : decode xb_fe_goWrong 33 = .ok (.aload_n 0, 1) := by decide +kernel
theorem xd_fe_goWrong_34 : decode xb_fe_goWrong 34 = .ok (.getfield 116, 3) := by decide +kernel
theorem xd_fe_goWrong_37 : decode xb_fe_goWrong 37 = .ok (.invokevirtual 234, 3) := by decide +kernel
theorem xd_fe_goWrong_40 : decode xb_fe_goWrong 40 = .ok (.aload_n 0, 1) := by decide +kernel
theorem xd_fe_goWrong_41 : decode xb_fe_goWrong 41 = .ok (.getfield 24, 3) := by decide +kernel
theorem xd_fe_goWrong_44 : decode xb_fe_goWrong 44 = .ok (.aload_n 1, 1) := by decide +kernel
theorem xd_fe_goWrong_45 : decode xb_fe_goWrong 45 = .ok (.getfield 237, 3) := by decide +kernel
theorem xd_fe_goWrong_48 : decode xb_fe_goWrong 48 = .ok (.invokevirtual 240, 3) := by decide +kernel
theorem xd_fe_goWrong_51 : decode xb_fe_goWrong 51 = .ok (.return_, 1) := by decide +kernel
theorem xd_fe_tick_0 : decode xb_fe_tick 0 = .ok (.iload_n 1, 1) := by decide +kernel
theorem xd_fe_tick_1 : decode xb_fe_tick 1 = .ok (.iconst 1, 1) := by decide +kernel
theorem xd_fe_tick_2 : decode xb_fe_tick 2 = .ok (.if_icmp .lt 9, 3) := by decide +kernel
theorem xd_fe_tick_5 : decode xb_fe_tick 5 = .ok (.iload_n 1, 1) := by decide +kernel
theorem xd_fe_tick_6 : decode xb_fe_tick 6 = .ok (.bipush 20, 2) := by decide +kernel
theorem xd_fe_tick_8 : decode xb_fe_tick 8 = .ok (.if_icmp .le 5, 3) := by decide +kernel
theorem xd_fe_tick_11 : decode xb_fe_tick 11 = .ok (.iconst (-1), 1) := by decide +kernel
theorem xd_fe_tick_12 : decode xb_fe_tick 12 = .ok (.ireturn, 1) := by decide +kernel
theorem xd_fe_tick_13 : decode xb_fe_tick 13 = .ok (.iconst 0, 1) := by decide +kernel
theorem xd_fe_tick_14 : decode xb_fe_tick 14 = .ok (.istore_n 2, 1) := by decide +kernel
theorem xd_fe_tick_15 : decode xb_fe_tick 15 = .ok (.iload_n 2, 1) := by decide +kernel
theorem xd_fe_tick_16 : decode xb_fe_tick 16 = .ok (.iload_n 1, 1) := by decide +kernel
theorem xd_fe_tick_17 : decode xb_fe_tick 17 = .ok (.if_icmp .ge 116, 3) := by decide +kernel
theorem xd_fe_tick_20 : decode xb_fe_tick 20 = .ok (.aload_n 0, 1) := by decide +kernel
theorem xd_fe_tick_21 : decode xb_fe_tick 21 = .ok (.dup, 1) := by decide +kernel
theorem xd_fe_tick_22 : decode xb_fe_tick 22 = .ok (.getfield 116, 3) := by decide +kernel
theorem xd_fe_tick_25 : decode xb_fe_tick 25 = .ok (.iconst 1, 1) := by decide +kernel
theorem xd_fe_tick_26 : decode xb_fe_tick 26 = .ok (.iadd, 1) := by decide +kernel
theorem xd_fe_tick_27 : decode xb_fe_tick 27 = .ok (.putfield 116, 3) := by decide +kernel
theorem xd_fe_tick_30 : decode xb_fe_tick 30 = .ok (.iconst 0, 1) := by decide +kernel
theorem xd_fe_tick_31 : decode xb_fe_tick 31 = .ok (.istore_n 3, 1) := by decide +kernel
theorem xd_fe_tick_32 : decode xb_fe_tick 32 = .ok (.iload_n 3, 1) := by decide +kernel
theorem xd_fe_tick_33 : decode xb_fe_tick 33 = .ok (.bipush 6, 2) := by decide +kernel
theorem xd_fe_tick_35 : decode xb_fe_tick 35 = .ok (.if_icmp .ge 38, 3) := by decide +kernel
theorem xd_fe_tick_38 : decode xb_fe_tick 38 = .ok (.aload_n 0, 1) := by decide +kernel
theorem xd_fe_tick_39 : decode xb_fe_tick 39 = .ok (.getfield 17, 3) := by decide +kernel
theorem xd_fe_tick_42 : decode xb_fe_tick 42 = .ok (.iload_n 3, 1) := by decide +kernel
theorem xd_fe_tick_43 : decode xb_fe_tick 43 = .ok (.aaload, 1) := by decide +kernel
theorem xd_fe_tick_44 : decode xb_fe_tick 44 = .ok (.getfield 107, 3) := by decide +kernel
theorem xd_fe_tick_47 : decode xb_fe_tick 47 = .ok (.aload_n 0, 1) := by decide +kernel
theorem xd_fe_tick_48 : decode xb_fe_tick 48 = .ok (.getfield 116, 3) := by decide +kernel
theorem xd_fe_tick_51 : decode xb_fe_tick 51 = .ok (.invokevirtual 137, 3) := by decide +kernel
theorem xd_fe_tick_54 : decode xb_fe_tick 54 = .ok (.ifCond .eq 13, 3) := by decide +kernel
theorem xd_fe_tick_57 : decode xb_fe_tick 57 = .ok (.aload_n 0, 1) := by decide +kernel
theorem xd_fe_tick_58 : decode xb_fe_tick 58 = .ok (.aload_n 0, 1) := by decide +kernel
theorem xd_fe_tick_59 : decode xb_fe_tick 59 = .ok (.getfield 17, 3) := by decide +kernel
theorem xd_fe_tick_62 : decode xb_fe_tick 62 = .ok (.iload_n 3, 1) := by decide +kernel
theorem xd_fe_tick_63 : decode xb_fe_tick 63 = .ok (.aaload, 1) := by decide +kernel
theorem xd_fe_tick_64 : decode xb_fe_tick 64 = .ok (.invokevirtual 131, 3) := by decide +kernel
theorem xd_fe_tick_67 : decode xb_fe_tick 67 = .ok (.iinc 3 1, 3) := by decide +kernel
theorem xd_fe_tick_70 : decode xb_fe_tick 70 = .ok (.goto (-38), 3) := by decide +kernel
theorem xd_fe_tick_73 : decode xb_fe_tick 73 = .ok (.iconst 0, 1) := by decide +kernel
theorem xd_fe_tick_74 : decode xb_fe_tick 74 = .ok (.istore_n 3, 1) := by decide +kernel
theorem xd_fe_tick_75 : decode xb_fe_tick 75 = .ok (.iload_n 3, 1) := by decide +kernel
theorem xd_fe_tick_76 : decode xb_fe_tick 76 = .ok (.bipush 6, 2) := by decide +kernel
theorem xd_fe_tick_78 : decode xb_fe_tick 78 = .ok (.if_icmp .ge 49, 3) := by decide +kernel
theorem xd_fe_tick_81 : decode xb_fe_tick 81 = .ok (.aload_n 0, 1) := by decide +kernel
theorem xd_fe_tick_82 : decode xb_fe_tick 82 = .ok (.getfield 17, 3) := by decide +kernel
theorem xd_fe_tick_85 : decode xb_fe_tick 85 = .ok (.iload_n 3, 1) := by decide +kernel
theorem xd_fe_tick_86 : decode xb_fe_tick 86 = .ok (.aaload, 1) := by decide +kernel
theorem xd_fe_tick_87 : decode xb_fe_tick 87 = .ok (.aload_n 0, 1) := by decide +kernel
theorem xd_fe_tick_88 : decode xb_fe_tick 88 = .ok (.getfield 116, 3) := by decide +kernel
theorem xd_fe_tick_91 : decode xb_fe_tick 91 = .ok (.invokevirtual 140, 3) := by decide +kernel
theorem xd_fe_tick_94 : decode xb_fe_tick 94 = .ok (.ifCond .eq 27, 3) := by decide +kernel
theorem xd_fe_tick_97 : decode xb_fe_tick 97 = .ok (.aload_n 0, 1) := by decide +kernel
theorem xd_fe_tick_98 : decode xb_fe_tick 98 = .ok (.aload_n 0, 1) := by decide +kernel
theorem xd_fe_tick_99 : decode xb_fe_tick 99 = .ok (.getfield 17, 3) := by decide +kernel
theorem xd_fe_tick_102 : decode xb_fe_tick 102 = .ok (.iload_n 3, 1) := by decide +kernel
theorem xd_fe_tick_103 : decode xb_fe_tick 103 = .ok (.aaload, 1) := by decide +kernel
theorem xd_fe_tick_104 : decode xb_fe_tick 104 = .ok (.invokevirtual 89, 3) := by decide +kernel
theorem xd_fe_tick_107 : decode xb_fe_tick 107 = .ok (.aload_n 0, 1) := by decide +kernel
theorem xd_fe_tick_108 : decode xb_fe_tick 108 = .ok (.aload_n 0, 1) := by decide +kernel
theorem xd_fe_tick_109 : decode xb_fe_tick 109 = .ok (.getfield 17, 3) := by decide +kernel
theorem xd_fe_tick_112 : decode xb_fe_tick 112 = .ok (.iload_n 3, 1) := by decide +kernel
theorem xd_fe_tick_113 : decode xb_fe_tick 113 = .ok (.aaload, 1) := by decide +kernel
theorem xd_fe_tick_114 : decode xb_fe_tick 114 = .ok (.bipush 6, 2) := by decide +kernel
theorem xd_fe_tick_116 : decode xb_fe_tick 116 = .ok (.iconst 0, 1) := by decide +kernel
theorem xd_fe_tick_117 : decode xb_fe_tick 117 = .ok (.iconst 0, 1) := by decide +kernel
theorem xd_fe_tick_118 : decode xb_fe_tick 118 = .ok (.invokevirtual 96, 3) := by decide +kernel
theorem xd_fe_tick_121 : decode xb_fe_tick 121 = .ok (.iinc 3 1, 3) := by decide +kernel
theorem xd_fe_tick_124 : decode xb_fe_tick 124 = .ok (.goto (-49), 3) := by decide +kernel
theorem xd_fe_tick_127 : decode xb_fe_tick 127 = .ok (.iinc 2 1, 3) := by decide +kernel
theorem xd_fe_tick_130 : decode xb_fe_tick 130 = .ok (.goto (-115), 3) := by decide +kernel
theorem xd_fe_tick_133 : decode xb_fe_tick 133 = .ok (.aload_n 0, 1) := by decide +kernel
theorem xd_fe_tick_134 : decode xb_fe_tick 134 = .ok (.getfield 116, 3) := by decide +kernel
theorem xd_fe_tick_137 : decode xb_fe_tick 137 = .ok (.ireturn, 1) := by decide +kernel
theorem xd_fe_forget_0 : decode xb_fe_forget 0 = .ok (.aload_n 0, 1) := by decide +kernel
theorem xd_fe_forget_1 : decode xb_fe_forget 1 = .ok (.iload_n 1, 1) := by decide +kernel
theorem xd_fe_forget_2 : decode xb_fe_forget 2 = .ok (.invokevirtual 66, 3) := by decide +kernel
theorem xd_fe_forget_5 : decode xb_fe_forget 5 = .ok (.ifCond .eq 27, 3) := by decide +kernel
theorem xd_fe_forget_8 : decode xb_fe_forget 8 = .ok (.aload_n 0, 1) := by decide +kernel
theorem xd_fe_forget_9 : decode xb_fe_forget 9 = .ok (.getfield 17, 3) := by decide +kernel
theorem xd_fe_forget_12 : decode xb_fe_forget 12 = .ok (.iload_n 1, 1) := by decide +kernel
theorem xd_fe_forget_13 : decode xb_fe_forget 13 = .ok (.aaload, 1) := by decide +kernel
theorem xd_fe_forget_14 : decode xb_fe_forget 14 = .ok (.invokevirtual 76, 3) := by decide +kernel
theorem xd_fe_forget_17 : decode xb_fe_forget 17 = .ok (.ifCond .ne 15, 3) := by decide +kernel
theorem xd_fe_forget_20 : decode xb_fe_forget 20 = .ok (.aload_n 0, 1) := by decide +kernel
theorem xd_fe_forget_21 : decode xb_fe_forget 21 = .ok (.getfield 17, 3) := by decide +kernel
theorem xd_fe_forget_24 : decode xb_fe_forget 24 = .ok (.iload_n 1, 1) := by decide +kernel
theorem xd_fe_forget_25 : decode xb_fe_forget 25 = .ok (.aaload, 1) := by decide +kernel
theorem xd_fe_forget_26 : decode xb_fe_forget 26 = .ok (.getfield 143, 3) := by decide +kernel
theorem xd_fe_forget_29 : decode xb_fe_forget 29 = .ok (.ifCond .eq 5, 3) := by decide +kernel
theorem xd_fe_forget_32 : decode xb_fe_forget 32 = .ok (.iconst 0, 1) := by decide +kernel
theorem xd_fe_forget_33 : decode xb_fe_forget 33 = .ok (.ireturn, 1) := by decide +kernel
theorem xd_fe_forget_34 : decode xb_fe_forget 34 = .ok (.aload_n 0, 1) := by decide +kernel
theorem xd_fe_forget_35 : decode xb_fe_forget 35 = .ok (.getfield 17, 3) := by decide +kernel
theorem xd_fe_forget_38 : decode xb_fe_forget 38 = .ok (.iload_n 1, 1) := by decide +kernel
theorem xd_fe_forget_39 : decode xb_fe_forget 39 = .ok (.aaload, 1) := by decide +kernel
theorem xd_fe_forget_40 : decode xb_fe_forget 40 = .ok (.iconst 1, 1) := by decide +kernel
theorem xd_fe_forget_41 : decode xb_fe_forget 41 = .ok (.putfield 143, 3) := by decide +kernel
theorem xd_fe_forget_44 : decode xb_fe_forget 44 = .ok (.iconst 1, 1) := by decide +kernel
theorem xd_fe_forget_45 : decode xb_fe_forget 45 = .ok (.ireturn, 1) := by decide +kernel
theorem xd_fe_flow_0 : decode xb_fe_flow 0 = .ok (.iload_n 1, 1) := by decide +kernel
theorem xd_fe_flow_1 : decode xb_fe_flow 1 = .ok (.ifCond .lt 19, 3) := by decide +kernel
theorem xd_fe_flow_4 : decode xb_fe_flow 4 = .ok (.iload_n 1, 1) := by decide +kernel
theorem xd_fe_flow_5 : decode xb_fe_flow 5 = .ok (.bipush 6, 2) := by decide +kernel
theorem xd_fe_flow_7 : decode xb_fe_flow 7 = .ok (.if_icmp .ge 13, 3) := by decide +kernel
theorem xd_fe_flow_10 : decode xb_fe_flow 10 = .ok (.iload_n 2, 1) := by decide +kernel
theorem xd_fe_flow_11 : decode xb_fe_flow 11 = .ok (.ifCond .lt 9, 3) := by decide +kernel
theorem xd_fe_flow_14 : decode xb_fe_flow 14 = .ok (.iload_n 2, 1) := by decide +kernel
theorem xd_fe_flow_15 : decode xb_fe_flow 15 = .ok (.bipush 14, 2) := by decide +kernel
theorem xd_fe_flow_17 : decode xb_fe_flow 17 = .ok (.if_icmp .lt 5, 3) := by decide +kernel
theorem xd_fe_flow_20 : decode xb_fe_flow 20 = .ok (.iconst (-1), 1) := by decide +kernel
theorem xd_fe_flow_21 : decode xb_fe_flow 21 = .ok (.ireturn, 1) := by decide +kernel
theorem xd_fe_flow_22 : decode xb_fe_flow 22 = .ok (.aload_n 0, 1) := by decide +kernel
theorem xd_fe_flow_23 : decode xb_fe_flow 23 = .ok (.getfield 17, 3) := by decide +kernel
theorem xd_fe_flow_26 : decode xb_fe_flow 26 = .ok (.iload_n 1, 1) := by decide +kernel
theorem xd_fe_flow_27 : decode xb_fe_flow 27 = .ok (.aaload, 1) := by decide +kernel
theorem xd_fe_flow_28 : decode xb_fe_flow 28 = .ok (.astore_n 3, 1) := by decide +kernel
theorem xd_fe_flow_29 : decode xb_fe_flow 29 = .ok (.aload_n 3, 1) := by decide +kernel
theorem xd_fe_flow_30 : decode xb_fe_flow 30 = .ok (.getfield 72, 3) := by decide +kernel
theorem xd_fe_flow_33 : decode xb_fe_flow 33 = .ok (.ifCond .ne 5, 3) := by decide +kernel
theorem xd_fe_flow_36 : decode xb_fe_flow 36 = .ok (.iconst 0, 1) := by decide +kernel
theorem xd_fe_flow_37 : decode xb_fe_flow 37 = .ok (.ireturn, 1) := by decide +kernel
theorem xd_fe_flow_38 : decode xb_fe_flow 38 = .ok (.iload_n 2, 1) := by decide +kernel
theorem xd_fe_flow_39 : decode xb_fe_flow 39 = .ok (.tableswitch 170 0 9 #[53, 58, 63, 71, 88, 108, 125, 133, 146, 154], 53) := by decide +kernel
theorem xd_fe_flow_92 : decode xb_fe_flow 92 = .ok (.aload_n 3, 1) := by decide +kernel
theorem xd_fe_flow_93 : decode xb_fe_flow 93 = .ok (.getfield 134, 3) := by decide +kernel
theorem xd_fe_flow_96 : decode xb_fe_flow 96 = .ok (.ireturn, 1) := by decide +kernel
theorem xd_fe_flow_97 : decode xb_fe_flow 97 = .ok (.aload_n 3, 1) := by decide +kernel
theorem xd_fe_flow_98 : decode xb_fe_flow 98 = .ok (.getfield 146, 3) := by decide +kernel
theorem xd_fe_flow_101 : decode xb_fe_flow 101 = .ok (.ireturn, 1) := by decide +kernel
theorem xd_fe_flow_102 : decode xb_fe_flow 102 = .ok (.aload_n 3, 1) := by decide +kernel
theorem xd_fe_flow_103 : decode xb_fe_flow 103 = .ok (.getfield 149, 3) := by decide +kernel
theorem xd_fe_flow_106 : decode xb_fe_flow 106 = .ok (.getfield 153, 3) := by decide +kernel
theorem xd_fe_flow_109 : decode xb_fe_flow 109 = .ok (.ireturn, 1) := by decide +kernel
theorem xd_fe_flow_110 : decode xb_fe_flow 110 = .ok (.aload_n 3, 1) := by decide +kernel
theorem xd_fe_flow_111 : decode xb_fe_flow 111 = .ok (.invokevirtual 156, 3) := by decide +kernel
theorem xd_fe_flow_114 : decode xb_fe_flow 114 = .ok (.ifCond .eq 10, 3) := by decide +kernel
theorem xd_fe_flow_117 : decode xb_fe_flow 117 = .ok (.aload_n 3, 1) := by decide +kernel
theorem xd_fe_flow_118 : decode xb_fe_flow 118 = .ok (.getfield 159, 3) := by decide +kernel
theorem xd_fe_flow_121 : decode xb_fe_flow 121 = .ok (.goto 5, 3) := by decide +kernel
theorem xd_fe_flow_124 : decode xb_fe_flow 124 = .ok (.bipush (-2), 2) := by decide +kernel
theorem xd_fe_flow_126 : decode xb_fe_flow 126 = .ok (.ireturn, 1) := by decide +kernel
theorem xd_fe_flow_127 : decode xb_fe_flow 127 = .ok (.aload_n 3, 1) := by decide +kernel
theorem xd_fe_flow_128 : decode xb_fe_flow 128 = .ok (.invokevirtual 156, 3) := by decide +kernel
theorem xd_fe_flow_131 : decode xb_fe_flow 131 = .ok (.ifCond .eq 13, 3) := by decide +kernel
theorem xd_fe_flow_134 : decode xb_fe_flow 134 = .ok (.aload_n 3, 1) := by decide +kernel
theorem xd_fe_flow_135 : decode xb_fe_flow 135 = .ok (.getfield 162, 3) := by decide +kernel
theorem xd_fe_flow_138 : decode xb_fe_flow 138 = .ok (.getfield 166, 3) := by decide +kernel
theorem xd_fe_flow_141 : decode xb_fe_flow 141 = .ok (.goto 5, 3) := by decide +kernel
theorem xd_fe_flow_144 : decode xb_fe_flow 144 = .ok (.bipush (-2), 2) := by decide +kernel
theorem xd_fe_flow_146 : decode xb_fe_flow 146 = .ok (.ireturn, 1) := by decide +kernel
theorem xd_fe_flow_147 : decode xb_fe_flow 147 = .ok (.aload_n 3, 1) := by decide +kernel
theorem xd_fe_flow_148 : decode xb_fe_flow 148 = .ok (.getfield 134, 3) := by decide +kernel
theorem xd_fe_flow_151 : decode xb_fe_flow 151 = .ok (.iconst 5, 1) := by decide +kernel
theorem xd_fe_flow_152 : decode xb_fe_flow 152 = .ok (.if_icmp .ne 10, 3) := by decide +kernel
theorem xd_fe_flow_155 : decode xb_fe_flow 155 = .ok (.aload_n 3, 1) := by decide +kernel
theorem xd_fe_flow_156 : decode xb_fe_flow 156 = .ok (.getfield 169, 3) := by decide +kernel
theorem xd_fe_flow_159 : decode xb_fe_flow 159 = .ok (.goto 4, 3) := by decide +kernel
theorem xd_fe_flow_162 : decode xb_fe_flow 162 = .ok (.iconst 0, 1) := by decide +kernel
theorem xd_fe_flow_163 : decode xb_fe_flow 163 = .ok (.ireturn, 1) := by decide +kernel
theorem xd_fe_flow_164 : decode xb_fe_flow 164 = .ok (.aload_n 3, 1) := by decide +kernel
theorem xd_fe_flow_165 : decode xb_fe_flow 165 = .ok (.getfield 80, 3) := by decide +kernel
theorem xd_fe_flow_168 : decode xb_fe_flow 168 = .ok (.getfield 172, 3) := by decide +kernel
theorem xd_fe_flow_171 : decode xb_fe_flow 171 = .ok (.ireturn, 1) := by decide +kernel
theorem xd_fe_flow_172 : decode xb_fe_flow 172 = .ok (.aload_n 3, 1) := by decide +kernel
theorem xd_fe_flow_173 : decode xb_fe_flow 173 = .ok (.getfield 143, 3) := by decide +kernel
theorem xd_fe_flow_176 : decode xb_fe_flow 176 = .ok (.ifCond .eq 7, 3) := by decide +kernel
theorem xd_fe_flow_179 : decode xb_fe_flow 179 = .ok (.iconst 1, 1) := by decide +kernel
theorem xd_fe_flow_180 : decode xb_fe_flow 180 = .ok (.goto 4, 3) := by decide +kernel
theorem xd_fe_flow_183 : decode xb_fe_flow 183 = .ok (.iconst 0, 1) := by decide +kernel
theorem xd_fe_flow_184 : decode xb_fe_flow 184 = .ok (.ireturn, 1) := by decide +kernel
theorem xd_fe_flow_185 : decode xb_fe_flow 185 = .ok (.aload_n 3, 1) := by decide +kernel
theorem xd_fe_flow_186 : decode xb_fe_flow 186 = .ok (.getfield 107, 3) := by decide +kernel
theorem xd_fe_flow_189 : decode xb_fe_flow 189 = .ok (.getfield 173, 3) := by decide +kernel
theorem xd_fe_flow_192 : decode xb_fe_flow 192 = .ok (.ireturn, 1) := by decide +kernel
theorem xd_fe_flow_193 : decode xb_fe_flow 193 = .ok (.aload_n 3, 1) := by decide +kernel
theorem xd_fe_flow_194 : decode xb_fe_flow 194 = .ok (.getfield 107, 3) := by decide +kernel
theorem xd_fe_flow_197 : decode xb_fe_flow 197 = .ok (.getfield 125, 3) := by decide +kernel
theorem xd_fe_flow_200 : decode xb_fe_flow 200 = .ok (.ifCond .eq 7, 3) := by decide +kernel
theorem xd_fe_flow_203 : decode xb_fe_flow 203 = .ok (.iconst 1, 1) := by decide +kernel
theorem xd_fe_flow_204 : decode xb_fe_flow 204 = .ok (.goto 4, 3) := by decide +kernel
theorem xd_fe_flow_207 : decode xb_fe_flow 207 = .ok (.iconst 0, 1) := by decide +kernel
theorem xd_fe_flow_208 : decode xb_fe_flow 208 = .ok (.ireturn, 1) := by decide +kernel
theorem xd_fe_flow_209 : decode xb_fe_flow 209 = .ok (.aload_n 3, 1) := by decide +kernel
theorem xd_fe_flow_210 : decode xb_fe_flow 210 = .ok (.getfield 143, 3) := by decide +kernel
theorem xd_fe_flow_213 : decode xb_fe_flow 213 = .ok (.ifCond .eq 7, 3) := by decide +kernel
theorem xd_fe_flow_216 : decode xb_fe_flow 216 = .ok (.iconst 0, 1) := by decide +kernel
theorem xd_fe_flow_217 : decode xb_fe_flow 217 = .ok (.goto 12, 3) := by decide +kernel
theorem xd_fe_flow_220 : decode xb_fe_flow 220 = .ok (.aload_n 3, 1) := by decide +kernel
theorem xd_fe_flow_221 : decode xb_fe_flow 221 = .ok (.getfield 176, 3) := by decide +kernel
theorem xd_fe_flow_224 : decode xb_fe_flow 224 = .ok (.iload_n 2, 1) := by decide +kernel
theorem xd_fe_flow_225 : decode xb_fe_flow 225 = .ok (.bipush 10, 2) := by decide +kernel
theorem xd_fe_flow_227 : decode xb_fe_flow 227 = .ok (.isub, 1) := by decide +kernel
theorem xd_fe_flow_228 : decode xb_fe_flow 228 = .ok (.iaload, 1) := by decide +kernel
theorem xd_fe_flow_229 : decode xb_fe_flow 229 = .ok (.ireturn, 1) := by decide +kernel
