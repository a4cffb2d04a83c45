theorem md_fm_came_0 : decode mb_fm_came 0 = .ok (.aload_n 0, 1) := by decide +kernel
theorem md_fm_came_1 : decode mb_fm_came 1 = .ok (.getfield 38, 3) := by decide +kernel
theorem md_fm_came_4 : decode mb_fm_came 4 = .ok (.iload_n 1, 1) := by decide +kernel
theorem md_fm_came_5 : decode mb_fm_came 5 = .ok (.iaload, 1) := by decide +kernel
theorem md_fm_came_6 : decode mb_fm_came 6 = .ok (.iconst 4, 1) := by decide +kernel
theorem md_fm_came_7 : decode mb_fm_came 7 = .ok (.if_icmp .ne 7, 3) := by decide +kernel
theorem md_fm_came_10 : decode mb_fm_came 10 = .ok (.iconst 1, 1) := by decide +kernel
theorem md_fm_came_11 : decode mb_fm_came 11 = .ok (.goto 4, 3) := by decide +kernel
theorem md_fm_came_14 : decode mb_fm_came 14 = .ok (.iconst 0, 1) := by decide +kernel
theorem md_fm_came_15 : decode mb_fm_came 15 = .ok (.istore 4, 2) := by decide +kernel
theorem md_fm_came_17 : decode mb_fm_came 17 = .ok (.aload_n 0, 1) := by decide +kernel
theorem md_fm_came_18 : decode mb_fm_came 18 = .ok (.getfield 44, 3) := by decide +kernel
theorem md_fm_came_21 : decode mb_fm_came 21 = .ok (.iload_n 1, 1) := by decide +kernel
theorem md_fm_came_22 : decode mb_fm_came 22 = .ok (.iconst 0, 1) := by decide +kernel
theorem md_fm_came_23 : decode mb_fm_came 23 = .ok (.iastore, 1) := by decide +kernel
theorem md_fm_came_24 : decode mb_fm_came 24 = .ok (.aload_n 0, 1) := by decide +kernel
theorem md_fm_came_25 : decode mb_fm_came 25 = .ok (.getfield 38, 3) := by decide +kernel
theorem md_fm_came_28 : decode mb_fm_came 28 = .ok (.iload_n 1, 1) := by decide +kernel
theorem md_fm_came_29 : decode mb_fm_came 29 = .ok (.iconst 0, 1) := by decide +kernel
theorem md_fm_came_30 : decode mb_fm_came 30 = .ok (.iastore, 1) := by decide +kernel
theorem md_fm_came_31 : decode mb_fm_came 31 = .ok (.iload 4, 2) := by decide +kernel
theorem md_fm_came_33 : decode mb_fm_came 33 = .ok (.ifCond .ne 8, 3) := by decide +kernel
theorem md_fm_came_36 : decode mb_fm_came 36 = .ok (.iload_n 2, 1) := by decide +kernel
theorem md_fm_came_37 : decode mb_fm_came 37 = .ok (.iconst 4, 1) := by decide +kernel
theorem md_fm_came_38 : decode mb_fm_came 38 = .ok (.if_icmp .ne 9, 3) := by decide +kernel
theorem md_fm_came_41 : decode mb_fm_came 41 = .ok (.aload_n 0, 1) := by decide +kernel
theorem md_fm_came_42 : decode mb_fm_came 42 = .ok (.iload_n 1, 1) := by decide +kernel
theorem md_fm_came_43 : decode mb_fm_came 43 = .ok (.invokevirtual 170, 3) := by decide +kernel
theorem md_fm_came_46 : decode mb_fm_came 46 = .ok (.return_, 1) := by decide +kernel
theorem md_fm_came_47 : decode mb_fm_came 47 = .ok (.iload_n 2, 1) := by decide +kernel
theorem md_fm_came_48 : decode mb_fm_came 48 = .ok (.bipush 6, 2) := by decide +kernel
theorem md_fm_came_50 : decode mb_fm_came 50 = .ok (.if_icmp .eq 34, 3) := by decide +kernel
theorem md_fm_came_53 : decode mb_fm_came 53 = .ok (.aload_n 0, 1) := by decide +kernel
theorem md_fm_came_54 : decode mb_fm_came 54 = .ok (.getfield 50, 3) := by decide +kernel
theorem md_fm_came_57 : decode mb_fm_came 57 = .ok (.iconst 4, 1) := by decide +kernel
theorem md_fm_came_58 : decode mb_fm_came 58 = .ok (.iload_n 1, 1) := by decide +kernel
theorem md_fm_came_59 : decode mb_fm_came 59 = .ok (.imul, 1) := by decide +kernel
theorem md_fm_came_60 : decode mb_fm_came 60 = .ok (.aload_n 0, 1) := by decide +kernel
theorem md_fm_came_61 : decode mb_fm_came 61 = .ok (.getfield 16, 3) := by decide +kernel
theorem md_fm_came_64 : decode mb_fm_came 64 = .ok (.bipush 14, 2) := by decide +kernel
theorem md_fm_came_66 : decode mb_fm_came 66 = .ok (.aload_n 0, 1) := by decide +kernel
theorem md_fm_came_67 : decode mb_fm_came 67 = .ok (.getfield 35, 3) := by decide +kernel
theorem md_fm_came_70 : decode mb_fm_came 70 = .ok (.iload_n 1, 1) := by decide +kernel
theorem md_fm_came_71 : decode mb_fm_came 71 = .ok (.iaload, 1) := by decide +kernel
theorem md_fm_came_72 : decode mb_fm_came 72 = .ok (.imul, 1) := by decide +kernel
theorem md_fm_came_73 : decode mb_fm_came 73 = .ok (.aload_n 0, 1) := by decide +kernel
theorem md_fm_came_74 : decode mb_fm_came 74 = .ok (.getfield 41, 3) := by decide +kernel
theorem md_fm_came_77 : decode mb_fm_came 77 = .ok (.iload_n 1, 1) := by decide +kernel
theorem md_fm_came_78 : decode mb_fm_came 78 = .ok (.iaload, 1) := by decide +kernel
theorem md_fm_came_79 : decode mb_fm_came 79 = .ok (.iadd, 1) := by decide +kernel
theorem md_fm_came_80 : decode mb_fm_came 80 = .ok (.iaload, 1) := by decide +kernel
theorem md_fm_came_81 : decode mb_fm_came 81 = .ok (.iadd, 1) := by decide +kernel
theorem md_fm_came_82 : decode mb_fm_came 82 = .ok (.iload_n 3, 1) := by decide +kernel
theorem md_fm_came_83 : decode mb_fm_came 83 = .ok (.iastore, 1) := by decide +kernel
theorem md_fm_came_84 : decode mb_fm_came 84 = .ok (.aload_n 0, 1) := by decide +kernel
theorem md_fm_came_85 : decode mb_fm_came 85 = .ok (.getfield 41, 3) := by decide +kernel
theorem md_fm_came_88 : decode mb_fm_came 88 = .ok (.iload_n 1, 1) := by decide +kernel
theorem md_fm_came_89 : decode mb_fm_came 89 = .ok (.dup2, 1) := by decide +kernel
theorem md_fm_came_90 : decode mb_fm_came 90 = .ok (.iaload, 1) := by decide +kernel
theorem md_fm_came_91 : decode mb_fm_came 91 = .ok (.iconst 1, 1) := by decide +kernel
theorem md_fm_came_92 : decode mb_fm_came 92 = .ok (.iadd, 1) := by decide +kernel
theorem md_fm_came_93 : decode mb_fm_came 93 = .ok (.iastore, 1) := by decide +kernel
theorem md_fm_came_94 : decode mb_fm_came 94 = .ok (.return_, 1) := by decide +kernel
theorem md_fm_remove_0 : decode mb_fm_remove 0 = .ok (.aload_n 0, 1) := by decide +kernel
theorem md_fm_remove_1 : decode mb_fm_remove 1 = .ok (.iload_n 1, 1) := by decide +kernel
theorem md_fm_remove_2 : decode mb_fm_remove 2 = .ok (.invokevirtual 195, 3) := by decide +kernel
theorem md_fm_remove_5 : decode mb_fm_remove 5 = .ok (.ifCond .ne 5, 3) := by decide +kernel
theorem md_fm_remove_8 : decode mb_fm_remove 8 = .ok (.iconst 0, 1) := by decide +kernel
theorem md_fm_remove_9 : decode mb_fm_remove 9 = .ok (.ireturn, 1) := by decide +kernel
theorem md_fm_remove_10 : decode mb_fm_remove 10 = .ok (.aload_n 0, 1) := by decide +kernel
theorem md_fm_remove_11 : decode mb_fm_remove 11 = .ok (.getfield 22, 3) := by decide +kernel
theorem md_fm_remove_14 : decode mb_fm_remove 14 = .ok (.iload_n 1, 1) := by decide +kernel
theorem md_fm_remove_15 : decode mb_fm_remove 15 = .ok (.iconst 0, 1) := by decide +kernel
theorem md_fm_remove_16 : decode mb_fm_remove 16 = .ok (.bastore, 1) := by decide +kernel
theorem md_fm_remove_17 : decode mb_fm_remove 17 = .ok (.aload_n 0, 1) := by decide +kernel
theorem md_fm_remove_18 : decode mb_fm_remove 18 = .ok (.iload_n 1, 1) := by decide +kernel
theorem md_fm_remove_19 : decode mb_fm_remove 19 = .ok (.invokevirtual 133, 3) := by decide +kernel
theorem md_fm_remove_22 : decode mb_fm_remove 22 = .ok (.iconst 1, 1) := by decide +kernel
theorem md_fm_remove_23 : decode mb_fm_remove 23 = .ok (.ireturn, 1) := by decide +kernel
theorem md_fm_isThere_0 : decode mb_fm_isThere 0 = .ok (.iload_n 1, 1) := by decide +kernel
theorem md_fm_isThere_1 : decode mb_fm_isThere 1 = .ok (.iconst 0, 1) := by decide +kernel
theorem md_fm_isThere_2 : decode mb_fm_isThere 2 = .ok (.iconst 5, 1) := by decide +kernel
theorem md_fm_isThere_3 : decode mb_fm_isThere 3 = .ok (.invokestatic 111, 3) := by decide +kernel
theorem md_fm_isThere_6 : decode mb_fm_isThere 6 = .ok (.ifCond .eq 16, 3) := by decide +kernel
theorem md_fm_isThere_9 : decode mb_fm_isThere 9 = .ok (.aload_n 0, 1) := by decide +kernel
theorem md_fm_isThere_10 : decode mb_fm_isThere 10 = .ok (.getfield 22, 3) := by decide +kernel
theorem md_fm_isThere_13 : decode mb_fm_isThere 13 = .ok (.iload_n 1, 1) := by decide +kernel
theorem md_fm_isThere_14 : decode mb_fm_isThere 14 = .ok (.baload, 1) := by decide +kernel
theorem md_fm_isThere_15 : decode mb_fm_isThere 15 = .ok (.ifCond .eq 7, 3) := by decide +kernel
theorem md_fm_isThere_18 : decode mb_fm_isThere 18 = .ok (.iconst 1, 1) := by decide +kernel
theorem md_fm_isThere_19 : decode mb_fm_isThere 19 = .ok (.goto 4, 3) := by decide +kernel
theorem md_fm_isThere_22 : decode mb_fm_isThere 22 = .ok (.iconst 0, 1) := by decide +kernel
theorem md_fm_isThere_23 : decode mb_fm_isThere 23 = .ok (.ireturn, 1) := by decide +kernel
theorem md_fm_signal_0 : decode mb_fm_signal 0 = .ok (.aload_n 0, 1) := by decide +kernel
theorem md_fm_signal_1 : decode mb_fm_signal 1 = .ok (.iload_n 1, 1) := by decide +kernel
theorem md_fm_signal_2 : decode mb_fm_signal 2 = .ok (.invokevirtual 195, 3) := by decide +kernel
theorem md_fm_signal_5 : decode mb_fm_signal 5 = .ok (.ifCond .eq 12, 3) := by decide +kernel
theorem md_fm_signal_8 : decode mb_fm_signal 8 = .ok (.iload_n 2, 1) := by decide +kernel
theorem md_fm_signal_9 : decode mb_fm_signal 9 = .ok (.iconst 0, 1) := by decide +kernel
theorem md_fm_signal_10 : decode mb_fm_signal 10 = .ok (.iconst 3, 1) := by decide +kernel
theorem md_fm_signal_11 : decode mb_fm_signal 11 = .ok (.invokestatic 111, 3) := by decide +kernel
theorem md_fm_signal_14 : decode mb_fm_signal 14 = .ok (.ifCond .ne 5, 3) := by decide +kernel
theorem md_fm_signal_17 : decode mb_fm_signal 17 = .ok (.iconst (-1), 1) := by decide +kernel
theorem md_fm_signal_18 : decode mb_fm_signal 18 = .ok (.ireturn, 1) := by decide +kernel
theorem md_fm_signal_19 : decode mb_fm_signal 19 = .ok (.aload_n 0, 1) := by decide +kernel
theorem md_fm_signal_20 : decode mb_fm_signal 20 = .ok (.iload_n 1, 1) := by decide +kernel
theorem md_fm_signal_21 : decode mb_fm_signal 21 = .ok (.invokevirtual 191, 3) := by decide +kernel
theorem md_fm_signal_24 : decode mb_fm_signal 24 = .ok (.ifCond .eq 6, 3) := by decide +kernel
theorem md_fm_signal_27 : decode mb_fm_signal 27 = .ok (.bipush (-2), 2) := by decide +kernel
theorem md_fm_signal_29 : decode mb_fm_signal 29 = .ok (.ireturn, 1) := by decide +kernel
theorem md_fm_signal_30 : decode mb_fm_signal 30 = .ok (.aload_n 0, 1) := by decide +kernel
theorem md_fm_signal_31 : decode mb_fm_signal 31 = .ok (.getfield 77, 3) := by decide +kernel
theorem md_fm_signal_34 : decode mb_fm_signal 34 = .ok (.iload_n 1, 1) := by decide +kernel
theorem md_fm_signal_35 : decode mb_fm_signal 35 = .ok (.iaload, 1) := by decide +kernel
theorem md_fm_signal_36 : decode mb_fm_signal 36 = .ok (.iconst 4, 1) := by decide +kernel
theorem md_fm_signal_37 : decode mb_fm_signal 37 = .ok (.if_icmp .ne 6, 3) := by decide +kernel
theorem md_fm_signal_40 : decode mb_fm_signal 40 = .ok (.bipush (-3), 2) := by decide +kernel
theorem md_fm_signal_42 : decode mb_fm_signal 42 = .ok (.ireturn, 1) := by decide +kernel
theorem md_fm_signal_43 : decode mb_fm_signal 43 = .ok (.aload_n 0, 1) := by decide +kernel
theorem md_fm_signal_44 : decode mb_fm_signal 44 = .ok (.iload_n 1, 1) := by decide +kernel
theorem md_fm_signal_45 : decode mb_fm_signal 45 = .ok (.invokevirtual 188, 3) := by decide +kernel
theorem md_fm_signal_48 : decode mb_fm_signal 48 = .ok (.aload_n 0, 1) := by decide +kernel
theorem md_fm_signal_49 : decode mb_fm_signal 49 = .ok (.iload_n 1, 1) := by decide +kernel
theorem md_fm_signal_50 : decode mb_fm_signal 50 = .ok (.invokevirtual 191, 3) := by decide +kernel
theorem md_fm_signal_53 : decode mb_fm_signal 53 = .ok (.ifCond .eq 5, 3) := by decide +kernel
theorem md_fm_signal_56 : decode mb_fm_signal 56 = .ok (.iconst 0, 1) := by decide +kernel
theorem md_fm_signal_57 : decode mb_fm_signal 57 = .ok (.ireturn, 1) := by decide +kernel
theorem md_fm_signal_58 : decode mb_fm_signal 58 = .ok (.aload_n 0, 1) := by decide +kernel
theorem md_fm_signal_59 : decode mb_fm_signal 59 = .ok (.getfield 38, 3) := by decide +kernel
theorem md_fm_signal_62 : decode mb_fm_signal 62 = .ok (.iload_n 1, 1) := by decide +kernel
theorem md_fm_signal_63 : decode mb_fm_signal 63 = .ok (.iaload, 1) := by decide +kernel
theorem md_fm_signal_64 : decode mb_fm_signal 64 = .ok (.iconst 3, 1) := by decide +kernel
theorem md_fm_signal_65 : decode mb_fm_signal 65 = .ok (.if_icmp .ne 25, 3) := by decide +kernel
theorem md_fm_signal_68 : decode mb_fm_signal 68 = .ok (.aload_n 0, 1) := by decide +kernel
theorem md_fm_signal_69 : decode mb_fm_signal 69 = .ok (.iload_n 1, 1) := by decide +kernel
theorem md_fm_signal_70 : decode mb_fm_signal 70 = .ok (.bipush 7, 2) := by decide +kernel
theorem md_fm_signal_72 : decode mb_fm_signal 72 = .ok (.iload_n 2, 1) := by decide +kernel
theorem md_fm_signal_73 : decode mb_fm_signal 73 = .ok (.invokevirtual 176, 3) := by decide +kernel
theorem md_fm_signal_76 : decode mb_fm_signal 76 = .ok (.ifCond .eq 14, 3) := by decide +kernel
theorem md_fm_signal_79 : decode mb_fm_signal 79 = .ok (.aload_n 0, 1) := by decide +kernel
theorem md_fm_signal_80 : decode mb_fm_signal 80 = .ok (.iload_n 1, 1) := by decide +kernel
theorem md_fm_signal_81 : decode mb_fm_signal 81 = .ok (.bipush 7, 2) := by decide +kernel
theorem md_fm_signal_83 : decode mb_fm_signal 83 = .ok (.iload_n 2, 1) := by decide +kernel
theorem md_fm_signal_84 : decode mb_fm_signal 84 = .ok (.iload_n 3, 1) := by decide +kernel
theorem md_fm_signal_85 : decode mb_fm_signal 85 = .ok (.invokevirtual 198, 3) := by decide +kernel
theorem md_fm_signal_88 : decode mb_fm_signal 88 = .ok (.iconst 1, 1) := by decide +kernel
theorem md_fm_signal_89 : decode mb_fm_signal 89 = .ok (.ireturn, 1) := by decide +kernel
theorem md_fm_signal_90 : decode mb_fm_signal 90 = .ok (.aload_n 0, 1) := by decide +kernel
theorem md_fm_signal_91 : decode mb_fm_signal 91 = .ok (.getfield 80, 3) := by decide +kernel
theorem md_fm_signal_94 : decode mb_fm_signal 94 = .ok (.iconst 4, 1) := by decide +kernel
theorem md_fm_signal_95 : decode mb_fm_signal 95 = .ok (.iload_n 1, 1) := by decide +kernel
theorem md_fm_signal_96 : decode mb_fm_signal 96 = .ok (.imul, 1) := by decide +kernel
theorem md_fm_signal_97 : decode mb_fm_signal 97 = .ok (.aload_n 0, 1) := by decide +kernel
theorem md_fm_signal_98 : decode mb_fm_signal 98 = .ok (.getfield 77, 3) := by decide +kernel
theorem md_fm_signal_101 : decode mb_fm_signal 101 = .ok (.iload_n 1, 1) := by decide +kernel
theorem md_fm_signal_102 : decode mb_fm_signal 102 = .ok (.iaload, 1) := by decide +kernel
theorem md_fm_signal_103 : decode mb_fm_signal 103 = .ok (.iadd, 1) := by decide +kernel
theorem md_fm_signal_104 : decode mb_fm_signal 104 = .ok (.iload_n 2, 1) := by decide +kernel
theorem md_fm_signal_105 : decode mb_fm_signal 105 = .ok (.iastore, 1) := by decide +kernel
theorem md_fm_signal_106 : decode mb_fm_signal 106 = .ok (.aload_n 0, 1) := by decide +kernel
theorem md_fm_signal_107 : decode mb_fm_signal 107 = .ok (.getfield 83, 3) := by decide +kernel
theorem md_fm_signal_110 : decode mb_fm_signal 110 = .ok (.iconst 4, 1) := by decide +kernel
theorem md_fm_signal_111 : decode mb_fm_signal 111 = .ok (.iload_n 1, 1) := by decide +kernel
theorem md_fm_signal_112 : decode mb_fm_signal 112 = .ok (.imul, 1) := by decide +kernel
theorem md_fm_signal_113 : decode mb_fm_signal 113 = .ok (.aload_n 0, 1) := by decide +kernel
theorem md_fm_signal_114 : decode mb_fm_signal 114 = .ok (.getfield 77, 3) := by decide +kernel
theorem md_fm_signal_117 : decode mb_fm_signal 117 = .ok (.iload_n 1, 1) := by decide +kernel
theorem md_fm_signal_118 : decode mb_fm_signal 118 = .ok (.iaload, 1) := by decide +kernel
theorem md_fm_signal_119 : decode mb_fm_signal 119 = .ok (.iadd, 1) := by decide +kernel
theorem md_fm_signal_120 : decode mb_fm_signal 120 = .ok (.iload_n 3, 1) := by decide +kernel
theorem md_fm_signal_121 : decode mb_fm_signal 121 = .ok (.iastore, 1) := by decide +kernel
theorem md_fm_signal_122 : decode mb_fm_signal 122 = .ok (.aload_n 0, 1) := by decide +kernel
theorem md_fm_signal_123 : decode mb_fm_signal 123 = .ok (.getfield 77, 3) := by decide +kernel
theorem md_fm_signal_126 : decode mb_fm_signal 126 = .ok (.iload_n 1, 1) := by decide +kernel
theorem md_fm_signal_127 : decode mb_fm_signal 127 = .ok (.dup2, 1) := by decide +kernel
theorem md_fm_signal_128 : decode mb_fm_signal 128 = .ok (.iaload, 1) := by decide +kernel
theorem md_fm_signal_129 : decode mb_fm_signal 129 = .ok (.iconst 1, 1) := by decide +kernel
theorem md_fm_signal_130 : decode mb_fm_signal 130 = .ok (.iadd, 1) := by decide +kernel
theorem md_fm_signal_131 : decode mb_fm_signal 131 = .ok (.iastore, 1) := by decide +kernel
theorem md_fm_signal_132 : decode mb_fm_signal 132 = .ok (.iconst 0, 1) := by decide +kernel
theorem md_fm_signal_133 : decode mb_fm_signal 133 = .ok (.ireturn, 1) := by decide +kernel
theorem md_fm_hasEnded_0 : decode mb_fm_hasEnded 0 = .ok (.aload_n 0, 1) := by decide +kernel
theorem md_fm_hasEnded_1 : decode mb_fm_hasEnded 1 = .ok (.getfield 38, 3) := by decide +kernel
theorem md_fm_hasEnded_4 : decode mb_fm_hasEnded 4 = .ok (.iload_n 1, 1) := by decide +kernel
theorem md_fm_hasEnded_5 : decode mb_fm_hasEnded 5 = .ok (.iaload, 1) := by decide +kernel
theorem md_fm_hasEnded_6 : decode mb_fm_hasEnded 6 = .ok (.iconst 5, 1) := by decide +kernel
theorem md_fm_hasEnded_7 : decode mb_fm_hasEnded 7 = .ok (.if_icmp .lt 7, 3) := by decide +kernel
theorem md_fm_hasEnded_10 : decode mb_fm_hasEnded 10 = .ok (.iconst 1, 1) := by decide +kernel
theorem md_fm_hasEnded_11 : decode mb_fm_hasEnded 11 = .ok (.goto 4, 3) := by decide +kernel
theorem md_fm_hasEnded_14 : decode mb_fm_hasEnded 14 = .ok (.iconst 0, 1) := by decide +kernel
theorem md_fm_hasEnded_15 : decode mb_fm_hasEnded 15 = .ok (.ireturn, 1) := by decide +kernel
theorem md_fm_remember_0 : decode mb_fm_remember 0 = .ok (.aload_n 0, 1) := by decide +kernel
theorem md_fm_remember_1 : decode mb_fm_remember 1 = .ok (.getfield 26, 3) := by decide +kernel
theorem md_fm_remember_4 : decode mb_fm_remember 4 = .ok (.iload_n 1, 1) := by decide +kernel
theorem md_fm_remember_5 : decode mb_fm_remember 5 = .ok (.baload, 1) := by decide +kernel
theorem md_fm_remember_6 : decode mb_fm_remember 6 = .ok (.ifCond .ne 4, 3) := by decide +kernel
theorem md_fm_remember_9 : decode mb_fm_remember 9 = .ok (.return_, 1) := by decide +kernel
theorem md_fm_remember_10 : decode mb_fm_remember 10 = .ok (.aload_n 0, 1) := by decide +kernel
theorem md_fm_remember_11 : decode mb_fm_remember 11 = .ok (.getfield 26, 3) := by decide +kernel
theorem md_fm_remember_14 : decode mb_fm_remember 14 = .ok (.iload_n 1, 1) := by decide +kernel
theorem md_fm_remember_15 : decode mb_fm_remember 15 = .ok (.iconst 0, 1) := by decide +kernel
theorem md_fm_remember_16 : decode mb_fm_remember 16 = .ok (.bastore, 1) := by decide +kernel
theorem md_fm_remember_17 : decode mb_fm_remember 17 = .ok (.aload_n 0, 1) := by decide +kernel
theorem md_fm_remember_18 : decode mb_fm_remember 18 = .ok (.getfield 108, 3) := by decide +kernel
theorem md_fm_remember_21 : decode mb_fm_remember 21 = .ok (.iconst 5, 1) := by decide +kernel
theorem md_fm_remember_22 : decode mb_fm_remember 22 = .ok (.dup2, 1) := by decide +kernel
theorem md_fm_remember_23 : decode mb_fm_remember 23 = .ok (.iaload, 1) := by decide +kernel
theorem md_fm_remember_24 : decode mb_fm_remember 24 = .ok (.iconst 1, 1) := by decide +kernel
theorem md_fm_remember_25 : decode mb_fm_remember 25 = .ok (.iadd, 1) := by decide +kernel
theorem md_fm_remember_26 : decode mb_fm_remember 26 = .ok (.iastore, 1) := by decide +kernel
theorem md_fm_remember_27 : decode mb_fm_remember 27 = .ok (.aload_n 0, 1) := by decide +kernel
theorem md_fm_remember_28 : decode mb_fm_remember 28 = .ok (.iload_n 1, 1) := by decide +kernel
theorem md_fm_remember_29 : decode mb_fm_remember 29 = .ok (.invokevirtual 185, 3) := by decide +kernel
theorem md_fm_remember_32 : decode mb_fm_remember 32 = .ok (.return_, 1) := by decide +kernel
theorem md_fm_write_0 : decode mb_fm_write 0 = .ok (.aload_n 0, 1) := by decide +kernel
theorem md_fm_write_1 : decode mb_fm_write 1 = .ok (.iload_n 1, 1) := by decide +kernel
theorem md_fm_write_2 : decode mb_fm_write 2 = .ok (.invokevirtual 188, 3) := by decide +kernel
theorem md_fm_write_5 : decode mb_fm_write 5 = .ok (.aload_n 0, 1) := by decide +kernel
theorem md_fm_write_6 : decode mb_fm_write 6 = .ok (.iload_n 1, 1) := by decide +kernel
theorem md_fm_write_7 : decode mb_fm_write 7 = .ok (.invokevirtual 191, 3) := by decide +kernel
theorem md_fm_write_10 : decode mb_fm_write 10 = .ok (.ifCond .ne 13, 3) := by decide +kernel
theorem md_fm_write_13 : decode mb_fm_write 13 = .ok (.aload_n 0, 1) := by decide +kernel
theorem md_fm_write_14 : decode mb_fm_write 14 = .ok (.iload_n 1, 1) := by decide +kernel
theorem md_fm_write_15 : decode mb_fm_write 15 = .ok (.iload_n 2, 1) := by decide +kernel
theorem md_fm_write_16 : decode mb_fm_write 16 = .ok (.iload_n 3, 1) := by decide +kernel
theorem md_fm_write_17 : decode mb_fm_write 17 = .ok (.invokevirtual 176, 3) := by decide +kernel
theorem md_fm_write_20 : decode mb_fm_write 20 = .ok (.ifCond .ne 4, 3) := by decide +kernel
theorem md_fm_write_23 : decode mb_fm_write 23 = .ok (.return_, 1) := by decide +kernel
theorem md_fm_write_24 : decode mb_fm_write 24 = .ok (.aload_n 0, 1) := by decide +kernel
theorem md_fm_write_25 : decode mb_fm_write 25 = .ok (.iload_n 1, 1) := by decide +kernel
theorem md_fm_write_26 : decode mb_fm_write 26 = .ok (.iload_n 2, 1) := by decide +kernel
theorem md_fm_write_27 : decode mb_fm_write 27 = .ok (.iload_n 3, 1) := by decide +kernel
theorem md_fm_write_28 : decode mb_fm_write 28 = .ok (.iload 4, 2) := by decide +kernel
theorem md_fm_write_30 : decode mb_fm_write 30 = .ok (.invokevirtual 150, 3) := by decide +kernel
theorem md_fm_write_33 : decode mb_fm_write 33 = .ok (.istore 5, 2) := by decide +kernel
theorem md_fm_write_35 : decode mb_fm_write 35 = .ok (.iload 5, 2) := by decide +kernel
theorem md_fm_write_37 : decode mb_fm_write 37 = .ok (.ifCond .ne 4, 3) := by decide +kernel
theorem md_fm_write_40 : decode mb_fm_write 40 = .ok (.return_, 1) := by decide +kernel
theorem md_fm_write_41 : decode mb_fm_write 41 = .ok (.aload_n 0, 1) := by decide +kernel
theorem md_fm_write_42 : decode mb_fm_write 42 = .ok (.iload_n 1, 1) := by decide +kernel
theorem md_fm_write_43 : decode mb_fm_write 43 = .ok (.iload_n 2, 1) := by decide +kernel
theorem md_fm_write_44 : decode mb_fm_write 44 = .ok (.iload 4, 2) := by decide +kernel
theorem md_fm_write_46 : decode mb_fm_write 46 = .ok (.invokevirtual 179, 3) := by decide +kernel
theorem md_fm_write_49 : decode mb_fm_write 49 = .ok (.aload_n 0, 1) := by decide +kernel
theorem md_fm_write_50 : decode mb_fm_write 50 = .ok (.iload_n 1, 1) := by decide +kernel
theorem md_fm_write_51 : decode mb_fm_write 51 = .ok (.invokevirtual 182, 3) := by decide +kernel
theorem md_fm_write_54 : decode mb_fm_write 54 = .ok (.return_, 1) := by decide +kernel
theorem md_fm_take_0 : decode mb_fm_take 0 = .ok (.iconst 0, 1) := by decide +kernel
theorem md_fm_take_1 : decode mb_fm_take 1 = .ok (.istore_n 1, 1) := by decide +kernel
theorem md_fm_take_2 : decode mb_fm_take 2 = .ok (.iload_n 1, 1) := by decide +kernel
theorem md_fm_take_3 : decode mb_fm_take 3 = .ok (.aload_n 0, 1) := by decide +kernel
theorem md_fm_take_4 : decode mb_fm_take 4 = .ok (.getfield 126, 3) := by decide +kernel
theorem md_fm_take_7 : decode mb_fm_take 7 = .ok (.if_icmp .ge 66, 3) := by decide +kernel
theorem md_fm_take_10 : decode mb_fm_take 10 = .ok (.aload_n 0, 1) := by decide +kernel
theorem md_fm_take_11 : decode mb_fm_take 11 = .ok (.getfield 105, 3) := by decide +kernel
theorem md_fm_take_14 : decode mb_fm_take 14 = .ok (.iload_n 1, 1) := by decide +kernel
theorem md_fm_take_15 : decode mb_fm_take 15 = .ok (.iaload, 1) := by decide +kernel
theorem md_fm_take_16 : decode mb_fm_take 16 = .ok (.istore_n 2, 1) := by decide +kernel
theorem md_fm_take_17 : decode mb_fm_take 17 = .ok (.aload_n 0, 1) := by decide +kernel
theorem md_fm_take_18 : decode mb_fm_take 18 = .ok (.getfield 136, 3) := by decide +kernel
theorem md_fm_take_21 : decode mb_fm_take 21 = .ok (.aload_n 0, 1) := by decide +kernel
theorem md_fm_take_22 : decode mb_fm_take 22 = .ok (.getfield 102, 3) := by decide +kernel
theorem md_fm_take_25 : decode mb_fm_take 25 = .ok (.iload_n 2, 1) := by decide +kernel
theorem md_fm_take_26 : decode mb_fm_take 26 = .ok (.iaload, 1) := by decide +kernel
theorem md_fm_take_27 : decode mb_fm_take 27 = .ok (.if_icmp .ge 6, 3) := by decide +kernel
theorem md_fm_take_30 : decode mb_fm_take 30 = .ok (.goto 37, 3) := by decide +kernel
theorem md_fm_take_33 : decode mb_fm_take 33 = .ok (.aload_n 0, 1) := by decide +kernel
theorem md_fm_take_34 : decode mb_fm_take 34 = .ok (.iload_n 2, 1) := by decide +kernel
theorem md_fm_take_35 : decode mb_fm_take 35 = .ok (.invokevirtual 130, 3) := by decide +kernel
theorem md_fm_take_38 : decode mb_fm_take 38 = .ok (.aload_n 0, 1) := by decide +kernel
theorem md_fm_take_39 : decode mb_fm_take 39 = .ok (.getfield 29, 3) := by decide +kernel
theorem md_fm_take_42 : decode mb_fm_take 42 = .ok (.iload_n 2, 1) := by decide +kernel
theorem md_fm_take_43 : decode mb_fm_take 43 = .ok (.iconst 1, 1) := by decide +kernel
theorem md_fm_take_44 : decode mb_fm_take 44 = .ok (.bastore, 1) := by decide +kernel
theorem md_fm_take_45 : decode mb_fm_take 45 = .ok (.aload_n 0, 1) := by decide +kernel
theorem md_fm_take_46 : decode mb_fm_take 46 = .ok (.getfield 96, 3) := by decide +kernel
theorem md_fm_take_49 : decode mb_fm_take 49 = .ok (.iload_n 2, 1) := by decide +kernel
theorem md_fm_take_50 : decode mb_fm_take 50 = .ok (.dup2, 1) := by decide +kernel
theorem md_fm_take_51 : decode mb_fm_take 51 = .ok (.iaload, 1) := by decide +kernel
theorem md_fm_take_52 : decode mb_fm_take 52 = .ok (.iconst 1, 1) := by decide +kernel
theorem md_fm_take_53 : decode mb_fm_take 53 = .ok (.iadd, 1) := by decide +kernel
theorem md_fm_take_54 : decode mb_fm_take 54 = .ok (.iastore, 1) := by decide +kernel
theorem md_fm_take_55 : decode mb_fm_take 55 = .ok (.aload_n 0, 1) := by decide +kernel
theorem md_fm_take_56 : decode mb_fm_take 56 = .ok (.getfield 99, 3) := by decide +kernel
theorem md_fm_take_59 : decode mb_fm_take 59 = .ok (.iload_n 2, 1) := by decide +kernel
theorem md_fm_take_60 : decode mb_fm_take 60 = .ok (.aload_n 0, 1) := by decide +kernel
theorem md_fm_take_61 : decode mb_fm_take 61 = .ok (.getfield 136, 3) := by decide +kernel
theorem md_fm_take_64 : decode mb_fm_take 64 = .ok (.iastore, 1) := by decide +kernel
theorem md_fm_take_65 : decode mb_fm_take 65 = .ok (.iload_n 2, 1) := by decide +kernel
theorem md_fm_take_66 : decode mb_fm_take 66 = .ok (.ireturn, 1) := by decide +kernel
theorem md_fm_take_67 : decode mb_fm_take 67 = .ok (.iinc 1 1, 3) := by decide +kernel
theorem md_fm_take_70 : decode mb_fm_take 70 = .ok (.goto (-68), 3) := by decide +kernel
theorem md_fm_take_73 : decode mb_fm_take 73 = .ok (.bipush (-2), 2) := by decide +kernel
theorem md_fm_take_75 : decode mb_fm_take 75 = .ok (.ireturn, 1) := by decide +kernel
theorem md_fm_answer_0 : decode mb_fm_answer 0 = .ok (.aload_n 0, 1) := by decide +kernel
theorem md_fm_answer_1 : decode mb_fm_answer 1 = .ok (.iload_n 1, 1) := by decide +kernel
theorem md_fm_answer_2 : decode mb_fm_answer 2 = .ok (.invokevirtual 195, 3) := by decide +kernel
theorem md_fm_answer_5 : decode mb_fm_answer 5 = .ok (.ifCond .ne 5, 3) := by decide +kernel
theorem md_fm_answer_8 : decode mb_fm_answer 8 = .ok (.iconst (-1), 1) := by decide +kernel
theorem md_fm_answer_9 : decode mb_fm_answer 9 = .ok (.ireturn, 1) := by decide +kernel
theorem md_fm_answer_10 : decode mb_fm_answer 10 = .ok (.aload_n 0, 1) := by decide +kernel
theorem md_fm_answer_11 : decode mb_fm_answer 11 = .ok (.getfield 29, 3) := by decide +kernel
theorem md_fm_answer_14 : decode mb_fm_answer 14 = .ok (.iload_n 1, 1) := by decide +kernel
theorem md_fm_answer_15 : decode mb_fm_answer 15 = .ok (.baload, 1) := by decide +kernel
theorem md_fm_answer_16 : decode mb_fm_answer 16 = .ok (.ifCond .ne 6, 3) := by decide +kernel
theorem md_fm_answer_19 : decode mb_fm_answer 19 = .ok (.bipush (-2), 2) := by decide +kernel
theorem md_fm_answer_21 : decode mb_fm_answer 21 = .ok (.ireturn, 1) := by decide +kernel
theorem md_fm_answer_22 : decode mb_fm_answer 22 = .ok (.iload_n 2, 1) := by decide +kernel
theorem md_fm_answer_23 : decode mb_fm_answer 23 = .ok (.ifCond .eq 28, 3) := by decide +kernel
theorem md_fm_answer_26 : decode mb_fm_answer 26 = .ok (.aload_n 0, 1) := by decide +kernel
theorem md_fm_answer_27 : decode mb_fm_answer 27 = .ok (.getfield 93, 3) := by decide +kernel
theorem md_fm_answer_30 : decode mb_fm_answer 30 = .ok (.iload_n 1, 1) := by decide +kernel
theorem md_fm_answer_31 : decode mb_fm_answer 31 = .ok (.iaload, 1) := by decide +kernel
theorem md_fm_answer_32 : decode mb_fm_answer 32 = .ok (.istore 4, 2) := by decide +kernel
theorem md_fm_answer_34 : decode mb_fm_answer 34 = .ok (.aload_n 0, 1) := by decide +kernel
theorem md_fm_answer_35 : decode mb_fm_answer 35 = .ok (.iload_n 1, 1) := by decide +kernel
theorem md_fm_answer_36 : decode mb_fm_answer 36 = .ok (.invokevirtual 133, 3) := by decide +kernel
theorem md_fm_answer_39 : decode mb_fm_answer 39 = .ok (.aload_n 0, 1) := by decide +kernel
theorem md_fm_answer_40 : decode mb_fm_answer 40 = .ok (.iload_n 1, 1) := by decide +kernel
theorem md_fm_answer_41 : decode mb_fm_answer 41 = .ok (.iconst 3, 1) := by decide +kernel
theorem md_fm_answer_42 : decode mb_fm_answer 42 = .ok (.iload 4, 2) := by decide +kernel
theorem md_fm_answer_44 : decode mb_fm_answer 44 = .ok (.iload_n 3, 1) := by decide +kernel
theorem md_fm_answer_45 : decode mb_fm_answer 45 = .ok (.invokevirtual 198, 3) := by decide +kernel
theorem md_fm_answer_48 : decode mb_fm_answer 48 = .ok (.goto 8, 3) := by decide +kernel
theorem md_fm_answer_51 : decode mb_fm_answer 51 = .ok (.aload_n 0, 1) := by decide +kernel
theorem md_fm_answer_52 : decode mb_fm_answer 52 = .ok (.iload_n 1, 1) := by decide +kernel
theorem md_fm_answer_53 : decode mb_fm_answer 53 = .ok (.invokevirtual 201, 3) := by decide +kernel
theorem md_fm_answer_56 : decode mb_fm_answer 56 = .ok (.aload_n 0, 1) := by decide +kernel
theorem md_fm_answer_57 : decode mb_fm_answer 57 = .ok (.getfield 38, 3) := by decide +kernel
theorem md_fm_answer_60 : decode mb_fm_answer 60 = .ok (.iload_n 1, 1) := by decide +kernel
theorem md_fm_answer_61 : decode mb_fm_answer 61 = .ok (.iaload, 1) := by decide +kernel
theorem md_fm_answer_62 : decode mb_fm_answer 62 = .ok (.ireturn, 1) := by decide +kernel
theorem md_fm_wrong_0 : decode mb_fm_wrong 0 = .ok (.aload_n 0, 1) := by decide +kernel
theorem md_fm_wrong_1 : decode mb_fm_wrong 1 = .ok (.getfield 29, 3) := by decide +kernel
theorem md_fm_wrong_4 : decode mb_fm_wrong 4 = .ok (.iload_n 1, 1) := by decide +kernel
theorem md_fm_wrong_5 : decode mb_fm_wrong 5 = .ok (.iconst 0, 1) := by decide +kernel
theorem md_fm_wrong_6 : decode mb_fm_wrong 6 = .ok (.bastore, 1) := by decide +kernel
theorem md_fm_wrong_7 : decode mb_fm_wrong 7 = .ok (.aload_n 0, 1) := by decide +kernel
theorem md_fm_wrong_8 : decode mb_fm_wrong 8 = .ok (.getfield 96, 3) := by decide +kernel
theorem md_fm_wrong_11 : decode mb_fm_wrong 11 = .ok (.iload_n 1, 1) := by decide +kernel
theorem md_fm_wrong_12 : decode mb_fm_wrong 12 = .ok (.iaload, 1) := by decide +kernel
theorem md_fm_wrong_13 : decode mb_fm_wrong 13 = .ok (.iconst 3, 1) := by decide +kernel
theorem md_fm_wrong_14 : decode mb_fm_wrong 14 = .ok (.if_icmp .ge 43, 3) := by decide +kernel
theorem md_fm_wrong_17 : decode mb_fm_wrong 17 = .ok (.aload_n 0, 1) := by decide +kernel
theorem md_fm_wrong_18 : decode mb_fm_wrong 18 = .ok (.getfield 102, 3) := by decide +kernel
theorem md_fm_wrong_21 : decode mb_fm_wrong 21 = .ok (.iload_n 1, 1) := by decide +kernel
theorem md_fm_wrong_22 : decode mb_fm_wrong 22 = .ok (.aload_n 0, 1) := by decide +kernel
theorem md_fm_wrong_23 : decode mb_fm_wrong 23 = .ok (.getfield 136, 3) := by decide +kernel
theorem md_fm_wrong_26 : decode mb_fm_wrong 26 = .ok (.iconst 1, 1) := by decide +kernel
theorem md_fm_wrong_27 : decode mb_fm_wrong 27 = .ok (.aload_n 0, 1) := by decide +kernel
theorem md_fm_wrong_28 : decode mb_fm_wrong 28 = .ok (.getfield 96, 3) := by decide +kernel
theorem md_fm_wrong_31 : decode mb_fm_wrong 31 = .ok (.iload_n 1, 1) := by decide +kernel
theorem md_fm_wrong_32 : decode mb_fm_wrong 32 = .ok (.iaload, 1) := by decide +kernel
theorem md_fm_wrong_33 : decode mb_fm_wrong 33 = .ok (.ishl, 1) := by decide +kernel
theorem md_fm_wrong_34 : decode mb_fm_wrong 34 = .ok (.iadd, 1) := by decide +kernel
theorem md_fm_wrong_35 : decode mb_fm_wrong 35 = .ok (.iastore, 1) := by decide +kernel
theorem md_fm_wrong_36 : decode mb_fm_wrong 36 = .ok (.aload_n 0, 1) := by decide +kernel
theorem md_fm_wrong_37 : decode mb_fm_wrong 37 = .ok (.getfield 105, 3) := by decide +kernel
theorem md_fm_wrong_40 : decode mb_fm_wrong 40 = .ok (.aload_n 0, 1) := by decide +kernel
theorem md_fm_wrong_41 : decode mb_fm_wrong 41 = .ok (.getfield 126, 3) := by decide +kernel
theorem md_fm_wrong_44 : decode mb_fm_wrong 44 = .ok (.iload_n 1, 1) := by decide +kernel
theorem md_fm_wrong_45 : decode mb_fm_wrong 45 = .ok (.iastore, 1) := by decide +kernel
theorem md_fm_wrong_46 : decode mb_fm_wrong 46 = .ok (.aload_n 0, 1) := by decide +kernel
theorem md_fm_wrong_47 : decode mb_fm_wrong 47 = .ok (.dup, 1) := by decide +kernel
theorem md_fm_wrong_48 : decode mb_fm_wrong 48 = .ok (.getfield 126, 3) := by decide +kernel
theorem md_fm_wrong_51 : decode mb_fm_wrong 51 = .ok (.iconst 1, 1) := by decide +kernel
theorem md_fm_wrong_52 : decode mb_fm_wrong 52 = .ok (.iadd, 1) := by decide +kernel
theorem md_fm_wrong_53 : decode mb_fm_wrong 53 = .ok (.putfield 126, 3) := by decide +kernel
theorem md_fm_wrong_56 : decode mb_fm_wrong 56 = .ok (.return_, 1) := by decide +kernel
theorem md_fm_wrong_57 : decode mb_fm_wrong 57 = .ok (.aload_n 0, 1) := by decide +kernel
theorem md_fm_wrong_58 : decode mb_fm_wrong 58 = .ok (.getfield 93, 3) := by decide +kernel
theorem md_fm_wrong_61 : decode mb_fm_wrong 61 = .ok (.iload_n 1, 1) := by decide +kernel
theorem md_fm_wrong_62 : decode mb_fm_wrong 62 = .ok (.iaload, 1) := by decide +kernel
theorem md_fm_wrong_63 : decode mb_fm_wrong 63 = .ok (.istore_n 2, 1) := by decide +kernel
theorem md_fm_wrong_64 : decode mb_fm_wrong 64 = .ok (.aload_n 0, 1) := by decide +kernel
theorem md_fm_wrong_65 : decode mb_fm_wrong 65 = .ok (.iload_n 1, 1) := by decide +kernel
theorem md_fm_wrong_66 : decode mb_fm_wrong 66 = .ok (.invokevirtual 133, 3) := by decide +kernel
theorem md_fm_wrong_69 : decode mb_fm_wrong 69 = .ok (.aload_n 0, 1) := by decide +kernel
theorem md_fm_wrong_70 : decode mb_fm_wrong 70 = .ok (.getfield 108, 3) := by decide +kernel
theorem md_fm_wrong_73 : decode mb_fm_wrong 73 = .ok (.bipush 6, 2) := by decide +kernel
theorem md_fm_wrong_75 : decode mb_fm_wrong 75 = .ok (.dup2, 1) := by decide +kernel
theorem md_fm_wrong_76 : decode mb_fm_wrong 76 = .ok (.iaload, 1) := by decide +kernel
theorem md_fm_wrong_77 : decode mb_fm_wrong 77 = .ok (.iconst 1, 1) := by decide +kernel
theorem md_fm_wrong_78 : decode mb_fm_wrong 78 = .ok (.iadd, 1) := by decide +kernel
theorem md_fm_wrong_79 : decode mb_fm_wrong 79 = .ok (.iastore, 1) := by decide +kernel
theorem md_fm_wrong_80 : decode mb_fm_wrong 80 = .ok (.aload_n 0, 1) := by decide +kernel
theorem md_fm_wrong_81 : decode mb_fm_wrong 81 = .ok (.iload_n 1, 1) := by decide +kernel
theorem md_fm_wrong_82 : decode mb_fm_wrong 82 = .ok (.iconst 4, 1) := by decide +kernel
theorem md_fm_wrong_83 : decode mb_fm_wrong 83 = .ok (.iload_n 2, 1) := by decide +kernel
theorem md_fm_wrong_84 : decode mb_fm_wrong 84 = .ok (.iconst 0, 1) := by decide +kernel
theorem md_fm_wrong_85 : decode mb_fm_wrong 85 = .ok (.invokevirtual 198, 3) := by decide +kernel
theorem md_fm_wrong_88 : decode mb_fm_wrong 88 = .ok (.return_, 1) := by decide +kernel
theorem md_fm_tick_0 : decode mb_fm_tick 0 = .ok (.iload_n 1, 1) := by decide +kernel
theorem md_fm_tick_1 : decode mb_fm_tick 1 = .ok (.iconst 1, 1) := by decide +kernel
theorem md_fm_tick_2 : decode mb_fm_tick 2 = .ok (.bipush 20, 2) := by decide +kernel
theorem md_fm_tick_4 : decode mb_fm_tick 4 = .ok (.invokestatic 111, 3) := by decide +kernel
theorem md_fm_tick_7 : decode mb_fm_tick 7 = .ok (.ifCond .ne 5, 3) := by decide +kernel
theorem md_fm_tick_10 : decode mb_fm_tick 10 = .ok (.iconst (-1), 1) := by decide +kernel
theorem md_fm_tick_11 : decode mb_fm_tick 11 = .ok (.ireturn, 1) := by decide +kernel
theorem md_fm_tick_12 : decode mb_fm_tick 12 = .ok (.iconst 0, 1) := by decide +kernel
theorem md_fm_tick_13 : decode mb_fm_tick 13 = .ok (.istore_n 2, 1) := by decide +kernel
theorem md_fm_tick_14 : decode mb_fm_tick 14 = .ok (.iload_n 2, 1) := by decide +kernel
theorem md_fm_tick_15 : decode mb_fm_tick 15 = .ok (.iload_n 1, 1) := by decide +kernel
theorem md_fm_tick_16 : decode mb_fm_tick 16 = .ok (.if_icmp .ge 128, 3) := by decide +kernel
theorem md_fm_tick_19 : decode mb_fm_tick 19 = .ok (.aload_n 0, 1) := by decide +kernel
theorem md_fm_tick_20 : decode mb_fm_tick 20 = .ok (.dup, 1) := by decide +kernel
theorem md_fm_tick_21 : decode mb_fm_tick 21 = .ok (.getfield 136, 3) := by decide +kernel
theorem md_fm_tick_24 : decode mb_fm_tick 24 = .ok (.iconst 1, 1) := by decide +kernel
theorem md_fm_tick_25 : decode mb_fm_tick 25 = .ok (.iadd, 1) := by decide +kernel
theorem md_fm_tick_26 : decode mb_fm_tick 26 = .ok (.putfield 136, 3) := by decide +kernel
theorem md_fm_tick_29 : decode mb_fm_tick 29 = .ok (.iconst 0, 1) := by decide +kernel
theorem md_fm_tick_30 : decode mb_fm_tick 30 = .ok (.istore_n 3, 1) := by decide +kernel
theorem md_fm_tick_31 : decode mb_fm_tick 31 = .ok (.iload_n 3, 1) := by decide +kernel
theorem md_fm_tick_32 : decode mb_fm_tick 32 = .ok (.bipush 6, 2) := by decide +kernel
theorem md_fm_tick_34 : decode mb_fm_tick 34 = .ok (.if_icmp .ge 47, 3) := by decide +kernel
theorem md_fm_tick_37 : decode mb_fm_tick 37 = .ok (.aload_n 0, 1) := by decide +kernel
theorem md_fm_tick_38 : decode mb_fm_tick 38 = .ok (.getfield 22, 3) := by decide +kernel
theorem md_fm_tick_41 : decode mb_fm_tick 41 = .ok (.iload_n 3, 1) := by decide +kernel
theorem md_fm_tick_42 : decode mb_fm_tick 42 = .ok (.baload, 1) := by decide +kernel
theorem md_fm_tick_43 : decode mb_fm_tick 43 = .ok (.ifCond .eq 32, 3) := by decide +kernel
theorem md_fm_tick_46 : decode mb_fm_tick 46 = .ok (.aload_n 0, 1) := by decide +kernel
theorem md_fm_tick_47 : decode mb_fm_tick 47 = .ok (.getfield 29, 3) := by decide +kernel
theorem md_fm_tick_50 : decode mb_fm_tick 50 = .ok (.iload_n 3, 1) := by decide +kernel
theorem md_fm_tick_51 : decode mb_fm_tick 51 = .ok (.baload, 1) := by decide +kernel
theorem md_fm_tick_52 : decode mb_fm_tick 52 = .ok (.ifCond .eq 23, 3) := by decide +kernel
theorem md_fm_tick_55 : decode mb_fm_tick 55 = .ok (.aload_n 0, 1) := by decide +kernel
theorem md_fm_tick_56 : decode mb_fm_tick 56 = .ok (.getfield 136, 3) := by decide +kernel
theorem md_fm_tick_59 : decode mb_fm_tick 59 = .ok (.aload_n 0, 1) := by decide +kernel
theorem md_fm_tick_60 : decode mb_fm_tick 60 = .ok (.getfield 99, 3) := by decide +kernel
theorem md_fm_tick_63 : decode mb_fm_tick 63 = .ok (.iload_n 3, 1) := by decide +kernel
theorem md_fm_tick_64 : decode mb_fm_tick 64 = .ok (.iaload, 1) := by decide +kernel
theorem md_fm_tick_65 : decode mb_fm_tick 65 = .ok (.isub, 1) := by decide +kernel
theorem md_fm_tick_66 : decode mb_fm_tick 66 = .ok (.iconst 5, 1) := by decide +kernel
theorem md_fm_tick_67 : decode mb_fm_tick 67 = .ok (.if_icmp .ne 8, 3) := by decide +kernel
theorem md_fm_tick_70 : decode mb_fm_tick 70 = .ok (.aload_n 0, 1) := by decide +kernel
theorem md_fm_tick_71 : decode mb_fm_tick 71 = .ok (.iload_n 3, 1) := by decide +kernel
theorem md_fm_tick_72 : decode mb_fm_tick 72 = .ok (.invokevirtual 201, 3) := by decide +kernel
theorem md_fm_tick_75 : decode mb_fm_tick 75 = .ok (.iinc 3 1, 3) := by decide +kernel
theorem md_fm_tick_78 : decode mb_fm_tick 78 = .ok (.goto (-47), 3) := by decide +kernel
theorem md_fm_tick_81 : decode mb_fm_tick 81 = .ok (.iconst 0, 1) := by decide +kernel
theorem md_fm_tick_82 : decode mb_fm_tick 82 = .ok (.istore_n 3, 1) := by decide +kernel
theorem md_fm_tick_83 : decode mb_fm_tick 83 = .ok (.iload_n 3, 1) := by decide +kernel
theorem md_fm_tick_84 : decode mb_fm_tick 84 = .ok (.bipush 6, 2) := by decide +kernel
theorem md_fm_tick_86 : decode mb_fm_tick 86 = .ok (.if_icmp .ge 52, 3) := by decide +kernel
theorem md_fm_tick_89 : decode mb_fm_tick 89 = .ok (.aload_n 0, 1) := by decide +kernel
theorem md_fm_tick_90 : decode mb_fm_tick 90 = .ok (.getfield 22, 3) := by decide +kernel
theorem md_fm_tick_93 : decode mb_fm_tick 93 = .ok (.iload_n 3, 1) := by decide +kernel
theorem md_fm_tick_94 : decode mb_fm_tick 94 = .ok (.baload, 1) := by decide +kernel
theorem md_fm_tick_95 : decode mb_fm_tick 95 = .ok (.ifCond .eq 37, 3) := by decide +kernel
theorem md_fm_tick_98 : decode mb_fm_tick 98 = .ok (.aload_n 0, 1) := by decide +kernel
theorem md_fm_tick_99 : decode mb_fm_tick 99 = .ok (.getfield 38, 3) := by decide +kernel
theorem md_fm_tick_102 : decode mb_fm_tick 102 = .ok (.iload_n 3, 1) := by decide +kernel
theorem md_fm_tick_103 : decode mb_fm_tick 103 = .ok (.iaload, 1) := by decide +kernel
theorem md_fm_tick_104 : decode mb_fm_tick 104 = .ok (.iconst 2, 1) := by decide +kernel
theorem md_fm_tick_105 : decode mb_fm_tick 105 = .ok (.if_icmp .ne 27, 3) := by decide +kernel
theorem md_fm_tick_108 : decode mb_fm_tick 108 = .ok (.aload_n 0, 1) := by decide +kernel
theorem md_fm_tick_109 : decode mb_fm_tick 109 = .ok (.getfield 86, 3) := by decide +kernel
theorem md_fm_tick_112 : decode mb_fm_tick 112 = .ok (.iload_n 3, 1) := by decide +kernel
theorem md_fm_tick_113 : decode mb_fm_tick 113 = .ok (.laload, 1) := by decide +kernel
theorem md_fm_tick_114 : decode mb_fm_tick 114 = .ok (.aload_n 0, 1) := by decide +kernel
theorem md_fm_tick_115 : decode mb_fm_tick 115 = .ok (.getfield 136, 3) := by decide +kernel
theorem md_fm_tick_118 : decode mb_fm_tick 118 = .ok (.i2l, 1) := by decide +kernel
theorem md_fm_tick_119 : decode mb_fm_tick 119 = .ok (.lcmp, 1) := by decide +kernel
theorem md_fm_tick_120 : decode mb_fm_tick 120 = .ok (.ifCond .gt 12, 3) := by decide +kernel
theorem md_fm_tick_123 : decode mb_fm_tick 123 = .ok (.aload_n 0, 1) := by decide +kernel
theorem md_fm_tick_124 : decode mb_fm_tick 124 = .ok (.iload_n 3, 1) := by decide +kernel
theorem md_fm_tick_125 : decode mb_fm_tick 125 = .ok (.bipush 6, 2) := by decide +kernel
theorem md_fm_tick_127 : decode mb_fm_tick 127 = .ok (.iconst 0, 1) := by decide +kernel
theorem md_fm_tick_128 : decode mb_fm_tick 128 = .ok (.iconst 0, 1) := by decide +kernel
theorem md_fm_tick_129 : decode mb_fm_tick 129 = .ok (.invokevirtual 198, 3) := by decide +kernel
theorem md_fm_tick_132 : decode mb_fm_tick 132 = .ok (.iinc 3 1, 3) := by decide +kernel
theorem md_fm_tick_135 : decode mb_fm_tick 135 = .ok (.goto (-52), 3) := by decide +kernel
theorem md_fm_tick_138 : decode mb_fm_tick 138 = .ok (.iinc 2 1, 3) := by decide +kernel
theorem md_fm_tick_141 : decode mb_fm_tick 141 = .ok (.goto (-127), 3) := by decide +kernel
theorem md_fm_tick_144 : decode mb_fm_tick 144 = .ok (.aload_n 0, 1) := by decide +kernel
theorem md_fm_tick_145 : decode mb_fm_tick 145 = .ok (.getfield 136, 3) := by decide +kernel
theorem md_fm_tick_148 : decode mb_fm_tick 148 = .ok (.ireturn, 1) := by decide +kernel
