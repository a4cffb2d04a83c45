theorem md_fm_put_0 : decode mb_fm_put 0 = .ok (.bipush 20, 2) := by decide +kernel
theorem md_fm_put_2 : decode mb_fm_put 2 = .ok (.iload_n 1, 1) := by decide +kernel
theorem md_fm_put_3 : decode mb_fm_put 3 = .ok (.imul, 1) := by decide +kernel
theorem md_fm_put_4 : decode mb_fm_put 4 = .ok (.aload_n 0, 1) := by decide +kernel
theorem md_fm_put_5 : decode mb_fm_put 5 = .ok (.getfield 56, 3) := by decide +kernel
theorem md_fm_put_8 : decode mb_fm_put 8 = .ok (.iload_n 1, 1) := by decide +kernel
theorem md_fm_put_9 : decode mb_fm_put 9 = .ok (.iaload, 1) := by decide +kernel
theorem md_fm_put_10 : decode mb_fm_put 10 = .ok (.iadd, 1) := by decide +kernel
theorem md_fm_put_11 : decode mb_fm_put 11 = .ok (.istore 5, 2) := by decide +kernel
theorem md_fm_put_13 : decode mb_fm_put 13 = .ok (.aload_n 0, 1) := by decide +kernel
theorem md_fm_put_14 : decode mb_fm_put 14 = .ok (.iload_n 1, 1) := by decide +kernel
theorem md_fm_put_15 : decode mb_fm_put 15 = .ok (.invokevirtual 139, 3) := by decide +kernel
theorem md_fm_put_18 : decode mb_fm_put 18 = .ok (.ifCond .le 45, 3) := by decide +kernel
theorem md_fm_put_21 : decode mb_fm_put 21 = .ok (.aload_n 0, 1) := by decide +kernel
theorem md_fm_put_22 : decode mb_fm_put 22 = .ok (.getfield 59, 3) := by decide +kernel
theorem md_fm_put_25 : decode mb_fm_put 25 = .ok (.iload 5, 2) := by decide +kernel
theorem md_fm_put_27 : decode mb_fm_put 27 = .ok (.iaload, 1) := by decide +kernel
theorem md_fm_put_28 : decode mb_fm_put 28 = .ok (.iload_n 2, 1) := by decide +kernel
theorem md_fm_put_29 : decode mb_fm_put 29 = .ok (.if_icmp .ne 30, 3) := by decide +kernel
theorem md_fm_put_32 : decode mb_fm_put 32 = .ok (.aload_n 0, 1) := by decide +kernel
theorem md_fm_put_33 : decode mb_fm_put 33 = .ok (.getfield 62, 3) := by decide +kernel
theorem md_fm_put_36 : decode mb_fm_put 36 = .ok (.iload 5, 2) := by decide +kernel
theorem md_fm_put_38 : decode mb_fm_put 38 = .ok (.iaload, 1) := by decide +kernel
theorem md_fm_put_39 : decode mb_fm_put 39 = .ok (.iload_n 3, 1) := by decide +kernel
theorem md_fm_put_40 : decode mb_fm_put 40 = .ok (.if_icmp .ne 19, 3) := by decide +kernel
theorem md_fm_put_43 : decode mb_fm_put 43 = .ok (.aload_n 0, 1) := by decide +kernel
theorem md_fm_put_44 : decode mb_fm_put 44 = .ok (.getfield 65, 3) := by decide +kernel
theorem md_fm_put_47 : decode mb_fm_put 47 = .ok (.iload 5, 2) := by decide +kernel
theorem md_fm_put_49 : decode mb_fm_put 49 = .ok (.iaload, 1) := by decide +kernel
theorem md_fm_put_50 : decode mb_fm_put 50 = .ok (.iload 4, 2) := by decide +kernel
theorem md_fm_put_52 : decode mb_fm_put 52 = .ok (.if_icmp .ne 7, 3) := by decide +kernel
theorem md_fm_put_55 : decode mb_fm_put 55 = .ok (.iconst 1, 1) := by decide +kernel
theorem md_fm_put_56 : decode mb_fm_put 56 = .ok (.goto 23, 3) := by decide +kernel
theorem md_fm_put_59 : decode mb_fm_put 59 = .ok (.iconst 0, 1) := by decide +kernel
theorem md_fm_put_60 : decode mb_fm_put 60 = .ok (.goto 19, 3) := by decide +kernel
theorem md_fm_put_63 : decode mb_fm_put 63 = .ok (.aload_n 0, 1) := by decide +kernel
theorem md_fm_put_64 : decode mb_fm_put 64 = .ok (.getfield 53, 3) := by decide +kernel
theorem md_fm_put_67 : decode mb_fm_put 67 = .ok (.iload_n 1, 1) := by decide +kernel
theorem md_fm_put_68 : decode mb_fm_put 68 = .ok (.iaload, 1) := by decide +kernel
theorem md_fm_put_69 : decode mb_fm_put 69 = .ok (.bipush 20, 2) := by decide +kernel
theorem md_fm_put_71 : decode mb_fm_put 71 = .ok (.if_icmp .ge 7, 3) := by decide +kernel
theorem md_fm_put_74 : decode mb_fm_put 74 = .ok (.iconst 1, 1) := by decide +kernel
theorem md_fm_put_75 : decode mb_fm_put 75 = .ok (.goto 4, 3) := by decide +kernel
theorem md_fm_put_78 : decode mb_fm_put 78 = .ok (.iconst 0, 1) := by decide +kernel
theorem md_fm_put_79 : decode mb_fm_put 79 = .ok (.istore 6, 2) := by decide +kernel
theorem md_fm_put_81 : decode mb_fm_put 81 = .ok (.iload 6, 2) := by decide +kernel
theorem md_fm_put_83 : decode mb_fm_put 83 = .ok (.ifCond .ne 10, 3) := by decide +kernel
theorem md_fm_put_86 : decode mb_fm_put 86 = .ok (.aload_n 0, 1) := by decide +kernel
theorem md_fm_put_87 : decode mb_fm_put 87 = .ok (.iload_n 1, 1) := by decide +kernel
theorem md_fm_put_88 : decode mb_fm_put 88 = .ok (.invokevirtual 147, 3) := by decide +kernel
theorem md_fm_put_91 : decode mb_fm_put 91 = .ok (.iconst 0, 1) := by decide +kernel
theorem md_fm_put_92 : decode mb_fm_put 92 = .ok (.ireturn, 1) := by decide +kernel
theorem md_fm_put_93 : decode mb_fm_put 93 = .ok (.aload_n 0, 1) := by decide +kernel
theorem md_fm_put_94 : decode mb_fm_put 94 = .ok (.iload_n 1, 1) := by decide +kernel
theorem md_fm_put_95 : decode mb_fm_put 95 = .ok (.invokevirtual 139, 3) := by decide +kernel
theorem md_fm_put_98 : decode mb_fm_put 98 = .ok (.ifCond .ne 38, 3) := by decide +kernel
theorem md_fm_put_101 : decode mb_fm_put 101 = .ok (.aload_n 0, 1) := by decide +kernel
theorem md_fm_put_102 : decode mb_fm_put 102 = .ok (.getfield 59, 3) := by decide +kernel
theorem md_fm_put_105 : decode mb_fm_put 105 = .ok (.iload 5, 2) := by decide +kernel
theorem md_fm_put_107 : decode mb_fm_put 107 = .ok (.iload_n 2, 1) := by decide +kernel
theorem md_fm_put_108 : decode mb_fm_put 108 = .ok (.iastore, 1) := by decide +kernel
theorem md_fm_put_109 : decode mb_fm_put 109 = .ok (.aload_n 0, 1) := by decide +kernel
theorem md_fm_put_110 : decode mb_fm_put 110 = .ok (.getfield 62, 3) := by decide +kernel
theorem md_fm_put_113 : decode mb_fm_put 113 = .ok (.iload 5, 2) := by decide +kernel
theorem md_fm_put_115 : decode mb_fm_put 115 = .ok (.iload_n 3, 1) := by decide +kernel
theorem md_fm_put_116 : decode mb_fm_put 116 = .ok (.iastore, 1) := by decide +kernel
theorem md_fm_put_117 : decode mb_fm_put 117 = .ok (.aload_n 0, 1) := by decide +kernel
theorem md_fm_put_118 : decode mb_fm_put 118 = .ok (.getfield 65, 3) := by decide +kernel
theorem md_fm_put_121 : decode mb_fm_put 121 = .ok (.iload 5, 2) := by decide +kernel
theorem md_fm_put_123 : decode mb_fm_put 123 = .ok (.iload 4, 2) := by decide +kernel
theorem md_fm_put_125 : decode mb_fm_put 125 = .ok (.iastore, 1) := by decide +kernel
theorem md_fm_put_126 : decode mb_fm_put 126 = .ok (.aload_n 0, 1) := by decide +kernel
theorem md_fm_put_127 : decode mb_fm_put 127 = .ok (.getfield 53, 3) := by decide +kernel
theorem md_fm_put_130 : decode mb_fm_put 130 = .ok (.iload_n 1, 1) := by decide +kernel
theorem md_fm_put_131 : decode mb_fm_put 131 = .ok (.dup2, 1) := by decide +kernel
theorem md_fm_put_132 : decode mb_fm_put 132 = .ok (.iaload, 1) := by decide +kernel
theorem md_fm_put_133 : decode mb_fm_put 133 = .ok (.iconst 1, 1) := by decide +kernel
theorem md_fm_put_134 : decode mb_fm_put 134 = .ok (.iadd, 1) := by decide +kernel
theorem md_fm_put_135 : decode mb_fm_put 135 = .ok (.iastore, 1) := by decide +kernel
theorem md_fm_put_136 : decode mb_fm_put 136 = .ok (.aload_n 0, 1) := by decide +kernel
theorem md_fm_put_137 : decode mb_fm_put 137 = .ok (.getfield 56, 3) := by decide +kernel
theorem md_fm_put_140 : decode mb_fm_put 140 = .ok (.iload_n 1, 1) := by decide +kernel
theorem md_fm_put_141 : decode mb_fm_put 141 = .ok (.dup2, 1) := by decide +kernel
theorem md_fm_put_142 : decode mb_fm_put 142 = .ok (.iaload, 1) := by decide +kernel
theorem md_fm_put_143 : decode mb_fm_put 143 = .ok (.iconst 1, 1) := by decide +kernel
theorem md_fm_put_144 : decode mb_fm_put 144 = .ok (.iadd, 1) := by decide +kernel
theorem md_fm_put_145 : decode mb_fm_put 145 = .ok (.iastore, 1) := by decide +kernel
theorem md_fm_put_146 : decode mb_fm_put 146 = .ok (.iconst 1, 1) := by decide +kernel
theorem md_fm_put_147 : decode mb_fm_put 147 = .ok (.ireturn, 1) := by decide +kernel
theorem md_fm_newTask_0 : decode mb_fm_newTask 0 = .ok (.aload_n 0, 1) := by decide +kernel
theorem md_fm_newTask_1 : decode mb_fm_newTask 1 = .ok (.iload_n 1, 1) := by decide +kernel
theorem md_fm_newTask_2 : decode mb_fm_newTask 2 = .ok (.invokevirtual 133, 3) := by decide +kernel
theorem md_fm_newTask_5 : decode mb_fm_newTask 5 = .ok (.aload_n 0, 1) := by decide +kernel
theorem md_fm_newTask_6 : decode mb_fm_newTask 6 = .ok (.getfield 32, 3) := by decide +kernel
theorem md_fm_newTask_9 : decode mb_fm_newTask 9 = .ok (.iload_n 1, 1) := by decide +kernel
theorem md_fm_newTask_10 : decode mb_fm_newTask 10 = .ok (.iconst 1, 1) := by decide +kernel
theorem md_fm_newTask_11 : decode mb_fm_newTask 11 = .ok (.bastore, 1) := by decide +kernel
theorem md_fm_newTask_12 : decode mb_fm_newTask 12 = .ok (.aload_n 0, 1) := by decide +kernel
theorem md_fm_newTask_13 : decode mb_fm_newTask 13 = .ok (.getfield 93, 3) := by decide +kernel
theorem md_fm_newTask_16 : decode mb_fm_newTask 16 = .ok (.iload_n 1, 1) := by decide +kernel
theorem md_fm_newTask_17 : decode mb_fm_newTask 17 = .ok (.iload_n 2, 1) := by decide +kernel
theorem md_fm_newTask_18 : decode mb_fm_newTask 18 = .ok (.iastore, 1) := by decide +kernel
theorem md_fm_newTask_19 : decode mb_fm_newTask 19 = .ok (.aload_n 0, 1) := by decide +kernel
theorem md_fm_newTask_20 : decode mb_fm_newTask 20 = .ok (.getfield 102, 3) := by decide +kernel
theorem md_fm_newTask_23 : decode mb_fm_newTask 23 = .ok (.iload_n 1, 1) := by decide +kernel
theorem md_fm_newTask_24 : decode mb_fm_newTask 24 = .ok (.aload_n 0, 1) := by decide +kernel
theorem md_fm_newTask_25 : decode mb_fm_newTask 25 = .ok (.getfield 136, 3) := by decide +kernel
theorem md_fm_newTask_28 : decode mb_fm_newTask 28 = .ok (.iastore, 1) := by decide +kernel
theorem md_fm_newTask_29 : decode mb_fm_newTask 29 = .ok (.aload_n 0, 1) := by decide +kernel
theorem md_fm_newTask_30 : decode mb_fm_newTask 30 = .ok (.getfield 105, 3) := by decide +kernel
theorem md_fm_newTask_33 : decode mb_fm_newTask 33 = .ok (.aload_n 0, 1) := by decide +kernel
theorem md_fm_newTask_34 : decode mb_fm_newTask 34 = .ok (.getfield 126, 3) := by decide +kernel
theorem md_fm_newTask_37 : decode mb_fm_newTask 37 = .ok (.iload_n 1, 1) := by decide +kernel
theorem md_fm_newTask_38 : decode mb_fm_newTask 38 = .ok (.iastore, 1) := by decide +kernel
theorem md_fm_newTask_39 : decode mb_fm_newTask 39 = .ok (.aload_n 0, 1) := by decide +kernel
theorem md_fm_newTask_40 : decode mb_fm_newTask 40 = .ok (.dup, 1) := by decide +kernel
theorem md_fm_newTask_41 : decode mb_fm_newTask 41 = .ok (.getfield 126, 3) := by decide +kernel
theorem md_fm_newTask_44 : decode mb_fm_newTask 44 = .ok (.iconst 1, 1) := by decide +kernel
theorem md_fm_newTask_45 : decode mb_fm_newTask 45 = .ok (.iadd, 1) := by decide +kernel
theorem md_fm_newTask_46 : decode mb_fm_newTask 46 = .ok (.putfield 126, 3) := by decide +kernel
theorem md_fm_newTask_49 : decode mb_fm_newTask 49 = .ok (.return_, 1) := by decide +kernel
theorem md_fm_sleep_0 : decode mb_fm_sleep 0 = .ok (.aload_n 0, 1) := by decide +kernel
theorem md_fm_sleep_1 : decode mb_fm_sleep 1 = .ok (.iload_n 1, 1) := by decide +kernel
theorem md_fm_sleep_2 : decode mb_fm_sleep 2 = .ok (.invokevirtual 139, 3) := by decide +kernel
theorem md_fm_sleep_5 : decode mb_fm_sleep 5 = .ok (.ifCond .ne 7, 3) := by decide +kernel
theorem md_fm_sleep_8 : decode mb_fm_sleep 8 = .ok (.iconst 1, 1) := by decide +kernel
theorem md_fm_sleep_9 : decode mb_fm_sleep 9 = .ok (.goto 4, 3) := by decide +kernel
theorem md_fm_sleep_12 : decode mb_fm_sleep 12 = .ok (.iconst 0, 1) := by decide +kernel
theorem md_fm_sleep_13 : decode mb_fm_sleep 13 = .ok (.istore_n 3, 1) := by decide +kernel
theorem md_fm_sleep_14 : decode mb_fm_sleep 14 = .ok (.aload_n 0, 1) := by decide +kernel
theorem md_fm_sleep_15 : decode mb_fm_sleep 15 = .ok (.iload_n 1, 1) := by decide +kernel
theorem md_fm_sleep_16 : decode mb_fm_sleep 16 = .ok (.iconst 5, 1) := by decide +kernel
theorem md_fm_sleep_17 : decode mb_fm_sleep 17 = .ok (.iload_n 2, 1) := by decide +kernel
theorem md_fm_sleep_18 : decode mb_fm_sleep 18 = .ok (.iconst 0, 1) := by decide +kernel
theorem md_fm_sleep_19 : decode mb_fm_sleep 19 = .ok (.invokevirtual 150, 3) := by decide +kernel
theorem md_fm_sleep_22 : decode mb_fm_sleep 22 = .ok (.istore 4, 2) := by decide +kernel
theorem md_fm_sleep_24 : decode mb_fm_sleep 24 = .ok (.iload 4, 2) := by decide +kernel
theorem md_fm_sleep_26 : decode mb_fm_sleep 26 = .ok (.ifCond .ne 4, 3) := by decide +kernel
theorem md_fm_sleep_29 : decode mb_fm_sleep 29 = .ok (.return_, 1) := by decide +kernel
theorem md_fm_sleep_30 : decode mb_fm_sleep 30 = .ok (.aload_n 0, 1) := by decide +kernel
theorem md_fm_sleep_31 : decode mb_fm_sleep 31 = .ok (.getfield 38, 3) := by decide +kernel
theorem md_fm_sleep_34 : decode mb_fm_sleep 34 = .ok (.iload_n 1, 1) := by decide +kernel
theorem md_fm_sleep_35 : decode mb_fm_sleep 35 = .ok (.iconst 2, 1) := by decide +kernel
theorem md_fm_sleep_36 : decode mb_fm_sleep 36 = .ok (.iastore, 1) := by decide +kernel
theorem md_fm_sleep_37 : decode mb_fm_sleep 37 = .ok (.iload_n 3, 1) := by decide +kernel
theorem md_fm_sleep_38 : decode mb_fm_sleep 38 = .ok (.ifCond .eq 17, 3) := by decide +kernel
theorem md_fm_sleep_41 : decode mb_fm_sleep 41 = .ok (.aload_n 0, 1) := by decide +kernel
theorem md_fm_sleep_42 : decode mb_fm_sleep 42 = .ok (.getfield 86, 3) := by decide +kernel
theorem md_fm_sleep_45 : decode mb_fm_sleep 45 = .ok (.iload_n 1, 1) := by decide +kernel
theorem md_fm_sleep_46 : decode mb_fm_sleep 46 = .ok (.aload_n 0, 1) := by decide +kernel
theorem md_fm_sleep_47 : decode mb_fm_sleep 47 = .ok (.getfield 136, 3) := by decide +kernel
theorem md_fm_sleep_50 : decode mb_fm_sleep 50 = .ok (.i2l, 1) := by decide +kernel
theorem md_fm_sleep_51 : decode mb_fm_sleep 51 = .ok (.iload_n 2, 1) := by decide +kernel
theorem md_fm_sleep_52 : decode mb_fm_sleep 52 = .ok (.i2l, 1) := by decide +kernel
theorem md_fm_sleep_53 : decode mb_fm_sleep 53 = .ok (.ladd, 1) := by decide +kernel
theorem md_fm_sleep_54 : decode mb_fm_sleep 54 = .ok (.lastore, 1) := by decide +kernel
theorem md_fm_sleep_55 : decode mb_fm_sleep 55 = .ok (.return_, 1) := by decide +kernel
theorem md_fm_await_0 : decode mb_fm_await 0 = .ok (.aload_n 0, 1) := by decide +kernel
theorem md_fm_await_1 : decode mb_fm_await 1 = .ok (.getfield 38, 3) := by decide +kernel
theorem md_fm_await_4 : decode mb_fm_await 4 = .ok (.iload_n 1, 1) := by decide +kernel
theorem md_fm_await_5 : decode mb_fm_await 5 = .ok (.iconst 3, 1) := by decide +kernel
theorem md_fm_await_6 : decode mb_fm_await 6 = .ok (.iastore, 1) := by decide +kernel
theorem md_fm_await_7 : decode mb_fm_await 7 = .ok (.aload_n 0, 1) := by decide +kernel
theorem md_fm_await_8 : decode mb_fm_await 8 = .ok (.iload_n 1, 1) := by decide +kernel
theorem md_fm_await_9 : decode mb_fm_await 9 = .ok (.invokevirtual 139, 3) := by decide +kernel
theorem md_fm_await_12 : decode mb_fm_await 12 = .ok (.ifCond .le 4, 3) := by decide +kernel
theorem md_fm_await_15 : decode mb_fm_await 15 = .ok (.return_, 1) := by decide +kernel
theorem md_fm_await_16 : decode mb_fm_await 16 = .ok (.iconst 0, 1) := by decide +kernel
theorem md_fm_await_17 : decode mb_fm_await 17 = .ok (.istore 4, 2) := by decide +kernel
theorem md_fm_await_19 : decode mb_fm_await 19 = .ok (.iload 4, 2) := by decide +kernel
theorem md_fm_await_21 : decode mb_fm_await 21 = .ok (.aload_n 0, 1) := by decide +kernel
theorem md_fm_await_22 : decode mb_fm_await 22 = .ok (.getfield 77, 3) := by decide +kernel
theorem md_fm_await_25 : decode mb_fm_await 25 = .ok (.iload_n 1, 1) := by decide +kernel
theorem md_fm_await_26 : decode mb_fm_await 26 = .ok (.iaload, 1) := by decide +kernel
theorem md_fm_await_27 : decode mb_fm_await 27 = .ok (.if_icmp .ge 167, 3) := by decide +kernel
theorem md_fm_await_30 : decode mb_fm_await 30 = .ok (.aload_n 0, 1) := by decide +kernel
theorem md_fm_await_31 : decode mb_fm_await 31 = .ok (.getfield 80, 3) := by decide +kernel
theorem md_fm_await_34 : decode mb_fm_await 34 = .ok (.iconst 4, 1) := by decide +kernel
theorem md_fm_await_35 : decode mb_fm_await 35 = .ok (.iload_n 1, 1) := by decide +kernel
theorem md_fm_await_36 : decode mb_fm_await 36 = .ok (.imul, 1) := by decide +kernel
theorem md_fm_await_37 : decode mb_fm_await 37 = .ok (.iload 4, 2) := by decide +kernel
theorem md_fm_await_39 : decode mb_fm_await 39 = .ok (.iadd, 1) := by decide +kernel
theorem md_fm_await_40 : decode mb_fm_await 40 = .ok (.iaload, 1) := by decide +kernel
theorem md_fm_await_41 : decode mb_fm_await 41 = .ok (.iload_n 2, 1) := by decide +kernel
theorem md_fm_await_42 : decode mb_fm_await 42 = .ok (.if_icmp .eq 6, 3) := by decide +kernel
theorem md_fm_await_45 : decode mb_fm_await 45 = .ok (.goto 143, 3) := by decide +kernel
theorem md_fm_await_48 : decode mb_fm_await 48 = .ok (.aload_n 0, 1) := by decide +kernel
theorem md_fm_await_49 : decode mb_fm_await 49 = .ok (.getfield 83, 3) := by decide +kernel
theorem md_fm_await_52 : decode mb_fm_await 52 = .ok (.iconst 4, 1) := by decide +kernel
theorem md_fm_await_53 : decode mb_fm_await 53 = .ok (.iload_n 1, 1) := by decide +kernel
theorem md_fm_await_54 : decode mb_fm_await 54 = .ok (.imul, 1) := by decide +kernel
theorem md_fm_await_55 : decode mb_fm_await 55 = .ok (.iload 4, 2) := by decide +kernel
theorem md_fm_await_57 : decode mb_fm_await 57 = .ok (.iadd, 1) := by decide +kernel
theorem md_fm_await_58 : decode mb_fm_await 58 = .ok (.iaload, 1) := by decide +kernel
theorem md_fm_await_59 : decode mb_fm_await 59 = .ok (.istore 5, 2) := by decide +kernel
theorem md_fm_await_61 : decode mb_fm_await 61 = .ok (.aload_n 0, 1) := by decide +kernel
theorem md_fm_await_62 : decode mb_fm_await 62 = .ok (.iload_n 1, 1) := by decide +kernel
theorem md_fm_await_63 : decode mb_fm_await 63 = .ok (.bipush 7, 2) := by decide +kernel
theorem md_fm_await_65 : decode mb_fm_await 65 = .ok (.iload_n 2, 1) := by decide +kernel
theorem md_fm_await_66 : decode mb_fm_await 66 = .ok (.iload 5, 2) := by decide +kernel
theorem md_fm_await_68 : decode mb_fm_await 68 = .ok (.invokevirtual 150, 3) := by decide +kernel
theorem md_fm_await_71 : decode mb_fm_await 71 = .ok (.istore 6, 2) := by decide +kernel
theorem md_fm_await_73 : decode mb_fm_await 73 = .ok (.iload 6, 2) := by decide +kernel
theorem md_fm_await_75 : decode mb_fm_await 75 = .ok (.ifCond .ne 4, 3) := by decide +kernel
theorem md_fm_await_78 : decode mb_fm_await 78 = .ok (.return_, 1) := by decide +kernel
theorem md_fm_await_79 : decode mb_fm_await 79 = .ok (.aload_n 0, 1) := by decide +kernel
theorem md_fm_await_80 : decode mb_fm_await 80 = .ok (.getfield 77, 3) := by decide +kernel
theorem md_fm_await_83 : decode mb_fm_await 83 = .ok (.iload_n 1, 1) := by decide +kernel
theorem md_fm_await_84 : decode mb_fm_await 84 = .ok (.dup2, 1) := by decide +kernel
theorem md_fm_await_85 : decode mb_fm_await 85 = .ok (.iaload, 1) := by decide +kernel
theorem md_fm_await_86 : decode mb_fm_await 86 = .ok (.iconst 1, 1) := by decide +kernel
theorem md_fm_await_87 : decode mb_fm_await 87 = .ok (.isub, 1) := by decide +kernel
theorem md_fm_await_88 : decode mb_fm_await 88 = .ok (.iastore, 1) := by decide +kernel
theorem md_fm_await_89 : decode mb_fm_await 89 = .ok (.iload 4, 2) := by decide +kernel
theorem md_fm_await_91 : decode mb_fm_await 91 = .ok (.istore 7, 2) := by decide +kernel
theorem md_fm_await_93 : decode mb_fm_await 93 = .ok (.iload 7, 2) := by decide +kernel
theorem md_fm_await_95 : decode mb_fm_await 95 = .ok (.aload_n 0, 1) := by decide +kernel
theorem md_fm_await_96 : decode mb_fm_await 96 = .ok (.getfield 77, 3) := by decide +kernel
theorem md_fm_await_99 : decode mb_fm_await 99 = .ok (.iload_n 1, 1) := by decide +kernel
theorem md_fm_await_100 : decode mb_fm_await 100 = .ok (.iaload, 1) := by decide +kernel
theorem md_fm_await_101 : decode mb_fm_await 101 = .ok (.if_icmp .ge 57, 3) := by decide +kernel
theorem md_fm_await_104 : decode mb_fm_await 104 = .ok (.aload_n 0, 1) := by decide +kernel
theorem md_fm_await_105 : decode mb_fm_await 105 = .ok (.getfield 80, 3) := by decide +kernel
theorem md_fm_await_108 : decode mb_fm_await 108 = .ok (.iconst 4, 1) := by decide +kernel
theorem md_fm_await_109 : decode mb_fm_await 109 = .ok (.iload_n 1, 1) := by decide +kernel
theorem md_fm_await_110 : decode mb_fm_await 110 = .ok (.imul, 1) := by decide +kernel
theorem md_fm_await_111 : decode mb_fm_await 111 = .ok (.iload 7, 2) := by decide +kernel
theorem md_fm_await_113 : decode mb_fm_await 113 = .ok (.iadd, 1) := by decide +kernel
theorem md_fm_await_114 : decode mb_fm_await 114 = .ok (.aload_n 0, 1) := by decide +kernel
theorem md_fm_await_115 : decode mb_fm_await 115 = .ok (.getfield 80, 3) := by decide +kernel
theorem md_fm_await_118 : decode mb_fm_await 118 = .ok (.iconst 4, 1) := by decide +kernel
theorem md_fm_await_119 : decode mb_fm_await 119 = .ok (.iload_n 1, 1) := by decide +kernel
theorem md_fm_await_120 : decode mb_fm_await 120 = .ok (.imul, 1) := by decide +kernel
theorem md_fm_await_121 : decode mb_fm_await 121 = .ok (.iload 7, 2) := by decide +kernel
theorem md_fm_await_123 : decode mb_fm_await 123 = .ok (.iadd, 1) := by decide +kernel
theorem md_fm_await_124 : decode mb_fm_await 124 = .ok (.iconst 1, 1) := by decide +kernel
theorem md_fm_await_125 : decode mb_fm_await 125 = .ok (.iadd, 1) := by decide +kernel
theorem md_fm_await_126 : decode mb_fm_await 126 = .ok (.iaload, 1) := by decide +kernel
theorem md_fm_await_127 : decode mb_fm_await 127 = .ok (.iastore, 1) := by decide +kernel
theorem md_fm_await_128 : decode mb_fm_await 128 = .ok (.aload_n 0, 1) := by decide +kernel
theorem md_fm_await_129 : decode mb_fm_await 129 = .ok (.getfield 83, 3) := by decide +kernel
theorem md_fm_await_132 : decode mb_fm_await 132 = .ok (.iconst 4, 1) := by decide +kernel
theorem md_fm_await_133 : decode mb_fm_await 133 = .ok (.iload_n 1, 1) := by decide +kernel
theorem md_fm_await_134 : decode mb_fm_await 134 = .ok (.imul, 1) := by decide +kernel
theorem md_fm_await_135 : decode mb_fm_await 135 = .ok (.iload 7, 2) := by decide +kernel
theorem md_fm_await_137 : decode mb_fm_await 137 = .ok (.iadd, 1) := by decide +kernel
theorem md_fm_await_138 : decode mb_fm_await 138 = .ok (.aload_n 0, 1) := by decide +kernel
theorem md_fm_await_139 : decode mb_fm_await 139 = .ok (.getfield 83, 3) := by decide +kernel
theorem md_fm_await_142 : decode mb_fm_await 142 = .ok (.iconst 4, 1) := by decide +kernel
theorem md_fm_await_143 : decode mb_fm_await 143 = .ok (.iload_n 1, 1) := by decide +kernel
theorem md_fm_await_144 : decode mb_fm_await 144 = .ok (.imul, 1) := by decide +kernel
theorem md_fm_await_145 : decode mb_fm_await 145 = .ok (.iload 7, 2) := by decide +kernel
theorem md_fm_await_147 : decode mb_fm_await 147 = .ok (.iadd, 1) := by decide +kernel
theorem md_fm_await_148 : decode mb_fm_await 148 = .ok (.iconst 1, 1) := by decide +kernel
theorem md_fm_await_149 : decode mb_fm_await 149 = .ok (.iadd, 1) := by decide +kernel
theorem md_fm_await_150 : decode mb_fm_await 150 = .ok (.iaload, 1) := by decide +kernel
theorem md_fm_await_151 : decode mb_fm_await 151 = .ok (.iastore, 1) := by decide +kernel
theorem md_fm_await_152 : decode mb_fm_await 152 = .ok (.iinc 7 1, 3) := by decide +kernel
theorem md_fm_await_155 : decode mb_fm_await 155 = .ok (.goto (-62), 3) := by decide +kernel
theorem md_fm_await_158 : decode mb_fm_await 158 = .ok (.aload_n 0, 1) := by decide +kernel
theorem md_fm_await_159 : decode mb_fm_await 159 = .ok (.getfield 50, 3) := by decide +kernel
theorem md_fm_await_162 : decode mb_fm_await 162 = .ok (.iconst 4, 1) := by decide +kernel
theorem md_fm_await_163 : decode mb_fm_await 163 = .ok (.iload_n 1, 1) := by decide +kernel
theorem md_fm_await_164 : decode mb_fm_await 164 = .ok (.imul, 1) := by decide +kernel
theorem md_fm_await_165 : decode mb_fm_await 165 = .ok (.iload_n 3, 1) := by decide +kernel
theorem md_fm_await_166 : decode mb_fm_await 166 = .ok (.iadd, 1) := by decide +kernel
theorem md_fm_await_167 : decode mb_fm_await 167 = .ok (.iload 5, 2) := by decide +kernel
theorem md_fm_await_169 : decode mb_fm_await 169 = .ok (.iastore, 1) := by decide +kernel
theorem md_fm_await_170 : decode mb_fm_await 170 = .ok (.aload_n 0, 1) := by decide +kernel
theorem md_fm_await_171 : decode mb_fm_await 171 = .ok (.getfield 41, 3) := by decide +kernel
theorem md_fm_await_174 : decode mb_fm_await 174 = .ok (.iload_n 1, 1) := by decide +kernel
theorem md_fm_await_175 : decode mb_fm_await 175 = .ok (.dup2, 1) := by decide +kernel
theorem md_fm_await_176 : decode mb_fm_await 176 = .ok (.iaload, 1) := by decide +kernel
theorem md_fm_await_177 : decode mb_fm_await 177 = .ok (.iconst 1, 1) := by decide +kernel
theorem md_fm_await_178 : decode mb_fm_await 178 = .ok (.iadd, 1) := by decide +kernel
theorem md_fm_await_179 : decode mb_fm_await 179 = .ok (.iastore, 1) := by decide +kernel
theorem md_fm_await_180 : decode mb_fm_await 180 = .ok (.aload_n 0, 1) := by decide +kernel
theorem md_fm_await_181 : decode mb_fm_await 181 = .ok (.getfield 38, 3) := by decide +kernel
theorem md_fm_await_184 : decode mb_fm_await 184 = .ok (.iload_n 1, 1) := by decide +kernel
theorem md_fm_await_185 : decode mb_fm_await 185 = .ok (.iconst 0, 1) := by decide +kernel
theorem md_fm_await_186 : decode mb_fm_await 186 = .ok (.iastore, 1) := by decide +kernel
theorem md_fm_await_187 : decode mb_fm_await 187 = .ok (.return_, 1) := by decide +kernel
theorem md_fm_await_188 : decode mb_fm_await 188 = .ok (.iinc 4 1, 3) := by decide +kernel
theorem md_fm_await_191 : decode mb_fm_await 191 = .ok (.goto (-172), 3) := by decide +kernel
theorem md_fm_await_194 : decode mb_fm_await 194 = .ok (.return_, 1) := by decide +kernel
theorem md_fm_note_0 : decode mb_fm_note 0 = .ok (.aload_n 0, 1) := by decide +kernel
theorem md_fm_note_1 : decode mb_fm_note 1 = .ok (.getfield 68, 3) := by decide +kernel
theorem md_fm_note_4 : decode mb_fm_note 4 = .ok (.iload_n 1, 1) := by decide +kernel
theorem md_fm_note_5 : decode mb_fm_note 5 = .ok (.iaload, 1) := by decide +kernel
theorem md_fm_note_6 : decode mb_fm_note 6 = .ok (.bipush 6, 2) := by decide +kernel
theorem md_fm_note_8 : decode mb_fm_note 8 = .ok (.if_icmp .ne 9, 3) := by decide +kernel
theorem md_fm_note_11 : decode mb_fm_note 11 = .ok (.aload_n 0, 1) := by decide +kernel
theorem md_fm_note_12 : decode mb_fm_note 12 = .ok (.iload_n 1, 1) := by decide +kernel
theorem md_fm_note_13 : decode mb_fm_note 13 = .ok (.invokevirtual 147, 3) := by decide +kernel
theorem md_fm_note_16 : decode mb_fm_note 16 = .ok (.return_, 1) := by decide +kernel
theorem md_fm_note_17 : decode mb_fm_note 17 = .ok (.aload_n 0, 1) := by decide +kernel
theorem md_fm_note_18 : decode mb_fm_note 18 = .ok (.getfield 71, 3) := by decide +kernel
theorem md_fm_note_21 : decode mb_fm_note 21 = .ok (.bipush 6, 2) := by decide +kernel
theorem md_fm_note_23 : decode mb_fm_note 23 = .ok (.iload_n 1, 1) := by decide +kernel
theorem md_fm_note_24 : decode mb_fm_note 24 = .ok (.imul, 1) := by decide +kernel
theorem md_fm_note_25 : decode mb_fm_note 25 = .ok (.aload_n 0, 1) := by decide +kernel
theorem md_fm_note_26 : decode mb_fm_note 26 = .ok (.getfield 68, 3) := by decide +kernel
theorem md_fm_note_29 : decode mb_fm_note 29 = .ok (.iload_n 1, 1) := by decide +kernel
theorem md_fm_note_30 : decode mb_fm_note 30 = .ok (.iaload, 1) := by decide +kernel
theorem md_fm_note_31 : decode mb_fm_note 31 = .ok (.iadd, 1) := by decide +kernel
theorem md_fm_note_32 : decode mb_fm_note 32 = .ok (.iload_n 2, 1) := by decide +kernel
theorem md_fm_note_33 : decode mb_fm_note 33 = .ok (.iastore, 1) := by decide +kernel
theorem md_fm_note_34 : decode mb_fm_note 34 = .ok (.aload_n 0, 1) := by decide +kernel
theorem md_fm_note_35 : decode mb_fm_note 35 = .ok (.getfield 74, 3) := by decide +kernel
theorem md_fm_note_38 : decode mb_fm_note 38 = .ok (.bipush 6, 2) := by decide +kernel
theorem md_fm_note_40 : decode mb_fm_note 40 = .ok (.iload_n 1, 1) := by decide +kernel
theorem md_fm_note_41 : decode mb_fm_note 41 = .ok (.imul, 1) := by decide +kernel
theorem md_fm_note_42 : decode mb_fm_note 42 = .ok (.aload_n 0, 1) := by decide +kernel
theorem md_fm_note_43 : decode mb_fm_note 43 = .ok (.getfield 68, 3) := by decide +kernel
theorem md_fm_note_46 : decode mb_fm_note 46 = .ok (.iload_n 1, 1) := by decide +kernel
theorem md_fm_note_47 : decode mb_fm_note 47 = .ok (.iaload, 1) := by decide +kernel
theorem md_fm_note_48 : decode mb_fm_note 48 = .ok (.iadd, 1) := by decide +kernel
theorem md_fm_note_49 : decode mb_fm_note 49 = .ok (.iload_n 3, 1) := by decide +kernel
theorem md_fm_note_50 : decode mb_fm_note 50 = .ok (.iastore, 1) := by decide +kernel
theorem md_fm_note_51 : decode mb_fm_note 51 = .ok (.aload_n 0, 1) := by decide +kernel
theorem md_fm_note_52 : decode mb_fm_note 52 = .ok (.getfield 68, 3) := by decide +kernel
theorem md_fm_note_55 : decode mb_fm_note 55 = .ok (.iload_n 1, 1) := by decide +kernel
theorem md_fm_note_56 : decode mb_fm_note 56 = .ok (.dup2, 1) := by decide +kernel
theorem md_fm_note_57 : decode mb_fm_note 57 = .ok (.iaload, 1) := by decide +kernel
theorem md_fm_note_58 : decode mb_fm_note 58 = .ok (.iconst 1, 1) := by decide +kernel
theorem md_fm_note_59 : decode mb_fm_note 59 = .ok (.iadd, 1) := by decide +kernel
theorem md_fm_note_60 : decode mb_fm_note 60 = .ok (.iastore, 1) := by decide +kernel
theorem md_fm_note_61 : decode mb_fm_note 61 = .ok (.aload_n 0, 1) := by decide +kernel
theorem md_fm_note_62 : decode mb_fm_note 62 = .ok (.getfield 41, 3) := by decide +kernel
theorem md_fm_note_65 : decode mb_fm_note 65 = .ok (.iload_n 1, 1) := by decide +kernel
theorem md_fm_note_66 : decode mb_fm_note 66 = .ok (.dup2, 1) := by decide +kernel
theorem md_fm_note_67 : decode mb_fm_note 67 = .ok (.iaload, 1) := by decide +kernel
theorem md_fm_note_68 : decode mb_fm_note 68 = .ok (.iconst 1, 1) := by decide +kernel
theorem md_fm_note_69 : decode mb_fm_note 69 = .ok (.iadd, 1) := by decide +kernel
theorem md_fm_note_70 : decode mb_fm_note 70 = .ok (.iastore, 1) := by decide +kernel
theorem md_fm_note_71 : decode mb_fm_note 71 = .ok (.return_, 1) := by decide +kernel
theorem md_fm_undo_0 : decode mb_fm_undo 0 = .ok (.aload_n 0, 1) := by decide +kernel
theorem md_fm_undo_1 : decode mb_fm_undo 1 = .ok (.getfield 68, 3) := by decide +kernel
theorem md_fm_undo_4 : decode mb_fm_undo 4 = .ok (.iload_n 1, 1) := by decide +kernel
theorem md_fm_undo_5 : decode mb_fm_undo 5 = .ok (.iaload, 1) := by decide +kernel
theorem md_fm_undo_6 : decode mb_fm_undo 6 = .ok (.ifCond .ne 11, 3) := by decide +kernel
theorem md_fm_undo_9 : decode mb_fm_undo 9 = .ok (.aload_n 0, 1) := by decide +kernel
theorem md_fm_undo_10 : decode mb_fm_undo 10 = .ok (.iload_n 1, 1) := by decide +kernel
theorem md_fm_undo_11 : decode mb_fm_undo 11 = .ok (.bipush 6, 2) := by decide +kernel
theorem md_fm_undo_13 : decode mb_fm_undo 13 = .ok (.invokevirtual 143, 3) := by decide +kernel
theorem md_fm_undo_16 : decode mb_fm_undo 16 = .ok (.return_, 1) := by decide +kernel
theorem md_fm_undo_17 : decode mb_fm_undo 17 = .ok (.aload_n 0, 1) := by decide +kernel
theorem md_fm_undo_18 : decode mb_fm_undo 18 = .ok (.getfield 68, 3) := by decide +kernel
theorem md_fm_undo_21 : decode mb_fm_undo 21 = .ok (.iload_n 1, 1) := by decide +kernel
theorem md_fm_undo_22 : decode mb_fm_undo 22 = .ok (.dup2, 1) := by decide +kernel
theorem md_fm_undo_23 : decode mb_fm_undo 23 = .ok (.iaload, 1) := by decide +kernel
theorem md_fm_undo_24 : decode mb_fm_undo 24 = .ok (.iconst 1, 1) := by decide +kernel
theorem md_fm_undo_25 : decode mb_fm_undo 25 = .ok (.isub, 1) := by decide +kernel
theorem md_fm_undo_26 : decode mb_fm_undo 26 = .ok (.iastore, 1) := by decide +kernel
theorem md_fm_undo_27 : decode mb_fm_undo 27 = .ok (.aload_n 0, 1) := by decide +kernel
theorem md_fm_undo_28 : decode mb_fm_undo 28 = .ok (.iload_n 1, 1) := by decide +kernel
theorem md_fm_undo_29 : decode mb_fm_undo 29 = .ok (.aload_n 0, 1) := by decide +kernel
theorem md_fm_undo_30 : decode mb_fm_undo 30 = .ok (.getfield 71, 3) := by decide +kernel
theorem md_fm_undo_33 : decode mb_fm_undo 33 = .ok (.bipush 6, 2) := by decide +kernel
theorem md_fm_undo_35 : decode mb_fm_undo 35 = .ok (.iload_n 1, 1) := by decide +kernel
theorem md_fm_undo_36 : decode mb_fm_undo 36 = .ok (.imul, 1) := by decide +kernel
theorem md_fm_undo_37 : decode mb_fm_undo 37 = .ok (.aload_n 0, 1) := by decide +kernel
theorem md_fm_undo_38 : decode mb_fm_undo 38 = .ok (.getfield 68, 3) := by decide +kernel
theorem md_fm_undo_41 : decode mb_fm_undo 41 = .ok (.iload_n 1, 1) := by decide +kernel
theorem md_fm_undo_42 : decode mb_fm_undo 42 = .ok (.iaload, 1) := by decide +kernel
theorem md_fm_undo_43 : decode mb_fm_undo 43 = .ok (.iadd, 1) := by decide +kernel
theorem md_fm_undo_44 : decode mb_fm_undo 44 = .ok (.iaload, 1) := by decide +kernel
theorem md_fm_undo_45 : decode mb_fm_undo 45 = .ok (.aload_n 0, 1) := by decide +kernel
theorem md_fm_undo_46 : decode mb_fm_undo 46 = .ok (.getfield 74, 3) := by decide +kernel
theorem md_fm_undo_49 : decode mb_fm_undo 49 = .ok (.bipush 6, 2) := by decide +kernel
theorem md_fm_undo_51 : decode mb_fm_undo 51 = .ok (.iload_n 1, 1) := by decide +kernel
theorem md_fm_undo_52 : decode mb_fm_undo 52 = .ok (.imul, 1) := by decide +kernel
theorem md_fm_undo_53 : decode mb_fm_undo 53 = .ok (.aload_n 0, 1) := by decide +kernel
theorem md_fm_undo_54 : decode mb_fm_undo 54 = .ok (.getfield 68, 3) := by decide +kernel
theorem md_fm_undo_57 : decode mb_fm_undo 57 = .ok (.iload_n 1, 1) := by decide +kernel
theorem md_fm_undo_58 : decode mb_fm_undo 58 = .ok (.iaload, 1) := by decide +kernel
theorem md_fm_undo_59 : decode mb_fm_undo 59 = .ok (.iadd, 1) := by decide +kernel
theorem md_fm_undo_60 : decode mb_fm_undo 60 = .ok (.iaload, 1) := by decide +kernel
theorem md_fm_undo_61 : decode mb_fm_undo 61 = .ok (.iconst 4, 1) := by decide +kernel
theorem md_fm_undo_62 : decode mb_fm_undo 62 = .ok (.invokevirtual 157, 3) := by decide +kernel
theorem md_fm_undo_65 : decode mb_fm_undo 65 = .ok (.return_, 1) := by decide +kernel
theorem md_fm_isFor_0 : decode mb_fm_isFor 0 = .ok (.aload_n 0, 1) := by decide +kernel
theorem md_fm_isFor_1 : decode mb_fm_isFor 1 = .ok (.getfield 38, 3) := by decide +kernel
theorem md_fm_isFor_4 : decode mb_fm_isFor 4 = .ok (.iload_n 1, 1) := by decide +kernel
theorem md_fm_isFor_5 : decode mb_fm_isFor 5 = .ok (.iaload, 1) := by decide +kernel
theorem md_fm_isFor_6 : decode mb_fm_isFor 6 = .ok (.iconst 1, 1) := by decide +kernel
theorem md_fm_isFor_7 : decode mb_fm_isFor 7 = .ok (.if_icmp .eq 13, 3) := by decide +kernel
theorem md_fm_isFor_10 : decode mb_fm_isFor 10 = .ok (.aload_n 0, 1) := by decide +kernel
theorem md_fm_isFor_11 : decode mb_fm_isFor 11 = .ok (.getfield 38, 3) := by decide +kernel
theorem md_fm_isFor_14 : decode mb_fm_isFor 14 = .ok (.iload_n 1, 1) := by decide +kernel
theorem md_fm_isFor_15 : decode mb_fm_isFor 15 = .ok (.iaload, 1) := by decide +kernel
theorem md_fm_isFor_16 : decode mb_fm_isFor 16 = .ok (.iconst 4, 1) := by decide +kernel
theorem md_fm_isFor_17 : decode mb_fm_isFor 17 = .ok (.if_icmp .ne 29, 3) := by decide +kernel
theorem md_fm_isFor_20 : decode mb_fm_isFor 20 = .ok (.iload_n 2, 1) := by decide +kernel
theorem md_fm_isFor_21 : decode mb_fm_isFor 21 = .ok (.iconst 3, 1) := by decide +kernel
theorem md_fm_isFor_22 : decode mb_fm_isFor 22 = .ok (.if_icmp .eq 8, 3) := by decide +kernel
theorem md_fm_isFor_25 : decode mb_fm_isFor 25 = .ok (.iload_n 2, 1) := by decide +kernel
theorem md_fm_isFor_26 : decode mb_fm_isFor 26 = .ok (.iconst 4, 1) := by decide +kernel
theorem md_fm_isFor_27 : decode mb_fm_isFor 27 = .ok (.if_icmp .ne 17, 3) := by decide +kernel
theorem md_fm_isFor_30 : decode mb_fm_isFor 30 = .ok (.iload_n 3, 1) := by decide +kernel
theorem md_fm_isFor_31 : decode mb_fm_isFor 31 = .ok (.aload_n 0, 1) := by decide +kernel
theorem md_fm_isFor_32 : decode mb_fm_isFor 32 = .ok (.getfield 90, 3) := by decide +kernel
theorem md_fm_isFor_35 : decode mb_fm_isFor 35 = .ok (.iload_n 1, 1) := by decide +kernel
theorem md_fm_isFor_36 : decode mb_fm_isFor 36 = .ok (.iaload, 1) := by decide +kernel
theorem md_fm_isFor_37 : decode mb_fm_isFor 37 = .ok (.if_icmp .ne 7, 3) := by decide +kernel
theorem md_fm_isFor_40 : decode mb_fm_isFor 40 = .ok (.iconst 1, 1) := by decide +kernel
theorem md_fm_isFor_41 : decode mb_fm_isFor 41 = .ok (.goto 4, 3) := by decide +kernel
theorem md_fm_isFor_44 : decode mb_fm_isFor 44 = .ok (.iconst 0, 1) := by decide +kernel
theorem md_fm_isFor_45 : decode mb_fm_isFor 45 = .ok (.ireturn, 1) := by decide +kernel
theorem md_fm_isFor_46 : decode mb_fm_isFor 46 = .ok (.aload_n 0, 1) := by decide +kernel
theorem md_fm_isFor_47 : decode mb_fm_isFor 47 = .ok (.getfield 38, 3) := by decide +kernel
theorem md_fm_isFor_50 : decode mb_fm_isFor 50 = .ok (.iload_n 1, 1) := by decide +kernel
theorem md_fm_isFor_51 : decode mb_fm_isFor 51 = .ok (.iaload, 1) := by decide +kernel
theorem md_fm_isFor_52 : decode mb_fm_isFor 52 = .ok (.iconst 2, 1) := by decide +kernel
theorem md_fm_isFor_53 : decode mb_fm_isFor 53 = .ok (.if_icmp .ne 15, 3) := by decide +kernel
theorem md_fm_isFor_56 : decode mb_fm_isFor 56 = .ok (.iload_n 2, 1) := by decide +kernel
theorem md_fm_isFor_57 : decode mb_fm_isFor 57 = .ok (.bipush 6, 2) := by decide +kernel
theorem md_fm_isFor_59 : decode mb_fm_isFor 59 = .ok (.if_icmp .ne 7, 3) := by decide +kernel
theorem md_fm_isFor_62 : decode mb_fm_isFor 62 = .ok (.iconst 1, 1) := by decide +kernel
theorem md_fm_isFor_63 : decode mb_fm_isFor 63 = .ok (.goto 4, 3) := by decide +kernel
theorem md_fm_isFor_66 : decode mb_fm_isFor 66 = .ok (.iconst 0, 1) := by decide +kernel
theorem md_fm_isFor_67 : decode mb_fm_isFor 67 = .ok (.ireturn, 1) := by decide +kernel
theorem md_fm_isFor_68 : decode mb_fm_isFor 68 = .ok (.aload_n 0, 1) := by decide +kernel
theorem md_fm_isFor_69 : decode mb_fm_isFor 69 = .ok (.getfield 38, 3) := by decide +kernel
theorem md_fm_isFor_72 : decode mb_fm_isFor 72 = .ok (.iload_n 1, 1) := by decide +kernel
theorem md_fm_isFor_73 : decode mb_fm_isFor 73 = .ok (.iaload, 1) := by decide +kernel
theorem md_fm_isFor_74 : decode mb_fm_isFor 74 = .ok (.iconst 3, 1) := by decide +kernel
theorem md_fm_isFor_75 : decode mb_fm_isFor 75 = .ok (.if_icmp .ne 38, 3) := by decide +kernel
theorem md_fm_isFor_78 : decode mb_fm_isFor 78 = .ok (.iload_n 2, 1) := by decide +kernel
theorem md_fm_isFor_79 : decode mb_fm_isFor 79 = .ok (.bipush 7, 2) := by decide +kernel
theorem md_fm_isFor_81 : decode mb_fm_isFor 81 = .ok (.if_icmp .ne 32, 3) := by decide +kernel
theorem md_fm_isFor_84 : decode mb_fm_isFor 84 = .ok (.iload_n 3, 1) := by decide +kernel
theorem md_fm_isFor_85 : decode mb_fm_isFor 85 = .ok (.aload_n 0, 1) := by decide +kernel
theorem md_fm_isFor_86 : decode mb_fm_isFor 86 = .ok (.getfield 13, 3) := by decide +kernel
theorem md_fm_isFor_89 : decode mb_fm_isFor 89 = .ok (.bipush 14, 2) := by decide +kernel
theorem md_fm_isFor_91 : decode mb_fm_isFor 91 = .ok (.aload_n 0, 1) := by decide +kernel
theorem md_fm_isFor_92 : decode mb_fm_isFor 92 = .ok (.getfield 35, 3) := by decide +kernel
theorem md_fm_isFor_95 : decode mb_fm_isFor 95 = .ok (.iload_n 1, 1) := by decide +kernel
theorem md_fm_isFor_96 : decode mb_fm_isFor 96 = .ok (.iaload, 1) := by decide +kernel
theorem md_fm_isFor_97 : decode mb_fm_isFor 97 = .ok (.imul, 1) := by decide +kernel
theorem md_fm_isFor_98 : decode mb_fm_isFor 98 = .ok (.aload_n 0, 1) := by decide +kernel
theorem md_fm_isFor_99 : decode mb_fm_isFor 99 = .ok (.getfield 41, 3) := by decide +kernel
theorem md_fm_isFor_102 : decode mb_fm_isFor 102 = .ok (.iload_n 1, 1) := by decide +kernel
theorem md_fm_isFor_103 : decode mb_fm_isFor 103 = .ok (.iaload, 1) := by decide +kernel
theorem md_fm_isFor_104 : decode mb_fm_isFor 104 = .ok (.iadd, 1) := by decide +kernel
theorem md_fm_isFor_105 : decode mb_fm_isFor 105 = .ok (.iaload, 1) := by decide +kernel
theorem md_fm_isFor_106 : decode mb_fm_isFor 106 = .ok (.if_icmp .ne 7, 3) := by decide +kernel
theorem md_fm_isFor_109 : decode mb_fm_isFor 109 = .ok (.iconst 1, 1) := by decide +kernel
theorem md_fm_isFor_110 : decode mb_fm_isFor 110 = .ok (.goto 4, 3) := by decide +kernel
theorem md_fm_isFor_113 : decode mb_fm_isFor 113 = .ok (.iconst 0, 1) := by decide +kernel
theorem md_fm_isFor_114 : decode mb_fm_isFor 114 = .ok (.ireturn, 1) := by decide +kernel
