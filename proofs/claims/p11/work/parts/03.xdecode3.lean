theorem xd_fe_entry_0 : decode xb_fe_entry 0 = .ok (.iload_n 1, 1) := by decide +kernel
theorem xd_fe_entry_1 : decode xb_fe_entry 1 = .ok (.ifCond .lt 18, 3) := by decide +kernel
theorem xd_fe_entry_4 : decode xb_fe_entry 4 = .ok (.iload_n 1, 1) := by decide +kernel
theorem xd_fe_entry_5 : decode xb_fe_entry 5 = .ok (.bipush 6, 2) := by decide +kernel
theorem xd_fe_entry_7 : decode xb_fe_entry 7 = .ok (.if_icmp .ge 12, 3) := by decide +kernel
theorem xd_fe_entry_10 : decode xb_fe_entry 10 = .ok (.iload_n 3, 1) := by decide +kernel
theorem xd_fe_entry_11 : decode xb_fe_entry 11 = .ok (.ifCond .lt 8, 3) := by decide +kernel
theorem xd_fe_entry_14 : decode xb_fe_entry 14 = .ok (.iload_n 3, 1) := by decide +kernel
theorem xd_fe_entry_15 : decode xb_fe_entry 15 = .ok (.iconst 2, 1) := by decide +kernel
theorem xd_fe_entry_16 : decode xb_fe_entry 16 = .ok (.if_icmp .le 5, 3) := by decide +kernel
theorem xd_fe_entry_19 : decode xb_fe_entry 19 = .ok (.iconst (-1), 1) := by decide +kernel
theorem xd_fe_entry_20 : decode xb_fe_entry 20 = .ok (.ireturn, 1) := by decide +kernel
theorem xd_fe_entry_21 : decode xb_fe_entry 21 = .ok (.aload_n 0, 1) := by decide +kernel
theorem xd_fe_entry_22 : decode xb_fe_entry 22 = .ok (.getfield 17, 3) := by decide +kernel
theorem xd_fe_entry_25 : decode xb_fe_entry 25 = .ok (.iload_n 1, 1) := by decide +kernel
theorem xd_fe_entry_26 : decode xb_fe_entry 26 = .ok (.aaload, 1) := by decide +kernel
theorem xd_fe_entry_27 : decode xb_fe_entry 27 = .ok (.getfield 149, 3) := by decide +kernel
theorem xd_fe_entry_30 : decode xb_fe_entry 30 = .ok (.astore 4, 2) := by decide +kernel
theorem xd_fe_entry_32 : decode xb_fe_entry 32 = .ok (.aload_n 0, 1) := by decide +kernel
theorem xd_fe_entry_33 : decode xb_fe_entry 33 = .ok (.getfield 17, 3) := by decide +kernel
theorem xd_fe_entry_36 : decode xb_fe_entry 36 = .ok (.iload_n 1, 1) := by decide +kernel
theorem xd_fe_entry_37 : decode xb_fe_entry 37 = .ok (.aaload, 1) := by decide +kernel
theorem xd_fe_entry_38 : decode xb_fe_entry 38 = .ok (.getfield 72, 3) := by decide +kernel
theorem xd_fe_entry_41 : decode xb_fe_entry 41 = .ok (.ifCond .eq 16, 3) := by decide +kernel
theorem xd_fe_entry_44 : decode xb_fe_entry 44 = .ok (.iload_n 2, 1) := by decide +kernel
theorem xd_fe_entry_45 : decode xb_fe_entry 45 = .ok (.ifCond .lt 12, 3) := by decide +kernel
theorem xd_fe_entry_48 : decode xb_fe_entry 48 = .ok (.iload_n 2, 1) := by decide +kernel
theorem xd_fe_entry_49 : decode xb_fe_entry 49 = .ok (.aload 4, 2) := by decide +kernel
theorem xd_fe_entry_51 : decode xb_fe_entry 51 = .ok (.getfield 153, 3) := by decide +kernel
theorem xd_fe_entry_54 : decode xb_fe_entry 54 = .ok (.if_icmp .lt 6, 3) := by decide +kernel
theorem xd_fe_entry_57 : decode xb_fe_entry 57 = .ok (.bipush (-2), 2) := by decide +kernel
theorem xd_fe_entry_59 : decode xb_fe_entry 59 = .ok (.ireturn, 1) := by decide +kernel
theorem xd_fe_entry_60 : decode xb_fe_entry 60 = .ok (.iload_n 3, 1) := by decide +kernel
theorem xd_fe_entry_61 : decode xb_fe_entry 61 = .ok (.lookupswitch 43 #[(0, 27), (1, 35)], 27) := by decide +kernel
theorem xd_fe_entry_88 : decode xb_fe_entry 88 = .ok (.aload 4, 2) := by decide +kernel
theorem xd_fe_entry_90 : decode xb_fe_entry 90 = .ok (.getfield 179, 3) := by decide +kernel
theorem xd_fe_entry_93 : decode xb_fe_entry 93 = .ok (.iload_n 2, 1) := by decide +kernel
theorem xd_fe_entry_94 : decode xb_fe_entry 94 = .ok (.iaload, 1) := by decide +kernel
theorem xd_fe_entry_95 : decode xb_fe_entry 95 = .ok (.ireturn, 1) := by decide +kernel
theorem xd_fe_entry_96 : decode xb_fe_entry 96 = .ok (.aload 4, 2) := by decide +kernel
theorem xd_fe_entry_98 : decode xb_fe_entry 98 = .ok (.getfield 182, 3) := by decide +kernel
theorem xd_fe_entry_101 : decode xb_fe_entry 101 = .ok (.iload_n 2, 1) := by decide +kernel
theorem xd_fe_entry_102 : decode xb_fe_entry 102 = .ok (.iaload, 1) := by decide +kernel
theorem xd_fe_entry_103 : decode xb_fe_entry 103 = .ok (.ireturn, 1) := by decide +kernel
theorem xd_fe_entry_104 : decode xb_fe_entry 104 = .ok (.aload 4, 2) := by decide +kernel
theorem xd_fe_entry_106 : decode xb_fe_entry 106 = .ok (.getfield 185, 3) := by decide +kernel
theorem xd_fe_entry_109 : decode xb_fe_entry 109 = .ok (.iload_n 2, 1) := by decide +kernel
theorem xd_fe_entry_110 : decode xb_fe_entry 110 = .ok (.iaload, 1) := by decide +kernel
theorem xd_fe_entry_111 : decode xb_fe_entry 111 = .ok (.ireturn, 1) := by decide +kernel
theorem xd_fe_line_0 : decode xb_fe_line 0 = .ok (.iload_n 1, 1) := by decide +kernel
theorem xd_fe_line_1 : decode xb_fe_line 1 = .ok (.iconst (-1), 1) := by decide +kernel
theorem xd_fe_line_2 : decode xb_fe_line 2 = .ok (.if_icmp .ne 11, 3) := by decide +kernel
theorem xd_fe_line_5 : decode xb_fe_line 5 = .ok (.aload_n 0, 1) := by decide +kernel
theorem xd_fe_line_6 : decode xb_fe_line 6 = .ok (.getfield 24, 3) := by decide +kernel
theorem xd_fe_line_9 : decode xb_fe_line 9 = .ok (.getfield 103, 3) := by decide +kernel
theorem xd_fe_line_12 : decode xb_fe_line 12 = .ok (.ireturn, 1) := by decide +kernel
theorem xd_fe_line_13 : decode xb_fe_line 13 = .ok (.iload_n 1, 1) := by decide +kernel
theorem xd_fe_line_14 : decode xb_fe_line 14 = .ok (.ifCond .lt 26, 3) := by decide +kernel
theorem xd_fe_line_17 : decode xb_fe_line 17 = .ok (.iload_n 1, 1) := by decide +kernel
theorem xd_fe_line_18 : decode xb_fe_line 18 = .ok (.aload_n 0, 1) := by decide +kernel
theorem xd_fe_line_19 : decode xb_fe_line 19 = .ok (.getfield 24, 3) := by decide +kernel
theorem xd_fe_line_22 : decode xb_fe_line 22 = .ok (.getfield 103, 3) := by decide +kernel
theorem xd_fe_line_25 : decode xb_fe_line 25 = .ok (.if_icmp .ge 15, 3) := by decide +kernel
theorem xd_fe_line_28 : decode xb_fe_line 28 = .ok (.aload_n 0, 1) := by decide +kernel
theorem xd_fe_line_29 : decode xb_fe_line 29 = .ok (.getfield 24, 3) := by decide +kernel
theorem xd_fe_line_32 : decode xb_fe_line 32 = .ok (.getfield 104, 3) := by decide +kernel
theorem xd_fe_line_35 : decode xb_fe_line 35 = .ok (.iload_n 1, 1) := by decide +kernel
theorem xd_fe_line_36 : decode xb_fe_line 36 = .ok (.iaload, 1) := by decide +kernel
theorem xd_fe_line_37 : decode xb_fe_line 37 = .ok (.goto 5, 3) := by decide +kernel
theorem xd_fe_line_40 : decode xb_fe_line 40 = .ok (.bipush (-2), 2) := by decide +kernel
theorem xd_fe_line_42 : decode xb_fe_line 42 = .ok (.ireturn, 1) := by decide +kernel
theorem xd_fe_count_0 : decode xb_fe_count 0 = .ok (.iload_n 1, 1) := by decide +kernel
theorem xd_fe_count_1 : decode xb_fe_count 1 = .ok (.tableswitch 107 0 9 #[55, 60, 66, 72, 77, 82, 87, 92, 97, 102], 55) := by decide +kernel
theorem xd_fe_count_56 : decode xb_fe_count 56 = .ok (.aload_n 0, 1) := by decide +kernel
theorem xd_fe_count_57 : decode xb_fe_count 57 = .ok (.getfield 116, 3) := by decide +kernel
theorem xd_fe_count_60 : decode xb_fe_count 60 = .ok (.ireturn, 1) := by decide +kernel
theorem xd_fe_count_61 : decode xb_fe_count 61 = .ok (.aload_n 0, 1) := by decide +kernel
theorem xd_fe_count_62 : decode xb_fe_count 62 = .ok (.iconst 0, 1) := by decide +kernel
theorem xd_fe_count_63 : decode xb_fe_count 63 = .ok (.invokevirtual 188, 3) := by decide +kernel
theorem xd_fe_count_66 : decode xb_fe_count 66 = .ok (.ireturn, 1) := by decide +kernel
theorem xd_fe_count_67 : decode xb_fe_count 67 = .ok (.aload_n 0, 1) := by decide +kernel
theorem xd_fe_count_68 : decode xb_fe_count 68 = .ok (.iconst 1, 1) := by decide +kernel
theorem xd_fe_count_69 : decode xb_fe_count 69 = .ok (.invokevirtual 188, 3) := by decide +kernel
theorem xd_fe_count_72 : decode xb_fe_count 72 = .ok (.ireturn, 1) := by decide +kernel
theorem xd_fe_count_73 : decode xb_fe_count 73 = .ok (.aload_n 0, 1) := by decide +kernel
theorem xd_fe_count_74 : decode xb_fe_count 74 = .ok (.getfield 192, 3) := by decide +kernel
theorem xd_fe_count_77 : decode xb_fe_count 77 = .ok (.ireturn, 1) := by decide +kernel
theorem xd_fe_count_78 : decode xb_fe_count 78 = .ok (.aload_n 0, 1) := by decide +kernel
theorem xd_fe_count_79 : decode xb_fe_count 79 = .ok (.getfield 195, 3) := by decide +kernel
theorem xd_fe_count_82 : decode xb_fe_count 82 = .ok (.ireturn, 1) := by decide +kernel
theorem xd_fe_count_83 : decode xb_fe_count 83 = .ok (.aload_n 0, 1) := by decide +kernel
theorem xd_fe_count_84 : decode xb_fe_count 84 = .ok (.getfield 198, 3) := by decide +kernel
theorem xd_fe_count_87 : decode xb_fe_count 87 = .ok (.ireturn, 1) := by decide +kernel
theorem xd_fe_count_88 : decode xb_fe_count 88 = .ok (.aload_n 0, 1) := by decide +kernel
theorem xd_fe_count_89 : decode xb_fe_count 89 = .ok (.getfield 201, 3) := by decide +kernel
theorem xd_fe_count_92 : decode xb_fe_count 92 = .ok (.ireturn, 1) := by decide +kernel
theorem xd_fe_count_93 : decode xb_fe_count 93 = .ok (.aload_n 0, 1) := by decide +kernel
theorem xd_fe_count_94 : decode xb_fe_count 94 = .ok (.getfield 204, 3) := by decide +kernel
theorem xd_fe_count_97 : decode xb_fe_count 97 = .ok (.ireturn, 1) := by decide +kernel
theorem xd_fe_count_98 : decode xb_fe_count 98 = .ok (.aload_n 0, 1) := by decide +kernel
theorem xd_fe_count_99 : decode xb_fe_count 99 = .ok (.getfield 207, 3) := by decide +kernel
theorem xd_fe_count_102 : decode xb_fe_count 102 = .ok (.ireturn, 1) := by decide +kernel
theorem xd_fe_count_103 : decode xb_fe_count 103 = .ok (.aload_n 0, 1) := by decide +kernel
theorem xd_fe_count_104 : decode xb_fe_count 104 = .ok (.getfield 210, 3) := by decide +kernel
theorem xd_fe_count_107 : decode xb_fe_count 107 = .ok (.ireturn, 1) := by decide +kernel
theorem xd_fe_count_108 : decode xb_fe_count 108 = .ok (.iload_n 1, 1) := by decide +kernel
theorem xd_fe_count_109 : decode xb_fe_count 109 = .ok (.bipush 10, 2) := by decide +kernel
theorem xd_fe_count_111 : decode xb_fe_count 111 = .ok (.isub, 1) := by decide +kernel
theorem xd_fe_count_112 : decode xb_fe_count 112 = .ok (.invokestatic 32, 3) := by decide +kernel
theorem xd_fe_count_115 : decode xb_fe_count 115 = .ok (.ifCond .eq 18, 3) := by decide +kernel
theorem xd_fe_count_118 : decode xb_fe_count 118 = .ok (.aload_n 0, 1) := by decide +kernel
theorem xd_fe_count_119 : decode xb_fe_count 119 = .ok (.getfield 11, 3) := by decide +kernel
theorem xd_fe_count_122 : decode xb_fe_count 122 = .ok (.iload_n 1, 1) := by decide +kernel
theorem xd_fe_count_123 : decode xb_fe_count 123 = .ok (.bipush 10, 2) := by decide +kernel
theorem xd_fe_count_125 : decode xb_fe_count 125 = .ok (.isub, 1) := by decide +kernel
theorem xd_fe_count_126 : decode xb_fe_count 126 = .ok (.aaload, 1) := by decide +kernel
theorem xd_fe_count_127 : decode xb_fe_count 127 = .ok (.getfield 40, 3) := by decide +kernel
theorem xd_fe_count_130 : decode xb_fe_count 130 = .ok (.goto 4, 3) := by decide +kernel
theorem xd_fe_count_133 : decode xb_fe_count 133 = .ok (.iconst (-1), 1) := by decide +kernel
theorem xd_fe_count_134 : decode xb_fe_count 134 = .ok (.ireturn, 1) := by decide +kernel
theorem xd_fe_countThere_0 : decode xb_fe_countThere 0 = .ok (.iconst 0, 1) := by decide +kernel
theorem xd_fe_countThere_1 : decode xb_fe_countThere 1 = .ok (.istore_n 2, 1) := by decide +kernel
theorem xd_fe_countThere_2 : decode xb_fe_countThere 2 = .ok (.iconst 0, 1) := by decide +kernel
theorem xd_fe_countThere_3 : decode xb_fe_countThere 3 = .ok (.istore_n 3, 1) := by decide +kernel
theorem xd_fe_countThere_4 : decode xb_fe_countThere 4 = .ok (.iload_n 3, 1) := by decide +kernel
theorem xd_fe_countThere_5 : decode xb_fe_countThere 5 = .ok (.bipush 6, 2) := by decide +kernel
theorem xd_fe_countThere_7 : decode xb_fe_countThere 7 = .ok (.if_icmp .ge 40, 3) := by decide +kernel
theorem xd_fe_countThere_10 : decode xb_fe_countThere 10 = .ok (.aload_n 0, 1) := by decide +kernel
theorem xd_fe_countThere_11 : decode xb_fe_countThere 11 = .ok (.getfield 17, 3) := by decide +kernel
theorem xd_fe_countThere_14 : decode xb_fe_countThere 14 = .ok (.iload_n 3, 1) := by decide +kernel
theorem xd_fe_countThere_15 : decode xb_fe_countThere 15 = .ok (.aaload, 1) := by decide +kernel
theorem xd_fe_countThere_16 : decode xb_fe_countThere 16 = .ok (.getfield 72, 3) := by decide +kernel
theorem xd_fe_countThere_19 : decode xb_fe_countThere 19 = .ok (.ifCond .eq 22, 3) := by decide +kernel
theorem xd_fe_countThere_22 : decode xb_fe_countThere 22 = .ok (.iload_n 1, 1) := by decide +kernel
theorem xd_fe_countThere_23 : decode xb_fe_countThere 23 = .ok (.ifCond .eq 15, 3) := by decide +kernel
theorem xd_fe_countThere_26 : decode xb_fe_countThere 26 = .ok (.aload_n 0, 1) := by decide +kernel
theorem xd_fe_countThere_27 : decode xb_fe_countThere 27 = .ok (.getfield 17, 3) := by decide +kernel
theorem xd_fe_countThere_30 : decode xb_fe_countThere 30 = .ok (.iload_n 3, 1) := by decide +kernel
theorem xd_fe_countThere_31 : decode xb_fe_countThere 31 = .ok (.aaload, 1) := by decide +kernel
theorem xd_fe_countThere_32 : decode xb_fe_countThere 32 = .ok (.invokevirtual 76, 3) := by decide +kernel
theorem xd_fe_countThere_35 : decode xb_fe_countThere 35 = .ok (.ifCond .ne 6, 3) := by decide +kernel
theorem xd_fe_countThere_38 : decode xb_fe_countThere 38 = .ok (.iinc 2 1, 3) := by decide +kernel
theorem xd_fe_countThere_41 : decode xb_fe_countThere 41 = .ok (.iinc 3 1, 3) := by decide +kernel
theorem xd_fe_countThere_44 : decode xb_fe_countThere 44 = .ok (.goto (-40), 3) := by decide +kernel
theorem xd_fe_countThere_47 : decode xb_fe_countThere 47 = .ok (.iload_n 2, 1) := by decide +kernel
theorem xd_fe_countThere_48 : decode xb_fe_countThere 48 = .ok (.ireturn, 1) := by decide +kernel
theorem xd_hi_init_0 : decode xb_hi_init 0 = .ok (.aload_n 0, 1) := by decide +kernel
theorem xd_hi_init_1 : decode xb_hi_init 1 = .ok (.invokespecial 3, 3) := by decide +kernel
theorem xd_hi_init_4 : decode xb_hi_init 4 = .ok (.aload_n 0, 1) := by decide +kernel
theorem xd_hi_init_5 : decode xb_hi_init 5 = .ok (.bipush 20, 2) := by decide +kernel
theorem xd_hi_init_7 : decode xb_hi_init 7 = .ok (.newarray .int, 2) := by decide +kernel
theorem xd_hi_init_9 : decode xb_hi_init 9 = .ok (.putfield 9, 3) := by decide +kernel
theorem xd_hi_init_12 : decode xb_hi_init 12 = .ok (.aload_n 0, 1) := by decide +kernel
theorem xd_hi_init_13 : decode xb_hi_init 13 = .ok (.bipush 20, 2) := by decide +kernel
theorem xd_hi_init_15 : decode xb_hi_init 15 = .ok (.newarray .int, 2) := by decide +kernel
theorem xd_hi_init_17 : decode xb_hi_init 17 = .ok (.putfield 15, 3) := by decide +kernel
theorem xd_hi_init_20 : decode xb_hi_init 20 = .ok (.aload_n 0, 1) := by decide +kernel
theorem xd_hi_init_21 : decode xb_hi_init 21 = .ok (.bipush 20, 2) := by decide +kernel
theorem xd_hi_init_23 : decode xb_hi_init 23 = .ok (.newarray .int, 2) := by decide +kernel
theorem xd_hi_init_25 : decode xb_hi_init 25 = .ok (.putfield 18, 3) := by decide +kernel
theorem xd_hi_init_28 : decode xb_hi_init 28 = .ok (.return_, 1) := by decide +kernel
theorem xd_hi_pass_0 : decode xb_hi_pass 0 = .ok (.aload_n 0, 1) := by decide +kernel
theorem xd_hi_pass_1 : decode xb_hi_pass 1 = .ok (.getfield 21, 3) := by decide +kernel
theorem xd_hi_pass_4 : decode xb_hi_pass 4 = .ok (.aload_n 0, 1) := by decide +kernel
theorem xd_hi_pass_5 : decode xb_hi_pass 5 = .ok (.getfield 25, 3) := by decide +kernel
theorem xd_hi_pass_8 : decode xb_hi_pass 8 = .ok (.if_icmp .ge 56, 3) := by decide +kernel
theorem xd_hi_pass_11 : decode xb_hi_pass 11 = .ok (.aload_n 0, 1) := by decide +kernel
theorem xd_hi_pass_12 : decode xb_hi_pass 12 = .ok (.getfield 9, 3) := by decide +kernel
theorem xd_hi_pass_15 : decode xb_hi_pass 15 = .ok (.aload_n 0, 1) := by decide +kernel
theorem xd_hi_pass_16 : decode xb_hi_pass 16 = .ok (.getfield 21, 3) := by decide +kernel
theorem xd_hi_pass_19 : decode xb_hi_pass 19 = .ok (.iaload, 1) := by decide +kernel
theorem xd_hi_pass_20 : decode xb_hi_pass 20 = .ok (.iload_n 1, 1) := by decide +kernel
theorem xd_hi_pass_21 : decode xb_hi_pass 21 = .ok (.if_icmp .ne 29, 3) := by decide +kernel
theorem xd_hi_pass_24 : decode xb_hi_pass 24 = .ok (.aload_n 0, 1) := by decide +kernel
theorem xd_hi_pass_25 : decode xb_hi_pass 25 = .ok (.getfield 15, 3) := by decide +kernel
theorem xd_hi_pass_28 : decode xb_hi_pass 28 = .ok (.aload_n 0, 1) := by decide +kernel
theorem xd_hi_pass_29 : decode xb_hi_pass 29 = .ok (.getfield 21, 3) := by decide +kernel
theorem xd_hi_pass_32 : decode xb_hi_pass 32 = .ok (.iaload, 1) := by decide +kernel
theorem xd_hi_pass_33 : decode xb_hi_pass 33 = .ok (.iload_n 2, 1) := by decide +kernel
theorem xd_hi_pass_34 : decode xb_hi_pass 34 = .ok (.if_icmp .ne 16, 3) := by decide +kernel
theorem xd_hi_pass_37 : decode xb_hi_pass 37 = .ok (.aload_n 0, 1) := by decide +kernel
theorem xd_hi_pass_38 : decode xb_hi_pass 38 = .ok (.getfield 18, 3) := by decide +kernel
theorem xd_hi_pass_41 : decode xb_hi_pass 41 = .ok (.aload_n 0, 1) := by decide +kernel
theorem xd_hi_pass_42 : decode xb_hi_pass 42 = .ok (.getfield 21, 3) := by decide +kernel
theorem xd_hi_pass_45 : decode xb_hi_pass 45 = .ok (.iaload, 1) := by decide +kernel
theorem xd_hi_pass_46 : decode xb_hi_pass 46 = .ok (.iload_n 3, 1) := by decide +kernel
theorem xd_hi_pass_47 : decode xb_hi_pass 47 = .ok (.if_icmp .eq 5, 3) := by decide +kernel
theorem xd_hi_pass_50 : decode xb_hi_pass 50 = .ok (.iconst 0, 1) := by decide +kernel
theorem xd_hi_pass_51 : decode xb_hi_pass 51 = .ok (.ireturn, 1) := by decide +kernel
theorem xd_hi_pass_52 : decode xb_hi_pass 52 = .ok (.aload_n 0, 1) := by decide +kernel
theorem xd_hi_pass_53 : decode xb_hi_pass 53 = .ok (.dup, 1) := by decide +kernel
theorem xd_hi_pass_54 : decode xb_hi_pass 54 = .ok (.getfield 21, 3) := by decide +kernel
theorem xd_hi_pass_57 : decode xb_hi_pass 57 = .ok (.iconst 1, 1) := by decide +kernel
theorem xd_hi_pass_58 : decode xb_hi_pass 58 = .ok (.iadd, 1) := by decide +kernel
theorem xd_hi_pass_59 : decode xb_hi_pass 59 = .ok (.putfield 21, 3) := by decide +kernel
theorem xd_hi_pass_62 : decode xb_hi_pass 62 = .ok (.iconst 1, 1) := by decide +kernel
theorem xd_hi_pass_63 : decode xb_hi_pass 63 = .ok (.ireturn, 1) := by decide +kernel
theorem xd_hi_pass_64 : decode xb_hi_pass 64 = .ok (.aload_n 0, 1) := by decide +kernel
theorem xd_hi_pass_65 : decode xb_hi_pass 65 = .ok (.getfield 25, 3) := by decide +kernel
theorem xd_hi_pass_68 : decode xb_hi_pass 68 = .ok (.bipush 20, 2) := by decide +kernel
theorem xd_hi_pass_70 : decode xb_hi_pass 70 = .ok (.if_icmp .lt 5, 3) := by decide +kernel
theorem xd_hi_pass_73 : decode xb_hi_pass 73 = .ok (.iconst 0, 1) := by decide +kernel
theorem xd_hi_pass_74 : decode xb_hi_pass 74 = .ok (.ireturn, 1) := by decide +kernel
theorem xd_hi_pass_75 : decode xb_hi_pass 75 = .ok (.aload_n 0, 1) := by decide +kernel
theorem xd_hi_pass_76 : decode xb_hi_pass 76 = .ok (.getfield 9, 3) := by decide +kernel
theorem xd_hi_pass_79 : decode xb_hi_pass 79 = .ok (.aload_n 0, 1) := by decide +kernel
theorem xd_hi_pass_80 : decode xb_hi_pass 80 = .ok (.getfield 25, 3) := by decide +kernel
theorem xd_hi_pass_83 : decode xb_hi_pass 83 = .ok (.iload_n 1, 1) := by decide +kernel
theorem xd_hi_pass_84 : decode xb_hi_pass 84 = .ok (.iastore, 1) := by decide +kernel
theorem xd_hi_pass_85 : decode xb_hi_pass 85 = .ok (.aload_n 0, 1) := by decide +kernel
theorem xd_hi_pass_86 : decode xb_hi_pass 86 = .ok (.getfield 15, 3) := by decide +kernel
theorem xd_hi_pass_89 : decode xb_hi_pass 89 = .ok (.aload_n 0, 1) := by decide +kernel
theorem xd_hi_pass_90 : decode xb_hi_pass 90 = .ok (.getfield 25, 3) := by decide +kernel
theorem xd_hi_pass_93 : decode xb_hi_pass 93 = .ok (.iload_n 2, 1) := by decide +kernel
theorem xd_hi_pass_94 : decode xb_hi_pass 94 = .ok (.iastore, 1) := by decide +kernel
theorem xd_hi_pass_95 : decode xb_hi_pass 95 = .ok (.aload_n 0, 1) := by decide +kernel
theorem xd_hi_pass_96 : decode xb_hi_pass 96 = .ok (.getfield 18, 3) := by decide +kernel
theorem xd_hi_pass_99 : decode xb_hi_pass 99 = .ok (.aload_n 0, 1) := by decide +kernel
theorem xd_hi_pass_100 : decode xb_hi_pass 100 = .ok (.getfield 25, 3) := by decide +kernel
theorem xd_hi_pass_103 : decode xb_hi_pass 103 = .ok (.iload_n 3, 1) := by decide +kernel
theorem xd_hi_pass_104 : decode xb_hi_pass 104 = .ok (.iastore, 1) := by decide +kernel
theorem xd_hi_pass_105 : decode xb_hi_pass 105 = .ok (.aload_n 0, 1) := by decide +kernel
theorem xd_hi_pass_106 : decode xb_hi_pass 106 = .ok (.dup, 1) := by decide +kernel
theorem xd_hi_pass_107 : decode xb_hi_pass 107 = .ok (.getfield 25, 3) := by decide +kernel
theorem xd_hi_pass_110 : decode xb_hi_pass 110 = .ok (.iconst 1, 1) := by decide +kernel
theorem xd_hi_pass_111 : decode xb_hi_pass 111 = .ok (.iadd, 1) := by decide +kernel
theorem xd_hi_pass_112 : decode xb_hi_pass 112 = .ok (.putfield 25, 3) := by decide +kernel
theorem xd_hi_pass_115 : decode xb_hi_pass 115 = .ok (.aload_n 0, 1) := by decide +kernel
theorem xd_hi_pass_116 : decode xb_hi_pass 116 = .ok (.aload_n 0, 1) := by decide +kernel
theorem xd_hi_pass_117 : decode xb_hi_pass 117 = .ok (.getfield 25, 3) := by decide +kernel
theorem xd_hi_pass_120 : decode xb_hi_pass 120 = .ok (.putfield 21, 3) := by decide +kernel
theorem xd_hi_pass_123 : decode xb_hi_pass 123 = .ok (.iconst 1, 1) := by decide +kernel
theorem xd_hi_pass_124 : decode xb_hi_pass 124 = .ok (.ireturn, 1) := by decide +kernel
theorem xd_hi_isLeft_0 : decode xb_hi_isLeft 0 = .ok (.aload_n 0, 1) := by decide +kernel
theorem xd_hi_isLeft_1 : decode xb_hi_isLeft 1 = .ok (.getfield 21, 3) := by decide +kernel
theorem xd_hi_isLeft_4 : decode xb_hi_isLeft 4 = .ok (.aload_n 0, 1) := by decide +kernel
theorem xd_hi_isLeft_5 : decode xb_hi_isLeft 5 = .ok (.getfield 25, 3) := by decide +kernel
theorem xd_hi_isLeft_8 : decode xb_hi_isLeft 8 = .ok (.if_icmp .ge 7, 3) := by decide +kernel
theorem xd_hi_isLeft_11 : decode xb_hi_isLeft 11 = .ok (.iconst 1, 1) := by decide +kernel
theorem xd_hi_isLeft_12 : decode xb_hi_isLeft 12 = .ok (.goto 4, 3) := by decide +kernel
theorem xd_hi_isLeft_15 : decode xb_hi_isLeft 15 = .ok (.iconst 0, 1) := by decide +kernel
theorem xd_hi_isLeft_16 : decode xb_hi_isLeft 16 = .ok (.ireturn, 1) := by decide +kernel
theorem xd_ke_init_0 : decode xb_ke_init 0 = .ok (.aload_n 0, 1) := by decide +kernel
theorem xd_ke_init_1 : decode xb_ke_init 1 = .ok (.invokespecial 3, 3) := by decide +kernel
theorem xd_ke_init_4 : decode xb_ke_init 4 = .ok (.aload_n 0, 1) := by decide +kernel
theorem xd_ke_init_5 : decode xb_ke_init 5 = .ok (.iconst 4, 1) := by decide +kernel
theorem xd_ke_init_6 : decode xb_ke_init 6 = .ok (.newarray .int, 2) := by decide +kernel
theorem xd_ke_init_8 : decode xb_ke_init 8 = .ok (.putfield 9, 3) := by decide +kernel
theorem xd_ke_init_11 : decode xb_ke_init 11 = .ok (.aload_n 0, 1) := by decide +kernel
theorem xd_ke_init_12 : decode xb_ke_init 12 = .ok (.iconst 4, 1) := by decide +kernel
theorem xd_ke_init_13 : decode xb_ke_init 13 = .ok (.newarray .int, 2) := by decide +kernel
theorem xd_ke_init_15 : decode xb_ke_init 15 = .ok (.putfield 15, 3) := by decide +kernel
theorem xd_ke_init_18 : decode xb_ke_init 18 = .ok (.return_, 1) := by decide +kernel
theorem xd_ke_oldest_0 : decode xb_ke_oldest 0 = .ok (.iconst 0, 1) := by decide +kernel
theorem xd_ke_oldest_1 : decode xb_ke_oldest 1 = .ok (.istore_n 2, 1) := by decide +kernel
theorem xd_ke_oldest_2 : decode xb_ke_oldest 2 = .ok (.iload_n 2, 1) := by decide +kernel
theorem xd_ke_oldest_3 : decode xb_ke_oldest 3 = .ok (.aload_n 0, 1) := by decide +kernel
theorem xd_ke_oldest_4 : decode xb_ke_oldest 4 = .ok (.getfield 18, 3) := by decide +kernel
theorem xd_ke_oldest_7 : decode xb_ke_oldest 7 = .ok (.if_icmp .ge 21, 3) := by decide +kernel
theorem xd_ke_oldest_10 : decode xb_ke_oldest 10 = .ok (.aload_n 0, 1) := by decide +kernel
theorem xd_ke_oldest_11 : decode xb_ke_oldest 11 = .ok (.getfield 9, 3) := by decide +kernel
theorem xd_ke_oldest_14 : decode xb_ke_oldest 14 = .ok (.iload_n 2, 1) := by decide +kernel
theorem xd_ke_oldest_15 : decode xb_ke_oldest 15 = .ok (.iaload, 1) := by decide +kernel
theorem xd_ke_oldest_16 : decode xb_ke_oldest 16 = .ok (.iload_n 1, 1) := by decide +kernel
theorem xd_ke_oldest_17 : decode xb_ke_oldest 17 = .ok (.if_icmp .ne 5, 3) := by decide +kernel
theorem xd_ke_oldest_20 : decode xb_ke_oldest 20 = .ok (.iload_n 2, 1) := by decide +kernel
theorem xd_ke_oldest_21 : decode xb_ke_oldest 21 = .ok (.ireturn, 1) := by decide +kernel
theorem xd_ke_oldest_22 : decode xb_ke_oldest 22 = .ok (.iinc 2 1, 3) := by decide +kernel
theorem xd_ke_oldest_25 : decode xb_ke_oldest 25 = .ok (.goto (-23), 3) := by decide +kernel
theorem xd_ke_oldest_28 : decode xb_ke_oldest 28 = .ok (.iconst (-1), 1) := by decide +kernel
theorem xd_ke_oldest_29 : decode xb_ke_oldest 29 = .ok (.ireturn, 1) := by decide +kernel
theorem xd_ke_drop_0 : decode xb_ke_drop 0 = .ok (.iload_n 1, 1) := by decide +kernel
theorem xd_ke_drop_1 : decode xb_ke_drop 1 = .ok (.ifCond .lt 11, 3) := by decide +kernel
theorem xd_ke_drop_4 : decode xb_ke_drop 4 = .ok (.iload_n 1, 1) := by decide +kernel
theorem xd_ke_drop_5 : decode xb_ke_drop 5 = .ok (.aload_n 0, 1) := by decide +kernel
theorem xd_ke_drop_6 : decode xb_ke_drop 6 = .ok (.getfield 18, 3) := by decide +kernel
theorem xd_ke_drop_9 : decode xb_ke_drop 9 = .ok (.if_icmp .lt 4, 3) := by decide +kernel
theorem xd_ke_drop_12 : decode xb_ke_drop 12 = .ok (.return_, 1) := by decide +kernel
theorem xd_ke_drop_13 : decode xb_ke_drop 13 = .ok (.iload_n 1, 1) := by decide +kernel
theorem xd_ke_drop_14 : decode xb_ke_drop 14 = .ok (.istore_n 2, 1) := by decide +kernel
theorem xd_ke_drop_15 : decode xb_ke_drop 15 = .ok (.iload_n 2, 1) := by decide +kernel
theorem xd_ke_drop_16 : decode xb_ke_drop 16 = .ok (.iconst 1, 1) := by decide +kernel
theorem xd_ke_drop_17 : decode xb_ke_drop 17 = .ok (.iadd, 1) := by decide +kernel
theorem xd_ke_drop_18 : decode xb_ke_drop 18 = .ok (.aload_n 0, 1) := by decide +kernel
theorem xd_ke_drop_19 : decode xb_ke_drop 19 = .ok (.getfield 18, 3) := by decide +kernel
theorem xd_ke_drop_22 : decode xb_ke_drop 22 = .ok (.if_icmp .ge 37, 3) := by decide +kernel
theorem xd_ke_drop_25 : decode xb_ke_drop 25 = .ok (.aload_n 0, 1) := by decide +kernel
theorem xd_ke_drop_26 : decode xb_ke_drop 26 = .ok (.getfield 9, 3) := by decide +kernel
theorem xd_ke_drop_29 : decode xb_ke_drop 29 = .ok (.iload_n 2, 1) := by decide +kernel
theorem xd_ke_drop_30 : decode xb_ke_drop 30 = .ok (.aload_n 0, 1) := by decide +kernel
theorem xd_ke_drop_31 : decode xb_ke_drop 31 = .ok (.getfield 9, 3) := by decide +kernel
theorem xd_ke_drop_34 : decode xb_ke_drop 34 = .ok (.iload_n 2, 1) := by decide +kernel
theorem xd_ke_drop_35 : decode xb_ke_drop 35 = .ok (.iconst 1, 1) := by decide +kernel
theorem xd_ke_drop_36 : decode xb_ke_drop 36 = .ok (.iadd, 1) := by decide +kernel
theorem xd_ke_drop_37 : decode xb_ke_drop 37 = .ok (.iaload, 1) := by decide +kernel
theorem xd_ke_drop_38 : decode xb_ke_drop 38 = .ok (.iastore, 1) := by decide +kernel
theorem xd_ke_drop_39 : decode xb_ke_drop 39 = .ok (.aload_n 0, 1) := by decide +kernel
theorem xd_ke_drop_40 : decode xb_ke_drop 40 = .ok (.getfield 15, 3) := by decide +kernel
theorem xd_ke_drop_43 : decode xb_ke_drop 43 = .ok (.iload_n 2, 1) := by decide +kernel
theorem xd_ke_drop_44 : decode xb_ke_drop 44 = .ok (.aload_n 0, 1) := by decide +kernel
theorem xd_ke_drop_45 : decode xb_ke_drop 45 = .ok (.getfield 15, 3) := by decide +kernel
theorem xd_ke_drop_48 : decode xb_ke_drop 48 = .ok (.iload_n 2, 1) := by decide +kernel
theorem xd_ke_drop_49 : decode xb_ke_drop 49 = .ok (.iconst 1, 1) := by decide +kernel
theorem xd_ke_drop_50 : decode xb_ke_drop 50 = .ok (.iadd, 1) := by decide +kernel
theorem xd_ke_drop_51 : decode xb_ke_drop 51 = .ok (.iaload, 1) := by decide +kernel
theorem xd_ke_drop_52 : decode xb_ke_drop 52 = .ok (.iastore, 1) := by decide +kernel
theorem xd_ke_drop_53 : decode xb_ke_drop 53 = .ok (.iinc 2 1, 3) := by decide +kernel
theorem xd_ke_drop_56 : decode xb_ke_drop 56 = .ok (.goto (-41), 3) := by decide +kernel
theorem xd_ke_drop_59 : decode xb_ke_drop 59 = .ok (.aload_n 0, 1) := by decide +kernel
theorem xd_ke_drop_60 : decode xb_ke_drop 60 = .ok (.dup, 1) := by decide +kernel
theorem xd_ke_drop_61 : decode xb_ke_drop 61 = .ok (.getfield 18, 3) := by decide +kernel
theorem xd_ke_drop_64 : decode xb_ke_drop 64 = .ok (.iconst 1, 1) := by decide +kernel
theorem xd_ke_drop_65 : decode xb_ke_drop 65 = .ok (.isub, 1) := by decide +kernel
theorem xd_ke_drop_66 : decode xb_ke_drop 66 = .ok (.putfield 18, 3) := by decide +kernel
theorem xd_ke_drop_69 : decode xb_ke_drop 69 = .ok (.return_, 1) := by decide +kernel
theorem xd_ke_isFull_0 : decode xb_ke_isFull 0 = .ok (.aload_n 0, 1) := by decide +kernel
theorem xd_ke_isFull_1 : decode xb_ke_isFull 1 = .ok (.getfield 18, 3) := by decide +kernel
theorem xd_ke_isFull_4 : decode xb_ke_isFull 4 = .ok (.iconst 4, 1) := by decide +kernel
theorem xd_ke_isFull_5 : decode xb_ke_isFull 5 = .ok (.if_icmp .lt 7, 3) := by decide +kernel
theorem xd_ke_isFull_8 : decode xb_ke_isFull 8 = .ok (.iconst 1, 1) := by decide +kernel
theorem xd_ke_isFull_9 : decode xb_ke_isFull 9 = .ok (.goto 4, 3) := by decide +kernel
theorem xd_ke_isFull_12 : decode xb_ke_isFull 12 = .ok (.iconst 0, 1) := by decide +kernel
theorem xd_ke_isFull_13 : decode xb_ke_isFull 13 = .ok (.ireturn, 1) := by decide +kernel
theorem xd_ke_keep_0 : decode xb_ke_keep 0 = .ok (.aload_n 0, 1) := by decide +kernel
theorem xd_ke_keep_1 : decode xb_ke_keep 1 = .ok (.invokevirtual 22, 3) := by decide +kernel
theorem xd_ke_keep_4 : decode xb_ke_keep 4 = .ok (.ifCond .ne 33, 3) := by decide +kernel
theorem xd_ke_keep_7 : decode xb_ke_keep 7 = .ok (.aload_n 0, 1) := by decide +kernel
theorem xd_ke_keep_8 : decode xb_ke_keep 8 = .ok (.getfield 9, 3) := by decide +kernel
theorem xd_ke_keep_11 : decode xb_ke_keep 11 = .ok (.aload_n 0, 1) := by decide +kernel
theorem xd_ke_keep_12 : decode xb_ke_keep 12 = .ok (.getfield 18, 3) := by decide +kernel
theorem xd_ke_keep_15 : decode xb_ke_keep 15 = .ok (.iload_n 1, 1) := by decide +kernel
theorem xd_ke_keep_16 : decode xb_ke_keep 16 = .ok (.iastore, 1) := by decide +kernel
theorem xd_ke_keep_17 : decode xb_ke_keep 17 = .ok (.aload_n 0, 1) := by decide +kernel
theorem xd_ke_keep_18 : decode xb_ke_keep 18 = .ok (.getfield 15, 3) := by decide +kernel
theorem xd_ke_keep_21 : decode xb_ke_keep 21 = .ok (.aload_n 0, 1) := by decide +kernel
theorem xd_ke_keep_22 : decode xb_ke_keep 22 = .ok (.getfield 18, 3) := by decide +kernel
theorem xd_ke_keep_25 : decode xb_ke_keep 25 = .ok (.iload_n 2, 1) := by decide +kernel
theorem xd_ke_keep_26 : decode xb_ke_keep 26 = .ok (.iastore, 1) := by decide +kernel
theorem xd_ke_keep_27 : decode xb_ke_keep 27 = .ok (.aload_n 0, 1) := by decide +kernel
theorem xd_ke_keep_28 : decode xb_ke_keep 28 = .ok (.dup, 1) := by decide +kernel
theorem xd_ke_keep_29 : decode xb_ke_keep 29 = .ok (.getfield 18, 3) := by decide +kernel
theorem xd_ke_keep_32 : decode xb_ke_keep 32 = .ok (.iconst 1, 1) := by decide +kernel
theorem xd_ke_keep_33 : decode xb_ke_keep 33 = .ok (.iadd, 1) := by decide +kernel
theorem xd_ke_keep_34 : decode xb_ke_keep 34 = .ok (.putfield 18, 3) := by decide +kernel
theorem xd_ke_keep_37 : decode xb_ke_keep 37 = .ok (.return_, 1) := by decide +kernel
theorem xd_pr_init_0 : decode xb_pr_init 0 = .ok (.aload_n 0, 1) := by decide +kernel
theorem xd_pr_init_1 : decode xb_pr_init 1 = .ok (.invokespecial 3, 3) := by decide +kernel
theorem xd_pr_init_4 : decode xb_pr_init 4 = .ok (.aload_n 0, 1) := by decide +kernel
theorem xd_pr_init_5 : decode xb_pr_init 5 = .ok (.bipush 14, 2) := by decide +kernel
theorem xd_pr_init_7 : decode xb_pr_init 7 = .ok (.newarray .int, 2) := by decide +kernel
theorem xd_pr_init_9 : decode xb_pr_init 9 = .ok (.putfield 9, 3) := by decide +kernel
theorem xd_pr_init_12 : decode xb_pr_init 12 = .ok (.aload_n 0, 1) := by decide +kernel
theorem xd_pr_init_13 : decode xb_pr_init 13 = .ok (.bipush 14, 2) := by decide +kernel
theorem xd_pr_init_15 : decode xb_pr_init 15 = .ok (.newarray .int, 2) := by decide +kernel
theorem xd_pr_init_17 : decode xb_pr_init 17 = .ok (.putfield 15, 3) := by decide +kernel
theorem xd_pr_init_20 : decode xb_pr_init 20 = .ok (.aload_n 0, 1) := by decide +kernel
theorem xd_pr_init_21 : decode xb_pr_init 21 = .ok (.bipush 14, 2) := by decide +kernel
theorem xd_pr_init_23 : decode xb_pr_init 23 = .ok (.newarray .int, 2) := by decide +kernel
theorem xd_pr_init_25 : decode xb_pr_init 25 = .ok (.putfield 18, 3) := by decide +kernel
theorem xd_pr_init_28 : decode xb_pr_init 28 = .ok (.return_, 1) := by decide +kernel
theorem xd_pr_put_0 : decode xb_pr_put 0 = .ok (.aload_n 0, 1) := by decide +kernel
theorem xd_pr_put_1 : decode xb_pr_put 1 = .ok (.iload_n 1, 1) := by decide +kernel
theorem xd_pr_put_2 : decode xb_pr_put 2 = .ok (.invokevirtual 25, 3) := by decide +kernel
theorem xd_pr_put_5 : decode xb_pr_put 5 = .ok (.ifCond .eq 25, 3) := by decide +kernel
theorem xd_pr_put_8 : decode xb_pr_put 8 = .ok (.aload_n 0, 1) := by decide +kernel
theorem xd_pr_put_9 : decode xb_pr_put 9 = .ok (.getfield 9, 3) := by decide +kernel
theorem xd_pr_put_12 : decode xb_pr_put 12 = .ok (.iload_n 1, 1) := by decide +kernel
theorem xd_pr_put_13 : decode xb_pr_put 13 = .ok (.iload_n 2, 1) := by decide +kernel
theorem xd_pr_put_14 : decode xb_pr_put 14 = .ok (.iastore, 1) := by decide +kernel
theorem xd_pr_put_15 : decode xb_pr_put 15 = .ok (.aload_n 0, 1) := by decide +kernel
theorem xd_pr_put_16 : decode xb_pr_put 16 = .ok (.getfield 15, 3) := by decide +kernel
theorem xd_pr_put_19 : decode xb_pr_put 19 = .ok (.iload_n 1, 1) := by decide +kernel
theorem xd_pr_put_20 : decode xb_pr_put 20 = .ok (.iload_n 3, 1) := by decide +kernel
theorem xd_pr_put_21 : decode xb_pr_put 21 = .ok (.iastore, 1) := by decide +kernel
theorem xd_pr_put_22 : decode xb_pr_put 22 = .ok (.aload_n 0, 1) := by decide +kernel
theorem xd_pr_put_23 : decode xb_pr_put 23 = .ok (.getfield 18, 3) := by decide +kernel
theorem xd_pr_put_26 : decode xb_pr_put 26 = .ok (.iload_n 1, 1) := by decide +kernel
theorem xd_pr_put_27 : decode xb_pr_put 27 = .ok (.iload 4, 2) := by decide +kernel
theorem xd_pr_put_29 : decode xb_pr_put 29 = .ok (.iastore, 1) := by decide +kernel
theorem xd_pr_put_30 : decode xb_pr_put 30 = .ok (.return_, 1) := by decide +kernel
theorem xd_pr_has_0 : decode xb_pr_has 0 = .ok (.iload_n 1, 1) := by decide +kernel
theorem xd_pr_has_1 : decode xb_pr_has 1 = .ok (.ifCond .lt 15, 3) := by decide +kernel
theorem xd_pr_has_4 : decode xb_pr_has 4 = .ok (.iload_n 1, 1) := by decide +kernel
theorem xd_pr_has_5 : decode xb_pr_has 5 = .ok (.aload_n 0, 1) := by decide +kernel
theorem xd_pr_has_6 : decode xb_pr_has 6 = .ok (.getfield 21, 3) := by decide +kernel
theorem xd_pr_has_9 : decode xb_pr_has 9 = .ok (.if_icmp .ge 7, 3) := by decide +kernel
theorem xd_pr_has_12 : decode xb_pr_has 12 = .ok (.iconst 1, 1) := by decide +kernel
theorem xd_pr_has_13 : decode xb_pr_has 13 = .ok (.goto 4, 3) := by decide +kernel
theorem xd_pr_has_16 : decode xb_pr_has 16 = .ok (.iconst 0, 1) := by decide +kernel
theorem xd_pr_has_17 : decode xb_pr_has 17 = .ok (.ireturn, 1) := by decide +kernel
theorem xd_pr_opAt_0 : decode xb_pr_opAt 0 = .ok (.aload_n 0, 1) := by decide +kernel
theorem xd_pr_opAt_1 : decode xb_pr_opAt 1 = .ok (.iload_n 1, 1) := by decide +kernel
theorem xd_pr_opAt_2 : decode xb_pr_opAt 2 = .ok (.invokevirtual 25, 3) := by decide +kernel
theorem xd_pr_opAt_5 : decode xb_pr_opAt 5 = .ok (.ifCond .eq 12, 3) := by decide +kernel
theorem xd_pr_opAt_8 : decode xb_pr_opAt 8 = .ok (.aload_n 0, 1) := by decide +kernel
theorem xd_pr_opAt_9 : decode xb_pr_opAt 9 = .ok (.getfield 9, 3) := by decide +kernel
theorem xd_pr_opAt_12 : decode xb_pr_opAt 12 = .ok (.iload_n 1, 1) := by decide +kernel
theorem xd_pr_opAt_13 : decode xb_pr_opAt 13 = .ok (.iaload, 1) := by decide +kernel
theorem xd_pr_opAt_14 : decode xb_pr_opAt 14 = .ok (.goto 5, 3) := by decide +kernel
theorem xd_pr_opAt_17 : decode xb_pr_opAt 17 = .ok (.bipush 10, 2) := by decide +kernel
theorem xd_pr_opAt_19 : decode xb_pr_opAt 19 = .ok (.ireturn, 1) := by decide +kernel
theorem xd_pr_firstAt_0 : decode xb_pr_firstAt 0 = .ok (.aload_n 0, 1) := by decide +kernel
theorem xd_pr_firstAt_1 : decode xb_pr_firstAt 1 = .ok (.iload_n 1, 1) := by decide +kernel
theorem xd_pr_firstAt_2 : decode xb_pr_firstAt 2 = .ok (.invokevirtual 25, 3) := by decide +kernel
theorem xd_pr_firstAt_5 : decode xb_pr_firstAt 5 = .ok (.ifCond .eq 12, 3) := by decide +kernel
theorem xd_pr_firstAt_8 : decode xb_pr_firstAt 8 = .ok (.aload_n 0, 1) := by decide +kernel
theorem xd_pr_firstAt_9 : decode xb_pr_firstAt 9 = .ok (.getfield 15, 3) := by decide +kernel
theorem xd_pr_firstAt_12 : decode xb_pr_firstAt 12 = .ok (.iload_n 1, 1) := by decide +kernel
theorem xd_pr_firstAt_13 : decode xb_pr_firstAt 13 = .ok (.iaload, 1) := by decide +kernel
theorem xd_pr_firstAt_14 : decode xb_pr_firstAt 14 = .ok (.goto 4, 3) := by decide +kernel
theorem xd_pr_firstAt_17 : decode xb_pr_firstAt 17 = .ok (.iconst 0, 1) := by decide +kernel
theorem xd_pr_firstAt_18 : decode xb_pr_firstAt 18 = .ok (.ireturn, 1) := by decide +kernel
theorem xd_pr_secondAt_0 : decode xb_pr_secondAt 0 = .ok (.aload_n 0, 1) := by decide +kernel
theorem xd_pr_secondAt_1 : decode xb_pr_secondAt 1 = .ok (.iload_n 1, 1) := by decide +kernel
theorem xd_pr_secondAt_2 : decode xb_pr_secondAt 2 = .ok (.invokevirtual 25, 3) := by decide +kernel
theorem xd_pr_secondAt_5 : decode xb_pr_secondAt 5 = .ok (.ifCond .eq 12, 3) := by decide +kernel
theorem xd_pr_secondAt_8 : decode xb_pr_secondAt 8 = .ok (.aload_n 0, 1) := by decide +kernel
theorem xd_pr_secondAt_9 : decode xb_pr_secondAt 9 = .ok (.getfield 18, 3) := by decide +kernel
theorem xd_pr_secondAt_12 : decode xb_pr_secondAt 12 = .ok (.iload_n 1, 1) := by decide +kernel
theorem xd_pr_secondAt_13 : decode xb_pr_secondAt 13 = .ok (.iaload, 1) := by decide +kernel
theorem xd_pr_secondAt_14 : decode xb_pr_secondAt 14 = .ok (.goto 4, 3) := by decide +kernel
theorem xd_pr_secondAt_17 : decode xb_pr_secondAt 17 = .ok (.iconst 0, 1) := by decide +kernel
theorem xd_pr_secondAt_18 : decode xb_pr_secondAt 18 = .ok (.ireturn, 1) := by decide +kernel
theorem xd_ta_init_0 : decode xb_ta_init 0 = .ok (.aload_n 0, 1) := by decide +kernel
theorem xd_ta_init_1 : decode xb_ta_init 1 = .ok (.invokespecial 3, 3) := by decide +kernel
theorem xd_ta_init_4 : decode xb_ta_init 4 = .ok (.return_, 1) := by decide +kernel
theorem xd_ta_renew_0 : decode xb_ta_renew 0 = .ok (.aload_n 0, 1) := by decide +kernel
theorem xd_ta_renew_1 : decode xb_ta_renew 1 = .ok (.iload_n 1, 1) := by decide +kernel
theorem xd_ta_renew_2 : decode xb_ta_renew 2 = .ok (.putfield 9, 3) := by decide +kernel
theorem xd_ta_renew_5 : decode xb_ta_renew 5 = .ok (.aload_n 0, 1) := by decide +kernel
theorem xd_ta_renew_6 : decode xb_ta_renew 6 = .ok (.iconst 0, 1) := by decide +kernel
theorem xd_ta_renew_7 : decode xb_ta_renew 7 = .ok (.putfield 15, 3) := by decide +kernel
theorem xd_ta_renew_10 : decode xb_ta_renew 10 = .ok (.aload_n 0, 1) := by decide +kernel
theorem xd_ta_renew_11 : decode xb_ta_renew 11 = .ok (.iconst 0, 1) := by decide +kernel
theorem xd_ta_renew_12 : decode xb_ta_renew 12 = .ok (.putfield 18, 3) := by decide +kernel
theorem xd_ta_renew_15 : decode xb_ta_renew 15 = .ok (.aload_n 0, 1) := by decide +kernel
theorem xd_ta_renew_16 : decode xb_ta_renew 16 = .ok (.iconst 0, 1) := by decide +kernel
theorem xd_ta_renew_17 : decode xb_ta_renew 17 = .ok (.putfield 22, 3) := by decide +kernel
theorem xd_ta_renew_20 : decode xb_ta_renew 20 = .ok (.aload_n 0, 1) := by decide +kernel
theorem xd_ta_renew_21 : decode xb_ta_renew 21 = .ok (.iconst 0, 1) := by decide +kernel
theorem xd_ta_renew_22 : decode xb_ta_renew 22 = .ok (.putfield 25, 3) := by decide +kernel
theorem xd_ta_renew_25 : decode xb_ta_renew 25 = .ok (.return_, 1) := by decide +kernel
theorem xd_ta_goOut_0 : decode xb_ta_goOut 0 = .ok (.aload_n 0, 1) := by decide +kernel
theorem xd_ta_goOut_1 : decode xb_ta_goOut 1 = .ok (.iconst 1, 1) := by decide +kernel
theorem xd_ta_goOut_2 : decode xb_ta_goOut 2 = .ok (.putfield 18, 3) := by decide +kernel
theorem xd_ta_goOut_5 : decode xb_ta_goOut 5 = .ok (.aload_n 0, 1) := by decide +kernel
theorem xd_ta_goOut_6 : decode xb_ta_goOut 6 = .ok (.dup, 1) := by decide +kernel
theorem xd_ta_goOut_7 : decode xb_ta_goOut 7 = .ok (.getfield 15, 3) := by decide +kernel
theorem xd_ta_goOut_10 : decode xb_ta_goOut 10 = .ok (.iconst 1, 1) := by decide +kernel
theorem xd_ta_goOut_11 : decode xb_ta_goOut 11 = .ok (.iadd, 1) := by decide +kernel
theorem xd_ta_goOut_12 : decode xb_ta_goOut 12 = .ok (.putfield 15, 3) := by decide +kernel
theorem xd_ta_goOut_15 : decode xb_ta_goOut 15 = .ok (.aload_n 0, 1) := by decide +kernel
theorem xd_ta_goOut_16 : decode xb_ta_goOut 16 = .ok (.iload_n 1, 1) := by decide +kernel
theorem xd_ta_goOut_17 : decode xb_ta_goOut 17 = .ok (.putfield 22, 3) := by decide +kernel
theorem xd_ta_goOut_20 : decode xb_ta_goOut 20 = .ok (.return_, 1) := by decide +kernel
