theorem md_fm_forget_0 : decode mb_fm_forget 0 = .ok (.aload_n 0, 1) := by decide +kernel
theorem md_fm_forget_1 : decode mb_fm_forget 1 = .ok (.iload_n 1, 1) := by decide +kernel
theorem md_fm_forget_2 : decode mb_fm_forget 2 = .ok (.invokevirtual 195, 3) := by decide +kernel
theorem md_fm_forget_5 : decode mb_fm_forget 5 = .ok (.ifCond .eq 20, 3) := by decide +kernel
theorem md_fm_forget_8 : decode mb_fm_forget 8 = .ok (.aload_n 0, 1) := by decide +kernel
theorem md_fm_forget_9 : decode mb_fm_forget 9 = .ok (.iload_n 1, 1) := by decide +kernel
theorem md_fm_forget_10 : decode mb_fm_forget 10 = .ok (.invokevirtual 191, 3) := by decide +kernel
theorem md_fm_forget_13 : decode mb_fm_forget 13 = .ok (.ifCond .ne 12, 3) := by decide +kernel
theorem md_fm_forget_16 : decode mb_fm_forget 16 = .ok (.aload_n 0, 1) := by decide +kernel
theorem md_fm_forget_17 : decode mb_fm_forget 17 = .ok (.getfield 26, 3) := by decide +kernel
theorem md_fm_forget_20 : decode mb_fm_forget 20 = .ok (.iload_n 1, 1) := by decide +kernel
theorem md_fm_forget_21 : decode mb_fm_forget 21 = .ok (.baload, 1) := by decide +kernel
theorem md_fm_forget_22 : decode mb_fm_forget 22 = .ok (.ifCond .eq 5, 3) := by decide +kernel
theorem md_fm_forget_25 : decode mb_fm_forget 25 = .ok (.iconst 0, 1) := by decide +kernel
theorem md_fm_forget_26 : decode mb_fm_forget 26 = .ok (.ireturn, 1) := by decide +kernel
theorem md_fm_forget_27 : decode mb_fm_forget 27 = .ok (.aload_n 0, 1) := by decide +kernel
theorem md_fm_forget_28 : decode mb_fm_forget 28 = .ok (.getfield 26, 3) := by decide +kernel
theorem md_fm_forget_31 : decode mb_fm_forget 31 = .ok (.iload_n 1, 1) := by decide +kernel
theorem md_fm_forget_32 : decode mb_fm_forget 32 = .ok (.iconst 1, 1) := by decide +kernel
theorem md_fm_forget_33 : decode mb_fm_forget 33 = .ok (.bastore, 1) := by decide +kernel
theorem md_fm_forget_34 : decode mb_fm_forget 34 = .ok (.iconst 1, 1) := by decide +kernel
theorem md_fm_forget_35 : decode mb_fm_forget 35 = .ok (.ireturn, 1) := by decide +kernel
theorem md_fm_flow_0 : decode mb_fm_flow 0 = .ok (.iload_n 1, 1) := by decide +kernel
theorem md_fm_flow_1 : decode mb_fm_flow 1 = .ok (.iconst 0, 1) := by decide +kernel
theorem md_fm_flow_2 : decode mb_fm_flow 2 = .ok (.iconst 5, 1) := by decide +kernel
theorem md_fm_flow_3 : decode mb_fm_flow 3 = .ok (.invokestatic 111, 3) := by decide +kernel
theorem md_fm_flow_6 : decode mb_fm_flow 6 = .ok (.ifCond .eq 13, 3) := by decide +kernel
theorem md_fm_flow_9 : decode mb_fm_flow 9 = .ok (.iload_n 2, 1) := by decide +kernel
theorem md_fm_flow_10 : decode mb_fm_flow 10 = .ok (.iconst 0, 1) := by decide +kernel
theorem md_fm_flow_11 : decode mb_fm_flow 11 = .ok (.bipush 13, 2) := by decide +kernel
theorem md_fm_flow_13 : decode mb_fm_flow 13 = .ok (.invokestatic 111, 3) := by decide +kernel
theorem md_fm_flow_16 : decode mb_fm_flow 16 = .ok (.ifCond .ne 5, 3) := by decide +kernel
theorem md_fm_flow_19 : decode mb_fm_flow 19 = .ok (.iconst (-1), 1) := by decide +kernel
theorem md_fm_flow_20 : decode mb_fm_flow 20 = .ok (.ireturn, 1) := by decide +kernel
theorem md_fm_flow_21 : decode mb_fm_flow 21 = .ok (.aload_n 0, 1) := by decide +kernel
theorem md_fm_flow_22 : decode mb_fm_flow 22 = .ok (.getfield 22, 3) := by decide +kernel
theorem md_fm_flow_25 : decode mb_fm_flow 25 = .ok (.iload_n 1, 1) := by decide +kernel
theorem md_fm_flow_26 : decode mb_fm_flow 26 = .ok (.baload, 1) := by decide +kernel
theorem md_fm_flow_27 : decode mb_fm_flow 27 = .ok (.ifCond .ne 5, 3) := by decide +kernel
theorem md_fm_flow_30 : decode mb_fm_flow 30 = .ok (.iconst 0, 1) := by decide +kernel
theorem md_fm_flow_31 : decode mb_fm_flow 31 = .ok (.ireturn, 1) := by decide +kernel
theorem md_fm_flow_32 : decode mb_fm_flow 32 = .ok (.aload_n 0, 1) := by decide +kernel
theorem md_fm_flow_33 : decode mb_fm_flow 33 = .ok (.getfield 26, 3) := by decide +kernel
theorem md_fm_flow_36 : decode mb_fm_flow 36 = .ok (.iload_n 1, 1) := by decide +kernel
theorem md_fm_flow_37 : decode mb_fm_flow 37 = .ok (.baload, 1) := by decide +kernel
theorem md_fm_flow_38 : decode mb_fm_flow 38 = .ok (.ifCond .ne 11, 3) := by decide +kernel
theorem md_fm_flow_41 : decode mb_fm_flow 41 = .ok (.aload_n 0, 1) := by decide +kernel
theorem md_fm_flow_42 : decode mb_fm_flow 42 = .ok (.iload_n 1, 1) := by decide +kernel
theorem md_fm_flow_43 : decode mb_fm_flow 43 = .ok (.invokevirtual 191, 3) := by decide +kernel
theorem md_fm_flow_46 : decode mb_fm_flow 46 = .ok (.ifCond .eq 7, 3) := by decide +kernel
theorem md_fm_flow_49 : decode mb_fm_flow 49 = .ok (.iconst 1, 1) := by decide +kernel
theorem md_fm_flow_50 : decode mb_fm_flow 50 = .ok (.goto 4, 3) := by decide +kernel
theorem md_fm_flow_53 : decode mb_fm_flow 53 = .ok (.iconst 0, 1) := by decide +kernel
theorem md_fm_flow_54 : decode mb_fm_flow 54 = .ok (.istore_n 3, 1) := by decide +kernel
theorem md_fm_flow_55 : decode mb_fm_flow 55 = .ok (.iload_n 2, 1) := by decide +kernel
theorem md_fm_flow_56 : decode mb_fm_flow 56 = .ok (.tableswitch 174 0 9 #[56, 63, 70, 77, 93, 109, 130, 137, 152, 159], 56) := by decide +kernel
theorem md_fm_flow_112 : decode mb_fm_flow 112 = .ok (.aload_n 0, 1) := by decide +kernel
theorem md_fm_flow_113 : decode mb_fm_flow 113 = .ok (.getfield 38, 3) := by decide +kernel
theorem md_fm_flow_116 : decode mb_fm_flow 116 = .ok (.iload_n 1, 1) := by decide +kernel
theorem md_fm_flow_117 : decode mb_fm_flow 117 = .ok (.iaload, 1) := by decide +kernel
theorem md_fm_flow_118 : decode mb_fm_flow 118 = .ok (.ireturn, 1) := by decide +kernel
theorem md_fm_flow_119 : decode mb_fm_flow 119 = .ok (.aload_n 0, 1) := by decide +kernel
theorem md_fm_flow_120 : decode mb_fm_flow 120 = .ok (.getfield 35, 3) := by decide +kernel
theorem md_fm_flow_123 : decode mb_fm_flow 123 = .ok (.iload_n 1, 1) := by decide +kernel
theorem md_fm_flow_124 : decode mb_fm_flow 124 = .ok (.iaload, 1) := by decide +kernel
theorem md_fm_flow_125 : decode mb_fm_flow 125 = .ok (.ireturn, 1) := by decide +kernel
theorem md_fm_flow_126 : decode mb_fm_flow 126 = .ok (.aload_n 0, 1) := by decide +kernel
theorem md_fm_flow_127 : decode mb_fm_flow 127 = .ok (.getfield 53, 3) := by decide +kernel
theorem md_fm_flow_130 : decode mb_fm_flow 130 = .ok (.iload_n 1, 1) := by decide +kernel
theorem md_fm_flow_131 : decode mb_fm_flow 131 = .ok (.iaload, 1) := by decide +kernel
theorem md_fm_flow_132 : decode mb_fm_flow 132 = .ok (.ireturn, 1) := by decide +kernel
theorem md_fm_flow_133 : decode mb_fm_flow 133 = .ok (.iload_n 3, 1) := by decide +kernel
theorem md_fm_flow_134 : decode mb_fm_flow 134 = .ok (.ifCond .eq 8, 3) := by decide +kernel
theorem md_fm_flow_137 : decode mb_fm_flow 137 = .ok (.bipush (-2), 2) := by decide +kernel
theorem md_fm_flow_139 : decode mb_fm_flow 139 = .ok (.goto 9, 3) := by decide +kernel
theorem md_fm_flow_142 : decode mb_fm_flow 142 = .ok (.aload_n 0, 1) := by decide +kernel
theorem md_fm_flow_143 : decode mb_fm_flow 143 = .ok (.getfield 41, 3) := by decide +kernel
theorem md_fm_flow_146 : decode mb_fm_flow 146 = .ok (.iload_n 1, 1) := by decide +kernel
theorem md_fm_flow_147 : decode mb_fm_flow 147 = .ok (.iaload, 1) := by decide +kernel
theorem md_fm_flow_148 : decode mb_fm_flow 148 = .ok (.ireturn, 1) := by decide +kernel
theorem md_fm_flow_149 : decode mb_fm_flow 149 = .ok (.iload_n 3, 1) := by decide +kernel
theorem md_fm_flow_150 : decode mb_fm_flow 150 = .ok (.ifCond .eq 8, 3) := by decide +kernel
theorem md_fm_flow_153 : decode mb_fm_flow 153 = .ok (.bipush (-2), 2) := by decide +kernel
theorem md_fm_flow_155 : decode mb_fm_flow 155 = .ok (.goto 9, 3) := by decide +kernel
theorem md_fm_flow_158 : decode mb_fm_flow 158 = .ok (.aload_n 0, 1) := by decide +kernel
theorem md_fm_flow_159 : decode mb_fm_flow 159 = .ok (.getfield 68, 3) := by decide +kernel
theorem md_fm_flow_162 : decode mb_fm_flow 162 = .ok (.iload_n 1, 1) := by decide +kernel
theorem md_fm_flow_163 : decode mb_fm_flow 163 = .ok (.iaload, 1) := by decide +kernel
theorem md_fm_flow_164 : decode mb_fm_flow 164 = .ok (.ireturn, 1) := by decide +kernel
theorem md_fm_flow_165 : decode mb_fm_flow 165 = .ok (.aload_n 0, 1) := by decide +kernel
theorem md_fm_flow_166 : decode mb_fm_flow 166 = .ok (.getfield 38, 3) := by decide +kernel
theorem md_fm_flow_169 : decode mb_fm_flow 169 = .ok (.iload_n 1, 1) := by decide +kernel
theorem md_fm_flow_170 : decode mb_fm_flow 170 = .ok (.iaload, 1) := by decide +kernel
theorem md_fm_flow_171 : decode mb_fm_flow 171 = .ok (.iconst 5, 1) := by decide +kernel
theorem md_fm_flow_172 : decode mb_fm_flow 172 = .ok (.if_icmp .ne 12, 3) := by decide +kernel
theorem md_fm_flow_175 : decode mb_fm_flow 175 = .ok (.aload_n 0, 1) := by decide +kernel
theorem md_fm_flow_176 : decode mb_fm_flow 176 = .ok (.getfield 47, 3) := by decide +kernel
theorem md_fm_flow_179 : decode mb_fm_flow 179 = .ok (.iload_n 1, 1) := by decide +kernel
theorem md_fm_flow_180 : decode mb_fm_flow 180 = .ok (.iaload, 1) := by decide +kernel
theorem md_fm_flow_181 : decode mb_fm_flow 181 = .ok (.goto 4, 3) := by decide +kernel
theorem md_fm_flow_184 : decode mb_fm_flow 184 = .ok (.iconst 0, 1) := by decide +kernel
theorem md_fm_flow_185 : decode mb_fm_flow 185 = .ok (.ireturn, 1) := by decide +kernel
theorem md_fm_flow_186 : decode mb_fm_flow 186 = .ok (.aload_n 0, 1) := by decide +kernel
theorem md_fm_flow_187 : decode mb_fm_flow 187 = .ok (.getfield 77, 3) := by decide +kernel
theorem md_fm_flow_190 : decode mb_fm_flow 190 = .ok (.iload_n 1, 1) := by decide +kernel
theorem md_fm_flow_191 : decode mb_fm_flow 191 = .ok (.iaload, 1) := by decide +kernel
theorem md_fm_flow_192 : decode mb_fm_flow 192 = .ok (.ireturn, 1) := by decide +kernel
theorem md_fm_flow_193 : decode mb_fm_flow 193 = .ok (.aload_n 0, 1) := by decide +kernel
theorem md_fm_flow_194 : decode mb_fm_flow 194 = .ok (.getfield 26, 3) := by decide +kernel
theorem md_fm_flow_197 : decode mb_fm_flow 197 = .ok (.iload_n 1, 1) := by decide +kernel
theorem md_fm_flow_198 : decode mb_fm_flow 198 = .ok (.baload, 1) := by decide +kernel
theorem md_fm_flow_199 : decode mb_fm_flow 199 = .ok (.ifCond .eq 7, 3) := by decide +kernel
theorem md_fm_flow_202 : decode mb_fm_flow 202 = .ok (.iconst 1, 1) := by decide +kernel
theorem md_fm_flow_203 : decode mb_fm_flow 203 = .ok (.goto 4, 3) := by decide +kernel
theorem md_fm_flow_206 : decode mb_fm_flow 206 = .ok (.iconst 0, 1) := by decide +kernel
theorem md_fm_flow_207 : decode mb_fm_flow 207 = .ok (.ireturn, 1) := by decide +kernel
theorem md_fm_flow_208 : decode mb_fm_flow 208 = .ok (.aload_n 0, 1) := by decide +kernel
theorem md_fm_flow_209 : decode mb_fm_flow 209 = .ok (.getfield 96, 3) := by decide +kernel
theorem md_fm_flow_212 : decode mb_fm_flow 212 = .ok (.iload_n 1, 1) := by decide +kernel
theorem md_fm_flow_213 : decode mb_fm_flow 213 = .ok (.iaload, 1) := by decide +kernel
theorem md_fm_flow_214 : decode mb_fm_flow 214 = .ok (.ireturn, 1) := by decide +kernel
theorem md_fm_flow_215 : decode mb_fm_flow 215 = .ok (.aload_n 0, 1) := by decide +kernel
theorem md_fm_flow_216 : decode mb_fm_flow 216 = .ok (.getfield 29, 3) := by decide +kernel
theorem md_fm_flow_219 : decode mb_fm_flow 219 = .ok (.iload_n 1, 1) := by decide +kernel
theorem md_fm_flow_220 : decode mb_fm_flow 220 = .ok (.baload, 1) := by decide +kernel
theorem md_fm_flow_221 : decode mb_fm_flow 221 = .ok (.ifCond .eq 7, 3) := by decide +kernel
theorem md_fm_flow_224 : decode mb_fm_flow 224 = .ok (.iconst 1, 1) := by decide +kernel
theorem md_fm_flow_225 : decode mb_fm_flow 225 = .ok (.goto 4, 3) := by decide +kernel
theorem md_fm_flow_228 : decode mb_fm_flow 228 = .ok (.iconst 0, 1) := by decide +kernel
theorem md_fm_flow_229 : decode mb_fm_flow 229 = .ok (.ireturn, 1) := by decide +kernel
theorem md_fm_flow_230 : decode mb_fm_flow 230 = .ok (.aload_n 0, 1) := by decide +kernel
theorem md_fm_flow_231 : decode mb_fm_flow 231 = .ok (.getfield 26, 3) := by decide +kernel
theorem md_fm_flow_234 : decode mb_fm_flow 234 = .ok (.iload_n 1, 1) := by decide +kernel
theorem md_fm_flow_235 : decode mb_fm_flow 235 = .ok (.baload, 1) := by decide +kernel
theorem md_fm_flow_236 : decode mb_fm_flow 236 = .ok (.ifCond .eq 7, 3) := by decide +kernel
theorem md_fm_flow_239 : decode mb_fm_flow 239 = .ok (.iconst 0, 1) := by decide +kernel
theorem md_fm_flow_240 : decode mb_fm_flow 240 = .ok (.goto 16, 3) := by decide +kernel
theorem md_fm_flow_243 : decode mb_fm_flow 243 = .ok (.aload_n 0, 1) := by decide +kernel
theorem md_fm_flow_244 : decode mb_fm_flow 244 = .ok (.getfield 50, 3) := by decide +kernel
theorem md_fm_flow_247 : decode mb_fm_flow 247 = .ok (.iconst 4, 1) := by decide +kernel
theorem md_fm_flow_248 : decode mb_fm_flow 248 = .ok (.iload_n 1, 1) := by decide +kernel
theorem md_fm_flow_249 : decode mb_fm_flow 249 = .ok (.imul, 1) := by decide +kernel
theorem md_fm_flow_250 : decode mb_fm_flow 250 = .ok (.iload_n 2, 1) := by decide +kernel
theorem md_fm_flow_251 : decode mb_fm_flow 251 = .ok (.iadd, 1) := by decide +kernel
theorem md_fm_flow_252 : decode mb_fm_flow 252 = .ok (.bipush 10, 2) := by decide +kernel
theorem md_fm_flow_254 : decode mb_fm_flow 254 = .ok (.isub, 1) := by decide +kernel
theorem md_fm_flow_255 : decode mb_fm_flow 255 = .ok (.iaload, 1) := by decide +kernel
theorem md_fm_flow_256 : decode mb_fm_flow 256 = .ok (.ireturn, 1) := by decide +kernel
theorem md_fm_entry_0 : decode mb_fm_entry 0 = .ok (.iload_n 1, 1) := by decide +kernel
theorem md_fm_entry_1 : decode mb_fm_entry 1 = .ok (.iconst 0, 1) := by decide +kernel
theorem md_fm_entry_2 : decode mb_fm_entry 2 = .ok (.iconst 5, 1) := by decide +kernel
theorem md_fm_entry_3 : decode mb_fm_entry 3 = .ok (.invokestatic 111, 3) := by decide +kernel
theorem md_fm_entry_6 : decode mb_fm_entry 6 = .ok (.ifCond .eq 12, 3) := by decide +kernel
theorem md_fm_entry_9 : decode mb_fm_entry 9 = .ok (.iload_n 3, 1) := by decide +kernel
theorem md_fm_entry_10 : decode mb_fm_entry 10 = .ok (.iconst 0, 1) := by decide +kernel
theorem md_fm_entry_11 : decode mb_fm_entry 11 = .ok (.iconst 2, 1) := by decide +kernel
theorem md_fm_entry_12 : decode mb_fm_entry 12 = .ok (.invokestatic 111, 3) := by decide +kernel
theorem md_fm_entry_15 : decode mb_fm_entry 15 = .ok (.ifCond .ne 5, 3) := by decide +kernel
theorem md_fm_entry_18 : decode mb_fm_entry 18 = .ok (.iconst (-1), 1) := by decide +kernel
theorem md_fm_entry_19 : decode mb_fm_entry 19 = .ok (.ireturn, 1) := by decide +kernel
theorem md_fm_entry_20 : decode mb_fm_entry 20 = .ok (.aload_n 0, 1) := by decide +kernel
theorem md_fm_entry_21 : decode mb_fm_entry 21 = .ok (.getfield 22, 3) := by decide +kernel
theorem md_fm_entry_24 : decode mb_fm_entry 24 = .ok (.iload_n 1, 1) := by decide +kernel
theorem md_fm_entry_25 : decode mb_fm_entry 25 = .ok (.baload, 1) := by decide +kernel
theorem md_fm_entry_26 : decode mb_fm_entry 26 = .ok (.ifCond .eq 19, 3) := by decide +kernel
theorem md_fm_entry_29 : decode mb_fm_entry 29 = .ok (.iload_n 2, 1) := by decide +kernel
theorem md_fm_entry_30 : decode mb_fm_entry 30 = .ok (.iconst 0, 1) := by decide +kernel
theorem md_fm_entry_31 : decode mb_fm_entry 31 = .ok (.aload_n 0, 1) := by decide +kernel
theorem md_fm_entry_32 : decode mb_fm_entry 32 = .ok (.getfield 53, 3) := by decide +kernel
theorem md_fm_entry_35 : decode mb_fm_entry 35 = .ok (.iload_n 1, 1) := by decide +kernel
theorem md_fm_entry_36 : decode mb_fm_entry 36 = .ok (.iaload, 1) := by decide +kernel
theorem md_fm_entry_37 : decode mb_fm_entry 37 = .ok (.iconst 1, 1) := by decide +kernel
theorem md_fm_entry_38 : decode mb_fm_entry 38 = .ok (.isub, 1) := by decide +kernel
theorem md_fm_entry_39 : decode mb_fm_entry 39 = .ok (.invokestatic 111, 3) := by decide +kernel
theorem md_fm_entry_42 : decode mb_fm_entry 42 = .ok (.ifCond .ne 6, 3) := by decide +kernel
theorem md_fm_entry_45 : decode mb_fm_entry 45 = .ok (.bipush (-2), 2) := by decide +kernel
theorem md_fm_entry_47 : decode mb_fm_entry 47 = .ok (.ireturn, 1) := by decide +kernel
theorem md_fm_entry_48 : decode mb_fm_entry 48 = .ok (.bipush 20, 2) := by decide +kernel
theorem md_fm_entry_50 : decode mb_fm_entry 50 = .ok (.iload_n 1, 1) := by decide +kernel
theorem md_fm_entry_51 : decode mb_fm_entry 51 = .ok (.imul, 1) := by decide +kernel
theorem md_fm_entry_52 : decode mb_fm_entry 52 = .ok (.iload_n 2, 1) := by decide +kernel
theorem md_fm_entry_53 : decode mb_fm_entry 53 = .ok (.iadd, 1) := by decide +kernel
theorem md_fm_entry_54 : decode mb_fm_entry 54 = .ok (.istore 4, 2) := by decide +kernel
theorem md_fm_entry_56 : decode mb_fm_entry 56 = .ok (.iload_n 3, 1) := by decide +kernel
theorem md_fm_entry_57 : decode mb_fm_entry 57 = .ok (.ifCond .ne 13, 3) := by decide +kernel
theorem md_fm_entry_60 : decode mb_fm_entry 60 = .ok (.aload_n 0, 1) := by decide +kernel
theorem md_fm_entry_61 : decode mb_fm_entry 61 = .ok (.getfield 59, 3) := by decide +kernel
theorem md_fm_entry_64 : decode mb_fm_entry 64 = .ok (.iload 4, 2) := by decide +kernel
theorem md_fm_entry_66 : decode mb_fm_entry 66 = .ok (.iaload, 1) := by decide +kernel
theorem md_fm_entry_67 : decode mb_fm_entry 67 = .ok (.goto 25, 3) := by decide +kernel
theorem md_fm_entry_70 : decode mb_fm_entry 70 = .ok (.iload_n 3, 1) := by decide +kernel
theorem md_fm_entry_71 : decode mb_fm_entry 71 = .ok (.iconst 1, 1) := by decide +kernel
theorem md_fm_entry_72 : decode mb_fm_entry 72 = .ok (.if_icmp .ne 13, 3) := by decide +kernel
theorem md_fm_entry_75 : decode mb_fm_entry 75 = .ok (.aload_n 0, 1) := by decide +kernel
theorem md_fm_entry_76 : decode mb_fm_entry 76 = .ok (.getfield 62, 3) := by decide +kernel
theorem md_fm_entry_79 : decode mb_fm_entry 79 = .ok (.iload 4, 2) := by decide +kernel
theorem md_fm_entry_81 : decode mb_fm_entry 81 = .ok (.iaload, 1) := by decide +kernel
theorem md_fm_entry_82 : decode mb_fm_entry 82 = .ok (.goto 10, 3) := by decide +kernel
theorem md_fm_entry_85 : decode mb_fm_entry 85 = .ok (.aload_n 0, 1) := by decide +kernel
theorem md_fm_entry_86 : decode mb_fm_entry 86 = .ok (.getfield 65, 3) := by decide +kernel
theorem md_fm_entry_89 : decode mb_fm_entry 89 = .ok (.iload 4, 2) := by decide +kernel
theorem md_fm_entry_91 : decode mb_fm_entry 91 = .ok (.iaload, 1) := by decide +kernel
theorem md_fm_entry_92 : decode mb_fm_entry 92 = .ok (.ireturn, 1) := by decide +kernel
theorem md_fm_line_0 : decode mb_fm_line 0 = .ok (.iload_n 1, 1) := by decide +kernel
theorem md_fm_line_1 : decode mb_fm_line 1 = .ok (.iconst (-1), 1) := by decide +kernel
theorem md_fm_line_2 : decode mb_fm_line 2 = .ok (.if_icmp .ne 10, 3) := by decide +kernel
theorem md_fm_line_5 : decode mb_fm_line 5 = .ok (.aload_n 0, 1) := by decide +kernel
theorem md_fm_line_6 : decode mb_fm_line 6 = .ok (.getfield 126, 3) := by decide +kernel
theorem md_fm_line_9 : decode mb_fm_line 9 = .ok (.goto 28, 3) := by decide +kernel
theorem md_fm_line_12 : decode mb_fm_line 12 = .ok (.iload_n 1, 1) := by decide +kernel
theorem md_fm_line_13 : decode mb_fm_line 13 = .ok (.iconst 0, 1) := by decide +kernel
theorem md_fm_line_14 : decode mb_fm_line 14 = .ok (.aload_n 0, 1) := by decide +kernel
theorem md_fm_line_15 : decode mb_fm_line 15 = .ok (.getfield 126, 3) := by decide +kernel
theorem md_fm_line_18 : decode mb_fm_line 18 = .ok (.iconst 1, 1) := by decide +kernel
theorem md_fm_line_19 : decode mb_fm_line 19 = .ok (.isub, 1) := by decide +kernel
theorem md_fm_line_20 : decode mb_fm_line 20 = .ok (.invokestatic 111, 3) := by decide +kernel
theorem md_fm_line_23 : decode mb_fm_line 23 = .ok (.ifCond .eq 12, 3) := by decide +kernel
theorem md_fm_line_26 : decode mb_fm_line 26 = .ok (.aload_n 0, 1) := by decide +kernel
theorem md_fm_line_27 : decode mb_fm_line 27 = .ok (.getfield 105, 3) := by decide +kernel
theorem md_fm_line_30 : decode mb_fm_line 30 = .ok (.iload_n 1, 1) := by decide +kernel
theorem md_fm_line_31 : decode mb_fm_line 31 = .ok (.iaload, 1) := by decide +kernel
theorem md_fm_line_32 : decode mb_fm_line 32 = .ok (.goto 5, 3) := by decide +kernel
theorem md_fm_line_35 : decode mb_fm_line 35 = .ok (.bipush (-2), 2) := by decide +kernel
theorem md_fm_line_37 : decode mb_fm_line 37 = .ok (.ireturn, 1) := by decide +kernel
theorem md_fm_count_0 : decode mb_fm_count 0 = .ok (.iload_n 1, 1) := by decide +kernel
theorem md_fm_count_1 : decode mb_fm_count 1 = .ok (.bipush 10, 2) := by decide +kernel
theorem md_fm_count_3 : decode mb_fm_count 3 = .ok (.bipush 12, 2) := by decide +kernel
theorem md_fm_count_5 : decode mb_fm_count 5 = .ok (.invokestatic 111, 3) := by decide +kernel
theorem md_fm_count_8 : decode mb_fm_count 8 = .ok (.ifCond .eq 13, 3) := by decide +kernel
theorem md_fm_count_11 : decode mb_fm_count 11 = .ok (.aload_n 0, 1) := by decide +kernel
theorem md_fm_count_12 : decode mb_fm_count 12 = .ok (.getfield 19, 3) := by decide +kernel
theorem md_fm_count_15 : decode mb_fm_count 15 = .ok (.iload_n 1, 1) := by decide +kernel
theorem md_fm_count_16 : decode mb_fm_count 16 = .ok (.bipush 10, 2) := by decide +kernel
theorem md_fm_count_18 : decode mb_fm_count 18 = .ok (.isub, 1) := by decide +kernel
theorem md_fm_count_19 : decode mb_fm_count 19 = .ok (.iaload, 1) := by decide +kernel
theorem md_fm_count_20 : decode mb_fm_count 20 = .ok (.ireturn, 1) := by decide +kernel
theorem md_fm_count_21 : decode mb_fm_count 21 = .ok (.iload_n 1, 1) := by decide +kernel
theorem md_fm_count_22 : decode mb_fm_count 22 = .ok (.iconst 0, 1) := by decide +kernel
theorem md_fm_count_23 : decode mb_fm_count 23 = .ok (.bipush 9, 2) := by decide +kernel
theorem md_fm_count_25 : decode mb_fm_count 25 = .ok (.invokestatic 111, 3) := by decide +kernel
theorem md_fm_count_28 : decode mb_fm_count 28 = .ok (.ifCond .ne 5, 3) := by decide +kernel
theorem md_fm_count_31 : decode mb_fm_count 31 = .ok (.iconst (-1), 1) := by decide +kernel
theorem md_fm_count_32 : decode mb_fm_count 32 = .ok (.ireturn, 1) := by decide +kernel
theorem md_fm_count_33 : decode mb_fm_count 33 = .ok (.iload_n 1, 1) := by decide +kernel
theorem md_fm_count_34 : decode mb_fm_count 34 = .ok (.ifCond .ne 10, 3) := by decide +kernel
theorem md_fm_count_37 : decode mb_fm_count 37 = .ok (.aload_n 0, 1) := by decide +kernel
theorem md_fm_count_38 : decode mb_fm_count 38 = .ok (.getfield 136, 3) := by decide +kernel
theorem md_fm_count_41 : decode mb_fm_count 41 = .ok (.goto 31, 3) := by decide +kernel
theorem md_fm_count_44 : decode mb_fm_count 44 = .ok (.iload_n 1, 1) := by decide +kernel
theorem md_fm_count_45 : decode mb_fm_count 45 = .ok (.iconst 3, 1) := by decide +kernel
theorem md_fm_count_46 : decode mb_fm_count 46 = .ok (.if_icmp .ge 20, 3) := by decide +kernel
theorem md_fm_count_49 : decode mb_fm_count 49 = .ok (.aload_n 0, 1) := by decide +kernel
theorem md_fm_count_50 : decode mb_fm_count 50 = .ok (.iload_n 1, 1) := by decide +kernel
theorem md_fm_count_51 : decode mb_fm_count 51 = .ok (.iconst 2, 1) := by decide +kernel
theorem md_fm_count_52 : decode mb_fm_count 52 = .ok (.if_icmp .ne 7, 3) := by decide +kernel
theorem md_fm_count_55 : decode mb_fm_count 55 = .ok (.iconst 1, 1) := by decide +kernel
theorem md_fm_count_56 : decode mb_fm_count 56 = .ok (.goto 4, 3) := by decide +kernel
theorem md_fm_count_59 : decode mb_fm_count 59 = .ok (.iconst 0, 1) := by decide +kernel
theorem md_fm_count_60 : decode mb_fm_count 60 = .ok (.invokevirtual 204, 3) := by decide +kernel
theorem md_fm_count_63 : decode mb_fm_count 63 = .ok (.goto 9, 3) := by decide +kernel
theorem md_fm_count_66 : decode mb_fm_count 66 = .ok (.aload_n 0, 1) := by decide +kernel
theorem md_fm_count_67 : decode mb_fm_count 67 = .ok (.getfield 108, 3) := by decide +kernel
theorem md_fm_count_70 : decode mb_fm_count 70 = .ok (.iload_n 1, 1) := by decide +kernel
theorem md_fm_count_71 : decode mb_fm_count 71 = .ok (.iaload, 1) := by decide +kernel
theorem md_fm_count_72 : decode mb_fm_count 72 = .ok (.ireturn, 1) := by decide +kernel
theorem md_fm_flows_0 : decode mb_fm_flows 0 = .ok (.iconst 0, 1) := by decide +kernel
theorem md_fm_flows_1 : decode mb_fm_flows 1 = .ok (.istore_n 2, 1) := by decide +kernel
theorem md_fm_flows_2 : decode mb_fm_flows 2 = .ok (.iconst 0, 1) := by decide +kernel
theorem md_fm_flows_3 : decode mb_fm_flows 3 = .ok (.istore_n 3, 1) := by decide +kernel
theorem md_fm_flows_4 : decode mb_fm_flows 4 = .ok (.iload_n 3, 1) := by decide +kernel
theorem md_fm_flows_5 : decode mb_fm_flows 5 = .ok (.bipush 6, 2) := by decide +kernel
theorem md_fm_flows_7 : decode mb_fm_flows 7 = .ok (.if_icmp .ge 35, 3) := by decide +kernel
theorem md_fm_flows_10 : decode mb_fm_flows 10 = .ok (.aload_n 0, 1) := by decide +kernel
theorem md_fm_flows_11 : decode mb_fm_flows 11 = .ok (.getfield 22, 3) := by decide +kernel
theorem md_fm_flows_14 : decode mb_fm_flows 14 = .ok (.iload_n 3, 1) := by decide +kernel
theorem md_fm_flows_15 : decode mb_fm_flows 15 = .ok (.baload, 1) := by decide +kernel
theorem md_fm_flows_16 : decode mb_fm_flows 16 = .ok (.ifCond .eq 20, 3) := by decide +kernel
theorem md_fm_flows_19 : decode mb_fm_flows 19 = .ok (.iload_n 1, 1) := by decide +kernel
theorem md_fm_flows_20 : decode mb_fm_flows 20 = .ok (.ifCond .eq 13, 3) := by decide +kernel
theorem md_fm_flows_23 : decode mb_fm_flows 23 = .ok (.aload_n 0, 1) := by decide +kernel
theorem md_fm_flows_24 : decode mb_fm_flows 24 = .ok (.getfield 38, 3) := by decide +kernel
theorem md_fm_flows_27 : decode mb_fm_flows 27 = .ok (.iload_n 3, 1) := by decide +kernel
theorem md_fm_flows_28 : decode mb_fm_flows 28 = .ok (.iaload, 1) := by decide +kernel
theorem md_fm_flows_29 : decode mb_fm_flows 29 = .ok (.iconst 5, 1) := by decide +kernel
theorem md_fm_flows_30 : decode mb_fm_flows 30 = .ok (.if_icmp .ge 6, 3) := by decide +kernel
theorem md_fm_flows_33 : decode mb_fm_flows 33 = .ok (.iinc 2 1, 3) := by decide +kernel
theorem md_fm_flows_36 : decode mb_fm_flows 36 = .ok (.iinc 3 1, 3) := by decide +kernel
theorem md_fm_flows_39 : decode mb_fm_flows 39 = .ok (.goto (-35), 3) := by decide +kernel
theorem md_fm_flows_42 : decode mb_fm_flows 42 = .ok (.iload_n 2, 1) := by decide +kernel
theorem md_fm_flows_43 : decode mb_fm_flows 43 = .ok (.ireturn, 1) := by decide +kernel
