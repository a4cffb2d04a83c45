theorem md_fm_init_0 : decode mb_fm_init 0 = .ok (.aload_n 0, 1) := by decide +kernel
theorem md_fm_init_1 : decode mb_fm_init 1 = .ok (.invokespecial 1, 3) := by decide +kernel
theorem md_fm_init_4 : decode mb_fm_init 4 = .ok (.aload_n 0, 1) := by decide +kernel
theorem md_fm_init_5 : decode mb_fm_init 5 = .ok (.bipush 42, 2) := by decide +kernel
theorem md_fm_init_7 : decode mb_fm_init 7 = .ok (.newarray .int, 2) := by decide +kernel
theorem md_fm_init_9 : decode mb_fm_init 9 = .ok (.putfield 7, 3) := by decide +kernel
theorem md_fm_init_12 : decode mb_fm_init 12 = .ok (.aload_n 0, 1) := by decide +kernel
theorem md_fm_init_13 : decode mb_fm_init 13 = .ok (.bipush 42, 2) := by decide +kernel
theorem md_fm_init_15 : decode mb_fm_init 15 = .ok (.newarray .int, 2) := by decide +kernel
theorem md_fm_init_17 : decode mb_fm_init 17 = .ok (.putfield 13, 3) := by decide +kernel
theorem md_fm_init_20 : decode mb_fm_init 20 = .ok (.aload_n 0, 1) := by decide +kernel
theorem md_fm_init_21 : decode mb_fm_init 21 = .ok (.bipush 42, 2) := by decide +kernel
theorem md_fm_init_23 : decode mb_fm_init 23 = .ok (.newarray .int, 2) := by decide +kernel
theorem md_fm_init_25 : decode mb_fm_init 25 = .ok (.putfield 16, 3) := by decide +kernel
theorem md_fm_init_28 : decode mb_fm_init 28 = .ok (.aload_n 0, 1) := by decide +kernel
theorem md_fm_init_29 : decode mb_fm_init 29 = .ok (.iconst 3, 1) := by decide +kernel
theorem md_fm_init_30 : decode mb_fm_init 30 = .ok (.newarray .int, 2) := by decide +kernel
theorem md_fm_init_32 : decode mb_fm_init 32 = .ok (.putfield 19, 3) := by decide +kernel
theorem md_fm_init_35 : decode mb_fm_init 35 = .ok (.aload_n 0, 1) := by decide +kernel
theorem md_fm_init_36 : decode mb_fm_init 36 = .ok (.bipush 6, 2) := by decide +kernel
theorem md_fm_init_38 : decode mb_fm_init 38 = .ok (.newarray .boolean, 2) := by decide +kernel
theorem md_fm_init_40 : decode mb_fm_init 40 = .ok (.putfield 22, 3) := by decide +kernel
theorem md_fm_init_43 : decode mb_fm_init 43 = .ok (.aload_n 0, 1) := by decide +kernel
theorem md_fm_init_44 : decode mb_fm_init 44 = .ok (.bipush 6, 2) := by decide +kernel
theorem md_fm_init_46 : decode mb_fm_init 46 = .ok (.newarray .boolean, 2) := by decide +kernel
theorem md_fm_init_48 : decode mb_fm_init 48 = .ok (.putfield 26, 3) := by decide +kernel
theorem md_fm_init_51 : decode mb_fm_init 51 = .ok (.aload_n 0, 1) := by decide +kernel
theorem md_fm_init_52 : decode mb_fm_init 52 = .ok (.bipush 6, 2) := by decide +kernel
theorem md_fm_init_54 : decode mb_fm_init 54 = .ok (.newarray .boolean, 2) := by decide +kernel
theorem md_fm_init_56 : decode mb_fm_init 56 = .ok (.putfield 29, 3) := by decide +kernel
theorem md_fm_init_59 : decode mb_fm_init 59 = .ok (.aload_n 0, 1) := by decide +kernel
theorem md_fm_init_60 : decode mb_fm_init 60 = .ok (.bipush 6, 2) := by decide +kernel
theorem md_fm_init_62 : decode mb_fm_init 62 = .ok (.newarray .boolean, 2) := by decide +kernel
theorem md_fm_init_64 : decode mb_fm_init 64 = .ok (.putfield 32, 3) := by decide +kernel
theorem md_fm_init_67 : decode mb_fm_init 67 = .ok (.aload_n 0, 1) := by decide +kernel
theorem md_fm_init_68 : decode mb_fm_init 68 = .ok (.bipush 6, 2) := by decide +kernel
theorem md_fm_init_70 : decode mb_fm_init 70 = .ok (.newarray .int, 2) := by decide +kernel
theorem md_fm_init_72 : decode mb_fm_init 72 = .ok (.putfield 35, 3) := by decide +kernel
theorem md_fm_init_75 : decode mb_fm_init 75 = .ok (.aload_n 0, 1) := by decide +kernel
theorem md_fm_init_76 : decode mb_fm_init 76 = .ok (.bipush 6, 2) := by decide +kernel
theorem md_fm_init_78 : decode mb_fm_init 78 = .ok (.newarray .int, 2) := by decide +kernel
theorem md_fm_init_80 : decode mb_fm_init 80 = .ok (.putfield 38, 3) := by decide +kernel
theorem md_fm_init_83 : decode mb_fm_init 83 = .ok (.aload_n 0, 1) := by decide +kernel
theorem md_fm_init_84 : decode mb_fm_init 84 = .ok (.bipush 6, 2) := by decide +kernel
theorem md_fm_init_86 : decode mb_fm_init 86 = .ok (.newarray .int, 2) := by decide +kernel
theorem md_fm_init_88 : decode mb_fm_init 88 = .ok (.putfield 41, 3) := by decide +kernel
theorem md_fm_init_91 : decode mb_fm_init 91 = .ok (.aload_n 0, 1) := by decide +kernel
theorem md_fm_init_92 : decode mb_fm_init 92 = .ok (.bipush 6, 2) := by decide +kernel
theorem md_fm_init_94 : decode mb_fm_init 94 = .ok (.newarray .int, 2) := by decide +kernel
theorem md_fm_init_96 : decode mb_fm_init 96 = .ok (.putfield 44, 3) := by decide +kernel
theorem md_fm_init_99 : decode mb_fm_init 99 = .ok (.aload_n 0, 1) := by decide +kernel
theorem md_fm_init_100 : decode mb_fm_init 100 = .ok (.bipush 6, 2) := by decide +kernel
theorem md_fm_init_102 : decode mb_fm_init 102 = .ok (.newarray .int, 2) := by decide +kernel
theorem md_fm_init_104 : decode mb_fm_init 104 = .ok (.putfield 47, 3) := by decide +kernel
theorem md_fm_init_107 : decode mb_fm_init 107 = .ok (.aload_n 0, 1) := by decide +kernel
theorem md_fm_init_108 : decode mb_fm_init 108 = .ok (.bipush 24, 2) := by decide +kernel
theorem md_fm_init_110 : decode mb_fm_init 110 = .ok (.newarray .int, 2) := by decide +kernel
theorem md_fm_init_112 : decode mb_fm_init 112 = .ok (.putfield 50, 3) := by decide +kernel
theorem md_fm_init_115 : decode mb_fm_init 115 = .ok (.aload_n 0, 1) := by decide +kernel
theorem md_fm_init_116 : decode mb_fm_init 116 = .ok (.bipush 6, 2) := by decide +kernel
theorem md_fm_init_118 : decode mb_fm_init 118 = .ok (.newarray .int, 2) := by decide +kernel
theorem md_fm_init_120 : decode mb_fm_init 120 = .ok (.putfield 53, 3) := by decide +kernel
theorem md_fm_init_123 : decode mb_fm_init 123 = .ok (.aload_n 0, 1) := by decide +kernel
theorem md_fm_init_124 : decode mb_fm_init 124 = .ok (.bipush 6, 2) := by decide +kernel
theorem md_fm_init_126 : decode mb_fm_init 126 = .ok (.newarray .int, 2) := by decide +kernel
theorem md_fm_init_128 : decode mb_fm_init 128 = .ok (.putfield 56, 3) := by decide +kernel
theorem md_fm_init_131 : decode mb_fm_init 131 = .ok (.aload_n 0, 1) := by decide +kernel
theorem md_fm_init_132 : decode mb_fm_init 132 = .ok (.bipush 120, 2) := by decide +kernel
theorem md_fm_init_134 : decode mb_fm_init 134 = .ok (.newarray .int, 2) := by decide +kernel
theorem md_fm_init_136 : decode mb_fm_init 136 = .ok (.putfield 59, 3) := by decide +kernel
theorem md_fm_init_139 : decode mb_fm_init 139 = .ok (.aload_n 0, 1) := by decide +kernel
theorem md_fm_init_140 : decode mb_fm_init 140 = .ok (.bipush 120, 2) := by decide +kernel
theorem md_fm_init_142 : decode mb_fm_init 142 = .ok (.newarray .int, 2) := by decide +kernel
theorem md_fm_init_144 : decode mb_fm_init 144 = .ok (.putfield 62, 3) := by decide +kernel
theorem md_fm_init_147 : decode mb_fm_init 147 = .ok (.aload_n 0, 1) := by decide +kernel
theorem md_fm_init_148 : decode mb_fm_init 148 = .ok (.bipush 120, 2) := by decide +kernel
theorem md_fm_init_150 : decode mb_fm_init 150 = .ok (.newarray .int, 2) := by decide +kernel
theorem md_fm_init_152 : decode mb_fm_init 152 = .ok (.putfield 65, 3) := by decide +kernel
theorem md_fm_init_155 : decode mb_fm_init 155 = .ok (.aload_n 0, 1) := by decide +kernel
theorem md_fm_init_156 : decode mb_fm_init 156 = .ok (.bipush 6, 2) := by decide +kernel
theorem md_fm_init_158 : decode mb_fm_init 158 = .ok (.newarray .int, 2) := by decide +kernel
theorem md_fm_init_160 : decode mb_fm_init 160 = .ok (.putfield 68, 3) := by decide +kernel
theorem md_fm_init_163 : decode mb_fm_init 163 = .ok (.aload_n 0, 1) := by decide +kernel
theorem md_fm_init_164 : decode mb_fm_init 164 = .ok (.bipush 36, 2) := by decide +kernel
theorem md_fm_init_166 : decode mb_fm_init 166 = .ok (.newarray .int, 2) := by decide +kernel
theorem md_fm_init_168 : decode mb_fm_init 168 = .ok (.putfield 71, 3) := by decide +kernel
theorem md_fm_init_171 : decode mb_fm_init 171 = .ok (.aload_n 0, 1) := by decide +kernel
theorem md_fm_init_172 : decode mb_fm_init 172 = .ok (.bipush 36, 2) := by decide +kernel
theorem md_fm_init_174 : decode mb_fm_init 174 = .ok (.newarray .int, 2) := by decide +kernel
theorem md_fm_init_176 : decode mb_fm_init 176 = .ok (.putfield 74, 3) := by decide +kernel
theorem md_fm_init_179 : decode mb_fm_init 179 = .ok (.aload_n 0, 1) := by decide +kernel
theorem md_fm_init_180 : decode mb_fm_init 180 = .ok (.bipush 6, 2) := by decide +kernel
theorem md_fm_init_182 : decode mb_fm_init 182 = .ok (.newarray .int, 2) := by decide +kernel
theorem md_fm_init_184 : decode mb_fm_init 184 = .ok (.putfield 77, 3) := by decide +kernel
theorem md_fm_init_187 : decode mb_fm_init 187 = .ok (.aload_n 0, 1) := by decide +kernel
theorem md_fm_init_188 : decode mb_fm_init 188 = .ok (.bipush 24, 2) := by decide +kernel
theorem md_fm_init_190 : decode mb_fm_init 190 = .ok (.newarray .int, 2) := by decide +kernel
theorem md_fm_init_192 : decode mb_fm_init 192 = .ok (.putfield 80, 3) := by decide +kernel
theorem md_fm_init_195 : decode mb_fm_init 195 = .ok (.aload_n 0, 1) := by decide +kernel
theorem md_fm_init_196 : decode mb_fm_init 196 = .ok (.bipush 24, 2) := by decide +kernel
theorem md_fm_init_198 : decode mb_fm_init 198 = .ok (.newarray .int, 2) := by decide +kernel
theorem md_fm_init_200 : decode mb_fm_init 200 = .ok (.putfield 83, 3) := by decide +kernel
theorem md_fm_init_203 : decode mb_fm_init 203 = .ok (.aload_n 0, 1) := by decide +kernel
theorem md_fm_init_204 : decode mb_fm_init 204 = .ok (.bipush 6, 2) := by decide +kernel
theorem md_fm_init_206 : decode mb_fm_init 206 = .ok (.newarray .long, 2) := by decide +kernel
theorem md_fm_init_208 : decode mb_fm_init 208 = .ok (.putfield 86, 3) := by decide +kernel
theorem md_fm_init_211 : decode mb_fm_init 211 = .ok (.aload_n 0, 1) := by decide +kernel
theorem md_fm_init_212 : decode mb_fm_init 212 = .ok (.bipush 6, 2) := by decide +kernel
theorem md_fm_init_214 : decode mb_fm_init 214 = .ok (.newarray .int, 2) := by decide +kernel
theorem md_fm_init_216 : decode mb_fm_init 216 = .ok (.putfield 90, 3) := by decide +kernel
theorem md_fm_init_219 : decode mb_fm_init 219 = .ok (.aload_n 0, 1) := by decide +kernel
theorem md_fm_init_220 : decode mb_fm_init 220 = .ok (.bipush 6, 2) := by decide +kernel
theorem md_fm_init_222 : decode mb_fm_init 222 = .ok (.newarray .int, 2) := by decide +kernel
theorem md_fm_init_224 : decode mb_fm_init 224 = .ok (.putfield 93, 3) := by decide +kernel
theorem md_fm_init_227 : decode mb_fm_init 227 = .ok (.aload_n 0, 1) := by decide +kernel
theorem md_fm_init_228 : decode mb_fm_init 228 = .ok (.bipush 6, 2) := by decide +kernel
theorem md_fm_init_230 : decode mb_fm_init 230 = .ok (.newarray .int, 2) := by decide +kernel
theorem md_fm_init_232 : decode mb_fm_init 232 = .ok (.putfield 96, 3) := by decide +kernel
theorem md_fm_init_235 : decode mb_fm_init 235 = .ok (.aload_n 0, 1) := by decide +kernel
theorem md_fm_init_236 : decode mb_fm_init 236 = .ok (.bipush 6, 2) := by decide +kernel
theorem md_fm_init_238 : decode mb_fm_init 238 = .ok (.newarray .int, 2) := by decide +kernel
theorem md_fm_init_240 : decode mb_fm_init 240 = .ok (.putfield 99, 3) := by decide +kernel
theorem md_fm_init_243 : decode mb_fm_init 243 = .ok (.aload_n 0, 1) := by decide +kernel
theorem md_fm_init_244 : decode mb_fm_init 244 = .ok (.bipush 6, 2) := by decide +kernel
theorem md_fm_init_246 : decode mb_fm_init 246 = .ok (.newarray .int, 2) := by decide +kernel
theorem md_fm_init_248 : decode mb_fm_init 248 = .ok (.putfield 102, 3) := by decide +kernel
theorem md_fm_init_251 : decode mb_fm_init 251 = .ok (.aload_n 0, 1) := by decide +kernel
theorem md_fm_init_252 : decode mb_fm_init 252 = .ok (.bipush 6, 2) := by decide +kernel
theorem md_fm_init_254 : decode mb_fm_init 254 = .ok (.newarray .int, 2) := by decide +kernel
theorem md_fm_init_256 : decode mb_fm_init 256 = .ok (.putfield 105, 3) := by decide +kernel
theorem md_fm_init_259 : decode mb_fm_init 259 = .ok (.aload_n 0, 1) := by decide +kernel
theorem md_fm_init_260 : decode mb_fm_init 260 = .ok (.bipush 10, 2) := by decide +kernel
theorem md_fm_init_262 : decode mb_fm_init 262 = .ok (.newarray .int, 2) := by decide +kernel
theorem md_fm_init_264 : decode mb_fm_init 264 = .ok (.putfield 108, 3) := by decide +kernel
theorem md_fm_init_267 : decode mb_fm_init 267 = .ok (.return_, 1) := by decide +kernel
theorem md_fm_add_0 : decode mb_fm_add 0 = .ok (.iload_n 2, 1) := by decide +kernel
theorem md_fm_add_1 : decode mb_fm_add 1 = .ok (.iload_n 3, 1) := by decide +kernel
theorem md_fm_add_2 : decode mb_fm_add 2 = .ok (.iload 4, 2) := by decide +kernel
theorem md_fm_add_4 : decode mb_fm_add 4 = .ok (.invokestatic 115, 3) := by decide +kernel
theorem md_fm_add_7 : decode mb_fm_add 7 = .ok (.istore 5, 2) := by decide +kernel
theorem md_fm_add_9 : decode mb_fm_add 9 = .ok (.iload_n 1, 1) := by decide +kernel
theorem md_fm_add_10 : decode mb_fm_add 10 = .ok (.iconst 0, 1) := by decide +kernel
theorem md_fm_add_11 : decode mb_fm_add 11 = .ok (.iconst 2, 1) := by decide +kernel
theorem md_fm_add_12 : decode mb_fm_add 12 = .ok (.invokestatic 111, 3) := by decide +kernel
theorem md_fm_add_15 : decode mb_fm_add 15 = .ok (.ifCond .eq 8, 3) := by decide +kernel
theorem md_fm_add_18 : decode mb_fm_add 18 = .ok (.iload 5, 2) := by decide +kernel
theorem md_fm_add_20 : decode mb_fm_add 20 = .ok (.ifCond .ne 5, 3) := by decide +kernel
theorem md_fm_add_23 : decode mb_fm_add 23 = .ok (.iconst (-1), 1) := by decide +kernel
theorem md_fm_add_24 : decode mb_fm_add 24 = .ok (.ireturn, 1) := by decide +kernel
theorem md_fm_add_25 : decode mb_fm_add 25 = .ok (.aload_n 0, 1) := by decide +kernel
theorem md_fm_add_26 : decode mb_fm_add 26 = .ok (.getfield 19, 3) := by decide +kernel
theorem md_fm_add_29 : decode mb_fm_add 29 = .ok (.iload_n 1, 1) := by decide +kernel
theorem md_fm_add_30 : decode mb_fm_add 30 = .ok (.iaload, 1) := by decide +kernel
theorem md_fm_add_31 : decode mb_fm_add 31 = .ok (.bipush 14, 2) := by decide +kernel
theorem md_fm_add_33 : decode mb_fm_add 33 = .ok (.if_icmp .ne 6, 3) := by decide +kernel
theorem md_fm_add_36 : decode mb_fm_add 36 = .ok (.bipush (-3), 2) := by decide +kernel
theorem md_fm_add_38 : decode mb_fm_add 38 = .ok (.ireturn, 1) := by decide +kernel
theorem md_fm_add_39 : decode mb_fm_add 39 = .ok (.aload_n 0, 1) := by decide +kernel
theorem md_fm_add_40 : decode mb_fm_add 40 = .ok (.bipush 14, 2) := by decide +kernel
theorem md_fm_add_42 : decode mb_fm_add 42 = .ok (.iload_n 1, 1) := by decide +kernel
theorem md_fm_add_43 : decode mb_fm_add 43 = .ok (.imul, 1) := by decide +kernel
theorem md_fm_add_44 : decode mb_fm_add 44 = .ok (.aload_n 0, 1) := by decide +kernel
theorem md_fm_add_45 : decode mb_fm_add 45 = .ok (.getfield 19, 3) := by decide +kernel
theorem md_fm_add_48 : decode mb_fm_add 48 = .ok (.iload_n 1, 1) := by decide +kernel
theorem md_fm_add_49 : decode mb_fm_add 49 = .ok (.iaload, 1) := by decide +kernel
theorem md_fm_add_50 : decode mb_fm_add 50 = .ok (.iadd, 1) := by decide +kernel
theorem md_fm_add_51 : decode mb_fm_add 51 = .ok (.iload_n 2, 1) := by decide +kernel
theorem md_fm_add_52 : decode mb_fm_add 52 = .ok (.iload_n 3, 1) := by decide +kernel
theorem md_fm_add_53 : decode mb_fm_add 53 = .ok (.iload 4, 2) := by decide +kernel
theorem md_fm_add_55 : decode mb_fm_add 55 = .ok (.invokevirtual 118, 3) := by decide +kernel
theorem md_fm_add_58 : decode mb_fm_add 58 = .ok (.aload_n 0, 1) := by decide +kernel
theorem md_fm_add_59 : decode mb_fm_add 59 = .ok (.getfield 19, 3) := by decide +kernel
theorem md_fm_add_62 : decode mb_fm_add 62 = .ok (.iload_n 1, 1) := by decide +kernel
theorem md_fm_add_63 : decode mb_fm_add 63 = .ok (.dup2, 1) := by decide +kernel
theorem md_fm_add_64 : decode mb_fm_add 64 = .ok (.iaload, 1) := by decide +kernel
theorem md_fm_add_65 : decode mb_fm_add 65 = .ok (.iconst 1, 1) := by decide +kernel
theorem md_fm_add_66 : decode mb_fm_add 66 = .ok (.iadd, 1) := by decide +kernel
theorem md_fm_add_67 : decode mb_fm_add 67 = .ok (.iastore, 1) := by decide +kernel
theorem md_fm_add_68 : decode mb_fm_add 68 = .ok (.aload_n 0, 1) := by decide +kernel
theorem md_fm_add_69 : decode mb_fm_add 69 = .ok (.iload_n 1, 1) := by decide +kernel
theorem md_fm_add_70 : decode mb_fm_add 70 = .ok (.invokevirtual 122, 3) := by decide +kernel
theorem md_fm_add_73 : decode mb_fm_add 73 = .ok (.aload_n 0, 1) := by decide +kernel
theorem md_fm_add_74 : decode mb_fm_add 74 = .ok (.getfield 19, 3) := by decide +kernel
theorem md_fm_add_77 : decode mb_fm_add 77 = .ok (.iload_n 1, 1) := by decide +kernel
theorem md_fm_add_78 : decode mb_fm_add 78 = .ok (.iaload, 1) := by decide +kernel
theorem md_fm_add_79 : decode mb_fm_add 79 = .ok (.iconst 1, 1) := by decide +kernel
theorem md_fm_add_80 : decode mb_fm_add 80 = .ok (.isub, 1) := by decide +kernel
theorem md_fm_add_81 : decode mb_fm_add 81 = .ok (.ireturn, 1) := by decide +kernel
theorem md_fm_isGood_0 : decode mb_fm_isGood 0 = .ok (.iload_n 0, 1) := by decide +kernel
theorem md_fm_isGood_1 : decode mb_fm_isGood 1 = .ok (.tableswitch 123 0 10 #[59, 66, 66, 90, 98, 66, 59, 66, 66, 123, 59], 59) := by decide +kernel
theorem md_fm_isGood_60 : decode mb_fm_isGood 60 = .ok (.iload_n 1, 1) := by decide +kernel
theorem md_fm_isGood_61 : decode mb_fm_isGood 61 = .ok (.iconst 0, 1) := by decide +kernel
theorem md_fm_isGood_62 : decode mb_fm_isGood 62 = .ok (.iconst 3, 1) := by decide +kernel
theorem md_fm_isGood_63 : decode mb_fm_isGood 63 = .ok (.invokestatic 111, 3) := by decide +kernel
theorem md_fm_isGood_66 : decode mb_fm_isGood 66 = .ok (.ireturn, 1) := by decide +kernel
theorem md_fm_isGood_67 : decode mb_fm_isGood 67 = .ok (.iload_n 1, 1) := by decide +kernel
theorem md_fm_isGood_68 : decode mb_fm_isGood 68 = .ok (.iconst 0, 1) := by decide +kernel
theorem md_fm_isGood_69 : decode mb_fm_isGood 69 = .ok (.iconst 3, 1) := by decide +kernel
theorem md_fm_isGood_70 : decode mb_fm_isGood 70 = .ok (.invokestatic 111, 3) := by decide +kernel
theorem md_fm_isGood_73 : decode mb_fm_isGood 73 = .ok (.ifCond .eq 16, 3) := by decide +kernel
theorem md_fm_isGood_76 : decode mb_fm_isGood 76 = .ok (.iload_n 2, 1) := by decide +kernel
theorem md_fm_isGood_77 : decode mb_fm_isGood 77 = .ok (.iconst 0, 1) := by decide +kernel
theorem md_fm_isGood_78 : decode mb_fm_isGood 78 = .ok (.iconst 3, 1) := by decide +kernel
theorem md_fm_isGood_79 : decode mb_fm_isGood 79 = .ok (.invokestatic 111, 3) := by decide +kernel
theorem md_fm_isGood_82 : decode mb_fm_isGood 82 = .ok (.ifCond .eq 7, 3) := by decide +kernel
theorem md_fm_isGood_85 : decode mb_fm_isGood 85 = .ok (.iconst 1, 1) := by decide +kernel
theorem md_fm_isGood_86 : decode mb_fm_isGood 86 = .ok (.goto 4, 3) := by decide +kernel
theorem md_fm_isGood_89 : decode mb_fm_isGood 89 = .ok (.iconst 0, 1) := by decide +kernel
theorem md_fm_isGood_90 : decode mb_fm_isGood 90 = .ok (.ireturn, 1) := by decide +kernel
theorem md_fm_isGood_91 : decode mb_fm_isGood 91 = .ok (.iload_n 1, 1) := by decide +kernel
theorem md_fm_isGood_92 : decode mb_fm_isGood 92 = .ok (.iconst 0, 1) := by decide +kernel
theorem md_fm_isGood_93 : decode mb_fm_isGood 93 = .ok (.bipush 14, 2) := by decide +kernel
theorem md_fm_isGood_95 : decode mb_fm_isGood 95 = .ok (.invokestatic 111, 3) := by decide +kernel
theorem md_fm_isGood_98 : decode mb_fm_isGood 98 = .ok (.ireturn, 1) := by decide +kernel
theorem md_fm_isGood_99 : decode mb_fm_isGood 99 = .ok (.iload_n 1, 1) := by decide +kernel
theorem md_fm_isGood_100 : decode mb_fm_isGood 100 = .ok (.iconst 0, 1) := by decide +kernel
theorem md_fm_isGood_101 : decode mb_fm_isGood 101 = .ok (.iconst 3, 1) := by decide +kernel
theorem md_fm_isGood_102 : decode mb_fm_isGood 102 = .ok (.invokestatic 111, 3) := by decide +kernel
theorem md_fm_isGood_105 : decode mb_fm_isGood 105 = .ok (.ifCond .eq 17, 3) := by decide +kernel
theorem md_fm_isGood_108 : decode mb_fm_isGood 108 = .ok (.iload_n 2, 1) := by decide +kernel
theorem md_fm_isGood_109 : decode mb_fm_isGood 109 = .ok (.iconst 0, 1) := by decide +kernel
theorem md_fm_isGood_110 : decode mb_fm_isGood 110 = .ok (.bipush 14, 2) := by decide +kernel
theorem md_fm_isGood_112 : decode mb_fm_isGood 112 = .ok (.invokestatic 111, 3) := by decide +kernel
theorem md_fm_isGood_115 : decode mb_fm_isGood 115 = .ok (.ifCond .eq 7, 3) := by decide +kernel
theorem md_fm_isGood_118 : decode mb_fm_isGood 118 = .ok (.iconst 1, 1) := by decide +kernel
theorem md_fm_isGood_119 : decode mb_fm_isGood 119 = .ok (.goto 4, 3) := by decide +kernel
theorem md_fm_isGood_122 : decode mb_fm_isGood 122 = .ok (.iconst 0, 1) := by decide +kernel
theorem md_fm_isGood_123 : decode mb_fm_isGood 123 = .ok (.ireturn, 1) := by decide +kernel
theorem md_fm_isGood_124 : decode mb_fm_isGood 124 = .ok (.iload_n 0, 1) := by decide +kernel
theorem md_fm_isGood_125 : decode mb_fm_isGood 125 = .ok (.bipush 9, 2) := by decide +kernel
theorem md_fm_isGood_127 : decode mb_fm_isGood 127 = .ok (.if_icmp .ne 7, 3) := by decide +kernel
theorem md_fm_isGood_130 : decode mb_fm_isGood 130 = .ok (.iconst 1, 1) := by decide +kernel
theorem md_fm_isGood_131 : decode mb_fm_isGood 131 = .ok (.goto 4, 3) := by decide +kernel
theorem md_fm_isGood_134 : decode mb_fm_isGood 134 = .ok (.iconst 0, 1) := by decide +kernel
theorem md_fm_isGood_135 : decode mb_fm_isGood 135 = .ok (.ireturn, 1) := by decide +kernel
theorem md_fm_in_0 : decode mb_fm_in 0 = .ok (.iload_n 0, 1) := by decide +kernel
theorem md_fm_in_1 : decode mb_fm_in 1 = .ok (.iload_n 1, 1) := by decide +kernel
theorem md_fm_in_2 : decode mb_fm_in 2 = .ok (.if_icmp .lt 12, 3) := by decide +kernel
theorem md_fm_in_5 : decode mb_fm_in 5 = .ok (.iload_n 0, 1) := by decide +kernel
theorem md_fm_in_6 : decode mb_fm_in 6 = .ok (.iload_n 2, 1) := by decide +kernel
theorem md_fm_in_7 : decode mb_fm_in 7 = .ok (.if_icmp .gt 7, 3) := by decide +kernel
theorem md_fm_in_10 : decode mb_fm_in 10 = .ok (.iconst 1, 1) := by decide +kernel
theorem md_fm_in_11 : decode mb_fm_in 11 = .ok (.goto 4, 3) := by decide +kernel
theorem md_fm_in_14 : decode mb_fm_in 14 = .ok (.iconst 0, 1) := by decide +kernel
theorem md_fm_in_15 : decode mb_fm_in 15 = .ok (.ireturn, 1) := by decide +kernel
theorem md_fm_set_0 : decode mb_fm_set 0 = .ok (.aload_n 0, 1) := by decide +kernel
theorem md_fm_set_1 : decode mb_fm_set 1 = .ok (.getfield 7, 3) := by decide +kernel
theorem md_fm_set_4 : decode mb_fm_set 4 = .ok (.iload_n 1, 1) := by decide +kernel
theorem md_fm_set_5 : decode mb_fm_set 5 = .ok (.iload_n 2, 1) := by decide +kernel
theorem md_fm_set_6 : decode mb_fm_set 6 = .ok (.iastore, 1) := by decide +kernel
theorem md_fm_set_7 : decode mb_fm_set 7 = .ok (.aload_n 0, 1) := by decide +kernel
theorem md_fm_set_8 : decode mb_fm_set 8 = .ok (.getfield 13, 3) := by decide +kernel
theorem md_fm_set_11 : decode mb_fm_set 11 = .ok (.iload_n 1, 1) := by decide +kernel
theorem md_fm_set_12 : decode mb_fm_set 12 = .ok (.iload_n 3, 1) := by decide +kernel
theorem md_fm_set_13 : decode mb_fm_set 13 = .ok (.iastore, 1) := by decide +kernel
theorem md_fm_set_14 : decode mb_fm_set 14 = .ok (.aload_n 0, 1) := by decide +kernel
theorem md_fm_set_15 : decode mb_fm_set 15 = .ok (.getfield 16, 3) := by decide +kernel
theorem md_fm_set_18 : decode mb_fm_set 18 = .ok (.iload_n 1, 1) := by decide +kernel
theorem md_fm_set_19 : decode mb_fm_set 19 = .ok (.iload 4, 2) := by decide +kernel
theorem md_fm_set_21 : decode mb_fm_set 21 = .ok (.iastore, 1) := by decide +kernel
theorem md_fm_set_22 : decode mb_fm_set 22 = .ok (.return_, 1) := by decide +kernel
theorem md_fm_forgetAll_0 : decode mb_fm_forgetAll 0 = .ok (.iconst 0, 1) := by decide +kernel
theorem md_fm_forgetAll_1 : decode mb_fm_forgetAll 1 = .ok (.istore_n 2, 1) := by decide +kernel
theorem md_fm_forgetAll_2 : decode mb_fm_forgetAll 2 = .ok (.iload_n 2, 1) := by decide +kernel
theorem md_fm_forgetAll_3 : decode mb_fm_forgetAll 3 = .ok (.bipush 6, 2) := by decide +kernel
theorem md_fm_forgetAll_5 : decode mb_fm_forgetAll 5 = .ok (.if_icmp .ge 45, 3) := by decide +kernel
theorem md_fm_forgetAll_8 : decode mb_fm_forgetAll 8 = .ok (.aload_n 0, 1) := by decide +kernel
theorem md_fm_forgetAll_9 : decode mb_fm_forgetAll 9 = .ok (.getfield 22, 3) := by decide +kernel
theorem md_fm_forgetAll_12 : decode mb_fm_forgetAll 12 = .ok (.iload_n 2, 1) := by decide +kernel
theorem md_fm_forgetAll_13 : decode mb_fm_forgetAll 13 = .ok (.baload, 1) := by decide +kernel
theorem md_fm_forgetAll_14 : decode mb_fm_forgetAll 14 = .ok (.ifCond .eq 30, 3) := by decide +kernel
theorem md_fm_forgetAll_17 : decode mb_fm_forgetAll 17 = .ok (.aload_n 0, 1) := by decide +kernel
theorem md_fm_forgetAll_18 : decode mb_fm_forgetAll 18 = .ok (.getfield 35, 3) := by decide +kernel
theorem md_fm_forgetAll_21 : decode mb_fm_forgetAll 21 = .ok (.iload_n 2, 1) := by decide +kernel
theorem md_fm_forgetAll_22 : decode mb_fm_forgetAll 22 = .ok (.iaload, 1) := by decide +kernel
theorem md_fm_forgetAll_23 : decode mb_fm_forgetAll 23 = .ok (.iload_n 1, 1) := by decide +kernel
theorem md_fm_forgetAll_24 : decode mb_fm_forgetAll 24 = .ok (.if_icmp .ne 20, 3) := by decide +kernel
theorem md_fm_forgetAll_27 : decode mb_fm_forgetAll 27 = .ok (.aload_n 0, 1) := by decide +kernel
theorem md_fm_forgetAll_28 : decode mb_fm_forgetAll 28 = .ok (.getfield 38, 3) := by decide +kernel
theorem md_fm_forgetAll_31 : decode mb_fm_forgetAll 31 = .ok (.iload_n 2, 1) := by decide +kernel
theorem md_fm_forgetAll_32 : decode mb_fm_forgetAll 32 = .ok (.iaload, 1) := by decide +kernel
theorem md_fm_forgetAll_33 : decode mb_fm_forgetAll 33 = .ok (.iconst 5, 1) := by decide +kernel
theorem md_fm_forgetAll_34 : decode mb_fm_forgetAll 34 = .ok (.if_icmp .ge 10, 3) := by decide +kernel
theorem md_fm_forgetAll_37 : decode mb_fm_forgetAll 37 = .ok (.aload_n 0, 1) := by decide +kernel
theorem md_fm_forgetAll_38 : decode mb_fm_forgetAll 38 = .ok (.getfield 26, 3) := by decide +kernel
theorem md_fm_forgetAll_41 : decode mb_fm_forgetAll 41 = .ok (.iload_n 2, 1) := by decide +kernel
theorem md_fm_forgetAll_42 : decode mb_fm_forgetAll 42 = .ok (.iconst 1, 1) := by decide +kernel
theorem md_fm_forgetAll_43 : decode mb_fm_forgetAll 43 = .ok (.bastore, 1) := by decide +kernel
theorem md_fm_forgetAll_44 : decode mb_fm_forgetAll 44 = .ok (.iinc 2 1, 3) := by decide +kernel
theorem md_fm_forgetAll_47 : decode mb_fm_forgetAll 47 = .ok (.goto (-45), 3) := by decide +kernel
theorem md_fm_forgetAll_50 : decode mb_fm_forgetAll 50 = .ok (.return_, 1) := by decide +kernel
theorem md_fm_change_0 : decode mb_fm_change 0 = .ok (.iload_n 3, 1) := by decide +kernel
theorem md_fm_change_1 : decode mb_fm_change 1 = .ok (.iload 4, 2) := by decide +kernel
theorem md_fm_change_3 : decode mb_fm_change 3 = .ok (.iload 5, 2) := by decide +kernel
theorem md_fm_change_5 : decode mb_fm_change 5 = .ok (.invokestatic 115, 3) := by decide +kernel
theorem md_fm_change_8 : decode mb_fm_change 8 = .ok (.istore 6, 2) := by decide +kernel
theorem md_fm_change_10 : decode mb_fm_change 10 = .ok (.iload_n 1, 1) := by decide +kernel
theorem md_fm_change_11 : decode mb_fm_change 11 = .ok (.iconst 0, 1) := by decide +kernel
theorem md_fm_change_12 : decode mb_fm_change 12 = .ok (.iconst 2, 1) := by decide +kernel
theorem md_fm_change_13 : decode mb_fm_change 13 = .ok (.invokestatic 111, 3) := by decide +kernel
theorem md_fm_change_16 : decode mb_fm_change 16 = .ok (.ifCond .eq 24, 3) := by decide +kernel
theorem md_fm_change_19 : decode mb_fm_change 19 = .ok (.iload 6, 2) := by decide +kernel
theorem md_fm_change_21 : decode mb_fm_change 21 = .ok (.ifCond .eq 19, 3) := by decide +kernel
theorem md_fm_change_24 : decode mb_fm_change 24 = .ok (.iload_n 2, 1) := by decide +kernel
theorem md_fm_change_25 : decode mb_fm_change 25 = .ok (.iconst 0, 1) := by decide +kernel
theorem md_fm_change_26 : decode mb_fm_change 26 = .ok (.aload_n 0, 1) := by decide +kernel
theorem md_fm_change_27 : decode mb_fm_change 27 = .ok (.getfield 19, 3) := by decide +kernel
theorem md_fm_change_30 : decode mb_fm_change 30 = .ok (.iload_n 1, 1) := by decide +kernel
theorem md_fm_change_31 : decode mb_fm_change 31 = .ok (.iaload, 1) := by decide +kernel
theorem md_fm_change_32 : decode mb_fm_change 32 = .ok (.iconst 1, 1) := by decide +kernel
theorem md_fm_change_33 : decode mb_fm_change 33 = .ok (.isub, 1) := by decide +kernel
theorem md_fm_change_34 : decode mb_fm_change 34 = .ok (.invokestatic 111, 3) := by decide +kernel
theorem md_fm_change_37 : decode mb_fm_change 37 = .ok (.ifCond .ne 5, 3) := by decide +kernel
theorem md_fm_change_40 : decode mb_fm_change 40 = .ok (.iconst 0, 1) := by decide +kernel
theorem md_fm_change_41 : decode mb_fm_change 41 = .ok (.ireturn, 1) := by decide +kernel
theorem md_fm_change_42 : decode mb_fm_change 42 = .ok (.aload_n 0, 1) := by decide +kernel
theorem md_fm_change_43 : decode mb_fm_change 43 = .ok (.bipush 14, 2) := by decide +kernel
theorem md_fm_change_45 : decode mb_fm_change 45 = .ok (.iload_n 1, 1) := by decide +kernel
theorem md_fm_change_46 : decode mb_fm_change 46 = .ok (.imul, 1) := by decide +kernel
theorem md_fm_change_47 : decode mb_fm_change 47 = .ok (.iload_n 2, 1) := by decide +kernel
theorem md_fm_change_48 : decode mb_fm_change 48 = .ok (.iadd, 1) := by decide +kernel
theorem md_fm_change_49 : decode mb_fm_change 49 = .ok (.iload_n 3, 1) := by decide +kernel
theorem md_fm_change_50 : decode mb_fm_change 50 = .ok (.iload 4, 2) := by decide +kernel
theorem md_fm_change_52 : decode mb_fm_change 52 = .ok (.iload 5, 2) := by decide +kernel
theorem md_fm_change_54 : decode mb_fm_change 54 = .ok (.invokevirtual 118, 3) := by decide +kernel
theorem md_fm_change_57 : decode mb_fm_change 57 = .ok (.aload_n 0, 1) := by decide +kernel
theorem md_fm_change_58 : decode mb_fm_change 58 = .ok (.iload_n 1, 1) := by decide +kernel
theorem md_fm_change_59 : decode mb_fm_change 59 = .ok (.invokevirtual 122, 3) := by decide +kernel
theorem md_fm_change_62 : decode mb_fm_change 62 = .ok (.iconst 1, 1) := by decide +kernel
theorem md_fm_change_63 : decode mb_fm_change 63 = .ok (.ireturn, 1) := by decide +kernel
theorem md_fm_start_0 : decode mb_fm_start 0 = .ok (.iload_n 1, 1) := by decide +kernel
theorem md_fm_start_1 : decode mb_fm_start 1 = .ok (.iconst 0, 1) := by decide +kernel
theorem md_fm_start_2 : decode mb_fm_start 2 = .ok (.iconst 2, 1) := by decide +kernel
theorem md_fm_start_3 : decode mb_fm_start 3 = .ok (.invokestatic 111, 3) := by decide +kernel
theorem md_fm_start_6 : decode mb_fm_start 6 = .ok (.ifCond .ne 5, 3) := by decide +kernel
theorem md_fm_start_9 : decode mb_fm_start 9 = .ok (.iconst (-1), 1) := by decide +kernel
theorem md_fm_start_10 : decode mb_fm_start 10 = .ok (.ireturn, 1) := by decide +kernel
theorem md_fm_start_11 : decode mb_fm_start 11 = .ok (.iconst 0, 1) := by decide +kernel
theorem md_fm_start_12 : decode mb_fm_start 12 = .ok (.istore_n 3, 1) := by decide +kernel
theorem md_fm_start_13 : decode mb_fm_start 13 = .ok (.iload_n 3, 1) := by decide +kernel
theorem md_fm_start_14 : decode mb_fm_start 14 = .ok (.bipush 6, 2) := by decide +kernel
theorem md_fm_start_16 : decode mb_fm_start 16 = .ok (.if_icmp .ge 18, 3) := by decide +kernel
theorem md_fm_start_19 : decode mb_fm_start 19 = .ok (.aload_n 0, 1) := by decide +kernel
theorem md_fm_start_20 : decode mb_fm_start 20 = .ok (.getfield 22, 3) := by decide +kernel
theorem md_fm_start_23 : decode mb_fm_start 23 = .ok (.iload_n 3, 1) := by decide +kernel
theorem md_fm_start_24 : decode mb_fm_start 24 = .ok (.baload, 1) := by decide +kernel
theorem md_fm_start_25 : decode mb_fm_start 25 = .ok (.ifCond .eq 9, 3) := by decide +kernel
theorem md_fm_start_28 : decode mb_fm_start 28 = .ok (.iinc 3 1, 3) := by decide +kernel
theorem md_fm_start_31 : decode mb_fm_start 31 = .ok (.goto (-18), 3) := by decide +kernel
theorem md_fm_start_34 : decode mb_fm_start 34 = .ok (.iload_n 3, 1) := by decide +kernel
theorem md_fm_start_35 : decode mb_fm_start 35 = .ok (.bipush 6, 2) := by decide +kernel
theorem md_fm_start_37 : decode mb_fm_start 37 = .ok (.if_icmp .ne 6, 3) := by decide +kernel
theorem md_fm_start_40 : decode mb_fm_start 40 = .ok (.bipush (-3), 2) := by decide +kernel
theorem md_fm_start_42 : decode mb_fm_start 42 = .ok (.ireturn, 1) := by decide +kernel
theorem md_fm_start_43 : decode mb_fm_start 43 = .ok (.aload_n 0, 1) := by decide +kernel
theorem md_fm_start_44 : decode mb_fm_start 44 = .ok (.getfield 22, 3) := by decide +kernel
theorem md_fm_start_47 : decode mb_fm_start 47 = .ok (.iload_n 3, 1) := by decide +kernel
theorem md_fm_start_48 : decode mb_fm_start 48 = .ok (.iconst 1, 1) := by decide +kernel
theorem md_fm_start_49 : decode mb_fm_start 49 = .ok (.bastore, 1) := by decide +kernel
theorem md_fm_start_50 : decode mb_fm_start 50 = .ok (.aload_n 0, 1) := by decide +kernel
theorem md_fm_start_51 : decode mb_fm_start 51 = .ok (.getfield 26, 3) := by decide +kernel
theorem md_fm_start_54 : decode mb_fm_start 54 = .ok (.iload_n 3, 1) := by decide +kernel
theorem md_fm_start_55 : decode mb_fm_start 55 = .ok (.iconst 0, 1) := by decide +kernel
theorem md_fm_start_56 : decode mb_fm_start 56 = .ok (.bastore, 1) := by decide +kernel
theorem md_fm_start_57 : decode mb_fm_start 57 = .ok (.aload_n 0, 1) := by decide +kernel
theorem md_fm_start_58 : decode mb_fm_start 58 = .ok (.getfield 35, 3) := by decide +kernel
theorem md_fm_start_61 : decode mb_fm_start 61 = .ok (.iload_n 3, 1) := by decide +kernel
theorem md_fm_start_62 : decode mb_fm_start 62 = .ok (.iload_n 1, 1) := by decide +kernel
theorem md_fm_start_63 : decode mb_fm_start 63 = .ok (.iastore, 1) := by decide +kernel
theorem md_fm_start_64 : decode mb_fm_start 64 = .ok (.aload_n 0, 1) := by decide +kernel
theorem md_fm_start_65 : decode mb_fm_start 65 = .ok (.getfield 47, 3) := by decide +kernel
theorem md_fm_start_68 : decode mb_fm_start 68 = .ok (.iload_n 3, 1) := by decide +kernel
theorem md_fm_start_69 : decode mb_fm_start 69 = .ok (.iconst 0, 1) := by decide +kernel
theorem md_fm_start_70 : decode mb_fm_start 70 = .ok (.iastore, 1) := by decide +kernel
theorem md_fm_start_71 : decode mb_fm_start 71 = .ok (.aload_n 0, 1) := by decide +kernel
theorem md_fm_start_72 : decode mb_fm_start 72 = .ok (.getfield 77, 3) := by decide +kernel
theorem md_fm_start_75 : decode mb_fm_start 75 = .ok (.iload_n 3, 1) := by decide +kernel
theorem md_fm_start_76 : decode mb_fm_start 76 = .ok (.iconst 0, 1) := by decide +kernel
theorem md_fm_start_77 : decode mb_fm_start 77 = .ok (.iastore, 1) := by decide +kernel
theorem md_fm_start_78 : decode mb_fm_start 78 = .ok (.aload_n 0, 1) := by decide +kernel
theorem md_fm_start_79 : decode mb_fm_start 79 = .ok (.getfield 53, 3) := by decide +kernel
theorem md_fm_start_82 : decode mb_fm_start 82 = .ok (.iload_n 3, 1) := by decide +kernel
theorem md_fm_start_83 : decode mb_fm_start 83 = .ok (.iconst 1, 1) := by decide +kernel
theorem md_fm_start_84 : decode mb_fm_start 84 = .ok (.iastore, 1) := by decide +kernel
theorem md_fm_start_85 : decode mb_fm_start 85 = .ok (.aload_n 0, 1) := by decide +kernel
theorem md_fm_start_86 : decode mb_fm_start 86 = .ok (.getfield 59, 3) := by decide +kernel
theorem md_fm_start_89 : decode mb_fm_start 89 = .ok (.bipush 20, 2) := by decide +kernel
theorem md_fm_start_91 : decode mb_fm_start 91 = .ok (.iload_n 3, 1) := by decide +kernel
theorem md_fm_start_92 : decode mb_fm_start 92 = .ok (.imul, 1) := by decide +kernel
theorem md_fm_start_93 : decode mb_fm_start 93 = .ok (.iconst 1, 1) := by decide +kernel
theorem md_fm_start_94 : decode mb_fm_start 94 = .ok (.iastore, 1) := by decide +kernel
theorem md_fm_start_95 : decode mb_fm_start 95 = .ok (.aload_n 0, 1) := by decide +kernel
theorem md_fm_start_96 : decode mb_fm_start 96 = .ok (.getfield 62, 3) := by decide +kernel
theorem md_fm_start_99 : decode mb_fm_start 99 = .ok (.bipush 20, 2) := by decide +kernel
theorem md_fm_start_101 : decode mb_fm_start 101 = .ok (.iload_n 3, 1) := by decide +kernel
theorem md_fm_start_102 : decode mb_fm_start 102 = .ok (.imul, 1) := by decide +kernel
theorem md_fm_start_103 : decode mb_fm_start 103 = .ok (.iload_n 1, 1) := by decide +kernel
theorem md_fm_start_104 : decode mb_fm_start 104 = .ok (.iastore, 1) := by decide +kernel
theorem md_fm_start_105 : decode mb_fm_start 105 = .ok (.aload_n 0, 1) := by decide +kernel
theorem md_fm_start_106 : decode mb_fm_start 106 = .ok (.getfield 65, 3) := by decide +kernel
theorem md_fm_start_109 : decode mb_fm_start 109 = .ok (.bipush 20, 2) := by decide +kernel
theorem md_fm_start_111 : decode mb_fm_start 111 = .ok (.iload_n 3, 1) := by decide +kernel
theorem md_fm_start_112 : decode mb_fm_start 112 = .ok (.imul, 1) := by decide +kernel
theorem md_fm_start_113 : decode mb_fm_start 113 = .ok (.iload_n 2, 1) := by decide +kernel
theorem md_fm_start_114 : decode mb_fm_start 114 = .ok (.iastore, 1) := by decide +kernel
theorem md_fm_start_115 : decode mb_fm_start 115 = .ok (.aload_n 0, 1) := by decide +kernel
theorem md_fm_start_116 : decode mb_fm_start 116 = .ok (.iload_n 3, 1) := by decide +kernel
theorem md_fm_start_117 : decode mb_fm_start 117 = .ok (.invokevirtual 185, 3) := by decide +kernel
theorem md_fm_start_120 : decode mb_fm_start 120 = .ok (.iload_n 3, 1) := by decide +kernel
theorem md_fm_start_121 : decode mb_fm_start 121 = .ok (.ireturn, 1) := by decide +kernel
theorem md_fm_begin_0 : decode mb_fm_begin 0 = .ok (.iconst 0, 1) := by decide +kernel
theorem md_fm_begin_1 : decode mb_fm_begin 1 = .ok (.istore_n 2, 1) := by decide +kernel
theorem md_fm_begin_2 : decode mb_fm_begin 2 = .ok (.iload_n 2, 1) := by decide +kernel
theorem md_fm_begin_3 : decode mb_fm_begin 3 = .ok (.iconst 4, 1) := by decide +kernel
theorem md_fm_begin_4 : decode mb_fm_begin 4 = .ok (.if_icmp .ge 20, 3) := by decide +kernel
theorem md_fm_begin_7 : decode mb_fm_begin 7 = .ok (.aload_n 0, 1) := by decide +kernel
theorem md_fm_begin_8 : decode mb_fm_begin 8 = .ok (.getfield 50, 3) := by decide +kernel
theorem md_fm_begin_11 : decode mb_fm_begin 11 = .ok (.iconst 4, 1) := by decide +kernel
theorem md_fm_begin_12 : decode mb_fm_begin 12 = .ok (.iload_n 1, 1) := by decide +kernel
theorem md_fm_begin_13 : decode mb_fm_begin 13 = .ok (.imul, 1) := by decide +kernel
theorem md_fm_begin_14 : decode mb_fm_begin 14 = .ok (.iload_n 2, 1) := by decide +kernel
theorem md_fm_begin_15 : decode mb_fm_begin 15 = .ok (.iadd, 1) := by decide +kernel
theorem md_fm_begin_16 : decode mb_fm_begin 16 = .ok (.iconst 0, 1) := by decide +kernel
theorem md_fm_begin_17 : decode mb_fm_begin 17 = .ok (.iastore, 1) := by decide +kernel
theorem md_fm_begin_18 : decode mb_fm_begin 18 = .ok (.iinc 2 1, 3) := by decide +kernel
theorem md_fm_begin_21 : decode mb_fm_begin 21 = .ok (.goto (-19), 3) := by decide +kernel
theorem md_fm_begin_24 : decode mb_fm_begin 24 = .ok (.aload_n 0, 1) := by decide +kernel
theorem md_fm_begin_25 : decode mb_fm_begin 25 = .ok (.getfield 50, 3) := by decide +kernel
theorem md_fm_begin_28 : decode mb_fm_begin 28 = .ok (.iconst 4, 1) := by decide +kernel
theorem md_fm_begin_29 : decode mb_fm_begin 29 = .ok (.iload_n 1, 1) := by decide +kernel
theorem md_fm_begin_30 : decode mb_fm_begin 30 = .ok (.imul, 1) := by decide +kernel
theorem md_fm_begin_31 : decode mb_fm_begin 31 = .ok (.aload_n 0, 1) := by decide +kernel
theorem md_fm_begin_32 : decode mb_fm_begin 32 = .ok (.getfield 65, 3) := by decide +kernel
theorem md_fm_begin_35 : decode mb_fm_begin 35 = .ok (.bipush 20, 2) := by decide +kernel
theorem md_fm_begin_37 : decode mb_fm_begin 37 = .ok (.iload_n 1, 1) := by decide +kernel
theorem md_fm_begin_38 : decode mb_fm_begin 38 = .ok (.imul, 1) := by decide +kernel
theorem md_fm_begin_39 : decode mb_fm_begin 39 = .ok (.iaload, 1) := by decide +kernel
theorem md_fm_begin_40 : decode mb_fm_begin 40 = .ok (.iastore, 1) := by decide +kernel
theorem md_fm_begin_41 : decode mb_fm_begin 41 = .ok (.aload_n 0, 1) := by decide +kernel
theorem md_fm_begin_42 : decode mb_fm_begin 42 = .ok (.getfield 41, 3) := by decide +kernel
theorem md_fm_begin_45 : decode mb_fm_begin 45 = .ok (.iload_n 1, 1) := by decide +kernel
theorem md_fm_begin_46 : decode mb_fm_begin 46 = .ok (.iconst 0, 1) := by decide +kernel
theorem md_fm_begin_47 : decode mb_fm_begin 47 = .ok (.iastore, 1) := by decide +kernel
theorem md_fm_begin_48 : decode mb_fm_begin 48 = .ok (.aload_n 0, 1) := by decide +kernel
theorem md_fm_begin_49 : decode mb_fm_begin 49 = .ok (.getfield 44, 3) := by decide +kernel
theorem md_fm_begin_52 : decode mb_fm_begin 52 = .ok (.iload_n 1, 1) := by decide +kernel
theorem md_fm_begin_53 : decode mb_fm_begin 53 = .ok (.iconst 0, 1) := by decide +kernel
theorem md_fm_begin_54 : decode mb_fm_begin 54 = .ok (.iastore, 1) := by decide +kernel
theorem md_fm_begin_55 : decode mb_fm_begin 55 = .ok (.aload_n 0, 1) := by decide +kernel
theorem md_fm_begin_56 : decode mb_fm_begin 56 = .ok (.getfield 68, 3) := by decide +kernel
theorem md_fm_begin_59 : decode mb_fm_begin 59 = .ok (.iload_n 1, 1) := by decide +kernel
theorem md_fm_begin_60 : decode mb_fm_begin 60 = .ok (.iconst 0, 1) := by decide +kernel
theorem md_fm_begin_61 : decode mb_fm_begin 61 = .ok (.iastore, 1) := by decide +kernel
theorem md_fm_begin_62 : decode mb_fm_begin 62 = .ok (.aload_n 0, 1) := by decide +kernel
theorem md_fm_begin_63 : decode mb_fm_begin 63 = .ok (.getfield 56, 3) := by decide +kernel
theorem md_fm_begin_66 : decode mb_fm_begin 66 = .ok (.iload_n 1, 1) := by decide +kernel
theorem md_fm_begin_67 : decode mb_fm_begin 67 = .ok (.iconst 1, 1) := by decide +kernel
theorem md_fm_begin_68 : decode mb_fm_begin 68 = .ok (.iastore, 1) := by decide +kernel
theorem md_fm_begin_69 : decode mb_fm_begin 69 = .ok (.aload_n 0, 1) := by decide +kernel
theorem md_fm_begin_70 : decode mb_fm_begin 70 = .ok (.getfield 38, 3) := by decide +kernel
theorem md_fm_begin_73 : decode mb_fm_begin 73 = .ok (.iload_n 1, 1) := by decide +kernel
theorem md_fm_begin_74 : decode mb_fm_begin 74 = .ok (.iconst 0, 1) := by decide +kernel
theorem md_fm_begin_75 : decode mb_fm_begin 75 = .ok (.iastore, 1) := by decide +kernel
theorem md_fm_begin_76 : decode mb_fm_begin 76 = .ok (.aload_n 0, 1) := by decide +kernel
theorem md_fm_begin_77 : decode mb_fm_begin 77 = .ok (.iload_n 1, 1) := by decide +kernel
theorem md_fm_begin_78 : decode mb_fm_begin 78 = .ok (.invokevirtual 182, 3) := by decide +kernel
theorem md_fm_begin_81 : decode mb_fm_begin 81 = .ok (.return_, 1) := by decide +kernel
