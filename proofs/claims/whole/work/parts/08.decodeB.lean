theorem dX11_init_0 : decode cX11_init 0 = .ok (.aload_n 0, 1) := by decide +kernel
theorem dX11_init_1 : decode cX11_init 1 = .ok (.invokespecial 1, 3) := by decide +kernel
theorem dX11_init_4 : decode cX11_init 4 = .ok (.aload_n 0, 1) := by decide +kernel
theorem dX11_init_5 : decode cX11_init 5 = .ok (.bipush 6, 2) := by decide +kernel
theorem dX11_init_7 : decode cX11_init 7 = .ok (.newarray .int, 2) := by decide +kernel
theorem dX11_init_9 : decode cX11_init 9 = .ok (.putfield 7, 3) := by decide +kernel
theorem dX11_init_12 : decode cX11_init 12 = .ok (.aload_n 0, 1) := by decide +kernel
theorem dX11_init_13 : decode cX11_init 13 = .ok (.bipush 16, 2) := by decide +kernel
theorem dX11_init_15 : decode cX11_init 15 = .ok (.newarray .int, 2) := by decide +kernel
theorem dX11_init_17 : decode cX11_init 17 = .ok (.putfield 13, 3) := by decide +kernel
theorem dX11_init_20 : decode cX11_init 20 = .ok (.aload_n 0, 1) := by decide +kernel
theorem dX11_init_21 : decode cX11_init 21 = .ok (.bipush 12, 2) := by decide +kernel
theorem dX11_init_23 : decode cX11_init 23 = .ok (.newarray .boolean, 2) := by decide +kernel
theorem dX11_init_25 : decode cX11_init 25 = .ok (.putfield 16, 3) := by decide +kernel
theorem dX11_init_28 : decode cX11_init 28 = .ok (.aload_n 0, 1) := by decide +kernel
theorem dX11_init_29 : decode cX11_init 29 = .ok (.bipush 12, 2) := by decide +kernel
theorem dX11_init_31 : decode cX11_init 31 = .ok (.newarray .int, 2) := by decide +kernel
theorem dX11_init_33 : decode cX11_init 33 = .ok (.putfield 20, 3) := by decide +kernel
theorem dX11_init_36 : decode cX11_init 36 = .ok (.aload_n 0, 1) := by decide +kernel
theorem dX11_init_37 : decode cX11_init 37 = .ok (.sipush 7200, 3) := by decide +kernel
theorem dX11_init_40 : decode cX11_init 40 = .ok (.newarray .int, 2) := by decide +kernel
theorem dX11_init_42 : decode cX11_init 42 = .ok (.putfield 23, 3) := by decide +kernel
theorem dX11_init_45 : decode cX11_init 45 = .ok (.aload_n 0, 1) := by decide +kernel
theorem dX11_init_46 : decode cX11_init 46 = .ok (.sipush 7200, 3) := by decide +kernel
theorem dX11_init_49 : decode cX11_init 49 = .ok (.newarray .long, 2) := by decide +kernel
theorem dX11_init_51 : decode cX11_init 51 = .ok (.putfield 26, 3) := by decide +kernel
theorem dX11_init_54 : decode cX11_init 54 = .ok (.aload_n 0, 1) := by decide +kernel
theorem dX11_init_55 : decode cX11_init 55 = .ok (.ldc 30, 2) := by decide +kernel
theorem dX11_init_57 : decode cX11_init 57 = .ok (.newarray .long, 2) := by decide +kernel
theorem dX11_init_59 : decode cX11_init 59 = .ok (.putfield 31, 3) := by decide +kernel
theorem dX11_init_62 : decode cX11_init 62 = .ok (.aload_n 0, 1) := by decide +kernel
theorem dX11_init_63 : decode cX11_init 63 = .ok (.ldc 30, 2) := by decide +kernel
theorem dX11_init_65 : decode cX11_init 65 = .ok (.newarray .long, 2) := by decide +kernel
theorem dX11_init_67 : decode cX11_init 67 = .ok (.putfield 34, 3) := by decide +kernel
theorem dX11_init_70 : decode cX11_init 70 = .ok (.aload_n 0, 1) := by decide +kernel
theorem dX11_init_71 : decode cX11_init 71 = .ok (.bipush 10, 2) := by decide +kernel
theorem dX11_init_73 : decode cX11_init 73 = .ok (.newarray .int, 2) := by decide +kernel
theorem dX11_init_75 : decode cX11_init 75 = .ok (.putfield 37, 3) := by decide +kernel
theorem dX11_init_78 : decode cX11_init 78 = .ok (.aload_n 0, 1) := by decide +kernel
theorem dX11_init_79 : decode cX11_init 79 = .ok (.ldc 30, 2) := by decide +kernel
theorem dX11_init_81 : decode cX11_init 81 = .ok (.newarray .long, 2) := by decide +kernel
theorem dX11_init_83 : decode cX11_init 83 = .ok (.putfield 40, 3) := by decide +kernel
theorem dX11_init_86 : decode cX11_init 86 = .ok (.aload_n 0, 1) := by decide +kernel
theorem dX11_init_87 : decode cX11_init 87 = .ok (.ldc 30, 2) := by decide +kernel
theorem dX11_init_89 : decode cX11_init 89 = .ok (.newarray .long, 2) := by decide +kernel
theorem dX11_init_91 : decode cX11_init 91 = .ok (.putfield 43, 3) := by decide +kernel
theorem dX11_init_94 : decode cX11_init 94 = .ok (.aload_n 0, 1) := by decide +kernel
theorem dX11_init_95 : decode cX11_init 95 = .ok (.iconst 4, 1) := by decide +kernel
theorem dX11_init_96 : decode cX11_init 96 = .ok (.newarray .int, 2) := by decide +kernel
theorem dX11_init_98 : decode cX11_init 98 = .ok (.putfield 46, 3) := by decide +kernel
theorem dX11_init_101 : decode cX11_init 101 = .ok (.aload_n 0, 1) := by decide +kernel
theorem dX11_init_102 : decode cX11_init 102 = .ok (.iconst 4, 1) := by decide +kernel
theorem dX11_init_103 : decode cX11_init 103 = .ok (.newarray .int, 2) := by decide +kernel
theorem dX11_init_105 : decode cX11_init 105 = .ok (.putfield 49, 3) := by decide +kernel
theorem dX11_init_108 : decode cX11_init 108 = .ok (.aload_n 0, 1) := by decide +kernel
theorem dX11_init_109 : decode cX11_init 109 = .ok (.iconst 4, 1) := by decide +kernel
theorem dX11_init_110 : decode cX11_init 110 = .ok (.newarray .int, 2) := by decide +kernel
theorem dX11_init_112 : decode cX11_init 112 = .ok (.putfield 52, 3) := by decide +kernel
theorem dX11_init_115 : decode cX11_init 115 = .ok (.aload_n 0, 1) := by decide +kernel
theorem dX11_init_116 : decode cX11_init 116 = .ok (.bipush 16, 2) := by decide +kernel
theorem dX11_init_118 : decode cX11_init 118 = .ok (.newarray .int, 2) := by decide +kernel
theorem dX11_init_120 : decode cX11_init 120 = .ok (.putfield 55, 3) := by decide +kernel
theorem dX11_init_123 : decode cX11_init 123 = .ok (.aload_n 0, 1) := by decide +kernel
theorem dX11_init_124 : decode cX11_init 124 = .ok (.bipush 16, 2) := by decide +kernel
theorem dX11_init_126 : decode cX11_init 126 = .ok (.newarray .int, 2) := by decide +kernel
theorem dX11_init_128 : decode cX11_init 128 = .ok (.putfield 58, 3) := by decide +kernel
theorem dX11_init_131 : decode cX11_init 131 = .ok (.aload_n 0, 1) := by decide +kernel
theorem dX11_init_132 : decode cX11_init 132 = .ok (.bipush 16, 2) := by decide +kernel
theorem dX11_init_134 : decode cX11_init 134 = .ok (.newarray .int, 2) := by decide +kernel
theorem dX11_init_136 : decode cX11_init 136 = .ok (.putfield 61, 3) := by decide +kernel
theorem dX11_init_139 : decode cX11_init 139 = .ok (.aload_n 0, 1) := by decide +kernel
theorem dX11_init_140 : decode cX11_init 140 = .ok (.bipush 16, 2) := by decide +kernel
theorem dX11_init_142 : decode cX11_init 142 = .ok (.newarray .int, 2) := by decide +kernel
theorem dX11_init_144 : decode cX11_init 144 = .ok (.putfield 64, 3) := by decide +kernel
theorem dX11_init_147 : decode cX11_init 147 = .ok (.aload_n 0, 1) := by decide +kernel
theorem dX11_init_148 : decode cX11_init 148 = .ok (.bipush 6, 2) := by decide +kernel
theorem dX11_init_150 : decode cX11_init 150 = .ok (.newarray .int, 2) := by decide +kernel
theorem dX11_init_152 : decode cX11_init 152 = .ok (.putfield 67, 3) := by decide +kernel
theorem dX11_init_155 : decode cX11_init 155 = .ok (.aload_n 0, 1) := by decide +kernel
theorem dX11_init_156 : decode cX11_init 156 = .ok (.bipush 16, 2) := by decide +kernel
theorem dX11_init_158 : decode cX11_init 158 = .ok (.newarray .int, 2) := by decide +kernel
theorem dX11_init_160 : decode cX11_init 160 = .ok (.putfield 70, 3) := by decide +kernel
theorem dX11_init_163 : decode cX11_init 163 = .ok (.aload_n 0, 1) := by decide +kernel
theorem dX11_init_164 : decode cX11_init 164 = .ok (.bipush 70, 2) := by decide +kernel
theorem dX11_init_166 : decode cX11_init 166 = .ok (.newarray .int, 2) := by decide +kernel
theorem dX11_init_168 : decode cX11_init 168 = .ok (.putfield 73, 3) := by decide +kernel
theorem dX11_init_171 : decode cX11_init 171 = .ok (.aload_n 0, 1) := by decide +kernel
theorem dX11_init_172 : decode cX11_init 172 = .ok (.bipush 70, 2) := by decide +kernel
theorem dX11_init_174 : decode cX11_init 174 = .ok (.newarray .long, 2) := by decide +kernel
theorem dX11_init_176 : decode cX11_init 176 = .ok (.putfield 76, 3) := by decide +kernel
theorem dX11_init_179 : decode cX11_init 179 = .ok (.aload_n 0, 1) := by decide +kernel
theorem dX11_init_180 : decode cX11_init 180 = .ok (.bipush 70, 2) := by decide +kernel
theorem dX11_init_182 : decode cX11_init 182 = .ok (.newarray .long, 2) := by decide +kernel
theorem dX11_init_184 : decode cX11_init 184 = .ok (.putfield 79, 3) := by decide +kernel
theorem dX11_init_187 : decode cX11_init 187 = .ok (.aload_n 0, 1) := by decide +kernel
theorem dX11_init_188 : decode cX11_init 188 = .ok (.bipush 8, 2) := by decide +kernel
theorem dX11_init_190 : decode cX11_init 190 = .ok (.newarray .boolean, 2) := by decide +kernel
theorem dX11_init_192 : decode cX11_init 192 = .ok (.putfield 82, 3) := by decide +kernel
theorem dX11_init_195 : decode cX11_init 195 = .ok (.aload_n 0, 1) := by decide +kernel
theorem dX11_init_196 : decode cX11_init 196 = .ok (.bipush 8, 2) := by decide +kernel
theorem dX11_init_198 : decode cX11_init 198 = .ok (.newarray .int, 2) := by decide +kernel
theorem dX11_init_200 : decode cX11_init 200 = .ok (.putfield 85, 3) := by decide +kernel
theorem dX11_init_203 : decode cX11_init 203 = .ok (.aload_n 0, 1) := by decide +kernel
theorem dX11_init_204 : decode cX11_init 204 = .ok (.bipush 8, 2) := by decide +kernel
theorem dX11_init_206 : decode cX11_init 206 = .ok (.newarray .int, 2) := by decide +kernel
theorem dX11_init_208 : decode cX11_init 208 = .ok (.putfield 88, 3) := by decide +kernel
theorem dX11_init_211 : decode cX11_init 211 = .ok (.aload_n 0, 1) := by decide +kernel
theorem dX11_init_212 : decode cX11_init 212 = .ok (.sipush 625, 3) := by decide +kernel
theorem dX11_init_215 : decode cX11_init 215 = .ok (.newarray .boolean, 2) := by decide +kernel
theorem dX11_init_217 : decode cX11_init 217 = .ok (.putfield 91, 3) := by decide +kernel
theorem dX11_init_220 : decode cX11_init 220 = .ok (.aload_n 0, 1) := by decide +kernel
theorem dX11_init_221 : decode cX11_init 221 = .ok (.sipush 625, 3) := by decide +kernel
theorem dX11_init_224 : decode cX11_init 224 = .ok (.newarray .boolean, 2) := by decide +kernel
theorem dX11_init_226 : decode cX11_init 226 = .ok (.putfield 94, 3) := by decide +kernel
theorem dX11_init_229 : decode cX11_init 229 = .ok (.aload_n 0, 1) := by decide +kernel
theorem dX11_init_230 : decode cX11_init 230 = .ok (.sipush 2500, 3) := by decide +kernel
theorem dX11_init_233 : decode cX11_init 233 = .ok (.newarray .int, 2) := by decide +kernel
theorem dX11_init_235 : decode cX11_init 235 = .ok (.putfield 97, 3) := by decide +kernel
theorem dX11_init_238 : decode cX11_init 238 = .ok (.aload_n 0, 1) := by decide +kernel
theorem dX11_init_239 : decode cX11_init 239 = .ok (.sipush 625, 3) := by decide +kernel
theorem dX11_init_242 : decode cX11_init 242 = .ok (.newarray .int, 2) := by decide +kernel
theorem dX11_init_244 : decode cX11_init 244 = .ok (.putfield 100, 3) := by decide +kernel
theorem dX11_init_247 : decode cX11_init 247 = .ok (.aload_n 0, 1) := by decide +kernel
theorem dX11_init_248 : decode cX11_init 248 = .ok (.sipush 625, 3) := by decide +kernel
theorem dX11_init_251 : decode cX11_init 251 = .ok (.newarray .int, 2) := by decide +kernel
theorem dX11_init_253 : decode cX11_init 253 = .ok (.putfield 103, 3) := by decide +kernel
theorem dX11_init_256 : decode cX11_init 256 = .ok (.aload_n 0, 1) := by decide +kernel
theorem dX11_init_257 : decode cX11_init 257 = .ok (.sipush 156, 3) := by decide +kernel
theorem dX11_init_260 : decode cX11_init 260 = .ok (.newarray .int, 2) := by decide +kernel
theorem dX11_init_262 : decode cX11_init 262 = .ok (.putfield 106, 3) := by decide +kernel
theorem dX11_init_265 : decode cX11_init 265 = .ok (.aload_n 0, 1) := by decide +kernel
theorem dX11_init_266 : decode cX11_init 266 = .ok (.iconst 2, 1) := by decide +kernel
theorem dX11_init_267 : decode cX11_init 267 = .ok (.putfield 109, 3) := by decide +kernel
theorem dX11_init_270 : decode cX11_init 270 = .ok (.aload_n 0, 1) := by decide +kernel
theorem dX11_init_271 : decode cX11_init 271 = .ok (.iconst 2, 1) := by decide +kernel
theorem dX11_init_272 : decode cX11_init 272 = .ok (.putfield 113, 3) := by decide +kernel
theorem dX11_init_275 : decode cX11_init 275 = .ok (.aload_n 0, 1) := by decide +kernel
theorem dX11_init_276 : decode cX11_init 276 = .ok (.iconst 2, 1) := by decide +kernel
theorem dX11_init_277 : decode cX11_init 277 = .ok (.putfield 116, 3) := by decide +kernel
theorem dX11_init_280 : decode cX11_init 280 = .ok (.aload_n 0, 1) := by decide +kernel
theorem dX11_init_281 : decode cX11_init 281 = .ok (.invokevirtual 119, 3) := by decide +kernel
theorem dX11_init_284 : decode cX11_init 284 = .ok (.return_, 1) := by decide +kernel
theorem dX11_in_0 : decode cX11_in 0 = .ok (.lload_n 0, 1) := by decide +kernel
theorem dX11_in_1 : decode cX11_in 1 = .ok (.lload_n 2, 1) := by decide +kernel
theorem dX11_in_2 : decode cX11_in 2 = .ok (.lcmp, 1) := by decide +kernel
theorem dX11_in_3 : decode cX11_in 3 = .ok (.ifCond .lt 14, 3) := by decide +kernel
theorem dX11_in_6 : decode cX11_in 6 = .ok (.lload_n 0, 1) := by decide +kernel
theorem dX11_in_7 : decode cX11_in 7 = .ok (.lload 4, 2) := by decide +kernel
theorem dX11_in_9 : decode cX11_in 9 = .ok (.lcmp, 1) := by decide +kernel
theorem dX11_in_10 : decode cX11_in 10 = .ok (.ifCond .gt 7, 3) := by decide +kernel
theorem dX11_in_13 : decode cX11_in 13 = .ok (.iconst 1, 1) := by decide +kernel
theorem dX11_in_14 : decode cX11_in 14 = .ok (.goto 4, 3) := by decide +kernel
theorem dX11_in_17 : decode cX11_in 17 = .ok (.iconst 0, 1) := by decide +kernel
theorem dX11_in_18 : decode cX11_in 18 = .ok (.ireturn, 1) := by decide +kernel
theorem dX11_no_0 : decode cX11_no 0 = .ok (.ldc2_w 122, 3) := by decide +kernel
theorem dX11_no_3 : decode cX11_no 3 = .ok (.iload_n 0, 1) := by decide +kernel
theorem dX11_no_4 : decode cX11_no 4 = .ok (.i2l, 1) := by decide +kernel
theorem dX11_no_5 : decode cX11_no 5 = .ok (.lsub, 1) := by decide +kernel
theorem dX11_no_6 : decode cX11_no 6 = .ok (.lreturn, 1) := by decide +kernel
theorem dX11_reads_0 : decode cX11_reads 0 = .ok (.iload_n 1, 1) := by decide +kernel
theorem dX11_reads_1 : decode cX11_reads 1 = .ok (.i2l, 1) := by decide +kernel
theorem dX11_reads_2 : decode cX11_reads 2 = .ok (.lconst 1, 1) := by decide +kernel
theorem dX11_reads_3 : decode cX11_reads 3 = .ok (.ldc2_w 124, 3) := by decide +kernel
theorem dX11_reads_6 : decode cX11_reads 6 = .ok (.invokestatic 126, 3) := by decide +kernel
theorem dX11_reads_9 : decode cX11_reads 9 = .ok (.ifCond .ne 5, 3) := by decide +kernel
theorem dX11_reads_12 : decode cX11_reads 12 = .ok (.iconst 0, 1) := by decide +kernel
theorem dX11_reads_13 : decode cX11_reads 13 = .ok (.ireturn, 1) := by decide +kernel
theorem dX11_reads_14 : decode cX11_reads 14 = .ok (.aload_n 0, 1) := by decide +kernel
theorem dX11_reads_15 : decode cX11_reads 15 = .ok (.iconst 0, 1) := by decide +kernel
theorem dX11_reads_16 : decode cX11_reads 16 = .ok (.putfield 130, 3) := by decide +kernel
theorem dX11_reads_19 : decode cX11_reads 19 = .ok (.iload_n 1, 1) := by decide +kernel
theorem dX11_reads_20 : decode cX11_reads 20 = .ok (.istore_n 2, 1) := by decide +kernel
theorem dX11_reads_21 : decode cX11_reads 21 = .ok (.iload_n 2, 1) := by decide +kernel
theorem dX11_reads_22 : decode cX11_reads 22 = .ok (.ifCond .le 21, 3) := by decide +kernel
theorem dX11_reads_25 : decode cX11_reads 25 = .ok (.aload_n 0, 1) := by decide +kernel
theorem dX11_reads_26 : decode cX11_reads 26 = .ok (.dup, 1) := by decide +kernel
theorem dX11_reads_27 : decode cX11_reads 27 = .ok (.getfield 130, 3) := by decide +kernel
theorem dX11_reads_30 : decode cX11_reads 30 = .ok (.iconst 1, 1) := by decide +kernel
theorem dX11_reads_31 : decode cX11_reads 31 = .ok (.iadd, 1) := by decide +kernel
theorem dX11_reads_32 : decode cX11_reads 32 = .ok (.putfield 130, 3) := by decide +kernel
theorem dX11_reads_35 : decode cX11_reads 35 = .ok (.iload_n 2, 1) := by decide +kernel
theorem dX11_reads_36 : decode cX11_reads 36 = .ok (.bipush 10, 2) := by decide +kernel
theorem dX11_reads_38 : decode cX11_reads 38 = .ok (.idiv, 1) := by decide +kernel
theorem dX11_reads_39 : decode cX11_reads 39 = .ok (.istore_n 2, 1) := by decide +kernel
theorem dX11_reads_40 : decode cX11_reads 40 = .ok (.goto (-19), 3) := by decide +kernel
theorem dX11_reads_43 : decode cX11_reads 43 = .ok (.iconst 0, 1) := by decide +kernel
theorem dX11_reads_44 : decode cX11_reads 44 = .ok (.istore_n 2, 1) := by decide +kernel
theorem dX11_reads_45 : decode cX11_reads 45 = .ok (.iload_n 1, 1) := by decide +kernel
theorem dX11_reads_46 : decode cX11_reads 46 = .ok (.istore_n 3, 1) := by decide +kernel
theorem dX11_reads_47 : decode cX11_reads 47 = .ok (.aload_n 0, 1) := by decide +kernel
theorem dX11_reads_48 : decode cX11_reads 48 = .ok (.getfield 130, 3) := by decide +kernel
theorem dX11_reads_51 : decode cX11_reads 51 = .ok (.iconst 1, 1) := by decide +kernel
theorem dX11_reads_52 : decode cX11_reads 52 = .ok (.isub, 1) := by decide +kernel
theorem dX11_reads_53 : decode cX11_reads 53 = .ok (.istore 4, 2) := by decide +kernel
theorem dX11_reads_55 : decode cX11_reads 55 = .ok (.iload 4, 2) := by decide +kernel
theorem dX11_reads_57 : decode cX11_reads 57 = .ok (.ifCond .lt 34, 3) := by decide +kernel
theorem dX11_reads_60 : decode cX11_reads 60 = .ok (.aload_n 0, 1) := by decide +kernel
theorem dX11_reads_61 : decode cX11_reads 61 = .ok (.getfield 7, 3) := by decide +kernel
theorem dX11_reads_64 : decode cX11_reads 64 = .ok (.iload 4, 2) := by decide +kernel
theorem dX11_reads_66 : decode cX11_reads 66 = .ok (.iload_n 3, 1) := by decide +kernel
theorem dX11_reads_67 : decode cX11_reads 67 = .ok (.bipush 10, 2) := by decide +kernel
theorem dX11_reads_69 : decode cX11_reads 69 = .ok (.irem, 1) := by decide +kernel
theorem dX11_reads_70 : decode cX11_reads 70 = .ok (.iastore, 1) := by decide +kernel
theorem dX11_reads_71 : decode cX11_reads 71 = .ok (.iload_n 2, 1) := by decide +kernel
theorem dX11_reads_72 : decode cX11_reads 72 = .ok (.iconst 1, 1) := by decide +kernel
theorem dX11_reads_73 : decode cX11_reads 73 = .ok (.iload_n 3, 1) := by decide +kernel
theorem dX11_reads_74 : decode cX11_reads 74 = .ok (.bipush 10, 2) := by decide +kernel
theorem dX11_reads_76 : decode cX11_reads 76 = .ok (.irem, 1) := by decide +kernel
theorem dX11_reads_77 : decode cX11_reads 77 = .ok (.ishl, 1) := by decide +kernel
theorem dX11_reads_78 : decode cX11_reads 78 = .ok (.ior, 1) := by decide +kernel
theorem dX11_reads_79 : decode cX11_reads 79 = .ok (.istore_n 2, 1) := by decide +kernel
theorem dX11_reads_80 : decode cX11_reads 80 = .ok (.iload_n 3, 1) := by decide +kernel
theorem dX11_reads_81 : decode cX11_reads 81 = .ok (.bipush 10, 2) := by decide +kernel
theorem dX11_reads_83 : decode cX11_reads 83 = .ok (.idiv, 1) := by decide +kernel
theorem dX11_reads_84 : decode cX11_reads 84 = .ok (.istore_n 3, 1) := by decide +kernel
theorem dX11_reads_85 : decode cX11_reads 85 = .ok (.iinc 4 (-1), 3) := by decide +kernel
theorem dX11_reads_88 : decode cX11_reads 88 = .ok (.goto (-33), 3) := by decide +kernel
theorem dX11_reads_91 : decode cX11_reads 91 = .ok (.iload_n 2, 1) := by decide +kernel
theorem dX11_reads_92 : decode cX11_reads 92 = .ok (.iconst 2, 1) := by decide +kernel
theorem dX11_reads_93 : decode cX11_reads 93 = .ok (.aload_n 0, 1) := by decide +kernel
theorem dX11_reads_94 : decode cX11_reads 94 = .ok (.getfield 130, 3) := by decide +kernel
theorem dX11_reads_97 : decode cX11_reads 97 = .ok (.ishl, 1) := by decide +kernel
theorem dX11_reads_98 : decode cX11_reads 98 = .ok (.iconst 2, 1) := by decide +kernel
theorem dX11_reads_99 : decode cX11_reads 99 = .ok (.isub, 1) := by decide +kernel
theorem dX11_reads_100 : decode cX11_reads 100 = .ok (.if_icmp .ne 7, 3) := by decide +kernel
theorem dX11_reads_103 : decode cX11_reads 103 = .ok (.iconst 1, 1) := by decide +kernel
theorem dX11_reads_104 : decode cX11_reads 104 = .ok (.goto 4, 3) := by decide +kernel
theorem dX11_reads_107 : decode cX11_reads 107 = .ok (.iconst 0, 1) := by decide +kernel
theorem dX11_reads_108 : decode cX11_reads 108 = .ok (.ireturn, 1) := by decide +kernel
theorem dX11_told_0 : decode cX11_told 0 = .ok (.iconst 0, 1) := by decide +kernel
theorem dX11_told_1 : decode cX11_told 1 = .ok (.istore_n 1, 1) := by decide +kernel
theorem dX11_told_2 : decode cX11_told 2 = .ok (.iconst 0, 1) := by decide +kernel
theorem dX11_told_3 : decode cX11_told 3 = .ok (.istore_n 2, 1) := by decide +kernel
theorem dX11_told_4 : decode cX11_told 4 = .ok (.iload_n 2, 1) := by decide +kernel
theorem dX11_told_5 : decode cX11_told 5 = .ok (.aload_n 0, 1) := by decide +kernel
theorem dX11_told_6 : decode cX11_told 6 = .ok (.getfield 130, 3) := by decide +kernel
theorem dX11_told_9 : decode cX11_told 9 = .ok (.if_icmp .ge 21, 3) := by decide +kernel
theorem dX11_told_12 : decode cX11_told 12 = .ok (.bipush 10, 2) := by decide +kernel
theorem dX11_told_14 : decode cX11_told 14 = .ok (.iload_n 1, 1) := by decide +kernel
theorem dX11_told_15 : decode cX11_told 15 = .ok (.imul, 1) := by decide +kernel
theorem dX11_told_16 : decode cX11_told 16 = .ok (.aload_n 0, 1) := by decide +kernel
theorem dX11_told_17 : decode cX11_told 17 = .ok (.getfield 7, 3) := by decide +kernel
theorem dX11_told_20 : decode cX11_told 20 = .ok (.iload_n 2, 1) := by decide +kernel
theorem dX11_told_21 : decode cX11_told 21 = .ok (.iaload, 1) := by decide +kernel
theorem dX11_told_22 : decode cX11_told 22 = .ok (.iadd, 1) := by decide +kernel
theorem dX11_told_23 : decode cX11_told 23 = .ok (.istore_n 1, 1) := by decide +kernel
theorem dX11_told_24 : decode cX11_told 24 = .ok (.iinc 2 1, 3) := by decide +kernel
theorem dX11_told_27 : decode cX11_told 27 = .ok (.goto (-23), 3) := by decide +kernel
theorem dX11_told_30 : decode cX11_told 30 = .ok (.iload_n 1, 1) := by decide +kernel
theorem dX11_told_31 : decode cX11_told 31 = .ok (.ireturn, 1) := by decide +kernel
theorem dX11_lengthNow_0 : decode cX11_lengthNow 0 = .ok (.iconst 0, 1) := by decide +kernel
theorem dX11_lengthNow_1 : decode cX11_lengthNow 1 = .ok (.istore_n 1, 1) := by decide +kernel
theorem dX11_lengthNow_2 : decode cX11_lengthNow 2 = .ok (.iconst 0, 1) := by decide +kernel
theorem dX11_lengthNow_3 : decode cX11_lengthNow 3 = .ok (.istore_n 2, 1) := by decide +kernel
theorem dX11_lengthNow_4 : decode cX11_lengthNow 4 = .ok (.iload_n 2, 1) := by decide +kernel
theorem dX11_lengthNow_5 : decode cX11_lengthNow 5 = .ok (.aload_n 0, 1) := by decide +kernel
theorem dX11_lengthNow_6 : decode cX11_lengthNow 6 = .ok (.getfield 130, 3) := by decide +kernel
theorem dX11_lengthNow_9 : decode cX11_lengthNow 9 = .ok (.if_icmp .ge 50, 3) := by decide +kernel
theorem dX11_lengthNow_12 : decode cX11_lengthNow 12 = .ok (.iload_n 2, 1) := by decide +kernel
theorem dX11_lengthNow_13 : decode cX11_lengthNow 13 = .ok (.iconst 1, 1) := by decide +kernel
theorem dX11_lengthNow_14 : decode cX11_lengthNow 14 = .ok (.iadd, 1) := by decide +kernel
theorem dX11_lengthNow_15 : decode cX11_lengthNow 15 = .ok (.istore_n 3, 1) := by decide +kernel
theorem dX11_lengthNow_16 : decode cX11_lengthNow 16 = .ok (.iload_n 3, 1) := by decide +kernel
theorem dX11_lengthNow_17 : decode cX11_lengthNow 17 = .ok (.aload_n 0, 1) := by decide +kernel
theorem dX11_lengthNow_18 : decode cX11_lengthNow 18 = .ok (.getfield 130, 3) := by decide +kernel
theorem dX11_lengthNow_21 : decode cX11_lengthNow 21 = .ok (.if_icmp .ge 32, 3) := by decide +kernel
theorem dX11_lengthNow_24 : decode cX11_lengthNow 24 = .ok (.iload_n 1, 1) := by decide +kernel
theorem dX11_lengthNow_25 : decode cX11_lengthNow 25 = .ok (.aload_n 0, 1) := by decide +kernel
theorem dX11_lengthNow_26 : decode cX11_lengthNow 26 = .ok (.getfield 7, 3) := by decide +kernel
theorem dX11_lengthNow_29 : decode cX11_lengthNow 29 = .ok (.iload_n 2, 1) := by decide +kernel
theorem dX11_lengthNow_30 : decode cX11_lengthNow 30 = .ok (.iaload, 1) := by decide +kernel
theorem dX11_lengthNow_31 : decode cX11_lengthNow 31 = .ok (.aload_n 0, 1) := by decide +kernel
theorem dX11_lengthNow_32 : decode cX11_lengthNow 32 = .ok (.getfield 7, 3) := by decide +kernel
theorem dX11_lengthNow_35 : decode cX11_lengthNow 35 = .ok (.iload_n 3, 1) := by decide +kernel
theorem dX11_lengthNow_36 : decode cX11_lengthNow 36 = .ok (.iaload, 1) := by decide +kernel
theorem dX11_lengthNow_37 : decode cX11_lengthNow 37 = .ok (.if_icmp .le 7, 3) := by decide +kernel
theorem dX11_lengthNow_40 : decode cX11_lengthNow 40 = .ok (.iconst 1, 1) := by decide +kernel
theorem dX11_lengthNow_41 : decode cX11_lengthNow 41 = .ok (.goto 4, 3) := by decide +kernel
theorem dX11_lengthNow_44 : decode cX11_lengthNow 44 = .ok (.iconst 0, 1) := by decide +kernel
theorem dX11_lengthNow_45 : decode cX11_lengthNow 45 = .ok (.iadd, 1) := by decide +kernel
theorem dX11_lengthNow_46 : decode cX11_lengthNow 46 = .ok (.istore_n 1, 1) := by decide +kernel
theorem dX11_lengthNow_47 : decode cX11_lengthNow 47 = .ok (.iinc 3 1, 3) := by decide +kernel
theorem dX11_lengthNow_50 : decode cX11_lengthNow 50 = .ok (.goto (-34), 3) := by decide +kernel
theorem dX11_lengthNow_53 : decode cX11_lengthNow 53 = .ok (.iinc 2 1, 3) := by decide +kernel
theorem dX11_lengthNow_56 : decode cX11_lengthNow 56 = .ok (.goto (-52), 3) := by decide +kernel
theorem dX11_lengthNow_59 : decode cX11_lengthNow 59 = .ok (.iload_n 1, 1) := by decide +kernel
theorem dX11_lengthNow_60 : decode cX11_lengthNow 60 = .ok (.ireturn, 1) := by decide +kernel
theorem dX11_change_0 : decode cX11_change 0 = .ok (.aload_n 0, 1) := by decide +kernel
theorem dX11_change_1 : decode cX11_change 1 = .ok (.getfield 7, 3) := by decide +kernel
theorem dX11_change_4 : decode cX11_change 4 = .ok (.iload_n 1, 1) := by decide +kernel
theorem dX11_change_5 : decode cX11_change 5 = .ok (.iaload, 1) := by decide +kernel
theorem dX11_change_6 : decode cX11_change 6 = .ok (.istore_n 3, 1) := by decide +kernel
theorem dX11_change_7 : decode cX11_change 7 = .ok (.aload_n 0, 1) := by decide +kernel
theorem dX11_change_8 : decode cX11_change 8 = .ok (.getfield 7, 3) := by decide +kernel
theorem dX11_change_11 : decode cX11_change 11 = .ok (.iload_n 1, 1) := by decide +kernel
theorem dX11_change_12 : decode cX11_change 12 = .ok (.aload_n 0, 1) := by decide +kernel
theorem dX11_change_13 : decode cX11_change 13 = .ok (.getfield 7, 3) := by decide +kernel
theorem dX11_change_16 : decode cX11_change 16 = .ok (.iload_n 2, 1) := by decide +kernel
theorem dX11_change_17 : decode cX11_change 17 = .ok (.iaload, 1) := by decide +kernel
theorem dX11_change_18 : decode cX11_change 18 = .ok (.iastore, 1) := by decide +kernel
theorem dX11_change_19 : decode cX11_change 19 = .ok (.aload_n 0, 1) := by decide +kernel
theorem dX11_change_20 : decode cX11_change 20 = .ok (.getfield 7, 3) := by decide +kernel
theorem dX11_change_23 : decode cX11_change 23 = .ok (.iload_n 2, 1) := by decide +kernel
theorem dX11_change_24 : decode cX11_change 24 = .ok (.iload_n 3, 1) := by decide +kernel
theorem dX11_change_25 : decode cX11_change 25 = .ok (.iastore, 1) := by decide +kernel
theorem dX11_change_26 : decode cX11_change 26 = .ok (.return_, 1) := by decide +kernel
theorem dX11_length_0 : decode cX11_length 0 = .ok (.aload_n 0, 1) := by decide +kernel
theorem dX11_length_1 : decode cX11_length 1 = .ok (.iload_n 1, 1) := by decide +kernel
theorem dX11_length_2 : decode cX11_length 2 = .ok (.invokevirtual 133, 3) := by decide +kernel
theorem dX11_length_5 : decode cX11_length 5 = .ok (.ifCond .eq 10, 3) := by decide +kernel
theorem dX11_length_8 : decode cX11_length 8 = .ok (.aload_n 0, 1) := by decide +kernel
theorem dX11_length_9 : decode cX11_length 9 = .ok (.invokevirtual 137, 3) := by decide +kernel
theorem dX11_length_12 : decode cX11_length 12 = .ok (.goto 5, 3) := by decide +kernel
theorem dX11_length_15 : decode cX11_length 15 = .ok (.bipush (-2), 2) := by decide +kernel
theorem dX11_length_17 : decode cX11_length 17 = .ok (.ireturn, 1) := by decide +kernel
theorem dX11_exchange_0 : decode cX11_exchange 0 = .ok (.aload_n 0, 1) := by decide +kernel
theorem dX11_exchange_1 : decode cX11_exchange 1 = .ok (.iload_n 1, 1) := by decide +kernel
theorem dX11_exchange_2 : decode cX11_exchange 2 = .ok (.invokevirtual 133, 3) := by decide +kernel
theorem dX11_exchange_5 : decode cX11_exchange 5 = .ok (.ifCond .eq 19, 3) := by decide +kernel
theorem dX11_exchange_8 : decode cX11_exchange 8 = .ok (.iload_n 2, 1) := by decide +kernel
theorem dX11_exchange_9 : decode cX11_exchange 9 = .ok (.i2l, 1) := by decide +kernel
theorem dX11_exchange_10 : decode cX11_exchange 10 = .ok (.lconst 1, 1) := by decide +kernel
theorem dX11_exchange_11 : decode cX11_exchange 11 = .ok (.aload_n 0, 1) := by decide +kernel
theorem dX11_exchange_12 : decode cX11_exchange 12 = .ok (.getfield 130, 3) := by decide +kernel
theorem dX11_exchange_15 : decode cX11_exchange 15 = .ok (.iconst 1, 1) := by decide +kernel
theorem dX11_exchange_16 : decode cX11_exchange 16 = .ok (.isub, 1) := by decide +kernel
theorem dX11_exchange_17 : decode cX11_exchange 17 = .ok (.i2l, 1) := by decide +kernel
theorem dX11_exchange_18 : decode cX11_exchange 18 = .ok (.invokestatic 126, 3) := by decide +kernel
theorem dX11_exchange_21 : decode cX11_exchange 21 = .ok (.ifCond .ne 6, 3) := by decide +kernel
theorem dX11_exchange_24 : decode cX11_exchange 24 = .ok (.bipush (-2), 2) := by decide +kernel
theorem dX11_exchange_26 : decode cX11_exchange 26 = .ok (.ireturn, 1) := by decide +kernel
theorem dX11_exchange_27 : decode cX11_exchange 27 = .ok (.aload_n 0, 1) := by decide +kernel
theorem dX11_exchange_28 : decode cX11_exchange 28 = .ok (.iload_n 2, 1) := by decide +kernel
theorem dX11_exchange_29 : decode cX11_exchange 29 = .ok (.iconst 1, 1) := by decide +kernel
theorem dX11_exchange_30 : decode cX11_exchange 30 = .ok (.isub, 1) := by decide +kernel
theorem dX11_exchange_31 : decode cX11_exchange 31 = .ok (.iload_n 2, 1) := by decide +kernel
theorem dX11_exchange_32 : decode cX11_exchange 32 = .ok (.invokevirtual 141, 3) := by decide +kernel
theorem dX11_exchange_35 : decode cX11_exchange 35 = .ok (.aload_n 0, 1) := by decide +kernel
theorem dX11_exchange_36 : decode cX11_exchange 36 = .ok (.invokevirtual 145, 3) := by decide +kernel
theorem dX11_exchange_39 : decode cX11_exchange 39 = .ok (.ireturn, 1) := by decide +kernel
theorem dX11_inverse_0 : decode cX11_inverse 0 = .ok (.aload_n 0, 1) := by decide +kernel
theorem dX11_inverse_1 : decode cX11_inverse 1 = .ok (.iload_n 1, 1) := by decide +kernel
theorem dX11_inverse_2 : decode cX11_inverse 2 = .ok (.invokevirtual 133, 3) := by decide +kernel
theorem dX11_inverse_5 : decode cX11_inverse 5 = .ok (.ifCond .ne 6, 3) := by decide +kernel
theorem dX11_inverse_8 : decode cX11_inverse 8 = .ok (.bipush (-2), 2) := by decide +kernel
theorem dX11_inverse_10 : decode cX11_inverse 10 = .ok (.ireturn, 1) := by decide +kernel
theorem dX11_inverse_11 : decode cX11_inverse 11 = .ok (.iconst 0, 1) := by decide +kernel
theorem dX11_inverse_12 : decode cX11_inverse 12 = .ok (.istore_n 2, 1) := by decide +kernel
theorem dX11_inverse_13 : decode cX11_inverse 13 = .ok (.iconst 1, 1) := by decide +kernel
theorem dX11_inverse_14 : decode cX11_inverse 14 = .ok (.istore_n 3, 1) := by decide +kernel
theorem dX11_inverse_15 : decode cX11_inverse 15 = .ok (.iload_n 3, 1) := by decide +kernel
theorem dX11_inverse_16 : decode cX11_inverse 16 = .ok (.aload_n 0, 1) := by decide +kernel
theorem dX11_inverse_17 : decode cX11_inverse 17 = .ok (.getfield 130, 3) := by decide +kernel
theorem dX11_inverse_20 : decode cX11_inverse 20 = .ok (.if_icmp .gt 52, 3) := by decide +kernel
theorem dX11_inverse_23 : decode cX11_inverse 23 = .ok (.iconst 0, 1) := by decide +kernel
theorem dX11_inverse_24 : decode cX11_inverse 24 = .ok (.istore 4, 2) := by decide +kernel
theorem dX11_inverse_26 : decode cX11_inverse 26 = .ok (.iload 4, 2) := by decide +kernel
theorem dX11_inverse_28 : decode cX11_inverse 28 = .ok (.aload_n 0, 1) := by decide +kernel
theorem dX11_inverse_29 : decode cX11_inverse 29 = .ok (.getfield 130, 3) := by decide +kernel
theorem dX11_inverse_32 : decode cX11_inverse 32 = .ok (.if_icmp .ge 34, 3) := by decide +kernel
theorem dX11_inverse_35 : decode cX11_inverse 35 = .ok (.aload_n 0, 1) := by decide +kernel
theorem dX11_inverse_36 : decode cX11_inverse 36 = .ok (.getfield 7, 3) := by decide +kernel
theorem dX11_inverse_39 : decode cX11_inverse 39 = .ok (.iload 4, 2) := by decide +kernel
theorem dX11_inverse_41 : decode cX11_inverse 41 = .ok (.iaload, 1) := by decide +kernel
theorem dX11_inverse_42 : decode cX11_inverse 42 = .ok (.iload_n 3, 1) := by decide +kernel
theorem dX11_inverse_43 : decode cX11_inverse 43 = .ok (.if_icmp .ne 15, 3) := by decide +kernel
theorem dX11_inverse_46 : decode cX11_inverse 46 = .ok (.bipush 10, 2) := by decide +kernel
theorem dX11_inverse_48 : decode cX11_inverse 48 = .ok (.iload_n 2, 1) := by decide +kernel
theorem dX11_inverse_49 : decode cX11_inverse 49 = .ok (.imul, 1) := by decide +kernel
theorem dX11_inverse_50 : decode cX11_inverse 50 = .ok (.iload 4, 2) := by decide +kernel
theorem dX11_inverse_52 : decode cX11_inverse 52 = .ok (.iadd, 1) := by decide +kernel
theorem dX11_inverse_53 : decode cX11_inverse 53 = .ok (.iconst 1, 1) := by decide +kernel
theorem dX11_inverse_54 : decode cX11_inverse 54 = .ok (.iadd, 1) := by decide +kernel
theorem dX11_inverse_55 : decode cX11_inverse 55 = .ok (.goto 4, 3) := by decide +kernel
theorem dX11_inverse_58 : decode cX11_inverse 58 = .ok (.iload_n 2, 1) := by decide +kernel
theorem dX11_inverse_59 : decode cX11_inverse 59 = .ok (.istore_n 2, 1) := by decide +kernel
theorem dX11_inverse_60 : decode cX11_inverse 60 = .ok (.iinc 4 1, 3) := by decide +kernel
theorem dX11_inverse_63 : decode cX11_inverse 63 = .ok (.goto (-37), 3) := by decide +kernel
theorem dX11_inverse_66 : decode cX11_inverse 66 = .ok (.iinc 3 1, 3) := by decide +kernel
theorem dX11_inverse_69 : decode cX11_inverse 69 = .ok (.goto (-54), 3) := by decide +kernel
theorem dX11_inverse_72 : decode cX11_inverse 72 = .ok (.iload_n 2, 1) := by decide +kernel
theorem dX11_inverse_73 : decode cX11_inverse 73 = .ok (.ireturn, 1) := by decide +kernel
theorem dX11_orders_0 : decode cX11_orders 0 = .ok (.iload_n 1, 1) := by decide +kernel
theorem dX11_orders_1 : decode cX11_orders 1 = .ok (.i2l, 1) := by decide +kernel
theorem dX11_orders_2 : decode cX11_orders 2 = .ok (.lconst 1, 1) := by decide +kernel
theorem dX11_orders_3 : decode cX11_orders 3 = .ok (.ldc2_w 148, 3) := by decide +kernel
theorem dX11_orders_6 : decode cX11_orders 6 = .ok (.invokestatic 126, 3) := by decide +kernel
theorem dX11_orders_9 : decode cX11_orders 9 = .ok (.ifCond .eq 7, 3) := by decide +kernel
theorem dX11_orders_12 : decode cX11_orders 12 = .ok (.iload_n 2, 1) := by decide +kernel
theorem dX11_orders_13 : decode cX11_orders 13 = .ok (.ifCond .ge 6, 3) := by decide +kernel
theorem dX11_orders_16 : decode cX11_orders 16 = .ok (.bipush (-2), 2) := by decide +kernel
theorem dX11_orders_18 : decode cX11_orders 18 = .ok (.ireturn, 1) := by decide +kernel
theorem dX11_orders_19 : decode cX11_orders 19 = .ok (.iconst 0, 1) := by decide +kernel
theorem dX11_orders_20 : decode cX11_orders 20 = .ok (.istore_n 3, 1) := by decide +kernel
theorem dX11_orders_21 : decode cX11_orders 21 = .ok (.iconst 1, 1) := by decide +kernel
theorem dX11_orders_22 : decode cX11_orders 22 = .ok (.istore 4, 2) := by decide +kernel
theorem dX11_orders_24 : decode cX11_orders 24 = .ok (.iconst 0, 1) := by decide +kernel
theorem dX11_orders_25 : decode cX11_orders 25 = .ok (.istore 5, 2) := by decide +kernel
theorem dX11_orders_27 : decode cX11_orders 27 = .ok (.iload 5, 2) := by decide +kernel
theorem dX11_orders_29 : decode cX11_orders 29 = .ok (.iload_n 1, 1) := by decide +kernel
theorem dX11_orders_30 : decode cX11_orders 30 = .ok (.if_icmp .ge 16, 3) := by decide +kernel
theorem dX11_orders_33 : decode cX11_orders 33 = .ok (.bipush 10, 2) := by decide +kernel
theorem dX11_orders_35 : decode cX11_orders 35 = .ok (.iload 4, 2) := by decide +kernel
theorem dX11_orders_37 : decode cX11_orders 37 = .ok (.imul, 1) := by decide +kernel
theorem dX11_orders_38 : decode cX11_orders 38 = .ok (.istore 4, 2) := by decide +kernel
theorem dX11_orders_40 : decode cX11_orders 40 = .ok (.iinc 5 1, 3) := by decide +kernel
theorem dX11_orders_43 : decode cX11_orders 43 = .ok (.goto (-16), 3) := by decide +kernel
theorem dX11_orders_46 : decode cX11_orders 46 = .ok (.iload 4, 2) := by decide +kernel
theorem dX11_orders_48 : decode cX11_orders 48 = .ok (.bipush 10, 2) := by decide +kernel
theorem dX11_orders_50 : decode cX11_orders 50 = .ok (.idiv, 1) := by decide +kernel
theorem dX11_orders_51 : decode cX11_orders 51 = .ok (.istore 5, 2) := by decide +kernel
theorem dX11_orders_53 : decode cX11_orders 53 = .ok (.iload 5, 2) := by decide +kernel
theorem dX11_orders_55 : decode cX11_orders 55 = .ok (.iload 4, 2) := by decide +kernel
theorem dX11_orders_57 : decode cX11_orders 57 = .ok (.if_icmp .ge 42, 3) := by decide +kernel
theorem dX11_orders_60 : decode cX11_orders 60 = .ok (.iload_n 3, 1) := by decide +kernel
theorem dX11_orders_61 : decode cX11_orders 61 = .ok (.aload_n 0, 1) := by decide +kernel
theorem dX11_orders_62 : decode cX11_orders 62 = .ok (.iload 5, 2) := by decide +kernel
theorem dX11_orders_64 : decode cX11_orders 64 = .ok (.invokevirtual 133, 3) := by decide +kernel
theorem dX11_orders_67 : decode cX11_orders 67 = .ok (.ifCond .eq 23, 3) := by decide +kernel
theorem dX11_orders_70 : decode cX11_orders 70 = .ok (.aload_n 0, 1) := by decide +kernel
theorem dX11_orders_71 : decode cX11_orders 71 = .ok (.getfield 130, 3) := by decide +kernel
theorem dX11_orders_74 : decode cX11_orders 74 = .ok (.iload_n 1, 1) := by decide +kernel
theorem dX11_orders_75 : decode cX11_orders 75 = .ok (.if_icmp .ne 15, 3) := by decide +kernel
theorem dX11_orders_78 : decode cX11_orders 78 = .ok (.aload_n 0, 1) := by decide +kernel
theorem dX11_orders_79 : decode cX11_orders 79 = .ok (.invokevirtual 137, 3) := by decide +kernel
theorem dX11_orders_82 : decode cX11_orders 82 = .ok (.iload_n 2, 1) := by decide +kernel
theorem dX11_orders_83 : decode cX11_orders 83 = .ok (.if_icmp .ne 7, 3) := by decide +kernel
theorem dX11_orders_86 : decode cX11_orders 86 = .ok (.iconst 1, 1) := by decide +kernel
theorem dX11_orders_87 : decode cX11_orders 87 = .ok (.goto 4, 3) := by decide +kernel
theorem dX11_orders_90 : decode cX11_orders 90 = .ok (.iconst 0, 1) := by decide +kernel
theorem dX11_orders_91 : decode cX11_orders 91 = .ok (.iadd, 1) := by decide +kernel
theorem dX11_orders_92 : decode cX11_orders 92 = .ok (.istore_n 3, 1) := by decide +kernel
theorem dX11_orders_93 : decode cX11_orders 93 = .ok (.iinc 5 1, 3) := by decide +kernel
theorem dX11_orders_96 : decode cX11_orders 96 = .ok (.goto (-43), 3) := by decide +kernel
theorem dX11_orders_99 : decode cX11_orders 99 = .ok (.iload_n 3, 1) := by decide +kernel
theorem dX11_orders_100 : decode cX11_orders 100 = .ok (.ireturn, 1) := by decide +kernel
theorem dX11_step_0 : decode cX11_step 0 = .ok (.aload_n 0, 1) := by decide +kernel
theorem dX11_step_1 : decode cX11_step 1 = .ok (.iload_n 1, 1) := by decide +kernel
theorem dX11_step_2 : decode cX11_step 2 = .ok (.invokevirtual 133, 3) := by decide +kernel
theorem dX11_step_5 : decode cX11_step 5 = .ok (.ifCond .eq 25, 3) := by decide +kernel
theorem dX11_step_8 : decode cX11_step 8 = .ok (.aload_n 0, 1) := by decide +kernel
theorem dX11_step_9 : decode cX11_step 9 = .ok (.getfield 130, 3) := by decide +kernel
theorem dX11_step_12 : decode cX11_step 12 = .ok (.iconst 4, 1) := by decide +kernel
theorem dX11_step_13 : decode cX11_step 13 = .ok (.if_icmp .gt 17, 3) := by decide +kernel
theorem dX11_step_16 : decode cX11_step 16 = .ok (.iload_n 2, 1) := by decide +kernel
theorem dX11_step_17 : decode cX11_step 17 = .ok (.i2l, 1) := by decide +kernel
theorem dX11_step_18 : decode cX11_step 18 = .ok (.lconst 1, 1) := by decide +kernel
theorem dX11_step_19 : decode cX11_step 19 = .ok (.aload_n 0, 1) := by decide +kernel
theorem dX11_step_20 : decode cX11_step 20 = .ok (.getfield 130, 3) := by decide +kernel
theorem dX11_step_23 : decode cX11_step 23 = .ok (.i2l, 1) := by decide +kernel
theorem dX11_step_24 : decode cX11_step 24 = .ok (.invokestatic 126, 3) := by decide +kernel
theorem dX11_step_27 : decode cX11_step 27 = .ok (.ifCond .ne 6, 3) := by decide +kernel
theorem dX11_step_30 : decode cX11_step 30 = .ok (.bipush (-2), 2) := by decide +kernel
theorem dX11_step_32 : decode cX11_step 32 = .ok (.ireturn, 1) := by decide +kernel
theorem dX11_step_33 : decode cX11_step 33 = .ok (.aload_n 0, 1) := by decide +kernel
theorem dX11_step_34 : decode cX11_step 34 = .ok (.getfield 7, 3) := by decide +kernel
theorem dX11_step_37 : decode cX11_step 37 = .ok (.aload_n 0, 1) := by decide +kernel
theorem dX11_step_38 : decode cX11_step 38 = .ok (.getfield 130, 3) := by decide +kernel
theorem dX11_step_41 : decode cX11_step 41 = .ok (.aload_n 0, 1) := by decide +kernel
theorem dX11_step_42 : decode cX11_step 42 = .ok (.getfield 130, 3) := by decide +kernel
theorem dX11_step_45 : decode cX11_step 45 = .ok (.iconst 1, 1) := by decide +kernel
theorem dX11_step_46 : decode cX11_step 46 = .ok (.iadd, 1) := by decide +kernel
theorem dX11_step_47 : decode cX11_step 47 = .ok (.iastore, 1) := by decide +kernel
theorem dX11_step_48 : decode cX11_step 48 = .ok (.aload_n 0, 1) := by decide +kernel
theorem dX11_step_49 : decode cX11_step 49 = .ok (.dup, 1) := by decide +kernel
theorem dX11_step_50 : decode cX11_step 50 = .ok (.getfield 130, 3) := by decide +kernel
theorem dX11_step_53 : decode cX11_step 53 = .ok (.iconst 1, 1) := by decide +kernel
theorem dX11_step_54 : decode cX11_step 54 = .ok (.iadd, 1) := by decide +kernel
theorem dX11_step_55 : decode cX11_step 55 = .ok (.putfield 130, 3) := by decide +kernel
theorem dX11_step_58 : decode cX11_step 58 = .ok (.aload_n 0, 1) := by decide +kernel
theorem dX11_step_59 : decode cX11_step 59 = .ok (.invokevirtual 137, 3) := by decide +kernel
theorem dX11_step_62 : decode cX11_step 62 = .ok (.istore 4, 2) := by decide +kernel
theorem dX11_step_64 : decode cX11_step 64 = .ok (.iconst 0, 1) := by decide +kernel
theorem dX11_step_65 : decode cX11_step 65 = .ok (.istore 5, 2) := by decide +kernel
theorem dX11_step_67 : decode cX11_step 67 = .ok (.iconst 0, 1) := by decide +kernel
theorem dX11_step_68 : decode cX11_step 68 = .ok (.istore 6, 2) := by decide +kernel
theorem dX11_step_70 : decode cX11_step 70 = .ok (.iload 6, 2) := by decide +kernel
theorem dX11_step_72 : decode cX11_step 72 = .ok (.iload_n 2, 1) := by decide +kernel
theorem dX11_step_73 : decode cX11_step 73 = .ok (.if_icmp .ge 115, 3) := by decide +kernel
theorem dX11_step_76 : decode cX11_step 76 = .ok (.iload_n 2, 1) := by decide +kernel
theorem dX11_step_77 : decode cX11_step 77 = .ok (.istore 7, 2) := by decide +kernel
theorem dX11_step_79 : decode cX11_step 79 = .ok (.iload 7, 2) := by decide +kernel
theorem dX11_step_81 : decode cX11_step 81 = .ok (.aload_n 0, 1) := by decide +kernel
theorem dX11_step_82 : decode cX11_step 82 = .ok (.getfield 130, 3) := by decide +kernel
theorem dX11_step_85 : decode cX11_step 85 = .ok (.if_icmp .ge 97, 3) := by decide +kernel
theorem dX11_step_88 : decode cX11_step 88 = .ok (.aload_n 0, 1) := by decide +kernel
theorem dX11_step_89 : decode cX11_step 89 = .ok (.iload 6, 2) := by decide +kernel
theorem dX11_step_91 : decode cX11_step 91 = .ok (.iload 7, 2) := by decide +kernel
theorem dX11_step_93 : decode cX11_step 93 = .ok (.invokevirtual 141, 3) := by decide +kernel
theorem dX11_step_96 : decode cX11_step 96 = .ok (.aload_n 0, 1) := by decide +kernel
theorem dX11_step_97 : decode cX11_step 97 = .ok (.invokevirtual 137, 3) := by decide +kernel
theorem dX11_step_100 : decode cX11_step 100 = .ok (.iload 4, 2) := by decide +kernel
theorem dX11_step_102 : decode cX11_step 102 = .ok (.iconst 1, 1) := by decide +kernel
theorem dX11_step_103 : decode cX11_step 103 = .ok (.iadd, 1) := by decide +kernel
theorem dX11_step_104 : decode cX11_step 104 = .ok (.if_icmp .ne 64, 3) := by decide +kernel
theorem dX11_step_107 : decode cX11_step 107 = .ok (.iload 5, 2) := by decide +kernel
theorem dX11_step_109 : decode cX11_step 109 = .ok (.istore 8, 2) := by decide +kernel
theorem dX11_step_111 : decode cX11_step 111 = .ok (.iload 8, 2) := by decide +kernel
theorem dX11_step_113 : decode cX11_step 113 = .ok (.ifCond .le 41, 3) := by decide +kernel
theorem dX11_step_116 : decode cX11_step 116 = .ok (.aload_n 0, 1) := by decide +kernel
theorem dX11_step_117 : decode cX11_step 117 = .ok (.getfield 13, 3) := by decide +kernel
theorem dX11_step_120 : decode cX11_step 120 = .ok (.iload 8, 2) := by decide +kernel
theorem dX11_step_122 : decode cX11_step 122 = .ok (.iconst 1, 1) := by decide +kernel
theorem dX11_step_123 : decode cX11_step 123 = .ok (.isub, 1) := by decide +kernel
theorem dX11_step_124 : decode cX11_step 124 = .ok (.iaload, 1) := by decide +kernel
theorem dX11_step_125 : decode cX11_step 125 = .ok (.aload_n 0, 1) := by decide +kernel
theorem dX11_step_126 : decode cX11_step 126 = .ok (.invokevirtual 145, 3) := by decide +kernel
theorem dX11_step_129 : decode cX11_step 129 = .ok (.if_icmp .le 25, 3) := by decide +kernel
theorem dX11_step_132 : decode cX11_step 132 = .ok (.aload_n 0, 1) := by decide +kernel
theorem dX11_step_133 : decode cX11_step 133 = .ok (.getfield 13, 3) := by decide +kernel
theorem dX11_step_136 : decode cX11_step 136 = .ok (.iload 8, 2) := by decide +kernel
theorem dX11_step_138 : decode cX11_step 138 = .ok (.aload_n 0, 1) := by decide +kernel
theorem dX11_step_139 : decode cX11_step 139 = .ok (.getfield 13, 3) := by decide +kernel
theorem dX11_step_142 : decode cX11_step 142 = .ok (.iload 8, 2) := by decide +kernel
theorem dX11_step_144 : decode cX11_step 144 = .ok (.iconst 1, 1) := by decide +kernel
theorem dX11_step_145 : decode cX11_step 145 = .ok (.isub, 1) := by decide +kernel
theorem dX11_step_146 : decode cX11_step 146 = .ok (.iaload, 1) := by decide +kernel
theorem dX11_step_147 : decode cX11_step 147 = .ok (.iastore, 1) := by decide +kernel
theorem dX11_step_148 : decode cX11_step 148 = .ok (.iinc 8 (-1), 3) := by decide +kernel
theorem dX11_step_151 : decode cX11_step 151 = .ok (.goto (-40), 3) := by decide +kernel
theorem dX11_step_154 : decode cX11_step 154 = .ok (.aload_n 0, 1) := by decide +kernel
theorem dX11_step_155 : decode cX11_step 155 = .ok (.getfield 13, 3) := by decide +kernel
theorem dX11_step_158 : decode cX11_step 158 = .ok (.iload 8, 2) := by decide +kernel
theorem dX11_step_160 : decode cX11_step 160 = .ok (.aload_n 0, 1) := by decide +kernel
theorem dX11_step_161 : decode cX11_step 161 = .ok (.invokevirtual 145, 3) := by decide +kernel
theorem dX11_step_164 : decode cX11_step 164 = .ok (.iastore, 1) := by decide +kernel
theorem dX11_step_165 : decode cX11_step 165 = .ok (.iinc 5 1, 3) := by decide +kernel
theorem dX11_step_168 : decode cX11_step 168 = .ok (.aload_n 0, 1) := by decide +kernel
theorem dX11_step_169 : decode cX11_step 169 = .ok (.iload 6, 2) := by decide +kernel
theorem dX11_step_171 : decode cX11_step 171 = .ok (.iload 7, 2) := by decide +kernel
theorem dX11_step_173 : decode cX11_step 173 = .ok (.invokevirtual 141, 3) := by decide +kernel
theorem dX11_step_176 : decode cX11_step 176 = .ok (.iinc 7 1, 3) := by decide +kernel
theorem dX11_step_179 : decode cX11_step 179 = .ok (.goto (-100), 3) := by decide +kernel
theorem dX11_step_182 : decode cX11_step 182 = .ok (.iinc 6 1, 3) := by decide +kernel
theorem dX11_step_185 : decode cX11_step 185 = .ok (.goto (-115), 3) := by decide +kernel
theorem dX11_step_188 : decode cX11_step 188 = .ok (.iload_n 3, 1) := by decide +kernel
theorem dX11_step_189 : decode cX11_step 189 = .ok (.i2l, 1) := by decide +kernel
theorem dX11_step_190 : decode cX11_step 190 = .ok (.lconst 0, 1) := by decide +kernel
theorem dX11_step_191 : decode cX11_step 191 = .ok (.iload 5, 2) := by decide +kernel
theorem dX11_step_193 : decode cX11_step 193 = .ok (.iconst 1, 1) := by decide +kernel
theorem dX11_step_194 : decode cX11_step 194 = .ok (.isub, 1) := by decide +kernel
theorem dX11_step_195 : decode cX11_step 195 = .ok (.i2l, 1) := by decide +kernel
theorem dX11_step_196 : decode cX11_step 196 = .ok (.invokestatic 126, 3) := by decide +kernel
theorem dX11_step_199 : decode cX11_step 199 = .ok (.ifCond .eq 12, 3) := by decide +kernel
theorem dX11_step_202 : decode cX11_step 202 = .ok (.aload_n 0, 1) := by decide +kernel
theorem dX11_step_203 : decode cX11_step 203 = .ok (.getfield 13, 3) := by decide +kernel
theorem dX11_step_206 : decode cX11_step 206 = .ok (.iload_n 3, 1) := by decide +kernel
theorem dX11_step_207 : decode cX11_step 207 = .ok (.iaload, 1) := by decide +kernel
theorem dX11_step_208 : decode cX11_step 208 = .ok (.goto 4, 3) := by decide +kernel
theorem dX11_step_211 : decode cX11_step 211 = .ok (.iconst (-1), 1) := by decide +kernel
theorem dX11_step_212 : decode cX11_step 212 = .ok (.ireturn, 1) := by decide +kernel
theorem dX11_isSheet_0 : decode cX11_isSheet 0 = .ok (.iload_n 0, 1) := by decide +kernel
theorem dX11_isSheet_1 : decode cX11_isSheet 1 = .ok (.i2l, 1) := by decide +kernel
theorem dX11_isSheet_2 : decode cX11_isSheet 2 = .ok (.lconst 0, 1) := by decide +kernel
theorem dX11_isSheet_3 : decode cX11_isSheet 3 = .ok (.ldc2_w 150, 3) := by decide +kernel
theorem dX11_isSheet_6 : decode cX11_isSheet 6 = .ok (.invokestatic 126, 3) := by decide +kernel
theorem dX11_isSheet_9 : decode cX11_isSheet 9 = .ok (.ireturn, 1) := by decide +kernel
theorem dX11_placeOf_0 : decode cX11_placeOf 0 = .ok (.iload_n 0, 1) := by decide +kernel
theorem dX11_placeOf_1 : decode cX11_placeOf 1 = .ok (.i2l, 1) := by decide +kernel
theorem dX11_placeOf_2 : decode cX11_placeOf 2 = .ok (.lconst 0, 1) := by decide +kernel
theorem dX11_placeOf_3 : decode cX11_placeOf 3 = .ok (.ldc2_w 152, 3) := by decide +kernel
theorem dX11_placeOf_6 : decode cX11_placeOf 6 = .ok (.invokestatic 126, 3) := by decide +kernel
theorem dX11_placeOf_9 : decode cX11_placeOf 9 = .ok (.ifCond .ne 5, 3) := by decide +kernel
theorem dX11_placeOf_12 : decode cX11_placeOf 12 = .ok (.iconst (-1), 1) := by decide +kernel
theorem dX11_placeOf_13 : decode cX11_placeOf 13 = .ok (.ireturn, 1) := by decide +kernel
theorem dX11_placeOf_14 : decode cX11_placeOf 14 = .ok (.iconst 0, 1) := by decide +kernel
theorem dX11_placeOf_15 : decode cX11_placeOf 15 = .ok (.istore_n 1, 1) := by decide +kernel
theorem dX11_placeOf_16 : decode cX11_placeOf 16 = .ok (.iconst 1, 1) := by decide +kernel
theorem dX11_placeOf_17 : decode cX11_placeOf 17 = .ok (.istore_n 2, 1) := by decide +kernel
theorem dX11_placeOf_18 : decode cX11_placeOf 18 = .ok (.iload_n 0, 1) := by decide +kernel
theorem dX11_placeOf_19 : decode cX11_placeOf 19 = .ok (.istore_n 3, 1) := by decide +kernel
theorem dX11_placeOf_20 : decode cX11_placeOf 20 = .ok (.iconst 0, 1) := by decide +kernel
theorem dX11_placeOf_21 : decode cX11_placeOf 21 = .ok (.istore 4, 2) := by decide +kernel
theorem dX11_placeOf_23 : decode cX11_placeOf 23 = .ok (.iload 4, 2) := by decide +kernel
theorem dX11_placeOf_25 : decode cX11_placeOf 25 = .ok (.iconst 5, 1) := by decide +kernel
theorem dX11_placeOf_26 : decode cX11_placeOf 26 = .ok (.if_icmp .ge 39, 3) := by decide +kernel
theorem dX11_placeOf_29 : decode cX11_placeOf 29 = .ok (.iload_n 3, 1) := by decide +kernel
theorem dX11_placeOf_30 : decode cX11_placeOf 30 = .ok (.bipush 10, 2) := by decide +kernel
theorem dX11_placeOf_32 : decode cX11_placeOf 32 = .ok (.irem, 1) := by decide +kernel
theorem dX11_placeOf_33 : decode cX11_placeOf 33 = .ok (.bipush 8, 2) := by decide +kernel
theorem dX11_placeOf_35 : decode cX11_placeOf 35 = .ok (.if_icmp .le 5, 3) := by decide +kernel
theorem dX11_placeOf_38 : decode cX11_placeOf 38 = .ok (.iconst (-1), 1) := by decide +kernel
theorem dX11_placeOf_39 : decode cX11_placeOf 39 = .ok (.ireturn, 1) := by decide +kernel
theorem dX11_placeOf_40 : decode cX11_placeOf 40 = .ok (.iload_n 1, 1) := by decide +kernel
theorem dX11_placeOf_41 : decode cX11_placeOf 41 = .ok (.iload_n 2, 1) := by decide +kernel
theorem dX11_placeOf_42 : decode cX11_placeOf 42 = .ok (.iload_n 3, 1) := by decide +kernel
theorem dX11_placeOf_43 : decode cX11_placeOf 43 = .ok (.bipush 10, 2) := by decide +kernel
theorem dX11_placeOf_45 : decode cX11_placeOf 45 = .ok (.irem, 1) := by decide +kernel
theorem dX11_placeOf_46 : decode cX11_placeOf 46 = .ok (.imul, 1) := by decide +kernel
theorem dX11_placeOf_47 : decode cX11_placeOf 47 = .ok (.iadd, 1) := by decide +kernel
theorem dX11_placeOf_48 : decode cX11_placeOf 48 = .ok (.istore_n 1, 1) := by decide +kernel
theorem dX11_placeOf_49 : decode cX11_placeOf 49 = .ok (.bipush 9, 2) := by decide +kernel
theorem dX11_placeOf_51 : decode cX11_placeOf 51 = .ok (.iload_n 2, 1) := by decide +kernel
theorem dX11_placeOf_52 : decode cX11_placeOf 52 = .ok (.imul, 1) := by decide +kernel
theorem dX11_placeOf_53 : decode cX11_placeOf 53 = .ok (.istore_n 2, 1) := by decide +kernel
theorem dX11_placeOf_54 : decode cX11_placeOf 54 = .ok (.iload_n 3, 1) := by decide +kernel
theorem dX11_placeOf_55 : decode cX11_placeOf 55 = .ok (.bipush 10, 2) := by decide +kernel
theorem dX11_placeOf_57 : decode cX11_placeOf 57 = .ok (.idiv, 1) := by decide +kernel
theorem dX11_placeOf_58 : decode cX11_placeOf 58 = .ok (.istore_n 3, 1) := by decide +kernel
theorem dX11_placeOf_59 : decode cX11_placeOf 59 = .ok (.iinc 4 1, 3) := by decide +kernel
theorem dX11_placeOf_62 : decode cX11_placeOf 62 = .ok (.goto (-39), 3) := by decide +kernel
theorem dX11_placeOf_65 : decode cX11_placeOf 65 = .ok (.iload_n 1, 1) := by decide +kernel
theorem dX11_placeOf_66 : decode cX11_placeOf 66 = .ok (.ireturn, 1) := by decide +kernel
theorem dX11_toldOf_0 : decode cX11_toldOf 0 = .ok (.iconst 0, 1) := by decide +kernel
theorem dX11_toldOf_1 : decode cX11_toldOf 1 = .ok (.istore_n 1, 1) := by decide +kernel
theorem dX11_toldOf_2 : decode cX11_toldOf 2 = .ok (.iconst 1, 1) := by decide +kernel
theorem dX11_toldOf_3 : decode cX11_toldOf 3 = .ok (.istore_n 2, 1) := by decide +kernel
theorem dX11_toldOf_4 : decode cX11_toldOf 4 = .ok (.iload_n 0, 1) := by decide +kernel
theorem dX11_toldOf_5 : decode cX11_toldOf 5 = .ok (.istore_n 3, 1) := by decide +kernel
theorem dX11_toldOf_6 : decode cX11_toldOf 6 = .ok (.iconst 0, 1) := by decide +kernel
theorem dX11_toldOf_7 : decode cX11_toldOf 7 = .ok (.istore 4, 2) := by decide +kernel
theorem dX11_toldOf_9 : decode cX11_toldOf 9 = .ok (.iload 4, 2) := by decide +kernel
theorem dX11_toldOf_11 : decode cX11_toldOf 11 = .ok (.iconst 5, 1) := by decide +kernel
theorem dX11_toldOf_12 : decode cX11_toldOf 12 = .ok (.if_icmp .ge 28, 3) := by decide +kernel
theorem dX11_toldOf_15 : decode cX11_toldOf 15 = .ok (.iload_n 1, 1) := by decide +kernel
theorem dX11_toldOf_16 : decode cX11_toldOf 16 = .ok (.iload_n 2, 1) := by decide +kernel
theorem dX11_toldOf_17 : decode cX11_toldOf 17 = .ok (.iload_n 3, 1) := by decide +kernel
theorem dX11_toldOf_18 : decode cX11_toldOf 18 = .ok (.bipush 9, 2) := by decide +kernel
theorem dX11_toldOf_20 : decode cX11_toldOf 20 = .ok (.irem, 1) := by decide +kernel
theorem dX11_toldOf_21 : decode cX11_toldOf 21 = .ok (.imul, 1) := by decide +kernel
theorem dX11_toldOf_22 : decode cX11_toldOf 22 = .ok (.iadd, 1) := by decide +kernel
theorem dX11_toldOf_23 : decode cX11_toldOf 23 = .ok (.istore_n 1, 1) := by decide +kernel
theorem dX11_toldOf_24 : decode cX11_toldOf 24 = .ok (.bipush 10, 2) := by decide +kernel
theorem dX11_toldOf_26 : decode cX11_toldOf 26 = .ok (.iload_n 2, 1) := by decide +kernel
theorem dX11_toldOf_27 : decode cX11_toldOf 27 = .ok (.imul, 1) := by decide +kernel
theorem dX11_toldOf_28 : decode cX11_toldOf 28 = .ok (.istore_n 2, 1) := by decide +kernel
theorem dX11_toldOf_29 : decode cX11_toldOf 29 = .ok (.iload_n 3, 1) := by decide +kernel
theorem dX11_toldOf_30 : decode cX11_toldOf 30 = .ok (.bipush 9, 2) := by decide +kernel
theorem dX11_toldOf_32 : decode cX11_toldOf 32 = .ok (.idiv, 1) := by decide +kernel
theorem dX11_toldOf_33 : decode cX11_toldOf 33 = .ok (.istore_n 3, 1) := by decide +kernel
theorem dX11_toldOf_34 : decode cX11_toldOf 34 = .ok (.iinc 4 1, 3) := by decide +kernel
theorem dX11_toldOf_37 : decode cX11_toldOf 37 = .ok (.goto (-28), 3) := by decide +kernel
theorem dX11_toldOf_40 : decode cX11_toldOf 40 = .ok (.iload_n 1, 1) := by decide +kernel
theorem dX11_toldOf_41 : decode cX11_toldOf 41 = .ok (.ireturn, 1) := by decide +kernel
theorem dX11_wipe_0 : decode cX11_wipe 0 = .ok (.iconst 0, 1) := by decide +kernel
theorem dX11_wipe_1 : decode cX11_wipe 1 = .ok (.istore_n 1, 1) := by decide +kernel
theorem dX11_wipe_2 : decode cX11_wipe 2 = .ok (.iload_n 1, 1) := by decide +kernel
theorem dX11_wipe_3 : decode cX11_wipe 3 = .ok (.ldc 30, 2) := by decide +kernel
theorem dX11_wipe_5 : decode cX11_wipe 5 = .ok (.if_icmp .ge 16, 3) := by decide +kernel
theorem dX11_wipe_8 : decode cX11_wipe 8 = .ok (.aload_n 0, 1) := by decide +kernel
theorem dX11_wipe_9 : decode cX11_wipe 9 = .ok (.getfield 31, 3) := by decide +kernel
theorem dX11_wipe_12 : decode cX11_wipe 12 = .ok (.iload_n 1, 1) := by decide +kernel
theorem dX11_wipe_13 : decode cX11_wipe 13 = .ok (.lconst 0, 1) := by decide +kernel
theorem dX11_wipe_14 : decode cX11_wipe 14 = .ok (.lastore, 1) := by decide +kernel
theorem dX11_wipe_15 : decode cX11_wipe 15 = .ok (.iinc 1 1, 3) := by decide +kernel
theorem dX11_wipe_18 : decode cX11_wipe 18 = .ok (.goto (-16), 3) := by decide +kernel
theorem dX11_wipe_21 : decode cX11_wipe 21 = .ok (.return_, 1) := by decide +kernel
theorem dX11_takes_0 : decode cX11_takes 0 = .ok (.iconst 0, 1) := by decide +kernel
theorem dX11_takes_1 : decode cX11_takes 1 = .ok (.istore 4, 2) := by decide +kernel
theorem dX11_takes_3 : decode cX11_takes 3 = .ok (.iload 4, 2) := by decide +kernel
theorem dX11_takes_5 : decode cX11_takes 5 = .ok (.aload_n 0, 1) := by decide +kernel
theorem dX11_takes_6 : decode cX11_takes 6 = .ok (.getfield 20, 3) := by decide +kernel
theorem dX11_takes_9 : decode cX11_takes 9 = .ok (.iload_n 1, 1) := by decide +kernel
theorem dX11_takes_10 : decode cX11_takes 10 = .ok (.iaload, 1) := by decide +kernel
theorem dX11_takes_11 : decode cX11_takes 11 = .ok (.if_icmp .ge 48, 3) := by decide +kernel
theorem dX11_takes_14 : decode cX11_takes 14 = .ok (.aload_n 0, 1) := by decide +kernel
theorem dX11_takes_15 : decode cX11_takes 15 = .ok (.getfield 31, 3) := by decide +kernel
theorem dX11_takes_18 : decode cX11_takes 18 = .ok (.aload_n 0, 1) := by decide +kernel
theorem dX11_takes_19 : decode cX11_takes 19 = .ok (.getfield 23, 3) := by decide +kernel
theorem dX11_takes_22 : decode cX11_takes 22 = .ok (.sipush 600, 3) := by decide +kernel
theorem dX11_takes_25 : decode cX11_takes 25 = .ok (.iload_n 1, 1) := by decide +kernel
theorem dX11_takes_26 : decode cX11_takes 26 = .ok (.imul, 1) := by decide +kernel
theorem dX11_takes_27 : decode cX11_takes 27 = .ok (.iload 4, 2) := by decide +kernel
theorem dX11_takes_29 : decode cX11_takes 29 = .ok (.iadd, 1) := by decide +kernel
theorem dX11_takes_30 : decode cX11_takes 30 = .ok (.iaload, 1) := by decide +kernel
theorem dX11_takes_31 : decode cX11_takes 31 = .ok (.invokestatic 154, 3) := by decide +kernel
theorem dX11_takes_34 : decode cX11_takes 34 = .ok (.dup2, 1) := by decide +kernel
theorem dX11_takes_35 : decode cX11_takes 35 = .ok (.laload, 1) := by decide +kernel
theorem dX11_takes_36 : decode cX11_takes 36 = .ok (.lload_n 2, 1) := by decide +kernel
theorem dX11_takes_37 : decode cX11_takes 37 = .ok (.aload_n 0, 1) := by decide +kernel
theorem dX11_takes_38 : decode cX11_takes 38 = .ok (.getfield 26, 3) := by decide +kernel
theorem dX11_takes_41 : decode cX11_takes 41 = .ok (.sipush 600, 3) := by decide +kernel
theorem dX11_takes_44 : decode cX11_takes 44 = .ok (.iload_n 1, 1) := by decide +kernel
theorem dX11_takes_45 : decode cX11_takes 45 = .ok (.imul, 1) := by decide +kernel
theorem dX11_takes_46 : decode cX11_takes 46 = .ok (.iload 4, 2) := by decide +kernel
theorem dX11_takes_48 : decode cX11_takes 48 = .ok (.iadd, 1) := by decide +kernel
theorem dX11_takes_49 : decode cX11_takes 49 = .ok (.laload, 1) := by decide +kernel
theorem dX11_takes_50 : decode cX11_takes 50 = .ok (.lmul, 1) := by decide +kernel
theorem dX11_takes_51 : decode cX11_takes 51 = .ok (.ladd, 1) := by decide +kernel
theorem dX11_takes_52 : decode cX11_takes 52 = .ok (.lastore, 1) := by decide +kernel
theorem dX11_takes_53 : decode cX11_takes 53 = .ok (.iinc 4 1, 3) := by decide +kernel
theorem dX11_takes_56 : decode cX11_takes 56 = .ok (.goto (-53), 3) := by decide +kernel
theorem dX11_takes_59 : decode cX11_takes 59 = .ok (.return_, 1) := by decide +kernel
theorem dX11_tooMuch_0 : decode cX11_tooMuch 0 = .ok (.iconst 0, 1) := by decide +kernel
theorem dX11_tooMuch_1 : decode cX11_tooMuch 1 = .ok (.istore_n 1, 1) := by decide +kernel
theorem dX11_tooMuch_2 : decode cX11_tooMuch 2 = .ok (.iconst 0, 1) := by decide +kernel
theorem dX11_tooMuch_3 : decode cX11_tooMuch 3 = .ok (.istore_n 2, 1) := by decide +kernel
theorem dX11_tooMuch_4 : decode cX11_tooMuch 4 = .ok (.iconst 0, 1) := by decide +kernel
theorem dX11_tooMuch_5 : decode cX11_tooMuch 5 = .ok (.istore_n 3, 1) := by decide +kernel
theorem dX11_tooMuch_6 : decode cX11_tooMuch 6 = .ok (.iload_n 3, 1) := by decide +kernel
theorem dX11_tooMuch_7 : decode cX11_tooMuch 7 = .ok (.ldc 30, 2) := by decide +kernel
theorem dX11_tooMuch_9 : decode cX11_tooMuch 9 = .ok (.if_icmp .ge 54, 3) := by decide +kernel
theorem dX11_tooMuch_12 : decode cX11_tooMuch 12 = .ok (.iload_n 1, 1) := by decide +kernel
theorem dX11_tooMuch_13 : decode cX11_tooMuch 13 = .ok (.aload_n 0, 1) := by decide +kernel
theorem dX11_tooMuch_14 : decode cX11_tooMuch 14 = .ok (.getfield 31, 3) := by decide +kernel
theorem dX11_tooMuch_17 : decode cX11_tooMuch 17 = .ok (.iload_n 3, 1) := by decide +kernel
theorem dX11_tooMuch_18 : decode cX11_tooMuch 18 = .ok (.laload, 1) := by decide +kernel
theorem dX11_tooMuch_19 : decode cX11_tooMuch 19 = .ok (.lconst 0, 1) := by decide +kernel
theorem dX11_tooMuch_20 : decode cX11_tooMuch 20 = .ok (.lcmp, 1) := by decide +kernel
theorem dX11_tooMuch_21 : decode cX11_tooMuch 21 = .ok (.ifCond .eq 7, 3) := by decide +kernel
theorem dX11_tooMuch_24 : decode cX11_tooMuch 24 = .ok (.iconst 1, 1) := by decide +kernel
theorem dX11_tooMuch_25 : decode cX11_tooMuch 25 = .ok (.goto 4, 3) := by decide +kernel
theorem dX11_tooMuch_28 : decode cX11_tooMuch 28 = .ok (.iconst 0, 1) := by decide +kernel
theorem dX11_tooMuch_29 : decode cX11_tooMuch 29 = .ok (.iadd, 1) := by decide +kernel
theorem dX11_tooMuch_30 : decode cX11_tooMuch 30 = .ok (.istore_n 1, 1) := by decide +kernel
theorem dX11_tooMuch_31 : decode cX11_tooMuch 31 = .ok (.iload_n 2, 1) := by decide +kernel
theorem dX11_tooMuch_32 : decode cX11_tooMuch 32 = .ok (.aload_n 0, 1) := by decide +kernel
theorem dX11_tooMuch_33 : decode cX11_tooMuch 33 = .ok (.getfield 31, 3) := by decide +kernel
theorem dX11_tooMuch_36 : decode cX11_tooMuch 36 = .ok (.iload_n 3, 1) := by decide +kernel
theorem dX11_tooMuch_37 : decode cX11_tooMuch 37 = .ok (.laload, 1) := by decide +kernel
theorem dX11_tooMuch_38 : decode cX11_tooMuch 38 = .ok (.ldc2_w 158, 3) := by decide +kernel
theorem dX11_tooMuch_41 : decode cX11_tooMuch 41 = .ok (.ldc2_w 160, 3) := by decide +kernel
theorem dX11_tooMuch_44 : decode cX11_tooMuch 44 = .ok (.invokestatic 126, 3) := by decide +kernel
theorem dX11_tooMuch_47 : decode cX11_tooMuch 47 = .ok (.ifCond .ne 7, 3) := by decide +kernel
theorem dX11_tooMuch_50 : decode cX11_tooMuch 50 = .ok (.iconst 1, 1) := by decide +kernel
theorem dX11_tooMuch_51 : decode cX11_tooMuch 51 = .ok (.goto 4, 3) := by decide +kernel
theorem dX11_tooMuch_54 : decode cX11_tooMuch 54 = .ok (.iconst 0, 1) := by decide +kernel
theorem dX11_tooMuch_55 : decode cX11_tooMuch 55 = .ok (.ior, 1) := by decide +kernel
theorem dX11_tooMuch_56 : decode cX11_tooMuch 56 = .ok (.istore_n 2, 1) := by decide +kernel
theorem dX11_tooMuch_57 : decode cX11_tooMuch 57 = .ok (.iinc 3 1, 3) := by decide +kernel
theorem dX11_tooMuch_60 : decode cX11_tooMuch 60 = .ok (.goto (-54), 3) := by decide +kernel
theorem dX11_tooMuch_63 : decode cX11_tooMuch 63 = .ok (.iload_n 2, 1) := by decide +kernel
theorem dX11_tooMuch_64 : decode cX11_tooMuch 64 = .ok (.ifCond .eq 8, 3) := by decide +kernel
theorem dX11_tooMuch_67 : decode cX11_tooMuch 67 = .ok (.bipush (-5), 2) := by decide +kernel
theorem dX11_tooMuch_69 : decode cX11_tooMuch 69 = .ok (.goto 16, 3) := by decide +kernel
theorem dX11_tooMuch_72 : decode cX11_tooMuch 72 = .ok (.iload_n 1, 1) := by decide +kernel
theorem dX11_tooMuch_73 : decode cX11_tooMuch 73 = .ok (.sipush 600, 3) := by decide +kernel
theorem dX11_tooMuch_76 : decode cX11_tooMuch 76 = .ok (.if_icmp .le 8, 3) := by decide +kernel
theorem dX11_tooMuch_79 : decode cX11_tooMuch 79 = .ok (.bipush (-6), 2) := by decide +kernel
theorem dX11_tooMuch_81 : decode cX11_tooMuch 81 = .ok (.goto 4, 3) := by decide +kernel
theorem dX11_tooMuch_84 : decode cX11_tooMuch 84 = .ok (.iconst 0, 1) := by decide +kernel
theorem dX11_tooMuch_85 : decode cX11_tooMuch 85 = .ok (.ireturn, 1) := by decide +kernel
theorem dX11_lays_0 : decode cX11_lays 0 = .ok (.aload_n 0, 1) := by decide +kernel
theorem dX11_lays_1 : decode cX11_lays 1 = .ok (.invokevirtual 162, 3) := by decide +kernel
theorem dX11_lays_4 : decode cX11_lays 4 = .ok (.istore_n 2, 1) := by decide +kernel
theorem dX11_lays_5 : decode cX11_lays 5 = .ok (.iload_n 2, 1) := by decide +kernel
theorem dX11_lays_6 : decode cX11_lays 6 = .ok (.ifCond .eq 5, 3) := by decide +kernel
theorem dX11_lays_9 : decode cX11_lays 9 = .ok (.iload_n 2, 1) := by decide +kernel
theorem dX11_lays_10 : decode cX11_lays 10 = .ok (.ireturn, 1) := by decide +kernel
theorem dX11_lays_11 : decode cX11_lays 11 = .ok (.iconst 0, 1) := by decide +kernel
theorem dX11_lays_12 : decode cX11_lays 12 = .ok (.istore_n 3, 1) := by decide +kernel
theorem dX11_lays_13 : decode cX11_lays 13 = .ok (.ldc 165, 2) := by decide +kernel
theorem dX11_lays_15 : decode cX11_lays 15 = .ok (.istore 4, 2) := by decide +kernel
theorem dX11_lays_17 : decode cX11_lays 17 = .ok (.iload 4, 2) := by decide +kernel
theorem dX11_lays_19 : decode cX11_lays 19 = .ok (.ifCond .lt 60, 3) := by decide +kernel
theorem dX11_lays_22 : decode cX11_lays 22 = .ok (.aload_n 0, 1) := by decide +kernel
theorem dX11_lays_23 : decode cX11_lays 23 = .ok (.getfield 31, 3) := by decide +kernel
theorem dX11_lays_26 : decode cX11_lays 26 = .ok (.iload 4, 2) := by decide +kernel
theorem dX11_lays_28 : decode cX11_lays 28 = .ok (.laload, 1) := by decide +kernel
theorem dX11_lays_29 : decode cX11_lays 29 = .ok (.lconst 0, 1) := by decide +kernel
theorem dX11_lays_30 : decode cX11_lays 30 = .ok (.lcmp, 1) := by decide +kernel
theorem dX11_lays_31 : decode cX11_lays 31 = .ok (.ifCond .eq 42, 3) := by decide +kernel
theorem dX11_lays_34 : decode cX11_lays 34 = .ok (.aload_n 0, 1) := by decide +kernel
theorem dX11_lays_35 : decode cX11_lays 35 = .ok (.getfield 23, 3) := by decide +kernel
theorem dX11_lays_38 : decode cX11_lays 38 = .ok (.sipush 600, 3) := by decide +kernel
theorem dX11_lays_41 : decode cX11_lays 41 = .ok (.iload_n 1, 1) := by decide +kernel
theorem dX11_lays_42 : decode cX11_lays 42 = .ok (.imul, 1) := by decide +kernel
theorem dX11_lays_43 : decode cX11_lays 43 = .ok (.iload_n 3, 1) := by decide +kernel
theorem dX11_lays_44 : decode cX11_lays 44 = .ok (.iadd, 1) := by decide +kernel
theorem dX11_lays_45 : decode cX11_lays 45 = .ok (.iload 4, 2) := by decide +kernel
theorem dX11_lays_47 : decode cX11_lays 47 = .ok (.invokestatic 166, 3) := by decide +kernel
theorem dX11_lays_50 : decode cX11_lays 50 = .ok (.iastore, 1) := by decide +kernel
theorem dX11_lays_51 : decode cX11_lays 51 = .ok (.aload_n 0, 1) := by decide +kernel
theorem dX11_lays_52 : decode cX11_lays 52 = .ok (.getfield 26, 3) := by decide +kernel
theorem dX11_lays_55 : decode cX11_lays 55 = .ok (.sipush 600, 3) := by decide +kernel
theorem dX11_lays_58 : decode cX11_lays 58 = .ok (.iload_n 1, 1) := by decide +kernel
theorem dX11_lays_59 : decode cX11_lays 59 = .ok (.imul, 1) := by decide +kernel
theorem dX11_lays_60 : decode cX11_lays 60 = .ok (.iload_n 3, 1) := by decide +kernel
theorem dX11_lays_61 : decode cX11_lays 61 = .ok (.iadd, 1) := by decide +kernel
theorem dX11_lays_62 : decode cX11_lays 62 = .ok (.aload_n 0, 1) := by decide +kernel
theorem dX11_lays_63 : decode cX11_lays 63 = .ok (.getfield 31, 3) := by decide +kernel
theorem dX11_lays_66 : decode cX11_lays 66 = .ok (.iload 4, 2) := by decide +kernel
theorem dX11_lays_68 : decode cX11_lays 68 = .ok (.laload, 1) := by decide +kernel
theorem dX11_lays_69 : decode cX11_lays 69 = .ok (.lastore, 1) := by decide +kernel
theorem dX11_lays_70 : decode cX11_lays 70 = .ok (.iinc 3 1, 3) := by decide +kernel
theorem dX11_lays_73 : decode cX11_lays 73 = .ok (.iinc 4 (-1), 3) := by decide +kernel
theorem dX11_lays_76 : decode cX11_lays 76 = .ok (.goto (-59), 3) := by decide +kernel
theorem dX11_lays_79 : decode cX11_lays 79 = .ok (.aload_n 0, 1) := by decide +kernel
theorem dX11_lays_80 : decode cX11_lays 80 = .ok (.getfield 16, 3) := by decide +kernel
theorem dX11_lays_83 : decode cX11_lays 83 = .ok (.iload_n 1, 1) := by decide +kernel
theorem dX11_lays_84 : decode cX11_lays 84 = .ok (.iconst 1, 1) := by decide +kernel
theorem dX11_lays_85 : decode cX11_lays 85 = .ok (.bastore, 1) := by decide +kernel
theorem dX11_lays_86 : decode cX11_lays 86 = .ok (.aload_n 0, 1) := by decide +kernel
theorem dX11_lays_87 : decode cX11_lays 87 = .ok (.getfield 20, 3) := by decide +kernel
theorem dX11_lays_90 : decode cX11_lays 90 = .ok (.iload_n 1, 1) := by decide +kernel
theorem dX11_lays_91 : decode cX11_lays 91 = .ok (.iload_n 3, 1) := by decide +kernel
theorem dX11_lays_92 : decode cX11_lays 92 = .ok (.iastore, 1) := by decide +kernel
theorem dX11_lays_93 : decode cX11_lays 93 = .ok (.iload_n 3, 1) := by decide +kernel
theorem dX11_lays_94 : decode cX11_lays 94 = .ok (.ireturn, 1) := by decide +kernel
theorem dX11_blank_0 : decode cX11_blank 0 = .ok (.iload_n 1, 1) := by decide +kernel
theorem dX11_blank_1 : decode cX11_blank 1 = .ok (.invokestatic 169, 3) := by decide +kernel
theorem dX11_blank_4 : decode cX11_blank 4 = .ok (.ifCond .ne 6, 3) := by decide +kernel
theorem dX11_blank_7 : decode cX11_blank 7 = .ok (.bipush (-2), 2) := by decide +kernel
theorem dX11_blank_9 : decode cX11_blank 9 = .ok (.ireturn, 1) := by decide +kernel
theorem dX11_blank_10 : decode cX11_blank 10 = .ok (.aload_n 0, 1) := by decide +kernel
theorem dX11_blank_11 : decode cX11_blank 11 = .ok (.getfield 16, 3) := by decide +kernel
theorem dX11_blank_14 : decode cX11_blank 14 = .ok (.iload_n 1, 1) := by decide +kernel
theorem dX11_blank_15 : decode cX11_blank 15 = .ok (.iconst 1, 1) := by decide +kernel
theorem dX11_blank_16 : decode cX11_blank 16 = .ok (.bastore, 1) := by decide +kernel
theorem dX11_blank_17 : decode cX11_blank 17 = .ok (.aload_n 0, 1) := by decide +kernel
theorem dX11_blank_18 : decode cX11_blank 18 = .ok (.getfield 20, 3) := by decide +kernel
theorem dX11_blank_21 : decode cX11_blank 21 = .ok (.iload_n 1, 1) := by decide +kernel
theorem dX11_blank_22 : decode cX11_blank 22 = .ok (.iconst 0, 1) := by decide +kernel
theorem dX11_blank_23 : decode cX11_blank 23 = .ok (.iastore, 1) := by decide +kernel
theorem dX11_blank_24 : decode cX11_blank 24 = .ok (.iconst 1, 1) := by decide +kernel
theorem dX11_blank_25 : decode cX11_blank 25 = .ok (.ireturn, 1) := by decide +kernel
theorem dX11_lose_0 : decode cX11_lose 0 = .ok (.iload_n 1, 1) := by decide +kernel
theorem dX11_lose_1 : decode cX11_lose 1 = .ok (.invokestatic 169, 3) := by decide +kernel
theorem dX11_lose_4 : decode cX11_lose 4 = .ok (.ifCond .ne 6, 3) := by decide +kernel
theorem dX11_lose_7 : decode cX11_lose 7 = .ok (.bipush (-2), 2) := by decide +kernel
theorem dX11_lose_9 : decode cX11_lose 9 = .ok (.ireturn, 1) := by decide +kernel
theorem dX11_lose_10 : decode cX11_lose 10 = .ok (.aload_n 0, 1) := by decide +kernel
theorem dX11_lose_11 : decode cX11_lose 11 = .ok (.getfield 16, 3) := by decide +kernel
theorem dX11_lose_14 : decode cX11_lose 14 = .ok (.iload_n 1, 1) := by decide +kernel
theorem dX11_lose_15 : decode cX11_lose 15 = .ok (.baload, 1) := by decide +kernel
theorem dX11_lose_16 : decode cX11_lose 16 = .ok (.ifCond .ne 6, 3) := by decide +kernel
theorem dX11_lose_19 : decode cX11_lose 19 = .ok (.bipush (-3), 2) := by decide +kernel
theorem dX11_lose_21 : decode cX11_lose 21 = .ok (.ireturn, 1) := by decide +kernel
theorem dX11_lose_22 : decode cX11_lose 22 = .ok (.aload_n 0, 1) := by decide +kernel
theorem dX11_lose_23 : decode cX11_lose 23 = .ok (.getfield 16, 3) := by decide +kernel
theorem dX11_lose_26 : decode cX11_lose 26 = .ok (.iload_n 1, 1) := by decide +kernel
theorem dX11_lose_27 : decode cX11_lose 27 = .ok (.iconst 0, 1) := by decide +kernel
theorem dX11_lose_28 : decode cX11_lose 28 = .ok (.bastore, 1) := by decide +kernel
theorem dX11_lose_29 : decode cX11_lose 29 = .ok (.aload_n 0, 1) := by decide +kernel
theorem dX11_lose_30 : decode cX11_lose 30 = .ok (.getfield 20, 3) := by decide +kernel
theorem dX11_lose_33 : decode cX11_lose 33 = .ok (.iload_n 1, 1) := by decide +kernel
theorem dX11_lose_34 : decode cX11_lose 34 = .ok (.iaload, 1) := by decide +kernel
theorem dX11_lose_35 : decode cX11_lose 35 = .ok (.ireturn, 1) := by decide +kernel
theorem dX11_add_0 : decode cX11_add 0 = .ok (.iload_n 1, 1) := by decide +kernel
theorem dX11_add_1 : decode cX11_add 1 = .ok (.invokestatic 169, 3) := by decide +kernel
theorem dX11_add_4 : decode cX11_add 4 = .ok (.ifCond .eq 25, 3) := by decide +kernel
theorem dX11_add_7 : decode cX11_add 7 = .ok (.lload_n 2, 1) := by decide +kernel
theorem dX11_add_8 : decode cX11_add 8 = .ok (.ldc2_w 158, 3) := by decide +kernel
theorem dX11_add_11 : decode cX11_add 11 = .ok (.ldc2_w 160, 3) := by decide +kernel
theorem dX11_add_14 : decode cX11_add 14 = .ok (.invokestatic 126, 3) := by decide +kernel
theorem dX11_add_17 : decode cX11_add 17 = .ok (.ifCond .eq 12, 3) := by decide +kernel
theorem dX11_add_20 : decode cX11_add 20 = .ok (.iload 4, 2) := by decide +kernel
theorem dX11_add_22 : decode cX11_add 22 = .ok (.invokestatic 154, 3) := by decide +kernel
theorem dX11_add_25 : decode cX11_add 25 = .ok (.iconst (-1), 1) := by decide +kernel
theorem dX11_add_26 : decode cX11_add 26 = .ok (.if_icmp .ne 6, 3) := by decide +kernel
theorem dX11_add_29 : decode cX11_add 29 = .ok (.bipush (-2), 2) := by decide +kernel
theorem dX11_add_31 : decode cX11_add 31 = .ok (.ireturn, 1) := by decide +kernel
theorem dX11_add_32 : decode cX11_add 32 = .ok (.aload_n 0, 1) := by decide +kernel
theorem dX11_add_33 : decode cX11_add 33 = .ok (.getfield 16, 3) := by decide +kernel
theorem dX11_add_36 : decode cX11_add 36 = .ok (.iload_n 1, 1) := by decide +kernel
theorem dX11_add_37 : decode cX11_add 37 = .ok (.baload, 1) := by decide +kernel
theorem dX11_add_38 : decode cX11_add 38 = .ok (.ifCond .ne 6, 3) := by decide +kernel
theorem dX11_add_41 : decode cX11_add 41 = .ok (.bipush (-3), 2) := by decide +kernel
theorem dX11_add_43 : decode cX11_add 43 = .ok (.ireturn, 1) := by decide +kernel
theorem dX11_add_44 : decode cX11_add 44 = .ok (.aload_n 0, 1) := by decide +kernel
theorem dX11_add_45 : decode cX11_add 45 = .ok (.invokevirtual 172, 3) := by decide +kernel
theorem dX11_add_48 : decode cX11_add 48 = .ok (.aload_n 0, 1) := by decide +kernel
theorem dX11_add_49 : decode cX11_add 49 = .ok (.iload_n 1, 1) := by decide +kernel
theorem dX11_add_50 : decode cX11_add 50 = .ok (.lconst 1, 1) := by decide +kernel
theorem dX11_add_51 : decode cX11_add 51 = .ok (.invokevirtual 175, 3) := by decide +kernel
theorem dX11_add_54 : decode cX11_add 54 = .ok (.aload_n 0, 1) := by decide +kernel
theorem dX11_add_55 : decode cX11_add 55 = .ok (.getfield 31, 3) := by decide +kernel
theorem dX11_add_58 : decode cX11_add 58 = .ok (.iload 4, 2) := by decide +kernel
theorem dX11_add_60 : decode cX11_add 60 = .ok (.invokestatic 154, 3) := by decide +kernel
theorem dX11_add_63 : decode cX11_add 63 = .ok (.dup2, 1) := by decide +kernel
theorem dX11_add_64 : decode cX11_add 64 = .ok (.laload, 1) := by decide +kernel
theorem dX11_add_65 : decode cX11_add 65 = .ok (.lload_n 2, 1) := by decide +kernel
theorem dX11_add_66 : decode cX11_add 66 = .ok (.ladd, 1) := by decide +kernel
theorem dX11_add_67 : decode cX11_add 67 = .ok (.lastore, 1) := by decide +kernel
theorem dX11_add_68 : decode cX11_add 68 = .ok (.aload_n 0, 1) := by decide +kernel
theorem dX11_add_69 : decode cX11_add 69 = .ok (.iload_n 1, 1) := by decide +kernel
theorem dX11_add_70 : decode cX11_add 70 = .ok (.invokevirtual 179, 3) := by decide +kernel
theorem dX11_add_73 : decode cX11_add 73 = .ok (.ireturn, 1) := by decide +kernel
theorem dX11_terms_0 : decode cX11_terms 0 = .ok (.iload_n 1, 1) := by decide +kernel
theorem dX11_terms_1 : decode cX11_terms 1 = .ok (.invokestatic 169, 3) := by decide +kernel
theorem dX11_terms_4 : decode cX11_terms 4 = .ok (.ifCond .ne 8, 3) := by decide +kernel
theorem dX11_terms_7 : decode cX11_terms 7 = .ok (.bipush (-2), 2) := by decide +kernel
theorem dX11_terms_9 : decode cX11_terms 9 = .ok (.goto 23, 3) := by decide +kernel
theorem dX11_terms_12 : decode cX11_terms 12 = .ok (.aload_n 0, 1) := by decide +kernel
theorem dX11_terms_13 : decode cX11_terms 13 = .ok (.getfield 16, 3) := by decide +kernel
theorem dX11_terms_16 : decode cX11_terms 16 = .ok (.iload_n 1, 1) := by decide +kernel
theorem dX11_terms_17 : decode cX11_terms 17 = .ok (.baload, 1) := by decide +kernel
theorem dX11_terms_18 : decode cX11_terms 18 = .ok (.ifCond .eq 12, 3) := by decide +kernel
theorem dX11_terms_21 : decode cX11_terms 21 = .ok (.aload_n 0, 1) := by decide +kernel
theorem dX11_terms_22 : decode cX11_terms 22 = .ok (.getfield 20, 3) := by decide +kernel
theorem dX11_terms_25 : decode cX11_terms 25 = .ok (.iload_n 1, 1) := by decide +kernel
theorem dX11_terms_26 : decode cX11_terms 26 = .ok (.iaload, 1) := by decide +kernel
theorem dX11_terms_27 : decode cX11_terms 27 = .ok (.goto 5, 3) := by decide +kernel
theorem dX11_terms_30 : decode cX11_terms 30 = .ok (.bipush (-3), 2) := by decide +kernel
theorem dX11_terms_32 : decode cX11_terms 32 = .ok (.ireturn, 1) := by decide +kernel
theorem dX11_exponents_0 : decode cX11_exponents 0 = .ok (.iload_n 1, 1) := by decide +kernel
theorem dX11_exponents_1 : decode cX11_exponents 1 = .ok (.invokestatic 169, 3) := by decide +kernel
theorem dX11_exponents_4 : decode cX11_exponents 4 = .ok (.ifCond .ne 6, 3) := by decide +kernel
theorem dX11_exponents_7 : decode cX11_exponents 7 = .ok (.bipush (-2), 2) := by decide +kernel
theorem dX11_exponents_9 : decode cX11_exponents 9 = .ok (.ireturn, 1) := by decide +kernel
theorem dX11_exponents_10 : decode cX11_exponents 10 = .ok (.aload_n 0, 1) := by decide +kernel
theorem dX11_exponents_11 : decode cX11_exponents 11 = .ok (.getfield 16, 3) := by decide +kernel
theorem dX11_exponents_14 : decode cX11_exponents 14 = .ok (.iload_n 1, 1) := by decide +kernel
theorem dX11_exponents_15 : decode cX11_exponents 15 = .ok (.baload, 1) := by decide +kernel
theorem dX11_exponents_16 : decode cX11_exponents 16 = .ok (.ifCond .ne 6, 3) := by decide +kernel
theorem dX11_exponents_19 : decode cX11_exponents 19 = .ok (.bipush (-3), 2) := by decide +kernel
theorem dX11_exponents_21 : decode cX11_exponents 21 = .ok (.ireturn, 1) := by decide +kernel
theorem dX11_exponents_22 : decode cX11_exponents 22 = .ok (.iload_n 2, 1) := by decide +kernel
theorem dX11_exponents_23 : decode cX11_exponents 23 = .ok (.i2l, 1) := by decide +kernel
theorem dX11_exponents_24 : decode cX11_exponents 24 = .ok (.lconst 0, 1) := by decide +kernel
theorem dX11_exponents_25 : decode cX11_exponents 25 = .ok (.aload_n 0, 1) := by decide +kernel
theorem dX11_exponents_26 : decode cX11_exponents 26 = .ok (.getfield 20, 3) := by decide +kernel
theorem dX11_exponents_29 : decode cX11_exponents 29 = .ok (.iload_n 1, 1) := by decide +kernel
theorem dX11_exponents_30 : decode cX11_exponents 30 = .ok (.iaload, 1) := by decide +kernel
theorem dX11_exponents_31 : decode cX11_exponents 31 = .ok (.iconst 1, 1) := by decide +kernel
theorem dX11_exponents_32 : decode cX11_exponents 32 = .ok (.isub, 1) := by decide +kernel
theorem dX11_exponents_33 : decode cX11_exponents 33 = .ok (.i2l, 1) := by decide +kernel
theorem dX11_exponents_34 : decode cX11_exponents 34 = .ok (.invokestatic 126, 3) := by decide +kernel
theorem dX11_exponents_37 : decode cX11_exponents 37 = .ok (.ifCond .eq 18, 3) := by decide +kernel
theorem dX11_exponents_40 : decode cX11_exponents 40 = .ok (.aload_n 0, 1) := by decide +kernel
theorem dX11_exponents_41 : decode cX11_exponents 41 = .ok (.getfield 23, 3) := by decide +kernel
theorem dX11_exponents_44 : decode cX11_exponents 44 = .ok (.sipush 600, 3) := by decide +kernel
theorem dX11_exponents_47 : decode cX11_exponents 47 = .ok (.iload_n 1, 1) := by decide +kernel
theorem dX11_exponents_48 : decode cX11_exponents 48 = .ok (.imul, 1) := by decide +kernel
theorem dX11_exponents_49 : decode cX11_exponents 49 = .ok (.iload_n 2, 1) := by decide +kernel
theorem dX11_exponents_50 : decode cX11_exponents 50 = .ok (.iadd, 1) := by decide +kernel
theorem dX11_exponents_51 : decode cX11_exponents 51 = .ok (.iaload, 1) := by decide +kernel
theorem dX11_exponents_52 : decode cX11_exponents 52 = .ok (.goto 5, 3) := by decide +kernel
theorem dX11_exponents_55 : decode cX11_exponents 55 = .ok (.bipush (-2), 2) := by decide +kernel
theorem dX11_exponents_57 : decode cX11_exponents 57 = .ok (.ireturn, 1) := by decide +kernel
theorem dX11_number_0 : decode cX11_number 0 = .ok (.iload_n 1, 1) := by decide +kernel
theorem dX11_number_1 : decode cX11_number 1 = .ok (.invokestatic 169, 3) := by decide +kernel
theorem dX11_number_4 : decode cX11_number 4 = .ok (.ifCond .eq 11, 3) := by decide +kernel
theorem dX11_number_7 : decode cX11_number 7 = .ok (.iload_n 2, 1) := by decide +kernel
theorem dX11_number_8 : decode cX11_number 8 = .ok (.invokestatic 154, 3) := by decide +kernel
theorem dX11_number_11 : decode cX11_number 11 = .ok (.iconst (-1), 1) := by decide +kernel
theorem dX11_number_12 : decode cX11_number 12 = .ok (.if_icmp .ne 9, 3) := by decide +kernel
theorem dX11_number_15 : decode cX11_number 15 = .ok (.bipush (-2), 2) := by decide +kernel
theorem dX11_number_17 : decode cX11_number 17 = .ok (.invokestatic 182, 3) := by decide +kernel
theorem dX11_number_20 : decode cX11_number 20 = .ok (.lreturn, 1) := by decide +kernel
theorem dX11_number_21 : decode cX11_number 21 = .ok (.aload_n 0, 1) := by decide +kernel
theorem dX11_number_22 : decode cX11_number 22 = .ok (.getfield 16, 3) := by decide +kernel
theorem dX11_number_25 : decode cX11_number 25 = .ok (.iload_n 1, 1) := by decide +kernel
theorem dX11_number_26 : decode cX11_number 26 = .ok (.baload, 1) := by decide +kernel
theorem dX11_number_27 : decode cX11_number 27 = .ok (.ifCond .ne 9, 3) := by decide +kernel
theorem dX11_number_30 : decode cX11_number 30 = .ok (.bipush (-3), 2) := by decide +kernel
theorem dX11_number_32 : decode cX11_number 32 = .ok (.invokestatic 182, 3) := by decide +kernel
theorem dX11_number_35 : decode cX11_number 35 = .ok (.lreturn, 1) := by decide +kernel
theorem dX11_number_36 : decode cX11_number 36 = .ok (.iconst 0, 1) := by decide +kernel
theorem dX11_number_37 : decode cX11_number 37 = .ok (.istore_n 3, 1) := by decide +kernel
theorem dX11_number_38 : decode cX11_number 38 = .ok (.iload_n 3, 1) := by decide +kernel
theorem dX11_number_39 : decode cX11_number 39 = .ok (.aload_n 0, 1) := by decide +kernel
theorem dX11_number_40 : decode cX11_number 40 = .ok (.getfield 20, 3) := by decide +kernel
theorem dX11_number_43 : decode cX11_number 43 = .ok (.iload_n 1, 1) := by decide +kernel
theorem dX11_number_44 : decode cX11_number 44 = .ok (.iaload, 1) := by decide +kernel
theorem dX11_number_45 : decode cX11_number 45 = .ok (.if_icmp .ge 38, 3) := by decide +kernel
theorem dX11_number_48 : decode cX11_number 48 = .ok (.aload_n 0, 1) := by decide +kernel
theorem dX11_number_49 : decode cX11_number 49 = .ok (.getfield 23, 3) := by decide +kernel
theorem dX11_number_52 : decode cX11_number 52 = .ok (.sipush 600, 3) := by decide +kernel
theorem dX11_number_55 : decode cX11_number 55 = .ok (.iload_n 1, 1) := by decide +kernel
theorem dX11_number_56 : decode cX11_number 56 = .ok (.imul, 1) := by decide +kernel
theorem dX11_number_57 : decode cX11_number 57 = .ok (.iload_n 3, 1) := by decide +kernel
theorem dX11_number_58 : decode cX11_number 58 = .ok (.iadd, 1) := by decide +kernel
theorem dX11_number_59 : decode cX11_number 59 = .ok (.iaload, 1) := by decide +kernel
theorem dX11_number_60 : decode cX11_number 60 = .ok (.iload_n 2, 1) := by decide +kernel
theorem dX11_number_61 : decode cX11_number 61 = .ok (.if_icmp .ne 16, 3) := by decide +kernel
theorem dX11_number_64 : decode cX11_number 64 = .ok (.aload_n 0, 1) := by decide +kernel
theorem dX11_number_65 : decode cX11_number 65 = .ok (.getfield 26, 3) := by decide +kernel
theorem dX11_number_68 : decode cX11_number 68 = .ok (.sipush 600, 3) := by decide +kernel
theorem dX11_number_71 : decode cX11_number 71 = .ok (.iload_n 1, 1) := by decide +kernel
theorem dX11_number_72 : decode cX11_number 72 = .ok (.imul, 1) := by decide +kernel
theorem dX11_number_73 : decode cX11_number 73 = .ok (.iload_n 3, 1) := by decide +kernel
theorem dX11_number_74 : decode cX11_number 74 = .ok (.iadd, 1) := by decide +kernel
theorem dX11_number_75 : decode cX11_number 75 = .ok (.laload, 1) := by decide +kernel
theorem dX11_number_76 : decode cX11_number 76 = .ok (.lreturn, 1) := by decide +kernel
theorem dX11_number_77 : decode cX11_number 77 = .ok (.iinc 3 1, 3) := by decide +kernel
theorem dX11_number_80 : decode cX11_number 80 = .ok (.goto (-42), 3) := by decide +kernel
theorem dX11_number_83 : decode cX11_number 83 = .ok (.lconst 0, 1) := by decide +kernel
theorem dX11_number_84 : decode cX11_number 84 = .ok (.lreturn, 1) := by decide +kernel
theorem dX11_sum_0 : decode cX11_sum 0 = .ok (.iload_n 1, 1) := by decide +kernel
theorem dX11_sum_1 : decode cX11_sum 1 = .ok (.invokestatic 169, 3) := by decide +kernel
theorem dX11_sum_4 : decode cX11_sum 4 = .ok (.ifCond .eq 32, 3) := by decide +kernel
theorem dX11_sum_7 : decode cX11_sum 7 = .ok (.iload_n 2, 1) := by decide +kernel
theorem dX11_sum_8 : decode cX11_sum 8 = .ok (.invokestatic 169, 3) := by decide +kernel
theorem dX11_sum_11 : decode cX11_sum 11 = .ok (.ifCond .eq 25, 3) := by decide +kernel
theorem dX11_sum_14 : decode cX11_sum 14 = .ok (.iload_n 3, 1) := by decide +kernel
theorem dX11_sum_15 : decode cX11_sum 15 = .ok (.invokestatic 169, 3) := by decide +kernel
theorem dX11_sum_18 : decode cX11_sum 18 = .ok (.ifCond .eq 18, 3) := by decide +kernel
theorem dX11_sum_21 : decode cX11_sum 21 = .ok (.iload 4, 2) := by decide +kernel
theorem dX11_sum_23 : decode cX11_sum 23 = .ok (.i2l, 1) := by decide +kernel
theorem dX11_sum_24 : decode cX11_sum 24 = .ok (.ldc2_w 186, 3) := by decide +kernel
theorem dX11_sum_27 : decode cX11_sum 27 = .ok (.ldc2_w 188, 3) := by decide +kernel
theorem dX11_sum_30 : decode cX11_sum 30 = .ok (.invokestatic 126, 3) := by decide +kernel
theorem dX11_sum_33 : decode cX11_sum 33 = .ok (.ifCond .ne 6, 3) := by decide +kernel
theorem dX11_sum_36 : decode cX11_sum 36 = .ok (.bipush (-2), 2) := by decide +kernel
theorem dX11_sum_38 : decode cX11_sum 38 = .ok (.ireturn, 1) := by decide +kernel
theorem dX11_sum_39 : decode cX11_sum 39 = .ok (.aload_n 0, 1) := by decide +kernel
theorem dX11_sum_40 : decode cX11_sum 40 = .ok (.getfield 16, 3) := by decide +kernel
theorem dX11_sum_43 : decode cX11_sum 43 = .ok (.iload_n 2, 1) := by decide +kernel
theorem dX11_sum_44 : decode cX11_sum 44 = .ok (.baload, 1) := by decide +kernel
theorem dX11_sum_45 : decode cX11_sum 45 = .ok (.ifCond .eq 12, 3) := by decide +kernel
theorem dX11_sum_48 : decode cX11_sum 48 = .ok (.aload_n 0, 1) := by decide +kernel
theorem dX11_sum_49 : decode cX11_sum 49 = .ok (.getfield 16, 3) := by decide +kernel
theorem dX11_sum_52 : decode cX11_sum 52 = .ok (.iload_n 3, 1) := by decide +kernel
theorem dX11_sum_53 : decode cX11_sum 53 = .ok (.baload, 1) := by decide +kernel
theorem dX11_sum_54 : decode cX11_sum 54 = .ok (.ifCond .ne 6, 3) := by decide +kernel
theorem dX11_sum_57 : decode cX11_sum 57 = .ok (.bipush (-3), 2) := by decide +kernel
theorem dX11_sum_59 : decode cX11_sum 59 = .ok (.ireturn, 1) := by decide +kernel
theorem dX11_sum_60 : decode cX11_sum 60 = .ok (.aload_n 0, 1) := by decide +kernel
theorem dX11_sum_61 : decode cX11_sum 61 = .ok (.invokevirtual 172, 3) := by decide +kernel
theorem dX11_sum_64 : decode cX11_sum 64 = .ok (.aload_n 0, 1) := by decide +kernel
theorem dX11_sum_65 : decode cX11_sum 65 = .ok (.iload_n 2, 1) := by decide +kernel
theorem dX11_sum_66 : decode cX11_sum 66 = .ok (.lconst 1, 1) := by decide +kernel
theorem dX11_sum_67 : decode cX11_sum 67 = .ok (.invokevirtual 175, 3) := by decide +kernel
theorem dX11_sum_70 : decode cX11_sum 70 = .ok (.aload_n 0, 1) := by decide +kernel
theorem dX11_sum_71 : decode cX11_sum 71 = .ok (.iload_n 3, 1) := by decide +kernel
theorem dX11_sum_72 : decode cX11_sum 72 = .ok (.iload 4, 2) := by decide +kernel
theorem dX11_sum_74 : decode cX11_sum 74 = .ok (.i2l, 1) := by decide +kernel
theorem dX11_sum_75 : decode cX11_sum 75 = .ok (.invokevirtual 175, 3) := by decide +kernel
theorem dX11_sum_78 : decode cX11_sum 78 = .ok (.aload_n 0, 1) := by decide +kernel
theorem dX11_sum_79 : decode cX11_sum 79 = .ok (.iload_n 1, 1) := by decide +kernel
theorem dX11_sum_80 : decode cX11_sum 80 = .ok (.invokevirtual 179, 3) := by decide +kernel
theorem dX11_sum_83 : decode cX11_sum 83 = .ok (.ireturn, 1) := by decide +kernel
theorem dX11_highest_0 : decode cX11_highest 0 = .ok (.iconst 1, 1) := by decide +kernel
theorem dX11_highest_1 : decode cX11_highest 1 = .ok (.istore_n 3, 1) := by decide +kernel
theorem dX11_highest_2 : decode cX11_highest 2 = .ok (.iconst 0, 1) := by decide +kernel
theorem dX11_highest_3 : decode cX11_highest 3 = .ok (.istore 4, 2) := by decide +kernel
theorem dX11_highest_5 : decode cX11_highest 5 = .ok (.iload 4, 2) := by decide +kernel
theorem dX11_highest_7 : decode cX11_highest 7 = .ok (.iload_n 2, 1) := by decide +kernel
theorem dX11_highest_8 : decode cX11_highest 8 = .ok (.if_icmp .ge 14, 3) := by decide +kernel
theorem dX11_highest_11 : decode cX11_highest 11 = .ok (.bipush 10, 2) := by decide +kernel
theorem dX11_highest_13 : decode cX11_highest 13 = .ok (.iload_n 3, 1) := by decide +kernel
theorem dX11_highest_14 : decode cX11_highest 14 = .ok (.imul, 1) := by decide +kernel
theorem dX11_highest_15 : decode cX11_highest 15 = .ok (.istore_n 3, 1) := by decide +kernel
theorem dX11_highest_16 : decode cX11_highest 16 = .ok (.iinc 4 1, 3) := by decide +kernel
theorem dX11_highest_19 : decode cX11_highest 19 = .ok (.goto (-14), 3) := by decide +kernel
theorem dX11_highest_22 : decode cX11_highest 22 = .ok (.iconst 0, 1) := by decide +kernel
theorem dX11_highest_23 : decode cX11_highest 23 = .ok (.istore 4, 2) := by decide +kernel
theorem dX11_highest_25 : decode cX11_highest 25 = .ok (.iconst 0, 1) := by decide +kernel
theorem dX11_highest_26 : decode cX11_highest 26 = .ok (.istore 5, 2) := by decide +kernel
theorem dX11_highest_28 : decode cX11_highest 28 = .ok (.iload 5, 2) := by decide +kernel
theorem dX11_highest_30 : decode cX11_highest 30 = .ok (.aload_n 0, 1) := by decide +kernel
theorem dX11_highest_31 : decode cX11_highest 31 = .ok (.getfield 20, 3) := by decide +kernel
theorem dX11_highest_34 : decode cX11_highest 34 = .ok (.iload_n 1, 1) := by decide +kernel
theorem dX11_highest_35 : decode cX11_highest 35 = .ok (.iaload, 1) := by decide +kernel
theorem dX11_highest_36 : decode cX11_highest 36 = .ok (.if_icmp .ge 45, 3) := by decide +kernel
theorem dX11_highest_39 : decode cX11_highest 39 = .ok (.aload_n 0, 1) := by decide +kernel
theorem dX11_highest_40 : decode cX11_highest 40 = .ok (.getfield 23, 3) := by decide +kernel
theorem dX11_highest_43 : decode cX11_highest 43 = .ok (.sipush 600, 3) := by decide +kernel
theorem dX11_highest_46 : decode cX11_highest 46 = .ok (.iload_n 1, 1) := by decide +kernel
theorem dX11_highest_47 : decode cX11_highest 47 = .ok (.imul, 1) := by decide +kernel
theorem dX11_highest_48 : decode cX11_highest 48 = .ok (.iload 5, 2) := by decide +kernel
theorem dX11_highest_50 : decode cX11_highest 50 = .ok (.iadd, 1) := by decide +kernel
theorem dX11_highest_51 : decode cX11_highest 51 = .ok (.iaload, 1) := by decide +kernel
theorem dX11_highest_52 : decode cX11_highest 52 = .ok (.iload_n 3, 1) := by decide +kernel
theorem dX11_highest_53 : decode cX11_highest 53 = .ok (.idiv, 1) := by decide +kernel
theorem dX11_highest_54 : decode cX11_highest 54 = .ok (.bipush 10, 2) := by decide +kernel
theorem dX11_highest_56 : decode cX11_highest 56 = .ok (.irem, 1) := by decide +kernel
theorem dX11_highest_57 : decode cX11_highest 57 = .ok (.istore 6, 2) := by decide +kernel
theorem dX11_highest_59 : decode cX11_highest 59 = .ok (.iload 6, 2) := by decide +kernel
theorem dX11_highest_61 : decode cX11_highest 61 = .ok (.iload 4, 2) := by decide +kernel
theorem dX11_highest_63 : decode cX11_highest 63 = .ok (.if_icmp .le 8, 3) := by decide +kernel
theorem dX11_highest_66 : decode cX11_highest 66 = .ok (.iload 6, 2) := by decide +kernel
theorem dX11_highest_68 : decode cX11_highest 68 = .ok (.goto 5, 3) := by decide +kernel
theorem dX11_highest_71 : decode cX11_highest 71 = .ok (.iload 4, 2) := by decide +kernel
theorem dX11_highest_73 : decode cX11_highest 73 = .ok (.istore 4, 2) := by decide +kernel
theorem dX11_highest_75 : decode cX11_highest 75 = .ok (.iinc 5 1, 3) := by decide +kernel
theorem dX11_highest_78 : decode cX11_highest 78 = .ok (.goto (-50), 3) := by decide +kernel
theorem dX11_highest_81 : decode cX11_highest 81 = .ok (.iload 4, 2) := by decide +kernel
theorem dX11_highest_83 : decode cX11_highest 83 = .ok (.ireturn, 1) := by decide +kernel
theorem dX11_product_0 : decode cX11_product 0 = .ok (.iload_n 1, 1) := by decide +kernel
theorem dX11_product_1 : decode cX11_product 1 = .ok (.invokestatic 169, 3) := by decide +kernel
theorem dX11_product_4 : decode cX11_product 4 = .ok (.ifCond .eq 17, 3) := by decide +kernel
theorem dX11_product_7 : decode cX11_product 7 = .ok (.iload_n 2, 1) := by decide +kernel
theorem dX11_product_8 : decode cX11_product 8 = .ok (.invokestatic 169, 3) := by decide +kernel
theorem dX11_product_11 : decode cX11_product 11 = .ok (.ifCond .eq 10, 3) := by decide +kernel
theorem dX11_product_14 : decode cX11_product 14 = .ok (.iload_n 3, 1) := by decide +kernel
theorem dX11_product_15 : decode cX11_product 15 = .ok (.invokestatic 169, 3) := by decide +kernel
theorem dX11_product_18 : decode cX11_product 18 = .ok (.ifCond .ne 6, 3) := by decide +kernel
theorem dX11_product_21 : decode cX11_product 21 = .ok (.bipush (-2), 2) := by decide +kernel
theorem dX11_product_23 : decode cX11_product 23 = .ok (.ireturn, 1) := by decide +kernel
theorem dX11_product_24 : decode cX11_product 24 = .ok (.aload_n 0, 1) := by decide +kernel
theorem dX11_product_25 : decode cX11_product 25 = .ok (.getfield 16, 3) := by decide +kernel
theorem dX11_product_28 : decode cX11_product 28 = .ok (.iload_n 2, 1) := by decide +kernel
theorem dX11_product_29 : decode cX11_product 29 = .ok (.baload, 1) := by decide +kernel
theorem dX11_product_30 : decode cX11_product 30 = .ok (.ifCond .eq 12, 3) := by decide +kernel
theorem dX11_product_33 : decode cX11_product 33 = .ok (.aload_n 0, 1) := by decide +kernel
theorem dX11_product_34 : decode cX11_product 34 = .ok (.getfield 16, 3) := by decide +kernel
theorem dX11_product_37 : decode cX11_product 37 = .ok (.iload_n 3, 1) := by decide +kernel
theorem dX11_product_38 : decode cX11_product 38 = .ok (.baload, 1) := by decide +kernel
theorem dX11_product_39 : decode cX11_product 39 = .ok (.ifCond .ne 6, 3) := by decide +kernel
theorem dX11_product_42 : decode cX11_product 42 = .ok (.bipush (-3), 2) := by decide +kernel
theorem dX11_product_44 : decode cX11_product 44 = .ok (.ireturn, 1) := by decide +kernel
theorem dX11_product_45 : decode cX11_product 45 = .ok (.iconst 0, 1) := by decide +kernel
theorem dX11_product_46 : decode cX11_product 46 = .ok (.istore 4, 2) := by decide +kernel
theorem dX11_product_48 : decode cX11_product 48 = .ok (.iload 4, 2) := by decide +kernel
theorem dX11_product_50 : decode cX11_product 50 = .ok (.iconst 5, 1) := by decide +kernel
theorem dX11_product_51 : decode cX11_product 51 = .ok (.if_icmp .ge 50, 3) := by decide +kernel
theorem dX11_product_54 : decode cX11_product 54 = .ok (.aload_n 0, 1) := by decide +kernel
theorem dX11_product_55 : decode cX11_product 55 = .ok (.getfield 20, 3) := by decide +kernel
theorem dX11_product_58 : decode cX11_product 58 = .ok (.iload_n 2, 1) := by decide +kernel
theorem dX11_product_59 : decode cX11_product 59 = .ok (.iaload, 1) := by decide +kernel
theorem dX11_product_60 : decode cX11_product 60 = .ok (.ifCond .le 41, 3) := by decide +kernel
theorem dX11_product_63 : decode cX11_product 63 = .ok (.aload_n 0, 1) := by decide +kernel
theorem dX11_product_64 : decode cX11_product 64 = .ok (.getfield 20, 3) := by decide +kernel
theorem dX11_product_67 : decode cX11_product 67 = .ok (.iload_n 3, 1) := by decide +kernel
theorem dX11_product_68 : decode cX11_product 68 = .ok (.iaload, 1) := by decide +kernel
theorem dX11_product_69 : decode cX11_product 69 = .ok (.ifCond .le 32, 3) := by decide +kernel
theorem dX11_product_72 : decode cX11_product 72 = .ok (.aload_n 0, 1) := by decide +kernel
theorem dX11_product_73 : decode cX11_product 73 = .ok (.iload_n 2, 1) := by decide +kernel
theorem dX11_product_74 : decode cX11_product 74 = .ok (.iload 4, 2) := by decide +kernel
theorem dX11_product_76 : decode cX11_product 76 = .ok (.invokevirtual 190, 3) := by decide +kernel
theorem dX11_product_79 : decode cX11_product 79 = .ok (.aload_n 0, 1) := by decide +kernel
theorem dX11_product_80 : decode cX11_product 80 = .ok (.iload_n 3, 1) := by decide +kernel
theorem dX11_product_81 : decode cX11_product 81 = .ok (.iload 4, 2) := by decide +kernel
theorem dX11_product_83 : decode cX11_product 83 = .ok (.invokevirtual 190, 3) := by decide +kernel
theorem dX11_product_86 : decode cX11_product 86 = .ok (.iadd, 1) := by decide +kernel
theorem dX11_product_87 : decode cX11_product 87 = .ok (.bipush 8, 2) := by decide +kernel
theorem dX11_product_89 : decode cX11_product 89 = .ok (.if_icmp .le 6, 3) := by decide +kernel
theorem dX11_product_92 : decode cX11_product 92 = .ok (.bipush (-4), 2) := by decide +kernel
theorem dX11_product_94 : decode cX11_product 94 = .ok (.ireturn, 1) := by decide +kernel
theorem dX11_product_95 : decode cX11_product 95 = .ok (.iinc 4 1, 3) := by decide +kernel
theorem dX11_product_98 : decode cX11_product 98 = .ok (.goto (-50), 3) := by decide +kernel
theorem dX11_product_101 : decode cX11_product 101 = .ok (.aload_n 0, 1) := by decide +kernel
theorem dX11_product_102 : decode cX11_product 102 = .ok (.invokevirtual 172, 3) := by decide +kernel
theorem dX11_product_105 : decode cX11_product 105 = .ok (.iconst 0, 1) := by decide +kernel
theorem dX11_product_106 : decode cX11_product 106 = .ok (.istore 4, 2) := by decide +kernel
theorem dX11_product_108 : decode cX11_product 108 = .ok (.iload 4, 2) := by decide +kernel
theorem dX11_product_110 : decode cX11_product 110 = .ok (.aload_n 0, 1) := by decide +kernel
theorem dX11_product_111 : decode cX11_product 111 = .ok (.getfield 20, 3) := by decide +kernel
theorem dX11_product_114 : decode cX11_product 114 = .ok (.iload_n 2, 1) := by decide +kernel
theorem dX11_product_115 : decode cX11_product 115 = .ok (.iaload, 1) := by decide +kernel
theorem dX11_product_116 : decode cX11_product 116 = .ok (.if_icmp .ge 94, 3) := by decide +kernel
theorem dX11_product_119 : decode cX11_product 119 = .ok (.iconst 0, 1) := by decide +kernel
theorem dX11_product_120 : decode cX11_product 120 = .ok (.istore 5, 2) := by decide +kernel
theorem dX11_product_122 : decode cX11_product 122 = .ok (.iload 5, 2) := by decide +kernel
theorem dX11_product_124 : decode cX11_product 124 = .ok (.aload_n 0, 1) := by decide +kernel
theorem dX11_product_125 : decode cX11_product 125 = .ok (.getfield 20, 3) := by decide +kernel
theorem dX11_product_128 : decode cX11_product 128 = .ok (.iload_n 3, 1) := by decide +kernel
theorem dX11_product_129 : decode cX11_product 129 = .ok (.iaload, 1) := by decide +kernel
theorem dX11_product_130 : decode cX11_product 130 = .ok (.if_icmp .ge 74, 3) := by decide +kernel
theorem dX11_product_133 : decode cX11_product 133 = .ok (.aload_n 0, 1) := by decide +kernel
theorem dX11_product_134 : decode cX11_product 134 = .ok (.getfield 31, 3) := by decide +kernel
theorem dX11_product_137 : decode cX11_product 137 = .ok (.aload_n 0, 1) := by decide +kernel
theorem dX11_product_138 : decode cX11_product 138 = .ok (.getfield 23, 3) := by decide +kernel
theorem dX11_product_141 : decode cX11_product 141 = .ok (.sipush 600, 3) := by decide +kernel
theorem dX11_product_144 : decode cX11_product 144 = .ok (.iload_n 2, 1) := by decide +kernel
theorem dX11_product_145 : decode cX11_product 145 = .ok (.imul, 1) := by decide +kernel
theorem dX11_product_146 : decode cX11_product 146 = .ok (.iload 4, 2) := by decide +kernel
theorem dX11_product_148 : decode cX11_product 148 = .ok (.iadd, 1) := by decide +kernel
theorem dX11_product_149 : decode cX11_product 149 = .ok (.iaload, 1) := by decide +kernel
theorem dX11_product_150 : decode cX11_product 150 = .ok (.aload_n 0, 1) := by decide +kernel
theorem dX11_product_151 : decode cX11_product 151 = .ok (.getfield 23, 3) := by decide +kernel
theorem dX11_product_154 : decode cX11_product 154 = .ok (.sipush 600, 3) := by decide +kernel
theorem dX11_product_157 : decode cX11_product 157 = .ok (.iload_n 3, 1) := by decide +kernel
theorem dX11_product_158 : decode cX11_product 158 = .ok (.imul, 1) := by decide +kernel
theorem dX11_product_159 : decode cX11_product 159 = .ok (.iload 5, 2) := by decide +kernel
theorem dX11_product_161 : decode cX11_product 161 = .ok (.iadd, 1) := by decide +kernel
theorem dX11_product_162 : decode cX11_product 162 = .ok (.iaload, 1) := by decide +kernel
theorem dX11_product_163 : decode cX11_product 163 = .ok (.iadd, 1) := by decide +kernel
theorem dX11_product_164 : decode cX11_product 164 = .ok (.invokestatic 154, 3) := by decide +kernel
theorem dX11_product_167 : decode cX11_product 167 = .ok (.dup2, 1) := by decide +kernel
theorem dX11_product_168 : decode cX11_product 168 = .ok (.laload, 1) := by decide +kernel
theorem dX11_product_169 : decode cX11_product 169 = .ok (.aload_n 0, 1) := by decide +kernel
theorem dX11_product_170 : decode cX11_product 170 = .ok (.getfield 26, 3) := by decide +kernel
theorem dX11_product_173 : decode cX11_product 173 = .ok (.sipush 600, 3) := by decide +kernel
theorem dX11_product_176 : decode cX11_product 176 = .ok (.iload_n 2, 1) := by decide +kernel
theorem dX11_product_177 : decode cX11_product 177 = .ok (.imul, 1) := by decide +kernel
theorem dX11_product_178 : decode cX11_product 178 = .ok (.iload 4, 2) := by decide +kernel
theorem dX11_product_180 : decode cX11_product 180 = .ok (.iadd, 1) := by decide +kernel
theorem dX11_product_181 : decode cX11_product 181 = .ok (.laload, 1) := by decide +kernel
theorem dX11_product_182 : decode cX11_product 182 = .ok (.aload_n 0, 1) := by decide +kernel
theorem dX11_product_183 : decode cX11_product 183 = .ok (.getfield 26, 3) := by decide +kernel
theorem dX11_product_186 : decode cX11_product 186 = .ok (.sipush 600, 3) := by decide +kernel
theorem dX11_product_189 : decode cX11_product 189 = .ok (.iload_n 3, 1) := by decide +kernel
theorem dX11_product_190 : decode cX11_product 190 = .ok (.imul, 1) := by decide +kernel
theorem dX11_product_191 : decode cX11_product 191 = .ok (.iload 5, 2) := by decide +kernel
theorem dX11_product_193 : decode cX11_product 193 = .ok (.iadd, 1) := by decide +kernel
theorem dX11_product_194 : decode cX11_product 194 = .ok (.laload, 1) := by decide +kernel
theorem dX11_product_195 : decode cX11_product 195 = .ok (.lmul, 1) := by decide +kernel
theorem dX11_product_196 : decode cX11_product 196 = .ok (.ladd, 1) := by decide +kernel
theorem dX11_product_197 : decode cX11_product 197 = .ok (.lastore, 1) := by decide +kernel
theorem dX11_product_198 : decode cX11_product 198 = .ok (.iinc 5 1, 3) := by decide +kernel
theorem dX11_product_201 : decode cX11_product 201 = .ok (.goto (-79), 3) := by decide +kernel
theorem dX11_product_204 : decode cX11_product 204 = .ok (.iinc 4 1, 3) := by decide +kernel
theorem dX11_product_207 : decode cX11_product 207 = .ok (.goto (-99), 3) := by decide +kernel
theorem dX11_product_210 : decode cX11_product 210 = .ok (.aload_n 0, 1) := by decide +kernel
theorem dX11_product_211 : decode cX11_product 211 = .ok (.iload_n 1, 1) := by decide +kernel
theorem dX11_product_212 : decode cX11_product 212 = .ok (.invokevirtual 179, 3) := by decide +kernel
theorem dX11_product_215 : decode cX11_product 215 = .ok (.ireturn, 1) := by decide +kernel
theorem dX11_nines_0 : decode cX11_nines 0 = .ok (.iconst 1, 1) := by decide +kernel
theorem dX11_nines_1 : decode cX11_nines 1 = .ok (.istore_n 1, 1) := by decide +kernel
theorem dX11_nines_2 : decode cX11_nines 2 = .ok (.iconst 0, 1) := by decide +kernel
theorem dX11_nines_3 : decode cX11_nines 3 = .ok (.istore_n 2, 1) := by decide +kernel
theorem dX11_nines_4 : decode cX11_nines 4 = .ok (.iload_n 2, 1) := by decide +kernel
theorem dX11_nines_5 : decode cX11_nines 5 = .ok (.iload_n 0, 1) := by decide +kernel
theorem dX11_nines_6 : decode cX11_nines 6 = .ok (.if_icmp .ge 14, 3) := by decide +kernel
theorem dX11_nines_9 : decode cX11_nines 9 = .ok (.bipush 9, 2) := by decide +kernel
theorem dX11_nines_11 : decode cX11_nines 11 = .ok (.iload_n 1, 1) := by decide +kernel
theorem dX11_nines_12 : decode cX11_nines 12 = .ok (.imul, 1) := by decide +kernel
theorem dX11_nines_13 : decode cX11_nines 13 = .ok (.istore_n 1, 1) := by decide +kernel
theorem dX11_nines_14 : decode cX11_nines 14 = .ok (.iinc 2 1, 3) := by decide +kernel
theorem dX11_nines_17 : decode cX11_nines 17 = .ok (.goto (-13), 3) := by decide +kernel
theorem dX11_nines_20 : decode cX11_nines 20 = .ok (.iload_n 1, 1) := by decide +kernel
theorem dX11_nines_21 : decode cX11_nines 21 = .ok (.ireturn, 1) := by decide +kernel
theorem dX11_turned_0 : decode cX11_turned 0 = .ok (.iload_n 1, 1) := by decide +kernel
theorem dX11_turned_1 : decode cX11_turned 1 = .ok (.invokestatic 169, 3) := by decide +kernel
theorem dX11_turned_4 : decode cX11_turned 4 = .ok (.ifCond .eq 22, 3) := by decide +kernel
theorem dX11_turned_7 : decode cX11_turned 7 = .ok (.iload_n 2, 1) := by decide +kernel
theorem dX11_turned_8 : decode cX11_turned 8 = .ok (.invokestatic 169, 3) := by decide +kernel
theorem dX11_turned_11 : decode cX11_turned 11 = .ok (.ifCond .eq 15, 3) := by decide +kernel
theorem dX11_turned_14 : decode cX11_turned 14 = .ok (.iload_n 3, 1) := by decide +kernel
theorem dX11_turned_15 : decode cX11_turned 15 = .ok (.i2l, 1) := by decide +kernel
theorem dX11_turned_16 : decode cX11_turned 16 = .ok (.lconst 1, 1) := by decide +kernel
theorem dX11_turned_17 : decode cX11_turned 17 = .ok (.ldc2_w 194, 3) := by decide +kernel
theorem dX11_turned_20 : decode cX11_turned 20 = .ok (.invokestatic 126, 3) := by decide +kernel
theorem dX11_turned_23 : decode cX11_turned 23 = .ok (.ifCond .ne 6, 3) := by decide +kernel
theorem dX11_turned_26 : decode cX11_turned 26 = .ok (.bipush (-2), 2) := by decide +kernel
theorem dX11_turned_28 : decode cX11_turned 28 = .ok (.ireturn, 1) := by decide +kernel
theorem dX11_turned_29 : decode cX11_turned 29 = .ok (.aload_n 0, 1) := by decide +kernel
theorem dX11_turned_30 : decode cX11_turned 30 = .ok (.getfield 16, 3) := by decide +kernel
theorem dX11_turned_33 : decode cX11_turned 33 = .ok (.iload_n 2, 1) := by decide +kernel
theorem dX11_turned_34 : decode cX11_turned 34 = .ok (.baload, 1) := by decide +kernel
theorem dX11_turned_35 : decode cX11_turned 35 = .ok (.ifCond .ne 6, 3) := by decide +kernel
theorem dX11_turned_38 : decode cX11_turned 38 = .ok (.bipush (-3), 2) := by decide +kernel
theorem dX11_turned_40 : decode cX11_turned 40 = .ok (.ireturn, 1) := by decide +kernel
theorem dX11_turned_41 : decode cX11_turned 41 = .ok (.aload_n 0, 1) := by decide +kernel
theorem dX11_turned_42 : decode cX11_turned 42 = .ok (.invokevirtual 172, 3) := by decide +kernel
theorem dX11_turned_45 : decode cX11_turned 45 = .ok (.iconst 5, 1) := by decide +kernel
theorem dX11_turned_46 : decode cX11_turned 46 = .ok (.iload_n 3, 1) := by decide +kernel
theorem dX11_turned_47 : decode cX11_turned 47 = .ok (.isub, 1) := by decide +kernel
theorem dX11_turned_48 : decode cX11_turned 48 = .ok (.invokestatic 196, 3) := by decide +kernel
theorem dX11_turned_51 : decode cX11_turned 51 = .ok (.istore 4, 2) := by decide +kernel
theorem dX11_turned_53 : decode cX11_turned 53 = .ok (.iconst 4, 1) := by decide +kernel
theorem dX11_turned_54 : decode cX11_turned 54 = .ok (.iload_n 3, 1) := by decide +kernel
theorem dX11_turned_55 : decode cX11_turned 55 = .ok (.isub, 1) := by decide +kernel
theorem dX11_turned_56 : decode cX11_turned 56 = .ok (.invokestatic 196, 3) := by decide +kernel
theorem dX11_turned_59 : decode cX11_turned 59 = .ok (.istore 5, 2) := by decide +kernel
theorem dX11_turned_61 : decode cX11_turned 61 = .ok (.iconst 0, 1) := by decide +kernel
theorem dX11_turned_62 : decode cX11_turned 62 = .ok (.istore 6, 2) := by decide +kernel
theorem dX11_turned_64 : decode cX11_turned 64 = .ok (.iload 6, 2) := by decide +kernel
theorem dX11_turned_66 : decode cX11_turned 66 = .ok (.aload_n 0, 1) := by decide +kernel
theorem dX11_turned_67 : decode cX11_turned 67 = .ok (.getfield 20, 3) := by decide +kernel
theorem dX11_turned_70 : decode cX11_turned 70 = .ok (.iload_n 2, 1) := by decide +kernel
theorem dX11_turned_71 : decode cX11_turned 71 = .ok (.iaload, 1) := by decide +kernel
theorem dX11_turned_72 : decode cX11_turned 72 = .ok (.if_icmp .ge 85, 3) := by decide +kernel
theorem dX11_turned_75 : decode cX11_turned 75 = .ok (.aload_n 0, 1) := by decide +kernel
theorem dX11_turned_76 : decode cX11_turned 76 = .ok (.getfield 23, 3) := by decide +kernel
theorem dX11_turned_79 : decode cX11_turned 79 = .ok (.sipush 600, 3) := by decide +kernel
theorem dX11_turned_82 : decode cX11_turned 82 = .ok (.iload_n 2, 1) := by decide +kernel
theorem dX11_turned_83 : decode cX11_turned 83 = .ok (.imul, 1) := by decide +kernel
theorem dX11_turned_84 : decode cX11_turned 84 = .ok (.iload 6, 2) := by decide +kernel
theorem dX11_turned_86 : decode cX11_turned 86 = .ok (.iadd, 1) := by decide +kernel
theorem dX11_turned_87 : decode cX11_turned 87 = .ok (.iaload, 1) := by decide +kernel
theorem dX11_turned_88 : decode cX11_turned 88 = .ok (.invokestatic 154, 3) := by decide +kernel
theorem dX11_turned_91 : decode cX11_turned 91 = .ok (.istore 7, 2) := by decide +kernel
theorem dX11_turned_93 : decode cX11_turned 93 = .ok (.iload 7, 2) := by decide +kernel
theorem dX11_turned_95 : decode cX11_turned 95 = .ok (.iload 4, 2) := by decide +kernel
theorem dX11_turned_97 : decode cX11_turned 97 = .ok (.idiv, 1) := by decide +kernel
theorem dX11_turned_98 : decode cX11_turned 98 = .ok (.bipush 9, 2) := by decide +kernel
theorem dX11_turned_100 : decode cX11_turned 100 = .ok (.irem, 1) := by decide +kernel
theorem dX11_turned_101 : decode cX11_turned 101 = .ok (.istore 8, 2) := by decide +kernel
theorem dX11_turned_103 : decode cX11_turned 103 = .ok (.iload 7, 2) := by decide +kernel
theorem dX11_turned_105 : decode cX11_turned 105 = .ok (.iload 5, 2) := by decide +kernel
theorem dX11_turned_107 : decode cX11_turned 107 = .ok (.idiv, 1) := by decide +kernel
theorem dX11_turned_108 : decode cX11_turned 108 = .ok (.bipush 9, 2) := by decide +kernel
theorem dX11_turned_110 : decode cX11_turned 110 = .ok (.irem, 1) := by decide +kernel
theorem dX11_turned_111 : decode cX11_turned 111 = .ok (.istore 9, 2) := by decide +kernel
theorem dX11_turned_113 : decode cX11_turned 113 = .ok (.aload_n 0, 1) := by decide +kernel
theorem dX11_turned_114 : decode cX11_turned 114 = .ok (.getfield 31, 3) := by decide +kernel
theorem dX11_turned_117 : decode cX11_turned 117 = .ok (.iload 7, 2) := by decide +kernel
theorem dX11_turned_119 : decode cX11_turned 119 = .ok (.iload 9, 2) := by decide +kernel
theorem dX11_turned_121 : decode cX11_turned 121 = .ok (.iload 8, 2) := by decide +kernel
theorem dX11_turned_123 : decode cX11_turned 123 = .ok (.isub, 1) := by decide +kernel
theorem dX11_turned_124 : decode cX11_turned 124 = .ok (.iload 4, 2) := by decide +kernel
theorem dX11_turned_126 : decode cX11_turned 126 = .ok (.imul, 1) := by decide +kernel
theorem dX11_turned_127 : decode cX11_turned 127 = .ok (.iadd, 1) := by decide +kernel
theorem dX11_turned_128 : decode cX11_turned 128 = .ok (.iload 8, 2) := by decide +kernel
theorem dX11_turned_130 : decode cX11_turned 130 = .ok (.iload 9, 2) := by decide +kernel
theorem dX11_turned_132 : decode cX11_turned 132 = .ok (.isub, 1) := by decide +kernel
theorem dX11_turned_133 : decode cX11_turned 133 = .ok (.iload 5, 2) := by decide +kernel
theorem dX11_turned_135 : decode cX11_turned 135 = .ok (.imul, 1) := by decide +kernel
theorem dX11_turned_136 : decode cX11_turned 136 = .ok (.iadd, 1) := by decide +kernel
theorem dX11_turned_137 : decode cX11_turned 137 = .ok (.aload_n 0, 1) := by decide +kernel
theorem dX11_turned_138 : decode cX11_turned 138 = .ok (.getfield 26, 3) := by decide +kernel
theorem dX11_turned_141 : decode cX11_turned 141 = .ok (.sipush 600, 3) := by decide +kernel
theorem dX11_turned_144 : decode cX11_turned 144 = .ok (.iload_n 2, 1) := by decide +kernel
theorem dX11_turned_145 : decode cX11_turned 145 = .ok (.imul, 1) := by decide +kernel
theorem dX11_turned_146 : decode cX11_turned 146 = .ok (.iload 6, 2) := by decide +kernel
theorem dX11_turned_148 : decode cX11_turned 148 = .ok (.iadd, 1) := by decide +kernel
theorem dX11_turned_149 : decode cX11_turned 149 = .ok (.laload, 1) := by decide +kernel
theorem dX11_turned_150 : decode cX11_turned 150 = .ok (.lastore, 1) := by decide +kernel
theorem dX11_turned_151 : decode cX11_turned 151 = .ok (.iinc 6 1, 3) := by decide +kernel
theorem dX11_turned_154 : decode cX11_turned 154 = .ok (.goto (-90), 3) := by decide +kernel
theorem dX11_turned_157 : decode cX11_turned 157 = .ok (.aload_n 0, 1) := by decide +kernel
theorem dX11_turned_158 : decode cX11_turned 158 = .ok (.iload_n 1, 1) := by decide +kernel
theorem dX11_turned_159 : decode cX11_turned 159 = .ok (.invokevirtual 179, 3) := by decide +kernel
theorem dX11_turned_162 : decode cX11_turned 162 = .ok (.ireturn, 1) := by decide +kernel
theorem dX11_differ_0 : decode cX11_differ 0 = .ok (.iconst 5, 1) := by decide +kernel
theorem dX11_differ_1 : decode cX11_differ 1 = .ok (.iload_n 1, 1) := by decide +kernel
theorem dX11_differ_2 : decode cX11_differ 2 = .ok (.isub, 1) := by decide +kernel
theorem dX11_differ_3 : decode cX11_differ 3 = .ok (.invokestatic 196, 3) := by decide +kernel
theorem dX11_differ_6 : decode cX11_differ 6 = .ok (.istore_n 2, 1) := by decide +kernel
theorem dX11_differ_7 : decode cX11_differ 7 = .ok (.iconst 4, 1) := by decide +kernel
theorem dX11_differ_8 : decode cX11_differ 8 = .ok (.iload_n 1, 1) := by decide +kernel
theorem dX11_differ_9 : decode cX11_differ 9 = .ok (.isub, 1) := by decide +kernel
theorem dX11_differ_10 : decode cX11_differ 10 = .ok (.invokestatic 196, 3) := by decide +kernel
theorem dX11_differ_13 : decode cX11_differ 13 = .ok (.istore_n 3, 1) := by decide +kernel
theorem dX11_differ_14 : decode cX11_differ 14 = .ok (.iconst 0, 1) := by decide +kernel
theorem dX11_differ_15 : decode cX11_differ 15 = .ok (.istore 4, 2) := by decide +kernel
theorem dX11_differ_17 : decode cX11_differ 17 = .ok (.iload 4, 2) := by decide +kernel
theorem dX11_differ_19 : decode cX11_differ 19 = .ok (.ldc 30, 2) := by decide +kernel
theorem dX11_differ_21 : decode cX11_differ 21 = .ok (.if_icmp .ge 17, 3) := by decide +kernel
theorem dX11_differ_24 : decode cX11_differ 24 = .ok (.aload_n 0, 1) := by decide +kernel
theorem dX11_differ_25 : decode cX11_differ 25 = .ok (.getfield 34, 3) := by decide +kernel
theorem dX11_differ_28 : decode cX11_differ 28 = .ok (.iload 4, 2) := by decide +kernel
theorem dX11_differ_30 : decode cX11_differ 30 = .ok (.lconst 0, 1) := by decide +kernel
theorem dX11_differ_31 : decode cX11_differ 31 = .ok (.lastore, 1) := by decide +kernel
theorem dX11_differ_32 : decode cX11_differ 32 = .ok (.iinc 4 1, 3) := by decide +kernel
theorem dX11_differ_35 : decode cX11_differ 35 = .ok (.goto (-18), 3) := by decide +kernel
theorem dX11_differ_38 : decode cX11_differ 38 = .ok (.iconst 0, 1) := by decide +kernel
theorem dX11_differ_39 : decode cX11_differ 39 = .ok (.istore 4, 2) := by decide +kernel
theorem dX11_differ_41 : decode cX11_differ 41 = .ok (.iload 4, 2) := by decide +kernel
theorem dX11_differ_43 : decode cX11_differ 43 = .ok (.ldc 30, 2) := by decide +kernel
theorem dX11_differ_45 : decode cX11_differ 45 = .ok (.if_icmp .ge 157, 3) := by decide +kernel
theorem dX11_differ_48 : decode cX11_differ 48 = .ok (.aload_n 0, 1) := by decide +kernel
theorem dX11_differ_49 : decode cX11_differ 49 = .ok (.getfield 31, 3) := by decide +kernel
theorem dX11_differ_52 : decode cX11_differ 52 = .ok (.iload 4, 2) := by decide +kernel
theorem dX11_differ_54 : decode cX11_differ 54 = .ok (.laload, 1) := by decide +kernel
theorem dX11_differ_55 : decode cX11_differ 55 = .ok (.lconst 0, 1) := by decide +kernel
theorem dX11_differ_56 : decode cX11_differ 56 = .ok (.lcmp, 1) := by decide +kernel
theorem dX11_differ_57 : decode cX11_differ 57 = .ok (.ifCond .eq 139, 3) := by decide +kernel
theorem dX11_differ_60 : decode cX11_differ 60 = .ok (.iload 4, 2) := by decide +kernel
theorem dX11_differ_62 : decode cX11_differ 62 = .ok (.iload_n 2, 1) := by decide +kernel
theorem dX11_differ_63 : decode cX11_differ 63 = .ok (.idiv, 1) := by decide +kernel
theorem dX11_differ_64 : decode cX11_differ 64 = .ok (.bipush 9, 2) := by decide +kernel
theorem dX11_differ_66 : decode cX11_differ 66 = .ok (.irem, 1) := by decide +kernel
theorem dX11_differ_67 : decode cX11_differ 67 = .ok (.istore 5, 2) := by decide +kernel
theorem dX11_differ_69 : decode cX11_differ 69 = .ok (.iload 4, 2) := by decide +kernel
theorem dX11_differ_71 : decode cX11_differ 71 = .ok (.iload_n 3, 1) := by decide +kernel
theorem dX11_differ_72 : decode cX11_differ 72 = .ok (.idiv, 1) := by decide +kernel
theorem dX11_differ_73 : decode cX11_differ 73 = .ok (.bipush 9, 2) := by decide +kernel
theorem dX11_differ_75 : decode cX11_differ 75 = .ok (.irem, 1) := by decide +kernel
theorem dX11_differ_76 : decode cX11_differ 76 = .ok (.istore 6, 2) := by decide +kernel
theorem dX11_differ_78 : decode cX11_differ 78 = .ok (.iload 4, 2) := by decide +kernel
theorem dX11_differ_80 : decode cX11_differ 80 = .ok (.iload 5, 2) := by decide +kernel
theorem dX11_differ_82 : decode cX11_differ 82 = .ok (.iload_n 2, 1) := by decide +kernel
theorem dX11_differ_83 : decode cX11_differ 83 = .ok (.imul, 1) := by decide +kernel
theorem dX11_differ_84 : decode cX11_differ 84 = .ok (.isub, 1) := by decide +kernel
theorem dX11_differ_85 : decode cX11_differ 85 = .ok (.iload 6, 2) := by decide +kernel
theorem dX11_differ_87 : decode cX11_differ 87 = .ok (.iload_n 3, 1) := by decide +kernel
theorem dX11_differ_88 : decode cX11_differ 88 = .ok (.imul, 1) := by decide +kernel
theorem dX11_differ_89 : decode cX11_differ 89 = .ok (.isub, 1) := by decide +kernel
theorem dX11_differ_90 : decode cX11_differ 90 = .ok (.istore 7, 2) := by decide +kernel
theorem dX11_differ_92 : decode cX11_differ 92 = .ok (.iload 5, 2) := by decide +kernel
theorem dX11_differ_94 : decode cX11_differ 94 = .ok (.iload 6, 2) := by decide +kernel
theorem dX11_differ_96 : decode cX11_differ 96 = .ok (.if_icmp .le 8, 3) := by decide +kernel
theorem dX11_differ_99 : decode cX11_differ 99 = .ok (.iload 5, 2) := by decide +kernel
theorem dX11_differ_101 : decode cX11_differ 101 = .ok (.goto 5, 3) := by decide +kernel
theorem dX11_differ_104 : decode cX11_differ 104 = .ok (.iload 6, 2) := by decide +kernel
theorem dX11_differ_106 : decode cX11_differ 106 = .ok (.istore 8, 2) := by decide +kernel
theorem dX11_differ_108 : decode cX11_differ 108 = .ok (.iload 5, 2) := by decide +kernel
theorem dX11_differ_110 : decode cX11_differ 110 = .ok (.iload 6, 2) := by decide +kernel
theorem dX11_differ_112 : decode cX11_differ 112 = .ok (.if_icmp .le 8, 3) := by decide +kernel
theorem dX11_differ_115 : decode cX11_differ 115 = .ok (.iload 6, 2) := by decide +kernel
theorem dX11_differ_117 : decode cX11_differ 117 = .ok (.goto 5, 3) := by decide +kernel
theorem dX11_differ_120 : decode cX11_differ 120 = .ok (.iload 5, 2) := by decide +kernel
theorem dX11_differ_122 : decode cX11_differ 122 = .ok (.istore 9, 2) := by decide +kernel
theorem dX11_differ_124 : decode cX11_differ 124 = .ok (.iconst 0, 1) := by decide +kernel
theorem dX11_differ_125 : decode cX11_differ 125 = .ok (.istore 10, 2) := by decide +kernel
theorem dX11_differ_127 : decode cX11_differ 127 = .ok (.iload 10, 2) := by decide +kernel
theorem dX11_differ_129 : decode cX11_differ 129 = .ok (.iload 8, 2) := by decide +kernel
theorem dX11_differ_131 : decode cX11_differ 131 = .ok (.iload 9, 2) := by decide +kernel
theorem dX11_differ_133 : decode cX11_differ 133 = .ok (.isub, 1) := by decide +kernel
theorem dX11_differ_134 : decode cX11_differ 134 = .ok (.if_icmp .ge 62, 3) := by decide +kernel
theorem dX11_differ_137 : decode cX11_differ 137 = .ok (.aload_n 0, 1) := by decide +kernel
theorem dX11_differ_138 : decode cX11_differ 138 = .ok (.getfield 34, 3) := by decide +kernel
theorem dX11_differ_141 : decode cX11_differ 141 = .ok (.iload 7, 2) := by decide +kernel
theorem dX11_differ_143 : decode cX11_differ 143 = .ok (.iload 8, 2) := by decide +kernel
theorem dX11_differ_145 : decode cX11_differ 145 = .ok (.iconst 1, 1) := by decide +kernel
theorem dX11_differ_146 : decode cX11_differ 146 = .ok (.isub, 1) := by decide +kernel
theorem dX11_differ_147 : decode cX11_differ 147 = .ok (.iload 10, 2) := by decide +kernel
theorem dX11_differ_149 : decode cX11_differ 149 = .ok (.isub, 1) := by decide +kernel
theorem dX11_differ_150 : decode cX11_differ 150 = .ok (.iload_n 2, 1) := by decide +kernel
theorem dX11_differ_151 : decode cX11_differ 151 = .ok (.imul, 1) := by decide +kernel
theorem dX11_differ_152 : decode cX11_differ 152 = .ok (.iadd, 1) := by decide +kernel
theorem dX11_differ_153 : decode cX11_differ 153 = .ok (.iload 9, 2) := by decide +kernel
theorem dX11_differ_155 : decode cX11_differ 155 = .ok (.iload 10, 2) := by decide +kernel
theorem dX11_differ_157 : decode cX11_differ 157 = .ok (.iadd, 1) := by decide +kernel
theorem dX11_differ_158 : decode cX11_differ 158 = .ok (.iload_n 3, 1) := by decide +kernel
theorem dX11_differ_159 : decode cX11_differ 159 = .ok (.imul, 1) := by decide +kernel
theorem dX11_differ_160 : decode cX11_differ 160 = .ok (.iadd, 1) := by decide +kernel
theorem dX11_differ_161 : decode cX11_differ 161 = .ok (.dup2, 1) := by decide +kernel
theorem dX11_differ_162 : decode cX11_differ 162 = .ok (.laload, 1) := by decide +kernel
theorem dX11_differ_163 : decode cX11_differ 163 = .ok (.iload 5, 2) := by decide +kernel
theorem dX11_differ_165 : decode cX11_differ 165 = .ok (.iload 6, 2) := by decide +kernel
theorem dX11_differ_167 : decode cX11_differ 167 = .ok (.if_icmp .le 13, 3) := by decide +kernel
theorem dX11_differ_170 : decode cX11_differ 170 = .ok (.aload_n 0, 1) := by decide +kernel
theorem dX11_differ_171 : decode cX11_differ 171 = .ok (.getfield 31, 3) := by decide +kernel
theorem dX11_differ_174 : decode cX11_differ 174 = .ok (.iload 4, 2) := by decide +kernel
theorem dX11_differ_176 : decode cX11_differ 176 = .ok (.laload, 1) := by decide +kernel
theorem dX11_differ_177 : decode cX11_differ 177 = .ok (.goto 11, 3) := by decide +kernel
theorem dX11_differ_180 : decode cX11_differ 180 = .ok (.aload_n 0, 1) := by decide +kernel
theorem dX11_differ_181 : decode cX11_differ 181 = .ok (.getfield 31, 3) := by decide +kernel
theorem dX11_differ_184 : decode cX11_differ 184 = .ok (.iload 4, 2) := by decide +kernel
theorem dX11_differ_186 : decode cX11_differ 186 = .ok (.laload, 1) := by decide +kernel
theorem dX11_differ_187 : decode cX11_differ 187 = .ok (.lneg, 1) := by decide +kernel
theorem dX11_differ_188 : decode cX11_differ 188 = .ok (.ladd, 1) := by decide +kernel
theorem dX11_differ_189 : decode cX11_differ 189 = .ok (.lastore, 1) := by decide +kernel
theorem dX11_differ_190 : decode cX11_differ 190 = .ok (.iinc 10 1, 3) := by decide +kernel
theorem dX11_differ_193 : decode cX11_differ 193 = .ok (.goto (-66), 3) := by decide +kernel
theorem dX11_differ_196 : decode cX11_differ 196 = .ok (.iinc 4 1, 3) := by decide +kernel
theorem dX11_differ_199 : decode cX11_differ 199 = .ok (.goto (-158), 3) := by decide +kernel
theorem dX11_differ_202 : decode cX11_differ 202 = .ok (.iconst 0, 1) := by decide +kernel
theorem dX11_differ_203 : decode cX11_differ 203 = .ok (.istore 4, 2) := by decide +kernel
theorem dX11_differ_205 : decode cX11_differ 205 = .ok (.iload 4, 2) := by decide +kernel
theorem dX11_differ_207 : decode cX11_differ 207 = .ok (.ldc 30, 2) := by decide +kernel
theorem dX11_differ_209 : decode cX11_differ 209 = .ok (.if_icmp .ge 23, 3) := by decide +kernel
theorem dX11_differ_212 : decode cX11_differ 212 = .ok (.aload_n 0, 1) := by decide +kernel
theorem dX11_differ_213 : decode cX11_differ 213 = .ok (.getfield 31, 3) := by decide +kernel
theorem dX11_differ_216 : decode cX11_differ 216 = .ok (.iload 4, 2) := by decide +kernel
theorem dX11_differ_218 : decode cX11_differ 218 = .ok (.aload_n 0, 1) := by decide +kernel
theorem dX11_differ_219 : decode cX11_differ 219 = .ok (.getfield 34, 3) := by decide +kernel
theorem dX11_differ_222 : decode cX11_differ 222 = .ok (.iload 4, 2) := by decide +kernel
theorem dX11_differ_224 : decode cX11_differ 224 = .ok (.laload, 1) := by decide +kernel
theorem dX11_differ_225 : decode cX11_differ 225 = .ok (.lastore, 1) := by decide +kernel
theorem dX11_differ_226 : decode cX11_differ 226 = .ok (.iinc 4 1, 3) := by decide +kernel
theorem dX11_differ_229 : decode cX11_differ 229 = .ok (.goto (-24), 3) := by decide +kernel
theorem dX11_differ_232 : decode cX11_differ 232 = .ok (.return_, 1) := by decide +kernel
theorem dX11_difference_0 : decode cX11_difference 0 = .ok (.iload_n 1, 1) := by decide +kernel
theorem dX11_difference_1 : decode cX11_difference 1 = .ok (.invokestatic 169, 3) := by decide +kernel
theorem dX11_difference_4 : decode cX11_difference 4 = .ok (.ifCond .eq 22, 3) := by decide +kernel
theorem dX11_difference_7 : decode cX11_difference 7 = .ok (.iload_n 2, 1) := by decide +kernel
theorem dX11_difference_8 : decode cX11_difference 8 = .ok (.invokestatic 169, 3) := by decide +kernel
theorem dX11_difference_11 : decode cX11_difference 11 = .ok (.ifCond .eq 15, 3) := by decide +kernel
theorem dX11_difference_14 : decode cX11_difference 14 = .ok (.iload_n 3, 1) := by decide +kernel
theorem dX11_difference_15 : decode cX11_difference 15 = .ok (.i2l, 1) := by decide +kernel
theorem dX11_difference_16 : decode cX11_difference 16 = .ok (.lconst 1, 1) := by decide +kernel
theorem dX11_difference_17 : decode cX11_difference 17 = .ok (.ldc2_w 194, 3) := by decide +kernel
theorem dX11_difference_20 : decode cX11_difference 20 = .ok (.invokestatic 126, 3) := by decide +kernel
theorem dX11_difference_23 : decode cX11_difference 23 = .ok (.ifCond .ne 6, 3) := by decide +kernel
theorem dX11_difference_26 : decode cX11_difference 26 = .ok (.bipush (-2), 2) := by decide +kernel
theorem dX11_difference_28 : decode cX11_difference 28 = .ok (.ireturn, 1) := by decide +kernel
theorem dX11_difference_29 : decode cX11_difference 29 = .ok (.aload_n 0, 1) := by decide +kernel
theorem dX11_difference_30 : decode cX11_difference 30 = .ok (.getfield 16, 3) := by decide +kernel
theorem dX11_difference_33 : decode cX11_difference 33 = .ok (.iload_n 2, 1) := by decide +kernel
theorem dX11_difference_34 : decode cX11_difference 34 = .ok (.baload, 1) := by decide +kernel
theorem dX11_difference_35 : decode cX11_difference 35 = .ok (.ifCond .ne 6, 3) := by decide +kernel
theorem dX11_difference_38 : decode cX11_difference 38 = .ok (.bipush (-3), 2) := by decide +kernel
theorem dX11_difference_40 : decode cX11_difference 40 = .ok (.ireturn, 1) := by decide +kernel
theorem dX11_difference_41 : decode cX11_difference 41 = .ok (.aload_n 0, 1) := by decide +kernel
theorem dX11_difference_42 : decode cX11_difference 42 = .ok (.invokevirtual 172, 3) := by decide +kernel
theorem dX11_difference_45 : decode cX11_difference 45 = .ok (.aload_n 0, 1) := by decide +kernel
theorem dX11_difference_46 : decode cX11_difference 46 = .ok (.iload_n 2, 1) := by decide +kernel
theorem dX11_difference_47 : decode cX11_difference 47 = .ok (.lconst 1, 1) := by decide +kernel
theorem dX11_difference_48 : decode cX11_difference 48 = .ok (.invokevirtual 175, 3) := by decide +kernel
theorem dX11_difference_51 : decode cX11_difference 51 = .ok (.aload_n 0, 1) := by decide +kernel
theorem dX11_difference_52 : decode cX11_difference 52 = .ok (.iload_n 3, 1) := by decide +kernel
theorem dX11_difference_53 : decode cX11_difference 53 = .ok (.invokevirtual 199, 3) := by decide +kernel
theorem dX11_difference_56 : decode cX11_difference 56 = .ok (.aload_n 0, 1) := by decide +kernel
theorem dX11_difference_57 : decode cX11_difference 57 = .ok (.iload_n 1, 1) := by decide +kernel
theorem dX11_difference_58 : decode cX11_difference 58 = .ok (.invokevirtual 179, 3) := by decide +kernel
theorem dX11_difference_61 : decode cX11_difference 61 = .ok (.ireturn, 1) := by decide +kernel
theorem dX11_makes_0 : decode cX11_makes 0 = .ok (.aload_n 0, 1) := by decide +kernel
theorem dX11_makes_1 : decode cX11_makes 1 = .ok (.iload_n 1, 1) := by decide +kernel
theorem dX11_makes_2 : decode cX11_makes 2 = .ok (.invokevirtual 133, 3) := by decide +kernel
theorem dX11_makes_5 : decode cX11_makes 5 = .ok (.istore_n 2, 1) := by decide +kernel
theorem dX11_makes_6 : decode cX11_makes 6 = .ok (.iconst 0, 1) := by decide +kernel
theorem dX11_makes_7 : decode cX11_makes 7 = .ok (.istore_n 3, 1) := by decide +kernel
theorem dX11_makes_8 : decode cX11_makes 8 = .ok (.iconst 1, 1) := by decide +kernel
theorem dX11_makes_9 : decode cX11_makes 9 = .ok (.istore 4, 2) := by decide +kernel
theorem dX11_makes_11 : decode cX11_makes 11 = .ok (.iload 4, 2) := by decide +kernel
theorem dX11_makes_13 : decode cX11_makes 13 = .ok (.ifCond .eq 79, 3) := by decide +kernel
theorem dX11_makes_16 : decode cX11_makes 16 = .ok (.iconst 0, 1) := by decide +kernel
theorem dX11_makes_17 : decode cX11_makes 17 = .ok (.istore 4, 2) := by decide +kernel
theorem dX11_makes_19 : decode cX11_makes 19 = .ok (.iconst 0, 1) := by decide +kernel
theorem dX11_makes_20 : decode cX11_makes 20 = .ok (.istore 5, 2) := by decide +kernel
theorem dX11_makes_22 : decode cX11_makes 22 = .ok (.iload 5, 2) := by decide +kernel
theorem dX11_makes_24 : decode cX11_makes 24 = .ok (.iconst 1, 1) := by decide +kernel
theorem dX11_makes_25 : decode cX11_makes 25 = .ok (.iadd, 1) := by decide +kernel
theorem dX11_makes_26 : decode cX11_makes 26 = .ok (.aload_n 0, 1) := by decide +kernel
theorem dX11_makes_27 : decode cX11_makes 27 = .ok (.getfield 130, 3) := by decide +kernel
theorem dX11_makes_30 : decode cX11_makes 30 = .ok (.if_icmp .ge 59, 3) := by decide +kernel
theorem dX11_makes_33 : decode cX11_makes 33 = .ok (.iload 4, 2) := by decide +kernel
theorem dX11_makes_35 : decode cX11_makes 35 = .ok (.ifCond .ne 54, 3) := by decide +kernel
theorem dX11_makes_38 : decode cX11_makes 38 = .ok (.aload_n 0, 1) := by decide +kernel
theorem dX11_makes_39 : decode cX11_makes 39 = .ok (.getfield 7, 3) := by decide +kernel
theorem dX11_makes_42 : decode cX11_makes 42 = .ok (.iload 5, 2) := by decide +kernel
theorem dX11_makes_44 : decode cX11_makes 44 = .ok (.iaload, 1) := by decide +kernel
theorem dX11_makes_45 : decode cX11_makes 45 = .ok (.aload_n 0, 1) := by decide +kernel
theorem dX11_makes_46 : decode cX11_makes 46 = .ok (.getfield 7, 3) := by decide +kernel
theorem dX11_makes_49 : decode cX11_makes 49 = .ok (.iload 5, 2) := by decide +kernel
theorem dX11_makes_51 : decode cX11_makes 51 = .ok (.iconst 1, 1) := by decide +kernel
theorem dX11_makes_52 : decode cX11_makes 52 = .ok (.iadd, 1) := by decide +kernel
theorem dX11_makes_53 : decode cX11_makes 53 = .ok (.iaload, 1) := by decide +kernel
theorem dX11_makes_54 : decode cX11_makes 54 = .ok (.if_icmp .ge 29, 3) := by decide +kernel
theorem dX11_makes_57 : decode cX11_makes 57 = .ok (.aload_n 0, 1) := by decide +kernel
theorem dX11_makes_58 : decode cX11_makes 58 = .ok (.iload 5, 2) := by decide +kernel
theorem dX11_makes_60 : decode cX11_makes 60 = .ok (.iload 5, 2) := by decide +kernel
theorem dX11_makes_62 : decode cX11_makes 62 = .ok (.iconst 1, 1) := by decide +kernel
theorem dX11_makes_63 : decode cX11_makes 63 = .ok (.iadd, 1) := by decide +kernel
theorem dX11_makes_64 : decode cX11_makes 64 = .ok (.invokevirtual 141, 3) := by decide +kernel
theorem dX11_makes_67 : decode cX11_makes 67 = .ok (.aload_n 0, 1) := by decide +kernel
theorem dX11_makes_68 : decode cX11_makes 68 = .ok (.getfield 37, 3) := by decide +kernel
theorem dX11_makes_71 : decode cX11_makes 71 = .ok (.iload_n 3, 1) := by decide +kernel
theorem dX11_makes_72 : decode cX11_makes 72 = .ok (.iload 5, 2) := by decide +kernel
theorem dX11_makes_74 : decode cX11_makes 74 = .ok (.iconst 1, 1) := by decide +kernel
theorem dX11_makes_75 : decode cX11_makes 75 = .ok (.iadd, 1) := by decide +kernel
theorem dX11_makes_76 : decode cX11_makes 76 = .ok (.iastore, 1) := by decide +kernel
theorem dX11_makes_77 : decode cX11_makes 77 = .ok (.iinc 3 1, 3) := by decide +kernel
theorem dX11_makes_80 : decode cX11_makes 80 = .ok (.iconst 1, 1) := by decide +kernel
theorem dX11_makes_81 : decode cX11_makes 81 = .ok (.istore 4, 2) := by decide +kernel
theorem dX11_makes_83 : decode cX11_makes 83 = .ok (.iinc 5 1, 3) := by decide +kernel
theorem dX11_makes_86 : decode cX11_makes 86 = .ok (.goto (-64), 3) := by decide +kernel
theorem dX11_makes_89 : decode cX11_makes 89 = .ok (.goto (-78), 3) := by decide +kernel
theorem dX11_makes_92 : decode cX11_makes 92 = .ok (.aload_n 0, 1) := by decide +kernel
theorem dX11_makes_93 : decode cX11_makes 93 = .ok (.invokevirtual 172, 3) := by decide +kernel
theorem dX11_makes_96 : decode cX11_makes 96 = .ok (.iconst 0, 1) := by decide +kernel
theorem dX11_makes_97 : decode cX11_makes 97 = .ok (.istore 5, 2) := by decide +kernel
theorem dX11_makes_99 : decode cX11_makes 99 = .ok (.iconst 0, 1) := by decide +kernel
theorem dX11_makes_100 : decode cX11_makes 100 = .ok (.istore 6, 2) := by decide +kernel
theorem dX11_makes_102 : decode cX11_makes 102 = .ok (.iload 6, 2) := by decide +kernel
theorem dX11_makes_104 : decode cX11_makes 104 = .ok (.aload_n 0, 1) := by decide +kernel
theorem dX11_makes_105 : decode cX11_makes 105 = .ok (.getfield 130, 3) := by decide +kernel
theorem dX11_makes_108 : decode cX11_makes 108 = .ok (.if_icmp .ge 31, 3) := by decide +kernel
theorem dX11_makes_111 : decode cX11_makes 111 = .ok (.iload 5, 2) := by decide +kernel
theorem dX11_makes_113 : decode cX11_makes 113 = .ok (.aload_n 0, 1) := by decide +kernel
theorem dX11_makes_114 : decode cX11_makes 114 = .ok (.getfield 130, 3) := by decide +kernel
theorem dX11_makes_117 : decode cX11_makes 117 = .ok (.iconst 1, 1) := by decide +kernel
theorem dX11_makes_118 : decode cX11_makes 118 = .ok (.isub, 1) := by decide +kernel
theorem dX11_makes_119 : decode cX11_makes 119 = .ok (.iload 6, 2) := by decide +kernel
theorem dX11_makes_121 : decode cX11_makes 121 = .ok (.isub, 1) := by decide +kernel
theorem dX11_makes_122 : decode cX11_makes 122 = .ok (.iconst 4, 1) := by decide +kernel
theorem dX11_makes_123 : decode cX11_makes 123 = .ok (.iload 6, 2) := by decide +kernel
theorem dX11_makes_125 : decode cX11_makes 125 = .ok (.isub, 1) := by decide +kernel
theorem dX11_makes_126 : decode cX11_makes 126 = .ok (.invokestatic 196, 3) := by decide +kernel
theorem dX11_makes_129 : decode cX11_makes 129 = .ok (.imul, 1) := by decide +kernel
theorem dX11_makes_130 : decode cX11_makes 130 = .ok (.iadd, 1) := by decide +kernel
theorem dX11_makes_131 : decode cX11_makes 131 = .ok (.istore 5, 2) := by decide +kernel
theorem dX11_makes_133 : decode cX11_makes 133 = .ok (.iinc 6 1, 3) := by decide +kernel
theorem dX11_makes_136 : decode cX11_makes 136 = .ok (.goto (-34), 3) := by decide +kernel
theorem dX11_makes_139 : decode cX11_makes 139 = .ok (.aload_n 0, 1) := by decide +kernel
theorem dX11_makes_140 : decode cX11_makes 140 = .ok (.getfield 31, 3) := by decide +kernel
theorem dX11_makes_143 : decode cX11_makes 143 = .ok (.iload 5, 2) := by decide +kernel
theorem dX11_makes_145 : decode cX11_makes 145 = .ok (.lconst 1, 1) := by decide +kernel
theorem dX11_makes_146 : decode cX11_makes 146 = .ok (.lastore, 1) := by decide +kernel
theorem dX11_makes_147 : decode cX11_makes 147 = .ok (.iload_n 3, 1) := by decide +kernel
theorem dX11_makes_148 : decode cX11_makes 148 = .ok (.iconst 1, 1) := by decide +kernel
theorem dX11_makes_149 : decode cX11_makes 149 = .ok (.isub, 1) := by decide +kernel
theorem dX11_makes_150 : decode cX11_makes 150 = .ok (.istore 6, 2) := by decide +kernel
theorem dX11_makes_152 : decode cX11_makes 152 = .ok (.iload 6, 2) := by decide +kernel
theorem dX11_makes_154 : decode cX11_makes 154 = .ok (.ifCond .lt 20, 3) := by decide +kernel
theorem dX11_makes_157 : decode cX11_makes 157 = .ok (.aload_n 0, 1) := by decide +kernel
theorem dX11_makes_158 : decode cX11_makes 158 = .ok (.aload_n 0, 1) := by decide +kernel
theorem dX11_makes_159 : decode cX11_makes 159 = .ok (.getfield 37, 3) := by decide +kernel
theorem dX11_makes_162 : decode cX11_makes 162 = .ok (.iload 6, 2) := by decide +kernel
theorem dX11_makes_164 : decode cX11_makes 164 = .ok (.iaload, 1) := by decide +kernel
theorem dX11_makes_165 : decode cX11_makes 165 = .ok (.invokevirtual 199, 3) := by decide +kernel
theorem dX11_makes_168 : decode cX11_makes 168 = .ok (.iinc 6 (-1), 3) := by decide +kernel
theorem dX11_makes_171 : decode cX11_makes 171 = .ok (.goto (-19), 3) := by decide +kernel
theorem dX11_makes_174 : decode cX11_makes 174 = .ok (.return_, 1) := by decide +kernel
theorem dX11_polynomial_0 : decode cX11_polynomial 0 = .ok (.iload_n 1, 1) := by decide +kernel
theorem dX11_polynomial_1 : decode cX11_polynomial 1 = .ok (.invokestatic 169, 3) := by decide +kernel
theorem dX11_polynomial_4 : decode cX11_polynomial 4 = .ok (.ifCond .eq 11, 3) := by decide +kernel
theorem dX11_polynomial_7 : decode cX11_polynomial 7 = .ok (.aload_n 0, 1) := by decide +kernel
theorem dX11_polynomial_8 : decode cX11_polynomial 8 = .ok (.iload_n 2, 1) := by decide +kernel
theorem dX11_polynomial_9 : decode cX11_polynomial 9 = .ok (.invokevirtual 133, 3) := by decide +kernel
theorem dX11_polynomial_12 : decode cX11_polynomial 12 = .ok (.ifCond .ne 6, 3) := by decide +kernel
theorem dX11_polynomial_15 : decode cX11_polynomial 15 = .ok (.bipush (-2), 2) := by decide +kernel
theorem dX11_polynomial_17 : decode cX11_polynomial 17 = .ok (.ireturn, 1) := by decide +kernel
theorem dX11_polynomial_18 : decode cX11_polynomial 18 = .ok (.aload_n 0, 1) := by decide +kernel
theorem dX11_polynomial_19 : decode cX11_polynomial 19 = .ok (.iload_n 2, 1) := by decide +kernel
theorem dX11_polynomial_20 : decode cX11_polynomial 20 = .ok (.invokevirtual 203, 3) := by decide +kernel
theorem dX11_polynomial_23 : decode cX11_polynomial 23 = .ok (.aload_n 0, 1) := by decide +kernel
theorem dX11_polynomial_24 : decode cX11_polynomial 24 = .ok (.iload_n 1, 1) := by decide +kernel
theorem dX11_polynomial_25 : decode cX11_polynomial 25 = .ok (.invokevirtual 179, 3) := by decide +kernel
theorem dX11_polynomial_28 : decode cX11_polynomial 28 = .ok (.ireturn, 1) := by decide +kernel
theorem dX11_parts_0 : decode cX11_parts 0 = .ok (.aload_n 0, 1) := by decide +kernel
theorem dX11_parts_1 : decode cX11_parts 1 = .ok (.iload_n 1, 1) := by decide +kernel
theorem dX11_parts_2 : decode cX11_parts 2 = .ok (.invokevirtual 133, 3) := by decide +kernel
theorem dX11_parts_5 : decode cX11_parts 5 = .ok (.istore_n 3, 1) := by decide +kernel
theorem dX11_parts_6 : decode cX11_parts 6 = .ok (.iconst 0, 1) := by decide +kernel
theorem dX11_parts_7 : decode cX11_parts 7 = .ok (.istore 4, 2) := by decide +kernel
theorem dX11_parts_9 : decode cX11_parts 9 = .ok (.iload 4, 2) := by decide +kernel
theorem dX11_parts_11 : decode cX11_parts 11 = .ok (.iconst 1, 1) := by decide +kernel
theorem dX11_parts_12 : decode cX11_parts 12 = .ok (.iadd, 1) := by decide +kernel
theorem dX11_parts_13 : decode cX11_parts 13 = .ok (.aload_n 0, 1) := by decide +kernel
theorem dX11_parts_14 : decode cX11_parts 14 = .ok (.getfield 130, 3) := by decide +kernel
theorem dX11_parts_17 : decode cX11_parts 17 = .ok (.if_icmp .ge 77, 3) := by decide +kernel
theorem dX11_parts_20 : decode cX11_parts 20 = .ok (.aload_n 0, 1) := by decide +kernel
theorem dX11_parts_21 : decode cX11_parts 21 = .ok (.getfield 7, 3) := by decide +kernel
theorem dX11_parts_24 : decode cX11_parts 24 = .ok (.iload 4, 2) := by decide +kernel
theorem dX11_parts_26 : decode cX11_parts 26 = .ok (.iaload, 1) := by decide +kernel
theorem dX11_parts_27 : decode cX11_parts 27 = .ok (.aload_n 0, 1) := by decide +kernel
theorem dX11_parts_28 : decode cX11_parts 28 = .ok (.getfield 7, 3) := by decide +kernel
theorem dX11_parts_31 : decode cX11_parts 31 = .ok (.iload 4, 2) := by decide +kernel
theorem dX11_parts_33 : decode cX11_parts 33 = .ok (.iconst 1, 1) := by decide +kernel
theorem dX11_parts_34 : decode cX11_parts 34 = .ok (.iadd, 1) := by decide +kernel
theorem dX11_parts_35 : decode cX11_parts 35 = .ok (.iaload, 1) := by decide +kernel
theorem dX11_parts_36 : decode cX11_parts 36 = .ok (.if_icmp .le 52, 3) := by decide +kernel
theorem dX11_parts_39 : decode cX11_parts 39 = .ok (.aload_n 0, 1) := by decide +kernel
theorem dX11_parts_40 : decode cX11_parts 40 = .ok (.iload 4, 2) := by decide +kernel
theorem dX11_parts_42 : decode cX11_parts 42 = .ok (.iconst 1, 1) := by decide +kernel
theorem dX11_parts_43 : decode cX11_parts 43 = .ok (.iadd, 1) := by decide +kernel
theorem dX11_parts_44 : decode cX11_parts 44 = .ok (.invokevirtual 199, 3) := by decide +kernel
theorem dX11_parts_47 : decode cX11_parts 47 = .ok (.aload_n 0, 1) := by decide +kernel
theorem dX11_parts_48 : decode cX11_parts 48 = .ok (.iload 4, 2) := by decide +kernel
theorem dX11_parts_50 : decode cX11_parts 50 = .ok (.iload 4, 2) := by decide +kernel
theorem dX11_parts_52 : decode cX11_parts 52 = .ok (.iconst 1, 1) := by decide +kernel
theorem dX11_parts_53 : decode cX11_parts 53 = .ok (.iadd, 1) := by decide +kernel
theorem dX11_parts_54 : decode cX11_parts 54 = .ok (.invokevirtual 141, 3) := by decide +kernel
theorem dX11_parts_57 : decode cX11_parts 57 = .ok (.iload_n 2, 1) := by decide +kernel
theorem dX11_parts_58 : decode cX11_parts 58 = .ok (.ifCond .eq 10, 3) := by decide +kernel
theorem dX11_parts_61 : decode cX11_parts 61 = .ok (.aload_n 0, 1) := by decide +kernel
theorem dX11_parts_62 : decode cX11_parts 62 = .ok (.invokevirtual 162, 3) := by decide +kernel
theorem dX11_parts_65 : decode cX11_parts 65 = .ok (.goto 4, 3) := by decide +kernel
theorem dX11_parts_68 : decode cX11_parts 68 = .ok (.iconst 0, 1) := by decide +kernel
theorem dX11_parts_69 : decode cX11_parts 69 = .ok (.istore 5, 2) := by decide +kernel
theorem dX11_parts_71 : decode cX11_parts 71 = .ok (.iload 5, 2) := by decide +kernel
theorem dX11_parts_73 : decode cX11_parts 73 = .ok (.ifCond .eq 9, 3) := by decide +kernel
theorem dX11_parts_76 : decode cX11_parts 76 = .ok (.iload 5, 2) := by decide +kernel
theorem dX11_parts_78 : decode cX11_parts 78 = .ok (.invokestatic 182, 3) := by decide +kernel
theorem dX11_parts_81 : decode cX11_parts 81 = .ok (.lreturn, 1) := by decide +kernel
theorem dX11_parts_82 : decode cX11_parts 82 = .ok (.iconst 0, 1) := by decide +kernel
theorem dX11_parts_83 : decode cX11_parts 83 = .ok (.istore 4, 2) := by decide +kernel
theorem dX11_parts_85 : decode cX11_parts 85 = .ok (.goto (-76), 3) := by decide +kernel
theorem dX11_parts_88 : decode cX11_parts 88 = .ok (.iinc 4 1, 3) := by decide +kernel
theorem dX11_parts_91 : decode cX11_parts 91 = .ok (.goto (-82), 3) := by decide +kernel
theorem dX11_parts_94 : decode cX11_parts 94 = .ok (.aload_n 0, 1) := by decide +kernel
theorem dX11_parts_95 : decode cX11_parts 95 = .ok (.getfield 31, 3) := by decide +kernel
theorem dX11_parts_98 : decode cX11_parts 98 = .ok (.iconst 0, 1) := by decide +kernel
theorem dX11_parts_99 : decode cX11_parts 99 = .ok (.laload, 1) := by decide +kernel
theorem dX11_parts_100 : decode cX11_parts 100 = .ok (.lreturn, 1) := by decide +kernel
theorem dX11_part_0 : decode cX11_part 0 = .ok (.iload_n 1, 1) := by decide +kernel
theorem dX11_part_1 : decode cX11_part 1 = .ok (.invokestatic 169, 3) := by decide +kernel
theorem dX11_part_4 : decode cX11_part 4 = .ok (.ifCond .eq 11, 3) := by decide +kernel
theorem dX11_part_7 : decode cX11_part 7 = .ok (.aload_n 0, 1) := by decide +kernel
theorem dX11_part_8 : decode cX11_part 8 = .ok (.iload_n 2, 1) := by decide +kernel
theorem dX11_part_9 : decode cX11_part 9 = .ok (.invokevirtual 133, 3) := by decide +kernel
theorem dX11_part_12 : decode cX11_part 12 = .ok (.ifCond .ne 9, 3) := by decide +kernel
theorem dX11_part_15 : decode cX11_part 15 = .ok (.bipush (-2), 2) := by decide +kernel
theorem dX11_part_17 : decode cX11_part 17 = .ok (.invokestatic 182, 3) := by decide +kernel
theorem dX11_part_20 : decode cX11_part 20 = .ok (.lreturn, 1) := by decide +kernel
theorem dX11_part_21 : decode cX11_part 21 = .ok (.aload_n 0, 1) := by decide +kernel
theorem dX11_part_22 : decode cX11_part 22 = .ok (.getfield 16, 3) := by decide +kernel
theorem dX11_part_25 : decode cX11_part 25 = .ok (.iload_n 1, 1) := by decide +kernel
theorem dX11_part_26 : decode cX11_part 26 = .ok (.baload, 1) := by decide +kernel
theorem dX11_part_27 : decode cX11_part 27 = .ok (.ifCond .ne 9, 3) := by decide +kernel
theorem dX11_part_30 : decode cX11_part 30 = .ok (.bipush (-3), 2) := by decide +kernel
theorem dX11_part_32 : decode cX11_part 32 = .ok (.invokestatic 182, 3) := by decide +kernel
theorem dX11_part_35 : decode cX11_part 35 = .ok (.lreturn, 1) := by decide +kernel
theorem dX11_part_36 : decode cX11_part 36 = .ok (.aload_n 0, 1) := by decide +kernel
theorem dX11_part_37 : decode cX11_part 37 = .ok (.invokevirtual 172, 3) := by decide +kernel
theorem dX11_part_40 : decode cX11_part 40 = .ok (.aload_n 0, 1) := by decide +kernel
theorem dX11_part_41 : decode cX11_part 41 = .ok (.iload_n 1, 1) := by decide +kernel
theorem dX11_part_42 : decode cX11_part 42 = .ok (.lconst 1, 1) := by decide +kernel
theorem dX11_part_43 : decode cX11_part 43 = .ok (.invokevirtual 175, 3) := by decide +kernel
theorem dX11_part_46 : decode cX11_part 46 = .ok (.aload_n 0, 1) := by decide +kernel
theorem dX11_part_47 : decode cX11_part 47 = .ok (.iload_n 2, 1) := by decide +kernel
theorem dX11_part_48 : decode cX11_part 48 = .ok (.iconst 1, 1) := by decide +kernel
theorem dX11_part_49 : decode cX11_part 49 = .ok (.invokevirtual 206, 3) := by decide +kernel
theorem dX11_part_52 : decode cX11_part 52 = .ok (.lreturn, 1) := by decide +kernel
theorem dX11_constant_0 : decode cX11_constant 0 = .ok (.aload_n 0, 1) := by decide +kernel
theorem dX11_constant_1 : decode cX11_constant 1 = .ok (.iload_n 1, 1) := by decide +kernel
theorem dX11_constant_2 : decode cX11_constant 2 = .ok (.invokevirtual 133, 3) := by decide +kernel
theorem dX11_constant_5 : decode cX11_constant 5 = .ok (.ifCond .eq 19, 3) := by decide +kernel
theorem dX11_constant_8 : decode cX11_constant 8 = .ok (.aload_n 0, 1) := by decide +kernel
theorem dX11_constant_9 : decode cX11_constant 9 = .ok (.iload_n 2, 1) := by decide +kernel
theorem dX11_constant_10 : decode cX11_constant 10 = .ok (.invokevirtual 133, 3) := by decide +kernel
theorem dX11_constant_13 : decode cX11_constant 13 = .ok (.ifCond .eq 11, 3) := by decide +kernel
theorem dX11_constant_16 : decode cX11_constant 16 = .ok (.aload_n 0, 1) := by decide +kernel
theorem dX11_constant_17 : decode cX11_constant 17 = .ok (.iload_n 3, 1) := by decide +kernel
theorem dX11_constant_18 : decode cX11_constant 18 = .ok (.invokevirtual 133, 3) := by decide +kernel
theorem dX11_constant_21 : decode cX11_constant 21 = .ok (.ifCond .ne 9, 3) := by decide +kernel
theorem dX11_constant_24 : decode cX11_constant 24 = .ok (.bipush (-2), 2) := by decide +kernel
theorem dX11_constant_26 : decode cX11_constant 26 = .ok (.invokestatic 182, 3) := by decide +kernel
theorem dX11_constant_29 : decode cX11_constant 29 = .ok (.lreturn, 1) := by decide +kernel
theorem dX11_constant_30 : decode cX11_constant 30 = .ok (.aload_n 0, 1) := by decide +kernel
theorem dX11_constant_31 : decode cX11_constant 31 = .ok (.iload_n 1, 1) := by decide +kernel
theorem dX11_constant_32 : decode cX11_constant 32 = .ok (.invokevirtual 203, 3) := by decide +kernel
theorem dX11_constant_35 : decode cX11_constant 35 = .ok (.iconst 0, 1) := by decide +kernel
theorem dX11_constant_36 : decode cX11_constant 36 = .ok (.istore 4, 2) := by decide +kernel
theorem dX11_constant_38 : decode cX11_constant 38 = .ok (.iload 4, 2) := by decide +kernel
theorem dX11_constant_40 : decode cX11_constant 40 = .ok (.ldc 30, 2) := by decide +kernel
theorem dX11_constant_42 : decode cX11_constant 42 = .ok (.if_icmp .ge 23, 3) := by decide +kernel
theorem dX11_constant_45 : decode cX11_constant 45 = .ok (.aload_n 0, 1) := by decide +kernel
theorem dX11_constant_46 : decode cX11_constant 46 = .ok (.getfield 40, 3) := by decide +kernel
theorem dX11_constant_49 : decode cX11_constant 49 = .ok (.iload 4, 2) := by decide +kernel
theorem dX11_constant_51 : decode cX11_constant 51 = .ok (.aload_n 0, 1) := by decide +kernel
theorem dX11_constant_52 : decode cX11_constant 52 = .ok (.getfield 31, 3) := by decide +kernel
theorem dX11_constant_55 : decode cX11_constant 55 = .ok (.iload 4, 2) := by decide +kernel
theorem dX11_constant_57 : decode cX11_constant 57 = .ok (.laload, 1) := by decide +kernel
theorem dX11_constant_58 : decode cX11_constant 58 = .ok (.lastore, 1) := by decide +kernel
theorem dX11_constant_59 : decode cX11_constant 59 = .ok (.iinc 4 1, 3) := by decide +kernel
theorem dX11_constant_62 : decode cX11_constant 62 = .ok (.goto (-24), 3) := by decide +kernel
theorem dX11_constant_65 : decode cX11_constant 65 = .ok (.aload_n 0, 1) := by decide +kernel
theorem dX11_constant_66 : decode cX11_constant 66 = .ok (.iload_n 2, 1) := by decide +kernel
theorem dX11_constant_67 : decode cX11_constant 67 = .ok (.invokevirtual 203, 3) := by decide +kernel
theorem dX11_constant_70 : decode cX11_constant 70 = .ok (.iconst 0, 1) := by decide +kernel
theorem dX11_constant_71 : decode cX11_constant 71 = .ok (.istore 4, 2) := by decide +kernel
theorem dX11_constant_73 : decode cX11_constant 73 = .ok (.iload 4, 2) := by decide +kernel
theorem dX11_constant_75 : decode cX11_constant 75 = .ok (.ldc 30, 2) := by decide +kernel
theorem dX11_constant_77 : decode cX11_constant 77 = .ok (.if_icmp .ge 23, 3) := by decide +kernel
theorem dX11_constant_80 : decode cX11_constant 80 = .ok (.aload_n 0, 1) := by decide +kernel
theorem dX11_constant_81 : decode cX11_constant 81 = .ok (.getfield 43, 3) := by decide +kernel
theorem dX11_constant_84 : decode cX11_constant 84 = .ok (.iload 4, 2) := by decide +kernel
theorem dX11_constant_86 : decode cX11_constant 86 = .ok (.aload_n 0, 1) := by decide +kernel
theorem dX11_constant_87 : decode cX11_constant 87 = .ok (.getfield 31, 3) := by decide +kernel
theorem dX11_constant_90 : decode cX11_constant 90 = .ok (.iload 4, 2) := by decide +kernel
theorem dX11_constant_92 : decode cX11_constant 92 = .ok (.laload, 1) := by decide +kernel
theorem dX11_constant_93 : decode cX11_constant 93 = .ok (.lastore, 1) := by decide +kernel
theorem dX11_constant_94 : decode cX11_constant 94 = .ok (.iinc 4 1, 3) := by decide +kernel
theorem dX11_constant_97 : decode cX11_constant 97 = .ok (.goto (-24), 3) := by decide +kernel
theorem dX11_constant_100 : decode cX11_constant 100 = .ok (.aload_n 0, 1) := by decide +kernel
theorem dX11_constant_101 : decode cX11_constant 101 = .ok (.invokevirtual 172, 3) := by decide +kernel
theorem dX11_constant_104 : decode cX11_constant 104 = .ok (.iconst 0, 1) := by decide +kernel
theorem dX11_constant_105 : decode cX11_constant 105 = .ok (.istore 4, 2) := by decide +kernel
theorem dX11_constant_107 : decode cX11_constant 107 = .ok (.iload 4, 2) := by decide +kernel
theorem dX11_constant_109 : decode cX11_constant 109 = .ok (.ldc 30, 2) := by decide +kernel
theorem dX11_constant_111 : decode cX11_constant 111 = .ok (.if_icmp .ge 81, 3) := by decide +kernel
theorem dX11_constant_114 : decode cX11_constant 114 = .ok (.iconst 0, 1) := by decide +kernel
theorem dX11_constant_115 : decode cX11_constant 115 = .ok (.istore 5, 2) := by decide +kernel
theorem dX11_constant_117 : decode cX11_constant 117 = .ok (.iload 5, 2) := by decide +kernel
theorem dX11_constant_119 : decode cX11_constant 119 = .ok (.ldc 30, 2) := by decide +kernel
theorem dX11_constant_121 : decode cX11_constant 121 = .ok (.if_icmp .ge 65, 3) := by decide +kernel
theorem dX11_constant_124 : decode cX11_constant 124 = .ok (.aload_n 0, 1) := by decide +kernel
theorem dX11_constant_125 : decode cX11_constant 125 = .ok (.getfield 40, 3) := by decide +kernel
theorem dX11_constant_128 : decode cX11_constant 128 = .ok (.iload 4, 2) := by decide +kernel
theorem dX11_constant_130 : decode cX11_constant 130 = .ok (.laload, 1) := by decide +kernel
theorem dX11_constant_131 : decode cX11_constant 131 = .ok (.lconst 0, 1) := by decide +kernel
theorem dX11_constant_132 : decode cX11_constant 132 = .ok (.lcmp, 1) := by decide +kernel
theorem dX11_constant_133 : decode cX11_constant 133 = .ok (.ifCond .eq 53, 3) := by decide +kernel
theorem dX11_constant_136 : decode cX11_constant 136 = .ok (.aload_n 0, 1) := by decide +kernel
theorem dX11_constant_137 : decode cX11_constant 137 = .ok (.getfield 31, 3) := by decide +kernel
theorem dX11_constant_140 : decode cX11_constant 140 = .ok (.aload_n 0, 1) := by decide +kernel
theorem dX11_constant_141 : decode cX11_constant 141 = .ok (.getfield 43, 3) := by decide +kernel
theorem dX11_constant_144 : decode cX11_constant 144 = .ok (.iload 5, 2) := by decide +kernel
theorem dX11_constant_146 : decode cX11_constant 146 = .ok (.laload, 1) := by decide +kernel
theorem dX11_constant_147 : decode cX11_constant 147 = .ok (.lconst 0, 1) := by decide +kernel
theorem dX11_constant_148 : decode cX11_constant 148 = .ok (.lcmp, 1) := by decide +kernel
theorem dX11_constant_149 : decode cX11_constant 149 = .ok (.ifCond .eq 11, 3) := by decide +kernel
theorem dX11_constant_152 : decode cX11_constant 152 = .ok (.iload 4, 2) := by decide +kernel
theorem dX11_constant_154 : decode cX11_constant 154 = .ok (.iload 5, 2) := by decide +kernel
theorem dX11_constant_156 : decode cX11_constant 156 = .ok (.iadd, 1) := by decide +kernel
theorem dX11_constant_157 : decode cX11_constant 157 = .ok (.goto 4, 3) := by decide +kernel
theorem dX11_constant_160 : decode cX11_constant 160 = .ok (.iconst 0, 1) := by decide +kernel
theorem dX11_constant_161 : decode cX11_constant 161 = .ok (.dup2, 1) := by decide +kernel
theorem dX11_constant_162 : decode cX11_constant 162 = .ok (.laload, 1) := by decide +kernel
theorem dX11_constant_163 : decode cX11_constant 163 = .ok (.aload_n 0, 1) := by decide +kernel
theorem dX11_constant_164 : decode cX11_constant 164 = .ok (.getfield 40, 3) := by decide +kernel
theorem dX11_constant_167 : decode cX11_constant 167 = .ok (.iload 4, 2) := by decide +kernel
theorem dX11_constant_169 : decode cX11_constant 169 = .ok (.laload, 1) := by decide +kernel
theorem dX11_constant_170 : decode cX11_constant 170 = .ok (.aload_n 0, 1) := by decide +kernel
theorem dX11_constant_171 : decode cX11_constant 171 = .ok (.getfield 43, 3) := by decide +kernel
theorem dX11_constant_174 : decode cX11_constant 174 = .ok (.iload 5, 2) := by decide +kernel
theorem dX11_constant_176 : decode cX11_constant 176 = .ok (.laload, 1) := by decide +kernel
theorem dX11_constant_177 : decode cX11_constant 177 = .ok (.lmul, 1) := by decide +kernel
theorem dX11_constant_178 : decode cX11_constant 178 = .ok (.ladd, 1) := by decide +kernel
theorem dX11_constant_179 : decode cX11_constant 179 = .ok (.lastore, 1) := by decide +kernel
theorem dX11_constant_180 : decode cX11_constant 180 = .ok (.iinc 5 1, 3) := by decide +kernel
theorem dX11_constant_183 : decode cX11_constant 183 = .ok (.goto (-66), 3) := by decide +kernel
theorem dX11_constant_186 : decode cX11_constant 186 = .ok (.iinc 4 1, 3) := by decide +kernel
theorem dX11_constant_189 : decode cX11_constant 189 = .ok (.goto (-82), 3) := by decide +kernel
theorem dX11_constant_192 : decode cX11_constant 192 = .ok (.aload_n 0, 1) := by decide +kernel
theorem dX11_constant_193 : decode cX11_constant 193 = .ok (.iload_n 3, 1) := by decide +kernel
theorem dX11_constant_194 : decode cX11_constant 194 = .ok (.iconst 0, 1) := by decide +kernel
theorem dX11_constant_195 : decode cX11_constant 195 = .ok (.invokevirtual 206, 3) := by decide +kernel
theorem dX11_constant_198 : decode cX11_constant 198 = .ok (.lreturn, 1) := by decide +kernel
theorem dX11_same_0 : decode cX11_same 0 = .ok (.iload_n 1, 1) := by decide +kernel
theorem dX11_same_1 : decode cX11_same 1 = .ok (.invokestatic 169, 3) := by decide +kernel
theorem dX11_same_4 : decode cX11_same 4 = .ok (.ifCond .eq 10, 3) := by decide +kernel
theorem dX11_same_7 : decode cX11_same 7 = .ok (.iload_n 2, 1) := by decide +kernel
theorem dX11_same_8 : decode cX11_same 8 = .ok (.invokestatic 169, 3) := by decide +kernel
theorem dX11_same_11 : decode cX11_same 11 = .ok (.ifCond .ne 6, 3) := by decide +kernel
theorem dX11_same_14 : decode cX11_same 14 = .ok (.bipush (-2), 2) := by decide +kernel
theorem dX11_same_16 : decode cX11_same 16 = .ok (.ireturn, 1) := by decide +kernel
theorem dX11_same_17 : decode cX11_same 17 = .ok (.aload_n 0, 1) := by decide +kernel
theorem dX11_same_18 : decode cX11_same 18 = .ok (.getfield 16, 3) := by decide +kernel
theorem dX11_same_21 : decode cX11_same 21 = .ok (.iload_n 1, 1) := by decide +kernel
theorem dX11_same_22 : decode cX11_same 22 = .ok (.baload, 1) := by decide +kernel
theorem dX11_same_23 : decode cX11_same 23 = .ok (.ifCond .eq 12, 3) := by decide +kernel
theorem dX11_same_26 : decode cX11_same 26 = .ok (.aload_n 0, 1) := by decide +kernel
theorem dX11_same_27 : decode cX11_same 27 = .ok (.getfield 16, 3) := by decide +kernel
theorem dX11_same_30 : decode cX11_same 30 = .ok (.iload_n 2, 1) := by decide +kernel
theorem dX11_same_31 : decode cX11_same 31 = .ok (.baload, 1) := by decide +kernel
theorem dX11_same_32 : decode cX11_same 32 = .ok (.ifCond .ne 6, 3) := by decide +kernel
theorem dX11_same_35 : decode cX11_same 35 = .ok (.bipush (-3), 2) := by decide +kernel
theorem dX11_same_37 : decode cX11_same 37 = .ok (.ireturn, 1) := by decide +kernel
theorem dX11_same_38 : decode cX11_same 38 = .ok (.aload_n 0, 1) := by decide +kernel
theorem dX11_same_39 : decode cX11_same 39 = .ok (.getfield 20, 3) := by decide +kernel
theorem dX11_same_42 : decode cX11_same 42 = .ok (.iload_n 1, 1) := by decide +kernel
theorem dX11_same_43 : decode cX11_same 43 = .ok (.iaload, 1) := by decide +kernel
theorem dX11_same_44 : decode cX11_same 44 = .ok (.aload_n 0, 1) := by decide +kernel
theorem dX11_same_45 : decode cX11_same 45 = .ok (.getfield 20, 3) := by decide +kernel
theorem dX11_same_48 : decode cX11_same 48 = .ok (.iload_n 2, 1) := by decide +kernel
theorem dX11_same_49 : decode cX11_same 49 = .ok (.iaload, 1) := by decide +kernel
theorem dX11_same_50 : decode cX11_same 50 = .ok (.if_icmp .ne 7, 3) := by decide +kernel
theorem dX11_same_53 : decode cX11_same 53 = .ok (.iconst 1, 1) := by decide +kernel
theorem dX11_same_54 : decode cX11_same 54 = .ok (.goto 4, 3) := by decide +kernel
theorem dX11_same_57 : decode cX11_same 57 = .ok (.iconst 0, 1) := by decide +kernel
theorem dX11_same_58 : decode cX11_same 58 = .ok (.istore_n 3, 1) := by decide +kernel
theorem dX11_same_59 : decode cX11_same 59 = .ok (.iconst 0, 1) := by decide +kernel
theorem dX11_same_60 : decode cX11_same 60 = .ok (.istore 4, 2) := by decide +kernel
theorem dX11_same_62 : decode cX11_same 62 = .ok (.iload 4, 2) := by decide +kernel
theorem dX11_same_64 : decode cX11_same 64 = .ok (.aload_n 0, 1) := by decide +kernel
theorem dX11_same_65 : decode cX11_same 65 = .ok (.getfield 20, 3) := by decide +kernel
theorem dX11_same_68 : decode cX11_same 68 = .ok (.iload_n 1, 1) := by decide +kernel
theorem dX11_same_69 : decode cX11_same 69 = .ok (.iaload, 1) := by decide +kernel
theorem dX11_same_70 : decode cX11_same 70 = .ok (.if_icmp .ge 78, 3) := by decide +kernel
theorem dX11_same_73 : decode cX11_same 73 = .ok (.iload_n 3, 1) := by decide +kernel
theorem dX11_same_74 : decode cX11_same 74 = .ok (.ifCond .eq 74, 3) := by decide +kernel
theorem dX11_same_77 : decode cX11_same 77 = .ok (.aload_n 0, 1) := by decide +kernel
theorem dX11_same_78 : decode cX11_same 78 = .ok (.getfield 23, 3) := by decide +kernel
theorem dX11_same_81 : decode cX11_same 81 = .ok (.sipush 600, 3) := by decide +kernel
theorem dX11_same_84 : decode cX11_same 84 = .ok (.iload_n 1, 1) := by decide +kernel
theorem dX11_same_85 : decode cX11_same 85 = .ok (.imul, 1) := by decide +kernel
theorem dX11_same_86 : decode cX11_same 86 = .ok (.iload 4, 2) := by decide +kernel
theorem dX11_same_88 : decode cX11_same 88 = .ok (.iadd, 1) := by decide +kernel
theorem dX11_same_89 : decode cX11_same 89 = .ok (.iaload, 1) := by decide +kernel
theorem dX11_same_90 : decode cX11_same 90 = .ok (.aload_n 0, 1) := by decide +kernel
theorem dX11_same_91 : decode cX11_same 91 = .ok (.getfield 23, 3) := by decide +kernel
theorem dX11_same_94 : decode cX11_same 94 = .ok (.sipush 600, 3) := by decide +kernel
theorem dX11_same_97 : decode cX11_same 97 = .ok (.iload_n 2, 1) := by decide +kernel
theorem dX11_same_98 : decode cX11_same 98 = .ok (.imul, 1) := by decide +kernel
theorem dX11_same_99 : decode cX11_same 99 = .ok (.iload 4, 2) := by decide +kernel
theorem dX11_same_101 : decode cX11_same 101 = .ok (.iadd, 1) := by decide +kernel
theorem dX11_same_102 : decode cX11_same 102 = .ok (.iaload, 1) := by decide +kernel
theorem dX11_same_103 : decode cX11_same 103 = .ok (.if_icmp .ne 37, 3) := by decide +kernel
theorem dX11_same_106 : decode cX11_same 106 = .ok (.aload_n 0, 1) := by decide +kernel
theorem dX11_same_107 : decode cX11_same 107 = .ok (.getfield 26, 3) := by decide +kernel
theorem dX11_same_110 : decode cX11_same 110 = .ok (.sipush 600, 3) := by decide +kernel
theorem dX11_same_113 : decode cX11_same 113 = .ok (.iload_n 1, 1) := by decide +kernel
theorem dX11_same_114 : decode cX11_same 114 = .ok (.imul, 1) := by decide +kernel
theorem dX11_same_115 : decode cX11_same 115 = .ok (.iload 4, 2) := by decide +kernel
theorem dX11_same_117 : decode cX11_same 117 = .ok (.iadd, 1) := by decide +kernel
theorem dX11_same_118 : decode cX11_same 118 = .ok (.laload, 1) := by decide +kernel
theorem dX11_same_119 : decode cX11_same 119 = .ok (.aload_n 0, 1) := by decide +kernel
theorem dX11_same_120 : decode cX11_same 120 = .ok (.getfield 26, 3) := by decide +kernel
theorem dX11_same_123 : decode cX11_same 123 = .ok (.sipush 600, 3) := by decide +kernel
theorem dX11_same_126 : decode cX11_same 126 = .ok (.iload_n 2, 1) := by decide +kernel
theorem dX11_same_127 : decode cX11_same 127 = .ok (.imul, 1) := by decide +kernel
theorem dX11_same_128 : decode cX11_same 128 = .ok (.iload 4, 2) := by decide +kernel
theorem dX11_same_130 : decode cX11_same 130 = .ok (.iadd, 1) := by decide +kernel
theorem dX11_same_131 : decode cX11_same 131 = .ok (.laload, 1) := by decide +kernel
theorem dX11_same_132 : decode cX11_same 132 = .ok (.lcmp, 1) := by decide +kernel
theorem dX11_same_133 : decode cX11_same 133 = .ok (.ifCond .ne 7, 3) := by decide +kernel
theorem dX11_same_136 : decode cX11_same 136 = .ok (.iconst 1, 1) := by decide +kernel
theorem dX11_same_137 : decode cX11_same 137 = .ok (.goto 4, 3) := by decide +kernel
theorem dX11_same_140 : decode cX11_same 140 = .ok (.iconst 0, 1) := by decide +kernel
theorem dX11_same_141 : decode cX11_same 141 = .ok (.istore_n 3, 1) := by decide +kernel
theorem dX11_same_142 : decode cX11_same 142 = .ok (.iinc 4 1, 3) := by decide +kernel
theorem dX11_same_145 : decode cX11_same 145 = .ok (.goto (-83), 3) := by decide +kernel
theorem dX11_same_148 : decode cX11_same 148 = .ok (.iload_n 3, 1) := by decide +kernel
theorem dX11_same_149 : decode cX11_same 149 = .ok (.ifCond .eq 7, 3) := by decide +kernel
theorem dX11_same_152 : decode cX11_same 152 = .ok (.iconst 1, 1) := by decide +kernel
theorem dX11_same_153 : decode cX11_same 153 = .ok (.goto 4, 3) := by decide +kernel
theorem dX11_same_156 : decode cX11_same 156 = .ok (.iconst 0, 1) := by decide +kernel
theorem dX11_same_157 : decode cX11_same 157 = .ok (.ireturn, 1) := by decide +kernel
theorem dX11_isBox_0 : decode cX11_isBox 0 = .ok (.iload_n 2, 1) := by decide +kernel
theorem dX11_isBox_1 : decode cX11_isBox 1 = .ok (.istore 4, 2) := by decide +kernel
theorem dX11_isBox_3 : decode cX11_isBox 3 = .ok (.iload_n 0, 1) := by decide +kernel
theorem dX11_isBox_4 : decode cX11_isBox 4 = .ok (.iconst 1, 1) := by decide +kernel
theorem dX11_isBox_5 : decode cX11_isBox 5 = .ok (.isub, 1) := by decide +kernel
theorem dX11_isBox_6 : decode cX11_isBox 6 = .ok (.istore 5, 2) := by decide +kernel
theorem dX11_isBox_8 : decode cX11_isBox 8 = .ok (.iload 5, 2) := by decide +kernel
theorem dX11_isBox_10 : decode cX11_isBox 10 = .ok (.ifCond .lt 25, 3) := by decide +kernel
theorem dX11_isBox_13 : decode cX11_isBox 13 = .ok (.aload_n 3, 1) := by decide +kernel
theorem dX11_isBox_14 : decode cX11_isBox 14 = .ok (.iload 5, 2) := by decide +kernel
theorem dX11_isBox_16 : decode cX11_isBox 16 = .ok (.iload 4, 2) := by decide +kernel
theorem dX11_isBox_18 : decode cX11_isBox 18 = .ok (.bipush 10, 2) := by decide +kernel
theorem dX11_isBox_20 : decode cX11_isBox 20 = .ok (.irem, 1) := by decide +kernel
theorem dX11_isBox_21 : decode cX11_isBox 21 = .ok (.iastore, 1) := by decide +kernel
theorem dX11_isBox_22 : decode cX11_isBox 22 = .ok (.iload 4, 2) := by decide +kernel
theorem dX11_isBox_24 : decode cX11_isBox 24 = .ok (.bipush 10, 2) := by decide +kernel
theorem dX11_isBox_26 : decode cX11_isBox 26 = .ok (.idiv, 1) := by decide +kernel
theorem dX11_isBox_27 : decode cX11_isBox 27 = .ok (.istore 4, 2) := by decide +kernel
theorem dX11_isBox_29 : decode cX11_isBox 29 = .ok (.iinc 5 (-1), 3) := by decide +kernel
theorem dX11_isBox_32 : decode cX11_isBox 32 = .ok (.goto (-24), 3) := by decide +kernel
theorem dX11_isBox_35 : decode cX11_isBox 35 = .ok (.iload_n 2, 1) := by decide +kernel
theorem dX11_isBox_36 : decode cX11_isBox 36 = .ok (.ifCond .lt 15, 3) := by decide +kernel
theorem dX11_isBox_39 : decode cX11_isBox 39 = .ok (.iload 4, 2) := by decide +kernel
theorem dX11_isBox_41 : decode cX11_isBox 41 = .ok (.ifCond .ne 10, 3) := by decide +kernel
theorem dX11_isBox_44 : decode cX11_isBox 44 = .ok (.aload_n 3, 1) := by decide +kernel
theorem dX11_isBox_45 : decode cX11_isBox 45 = .ok (.iconst 0, 1) := by decide +kernel
theorem dX11_isBox_46 : decode cX11_isBox 46 = .ok (.iaload, 1) := by decide +kernel
theorem dX11_isBox_47 : decode cX11_isBox 47 = .ok (.iload_n 1, 1) := by decide +kernel
theorem dX11_isBox_48 : decode cX11_isBox 48 = .ok (.if_icmp .le 5, 3) := by decide +kernel
theorem dX11_isBox_51 : decode cX11_isBox 51 = .ok (.iconst 0, 1) := by decide +kernel
theorem dX11_isBox_52 : decode cX11_isBox 52 = .ok (.ireturn, 1) := by decide +kernel
theorem dX11_isBox_53 : decode cX11_isBox 53 = .ok (.iconst 1, 1) := by decide +kernel
theorem dX11_isBox_54 : decode cX11_isBox 54 = .ok (.istore 5, 2) := by decide +kernel
theorem dX11_isBox_56 : decode cX11_isBox 56 = .ok (.iload 5, 2) := by decide +kernel
theorem dX11_isBox_58 : decode cX11_isBox 58 = .ok (.iload_n 0, 1) := by decide +kernel
theorem dX11_isBox_59 : decode cX11_isBox 59 = .ok (.if_icmp .ge 24, 3) := by decide +kernel
theorem dX11_isBox_62 : decode cX11_isBox 62 = .ok (.aload_n 3, 1) := by decide +kernel
theorem dX11_isBox_63 : decode cX11_isBox 63 = .ok (.iload 5, 2) := by decide +kernel
theorem dX11_isBox_65 : decode cX11_isBox 65 = .ok (.iaload, 1) := by decide +kernel
theorem dX11_isBox_66 : decode cX11_isBox 66 = .ok (.aload_n 3, 1) := by decide +kernel
theorem dX11_isBox_67 : decode cX11_isBox 67 = .ok (.iload 5, 2) := by decide +kernel
theorem dX11_isBox_69 : decode cX11_isBox 69 = .ok (.iconst 1, 1) := by decide +kernel
theorem dX11_isBox_70 : decode cX11_isBox 70 = .ok (.isub, 1) := by decide +kernel
theorem dX11_isBox_71 : decode cX11_isBox 71 = .ok (.iaload, 1) := by decide +kernel
theorem dX11_isBox_72 : decode cX11_isBox 72 = .ok (.if_icmp .le 5, 3) := by decide +kernel
theorem dX11_isBox_75 : decode cX11_isBox 75 = .ok (.iconst 0, 1) := by decide +kernel
theorem dX11_isBox_76 : decode cX11_isBox 76 = .ok (.ireturn, 1) := by decide +kernel
theorem dX11_isBox_77 : decode cX11_isBox 77 = .ok (.iinc 5 1, 3) := by decide +kernel
theorem dX11_isBox_80 : decode cX11_isBox 80 = .ok (.goto (-24), 3) := by decide +kernel
theorem dX11_isBox_83 : decode cX11_isBox 83 = .ok (.iconst 1, 1) := by decide +kernel
theorem dX11_isBox_84 : decode cX11_isBox 84 = .ok (.ireturn, 1) := by decide +kernel
theorem dX11_areSides_0 : decode cX11_areSides 0 = .ok (.iload_n 0, 1) := by decide +kernel
theorem dX11_areSides_1 : decode cX11_areSides 1 = .ok (.i2l, 1) := by decide +kernel
theorem dX11_areSides_2 : decode cX11_areSides 2 = .ok (.lconst 1, 1) := by decide +kernel
theorem dX11_areSides_3 : decode cX11_areSides 3 = .ok (.ldc2_w 194, 3) := by decide +kernel
theorem dX11_areSides_6 : decode cX11_areSides 6 = .ok (.invokestatic 126, 3) := by decide +kernel
theorem dX11_areSides_9 : decode cX11_areSides 9 = .ok (.ifCond .eq 19, 3) := by decide +kernel
theorem dX11_areSides_12 : decode cX11_areSides 12 = .ok (.iload_n 1, 1) := by decide +kernel
theorem dX11_areSides_13 : decode cX11_areSides 13 = .ok (.i2l, 1) := by decide +kernel
theorem dX11_areSides_14 : decode cX11_areSides 14 = .ok (.lconst 1, 1) := by decide +kernel
theorem dX11_areSides_15 : decode cX11_areSides 15 = .ok (.ldc2_w 194, 3) := by decide +kernel
theorem dX11_areSides_18 : decode cX11_areSides 18 = .ok (.invokestatic 126, 3) := by decide +kernel
theorem dX11_areSides_21 : decode cX11_areSides 21 = .ok (.ifCond .eq 7, 3) := by decide +kernel
theorem dX11_areSides_24 : decode cX11_areSides 24 = .ok (.iconst 1, 1) := by decide +kernel
theorem dX11_areSides_25 : decode cX11_areSides 25 = .ok (.goto 4, 3) := by decide +kernel
theorem dX11_areSides_28 : decode cX11_areSides 28 = .ok (.iconst 0, 1) := by decide +kernel
theorem dX11_areSides_29 : decode cX11_areSides 29 = .ok (.ireturn, 1) := by decide +kernel
theorem dX11_tens_0 : decode cX11_tens 0 = .ok (.iconst 1, 1) := by decide +kernel
theorem dX11_tens_1 : decode cX11_tens 1 = .ok (.istore_n 1, 1) := by decide +kernel
theorem dX11_tens_2 : decode cX11_tens 2 = .ok (.iconst 0, 1) := by decide +kernel
theorem dX11_tens_3 : decode cX11_tens 3 = .ok (.istore_n 2, 1) := by decide +kernel
theorem dX11_tens_4 : decode cX11_tens 4 = .ok (.iload_n 2, 1) := by decide +kernel
theorem dX11_tens_5 : decode cX11_tens 5 = .ok (.iload_n 0, 1) := by decide +kernel
theorem dX11_tens_6 : decode cX11_tens 6 = .ok (.if_icmp .ge 14, 3) := by decide +kernel
theorem dX11_tens_9 : decode cX11_tens 9 = .ok (.bipush 10, 2) := by decide +kernel
theorem dX11_tens_11 : decode cX11_tens 11 = .ok (.iload_n 1, 1) := by decide +kernel
theorem dX11_tens_12 : decode cX11_tens 12 = .ok (.imul, 1) := by decide +kernel
theorem dX11_tens_13 : decode cX11_tens 13 = .ok (.istore_n 1, 1) := by decide +kernel
theorem dX11_tens_14 : decode cX11_tens 14 = .ok (.iinc 2 1, 3) := by decide +kernel
theorem dX11_tens_17 : decode cX11_tens 17 = .ok (.goto (-13), 3) := by decide +kernel
theorem dX11_tens_20 : decode cX11_tens 20 = .ok (.iload_n 1, 1) := by decide +kernel
theorem dX11_tens_21 : decode cX11_tens 21 = .ok (.ireturn, 1) := by decide +kernel
theorem dX11_sizeOf_0 : decode cX11_sizeOf 0 = .ok (.iconst 0, 1) := by decide +kernel
theorem dX11_sizeOf_1 : decode cX11_sizeOf 1 = .ok (.istore_n 2, 1) := by decide +kernel
theorem dX11_sizeOf_2 : decode cX11_sizeOf 2 = .ok (.iconst 0, 1) := by decide +kernel
theorem dX11_sizeOf_3 : decode cX11_sizeOf 3 = .ok (.istore_n 3, 1) := by decide +kernel
theorem dX11_sizeOf_4 : decode cX11_sizeOf 4 = .ok (.iload_n 3, 1) := by decide +kernel
theorem dX11_sizeOf_5 : decode cX11_sizeOf 5 = .ok (.iload_n 0, 1) := by decide +kernel
theorem dX11_sizeOf_6 : decode cX11_sizeOf 6 = .ok (.if_icmp .ge 15, 3) := by decide +kernel
theorem dX11_sizeOf_9 : decode cX11_sizeOf 9 = .ok (.iload_n 2, 1) := by decide +kernel
theorem dX11_sizeOf_10 : decode cX11_sizeOf 10 = .ok (.aload_n 1, 1) := by decide +kernel
theorem dX11_sizeOf_11 : decode cX11_sizeOf 11 = .ok (.iload_n 3, 1) := by decide +kernel
theorem dX11_sizeOf_12 : decode cX11_sizeOf 12 = .ok (.iaload, 1) := by decide +kernel
theorem dX11_sizeOf_13 : decode cX11_sizeOf 13 = .ok (.iadd, 1) := by decide +kernel
theorem dX11_sizeOf_14 : decode cX11_sizeOf 14 = .ok (.istore_n 2, 1) := by decide +kernel
theorem dX11_sizeOf_15 : decode cX11_sizeOf 15 = .ok (.iinc 3 1, 3) := by decide +kernel
theorem dX11_sizeOf_18 : decode cX11_sizeOf 18 = .ok (.goto (-14), 3) := by decide +kernel
theorem dX11_sizeOf_21 : decode cX11_sizeOf 21 = .ok (.iload_n 2, 1) := by decide +kernel
theorem dX11_sizeOf_22 : decode cX11_sizeOf 22 = .ok (.ireturn, 1) := by decide +kernel
theorem dX11_strip_0 : decode cX11_strip 0 = .ok (.iload_n 1, 1) := by decide +kernel
theorem dX11_strip_1 : decode cX11_strip 1 = .ok (.iload_n 2, 1) := by decide +kernel
theorem dX11_strip_2 : decode cX11_strip 2 = .ok (.invokestatic 210, 3) := by decide +kernel
theorem dX11_strip_5 : decode cX11_strip 5 = .ok (.ifCond .eq 29, 3) := by decide +kernel
theorem dX11_strip_8 : decode cX11_strip 8 = .ok (.iload_n 1, 1) := by decide +kernel
theorem dX11_strip_9 : decode cX11_strip 9 = .ok (.iload_n 2, 1) := by decide +kernel
theorem dX11_strip_10 : decode cX11_strip 10 = .ok (.iload_n 3, 1) := by decide +kernel
theorem dX11_strip_11 : decode cX11_strip 11 = .ok (.aload_n 0, 1) := by decide +kernel
theorem dX11_strip_12 : decode cX11_strip 12 = .ok (.getfield 46, 3) := by decide +kernel
theorem dX11_strip_15 : decode cX11_strip 15 = .ok (.invokestatic 214, 3) := by decide +kernel
theorem dX11_strip_18 : decode cX11_strip 18 = .ok (.ifCond .eq 16, 3) := by decide +kernel
theorem dX11_strip_21 : decode cX11_strip 21 = .ok (.iload 4, 2) := by decide +kernel
theorem dX11_strip_23 : decode cX11_strip 23 = .ok (.i2l, 1) := by decide +kernel
theorem dX11_strip_24 : decode cX11_strip 24 = .ok (.lconst 0, 1) := by decide +kernel
theorem dX11_strip_25 : decode cX11_strip 25 = .ok (.ldc2_w 218, 3) := by decide +kernel
theorem dX11_strip_28 : decode cX11_strip 28 = .ok (.invokestatic 126, 3) := by decide +kernel
theorem dX11_strip_31 : decode cX11_strip 31 = .ok (.ifCond .ne 6, 3) := by decide +kernel
theorem dX11_strip_34 : decode cX11_strip 34 = .ok (.bipush (-2), 2) := by decide +kernel
theorem dX11_strip_36 : decode cX11_strip 36 = .ok (.ireturn, 1) := by decide +kernel
theorem dX11_strip_37 : decode cX11_strip 37 = .ok (.iload 5, 2) := by decide +kernel
theorem dX11_strip_39 : decode cX11_strip 39 = .ok (.istore 6, 2) := by decide +kernel
theorem dX11_strip_41 : decode cX11_strip 41 = .ok (.iconst 0, 1) := by decide +kernel
theorem dX11_strip_42 : decode cX11_strip 42 = .ok (.istore 7, 2) := by decide +kernel
theorem dX11_strip_44 : decode cX11_strip 44 = .ok (.iload 7, 2) := by decide +kernel
theorem dX11_strip_46 : decode cX11_strip 46 = .ok (.iload_n 1, 1) := by decide +kernel
theorem dX11_strip_47 : decode cX11_strip 47 = .ok (.invokestatic 220, 3) := by decide +kernel
theorem dX11_strip_50 : decode cX11_strip 50 = .ok (.if_icmp .ge 147, 3) := by decide +kernel
theorem dX11_strip_53 : decode cX11_strip 53 = .ok (.iload 5, 2) := by decide +kernel
theorem dX11_strip_55 : decode cX11_strip 55 = .ok (.ifCond .lt 142, 3) := by decide +kernel
theorem dX11_strip_58 : decode cX11_strip 58 = .ok (.iload_n 1, 1) := by decide +kernel
theorem dX11_strip_59 : decode cX11_strip 59 = .ok (.iload_n 2, 1) := by decide +kernel
theorem dX11_strip_60 : decode cX11_strip 60 = .ok (.iload 7, 2) := by decide +kernel
theorem dX11_strip_62 : decode cX11_strip 62 = .ok (.aload_n 0, 1) := by decide +kernel
theorem dX11_strip_63 : decode cX11_strip 63 = .ok (.getfield 52, 3) := by decide +kernel
theorem dX11_strip_66 : decode cX11_strip 66 = .ok (.invokestatic 214, 3) := by decide +kernel
theorem dX11_strip_69 : decode cX11_strip 69 = .ok (.ifCond .eq 122, 3) := by decide +kernel
theorem dX11_strip_72 : decode cX11_strip 72 = .ok (.iload_n 1, 1) := by decide +kernel
theorem dX11_strip_73 : decode cX11_strip 73 = .ok (.aload_n 0, 1) := by decide +kernel
theorem dX11_strip_74 : decode cX11_strip 74 = .ok (.getfield 52, 3) := by decide +kernel
theorem dX11_strip_77 : decode cX11_strip 77 = .ok (.invokestatic 223, 3) := by decide +kernel
theorem dX11_strip_80 : decode cX11_strip 80 = .ok (.iload_n 1, 1) := by decide +kernel
theorem dX11_strip_81 : decode cX11_strip 81 = .ok (.aload_n 0, 1) := by decide +kernel
theorem dX11_strip_82 : decode cX11_strip 82 = .ok (.getfield 46, 3) := by decide +kernel
theorem dX11_strip_85 : decode cX11_strip 85 = .ok (.invokestatic 223, 3) := by decide +kernel
theorem dX11_strip_88 : decode cX11_strip 88 = .ok (.isub, 1) := by decide +kernel
theorem dX11_strip_89 : decode cX11_strip 89 = .ok (.iload 4, 2) := by decide +kernel
theorem dX11_strip_91 : decode cX11_strip 91 = .ok (.if_icmp .ne 100, 3) := by decide +kernel
theorem dX11_strip_94 : decode cX11_strip 94 = .ok (.iconst 1, 1) := by decide +kernel
theorem dX11_strip_95 : decode cX11_strip 95 = .ok (.istore 8, 2) := by decide +kernel
theorem dX11_strip_97 : decode cX11_strip 97 = .ok (.iconst 0, 1) := by decide +kernel
theorem dX11_strip_98 : decode cX11_strip 98 = .ok (.istore 9, 2) := by decide +kernel
theorem dX11_strip_100 : decode cX11_strip 100 = .ok (.iload 9, 2) := by decide +kernel
theorem dX11_strip_102 : decode cX11_strip 102 = .ok (.iload_n 1, 1) := by decide +kernel
theorem dX11_strip_103 : decode cX11_strip 103 = .ok (.if_icmp .ge 60, 3) := by decide +kernel
theorem dX11_strip_106 : decode cX11_strip 106 = .ok (.iload 8, 2) := by decide +kernel
theorem dX11_strip_108 : decode cX11_strip 108 = .ok (.aload_n 0, 1) := by decide +kernel
theorem dX11_strip_109 : decode cX11_strip 109 = .ok (.getfield 52, 3) := by decide +kernel
theorem dX11_strip_112 : decode cX11_strip 112 = .ok (.iload 9, 2) := by decide +kernel
theorem dX11_strip_114 : decode cX11_strip 114 = .ok (.iaload, 1) := by decide +kernel
theorem dX11_strip_115 : decode cX11_strip 115 = .ok (.aload_n 0, 1) := by decide +kernel
theorem dX11_strip_116 : decode cX11_strip 116 = .ok (.getfield 46, 3) := by decide +kernel
theorem dX11_strip_119 : decode cX11_strip 119 = .ok (.iload 9, 2) := by decide +kernel
theorem dX11_strip_121 : decode cX11_strip 121 = .ok (.iaload, 1) := by decide +kernel
theorem dX11_strip_122 : decode cX11_strip 122 = .ok (.if_icmp .lt 31, 3) := by decide +kernel
theorem dX11_strip_125 : decode cX11_strip 125 = .ok (.iload 9, 2) := by decide +kernel
theorem dX11_strip_127 : decode cX11_strip 127 = .ok (.ifCond .eq 22, 3) := by decide +kernel
theorem dX11_strip_130 : decode cX11_strip 130 = .ok (.aload_n 0, 1) := by decide +kernel
theorem dX11_strip_131 : decode cX11_strip 131 = .ok (.getfield 52, 3) := by decide +kernel
theorem dX11_strip_134 : decode cX11_strip 134 = .ok (.iload 9, 2) := by decide +kernel
theorem dX11_strip_136 : decode cX11_strip 136 = .ok (.iaload, 1) := by decide +kernel
theorem dX11_strip_137 : decode cX11_strip 137 = .ok (.aload_n 0, 1) := by decide +kernel
theorem dX11_strip_138 : decode cX11_strip 138 = .ok (.getfield 46, 3) := by decide +kernel
theorem dX11_strip_141 : decode cX11_strip 141 = .ok (.iload 9, 2) := by decide +kernel
theorem dX11_strip_143 : decode cX11_strip 143 = .ok (.iconst 1, 1) := by decide +kernel
theorem dX11_strip_144 : decode cX11_strip 144 = .ok (.isub, 1) := by decide +kernel
theorem dX11_strip_145 : decode cX11_strip 145 = .ok (.iaload, 1) := by decide +kernel
theorem dX11_strip_146 : decode cX11_strip 146 = .ok (.if_icmp .gt 7, 3) := by decide +kernel
theorem dX11_strip_149 : decode cX11_strip 149 = .ok (.iconst 1, 1) := by decide +kernel
theorem dX11_strip_150 : decode cX11_strip 150 = .ok (.goto 4, 3) := by decide +kernel
theorem dX11_strip_153 : decode cX11_strip 153 = .ok (.iconst 0, 1) := by decide +kernel
theorem dX11_strip_154 : decode cX11_strip 154 = .ok (.iand, 1) := by decide +kernel
theorem dX11_strip_155 : decode cX11_strip 155 = .ok (.istore 8, 2) := by decide +kernel
theorem dX11_strip_157 : decode cX11_strip 157 = .ok (.iinc 9 1, 3) := by decide +kernel
theorem dX11_strip_160 : decode cX11_strip 160 = .ok (.goto (-60), 3) := by decide +kernel
theorem dX11_strip_163 : decode cX11_strip 163 = .ok (.iload 8, 2) := by decide +kernel
theorem dX11_strip_165 : decode cX11_strip 165 = .ok (.ifCond .eq 11, 3) := by decide +kernel
theorem dX11_strip_168 : decode cX11_strip 168 = .ok (.iload 6, 2) := by decide +kernel
theorem dX11_strip_170 : decode cX11_strip 170 = .ok (.ifCond .ne 6, 3) := by decide +kernel
theorem dX11_strip_173 : decode cX11_strip 173 = .ok (.iload 7, 2) := by decide +kernel
theorem dX11_strip_175 : decode cX11_strip 175 = .ok (.ireturn, 1) := by decide +kernel
theorem dX11_strip_176 : decode cX11_strip 176 = .ok (.iload 6, 2) := by decide +kernel
theorem dX11_strip_178 : decode cX11_strip 178 = .ok (.iload 8, 2) := by decide +kernel
theorem dX11_strip_180 : decode cX11_strip 180 = .ok (.ifCond .eq 7, 3) := by decide +kernel
theorem dX11_strip_183 : decode cX11_strip 183 = .ok (.iconst 1, 1) := by decide +kernel
theorem dX11_strip_184 : decode cX11_strip 184 = .ok (.goto 4, 3) := by decide +kernel
theorem dX11_strip_187 : decode cX11_strip 187 = .ok (.iconst 0, 1) := by decide +kernel
theorem dX11_strip_188 : decode cX11_strip 188 = .ok (.isub, 1) := by decide +kernel
theorem dX11_strip_189 : decode cX11_strip 189 = .ok (.istore 6, 2) := by decide +kernel
theorem dX11_strip_191 : decode cX11_strip 191 = .ok (.iinc 7 1, 3) := by decide +kernel
theorem dX11_strip_194 : decode cX11_strip 194 = .ok (.goto (-150), 3) := by decide +kernel
theorem dX11_strip_197 : decode cX11_strip 197 = .ok (.iconst (-1), 1) := by decide +kernel
theorem dX11_strip_198 : decode cX11_strip 198 = .ok (.ireturn, 1) := by decide +kernel
theorem dX11_mayStand_0 : decode cX11_mayStand 0 = .ok (.aload_n 0, 1) := by decide +kernel
theorem dX11_mayStand_1 : decode cX11_mayStand 1 = .ok (.getfield 55, 3) := by decide +kernel
theorem dX11_mayStand_4 : decode cX11_mayStand 4 = .ok (.iload_n 2, 1) := by decide +kernel
theorem dX11_mayStand_5 : decode cX11_mayStand 5 = .ok (.iaload, 1) := by decide +kernel
theorem dX11_mayStand_6 : decode cX11_mayStand 6 = .ok (.istore 4, 2) := by decide +kernel
theorem dX11_mayStand_8 : decode cX11_mayStand 8 = .ok (.aload_n 0, 1) := by decide +kernel
theorem dX11_mayStand_9 : decode cX11_mayStand 9 = .ok (.getfield 58, 3) := by decide +kernel
theorem dX11_mayStand_12 : decode cX11_mayStand 12 = .ok (.iload_n 2, 1) := by decide +kernel
theorem dX11_mayStand_13 : decode cX11_mayStand 13 = .ok (.iaload, 1) := by decide +kernel
theorem dX11_mayStand_14 : decode cX11_mayStand 14 = .ok (.istore 5, 2) := by decide +kernel
theorem dX11_mayStand_16 : decode cX11_mayStand 16 = .ok (.aload_n 0, 1) := by decide +kernel
theorem dX11_mayStand_17 : decode cX11_mayStand 17 = .ok (.getfield 67, 3) := by decide +kernel
theorem dX11_mayStand_20 : decode cX11_mayStand 20 = .ok (.iload_n 3, 1) := by decide +kernel
theorem dX11_mayStand_21 : decode cX11_mayStand 21 = .ok (.iaload, 1) := by decide +kernel
theorem dX11_mayStand_22 : decode cX11_mayStand 22 = .ok (.aload_n 0, 1) := by decide +kernel
theorem dX11_mayStand_23 : decode cX11_mayStand 23 = .ok (.getfield 49, 3) := by decide +kernel
theorem dX11_mayStand_26 : decode cX11_mayStand 26 = .ok (.iload_n 3, 1) := by decide +kernel
theorem dX11_mayStand_27 : decode cX11_mayStand 27 = .ok (.iconst 1, 1) := by decide +kernel
theorem dX11_mayStand_28 : decode cX11_mayStand 28 = .ok (.isub, 1) := by decide +kernel
theorem dX11_mayStand_29 : decode cX11_mayStand 29 = .ok (.iaload, 1) := by decide +kernel
theorem dX11_mayStand_30 : decode cX11_mayStand 30 = .ok (.if_icmp .eq 25, 3) := by decide +kernel
theorem dX11_mayStand_33 : decode cX11_mayStand 33 = .ok (.iload_n 3, 1) := by decide +kernel
theorem dX11_mayStand_34 : decode cX11_mayStand 34 = .ok (.iconst 1, 1) := by decide +kernel
theorem dX11_mayStand_35 : decode cX11_mayStand 35 = .ok (.if_icmp .le 22, 3) := by decide +kernel
theorem dX11_mayStand_38 : decode cX11_mayStand 38 = .ok (.aload_n 0, 1) := by decide +kernel
theorem dX11_mayStand_39 : decode cX11_mayStand 39 = .ok (.getfield 67, 3) := by decide +kernel
theorem dX11_mayStand_42 : decode cX11_mayStand 42 = .ok (.iload_n 3, 1) := by decide +kernel
theorem dX11_mayStand_43 : decode cX11_mayStand 43 = .ok (.iaload, 1) := by decide +kernel
theorem dX11_mayStand_44 : decode cX11_mayStand 44 = .ok (.aload_n 0, 1) := by decide +kernel
theorem dX11_mayStand_45 : decode cX11_mayStand 45 = .ok (.getfield 67, 3) := by decide +kernel
theorem dX11_mayStand_48 : decode cX11_mayStand 48 = .ok (.iload_n 3, 1) := by decide +kernel
theorem dX11_mayStand_49 : decode cX11_mayStand 49 = .ok (.iconst 1, 1) := by decide +kernel
theorem dX11_mayStand_50 : decode cX11_mayStand 50 = .ok (.isub, 1) := by decide +kernel
theorem dX11_mayStand_51 : decode cX11_mayStand 51 = .ok (.iaload, 1) := by decide +kernel
theorem dX11_mayStand_52 : decode cX11_mayStand 52 = .ok (.if_icmp .ne 5, 3) := by decide +kernel
theorem dX11_mayStand_55 : decode cX11_mayStand 55 = .ok (.iconst 0, 1) := by decide +kernel
theorem dX11_mayStand_56 : decode cX11_mayStand 56 = .ok (.ireturn, 1) := by decide +kernel
theorem dX11_mayStand_57 : decode cX11_mayStand 57 = .ok (.iload 5, 2) := by decide +kernel
theorem dX11_mayStand_59 : decode cX11_mayStand 59 = .ok (.iconst 1, 1) := by decide +kernel
theorem dX11_mayStand_60 : decode cX11_mayStand 60 = .ok (.iadd, 1) := by decide +kernel
theorem dX11_mayStand_61 : decode cX11_mayStand 61 = .ok (.aload_n 0, 1) := by decide +kernel
theorem dX11_mayStand_62 : decode cX11_mayStand 62 = .ok (.getfield 52, 3) := by decide +kernel
theorem dX11_mayStand_65 : decode cX11_mayStand 65 = .ok (.iload 4, 2) := by decide +kernel
theorem dX11_mayStand_67 : decode cX11_mayStand 67 = .ok (.iaload, 1) := by decide +kernel
theorem dX11_mayStand_68 : decode cX11_mayStand 68 = .ok (.if_icmp .ge 23, 3) := by decide +kernel
theorem dX11_mayStand_71 : decode cX11_mayStand 71 = .ok (.aload_n 0, 1) := by decide +kernel
theorem dX11_mayStand_72 : decode cX11_mayStand 72 = .ok (.getfield 64, 3) := by decide +kernel
theorem dX11_mayStand_75 : decode cX11_mayStand 75 = .ok (.iconst 4, 1) := by decide +kernel
theorem dX11_mayStand_76 : decode cX11_mayStand 76 = .ok (.iload 4, 2) := by decide +kernel
theorem dX11_mayStand_78 : decode cX11_mayStand 78 = .ok (.imul, 1) := by decide +kernel
theorem dX11_mayStand_79 : decode cX11_mayStand 79 = .ok (.iload 5, 2) := by decide +kernel
theorem dX11_mayStand_81 : decode cX11_mayStand 81 = .ok (.iadd, 1) := by decide +kernel
theorem dX11_mayStand_82 : decode cX11_mayStand 82 = .ok (.iconst 1, 1) := by decide +kernel
theorem dX11_mayStand_83 : decode cX11_mayStand 83 = .ok (.iadd, 1) := by decide +kernel
theorem dX11_mayStand_84 : decode cX11_mayStand 84 = .ok (.iaload, 1) := by decide +kernel
theorem dX11_mayStand_85 : decode cX11_mayStand 85 = .ok (.iload_n 3, 1) := by decide +kernel
theorem dX11_mayStand_86 : decode cX11_mayStand 86 = .ok (.if_icmp .ge 5, 3) := by decide +kernel
theorem dX11_mayStand_89 : decode cX11_mayStand 89 = .ok (.iconst 0, 1) := by decide +kernel
theorem dX11_mayStand_90 : decode cX11_mayStand 90 = .ok (.ireturn, 1) := by decide +kernel
theorem dX11_mayStand_91 : decode cX11_mayStand 91 = .ok (.iload 4, 2) := by decide +kernel
theorem dX11_mayStand_93 : decode cX11_mayStand 93 = .ok (.ifCond .eq 35, 3) := by decide +kernel
theorem dX11_mayStand_96 : decode cX11_mayStand 96 = .ok (.iload 5, 2) := by decide +kernel
theorem dX11_mayStand_98 : decode cX11_mayStand 98 = .ok (.aload_n 0, 1) := by decide +kernel
theorem dX11_mayStand_99 : decode cX11_mayStand 99 = .ok (.getfield 46, 3) := by decide +kernel
theorem dX11_mayStand_102 : decode cX11_mayStand 102 = .ok (.iload 4, 2) := by decide +kernel
theorem dX11_mayStand_104 : decode cX11_mayStand 104 = .ok (.iconst 1, 1) := by decide +kernel
theorem dX11_mayStand_105 : decode cX11_mayStand 105 = .ok (.isub, 1) := by decide +kernel
theorem dX11_mayStand_106 : decode cX11_mayStand 106 = .ok (.iaload, 1) := by decide +kernel
theorem dX11_mayStand_107 : decode cX11_mayStand 107 = .ok (.if_icmp .lt 21, 3) := by decide +kernel
theorem dX11_mayStand_110 : decode cX11_mayStand 110 = .ok (.aload_n 0, 1) := by decide +kernel
theorem dX11_mayStand_111 : decode cX11_mayStand 111 = .ok (.getfield 64, 3) := by decide +kernel
theorem dX11_mayStand_114 : decode cX11_mayStand 114 = .ok (.iconst 4, 1) := by decide +kernel
theorem dX11_mayStand_115 : decode cX11_mayStand 115 = .ok (.iload 4, 2) := by decide +kernel
theorem dX11_mayStand_117 : decode cX11_mayStand 117 = .ok (.imul, 1) := by decide +kernel
theorem dX11_mayStand_118 : decode cX11_mayStand 118 = .ok (.iconst 4, 1) := by decide +kernel
theorem dX11_mayStand_119 : decode cX11_mayStand 119 = .ok (.isub, 1) := by decide +kernel
theorem dX11_mayStand_120 : decode cX11_mayStand 120 = .ok (.iload 5, 2) := by decide +kernel
theorem dX11_mayStand_122 : decode cX11_mayStand 122 = .ok (.iadd, 1) := by decide +kernel
theorem dX11_mayStand_123 : decode cX11_mayStand 123 = .ok (.iaload, 1) := by decide +kernel
theorem dX11_mayStand_124 : decode cX11_mayStand 124 = .ok (.iload_n 3, 1) := by decide +kernel
theorem dX11_mayStand_125 : decode cX11_mayStand 125 = .ok (.if_icmp .ge 7, 3) := by decide +kernel
theorem dX11_mayStand_128 : decode cX11_mayStand 128 = .ok (.iconst 1, 1) := by decide +kernel
theorem dX11_mayStand_129 : decode cX11_mayStand 129 = .ok (.goto 4, 3) := by decide +kernel
theorem dX11_mayStand_132 : decode cX11_mayStand 132 = .ok (.iconst 0, 1) := by decide +kernel
theorem dX11_mayStand_133 : decode cX11_mayStand 133 = .ok (.ireturn, 1) := by decide +kernel
theorem dX11_fills_0 : decode cX11_fills 0 = .ok (.iconst 0, 1) := by decide +kernel
theorem dX11_fills_1 : decode cX11_fills 1 = .ok (.istore_n 2, 1) := by decide +kernel
theorem dX11_fills_2 : decode cX11_fills 2 = .ok (.iconst 0, 1) := by decide +kernel
theorem dX11_fills_3 : decode cX11_fills 3 = .ok (.istore_n 3, 1) := by decide +kernel
theorem dX11_fills_4 : decode cX11_fills 4 = .ok (.iload_n 3, 1) := by decide +kernel
theorem dX11_fills_5 : decode cX11_fills 5 = .ok (.iload_n 1, 1) := by decide +kernel
theorem dX11_fills_6 : decode cX11_fills 6 = .ok (.if_icmp .ge 71, 3) := by decide +kernel
theorem dX11_fills_9 : decode cX11_fills 9 = .ok (.aload_n 0, 1) := by decide +kernel
theorem dX11_fills_10 : decode cX11_fills 10 = .ok (.getfield 46, 3) := by decide +kernel
theorem dX11_fills_13 : decode cX11_fills 13 = .ok (.iload_n 3, 1) := by decide +kernel
theorem dX11_fills_14 : decode cX11_fills 14 = .ok (.iaload, 1) := by decide +kernel
theorem dX11_fills_15 : decode cX11_fills 15 = .ok (.aload_n 0, 1) := by decide +kernel
theorem dX11_fills_16 : decode cX11_fills 16 = .ok (.getfield 52, 3) := by decide +kernel
theorem dX11_fills_19 : decode cX11_fills 19 = .ok (.iload_n 3, 1) := by decide +kernel
theorem dX11_fills_20 : decode cX11_fills 20 = .ok (.iaload, 1) := by decide +kernel
theorem dX11_fills_21 : decode cX11_fills 21 = .ok (.if_icmp .le 5, 3) := by decide +kernel
theorem dX11_fills_24 : decode cX11_fills 24 = .ok (.iconst 0, 1) := by decide +kernel
theorem dX11_fills_25 : decode cX11_fills 25 = .ok (.ireturn, 1) := by decide +kernel
theorem dX11_fills_26 : decode cX11_fills 26 = .ok (.aload_n 0, 1) := by decide +kernel
theorem dX11_fills_27 : decode cX11_fills 27 = .ok (.getfield 52, 3) := by decide +kernel
theorem dX11_fills_30 : decode cX11_fills 30 = .ok (.iload_n 3, 1) := by decide +kernel
theorem dX11_fills_31 : decode cX11_fills 31 = .ok (.iaload, 1) := by decide +kernel
theorem dX11_fills_32 : decode cX11_fills 32 = .ok (.iconst 1, 1) := by decide +kernel
theorem dX11_fills_33 : decode cX11_fills 33 = .ok (.isub, 1) := by decide +kernel
theorem dX11_fills_34 : decode cX11_fills 34 = .ok (.istore 4, 2) := by decide +kernel
theorem dX11_fills_36 : decode cX11_fills 36 = .ok (.iload 4, 2) := by decide +kernel
theorem dX11_fills_38 : decode cX11_fills 38 = .ok (.aload_n 0, 1) := by decide +kernel
theorem dX11_fills_39 : decode cX11_fills 39 = .ok (.getfield 46, 3) := by decide +kernel
theorem dX11_fills_42 : decode cX11_fills 42 = .ok (.iload_n 3, 1) := by decide +kernel
theorem dX11_fills_43 : decode cX11_fills 43 = .ok (.iaload, 1) := by decide +kernel
theorem dX11_fills_44 : decode cX11_fills 44 = .ok (.if_icmp .lt 27, 3) := by decide +kernel
theorem dX11_fills_47 : decode cX11_fills 47 = .ok (.aload_n 0, 1) := by decide +kernel
theorem dX11_fills_48 : decode cX11_fills 48 = .ok (.getfield 55, 3) := by decide +kernel
theorem dX11_fills_51 : decode cX11_fills 51 = .ok (.iload_n 2, 1) := by decide +kernel
theorem dX11_fills_52 : decode cX11_fills 52 = .ok (.iload_n 3, 1) := by decide +kernel
theorem dX11_fills_53 : decode cX11_fills 53 = .ok (.iastore, 1) := by decide +kernel
theorem dX11_fills_54 : decode cX11_fills 54 = .ok (.aload_n 0, 1) := by decide +kernel
theorem dX11_fills_55 : decode cX11_fills 55 = .ok (.getfield 58, 3) := by decide +kernel
theorem dX11_fills_58 : decode cX11_fills 58 = .ok (.iload_n 2, 1) := by decide +kernel
theorem dX11_fills_59 : decode cX11_fills 59 = .ok (.iload 4, 2) := by decide +kernel
theorem dX11_fills_61 : decode cX11_fills 61 = .ok (.iastore, 1) := by decide +kernel
theorem dX11_fills_62 : decode cX11_fills 62 = .ok (.iinc 2 1, 3) := by decide +kernel
theorem dX11_fills_65 : decode cX11_fills 65 = .ok (.iinc 4 (-1), 3) := by decide +kernel
theorem dX11_fills_68 : decode cX11_fills 68 = .ok (.goto (-32), 3) := by decide +kernel
theorem dX11_fills_71 : decode cX11_fills 71 = .ok (.iinc 3 1, 3) := by decide +kernel
theorem dX11_fills_74 : decode cX11_fills 74 = .ok (.goto (-70), 3) := by decide +kernel
theorem dX11_fills_77 : decode cX11_fills 77 = .ok (.iload_n 2, 1) := by decide +kernel
theorem dX11_fills_78 : decode cX11_fills 78 = .ok (.iload_n 1, 1) := by decide +kernel
theorem dX11_fills_79 : decode cX11_fills 79 = .ok (.aload_n 0, 1) := by decide +kernel
theorem dX11_fills_80 : decode cX11_fills 80 = .ok (.getfield 49, 3) := by decide +kernel
theorem dX11_fills_83 : decode cX11_fills 83 = .ok (.invokestatic 223, 3) := by decide +kernel
theorem dX11_fills_86 : decode cX11_fills 86 = .ok (.if_icmp .eq 5, 3) := by decide +kernel
theorem dX11_fills_89 : decode cX11_fills 89 = .ok (.iconst 0, 1) := by decide +kernel
theorem dX11_fills_90 : decode cX11_fills 90 = .ok (.ireturn, 1) := by decide +kernel
theorem dX11_fills_91 : decode cX11_fills 91 = .ok (.iconst 0, 1) := by decide +kernel
theorem dX11_fills_92 : decode cX11_fills 92 = .ok (.istore_n 3, 1) := by decide +kernel
theorem dX11_fills_93 : decode cX11_fills 93 = .ok (.iload_n 3, 1) := by decide +kernel
theorem dX11_fills_94 : decode cX11_fills 94 = .ok (.bipush 6, 2) := by decide +kernel
theorem dX11_fills_96 : decode cX11_fills 96 = .ok (.if_icmp .ge 16, 3) := by decide +kernel
theorem dX11_fills_99 : decode cX11_fills 99 = .ok (.aload_n 0, 1) := by decide +kernel
theorem dX11_fills_100 : decode cX11_fills 100 = .ok (.getfield 67, 3) := by decide +kernel
theorem dX11_fills_103 : decode cX11_fills 103 = .ok (.iload_n 3, 1) := by decide +kernel
theorem dX11_fills_104 : decode cX11_fills 104 = .ok (.iconst 0, 1) := by decide +kernel
theorem dX11_fills_105 : decode cX11_fills 105 = .ok (.iastore, 1) := by decide +kernel
theorem dX11_fills_106 : decode cX11_fills 106 = .ok (.iinc 3 1, 3) := by decide +kernel
theorem dX11_fills_109 : decode cX11_fills 109 = .ok (.goto (-16), 3) := by decide +kernel
theorem dX11_fills_112 : decode cX11_fills 112 = .ok (.iload_n 2, 1) := by decide +kernel
theorem dX11_fills_113 : decode cX11_fills 113 = .ok (.ifCond .ne 5, 3) := by decide +kernel
theorem dX11_fills_116 : decode cX11_fills 116 = .ok (.iconst 1, 1) := by decide +kernel
theorem dX11_fills_117 : decode cX11_fills 117 = .ok (.ireturn, 1) := by decide +kernel
theorem dX11_fills_118 : decode cX11_fills 118 = .ok (.iconst 0, 1) := by decide +kernel
theorem dX11_fills_119 : decode cX11_fills 119 = .ok (.istore_n 3, 1) := by decide +kernel
theorem dX11_fills_120 : decode cX11_fills 120 = .ok (.iconst 0, 1) := by decide +kernel
theorem dX11_fills_121 : decode cX11_fills 121 = .ok (.istore 4, 2) := by decide +kernel
theorem dX11_fills_123 : decode cX11_fills 123 = .ok (.aload_n 0, 1) := by decide +kernel
theorem dX11_fills_124 : decode cX11_fills 124 = .ok (.getfield 61, 3) := by decide +kernel
theorem dX11_fills_127 : decode cX11_fills 127 = .ok (.iconst 0, 1) := by decide +kernel
theorem dX11_fills_128 : decode cX11_fills 128 = .ok (.iconst 0, 1) := by decide +kernel
theorem dX11_fills_129 : decode cX11_fills 129 = .ok (.iastore, 1) := by decide +kernel
theorem dX11_fills_130 : decode cX11_fills 130 = .ok (.iload 4, 2) := by decide +kernel
theorem dX11_fills_132 : decode cX11_fills 132 = .ok (.ifCond .lt 148, 3) := by decide +kernel
theorem dX11_fills_135 : decode cX11_fills 135 = .ok (.aload_n 0, 1) := by decide +kernel
theorem dX11_fills_136 : decode cX11_fills 136 = .ok (.getfield 61, 3) := by decide +kernel
theorem dX11_fills_139 : decode cX11_fills 139 = .ok (.iload 4, 2) := by decide +kernel
theorem dX11_fills_141 : decode cX11_fills 141 = .ok (.iaload, 1) := by decide +kernel
theorem dX11_fills_142 : decode cX11_fills 142 = .ok (.ifCond .le 19, 3) := by decide +kernel
theorem dX11_fills_145 : decode cX11_fills 145 = .ok (.aload_n 0, 1) := by decide +kernel
theorem dX11_fills_146 : decode cX11_fills 146 = .ok (.getfield 67, 3) := by decide +kernel
theorem dX11_fills_149 : decode cX11_fills 149 = .ok (.aload_n 0, 1) := by decide +kernel
theorem dX11_fills_150 : decode cX11_fills 150 = .ok (.getfield 61, 3) := by decide +kernel
theorem dX11_fills_153 : decode cX11_fills 153 = .ok (.iload 4, 2) := by decide +kernel
theorem dX11_fills_155 : decode cX11_fills 155 = .ok (.iaload, 1) := by decide +kernel
theorem dX11_fills_156 : decode cX11_fills 156 = .ok (.dup2, 1) := by decide +kernel
theorem dX11_fills_157 : decode cX11_fills 157 = .ok (.iaload, 1) := by decide +kernel
theorem dX11_fills_158 : decode cX11_fills 158 = .ok (.iconst 1, 1) := by decide +kernel
theorem dX11_fills_159 : decode cX11_fills 159 = .ok (.isub, 1) := by decide +kernel
theorem dX11_fills_160 : decode cX11_fills 160 = .ok (.iastore, 1) := by decide +kernel
theorem dX11_fills_161 : decode cX11_fills 161 = .ok (.aload_n 0, 1) := by decide +kernel
theorem dX11_fills_162 : decode cX11_fills 162 = .ok (.getfield 61, 3) := by decide +kernel
theorem dX11_fills_165 : decode cX11_fills 165 = .ok (.iload 4, 2) := by decide +kernel
theorem dX11_fills_167 : decode cX11_fills 167 = .ok (.iaload, 1) := by decide +kernel
theorem dX11_fills_168 : decode cX11_fills 168 = .ok (.iconst 1, 1) := by decide +kernel
theorem dX11_fills_169 : decode cX11_fills 169 = .ok (.iadd, 1) := by decide +kernel
theorem dX11_fills_170 : decode cX11_fills 170 = .ok (.istore 5, 2) := by decide +kernel
theorem dX11_fills_172 : decode cX11_fills 172 = .ok (.iload 5, 2) := by decide +kernel
theorem dX11_fills_174 : decode cX11_fills 174 = .ok (.iload_n 1, 1) := by decide +kernel
theorem dX11_fills_175 : decode cX11_fills 175 = .ok (.if_icmp .gt 21, 3) := by decide +kernel
theorem dX11_fills_178 : decode cX11_fills 178 = .ok (.aload_n 0, 1) := by decide +kernel
theorem dX11_fills_179 : decode cX11_fills 179 = .ok (.iload_n 1, 1) := by decide +kernel
theorem dX11_fills_180 : decode cX11_fills 180 = .ok (.iload 4, 2) := by decide +kernel
theorem dX11_fills_182 : decode cX11_fills 182 = .ok (.iload 5, 2) := by decide +kernel
theorem dX11_fills_184 : decode cX11_fills 184 = .ok (.invokevirtual 227, 3) := by decide +kernel
theorem dX11_fills_187 : decode cX11_fills 187 = .ok (.ifCond .ne 9, 3) := by decide +kernel
theorem dX11_fills_190 : decode cX11_fills 190 = .ok (.iinc 5 1, 3) := by decide +kernel
theorem dX11_fills_193 : decode cX11_fills 193 = .ok (.goto (-21), 3) := by decide +kernel
theorem dX11_fills_196 : decode cX11_fills 196 = .ok (.iload 5, 2) := by decide +kernel
theorem dX11_fills_198 : decode cX11_fills 198 = .ok (.iload_n 1, 1) := by decide +kernel
theorem dX11_fills_199 : decode cX11_fills 199 = .ok (.if_icmp .le 9, 3) := by decide +kernel
theorem dX11_fills_202 : decode cX11_fills 202 = .ok (.iinc 4 (-1), 3) := by decide +kernel
theorem dX11_fills_205 : decode cX11_fills 205 = .ok (.goto 72, 3) := by decide +kernel
theorem dX11_fills_208 : decode cX11_fills 208 = .ok (.aload_n 0, 1) := by decide +kernel
theorem dX11_fills_209 : decode cX11_fills 209 = .ok (.getfield 61, 3) := by decide +kernel
theorem dX11_fills_212 : decode cX11_fills 212 = .ok (.iload 4, 2) := by decide +kernel
theorem dX11_fills_214 : decode cX11_fills 214 = .ok (.iload 5, 2) := by decide +kernel
theorem dX11_fills_216 : decode cX11_fills 216 = .ok (.iastore, 1) := by decide +kernel
theorem dX11_fills_217 : decode cX11_fills 217 = .ok (.aload_n 0, 1) := by decide +kernel
theorem dX11_fills_218 : decode cX11_fills 218 = .ok (.getfield 64, 3) := by decide +kernel
theorem dX11_fills_221 : decode cX11_fills 221 = .ok (.iconst 4, 1) := by decide +kernel
theorem dX11_fills_222 : decode cX11_fills 222 = .ok (.aload_n 0, 1) := by decide +kernel
theorem dX11_fills_223 : decode cX11_fills 223 = .ok (.getfield 55, 3) := by decide +kernel
theorem dX11_fills_226 : decode cX11_fills 226 = .ok (.iload 4, 2) := by decide +kernel
theorem dX11_fills_228 : decode cX11_fills 228 = .ok (.iaload, 1) := by decide +kernel
theorem dX11_fills_229 : decode cX11_fills 229 = .ok (.imul, 1) := by decide +kernel
theorem dX11_fills_230 : decode cX11_fills 230 = .ok (.aload_n 0, 1) := by decide +kernel
theorem dX11_fills_231 : decode cX11_fills 231 = .ok (.getfield 58, 3) := by decide +kernel
theorem dX11_fills_234 : decode cX11_fills 234 = .ok (.iload 4, 2) := by decide +kernel
theorem dX11_fills_236 : decode cX11_fills 236 = .ok (.iaload, 1) := by decide +kernel
theorem dX11_fills_237 : decode cX11_fills 237 = .ok (.iadd, 1) := by decide +kernel
theorem dX11_fills_238 : decode cX11_fills 238 = .ok (.iload 5, 2) := by decide +kernel
theorem dX11_fills_240 : decode cX11_fills 240 = .ok (.iastore, 1) := by decide +kernel
theorem dX11_fills_241 : decode cX11_fills 241 = .ok (.aload_n 0, 1) := by decide +kernel
theorem dX11_fills_242 : decode cX11_fills 242 = .ok (.getfield 67, 3) := by decide +kernel
theorem dX11_fills_245 : decode cX11_fills 245 = .ok (.iload 5, 2) := by decide +kernel
theorem dX11_fills_247 : decode cX11_fills 247 = .ok (.dup2, 1) := by decide +kernel
theorem dX11_fills_248 : decode cX11_fills 248 = .ok (.iaload, 1) := by decide +kernel
theorem dX11_fills_249 : decode cX11_fills 249 = .ok (.iconst 1, 1) := by decide +kernel
theorem dX11_fills_250 : decode cX11_fills 250 = .ok (.iadd, 1) := by decide +kernel
theorem dX11_fills_251 : decode cX11_fills 251 = .ok (.iastore, 1) := by decide +kernel
theorem dX11_fills_252 : decode cX11_fills 252 = .ok (.iload 4, 2) := by decide +kernel
theorem dX11_fills_254 : decode cX11_fills 254 = .ok (.iconst 1, 1) := by decide +kernel
theorem dX11_fills_255 : decode cX11_fills 255 = .ok (.iadd, 1) := by decide +kernel
theorem dX11_fills_256 : decode cX11_fills 256 = .ok (.iload_n 2, 1) := by decide +kernel
theorem dX11_fills_257 : decode cX11_fills 257 = .ok (.if_icmp .ne 9, 3) := by decide +kernel
theorem dX11_fills_260 : decode cX11_fills 260 = .ok (.iinc 3 1, 3) := by decide +kernel
theorem dX11_fills_263 : decode cX11_fills 263 = .ok (.goto 14, 3) := by decide +kernel
theorem dX11_fills_266 : decode cX11_fills 266 = .ok (.iinc 4 1, 3) := by decide +kernel
theorem dX11_fills_269 : decode cX11_fills 269 = .ok (.aload_n 0, 1) := by decide +kernel
theorem dX11_fills_270 : decode cX11_fills 270 = .ok (.getfield 61, 3) := by decide +kernel
theorem dX11_fills_273 : decode cX11_fills 273 = .ok (.iload 4, 2) := by decide +kernel
theorem dX11_fills_275 : decode cX11_fills 275 = .ok (.iconst 0, 1) := by decide +kernel
theorem dX11_fills_276 : decode cX11_fills 276 = .ok (.iastore, 1) := by decide +kernel
theorem dX11_fills_277 : decode cX11_fills 277 = .ok (.goto (-147), 3) := by decide +kernel
theorem dX11_fills_280 : decode cX11_fills 280 = .ok (.iload_n 3, 1) := by decide +kernel
theorem dX11_fills_281 : decode cX11_fills 281 = .ok (.ireturn, 1) := by decide +kernel
theorem dX11_fillings_0 : decode cX11_fillings 0 = .ok (.iload_n 1, 1) := by decide +kernel
theorem dX11_fillings_1 : decode cX11_fillings 1 = .ok (.iload_n 2, 1) := by decide +kernel
theorem dX11_fillings_2 : decode cX11_fillings 2 = .ok (.invokestatic 210, 3) := by decide +kernel
theorem dX11_fillings_5 : decode cX11_fillings 5 = .ok (.ifCond .eq 48, 3) := by decide +kernel
theorem dX11_fillings_8 : decode cX11_fillings 8 = .ok (.iload_n 1, 1) := by decide +kernel
theorem dX11_fillings_9 : decode cX11_fillings 9 = .ok (.iload_n 2, 1) := by decide +kernel
theorem dX11_fillings_10 : decode cX11_fillings 10 = .ok (.iload_n 3, 1) := by decide +kernel
theorem dX11_fillings_11 : decode cX11_fillings 11 = .ok (.aload_n 0, 1) := by decide +kernel
theorem dX11_fillings_12 : decode cX11_fillings 12 = .ok (.getfield 46, 3) := by decide +kernel
theorem dX11_fillings_15 : decode cX11_fillings 15 = .ok (.invokestatic 214, 3) := by decide +kernel
theorem dX11_fillings_18 : decode cX11_fillings 18 = .ok (.ifCond .eq 35, 3) := by decide +kernel
theorem dX11_fillings_21 : decode cX11_fillings 21 = .ok (.iload_n 1, 1) := by decide +kernel
theorem dX11_fillings_22 : decode cX11_fillings 22 = .ok (.iload_n 2, 1) := by decide +kernel
theorem dX11_fillings_23 : decode cX11_fillings 23 = .ok (.iload 4, 2) := by decide +kernel
theorem dX11_fillings_25 : decode cX11_fillings 25 = .ok (.aload_n 0, 1) := by decide +kernel
theorem dX11_fillings_26 : decode cX11_fillings 26 = .ok (.getfield 49, 3) := by decide +kernel
theorem dX11_fillings_29 : decode cX11_fillings 29 = .ok (.invokestatic 214, 3) := by decide +kernel
theorem dX11_fillings_32 : decode cX11_fillings 32 = .ok (.ifCond .eq 21, 3) := by decide +kernel
theorem dX11_fillings_35 : decode cX11_fillings 35 = .ok (.iload_n 1, 1) := by decide +kernel
theorem dX11_fillings_36 : decode cX11_fillings 36 = .ok (.iload_n 2, 1) := by decide +kernel
theorem dX11_fillings_37 : decode cX11_fillings 37 = .ok (.iload 5, 2) := by decide +kernel
theorem dX11_fillings_39 : decode cX11_fillings 39 = .ok (.aload_n 0, 1) := by decide +kernel
theorem dX11_fillings_40 : decode cX11_fillings 40 = .ok (.getfield 52, 3) := by decide +kernel
theorem dX11_fillings_43 : decode cX11_fillings 43 = .ok (.invokestatic 214, 3) := by decide +kernel
theorem dX11_fillings_46 : decode cX11_fillings 46 = .ok (.ifCond .eq 7, 3) := by decide +kernel
theorem dX11_fillings_49 : decode cX11_fillings 49 = .ok (.iconst 1, 1) := by decide +kernel
theorem dX11_fillings_50 : decode cX11_fillings 50 = .ok (.goto 4, 3) := by decide +kernel
theorem dX11_fillings_53 : decode cX11_fillings 53 = .ok (.iconst 0, 1) := by decide +kernel
theorem dX11_fillings_54 : decode cX11_fillings 54 = .ok (.istore 6, 2) := by decide +kernel
theorem dX11_fillings_56 : decode cX11_fillings 56 = .ok (.iload 6, 2) := by decide +kernel
theorem dX11_fillings_58 : decode cX11_fillings 58 = .ok (.ifCond .eq 11, 3) := by decide +kernel
theorem dX11_fillings_61 : decode cX11_fillings 61 = .ok (.aload_n 0, 1) := by decide +kernel
theorem dX11_fillings_62 : decode cX11_fillings 62 = .ok (.iload_n 1, 1) := by decide +kernel
theorem dX11_fillings_63 : decode cX11_fillings 63 = .ok (.invokevirtual 231, 3) := by decide +kernel
theorem dX11_fillings_66 : decode cX11_fillings 66 = .ok (.goto 5, 3) := by decide +kernel
theorem dX11_fillings_69 : decode cX11_fillings 69 = .ok (.bipush (-2), 2) := by decide +kernel
theorem dX11_fillings_71 : decode cX11_fillings 71 = .ok (.ireturn, 1) := by decide +kernel
theorem dX11_orderOf_0 : decode cX11_orderOf 0 = .ok (.iload_n 1, 1) := by decide +kernel
theorem dX11_orderOf_1 : decode cX11_orderOf 1 = .ok (.iload_n 2, 1) := by decide +kernel
theorem dX11_orderOf_2 : decode cX11_orderOf 2 = .ok (.invokestatic 210, 3) := by decide +kernel
theorem dX11_orderOf_5 : decode cX11_orderOf 5 = .ok (.ifCond .eq 23, 3) := by decide +kernel
theorem dX11_orderOf_8 : decode cX11_orderOf 8 = .ok (.iload_n 1, 1) := by decide +kernel
theorem dX11_orderOf_9 : decode cX11_orderOf 9 = .ok (.iload_n 2, 1) := by decide +kernel
theorem dX11_orderOf_10 : decode cX11_orderOf 10 = .ok (.iadd, 1) := by decide +kernel
theorem dX11_orderOf_11 : decode cX11_orderOf 11 = .ok (.iconst 5, 1) := by decide +kernel
theorem dX11_orderOf_12 : decode cX11_orderOf 12 = .ok (.if_icmp .gt 16, 3) := by decide +kernel
theorem dX11_orderOf_15 : decode cX11_orderOf 15 = .ok (.iload_n 1, 1) := by decide +kernel
theorem dX11_orderOf_16 : decode cX11_orderOf 16 = .ok (.iload_n 2, 1) := by decide +kernel
theorem dX11_orderOf_17 : decode cX11_orderOf 17 = .ok (.iload_n 3, 1) := by decide +kernel
theorem dX11_orderOf_18 : decode cX11_orderOf 18 = .ok (.aload_n 0, 1) := by decide +kernel
theorem dX11_orderOf_19 : decode cX11_orderOf 19 = .ok (.getfield 46, 3) := by decide +kernel
theorem dX11_orderOf_22 : decode cX11_orderOf 22 = .ok (.invokestatic 214, 3) := by decide +kernel
theorem dX11_orderOf_25 : decode cX11_orderOf 25 = .ok (.ifCond .ne 6, 3) := by decide +kernel
theorem dX11_orderOf_28 : decode cX11_orderOf 28 = .ok (.bipush (-2), 2) := by decide +kernel
theorem dX11_orderOf_30 : decode cX11_orderOf 30 = .ok (.ireturn, 1) := by decide +kernel
theorem dX11_orderOf_31 : decode cX11_orderOf 31 = .ok (.iconst 0, 1) := by decide +kernel
theorem dX11_orderOf_32 : decode cX11_orderOf 32 = .ok (.istore 4, 2) := by decide +kernel
theorem dX11_orderOf_34 : decode cX11_orderOf 34 = .ok (.iconst 0, 1) := by decide +kernel
theorem dX11_orderOf_35 : decode cX11_orderOf 35 = .ok (.istore 5, 2) := by decide +kernel
theorem dX11_orderOf_37 : decode cX11_orderOf 37 = .ok (.iconst 1, 1) := by decide +kernel
theorem dX11_orderOf_38 : decode cX11_orderOf 38 = .ok (.istore 6, 2) := by decide +kernel
theorem dX11_orderOf_40 : decode cX11_orderOf 40 = .ok (.iload 6, 2) := by decide +kernel
theorem dX11_orderOf_42 : decode cX11_orderOf 42 = .ok (.iload_n 1, 1) := by decide +kernel
theorem dX11_orderOf_43 : decode cX11_orderOf 43 = .ok (.if_icmp .gt 42, 3) := by decide +kernel
theorem dX11_orderOf_46 : decode cX11_orderOf 46 = .ok (.iload 6, 2) := by decide +kernel
theorem dX11_orderOf_48 : decode cX11_orderOf 48 = .ok (.aload_n 0, 1) := by decide +kernel
theorem dX11_orderOf_49 : decode cX11_orderOf 49 = .ok (.getfield 46, 3) := by decide +kernel
theorem dX11_orderOf_52 : decode cX11_orderOf 52 = .ok (.iload_n 1, 1) := by decide +kernel
theorem dX11_orderOf_53 : decode cX11_orderOf 53 = .ok (.iload 6, 2) := by decide +kernel
theorem dX11_orderOf_55 : decode cX11_orderOf 55 = .ok (.isub, 1) := by decide +kernel
theorem dX11_orderOf_56 : decode cX11_orderOf 56 = .ok (.iaload, 1) := by decide +kernel
theorem dX11_orderOf_57 : decode cX11_orderOf 57 = .ok (.iadd, 1) := by decide +kernel
theorem dX11_orderOf_58 : decode cX11_orderOf 58 = .ok (.istore 7, 2) := by decide +kernel
theorem dX11_orderOf_60 : decode cX11_orderOf 60 = .ok (.bipush 10, 2) := by decide +kernel
theorem dX11_orderOf_62 : decode cX11_orderOf 62 = .ok (.iload 4, 2) := by decide +kernel
theorem dX11_orderOf_64 : decode cX11_orderOf 64 = .ok (.imul, 1) := by decide +kernel
theorem dX11_orderOf_65 : decode cX11_orderOf 65 = .ok (.iload 7, 2) := by decide +kernel
theorem dX11_orderOf_67 : decode cX11_orderOf 67 = .ok (.iadd, 1) := by decide +kernel
theorem dX11_orderOf_68 : decode cX11_orderOf 68 = .ok (.istore 4, 2) := by decide +kernel
theorem dX11_orderOf_70 : decode cX11_orderOf 70 = .ok (.iload 5, 2) := by decide +kernel
theorem dX11_orderOf_72 : decode cX11_orderOf 72 = .ok (.iconst 1, 1) := by decide +kernel
theorem dX11_orderOf_73 : decode cX11_orderOf 73 = .ok (.iload 7, 2) := by decide +kernel
theorem dX11_orderOf_75 : decode cX11_orderOf 75 = .ok (.ishl, 1) := by decide +kernel
theorem dX11_orderOf_76 : decode cX11_orderOf 76 = .ok (.ior, 1) := by decide +kernel
theorem dX11_orderOf_77 : decode cX11_orderOf 77 = .ok (.istore 5, 2) := by decide +kernel
theorem dX11_orderOf_79 : decode cX11_orderOf 79 = .ok (.iinc 6 1, 3) := by decide +kernel
theorem dX11_orderOf_82 : decode cX11_orderOf 82 = .ok (.goto (-42), 3) := by decide +kernel
theorem dX11_orderOf_85 : decode cX11_orderOf 85 = .ok (.iconst 1, 1) := by decide +kernel
theorem dX11_orderOf_86 : decode cX11_orderOf 86 = .ok (.istore 6, 2) := by decide +kernel
theorem dX11_orderOf_88 : decode cX11_orderOf 88 = .ok (.iload 6, 2) := by decide +kernel
theorem dX11_orderOf_90 : decode cX11_orderOf 90 = .ok (.iload_n 1, 1) := by decide +kernel
theorem dX11_orderOf_91 : decode cX11_orderOf 91 = .ok (.iload_n 2, 1) := by decide +kernel
theorem dX11_orderOf_92 : decode cX11_orderOf 92 = .ok (.iadd, 1) := by decide +kernel
theorem dX11_orderOf_93 : decode cX11_orderOf 93 = .ok (.if_icmp .gt 34, 3) := by decide +kernel
theorem dX11_orderOf_96 : decode cX11_orderOf 96 = .ok (.iload 5, 2) := by decide +kernel
theorem dX11_orderOf_98 : decode cX11_orderOf 98 = .ok (.iload 6, 2) := by decide +kernel
theorem dX11_orderOf_100 : decode cX11_orderOf 100 = .ok (.ishr, 1) := by decide +kernel
theorem dX11_orderOf_101 : decode cX11_orderOf 101 = .ok (.iconst 1, 1) := by decide +kernel
theorem dX11_orderOf_102 : decode cX11_orderOf 102 = .ok (.iand, 1) := by decide +kernel
theorem dX11_orderOf_103 : decode cX11_orderOf 103 = .ok (.ifCond .ne 14, 3) := by decide +kernel
theorem dX11_orderOf_106 : decode cX11_orderOf 106 = .ok (.bipush 10, 2) := by decide +kernel
theorem dX11_orderOf_108 : decode cX11_orderOf 108 = .ok (.iload 4, 2) := by decide +kernel
theorem dX11_orderOf_110 : decode cX11_orderOf 110 = .ok (.imul, 1) := by decide +kernel
theorem dX11_orderOf_111 : decode cX11_orderOf 111 = .ok (.iload 6, 2) := by decide +kernel
theorem dX11_orderOf_113 : decode cX11_orderOf 113 = .ok (.iadd, 1) := by decide +kernel
theorem dX11_orderOf_114 : decode cX11_orderOf 114 = .ok (.goto 5, 3) := by decide +kernel
theorem dX11_orderOf_117 : decode cX11_orderOf 117 = .ok (.iload 4, 2) := by decide +kernel
theorem dX11_orderOf_119 : decode cX11_orderOf 119 = .ok (.istore 4, 2) := by decide +kernel
theorem dX11_orderOf_121 : decode cX11_orderOf 121 = .ok (.iinc 6 1, 3) := by decide +kernel
theorem dX11_orderOf_124 : decode cX11_orderOf 124 = .ok (.goto (-36), 3) := by decide +kernel
theorem dX11_orderOf_127 : decode cX11_orderOf 127 = .ok (.iload 4, 2) := by decide +kernel
theorem dX11_orderOf_129 : decode cX11_orderOf 129 = .ok (.ireturn, 1) := by decide +kernel
theorem dX11_begin_0 : decode cX11_begin 0 = .ok (.iload_n 1, 1) := by decide +kernel
theorem dX11_begin_1 : decode cX11_begin 1 = .ok (.iload_n 2, 1) := by decide +kernel
theorem dX11_begin_2 : decode cX11_begin 2 = .ok (.invokestatic 210, 3) := by decide +kernel
theorem dX11_begin_5 : decode cX11_begin 5 = .ok (.ifCond .ne 6, 3) := by decide +kernel
theorem dX11_begin_8 : decode cX11_begin 8 = .ok (.bipush (-2), 2) := by decide +kernel
theorem dX11_begin_10 : decode cX11_begin 10 = .ok (.ireturn, 1) := by decide +kernel
theorem dX11_begin_11 : decode cX11_begin 11 = .ok (.aload_n 0, 1) := by decide +kernel
theorem dX11_begin_12 : decode cX11_begin 12 = .ok (.getfield 234, 3) := by decide +kernel
theorem dX11_begin_15 : decode cX11_begin 15 = .ok (.istore_n 3, 1) := by decide +kernel
theorem dX11_begin_16 : decode cX11_begin 16 = .ok (.aload_n 0, 1) := by decide +kernel
theorem dX11_begin_17 : decode cX11_begin 17 = .ok (.iload_n 1, 1) := by decide +kernel
theorem dX11_begin_18 : decode cX11_begin 18 = .ok (.putfield 109, 3) := by decide +kernel
theorem dX11_begin_21 : decode cX11_begin 21 = .ok (.aload_n 0, 1) := by decide +kernel
theorem dX11_begin_22 : decode cX11_begin 22 = .ok (.iload_n 2, 1) := by decide +kernel
theorem dX11_begin_23 : decode cX11_begin 23 = .ok (.putfield 113, 3) := by decide +kernel
theorem dX11_begin_26 : decode cX11_begin 26 = .ok (.aload_n 0, 1) := by decide +kernel
theorem dX11_begin_27 : decode cX11_begin 27 = .ok (.iconst 0, 1) := by decide +kernel
theorem dX11_begin_28 : decode cX11_begin 28 = .ok (.putfield 234, 3) := by decide +kernel
theorem dX11_begin_31 : decode cX11_begin 31 = .ok (.iload_n 3, 1) := by decide +kernel
theorem dX11_begin_32 : decode cX11_begin 32 = .ok (.ireturn, 1) := by decide +kernel
theorem dX11_condition_0 : decode cX11_condition 0 = .ok (.aload_n 0, 1) := by decide +kernel
theorem dX11_condition_1 : decode cX11_condition 1 = .ok (.getfield 109, 3) := by decide +kernel
theorem dX11_condition_4 : decode cX11_condition 4 = .ok (.aload_n 0, 1) := by decide +kernel
theorem dX11_condition_5 : decode cX11_condition 5 = .ok (.getfield 113, 3) := by decide +kernel
theorem dX11_condition_8 : decode cX11_condition 8 = .ok (.iload_n 1, 1) := by decide +kernel
theorem dX11_condition_9 : decode cX11_condition 9 = .ok (.aload_n 0, 1) := by decide +kernel
theorem dX11_condition_10 : decode cX11_condition 10 = .ok (.getfield 46, 3) := by decide +kernel
theorem dX11_condition_13 : decode cX11_condition 13 = .ok (.invokestatic 214, 3) := by decide +kernel
theorem dX11_condition_16 : decode cX11_condition 16 = .ok (.ifCond .ne 6, 3) := by decide +kernel
theorem dX11_condition_19 : decode cX11_condition 19 = .ok (.bipush (-2), 2) := by decide +kernel
theorem dX11_condition_21 : decode cX11_condition 21 = .ok (.ireturn, 1) := by decide +kernel
theorem dX11_condition_22 : decode cX11_condition 22 = .ok (.aload_n 0, 1) := by decide +kernel
theorem dX11_condition_23 : decode cX11_condition 23 = .ok (.getfield 234, 3) := by decide +kernel
theorem dX11_condition_26 : decode cX11_condition 26 = .ok (.bipush 16, 2) := by decide +kernel
theorem dX11_condition_28 : decode cX11_condition 28 = .ok (.if_icmp .ne 6, 3) := by decide +kernel
theorem dX11_condition_31 : decode cX11_condition 31 = .ok (.bipush (-7), 2) := by decide +kernel
theorem dX11_condition_33 : decode cX11_condition 33 = .ok (.ireturn, 1) := by decide +kernel
theorem dX11_condition_34 : decode cX11_condition 34 = .ok (.aload_n 0, 1) := by decide +kernel
theorem dX11_condition_35 : decode cX11_condition 35 = .ok (.getfield 70, 3) := by decide +kernel
theorem dX11_condition_38 : decode cX11_condition 38 = .ok (.aload_n 0, 1) := by decide +kernel
theorem dX11_condition_39 : decode cX11_condition 39 = .ok (.getfield 234, 3) := by decide +kernel
theorem dX11_condition_42 : decode cX11_condition 42 = .ok (.iload_n 1, 1) := by decide +kernel
theorem dX11_condition_43 : decode cX11_condition 43 = .ok (.iastore, 1) := by decide +kernel
theorem dX11_condition_44 : decode cX11_condition 44 = .ok (.aload_n 0, 1) := by decide +kernel
theorem dX11_condition_45 : decode cX11_condition 45 = .ok (.dup, 1) := by decide +kernel
theorem dX11_condition_46 : decode cX11_condition 46 = .ok (.getfield 234, 3) := by decide +kernel
theorem dX11_condition_49 : decode cX11_condition 49 = .ok (.iconst 1, 1) := by decide +kernel
theorem dX11_condition_50 : decode cX11_condition 50 = .ok (.iadd, 1) := by decide +kernel
theorem dX11_condition_51 : decode cX11_condition 51 = .ok (.putfield 234, 3) := by decide +kernel
theorem dX11_condition_54 : decode cX11_condition 54 = .ok (.aload_n 0, 1) := by decide +kernel
theorem dX11_condition_55 : decode cX11_condition 55 = .ok (.getfield 234, 3) := by decide +kernel
theorem dX11_condition_58 : decode cX11_condition 58 = .ok (.ireturn, 1) := by decide +kernel
theorem dX11_meeting_0 : decode cX11_meeting 0 = .ok (.aload_n 0, 1) := by decide +kernel
theorem dX11_meeting_1 : decode cX11_meeting 1 = .ok (.getfield 109, 3) := by decide +kernel
theorem dX11_meeting_4 : decode cX11_meeting 4 = .ok (.istore_n 1, 1) := by decide +kernel
theorem dX11_meeting_5 : decode cX11_meeting 5 = .ok (.iconst 0, 1) := by decide +kernel
theorem dX11_meeting_6 : decode cX11_meeting 6 = .ok (.istore_n 2, 1) := by decide +kernel
theorem dX11_meeting_7 : decode cX11_meeting 7 = .ok (.iconst 0, 1) := by decide +kernel
theorem dX11_meeting_8 : decode cX11_meeting 8 = .ok (.istore_n 3, 1) := by decide +kernel
theorem dX11_meeting_9 : decode cX11_meeting 9 = .ok (.iload_n 3, 1) := by decide +kernel
theorem dX11_meeting_10 : decode cX11_meeting 10 = .ok (.iload_n 1, 1) := by decide +kernel
theorem dX11_meeting_11 : decode cX11_meeting 11 = .ok (.invokestatic 220, 3) := by decide +kernel
theorem dX11_meeting_14 : decode cX11_meeting 14 = .ok (.if_icmp .ge 50, 3) := by decide +kernel
theorem dX11_meeting_17 : decode cX11_meeting 17 = .ok (.iload_n 1, 1) := by decide +kernel
theorem dX11_meeting_18 : decode cX11_meeting 18 = .ok (.aload_n 0, 1) := by decide +kernel
theorem dX11_meeting_19 : decode cX11_meeting 19 = .ok (.getfield 113, 3) := by decide +kernel
theorem dX11_meeting_22 : decode cX11_meeting 22 = .ok (.iload_n 3, 1) := by decide +kernel
theorem dX11_meeting_23 : decode cX11_meeting 23 = .ok (.aload_n 0, 1) := by decide +kernel
theorem dX11_meeting_24 : decode cX11_meeting 24 = .ok (.getfield 52, 3) := by decide +kernel
theorem dX11_meeting_27 : decode cX11_meeting 27 = .ok (.invokestatic 214, 3) := by decide +kernel
theorem dX11_meeting_30 : decode cX11_meeting 30 = .ok (.ifCond .eq 28, 3) := by decide +kernel
theorem dX11_meeting_33 : decode cX11_meeting 33 = .ok (.aload_n 0, 1) := by decide +kernel
theorem dX11_meeting_34 : decode cX11_meeting 34 = .ok (.getfield 73, 3) := by decide +kernel
theorem dX11_meeting_37 : decode cX11_meeting 37 = .ok (.iload_n 2, 1) := by decide +kernel
theorem dX11_meeting_38 : decode cX11_meeting 38 = .ok (.iload_n 3, 1) := by decide +kernel
theorem dX11_meeting_39 : decode cX11_meeting 39 = .ok (.iastore, 1) := by decide +kernel
theorem dX11_meeting_40 : decode cX11_meeting 40 = .ok (.aload_n 0, 1) := by decide +kernel
theorem dX11_meeting_41 : decode cX11_meeting 41 = .ok (.getfield 76, 3) := by decide +kernel
theorem dX11_meeting_44 : decode cX11_meeting 44 = .ok (.iload_n 2, 1) := by decide +kernel
theorem dX11_meeting_45 : decode cX11_meeting 45 = .ok (.iload_n 2, 1) := by decide +kernel
theorem dX11_meeting_46 : decode cX11_meeting 46 = .ok (.ifCond .ne 7, 3) := by decide +kernel
theorem dX11_meeting_49 : decode cX11_meeting 49 = .ok (.lconst 1, 1) := by decide +kernel
theorem dX11_meeting_50 : decode cX11_meeting 50 = .ok (.goto 4, 3) := by decide +kernel
theorem dX11_meeting_53 : decode cX11_meeting 53 = .ok (.lconst 0, 1) := by decide +kernel
theorem dX11_meeting_54 : decode cX11_meeting 54 = .ok (.lastore, 1) := by decide +kernel
theorem dX11_meeting_55 : decode cX11_meeting 55 = .ok (.iinc 2 1, 3) := by decide +kernel
theorem dX11_meeting_58 : decode cX11_meeting 58 = .ok (.iinc 3 1, 3) := by decide +kernel
theorem dX11_meeting_61 : decode cX11_meeting 61 = .ok (.goto (-52), 3) := by decide +kernel
theorem dX11_meeting_64 : decode cX11_meeting 64 = .ok (.iconst 0, 1) := by decide +kernel
theorem dX11_meeting_65 : decode cX11_meeting 65 = .ok (.istore_n 3, 1) := by decide +kernel
theorem dX11_meeting_66 : decode cX11_meeting 66 = .ok (.iload_n 3, 1) := by decide +kernel
theorem dX11_meeting_67 : decode cX11_meeting 67 = .ok (.aload_n 0, 1) := by decide +kernel
theorem dX11_meeting_68 : decode cX11_meeting 68 = .ok (.getfield 234, 3) := by decide +kernel
theorem dX11_meeting_71 : decode cX11_meeting 71 = .ok (.if_icmp .ge 176, 3) := by decide +kernel
theorem dX11_meeting_74 : decode cX11_meeting 74 = .ok (.iload_n 1, 1) := by decide +kernel
theorem dX11_meeting_75 : decode cX11_meeting 75 = .ok (.aload_n 0, 1) := by decide +kernel
theorem dX11_meeting_76 : decode cX11_meeting 76 = .ok (.getfield 113, 3) := by decide +kernel
theorem dX11_meeting_79 : decode cX11_meeting 79 = .ok (.aload_n 0, 1) := by decide +kernel
theorem dX11_meeting_80 : decode cX11_meeting 80 = .ok (.getfield 70, 3) := by decide +kernel
theorem dX11_meeting_83 : decode cX11_meeting 83 = .ok (.iload_n 3, 1) := by decide +kernel
theorem dX11_meeting_84 : decode cX11_meeting 84 = .ok (.iaload, 1) := by decide +kernel
theorem dX11_meeting_85 : decode cX11_meeting 85 = .ok (.aload_n 0, 1) := by decide +kernel
theorem dX11_meeting_86 : decode cX11_meeting 86 = .ok (.getfield 49, 3) := by decide +kernel
theorem dX11_meeting_89 : decode cX11_meeting 89 = .ok (.invokestatic 214, 3) := by decide +kernel
theorem dX11_meeting_92 : decode cX11_meeting 92 = .ok (.istore 4, 2) := by decide +kernel
theorem dX11_meeting_94 : decode cX11_meeting 94 = .ok (.iconst 0, 1) := by decide +kernel
theorem dX11_meeting_95 : decode cX11_meeting 95 = .ok (.istore 5, 2) := by decide +kernel
theorem dX11_meeting_97 : decode cX11_meeting 97 = .ok (.iload 5, 2) := by decide +kernel
theorem dX11_meeting_99 : decode cX11_meeting 99 = .ok (.iload_n 2, 1) := by decide +kernel
theorem dX11_meeting_100 : decode cX11_meeting 100 = .ok (.if_icmp .ge 112, 3) := by decide +kernel
theorem dX11_meeting_103 : decode cX11_meeting 103 = .ok (.iload_n 1, 1) := by decide +kernel
theorem dX11_meeting_104 : decode cX11_meeting 104 = .ok (.aload_n 0, 1) := by decide +kernel
theorem dX11_meeting_105 : decode cX11_meeting 105 = .ok (.getfield 113, 3) := by decide +kernel
theorem dX11_meeting_108 : decode cX11_meeting 108 = .ok (.aload_n 0, 1) := by decide +kernel
theorem dX11_meeting_109 : decode cX11_meeting 109 = .ok (.getfield 73, 3) := by decide +kernel
theorem dX11_meeting_112 : decode cX11_meeting 112 = .ok (.iload 5, 2) := by decide +kernel
theorem dX11_meeting_114 : decode cX11_meeting 114 = .ok (.iaload, 1) := by decide +kernel
theorem dX11_meeting_115 : decode cX11_meeting 115 = .ok (.aload_n 0, 1) := by decide +kernel
theorem dX11_meeting_116 : decode cX11_meeting 116 = .ok (.getfield 52, 3) := by decide +kernel
theorem dX11_meeting_119 : decode cX11_meeting 119 = .ok (.invokestatic 214, 3) := by decide +kernel
theorem dX11_meeting_122 : decode cX11_meeting 122 = .ok (.istore 4, 2) := by decide +kernel
theorem dX11_meeting_124 : decode cX11_meeting 124 = .ok (.aload_n 0, 1) := by decide +kernel
theorem dX11_meeting_125 : decode cX11_meeting 125 = .ok (.getfield 79, 3) := by decide +kernel
theorem dX11_meeting_128 : decode cX11_meeting 128 = .ok (.iload 5, 2) := by decide +kernel
theorem dX11_meeting_130 : decode cX11_meeting 130 = .ok (.lconst 0, 1) := by decide +kernel
theorem dX11_meeting_131 : decode cX11_meeting 131 = .ok (.lastore, 1) := by decide +kernel
theorem dX11_meeting_132 : decode cX11_meeting 132 = .ok (.iconst 0, 1) := by decide +kernel
theorem dX11_meeting_133 : decode cX11_meeting 133 = .ok (.istore 6, 2) := by decide +kernel
theorem dX11_meeting_135 : decode cX11_meeting 135 = .ok (.iload 6, 2) := by decide +kernel
theorem dX11_meeting_137 : decode cX11_meeting 137 = .ok (.iload 5, 2) := by decide +kernel
theorem dX11_meeting_139 : decode cX11_meeting 139 = .ok (.if_icmp .gt 67, 3) := by decide +kernel
theorem dX11_meeting_142 : decode cX11_meeting 142 = .ok (.aload_n 0, 1) := by decide +kernel
theorem dX11_meeting_143 : decode cX11_meeting 143 = .ok (.getfield 76, 3) := by decide +kernel
theorem dX11_meeting_146 : decode cX11_meeting 146 = .ok (.iload 6, 2) := by decide +kernel
theorem dX11_meeting_148 : decode cX11_meeting 148 = .ok (.laload, 1) := by decide +kernel
theorem dX11_meeting_149 : decode cX11_meeting 149 = .ok (.lconst 0, 1) := by decide +kernel
theorem dX11_meeting_150 : decode cX11_meeting 150 = .ok (.lcmp, 1) := by decide +kernel
theorem dX11_meeting_151 : decode cX11_meeting 151 = .ok (.ifCond .eq 49, 3) := by decide +kernel
theorem dX11_meeting_154 : decode cX11_meeting 154 = .ok (.iload_n 1, 1) := by decide +kernel
theorem dX11_meeting_155 : decode cX11_meeting 155 = .ok (.aload_n 0, 1) := by decide +kernel
theorem dX11_meeting_156 : decode cX11_meeting 156 = .ok (.getfield 113, 3) := by decide +kernel
theorem dX11_meeting_159 : decode cX11_meeting 159 = .ok (.aload_n 0, 1) := by decide +kernel
theorem dX11_meeting_160 : decode cX11_meeting 160 = .ok (.getfield 73, 3) := by decide +kernel
theorem dX11_meeting_163 : decode cX11_meeting 163 = .ok (.iload 6, 2) := by decide +kernel
theorem dX11_meeting_165 : decode cX11_meeting 165 = .ok (.iaload, 1) := by decide +kernel
theorem dX11_meeting_166 : decode cX11_meeting 166 = .ok (.aload_n 0, 1) := by decide +kernel
theorem dX11_meeting_167 : decode cX11_meeting 167 = .ok (.getfield 46, 3) := by decide +kernel
theorem dX11_meeting_170 : decode cX11_meeting 170 = .ok (.invokestatic 214, 3) := by decide +kernel
theorem dX11_meeting_173 : decode cX11_meeting 173 = .ok (.ifCond .eq 27, 3) := by decide +kernel
theorem dX11_meeting_176 : decode cX11_meeting 176 = .ok (.aload_n 0, 1) := by decide +kernel
theorem dX11_meeting_177 : decode cX11_meeting 177 = .ok (.getfield 79, 3) := by decide +kernel
theorem dX11_meeting_180 : decode cX11_meeting 180 = .ok (.iload 5, 2) := by decide +kernel
theorem dX11_meeting_182 : decode cX11_meeting 182 = .ok (.dup2, 1) := by decide +kernel
theorem dX11_meeting_183 : decode cX11_meeting 183 = .ok (.laload, 1) := by decide +kernel
theorem dX11_meeting_184 : decode cX11_meeting 184 = .ok (.aload_n 0, 1) := by decide +kernel
theorem dX11_meeting_185 : decode cX11_meeting 185 = .ok (.getfield 76, 3) := by decide +kernel
theorem dX11_meeting_188 : decode cX11_meeting 188 = .ok (.iload 6, 2) := by decide +kernel
theorem dX11_meeting_190 : decode cX11_meeting 190 = .ok (.laload, 1) := by decide +kernel
theorem dX11_meeting_191 : decode cX11_meeting 191 = .ok (.aload_n 0, 1) := by decide +kernel
theorem dX11_meeting_192 : decode cX11_meeting 192 = .ok (.iload_n 1, 1) := by decide +kernel
theorem dX11_meeting_193 : decode cX11_meeting 193 = .ok (.invokevirtual 231, 3) := by decide +kernel
theorem dX11_meeting_196 : decode cX11_meeting 196 = .ok (.i2l, 1) := by decide +kernel
theorem dX11_meeting_197 : decode cX11_meeting 197 = .ok (.lmul, 1) := by decide +kernel
theorem dX11_meeting_198 : decode cX11_meeting 198 = .ok (.ladd, 1) := by decide +kernel
theorem dX11_meeting_199 : decode cX11_meeting 199 = .ok (.lastore, 1) := by decide +kernel
theorem dX11_meeting_200 : decode cX11_meeting 200 = .ok (.iinc 6 1, 3) := by decide +kernel
theorem dX11_meeting_203 : decode cX11_meeting 203 = .ok (.goto (-68), 3) := by decide +kernel
theorem dX11_meeting_206 : decode cX11_meeting 206 = .ok (.iinc 5 1, 3) := by decide +kernel
theorem dX11_meeting_209 : decode cX11_meeting 209 = .ok (.goto (-112), 3) := by decide +kernel
theorem dX11_meeting_212 : decode cX11_meeting 212 = .ok (.iconst 0, 1) := by decide +kernel
theorem dX11_meeting_213 : decode cX11_meeting 213 = .ok (.istore 5, 2) := by decide +kernel
theorem dX11_meeting_215 : decode cX11_meeting 215 = .ok (.iload 5, 2) := by decide +kernel
theorem dX11_meeting_217 : decode cX11_meeting 217 = .ok (.iload_n 2, 1) := by decide +kernel
theorem dX11_meeting_218 : decode cX11_meeting 218 = .ok (.if_icmp .ge 23, 3) := by decide +kernel
theorem dX11_meeting_221 : decode cX11_meeting 221 = .ok (.aload_n 0, 1) := by decide +kernel
theorem dX11_meeting_222 : decode cX11_meeting 222 = .ok (.getfield 76, 3) := by decide +kernel
theorem dX11_meeting_225 : decode cX11_meeting 225 = .ok (.iload 5, 2) := by decide +kernel
theorem dX11_meeting_227 : decode cX11_meeting 227 = .ok (.aload_n 0, 1) := by decide +kernel
theorem dX11_meeting_228 : decode cX11_meeting 228 = .ok (.getfield 79, 3) := by decide +kernel
theorem dX11_meeting_231 : decode cX11_meeting 231 = .ok (.iload 5, 2) := by decide +kernel
theorem dX11_meeting_233 : decode cX11_meeting 233 = .ok (.laload, 1) := by decide +kernel
theorem dX11_meeting_234 : decode cX11_meeting 234 = .ok (.lastore, 1) := by decide +kernel
theorem dX11_meeting_235 : decode cX11_meeting 235 = .ok (.iinc 5 1, 3) := by decide +kernel
theorem dX11_meeting_238 : decode cX11_meeting 238 = .ok (.goto (-23), 3) := by decide +kernel
theorem dX11_meeting_241 : decode cX11_meeting 241 = .ok (.iinc 3 1, 3) := by decide +kernel
theorem dX11_meeting_244 : decode cX11_meeting 244 = .ok (.goto (-178), 3) := by decide +kernel
theorem dX11_meeting_247 : decode cX11_meeting 247 = .ok (.aload_n 0, 1) := by decide +kernel
theorem dX11_meeting_248 : decode cX11_meeting 248 = .ok (.getfield 76, 3) := by decide +kernel
theorem dX11_meeting_251 : decode cX11_meeting 251 = .ok (.iload_n 2, 1) := by decide +kernel
theorem dX11_meeting_252 : decode cX11_meeting 252 = .ok (.iconst 1, 1) := by decide +kernel
theorem dX11_meeting_253 : decode cX11_meeting 253 = .ok (.isub, 1) := by decide +kernel
theorem dX11_meeting_254 : decode cX11_meeting 254 = .ok (.laload, 1) := by decide +kernel
theorem dX11_meeting_255 : decode cX11_meeting 255 = .ok (.lreturn, 1) := by decide +kernel
theorem dX11_lookAtPoints_0 : decode cX11_lookAtPoints 0 = .ok (.aload_n 0, 1) := by decide +kernel
theorem dX11_lookAtPoints_1 : decode cX11_lookAtPoints 1 = .ok (.getfield 116, 3) := by decide +kernel
theorem dX11_lookAtPoints_4 : decode cX11_lookAtPoints 4 = .ok (.aload_n 0, 1) := by decide +kernel
theorem dX11_lookAtPoints_5 : decode cX11_lookAtPoints 5 = .ok (.getfield 116, 3) := by decide +kernel
theorem dX11_lookAtPoints_8 : decode cX11_lookAtPoints 8 = .ok (.imul, 1) := by decide +kernel
theorem dX11_lookAtPoints_9 : decode cX11_lookAtPoints 9 = .ok (.aload_n 0, 1) := by decide +kernel
theorem dX11_lookAtPoints_10 : decode cX11_lookAtPoints 10 = .ok (.getfield 116, 3) := by decide +kernel
theorem dX11_lookAtPoints_13 : decode cX11_lookAtPoints 13 = .ok (.imul, 1) := by decide +kernel
theorem dX11_lookAtPoints_14 : decode cX11_lookAtPoints 14 = .ok (.aload_n 0, 1) := by decide +kernel
theorem dX11_lookAtPoints_15 : decode cX11_lookAtPoints 15 = .ok (.getfield 116, 3) := by decide +kernel
theorem dX11_lookAtPoints_18 : decode cX11_lookAtPoints 18 = .ok (.imul, 1) := by decide +kernel
theorem dX11_lookAtPoints_19 : decode cX11_lookAtPoints 19 = .ok (.istore_n 1, 1) := by decide +kernel
theorem dX11_lookAtPoints_20 : decode cX11_lookAtPoints 20 = .ok (.iconst 0, 1) := by decide +kernel
theorem dX11_lookAtPoints_21 : decode cX11_lookAtPoints 21 = .ok (.istore_n 2, 1) := by decide +kernel
theorem dX11_lookAtPoints_22 : decode cX11_lookAtPoints 22 = .ok (.iload_n 2, 1) := by decide +kernel
theorem dX11_lookAtPoints_23 : decode cX11_lookAtPoints 23 = .ok (.iload_n 1, 1) := by decide +kernel
theorem dX11_lookAtPoints_24 : decode cX11_lookAtPoints 24 = .ok (.if_icmp .ge 56, 3) := by decide +kernel
theorem dX11_lookAtPoints_27 : decode cX11_lookAtPoints 27 = .ok (.iload_n 2, 1) := by decide +kernel
theorem dX11_lookAtPoints_28 : decode cX11_lookAtPoints 28 = .ok (.istore_n 3, 1) := by decide +kernel
theorem dX11_lookAtPoints_29 : decode cX11_lookAtPoints 29 = .ok (.iconst 3, 1) := by decide +kernel
theorem dX11_lookAtPoints_30 : decode cX11_lookAtPoints 30 = .ok (.istore 4, 2) := by decide +kernel
theorem dX11_lookAtPoints_32 : decode cX11_lookAtPoints 32 = .ok (.iload 4, 2) := by decide +kernel
theorem dX11_lookAtPoints_34 : decode cX11_lookAtPoints 34 = .ok (.ifCond .lt 33, 3) := by decide +kernel
theorem dX11_lookAtPoints_37 : decode cX11_lookAtPoints 37 = .ok (.aload_n 0, 1) := by decide +kernel
theorem dX11_lookAtPoints_38 : decode cX11_lookAtPoints 38 = .ok (.getfield 97, 3) := by decide +kernel
theorem dX11_lookAtPoints_41 : decode cX11_lookAtPoints 41 = .ok (.iconst 4, 1) := by decide +kernel
theorem dX11_lookAtPoints_42 : decode cX11_lookAtPoints 42 = .ok (.iload_n 2, 1) := by decide +kernel
theorem dX11_lookAtPoints_43 : decode cX11_lookAtPoints 43 = .ok (.imul, 1) := by decide +kernel
theorem dX11_lookAtPoints_44 : decode cX11_lookAtPoints 44 = .ok (.iload 4, 2) := by decide +kernel
theorem dX11_lookAtPoints_46 : decode cX11_lookAtPoints 46 = .ok (.iadd, 1) := by decide +kernel
theorem dX11_lookAtPoints_47 : decode cX11_lookAtPoints 47 = .ok (.iload_n 3, 1) := by decide +kernel
theorem dX11_lookAtPoints_48 : decode cX11_lookAtPoints 48 = .ok (.aload_n 0, 1) := by decide +kernel
theorem dX11_lookAtPoints_49 : decode cX11_lookAtPoints 49 = .ok (.getfield 116, 3) := by decide +kernel
theorem dX11_lookAtPoints_52 : decode cX11_lookAtPoints 52 = .ok (.irem, 1) := by decide +kernel
theorem dX11_lookAtPoints_53 : decode cX11_lookAtPoints 53 = .ok (.iastore, 1) := by decide +kernel
theorem dX11_lookAtPoints_54 : decode cX11_lookAtPoints 54 = .ok (.iload_n 3, 1) := by decide +kernel
theorem dX11_lookAtPoints_55 : decode cX11_lookAtPoints 55 = .ok (.aload_n 0, 1) := by decide +kernel
theorem dX11_lookAtPoints_56 : decode cX11_lookAtPoints 56 = .ok (.getfield 116, 3) := by decide +kernel
theorem dX11_lookAtPoints_59 : decode cX11_lookAtPoints 59 = .ok (.idiv, 1) := by decide +kernel
theorem dX11_lookAtPoints_60 : decode cX11_lookAtPoints 60 = .ok (.istore_n 3, 1) := by decide +kernel
theorem dX11_lookAtPoints_61 : decode cX11_lookAtPoints 61 = .ok (.iinc 4 (-1), 3) := by decide +kernel
theorem dX11_lookAtPoints_64 : decode cX11_lookAtPoints 64 = .ok (.goto (-32), 3) := by decide +kernel
theorem dX11_lookAtPoints_67 : decode cX11_lookAtPoints 67 = .ok (.aload_n 0, 1) := by decide +kernel
theorem dX11_lookAtPoints_68 : decode cX11_lookAtPoints 68 = .ok (.getfield 100, 3) := by decide +kernel
theorem dX11_lookAtPoints_71 : decode cX11_lookAtPoints 71 = .ok (.iload_n 2, 1) := by decide +kernel
theorem dX11_lookAtPoints_72 : decode cX11_lookAtPoints 72 = .ok (.iload_n 2, 1) := by decide +kernel
theorem dX11_lookAtPoints_73 : decode cX11_lookAtPoints 73 = .ok (.iastore, 1) := by decide +kernel
theorem dX11_lookAtPoints_74 : decode cX11_lookAtPoints 74 = .ok (.iinc 2 1, 3) := by decide +kernel
theorem dX11_lookAtPoints_77 : decode cX11_lookAtPoints 77 = .ok (.goto (-55), 3) := by decide +kernel
theorem dX11_lookAtPoints_80 : decode cX11_lookAtPoints 80 = .ok (.iconst 1, 1) := by decide +kernel
theorem dX11_lookAtPoints_81 : decode cX11_lookAtPoints 81 = .ok (.istore_n 2, 1) := by decide +kernel
theorem dX11_lookAtPoints_82 : decode cX11_lookAtPoints 82 = .ok (.iload_n 2, 1) := by decide +kernel
theorem dX11_lookAtPoints_83 : decode cX11_lookAtPoints 83 = .ok (.iload_n 1, 1) := by decide +kernel
theorem dX11_lookAtPoints_84 : decode cX11_lookAtPoints 84 = .ok (.if_icmp .ge 94, 3) := by decide +kernel
theorem dX11_lookAtPoints_87 : decode cX11_lookAtPoints 87 = .ok (.iconst 0, 1) := by decide +kernel
theorem dX11_lookAtPoints_88 : decode cX11_lookAtPoints 88 = .ok (.istore_n 3, 1) := by decide +kernel
theorem dX11_lookAtPoints_89 : decode cX11_lookAtPoints 89 = .ok (.aload_n 0, 1) := by decide +kernel
theorem dX11_lookAtPoints_90 : decode cX11_lookAtPoints 90 = .ok (.getfield 97, 3) := by decide +kernel
theorem dX11_lookAtPoints_93 : decode cX11_lookAtPoints 93 = .ok (.iconst 4, 1) := by decide +kernel
theorem dX11_lookAtPoints_94 : decode cX11_lookAtPoints 94 = .ok (.iload_n 2, 1) := by decide +kernel
theorem dX11_lookAtPoints_95 : decode cX11_lookAtPoints 95 = .ok (.imul, 1) := by decide +kernel
theorem dX11_lookAtPoints_96 : decode cX11_lookAtPoints 96 = .ok (.iload_n 3, 1) := by decide +kernel
theorem dX11_lookAtPoints_97 : decode cX11_lookAtPoints 97 = .ok (.iadd, 1) := by decide +kernel
theorem dX11_lookAtPoints_98 : decode cX11_lookAtPoints 98 = .ok (.iaload, 1) := by decide +kernel
theorem dX11_lookAtPoints_99 : decode cX11_lookAtPoints 99 = .ok (.ifCond .ne 9, 3) := by decide +kernel
theorem dX11_lookAtPoints_102 : decode cX11_lookAtPoints 102 = .ok (.iinc 3 1, 3) := by decide +kernel
theorem dX11_lookAtPoints_105 : decode cX11_lookAtPoints 105 = .ok (.goto (-16), 3) := by decide +kernel
theorem dX11_lookAtPoints_108 : decode cX11_lookAtPoints 108 = .ok (.iconst 1, 1) := by decide +kernel
theorem dX11_lookAtPoints_109 : decode cX11_lookAtPoints 109 = .ok (.istore 4, 2) := by decide +kernel
theorem dX11_lookAtPoints_111 : decode cX11_lookAtPoints 111 = .ok (.iload 4, 2) := by decide +kernel
theorem dX11_lookAtPoints_113 : decode cX11_lookAtPoints 113 = .ok (.aload_n 0, 1) := by decide +kernel
theorem dX11_lookAtPoints_114 : decode cX11_lookAtPoints 114 = .ok (.getfield 116, 3) := by decide +kernel
theorem dX11_lookAtPoints_117 : decode cX11_lookAtPoints 117 = .ok (.if_icmp .ge 55, 3) := by decide +kernel
theorem dX11_lookAtPoints_120 : decode cX11_lookAtPoints 120 = .ok (.aload_n 0, 1) := by decide +kernel
theorem dX11_lookAtPoints_121 : decode cX11_lookAtPoints 121 = .ok (.getfield 100, 3) := by decide +kernel
theorem dX11_lookAtPoints_124 : decode cX11_lookAtPoints 124 = .ok (.iload_n 2, 1) := by decide +kernel
theorem dX11_lookAtPoints_125 : decode cX11_lookAtPoints 125 = .ok (.iload 4, 2) := by decide +kernel
theorem dX11_lookAtPoints_127 : decode cX11_lookAtPoints 127 = .ok (.aload_n 0, 1) := by decide +kernel
theorem dX11_lookAtPoints_128 : decode cX11_lookAtPoints 128 = .ok (.getfield 97, 3) := by decide +kernel
theorem dX11_lookAtPoints_131 : decode cX11_lookAtPoints 131 = .ok (.iconst 4, 1) := by decide +kernel
theorem dX11_lookAtPoints_132 : decode cX11_lookAtPoints 132 = .ok (.iload_n 2, 1) := by decide +kernel
theorem dX11_lookAtPoints_133 : decode cX11_lookAtPoints 133 = .ok (.imul, 1) := by decide +kernel
theorem dX11_lookAtPoints_134 : decode cX11_lookAtPoints 134 = .ok (.iload_n 3, 1) := by decide +kernel
theorem dX11_lookAtPoints_135 : decode cX11_lookAtPoints 135 = .ok (.iadd, 1) := by decide +kernel
theorem dX11_lookAtPoints_136 : decode cX11_lookAtPoints 136 = .ok (.iaload, 1) := by decide +kernel
theorem dX11_lookAtPoints_137 : decode cX11_lookAtPoints 137 = .ok (.imul, 1) := by decide +kernel
theorem dX11_lookAtPoints_138 : decode cX11_lookAtPoints 138 = .ok (.aload_n 0, 1) := by decide +kernel
theorem dX11_lookAtPoints_139 : decode cX11_lookAtPoints 139 = .ok (.getfield 116, 3) := by decide +kernel
theorem dX11_lookAtPoints_142 : decode cX11_lookAtPoints 142 = .ok (.irem, 1) := by decide +kernel
theorem dX11_lookAtPoints_143 : decode cX11_lookAtPoints 143 = .ok (.iconst 1, 1) := by decide +kernel
theorem dX11_lookAtPoints_144 : decode cX11_lookAtPoints 144 = .ok (.if_icmp .ne 15, 3) := by decide +kernel
theorem dX11_lookAtPoints_147 : decode cX11_lookAtPoints 147 = .ok (.aload_n 0, 1) := by decide +kernel
theorem dX11_lookAtPoints_148 : decode cX11_lookAtPoints 148 = .ok (.iload_n 2, 1) := by decide +kernel
theorem dX11_lookAtPoints_149 : decode cX11_lookAtPoints 149 = .ok (.iload 4, 2) := by decide +kernel
theorem dX11_lookAtPoints_151 : decode cX11_lookAtPoints 151 = .ok (.iconst 0, 1) := by decide +kernel
theorem dX11_lookAtPoints_152 : decode cX11_lookAtPoints 152 = .ok (.iconst 0, 1) := by decide +kernel
theorem dX11_lookAtPoints_153 : decode cX11_lookAtPoints 153 = .ok (.invokevirtual 237, 3) := by decide +kernel
theorem dX11_lookAtPoints_156 : decode cX11_lookAtPoints 156 = .ok (.goto 9, 3) := by decide +kernel
theorem dX11_lookAtPoints_159 : decode cX11_lookAtPoints 159 = .ok (.aload_n 0, 1) := by decide +kernel
theorem dX11_lookAtPoints_160 : decode cX11_lookAtPoints 160 = .ok (.getfield 100, 3) := by decide +kernel
theorem dX11_lookAtPoints_163 : decode cX11_lookAtPoints 163 = .ok (.iload_n 2, 1) := by decide +kernel
theorem dX11_lookAtPoints_164 : decode cX11_lookAtPoints 164 = .ok (.iaload, 1) := by decide +kernel
theorem dX11_lookAtPoints_165 : decode cX11_lookAtPoints 165 = .ok (.iastore, 1) := by decide +kernel
theorem dX11_lookAtPoints_166 : decode cX11_lookAtPoints 166 = .ok (.iinc 4 1, 3) := by decide +kernel
theorem dX11_lookAtPoints_169 : decode cX11_lookAtPoints 169 = .ok (.goto (-58), 3) := by decide +kernel
theorem dX11_lookAtPoints_172 : decode cX11_lookAtPoints 172 = .ok (.iinc 2 1, 3) := by decide +kernel
theorem dX11_lookAtPoints_175 : decode cX11_lookAtPoints 175 = .ok (.goto (-93), 3) := by decide +kernel
theorem dX11_lookAtPoints_178 : decode cX11_lookAtPoints 178 = .ok (.return_, 1) := by decide +kernel
theorem dX11_pointOf_0 : decode cX11_pointOf 0 = .ok (.iload_n 1, 1) := by decide +kernel
theorem dX11_pointOf_1 : decode cX11_pointOf 1 = .ok (.i2l, 1) := by decide +kernel
theorem dX11_pointOf_2 : decode cX11_pointOf 2 = .ok (.lconst 1, 1) := by decide +kernel
theorem dX11_pointOf_3 : decode cX11_pointOf 3 = .ok (.ldc2_w 241, 3) := by decide +kernel
theorem dX11_pointOf_6 : decode cX11_pointOf 6 = .ok (.invokestatic 126, 3) := by decide +kernel
theorem dX11_pointOf_9 : decode cX11_pointOf 9 = .ok (.ifCond .ne 5, 3) := by decide +kernel
theorem dX11_pointOf_12 : decode cX11_pointOf 12 = .ok (.iconst (-1), 1) := by decide +kernel
theorem dX11_pointOf_13 : decode cX11_pointOf 13 = .ok (.ireturn, 1) := by decide +kernel
theorem dX11_pointOf_14 : decode cX11_pointOf 14 = .ok (.iconst 0, 1) := by decide +kernel
theorem dX11_pointOf_15 : decode cX11_pointOf 15 = .ok (.istore_n 2, 1) := by decide +kernel
theorem dX11_pointOf_16 : decode cX11_pointOf 16 = .ok (.sipush 1000, 3) := by decide +kernel
theorem dX11_pointOf_19 : decode cX11_pointOf 19 = .ok (.istore_n 3, 1) := by decide +kernel
theorem dX11_pointOf_20 : decode cX11_pointOf 20 = .ok (.iload_n 3, 1) := by decide +kernel
theorem dX11_pointOf_21 : decode cX11_pointOf 21 = .ok (.ifCond .le 40, 3) := by decide +kernel
theorem dX11_pointOf_24 : decode cX11_pointOf 24 = .ok (.iload_n 1, 1) := by decide +kernel
theorem dX11_pointOf_25 : decode cX11_pointOf 25 = .ok (.iload_n 3, 1) := by decide +kernel
theorem dX11_pointOf_26 : decode cX11_pointOf 26 = .ok (.idiv, 1) := by decide +kernel
theorem dX11_pointOf_27 : decode cX11_pointOf 27 = .ok (.bipush 10, 2) := by decide +kernel
theorem dX11_pointOf_29 : decode cX11_pointOf 29 = .ok (.irem, 1) := by decide +kernel
theorem dX11_pointOf_30 : decode cX11_pointOf 30 = .ok (.istore 4, 2) := by decide +kernel
theorem dX11_pointOf_32 : decode cX11_pointOf 32 = .ok (.iload 4, 2) := by decide +kernel
theorem dX11_pointOf_34 : decode cX11_pointOf 34 = .ok (.aload_n 0, 1) := by decide +kernel
theorem dX11_pointOf_35 : decode cX11_pointOf 35 = .ok (.getfield 116, 3) := by decide +kernel
theorem dX11_pointOf_38 : decode cX11_pointOf 38 = .ok (.if_icmp .lt 5, 3) := by decide +kernel
theorem dX11_pointOf_41 : decode cX11_pointOf 41 = .ok (.iconst (-1), 1) := by decide +kernel
theorem dX11_pointOf_42 : decode cX11_pointOf 42 = .ok (.ireturn, 1) := by decide +kernel
theorem dX11_pointOf_43 : decode cX11_pointOf 43 = .ok (.aload_n 0, 1) := by decide +kernel
theorem dX11_pointOf_44 : decode cX11_pointOf 44 = .ok (.getfield 116, 3) := by decide +kernel
theorem dX11_pointOf_47 : decode cX11_pointOf 47 = .ok (.iload_n 2, 1) := by decide +kernel
theorem dX11_pointOf_48 : decode cX11_pointOf 48 = .ok (.imul, 1) := by decide +kernel
theorem dX11_pointOf_49 : decode cX11_pointOf 49 = .ok (.iload 4, 2) := by decide +kernel
theorem dX11_pointOf_51 : decode cX11_pointOf 51 = .ok (.iadd, 1) := by decide +kernel
theorem dX11_pointOf_52 : decode cX11_pointOf 52 = .ok (.istore_n 2, 1) := by decide +kernel
theorem dX11_pointOf_53 : decode cX11_pointOf 53 = .ok (.iload_n 3, 1) := by decide +kernel
theorem dX11_pointOf_54 : decode cX11_pointOf 54 = .ok (.bipush 10, 2) := by decide +kernel
theorem dX11_pointOf_56 : decode cX11_pointOf 56 = .ok (.idiv, 1) := by decide +kernel
theorem dX11_pointOf_57 : decode cX11_pointOf 57 = .ok (.istore_n 3, 1) := by decide +kernel
theorem dX11_pointOf_58 : decode cX11_pointOf 58 = .ok (.goto (-38), 3) := by decide +kernel
theorem dX11_pointOf_61 : decode cX11_pointOf 61 = .ok (.iload_n 2, 1) := by decide +kernel
theorem dX11_pointOf_62 : decode cX11_pointOf 62 = .ok (.ireturn, 1) := by decide +kernel
theorem dX11_mixed_0 : decode cX11_mixed 0 = .ok (.iconst 0, 1) := by decide +kernel
theorem dX11_mixed_1 : decode cX11_mixed 1 = .ok (.istore 5, 2) := by decide +kernel
theorem dX11_mixed_3 : decode cX11_mixed 3 = .ok (.iconst 0, 1) := by decide +kernel
theorem dX11_mixed_4 : decode cX11_mixed 4 = .ok (.istore 6, 2) := by decide +kernel
theorem dX11_mixed_6 : decode cX11_mixed 6 = .ok (.iload 6, 2) := by decide +kernel
theorem dX11_mixed_8 : decode cX11_mixed 8 = .ok (.iconst 4, 1) := by decide +kernel
theorem dX11_mixed_9 : decode cX11_mixed 9 = .ok (.if_icmp .ge 52, 3) := by decide +kernel
theorem dX11_mixed_12 : decode cX11_mixed 12 = .ok (.aload_n 0, 1) := by decide +kernel
theorem dX11_mixed_13 : decode cX11_mixed 13 = .ok (.getfield 116, 3) := by decide +kernel
theorem dX11_mixed_16 : decode cX11_mixed 16 = .ok (.iload 5, 2) := by decide +kernel
theorem dX11_mixed_18 : decode cX11_mixed 18 = .ok (.imul, 1) := by decide +kernel
theorem dX11_mixed_19 : decode cX11_mixed 19 = .ok (.iload_n 2, 1) := by decide +kernel
theorem dX11_mixed_20 : decode cX11_mixed 20 = .ok (.aload_n 0, 1) := by decide +kernel
theorem dX11_mixed_21 : decode cX11_mixed 21 = .ok (.getfield 97, 3) := by decide +kernel
theorem dX11_mixed_24 : decode cX11_mixed 24 = .ok (.iconst 4, 1) := by decide +kernel
theorem dX11_mixed_25 : decode cX11_mixed 25 = .ok (.iload_n 1, 1) := by decide +kernel
theorem dX11_mixed_26 : decode cX11_mixed 26 = .ok (.imul, 1) := by decide +kernel
theorem dX11_mixed_27 : decode cX11_mixed 27 = .ok (.iload 6, 2) := by decide +kernel
theorem dX11_mixed_29 : decode cX11_mixed 29 = .ok (.iadd, 1) := by decide +kernel
theorem dX11_mixed_30 : decode cX11_mixed 30 = .ok (.iaload, 1) := by decide +kernel
theorem dX11_mixed_31 : decode cX11_mixed 31 = .ok (.imul, 1) := by decide +kernel
theorem dX11_mixed_32 : decode cX11_mixed 32 = .ok (.iload 4, 2) := by decide +kernel
theorem dX11_mixed_34 : decode cX11_mixed 34 = .ok (.aload_n 0, 1) := by decide +kernel
theorem dX11_mixed_35 : decode cX11_mixed 35 = .ok (.getfield 97, 3) := by decide +kernel
theorem dX11_mixed_38 : decode cX11_mixed 38 = .ok (.iconst 4, 1) := by decide +kernel
theorem dX11_mixed_39 : decode cX11_mixed 39 = .ok (.iload_n 3, 1) := by decide +kernel
theorem dX11_mixed_40 : decode cX11_mixed 40 = .ok (.imul, 1) := by decide +kernel
theorem dX11_mixed_41 : decode cX11_mixed 41 = .ok (.iload 6, 2) := by decide +kernel
theorem dX11_mixed_43 : decode cX11_mixed 43 = .ok (.iadd, 1) := by decide +kernel
theorem dX11_mixed_44 : decode cX11_mixed 44 = .ok (.iaload, 1) := by decide +kernel
theorem dX11_mixed_45 : decode cX11_mixed 45 = .ok (.imul, 1) := by decide +kernel
theorem dX11_mixed_46 : decode cX11_mixed 46 = .ok (.iadd, 1) := by decide +kernel
theorem dX11_mixed_47 : decode cX11_mixed 47 = .ok (.aload_n 0, 1) := by decide +kernel
theorem dX11_mixed_48 : decode cX11_mixed 48 = .ok (.getfield 116, 3) := by decide +kernel
theorem dX11_mixed_51 : decode cX11_mixed 51 = .ok (.irem, 1) := by decide +kernel
theorem dX11_mixed_52 : decode cX11_mixed 52 = .ok (.iadd, 1) := by decide +kernel
theorem dX11_mixed_53 : decode cX11_mixed 53 = .ok (.istore 5, 2) := by decide +kernel
theorem dX11_mixed_55 : decode cX11_mixed 55 = .ok (.iinc 6 1, 3) := by decide +kernel
theorem dX11_mixed_58 : decode cX11_mixed 58 = .ok (.goto (-52), 3) := by decide +kernel
theorem dX11_mixed_61 : decode cX11_mixed 61 = .ok (.iload 5, 2) := by decide +kernel
theorem dX11_mixed_63 : decode cX11_mixed 63 = .ok (.ireturn, 1) := by decide +kernel
theorem dX11_evened_0 : decode cX11_evened 0 = .ok (.aload_n 0, 1) := by decide +kernel
theorem dX11_evened_1 : decode cX11_evened 1 = .ok (.getfield 100, 3) := by decide +kernel
theorem dX11_evened_4 : decode cX11_evened 4 = .ok (.iload_n 1, 1) := by decide +kernel
theorem dX11_evened_5 : decode cX11_evened 5 = .ok (.iaload, 1) := by decide +kernel
theorem dX11_evened_6 : decode cX11_evened 6 = .ok (.ireturn, 1) := by decide +kernel
theorem dX11_onLine_0 : decode cX11_onLine 0 = .ok (.iload_n 3, 1) := by decide +kernel
theorem dX11_onLine_1 : decode cX11_onLine 1 = .ok (.aload_n 0, 1) := by decide +kernel
theorem dX11_onLine_2 : decode cX11_onLine 2 = .ok (.getfield 116, 3) := by decide +kernel
theorem dX11_onLine_5 : decode cX11_onLine 5 = .ok (.if_icmp .ne 12, 3) := by decide +kernel
theorem dX11_onLine_8 : decode cX11_onLine 8 = .ok (.aload_n 0, 1) := by decide +kernel
theorem dX11_onLine_9 : decode cX11_onLine 9 = .ok (.getfield 100, 3) := by decide +kernel
theorem dX11_onLine_12 : decode cX11_onLine 12 = .ok (.iload_n 1, 1) := by decide +kernel
theorem dX11_onLine_13 : decode cX11_onLine 13 = .ok (.iaload, 1) := by decide +kernel
theorem dX11_onLine_14 : decode cX11_onLine 14 = .ok (.goto 16, 3) := by decide +kernel
theorem dX11_onLine_17 : decode cX11_onLine 17 = .ok (.aload_n 0, 1) := by decide +kernel
theorem dX11_onLine_18 : decode cX11_onLine 18 = .ok (.getfield 100, 3) := by decide +kernel
theorem dX11_onLine_21 : decode cX11_onLine 21 = .ok (.aload_n 0, 1) := by decide +kernel
theorem dX11_onLine_22 : decode cX11_onLine 22 = .ok (.iload_n 1, 1) := by decide +kernel
theorem dX11_onLine_23 : decode cX11_onLine 23 = .ok (.iload_n 3, 1) := by decide +kernel
theorem dX11_onLine_24 : decode cX11_onLine 24 = .ok (.iload_n 2, 1) := by decide +kernel
theorem dX11_onLine_25 : decode cX11_onLine 25 = .ok (.iconst 1, 1) := by decide +kernel
theorem dX11_onLine_26 : decode cX11_onLine 26 = .ok (.invokevirtual 237, 3) := by decide +kernel
theorem dX11_onLine_29 : decode cX11_onLine 29 = .ok (.iaload, 1) := by decide +kernel
theorem dX11_onLine_30 : decode cX11_onLine 30 = .ok (.ireturn, 1) := by decide +kernel
theorem dX11_drops_0 : decode cX11_drops 0 = .ok (.iconst 0, 1) := by decide +kernel
theorem dX11_drops_1 : decode cX11_drops 1 = .ok (.istore_n 1, 1) := by decide +kernel
theorem dX11_drops_2 : decode cX11_drops 2 = .ok (.iload_n 1, 1) := by decide +kernel
theorem dX11_drops_3 : decode cX11_drops 3 = .ok (.bipush 8, 2) := by decide +kernel
theorem dX11_drops_5 : decode cX11_drops 5 = .ok (.if_icmp .ge 16, 3) := by decide +kernel
theorem dX11_drops_8 : decode cX11_drops 8 = .ok (.aload_n 0, 1) := by decide +kernel
theorem dX11_drops_9 : decode cX11_drops 9 = .ok (.getfield 82, 3) := by decide +kernel
theorem dX11_drops_12 : decode cX11_drops 12 = .ok (.iload_n 1, 1) := by decide +kernel
theorem dX11_drops_13 : decode cX11_drops 13 = .ok (.iconst 0, 1) := by decide +kernel
theorem dX11_drops_14 : decode cX11_drops 14 = .ok (.bastore, 1) := by decide +kernel
theorem dX11_drops_15 : decode cX11_drops 15 = .ok (.iinc 1 1, 3) := by decide +kernel
theorem dX11_drops_18 : decode cX11_drops 18 = .ok (.goto (-16), 3) := by decide +kernel
theorem dX11_drops_21 : decode cX11_drops 21 = .ok (.return_, 1) := by decide +kernel
theorem dX11_field_0 : decode cX11_field 0 = .ok (.iload_n 1, 1) := by decide +kernel
theorem dX11_field_1 : decode cX11_field 1 = .ok (.iconst 2, 1) := by decide +kernel
theorem dX11_field_2 : decode cX11_field 2 = .ok (.if_icmp .eq 16, 3) := by decide +kernel
theorem dX11_field_5 : decode cX11_field 5 = .ok (.iload_n 1, 1) := by decide +kernel
theorem dX11_field_6 : decode cX11_field 6 = .ok (.iconst 3, 1) := by decide +kernel
theorem dX11_field_7 : decode cX11_field 7 = .ok (.if_icmp .eq 11, 3) := by decide +kernel
theorem dX11_field_10 : decode cX11_field 10 = .ok (.iload_n 1, 1) := by decide +kernel
theorem dX11_field_11 : decode cX11_field 11 = .ok (.iconst 5, 1) := by decide +kernel
theorem dX11_field_12 : decode cX11_field 12 = .ok (.if_icmp .eq 6, 3) := by decide +kernel
theorem dX11_field_15 : decode cX11_field 15 = .ok (.bipush (-2), 2) := by decide +kernel
theorem dX11_field_17 : decode cX11_field 17 = .ok (.ireturn, 1) := by decide +kernel
theorem dX11_field_18 : decode cX11_field 18 = .ok (.aload_n 0, 1) := by decide +kernel
theorem dX11_field_19 : decode cX11_field 19 = .ok (.getfield 116, 3) := by decide +kernel
theorem dX11_field_22 : decode cX11_field 22 = .ok (.istore_n 2, 1) := by decide +kernel
theorem dX11_field_23 : decode cX11_field 23 = .ok (.aload_n 0, 1) := by decide +kernel
theorem dX11_field_24 : decode cX11_field 24 = .ok (.iload_n 1, 1) := by decide +kernel
theorem dX11_field_25 : decode cX11_field 25 = .ok (.putfield 116, 3) := by decide +kernel
theorem dX11_field_28 : decode cX11_field 28 = .ok (.aload_n 0, 1) := by decide +kernel
theorem dX11_field_29 : decode cX11_field 29 = .ok (.invokevirtual 119, 3) := by decide +kernel
theorem dX11_field_32 : decode cX11_field 32 = .ok (.aload_n 0, 1) := by decide +kernel
theorem dX11_field_33 : decode cX11_field 33 = .ok (.invokevirtual 243, 3) := by decide +kernel
theorem dX11_field_36 : decode cX11_field 36 = .ok (.iload_n 2, 1) := by decide +kernel
theorem dX11_field_37 : decode cX11_field 37 = .ok (.ireturn, 1) := by decide +kernel
theorem dX11_rod_0 : decode cX11_rod 0 = .ok (.iload_n 1, 1) := by decide +kernel
theorem dX11_rod_1 : decode cX11_rod 1 = .ok (.i2l, 1) := by decide +kernel
theorem dX11_rod_2 : decode cX11_rod 2 = .ok (.lconst 0, 1) := by decide +kernel
theorem dX11_rod_3 : decode cX11_rod 3 = .ok (.ldc2_w 246, 3) := by decide +kernel
theorem dX11_rod_6 : decode cX11_rod 6 = .ok (.invokestatic 126, 3) := by decide +kernel
theorem dX11_rod_9 : decode cX11_rod 9 = .ok (.ifCond .eq 42, 3) := by decide +kernel
theorem dX11_rod_12 : decode cX11_rod 12 = .ok (.aload_n 0, 1) := by decide +kernel
theorem dX11_rod_13 : decode cX11_rod 13 = .ok (.iload_n 2, 1) := by decide +kernel
theorem dX11_rod_14 : decode cX11_rod 14 = .ok (.invokevirtual 248, 3) := by decide +kernel
theorem dX11_rod_17 : decode cX11_rod 17 = .ok (.iconst (-1), 1) := by decide +kernel
theorem dX11_rod_18 : decode cX11_rod 18 = .ok (.if_icmp .eq 33, 3) := by decide +kernel
theorem dX11_rod_21 : decode cX11_rod 21 = .ok (.aload_n 0, 1) := by decide +kernel
theorem dX11_rod_22 : decode cX11_rod 22 = .ok (.iload_n 3, 1) := by decide +kernel
theorem dX11_rod_23 : decode cX11_rod 23 = .ok (.invokevirtual 248, 3) := by decide +kernel
theorem dX11_rod_26 : decode cX11_rod 26 = .ok (.iconst (-1), 1) := by decide +kernel
theorem dX11_rod_27 : decode cX11_rod 27 = .ok (.if_icmp .eq 24, 3) := by decide +kernel
theorem dX11_rod_30 : decode cX11_rod 30 = .ok (.aload_n 0, 1) := by decide +kernel
theorem dX11_rod_31 : decode cX11_rod 31 = .ok (.aload_n 0, 1) := by decide +kernel
theorem dX11_rod_32 : decode cX11_rod 32 = .ok (.iload_n 2, 1) := by decide +kernel
theorem dX11_rod_33 : decode cX11_rod 33 = .ok (.invokevirtual 248, 3) := by decide +kernel
theorem dX11_rod_36 : decode cX11_rod 36 = .ok (.invokevirtual 251, 3) := by decide +kernel
theorem dX11_rod_39 : decode cX11_rod 39 = .ok (.aload_n 0, 1) := by decide +kernel
theorem dX11_rod_40 : decode cX11_rod 40 = .ok (.aload_n 0, 1) := by decide +kernel
theorem dX11_rod_41 : decode cX11_rod 41 = .ok (.iload_n 3, 1) := by decide +kernel
theorem dX11_rod_42 : decode cX11_rod 42 = .ok (.invokevirtual 248, 3) := by decide +kernel
theorem dX11_rod_45 : decode cX11_rod 45 = .ok (.invokevirtual 251, 3) := by decide +kernel
theorem dX11_rod_48 : decode cX11_rod 48 = .ok (.if_icmp .ne 6, 3) := by decide +kernel
theorem dX11_rod_51 : decode cX11_rod 51 = .ok (.bipush (-2), 2) := by decide +kernel
theorem dX11_rod_53 : decode cX11_rod 53 = .ok (.ireturn, 1) := by decide +kernel
theorem dX11_rod_54 : decode cX11_rod 54 = .ok (.aload_n 0, 1) := by decide +kernel
theorem dX11_rod_55 : decode cX11_rod 55 = .ok (.getfield 82, 3) := by decide +kernel
theorem dX11_rod_58 : decode cX11_rod 58 = .ok (.iload_n 1, 1) := by decide +kernel
theorem dX11_rod_59 : decode cX11_rod 59 = .ok (.iconst 1, 1) := by decide +kernel
theorem dX11_rod_60 : decode cX11_rod 60 = .ok (.bastore, 1) := by decide +kernel
theorem dX11_rod_61 : decode cX11_rod 61 = .ok (.aload_n 0, 1) := by decide +kernel
theorem dX11_rod_62 : decode cX11_rod 62 = .ok (.getfield 85, 3) := by decide +kernel
theorem dX11_rod_65 : decode cX11_rod 65 = .ok (.iload_n 1, 1) := by decide +kernel
theorem dX11_rod_66 : decode cX11_rod 66 = .ok (.aload_n 0, 1) := by decide +kernel
theorem dX11_rod_67 : decode cX11_rod 67 = .ok (.aload_n 0, 1) := by decide +kernel
theorem dX11_rod_68 : decode cX11_rod 68 = .ok (.iload_n 2, 1) := by decide +kernel
theorem dX11_rod_69 : decode cX11_rod 69 = .ok (.invokevirtual 248, 3) := by decide +kernel
theorem dX11_rod_72 : decode cX11_rod 72 = .ok (.invokevirtual 251, 3) := by decide +kernel
theorem dX11_rod_75 : decode cX11_rod 75 = .ok (.iastore, 1) := by decide +kernel
theorem dX11_rod_76 : decode cX11_rod 76 = .ok (.aload_n 0, 1) := by decide +kernel
theorem dX11_rod_77 : decode cX11_rod 77 = .ok (.getfield 88, 3) := by decide +kernel
theorem dX11_rod_80 : decode cX11_rod 80 = .ok (.iload_n 1, 1) := by decide +kernel
theorem dX11_rod_81 : decode cX11_rod 81 = .ok (.aload_n 0, 1) := by decide +kernel
theorem dX11_rod_82 : decode cX11_rod 82 = .ok (.aload_n 0, 1) := by decide +kernel
theorem dX11_rod_83 : decode cX11_rod 83 = .ok (.iload_n 3, 1) := by decide +kernel
theorem dX11_rod_84 : decode cX11_rod 84 = .ok (.invokevirtual 248, 3) := by decide +kernel
theorem dX11_rod_87 : decode cX11_rod 87 = .ok (.invokevirtual 251, 3) := by decide +kernel
theorem dX11_rod_90 : decode cX11_rod 90 = .ok (.iastore, 1) := by decide +kernel
theorem dX11_rod_91 : decode cX11_rod 91 = .ok (.iconst 1, 1) := by decide +kernel
theorem dX11_rod_92 : decode cX11_rod 92 = .ok (.ireturn, 1) := by decide +kernel
theorem dX11_drop_0 : decode cX11_drop 0 = .ok (.iload_n 1, 1) := by decide +kernel
theorem dX11_drop_1 : decode cX11_drop 1 = .ok (.i2l, 1) := by decide +kernel
theorem dX11_drop_2 : decode cX11_drop 2 = .ok (.lconst 0, 1) := by decide +kernel
theorem dX11_drop_3 : decode cX11_drop 3 = .ok (.ldc2_w 246, 3) := by decide +kernel
theorem dX11_drop_6 : decode cX11_drop 6 = .ok (.invokestatic 126, 3) := by decide +kernel
theorem dX11_drop_9 : decode cX11_drop 9 = .ok (.ifCond .ne 6, 3) := by decide +kernel
theorem dX11_drop_12 : decode cX11_drop 12 = .ok (.bipush (-2), 2) := by decide +kernel
theorem dX11_drop_14 : decode cX11_drop 14 = .ok (.ireturn, 1) := by decide +kernel
theorem dX11_drop_15 : decode cX11_drop 15 = .ok (.aload_n 0, 1) := by decide +kernel
theorem dX11_drop_16 : decode cX11_drop 16 = .ok (.getfield 82, 3) := by decide +kernel
theorem dX11_drop_19 : decode cX11_drop 19 = .ok (.iload_n 1, 1) := by decide +kernel
theorem dX11_drop_20 : decode cX11_drop 20 = .ok (.baload, 1) := by decide +kernel
theorem dX11_drop_21 : decode cX11_drop 21 = .ok (.ifCond .ne 6, 3) := by decide +kernel
theorem dX11_drop_24 : decode cX11_drop 24 = .ok (.bipush (-3), 2) := by decide +kernel
theorem dX11_drop_26 : decode cX11_drop 26 = .ok (.ireturn, 1) := by decide +kernel
theorem dX11_drop_27 : decode cX11_drop 27 = .ok (.aload_n 0, 1) := by decide +kernel
theorem dX11_drop_28 : decode cX11_drop 28 = .ok (.getfield 82, 3) := by decide +kernel
theorem dX11_drop_31 : decode cX11_drop 31 = .ok (.iload_n 1, 1) := by decide +kernel
theorem dX11_drop_32 : decode cX11_drop 32 = .ok (.iconst 0, 1) := by decide +kernel
theorem dX11_drop_33 : decode cX11_drop 33 = .ok (.bastore, 1) := by decide +kernel
theorem dX11_drop_34 : decode cX11_drop 34 = .ok (.iconst 1, 1) := by decide +kernel
theorem dX11_drop_35 : decode cX11_drop 35 = .ok (.ireturn, 1) := by decide +kernel
theorem dX11_marks_0 : decode cX11_marks 0 = .ok (.iconst 0, 1) := by decide +kernel
theorem dX11_marks_1 : decode cX11_marks 1 = .ok (.istore 4, 2) := by decide +kernel
theorem dX11_marks_3 : decode cX11_marks 3 = .ok (.iconst 0, 1) := by decide +kernel
theorem dX11_marks_4 : decode cX11_marks 4 = .ok (.istore 5, 2) := by decide +kernel
theorem dX11_marks_6 : decode cX11_marks 6 = .ok (.iload 5, 2) := by decide +kernel
theorem dX11_marks_8 : decode cX11_marks 8 = .ok (.aload_n 0, 1) := by decide +kernel
theorem dX11_marks_9 : decode cX11_marks 9 = .ok (.getfield 116, 3) := by decide +kernel
theorem dX11_marks_12 : decode cX11_marks 12 = .ok (.if_icmp .gt 41, 3) := by decide +kernel
theorem dX11_marks_15 : decode cX11_marks 15 = .ok (.aload_n 0, 1) := by decide +kernel
theorem dX11_marks_16 : decode cX11_marks 16 = .ok (.iload_n 2, 1) := by decide +kernel
theorem dX11_marks_17 : decode cX11_marks 17 = .ok (.iload_n 3, 1) := by decide +kernel
theorem dX11_marks_18 : decode cX11_marks 18 = .ok (.iload 5, 2) := by decide +kernel
theorem dX11_marks_20 : decode cX11_marks 20 = .ok (.invokevirtual 254, 3) := by decide +kernel
theorem dX11_marks_23 : decode cX11_marks 23 = .ok (.istore 6, 2) := by decide +kernel
theorem dX11_marks_25 : decode cX11_marks 25 = .ok (.iload 4, 2) := by decide +kernel
theorem dX11_marks_27 : decode cX11_marks 27 = .ok (.aload_n 1, 1) := by decide +kernel
theorem dX11_marks_28 : decode cX11_marks 28 = .ok (.iload 6, 2) := by decide +kernel
theorem dX11_marks_30 : decode cX11_marks 30 = .ok (.baload, 1) := by decide +kernel
theorem dX11_marks_31 : decode cX11_marks 31 = .ok (.ifCond .eq 7, 3) := by decide +kernel
theorem dX11_marks_34 : decode cX11_marks 34 = .ok (.iconst 0, 1) := by decide +kernel
theorem dX11_marks_35 : decode cX11_marks 35 = .ok (.goto 4, 3) := by decide +kernel
theorem dX11_marks_38 : decode cX11_marks 38 = .ok (.iconst 1, 1) := by decide +kernel
theorem dX11_marks_39 : decode cX11_marks 39 = .ok (.iadd, 1) := by decide +kernel
theorem dX11_marks_40 : decode cX11_marks 40 = .ok (.istore 4, 2) := by decide +kernel
theorem dX11_marks_42 : decode cX11_marks 42 = .ok (.aload_n 1, 1) := by decide +kernel
theorem dX11_marks_43 : decode cX11_marks 43 = .ok (.iload 6, 2) := by decide +kernel
theorem dX11_marks_45 : decode cX11_marks 45 = .ok (.iconst 1, 1) := by decide +kernel
theorem dX11_marks_46 : decode cX11_marks 46 = .ok (.bastore, 1) := by decide +kernel
theorem dX11_marks_47 : decode cX11_marks 47 = .ok (.iinc 5 1, 3) := by decide +kernel
theorem dX11_marks_50 : decode cX11_marks 50 = .ok (.goto (-44), 3) := by decide +kernel
theorem dX11_marks_53 : decode cX11_marks 53 = .ok (.iload 4, 2) := by decide +kernel
theorem dX11_marks_55 : decode cX11_marks 55 = .ok (.ireturn, 1) := by decide +kernel
theorem dX11_wipeMarks_0 : decode cX11_wipeMarks 0 = .ok (.iconst 0, 1) := by decide +kernel
theorem dX11_wipeMarks_1 : decode cX11_wipeMarks 1 = .ok (.istore_n 2, 1) := by decide +kernel
theorem dX11_wipeMarks_2 : decode cX11_wipeMarks 2 = .ok (.iload_n 2, 1) := by decide +kernel
theorem dX11_wipeMarks_3 : decode cX11_wipeMarks 3 = .ok (.sipush 625, 3) := by decide +kernel
theorem dX11_wipeMarks_6 : decode cX11_wipeMarks 6 = .ok (.if_icmp .ge 13, 3) := by decide +kernel
theorem dX11_wipeMarks_9 : decode cX11_wipeMarks 9 = .ok (.aload_n 1, 1) := by decide +kernel
theorem dX11_wipeMarks_10 : decode cX11_wipeMarks 10 = .ok (.iload_n 2, 1) := by decide +kernel
theorem dX11_wipeMarks_11 : decode cX11_wipeMarks 11 = .ok (.iconst 0, 1) := by decide +kernel
theorem dX11_wipeMarks_12 : decode cX11_wipeMarks 12 = .ok (.bastore, 1) := by decide +kernel
theorem dX11_wipeMarks_13 : decode cX11_wipeMarks 13 = .ok (.iinc 2 1, 3) := by decide +kernel
theorem dX11_wipeMarks_16 : decode cX11_wipeMarks 16 = .ok (.goto (-14), 3) := by decide +kernel
theorem dX11_wipeMarks_19 : decode cX11_wipeMarks 19 = .ok (.return_, 1) := by decide +kernel
theorem dX11_meet_0 : decode cX11_meet 0 = .ok (.iload_n 1, 1) := by decide +kernel
theorem dX11_meet_1 : decode cX11_meet 1 = .ok (.i2l, 1) := by decide +kernel
theorem dX11_meet_2 : decode cX11_meet 2 = .ok (.lconst 0, 1) := by decide +kernel
theorem dX11_meet_3 : decode cX11_meet 3 = .ok (.ldc2_w 246, 3) := by decide +kernel
theorem dX11_meet_6 : decode cX11_meet 6 = .ok (.invokestatic 126, 3) := by decide +kernel
theorem dX11_meet_9 : decode cX11_meet 9 = .ok (.ifCond .eq 15, 3) := by decide +kernel
theorem dX11_meet_12 : decode cX11_meet 12 = .ok (.iload_n 2, 1) := by decide +kernel
theorem dX11_meet_13 : decode cX11_meet 13 = .ok (.i2l, 1) := by decide +kernel
theorem dX11_meet_14 : decode cX11_meet 14 = .ok (.lconst 0, 1) := by decide +kernel
theorem dX11_meet_15 : decode cX11_meet 15 = .ok (.ldc2_w 246, 3) := by decide +kernel
theorem dX11_meet_18 : decode cX11_meet 18 = .ok (.invokestatic 126, 3) := by decide +kernel
theorem dX11_meet_21 : decode cX11_meet 21 = .ok (.ifCond .ne 6, 3) := by decide +kernel
theorem dX11_meet_24 : decode cX11_meet 24 = .ok (.bipush (-2), 2) := by decide +kernel
theorem dX11_meet_26 : decode cX11_meet 26 = .ok (.ireturn, 1) := by decide +kernel
theorem dX11_meet_27 : decode cX11_meet 27 = .ok (.aload_n 0, 1) := by decide +kernel
theorem dX11_meet_28 : decode cX11_meet 28 = .ok (.getfield 82, 3) := by decide +kernel
theorem dX11_meet_31 : decode cX11_meet 31 = .ok (.iload_n 1, 1) := by decide +kernel
theorem dX11_meet_32 : decode cX11_meet 32 = .ok (.baload, 1) := by decide +kernel
theorem dX11_meet_33 : decode cX11_meet 33 = .ok (.ifCond .eq 12, 3) := by decide +kernel
theorem dX11_meet_36 : decode cX11_meet 36 = .ok (.aload_n 0, 1) := by decide +kernel
theorem dX11_meet_37 : decode cX11_meet 37 = .ok (.getfield 82, 3) := by decide +kernel
theorem dX11_meet_40 : decode cX11_meet 40 = .ok (.iload_n 2, 1) := by decide +kernel
theorem dX11_meet_41 : decode cX11_meet 41 = .ok (.baload, 1) := by decide +kernel
theorem dX11_meet_42 : decode cX11_meet 42 = .ok (.ifCond .ne 6, 3) := by decide +kernel
theorem dX11_meet_45 : decode cX11_meet 45 = .ok (.bipush (-3), 2) := by decide +kernel
theorem dX11_meet_47 : decode cX11_meet 47 = .ok (.ireturn, 1) := by decide +kernel
theorem dX11_meet_48 : decode cX11_meet 48 = .ok (.aload_n 0, 1) := by decide +kernel
theorem dX11_meet_49 : decode cX11_meet 49 = .ok (.aload_n 0, 1) := by decide +kernel
theorem dX11_meet_50 : decode cX11_meet 50 = .ok (.getfield 91, 3) := by decide +kernel
theorem dX11_meet_53 : decode cX11_meet 53 = .ok (.invokevirtual 258, 3) := by decide +kernel
theorem dX11_meet_56 : decode cX11_meet 56 = .ok (.aload_n 0, 1) := by decide +kernel
theorem dX11_meet_57 : decode cX11_meet 57 = .ok (.aload_n 0, 1) := by decide +kernel
theorem dX11_meet_58 : decode cX11_meet 58 = .ok (.getfield 91, 3) := by decide +kernel
theorem dX11_meet_61 : decode cX11_meet 61 = .ok (.aload_n 0, 1) := by decide +kernel
theorem dX11_meet_62 : decode cX11_meet 62 = .ok (.getfield 85, 3) := by decide +kernel
theorem dX11_meet_65 : decode cX11_meet 65 = .ok (.iload_n 1, 1) := by decide +kernel
theorem dX11_meet_66 : decode cX11_meet 66 = .ok (.iaload, 1) := by decide +kernel
theorem dX11_meet_67 : decode cX11_meet 67 = .ok (.aload_n 0, 1) := by decide +kernel
theorem dX11_meet_68 : decode cX11_meet 68 = .ok (.getfield 88, 3) := by decide +kernel
theorem dX11_meet_71 : decode cX11_meet 71 = .ok (.iload_n 1, 1) := by decide +kernel
theorem dX11_meet_72 : decode cX11_meet 72 = .ok (.iaload, 1) := by decide +kernel
theorem dX11_meet_73 : decode cX11_meet 73 = .ok (.invokevirtual 262, 3) := by decide +kernel
theorem dX11_meet_76 : decode cX11_meet 76 = .ok (.istore_n 3, 1) := by decide +kernel
theorem dX11_meet_77 : decode cX11_meet 77 = .ok (.aload_n 0, 1) := by decide +kernel
theorem dX11_meet_78 : decode cX11_meet 78 = .ok (.aload_n 0, 1) := by decide +kernel
theorem dX11_meet_79 : decode cX11_meet 79 = .ok (.getfield 94, 3) := by decide +kernel
theorem dX11_meet_82 : decode cX11_meet 82 = .ok (.invokevirtual 258, 3) := by decide +kernel
theorem dX11_meet_85 : decode cX11_meet 85 = .ok (.aload_n 0, 1) := by decide +kernel
theorem dX11_meet_86 : decode cX11_meet 86 = .ok (.aload_n 0, 1) := by decide +kernel
theorem dX11_meet_87 : decode cX11_meet 87 = .ok (.getfield 94, 3) := by decide +kernel
theorem dX11_meet_90 : decode cX11_meet 90 = .ok (.aload_n 0, 1) := by decide +kernel
theorem dX11_meet_91 : decode cX11_meet 91 = .ok (.getfield 85, 3) := by decide +kernel
theorem dX11_meet_94 : decode cX11_meet 94 = .ok (.iload_n 2, 1) := by decide +kernel
theorem dX11_meet_95 : decode cX11_meet 95 = .ok (.iaload, 1) := by decide +kernel
theorem dX11_meet_96 : decode cX11_meet 96 = .ok (.aload_n 0, 1) := by decide +kernel
theorem dX11_meet_97 : decode cX11_meet 97 = .ok (.getfield 88, 3) := by decide +kernel
theorem dX11_meet_100 : decode cX11_meet 100 = .ok (.iload_n 2, 1) := by decide +kernel
theorem dX11_meet_101 : decode cX11_meet 101 = .ok (.iaload, 1) := by decide +kernel
theorem dX11_meet_102 : decode cX11_meet 102 = .ok (.invokevirtual 262, 3) := by decide +kernel
theorem dX11_meet_105 : decode cX11_meet 105 = .ok (.istore 4, 2) := by decide +kernel
theorem dX11_meet_107 : decode cX11_meet 107 = .ok (.iconst 0, 1) := by decide +kernel
theorem dX11_meet_108 : decode cX11_meet 108 = .ok (.istore 5, 2) := by decide +kernel
theorem dX11_meet_110 : decode cX11_meet 110 = .ok (.iconst 0, 1) := by decide +kernel
theorem dX11_meet_111 : decode cX11_meet 111 = .ok (.istore 6, 2) := by decide +kernel
theorem dX11_meet_113 : decode cX11_meet 113 = .ok (.iload 6, 2) := by decide +kernel
theorem dX11_meet_115 : decode cX11_meet 115 = .ok (.sipush 625, 3) := by decide +kernel
theorem dX11_meet_118 : decode cX11_meet 118 = .ok (.if_icmp .ge 39, 3) := by decide +kernel
theorem dX11_meet_121 : decode cX11_meet 121 = .ok (.iload 5, 2) := by decide +kernel
theorem dX11_meet_123 : decode cX11_meet 123 = .ok (.aload_n 0, 1) := by decide +kernel
theorem dX11_meet_124 : decode cX11_meet 124 = .ok (.getfield 91, 3) := by decide +kernel
theorem dX11_meet_127 : decode cX11_meet 127 = .ok (.iload 6, 2) := by decide +kernel
theorem dX11_meet_129 : decode cX11_meet 129 = .ok (.baload, 1) := by decide +kernel
theorem dX11_meet_130 : decode cX11_meet 130 = .ok (.ifCond .eq 17, 3) := by decide +kernel
theorem dX11_meet_133 : decode cX11_meet 133 = .ok (.aload_n 0, 1) := by decide +kernel
theorem dX11_meet_134 : decode cX11_meet 134 = .ok (.getfield 94, 3) := by decide +kernel
theorem dX11_meet_137 : decode cX11_meet 137 = .ok (.iload 6, 2) := by decide +kernel
theorem dX11_meet_139 : decode cX11_meet 139 = .ok (.baload, 1) := by decide +kernel
theorem dX11_meet_140 : decode cX11_meet 140 = .ok (.ifCond .eq 7, 3) := by decide +kernel
theorem dX11_meet_143 : decode cX11_meet 143 = .ok (.iconst 1, 1) := by decide +kernel
theorem dX11_meet_144 : decode cX11_meet 144 = .ok (.goto 4, 3) := by decide +kernel
theorem dX11_meet_147 : decode cX11_meet 147 = .ok (.iconst 0, 1) := by decide +kernel
theorem dX11_meet_148 : decode cX11_meet 148 = .ok (.iadd, 1) := by decide +kernel
theorem dX11_meet_149 : decode cX11_meet 149 = .ok (.istore 5, 2) := by decide +kernel
theorem dX11_meet_151 : decode cX11_meet 151 = .ok (.iinc 6 1, 3) := by decide +kernel
theorem dX11_meet_154 : decode cX11_meet 154 = .ok (.goto (-41), 3) := by decide +kernel
theorem dX11_meet_157 : decode cX11_meet 157 = .ok (.iload 5, 2) := by decide +kernel
theorem dX11_meet_159 : decode cX11_meet 159 = .ok (.iload 4, 2) := by decide +kernel
theorem dX11_meet_161 : decode cX11_meet 161 = .ok (.if_icmp .ne 7, 3) := by decide +kernel
theorem dX11_meet_164 : decode cX11_meet 164 = .ok (.iconst 2, 1) := by decide +kernel
theorem dX11_meet_165 : decode cX11_meet 165 = .ok (.goto 13, 3) := by decide +kernel
theorem dX11_meet_168 : decode cX11_meet 168 = .ok (.iload 5, 2) := by decide +kernel
theorem dX11_meet_170 : decode cX11_meet 170 = .ok (.ifCond .le 7, 3) := by decide +kernel
theorem dX11_meet_173 : decode cX11_meet 173 = .ok (.iconst 1, 1) := by decide +kernel
theorem dX11_meet_174 : decode cX11_meet 174 = .ok (.goto 4, 3) := by decide +kernel
theorem dX11_meet_177 : decode cX11_meet 177 = .ok (.iconst 0, 1) := by decide +kernel
theorem dX11_meet_178 : decode cX11_meet 178 = .ok (.ireturn, 1) := by decide +kernel
theorem dX11_areThere_0 : decode cX11_areThere 0 = .ok (.iconst 1, 1) := by decide +kernel
theorem dX11_areThere_1 : decode cX11_areThere 1 = .ok (.istore_n 2, 1) := by decide +kernel
theorem dX11_areThere_2 : decode cX11_areThere 2 = .ok (.iconst 0, 1) := by decide +kernel
theorem dX11_areThere_3 : decode cX11_areThere 3 = .ok (.istore_n 3, 1) := by decide +kernel
theorem dX11_areThere_4 : decode cX11_areThere 4 = .ok (.iload_n 3, 1) := by decide +kernel
theorem dX11_areThere_5 : decode cX11_areThere 5 = .ok (.bipush 8, 2) := by decide +kernel
theorem dX11_areThere_7 : decode cX11_areThere 7 = .ok (.if_icmp .ge 34, 3) := by decide +kernel
theorem dX11_areThere_10 : decode cX11_areThere 10 = .ok (.iload_n 2, 1) := by decide +kernel
theorem dX11_areThere_11 : decode cX11_areThere 11 = .ok (.iload_n 1, 1) := by decide +kernel
theorem dX11_areThere_12 : decode cX11_areThere 12 = .ok (.iload_n 3, 1) := by decide +kernel
theorem dX11_areThere_13 : decode cX11_areThere 13 = .ok (.ishr, 1) := by decide +kernel
theorem dX11_areThere_14 : decode cX11_areThere 14 = .ok (.iconst 1, 1) := by decide +kernel
theorem dX11_areThere_15 : decode cX11_areThere 15 = .ok (.iand, 1) := by decide +kernel
theorem dX11_areThere_16 : decode cX11_areThere 16 = .ok (.ifCond .eq 12, 3) := by decide +kernel
theorem dX11_areThere_19 : decode cX11_areThere 19 = .ok (.aload_n 0, 1) := by decide +kernel
theorem dX11_areThere_20 : decode cX11_areThere 20 = .ok (.getfield 82, 3) := by decide +kernel
theorem dX11_areThere_23 : decode cX11_areThere 23 = .ok (.iload_n 3, 1) := by decide +kernel
theorem dX11_areThere_24 : decode cX11_areThere 24 = .ok (.baload, 1) := by decide +kernel
theorem dX11_areThere_25 : decode cX11_areThere 25 = .ok (.ifCond .eq 7, 3) := by decide +kernel
theorem dX11_areThere_28 : decode cX11_areThere 28 = .ok (.iconst 1, 1) := by decide +kernel
theorem dX11_areThere_29 : decode cX11_areThere 29 = .ok (.goto 4, 3) := by decide +kernel
theorem dX11_areThere_32 : decode cX11_areThere 32 = .ok (.iconst 0, 1) := by decide +kernel
theorem dX11_areThere_33 : decode cX11_areThere 33 = .ok (.iand, 1) := by decide +kernel
theorem dX11_areThere_34 : decode cX11_areThere 34 = .ok (.istore_n 2, 1) := by decide +kernel
theorem dX11_areThere_35 : decode cX11_areThere 35 = .ok (.iinc 3 1, 3) := by decide +kernel
theorem dX11_areThere_38 : decode cX11_areThere 38 = .ok (.goto (-34), 3) := by decide +kernel
theorem dX11_areThere_41 : decode cX11_areThere 41 = .ok (.iload_n 2, 1) := by decide +kernel
theorem dX11_areThere_42 : decode cX11_areThere 42 = .ok (.ireturn, 1) := by decide +kernel
theorem dX11_lookAtRods_0 : decode cX11_lookAtRods 0 = .ok (.iconst 0, 1) := by decide +kernel
theorem dX11_lookAtRods_1 : decode cX11_lookAtRods 1 = .ok (.istore_n 2, 1) := by decide +kernel
theorem dX11_lookAtRods_2 : decode cX11_lookAtRods 2 = .ok (.iload_n 2, 1) := by decide +kernel
theorem dX11_lookAtRods_3 : decode cX11_lookAtRods 3 = .ok (.sipush 625, 3) := by decide +kernel
theorem dX11_lookAtRods_6 : decode cX11_lookAtRods 6 = .ok (.if_icmp .ge 16, 3) := by decide +kernel
theorem dX11_lookAtRods_9 : decode cX11_lookAtRods 9 = .ok (.aload_n 0, 1) := by decide +kernel
theorem dX11_lookAtRods_10 : decode cX11_lookAtRods 10 = .ok (.getfield 103, 3) := by decide +kernel
theorem dX11_lookAtRods_13 : decode cX11_lookAtRods 13 = .ok (.iload_n 2, 1) := by decide +kernel
theorem dX11_lookAtRods_14 : decode cX11_lookAtRods 14 = .ok (.iconst 0, 1) := by decide +kernel
theorem dX11_lookAtRods_15 : decode cX11_lookAtRods 15 = .ok (.iastore, 1) := by decide +kernel
theorem dX11_lookAtRods_16 : decode cX11_lookAtRods 16 = .ok (.iinc 2 1, 3) := by decide +kernel
theorem dX11_lookAtRods_19 : decode cX11_lookAtRods 19 = .ok (.goto (-17), 3) := by decide +kernel
theorem dX11_lookAtRods_22 : decode cX11_lookAtRods 22 = .ok (.iconst 0, 1) := by decide +kernel
theorem dX11_lookAtRods_23 : decode cX11_lookAtRods 23 = .ok (.istore_n 2, 1) := by decide +kernel
theorem dX11_lookAtRods_24 : decode cX11_lookAtRods 24 = .ok (.iload_n 2, 1) := by decide +kernel
theorem dX11_lookAtRods_25 : decode cX11_lookAtRods 25 = .ok (.bipush 8, 2) := by decide +kernel
theorem dX11_lookAtRods_27 : decode cX11_lookAtRods 27 = .ok (.if_icmp .ge 62, 3) := by decide +kernel
theorem dX11_lookAtRods_30 : decode cX11_lookAtRods 30 = .ok (.iload_n 1, 1) := by decide +kernel
theorem dX11_lookAtRods_31 : decode cX11_lookAtRods 31 = .ok (.iload_n 2, 1) := by decide +kernel
theorem dX11_lookAtRods_32 : decode cX11_lookAtRods 32 = .ok (.ishr, 1) := by decide +kernel
theorem dX11_lookAtRods_33 : decode cX11_lookAtRods 33 = .ok (.iconst 1, 1) := by decide +kernel
theorem dX11_lookAtRods_34 : decode cX11_lookAtRods 34 = .ok (.iand, 1) := by decide +kernel
theorem dX11_lookAtRods_35 : decode cX11_lookAtRods 35 = .ok (.iconst 1, 1) := by decide +kernel
theorem dX11_lookAtRods_36 : decode cX11_lookAtRods 36 = .ok (.if_icmp .ne 47, 3) := by decide +kernel
theorem dX11_lookAtRods_39 : decode cX11_lookAtRods 39 = .ok (.iconst 0, 1) := by decide +kernel
theorem dX11_lookAtRods_40 : decode cX11_lookAtRods 40 = .ok (.istore_n 3, 1) := by decide +kernel
theorem dX11_lookAtRods_41 : decode cX11_lookAtRods 41 = .ok (.iload_n 3, 1) := by decide +kernel
theorem dX11_lookAtRods_42 : decode cX11_lookAtRods 42 = .ok (.aload_n 0, 1) := by decide +kernel
theorem dX11_lookAtRods_43 : decode cX11_lookAtRods 43 = .ok (.getfield 116, 3) := by decide +kernel
theorem dX11_lookAtRods_46 : decode cX11_lookAtRods 46 = .ok (.if_icmp .gt 37, 3) := by decide +kernel
theorem dX11_lookAtRods_49 : decode cX11_lookAtRods 49 = .ok (.aload_n 0, 1) := by decide +kernel
theorem dX11_lookAtRods_50 : decode cX11_lookAtRods 50 = .ok (.getfield 103, 3) := by decide +kernel
theorem dX11_lookAtRods_53 : decode cX11_lookAtRods 53 = .ok (.aload_n 0, 1) := by decide +kernel
theorem dX11_lookAtRods_54 : decode cX11_lookAtRods 54 = .ok (.aload_n 0, 1) := by decide +kernel
theorem dX11_lookAtRods_55 : decode cX11_lookAtRods 55 = .ok (.getfield 85, 3) := by decide +kernel
theorem dX11_lookAtRods_58 : decode cX11_lookAtRods 58 = .ok (.iload_n 2, 1) := by decide +kernel
theorem dX11_lookAtRods_59 : decode cX11_lookAtRods 59 = .ok (.iaload, 1) := by decide +kernel
theorem dX11_lookAtRods_60 : decode cX11_lookAtRods 60 = .ok (.aload_n 0, 1) := by decide +kernel
theorem dX11_lookAtRods_61 : decode cX11_lookAtRods 61 = .ok (.getfield 88, 3) := by decide +kernel
theorem dX11_lookAtRods_64 : decode cX11_lookAtRods 64 = .ok (.iload_n 2, 1) := by decide +kernel
theorem dX11_lookAtRods_65 : decode cX11_lookAtRods 65 = .ok (.iaload, 1) := by decide +kernel
theorem dX11_lookAtRods_66 : decode cX11_lookAtRods 66 = .ok (.iload_n 3, 1) := by decide +kernel
theorem dX11_lookAtRods_67 : decode cX11_lookAtRods 67 = .ok (.invokevirtual 254, 3) := by decide +kernel
theorem dX11_lookAtRods_70 : decode cX11_lookAtRods 70 = .ok (.dup2, 1) := by decide +kernel
theorem dX11_lookAtRods_71 : decode cX11_lookAtRods 71 = .ok (.iaload, 1) := by decide +kernel
theorem dX11_lookAtRods_72 : decode cX11_lookAtRods 72 = .ok (.iconst 1, 1) := by decide +kernel
theorem dX11_lookAtRods_73 : decode cX11_lookAtRods 73 = .ok (.iload_n 2, 1) := by decide +kernel
theorem dX11_lookAtRods_74 : decode cX11_lookAtRods 74 = .ok (.ishl, 1) := by decide +kernel
theorem dX11_lookAtRods_75 : decode cX11_lookAtRods 75 = .ok (.ior, 1) := by decide +kernel
theorem dX11_lookAtRods_76 : decode cX11_lookAtRods 76 = .ok (.iastore, 1) := by decide +kernel
theorem dX11_lookAtRods_77 : decode cX11_lookAtRods 77 = .ok (.iinc 3 1, 3) := by decide +kernel
theorem dX11_lookAtRods_80 : decode cX11_lookAtRods 80 = .ok (.goto (-39), 3) := by decide +kernel
theorem dX11_lookAtRods_83 : decode cX11_lookAtRods 83 = .ok (.iinc 2 1, 3) := by decide +kernel
theorem dX11_lookAtRods_86 : decode cX11_lookAtRods 86 = .ok (.goto (-62), 3) := by decide +kernel
theorem dX11_lookAtRods_89 : decode cX11_lookAtRods 89 = .ok (.return_, 1) := by decide +kernel
theorem dX11_areLeast_0 : decode cX11_areLeast 0 = .ok (.aload_n 0, 1) := by decide +kernel
theorem dX11_areLeast_1 : decode cX11_areLeast 1 = .ok (.iconst 0, 1) := by decide +kernel
theorem dX11_areLeast_2 : decode cX11_areLeast 2 = .ok (.putfield 266, 3) := by decide +kernel
theorem dX11_areLeast_5 : decode cX11_areLeast 5 = .ok (.iconst 0, 1) := by decide +kernel
theorem dX11_areLeast_6 : decode cX11_areLeast 6 = .ok (.istore_n 3, 1) := by decide +kernel
theorem dX11_areLeast_7 : decode cX11_areLeast 7 = .ok (.iload_n 3, 1) := by decide +kernel
theorem dX11_areLeast_8 : decode cX11_areLeast 8 = .ok (.aload_n 0, 1) := by decide +kernel
theorem dX11_areLeast_9 : decode cX11_areLeast 9 = .ok (.getfield 116, 3) := by decide +kernel
theorem dX11_areLeast_12 : decode cX11_areLeast 12 = .ok (.if_icmp .gt 54, 3) := by decide +kernel
theorem dX11_areLeast_15 : decode cX11_areLeast 15 = .ok (.aload_n 0, 1) := by decide +kernel
theorem dX11_areLeast_16 : decode cX11_areLeast 16 = .ok (.iload_n 1, 1) := by decide +kernel
theorem dX11_areLeast_17 : decode cX11_areLeast 17 = .ok (.iload_n 2, 1) := by decide +kernel
theorem dX11_areLeast_18 : decode cX11_areLeast 18 = .ok (.iload_n 3, 1) := by decide +kernel
theorem dX11_areLeast_19 : decode cX11_areLeast 19 = .ok (.invokevirtual 254, 3) := by decide +kernel
theorem dX11_areLeast_22 : decode cX11_areLeast 22 = .ok (.istore 4, 2) := by decide +kernel
theorem dX11_areLeast_24 : decode cX11_areLeast 24 = .ok (.iload 4, 2) := by decide +kernel
theorem dX11_areLeast_26 : decode cX11_areLeast 26 = .ok (.iload_n 1, 1) := by decide +kernel
theorem dX11_areLeast_27 : decode cX11_areLeast 27 = .ok (.if_icmp .lt 15, 3) := by decide +kernel
theorem dX11_areLeast_30 : decode cX11_areLeast 30 = .ok (.iload 4, 2) := by decide +kernel
theorem dX11_areLeast_32 : decode cX11_areLeast 32 = .ok (.iload_n 1, 1) := by decide +kernel
theorem dX11_areLeast_33 : decode cX11_areLeast 33 = .ok (.if_icmp .le 11, 3) := by decide +kernel
theorem dX11_areLeast_36 : decode cX11_areLeast 36 = .ok (.iload 4, 2) := by decide +kernel
theorem dX11_areLeast_38 : decode cX11_areLeast 38 = .ok (.iload_n 2, 1) := by decide +kernel
theorem dX11_areLeast_39 : decode cX11_areLeast 39 = .ok (.if_icmp .ge 5, 3) := by decide +kernel
theorem dX11_areLeast_42 : decode cX11_areLeast 42 = .ok (.iconst 0, 1) := by decide +kernel
theorem dX11_areLeast_43 : decode cX11_areLeast 43 = .ok (.ireturn, 1) := by decide +kernel
theorem dX11_areLeast_44 : decode cX11_areLeast 44 = .ok (.aload_n 0, 1) := by decide +kernel
theorem dX11_areLeast_45 : decode cX11_areLeast 45 = .ok (.dup, 1) := by decide +kernel
theorem dX11_areLeast_46 : decode cX11_areLeast 46 = .ok (.getfield 266, 3) := by decide +kernel
theorem dX11_areLeast_49 : decode cX11_areLeast 49 = .ok (.aload_n 0, 1) := by decide +kernel
theorem dX11_areLeast_50 : decode cX11_areLeast 50 = .ok (.getfield 103, 3) := by decide +kernel
theorem dX11_areLeast_53 : decode cX11_areLeast 53 = .ok (.iload 4, 2) := by decide +kernel
theorem dX11_areLeast_55 : decode cX11_areLeast 55 = .ok (.iaload, 1) := by decide +kernel
theorem dX11_areLeast_56 : decode cX11_areLeast 56 = .ok (.ior, 1) := by decide +kernel
theorem dX11_areLeast_57 : decode cX11_areLeast 57 = .ok (.putfield 266, 3) := by decide +kernel
theorem dX11_areLeast_60 : decode cX11_areLeast 60 = .ok (.iinc 3 1, 3) := by decide +kernel
theorem dX11_areLeast_63 : decode cX11_areLeast 63 = .ok (.goto (-56), 3) := by decide +kernel
theorem dX11_areLeast_66 : decode cX11_areLeast 66 = .ok (.iconst 1, 1) := by decide +kernel
theorem dX11_areLeast_67 : decode cX11_areLeast 67 = .ok (.ireturn, 1) := by decide +kernel
theorem dX11_lines_0 : decode cX11_lines 0 = .ok (.iload_n 1, 1) := by decide +kernel
theorem dX11_lines_1 : decode cX11_lines 1 = .ok (.i2l, 1) := by decide +kernel
theorem dX11_lines_2 : decode cX11_lines 2 = .ok (.lconst 0, 1) := by decide +kernel
theorem dX11_lines_3 : decode cX11_lines 3 = .ok (.ldc2_w 269, 3) := by decide +kernel
theorem dX11_lines_6 : decode cX11_lines 6 = .ok (.invokestatic 126, 3) := by decide +kernel
theorem dX11_lines_9 : decode cX11_lines 9 = .ok (.ifCond .ne 6, 3) := by decide +kernel
theorem dX11_lines_12 : decode cX11_lines 12 = .ok (.bipush (-2), 2) := by decide +kernel
theorem dX11_lines_14 : decode cX11_lines 14 = .ok (.ireturn, 1) := by decide +kernel
theorem dX11_lines_15 : decode cX11_lines 15 = .ok (.aload_n 0, 1) := by decide +kernel
theorem dX11_lines_16 : decode cX11_lines 16 = .ok (.iload_n 1, 1) := by decide +kernel
theorem dX11_lines_17 : decode cX11_lines 17 = .ok (.invokevirtual 271, 3) := by decide +kernel
theorem dX11_lines_20 : decode cX11_lines 20 = .ok (.ifCond .ne 6, 3) := by decide +kernel
theorem dX11_lines_23 : decode cX11_lines 23 = .ok (.bipush (-3), 2) := by decide +kernel
theorem dX11_lines_25 : decode cX11_lines 25 = .ok (.ireturn, 1) := by decide +kernel
theorem dX11_lines_26 : decode cX11_lines 26 = .ok (.aload_n 0, 1) := by decide +kernel
theorem dX11_lines_27 : decode cX11_lines 27 = .ok (.iload_n 1, 1) := by decide +kernel
theorem dX11_lines_28 : decode cX11_lines 28 = .ok (.invokevirtual 274, 3) := by decide +kernel
theorem dX11_lines_31 : decode cX11_lines 31 = .ok (.iconst 0, 1) := by decide +kernel
theorem dX11_lines_32 : decode cX11_lines 32 = .ok (.istore_n 2, 1) := by decide +kernel
theorem dX11_lines_33 : decode cX11_lines 33 = .ok (.iconst 1, 1) := by decide +kernel
theorem dX11_lines_34 : decode cX11_lines 34 = .ok (.istore_n 3, 1) := by decide +kernel
theorem dX11_lines_35 : decode cX11_lines 35 = .ok (.iload_n 3, 1) := by decide +kernel
theorem dX11_lines_36 : decode cX11_lines 36 = .ok (.aload_n 0, 1) := by decide +kernel
theorem dX11_lines_37 : decode cX11_lines 37 = .ok (.getfield 116, 3) := by decide +kernel
theorem dX11_lines_40 : decode cX11_lines 40 = .ok (.aload_n 0, 1) := by decide +kernel
theorem dX11_lines_41 : decode cX11_lines 41 = .ok (.getfield 116, 3) := by decide +kernel
theorem dX11_lines_44 : decode cX11_lines 44 = .ok (.imul, 1) := by decide +kernel
theorem dX11_lines_45 : decode cX11_lines 45 = .ok (.aload_n 0, 1) := by decide +kernel
theorem dX11_lines_46 : decode cX11_lines 46 = .ok (.getfield 116, 3) := by decide +kernel
theorem dX11_lines_49 : decode cX11_lines 49 = .ok (.imul, 1) := by decide +kernel
theorem dX11_lines_50 : decode cX11_lines 50 = .ok (.aload_n 0, 1) := by decide +kernel
theorem dX11_lines_51 : decode cX11_lines 51 = .ok (.getfield 116, 3) := by decide +kernel
theorem dX11_lines_54 : decode cX11_lines 54 = .ok (.imul, 1) := by decide +kernel
theorem dX11_lines_55 : decode cX11_lines 55 = .ok (.if_icmp .ge 28, 3) := by decide +kernel
theorem dX11_lines_58 : decode cX11_lines 58 = .ok (.aload_n 0, 1) := by decide +kernel
theorem dX11_lines_59 : decode cX11_lines 59 = .ok (.iload_n 3, 1) := by decide +kernel
theorem dX11_lines_60 : decode cX11_lines 60 = .ok (.invokevirtual 251, 3) := by decide +kernel
theorem dX11_lines_63 : decode cX11_lines 63 = .ok (.iload_n 3, 1) := by decide +kernel
theorem dX11_lines_64 : decode cX11_lines 64 = .ok (.if_icmp .ne 13, 3) := by decide +kernel
theorem dX11_lines_67 : decode cX11_lines 67 = .ok (.aload_n 0, 1) := by decide +kernel
theorem dX11_lines_68 : decode cX11_lines 68 = .ok (.getfield 106, 3) := by decide +kernel
theorem dX11_lines_71 : decode cX11_lines 71 = .ok (.iload_n 2, 1) := by decide +kernel
theorem dX11_lines_72 : decode cX11_lines 72 = .ok (.iload_n 3, 1) := by decide +kernel
theorem dX11_lines_73 : decode cX11_lines 73 = .ok (.iastore, 1) := by decide +kernel
theorem dX11_lines_74 : decode cX11_lines 74 = .ok (.iinc 2 1, 3) := by decide +kernel
theorem dX11_lines_77 : decode cX11_lines 77 = .ok (.iinc 3 1, 3) := by decide +kernel
theorem dX11_lines_80 : decode cX11_lines 80 = .ok (.goto (-45), 3) := by decide +kernel
theorem dX11_lines_83 : decode cX11_lines 83 = .ok (.iconst 0, 1) := by decide +kernel
theorem dX11_lines_84 : decode cX11_lines 84 = .ok (.istore_n 3, 1) := by decide +kernel
theorem dX11_lines_85 : decode cX11_lines 85 = .ok (.iconst 0, 1) := by decide +kernel
theorem dX11_lines_86 : decode cX11_lines 86 = .ok (.istore 4, 2) := by decide +kernel
theorem dX11_lines_88 : decode cX11_lines 88 = .ok (.iload 4, 2) := by decide +kernel
theorem dX11_lines_90 : decode cX11_lines 90 = .ok (.iload_n 2, 1) := by decide +kernel
theorem dX11_lines_91 : decode cX11_lines 91 = .ok (.if_icmp .ge 66, 3) := by decide +kernel
theorem dX11_lines_94 : decode cX11_lines 94 = .ok (.iload 4, 2) := by decide +kernel
theorem dX11_lines_96 : decode cX11_lines 96 = .ok (.iconst 1, 1) := by decide +kernel
theorem dX11_lines_97 : decode cX11_lines 97 = .ok (.iadd, 1) := by decide +kernel
theorem dX11_lines_98 : decode cX11_lines 98 = .ok (.istore 5, 2) := by decide +kernel
theorem dX11_lines_100 : decode cX11_lines 100 = .ok (.iload 5, 2) := by decide +kernel
theorem dX11_lines_102 : decode cX11_lines 102 = .ok (.iload_n 2, 1) := by decide +kernel
theorem dX11_lines_103 : decode cX11_lines 103 = .ok (.if_icmp .ge 48, 3) := by decide +kernel
theorem dX11_lines_106 : decode cX11_lines 106 = .ok (.iload_n 3, 1) := by decide +kernel
theorem dX11_lines_107 : decode cX11_lines 107 = .ok (.aload_n 0, 1) := by decide +kernel
theorem dX11_lines_108 : decode cX11_lines 108 = .ok (.aload_n 0, 1) := by decide +kernel
theorem dX11_lines_109 : decode cX11_lines 109 = .ok (.getfield 106, 3) := by decide +kernel
theorem dX11_lines_112 : decode cX11_lines 112 = .ok (.iload 4, 2) := by decide +kernel
theorem dX11_lines_114 : decode cX11_lines 114 = .ok (.iaload, 1) := by decide +kernel
theorem dX11_lines_115 : decode cX11_lines 115 = .ok (.aload_n 0, 1) := by decide +kernel
theorem dX11_lines_116 : decode cX11_lines 116 = .ok (.getfield 106, 3) := by decide +kernel
theorem dX11_lines_119 : decode cX11_lines 119 = .ok (.iload 5, 2) := by decide +kernel
theorem dX11_lines_121 : decode cX11_lines 121 = .ok (.iaload, 1) := by decide +kernel
theorem dX11_lines_122 : decode cX11_lines 122 = .ok (.invokevirtual 277, 3) := by decide +kernel
theorem dX11_lines_125 : decode cX11_lines 125 = .ok (.ifCond .eq 17, 3) := by decide +kernel
theorem dX11_lines_128 : decode cX11_lines 128 = .ok (.aload_n 0, 1) := by decide +kernel
theorem dX11_lines_129 : decode cX11_lines 129 = .ok (.getfield 266, 3) := by decide +kernel
theorem dX11_lines_132 : decode cX11_lines 132 = .ok (.iload_n 1, 1) := by decide +kernel
theorem dX11_lines_133 : decode cX11_lines 133 = .ok (.iand, 1) := by decide +kernel
theorem dX11_lines_134 : decode cX11_lines 134 = .ok (.iload_n 1, 1) := by decide +kernel
theorem dX11_lines_135 : decode cX11_lines 135 = .ok (.if_icmp .ne 7, 3) := by decide +kernel
theorem dX11_lines_138 : decode cX11_lines 138 = .ok (.iconst 1, 1) := by decide +kernel
theorem dX11_lines_139 : decode cX11_lines 139 = .ok (.goto 4, 3) := by decide +kernel
theorem dX11_lines_142 : decode cX11_lines 142 = .ok (.iconst 0, 1) := by decide +kernel
theorem dX11_lines_143 : decode cX11_lines 143 = .ok (.iadd, 1) := by decide +kernel
theorem dX11_lines_144 : decode cX11_lines 144 = .ok (.istore_n 3, 1) := by decide +kernel
theorem dX11_lines_145 : decode cX11_lines 145 = .ok (.iinc 5 1, 3) := by decide +kernel
theorem dX11_lines_148 : decode cX11_lines 148 = .ok (.goto (-48), 3) := by decide +kernel
theorem dX11_lines_151 : decode cX11_lines 151 = .ok (.iinc 4 1, 3) := by decide +kernel
theorem dX11_lines_154 : decode cX11_lines 154 = .ok (.goto (-66), 3) := by decide +kernel
theorem dX11_lines_157 : decode cX11_lines 157 = .ok (.iload_n 3, 1) := by decide +kernel
theorem dX11_lines_158 : decode cX11_lines 158 = .ok (.ireturn, 1) := by decide +kernel
theorem dX11_points_0 : decode cX11_points 0 = .ok (.iload_n 1, 1) := by decide +kernel
theorem dX11_points_1 : decode cX11_points 1 = .ok (.i2l, 1) := by decide +kernel
theorem dX11_points_2 : decode cX11_points 2 = .ok (.lconst 0, 1) := by decide +kernel
theorem dX11_points_3 : decode cX11_points 3 = .ok (.ldc2_w 269, 3) := by decide +kernel
theorem dX11_points_6 : decode cX11_points 6 = .ok (.invokestatic 126, 3) := by decide +kernel
theorem dX11_points_9 : decode cX11_points 9 = .ok (.ifCond .ne 6, 3) := by decide +kernel
theorem dX11_points_12 : decode cX11_points 12 = .ok (.bipush (-2), 2) := by decide +kernel
theorem dX11_points_14 : decode cX11_points 14 = .ok (.ireturn, 1) := by decide +kernel
theorem dX11_points_15 : decode cX11_points 15 = .ok (.aload_n 0, 1) := by decide +kernel
theorem dX11_points_16 : decode cX11_points 16 = .ok (.iload_n 1, 1) := by decide +kernel
theorem dX11_points_17 : decode cX11_points 17 = .ok (.invokevirtual 271, 3) := by decide +kernel
theorem dX11_points_20 : decode cX11_points 20 = .ok (.ifCond .ne 6, 3) := by decide +kernel
theorem dX11_points_23 : decode cX11_points 23 = .ok (.bipush (-3), 2) := by decide +kernel
theorem dX11_points_25 : decode cX11_points 25 = .ok (.ireturn, 1) := by decide +kernel
theorem dX11_points_26 : decode cX11_points 26 = .ok (.aload_n 0, 1) := by decide +kernel
theorem dX11_points_27 : decode cX11_points 27 = .ok (.iload_n 1, 1) := by decide +kernel
theorem dX11_points_28 : decode cX11_points 28 = .ok (.invokevirtual 274, 3) := by decide +kernel
theorem dX11_points_31 : decode cX11_points 31 = .ok (.iconst 0, 1) := by decide +kernel
theorem dX11_points_32 : decode cX11_points 32 = .ok (.istore_n 2, 1) := by decide +kernel
theorem dX11_points_33 : decode cX11_points 33 = .ok (.iconst 0, 1) := by decide +kernel
theorem dX11_points_34 : decode cX11_points 34 = .ok (.istore_n 3, 1) := by decide +kernel
theorem dX11_points_35 : decode cX11_points 35 = .ok (.iload_n 3, 1) := by decide +kernel
theorem dX11_points_36 : decode cX11_points 36 = .ok (.sipush 625, 3) := by decide +kernel
theorem dX11_points_39 : decode cX11_points 39 = .ok (.if_icmp .ge 26, 3) := by decide +kernel
theorem dX11_points_42 : decode cX11_points 42 = .ok (.iload_n 2, 1) := by decide +kernel
theorem dX11_points_43 : decode cX11_points 43 = .ok (.aload_n 0, 1) := by decide +kernel
theorem dX11_points_44 : decode cX11_points 44 = .ok (.getfield 103, 3) := by decide +kernel
theorem dX11_points_47 : decode cX11_points 47 = .ok (.iload_n 3, 1) := by decide +kernel
theorem dX11_points_48 : decode cX11_points 48 = .ok (.iaload, 1) := by decide +kernel
theorem dX11_points_49 : decode cX11_points 49 = .ok (.ifCond .eq 7, 3) := by decide +kernel
theorem dX11_points_52 : decode cX11_points 52 = .ok (.iconst 1, 1) := by decide +kernel
theorem dX11_points_53 : decode cX11_points 53 = .ok (.goto 4, 3) := by decide +kernel
theorem dX11_points_56 : decode cX11_points 56 = .ok (.iconst 0, 1) := by decide +kernel
theorem dX11_points_57 : decode cX11_points 57 = .ok (.iadd, 1) := by decide +kernel
theorem dX11_points_58 : decode cX11_points 58 = .ok (.istore_n 2, 1) := by decide +kernel
theorem dX11_points_59 : decode cX11_points 59 = .ok (.iinc 3 1, 3) := by decide +kernel
theorem dX11_points_62 : decode cX11_points 62 = .ok (.goto (-27), 3) := by decide +kernel
theorem dX11_points_65 : decode cX11_points 65 = .ok (.iload_n 2, 1) := by decide +kernel
theorem dX11_points_66 : decode cX11_points 66 = .ok (.ireturn, 1) := by decide +kernel
theorem dX11_count_0 : decode cX11_count 0 = .ok (.iconst 0, 1) := by decide +kernel
theorem dX11_count_1 : decode cX11_count 1 = .ok (.istore_n 2, 1) := by decide +kernel
theorem dX11_count_2 : decode cX11_count 2 = .ok (.iload_n 1, 1) := by decide +kernel
theorem dX11_count_3 : decode cX11_count 3 = .ok (.tableswitch 123 0 5 #[37, 70, 75, 80, 85, 90], 37) := by decide +kernel
theorem dX11_count_40 : decode cX11_count 40 = .ok (.iconst 0, 1) := by decide +kernel
theorem dX11_count_41 : decode cX11_count 41 = .ok (.istore_n 3, 1) := by decide +kernel
theorem dX11_count_42 : decode cX11_count 42 = .ok (.iload_n 3, 1) := by decide +kernel
theorem dX11_count_43 : decode cX11_count 43 = .ok (.bipush 12, 2) := by decide +kernel
theorem dX11_count_45 : decode cX11_count 45 = .ok (.if_icmp .ge 26, 3) := by decide +kernel
theorem dX11_count_48 : decode cX11_count 48 = .ok (.iload_n 2, 1) := by decide +kernel
theorem dX11_count_49 : decode cX11_count 49 = .ok (.aload_n 0, 1) := by decide +kernel
theorem dX11_count_50 : decode cX11_count 50 = .ok (.getfield 16, 3) := by decide +kernel
theorem dX11_count_53 : decode cX11_count 53 = .ok (.iload_n 3, 1) := by decide +kernel
theorem dX11_count_54 : decode cX11_count 54 = .ok (.baload, 1) := by decide +kernel
theorem dX11_count_55 : decode cX11_count 55 = .ok (.ifCond .eq 7, 3) := by decide +kernel
theorem dX11_count_58 : decode cX11_count 58 = .ok (.iconst 1, 1) := by decide +kernel
theorem dX11_count_59 : decode cX11_count 59 = .ok (.goto 4, 3) := by decide +kernel
theorem dX11_count_62 : decode cX11_count 62 = .ok (.iconst 0, 1) := by decide +kernel
theorem dX11_count_63 : decode cX11_count 63 = .ok (.iadd, 1) := by decide +kernel
theorem dX11_count_64 : decode cX11_count 64 = .ok (.istore_n 2, 1) := by decide +kernel
theorem dX11_count_65 : decode cX11_count 65 = .ok (.iinc 3 1, 3) := by decide +kernel
theorem dX11_count_68 : decode cX11_count 68 = .ok (.goto (-26), 3) := by decide +kernel
theorem dX11_count_71 : decode cX11_count 71 = .ok (.iload_n 2, 1) := by decide +kernel
theorem dX11_count_72 : decode cX11_count 72 = .ok (.ireturn, 1) := by decide +kernel
theorem dX11_count_73 : decode cX11_count 73 = .ok (.aload_n 0, 1) := by decide +kernel
theorem dX11_count_74 : decode cX11_count 74 = .ok (.getfield 234, 3) := by decide +kernel
theorem dX11_count_77 : decode cX11_count 77 = .ok (.ireturn, 1) := by decide +kernel
theorem dX11_count_78 : decode cX11_count 78 = .ok (.aload_n 0, 1) := by decide +kernel
theorem dX11_count_79 : decode cX11_count 79 = .ok (.getfield 109, 3) := by decide +kernel
theorem dX11_count_82 : decode cX11_count 82 = .ok (.ireturn, 1) := by decide +kernel
theorem dX11_count_83 : decode cX11_count 83 = .ok (.aload_n 0, 1) := by decide +kernel
theorem dX11_count_84 : decode cX11_count 84 = .ok (.getfield 113, 3) := by decide +kernel
theorem dX11_count_87 : decode cX11_count 87 = .ok (.ireturn, 1) := by decide +kernel
theorem dX11_count_88 : decode cX11_count 88 = .ok (.aload_n 0, 1) := by decide +kernel
theorem dX11_count_89 : decode cX11_count 89 = .ok (.getfield 116, 3) := by decide +kernel
theorem dX11_count_92 : decode cX11_count 92 = .ok (.ireturn, 1) := by decide +kernel
theorem dX11_count_93 : decode cX11_count 93 = .ok (.iconst 0, 1) := by decide +kernel
theorem dX11_count_94 : decode cX11_count 94 = .ok (.istore_n 3, 1) := by decide +kernel
theorem dX11_count_95 : decode cX11_count 95 = .ok (.iload_n 3, 1) := by decide +kernel
theorem dX11_count_96 : decode cX11_count 96 = .ok (.bipush 8, 2) := by decide +kernel
theorem dX11_count_98 : decode cX11_count 98 = .ok (.if_icmp .ge 26, 3) := by decide +kernel
theorem dX11_count_101 : decode cX11_count 101 = .ok (.iload_n 2, 1) := by decide +kernel
theorem dX11_count_102 : decode cX11_count 102 = .ok (.aload_n 0, 1) := by decide +kernel
theorem dX11_count_103 : decode cX11_count 103 = .ok (.getfield 82, 3) := by decide +kernel
theorem dX11_count_106 : decode cX11_count 106 = .ok (.iload_n 3, 1) := by decide +kernel
theorem dX11_count_107 : decode cX11_count 107 = .ok (.baload, 1) := by decide +kernel
theorem dX11_count_108 : decode cX11_count 108 = .ok (.ifCond .eq 7, 3) := by decide +kernel
theorem dX11_count_111 : decode cX11_count 111 = .ok (.iconst 1, 1) := by decide +kernel
theorem dX11_count_112 : decode cX11_count 112 = .ok (.goto 4, 3) := by decide +kernel
theorem dX11_count_115 : decode cX11_count 115 = .ok (.iconst 0, 1) := by decide +kernel
theorem dX11_count_116 : decode cX11_count 116 = .ok (.iadd, 1) := by decide +kernel
theorem dX11_count_117 : decode cX11_count 117 = .ok (.istore_n 2, 1) := by decide +kernel
theorem dX11_count_118 : decode cX11_count 118 = .ok (.iinc 3 1, 3) := by decide +kernel
theorem dX11_count_121 : decode cX11_count 121 = .ok (.goto (-26), 3) := by decide +kernel
theorem dX11_count_124 : decode cX11_count 124 = .ok (.iload_n 2, 1) := by decide +kernel
theorem dX11_count_125 : decode cX11_count 125 = .ok (.ireturn, 1) := by decide +kernel
theorem dX11_count_126 : decode cX11_count 126 = .ok (.bipush (-2), 2) := by decide +kernel
theorem dX11_count_128 : decode cX11_count 128 = .ok (.ireturn, 1) := by decide +kernel
theorem dX11_digest_0 : decode cX11_digest 0 = .ok (.ldc2_w 280, 3) := by decide +kernel
theorem dX11_digest_3 : decode cX11_digest 3 = .ok (.lstore_n 1, 1) := by decide +kernel
theorem dX11_digest_4 : decode cX11_digest 4 = .ok (.iconst 0, 1) := by decide +kernel
theorem dX11_digest_5 : decode cX11_digest 5 = .ok (.istore_n 3, 1) := by decide +kernel
theorem dX11_digest_6 : decode cX11_digest 6 = .ok (.iload_n 3, 1) := by decide +kernel
theorem dX11_digest_7 : decode cX11_digest 7 = .ok (.bipush 6, 2) := by decide +kernel
theorem dX11_digest_9 : decode cX11_digest 9 = .ok (.if_icmp .ge 22, 3) := by decide +kernel
theorem dX11_digest_12 : decode cX11_digest 12 = .ok (.ldc2_w 282, 3) := by decide +kernel
theorem dX11_digest_15 : decode cX11_digest 15 = .ok (.lload_n 1, 1) := by decide +kernel
theorem dX11_digest_16 : decode cX11_digest 16 = .ok (.lmul, 1) := by decide +kernel
theorem dX11_digest_17 : decode cX11_digest 17 = .ok (.aload_n 0, 1) := by decide +kernel
theorem dX11_digest_18 : decode cX11_digest 18 = .ok (.iload_n 3, 1) := by decide +kernel
theorem dX11_digest_19 : decode cX11_digest 19 = .ok (.invokevirtual 284, 3) := by decide +kernel
theorem dX11_digest_22 : decode cX11_digest 22 = .ok (.i2l, 1) := by decide +kernel
theorem dX11_digest_23 : decode cX11_digest 23 = .ok (.ladd, 1) := by decide +kernel
theorem dX11_digest_24 : decode cX11_digest 24 = .ok (.lstore_n 1, 1) := by decide +kernel
theorem dX11_digest_25 : decode cX11_digest 25 = .ok (.iinc 3 1, 3) := by decide +kernel
theorem dX11_digest_28 : decode cX11_digest 28 = .ok (.goto (-22), 3) := by decide +kernel
theorem dX11_digest_31 : decode cX11_digest 31 = .ok (.iconst 0, 1) := by decide +kernel
theorem dX11_digest_32 : decode cX11_digest 32 = .ok (.istore_n 3, 1) := by decide +kernel
theorem dX11_digest_33 : decode cX11_digest 33 = .ok (.iload_n 3, 1) := by decide +kernel
theorem dX11_digest_34 : decode cX11_digest 34 = .ok (.bipush 12, 2) := by decide +kernel
theorem dX11_digest_36 : decode cX11_digest 36 = .ok (.if_icmp .ge 102, 3) := by decide +kernel
theorem dX11_digest_39 : decode cX11_digest 39 = .ok (.aload_n 0, 1) := by decide +kernel
theorem dX11_digest_40 : decode cX11_digest 40 = .ok (.getfield 16, 3) := by decide +kernel
theorem dX11_digest_43 : decode cX11_digest 43 = .ok (.iload_n 3, 1) := by decide +kernel
theorem dX11_digest_44 : decode cX11_digest 44 = .ok (.baload, 1) := by decide +kernel
theorem dX11_digest_45 : decode cX11_digest 45 = .ok (.ifCond .eq 87, 3) := by decide +kernel
theorem dX11_digest_48 : decode cX11_digest 48 = .ok (.ldc2_w 282, 3) := by decide +kernel
theorem dX11_digest_51 : decode cX11_digest 51 = .ok (.lload_n 1, 1) := by decide +kernel
theorem dX11_digest_52 : decode cX11_digest 52 = .ok (.lmul, 1) := by decide +kernel
theorem dX11_digest_53 : decode cX11_digest 53 = .ok (.iload_n 3, 1) := by decide +kernel
theorem dX11_digest_54 : decode cX11_digest 54 = .ok (.i2l, 1) := by decide +kernel
theorem dX11_digest_55 : decode cX11_digest 55 = .ok (.ladd, 1) := by decide +kernel
theorem dX11_digest_56 : decode cX11_digest 56 = .ok (.lstore_n 1, 1) := by decide +kernel
theorem dX11_digest_57 : decode cX11_digest 57 = .ok (.ldc2_w 282, 3) := by decide +kernel
theorem dX11_digest_60 : decode cX11_digest 60 = .ok (.lload_n 1, 1) := by decide +kernel
theorem dX11_digest_61 : decode cX11_digest 61 = .ok (.lmul, 1) := by decide +kernel
theorem dX11_digest_62 : decode cX11_digest 62 = .ok (.aload_n 0, 1) := by decide +kernel
theorem dX11_digest_63 : decode cX11_digest 63 = .ok (.getfield 20, 3) := by decide +kernel
theorem dX11_digest_66 : decode cX11_digest 66 = .ok (.iload_n 3, 1) := by decide +kernel
theorem dX11_digest_67 : decode cX11_digest 67 = .ok (.iaload, 1) := by decide +kernel
theorem dX11_digest_68 : decode cX11_digest 68 = .ok (.i2l, 1) := by decide +kernel
theorem dX11_digest_69 : decode cX11_digest 69 = .ok (.ladd, 1) := by decide +kernel
theorem dX11_digest_70 : decode cX11_digest 70 = .ok (.lstore_n 1, 1) := by decide +kernel
theorem dX11_digest_71 : decode cX11_digest 71 = .ok (.iconst 0, 1) := by decide +kernel
theorem dX11_digest_72 : decode cX11_digest 72 = .ok (.istore 4, 2) := by decide +kernel
theorem dX11_digest_74 : decode cX11_digest 74 = .ok (.iload 4, 2) := by decide +kernel
theorem dX11_digest_76 : decode cX11_digest 76 = .ok (.aload_n 0, 1) := by decide +kernel
theorem dX11_digest_77 : decode cX11_digest 77 = .ok (.getfield 20, 3) := by decide +kernel
theorem dX11_digest_80 : decode cX11_digest 80 = .ok (.iload_n 3, 1) := by decide +kernel
theorem dX11_digest_81 : decode cX11_digest 81 = .ok (.iaload, 1) := by decide +kernel
theorem dX11_digest_82 : decode cX11_digest 82 = .ok (.if_icmp .ge 50, 3) := by decide +kernel
theorem dX11_digest_85 : decode cX11_digest 85 = .ok (.ldc2_w 282, 3) := by decide +kernel
theorem dX11_digest_88 : decode cX11_digest 88 = .ok (.lload_n 1, 1) := by decide +kernel
theorem dX11_digest_89 : decode cX11_digest 89 = .ok (.lmul, 1) := by decide +kernel
theorem dX11_digest_90 : decode cX11_digest 90 = .ok (.aload_n 0, 1) := by decide +kernel
theorem dX11_digest_91 : decode cX11_digest 91 = .ok (.getfield 23, 3) := by decide +kernel
theorem dX11_digest_94 : decode cX11_digest 94 = .ok (.sipush 600, 3) := by decide +kernel
theorem dX11_digest_97 : decode cX11_digest 97 = .ok (.iload_n 3, 1) := by decide +kernel
theorem dX11_digest_98 : decode cX11_digest 98 = .ok (.imul, 1) := by decide +kernel
theorem dX11_digest_99 : decode cX11_digest 99 = .ok (.iload 4, 2) := by decide +kernel
theorem dX11_digest_101 : decode cX11_digest 101 = .ok (.iadd, 1) := by decide +kernel
theorem dX11_digest_102 : decode cX11_digest 102 = .ok (.iaload, 1) := by decide +kernel
theorem dX11_digest_103 : decode cX11_digest 103 = .ok (.i2l, 1) := by decide +kernel
theorem dX11_digest_104 : decode cX11_digest 104 = .ok (.ladd, 1) := by decide +kernel
theorem dX11_digest_105 : decode cX11_digest 105 = .ok (.lstore_n 1, 1) := by decide +kernel
theorem dX11_digest_106 : decode cX11_digest 106 = .ok (.ldc2_w 282, 3) := by decide +kernel
theorem dX11_digest_109 : decode cX11_digest 109 = .ok (.lload_n 1, 1) := by decide +kernel
theorem dX11_digest_110 : decode cX11_digest 110 = .ok (.lmul, 1) := by decide +kernel
theorem dX11_digest_111 : decode cX11_digest 111 = .ok (.aload_n 0, 1) := by decide +kernel
theorem dX11_digest_112 : decode cX11_digest 112 = .ok (.getfield 26, 3) := by decide +kernel
theorem dX11_digest_115 : decode cX11_digest 115 = .ok (.sipush 600, 3) := by decide +kernel
theorem dX11_digest_118 : decode cX11_digest 118 = .ok (.iload_n 3, 1) := by decide +kernel
theorem dX11_digest_119 : decode cX11_digest 119 = .ok (.imul, 1) := by decide +kernel
theorem dX11_digest_120 : decode cX11_digest 120 = .ok (.iload 4, 2) := by decide +kernel
theorem dX11_digest_122 : decode cX11_digest 122 = .ok (.iadd, 1) := by decide +kernel
theorem dX11_digest_123 : decode cX11_digest 123 = .ok (.laload, 1) := by decide +kernel
theorem dX11_digest_124 : decode cX11_digest 124 = .ok (.ladd, 1) := by decide +kernel
theorem dX11_digest_125 : decode cX11_digest 125 = .ok (.lstore_n 1, 1) := by decide +kernel
theorem dX11_digest_126 : decode cX11_digest 126 = .ok (.iinc 4 1, 3) := by decide +kernel
theorem dX11_digest_129 : decode cX11_digest 129 = .ok (.goto (-55), 3) := by decide +kernel
theorem dX11_digest_132 : decode cX11_digest 132 = .ok (.iinc 3 1, 3) := by decide +kernel
theorem dX11_digest_135 : decode cX11_digest 135 = .ok (.goto (-102), 3) := by decide +kernel
theorem dX11_digest_138 : decode cX11_digest 138 = .ok (.iconst 0, 1) := by decide +kernel
theorem dX11_digest_139 : decode cX11_digest 139 = .ok (.istore_n 3, 1) := by decide +kernel
theorem dX11_digest_140 : decode cX11_digest 140 = .ok (.iload_n 3, 1) := by decide +kernel
theorem dX11_digest_141 : decode cX11_digest 141 = .ok (.aload_n 0, 1) := by decide +kernel
theorem dX11_digest_142 : decode cX11_digest 142 = .ok (.getfield 234, 3) := by decide +kernel
theorem dX11_digest_145 : decode cX11_digest 145 = .ok (.if_icmp .ge 23, 3) := by decide +kernel
theorem dX11_digest_148 : decode cX11_digest 148 = .ok (.ldc2_w 282, 3) := by decide +kernel
theorem dX11_digest_151 : decode cX11_digest 151 = .ok (.lload_n 1, 1) := by decide +kernel
theorem dX11_digest_152 : decode cX11_digest 152 = .ok (.lmul, 1) := by decide +kernel
theorem dX11_digest_153 : decode cX11_digest 153 = .ok (.aload_n 0, 1) := by decide +kernel
theorem dX11_digest_154 : decode cX11_digest 154 = .ok (.getfield 70, 3) := by decide +kernel
theorem dX11_digest_157 : decode cX11_digest 157 = .ok (.iload_n 3, 1) := by decide +kernel
theorem dX11_digest_158 : decode cX11_digest 158 = .ok (.iaload, 1) := by decide +kernel
theorem dX11_digest_159 : decode cX11_digest 159 = .ok (.i2l, 1) := by decide +kernel
theorem dX11_digest_160 : decode cX11_digest 160 = .ok (.ladd, 1) := by decide +kernel
theorem dX11_digest_161 : decode cX11_digest 161 = .ok (.lstore_n 1, 1) := by decide +kernel
theorem dX11_digest_162 : decode cX11_digest 162 = .ok (.iinc 3 1, 3) := by decide +kernel
theorem dX11_digest_165 : decode cX11_digest 165 = .ok (.goto (-25), 3) := by decide +kernel
theorem dX11_digest_168 : decode cX11_digest 168 = .ok (.lload_n 1, 1) := by decide +kernel
theorem dX11_digest_169 : decode cX11_digest 169 = .ok (.lreturn, 1) := by decide +kernel
