theorem dX12_init_0 : decode cX12_init 0 = .ok (.aload_n 0, 1) := by decide +kernel
theorem dX12_init_1 : decode cX12_init 1 = .ok (.invokespecial 1, 3) := by decide +kernel
theorem dX12_init_4 : decode cX12_init 4 = .ok (.aload_n 0, 1) := by decide +kernel
theorem dX12_init_5 : decode cX12_init 5 = .ok (.bipush 60, 2) := by decide +kernel
theorem dX12_init_7 : decode cX12_init 7 = .ok (.newarray .byte, 2) := by decide +kernel
theorem dX12_init_9 : decode cX12_init 9 = .ok (.putfield 7, 3) := by decide +kernel
theorem dX12_init_12 : decode cX12_init 12 = .ok (.aload_n 0, 1) := by decide +kernel
theorem dX12_init_13 : decode cX12_init 13 = .ok (.sipush 320, 3) := by decide +kernel
theorem dX12_init_16 : decode cX12_init 16 = .ok (.newarray .byte, 2) := by decide +kernel
theorem dX12_init_18 : decode cX12_init 18 = .ok (.putfield 13, 3) := by decide +kernel
theorem dX12_init_21 : decode cX12_init 21 = .ok (.aload_n 0, 1) := by decide +kernel
theorem dX12_init_22 : decode cX12_init 22 = .ok (.bipush 40, 2) := by decide +kernel
theorem dX12_init_24 : decode cX12_init 24 = .ok (.newarray .int, 2) := by decide +kernel
theorem dX12_init_26 : decode cX12_init 26 = .ok (.putfield 16, 3) := by decide +kernel
theorem dX12_init_29 : decode cX12_init 29 = .ok (.aload_n 0, 1) := by decide +kernel
theorem dX12_init_30 : decode cX12_init 30 = .ok (.bipush 40, 2) := by decide +kernel
theorem dX12_init_32 : decode cX12_init 32 = .ok (.newarray .int, 2) := by decide +kernel
theorem dX12_init_34 : decode cX12_init 34 = .ok (.putfield 20, 3) := by decide +kernel
theorem dX12_init_37 : decode cX12_init 37 = .ok (.aload_n 0, 1) := by decide +kernel
theorem dX12_init_38 : decode cX12_init 38 = .ok (.bipush 40, 2) := by decide +kernel
theorem dX12_init_40 : decode cX12_init 40 = .ok (.newarray .int, 2) := by decide +kernel
theorem dX12_init_42 : decode cX12_init 42 = .ok (.putfield 23, 3) := by decide +kernel
theorem dX12_init_45 : decode cX12_init 45 = .ok (.aload_n 0, 1) := by decide +kernel
theorem dX12_init_46 : decode cX12_init 46 = .ok (.bipush 40, 2) := by decide +kernel
theorem dX12_init_48 : decode cX12_init 48 = .ok (.newarray .int, 2) := by decide +kernel
theorem dX12_init_50 : decode cX12_init 50 = .ok (.putfield 26, 3) := by decide +kernel
theorem dX12_init_53 : decode cX12_init 53 = .ok (.aload_n 0, 1) := by decide +kernel
theorem dX12_init_54 : decode cX12_init 54 = .ok (.bipush 40, 2) := by decide +kernel
theorem dX12_init_56 : decode cX12_init 56 = .ok (.newarray .boolean, 2) := by decide +kernel
theorem dX12_init_58 : decode cX12_init 58 = .ok (.putfield 29, 3) := by decide +kernel
theorem dX12_init_61 : decode cX12_init 61 = .ok (.aload_n 0, 1) := by decide +kernel
theorem dX12_init_62 : decode cX12_init 62 = .ok (.sipush 240, 3) := by decide +kernel
theorem dX12_init_65 : decode cX12_init 65 = .ok (.newarray .byte, 2) := by decide +kernel
theorem dX12_init_67 : decode cX12_init 67 = .ok (.putfield 33, 3) := by decide +kernel
theorem dX12_init_70 : decode cX12_init 70 = .ok (.aload_n 0, 1) := by decide +kernel
theorem dX12_init_71 : decode cX12_init 71 = .ok (.bipush 24, 2) := by decide +kernel
theorem dX12_init_73 : decode cX12_init 73 = .ok (.newarray .int, 2) := by decide +kernel
theorem dX12_init_75 : decode cX12_init 75 = .ok (.putfield 36, 3) := by decide +kernel
theorem dX12_init_78 : decode cX12_init 78 = .ok (.aload_n 0, 1) := by decide +kernel
theorem dX12_init_79 : decode cX12_init 79 = .ok (.bipush 24, 2) := by decide +kernel
theorem dX12_init_81 : decode cX12_init 81 = .ok (.newarray .int, 2) := by decide +kernel
theorem dX12_init_83 : decode cX12_init 83 = .ok (.putfield 39, 3) := by decide +kernel
theorem dX12_init_86 : decode cX12_init 86 = .ok (.aload_n 0, 1) := by decide +kernel
theorem dX12_init_87 : decode cX12_init 87 = .ok (.bipush 24, 2) := by decide +kernel
theorem dX12_init_89 : decode cX12_init 89 = .ok (.newarray .int, 2) := by decide +kernel
theorem dX12_init_91 : decode cX12_init 91 = .ok (.putfield 42, 3) := by decide +kernel
theorem dX12_init_94 : decode cX12_init 94 = .ok (.aload_n 0, 1) := by decide +kernel
theorem dX12_init_95 : decode cX12_init 95 = .ok (.bipush 24, 2) := by decide +kernel
theorem dX12_init_97 : decode cX12_init 97 = .ok (.newarray .int, 2) := by decide +kernel
theorem dX12_init_99 : decode cX12_init 99 = .ok (.putfield 45, 3) := by decide +kernel
theorem dX12_init_102 : decode cX12_init 102 = .ok (.aload_n 0, 1) := by decide +kernel
theorem dX12_init_103 : decode cX12_init 103 = .ok (.bipush 24, 2) := by decide +kernel
theorem dX12_init_105 : decode cX12_init 105 = .ok (.newarray .int, 2) := by decide +kernel
theorem dX12_init_107 : decode cX12_init 107 = .ok (.putfield 48, 3) := by decide +kernel
theorem dX12_init_110 : decode cX12_init 110 = .ok (.aload_n 0, 1) := by decide +kernel
theorem dX12_init_111 : decode cX12_init 111 = .ok (.bipush 24, 2) := by decide +kernel
theorem dX12_init_113 : decode cX12_init 113 = .ok (.newarray .int, 2) := by decide +kernel
theorem dX12_init_115 : decode cX12_init 115 = .ok (.putfield 51, 3) := by decide +kernel
theorem dX12_init_118 : decode cX12_init 118 = .ok (.aload_n 0, 1) := by decide +kernel
theorem dX12_init_119 : decode cX12_init 119 = .ok (.bipush 36, 2) := by decide +kernel
theorem dX12_init_121 : decode cX12_init 121 = .ok (.newarray .boolean, 2) := by decide +kernel
theorem dX12_init_123 : decode cX12_init 123 = .ok (.putfield 54, 3) := by decide +kernel
theorem dX12_init_126 : decode cX12_init 126 = .ok (.aload_n 0, 1) := by decide +kernel
theorem dX12_init_127 : decode cX12_init 127 = .ok (.bipush 36, 2) := by decide +kernel
theorem dX12_init_129 : decode cX12_init 129 = .ok (.newarray .int, 2) := by decide +kernel
theorem dX12_init_131 : decode cX12_init 131 = .ok (.putfield 57, 3) := by decide +kernel
theorem dX12_init_134 : decode cX12_init 134 = .ok (.aload_n 0, 1) := by decide +kernel
theorem dX12_init_135 : decode cX12_init 135 = .ok (.bipush 20, 2) := by decide +kernel
theorem dX12_init_137 : decode cX12_init 137 = .ok (.newarray .int, 2) := by decide +kernel
theorem dX12_init_139 : decode cX12_init 139 = .ok (.putfield 60, 3) := by decide +kernel
theorem dX12_init_142 : decode cX12_init 142 = .ok (.aload_n 0, 1) := by decide +kernel
theorem dX12_init_143 : decode cX12_init 143 = .ok (.iconst 1, 1) := by decide +kernel
theorem dX12_init_144 : decode cX12_init 144 = .ok (.putfield 63, 3) := by decide +kernel
theorem dX12_init_147 : decode cX12_init 147 = .ok (.aload_n 0, 1) := by decide +kernel
theorem dX12_init_148 : decode cX12_init 148 = .ok (.bipush 40, 2) := by decide +kernel
theorem dX12_init_150 : decode cX12_init 150 = .ok (.newarray .int, 2) := by decide +kernel
theorem dX12_init_152 : decode cX12_init 152 = .ok (.putfield 67, 3) := by decide +kernel
theorem dX12_init_155 : decode cX12_init 155 = .ok (.aload_n 0, 1) := by decide +kernel
theorem dX12_init_156 : decode cX12_init 156 = .ok (.bipush 40, 2) := by decide +kernel
theorem dX12_init_158 : decode cX12_init 158 = .ok (.newarray .int, 2) := by decide +kernel
theorem dX12_init_160 : decode cX12_init 160 = .ok (.putfield 70, 3) := by decide +kernel
theorem dX12_init_163 : decode cX12_init 163 = .ok (.aload_n 0, 1) := by decide +kernel
theorem dX12_init_164 : decode cX12_init 164 = .ok (.sipush 480, 3) := by decide +kernel
theorem dX12_init_167 : decode cX12_init 167 = .ok (.newarray .byte, 2) := by decide +kernel
theorem dX12_init_169 : decode cX12_init 169 = .ok (.putfield 73, 3) := by decide +kernel
theorem dX12_init_172 : decode cX12_init 172 = .ok (.aload_n 0, 1) := by decide +kernel
theorem dX12_init_173 : decode cX12_init 173 = .ok (.bipush 40, 2) := by decide +kernel
theorem dX12_init_175 : decode cX12_init 175 = .ok (.newarray .byte, 2) := by decide +kernel
theorem dX12_init_177 : decode cX12_init 177 = .ok (.putfield 76, 3) := by decide +kernel
theorem dX12_init_180 : decode cX12_init 180 = .ok (.aload_n 0, 1) := by decide +kernel
theorem dX12_init_181 : decode cX12_init 181 = .ok (.sipush 1600, 3) := by decide +kernel
theorem dX12_init_184 : decode cX12_init 184 = .ok (.newarray .int, 2) := by decide +kernel
theorem dX12_init_186 : decode cX12_init 186 = .ok (.putfield 79, 3) := by decide +kernel
theorem dX12_init_189 : decode cX12_init 189 = .ok (.aload_n 0, 1) := by decide +kernel
theorem dX12_init_190 : decode cX12_init 190 = .ok (.sipush 6560, 3) := by decide +kernel
theorem dX12_init_193 : decode cX12_init 193 = .ok (.newarray .boolean, 2) := by decide +kernel
theorem dX12_init_195 : decode cX12_init 195 = .ok (.putfield 82, 3) := by decide +kernel
theorem dX12_init_198 : decode cX12_init 198 = .ok (.aload_n 0, 1) := by decide +kernel
theorem dX12_init_199 : decode cX12_init 199 = .ok (.sipush 6560, 3) := by decide +kernel
theorem dX12_init_202 : decode cX12_init 202 = .ok (.newarray .long, 2) := by decide +kernel
theorem dX12_init_204 : decode cX12_init 204 = .ok (.putfield 85, 3) := by decide +kernel
theorem dX12_init_207 : decode cX12_init 207 = .ok (.aload_n 0, 1) := by decide +kernel
theorem dX12_init_208 : decode cX12_init 208 = .ok (.ldc 89, 2) := by decide +kernel
theorem dX12_init_210 : decode cX12_init 210 = .ok (.newarray .int, 2) := by decide +kernel
theorem dX12_init_212 : decode cX12_init 212 = .ok (.putfield 90, 3) := by decide +kernel
theorem dX12_init_215 : decode cX12_init 215 = .ok (.aload_n 0, 1) := by decide +kernel
theorem dX12_init_216 : decode cX12_init 216 = .ok (.sipush 6560, 3) := by decide +kernel
theorem dX12_init_219 : decode cX12_init 219 = .ok (.newarray .int, 2) := by decide +kernel
theorem dX12_init_221 : decode cX12_init 221 = .ok (.putfield 93, 3) := by decide +kernel
theorem dX12_init_224 : decode cX12_init 224 = .ok (.aload_n 0, 1) := by decide +kernel
theorem dX12_init_225 : decode cX12_init 225 = .ok (.bipush 8, 2) := by decide +kernel
theorem dX12_init_227 : decode cX12_init 227 = .ok (.newarray .int, 2) := by decide +kernel
theorem dX12_init_229 : decode cX12_init 229 = .ok (.putfield 96, 3) := by decide +kernel
theorem dX12_init_232 : decode cX12_init 232 = .ok (.aload_n 0, 1) := by decide +kernel
theorem dX12_init_233 : decode cX12_init 233 = .ok (.bipush 8, 2) := by decide +kernel
theorem dX12_init_235 : decode cX12_init 235 = .ok (.newarray .int, 2) := by decide +kernel
theorem dX12_init_237 : decode cX12_init 237 = .ok (.putfield 99, 3) := by decide +kernel
theorem dX12_init_240 : decode cX12_init 240 = .ok (.aload_n 0, 1) := by decide +kernel
theorem dX12_init_241 : decode cX12_init 241 = .ok (.sipush 320, 3) := by decide +kernel
theorem dX12_init_244 : decode cX12_init 244 = .ok (.newarray .int, 2) := by decide +kernel
theorem dX12_init_246 : decode cX12_init 246 = .ok (.putfield 102, 3) := by decide +kernel
theorem dX12_init_249 : decode cX12_init 249 = .ok (.aload_n 0, 1) := by decide +kernel
theorem dX12_init_250 : decode cX12_init 250 = .ok (.sipush 320, 3) := by decide +kernel
theorem dX12_init_253 : decode cX12_init 253 = .ok (.newarray .int, 2) := by decide +kernel
theorem dX12_init_255 : decode cX12_init 255 = .ok (.putfield 105, 3) := by decide +kernel
theorem dX12_init_258 : decode cX12_init 258 = .ok (.aload_n 0, 1) := by decide +kernel
theorem dX12_init_259 : decode cX12_init 259 = .ok (.bipush 40, 2) := by decide +kernel
theorem dX12_init_261 : decode cX12_init 261 = .ok (.newarray .int, 2) := by decide +kernel
theorem dX12_init_263 : decode cX12_init 263 = .ok (.putfield 108, 3) := by decide +kernel
theorem dX12_init_266 : decode cX12_init 266 = .ok (.aload_n 0, 1) := by decide +kernel
theorem dX12_init_267 : decode cX12_init 267 = .ok (.sipush 9600, 3) := by decide +kernel
theorem dX12_init_270 : decode cX12_init 270 = .ok (.newarray .long, 2) := by decide +kernel
theorem dX12_init_272 : decode cX12_init 272 = .ok (.putfield 111, 3) := by decide +kernel
theorem dX12_init_275 : decode cX12_init 275 = .ok (.aload_n 0, 1) := by decide +kernel
theorem dX12_init_276 : decode cX12_init 276 = .ok (.bipush 31, 2) := by decide +kernel
theorem dX12_init_278 : decode cX12_init 278 = .ok (.newarray .int, 2) := by decide +kernel
theorem dX12_init_280 : decode cX12_init 280 = .ok (.putfield 114, 3) := by decide +kernel
theorem dX12_init_283 : decode cX12_init 283 = .ok (.aload_n 0, 1) := by decide +kernel
theorem dX12_init_284 : decode cX12_init 284 = .ok (.sipush 1860, 3) := by decide +kernel
theorem dX12_init_287 : decode cX12_init 287 = .ok (.newarray .int, 2) := by decide +kernel
theorem dX12_init_289 : decode cX12_init 289 = .ok (.putfield 117, 3) := by decide +kernel
theorem dX12_init_292 : decode cX12_init 292 = .ok (.iconst 0, 1) := by decide +kernel
theorem dX12_init_293 : decode cX12_init 293 = .ok (.istore_n 1, 1) := by decide +kernel
theorem dX12_init_294 : decode cX12_init 294 = .ok (.iload_n 1, 1) := by decide +kernel
theorem dX12_init_295 : decode cX12_init 295 = .ok (.bipush 36, 2) := by decide +kernel
theorem dX12_init_297 : decode cX12_init 297 = .ok (.if_icmp .ge 16, 3) := by decide +kernel
theorem dX12_init_300 : decode cX12_init 300 = .ok (.aload_n 0, 1) := by decide +kernel
theorem dX12_init_301 : decode cX12_init 301 = .ok (.getfield 57, 3) := by decide +kernel
theorem dX12_init_304 : decode cX12_init 304 = .ok (.iload_n 1, 1) := by decide +kernel
theorem dX12_init_305 : decode cX12_init 305 = .ok (.iconst (-1), 1) := by decide +kernel
theorem dX12_init_306 : decode cX12_init 306 = .ok (.iastore, 1) := by decide +kernel
theorem dX12_init_307 : decode cX12_init 307 = .ok (.iinc 1 1, 3) := by decide +kernel
theorem dX12_init_310 : decode cX12_init 310 = .ok (.goto (-16), 3) := by decide +kernel
theorem dX12_init_313 : decode cX12_init 313 = .ok (.return_, 1) := by decide +kernel
theorem dX12_in_0 : decode cX12_in 0 = .ok (.iload_n 0, 1) := by decide +kernel
theorem dX12_in_1 : decode cX12_in 1 = .ok (.iload_n 1, 1) := by decide +kernel
theorem dX12_in_2 : decode cX12_in 2 = .ok (.if_icmp .lt 12, 3) := by decide +kernel
theorem dX12_in_5 : decode cX12_in 5 = .ok (.iload_n 0, 1) := by decide +kernel
theorem dX12_in_6 : decode cX12_in 6 = .ok (.iload_n 2, 1) := by decide +kernel
theorem dX12_in_7 : decode cX12_in 7 = .ok (.if_icmp .gt 7, 3) := by decide +kernel
theorem dX12_in_10 : decode cX12_in 10 = .ok (.iconst 1, 1) := by decide +kernel
theorem dX12_in_11 : decode cX12_in 11 = .ok (.goto 4, 3) := by decide +kernel
theorem dX12_in_14 : decode cX12_in 14 = .ok (.iconst 0, 1) := by decide +kernel
theorem dX12_in_15 : decode cX12_in 15 = .ok (.ireturn, 1) := by decide +kernel
theorem dX12_four_0 : decode cX12_four 0 = .ok (.bipush 24, 2) := by decide +kernel
theorem dX12_four_2 : decode cX12_four 2 = .ok (.istore_n 2, 1) := by decide +kernel
theorem dX12_four_3 : decode cX12_four 3 = .ok (.iload_n 2, 1) := by decide +kernel
theorem dX12_four_4 : decode cX12_four 4 = .ok (.ifCond .lt 32, 3) := by decide +kernel
theorem dX12_four_7 : decode cX12_four 7 = .ok (.aload_n 0, 1) := by decide +kernel
theorem dX12_four_8 : decode cX12_four 8 = .ok (.getfield 7, 3) := by decide +kernel
theorem dX12_four_11 : decode cX12_four 11 = .ok (.aload_n 0, 1) := by decide +kernel
theorem dX12_four_12 : decode cX12_four 12 = .ok (.getfield 120, 3) := by decide +kernel
theorem dX12_four_15 : decode cX12_four 15 = .ok (.iload_n 1, 1) := by decide +kernel
theorem dX12_four_16 : decode cX12_four 16 = .ok (.iload_n 2, 1) := by decide +kernel
theorem dX12_four_17 : decode cX12_four 17 = .ok (.ishr, 1) := by decide +kernel
theorem dX12_four_18 : decode cX12_four 18 = .ok (.i2b, 1) := by decide +kernel
theorem dX12_four_19 : decode cX12_four 19 = .ok (.bastore, 1) := by decide +kernel
theorem dX12_four_20 : decode cX12_four 20 = .ok (.aload_n 0, 1) := by decide +kernel
theorem dX12_four_21 : decode cX12_four 21 = .ok (.dup, 1) := by decide +kernel
theorem dX12_four_22 : decode cX12_four 22 = .ok (.getfield 120, 3) := by decide +kernel
theorem dX12_four_25 : decode cX12_four 25 = .ok (.iconst 1, 1) := by decide +kernel
theorem dX12_four_26 : decode cX12_four 26 = .ok (.iadd, 1) := by decide +kernel
theorem dX12_four_27 : decode cX12_four 27 = .ok (.putfield 120, 3) := by decide +kernel
theorem dX12_four_30 : decode cX12_four 30 = .ok (.iinc 2 (-8), 3) := by decide +kernel
theorem dX12_four_33 : decode cX12_four 33 = .ok (.goto (-30), 3) := by decide +kernel
theorem dX12_four_36 : decode cX12_four 36 = .ok (.return_, 1) := by decide +kernel
theorem dX12_feed_0 : decode cX12_feed 0 = .ok (.aload_n 0, 1) := by decide +kernel
theorem dX12_feed_1 : decode cX12_feed 1 = .ok (.getfield 120, 3) := by decide +kernel
theorem dX12_feed_4 : decode cX12_feed 4 = .ok (.bipush 20, 2) := by decide +kernel
theorem dX12_feed_6 : decode cX12_feed 6 = .ok (.iadd, 1) := by decide +kernel
theorem dX12_feed_7 : decode cX12_feed 7 = .ok (.bipush 60, 2) := by decide +kernel
theorem dX12_feed_9 : decode cX12_feed 9 = .ok (.if_icmp .le 5, 3) := by decide +kernel
theorem dX12_feed_12 : decode cX12_feed 12 = .ok (.iconst (-1), 1) := by decide +kernel
theorem dX12_feed_13 : decode cX12_feed 13 = .ok (.ireturn, 1) := by decide +kernel
theorem dX12_feed_14 : decode cX12_feed 14 = .ok (.aload_n 0, 1) := by decide +kernel
theorem dX12_feed_15 : decode cX12_feed 15 = .ok (.iload_n 1, 1) := by decide +kernel
theorem dX12_feed_16 : decode cX12_feed 16 = .ok (.invokevirtual 123, 3) := by decide +kernel
theorem dX12_feed_19 : decode cX12_feed 19 = .ok (.aload_n 0, 1) := by decide +kernel
theorem dX12_feed_20 : decode cX12_feed 20 = .ok (.iload_n 2, 1) := by decide +kernel
theorem dX12_feed_21 : decode cX12_feed 21 = .ok (.invokevirtual 123, 3) := by decide +kernel
theorem dX12_feed_24 : decode cX12_feed 24 = .ok (.aload_n 0, 1) := by decide +kernel
theorem dX12_feed_25 : decode cX12_feed 25 = .ok (.iload_n 3, 1) := by decide +kernel
theorem dX12_feed_26 : decode cX12_feed 26 = .ok (.invokevirtual 123, 3) := by decide +kernel
theorem dX12_feed_29 : decode cX12_feed 29 = .ok (.aload_n 0, 1) := by decide +kernel
theorem dX12_feed_30 : decode cX12_feed 30 = .ok (.iload 4, 2) := by decide +kernel
theorem dX12_feed_32 : decode cX12_feed 32 = .ok (.invokevirtual 123, 3) := by decide +kernel
theorem dX12_feed_35 : decode cX12_feed 35 = .ok (.aload_n 0, 1) := by decide +kernel
theorem dX12_feed_36 : decode cX12_feed 36 = .ok (.iload 5, 2) := by decide +kernel
theorem dX12_feed_38 : decode cX12_feed 38 = .ok (.invokevirtual 123, 3) := by decide +kernel
theorem dX12_feed_41 : decode cX12_feed 41 = .ok (.aload_n 0, 1) := by decide +kernel
theorem dX12_feed_42 : decode cX12_feed 42 = .ok (.getfield 120, 3) := by decide +kernel
theorem dX12_feed_45 : decode cX12_feed 45 = .ok (.ireturn, 1) := by decide +kernel
theorem dX12_end_0 : decode cX12_end 0 = .ok (.iload_n 1, 1) := by decide +kernel
theorem dX12_end_1 : decode cX12_end 1 = .ok (.ifCond .lt 11, 3) := by decide +kernel
theorem dX12_end_4 : decode cX12_end 4 = .ok (.iload_n 1, 1) := by decide +kernel
theorem dX12_end_5 : decode cX12_end 5 = .ok (.aload_n 0, 1) := by decide +kernel
theorem dX12_end_6 : decode cX12_end 6 = .ok (.getfield 120, 3) := by decide +kernel
theorem dX12_end_9 : decode cX12_end 9 = .ok (.if_icmp .le 5, 3) := by decide +kernel
theorem dX12_end_12 : decode cX12_end 12 = .ok (.iconst (-1), 1) := by decide +kernel
theorem dX12_end_13 : decode cX12_end 13 = .ok (.ireturn, 1) := by decide +kernel
theorem dX12_end_14 : decode cX12_end 14 = .ok (.aload_n 0, 1) := by decide +kernel
theorem dX12_end_15 : decode cX12_end 15 = .ok (.iload_n 1, 1) := by decide +kernel
theorem dX12_end_16 : decode cX12_end 16 = .ok (.putfield 120, 3) := by decide +kernel
theorem dX12_end_19 : decode cX12_end 19 = .ok (.iload_n 1, 1) := by decide +kernel
theorem dX12_end_20 : decode cX12_end 20 = .ok (.ireturn, 1) := by decide +kernel
theorem dX12_isText_0 : decode cX12_isText 0 = .ok (.iconst 0, 1) := by decide +kernel
theorem dX12_isText_1 : decode cX12_isText 1 = .ok (.istore_n 1, 1) := by decide +kernel
theorem dX12_isText_2 : decode cX12_isText 2 = .ok (.iload_n 1, 1) := by decide +kernel
theorem dX12_isText_3 : decode cX12_isText 3 = .ok (.aload_n 0, 1) := by decide +kernel
theorem dX12_isText_4 : decode cX12_isText 4 = .ok (.getfield 120, 3) := by decide +kernel
theorem dX12_isText_7 : decode cX12_isText 7 = .ok (.if_icmp .ge 33, 3) := by decide +kernel
theorem dX12_isText_10 : decode cX12_isText 10 = .ok (.aload_n 0, 1) := by decide +kernel
theorem dX12_isText_11 : decode cX12_isText 11 = .ok (.getfield 7, 3) := by decide +kernel
theorem dX12_isText_14 : decode cX12_isText 14 = .ok (.iload_n 1, 1) := by decide +kernel
theorem dX12_isText_15 : decode cX12_isText 15 = .ok (.baload, 1) := by decide +kernel
theorem dX12_isText_16 : decode cX12_isText 16 = .ok (.bipush 97, 2) := by decide +kernel
theorem dX12_isText_18 : decode cX12_isText 18 = .ok (.if_icmp .lt 14, 3) := by decide +kernel
theorem dX12_isText_21 : decode cX12_isText 21 = .ok (.aload_n 0, 1) := by decide +kernel
theorem dX12_isText_22 : decode cX12_isText 22 = .ok (.getfield 7, 3) := by decide +kernel
theorem dX12_isText_25 : decode cX12_isText 25 = .ok (.iload_n 1, 1) := by decide +kernel
theorem dX12_isText_26 : decode cX12_isText 26 = .ok (.baload, 1) := by decide +kernel
theorem dX12_isText_27 : decode cX12_isText 27 = .ok (.bipush 122, 2) := by decide +kernel
theorem dX12_isText_29 : decode cX12_isText 29 = .ok (.if_icmp .le 5, 3) := by decide +kernel
theorem dX12_isText_32 : decode cX12_isText 32 = .ok (.iconst 0, 1) := by decide +kernel
theorem dX12_isText_33 : decode cX12_isText 33 = .ok (.ireturn, 1) := by decide +kernel
theorem dX12_isText_34 : decode cX12_isText 34 = .ok (.iinc 1 1, 3) := by decide +kernel
theorem dX12_isText_37 : decode cX12_isText 37 = .ok (.goto (-35), 3) := by decide +kernel
theorem dX12_isText_40 : decode cX12_isText 40 = .ok (.iconst 1, 1) := by decide +kernel
theorem dX12_isText_41 : decode cX12_isText 41 = .ok (.ireturn, 1) := by decide +kernel
theorem dX12_form_0 : decode cX12_form 0 = .ok (.aload_n 0, 1) := by decide +kernel
theorem dX12_form_1 : decode cX12_form 1 = .ok (.getfield 120, 3) := by decide +kernel
theorem dX12_form_4 : decode cX12_form 4 = .ok (.istore 5, 2) := by decide +kernel
theorem dX12_form_6 : decode cX12_form 6 = .ok (.aload_n 0, 1) := by decide +kernel
theorem dX12_form_7 : decode cX12_form 7 = .ok (.invokevirtual 127, 3) := by decide +kernel
theorem dX12_form_10 : decode cX12_form 10 = .ok (.ifCond .eq 56, 3) := by decide +kernel
theorem dX12_form_13 : decode cX12_form 13 = .ok (.aload_n 0, 1) := by decide +kernel
theorem dX12_form_14 : decode cX12_form 14 = .ok (.getfield 131, 3) := by decide +kernel
theorem dX12_form_17 : decode cX12_form 17 = .ok (.bipush 40, 2) := by decide +kernel
theorem dX12_form_19 : decode cX12_form 19 = .ok (.if_icmp .ge 47, 3) := by decide +kernel
theorem dX12_form_22 : decode cX12_form 22 = .ok (.iload 5, 2) := by decide +kernel
theorem dX12_form_24 : decode cX12_form 24 = .ok (.iconst 1, 1) := by decide +kernel
theorem dX12_form_25 : decode cX12_form 25 = .ok (.bipush 8, 2) := by decide +kernel
theorem dX12_form_27 : decode cX12_form 27 = .ok (.invokestatic 134, 3) := by decide +kernel
theorem dX12_form_30 : decode cX12_form 30 = .ok (.ifCond .eq 36, 3) := by decide +kernel
theorem dX12_form_33 : decode cX12_form 33 = .ok (.iload_n 1, 1) := by decide +kernel
theorem dX12_form_34 : decode cX12_form 34 = .ok (.iconst 0, 1) := by decide +kernel
theorem dX12_form_35 : decode cX12_form 35 = .ok (.iconst 5, 1) := by decide +kernel
theorem dX12_form_36 : decode cX12_form 36 = .ok (.invokestatic 134, 3) := by decide +kernel
theorem dX12_form_39 : decode cX12_form 39 = .ok (.ifCond .eq 27, 3) := by decide +kernel
theorem dX12_form_42 : decode cX12_form 42 = .ok (.iload_n 2, 1) := by decide +kernel
theorem dX12_form_43 : decode cX12_form 43 = .ok (.iconst 0, 1) := by decide +kernel
theorem dX12_form_44 : decode cX12_form 44 = .ok (.bipush 19, 2) := by decide +kernel
theorem dX12_form_46 : decode cX12_form 46 = .ok (.invokestatic 134, 3) := by decide +kernel
theorem dX12_form_49 : decode cX12_form 49 = .ok (.ifCond .eq 17, 3) := by decide +kernel
theorem dX12_form_52 : decode cX12_form 52 = .ok (.iload_n 3, 1) := by decide +kernel
theorem dX12_form_53 : decode cX12_form 53 = .ok (.iconst 0, 1) := by decide +kernel
theorem dX12_form_54 : decode cX12_form 54 = .ok (.bipush 99, 2) := by decide +kernel
theorem dX12_form_56 : decode cX12_form 56 = .ok (.invokestatic 134, 3) := by decide +kernel
theorem dX12_form_59 : decode cX12_form 59 = .ok (.ifCond .eq 7, 3) := by decide +kernel
theorem dX12_form_62 : decode cX12_form 62 = .ok (.iconst 1, 1) := by decide +kernel
theorem dX12_form_63 : decode cX12_form 63 = .ok (.goto 4, 3) := by decide +kernel
theorem dX12_form_66 : decode cX12_form 66 = .ok (.iconst 0, 1) := by decide +kernel
theorem dX12_form_67 : decode cX12_form 67 = .ok (.istore 6, 2) := by decide +kernel
theorem dX12_form_69 : decode cX12_form 69 = .ok (.aload_n 0, 1) := by decide +kernel
theorem dX12_form_70 : decode cX12_form 70 = .ok (.iconst 0, 1) := by decide +kernel
theorem dX12_form_71 : decode cX12_form 71 = .ok (.putfield 120, 3) := by decide +kernel
theorem dX12_form_74 : decode cX12_form 74 = .ok (.iload 6, 2) := by decide +kernel
theorem dX12_form_76 : decode cX12_form 76 = .ok (.ifCond .ne 5, 3) := by decide +kernel
theorem dX12_form_79 : decode cX12_form 79 = .ok (.iconst (-1), 1) := by decide +kernel
theorem dX12_form_80 : decode cX12_form 80 = .ok (.ireturn, 1) := by decide +kernel
theorem dX12_form_81 : decode cX12_form 81 = .ok (.iconst 0, 1) := by decide +kernel
theorem dX12_form_82 : decode cX12_form 82 = .ok (.istore 7, 2) := by decide +kernel
theorem dX12_form_84 : decode cX12_form 84 = .ok (.iload 7, 2) := by decide +kernel
theorem dX12_form_86 : decode cX12_form 86 = .ok (.iload 5, 2) := by decide +kernel
theorem dX12_form_88 : decode cX12_form 88 = .ok (.if_icmp .ge 31, 3) := by decide +kernel
theorem dX12_form_91 : decode cX12_form 91 = .ok (.aload_n 0, 1) := by decide +kernel
theorem dX12_form_92 : decode cX12_form 92 = .ok (.getfield 13, 3) := by decide +kernel
theorem dX12_form_95 : decode cX12_form 95 = .ok (.bipush 8, 2) := by decide +kernel
theorem dX12_form_97 : decode cX12_form 97 = .ok (.aload_n 0, 1) := by decide +kernel
theorem dX12_form_98 : decode cX12_form 98 = .ok (.getfield 131, 3) := by decide +kernel
theorem dX12_form_101 : decode cX12_form 101 = .ok (.imul, 1) := by decide +kernel
theorem dX12_form_102 : decode cX12_form 102 = .ok (.iload 7, 2) := by decide +kernel
theorem dX12_form_104 : decode cX12_form 104 = .ok (.iadd, 1) := by decide +kernel
theorem dX12_form_105 : decode cX12_form 105 = .ok (.aload_n 0, 1) := by decide +kernel
theorem dX12_form_106 : decode cX12_form 106 = .ok (.getfield 7, 3) := by decide +kernel
theorem dX12_form_109 : decode cX12_form 109 = .ok (.iload 7, 2) := by decide +kernel
theorem dX12_form_111 : decode cX12_form 111 = .ok (.baload, 1) := by decide +kernel
theorem dX12_form_112 : decode cX12_form 112 = .ok (.bastore, 1) := by decide +kernel
theorem dX12_form_113 : decode cX12_form 113 = .ok (.iinc 7 1, 3) := by decide +kernel
theorem dX12_form_116 : decode cX12_form 116 = .ok (.goto (-32), 3) := by decide +kernel
theorem dX12_form_119 : decode cX12_form 119 = .ok (.aload_n 0, 1) := by decide +kernel
theorem dX12_form_120 : decode cX12_form 120 = .ok (.getfield 16, 3) := by decide +kernel
theorem dX12_form_123 : decode cX12_form 123 = .ok (.aload_n 0, 1) := by decide +kernel
theorem dX12_form_124 : decode cX12_form 124 = .ok (.getfield 131, 3) := by decide +kernel
theorem dX12_form_127 : decode cX12_form 127 = .ok (.iload 5, 2) := by decide +kernel
theorem dX12_form_129 : decode cX12_form 129 = .ok (.iastore, 1) := by decide +kernel
theorem dX12_form_130 : decode cX12_form 130 = .ok (.aload_n 0, 1) := by decide +kernel
theorem dX12_form_131 : decode cX12_form 131 = .ok (.getfield 20, 3) := by decide +kernel
theorem dX12_form_134 : decode cX12_form 134 = .ok (.aload_n 0, 1) := by decide +kernel
theorem dX12_form_135 : decode cX12_form 135 = .ok (.getfield 131, 3) := by decide +kernel
theorem dX12_form_138 : decode cX12_form 138 = .ok (.iload_n 1, 1) := by decide +kernel
theorem dX12_form_139 : decode cX12_form 139 = .ok (.iastore, 1) := by decide +kernel
theorem dX12_form_140 : decode cX12_form 140 = .ok (.aload_n 0, 1) := by decide +kernel
theorem dX12_form_141 : decode cX12_form 141 = .ok (.getfield 23, 3) := by decide +kernel
theorem dX12_form_144 : decode cX12_form 144 = .ok (.aload_n 0, 1) := by decide +kernel
theorem dX12_form_145 : decode cX12_form 145 = .ok (.getfield 131, 3) := by decide +kernel
theorem dX12_form_148 : decode cX12_form 148 = .ok (.iload_n 2, 1) := by decide +kernel
theorem dX12_form_149 : decode cX12_form 149 = .ok (.iastore, 1) := by decide +kernel
theorem dX12_form_150 : decode cX12_form 150 = .ok (.aload_n 0, 1) := by decide +kernel
theorem dX12_form_151 : decode cX12_form 151 = .ok (.getfield 26, 3) := by decide +kernel
theorem dX12_form_154 : decode cX12_form 154 = .ok (.aload_n 0, 1) := by decide +kernel
theorem dX12_form_155 : decode cX12_form 155 = .ok (.getfield 131, 3) := by decide +kernel
theorem dX12_form_158 : decode cX12_form 158 = .ok (.iload_n 3, 1) := by decide +kernel
theorem dX12_form_159 : decode cX12_form 159 = .ok (.iastore, 1) := by decide +kernel
theorem dX12_form_160 : decode cX12_form 160 = .ok (.aload_n 0, 1) := by decide +kernel
theorem dX12_form_161 : decode cX12_form 161 = .ok (.getfield 29, 3) := by decide +kernel
theorem dX12_form_164 : decode cX12_form 164 = .ok (.aload_n 0, 1) := by decide +kernel
theorem dX12_form_165 : decode cX12_form 165 = .ok (.getfield 131, 3) := by decide +kernel
theorem dX12_form_168 : decode cX12_form 168 = .ok (.iload 4, 2) := by decide +kernel
theorem dX12_form_170 : decode cX12_form 170 = .ok (.bastore, 1) := by decide +kernel
theorem dX12_form_171 : decode cX12_form 171 = .ok (.aload_n 0, 1) := by decide +kernel
theorem dX12_form_172 : decode cX12_form 172 = .ok (.dup, 1) := by decide +kernel
theorem dX12_form_173 : decode cX12_form 173 = .ok (.getfield 131, 3) := by decide +kernel
theorem dX12_form_176 : decode cX12_form 176 = .ok (.iconst 1, 1) := by decide +kernel
theorem dX12_form_177 : decode cX12_form 177 = .ok (.iadd, 1) := by decide +kernel
theorem dX12_form_178 : decode cX12_form 178 = .ok (.putfield 131, 3) := by decide +kernel
theorem dX12_form_181 : decode cX12_form 181 = .ok (.aload_n 0, 1) := by decide +kernel
theorem dX12_form_182 : decode cX12_form 182 = .ok (.getfield 131, 3) := by decide +kernel
theorem dX12_form_185 : decode cX12_form 185 = .ok (.iconst 1, 1) := by decide +kernel
theorem dX12_form_186 : decode cX12_form 186 = .ok (.isub, 1) := by decide +kernel
theorem dX12_form_187 : decode cX12_form 187 = .ok (.ireturn, 1) := by decide +kernel
theorem dX12_rule_0 : decode cX12_rule 0 = .ok (.aload_n 0, 1) := by decide +kernel
theorem dX12_rule_1 : decode cX12_rule 1 = .ok (.getfield 120, 3) := by decide +kernel
theorem dX12_rule_4 : decode cX12_rule 4 = .ok (.istore 6, 2) := by decide +kernel
theorem dX12_rule_6 : decode cX12_rule 6 = .ok (.aload_n 0, 1) := by decide +kernel
theorem dX12_rule_7 : decode cX12_rule 7 = .ok (.invokevirtual 127, 3) := by decide +kernel
theorem dX12_rule_10 : decode cX12_rule 10 = .ok (.ifCond .eq 87, 3) := by decide +kernel
theorem dX12_rule_13 : decode cX12_rule 13 = .ok (.aload_n 0, 1) := by decide +kernel
theorem dX12_rule_14 : decode cX12_rule 14 = .ok (.getfield 138, 3) := by decide +kernel
theorem dX12_rule_17 : decode cX12_rule 17 = .ok (.bipush 24, 2) := by decide +kernel
theorem dX12_rule_19 : decode cX12_rule 19 = .ok (.if_icmp .ge 78, 3) := by decide +kernel
theorem dX12_rule_22 : decode cX12_rule 22 = .ok (.iload_n 1, 1) := by decide +kernel
theorem dX12_rule_23 : decode cX12_rule 23 = .ok (.iconst 0, 1) := by decide +kernel
theorem dX12_rule_24 : decode cX12_rule 24 = .ok (.iconst 3, 1) := by decide +kernel
theorem dX12_rule_25 : decode cX12_rule 25 = .ok (.invokestatic 134, 3) := by decide +kernel
theorem dX12_rule_28 : decode cX12_rule 28 = .ok (.ifCond .eq 69, 3) := by decide +kernel
theorem dX12_rule_31 : decode cX12_rule 31 = .ok (.iload_n 2, 1) := by decide +kernel
theorem dX12_rule_32 : decode cX12_rule 32 = .ok (.iconst 0, 1) := by decide +kernel
theorem dX12_rule_33 : decode cX12_rule 33 = .ok (.iconst 3, 1) := by decide +kernel
theorem dX12_rule_34 : decode cX12_rule 34 = .ok (.invokestatic 134, 3) := by decide +kernel
theorem dX12_rule_37 : decode cX12_rule 37 = .ok (.ifCond .eq 60, 3) := by decide +kernel
theorem dX12_rule_40 : decode cX12_rule 40 = .ok (.iload_n 1, 1) := by decide +kernel
theorem dX12_rule_41 : decode cX12_rule 41 = .ok (.iload_n 2, 1) := by decide +kernel
theorem dX12_rule_42 : decode cX12_rule 42 = .ok (.iadd, 1) := by decide +kernel
theorem dX12_rule_43 : decode cX12_rule 43 = .ok (.ifCond .le 54, 3) := by decide +kernel
theorem dX12_rule_46 : decode cX12_rule 46 = .ok (.iload 6, 2) := by decide +kernel
theorem dX12_rule_48 : decode cX12_rule 48 = .ok (.iload_n 1, 1) := by decide +kernel
theorem dX12_rule_49 : decode cX12_rule 49 = .ok (.isub, 1) := by decide +kernel
theorem dX12_rule_50 : decode cX12_rule 50 = .ok (.iload_n 2, 1) := by decide +kernel
theorem dX12_rule_51 : decode cX12_rule 51 = .ok (.isub, 1) := by decide +kernel
theorem dX12_rule_52 : decode cX12_rule 52 = .ok (.iconst 0, 1) := by decide +kernel
theorem dX12_rule_53 : decode cX12_rule 53 = .ok (.iconst 4, 1) := by decide +kernel
theorem dX12_rule_54 : decode cX12_rule 54 = .ok (.invokestatic 134, 3) := by decide +kernel
theorem dX12_rule_57 : decode cX12_rule 57 = .ok (.ifCond .eq 40, 3) := by decide +kernel
theorem dX12_rule_60 : decode cX12_rule 60 = .ok (.iload_n 3, 1) := by decide +kernel
theorem dX12_rule_61 : decode cX12_rule 61 = .ok (.iconst 0, 1) := by decide +kernel
theorem dX12_rule_62 : decode cX12_rule 62 = .ok (.bipush 99, 2) := by decide +kernel
theorem dX12_rule_64 : decode cX12_rule 64 = .ok (.invokestatic 134, 3) := by decide +kernel
theorem dX12_rule_67 : decode cX12_rule 67 = .ok (.ifCond .eq 30, 3) := by decide +kernel
theorem dX12_rule_70 : decode cX12_rule 70 = .ok (.iload 4, 2) := by decide +kernel
theorem dX12_rule_72 : decode cX12_rule 72 = .ok (.iconst 0, 1) := by decide +kernel
theorem dX12_rule_73 : decode cX12_rule 73 = .ok (.iload 5, 2) := by decide +kernel
theorem dX12_rule_75 : decode cX12_rule 75 = .ok (.invokestatic 134, 3) := by decide +kernel
theorem dX12_rule_78 : decode cX12_rule 78 = .ok (.ifCond .eq 19, 3) := by decide +kernel
theorem dX12_rule_81 : decode cX12_rule 81 = .ok (.iload 5, 2) := by decide +kernel
theorem dX12_rule_83 : decode cX12_rule 83 = .ok (.iconst 0, 1) := by decide +kernel
theorem dX12_rule_84 : decode cX12_rule 84 = .ok (.sipush 999, 3) := by decide +kernel
theorem dX12_rule_87 : decode cX12_rule 87 = .ok (.invokestatic 134, 3) := by decide +kernel
theorem dX12_rule_90 : decode cX12_rule 90 = .ok (.ifCond .eq 7, 3) := by decide +kernel
theorem dX12_rule_93 : decode cX12_rule 93 = .ok (.iconst 1, 1) := by decide +kernel
theorem dX12_rule_94 : decode cX12_rule 94 = .ok (.goto 4, 3) := by decide +kernel
theorem dX12_rule_97 : decode cX12_rule 97 = .ok (.iconst 0, 1) := by decide +kernel
theorem dX12_rule_98 : decode cX12_rule 98 = .ok (.istore 7, 2) := by decide +kernel
theorem dX12_rule_100 : decode cX12_rule 100 = .ok (.aload_n 0, 1) := by decide +kernel
theorem dX12_rule_101 : decode cX12_rule 101 = .ok (.iconst 0, 1) := by decide +kernel
theorem dX12_rule_102 : decode cX12_rule 102 = .ok (.putfield 120, 3) := by decide +kernel
theorem dX12_rule_105 : decode cX12_rule 105 = .ok (.iload 7, 2) := by decide +kernel
theorem dX12_rule_107 : decode cX12_rule 107 = .ok (.ifCond .ne 5, 3) := by decide +kernel
theorem dX12_rule_110 : decode cX12_rule 110 = .ok (.iconst (-1), 1) := by decide +kernel
theorem dX12_rule_111 : decode cX12_rule 111 = .ok (.ireturn, 1) := by decide +kernel
theorem dX12_rule_112 : decode cX12_rule 112 = .ok (.iconst 0, 1) := by decide +kernel
theorem dX12_rule_113 : decode cX12_rule 113 = .ok (.istore 8, 2) := by decide +kernel
theorem dX12_rule_115 : decode cX12_rule 115 = .ok (.iload 8, 2) := by decide +kernel
theorem dX12_rule_117 : decode cX12_rule 117 = .ok (.iload 6, 2) := by decide +kernel
theorem dX12_rule_119 : decode cX12_rule 119 = .ok (.if_icmp .ge 31, 3) := by decide +kernel
theorem dX12_rule_122 : decode cX12_rule 122 = .ok (.aload_n 0, 1) := by decide +kernel
theorem dX12_rule_123 : decode cX12_rule 123 = .ok (.getfield 33, 3) := by decide +kernel
theorem dX12_rule_126 : decode cX12_rule 126 = .ok (.bipush 10, 2) := by decide +kernel
theorem dX12_rule_128 : decode cX12_rule 128 = .ok (.aload_n 0, 1) := by decide +kernel
theorem dX12_rule_129 : decode cX12_rule 129 = .ok (.getfield 138, 3) := by decide +kernel
theorem dX12_rule_132 : decode cX12_rule 132 = .ok (.imul, 1) := by decide +kernel
theorem dX12_rule_133 : decode cX12_rule 133 = .ok (.iload 8, 2) := by decide +kernel
theorem dX12_rule_135 : decode cX12_rule 135 = .ok (.iadd, 1) := by decide +kernel
theorem dX12_rule_136 : decode cX12_rule 136 = .ok (.aload_n 0, 1) := by decide +kernel
theorem dX12_rule_137 : decode cX12_rule 137 = .ok (.getfield 7, 3) := by decide +kernel
theorem dX12_rule_140 : decode cX12_rule 140 = .ok (.iload 8, 2) := by decide +kernel
theorem dX12_rule_142 : decode cX12_rule 142 = .ok (.baload, 1) := by decide +kernel
theorem dX12_rule_143 : decode cX12_rule 143 = .ok (.bastore, 1) := by decide +kernel
theorem dX12_rule_144 : decode cX12_rule 144 = .ok (.iinc 8 1, 3) := by decide +kernel
theorem dX12_rule_147 : decode cX12_rule 147 = .ok (.goto (-32), 3) := by decide +kernel
theorem dX12_rule_150 : decode cX12_rule 150 = .ok (.aload_n 0, 1) := by decide +kernel
theorem dX12_rule_151 : decode cX12_rule 151 = .ok (.getfield 36, 3) := by decide +kernel
theorem dX12_rule_154 : decode cX12_rule 154 = .ok (.aload_n 0, 1) := by decide +kernel
theorem dX12_rule_155 : decode cX12_rule 155 = .ok (.getfield 138, 3) := by decide +kernel
theorem dX12_rule_158 : decode cX12_rule 158 = .ok (.iload_n 1, 1) := by decide +kernel
theorem dX12_rule_159 : decode cX12_rule 159 = .ok (.iastore, 1) := by decide +kernel
theorem dX12_rule_160 : decode cX12_rule 160 = .ok (.aload_n 0, 1) := by decide +kernel
theorem dX12_rule_161 : decode cX12_rule 161 = .ok (.getfield 39, 3) := by decide +kernel
theorem dX12_rule_164 : decode cX12_rule 164 = .ok (.aload_n 0, 1) := by decide +kernel
theorem dX12_rule_165 : decode cX12_rule 165 = .ok (.getfield 138, 3) := by decide +kernel
theorem dX12_rule_168 : decode cX12_rule 168 = .ok (.iload_n 2, 1) := by decide +kernel
theorem dX12_rule_169 : decode cX12_rule 169 = .ok (.iastore, 1) := by decide +kernel
theorem dX12_rule_170 : decode cX12_rule 170 = .ok (.aload_n 0, 1) := by decide +kernel
theorem dX12_rule_171 : decode cX12_rule 171 = .ok (.getfield 42, 3) := by decide +kernel
theorem dX12_rule_174 : decode cX12_rule 174 = .ok (.aload_n 0, 1) := by decide +kernel
theorem dX12_rule_175 : decode cX12_rule 175 = .ok (.getfield 138, 3) := by decide +kernel
theorem dX12_rule_178 : decode cX12_rule 178 = .ok (.iload 6, 2) := by decide +kernel
theorem dX12_rule_180 : decode cX12_rule 180 = .ok (.iload_n 1, 1) := by decide +kernel
theorem dX12_rule_181 : decode cX12_rule 181 = .ok (.isub, 1) := by decide +kernel
theorem dX12_rule_182 : decode cX12_rule 182 = .ok (.iload_n 2, 1) := by decide +kernel
theorem dX12_rule_183 : decode cX12_rule 183 = .ok (.isub, 1) := by decide +kernel
theorem dX12_rule_184 : decode cX12_rule 184 = .ok (.iastore, 1) := by decide +kernel
theorem dX12_rule_185 : decode cX12_rule 185 = .ok (.aload_n 0, 1) := by decide +kernel
theorem dX12_rule_186 : decode cX12_rule 186 = .ok (.getfield 45, 3) := by decide +kernel
theorem dX12_rule_189 : decode cX12_rule 189 = .ok (.aload_n 0, 1) := by decide +kernel
theorem dX12_rule_190 : decode cX12_rule 190 = .ok (.getfield 138, 3) := by decide +kernel
theorem dX12_rule_193 : decode cX12_rule 193 = .ok (.iload_n 3, 1) := by decide +kernel
theorem dX12_rule_194 : decode cX12_rule 194 = .ok (.iastore, 1) := by decide +kernel
theorem dX12_rule_195 : decode cX12_rule 195 = .ok (.aload_n 0, 1) := by decide +kernel
theorem dX12_rule_196 : decode cX12_rule 196 = .ok (.getfield 48, 3) := by decide +kernel
theorem dX12_rule_199 : decode cX12_rule 199 = .ok (.aload_n 0, 1) := by decide +kernel
theorem dX12_rule_200 : decode cX12_rule 200 = .ok (.getfield 138, 3) := by decide +kernel
theorem dX12_rule_203 : decode cX12_rule 203 = .ok (.iload 4, 2) := by decide +kernel
theorem dX12_rule_205 : decode cX12_rule 205 = .ok (.iastore, 1) := by decide +kernel
theorem dX12_rule_206 : decode cX12_rule 206 = .ok (.aload_n 0, 1) := by decide +kernel
theorem dX12_rule_207 : decode cX12_rule 207 = .ok (.getfield 51, 3) := by decide +kernel
theorem dX12_rule_210 : decode cX12_rule 210 = .ok (.aload_n 0, 1) := by decide +kernel
theorem dX12_rule_211 : decode cX12_rule 211 = .ok (.getfield 138, 3) := by decide +kernel
theorem dX12_rule_214 : decode cX12_rule 214 = .ok (.iload 5, 2) := by decide +kernel
theorem dX12_rule_216 : decode cX12_rule 216 = .ok (.iastore, 1) := by decide +kernel
theorem dX12_rule_217 : decode cX12_rule 217 = .ok (.aload_n 0, 1) := by decide +kernel
theorem dX12_rule_218 : decode cX12_rule 218 = .ok (.dup, 1) := by decide +kernel
theorem dX12_rule_219 : decode cX12_rule 219 = .ok (.getfield 138, 3) := by decide +kernel
theorem dX12_rule_222 : decode cX12_rule 222 = .ok (.iconst 1, 1) := by decide +kernel
theorem dX12_rule_223 : decode cX12_rule 223 = .ok (.iadd, 1) := by decide +kernel
theorem dX12_rule_224 : decode cX12_rule 224 = .ok (.putfield 138, 3) := by decide +kernel
theorem dX12_rule_227 : decode cX12_rule 227 = .ok (.aload_n 0, 1) := by decide +kernel
theorem dX12_rule_228 : decode cX12_rule 228 = .ok (.getfield 138, 3) := by decide +kernel
theorem dX12_rule_231 : decode cX12_rule 231 = .ok (.iconst 1, 1) := by decide +kernel
theorem dX12_rule_232 : decode cX12_rule 232 = .ok (.isub, 1) := by decide +kernel
theorem dX12_rule_233 : decode cX12_rule 233 = .ok (.ireturn, 1) := by decide +kernel
theorem dX12_isForm_0 : decode cX12_isForm 0 = .ok (.iload_n 1, 1) := by decide +kernel
theorem dX12_isForm_1 : decode cX12_isForm 1 = .ok (.iconst 0, 1) := by decide +kernel
theorem dX12_isForm_2 : decode cX12_isForm 2 = .ok (.aload_n 0, 1) := by decide +kernel
theorem dX12_isForm_3 : decode cX12_isForm 3 = .ok (.getfield 131, 3) := by decide +kernel
theorem dX12_isForm_6 : decode cX12_isForm 6 = .ok (.iconst 1, 1) := by decide +kernel
theorem dX12_isForm_7 : decode cX12_isForm 7 = .ok (.isub, 1) := by decide +kernel
theorem dX12_isForm_8 : decode cX12_isForm 8 = .ok (.invokestatic 134, 3) := by decide +kernel
theorem dX12_isForm_11 : decode cX12_isForm 11 = .ok (.ireturn, 1) := by decide +kernel
theorem dX12_cost_0 : decode cX12_cost 0 = .ok (.aload_n 0, 1) := by decide +kernel
theorem dX12_cost_1 : decode cX12_cost 1 = .ok (.iload_n 1, 1) := by decide +kernel
theorem dX12_cost_2 : decode cX12_cost 2 = .ok (.invokevirtual 141, 3) := by decide +kernel
theorem dX12_cost_5 : decode cX12_cost 5 = .ok (.ifCond .eq 13, 3) := by decide +kernel
theorem dX12_cost_8 : decode cX12_cost 8 = .ok (.iload_n 2, 1) := by decide +kernel
theorem dX12_cost_9 : decode cX12_cost 9 = .ok (.iconst 0, 1) := by decide +kernel
theorem dX12_cost_10 : decode cX12_cost 10 = .ok (.bipush 99, 2) := by decide +kernel
theorem dX12_cost_12 : decode cX12_cost 12 = .ok (.invokestatic 134, 3) := by decide +kernel
theorem dX12_cost_15 : decode cX12_cost 15 = .ok (.ifCond .ne 5, 3) := by decide +kernel
theorem dX12_cost_18 : decode cX12_cost 18 = .ok (.iconst (-1), 1) := by decide +kernel
theorem dX12_cost_19 : decode cX12_cost 19 = .ok (.ireturn, 1) := by decide +kernel
theorem dX12_cost_20 : decode cX12_cost 20 = .ok (.aload_n 0, 1) := by decide +kernel
theorem dX12_cost_21 : decode cX12_cost 21 = .ok (.getfield 26, 3) := by decide +kernel
theorem dX12_cost_24 : decode cX12_cost 24 = .ok (.iload_n 1, 1) := by decide +kernel
theorem dX12_cost_25 : decode cX12_cost 25 = .ok (.iaload, 1) := by decide +kernel
theorem dX12_cost_26 : decode cX12_cost 26 = .ok (.istore_n 3, 1) := by decide +kernel
theorem dX12_cost_27 : decode cX12_cost 27 = .ok (.aload_n 0, 1) := by decide +kernel
theorem dX12_cost_28 : decode cX12_cost 28 = .ok (.getfield 26, 3) := by decide +kernel
theorem dX12_cost_31 : decode cX12_cost 31 = .ok (.iload_n 1, 1) := by decide +kernel
theorem dX12_cost_32 : decode cX12_cost 32 = .ok (.iload_n 2, 1) := by decide +kernel
theorem dX12_cost_33 : decode cX12_cost 33 = .ok (.iastore, 1) := by decide +kernel
theorem dX12_cost_34 : decode cX12_cost 34 = .ok (.iload_n 3, 1) := by decide +kernel
theorem dX12_cost_35 : decode cX12_cost 35 = .ok (.ireturn, 1) := by decide +kernel
theorem dX12_isKind_0 : decode cX12_isKind 0 = .ok (.iload_n 0, 1) := by decide +kernel
theorem dX12_isKind_1 : decode cX12_isKind 1 = .ok (.iconst 0, 1) := by decide +kernel
theorem dX12_isKind_2 : decode cX12_isKind 2 = .ok (.iconst 5, 1) := by decide +kernel
theorem dX12_isKind_3 : decode cX12_isKind 3 = .ok (.invokestatic 134, 3) := by decide +kernel
theorem dX12_isKind_6 : decode cX12_isKind 6 = .ok (.ireturn, 1) := by decide +kernel
theorem dX12_meets_0 : decode cX12_meets 0 = .ok (.iload_n 1, 1) := by decide +kernel
theorem dX12_meets_1 : decode cX12_meets 1 = .ok (.invokestatic 145, 3) := by decide +kernel
theorem dX12_meets_4 : decode cX12_meets 4 = .ok (.ifCond .eq 25, 3) := by decide +kernel
theorem dX12_meets_7 : decode cX12_meets 7 = .ok (.iload_n 2, 1) := by decide +kernel
theorem dX12_meets_8 : decode cX12_meets 8 = .ok (.invokestatic 145, 3) := by decide +kernel
theorem dX12_meets_11 : decode cX12_meets 11 = .ok (.ifCond .eq 18, 3) := by decide +kernel
theorem dX12_meets_14 : decode cX12_meets 14 = .ok (.aload_n 0, 1) := by decide +kernel
theorem dX12_meets_15 : decode cX12_meets 15 = .ok (.getfield 54, 3) := by decide +kernel
theorem dX12_meets_18 : decode cX12_meets 18 = .ok (.bipush 6, 2) := by decide +kernel
theorem dX12_meets_20 : decode cX12_meets 20 = .ok (.iload_n 1, 1) := by decide +kernel
theorem dX12_meets_21 : decode cX12_meets 21 = .ok (.imul, 1) := by decide +kernel
theorem dX12_meets_22 : decode cX12_meets 22 = .ok (.iload_n 2, 1) := by decide +kernel
theorem dX12_meets_23 : decode cX12_meets 23 = .ok (.iadd, 1) := by decide +kernel
theorem dX12_meets_24 : decode cX12_meets 24 = .ok (.baload, 1) := by decide +kernel
theorem dX12_meets_25 : decode cX12_meets 25 = .ok (.iload_n 3, 1) := by decide +kernel
theorem dX12_meets_26 : decode cX12_meets 26 = .ok (.if_icmp .eq 5, 3) := by decide +kernel
theorem dX12_meets_29 : decode cX12_meets 29 = .ok (.iconst 0, 1) := by decide +kernel
theorem dX12_meets_30 : decode cX12_meets 30 = .ok (.ireturn, 1) := by decide +kernel
theorem dX12_meets_31 : decode cX12_meets 31 = .ok (.aload_n 0, 1) := by decide +kernel
theorem dX12_meets_32 : decode cX12_meets 32 = .ok (.getfield 54, 3) := by decide +kernel
theorem dX12_meets_35 : decode cX12_meets 35 = .ok (.bipush 6, 2) := by decide +kernel
theorem dX12_meets_37 : decode cX12_meets 37 = .ok (.iload_n 1, 1) := by decide +kernel
theorem dX12_meets_38 : decode cX12_meets 38 = .ok (.imul, 1) := by decide +kernel
theorem dX12_meets_39 : decode cX12_meets 39 = .ok (.iload_n 2, 1) := by decide +kernel
theorem dX12_meets_40 : decode cX12_meets 40 = .ok (.iadd, 1) := by decide +kernel
theorem dX12_meets_41 : decode cX12_meets 41 = .ok (.iload_n 3, 1) := by decide +kernel
theorem dX12_meets_42 : decode cX12_meets 42 = .ok (.ifCond .ne 7, 3) := by decide +kernel
theorem dX12_meets_45 : decode cX12_meets 45 = .ok (.iconst 1, 1) := by decide +kernel
theorem dX12_meets_46 : decode cX12_meets 46 = .ok (.goto 4, 3) := by decide +kernel
theorem dX12_meets_49 : decode cX12_meets 49 = .ok (.iconst 0, 1) := by decide +kernel
theorem dX12_meets_50 : decode cX12_meets 50 = .ok (.bastore, 1) := by decide +kernel
theorem dX12_meets_51 : decode cX12_meets 51 = .ok (.iconst 1, 1) := by decide +kernel
theorem dX12_meets_52 : decode cX12_meets 52 = .ok (.ireturn, 1) := by decide +kernel
theorem dX12_becomes_0 : decode cX12_becomes 0 = .ok (.iload_n 1, 1) := by decide +kernel
theorem dX12_becomes_1 : decode cX12_becomes 1 = .ok (.invokestatic 145, 3) := by decide +kernel
theorem dX12_becomes_4 : decode cX12_becomes 4 = .ok (.ifCond .eq 19, 3) := by decide +kernel
theorem dX12_becomes_7 : decode cX12_becomes 7 = .ok (.iload_n 2, 1) := by decide +kernel
theorem dX12_becomes_8 : decode cX12_becomes 8 = .ok (.invokestatic 145, 3) := by decide +kernel
theorem dX12_becomes_11 : decode cX12_becomes 11 = .ok (.ifCond .eq 12, 3) := by decide +kernel
theorem dX12_becomes_14 : decode cX12_becomes 14 = .ok (.iload_n 3, 1) := by decide +kernel
theorem dX12_becomes_15 : decode cX12_becomes 15 = .ok (.iconst (-1), 1) := by decide +kernel
theorem dX12_becomes_16 : decode cX12_becomes 16 = .ok (.iconst 5, 1) := by decide +kernel
theorem dX12_becomes_17 : decode cX12_becomes 17 = .ok (.invokestatic 134, 3) := by decide +kernel
theorem dX12_becomes_20 : decode cX12_becomes 20 = .ok (.ifCond .ne 6, 3) := by decide +kernel
theorem dX12_becomes_23 : decode cX12_becomes 23 = .ok (.bipush (-2), 2) := by decide +kernel
theorem dX12_becomes_25 : decode cX12_becomes 25 = .ok (.ireturn, 1) := by decide +kernel
theorem dX12_becomes_26 : decode cX12_becomes 26 = .ok (.aload_n 0, 1) := by decide +kernel
theorem dX12_becomes_27 : decode cX12_becomes 27 = .ok (.getfield 57, 3) := by decide +kernel
theorem dX12_becomes_30 : decode cX12_becomes 30 = .ok (.bipush 6, 2) := by decide +kernel
theorem dX12_becomes_32 : decode cX12_becomes 32 = .ok (.iload_n 1, 1) := by decide +kernel
theorem dX12_becomes_33 : decode cX12_becomes 33 = .ok (.imul, 1) := by decide +kernel
theorem dX12_becomes_34 : decode cX12_becomes 34 = .ok (.iload_n 2, 1) := by decide +kernel
theorem dX12_becomes_35 : decode cX12_becomes 35 = .ok (.iadd, 1) := by decide +kernel
theorem dX12_becomes_36 : decode cX12_becomes 36 = .ok (.iaload, 1) := by decide +kernel
theorem dX12_becomes_37 : decode cX12_becomes 37 = .ok (.istore 4, 2) := by decide +kernel
theorem dX12_becomes_39 : decode cX12_becomes 39 = .ok (.aload_n 0, 1) := by decide +kernel
theorem dX12_becomes_40 : decode cX12_becomes 40 = .ok (.getfield 57, 3) := by decide +kernel
theorem dX12_becomes_43 : decode cX12_becomes 43 = .ok (.bipush 6, 2) := by decide +kernel
theorem dX12_becomes_45 : decode cX12_becomes 45 = .ok (.iload_n 1, 1) := by decide +kernel
theorem dX12_becomes_46 : decode cX12_becomes 46 = .ok (.imul, 1) := by decide +kernel
theorem dX12_becomes_47 : decode cX12_becomes 47 = .ok (.iload_n 2, 1) := by decide +kernel
theorem dX12_becomes_48 : decode cX12_becomes 48 = .ok (.iadd, 1) := by decide +kernel
theorem dX12_becomes_49 : decode cX12_becomes 49 = .ok (.iload_n 3, 1) := by decide +kernel
theorem dX12_becomes_50 : decode cX12_becomes 50 = .ok (.iastore, 1) := by decide +kernel
theorem dX12_becomes_51 : decode cX12_becomes 51 = .ok (.iload 4, 2) := by decide +kernel
theorem dX12_becomes_53 : decode cX12_becomes 53 = .ok (.ireturn, 1) := by decide +kernel
theorem dX12_fitsTwo_0 : decode cX12_fitsTwo 0 = .ok (.aload_n 0, 1) := by decide +kernel
theorem dX12_fitsTwo_1 : decode cX12_fitsTwo 1 = .ok (.getfield 29, 3) := by decide +kernel
theorem dX12_fitsTwo_4 : decode cX12_fitsTwo 4 = .ok (.iload_n 2, 1) := by decide +kernel
theorem dX12_fitsTwo_5 : decode cX12_fitsTwo 5 = .ok (.baload, 1) := by decide +kernel
theorem dX12_fitsTwo_6 : decode cX12_fitsTwo 6 = .ok (.ifCond .ne 64, 3) := by decide +kernel
theorem dX12_fitsTwo_9 : decode cX12_fitsTwo 9 = .ok (.aload_n 0, 1) := by decide +kernel
theorem dX12_fitsTwo_10 : decode cX12_fitsTwo 10 = .ok (.getfield 29, 3) := by decide +kernel
theorem dX12_fitsTwo_13 : decode cX12_fitsTwo 13 = .ok (.iload_n 3, 1) := by decide +kernel
theorem dX12_fitsTwo_14 : decode cX12_fitsTwo 14 = .ok (.baload, 1) := by decide +kernel
theorem dX12_fitsTwo_15 : decode cX12_fitsTwo 15 = .ok (.ifCond .ne 55, 3) := by decide +kernel
theorem dX12_fitsTwo_18 : decode cX12_fitsTwo 18 = .ok (.aload_n 0, 1) := by decide +kernel
theorem dX12_fitsTwo_19 : decode cX12_fitsTwo 19 = .ok (.getfield 48, 3) := by decide +kernel
theorem dX12_fitsTwo_22 : decode cX12_fitsTwo 22 = .ok (.iload_n 1, 1) := by decide +kernel
theorem dX12_fitsTwo_23 : decode cX12_fitsTwo 23 = .ok (.iaload, 1) := by decide +kernel
theorem dX12_fitsTwo_24 : decode cX12_fitsTwo 24 = .ok (.iload 4, 2) := by decide +kernel
theorem dX12_fitsTwo_26 : decode cX12_fitsTwo 26 = .ok (.if_icmp .gt 44, 3) := by decide +kernel
theorem dX12_fitsTwo_29 : decode cX12_fitsTwo 29 = .ok (.aload_n 0, 1) := by decide +kernel
theorem dX12_fitsTwo_30 : decode cX12_fitsTwo 30 = .ok (.getfield 51, 3) := by decide +kernel
theorem dX12_fitsTwo_33 : decode cX12_fitsTwo 33 = .ok (.iload_n 1, 1) := by decide +kernel
theorem dX12_fitsTwo_34 : decode cX12_fitsTwo 34 = .ok (.iaload, 1) := by decide +kernel
theorem dX12_fitsTwo_35 : decode cX12_fitsTwo 35 = .ok (.iload 4, 2) := by decide +kernel
theorem dX12_fitsTwo_37 : decode cX12_fitsTwo 37 = .ok (.if_icmp .lt 33, 3) := by decide +kernel
theorem dX12_fitsTwo_40 : decode cX12_fitsTwo 40 = .ok (.aload_n 0, 1) := by decide +kernel
theorem dX12_fitsTwo_41 : decode cX12_fitsTwo 41 = .ok (.getfield 36, 3) := by decide +kernel
theorem dX12_fitsTwo_44 : decode cX12_fitsTwo 44 = .ok (.iload_n 1, 1) := by decide +kernel
theorem dX12_fitsTwo_45 : decode cX12_fitsTwo 45 = .ok (.iaload, 1) := by decide +kernel
theorem dX12_fitsTwo_46 : decode cX12_fitsTwo 46 = .ok (.aload_n 0, 1) := by decide +kernel
theorem dX12_fitsTwo_47 : decode cX12_fitsTwo 47 = .ok (.getfield 16, 3) := by decide +kernel
theorem dX12_fitsTwo_50 : decode cX12_fitsTwo 50 = .ok (.iload_n 2, 1) := by decide +kernel
theorem dX12_fitsTwo_51 : decode cX12_fitsTwo 51 = .ok (.iaload, 1) := by decide +kernel
theorem dX12_fitsTwo_52 : decode cX12_fitsTwo 52 = .ok (.if_icmp .gt 18, 3) := by decide +kernel
theorem dX12_fitsTwo_55 : decode cX12_fitsTwo 55 = .ok (.aload_n 0, 1) := by decide +kernel
theorem dX12_fitsTwo_56 : decode cX12_fitsTwo 56 = .ok (.getfield 39, 3) := by decide +kernel
theorem dX12_fitsTwo_59 : decode cX12_fitsTwo 59 = .ok (.iload_n 1, 1) := by decide +kernel
theorem dX12_fitsTwo_60 : decode cX12_fitsTwo 60 = .ok (.iaload, 1) := by decide +kernel
theorem dX12_fitsTwo_61 : decode cX12_fitsTwo 61 = .ok (.aload_n 0, 1) := by decide +kernel
theorem dX12_fitsTwo_62 : decode cX12_fitsTwo 62 = .ok (.getfield 16, 3) := by decide +kernel
theorem dX12_fitsTwo_65 : decode cX12_fitsTwo 65 = .ok (.iload_n 3, 1) := by decide +kernel
theorem dX12_fitsTwo_66 : decode cX12_fitsTwo 66 = .ok (.iaload, 1) := by decide +kernel
theorem dX12_fitsTwo_67 : decode cX12_fitsTwo 67 = .ok (.if_icmp .le 5, 3) := by decide +kernel
theorem dX12_fitsTwo_70 : decode cX12_fitsTwo 70 = .ok (.iconst 0, 1) := by decide +kernel
theorem dX12_fitsTwo_71 : decode cX12_fitsTwo 71 = .ok (.ireturn, 1) := by decide +kernel
theorem dX12_fitsTwo_72 : decode cX12_fitsTwo 72 = .ok (.iconst 0, 1) := by decide +kernel
theorem dX12_fitsTwo_73 : decode cX12_fitsTwo 73 = .ok (.istore 5, 2) := by decide +kernel
theorem dX12_fitsTwo_75 : decode cX12_fitsTwo 75 = .ok (.iload 5, 2) := by decide +kernel
theorem dX12_fitsTwo_77 : decode cX12_fitsTwo 77 = .ok (.aload_n 0, 1) := by decide +kernel
theorem dX12_fitsTwo_78 : decode cX12_fitsTwo 78 = .ok (.getfield 36, 3) := by decide +kernel
theorem dX12_fitsTwo_81 : decode cX12_fitsTwo 81 = .ok (.iload_n 1, 1) := by decide +kernel
theorem dX12_fitsTwo_82 : decode cX12_fitsTwo 82 = .ok (.iaload, 1) := by decide +kernel
theorem dX12_fitsTwo_83 : decode cX12_fitsTwo 83 = .ok (.if_icmp .ge 52, 3) := by decide +kernel
theorem dX12_fitsTwo_86 : decode cX12_fitsTwo 86 = .ok (.aload_n 0, 1) := by decide +kernel
theorem dX12_fitsTwo_87 : decode cX12_fitsTwo 87 = .ok (.getfield 13, 3) := by decide +kernel
theorem dX12_fitsTwo_90 : decode cX12_fitsTwo 90 = .ok (.bipush 8, 2) := by decide +kernel
theorem dX12_fitsTwo_92 : decode cX12_fitsTwo 92 = .ok (.iload_n 2, 1) := by decide +kernel
theorem dX12_fitsTwo_93 : decode cX12_fitsTwo 93 = .ok (.imul, 1) := by decide +kernel
theorem dX12_fitsTwo_94 : decode cX12_fitsTwo 94 = .ok (.aload_n 0, 1) := by decide +kernel
theorem dX12_fitsTwo_95 : decode cX12_fitsTwo 95 = .ok (.getfield 16, 3) := by decide +kernel
theorem dX12_fitsTwo_98 : decode cX12_fitsTwo 98 = .ok (.iload_n 2, 1) := by decide +kernel
theorem dX12_fitsTwo_99 : decode cX12_fitsTwo 99 = .ok (.iaload, 1) := by decide +kernel
theorem dX12_fitsTwo_100 : decode cX12_fitsTwo 100 = .ok (.iadd, 1) := by decide +kernel
theorem dX12_fitsTwo_101 : decode cX12_fitsTwo 101 = .ok (.aload_n 0, 1) := by decide +kernel
theorem dX12_fitsTwo_102 : decode cX12_fitsTwo 102 = .ok (.getfield 36, 3) := by decide +kernel
theorem dX12_fitsTwo_105 : decode cX12_fitsTwo 105 = .ok (.iload_n 1, 1) := by decide +kernel
theorem dX12_fitsTwo_106 : decode cX12_fitsTwo 106 = .ok (.iaload, 1) := by decide +kernel
theorem dX12_fitsTwo_107 : decode cX12_fitsTwo 107 = .ok (.isub, 1) := by decide +kernel
theorem dX12_fitsTwo_108 : decode cX12_fitsTwo 108 = .ok (.iload 5, 2) := by decide +kernel
theorem dX12_fitsTwo_110 : decode cX12_fitsTwo 110 = .ok (.iadd, 1) := by decide +kernel
theorem dX12_fitsTwo_111 : decode cX12_fitsTwo 111 = .ok (.baload, 1) := by decide +kernel
theorem dX12_fitsTwo_112 : decode cX12_fitsTwo 112 = .ok (.aload_n 0, 1) := by decide +kernel
theorem dX12_fitsTwo_113 : decode cX12_fitsTwo 113 = .ok (.getfield 33, 3) := by decide +kernel
theorem dX12_fitsTwo_116 : decode cX12_fitsTwo 116 = .ok (.bipush 10, 2) := by decide +kernel
theorem dX12_fitsTwo_118 : decode cX12_fitsTwo 118 = .ok (.iload_n 1, 1) := by decide +kernel
theorem dX12_fitsTwo_119 : decode cX12_fitsTwo 119 = .ok (.imul, 1) := by decide +kernel
theorem dX12_fitsTwo_120 : decode cX12_fitsTwo 120 = .ok (.iload 5, 2) := by decide +kernel
theorem dX12_fitsTwo_122 : decode cX12_fitsTwo 122 = .ok (.iadd, 1) := by decide +kernel
theorem dX12_fitsTwo_123 : decode cX12_fitsTwo 123 = .ok (.baload, 1) := by decide +kernel
theorem dX12_fitsTwo_124 : decode cX12_fitsTwo 124 = .ok (.if_icmp .eq 5, 3) := by decide +kernel
theorem dX12_fitsTwo_127 : decode cX12_fitsTwo 127 = .ok (.iconst 0, 1) := by decide +kernel
theorem dX12_fitsTwo_128 : decode cX12_fitsTwo 128 = .ok (.ireturn, 1) := by decide +kernel
theorem dX12_fitsTwo_129 : decode cX12_fitsTwo 129 = .ok (.iinc 5 1, 3) := by decide +kernel
theorem dX12_fitsTwo_132 : decode cX12_fitsTwo 132 = .ok (.goto (-57), 3) := by decide +kernel
theorem dX12_fitsTwo_135 : decode cX12_fitsTwo 135 = .ok (.iconst 0, 1) := by decide +kernel
theorem dX12_fitsTwo_136 : decode cX12_fitsTwo 136 = .ok (.istore 5, 2) := by decide +kernel
theorem dX12_fitsTwo_138 : decode cX12_fitsTwo 138 = .ok (.iload 5, 2) := by decide +kernel
theorem dX12_fitsTwo_140 : decode cX12_fitsTwo 140 = .ok (.aload_n 0, 1) := by decide +kernel
theorem dX12_fitsTwo_141 : decode cX12_fitsTwo 141 = .ok (.getfield 39, 3) := by decide +kernel
theorem dX12_fitsTwo_144 : decode cX12_fitsTwo 144 = .ok (.iload_n 1, 1) := by decide +kernel
theorem dX12_fitsTwo_145 : decode cX12_fitsTwo 145 = .ok (.iaload, 1) := by decide +kernel
theorem dX12_fitsTwo_146 : decode cX12_fitsTwo 146 = .ok (.if_icmp .ge 45, 3) := by decide +kernel
theorem dX12_fitsTwo_149 : decode cX12_fitsTwo 149 = .ok (.aload_n 0, 1) := by decide +kernel
theorem dX12_fitsTwo_150 : decode cX12_fitsTwo 150 = .ok (.getfield 13, 3) := by decide +kernel
theorem dX12_fitsTwo_153 : decode cX12_fitsTwo 153 = .ok (.bipush 8, 2) := by decide +kernel
theorem dX12_fitsTwo_155 : decode cX12_fitsTwo 155 = .ok (.iload_n 3, 1) := by decide +kernel
theorem dX12_fitsTwo_156 : decode cX12_fitsTwo 156 = .ok (.imul, 1) := by decide +kernel
theorem dX12_fitsTwo_157 : decode cX12_fitsTwo 157 = .ok (.iload 5, 2) := by decide +kernel
theorem dX12_fitsTwo_159 : decode cX12_fitsTwo 159 = .ok (.iadd, 1) := by decide +kernel
theorem dX12_fitsTwo_160 : decode cX12_fitsTwo 160 = .ok (.baload, 1) := by decide +kernel
theorem dX12_fitsTwo_161 : decode cX12_fitsTwo 161 = .ok (.aload_n 0, 1) := by decide +kernel
theorem dX12_fitsTwo_162 : decode cX12_fitsTwo 162 = .ok (.getfield 33, 3) := by decide +kernel
theorem dX12_fitsTwo_165 : decode cX12_fitsTwo 165 = .ok (.bipush 10, 2) := by decide +kernel
theorem dX12_fitsTwo_167 : decode cX12_fitsTwo 167 = .ok (.iload_n 1, 1) := by decide +kernel
theorem dX12_fitsTwo_168 : decode cX12_fitsTwo 168 = .ok (.imul, 1) := by decide +kernel
theorem dX12_fitsTwo_169 : decode cX12_fitsTwo 169 = .ok (.aload_n 0, 1) := by decide +kernel
theorem dX12_fitsTwo_170 : decode cX12_fitsTwo 170 = .ok (.getfield 36, 3) := by decide +kernel
theorem dX12_fitsTwo_173 : decode cX12_fitsTwo 173 = .ok (.iload_n 1, 1) := by decide +kernel
theorem dX12_fitsTwo_174 : decode cX12_fitsTwo 174 = .ok (.iaload, 1) := by decide +kernel
theorem dX12_fitsTwo_175 : decode cX12_fitsTwo 175 = .ok (.iadd, 1) := by decide +kernel
theorem dX12_fitsTwo_176 : decode cX12_fitsTwo 176 = .ok (.iload 5, 2) := by decide +kernel
theorem dX12_fitsTwo_178 : decode cX12_fitsTwo 178 = .ok (.iadd, 1) := by decide +kernel
theorem dX12_fitsTwo_179 : decode cX12_fitsTwo 179 = .ok (.baload, 1) := by decide +kernel
theorem dX12_fitsTwo_180 : decode cX12_fitsTwo 180 = .ok (.if_icmp .eq 5, 3) := by decide +kernel
theorem dX12_fitsTwo_183 : decode cX12_fitsTwo 183 = .ok (.iconst 0, 1) := by decide +kernel
theorem dX12_fitsTwo_184 : decode cX12_fitsTwo 184 = .ok (.ireturn, 1) := by decide +kernel
theorem dX12_fitsTwo_185 : decode cX12_fitsTwo 185 = .ok (.iinc 5 1, 3) := by decide +kernel
theorem dX12_fitsTwo_188 : decode cX12_fitsTwo 188 = .ok (.goto (-50), 3) := by decide +kernel
theorem dX12_fitsTwo_191 : decode cX12_fitsTwo 191 = .ok (.iconst 1, 1) := by decide +kernel
theorem dX12_fitsTwo_192 : decode cX12_fitsTwo 192 = .ok (.ireturn, 1) := by decide +kernel
theorem dX12_isDay_0 : decode cX12_isDay 0 = .ok (.iload_n 0, 1) := by decide +kernel
theorem dX12_isDay_1 : decode cX12_isDay 1 = .ok (.iconst 0, 1) := by decide +kernel
theorem dX12_isDay_2 : decode cX12_isDay 2 = .ok (.sipush 999, 3) := by decide +kernel
theorem dX12_isDay_5 : decode cX12_isDay 5 = .ok (.invokestatic 134, 3) := by decide +kernel
theorem dX12_isDay_8 : decode cX12_isDay 8 = .ok (.ireturn, 1) := by decide +kernel
theorem dX12_fits_0 : decode cX12_fits 0 = .ok (.aload_n 0, 1) := by decide +kernel
theorem dX12_fits_1 : decode cX12_fits 1 = .ok (.iload_n 1, 1) := by decide +kernel
theorem dX12_fits_2 : decode cX12_fits 2 = .ok (.invokevirtual 141, 3) := by decide +kernel
theorem dX12_fits_5 : decode cX12_fits 5 = .ok (.ifCond .eq 18, 3) := by decide +kernel
theorem dX12_fits_8 : decode cX12_fits 8 = .ok (.aload_n 0, 1) := by decide +kernel
theorem dX12_fits_9 : decode cX12_fits 9 = .ok (.iload_n 2, 1) := by decide +kernel
theorem dX12_fits_10 : decode cX12_fits 10 = .ok (.invokevirtual 141, 3) := by decide +kernel
theorem dX12_fits_13 : decode cX12_fits 13 = .ok (.ifCond .eq 10, 3) := by decide +kernel
theorem dX12_fits_16 : decode cX12_fits 16 = .ok (.iload_n 3, 1) := by decide +kernel
theorem dX12_fits_17 : decode cX12_fits 17 = .ok (.invokestatic 148, 3) := by decide +kernel
theorem dX12_fits_20 : decode cX12_fits 20 = .ok (.ifCond .ne 5, 3) := by decide +kernel
theorem dX12_fits_23 : decode cX12_fits 23 = .ok (.iconst (-1), 1) := by decide +kernel
theorem dX12_fits_24 : decode cX12_fits 24 = .ok (.ireturn, 1) := by decide +kernel
theorem dX12_fits_25 : decode cX12_fits 25 = .ok (.iconst 0, 1) := by decide +kernel
theorem dX12_fits_26 : decode cX12_fits 26 = .ok (.istore 4, 2) := by decide +kernel
theorem dX12_fits_28 : decode cX12_fits 28 = .ok (.iconst 0, 1) := by decide +kernel
theorem dX12_fits_29 : decode cX12_fits 29 = .ok (.istore 5, 2) := by decide +kernel
theorem dX12_fits_31 : decode cX12_fits 31 = .ok (.iload 5, 2) := by decide +kernel
theorem dX12_fits_33 : decode cX12_fits 33 = .ok (.aload_n 0, 1) := by decide +kernel
theorem dX12_fits_34 : decode cX12_fits 34 = .ok (.getfield 138, 3) := by decide +kernel
theorem dX12_fits_37 : decode cX12_fits 37 = .ok (.if_icmp .ge 31, 3) := by decide +kernel
theorem dX12_fits_40 : decode cX12_fits 40 = .ok (.iload 4, 2) := by decide +kernel
theorem dX12_fits_42 : decode cX12_fits 42 = .ok (.aload_n 0, 1) := by decide +kernel
theorem dX12_fits_43 : decode cX12_fits 43 = .ok (.iload 5, 2) := by decide +kernel
theorem dX12_fits_45 : decode cX12_fits 45 = .ok (.iload_n 1, 1) := by decide +kernel
theorem dX12_fits_46 : decode cX12_fits 46 = .ok (.iload_n 2, 1) := by decide +kernel
theorem dX12_fits_47 : decode cX12_fits 47 = .ok (.iload_n 3, 1) := by decide +kernel
theorem dX12_fits_48 : decode cX12_fits 48 = .ok (.invokevirtual 151, 3) := by decide +kernel
theorem dX12_fits_51 : decode cX12_fits 51 = .ok (.ifCond .eq 7, 3) := by decide +kernel
theorem dX12_fits_54 : decode cX12_fits 54 = .ok (.iconst 1, 1) := by decide +kernel
theorem dX12_fits_55 : decode cX12_fits 55 = .ok (.goto 4, 3) := by decide +kernel
theorem dX12_fits_58 : decode cX12_fits 58 = .ok (.iconst 0, 1) := by decide +kernel
theorem dX12_fits_59 : decode cX12_fits 59 = .ok (.iadd, 1) := by decide +kernel
theorem dX12_fits_60 : decode cX12_fits 60 = .ok (.istore 4, 2) := by decide +kernel
theorem dX12_fits_62 : decode cX12_fits 62 = .ok (.iinc 5 1, 3) := by decide +kernel
theorem dX12_fits_65 : decode cX12_fits 65 = .ok (.goto (-34), 3) := by decide +kernel
theorem dX12_fits_68 : decode cX12_fits 68 = .ok (.iload 4, 2) := by decide +kernel
theorem dX12_fits_70 : decode cX12_fits 70 = .ok (.ireturn, 1) := by decide +kernel
theorem dX12_fitting_0 : decode cX12_fitting 0 = .ok (.aload_n 0, 1) := by decide +kernel
theorem dX12_fitting_1 : decode cX12_fitting 1 = .ok (.iload_n 1, 1) := by decide +kernel
theorem dX12_fitting_2 : decode cX12_fitting 2 = .ok (.invokevirtual 141, 3) := by decide +kernel
theorem dX12_fitting_5 : decode cX12_fitting 5 = .ok (.ifCond .eq 18, 3) := by decide +kernel
theorem dX12_fitting_8 : decode cX12_fitting 8 = .ok (.aload_n 0, 1) := by decide +kernel
theorem dX12_fitting_9 : decode cX12_fitting 9 = .ok (.iload_n 2, 1) := by decide +kernel
theorem dX12_fitting_10 : decode cX12_fitting 10 = .ok (.invokevirtual 141, 3) := by decide +kernel
theorem dX12_fitting_13 : decode cX12_fitting 13 = .ok (.ifCond .eq 10, 3) := by decide +kernel
theorem dX12_fitting_16 : decode cX12_fitting 16 = .ok (.iload_n 3, 1) := by decide +kernel
theorem dX12_fitting_17 : decode cX12_fitting 17 = .ok (.invokestatic 148, 3) := by decide +kernel
theorem dX12_fitting_20 : decode cX12_fitting 20 = .ok (.ifCond .ne 5, 3) := by decide +kernel
theorem dX12_fitting_23 : decode cX12_fitting 23 = .ok (.iconst (-1), 1) := by decide +kernel
theorem dX12_fitting_24 : decode cX12_fitting 24 = .ok (.ireturn, 1) := by decide +kernel
theorem dX12_fitting_25 : decode cX12_fitting 25 = .ok (.iconst 0, 1) := by decide +kernel
theorem dX12_fitting_26 : decode cX12_fitting 26 = .ok (.istore 5, 2) := by decide +kernel
theorem dX12_fitting_28 : decode cX12_fitting 28 = .ok (.iconst 0, 1) := by decide +kernel
theorem dX12_fitting_29 : decode cX12_fitting 29 = .ok (.istore 6, 2) := by decide +kernel
theorem dX12_fitting_31 : decode cX12_fitting 31 = .ok (.iload 6, 2) := by decide +kernel
theorem dX12_fitting_33 : decode cX12_fitting 33 = .ok (.aload_n 0, 1) := by decide +kernel
theorem dX12_fitting_34 : decode cX12_fitting 34 = .ok (.getfield 138, 3) := by decide +kernel
theorem dX12_fitting_37 : decode cX12_fitting 37 = .ok (.if_icmp .ge 37, 3) := by decide +kernel
theorem dX12_fitting_40 : decode cX12_fitting 40 = .ok (.aload_n 0, 1) := by decide +kernel
theorem dX12_fitting_41 : decode cX12_fitting 41 = .ok (.iload 6, 2) := by decide +kernel
theorem dX12_fitting_43 : decode cX12_fitting 43 = .ok (.iload_n 1, 1) := by decide +kernel
theorem dX12_fitting_44 : decode cX12_fitting 44 = .ok (.iload_n 2, 1) := by decide +kernel
theorem dX12_fitting_45 : decode cX12_fitting 45 = .ok (.iload_n 3, 1) := by decide +kernel
theorem dX12_fitting_46 : decode cX12_fitting 46 = .ok (.invokevirtual 151, 3) := by decide +kernel
theorem dX12_fitting_49 : decode cX12_fitting 49 = .ok (.ifCond .ne 6, 3) := by decide +kernel
theorem dX12_fitting_52 : decode cX12_fitting 52 = .ok (.goto 16, 3) := by decide +kernel
theorem dX12_fitting_55 : decode cX12_fitting 55 = .ok (.iload 5, 2) := by decide +kernel
theorem dX12_fitting_57 : decode cX12_fitting 57 = .ok (.iload 4, 2) := by decide +kernel
theorem dX12_fitting_59 : decode cX12_fitting 59 = .ok (.if_icmp .ne 6, 3) := by decide +kernel
theorem dX12_fitting_62 : decode cX12_fitting 62 = .ok (.iload 6, 2) := by decide +kernel
theorem dX12_fitting_64 : decode cX12_fitting 64 = .ok (.ireturn, 1) := by decide +kernel
theorem dX12_fitting_65 : decode cX12_fitting 65 = .ok (.iinc 5 1, 3) := by decide +kernel
theorem dX12_fitting_68 : decode cX12_fitting 68 = .ok (.iinc 6 1, 3) := by decide +kernel
theorem dX12_fitting_71 : decode cX12_fitting 71 = .ok (.goto (-40), 3) := by decide +kernel
theorem dX12_fitting_74 : decode cX12_fitting 74 = .ok (.iconst (-1), 1) := by decide +kernel
theorem dX12_fitting_75 : decode cX12_fitting 75 = .ok (.ireturn, 1) := by decide +kernel
theorem dX12_row_0 : decode cX12_row 0 = .ok (.iload_n 1, 1) := by decide +kernel
theorem dX12_row_1 : decode cX12_row 1 = .ok (.invokestatic 148, 3) := by decide +kernel
theorem dX12_row_4 : decode cX12_row 4 = .ok (.ifCond .ne 5, 3) := by decide +kernel
theorem dX12_row_7 : decode cX12_row 7 = .ok (.iconst (-1), 1) := by decide +kernel
theorem dX12_row_8 : decode cX12_row 8 = .ok (.ireturn, 1) := by decide +kernel
theorem dX12_row_9 : decode cX12_row 9 = .ok (.aload_n 0, 1) := by decide +kernel
theorem dX12_row_10 : decode cX12_row 10 = .ok (.getfield 155, 3) := by decide +kernel
theorem dX12_row_13 : decode cX12_row 13 = .ok (.istore_n 2, 1) := by decide +kernel
theorem dX12_row_14 : decode cX12_row 14 = .ok (.aload_n 0, 1) := by decide +kernel
theorem dX12_row_15 : decode cX12_row 15 = .ok (.iconst 0, 1) := by decide +kernel
theorem dX12_row_16 : decode cX12_row 16 = .ok (.putfield 155, 3) := by decide +kernel
theorem dX12_row_19 : decode cX12_row 19 = .ok (.aload_n 0, 1) := by decide +kernel
theorem dX12_row_20 : decode cX12_row 20 = .ok (.iload_n 1, 1) := by decide +kernel
theorem dX12_row_21 : decode cX12_row 21 = .ok (.putfield 158, 3) := by decide +kernel
theorem dX12_row_24 : decode cX12_row 24 = .ok (.iload_n 2, 1) := by decide +kernel
theorem dX12_row_25 : decode cX12_row 25 = .ok (.ireturn, 1) := by decide +kernel
theorem dX12_cutOf_0 : decode cX12_cutOf 0 = .ok (.iload_n 1, 1) := by decide +kernel
theorem dX12_cutOf_1 : decode cX12_cutOf 1 = .ok (.ifCond .eq 12, 3) := by decide +kernel
theorem dX12_cutOf_4 : decode cX12_cutOf 4 = .ok (.aload_n 0, 1) := by decide +kernel
theorem dX12_cutOf_5 : decode cX12_cutOf 5 = .ok (.getfield 70, 3) := by decide +kernel
theorem dX12_cutOf_8 : decode cX12_cutOf 8 = .ok (.iload_n 1, 1) := by decide +kernel
theorem dX12_cutOf_9 : decode cX12_cutOf 9 = .ok (.iaload, 1) := by decide +kernel
theorem dX12_cutOf_10 : decode cX12_cutOf 10 = .ok (.ifCond .ge 7, 3) := by decide +kernel
theorem dX12_cutOf_13 : decode cX12_cutOf 13 = .ok (.iconst 0, 1) := by decide +kernel
theorem dX12_cutOf_14 : decode cX12_cutOf 14 = .ok (.goto 14, 3) := by decide +kernel
theorem dX12_cutOf_17 : decode cX12_cutOf 17 = .ok (.aload_n 0, 1) := by decide +kernel
theorem dX12_cutOf_18 : decode cX12_cutOf 18 = .ok (.getfield 39, 3) := by decide +kernel
theorem dX12_cutOf_21 : decode cX12_cutOf 21 = .ok (.aload_n 0, 1) := by decide +kernel
theorem dX12_cutOf_22 : decode cX12_cutOf 22 = .ok (.getfield 70, 3) := by decide +kernel
theorem dX12_cutOf_25 : decode cX12_cutOf 25 = .ok (.iload_n 1, 1) := by decide +kernel
theorem dX12_cutOf_26 : decode cX12_cutOf 26 = .ok (.iaload, 1) := by decide +kernel
theorem dX12_cutOf_27 : decode cX12_cutOf 27 = .ok (.iaload, 1) := by decide +kernel
theorem dX12_cutOf_28 : decode cX12_cutOf 28 = .ok (.ireturn, 1) := by decide +kernel
theorem dX12_joins_0 : decode cX12_joins 0 = .ok (.aload_n 0, 1) := by decide +kernel
theorem dX12_joins_1 : decode cX12_joins 1 = .ok (.getfield 155, 3) := by decide +kernel
theorem dX12_joins_4 : decode cX12_joins 4 = .ok (.bipush 40, 2) := by decide +kernel
theorem dX12_joins_6 : decode cX12_joins 6 = .ok (.if_icmp .eq 11, 3) := by decide +kernel
theorem dX12_joins_9 : decode cX12_joins 9 = .ok (.aload_n 0, 1) := by decide +kernel
theorem dX12_joins_10 : decode cX12_joins 10 = .ok (.iload_n 1, 1) := by decide +kernel
theorem dX12_joins_11 : decode cX12_joins 11 = .ok (.invokevirtual 141, 3) := by decide +kernel
theorem dX12_joins_14 : decode cX12_joins 14 = .ok (.ifCond .ne 5, 3) := by decide +kernel
theorem dX12_joins_17 : decode cX12_joins 17 = .ok (.iconst (-1), 1) := by decide +kernel
theorem dX12_joins_18 : decode cX12_joins 18 = .ok (.ireturn, 1) := by decide +kernel
theorem dX12_joins_19 : decode cX12_joins 19 = .ok (.aload_n 0, 1) := by decide +kernel
theorem dX12_joins_20 : decode cX12_joins 20 = .ok (.getfield 155, 3) := by decide +kernel
theorem dX12_joins_23 : decode cX12_joins 23 = .ok (.ifCond .le 106, 3) := by decide +kernel
theorem dX12_joins_26 : decode cX12_joins 26 = .ok (.aload_n 0, 1) := by decide +kernel
theorem dX12_joins_27 : decode cX12_joins 27 = .ok (.getfield 67, 3) := by decide +kernel
theorem dX12_joins_30 : decode cX12_joins 30 = .ok (.aload_n 0, 1) := by decide +kernel
theorem dX12_joins_31 : decode cX12_joins 31 = .ok (.getfield 155, 3) := by decide +kernel
theorem dX12_joins_34 : decode cX12_joins 34 = .ok (.iconst 1, 1) := by decide +kernel
theorem dX12_joins_35 : decode cX12_joins 35 = .ok (.isub, 1) := by decide +kernel
theorem dX12_joins_36 : decode cX12_joins 36 = .ok (.iaload, 1) := by decide +kernel
theorem dX12_joins_37 : decode cX12_joins 37 = .ok (.istore_n 3, 1) := by decide +kernel
theorem dX12_joins_38 : decode cX12_joins 38 = .ok (.iload_n 2, 1) := by decide +kernel
theorem dX12_joins_39 : decode cX12_joins 39 = .ok (.iconst (-1), 1) := by decide +kernel
theorem dX12_joins_40 : decode cX12_joins 40 = .ok (.if_icmp .ne 18, 3) := by decide +kernel
theorem dX12_joins_43 : decode cX12_joins 43 = .ok (.aload_n 0, 1) := by decide +kernel
theorem dX12_joins_44 : decode cX12_joins 44 = .ok (.iload_n 3, 1) := by decide +kernel
theorem dX12_joins_45 : decode cX12_joins 45 = .ok (.iload_n 1, 1) := by decide +kernel
theorem dX12_joins_46 : decode cX12_joins 46 = .ok (.aload_n 0, 1) := by decide +kernel
theorem dX12_joins_47 : decode cX12_joins 47 = .ok (.getfield 158, 3) := by decide +kernel
theorem dX12_joins_50 : decode cX12_joins 50 = .ok (.invokevirtual 161, 3) := by decide +kernel
theorem dX12_joins_53 : decode cX12_joins 53 = .ok (.ifCond .le 76, 3) := by decide +kernel
theorem dX12_joins_56 : decode cX12_joins 56 = .ok (.iconst (-1), 1) := by decide +kernel
theorem dX12_joins_57 : decode cX12_joins 57 = .ok (.ireturn, 1) := by decide +kernel
theorem dX12_joins_58 : decode cX12_joins 58 = .ok (.iload_n 2, 1) := by decide +kernel
theorem dX12_joins_59 : decode cX12_joins 59 = .ok (.iconst 0, 1) := by decide +kernel
theorem dX12_joins_60 : decode cX12_joins 60 = .ok (.aload_n 0, 1) := by decide +kernel
theorem dX12_joins_61 : decode cX12_joins 61 = .ok (.getfield 138, 3) := by decide +kernel
theorem dX12_joins_64 : decode cX12_joins 64 = .ok (.iconst 1, 1) := by decide +kernel
theorem dX12_joins_65 : decode cX12_joins 65 = .ok (.isub, 1) := by decide +kernel
theorem dX12_joins_66 : decode cX12_joins 66 = .ok (.invokestatic 134, 3) := by decide +kernel
theorem dX12_joins_69 : decode cX12_joins 69 = .ok (.ifCond .eq 58, 3) := by decide +kernel
theorem dX12_joins_72 : decode cX12_joins 72 = .ok (.aload_n 0, 1) := by decide +kernel
theorem dX12_joins_73 : decode cX12_joins 73 = .ok (.iload_n 2, 1) := by decide +kernel
theorem dX12_joins_74 : decode cX12_joins 74 = .ok (.iload_n 3, 1) := by decide +kernel
theorem dX12_joins_75 : decode cX12_joins 75 = .ok (.iload_n 1, 1) := by decide +kernel
theorem dX12_joins_76 : decode cX12_joins 76 = .ok (.aload_n 0, 1) := by decide +kernel
theorem dX12_joins_77 : decode cX12_joins 77 = .ok (.getfield 158, 3) := by decide +kernel
theorem dX12_joins_80 : decode cX12_joins 80 = .ok (.invokevirtual 151, 3) := by decide +kernel
theorem dX12_joins_83 : decode cX12_joins 83 = .ok (.ifCond .eq 44, 3) := by decide +kernel
theorem dX12_joins_86 : decode cX12_joins 86 = .ok (.aload_n 0, 1) := by decide +kernel
theorem dX12_joins_87 : decode cX12_joins 87 = .ok (.aload_n 0, 1) := by decide +kernel
theorem dX12_joins_88 : decode cX12_joins 88 = .ok (.getfield 155, 3) := by decide +kernel
theorem dX12_joins_91 : decode cX12_joins 91 = .ok (.iconst 1, 1) := by decide +kernel
theorem dX12_joins_92 : decode cX12_joins 92 = .ok (.isub, 1) := by decide +kernel
theorem dX12_joins_93 : decode cX12_joins 93 = .ok (.invokevirtual 165, 3) := by decide +kernel
theorem dX12_joins_96 : decode cX12_joins 96 = .ok (.aload_n 0, 1) := by decide +kernel
theorem dX12_joins_97 : decode cX12_joins 97 = .ok (.getfield 36, 3) := by decide +kernel
theorem dX12_joins_100 : decode cX12_joins 100 = .ok (.iload_n 2, 1) := by decide +kernel
theorem dX12_joins_101 : decode cX12_joins 101 = .ok (.iaload, 1) := by decide +kernel
theorem dX12_joins_102 : decode cX12_joins 102 = .ok (.iadd, 1) := by decide +kernel
theorem dX12_joins_103 : decode cX12_joins 103 = .ok (.aload_n 0, 1) := by decide +kernel
theorem dX12_joins_104 : decode cX12_joins 104 = .ok (.getfield 16, 3) := by decide +kernel
theorem dX12_joins_107 : decode cX12_joins 107 = .ok (.iload_n 3, 1) := by decide +kernel
theorem dX12_joins_108 : decode cX12_joins 108 = .ok (.iaload, 1) := by decide +kernel
theorem dX12_joins_109 : decode cX12_joins 109 = .ok (.if_icmp .ge 18, 3) := by decide +kernel
theorem dX12_joins_112 : decode cX12_joins 112 = .ok (.aload_n 0, 1) := by decide +kernel
theorem dX12_joins_113 : decode cX12_joins 113 = .ok (.getfield 39, 3) := by decide +kernel
theorem dX12_joins_116 : decode cX12_joins 116 = .ok (.iload_n 2, 1) := by decide +kernel
theorem dX12_joins_117 : decode cX12_joins 117 = .ok (.iaload, 1) := by decide +kernel
theorem dX12_joins_118 : decode cX12_joins 118 = .ok (.aload_n 0, 1) := by decide +kernel
theorem dX12_joins_119 : decode cX12_joins 119 = .ok (.getfield 16, 3) := by decide +kernel
theorem dX12_joins_122 : decode cX12_joins 122 = .ok (.iload_n 1, 1) := by decide +kernel
theorem dX12_joins_123 : decode cX12_joins 123 = .ok (.iaload, 1) := by decide +kernel
theorem dX12_joins_124 : decode cX12_joins 124 = .ok (.if_icmp .lt 5, 3) := by decide +kernel
theorem dX12_joins_127 : decode cX12_joins 127 = .ok (.iconst (-1), 1) := by decide +kernel
theorem dX12_joins_128 : decode cX12_joins 128 = .ok (.ireturn, 1) := by decide +kernel
theorem dX12_joins_129 : decode cX12_joins 129 = .ok (.aload_n 0, 1) := by decide +kernel
theorem dX12_joins_130 : decode cX12_joins 130 = .ok (.getfield 67, 3) := by decide +kernel
theorem dX12_joins_133 : decode cX12_joins 133 = .ok (.aload_n 0, 1) := by decide +kernel
theorem dX12_joins_134 : decode cX12_joins 134 = .ok (.getfield 155, 3) := by decide +kernel
theorem dX12_joins_137 : decode cX12_joins 137 = .ok (.iload_n 1, 1) := by decide +kernel
theorem dX12_joins_138 : decode cX12_joins 138 = .ok (.iastore, 1) := by decide +kernel
theorem dX12_joins_139 : decode cX12_joins 139 = .ok (.aload_n 0, 1) := by decide +kernel
theorem dX12_joins_140 : decode cX12_joins 140 = .ok (.getfield 70, 3) := by decide +kernel
theorem dX12_joins_143 : decode cX12_joins 143 = .ok (.aload_n 0, 1) := by decide +kernel
theorem dX12_joins_144 : decode cX12_joins 144 = .ok (.getfield 155, 3) := by decide +kernel
theorem dX12_joins_147 : decode cX12_joins 147 = .ok (.aload_n 0, 1) := by decide +kernel
theorem dX12_joins_148 : decode cX12_joins 148 = .ok (.getfield 155, 3) := by decide +kernel
theorem dX12_joins_151 : decode cX12_joins 151 = .ok (.ifCond .ne 7, 3) := by decide +kernel
theorem dX12_joins_154 : decode cX12_joins 154 = .ok (.iconst (-1), 1) := by decide +kernel
theorem dX12_joins_155 : decode cX12_joins 155 = .ok (.goto 4, 3) := by decide +kernel
theorem dX12_joins_158 : decode cX12_joins 158 = .ok (.iload_n 2, 1) := by decide +kernel
theorem dX12_joins_159 : decode cX12_joins 159 = .ok (.iastore, 1) := by decide +kernel
theorem dX12_joins_160 : decode cX12_joins 160 = .ok (.aload_n 0, 1) := by decide +kernel
theorem dX12_joins_161 : decode cX12_joins 161 = .ok (.dup, 1) := by decide +kernel
theorem dX12_joins_162 : decode cX12_joins 162 = .ok (.getfield 155, 3) := by decide +kernel
theorem dX12_joins_165 : decode cX12_joins 165 = .ok (.iconst 1, 1) := by decide +kernel
theorem dX12_joins_166 : decode cX12_joins 166 = .ok (.iadd, 1) := by decide +kernel
theorem dX12_joins_167 : decode cX12_joins 167 = .ok (.putfield 155, 3) := by decide +kernel
theorem dX12_joins_170 : decode cX12_joins 170 = .ok (.aload_n 0, 1) := by decide +kernel
theorem dX12_joins_171 : decode cX12_joins 171 = .ok (.getfield 155, 3) := by decide +kernel
theorem dX12_joins_174 : decode cX12_joins 174 = .ok (.ireturn, 1) := by decide +kernel
theorem dX12_puts_0 : decode cX12_puts 0 = .ok (.aload_n 0, 1) := by decide +kernel
theorem dX12_puts_1 : decode cX12_puts 1 = .ok (.getfield 73, 3) := by decide +kernel
theorem dX12_puts_4 : decode cX12_puts 4 = .ok (.aload_n 0, 1) := by decide +kernel
theorem dX12_puts_5 : decode cX12_puts 5 = .ok (.getfield 169, 3) := by decide +kernel
theorem dX12_puts_8 : decode cX12_puts 8 = .ok (.iload_n 1, 1) := by decide +kernel
theorem dX12_puts_9 : decode cX12_puts 9 = .ok (.i2b, 1) := by decide +kernel
theorem dX12_puts_10 : decode cX12_puts 10 = .ok (.bastore, 1) := by decide +kernel
theorem dX12_puts_11 : decode cX12_puts 11 = .ok (.aload_n 0, 1) := by decide +kernel
theorem dX12_puts_12 : decode cX12_puts 12 = .ok (.dup, 1) := by decide +kernel
theorem dX12_puts_13 : decode cX12_puts 13 = .ok (.getfield 169, 3) := by decide +kernel
theorem dX12_puts_16 : decode cX12_puts 16 = .ok (.iconst 1, 1) := by decide +kernel
theorem dX12_puts_17 : decode cX12_puts 17 = .ok (.iadd, 1) := by decide +kernel
theorem dX12_puts_18 : decode cX12_puts 18 = .ok (.putfield 169, 3) := by decide +kernel
theorem dX12_puts_21 : decode cX12_puts 21 = .ok (.return_, 1) := by decide +kernel
theorem dX12_joined_0 : decode cX12_joined 0 = .ok (.aload_n 0, 1) := by decide +kernel
theorem dX12_joined_1 : decode cX12_joined 1 = .ok (.iconst 0, 1) := by decide +kernel
theorem dX12_joined_2 : decode cX12_joined 2 = .ok (.putfield 169, 3) := by decide +kernel
theorem dX12_joined_5 : decode cX12_joined 5 = .ok (.iconst 0, 1) := by decide +kernel
theorem dX12_joined_6 : decode cX12_joined 6 = .ok (.istore_n 1, 1) := by decide +kernel
theorem dX12_joined_7 : decode cX12_joined 7 = .ok (.iload_n 1, 1) := by decide +kernel
theorem dX12_joined_8 : decode cX12_joined 8 = .ok (.aload_n 0, 1) := by decide +kernel
theorem dX12_joined_9 : decode cX12_joined 9 = .ok (.getfield 155, 3) := by decide +kernel
theorem dX12_joined_12 : decode cX12_joined 12 = .ok (.if_icmp .ge 160, 3) := by decide +kernel
theorem dX12_joined_15 : decode cX12_joined 15 = .ok (.aload_n 0, 1) := by decide +kernel
theorem dX12_joined_16 : decode cX12_joined 16 = .ok (.getfield 67, 3) := by decide +kernel
theorem dX12_joined_19 : decode cX12_joined 19 = .ok (.iload_n 1, 1) := by decide +kernel
theorem dX12_joined_20 : decode cX12_joined 20 = .ok (.iaload, 1) := by decide +kernel
theorem dX12_joined_21 : decode cX12_joined 21 = .ok (.istore_n 2, 1) := by decide +kernel
theorem dX12_joined_22 : decode cX12_joined 22 = .ok (.aload_n 0, 1) := by decide +kernel
theorem dX12_joined_23 : decode cX12_joined 23 = .ok (.getfield 70, 3) := by decide +kernel
theorem dX12_joined_26 : decode cX12_joined 26 = .ok (.iload_n 1, 1) := by decide +kernel
theorem dX12_joined_27 : decode cX12_joined 27 = .ok (.iaload, 1) := by decide +kernel
theorem dX12_joined_28 : decode cX12_joined 28 = .ok (.istore_n 3, 1) := by decide +kernel
theorem dX12_joined_29 : decode cX12_joined 29 = .ok (.iload_n 3, 1) := by decide +kernel
theorem dX12_joined_30 : decode cX12_joined 30 = .ok (.ifCond .lt 53, 3) := by decide +kernel
theorem dX12_joined_33 : decode cX12_joined 33 = .ok (.iconst 0, 1) := by decide +kernel
theorem dX12_joined_34 : decode cX12_joined 34 = .ok (.istore 4, 2) := by decide +kernel
theorem dX12_joined_36 : decode cX12_joined 36 = .ok (.iload 4, 2) := by decide +kernel
theorem dX12_joined_38 : decode cX12_joined 38 = .ok (.aload_n 0, 1) := by decide +kernel
theorem dX12_joined_39 : decode cX12_joined 39 = .ok (.getfield 42, 3) := by decide +kernel
theorem dX12_joined_42 : decode cX12_joined 42 = .ok (.iload_n 3, 1) := by decide +kernel
theorem dX12_joined_43 : decode cX12_joined 43 = .ok (.iaload, 1) := by decide +kernel
theorem dX12_joined_44 : decode cX12_joined 44 = .ok (.if_icmp .ge 39, 3) := by decide +kernel
theorem dX12_joined_47 : decode cX12_joined 47 = .ok (.aload_n 0, 1) := by decide +kernel
theorem dX12_joined_48 : decode cX12_joined 48 = .ok (.aload_n 0, 1) := by decide +kernel
theorem dX12_joined_49 : decode cX12_joined 49 = .ok (.getfield 33, 3) := by decide +kernel
theorem dX12_joined_52 : decode cX12_joined 52 = .ok (.bipush 10, 2) := by decide +kernel
theorem dX12_joined_54 : decode cX12_joined 54 = .ok (.iload_n 3, 1) := by decide +kernel
theorem dX12_joined_55 : decode cX12_joined 55 = .ok (.imul, 1) := by decide +kernel
theorem dX12_joined_56 : decode cX12_joined 56 = .ok (.aload_n 0, 1) := by decide +kernel
theorem dX12_joined_57 : decode cX12_joined 57 = .ok (.getfield 36, 3) := by decide +kernel
theorem dX12_joined_60 : decode cX12_joined 60 = .ok (.iload_n 3, 1) := by decide +kernel
theorem dX12_joined_61 : decode cX12_joined 61 = .ok (.iaload, 1) := by decide +kernel
theorem dX12_joined_62 : decode cX12_joined 62 = .ok (.iadd, 1) := by decide +kernel
theorem dX12_joined_63 : decode cX12_joined 63 = .ok (.aload_n 0, 1) := by decide +kernel
theorem dX12_joined_64 : decode cX12_joined 64 = .ok (.getfield 39, 3) := by decide +kernel
theorem dX12_joined_67 : decode cX12_joined 67 = .ok (.iload_n 3, 1) := by decide +kernel
theorem dX12_joined_68 : decode cX12_joined 68 = .ok (.iaload, 1) := by decide +kernel
theorem dX12_joined_69 : decode cX12_joined 69 = .ok (.iadd, 1) := by decide +kernel
theorem dX12_joined_70 : decode cX12_joined 70 = .ok (.iload 4, 2) := by decide +kernel
theorem dX12_joined_72 : decode cX12_joined 72 = .ok (.iadd, 1) := by decide +kernel
theorem dX12_joined_73 : decode cX12_joined 73 = .ok (.baload, 1) := by decide +kernel
theorem dX12_joined_74 : decode cX12_joined 74 = .ok (.invokevirtual 172, 3) := by decide +kernel
theorem dX12_joined_77 : decode cX12_joined 77 = .ok (.iinc 4 1, 3) := by decide +kernel
theorem dX12_joined_80 : decode cX12_joined 80 = .ok (.goto (-44), 3) := by decide +kernel
theorem dX12_joined_83 : decode cX12_joined 83 = .ok (.aload_n 0, 1) := by decide +kernel
theorem dX12_joined_84 : decode cX12_joined 84 = .ok (.getfield 16, 3) := by decide +kernel
theorem dX12_joined_87 : decode cX12_joined 87 = .ok (.iload_n 2, 1) := by decide +kernel
theorem dX12_joined_88 : decode cX12_joined 88 = .ok (.iaload, 1) := by decide +kernel
theorem dX12_joined_89 : decode cX12_joined 89 = .ok (.iload_n 1, 1) := by decide +kernel
theorem dX12_joined_90 : decode cX12_joined 90 = .ok (.iconst 1, 1) := by decide +kernel
theorem dX12_joined_91 : decode cX12_joined 91 = .ok (.iadd, 1) := by decide +kernel
theorem dX12_joined_92 : decode cX12_joined 92 = .ok (.aload_n 0, 1) := by decide +kernel
theorem dX12_joined_93 : decode cX12_joined 93 = .ok (.getfield 155, 3) := by decide +kernel
theorem dX12_joined_96 : decode cX12_joined 96 = .ok (.if_icmp .ge 30, 3) := by decide +kernel
theorem dX12_joined_99 : decode cX12_joined 99 = .ok (.aload_n 0, 1) := by decide +kernel
theorem dX12_joined_100 : decode cX12_joined 100 = .ok (.getfield 70, 3) := by decide +kernel
theorem dX12_joined_103 : decode cX12_joined 103 = .ok (.iload_n 1, 1) := by decide +kernel
theorem dX12_joined_104 : decode cX12_joined 104 = .ok (.iconst 1, 1) := by decide +kernel
theorem dX12_joined_105 : decode cX12_joined 105 = .ok (.iadd, 1) := by decide +kernel
theorem dX12_joined_106 : decode cX12_joined 106 = .ok (.iaload, 1) := by decide +kernel
theorem dX12_joined_107 : decode cX12_joined 107 = .ok (.ifCond .lt 19, 3) := by decide +kernel
theorem dX12_joined_110 : decode cX12_joined 110 = .ok (.aload_n 0, 1) := by decide +kernel
theorem dX12_joined_111 : decode cX12_joined 111 = .ok (.getfield 36, 3) := by decide +kernel
theorem dX12_joined_114 : decode cX12_joined 114 = .ok (.aload_n 0, 1) := by decide +kernel
theorem dX12_joined_115 : decode cX12_joined 115 = .ok (.getfield 70, 3) := by decide +kernel
theorem dX12_joined_118 : decode cX12_joined 118 = .ok (.iload_n 1, 1) := by decide +kernel
theorem dX12_joined_119 : decode cX12_joined 119 = .ok (.iconst 1, 1) := by decide +kernel
theorem dX12_joined_120 : decode cX12_joined 120 = .ok (.iadd, 1) := by decide +kernel
theorem dX12_joined_121 : decode cX12_joined 121 = .ok (.iaload, 1) := by decide +kernel
theorem dX12_joined_122 : decode cX12_joined 122 = .ok (.iaload, 1) := by decide +kernel
theorem dX12_joined_123 : decode cX12_joined 123 = .ok (.goto 4, 3) := by decide +kernel
theorem dX12_joined_126 : decode cX12_joined 126 = .ok (.iconst 0, 1) := by decide +kernel
theorem dX12_joined_127 : decode cX12_joined 127 = .ok (.isub, 1) := by decide +kernel
theorem dX12_joined_128 : decode cX12_joined 128 = .ok (.istore 4, 2) := by decide +kernel
theorem dX12_joined_130 : decode cX12_joined 130 = .ok (.aload_n 0, 1) := by decide +kernel
theorem dX12_joined_131 : decode cX12_joined 131 = .ok (.iload_n 1, 1) := by decide +kernel
theorem dX12_joined_132 : decode cX12_joined 132 = .ok (.invokevirtual 165, 3) := by decide +kernel
theorem dX12_joined_135 : decode cX12_joined 135 = .ok (.istore 5, 2) := by decide +kernel
theorem dX12_joined_137 : decode cX12_joined 137 = .ok (.iload 5, 2) := by decide +kernel
theorem dX12_joined_139 : decode cX12_joined 139 = .ok (.iload 4, 2) := by decide +kernel
theorem dX12_joined_141 : decode cX12_joined 141 = .ok (.if_icmp .ge 25, 3) := by decide +kernel
theorem dX12_joined_144 : decode cX12_joined 144 = .ok (.aload_n 0, 1) := by decide +kernel
theorem dX12_joined_145 : decode cX12_joined 145 = .ok (.aload_n 0, 1) := by decide +kernel
theorem dX12_joined_146 : decode cX12_joined 146 = .ok (.getfield 13, 3) := by decide +kernel
theorem dX12_joined_149 : decode cX12_joined 149 = .ok (.bipush 8, 2) := by decide +kernel
theorem dX12_joined_151 : decode cX12_joined 151 = .ok (.iload_n 2, 1) := by decide +kernel
theorem dX12_joined_152 : decode cX12_joined 152 = .ok (.imul, 1) := by decide +kernel
theorem dX12_joined_153 : decode cX12_joined 153 = .ok (.iload 5, 2) := by decide +kernel
theorem dX12_joined_155 : decode cX12_joined 155 = .ok (.iadd, 1) := by decide +kernel
theorem dX12_joined_156 : decode cX12_joined 156 = .ok (.baload, 1) := by decide +kernel
theorem dX12_joined_157 : decode cX12_joined 157 = .ok (.invokevirtual 172, 3) := by decide +kernel
theorem dX12_joined_160 : decode cX12_joined 160 = .ok (.iinc 5 1, 3) := by decide +kernel
theorem dX12_joined_163 : decode cX12_joined 163 = .ok (.goto (-26), 3) := by decide +kernel
theorem dX12_joined_166 : decode cX12_joined 166 = .ok (.iinc 1 1, 3) := by decide +kernel
theorem dX12_joined_169 : decode cX12_joined 169 = .ok (.goto (-162), 3) := by decide +kernel
theorem dX12_joined_172 : decode cX12_joined 172 = .ok (.aload_n 0, 1) := by decide +kernel
theorem dX12_joined_173 : decode cX12_joined 173 = .ok (.getfield 169, 3) := by decide +kernel
theorem dX12_joined_176 : decode cX12_joined 176 = .ok (.ireturn, 1) := by decide +kernel
theorem dX12_letter_0 : decode cX12_letter 0 = .ok (.iload_n 1, 1) := by decide +kernel
theorem dX12_letter_1 : decode cX12_letter 1 = .ok (.iconst 0, 1) := by decide +kernel
theorem dX12_letter_2 : decode cX12_letter 2 = .ok (.aload_n 0, 1) := by decide +kernel
theorem dX12_letter_3 : decode cX12_letter 3 = .ok (.getfield 169, 3) := by decide +kernel
theorem dX12_letter_6 : decode cX12_letter 6 = .ok (.iconst 1, 1) := by decide +kernel
theorem dX12_letter_7 : decode cX12_letter 7 = .ok (.isub, 1) := by decide +kernel
theorem dX12_letter_8 : decode cX12_letter 8 = .ok (.invokestatic 134, 3) := by decide +kernel
theorem dX12_letter_11 : decode cX12_letter 11 = .ok (.ifCond .eq 12, 3) := by decide +kernel
theorem dX12_letter_14 : decode cX12_letter 14 = .ok (.aload_n 0, 1) := by decide +kernel
theorem dX12_letter_15 : decode cX12_letter 15 = .ok (.getfield 73, 3) := by decide +kernel
theorem dX12_letter_18 : decode cX12_letter 18 = .ok (.iload_n 1, 1) := by decide +kernel
theorem dX12_letter_19 : decode cX12_letter 19 = .ok (.baload, 1) := by decide +kernel
theorem dX12_letter_20 : decode cX12_letter 20 = .ok (.goto 4, 3) := by decide +kernel
theorem dX12_letter_23 : decode cX12_letter 23 = .ok (.iconst (-1), 1) := by decide +kernel
theorem dX12_letter_24 : decode cX12_letter 24 = .ok (.ireturn, 1) := by decide +kernel
theorem dX12_back_0 : decode cX12_back 0 = .ok (.aload_n 0, 1) := by decide +kernel
theorem dX12_back_1 : decode cX12_back 1 = .ok (.getfield 120, 3) := by decide +kernel
theorem dX12_back_4 : decode cX12_back 4 = .ok (.aload_n 0, 1) := by decide +kernel
theorem dX12_back_5 : decode cX12_back 5 = .ok (.getfield 169, 3) := by decide +kernel
theorem dX12_back_8 : decode cX12_back 8 = .ok (.iadd, 1) := by decide +kernel
theorem dX12_back_9 : decode cX12_back 9 = .ok (.bipush 60, 2) := by decide +kernel
theorem dX12_back_11 : decode cX12_back 11 = .ok (.if_icmp .le 5, 3) := by decide +kernel
theorem dX12_back_14 : decode cX12_back 14 = .ok (.iconst (-1), 1) := by decide +kernel
theorem dX12_back_15 : decode cX12_back 15 = .ok (.ireturn, 1) := by decide +kernel
theorem dX12_back_16 : decode cX12_back 16 = .ok (.iconst 0, 1) := by decide +kernel
theorem dX12_back_17 : decode cX12_back 17 = .ok (.istore_n 1, 1) := by decide +kernel
theorem dX12_back_18 : decode cX12_back 18 = .ok (.iload_n 1, 1) := by decide +kernel
theorem dX12_back_19 : decode cX12_back 19 = .ok (.aload_n 0, 1) := by decide +kernel
theorem dX12_back_20 : decode cX12_back 20 = .ok (.getfield 169, 3) := by decide +kernel
theorem dX12_back_23 : decode cX12_back 23 = .ok (.if_icmp .ge 26, 3) := by decide +kernel
theorem dX12_back_26 : decode cX12_back 26 = .ok (.aload_n 0, 1) := by decide +kernel
theorem dX12_back_27 : decode cX12_back 27 = .ok (.getfield 7, 3) := by decide +kernel
theorem dX12_back_30 : decode cX12_back 30 = .ok (.aload_n 0, 1) := by decide +kernel
theorem dX12_back_31 : decode cX12_back 31 = .ok (.getfield 120, 3) := by decide +kernel
theorem dX12_back_34 : decode cX12_back 34 = .ok (.iload_n 1, 1) := by decide +kernel
theorem dX12_back_35 : decode cX12_back 35 = .ok (.iadd, 1) := by decide +kernel
theorem dX12_back_36 : decode cX12_back 36 = .ok (.aload_n 0, 1) := by decide +kernel
theorem dX12_back_37 : decode cX12_back 37 = .ok (.getfield 73, 3) := by decide +kernel
theorem dX12_back_40 : decode cX12_back 40 = .ok (.iload_n 1, 1) := by decide +kernel
theorem dX12_back_41 : decode cX12_back 41 = .ok (.baload, 1) := by decide +kernel
theorem dX12_back_42 : decode cX12_back 42 = .ok (.bastore, 1) := by decide +kernel
theorem dX12_back_43 : decode cX12_back 43 = .ok (.iinc 1 1, 3) := by decide +kernel
theorem dX12_back_46 : decode cX12_back 46 = .ok (.goto (-28), 3) := by decide +kernel
theorem dX12_back_49 : decode cX12_back 49 = .ok (.aload_n 0, 1) := by decide +kernel
theorem dX12_back_50 : decode cX12_back 50 = .ok (.dup, 1) := by decide +kernel
theorem dX12_back_51 : decode cX12_back 51 = .ok (.getfield 120, 3) := by decide +kernel
theorem dX12_back_54 : decode cX12_back 54 = .ok (.aload_n 0, 1) := by decide +kernel
theorem dX12_back_55 : decode cX12_back 55 = .ok (.getfield 169, 3) := by decide +kernel
theorem dX12_back_58 : decode cX12_back 58 = .ok (.iadd, 1) := by decide +kernel
theorem dX12_back_59 : decode cX12_back 59 = .ok (.putfield 120, 3) := by decide +kernel
theorem dX12_back_62 : decode cX12_back 62 = .ok (.aload_n 0, 1) := by decide +kernel
theorem dX12_back_63 : decode cX12_back 63 = .ok (.iconst 0, 1) := by decide +kernel
theorem dX12_back_64 : decode cX12_back 64 = .ok (.putfield 169, 3) := by decide +kernel
theorem dX12_back_67 : decode cX12_back 67 = .ok (.aload_n 0, 1) := by decide +kernel
theorem dX12_back_68 : decode cX12_back 68 = .ok (.getfield 120, 3) := by decide +kernel
theorem dX12_back_71 : decode cX12_back 71 = .ok (.ireturn, 1) := by decide +kernel
theorem dX12_placeOf_0 : decode cX12_placeOf 0 = .ok (.iconst 4, 1) := by decide +kernel
theorem dX12_placeOf_1 : decode cX12_placeOf 1 = .ok (.iload_n 0, 1) := by decide +kernel
theorem dX12_placeOf_2 : decode cX12_placeOf 2 = .ok (.imul, 1) := by decide +kernel
theorem dX12_placeOf_3 : decode cX12_placeOf 3 = .ok (.iload_n 1, 1) := by decide +kernel
theorem dX12_placeOf_4 : decode cX12_placeOf 4 = .ok (.iadd, 1) := by decide +kernel
theorem dX12_placeOf_5 : decode cX12_placeOf 5 = .ok (.bipush 41, 2) := by decide +kernel
theorem dX12_placeOf_7 : decode cX12_placeOf 7 = .ok (.imul, 1) := by decide +kernel
theorem dX12_placeOf_8 : decode cX12_placeOf 8 = .ok (.iload_n 2, 1) := by decide +kernel
theorem dX12_placeOf_9 : decode cX12_placeOf 9 = .ok (.iadd, 1) := by decide +kernel
theorem dX12_placeOf_10 : decode cX12_placeOf 10 = .ok (.ireturn, 1) := by decide +kernel
theorem dX12_behind_0 : decode cX12_behind 0 = .ok (.iload 4, 2) := by decide +kernel
theorem dX12_behind_2 : decode cX12_behind 2 = .ok (.iload_n 3, 1) := by decide +kernel
theorem dX12_behind_3 : decode cX12_behind 3 = .ok (.iadd, 1) := by decide +kernel
theorem dX12_behind_4 : decode cX12_behind 4 = .ok (.iload_n 2, 1) := by decide +kernel
theorem dX12_behind_5 : decode cX12_behind 5 = .ok (.isub, 1) := by decide +kernel
theorem dX12_behind_6 : decode cX12_behind 6 = .ok (.aload_n 0, 1) := by decide +kernel
theorem dX12_behind_7 : decode cX12_behind 7 = .ok (.getfield 175, 3) := by decide +kernel
theorem dX12_behind_10 : decode cX12_behind 10 = .ok (.if_icmp .le 5, 3) := by decide +kernel
theorem dX12_behind_13 : decode cX12_behind 13 = .ok (.iconst (-1), 1) := by decide +kernel
theorem dX12_behind_14 : decode cX12_behind 14 = .ok (.ireturn, 1) := by decide +kernel
theorem dX12_behind_15 : decode cX12_behind 15 = .ok (.iload_n 2, 1) := by decide +kernel
theorem dX12_behind_16 : decode cX12_behind 16 = .ok (.istore 5, 2) := by decide +kernel
theorem dX12_behind_18 : decode cX12_behind 18 = .ok (.iload 5, 2) := by decide +kernel
theorem dX12_behind_20 : decode cX12_behind 20 = .ok (.iload_n 3, 1) := by decide +kernel
theorem dX12_behind_21 : decode cX12_behind 21 = .ok (.if_icmp .ge 38, 3) := by decide +kernel
theorem dX12_behind_24 : decode cX12_behind 24 = .ok (.aload_n 0, 1) := by decide +kernel
theorem dX12_behind_25 : decode cX12_behind 25 = .ok (.getfield 13, 3) := by decide +kernel
theorem dX12_behind_28 : decode cX12_behind 28 = .ok (.bipush 8, 2) := by decide +kernel
theorem dX12_behind_30 : decode cX12_behind 30 = .ok (.iload_n 1, 1) := by decide +kernel
theorem dX12_behind_31 : decode cX12_behind 31 = .ok (.imul, 1) := by decide +kernel
theorem dX12_behind_32 : decode cX12_behind 32 = .ok (.iload 5, 2) := by decide +kernel
theorem dX12_behind_34 : decode cX12_behind 34 = .ok (.iadd, 1) := by decide +kernel
theorem dX12_behind_35 : decode cX12_behind 35 = .ok (.baload, 1) := by decide +kernel
theorem dX12_behind_36 : decode cX12_behind 36 = .ok (.aload_n 0, 1) := by decide +kernel
theorem dX12_behind_37 : decode cX12_behind 37 = .ok (.getfield 76, 3) := by decide +kernel
theorem dX12_behind_40 : decode cX12_behind 40 = .ok (.iload 4, 2) := by decide +kernel
theorem dX12_behind_42 : decode cX12_behind 42 = .ok (.iload 5, 2) := by decide +kernel
theorem dX12_behind_44 : decode cX12_behind 44 = .ok (.iadd, 1) := by decide +kernel
theorem dX12_behind_45 : decode cX12_behind 45 = .ok (.iload_n 2, 1) := by decide +kernel
theorem dX12_behind_46 : decode cX12_behind 46 = .ok (.isub, 1) := by decide +kernel
theorem dX12_behind_47 : decode cX12_behind 47 = .ok (.baload, 1) := by decide +kernel
theorem dX12_behind_48 : decode cX12_behind 48 = .ok (.if_icmp .eq 5, 3) := by decide +kernel
theorem dX12_behind_51 : decode cX12_behind 51 = .ok (.iconst (-1), 1) := by decide +kernel
theorem dX12_behind_52 : decode cX12_behind 52 = .ok (.ireturn, 1) := by decide +kernel
theorem dX12_behind_53 : decode cX12_behind 53 = .ok (.iinc 5 1, 3) := by decide +kernel
theorem dX12_behind_56 : decode cX12_behind 56 = .ok (.goto (-38), 3) := by decide +kernel
theorem dX12_behind_59 : decode cX12_behind 59 = .ok (.iload 4, 2) := by decide +kernel
theorem dX12_behind_61 : decode cX12_behind 61 = .ok (.iload_n 3, 1) := by decide +kernel
theorem dX12_behind_62 : decode cX12_behind 62 = .ok (.iadd, 1) := by decide +kernel
theorem dX12_behind_63 : decode cX12_behind 63 = .ok (.iload_n 2, 1) := by decide +kernel
theorem dX12_behind_64 : decode cX12_behind 64 = .ok (.isub, 1) := by decide +kernel
theorem dX12_behind_65 : decode cX12_behind 65 = .ok (.ireturn, 1) := by decide +kernel
theorem dX12_passes_0 : decode cX12_passes 0 = .ok (.iload 4, 2) := by decide +kernel
theorem dX12_passes_2 : decode cX12_passes 2 = .ok (.ifCond .ge 17, 3) := by decide +kernel
theorem dX12_passes_5 : decode cX12_passes 5 = .ok (.aload_n 0, 1) := by decide +kernel
theorem dX12_passes_6 : decode cX12_passes 6 = .ok (.iload_n 1, 1) := by decide +kernel
theorem dX12_passes_7 : decode cX12_passes 7 = .ok (.iload_n 2, 1) := by decide +kernel
theorem dX12_passes_8 : decode cX12_passes 8 = .ok (.aload_n 0, 1) := by decide +kernel
theorem dX12_passes_9 : decode cX12_passes 9 = .ok (.getfield 16, 3) := by decide +kernel
theorem dX12_passes_12 : decode cX12_passes 12 = .ok (.iload_n 1, 1) := by decide +kernel
theorem dX12_passes_13 : decode cX12_passes 13 = .ok (.iaload, 1) := by decide +kernel
theorem dX12_passes_14 : decode cX12_passes 14 = .ok (.iload_n 3, 1) := by decide +kernel
theorem dX12_passes_15 : decode cX12_passes 15 = .ok (.invokevirtual 178, 3) := by decide +kernel
theorem dX12_passes_18 : decode cX12_passes 18 = .ok (.ireturn, 1) := by decide +kernel
theorem dX12_passes_19 : decode cX12_passes 19 = .ok (.iload_n 2, 1) := by decide +kernel
theorem dX12_passes_20 : decode cX12_passes 20 = .ok (.aload_n 0, 1) := by decide +kernel
theorem dX12_passes_21 : decode cX12_passes 21 = .ok (.getfield 36, 3) := by decide +kernel
theorem dX12_passes_24 : decode cX12_passes 24 = .ok (.iload 4, 2) := by decide +kernel
theorem dX12_passes_26 : decode cX12_passes 26 = .ok (.iaload, 1) := by decide +kernel
theorem dX12_passes_27 : decode cX12_passes 27 = .ok (.iadd, 1) := by decide +kernel
theorem dX12_passes_28 : decode cX12_passes 28 = .ok (.aload_n 0, 1) := by decide +kernel
theorem dX12_passes_29 : decode cX12_passes 29 = .ok (.getfield 16, 3) := by decide +kernel
theorem dX12_passes_32 : decode cX12_passes 32 = .ok (.iload_n 1, 1) := by decide +kernel
theorem dX12_passes_33 : decode cX12_passes 33 = .ok (.iaload, 1) := by decide +kernel
theorem dX12_passes_34 : decode cX12_passes 34 = .ok (.if_icmp .lt 5, 3) := by decide +kernel
theorem dX12_passes_37 : decode cX12_passes 37 = .ok (.iconst (-1), 1) := by decide +kernel
theorem dX12_passes_38 : decode cX12_passes 38 = .ok (.ireturn, 1) := by decide +kernel
theorem dX12_passes_39 : decode cX12_passes 39 = .ok (.aload_n 0, 1) := by decide +kernel
theorem dX12_passes_40 : decode cX12_passes 40 = .ok (.iload_n 1, 1) := by decide +kernel
theorem dX12_passes_41 : decode cX12_passes 41 = .ok (.iload_n 2, 1) := by decide +kernel
theorem dX12_passes_42 : decode cX12_passes 42 = .ok (.aload_n 0, 1) := by decide +kernel
theorem dX12_passes_43 : decode cX12_passes 43 = .ok (.getfield 16, 3) := by decide +kernel
theorem dX12_passes_46 : decode cX12_passes 46 = .ok (.iload_n 1, 1) := by decide +kernel
theorem dX12_passes_47 : decode cX12_passes 47 = .ok (.iaload, 1) := by decide +kernel
theorem dX12_passes_48 : decode cX12_passes 48 = .ok (.aload_n 0, 1) := by decide +kernel
theorem dX12_passes_49 : decode cX12_passes 49 = .ok (.getfield 36, 3) := by decide +kernel
theorem dX12_passes_52 : decode cX12_passes 52 = .ok (.iload 4, 2) := by decide +kernel
theorem dX12_passes_54 : decode cX12_passes 54 = .ok (.iaload, 1) := by decide +kernel
theorem dX12_passes_55 : decode cX12_passes 55 = .ok (.isub, 1) := by decide +kernel
theorem dX12_passes_56 : decode cX12_passes 56 = .ok (.iload_n 3, 1) := by decide +kernel
theorem dX12_passes_57 : decode cX12_passes 57 = .ok (.invokevirtual 178, 3) := by decide +kernel
theorem dX12_passes_60 : decode cX12_passes 60 = .ok (.istore 5, 2) := by decide +kernel
theorem dX12_passes_62 : decode cX12_passes 62 = .ok (.iload 5, 2) := by decide +kernel
theorem dX12_passes_64 : decode cX12_passes 64 = .ok (.ifCond .lt 20, 3) := by decide +kernel
theorem dX12_passes_67 : decode cX12_passes 67 = .ok (.iload 5, 2) := by decide +kernel
theorem dX12_passes_69 : decode cX12_passes 69 = .ok (.aload_n 0, 1) := by decide +kernel
theorem dX12_passes_70 : decode cX12_passes 70 = .ok (.getfield 42, 3) := by decide +kernel
theorem dX12_passes_73 : decode cX12_passes 73 = .ok (.iload 4, 2) := by decide +kernel
theorem dX12_passes_75 : decode cX12_passes 75 = .ok (.iaload, 1) := by decide +kernel
theorem dX12_passes_76 : decode cX12_passes 76 = .ok (.iadd, 1) := by decide +kernel
theorem dX12_passes_77 : decode cX12_passes 77 = .ok (.aload_n 0, 1) := by decide +kernel
theorem dX12_passes_78 : decode cX12_passes 78 = .ok (.getfield 175, 3) := by decide +kernel
theorem dX12_passes_81 : decode cX12_passes 81 = .ok (.if_icmp .le 5, 3) := by decide +kernel
theorem dX12_passes_84 : decode cX12_passes 84 = .ok (.iconst (-1), 1) := by decide +kernel
theorem dX12_passes_85 : decode cX12_passes 85 = .ok (.ireturn, 1) := by decide +kernel
theorem dX12_passes_86 : decode cX12_passes 86 = .ok (.iconst 0, 1) := by decide +kernel
theorem dX12_passes_87 : decode cX12_passes 87 = .ok (.istore 6, 2) := by decide +kernel
theorem dX12_passes_89 : decode cX12_passes 89 = .ok (.iload 6, 2) := by decide +kernel
theorem dX12_passes_91 : decode cX12_passes 91 = .ok (.aload_n 0, 1) := by decide +kernel
theorem dX12_passes_92 : decode cX12_passes 92 = .ok (.getfield 42, 3) := by decide +kernel
theorem dX12_passes_95 : decode cX12_passes 95 = .ok (.iload 4, 2) := by decide +kernel
theorem dX12_passes_97 : decode cX12_passes 97 = .ok (.iaload, 1) := by decide +kernel
theorem dX12_passes_98 : decode cX12_passes 98 = .ok (.if_icmp .ge 53, 3) := by decide +kernel
theorem dX12_passes_101 : decode cX12_passes 101 = .ok (.aload_n 0, 1) := by decide +kernel
theorem dX12_passes_102 : decode cX12_passes 102 = .ok (.getfield 33, 3) := by decide +kernel
theorem dX12_passes_105 : decode cX12_passes 105 = .ok (.bipush 10, 2) := by decide +kernel
theorem dX12_passes_107 : decode cX12_passes 107 = .ok (.iload 4, 2) := by decide +kernel
theorem dX12_passes_109 : decode cX12_passes 109 = .ok (.imul, 1) := by decide +kernel
theorem dX12_passes_110 : decode cX12_passes 110 = .ok (.aload_n 0, 1) := by decide +kernel
theorem dX12_passes_111 : decode cX12_passes 111 = .ok (.getfield 36, 3) := by decide +kernel
theorem dX12_passes_114 : decode cX12_passes 114 = .ok (.iload 4, 2) := by decide +kernel
theorem dX12_passes_116 : decode cX12_passes 116 = .ok (.iaload, 1) := by decide +kernel
theorem dX12_passes_117 : decode cX12_passes 117 = .ok (.iadd, 1) := by decide +kernel
theorem dX12_passes_118 : decode cX12_passes 118 = .ok (.aload_n 0, 1) := by decide +kernel
theorem dX12_passes_119 : decode cX12_passes 119 = .ok (.getfield 39, 3) := by decide +kernel
theorem dX12_passes_122 : decode cX12_passes 122 = .ok (.iload 4, 2) := by decide +kernel
theorem dX12_passes_124 : decode cX12_passes 124 = .ok (.iaload, 1) := by decide +kernel
theorem dX12_passes_125 : decode cX12_passes 125 = .ok (.iadd, 1) := by decide +kernel
theorem dX12_passes_126 : decode cX12_passes 126 = .ok (.iload 6, 2) := by decide +kernel
theorem dX12_passes_128 : decode cX12_passes 128 = .ok (.iadd, 1) := by decide +kernel
theorem dX12_passes_129 : decode cX12_passes 129 = .ok (.baload, 1) := by decide +kernel
theorem dX12_passes_130 : decode cX12_passes 130 = .ok (.aload_n 0, 1) := by decide +kernel
theorem dX12_passes_131 : decode cX12_passes 131 = .ok (.getfield 76, 3) := by decide +kernel
theorem dX12_passes_134 : decode cX12_passes 134 = .ok (.iload 5, 2) := by decide +kernel
theorem dX12_passes_136 : decode cX12_passes 136 = .ok (.iload 6, 2) := by decide +kernel
theorem dX12_passes_138 : decode cX12_passes 138 = .ok (.iadd, 1) := by decide +kernel
theorem dX12_passes_139 : decode cX12_passes 139 = .ok (.baload, 1) := by decide +kernel
theorem dX12_passes_140 : decode cX12_passes 140 = .ok (.if_icmp .eq 5, 3) := by decide +kernel
theorem dX12_passes_143 : decode cX12_passes 143 = .ok (.iconst (-1), 1) := by decide +kernel
theorem dX12_passes_144 : decode cX12_passes 144 = .ok (.ireturn, 1) := by decide +kernel
theorem dX12_passes_145 : decode cX12_passes 145 = .ok (.iinc 6 1, 3) := by decide +kernel
theorem dX12_passes_148 : decode cX12_passes 148 = .ok (.goto (-59), 3) := by decide +kernel
theorem dX12_passes_151 : decode cX12_passes 151 = .ok (.iload 5, 2) := by decide +kernel
theorem dX12_passes_153 : decode cX12_passes 153 = .ok (.aload_n 0, 1) := by decide +kernel
theorem dX12_passes_154 : decode cX12_passes 154 = .ok (.getfield 42, 3) := by decide +kernel
theorem dX12_passes_157 : decode cX12_passes 157 = .ok (.iload 4, 2) := by decide +kernel
theorem dX12_passes_159 : decode cX12_passes 159 = .ok (.iaload, 1) := by decide +kernel
theorem dX12_passes_160 : decode cX12_passes 160 = .ok (.iadd, 1) := by decide +kernel
theorem dX12_passes_161 : decode cX12_passes 161 = .ok (.ireturn, 1) := by decide +kernel
theorem dX12_isBetween_0 : decode cX12_isBetween 0 = .ok (.aload_n 0, 1) := by decide +kernel
theorem dX12_isBetween_1 : decode cX12_isBetween 1 = .ok (.getfield 182, 3) := by decide +kernel
theorem dX12_isBetween_4 : decode cX12_isBetween 4 = .ok (.ifCond .eq 29, 3) := by decide +kernel
theorem dX12_isBetween_7 : decode cX12_isBetween 7 = .ok (.aload_n 0, 1) := by decide +kernel
theorem dX12_isBetween_8 : decode cX12_isBetween 8 = .ok (.getfield 54, 3) := by decide +kernel
theorem dX12_isBetween_11 : decode cX12_isBetween 11 = .ok (.bipush 6, 2) := by decide +kernel
theorem dX12_isBetween_13 : decode cX12_isBetween 13 = .ok (.aload_n 0, 1) := by decide +kernel
theorem dX12_isBetween_14 : decode cX12_isBetween 14 = .ok (.getfield 20, 3) := by decide +kernel
theorem dX12_isBetween_17 : decode cX12_isBetween 17 = .ok (.iload_n 1, 1) := by decide +kernel
theorem dX12_isBetween_18 : decode cX12_isBetween 18 = .ok (.iaload, 1) := by decide +kernel
theorem dX12_isBetween_19 : decode cX12_isBetween 19 = .ok (.imul, 1) := by decide +kernel
theorem dX12_isBetween_20 : decode cX12_isBetween 20 = .ok (.aload_n 0, 1) := by decide +kernel
theorem dX12_isBetween_21 : decode cX12_isBetween 21 = .ok (.getfield 20, 3) := by decide +kernel
theorem dX12_isBetween_24 : decode cX12_isBetween 24 = .ok (.iload_n 2, 1) := by decide +kernel
theorem dX12_isBetween_25 : decode cX12_isBetween 25 = .ok (.iaload, 1) := by decide +kernel
theorem dX12_isBetween_26 : decode cX12_isBetween 26 = .ok (.iadd, 1) := by decide +kernel
theorem dX12_isBetween_27 : decode cX12_isBetween 27 = .ok (.baload, 1) := by decide +kernel
theorem dX12_isBetween_28 : decode cX12_isBetween 28 = .ok (.ifCond .eq 5, 3) := by decide +kernel
theorem dX12_isBetween_31 : decode cX12_isBetween 31 = .ok (.iconst 0, 1) := by decide +kernel
theorem dX12_isBetween_32 : decode cX12_isBetween 32 = .ok (.ireturn, 1) := by decide +kernel
theorem dX12_isBetween_33 : decode cX12_isBetween 33 = .ok (.iload_n 3, 1) := by decide +kernel
theorem dX12_isBetween_34 : decode cX12_isBetween 34 = .ok (.ifCond .ge 25, 3) := by decide +kernel
theorem dX12_isBetween_37 : decode cX12_isBetween 37 = .ok (.aload_n 0, 1) := by decide +kernel
theorem dX12_isBetween_38 : decode cX12_isBetween 38 = .ok (.getfield 79, 3) := by decide +kernel
theorem dX12_isBetween_41 : decode cX12_isBetween 41 = .ok (.bipush 40, 2) := by decide +kernel
theorem dX12_isBetween_43 : decode cX12_isBetween 43 = .ok (.iload_n 1, 1) := by decide +kernel
theorem dX12_isBetween_44 : decode cX12_isBetween 44 = .ok (.imul, 1) := by decide +kernel
theorem dX12_isBetween_45 : decode cX12_isBetween 45 = .ok (.iload_n 2, 1) := by decide +kernel
theorem dX12_isBetween_46 : decode cX12_isBetween 46 = .ok (.iadd, 1) := by decide +kernel
theorem dX12_isBetween_47 : decode cX12_isBetween 47 = .ok (.iaload, 1) := by decide +kernel
theorem dX12_isBetween_48 : decode cX12_isBetween 48 = .ok (.ifCond .ne 7, 3) := by decide +kernel
theorem dX12_isBetween_51 : decode cX12_isBetween 51 = .ok (.iconst 1, 1) := by decide +kernel
theorem dX12_isBetween_52 : decode cX12_isBetween 52 = .ok (.goto 46, 3) := by decide +kernel
theorem dX12_isBetween_55 : decode cX12_isBetween 55 = .ok (.iconst 0, 1) := by decide +kernel
theorem dX12_isBetween_56 : decode cX12_isBetween 56 = .ok (.goto 42, 3) := by decide +kernel
theorem dX12_isBetween_59 : decode cX12_isBetween 59 = .ok (.aload_n 0, 1) := by decide +kernel
theorem dX12_isBetween_60 : decode cX12_isBetween 60 = .ok (.getfield 79, 3) := by decide +kernel
theorem dX12_isBetween_63 : decode cX12_isBetween 63 = .ok (.bipush 40, 2) := by decide +kernel
theorem dX12_isBetween_65 : decode cX12_isBetween 65 = .ok (.iload_n 1, 1) := by decide +kernel
theorem dX12_isBetween_66 : decode cX12_isBetween 66 = .ok (.imul, 1) := by decide +kernel
theorem dX12_isBetween_67 : decode cX12_isBetween 67 = .ok (.iload_n 2, 1) := by decide +kernel
theorem dX12_isBetween_68 : decode cX12_isBetween 68 = .ok (.iadd, 1) := by decide +kernel
theorem dX12_isBetween_69 : decode cX12_isBetween 69 = .ok (.iaload, 1) := by decide +kernel
theorem dX12_isBetween_70 : decode cX12_isBetween 70 = .ok (.iload_n 3, 1) := by decide +kernel
theorem dX12_isBetween_71 : decode cX12_isBetween 71 = .ok (.ishr, 1) := by decide +kernel
theorem dX12_isBetween_72 : decode cX12_isBetween 72 = .ok (.iconst 1, 1) := by decide +kernel
theorem dX12_isBetween_73 : decode cX12_isBetween 73 = .ok (.iand, 1) := by decide +kernel
theorem dX12_isBetween_74 : decode cX12_isBetween 74 = .ok (.iconst 1, 1) := by decide +kernel
theorem dX12_isBetween_75 : decode cX12_isBetween 75 = .ok (.if_icmp .ne 22, 3) := by decide +kernel
theorem dX12_isBetween_78 : decode cX12_isBetween 78 = .ok (.aload_n 0, 1) := by decide +kernel
theorem dX12_isBetween_79 : decode cX12_isBetween 79 = .ok (.getfield 39, 3) := by decide +kernel
theorem dX12_isBetween_82 : decode cX12_isBetween 82 = .ok (.iload_n 3, 1) := by decide +kernel
theorem dX12_isBetween_83 : decode cX12_isBetween 83 = .ok (.iaload, 1) := by decide +kernel
theorem dX12_isBetween_84 : decode cX12_isBetween 84 = .ok (.aload_n 0, 1) := by decide +kernel
theorem dX12_isBetween_85 : decode cX12_isBetween 85 = .ok (.getfield 16, 3) := by decide +kernel
theorem dX12_isBetween_88 : decode cX12_isBetween 88 = .ok (.iload_n 2, 1) := by decide +kernel
theorem dX12_isBetween_89 : decode cX12_isBetween 89 = .ok (.iaload, 1) := by decide +kernel
theorem dX12_isBetween_90 : decode cX12_isBetween 90 = .ok (.if_icmp .ge 7, 3) := by decide +kernel
theorem dX12_isBetween_93 : decode cX12_isBetween 93 = .ok (.iconst 1, 1) := by decide +kernel
theorem dX12_isBetween_94 : decode cX12_isBetween 94 = .ok (.goto 4, 3) := by decide +kernel
theorem dX12_isBetween_97 : decode cX12_isBetween 97 = .ok (.iconst 0, 1) := by decide +kernel
theorem dX12_isBetween_98 : decode cX12_isBetween 98 = .ok (.ireturn, 1) := by decide +kernel
theorem dX12_reaches_0 : decode cX12_reaches 0 = .ok (.iconst 0, 1) := by decide +kernel
theorem dX12_reaches_1 : decode cX12_reaches 1 = .ok (.istore_n 1, 1) := by decide +kernel
theorem dX12_reaches_2 : decode cX12_reaches 2 = .ok (.iload_n 1, 1) := by decide +kernel
theorem dX12_reaches_3 : decode cX12_reaches 3 = .ok (.sipush 6560, 3) := by decide +kernel
theorem dX12_reaches_6 : decode cX12_reaches 6 = .ok (.if_icmp .ge 16, 3) := by decide +kernel
theorem dX12_reaches_9 : decode cX12_reaches 9 = .ok (.aload_n 0, 1) := by decide +kernel
theorem dX12_reaches_10 : decode cX12_reaches 10 = .ok (.getfield 82, 3) := by decide +kernel
theorem dX12_reaches_13 : decode cX12_reaches 13 = .ok (.iload_n 1, 1) := by decide +kernel
theorem dX12_reaches_14 : decode cX12_reaches 14 = .ok (.iconst 0, 1) := by decide +kernel
theorem dX12_reaches_15 : decode cX12_reaches 15 = .ok (.bastore, 1) := by decide +kernel
theorem dX12_reaches_16 : decode cX12_reaches 16 = .ok (.iinc 1 1, 3) := by decide +kernel
theorem dX12_reaches_19 : decode cX12_reaches 19 = .ok (.goto (-17), 3) := by decide +kernel
theorem dX12_reaches_22 : decode cX12_reaches 22 = .ok (.iconst 0, 1) := by decide +kernel
theorem dX12_reaches_23 : decode cX12_reaches 23 = .ok (.istore_n 1, 1) := by decide +kernel
theorem dX12_reaches_24 : decode cX12_reaches 24 = .ok (.iload_n 1, 1) := by decide +kernel
theorem dX12_reaches_25 : decode cX12_reaches 25 = .ok (.aload_n 0, 1) := by decide +kernel
theorem dX12_reaches_26 : decode cX12_reaches 26 = .ok (.getfield 131, 3) := by decide +kernel
theorem dX12_reaches_29 : decode cX12_reaches 29 = .ok (.if_icmp .ge 21, 3) := by decide +kernel
theorem dX12_reaches_32 : decode cX12_reaches 32 = .ok (.aload_n 0, 1) := by decide +kernel
theorem dX12_reaches_33 : decode cX12_reaches 33 = .ok (.getfield 82, 3) := by decide +kernel
theorem dX12_reaches_36 : decode cX12_reaches 36 = .ok (.iload_n 1, 1) := by decide +kernel
theorem dX12_reaches_37 : decode cX12_reaches 37 = .ok (.iconst 0, 1) := by decide +kernel
theorem dX12_reaches_38 : decode cX12_reaches 38 = .ok (.iconst 0, 1) := by decide +kernel
theorem dX12_reaches_39 : decode cX12_reaches 39 = .ok (.invokestatic 186, 3) := by decide +kernel
theorem dX12_reaches_42 : decode cX12_reaches 42 = .ok (.iconst 1, 1) := by decide +kernel
theorem dX12_reaches_43 : decode cX12_reaches 43 = .ok (.bastore, 1) := by decide +kernel
theorem dX12_reaches_44 : decode cX12_reaches 44 = .ok (.iinc 1 1, 3) := by decide +kernel
theorem dX12_reaches_47 : decode cX12_reaches 47 = .ok (.goto (-23), 3) := by decide +kernel
theorem dX12_reaches_50 : decode cX12_reaches 50 = .ok (.iconst 0, 1) := by decide +kernel
theorem dX12_reaches_51 : decode cX12_reaches 51 = .ok (.istore_n 1, 1) := by decide +kernel
theorem dX12_reaches_52 : decode cX12_reaches 52 = .ok (.iload_n 1, 1) := by decide +kernel
theorem dX12_reaches_53 : decode cX12_reaches 53 = .ok (.aload_n 0, 1) := by decide +kernel
theorem dX12_reaches_54 : decode cX12_reaches 54 = .ok (.getfield 175, 3) := by decide +kernel
theorem dX12_reaches_57 : decode cX12_reaches 57 = .ok (.if_icmp .ge 59, 3) := by decide +kernel
theorem dX12_reaches_60 : decode cX12_reaches 60 = .ok (.iconst 0, 1) := by decide +kernel
theorem dX12_reaches_61 : decode cX12_reaches 61 = .ok (.istore_n 2, 1) := by decide +kernel
theorem dX12_reaches_62 : decode cX12_reaches 62 = .ok (.iload_n 2, 1) := by decide +kernel
theorem dX12_reaches_63 : decode cX12_reaches 63 = .ok (.aload_n 0, 1) := by decide +kernel
theorem dX12_reaches_64 : decode cX12_reaches 64 = .ok (.getfield 131, 3) := by decide +kernel
theorem dX12_reaches_67 : decode cX12_reaches 67 = .ok (.if_icmp .ge 43, 3) := by decide +kernel
theorem dX12_reaches_70 : decode cX12_reaches 70 = .ok (.iconst 0, 1) := by decide +kernel
theorem dX12_reaches_71 : decode cX12_reaches 71 = .ok (.istore_n 3, 1) := by decide +kernel
theorem dX12_reaches_72 : decode cX12_reaches 72 = .ok (.iload_n 3, 1) := by decide +kernel
theorem dX12_reaches_73 : decode cX12_reaches 73 = .ok (.iconst 4, 1) := by decide +kernel
theorem dX12_reaches_74 : decode cX12_reaches 74 = .ok (.if_icmp .ge 30, 3) := by decide +kernel
theorem dX12_reaches_77 : decode cX12_reaches 77 = .ok (.aload_n 0, 1) := by decide +kernel
theorem dX12_reaches_78 : decode cX12_reaches 78 = .ok (.getfield 82, 3) := by decide +kernel
theorem dX12_reaches_81 : decode cX12_reaches 81 = .ok (.iload_n 2, 1) := by decide +kernel
theorem dX12_reaches_82 : decode cX12_reaches 82 = .ok (.iload_n 3, 1) := by decide +kernel
theorem dX12_reaches_83 : decode cX12_reaches 83 = .ok (.iload_n 1, 1) := by decide +kernel
theorem dX12_reaches_84 : decode cX12_reaches 84 = .ok (.invokestatic 186, 3) := by decide +kernel
theorem dX12_reaches_87 : decode cX12_reaches 87 = .ok (.baload, 1) := by decide +kernel
theorem dX12_reaches_88 : decode cX12_reaches 88 = .ok (.ifCond .eq 10, 3) := by decide +kernel
theorem dX12_reaches_91 : decode cX12_reaches 91 = .ok (.aload_n 0, 1) := by decide +kernel
theorem dX12_reaches_92 : decode cX12_reaches 92 = .ok (.iload_n 2, 1) := by decide +kernel
theorem dX12_reaches_93 : decode cX12_reaches 93 = .ok (.iload_n 3, 1) := by decide +kernel
theorem dX12_reaches_94 : decode cX12_reaches 94 = .ok (.iload_n 1, 1) := by decide +kernel
theorem dX12_reaches_95 : decode cX12_reaches 95 = .ok (.invokevirtual 189, 3) := by decide +kernel
theorem dX12_reaches_98 : decode cX12_reaches 98 = .ok (.iinc 3 1, 3) := by decide +kernel
theorem dX12_reaches_101 : decode cX12_reaches 101 = .ok (.goto (-29), 3) := by decide +kernel
theorem dX12_reaches_104 : decode cX12_reaches 104 = .ok (.iinc 2 1, 3) := by decide +kernel
theorem dX12_reaches_107 : decode cX12_reaches 107 = .ok (.goto (-45), 3) := by decide +kernel
theorem dX12_reaches_110 : decode cX12_reaches 110 = .ok (.iinc 1 1, 3) := by decide +kernel
theorem dX12_reaches_113 : decode cX12_reaches 113 = .ok (.goto (-61), 3) := by decide +kernel
theorem dX12_reaches_116 : decode cX12_reaches 116 = .ok (.return_, 1) := by decide +kernel
theorem dX12_goesOn_0 : decode cX12_goesOn 0 = .ok (.iconst 0, 1) := by decide +kernel
theorem dX12_goesOn_1 : decode cX12_goesOn 1 = .ok (.istore 4, 2) := by decide +kernel
theorem dX12_goesOn_3 : decode cX12_goesOn 3 = .ok (.iload 4, 2) := by decide +kernel
theorem dX12_goesOn_5 : decode cX12_goesOn 5 = .ok (.aload_n 0, 1) := by decide +kernel
theorem dX12_goesOn_6 : decode cX12_goesOn 6 = .ok (.getfield 131, 3) := by decide +kernel
theorem dX12_goesOn_9 : decode cX12_goesOn 9 = .ok (.if_icmp .ge 87, 3) := by decide +kernel
theorem dX12_goesOn_12 : decode cX12_goesOn 12 = .ok (.iconst (-1), 1) := by decide +kernel
theorem dX12_goesOn_13 : decode cX12_goesOn 13 = .ok (.istore 5, 2) := by decide +kernel
theorem dX12_goesOn_15 : decode cX12_goesOn 15 = .ok (.iload 5, 2) := by decide +kernel
theorem dX12_goesOn_17 : decode cX12_goesOn 17 = .ok (.aload_n 0, 1) := by decide +kernel
theorem dX12_goesOn_18 : decode cX12_goesOn 18 = .ok (.getfield 138, 3) := by decide +kernel
theorem dX12_goesOn_21 : decode cX12_goesOn 21 = .ok (.if_icmp .ge 69, 3) := by decide +kernel
theorem dX12_goesOn_24 : decode cX12_goesOn 24 = .ok (.aload_n 0, 1) := by decide +kernel
theorem dX12_goesOn_25 : decode cX12_goesOn 25 = .ok (.iload_n 1, 1) := by decide +kernel
theorem dX12_goesOn_26 : decode cX12_goesOn 26 = .ok (.iload 4, 2) := by decide +kernel
theorem dX12_goesOn_28 : decode cX12_goesOn 28 = .ok (.iload 5, 2) := by decide +kernel
theorem dX12_goesOn_30 : decode cX12_goesOn 30 = .ok (.invokevirtual 193, 3) := by decide +kernel
theorem dX12_goesOn_33 : decode cX12_goesOn 33 = .ok (.ifCond .ne 6, 3) := by decide +kernel
theorem dX12_goesOn_36 : decode cX12_goesOn 36 = .ok (.goto 48, 3) := by decide +kernel
theorem dX12_goesOn_39 : decode cX12_goesOn 39 = .ok (.aload_n 0, 1) := by decide +kernel
theorem dX12_goesOn_40 : decode cX12_goesOn 40 = .ok (.iload_n 1, 1) := by decide +kernel
theorem dX12_goesOn_41 : decode cX12_goesOn 41 = .ok (.iload_n 2, 1) := by decide +kernel
theorem dX12_goesOn_42 : decode cX12_goesOn 42 = .ok (.iload_n 3, 1) := by decide +kernel
theorem dX12_goesOn_43 : decode cX12_goesOn 43 = .ok (.iload 5, 2) := by decide +kernel
theorem dX12_goesOn_45 : decode cX12_goesOn 45 = .ok (.invokevirtual 196, 3) := by decide +kernel
theorem dX12_goesOn_48 : decode cX12_goesOn 48 = .ok (.istore 6, 2) := by decide +kernel
theorem dX12_goesOn_50 : decode cX12_goesOn 50 = .ok (.iload 6, 2) := by decide +kernel
theorem dX12_goesOn_52 : decode cX12_goesOn 52 = .ok (.ifCond .lt 32, 3) := by decide +kernel
theorem dX12_goesOn_55 : decode cX12_goesOn 55 = .ok (.aload_n 0, 1) := by decide +kernel
theorem dX12_goesOn_56 : decode cX12_goesOn 56 = .ok (.getfield 82, 3) := by decide +kernel
theorem dX12_goesOn_59 : decode cX12_goesOn 59 = .ok (.iload 4, 2) := by decide +kernel
theorem dX12_goesOn_61 : decode cX12_goesOn 61 = .ok (.iload 5, 2) := by decide +kernel
theorem dX12_goesOn_63 : decode cX12_goesOn 63 = .ok (.ifCond .ge 7, 3) := by decide +kernel
theorem dX12_goesOn_66 : decode cX12_goesOn 66 = .ok (.iconst 0, 1) := by decide +kernel
theorem dX12_goesOn_67 : decode cX12_goesOn 67 = .ok (.goto 10, 3) := by decide +kernel
theorem dX12_goesOn_70 : decode cX12_goesOn 70 = .ok (.aload_n 0, 1) := by decide +kernel
theorem dX12_goesOn_71 : decode cX12_goesOn 71 = .ok (.getfield 39, 3) := by decide +kernel
theorem dX12_goesOn_74 : decode cX12_goesOn 74 = .ok (.iload 5, 2) := by decide +kernel
theorem dX12_goesOn_76 : decode cX12_goesOn 76 = .ok (.iaload, 1) := by decide +kernel
theorem dX12_goesOn_77 : decode cX12_goesOn 77 = .ok (.iload 6, 2) := by decide +kernel
theorem dX12_goesOn_79 : decode cX12_goesOn 79 = .ok (.invokestatic 186, 3) := by decide +kernel
theorem dX12_goesOn_82 : decode cX12_goesOn 82 = .ok (.iconst 1, 1) := by decide +kernel
theorem dX12_goesOn_83 : decode cX12_goesOn 83 = .ok (.bastore, 1) := by decide +kernel
theorem dX12_goesOn_84 : decode cX12_goesOn 84 = .ok (.iinc 5 1, 3) := by decide +kernel
theorem dX12_goesOn_87 : decode cX12_goesOn 87 = .ok (.goto (-72), 3) := by decide +kernel
theorem dX12_goesOn_90 : decode cX12_goesOn 90 = .ok (.iinc 4 1, 3) := by decide +kernel
theorem dX12_goesOn_93 : decode cX12_goesOn 93 = .ok (.goto (-90), 3) := by decide +kernel
theorem dX12_goesOn_96 : decode cX12_goesOn 96 = .ok (.return_, 1) := by decide +kernel
theorem dX12_plus_0 : decode cX12_plus 0 = .ok (.lload_n 0, 1) := by decide +kernel
theorem dX12_plus_1 : decode cX12_plus 1 = .ok (.lload_n 2, 1) := by decide +kernel
theorem dX12_plus_2 : decode cX12_plus 2 = .ok (.ladd, 1) := by decide +kernel
theorem dX12_plus_3 : decode cX12_plus 3 = .ok (.ldc2_w 199, 3) := by decide +kernel
theorem dX12_plus_6 : decode cX12_plus 6 = .ok (.lcmp, 1) := by decide +kernel
theorem dX12_plus_7 : decode cX12_plus 7 = .ok (.ifCond .le 9, 3) := by decide +kernel
theorem dX12_plus_10 : decode cX12_plus 10 = .ok (.ldc2_w 199, 3) := by decide +kernel
theorem dX12_plus_13 : decode cX12_plus 13 = .ok (.goto 6, 3) := by decide +kernel
theorem dX12_plus_16 : decode cX12_plus 16 = .ok (.lload_n 0, 1) := by decide +kernel
theorem dX12_plus_17 : decode cX12_plus 17 = .ok (.lload_n 2, 1) := by decide +kernel
theorem dX12_plus_18 : decode cX12_plus 18 = .ok (.ladd, 1) := by decide +kernel
theorem dX12_plus_19 : decode cX12_plus 19 = .ok (.lreturn, 1) := by decide +kernel
theorem dX12_keeps_0 : decode cX12_keeps 0 = .ok (.aload_n 0, 1) := by decide +kernel
theorem dX12_keeps_1 : decode cX12_keeps 1 = .ok (.getfield 93, 3) := by decide +kernel
theorem dX12_keeps_4 : decode cX12_keeps 4 = .ok (.iload_n 1, 1) := by decide +kernel
theorem dX12_keeps_5 : decode cX12_keeps 5 = .ok (.iaload, 1) := by decide +kernel
theorem dX12_keeps_6 : decode cX12_keeps 6 = .ok (.istore_n 3, 1) := by decide +kernel
theorem dX12_keeps_7 : decode cX12_keeps 7 = .ok (.iload_n 3, 1) := by decide +kernel
theorem dX12_keeps_8 : decode cX12_keeps 8 = .ok (.bipush 8, 2) := by decide +kernel
theorem dX12_keeps_10 : decode cX12_keeps 10 = .ok (.if_icmp .ne 22, 3) := by decide +kernel
theorem dX12_keeps_13 : decode cX12_keeps 13 = .ok (.aload_n 0, 1) := by decide +kernel
theorem dX12_keeps_14 : decode cX12_keeps 14 = .ok (.getfield 90, 3) := by decide +kernel
theorem dX12_keeps_17 : decode cX12_keeps 17 = .ok (.bipush 8, 2) := by decide +kernel
theorem dX12_keeps_19 : decode cX12_keeps 19 = .ok (.iload_n 1, 1) := by decide +kernel
theorem dX12_keeps_20 : decode cX12_keeps 20 = .ok (.imul, 1) := by decide +kernel
theorem dX12_keeps_21 : decode cX12_keeps 21 = .ok (.bipush 8, 2) := by decide +kernel
theorem dX12_keeps_23 : decode cX12_keeps 23 = .ok (.iadd, 1) := by decide +kernel
theorem dX12_keeps_24 : decode cX12_keeps 24 = .ok (.iconst 1, 1) := by decide +kernel
theorem dX12_keeps_25 : decode cX12_keeps 25 = .ok (.isub, 1) := by decide +kernel
theorem dX12_keeps_26 : decode cX12_keeps 26 = .ok (.iaload, 1) := by decide +kernel
theorem dX12_keeps_27 : decode cX12_keeps 27 = .ok (.iload_n 2, 1) := by decide +kernel
theorem dX12_keeps_28 : decode cX12_keeps 28 = .ok (.if_icmp .ge 4, 3) := by decide +kernel
theorem dX12_keeps_31 : decode cX12_keeps 31 = .ok (.return_, 1) := by decide +kernel
theorem dX12_keeps_32 : decode cX12_keeps 32 = .ok (.iload_n 3, 1) := by decide +kernel
theorem dX12_keeps_33 : decode cX12_keeps 33 = .ok (.bipush 8, 2) := by decide +kernel
theorem dX12_keeps_35 : decode cX12_keeps 35 = .ok (.if_icmp .ne 8, 3) := by decide +kernel
theorem dX12_keeps_38 : decode cX12_keeps 38 = .ok (.bipush 7, 2) := by decide +kernel
theorem dX12_keeps_40 : decode cX12_keeps 40 = .ok (.goto 4, 3) := by decide +kernel
theorem dX12_keeps_43 : decode cX12_keeps 43 = .ok (.iload_n 3, 1) := by decide +kernel
theorem dX12_keeps_44 : decode cX12_keeps 44 = .ok (.istore 4, 2) := by decide +kernel
theorem dX12_keeps_46 : decode cX12_keeps 46 = .ok (.iload 4, 2) := by decide +kernel
theorem dX12_keeps_48 : decode cX12_keeps 48 = .ok (.ifCond .le 53, 3) := by decide +kernel
theorem dX12_keeps_51 : decode cX12_keeps 51 = .ok (.aload_n 0, 1) := by decide +kernel
theorem dX12_keeps_52 : decode cX12_keeps 52 = .ok (.getfield 90, 3) := by decide +kernel
theorem dX12_keeps_55 : decode cX12_keeps 55 = .ok (.bipush 8, 2) := by decide +kernel
theorem dX12_keeps_57 : decode cX12_keeps 57 = .ok (.iload_n 1, 1) := by decide +kernel
theorem dX12_keeps_58 : decode cX12_keeps 58 = .ok (.imul, 1) := by decide +kernel
theorem dX12_keeps_59 : decode cX12_keeps 59 = .ok (.iload 4, 2) := by decide +kernel
theorem dX12_keeps_61 : decode cX12_keeps 61 = .ok (.iadd, 1) := by decide +kernel
theorem dX12_keeps_62 : decode cX12_keeps 62 = .ok (.iconst 1, 1) := by decide +kernel
theorem dX12_keeps_63 : decode cX12_keeps 63 = .ok (.isub, 1) := by decide +kernel
theorem dX12_keeps_64 : decode cX12_keeps 64 = .ok (.iaload, 1) := by decide +kernel
theorem dX12_keeps_65 : decode cX12_keeps 65 = .ok (.iload_n 2, 1) := by decide +kernel
theorem dX12_keeps_66 : decode cX12_keeps 66 = .ok (.if_icmp .le 35, 3) := by decide +kernel
theorem dX12_keeps_69 : decode cX12_keeps 69 = .ok (.aload_n 0, 1) := by decide +kernel
theorem dX12_keeps_70 : decode cX12_keeps 70 = .ok (.getfield 90, 3) := by decide +kernel
theorem dX12_keeps_73 : decode cX12_keeps 73 = .ok (.bipush 8, 2) := by decide +kernel
theorem dX12_keeps_75 : decode cX12_keeps 75 = .ok (.iload_n 1, 1) := by decide +kernel
theorem dX12_keeps_76 : decode cX12_keeps 76 = .ok (.imul, 1) := by decide +kernel
theorem dX12_keeps_77 : decode cX12_keeps 77 = .ok (.iload 4, 2) := by decide +kernel
theorem dX12_keeps_79 : decode cX12_keeps 79 = .ok (.iadd, 1) := by decide +kernel
theorem dX12_keeps_80 : decode cX12_keeps 80 = .ok (.aload_n 0, 1) := by decide +kernel
theorem dX12_keeps_81 : decode cX12_keeps 81 = .ok (.getfield 90, 3) := by decide +kernel
theorem dX12_keeps_84 : decode cX12_keeps 84 = .ok (.bipush 8, 2) := by decide +kernel
theorem dX12_keeps_86 : decode cX12_keeps 86 = .ok (.iload_n 1, 1) := by decide +kernel
theorem dX12_keeps_87 : decode cX12_keeps 87 = .ok (.imul, 1) := by decide +kernel
theorem dX12_keeps_88 : decode cX12_keeps 88 = .ok (.iload 4, 2) := by decide +kernel
theorem dX12_keeps_90 : decode cX12_keeps 90 = .ok (.iadd, 1) := by decide +kernel
theorem dX12_keeps_91 : decode cX12_keeps 91 = .ok (.iconst 1, 1) := by decide +kernel
theorem dX12_keeps_92 : decode cX12_keeps 92 = .ok (.isub, 1) := by decide +kernel
theorem dX12_keeps_93 : decode cX12_keeps 93 = .ok (.iaload, 1) := by decide +kernel
theorem dX12_keeps_94 : decode cX12_keeps 94 = .ok (.iastore, 1) := by decide +kernel
theorem dX12_keeps_95 : decode cX12_keeps 95 = .ok (.iinc 4 (-1), 3) := by decide +kernel
theorem dX12_keeps_98 : decode cX12_keeps 98 = .ok (.goto (-52), 3) := by decide +kernel
theorem dX12_keeps_101 : decode cX12_keeps 101 = .ok (.aload_n 0, 1) := by decide +kernel
theorem dX12_keeps_102 : decode cX12_keeps 102 = .ok (.getfield 90, 3) := by decide +kernel
theorem dX12_keeps_105 : decode cX12_keeps 105 = .ok (.bipush 8, 2) := by decide +kernel
theorem dX12_keeps_107 : decode cX12_keeps 107 = .ok (.iload_n 1, 1) := by decide +kernel
theorem dX12_keeps_108 : decode cX12_keeps 108 = .ok (.imul, 1) := by decide +kernel
theorem dX12_keeps_109 : decode cX12_keeps 109 = .ok (.iload 4, 2) := by decide +kernel
theorem dX12_keeps_111 : decode cX12_keeps 111 = .ok (.iadd, 1) := by decide +kernel
theorem dX12_keeps_112 : decode cX12_keeps 112 = .ok (.iload_n 2, 1) := by decide +kernel
theorem dX12_keeps_113 : decode cX12_keeps 113 = .ok (.iastore, 1) := by decide +kernel
theorem dX12_keeps_114 : decode cX12_keeps 114 = .ok (.aload_n 0, 1) := by decide +kernel
theorem dX12_keeps_115 : decode cX12_keeps 115 = .ok (.getfield 93, 3) := by decide +kernel
theorem dX12_keeps_118 : decode cX12_keeps 118 = .ok (.iload_n 1, 1) := by decide +kernel
theorem dX12_keeps_119 : decode cX12_keeps 119 = .ok (.iload_n 3, 1) := by decide +kernel
theorem dX12_keeps_120 : decode cX12_keeps 120 = .ok (.bipush 8, 2) := by decide +kernel
theorem dX12_keeps_122 : decode cX12_keeps 122 = .ok (.if_icmp .ge 9, 3) := by decide +kernel
theorem dX12_keeps_125 : decode cX12_keeps 125 = .ok (.iload_n 3, 1) := by decide +kernel
theorem dX12_keeps_126 : decode cX12_keeps 126 = .ok (.iconst 1, 1) := by decide +kernel
theorem dX12_keeps_127 : decode cX12_keeps 127 = .ok (.iadd, 1) := by decide +kernel
theorem dX12_keeps_128 : decode cX12_keeps 128 = .ok (.goto 5, 3) := by decide +kernel
theorem dX12_keeps_131 : decode cX12_keeps 131 = .ok (.bipush 8, 2) := by decide +kernel
theorem dX12_keeps_133 : decode cX12_keeps 133 = .ok (.iastore, 1) := by decide +kernel
theorem dX12_keeps_134 : decode cX12_keeps 134 = .ok (.return_, 1) := by decide +kernel
theorem dX12_costOf_0 : decode cX12_costOf 0 = .ok (.iload_n 0, 1) := by decide +kernel
theorem dX12_costOf_1 : decode cX12_costOf 1 = .ok (.bipush 15, 2) := by decide +kernel
theorem dX12_costOf_3 : decode cX12_costOf 3 = .ok (.ishr, 1) := by decide +kernel
theorem dX12_costOf_4 : decode cX12_costOf 4 = .ok (.ireturn, 1) := by decide +kernel
theorem dX12_counts_0 : decode cX12_counts 0 = .ok (.iload_n 1, 1) := by decide +kernel
theorem dX12_counts_1 : decode cX12_counts 1 = .ok (.iload_n 2, 1) := by decide +kernel
theorem dX12_counts_2 : decode cX12_counts 2 = .ok (.iload_n 3, 1) := by decide +kernel
theorem dX12_counts_3 : decode cX12_counts 3 = .ok (.invokestatic 186, 3) := by decide +kernel
theorem dX12_counts_6 : decode cX12_counts 6 = .ok (.istore 4, 2) := by decide +kernel
theorem dX12_counts_8 : decode cX12_counts 8 = .ok (.aload_n 0, 1) := by decide +kernel
theorem dX12_counts_9 : decode cX12_counts 9 = .ok (.getfield 85, 3) := by decide +kernel
theorem dX12_counts_12 : decode cX12_counts 12 = .ok (.iload 4, 2) := by decide +kernel
theorem dX12_counts_14 : decode cX12_counts 14 = .ok (.lconst 0, 1) := by decide +kernel
theorem dX12_counts_15 : decode cX12_counts 15 = .ok (.lastore, 1) := by decide +kernel
theorem dX12_counts_16 : decode cX12_counts 16 = .ok (.aload_n 0, 1) := by decide +kernel
theorem dX12_counts_17 : decode cX12_counts 17 = .ok (.getfield 93, 3) := by decide +kernel
theorem dX12_counts_20 : decode cX12_counts 20 = .ok (.iload 4, 2) := by decide +kernel
theorem dX12_counts_22 : decode cX12_counts 22 = .ok (.iconst 0, 1) := by decide +kernel
theorem dX12_counts_23 : decode cX12_counts 23 = .ok (.iastore, 1) := by decide +kernel
theorem dX12_counts_24 : decode cX12_counts 24 = .ok (.aload_n 0, 1) := by decide +kernel
theorem dX12_counts_25 : decode cX12_counts 25 = .ok (.iload_n 1, 1) := by decide +kernel
theorem dX12_counts_26 : decode cX12_counts 26 = .ok (.iload_n 2, 1) := by decide +kernel
theorem dX12_counts_27 : decode cX12_counts 27 = .ok (.aload_n 0, 1) := by decide +kernel
theorem dX12_counts_28 : decode cX12_counts 28 = .ok (.getfield 16, 3) := by decide +kernel
theorem dX12_counts_31 : decode cX12_counts 31 = .ok (.iload_n 1, 1) := by decide +kernel
theorem dX12_counts_32 : decode cX12_counts 32 = .ok (.iaload, 1) := by decide +kernel
theorem dX12_counts_33 : decode cX12_counts 33 = .ok (.iload_n 3, 1) := by decide +kernel
theorem dX12_counts_34 : decode cX12_counts 34 = .ok (.invokevirtual 178, 3) := by decide +kernel
theorem dX12_counts_37 : decode cX12_counts 37 = .ok (.aload_n 0, 1) := by decide +kernel
theorem dX12_counts_38 : decode cX12_counts 38 = .ok (.getfield 175, 3) := by decide +kernel
theorem dX12_counts_41 : decode cX12_counts 41 = .ok (.if_icmp .ne 26, 3) := by decide +kernel
theorem dX12_counts_44 : decode cX12_counts 44 = .ok (.aload_n 0, 1) := by decide +kernel
theorem dX12_counts_45 : decode cX12_counts 45 = .ok (.getfield 85, 3) := by decide +kernel
theorem dX12_counts_48 : decode cX12_counts 48 = .ok (.iload 4, 2) := by decide +kernel
theorem dX12_counts_50 : decode cX12_counts 50 = .ok (.lconst 1, 1) := by decide +kernel
theorem dX12_counts_51 : decode cX12_counts 51 = .ok (.lastore, 1) := by decide +kernel
theorem dX12_counts_52 : decode cX12_counts 52 = .ok (.aload_n 0, 1) := by decide +kernel
theorem dX12_counts_53 : decode cX12_counts 53 = .ok (.iload 4, 2) := by decide +kernel
theorem dX12_counts_55 : decode cX12_counts 55 = .ok (.aload_n 0, 1) := by decide +kernel
theorem dX12_counts_56 : decode cX12_counts 56 = .ok (.getfield 26, 3) := by decide +kernel
theorem dX12_counts_59 : decode cX12_counts 59 = .ok (.iload_n 1, 1) := by decide +kernel
theorem dX12_counts_60 : decode cX12_counts 60 = .ok (.iaload, 1) := by decide +kernel
theorem dX12_counts_61 : decode cX12_counts 61 = .ok (.bipush 15, 2) := by decide +kernel
theorem dX12_counts_63 : decode cX12_counts 63 = .ok (.ishl, 1) := by decide +kernel
theorem dX12_counts_64 : decode cX12_counts 64 = .ok (.invokevirtual 201, 3) := by decide +kernel
theorem dX12_counts_67 : decode cX12_counts 67 = .ok (.iconst 0, 1) := by decide +kernel
theorem dX12_counts_68 : decode cX12_counts 68 = .ok (.istore 5, 2) := by decide +kernel
theorem dX12_counts_70 : decode cX12_counts 70 = .ok (.iload 5, 2) := by decide +kernel
theorem dX12_counts_72 : decode cX12_counts 72 = .ok (.aload_n 0, 1) := by decide +kernel
theorem dX12_counts_73 : decode cX12_counts 73 = .ok (.getfield 131, 3) := by decide +kernel
theorem dX12_counts_76 : decode cX12_counts 76 = .ok (.if_icmp .ge 204, 3) := by decide +kernel
theorem dX12_counts_79 : decode cX12_counts 79 = .ok (.iconst (-1), 1) := by decide +kernel
theorem dX12_counts_80 : decode cX12_counts 80 = .ok (.istore 6, 2) := by decide +kernel
theorem dX12_counts_82 : decode cX12_counts 82 = .ok (.iload 6, 2) := by decide +kernel
theorem dX12_counts_84 : decode cX12_counts 84 = .ok (.aload_n 0, 1) := by decide +kernel
theorem dX12_counts_85 : decode cX12_counts 85 = .ok (.getfield 138, 3) := by decide +kernel
theorem dX12_counts_88 : decode cX12_counts 88 = .ok (.if_icmp .ge 186, 3) := by decide +kernel
theorem dX12_counts_91 : decode cX12_counts 91 = .ok (.aload_n 0, 1) := by decide +kernel
theorem dX12_counts_92 : decode cX12_counts 92 = .ok (.iload_n 1, 1) := by decide +kernel
theorem dX12_counts_93 : decode cX12_counts 93 = .ok (.iload 5, 2) := by decide +kernel
theorem dX12_counts_95 : decode cX12_counts 95 = .ok (.iload 6, 2) := by decide +kernel
theorem dX12_counts_97 : decode cX12_counts 97 = .ok (.invokevirtual 193, 3) := by decide +kernel
theorem dX12_counts_100 : decode cX12_counts 100 = .ok (.ifCond .ne 6, 3) := by decide +kernel
theorem dX12_counts_103 : decode cX12_counts 103 = .ok (.goto 165, 3) := by decide +kernel
theorem dX12_counts_106 : decode cX12_counts 106 = .ok (.aload_n 0, 1) := by decide +kernel
theorem dX12_counts_107 : decode cX12_counts 107 = .ok (.iload_n 1, 1) := by decide +kernel
theorem dX12_counts_108 : decode cX12_counts 108 = .ok (.iload_n 2, 1) := by decide +kernel
theorem dX12_counts_109 : decode cX12_counts 109 = .ok (.iload_n 3, 1) := by decide +kernel
theorem dX12_counts_110 : decode cX12_counts 110 = .ok (.iload 6, 2) := by decide +kernel
theorem dX12_counts_112 : decode cX12_counts 112 = .ok (.invokevirtual 196, 3) := by decide +kernel
theorem dX12_counts_115 : decode cX12_counts 115 = .ok (.istore 7, 2) := by decide +kernel
theorem dX12_counts_117 : decode cX12_counts 117 = .ok (.iload 7, 2) := by decide +kernel
theorem dX12_counts_119 : decode cX12_counts 119 = .ok (.ifCond .ge 6, 3) := by decide +kernel
theorem dX12_counts_122 : decode cX12_counts 122 = .ok (.goto 146, 3) := by decide +kernel
theorem dX12_counts_125 : decode cX12_counts 125 = .ok (.iload 5, 2) := by decide +kernel
theorem dX12_counts_127 : decode cX12_counts 127 = .ok (.iload 6, 2) := by decide +kernel
theorem dX12_counts_129 : decode cX12_counts 129 = .ok (.ifCond .ge 7, 3) := by decide +kernel
theorem dX12_counts_132 : decode cX12_counts 132 = .ok (.iconst 0, 1) := by decide +kernel
theorem dX12_counts_133 : decode cX12_counts 133 = .ok (.goto 10, 3) := by decide +kernel
theorem dX12_counts_136 : decode cX12_counts 136 = .ok (.aload_n 0, 1) := by decide +kernel
theorem dX12_counts_137 : decode cX12_counts 137 = .ok (.getfield 39, 3) := by decide +kernel
theorem dX12_counts_140 : decode cX12_counts 140 = .ok (.iload 6, 2) := by decide +kernel
theorem dX12_counts_142 : decode cX12_counts 142 = .ok (.iaload, 1) := by decide +kernel
theorem dX12_counts_143 : decode cX12_counts 143 = .ok (.iload 7, 2) := by decide +kernel
theorem dX12_counts_145 : decode cX12_counts 145 = .ok (.invokestatic 186, 3) := by decide +kernel
theorem dX12_counts_148 : decode cX12_counts 148 = .ok (.istore 8, 2) := by decide +kernel
theorem dX12_counts_150 : decode cX12_counts 150 = .ok (.aload_n 0, 1) := by decide +kernel
theorem dX12_counts_151 : decode cX12_counts 151 = .ok (.getfield 85, 3) := by decide +kernel
theorem dX12_counts_154 : decode cX12_counts 154 = .ok (.iload 4, 2) := by decide +kernel
theorem dX12_counts_156 : decode cX12_counts 156 = .ok (.aload_n 0, 1) := by decide +kernel
theorem dX12_counts_157 : decode cX12_counts 157 = .ok (.getfield 85, 3) := by decide +kernel
theorem dX12_counts_160 : decode cX12_counts 160 = .ok (.iload 4, 2) := by decide +kernel
theorem dX12_counts_162 : decode cX12_counts 162 = .ok (.laload, 1) := by decide +kernel
theorem dX12_counts_163 : decode cX12_counts 163 = .ok (.aload_n 0, 1) := by decide +kernel
theorem dX12_counts_164 : decode cX12_counts 164 = .ok (.getfield 85, 3) := by decide +kernel
theorem dX12_counts_167 : decode cX12_counts 167 = .ok (.iload 8, 2) := by decide +kernel
theorem dX12_counts_169 : decode cX12_counts 169 = .ok (.laload, 1) := by decide +kernel
theorem dX12_counts_170 : decode cX12_counts 170 = .ok (.invokestatic 205, 3) := by decide +kernel
theorem dX12_counts_173 : decode cX12_counts 173 = .ok (.lastore, 1) := by decide +kernel
theorem dX12_counts_174 : decode cX12_counts 174 = .ok (.aload_n 0, 1) := by decide +kernel
theorem dX12_counts_175 : decode cX12_counts 175 = .ok (.getfield 26, 3) := by decide +kernel
theorem dX12_counts_178 : decode cX12_counts 178 = .ok (.iload_n 1, 1) := by decide +kernel
theorem dX12_counts_179 : decode cX12_counts 179 = .ok (.iaload, 1) := by decide +kernel
theorem dX12_counts_180 : decode cX12_counts 180 = .ok (.iload 6, 2) := by decide +kernel
theorem dX12_counts_182 : decode cX12_counts 182 = .ok (.ifCond .ge 7, 3) := by decide +kernel
theorem dX12_counts_185 : decode cX12_counts 185 = .ok (.iconst 0, 1) := by decide +kernel
theorem dX12_counts_186 : decode cX12_counts 186 = .ok (.goto 10, 3) := by decide +kernel
theorem dX12_counts_189 : decode cX12_counts 189 = .ok (.aload_n 0, 1) := by decide +kernel
theorem dX12_counts_190 : decode cX12_counts 190 = .ok (.getfield 45, 3) := by decide +kernel
theorem dX12_counts_193 : decode cX12_counts 193 = .ok (.iload 6, 2) := by decide +kernel
theorem dX12_counts_195 : decode cX12_counts 195 = .ok (.iaload, 1) := by decide +kernel
theorem dX12_counts_196 : decode cX12_counts 196 = .ok (.iadd, 1) := by decide +kernel
theorem dX12_counts_197 : decode cX12_counts 197 = .ok (.istore 9, 2) := by decide +kernel
theorem dX12_counts_199 : decode cX12_counts 199 = .ok (.iconst 0, 1) := by decide +kernel
theorem dX12_counts_200 : decode cX12_counts 200 = .ok (.istore 10, 2) := by decide +kernel
theorem dX12_counts_202 : decode cX12_counts 202 = .ok (.iload 10, 2) := by decide +kernel
theorem dX12_counts_204 : decode cX12_counts 204 = .ok (.aload_n 0, 1) := by decide +kernel
theorem dX12_counts_205 : decode cX12_counts 205 = .ok (.getfield 93, 3) := by decide +kernel
theorem dX12_counts_208 : decode cX12_counts 208 = .ok (.iload 8, 2) := by decide +kernel
theorem dX12_counts_210 : decode cX12_counts 210 = .ok (.iaload, 1) := by decide +kernel
theorem dX12_counts_211 : decode cX12_counts 211 = .ok (.if_icmp .ge 57, 3) := by decide +kernel
theorem dX12_counts_214 : decode cX12_counts 214 = .ok (.aload_n 0, 1) := by decide +kernel
theorem dX12_counts_215 : decode cX12_counts 215 = .ok (.iload 4, 2) := by decide +kernel
theorem dX12_counts_217 : decode cX12_counts 217 = .ok (.iload 9, 2) := by decide +kernel
theorem dX12_counts_219 : decode cX12_counts 219 = .ok (.aload_n 0, 1) := by decide +kernel
theorem dX12_counts_220 : decode cX12_counts 220 = .ok (.getfield 90, 3) := by decide +kernel
theorem dX12_counts_223 : decode cX12_counts 223 = .ok (.bipush 8, 2) := by decide +kernel
theorem dX12_counts_225 : decode cX12_counts 225 = .ok (.iload 8, 2) := by decide +kernel
theorem dX12_counts_227 : decode cX12_counts 227 = .ok (.imul, 1) := by decide +kernel
theorem dX12_counts_228 : decode cX12_counts 228 = .ok (.iload 10, 2) := by decide +kernel
theorem dX12_counts_230 : decode cX12_counts 230 = .ok (.iadd, 1) := by decide +kernel
theorem dX12_counts_231 : decode cX12_counts 231 = .ok (.iaload, 1) := by decide +kernel
theorem dX12_counts_232 : decode cX12_counts 232 = .ok (.invokestatic 209, 3) := by decide +kernel
theorem dX12_counts_235 : decode cX12_counts 235 = .ok (.iadd, 1) := by decide +kernel
theorem dX12_counts_236 : decode cX12_counts 236 = .ok (.bipush 15, 2) := by decide +kernel
theorem dX12_counts_238 : decode cX12_counts 238 = .ok (.ishl, 1) := by decide +kernel
theorem dX12_counts_239 : decode cX12_counts 239 = .ok (.sipush 16384, 3) := by decide +kernel
theorem dX12_counts_242 : decode cX12_counts 242 = .ok (.ior, 1) := by decide +kernel
theorem dX12_counts_243 : decode cX12_counts 243 = .ok (.iload 6, 2) := by decide +kernel
theorem dX12_counts_245 : decode cX12_counts 245 = .ok (.iconst 1, 1) := by decide +kernel
theorem dX12_counts_246 : decode cX12_counts 246 = .ok (.iadd, 1) := by decide +kernel
theorem dX12_counts_247 : decode cX12_counts 247 = .ok (.bipush 9, 2) := by decide +kernel
theorem dX12_counts_249 : decode cX12_counts 249 = .ok (.ishl, 1) := by decide +kernel
theorem dX12_counts_250 : decode cX12_counts 250 = .ok (.ior, 1) := by decide +kernel
theorem dX12_counts_251 : decode cX12_counts 251 = .ok (.iload 5, 2) := by decide +kernel
theorem dX12_counts_253 : decode cX12_counts 253 = .ok (.iconst 3, 1) := by decide +kernel
theorem dX12_counts_254 : decode cX12_counts 254 = .ok (.ishl, 1) := by decide +kernel
theorem dX12_counts_255 : decode cX12_counts 255 = .ok (.ior, 1) := by decide +kernel
theorem dX12_counts_256 : decode cX12_counts 256 = .ok (.iload 10, 2) := by decide +kernel
theorem dX12_counts_258 : decode cX12_counts 258 = .ok (.ior, 1) := by decide +kernel
theorem dX12_counts_259 : decode cX12_counts 259 = .ok (.invokevirtual 201, 3) := by decide +kernel
theorem dX12_counts_262 : decode cX12_counts 262 = .ok (.iinc 10 1, 3) := by decide +kernel
theorem dX12_counts_265 : decode cX12_counts 265 = .ok (.goto (-63), 3) := by decide +kernel
theorem dX12_counts_268 : decode cX12_counts 268 = .ok (.iinc 6 1, 3) := by decide +kernel
theorem dX12_counts_271 : decode cX12_counts 271 = .ok (.goto (-189), 3) := by decide +kernel
theorem dX12_counts_274 : decode cX12_counts 274 = .ok (.iinc 5 1, 3) := by decide +kernel
theorem dX12_counts_277 : decode cX12_counts 277 = .ok (.goto (-207), 3) := by decide +kernel
theorem dX12_counts_280 : decode cX12_counts 280 = .ok (.return_, 1) := by decide +kernel
theorem dX12_partings_0 : decode cX12_partings 0 = .ok (.aload_n 0, 1) := by decide +kernel
theorem dX12_partings_1 : decode cX12_partings 1 = .ok (.invokevirtual 212, 3) := by decide +kernel
theorem dX12_partings_4 : decode cX12_partings 4 = .ok (.aload_n 0, 1) := by decide +kernel
theorem dX12_partings_5 : decode cX12_partings 5 = .ok (.getfield 175, 3) := by decide +kernel
theorem dX12_partings_8 : decode cX12_partings 8 = .ok (.istore_n 1, 1) := by decide +kernel
theorem dX12_partings_9 : decode cX12_partings 9 = .ok (.iload_n 1, 1) := by decide +kernel
theorem dX12_partings_10 : decode cX12_partings 10 = .ok (.ifCond .lt 59, 3) := by decide +kernel
theorem dX12_partings_13 : decode cX12_partings 13 = .ok (.iconst 0, 1) := by decide +kernel
theorem dX12_partings_14 : decode cX12_partings 14 = .ok (.istore_n 2, 1) := by decide +kernel
theorem dX12_partings_15 : decode cX12_partings 15 = .ok (.iload_n 2, 1) := by decide +kernel
theorem dX12_partings_16 : decode cX12_partings 16 = .ok (.aload_n 0, 1) := by decide +kernel
theorem dX12_partings_17 : decode cX12_partings 17 = .ok (.getfield 131, 3) := by decide +kernel
theorem dX12_partings_20 : decode cX12_partings 20 = .ok (.if_icmp .ge 43, 3) := by decide +kernel
theorem dX12_partings_23 : decode cX12_partings 23 = .ok (.iconst 0, 1) := by decide +kernel
theorem dX12_partings_24 : decode cX12_partings 24 = .ok (.istore_n 3, 1) := by decide +kernel
theorem dX12_partings_25 : decode cX12_partings 25 = .ok (.iload_n 3, 1) := by decide +kernel
theorem dX12_partings_26 : decode cX12_partings 26 = .ok (.iconst 4, 1) := by decide +kernel
theorem dX12_partings_27 : decode cX12_partings 27 = .ok (.if_icmp .ge 30, 3) := by decide +kernel
theorem dX12_partings_30 : decode cX12_partings 30 = .ok (.aload_n 0, 1) := by decide +kernel
theorem dX12_partings_31 : decode cX12_partings 31 = .ok (.getfield 82, 3) := by decide +kernel
theorem dX12_partings_34 : decode cX12_partings 34 = .ok (.iload_n 2, 1) := by decide +kernel
theorem dX12_partings_35 : decode cX12_partings 35 = .ok (.iload_n 3, 1) := by decide +kernel
theorem dX12_partings_36 : decode cX12_partings 36 = .ok (.iload_n 1, 1) := by decide +kernel
theorem dX12_partings_37 : decode cX12_partings 37 = .ok (.invokestatic 186, 3) := by decide +kernel
theorem dX12_partings_40 : decode cX12_partings 40 = .ok (.baload, 1) := by decide +kernel
theorem dX12_partings_41 : decode cX12_partings 41 = .ok (.ifCond .eq 10, 3) := by decide +kernel
theorem dX12_partings_44 : decode cX12_partings 44 = .ok (.aload_n 0, 1) := by decide +kernel
theorem dX12_partings_45 : decode cX12_partings 45 = .ok (.iload_n 2, 1) := by decide +kernel
theorem dX12_partings_46 : decode cX12_partings 46 = .ok (.iload_n 3, 1) := by decide +kernel
theorem dX12_partings_47 : decode cX12_partings 47 = .ok (.iload_n 1, 1) := by decide +kernel
theorem dX12_partings_48 : decode cX12_partings 48 = .ok (.invokevirtual 215, 3) := by decide +kernel
theorem dX12_partings_51 : decode cX12_partings 51 = .ok (.iinc 3 1, 3) := by decide +kernel
theorem dX12_partings_54 : decode cX12_partings 54 = .ok (.goto (-29), 3) := by decide +kernel
theorem dX12_partings_57 : decode cX12_partings 57 = .ok (.iinc 2 1, 3) := by decide +kernel
theorem dX12_partings_60 : decode cX12_partings 60 = .ok (.goto (-45), 3) := by decide +kernel
theorem dX12_partings_63 : decode cX12_partings 63 = .ok (.iinc 1 (-1), 3) := by decide +kernel
theorem dX12_partings_66 : decode cX12_partings 66 = .ok (.goto (-57), 3) := by decide +kernel
theorem dX12_partings_69 : decode cX12_partings 69 = .ok (.lconst 0, 1) := by decide +kernel
theorem dX12_partings_70 : decode cX12_partings 70 = .ok (.lstore_n 1, 1) := by decide +kernel
theorem dX12_partings_71 : decode cX12_partings 71 = .ok (.iconst 0, 1) := by decide +kernel
theorem dX12_partings_72 : decode cX12_partings 72 = .ok (.istore_n 3, 1) := by decide +kernel
theorem dX12_partings_73 : decode cX12_partings 73 = .ok (.iload_n 3, 1) := by decide +kernel
theorem dX12_partings_74 : decode cX12_partings 74 = .ok (.aload_n 0, 1) := by decide +kernel
theorem dX12_partings_75 : decode cX12_partings 75 = .ok (.getfield 131, 3) := by decide +kernel
theorem dX12_partings_78 : decode cX12_partings 78 = .ok (.if_icmp .ge 25, 3) := by decide +kernel
theorem dX12_partings_81 : decode cX12_partings 81 = .ok (.lload_n 1, 1) := by decide +kernel
theorem dX12_partings_82 : decode cX12_partings 82 = .ok (.aload_n 0, 1) := by decide +kernel
theorem dX12_partings_83 : decode cX12_partings 83 = .ok (.getfield 85, 3) := by decide +kernel
theorem dX12_partings_86 : decode cX12_partings 86 = .ok (.iload_n 3, 1) := by decide +kernel
theorem dX12_partings_87 : decode cX12_partings 87 = .ok (.iconst 0, 1) := by decide +kernel
theorem dX12_partings_88 : decode cX12_partings 88 = .ok (.iconst 0, 1) := by decide +kernel
theorem dX12_partings_89 : decode cX12_partings 89 = .ok (.invokestatic 186, 3) := by decide +kernel
theorem dX12_partings_92 : decode cX12_partings 92 = .ok (.laload, 1) := by decide +kernel
theorem dX12_partings_93 : decode cX12_partings 93 = .ok (.invokestatic 205, 3) := by decide +kernel
theorem dX12_partings_96 : decode cX12_partings 96 = .ok (.lstore_n 1, 1) := by decide +kernel
theorem dX12_partings_97 : decode cX12_partings 97 = .ok (.iinc 3 1, 3) := by decide +kernel
theorem dX12_partings_100 : decode cX12_partings 100 = .ok (.goto (-27), 3) := by decide +kernel
theorem dX12_partings_103 : decode cX12_partings 103 = .ok (.lload_n 1, 1) := by decide +kernel
theorem dX12_partings_104 : decode cX12_partings 104 = .ok (.lreturn, 1) := by decide +kernel
theorem dX12_tells_0 : decode cX12_tells 0 = .ok (.iconst 0, 1) := by decide +kernel
theorem dX12_tells_1 : decode cX12_tells 1 = .ok (.istore_n 3, 1) := by decide +kernel
theorem dX12_tells_2 : decode cX12_tells 2 = .ok (.iconst 0, 1) := by decide +kernel
theorem dX12_tells_3 : decode cX12_tells 3 = .ok (.istore 4, 2) := by decide +kernel
theorem dX12_tells_5 : decode cX12_tells 5 = .ok (.iload_n 1, 1) := by decide +kernel
theorem dX12_tells_6 : decode cX12_tells 6 = .ok (.istore 5, 2) := by decide +kernel
theorem dX12_tells_8 : decode cX12_tells 8 = .ok (.iconst 0, 1) := by decide +kernel
theorem dX12_tells_9 : decode cX12_tells 9 = .ok (.istore 6, 2) := by decide +kernel
theorem dX12_tells_11 : decode cX12_tells 11 = .ok (.iload_n 2, 1) := by decide +kernel
theorem dX12_tells_12 : decode cX12_tells 12 = .ok (.istore 7, 2) := by decide +kernel
theorem dX12_tells_14 : decode cX12_tells 14 = .ok (.iconst (-1), 1) := by decide +kernel
theorem dX12_tells_15 : decode cX12_tells 15 = .ok (.istore 8, 2) := by decide +kernel
theorem dX12_tells_17 : decode cX12_tells 17 = .ok (.aload_n 0, 1) := by decide +kernel
theorem dX12_tells_18 : decode cX12_tells 18 = .ok (.getfield 96, 3) := by decide +kernel
theorem dX12_tells_21 : decode cX12_tells 21 = .ok (.aload_n 0, 1) := by decide +kernel
theorem dX12_tells_22 : decode cX12_tells 22 = .ok (.getfield 218, 3) := by decide +kernel
theorem dX12_tells_25 : decode cX12_tells 25 = .ok (.aload_n 0, 1) := by decide +kernel
theorem dX12_tells_26 : decode cX12_tells 26 = .ok (.getfield 90, 3) := by decide +kernel
theorem dX12_tells_29 : decode cX12_tells 29 = .ok (.bipush 8, 2) := by decide +kernel
theorem dX12_tells_31 : decode cX12_tells 31 = .ok (.iload_n 1, 1) := by decide +kernel
theorem dX12_tells_32 : decode cX12_tells 32 = .ok (.iconst 0, 1) := by decide +kernel
theorem dX12_tells_33 : decode cX12_tells 33 = .ok (.iconst 0, 1) := by decide +kernel
theorem dX12_tells_34 : decode cX12_tells 34 = .ok (.invokestatic 186, 3) := by decide +kernel
theorem dX12_tells_37 : decode cX12_tells 37 = .ok (.imul, 1) := by decide +kernel
theorem dX12_tells_38 : decode cX12_tells 38 = .ok (.iload_n 2, 1) := by decide +kernel
theorem dX12_tells_39 : decode cX12_tells 39 = .ok (.iadd, 1) := by decide +kernel
theorem dX12_tells_40 : decode cX12_tells 40 = .ok (.iaload, 1) := by decide +kernel
theorem dX12_tells_41 : decode cX12_tells 41 = .ok (.invokestatic 209, 3) := by decide +kernel
theorem dX12_tells_44 : decode cX12_tells 44 = .ok (.iastore, 1) := by decide +kernel
theorem dX12_tells_45 : decode cX12_tells 45 = .ok (.aload_n 0, 1) := by decide +kernel
theorem dX12_tells_46 : decode cX12_tells 46 = .ok (.getfield 102, 3) := by decide +kernel
theorem dX12_tells_49 : decode cX12_tells 49 = .ok (.bipush 40, 2) := by decide +kernel
theorem dX12_tells_51 : decode cX12_tells 51 = .ok (.aload_n 0, 1) := by decide +kernel
theorem dX12_tells_52 : decode cX12_tells 52 = .ok (.getfield 218, 3) := by decide +kernel
theorem dX12_tells_55 : decode cX12_tells 55 = .ok (.imul, 1) := by decide +kernel
theorem dX12_tells_56 : decode cX12_tells 56 = .ok (.iload 6, 2) := by decide +kernel
theorem dX12_tells_58 : decode cX12_tells 58 = .ok (.iadd, 1) := by decide +kernel
theorem dX12_tells_59 : decode cX12_tells 59 = .ok (.iload 5, 2) := by decide +kernel
theorem dX12_tells_61 : decode cX12_tells 61 = .ok (.iastore, 1) := by decide +kernel
theorem dX12_tells_62 : decode cX12_tells 62 = .ok (.aload_n 0, 1) := by decide +kernel
theorem dX12_tells_63 : decode cX12_tells 63 = .ok (.getfield 105, 3) := by decide +kernel
theorem dX12_tells_66 : decode cX12_tells 66 = .ok (.bipush 40, 2) := by decide +kernel
theorem dX12_tells_68 : decode cX12_tells 68 = .ok (.aload_n 0, 1) := by decide +kernel
theorem dX12_tells_69 : decode cX12_tells 69 = .ok (.getfield 218, 3) := by decide +kernel
theorem dX12_tells_72 : decode cX12_tells 72 = .ok (.imul, 1) := by decide +kernel
theorem dX12_tells_73 : decode cX12_tells 73 = .ok (.iload 6, 2) := by decide +kernel
theorem dX12_tells_75 : decode cX12_tells 75 = .ok (.iadd, 1) := by decide +kernel
theorem dX12_tells_76 : decode cX12_tells 76 = .ok (.iload 8, 2) := by decide +kernel
theorem dX12_tells_78 : decode cX12_tells 78 = .ok (.iastore, 1) := by decide +kernel
theorem dX12_tells_79 : decode cX12_tells 79 = .ok (.aload_n 0, 1) := by decide +kernel
theorem dX12_tells_80 : decode cX12_tells 80 = .ok (.getfield 90, 3) := by decide +kernel
theorem dX12_tells_83 : decode cX12_tells 83 = .ok (.bipush 8, 2) := by decide +kernel
theorem dX12_tells_85 : decode cX12_tells 85 = .ok (.iload 5, 2) := by decide +kernel
theorem dX12_tells_87 : decode cX12_tells 87 = .ok (.iload 4, 2) := by decide +kernel
theorem dX12_tells_89 : decode cX12_tells 89 = .ok (.iload_n 3, 1) := by decide +kernel
theorem dX12_tells_90 : decode cX12_tells 90 = .ok (.invokestatic 186, 3) := by decide +kernel
theorem dX12_tells_93 : decode cX12_tells 93 = .ok (.imul, 1) := by decide +kernel
theorem dX12_tells_94 : decode cX12_tells 94 = .ok (.iload 7, 2) := by decide +kernel
theorem dX12_tells_96 : decode cX12_tells 96 = .ok (.iadd, 1) := by decide +kernel
theorem dX12_tells_97 : decode cX12_tells 97 = .ok (.iaload, 1) := by decide +kernel
theorem dX12_tells_98 : decode cX12_tells 98 = .ok (.istore 9, 2) := by decide +kernel
theorem dX12_tells_100 : decode cX12_tells 100 = .ok (.iinc 6 1, 3) := by decide +kernel
theorem dX12_tells_103 : decode cX12_tells 103 = .ok (.iload 9, 2) := by decide +kernel
theorem dX12_tells_105 : decode cX12_tells 105 = .ok (.bipush 14, 2) := by decide +kernel
theorem dX12_tells_107 : decode cX12_tells 107 = .ok (.ishr, 1) := by decide +kernel
theorem dX12_tells_108 : decode cX12_tells 108 = .ok (.iconst 1, 1) := by decide +kernel
theorem dX12_tells_109 : decode cX12_tells 109 = .ok (.iand, 1) := by decide +kernel
theorem dX12_tells_110 : decode cX12_tells 110 = .ok (.ifCond .ne 6, 3) := by decide +kernel
theorem dX12_tells_113 : decode cX12_tells 113 = .ok (.goto 64, 3) := by decide +kernel
theorem dX12_tells_116 : decode cX12_tells 116 = .ok (.iload 9, 2) := by decide +kernel
theorem dX12_tells_118 : decode cX12_tells 118 = .ok (.bipush 9, 2) := by decide +kernel
theorem dX12_tells_120 : decode cX12_tells 120 = .ok (.ishr, 1) := by decide +kernel
theorem dX12_tells_121 : decode cX12_tells 121 = .ok (.bipush 31, 2) := by decide +kernel
theorem dX12_tells_123 : decode cX12_tells 123 = .ok (.iand, 1) := by decide +kernel
theorem dX12_tells_124 : decode cX12_tells 124 = .ok (.iconst 1, 1) := by decide +kernel
theorem dX12_tells_125 : decode cX12_tells 125 = .ok (.isub, 1) := by decide +kernel
theorem dX12_tells_126 : decode cX12_tells 126 = .ok (.istore 8, 2) := by decide +kernel
theorem dX12_tells_128 : decode cX12_tells 128 = .ok (.aload_n 0, 1) := by decide +kernel
theorem dX12_tells_129 : decode cX12_tells 129 = .ok (.iload 5, 2) := by decide +kernel
theorem dX12_tells_131 : decode cX12_tells 131 = .ok (.iload 4, 2) := by decide +kernel
theorem dX12_tells_133 : decode cX12_tells 133 = .ok (.iload_n 3, 1) := by decide +kernel
theorem dX12_tells_134 : decode cX12_tells 134 = .ok (.iload 8, 2) := by decide +kernel
theorem dX12_tells_136 : decode cX12_tells 136 = .ok (.invokevirtual 196, 3) := by decide +kernel
theorem dX12_tells_139 : decode cX12_tells 139 = .ok (.istore_n 3, 1) := by decide +kernel
theorem dX12_tells_140 : decode cX12_tells 140 = .ok (.iload 8, 2) := by decide +kernel
theorem dX12_tells_142 : decode cX12_tells 142 = .ok (.ifCond .ge 7, 3) := by decide +kernel
theorem dX12_tells_145 : decode cX12_tells 145 = .ok (.iconst 0, 1) := by decide +kernel
theorem dX12_tells_146 : decode cX12_tells 146 = .ok (.goto 10, 3) := by decide +kernel
theorem dX12_tells_149 : decode cX12_tells 149 = .ok (.aload_n 0, 1) := by decide +kernel
theorem dX12_tells_150 : decode cX12_tells 150 = .ok (.getfield 39, 3) := by decide +kernel
theorem dX12_tells_153 : decode cX12_tells 153 = .ok (.iload 8, 2) := by decide +kernel
theorem dX12_tells_155 : decode cX12_tells 155 = .ok (.iaload, 1) := by decide +kernel
theorem dX12_tells_156 : decode cX12_tells 156 = .ok (.istore 4, 2) := by decide +kernel
theorem dX12_tells_158 : decode cX12_tells 158 = .ok (.iload 9, 2) := by decide +kernel
theorem dX12_tells_160 : decode cX12_tells 160 = .ok (.iconst 3, 1) := by decide +kernel
theorem dX12_tells_161 : decode cX12_tells 161 = .ok (.ishr, 1) := by decide +kernel
theorem dX12_tells_162 : decode cX12_tells 162 = .ok (.bipush 63, 2) := by decide +kernel
theorem dX12_tells_164 : decode cX12_tells 164 = .ok (.iand, 1) := by decide +kernel
theorem dX12_tells_165 : decode cX12_tells 165 = .ok (.istore 5, 2) := by decide +kernel
theorem dX12_tells_167 : decode cX12_tells 167 = .ok (.iload 9, 2) := by decide +kernel
theorem dX12_tells_169 : decode cX12_tells 169 = .ok (.bipush 7, 2) := by decide +kernel
theorem dX12_tells_171 : decode cX12_tells 171 = .ok (.iand, 1) := by decide +kernel
theorem dX12_tells_172 : decode cX12_tells 172 = .ok (.istore 7, 2) := by decide +kernel
theorem dX12_tells_174 : decode cX12_tells 174 = .ok (.goto (-129), 3) := by decide +kernel
theorem dX12_tells_177 : decode cX12_tells 177 = .ok (.aload_n 0, 1) := by decide +kernel
theorem dX12_tells_178 : decode cX12_tells 178 = .ok (.getfield 99, 3) := by decide +kernel
theorem dX12_tells_181 : decode cX12_tells 181 = .ok (.aload_n 0, 1) := by decide +kernel
theorem dX12_tells_182 : decode cX12_tells 182 = .ok (.getfield 218, 3) := by decide +kernel
theorem dX12_tells_185 : decode cX12_tells 185 = .ok (.iload 6, 2) := by decide +kernel
theorem dX12_tells_187 : decode cX12_tells 187 = .ok (.iastore, 1) := by decide +kernel
theorem dX12_tells_188 : decode cX12_tells 188 = .ok (.aload_n 0, 1) := by decide +kernel
theorem dX12_tells_189 : decode cX12_tells 189 = .ok (.dup, 1) := by decide +kernel
theorem dX12_tells_190 : decode cX12_tells 190 = .ok (.getfield 218, 3) := by decide +kernel
theorem dX12_tells_193 : decode cX12_tells 193 = .ok (.iconst 1, 1) := by decide +kernel
theorem dX12_tells_194 : decode cX12_tells 194 = .ok (.iadd, 1) := by decide +kernel
theorem dX12_tells_195 : decode cX12_tells 195 = .ok (.putfield 218, 3) := by decide +kernel
theorem dX12_tells_198 : decode cX12_tells 198 = .ok (.return_, 1) := by decide +kernel
theorem dX12_part_0 : decode cX12_part 0 = .ok (.aload_n 0, 1) := by decide +kernel
theorem dX12_part_1 : decode cX12_part 1 = .ok (.getfield 120, 3) := by decide +kernel
theorem dX12_part_4 : decode cX12_part 4 = .ok (.istore_n 2, 1) := by decide +kernel
theorem dX12_part_5 : decode cX12_part 5 = .ok (.aload_n 0, 1) := by decide +kernel
theorem dX12_part_6 : decode cX12_part 6 = .ok (.invokevirtual 127, 3) := by decide +kernel
theorem dX12_part_9 : decode cX12_part 9 = .ok (.ifCond .eq 24, 3) := by decide +kernel
theorem dX12_part_12 : decode cX12_part 12 = .ok (.iload_n 2, 1) := by decide +kernel
theorem dX12_part_13 : decode cX12_part 13 = .ok (.iconst 1, 1) := by decide +kernel
theorem dX12_part_14 : decode cX12_part 14 = .ok (.bipush 40, 2) := by decide +kernel
theorem dX12_part_16 : decode cX12_part 16 = .ok (.invokestatic 134, 3) := by decide +kernel
theorem dX12_part_19 : decode cX12_part 19 = .ok (.ifCond .eq 14, 3) := by decide +kernel
theorem dX12_part_22 : decode cX12_part 22 = .ok (.iload_n 1, 1) := by decide +kernel
theorem dX12_part_23 : decode cX12_part 23 = .ok (.invokestatic 148, 3) := by decide +kernel
theorem dX12_part_26 : decode cX12_part 26 = .ok (.ifCond .eq 7, 3) := by decide +kernel
theorem dX12_part_29 : decode cX12_part 29 = .ok (.iconst 1, 1) := by decide +kernel
theorem dX12_part_30 : decode cX12_part 30 = .ok (.goto 4, 3) := by decide +kernel
theorem dX12_part_33 : decode cX12_part 33 = .ok (.iconst 0, 1) := by decide +kernel
theorem dX12_part_34 : decode cX12_part 34 = .ok (.istore_n 3, 1) := by decide +kernel
theorem dX12_part_35 : decode cX12_part 35 = .ok (.aload_n 0, 1) := by decide +kernel
theorem dX12_part_36 : decode cX12_part 36 = .ok (.iconst 0, 1) := by decide +kernel
theorem dX12_part_37 : decode cX12_part 37 = .ok (.putfield 120, 3) := by decide +kernel
theorem dX12_part_40 : decode cX12_part 40 = .ok (.iload_n 3, 1) := by decide +kernel
theorem dX12_part_41 : decode cX12_part 41 = .ok (.ifCond .ne 7, 3) := by decide +kernel
theorem dX12_part_44 : decode cX12_part 44 = .ok (.ldc2_w 221, 3) := by decide +kernel
theorem dX12_part_47 : decode cX12_part 47 = .ok (.lreturn, 1) := by decide +kernel
theorem dX12_part_48 : decode cX12_part 48 = .ok (.aload_n 0, 1) := by decide +kernel
theorem dX12_part_49 : decode cX12_part 49 = .ok (.iload_n 2, 1) := by decide +kernel
theorem dX12_part_50 : decode cX12_part 50 = .ok (.putfield 175, 3) := by decide +kernel
theorem dX12_part_53 : decode cX12_part 53 = .ok (.iconst 0, 1) := by decide +kernel
theorem dX12_part_54 : decode cX12_part 54 = .ok (.istore 4, 2) := by decide +kernel
theorem dX12_part_56 : decode cX12_part 56 = .ok (.iload 4, 2) := by decide +kernel
theorem dX12_part_58 : decode cX12_part 58 = .ok (.iload_n 2, 1) := by decide +kernel
theorem dX12_part_59 : decode cX12_part 59 = .ok (.if_icmp .ge 23, 3) := by decide +kernel
theorem dX12_part_62 : decode cX12_part 62 = .ok (.aload_n 0, 1) := by decide +kernel
theorem dX12_part_63 : decode cX12_part 63 = .ok (.getfield 76, 3) := by decide +kernel
theorem dX12_part_66 : decode cX12_part 66 = .ok (.iload 4, 2) := by decide +kernel
theorem dX12_part_68 : decode cX12_part 68 = .ok (.aload_n 0, 1) := by decide +kernel
theorem dX12_part_69 : decode cX12_part 69 = .ok (.getfield 7, 3) := by decide +kernel
theorem dX12_part_72 : decode cX12_part 72 = .ok (.iload 4, 2) := by decide +kernel
theorem dX12_part_74 : decode cX12_part 74 = .ok (.baload, 1) := by decide +kernel
theorem dX12_part_75 : decode cX12_part 75 = .ok (.bastore, 1) := by decide +kernel
theorem dX12_part_76 : decode cX12_part 76 = .ok (.iinc 4 1, 3) := by decide +kernel
theorem dX12_part_79 : decode cX12_part 79 = .ok (.goto (-23), 3) := by decide +kernel
theorem dX12_part_82 : decode cX12_part 82 = .ok (.iconst 0, 1) := by decide +kernel
theorem dX12_part_83 : decode cX12_part 83 = .ok (.istore 4, 2) := by decide +kernel
theorem dX12_part_85 : decode cX12_part 85 = .ok (.iload 4, 2) := by decide +kernel
theorem dX12_part_87 : decode cX12_part 87 = .ok (.aload_n 0, 1) := by decide +kernel
theorem dX12_part_88 : decode cX12_part 88 = .ok (.getfield 131, 3) := by decide +kernel
theorem dX12_part_91 : decode cX12_part 91 = .ok (.if_icmp .ge 93, 3) := by decide +kernel
theorem dX12_part_94 : decode cX12_part 94 = .ok (.iconst 0, 1) := by decide +kernel
theorem dX12_part_95 : decode cX12_part 95 = .ok (.istore 5, 2) := by decide +kernel
theorem dX12_part_97 : decode cX12_part 97 = .ok (.iload 5, 2) := by decide +kernel
theorem dX12_part_99 : decode cX12_part 99 = .ok (.aload_n 0, 1) := by decide +kernel
theorem dX12_part_100 : decode cX12_part 100 = .ok (.getfield 131, 3) := by decide +kernel
theorem dX12_part_103 : decode cX12_part 103 = .ok (.if_icmp .ge 75, 3) := by decide +kernel
theorem dX12_part_106 : decode cX12_part 106 = .ok (.aload_n 0, 1) := by decide +kernel
theorem dX12_part_107 : decode cX12_part 107 = .ok (.getfield 79, 3) := by decide +kernel
theorem dX12_part_110 : decode cX12_part 110 = .ok (.bipush 40, 2) := by decide +kernel
theorem dX12_part_112 : decode cX12_part 112 = .ok (.iload 4, 2) := by decide +kernel
theorem dX12_part_114 : decode cX12_part 114 = .ok (.imul, 1) := by decide +kernel
theorem dX12_part_115 : decode cX12_part 115 = .ok (.iload 5, 2) := by decide +kernel
theorem dX12_part_117 : decode cX12_part 117 = .ok (.iadd, 1) := by decide +kernel
theorem dX12_part_118 : decode cX12_part 118 = .ok (.iconst 0, 1) := by decide +kernel
theorem dX12_part_119 : decode cX12_part 119 = .ok (.iastore, 1) := by decide +kernel
theorem dX12_part_120 : decode cX12_part 120 = .ok (.iconst 0, 1) := by decide +kernel
theorem dX12_part_121 : decode cX12_part 121 = .ok (.istore 6, 2) := by decide +kernel
theorem dX12_part_123 : decode cX12_part 123 = .ok (.iload 6, 2) := by decide +kernel
theorem dX12_part_125 : decode cX12_part 125 = .ok (.aload_n 0, 1) := by decide +kernel
theorem dX12_part_126 : decode cX12_part 126 = .ok (.getfield 138, 3) := by decide +kernel
theorem dX12_part_129 : decode cX12_part 129 = .ok (.if_icmp .ge 43, 3) := by decide +kernel
theorem dX12_part_132 : decode cX12_part 132 = .ok (.aload_n 0, 1) := by decide +kernel
theorem dX12_part_133 : decode cX12_part 133 = .ok (.iload 6, 2) := by decide +kernel
theorem dX12_part_135 : decode cX12_part 135 = .ok (.iload 4, 2) := by decide +kernel
theorem dX12_part_137 : decode cX12_part 137 = .ok (.iload 5, 2) := by decide +kernel
theorem dX12_part_139 : decode cX12_part 139 = .ok (.iload_n 1, 1) := by decide +kernel
theorem dX12_part_140 : decode cX12_part 140 = .ok (.invokevirtual 151, 3) := by decide +kernel
theorem dX12_part_143 : decode cX12_part 143 = .ok (.ifCond .eq 23, 3) := by decide +kernel
theorem dX12_part_146 : decode cX12_part 146 = .ok (.aload_n 0, 1) := by decide +kernel
theorem dX12_part_147 : decode cX12_part 147 = .ok (.getfield 79, 3) := by decide +kernel
theorem dX12_part_150 : decode cX12_part 150 = .ok (.bipush 40, 2) := by decide +kernel
theorem dX12_part_152 : decode cX12_part 152 = .ok (.iload 4, 2) := by decide +kernel
theorem dX12_part_154 : decode cX12_part 154 = .ok (.imul, 1) := by decide +kernel
theorem dX12_part_155 : decode cX12_part 155 = .ok (.iload 5, 2) := by decide +kernel
theorem dX12_part_157 : decode cX12_part 157 = .ok (.iadd, 1) := by decide +kernel
theorem dX12_part_158 : decode cX12_part 158 = .ok (.dup2, 1) := by decide +kernel
theorem dX12_part_159 : decode cX12_part 159 = .ok (.iaload, 1) := by decide +kernel
theorem dX12_part_160 : decode cX12_part 160 = .ok (.iconst 1, 1) := by decide +kernel
theorem dX12_part_161 : decode cX12_part 161 = .ok (.iload 6, 2) := by decide +kernel
theorem dX12_part_163 : decode cX12_part 163 = .ok (.ishl, 1) := by decide +kernel
theorem dX12_part_164 : decode cX12_part 164 = .ok (.ior, 1) := by decide +kernel
theorem dX12_part_165 : decode cX12_part 165 = .ok (.iastore, 1) := by decide +kernel
theorem dX12_part_166 : decode cX12_part 166 = .ok (.iinc 6 1, 3) := by decide +kernel
theorem dX12_part_169 : decode cX12_part 169 = .ok (.goto (-46), 3) := by decide +kernel
theorem dX12_part_172 : decode cX12_part 172 = .ok (.iinc 5 1, 3) := by decide +kernel
theorem dX12_part_175 : decode cX12_part 175 = .ok (.goto (-78), 3) := by decide +kernel
theorem dX12_part_178 : decode cX12_part 178 = .ok (.iinc 4 1, 3) := by decide +kernel
theorem dX12_part_181 : decode cX12_part 181 = .ok (.goto (-96), 3) := by decide +kernel
theorem dX12_part_184 : decode cX12_part 184 = .ok (.aload_n 0, 1) := by decide +kernel
theorem dX12_part_185 : decode cX12_part 185 = .ok (.iconst 1, 1) := by decide +kernel
theorem dX12_part_186 : decode cX12_part 186 = .ok (.putfield 223, 3) := by decide +kernel
theorem dX12_part_189 : decode cX12_part 189 = .ok (.aload_n 0, 1) := by decide +kernel
theorem dX12_part_190 : decode cX12_part 190 = .ok (.iconst 0, 1) := by decide +kernel
theorem dX12_part_191 : decode cX12_part 191 = .ok (.putfield 182, 3) := by decide +kernel
theorem dX12_part_194 : decode cX12_part 194 = .ok (.aload_n 0, 1) := by decide +kernel
theorem dX12_part_195 : decode cX12_part 195 = .ok (.aload_n 0, 1) := by decide +kernel
theorem dX12_part_196 : decode cX12_part 196 = .ok (.invokevirtual 226, 3) := by decide +kernel
theorem dX12_part_199 : decode cX12_part 199 = .ok (.putfield 230, 3) := by decide +kernel
theorem dX12_part_202 : decode cX12_part 202 = .ok (.aload_n 0, 1) := by decide +kernel
theorem dX12_part_203 : decode cX12_part 203 = .ok (.iconst 1, 1) := by decide +kernel
theorem dX12_part_204 : decode cX12_part 204 = .ok (.putfield 182, 3) := by decide +kernel
theorem dX12_part_207 : decode cX12_part 207 = .ok (.aload_n 0, 1) := by decide +kernel
theorem dX12_part_208 : decode cX12_part 208 = .ok (.aload_n 0, 1) := by decide +kernel
theorem dX12_part_209 : decode cX12_part 209 = .ok (.invokevirtual 226, 3) := by decide +kernel
theorem dX12_part_212 : decode cX12_part 212 = .ok (.putfield 234, 3) := by decide +kernel
theorem dX12_part_215 : decode cX12_part 215 = .ok (.aload_n 0, 1) := by decide +kernel
theorem dX12_part_216 : decode cX12_part 216 = .ok (.aload_n 0, 1) := by decide +kernel
theorem dX12_part_217 : decode cX12_part 217 = .ok (.getfield 234, 3) := by decide +kernel
theorem dX12_part_220 : decode cX12_part 220 = .ok (.lconst 0, 1) := by decide +kernel
theorem dX12_part_221 : decode cX12_part 221 = .ok (.lcmp, 1) := by decide +kernel
theorem dX12_part_222 : decode cX12_part 222 = .ok (.ifCond .ne 16, 3) := by decide +kernel
theorem dX12_part_225 : decode cX12_part 225 = .ok (.aload_n 0, 1) := by decide +kernel
theorem dX12_part_226 : decode cX12_part 226 = .ok (.getfield 230, 3) := by decide +kernel
theorem dX12_part_229 : decode cX12_part 229 = .ok (.lconst 0, 1) := by decide +kernel
theorem dX12_part_230 : decode cX12_part 230 = .ok (.lcmp, 1) := by decide +kernel
theorem dX12_part_231 : decode cX12_part 231 = .ok (.ifCond .le 7, 3) := by decide +kernel
theorem dX12_part_234 : decode cX12_part 234 = .ok (.iconst 1, 1) := by decide +kernel
theorem dX12_part_235 : decode cX12_part 235 = .ok (.goto 4, 3) := by decide +kernel
theorem dX12_part_238 : decode cX12_part 238 = .ok (.iconst 0, 1) := by decide +kernel
theorem dX12_part_239 : decode cX12_part 239 = .ok (.putfield 237, 3) := by decide +kernel
theorem dX12_part_242 : decode cX12_part 242 = .ok (.aload_n 0, 1) := by decide +kernel
theorem dX12_part_243 : decode cX12_part 243 = .ok (.getfield 237, 3) := by decide +kernel
theorem dX12_part_246 : decode cX12_part 246 = .ok (.ifCond .eq 16, 3) := by decide +kernel
theorem dX12_part_249 : decode cX12_part 249 = .ok (.aload_n 0, 1) := by decide +kernel
theorem dX12_part_250 : decode cX12_part 250 = .ok (.iconst 0, 1) := by decide +kernel
theorem dX12_part_251 : decode cX12_part 251 = .ok (.putfield 182, 3) := by decide +kernel
theorem dX12_part_254 : decode cX12_part 254 = .ok (.aload_n 0, 1) := by decide +kernel
theorem dX12_part_255 : decode cX12_part 255 = .ok (.aload_n 0, 1) := by decide +kernel
theorem dX12_part_256 : decode cX12_part 256 = .ok (.invokevirtual 226, 3) := by decide +kernel
theorem dX12_part_259 : decode cX12_part 259 = .ok (.putfield 234, 3) := by decide +kernel
theorem dX12_part_262 : decode cX12_part 262 = .ok (.aload_n 0, 1) := by decide +kernel
theorem dX12_part_263 : decode cX12_part 263 = .ok (.iconst 0, 1) := by decide +kernel
theorem dX12_part_264 : decode cX12_part 264 = .ok (.putfield 218, 3) := by decide +kernel
theorem dX12_part_267 : decode cX12_part 267 = .ok (.iconst 0, 1) := by decide +kernel
theorem dX12_part_268 : decode cX12_part 268 = .ok (.istore 4, 2) := by decide +kernel
theorem dX12_part_270 : decode cX12_part 270 = .ok (.iload 4, 2) := by decide +kernel
theorem dX12_part_272 : decode cX12_part 272 = .ok (.aload_n 0, 1) := by decide +kernel
theorem dX12_part_273 : decode cX12_part 273 = .ok (.getfield 131, 3) := by decide +kernel
theorem dX12_part_276 : decode cX12_part 276 = .ok (.if_icmp .ge 17, 3) := by decide +kernel
theorem dX12_part_279 : decode cX12_part 279 = .ok (.aload_n 0, 1) := by decide +kernel
theorem dX12_part_280 : decode cX12_part 280 = .ok (.getfield 108, 3) := by decide +kernel
theorem dX12_part_283 : decode cX12_part 283 = .ok (.iload 4, 2) := by decide +kernel
theorem dX12_part_285 : decode cX12_part 285 = .ok (.iconst 0, 1) := by decide +kernel
theorem dX12_part_286 : decode cX12_part 286 = .ok (.iastore, 1) := by decide +kernel
theorem dX12_part_287 : decode cX12_part 287 = .ok (.iinc 4 1, 3) := by decide +kernel
theorem dX12_part_290 : decode cX12_part 290 = .ok (.goto (-20), 3) := by decide +kernel
theorem dX12_part_293 : decode cX12_part 293 = .ok (.iconst 0, 1) := by decide +kernel
theorem dX12_part_294 : decode cX12_part 294 = .ok (.istore 4, 2) := by decide +kernel
theorem dX12_part_296 : decode cX12_part 296 = .ok (.iload 4, 2) := by decide +kernel
theorem dX12_part_298 : decode cX12_part 298 = .ok (.bipush 8, 2) := by decide +kernel
theorem dX12_part_300 : decode cX12_part 300 = .ok (.if_icmp .ge 148, 3) := by decide +kernel
theorem dX12_part_303 : decode cX12_part 303 = .ok (.iconst (-1), 1) := by decide +kernel
theorem dX12_part_304 : decode cX12_part 304 = .ok (.istore 5, 2) := by decide +kernel
theorem dX12_part_306 : decode cX12_part 306 = .ok (.ldc 240, 2) := by decide +kernel
theorem dX12_part_308 : decode cX12_part 308 = .ok (.istore 6, 2) := by decide +kernel
theorem dX12_part_310 : decode cX12_part 310 = .ok (.iconst 0, 1) := by decide +kernel
theorem dX12_part_311 : decode cX12_part 311 = .ok (.istore 7, 2) := by decide +kernel
theorem dX12_part_313 : decode cX12_part 313 = .ok (.iload 7, 2) := by decide +kernel
theorem dX12_part_315 : decode cX12_part 315 = .ok (.aload_n 0, 1) := by decide +kernel
theorem dX12_part_316 : decode cX12_part 316 = .ok (.getfield 131, 3) := by decide +kernel
theorem dX12_part_319 : decode cX12_part 319 = .ok (.if_icmp .ge 91, 3) := by decide +kernel
theorem dX12_part_322 : decode cX12_part 322 = .ok (.iload 7, 2) := by decide +kernel
theorem dX12_part_324 : decode cX12_part 324 = .ok (.iconst 0, 1) := by decide +kernel
theorem dX12_part_325 : decode cX12_part 325 = .ok (.iconst 0, 1) := by decide +kernel
theorem dX12_part_326 : decode cX12_part 326 = .ok (.invokestatic 186, 3) := by decide +kernel
theorem dX12_part_329 : decode cX12_part 329 = .ok (.istore 8, 2) := by decide +kernel
theorem dX12_part_331 : decode cX12_part 331 = .ok (.aload_n 0, 1) := by decide +kernel
theorem dX12_part_332 : decode cX12_part 332 = .ok (.getfield 108, 3) := by decide +kernel
theorem dX12_part_335 : decode cX12_part 335 = .ok (.iload 7, 2) := by decide +kernel
theorem dX12_part_337 : decode cX12_part 337 = .ok (.iaload, 1) := by decide +kernel
theorem dX12_part_338 : decode cX12_part 338 = .ok (.aload_n 0, 1) := by decide +kernel
theorem dX12_part_339 : decode cX12_part 339 = .ok (.getfield 93, 3) := by decide +kernel
theorem dX12_part_342 : decode cX12_part 342 = .ok (.iload 8, 2) := by decide +kernel
theorem dX12_part_344 : decode cX12_part 344 = .ok (.iaload, 1) := by decide +kernel
theorem dX12_part_345 : decode cX12_part 345 = .ok (.if_icmp .eq 59, 3) := by decide +kernel
theorem dX12_part_348 : decode cX12_part 348 = .ok (.aload_n 0, 1) := by decide +kernel
theorem dX12_part_349 : decode cX12_part 349 = .ok (.getfield 90, 3) := by decide +kernel
theorem dX12_part_352 : decode cX12_part 352 = .ok (.bipush 8, 2) := by decide +kernel
theorem dX12_part_354 : decode cX12_part 354 = .ok (.iload 8, 2) := by decide +kernel
theorem dX12_part_356 : decode cX12_part 356 = .ok (.imul, 1) := by decide +kernel
theorem dX12_part_357 : decode cX12_part 357 = .ok (.aload_n 0, 1) := by decide +kernel
theorem dX12_part_358 : decode cX12_part 358 = .ok (.getfield 108, 3) := by decide +kernel
theorem dX12_part_361 : decode cX12_part 361 = .ok (.iload 7, 2) := by decide +kernel
theorem dX12_part_363 : decode cX12_part 363 = .ok (.iaload, 1) := by decide +kernel
theorem dX12_part_364 : decode cX12_part 364 = .ok (.iadd, 1) := by decide +kernel
theorem dX12_part_365 : decode cX12_part 365 = .ok (.iaload, 1) := by decide +kernel
theorem dX12_part_366 : decode cX12_part 366 = .ok (.invokestatic 209, 3) := by decide +kernel
theorem dX12_part_369 : decode cX12_part 369 = .ok (.iload 6, 2) := by decide +kernel
theorem dX12_part_371 : decode cX12_part 371 = .ok (.if_icmp .lt 6, 3) := by decide +kernel
theorem dX12_part_374 : decode cX12_part 374 = .ok (.goto 30, 3) := by decide +kernel
theorem dX12_part_377 : decode cX12_part 377 = .ok (.aload_n 0, 1) := by decide +kernel
theorem dX12_part_378 : decode cX12_part 378 = .ok (.getfield 90, 3) := by decide +kernel
theorem dX12_part_381 : decode cX12_part 381 = .ok (.bipush 8, 2) := by decide +kernel
theorem dX12_part_383 : decode cX12_part 383 = .ok (.iload 8, 2) := by decide +kernel
theorem dX12_part_385 : decode cX12_part 385 = .ok (.imul, 1) := by decide +kernel
theorem dX12_part_386 : decode cX12_part 386 = .ok (.aload_n 0, 1) := by decide +kernel
theorem dX12_part_387 : decode cX12_part 387 = .ok (.getfield 108, 3) := by decide +kernel
theorem dX12_part_390 : decode cX12_part 390 = .ok (.iload 7, 2) := by decide +kernel
theorem dX12_part_392 : decode cX12_part 392 = .ok (.iaload, 1) := by decide +kernel
theorem dX12_part_393 : decode cX12_part 393 = .ok (.iadd, 1) := by decide +kernel
theorem dX12_part_394 : decode cX12_part 394 = .ok (.iaload, 1) := by decide +kernel
theorem dX12_part_395 : decode cX12_part 395 = .ok (.invokestatic 209, 3) := by decide +kernel
theorem dX12_part_398 : decode cX12_part 398 = .ok (.istore 6, 2) := by decide +kernel
theorem dX12_part_400 : decode cX12_part 400 = .ok (.iload 7, 2) := by decide +kernel
theorem dX12_part_402 : decode cX12_part 402 = .ok (.istore 5, 2) := by decide +kernel
theorem dX12_part_404 : decode cX12_part 404 = .ok (.iinc 7 1, 3) := by decide +kernel
theorem dX12_part_407 : decode cX12_part 407 = .ok (.goto (-94), 3) := by decide +kernel
theorem dX12_part_410 : decode cX12_part 410 = .ok (.iload 5, 2) := by decide +kernel
theorem dX12_part_412 : decode cX12_part 412 = .ok (.ifCond .ge 6, 3) := by decide +kernel
theorem dX12_part_415 : decode cX12_part 415 = .ok (.goto 33, 3) := by decide +kernel
theorem dX12_part_418 : decode cX12_part 418 = .ok (.aload_n 0, 1) := by decide +kernel
theorem dX12_part_419 : decode cX12_part 419 = .ok (.iload 5, 2) := by decide +kernel
theorem dX12_part_421 : decode cX12_part 421 = .ok (.aload_n 0, 1) := by decide +kernel
theorem dX12_part_422 : decode cX12_part 422 = .ok (.getfield 108, 3) := by decide +kernel
theorem dX12_part_425 : decode cX12_part 425 = .ok (.iload 5, 2) := by decide +kernel
theorem dX12_part_427 : decode cX12_part 427 = .ok (.iaload, 1) := by decide +kernel
theorem dX12_part_428 : decode cX12_part 428 = .ok (.invokevirtual 241, 3) := by decide +kernel
theorem dX12_part_431 : decode cX12_part 431 = .ok (.aload_n 0, 1) := by decide +kernel
theorem dX12_part_432 : decode cX12_part 432 = .ok (.getfield 108, 3) := by decide +kernel
theorem dX12_part_435 : decode cX12_part 435 = .ok (.iload 5, 2) := by decide +kernel
theorem dX12_part_437 : decode cX12_part 437 = .ok (.dup2, 1) := by decide +kernel
theorem dX12_part_438 : decode cX12_part 438 = .ok (.iaload, 1) := by decide +kernel
theorem dX12_part_439 : decode cX12_part 439 = .ok (.iconst 1, 1) := by decide +kernel
theorem dX12_part_440 : decode cX12_part 440 = .ok (.iadd, 1) := by decide +kernel
theorem dX12_part_441 : decode cX12_part 441 = .ok (.iastore, 1) := by decide +kernel
theorem dX12_part_442 : decode cX12_part 442 = .ok (.iinc 4 1, 3) := by decide +kernel
theorem dX12_part_445 : decode cX12_part 445 = .ok (.goto (-149), 3) := by decide +kernel
theorem dX12_part_448 : decode cX12_part 448 = .ok (.aload_n 0, 1) := by decide +kernel
theorem dX12_part_449 : decode cX12_part 449 = .ok (.getfield 234, 3) := by decide +kernel
theorem dX12_part_452 : decode cX12_part 452 = .ok (.lreturn, 1) := by decide +kernel
theorem dX12_parted_0 : decode cX12_parted 0 = .ok (.aload_n 0, 1) := by decide +kernel
theorem dX12_parted_1 : decode cX12_parted 1 = .ok (.getfield 223, 3) := by decide +kernel
theorem dX12_parted_4 : decode cX12_parted 4 = .ok (.ifCond .ne 7, 3) := by decide +kernel
theorem dX12_parted_7 : decode cX12_parted 7 = .ok (.ldc2_w 221, 3) := by decide +kernel
theorem dX12_parted_10 : decode cX12_parted 10 = .ok (.lreturn, 1) := by decide +kernel
theorem dX12_parted_11 : decode cX12_parted 11 = .ok (.iload_n 1, 1) := by decide +kernel
theorem dX12_parted_12 : decode cX12_parted 12 = .ok (.ifCond .ne 10, 3) := by decide +kernel
theorem dX12_parted_15 : decode cX12_parted 15 = .ok (.aload_n 0, 1) := by decide +kernel
theorem dX12_parted_16 : decode cX12_parted 16 = .ok (.getfield 230, 3) := by decide +kernel
theorem dX12_parted_19 : decode cX12_parted 19 = .ok (.goto 51, 3) := by decide +kernel
theorem dX12_parted_22 : decode cX12_parted 22 = .ok (.iload_n 1, 1) := by decide +kernel
theorem dX12_parted_23 : decode cX12_parted 23 = .ok (.iconst 1, 1) := by decide +kernel
theorem dX12_parted_24 : decode cX12_parted 24 = .ok (.if_icmp .ne 10, 3) := by decide +kernel
theorem dX12_parted_27 : decode cX12_parted 27 = .ok (.aload_n 0, 1) := by decide +kernel
theorem dX12_parted_28 : decode cX12_parted 28 = .ok (.getfield 234, 3) := by decide +kernel
theorem dX12_parted_31 : decode cX12_parted 31 = .ok (.goto 39, 3) := by decide +kernel
theorem dX12_parted_34 : decode cX12_parted 34 = .ok (.iload_n 1, 1) := by decide +kernel
theorem dX12_parted_35 : decode cX12_parted 35 = .ok (.iconst 2, 1) := by decide +kernel
theorem dX12_parted_36 : decode cX12_parted 36 = .ok (.if_icmp .ne 18, 3) := by decide +kernel
theorem dX12_parted_39 : decode cX12_parted 39 = .ok (.aload_n 0, 1) := by decide +kernel
theorem dX12_parted_40 : decode cX12_parted 40 = .ok (.getfield 237, 3) := by decide +kernel
theorem dX12_parted_43 : decode cX12_parted 43 = .ok (.ifCond .eq 7, 3) := by decide +kernel
theorem dX12_parted_46 : decode cX12_parted 46 = .ok (.lconst 1, 1) := by decide +kernel
theorem dX12_parted_47 : decode cX12_parted 47 = .ok (.goto 23, 3) := by decide +kernel
theorem dX12_parted_50 : decode cX12_parted 50 = .ok (.lconst 0, 1) := by decide +kernel
theorem dX12_parted_51 : decode cX12_parted 51 = .ok (.goto 19, 3) := by decide +kernel
theorem dX12_parted_54 : decode cX12_parted 54 = .ok (.iload_n 1, 1) := by decide +kernel
theorem dX12_parted_55 : decode cX12_parted 55 = .ok (.iconst 3, 1) := by decide +kernel
theorem dX12_parted_56 : decode cX12_parted 56 = .ok (.if_icmp .ne 11, 3) := by decide +kernel
theorem dX12_parted_59 : decode cX12_parted 59 = .ok (.aload_n 0, 1) := by decide +kernel
theorem dX12_parted_60 : decode cX12_parted 60 = .ok (.getfield 218, 3) := by decide +kernel
theorem dX12_parted_63 : decode cX12_parted 63 = .ok (.i2l, 1) := by decide +kernel
theorem dX12_parted_64 : decode cX12_parted 64 = .ok (.goto 6, 3) := by decide +kernel
theorem dX12_parted_67 : decode cX12_parted 67 = .ok (.ldc2_w 221, 3) := by decide +kernel
theorem dX12_parted_70 : decode cX12_parted 70 = .ok (.lreturn, 1) := by decide +kernel
theorem dX12_isTold_0 : decode cX12_isTold 0 = .ok (.aload_n 0, 1) := by decide +kernel
theorem dX12_isTold_1 : decode cX12_isTold 1 = .ok (.getfield 223, 3) := by decide +kernel
theorem dX12_isTold_4 : decode cX12_isTold 4 = .ok (.ifCond .eq 21, 3) := by decide +kernel
theorem dX12_isTold_7 : decode cX12_isTold 7 = .ok (.iload_n 1, 1) := by decide +kernel
theorem dX12_isTold_8 : decode cX12_isTold 8 = .ok (.iconst 0, 1) := by decide +kernel
theorem dX12_isTold_9 : decode cX12_isTold 9 = .ok (.aload_n 0, 1) := by decide +kernel
theorem dX12_isTold_10 : decode cX12_isTold 10 = .ok (.getfield 218, 3) := by decide +kernel
theorem dX12_isTold_13 : decode cX12_isTold 13 = .ok (.iconst 1, 1) := by decide +kernel
theorem dX12_isTold_14 : decode cX12_isTold 14 = .ok (.isub, 1) := by decide +kernel
theorem dX12_isTold_15 : decode cX12_isTold 15 = .ok (.invokestatic 134, 3) := by decide +kernel
theorem dX12_isTold_18 : decode cX12_isTold 18 = .ok (.ifCond .eq 7, 3) := by decide +kernel
theorem dX12_isTold_21 : decode cX12_isTold 21 = .ok (.iconst 1, 1) := by decide +kernel
theorem dX12_isTold_22 : decode cX12_isTold 22 = .ok (.goto 4, 3) := by decide +kernel
theorem dX12_isTold_25 : decode cX12_isTold 25 = .ok (.iconst 0, 1) := by decide +kernel
theorem dX12_isTold_26 : decode cX12_isTold 26 = .ok (.ireturn, 1) := by decide +kernel
theorem dX12_parting_0 : decode cX12_parting 0 = .ok (.aload_n 0, 1) := by decide +kernel
theorem dX12_parting_1 : decode cX12_parting 1 = .ok (.iload_n 1, 1) := by decide +kernel
theorem dX12_parting_2 : decode cX12_parting 2 = .ok (.invokevirtual 244, 3) := by decide +kernel
theorem dX12_parting_5 : decode cX12_parting 5 = .ok (.ifCond .ne 5, 3) := by decide +kernel
theorem dX12_parting_8 : decode cX12_parting 8 = .ok (.iconst (-1), 1) := by decide +kernel
theorem dX12_parting_9 : decode cX12_parting 9 = .ok (.ireturn, 1) := by decide +kernel
theorem dX12_parting_10 : decode cX12_parting 10 = .ok (.iload_n 2, 1) := by decide +kernel
theorem dX12_parting_11 : decode cX12_parting 11 = .ok (.ifCond .ne 12, 3) := by decide +kernel
theorem dX12_parting_14 : decode cX12_parting 14 = .ok (.aload_n 0, 1) := by decide +kernel
theorem dX12_parting_15 : decode cX12_parting 15 = .ok (.getfield 96, 3) := by decide +kernel
theorem dX12_parting_18 : decode cX12_parting 18 = .ok (.iload_n 1, 1) := by decide +kernel
theorem dX12_parting_19 : decode cX12_parting 19 = .ok (.iaload, 1) := by decide +kernel
theorem dX12_parting_20 : decode cX12_parting 20 = .ok (.goto 39, 3) := by decide +kernel
theorem dX12_parting_23 : decode cX12_parting 23 = .ok (.iload_n 2, 1) := by decide +kernel
theorem dX12_parting_24 : decode cX12_parting 24 = .ok (.iconst 1, 1) := by decide +kernel
theorem dX12_parting_25 : decode cX12_parting 25 = .ok (.if_icmp .ne 12, 3) := by decide +kernel
theorem dX12_parting_28 : decode cX12_parting 28 = .ok (.aload_n 0, 1) := by decide +kernel
theorem dX12_parting_29 : decode cX12_parting 29 = .ok (.getfield 99, 3) := by decide +kernel
theorem dX12_parting_32 : decode cX12_parting 32 = .ok (.iload_n 1, 1) := by decide +kernel
theorem dX12_parting_33 : decode cX12_parting 33 = .ok (.iaload, 1) := by decide +kernel
theorem dX12_parting_34 : decode cX12_parting 34 = .ok (.goto 25, 3) := by decide +kernel
theorem dX12_parting_37 : decode cX12_parting 37 = .ok (.iload_n 2, 1) := by decide +kernel
theorem dX12_parting_38 : decode cX12_parting 38 = .ok (.iconst 2, 1) := by decide +kernel
theorem dX12_parting_39 : decode cX12_parting 39 = .ok (.if_icmp .ne 19, 3) := by decide +kernel
theorem dX12_parting_42 : decode cX12_parting 42 = .ok (.aload_n 0, 1) := by decide +kernel
theorem dX12_parting_43 : decode cX12_parting 43 = .ok (.getfield 96, 3) := by decide +kernel
theorem dX12_parting_46 : decode cX12_parting 46 = .ok (.iload_n 1, 1) := by decide +kernel
theorem dX12_parting_47 : decode cX12_parting 47 = .ok (.iaload, 1) := by decide +kernel
theorem dX12_parting_48 : decode cX12_parting 48 = .ok (.aload_n 0, 1) := by decide +kernel
theorem dX12_parting_49 : decode cX12_parting 49 = .ok (.getfield 96, 3) := by decide +kernel
theorem dX12_parting_52 : decode cX12_parting 52 = .ok (.iconst 0, 1) := by decide +kernel
theorem dX12_parting_53 : decode cX12_parting 53 = .ok (.iaload, 1) := by decide +kernel
theorem dX12_parting_54 : decode cX12_parting 54 = .ok (.isub, 1) := by decide +kernel
theorem dX12_parting_55 : decode cX12_parting 55 = .ok (.goto 4, 3) := by decide +kernel
theorem dX12_parting_58 : decode cX12_parting 58 = .ok (.iconst (-1), 1) := by decide +kernel
theorem dX12_parting_59 : decode cX12_parting 59 = .ok (.ireturn, 1) := by decide +kernel
theorem dX12_formOf_0 : decode cX12_formOf 0 = .ok (.aload_n 0, 1) := by decide +kernel
theorem dX12_formOf_1 : decode cX12_formOf 1 = .ok (.iload_n 1, 1) := by decide +kernel
theorem dX12_formOf_2 : decode cX12_formOf 2 = .ok (.invokevirtual 244, 3) := by decide +kernel
theorem dX12_formOf_5 : decode cX12_formOf 5 = .ok (.ifCond .eq 33, 3) := by decide +kernel
theorem dX12_formOf_8 : decode cX12_formOf 8 = .ok (.iload_n 2, 1) := by decide +kernel
theorem dX12_formOf_9 : decode cX12_formOf 9 = .ok (.iconst 0, 1) := by decide +kernel
theorem dX12_formOf_10 : decode cX12_formOf 10 = .ok (.aload_n 0, 1) := by decide +kernel
theorem dX12_formOf_11 : decode cX12_formOf 11 = .ok (.getfield 99, 3) := by decide +kernel
theorem dX12_formOf_14 : decode cX12_formOf 14 = .ok (.iload_n 1, 1) := by decide +kernel
theorem dX12_formOf_15 : decode cX12_formOf 15 = .ok (.iaload, 1) := by decide +kernel
theorem dX12_formOf_16 : decode cX12_formOf 16 = .ok (.iconst 1, 1) := by decide +kernel
theorem dX12_formOf_17 : decode cX12_formOf 17 = .ok (.isub, 1) := by decide +kernel
theorem dX12_formOf_18 : decode cX12_formOf 18 = .ok (.invokestatic 134, 3) := by decide +kernel
theorem dX12_formOf_21 : decode cX12_formOf 21 = .ok (.ifCond .eq 17, 3) := by decide +kernel
theorem dX12_formOf_24 : decode cX12_formOf 24 = .ok (.aload_n 0, 1) := by decide +kernel
theorem dX12_formOf_25 : decode cX12_formOf 25 = .ok (.getfield 102, 3) := by decide +kernel
theorem dX12_formOf_28 : decode cX12_formOf 28 = .ok (.bipush 40, 2) := by decide +kernel
theorem dX12_formOf_30 : decode cX12_formOf 30 = .ok (.iload_n 1, 1) := by decide +kernel
theorem dX12_formOf_31 : decode cX12_formOf 31 = .ok (.imul, 1) := by decide +kernel
theorem dX12_formOf_32 : decode cX12_formOf 32 = .ok (.iload_n 2, 1) := by decide +kernel
theorem dX12_formOf_33 : decode cX12_formOf 33 = .ok (.iadd, 1) := by decide +kernel
theorem dX12_formOf_34 : decode cX12_formOf 34 = .ok (.iaload, 1) := by decide +kernel
theorem dX12_formOf_35 : decode cX12_formOf 35 = .ok (.goto 4, 3) := by decide +kernel
theorem dX12_formOf_38 : decode cX12_formOf 38 = .ok (.iconst (-1), 1) := by decide +kernel
theorem dX12_formOf_39 : decode cX12_formOf 39 = .ok (.ireturn, 1) := by decide +kernel
theorem dX12_ruleOf_0 : decode cX12_ruleOf 0 = .ok (.aload_n 0, 1) := by decide +kernel
theorem dX12_ruleOf_1 : decode cX12_ruleOf 1 = .ok (.iload_n 1, 1) := by decide +kernel
theorem dX12_ruleOf_2 : decode cX12_ruleOf 2 = .ok (.invokevirtual 244, 3) := by decide +kernel
theorem dX12_ruleOf_5 : decode cX12_ruleOf 5 = .ok (.ifCond .eq 33, 3) := by decide +kernel
theorem dX12_ruleOf_8 : decode cX12_ruleOf 8 = .ok (.iload_n 2, 1) := by decide +kernel
theorem dX12_ruleOf_9 : decode cX12_ruleOf 9 = .ok (.iconst 0, 1) := by decide +kernel
theorem dX12_ruleOf_10 : decode cX12_ruleOf 10 = .ok (.aload_n 0, 1) := by decide +kernel
theorem dX12_ruleOf_11 : decode cX12_ruleOf 11 = .ok (.getfield 99, 3) := by decide +kernel
theorem dX12_ruleOf_14 : decode cX12_ruleOf 14 = .ok (.iload_n 1, 1) := by decide +kernel
theorem dX12_ruleOf_15 : decode cX12_ruleOf 15 = .ok (.iaload, 1) := by decide +kernel
theorem dX12_ruleOf_16 : decode cX12_ruleOf 16 = .ok (.iconst 1, 1) := by decide +kernel
theorem dX12_ruleOf_17 : decode cX12_ruleOf 17 = .ok (.isub, 1) := by decide +kernel
theorem dX12_ruleOf_18 : decode cX12_ruleOf 18 = .ok (.invokestatic 134, 3) := by decide +kernel
theorem dX12_ruleOf_21 : decode cX12_ruleOf 21 = .ok (.ifCond .eq 17, 3) := by decide +kernel
theorem dX12_ruleOf_24 : decode cX12_ruleOf 24 = .ok (.aload_n 0, 1) := by decide +kernel
theorem dX12_ruleOf_25 : decode cX12_ruleOf 25 = .ok (.getfield 105, 3) := by decide +kernel
theorem dX12_ruleOf_28 : decode cX12_ruleOf 28 = .ok (.bipush 40, 2) := by decide +kernel
theorem dX12_ruleOf_30 : decode cX12_ruleOf 30 = .ok (.iload_n 1, 1) := by decide +kernel
theorem dX12_ruleOf_31 : decode cX12_ruleOf 31 = .ok (.imul, 1) := by decide +kernel
theorem dX12_ruleOf_32 : decode cX12_ruleOf 32 = .ok (.iload_n 2, 1) := by decide +kernel
theorem dX12_ruleOf_33 : decode cX12_ruleOf 33 = .ok (.iadd, 1) := by decide +kernel
theorem dX12_ruleOf_34 : decode cX12_ruleOf 34 = .ok (.iaload, 1) := by decide +kernel
theorem dX12_ruleOf_35 : decode cX12_ruleOf 35 = .ok (.goto 4, 3) := by decide +kernel
theorem dX12_ruleOf_38 : decode cX12_ruleOf 38 = .ok (.iconst (-1), 1) := by decide +kernel
theorem dX12_ruleOf_39 : decode cX12_ruleOf 39 = .ok (.ireturn, 1) := by decide +kernel
theorem dX12_times_0 : decode cX12_times 0 = .ok (.lload_n 0, 1) := by decide +kernel
theorem dX12_times_1 : decode cX12_times 1 = .ok (.lconst 0, 1) := by decide +kernel
theorem dX12_times_2 : decode cX12_times 2 = .ok (.lcmp, 1) := by decide +kernel
theorem dX12_times_3 : decode cX12_times 3 = .ok (.ifCond .eq 9, 3) := by decide +kernel
theorem dX12_times_6 : decode cX12_times 6 = .ok (.lload_n 2, 1) := by decide +kernel
theorem dX12_times_7 : decode cX12_times 7 = .ok (.lconst 0, 1) := by decide +kernel
theorem dX12_times_8 : decode cX12_times 8 = .ok (.lcmp, 1) := by decide +kernel
theorem dX12_times_9 : decode cX12_times 9 = .ok (.ifCond .ne 5, 3) := by decide +kernel
theorem dX12_times_12 : decode cX12_times 12 = .ok (.lconst 0, 1) := by decide +kernel
theorem dX12_times_13 : decode cX12_times 13 = .ok (.lreturn, 1) := by decide +kernel
theorem dX12_times_14 : decode cX12_times 14 = .ok (.lload_n 0, 1) := by decide +kernel
theorem dX12_times_15 : decode cX12_times 15 = .ok (.ldc2_w 199, 3) := by decide +kernel
theorem dX12_times_18 : decode cX12_times 18 = .ok (.lload_n 2, 1) := by decide +kernel
theorem dX12_times_19 : decode cX12_times 19 = .ok (.ldiv, 1) := by decide +kernel
theorem dX12_times_20 : decode cX12_times 20 = .ok (.lcmp, 1) := by decide +kernel
theorem dX12_times_21 : decode cX12_times 21 = .ok (.ifCond .le 9, 3) := by decide +kernel
theorem dX12_times_24 : decode cX12_times 24 = .ok (.ldc2_w 199, 3) := by decide +kernel
theorem dX12_times_27 : decode cX12_times 27 = .ok (.goto 6, 3) := by decide +kernel
theorem dX12_times_30 : decode cX12_times 30 = .ok (.lload_n 0, 1) := by decide +kernel
theorem dX12_times_31 : decode cX12_times 31 = .ok (.lload_n 2, 1) := by decide +kernel
theorem dX12_times_32 : decode cX12_times 32 = .ok (.lmul, 1) := by decide +kernel
theorem dX12_times_33 : decode cX12_times 33 = .ok (.lreturn, 1) := by decide +kernel
theorem dX12_trees_0 : decode cX12_trees 0 = .ok (.aload_n 0, 1) := by decide +kernel
theorem dX12_trees_1 : decode cX12_trees 1 = .ok (.iload_n 1, 1) := by decide +kernel
theorem dX12_trees_2 : decode cX12_trees 2 = .ok (.invokevirtual 244, 3) := by decide +kernel
theorem dX12_trees_5 : decode cX12_trees 5 = .ok (.ifCond .eq 10, 3) := by decide +kernel
theorem dX12_trees_8 : decode cX12_trees 8 = .ok (.iload_n 2, 1) := by decide +kernel
theorem dX12_trees_9 : decode cX12_trees 9 = .ok (.invokestatic 145, 3) := by decide +kernel
theorem dX12_trees_12 : decode cX12_trees 12 = .ok (.ifCond .ne 7, 3) := by decide +kernel
theorem dX12_trees_15 : decode cX12_trees 15 = .ok (.ldc2_w 221, 3) := by decide +kernel
theorem dX12_trees_18 : decode cX12_trees 18 = .ok (.lreturn, 1) := by decide +kernel
theorem dX12_trees_19 : decode cX12_trees 19 = .ok (.iconst 1, 1) := by decide +kernel
theorem dX12_trees_20 : decode cX12_trees 20 = .ok (.istore_n 3, 1) := by decide +kernel
theorem dX12_trees_21 : decode cX12_trees 21 = .ok (.iload_n 3, 1) := by decide +kernel
theorem dX12_trees_22 : decode cX12_trees 22 = .ok (.aload_n 0, 1) := by decide +kernel
theorem dX12_trees_23 : decode cX12_trees 23 = .ok (.getfield 99, 3) := by decide +kernel
theorem dX12_trees_26 : decode cX12_trees 26 = .ok (.iload_n 1, 1) := by decide +kernel
theorem dX12_trees_27 : decode cX12_trees 27 = .ok (.iaload, 1) := by decide +kernel
theorem dX12_trees_28 : decode cX12_trees 28 = .ok (.if_icmp .gt 246, 3) := by decide +kernel
theorem dX12_trees_31 : decode cX12_trees 31 = .ok (.iconst 0, 1) := by decide +kernel
theorem dX12_trees_32 : decode cX12_trees 32 = .ok (.istore 4, 2) := by decide +kernel
theorem dX12_trees_34 : decode cX12_trees 34 = .ok (.iload 4, 2) := by decide +kernel
theorem dX12_trees_36 : decode cX12_trees 36 = .ok (.iload_n 3, 1) := by decide +kernel
theorem dX12_trees_37 : decode cX12_trees 37 = .ok (.iadd, 1) := by decide +kernel
theorem dX12_trees_38 : decode cX12_trees 38 = .ok (.aload_n 0, 1) := by decide +kernel
theorem dX12_trees_39 : decode cX12_trees 39 = .ok (.getfield 99, 3) := by decide +kernel
theorem dX12_trees_42 : decode cX12_trees 42 = .ok (.iload_n 1, 1) := by decide +kernel
theorem dX12_trees_43 : decode cX12_trees 43 = .ok (.iaload, 1) := by decide +kernel
theorem dX12_trees_44 : decode cX12_trees 44 = .ok (.if_icmp .gt 224, 3) := by decide +kernel
theorem dX12_trees_47 : decode cX12_trees 47 = .ok (.bipush 40, 2) := by decide +kernel
theorem dX12_trees_49 : decode cX12_trees 49 = .ok (.iload 4, 2) := by decide +kernel
theorem dX12_trees_51 : decode cX12_trees 51 = .ok (.imul, 1) := by decide +kernel
theorem dX12_trees_52 : decode cX12_trees 52 = .ok (.iload_n 3, 1) := by decide +kernel
theorem dX12_trees_53 : decode cX12_trees 53 = .ok (.iadd, 1) := by decide +kernel
theorem dX12_trees_54 : decode cX12_trees 54 = .ok (.iconst 1, 1) := by decide +kernel
theorem dX12_trees_55 : decode cX12_trees 55 = .ok (.isub, 1) := by decide +kernel
theorem dX12_trees_56 : decode cX12_trees 56 = .ok (.bipush 6, 2) := by decide +kernel
theorem dX12_trees_58 : decode cX12_trees 58 = .ok (.imul, 1) := by decide +kernel
theorem dX12_trees_59 : decode cX12_trees 59 = .ok (.istore 5, 2) := by decide +kernel
theorem dX12_trees_61 : decode cX12_trees 61 = .ok (.iconst 0, 1) := by decide +kernel
theorem dX12_trees_62 : decode cX12_trees 62 = .ok (.istore 6, 2) := by decide +kernel
theorem dX12_trees_64 : decode cX12_trees 64 = .ok (.iload 6, 2) := by decide +kernel
theorem dX12_trees_66 : decode cX12_trees 66 = .ok (.bipush 6, 2) := by decide +kernel
theorem dX12_trees_68 : decode cX12_trees 68 = .ok (.if_icmp .ge 51, 3) := by decide +kernel
theorem dX12_trees_71 : decode cX12_trees 71 = .ok (.aload_n 0, 1) := by decide +kernel
theorem dX12_trees_72 : decode cX12_trees 72 = .ok (.getfield 111, 3) := by decide +kernel
theorem dX12_trees_75 : decode cX12_trees 75 = .ok (.iload 5, 2) := by decide +kernel
theorem dX12_trees_77 : decode cX12_trees 77 = .ok (.iload 6, 2) := by decide +kernel
theorem dX12_trees_79 : decode cX12_trees 79 = .ok (.iadd, 1) := by decide +kernel
theorem dX12_trees_80 : decode cX12_trees 80 = .ok (.iload_n 3, 1) := by decide +kernel
theorem dX12_trees_81 : decode cX12_trees 81 = .ok (.iconst 1, 1) := by decide +kernel
theorem dX12_trees_82 : decode cX12_trees 82 = .ok (.if_icmp .ne 29, 3) := by decide +kernel
theorem dX12_trees_85 : decode cX12_trees 85 = .ok (.aload_n 0, 1) := by decide +kernel
theorem dX12_trees_86 : decode cX12_trees 86 = .ok (.getfield 20, 3) := by decide +kernel
theorem dX12_trees_89 : decode cX12_trees 89 = .ok (.aload_n 0, 1) := by decide +kernel
theorem dX12_trees_90 : decode cX12_trees 90 = .ok (.getfield 102, 3) := by decide +kernel
theorem dX12_trees_93 : decode cX12_trees 93 = .ok (.bipush 40, 2) := by decide +kernel
theorem dX12_trees_95 : decode cX12_trees 95 = .ok (.iload_n 1, 1) := by decide +kernel
theorem dX12_trees_96 : decode cX12_trees 96 = .ok (.imul, 1) := by decide +kernel
theorem dX12_trees_97 : decode cX12_trees 97 = .ok (.iload 4, 2) := by decide +kernel
theorem dX12_trees_99 : decode cX12_trees 99 = .ok (.iadd, 1) := by decide +kernel
theorem dX12_trees_100 : decode cX12_trees 100 = .ok (.iaload, 1) := by decide +kernel
theorem dX12_trees_101 : decode cX12_trees 101 = .ok (.iaload, 1) := by decide +kernel
theorem dX12_trees_102 : decode cX12_trees 102 = .ok (.iload 6, 2) := by decide +kernel
theorem dX12_trees_104 : decode cX12_trees 104 = .ok (.if_icmp .ne 7, 3) := by decide +kernel
theorem dX12_trees_107 : decode cX12_trees 107 = .ok (.lconst 1, 1) := by decide +kernel
theorem dX12_trees_108 : decode cX12_trees 108 = .ok (.goto 4, 3) := by decide +kernel
theorem dX12_trees_111 : decode cX12_trees 111 = .ok (.lconst 0, 1) := by decide +kernel
theorem dX12_trees_112 : decode cX12_trees 112 = .ok (.lastore, 1) := by decide +kernel
theorem dX12_trees_113 : decode cX12_trees 113 = .ok (.iinc 6 1, 3) := by decide +kernel
theorem dX12_trees_116 : decode cX12_trees 116 = .ok (.goto (-52), 3) := by decide +kernel
theorem dX12_trees_119 : decode cX12_trees 119 = .ok (.iconst 1, 1) := by decide +kernel
theorem dX12_trees_120 : decode cX12_trees 120 = .ok (.istore 6, 2) := by decide +kernel
theorem dX12_trees_122 : decode cX12_trees 122 = .ok (.iload 6, 2) := by decide +kernel
theorem dX12_trees_124 : decode cX12_trees 124 = .ok (.iload_n 3, 1) := by decide +kernel
theorem dX12_trees_125 : decode cX12_trees 125 = .ok (.if_icmp .ge 137, 3) := by decide +kernel
theorem dX12_trees_128 : decode cX12_trees 128 = .ok (.iconst 0, 1) := by decide +kernel
theorem dX12_trees_129 : decode cX12_trees 129 = .ok (.istore 7, 2) := by decide +kernel
theorem dX12_trees_131 : decode cX12_trees 131 = .ok (.iload 7, 2) := by decide +kernel
theorem dX12_trees_133 : decode cX12_trees 133 = .ok (.bipush 6, 2) := by decide +kernel
theorem dX12_trees_135 : decode cX12_trees 135 = .ok (.if_icmp .ge 121, 3) := by decide +kernel
theorem dX12_trees_138 : decode cX12_trees 138 = .ok (.iconst 0, 1) := by decide +kernel
theorem dX12_trees_139 : decode cX12_trees 139 = .ok (.istore 8, 2) := by decide +kernel
theorem dX12_trees_141 : decode cX12_trees 141 = .ok (.iload 8, 2) := by decide +kernel
theorem dX12_trees_143 : decode cX12_trees 143 = .ok (.bipush 6, 2) := by decide +kernel
theorem dX12_trees_145 : decode cX12_trees 145 = .ok (.if_icmp .ge 105, 3) := by decide +kernel
theorem dX12_trees_148 : decode cX12_trees 148 = .ok (.aload_n 0, 1) := by decide +kernel
theorem dX12_trees_149 : decode cX12_trees 149 = .ok (.getfield 57, 3) := by decide +kernel
theorem dX12_trees_152 : decode cX12_trees 152 = .ok (.bipush 6, 2) := by decide +kernel
theorem dX12_trees_154 : decode cX12_trees 154 = .ok (.iload 7, 2) := by decide +kernel
theorem dX12_trees_156 : decode cX12_trees 156 = .ok (.imul, 1) := by decide +kernel
theorem dX12_trees_157 : decode cX12_trees 157 = .ok (.iload 8, 2) := by decide +kernel
theorem dX12_trees_159 : decode cX12_trees 159 = .ok (.iadd, 1) := by decide +kernel
theorem dX12_trees_160 : decode cX12_trees 160 = .ok (.iaload, 1) := by decide +kernel
theorem dX12_trees_161 : decode cX12_trees 161 = .ok (.istore 9, 2) := by decide +kernel
theorem dX12_trees_163 : decode cX12_trees 163 = .ok (.iload 9, 2) := by decide +kernel
theorem dX12_trees_165 : decode cX12_trees 165 = .ok (.ifCond .ge 6, 3) := by decide +kernel
theorem dX12_trees_168 : decode cX12_trees 168 = .ok (.goto 76, 3) := by decide +kernel
theorem dX12_trees_171 : decode cX12_trees 171 = .ok (.aload_n 0, 1) := by decide +kernel
theorem dX12_trees_172 : decode cX12_trees 172 = .ok (.getfield 111, 3) := by decide +kernel
theorem dX12_trees_175 : decode cX12_trees 175 = .ok (.iload 5, 2) := by decide +kernel
theorem dX12_trees_177 : decode cX12_trees 177 = .ok (.iload 9, 2) := by decide +kernel
theorem dX12_trees_179 : decode cX12_trees 179 = .ok (.iadd, 1) := by decide +kernel
theorem dX12_trees_180 : decode cX12_trees 180 = .ok (.aload_n 0, 1) := by decide +kernel
theorem dX12_trees_181 : decode cX12_trees 181 = .ok (.getfield 111, 3) := by decide +kernel
theorem dX12_trees_184 : decode cX12_trees 184 = .ok (.iload 5, 2) := by decide +kernel
theorem dX12_trees_186 : decode cX12_trees 186 = .ok (.iload 9, 2) := by decide +kernel
theorem dX12_trees_188 : decode cX12_trees 188 = .ok (.iadd, 1) := by decide +kernel
theorem dX12_trees_189 : decode cX12_trees 189 = .ok (.laload, 1) := by decide +kernel
theorem dX12_trees_190 : decode cX12_trees 190 = .ok (.aload_n 0, 1) := by decide +kernel
theorem dX12_trees_191 : decode cX12_trees 191 = .ok (.getfield 111, 3) := by decide +kernel
theorem dX12_trees_194 : decode cX12_trees 194 = .ok (.bipush 40, 2) := by decide +kernel
theorem dX12_trees_196 : decode cX12_trees 196 = .ok (.iload 4, 2) := by decide +kernel
theorem dX12_trees_198 : decode cX12_trees 198 = .ok (.imul, 1) := by decide +kernel
theorem dX12_trees_199 : decode cX12_trees 199 = .ok (.iload 6, 2) := by decide +kernel
theorem dX12_trees_201 : decode cX12_trees 201 = .ok (.iadd, 1) := by decide +kernel
theorem dX12_trees_202 : decode cX12_trees 202 = .ok (.iconst 1, 1) := by decide +kernel
theorem dX12_trees_203 : decode cX12_trees 203 = .ok (.isub, 1) := by decide +kernel
theorem dX12_trees_204 : decode cX12_trees 204 = .ok (.bipush 6, 2) := by decide +kernel
theorem dX12_trees_206 : decode cX12_trees 206 = .ok (.imul, 1) := by decide +kernel
theorem dX12_trees_207 : decode cX12_trees 207 = .ok (.iload 7, 2) := by decide +kernel
theorem dX12_trees_209 : decode cX12_trees 209 = .ok (.iadd, 1) := by decide +kernel
theorem dX12_trees_210 : decode cX12_trees 210 = .ok (.laload, 1) := by decide +kernel
theorem dX12_trees_211 : decode cX12_trees 211 = .ok (.aload_n 0, 1) := by decide +kernel
theorem dX12_trees_212 : decode cX12_trees 212 = .ok (.getfield 111, 3) := by decide +kernel
theorem dX12_trees_215 : decode cX12_trees 215 = .ok (.bipush 40, 2) := by decide +kernel
theorem dX12_trees_217 : decode cX12_trees 217 = .ok (.iload 4, 2) := by decide +kernel
theorem dX12_trees_219 : decode cX12_trees 219 = .ok (.iload 6, 2) := by decide +kernel
theorem dX12_trees_221 : decode cX12_trees 221 = .ok (.iadd, 1) := by decide +kernel
theorem dX12_trees_222 : decode cX12_trees 222 = .ok (.imul, 1) := by decide +kernel
theorem dX12_trees_223 : decode cX12_trees 223 = .ok (.iload_n 3, 1) := by decide +kernel
theorem dX12_trees_224 : decode cX12_trees 224 = .ok (.iadd, 1) := by decide +kernel
theorem dX12_trees_225 : decode cX12_trees 225 = .ok (.iload 6, 2) := by decide +kernel
theorem dX12_trees_227 : decode cX12_trees 227 = .ok (.isub, 1) := by decide +kernel
theorem dX12_trees_228 : decode cX12_trees 228 = .ok (.iconst 1, 1) := by decide +kernel
theorem dX12_trees_229 : decode cX12_trees 229 = .ok (.isub, 1) := by decide +kernel
theorem dX12_trees_230 : decode cX12_trees 230 = .ok (.bipush 6, 2) := by decide +kernel
theorem dX12_trees_232 : decode cX12_trees 232 = .ok (.imul, 1) := by decide +kernel
theorem dX12_trees_233 : decode cX12_trees 233 = .ok (.iload 8, 2) := by decide +kernel
theorem dX12_trees_235 : decode cX12_trees 235 = .ok (.iadd, 1) := by decide +kernel
theorem dX12_trees_236 : decode cX12_trees 236 = .ok (.laload, 1) := by decide +kernel
theorem dX12_trees_237 : decode cX12_trees 237 = .ok (.invokestatic 247, 3) := by decide +kernel
theorem dX12_trees_240 : decode cX12_trees 240 = .ok (.invokestatic 205, 3) := by decide +kernel
theorem dX12_trees_243 : decode cX12_trees 243 = .ok (.lastore, 1) := by decide +kernel
theorem dX12_trees_244 : decode cX12_trees 244 = .ok (.iinc 8 1, 3) := by decide +kernel
theorem dX12_trees_247 : decode cX12_trees 247 = .ok (.goto (-106), 3) := by decide +kernel
theorem dX12_trees_250 : decode cX12_trees 250 = .ok (.iinc 7 1, 3) := by decide +kernel
theorem dX12_trees_253 : decode cX12_trees 253 = .ok (.goto (-122), 3) := by decide +kernel
theorem dX12_trees_256 : decode cX12_trees 256 = .ok (.iinc 6 1, 3) := by decide +kernel
theorem dX12_trees_259 : decode cX12_trees 259 = .ok (.goto (-137), 3) := by decide +kernel
theorem dX12_trees_262 : decode cX12_trees 262 = .ok (.iinc 4 1, 3) := by decide +kernel
theorem dX12_trees_265 : decode cX12_trees 265 = .ok (.goto (-231), 3) := by decide +kernel
theorem dX12_trees_268 : decode cX12_trees 268 = .ok (.iinc 3 1, 3) := by decide +kernel
theorem dX12_trees_271 : decode cX12_trees 271 = .ok (.goto (-250), 3) := by decide +kernel
theorem dX12_trees_274 : decode cX12_trees 274 = .ok (.aload_n 0, 1) := by decide +kernel
theorem dX12_trees_275 : decode cX12_trees 275 = .ok (.getfield 111, 3) := by decide +kernel
theorem dX12_trees_278 : decode cX12_trees 278 = .ok (.aload_n 0, 1) := by decide +kernel
theorem dX12_trees_279 : decode cX12_trees 279 = .ok (.getfield 99, 3) := by decide +kernel
theorem dX12_trees_282 : decode cX12_trees 282 = .ok (.iload_n 1, 1) := by decide +kernel
theorem dX12_trees_283 : decode cX12_trees 283 = .ok (.iaload, 1) := by decide +kernel
theorem dX12_trees_284 : decode cX12_trees 284 = .ok (.iconst 1, 1) := by decide +kernel
theorem dX12_trees_285 : decode cX12_trees 285 = .ok (.isub, 1) := by decide +kernel
theorem dX12_trees_286 : decode cX12_trees 286 = .ok (.bipush 6, 2) := by decide +kernel
theorem dX12_trees_288 : decode cX12_trees 288 = .ok (.imul, 1) := by decide +kernel
theorem dX12_trees_289 : decode cX12_trees 289 = .ok (.iload_n 2, 1) := by decide +kernel
theorem dX12_trees_290 : decode cX12_trees 290 = .ok (.iadd, 1) := by decide +kernel
theorem dX12_trees_291 : decode cX12_trees 291 = .ok (.laload, 1) := by decide +kernel
theorem dX12_trees_292 : decode cX12_trees 292 = .ok (.lreturn, 1) := by decide +kernel
theorem dX12_choose_0 : decode cX12_choose 0 = .ok (.aload_n 0, 1) := by decide +kernel
theorem dX12_choose_1 : decode cX12_choose 1 = .ok (.iload_n 1, 1) := by decide +kernel
theorem dX12_choose_2 : decode cX12_choose 2 = .ok (.invokevirtual 244, 3) := by decide +kernel
theorem dX12_choose_5 : decode cX12_choose 5 = .ok (.ifCond .ne 5, 3) := by decide +kernel
theorem dX12_choose_8 : decode cX12_choose 8 = .ok (.iconst (-1), 1) := by decide +kernel
theorem dX12_choose_9 : decode cX12_choose 9 = .ok (.ireturn, 1) := by decide +kernel
theorem dX12_choose_10 : decode cX12_choose 10 = .ok (.aload_n 0, 1) := by decide +kernel
theorem dX12_choose_11 : decode cX12_choose 11 = .ok (.getfield 250, 3) := by decide +kernel
theorem dX12_choose_14 : decode cX12_choose 14 = .ok (.bipush 30, 2) := by decide +kernel
theorem dX12_choose_16 : decode cX12_choose 16 = .ok (.if_icmp .ne 71, 3) := by decide +kernel
theorem dX12_choose_19 : decode cX12_choose 19 = .ok (.iconst 0, 1) := by decide +kernel
theorem dX12_choose_20 : decode cX12_choose 20 = .ok (.istore_n 2, 1) := by decide +kernel
theorem dX12_choose_21 : decode cX12_choose 21 = .ok (.iload_n 2, 1) := by decide +kernel
theorem dX12_choose_22 : decode cX12_choose 22 = .ok (.sipush 1740, 3) := by decide +kernel
theorem dX12_choose_25 : decode cX12_choose 25 = .ok (.if_icmp .ge 24, 3) := by decide +kernel
theorem dX12_choose_28 : decode cX12_choose 28 = .ok (.aload_n 0, 1) := by decide +kernel
theorem dX12_choose_29 : decode cX12_choose 29 = .ok (.getfield 117, 3) := by decide +kernel
theorem dX12_choose_32 : decode cX12_choose 32 = .ok (.iload_n 2, 1) := by decide +kernel
theorem dX12_choose_33 : decode cX12_choose 33 = .ok (.aload_n 0, 1) := by decide +kernel
theorem dX12_choose_34 : decode cX12_choose 34 = .ok (.getfield 117, 3) := by decide +kernel
theorem dX12_choose_37 : decode cX12_choose 37 = .ok (.iload_n 2, 1) := by decide +kernel
theorem dX12_choose_38 : decode cX12_choose 38 = .ok (.bipush 60, 2) := by decide +kernel
theorem dX12_choose_40 : decode cX12_choose 40 = .ok (.iadd, 1) := by decide +kernel
theorem dX12_choose_41 : decode cX12_choose 41 = .ok (.iaload, 1) := by decide +kernel
theorem dX12_choose_42 : decode cX12_choose 42 = .ok (.iastore, 1) := by decide +kernel
theorem dX12_choose_43 : decode cX12_choose 43 = .ok (.iinc 2 1, 3) := by decide +kernel
theorem dX12_choose_46 : decode cX12_choose 46 = .ok (.goto (-25), 3) := by decide +kernel
theorem dX12_choose_49 : decode cX12_choose 49 = .ok (.iconst 0, 1) := by decide +kernel
theorem dX12_choose_50 : decode cX12_choose 50 = .ok (.istore_n 2, 1) := by decide +kernel
theorem dX12_choose_51 : decode cX12_choose 51 = .ok (.iload_n 2, 1) := by decide +kernel
theorem dX12_choose_52 : decode cX12_choose 52 = .ok (.bipush 29, 2) := by decide +kernel
theorem dX12_choose_54 : decode cX12_choose 54 = .ok (.if_icmp .ge 23, 3) := by decide +kernel
theorem dX12_choose_57 : decode cX12_choose 57 = .ok (.aload_n 0, 1) := by decide +kernel
theorem dX12_choose_58 : decode cX12_choose 58 = .ok (.getfield 114, 3) := by decide +kernel
theorem dX12_choose_61 : decode cX12_choose 61 = .ok (.iload_n 2, 1) := by decide +kernel
theorem dX12_choose_62 : decode cX12_choose 62 = .ok (.aload_n 0, 1) := by decide +kernel
theorem dX12_choose_63 : decode cX12_choose 63 = .ok (.getfield 114, 3) := by decide +kernel
theorem dX12_choose_66 : decode cX12_choose 66 = .ok (.iload_n 2, 1) := by decide +kernel
theorem dX12_choose_67 : decode cX12_choose 67 = .ok (.iconst 1, 1) := by decide +kernel
theorem dX12_choose_68 : decode cX12_choose 68 = .ok (.iadd, 1) := by decide +kernel
theorem dX12_choose_69 : decode cX12_choose 69 = .ok (.iaload, 1) := by decide +kernel
theorem dX12_choose_70 : decode cX12_choose 70 = .ok (.iastore, 1) := by decide +kernel
theorem dX12_choose_71 : decode cX12_choose 71 = .ok (.iinc 2 1, 3) := by decide +kernel
theorem dX12_choose_74 : decode cX12_choose 74 = .ok (.goto (-23), 3) := by decide +kernel
theorem dX12_choose_77 : decode cX12_choose 77 = .ok (.aload_n 0, 1) := by decide +kernel
theorem dX12_choose_78 : decode cX12_choose 78 = .ok (.dup, 1) := by decide +kernel
theorem dX12_choose_79 : decode cX12_choose 79 = .ok (.getfield 250, 3) := by decide +kernel
theorem dX12_choose_82 : decode cX12_choose 82 = .ok (.iconst 1, 1) := by decide +kernel
theorem dX12_choose_83 : decode cX12_choose 83 = .ok (.isub, 1) := by decide +kernel
theorem dX12_choose_84 : decode cX12_choose 84 = .ok (.putfield 250, 3) := by decide +kernel
theorem dX12_choose_87 : decode cX12_choose 87 = .ok (.iconst 0, 1) := by decide +kernel
theorem dX12_choose_88 : decode cX12_choose 88 = .ok (.istore_n 2, 1) := by decide +kernel
theorem dX12_choose_89 : decode cX12_choose 89 = .ok (.iload_n 2, 1) := by decide +kernel
theorem dX12_choose_90 : decode cX12_choose 90 = .ok (.bipush 40, 2) := by decide +kernel
theorem dX12_choose_92 : decode cX12_choose 92 = .ok (.if_icmp .ge 29, 3) := by decide +kernel
theorem dX12_choose_95 : decode cX12_choose 95 = .ok (.aload_n 0, 1) := by decide +kernel
theorem dX12_choose_96 : decode cX12_choose 96 = .ok (.getfield 117, 3) := by decide +kernel
theorem dX12_choose_99 : decode cX12_choose 99 = .ok (.bipush 60, 2) := by decide +kernel
theorem dX12_choose_101 : decode cX12_choose 101 = .ok (.aload_n 0, 1) := by decide +kernel
theorem dX12_choose_102 : decode cX12_choose 102 = .ok (.getfield 250, 3) := by decide +kernel
theorem dX12_choose_105 : decode cX12_choose 105 = .ok (.imul, 1) := by decide +kernel
theorem dX12_choose_106 : decode cX12_choose 106 = .ok (.iload_n 2, 1) := by decide +kernel
theorem dX12_choose_107 : decode cX12_choose 107 = .ok (.iadd, 1) := by decide +kernel
theorem dX12_choose_108 : decode cX12_choose 108 = .ok (.aload_n 0, 1) := by decide +kernel
theorem dX12_choose_109 : decode cX12_choose 109 = .ok (.getfield 26, 3) := by decide +kernel
theorem dX12_choose_112 : decode cX12_choose 112 = .ok (.iload_n 2, 1) := by decide +kernel
theorem dX12_choose_113 : decode cX12_choose 113 = .ok (.iaload, 1) := by decide +kernel
theorem dX12_choose_114 : decode cX12_choose 114 = .ok (.iastore, 1) := by decide +kernel
theorem dX12_choose_115 : decode cX12_choose 115 = .ok (.iinc 2 1, 3) := by decide +kernel
theorem dX12_choose_118 : decode cX12_choose 118 = .ok (.goto (-29), 3) := by decide +kernel
theorem dX12_choose_121 : decode cX12_choose 121 = .ok (.iconst 0, 1) := by decide +kernel
theorem dX12_choose_122 : decode cX12_choose 122 = .ok (.istore_n 2, 1) := by decide +kernel
theorem dX12_choose_123 : decode cX12_choose 123 = .ok (.iload_n 2, 1) := by decide +kernel
theorem dX12_choose_124 : decode cX12_choose 124 = .ok (.bipush 20, 2) := by decide +kernel
theorem dX12_choose_126 : decode cX12_choose 126 = .ok (.if_icmp .ge 32, 3) := by decide +kernel
theorem dX12_choose_129 : decode cX12_choose 129 = .ok (.aload_n 0, 1) := by decide +kernel
theorem dX12_choose_130 : decode cX12_choose 130 = .ok (.getfield 117, 3) := by decide +kernel
theorem dX12_choose_133 : decode cX12_choose 133 = .ok (.bipush 60, 2) := by decide +kernel
theorem dX12_choose_135 : decode cX12_choose 135 = .ok (.aload_n 0, 1) := by decide +kernel
theorem dX12_choose_136 : decode cX12_choose 136 = .ok (.getfield 250, 3) := by decide +kernel
theorem dX12_choose_139 : decode cX12_choose 139 = .ok (.imul, 1) := by decide +kernel
theorem dX12_choose_140 : decode cX12_choose 140 = .ok (.bipush 40, 2) := by decide +kernel
theorem dX12_choose_142 : decode cX12_choose 142 = .ok (.iadd, 1) := by decide +kernel
theorem dX12_choose_143 : decode cX12_choose 143 = .ok (.iload_n 2, 1) := by decide +kernel
theorem dX12_choose_144 : decode cX12_choose 144 = .ok (.iadd, 1) := by decide +kernel
theorem dX12_choose_145 : decode cX12_choose 145 = .ok (.aload_n 0, 1) := by decide +kernel
theorem dX12_choose_146 : decode cX12_choose 146 = .ok (.getfield 60, 3) := by decide +kernel
theorem dX12_choose_149 : decode cX12_choose 149 = .ok (.iload_n 2, 1) := by decide +kernel
theorem dX12_choose_150 : decode cX12_choose 150 = .ok (.iaload, 1) := by decide +kernel
theorem dX12_choose_151 : decode cX12_choose 151 = .ok (.iastore, 1) := by decide +kernel
theorem dX12_choose_152 : decode cX12_choose 152 = .ok (.iinc 2 1, 3) := by decide +kernel
theorem dX12_choose_155 : decode cX12_choose 155 = .ok (.goto (-32), 3) := by decide +kernel
theorem dX12_choose_158 : decode cX12_choose 158 = .ok (.aload_n 0, 1) := by decide +kernel
theorem dX12_choose_159 : decode cX12_choose 159 = .ok (.getfield 114, 3) := by decide +kernel
theorem dX12_choose_162 : decode cX12_choose 162 = .ok (.aload_n 0, 1) := by decide +kernel
theorem dX12_choose_163 : decode cX12_choose 163 = .ok (.getfield 250, 3) := by decide +kernel
theorem dX12_choose_166 : decode cX12_choose 166 = .ok (.aload_n 0, 1) := by decide +kernel
theorem dX12_choose_167 : decode cX12_choose 167 = .ok (.getfield 131, 3) := by decide +kernel
theorem dX12_choose_170 : decode cX12_choose 170 = .ok (.iastore, 1) := by decide +kernel
theorem dX12_choose_171 : decode cX12_choose 171 = .ok (.aload_n 0, 1) := by decide +kernel
theorem dX12_choose_172 : decode cX12_choose 172 = .ok (.dup, 1) := by decide +kernel
theorem dX12_choose_173 : decode cX12_choose 173 = .ok (.getfield 250, 3) := by decide +kernel
theorem dX12_choose_176 : decode cX12_choose 176 = .ok (.iconst 1, 1) := by decide +kernel
theorem dX12_choose_177 : decode cX12_choose 177 = .ok (.iadd, 1) := by decide +kernel
theorem dX12_choose_178 : decode cX12_choose 178 = .ok (.putfield 250, 3) := by decide +kernel
theorem dX12_choose_181 : decode cX12_choose 181 = .ok (.iconst 0, 1) := by decide +kernel
theorem dX12_choose_182 : decode cX12_choose 182 = .ok (.istore_n 2, 1) := by decide +kernel
theorem dX12_choose_183 : decode cX12_choose 183 = .ok (.iload_n 2, 1) := by decide +kernel
theorem dX12_choose_184 : decode cX12_choose 184 = .ok (.aload_n 0, 1) := by decide +kernel
theorem dX12_choose_185 : decode cX12_choose 185 = .ok (.getfield 131, 3) := by decide +kernel
theorem dX12_choose_188 : decode cX12_choose 188 = .ok (.if_icmp .ge 108, 3) := by decide +kernel
theorem dX12_choose_191 : decode cX12_choose 191 = .ok (.iconst 0, 1) := by decide +kernel
theorem dX12_choose_192 : decode cX12_choose 192 = .ok (.istore_n 3, 1) := by decide +kernel
theorem dX12_choose_193 : decode cX12_choose 193 = .ok (.iconst 0, 1) := by decide +kernel
theorem dX12_choose_194 : decode cX12_choose 194 = .ok (.istore 4, 2) := by decide +kernel
theorem dX12_choose_196 : decode cX12_choose 196 = .ok (.iload 4, 2) := by decide +kernel
theorem dX12_choose_198 : decode cX12_choose 198 = .ok (.aload_n 0, 1) := by decide +kernel
theorem dX12_choose_199 : decode cX12_choose 199 = .ok (.getfield 99, 3) := by decide +kernel
theorem dX12_choose_202 : decode cX12_choose 202 = .ok (.iload_n 1, 1) := by decide +kernel
theorem dX12_choose_203 : decode cX12_choose 203 = .ok (.iaload, 1) := by decide +kernel
theorem dX12_choose_204 : decode cX12_choose 204 = .ok (.if_icmp .ge 33, 3) := by decide +kernel
theorem dX12_choose_207 : decode cX12_choose 207 = .ok (.iload_n 3, 1) := by decide +kernel
theorem dX12_choose_208 : decode cX12_choose 208 = .ok (.aload_n 0, 1) := by decide +kernel
theorem dX12_choose_209 : decode cX12_choose 209 = .ok (.getfield 102, 3) := by decide +kernel
theorem dX12_choose_212 : decode cX12_choose 212 = .ok (.bipush 40, 2) := by decide +kernel
theorem dX12_choose_214 : decode cX12_choose 214 = .ok (.iload_n 1, 1) := by decide +kernel
theorem dX12_choose_215 : decode cX12_choose 215 = .ok (.imul, 1) := by decide +kernel
theorem dX12_choose_216 : decode cX12_choose 216 = .ok (.iload 4, 2) := by decide +kernel
theorem dX12_choose_218 : decode cX12_choose 218 = .ok (.iadd, 1) := by decide +kernel
theorem dX12_choose_219 : decode cX12_choose 219 = .ok (.iaload, 1) := by decide +kernel
theorem dX12_choose_220 : decode cX12_choose 220 = .ok (.iload_n 2, 1) := by decide +kernel
theorem dX12_choose_221 : decode cX12_choose 221 = .ok (.if_icmp .ne 7, 3) := by decide +kernel
theorem dX12_choose_224 : decode cX12_choose 224 = .ok (.iconst 1, 1) := by decide +kernel
theorem dX12_choose_225 : decode cX12_choose 225 = .ok (.goto 4, 3) := by decide +kernel
theorem dX12_choose_228 : decode cX12_choose 228 = .ok (.iconst 0, 1) := by decide +kernel
theorem dX12_choose_229 : decode cX12_choose 229 = .ok (.iadd, 1) := by decide +kernel
theorem dX12_choose_230 : decode cX12_choose 230 = .ok (.istore_n 3, 1) := by decide +kernel
theorem dX12_choose_231 : decode cX12_choose 231 = .ok (.iinc 4 1, 3) := by decide +kernel
theorem dX12_choose_234 : decode cX12_choose 234 = .ok (.goto (-38), 3) := by decide +kernel
theorem dX12_choose_237 : decode cX12_choose 237 = .ok (.aload_n 0, 1) := by decide +kernel
theorem dX12_choose_238 : decode cX12_choose 238 = .ok (.getfield 60, 3) := by decide +kernel
theorem dX12_choose_241 : decode cX12_choose 241 = .ok (.aload_n 0, 1) := by decide +kernel
theorem dX12_choose_242 : decode cX12_choose 242 = .ok (.getfield 23, 3) := by decide +kernel
theorem dX12_choose_245 : decode cX12_choose 245 = .ok (.iload_n 2, 1) := by decide +kernel
theorem dX12_choose_246 : decode cX12_choose 246 = .ok (.iaload, 1) := by decide +kernel
theorem dX12_choose_247 : decode cX12_choose 247 = .ok (.dup2, 1) := by decide +kernel
theorem dX12_choose_248 : decode cX12_choose 248 = .ok (.iaload, 1) := by decide +kernel
theorem dX12_choose_249 : decode cX12_choose 249 = .ok (.iload_n 3, 1) := by decide +kernel
theorem dX12_choose_250 : decode cX12_choose 250 = .ok (.iadd, 1) := by decide +kernel
theorem dX12_choose_251 : decode cX12_choose 251 = .ok (.iastore, 1) := by decide +kernel
theorem dX12_choose_252 : decode cX12_choose 252 = .ok (.iload_n 3, 1) := by decide +kernel
theorem dX12_choose_253 : decode cX12_choose 253 = .ok (.ifCond .le 37, 3) := by decide +kernel
theorem dX12_choose_256 : decode cX12_choose 256 = .ok (.aload_n 0, 1) := by decide +kernel
theorem dX12_choose_257 : decode cX12_choose 257 = .ok (.getfield 26, 3) := by decide +kernel
theorem dX12_choose_260 : decode cX12_choose 260 = .ok (.iload_n 2, 1) := by decide +kernel
theorem dX12_choose_261 : decode cX12_choose 261 = .ok (.aload_n 0, 1) := by decide +kernel
theorem dX12_choose_262 : decode cX12_choose 262 = .ok (.getfield 26, 3) := by decide +kernel
theorem dX12_choose_265 : decode cX12_choose 265 = .ok (.iload_n 2, 1) := by decide +kernel
theorem dX12_choose_266 : decode cX12_choose 266 = .ok (.iaload, 1) := by decide +kernel
theorem dX12_choose_267 : decode cX12_choose 267 = .ok (.aload_n 0, 1) := by decide +kernel
theorem dX12_choose_268 : decode cX12_choose 268 = .ok (.getfield 63, 3) := by decide +kernel
theorem dX12_choose_271 : decode cX12_choose 271 = .ok (.if_icmp .ge 7, 3) := by decide +kernel
theorem dX12_choose_274 : decode cX12_choose 274 = .ok (.iconst 0, 1) := by decide +kernel
theorem dX12_choose_275 : decode cX12_choose 275 = .ok (.goto 14, 3) := by decide +kernel
theorem dX12_choose_278 : decode cX12_choose 278 = .ok (.aload_n 0, 1) := by decide +kernel
theorem dX12_choose_279 : decode cX12_choose 279 = .ok (.getfield 26, 3) := by decide +kernel
theorem dX12_choose_282 : decode cX12_choose 282 = .ok (.iload_n 2, 1) := by decide +kernel
theorem dX12_choose_283 : decode cX12_choose 283 = .ok (.iaload, 1) := by decide +kernel
theorem dX12_choose_284 : decode cX12_choose 284 = .ok (.aload_n 0, 1) := by decide +kernel
theorem dX12_choose_285 : decode cX12_choose 285 = .ok (.getfield 63, 3) := by decide +kernel
theorem dX12_choose_288 : decode cX12_choose 288 = .ok (.isub, 1) := by decide +kernel
theorem dX12_choose_289 : decode cX12_choose 289 = .ok (.iastore, 1) := by decide +kernel
theorem dX12_choose_290 : decode cX12_choose 290 = .ok (.iinc 2 1, 3) := by decide +kernel
theorem dX12_choose_293 : decode cX12_choose 293 = .ok (.goto (-110), 3) := by decide +kernel
theorem dX12_choose_296 : decode cX12_choose 296 = .ok (.aload_n 0, 1) := by decide +kernel
theorem dX12_choose_297 : decode cX12_choose 297 = .ok (.getfield 250, 3) := by decide +kernel
theorem dX12_choose_300 : decode cX12_choose 300 = .ok (.ireturn, 1) := by decide +kernel
theorem dX12_undo_0 : decode cX12_undo 0 = .ok (.aload_n 0, 1) := by decide +kernel
theorem dX12_undo_1 : decode cX12_undo 1 = .ok (.getfield 250, 3) := by decide +kernel
theorem dX12_undo_4 : decode cX12_undo 4 = .ok (.ifCond .ne 5, 3) := by decide +kernel
theorem dX12_undo_7 : decode cX12_undo 7 = .ok (.iconst 0, 1) := by decide +kernel
theorem dX12_undo_8 : decode cX12_undo 8 = .ok (.ireturn, 1) := by decide +kernel
theorem dX12_undo_9 : decode cX12_undo 9 = .ok (.aload_n 0, 1) := by decide +kernel
theorem dX12_undo_10 : decode cX12_undo 10 = .ok (.dup, 1) := by decide +kernel
theorem dX12_undo_11 : decode cX12_undo 11 = .ok (.getfield 250, 3) := by decide +kernel
theorem dX12_undo_14 : decode cX12_undo 14 = .ok (.iconst 1, 1) := by decide +kernel
theorem dX12_undo_15 : decode cX12_undo 15 = .ok (.isub, 1) := by decide +kernel
theorem dX12_undo_16 : decode cX12_undo 16 = .ok (.putfield 250, 3) := by decide +kernel
theorem dX12_undo_19 : decode cX12_undo 19 = .ok (.iconst 0, 1) := by decide +kernel
theorem dX12_undo_20 : decode cX12_undo 20 = .ok (.istore_n 1, 1) := by decide +kernel
theorem dX12_undo_21 : decode cX12_undo 21 = .ok (.iload_n 1, 1) := by decide +kernel
theorem dX12_undo_22 : decode cX12_undo 22 = .ok (.aload_n 0, 1) := by decide +kernel
theorem dX12_undo_23 : decode cX12_undo 23 = .ok (.getfield 114, 3) := by decide +kernel
theorem dX12_undo_26 : decode cX12_undo 26 = .ok (.aload_n 0, 1) := by decide +kernel
theorem dX12_undo_27 : decode cX12_undo 27 = .ok (.getfield 250, 3) := by decide +kernel
theorem dX12_undo_30 : decode cX12_undo 30 = .ok (.iaload, 1) := by decide +kernel
theorem dX12_undo_31 : decode cX12_undo 31 = .ok (.if_icmp .ge 29, 3) := by decide +kernel
theorem dX12_undo_34 : decode cX12_undo 34 = .ok (.aload_n 0, 1) := by decide +kernel
theorem dX12_undo_35 : decode cX12_undo 35 = .ok (.getfield 26, 3) := by decide +kernel
theorem dX12_undo_38 : decode cX12_undo 38 = .ok (.iload_n 1, 1) := by decide +kernel
theorem dX12_undo_39 : decode cX12_undo 39 = .ok (.aload_n 0, 1) := by decide +kernel
theorem dX12_undo_40 : decode cX12_undo 40 = .ok (.getfield 117, 3) := by decide +kernel
theorem dX12_undo_43 : decode cX12_undo 43 = .ok (.bipush 60, 2) := by decide +kernel
theorem dX12_undo_45 : decode cX12_undo 45 = .ok (.aload_n 0, 1) := by decide +kernel
theorem dX12_undo_46 : decode cX12_undo 46 = .ok (.getfield 250, 3) := by decide +kernel
theorem dX12_undo_49 : decode cX12_undo 49 = .ok (.imul, 1) := by decide +kernel
theorem dX12_undo_50 : decode cX12_undo 50 = .ok (.iload_n 1, 1) := by decide +kernel
theorem dX12_undo_51 : decode cX12_undo 51 = .ok (.iadd, 1) := by decide +kernel
theorem dX12_undo_52 : decode cX12_undo 52 = .ok (.iaload, 1) := by decide +kernel
theorem dX12_undo_53 : decode cX12_undo 53 = .ok (.iastore, 1) := by decide +kernel
theorem dX12_undo_54 : decode cX12_undo 54 = .ok (.iinc 1 1, 3) := by decide +kernel
theorem dX12_undo_57 : decode cX12_undo 57 = .ok (.goto (-36), 3) := by decide +kernel
theorem dX12_undo_60 : decode cX12_undo 60 = .ok (.iconst 0, 1) := by decide +kernel
theorem dX12_undo_61 : decode cX12_undo 61 = .ok (.istore_n 1, 1) := by decide +kernel
theorem dX12_undo_62 : decode cX12_undo 62 = .ok (.iload_n 1, 1) := by decide +kernel
theorem dX12_undo_63 : decode cX12_undo 63 = .ok (.bipush 20, 2) := by decide +kernel
theorem dX12_undo_65 : decode cX12_undo 65 = .ok (.if_icmp .ge 32, 3) := by decide +kernel
theorem dX12_undo_68 : decode cX12_undo 68 = .ok (.aload_n 0, 1) := by decide +kernel
theorem dX12_undo_69 : decode cX12_undo 69 = .ok (.getfield 60, 3) := by decide +kernel
theorem dX12_undo_72 : decode cX12_undo 72 = .ok (.iload_n 1, 1) := by decide +kernel
theorem dX12_undo_73 : decode cX12_undo 73 = .ok (.aload_n 0, 1) := by decide +kernel
theorem dX12_undo_74 : decode cX12_undo 74 = .ok (.getfield 117, 3) := by decide +kernel
theorem dX12_undo_77 : decode cX12_undo 77 = .ok (.bipush 60, 2) := by decide +kernel
theorem dX12_undo_79 : decode cX12_undo 79 = .ok (.aload_n 0, 1) := by decide +kernel
theorem dX12_undo_80 : decode cX12_undo 80 = .ok (.getfield 250, 3) := by decide +kernel
theorem dX12_undo_83 : decode cX12_undo 83 = .ok (.imul, 1) := by decide +kernel
theorem dX12_undo_84 : decode cX12_undo 84 = .ok (.bipush 40, 2) := by decide +kernel
theorem dX12_undo_86 : decode cX12_undo 86 = .ok (.iadd, 1) := by decide +kernel
theorem dX12_undo_87 : decode cX12_undo 87 = .ok (.iload_n 1, 1) := by decide +kernel
theorem dX12_undo_88 : decode cX12_undo 88 = .ok (.iadd, 1) := by decide +kernel
theorem dX12_undo_89 : decode cX12_undo 89 = .ok (.iaload, 1) := by decide +kernel
theorem dX12_undo_90 : decode cX12_undo 90 = .ok (.iastore, 1) := by decide +kernel
theorem dX12_undo_91 : decode cX12_undo 91 = .ok (.iinc 1 1, 3) := by decide +kernel
theorem dX12_undo_94 : decode cX12_undo 94 = .ok (.goto (-32), 3) := by decide +kernel
theorem dX12_undo_97 : decode cX12_undo 97 = .ok (.iconst 1, 1) := by decide +kernel
theorem dX12_undo_98 : decode cX12_undo 98 = .ok (.ireturn, 1) := by decide +kernel
theorem dX12_step_0 : decode cX12_step 0 = .ok (.iload_n 1, 1) := by decide +kernel
theorem dX12_step_1 : decode cX12_step 1 = .ok (.iconst 0, 1) := by decide +kernel
theorem dX12_step_2 : decode cX12_step 2 = .ok (.bipush 20, 2) := by decide +kernel
theorem dX12_step_4 : decode cX12_step 4 = .ok (.invokestatic 134, 3) := by decide +kernel
theorem dX12_step_7 : decode cX12_step 7 = .ok (.ifCond .ne 5, 3) := by decide +kernel
theorem dX12_step_10 : decode cX12_step 10 = .ok (.iconst (-1), 1) := by decide +kernel
theorem dX12_step_11 : decode cX12_step 11 = .ok (.ireturn, 1) := by decide +kernel
theorem dX12_step_12 : decode cX12_step 12 = .ok (.aload_n 0, 1) := by decide +kernel
theorem dX12_step_13 : decode cX12_step 13 = .ok (.getfield 63, 3) := by decide +kernel
theorem dX12_step_16 : decode cX12_step 16 = .ok (.istore_n 2, 1) := by decide +kernel
theorem dX12_step_17 : decode cX12_step 17 = .ok (.aload_n 0, 1) := by decide +kernel
theorem dX12_step_18 : decode cX12_step 18 = .ok (.iload_n 1, 1) := by decide +kernel
theorem dX12_step_19 : decode cX12_step 19 = .ok (.putfield 63, 3) := by decide +kernel
theorem dX12_step_22 : decode cX12_step 22 = .ok (.iload_n 2, 1) := by decide +kernel
theorem dX12_step_23 : decode cX12_step 23 = .ok (.ireturn, 1) := by decide +kernel
theorem dX12_uses_0 : decode cX12_uses 0 = .ok (.iload_n 1, 1) := by decide +kernel
theorem dX12_uses_1 : decode cX12_uses 1 = .ok (.iconst 0, 1) := by decide +kernel
theorem dX12_uses_2 : decode cX12_uses 2 = .ok (.bipush 19, 2) := by decide +kernel
theorem dX12_uses_4 : decode cX12_uses 4 = .ok (.invokestatic 134, 3) := by decide +kernel
theorem dX12_uses_7 : decode cX12_uses 7 = .ok (.ifCond .eq 12, 3) := by decide +kernel
theorem dX12_uses_10 : decode cX12_uses 10 = .ok (.aload_n 0, 1) := by decide +kernel
theorem dX12_uses_11 : decode cX12_uses 11 = .ok (.getfield 60, 3) := by decide +kernel
theorem dX12_uses_14 : decode cX12_uses 14 = .ok (.iload_n 1, 1) := by decide +kernel
theorem dX12_uses_15 : decode cX12_uses 15 = .ok (.iaload, 1) := by decide +kernel
theorem dX12_uses_16 : decode cX12_uses 16 = .ok (.goto 4, 3) := by decide +kernel
theorem dX12_uses_19 : decode cX12_uses 19 = .ok (.iconst (-1), 1) := by decide +kernel
theorem dX12_uses_20 : decode cX12_uses 20 = .ok (.ireturn, 1) := by decide +kernel
theorem dX12_about_0 : decode cX12_about 0 = .ok (.aload_n 0, 1) := by decide +kernel
theorem dX12_about_1 : decode cX12_about 1 = .ok (.iload_n 1, 1) := by decide +kernel
theorem dX12_about_2 : decode cX12_about 2 = .ok (.invokevirtual 141, 3) := by decide +kernel
theorem dX12_about_5 : decode cX12_about 5 = .ok (.ifCond .ne 5, 3) := by decide +kernel
theorem dX12_about_8 : decode cX12_about 8 = .ok (.iconst (-1), 1) := by decide +kernel
theorem dX12_about_9 : decode cX12_about 9 = .ok (.ireturn, 1) := by decide +kernel
theorem dX12_about_10 : decode cX12_about 10 = .ok (.iload_n 2, 1) := by decide +kernel
theorem dX12_about_11 : decode cX12_about 11 = .ok (.tableswitch 76 0 4 #[33, 40, 47, 54, 69], 33) := by decide +kernel
theorem dX12_about_44 : decode cX12_about 44 = .ok (.aload_n 0, 1) := by decide +kernel
theorem dX12_about_45 : decode cX12_about 45 = .ok (.getfield 20, 3) := by decide +kernel
theorem dX12_about_48 : decode cX12_about 48 = .ok (.iload_n 1, 1) := by decide +kernel
theorem dX12_about_49 : decode cX12_about 49 = .ok (.iaload, 1) := by decide +kernel
theorem dX12_about_50 : decode cX12_about 50 = .ok (.ireturn, 1) := by decide +kernel
theorem dX12_about_51 : decode cX12_about 51 = .ok (.aload_n 0, 1) := by decide +kernel
theorem dX12_about_52 : decode cX12_about 52 = .ok (.getfield 23, 3) := by decide +kernel
theorem dX12_about_55 : decode cX12_about 55 = .ok (.iload_n 1, 1) := by decide +kernel
theorem dX12_about_56 : decode cX12_about 56 = .ok (.iaload, 1) := by decide +kernel
theorem dX12_about_57 : decode cX12_about 57 = .ok (.ireturn, 1) := by decide +kernel
theorem dX12_about_58 : decode cX12_about 58 = .ok (.aload_n 0, 1) := by decide +kernel
theorem dX12_about_59 : decode cX12_about 59 = .ok (.getfield 26, 3) := by decide +kernel
theorem dX12_about_62 : decode cX12_about 62 = .ok (.iload_n 1, 1) := by decide +kernel
theorem dX12_about_63 : decode cX12_about 63 = .ok (.iaload, 1) := by decide +kernel
theorem dX12_about_64 : decode cX12_about 64 = .ok (.ireturn, 1) := by decide +kernel
theorem dX12_about_65 : decode cX12_about 65 = .ok (.aload_n 0, 1) := by decide +kernel
theorem dX12_about_66 : decode cX12_about 66 = .ok (.getfield 29, 3) := by decide +kernel
theorem dX12_about_69 : decode cX12_about 69 = .ok (.iload_n 1, 1) := by decide +kernel
theorem dX12_about_70 : decode cX12_about 70 = .ok (.baload, 1) := by decide +kernel
theorem dX12_about_71 : decode cX12_about 71 = .ok (.ifCond .eq 7, 3) := by decide +kernel
theorem dX12_about_74 : decode cX12_about 74 = .ok (.iconst 1, 1) := by decide +kernel
theorem dX12_about_75 : decode cX12_about 75 = .ok (.goto 4, 3) := by decide +kernel
theorem dX12_about_78 : decode cX12_about 78 = .ok (.iconst 0, 1) := by decide +kernel
theorem dX12_about_79 : decode cX12_about 79 = .ok (.ireturn, 1) := by decide +kernel
theorem dX12_about_80 : decode cX12_about 80 = .ok (.aload_n 0, 1) := by decide +kernel
theorem dX12_about_81 : decode cX12_about 81 = .ok (.getfield 16, 3) := by decide +kernel
theorem dX12_about_84 : decode cX12_about 84 = .ok (.iload_n 1, 1) := by decide +kernel
theorem dX12_about_85 : decode cX12_about 85 = .ok (.iaload, 1) := by decide +kernel
theorem dX12_about_86 : decode cX12_about 86 = .ok (.ireturn, 1) := by decide +kernel
theorem dX12_about_87 : decode cX12_about 87 = .ok (.iconst (-1), 1) := by decide +kernel
theorem dX12_about_88 : decode cX12_about 88 = .ok (.ireturn, 1) := by decide +kernel
theorem dX12_count_0 : decode cX12_count 0 = .ok (.iconst 0, 1) := by decide +kernel
theorem dX12_count_1 : decode cX12_count 1 = .ok (.istore_n 2, 1) := by decide +kernel
theorem dX12_count_2 : decode cX12_count 2 = .ok (.iload_n 1, 1) := by decide +kernel
theorem dX12_count_3 : decode cX12_count 3 = .ok (.tableswitch 137 0 7 #[45, 50, 55, 60, 65, 70, 75, 80], 45) := by decide +kernel
theorem dX12_count_48 : decode cX12_count 48 = .ok (.aload_n 0, 1) := by decide +kernel
theorem dX12_count_49 : decode cX12_count 49 = .ok (.getfield 131, 3) := by decide +kernel
theorem dX12_count_52 : decode cX12_count 52 = .ok (.ireturn, 1) := by decide +kernel
theorem dX12_count_53 : decode cX12_count 53 = .ok (.aload_n 0, 1) := by decide +kernel
theorem dX12_count_54 : decode cX12_count 54 = .ok (.getfield 138, 3) := by decide +kernel
theorem dX12_count_57 : decode cX12_count 57 = .ok (.ireturn, 1) := by decide +kernel
theorem dX12_count_58 : decode cX12_count 58 = .ok (.aload_n 0, 1) := by decide +kernel
theorem dX12_count_59 : decode cX12_count 59 = .ok (.getfield 120, 3) := by decide +kernel
theorem dX12_count_62 : decode cX12_count 62 = .ok (.ireturn, 1) := by decide +kernel
theorem dX12_count_63 : decode cX12_count 63 = .ok (.aload_n 0, 1) := by decide +kernel
theorem dX12_count_64 : decode cX12_count 64 = .ok (.getfield 169, 3) := by decide +kernel
theorem dX12_count_67 : decode cX12_count 67 = .ok (.ireturn, 1) := by decide +kernel
theorem dX12_count_68 : decode cX12_count 68 = .ok (.aload_n 0, 1) := by decide +kernel
theorem dX12_count_69 : decode cX12_count 69 = .ok (.getfield 155, 3) := by decide +kernel
theorem dX12_count_72 : decode cX12_count 72 = .ok (.ireturn, 1) := by decide +kernel
theorem dX12_count_73 : decode cX12_count 73 = .ok (.aload_n 0, 1) := by decide +kernel
theorem dX12_count_74 : decode cX12_count 74 = .ok (.getfield 250, 3) := by decide +kernel
theorem dX12_count_77 : decode cX12_count 77 = .ok (.ireturn, 1) := by decide +kernel
theorem dX12_count_78 : decode cX12_count 78 = .ok (.aload_n 0, 1) := by decide +kernel
theorem dX12_count_79 : decode cX12_count 79 = .ok (.getfield 63, 3) := by decide +kernel
theorem dX12_count_82 : decode cX12_count 82 = .ok (.ireturn, 1) := by decide +kernel
theorem dX12_count_83 : decode cX12_count 83 = .ok (.iconst 0, 1) := by decide +kernel
theorem dX12_count_84 : decode cX12_count 84 = .ok (.istore_n 3, 1) := by decide +kernel
theorem dX12_count_85 : decode cX12_count 85 = .ok (.iload_n 3, 1) := by decide +kernel
theorem dX12_count_86 : decode cX12_count 86 = .ok (.aload_n 0, 1) := by decide +kernel
theorem dX12_count_87 : decode cX12_count 87 = .ok (.getfield 155, 3) := by decide +kernel
theorem dX12_count_90 : decode cX12_count 90 = .ok (.if_icmp .ge 48, 3) := by decide +kernel
theorem dX12_count_93 : decode cX12_count 93 = .ok (.iload_n 2, 1) := by decide +kernel
theorem dX12_count_94 : decode cX12_count 94 = .ok (.aload_n 0, 1) := by decide +kernel
theorem dX12_count_95 : decode cX12_count 95 = .ok (.getfield 26, 3) := by decide +kernel
theorem dX12_count_98 : decode cX12_count 98 = .ok (.aload_n 0, 1) := by decide +kernel
theorem dX12_count_99 : decode cX12_count 99 = .ok (.getfield 67, 3) := by decide +kernel
theorem dX12_count_102 : decode cX12_count 102 = .ok (.iload_n 3, 1) := by decide +kernel
theorem dX12_count_103 : decode cX12_count 103 = .ok (.iaload, 1) := by decide +kernel
theorem dX12_count_104 : decode cX12_count 104 = .ok (.iaload, 1) := by decide +kernel
theorem dX12_count_105 : decode cX12_count 105 = .ok (.aload_n 0, 1) := by decide +kernel
theorem dX12_count_106 : decode cX12_count 106 = .ok (.getfield 70, 3) := by decide +kernel
theorem dX12_count_109 : decode cX12_count 109 = .ok (.iload_n 3, 1) := by decide +kernel
theorem dX12_count_110 : decode cX12_count 110 = .ok (.iaload, 1) := by decide +kernel
theorem dX12_count_111 : decode cX12_count 111 = .ok (.ifCond .ge 7, 3) := by decide +kernel
theorem dX12_count_114 : decode cX12_count 114 = .ok (.iconst 0, 1) := by decide +kernel
theorem dX12_count_115 : decode cX12_count 115 = .ok (.goto 14, 3) := by decide +kernel
theorem dX12_count_118 : decode cX12_count 118 = .ok (.aload_n 0, 1) := by decide +kernel
theorem dX12_count_119 : decode cX12_count 119 = .ok (.getfield 45, 3) := by decide +kernel
theorem dX12_count_122 : decode cX12_count 122 = .ok (.aload_n 0, 1) := by decide +kernel
theorem dX12_count_123 : decode cX12_count 123 = .ok (.getfield 70, 3) := by decide +kernel
theorem dX12_count_126 : decode cX12_count 126 = .ok (.iload_n 3, 1) := by decide +kernel
theorem dX12_count_127 : decode cX12_count 127 = .ok (.iaload, 1) := by decide +kernel
theorem dX12_count_128 : decode cX12_count 128 = .ok (.iaload, 1) := by decide +kernel
theorem dX12_count_129 : decode cX12_count 129 = .ok (.iadd, 1) := by decide +kernel
theorem dX12_count_130 : decode cX12_count 130 = .ok (.iadd, 1) := by decide +kernel
theorem dX12_count_131 : decode cX12_count 131 = .ok (.istore_n 2, 1) := by decide +kernel
theorem dX12_count_132 : decode cX12_count 132 = .ok (.iinc 3 1, 3) := by decide +kernel
theorem dX12_count_135 : decode cX12_count 135 = .ok (.goto (-50), 3) := by decide +kernel
theorem dX12_count_138 : decode cX12_count 138 = .ok (.iload_n 2, 1) := by decide +kernel
theorem dX12_count_139 : decode cX12_count 139 = .ok (.ireturn, 1) := by decide +kernel
theorem dX12_count_140 : decode cX12_count 140 = .ok (.iconst (-1), 1) := by decide +kernel
theorem dX12_count_141 : decode cX12_count 141 = .ok (.ireturn, 1) := by decide +kernel
