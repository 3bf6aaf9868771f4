theorem dX12_thrown_0 : decode cX12_thrown 0 = .ok (.aload_n 0, 1) := by decide +kernel
theorem dX12_thrown_1 : decode cX12_thrown 1 = .ok (.getfield 1, 3) := by decide +kernel
theorem dX12_thrown_4 : decode cX12_thrown 4 = .ok (.ireturn, 1) := by decide +kernel
theorem dX12_feed_0 : decode cX12_feed 0 = .ok (.aload_n 0, 1) := by decide +kernel
theorem dX12_feed_1 : decode cX12_feed 1 = .ok (.iconst 0, 1) := by decide +kernel
theorem dX12_feed_2 : decode cX12_feed 2 = .ok (.putfield 1, 3) := by decide +kernel
theorem dX12_feed_5 : decode cX12_feed 5 = .ok (.aload_n 0, 1) := by decide +kernel
theorem dX12_feed_6 : decode cX12_feed 6 = .ok (.lload_n 1, 1) := by decide +kernel
theorem dX12_feed_7 : decode cX12_feed 7 = .ok (.invokevirtual 7, 3) := by decide +kernel
theorem dX12_feed_10 : decode cX12_feed 10 = .ok (.aload_n 0, 1) := by decide +kernel
theorem dX12_feed_11 : decode cX12_feed 11 = .ok (.lload_n 3, 1) := by decide +kernel
theorem dX12_feed_12 : decode cX12_feed 12 = .ok (.invokevirtual 7, 3) := by decide +kernel
theorem dX12_feed_15 : decode cX12_feed 15 = .ok (.aload_n 0, 1) := by decide +kernel
theorem dX12_feed_16 : decode cX12_feed 16 = .ok (.lload 5, 2) := by decide +kernel
theorem dX12_feed_18 : decode cX12_feed 18 = .ok (.invokevirtual 7, 3) := by decide +kernel
theorem dX12_feed_21 : decode cX12_feed 21 = .ok (.aload_n 0, 1) := by decide +kernel
theorem dX12_feed_22 : decode cX12_feed 22 = .ok (.getfield 11, 3) := by decide +kernel
theorem dX12_feed_25 : decode cX12_feed 25 = .ok (.ireturn, 1) := by decide +kernel
theorem dX12_lay_0 : decode cX12_lay 0 = .ok (.bipush 56, 2) := by decide +kernel
theorem dX12_lay_2 : decode cX12_lay 2 = .ok (.istore_n 3, 1) := by decide +kernel
theorem dX12_lay_3 : decode cX12_lay 3 = .ok (.iload_n 3, 1) := by decide +kernel
theorem dX12_lay_4 : decode cX12_lay 4 = .ok (.ifCond .lt 71, 3) := by decide +kernel
theorem dX12_lay_7 : decode cX12_lay 7 = .ok (.lload_n 1, 1) := by decide +kernel
theorem dX12_lay_8 : decode cX12_lay 8 = .ok (.iload_n 3, 1) := by decide +kernel
theorem dX12_lay_9 : decode cX12_lay 9 = .ok (.lshr, 1) := by decide +kernel
theorem dX12_lay_10 : decode cX12_lay 10 = .ok (.l2i, 1) := by decide +kernel
theorem dX12_lay_11 : decode cX12_lay 11 = .ok (.sipush 255, 3) := by decide +kernel
theorem dX12_lay_14 : decode cX12_lay 14 = .ok (.iand, 1) := by decide +kernel
theorem dX12_lay_15 : decode cX12_lay 15 = .ok (.istore 4, 2) := by decide +kernel
theorem dX12_lay_17 : decode cX12_lay 17 = .ok (.iload 4, 2) := by decide +kernel
theorem dX12_lay_19 : decode cX12_lay 19 = .ok (.bipush 10, 2) := by decide +kernel
theorem dX12_lay_21 : decode cX12_lay 21 = .ok (.if_icmp .eq 17, 3) := by decide +kernel
theorem dX12_lay_24 : decode cX12_lay 24 = .ok (.iload 4, 2) := by decide +kernel
theorem dX12_lay_26 : decode cX12_lay 26 = .ok (.bipush 32, 2) := by decide +kernel
theorem dX12_lay_28 : decode cX12_lay 28 = .ok (.if_icmp .lt 41, 3) := by decide +kernel
theorem dX12_lay_31 : decode cX12_lay 31 = .ok (.iload 4, 2) := by decide +kernel
theorem dX12_lay_33 : decode cX12_lay 33 = .ok (.bipush 126, 2) := by decide +kernel
theorem dX12_lay_35 : decode cX12_lay 35 = .ok (.if_icmp .gt 34, 3) := by decide +kernel
theorem dX12_lay_38 : decode cX12_lay 38 = .ok (.aload_n 0, 1) := by decide +kernel
theorem dX12_lay_39 : decode cX12_lay 39 = .ok (.getfield 11, 3) := by decide +kernel
theorem dX12_lay_42 : decode cX12_lay 42 = .ok (.sipush 1000, 3) := by decide +kernel
theorem dX12_lay_45 : decode cX12_lay 45 = .ok (.if_icmp .ge 24, 3) := by decide +kernel
theorem dX12_lay_48 : decode cX12_lay 48 = .ok (.aload_n 0, 1) := by decide +kernel
theorem dX12_lay_49 : decode cX12_lay 49 = .ok (.getfield 14, 3) := by decide +kernel
theorem dX12_lay_52 : decode cX12_lay 52 = .ok (.aload_n 0, 1) := by decide +kernel
theorem dX12_lay_53 : decode cX12_lay 53 = .ok (.getfield 11, 3) := by decide +kernel
theorem dX12_lay_56 : decode cX12_lay 56 = .ok (.iload 4, 2) := by decide +kernel
theorem dX12_lay_58 : decode cX12_lay 58 = .ok (.iastore, 1) := by decide +kernel
theorem dX12_lay_59 : decode cX12_lay 59 = .ok (.aload_n 0, 1) := by decide +kernel
theorem dX12_lay_60 : decode cX12_lay 60 = .ok (.dup, 1) := by decide +kernel
theorem dX12_lay_61 : decode cX12_lay 61 = .ok (.getfield 11, 3) := by decide +kernel
theorem dX12_lay_64 : decode cX12_lay 64 = .ok (.iconst 1, 1) := by decide +kernel
theorem dX12_lay_65 : decode cX12_lay 65 = .ok (.iadd, 1) := by decide +kernel
theorem dX12_lay_66 : decode cX12_lay 66 = .ok (.putfield 11, 3) := by decide +kernel
theorem dX12_lay_69 : decode cX12_lay 69 = .ok (.iinc 3 (-8), 3) := by decide +kernel
theorem dX12_lay_72 : decode cX12_lay 72 = .ok (.goto (-69), 3) := by decide +kernel
theorem dX12_lay_75 : decode cX12_lay 75 = .ok (.return_, 1) := by decide +kernel
theorem dX12_init_0 : decode cX12_init 0 = .ok (.aload_n 0, 1) := by decide +kernel
theorem dX12_init_1 : decode cX12_init 1 = .ok (.invokespecial 18, 3) := by decide +kernel
theorem dX12_init_4 : decode cX12_init 4 = .ok (.aload_n 0, 1) := by decide +kernel
theorem dX12_init_5 : decode cX12_init 5 = .ok (.sipush 1000, 3) := by decide +kernel
theorem dX12_init_8 : decode cX12_init 8 = .ok (.newarray .int, 2) := by decide +kernel
theorem dX12_init_10 : decode cX12_init 10 = .ok (.putfield 14, 3) := by decide +kernel
theorem dX12_init_13 : decode cX12_init 13 = .ok (.aload_n 0, 1) := by decide +kernel
theorem dX12_init_14 : decode cX12_init 14 = .ok (.sipush 1002, 3) := by decide +kernel
theorem dX12_init_17 : decode cX12_init 17 = .ok (.newarray .int, 2) := by decide +kernel
theorem dX12_init_19 : decode cX12_init 19 = .ok (.putfield 24, 3) := by decide +kernel
theorem dX12_init_22 : decode cX12_init 22 = .ok (.aload_n 0, 1) := by decide +kernel
theorem dX12_init_23 : decode cX12_init 23 = .ok (.sipush 1002, 3) := by decide +kernel
theorem dX12_init_26 : decode cX12_init 26 = .ok (.newarray .int, 2) := by decide +kernel
theorem dX12_init_28 : decode cX12_init 28 = .ok (.putfield 27, 3) := by decide +kernel
theorem dX12_init_31 : decode cX12_init 31 = .ok (.aload_n 0, 1) := by decide +kernel
theorem dX12_init_32 : decode cX12_init 32 = .ok (.sipush 1002, 3) := by decide +kernel
theorem dX12_init_35 : decode cX12_init 35 = .ok (.newarray .long, 2) := by decide +kernel
theorem dX12_init_37 : decode cX12_init 37 = .ok (.putfield 30, 3) := by decide +kernel
theorem dX12_init_40 : decode cX12_init 40 = .ok (.aload_n 0, 1) := by decide +kernel
theorem dX12_init_41 : decode cX12_init 41 = .ok (.bipush 17, 2) := by decide +kernel
theorem dX12_init_43 : decode cX12_init 43 = .ok (.newarray .long, 2) := by decide +kernel
theorem dX12_init_45 : decode cX12_init 45 = .ok (.dup, 1) := by decide +kernel
theorem dX12_init_46 : decode cX12_init 46 = .ok (.iconst 0, 1) := by decide +kernel
theorem dX12_init_47 : decode cX12_init 47 = .ok (.ldc2_w 34, 3) := by decide +kernel
theorem dX12_init_50 : decode cX12_init 50 = .ok (.lastore, 1) := by decide +kernel
theorem dX12_init_51 : decode cX12_init 51 = .ok (.dup, 1) := by decide +kernel
theorem dX12_init_52 : decode cX12_init 52 = .ok (.iconst 1, 1) := by decide +kernel
theorem dX12_init_53 : decode cX12_init 53 = .ok (.ldc2_w 36, 3) := by decide +kernel
theorem dX12_init_56 : decode cX12_init 56 = .ok (.lastore, 1) := by decide +kernel
theorem dX12_init_57 : decode cX12_init 57 = .ok (.dup, 1) := by decide +kernel
theorem dX12_init_58 : decode cX12_init 58 = .ok (.iconst 2, 1) := by decide +kernel
theorem dX12_init_59 : decode cX12_init 59 = .ok (.ldc2_w 38, 3) := by decide +kernel
theorem dX12_init_62 : decode cX12_init 62 = .ok (.lastore, 1) := by decide +kernel
theorem dX12_init_63 : decode cX12_init 63 = .ok (.dup, 1) := by decide +kernel
theorem dX12_init_64 : decode cX12_init 64 = .ok (.iconst 3, 1) := by decide +kernel
theorem dX12_init_65 : decode cX12_init 65 = .ok (.ldc2_w 40, 3) := by decide +kernel
theorem dX12_init_68 : decode cX12_init 68 = .ok (.lastore, 1) := by decide +kernel
theorem dX12_init_69 : decode cX12_init 69 = .ok (.dup, 1) := by decide +kernel
theorem dX12_init_70 : decode cX12_init 70 = .ok (.iconst 4, 1) := by decide +kernel
theorem dX12_init_71 : decode cX12_init 71 = .ok (.ldc2_w 42, 3) := by decide +kernel
theorem dX12_init_74 : decode cX12_init 74 = .ok (.lastore, 1) := by decide +kernel
theorem dX12_init_75 : decode cX12_init 75 = .ok (.dup, 1) := by decide +kernel
theorem dX12_init_76 : decode cX12_init 76 = .ok (.iconst 5, 1) := by decide +kernel
theorem dX12_init_77 : decode cX12_init 77 = .ok (.ldc2_w 44, 3) := by decide +kernel
theorem dX12_init_80 : decode cX12_init 80 = .ok (.lastore, 1) := by decide +kernel
theorem dX12_init_81 : decode cX12_init 81 = .ok (.dup, 1) := by decide +kernel
theorem dX12_init_82 : decode cX12_init 82 = .ok (.bipush 6, 2) := by decide +kernel
theorem dX12_init_84 : decode cX12_init 84 = .ok (.ldc2_w 46, 3) := by decide +kernel
theorem dX12_init_87 : decode cX12_init 87 = .ok (.lastore, 1) := by decide +kernel
theorem dX12_init_88 : decode cX12_init 88 = .ok (.dup, 1) := by decide +kernel
theorem dX12_init_89 : decode cX12_init 89 = .ok (.bipush 7, 2) := by decide +kernel
theorem dX12_init_91 : decode cX12_init 91 = .ok (.ldc2_w 48, 3) := by decide +kernel
theorem dX12_init_94 : decode cX12_init 94 = .ok (.lastore, 1) := by decide +kernel
theorem dX12_init_95 : decode cX12_init 95 = .ok (.dup, 1) := by decide +kernel
theorem dX12_init_96 : decode cX12_init 96 = .ok (.bipush 8, 2) := by decide +kernel
theorem dX12_init_98 : decode cX12_init 98 = .ok (.ldc2_w 50, 3) := by decide +kernel
theorem dX12_init_101 : decode cX12_init 101 = .ok (.lastore, 1) := by decide +kernel
theorem dX12_init_102 : decode cX12_init 102 = .ok (.dup, 1) := by decide +kernel
theorem dX12_init_103 : decode cX12_init 103 = .ok (.bipush 9, 2) := by decide +kernel
theorem dX12_init_105 : decode cX12_init 105 = .ok (.ldc2_w 52, 3) := by decide +kernel
theorem dX12_init_108 : decode cX12_init 108 = .ok (.lastore, 1) := by decide +kernel
theorem dX12_init_109 : decode cX12_init 109 = .ok (.dup, 1) := by decide +kernel
theorem dX12_init_110 : decode cX12_init 110 = .ok (.bipush 10, 2) := by decide +kernel
theorem dX12_init_112 : decode cX12_init 112 = .ok (.ldc2_w 54, 3) := by decide +kernel
theorem dX12_init_115 : decode cX12_init 115 = .ok (.lastore, 1) := by decide +kernel
theorem dX12_init_116 : decode cX12_init 116 = .ok (.dup, 1) := by decide +kernel
theorem dX12_init_117 : decode cX12_init 117 = .ok (.bipush 11, 2) := by decide +kernel
theorem dX12_init_119 : decode cX12_init 119 = .ok (.ldc2_w 56, 3) := by decide +kernel
theorem dX12_init_122 : decode cX12_init 122 = .ok (.lastore, 1) := by decide +kernel
theorem dX12_init_123 : decode cX12_init 123 = .ok (.dup, 1) := by decide +kernel
theorem dX12_init_124 : decode cX12_init 124 = .ok (.bipush 12, 2) := by decide +kernel
theorem dX12_init_126 : decode cX12_init 126 = .ok (.ldc2_w 58, 3) := by decide +kernel
theorem dX12_init_129 : decode cX12_init 129 = .ok (.lastore, 1) := by decide +kernel
theorem dX12_init_130 : decode cX12_init 130 = .ok (.dup, 1) := by decide +kernel
theorem dX12_init_131 : decode cX12_init 131 = .ok (.bipush 13, 2) := by decide +kernel
theorem dX12_init_133 : decode cX12_init 133 = .ok (.ldc2_w 60, 3) := by decide +kernel
theorem dX12_init_136 : decode cX12_init 136 = .ok (.lastore, 1) := by decide +kernel
theorem dX12_init_137 : decode cX12_init 137 = .ok (.dup, 1) := by decide +kernel
theorem dX12_init_138 : decode cX12_init 138 = .ok (.bipush 14, 2) := by decide +kernel
theorem dX12_init_140 : decode cX12_init 140 = .ok (.ldc2_w 62, 3) := by decide +kernel
theorem dX12_init_143 : decode cX12_init 143 = .ok (.lastore, 1) := by decide +kernel
theorem dX12_init_144 : decode cX12_init 144 = .ok (.dup, 1) := by decide +kernel
theorem dX12_init_145 : decode cX12_init 145 = .ok (.bipush 15, 2) := by decide +kernel
theorem dX12_init_147 : decode cX12_init 147 = .ok (.ldc2_w 64, 3) := by decide +kernel
theorem dX12_init_150 : decode cX12_init 150 = .ok (.lastore, 1) := by decide +kernel
theorem dX12_init_151 : decode cX12_init 151 = .ok (.dup, 1) := by decide +kernel
theorem dX12_init_152 : decode cX12_init 152 = .ok (.bipush 16, 2) := by decide +kernel
theorem dX12_init_154 : decode cX12_init 154 = .ok (.ldc2_w 66, 3) := by decide +kernel
theorem dX12_init_157 : decode cX12_init 157 = .ok (.lastore, 1) := by decide +kernel
theorem dX12_init_158 : decode cX12_init 158 = .ok (.putfield 68, 3) := by decide +kernel
theorem dX12_init_161 : decode cX12_init 161 = .ok (.aload_n 0, 1) := by decide +kernel
theorem dX12_init_162 : decode cX12_init 162 = .ok (.sipush 1100, 3) := by decide +kernel
theorem dX12_init_165 : decode cX12_init 165 = .ok (.newarray .int, 2) := by decide +kernel
theorem dX12_init_167 : decode cX12_init 167 = .ok (.putfield 71, 3) := by decide +kernel
theorem dX12_init_170 : decode cX12_init 170 = .ok (.aload_n 0, 1) := by decide +kernel
theorem dX12_init_171 : decode cX12_init 171 = .ok (.sipush 5500, 3) := by decide +kernel
theorem dX12_init_174 : decode cX12_init 174 = .ok (.newarray .int, 2) := by decide +kernel
theorem dX12_init_176 : decode cX12_init 176 = .ok (.putfield 74, 3) := by decide +kernel
theorem dX12_init_179 : decode cX12_init 179 = .ok (.aload_n 0, 1) := by decide +kernel
theorem dX12_init_180 : decode cX12_init 180 = .ok (.sipush 1100, 3) := by decide +kernel
theorem dX12_init_183 : decode cX12_init 183 = .ok (.newarray .int, 2) := by decide +kernel
theorem dX12_init_185 : decode cX12_init 185 = .ok (.putfield 77, 3) := by decide +kernel
theorem dX12_init_188 : decode cX12_init 188 = .ok (.aload_n 0, 1) := by decide +kernel
theorem dX12_init_189 : decode cX12_init 189 = .ok (.bipush 30, 2) := by decide +kernel
theorem dX12_init_191 : decode cX12_init 191 = .ok (.newarray .long, 2) := by decide +kernel
theorem dX12_init_193 : decode cX12_init 193 = .ok (.putfield 80, 3) := by decide +kernel
theorem dX12_init_196 : decode cX12_init 196 = .ok (.aload_n 0, 1) := by decide +kernel
theorem dX12_init_197 : decode cX12_init 197 = .ok (.bipush 30, 2) := by decide +kernel
theorem dX12_init_199 : decode cX12_init 199 = .ok (.newarray .int, 2) := by decide +kernel
theorem dX12_init_201 : decode cX12_init 201 = .ok (.putfield 83, 3) := by decide +kernel
theorem dX12_init_204 : decode cX12_init 204 = .ok (.aload_n 0, 1) := by decide +kernel
theorem dX12_init_205 : decode cX12_init 205 = .ok (.sipush 4368, 3) := by decide +kernel
theorem dX12_init_208 : decode cX12_init 208 = .ok (.newarray .int, 2) := by decide +kernel
theorem dX12_init_210 : decode cX12_init 210 = .ok (.putfield 86, 3) := by decide +kernel
theorem dX12_init_213 : decode cX12_init 213 = .ok (.aload_n 0, 1) := by decide +kernel
theorem dX12_init_214 : decode cX12_init 214 = .ok (.sipush 4368, 3) := by decide +kernel
theorem dX12_init_217 : decode cX12_init 217 = .ok (.newarray .int, 2) := by decide +kernel
theorem dX12_init_219 : decode cX12_init 219 = .ok (.putfield 89, 3) := by decide +kernel
theorem dX12_init_222 : decode cX12_init 222 = .ok (.aload_n 0, 1) := by decide +kernel
theorem dX12_init_223 : decode cX12_init 223 = .ok (.sipush 4368, 3) := by decide +kernel
theorem dX12_init_226 : decode cX12_init 226 = .ok (.newarray .int, 2) := by decide +kernel
theorem dX12_init_228 : decode cX12_init 228 = .ok (.putfield 92, 3) := by decide +kernel
theorem dX12_init_231 : decode cX12_init 231 = .ok (.aload_n 0, 1) := by decide +kernel
theorem dX12_init_232 : decode cX12_init 232 = .ok (.sipush 364, 3) := by decide +kernel
theorem dX12_init_235 : decode cX12_init 235 = .ok (.newarray .int, 2) := by decide +kernel
theorem dX12_init_237 : decode cX12_init 237 = .ok (.putfield 95, 3) := by decide +kernel
theorem dX12_init_240 : decode cX12_init 240 = .ok (.aload_n 0, 1) := by decide +kernel
theorem dX12_init_241 : decode cX12_init 241 = .ok (.bipush 112, 2) := by decide +kernel
theorem dX12_init_243 : decode cX12_init 243 = .ok (.newarray .int, 2) := by decide +kernel
theorem dX12_init_245 : decode cX12_init 245 = .ok (.putfield 98, 3) := by decide +kernel
theorem dX12_init_248 : decode cX12_init 248 = .ok (.aload_n 0, 1) := by decide +kernel
theorem dX12_init_249 : decode cX12_init 249 = .ok (.bipush 112, 2) := by decide +kernel
theorem dX12_init_251 : decode cX12_init 251 = .ok (.newarray .int, 2) := by decide +kernel
theorem dX12_init_253 : decode cX12_init 253 = .ok (.putfield 101, 3) := by decide +kernel
theorem dX12_init_256 : decode cX12_init 256 = .ok (.aload_n 0, 1) := by decide +kernel
theorem dX12_init_257 : decode cX12_init 257 = .ok (.bipush 112, 2) := by decide +kernel
theorem dX12_init_259 : decode cX12_init 259 = .ok (.newarray .int, 2) := by decide +kernel
theorem dX12_init_261 : decode cX12_init 261 = .ok (.putfield 104, 3) := by decide +kernel
theorem dX12_init_264 : decode cX12_init 264 = .ok (.aload_n 0, 1) := by decide +kernel
theorem dX12_init_265 : decode cX12_init 265 = .ok (.sipush 312, 3) := by decide +kernel
theorem dX12_init_268 : decode cX12_init 268 = .ok (.newarray .int, 2) := by decide +kernel
theorem dX12_init_270 : decode cX12_init 270 = .ok (.putfield 107, 3) := by decide +kernel
theorem dX12_init_273 : decode cX12_init 273 = .ok (.aload_n 0, 1) := by decide +kernel
theorem dX12_init_274 : decode cX12_init 274 = .ok (.sipush 156, 3) := by decide +kernel
theorem dX12_init_277 : decode cX12_init 277 = .ok (.newarray .int, 2) := by decide +kernel
theorem dX12_init_279 : decode cX12_init 279 = .ok (.putfield 110, 3) := by decide +kernel
theorem dX12_init_282 : decode cX12_init 282 = .ok (.aload_n 0, 1) := by decide +kernel
theorem dX12_init_283 : decode cX12_init 283 = .ok (.bipush 100, 2) := by decide +kernel
theorem dX12_init_285 : decode cX12_init 285 = .ok (.newarray .int, 2) := by decide +kernel
theorem dX12_init_287 : decode cX12_init 287 = .ok (.putfield 113, 3) := by decide +kernel
theorem dX12_init_290 : decode cX12_init 290 = .ok (.aload_n 0, 1) := by decide +kernel
theorem dX12_init_291 : decode cX12_init 291 = .ok (.sipush 4000, 3) := by decide +kernel
theorem dX12_init_294 : decode cX12_init 294 = .ok (.newarray .long, 2) := by decide +kernel
theorem dX12_init_296 : decode cX12_init 296 = .ok (.putfield 116, 3) := by decide +kernel
theorem dX12_init_299 : decode cX12_init 299 = .ok (.aload_n 0, 1) := by decide +kernel
theorem dX12_init_300 : decode cX12_init 300 = .ok (.sipush 4000, 3) := by decide +kernel
theorem dX12_init_303 : decode cX12_init 303 = .ok (.newarray .long, 2) := by decide +kernel
theorem dX12_init_305 : decode cX12_init 305 = .ok (.putfield 119, 3) := by decide +kernel
theorem dX12_init_308 : decode cX12_init 308 = .ok (.aload_n 0, 1) := by decide +kernel
theorem dX12_init_309 : decode cX12_init 309 = .ok (.sipush 4000, 3) := by decide +kernel
theorem dX12_init_312 : decode cX12_init 312 = .ok (.newarray .int, 2) := by decide +kernel
theorem dX12_init_314 : decode cX12_init 314 = .ok (.putfield 122, 3) := by decide +kernel
theorem dX12_init_317 : decode cX12_init 317 = .ok (.aload_n 0, 1) := by decide +kernel
theorem dX12_init_318 : decode cX12_init 318 = .ok (.sipush 4000, 3) := by decide +kernel
theorem dX12_init_321 : decode cX12_init 321 = .ok (.newarray .int, 2) := by decide +kernel
theorem dX12_init_323 : decode cX12_init 323 = .ok (.putfield 125, 3) := by decide +kernel
theorem dX12_init_326 : decode cX12_init 326 = .ok (.aload_n 0, 1) := by decide +kernel
theorem dX12_init_327 : decode cX12_init 327 = .ok (.sipush 8192, 3) := by decide +kernel
theorem dX12_init_330 : decode cX12_init 330 = .ok (.newarray .int, 2) := by decide +kernel
theorem dX12_init_332 : decode cX12_init 332 = .ok (.putfield 128, 3) := by decide +kernel
theorem dX12_init_335 : decode cX12_init 335 = .ok (.aload_n 0, 1) := by decide +kernel
theorem dX12_init_336 : decode cX12_init 336 = .ok (.iconst 4, 1) := by decide +kernel
theorem dX12_init_337 : decode cX12_init 337 = .ok (.newarray .boolean, 2) := by decide +kernel
theorem dX12_init_339 : decode cX12_init 339 = .ok (.putfield 131, 3) := by decide +kernel
theorem dX12_init_342 : decode cX12_init 342 = .ok (.aload_n 0, 1) := by decide +kernel
theorem dX12_init_343 : decode cX12_init 343 = .ok (.sipush 3001, 3) := by decide +kernel
theorem dX12_init_346 : decode cX12_init 346 = .ok (.newarray .int, 2) := by decide +kernel
theorem dX12_init_348 : decode cX12_init 348 = .ok (.putfield 135, 3) := by decide +kernel
theorem dX12_init_351 : decode cX12_init 351 = .ok (.aload_n 0, 1) := by decide +kernel
theorem dX12_init_352 : decode cX12_init 352 = .ok (.bipush 12, 2) := by decide +kernel
theorem dX12_init_354 : decode cX12_init 354 = .ok (.newarray .int, 2) := by decide +kernel
theorem dX12_init_356 : decode cX12_init 356 = .ok (.putfield 138, 3) := by decide +kernel
theorem dX12_init_359 : decode cX12_init 359 = .ok (.aload_n 0, 1) := by decide +kernel
theorem dX12_init_360 : decode cX12_init 360 = .ok (.bipush 12, 2) := by decide +kernel
theorem dX12_init_362 : decode cX12_init 362 = .ok (.newarray .int, 2) := by decide +kernel
theorem dX12_init_364 : decode cX12_init 364 = .ok (.putfield 141, 3) := by decide +kernel
theorem dX12_init_367 : decode cX12_init 367 = .ok (.aload_n 0, 1) := by decide +kernel
theorem dX12_init_368 : decode cX12_init 368 = .ok (.bipush 60, 2) := by decide +kernel
theorem dX12_init_370 : decode cX12_init 370 = .ok (.newarray .int, 2) := by decide +kernel
theorem dX12_init_372 : decode cX12_init 372 = .ok (.putfield 144, 3) := by decide +kernel
theorem dX12_init_375 : decode cX12_init 375 = .ok (.aload_n 0, 1) := by decide +kernel
theorem dX12_init_376 : decode cX12_init 376 = .ok (.bipush 60, 2) := by decide +kernel
theorem dX12_init_378 : decode cX12_init 378 = .ok (.newarray .int, 2) := by decide +kernel
theorem dX12_init_380 : decode cX12_init 380 = .ok (.putfield 147, 3) := by decide +kernel
theorem dX12_init_383 : decode cX12_init 383 = .ok (.aload_n 0, 1) := by decide +kernel
theorem dX12_init_384 : decode cX12_init 384 = .ok (.sipush 157, 3) := by decide +kernel
theorem dX12_init_387 : decode cX12_init 387 = .ok (.newarray .int, 2) := by decide +kernel
theorem dX12_init_389 : decode cX12_init 389 = .ok (.putfield 150, 3) := by decide +kernel
theorem dX12_init_392 : decode cX12_init 392 = .ok (.aload_n 0, 1) := by decide +kernel
theorem dX12_init_393 : decode cX12_init 393 = .ok (.sipush 628, 3) := by decide +kernel
theorem dX12_init_396 : decode cX12_init 396 = .ok (.newarray .int, 2) := by decide +kernel
theorem dX12_init_398 : decode cX12_init 398 = .ok (.putfield 153, 3) := by decide +kernel
theorem dX12_init_401 : decode cX12_init 401 = .ok (.iconst 0, 1) := by decide +kernel
theorem dX12_init_402 : decode cX12_init 402 = .ok (.istore_n 1, 1) := by decide +kernel
theorem dX12_init_403 : decode cX12_init 403 = .ok (.iload_n 1, 1) := by decide +kernel
theorem dX12_init_404 : decode cX12_init 404 = .ok (.bipush 13, 2) := by decide +kernel
theorem dX12_init_406 : decode cX12_init 406 = .ok (.if_icmp .ge 16, 3) := by decide +kernel
theorem dX12_init_409 : decode cX12_init 409 = .ok (.aload_n 0, 1) := by decide +kernel
theorem dX12_init_410 : decode cX12_init 410 = .ok (.getfield 95, 3) := by decide +kernel
theorem dX12_init_413 : decode cX12_init 413 = .ok (.iload_n 1, 1) := by decide +kernel
theorem dX12_init_414 : decode cX12_init 414 = .ok (.iconst (-1), 1) := by decide +kernel
theorem dX12_init_415 : decode cX12_init 415 = .ok (.iastore, 1) := by decide +kernel
theorem dX12_init_416 : decode cX12_init 416 = .ok (.iinc 1 1, 3) := by decide +kernel
theorem dX12_init_419 : decode cX12_init 419 = .ok (.goto (-16), 3) := by decide +kernel
theorem dX12_init_422 : decode cX12_init 422 = .ok (.iconst 0, 1) := by decide +kernel
theorem dX12_init_423 : decode cX12_init 423 = .ok (.istore_n 1, 1) := by decide +kernel
theorem dX12_init_424 : decode cX12_init 424 = .ok (.iload_n 1, 1) := by decide +kernel
theorem dX12_init_425 : decode cX12_init 425 = .ok (.iconst 4, 1) := by decide +kernel
theorem dX12_init_426 : decode cX12_init 426 = .ok (.if_icmp .ge 27, 3) := by decide +kernel
theorem dX12_init_429 : decode cX12_init 429 = .ok (.aload_n 0, 1) := by decide +kernel
theorem dX12_init_430 : decode cX12_init 430 = .ok (.getfield 98, 3) := by decide +kernel
theorem dX12_init_433 : decode cX12_init 433 = .ok (.iload_n 1, 1) := by decide +kernel
theorem dX12_init_434 : decode cX12_init 434 = .ok (.iconst 3, 1) := by decide +kernel
theorem dX12_init_435 : decode cX12_init 435 = .ok (.iload_n 1, 1) := by decide +kernel
theorem dX12_init_436 : decode cX12_init 436 = .ok (.imul, 1) := by decide +kernel
theorem dX12_init_437 : decode cX12_init 437 = .ok (.iconst 1, 1) := by decide +kernel
theorem dX12_init_438 : decode cX12_init 438 = .ok (.iadd, 1) := by decide +kernel
theorem dX12_init_439 : decode cX12_init 439 = .ok (.iastore, 1) := by decide +kernel
theorem dX12_init_440 : decode cX12_init 440 = .ok (.aload_n 0, 1) := by decide +kernel
theorem dX12_init_441 : decode cX12_init 441 = .ok (.getfield 101, 3) := by decide +kernel
theorem dX12_init_444 : decode cX12_init 444 = .ok (.iload_n 1, 1) := by decide +kernel
theorem dX12_init_445 : decode cX12_init 445 = .ok (.iload_n 1, 1) := by decide +kernel
theorem dX12_init_446 : decode cX12_init 446 = .ok (.iastore, 1) := by decide +kernel
theorem dX12_init_447 : decode cX12_init 447 = .ok (.iinc 1 1, 3) := by decide +kernel
theorem dX12_init_450 : decode cX12_init 450 = .ok (.goto (-26), 3) := by decide +kernel
theorem dX12_init_453 : decode cX12_init 453 = .ok (.return_, 1) := by decide +kernel
theorem dX12_isLetter_0 : decode cX12_isLetter 0 = .ok (.iload_n 0, 1) := by decide +kernel
theorem dX12_isLetter_1 : decode cX12_isLetter 1 = .ok (.bipush 97, 2) := by decide +kernel
theorem dX12_isLetter_3 : decode cX12_isLetter 3 = .ok (.if_icmp .lt 13, 3) := by decide +kernel
theorem dX12_isLetter_6 : decode cX12_isLetter 6 = .ok (.iload_n 0, 1) := by decide +kernel
theorem dX12_isLetter_7 : decode cX12_isLetter 7 = .ok (.bipush 122, 2) := by decide +kernel
theorem dX12_isLetter_9 : decode cX12_isLetter 9 = .ok (.if_icmp .gt 7, 3) := by decide +kernel
theorem dX12_isLetter_12 : decode cX12_isLetter 12 = .ok (.iconst 1, 1) := by decide +kernel
theorem dX12_isLetter_13 : decode cX12_isLetter 13 = .ok (.goto 4, 3) := by decide +kernel
theorem dX12_isLetter_16 : decode cX12_isLetter 16 = .ok (.iconst 0, 1) := by decide +kernel
theorem dX12_isLetter_17 : decode cX12_isLetter 17 = .ok (.ireturn, 1) := by decide +kernel
theorem dX12_isDigit_0 : decode cX12_isDigit 0 = .ok (.iload_n 0, 1) := by decide +kernel
theorem dX12_isDigit_1 : decode cX12_isDigit 1 = .ok (.bipush 48, 2) := by decide +kernel
theorem dX12_isDigit_3 : decode cX12_isDigit 3 = .ok (.if_icmp .lt 13, 3) := by decide +kernel
theorem dX12_isDigit_6 : decode cX12_isDigit 6 = .ok (.iload_n 0, 1) := by decide +kernel
theorem dX12_isDigit_7 : decode cX12_isDigit 7 = .ok (.bipush 57, 2) := by decide +kernel
theorem dX12_isDigit_9 : decode cX12_isDigit 9 = .ok (.if_icmp .gt 7, 3) := by decide +kernel
theorem dX12_isDigit_12 : decode cX12_isDigit 12 = .ok (.iconst 1, 1) := by decide +kernel
theorem dX12_isDigit_13 : decode cX12_isDigit 13 = .ok (.goto 4, 3) := by decide +kernel
theorem dX12_isDigit_16 : decode cX12_isDigit 16 = .ok (.iconst 0, 1) := by decide +kernel
theorem dX12_isDigit_17 : decode cX12_isDigit 17 = .ok (.ireturn, 1) := by decide +kernel
theorem dX12_rank_0 : decode cX12_rank 0 = .ok (.iload_n 0, 1) := by decide +kernel
theorem dX12_rank_1 : decode cX12_rank 1 = .ok (.invokestatic 156, 3) := by decide +kernel
theorem dX12_rank_4 : decode cX12_rank 4 = .ok (.ifCond .eq 10, 3) := by decide +kernel
theorem dX12_rank_7 : decode cX12_rank 7 = .ok (.iload_n 0, 1) := by decide +kernel
theorem dX12_rank_8 : decode cX12_rank 8 = .ok (.bipush 96, 2) := by decide +kernel
theorem dX12_rank_10 : decode cX12_rank 10 = .ok (.isub, 1) := by decide +kernel
theorem dX12_rank_11 : decode cX12_rank 11 = .ok (.goto 7, 3) := by decide +kernel
theorem dX12_rank_14 : decode cX12_rank 14 = .ok (.iload_n 0, 1) := by decide +kernel
theorem dX12_rank_15 : decode cX12_rank 15 = .ok (.bipush 21, 2) := by decide +kernel
theorem dX12_rank_17 : decode cX12_rank 17 = .ok (.isub, 1) := by decide +kernel
theorem dX12_rank_18 : decode cX12_rank 18 = .ok (.ireturn, 1) := by decide +kernel
theorem dX12_isSignOf_0 : decode cX12_isSignOf 0 = .ok (.iload_n 0, 1) := by decide +kernel
theorem dX12_isSignOf_1 : decode cX12_isSignOf 1 = .ok (.bipush 40, 2) := by decide +kernel
theorem dX12_isSignOf_3 : decode cX12_isSignOf 3 = .ok (.if_icmp .eq 21, 3) := by decide +kernel
theorem dX12_isSignOf_6 : decode cX12_isSignOf 6 = .ok (.iload_n 0, 1) := by decide +kernel
theorem dX12_isSignOf_7 : decode cX12_isSignOf 7 = .ok (.bipush 41, 2) := by decide +kernel
theorem dX12_isSignOf_9 : decode cX12_isSignOf 9 = .ok (.if_icmp .eq 15, 3) := by decide +kernel
theorem dX12_isSignOf_12 : decode cX12_isSignOf 12 = .ok (.iload_n 0, 1) := by decide +kernel
theorem dX12_isSignOf_13 : decode cX12_isSignOf 13 = .ok (.bipush 59, 2) := by decide +kernel
theorem dX12_isSignOf_15 : decode cX12_isSignOf 15 = .ok (.if_icmp .eq 9, 3) := by decide +kernel
theorem dX12_isSignOf_18 : decode cX12_isSignOf 18 = .ok (.iload_n 0, 1) := by decide +kernel
theorem dX12_isSignOf_19 : decode cX12_isSignOf 19 = .ok (.bipush 45, 2) := by decide +kernel
theorem dX12_isSignOf_21 : decode cX12_isSignOf 21 = .ok (.if_icmp .ne 7, 3) := by decide +kernel
theorem dX12_isSignOf_24 : decode cX12_isSignOf 24 = .ok (.iconst 1, 1) := by decide +kernel
theorem dX12_isSignOf_25 : decode cX12_isSignOf 25 = .ok (.goto 4, 3) := by decide +kernel
theorem dX12_isSignOf_28 : decode cX12_isSignOf 28 = .ok (.iconst 0, 1) := by decide +kernel
theorem dX12_isSignOf_29 : decode cX12_isSignOf 29 = .ok (.ireturn, 1) := by decide +kernel
theorem dX12_cutAll_0 : decode cX12_cutAll 0 = .ok (.aload_n 0, 1) := by decide +kernel
theorem dX12_cutAll_1 : decode cX12_cutAll 1 = .ok (.aload_n 0, 1) := by decide +kernel
theorem dX12_cutAll_2 : decode cX12_cutAll 2 = .ok (.getfield 11, 3) := by decide +kernel
theorem dX12_cutAll_5 : decode cX12_cutAll 5 = .ok (.putfield 160, 3) := by decide +kernel
theorem dX12_cutAll_8 : decode cX12_cutAll 8 = .ok (.aload_n 0, 1) := by decide +kernel
theorem dX12_cutAll_9 : decode cX12_cutAll 9 = .ok (.iconst 0, 1) := by decide +kernel
theorem dX12_cutAll_10 : decode cX12_cutAll 10 = .ok (.putfield 11, 3) := by decide +kernel
theorem dX12_cutAll_13 : decode cX12_cutAll 13 = .ok (.iconst 0, 1) := by decide +kernel
theorem dX12_cutAll_14 : decode cX12_cutAll 14 = .ok (.istore_n 1, 1) := by decide +kernel
theorem dX12_cutAll_15 : decode cX12_cutAll 15 = .ok (.iconst 0, 1) := by decide +kernel
theorem dX12_cutAll_16 : decode cX12_cutAll 16 = .ok (.istore_n 2, 1) := by decide +kernel
theorem dX12_cutAll_17 : decode cX12_cutAll 17 = .ok (.iload_n 2, 1) := by decide +kernel
theorem dX12_cutAll_18 : decode cX12_cutAll 18 = .ok (.aload_n 0, 1) := by decide +kernel
theorem dX12_cutAll_19 : decode cX12_cutAll 19 = .ok (.getfield 160, 3) := by decide +kernel
theorem dX12_cutAll_22 : decode cX12_cutAll 22 = .ok (.if_icmp .ge 257, 3) := by decide +kernel
theorem dX12_cutAll_25 : decode cX12_cutAll 25 = .ok (.aload_n 0, 1) := by decide +kernel
theorem dX12_cutAll_26 : decode cX12_cutAll 26 = .ok (.getfield 14, 3) := by decide +kernel
theorem dX12_cutAll_29 : decode cX12_cutAll 29 = .ok (.iload_n 2, 1) := by decide +kernel
theorem dX12_cutAll_30 : decode cX12_cutAll 30 = .ok (.iaload, 1) := by decide +kernel
theorem dX12_cutAll_31 : decode cX12_cutAll 31 = .ok (.istore_n 3, 1) := by decide +kernel
theorem dX12_cutAll_32 : decode cX12_cutAll 32 = .ok (.iload_n 3, 1) := by decide +kernel
theorem dX12_cutAll_33 : decode cX12_cutAll 33 = .ok (.bipush 10, 2) := by decide +kernel
theorem dX12_cutAll_35 : decode cX12_cutAll 35 = .ok (.if_icmp .eq 9, 3) := by decide +kernel
theorem dX12_cutAll_38 : decode cX12_cutAll 38 = .ok (.iload_n 3, 1) := by decide +kernel
theorem dX12_cutAll_39 : decode cX12_cutAll 39 = .ok (.bipush 32, 2) := by decide +kernel
theorem dX12_cutAll_41 : decode cX12_cutAll 41 = .ok (.if_icmp .ne 9, 3) := by decide +kernel
theorem dX12_cutAll_44 : decode cX12_cutAll 44 = .ok (.iinc 2 1, 3) := by decide +kernel
theorem dX12_cutAll_47 : decode cX12_cutAll 47 = .ok (.goto (-30), 3) := by decide +kernel
theorem dX12_cutAll_50 : decode cX12_cutAll 50 = .ok (.iload_n 2, 1) := by decide +kernel
theorem dX12_cutAll_51 : decode cX12_cutAll 51 = .ok (.istore 4, 2) := by decide +kernel
theorem dX12_cutAll_53 : decode cX12_cutAll 53 = .ok (.lconst 0, 1) := by decide +kernel
theorem dX12_cutAll_54 : decode cX12_cutAll 54 = .ok (.lstore 5, 2) := by decide +kernel
theorem dX12_cutAll_56 : decode cX12_cutAll 56 = .ok (.aload_n 0, 1) := by decide +kernel
theorem dX12_cutAll_57 : decode cX12_cutAll 57 = .ok (.getfield 27, 3) := by decide +kernel
theorem dX12_cutAll_60 : decode cX12_cutAll 60 = .ok (.iload_n 1, 1) := by decide +kernel
theorem dX12_cutAll_61 : decode cX12_cutAll 61 = .ok (.iload_n 2, 1) := by decide +kernel
theorem dX12_cutAll_62 : decode cX12_cutAll 62 = .ok (.iastore, 1) := by decide +kernel
theorem dX12_cutAll_63 : decode cX12_cutAll 63 = .ok (.iload_n 3, 1) := by decide +kernel
theorem dX12_cutAll_64 : decode cX12_cutAll 64 = .ok (.invokestatic 156, 3) := by decide +kernel
theorem dX12_cutAll_67 : decode cX12_cutAll 67 = .ok (.ifCond .eq 85, 3) := by decide +kernel
theorem dX12_cutAll_70 : decode cX12_cutAll 70 = .ok (.iload_n 2, 1) := by decide +kernel
theorem dX12_cutAll_71 : decode cX12_cutAll 71 = .ok (.aload_n 0, 1) := by decide +kernel
theorem dX12_cutAll_72 : decode cX12_cutAll 72 = .ok (.getfield 160, 3) := by decide +kernel
theorem dX12_cutAll_75 : decode cX12_cutAll 75 = .ok (.if_icmp .ge 54, 3) := by decide +kernel
theorem dX12_cutAll_78 : decode cX12_cutAll 78 = .ok (.aload_n 0, 1) := by decide +kernel
theorem dX12_cutAll_79 : decode cX12_cutAll 79 = .ok (.getfield 14, 3) := by decide +kernel
theorem dX12_cutAll_82 : decode cX12_cutAll 82 = .ok (.iload_n 2, 1) := by decide +kernel
theorem dX12_cutAll_83 : decode cX12_cutAll 83 = .ok (.iaload, 1) := by decide +kernel
theorem dX12_cutAll_84 : decode cX12_cutAll 84 = .ok (.invokestatic 156, 3) := by decide +kernel
theorem dX12_cutAll_87 : decode cX12_cutAll 87 = .ok (.ifCond .eq 42, 3) := by decide +kernel
theorem dX12_cutAll_90 : decode cX12_cutAll 90 = .ok (.iload_n 2, 1) := by decide +kernel
theorem dX12_cutAll_91 : decode cX12_cutAll 91 = .ok (.iload 4, 2) := by decide +kernel
theorem dX12_cutAll_93 : decode cX12_cutAll 93 = .ok (.isub, 1) := by decide +kernel
theorem dX12_cutAll_94 : decode cX12_cutAll 94 = .ok (.bipush 8, 2) := by decide +kernel
theorem dX12_cutAll_96 : decode cX12_cutAll 96 = .ok (.if_icmp .ge 23, 3) := by decide +kernel
theorem dX12_cutAll_99 : decode cX12_cutAll 99 = .ok (.ldc2_w 163, 3) := by decide +kernel
theorem dX12_cutAll_102 : decode cX12_cutAll 102 = .ok (.lload 5, 2) := by decide +kernel
theorem dX12_cutAll_104 : decode cX12_cutAll 104 = .ok (.lmul, 1) := by decide +kernel
theorem dX12_cutAll_105 : decode cX12_cutAll 105 = .ok (.aload_n 0, 1) := by decide +kernel
theorem dX12_cutAll_106 : decode cX12_cutAll 106 = .ok (.getfield 14, 3) := by decide +kernel
theorem dX12_cutAll_109 : decode cX12_cutAll 109 = .ok (.iload_n 2, 1) := by decide +kernel
theorem dX12_cutAll_110 : decode cX12_cutAll 110 = .ok (.iaload, 1) := by decide +kernel
theorem dX12_cutAll_111 : decode cX12_cutAll 111 = .ok (.invokestatic 165, 3) := by decide +kernel
theorem dX12_cutAll_114 : decode cX12_cutAll 114 = .ok (.i2l, 1) := by decide +kernel
theorem dX12_cutAll_115 : decode cX12_cutAll 115 = .ok (.ladd, 1) := by decide +kernel
theorem dX12_cutAll_116 : decode cX12_cutAll 116 = .ok (.goto 5, 3) := by decide +kernel
theorem dX12_cutAll_119 : decode cX12_cutAll 119 = .ok (.lload 5, 2) := by decide +kernel
theorem dX12_cutAll_121 : decode cX12_cutAll 121 = .ok (.lstore 5, 2) := by decide +kernel
theorem dX12_cutAll_123 : decode cX12_cutAll 123 = .ok (.iinc 2 1, 3) := by decide +kernel
theorem dX12_cutAll_126 : decode cX12_cutAll 126 = .ok (.goto (-56), 3) := by decide +kernel
theorem dX12_cutAll_129 : decode cX12_cutAll 129 = .ok (.aload_n 0, 1) := by decide +kernel
theorem dX12_cutAll_130 : decode cX12_cutAll 130 = .ok (.getfield 24, 3) := by decide +kernel
theorem dX12_cutAll_133 : decode cX12_cutAll 133 = .ok (.iload_n 1, 1) := by decide +kernel
theorem dX12_cutAll_134 : decode cX12_cutAll 134 = .ok (.iload_n 2, 1) := by decide +kernel
theorem dX12_cutAll_135 : decode cX12_cutAll 135 = .ok (.iload 4, 2) := by decide +kernel
theorem dX12_cutAll_137 : decode cX12_cutAll 137 = .ok (.isub, 1) := by decide +kernel
theorem dX12_cutAll_138 : decode cX12_cutAll 138 = .ok (.bipush 8, 2) := by decide +kernel
theorem dX12_cutAll_140 : decode cX12_cutAll 140 = .ok (.if_icmp .le 7, 3) := by decide +kernel
theorem dX12_cutAll_143 : decode cX12_cutAll 143 = .ok (.iconst 4, 1) := by decide +kernel
theorem dX12_cutAll_144 : decode cX12_cutAll 144 = .ok (.goto 4, 3) := by decide +kernel
theorem dX12_cutAll_147 : decode cX12_cutAll 147 = .ok (.iconst 1, 1) := by decide +kernel
theorem dX12_cutAll_148 : decode cX12_cutAll 148 = .ok (.iastore, 1) := by decide +kernel
theorem dX12_cutAll_149 : decode cX12_cutAll 149 = .ok (.goto 116, 3) := by decide +kernel
theorem dX12_cutAll_152 : decode cX12_cutAll 152 = .ok (.iload_n 3, 1) := by decide +kernel
theorem dX12_cutAll_153 : decode cX12_cutAll 153 = .ok (.invokestatic 169, 3) := by decide +kernel
theorem dX12_cutAll_156 : decode cX12_cutAll 156 = .ok (.ifCond .eq 84, 3) := by decide +kernel
theorem dX12_cutAll_159 : decode cX12_cutAll 159 = .ok (.iload_n 2, 1) := by decide +kernel
theorem dX12_cutAll_160 : decode cX12_cutAll 160 = .ok (.aload_n 0, 1) := by decide +kernel
theorem dX12_cutAll_161 : decode cX12_cutAll 161 = .ok (.getfield 160, 3) := by decide +kernel
theorem dX12_cutAll_164 : decode cX12_cutAll 164 = .ok (.if_icmp .ge 54, 3) := by decide +kernel
theorem dX12_cutAll_167 : decode cX12_cutAll 167 = .ok (.aload_n 0, 1) := by decide +kernel
theorem dX12_cutAll_168 : decode cX12_cutAll 168 = .ok (.getfield 14, 3) := by decide +kernel
theorem dX12_cutAll_171 : decode cX12_cutAll 171 = .ok (.iload_n 2, 1) := by decide +kernel
theorem dX12_cutAll_172 : decode cX12_cutAll 172 = .ok (.iaload, 1) := by decide +kernel
theorem dX12_cutAll_173 : decode cX12_cutAll 173 = .ok (.invokestatic 169, 3) := by decide +kernel
theorem dX12_cutAll_176 : decode cX12_cutAll 176 = .ok (.ifCond .eq 42, 3) := by decide +kernel
theorem dX12_cutAll_179 : decode cX12_cutAll 179 = .ok (.iload_n 2, 1) := by decide +kernel
theorem dX12_cutAll_180 : decode cX12_cutAll 180 = .ok (.iload 4, 2) := by decide +kernel
theorem dX12_cutAll_182 : decode cX12_cutAll 182 = .ok (.isub, 1) := by decide +kernel
theorem dX12_cutAll_183 : decode cX12_cutAll 183 = .ok (.iconst 3, 1) := by decide +kernel
theorem dX12_cutAll_184 : decode cX12_cutAll 184 = .ok (.if_icmp .ge 24, 3) := by decide +kernel
theorem dX12_cutAll_187 : decode cX12_cutAll 187 = .ok (.ldc2_w 172, 3) := by decide +kernel
theorem dX12_cutAll_190 : decode cX12_cutAll 190 = .ok (.lload 5, 2) := by decide +kernel
theorem dX12_cutAll_192 : decode cX12_cutAll 192 = .ok (.lmul, 1) := by decide +kernel
theorem dX12_cutAll_193 : decode cX12_cutAll 193 = .ok (.aload_n 0, 1) := by decide +kernel
theorem dX12_cutAll_194 : decode cX12_cutAll 194 = .ok (.getfield 14, 3) := by decide +kernel
theorem dX12_cutAll_197 : decode cX12_cutAll 197 = .ok (.iload_n 2, 1) := by decide +kernel
theorem dX12_cutAll_198 : decode cX12_cutAll 198 = .ok (.iaload, 1) := by decide +kernel
theorem dX12_cutAll_199 : decode cX12_cutAll 199 = .ok (.i2l, 1) := by decide +kernel
theorem dX12_cutAll_200 : decode cX12_cutAll 200 = .ok (.ladd, 1) := by decide +kernel
theorem dX12_cutAll_201 : decode cX12_cutAll 201 = .ok (.ldc2_w 174, 3) := by decide +kernel
theorem dX12_cutAll_204 : decode cX12_cutAll 204 = .ok (.lsub, 1) := by decide +kernel
theorem dX12_cutAll_205 : decode cX12_cutAll 205 = .ok (.goto 5, 3) := by decide +kernel
theorem dX12_cutAll_208 : decode cX12_cutAll 208 = .ok (.lload 5, 2) := by decide +kernel
theorem dX12_cutAll_210 : decode cX12_cutAll 210 = .ok (.lstore 5, 2) := by decide +kernel
theorem dX12_cutAll_212 : decode cX12_cutAll 212 = .ok (.iinc 2 1, 3) := by decide +kernel
theorem dX12_cutAll_215 : decode cX12_cutAll 215 = .ok (.goto (-56), 3) := by decide +kernel
theorem dX12_cutAll_218 : decode cX12_cutAll 218 = .ok (.aload_n 0, 1) := by decide +kernel
theorem dX12_cutAll_219 : decode cX12_cutAll 219 = .ok (.getfield 24, 3) := by decide +kernel
theorem dX12_cutAll_222 : decode cX12_cutAll 222 = .ok (.iload_n 1, 1) := by decide +kernel
theorem dX12_cutAll_223 : decode cX12_cutAll 223 = .ok (.iload_n 2, 1) := by decide +kernel
theorem dX12_cutAll_224 : decode cX12_cutAll 224 = .ok (.iload 4, 2) := by decide +kernel
theorem dX12_cutAll_226 : decode cX12_cutAll 226 = .ok (.isub, 1) := by decide +kernel
theorem dX12_cutAll_227 : decode cX12_cutAll 227 = .ok (.iconst 3, 1) := by decide +kernel
theorem dX12_cutAll_228 : decode cX12_cutAll 228 = .ok (.if_icmp .le 7, 3) := by decide +kernel
theorem dX12_cutAll_231 : decode cX12_cutAll 231 = .ok (.iconst 4, 1) := by decide +kernel
theorem dX12_cutAll_232 : decode cX12_cutAll 232 = .ok (.goto 4, 3) := by decide +kernel
theorem dX12_cutAll_235 : decode cX12_cutAll 235 = .ok (.iconst 2, 1) := by decide +kernel
theorem dX12_cutAll_236 : decode cX12_cutAll 236 = .ok (.iastore, 1) := by decide +kernel
theorem dX12_cutAll_237 : decode cX12_cutAll 237 = .ok (.goto 28, 3) := by decide +kernel
theorem dX12_cutAll_240 : decode cX12_cutAll 240 = .ok (.iload_n 3, 1) := by decide +kernel
theorem dX12_cutAll_241 : decode cX12_cutAll 241 = .ok (.i2l, 1) := by decide +kernel
theorem dX12_cutAll_242 : decode cX12_cutAll 242 = .ok (.lstore 5, 2) := by decide +kernel
theorem dX12_cutAll_244 : decode cX12_cutAll 244 = .ok (.aload_n 0, 1) := by decide +kernel
theorem dX12_cutAll_245 : decode cX12_cutAll 245 = .ok (.getfield 24, 3) := by decide +kernel
theorem dX12_cutAll_248 : decode cX12_cutAll 248 = .ok (.iload_n 1, 1) := by decide +kernel
theorem dX12_cutAll_249 : decode cX12_cutAll 249 = .ok (.iload_n 3, 1) := by decide +kernel
theorem dX12_cutAll_250 : decode cX12_cutAll 250 = .ok (.invokestatic 176, 3) := by decide +kernel
theorem dX12_cutAll_253 : decode cX12_cutAll 253 = .ok (.ifCond .eq 7, 3) := by decide +kernel
theorem dX12_cutAll_256 : decode cX12_cutAll 256 = .ok (.iconst 3, 1) := by decide +kernel
theorem dX12_cutAll_257 : decode cX12_cutAll 257 = .ok (.goto 4, 3) := by decide +kernel
theorem dX12_cutAll_260 : decode cX12_cutAll 260 = .ok (.iconst 4, 1) := by decide +kernel
theorem dX12_cutAll_261 : decode cX12_cutAll 261 = .ok (.iastore, 1) := by decide +kernel
theorem dX12_cutAll_262 : decode cX12_cutAll 262 = .ok (.iinc 2 1, 3) := by decide +kernel
theorem dX12_cutAll_265 : decode cX12_cutAll 265 = .ok (.aload_n 0, 1) := by decide +kernel
theorem dX12_cutAll_266 : decode cX12_cutAll 266 = .ok (.getfield 30, 3) := by decide +kernel
theorem dX12_cutAll_269 : decode cX12_cutAll 269 = .ok (.iload_n 1, 1) := by decide +kernel
theorem dX12_cutAll_270 : decode cX12_cutAll 270 = .ok (.lload 5, 2) := by decide +kernel
theorem dX12_cutAll_272 : decode cX12_cutAll 272 = .ok (.lastore, 1) := by decide +kernel
theorem dX12_cutAll_273 : decode cX12_cutAll 273 = .ok (.iinc 1 1, 3) := by decide +kernel
theorem dX12_cutAll_276 : decode cX12_cutAll 276 = .ok (.goto (-259), 3) := by decide +kernel
theorem dX12_cutAll_279 : decode cX12_cutAll 279 = .ok (.aload_n 0, 1) := by decide +kernel
theorem dX12_cutAll_280 : decode cX12_cutAll 280 = .ok (.getfield 24, 3) := by decide +kernel
theorem dX12_cutAll_283 : decode cX12_cutAll 283 = .ok (.iload_n 1, 1) := by decide +kernel
theorem dX12_cutAll_284 : decode cX12_cutAll 284 = .ok (.iconst 0, 1) := by decide +kernel
theorem dX12_cutAll_285 : decode cX12_cutAll 285 = .ok (.iastore, 1) := by decide +kernel
theorem dX12_cutAll_286 : decode cX12_cutAll 286 = .ok (.aload_n 0, 1) := by decide +kernel
theorem dX12_cutAll_287 : decode cX12_cutAll 287 = .ok (.getfield 27, 3) := by decide +kernel
theorem dX12_cutAll_290 : decode cX12_cutAll 290 = .ok (.iload_n 1, 1) := by decide +kernel
theorem dX12_cutAll_291 : decode cX12_cutAll 291 = .ok (.aload_n 0, 1) := by decide +kernel
theorem dX12_cutAll_292 : decode cX12_cutAll 292 = .ok (.getfield 160, 3) := by decide +kernel
theorem dX12_cutAll_295 : decode cX12_cutAll 295 = .ok (.iastore, 1) := by decide +kernel
theorem dX12_cutAll_296 : decode cX12_cutAll 296 = .ok (.aload_n 0, 1) := by decide +kernel
theorem dX12_cutAll_297 : decode cX12_cutAll 297 = .ok (.iconst 0, 1) := by decide +kernel
theorem dX12_cutAll_298 : decode cX12_cutAll 298 = .ok (.putfield 179, 3) := by decide +kernel
theorem dX12_cutAll_301 : decode cX12_cutAll 301 = .ok (.aload_n 0, 1) := by decide +kernel
theorem dX12_cutAll_302 : decode cX12_cutAll 302 = .ok (.iconst 0, 1) := by decide +kernel
theorem dX12_cutAll_303 : decode cX12_cutAll 303 = .ok (.putfield 182, 3) := by decide +kernel
theorem dX12_cutAll_306 : decode cX12_cutAll 306 = .ok (.return_, 1) := by decide +kernel
theorem dX12_wrong_0 : decode cX12_wrong 0 = .ok (.aload_n 0, 1) := by decide +kernel
theorem dX12_wrong_1 : decode cX12_wrong 1 = .ok (.getfield 182, 3) := by decide +kernel
theorem dX12_wrong_4 : decode cX12_wrong 4 = .ok (.ifCond .ne 21, 3) := by decide +kernel
theorem dX12_wrong_7 : decode cX12_wrong 7 = .ok (.aload_n 0, 1) := by decide +kernel
theorem dX12_wrong_8 : decode cX12_wrong 8 = .ok (.iload_n 1, 1) := by decide +kernel
theorem dX12_wrong_9 : decode cX12_wrong 9 = .ok (.bipush 16, 2) := by decide +kernel
theorem dX12_wrong_11 : decode cX12_wrong 11 = .ok (.aload_n 0, 1) := by decide +kernel
theorem dX12_wrong_12 : decode cX12_wrong 12 = .ok (.getfield 27, 3) := by decide +kernel
theorem dX12_wrong_15 : decode cX12_wrong 15 = .ok (.aload_n 0, 1) := by decide +kernel
theorem dX12_wrong_16 : decode cX12_wrong 16 = .ok (.getfield 179, 3) := by decide +kernel
theorem dX12_wrong_19 : decode cX12_wrong 19 = .ok (.iaload, 1) := by decide +kernel
theorem dX12_wrong_20 : decode cX12_wrong 20 = .ok (.imul, 1) := by decide +kernel
theorem dX12_wrong_21 : decode cX12_wrong 21 = .ok (.iadd, 1) := by decide +kernel
theorem dX12_wrong_22 : decode cX12_wrong 22 = .ok (.putfield 182, 3) := by decide +kernel
theorem dX12_wrong_25 : decode cX12_wrong 25 = .ok (.return_, 1) := by decide +kernel
theorem dX12_isSign_0 : decode cX12_isSign 0 = .ok (.aload_n 0, 1) := by decide +kernel
theorem dX12_isSign_1 : decode cX12_isSign 1 = .ok (.getfield 182, 3) := by decide +kernel
theorem dX12_isSign_4 : decode cX12_isSign 4 = .ok (.ifCond .ne 35, 3) := by decide +kernel
theorem dX12_isSign_7 : decode cX12_isSign 7 = .ok (.aload_n 0, 1) := by decide +kernel
theorem dX12_isSign_8 : decode cX12_isSign 8 = .ok (.getfield 24, 3) := by decide +kernel
theorem dX12_isSign_11 : decode cX12_isSign 11 = .ok (.aload_n 0, 1) := by decide +kernel
theorem dX12_isSign_12 : decode cX12_isSign 12 = .ok (.getfield 179, 3) := by decide +kernel
theorem dX12_isSign_15 : decode cX12_isSign 15 = .ok (.iaload, 1) := by decide +kernel
theorem dX12_isSign_16 : decode cX12_isSign 16 = .ok (.iconst 3, 1) := by decide +kernel
theorem dX12_isSign_17 : decode cX12_isSign 17 = .ok (.if_icmp .ne 22, 3) := by decide +kernel
theorem dX12_isSign_20 : decode cX12_isSign 20 = .ok (.aload_n 0, 1) := by decide +kernel
theorem dX12_isSign_21 : decode cX12_isSign 21 = .ok (.getfield 30, 3) := by decide +kernel
theorem dX12_isSign_24 : decode cX12_isSign 24 = .ok (.aload_n 0, 1) := by decide +kernel
theorem dX12_isSign_25 : decode cX12_isSign 25 = .ok (.getfield 179, 3) := by decide +kernel
theorem dX12_isSign_28 : decode cX12_isSign 28 = .ok (.laload, 1) := by decide +kernel
theorem dX12_isSign_29 : decode cX12_isSign 29 = .ok (.iload_n 1, 1) := by decide +kernel
theorem dX12_isSign_30 : decode cX12_isSign 30 = .ok (.i2l, 1) := by decide +kernel
theorem dX12_isSign_31 : decode cX12_isSign 31 = .ok (.lcmp, 1) := by decide +kernel
theorem dX12_isSign_32 : decode cX12_isSign 32 = .ok (.ifCond .ne 7, 3) := by decide +kernel
theorem dX12_isSign_35 : decode cX12_isSign 35 = .ok (.iconst 1, 1) := by decide +kernel
theorem dX12_isSign_36 : decode cX12_isSign 36 = .ok (.goto 4, 3) := by decide +kernel
theorem dX12_isSign_39 : decode cX12_isSign 39 = .ok (.iconst 0, 1) := by decide +kernel
theorem dX12_isSign_40 : decode cX12_isSign 40 = .ok (.ireturn, 1) := by decide +kernel
theorem dX12_isWord_0 : decode cX12_isWord 0 = .ok (.aload_n 0, 1) := by decide +kernel
theorem dX12_isWord_1 : decode cX12_isWord 1 = .ok (.getfield 182, 3) := by decide +kernel
theorem dX12_isWord_4 : decode cX12_isWord 4 = .ok (.ifCond .ne 39, 3) := by decide +kernel
theorem dX12_isWord_7 : decode cX12_isWord 7 = .ok (.aload_n 0, 1) := by decide +kernel
theorem dX12_isWord_8 : decode cX12_isWord 8 = .ok (.getfield 24, 3) := by decide +kernel
theorem dX12_isWord_11 : decode cX12_isWord 11 = .ok (.aload_n 0, 1) := by decide +kernel
theorem dX12_isWord_12 : decode cX12_isWord 12 = .ok (.getfield 179, 3) := by decide +kernel
theorem dX12_isWord_15 : decode cX12_isWord 15 = .ok (.iaload, 1) := by decide +kernel
theorem dX12_isWord_16 : decode cX12_isWord 16 = .ok (.iconst 1, 1) := by decide +kernel
theorem dX12_isWord_17 : decode cX12_isWord 17 = .ok (.if_icmp .ne 26, 3) := by decide +kernel
theorem dX12_isWord_20 : decode cX12_isWord 20 = .ok (.aload_n 0, 1) := by decide +kernel
theorem dX12_isWord_21 : decode cX12_isWord 21 = .ok (.getfield 30, 3) := by decide +kernel
theorem dX12_isWord_24 : decode cX12_isWord 24 = .ok (.aload_n 0, 1) := by decide +kernel
theorem dX12_isWord_25 : decode cX12_isWord 25 = .ok (.getfield 179, 3) := by decide +kernel
theorem dX12_isWord_28 : decode cX12_isWord 28 = .ok (.laload, 1) := by decide +kernel
theorem dX12_isWord_29 : decode cX12_isWord 29 = .ok (.aload_n 0, 1) := by decide +kernel
theorem dX12_isWord_30 : decode cX12_isWord 30 = .ok (.getfield 68, 3) := by decide +kernel
theorem dX12_isWord_33 : decode cX12_isWord 33 = .ok (.iload_n 1, 1) := by decide +kernel
theorem dX12_isWord_34 : decode cX12_isWord 34 = .ok (.laload, 1) := by decide +kernel
theorem dX12_isWord_35 : decode cX12_isWord 35 = .ok (.lcmp, 1) := by decide +kernel
theorem dX12_isWord_36 : decode cX12_isWord 36 = .ok (.ifCond .ne 7, 3) := by decide +kernel
theorem dX12_isWord_39 : decode cX12_isWord 39 = .ok (.iconst 1, 1) := by decide +kernel
theorem dX12_isWord_40 : decode cX12_isWord 40 = .ok (.goto 4, 3) := by decide +kernel
theorem dX12_isWord_43 : decode cX12_isWord 43 = .ok (.iconst 0, 1) := by decide +kernel
theorem dX12_isWord_44 : decode cX12_isWord 44 = .ok (.ireturn, 1) := by decide +kernel
theorem dX12_takeSign_0 : decode cX12_takeSign 0 = .ok (.aload_n 0, 1) := by decide +kernel
theorem dX12_takeSign_1 : decode cX12_takeSign 1 = .ok (.iload_n 1, 1) := by decide +kernel
theorem dX12_takeSign_2 : decode cX12_takeSign 2 = .ok (.invokevirtual 185, 3) := by decide +kernel
theorem dX12_takeSign_5 : decode cX12_takeSign 5 = .ok (.ifCond .eq 16, 3) := by decide +kernel
theorem dX12_takeSign_8 : decode cX12_takeSign 8 = .ok (.aload_n 0, 1) := by decide +kernel
theorem dX12_takeSign_9 : decode cX12_takeSign 9 = .ok (.dup, 1) := by decide +kernel
theorem dX12_takeSign_10 : decode cX12_takeSign 10 = .ok (.getfield 179, 3) := by decide +kernel
theorem dX12_takeSign_13 : decode cX12_takeSign 13 = .ok (.iconst 1, 1) := by decide +kernel
theorem dX12_takeSign_14 : decode cX12_takeSign 14 = .ok (.iadd, 1) := by decide +kernel
theorem dX12_takeSign_15 : decode cX12_takeSign 15 = .ok (.putfield 179, 3) := by decide +kernel
theorem dX12_takeSign_18 : decode cX12_takeSign 18 = .ok (.goto 8, 3) := by decide +kernel
theorem dX12_takeSign_21 : decode cX12_takeSign 21 = .ok (.aload_n 0, 1) := by decide +kernel
theorem dX12_takeSign_22 : decode cX12_takeSign 22 = .ok (.iconst 1, 1) := by decide +kernel
theorem dX12_takeSign_23 : decode cX12_takeSign 23 = .ok (.invokevirtual 188, 3) := by decide +kernel
theorem dX12_takeSign_26 : decode cX12_takeSign 26 = .ok (.return_, 1) := by decide +kernel
theorem dX12_hasSign_0 : decode cX12_hasSign 0 = .ok (.aload_n 0, 1) := by decide +kernel
theorem dX12_hasSign_1 : decode cX12_hasSign 1 = .ok (.iload_n 1, 1) := by decide +kernel
theorem dX12_hasSign_2 : decode cX12_hasSign 2 = .ok (.invokevirtual 185, 3) := by decide +kernel
theorem dX12_hasSign_5 : decode cX12_hasSign 5 = .ok (.istore_n 2, 1) := by decide +kernel
theorem dX12_hasSign_6 : decode cX12_hasSign 6 = .ok (.aload_n 0, 1) := by decide +kernel
theorem dX12_hasSign_7 : decode cX12_hasSign 7 = .ok (.dup, 1) := by decide +kernel
theorem dX12_hasSign_8 : decode cX12_hasSign 8 = .ok (.getfield 179, 3) := by decide +kernel
theorem dX12_hasSign_11 : decode cX12_hasSign 11 = .ok (.iload_n 2, 1) := by decide +kernel
theorem dX12_hasSign_12 : decode cX12_hasSign 12 = .ok (.ifCond .eq 7, 3) := by decide +kernel
theorem dX12_hasSign_15 : decode cX12_hasSign 15 = .ok (.iconst 1, 1) := by decide +kernel
theorem dX12_hasSign_16 : decode cX12_hasSign 16 = .ok (.goto 4, 3) := by decide +kernel
theorem dX12_hasSign_19 : decode cX12_hasSign 19 = .ok (.iconst 0, 1) := by decide +kernel
theorem dX12_hasSign_20 : decode cX12_hasSign 20 = .ok (.iadd, 1) := by decide +kernel
theorem dX12_hasSign_21 : decode cX12_hasSign 21 = .ok (.putfield 179, 3) := by decide +kernel
theorem dX12_hasSign_24 : decode cX12_hasSign 24 = .ok (.iload_n 2, 1) := by decide +kernel
theorem dX12_hasSign_25 : decode cX12_hasSign 25 = .ok (.ireturn, 1) := by decide +kernel
theorem dX12_hasWord_0 : decode cX12_hasWord 0 = .ok (.aload_n 0, 1) := by decide +kernel
theorem dX12_hasWord_1 : decode cX12_hasWord 1 = .ok (.iload_n 1, 1) := by decide +kernel
theorem dX12_hasWord_2 : decode cX12_hasWord 2 = .ok (.invokevirtual 192, 3) := by decide +kernel
theorem dX12_hasWord_5 : decode cX12_hasWord 5 = .ok (.istore_n 2, 1) := by decide +kernel
theorem dX12_hasWord_6 : decode cX12_hasWord 6 = .ok (.aload_n 0, 1) := by decide +kernel
theorem dX12_hasWord_7 : decode cX12_hasWord 7 = .ok (.dup, 1) := by decide +kernel
theorem dX12_hasWord_8 : decode cX12_hasWord 8 = .ok (.getfield 179, 3) := by decide +kernel
theorem dX12_hasWord_11 : decode cX12_hasWord 11 = .ok (.iload_n 2, 1) := by decide +kernel
theorem dX12_hasWord_12 : decode cX12_hasWord 12 = .ok (.ifCond .eq 7, 3) := by decide +kernel
theorem dX12_hasWord_15 : decode cX12_hasWord 15 = .ok (.iconst 1, 1) := by decide +kernel
theorem dX12_hasWord_16 : decode cX12_hasWord 16 = .ok (.goto 4, 3) := by decide +kernel
theorem dX12_hasWord_19 : decode cX12_hasWord 19 = .ok (.iconst 0, 1) := by decide +kernel
theorem dX12_hasWord_20 : decode cX12_hasWord 20 = .ok (.iadd, 1) := by decide +kernel
theorem dX12_hasWord_21 : decode cX12_hasWord 21 = .ok (.putfield 179, 3) := by decide +kernel
theorem dX12_hasWord_24 : decode cX12_hasWord 24 = .ok (.iload_n 2, 1) := by decide +kernel
theorem dX12_hasWord_25 : decode cX12_hasWord 25 = .ok (.ireturn, 1) := by decide +kernel
theorem dX12_takeWord_0 : decode cX12_takeWord 0 = .ok (.aload_n 0, 1) := by decide +kernel
theorem dX12_takeWord_1 : decode cX12_takeWord 1 = .ok (.iload_n 1, 1) := by decide +kernel
theorem dX12_takeWord_2 : decode cX12_takeWord 2 = .ok (.invokevirtual 195, 3) := by decide +kernel
theorem dX12_takeWord_5 : decode cX12_takeWord 5 = .ok (.ifCond .ne 8, 3) := by decide +kernel
theorem dX12_takeWord_8 : decode cX12_takeWord 8 = .ok (.aload_n 0, 1) := by decide +kernel
theorem dX12_takeWord_9 : decode cX12_takeWord 9 = .ok (.iconst 1, 1) := by decide +kernel
theorem dX12_takeWord_10 : decode cX12_takeWord 10 = .ok (.invokevirtual 188, 3) := by decide +kernel
theorem dX12_takeWord_13 : decode cX12_takeWord 13 = .ok (.return_, 1) := by decide +kernel
theorem dX12_emit_0 : decode cX12_emit 0 = .ok (.aload_n 0, 1) := by decide +kernel
theorem dX12_emit_1 : decode cX12_emit 1 = .ok (.getfield 71, 3) := by decide +kernel
theorem dX12_emit_4 : decode cX12_emit 4 = .ok (.aload_n 0, 1) := by decide +kernel
theorem dX12_emit_5 : decode cX12_emit 5 = .ok (.getfield 198, 3) := by decide +kernel
theorem dX12_emit_8 : decode cX12_emit 8 = .ok (.iload_n 1, 1) := by decide +kernel
theorem dX12_emit_9 : decode cX12_emit 9 = .ok (.iastore, 1) := by decide +kernel
theorem dX12_emit_10 : decode cX12_emit 10 = .ok (.iconst 0, 1) := by decide +kernel
theorem dX12_emit_11 : decode cX12_emit 11 = .ok (.istore_n 2, 1) := by decide +kernel
theorem dX12_emit_12 : decode cX12_emit 12 = .ok (.iload_n 2, 1) := by decide +kernel
theorem dX12_emit_13 : decode cX12_emit 13 = .ok (.iconst 5, 1) := by decide +kernel
theorem dX12_emit_14 : decode cX12_emit 14 = .ok (.if_icmp .ge 23, 3) := by decide +kernel
theorem dX12_emit_17 : decode cX12_emit 17 = .ok (.aload_n 0, 1) := by decide +kernel
theorem dX12_emit_18 : decode cX12_emit 18 = .ok (.getfield 74, 3) := by decide +kernel
theorem dX12_emit_21 : decode cX12_emit 21 = .ok (.iconst 5, 1) := by decide +kernel
theorem dX12_emit_22 : decode cX12_emit 22 = .ok (.aload_n 0, 1) := by decide +kernel
theorem dX12_emit_23 : decode cX12_emit 23 = .ok (.getfield 198, 3) := by decide +kernel
theorem dX12_emit_26 : decode cX12_emit 26 = .ok (.imul, 1) := by decide +kernel
theorem dX12_emit_27 : decode cX12_emit 27 = .ok (.iload_n 2, 1) := by decide +kernel
theorem dX12_emit_28 : decode cX12_emit 28 = .ok (.iadd, 1) := by decide +kernel
theorem dX12_emit_29 : decode cX12_emit 29 = .ok (.iconst 0, 1) := by decide +kernel
theorem dX12_emit_30 : decode cX12_emit 30 = .ok (.iastore, 1) := by decide +kernel
theorem dX12_emit_31 : decode cX12_emit 31 = .ok (.iinc 2 1, 3) := by decide +kernel
theorem dX12_emit_34 : decode cX12_emit 34 = .ok (.goto (-22), 3) := by decide +kernel
theorem dX12_emit_37 : decode cX12_emit 37 = .ok (.aload_n 0, 1) := by decide +kernel
theorem dX12_emit_38 : decode cX12_emit 38 = .ok (.getfield 77, 3) := by decide +kernel
theorem dX12_emit_41 : decode cX12_emit 41 = .ok (.aload_n 0, 1) := by decide +kernel
theorem dX12_emit_42 : decode cX12_emit 42 = .ok (.getfield 198, 3) := by decide +kernel
theorem dX12_emit_45 : decode cX12_emit 45 = .ok (.aload_n 0, 1) := by decide +kernel
theorem dX12_emit_46 : decode cX12_emit 46 = .ok (.getfield 198, 3) := by decide +kernel
theorem dX12_emit_49 : decode cX12_emit 49 = .ok (.iconst 1, 1) := by decide +kernel
theorem dX12_emit_50 : decode cX12_emit 50 = .ok (.iadd, 1) := by decide +kernel
theorem dX12_emit_51 : decode cX12_emit 51 = .ok (.iastore, 1) := by decide +kernel
theorem dX12_emit_52 : decode cX12_emit 52 = .ok (.aload_n 0, 1) := by decide +kernel
theorem dX12_emit_53 : decode cX12_emit 53 = .ok (.dup, 1) := by decide +kernel
theorem dX12_emit_54 : decode cX12_emit 54 = .ok (.getfield 198, 3) := by decide +kernel
theorem dX12_emit_57 : decode cX12_emit 57 = .ok (.iconst 1, 1) := by decide +kernel
theorem dX12_emit_58 : decode cX12_emit 58 = .ok (.iadd, 1) := by decide +kernel
theorem dX12_emit_59 : decode cX12_emit 59 = .ok (.putfield 198, 3) := by decide +kernel
theorem dX12_emit_62 : decode cX12_emit 62 = .ok (.aload_n 0, 1) := by decide +kernel
theorem dX12_emit_63 : decode cX12_emit 63 = .ok (.getfield 198, 3) := by decide +kernel
theorem dX12_emit_66 : decode cX12_emit 66 = .ok (.iconst 1, 1) := by decide +kernel
theorem dX12_emit_67 : decode cX12_emit 67 = .ok (.isub, 1) := by decide +kernel
theorem dX12_emit_68 : decode cX12_emit 68 = .ok (.ireturn, 1) := by decide +kernel
theorem dX12_takeNumber_0 : decode cX12_takeNumber 0 = .ok (.aload_n 0, 1) := by decide +kernel
theorem dX12_takeNumber_1 : decode cX12_takeNumber 1 = .ok (.getfield 182, 3) := by decide +kernel
theorem dX12_takeNumber_4 : decode cX12_takeNumber 4 = .ok (.ifCond .ne 24, 3) := by decide +kernel
theorem dX12_takeNumber_7 : decode cX12_takeNumber 7 = .ok (.aload_n 0, 1) := by decide +kernel
theorem dX12_takeNumber_8 : decode cX12_takeNumber 8 = .ok (.getfield 24, 3) := by decide +kernel
theorem dX12_takeNumber_11 : decode cX12_takeNumber 11 = .ok (.aload_n 0, 1) := by decide +kernel
theorem dX12_takeNumber_12 : decode cX12_takeNumber 12 = .ok (.getfield 179, 3) := by decide +kernel
theorem dX12_takeNumber_15 : decode cX12_takeNumber 15 = .ok (.iaload, 1) := by decide +kernel
theorem dX12_takeNumber_16 : decode cX12_takeNumber 16 = .ok (.iconst 2, 1) := by decide +kernel
theorem dX12_takeNumber_17 : decode cX12_takeNumber 17 = .ok (.if_icmp .eq 11, 3) := by decide +kernel
theorem dX12_takeNumber_20 : decode cX12_takeNumber 20 = .ok (.aload_n 0, 1) := by decide +kernel
theorem dX12_takeNumber_21 : decode cX12_takeNumber 21 = .ok (.iconst 1, 1) := by decide +kernel
theorem dX12_takeNumber_22 : decode cX12_takeNumber 22 = .ok (.invokevirtual 188, 3) := by decide +kernel
theorem dX12_takeNumber_25 : decode cX12_takeNumber 25 = .ok (.goto 45, 3) := by decide +kernel
theorem dX12_takeNumber_28 : decode cX12_takeNumber 28 = .ok (.aload_n 0, 1) := by decide +kernel
theorem dX12_takeNumber_29 : decode cX12_takeNumber 29 = .ok (.getfield 182, 3) := by decide +kernel
theorem dX12_takeNumber_32 : decode cX12_takeNumber 32 = .ok (.ifCond .ne 38, 3) := by decide +kernel
theorem dX12_takeNumber_35 : decode cX12_takeNumber 35 = .ok (.aload_n 0, 1) := by decide +kernel
theorem dX12_takeNumber_36 : decode cX12_takeNumber 36 = .ok (.getfield 30, 3) := by decide +kernel
theorem dX12_takeNumber_39 : decode cX12_takeNumber 39 = .ok (.aload_n 0, 1) := by decide +kernel
theorem dX12_takeNumber_40 : decode cX12_takeNumber 40 = .ok (.getfield 179, 3) := by decide +kernel
theorem dX12_takeNumber_43 : decode cX12_takeNumber 43 = .ok (.laload, 1) := by decide +kernel
theorem dX12_takeNumber_44 : decode cX12_takeNumber 44 = .ok (.iload_n 1, 1) := by decide +kernel
theorem dX12_takeNumber_45 : decode cX12_takeNumber 45 = .ok (.i2l, 1) := by decide +kernel
theorem dX12_takeNumber_46 : decode cX12_takeNumber 46 = .ok (.lcmp, 1) := by decide +kernel
theorem dX12_takeNumber_47 : decode cX12_takeNumber 47 = .ok (.ifCond .lt 18, 3) := by decide +kernel
theorem dX12_takeNumber_50 : decode cX12_takeNumber 50 = .ok (.aload_n 0, 1) := by decide +kernel
theorem dX12_takeNumber_51 : decode cX12_takeNumber 51 = .ok (.getfield 30, 3) := by decide +kernel
theorem dX12_takeNumber_54 : decode cX12_takeNumber 54 = .ok (.aload_n 0, 1) := by decide +kernel
theorem dX12_takeNumber_55 : decode cX12_takeNumber 55 = .ok (.getfield 179, 3) := by decide +kernel
theorem dX12_takeNumber_58 : decode cX12_takeNumber 58 = .ok (.laload, 1) := by decide +kernel
theorem dX12_takeNumber_59 : decode cX12_takeNumber 59 = .ok (.iload_n 2, 1) := by decide +kernel
theorem dX12_takeNumber_60 : decode cX12_takeNumber 60 = .ok (.i2l, 1) := by decide +kernel
theorem dX12_takeNumber_61 : decode cX12_takeNumber 61 = .ok (.lcmp, 1) := by decide +kernel
theorem dX12_takeNumber_62 : decode cX12_takeNumber 62 = .ok (.ifCond .le 8, 3) := by decide +kernel
theorem dX12_takeNumber_65 : decode cX12_takeNumber 65 = .ok (.aload_n 0, 1) := by decide +kernel
theorem dX12_takeNumber_66 : decode cX12_takeNumber 66 = .ok (.iconst 4, 1) := by decide +kernel
theorem dX12_takeNumber_67 : decode cX12_takeNumber 67 = .ok (.invokevirtual 188, 3) := by decide +kernel
theorem dX12_takeNumber_70 : decode cX12_takeNumber 70 = .ok (.aload_n 0, 1) := by decide +kernel
theorem dX12_takeNumber_71 : decode cX12_takeNumber 71 = .ok (.getfield 182, 3) := by decide +kernel
theorem dX12_takeNumber_74 : decode cX12_takeNumber 74 = .ok (.ifCond .le 5, 3) := by decide +kernel
theorem dX12_takeNumber_77 : decode cX12_takeNumber 77 = .ok (.iconst 0, 1) := by decide +kernel
theorem dX12_takeNumber_78 : decode cX12_takeNumber 78 = .ok (.ireturn, 1) := by decide +kernel
theorem dX12_takeNumber_79 : decode cX12_takeNumber 79 = .ok (.aload_n 0, 1) := by decide +kernel
theorem dX12_takeNumber_80 : decode cX12_takeNumber 80 = .ok (.dup, 1) := by decide +kernel
theorem dX12_takeNumber_81 : decode cX12_takeNumber 81 = .ok (.getfield 179, 3) := by decide +kernel
theorem dX12_takeNumber_84 : decode cX12_takeNumber 84 = .ok (.iconst 1, 1) := by decide +kernel
theorem dX12_takeNumber_85 : decode cX12_takeNumber 85 = .ok (.iadd, 1) := by decide +kernel
theorem dX12_takeNumber_86 : decode cX12_takeNumber 86 = .ok (.putfield 179, 3) := by decide +kernel
theorem dX12_takeNumber_89 : decode cX12_takeNumber 89 = .ok (.aload_n 0, 1) := by decide +kernel
theorem dX12_takeNumber_90 : decode cX12_takeNumber 90 = .ok (.getfield 30, 3) := by decide +kernel
theorem dX12_takeNumber_93 : decode cX12_takeNumber 93 = .ok (.aload_n 0, 1) := by decide +kernel
theorem dX12_takeNumber_94 : decode cX12_takeNumber 94 = .ok (.getfield 179, 3) := by decide +kernel
theorem dX12_takeNumber_97 : decode cX12_takeNumber 97 = .ok (.iconst 1, 1) := by decide +kernel
theorem dX12_takeNumber_98 : decode cX12_takeNumber 98 = .ok (.isub, 1) := by decide +kernel
theorem dX12_takeNumber_99 : decode cX12_takeNumber 99 = .ok (.laload, 1) := by decide +kernel
theorem dX12_takeNumber_100 : decode cX12_takeNumber 100 = .ok (.l2i, 1) := by decide +kernel
theorem dX12_takeNumber_101 : decode cX12_takeNumber 101 = .ok (.ireturn, 1) := by decide +kernel
theorem dX12_takeShift_0 : decode cX12_takeShift 0 = .ok (.aload_n 0, 1) := by decide +kernel
theorem dX12_takeShift_1 : decode cX12_takeShift 1 = .ok (.bipush 45, 2) := by decide +kernel
theorem dX12_takeShift_3 : decode cX12_takeShift 3 = .ok (.invokevirtual 201, 3) := by decide +kernel
theorem dX12_takeShift_6 : decode cX12_takeShift 6 = .ok (.istore_n 1, 1) := by decide +kernel
theorem dX12_takeShift_7 : decode cX12_takeShift 7 = .ok (.aload_n 0, 1) := by decide +kernel
theorem dX12_takeShift_8 : decode cX12_takeShift 8 = .ok (.iconst 0, 1) := by decide +kernel
theorem dX12_takeShift_9 : decode cX12_takeShift 9 = .ok (.bipush 12, 2) := by decide +kernel
theorem dX12_takeShift_11 : decode cX12_takeShift 11 = .ok (.invokevirtual 204, 3) := by decide +kernel
theorem dX12_takeShift_14 : decode cX12_takeShift 14 = .ok (.istore_n 2, 1) := by decide +kernel
theorem dX12_takeShift_15 : decode cX12_takeShift 15 = .ok (.iload_n 1, 1) := by decide +kernel
theorem dX12_takeShift_16 : decode cX12_takeShift 16 = .ok (.ifCond .eq 8, 3) := by decide +kernel
theorem dX12_takeShift_19 : decode cX12_takeShift 19 = .ok (.iload_n 2, 1) := by decide +kernel
theorem dX12_takeShift_20 : decode cX12_takeShift 20 = .ok (.ineg, 1) := by decide +kernel
theorem dX12_takeShift_21 : decode cX12_takeShift 21 = .ok (.goto 4, 3) := by decide +kernel
theorem dX12_takeShift_24 : decode cX12_takeShift 24 = .ok (.iload_n 2, 1) := by decide +kernel
theorem dX12_takeShift_25 : decode cX12_takeShift 25 = .ok (.ireturn, 1) := by decide +kernel
theorem dX12_isName_0 : decode cX12_isName 0 = .ok (.aload_n 0, 1) := by decide +kernel
theorem dX12_isName_1 : decode cX12_isName 1 = .ok (.getfield 182, 3) := by decide +kernel
theorem dX12_isName_4 : decode cX12_isName 4 = .ok (.ifCond .ne 20, 3) := by decide +kernel
theorem dX12_isName_7 : decode cX12_isName 7 = .ok (.aload_n 0, 1) := by decide +kernel
theorem dX12_isName_8 : decode cX12_isName 8 = .ok (.getfield 24, 3) := by decide +kernel
theorem dX12_isName_11 : decode cX12_isName 11 = .ok (.aload_n 0, 1) := by decide +kernel
theorem dX12_isName_12 : decode cX12_isName 12 = .ok (.getfield 179, 3) := by decide +kernel
theorem dX12_isName_15 : decode cX12_isName 15 = .ok (.iaload, 1) := by decide +kernel
theorem dX12_isName_16 : decode cX12_isName 16 = .ok (.iconst 1, 1) := by decide +kernel
theorem dX12_isName_17 : decode cX12_isName 17 = .ok (.if_icmp .ne 7, 3) := by decide +kernel
theorem dX12_isName_20 : decode cX12_isName 20 = .ok (.iconst 1, 1) := by decide +kernel
theorem dX12_isName_21 : decode cX12_isName 21 = .ok (.goto 4, 3) := by decide +kernel
theorem dX12_isName_24 : decode cX12_isName 24 = .ok (.iconst 0, 1) := by decide +kernel
theorem dX12_isName_25 : decode cX12_isName 25 = .ok (.istore_n 1, 1) := by decide +kernel
theorem dX12_isName_26 : decode cX12_isName 26 = .ok (.iconst 0, 1) := by decide +kernel
theorem dX12_isName_27 : decode cX12_isName 27 = .ok (.istore_n 2, 1) := by decide +kernel
theorem dX12_isName_28 : decode cX12_isName 28 = .ok (.iload_n 2, 1) := by decide +kernel
theorem dX12_isName_29 : decode cX12_isName 29 = .ok (.bipush 17, 2) := by decide +kernel
theorem dX12_isName_31 : decode cX12_isName 31 = .ok (.if_icmp .ge 38, 3) := by decide +kernel
theorem dX12_isName_34 : decode cX12_isName 34 = .ok (.iload_n 1, 1) := by decide +kernel
theorem dX12_isName_35 : decode cX12_isName 35 = .ok (.ifCond .eq 26, 3) := by decide +kernel
theorem dX12_isName_38 : decode cX12_isName 38 = .ok (.aload_n 0, 1) := by decide +kernel
theorem dX12_isName_39 : decode cX12_isName 39 = .ok (.getfield 30, 3) := by decide +kernel
theorem dX12_isName_42 : decode cX12_isName 42 = .ok (.aload_n 0, 1) := by decide +kernel
theorem dX12_isName_43 : decode cX12_isName 43 = .ok (.getfield 179, 3) := by decide +kernel
theorem dX12_isName_46 : decode cX12_isName 46 = .ok (.laload, 1) := by decide +kernel
theorem dX12_isName_47 : decode cX12_isName 47 = .ok (.aload_n 0, 1) := by decide +kernel
theorem dX12_isName_48 : decode cX12_isName 48 = .ok (.getfield 68, 3) := by decide +kernel
theorem dX12_isName_51 : decode cX12_isName 51 = .ok (.iload_n 2, 1) := by decide +kernel
theorem dX12_isName_52 : decode cX12_isName 52 = .ok (.laload, 1) := by decide +kernel
theorem dX12_isName_53 : decode cX12_isName 53 = .ok (.lcmp, 1) := by decide +kernel
theorem dX12_isName_54 : decode cX12_isName 54 = .ok (.ifCond .eq 7, 3) := by decide +kernel
theorem dX12_isName_57 : decode cX12_isName 57 = .ok (.iconst 1, 1) := by decide +kernel
theorem dX12_isName_58 : decode cX12_isName 58 = .ok (.goto 4, 3) := by decide +kernel
theorem dX12_isName_61 : decode cX12_isName 61 = .ok (.iconst 0, 1) := by decide +kernel
theorem dX12_isName_62 : decode cX12_isName 62 = .ok (.istore_n 1, 1) := by decide +kernel
theorem dX12_isName_63 : decode cX12_isName 63 = .ok (.iinc 2 1, 3) := by decide +kernel
theorem dX12_isName_66 : decode cX12_isName 66 = .ok (.goto (-38), 3) := by decide +kernel
theorem dX12_isName_69 : decode cX12_isName 69 = .ok (.iload_n 1, 1) := by decide +kernel
theorem dX12_isName_70 : decode cX12_isName 70 = .ok (.ireturn, 1) := by decide +kernel
theorem dX12_findName_0 : decode cX12_findName 0 = .ok (.iconst (-1), 1) := by decide +kernel
theorem dX12_findName_1 : decode cX12_findName 1 = .ok (.istore_n 1, 1) := by decide +kernel
theorem dX12_findName_2 : decode cX12_findName 2 = .ok (.iconst 0, 1) := by decide +kernel
theorem dX12_findName_3 : decode cX12_findName 3 = .ok (.istore_n 2, 1) := by decide +kernel
theorem dX12_findName_4 : decode cX12_findName 4 = .ok (.iload_n 2, 1) := by decide +kernel
theorem dX12_findName_5 : decode cX12_findName 5 = .ok (.aload_n 0, 1) := by decide +kernel
theorem dX12_findName_6 : decode cX12_findName 6 = .ok (.getfield 208, 3) := by decide +kernel
theorem dX12_findName_9 : decode cX12_findName 9 = .ok (.if_icmp .ge 34, 3) := by decide +kernel
theorem dX12_findName_12 : decode cX12_findName 12 = .ok (.aload_n 0, 1) := by decide +kernel
theorem dX12_findName_13 : decode cX12_findName 13 = .ok (.getfield 80, 3) := by decide +kernel
theorem dX12_findName_16 : decode cX12_findName 16 = .ok (.iload_n 2, 1) := by decide +kernel
theorem dX12_findName_17 : decode cX12_findName 17 = .ok (.laload, 1) := by decide +kernel
theorem dX12_findName_18 : decode cX12_findName 18 = .ok (.aload_n 0, 1) := by decide +kernel
theorem dX12_findName_19 : decode cX12_findName 19 = .ok (.getfield 30, 3) := by decide +kernel
theorem dX12_findName_22 : decode cX12_findName 22 = .ok (.aload_n 0, 1) := by decide +kernel
theorem dX12_findName_23 : decode cX12_findName 23 = .ok (.getfield 179, 3) := by decide +kernel
theorem dX12_findName_26 : decode cX12_findName 26 = .ok (.laload, 1) := by decide +kernel
theorem dX12_findName_27 : decode cX12_findName 27 = .ok (.lcmp, 1) := by decide +kernel
theorem dX12_findName_28 : decode cX12_findName 28 = .ok (.ifCond .ne 7, 3) := by decide +kernel
theorem dX12_findName_31 : decode cX12_findName 31 = .ok (.iload_n 2, 1) := by decide +kernel
theorem dX12_findName_32 : decode cX12_findName 32 = .ok (.goto 4, 3) := by decide +kernel
theorem dX12_findName_35 : decode cX12_findName 35 = .ok (.iload_n 1, 1) := by decide +kernel
theorem dX12_findName_36 : decode cX12_findName 36 = .ok (.istore_n 1, 1) := by decide +kernel
theorem dX12_findName_37 : decode cX12_findName 37 = .ok (.iinc 2 1, 3) := by decide +kernel
theorem dX12_findName_40 : decode cX12_findName 40 = .ok (.goto (-36), 3) := by decide +kernel
theorem dX12_findName_43 : decode cX12_findName 43 = .ok (.iload_n 1, 1) := by decide +kernel
theorem dX12_findName_44 : decode cX12_findName 44 = .ok (.ireturn, 1) := by decide +kernel
theorem dX12_readLines_0 : decode cX12_readLines 0 = .ok (.iconst 1, 1) := by decide +kernel
theorem dX12_readLines_1 : decode cX12_readLines 1 = .ok (.istore_n 3, 1) := by decide +kernel
theorem dX12_readLines_2 : decode cX12_readLines 2 = .ok (.iload_n 3, 1) := by decide +kernel
theorem dX12_readLines_3 : decode cX12_readLines 3 = .ok (.ifCond .eq 136, 3) := by decide +kernel
theorem dX12_readLines_6 : decode cX12_readLines 6 = .ok (.aload_n 0, 1) := by decide +kernel
theorem dX12_readLines_7 : decode cX12_readLines 7 = .ok (.iconst 0, 1) := by decide +kernel
theorem dX12_readLines_8 : decode cX12_readLines 8 = .ok (.invokevirtual 192, 3) := by decide +kernel
theorem dX12_readLines_11 : decode cX12_readLines 11 = .ok (.ifCond .eq 10, 3) := by decide +kernel
theorem dX12_readLines_14 : decode cX12_readLines 14 = .ok (.aload_n 0, 1) := by decide +kernel
theorem dX12_readLines_15 : decode cX12_readLines 15 = .ok (.invokevirtual 211, 3) := by decide +kernel
theorem dX12_readLines_18 : decode cX12_readLines 18 = .ok (.goto 91, 3) := by decide +kernel
theorem dX12_readLines_21 : decode cX12_readLines 21 = .ok (.aload_n 0, 1) := by decide +kernel
theorem dX12_readLines_22 : decode cX12_readLines 22 = .ok (.iconst 1, 1) := by decide +kernel
theorem dX12_readLines_23 : decode cX12_readLines 23 = .ok (.invokevirtual 192, 3) := by decide +kernel
theorem dX12_readLines_26 : decode cX12_readLines 26 = .ok (.ifCond .ne 11, 3) := by decide +kernel
theorem dX12_readLines_29 : decode cX12_readLines 29 = .ok (.aload_n 0, 1) := by decide +kernel
theorem dX12_readLines_30 : decode cX12_readLines 30 = .ok (.iconst 2, 1) := by decide +kernel
theorem dX12_readLines_31 : decode cX12_readLines 31 = .ok (.invokevirtual 192, 3) := by decide +kernel
theorem dX12_readLines_34 : decode cX12_readLines 34 = .ok (.ifCond .eq 11, 3) := by decide +kernel
theorem dX12_readLines_37 : decode cX12_readLines 37 = .ok (.aload_n 0, 1) := by decide +kernel
theorem dX12_readLines_38 : decode cX12_readLines 38 = .ok (.iload_n 1, 1) := by decide +kernel
theorem dX12_readLines_39 : decode cX12_readLines 39 = .ok (.invokevirtual 214, 3) := by decide +kernel
theorem dX12_readLines_42 : decode cX12_readLines 42 = .ok (.goto 67, 3) := by decide +kernel
theorem dX12_readLines_45 : decode cX12_readLines 45 = .ok (.aload_n 0, 1) := by decide +kernel
theorem dX12_readLines_46 : decode cX12_readLines 46 = .ok (.iconst 4, 1) := by decide +kernel
theorem dX12_readLines_47 : decode cX12_readLines 47 = .ok (.invokevirtual 192, 3) := by decide +kernel
theorem dX12_readLines_50 : decode cX12_readLines 50 = .ok (.ifCond .eq 10, 3) := by decide +kernel
theorem dX12_readLines_53 : decode cX12_readLines 53 = .ok (.aload_n 0, 1) := by decide +kernel
theorem dX12_readLines_54 : decode cX12_readLines 54 = .ok (.invokevirtual 217, 3) := by decide +kernel
theorem dX12_readLines_57 : decode cX12_readLines 57 = .ok (.goto 52, 3) := by decide +kernel
theorem dX12_readLines_60 : decode cX12_readLines 60 = .ok (.iload_n 2, 1) := by decide +kernel
theorem dX12_readLines_61 : decode cX12_readLines 61 = .ok (.ifCond .eq 18, 3) := by decide +kernel
theorem dX12_readLines_64 : decode cX12_readLines 64 = .ok (.aload_n 0, 1) := by decide +kernel
theorem dX12_readLines_65 : decode cX12_readLines 65 = .ok (.iconst 3, 1) := by decide +kernel
theorem dX12_readLines_66 : decode cX12_readLines 66 = .ok (.invokevirtual 192, 3) := by decide +kernel
theorem dX12_readLines_69 : decode cX12_readLines 69 = .ok (.ifCond .eq 10, 3) := by decide +kernel
theorem dX12_readLines_72 : decode cX12_readLines 72 = .ok (.aload_n 0, 1) := by decide +kernel
theorem dX12_readLines_73 : decode cX12_readLines 73 = .ok (.invokevirtual 220, 3) := by decide +kernel
theorem dX12_readLines_76 : decode cX12_readLines 76 = .ok (.goto 33, 3) := by decide +kernel
theorem dX12_readLines_79 : decode cX12_readLines 79 = .ok (.iload_n 2, 1) := by decide +kernel
theorem dX12_readLines_80 : decode cX12_readLines 80 = .ok (.ifCond .eq 27, 3) := by decide +kernel
theorem dX12_readLines_83 : decode cX12_readLines 83 = .ok (.aload_n 0, 1) := by decide +kernel
theorem dX12_readLines_84 : decode cX12_readLines 84 = .ok (.iconst 5, 1) := by decide +kernel
theorem dX12_readLines_85 : decode cX12_readLines 85 = .ok (.invokevirtual 192, 3) := by decide +kernel
theorem dX12_readLines_88 : decode cX12_readLines 88 = .ok (.ifCond .ne 12, 3) := by decide +kernel
theorem dX12_readLines_91 : decode cX12_readLines 91 = .ok (.aload_n 0, 1) := by decide +kernel
theorem dX12_readLines_92 : decode cX12_readLines 92 = .ok (.bipush 6, 2) := by decide +kernel
theorem dX12_readLines_94 : decode cX12_readLines 94 = .ok (.invokevirtual 192, 3) := by decide +kernel
theorem dX12_readLines_97 : decode cX12_readLines 97 = .ok (.ifCond .eq 10, 3) := by decide +kernel
theorem dX12_readLines_100 : decode cX12_readLines 100 = .ok (.aload_n 0, 1) := by decide +kernel
theorem dX12_readLines_101 : decode cX12_readLines 101 = .ok (.invokevirtual 223, 3) := by decide +kernel
theorem dX12_readLines_104 : decode cX12_readLines 104 = .ok (.goto 5, 3) := by decide +kernel
theorem dX12_readLines_107 : decode cX12_readLines 107 = .ok (.iconst 0, 1) := by decide +kernel
theorem dX12_readLines_108 : decode cX12_readLines 108 = .ok (.istore_n 3, 1) := by decide +kernel
theorem dX12_readLines_109 : decode cX12_readLines 109 = .ok (.iload_n 3, 1) := by decide +kernel
theorem dX12_readLines_110 : decode cX12_readLines 110 = .ok (.ifCond .eq 9, 3) := by decide +kernel
theorem dX12_readLines_113 : decode cX12_readLines 113 = .ok (.aload_n 0, 1) := by decide +kernel
theorem dX12_readLines_114 : decode cX12_readLines 114 = .ok (.bipush 59, 2) := by decide +kernel
theorem dX12_readLines_116 : decode cX12_readLines 116 = .ok (.invokevirtual 226, 3) := by decide +kernel
theorem dX12_readLines_119 : decode cX12_readLines 119 = .ok (.iload_n 3, 1) := by decide +kernel
theorem dX12_readLines_120 : decode cX12_readLines 120 = .ok (.ifCond .eq 14, 3) := by decide +kernel
theorem dX12_readLines_123 : decode cX12_readLines 123 = .ok (.aload_n 0, 1) := by decide +kernel
theorem dX12_readLines_124 : decode cX12_readLines 124 = .ok (.getfield 182, 3) := by decide +kernel
theorem dX12_readLines_127 : decode cX12_readLines 127 = .ok (.ifCond .ne 7, 3) := by decide +kernel
theorem dX12_readLines_130 : decode cX12_readLines 130 = .ok (.iconst 1, 1) := by decide +kernel
theorem dX12_readLines_131 : decode cX12_readLines 131 = .ok (.goto 4, 3) := by decide +kernel
theorem dX12_readLines_134 : decode cX12_readLines 134 = .ok (.iconst 0, 1) := by decide +kernel
theorem dX12_readLines_135 : decode cX12_readLines 135 = .ok (.istore_n 3, 1) := by decide +kernel
theorem dX12_readLines_136 : decode cX12_readLines 136 = .ok (.goto (-134), 3) := by decide +kernel
theorem dX12_readLines_139 : decode cX12_readLines 139 = .ok (.return_, 1) := by decide +kernel
theorem dX12_readPut_0 : decode cX12_readPut 0 = .ok (.aload_n 0, 1) := by decide +kernel
theorem dX12_readPut_1 : decode cX12_readPut 1 = .ok (.iconst 0, 1) := by decide +kernel
theorem dX12_readPut_2 : decode cX12_readPut 2 = .ok (.invokevirtual 229, 3) := by decide +kernel
theorem dX12_readPut_5 : decode cX12_readPut 5 = .ok (.istore_n 1, 1) := by decide +kernel
theorem dX12_readPut_6 : decode cX12_readPut 6 = .ok (.aload_n 0, 1) := by decide +kernel
theorem dX12_readPut_7 : decode cX12_readPut 7 = .ok (.dup, 1) := by decide +kernel
theorem dX12_readPut_8 : decode cX12_readPut 8 = .ok (.getfield 179, 3) := by decide +kernel
theorem dX12_readPut_11 : decode cX12_readPut 11 = .ok (.iconst 1, 1) := by decide +kernel
theorem dX12_readPut_12 : decode cX12_readPut 12 = .ok (.iadd, 1) := by decide +kernel
theorem dX12_readPut_13 : decode cX12_readPut 13 = .ok (.putfield 179, 3) := by decide +kernel
theorem dX12_readPut_16 : decode cX12_readPut 16 = .ok (.iconst 0, 1) := by decide +kernel
theorem dX12_readPut_17 : decode cX12_readPut 17 = .ok (.istore_n 2, 1) := by decide +kernel
theorem dX12_readPut_18 : decode cX12_readPut 18 = .ok (.bipush 8, 2) := by decide +kernel
theorem dX12_readPut_20 : decode cX12_readPut 20 = .ok (.istore_n 3, 1) := by decide +kernel
theorem dX12_readPut_21 : decode cX12_readPut 21 = .ok (.iload_n 3, 1) := by decide +kernel
theorem dX12_readPut_22 : decode cX12_readPut 22 = .ok (.bipush 17, 2) := by decide +kernel
theorem dX12_readPut_24 : decode cX12_readPut 24 = .ok (.if_icmp .ge 28, 3) := by decide +kernel
theorem dX12_readPut_27 : decode cX12_readPut 27 = .ok (.aload_n 0, 1) := by decide +kernel
theorem dX12_readPut_28 : decode cX12_readPut 28 = .ok (.iload_n 3, 1) := by decide +kernel
theorem dX12_readPut_29 : decode cX12_readPut 29 = .ok (.invokevirtual 192, 3) := by decide +kernel
theorem dX12_readPut_32 : decode cX12_readPut 32 = .ok (.ifCond .eq 12, 3) := by decide +kernel
theorem dX12_readPut_35 : decode cX12_readPut 35 = .ok (.iload_n 3, 1) := by decide +kernel
theorem dX12_readPut_36 : decode cX12_readPut 36 = .ok (.bipush 8, 2) := by decide +kernel
theorem dX12_readPut_38 : decode cX12_readPut 38 = .ok (.isub, 1) := by decide +kernel
theorem dX12_readPut_39 : decode cX12_readPut 39 = .ok (.iconst 1, 1) := by decide +kernel
theorem dX12_readPut_40 : decode cX12_readPut 40 = .ok (.iadd, 1) := by decide +kernel
theorem dX12_readPut_41 : decode cX12_readPut 41 = .ok (.goto 4, 3) := by decide +kernel
theorem dX12_readPut_44 : decode cX12_readPut 44 = .ok (.iload_n 2, 1) := by decide +kernel
theorem dX12_readPut_45 : decode cX12_readPut 45 = .ok (.istore_n 2, 1) := by decide +kernel
theorem dX12_readPut_46 : decode cX12_readPut 46 = .ok (.iinc 3 1, 3) := by decide +kernel
theorem dX12_readPut_49 : decode cX12_readPut 49 = .ok (.goto (-28), 3) := by decide +kernel
theorem dX12_readPut_52 : decode cX12_readPut 52 = .ok (.iload_n 2, 1) := by decide +kernel
theorem dX12_readPut_53 : decode cX12_readPut 53 = .ok (.ifCond .ne 9, 3) := by decide +kernel
theorem dX12_readPut_56 : decode cX12_readPut 56 = .ok (.aload_n 0, 1) := by decide +kernel
theorem dX12_readPut_57 : decode cX12_readPut 57 = .ok (.iconst 1, 1) := by decide +kernel
theorem dX12_readPut_58 : decode cX12_readPut 58 = .ok (.invokevirtual 188, 3) := by decide +kernel
theorem dX12_readPut_61 : decode cX12_readPut 61 = .ok (.return_, 1) := by decide +kernel
theorem dX12_readPut_62 : decode cX12_readPut 62 = .ok (.aload_n 0, 1) := by decide +kernel
theorem dX12_readPut_63 : decode cX12_readPut 63 = .ok (.dup, 1) := by decide +kernel
theorem dX12_readPut_64 : decode cX12_readPut 64 = .ok (.getfield 179, 3) := by decide +kernel
theorem dX12_readPut_67 : decode cX12_readPut 67 = .ok (.iconst 1, 1) := by decide +kernel
theorem dX12_readPut_68 : decode cX12_readPut 68 = .ok (.iadd, 1) := by decide +kernel
theorem dX12_readPut_69 : decode cX12_readPut 69 = .ok (.putfield 179, 3) := by decide +kernel
theorem dX12_readPut_72 : decode cX12_readPut 72 = .ok (.aload_n 0, 1) := by decide +kernel
theorem dX12_readPut_73 : decode cX12_readPut 73 = .ok (.getfield 74, 3) := by decide +kernel
theorem dX12_readPut_76 : decode cX12_readPut 76 = .ok (.iconst 5, 1) := by decide +kernel
theorem dX12_readPut_77 : decode cX12_readPut 77 = .ok (.iload_n 1, 1) := by decide +kernel
theorem dX12_readPut_78 : decode cX12_readPut 78 = .ok (.imul, 1) := by decide +kernel
theorem dX12_readPut_79 : decode cX12_readPut 79 = .ok (.iload_n 2, 1) := by decide +kernel
theorem dX12_readPut_80 : decode cX12_readPut 80 = .ok (.iastore, 1) := by decide +kernel
theorem dX12_readPut_81 : decode cX12_readPut 81 = .ok (.iload_n 2, 1) := by decide +kernel
theorem dX12_readPut_82 : decode cX12_readPut 82 = .ok (.iconst 4, 1) := by decide +kernel
theorem dX12_readPut_83 : decode cX12_readPut 83 = .ok (.if_icmp .eq 9, 3) := by decide +kernel
theorem dX12_readPut_86 : decode cX12_readPut 86 = .ok (.iload_n 2, 1) := by decide +kernel
theorem dX12_readPut_87 : decode cX12_readPut 87 = .ok (.bipush 9, 2) := by decide +kernel
theorem dX12_readPut_89 : decode cX12_readPut 89 = .ok (.if_icmp .ne 22, 3) := by decide +kernel
theorem dX12_readPut_92 : decode cX12_readPut 92 = .ok (.aload_n 0, 1) := by decide +kernel
theorem dX12_readPut_93 : decode cX12_readPut 93 = .ok (.getfield 74, 3) := by decide +kernel
theorem dX12_readPut_96 : decode cX12_readPut 96 = .ok (.iconst 5, 1) := by decide +kernel
theorem dX12_readPut_97 : decode cX12_readPut 97 = .ok (.iload_n 1, 1) := by decide +kernel
theorem dX12_readPut_98 : decode cX12_readPut 98 = .ok (.imul, 1) := by decide +kernel
theorem dX12_readPut_99 : decode cX12_readPut 99 = .ok (.iconst 1, 1) := by decide +kernel
theorem dX12_readPut_100 : decode cX12_readPut 100 = .ok (.iadd, 1) := by decide +kernel
theorem dX12_readPut_101 : decode cX12_readPut 101 = .ok (.aload_n 0, 1) := by decide +kernel
theorem dX12_readPut_102 : decode cX12_readPut 102 = .ok (.iconst 0, 1) := by decide +kernel
theorem dX12_readPut_103 : decode cX12_readPut 103 = .ok (.iconst 1, 1) := by decide +kernel
theorem dX12_readPut_104 : decode cX12_readPut 104 = .ok (.invokevirtual 204, 3) := by decide +kernel
theorem dX12_readPut_107 : decode cX12_readPut 107 = .ok (.iastore, 1) := by decide +kernel
theorem dX12_readPut_108 : decode cX12_readPut 108 = .ok (.goto 51, 3) := by decide +kernel
theorem dX12_readPut_111 : decode cX12_readPut 111 = .ok (.iload_n 2, 1) := by decide +kernel
theorem dX12_readPut_112 : decode cX12_readPut 112 = .ok (.bipush 6, 2) := by decide +kernel
theorem dX12_readPut_114 : decode cX12_readPut 114 = .ok (.if_icmp .ne 22, 3) := by decide +kernel
theorem dX12_readPut_117 : decode cX12_readPut 117 = .ok (.aload_n 0, 1) := by decide +kernel
theorem dX12_readPut_118 : decode cX12_readPut 118 = .ok (.getfield 74, 3) := by decide +kernel
theorem dX12_readPut_121 : decode cX12_readPut 121 = .ok (.iconst 5, 1) := by decide +kernel
theorem dX12_readPut_122 : decode cX12_readPut 122 = .ok (.iload_n 1, 1) := by decide +kernel
theorem dX12_readPut_123 : decode cX12_readPut 123 = .ok (.imul, 1) := by decide +kernel
theorem dX12_readPut_124 : decode cX12_readPut 124 = .ok (.iconst 1, 1) := by decide +kernel
theorem dX12_readPut_125 : decode cX12_readPut 125 = .ok (.iadd, 1) := by decide +kernel
theorem dX12_readPut_126 : decode cX12_readPut 126 = .ok (.aload_n 0, 1) := by decide +kernel
theorem dX12_readPut_127 : decode cX12_readPut 127 = .ok (.iconst 0, 1) := by decide +kernel
theorem dX12_readPut_128 : decode cX12_readPut 128 = .ok (.iconst 3, 1) := by decide +kernel
theorem dX12_readPut_129 : decode cX12_readPut 129 = .ok (.invokevirtual 204, 3) := by decide +kernel
theorem dX12_readPut_132 : decode cX12_readPut 132 = .ok (.iastore, 1) := by decide +kernel
theorem dX12_readPut_133 : decode cX12_readPut 133 = .ok (.goto 26, 3) := by decide +kernel
theorem dX12_readPut_136 : decode cX12_readPut 136 = .ok (.iload_n 2, 1) := by decide +kernel
theorem dX12_readPut_137 : decode cX12_readPut 137 = .ok (.bipush 7, 2) := by decide +kernel
theorem dX12_readPut_139 : decode cX12_readPut 139 = .ok (.if_icmp .ne 20, 3) := by decide +kernel
theorem dX12_readPut_142 : decode cX12_readPut 142 = .ok (.aload_n 0, 1) := by decide +kernel
theorem dX12_readPut_143 : decode cX12_readPut 143 = .ok (.getfield 74, 3) := by decide +kernel
theorem dX12_readPut_146 : decode cX12_readPut 146 = .ok (.iconst 5, 1) := by decide +kernel
theorem dX12_readPut_147 : decode cX12_readPut 147 = .ok (.iload_n 1, 1) := by decide +kernel
theorem dX12_readPut_148 : decode cX12_readPut 148 = .ok (.imul, 1) := by decide +kernel
theorem dX12_readPut_149 : decode cX12_readPut 149 = .ok (.iconst 1, 1) := by decide +kernel
theorem dX12_readPut_150 : decode cX12_readPut 150 = .ok (.iadd, 1) := by decide +kernel
theorem dX12_readPut_151 : decode cX12_readPut 151 = .ok (.aload_n 0, 1) := by decide +kernel
theorem dX12_readPut_152 : decode cX12_readPut 152 = .ok (.iconst 2, 1) := by decide +kernel
theorem dX12_readPut_153 : decode cX12_readPut 153 = .ok (.bipush 9, 2) := by decide +kernel
theorem dX12_readPut_155 : decode cX12_readPut 155 = .ok (.invokevirtual 204, 3) := by decide +kernel
theorem dX12_readPut_158 : decode cX12_readPut 158 = .ok (.iastore, 1) := by decide +kernel
theorem dX12_readPut_159 : decode cX12_readPut 159 = .ok (.aload_n 0, 1) := by decide +kernel
theorem dX12_readPut_160 : decode cX12_readPut 160 = .ok (.getfield 74, 3) := by decide +kernel
theorem dX12_readPut_163 : decode cX12_readPut 163 = .ok (.iconst 5, 1) := by decide +kernel
theorem dX12_readPut_164 : decode cX12_readPut 164 = .ok (.iload_n 1, 1) := by decide +kernel
theorem dX12_readPut_165 : decode cX12_readPut 165 = .ok (.imul, 1) := by decide +kernel
theorem dX12_readPut_166 : decode cX12_readPut 166 = .ok (.iconst 2, 1) := by decide +kernel
theorem dX12_readPut_167 : decode cX12_readPut 167 = .ok (.iadd, 1) := by decide +kernel
theorem dX12_readPut_168 : decode cX12_readPut 168 = .ok (.aload_n 0, 1) := by decide +kernel
theorem dX12_readPut_169 : decode cX12_readPut 169 = .ok (.iconst 0, 1) := by decide +kernel
theorem dX12_readPut_170 : decode cX12_readPut 170 = .ok (.bipush 12, 2) := by decide +kernel
theorem dX12_readPut_172 : decode cX12_readPut 172 = .ok (.invokevirtual 204, 3) := by decide +kernel
theorem dX12_readPut_175 : decode cX12_readPut 175 = .ok (.iastore, 1) := by decide +kernel
theorem dX12_readPut_176 : decode cX12_readPut 176 = .ok (.aload_n 0, 1) := by decide +kernel
theorem dX12_readPut_177 : decode cX12_readPut 177 = .ok (.getfield 74, 3) := by decide +kernel
theorem dX12_readPut_180 : decode cX12_readPut 180 = .ok (.iconst 5, 1) := by decide +kernel
theorem dX12_readPut_181 : decode cX12_readPut 181 = .ok (.iload_n 1, 1) := by decide +kernel
theorem dX12_readPut_182 : decode cX12_readPut 182 = .ok (.imul, 1) := by decide +kernel
theorem dX12_readPut_183 : decode cX12_readPut 183 = .ok (.iconst 3, 1) := by decide +kernel
theorem dX12_readPut_184 : decode cX12_readPut 184 = .ok (.iadd, 1) := by decide +kernel
theorem dX12_readPut_185 : decode cX12_readPut 185 = .ok (.aload_n 0, 1) := by decide +kernel
theorem dX12_readPut_186 : decode cX12_readPut 186 = .ok (.iconst 0, 1) := by decide +kernel
theorem dX12_readPut_187 : decode cX12_readPut 187 = .ok (.bipush 11, 2) := by decide +kernel
theorem dX12_readPut_189 : decode cX12_readPut 189 = .ok (.invokevirtual 204, 3) := by decide +kernel
theorem dX12_readPut_192 : decode cX12_readPut 192 = .ok (.iastore, 1) := by decide +kernel
theorem dX12_readPut_193 : decode cX12_readPut 193 = .ok (.return_, 1) := by decide +kernel
theorem dX12_readBlock_0 : decode cX12_readBlock 0 = .ok (.iload_n 1, 1) := by decide +kernel
theorem dX12_readBlock_1 : decode cX12_readBlock 1 = .ok (.iconst 4, 1) := by decide +kernel
theorem dX12_readBlock_2 : decode cX12_readBlock 2 = .ok (.if_icmp .ne 9, 3) := by decide +kernel
theorem dX12_readBlock_5 : decode cX12_readBlock 5 = .ok (.aload_n 0, 1) := by decide +kernel
theorem dX12_readBlock_6 : decode cX12_readBlock 6 = .ok (.iconst 5, 1) := by decide +kernel
theorem dX12_readBlock_7 : decode cX12_readBlock 7 = .ok (.invokevirtual 188, 3) := by decide +kernel
theorem dX12_readBlock_10 : decode cX12_readBlock 10 = .ok (.return_, 1) := by decide +kernel
theorem dX12_readBlock_11 : decode cX12_readBlock 11 = .ok (.aload_n 0, 1) := by decide +kernel
theorem dX12_readBlock_12 : decode cX12_readBlock 12 = .ok (.iconst 1, 1) := by decide +kernel
theorem dX12_readBlock_13 : decode cX12_readBlock 13 = .ok (.invokevirtual 192, 3) := by decide +kernel
theorem dX12_readBlock_16 : decode cX12_readBlock 16 = .ok (.istore_n 2, 1) := by decide +kernel
theorem dX12_readBlock_17 : decode cX12_readBlock 17 = .ok (.aload_n 0, 1) := by decide +kernel
theorem dX12_readBlock_18 : decode cX12_readBlock 18 = .ok (.iload_n 2, 1) := by decide +kernel
theorem dX12_readBlock_19 : decode cX12_readBlock 19 = .ok (.ifCond .eq 7, 3) := by decide +kernel
theorem dX12_readBlock_22 : decode cX12_readBlock 22 = .ok (.iconst 1, 1) := by decide +kernel
theorem dX12_readBlock_23 : decode cX12_readBlock 23 = .ok (.goto 4, 3) := by decide +kernel
theorem dX12_readBlock_26 : decode cX12_readBlock 26 = .ok (.iconst 2, 1) := by decide +kernel
theorem dX12_readBlock_27 : decode cX12_readBlock 27 = .ok (.invokevirtual 229, 3) := by decide +kernel
theorem dX12_readBlock_30 : decode cX12_readBlock 30 = .ok (.istore_n 3, 1) := by decide +kernel
theorem dX12_readBlock_31 : decode cX12_readBlock 31 = .ok (.aload_n 0, 1) := by decide +kernel
theorem dX12_readBlock_32 : decode cX12_readBlock 32 = .ok (.dup, 1) := by decide +kernel
theorem dX12_readBlock_33 : decode cX12_readBlock 33 = .ok (.getfield 179, 3) := by decide +kernel
theorem dX12_readBlock_36 : decode cX12_readBlock 36 = .ok (.iconst 1, 1) := by decide +kernel
theorem dX12_readBlock_37 : decode cX12_readBlock 37 = .ok (.iadd, 1) := by decide +kernel
theorem dX12_readBlock_38 : decode cX12_readBlock 38 = .ok (.putfield 179, 3) := by decide +kernel
theorem dX12_readBlock_41 : decode cX12_readBlock 41 = .ok (.iload_n 2, 1) := by decide +kernel
theorem dX12_readBlock_42 : decode cX12_readBlock 42 = .ok (.ifCond .eq 55, 3) := by decide +kernel
theorem dX12_readBlock_45 : decode cX12_readBlock 45 = .ok (.aload_n 0, 1) := by decide +kernel
theorem dX12_readBlock_46 : decode cX12_readBlock 46 = .ok (.getfield 74, 3) := by decide +kernel
theorem dX12_readBlock_49 : decode cX12_readBlock 49 = .ok (.iconst 5, 1) := by decide +kernel
theorem dX12_readBlock_50 : decode cX12_readBlock 50 = .ok (.iload_n 3, 1) := by decide +kernel
theorem dX12_readBlock_51 : decode cX12_readBlock 51 = .ok (.imul, 1) := by decide +kernel
theorem dX12_readBlock_52 : decode cX12_readBlock 52 = .ok (.aload_n 0, 1) := by decide +kernel
theorem dX12_readBlock_53 : decode cX12_readBlock 53 = .ok (.iconst 1, 1) := by decide +kernel
theorem dX12_readBlock_54 : decode cX12_readBlock 54 = .ok (.bipush 12, 2) := by decide +kernel
theorem dX12_readBlock_56 : decode cX12_readBlock 56 = .ok (.invokevirtual 204, 3) := by decide +kernel
theorem dX12_readBlock_59 : decode cX12_readBlock 59 = .ok (.iastore, 1) := by decide +kernel
theorem dX12_readBlock_60 : decode cX12_readBlock 60 = .ok (.aload_n 0, 1) := by decide +kernel
theorem dX12_readBlock_61 : decode cX12_readBlock 61 = .ok (.bipush 7, 2) := by decide +kernel
theorem dX12_readBlock_63 : decode cX12_readBlock 63 = .ok (.invokevirtual 232, 3) := by decide +kernel
theorem dX12_readBlock_66 : decode cX12_readBlock 66 = .ok (.aload_n 0, 1) := by decide +kernel
theorem dX12_readBlock_67 : decode cX12_readBlock 67 = .ok (.getfield 74, 3) := by decide +kernel
theorem dX12_readBlock_70 : decode cX12_readBlock 70 = .ok (.iconst 5, 1) := by decide +kernel
theorem dX12_readBlock_71 : decode cX12_readBlock 71 = .ok (.iload_n 3, 1) := by decide +kernel
theorem dX12_readBlock_72 : decode cX12_readBlock 72 = .ok (.imul, 1) := by decide +kernel
theorem dX12_readBlock_73 : decode cX12_readBlock 73 = .ok (.iconst 1, 1) := by decide +kernel
theorem dX12_readBlock_74 : decode cX12_readBlock 74 = .ok (.iadd, 1) := by decide +kernel
theorem dX12_readBlock_75 : decode cX12_readBlock 75 = .ok (.aload_n 0, 1) := by decide +kernel
theorem dX12_readBlock_76 : decode cX12_readBlock 76 = .ok (.invokevirtual 235, 3) := by decide +kernel
theorem dX12_readBlock_79 : decode cX12_readBlock 79 = .ok (.iastore, 1) := by decide +kernel
theorem dX12_readBlock_80 : decode cX12_readBlock 80 = .ok (.aload_n 0, 1) := by decide +kernel
theorem dX12_readBlock_81 : decode cX12_readBlock 81 = .ok (.getfield 74, 3) := by decide +kernel
theorem dX12_readBlock_84 : decode cX12_readBlock 84 = .ok (.iconst 5, 1) := by decide +kernel
theorem dX12_readBlock_85 : decode cX12_readBlock 85 = .ok (.iload_n 3, 1) := by decide +kernel
theorem dX12_readBlock_86 : decode cX12_readBlock 86 = .ok (.imul, 1) := by decide +kernel
theorem dX12_readBlock_87 : decode cX12_readBlock 87 = .ok (.iconst 2, 1) := by decide +kernel
theorem dX12_readBlock_88 : decode cX12_readBlock 88 = .ok (.iadd, 1) := by decide +kernel
theorem dX12_readBlock_89 : decode cX12_readBlock 89 = .ok (.aload_n 0, 1) := by decide +kernel
theorem dX12_readBlock_90 : decode cX12_readBlock 90 = .ok (.invokevirtual 235, 3) := by decide +kernel
theorem dX12_readBlock_93 : decode cX12_readBlock 93 = .ok (.iastore, 1) := by decide +kernel
theorem dX12_readBlock_94 : decode cX12_readBlock 94 = .ok (.goto 18, 3) := by decide +kernel
theorem dX12_readBlock_97 : decode cX12_readBlock 97 = .ok (.aload_n 0, 1) := by decide +kernel
theorem dX12_readBlock_98 : decode cX12_readBlock 98 = .ok (.getfield 74, 3) := by decide +kernel
theorem dX12_readBlock_101 : decode cX12_readBlock 101 = .ok (.iconst 5, 1) := by decide +kernel
theorem dX12_readBlock_102 : decode cX12_readBlock 102 = .ok (.iload_n 3, 1) := by decide +kernel
theorem dX12_readBlock_103 : decode cX12_readBlock 103 = .ok (.imul, 1) := by decide +kernel
theorem dX12_readBlock_104 : decode cX12_readBlock 104 = .ok (.aload_n 0, 1) := by decide +kernel
theorem dX12_readBlock_105 : decode cX12_readBlock 105 = .ok (.iconst 0, 1) := by decide +kernel
theorem dX12_readBlock_106 : decode cX12_readBlock 106 = .ok (.bipush 12, 2) := by decide +kernel
theorem dX12_readBlock_108 : decode cX12_readBlock 108 = .ok (.invokevirtual 204, 3) := by decide +kernel
theorem dX12_readBlock_111 : decode cX12_readBlock 111 = .ok (.iastore, 1) := by decide +kernel
theorem dX12_readBlock_112 : decode cX12_readBlock 112 = .ok (.aload_n 0, 1) := by decide +kernel
theorem dX12_readBlock_113 : decode cX12_readBlock 113 = .ok (.bipush 40, 2) := by decide +kernel
theorem dX12_readBlock_115 : decode cX12_readBlock 115 = .ok (.invokevirtual 226, 3) := by decide +kernel
theorem dX12_readBlock_118 : decode cX12_readBlock 118 = .ok (.aload_n 0, 1) := by decide +kernel
theorem dX12_readBlock_119 : decode cX12_readBlock 119 = .ok (.iload_n 1, 1) := by decide +kernel
theorem dX12_readBlock_120 : decode cX12_readBlock 120 = .ok (.iconst 1, 1) := by decide +kernel
theorem dX12_readBlock_121 : decode cX12_readBlock 121 = .ok (.iadd, 1) := by decide +kernel
theorem dX12_readBlock_122 : decode cX12_readBlock 122 = .ok (.iconst 0, 1) := by decide +kernel
theorem dX12_readBlock_123 : decode cX12_readBlock 123 = .ok (.invokevirtual 239, 3) := by decide +kernel
theorem dX12_readBlock_126 : decode cX12_readBlock 126 = .ok (.aload_n 0, 1) := by decide +kernel
theorem dX12_readBlock_127 : decode cX12_readBlock 127 = .ok (.bipush 41, 2) := by decide +kernel
theorem dX12_readBlock_129 : decode cX12_readBlock 129 = .ok (.invokevirtual 226, 3) := by decide +kernel
theorem dX12_readBlock_132 : decode cX12_readBlock 132 = .ok (.aload_n 0, 1) := by decide +kernel
theorem dX12_readBlock_133 : decode cX12_readBlock 133 = .ok (.getfield 77, 3) := by decide +kernel
theorem dX12_readBlock_136 : decode cX12_readBlock 136 = .ok (.iload_n 3, 1) := by decide +kernel
theorem dX12_readBlock_137 : decode cX12_readBlock 137 = .ok (.aload_n 0, 1) := by decide +kernel
theorem dX12_readBlock_138 : decode cX12_readBlock 138 = .ok (.getfield 198, 3) := by decide +kernel
theorem dX12_readBlock_141 : decode cX12_readBlock 141 = .ok (.iastore, 1) := by decide +kernel
theorem dX12_readBlock_142 : decode cX12_readBlock 142 = .ok (.return_, 1) := by decide +kernel
theorem dX12_readLet_0 : decode cX12_readLet 0 = .ok (.aload_n 0, 1) := by decide +kernel
theorem dX12_readLet_1 : decode cX12_readLet 1 = .ok (.getfield 208, 3) := by decide +kernel
theorem dX12_readLet_4 : decode cX12_readLet 4 = .ok (.bipush 30, 2) := by decide +kernel
theorem dX12_readLet_6 : decode cX12_readLet 6 = .ok (.if_icmp .ne 9, 3) := by decide +kernel
theorem dX12_readLet_9 : decode cX12_readLet 9 = .ok (.aload_n 0, 1) := by decide +kernel
theorem dX12_readLet_10 : decode cX12_readLet 10 = .ok (.iconst 5, 1) := by decide +kernel
theorem dX12_readLet_11 : decode cX12_readLet 11 = .ok (.invokevirtual 188, 3) := by decide +kernel
theorem dX12_readLet_14 : decode cX12_readLet 14 = .ok (.return_, 1) := by decide +kernel
theorem dX12_readLet_15 : decode cX12_readLet 15 = .ok (.aload_n 0, 1) := by decide +kernel
theorem dX12_readLet_16 : decode cX12_readLet 16 = .ok (.iconst 3, 1) := by decide +kernel
theorem dX12_readLet_17 : decode cX12_readLet 17 = .ok (.invokevirtual 229, 3) := by decide +kernel
theorem dX12_readLet_20 : decode cX12_readLet 20 = .ok (.istore_n 1, 1) := by decide +kernel
theorem dX12_readLet_21 : decode cX12_readLet 21 = .ok (.aload_n 0, 1) := by decide +kernel
theorem dX12_readLet_22 : decode cX12_readLet 22 = .ok (.dup, 1) := by decide +kernel
theorem dX12_readLet_23 : decode cX12_readLet 23 = .ok (.getfield 179, 3) := by decide +kernel
theorem dX12_readLet_26 : decode cX12_readLet 26 = .ok (.iconst 1, 1) := by decide +kernel
theorem dX12_readLet_27 : decode cX12_readLet 27 = .ok (.iadd, 1) := by decide +kernel
theorem dX12_readLet_28 : decode cX12_readLet 28 = .ok (.putfield 179, 3) := by decide +kernel
theorem dX12_readLet_31 : decode cX12_readLet 31 = .ok (.aload_n 0, 1) := by decide +kernel
theorem dX12_readLet_32 : decode cX12_readLet 32 = .ok (.invokevirtual 243, 3) := by decide +kernel
theorem dX12_readLet_35 : decode cX12_readLet 35 = .ok (.ifCond .ne 11, 3) := by decide +kernel
theorem dX12_readLet_38 : decode cX12_readLet 38 = .ok (.aload_n 0, 1) := by decide +kernel
theorem dX12_readLet_39 : decode cX12_readLet 39 = .ok (.iconst 1, 1) := by decide +kernel
theorem dX12_readLet_40 : decode cX12_readLet 40 = .ok (.invokevirtual 188, 3) := by decide +kernel
theorem dX12_readLet_43 : decode cX12_readLet 43 = .ok (.goto 15, 3) := by decide +kernel
theorem dX12_readLet_46 : decode cX12_readLet 46 = .ok (.aload_n 0, 1) := by decide +kernel
theorem dX12_readLet_47 : decode cX12_readLet 47 = .ok (.invokevirtual 247, 3) := by decide +kernel
theorem dX12_readLet_50 : decode cX12_readLet 50 = .ok (.ifCond .lt 8, 3) := by decide +kernel
theorem dX12_readLet_53 : decode cX12_readLet 53 = .ok (.aload_n 0, 1) := by decide +kernel
theorem dX12_readLet_54 : decode cX12_readLet 54 = .ok (.iconst 3, 1) := by decide +kernel
theorem dX12_readLet_55 : decode cX12_readLet 55 = .ok (.invokevirtual 188, 3) := by decide +kernel
theorem dX12_readLet_58 : decode cX12_readLet 58 = .ok (.aload_n 0, 1) := by decide +kernel
theorem dX12_readLet_59 : decode cX12_readLet 59 = .ok (.getfield 182, 3) := by decide +kernel
theorem dX12_readLet_62 : decode cX12_readLet 62 = .ok (.ifCond .le 4, 3) := by decide +kernel
theorem dX12_readLet_65 : decode cX12_readLet 65 = .ok (.return_, 1) := by decide +kernel
theorem dX12_readLet_66 : decode cX12_readLet 66 = .ok (.aload_n 0, 1) := by decide +kernel
theorem dX12_readLet_67 : decode cX12_readLet 67 = .ok (.getfield 30, 3) := by decide +kernel
theorem dX12_readLet_70 : decode cX12_readLet 70 = .ok (.aload_n 0, 1) := by decide +kernel
theorem dX12_readLet_71 : decode cX12_readLet 71 = .ok (.getfield 179, 3) := by decide +kernel
theorem dX12_readLet_74 : decode cX12_readLet 74 = .ok (.laload, 1) := by decide +kernel
theorem dX12_readLet_75 : decode cX12_readLet 75 = .ok (.lstore_n 2, 1) := by decide +kernel
theorem dX12_readLet_76 : decode cX12_readLet 76 = .ok (.aload_n 0, 1) := by decide +kernel
theorem dX12_readLet_77 : decode cX12_readLet 77 = .ok (.dup, 1) := by decide +kernel
theorem dX12_readLet_78 : decode cX12_readLet 78 = .ok (.getfield 179, 3) := by decide +kernel
theorem dX12_readLet_81 : decode cX12_readLet 81 = .ok (.iconst 1, 1) := by decide +kernel
theorem dX12_readLet_82 : decode cX12_readLet 82 = .ok (.iadd, 1) := by decide +kernel
theorem dX12_readLet_83 : decode cX12_readLet 83 = .ok (.putfield 179, 3) := by decide +kernel
theorem dX12_readLet_86 : decode cX12_readLet 86 = .ok (.aload_n 0, 1) := by decide +kernel
theorem dX12_readLet_87 : decode cX12_readLet 87 = .ok (.bipush 40, 2) := by decide +kernel
theorem dX12_readLet_89 : decode cX12_readLet 89 = .ok (.invokevirtual 226, 3) := by decide +kernel
theorem dX12_readLet_92 : decode cX12_readLet 92 = .ok (.aload_n 0, 1) := by decide +kernel
theorem dX12_readLet_93 : decode cX12_readLet 93 = .ok (.iconst 0, 1) := by decide +kernel
theorem dX12_readLet_94 : decode cX12_readLet 94 = .ok (.iconst 0, 1) := by decide +kernel
theorem dX12_readLet_95 : decode cX12_readLet 95 = .ok (.invokevirtual 239, 3) := by decide +kernel
theorem dX12_readLet_98 : decode cX12_readLet 98 = .ok (.aload_n 0, 1) := by decide +kernel
theorem dX12_readLet_99 : decode cX12_readLet 99 = .ok (.bipush 41, 2) := by decide +kernel
theorem dX12_readLet_101 : decode cX12_readLet 101 = .ok (.invokevirtual 226, 3) := by decide +kernel
theorem dX12_readLet_104 : decode cX12_readLet 104 = .ok (.aload_n 0, 1) := by decide +kernel
theorem dX12_readLet_105 : decode cX12_readLet 105 = .ok (.getfield 77, 3) := by decide +kernel
theorem dX12_readLet_108 : decode cX12_readLet 108 = .ok (.iload_n 1, 1) := by decide +kernel
theorem dX12_readLet_109 : decode cX12_readLet 109 = .ok (.aload_n 0, 1) := by decide +kernel
theorem dX12_readLet_110 : decode cX12_readLet 110 = .ok (.getfield 198, 3) := by decide +kernel
theorem dX12_readLet_113 : decode cX12_readLet 113 = .ok (.iastore, 1) := by decide +kernel
theorem dX12_readLet_114 : decode cX12_readLet 114 = .ok (.aload_n 0, 1) := by decide +kernel
theorem dX12_readLet_115 : decode cX12_readLet 115 = .ok (.getfield 182, 3) := by decide +kernel
theorem dX12_readLet_118 : decode cX12_readLet 118 = .ok (.ifCond .ne 33, 3) := by decide +kernel
theorem dX12_readLet_121 : decode cX12_readLet 121 = .ok (.aload_n 0, 1) := by decide +kernel
theorem dX12_readLet_122 : decode cX12_readLet 122 = .ok (.getfield 80, 3) := by decide +kernel
theorem dX12_readLet_125 : decode cX12_readLet 125 = .ok (.aload_n 0, 1) := by decide +kernel
theorem dX12_readLet_126 : decode cX12_readLet 126 = .ok (.getfield 208, 3) := by decide +kernel
theorem dX12_readLet_129 : decode cX12_readLet 129 = .ok (.lload_n 2, 1) := by decide +kernel
theorem dX12_readLet_130 : decode cX12_readLet 130 = .ok (.lastore, 1) := by decide +kernel
theorem dX12_readLet_131 : decode cX12_readLet 131 = .ok (.aload_n 0, 1) := by decide +kernel
theorem dX12_readLet_132 : decode cX12_readLet 132 = .ok (.getfield 83, 3) := by decide +kernel
theorem dX12_readLet_135 : decode cX12_readLet 135 = .ok (.aload_n 0, 1) := by decide +kernel
theorem dX12_readLet_136 : decode cX12_readLet 136 = .ok (.getfield 208, 3) := by decide +kernel
theorem dX12_readLet_139 : decode cX12_readLet 139 = .ok (.iload_n 1, 1) := by decide +kernel
theorem dX12_readLet_140 : decode cX12_readLet 140 = .ok (.iastore, 1) := by decide +kernel
theorem dX12_readLet_141 : decode cX12_readLet 141 = .ok (.aload_n 0, 1) := by decide +kernel
theorem dX12_readLet_142 : decode cX12_readLet 142 = .ok (.dup, 1) := by decide +kernel
theorem dX12_readLet_143 : decode cX12_readLet 143 = .ok (.getfield 208, 3) := by decide +kernel
theorem dX12_readLet_146 : decode cX12_readLet 146 = .ok (.iconst 1, 1) := by decide +kernel
theorem dX12_readLet_147 : decode cX12_readLet 147 = .ok (.iadd, 1) := by decide +kernel
theorem dX12_readLet_148 : decode cX12_readLet 148 = .ok (.putfield 208, 3) := by decide +kernel
theorem dX12_readLet_151 : decode cX12_readLet 151 = .ok (.return_, 1) := by decide +kernel
theorem dX12_readUse_0 : decode cX12_readUse 0 = .ok (.aload_n 0, 1) := by decide +kernel
theorem dX12_readUse_1 : decode cX12_readUse 1 = .ok (.iconst 4, 1) := by decide +kernel
theorem dX12_readUse_2 : decode cX12_readUse 2 = .ok (.invokevirtual 229, 3) := by decide +kernel
theorem dX12_readUse_5 : decode cX12_readUse 5 = .ok (.istore_n 1, 1) := by decide +kernel
theorem dX12_readUse_6 : decode cX12_readUse 6 = .ok (.aload_n 0, 1) := by decide +kernel
theorem dX12_readUse_7 : decode cX12_readUse 7 = .ok (.dup, 1) := by decide +kernel
theorem dX12_readUse_8 : decode cX12_readUse 8 = .ok (.getfield 179, 3) := by decide +kernel
theorem dX12_readUse_11 : decode cX12_readUse 11 = .ok (.iconst 1, 1) := by decide +kernel
theorem dX12_readUse_12 : decode cX12_readUse 12 = .ok (.iadd, 1) := by decide +kernel
theorem dX12_readUse_13 : decode cX12_readUse 13 = .ok (.putfield 179, 3) := by decide +kernel
theorem dX12_readUse_16 : decode cX12_readUse 16 = .ok (.aload_n 0, 1) := by decide +kernel
theorem dX12_readUse_17 : decode cX12_readUse 17 = .ok (.invokevirtual 243, 3) := by decide +kernel
theorem dX12_readUse_20 : decode cX12_readUse 20 = .ok (.ifCond .eq 10, 3) := by decide +kernel
theorem dX12_readUse_23 : decode cX12_readUse 23 = .ok (.aload_n 0, 1) := by decide +kernel
theorem dX12_readUse_24 : decode cX12_readUse 24 = .ok (.invokevirtual 247, 3) := by decide +kernel
theorem dX12_readUse_27 : decode cX12_readUse 27 = .ok (.goto 4, 3) := by decide +kernel
theorem dX12_readUse_30 : decode cX12_readUse 30 = .ok (.iconst (-1), 1) := by decide +kernel
theorem dX12_readUse_31 : decode cX12_readUse 31 = .ok (.istore_n 2, 1) := by decide +kernel
theorem dX12_readUse_32 : decode cX12_readUse 32 = .ok (.aload_n 0, 1) := by decide +kernel
theorem dX12_readUse_33 : decode cX12_readUse 33 = .ok (.invokevirtual 243, 3) := by decide +kernel
theorem dX12_readUse_36 : decode cX12_readUse 36 = .ok (.ifCond .ne 11, 3) := by decide +kernel
theorem dX12_readUse_39 : decode cX12_readUse 39 = .ok (.aload_n 0, 1) := by decide +kernel
theorem dX12_readUse_40 : decode cX12_readUse 40 = .ok (.iconst 1, 1) := by decide +kernel
theorem dX12_readUse_41 : decode cX12_readUse 41 = .ok (.invokevirtual 188, 3) := by decide +kernel
theorem dX12_readUse_44 : decode cX12_readUse 44 = .ok (.goto 12, 3) := by decide +kernel
theorem dX12_readUse_47 : decode cX12_readUse 47 = .ok (.iload_n 2, 1) := by decide +kernel
theorem dX12_readUse_48 : decode cX12_readUse 48 = .ok (.ifCond .ge 8, 3) := by decide +kernel
theorem dX12_readUse_51 : decode cX12_readUse 51 = .ok (.aload_n 0, 1) := by decide +kernel
theorem dX12_readUse_52 : decode cX12_readUse 52 = .ok (.iconst 2, 1) := by decide +kernel
theorem dX12_readUse_53 : decode cX12_readUse 53 = .ok (.invokevirtual 188, 3) := by decide +kernel
theorem dX12_readUse_56 : decode cX12_readUse 56 = .ok (.aload_n 0, 1) := by decide +kernel
theorem dX12_readUse_57 : decode cX12_readUse 57 = .ok (.getfield 182, 3) := by decide +kernel
theorem dX12_readUse_60 : decode cX12_readUse 60 = .ok (.ifCond .le 4, 3) := by decide +kernel
theorem dX12_readUse_63 : decode cX12_readUse 63 = .ok (.return_, 1) := by decide +kernel
theorem dX12_readUse_64 : decode cX12_readUse 64 = .ok (.aload_n 0, 1) := by decide +kernel
theorem dX12_readUse_65 : decode cX12_readUse 65 = .ok (.dup, 1) := by decide +kernel
theorem dX12_readUse_66 : decode cX12_readUse 66 = .ok (.getfield 179, 3) := by decide +kernel
theorem dX12_readUse_69 : decode cX12_readUse 69 = .ok (.iconst 1, 1) := by decide +kernel
theorem dX12_readUse_70 : decode cX12_readUse 70 = .ok (.iadd, 1) := by decide +kernel
theorem dX12_readUse_71 : decode cX12_readUse 71 = .ok (.putfield 179, 3) := by decide +kernel
theorem dX12_readUse_74 : decode cX12_readUse 74 = .ok (.aload_n 0, 1) := by decide +kernel
theorem dX12_readUse_75 : decode cX12_readUse 75 = .ok (.getfield 74, 3) := by decide +kernel
theorem dX12_readUse_78 : decode cX12_readUse 78 = .ok (.iconst 5, 1) := by decide +kernel
theorem dX12_readUse_79 : decode cX12_readUse 79 = .ok (.iload_n 1, 1) := by decide +kernel
theorem dX12_readUse_80 : decode cX12_readUse 80 = .ok (.imul, 1) := by decide +kernel
theorem dX12_readUse_81 : decode cX12_readUse 81 = .ok (.iload_n 2, 1) := by decide +kernel
theorem dX12_readUse_82 : decode cX12_readUse 82 = .ok (.iastore, 1) := by decide +kernel
theorem dX12_readUse_83 : decode cX12_readUse 83 = .ok (.aload_n 0, 1) := by decide +kernel
theorem dX12_readUse_84 : decode cX12_readUse 84 = .ok (.bipush 7, 2) := by decide +kernel
theorem dX12_readUse_86 : decode cX12_readUse 86 = .ok (.invokevirtual 232, 3) := by decide +kernel
theorem dX12_readUse_89 : decode cX12_readUse 89 = .ok (.aload_n 0, 1) := by decide +kernel
theorem dX12_readUse_90 : decode cX12_readUse 90 = .ok (.getfield 74, 3) := by decide +kernel
theorem dX12_readUse_93 : decode cX12_readUse 93 = .ok (.iconst 5, 1) := by decide +kernel
theorem dX12_readUse_94 : decode cX12_readUse 94 = .ok (.iload_n 1, 1) := by decide +kernel
theorem dX12_readUse_95 : decode cX12_readUse 95 = .ok (.imul, 1) := by decide +kernel
theorem dX12_readUse_96 : decode cX12_readUse 96 = .ok (.iconst 1, 1) := by decide +kernel
theorem dX12_readUse_97 : decode cX12_readUse 97 = .ok (.iadd, 1) := by decide +kernel
theorem dX12_readUse_98 : decode cX12_readUse 98 = .ok (.aload_n 0, 1) := by decide +kernel
theorem dX12_readUse_99 : decode cX12_readUse 99 = .ok (.invokevirtual 235, 3) := by decide +kernel
theorem dX12_readUse_102 : decode cX12_readUse 102 = .ok (.iastore, 1) := by decide +kernel
theorem dX12_readUse_103 : decode cX12_readUse 103 = .ok (.aload_n 0, 1) := by decide +kernel
theorem dX12_readUse_104 : decode cX12_readUse 104 = .ok (.getfield 74, 3) := by decide +kernel
theorem dX12_readUse_107 : decode cX12_readUse 107 = .ok (.iconst 5, 1) := by decide +kernel
theorem dX12_readUse_108 : decode cX12_readUse 108 = .ok (.iload_n 1, 1) := by decide +kernel
theorem dX12_readUse_109 : decode cX12_readUse 109 = .ok (.imul, 1) := by decide +kernel
theorem dX12_readUse_110 : decode cX12_readUse 110 = .ok (.iconst 2, 1) := by decide +kernel
theorem dX12_readUse_111 : decode cX12_readUse 111 = .ok (.iadd, 1) := by decide +kernel
theorem dX12_readUse_112 : decode cX12_readUse 112 = .ok (.aload_n 0, 1) := by decide +kernel
theorem dX12_readUse_113 : decode cX12_readUse 113 = .ok (.invokevirtual 235, 3) := by decide +kernel
theorem dX12_readUse_116 : decode cX12_readUse 116 = .ok (.iastore, 1) := by decide +kernel
theorem dX12_readUse_117 : decode cX12_readUse 117 = .ok (.return_, 1) := by decide +kernel
theorem dX12_readLower_0 : decode cX12_readLower 0 = .ok (.aload_n 0, 1) := by decide +kernel
theorem dX12_readLower_1 : decode cX12_readLower 1 = .ok (.iconst 5, 1) := by decide +kernel
theorem dX12_readLower_2 : decode cX12_readLower 2 = .ok (.invokevirtual 192, 3) := by decide +kernel
theorem dX12_readLower_5 : decode cX12_readLower 5 = .ok (.istore_n 1, 1) := by decide +kernel
theorem dX12_readLower_6 : decode cX12_readLower 6 = .ok (.aload_n 0, 1) := by decide +kernel
theorem dX12_readLower_7 : decode cX12_readLower 7 = .ok (.iload_n 1, 1) := by decide +kernel
theorem dX12_readLower_8 : decode cX12_readLower 8 = .ok (.ifCond .eq 7, 3) := by decide +kernel
theorem dX12_readLower_11 : decode cX12_readLower 11 = .ok (.iconst 5, 1) := by decide +kernel
theorem dX12_readLower_12 : decode cX12_readLower 12 = .ok (.goto 5, 3) := by decide +kernel
theorem dX12_readLower_15 : decode cX12_readLower 15 = .ok (.bipush 6, 2) := by decide +kernel
theorem dX12_readLower_17 : decode cX12_readLower 17 = .ok (.invokevirtual 229, 3) := by decide +kernel
theorem dX12_readLower_20 : decode cX12_readLower 20 = .ok (.istore_n 2, 1) := by decide +kernel
theorem dX12_readLower_21 : decode cX12_readLower 21 = .ok (.aload_n 0, 1) := by decide +kernel
theorem dX12_readLower_22 : decode cX12_readLower 22 = .ok (.dup, 1) := by decide +kernel
theorem dX12_readLower_23 : decode cX12_readLower 23 = .ok (.getfield 179, 3) := by decide +kernel
theorem dX12_readLower_26 : decode cX12_readLower 26 = .ok (.iconst 1, 1) := by decide +kernel
theorem dX12_readLower_27 : decode cX12_readLower 27 = .ok (.iadd, 1) := by decide +kernel
theorem dX12_readLower_28 : decode cX12_readLower 28 = .ok (.putfield 179, 3) := by decide +kernel
theorem dX12_readLower_31 : decode cX12_readLower 31 = .ok (.iload_n 1, 1) := by decide +kernel
theorem dX12_readLower_32 : decode cX12_readLower 32 = .ok (.ifCond .eq 37, 3) := by decide +kernel
theorem dX12_readLower_35 : decode cX12_readLower 35 = .ok (.aload_n 0, 1) := by decide +kernel
theorem dX12_readLower_36 : decode cX12_readLower 36 = .ok (.getfield 74, 3) := by decide +kernel
theorem dX12_readLower_39 : decode cX12_readLower 39 = .ok (.iconst 5, 1) := by decide +kernel
theorem dX12_readLower_40 : decode cX12_readLower 40 = .ok (.iload_n 2, 1) := by decide +kernel
theorem dX12_readLower_41 : decode cX12_readLower 41 = .ok (.imul, 1) := by decide +kernel
theorem dX12_readLower_42 : decode cX12_readLower 42 = .ok (.aload_n 0, 1) := by decide +kernel
theorem dX12_readLower_43 : decode cX12_readLower 43 = .ok (.iconst 0, 1) := by decide +kernel
theorem dX12_readLower_44 : decode cX12_readLower 44 = .ok (.bipush 12, 2) := by decide +kernel
theorem dX12_readLower_46 : decode cX12_readLower 46 = .ok (.invokevirtual 204, 3) := by decide +kernel
theorem dX12_readLower_49 : decode cX12_readLower 49 = .ok (.iastore, 1) := by decide +kernel
theorem dX12_readLower_50 : decode cX12_readLower 50 = .ok (.aload_n 0, 1) := by decide +kernel
theorem dX12_readLower_51 : decode cX12_readLower 51 = .ok (.getfield 74, 3) := by decide +kernel
theorem dX12_readLower_54 : decode cX12_readLower 54 = .ok (.iconst 5, 1) := by decide +kernel
theorem dX12_readLower_55 : decode cX12_readLower 55 = .ok (.iload_n 2, 1) := by decide +kernel
theorem dX12_readLower_56 : decode cX12_readLower 56 = .ok (.imul, 1) := by decide +kernel
theorem dX12_readLower_57 : decode cX12_readLower 57 = .ok (.iconst 1, 1) := by decide +kernel
theorem dX12_readLower_58 : decode cX12_readLower 58 = .ok (.iadd, 1) := by decide +kernel
theorem dX12_readLower_59 : decode cX12_readLower 59 = .ok (.aload_n 0, 1) := by decide +kernel
theorem dX12_readLower_60 : decode cX12_readLower 60 = .ok (.iconst 0, 1) := by decide +kernel
theorem dX12_readLower_61 : decode cX12_readLower 61 = .ok (.iconst 4, 1) := by decide +kernel
theorem dX12_readLower_62 : decode cX12_readLower 62 = .ok (.invokevirtual 204, 3) := by decide +kernel
theorem dX12_readLower_65 : decode cX12_readLower 65 = .ok (.iastore, 1) := by decide +kernel
theorem dX12_readLower_66 : decode cX12_readLower 66 = .ok (.goto 68, 3) := by decide +kernel
theorem dX12_readLower_69 : decode cX12_readLower 69 = .ok (.aload_n 0, 1) := by decide +kernel
theorem dX12_readLower_70 : decode cX12_readLower 70 = .ok (.getfield 74, 3) := by decide +kernel
theorem dX12_readLower_73 : decode cX12_readLower 73 = .ok (.iconst 5, 1) := by decide +kernel
theorem dX12_readLower_74 : decode cX12_readLower 74 = .ok (.iload_n 2, 1) := by decide +kernel
theorem dX12_readLower_75 : decode cX12_readLower 75 = .ok (.imul, 1) := by decide +kernel
theorem dX12_readLower_76 : decode cX12_readLower 76 = .ok (.aload_n 0, 1) := by decide +kernel
theorem dX12_readLower_77 : decode cX12_readLower 77 = .ok (.iconst 0, 1) := by decide +kernel
theorem dX12_readLower_78 : decode cX12_readLower 78 = .ok (.iconst 3, 1) := by decide +kernel
theorem dX12_readLower_79 : decode cX12_readLower 79 = .ok (.invokevirtual 204, 3) := by decide +kernel
theorem dX12_readLower_82 : decode cX12_readLower 82 = .ok (.iastore, 1) := by decide +kernel
theorem dX12_readLower_83 : decode cX12_readLower 83 = .ok (.aload_n 0, 1) := by decide +kernel
theorem dX12_readLower_84 : decode cX12_readLower 84 = .ok (.getfield 74, 3) := by decide +kernel
theorem dX12_readLower_87 : decode cX12_readLower 87 = .ok (.iconst 5, 1) := by decide +kernel
theorem dX12_readLower_88 : decode cX12_readLower 88 = .ok (.iload_n 2, 1) := by decide +kernel
theorem dX12_readLower_89 : decode cX12_readLower 89 = .ok (.imul, 1) := by decide +kernel
theorem dX12_readLower_90 : decode cX12_readLower 90 = .ok (.iconst 1, 1) := by decide +kernel
theorem dX12_readLower_91 : decode cX12_readLower 91 = .ok (.iadd, 1) := by decide +kernel
theorem dX12_readLower_92 : decode cX12_readLower 92 = .ok (.aload_n 0, 1) := by decide +kernel
theorem dX12_readLower_93 : decode cX12_readLower 93 = .ok (.iconst 0, 1) := by decide +kernel
theorem dX12_readLower_94 : decode cX12_readLower 94 = .ok (.bipush 12, 2) := by decide +kernel
theorem dX12_readLower_96 : decode cX12_readLower 96 = .ok (.invokevirtual 204, 3) := by decide +kernel
theorem dX12_readLower_99 : decode cX12_readLower 99 = .ok (.iastore, 1) := by decide +kernel
theorem dX12_readLower_100 : decode cX12_readLower 100 = .ok (.aload_n 0, 1) := by decide +kernel
theorem dX12_readLower_101 : decode cX12_readLower 101 = .ok (.getfield 74, 3) := by decide +kernel
theorem dX12_readLower_104 : decode cX12_readLower 104 = .ok (.iconst 5, 1) := by decide +kernel
theorem dX12_readLower_105 : decode cX12_readLower 105 = .ok (.iload_n 2, 1) := by decide +kernel
theorem dX12_readLower_106 : decode cX12_readLower 106 = .ok (.imul, 1) := by decide +kernel
theorem dX12_readLower_107 : decode cX12_readLower 107 = .ok (.iconst 2, 1) := by decide +kernel
theorem dX12_readLower_108 : decode cX12_readLower 108 = .ok (.iadd, 1) := by decide +kernel
theorem dX12_readLower_109 : decode cX12_readLower 109 = .ok (.aload_n 0, 1) := by decide +kernel
theorem dX12_readLower_110 : decode cX12_readLower 110 = .ok (.iconst 0, 1) := by decide +kernel
theorem dX12_readLower_111 : decode cX12_readLower 111 = .ok (.iconst 3, 1) := by decide +kernel
theorem dX12_readLower_112 : decode cX12_readLower 112 = .ok (.invokevirtual 204, 3) := by decide +kernel
theorem dX12_readLower_115 : decode cX12_readLower 115 = .ok (.iastore, 1) := by decide +kernel
theorem dX12_readLower_116 : decode cX12_readLower 116 = .ok (.aload_n 0, 1) := by decide +kernel
theorem dX12_readLower_117 : decode cX12_readLower 117 = .ok (.getfield 74, 3) := by decide +kernel
theorem dX12_readLower_120 : decode cX12_readLower 120 = .ok (.iconst 5, 1) := by decide +kernel
theorem dX12_readLower_121 : decode cX12_readLower 121 = .ok (.iload_n 2, 1) := by decide +kernel
theorem dX12_readLower_122 : decode cX12_readLower 122 = .ok (.imul, 1) := by decide +kernel
theorem dX12_readLower_123 : decode cX12_readLower 123 = .ok (.iconst 3, 1) := by decide +kernel
theorem dX12_readLower_124 : decode cX12_readLower 124 = .ok (.iadd, 1) := by decide +kernel
theorem dX12_readLower_125 : decode cX12_readLower 125 = .ok (.aload_n 0, 1) := by decide +kernel
theorem dX12_readLower_126 : decode cX12_readLower 126 = .ok (.iconst 0, 1) := by decide +kernel
theorem dX12_readLower_127 : decode cX12_readLower 127 = .ok (.sipush 999, 3) := by decide +kernel
theorem dX12_readLower_130 : decode cX12_readLower 130 = .ok (.invokevirtual 204, 3) := by decide +kernel
theorem dX12_readLower_133 : decode cX12_readLower 133 = .ok (.iastore, 1) := by decide +kernel
theorem dX12_readLower_134 : decode cX12_readLower 134 = .ok (.return_, 1) := by decide +kernel
theorem dX12_copies_0 : decode cX12_copies 0 = .ok (.iconst 0, 1) := by decide +kernel
theorem dX12_copies_1 : decode cX12_copies 1 = .ok (.istore_n 3, 1) := by decide +kernel
theorem dX12_copies_2 : decode cX12_copies 2 = .ok (.iload_n 3, 1) := by decide +kernel
theorem dX12_copies_3 : decode cX12_copies 3 = .ok (.sipush 156, 3) := by decide +kernel
theorem dX12_copies_6 : decode cX12_copies 6 = .ok (.if_icmp .ge 81, 3) := by decide +kernel
theorem dX12_copies_9 : decode cX12_copies 9 = .ok (.aload_n 0, 1) := by decide +kernel
theorem dX12_copies_10 : decode cX12_copies 10 = .ok (.getfield 86, 3) := by decide +kernel
theorem dX12_copies_13 : decode cX12_copies 13 = .ok (.sipush 156, 3) := by decide +kernel
theorem dX12_copies_16 : decode cX12_copies 16 = .ok (.iload_n 2, 1) := by decide +kernel
theorem dX12_copies_17 : decode cX12_copies 17 = .ok (.imul, 1) := by decide +kernel
theorem dX12_copies_18 : decode cX12_copies 18 = .ok (.iload_n 3, 1) := by decide +kernel
theorem dX12_copies_19 : decode cX12_copies 19 = .ok (.iadd, 1) := by decide +kernel
theorem dX12_copies_20 : decode cX12_copies 20 = .ok (.aload_n 0, 1) := by decide +kernel
theorem dX12_copies_21 : decode cX12_copies 21 = .ok (.getfield 86, 3) := by decide +kernel
theorem dX12_copies_24 : decode cX12_copies 24 = .ok (.sipush 156, 3) := by decide +kernel
theorem dX12_copies_27 : decode cX12_copies 27 = .ok (.iload_n 1, 1) := by decide +kernel
theorem dX12_copies_28 : decode cX12_copies 28 = .ok (.imul, 1) := by decide +kernel
theorem dX12_copies_29 : decode cX12_copies 29 = .ok (.iload_n 3, 1) := by decide +kernel
theorem dX12_copies_30 : decode cX12_copies 30 = .ok (.iadd, 1) := by decide +kernel
theorem dX12_copies_31 : decode cX12_copies 31 = .ok (.iaload, 1) := by decide +kernel
theorem dX12_copies_32 : decode cX12_copies 32 = .ok (.iastore, 1) := by decide +kernel
theorem dX12_copies_33 : decode cX12_copies 33 = .ok (.aload_n 0, 1) := by decide +kernel
theorem dX12_copies_34 : decode cX12_copies 34 = .ok (.getfield 89, 3) := by decide +kernel
theorem dX12_copies_37 : decode cX12_copies 37 = .ok (.sipush 156, 3) := by decide +kernel
theorem dX12_copies_40 : decode cX12_copies 40 = .ok (.iload_n 2, 1) := by decide +kernel
theorem dX12_copies_41 : decode cX12_copies 41 = .ok (.imul, 1) := by decide +kernel
theorem dX12_copies_42 : decode cX12_copies 42 = .ok (.iload_n 3, 1) := by decide +kernel
theorem dX12_copies_43 : decode cX12_copies 43 = .ok (.iadd, 1) := by decide +kernel
theorem dX12_copies_44 : decode cX12_copies 44 = .ok (.aload_n 0, 1) := by decide +kernel
theorem dX12_copies_45 : decode cX12_copies 45 = .ok (.getfield 89, 3) := by decide +kernel
theorem dX12_copies_48 : decode cX12_copies 48 = .ok (.sipush 156, 3) := by decide +kernel
theorem dX12_copies_51 : decode cX12_copies 51 = .ok (.iload_n 1, 1) := by decide +kernel
theorem dX12_copies_52 : decode cX12_copies 52 = .ok (.imul, 1) := by decide +kernel
theorem dX12_copies_53 : decode cX12_copies 53 = .ok (.iload_n 3, 1) := by decide +kernel
theorem dX12_copies_54 : decode cX12_copies 54 = .ok (.iadd, 1) := by decide +kernel
theorem dX12_copies_55 : decode cX12_copies 55 = .ok (.iaload, 1) := by decide +kernel
theorem dX12_copies_56 : decode cX12_copies 56 = .ok (.iastore, 1) := by decide +kernel
theorem dX12_copies_57 : decode cX12_copies 57 = .ok (.aload_n 0, 1) := by decide +kernel
theorem dX12_copies_58 : decode cX12_copies 58 = .ok (.getfield 92, 3) := by decide +kernel
theorem dX12_copies_61 : decode cX12_copies 61 = .ok (.sipush 156, 3) := by decide +kernel
theorem dX12_copies_64 : decode cX12_copies 64 = .ok (.iload_n 2, 1) := by decide +kernel
theorem dX12_copies_65 : decode cX12_copies 65 = .ok (.imul, 1) := by decide +kernel
theorem dX12_copies_66 : decode cX12_copies 66 = .ok (.iload_n 3, 1) := by decide +kernel
theorem dX12_copies_67 : decode cX12_copies 67 = .ok (.iadd, 1) := by decide +kernel
theorem dX12_copies_68 : decode cX12_copies 68 = .ok (.aload_n 0, 1) := by decide +kernel
theorem dX12_copies_69 : decode cX12_copies 69 = .ok (.getfield 92, 3) := by decide +kernel
theorem dX12_copies_72 : decode cX12_copies 72 = .ok (.sipush 156, 3) := by decide +kernel
theorem dX12_copies_75 : decode cX12_copies 75 = .ok (.iload_n 1, 1) := by decide +kernel
theorem dX12_copies_76 : decode cX12_copies 76 = .ok (.imul, 1) := by decide +kernel
theorem dX12_copies_77 : decode cX12_copies 77 = .ok (.iload_n 3, 1) := by decide +kernel
theorem dX12_copies_78 : decode cX12_copies 78 = .ok (.iadd, 1) := by decide +kernel
theorem dX12_copies_79 : decode cX12_copies 79 = .ok (.iaload, 1) := by decide +kernel
theorem dX12_copies_80 : decode cX12_copies 80 = .ok (.iastore, 1) := by decide +kernel
theorem dX12_copies_81 : decode cX12_copies 81 = .ok (.iinc 3 1, 3) := by decide +kernel
theorem dX12_copies_84 : decode cX12_copies 84 = .ok (.goto (-82), 3) := by decide +kernel
theorem dX12_copies_87 : decode cX12_copies 87 = .ok (.iconst 0, 1) := by decide +kernel
theorem dX12_copies_88 : decode cX12_copies 88 = .ok (.istore_n 3, 1) := by decide +kernel
theorem dX12_copies_89 : decode cX12_copies 89 = .ok (.iload_n 3, 1) := by decide +kernel
theorem dX12_copies_90 : decode cX12_copies 90 = .ok (.bipush 13, 2) := by decide +kernel
theorem dX12_copies_92 : decode cX12_copies 92 = .ok (.if_icmp .ge 31, 3) := by decide +kernel
theorem dX12_copies_95 : decode cX12_copies 95 = .ok (.aload_n 0, 1) := by decide +kernel
theorem dX12_copies_96 : decode cX12_copies 96 = .ok (.getfield 95, 3) := by decide +kernel
theorem dX12_copies_99 : decode cX12_copies 99 = .ok (.bipush 13, 2) := by decide +kernel
theorem dX12_copies_101 : decode cX12_copies 101 = .ok (.iload_n 2, 1) := by decide +kernel
theorem dX12_copies_102 : decode cX12_copies 102 = .ok (.imul, 1) := by decide +kernel
theorem dX12_copies_103 : decode cX12_copies 103 = .ok (.iload_n 3, 1) := by decide +kernel
theorem dX12_copies_104 : decode cX12_copies 104 = .ok (.iadd, 1) := by decide +kernel
theorem dX12_copies_105 : decode cX12_copies 105 = .ok (.aload_n 0, 1) := by decide +kernel
theorem dX12_copies_106 : decode cX12_copies 106 = .ok (.getfield 95, 3) := by decide +kernel
theorem dX12_copies_109 : decode cX12_copies 109 = .ok (.bipush 13, 2) := by decide +kernel
theorem dX12_copies_111 : decode cX12_copies 111 = .ok (.iload_n 1, 1) := by decide +kernel
theorem dX12_copies_112 : decode cX12_copies 112 = .ok (.imul, 1) := by decide +kernel
theorem dX12_copies_113 : decode cX12_copies 113 = .ok (.iload_n 3, 1) := by decide +kernel
theorem dX12_copies_114 : decode cX12_copies 114 = .ok (.iadd, 1) := by decide +kernel
theorem dX12_copies_115 : decode cX12_copies 115 = .ok (.iaload, 1) := by decide +kernel
theorem dX12_copies_116 : decode cX12_copies 116 = .ok (.iastore, 1) := by decide +kernel
theorem dX12_copies_117 : decode cX12_copies 117 = .ok (.iinc 3 1, 3) := by decide +kernel
theorem dX12_copies_120 : decode cX12_copies 120 = .ok (.goto (-31), 3) := by decide +kernel
theorem dX12_copies_123 : decode cX12_copies 123 = .ok (.iconst 0, 1) := by decide +kernel
theorem dX12_copies_124 : decode cX12_copies 124 = .ok (.istore_n 3, 1) := by decide +kernel
theorem dX12_copies_125 : decode cX12_copies 125 = .ok (.iload_n 3, 1) := by decide +kernel
theorem dX12_copies_126 : decode cX12_copies 126 = .ok (.iconst 4, 1) := by decide +kernel
theorem dX12_copies_127 : decode cX12_copies 127 = .ok (.if_icmp .ge 69, 3) := by decide +kernel
theorem dX12_copies_130 : decode cX12_copies 130 = .ok (.aload_n 0, 1) := by decide +kernel
theorem dX12_copies_131 : decode cX12_copies 131 = .ok (.getfield 98, 3) := by decide +kernel
theorem dX12_copies_134 : decode cX12_copies 134 = .ok (.iconst 4, 1) := by decide +kernel
theorem dX12_copies_135 : decode cX12_copies 135 = .ok (.iload_n 2, 1) := by decide +kernel
theorem dX12_copies_136 : decode cX12_copies 136 = .ok (.imul, 1) := by decide +kernel
theorem dX12_copies_137 : decode cX12_copies 137 = .ok (.iload_n 3, 1) := by decide +kernel
theorem dX12_copies_138 : decode cX12_copies 138 = .ok (.iadd, 1) := by decide +kernel
theorem dX12_copies_139 : decode cX12_copies 139 = .ok (.aload_n 0, 1) := by decide +kernel
theorem dX12_copies_140 : decode cX12_copies 140 = .ok (.getfield 98, 3) := by decide +kernel
theorem dX12_copies_143 : decode cX12_copies 143 = .ok (.iconst 4, 1) := by decide +kernel
theorem dX12_copies_144 : decode cX12_copies 144 = .ok (.iload_n 1, 1) := by decide +kernel
theorem dX12_copies_145 : decode cX12_copies 145 = .ok (.imul, 1) := by decide +kernel
theorem dX12_copies_146 : decode cX12_copies 146 = .ok (.iload_n 3, 1) := by decide +kernel
theorem dX12_copies_147 : decode cX12_copies 147 = .ok (.iadd, 1) := by decide +kernel
theorem dX12_copies_148 : decode cX12_copies 148 = .ok (.iaload, 1) := by decide +kernel
theorem dX12_copies_149 : decode cX12_copies 149 = .ok (.iastore, 1) := by decide +kernel
theorem dX12_copies_150 : decode cX12_copies 150 = .ok (.aload_n 0, 1) := by decide +kernel
theorem dX12_copies_151 : decode cX12_copies 151 = .ok (.getfield 101, 3) := by decide +kernel
theorem dX12_copies_154 : decode cX12_copies 154 = .ok (.iconst 4, 1) := by decide +kernel
theorem dX12_copies_155 : decode cX12_copies 155 = .ok (.iload_n 2, 1) := by decide +kernel
theorem dX12_copies_156 : decode cX12_copies 156 = .ok (.imul, 1) := by decide +kernel
theorem dX12_copies_157 : decode cX12_copies 157 = .ok (.iload_n 3, 1) := by decide +kernel
theorem dX12_copies_158 : decode cX12_copies 158 = .ok (.iadd, 1) := by decide +kernel
theorem dX12_copies_159 : decode cX12_copies 159 = .ok (.aload_n 0, 1) := by decide +kernel
theorem dX12_copies_160 : decode cX12_copies 160 = .ok (.getfield 101, 3) := by decide +kernel
theorem dX12_copies_163 : decode cX12_copies 163 = .ok (.iconst 4, 1) := by decide +kernel
theorem dX12_copies_164 : decode cX12_copies 164 = .ok (.iload_n 1, 1) := by decide +kernel
theorem dX12_copies_165 : decode cX12_copies 165 = .ok (.imul, 1) := by decide +kernel
theorem dX12_copies_166 : decode cX12_copies 166 = .ok (.iload_n 3, 1) := by decide +kernel
theorem dX12_copies_167 : decode cX12_copies 167 = .ok (.iadd, 1) := by decide +kernel
theorem dX12_copies_168 : decode cX12_copies 168 = .ok (.iaload, 1) := by decide +kernel
theorem dX12_copies_169 : decode cX12_copies 169 = .ok (.iastore, 1) := by decide +kernel
theorem dX12_copies_170 : decode cX12_copies 170 = .ok (.aload_n 0, 1) := by decide +kernel
theorem dX12_copies_171 : decode cX12_copies 171 = .ok (.getfield 104, 3) := by decide +kernel
theorem dX12_copies_174 : decode cX12_copies 174 = .ok (.iconst 4, 1) := by decide +kernel
theorem dX12_copies_175 : decode cX12_copies 175 = .ok (.iload_n 2, 1) := by decide +kernel
theorem dX12_copies_176 : decode cX12_copies 176 = .ok (.imul, 1) := by decide +kernel
theorem dX12_copies_177 : decode cX12_copies 177 = .ok (.iload_n 3, 1) := by decide +kernel
theorem dX12_copies_178 : decode cX12_copies 178 = .ok (.iadd, 1) := by decide +kernel
theorem dX12_copies_179 : decode cX12_copies 179 = .ok (.aload_n 0, 1) := by decide +kernel
theorem dX12_copies_180 : decode cX12_copies 180 = .ok (.getfield 104, 3) := by decide +kernel
theorem dX12_copies_183 : decode cX12_copies 183 = .ok (.iconst 4, 1) := by decide +kernel
theorem dX12_copies_184 : decode cX12_copies 184 = .ok (.iload_n 1, 1) := by decide +kernel
theorem dX12_copies_185 : decode cX12_copies 185 = .ok (.imul, 1) := by decide +kernel
theorem dX12_copies_186 : decode cX12_copies 186 = .ok (.iload_n 3, 1) := by decide +kernel
theorem dX12_copies_187 : decode cX12_copies 187 = .ok (.iadd, 1) := by decide +kernel
theorem dX12_copies_188 : decode cX12_copies 188 = .ok (.iaload, 1) := by decide +kernel
theorem dX12_copies_189 : decode cX12_copies 189 = .ok (.iastore, 1) := by decide +kernel
theorem dX12_copies_190 : decode cX12_copies 190 = .ok (.iinc 3 1, 3) := by decide +kernel
theorem dX12_copies_193 : decode cX12_copies 193 = .ok (.goto (-68), 3) := by decide +kernel
theorem dX12_copies_196 : decode cX12_copies 196 = .ok (.return_, 1) := by decide +kernel
theorem dX12_isMoving_0 : decode cX12_isMoving 0 = .ok (.iload_n 0, 1) := by decide +kernel
theorem dX12_isMoving_1 : decode cX12_isMoving 1 = .ok (.iconst 4, 1) := by decide +kernel
theorem dX12_isMoving_2 : decode cX12_isMoving 2 = .ok (.if_icmp .eq 15, 3) := by decide +kernel
theorem dX12_isMoving_5 : decode cX12_isMoving 5 = .ok (.iload_n 0, 1) := by decide +kernel
theorem dX12_isMoving_6 : decode cX12_isMoving 6 = .ok (.bipush 7, 2) := by decide +kernel
theorem dX12_isMoving_8 : decode cX12_isMoving 8 = .ok (.if_icmp .eq 9, 3) := by decide +kernel
theorem dX12_isMoving_11 : decode cX12_isMoving 11 = .ok (.iload_n 0, 1) := by decide +kernel
theorem dX12_isMoving_12 : decode cX12_isMoving 12 = .ok (.bipush 9, 2) := by decide +kernel
theorem dX12_isMoving_14 : decode cX12_isMoving 14 = .ok (.if_icmp .ne 7, 3) := by decide +kernel
theorem dX12_isMoving_17 : decode cX12_isMoving 17 = .ok (.iconst 1, 1) := by decide +kernel
theorem dX12_isMoving_18 : decode cX12_isMoving 18 = .ok (.goto 4, 3) := by decide +kernel
theorem dX12_isMoving_21 : decode cX12_isMoving 21 = .ok (.iconst 0, 1) := by decide +kernel
theorem dX12_isMoving_22 : decode cX12_isMoving 22 = .ok (.ireturn, 1) := by decide +kernel
theorem dX12_movingOn_0 : decode cX12_movingOn 0 = .ok (.iconst 0, 1) := by decide +kernel
theorem dX12_movingOn_1 : decode cX12_movingOn 1 = .ok (.istore_n 2, 1) := by decide +kernel
theorem dX12_movingOn_2 : decode cX12_movingOn 2 = .ok (.sipush 156, 3) := by decide +kernel
theorem dX12_movingOn_5 : decode cX12_movingOn 5 = .ok (.iload_n 1, 1) := by decide +kernel
theorem dX12_movingOn_6 : decode cX12_movingOn 6 = .ok (.imul, 1) := by decide +kernel
theorem dX12_movingOn_7 : decode cX12_movingOn 7 = .ok (.istore_n 3, 1) := by decide +kernel
theorem dX12_movingOn_8 : decode cX12_movingOn 8 = .ok (.iload_n 3, 1) := by decide +kernel
theorem dX12_movingOn_9 : decode cX12_movingOn 9 = .ok (.sipush 156, 3) := by decide +kernel
theorem dX12_movingOn_12 : decode cX12_movingOn 12 = .ok (.iload_n 1, 1) := by decide +kernel
theorem dX12_movingOn_13 : decode cX12_movingOn 13 = .ok (.imul, 1) := by decide +kernel
theorem dX12_movingOn_14 : decode cX12_movingOn 14 = .ok (.sipush 156, 3) := by decide +kernel
theorem dX12_movingOn_17 : decode cX12_movingOn 17 = .ok (.iadd, 1) := by decide +kernel
theorem dX12_movingOn_18 : decode cX12_movingOn 18 = .ok (.if_icmp .ge 29, 3) := by decide +kernel
theorem dX12_movingOn_21 : decode cX12_movingOn 21 = .ok (.iload_n 2, 1) := by decide +kernel
theorem dX12_movingOn_22 : decode cX12_movingOn 22 = .ok (.aload_n 0, 1) := by decide +kernel
theorem dX12_movingOn_23 : decode cX12_movingOn 23 = .ok (.getfield 86, 3) := by decide +kernel
theorem dX12_movingOn_26 : decode cX12_movingOn 26 = .ok (.iload_n 3, 1) := by decide +kernel
theorem dX12_movingOn_27 : decode cX12_movingOn 27 = .ok (.iaload, 1) := by decide +kernel
theorem dX12_movingOn_28 : decode cX12_movingOn 28 = .ok (.invokestatic 250, 3) := by decide +kernel
theorem dX12_movingOn_31 : decode cX12_movingOn 31 = .ok (.ifCond .eq 7, 3) := by decide +kernel
theorem dX12_movingOn_34 : decode cX12_movingOn 34 = .ok (.iconst 1, 1) := by decide +kernel
theorem dX12_movingOn_35 : decode cX12_movingOn 35 = .ok (.goto 4, 3) := by decide +kernel
theorem dX12_movingOn_38 : decode cX12_movingOn 38 = .ok (.iconst 0, 1) := by decide +kernel
theorem dX12_movingOn_39 : decode cX12_movingOn 39 = .ok (.iadd, 1) := by decide +kernel
theorem dX12_movingOn_40 : decode cX12_movingOn 40 = .ok (.istore_n 2, 1) := by decide +kernel
theorem dX12_movingOn_41 : decode cX12_movingOn 41 = .ok (.iinc 3 1, 3) := by decide +kernel
theorem dX12_movingOn_44 : decode cX12_movingOn 44 = .ok (.goto (-36), 3) := by decide +kernel
theorem dX12_movingOn_47 : decode cX12_movingOn 47 = .ok (.iload_n 2, 1) := by decide +kernel
theorem dX12_movingOn_48 : decode cX12_movingOn 48 = .ok (.ireturn, 1) := by decide +kernel
theorem dX12_draw_0 : decode cX12_draw 0 = .ok (.aload_n 0, 1) := by decide +kernel
theorem dX12_draw_1 : decode cX12_draw 1 = .ok (.iconst 0, 1) := by decide +kernel
theorem dX12_draw_2 : decode cX12_draw 2 = .ok (.putfield 1, 3) := by decide +kernel
theorem dX12_draw_5 : decode cX12_draw 5 = .ok (.aload_n 0, 1) := by decide +kernel
theorem dX12_draw_6 : decode cX12_draw 6 = .ok (.invokevirtual 253, 3) := by decide +kernel
theorem dX12_draw_9 : decode cX12_draw 9 = .ok (.aload_n 0, 1) := by decide +kernel
theorem dX12_draw_10 : decode cX12_draw 10 = .ok (.iconst 0, 1) := by decide +kernel
theorem dX12_draw_11 : decode cX12_draw 11 = .ok (.putfield 198, 3) := by decide +kernel
theorem dX12_draw_14 : decode cX12_draw 14 = .ok (.aload_n 0, 1) := by decide +kernel
theorem dX12_draw_15 : decode cX12_draw 15 = .ok (.iconst 0, 1) := by decide +kernel
theorem dX12_draw_16 : decode cX12_draw 16 = .ok (.putfield 208, 3) := by decide +kernel
theorem dX12_draw_19 : decode cX12_draw 19 = .ok (.aload_n 0, 1) := by decide +kernel
theorem dX12_draw_20 : decode cX12_draw 20 = .ok (.iconst 0, 1) := by decide +kernel
theorem dX12_draw_21 : decode cX12_draw 21 = .ok (.iconst 1, 1) := by decide +kernel
theorem dX12_draw_22 : decode cX12_draw 22 = .ok (.invokevirtual 239, 3) := by decide +kernel
theorem dX12_draw_25 : decode cX12_draw 25 = .ok (.aload_n 0, 1) := by decide +kernel
theorem dX12_draw_26 : decode cX12_draw 26 = .ok (.getfield 182, 3) := by decide +kernel
theorem dX12_draw_29 : decode cX12_draw 29 = .ok (.ifCond .ne 20, 3) := by decide +kernel
theorem dX12_draw_32 : decode cX12_draw 32 = .ok (.aload_n 0, 1) := by decide +kernel
theorem dX12_draw_33 : decode cX12_draw 33 = .ok (.getfield 24, 3) := by decide +kernel
theorem dX12_draw_36 : decode cX12_draw 36 = .ok (.aload_n 0, 1) := by decide +kernel
theorem dX12_draw_37 : decode cX12_draw 37 = .ok (.getfield 179, 3) := by decide +kernel
theorem dX12_draw_40 : decode cX12_draw 40 = .ok (.iaload, 1) := by decide +kernel
theorem dX12_draw_41 : decode cX12_draw 41 = .ok (.ifCond .eq 8, 3) := by decide +kernel
theorem dX12_draw_44 : decode cX12_draw 44 = .ok (.aload_n 0, 1) := by decide +kernel
theorem dX12_draw_45 : decode cX12_draw 45 = .ok (.iconst 1, 1) := by decide +kernel
theorem dX12_draw_46 : decode cX12_draw 46 = .ok (.invokevirtual 188, 3) := by decide +kernel
theorem dX12_draw_49 : decode cX12_draw 49 = .ok (.aload_n 0, 1) := by decide +kernel
theorem dX12_draw_50 : decode cX12_draw 50 = .ok (.getfield 182, 3) := by decide +kernel
theorem dX12_draw_53 : decode cX12_draw 53 = .ok (.ifCond .le 8, 3) := by decide +kernel
theorem dX12_draw_56 : decode cX12_draw 56 = .ok (.aload_n 0, 1) := by decide +kernel
theorem dX12_draw_57 : decode cX12_draw 57 = .ok (.getfield 182, 3) := by decide +kernel
theorem dX12_draw_60 : decode cX12_draw 60 = .ok (.ireturn, 1) := by decide +kernel
theorem dX12_draw_61 : decode cX12_draw 61 = .ok (.aload_n 0, 1) := by decide +kernel
theorem dX12_draw_62 : decode cX12_draw 62 = .ok (.iconst 0, 1) := by decide +kernel
theorem dX12_draw_63 : decode cX12_draw 63 = .ok (.bipush 25, 2) := by decide +kernel
theorem dX12_draw_65 : decode cX12_draw 65 = .ok (.invokevirtual 256, 3) := by decide +kernel
theorem dX12_draw_68 : decode cX12_draw 68 = .ok (.aload_n 0, 1) := by decide +kernel
theorem dX12_draw_69 : decode cX12_draw 69 = .ok (.iconst 0, 1) := by decide +kernel
theorem dX12_draw_70 : decode cX12_draw 70 = .ok (.putfield 260, 3) := by decide +kernel
theorem dX12_draw_73 : decode cX12_draw 73 = .ok (.aload_n 0, 1) := by decide +kernel
theorem dX12_draw_74 : decode cX12_draw 74 = .ok (.iconst 0, 1) := by decide +kernel
theorem dX12_draw_75 : decode cX12_draw 75 = .ok (.putfield 263, 3) := by decide +kernel
theorem dX12_draw_78 : decode cX12_draw 78 = .ok (.aload_n 0, 1) := by decide +kernel
theorem dX12_draw_79 : decode cX12_draw 79 = .ok (.iconst 0, 1) := by decide +kernel
theorem dX12_draw_80 : decode cX12_draw 80 = .ok (.putfield 266, 3) := by decide +kernel
theorem dX12_draw_83 : decode cX12_draw 83 = .ok (.aload_n 0, 1) := by decide +kernel
theorem dX12_draw_84 : decode cX12_draw 84 = .ok (.iconst 0, 1) := by decide +kernel
theorem dX12_draw_85 : decode cX12_draw 85 = .ok (.aload_n 0, 1) := by decide +kernel
theorem dX12_draw_86 : decode cX12_draw 86 = .ok (.getfield 198, 3) := by decide +kernel
theorem dX12_draw_89 : decode cX12_draw 89 = .ok (.iconst 0, 1) := by decide +kernel
theorem dX12_draw_90 : decode cX12_draw 90 = .ok (.iconst 0, 1) := by decide +kernel
theorem dX12_draw_91 : decode cX12_draw 91 = .ok (.iconst 0, 1) := by decide +kernel
theorem dX12_draw_92 : decode cX12_draw 92 = .ok (.invokevirtual 269, 3) := by decide +kernel
theorem dX12_draw_95 : decode cX12_draw 95 = .ok (.aload_n 0, 1) := by decide +kernel
theorem dX12_draw_96 : decode cX12_draw 96 = .ok (.getfield 260, 3) := by decide +kernel
theorem dX12_draw_99 : decode cX12_draw 99 = .ok (.ifCond .le 16, 3) := by decide +kernel
theorem dX12_draw_102 : decode cX12_draw 102 = .ok (.aload_n 0, 1) := by decide +kernel
theorem dX12_draw_103 : decode cX12_draw 103 = .ok (.bipush 25, 2) := by decide +kernel
theorem dX12_draw_105 : decode cX12_draw 105 = .ok (.iconst 0, 1) := by decide +kernel
theorem dX12_draw_106 : decode cX12_draw 106 = .ok (.invokevirtual 256, 3) := by decide +kernel
theorem dX12_draw_109 : decode cX12_draw 109 = .ok (.aload_n 0, 1) := by decide +kernel
theorem dX12_draw_110 : decode cX12_draw 110 = .ok (.getfield 260, 3) := by decide +kernel
theorem dX12_draw_113 : decode cX12_draw 113 = .ok (.ineg, 1) := by decide +kernel
theorem dX12_draw_114 : decode cX12_draw 114 = .ok (.ireturn, 1) := by decide +kernel
theorem dX12_draw_115 : decode cX12_draw 115 = .ok (.aload_n 0, 1) := by decide +kernel
theorem dX12_draw_116 : decode cX12_draw 116 = .ok (.aload_n 0, 1) := by decide +kernel
theorem dX12_draw_117 : decode cX12_draw 117 = .ok (.getfield 266, 3) := by decide +kernel
theorem dX12_draw_120 : decode cX12_draw 120 = .ok (.putfield 273, 3) := by decide +kernel
theorem dX12_draw_123 : decode cX12_draw 123 = .ok (.aload_n 0, 1) := by decide +kernel
theorem dX12_draw_124 : decode cX12_draw 124 = .ok (.invokevirtual 276, 3) := by decide +kernel
theorem dX12_draw_127 : decode cX12_draw 127 = .ok (.iconst 0, 1) := by decide +kernel
theorem dX12_draw_128 : decode cX12_draw 128 = .ok (.ireturn, 1) := by decide +kernel
theorem dX12_keeps_0 : decode cX12_keeps 0 = .ok (.aload_n 0, 1) := by decide +kernel
theorem dX12_keeps_1 : decode cX12_keeps 1 = .ok (.getfield 279, 3) := by decide +kernel
theorem dX12_keeps_4 : decode cX12_keeps 4 = .ok (.bipush 20, 2) := by decide +kernel
theorem dX12_keeps_6 : decode cX12_keeps 6 = .ok (.if_icmp .ne 35, 3) := by decide +kernel
theorem dX12_keeps_9 : decode cX12_keeps 9 = .ok (.iconst 5, 1) := by decide +kernel
theorem dX12_keeps_10 : decode cX12_keeps 10 = .ok (.istore_n 1, 1) := by decide +kernel
theorem dX12_keeps_11 : decode cX12_keeps 11 = .ok (.iload_n 1, 1) := by decide +kernel
theorem dX12_keeps_12 : decode cX12_keeps 12 = .ok (.bipush 24, 2) := by decide +kernel
theorem dX12_keeps_14 : decode cX12_keeps 14 = .ok (.if_icmp .ge 17, 3) := by decide +kernel
theorem dX12_keeps_17 : decode cX12_keeps 17 = .ok (.aload_n 0, 1) := by decide +kernel
theorem dX12_keeps_18 : decode cX12_keeps 18 = .ok (.iload_n 1, 1) := by decide +kernel
theorem dX12_keeps_19 : decode cX12_keeps 19 = .ok (.iconst 1, 1) := by decide +kernel
theorem dX12_keeps_20 : decode cX12_keeps 20 = .ok (.iadd, 1) := by decide +kernel
theorem dX12_keeps_21 : decode cX12_keeps 21 = .ok (.iload_n 1, 1) := by decide +kernel
theorem dX12_keeps_22 : decode cX12_keeps 22 = .ok (.invokevirtual 256, 3) := by decide +kernel
theorem dX12_keeps_25 : decode cX12_keeps 25 = .ok (.iinc 1 1, 3) := by decide +kernel
theorem dX12_keeps_28 : decode cX12_keeps 28 = .ok (.goto (-17), 3) := by decide +kernel
theorem dX12_keeps_31 : decode cX12_keeps 31 = .ok (.aload_n 0, 1) := by decide +kernel
theorem dX12_keeps_32 : decode cX12_keeps 32 = .ok (.dup, 1) := by decide +kernel
theorem dX12_keeps_33 : decode cX12_keeps 33 = .ok (.getfield 279, 3) := by decide +kernel
theorem dX12_keeps_36 : decode cX12_keeps 36 = .ok (.iconst 1, 1) := by decide +kernel
theorem dX12_keeps_37 : decode cX12_keeps 37 = .ok (.isub, 1) := by decide +kernel
theorem dX12_keeps_38 : decode cX12_keeps 38 = .ok (.putfield 279, 3) := by decide +kernel
theorem dX12_keeps_41 : decode cX12_keeps 41 = .ok (.aload_n 0, 1) := by decide +kernel
theorem dX12_keeps_42 : decode cX12_keeps 42 = .ok (.bipush 25, 2) := by decide +kernel
theorem dX12_keeps_44 : decode cX12_keeps 44 = .ok (.iconst 5, 1) := by decide +kernel
theorem dX12_keeps_45 : decode cX12_keeps 45 = .ok (.aload_n 0, 1) := by decide +kernel
theorem dX12_keeps_46 : decode cX12_keeps 46 = .ok (.getfield 279, 3) := by decide +kernel
theorem dX12_keeps_49 : decode cX12_keeps 49 = .ok (.iadd, 1) := by decide +kernel
theorem dX12_keeps_50 : decode cX12_keeps 50 = .ok (.invokevirtual 256, 3) := by decide +kernel
theorem dX12_keeps_53 : decode cX12_keeps 53 = .ok (.aload_n 0, 1) := by decide +kernel
theorem dX12_keeps_54 : decode cX12_keeps 54 = .ok (.dup, 1) := by decide +kernel
theorem dX12_keeps_55 : decode cX12_keeps 55 = .ok (.getfield 279, 3) := by decide +kernel
theorem dX12_keeps_58 : decode cX12_keeps 58 = .ok (.iconst 1, 1) := by decide +kernel
theorem dX12_keeps_59 : decode cX12_keeps 59 = .ok (.iadd, 1) := by decide +kernel
theorem dX12_keeps_60 : decode cX12_keeps 60 = .ok (.putfield 279, 3) := by decide +kernel
theorem dX12_keeps_63 : decode cX12_keeps 63 = .ok (.return_, 1) := by decide +kernel
theorem dX12_takeBack_0 : decode cX12_takeBack 0 = .ok (.aload_n 0, 1) := by decide +kernel
theorem dX12_takeBack_1 : decode cX12_takeBack 1 = .ok (.iconst 0, 1) := by decide +kernel
theorem dX12_takeBack_2 : decode cX12_takeBack 2 = .ok (.putfield 1, 3) := by decide +kernel
theorem dX12_takeBack_5 : decode cX12_takeBack 5 = .ok (.aload_n 0, 1) := by decide +kernel
theorem dX12_takeBack_6 : decode cX12_takeBack 6 = .ok (.getfield 279, 3) := by decide +kernel
theorem dX12_takeBack_9 : decode cX12_takeBack 9 = .ok (.ifCond .ne 5, 3) := by decide +kernel
theorem dX12_takeBack_12 : decode cX12_takeBack 12 = .ok (.iconst 0, 1) := by decide +kernel
theorem dX12_takeBack_13 : decode cX12_takeBack 13 = .ok (.ireturn, 1) := by decide +kernel
theorem dX12_takeBack_14 : decode cX12_takeBack 14 = .ok (.aload_n 0, 1) := by decide +kernel
theorem dX12_takeBack_15 : decode cX12_takeBack 15 = .ok (.dup, 1) := by decide +kernel
theorem dX12_takeBack_16 : decode cX12_takeBack 16 = .ok (.getfield 279, 3) := by decide +kernel
theorem dX12_takeBack_19 : decode cX12_takeBack 19 = .ok (.iconst 1, 1) := by decide +kernel
theorem dX12_takeBack_20 : decode cX12_takeBack 20 = .ok (.isub, 1) := by decide +kernel
theorem dX12_takeBack_21 : decode cX12_takeBack 21 = .ok (.putfield 279, 3) := by decide +kernel
theorem dX12_takeBack_24 : decode cX12_takeBack 24 = .ok (.aload_n 0, 1) := by decide +kernel
theorem dX12_takeBack_25 : decode cX12_takeBack 25 = .ok (.iconst 5, 1) := by decide +kernel
theorem dX12_takeBack_26 : decode cX12_takeBack 26 = .ok (.aload_n 0, 1) := by decide +kernel
theorem dX12_takeBack_27 : decode cX12_takeBack 27 = .ok (.getfield 279, 3) := by decide +kernel
theorem dX12_takeBack_30 : decode cX12_takeBack 30 = .ok (.iadd, 1) := by decide +kernel
theorem dX12_takeBack_31 : decode cX12_takeBack 31 = .ok (.iconst 0, 1) := by decide +kernel
theorem dX12_takeBack_32 : decode cX12_takeBack 32 = .ok (.invokevirtual 256, 3) := by decide +kernel
theorem dX12_takeBack_35 : decode cX12_takeBack 35 = .ok (.iconst 1, 1) := by decide +kernel
theorem dX12_takeBack_36 : decode cX12_takeBack 36 = .ok (.ireturn, 1) := by decide +kernel
theorem dX12_does_0 : decode cX12_does 0 = .ok (.iload_n 1, 1) := by decide +kernel
theorem dX12_does_1 : decode cX12_does 1 = .ok (.istore 6, 2) := by decide +kernel
theorem dX12_does_3 : decode cX12_does 3 = .ok (.iload 6, 2) := by decide +kernel
theorem dX12_does_5 : decode cX12_does 5 = .ok (.iload_n 2, 1) := by decide +kernel
theorem dX12_does_6 : decode cX12_does 6 = .ok (.if_icmp .ge 69, 3) := by decide +kernel
theorem dX12_does_9 : decode cX12_does 9 = .ok (.aload_n 0, 1) := by decide +kernel
theorem dX12_does_10 : decode cX12_does 10 = .ok (.getfield 260, 3) := by decide +kernel
theorem dX12_does_13 : decode cX12_does 13 = .ok (.ifCond .ne 62, 3) := by decide +kernel
theorem dX12_does_16 : decode cX12_does 16 = .ok (.aload_n 0, 1) := by decide +kernel
theorem dX12_does_17 : decode cX12_does 17 = .ok (.dup, 1) := by decide +kernel
theorem dX12_does_18 : decode cX12_does 18 = .ok (.getfield 263, 3) := by decide +kernel
theorem dX12_does_21 : decode cX12_does 21 = .ok (.iconst 1, 1) := by decide +kernel
theorem dX12_does_22 : decode cX12_does 22 = .ok (.iadd, 1) := by decide +kernel
theorem dX12_does_23 : decode cX12_does 23 = .ok (.putfield 263, 3) := by decide +kernel
theorem dX12_does_26 : decode cX12_does 26 = .ok (.aload_n 0, 1) := by decide +kernel
theorem dX12_does_27 : decode cX12_does 27 = .ok (.aload_n 0, 1) := by decide +kernel
theorem dX12_does_28 : decode cX12_does 28 = .ok (.getfield 263, 3) := by decide +kernel
theorem dX12_does_31 : decode cX12_does 31 = .ok (.sipush 2000, 3) := by decide +kernel
theorem dX12_does_34 : decode cX12_does 34 = .ok (.if_icmp .le 7, 3) := by decide +kernel
theorem dX12_does_37 : decode cX12_does 37 = .ok (.iconst 4, 1) := by decide +kernel
theorem dX12_does_38 : decode cX12_does 38 = .ok (.goto 4, 3) := by decide +kernel
theorem dX12_does_41 : decode cX12_does 41 = .ok (.iconst 0, 1) := by decide +kernel
theorem dX12_does_42 : decode cX12_does 42 = .ok (.putfield 260, 3) := by decide +kernel
theorem dX12_does_45 : decode cX12_does 45 = .ok (.aload_n 0, 1) := by decide +kernel
theorem dX12_does_46 : decode cX12_does 46 = .ok (.getfield 260, 3) := by decide +kernel
theorem dX12_does_49 : decode cX12_does 49 = .ok (.ifCond .ne 14, 3) := by decide +kernel
theorem dX12_does_52 : decode cX12_does 52 = .ok (.aload_n 0, 1) := by decide +kernel
theorem dX12_does_53 : decode cX12_does 53 = .ok (.iload 6, 2) := by decide +kernel
theorem dX12_does_55 : decode cX12_does 55 = .ok (.iload_n 3, 1) := by decide +kernel
theorem dX12_does_56 : decode cX12_does 56 = .ok (.iload 4, 2) := by decide +kernel
theorem dX12_does_58 : decode cX12_does 58 = .ok (.iload 5, 2) := by decide +kernel
theorem dX12_does_60 : decode cX12_does 60 = .ok (.invokevirtual 282, 3) := by decide +kernel
theorem dX12_does_63 : decode cX12_does 63 = .ok (.aload_n 0, 1) := by decide +kernel
theorem dX12_does_64 : decode cX12_does 64 = .ok (.getfield 77, 3) := by decide +kernel
theorem dX12_does_67 : decode cX12_does 67 = .ok (.iload 6, 2) := by decide +kernel
theorem dX12_does_69 : decode cX12_does 69 = .ok (.iaload, 1) := by decide +kernel
theorem dX12_does_70 : decode cX12_does 70 = .ok (.istore 6, 2) := by decide +kernel
theorem dX12_does_72 : decode cX12_does 72 = .ok (.goto (-69), 3) := by decide +kernel
theorem dX12_does_75 : decode cX12_does 75 = .ok (.return_, 1) := by decide +kernel
theorem dX12_doesLine_0 : decode cX12_doesLine 0 = .ok (.iconst 5, 1) := by decide +kernel
theorem dX12_doesLine_1 : decode cX12_doesLine 1 = .ok (.iload_n 1, 1) := by decide +kernel
theorem dX12_doesLine_2 : decode cX12_doesLine 2 = .ok (.imul, 1) := by decide +kernel
theorem dX12_doesLine_3 : decode cX12_doesLine 3 = .ok (.istore 5, 2) := by decide +kernel
theorem dX12_doesLine_5 : decode cX12_doesLine 5 = .ok (.aload_n 0, 1) := by decide +kernel
theorem dX12_doesLine_6 : decode cX12_doesLine 6 = .ok (.getfield 71, 3) := by decide +kernel
theorem dX12_doesLine_9 : decode cX12_doesLine 9 = .ok (.iload_n 1, 1) := by decide +kernel
theorem dX12_doesLine_10 : decode cX12_doesLine 10 = .ok (.iaload, 1) := by decide +kernel
theorem dX12_doesLine_11 : decode cX12_doesLine 11 = .ok (.tableswitch 380 0 6 #[41, 54, 145, 380, 200, 273, 314], 41) := by decide +kernel
theorem dX12_doesLine_52 : decode cX12_doesLine 52 = .ok (.aload_n 0, 1) := by decide +kernel
theorem dX12_doesLine_53 : decode cX12_doesLine 53 = .ok (.iload 5, 2) := by decide +kernel
theorem dX12_doesLine_55 : decode cX12_doesLine 55 = .ok (.iload_n 2, 1) := by decide +kernel
theorem dX12_doesLine_56 : decode cX12_doesLine 56 = .ok (.iload_n 3, 1) := by decide +kernel
theorem dX12_doesLine_57 : decode cX12_doesLine 57 = .ok (.iload 4, 2) := by decide +kernel
theorem dX12_doesLine_59 : decode cX12_doesLine 59 = .ok (.invokevirtual 286, 3) := by decide +kernel
theorem dX12_doesLine_62 : decode cX12_doesLine 62 = .ok (.goto 329, 3) := by decide +kernel
theorem dX12_doesLine_65 : decode cX12_doesLine 65 = .ok (.iconst 0, 1) := by decide +kernel
theorem dX12_doesLine_66 : decode cX12_doesLine 66 = .ok (.istore 6, 2) := by decide +kernel
theorem dX12_doesLine_68 : decode cX12_doesLine 68 = .ok (.iload 6, 2) := by decide +kernel
theorem dX12_doesLine_70 : decode cX12_doesLine 70 = .ok (.aload_n 0, 1) := by decide +kernel
theorem dX12_doesLine_71 : decode cX12_doesLine 71 = .ok (.getfield 74, 3) := by decide +kernel
theorem dX12_doesLine_74 : decode cX12_doesLine 74 = .ok (.iload 5, 2) := by decide +kernel
theorem dX12_doesLine_76 : decode cX12_doesLine 76 = .ok (.iaload, 1) := by decide +kernel
theorem dX12_doesLine_77 : decode cX12_doesLine 77 = .ok (.if_icmp .ge 76, 3) := by decide +kernel
theorem dX12_doesLine_80 : decode cX12_doesLine 80 = .ok (.aload_n 0, 1) := by decide +kernel
theorem dX12_doesLine_81 : decode cX12_doesLine 81 = .ok (.getfield 260, 3) := by decide +kernel
theorem dX12_doesLine_84 : decode cX12_doesLine 84 = .ok (.ifCond .ne 69, 3) := by decide +kernel
theorem dX12_doesLine_87 : decode cX12_doesLine 87 = .ok (.aload_n 0, 1) := by decide +kernel
theorem dX12_doesLine_88 : decode cX12_doesLine 88 = .ok (.iload_n 1, 1) := by decide +kernel
theorem dX12_doesLine_89 : decode cX12_doesLine 89 = .ok (.iconst 1, 1) := by decide +kernel
theorem dX12_doesLine_90 : decode cX12_doesLine 90 = .ok (.iadd, 1) := by decide +kernel
theorem dX12_doesLine_91 : decode cX12_doesLine 91 = .ok (.aload_n 0, 1) := by decide +kernel
theorem dX12_doesLine_92 : decode cX12_doesLine 92 = .ok (.getfield 77, 3) := by decide +kernel
theorem dX12_doesLine_95 : decode cX12_doesLine 95 = .ok (.iload_n 1, 1) := by decide +kernel
theorem dX12_doesLine_96 : decode cX12_doesLine 96 = .ok (.iaload, 1) := by decide +kernel
theorem dX12_doesLine_97 : decode cX12_doesLine 97 = .ok (.iload_n 2, 1) := by decide +kernel
theorem dX12_doesLine_98 : decode cX12_doesLine 98 = .ok (.iload_n 3, 1) := by decide +kernel
theorem dX12_doesLine_99 : decode cX12_doesLine 99 = .ok (.iload 6, 2) := by decide +kernel
theorem dX12_doesLine_101 : decode cX12_doesLine 101 = .ok (.iload_n 2, 1) := by decide +kernel
theorem dX12_doesLine_102 : decode cX12_doesLine 102 = .ok (.ifCond .eq 16, 3) := by decide +kernel
theorem dX12_doesLine_105 : decode cX12_doesLine 105 = .ok (.aload_n 0, 1) := by decide +kernel
theorem dX12_doesLine_106 : decode cX12_doesLine 106 = .ok (.getfield 74, 3) := by decide +kernel
theorem dX12_doesLine_109 : decode cX12_doesLine 109 = .ok (.iload 5, 2) := by decide +kernel
theorem dX12_doesLine_111 : decode cX12_doesLine 111 = .ok (.iconst 1, 1) := by decide +kernel
theorem dX12_doesLine_112 : decode cX12_doesLine 112 = .ok (.iadd, 1) := by decide +kernel
theorem dX12_doesLine_113 : decode cX12_doesLine 113 = .ok (.iaload, 1) := by decide +kernel
theorem dX12_doesLine_114 : decode cX12_doesLine 114 = .ok (.ineg, 1) := by decide +kernel
theorem dX12_doesLine_115 : decode cX12_doesLine 115 = .ok (.goto 12, 3) := by decide +kernel
theorem dX12_doesLine_118 : decode cX12_doesLine 118 = .ok (.aload_n 0, 1) := by decide +kernel
theorem dX12_doesLine_119 : decode cX12_doesLine 119 = .ok (.getfield 74, 3) := by decide +kernel
theorem dX12_doesLine_122 : decode cX12_doesLine 122 = .ok (.iload 5, 2) := by decide +kernel
theorem dX12_doesLine_124 : decode cX12_doesLine 124 = .ok (.iconst 1, 1) := by decide +kernel
theorem dX12_doesLine_125 : decode cX12_doesLine 125 = .ok (.iadd, 1) := by decide +kernel
theorem dX12_doesLine_126 : decode cX12_doesLine 126 = .ok (.iaload, 1) := by decide +kernel
theorem dX12_doesLine_127 : decode cX12_doesLine 127 = .ok (.imul, 1) := by decide +kernel
theorem dX12_doesLine_128 : decode cX12_doesLine 128 = .ok (.iadd, 1) := by decide +kernel
theorem dX12_doesLine_129 : decode cX12_doesLine 129 = .ok (.iload 4, 2) := by decide +kernel
theorem dX12_doesLine_131 : decode cX12_doesLine 131 = .ok (.iload 6, 2) := by decide +kernel
theorem dX12_doesLine_133 : decode cX12_doesLine 133 = .ok (.aload_n 0, 1) := by decide +kernel
theorem dX12_doesLine_134 : decode cX12_doesLine 134 = .ok (.getfield 74, 3) := by decide +kernel
theorem dX12_doesLine_137 : decode cX12_doesLine 137 = .ok (.iload 5, 2) := by decide +kernel
theorem dX12_doesLine_139 : decode cX12_doesLine 139 = .ok (.iconst 2, 1) := by decide +kernel
theorem dX12_doesLine_140 : decode cX12_doesLine 140 = .ok (.iadd, 1) := by decide +kernel
theorem dX12_doesLine_141 : decode cX12_doesLine 141 = .ok (.iaload, 1) := by decide +kernel
theorem dX12_doesLine_142 : decode cX12_doesLine 142 = .ok (.imul, 1) := by decide +kernel
theorem dX12_doesLine_143 : decode cX12_doesLine 143 = .ok (.iadd, 1) := by decide +kernel
theorem dX12_doesLine_144 : decode cX12_doesLine 144 = .ok (.invokevirtual 269, 3) := by decide +kernel
theorem dX12_doesLine_147 : decode cX12_doesLine 147 = .ok (.iinc 6 1, 3) := by decide +kernel
theorem dX12_doesLine_150 : decode cX12_doesLine 150 = .ok (.goto (-82), 3) := by decide +kernel
theorem dX12_doesLine_153 : decode cX12_doesLine 153 = .ok (.goto 238, 3) := by decide +kernel
theorem dX12_doesLine_156 : decode cX12_doesLine 156 = .ok (.aload_n 0, 1) := by decide +kernel
theorem dX12_doesLine_157 : decode cX12_doesLine 157 = .ok (.iload_n 1, 1) := by decide +kernel
theorem dX12_doesLine_158 : decode cX12_doesLine 158 = .ok (.iconst 1, 1) := by decide +kernel
theorem dX12_doesLine_159 : decode cX12_doesLine 159 = .ok (.iadd, 1) := by decide +kernel
theorem dX12_doesLine_160 : decode cX12_doesLine 160 = .ok (.aload_n 0, 1) := by decide +kernel
theorem dX12_doesLine_161 : decode cX12_doesLine 161 = .ok (.getfield 77, 3) := by decide +kernel
theorem dX12_doesLine_164 : decode cX12_doesLine 164 = .ok (.iload_n 1, 1) := by decide +kernel
theorem dX12_doesLine_165 : decode cX12_doesLine 165 = .ok (.iaload, 1) := by decide +kernel
theorem dX12_doesLine_166 : decode cX12_doesLine 166 = .ok (.iload_n 2, 1) := by decide +kernel
theorem dX12_doesLine_167 : decode cX12_doesLine 167 = .ok (.ifCond .ne 7, 3) := by decide +kernel
theorem dX12_doesLine_170 : decode cX12_doesLine 170 = .ok (.iconst 1, 1) := by decide +kernel
theorem dX12_doesLine_171 : decode cX12_doesLine 171 = .ok (.goto 4, 3) := by decide +kernel
theorem dX12_doesLine_174 : decode cX12_doesLine 174 = .ok (.iconst 0, 1) := by decide +kernel
theorem dX12_doesLine_175 : decode cX12_doesLine 175 = .ok (.iload_n 3, 1) := by decide +kernel
theorem dX12_doesLine_176 : decode cX12_doesLine 176 = .ok (.iload_n 2, 1) := by decide +kernel
theorem dX12_doesLine_177 : decode cX12_doesLine 177 = .ok (.ifCond .eq 16, 3) := by decide +kernel
theorem dX12_doesLine_180 : decode cX12_doesLine 180 = .ok (.bipush (-2), 2) := by decide +kernel
theorem dX12_doesLine_182 : decode cX12_doesLine 182 = .ok (.aload_n 0, 1) := by decide +kernel
theorem dX12_doesLine_183 : decode cX12_doesLine 183 = .ok (.getfield 74, 3) := by decide +kernel
theorem dX12_doesLine_186 : decode cX12_doesLine 186 = .ok (.iload 5, 2) := by decide +kernel
theorem dX12_doesLine_188 : decode cX12_doesLine 188 = .ok (.iaload, 1) := by decide +kernel
theorem dX12_doesLine_189 : decode cX12_doesLine 189 = .ok (.imul, 1) := by decide +kernel
theorem dX12_doesLine_190 : decode cX12_doesLine 190 = .ok (.goto 12, 3) := by decide +kernel
theorem dX12_doesLine_193 : decode cX12_doesLine 193 = .ok (.iconst 2, 1) := by decide +kernel
theorem dX12_doesLine_194 : decode cX12_doesLine 194 = .ok (.aload_n 0, 1) := by decide +kernel
theorem dX12_doesLine_195 : decode cX12_doesLine 195 = .ok (.getfield 74, 3) := by decide +kernel
theorem dX12_doesLine_198 : decode cX12_doesLine 198 = .ok (.iload 5, 2) := by decide +kernel
theorem dX12_doesLine_200 : decode cX12_doesLine 200 = .ok (.iaload, 1) := by decide +kernel
theorem dX12_doesLine_201 : decode cX12_doesLine 201 = .ok (.imul, 1) := by decide +kernel
theorem dX12_doesLine_202 : decode cX12_doesLine 202 = .ok (.iadd, 1) := by decide +kernel
theorem dX12_doesLine_203 : decode cX12_doesLine 203 = .ok (.iload 4, 2) := by decide +kernel
theorem dX12_doesLine_205 : decode cX12_doesLine 205 = .ok (.invokevirtual 269, 3) := by decide +kernel
theorem dX12_doesLine_208 : decode cX12_doesLine 208 = .ok (.goto 183, 3) := by decide +kernel
theorem dX12_doesLine_211 : decode cX12_doesLine 211 = .ok (.aload_n 0, 1) := by decide +kernel
theorem dX12_doesLine_212 : decode cX12_doesLine 212 = .ok (.getfield 83, 3) := by decide +kernel
theorem dX12_doesLine_215 : decode cX12_doesLine 215 = .ok (.aload_n 0, 1) := by decide +kernel
theorem dX12_doesLine_216 : decode cX12_doesLine 216 = .ok (.getfield 74, 3) := by decide +kernel
theorem dX12_doesLine_219 : decode cX12_doesLine 219 = .ok (.iload 5, 2) := by decide +kernel
theorem dX12_doesLine_221 : decode cX12_doesLine 221 = .ok (.iaload, 1) := by decide +kernel
theorem dX12_doesLine_222 : decode cX12_doesLine 222 = .ok (.iaload, 1) := by decide +kernel
theorem dX12_doesLine_223 : decode cX12_doesLine 223 = .ok (.istore 6, 2) := by decide +kernel
theorem dX12_doesLine_225 : decode cX12_doesLine 225 = .ok (.aload_n 0, 1) := by decide +kernel
theorem dX12_doesLine_226 : decode cX12_doesLine 226 = .ok (.iload 6, 2) := by decide +kernel
theorem dX12_doesLine_228 : decode cX12_doesLine 228 = .ok (.iconst 1, 1) := by decide +kernel
theorem dX12_doesLine_229 : decode cX12_doesLine 229 = .ok (.iadd, 1) := by decide +kernel
theorem dX12_doesLine_230 : decode cX12_doesLine 230 = .ok (.aload_n 0, 1) := by decide +kernel
theorem dX12_doesLine_231 : decode cX12_doesLine 231 = .ok (.getfield 77, 3) := by decide +kernel
theorem dX12_doesLine_234 : decode cX12_doesLine 234 = .ok (.iload 6, 2) := by decide +kernel
theorem dX12_doesLine_236 : decode cX12_doesLine 236 = .ok (.iaload, 1) := by decide +kernel
theorem dX12_doesLine_237 : decode cX12_doesLine 237 = .ok (.iload_n 2, 1) := by decide +kernel
theorem dX12_doesLine_238 : decode cX12_doesLine 238 = .ok (.iload_n 3, 1) := by decide +kernel
theorem dX12_doesLine_239 : decode cX12_doesLine 239 = .ok (.iload_n 2, 1) := by decide +kernel
theorem dX12_doesLine_240 : decode cX12_doesLine 240 = .ok (.ifCond .eq 16, 3) := by decide +kernel
theorem dX12_doesLine_243 : decode cX12_doesLine 243 = .ok (.aload_n 0, 1) := by decide +kernel
theorem dX12_doesLine_244 : decode cX12_doesLine 244 = .ok (.getfield 74, 3) := by decide +kernel
theorem dX12_doesLine_247 : decode cX12_doesLine 247 = .ok (.iload 5, 2) := by decide +kernel
theorem dX12_doesLine_249 : decode cX12_doesLine 249 = .ok (.iconst 1, 1) := by decide +kernel
theorem dX12_doesLine_250 : decode cX12_doesLine 250 = .ok (.iadd, 1) := by decide +kernel
theorem dX12_doesLine_251 : decode cX12_doesLine 251 = .ok (.iaload, 1) := by decide +kernel
theorem dX12_doesLine_252 : decode cX12_doesLine 252 = .ok (.ineg, 1) := by decide +kernel
theorem dX12_doesLine_253 : decode cX12_doesLine 253 = .ok (.goto 12, 3) := by decide +kernel
theorem dX12_doesLine_256 : decode cX12_doesLine 256 = .ok (.aload_n 0, 1) := by decide +kernel
theorem dX12_doesLine_257 : decode cX12_doesLine 257 = .ok (.getfield 74, 3) := by decide +kernel
theorem dX12_doesLine_260 : decode cX12_doesLine 260 = .ok (.iload 5, 2) := by decide +kernel
theorem dX12_doesLine_262 : decode cX12_doesLine 262 = .ok (.iconst 1, 1) := by decide +kernel
theorem dX12_doesLine_263 : decode cX12_doesLine 263 = .ok (.iadd, 1) := by decide +kernel
theorem dX12_doesLine_264 : decode cX12_doesLine 264 = .ok (.iaload, 1) := by decide +kernel
theorem dX12_doesLine_265 : decode cX12_doesLine 265 = .ok (.iadd, 1) := by decide +kernel
theorem dX12_doesLine_266 : decode cX12_doesLine 266 = .ok (.iload 4, 2) := by decide +kernel
theorem dX12_doesLine_268 : decode cX12_doesLine 268 = .ok (.aload_n 0, 1) := by decide +kernel
theorem dX12_doesLine_269 : decode cX12_doesLine 269 = .ok (.getfield 74, 3) := by decide +kernel
theorem dX12_doesLine_272 : decode cX12_doesLine 272 = .ok (.iload 5, 2) := by decide +kernel
theorem dX12_doesLine_274 : decode cX12_doesLine 274 = .ok (.iconst 2, 1) := by decide +kernel
theorem dX12_doesLine_275 : decode cX12_doesLine 275 = .ok (.iadd, 1) := by decide +kernel
theorem dX12_doesLine_276 : decode cX12_doesLine 276 = .ok (.iaload, 1) := by decide +kernel
theorem dX12_doesLine_277 : decode cX12_doesLine 277 = .ok (.iadd, 1) := by decide +kernel
theorem dX12_doesLine_278 : decode cX12_doesLine 278 = .ok (.invokevirtual 269, 3) := by decide +kernel
theorem dX12_doesLine_281 : decode cX12_doesLine 281 = .ok (.goto 110, 3) := by decide +kernel
theorem dX12_doesLine_284 : decode cX12_doesLine 284 = .ok (.aload_n 0, 1) := by decide +kernel
theorem dX12_doesLine_285 : decode cX12_doesLine 285 = .ok (.getfield 95, 3) := by decide +kernel
theorem dX12_doesLine_288 : decode cX12_doesLine 288 = .ok (.aload_n 0, 1) := by decide +kernel
theorem dX12_doesLine_289 : decode cX12_doesLine 289 = .ok (.getfield 74, 3) := by decide +kernel
theorem dX12_doesLine_292 : decode cX12_doesLine 292 = .ok (.iload 5, 2) := by decide +kernel
theorem dX12_doesLine_294 : decode cX12_doesLine 294 = .ok (.iaload, 1) := by decide +kernel
theorem dX12_doesLine_295 : decode cX12_doesLine 295 = .ok (.aload_n 0, 1) := by decide +kernel
theorem dX12_doesLine_296 : decode cX12_doesLine 296 = .ok (.getfield 74, 3) := by decide +kernel
theorem dX12_doesLine_299 : decode cX12_doesLine 299 = .ok (.iload 5, 2) := by decide +kernel
theorem dX12_doesLine_301 : decode cX12_doesLine 301 = .ok (.iconst 1, 1) := by decide +kernel
theorem dX12_doesLine_302 : decode cX12_doesLine 302 = .ok (.iadd, 1) := by decide +kernel
theorem dX12_doesLine_303 : decode cX12_doesLine 303 = .ok (.iaload, 1) := by decide +kernel
theorem dX12_doesLine_304 : decode cX12_doesLine 304 = .ok (.iconst 4, 1) := by decide +kernel
theorem dX12_doesLine_305 : decode cX12_doesLine 305 = .ok (.if_icmp .ne 7, 3) := by decide +kernel
theorem dX12_doesLine_308 : decode cX12_doesLine 308 = .ok (.iconst (-1), 1) := by decide +kernel
theorem dX12_doesLine_309 : decode cX12_doesLine 309 = .ok (.goto 12, 3) := by decide +kernel
theorem dX12_doesLine_312 : decode cX12_doesLine 312 = .ok (.aload_n 0, 1) := by decide +kernel
theorem dX12_doesLine_313 : decode cX12_doesLine 313 = .ok (.getfield 74, 3) := by decide +kernel
theorem dX12_doesLine_316 : decode cX12_doesLine 316 = .ok (.iload 5, 2) := by decide +kernel
theorem dX12_doesLine_318 : decode cX12_doesLine 318 = .ok (.iconst 1, 1) := by decide +kernel
theorem dX12_doesLine_319 : decode cX12_doesLine 319 = .ok (.iadd, 1) := by decide +kernel
theorem dX12_doesLine_320 : decode cX12_doesLine 320 = .ok (.iaload, 1) := by decide +kernel
theorem dX12_doesLine_321 : decode cX12_doesLine 321 = .ok (.iastore, 1) := by decide +kernel
theorem dX12_doesLine_322 : decode cX12_doesLine 322 = .ok (.goto 69, 3) := by decide +kernel
theorem dX12_doesLine_325 : decode cX12_doesLine 325 = .ok (.aload_n 0, 1) := by decide +kernel
theorem dX12_doesLine_326 : decode cX12_doesLine 326 = .ok (.getfield 98, 3) := by decide +kernel
theorem dX12_doesLine_329 : decode cX12_doesLine 329 = .ok (.aload_n 0, 1) := by decide +kernel
theorem dX12_doesLine_330 : decode cX12_doesLine 330 = .ok (.getfield 74, 3) := by decide +kernel
theorem dX12_doesLine_333 : decode cX12_doesLine 333 = .ok (.iload 5, 2) := by decide +kernel
theorem dX12_doesLine_335 : decode cX12_doesLine 335 = .ok (.iaload, 1) := by decide +kernel
theorem dX12_doesLine_336 : decode cX12_doesLine 336 = .ok (.aload_n 0, 1) := by decide +kernel
theorem dX12_doesLine_337 : decode cX12_doesLine 337 = .ok (.getfield 74, 3) := by decide +kernel
theorem dX12_doesLine_340 : decode cX12_doesLine 340 = .ok (.iload 5, 2) := by decide +kernel
theorem dX12_doesLine_342 : decode cX12_doesLine 342 = .ok (.iconst 1, 1) := by decide +kernel
theorem dX12_doesLine_343 : decode cX12_doesLine 343 = .ok (.iadd, 1) := by decide +kernel
theorem dX12_doesLine_344 : decode cX12_doesLine 344 = .ok (.iaload, 1) := by decide +kernel
theorem dX12_doesLine_345 : decode cX12_doesLine 345 = .ok (.iastore, 1) := by decide +kernel
theorem dX12_doesLine_346 : decode cX12_doesLine 346 = .ok (.aload_n 0, 1) := by decide +kernel
theorem dX12_doesLine_347 : decode cX12_doesLine 347 = .ok (.getfield 101, 3) := by decide +kernel
theorem dX12_doesLine_350 : decode cX12_doesLine 350 = .ok (.aload_n 0, 1) := by decide +kernel
theorem dX12_doesLine_351 : decode cX12_doesLine 351 = .ok (.getfield 74, 3) := by decide +kernel
theorem dX12_doesLine_354 : decode cX12_doesLine 354 = .ok (.iload 5, 2) := by decide +kernel
theorem dX12_doesLine_356 : decode cX12_doesLine 356 = .ok (.iaload, 1) := by decide +kernel
theorem dX12_doesLine_357 : decode cX12_doesLine 357 = .ok (.aload_n 0, 1) := by decide +kernel
theorem dX12_doesLine_358 : decode cX12_doesLine 358 = .ok (.getfield 74, 3) := by decide +kernel
theorem dX12_doesLine_361 : decode cX12_doesLine 361 = .ok (.iload 5, 2) := by decide +kernel
theorem dX12_doesLine_363 : decode cX12_doesLine 363 = .ok (.iconst 2, 1) := by decide +kernel
theorem dX12_doesLine_364 : decode cX12_doesLine 364 = .ok (.iadd, 1) := by decide +kernel
theorem dX12_doesLine_365 : decode cX12_doesLine 365 = .ok (.iaload, 1) := by decide +kernel
theorem dX12_doesLine_366 : decode cX12_doesLine 366 = .ok (.iastore, 1) := by decide +kernel
theorem dX12_doesLine_367 : decode cX12_doesLine 367 = .ok (.aload_n 0, 1) := by decide +kernel
theorem dX12_doesLine_368 : decode cX12_doesLine 368 = .ok (.getfield 104, 3) := by decide +kernel
theorem dX12_doesLine_371 : decode cX12_doesLine 371 = .ok (.aload_n 0, 1) := by decide +kernel
theorem dX12_doesLine_372 : decode cX12_doesLine 372 = .ok (.getfield 74, 3) := by decide +kernel
theorem dX12_doesLine_375 : decode cX12_doesLine 375 = .ok (.iload 5, 2) := by decide +kernel
theorem dX12_doesLine_377 : decode cX12_doesLine 377 = .ok (.iaload, 1) := by decide +kernel
theorem dX12_doesLine_378 : decode cX12_doesLine 378 = .ok (.aload_n 0, 1) := by decide +kernel
theorem dX12_doesLine_379 : decode cX12_doesLine 379 = .ok (.getfield 74, 3) := by decide +kernel
theorem dX12_doesLine_382 : decode cX12_doesLine 382 = .ok (.iload 5, 2) := by decide +kernel
theorem dX12_doesLine_384 : decode cX12_doesLine 384 = .ok (.iconst 3, 1) := by decide +kernel
theorem dX12_doesLine_385 : decode cX12_doesLine 385 = .ok (.iadd, 1) := by decide +kernel
theorem dX12_doesLine_386 : decode cX12_doesLine 386 = .ok (.iaload, 1) := by decide +kernel
theorem dX12_doesLine_387 : decode cX12_doesLine 387 = .ok (.iastore, 1) := by decide +kernel
theorem dX12_doesLine_388 : decode cX12_doesLine 388 = .ok (.goto 3, 3) := by decide +kernel
theorem dX12_doesLine_391 : decode cX12_doesLine 391 = .ok (.return_, 1) := by decide +kernel
theorem dX12_puts_0 : decode cX12_puts 0 = .ok (.aload_n 0, 1) := by decide +kernel
theorem dX12_puts_1 : decode cX12_puts 1 = .ok (.getfield 74, 3) := by decide +kernel
theorem dX12_puts_4 : decode cX12_puts 4 = .ok (.iload_n 1, 1) := by decide +kernel
theorem dX12_puts_5 : decode cX12_puts 5 = .ok (.iaload, 1) := by decide +kernel
theorem dX12_puts_6 : decode cX12_puts 6 = .ok (.istore 5, 2) := by decide +kernel
theorem dX12_puts_8 : decode cX12_puts 8 = .ok (.iload_n 2, 1) := by decide +kernel
theorem dX12_puts_9 : decode cX12_puts 9 = .ok (.ifCond .eq 15, 3) := by decide +kernel
theorem dX12_puts_12 : decode cX12_puts 12 = .ok (.aload_n 0, 1) := by decide +kernel
theorem dX12_puts_13 : decode cX12_puts 13 = .ok (.getfield 74, 3) := by decide +kernel
theorem dX12_puts_16 : decode cX12_puts 16 = .ok (.iload_n 1, 1) := by decide +kernel
theorem dX12_puts_17 : decode cX12_puts 17 = .ok (.iconst 2, 1) := by decide +kernel
theorem dX12_puts_18 : decode cX12_puts 18 = .ok (.iadd, 1) := by decide +kernel
theorem dX12_puts_19 : decode cX12_puts 19 = .ok (.iaload, 1) := by decide +kernel
theorem dX12_puts_20 : decode cX12_puts 20 = .ok (.ineg, 1) := by decide +kernel
theorem dX12_puts_21 : decode cX12_puts 21 = .ok (.goto 11, 3) := by decide +kernel
theorem dX12_puts_24 : decode cX12_puts 24 = .ok (.aload_n 0, 1) := by decide +kernel
theorem dX12_puts_25 : decode cX12_puts 25 = .ok (.getfield 74, 3) := by decide +kernel
theorem dX12_puts_28 : decode cX12_puts 28 = .ok (.iload_n 1, 1) := by decide +kernel
theorem dX12_puts_29 : decode cX12_puts 29 = .ok (.iconst 2, 1) := by decide +kernel
theorem dX12_puts_30 : decode cX12_puts 30 = .ok (.iadd, 1) := by decide +kernel
theorem dX12_puts_31 : decode cX12_puts 31 = .ok (.iaload, 1) := by decide +kernel
theorem dX12_puts_32 : decode cX12_puts 32 = .ok (.iload_n 3, 1) := by decide +kernel
theorem dX12_puts_33 : decode cX12_puts 33 = .ok (.iadd, 1) := by decide +kernel
theorem dX12_puts_34 : decode cX12_puts 34 = .ok (.istore 6, 2) := by decide +kernel
theorem dX12_puts_36 : decode cX12_puts 36 = .ok (.aload_n 0, 1) := by decide +kernel
theorem dX12_puts_37 : decode cX12_puts 37 = .ok (.getfield 74, 3) := by decide +kernel
theorem dX12_puts_40 : decode cX12_puts 40 = .ok (.iload_n 1, 1) := by decide +kernel
theorem dX12_puts_41 : decode cX12_puts 41 = .ok (.iconst 3, 1) := by decide +kernel
theorem dX12_puts_42 : decode cX12_puts 42 = .ok (.iadd, 1) := by decide +kernel
theorem dX12_puts_43 : decode cX12_puts 43 = .ok (.iaload, 1) := by decide +kernel
theorem dX12_puts_44 : decode cX12_puts 44 = .ok (.iload 4, 2) := by decide +kernel
theorem dX12_puts_46 : decode cX12_puts 46 = .ok (.iadd, 1) := by decide +kernel
theorem dX12_puts_47 : decode cX12_puts 47 = .ok (.istore 7, 2) := by decide +kernel
theorem dX12_puts_49 : decode cX12_puts 49 = .ok (.iload 6, 2) := by decide +kernel
theorem dX12_puts_51 : decode cX12_puts 51 = .ok (.ifCond .lt 22, 3) := by decide +kernel
theorem dX12_puts_54 : decode cX12_puts 54 = .ok (.iload 6, 2) := by decide +kernel
theorem dX12_puts_56 : decode cX12_puts 56 = .ok (.bipush 13, 2) := by decide +kernel
theorem dX12_puts_58 : decode cX12_puts 58 = .ok (.if_icmp .ge 15, 3) := by decide +kernel
theorem dX12_puts_61 : decode cX12_puts 61 = .ok (.iload 7, 2) := by decide +kernel
theorem dX12_puts_63 : decode cX12_puts 63 = .ok (.ifCond .lt 10, 3) := by decide +kernel
theorem dX12_puts_66 : decode cX12_puts 66 = .ok (.iload 7, 2) := by decide +kernel
theorem dX12_puts_68 : decode cX12_puts 68 = .ok (.bipush 12, 2) := by decide +kernel
theorem dX12_puts_70 : decode cX12_puts 70 = .ok (.if_icmp .lt 9, 3) := by decide +kernel
theorem dX12_puts_73 : decode cX12_puts 73 = .ok (.aload_n 0, 1) := by decide +kernel
theorem dX12_puts_74 : decode cX12_puts 74 = .ok (.iconst 1, 1) := by decide +kernel
theorem dX12_puts_75 : decode cX12_puts 75 = .ok (.putfield 260, 3) := by decide +kernel
theorem dX12_puts_78 : decode cX12_puts 78 = .ok (.return_, 1) := by decide +kernel
theorem dX12_puts_79 : decode cX12_puts 79 = .ok (.bipush 13, 2) := by decide +kernel
theorem dX12_puts_81 : decode cX12_puts 81 = .ok (.iload 7, 2) := by decide +kernel
theorem dX12_puts_83 : decode cX12_puts 83 = .ok (.imul, 1) := by decide +kernel
theorem dX12_puts_84 : decode cX12_puts 84 = .ok (.iload 6, 2) := by decide +kernel
theorem dX12_puts_86 : decode cX12_puts 86 = .ok (.iadd, 1) := by decide +kernel
theorem dX12_puts_87 : decode cX12_puts 87 = .ok (.istore 8, 2) := by decide +kernel
theorem dX12_puts_89 : decode cX12_puts 89 = .ok (.aload_n 0, 1) := by decide +kernel
theorem dX12_puts_90 : decode cX12_puts 90 = .ok (.aload_n 0, 1) := by decide +kernel
theorem dX12_puts_91 : decode cX12_puts 91 = .ok (.getfield 86, 3) := by decide +kernel
theorem dX12_puts_94 : decode cX12_puts 94 = .ok (.iload 8, 2) := by decide +kernel
theorem dX12_puts_96 : decode cX12_puts 96 = .ok (.iaload, 1) := by decide +kernel
theorem dX12_puts_97 : decode cX12_puts 97 = .ok (.ifCond .le 7, 3) := by decide +kernel
theorem dX12_puts_100 : decode cX12_puts 100 = .ok (.iconst 2, 1) := by decide +kernel
theorem dX12_puts_101 : decode cX12_puts 101 = .ok (.goto 26, 3) := by decide +kernel
theorem dX12_puts_104 : decode cX12_puts 104 = .ok (.iload 5, 2) := by decide +kernel
theorem dX12_puts_106 : decode cX12_puts 106 = .ok (.invokestatic 250, 3) := by decide +kernel
theorem dX12_puts_109 : decode cX12_puts 109 = .ok (.ifCond .eq 17, 3) := by decide +kernel
theorem dX12_puts_112 : decode cX12_puts 112 = .ok (.aload_n 0, 1) := by decide +kernel
theorem dX12_puts_113 : decode cX12_puts 113 = .ok (.iconst 0, 1) := by decide +kernel
theorem dX12_puts_114 : decode cX12_puts 114 = .ok (.invokevirtual 288, 3) := by decide +kernel
theorem dX12_puts_117 : decode cX12_puts 117 = .ok (.bipush 16, 2) := by decide +kernel
theorem dX12_puts_119 : decode cX12_puts 119 = .ok (.if_icmp .ne 7, 3) := by decide +kernel
theorem dX12_puts_122 : decode cX12_puts 122 = .ok (.iconst 3, 1) := by decide +kernel
theorem dX12_puts_123 : decode cX12_puts 123 = .ok (.goto 4, 3) := by decide +kernel
theorem dX12_puts_126 : decode cX12_puts 126 = .ok (.iconst 0, 1) := by decide +kernel
theorem dX12_puts_127 : decode cX12_puts 127 = .ok (.putfield 260, 3) := by decide +kernel
theorem dX12_puts_130 : decode cX12_puts 130 = .ok (.aload_n 0, 1) := by decide +kernel
theorem dX12_puts_131 : decode cX12_puts 131 = .ok (.getfield 260, 3) := by decide +kernel
theorem dX12_puts_134 : decode cX12_puts 134 = .ok (.ifCond .le 4, 3) := by decide +kernel
theorem dX12_puts_137 : decode cX12_puts 137 = .ok (.return_, 1) := by decide +kernel
theorem dX12_puts_138 : decode cX12_puts 138 = .ok (.iload 5, 2) := by decide +kernel
theorem dX12_puts_140 : decode cX12_puts 140 = .ok (.iconst 4, 1) := by decide +kernel
theorem dX12_puts_141 : decode cX12_puts 141 = .ok (.if_icmp .eq 10, 3) := by decide +kernel
theorem dX12_puts_144 : decode cX12_puts 144 = .ok (.iload 5, 2) := by decide +kernel
theorem dX12_puts_146 : decode cX12_puts 146 = .ok (.bipush 9, 2) := by decide +kernel
theorem dX12_puts_148 : decode cX12_puts 148 = .ok (.if_icmp .ne 7, 3) := by decide +kernel
theorem dX12_puts_151 : decode cX12_puts 151 = .ok (.iconst 1, 1) := by decide +kernel
theorem dX12_puts_152 : decode cX12_puts 152 = .ok (.goto 4, 3) := by decide +kernel
theorem dX12_puts_155 : decode cX12_puts 155 = .ok (.iconst 0, 1) := by decide +kernel
theorem dX12_puts_156 : decode cX12_puts 156 = .ok (.istore 9, 2) := by decide +kernel
theorem dX12_puts_158 : decode cX12_puts 158 = .ok (.aload_n 0, 1) := by decide +kernel
theorem dX12_puts_159 : decode cX12_puts 159 = .ok (.getfield 86, 3) := by decide +kernel
theorem dX12_puts_162 : decode cX12_puts 162 = .ok (.iload 8, 2) := by decide +kernel
theorem dX12_puts_164 : decode cX12_puts 164 = .ok (.iload_n 2, 1) := by decide +kernel
theorem dX12_puts_165 : decode cX12_puts 165 = .ok (.ifCond .eq 13, 3) := by decide +kernel
theorem dX12_puts_168 : decode cX12_puts 168 = .ok (.iload 5, 2) := by decide +kernel
theorem dX12_puts_170 : decode cX12_puts 170 = .ok (.iconst 1, 1) := by decide +kernel
theorem dX12_puts_171 : decode cX12_puts 171 = .ok (.if_icmp .ne 7, 3) := by decide +kernel
theorem dX12_puts_174 : decode cX12_puts 174 = .ok (.iconst 2, 1) := by decide +kernel
theorem dX12_puts_175 : decode cX12_puts 175 = .ok (.goto 19, 3) := by decide +kernel
theorem dX12_puts_178 : decode cX12_puts 178 = .ok (.iload_n 2, 1) := by decide +kernel
theorem dX12_puts_179 : decode cX12_puts 179 = .ok (.ifCond .eq 13, 3) := by decide +kernel
theorem dX12_puts_182 : decode cX12_puts 182 = .ok (.iload 5, 2) := by decide +kernel
theorem dX12_puts_184 : decode cX12_puts 184 = .ok (.iconst 2, 1) := by decide +kernel
theorem dX12_puts_185 : decode cX12_puts 185 = .ok (.if_icmp .ne 7, 3) := by decide +kernel
theorem dX12_puts_188 : decode cX12_puts 188 = .ok (.iconst 1, 1) := by decide +kernel
theorem dX12_puts_189 : decode cX12_puts 189 = .ok (.goto 5, 3) := by decide +kernel
theorem dX12_puts_192 : decode cX12_puts 192 = .ok (.iload 5, 2) := by decide +kernel
theorem dX12_puts_194 : decode cX12_puts 194 = .ok (.iastore, 1) := by decide +kernel
theorem dX12_puts_195 : decode cX12_puts 195 = .ok (.aload_n 0, 1) := by decide +kernel
theorem dX12_puts_196 : decode cX12_puts 196 = .ok (.getfield 89, 3) := by decide +kernel
theorem dX12_puts_199 : decode cX12_puts 199 = .ok (.iload 8, 2) := by decide +kernel
theorem dX12_puts_201 : decode cX12_puts 201 = .ok (.iload 9, 2) := by decide +kernel
theorem dX12_puts_203 : decode cX12_puts 203 = .ok (.ifCond .eq 7, 3) := by decide +kernel
theorem dX12_puts_206 : decode cX12_puts 206 = .ok (.iconst 0, 1) := by decide +kernel
theorem dX12_puts_207 : decode cX12_puts 207 = .ok (.goto 11, 3) := by decide +kernel
theorem dX12_puts_210 : decode cX12_puts 210 = .ok (.aload_n 0, 1) := by decide +kernel
theorem dX12_puts_211 : decode cX12_puts 211 = .ok (.getfield 74, 3) := by decide +kernel
theorem dX12_puts_214 : decode cX12_puts 214 = .ok (.iload_n 1, 1) := by decide +kernel
theorem dX12_puts_215 : decode cX12_puts 215 = .ok (.iconst 1, 1) := by decide +kernel
theorem dX12_puts_216 : decode cX12_puts 216 = .ok (.iadd, 1) := by decide +kernel
theorem dX12_puts_217 : decode cX12_puts 217 = .ok (.iaload, 1) := by decide +kernel
theorem dX12_puts_218 : decode cX12_puts 218 = .ok (.iastore, 1) := by decide +kernel
theorem dX12_puts_219 : decode cX12_puts 219 = .ok (.aload_n 0, 1) := by decide +kernel
theorem dX12_puts_220 : decode cX12_puts 220 = .ok (.getfield 92, 3) := by decide +kernel
theorem dX12_puts_223 : decode cX12_puts 223 = .ok (.iload 8, 2) := by decide +kernel
theorem dX12_puts_225 : decode cX12_puts 225 = .ok (.iload 9, 2) := by decide +kernel
theorem dX12_puts_227 : decode cX12_puts 227 = .ok (.ifCond .eq 31, 3) := by decide +kernel
theorem dX12_puts_230 : decode cX12_puts 230 = .ok (.iload_n 2, 1) := by decide +kernel
theorem dX12_puts_231 : decode cX12_puts 231 = .ok (.ifCond .eq 16, 3) := by decide +kernel
theorem dX12_puts_234 : decode cX12_puts 234 = .ok (.iconst 1, 1) := by decide +kernel
theorem dX12_puts_235 : decode cX12_puts 235 = .ok (.aload_n 0, 1) := by decide +kernel
theorem dX12_puts_236 : decode cX12_puts 236 = .ok (.getfield 74, 3) := by decide +kernel
theorem dX12_puts_239 : decode cX12_puts 239 = .ok (.iload_n 1, 1) := by decide +kernel
theorem dX12_puts_240 : decode cX12_puts 240 = .ok (.iconst 1, 1) := by decide +kernel
theorem dX12_puts_241 : decode cX12_puts 241 = .ok (.iadd, 1) := by decide +kernel
theorem dX12_puts_242 : decode cX12_puts 242 = .ok (.iaload, 1) := by decide +kernel
theorem dX12_puts_243 : decode cX12_puts 243 = .ok (.isub, 1) := by decide +kernel
theorem dX12_puts_244 : decode cX12_puts 244 = .ok (.goto 15, 3) := by decide +kernel
theorem dX12_puts_247 : decode cX12_puts 247 = .ok (.aload_n 0, 1) := by decide +kernel
theorem dX12_puts_248 : decode cX12_puts 248 = .ok (.getfield 74, 3) := by decide +kernel
theorem dX12_puts_251 : decode cX12_puts 251 = .ok (.iload_n 1, 1) := by decide +kernel
theorem dX12_puts_252 : decode cX12_puts 252 = .ok (.iconst 1, 1) := by decide +kernel
theorem dX12_puts_253 : decode cX12_puts 253 = .ok (.iadd, 1) := by decide +kernel
theorem dX12_puts_254 : decode cX12_puts 254 = .ok (.iaload, 1) := by decide +kernel
theorem dX12_puts_255 : decode cX12_puts 255 = .ok (.goto 4, 3) := by decide +kernel
theorem dX12_puts_258 : decode cX12_puts 258 = .ok (.iconst 0, 1) := by decide +kernel
theorem dX12_puts_259 : decode cX12_puts 259 = .ok (.iastore, 1) := by decide +kernel
theorem dX12_puts_260 : decode cX12_puts 260 = .ok (.aload_n 0, 1) := by decide +kernel
theorem dX12_puts_261 : decode cX12_puts 261 = .ok (.dup, 1) := by decide +kernel
theorem dX12_puts_262 : decode cX12_puts 262 = .ok (.getfield 266, 3) := by decide +kernel
theorem dX12_puts_265 : decode cX12_puts 265 = .ok (.iconst 1, 1) := by decide +kernel
theorem dX12_puts_266 : decode cX12_puts 266 = .ok (.iadd, 1) := by decide +kernel
theorem dX12_puts_267 : decode cX12_puts 267 = .ok (.putfield 266, 3) := by decide +kernel
theorem dX12_puts_270 : decode cX12_puts 270 = .ok (.return_, 1) := by decide +kernel
theorem dX12_beside_0 : decode cX12_beside 0 = .ok (.iload_n 0, 1) := by decide +kernel
theorem dX12_beside_1 : decode cX12_beside 1 = .ok (.bipush 13, 2) := by decide +kernel
theorem dX12_beside_3 : decode cX12_beside 3 = .ok (.irem, 1) := by decide +kernel
theorem dX12_beside_4 : decode cX12_beside 4 = .ok (.iload_n 1, 1) := by decide +kernel
theorem dX12_beside_5 : decode cX12_beside 5 = .ok (.ifCond .ne 7, 3) := by decide +kernel
theorem dX12_beside_8 : decode cX12_beside 8 = .ok (.iconst (-1), 1) := by decide +kernel
theorem dX12_beside_9 : decode cX12_beside 9 = .ok (.goto 13, 3) := by decide +kernel
theorem dX12_beside_12 : decode cX12_beside 12 = .ok (.iload_n 1, 1) := by decide +kernel
theorem dX12_beside_13 : decode cX12_beside 13 = .ok (.iconst 1, 1) := by decide +kernel
theorem dX12_beside_14 : decode cX12_beside 14 = .ok (.if_icmp .ne 7, 3) := by decide +kernel
theorem dX12_beside_17 : decode cX12_beside 17 = .ok (.iconst 1, 1) := by decide +kernel
theorem dX12_beside_18 : decode cX12_beside 18 = .ok (.goto 4, 3) := by decide +kernel
theorem dX12_beside_21 : decode cX12_beside 21 = .ok (.iconst 0, 1) := by decide +kernel
theorem dX12_beside_22 : decode cX12_beside 22 = .ok (.iadd, 1) := by decide +kernel
theorem dX12_beside_23 : decode cX12_beside 23 = .ok (.istore_n 2, 1) := by decide +kernel
theorem dX12_beside_24 : decode cX12_beside 24 = .ok (.iload_n 0, 1) := by decide +kernel
theorem dX12_beside_25 : decode cX12_beside 25 = .ok (.bipush 13, 2) := by decide +kernel
theorem dX12_beside_27 : decode cX12_beside 27 = .ok (.idiv, 1) := by decide +kernel
theorem dX12_beside_28 : decode cX12_beside 28 = .ok (.iload_n 1, 1) := by decide +kernel
theorem dX12_beside_29 : decode cX12_beside 29 = .ok (.iconst 2, 1) := by decide +kernel
theorem dX12_beside_30 : decode cX12_beside 30 = .ok (.if_icmp .ne 7, 3) := by decide +kernel
theorem dX12_beside_33 : decode cX12_beside 33 = .ok (.iconst (-1), 1) := by decide +kernel
theorem dX12_beside_34 : decode cX12_beside 34 = .ok (.goto 13, 3) := by decide +kernel
theorem dX12_beside_37 : decode cX12_beside 37 = .ok (.iload_n 1, 1) := by decide +kernel
theorem dX12_beside_38 : decode cX12_beside 38 = .ok (.iconst 3, 1) := by decide +kernel
theorem dX12_beside_39 : decode cX12_beside 39 = .ok (.if_icmp .ne 7, 3) := by decide +kernel
theorem dX12_beside_42 : decode cX12_beside 42 = .ok (.iconst 1, 1) := by decide +kernel
theorem dX12_beside_43 : decode cX12_beside 43 = .ok (.goto 4, 3) := by decide +kernel
theorem dX12_beside_46 : decode cX12_beside 46 = .ok (.iconst 0, 1) := by decide +kernel
theorem dX12_beside_47 : decode cX12_beside 47 = .ok (.iadd, 1) := by decide +kernel
theorem dX12_beside_48 : decode cX12_beside 48 = .ok (.istore_n 3, 1) := by decide +kernel
theorem dX12_beside_49 : decode cX12_beside 49 = .ok (.iload_n 2, 1) := by decide +kernel
theorem dX12_beside_50 : decode cX12_beside 50 = .ok (.ifCond .lt 19, 3) := by decide +kernel
theorem dX12_beside_53 : decode cX12_beside 53 = .ok (.iload_n 2, 1) := by decide +kernel
theorem dX12_beside_54 : decode cX12_beside 54 = .ok (.bipush 13, 2) := by decide +kernel
theorem dX12_beside_56 : decode cX12_beside 56 = .ok (.if_icmp .ge 13, 3) := by decide +kernel
theorem dX12_beside_59 : decode cX12_beside 59 = .ok (.iload_n 3, 1) := by decide +kernel
theorem dX12_beside_60 : decode cX12_beside 60 = .ok (.ifCond .lt 9, 3) := by decide +kernel
theorem dX12_beside_63 : decode cX12_beside 63 = .ok (.iload_n 3, 1) := by decide +kernel
theorem dX12_beside_64 : decode cX12_beside 64 = .ok (.bipush 12, 2) := by decide +kernel
theorem dX12_beside_66 : decode cX12_beside 66 = .ok (.if_icmp .lt 7, 3) := by decide +kernel
theorem dX12_beside_69 : decode cX12_beside 69 = .ok (.iconst (-1), 1) := by decide +kernel
theorem dX12_beside_70 : decode cX12_beside 70 = .ok (.goto 9, 3) := by decide +kernel
theorem dX12_beside_73 : decode cX12_beside 73 = .ok (.bipush 13, 2) := by decide +kernel
theorem dX12_beside_75 : decode cX12_beside 75 = .ok (.iload_n 3, 1) := by decide +kernel
