theorem d_M_alike_0 : decode b_M_alike 0 = .ok (.iconst 0, 1) := by decide +kernel
theorem d_M_alike_1 : decode b_M_alike 1 = .ok (.istore_n 3, 1) := by decide +kernel
theorem d_M_alike_2 : decode b_M_alike 2 = .ok (.iload_n 2, 1) := by decide +kernel
theorem d_M_alike_3 : decode b_M_alike 3 = .ok (.iload_n 3, 1) := by decide +kernel
theorem d_M_alike_4 : decode b_M_alike 4 = .ok (.iadd, 1) := by decide +kernel
theorem d_M_alike_5 : decode b_M_alike 5 = .ok (.bipush 16, 2) := by decide +kernel
theorem d_M_alike_7 : decode b_M_alike 7 = .ok (.if_icmp .ge 28, 3) := by decide +kernel
theorem d_M_alike_10 : decode b_M_alike 10 = .ok (.aload_n 0, 1) := by decide +kernel
theorem d_M_alike_11 : decode b_M_alike 11 = .ok (.getfield 51, 3) := by decide +kernel
theorem d_M_alike_14 : decode b_M_alike 14 = .ok (.iload_n 1, 1) := by decide +kernel
theorem d_M_alike_15 : decode b_M_alike 15 = .ok (.iload_n 3, 1) := by decide +kernel
theorem d_M_alike_16 : decode b_M_alike 16 = .ok (.iadd, 1) := by decide +kernel
theorem d_M_alike_17 : decode b_M_alike 17 = .ok (.iaload, 1) := by decide +kernel
theorem d_M_alike_18 : decode b_M_alike 18 = .ok (.aload_n 0, 1) := by decide +kernel
theorem d_M_alike_19 : decode b_M_alike 19 = .ok (.getfield 51, 3) := by decide +kernel
theorem d_M_alike_22 : decode b_M_alike 22 = .ok (.iload_n 2, 1) := by decide +kernel
theorem d_M_alike_23 : decode b_M_alike 23 = .ok (.iload_n 3, 1) := by decide +kernel
theorem d_M_alike_24 : decode b_M_alike 24 = .ok (.iadd, 1) := by decide +kernel
theorem d_M_alike_25 : decode b_M_alike 25 = .ok (.iaload, 1) := by decide +kernel
theorem d_M_alike_26 : decode b_M_alike 26 = .ok (.if_icmp .ne 9, 3) := by decide +kernel
theorem d_M_alike_29 : decode b_M_alike 29 = .ok (.iinc 3 1, 3) := by decide +kernel
theorem d_M_alike_32 : decode b_M_alike 32 = .ok (.goto (-30), 3) := by decide +kernel
theorem d_M_alike_35 : decode b_M_alike 35 = .ok (.iload_n 3, 1) := by decide +kernel
theorem d_M_alike_36 : decode b_M_alike 36 = .ok (.ireturn, 1) := by decide +kernel
theorem d_M_pack_0 : decode b_M_pack 0 = .ok (.iconst 0, 1) := by decide +kernel
theorem d_M_pack_1 : decode b_M_pack 1 = .ok (.istore 5, 2) := by decide +kernel
theorem d_M_pack_3 : decode b_M_pack 3 = .ok (.iload 5, 2) := by decide +kernel
theorem d_M_pack_5 : decode b_M_pack 5 = .ok (.bipush 8, 2) := by decide +kernel
theorem d_M_pack_7 : decode b_M_pack 7 = .ok (.if_icmp .ge 56, 3) := by decide +kernel
theorem d_M_pack_10 : decode b_M_pack 10 = .ok (.aload_n 0, 1) := by decide +kernel
theorem d_M_pack_11 : decode b_M_pack 11 = .ok (.getfield 51, 3) := by decide +kernel
theorem d_M_pack_14 : decode b_M_pack 14 = .ok (.iload 5, 2) := by decide +kernel
theorem d_M_pack_16 : decode b_M_pack 16 = .ok (.lload_n 1, 1) := by decide +kernel
theorem d_M_pack_17 : decode b_M_pack 17 = .ok (.bipush 56, 2) := by decide +kernel
theorem d_M_pack_19 : decode b_M_pack 19 = .ok (.bipush 8, 2) := by decide +kernel
theorem d_M_pack_21 : decode b_M_pack 21 = .ok (.iload 5, 2) := by decide +kernel
theorem d_M_pack_23 : decode b_M_pack 23 = .ok (.imul, 1) := by decide +kernel
theorem d_M_pack_24 : decode b_M_pack 24 = .ok (.isub, 1) := by decide +kernel
theorem d_M_pack_25 : decode b_M_pack 25 = .ok (.lshr, 1) := by decide +kernel
theorem d_M_pack_26 : decode b_M_pack 26 = .ok (.ldc2_w 61, 3) := by decide +kernel
theorem d_M_pack_29 : decode b_M_pack 29 = .ok (.land, 1) := by decide +kernel
theorem d_M_pack_30 : decode b_M_pack 30 = .ok (.l2i, 1) := by decide +kernel
theorem d_M_pack_31 : decode b_M_pack 31 = .ok (.iastore, 1) := by decide +kernel
theorem d_M_pack_32 : decode b_M_pack 32 = .ok (.aload_n 0, 1) := by decide +kernel
theorem d_M_pack_33 : decode b_M_pack 33 = .ok (.getfield 51, 3) := by decide +kernel
theorem d_M_pack_36 : decode b_M_pack 36 = .ok (.bipush 8, 2) := by decide +kernel
theorem d_M_pack_38 : decode b_M_pack 38 = .ok (.iload 5, 2) := by decide +kernel
theorem d_M_pack_40 : decode b_M_pack 40 = .ok (.iadd, 1) := by decide +kernel
theorem d_M_pack_41 : decode b_M_pack 41 = .ok (.lload_n 3, 1) := by decide +kernel
theorem d_M_pack_42 : decode b_M_pack 42 = .ok (.bipush 56, 2) := by decide +kernel
theorem d_M_pack_44 : decode b_M_pack 44 = .ok (.bipush 8, 2) := by decide +kernel
theorem d_M_pack_46 : decode b_M_pack 46 = .ok (.iload 5, 2) := by decide +kernel
theorem d_M_pack_48 : decode b_M_pack 48 = .ok (.imul, 1) := by decide +kernel
theorem d_M_pack_49 : decode b_M_pack 49 = .ok (.isub, 1) := by decide +kernel
theorem d_M_pack_50 : decode b_M_pack 50 = .ok (.lshr, 1) := by decide +kernel
theorem d_M_pack_51 : decode b_M_pack 51 = .ok (.ldc2_w 61, 3) := by decide +kernel
theorem d_M_pack_54 : decode b_M_pack 54 = .ok (.land, 1) := by decide +kernel
theorem d_M_pack_55 : decode b_M_pack 55 = .ok (.l2i, 1) := by decide +kernel
theorem d_M_pack_56 : decode b_M_pack 56 = .ok (.iastore, 1) := by decide +kernel
theorem d_M_pack_57 : decode b_M_pack 57 = .ok (.iinc 5 1, 3) := by decide +kernel
theorem d_M_pack_60 : decode b_M_pack 60 = .ok (.goto (-57), 3) := by decide +kernel
theorem d_M_pack_63 : decode b_M_pack 63 = .ok (.iconst 0, 1) := by decide +kernel
theorem d_M_pack_64 : decode b_M_pack 64 = .ok (.istore 5, 2) := by decide +kernel
theorem d_M_pack_66 : decode b_M_pack 66 = .ok (.iconst 1, 1) := by decide +kernel
theorem d_M_pack_67 : decode b_M_pack 67 = .ok (.istore 6, 2) := by decide +kernel
theorem d_M_pack_69 : decode b_M_pack 69 = .ok (.iconst 0, 1) := by decide +kernel
theorem d_M_pack_70 : decode b_M_pack 70 = .ok (.istore 7, 2) := by decide +kernel
theorem d_M_pack_72 : decode b_M_pack 72 = .ok (.iload 7, 2) := by decide +kernel
theorem d_M_pack_74 : decode b_M_pack 74 = .ok (.bipush 16, 2) := by decide +kernel
theorem d_M_pack_76 : decode b_M_pack 76 = .ok (.if_icmp .ge 163, 3) := by decide +kernel
theorem d_M_pack_79 : decode b_M_pack 79 = .ok (.iconst 0, 1) := by decide +kernel
theorem d_M_pack_80 : decode b_M_pack 80 = .ok (.istore 8, 2) := by decide +kernel
theorem d_M_pack_82 : decode b_M_pack 82 = .ok (.iconst 0, 1) := by decide +kernel
theorem d_M_pack_83 : decode b_M_pack 83 = .ok (.istore 9, 2) := by decide +kernel
theorem d_M_pack_85 : decode b_M_pack 85 = .ok (.iconst 0, 1) := by decide +kernel
theorem d_M_pack_86 : decode b_M_pack 86 = .ok (.istore 10, 2) := by decide +kernel
theorem d_M_pack_88 : decode b_M_pack 88 = .ok (.iload 10, 2) := by decide +kernel
theorem d_M_pack_90 : decode b_M_pack 90 = .ok (.iload 7, 2) := by decide +kernel
theorem d_M_pack_92 : decode b_M_pack 92 = .ok (.if_icmp .ge 34, 3) := by decide +kernel
theorem d_M_pack_95 : decode b_M_pack 95 = .ok (.aload_n 0, 1) := by decide +kernel
theorem d_M_pack_96 : decode b_M_pack 96 = .ok (.iload 10, 2) := by decide +kernel
theorem d_M_pack_98 : decode b_M_pack 98 = .ok (.iload 7, 2) := by decide +kernel
theorem d_M_pack_100 : decode b_M_pack 100 = .ok (.invokevirtual 63, 3) := by decide +kernel
theorem d_M_pack_103 : decode b_M_pack 103 = .ok (.istore 11, 2) := by decide +kernel
theorem d_M_pack_105 : decode b_M_pack 105 = .ok (.iload 11, 2) := by decide +kernel
theorem d_M_pack_107 : decode b_M_pack 107 = .ok (.iload 8, 2) := by decide +kernel
theorem d_M_pack_109 : decode b_M_pack 109 = .ok (.if_icmp .lt 11, 3) := by decide +kernel
theorem d_M_pack_112 : decode b_M_pack 112 = .ok (.iload 11, 2) := by decide +kernel
theorem d_M_pack_114 : decode b_M_pack 114 = .ok (.istore 8, 2) := by decide +kernel
theorem d_M_pack_116 : decode b_M_pack 116 = .ok (.iload 10, 2) := by decide +kernel
theorem d_M_pack_118 : decode b_M_pack 118 = .ok (.istore 9, 2) := by decide +kernel
theorem d_M_pack_120 : decode b_M_pack 120 = .ok (.iinc 10 1, 3) := by decide +kernel
theorem d_M_pack_123 : decode b_M_pack 123 = .ok (.goto (-35), 3) := by decide +kernel
theorem d_M_pack_126 : decode b_M_pack 126 = .ok (.iload 6, 2) := by decide +kernel
theorem d_M_pack_128 : decode b_M_pack 128 = .ok (.iload 5, 2) := by decide +kernel
theorem d_M_pack_130 : decode b_M_pack 130 = .ok (.isub, 1) := by decide +kernel
theorem d_M_pack_131 : decode b_M_pack 131 = .ok (.iconst 1, 1) := by decide +kernel
theorem d_M_pack_132 : decode b_M_pack 132 = .ok (.isub, 1) := by decide +kernel
theorem d_M_pack_133 : decode b_M_pack 133 = .ok (.istore 10, 2) := by decide +kernel
theorem d_M_pack_135 : decode b_M_pack 135 = .ok (.iload 8, 2) := by decide +kernel
theorem d_M_pack_137 : decode b_M_pack 137 = .ok (.iconst 3, 1) := by decide +kernel
theorem d_M_pack_138 : decode b_M_pack 138 = .ok (.if_icmp .ge 29, 3) := by decide +kernel
theorem d_M_pack_141 : decode b_M_pack 141 = .ok (.aload_n 0, 1) := by decide +kernel
theorem d_M_pack_142 : decode b_M_pack 142 = .ok (.getfield 54, 3) := by decide +kernel
theorem d_M_pack_145 : decode b_M_pack 145 = .ok (.iload 6, 2) := by decide +kernel
theorem d_M_pack_147 : decode b_M_pack 147 = .ok (.aload_n 0, 1) := by decide +kernel
theorem d_M_pack_148 : decode b_M_pack 148 = .ok (.getfield 51, 3) := by decide +kernel
theorem d_M_pack_151 : decode b_M_pack 151 = .ok (.iload 7, 2) := by decide +kernel
theorem d_M_pack_153 : decode b_M_pack 153 = .ok (.iaload, 1) := by decide +kernel
theorem d_M_pack_154 : decode b_M_pack 154 = .ok (.iastore, 1) := by decide +kernel
theorem d_M_pack_155 : decode b_M_pack 155 = .ok (.iinc 6 1, 3) := by decide +kernel
theorem d_M_pack_158 : decode b_M_pack 158 = .ok (.iinc 7 1, 3) := by decide +kernel
theorem d_M_pack_161 : decode b_M_pack 161 = .ok (.iinc 10 1, 3) := by decide +kernel
theorem d_M_pack_164 : decode b_M_pack 164 = .ok (.goto 25, 3) := by decide +kernel
theorem d_M_pack_167 : decode b_M_pack 167 = .ok (.aload_n 0, 1) := by decide +kernel
theorem d_M_pack_168 : decode b_M_pack 168 = .ok (.getfield 54, 3) := by decide +kernel
theorem d_M_pack_171 : decode b_M_pack 171 = .ok (.iload 6, 2) := by decide +kernel
theorem d_M_pack_173 : decode b_M_pack 173 = .ok (.iload 7, 2) := by decide +kernel
theorem d_M_pack_175 : decode b_M_pack 175 = .ok (.iload 9, 2) := by decide +kernel
theorem d_M_pack_177 : decode b_M_pack 177 = .ok (.isub, 1) := by decide +kernel
theorem d_M_pack_178 : decode b_M_pack 178 = .ok (.iastore, 1) := by decide +kernel
theorem d_M_pack_179 : decode b_M_pack 179 = .ok (.iinc 6 1, 3) := by decide +kernel
theorem d_M_pack_182 : decode b_M_pack 182 = .ok (.iload 7, 2) := by decide +kernel
theorem d_M_pack_184 : decode b_M_pack 184 = .ok (.iload 8, 2) := by decide +kernel
theorem d_M_pack_186 : decode b_M_pack 186 = .ok (.iadd, 1) := by decide +kernel
theorem d_M_pack_187 : decode b_M_pack 187 = .ok (.istore 7, 2) := by decide +kernel
theorem d_M_pack_189 : decode b_M_pack 189 = .ok (.iload 8, 2) := by decide +kernel
theorem d_M_pack_191 : decode b_M_pack 191 = .ok (.iconst 3, 1) := by decide +kernel
theorem d_M_pack_192 : decode b_M_pack 192 = .ok (.if_icmp .ge 10, 3) := by decide +kernel
theorem d_M_pack_195 : decode b_M_pack 195 = .ok (.iload 10, 2) := by decide +kernel
theorem d_M_pack_197 : decode b_M_pack 197 = .ok (.bipush 15, 2) := by decide +kernel
theorem d_M_pack_199 : decode b_M_pack 199 = .ok (.if_icmp .ne 37, 3) := by decide +kernel
theorem d_M_pack_202 : decode b_M_pack 202 = .ok (.aload_n 0, 1) := by decide +kernel
theorem d_M_pack_203 : decode b_M_pack 203 = .ok (.getfield 54, 3) := by decide +kernel
theorem d_M_pack_206 : decode b_M_pack 206 = .ok (.iload 5, 2) := by decide +kernel
theorem d_M_pack_208 : decode b_M_pack 208 = .ok (.bipush 16, 2) := by decide +kernel
theorem d_M_pack_210 : decode b_M_pack 210 = .ok (.iload 10, 2) := by decide +kernel
theorem d_M_pack_212 : decode b_M_pack 212 = .ok (.imul, 1) := by decide +kernel
theorem d_M_pack_213 : decode b_M_pack 213 = .ok (.iload 8, 2) := by decide +kernel
theorem d_M_pack_215 : decode b_M_pack 215 = .ok (.iconst 3, 1) := by decide +kernel
theorem d_M_pack_216 : decode b_M_pack 216 = .ok (.if_icmp .ge 7, 3) := by decide +kernel
theorem d_M_pack_219 : decode b_M_pack 219 = .ok (.iconst 0, 1) := by decide +kernel
theorem d_M_pack_220 : decode b_M_pack 220 = .ok (.goto 7, 3) := by decide +kernel
theorem d_M_pack_223 : decode b_M_pack 223 = .ok (.iload 8, 2) := by decide +kernel
theorem d_M_pack_225 : decode b_M_pack 225 = .ok (.iconst 2, 1) := by decide +kernel
theorem d_M_pack_226 : decode b_M_pack 226 = .ok (.isub, 1) := by decide +kernel
theorem d_M_pack_227 : decode b_M_pack 227 = .ok (.iadd, 1) := by decide +kernel
theorem d_M_pack_228 : decode b_M_pack 228 = .ok (.iastore, 1) := by decide +kernel
theorem d_M_pack_229 : decode b_M_pack 229 = .ok (.iload 6, 2) := by decide +kernel
theorem d_M_pack_231 : decode b_M_pack 231 = .ok (.istore 5, 2) := by decide +kernel
theorem d_M_pack_233 : decode b_M_pack 233 = .ok (.iinc 6 1, 3) := by decide +kernel
theorem d_M_pack_236 : decode b_M_pack 236 = .ok (.goto (-164), 3) := by decide +kernel
theorem d_M_pack_239 : decode b_M_pack 239 = .ok (.aload_n 0, 1) := by decide +kernel
theorem d_M_pack_240 : decode b_M_pack 240 = .ok (.getfield 54, 3) := by decide +kernel
theorem d_M_pack_243 : decode b_M_pack 243 = .ok (.iload 5, 2) := by decide +kernel
theorem d_M_pack_245 : decode b_M_pack 245 = .ok (.bipush 16, 2) := by decide +kernel
theorem d_M_pack_247 : decode b_M_pack 247 = .ok (.iload 6, 2) := by decide +kernel
theorem d_M_pack_249 : decode b_M_pack 249 = .ok (.iload 5, 2) := by decide +kernel
theorem d_M_pack_251 : decode b_M_pack 251 = .ok (.isub, 1) := by decide +kernel
theorem d_M_pack_252 : decode b_M_pack 252 = .ok (.iconst 1, 1) := by decide +kernel
theorem d_M_pack_253 : decode b_M_pack 253 = .ok (.isub, 1) := by decide +kernel
theorem d_M_pack_254 : decode b_M_pack 254 = .ok (.imul, 1) := by decide +kernel
theorem d_M_pack_255 : decode b_M_pack 255 = .ok (.iastore, 1) := by decide +kernel
theorem d_M_pack_256 : decode b_M_pack 256 = .ok (.aload_n 0, 1) := by decide +kernel
theorem d_M_pack_257 : decode b_M_pack 257 = .ok (.iload 6, 2) := by decide +kernel
theorem d_M_pack_259 : decode b_M_pack 259 = .ok (.iload 5, 2) := by decide +kernel
theorem d_M_pack_261 : decode b_M_pack 261 = .ok (.isub, 1) := by decide +kernel
theorem d_M_pack_262 : decode b_M_pack 262 = .ok (.iconst 1, 1) := by decide +kernel
theorem d_M_pack_263 : decode b_M_pack 263 = .ok (.if_icmp .le 8, 3) := by decide +kernel
theorem d_M_pack_266 : decode b_M_pack 266 = .ok (.iload 6, 2) := by decide +kernel
theorem d_M_pack_268 : decode b_M_pack 268 = .ok (.goto 5, 3) := by decide +kernel
theorem d_M_pack_271 : decode b_M_pack 271 = .ok (.iload 5, 2) := by decide +kernel
theorem d_M_pack_273 : decode b_M_pack 273 = .ok (.putfield 67, 3) := by decide +kernel
theorem d_M_pack_276 : decode b_M_pack 276 = .ok (.aload_n 0, 1) := by decide +kernel
theorem d_M_pack_277 : decode b_M_pack 277 = .ok (.getfield 67, 3) := by decide +kernel
theorem d_M_pack_280 : decode b_M_pack 280 = .ok (.bipush 16, 2) := by decide +kernel
theorem d_M_pack_282 : decode b_M_pack 282 = .ok (.if_icmp .ge 4, 3) := by decide +kernel
theorem d_M_pack_285 : decode b_M_pack 285 = .ok (.return_, 1) := by decide +kernel
theorem d_M_pack_286 : decode b_M_pack 286 = .ok (.aload_n 0, 1) := by decide +kernel
theorem d_M_pack_287 : decode b_M_pack 287 = .ok (.bipush 16, 2) := by decide +kernel
theorem d_M_pack_289 : decode b_M_pack 289 = .ok (.putfield 67, 3) := by decide +kernel
theorem d_M_pack_292 : decode b_M_pack 292 = .ok (.iconst 0, 1) := by decide +kernel
theorem d_M_pack_293 : decode b_M_pack 293 = .ok (.istore 8, 2) := by decide +kernel
theorem d_M_pack_295 : decode b_M_pack 295 = .ok (.iload 8, 2) := by decide +kernel
theorem d_M_pack_297 : decode b_M_pack 297 = .ok (.bipush 16, 2) := by decide +kernel
theorem d_M_pack_299 : decode b_M_pack 299 = .ok (.if_icmp .ge 23, 3) := by decide +kernel
theorem d_M_pack_302 : decode b_M_pack 302 = .ok (.aload_n 0, 1) := by decide +kernel
theorem d_M_pack_303 : decode b_M_pack 303 = .ok (.getfield 54, 3) := by decide +kernel
theorem d_M_pack_306 : decode b_M_pack 306 = .ok (.iload 8, 2) := by decide +kernel
theorem d_M_pack_308 : decode b_M_pack 308 = .ok (.aload_n 0, 1) := by decide +kernel
theorem d_M_pack_309 : decode b_M_pack 309 = .ok (.getfield 51, 3) := by decide +kernel
theorem d_M_pack_312 : decode b_M_pack 312 = .ok (.iload 8, 2) := by decide +kernel
theorem d_M_pack_314 : decode b_M_pack 314 = .ok (.iaload, 1) := by decide +kernel
theorem d_M_pack_315 : decode b_M_pack 315 = .ok (.iastore, 1) := by decide +kernel
theorem d_M_pack_316 : decode b_M_pack 316 = .ok (.iinc 8 1, 3) := by decide +kernel
theorem d_M_pack_319 : decode b_M_pack 319 = .ok (.goto (-24), 3) := by decide +kernel
theorem d_M_pack_322 : decode b_M_pack 322 = .ok (.return_, 1) := by decide +kernel
theorem d_M_writeUnit_0 : decode b_M_writeUnit 0 = .ok (.aload_n 0, 1) := by decide +kernel
theorem d_M_writeUnit_1 : decode b_M_writeUnit 1 = .ok (.getfield 70, 3) := by decide +kernel
theorem d_M_writeUnit_4 : decode b_M_writeUnit 4 = .ok (.ifCond .eq 17, 3) := by decide +kernel
theorem d_M_writeUnit_7 : decode b_M_writeUnit 7 = .ok (.aload_n 0, 1) := by decide +kernel
theorem d_M_writeUnit_8 : decode b_M_writeUnit 8 = .ok (.getfield 74, 3) := by decide +kernel
theorem d_M_writeUnit_11 : decode b_M_writeUnit 11 = .ok (.ifCond .ne 10, 3) := by decide +kernel
theorem d_M_writeUnit_14 : decode b_M_writeUnit 14 = .ok (.aload_n 0, 1) := by decide +kernel
theorem d_M_writeUnit_15 : decode b_M_writeUnit 15 = .ok (.iconst 1, 1) := by decide +kernel
theorem d_M_writeUnit_16 : decode b_M_writeUnit 16 = .ok (.putfield 77, 3) := by decide +kernel
theorem d_M_writeUnit_19 : decode b_M_writeUnit 19 = .ok (.iconst 0, 1) := by decide +kernel
theorem d_M_writeUnit_20 : decode b_M_writeUnit 20 = .ok (.ireturn, 1) := by decide +kernel
theorem d_M_writeUnit_21 : decode b_M_writeUnit 21 = .ok (.aload_n 0, 1) := by decide +kernel
theorem d_M_writeUnit_22 : decode b_M_writeUnit 22 = .ok (.getfield 70, 3) := by decide +kernel
theorem d_M_writeUnit_25 : decode b_M_writeUnit 25 = .ok (.ifCond .eq 13, 3) := by decide +kernel
theorem d_M_writeUnit_28 : decode b_M_writeUnit 28 = .ok (.aload_n 0, 1) := by decide +kernel
theorem d_M_writeUnit_29 : decode b_M_writeUnit 29 = .ok (.dup, 1) := by decide +kernel
theorem d_M_writeUnit_30 : decode b_M_writeUnit 30 = .ok (.getfield 74, 3) := by decide +kernel
theorem d_M_writeUnit_33 : decode b_M_writeUnit 33 = .ok (.iconst 1, 1) := by decide +kernel
theorem d_M_writeUnit_34 : decode b_M_writeUnit 34 = .ok (.isub, 1) := by decide +kernel
theorem d_M_writeUnit_35 : decode b_M_writeUnit 35 = .ok (.putfield 74, 3) := by decide +kernel
theorem d_M_writeUnit_38 : decode b_M_writeUnit 38 = .ok (.aload_n 0, 1) := by decide +kernel
theorem d_M_writeUnit_39 : decode b_M_writeUnit 39 = .ok (.dup, 1) := by decide +kernel
theorem d_M_writeUnit_40 : decode b_M_writeUnit 40 = .ok (.getfield 80, 3) := by decide +kernel
theorem d_M_writeUnit_43 : decode b_M_writeUnit 43 = .ok (.iconst 1, 1) := by decide +kernel
theorem d_M_writeUnit_44 : decode b_M_writeUnit 44 = .ok (.iadd, 1) := by decide +kernel
theorem d_M_writeUnit_45 : decode b_M_writeUnit 45 = .ok (.putfield 80, 3) := by decide +kernel
theorem d_M_writeUnit_48 : decode b_M_writeUnit 48 = .ok (.iconst 1, 1) := by decide +kernel
theorem d_M_writeUnit_49 : decode b_M_writeUnit 49 = .ok (.ireturn, 1) := by decide +kernel
theorem d_M_save_0 : decode b_M_save 0 = .ok (.iconst 0, 1) := by decide +kernel
theorem d_M_save_1 : decode b_M_save 1 = .ok (.istore_n 1, 1) := by decide +kernel
theorem d_M_save_2 : decode b_M_save 2 = .ok (.aload_n 0, 1) := by decide +kernel
theorem d_M_save_3 : decode b_M_save 3 = .ok (.getfield 16, 3) := by decide +kernel
theorem d_M_save_6 : decode b_M_save 6 = .ok (.aload_n 0, 1) := by decide +kernel
theorem d_M_save_7 : decode b_M_save 7 = .ok (.getfield 83, 3) := by decide +kernel
theorem d_M_save_10 : decode b_M_save 10 = .ok (.iaload, 1) := by decide +kernel
theorem d_M_save_11 : decode b_M_save 11 = .ok (.aload_n 0, 1) := by decide +kernel
theorem d_M_save_12 : decode b_M_save 12 = .ok (.getfield 13, 3) := by decide +kernel
theorem d_M_save_15 : decode b_M_save 15 = .ok (.aload_n 0, 1) := by decide +kernel
theorem d_M_save_16 : decode b_M_save 16 = .ok (.getfield 83, 3) := by decide +kernel
theorem d_M_save_19 : decode b_M_save 19 = .ok (.iaload, 1) := by decide +kernel
theorem d_M_save_20 : decode b_M_save 20 = .ok (.if_icmp .ge 32, 3) := by decide +kernel
theorem d_M_save_23 : decode b_M_save 23 = .ok (.aload_n 0, 1) := by decide +kernel
theorem d_M_save_24 : decode b_M_save 24 = .ok (.invokevirtual 86, 3) := by decide +kernel
theorem d_M_save_27 : decode b_M_save 27 = .ok (.ifCond .ne 6, 3) := by decide +kernel
theorem d_M_save_30 : decode b_M_save 30 = .ok (.bipush (-4), 2) := by decide +kernel
theorem d_M_save_32 : decode b_M_save 32 = .ok (.ireturn, 1) := by decide +kernel
theorem d_M_save_33 : decode b_M_save 33 = .ok (.aload_n 0, 1) := by decide +kernel
theorem d_M_save_34 : decode b_M_save 34 = .ok (.getfield 16, 3) := by decide +kernel
theorem d_M_save_37 : decode b_M_save 37 = .ok (.aload_n 0, 1) := by decide +kernel
theorem d_M_save_38 : decode b_M_save 38 = .ok (.getfield 83, 3) := by decide +kernel
theorem d_M_save_41 : decode b_M_save 41 = .ok (.dup2, 1) := by decide +kernel
theorem d_M_save_42 : decode b_M_save 42 = .ok (.iaload, 1) := by decide +kernel
theorem d_M_save_43 : decode b_M_save 43 = .ok (.iconst 1, 1) := by decide +kernel
theorem d_M_save_44 : decode b_M_save 44 = .ok (.iadd, 1) := by decide +kernel
theorem d_M_save_45 : decode b_M_save 45 = .ok (.iastore, 1) := by decide +kernel
theorem d_M_save_46 : decode b_M_save 46 = .ok (.iinc 1 1, 3) := by decide +kernel
theorem d_M_save_49 : decode b_M_save 49 = .ok (.goto (-47), 3) := by decide +kernel
theorem d_M_save_52 : decode b_M_save 52 = .ok (.iload_n 1, 1) := by decide +kernel
theorem d_M_save_53 : decode b_M_save 53 = .ok (.ireturn, 1) := by decide +kernel
theorem d_M_check_0 : decode b_M_check 0 = .ok (.aload_n 0, 1) := by decide +kernel
theorem d_M_check_1 : decode b_M_check 1 = .ok (.invokevirtual 90, 3) := by decide +kernel
theorem d_M_check_4 : decode b_M_check 4 = .ok (.ifCond .ge 5, 3) := by decide +kernel
theorem d_M_check_7 : decode b_M_check 7 = .ok (.iconst 0, 1) := by decide +kernel
theorem d_M_check_8 : decode b_M_check 8 = .ok (.ireturn, 1) := by decide +kernel
theorem d_M_check_9 : decode b_M_check 9 = .ok (.iconst 0, 1) := by decide +kernel
theorem d_M_check_10 : decode b_M_check 10 = .ok (.istore_n 1, 1) := by decide +kernel
theorem d_M_check_11 : decode b_M_check 11 = .ok (.iload_n 1, 1) := by decide +kernel
theorem d_M_check_12 : decode b_M_check 12 = .ok (.bipush 20, 2) := by decide +kernel
theorem d_M_check_14 : decode b_M_check 14 = .ok (.if_icmp .ge 18, 3) := by decide +kernel
theorem d_M_check_17 : decode b_M_check 17 = .ok (.aload_n 0, 1) := by decide +kernel
theorem d_M_check_18 : decode b_M_check 18 = .ok (.invokevirtual 86, 3) := by decide +kernel
theorem d_M_check_21 : decode b_M_check 21 = .ok (.ifCond .ne 5, 3) := by decide +kernel
theorem d_M_check_24 : decode b_M_check 24 = .ok (.iconst 0, 1) := by decide +kernel
theorem d_M_check_25 : decode b_M_check 25 = .ok (.ireturn, 1) := by decide +kernel
theorem d_M_check_26 : decode b_M_check 26 = .ok (.iinc 1 1, 3) := by decide +kernel
theorem d_M_check_29 : decode b_M_check 29 = .ok (.goto (-18), 3) := by decide +kernel
theorem d_M_check_32 : decode b_M_check 32 = .ok (.aload_n 0, 1) := by decide +kernel
theorem d_M_check_33 : decode b_M_check 33 = .ok (.dup, 1) := by decide +kernel
theorem d_M_check_34 : decode b_M_check 34 = .ok (.getfield 94, 3) := by decide +kernel
theorem d_M_check_37 : decode b_M_check 37 = .ok (.iconst 1, 1) := by decide +kernel
theorem d_M_check_38 : decode b_M_check 38 = .ok (.iadd, 1) := by decide +kernel
theorem d_M_check_39 : decode b_M_check 39 = .ok (.putfield 94, 3) := by decide +kernel
theorem d_M_check_42 : decode b_M_check 42 = .ok (.iconst 0, 1) := by decide +kernel
theorem d_M_check_43 : decode b_M_check 43 = .ok (.istore_n 1, 1) := by decide +kernel
theorem d_M_check_44 : decode b_M_check 44 = .ok (.iload_n 1, 1) := by decide +kernel
theorem d_M_check_45 : decode b_M_check 45 = .ok (.bipush 16, 2) := by decide +kernel
theorem d_M_check_47 : decode b_M_check 47 = .ok (.if_icmp .ge 21, 3) := by decide +kernel
theorem d_M_check_50 : decode b_M_check 50 = .ok (.aload_n 0, 1) := by decide +kernel
theorem d_M_check_51 : decode b_M_check 51 = .ok (.getfield 48, 3) := by decide +kernel
theorem d_M_check_54 : decode b_M_check 54 = .ok (.iload_n 1, 1) := by decide +kernel
theorem d_M_check_55 : decode b_M_check 55 = .ok (.aload_n 0, 1) := by decide +kernel
theorem d_M_check_56 : decode b_M_check 56 = .ok (.getfield 45, 3) := by decide +kernel
theorem d_M_check_59 : decode b_M_check 59 = .ok (.iload_n 1, 1) := by decide +kernel
theorem d_M_check_60 : decode b_M_check 60 = .ok (.iaload, 1) := by decide +kernel
theorem d_M_check_61 : decode b_M_check 61 = .ok (.iastore, 1) := by decide +kernel
theorem d_M_check_62 : decode b_M_check 62 = .ok (.iinc 1 1, 3) := by decide +kernel
theorem d_M_check_65 : decode b_M_check 65 = .ok (.goto (-21), 3) := by decide +kernel
theorem d_M_check_68 : decode b_M_check 68 = .ok (.aload_n 0, 1) := by decide +kernel
theorem d_M_check_69 : decode b_M_check 69 = .ok (.aload_n 0, 1) := by decide +kernel
theorem d_M_check_70 : decode b_M_check 70 = .ok (.getfield 97, 3) := by decide +kernel
theorem d_M_check_73 : decode b_M_check 73 = .ok (.putfield 100, 3) := by decide +kernel
theorem d_M_check_76 : decode b_M_check 76 = .ok (.aload_n 0, 1) := by decide +kernel
theorem d_M_check_77 : decode b_M_check 77 = .ok (.aload_n 0, 1) := by decide +kernel
theorem d_M_check_78 : decode b_M_check 78 = .ok (.getfield 83, 3) := by decide +kernel
theorem d_M_check_81 : decode b_M_check 81 = .ok (.putfield 103, 3) := by decide +kernel
theorem d_M_check_84 : decode b_M_check 84 = .ok (.aload_n 0, 1) := by decide +kernel
theorem d_M_check_85 : decode b_M_check 85 = .ok (.aload_n 0, 1) := by decide +kernel
theorem d_M_check_86 : decode b_M_check 86 = .ok (.getfield 13, 3) := by decide +kernel
theorem d_M_check_89 : decode b_M_check 89 = .ok (.aload_n 0, 1) := by decide +kernel
theorem d_M_check_90 : decode b_M_check 90 = .ok (.getfield 83, 3) := by decide +kernel
theorem d_M_check_93 : decode b_M_check 93 = .ok (.iaload, 1) := by decide +kernel
theorem d_M_check_94 : decode b_M_check 94 = .ok (.putfield 106, 3) := by decide +kernel
theorem d_M_check_97 : decode b_M_check 97 = .ok (.iconst 1, 1) := by decide +kernel
theorem d_M_check_98 : decode b_M_check 98 = .ok (.ireturn, 1) := by decide +kernel
theorem d_M_free_0 : decode b_M_free 0 = .ok (.iconst 0, 1) := by decide +kernel
theorem d_M_free_1 : decode b_M_free 1 = .ok (.istore_n 1, 1) := by decide +kernel
theorem d_M_free_2 : decode b_M_free 2 = .ok (.iconst 0, 1) := by decide +kernel
theorem d_M_free_3 : decode b_M_free 3 = .ok (.istore_n 2, 1) := by decide +kernel
theorem d_M_free_4 : decode b_M_free 4 = .ok (.iload_n 2, 1) := by decide +kernel
theorem d_M_free_5 : decode b_M_free 5 = .ok (.aload_n 0, 1) := by decide +kernel
theorem d_M_free_6 : decode b_M_free 6 = .ok (.getfield 57, 3) := by decide +kernel
theorem d_M_free_9 : decode b_M_free 9 = .ok (.if_icmp .ge 21, 3) := by decide +kernel
theorem d_M_free_12 : decode b_M_free 12 = .ok (.aload_n 0, 1) := by decide +kernel
theorem d_M_free_13 : decode b_M_free 13 = .ok (.getfield 7, 3) := by decide +kernel
theorem d_M_free_16 : decode b_M_free 16 = .ok (.iload_n 2, 1) := by decide +kernel
theorem d_M_free_17 : decode b_M_free 17 = .ok (.iaload, 1) := by decide +kernel
theorem d_M_free_18 : decode b_M_free 18 = .ok (.ifCond .ne 6, 3) := by decide +kernel
theorem d_M_free_21 : decode b_M_free 21 = .ok (.iinc 1 1, 3) := by decide +kernel
theorem d_M_free_24 : decode b_M_free 24 = .ok (.iinc 2 1, 3) := by decide +kernel
theorem d_M_free_27 : decode b_M_free 27 = .ok (.goto (-23), 3) := by decide +kernel
theorem d_M_free_30 : decode b_M_free 30 = .ok (.iload_n 1, 1) := by decide +kernel
theorem d_M_free_31 : decode b_M_free 31 = .ok (.ireturn, 1) := by decide +kernel
theorem d_M_lowestFree_0 : decode b_M_lowestFree 0 = .ok (.iconst 0, 1) := by decide +kernel
theorem d_M_lowestFree_1 : decode b_M_lowestFree 1 = .ok (.istore_n 1, 1) := by decide +kernel
theorem d_M_lowestFree_2 : decode b_M_lowestFree 2 = .ok (.iload_n 1, 1) := by decide +kernel
theorem d_M_lowestFree_3 : decode b_M_lowestFree 3 = .ok (.aload_n 0, 1) := by decide +kernel
theorem d_M_lowestFree_4 : decode b_M_lowestFree 4 = .ok (.getfield 57, 3) := by decide +kernel
theorem d_M_lowestFree_7 : decode b_M_lowestFree 7 = .ok (.iconst 1, 1) := by decide +kernel
theorem d_M_lowestFree_8 : decode b_M_lowestFree 8 = .ok (.isub, 1) := by decide +kernel
theorem d_M_lowestFree_9 : decode b_M_lowestFree 9 = .ok (.if_icmp .ge 18, 3) := by decide +kernel
theorem d_M_lowestFree_12 : decode b_M_lowestFree 12 = .ok (.aload_n 0, 1) := by decide +kernel
theorem d_M_lowestFree_13 : decode b_M_lowestFree 13 = .ok (.getfield 7, 3) := by decide +kernel
theorem d_M_lowestFree_16 : decode b_M_lowestFree 16 = .ok (.iload_n 1, 1) := by decide +kernel
theorem d_M_lowestFree_17 : decode b_M_lowestFree 17 = .ok (.iaload, 1) := by decide +kernel
theorem d_M_lowestFree_18 : decode b_M_lowestFree 18 = .ok (.ifCond .eq 9, 3) := by decide +kernel
theorem d_M_lowestFree_21 : decode b_M_lowestFree 21 = .ok (.iinc 1 1, 3) := by decide +kernel
theorem d_M_lowestFree_24 : decode b_M_lowestFree 24 = .ok (.goto (-22), 3) := by decide +kernel
theorem d_M_lowestFree_27 : decode b_M_lowestFree 27 = .ok (.iload_n 1, 1) := by decide +kernel
theorem d_M_lowestFree_28 : decode b_M_lowestFree 28 = .ok (.ireturn, 1) := by decide +kernel
theorem d_M_append_0 : decode b_M_append 0 = .ok (.iload_n 3, 1) := by decide +kernel
theorem d_M_append_1 : decode b_M_append 1 = .ok (.bipush 16, 2) := by decide +kernel
theorem d_M_append_3 : decode b_M_append 3 = .ok (.aload_n 0, 1) := by decide +kernel
theorem d_M_append_4 : decode b_M_append 4 = .ok (.getfield 13, 3) := by decide +kernel
theorem d_M_append_7 : decode b_M_append 7 = .ok (.aload_n 0, 1) := by decide +kernel
theorem d_M_append_8 : decode b_M_append 8 = .ok (.getfield 83, 3) := by decide +kernel
theorem d_M_append_11 : decode b_M_append 11 = .ok (.iaload, 1) := by decide +kernel
theorem d_M_append_12 : decode b_M_append 12 = .ok (.isub, 1) := by decide +kernel
theorem d_M_append_13 : decode b_M_append 13 = .ok (.if_icmp .le 70, 3) := by decide +kernel
theorem d_M_append_16 : decode b_M_append 16 = .ok (.aload_n 0, 1) := by decide +kernel
theorem d_M_append_17 : decode b_M_append 17 = .ok (.invokevirtual 90, 3) := by decide +kernel
theorem d_M_append_20 : decode b_M_append 20 = .ok (.ifCond .ge 5, 3) := by decide +kernel
theorem d_M_append_23 : decode b_M_append 23 = .ok (.iconst 0, 1) := by decide +kernel
theorem d_M_append_24 : decode b_M_append 24 = .ok (.ireturn, 1) := by decide +kernel
theorem d_M_append_25 : decode b_M_append 25 = .ok (.aload_n 0, 1) := by decide +kernel
theorem d_M_append_26 : decode b_M_append 26 = .ok (.getfield 7, 3) := by decide +kernel
theorem d_M_append_29 : decode b_M_append 29 = .ok (.aload_n 0, 1) := by decide +kernel
theorem d_M_append_30 : decode b_M_append 30 = .ok (.getfield 83, 3) := by decide +kernel
theorem d_M_append_33 : decode b_M_append 33 = .ok (.iconst 2, 1) := by decide +kernel
theorem d_M_append_34 : decode b_M_append 34 = .ok (.iastore, 1) := by decide +kernel
theorem d_M_append_35 : decode b_M_append 35 = .ok (.aload_n 0, 1) := by decide +kernel
theorem d_M_append_36 : decode b_M_append 36 = .ok (.aload_n 0, 1) := by decide +kernel
theorem d_M_append_37 : decode b_M_append 37 = .ok (.invokevirtual 109, 3) := by decide +kernel
theorem d_M_append_40 : decode b_M_append 40 = .ok (.putfield 83, 3) := by decide +kernel
theorem d_M_append_43 : decode b_M_append 43 = .ok (.aload_n 0, 1) := by decide +kernel
theorem d_M_append_44 : decode b_M_append 44 = .ok (.getfield 7, 3) := by decide +kernel
theorem d_M_append_47 : decode b_M_append 47 = .ok (.aload_n 0, 1) := by decide +kernel
theorem d_M_append_48 : decode b_M_append 48 = .ok (.getfield 83, 3) := by decide +kernel
theorem d_M_append_51 : decode b_M_append 51 = .ok (.iconst 1, 1) := by decide +kernel
theorem d_M_append_52 : decode b_M_append 52 = .ok (.iastore, 1) := by decide +kernel
theorem d_M_append_53 : decode b_M_append 53 = .ok (.aload_n 0, 1) := by decide +kernel
theorem d_M_append_54 : decode b_M_append 54 = .ok (.getfield 13, 3) := by decide +kernel
theorem d_M_append_57 : decode b_M_append 57 = .ok (.aload_n 0, 1) := by decide +kernel
theorem d_M_append_58 : decode b_M_append 58 = .ok (.getfield 83, 3) := by decide +kernel
theorem d_M_append_61 : decode b_M_append 61 = .ok (.iconst 0, 1) := by decide +kernel
theorem d_M_append_62 : decode b_M_append 62 = .ok (.iastore, 1) := by decide +kernel
theorem d_M_append_63 : decode b_M_append 63 = .ok (.aload_n 0, 1) := by decide +kernel
theorem d_M_append_64 : decode b_M_append 64 = .ok (.getfield 16, 3) := by decide +kernel
theorem d_M_append_67 : decode b_M_append 67 = .ok (.aload_n 0, 1) := by decide +kernel
theorem d_M_append_68 : decode b_M_append 68 = .ok (.getfield 83, 3) := by decide +kernel
theorem d_M_append_71 : decode b_M_append 71 = .ok (.iconst 0, 1) := by decide +kernel
theorem d_M_append_72 : decode b_M_append 72 = .ok (.iastore, 1) := by decide +kernel
theorem d_M_append_73 : decode b_M_append 73 = .ok (.aload_n 0, 1) := by decide +kernel
theorem d_M_append_74 : decode b_M_append 74 = .ok (.getfield 19, 3) := by decide +kernel
theorem d_M_append_77 : decode b_M_append 77 = .ok (.aload_n 0, 1) := by decide +kernel
theorem d_M_append_78 : decode b_M_append 78 = .ok (.getfield 83, 3) := by decide +kernel
theorem d_M_append_81 : decode b_M_append 81 = .ok (.iconst 0, 1) := by decide +kernel
theorem d_M_append_82 : decode b_M_append 82 = .ok (.iastore, 1) := by decide +kernel
theorem d_M_append_83 : decode b_M_append 83 = .ok (.bipush 8, 2) := by decide +kernel
theorem d_M_append_85 : decode b_M_append 85 = .ok (.aload_n 0, 1) := by decide +kernel
theorem d_M_append_86 : decode b_M_append 86 = .ok (.getfield 83, 3) := by decide +kernel
theorem d_M_append_89 : decode b_M_append 89 = .ok (.imul, 1) := by decide +kernel
theorem d_M_append_90 : decode b_M_append 90 = .ok (.aload_n 0, 1) := by decide +kernel
theorem d_M_append_91 : decode b_M_append 91 = .ok (.getfield 19, 3) := by decide +kernel
theorem d_M_append_94 : decode b_M_append 94 = .ok (.aload_n 0, 1) := by decide +kernel
theorem d_M_append_95 : decode b_M_append 95 = .ok (.getfield 83, 3) := by decide +kernel
theorem d_M_append_98 : decode b_M_append 98 = .ok (.iaload, 1) := by decide +kernel
theorem d_M_append_99 : decode b_M_append 99 = .ok (.iadd, 1) := by decide +kernel
theorem d_M_append_100 : decode b_M_append 100 = .ok (.istore 8, 2) := by decide +kernel
theorem d_M_append_102 : decode b_M_append 102 = .ok (.aload_n 0, 1) := by decide +kernel
theorem d_M_append_103 : decode b_M_append 103 = .ok (.dup, 1) := by decide +kernel
theorem d_M_append_104 : decode b_M_append 104 = .ok (.getfield 97, 3) := by decide +kernel
theorem d_M_append_107 : decode b_M_append 107 = .ok (.iconst 1, 1) := by decide +kernel
theorem d_M_append_108 : decode b_M_append 108 = .ok (.iadd, 1) := by decide +kernel
theorem d_M_append_109 : decode b_M_append 109 = .ok (.putfield 97, 3) := by decide +kernel
theorem d_M_append_112 : decode b_M_append 112 = .ok (.aload_n 0, 1) := by decide +kernel
theorem d_M_append_113 : decode b_M_append 113 = .ok (.getfield 22, 3) := by decide +kernel
theorem d_M_append_116 : decode b_M_append 116 = .ok (.iload 8, 2) := by decide +kernel
theorem d_M_append_118 : decode b_M_append 118 = .ok (.iload_n 1, 1) := by decide +kernel
theorem d_M_append_119 : decode b_M_append 119 = .ok (.iastore, 1) := by decide +kernel
theorem d_M_append_120 : decode b_M_append 120 = .ok (.aload_n 0, 1) := by decide +kernel
theorem d_M_append_121 : decode b_M_append 121 = .ok (.getfield 25, 3) := by decide +kernel
theorem d_M_append_124 : decode b_M_append 124 = .ok (.iload 8, 2) := by decide +kernel
theorem d_M_append_126 : decode b_M_append 126 = .ok (.iload_n 2, 1) := by decide +kernel
theorem d_M_append_127 : decode b_M_append 127 = .ok (.bastore, 1) := by decide +kernel
theorem d_M_append_128 : decode b_M_append 128 = .ok (.aload_n 0, 1) := by decide +kernel
theorem d_M_append_129 : decode b_M_append 129 = .ok (.getfield 29, 3) := by decide +kernel
theorem d_M_append_132 : decode b_M_append 132 = .ok (.iload 8, 2) := by decide +kernel
theorem d_M_append_134 : decode b_M_append 134 = .ok (.aload_n 0, 1) := by decide +kernel
theorem d_M_append_135 : decode b_M_append 135 = .ok (.getfield 13, 3) := by decide +kernel
theorem d_M_append_138 : decode b_M_append 138 = .ok (.aload_n 0, 1) := by decide +kernel
theorem d_M_append_139 : decode b_M_append 139 = .ok (.getfield 83, 3) := by decide +kernel
theorem d_M_append_142 : decode b_M_append 142 = .ok (.iaload, 1) := by decide +kernel
theorem d_M_append_143 : decode b_M_append 143 = .ok (.iastore, 1) := by decide +kernel
theorem d_M_append_144 : decode b_M_append 144 = .ok (.aload_n 0, 1) := by decide +kernel
theorem d_M_append_145 : decode b_M_append 145 = .ok (.getfield 32, 3) := by decide +kernel
theorem d_M_append_148 : decode b_M_append 148 = .ok (.iload 8, 2) := by decide +kernel
theorem d_M_append_150 : decode b_M_append 150 = .ok (.iload_n 3, 1) := by decide +kernel
theorem d_M_append_151 : decode b_M_append 151 = .ok (.iastore, 1) := by decide +kernel
theorem d_M_append_152 : decode b_M_append 152 = .ok (.aload_n 0, 1) := by decide +kernel
theorem d_M_append_153 : decode b_M_append 153 = .ok (.getfield 35, 3) := by decide +kernel
theorem d_M_append_156 : decode b_M_append 156 = .ok (.iload 8, 2) := by decide +kernel
theorem d_M_append_158 : decode b_M_append 158 = .ok (.aload_n 0, 1) := by decide +kernel
theorem d_M_append_159 : decode b_M_append 159 = .ok (.getfield 97, 3) := by decide +kernel
theorem d_M_append_162 : decode b_M_append 162 = .ok (.iastore, 1) := by decide +kernel
theorem d_M_append_163 : decode b_M_append 163 = .ok (.aload_n 0, 1) := by decide +kernel
theorem d_M_append_164 : decode b_M_append 164 = .ok (.getfield 38, 3) := by decide +kernel
theorem d_M_append_167 : decode b_M_append 167 = .ok (.iload 8, 2) := by decide +kernel
theorem d_M_append_169 : decode b_M_append 169 = .ok (.lload 4, 2) := by decide +kernel
theorem d_M_append_171 : decode b_M_append 171 = .ok (.lastore, 1) := by decide +kernel
theorem d_M_append_172 : decode b_M_append 172 = .ok (.aload_n 0, 1) := by decide +kernel
theorem d_M_append_173 : decode b_M_append 173 = .ok (.getfield 42, 3) := by decide +kernel
theorem d_M_append_176 : decode b_M_append 176 = .ok (.iload 8, 2) := by decide +kernel
theorem d_M_append_178 : decode b_M_append 178 = .ok (.lload 6, 2) := by decide +kernel
theorem d_M_append_180 : decode b_M_append 180 = .ok (.lastore, 1) := by decide +kernel
theorem d_M_append_181 : decode b_M_append 181 = .ok (.aload_n 0, 1) := by decide +kernel
theorem d_M_append_182 : decode b_M_append 182 = .ok (.getfield 19, 3) := by decide +kernel
theorem d_M_append_185 : decode b_M_append 185 = .ok (.aload_n 0, 1) := by decide +kernel
theorem d_M_append_186 : decode b_M_append 186 = .ok (.getfield 83, 3) := by decide +kernel
theorem d_M_append_189 : decode b_M_append 189 = .ok (.dup2, 1) := by decide +kernel
theorem d_M_append_190 : decode b_M_append 190 = .ok (.iaload, 1) := by decide +kernel
theorem d_M_append_191 : decode b_M_append 191 = .ok (.iconst 1, 1) := by decide +kernel
theorem d_M_append_192 : decode b_M_append 192 = .ok (.iadd, 1) := by decide +kernel
theorem d_M_append_193 : decode b_M_append 193 = .ok (.iastore, 1) := by decide +kernel
theorem d_M_append_194 : decode b_M_append 194 = .ok (.aload_n 0, 1) := by decide +kernel
theorem d_M_append_195 : decode b_M_append 195 = .ok (.getfield 13, 3) := by decide +kernel
theorem d_M_append_198 : decode b_M_append 198 = .ok (.aload_n 0, 1) := by decide +kernel
theorem d_M_append_199 : decode b_M_append 199 = .ok (.getfield 83, 3) := by decide +kernel
theorem d_M_append_202 : decode b_M_append 202 = .ok (.aload_n 0, 1) := by decide +kernel
theorem d_M_append_203 : decode b_M_append 203 = .ok (.getfield 13, 3) := by decide +kernel
theorem d_M_append_206 : decode b_M_append 206 = .ok (.aload_n 0, 1) := by decide +kernel
theorem d_M_append_207 : decode b_M_append 207 = .ok (.getfield 83, 3) := by decide +kernel
theorem d_M_append_210 : decode b_M_append 210 = .ok (.iaload, 1) := by decide +kernel
theorem d_M_append_211 : decode b_M_append 211 = .ok (.iload_n 3, 1) := by decide +kernel
theorem d_M_append_212 : decode b_M_append 212 = .ok (.iadd, 1) := by decide +kernel
theorem d_M_append_213 : decode b_M_append 213 = .ok (.iastore, 1) := by decide +kernel
theorem d_M_append_214 : decode b_M_append 214 = .ok (.aload_n 0, 1) := by decide +kernel
theorem d_M_append_215 : decode b_M_append 215 = .ok (.getfield 45, 3) := by decide +kernel
theorem d_M_append_218 : decode b_M_append 218 = .ok (.iload_n 1, 1) := by decide +kernel
theorem d_M_append_219 : decode b_M_append 219 = .ok (.iload_n 2, 1) := by decide +kernel
theorem d_M_append_220 : decode b_M_append 220 = .ok (.ifCond .eq 8, 3) := by decide +kernel
theorem d_M_append_223 : decode b_M_append 223 = .ok (.iload 8, 2) := by decide +kernel
theorem d_M_append_225 : decode b_M_append 225 = .ok (.goto 4, 3) := by decide +kernel
theorem d_M_append_228 : decode b_M_append 228 = .ok (.iconst (-1), 1) := by decide +kernel
theorem d_M_append_229 : decode b_M_append 229 = .ok (.iastore, 1) := by decide +kernel
theorem d_M_append_230 : decode b_M_append 230 = .ok (.iconst 1, 1) := by decide +kernel
theorem d_M_append_231 : decode b_M_append 231 = .ok (.ireturn, 1) := by decide +kernel
theorem d_M_isBlock_0 : decode b_M_isBlock 0 = .ok (.iload_n 0, 1) := by decide +kernel
theorem d_M_isBlock_1 : decode b_M_isBlock 1 = .ok (.ifCond .lt 13, 3) := by decide +kernel
theorem d_M_isBlock_4 : decode b_M_isBlock 4 = .ok (.iload_n 0, 1) := by decide +kernel
theorem d_M_isBlock_5 : decode b_M_isBlock 5 = .ok (.bipush 16, 2) := by decide +kernel
theorem d_M_isBlock_7 : decode b_M_isBlock 7 = .ok (.if_icmp .ge 7, 3) := by decide +kernel
theorem d_M_isBlock_10 : decode b_M_isBlock 10 = .ok (.iconst 1, 1) := by decide +kernel
theorem d_M_isBlock_11 : decode b_M_isBlock 11 = .ok (.goto 4, 3) := by decide +kernel
theorem d_M_isBlock_14 : decode b_M_isBlock 14 = .ok (.iconst 0, 1) := by decide +kernel
theorem d_M_isBlock_15 : decode b_M_isBlock 15 = .ok (.ireturn, 1) := by decide +kernel
theorem d_M_noRoom_0 : decode b_M_noRoom 0 = .ok (.iload_n 1, 1) := by decide +kernel
theorem d_M_noRoom_1 : decode b_M_noRoom 1 = .ok (.bipush 16, 2) := by decide +kernel
theorem d_M_noRoom_3 : decode b_M_noRoom 3 = .ok (.aload_n 0, 1) := by decide +kernel
theorem d_M_noRoom_4 : decode b_M_noRoom 4 = .ok (.getfield 13, 3) := by decide +kernel
theorem d_M_noRoom_7 : decode b_M_noRoom 7 = .ok (.aload_n 0, 1) := by decide +kernel
theorem d_M_noRoom_8 : decode b_M_noRoom 8 = .ok (.getfield 83, 3) := by decide +kernel
theorem d_M_noRoom_11 : decode b_M_noRoom 11 = .ok (.iaload, 1) := by decide +kernel
theorem d_M_noRoom_12 : decode b_M_noRoom 12 = .ok (.isub, 1) := by decide +kernel
theorem d_M_noRoom_13 : decode b_M_noRoom 13 = .ok (.if_icmp .le 15, 3) := by decide +kernel
theorem d_M_noRoom_16 : decode b_M_noRoom 16 = .ok (.aload_n 0, 1) := by decide +kernel
theorem d_M_noRoom_17 : decode b_M_noRoom 17 = .ok (.invokevirtual 112, 3) := by decide +kernel
theorem d_M_noRoom_20 : decode b_M_noRoom 20 = .ok (.iconst 2, 1) := by decide +kernel
theorem d_M_noRoom_21 : decode b_M_noRoom 21 = .ok (.if_icmp .ge 7, 3) := by decide +kernel
theorem d_M_noRoom_24 : decode b_M_noRoom 24 = .ok (.iconst 1, 1) := by decide +kernel
theorem d_M_noRoom_25 : decode b_M_noRoom 25 = .ok (.goto 4, 3) := by decide +kernel
theorem d_M_noRoom_28 : decode b_M_noRoom 28 = .ok (.iconst 0, 1) := by decide +kernel
theorem d_M_noRoom_29 : decode b_M_noRoom 29 = .ok (.ireturn, 1) := by decide +kernel
theorem d_M_write_0 : decode b_M_write 0 = .ok (.aload_n 0, 1) := by decide +kernel
theorem d_M_write_1 : decode b_M_write 1 = .ok (.getfield 77, 3) := by decide +kernel
theorem d_M_write_4 : decode b_M_write 4 = .ok (.ifCond .eq 6, 3) := by decide +kernel
theorem d_M_write_7 : decode b_M_write 7 = .ok (.bipush (-4), 2) := by decide +kernel
theorem d_M_write_9 : decode b_M_write 9 = .ok (.ireturn, 1) := by decide +kernel
theorem d_M_write_10 : decode b_M_write 10 = .ok (.iload_n 1, 1) := by decide +kernel
theorem d_M_write_11 : decode b_M_write 11 = .ok (.invokestatic 115, 3) := by decide +kernel
theorem d_M_write_14 : decode b_M_write 14 = .ok (.ifCond .ne 5, 3) := by decide +kernel
theorem d_M_write_17 : decode b_M_write 17 = .ok (.iconst (-1), 1) := by decide +kernel
theorem d_M_write_18 : decode b_M_write 18 = .ok (.ireturn, 1) := by decide +kernel
theorem d_M_write_19 : decode b_M_write 19 = .ok (.aload_n 0, 1) := by decide +kernel
theorem d_M_write_20 : decode b_M_write 20 = .ok (.lload_n 2, 1) := by decide +kernel
theorem d_M_write_21 : decode b_M_write 21 = .ok (.lload 4, 2) := by decide +kernel
theorem d_M_write_23 : decode b_M_write 23 = .ok (.invokevirtual 119, 3) := by decide +kernel
theorem d_M_write_26 : decode b_M_write 26 = .ok (.iconst 2, 1) := by decide +kernel
theorem d_M_write_27 : decode b_M_write 27 = .ok (.aload_n 0, 1) := by decide +kernel
theorem d_M_write_28 : decode b_M_write 28 = .ok (.getfield 67, 3) := by decide +kernel
theorem d_M_write_31 : decode b_M_write 31 = .ok (.iconst 3, 1) := by decide +kernel
theorem d_M_write_32 : decode b_M_write 32 = .ok (.iadd, 1) := by decide +kernel
theorem d_M_write_33 : decode b_M_write 33 = .ok (.iconst 4, 1) := by decide +kernel
theorem d_M_write_34 : decode b_M_write 34 = .ok (.idiv, 1) := by decide +kernel
theorem d_M_write_35 : decode b_M_write 35 = .ok (.iadd, 1) := by decide +kernel
theorem d_M_write_36 : decode b_M_write 36 = .ok (.istore 6, 2) := by decide +kernel
theorem d_M_write_38 : decode b_M_write 38 = .ok (.aload_n 0, 1) := by decide +kernel
theorem d_M_write_39 : decode b_M_write 39 = .ok (.iload 6, 2) := by decide +kernel
theorem d_M_write_41 : decode b_M_write 41 = .ok (.invokevirtual 123, 3) := by decide +kernel
theorem d_M_write_44 : decode b_M_write 44 = .ok (.ifCond .eq 6, 3) := by decide +kernel
theorem d_M_write_47 : decode b_M_write 47 = .ok (.bipush (-3), 2) := by decide +kernel
theorem d_M_write_49 : decode b_M_write 49 = .ok (.ireturn, 1) := by decide +kernel
theorem d_M_write_50 : decode b_M_write 50 = .ok (.aload_n 0, 1) := by decide +kernel
theorem d_M_write_51 : decode b_M_write 51 = .ok (.iload_n 1, 1) := by decide +kernel
theorem d_M_write_52 : decode b_M_write 52 = .ok (.iconst 1, 1) := by decide +kernel
theorem d_M_write_53 : decode b_M_write 53 = .ok (.iload 6, 2) := by decide +kernel
theorem d_M_write_55 : decode b_M_write 55 = .ok (.lload_n 2, 1) := by decide +kernel
theorem d_M_write_56 : decode b_M_write 56 = .ok (.lload 4, 2) := by decide +kernel
theorem d_M_write_58 : decode b_M_write 58 = .ok (.invokevirtual 126, 3) := by decide +kernel
theorem d_M_write_61 : decode b_M_write 61 = .ok (.ifCond .eq 8, 3) := by decide +kernel
theorem d_M_write_64 : decode b_M_write 64 = .ok (.iload 6, 2) := by decide +kernel
theorem d_M_write_66 : decode b_M_write 66 = .ok (.goto 5, 3) := by decide +kernel
theorem d_M_write_69 : decode b_M_write 69 = .ok (.bipush (-4), 2) := by decide +kernel
theorem d_M_write_71 : decode b_M_write 71 = .ok (.ireturn, 1) := by decide +kernel
theorem d_M_trim_0 : decode b_M_trim 0 = .ok (.aload_n 0, 1) := by decide +kernel
theorem d_M_trim_1 : decode b_M_trim 1 = .ok (.getfield 77, 3) := by decide +kernel
theorem d_M_trim_4 : decode b_M_trim 4 = .ok (.ifCond .eq 6, 3) := by decide +kernel
theorem d_M_trim_7 : decode b_M_trim 7 = .ok (.bipush (-4), 2) := by decide +kernel
theorem d_M_trim_9 : decode b_M_trim 9 = .ok (.ireturn, 1) := by decide +kernel
theorem d_M_trim_10 : decode b_M_trim 10 = .ok (.iload_n 1, 1) := by decide +kernel
theorem d_M_trim_11 : decode b_M_trim 11 = .ok (.invokestatic 115, 3) := by decide +kernel
theorem d_M_trim_14 : decode b_M_trim 14 = .ok (.ifCond .ne 5, 3) := by decide +kernel
theorem d_M_trim_17 : decode b_M_trim 17 = .ok (.iconst (-1), 1) := by decide +kernel
theorem d_M_trim_18 : decode b_M_trim 18 = .ok (.ireturn, 1) := by decide +kernel
theorem d_M_trim_19 : decode b_M_trim 19 = .ok (.aload_n 0, 1) := by decide +kernel
theorem d_M_trim_20 : decode b_M_trim 20 = .ok (.getfield 45, 3) := by decide +kernel
theorem d_M_trim_23 : decode b_M_trim 23 = .ok (.iload_n 1, 1) := by decide +kernel
theorem d_M_trim_24 : decode b_M_trim 24 = .ok (.iaload, 1) := by decide +kernel
theorem d_M_trim_25 : decode b_M_trim 25 = .ok (.ifCond .ge 6, 3) := by decide +kernel
theorem d_M_trim_28 : decode b_M_trim 28 = .ok (.bipush (-2), 2) := by decide +kernel
theorem d_M_trim_30 : decode b_M_trim 30 = .ok (.ireturn, 1) := by decide +kernel
theorem d_M_trim_31 : decode b_M_trim 31 = .ok (.aload_n 0, 1) := by decide +kernel
theorem d_M_trim_32 : decode b_M_trim 32 = .ok (.iconst 2, 1) := by decide +kernel
theorem d_M_trim_33 : decode b_M_trim 33 = .ok (.invokevirtual 123, 3) := by decide +kernel
theorem d_M_trim_36 : decode b_M_trim 36 = .ok (.ifCond .eq 6, 3) := by decide +kernel
theorem d_M_trim_39 : decode b_M_trim 39 = .ok (.bipush (-3), 2) := by decide +kernel
theorem d_M_trim_41 : decode b_M_trim 41 = .ok (.ireturn, 1) := by decide +kernel
theorem d_M_trim_42 : decode b_M_trim 42 = .ok (.aload_n 0, 1) := by decide +kernel
theorem d_M_trim_43 : decode b_M_trim 43 = .ok (.iload_n 1, 1) := by decide +kernel
theorem d_M_trim_44 : decode b_M_trim 44 = .ok (.iconst 0, 1) := by decide +kernel
theorem d_M_trim_45 : decode b_M_trim 45 = .ok (.iconst 2, 1) := by decide +kernel
theorem d_M_trim_46 : decode b_M_trim 46 = .ok (.lconst 0, 1) := by decide +kernel
theorem d_M_trim_47 : decode b_M_trim 47 = .ok (.lconst 0, 1) := by decide +kernel
theorem d_M_trim_48 : decode b_M_trim 48 = .ok (.invokevirtual 126, 3) := by decide +kernel
theorem d_M_trim_51 : decode b_M_trim 51 = .ok (.ifCond .eq 7, 3) := by decide +kernel
theorem d_M_trim_54 : decode b_M_trim 54 = .ok (.iconst 2, 1) := by decide +kernel
theorem d_M_trim_55 : decode b_M_trim 55 = .ok (.goto 5, 3) := by decide +kernel
theorem d_M_trim_58 : decode b_M_trim 58 = .ok (.bipush (-4), 2) := by decide +kernel
theorem d_M_trim_60 : decode b_M_trim 60 = .ok (.ireturn, 1) := by decide +kernel
theorem d_M_read_0 : decode b_M_read 0 = .ok (.aload_n 0, 1) := by decide +kernel
theorem d_M_read_1 : decode b_M_read 1 = .ok (.getfield 77, 3) := by decide +kernel
theorem d_M_read_4 : decode b_M_read 4 = .ok (.ifCond .ne 19, 3) := by decide +kernel
theorem d_M_read_7 : decode b_M_read 7 = .ok (.iload_n 1, 1) := by decide +kernel
theorem d_M_read_8 : decode b_M_read 8 = .ok (.invokestatic 115, 3) := by decide +kernel
theorem d_M_read_11 : decode b_M_read 11 = .ok (.ifCond .eq 12, 3) := by decide +kernel
theorem d_M_read_14 : decode b_M_read 14 = .ok (.iload_n 2, 1) := by decide +kernel
theorem d_M_read_15 : decode b_M_read 15 = .ok (.ifCond .lt 8, 3) := by decide +kernel
theorem d_M_read_18 : decode b_M_read 18 = .ok (.iload_n 2, 1) := by decide +kernel
theorem d_M_read_19 : decode b_M_read 19 = .ok (.iconst 1, 1) := by decide +kernel
theorem d_M_read_20 : decode b_M_read 20 = .ok (.if_icmp .le 5, 3) := by decide +kernel
theorem d_M_read_23 : decode b_M_read 23 = .ok (.lconst 0, 1) := by decide +kernel
theorem d_M_read_24 : decode b_M_read 24 = .ok (.lreturn, 1) := by decide +kernel
theorem d_M_read_25 : decode b_M_read 25 = .ok (.aload_n 0, 1) := by decide +kernel
theorem d_M_read_26 : decode b_M_read 26 = .ok (.getfield 45, 3) := by decide +kernel
theorem d_M_read_29 : decode b_M_read 29 = .ok (.iload_n 1, 1) := by decide +kernel
theorem d_M_read_30 : decode b_M_read 30 = .ok (.iaload, 1) := by decide +kernel
theorem d_M_read_31 : decode b_M_read 31 = .ok (.istore_n 3, 1) := by decide +kernel
theorem d_M_read_32 : decode b_M_read 32 = .ok (.iload_n 3, 1) := by decide +kernel
theorem d_M_read_33 : decode b_M_read 33 = .ok (.ifCond .ge 7, 3) := by decide +kernel
theorem d_M_read_36 : decode b_M_read 36 = .ok (.lconst 0, 1) := by decide +kernel
theorem d_M_read_37 : decode b_M_read 37 = .ok (.goto 22, 3) := by decide +kernel
theorem d_M_read_40 : decode b_M_read 40 = .ok (.iload_n 2, 1) := by decide +kernel
theorem d_M_read_41 : decode b_M_read 41 = .ok (.ifCond .ne 12, 3) := by decide +kernel
theorem d_M_read_44 : decode b_M_read 44 = .ok (.aload_n 0, 1) := by decide +kernel
theorem d_M_read_45 : decode b_M_read 45 = .ok (.getfield 38, 3) := by decide +kernel
theorem d_M_read_48 : decode b_M_read 48 = .ok (.iload_n 3, 1) := by decide +kernel
theorem d_M_read_49 : decode b_M_read 49 = .ok (.laload, 1) := by decide +kernel
theorem d_M_read_50 : decode b_M_read 50 = .ok (.goto 9, 3) := by decide +kernel
theorem d_M_read_53 : decode b_M_read 53 = .ok (.aload_n 0, 1) := by decide +kernel
theorem d_M_read_54 : decode b_M_read 54 = .ok (.getfield 42, 3) := by decide +kernel
theorem d_M_read_57 : decode b_M_read 57 = .ok (.iload_n 3, 1) := by decide +kernel
theorem d_M_read_58 : decode b_M_read 58 = .ok (.laload, 1) := by decide +kernel
theorem d_M_read_59 : decode b_M_read 59 = .ok (.lreturn, 1) := by decide +kernel
