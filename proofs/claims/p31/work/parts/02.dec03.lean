theorem dX10_looks_190 : decode cX10_looks 190 = .ok (.iload_n 2, 1) := by decide +kernel
theorem dX10_looks_191 : decode cX10_looks 191 = .ok (.iadd, 1) := by decide +kernel
theorem dX10_looks_192 : decode cX10_looks 192 = .ok (.iaload, 1) := by decide +kernel
theorem dX10_looks_193 : decode cX10_looks 193 = .ok (.iconst 3, 1) := by decide +kernel
theorem dX10_looks_194 : decode cX10_looks 194 = .ok (.if_icmp .ne 8, 3) := by decide +kernel
theorem dX10_looks_197 : decode cX10_looks 197 = .ok (.iload 6, 2) := by decide +kernel
theorem dX10_looks_199 : decode cX10_looks 199 = .ok (.goto 5, 3) := by decide +kernel
theorem dX10_looks_202 : decode cX10_looks 202 = .ok (.iload 5, 2) := by decide +kernel
theorem dX10_looks_204 : decode cX10_looks 204 = .ok (.istore 7, 2) := by decide +kernel
theorem dX10_looks_206 : decode cX10_looks 206 = .ok (.aload_n 0, 1) := by decide +kernel
theorem dX10_looks_207 : decode cX10_looks 207 = .ok (.getfield 7, 3) := by decide +kernel
theorem dX10_looks_210 : decode cX10_looks 210 = .ok (.iload_n 1, 1) := by decide +kernel
theorem dX10_looks_211 : decode cX10_looks 211 = .ok (.sipush 222, 3) := by decide +kernel
theorem dX10_looks_214 : decode cX10_looks 214 = .ok (.iadd, 1) := by decide +kernel
theorem dX10_looks_215 : decode cX10_looks 215 = .ok (.iload_n 2, 1) := by decide +kernel
theorem dX10_looks_216 : decode cX10_looks 216 = .ok (.iadd, 1) := by decide +kernel
theorem dX10_looks_217 : decode cX10_looks 217 = .ok (.aload_n 0, 1) := by decide +kernel
theorem dX10_looks_218 : decode cX10_looks 218 = .ok (.getfield 7, 3) := by decide +kernel
theorem dX10_looks_221 : decode cX10_looks 221 = .ok (.iload_n 1, 1) := by decide +kernel
theorem dX10_looks_222 : decode cX10_looks 222 = .ok (.sipush 222, 3) := by decide +kernel
theorem dX10_looks_225 : decode cX10_looks 225 = .ok (.iadd, 1) := by decide +kernel
theorem dX10_looks_226 : decode cX10_looks 226 = .ok (.iload_n 2, 1) := by decide +kernel
theorem dX10_looks_227 : decode cX10_looks 227 = .ok (.iadd, 1) := by decide +kernel
theorem dX10_looks_228 : decode cX10_looks 228 = .ok (.iaload, 1) := by decide +kernel
theorem dX10_looks_229 : decode cX10_looks 229 = .ok (.iconst 3, 1) := by decide +kernel
theorem dX10_looks_230 : decode cX10_looks 230 = .ok (.if_icmp .ne 7, 3) := by decide +kernel
theorem dX10_looks_233 : decode cX10_looks 233 = .ok (.iconst 0, 1) := by decide +kernel
theorem dX10_looks_234 : decode cX10_looks 234 = .ok (.goto 15, 3) := by decide +kernel
theorem dX10_looks_237 : decode cX10_looks 237 = .ok (.aload_n 0, 1) := by decide +kernel
theorem dX10_looks_238 : decode cX10_looks 238 = .ok (.getfield 7, 3) := by decide +kernel
theorem dX10_looks_241 : decode cX10_looks 241 = .ok (.iload_n 1, 1) := by decide +kernel
theorem dX10_looks_242 : decode cX10_looks 242 = .ok (.sipush 222, 3) := by decide +kernel
theorem dX10_looks_245 : decode cX10_looks 245 = .ok (.iadd, 1) := by decide +kernel
theorem dX10_looks_246 : decode cX10_looks 246 = .ok (.iload_n 2, 1) := by decide +kernel
theorem dX10_looks_247 : decode cX10_looks 247 = .ok (.iadd, 1) := by decide +kernel
theorem dX10_looks_248 : decode cX10_looks 248 = .ok (.iaload, 1) := by decide +kernel
theorem dX10_looks_249 : decode cX10_looks 249 = .ok (.iastore, 1) := by decide +kernel
theorem dX10_looks_250 : decode cX10_looks 250 = .ok (.goto 9, 3) := by decide +kernel
theorem dX10_looks_253 : decode cX10_looks 253 = .ok (.iconst 1, 1) := by decide +kernel
theorem dX10_looks_254 : decode cX10_looks 254 = .ok (.iload 6, 2) := by decide +kernel
theorem dX10_looks_256 : decode cX10_looks 256 = .ok (.isub, 1) := by decide +kernel
theorem dX10_looks_257 : decode cX10_looks 257 = .ok (.istore 7, 2) := by decide +kernel
theorem dX10_looks_259 : decode cX10_looks 259 = .ok (.aload_n 0, 1) := by decide +kernel
theorem dX10_looks_260 : decode cX10_looks 260 = .ok (.getfield 7, 3) := by decide +kernel
theorem dX10_looks_263 : decode cX10_looks 263 = .ok (.iload_n 1, 1) := by decide +kernel
theorem dX10_looks_264 : decode cX10_looks 264 = .ok (.sipush 228, 3) := by decide +kernel
theorem dX10_looks_267 : decode cX10_looks 267 = .ok (.iadd, 1) := by decide +kernel
theorem dX10_looks_268 : decode cX10_looks 268 = .ok (.iload_n 2, 1) := by decide +kernel
theorem dX10_looks_269 : decode cX10_looks 269 = .ok (.iadd, 1) := by decide +kernel
theorem dX10_looks_270 : decode cX10_looks 270 = .ok (.dup2, 1) := by decide +kernel
theorem dX10_looks_271 : decode cX10_looks 271 = .ok (.iaload, 1) := by decide +kernel
theorem dX10_looks_272 : decode cX10_looks 272 = .ok (.iload 7, 2) := by decide +kernel
theorem dX10_looks_274 : decode cX10_looks 274 = .ok (.iload 5, 2) := by decide +kernel
theorem dX10_looks_276 : decode cX10_looks 276 = .ok (.if_icmp .eq 25, 3) := by decide +kernel
theorem dX10_looks_279 : decode cX10_looks 279 = .ok (.aload_n 0, 1) := by decide +kernel
theorem dX10_looks_280 : decode cX10_looks 280 = .ok (.getfield 7, 3) := by decide +kernel
theorem dX10_looks_283 : decode cX10_looks 283 = .ok (.iload_n 1, 1) := by decide +kernel
theorem dX10_looks_284 : decode cX10_looks 284 = .ok (.sipush 228, 3) := by decide +kernel
theorem dX10_looks_287 : decode cX10_looks 287 = .ok (.iadd, 1) := by decide +kernel
theorem dX10_looks_288 : decode cX10_looks 288 = .ok (.iload_n 2, 1) := by decide +kernel
theorem dX10_looks_289 : decode cX10_looks 289 = .ok (.iadd, 1) := by decide +kernel
theorem dX10_looks_290 : decode cX10_looks 290 = .ok (.iaload, 1) := by decide +kernel
theorem dX10_looks_291 : decode cX10_looks 291 = .ok (.sipush 9999, 3) := by decide +kernel
theorem dX10_looks_294 : decode cX10_looks 294 = .ok (.if_icmp .ge 7, 3) := by decide +kernel
theorem dX10_looks_297 : decode cX10_looks 297 = .ok (.iconst 1, 1) := by decide +kernel
theorem dX10_looks_298 : decode cX10_looks 298 = .ok (.goto 4, 3) := by decide +kernel
theorem dX10_looks_301 : decode cX10_looks 301 = .ok (.iconst 0, 1) := by decide +kernel
theorem dX10_looks_302 : decode cX10_looks 302 = .ok (.iadd, 1) := by decide +kernel
theorem dX10_looks_303 : decode cX10_looks 303 = .ok (.iastore, 1) := by decide +kernel
theorem dX10_looks_304 : decode cX10_looks 304 = .ok (.aload_n 0, 1) := by decide +kernel
theorem dX10_looks_305 : decode cX10_looks 305 = .ok (.getfield 7, 3) := by decide +kernel
theorem dX10_looks_308 : decode cX10_looks 308 = .ok (.iload_n 1, 1) := by decide +kernel
theorem dX10_looks_309 : decode cX10_looks 309 = .ok (.sipush 216, 3) := by decide +kernel
theorem dX10_looks_312 : decode cX10_looks 312 = .ok (.iadd, 1) := by decide +kernel
theorem dX10_looks_313 : decode cX10_looks 313 = .ok (.iload_n 2, 1) := by decide +kernel
theorem dX10_looks_314 : decode cX10_looks 314 = .ok (.iadd, 1) := by decide +kernel
theorem dX10_looks_315 : decode cX10_looks 315 = .ok (.iload 7, 2) := by decide +kernel
theorem dX10_looks_317 : decode cX10_looks 317 = .ok (.iastore, 1) := by decide +kernel
theorem dX10_looks_318 : decode cX10_looks 318 = .ok (.return_, 1) := by decide +kernel
set_option maxRecDepth 20000 in
theorem dX10_ticks_0 : decode cX10_ticks 0 = .ok (.iconst 0, 1) := by decide +kernel
theorem dX10_ticks_1 : decode cX10_ticks 1 = .ok (.istore_n 3, 1) := by decide +kernel
theorem dX10_ticks_2 : decode cX10_ticks 2 = .ok (.iload_n 3, 1) := by decide +kernel
theorem dX10_ticks_3 : decode cX10_ticks 3 = .ok (.iload_n 2, 1) := by decide +kernel
theorem dX10_ticks_4 : decode cX10_ticks 4 = .ok (.if_icmp .ge 162, 3) := by decide +kernel
theorem dX10_ticks_7 : decode cX10_ticks 7 = .ok (.aload_n 0, 1) := by decide +kernel
theorem dX10_ticks_8 : decode cX10_ticks 8 = .ok (.getfield 7, 3) := by decide +kernel
theorem dX10_ticks_11 : decode cX10_ticks 11 = .ok (.sipush 258, 3) := by decide +kernel
theorem dX10_ticks_14 : decode cX10_ticks 14 = .ok (.iaload, 1) := by decide +kernel
theorem dX10_ticks_15 : decode cX10_ticks 15 = .ok (.ifCond .le 102, 3) := by decide +kernel
theorem dX10_ticks_18 : decode cX10_ticks 18 = .ok (.iconst 1, 1) := by decide +kernel
theorem dX10_ticks_19 : decode cX10_ticks 19 = .ok (.istore 4, 2) := by decide +kernel
theorem dX10_ticks_21 : decode cX10_ticks 21 = .ok (.iload 4, 2) := by decide +kernel
theorem dX10_ticks_23 : decode cX10_ticks 23 = .ok (.aload_n 0, 1) := by decide +kernel
theorem dX10_ticks_24 : decode cX10_ticks 24 = .ok (.getfield 7, 3) := by decide +kernel
theorem dX10_ticks_27 : decode cX10_ticks 27 = .ok (.sipush 258, 3) := by decide +kernel
theorem dX10_ticks_30 : decode cX10_ticks 30 = .ok (.iaload, 1) := by decide +kernel
theorem dX10_ticks_31 : decode cX10_ticks 31 = .ok (.if_icmp .ge 16, 3) := by decide +kernel
theorem dX10_ticks_34 : decode cX10_ticks 34 = .ok (.aload_n 0, 1) := by decide +kernel
theorem dX10_ticks_35 : decode cX10_ticks 35 = .ok (.iload_n 1, 1) := by decide +kernel
theorem dX10_ticks_36 : decode cX10_ticks 36 = .ok (.iload 4, 2) := by decide +kernel
theorem dX10_ticks_38 : decode cX10_ticks 38 = .ok (.invokevirtual 153, 3) := by decide +kernel
theorem dX10_ticks_41 : decode cX10_ticks 41 = .ok (.iinc 4 1, 3) := by decide +kernel
theorem dX10_ticks_44 : decode cX10_ticks 44 = .ok (.goto (-23), 3) := by decide +kernel
theorem dX10_ticks_47 : decode cX10_ticks 47 = .ok (.aload_n 0, 1) := by decide +kernel
theorem dX10_ticks_48 : decode cX10_ticks 48 = .ok (.iload_n 1, 1) := by decide +kernel
theorem dX10_ticks_49 : decode cX10_ticks 49 = .ok (.invokevirtual 157, 3) := by decide +kernel
theorem dX10_ticks_52 : decode cX10_ticks 52 = .ok (.iconst 0, 1) := by decide +kernel
theorem dX10_ticks_53 : decode cX10_ticks 53 = .ok (.istore 4, 2) := by decide +kernel
theorem dX10_ticks_55 : decode cX10_ticks 55 = .ok (.iload 4, 2) := by decide +kernel
theorem dX10_ticks_57 : decode cX10_ticks 57 = .ok (.aload_n 0, 1) := by decide +kernel
theorem dX10_ticks_58 : decode cX10_ticks 58 = .ok (.getfield 7, 3) := by decide +kernel
theorem dX10_ticks_61 : decode cX10_ticks 61 = .ok (.sipush 258, 3) := by decide +kernel
theorem dX10_ticks_64 : decode cX10_ticks 64 = .ok (.iaload, 1) := by decide +kernel
theorem dX10_ticks_65 : decode cX10_ticks 65 = .ok (.if_icmp .ge 52, 3) := by decide +kernel
theorem dX10_ticks_68 : decode cX10_ticks 68 = .ok (.aload_n 0, 1) := by decide +kernel
theorem dX10_ticks_69 : decode cX10_ticks 69 = .ok (.getfield 7, 3) := by decide +kernel
theorem dX10_ticks_72 : decode cX10_ticks 72 = .ok (.iload_n 1, 1) := by decide +kernel
theorem dX10_ticks_73 : decode cX10_ticks 73 = .ok (.iconst 0, 1) := by decide +kernel
theorem dX10_ticks_74 : decode cX10_ticks 74 = .ok (.iadd, 1) := by decide +kernel
theorem dX10_ticks_75 : decode cX10_ticks 75 = .ok (.iload 4, 2) := by decide +kernel
theorem dX10_ticks_77 : decode cX10_ticks 77 = .ok (.iadd, 1) := by decide +kernel
theorem dX10_ticks_78 : decode cX10_ticks 78 = .ok (.aload_n 0, 1) := by decide +kernel
theorem dX10_ticks_79 : decode cX10_ticks 79 = .ok (.getfield 45, 3) := by decide +kernel
theorem dX10_ticks_82 : decode cX10_ticks 82 = .ok (.iload 4, 2) := by decide +kernel
theorem dX10_ticks_84 : decode cX10_ticks 84 = .ok (.iaload, 1) := by decide +kernel
theorem dX10_ticks_85 : decode cX10_ticks 85 = .ok (.invokestatic 161, 3) := by decide +kernel
theorem dX10_ticks_88 : decode cX10_ticks 88 = .ok (.iastore, 1) := by decide +kernel
theorem dX10_ticks_89 : decode cX10_ticks 89 = .ok (.aload_n 0, 1) := by decide +kernel
theorem dX10_ticks_90 : decode cX10_ticks 90 = .ok (.getfield 7, 3) := by decide +kernel
theorem dX10_ticks_93 : decode cX10_ticks 93 = .ok (.iload_n 1, 1) := by decide +kernel
theorem dX10_ticks_94 : decode cX10_ticks 94 = .ok (.bipush 72, 2) := by decide +kernel
theorem dX10_ticks_96 : decode cX10_ticks 96 = .ok (.iadd, 1) := by decide +kernel
theorem dX10_ticks_97 : decode cX10_ticks 97 = .ok (.iload 4, 2) := by decide +kernel
theorem dX10_ticks_99 : decode cX10_ticks 99 = .ok (.iadd, 1) := by decide +kernel
theorem dX10_ticks_100 : decode cX10_ticks 100 = .ok (.aload_n 0, 1) := by decide +kernel
theorem dX10_ticks_101 : decode cX10_ticks 101 = .ok (.getfield 48, 3) := by decide +kernel
theorem dX10_ticks_104 : decode cX10_ticks 104 = .ok (.iload 4, 2) := by decide +kernel
theorem dX10_ticks_106 : decode cX10_ticks 106 = .ok (.iaload, 1) := by decide +kernel
theorem dX10_ticks_107 : decode cX10_ticks 107 = .ok (.invokestatic 161, 3) := by decide +kernel
theorem dX10_ticks_110 : decode cX10_ticks 110 = .ok (.iastore, 1) := by decide +kernel
theorem dX10_ticks_111 : decode cX10_ticks 111 = .ok (.iinc 4 1, 3) := by decide +kernel
theorem dX10_ticks_114 : decode cX10_ticks 114 = .ok (.goto (-59), 3) := by decide +kernel
theorem dX10_ticks_117 : decode cX10_ticks 117 = .ok (.iconst 0, 1) := by decide +kernel
theorem dX10_ticks_118 : decode cX10_ticks 118 = .ok (.istore 4, 2) := by decide +kernel
theorem dX10_ticks_120 : decode cX10_ticks 120 = .ok (.iload 4, 2) := by decide +kernel
theorem dX10_ticks_122 : decode cX10_ticks 122 = .ok (.aload_n 0, 1) := by decide +kernel
theorem dX10_ticks_123 : decode cX10_ticks 123 = .ok (.getfield 7, 3) := by decide +kernel
theorem dX10_ticks_126 : decode cX10_ticks 126 = .ok (.sipush 259, 3) := by decide +kernel
theorem dX10_ticks_129 : decode cX10_ticks 129 = .ok (.iaload, 1) := by decide +kernel
theorem dX10_ticks_130 : decode cX10_ticks 130 = .ok (.if_icmp .ge 16, 3) := by decide +kernel
theorem dX10_ticks_133 : decode cX10_ticks 133 = .ok (.aload_n 0, 1) := by decide +kernel
theorem dX10_ticks_134 : decode cX10_ticks 134 = .ok (.iload_n 1, 1) := by decide +kernel
theorem dX10_ticks_135 : decode cX10_ticks 135 = .ok (.iload 4, 2) := by decide +kernel
theorem dX10_ticks_137 : decode cX10_ticks 137 = .ok (.invokevirtual 164, 3) := by decide +kernel
theorem dX10_ticks_140 : decode cX10_ticks 140 = .ok (.iinc 4 1, 3) := by decide +kernel
theorem dX10_ticks_143 : decode cX10_ticks 143 = .ok (.goto (-23), 3) := by decide +kernel
theorem dX10_ticks_146 : decode cX10_ticks 146 = .ok (.aload_n 0, 1) := by decide +kernel
theorem dX10_ticks_147 : decode cX10_ticks 147 = .ok (.getfield 7, 3) := by decide +kernel
theorem dX10_ticks_150 : decode cX10_ticks 150 = .ok (.iload_n 1, 1) := by decide +kernel
theorem dX10_ticks_151 : decode cX10_ticks 151 = .ok (.sipush 235, 3) := by decide +kernel
theorem dX10_ticks_154 : decode cX10_ticks 154 = .ok (.iadd, 1) := by decide +kernel
theorem dX10_ticks_155 : decode cX10_ticks 155 = .ok (.dup2, 1) := by decide +kernel
theorem dX10_ticks_156 : decode cX10_ticks 156 = .ok (.iaload, 1) := by decide +kernel
theorem dX10_ticks_157 : decode cX10_ticks 157 = .ok (.iconst 1, 1) := by decide +kernel
theorem dX10_ticks_158 : decode cX10_ticks 158 = .ok (.iadd, 1) := by decide +kernel
theorem dX10_ticks_159 : decode cX10_ticks 159 = .ok (.iastore, 1) := by decide +kernel
theorem dX10_ticks_160 : decode cX10_ticks 160 = .ok (.iinc 3 1, 3) := by decide +kernel
theorem dX10_ticks_163 : decode cX10_ticks 163 = .ok (.goto (-161), 3) := by decide +kernel
theorem dX10_ticks_166 : decode cX10_ticks 166 = .ok (.return_, 1) := by decide +kernel
theorem dX10_allEdges_0 : decode cX10_allEdges 0 = .ok (.iconst 0, 1) := by decide +kernel
theorem dX10_allEdges_1 : decode cX10_allEdges 1 = .ok (.istore_n 2, 1) := by decide +kernel
theorem dX10_allEdges_2 : decode cX10_allEdges 2 = .ok (.iconst 0, 1) := by decide +kernel
theorem dX10_allEdges_3 : decode cX10_allEdges 3 = .ok (.istore_n 3, 1) := by decide +kernel
theorem dX10_allEdges_4 : decode cX10_allEdges 4 = .ok (.iload_n 3, 1) := by decide +kernel
theorem dX10_allEdges_5 : decode cX10_allEdges 5 = .ok (.bipush 6, 2) := by decide +kernel
theorem dX10_allEdges_7 : decode cX10_allEdges 7 = .ok (.if_icmp .ge 24, 3) := by decide +kernel
theorem dX10_allEdges_10 : decode cX10_allEdges 10 = .ok (.iload_n 2, 1) := by decide +kernel
theorem dX10_allEdges_11 : decode cX10_allEdges 11 = .ok (.aload_n 0, 1) := by decide +kernel
theorem dX10_allEdges_12 : decode cX10_allEdges 12 = .ok (.getfield 7, 3) := by decide +kernel
theorem dX10_allEdges_15 : decode cX10_allEdges 15 = .ok (.iload_n 1, 1) := by decide +kernel
theorem dX10_allEdges_16 : decode cX10_allEdges 16 = .ok (.sipush 228, 3) := by decide +kernel
theorem dX10_allEdges_19 : decode cX10_allEdges 19 = .ok (.iadd, 1) := by decide +kernel
theorem dX10_allEdges_20 : decode cX10_allEdges 20 = .ok (.iload_n 3, 1) := by decide +kernel
theorem dX10_allEdges_21 : decode cX10_allEdges 21 = .ok (.iadd, 1) := by decide +kernel
theorem dX10_allEdges_22 : decode cX10_allEdges 22 = .ok (.iaload, 1) := by decide +kernel
theorem dX10_allEdges_23 : decode cX10_allEdges 23 = .ok (.iadd, 1) := by decide +kernel
theorem dX10_allEdges_24 : decode cX10_allEdges 24 = .ok (.istore_n 2, 1) := by decide +kernel
theorem dX10_allEdges_25 : decode cX10_allEdges 25 = .ok (.iinc 3 1, 3) := by decide +kernel
theorem dX10_allEdges_28 : decode cX10_allEdges 28 = .ok (.goto (-24), 3) := by decide +kernel
theorem dX10_allEdges_31 : decode cX10_allEdges 31 = .ok (.iload_n 2, 1) := by decide +kernel
theorem dX10_allEdges_32 : decode cX10_allEdges 32 = .ok (.ireturn, 1) := by decide +kernel
set_option maxRecDepth 20000 in
theorem dX10_hush_0 : decode cX10_hush 0 = .ok (.iconst 0, 1) := by decide +kernel
theorem dX10_hush_1 : decode cX10_hush 1 = .ok (.istore_n 2, 1) := by decide +kernel
theorem dX10_hush_2 : decode cX10_hush 2 = .ok (.iload_n 2, 1) := by decide +kernel
theorem dX10_hush_3 : decode cX10_hush 3 = .ok (.sipush 234, 3) := by decide +kernel
theorem dX10_hush_6 : decode cX10_hush 6 = .ok (.if_icmp .ge 43, 3) := by decide +kernel
theorem dX10_hush_9 : decode cX10_hush 9 = .ok (.aload_n 0, 1) := by decide +kernel
theorem dX10_hush_10 : decode cX10_hush 10 = .ok (.getfield 7, 3) := by decide +kernel
theorem dX10_hush_13 : decode cX10_hush 13 = .ok (.iload_n 1, 1) := by decide +kernel
theorem dX10_hush_14 : decode cX10_hush 14 = .ok (.iload_n 2, 1) := by decide +kernel
theorem dX10_hush_15 : decode cX10_hush 15 = .ok (.iadd, 1) := by decide +kernel
theorem dX10_hush_16 : decode cX10_hush 16 = .ok (.iload_n 2, 1) := by decide +kernel
theorem dX10_hush_17 : decode cX10_hush 17 = .ok (.i2l, 1) := by decide +kernel
theorem dX10_hush_18 : decode cX10_hush 18 = .ok (.ldc2_w 167, 3) := by decide +kernel
theorem dX10_hush_21 : decode cX10_hush 21 = .ok (.ldc2_w 169, 3) := by decide +kernel
theorem dX10_hush_24 : decode cX10_hush 24 = .ok (.invokestatic 59, 3) := by decide +kernel
theorem dX10_hush_27 : decode cX10_hush 27 = .ok (.ifCond .eq 14, 3) := by decide +kernel
theorem dX10_hush_30 : decode cX10_hush 30 = .ok (.aload_n 0, 1) := by decide +kernel
theorem dX10_hush_31 : decode cX10_hush 31 = .ok (.getfield 7, 3) := by decide +kernel
theorem dX10_hush_34 : decode cX10_hush 34 = .ok (.iload_n 1, 1) := by decide +kernel
theorem dX10_hush_35 : decode cX10_hush 35 = .ok (.iload_n 2, 1) := by decide +kernel
theorem dX10_hush_36 : decode cX10_hush 36 = .ok (.iadd, 1) := by decide +kernel
theorem dX10_hush_37 : decode cX10_hush 37 = .ok (.iaload, 1) := by decide +kernel
theorem dX10_hush_38 : decode cX10_hush 38 = .ok (.goto 4, 3) := by decide +kernel
theorem dX10_hush_41 : decode cX10_hush 41 = .ok (.iconst 0, 1) := by decide +kernel
theorem dX10_hush_42 : decode cX10_hush 42 = .ok (.iastore, 1) := by decide +kernel
theorem dX10_hush_43 : decode cX10_hush 43 = .ok (.iinc 2 1, 3) := by decide +kernel
theorem dX10_hush_46 : decode cX10_hush 46 = .ok (.goto (-44), 3) := by decide +kernel
theorem dX10_hush_49 : decode cX10_hush 49 = .ok (.return_, 1) := by decide +kernel
theorem dX10_seesAll_0 : decode cX10_seesAll 0 = .ok (.iconst 0, 1) := by decide +kernel
theorem dX10_seesAll_1 : decode cX10_seesAll 1 = .ok (.istore_n 1, 1) := by decide +kernel
theorem dX10_seesAll_2 : decode cX10_seesAll 2 = .ok (.iconst 0, 1) := by decide +kernel
theorem dX10_seesAll_3 : decode cX10_seesAll 3 = .ok (.istore_n 2, 1) := by decide +kernel
theorem dX10_seesAll_4 : decode cX10_seesAll 4 = .ok (.iload_n 2, 1) := by decide +kernel
theorem dX10_seesAll_5 : decode cX10_seesAll 5 = .ok (.aload_n 0, 1) := by decide +kernel
theorem dX10_seesAll_6 : decode cX10_seesAll 6 = .ok (.getfield 7, 3) := by decide +kernel
theorem dX10_seesAll_9 : decode cX10_seesAll 9 = .ok (.sipush 259, 3) := by decide +kernel
theorem dX10_seesAll_12 : decode cX10_seesAll 12 = .ok (.iaload, 1) := by decide +kernel
theorem dX10_seesAll_13 : decode cX10_seesAll 13 = .ok (.if_icmp .ge 24, 3) := by decide +kernel
theorem dX10_seesAll_16 : decode cX10_seesAll 16 = .ok (.iload_n 1, 1) := by decide +kernel
theorem dX10_seesAll_17 : decode cX10_seesAll 17 = .ok (.aload_n 0, 1) := by decide +kernel
theorem dX10_seesAll_18 : decode cX10_seesAll 18 = .ok (.getfield 7, 3) := by decide +kernel
theorem dX10_seesAll_21 : decode cX10_seesAll 21 = .ok (.sipush 216, 3) := by decide +kernel
theorem dX10_seesAll_24 : decode cX10_seesAll 24 = .ok (.iload_n 2, 1) := by decide +kernel
theorem dX10_seesAll_25 : decode cX10_seesAll 25 = .ok (.iadd, 1) := by decide +kernel
theorem dX10_seesAll_26 : decode cX10_seesAll 26 = .ok (.iaload, 1) := by decide +kernel
theorem dX10_seesAll_27 : decode cX10_seesAll 27 = .ok (.iload_n 2, 1) := by decide +kernel
theorem dX10_seesAll_28 : decode cX10_seesAll 28 = .ok (.ishl, 1) := by decide +kernel
theorem dX10_seesAll_29 : decode cX10_seesAll 29 = .ok (.ior, 1) := by decide +kernel
theorem dX10_seesAll_30 : decode cX10_seesAll 30 = .ok (.istore_n 1, 1) := by decide +kernel
theorem dX10_seesAll_31 : decode cX10_seesAll 31 = .ok (.iinc 2 1, 3) := by decide +kernel
theorem dX10_seesAll_34 : decode cX10_seesAll 34 = .ok (.goto (-30), 3) := by decide +kernel
theorem dX10_seesAll_37 : decode cX10_seesAll 37 = .ok (.iload_n 1, 1) := by decide +kernel
theorem dX10_seesAll_38 : decode cX10_seesAll 38 = .ok (.ireturn, 1) := by decide +kernel
set_option maxRecDepth 20000 in
theorem dX10_layQuiet_0 : decode cX10_layQuiet 0 = .ok (.aload_n 0, 1) := by decide +kernel
theorem dX10_layQuiet_1 : decode cX10_layQuiet 1 = .ok (.iconst 0, 1) := by decide +kernel
theorem dX10_layQuiet_2 : decode cX10_layQuiet 2 = .ok (.sipush 3736, 3) := by decide +kernel
theorem dX10_layQuiet_5 : decode cX10_layQuiet 5 = .ok (.sipush 247, 3) := by decide +kernel
theorem dX10_layQuiet_8 : decode cX10_layQuiet 8 = .ok (.invokevirtual 124, 3) := by decide +kernel
theorem dX10_layQuiet_11 : decode cX10_layQuiet 11 = .ok (.aload_n 0, 1) := by decide +kernel
theorem dX10_layQuiet_12 : decode cX10_layQuiet 12 = .ok (.sipush 3736, 3) := by decide +kernel
theorem dX10_layQuiet_15 : decode cX10_layQuiet 15 = .ok (.invokevirtual 171, 3) := by decide +kernel
theorem dX10_layQuiet_18 : decode cX10_layQuiet 18 = .ok (.aload_n 0, 1) := by decide +kernel
theorem dX10_layQuiet_19 : decode cX10_layQuiet 19 = .ok (.getfield 7, 3) := by decide +kernel
theorem dX10_layQuiet_22 : decode cX10_layQuiet 22 = .ok (.sipush 3970, 3) := by decide +kernel
theorem dX10_layQuiet_25 : decode cX10_layQuiet 25 = .ok (.iconst 1, 1) := by decide +kernel
theorem dX10_layQuiet_26 : decode cX10_layQuiet 26 = .ok (.iastore, 1) := by decide +kernel
theorem dX10_layQuiet_27 : decode cX10_layQuiet 27 = .ok (.return_, 1) := by decide +kernel
set_option maxRecDepth 20000 in
theorem dX10_overBy_0 : decode cX10_overBy 0 = .ok (.aload_n 0, 1) := by decide +kernel
theorem dX10_overBy_1 : decode cX10_overBy 1 = .ok (.invokevirtual 174, 3) := by decide +kernel
theorem dX10_overBy_4 : decode cX10_overBy 4 = .ok (.aload_n 0, 1) := by decide +kernel
theorem dX10_overBy_5 : decode cX10_overBy 5 = .ok (.getfield 7, 3) := by decide +kernel
theorem dX10_overBy_8 : decode cX10_overBy 8 = .ok (.sipush 3982, 3) := by decide +kernel
theorem dX10_overBy_11 : decode cX10_overBy 11 = .ok (.iload_n 1, 1) := by decide +kernel
theorem dX10_overBy_12 : decode cX10_overBy 12 = .ok (.iastore, 1) := by decide +kernel
theorem dX10_overBy_13 : decode cX10_overBy 13 = .ok (.iconst 0, 1) := by decide +kernel
theorem dX10_overBy_14 : decode cX10_overBy 14 = .ok (.istore_n 2, 1) := by decide +kernel
theorem dX10_overBy_15 : decode cX10_overBy 15 = .ok (.iconst 0, 1) := by decide +kernel
theorem dX10_overBy_16 : decode cX10_overBy 16 = .ok (.istore_n 3, 1) := by decide +kernel
theorem dX10_overBy_17 : decode cX10_overBy 17 = .ok (.iload_n 3, 1) := by decide +kernel
theorem dX10_overBy_18 : decode cX10_overBy 18 = .ok (.sipush 200, 3) := by decide +kernel
theorem dX10_overBy_21 : decode cX10_overBy 21 = .ok (.if_icmp .ge 57, 3) := by decide +kernel
theorem dX10_overBy_24 : decode cX10_overBy 24 = .ok (.aload_n 0, 1) := by decide +kernel
theorem dX10_overBy_25 : decode cX10_overBy 25 = .ok (.sipush 3736, 3) := by decide +kernel
theorem dX10_overBy_28 : decode cX10_overBy 28 = .ok (.iconst 1, 1) := by decide +kernel
theorem dX10_overBy_29 : decode cX10_overBy 29 = .ok (.invokevirtual 177, 3) := by decide +kernel
theorem dX10_overBy_32 : decode cX10_overBy 32 = .ok (.aload_n 0, 1) := by decide +kernel
theorem dX10_overBy_33 : decode cX10_overBy 33 = .ok (.sipush 3736, 3) := by decide +kernel
theorem dX10_overBy_36 : decode cX10_overBy 36 = .ok (.aload_n 0, 1) := by decide +kernel
theorem dX10_overBy_37 : decode cX10_overBy 37 = .ok (.getfield 7, 3) := by decide +kernel
theorem dX10_overBy_40 : decode cX10_overBy 40 = .ok (.sipush 258, 3) := by decide +kernel
theorem dX10_overBy_43 : decode cX10_overBy 43 = .ok (.iaload, 1) := by decide +kernel
theorem dX10_overBy_44 : decode cX10_overBy 44 = .ok (.iconst 1, 1) := by decide +kernel
theorem dX10_overBy_45 : decode cX10_overBy 45 = .ok (.isub, 1) := by decide +kernel
theorem dX10_overBy_46 : decode cX10_overBy 46 = .ok (.invokevirtual 150, 3) := by decide +kernel
theorem dX10_overBy_49 : decode cX10_overBy 49 = .ok (.aload_n 0, 1) := by decide +kernel
theorem dX10_overBy_50 : decode cX10_overBy 50 = .ok (.sipush 3736, 3) := by decide +kernel
theorem dX10_overBy_53 : decode cX10_overBy 53 = .ok (.invokevirtual 143, 3) := by decide +kernel
theorem dX10_overBy_56 : decode cX10_overBy 56 = .ok (.isub, 1) := by decide +kernel
theorem dX10_overBy_57 : decode cX10_overBy 57 = .ok (.istore 4, 2) := by decide +kernel
theorem dX10_overBy_59 : decode cX10_overBy 59 = .ok (.iload 4, 2) := by decide +kernel
theorem dX10_overBy_61 : decode cX10_overBy 61 = .ok (.iload_n 2, 1) := by decide +kernel
theorem dX10_overBy_62 : decode cX10_overBy 62 = .ok (.if_icmp .le 8, 3) := by decide +kernel
theorem dX10_overBy_65 : decode cX10_overBy 65 = .ok (.iload 4, 2) := by decide +kernel
theorem dX10_overBy_67 : decode cX10_overBy 67 = .ok (.goto 4, 3) := by decide +kernel
theorem dX10_overBy_70 : decode cX10_overBy 70 = .ok (.iload_n 2, 1) := by decide +kernel
theorem dX10_overBy_71 : decode cX10_overBy 71 = .ok (.istore_n 2, 1) := by decide +kernel
theorem dX10_overBy_72 : decode cX10_overBy 72 = .ok (.iinc 3 1, 3) := by decide +kernel
theorem dX10_overBy_75 : decode cX10_overBy 75 = .ok (.goto (-58), 3) := by decide +kernel
theorem dX10_overBy_78 : decode cX10_overBy 78 = .ok (.aload_n 0, 1) := by decide +kernel
theorem dX10_overBy_79 : decode cX10_overBy 79 = .ok (.getfield 7, 3) := by decide +kernel
theorem dX10_overBy_82 : decode cX10_overBy 82 = .ok (.sipush 258, 3) := by decide +kernel
theorem dX10_overBy_85 : decode cX10_overBy 85 = .ok (.iaload, 1) := by decide +kernel
theorem dX10_overBy_86 : decode cX10_overBy 86 = .ok (.ifCond .ne 7, 3) := by decide +kernel
theorem dX10_overBy_89 : decode cX10_overBy 89 = .ok (.iconst 0, 1) := by decide +kernel
theorem dX10_overBy_90 : decode cX10_overBy 90 = .ok (.goto 4, 3) := by decide +kernel
theorem dX10_overBy_93 : decode cX10_overBy 93 = .ok (.iload_n 2, 1) := by decide +kernel
theorem dX10_overBy_94 : decode cX10_overBy 94 = .ok (.ireturn, 1) := by decide +kernel
set_option maxRecDepth 20000 in
theorem dX10_bestDriver_0 : decode cX10_bestDriver 0 = .ok (.iconst 0, 1) := by decide +kernel
theorem dX10_bestDriver_1 : decode cX10_bestDriver 1 = .ok (.istore_n 1, 1) := by decide +kernel
theorem dX10_bestDriver_2 : decode cX10_bestDriver 2 = .ok (.aload_n 0, 1) := by decide +kernel
theorem dX10_bestDriver_3 : decode cX10_bestDriver 3 = .ok (.iconst 0, 1) := by decide +kernel
theorem dX10_bestDriver_4 : decode cX10_bestDriver 4 = .ok (.invokevirtual 180, 3) := by decide +kernel
theorem dX10_bestDriver_7 : decode cX10_bestDriver 7 = .ok (.istore_n 2, 1) := by decide +kernel
theorem dX10_bestDriver_8 : decode cX10_bestDriver 8 = .ok (.iconst 1, 1) := by decide +kernel
theorem dX10_bestDriver_9 : decode cX10_bestDriver 9 = .ok (.istore_n 3, 1) := by decide +kernel
theorem dX10_bestDriver_10 : decode cX10_bestDriver 10 = .ok (.iload_n 3, 1) := by decide +kernel
theorem dX10_bestDriver_11 : decode cX10_bestDriver 11 = .ok (.bipush 100, 2) := by decide +kernel
theorem dX10_bestDriver_13 : decode cX10_bestDriver 13 = .ok (.if_icmp .ge 41, 3) := by decide +kernel
theorem dX10_bestDriver_16 : decode cX10_bestDriver 16 = .ok (.aload_n 0, 1) := by decide +kernel
theorem dX10_bestDriver_17 : decode cX10_bestDriver 17 = .ok (.iload_n 3, 1) := by decide +kernel
theorem dX10_bestDriver_18 : decode cX10_bestDriver 18 = .ok (.invokevirtual 180, 3) := by decide +kernel
theorem dX10_bestDriver_21 : decode cX10_bestDriver 21 = .ok (.istore 4, 2) := by decide +kernel
theorem dX10_bestDriver_23 : decode cX10_bestDriver 23 = .ok (.iload 4, 2) := by decide +kernel
theorem dX10_bestDriver_25 : decode cX10_bestDriver 25 = .ok (.iload_n 2, 1) := by decide +kernel
theorem dX10_bestDriver_26 : decode cX10_bestDriver 26 = .ok (.if_icmp .ge 7, 3) := by decide +kernel
theorem dX10_bestDriver_29 : decode cX10_bestDriver 29 = .ok (.iload_n 3, 1) := by decide +kernel
theorem dX10_bestDriver_30 : decode cX10_bestDriver 30 = .ok (.goto 4, 3) := by decide +kernel
theorem dX10_bestDriver_33 : decode cX10_bestDriver 33 = .ok (.iload_n 1, 1) := by decide +kernel
theorem dX10_bestDriver_34 : decode cX10_bestDriver 34 = .ok (.istore_n 1, 1) := by decide +kernel
theorem dX10_bestDriver_35 : decode cX10_bestDriver 35 = .ok (.iload 4, 2) := by decide +kernel
theorem dX10_bestDriver_37 : decode cX10_bestDriver 37 = .ok (.iload_n 2, 1) := by decide +kernel
theorem dX10_bestDriver_38 : decode cX10_bestDriver 38 = .ok (.if_icmp .ge 8, 3) := by decide +kernel
theorem dX10_bestDriver_41 : decode cX10_bestDriver 41 = .ok (.iload 4, 2) := by decide +kernel
theorem dX10_bestDriver_43 : decode cX10_bestDriver 43 = .ok (.goto 4, 3) := by decide +kernel
theorem dX10_bestDriver_46 : decode cX10_bestDriver 46 = .ok (.iload_n 2, 1) := by decide +kernel
theorem dX10_bestDriver_47 : decode cX10_bestDriver 47 = .ok (.istore_n 2, 1) := by decide +kernel
theorem dX10_bestDriver_48 : decode cX10_bestDriver 48 = .ok (.iinc 3 1, 3) := by decide +kernel
theorem dX10_bestDriver_51 : decode cX10_bestDriver 51 = .ok (.goto (-41), 3) := by decide +kernel
theorem dX10_bestDriver_54 : decode cX10_bestDriver 54 = .ok (.iload_n 1, 1) := by decide +kernel
theorem dX10_bestDriver_55 : decode cX10_bestDriver 55 = .ok (.ireturn, 1) := by decide +kernel
set_option maxRecDepth 20000 in
theorem dX10_comesBack_0 : decode cX10_comesBack 0 = .ok (.aload_n 0, 1) := by decide +kernel
theorem dX10_comesBack_1 : decode cX10_comesBack 1 = .ok (.invokevirtual 174, 3) := by decide +kernel
theorem dX10_comesBack_4 : decode cX10_comesBack 4 = .ok (.iconst 1, 1) := by decide +kernel
theorem dX10_comesBack_5 : decode cX10_comesBack 5 = .ok (.istore_n 1, 1) := by decide +kernel
theorem dX10_comesBack_6 : decode cX10_comesBack 6 = .ok (.iload_n 1, 1) := by decide +kernel
theorem dX10_comesBack_7 : decode cX10_comesBack 7 = .ok (.sipush 201, 3) := by decide +kernel
theorem dX10_comesBack_10 : decode cX10_comesBack 10 = .ok (.if_icmp .ge 30, 3) := by decide +kernel
theorem dX10_comesBack_13 : decode cX10_comesBack 13 = .ok (.aload_n 0, 1) := by decide +kernel
theorem dX10_comesBack_14 : decode cX10_comesBack 14 = .ok (.sipush 3736, 3) := by decide +kernel
theorem dX10_comesBack_17 : decode cX10_comesBack 17 = .ok (.iconst 1, 1) := by decide +kernel
theorem dX10_comesBack_18 : decode cX10_comesBack 18 = .ok (.invokevirtual 177, 3) := by decide +kernel
theorem dX10_comesBack_21 : decode cX10_comesBack 21 = .ok (.aload_n 0, 1) := by decide +kernel
theorem dX10_comesBack_22 : decode cX10_comesBack 22 = .ok (.getfield 7, 3) := by decide +kernel
theorem dX10_comesBack_25 : decode cX10_comesBack 25 = .ok (.sipush 3808, 3) := by decide +kernel
theorem dX10_comesBack_28 : decode cX10_comesBack 28 = .ok (.iaload, 1) := by decide +kernel
theorem dX10_comesBack_29 : decode cX10_comesBack 29 = .ok (.ifCond .eq 5, 3) := by decide +kernel
theorem dX10_comesBack_32 : decode cX10_comesBack 32 = .ok (.iload_n 1, 1) := by decide +kernel
theorem dX10_comesBack_33 : decode cX10_comesBack 33 = .ok (.ireturn, 1) := by decide +kernel
theorem dX10_comesBack_34 : decode cX10_comesBack 34 = .ok (.iinc 1 1, 3) := by decide +kernel
theorem dX10_comesBack_37 : decode cX10_comesBack 37 = .ok (.goto (-31), 3) := by decide +kernel
theorem dX10_comesBack_40 : decode cX10_comesBack 40 = .ok (.iconst (-1), 1) := by decide +kernel
theorem dX10_comesBack_41 : decode cX10_comesBack 41 = .ok (.ireturn, 1) := by decide +kernel
set_option maxRecDepth 20000 in
theorem dX10_told_0 : decode cX10_told 0 = .ok (.iload_n 1, 1) := by decide +kernel
theorem dX10_told_1 : decode cX10_told 1 = .ok (.tableswitch 285 0 17 #[87, 96, 105, 114, 123, 128, 137, 146, 155, 164, 189, 198, 203, 227, 243, 270, 275, 280], 87) := by decide +kernel
theorem dX10_told_88 : decode cX10_told 88 = .ok (.aload_n 0, 1) := by decide +kernel
theorem dX10_told_89 : decode cX10_told 89 = .ok (.getfield 7, 3) := by decide +kernel
theorem dX10_told_92 : decode cX10_told 92 = .ok (.sipush 247, 3) := by decide +kernel
theorem dX10_told_95 : decode cX10_told 95 = .ok (.iaload, 1) := by decide +kernel
theorem dX10_told_96 : decode cX10_told 96 = .ok (.ireturn, 1) := by decide +kernel
theorem dX10_told_97 : decode cX10_told 97 = .ok (.aload_n 0, 1) := by decide +kernel
theorem dX10_told_98 : decode cX10_told 98 = .ok (.getfield 7, 3) := by decide +kernel
theorem dX10_told_101 : decode cX10_told 101 = .ok (.sipush 249, 3) := by decide +kernel
theorem dX10_told_104 : decode cX10_told 104 = .ok (.iaload, 1) := by decide +kernel
theorem dX10_told_105 : decode cX10_told 105 = .ok (.ireturn, 1) := by decide +kernel
theorem dX10_told_106 : decode cX10_told 106 = .ok (.aload_n 0, 1) := by decide +kernel
theorem dX10_told_107 : decode cX10_told 107 = .ok (.getfield 7, 3) := by decide +kernel
theorem dX10_told_110 : decode cX10_told 110 = .ok (.sipush 258, 3) := by decide +kernel
theorem dX10_told_113 : decode cX10_told 113 = .ok (.iaload, 1) := by decide +kernel
theorem dX10_told_114 : decode cX10_told 114 = .ok (.ireturn, 1) := by decide +kernel
theorem dX10_told_115 : decode cX10_told 115 = .ok (.aload_n 0, 1) := by decide +kernel
theorem dX10_told_116 : decode cX10_told 116 = .ok (.getfield 7, 3) := by decide +kernel
theorem dX10_told_119 : decode cX10_told 119 = .ok (.sipush 259, 3) := by decide +kernel
theorem dX10_told_122 : decode cX10_told 122 = .ok (.iaload, 1) := by decide +kernel
theorem dX10_told_123 : decode cX10_told 123 = .ok (.ireturn, 1) := by decide +kernel
theorem dX10_told_124 : decode cX10_told 124 = .ok (.aload_n 0, 1) := by decide +kernel
theorem dX10_told_125 : decode cX10_told 125 = .ok (.getfield 64, 3) := by decide +kernel
theorem dX10_told_128 : decode cX10_told 128 = .ok (.ireturn, 1) := by decide +kernel
theorem dX10_told_129 : decode cX10_told 129 = .ok (.aload_n 0, 1) := by decide +kernel
theorem dX10_told_130 : decode cX10_told 130 = .ok (.getfield 7, 3) := by decide +kernel
theorem dX10_told_133 : decode cX10_told 133 = .ok (.sipush 246, 3) := by decide +kernel
theorem dX10_told_136 : decode cX10_told 136 = .ok (.iaload, 1) := by decide +kernel
theorem dX10_told_137 : decode cX10_told 137 = .ok (.ireturn, 1) := by decide +kernel
theorem dX10_told_138 : decode cX10_told 138 = .ok (.aload_n 0, 1) := by decide +kernel
theorem dX10_told_139 : decode cX10_told 139 = .ok (.getfield 7, 3) := by decide +kernel
theorem dX10_told_142 : decode cX10_told 142 = .ok (.sipush 248, 3) := by decide +kernel
theorem dX10_told_145 : decode cX10_told 145 = .ok (.iaload, 1) := by decide +kernel
theorem dX10_told_146 : decode cX10_told 146 = .ok (.ireturn, 1) := by decide +kernel
theorem dX10_told_147 : decode cX10_told 147 = .ok (.aload_n 0, 1) := by decide +kernel
theorem dX10_told_148 : decode cX10_told 148 = .ok (.getfield 7, 3) := by decide +kernel
theorem dX10_told_151 : decode cX10_told 151 = .ok (.sipush 234, 3) := by decide +kernel
theorem dX10_told_154 : decode cX10_told 154 = .ok (.iaload, 1) := by decide +kernel
theorem dX10_told_155 : decode cX10_told 155 = .ok (.ireturn, 1) := by decide +kernel
theorem dX10_told_156 : decode cX10_told 156 = .ok (.aload_n 0, 1) := by decide +kernel
theorem dX10_told_157 : decode cX10_told 157 = .ok (.getfield 7, 3) := by decide +kernel
theorem dX10_told_160 : decode cX10_told 160 = .ok (.sipush 244, 3) := by decide +kernel
theorem dX10_told_163 : decode cX10_told 163 = .ok (.iaload, 1) := by decide +kernel
theorem dX10_told_164 : decode cX10_told 164 = .ok (.ireturn, 1) := by decide +kernel
theorem dX10_told_165 : decode cX10_told 165 = .ok (.aload_n 0, 1) := by decide +kernel
theorem dX10_told_166 : decode cX10_told 166 = .ok (.getfield 7, 3) := by decide +kernel
theorem dX10_told_169 : decode cX10_told 169 = .ok (.sipush 244, 3) := by decide +kernel
theorem dX10_told_172 : decode cX10_told 172 = .ok (.iaload, 1) := by decide +kernel
theorem dX10_told_173 : decode cX10_told 173 = .ok (.iconst 2, 1) := by decide +kernel
theorem dX10_told_174 : decode cX10_told 174 = .ok (.if_icmp .ne 14, 3) := by decide +kernel
theorem dX10_told_177 : decode cX10_told 177 = .ok (.aload_n 0, 1) := by decide +kernel
theorem dX10_told_178 : decode cX10_told 178 = .ok (.getfield 7, 3) := by decide +kernel
theorem dX10_told_181 : decode cX10_told 181 = .ok (.sipush 245, 3) := by decide +kernel
theorem dX10_told_184 : decode cX10_told 184 = .ok (.iaload, 1) := by decide +kernel
theorem dX10_told_185 : decode cX10_told 185 = .ok (.goto 4, 3) := by decide +kernel
theorem dX10_told_188 : decode cX10_told 188 = .ok (.iconst 0, 1) := by decide +kernel
theorem dX10_told_189 : decode cX10_told 189 = .ok (.ireturn, 1) := by decide +kernel
theorem dX10_told_190 : decode cX10_told 190 = .ok (.aload_n 0, 1) := by decide +kernel
theorem dX10_told_191 : decode cX10_told 191 = .ok (.getfield 7, 3) := by decide +kernel
theorem dX10_told_194 : decode cX10_told 194 = .ok (.sipush 235, 3) := by decide +kernel
theorem dX10_told_197 : decode cX10_told 197 = .ok (.iaload, 1) := by decide +kernel
theorem dX10_told_198 : decode cX10_told 198 = .ok (.ireturn, 1) := by decide +kernel
theorem dX10_told_199 : decode cX10_told 199 = .ok (.aload_n 0, 1) := by decide +kernel
theorem dX10_told_200 : decode cX10_told 200 = .ok (.invokevirtual 183, 3) := by decide +kernel
theorem dX10_told_203 : decode cX10_told 203 = .ok (.ireturn, 1) := by decide +kernel
theorem dX10_told_204 : decode cX10_told 204 = .ok (.aload_n 0, 1) := by decide +kernel
theorem dX10_told_205 : decode cX10_told 205 = .ok (.invokevirtual 187, 3) := by decide +kernel
theorem dX10_told_208 : decode cX10_told 208 = .ok (.ifCond .eq 18, 3) := by decide +kernel
theorem dX10_told_211 : decode cX10_told 211 = .ok (.aload_n 0, 1) := by decide +kernel
theorem dX10_told_212 : decode cX10_told 212 = .ok (.aload_n 0, 1) := by decide +kernel
theorem dX10_told_213 : decode cX10_told 213 = .ok (.getfield 7, 3) := by decide +kernel
theorem dX10_told_216 : decode cX10_told 216 = .ok (.sipush 246, 3) := by decide +kernel
theorem dX10_told_219 : decode cX10_told 219 = .ok (.iaload, 1) := by decide +kernel
theorem dX10_told_220 : decode cX10_told 220 = .ok (.invokevirtual 180, 3) := by decide +kernel
theorem dX10_told_223 : decode cX10_told 223 = .ok (.goto 4, 3) := by decide +kernel
theorem dX10_told_226 : decode cX10_told 226 = .ok (.iconst 0, 1) := by decide +kernel
theorem dX10_told_227 : decode cX10_told 227 = .ok (.ireturn, 1) := by decide +kernel
theorem dX10_told_228 : decode cX10_told 228 = .ok (.aload_n 0, 1) := by decide +kernel
theorem dX10_told_229 : decode cX10_told 229 = .ok (.invokevirtual 187, 3) := by decide +kernel
theorem dX10_told_232 : decode cX10_told 232 = .ok (.ifCond .eq 10, 3) := by decide +kernel
theorem dX10_told_235 : decode cX10_told 235 = .ok (.aload_n 0, 1) := by decide +kernel
theorem dX10_told_236 : decode cX10_told 236 = .ok (.invokevirtual 190, 3) := by decide +kernel
theorem dX10_told_239 : decode cX10_told 239 = .ok (.goto 4, 3) := by decide +kernel
theorem dX10_told_242 : decode cX10_told 242 = .ok (.iconst 0, 1) := by decide +kernel
theorem dX10_told_243 : decode cX10_told 243 = .ok (.ireturn, 1) := by decide +kernel
theorem dX10_told_244 : decode cX10_told 244 = .ok (.aload_n 0, 1) := by decide +kernel
theorem dX10_told_245 : decode cX10_told 245 = .ok (.invokevirtual 187, 3) := by decide +kernel
theorem dX10_told_248 : decode cX10_told 248 = .ok (.ifCond .eq 21, 3) := by decide +kernel
theorem dX10_told_251 : decode cX10_told 251 = .ok (.aload_n 0, 1) := by decide +kernel
theorem dX10_told_252 : decode cX10_told 252 = .ok (.getfield 7, 3) := by decide +kernel
theorem dX10_told_255 : decode cX10_told 255 = .ok (.sipush 258, 3) := by decide +kernel
theorem dX10_told_258 : decode cX10_told 258 = .ok (.iaload, 1) := by decide +kernel
theorem dX10_told_259 : decode cX10_told 259 = .ok (.ifCond .le 10, 3) := by decide +kernel
theorem dX10_told_262 : decode cX10_told 262 = .ok (.aload_n 0, 1) := by decide +kernel
theorem dX10_told_263 : decode cX10_told 263 = .ok (.invokevirtual 193, 3) := by decide +kernel
theorem dX10_told_266 : decode cX10_told 266 = .ok (.goto 4, 3) := by decide +kernel
theorem dX10_told_269 : decode cX10_told 269 = .ok (.iconst (-1), 1) := by decide +kernel
theorem dX10_told_270 : decode cX10_told 270 = .ok (.ireturn, 1) := by decide +kernel
theorem dX10_told_271 : decode cX10_told 271 = .ok (.aload_n 0, 1) := by decide +kernel
theorem dX10_told_272 : decode cX10_told 272 = .ok (.getfield 131, 3) := by decide +kernel
theorem dX10_told_275 : decode cX10_told 275 = .ok (.ireturn, 1) := by decide +kernel
theorem dX10_told_276 : decode cX10_told 276 = .ok (.aload_n 0, 1) := by decide +kernel
theorem dX10_told_277 : decode cX10_told 277 = .ok (.getfield 134, 3) := by decide +kernel
theorem dX10_told_280 : decode cX10_told 280 = .ok (.ireturn, 1) := by decide +kernel
theorem dX10_told_281 : decode cX10_told 281 = .ok (.aload_n 0, 1) := by decide +kernel
theorem dX10_told_282 : decode cX10_told 282 = .ok (.getfield 128, 3) := by decide +kernel
theorem dX10_told_285 : decode cX10_told 285 = .ok (.ireturn, 1) := by decide +kernel
theorem dX10_told_286 : decode cX10_told 286 = .ok (.ldc 63, 2) := by decide +kernel
theorem dX10_told_288 : decode cX10_told 288 = .ok (.ireturn, 1) := by decide +kernel
set_option maxRecDepth 20000 in
theorem dX10_wire_0 : decode cX10_wire 0 = .ok (.aload_n 0, 1) := by decide +kernel
theorem dX10_wire_1 : decode cX10_wire 1 = .ok (.iload_n 1, 1) := by decide +kernel
theorem dX10_wire_2 : decode cX10_wire 2 = .ok (.invokevirtual 196, 3) := by decide +kernel
theorem dX10_wire_5 : decode cX10_wire 5 = .ok (.ifCond .ne 6, 3) := by decide +kernel
theorem dX10_wire_8 : decode cX10_wire 8 = .ok (.ldc 199, 2) := by decide +kernel
theorem dX10_wire_10 : decode cX10_wire 10 = .ok (.ireturn, 1) := by decide +kernel
theorem dX10_wire_11 : decode cX10_wire 11 = .ok (.iload_n 2, 1) := by decide +kernel
theorem dX10_wire_12 : decode cX10_wire 12 = .ok (.i2l, 1) := by decide +kernel
theorem dX10_wire_13 : decode cX10_wire 13 = .ok (.lconst 0, 1) := by decide +kernel
theorem dX10_wire_14 : decode cX10_wire 14 = .ok (.ldc2_w 200, 3) := by decide +kernel
theorem dX10_wire_17 : decode cX10_wire 17 = .ok (.invokestatic 59, 3) := by decide +kernel
theorem dX10_wire_20 : decode cX10_wire 20 = .ok (.ifCond .ne 6, 3) := by decide +kernel
theorem dX10_wire_23 : decode cX10_wire 23 = .ok (.ldc 63, 2) := by decide +kernel
theorem dX10_wire_25 : decode cX10_wire 25 = .ok (.ireturn, 1) := by decide +kernel
theorem dX10_wire_26 : decode cX10_wire 26 = .ok (.iconst 0, 1) := by decide +kernel
theorem dX10_wire_27 : decode cX10_wire 27 = .ok (.istore_n 3, 1) := by decide +kernel
theorem dX10_wire_28 : decode cX10_wire 28 = .ok (.iconst 0, 1) := by decide +kernel
theorem dX10_wire_29 : decode cX10_wire 29 = .ok (.istore 4, 2) := by decide +kernel
theorem dX10_wire_31 : decode cX10_wire 31 = .ok (.iload 4, 2) := by decide +kernel
theorem dX10_wire_33 : decode cX10_wire 33 = .ok (.iload_n 1, 1) := by decide +kernel
theorem dX10_wire_34 : decode cX10_wire 34 = .ok (.if_icmp .ge 23, 3) := by decide +kernel
theorem dX10_wire_37 : decode cX10_wire 37 = .ok (.iload_n 3, 1) := by decide +kernel
theorem dX10_wire_38 : decode cX10_wire 38 = .ok (.aload_n 0, 1) := by decide +kernel
theorem dX10_wire_39 : decode cX10_wire 39 = .ok (.getfield 7, 3) := by decide +kernel
theorem dX10_wire_42 : decode cX10_wire 42 = .ok (.sipush 250, 3) := by decide +kernel
theorem dX10_wire_45 : decode cX10_wire 45 = .ok (.iload 4, 2) := by decide +kernel
theorem dX10_wire_47 : decode cX10_wire 47 = .ok (.iadd, 1) := by decide +kernel
theorem dX10_wire_48 : decode cX10_wire 48 = .ok (.iaload, 1) := by decide +kernel
theorem dX10_wire_49 : decode cX10_wire 49 = .ok (.iadd, 1) := by decide +kernel
theorem dX10_wire_50 : decode cX10_wire 50 = .ok (.istore_n 3, 1) := by decide +kernel
theorem dX10_wire_51 : decode cX10_wire 51 = .ok (.iinc 4 1, 3) := by decide +kernel
theorem dX10_wire_54 : decode cX10_wire 54 = .ok (.goto (-23), 3) := by decide +kernel
theorem dX10_wire_57 : decode cX10_wire 57 = .ok (.iload_n 2, 1) := by decide +kernel
theorem dX10_wire_58 : decode cX10_wire 58 = .ok (.ifCond .ne 16, 3) := by decide +kernel
theorem dX10_wire_61 : decode cX10_wire 61 = .ok (.aload_n 0, 1) := by decide +kernel
theorem dX10_wire_62 : decode cX10_wire 62 = .ok (.getfield 7, 3) := by decide +kernel
theorem dX10_wire_65 : decode cX10_wire 65 = .ok (.sipush 236, 3) := by decide +kernel
theorem dX10_wire_68 : decode cX10_wire 68 = .ok (.iload_n 1, 1) := by decide +kernel
theorem dX10_wire_69 : decode cX10_wire 69 = .ok (.iadd, 1) := by decide +kernel
theorem dX10_wire_70 : decode cX10_wire 70 = .ok (.iaload, 1) := by decide +kernel
theorem dX10_wire_71 : decode cX10_wire 71 = .ok (.goto 22, 3) := by decide +kernel
theorem dX10_wire_74 : decode cX10_wire 74 = .ok (.iload_n 2, 1) := by decide +kernel
theorem dX10_wire_75 : decode cX10_wire 75 = .ok (.iconst 1, 1) := by decide +kernel
theorem dX10_wire_76 : decode cX10_wire 76 = .ok (.if_icmp .ne 16, 3) := by decide +kernel
theorem dX10_wire_79 : decode cX10_wire 79 = .ok (.aload_n 0, 1) := by decide +kernel
theorem dX10_wire_80 : decode cX10_wire 80 = .ok (.getfield 7, 3) := by decide +kernel
theorem dX10_wire_83 : decode cX10_wire 83 = .ok (.sipush 250, 3) := by decide +kernel
theorem dX10_wire_86 : decode cX10_wire 86 = .ok (.iload_n 1, 1) := by decide +kernel
theorem dX10_wire_87 : decode cX10_wire 87 = .ok (.iadd, 1) := by decide +kernel
theorem dX10_wire_88 : decode cX10_wire 88 = .ok (.iaload, 1) := by decide +kernel
theorem dX10_wire_89 : decode cX10_wire 89 = .ok (.goto 4, 3) := by decide +kernel
theorem dX10_wire_92 : decode cX10_wire 92 = .ok (.iload_n 3, 1) := by decide +kernel
theorem dX10_wire_93 : decode cX10_wire 93 = .ok (.ireturn, 1) := by decide +kernel
set_option maxRecDepth 20000 in
theorem dX10_cell_0 : decode cX10_cell 0 = .ok (.iload_n 1, 1) := by decide +kernel
theorem dX10_cell_1 : decode cX10_cell 1 = .ok (.i2l, 1) := by decide +kernel
theorem dX10_cell_2 : decode cX10_cell 2 = .ok (.lconst 0, 1) := by decide +kernel
theorem dX10_cell_3 : decode cX10_cell 3 = .ok (.ldc2_w 202, 3) := by decide +kernel
theorem dX10_cell_6 : decode cX10_cell 6 = .ok (.invokestatic 59, 3) := by decide +kernel
theorem dX10_cell_9 : decode cX10_cell 9 = .ok (.ifCond .eq 15, 3) := by decide +kernel
theorem dX10_cell_12 : decode cX10_cell 12 = .ok (.iload_n 2, 1) := by decide +kernel
theorem dX10_cell_13 : decode cX10_cell 13 = .ok (.i2l, 1) := by decide +kernel
theorem dX10_cell_14 : decode cX10_cell 14 = .ok (.lconst 0, 1) := by decide +kernel
theorem dX10_cell_15 : decode cX10_cell 15 = .ok (.ldc2_w 200, 3) := by decide +kernel
theorem dX10_cell_18 : decode cX10_cell 18 = .ok (.invokestatic 59, 3) := by decide +kernel
theorem dX10_cell_21 : decode cX10_cell 21 = .ok (.ifCond .ne 6, 3) := by decide +kernel
theorem dX10_cell_24 : decode cX10_cell 24 = .ok (.ldc 63, 2) := by decide +kernel
theorem dX10_cell_26 : decode cX10_cell 26 = .ok (.ireturn, 1) := by decide +kernel
theorem dX10_cell_27 : decode cX10_cell 27 = .ok (.ldc 204, 2) := by decide +kernel
theorem dX10_cell_29 : decode cX10_cell 29 = .ok (.aload_n 0, 1) := by decide +kernel
theorem dX10_cell_30 : decode cX10_cell 30 = .ok (.iload_n 1, 1) := by decide +kernel
theorem dX10_cell_31 : decode cX10_cell 31 = .ok (.invokevirtual 147, 3) := by decide +kernel
theorem dX10_cell_34 : decode cX10_cell 34 = .ok (.ifCond .ne 7, 3) := by decide +kernel
theorem dX10_cell_37 : decode cX10_cell 37 = .ok (.iconst 0, 1) := by decide +kernel
theorem dX10_cell_38 : decode cX10_cell 38 = .ok (.goto 34, 3) := by decide +kernel
theorem dX10_cell_41 : decode cX10_cell 41 = .ok (.iload_n 2, 1) := by decide +kernel
theorem dX10_cell_42 : decode cX10_cell 42 = .ok (.ifCond .ne 12, 3) := by decide +kernel
theorem dX10_cell_45 : decode cX10_cell 45 = .ok (.aload_n 0, 1) := by decide +kernel
theorem dX10_cell_46 : decode cX10_cell 46 = .ok (.iconst 0, 1) := by decide +kernel
theorem dX10_cell_47 : decode cX10_cell 47 = .ok (.iload_n 1, 1) := by decide +kernel
theorem dX10_cell_48 : decode cX10_cell 48 = .ok (.invokevirtual 150, 3) := by decide +kernel
theorem dX10_cell_51 : decode cX10_cell 51 = .ok (.goto 21, 3) := by decide +kernel
theorem dX10_cell_54 : decode cX10_cell 54 = .ok (.aload_n 0, 1) := by decide +kernel
theorem dX10_cell_55 : decode cX10_cell 55 = .ok (.getfield 7, 3) := by decide +kernel
theorem dX10_cell_58 : decode cX10_cell 58 = .ok (.iload_n 2, 1) := by decide +kernel
theorem dX10_cell_59 : decode cX10_cell 59 = .ok (.iconst 1, 1) := by decide +kernel
theorem dX10_cell_60 : decode cX10_cell 60 = .ok (.if_icmp .ne 7, 3) := by decide +kernel
theorem dX10_cell_63 : decode cX10_cell 63 = .ok (.iconst 0, 1) := by decide +kernel
theorem dX10_cell_64 : decode cX10_cell 64 = .ok (.goto 5, 3) := by decide +kernel
theorem dX10_cell_67 : decode cX10_cell 67 = .ok (.bipush 72, 2) := by decide +kernel
theorem dX10_cell_69 : decode cX10_cell 69 = .ok (.iload_n 1, 1) := by decide +kernel
theorem dX10_cell_70 : decode cX10_cell 70 = .ok (.iadd, 1) := by decide +kernel
theorem dX10_cell_71 : decode cX10_cell 71 = .ok (.iaload, 1) := by decide +kernel
theorem dX10_cell_72 : decode cX10_cell 72 = .ok (.iadd, 1) := by decide +kernel
theorem dX10_cell_73 : decode cX10_cell 73 = .ok (.ireturn, 1) := by decide +kernel
set_option maxRecDepth 20000 in
theorem dX10_place_0 : decode cX10_place 0 = .ok (.iload_n 1, 1) := by decide +kernel
theorem dX10_place_1 : decode cX10_place 1 = .ok (.i2l, 1) := by decide +kernel
theorem dX10_place_2 : decode cX10_place 2 = .ok (.lconst 1, 1) := by decide +kernel
theorem dX10_place_3 : decode cX10_place 3 = .ok (.ldc2_w 202, 3) := by decide +kernel
theorem dX10_place_6 : decode cX10_place 6 = .ok (.invokestatic 59, 3) := by decide +kernel
theorem dX10_place_9 : decode cX10_place 9 = .ok (.ifCond .ne 8, 3) := by decide +kernel
theorem dX10_place_12 : decode cX10_place 12 = .ok (.ldc 63, 2) := by decide +kernel
theorem dX10_place_14 : decode cX10_place 14 = .ok (.goto 25, 3) := by decide +kernel
theorem dX10_place_17 : decode cX10_place 17 = .ok (.aload_n 0, 1) := by decide +kernel
theorem dX10_place_18 : decode cX10_place 18 = .ok (.iload_n 1, 1) := by decide +kernel
theorem dX10_place_19 : decode cX10_place 19 = .ok (.invokevirtual 205, 3) := by decide +kernel
theorem dX10_place_22 : decode cX10_place 22 = .ok (.ifCond .eq 16, 3) := by decide +kernel
theorem dX10_place_25 : decode cX10_place 25 = .ok (.aload_n 0, 1) := by decide +kernel
theorem dX10_place_26 : decode cX10_place 26 = .ok (.getfield 7, 3) := by decide +kernel
theorem dX10_place_29 : decode cX10_place 29 = .ok (.sipush 144, 3) := by decide +kernel
theorem dX10_place_32 : decode cX10_place 32 = .ok (.iload_n 1, 1) := by decide +kernel
theorem dX10_place_33 : decode cX10_place 33 = .ok (.iadd, 1) := by decide +kernel
theorem dX10_place_34 : decode cX10_place 34 = .ok (.iaload, 1) := by decide +kernel
theorem dX10_place_35 : decode cX10_place 35 = .ok (.goto 4, 3) := by decide +kernel
theorem dX10_place_38 : decode cX10_place 38 = .ok (.iconst (-1), 1) := by decide +kernel
theorem dX10_place_39 : decode cX10_place 39 = .ok (.ireturn, 1) := by decide +kernel
set_option maxRecDepth 20000 in
theorem dX10_firstOne_0 : decode cX10_firstOne 0 = .ok (.aload_n 0, 1) := by decide +kernel
theorem dX10_firstOne_1 : decode cX10_firstOne 1 = .ok (.iconst 0, 1) := by decide +kernel
theorem dX10_firstOne_2 : decode cX10_firstOne 2 = .ok (.sipush 3736, 3) := by decide +kernel
theorem dX10_firstOne_5 : decode cX10_firstOne 5 = .ok (.sipush 247, 3) := by decide +kernel
theorem dX10_firstOne_8 : decode cX10_firstOne 8 = .ok (.invokevirtual 124, 3) := by decide +kernel
theorem dX10_firstOne_11 : decode cX10_firstOne 11 = .ok (.iconst 0, 1) := by decide +kernel
theorem dX10_firstOne_12 : decode cX10_firstOne 12 = .ok (.istore_n 2, 1) := by decide +kernel
theorem dX10_firstOne_13 : decode cX10_firstOne 13 = .ok (.iload_n 2, 1) := by decide +kernel
theorem dX10_firstOne_14 : decode cX10_firstOne 14 = .ok (.sipush 201, 3) := by decide +kernel
theorem dX10_firstOne_17 : decode cX10_firstOne 17 = .ok (.if_icmp .ge 33, 3) := by decide +kernel
theorem dX10_firstOne_20 : decode cX10_firstOne 20 = .ok (.aload_n 0, 1) := by decide +kernel
theorem dX10_firstOne_21 : decode cX10_firstOne 21 = .ok (.getfield 7, 3) := by decide +kernel
theorem dX10_firstOne_24 : decode cX10_firstOne 24 = .ok (.sipush 3952, 3) := by decide +kernel
theorem dX10_firstOne_27 : decode cX10_firstOne 27 = .ok (.iload_n 1, 1) := by decide +kernel
theorem dX10_firstOne_28 : decode cX10_firstOne 28 = .ok (.iadd, 1) := by decide +kernel
theorem dX10_firstOne_29 : decode cX10_firstOne 29 = .ok (.iaload, 1) := by decide +kernel
theorem dX10_firstOne_30 : decode cX10_firstOne 30 = .ok (.iconst 1, 1) := by decide +kernel
theorem dX10_firstOne_31 : decode cX10_firstOne 31 = .ok (.if_icmp .ne 5, 3) := by decide +kernel
theorem dX10_firstOne_34 : decode cX10_firstOne 34 = .ok (.iload_n 2, 1) := by decide +kernel
theorem dX10_firstOne_35 : decode cX10_firstOne 35 = .ok (.ireturn, 1) := by decide +kernel
theorem dX10_firstOne_36 : decode cX10_firstOne 36 = .ok (.aload_n 0, 1) := by decide +kernel
theorem dX10_firstOne_37 : decode cX10_firstOne 37 = .ok (.sipush 3736, 3) := by decide +kernel
theorem dX10_firstOne_40 : decode cX10_firstOne 40 = .ok (.iconst 1, 1) := by decide +kernel
theorem dX10_firstOne_41 : decode cX10_firstOne 41 = .ok (.invokevirtual 177, 3) := by decide +kernel
theorem dX10_firstOne_44 : decode cX10_firstOne 44 = .ok (.iinc 2 1, 3) := by decide +kernel
theorem dX10_firstOne_47 : decode cX10_firstOne 47 = .ok (.goto (-34), 3) := by decide +kernel
theorem dX10_firstOne_50 : decode cX10_firstOne 50 = .ok (.iconst (-1), 1) := by decide +kernel
theorem dX10_firstOne_51 : decode cX10_firstOne 51 = .ok (.ireturn, 1) := by decide +kernel
set_option maxRecDepth 20000 in
theorem dX10_gate_0 : decode cX10_gate 0 = .ok (.aload_n 0, 1) := by decide +kernel
theorem dX10_gate_1 : decode cX10_gate 1 = .ok (.iload_n 1, 1) := by decide +kernel
theorem dX10_gate_2 : decode cX10_gate 2 = .ok (.invokevirtual 208, 3) := by decide +kernel
theorem dX10_gate_5 : decode cX10_gate 5 = .ok (.ifCond .ne 6, 3) := by decide +kernel
theorem dX10_gate_8 : decode cX10_gate 8 = .ok (.ldc 199, 2) := by decide +kernel
theorem dX10_gate_10 : decode cX10_gate 10 = .ok (.ireturn, 1) := by decide +kernel
theorem dX10_gate_11 : decode cX10_gate 11 = .ok (.iload_n 2, 1) := by decide +kernel
theorem dX10_gate_12 : decode cX10_gate 12 = .ok (.tableswitch 83 0 5 #[40, 40, 40, 55, 66, 77], 40) := by decide +kernel
theorem dX10_gate_52 : decode cX10_gate 52 = .ok (.aload_n 0, 1) := by decide +kernel
theorem dX10_gate_53 : decode cX10_gate 53 = .ok (.getfield 7, 3) := by decide +kernel
theorem dX10_gate_56 : decode cX10_gate 56 = .ok (.sipush 260, 3) := by decide +kernel
theorem dX10_gate_59 : decode cX10_gate 59 = .ok (.iconst 3, 1) := by decide +kernel
theorem dX10_gate_60 : decode cX10_gate 60 = .ok (.iload_n 1, 1) := by decide +kernel
theorem dX10_gate_61 : decode cX10_gate 61 = .ok (.imul, 1) := by decide +kernel
theorem dX10_gate_62 : decode cX10_gate 62 = .ok (.iadd, 1) := by decide +kernel
theorem dX10_gate_63 : decode cX10_gate 63 = .ok (.iload_n 2, 1) := by decide +kernel
theorem dX10_gate_64 : decode cX10_gate 64 = .ok (.iadd, 1) := by decide +kernel
theorem dX10_gate_65 : decode cX10_gate 65 = .ok (.iaload, 1) := by decide +kernel
theorem dX10_gate_66 : decode cX10_gate 66 = .ok (.ireturn, 1) := by decide +kernel
theorem dX10_gate_67 : decode cX10_gate 67 = .ok (.aload_n 0, 1) := by decide +kernel
theorem dX10_gate_68 : decode cX10_gate 68 = .ok (.getfield 7, 3) := by decide +kernel
theorem dX10_gate_71 : decode cX10_gate 71 = .ok (.sipush 216, 3) := by decide +kernel
theorem dX10_gate_74 : decode cX10_gate 74 = .ok (.iload_n 1, 1) := by decide +kernel
theorem dX10_gate_75 : decode cX10_gate 75 = .ok (.iadd, 1) := by decide +kernel
theorem dX10_gate_76 : decode cX10_gate 76 = .ok (.iaload, 1) := by decide +kernel
theorem dX10_gate_77 : decode cX10_gate 77 = .ok (.ireturn, 1) := by decide +kernel
theorem dX10_gate_78 : decode cX10_gate 78 = .ok (.aload_n 0, 1) := by decide +kernel
theorem dX10_gate_79 : decode cX10_gate 79 = .ok (.getfield 7, 3) := by decide +kernel
theorem dX10_gate_82 : decode cX10_gate 82 = .ok (.sipush 228, 3) := by decide +kernel
theorem dX10_gate_85 : decode cX10_gate 85 = .ok (.iload_n 1, 1) := by decide +kernel
theorem dX10_gate_86 : decode cX10_gate 86 = .ok (.iadd, 1) := by decide +kernel
theorem dX10_gate_87 : decode cX10_gate 87 = .ok (.iaload, 1) := by decide +kernel
theorem dX10_gate_88 : decode cX10_gate 88 = .ok (.ireturn, 1) := by decide +kernel
theorem dX10_gate_89 : decode cX10_gate 89 = .ok (.aload_n 0, 1) := by decide +kernel
theorem dX10_gate_90 : decode cX10_gate 90 = .ok (.iload_n 1, 1) := by decide +kernel
theorem dX10_gate_91 : decode cX10_gate 91 = .ok (.invokevirtual 211, 3) := by decide +kernel
theorem dX10_gate_94 : decode cX10_gate 94 = .ok (.ireturn, 1) := by decide +kernel
theorem dX10_gate_95 : decode cX10_gate 95 = .ok (.ldc 63, 2) := by decide +kernel
theorem dX10_gate_97 : decode cX10_gate 97 = .ok (.ireturn, 1) := by decide +kernel
set_option maxRecDepth 20000 in
theorem dX10_keepPast_0 : decode cX10_keepPast 0 = .ok (.aload_n 0, 1) := by decide +kernel
theorem dX10_keepPast_1 : decode cX10_keepPast 1 = .ok (.getfield 128, 3) := by decide +kernel
theorem dX10_keepPast_4 : decode cX10_keepPast 4 = .ok (.bipush 12, 2) := by decide +kernel
theorem dX10_keepPast_6 : decode cX10_keepPast 6 = .ok (.if_icmp .ne 26, 3) := by decide +kernel
theorem dX10_keepPast_9 : decode cX10_keepPast 9 = .ok (.aload_n 0, 1) := by decide +kernel
theorem dX10_keepPast_10 : decode cX10_keepPast 10 = .ok (.sipush 525, 3) := by decide +kernel
theorem dX10_keepPast_13 : decode cX10_keepPast 13 = .ok (.sipush 278, 3) := by decide +kernel
theorem dX10_keepPast_16 : decode cX10_keepPast 16 = .ok (.sipush 2717, 3) := by decide +kernel
theorem dX10_keepPast_19 : decode cX10_keepPast 19 = .ok (.invokevirtual 124, 3) := by decide +kernel
theorem dX10_keepPast_22 : decode cX10_keepPast 22 = .ok (.aload_n 0, 1) := by decide +kernel
theorem dX10_keepPast_23 : decode cX10_keepPast 23 = .ok (.dup, 1) := by decide +kernel
theorem dX10_keepPast_24 : decode cX10_keepPast 24 = .ok (.getfield 128, 3) := by decide +kernel
theorem dX10_keepPast_27 : decode cX10_keepPast 27 = .ok (.iconst 1, 1) := by decide +kernel
theorem dX10_keepPast_28 : decode cX10_keepPast 28 = .ok (.isub, 1) := by decide +kernel
theorem dX10_keepPast_29 : decode cX10_keepPast 29 = .ok (.putfield 128, 3) := by decide +kernel
theorem dX10_keepPast_32 : decode cX10_keepPast 32 = .ok (.aload_n 0, 1) := by decide +kernel
theorem dX10_keepPast_33 : decode cX10_keepPast 33 = .ok (.iconst 0, 1) := by decide +kernel
theorem dX10_keepPast_34 : decode cX10_keepPast 34 = .ok (.sipush 278, 3) := by decide +kernel
theorem dX10_keepPast_37 : decode cX10_keepPast 37 = .ok (.sipush 247, 3) := by decide +kernel
theorem dX10_keepPast_40 : decode cX10_keepPast 40 = .ok (.aload_n 0, 1) := by decide +kernel
theorem dX10_keepPast_41 : decode cX10_keepPast 41 = .ok (.getfield 128, 3) := by decide +kernel
theorem dX10_keepPast_44 : decode cX10_keepPast 44 = .ok (.imul, 1) := by decide +kernel
theorem dX10_keepPast_45 : decode cX10_keepPast 45 = .ok (.iadd, 1) := by decide +kernel
theorem dX10_keepPast_46 : decode cX10_keepPast 46 = .ok (.sipush 247, 3) := by decide +kernel
theorem dX10_keepPast_49 : decode cX10_keepPast 49 = .ok (.invokevirtual 124, 3) := by decide +kernel
theorem dX10_keepPast_52 : decode cX10_keepPast 52 = .ok (.aload_n 0, 1) := by decide +kernel
theorem dX10_keepPast_53 : decode cX10_keepPast 53 = .ok (.dup, 1) := by decide +kernel
theorem dX10_keepPast_54 : decode cX10_keepPast 54 = .ok (.getfield 128, 3) := by decide +kernel
theorem dX10_keepPast_57 : decode cX10_keepPast 57 = .ok (.iconst 1, 1) := by decide +kernel
theorem dX10_keepPast_58 : decode cX10_keepPast 58 = .ok (.iadd, 1) := by decide +kernel
theorem dX10_keepPast_59 : decode cX10_keepPast 59 = .ok (.putfield 128, 3) := by decide +kernel
theorem dX10_keepPast_62 : decode cX10_keepPast 62 = .ok (.return_, 1) := by decide +kernel
set_option maxRecDepth 20000 in
theorem dX10_tick_0 : decode cX10_tick 0 = .ok (.iload_n 1, 1) := by decide +kernel
theorem dX10_tick_1 : decode cX10_tick 1 = .ok (.i2l, 1) := by decide +kernel
theorem dX10_tick_2 : decode cX10_tick 2 = .ok (.lconst 1, 1) := by decide +kernel
theorem dX10_tick_3 : decode cX10_tick 3 = .ok (.ldc2_w 214, 3) := by decide +kernel
theorem dX10_tick_6 : decode cX10_tick 6 = .ok (.invokestatic 59, 3) := by decide +kernel
theorem dX10_tick_9 : decode cX10_tick 9 = .ok (.ifCond .ne 6, 3) := by decide +kernel
theorem dX10_tick_12 : decode cX10_tick 12 = .ok (.ldc 63, 2) := by decide +kernel
theorem dX10_tick_14 : decode cX10_tick 14 = .ok (.ireturn, 1) := by decide +kernel
theorem dX10_tick_15 : decode cX10_tick 15 = .ok (.aload_n 0, 1) := by decide +kernel
theorem dX10_tick_16 : decode cX10_tick 16 = .ok (.invokevirtual 187, 3) := by decide +kernel
theorem dX10_tick_19 : decode cX10_tick 19 = .ok (.ifCond .ne 6, 3) := by decide +kernel
theorem dX10_tick_22 : decode cX10_tick 22 = .ok (.ldc 216, 2) := by decide +kernel
theorem dX10_tick_24 : decode cX10_tick 24 = .ok (.ireturn, 1) := by decide +kernel
theorem dX10_tick_25 : decode cX10_tick 25 = .ok (.aload_n 0, 1) := by decide +kernel
theorem dX10_tick_26 : decode cX10_tick 26 = .ok (.getfield 7, 3) := by decide +kernel
theorem dX10_tick_29 : decode cX10_tick 29 = .ok (.sipush 235, 3) := by decide +kernel
theorem dX10_tick_32 : decode cX10_tick 32 = .ok (.iaload, 1) := by decide +kernel
theorem dX10_tick_33 : decode cX10_tick 33 = .ok (.ldc 217, 2) := by decide +kernel
theorem dX10_tick_35 : decode cX10_tick 35 = .ok (.if_icmp .le 6, 3) := by decide +kernel
theorem dX10_tick_38 : decode cX10_tick 38 = .ok (.ldc 67, 2) := by decide +kernel
theorem dX10_tick_40 : decode cX10_tick 40 = .ok (.ireturn, 1) := by decide +kernel
theorem dX10_tick_41 : decode cX10_tick 41 = .ok (.aload_n 0, 1) := by decide +kernel
theorem dX10_tick_42 : decode cX10_tick 42 = .ok (.invokevirtual 218, 3) := by decide +kernel
theorem dX10_tick_45 : decode cX10_tick 45 = .ok (.aload_n 0, 1) := by decide +kernel
theorem dX10_tick_46 : decode cX10_tick 46 = .ok (.iconst 0, 1) := by decide +kernel
theorem dX10_tick_47 : decode cX10_tick 47 = .ok (.iload_n 1, 1) := by decide +kernel
theorem dX10_tick_48 : decode cX10_tick 48 = .ok (.invokevirtual 177, 3) := by decide +kernel
theorem dX10_tick_51 : decode cX10_tick 51 = .ok (.aload_n 0, 1) := by decide +kernel
theorem dX10_tick_52 : decode cX10_tick 52 = .ok (.getfield 7, 3) := by decide +kernel
theorem dX10_tick_55 : decode cX10_tick 55 = .ok (.sipush 235, 3) := by decide +kernel
theorem dX10_tick_58 : decode cX10_tick 58 = .ok (.iaload, 1) := by decide +kernel
theorem dX10_tick_59 : decode cX10_tick 59 = .ok (.ireturn, 1) := by decide +kernel
set_option maxRecDepth 20000 in
theorem dX10_become_0 : decode cX10_become 0 = .ok (.aload_n 0, 1) := by decide +kernel
theorem dX10_become_1 : decode cX10_become 1 = .ok (.getfield 7, 3) := by decide +kernel
theorem dX10_become_4 : decode cX10_become 4 = .ok (.iload_n 1, 1) := by decide +kernel
theorem dX10_become_5 : decode cX10_become 5 = .ok (.iaload, 1) := by decide +kernel
theorem dX10_become_6 : decode cX10_become 6 = .ok (.istore_n 3, 1) := by decide +kernel
theorem dX10_become_7 : decode cX10_become 7 = .ok (.aload_n 0, 1) := by decide +kernel
theorem dX10_become_8 : decode cX10_become 8 = .ok (.invokevirtual 218, 3) := by decide +kernel
theorem dX10_become_11 : decode cX10_become 11 = .ok (.aload_n 0, 1) := by decide +kernel
theorem dX10_become_12 : decode cX10_become 12 = .ok (.getfield 7, 3) := by decide +kernel
theorem dX10_become_15 : decode cX10_become 15 = .ok (.iload_n 1, 1) := by decide +kernel
theorem dX10_become_16 : decode cX10_become 16 = .ok (.iload_n 2, 1) := by decide +kernel
theorem dX10_become_17 : decode cX10_become 17 = .ok (.iastore, 1) := by decide +kernel
theorem dX10_become_18 : decode cX10_become 18 = .ok (.iload_n 3, 1) := by decide +kernel
theorem dX10_become_19 : decode cX10_become 19 = .ok (.ireturn, 1) := by decide +kernel
set_option maxRecDepth 20000 in
theorem dX10_drive_0 : decode cX10_drive 0 = .ok (.aload_n 0, 1) := by decide +kernel
theorem dX10_drive_1 : decode cX10_drive 1 = .ok (.invokevirtual 187, 3) := by decide +kernel
theorem dX10_drive_4 : decode cX10_drive 4 = .ok (.ifCond .eq 22, 3) := by decide +kernel
theorem dX10_drive_7 : decode cX10_drive 7 = .ok (.aload_n 0, 1) := by decide +kernel
theorem dX10_drive_8 : decode cX10_drive 8 = .ok (.sipush 234, 3) := by decide +kernel
theorem dX10_drive_11 : decode cX10_drive 11 = .ok (.iload_n 1, 1) := by decide +kernel
theorem dX10_drive_12 : decode cX10_drive 12 = .ok (.ifCond .eq 7, 3) := by decide +kernel
theorem dX10_drive_15 : decode cX10_drive 15 = .ok (.iconst 1, 1) := by decide +kernel
theorem dX10_drive_16 : decode cX10_drive 16 = .ok (.goto 4, 3) := by decide +kernel
theorem dX10_drive_19 : decode cX10_drive 19 = .ok (.iconst 0, 1) := by decide +kernel
theorem dX10_drive_20 : decode cX10_drive 20 = .ok (.invokevirtual 221, 3) := by decide +kernel
theorem dX10_drive_23 : decode cX10_drive 23 = .ok (.goto 5, 3) := by decide +kernel
theorem dX10_drive_26 : decode cX10_drive 26 = .ok (.ldc 216, 2) := by decide +kernel
theorem dX10_drive_28 : decode cX10_drive 28 = .ok (.ireturn, 1) := by decide +kernel
set_option maxRecDepth 20000 in
theorem dX10_makePlace_0 : decode cX10_makePlace 0 = .ok (.iload_n 1, 1) := by decide +kernel
theorem dX10_makePlace_1 : decode cX10_makePlace 1 = .ok (.i2l, 1) := by decide +kernel
theorem dX10_makePlace_2 : decode cX10_makePlace 2 = .ok (.lconst 1, 1) := by decide +kernel
theorem dX10_makePlace_3 : decode cX10_makePlace 3 = .ok (.ldc2_w 202, 3) := by decide +kernel
theorem dX10_makePlace_6 : decode cX10_makePlace 6 = .ok (.invokestatic 59, 3) := by decide +kernel
theorem dX10_makePlace_9 : decode cX10_makePlace 9 = .ok (.ifCond .ne 6, 3) := by decide +kernel
theorem dX10_makePlace_12 : decode cX10_makePlace 12 = .ok (.ldc 63, 2) := by decide +kernel
theorem dX10_makePlace_14 : decode cX10_makePlace 14 = .ok (.ireturn, 1) := by decide +kernel
theorem dX10_makePlace_15 : decode cX10_makePlace 15 = .ok (.aload_n 0, 1) := by decide +kernel
theorem dX10_makePlace_16 : decode cX10_makePlace 16 = .ok (.iload_n 1, 1) := by decide +kernel
theorem dX10_makePlace_17 : decode cX10_makePlace 17 = .ok (.invokevirtual 205, 3) := by decide +kernel
theorem dX10_makePlace_20 : decode cX10_makePlace 20 = .ok (.ifCond .eq 17, 3) := by decide +kernel
theorem dX10_makePlace_23 : decode cX10_makePlace 23 = .ok (.aload_n 0, 1) := by decide +kernel
theorem dX10_makePlace_24 : decode cX10_makePlace 24 = .ok (.getfield 7, 3) := by decide +kernel
theorem dX10_makePlace_27 : decode cX10_makePlace 27 = .ok (.sipush 144, 3) := by decide +kernel
theorem dX10_makePlace_30 : decode cX10_makePlace 30 = .ok (.iload_n 1, 1) := by decide +kernel
theorem dX10_makePlace_31 : decode cX10_makePlace 31 = .ok (.iadd, 1) := by decide +kernel
theorem dX10_makePlace_32 : decode cX10_makePlace 32 = .ok (.iaload, 1) := by decide +kernel
theorem dX10_makePlace_33 : decode cX10_makePlace 33 = .ok (.iload_n 2, 1) := by decide +kernel
theorem dX10_makePlace_34 : decode cX10_makePlace 34 = .ok (.if_icmp .ne 8, 3) := by decide +kernel
theorem dX10_makePlace_37 : decode cX10_makePlace 37 = .ok (.ldc 216, 2) := by decide +kernel
theorem dX10_makePlace_39 : decode cX10_makePlace 39 = .ok (.goto 13, 3) := by decide +kernel
theorem dX10_makePlace_42 : decode cX10_makePlace 42 = .ok (.aload_n 0, 1) := by decide +kernel
theorem dX10_makePlace_43 : decode cX10_makePlace 43 = .ok (.sipush 144, 3) := by decide +kernel
theorem dX10_makePlace_46 : decode cX10_makePlace 46 = .ok (.iload_n 1, 1) := by decide +kernel
theorem dX10_makePlace_47 : decode cX10_makePlace 47 = .ok (.iadd, 1) := by decide +kernel
theorem dX10_makePlace_48 : decode cX10_makePlace 48 = .ok (.iload_n 2, 1) := by decide +kernel
theorem dX10_makePlace_49 : decode cX10_makePlace 49 = .ok (.invokevirtual 221, 3) := by decide +kernel
theorem dX10_makePlace_52 : decode cX10_makePlace 52 = .ok (.ireturn, 1) := by decide +kernel
set_option maxRecDepth 20000 in
theorem dX10_cut_0 : decode cX10_cut 0 = .ok (.aload_n 0, 1) := by decide +kernel
theorem dX10_cut_1 : decode cX10_cut 1 = .ok (.iload_n 1, 1) := by decide +kernel
theorem dX10_cut_2 : decode cX10_cut 2 = .ok (.iconst 1, 1) := by decide +kernel
theorem dX10_cut_3 : decode cX10_cut 3 = .ok (.invokevirtual 224, 3) := by decide +kernel
theorem dX10_cut_6 : decode cX10_cut 6 = .ok (.ireturn, 1) := by decide +kernel
set_option maxRecDepth 20000 in
theorem dX10_brief_0 : decode cX10_brief 0 = .ok (.aload_n 0, 1) := by decide +kernel
theorem dX10_brief_1 : decode cX10_brief 1 = .ok (.iload_n 1, 1) := by decide +kernel
theorem dX10_brief_2 : decode cX10_brief 2 = .ok (.iconst 2, 1) := by decide +kernel
theorem dX10_brief_3 : decode cX10_brief 3 = .ok (.invokevirtual 224, 3) := by decide +kernel
theorem dX10_brief_6 : decode cX10_brief 6 = .ok (.ireturn, 1) := by decide +kernel
set_option maxRecDepth 20000 in
theorem dX10_mend_0 : decode cX10_mend 0 = .ok (.aload_n 0, 1) := by decide +kernel
theorem dX10_mend_1 : decode cX10_mend 1 = .ok (.iload_n 1, 1) := by decide +kernel
theorem dX10_mend_2 : decode cX10_mend 2 = .ok (.iconst 0, 1) := by decide +kernel
theorem dX10_mend_3 : decode cX10_mend 3 = .ok (.invokevirtual 224, 3) := by decide +kernel
theorem dX10_mend_6 : decode cX10_mend 6 = .ok (.ireturn, 1) := by decide +kernel
set_option maxRecDepth 20000 in
theorem dX10_piece_0 : decode cX10_piece 0 = .ok (.aload_n 0, 1) := by decide +kernel
theorem dX10_piece_1 : decode cX10_piece 1 = .ok (.iload_n 1, 1) := by decide +kernel
theorem dX10_piece_2 : decode cX10_piece 2 = .ok (.invokevirtual 196, 3) := by decide +kernel
theorem dX10_piece_5 : decode cX10_piece 5 = .ok (.ifCond .ne 8, 3) := by decide +kernel
theorem dX10_piece_8 : decode cX10_piece 8 = .ok (.ldc 199, 2) := by decide +kernel
theorem dX10_piece_10 : decode cX10_piece 10 = .ok (.goto 30, 3) := by decide +kernel
theorem dX10_piece_13 : decode cX10_piece 13 = .ok (.iload_n 2, 1) := by decide +kernel
theorem dX10_piece_14 : decode cX10_piece 14 = .ok (.i2l, 1) := by decide +kernel
theorem dX10_piece_15 : decode cX10_piece 15 = .ok (.lconst 1, 1) := by decide +kernel
theorem dX10_piece_16 : decode cX10_piece 16 = .ok (.ldc2_w 227, 3) := by decide +kernel
theorem dX10_piece_19 : decode cX10_piece 19 = .ok (.invokestatic 59, 3) := by decide +kernel
theorem dX10_piece_22 : decode cX10_piece 22 = .ok (.ifCond .ne 8, 3) := by decide +kernel
theorem dX10_piece_25 : decode cX10_piece 25 = .ok (.ldc 63, 2) := by decide +kernel
theorem dX10_piece_27 : decode cX10_piece 27 = .ok (.goto 13, 3) := by decide +kernel
theorem dX10_piece_30 : decode cX10_piece 30 = .ok (.aload_n 0, 1) := by decide +kernel
theorem dX10_piece_31 : decode cX10_piece 31 = .ok (.sipush 236, 3) := by decide +kernel
theorem dX10_piece_34 : decode cX10_piece 34 = .ok (.iload_n 1, 1) := by decide +kernel
theorem dX10_piece_35 : decode cX10_piece 35 = .ok (.iadd, 1) := by decide +kernel
theorem dX10_piece_36 : decode cX10_piece 36 = .ok (.iload_n 2, 1) := by decide +kernel
theorem dX10_piece_37 : decode cX10_piece 37 = .ok (.invokevirtual 221, 3) := by decide +kernel
theorem dX10_piece_40 : decode cX10_piece 40 = .ok (.ireturn, 1) := by decide +kernel
set_option maxRecDepth 20000 in
theorem dX10_end_0 : decode cX10_end 0 = .ok (.iload_n 1, 1) := by decide +kernel
theorem dX10_end_1 : decode cX10_end 1 = .ok (.i2l, 1) := by decide +kernel
theorem dX10_end_2 : decode cX10_end 2 = .ok (.lconst 0, 1) := by decide +kernel
theorem dX10_end_3 : decode cX10_end 3 = .ok (.ldc2_w 200, 3) := by decide +kernel
theorem dX10_end_6 : decode cX10_end 6 = .ok (.invokestatic 59, 3) := by decide +kernel
theorem dX10_end_9 : decode cX10_end 9 = .ok (.ifCond .eq 15, 3) := by decide +kernel
theorem dX10_end_12 : decode cX10_end 12 = .ok (.iload_n 2, 1) := by decide +kernel
theorem dX10_end_13 : decode cX10_end 13 = .ok (.i2l, 1) := by decide +kernel
theorem dX10_end_14 : decode cX10_end 14 = .ok (.lconst 1, 1) := by decide +kernel
theorem dX10_end_15 : decode cX10_end 15 = .ok (.ldc2_w 227, 3) := by decide +kernel
theorem dX10_end_18 : decode cX10_end 18 = .ok (.invokestatic 59, 3) := by decide +kernel
theorem dX10_end_21 : decode cX10_end 21 = .ok (.ifCond .ne 6, 3) := by decide +kernel
theorem dX10_end_24 : decode cX10_end 24 = .ok (.ldc 63, 2) := by decide +kernel
theorem dX10_end_26 : decode cX10_end 26 = .ok (.ireturn, 1) := by decide +kernel
theorem dX10_end_27 : decode cX10_end 27 = .ok (.aload_n 0, 1) := by decide +kernel
theorem dX10_end_28 : decode cX10_end 28 = .ok (.invokevirtual 187, 3) := by decide +kernel
theorem dX10_end_31 : decode cX10_end 31 = .ok (.ifCond .ne 6, 3) := by decide +kernel
theorem dX10_end_34 : decode cX10_end 34 = .ok (.ldc 216, 2) := by decide +kernel
theorem dX10_end_36 : decode cX10_end 36 = .ok (.ireturn, 1) := by decide +kernel
theorem dX10_end_37 : decode cX10_end 37 = .ok (.aload_n 0, 1) := by decide +kernel
theorem dX10_end_38 : decode cX10_end 38 = .ok (.sipush 244, 3) := by decide +kernel
theorem dX10_end_41 : decode cX10_end 41 = .ok (.iload_n 1, 1) := by decide +kernel
theorem dX10_end_42 : decode cX10_end 42 = .ok (.invokevirtual 221, 3) := by decide +kernel
theorem dX10_end_45 : decode cX10_end 45 = .ok (.istore_n 3, 1) := by decide +kernel
theorem dX10_end_46 : decode cX10_end 46 = .ok (.aload_n 0, 1) := by decide +kernel
theorem dX10_end_47 : decode cX10_end 47 = .ok (.getfield 7, 3) := by decide +kernel
theorem dX10_end_50 : decode cX10_end 50 = .ok (.sipush 245, 3) := by decide +kernel
theorem dX10_end_53 : decode cX10_end 53 = .ok (.iload_n 2, 1) := by decide +kernel
theorem dX10_end_54 : decode cX10_end 54 = .ok (.iastore, 1) := by decide +kernel
theorem dX10_end_55 : decode cX10_end 55 = .ok (.iload_n 3, 1) := by decide +kernel
theorem dX10_end_56 : decode cX10_end 56 = .ok (.ireturn, 1) := by decide +kernel
set_option maxRecDepth 20000 in
theorem dX10_ohms_0 : decode cX10_ohms 0 = .ok (.iload_n 1, 1) := by decide +kernel
theorem dX10_ohms_1 : decode cX10_ohms 1 = .ok (.i2l, 1) := by decide +kernel
theorem dX10_ohms_2 : decode cX10_ohms 2 = .ok (.lconst 0, 1) := by decide +kernel
theorem dX10_ohms_3 : decode cX10_ohms 3 = .ok (.ldc2_w 227, 3) := by decide +kernel
theorem dX10_ohms_6 : decode cX10_ohms 6 = .ok (.invokestatic 59, 3) := by decide +kernel
theorem dX10_ohms_9 : decode cX10_ohms 9 = .ok (.ifCond .ne 8, 3) := by decide +kernel
theorem dX10_ohms_12 : decode cX10_ohms 12 = .ok (.ldc 63, 2) := by decide +kernel
theorem dX10_ohms_14 : decode cX10_ohms 14 = .ok (.goto 23, 3) := by decide +kernel
theorem dX10_ohms_17 : decode cX10_ohms 17 = .ok (.aload_n 0, 1) := by decide +kernel
theorem dX10_ohms_18 : decode cX10_ohms 18 = .ok (.invokevirtual 187, 3) := by decide +kernel
theorem dX10_ohms_21 : decode cX10_ohms 21 = .ok (.ifCond .eq 14, 3) := by decide +kernel
theorem dX10_ohms_24 : decode cX10_ohms 24 = .ok (.aload_n 0, 1) := by decide +kernel
theorem dX10_ohms_25 : decode cX10_ohms 25 = .ok (.sipush 246, 3) := by decide +kernel
theorem dX10_ohms_28 : decode cX10_ohms 28 = .ok (.iload_n 1, 1) := by decide +kernel
theorem dX10_ohms_29 : decode cX10_ohms 29 = .ok (.invokevirtual 221, 3) := by decide +kernel
theorem dX10_ohms_32 : decode cX10_ohms 32 = .ok (.goto 5, 3) := by decide +kernel
theorem dX10_ohms_35 : decode cX10_ohms 35 = .ok (.ldc 216, 2) := by decide +kernel
theorem dX10_ohms_37 : decode cX10_ohms 37 = .ok (.ireturn, 1) := by decide +kernel
set_option maxRecDepth 20000 in
theorem dX10_quiet_0 : decode cX10_quiet 0 = .ok (.aload_n 0, 1) := by decide +kernel
theorem dX10_quiet_1 : decode cX10_quiet 1 = .ok (.invokevirtual 187, 3) := by decide +kernel
theorem dX10_quiet_4 : decode cX10_quiet 4 = .ok (.ifCond .ne 6, 3) := by decide +kernel
theorem dX10_quiet_7 : decode cX10_quiet 7 = .ok (.ldc 216, 2) := by decide +kernel
theorem dX10_quiet_9 : decode cX10_quiet 9 = .ok (.ireturn, 1) := by decide +kernel
theorem dX10_quiet_10 : decode cX10_quiet 10 = .ok (.aload_n 0, 1) := by decide +kernel
theorem dX10_quiet_11 : decode cX10_quiet 11 = .ok (.invokevirtual 218, 3) := by decide +kernel
theorem dX10_quiet_14 : decode cX10_quiet 14 = .ok (.aload_n 0, 1) := by decide +kernel
theorem dX10_quiet_15 : decode cX10_quiet 15 = .ok (.iconst 0, 1) := by decide +kernel
theorem dX10_quiet_16 : decode cX10_quiet 16 = .ok (.invokevirtual 229, 3) := by decide +kernel
theorem dX10_quiet_19 : decode cX10_quiet 19 = .ok (.istore_n 1, 1) := by decide +kernel
theorem dX10_quiet_20 : decode cX10_quiet 20 = .ok (.aload_n 0, 1) := by decide +kernel
theorem dX10_quiet_21 : decode cX10_quiet 21 = .ok (.iconst 0, 1) := by decide +kernel
theorem dX10_quiet_22 : decode cX10_quiet 22 = .ok (.invokevirtual 171, 3) := by decide +kernel
theorem dX10_quiet_25 : decode cX10_quiet 25 = .ok (.iload_n 1, 1) := by decide +kernel
theorem dX10_quiet_26 : decode cX10_quiet 26 = .ok (.ireturn, 1) := by decide +kernel
theorem dX10_draw_0 : decode cX10_draw 0 = .ok (.aload_n 0, 1) := by decide +kernel
theorem dX10_draw_1 : decode cX10_draw 1 = .ok (.aload_n 0, 1) := by decide +kernel
theorem dX10_draw_2 : decode cX10_draw 2 = .ok (.getfield 232, 3) := by decide +kernel
theorem dX10_draw_5 : decode cX10_draw 5 = .ok (.i2l, 1) := by decide +kernel
theorem dX10_draw_6 : decode cX10_draw 6 = .ok (.ldc2_w 235, 3) := by decide +kernel
theorem dX10_draw_9 : decode cX10_draw 9 = .ok (.lmul, 1) := by decide +kernel
theorem dX10_draw_10 : decode cX10_draw 10 = .ok (.ldc2_w 237, 3) := by decide +kernel
theorem dX10_draw_13 : decode cX10_draw 13 = .ok (.ladd, 1) := by decide +kernel
theorem dX10_draw_14 : decode cX10_draw 14 = .ok (.ldc2_w 239, 3) := by decide +kernel
theorem dX10_draw_17 : decode cX10_draw 17 = .ok (.land, 1) := by decide +kernel
theorem dX10_draw_18 : decode cX10_draw 18 = .ok (.l2i, 1) := by decide +kernel
theorem dX10_draw_19 : decode cX10_draw 19 = .ok (.putfield 232, 3) := by decide +kernel
theorem dX10_draw_22 : decode cX10_draw 22 = .ok (.aload_n 0, 1) := by decide +kernel
theorem dX10_draw_23 : decode cX10_draw 23 = .ok (.getfield 232, 3) := by decide +kernel
theorem dX10_draw_26 : decode cX10_draw 26 = .ok (.ldc 241, 2) := by decide +kernel
theorem dX10_draw_28 : decode cX10_draw 28 = .ok (.idiv, 1) := by decide +kernel
theorem dX10_draw_29 : decode cX10_draw 29 = .ok (.iload_n 1, 1) := by decide +kernel
theorem dX10_draw_30 : decode cX10_draw 30 = .ok (.irem, 1) := by decide +kernel
theorem dX10_draw_31 : decode cX10_draw 31 = .ok (.ireturn, 1) := by decide +kernel
set_option maxRecDepth 20000 in
theorem dX10_drifts_0 : decode cX10_drifts 0 = .ok (.aload_n 0, 1) := by decide +kernel
theorem dX10_drifts_1 : decode cX10_drifts 1 = .ok (.bipush 8, 2) := by decide +kernel
theorem dX10_drifts_3 : decode cX10_drifts 3 = .ok (.invokevirtual 242, 3) := by decide +kernel
theorem dX10_drifts_6 : decode cX10_drifts 6 = .ok (.istore_n 1, 1) := by decide +kernel
theorem dX10_drifts_7 : decode cX10_drifts 7 = .ok (.aload_n 0, 1) := by decide +kernel
theorem dX10_drifts_8 : decode cX10_drifts 8 = .ok (.getfield 7, 3) := by decide +kernel
theorem dX10_drifts_11 : decode cX10_drifts 11 = .ok (.sipush 234, 3) := by decide +kernel
theorem dX10_drifts_14 : decode cX10_drifts 14 = .ok (.iload_n 1, 1) := by decide +kernel
theorem dX10_drifts_15 : decode cX10_drifts 15 = .ok (.iconst 2, 1) := by decide +kernel
theorem dX10_drifts_16 : decode cX10_drifts 16 = .ok (.if_icmp .ge 7, 3) := by decide +kernel
theorem dX10_drifts_19 : decode cX10_drifts 19 = .ok (.iconst 1, 1) := by decide +kernel
theorem dX10_drifts_20 : decode cX10_drifts 20 = .ok (.goto 20, 3) := by decide +kernel
theorem dX10_drifts_23 : decode cX10_drifts 23 = .ok (.iload_n 1, 1) := by decide +kernel
theorem dX10_drifts_24 : decode cX10_drifts 24 = .ok (.iconst 2, 1) := by decide +kernel
theorem dX10_drifts_25 : decode cX10_drifts 25 = .ok (.if_icmp .ne 7, 3) := by decide +kernel
theorem dX10_drifts_28 : decode cX10_drifts 28 = .ok (.iconst 0, 1) := by decide +kernel
theorem dX10_drifts_29 : decode cX10_drifts 29 = .ok (.goto 11, 3) := by decide +kernel
theorem dX10_drifts_32 : decode cX10_drifts 32 = .ok (.aload_n 0, 1) := by decide +kernel
theorem dX10_drifts_33 : decode cX10_drifts 33 = .ok (.getfield 7, 3) := by decide +kernel
theorem dX10_drifts_36 : decode cX10_drifts 36 = .ok (.sipush 234, 3) := by decide +kernel
theorem dX10_drifts_39 : decode cX10_drifts 39 = .ok (.iaload, 1) := by decide +kernel
theorem dX10_drifts_40 : decode cX10_drifts 40 = .ok (.iastore, 1) := by decide +kernel
theorem dX10_drifts_41 : decode cX10_drifts 41 = .ok (.iload_n 1, 1) := by decide +kernel
theorem dX10_drifts_42 : decode cX10_drifts 42 = .ok (.iconst 3, 1) := by decide +kernel
theorem dX10_drifts_43 : decode cX10_drifts 43 = .ok (.if_icmp .ne 60, 3) := by decide +kernel
theorem dX10_drifts_46 : decode cX10_drifts 46 = .ok (.aload_n 0, 1) := by decide +kernel
theorem dX10_drifts_47 : decode cX10_drifts 47 = .ok (.getfield 7, 3) := by decide +kernel
theorem dX10_drifts_50 : decode cX10_drifts 50 = .ok (.sipush 258, 3) := by decide +kernel
theorem dX10_drifts_53 : decode cX10_drifts 53 = .ok (.iaload, 1) := by decide +kernel
theorem dX10_drifts_54 : decode cX10_drifts 54 = .ok (.iconst 1, 1) := by decide +kernel
theorem dX10_drifts_55 : decode cX10_drifts 55 = .ok (.if_icmp .le 48, 3) := by decide +kernel
theorem dX10_drifts_58 : decode cX10_drifts 58 = .ok (.iconst 1, 1) := by decide +kernel
theorem dX10_drifts_59 : decode cX10_drifts 59 = .ok (.aload_n 0, 1) := by decide +kernel
theorem dX10_drifts_60 : decode cX10_drifts 60 = .ok (.aload_n 0, 1) := by decide +kernel
theorem dX10_drifts_61 : decode cX10_drifts 61 = .ok (.getfield 7, 3) := by decide +kernel
theorem dX10_drifts_64 : decode cX10_drifts 64 = .ok (.sipush 258, 3) := by decide +kernel
theorem dX10_drifts_67 : decode cX10_drifts 67 = .ok (.iaload, 1) := by decide +kernel
theorem dX10_drifts_68 : decode cX10_drifts 68 = .ok (.iconst 1, 1) := by decide +kernel
theorem dX10_drifts_69 : decode cX10_drifts 69 = .ok (.isub, 1) := by decide +kernel
theorem dX10_drifts_70 : decode cX10_drifts 70 = .ok (.invokevirtual 242, 3) := by decide +kernel
theorem dX10_drifts_73 : decode cX10_drifts 73 = .ok (.iadd, 1) := by decide +kernel
theorem dX10_drifts_74 : decode cX10_drifts 74 = .ok (.istore_n 2, 1) := by decide +kernel
theorem dX10_drifts_75 : decode cX10_drifts 75 = .ok (.aload_n 0, 1) := by decide +kernel
theorem dX10_drifts_76 : decode cX10_drifts 76 = .ok (.getfield 7, 3) := by decide +kernel
theorem dX10_drifts_79 : decode cX10_drifts 79 = .ok (.sipush 144, 3) := by decide +kernel
theorem dX10_drifts_82 : decode cX10_drifts 82 = .ok (.iload_n 2, 1) := by decide +kernel
theorem dX10_drifts_83 : decode cX10_drifts 83 = .ok (.iadd, 1) := by decide +kernel
theorem dX10_drifts_84 : decode cX10_drifts 84 = .ok (.aload_n 0, 1) := by decide +kernel
theorem dX10_drifts_85 : decode cX10_drifts 85 = .ok (.getfield 7, 3) := by decide +kernel
theorem dX10_drifts_88 : decode cX10_drifts 88 = .ok (.sipush 144, 3) := by decide +kernel
theorem dX10_drifts_91 : decode cX10_drifts 91 = .ok (.iload_n 2, 1) := by decide +kernel
theorem dX10_drifts_92 : decode cX10_drifts 92 = .ok (.iadd, 1) := by decide +kernel
theorem dX10_drifts_93 : decode cX10_drifts 93 = .ok (.iaload, 1) := by decide +kernel
theorem dX10_drifts_94 : decode cX10_drifts 94 = .ok (.ifCond .ne 7, 3) := by decide +kernel
theorem dX10_drifts_97 : decode cX10_drifts 97 = .ok (.iconst 1, 1) := by decide +kernel
theorem dX10_drifts_98 : decode cX10_drifts 98 = .ok (.goto 4, 3) := by decide +kernel
theorem dX10_drifts_101 : decode cX10_drifts 101 = .ok (.iconst 0, 1) := by decide +kernel
theorem dX10_drifts_102 : decode cX10_drifts 102 = .ok (.iastore, 1) := by decide +kernel
theorem dX10_drifts_103 : decode cX10_drifts 103 = .ok (.aload_n 0, 1) := by decide +kernel
theorem dX10_drifts_104 : decode cX10_drifts 104 = .ok (.iconst 0, 1) := by decide +kernel
theorem dX10_drifts_105 : decode cX10_drifts 105 = .ok (.iconst 1, 1) := by decide +kernel
theorem dX10_drifts_106 : decode cX10_drifts 106 = .ok (.invokevirtual 177, 3) := by decide +kernel
theorem dX10_drifts_109 : decode cX10_drifts 109 = .ok (.return_, 1) := by decide +kernel
set_option maxRecDepth 20000 in
theorem dX10_drift_0 : decode cX10_drift 0 = .ok (.iload_n 1, 1) := by decide +kernel
theorem dX10_drift_1 : decode cX10_drift 1 = .ok (.i2l, 1) := by decide +kernel
theorem dX10_drift_2 : decode cX10_drift 2 = .ok (.lconst 1, 1) := by decide +kernel
theorem dX10_drift_3 : decode cX10_drift 3 = .ok (.ldc2_w 214, 3) := by decide +kernel
theorem dX10_drift_6 : decode cX10_drift 6 = .ok (.invokestatic 59, 3) := by decide +kernel
theorem dX10_drift_9 : decode cX10_drift 9 = .ok (.ifCond .ne 6, 3) := by decide +kernel
theorem dX10_drift_12 : decode cX10_drift 12 = .ok (.ldc 63, 2) := by decide +kernel
theorem dX10_drift_14 : decode cX10_drift 14 = .ok (.ireturn, 1) := by decide +kernel
theorem dX10_drift_15 : decode cX10_drift 15 = .ok (.aload_n 0, 1) := by decide +kernel
theorem dX10_drift_16 : decode cX10_drift 16 = .ok (.invokevirtual 187, 3) := by decide +kernel
theorem dX10_drift_19 : decode cX10_drift 19 = .ok (.ifCond .ne 6, 3) := by decide +kernel
theorem dX10_drift_22 : decode cX10_drift 22 = .ok (.ldc 216, 2) := by decide +kernel
theorem dX10_drift_24 : decode cX10_drift 24 = .ok (.ireturn, 1) := by decide +kernel
theorem dX10_drift_25 : decode cX10_drift 25 = .ok (.aload_n 0, 1) := by decide +kernel
theorem dX10_drift_26 : decode cX10_drift 26 = .ok (.getfield 7, 3) := by decide +kernel
theorem dX10_drift_29 : decode cX10_drift 29 = .ok (.sipush 235, 3) := by decide +kernel
theorem dX10_drift_32 : decode cX10_drift 32 = .ok (.iaload, 1) := by decide +kernel
theorem dX10_drift_33 : decode cX10_drift 33 = .ok (.ldc 217, 2) := by decide +kernel
theorem dX10_drift_35 : decode cX10_drift 35 = .ok (.if_icmp .le 6, 3) := by decide +kernel
theorem dX10_drift_38 : decode cX10_drift 38 = .ok (.ldc 67, 2) := by decide +kernel
theorem dX10_drift_40 : decode cX10_drift 40 = .ok (.ireturn, 1) := by decide +kernel
theorem dX10_drift_41 : decode cX10_drift 41 = .ok (.aload_n 0, 1) := by decide +kernel
theorem dX10_drift_42 : decode cX10_drift 42 = .ok (.invokevirtual 218, 3) := by decide +kernel
theorem dX10_drift_45 : decode cX10_drift 45 = .ok (.iconst 0, 1) := by decide +kernel
theorem dX10_drift_46 : decode cX10_drift 46 = .ok (.istore_n 2, 1) := by decide +kernel
theorem dX10_drift_47 : decode cX10_drift 47 = .ok (.iload_n 2, 1) := by decide +kernel
theorem dX10_drift_48 : decode cX10_drift 48 = .ok (.iload_n 1, 1) := by decide +kernel
theorem dX10_drift_49 : decode cX10_drift 49 = .ok (.if_icmp .ge 13, 3) := by decide +kernel
theorem dX10_drift_52 : decode cX10_drift 52 = .ok (.aload_n 0, 1) := by decide +kernel
theorem dX10_drift_53 : decode cX10_drift 53 = .ok (.invokevirtual 245, 3) := by decide +kernel
theorem dX10_drift_56 : decode cX10_drift 56 = .ok (.iinc 2 1, 3) := by decide +kernel
theorem dX10_drift_59 : decode cX10_drift 59 = .ok (.goto (-12), 3) := by decide +kernel
theorem dX10_drift_62 : decode cX10_drift 62 = .ok (.aload_n 0, 1) := by decide +kernel
theorem dX10_drift_63 : decode cX10_drift 63 = .ok (.getfield 7, 3) := by decide +kernel
theorem dX10_drift_66 : decode cX10_drift 66 = .ok (.sipush 235, 3) := by decide +kernel
theorem dX10_drift_69 : decode cX10_drift 69 = .ok (.iaload, 1) := by decide +kernel
theorem dX10_drift_70 : decode cX10_drift 70 = .ok (.ireturn, 1) := by decide +kernel
set_option maxRecDepth 20000 in
theorem dX10_undo_0 : decode cX10_undo 0 = .ok (.iload_n 1, 1) := by decide +kernel
theorem dX10_undo_1 : decode cX10_undo 1 = .ok (.i2l, 1) := by decide +kernel
theorem dX10_undo_2 : decode cX10_undo 2 = .ok (.lconst 1, 1) := by decide +kernel
theorem dX10_undo_3 : decode cX10_undo 3 = .ok (.ldc2_w 248, 3) := by decide +kernel
theorem dX10_undo_6 : decode cX10_undo 6 = .ok (.invokestatic 59, 3) := by decide +kernel
theorem dX10_undo_9 : decode cX10_undo 9 = .ok (.ifCond .ne 6, 3) := by decide +kernel
theorem dX10_undo_12 : decode cX10_undo 12 = .ok (.ldc 63, 2) := by decide +kernel
theorem dX10_undo_14 : decode cX10_undo 14 = .ok (.ireturn, 1) := by decide +kernel
theorem dX10_undo_15 : decode cX10_undo 15 = .ok (.iload_n 1, 1) := by decide +kernel
theorem dX10_undo_16 : decode cX10_undo 16 = .ok (.aload_n 0, 1) := by decide +kernel
theorem dX10_undo_17 : decode cX10_undo 17 = .ok (.getfield 128, 3) := by decide +kernel
theorem dX10_undo_20 : decode cX10_undo 20 = .ok (.if_icmp .le 6, 3) := by decide +kernel
theorem dX10_undo_23 : decode cX10_undo 23 = .ok (.ldc 216, 2) := by decide +kernel
theorem dX10_undo_25 : decode cX10_undo 25 = .ok (.ireturn, 1) := by decide +kernel
theorem dX10_undo_26 : decode cX10_undo 26 = .ok (.aload_n 0, 1) := by decide +kernel
theorem dX10_undo_27 : decode cX10_undo 27 = .ok (.dup, 1) := by decide +kernel
theorem dX10_undo_28 : decode cX10_undo 28 = .ok (.getfield 128, 3) := by decide +kernel
theorem dX10_undo_31 : decode cX10_undo 31 = .ok (.iload_n 1, 1) := by decide +kernel
theorem dX10_undo_32 : decode cX10_undo 32 = .ok (.isub, 1) := by decide +kernel
theorem dX10_undo_33 : decode cX10_undo 33 = .ok (.putfield 128, 3) := by decide +kernel
theorem dX10_undo_36 : decode cX10_undo 36 = .ok (.aload_n 0, 1) := by decide +kernel
theorem dX10_undo_37 : decode cX10_undo 37 = .ok (.sipush 278, 3) := by decide +kernel
theorem dX10_undo_40 : decode cX10_undo 40 = .ok (.sipush 247, 3) := by decide +kernel
theorem dX10_undo_43 : decode cX10_undo 43 = .ok (.aload_n 0, 1) := by decide +kernel
theorem dX10_undo_44 : decode cX10_undo 44 = .ok (.getfield 128, 3) := by decide +kernel
theorem dX10_undo_47 : decode cX10_undo 47 = .ok (.imul, 1) := by decide +kernel
theorem dX10_undo_48 : decode cX10_undo 48 = .ok (.iadd, 1) := by decide +kernel
theorem dX10_undo_49 : decode cX10_undo 49 = .ok (.iconst 0, 1) := by decide +kernel
theorem dX10_undo_50 : decode cX10_undo 50 = .ok (.sipush 247, 3) := by decide +kernel
theorem dX10_undo_53 : decode cX10_undo 53 = .ok (.invokevirtual 124, 3) := by decide +kernel
theorem dX10_undo_56 : decode cX10_undo 56 = .ok (.aload_n 0, 1) := by decide +kernel
theorem dX10_undo_57 : decode cX10_undo 57 = .ok (.getfield 7, 3) := by decide +kernel
theorem dX10_undo_60 : decode cX10_undo 60 = .ok (.sipush 235, 3) := by decide +kernel
theorem dX10_undo_63 : decode cX10_undo 63 = .ok (.iaload, 1) := by decide +kernel
theorem dX10_undo_64 : decode cX10_undo 64 = .ok (.ireturn, 1) := by decide +kernel
set_option maxRecDepth 20000 in
theorem dX10_volts_0 : decode cX10_volts 0 = .ok (.iload_n 1, 1) := by decide +kernel
theorem dX10_volts_1 : decode cX10_volts 1 = .ok (.i2l, 1) := by decide +kernel
theorem dX10_volts_2 : decode cX10_volts 2 = .ok (.lconst 0, 1) := by decide +kernel
theorem dX10_volts_3 : decode cX10_volts 3 = .ok (.ldc2_w 202, 3) := by decide +kernel
theorem dX10_volts_6 : decode cX10_volts 6 = .ok (.invokestatic 59, 3) := by decide +kernel
theorem dX10_volts_9 : decode cX10_volts 9 = .ok (.ifCond .eq 27, 3) := by decide +kernel
theorem dX10_volts_12 : decode cX10_volts 12 = .ok (.iload_n 2, 1) := by decide +kernel
theorem dX10_volts_13 : decode cX10_volts 13 = .ok (.i2l, 1) := by decide +kernel
theorem dX10_volts_14 : decode cX10_volts 14 = .ok (.lconst 0, 1) := by decide +kernel
theorem dX10_volts_15 : decode cX10_volts 15 = .ok (.ldc2_w 250, 3) := by decide +kernel
theorem dX10_volts_18 : decode cX10_volts 18 = .ok (.invokestatic 59, 3) := by decide +kernel
theorem dX10_volts_21 : decode cX10_volts 21 = .ok (.ifCond .eq 15, 3) := by decide +kernel
theorem dX10_volts_24 : decode cX10_volts 24 = .ok (.iload_n 3, 1) := by decide +kernel
theorem dX10_volts_25 : decode cX10_volts 25 = .ok (.i2l, 1) := by decide +kernel
theorem dX10_volts_26 : decode cX10_volts 26 = .ok (.lconst 0, 1) := by decide +kernel
theorem dX10_volts_27 : decode cX10_volts 27 = .ok (.ldc2_w 200, 3) := by decide +kernel
theorem dX10_volts_30 : decode cX10_volts 30 = .ok (.invokestatic 59, 3) := by decide +kernel
theorem dX10_volts_33 : decode cX10_volts 33 = .ok (.ifCond .ne 6, 3) := by decide +kernel
theorem dX10_volts_36 : decode cX10_volts 36 = .ok (.ldc 63, 2) := by decide +kernel
theorem dX10_volts_38 : decode cX10_volts 38 = .ok (.ireturn, 1) := by decide +kernel
theorem dX10_volts_39 : decode cX10_volts 39 = .ok (.aload_n 0, 1) := by decide +kernel
theorem dX10_volts_40 : decode cX10_volts 40 = .ok (.iconst 0, 1) := by decide +kernel
theorem dX10_volts_41 : decode cX10_volts 41 = .ok (.sipush 3736, 3) := by decide +kernel
theorem dX10_volts_44 : decode cX10_volts 44 = .ok (.sipush 247, 3) := by decide +kernel
theorem dX10_volts_47 : decode cX10_volts 47 = .ok (.invokevirtual 124, 3) := by decide +kernel
theorem dX10_volts_50 : decode cX10_volts 50 = .ok (.aload_n 0, 1) := by decide +kernel
theorem dX10_volts_51 : decode cX10_volts 51 = .ok (.sipush 3736, 3) := by decide +kernel
theorem dX10_volts_54 : decode cX10_volts 54 = .ok (.iload_n 1, 1) := by decide +kernel
theorem dX10_volts_55 : decode cX10_volts 55 = .ok (.invokevirtual 150, 3) := by decide +kernel
theorem dX10_volts_58 : decode cX10_volts 58 = .ok (.istore 4, 2) := by decide +kernel
theorem dX10_volts_60 : decode cX10_volts 60 = .ok (.iload 4, 2) := by decide +kernel
theorem dX10_volts_62 : decode cX10_volts 62 = .ok (.istore 5, 2) := by decide +kernel
theorem dX10_volts_64 : decode cX10_volts 64 = .ok (.iload 4, 2) := by decide +kernel
theorem dX10_volts_66 : decode cX10_volts 66 = .ok (.istore 6, 2) := by decide +kernel
theorem dX10_volts_68 : decode cX10_volts 68 = .ok (.iconst 0, 1) := by decide +kernel
theorem dX10_volts_69 : decode cX10_volts 69 = .ok (.istore 7, 2) := by decide +kernel
theorem dX10_volts_71 : decode cX10_volts 71 = .ok (.iload 7, 2) := by decide +kernel
theorem dX10_volts_73 : decode cX10_volts 73 = .ok (.iload_n 2, 1) := by decide +kernel
theorem dX10_volts_74 : decode cX10_volts 74 = .ok (.if_icmp .ge 59, 3) := by decide +kernel
theorem dX10_volts_77 : decode cX10_volts 77 = .ok (.aload_n 0, 1) := by decide +kernel
theorem dX10_volts_78 : decode cX10_volts 78 = .ok (.sipush 3736, 3) := by decide +kernel
theorem dX10_volts_81 : decode cX10_volts 81 = .ok (.iconst 1, 1) := by decide +kernel
theorem dX10_volts_82 : decode cX10_volts 82 = .ok (.invokevirtual 177, 3) := by decide +kernel
theorem dX10_volts_85 : decode cX10_volts 85 = .ok (.aload_n 0, 1) := by decide +kernel
theorem dX10_volts_86 : decode cX10_volts 86 = .ok (.sipush 3736, 3) := by decide +kernel
theorem dX10_volts_89 : decode cX10_volts 89 = .ok (.iload_n 1, 1) := by decide +kernel
theorem dX10_volts_90 : decode cX10_volts 90 = .ok (.invokevirtual 150, 3) := by decide +kernel
theorem dX10_volts_93 : decode cX10_volts 93 = .ok (.istore 4, 2) := by decide +kernel
theorem dX10_volts_95 : decode cX10_volts 95 = .ok (.iload 4, 2) := by decide +kernel
theorem dX10_volts_97 : decode cX10_volts 97 = .ok (.iload 5, 2) := by decide +kernel
theorem dX10_volts_99 : decode cX10_volts 99 = .ok (.if_icmp .le 8, 3) := by decide +kernel
theorem dX10_volts_102 : decode cX10_volts 102 = .ok (.iload 4, 2) := by decide +kernel
theorem dX10_volts_104 : decode cX10_volts 104 = .ok (.goto 5, 3) := by decide +kernel
theorem dX10_volts_107 : decode cX10_volts 107 = .ok (.iload 5, 2) := by decide +kernel
theorem dX10_volts_109 : decode cX10_volts 109 = .ok (.istore 5, 2) := by decide +kernel
theorem dX10_volts_111 : decode cX10_volts 111 = .ok (.iload 4, 2) := by decide +kernel
theorem dX10_volts_113 : decode cX10_volts 113 = .ok (.iload 6, 2) := by decide +kernel
theorem dX10_volts_115 : decode cX10_volts 115 = .ok (.if_icmp .ge 8, 3) := by decide +kernel
theorem dX10_volts_118 : decode cX10_volts 118 = .ok (.iload 4, 2) := by decide +kernel
theorem dX10_volts_120 : decode cX10_volts 120 = .ok (.goto 5, 3) := by decide +kernel
theorem dX10_volts_123 : decode cX10_volts 123 = .ok (.iload 6, 2) := by decide +kernel
theorem dX10_volts_125 : decode cX10_volts 125 = .ok (.istore 6, 2) := by decide +kernel
theorem dX10_volts_127 : decode cX10_volts 127 = .ok (.iinc 7 1, 3) := by decide +kernel
theorem dX10_volts_130 : decode cX10_volts 130 = .ok (.goto (-59), 3) := by decide +kernel
theorem dX10_volts_133 : decode cX10_volts 133 = .ok (.ldc 204, 2) := by decide +kernel
theorem dX10_volts_135 : decode cX10_volts 135 = .ok (.iload_n 3, 1) := by decide +kernel
theorem dX10_volts_136 : decode cX10_volts 136 = .ok (.ifCond .ne 8, 3) := by decide +kernel
theorem dX10_volts_139 : decode cX10_volts 139 = .ok (.iload 4, 2) := by decide +kernel
theorem dX10_volts_141 : decode cX10_volts 141 = .ok (.goto 15, 3) := by decide +kernel
theorem dX10_volts_144 : decode cX10_volts 144 = .ok (.iload_n 3, 1) := by decide +kernel
theorem dX10_volts_145 : decode cX10_volts 145 = .ok (.iconst 1, 1) := by decide +kernel
theorem dX10_volts_146 : decode cX10_volts 146 = .ok (.if_icmp .ne 8, 3) := by decide +kernel
theorem dX10_volts_149 : decode cX10_volts 149 = .ok (.iload 5, 2) := by decide +kernel
theorem dX10_volts_151 : decode cX10_volts 151 = .ok (.goto 5, 3) := by decide +kernel
theorem dX10_volts_154 : decode cX10_volts 154 = .ok (.iload 6, 2) := by decide +kernel
theorem dX10_volts_156 : decode cX10_volts 156 = .ok (.iadd, 1) := by decide +kernel
theorem dX10_volts_157 : decode cX10_volts 157 = .ok (.ireturn, 1) := by decide +kernel
set_option maxRecDepth 20000 in
theorem dX10_rest_0 : decode cX10_rest 0 = .ok (.iload_n 1, 1) := by decide +kernel
theorem dX10_rest_1 : decode cX10_rest 1 = .ok (.i2l, 1) := by decide +kernel
theorem dX10_rest_2 : decode cX10_rest 2 = .ok (.lconst 0, 1) := by decide +kernel
theorem dX10_rest_3 : decode cX10_rest 3 = .ok (.ldc2_w 202, 3) := by decide +kernel
theorem dX10_rest_6 : decode cX10_rest 6 = .ok (.invokestatic 59, 3) := by decide +kernel
theorem dX10_rest_9 : decode cX10_rest 9 = .ok (.ifCond .ne 6, 3) := by decide +kernel
theorem dX10_rest_12 : decode cX10_rest 12 = .ok (.ldc 63, 2) := by decide +kernel
theorem dX10_rest_14 : decode cX10_rest 14 = .ok (.ireturn, 1) := by decide +kernel
theorem dX10_rest_15 : decode cX10_rest 15 = .ok (.aload_n 0, 1) := by decide +kernel
theorem dX10_rest_16 : decode cX10_rest 16 = .ok (.iconst 0, 1) := by decide +kernel
theorem dX10_rest_17 : decode cX10_rest 17 = .ok (.sipush 3736, 3) := by decide +kernel
theorem dX10_rest_20 : decode cX10_rest 20 = .ok (.sipush 247, 3) := by decide +kernel
theorem dX10_rest_23 : decode cX10_rest 23 = .ok (.invokevirtual 124, 3) := by decide +kernel
theorem dX10_rest_26 : decode cX10_rest 26 = .ok (.iconst 0, 1) := by decide +kernel
theorem dX10_rest_27 : decode cX10_rest 27 = .ok (.istore_n 2, 1) := by decide +kernel
theorem dX10_rest_28 : decode cX10_rest 28 = .ok (.iload_n 2, 1) := by decide +kernel
theorem dX10_rest_29 : decode cX10_rest 29 = .ok (.sipush 201, 3) := by decide +kernel
theorem dX10_rest_32 : decode cX10_rest 32 = .ok (.if_icmp .ge 31, 3) := by decide +kernel
theorem dX10_rest_35 : decode cX10_rest 35 = .ok (.aload_n 0, 1) := by decide +kernel
theorem dX10_rest_36 : decode cX10_rest 36 = .ok (.getfield 51, 3) := by decide +kernel
theorem dX10_rest_39 : decode cX10_rest 39 = .ok (.iload_n 2, 1) := by decide +kernel
theorem dX10_rest_40 : decode cX10_rest 40 = .ok (.aload_n 0, 1) := by decide +kernel
theorem dX10_rest_41 : decode cX10_rest 41 = .ok (.sipush 3736, 3) := by decide +kernel
theorem dX10_rest_44 : decode cX10_rest 44 = .ok (.iload_n 1, 1) := by decide +kernel
theorem dX10_rest_45 : decode cX10_rest 45 = .ok (.invokevirtual 150, 3) := by decide +kernel
theorem dX10_rest_48 : decode cX10_rest 48 = .ok (.iastore, 1) := by decide +kernel
theorem dX10_rest_49 : decode cX10_rest 49 = .ok (.aload_n 0, 1) := by decide +kernel
theorem dX10_rest_50 : decode cX10_rest 50 = .ok (.sipush 3736, 3) := by decide +kernel
theorem dX10_rest_53 : decode cX10_rest 53 = .ok (.iconst 1, 1) := by decide +kernel
theorem dX10_rest_54 : decode cX10_rest 54 = .ok (.invokevirtual 177, 3) := by decide +kernel
theorem dX10_rest_57 : decode cX10_rest 57 = .ok (.iinc 2 1, 3) := by decide +kernel
theorem dX10_rest_60 : decode cX10_rest 60 = .ok (.goto (-32), 3) := by decide +kernel
theorem dX10_rest_63 : decode cX10_rest 63 = .ok (.sipush 200, 3) := by decide +kernel
theorem dX10_rest_66 : decode cX10_rest 66 = .ok (.istore_n 2, 1) := by decide +kernel
theorem dX10_rest_67 : decode cX10_rest 67 = .ok (.iload_n 2, 1) := by decide +kernel
theorem dX10_rest_68 : decode cX10_rest 68 = .ok (.ifCond .le 39, 3) := by decide +kernel
theorem dX10_rest_71 : decode cX10_rest 71 = .ok (.aload_n 0, 1) := by decide +kernel
theorem dX10_rest_72 : decode cX10_rest 72 = .ok (.getfield 51, 3) := by decide +kernel
theorem dX10_rest_75 : decode cX10_rest 75 = .ok (.iload_n 2, 1) := by decide +kernel
theorem dX10_rest_76 : decode cX10_rest 76 = .ok (.iconst 1, 1) := by decide +kernel
theorem dX10_rest_77 : decode cX10_rest 77 = .ok (.isub, 1) := by decide +kernel
theorem dX10_rest_78 : decode cX10_rest 78 = .ok (.iaload, 1) := by decide +kernel
theorem dX10_rest_79 : decode cX10_rest 79 = .ok (.aload_n 0, 1) := by decide +kernel
theorem dX10_rest_80 : decode cX10_rest 80 = .ok (.getfield 51, 3) := by decide +kernel
theorem dX10_rest_83 : decode cX10_rest 83 = .ok (.sipush 200, 3) := by decide +kernel
theorem dX10_rest_86 : decode cX10_rest 86 = .ok (.iaload, 1) := by decide +kernel
theorem dX10_rest_87 : decode cX10_rest 87 = .ok (.isub, 1) := by decide +kernel
theorem dX10_rest_88 : decode cX10_rest 88 = .ok (.i2l, 1) := by decide +kernel
theorem dX10_rest_89 : decode cX10_rest 89 = .ok (.ldc2_w 252, 3) := by decide +kernel
theorem dX10_rest_92 : decode cX10_rest 92 = .ok (.ldc2_w 254, 3) := by decide +kernel
theorem dX10_rest_95 : decode cX10_rest 95 = .ok (.invokestatic 59, 3) := by decide +kernel
theorem dX10_rest_98 : decode cX10_rest 98 = .ok (.ifCond .eq 9, 3) := by decide +kernel
theorem dX10_rest_101 : decode cX10_rest 101 = .ok (.iinc 2 (-1), 3) := by decide +kernel
theorem dX10_rest_104 : decode cX10_rest 104 = .ok (.goto (-37), 3) := by decide +kernel
theorem dX10_rest_107 : decode cX10_rest 107 = .ok (.iload_n 2, 1) := by decide +kernel
theorem dX10_rest_108 : decode cX10_rest 108 = .ok (.ireturn, 1) := by decide +kernel
set_option maxRecDepth 20000 in
theorem dX10_sees_0 : decode cX10_sees 0 = .ok (.aload_n 0, 1) := by decide +kernel
theorem dX10_sees_1 : decode cX10_sees 1 = .ok (.iload_n 1, 1) := by decide +kernel
theorem dX10_sees_2 : decode cX10_sees 2 = .ok (.invokevirtual 208, 3) := by decide +kernel
theorem dX10_sees_5 : decode cX10_sees 5 = .ok (.ifCond .ne 6, 3) := by decide +kernel
theorem dX10_sees_8 : decode cX10_sees 8 = .ok (.ldc 199, 2) := by decide +kernel
theorem dX10_sees_10 : decode cX10_sees 10 = .ok (.ireturn, 1) := by decide +kernel
theorem dX10_sees_11 : decode cX10_sees 11 = .ok (.iload_n 2, 1) := by decide +kernel
theorem dX10_sees_12 : decode cX10_sees 12 = .ok (.i2l, 1) := by decide +kernel
theorem dX10_sees_13 : decode cX10_sees 13 = .ok (.lconst 0, 1) := by decide +kernel
theorem dX10_sees_14 : decode cX10_sees 14 = .ok (.ldc2_w 250, 3) := by decide +kernel
theorem dX10_sees_17 : decode cX10_sees 17 = .ok (.invokestatic 59, 3) := by decide +kernel
theorem dX10_sees_20 : decode cX10_sees 20 = .ok (.ifCond .eq 13, 3) := by decide +kernel
theorem dX10_sees_23 : decode cX10_sees 23 = .ok (.iload_n 3, 1) := by decide +kernel
theorem dX10_sees_24 : decode cX10_sees 24 = .ok (.i2l, 1) := by decide +kernel
theorem dX10_sees_25 : decode cX10_sees 25 = .ok (.lconst 0, 1) := by decide +kernel
theorem dX10_sees_26 : decode cX10_sees 26 = .ok (.lconst 1, 1) := by decide +kernel
theorem dX10_sees_27 : decode cX10_sees 27 = .ok (.invokestatic 59, 3) := by decide +kernel
theorem dX10_sees_30 : decode cX10_sees 30 = .ok (.ifCond .ne 6, 3) := by decide +kernel
theorem dX10_sees_33 : decode cX10_sees 33 = .ok (.ldc 63, 2) := by decide +kernel
theorem dX10_sees_35 : decode cX10_sees 35 = .ok (.ireturn, 1) := by decide +kernel
theorem dX10_sees_36 : decode cX10_sees 36 = .ok (.aload_n 0, 1) := by decide +kernel
theorem dX10_sees_37 : decode cX10_sees 37 = .ok (.iconst 0, 1) := by decide +kernel
theorem dX10_sees_38 : decode cX10_sees 38 = .ok (.sipush 3736, 3) := by decide +kernel
theorem dX10_sees_41 : decode cX10_sees 41 = .ok (.sipush 247, 3) := by decide +kernel
theorem dX10_sees_44 : decode cX10_sees 44 = .ok (.invokevirtual 124, 3) := by decide +kernel
theorem dX10_sees_47 : decode cX10_sees 47 = .ok (.aload_n 0, 1) := by decide +kernel
theorem dX10_sees_48 : decode cX10_sees 48 = .ok (.sipush 3736, 3) := by decide +kernel
theorem dX10_sees_51 : decode cX10_sees 51 = .ok (.iload_n 2, 1) := by decide +kernel
theorem dX10_sees_52 : decode cX10_sees 52 = .ok (.invokevirtual 177, 3) := by decide +kernel
theorem dX10_sees_55 : decode cX10_sees 55 = .ok (.iload_n 3, 1) := by decide +kernel
theorem dX10_sees_56 : decode cX10_sees 56 = .ok (.ifCond .ne 16, 3) := by decide +kernel
theorem dX10_sees_59 : decode cX10_sees 59 = .ok (.aload_n 0, 1) := by decide +kernel
theorem dX10_sees_60 : decode cX10_sees 60 = .ok (.getfield 7, 3) := by decide +kernel
theorem dX10_sees_63 : decode cX10_sees 63 = .ok (.sipush 3952, 3) := by decide +kernel
theorem dX10_sees_66 : decode cX10_sees 66 = .ok (.iload_n 1, 1) := by decide +kernel
theorem dX10_sees_67 : decode cX10_sees 67 = .ok (.iadd, 1) := by decide +kernel
theorem dX10_sees_68 : decode cX10_sees 68 = .ok (.iaload, 1) := by decide +kernel
theorem dX10_sees_69 : decode cX10_sees 69 = .ok (.goto 24, 3) := by decide +kernel
theorem dX10_sees_72 : decode cX10_sees 72 = .ok (.aload_n 0, 1) := by decide +kernel
theorem dX10_sees_73 : decode cX10_sees 73 = .ok (.getfield 7, 3) := by decide +kernel
theorem dX10_sees_76 : decode cX10_sees 76 = .ok (.sipush 3964, 3) := by decide +kernel
theorem dX10_sees_79 : decode cX10_sees 79 = .ok (.iload_n 1, 1) := by decide +kernel
theorem dX10_sees_80 : decode cX10_sees 80 = .ok (.iadd, 1) := by decide +kernel
theorem dX10_sees_81 : decode cX10_sees 81 = .ok (.iaload, 1) := by decide +kernel
theorem dX10_sees_82 : decode cX10_sees 82 = .ok (.aload_n 0, 1) := by decide +kernel
theorem dX10_sees_83 : decode cX10_sees 83 = .ok (.getfield 7, 3) := by decide +kernel
theorem dX10_sees_86 : decode cX10_sees 86 = .ok (.sipush 228, 3) := by decide +kernel
theorem dX10_sees_89 : decode cX10_sees 89 = .ok (.iload_n 1, 1) := by decide +kernel
theorem dX10_sees_90 : decode cX10_sees 90 = .ok (.iadd, 1) := by decide +kernel
theorem dX10_sees_91 : decode cX10_sees 91 = .ok (.iaload, 1) := by decide +kernel
theorem dX10_sees_92 : decode cX10_sees 92 = .ok (.isub, 1) := by decide +kernel
theorem dX10_sees_93 : decode cX10_sees 93 = .ok (.ireturn, 1) := by decide +kernel
set_option maxRecDepth 20000 in
theorem dX10_noNoise_0 : decode cX10_noNoise 0 = .ok (.iload_n 1, 1) := by decide +kernel
theorem dX10_noNoise_1 : decode cX10_noNoise 1 = .ok (.i2l, 1) := by decide +kernel
theorem dX10_noNoise_2 : decode cX10_noNoise 2 = .ok (.lconst 0, 1) := by decide +kernel
theorem dX10_noNoise_3 : decode cX10_noNoise 3 = .ok (.ldc2_w 256, 3) := by decide +kernel
theorem dX10_noNoise_6 : decode cX10_noNoise 6 = .ok (.invokestatic 59, 3) := by decide +kernel
theorem dX10_noNoise_9 : decode cX10_noNoise 9 = .ok (.ifCond .eq 15, 3) := by decide +kernel
theorem dX10_noNoise_12 : decode cX10_noNoise 12 = .ok (.iload_n 2, 1) := by decide +kernel
theorem dX10_noNoise_13 : decode cX10_noNoise 13 = .ok (.i2l, 1) := by decide +kernel
theorem dX10_noNoise_14 : decode cX10_noNoise 14 = .ok (.lconst 0, 1) := by decide +kernel
theorem dX10_noNoise_15 : decode cX10_noNoise 15 = .ok (.ldc2_w 258, 3) := by decide +kernel
theorem dX10_noNoise_18 : decode cX10_noNoise 18 = .ok (.invokestatic 59, 3) := by decide +kernel
theorem dX10_noNoise_21 : decode cX10_noNoise 21 = .ok (.ifCond .ne 6, 3) := by decide +kernel
theorem dX10_noNoise_24 : decode cX10_noNoise 24 = .ok (.ldc 63, 2) := by decide +kernel
theorem dX10_noNoise_26 : decode cX10_noNoise 26 = .ok (.ireturn, 1) := by decide +kernel
theorem dX10_noNoise_27 : decode cX10_noNoise 27 = .ok (.ldc2_w 260, 3) := by decide +kernel
theorem dX10_noNoise_30 : decode cX10_noNoise 30 = .ok (.lstore_n 3, 1) := by decide +kernel
theorem dX10_noNoise_31 : decode cX10_noNoise 31 = .ok (.iconst 0, 1) := by decide +kernel
theorem dX10_noNoise_32 : decode cX10_noNoise 32 = .ok (.istore 5, 2) := by decide +kernel
theorem dX10_noNoise_34 : decode cX10_noNoise 34 = .ok (.iload 5, 2) := by decide +kernel
theorem dX10_noNoise_36 : decode cX10_noNoise 36 = .ok (.iload_n 1, 1) := by decide +kernel
theorem dX10_noNoise_37 : decode cX10_noNoise 37 = .ok (.if_icmp .ge 18, 3) := by decide +kernel
theorem dX10_noNoise_40 : decode cX10_noNoise 40 = .ok (.lload_n 3, 1) := by decide +kernel
theorem dX10_noNoise_41 : decode cX10_noNoise 41 = .ok (.iload_n 2, 1) := by decide +kernel
theorem dX10_noNoise_42 : decode cX10_noNoise 42 = .ok (.i2l, 1) := by decide +kernel
theorem dX10_noNoise_43 : decode cX10_noNoise 43 = .ok (.lmul, 1) := by decide +kernel
theorem dX10_noNoise_44 : decode cX10_noNoise 44 = .ok (.ldc2_w 258, 3) := by decide +kernel
theorem dX10_noNoise_47 : decode cX10_noNoise 47 = .ok (.ldiv, 1) := by decide +kernel
theorem dX10_noNoise_48 : decode cX10_noNoise 48 = .ok (.lstore_n 3, 1) := by decide +kernel
theorem dX10_noNoise_49 : decode cX10_noNoise 49 = .ok (.iinc 5 1, 3) := by decide +kernel
theorem dX10_noNoise_52 : decode cX10_noNoise 52 = .ok (.goto (-18), 3) := by decide +kernel
theorem dX10_noNoise_55 : decode cX10_noNoise 55 = .ok (.lload_n 3, 1) := by decide +kernel
theorem dX10_noNoise_56 : decode cX10_noNoise 56 = .ok (.l2i, 1) := by decide +kernel
theorem dX10_noNoise_57 : decode cX10_noNoise 57 = .ok (.ireturn, 1) := by decide +kernel
set_option maxRecDepth 20000 in
theorem dX10_see_0 : decode cX10_see 0 = .ok (.iload_n 1, 1) := by decide +kernel
theorem dX10_see_1 : decode cX10_see 1 = .ok (.i2l, 1) := by decide +kernel
theorem dX10_see_2 : decode cX10_see 2 = .ok (.lconst 1, 1) := by decide +kernel
theorem dX10_see_3 : decode cX10_see 3 = .ok (.ldc2_w 262, 3) := by decide +kernel
theorem dX10_see_6 : decode cX10_see 6 = .ok (.invokestatic 59, 3) := by decide +kernel
theorem dX10_see_9 : decode cX10_see 9 = .ok (.ifCond .eq 15, 3) := by decide +kernel
theorem dX10_see_12 : decode cX10_see 12 = .ok (.iload_n 2, 1) := by decide +kernel
theorem dX10_see_13 : decode cX10_see 13 = .ok (.i2l, 1) := by decide +kernel
theorem dX10_see_14 : decode cX10_see 14 = .ok (.lconst 0, 1) := by decide +kernel
theorem dX10_see_15 : decode cX10_see 15 = .ok (.ldc2_w 264, 3) := by decide +kernel
theorem dX10_see_18 : decode cX10_see 18 = .ok (.invokestatic 59, 3) := by decide +kernel
theorem dX10_see_21 : decode cX10_see 21 = .ok (.ifCond .ne 6, 3) := by decide +kernel
theorem dX10_see_24 : decode cX10_see 24 = .ok (.ldc 63, 2) := by decide +kernel
theorem dX10_see_26 : decode cX10_see 26 = .ok (.ireturn, 1) := by decide +kernel
theorem dX10_see_27 : decode cX10_see 27 = .ok (.aload_n 0, 1) := by decide +kernel
theorem dX10_see_28 : decode cX10_see 28 = .ok (.getfield 131, 3) := by decide +kernel
theorem dX10_see_31 : decode cX10_see 31 = .ok (.bipush 6, 2) := by decide +kernel
theorem dX10_see_33 : decode cX10_see 33 = .ok (.if_icmp .ne 6, 3) := by decide +kernel
theorem dX10_see_36 : decode cX10_see 36 = .ok (.ldc 67, 2) := by decide +kernel
theorem dX10_see_38 : decode cX10_see 38 = .ok (.ireturn, 1) := by decide +kernel
theorem dX10_see_39 : decode cX10_see 39 = .ok (.aload_n 0, 1) := by decide +kernel
theorem dX10_see_40 : decode cX10_see 40 = .ok (.getfield 30, 3) := by decide +kernel
theorem dX10_see_43 : decode cX10_see 43 = .ok (.aload_n 0, 1) := by decide +kernel
theorem dX10_see_44 : decode cX10_see 44 = .ok (.getfield 131, 3) := by decide +kernel
theorem dX10_see_47 : decode cX10_see 47 = .ok (.iload_n 1, 1) := by decide +kernel
theorem dX10_see_48 : decode cX10_see 48 = .ok (.iastore, 1) := by decide +kernel
theorem dX10_see_49 : decode cX10_see 49 = .ok (.aload_n 0, 1) := by decide +kernel
theorem dX10_see_50 : decode cX10_see 50 = .ok (.getfield 33, 3) := by decide +kernel
theorem dX10_see_53 : decode cX10_see 53 = .ok (.aload_n 0, 1) := by decide +kernel
theorem dX10_see_54 : decode cX10_see 54 = .ok (.getfield 131, 3) := by decide +kernel
theorem dX10_see_57 : decode cX10_see 57 = .ok (.iload_n 2, 1) := by decide +kernel
theorem dX10_see_58 : decode cX10_see 58 = .ok (.iastore, 1) := by decide +kernel
theorem dX10_see_59 : decode cX10_see 59 = .ok (.aload_n 0, 1) := by decide +kernel
theorem dX10_see_60 : decode cX10_see 60 = .ok (.getfield 36, 3) := by decide +kernel
theorem dX10_see_63 : decode cX10_see 63 = .ok (.aload_n 0, 1) := by decide +kernel
theorem dX10_see_64 : decode cX10_see 64 = .ok (.getfield 131, 3) := by decide +kernel
theorem dX10_see_67 : decode cX10_see 67 = .ok (.iload_n 3, 1) := by decide +kernel
theorem dX10_see_68 : decode cX10_see 68 = .ok (.bastore, 1) := by decide +kernel
theorem dX10_see_69 : decode cX10_see 69 = .ok (.aload_n 0, 1) := by decide +kernel
theorem dX10_see_70 : decode cX10_see 70 = .ok (.dup, 1) := by decide +kernel
theorem dX10_see_71 : decode cX10_see 71 = .ok (.getfield 131, 3) := by decide +kernel
theorem dX10_see_74 : decode cX10_see 74 = .ok (.iconst 1, 1) := by decide +kernel
theorem dX10_see_75 : decode cX10_see 75 = .ok (.iadd, 1) := by decide +kernel
theorem dX10_see_76 : decode cX10_see 76 = .ok (.putfield 131, 3) := by decide +kernel
theorem dX10_see_79 : decode cX10_see 79 = .ok (.aload_n 0, 1) := by decide +kernel
theorem dX10_see_80 : decode cX10_see 80 = .ok (.getfield 131, 3) := by decide +kernel
theorem dX10_see_83 : decode cX10_see 83 = .ok (.ireturn, 1) := by decide +kernel
set_option maxRecDepth 20000 in
theorem dX10_laysFault_0 : decode cX10_laysFault 0 = .ok (.iload_n 1, 1) := by decide +kernel
theorem dX10_laysFault_1 : decode cX10_laysFault 1 = .ok (.iconst 2, 1) := by decide +kernel
theorem dX10_laysFault_2 : decode cX10_laysFault 2 = .ok (.idiv, 1) := by decide +kernel
theorem dX10_laysFault_3 : decode cX10_laysFault 3 = .ok (.istore_n 2, 1) := by decide +kernel
theorem dX10_laysFault_4 : decode cX10_laysFault 4 = .ok (.aload_n 0, 1) := by decide +kernel
theorem dX10_laysFault_5 : decode cX10_laysFault 5 = .ok (.iload_n 2, 1) := by decide +kernel
theorem dX10_laysFault_6 : decode cX10_laysFault 6 = .ok (.invokevirtual 205, 3) := by decide +kernel
theorem dX10_laysFault_9 : decode cX10_laysFault 9 = .ok (.ifCond .eq 16, 3) := by decide +kernel
theorem dX10_laysFault_12 : decode cX10_laysFault 12 = .ok (.aload_n 0, 1) := by decide +kernel
theorem dX10_laysFault_13 : decode cX10_laysFault 13 = .ok (.getfield 7, 3) := by decide +kernel
theorem dX10_laysFault_16 : decode cX10_laysFault 16 = .ok (.sipush 144, 3) := by decide +kernel
theorem dX10_laysFault_19 : decode cX10_laysFault 19 = .ok (.iload_n 2, 1) := by decide +kernel
theorem dX10_laysFault_20 : decode cX10_laysFault 20 = .ok (.iadd, 1) := by decide +kernel
theorem dX10_laysFault_21 : decode cX10_laysFault 21 = .ok (.iaload, 1) := by decide +kernel
theorem dX10_laysFault_22 : decode cX10_laysFault 22 = .ok (.ifCond .eq 5, 3) := by decide +kernel
theorem dX10_laysFault_25 : decode cX10_laysFault 25 = .ok (.iconst 0, 1) := by decide +kernel
theorem dX10_laysFault_26 : decode cX10_laysFault 26 = .ok (.ireturn, 1) := by decide +kernel
theorem dX10_laysFault_27 : decode cX10_laysFault 27 = .ok (.aload_n 0, 1) := by decide +kernel
theorem dX10_laysFault_28 : decode cX10_laysFault 28 = .ok (.invokevirtual 174, 3) := by decide +kernel
theorem dX10_laysFault_31 : decode cX10_laysFault 31 = .ok (.aload_n 0, 1) := by decide +kernel
theorem dX10_laysFault_32 : decode cX10_laysFault 32 = .ok (.getfield 7, 3) := by decide +kernel
theorem dX10_laysFault_35 : decode cX10_laysFault 35 = .ok (.sipush 3880, 3) := by decide +kernel
theorem dX10_laysFault_38 : decode cX10_laysFault 38 = .ok (.iload_n 2, 1) := by decide +kernel
theorem dX10_laysFault_39 : decode cX10_laysFault 39 = .ok (.iadd, 1) := by decide +kernel
theorem dX10_laysFault_40 : decode cX10_laysFault 40 = .ok (.iload_n 1, 1) := by decide +kernel
theorem dX10_laysFault_41 : decode cX10_laysFault 41 = .ok (.iconst 2, 1) := by decide +kernel
theorem dX10_laysFault_42 : decode cX10_laysFault 42 = .ok (.irem, 1) := by decide +kernel
theorem dX10_laysFault_43 : decode cX10_laysFault 43 = .ok (.ifCond .ne 7, 3) := by decide +kernel
theorem dX10_laysFault_46 : decode cX10_laysFault 46 = .ok (.iconst 1, 1) := by decide +kernel
theorem dX10_laysFault_47 : decode cX10_laysFault 47 = .ok (.goto 4, 3) := by decide +kernel
theorem dX10_laysFault_50 : decode cX10_laysFault 50 = .ok (.iconst 2, 1) := by decide +kernel
theorem dX10_laysFault_51 : decode cX10_laysFault 51 = .ok (.iastore, 1) := by decide +kernel
theorem dX10_laysFault_52 : decode cX10_laysFault 52 = .ok (.iconst 1, 1) := by decide +kernel
theorem dX10_laysFault_53 : decode cX10_laysFault 53 = .ok (.ireturn, 1) := by decide +kernel
set_option maxRecDepth 20000 in
theorem dX10_isSo_0 : decode cX10_isSo 0 = .ok (.iconst 1, 1) := by decide +kernel
theorem dX10_isSo_1 : decode cX10_isSo 1 = .ok (.istore_n 2, 1) := by decide +kernel
theorem dX10_isSo_2 : decode cX10_isSo 2 = .ok (.aload_n 0, 1) := by decide +kernel
theorem dX10_isSo_3 : decode cX10_isSo 3 = .ok (.sipush 3736, 3) := by decide +kernel
theorem dX10_isSo_6 : decode cX10_isSo 6 = .ok (.iconst 0, 1) := by decide +kernel
theorem dX10_isSo_7 : decode cX10_isSo 7 = .ok (.invokevirtual 150, 3) := by decide +kernel
theorem dX10_isSo_10 : decode cX10_isSo 10 = .ok (.istore_n 3, 1) := by decide +kernel
theorem dX10_isSo_11 : decode cX10_isSo 11 = .ok (.iconst 0, 1) := by decide +kernel
theorem dX10_isSo_12 : decode cX10_isSo 12 = .ok (.istore 4, 2) := by decide +kernel
theorem dX10_isSo_14 : decode cX10_isSo 14 = .ok (.iload 4, 2) := by decide +kernel
theorem dX10_isSo_16 : decode cX10_isSo 16 = .ok (.aload_n 0, 1) := by decide +kernel
theorem dX10_isSo_17 : decode cX10_isSo 17 = .ok (.getfield 131, 3) := by decide +kernel
theorem dX10_isSo_20 : decode cX10_isSo 20 = .ok (.if_icmp .ge 56, 3) := by decide +kernel
theorem dX10_isSo_23 : decode cX10_isSo 23 = .ok (.iload_n 2, 1) := by decide +kernel
theorem dX10_isSo_24 : decode cX10_isSo 24 = .ok (.ifCond .eq 44, 3) := by decide +kernel
theorem dX10_isSo_27 : decode cX10_isSo 27 = .ok (.aload_n 0, 1) := by decide +kernel
theorem dX10_isSo_28 : decode cX10_isSo 28 = .ok (.getfield 30, 3) := by decide +kernel
theorem dX10_isSo_31 : decode cX10_isSo 31 = .ok (.iload 4, 2) := by decide +kernel
theorem dX10_isSo_33 : decode cX10_isSo 33 = .ok (.iaload, 1) := by decide +kernel
theorem dX10_isSo_34 : decode cX10_isSo 34 = .ok (.iload_n 1, 1) := by decide +kernel
theorem dX10_isSo_35 : decode cX10_isSo 35 = .ok (.if_icmp .ne 29, 3) := by decide +kernel
theorem dX10_isSo_38 : decode cX10_isSo 38 = .ok (.iload_n 3, 1) := by decide +kernel
theorem dX10_isSo_39 : decode cX10_isSo 39 = .ok (.aload_n 0, 1) := by decide +kernel
theorem dX10_isSo_40 : decode cX10_isSo 40 = .ok (.getfield 33, 3) := by decide +kernel
theorem dX10_isSo_43 : decode cX10_isSo 43 = .ok (.iload 4, 2) := by decide +kernel
theorem dX10_isSo_45 : decode cX10_isSo 45 = .ok (.iaload, 1) := by decide +kernel
theorem dX10_isSo_46 : decode cX10_isSo 46 = .ok (.if_icmp .lt 7, 3) := by decide +kernel
theorem dX10_isSo_49 : decode cX10_isSo 49 = .ok (.iconst 1, 1) := by decide +kernel
theorem dX10_isSo_50 : decode cX10_isSo 50 = .ok (.goto 4, 3) := by decide +kernel
theorem dX10_isSo_53 : decode cX10_isSo 53 = .ok (.iconst 0, 1) := by decide +kernel
theorem dX10_isSo_54 : decode cX10_isSo 54 = .ok (.aload_n 0, 1) := by decide +kernel
theorem dX10_isSo_55 : decode cX10_isSo 55 = .ok (.getfield 36, 3) := by decide +kernel
theorem dX10_isSo_58 : decode cX10_isSo 58 = .ok (.iload 4, 2) := by decide +kernel
theorem dX10_isSo_60 : decode cX10_isSo 60 = .ok (.baload, 1) := by decide +kernel
theorem dX10_isSo_61 : decode cX10_isSo 61 = .ok (.if_icmp .ne 7, 3) := by decide +kernel
theorem dX10_isSo_64 : decode cX10_isSo 64 = .ok (.iconst 1, 1) := by decide +kernel
theorem dX10_isSo_65 : decode cX10_isSo 65 = .ok (.goto 4, 3) := by decide +kernel
theorem dX10_isSo_68 : decode cX10_isSo 68 = .ok (.iconst 0, 1) := by decide +kernel
theorem dX10_isSo_69 : decode cX10_isSo 69 = .ok (.istore_n 2, 1) := by decide +kernel
theorem dX10_isSo_70 : decode cX10_isSo 70 = .ok (.iinc 4 1, 3) := by decide +kernel
theorem dX10_isSo_73 : decode cX10_isSo 73 = .ok (.goto (-59), 3) := by decide +kernel
theorem dX10_isSo_76 : decode cX10_isSo 76 = .ok (.iload_n 2, 1) := by decide +kernel
theorem dX10_isSo_77 : decode cX10_isSo 77 = .ok (.ireturn, 1) := by decide +kernel
theorem dX10_latestSeen_0 : decode cX10_latestSeen 0 = .ok (.iconst 0, 1) := by decide +kernel
theorem dX10_latestSeen_1 : decode cX10_latestSeen 1 = .ok (.istore_n 1, 1) := by decide +kernel
theorem dX10_latestSeen_2 : decode cX10_latestSeen 2 = .ok (.iconst 0, 1) := by decide +kernel
theorem dX10_latestSeen_3 : decode cX10_latestSeen 3 = .ok (.istore_n 2, 1) := by decide +kernel
theorem dX10_latestSeen_4 : decode cX10_latestSeen 4 = .ok (.iload_n 2, 1) := by decide +kernel
theorem dX10_latestSeen_5 : decode cX10_latestSeen 5 = .ok (.aload_n 0, 1) := by decide +kernel
theorem dX10_latestSeen_6 : decode cX10_latestSeen 6 = .ok (.getfield 131, 3) := by decide +kernel
theorem dX10_latestSeen_9 : decode cX10_latestSeen 9 = .ok (.if_icmp .ge 30, 3) := by decide +kernel
theorem dX10_latestSeen_12 : decode cX10_latestSeen 12 = .ok (.aload_n 0, 1) := by decide +kernel
theorem dX10_latestSeen_13 : decode cX10_latestSeen 13 = .ok (.getfield 30, 3) := by decide +kernel
theorem dX10_latestSeen_16 : decode cX10_latestSeen 16 = .ok (.iload_n 2, 1) := by decide +kernel
theorem dX10_latestSeen_17 : decode cX10_latestSeen 17 = .ok (.iaload, 1) := by decide +kernel
theorem dX10_latestSeen_18 : decode cX10_latestSeen 18 = .ok (.iload_n 1, 1) := by decide +kernel
theorem dX10_latestSeen_19 : decode cX10_latestSeen 19 = .ok (.if_icmp .le 12, 3) := by decide +kernel
theorem dX10_latestSeen_22 : decode cX10_latestSeen 22 = .ok (.aload_n 0, 1) := by decide +kernel
theorem dX10_latestSeen_23 : decode cX10_latestSeen 23 = .ok (.getfield 30, 3) := by decide +kernel
theorem dX10_latestSeen_26 : decode cX10_latestSeen 26 = .ok (.iload_n 2, 1) := by decide +kernel
theorem dX10_latestSeen_27 : decode cX10_latestSeen 27 = .ok (.iaload, 1) := by decide +kernel
theorem dX10_latestSeen_28 : decode cX10_latestSeen 28 = .ok (.goto 4, 3) := by decide +kernel
theorem dX10_latestSeen_31 : decode cX10_latestSeen 31 = .ok (.iload_n 1, 1) := by decide +kernel
theorem dX10_latestSeen_32 : decode cX10_latestSeen 32 = .ok (.istore_n 1, 1) := by decide +kernel
theorem dX10_latestSeen_33 : decode cX10_latestSeen 33 = .ok (.iinc 2 1, 3) := by decide +kernel
theorem dX10_latestSeen_36 : decode cX10_latestSeen 36 = .ok (.goto (-32), 3) := by decide +kernel
theorem dX10_latestSeen_39 : decode cX10_latestSeen 39 = .ok (.iload_n 1, 1) := by decide +kernel
theorem dX10_latestSeen_40 : decode cX10_latestSeen 40 = .ok (.ireturn, 1) := by decide +kernel
set_option maxRecDepth 20000 in
theorem dX10_couldBeIt_0 : decode cX10_couldBeIt 0 = .ok (.aload_n 0, 1) := by decide +kernel
theorem dX10_couldBeIt_1 : decode cX10_couldBeIt 1 = .ok (.iload_n 1, 1) := by decide +kernel
theorem dX10_couldBeIt_2 : decode cX10_couldBeIt 2 = .ok (.invokevirtual 266, 3) := by decide +kernel
theorem dX10_couldBeIt_5 : decode cX10_couldBeIt 5 = .ok (.istore_n 2, 1) := by decide +kernel
theorem dX10_couldBeIt_6 : decode cX10_couldBeIt 6 = .ok (.aload_n 0, 1) := by decide +kernel
theorem dX10_couldBeIt_7 : decode cX10_couldBeIt 7 = .ok (.invokevirtual 269, 3) := by decide +kernel
theorem dX10_couldBeIt_10 : decode cX10_couldBeIt 10 = .ok (.istore_n 3, 1) := by decide +kernel
theorem dX10_couldBeIt_11 : decode cX10_couldBeIt 11 = .ok (.iconst 1, 1) := by decide +kernel
theorem dX10_couldBeIt_12 : decode cX10_couldBeIt 12 = .ok (.istore 4, 2) := by decide +kernel
theorem dX10_couldBeIt_14 : decode cX10_couldBeIt 14 = .ok (.iload 4, 2) := by decide +kernel
theorem dX10_couldBeIt_16 : decode cX10_couldBeIt 16 = .ok (.iload_n 3, 1) := by decide +kernel
theorem dX10_couldBeIt_17 : decode cX10_couldBeIt 17 = .ok (.if_icmp .gt 28, 3) := by decide +kernel
theorem dX10_couldBeIt_20 : decode cX10_couldBeIt 20 = .ok (.iload_n 2, 1) := by decide +kernel
theorem dX10_couldBeIt_21 : decode cX10_couldBeIt 21 = .ok (.ifCond .eq 24, 3) := by decide +kernel
theorem dX10_couldBeIt_24 : decode cX10_couldBeIt 24 = .ok (.aload_n 0, 1) := by decide +kernel
theorem dX10_couldBeIt_25 : decode cX10_couldBeIt 25 = .ok (.sipush 3736, 3) := by decide +kernel
theorem dX10_couldBeIt_28 : decode cX10_couldBeIt 28 = .ok (.iconst 1, 1) := by decide +kernel
theorem dX10_couldBeIt_29 : decode cX10_couldBeIt 29 = .ok (.invokevirtual 177, 3) := by decide +kernel
theorem dX10_couldBeIt_32 : decode cX10_couldBeIt 32 = .ok (.aload_n 0, 1) := by decide +kernel
theorem dX10_couldBeIt_33 : decode cX10_couldBeIt 33 = .ok (.iload 4, 2) := by decide +kernel
theorem dX10_couldBeIt_35 : decode cX10_couldBeIt 35 = .ok (.invokevirtual 272, 3) := by decide +kernel
theorem dX10_couldBeIt_38 : decode cX10_couldBeIt 38 = .ok (.istore_n 2, 1) := by decide +kernel
theorem dX10_couldBeIt_39 : decode cX10_couldBeIt 39 = .ok (.iinc 4 1, 3) := by decide +kernel
theorem dX10_couldBeIt_42 : decode cX10_couldBeIt 42 = .ok (.goto (-28), 3) := by decide +kernel
theorem dX10_couldBeIt_45 : decode cX10_couldBeIt 45 = .ok (.iload_n 2, 1) := by decide +kernel
theorem dX10_couldBeIt_46 : decode cX10_couldBeIt 46 = .ok (.ireturn, 1) := by decide +kernel
set_option maxRecDepth 20000 in
theorem dX10_couldBe_0 : decode cX10_couldBe 0 = .ok (.iload_n 1, 1) := by decide +kernel
theorem dX10_couldBe_1 : decode cX10_couldBe 1 = .ok (.i2l, 1) := by decide +kernel
theorem dX10_couldBe_2 : decode cX10_couldBe 2 = .ok (.lconst 0, 1) := by decide +kernel
theorem dX10_couldBe_3 : decode cX10_couldBe 3 = .ok (.ldc2_w 200, 3) := by decide +kernel
theorem dX10_couldBe_6 : decode cX10_couldBe 6 = .ok (.invokestatic 59, 3) := by decide +kernel
theorem dX10_couldBe_9 : decode cX10_couldBe 9 = .ok (.ifCond .ne 6, 3) := by decide +kernel
theorem dX10_couldBe_12 : decode cX10_couldBe 12 = .ok (.ldc 63, 2) := by decide +kernel
theorem dX10_couldBe_14 : decode cX10_couldBe 14 = .ok (.ireturn, 1) := by decide +kernel
theorem dX10_couldBe_15 : decode cX10_couldBe 15 = .ok (.iconst 0, 1) := by decide +kernel
theorem dX10_couldBe_16 : decode cX10_couldBe 16 = .ok (.istore_n 2, 1) := by decide +kernel
theorem dX10_couldBe_17 : decode cX10_couldBe 17 = .ok (.iconst (-1), 1) := by decide +kernel
theorem dX10_couldBe_18 : decode cX10_couldBe 18 = .ok (.istore_n 3, 1) := by decide +kernel
theorem dX10_couldBe_19 : decode cX10_couldBe 19 = .ok (.iconst (-1), 1) := by decide +kernel
theorem dX10_couldBe_20 : decode cX10_couldBe 20 = .ok (.istore 4, 2) := by decide +kernel
theorem dX10_couldBe_22 : decode cX10_couldBe 22 = .ok (.iconst 2, 1) := by decide +kernel
theorem dX10_couldBe_23 : decode cX10_couldBe 23 = .ok (.istore 5, 2) := by decide +kernel
theorem dX10_couldBe_25 : decode cX10_couldBe 25 = .ok (.iload 5, 2) := by decide +kernel
theorem dX10_couldBe_27 : decode cX10_couldBe 27 = .ok (.iconst 2, 1) := by decide +kernel
theorem dX10_couldBe_28 : decode cX10_couldBe 28 = .ok (.aload_n 0, 1) := by decide +kernel
theorem dX10_couldBe_29 : decode cX10_couldBe 29 = .ok (.getfield 7, 3) := by decide +kernel
theorem dX10_couldBe_32 : decode cX10_couldBe 32 = .ok (.sipush 258, 3) := by decide +kernel
theorem dX10_couldBe_35 : decode cX10_couldBe 35 = .ok (.iaload, 1) := by decide +kernel
theorem dX10_couldBe_36 : decode cX10_couldBe 36 = .ok (.imul, 1) := by decide +kernel
theorem dX10_couldBe_37 : decode cX10_couldBe 37 = .ok (.if_icmp .ge 37, 3) := by decide +kernel
theorem dX10_couldBe_40 : decode cX10_couldBe 40 = .ok (.aload_n 0, 1) := by decide +kernel
theorem dX10_couldBe_41 : decode cX10_couldBe 41 = .ok (.iload 5, 2) := by decide +kernel
theorem dX10_couldBe_43 : decode cX10_couldBe 43 = .ok (.invokevirtual 275, 3) := by decide +kernel
theorem dX10_couldBe_46 : decode cX10_couldBe 46 = .ok (.ifCond .eq 22, 3) := by decide +kernel
theorem dX10_couldBe_49 : decode cX10_couldBe 49 = .ok (.iinc 2 1, 3) := by decide +kernel
theorem dX10_couldBe_52 : decode cX10_couldBe 52 = .ok (.iload_n 3, 1) := by decide +kernel
theorem dX10_couldBe_53 : decode cX10_couldBe 53 = .ok (.iconst (-1), 1) := by decide +kernel
theorem dX10_couldBe_54 : decode cX10_couldBe 54 = .ok (.if_icmp .ne 8, 3) := by decide +kernel
theorem dX10_couldBe_57 : decode cX10_couldBe 57 = .ok (.iload 5, 2) := by decide +kernel
theorem dX10_couldBe_59 : decode cX10_couldBe 59 = .ok (.goto 4, 3) := by decide +kernel
theorem dX10_couldBe_62 : decode cX10_couldBe 62 = .ok (.iload_n 3, 1) := by decide +kernel
theorem dX10_couldBe_63 : decode cX10_couldBe 63 = .ok (.istore_n 3, 1) := by decide +kernel
theorem dX10_couldBe_64 : decode cX10_couldBe 64 = .ok (.iload 5, 2) := by decide +kernel
theorem dX10_couldBe_66 : decode cX10_couldBe 66 = .ok (.istore 4, 2) := by decide +kernel
theorem dX10_couldBe_68 : decode cX10_couldBe 68 = .ok (.iinc 5 1, 3) := by decide +kernel
theorem dX10_couldBe_71 : decode cX10_couldBe 71 = .ok (.goto (-46), 3) := by decide +kernel
theorem dX10_couldBe_74 : decode cX10_couldBe 74 = .ok (.iload_n 1, 1) := by decide +kernel
theorem dX10_couldBe_75 : decode cX10_couldBe 75 = .ok (.ifCond .ne 7, 3) := by decide +kernel
theorem dX10_couldBe_78 : decode cX10_couldBe 78 = .ok (.iload_n 2, 1) := by decide +kernel
theorem dX10_couldBe_79 : decode cX10_couldBe 79 = .ok (.goto 14, 3) := by decide +kernel
theorem dX10_couldBe_82 : decode cX10_couldBe 82 = .ok (.iload_n 1, 1) := by decide +kernel
theorem dX10_couldBe_83 : decode cX10_couldBe 83 = .ok (.iconst 1, 1) := by decide +kernel
theorem dX10_couldBe_84 : decode cX10_couldBe 84 = .ok (.if_icmp .ne 7, 3) := by decide +kernel
theorem dX10_couldBe_87 : decode cX10_couldBe 87 = .ok (.iload_n 3, 1) := by decide +kernel
theorem dX10_couldBe_88 : decode cX10_couldBe 88 = .ok (.goto 5, 3) := by decide +kernel
theorem dX10_couldBe_91 : decode cX10_couldBe 91 = .ok (.iload 4, 2) := by decide +kernel
theorem dX10_couldBe_93 : decode cX10_couldBe 93 = .ok (.ireturn, 1) := by decide +kernel
set_option maxRecDepth 20000 in
theorem dX10_look_0 : decode cX10_look 0 = .ok (.iconst 0, 1) := by decide +kernel
theorem dX10_look_1 : decode cX10_look 1 = .ok (.istore_n 1, 1) := by decide +kernel
theorem dX10_look_2 : decode cX10_look 2 = .ok (.iconst 2, 1) := by decide +kernel
theorem dX10_look_3 : decode cX10_look 3 = .ok (.istore_n 2, 1) := by decide +kernel
theorem dX10_look_4 : decode cX10_look 4 = .ok (.iload_n 2, 1) := by decide +kernel
theorem dX10_look_5 : decode cX10_look 5 = .ok (.iconst 2, 1) := by decide +kernel
theorem dX10_look_6 : decode cX10_look 6 = .ok (.aload_n 0, 1) := by decide +kernel
theorem dX10_look_7 : decode cX10_look 7 = .ok (.getfield 7, 3) := by decide +kernel
theorem dX10_look_10 : decode cX10_look 10 = .ok (.sipush 258, 3) := by decide +kernel
theorem dX10_look_13 : decode cX10_look 13 = .ok (.iaload, 1) := by decide +kernel
theorem dX10_look_14 : decode cX10_look 14 = .ok (.imul, 1) := by decide +kernel
theorem dX10_look_15 : decode cX10_look 15 = .ok (.if_icmp .ge 67, 3) := by decide +kernel
theorem dX10_look_18 : decode cX10_look 18 = .ok (.aload_n 0, 1) := by decide +kernel
theorem dX10_look_19 : decode cX10_look 19 = .ok (.iload_n 2, 1) := by decide +kernel
theorem dX10_look_20 : decode cX10_look 20 = .ok (.invokevirtual 275, 3) := by decide +kernel
theorem dX10_look_23 : decode cX10_look 23 = .ok (.ifCond .eq 53, 3) := by decide +kernel
theorem dX10_look_26 : decode cX10_look 26 = .ok (.aload_n 0, 1) := by decide +kernel
theorem dX10_look_27 : decode cX10_look 27 = .ok (.iload_n 2, 1) := by decide +kernel
theorem dX10_look_28 : decode cX10_look 28 = .ok (.invokevirtual 266, 3) := by decide +kernel
theorem dX10_look_31 : decode cX10_look 31 = .ok (.pop, 1) := by decide +kernel
theorem dX10_look_32 : decode cX10_look 32 = .ok (.iconst 0, 1) := by decide +kernel
theorem dX10_look_33 : decode cX10_look 33 = .ok (.istore_n 3, 1) := by decide +kernel
theorem dX10_look_34 : decode cX10_look 34 = .ok (.iload_n 3, 1) := by decide +kernel
theorem dX10_look_35 : decode cX10_look 35 = .ok (.bipush 60, 2) := by decide +kernel
theorem dX10_look_37 : decode cX10_look 37 = .ok (.if_icmp .ge 36, 3) := by decide +kernel
