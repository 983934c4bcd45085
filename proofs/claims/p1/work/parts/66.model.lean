theorem mw_X12_host_0 : Cond.constant "GuardedTreeModel" 363 227306690 ∈ tb := tb_at 1215 (by decide +kernel) (by decide +kernel)
theorem mw_X12_host_1 : Cond.constant "GuardedTreeModel" 364 1250951133 ∈ tb := tb_at 1216 (by decide +kernel) (by decide +kernel)
theorem mw_X12_host_2 : Cond.constant "GuardedTreeModel" 365 (-1135079313) ∈ tb := tb_at 1217 (by decide +kernel) (by decide +kernel)
theorem mw_X12_host_3 : Cond.constant "GuardedTreeModel" 366 (-533896966) ∈ tb := tb_at 1218 (by decide +kernel) (by decide +kernel)
theorem mw_X12_host_4 : Cond.constant "GuardedTreeModel" 367 102221845 ∈ tb := tb_at 1219 (by decide +kernel) (by decide +kernel)
theorem mw_X12_host_5 : Cond.fieldLink "GuardedTreeModel" 280 "GuardedTreeModel" "one" "[I" ∈ tb := tb_at 1312 (by decide +kernel) (by decide +kernel)
theorem mw_X12_host_6 : Cond.fieldLink "GuardedTreeModel" 283 "GuardedTreeModel" "other" "[I" ∈ tb := tb_at 1313 (by decide +kernel) (by decide +kernel)
theorem mw_X12_host_7 : Cond.fieldLink "GuardedTreeModel" 271 "GuardedTreeModel" "result" "[I" ∈ tb := tb_at 1309 (by decide +kernel) (by decide +kernel)
theorem mw_X12_host_8 : Cond.fieldLink "GuardedTreeModel" 226 "GuardedTreeModel" "hostN" "[I" ∈ tb := tb_at 1294 (by decide +kernel) (by decide +kernel)
theorem mw_X12_host_9 : Cond.constantLong "GuardedTreeModel" 379 65537 ∈ tb := tb_at 1236 (by decide +kernel) (by decide +kernel)
theorem mw_X12_host_10 : Cond.constantLong "GuardedTreeModel" 343 65536 ∈ tb := tb_at 1235 (by decide +kernel) (by decide +kernel)
theorem mw_X12_host_11 : Cond.fieldLink "GuardedTreeModel" 229 "GuardedTreeModel" "hostD" "[I" ∈ tb := tb_at 1295 (by decide +kernel) (by decide +kernel)
theorem mw_X12_host_12 : Cond.constantLong "GuardedTreeModel" 345 65535 ∈ tb := tb_at 1228 (by decide +kernel) (by decide +kernel)
theorem mw_X12_host_13 : Cond.fieldLink "GuardedTreeModel" 274 "GuardedTreeModel" "product" "[I" ∈ tb := tb_at 1310 (by decide +kernel) (by decide +kernel)
theorem mw_X12_host_14 : Cond.arrayClass .int ∈ tb := tb_at 172 (by decide +kernel) (by decide +kernel)
theorem mw_X12_host_15 : Cond.methodLink "GuardedTreeModel" 368 yX12_figures ∈ tb := tb_at 1220 (by decide +kernel) (by decide +kernel)
theorem mw_X12_host_16 : Cond.methodLink "GuardedTreeModel" 359 yX12_multiply ∈ tb := tb_at 1224 (by decide +kernel) (by decide +kernel)
theorem mw_X12_host_17 : Cond.methodLink "GuardedTreeModel" 372 yX12_toWords ∈ tb := tb_at 1229 (by decide +kernel) (by decide +kernel)
theorem mw_X12_host_18 : Cond.methodLink "GuardedTreeModel" 376 yX12_lessOne ∈ tb := tb_at 1232 (by decide +kernel) (by decide +kernel)
theorem dX12_host_0 : decode cX12_host 0 = .ok (.bipush 8, 2) := by decide +kernel
theorem dX12_host_2 : decode cX12_host 2 = .ok (.newarray .int, 2) := by decide +kernel
theorem dX12_host_4 : decode cX12_host 4 = .ok (.astore_n 1, 1) := by decide +kernel
theorem dX12_host_5 : decode cX12_host 5 = .ok (.bipush 8, 2) := by decide +kernel
theorem dX12_host_7 : decode cX12_host 7 = .ok (.newarray .int, 2) := by decide +kernel
theorem dX12_host_9 : decode cX12_host 9 = .ok (.astore_n 2, 1) := by decide +kernel
theorem dX12_host_10 : decode cX12_host 10 = .ok (.aload_n 1, 1) := by decide +kernel
theorem dX12_host_11 : decode cX12_host 11 = .ok (.iconst 4, 1) := by decide +kernel
theorem dX12_host_12 : decode cX12_host 12 = .ok (.iconst (-1), 1) := by decide +kernel
theorem dX12_host_13 : decode cX12_host 13 = .ok (.iastore, 1) := by decide +kernel
theorem dX12_host_14 : decode cX12_host 14 = .ok (.aload_n 1, 1) := by decide +kernel
theorem dX12_host_15 : decode cX12_host 15 = .ok (.iconst 5, 1) := by decide +kernel
theorem dX12_host_16 : decode cX12_host 16 = .ok (.bipush (-38), 2) := by decide +kernel
theorem dX12_host_18 : decode cX12_host 18 = .ok (.iastore, 1) := by decide +kernel
theorem dX12_host_19 : decode cX12_host 19 = .ok (.aload_n 1, 1) := by decide +kernel
theorem dX12_host_20 : decode cX12_host 20 = .ok (.bipush 6, 2) := by decide +kernel
theorem dX12_host_22 : decode cX12_host 22 = .ok (.ldc_w 363, 3) := by decide +kernel
theorem dX12_host_25 : decode cX12_host 25 = .ok (.iastore, 1) := by decide +kernel
theorem dX12_host_26 : decode cX12_host 26 = .ok (.aload_n 1, 1) := by decide +kernel
theorem dX12_host_27 : decode cX12_host 27 = .ok (.bipush 7, 2) := by decide +kernel
theorem dX12_host_29 : decode cX12_host 29 = .ok (.ldc_w 364, 3) := by decide +kernel
theorem dX12_host_32 : decode cX12_host 32 = .ok (.iastore, 1) := by decide +kernel
theorem dX12_host_33 : decode cX12_host 33 = .ok (.aload_n 2, 1) := by decide +kernel
theorem dX12_host_34 : decode cX12_host 34 = .ok (.iconst 4, 1) := by decide +kernel
theorem dX12_host_35 : decode cX12_host 35 = .ok (.sipush (-31595), 3) := by decide +kernel
theorem dX12_host_38 : decode cX12_host 38 = .ok (.iastore, 1) := by decide +kernel
theorem dX12_host_39 : decode cX12_host 39 = .ok (.aload_n 2, 1) := by decide +kernel
theorem dX12_host_40 : decode cX12_host 40 = .ok (.iconst 5, 1) := by decide +kernel
theorem dX12_host_41 : decode cX12_host 41 = .ok (.ldc_w 365, 3) := by decide +kernel
theorem dX12_host_44 : decode cX12_host 44 = .ok (.iastore, 1) := by decide +kernel
theorem dX12_host_45 : decode cX12_host 45 = .ok (.aload_n 2, 1) := by decide +kernel
theorem dX12_host_46 : decode cX12_host 46 = .ok (.bipush 6, 2) := by decide +kernel
theorem dX12_host_48 : decode cX12_host 48 = .ok (.ldc_w 366, 3) := by decide +kernel
theorem dX12_host_51 : decode cX12_host 51 = .ok (.iastore, 1) := by decide +kernel
theorem dX12_host_52 : decode cX12_host 52 = .ok (.aload_n 2, 1) := by decide +kernel
theorem dX12_host_53 : decode cX12_host 53 = .ok (.bipush 7, 2) := by decide +kernel
theorem dX12_host_55 : decode cX12_host 55 = .ok (.ldc_w 367, 3) := by decide +kernel
theorem dX12_host_58 : decode cX12_host 58 = .ok (.iastore, 1) := by decide +kernel
theorem dX12_host_59 : decode cX12_host 59 = .ok (.aload_n 1, 1) := by decide +kernel
theorem dX12_host_60 : decode cX12_host 60 = .ok (.iconst 0, 1) := by decide +kernel
theorem dX12_host_61 : decode cX12_host 61 = .ok (.aload_n 0, 1) := by decide +kernel
theorem dX12_host_62 : decode cX12_host 62 = .ok (.getfield 280, 3) := by decide +kernel
theorem dX12_host_65 : decode cX12_host 65 = .ok (.invokestatic 368, 3) := by decide +kernel
theorem dX12_host_68 : decode cX12_host 68 = .ok (.aload_n 2, 1) := by decide +kernel
theorem dX12_host_69 : decode cX12_host 69 = .ok (.iconst 0, 1) := by decide +kernel
theorem dX12_host_70 : decode cX12_host 70 = .ok (.aload_n 0, 1) := by decide +kernel
theorem dX12_host_71 : decode cX12_host 71 = .ok (.getfield 283, 3) := by decide +kernel
theorem dX12_host_74 : decode cX12_host 74 = .ok (.invokestatic 368, 3) := by decide +kernel
theorem dX12_host_77 : decode cX12_host 77 = .ok (.aload_n 0, 1) := by decide +kernel
theorem dX12_host_78 : decode cX12_host 78 = .ok (.aload_n 0, 1) := by decide +kernel
theorem dX12_host_79 : decode cX12_host 79 = .ok (.getfield 280, 3) := by decide +kernel
theorem dX12_host_82 : decode cX12_host 82 = .ok (.aload_n 0, 1) := by decide +kernel
theorem dX12_host_83 : decode cX12_host 83 = .ok (.getfield 283, 3) := by decide +kernel
theorem dX12_host_86 : decode cX12_host 86 = .ok (.invokevirtual 359, 3) := by decide +kernel
theorem dX12_host_89 : decode cX12_host 89 = .ok (.iconst 0, 1) := by decide +kernel
theorem dX12_host_90 : decode cX12_host 90 = .ok (.istore_n 3, 1) := by decide +kernel
theorem dX12_host_91 : decode cX12_host 91 = .ok (.iload_n 3, 1) := by decide +kernel
theorem dX12_host_92 : decode cX12_host 92 = .ok (.bipush 16, 2) := by decide +kernel
theorem dX12_host_94 : decode cX12_host 94 = .ok (.if_icmp .ge 21, 3) := by decide +kernel
theorem dX12_host_97 : decode cX12_host 97 = .ok (.aload_n 0, 1) := by decide +kernel
theorem dX12_host_98 : decode cX12_host 98 = .ok (.getfield 271, 3) := by decide +kernel
theorem dX12_host_101 : decode cX12_host 101 = .ok (.iload_n 3, 1) := by decide +kernel
theorem dX12_host_102 : decode cX12_host 102 = .ok (.aload_n 0, 1) := by decide +kernel
theorem dX12_host_103 : decode cX12_host 103 = .ok (.getfield 274, 3) := by decide +kernel
theorem dX12_host_106 : decode cX12_host 106 = .ok (.iload_n 3, 1) := by decide +kernel
theorem dX12_host_107 : decode cX12_host 107 = .ok (.iaload, 1) := by decide +kernel
theorem dX12_host_108 : decode cX12_host 108 = .ok (.iastore, 1) := by decide +kernel
theorem dX12_host_109 : decode cX12_host 109 = .ok (.iinc 3 1, 3) := by decide +kernel
theorem dX12_host_112 : decode cX12_host 112 = .ok (.goto (-21), 3) := by decide +kernel
theorem dX12_host_115 : decode cX12_host 115 = .ok (.aload_n 0, 1) := by decide +kernel
theorem dX12_host_116 : decode cX12_host 116 = .ok (.getfield 271, 3) := by decide +kernel
theorem dX12_host_119 : decode cX12_host 119 = .ok (.aload_n 0, 1) := by decide +kernel
theorem dX12_host_120 : decode cX12_host 120 = .ok (.getfield 226, 3) := by decide +kernel
theorem dX12_host_123 : decode cX12_host 123 = .ok (.iconst 0, 1) := by decide +kernel
theorem dX12_host_124 : decode cX12_host 124 = .ok (.invokestatic 372, 3) := by decide +kernel
theorem dX12_host_127 : decode cX12_host 127 = .ok (.aload_n 0, 1) := by decide +kernel
theorem dX12_host_128 : decode cX12_host 128 = .ok (.getfield 280, 3) := by decide +kernel
theorem dX12_host_131 : decode cX12_host 131 = .ok (.invokestatic 376, 3) := by decide +kernel
theorem dX12_host_134 : decode cX12_host 134 = .ok (.aload_n 0, 1) := by decide +kernel
theorem dX12_host_135 : decode cX12_host 135 = .ok (.getfield 283, 3) := by decide +kernel
theorem dX12_host_138 : decode cX12_host 138 = .ok (.invokestatic 376, 3) := by decide +kernel
theorem dX12_host_141 : decode cX12_host 141 = .ok (.aload_n 0, 1) := by decide +kernel
theorem dX12_host_142 : decode cX12_host 142 = .ok (.aload_n 0, 1) := by decide +kernel
theorem dX12_host_143 : decode cX12_host 143 = .ok (.getfield 280, 3) := by decide +kernel
theorem dX12_host_146 : decode cX12_host 146 = .ok (.aload_n 0, 1) := by decide +kernel
theorem dX12_host_147 : decode cX12_host 147 = .ok (.getfield 283, 3) := by decide +kernel
theorem dX12_host_150 : decode cX12_host 150 = .ok (.invokevirtual 359, 3) := by decide +kernel
theorem dX12_host_153 : decode cX12_host 153 = .ok (.lconst 0, 1) := by decide +kernel
theorem dX12_host_154 : decode cX12_host 154 = .ok (.lstore_n 3, 1) := by decide +kernel
theorem dX12_host_155 : decode cX12_host 155 = .ok (.bipush 15, 2) := by decide +kernel
theorem dX12_host_157 : decode cX12_host 157 = .ok (.istore 5, 2) := by decide +kernel
theorem dX12_host_159 : decode cX12_host 159 = .ok (.iload 5, 2) := by decide +kernel
theorem dX12_host_161 : decode cX12_host 161 = .ok (.ifCond .lt 28, 3) := by decide +kernel
theorem dX12_host_164 : decode cX12_host 164 = .ok (.ldc2_w 343, 3) := by decide +kernel
theorem dX12_host_167 : decode cX12_host 167 = .ok (.lload_n 3, 1) := by decide +kernel
theorem dX12_host_168 : decode cX12_host 168 = .ok (.lmul, 1) := by decide +kernel
theorem dX12_host_169 : decode cX12_host 169 = .ok (.aload_n 0, 1) := by decide +kernel
theorem dX12_host_170 : decode cX12_host 170 = .ok (.getfield 274, 3) := by decide +kernel
theorem dX12_host_173 : decode cX12_host 173 = .ok (.iload 5, 2) := by decide +kernel
theorem dX12_host_175 : decode cX12_host 175 = .ok (.iaload, 1) := by decide +kernel
theorem dX12_host_176 : decode cX12_host 176 = .ok (.i2l, 1) := by decide +kernel
theorem dX12_host_177 : decode cX12_host 177 = .ok (.ladd, 1) := by decide +kernel
theorem dX12_host_178 : decode cX12_host 178 = .ok (.ldc2_w 379, 3) := by decide +kernel
theorem dX12_host_181 : decode cX12_host 181 = .ok (.lrem, 1) := by decide +kernel
theorem dX12_host_182 : decode cX12_host 182 = .ok (.lstore_n 3, 1) := by decide +kernel
theorem dX12_host_183 : decode cX12_host 183 = .ok (.iinc 5 (-1), 3) := by decide +kernel
theorem dX12_host_186 : decode cX12_host 186 = .ok (.goto (-27), 3) := by decide +kernel
theorem dX12_host_189 : decode cX12_host 189 = .ok (.iconst 0, 1) := by decide +kernel
theorem dX12_host_190 : decode cX12_host 190 = .ok (.istore 5, 2) := by decide +kernel
theorem dX12_host_192 : decode cX12_host 192 = .ok (.lconst 1, 1) := by decide +kernel
theorem dX12_host_193 : decode cX12_host 193 = .ok (.iload 5, 2) := by decide +kernel
theorem dX12_host_195 : decode cX12_host 195 = .ok (.i2l, 1) := by decide +kernel
theorem dX12_host_196 : decode cX12_host 196 = .ok (.lload_n 3, 1) := by decide +kernel
theorem dX12_host_197 : decode cX12_host 197 = .ok (.lmul, 1) := by decide +kernel
theorem dX12_host_198 : decode cX12_host 198 = .ok (.ladd, 1) := by decide +kernel
theorem dX12_host_199 : decode cX12_host 199 = .ok (.ldc2_w 379, 3) := by decide +kernel
theorem dX12_host_202 : decode cX12_host 202 = .ok (.lrem, 1) := by decide +kernel
theorem dX12_host_203 : decode cX12_host 203 = .ok (.lconst 0, 1) := by decide +kernel
theorem dX12_host_204 : decode cX12_host 204 = .ok (.lcmp, 1) := by decide +kernel
theorem dX12_host_205 : decode cX12_host 205 = .ok (.ifCond .eq 9, 3) := by decide +kernel
theorem dX12_host_208 : decode cX12_host 208 = .ok (.iinc 5 1, 3) := by decide +kernel
theorem dX12_host_211 : decode cX12_host 211 = .ok (.goto (-19), 3) := by decide +kernel
theorem dX12_host_214 : decode cX12_host 214 = .ok (.lconst 1, 1) := by decide +kernel
theorem dX12_host_215 : decode cX12_host 215 = .ok (.lstore 6, 2) := by decide +kernel
theorem dX12_host_217 : decode cX12_host 217 = .ok (.iconst 0, 1) := by decide +kernel
theorem dX12_host_218 : decode cX12_host 218 = .ok (.istore 8, 2) := by decide +kernel
theorem dX12_host_220 : decode cX12_host 220 = .ok (.iload 8, 2) := by decide +kernel
theorem dX12_host_222 : decode cX12_host 222 = .ok (.bipush 18, 2) := by decide +kernel
theorem dX12_host_224 : decode cX12_host 224 = .ok (.if_icmp .ge 58, 3) := by decide +kernel
theorem dX12_host_227 : decode cX12_host 227 = .ok (.lload 6, 2) := by decide +kernel
theorem dX12_host_229 : decode cX12_host 229 = .ok (.iload 8, 2) := by decide +kernel
theorem dX12_host_231 : decode cX12_host 231 = .ok (.bipush 16, 2) := by decide +kernel
theorem dX12_host_233 : decode cX12_host 233 = .ok (.if_icmp .ge 18, 3) := by decide +kernel
theorem dX12_host_236 : decode cX12_host 236 = .ok (.iload 5, 2) := by decide +kernel
theorem dX12_host_238 : decode cX12_host 238 = .ok (.i2l, 1) := by decide +kernel
theorem dX12_host_239 : decode cX12_host 239 = .ok (.aload_n 0, 1) := by decide +kernel
theorem dX12_host_240 : decode cX12_host 240 = .ok (.getfield 274, 3) := by decide +kernel
theorem dX12_host_243 : decode cX12_host 243 = .ok (.iload 8, 2) := by decide +kernel
theorem dX12_host_245 : decode cX12_host 245 = .ok (.iaload, 1) := by decide +kernel
theorem dX12_host_246 : decode cX12_host 246 = .ok (.i2l, 1) := by decide +kernel
theorem dX12_host_247 : decode cX12_host 247 = .ok (.lmul, 1) := by decide +kernel
theorem dX12_host_248 : decode cX12_host 248 = .ok (.goto 4, 3) := by decide +kernel
theorem dX12_host_251 : decode cX12_host 251 = .ok (.lconst 0, 1) := by decide +kernel
theorem dX12_host_252 : decode cX12_host 252 = .ok (.ladd, 1) := by decide +kernel
theorem dX12_host_253 : decode cX12_host 253 = .ok (.lstore 6, 2) := by decide +kernel
theorem dX12_host_255 : decode cX12_host 255 = .ok (.aload_n 0, 1) := by decide +kernel
theorem dX12_host_256 : decode cX12_host 256 = .ok (.getfield 229, 3) := by decide +kernel
theorem dX12_host_259 : decode cX12_host 259 = .ok (.iload 8, 2) := by decide +kernel
theorem dX12_host_261 : decode cX12_host 261 = .ok (.lload 6, 2) := by decide +kernel
theorem dX12_host_263 : decode cX12_host 263 = .ok (.ldc2_w 345, 3) := by decide +kernel
theorem dX12_host_266 : decode cX12_host 266 = .ok (.land, 1) := by decide +kernel
theorem dX12_host_267 : decode cX12_host 267 = .ok (.l2i, 1) := by decide +kernel
theorem dX12_host_268 : decode cX12_host 268 = .ok (.iastore, 1) := by decide +kernel
theorem dX12_host_269 : decode cX12_host 269 = .ok (.lload 6, 2) := by decide +kernel
theorem dX12_host_271 : decode cX12_host 271 = .ok (.bipush 16, 2) := by decide +kernel
theorem dX12_host_273 : decode cX12_host 273 = .ok (.lshr, 1) := by decide +kernel
theorem dX12_host_274 : decode cX12_host 274 = .ok (.lstore 6, 2) := by decide +kernel
theorem dX12_host_276 : decode cX12_host 276 = .ok (.iinc 8 1, 3) := by decide +kernel
theorem dX12_host_279 : decode cX12_host 279 = .ok (.goto (-59), 3) := by decide +kernel
theorem dX12_host_282 : decode cX12_host 282 = .ok (.lconst 0, 1) := by decide +kernel
theorem dX12_host_283 : decode cX12_host 283 = .ok (.lstore 8, 2) := by decide +kernel
theorem dX12_host_285 : decode cX12_host 285 = .ok (.bipush 17, 2) := by decide +kernel
theorem dX12_host_287 : decode cX12_host 287 = .ok (.istore 10, 2) := by decide +kernel
theorem dX12_host_289 : decode cX12_host 289 = .ok (.iload 10, 2) := by decide +kernel
theorem dX12_host_291 : decode cX12_host 291 = .ok (.ifCond .lt 48, 3) := by decide +kernel
theorem dX12_host_294 : decode cX12_host 294 = .ok (.ldc2_w 343, 3) := by decide +kernel
theorem dX12_host_297 : decode cX12_host 297 = .ok (.lload 8, 2) := by decide +kernel
theorem dX12_host_299 : decode cX12_host 299 = .ok (.lmul, 1) := by decide +kernel
theorem dX12_host_300 : decode cX12_host 300 = .ok (.aload_n 0, 1) := by decide +kernel
theorem dX12_host_301 : decode cX12_host 301 = .ok (.getfield 229, 3) := by decide +kernel
theorem dX12_host_304 : decode cX12_host 304 = .ok (.iload 10, 2) := by decide +kernel
theorem dX12_host_306 : decode cX12_host 306 = .ok (.iaload, 1) := by decide +kernel
theorem dX12_host_307 : decode cX12_host 307 = .ok (.i2l, 1) := by decide +kernel
theorem dX12_host_308 : decode cX12_host 308 = .ok (.ladd, 1) := by decide +kernel
theorem dX12_host_309 : decode cX12_host 309 = .ok (.lstore 8, 2) := by decide +kernel
theorem dX12_host_311 : decode cX12_host 311 = .ok (.aload_n 0, 1) := by decide +kernel
theorem dX12_host_312 : decode cX12_host 312 = .ok (.getfield 229, 3) := by decide +kernel
theorem dX12_host_315 : decode cX12_host 315 = .ok (.iload 10, 2) := by decide +kernel
theorem dX12_host_317 : decode cX12_host 317 = .ok (.lload 8, 2) := by decide +kernel
theorem dX12_host_319 : decode cX12_host 319 = .ok (.ldc2_w 379, 3) := by decide +kernel
theorem dX12_host_322 : decode cX12_host 322 = .ok (.ldiv, 1) := by decide +kernel
theorem dX12_host_323 : decode cX12_host 323 = .ok (.l2i, 1) := by decide +kernel
theorem dX12_host_324 : decode cX12_host 324 = .ok (.iastore, 1) := by decide +kernel
theorem dX12_host_325 : decode cX12_host 325 = .ok (.lload 8, 2) := by decide +kernel
theorem dX12_host_327 : decode cX12_host 327 = .ok (.ldc2_w 379, 3) := by decide +kernel
theorem dX12_host_330 : decode cX12_host 330 = .ok (.lrem, 1) := by decide +kernel
theorem dX12_host_331 : decode cX12_host 331 = .ok (.lstore 8, 2) := by decide +kernel
theorem dX12_host_333 : decode cX12_host 333 = .ok (.iinc 10 (-1), 3) := by decide +kernel
theorem dX12_host_336 : decode cX12_host 336 = .ok (.goto (-47), 3) := by decide +kernel
theorem dX12_host_339 : decode cX12_host 339 = .ok (.return_, 1) := by decide +kernel
noncomputable def X12_host_l289  (r289_31 : Nat) (t289_31 : (Nat → Int32) × (Int64)) : (Nat → Int32) × (Int64) :=
  let y34 := (((65536 : Int64)) * t289_31.2) + ((t289_31.1 r289_31).toInt64)
  let y35 := (y34 / ((65537 : Int64))).toInt32
  let y36 := y34 - y34 / ((65537 : Int64)) * ((65537 : Int64))
  (upd t289_31.1 r289_31 y35, y36)
noncomputable def X12_host_m233 (u20 : (Nat → Int32)) (g192_26 : (Nat)) (k220_28 : Nat) : (Int64) :=
  if 16 ≤ k220_28 then
  ((0 : Int64))
  else
  (((nI g192_26).toInt64) * ((u20 k220_28).toInt64))
noncomputable def X12_host_l220 (u20 : (Nat → Int32)) (g192_26 : (Nat)) (k220_28 : Nat) (t220_28 : (Nat → Int32) × (Int64)) : (Nat → Int32) × (Int64) :=
  let g233_38 := X12_host_m233 u20 g192_26 k220_28
  let y40 := t220_28.2 + g233_38
  let y41 := (y40 &&& ((65535 : Int64))).toInt32
  let y42 := y40 >>> ((nI 16).toInt64 &&& 63)
  (upd t220_28.1 k220_28 y41, y42)
noncomputable def X12_host_l192 (t159_23 : (Int64)) (k192_25 : Nat) (t192_25 : (Nat)) : ((Nat)) ⊕ ((Nat)) :=
  if (lg_cmp ((((1 : Int64)) + (((nI t192_25).toInt64) * t159_23)) - (((1 : Int64)) + (((nI t192_25).toInt64) * t159_23)) / ((65537 : Int64)) * ((65537 : Int64))) ((0 : Int64))) = 0 then
  (.inr t192_25)
  else
  (.inl (t192_25 + 1))
noncomputable def X12_host_l159 (u20 : (Nat → Int32)) (r159_23 : Nat) (t159_23 : (Int64)) : (Int64) :=
  let y46 := ((((65536 : Int64)) * t159_23) + ((u20 r159_23).toInt64)) - ((((65536 : Int64)) * t159_23) + ((u20 r159_23).toInt64)) / ((65537 : Int64)) * ((65537 : Int64))
  y46
noncomputable def X12_host_l91 (u10 : (Nat → Int32)) (k91_12 : Nat) (t91_12 : (Nat → Int32)) : (Nat → Int32) :=
  let y48 := u10 k91_12
  upd t91_12 k91_12 y48
noncomputable def f_X12_host (f_one : Nat → Int32) (f_other : Nat → Int32) (f_product : Nat → Int32) (f_result : Nat → Int32) (f_hostN : Nat → Int32) (f_hostD : Nat → Int32) : (Nat → Int32) × (Nat → Int32) × (Nat → Int32) × (Nat → Int32) × (Nat → Int32) × (Nat → Int32) :=
  let y1 := (-1)
  let y2 := (-38)
  let y3 := (-31595)
  let y4 := (-1135079313)
  let y5 := (-533896966)
  let u6 := f_X12_figures (upd (upd (upd (upd (fun _ => 0) 4 y1) 5 y2) 6 (nI 227306690)) 7 (nI 1250951133)) f_one 0
  let u8 := f_X12_figures (upd (upd (upd (upd (fun _ => 0) 4 y3) 5 y4) 6 y5) 7 (nI 102221845)) f_other 0
  let u10 := f_X12_multiply f_product u6 u8
  let t91_12 := itr (X12_host_l91 u10) f_result 16
  let u14 := f_X12_toWords t91_12 f_hostN 0
  let u16 := f_X12_lessOne u6
  let u18 := f_X12_lessOne u8
  let u20 := f_X12_multiply u10 u16 u18
  let y22 := (0 : Int64)
  let t159_23 := itd (X12_host_l159 u20) 16 y22
  let g192_26 := mrg (itx (X12_host_l192 t159_23) (9628 + 1) 0 0)
  let y27 := (1 : Int64)
  let t220_28 := itr (X12_host_l220 u20 g192_26) ((f_hostD, y27)) 18
  let y30 := (0 : Int64)
  let t289_31 := itd X12_host_l289 18 ((t220_28.1, y30))
  (t289_31.1, u14, u16, u18, u20, t91_12)
theorem VV_cutn {t : Nat → Int32} {n : Nat} : ∀ j, VV t (n + j) < 65536 ^ n → VV t (n + j) = VV t n
  | 0, _ => rfl
  | j + 1, h => by
    have h1 : VV t (n + j + 1) < 65536 ^ (n + j) := Nat.lt_of_lt_of_le h (Nat.pow_le_pow_right (by decide) (by omega))
    have h2 := VV_cut h1
    rw [show n + (j + 1) = n + j + 1 from rfl] at h ⊢
    rw [h2] at h ⊢
    exact VV_cutn j h
theorem VV_pred {a : Nat → Int32} (hd : DG 16 a) (h : ¬ a 0 = 0) : DG 16 (upd a 0 (a 0 - nI 1)) ∧ VV (upd a 0 (a 0 - nI 1)) 16 + 1 = VV a 16 := by
  obtain ⟨h1, h2⟩ := hd 0 (by decide)
  have hp : 1 ≤ dv a 0 := Nat.pos_of_ne_zero (fun q => h (by rw [h1, q]; rfl))
  have e : a 0 - nI 1 = nI (dv a 0 - 1) := by rw [h1, pk_sub hp]
  have e0 : upd a 0 (a 0 - nI 1) 0 = nI (dv a 0 - 1) := by rw [pk_us]; exact e
  constructor
  · intro k hk
    by_cases q : k = 0
    · subst q; exact dg_of e0 (by omega)
    · exact dg_of (d := dv a k) (by rw [pk_un q]; exact (hd k hk).1) (hd k hk).2
  · have s1 := VV_shift (f := fun k => a (k + 1)) (g := a) (fun _ => rfl) 15
    have s2 := VV_shift (f := fun k => a (k + 1)) (g := upd a 0 (a 0 - nI 1)) (fun k => pk_un (by omega)) 15
    rw [dv_nI e0 (by omega)] at s2
    rw [show (16 : Nat) = 15 + 1 from rfl, s1, s2]
    omega
theorem lessOne_is {a : Nat → Int32} (h : ¬ a 0 = 0) : f_X12_lessOne a = upd a 0 (a 0 - nI 1) := by
  have hb : X12_lessOne_l2 0 (a, 0) = .inr (a, 0) := by
    simp only [X12_lessOne_l2, if_neg h]
  unfold f_X12_lessOne
  rw [itx_out hb]
  rfl
theorem hp_step {u : Nat → Int32} (hd : DG 16 u) {r z : Nat} (hr : r < 16) (hz : z < 65537) : X12_host_l159 u r (lI (z : Int)) = lI (((65536 * z + dv u r) % 65537 : Nat) : Int) := by
  obtain ⟨h1, h2⟩ := hd r hr
  have hB : (65536 : Int64) = lI ((65536 : Nat) : Int) := rfl
  have hE : (65537 : Int64) = lI ((65537 : Nat) : Int) := rfl
  simp only [X12_host_l159]
  rw [h1, nI_lI (by omega), hB, lI_mul, lI_add]
  have e1 : ((65536 : Nat) : Int) * (z : Int) + (dv u r : Int) = ((65536 * z + dv u r : Nat) : Int) := by omega
  rw [e1, hE, lI_div (by omega) (by omega) (by decide), lI_mul, lI_sub]
  congr 1
  omega
theorem hp_go {u : Nat → Int32} (hd : DG 16 u) : ∀ r, r ≤ 16 → ∀ z : Nat, z < 65537 → itd (X12_host_l159 u) r (lI (z : Int)) = lI (((z * 65536 ^ r + VV u r) % 65537 : Nat) : Int)
  | 0, _, z, hz => by
    rw [itd_0, Nat.pow_zero, Nat.mul_one, show VV u 0 = 0 from rfl, Nat.add_zero, Nat.mod_eq_of_lt hz]
  | r + 1, hr, z, hz => by
    rw [itd_s, hp_step hd (by omega) hz, hp_go hd r (by omega) _ (Nat.mod_lt _ (by decide)), VV_s]
    congr 2
    have e : (65536 * z + dv u r) * 65536 ^ r + VV u r = z * 65536 ^ (r + 1) + (VV u r + dv u r * 65536 ^ r) := by
      rw [Nat.pow_succ]
      generalize 65536 ^ r = P
      grind
    rw [← e, Nat.add_mod, Nat.mul_mod, Nat.mod_mod, ← Nat.mul_mod, ← Nat.add_mod]
abbrev HPn : Nat := 0xffffffffffffffda0d8c6cc24a8fffdd
abbrev HQn : Nat := 0xffff8495bc58106fe02d60fa0617c815
theorem host_p {y1 y2 : Int32} (e1 : y1 = (-1)) (e2 : y2 = (-38)) (g : Nat → Int32) : VV (f_X12_figures (upd (upd (upd (upd (fun _ => 0) 4 y1) 5 y2) 6 (nI 227306690)) 7 (nI 1250951133)) g 0) 16 = HPn := by
  rw [figures_is]
  subst e1; subst e2
  decide +kernel
theorem host_q {y3 y4 y5 : Int32} (e3 : y3 = (-31595)) (e4 : y4 = (-1135079313)) (e5 : y5 = (-533896966)) (g : Nat → Int32) : VV (f_X12_figures (upd (upd (upd (upd (fun _ => 0) 4 y3) 5 y4) 6 y5) 7 (nI 102221845)) g 0) 16 = HQn := by
  rw [figures_is]
  subst e3; subst e4; subst e5
  decide +kernel
theorem fig_0 {f g : Nat → Int32} (h : ¬ uw (f 7) % 65536 = 0) : ¬ f_X12_figures f g 0 0 = 0 := by
  intro q
  have e := figures_at f g 0 0
  rw [if_pos (by decide), q] at e
  simp only [X12_figures_m25] at e
  rw [if_pos (by decide), and16] at e
  exact h ((nI_eq (a := uw (f 7) % 65536) (b := 0) (by omega) (by decide)).mp e.symm)
/-- the rest of (p - 1) (q - 1) -/
theorem host_part {a b P : Nat → Int32} (ha : DG 16 a) (hb : DG 16 b) (ha0 : ¬ a 0 = 0) (hb0 : ¬ b 0 = 0) (hA : VV a 16 = HPn) (hB : VV b 16 = HQn) : itd (X12_host_l159 (f_X12_multiply P (f_X12_lessOne a) (f_X12_lessOne b))) 16 (0 : Int64) = lI ((22633 : Nat) : Int) := by
  obtain ⟨a1, a2⟩ := VV_pred ha ha0
  obtain ⟨b1, b2⟩ := VV_pred hb hb0
  rw [lessOne_is ha0, lessOne_is hb0]
  obtain ⟨m1, m2⟩ := multiply_is (P := P) a1 b1
  generalize f_X12_multiply P (upd a 0 (a 0 - nI 1)) (upd b 0 (b 0 - nI 1)) = u at m1 m2 ⊢
  rw [hA] at a2
  rw [hB] at b2
  have ea : VV (upd a 0 (a 0 - nI 1)) 16 = HPn - 1 := by omega
  have eb : VV (upd b 0 (b 0 - nI 1)) 16 = HQn - 1 := by omega
  rw [ea, eb] at m2
  have hc : VV u (16 + 16) = VV u 16 := VV_cutn 16 (by
    have : VV u (16 + 16) = (HPn - 1) * (HQn - 1) := m2
    rw [this]
    decide +kernel)
  have e16 : VV u 16 = (HPn - 1) * (HQn - 1) := hc.symm.trans m2
  have := hp_go (u := u) (fun k hk => m1 k (by omega)) 16 (Nat.le_refl _) 0 (by decide)
  rw [e16] at this
  exact this.trans (by
    have : (0 * 65536 ^ 16 + (HPn - 1) * (HQn - 1)) % 65537 = 22633 := by decide +kernel
    rw [this])
theorem host_stop {t : Int64} (h : t = lI ((22633 : Nat) : Int)) : lg_cmp ((((1 : Int64)) + (((nI 9628).toInt64) * t)) - (((1 : Int64)) + (((nI 9628).toInt64) * t)) / ((65537 : Int64)) * ((65537 : Int64))) ((0 : Int64)) = 0 := by
  subst h
  decide +kernel
theorem host_inv {t : Int64} {k r : Nat} (h : t = lI ((22633 : Nat) : Int)) (hi : k ≤ 9628 ∧ k + (r + 1) = 9628 + 1) (c : ¬ lg_cmp ((((1 : Int64)) + (((nI k).toInt64) * t)) - (((1 : Int64)) + (((nI k).toInt64) * t)) / ((65537 : Int64)) * ((65537 : Int64))) ((0 : Int64)) = 0) : k + 1 ≤ 9628 ∧ k + 1 + r = 9628 + 1 := by
  have : k ≠ 9628 := fun q => c (by rw [q]; exact host_stop h)
  omega
set_option maxHeartbeats 4000000 in
set_option maxRecDepth 100000 in
theorem c_X12_host (l : Launch) (D : va_G) (ct : Nat → ClassId) (ts : Nat → Nat) (a_this : Nat) (ad : Nat → Nat) (v_thrown : Int32) (v_connections : Int32) (v_size : Nat) (v_ids : Nat) (v_dataAll : Nat) (v_putCount : Nat) (v_waiting : Nat) (v_readSize : Nat) (v_power : Int32) (v_left : Int32) (v_since : Int32) (v_changes : Int32) (v_rowSize : Nat) (f_one : Nat → Int32) (f_other : Nat → Int32) (f_product : Nat → Int32) (f_result : Nat → Int32) (f_hostN : Nat → Int32) (f_hostD : Nat → Int32)    (sz : Nat) : Met l yX12_host (Cond.code yX12_host cX12_host 11 none :: tb) { frames := 1, cells := 2, slots := 16, locals := 26 } (PcG D ct SXL ts [.ref a_this] [(a_this, .inr (12, mfs ad v_thrown v_connections (nI v_size) (nI v_ids) (nI v_dataAll) (nI v_putCount) (nI v_waiting) (nI v_readSize) v_power v_left v_since v_changes (nI v_rowSize))), (ad 75, .inl (ct 0, 16, .inl f_one)), (ad 76, .inl (ct 0, 16, .inl f_other)), (ad 73, .inl (ct 0, 32, .inl f_product)), (ad 72, .inl (ct 0, 16, .inl f_result)), (ad 57, .inl (ct 0, 8, .inl f_hostN)), (ad 58, .inl (ct 0, 18, .inl f_hostD))] sz) (va_Qv (fun u : (Nat → Int32) × (Nat → Int32) × (Nat → Int32) × (Nat → Int32) × (Nat → Int32) × (Nat → Int32) => u = f_X12_host f_one f_other f_product f_result f_hostN f_hostD) (fun u => BG D ct (va_A [(a_this, .inr (12, mfs ad v_thrown v_connections (nI v_size) (nI v_ids) (nI v_dataAll) (nI v_putCount) (nI v_waiting) (nI v_readSize) v_power v_left v_since v_changes (nI v_rowSize))), (ad 75, .inl (ct 0, 16, .inl f_one)), (ad 76, .inl (ct 0, 16, .inl f_other)), (ad 73, .inl (ct 0, 32, .inl f_product)), (ad 72, .inl (ct 0, 16, .inl f_result)), (ad 57, .inl (ct 0, 8, .inl f_hostN)), (ad 58, .inl (ct 0, 18, .inl f_hostD))] sz) [(a_this, .inr (12, mfs ad v_thrown v_connections (nI v_size) (nI v_ids) (nI v_dataAll) (nI v_putCount) (nI v_waiting) (nI v_readSize) v_power v_left v_since v_changes (nI v_rowSize))), (ad 75, .inl (ct 0, 16, .inl u.2.2.1)), (ad 76, .inl (ct 0, 16, .inl u.2.2.2.1)), (ad 73, .inl (ct 0, 32, .inl u.2.2.2.2.1)), (ad 72, .inl (ct 0, 16, .inl u.2.2.2.2.2)), (ad 57, .inl (ct 0, 8, .inl u.2.1)), (ad 58, .inl (ct 0, 18, .inl u.1))]) (va_A [(a_this, .inr (12, mfs ad v_thrown v_connections (nI v_size) (nI v_ids) (nI v_dataAll) (nI v_putCount) (nI v_waiting) (nI v_readSize) v_power v_left v_since v_changes (nI v_rowSize))), (ad 75, .inl (ct 0, 16, .inl f_one)), (ad 76, .inl (ct 0, 16, .inl f_other)), (ad 73, .inl (ct 0, 32, .inl f_product)), (ad 72, .inl (ct 0, 16, .inl f_result)), (ad 57, .inl (ct 0, 8, .inl f_hostN)), (ad 58, .inl (ct 0, 18, .inl f_hostD))] sz)) 2 16 (va_A [(a_this, .inr (12, mfs ad v_thrown v_connections (nI v_size) (nI v_ids) (nI v_dataAll) (nI v_putCount) (nI v_waiting) (nI v_readSize) v_power v_left v_since v_changes (nI v_rowSize))), (ad 75, .inl (ct 0, 16, .inl f_one)), (ad 76, .inl (ct 0, 16, .inl f_other)), (ad 73, .inl (ct 0, 32, .inl f_product)), (ad 72, .inl (ct 0, 16, .inl f_result)), (ad 57, .inl (ct 0, 8, .inl f_hostN)), (ad 58, .inl (ct 0, 18, .inl f_hostD))] sz) := by
  refine metJ (l := l) (y := yX12_host) (cc := cX12_host) (maxL := 11) (ret := none) (rm := { frames := 1, cells := 2, slots := 16, locals := 26 }) (D := D) (ct := ct) (L := SXL) (ts := ts) (av := [.ref a_this]) (ws := [(a_this, .inr (12, mfs ad v_thrown v_connections (nI v_size) (nI v_ids) (nI v_dataAll) (nI v_putCount) (nI v_waiting) (nI v_readSize) v_power v_left v_since v_changes (nI v_rowSize))), (ad 75, .inl (ct 0, 16, .inl f_one)), (ad 76, .inl (ct 0, 16, .inl f_other)), (ad 73, .inl (ct 0, 32, .inl f_product)), (ad 72, .inl (ct 0, 16, .inl f_result)), (ad 57, .inl (ct 0, 8, .inl f_hostN)), (ad 58, .inl (ct 0, 18, .inl f_hostD))]) (sz := sz) (mc := 2) (ms := 16) (QcF := fun A => va_Qv (fun u : (Nat → Int32) × (Nat → Int32) × (Nat → Int32) × (Nat → Int32) × (Nat → Int32) × (Nat → Int32) => u = f_X12_host f_one f_other f_product f_result f_hostN f_hostD) (fun u => BG D ct A [(a_this, .inr (12, mfs ad v_thrown v_connections (nI v_size) (nI v_ids) (nI v_dataAll) (nI v_putCount) (nI v_waiting) (nI v_readSize) v_power v_left v_since v_changes (nI v_rowSize))), (ad 75, .inl (ct 0, 16, .inl u.2.2.1)), (ad 76, .inl (ct 0, 16, .inl u.2.2.2.1)), (ad 73, .inl (ct 0, 32, .inl u.2.2.2.2.1)), (ad 72, .inl (ct 0, 16, .inl u.2.2.2.2.2)), (ad 57, .inl (ct 0, 8, .inl u.2.1)), (ad 58, .inl (ct 0, 18, .inl u.1))]) A) (by decide) (Nat.le_of_ble_eq_true rfl) ?_
  intro p e s m below meth c A X hnm
  obtain ⟨Q, hQ⟩ : ∃ Q, Q = MQ below (va_Qv (fun u : (Nat → Int32) × (Nat → Int32) × (Nat → Int32) × (Nat → Int32) × (Nat → Int32) × (Nat → Int32) => u = f_X12_host f_one f_other f_product f_result f_hostN f_hostD) (fun u => BG D ct A [(a_this, .inr (12, mfs ad v_thrown v_connections (nI v_size) (nI v_ids) (nI v_dataAll) (nI v_putCount) (nI v_waiting) (nI v_readSize) v_power v_left v_since v_changes (nI v_rowSize))), (ad 75, .inl (ct 0, 16, .inl u.2.2.1)), (ad 76, .inl (ct 0, 16, .inl u.2.2.2.1)), (ad 73, .inl (ct 0, 32, .inl u.2.2.2.2.1)), (ad 72, .inl (ct 0, 16, .inl u.2.2.2.2.2)), (ad 57, .inl (ct 0, 8, .inl u.2.1)), (ad 58, .inl (ct 0, 18, .inl u.1))]) A) [.ref a_this].toArray s 2 16 A := ⟨_, rfl⟩
  rw [← hQ]
  refine j_lve (lv' := [(0, .ref a_this)]) rfl ?_
  refine j_bipush (v := nI 8) X dX12_host_0 (by decide) (q := 2) rfl ?_
  refine j_newi (N := 8) X rfl mw_X12_host_14 (by decide) (by decide) (by decide) (by decide) (by decide) dX12_host_2 (q := 4) rfl (fun a_2 => ?_)
  refine j_ws (ws2 := [(a_this, .inr (12, mfs ad v_thrown v_connections (nI v_size) (nI v_ids) (nI v_dataAll) (nI v_putCount) (nI v_waiting) (nI v_readSize) v_power v_left v_since v_changes (nI v_rowSize))), (ad 75, .inl (ct 0, 16, .inl f_one)), (ad 76, .inl (ct 0, 16, .inl f_other)), (ad 73, .inl (ct 0, 32, .inl f_product)), (ad 72, .inl (ct 0, 16, .inl f_result)), (ad 57, .inl (ct 0, 8, .inl f_hostN)), (ad 58, .inl (ct 0, 18, .inl f_hostD)), (a_2, .inl (ct 0, 8, .inl (fun _ => 0)))]) rfl ?_
  refine j_astore_n (lv' := [(1, .ref a_2), (0, .ref a_this)]) X dX12_host_4 (by decide) rfl (q := 5) rfl ?_
  refine j_bipush (v := nI 8) X dX12_host_5 (by decide) (q := 7) rfl ?_
  refine j_newi (N := 8) X rfl mw_X12_host_14 (by decide) (by decide) (by decide) (by decide) (by decide) dX12_host_7 (q := 9) rfl (fun a_7 => ?_)
  refine j_ws (ws2 := [(a_this, .inr (12, mfs ad v_thrown v_connections (nI v_size) (nI v_ids) (nI v_dataAll) (nI v_putCount) (nI v_waiting) (nI v_readSize) v_power v_left v_since v_changes (nI v_rowSize))), (ad 75, .inl (ct 0, 16, .inl f_one)), (ad 76, .inl (ct 0, 16, .inl f_other)), (ad 73, .inl (ct 0, 32, .inl f_product)), (ad 72, .inl (ct 0, 16, .inl f_result)), (ad 57, .inl (ct 0, 8, .inl f_hostN)), (ad 58, .inl (ct 0, 18, .inl f_hostD)), (a_2, .inl (ct 0, 8, .inl (fun _ => 0))), (a_7, .inl (ct 0, 8, .inl (fun _ => 0)))]) rfl ?_
  refine j_astore_n (lv' := [(2, .ref a_7), (1, .ref a_2), (0, .ref a_this)]) X dX12_host_9 (by decide) rfl (q := 10) rfl ?_
  refine j_aload_n X 1 dX12_host_10 rfl (q := 11) rfl ?_
  refine j_iconst (v := nI 4) X dX12_host_11 (by decide) (q := 12) rfl ?_
  refine j_iconst (v := -1) X dX12_host_12 (by decide) (q := 13) rfl ?_
  refine j_topi (fun y1 e_y1 => ?_)
  refine k_iast (ws2 := [(a_this, .inr (12, mfs ad v_thrown v_connections (nI v_size) (nI v_ids) (nI v_dataAll) (nI v_putCount) (nI v_waiting) (nI v_readSize) v_power v_left v_since v_changes (nI v_rowSize))), (ad 75, .inl (ct 0, 16, .inl f_one)), (ad 76, .inl (ct 0, 16, .inl f_other)), (ad 73, .inl (ct 0, 32, .inl f_product)), (ad 72, .inl (ct 0, 16, .inl f_result)), (ad 57, .inl (ct 0, 8, .inl f_hostN)), (ad 58, .inl (ct 0, 18, .inl f_hostD)), (a_2, .inl (ct 0, 8, .inl (upd (fun _ => 0) 4 y1))), (a_7, .inl (ct 0, 8, .inl (fun _ => 0)))]) X 7 rfl (vp_in_nI (by omega) (by omega)) (nI_clamp (by omega)) dX12_host_13 rfl (q := 14) rfl ?_
  refine j_aload_n X 1 dX12_host_14 rfl (q := 15) rfl ?_
  refine j_iconst (v := nI 5) X dX12_host_15 (by decide) (q := 16) rfl ?_
  refine j_bipush (v := -38) X dX12_host_16 (by decide) (q := 18) rfl ?_
  refine j_topi (fun y2 e_y2 => ?_)
  refine k_iast (ws2 := [(a_this, .inr (12, mfs ad v_thrown v_connections (nI v_size) (nI v_ids) (nI v_dataAll) (nI v_putCount) (nI v_waiting) (nI v_readSize) v_power v_left v_since v_changes (nI v_rowSize))), (ad 75, .inl (ct 0, 16, .inl f_one)), (ad 76, .inl (ct 0, 16, .inl f_other)), (ad 73, .inl (ct 0, 32, .inl f_product)), (ad 72, .inl (ct 0, 16, .inl f_result)), (ad 57, .inl (ct 0, 8, .inl f_hostN)), (ad 58, .inl (ct 0, 18, .inl f_hostD)), (a_2, .inl (ct 0, 8, .inl (upd (upd (fun _ => 0) 4 y1) 5 y2))), (a_7, .inl (ct 0, 8, .inl (fun _ => 0)))]) X 7 rfl (vp_in_nI (by omega) (by omega)) (nI_clamp (by omega)) dX12_host_18 rfl (q := 19) rfl ?_
  refine j_aload_n X 1 dX12_host_19 rfl (q := 20) rfl ?_
  refine j_bipush (v := nI 6) X dX12_host_20 (by decide) (q := 22) rfl ?_
  refine j_ldcw X mw_X12_host_0 dX12_host_22 (q := 25) rfl ?_
  refine j_eqi (show _ = nI 227306690 from rfl) ?_
  refine k_iast (ws2 := [(a_this, .inr (12, mfs ad v_thrown v_connections (nI v_size) (nI v_ids) (nI v_dataAll) (nI v_putCount) (nI v_waiting) (nI v_readSize) v_power v_left v_since v_changes (nI v_rowSize))), (ad 75, .inl (ct 0, 16, .inl f_one)), (ad 76, .inl (ct 0, 16, .inl f_other)), (ad 73, .inl (ct 0, 32, .inl f_product)), (ad 72, .inl (ct 0, 16, .inl f_result)), (ad 57, .inl (ct 0, 8, .inl f_hostN)), (ad 58, .inl (ct 0, 18, .inl f_hostD)), (a_2, .inl (ct 0, 8, .inl (upd (upd (upd (fun _ => 0) 4 y1) 5 y2) 6 (nI 227306690)))), (a_7, .inl (ct 0, 8, .inl (fun _ => 0)))]) X 7 rfl (vp_in_nI (by omega) (by omega)) (nI_clamp (by omega)) dX12_host_25 rfl (q := 26) rfl ?_
  refine j_aload_n X 1 dX12_host_26 rfl (q := 27) rfl ?_
  refine j_bipush (v := nI 7) X dX12_host_27 (by decide) (q := 29) rfl ?_
  refine j_ldcw X mw_X12_host_1 dX12_host_29 (q := 32) rfl ?_
  refine j_eqi (show _ = nI 1250951133 from rfl) ?_
  refine k_iast (ws2 := [(a_this, .inr (12, mfs ad v_thrown v_connections (nI v_size) (nI v_ids) (nI v_dataAll) (nI v_putCount) (nI v_waiting) (nI v_readSize) v_power v_left v_since v_changes (nI v_rowSize))), (ad 75, .inl (ct 0, 16, .inl f_one)), (ad 76, .inl (ct 0, 16, .inl f_other)), (ad 73, .inl (ct 0, 32, .inl f_product)), (ad 72, .inl (ct 0, 16, .inl f_result)), (ad 57, .inl (ct 0, 8, .inl f_hostN)), (ad 58, .inl (ct 0, 18, .inl f_hostD)), (a_2, .inl (ct 0, 8, .inl (upd (upd (upd (upd (fun _ => 0) 4 y1) 5 y2) 6 (nI 227306690)) 7 (nI 1250951133)))), (a_7, .inl (ct 0, 8, .inl (fun _ => 0)))]) X 7 rfl (vp_in_nI (by omega) (by omega)) (nI_clamp (by omega)) dX12_host_32 rfl (q := 33) rfl ?_
  refine j_aload_n X 0 dX12_host_33 rfl (q := 34) rfl ?_
  refine j_iconst (v := nI 4) X dX12_host_34 (by decide) (q := 35) rfl ?_
  refine j_sipush (v := -31595) X dX12_host_35 (by decide) (q := 38) rfl ?_
  refine j_topi (fun y3 e_y3 => ?_)
  refine k_iast (ws2 := [(a_this, .inr (12, mfs ad v_thrown v_connections (nI v_size) (nI v_ids) (nI v_dataAll) (nI v_putCount) (nI v_waiting) (nI v_readSize) v_power v_left v_since v_changes (nI v_rowSize))), (ad 75, .inl (ct 0, 16, .inl f_one)), (ad 76, .inl (ct 0, 16, .inl f_other)), (ad 73, .inl (ct 0, 32, .inl f_product)), (ad 72, .inl (ct 0, 16, .inl f_result)), (ad 57, .inl (ct 0, 8, .inl f_hostN)), (ad 58, .inl (ct 0, 18, .inl f_hostD)), (a_2, .inl (ct 0, 8, .inl (upd (upd (upd (upd (fun _ => 0) 4 y1) 5 y2) 6 (nI 227306690)) 7 (nI 1250951133)))), (a_7, .inl (ct 0, 8, .inl (upd (fun _ => 0) 4 y3)))]) X 8 rfl (vp_in_nI (by omega) (by omega)) (nI_clamp (by omega)) dX12_host_38 rfl (q := 39) rfl ?_
  refine j_aload_n X 0 dX12_host_39 rfl (q := 40) rfl ?_
  refine j_iconst (v := nI 5) X dX12_host_40 (by decide) (q := 41) rfl ?_
  refine j_ldcw X mw_X12_host_2 dX12_host_41 (q := 44) rfl ?_
  refine j_topi (fun y4 e_y4 => ?_)
  refine k_iast (ws2 := [(a_this, .inr (12, mfs ad v_thrown v_connections (nI v_size) (nI v_ids) (nI v_dataAll) (nI v_putCount) (nI v_waiting) (nI v_readSize) v_power v_left v_since v_changes (nI v_rowSize))), (ad 75, .inl (ct 0, 16, .inl f_one)), (ad 76, .inl (ct 0, 16, .inl f_other)), (ad 73, .inl (ct 0, 32, .inl f_product)), (ad 72, .inl (ct 0, 16, .inl f_result)), (ad 57, .inl (ct 0, 8, .inl f_hostN)), (ad 58, .inl (ct 0, 18, .inl f_hostD)), (a_2, .inl (ct 0, 8, .inl (upd (upd (upd (upd (fun _ => 0) 4 y1) 5 y2) 6 (nI 227306690)) 7 (nI 1250951133)))), (a_7, .inl (ct 0, 8, .inl (upd (upd (fun _ => 0) 4 y3) 5 y4)))]) X 8 rfl (vp_in_nI (by omega) (by omega)) (nI_clamp (by omega)) dX12_host_44 rfl (q := 45) rfl ?_
  refine j_aload_n X 0 dX12_host_45 rfl (q := 46) rfl ?_
  refine j_bipush (v := nI 6) X dX12_host_46 (by decide) (q := 48) rfl ?_
  refine j_ldcw X mw_X12_host_3 dX12_host_48 (q := 51) rfl ?_
  refine j_topi (fun y5 e_y5 => ?_)
  refine k_iast (ws2 := [(a_this, .inr (12, mfs ad v_thrown v_connections (nI v_size) (nI v_ids) (nI v_dataAll) (nI v_putCount) (nI v_waiting) (nI v_readSize) v_power v_left v_since v_changes (nI v_rowSize))), (ad 75, .inl (ct 0, 16, .inl f_one)), (ad 76, .inl (ct 0, 16, .inl f_other)), (ad 73, .inl (ct 0, 32, .inl f_product)), (ad 72, .inl (ct 0, 16, .inl f_result)), (ad 57, .inl (ct 0, 8, .inl f_hostN)), (ad 58, .inl (ct 0, 18, .inl f_hostD)), (a_2, .inl (ct 0, 8, .inl (upd (upd (upd (upd (fun _ => 0) 4 y1) 5 y2) 6 (nI 227306690)) 7 (nI 1250951133)))), (a_7, .inl (ct 0, 8, .inl (upd (upd (upd (fun _ => 0) 4 y3) 5 y4) 6 y5)))]) X 8 rfl (vp_in_nI (by omega) (by omega)) (nI_clamp (by omega)) dX12_host_51 rfl (q := 52) rfl ?_
  refine j_aload_n X 0 dX12_host_52 rfl (q := 53) rfl ?_
  refine j_bipush (v := nI 7) X dX12_host_53 (by decide) (q := 55) rfl ?_
  refine j_ldcw X mw_X12_host_4 dX12_host_55 (q := 58) rfl ?_
  refine j_eqi (show _ = nI 102221845 from rfl) ?_
  refine k_iast (ws2 := [(a_this, .inr (12, mfs ad v_thrown v_connections (nI v_size) (nI v_ids) (nI v_dataAll) (nI v_putCount) (nI v_waiting) (nI v_readSize) v_power v_left v_since v_changes (nI v_rowSize))), (ad 75, .inl (ct 0, 16, .inl f_one)), (ad 76, .inl (ct 0, 16, .inl f_other)), (ad 73, .inl (ct 0, 32, .inl f_product)), (ad 72, .inl (ct 0, 16, .inl f_result)), (ad 57, .inl (ct 0, 8, .inl f_hostN)), (ad 58, .inl (ct 0, 18, .inl f_hostD)), (a_2, .inl (ct 0, 8, .inl (upd (upd (upd (upd (fun _ => 0) 4 y1) 5 y2) 6 (nI 227306690)) 7 (nI 1250951133)))), (a_7, .inl (ct 0, 8, .inl (upd (upd (upd (upd (fun _ => 0) 4 y3) 5 y4) 6 y5) 7 (nI 102221845))))]) X 8 rfl (vp_in_nI (by omega) (by omega)) (nI_clamp (by omega)) dX12_host_58 rfl (q := 59) rfl ?_
  refine j_aload_n X 1 dX12_host_59 rfl (q := 60) rfl ?_
  refine j_iconst (v := nI 0) X dX12_host_60 (by decide) (q := 61) rfl ?_
  refine j_aload_n X 2 dX12_host_61 rfl (q := 62) rfl ?_
  refine j_get (f := 75) X 0 inT12 rfl rfl (by decide) mw_X12_host_5 rfl dX12_host_62 (q := 65) rfl ?_
  refine j_callSv (As := [.ref a_2, .int (nI 0), .ref (ad 75)]) (rest := []) (wn := (fun u6 => [(a_this, .inr (12, mfs ad v_thrown v_connections (nI v_size) (nI v_ids) (nI v_dataAll) (nI v_putCount) (nI v_waiting) (nI v_readSize) v_power v_left v_since v_changes (nI v_rowSize))), (ad 75, .inl (ct 0, 16, .inl u6)), (ad 76, .inl (ct 0, 16, .inl f_other)), (ad 73, .inl (ct 0, 32, .inl f_product)), (ad 72, .inl (ct 0, 16, .inl f_result)), (ad 57, .inl (ct 0, 8, .inl f_hostN)), (ad 58, .inl (ct 0, 18, .inl f_hostD)), (a_2, .inl (ct 0, 8, .inl (upd (upd (upd (upd (fun _ => 0) 4 y1) 5 y2) 6 (nI 227306690)) 7 (nI 1250951133)))), (a_7, .inl (ct 0, 8, .inl (upd (upd (upd (upd (fun _ => 0) 4 y3) 5 y4) 6 y5) 7 (nI 102221845))))])) (wr := [(a_this, .inr (12, mfs ad v_thrown v_connections (nI v_size) (nI v_ids) (nI v_dataAll) (nI v_putCount) (nI v_waiting) (nI v_readSize) v_power v_left v_since v_changes (nI v_rowSize))), (ad 76, .inl (ct 0, 16, .inl f_other)), (ad 73, .inl (ct 0, 32, .inl f_product)), (ad 72, .inl (ct 0, 16, .inl f_result)), (ad 57, .inl (ct 0, 8, .inl f_hostN)), (ad 58, .inl (ct 0, 18, .inl f_hostD)), (a_7, .inl (ct 0, 8, .inl (upd (upd (upd (upd (fun _ => 0) 4 y3) 5 y4) 6 y5) 7 (nI 102221845))))]) X (fun sz => c_X12_figures l D ct ts a_2 (ad 75) (upd (upd (upd (upd (fun _ => 0) 4 y1) 5 y2) 6 (nI 227306690)) 7 (nI 1250951133)) f_one 0 (by first | omega | assumption) sz) cal_X12_figures mw_X12_host_15 cwt_X12_figures rfl ⟨by decide, by decide⟩ rfl rfl (Nat.le_of_ble_eq_true rfl) ⟨by decide, by decide⟩ [7, 1] [0, 2, 3, 4, 5, 6, 8] [0, 8, 1, 2, 3, 4, 5, 7, 6] rfl (by decide) rfl (by decide) (by decide) (fun _ => rfl) (by decide) dX12_host_65 (q := 68) rfl (fun u6 hu6 => ?_)
  have hq_u6 : DG 16 u6 := by rw [hu6]; exact figures_dg
  have hA : VV u6 16 = HPn := by rw [hu6]; exact host_p e_y1 e_y2 _
  have hA0 : ¬ u6 0 = 0 := by rw [hu6]; exact fig_0 (by rw [pk_us]; decide)
  have hA7 : ∃ j, j < 16 ∧ ¬ u6 j = 0 := ⟨0, by decide, hA0⟩
  refine j_aload_n X 0 dX12_host_68 rfl (q := 69) rfl ?_
  refine j_iconst (v := nI 0) X dX12_host_69 (by decide) (q := 70) rfl ?_
  refine j_aload_n X 2 dX12_host_70 rfl (q := 71) rfl ?_
  refine j_get (f := 76) X 0 inT12 rfl rfl (by decide) mw_X12_host_6 rfl dX12_host_71 (q := 74) rfl ?_
  refine j_callSv (As := [.ref a_7, .int (nI 0), .ref (ad 76)]) (rest := []) (wn := (fun u8 => [(a_this, .inr (12, mfs ad v_thrown v_connections (nI v_size) (nI v_ids) (nI v_dataAll) (nI v_putCount) (nI v_waiting) (nI v_readSize) v_power v_left v_since v_changes (nI v_rowSize))), (ad 75, .inl (ct 0, 16, .inl u6)), (ad 76, .inl (ct 0, 16, .inl u8)), (ad 73, .inl (ct 0, 32, .inl f_product)), (ad 72, .inl (ct 0, 16, .inl f_result)), (ad 57, .inl (ct 0, 8, .inl f_hostN)), (ad 58, .inl (ct 0, 18, .inl f_hostD)), (a_2, .inl (ct 0, 8, .inl (upd (upd (upd (upd (fun _ => 0) 4 y1) 5 y2) 6 (nI 227306690)) 7 (nI 1250951133)))), (a_7, .inl (ct 0, 8, .inl (upd (upd (upd (upd (fun _ => 0) 4 y3) 5 y4) 6 y5) 7 (nI 102221845))))])) (wr := [(a_this, .inr (12, mfs ad v_thrown v_connections (nI v_size) (nI v_ids) (nI v_dataAll) (nI v_putCount) (nI v_waiting) (nI v_readSize) v_power v_left v_since v_changes (nI v_rowSize))), (ad 75, .inl (ct 0, 16, .inl u6)), (ad 73, .inl (ct 0, 32, .inl f_product)), (ad 72, .inl (ct 0, 16, .inl f_result)), (ad 57, .inl (ct 0, 8, .inl f_hostN)), (ad 58, .inl (ct 0, 18, .inl f_hostD)), (a_2, .inl (ct 0, 8, .inl (upd (upd (upd (upd (fun _ => 0) 4 y1) 5 y2) 6 (nI 227306690)) 7 (nI 1250951133))))]) X (fun sz => c_X12_figures l D ct ts a_7 (ad 76) (upd (upd (upd (upd (fun _ => 0) 4 y3) 5 y4) 6 y5) 7 (nI 102221845)) f_other 0 (by first | omega | assumption) sz) cal_X12_figures mw_X12_host_15 cwt_X12_figures rfl ⟨by decide, by decide⟩ rfl rfl (Nat.le_of_ble_eq_true rfl) ⟨by decide, by decide⟩ [8, 2] [0, 1, 3, 4, 5, 6, 7] [0, 1, 8, 2, 3, 4, 5, 6, 7] rfl (by decide) rfl (by decide) (by decide) (fun _ => rfl) (by decide) dX12_host_74 (q := 77) rfl (fun u8 hu8 => ?_)
  have hq_u8 : DG 16 u8 := by rw [hu8]; exact figures_dg
  have hB : VV u8 16 = HQn := by rw [hu8]; exact host_q e_y3 e_y4 e_y5 _
  have hB0 : ¬ u8 0 = 0 := by rw [hu8]; exact fig_0 (by rw [pk_us]; decide)
  have hB7 : ∃ j, j < 16 ∧ ¬ u8 j = 0 := ⟨0, by decide, hB0⟩
  refine j_perm (ws2 := [(a_this, .inr (12, mfs ad v_thrown v_connections (nI v_size) (nI v_ids) (nI v_dataAll) (nI v_putCount) (nI v_waiting) (nI v_readSize) v_power v_left v_since v_changes (nI v_rowSize))), (ad 75, .inl (ct 0, 16, .inl u6)), (ad 76, .inl (ct 0, 16, .inl u8)), (ad 73, .inl (ct 0, 32, .inl f_product)), (ad 72, .inl (ct 0, 16, .inl f_result)), (ad 57, .inl (ct 0, 8, .inl f_hostN)), (ad 58, .inl (ct 0, 18, .inl f_hostD))]) [0, 1, 2, 3, 4, 5, 6] (by decide) rfl ?_
  refine j_aload_n X 2 dX12_host_77 rfl (q := 78) rfl ?_
  refine j_aload_n X 2 dX12_host_78 rfl (q := 79) rfl ?_
  refine j_get (f := 75) X 0 inT12 rfl rfl (by decide) mw_X12_host_5 rfl dX12_host_79 (q := 82) rfl ?_
  refine j_aload_n X 2 dX12_host_82 rfl (q := 83) rfl ?_
  refine j_get (f := 76) X 0 inT12 rfl rfl (by decide) mw_X12_host_6 rfl dX12_host_83 (q := 86) rfl ?_
  refine j_callVv (As := [.ref (ad 75), .ref (ad 76)]) (rest := []) (wn := (fun u10 => [(a_this, .inr (12, mfs ad v_thrown v_connections (nI v_size) (nI v_ids) (nI v_dataAll) (nI v_putCount) (nI v_waiting) (nI v_readSize) v_power v_left v_since v_changes (nI v_rowSize))), (ad 75, .inl (ct 0, 16, .inl u6)), (ad 76, .inl (ct 0, 16, .inl u8)), (ad 73, .inl (ct 0, 32, .inl u10)), (ad 72, .inl (ct 0, 16, .inl f_result)), (ad 57, .inl (ct 0, 8, .inl f_hostN)), (ad 58, .inl (ct 0, 18, .inl f_hostD))])) (wr := [(ad 72, .inl (ct 0, 16, .inl f_result)), (ad 57, .inl (ct 0, 8, .inl f_hostN)), (ad 58, .inl (ct 0, 18, .inl f_hostD))]) X (fun sz => c_X12_multiply l D ct ts a_this (ad 75) (ad 76) ad v_thrown v_connections v_size v_ids v_dataAll v_putCount v_waiting v_readSize v_power v_left v_since v_changes v_rowSize f_product u6 u8  sz) cal_X12_multiply 0 rfl rfl mw_X12_host_16 cwi_X12_multiply cws_X12_multiply rfl ⟨by decide, by decide⟩ rfl rfl (Nat.le_of_ble_eq_true rfl) ⟨by decide, by decide⟩ [0, 3, 1, 2] [4, 5, 6] [3, 5, 6, 4, 0, 1, 2] rfl (by decide) rfl (by decide) (by decide) (fun _ => rfl) (by decide) dX12_host_86 (q := 89) rfl (fun u10 hu10 => ?_)
  have hq_u10 : DG 32 u10 := by rw [hu10]; exact (multiply_is (by assumption) (by assumption)).1
  refine j_iconst (v := nI 0) X dX12_host_89 (by decide) (q := 90) rfl ?_
  refine j_istore_n (lv' := [(3, .int (nI 0)), (2, .ref a_7), (1, .ref a_2), (0, .ref a_this)]) X dX12_host_90 (by decide) rfl (q := 91) rfl ?_
  refine j_lv (lv' := [(0, .ref a_this), (1, .ref a_2), (2, .ref a_7), (3, .int (nI 0))]) [3, 2, 1, 0] rfl ?_
  have LP91_12 : ∀ (r91_12 k91_12 : Nat) (t91_12 : (Nat → Int32)), k91_12 + r91_12 = 16 → t91_12 = itr (X12_host_l91 u10) f_result k91_12 → J p l e { frames := 1, cells := 2, slots := 16, locals := 26 } s m [.ref a_this].toArray below meth c D A 11 Q 2 16 [(a_this, .inr (12, mfs ad v_thrown v_connections (nI v_size) (nI v_ids) (nI v_dataAll) (nI v_putCount) (nI v_waiting) (nI v_readSize) v_power v_left v_since v_changes (nI v_rowSize))), (ad 75, .inl (ct 0, 16, .inl u6)), (ad 76, .inl (ct 0, 16, .inl u8)), (ad 73, .inl (ct 0, 32, .inl u10)), (ad 72, .inl (ct 0, 16, .inl t91_12)), (ad 57, .inl (ct 0, 8, .inl f_hostN)), (ad 58, .inl (ct 0, 18, .inl f_hostD))] [(0, .ref a_this), (1, .ref a_2), (2, .ref a_7), (3, .int (nI k91_12))] [] 91 := by
    intro r91_12
    induction r91_12 with
    | zero =>
      intro k91_12 t91_12 hk_t91_12 e_t91_12 
      have hkk_t91_12 : 16 = k91_12 := by omega
      subst hkk_t91_12
      refine j_iload_n X 3 dX12_host_91 rfl (q := 92) rfl ?_
      refine j_bipush (v := nI 16) X dX12_host_92 (by decide) (q := 94) rfl ?_
      refine j_icmp_ge (tgt := 115) X dX12_host_94 (by decide) (q := 97) rfl (fun c13 => ?_) (fun c13 => ?_)
      · skip
        have c13 : 16 ≤ 16 := (nI_leI (a := 16) (b := 16) (by omega) (by omega)).mp c13
        refine j_aload_n X 0 dX12_host_115 rfl (q := 116) rfl ?_
        refine j_get (f := 72) X 0 inT12 rfl rfl (by decide) mw_X12_host_7 rfl dX12_host_116 (q := 119) rfl ?_
        refine j_aload_n X 0 dX12_host_119 rfl (q := 120) rfl ?_
        refine j_get (f := 57) X 0 inT12 rfl rfl (by decide) mw_X12_host_8 rfl dX12_host_120 (q := 123) rfl ?_
        refine j_iconst (v := nI 0) X dX12_host_123 (by decide) (q := 124) rfl ?_
        refine j_callSv (As := [.ref (ad 72), .ref (ad 57), .int (nI 0)]) (rest := []) (wn := (fun u14 => [(a_this, .inr (12, mfs ad v_thrown v_connections (nI v_size) (nI v_ids) (nI v_dataAll) (nI v_putCount) (nI v_waiting) (nI v_readSize) v_power v_left v_since v_changes (nI v_rowSize))), (ad 75, .inl (ct 0, 16, .inl u6)), (ad 76, .inl (ct 0, 16, .inl u8)), (ad 73, .inl (ct 0, 32, .inl u10)), (ad 72, .inl (ct 0, 16, .inl t91_12)), (ad 57, .inl (ct 0, 8, .inl u14)), (ad 58, .inl (ct 0, 18, .inl f_hostD))])) (wr := [(a_this, .inr (12, mfs ad v_thrown v_connections (nI v_size) (nI v_ids) (nI v_dataAll) (nI v_putCount) (nI v_waiting) (nI v_readSize) v_power v_left v_since v_changes (nI v_rowSize))), (ad 75, .inl (ct 0, 16, .inl u6)), (ad 76, .inl (ct 0, 16, .inl u8)), (ad 73, .inl (ct 0, 32, .inl u10)), (ad 58, .inl (ct 0, 18, .inl f_hostD))]) X (fun sz => c_X12_toWords l D ct ts (ad 72) (ad 57) t91_12 f_hostN 0 (by first | omega | assumption) sz) cal_X12_toWords mw_X12_host_17 cwt_X12_toWords rfl ⟨by decide, by decide⟩ rfl rfl (Nat.le_of_ble_eq_true rfl) ⟨by decide, by decide⟩ [4, 5] [0, 1, 2, 3, 6] [0, 1, 2, 3, 5, 6, 4] rfl (by decide) rfl (by decide) (by decide) (fun _ => rfl) (by decide) dX12_host_124 (q := 127) rfl (fun u14 hu14 => ?_)
        refine j_aload_n X 0 dX12_host_127 rfl (q := 128) rfl ?_
        refine j_get (f := 75) X 0 inT12 rfl rfl (by decide) mw_X12_host_5 rfl dX12_host_128 (q := 131) rfl ?_
        refine j_callSv (As := [.ref (ad 75)]) (rest := []) (wn := (fun u16 => [(a_this, .inr (12, mfs ad v_thrown v_connections (nI v_size) (nI v_ids) (nI v_dataAll) (nI v_putCount) (nI v_waiting) (nI v_readSize) v_power v_left v_since v_changes (nI v_rowSize))), (ad 75, .inl (ct 0, 16, .inl u16)), (ad 76, .inl (ct 0, 16, .inl u8)), (ad 73, .inl (ct 0, 32, .inl u10)), (ad 72, .inl (ct 0, 16, .inl t91_12)), (ad 57, .inl (ct 0, 8, .inl u14)), (ad 58, .inl (ct 0, 18, .inl f_hostD))])) (wr := [(a_this, .inr (12, mfs ad v_thrown v_connections (nI v_size) (nI v_ids) (nI v_dataAll) (nI v_putCount) (nI v_waiting) (nI v_readSize) v_power v_left v_since v_changes (nI v_rowSize))), (ad 76, .inl (ct 0, 16, .inl u8)), (ad 73, .inl (ct 0, 32, .inl u10)), (ad 72, .inl (ct 0, 16, .inl t91_12)), (ad 57, .inl (ct 0, 8, .inl u14)), (ad 58, .inl (ct 0, 18, .inl f_hostD))]) X (fun sz => c_X12_lessOne l D ct ts (ad 75) u6 (by first | omega | assumption) sz) cal_X12_lessOne mw_X12_host_18 cwt_X12_lessOne rfl ⟨by decide, by decide⟩ rfl rfl (Nat.le_of_ble_eq_true rfl) ⟨by decide, by decide⟩ [1] [0, 2, 3, 4, 5, 6] [0, 6, 1, 2, 3, 4, 5] rfl (by decide) rfl (by decide) (by decide) (fun _ => rfl) (by decide) dX12_host_131 (q := 134) rfl (fun u16 hu16 => ?_)
        have hL1 : DG 16 u16 := by rw [hu16, lessOne_is hA0]; exact (VV_pred (by assumption) hA0).1
        refine j_aload_n X 0 dX12_host_134 rfl (q := 135) rfl ?_
        refine j_get (f := 76) X 0 inT12 rfl rfl (by decide) mw_X12_host_6 rfl dX12_host_135 (q := 138) rfl ?_
        refine j_callSv (As := [.ref (ad 76)]) (rest := []) (wn := (fun u18 => [(a_this, .inr (12, mfs ad v_thrown v_connections (nI v_size) (nI v_ids) (nI v_dataAll) (nI v_putCount) (nI v_waiting) (nI v_readSize) v_power v_left v_since v_changes (nI v_rowSize))), (ad 75, .inl (ct 0, 16, .inl u16)), (ad 76, .inl (ct 0, 16, .inl u18)), (ad 73, .inl (ct 0, 32, .inl u10)), (ad 72, .inl (ct 0, 16, .inl t91_12)), (ad 57, .inl (ct 0, 8, .inl u14)), (ad 58, .inl (ct 0, 18, .inl f_hostD))])) (wr := [(a_this, .inr (12, mfs ad v_thrown v_connections (nI v_size) (nI v_ids) (nI v_dataAll) (nI v_putCount) (nI v_waiting) (nI v_readSize) v_power v_left v_since v_changes (nI v_rowSize))), (ad 75, .inl (ct 0, 16, .inl u16)), (ad 73, .inl (ct 0, 32, .inl u10)), (ad 72, .inl (ct 0, 16, .inl t91_12)), (ad 57, .inl (ct 0, 8, .inl u14)), (ad 58, .inl (ct 0, 18, .inl f_hostD))]) X (fun sz => c_X12_lessOne l D ct ts (ad 76) u8 (by first | omega | assumption) sz) cal_X12_lessOne mw_X12_host_18 cwt_X12_lessOne rfl ⟨by decide, by decide⟩ rfl rfl (Nat.le_of_ble_eq_true rfl) ⟨by decide, by decide⟩ [2] [0, 1, 3, 4, 5, 6] [0, 1, 6, 2, 3, 4, 5] rfl (by decide) rfl (by decide) (by decide) (fun _ => rfl) (by decide) dX12_host_138 (q := 141) rfl (fun u18 hu18 => ?_)
        have hL2 : DG 16 u18 := by rw [hu18, lessOne_is hB0]; exact (VV_pred (by assumption) hB0).1
        refine j_aload_n X 0 dX12_host_141 rfl (q := 142) rfl ?_
        refine j_aload_n X 0 dX12_host_142 rfl (q := 143) rfl ?_
        refine j_get (f := 75) X 0 inT12 rfl rfl (by decide) mw_X12_host_5 rfl dX12_host_143 (q := 146) rfl ?_
        refine j_aload_n X 0 dX12_host_146 rfl (q := 147) rfl ?_
        refine j_get (f := 76) X 0 inT12 rfl rfl (by decide) mw_X12_host_6 rfl dX12_host_147 (q := 150) rfl ?_
        refine j_callVv (As := [.ref (ad 75), .ref (ad 76)]) (rest := []) (wn := (fun u20 => [(a_this, .inr (12, mfs ad v_thrown v_connections (nI v_size) (nI v_ids) (nI v_dataAll) (nI v_putCount) (nI v_waiting) (nI v_readSize) v_power v_left v_since v_changes (nI v_rowSize))), (ad 75, .inl (ct 0, 16, .inl u16)), (ad 76, .inl (ct 0, 16, .inl u18)), (ad 73, .inl (ct 0, 32, .inl u20)), (ad 72, .inl (ct 0, 16, .inl t91_12)), (ad 57, .inl (ct 0, 8, .inl u14)), (ad 58, .inl (ct 0, 18, .inl f_hostD))])) (wr := [(ad 72, .inl (ct 0, 16, .inl t91_12)), (ad 57, .inl (ct 0, 8, .inl u14)), (ad 58, .inl (ct 0, 18, .inl f_hostD))]) X (fun sz => c_X12_multiply l D ct ts a_this (ad 75) (ad 76) ad v_thrown v_connections v_size v_ids v_dataAll v_putCount v_waiting v_readSize v_power v_left v_since v_changes v_rowSize u10 u16 u18  sz) cal_X12_multiply 0 rfl rfl mw_X12_host_16 cwi_X12_multiply cws_X12_multiply rfl ⟨by decide, by decide⟩ rfl rfl (Nat.le_of_ble_eq_true rfl) ⟨by decide, by decide⟩ [0, 3, 1, 2] [4, 5, 6] [3, 5, 6, 4, 0, 1, 2] rfl (by decide) rfl (by decide) (by decide) (fun _ => rfl) (by decide) dX12_host_150 (q := 153) rfl (fun u20 hu20 => ?_)
        have hq_u20 : DG 32 u20 := by rw [hu20]; exact (multiply_is (by assumption) (by assumption)).1
        refine j_lconst (v := 0) X dX12_host_153 (by decide) (q := 154) rfl ?_
        refine j_topl (fun y22 e_y22 => ?_)
        refine j_lstore_n (lv' := [(3, .long y22), (0, .ref a_this), (1, .ref a_2), (2, .ref a_7)]) X dX12_host_154 (by decide) rfl (q := 155) rfl ?_
        refine j_bipush (v := nI 15) X dX12_host_155 (by decide) (q := 157) rfl ?_
        refine j_istore (lv' := [(5, .int (nI 15)), (3, .long y22), (0, .ref a_this), (1, .ref a_2), (2, .ref a_7)]) X dX12_host_157 (by decide) rfl (q := 159) rfl ?_
        refine j_lv (lv' := [(0, .ref a_this), (1, .ref a_2), (2, .ref a_7), (3, .long y22), (5, .int (nI 15))]) [2, 3, 4, 1, 0] rfl ?_
        have LP159_23 : ∀ (r159_23 : Nat) (t159_23 : (Int64)), r159_23 ≤ 16 → itd (X12_host_l159 u20) 16 y22 = itd (X12_host_l159 u20) r159_23 t159_23 → J p l e { frames := 1, cells := 2, slots := 16, locals := 26 } s m [.ref a_this].toArray below meth c D A 11 Q 2 16 [(a_this, .inr (12, mfs ad v_thrown v_connections (nI v_size) (nI v_ids) (nI v_dataAll) (nI v_putCount) (nI v_waiting) (nI v_readSize) v_power v_left v_since v_changes (nI v_rowSize))), (ad 75, .inl (ct 0, 16, .inl u16)), (ad 76, .inl (ct 0, 16, .inl u18)), (ad 73, .inl (ct 0, 32, .inl u20)), (ad 72, .inl (ct 0, 16, .inl t91_12)), (ad 57, .inl (ct 0, 8, .inl u14)), (ad 58, .inl (ct 0, 18, .inl f_hostD))] [(0, .ref a_this), (1, .ref a_2), (2, .ref a_7), (3, .long t159_23), (5, .int (dn r159_23))] [] 159 := by
          intro r159_23
          induction r159_23 with
          | zero =>
            intro t159_23 hk_t159_23 e0_t159_23 
            have e_t159_23 : t159_23 = itd (X12_host_l159 u20) 16 y22 := (e0_t159_23.trans (itd_0 _ _)).symm
            have hpt : t159_23 = lI ((22633 : Nat) : Int) := by rw [e_t159_23, e_y22, hu20, hu16, hu18]; exact host_part (by assumption) (by assumption) hA0 hB0 hA hB
            refine j_iload X 4 dX12_host_159 rfl (q := 161) rfl ?_
            refine j_if_lt (tgt := 189) X dX12_host_161 (by decide) (q := 164) rfl (fun c24 => ?_) (fun c24 => ?_)
            · skip
              refine j_iconst (v := nI 0) X dX12_host_189 (by decide) (q := 190) rfl ?_
              refine j_istore (lv' := [(5, .int (nI 0)), (0, .ref a_this), (1, .ref a_2), (2, .ref a_7), (3, .long t159_23)]) X dX12_host_190 (by decide) rfl (q := 192) rfl ?_
              refine j_lv (lv' := [(0, .ref a_this), (1, .ref a_2), (2, .ref a_7), (3, .long t159_23), (5, .int (nI 0))]) [1, 2, 3, 4, 0] rfl ?_
              have KE192_25 : ∀ g192_26 : (Nat), g192_26 = mrg (itx (X12_host_l192 t159_23) (9628 + 1) 0 0) → J p l e { frames := 1, cells := 2, slots := 16, locals := 26 } s m [.ref a_this].toArray below meth c D A 11 Q 2 16 [(a_this, .inr (12, mfs ad v_thrown v_connections (nI v_size) (nI v_ids) (nI v_dataAll) (nI v_putCount) (nI v_waiting) (nI v_readSize) v_power v_left v_since v_changes (nI v_rowSize))), (ad 75, .inl (ct 0, 16, .inl u16)), (ad 76, .inl (ct 0, 16, .inl u18)), (ad 73, .inl (ct 0, 32, .inl u20)), (ad 72, .inl (ct 0, 16, .inl t91_12)), (ad 57, .inl (ct 0, 8, .inl u14)), (ad 58, .inl (ct 0, 18, .inl f_hostD))] [(0, .ref a_this), (1, .ref a_2), (2, .ref a_7), (3, .long t159_23), (5, .int (nI g192_26))] [] 214 := by
                intro g192_26 e_g192_26 
                refine j_lconst (v := 1) X dX12_host_214 (by decide) (q := 215) rfl ?_
                refine j_topl (fun y27 e_y27 => ?_)
                refine j_lstore (lv' := [(6, .long y27), (0, .ref a_this), (1, .ref a_2), (2, .ref a_7), (3, .long t159_23), (5, .int (nI g192_26))]) X dX12_host_215 (by decide) rfl (q := 217) rfl ?_
                refine j_iconst (v := nI 0) X dX12_host_217 (by decide) (q := 218) rfl ?_
                refine j_istore (lv' := [(8, .int (nI 0)), (6, .long y27), (0, .ref a_this), (1, .ref a_2), (2, .ref a_7), (3, .long t159_23), (5, .int (nI g192_26))]) X dX12_host_218 (by decide) rfl (q := 220) rfl ?_
                refine j_lv (lv' := [(0, .ref a_this), (1, .ref a_2), (2, .ref a_7), (3, .long t159_23), (5, .int (nI g192_26)), (6, .long y27), (8, .int (nI 0))]) [2, 3, 4, 5, 6, 1, 0] rfl ?_
                have LP220_28 : ∀ (r220_28 k220_28 : Nat) (t220_28 : (Nat → Int32) × (Int64)), k220_28 + r220_28 = 18 → t220_28 = itr (X12_host_l220 u20 g192_26) ((f_hostD, y27)) k220_28 → J p l e { frames := 1, cells := 2, slots := 16, locals := 26 } s m [.ref a_this].toArray below meth c D A 11 Q 2 16 [(a_this, .inr (12, mfs ad v_thrown v_connections (nI v_size) (nI v_ids) (nI v_dataAll) (nI v_putCount) (nI v_waiting) (nI v_readSize) v_power v_left v_since v_changes (nI v_rowSize))), (ad 75, .inl (ct 0, 16, .inl u16)), (ad 76, .inl (ct 0, 16, .inl u18)), (ad 73, .inl (ct 0, 32, .inl u20)), (ad 72, .inl (ct 0, 16, .inl t91_12)), (ad 57, .inl (ct 0, 8, .inl u14)), (ad 58, .inl (ct 0, 18, .inl t220_28.1))] [(0, .ref a_this), (1, .ref a_2), (2, .ref a_7), (3, .long t159_23), (5, .int (nI g192_26)), (6, .long t220_28.2), (8, .int (nI k220_28))] [] 220 := by
                  intro r220_28
                  induction r220_28 with
                  | zero =>
                    intro k220_28 t220_28 hk_t220_28 e_t220_28 
                    have hkk_t220_28 : 18 = k220_28 := by omega
                    subst hkk_t220_28
                    refine j_iload X 6 dX12_host_220 rfl (q := 222) rfl ?_
                    refine j_bipush (v := nI 18) X dX12_host_222 (by decide) (q := 224) rfl ?_
                    refine j_icmp_ge (tgt := 282) X dX12_host_224 (by decide) (q := 227) rfl (fun c29 => ?_) (fun c29 => ?_)
                    · skip
                      have c29 : 18 ≤ 18 := (nI_leI (a := 18) (b := 18) (by omega) (by omega)).mp c29
                      refine j_lconst (v := 0) X dX12_host_282 (by decide) (q := 283) rfl ?_
                      refine j_topl (fun y30 e_y30 => ?_)
                      refine j_lstore (lv' := [(8, .long y30), (0, .ref a_this), (1, .ref a_2), (2, .ref a_7), (3, .long t159_23), (5, .int (nI g192_26)), (6, .long t220_28.2)]) X dX12_host_283 (by decide) rfl (q := 285) rfl ?_
                      refine j_bipush (v := nI 17) X dX12_host_285 (by decide) (q := 287) rfl ?_
                      refine j_istore (lv' := [(10, .int (nI 17)), (8, .long y30), (0, .ref a_this), (1, .ref a_2), (2, .ref a_7), (3, .long t159_23), (5, .int (nI g192_26)), (6, .long t220_28.2)]) X dX12_host_287 (by decide) rfl (q := 289) rfl ?_
                      refine j_lv (lv' := [(0, .ref a_this), (1, .ref a_2), (2, .ref a_7), (3, .long t159_23), (5, .int (nI g192_26)), (6, .long t220_28.2), (8, .long y30), (10, .int (nI 17))]) [2, 3, 4, 5, 6, 7, 1, 0] rfl ?_
                      have LP289_31 : ∀ (r289_31 : Nat) (t289_31 : (Nat → Int32) × (Int64)), r289_31 ≤ 18 → itd X12_host_l289 18 ((t220_28.1, y30)) = itd X12_host_l289 r289_31 t289_31 → J p l e { frames := 1, cells := 2, slots := 16, locals := 26 } s m [.ref a_this].toArray below meth c D A 11 Q 2 16 [(a_this, .inr (12, mfs ad v_thrown v_connections (nI v_size) (nI v_ids) (nI v_dataAll) (nI v_putCount) (nI v_waiting) (nI v_readSize) v_power v_left v_since v_changes (nI v_rowSize))), (ad 75, .inl (ct 0, 16, .inl u16)), (ad 76, .inl (ct 0, 16, .inl u18)), (ad 73, .inl (ct 0, 32, .inl u20)), (ad 72, .inl (ct 0, 16, .inl t91_12)), (ad 57, .inl (ct 0, 8, .inl u14)), (ad 58, .inl (ct 0, 18, .inl t289_31.1))] [(0, .ref a_this), (1, .ref a_2), (2, .ref a_7), (3, .long t159_23), (5, .int (nI g192_26)), (6, .long t220_28.2), (8, .long t289_31.2), (10, .int (dn r289_31))] [] 289 := by
                        intro r289_31
                        induction r289_31 with
                        | zero =>
                          intro t289_31 hk_t289_31 e0_t289_31 
                          have e_t289_31 : t289_31 = itd X12_host_l289 18 ((t220_28.1, y30)) := (e0_t289_31.trans (itd_0 _ _)).symm
                          refine j_iload X 7 dX12_host_289 rfl (q := 291) rfl ?_
                          refine j_if_lt (tgt := 339) X dX12_host_291 (by decide) (q := 294) rfl (fun c32 => ?_) (fun c32 => ?_)
                          · skip
                            rw [hQ]
                            exact j_vret X ((t289_31.1, u14, u16, u18, u20, t91_12)) dX12_host_339 (by subst e_y1; subst e_y2; subst e_y3; subst e_y4; subst e_y5; subst hu6; subst hu8; subst hu10; subst e_t91_12; subst hu14; subst hu16; subst hu18; subst hu20; subst e_y22; subst e_t159_23; subst e_g192_26; subst e_y27; subst e_t220_28; subst e_y30; subst e_t289_31; rfl) rfl
                          · skip
                            exact absurd (show dn 0 < 0 by decide) c32
                        | succ r289_31 ih289_31 =>
                          intro t289_31 hk_t289_31 e_t289_31 
                          rw [dn_s]
                          refine j_iload X 7 dX12_host_289 rfl (q := 291) rfl ?_
                          refine j_if_lt (tgt := 339) X dX12_host_291 (by decide) (q := 294) rfl (fun c33 => ?_) (fun c33 => ?_)
                          · skip
                            have c33 : r289_31 < 0 := (nI_ltI (a := r289_31) (b := 0) (by omega) (by omega)).mp c33
                            exfalso; omega
                          · skip
                            have c33 : ¬ r289_31 < 0 := fun h => c33 ((nI_ltI (a := r289_31) (b := 0) (by omega) (by omega)).mpr h)
                            refine j_ldc2 X mw_X12_host_10 dX12_host_294 (q := 297) rfl ?_
                            refine j_lload X 6 dX12_host_297 rfl (q := 299) rfl ?_
                            refine j_lmul X dX12_host_299 (q := 300) rfl ?_
                            refine j_aload_n X 0 dX12_host_300 rfl (q := 301) rfl ?_
                            refine j_get (f := 58) X 0 inT12 rfl rfl (by decide) mw_X12_host_11 rfl dX12_host_301 (q := 304) rfl ?_
                            refine j_iload X 7 dX12_host_304 rfl (q := 306) rfl ?_
                            refine k_iald X 6 rfl (vp_in_nI (by omega) (by omega)) (nI_clamp (by omega)) dX12_host_306 (q := 307) rfl ?_
                            refine j_i2l X dX12_host_307 (q := 308) rfl ?_
                            refine j_ladd X dX12_host_308 (q := 309) rfl ?_
                            refine j_topl (fun y34 e_y34 => ?_)
                            refine j_lstore (lv' := [(8, .long y34), (0, .ref a_this), (1, .ref a_2), (2, .ref a_7), (3, .long t159_23), (5, .int (nI g192_26)), (6, .long t220_28.2), (10, .int (nI r289_31))]) X dX12_host_309 (by decide) rfl (q := 311) rfl ?_
                            refine j_aload_n X 1 dX12_host_311 rfl (q := 312) rfl ?_
                            refine j_get (f := 58) X 0 inT12 rfl rfl (by decide) mw_X12_host_11 rfl dX12_host_312 (q := 315) rfl ?_
                            refine j_iload X 7 dX12_host_315 rfl (q := 317) rfl ?_
                            refine j_lload X 0 dX12_host_317 rfl (q := 319) rfl ?_
                            refine j_ldc2 X mw_X12_host_9 dX12_host_319 (q := 322) rfl ?_
                            refine j_ldiv X dX12_host_322 (by decide) (q := 323) rfl ?_
                            refine j_l2i X dX12_host_323 (q := 324) rfl ?_
                            refine j_topi (fun y35 e_y35 => ?_)
                            refine k_iast (ws2 := [(a_this, .inr (12, mfs ad v_thrown v_connections (nI v_size) (nI v_ids) (nI v_dataAll) (nI v_putCount) (nI v_waiting) (nI v_readSize) v_power v_left v_since v_changes (nI v_rowSize))), (ad 75, .inl (ct 0, 16, .inl u16)), (ad 76, .inl (ct 0, 16, .inl u18)), (ad 73, .inl (ct 0, 32, .inl u20)), (ad 72, .inl (ct 0, 16, .inl t91_12)), (ad 57, .inl (ct 0, 8, .inl u14)), (ad 58, .inl (ct 0, 18, .inl (upd t289_31.1 r289_31 y35)))]) X 6 rfl (vp_in_nI (by omega) (by omega)) (nI_clamp (by omega)) dX12_host_324 rfl (q := 325) rfl ?_
                            refine j_lload X 0 dX12_host_325 rfl (q := 327) rfl ?_
                            refine j_ldc2 X mw_X12_host_9 dX12_host_327 (q := 330) rfl ?_
                            refine j_lrem X dX12_host_330 (by decide) (q := 331) rfl ?_
                            refine j_topl (fun y36 e_y36 => ?_)
                            refine j_lstore (lv' := [(8, .long y36), (0, .ref a_this), (1, .ref a_2), (2, .ref a_7), (3, .long t159_23), (5, .int (nI g192_26)), (6, .long t220_28.2), (10, .int (nI r289_31))]) X dX12_host_331 (by decide) rfl (q := 333) rfl ?_
                            refine j_iinc (v := dn r289_31) (lv' := [(10, .int (dn r289_31)), (8, .long y36), (0, .ref a_this), (1, .ref a_2), (2, .ref a_7), (3, .long t159_23), (5, .int (nI g192_26)), (6, .long t220_28.2)]) X 7 dX12_host_333 rfl (dn_dec _) (by decide) rfl (q := 336) rfl ?_
                            refine j_goto (tgt := 289) X dX12_host_336 (by decide) ?_
                            refine j_lv (lv' := [(0, .ref a_this), (1, .ref a_2), (2, .ref a_7), (3, .long t159_23), (5, .int (nI g192_26)), (6, .long t220_28.2), (8, .long y36), (10, .int (dn r289_31))]) [2, 3, 4, 5, 6, 7, 1, 0] rfl ?_
                            have hb : X12_host_l289 r289_31 t289_31 = (upd t289_31.1 r289_31 y35, y36) := (by subst e_y34; subst e_y35; subst e_y36; rfl)
                            exact ih289_31 ((upd t289_31.1 r289_31 y35, y36)) (by omega) (by rw [e_t289_31, itd_s, hb]) 
                      exact LP289_31 18 ((t220_28.1, y30)) (by omega) rfl 
                    · skip
                      have c29 : ¬ 18 ≤ 18 := fun h => c29 ((nI_leI (a := 18) (b := 18) (by omega) (by omega)).mpr h)
                      exfalso; omega
                  | succ r220_28 ih220_28 =>
                    intro k220_28 t220_28 hk_t220_28 e_t220_28 
                    refine j_iload X 6 dX12_host_220 rfl (q := 222) rfl ?_
                    refine j_bipush (v := nI 18) X dX12_host_222 (by decide) (q := 224) rfl ?_
                    refine j_icmp_ge (tgt := 282) X dX12_host_224 (by decide) (q := 227) rfl (fun c37 => ?_) (fun c37 => ?_)
                    · skip
                      have c37 : 18 ≤ k220_28 := (nI_leI (a := 18) (b := k220_28) (by omega) (by omega)).mp c37
                      exfalso; omega
                    · skip
                      have c37 : ¬ 18 ≤ k220_28 := fun h => c37 ((nI_leI (a := 18) (b := k220_28) (by omega) (by omega)).mpr h)
                      refine j_lload X 5 dX12_host_227 rfl (q := 229) rfl ?_
                      refine j_iload X 6 dX12_host_229 rfl (q := 231) rfl ?_
                      refine j_bipush (v := nI 16) X dX12_host_231 (by decide) (q := 233) rfl ?_
                      have KJ233_38 : ∀ g233_38 : (Int64), g233_38 = X12_host_m233 u20 g192_26 k220_28 → J p l e { frames := 1, cells := 2, slots := 16, locals := 26 } s m [.ref a_this].toArray below meth c D A 11 Q 2 16 [(a_this, .inr (12, mfs ad v_thrown v_connections (nI v_size) (nI v_ids) (nI v_dataAll) (nI v_putCount) (nI v_waiting) (nI v_readSize) v_power v_left v_since v_changes (nI v_rowSize))), (ad 75, .inl (ct 0, 16, .inl u16)), (ad 76, .inl (ct 0, 16, .inl u18)), (ad 73, .inl (ct 0, 32, .inl u20)), (ad 72, .inl (ct 0, 16, .inl t91_12)), (ad 57, .inl (ct 0, 8, .inl u14)), (ad 58, .inl (ct 0, 18, .inl t220_28.1))] [(0, .ref a_this), (1, .ref a_2), (2, .ref a_7), (3, .long t159_23), (5, .int (nI g192_26)), (6, .long t220_28.2), (8, .int (nI k220_28))] [.long g233_38, .long t220_28.2] 252 := by
                        intro g233_38 e_g233_38
                        refine j_ladd X dX12_host_252 (q := 253) rfl ?_
                        refine j_topl (fun y40 e_y40 => ?_)
                        refine j_lstore (lv' := [(6, .long y40), (0, .ref a_this), (1, .ref a_2), (2, .ref a_7), (3, .long t159_23), (5, .int (nI g192_26)), (8, .int (nI k220_28))]) X dX12_host_253 (by decide) rfl (q := 255) rfl ?_
                        refine j_aload_n X 1 dX12_host_255 rfl (q := 256) rfl ?_
                        refine j_get (f := 58) X 0 inT12 rfl rfl (by decide) mw_X12_host_11 rfl dX12_host_256 (q := 259) rfl ?_
                        refine j_iload X 6 dX12_host_259 rfl (q := 261) rfl ?_
                        refine j_lload X 0 dX12_host_261 rfl (q := 263) rfl ?_
                        refine j_ldc2 X mw_X12_host_12 dX12_host_263 (q := 266) rfl ?_
                        refine j_land X dX12_host_266 (q := 267) rfl ?_
                        refine j_l2i X dX12_host_267 (q := 268) rfl ?_
                        refine j_topi (fun y41 e_y41 => ?_)
                        refine k_iast (ws2 := [(a_this, .inr (12, mfs ad v_thrown v_connections (nI v_size) (nI v_ids) (nI v_dataAll) (nI v_putCount) (nI v_waiting) (nI v_readSize) v_power v_left v_since v_changes (nI v_rowSize))), (ad 75, .inl (ct 0, 16, .inl u16)), (ad 76, .inl (ct 0, 16, .inl u18)), (ad 73, .inl (ct 0, 32, .inl u20)), (ad 72, .inl (ct 0, 16, .inl t91_12)), (ad 57, .inl (ct 0, 8, .inl u14)), (ad 58, .inl (ct 0, 18, .inl (upd t220_28.1 k220_28 y41)))]) X 6 rfl (vp_in_nI (by omega) (by omega)) (nI_clamp (by omega)) dX12_host_268 rfl (q := 269) rfl ?_
                        refine j_lload X 0 dX12_host_269 rfl (q := 271) rfl ?_
                        refine j_bipush (v := nI 16) X dX12_host_271 (by decide) (q := 273) rfl ?_
                        refine j_lshr X dX12_host_273 (q := 274) rfl ?_
                        refine j_topl (fun y42 e_y42 => ?_)
                        refine j_lstore (lv' := [(6, .long y42), (0, .ref a_this), (1, .ref a_2), (2, .ref a_7), (3, .long t159_23), (5, .int (nI g192_26)), (8, .int (nI k220_28))]) X dX12_host_274 (by decide) rfl (q := 276) rfl ?_
                        refine j_iinc (v := nI (k220_28 + 1)) (lv' := [(8, .int (nI (k220_28 + 1))), (6, .long y42), (0, .ref a_this), (1, .ref a_2), (2, .ref a_7), (3, .long t159_23), (5, .int (nI g192_26))]) X 6 dX12_host_276 rfl (nI_inc _ 1) (by decide) rfl (q := 279) rfl ?_
                        refine j_goto (tgt := 220) X dX12_host_279 (by decide) ?_
                        refine j_lv (lv' := [(0, .ref a_this), (1, .ref a_2), (2, .ref a_7), (3, .long t159_23), (5, .int (nI g192_26)), (6, .long y42), (8, .int (nI (k220_28 + 1)))]) [2, 3, 4, 5, 6, 1, 0] rfl ?_
                        have hb : (X12_host_l220 u20 g192_26) k220_28 t220_28 = (upd t220_28.1 k220_28 y41, y42) := (by subst e_g233_38; subst e_y40; subst e_y41; subst e_y42; rfl)
                        exact ih220_28 (k220_28 + 1) ((upd t220_28.1 k220_28 y41, y42)) (by omega) (by rw [itr_s, ← e_t220_28]; exact hb.symm) 
                      refine j_icmp_ge (tgt := 251) X dX12_host_233 (by decide) (q := 236) rfl (fun c39 => ?_) (fun c39 => ?_)
                      · skip
                        have c39 : 16 ≤ k220_28 := (nI_leI (a := 16) (b := k220_28) (by omega) (by omega)).mp c39
                        refine j_lconst (v := 0) X dX12_host_251 (by decide) (q := 252) rfl ?_
                        refine j_lv (lv' := [(0, .ref a_this), (1, .ref a_2), (2, .ref a_7), (3, .long t159_23), (5, .int (nI g192_26)), (6, .long t220_28.2), (8, .int (nI k220_28))]) [0, 1, 2, 3, 4, 5, 6] rfl ?_
                        exact KJ233_38 ((0 : Int64)) (by first | rfl | (simp only [X12_host_m233, if_pos c39]; done) | (simp only [X12_host_m233, if_pos c39]; rfl))
                      · skip
                        have c39 : ¬ 16 ≤ k220_28 := fun h => c39 ((nI_leI (a := 16) (b := k220_28) (by omega) (by omega)).mpr h)
                        refine j_iload X 4 dX12_host_236 rfl (q := 238) rfl ?_
                        refine j_i2l X dX12_host_238 (q := 239) rfl ?_
                        refine j_aload_n X 0 dX12_host_239 rfl (q := 240) rfl ?_
                        refine j_get (f := 73) X 0 inT12 rfl rfl (by decide) mw_X12_host_13 rfl dX12_host_240 (q := 243) rfl ?_
                        refine j_iload X 6 dX12_host_243 rfl (q := 245) rfl ?_
                        refine k_iald X 3 rfl (vp_in_nI (by omega) (by omega)) (nI_clamp (by omega)) dX12_host_245 (q := 246) rfl ?_
                        refine j_i2l X dX12_host_246 (q := 247) rfl ?_
                        refine j_lmul X dX12_host_247 (q := 248) rfl ?_
                        refine j_goto (tgt := 252) X dX12_host_248 (by decide) ?_
                        refine j_lv (lv' := [(0, .ref a_this), (1, .ref a_2), (2, .ref a_7), (3, .long t159_23), (5, .int (nI g192_26)), (6, .long t220_28.2), (8, .int (nI k220_28))]) [0, 1, 2, 3, 4, 5, 6] rfl ?_
                        exact KJ233_38 (((nI g192_26).toInt64) * ((u20 k220_28).toInt64)) (by first | rfl | (simp only [X12_host_m233, if_neg c39]; done) | (simp only [X12_host_m233, if_neg c39]; rfl))
                exact LP220_28 18 0 ((f_hostD, y27)) (by omega) (itr_0 _ _).symm 
              have LP192_25 : ∀ (r192_25 k192_25 : Nat) (t192_25 : (Nat)), itx (X12_host_l192 t159_23) (9628 + 1) 0 0 = itx (X12_host_l192 t159_23) r192_25 k192_25 t192_25 → (t192_25 ≤ 9628 ∧ t192_25 + r192_25 = 9628 + 1) → J p l e { frames := 1, cells := 2, slots := 16, locals := 26 } s m [.ref a_this].toArray below meth c D A 11 Q 2 16 [(a_this, .inr (12, mfs ad v_thrown v_connections (nI v_size) (nI v_ids) (nI v_dataAll) (nI v_putCount) (nI v_waiting) (nI v_readSize) v_power v_left v_since v_changes (nI v_rowSize))), (ad 75, .inl (ct 0, 16, .inl u16)), (ad 76, .inl (ct 0, 16, .inl u18)), (ad 73, .inl (ct 0, 32, .inl u20)), (ad 72, .inl (ct 0, 16, .inl t91_12)), (ad 57, .inl (ct 0, 8, .inl u14)), (ad 58, .inl (ct 0, 18, .inl f_hostD))] [(0, .ref a_this), (1, .ref a_2), (2, .ref a_7), (3, .long t159_23), (5, .int (nI t192_25))] [] 192 := by
                intro r192_25
                induction r192_25 with
                | zero =>
                  intro k192_25 t192_25 e_t192_25 hi0_t192_25
                  exfalso; omega
                | succ r192_25 ih192_25 =>
                  intro k192_25 t192_25 e_t192_25 hi0_t192_25
                  refine j_lconst (v := 1) X dX12_host_192 (by decide) (q := 193) rfl ?_
                  refine j_iload X 4 dX12_host_193 rfl (q := 195) rfl ?_
                  refine j_i2l X dX12_host_195 (q := 196) rfl ?_
                  refine j_lload_n X 3 dX12_host_196 rfl (q := 197) rfl ?_
                  refine j_lmul X dX12_host_197 (q := 198) rfl ?_
                  refine j_ladd X dX12_host_198 (q := 199) rfl ?_
                  refine j_ldc2 X mw_X12_host_9 dX12_host_199 (q := 202) rfl ?_
                  refine j_lrem X dX12_host_202 (by decide) (q := 203) rfl ?_
                  refine j_lconst (v := 0) X dX12_host_203 (by decide) (q := 204) rfl ?_
                  refine j_lcmp X dX12_host_204 (q := 205) rfl ?_
                  refine j_if_eq (tgt := 214) X dX12_host_205 (by decide) (q := 208) rfl (fun c43 => ?_) (fun c43 => ?_)
                  · skip
                    refine j_lv (lv' := [(0, .ref a_this), (1, .ref a_2), (2, .ref a_7), (3, .long t159_23), (5, .int (nI t192_25))]) [0, 1, 2, 3, 4] rfl ?_
                    have hb44 : (X12_host_l192 t159_23) k192_25 t192_25 = .inr t192_25 := (by first | rfl | (simp only [X12_host_l192, if_pos c43]; done) | (simp only [X12_host_l192, if_pos c43]; rfl))
                    exact KE192_25 t192_25 (by rw [e_t192_25, itx_out hb44]; rfl) 
                  · skip
                    refine j_iinc (v := nI (t192_25 + 1)) (lv' := [(5, .int (nI (t192_25 + 1))), (0, .ref a_this), (1, .ref a_2), (2, .ref a_7), (3, .long t159_23)]) X 4 dX12_host_208 rfl (nI_inc _ 1) (by decide) rfl (q := 211) rfl ?_
                    refine j_goto (tgt := 192) X dX12_host_211 (by decide) ?_
                    refine j_lv (lv' := [(0, .ref a_this), (1, .ref a_2), (2, .ref a_7), (3, .long t159_23), (5, .int (nI (t192_25 + 1)))]) [1, 2, 3, 4, 0] rfl ?_
                    have hb : (X12_host_l192 t159_23) k192_25 t192_25 = .inl (t192_25 + 1) := (by first | rfl | (simp only [X12_host_l192, if_neg c43]; done) | (simp only [X12_host_l192, if_neg c43]; rfl))
                    exact ih192_25 (k192_25 + 1) (t192_25 + 1) (e_t192_25.trans (itx_in hb)) (show (t192_25 + 1) ≤ 9628 ∧ (t192_25 + 1) + r192_25 = 9628 + 1 from host_inv hpt hi0_t192_25 (by assumption))
              exact LP192_25 (9628 + 1) 0 0 rfl (show 0 ≤ 9628 ∧ 0 + (9628 + 1) = 9628 + 1 from by omega)
            · skip
              exact absurd (show dn 0 < 0 by decide) c24
          | succ r159_23 ih159_23 =>
            intro t159_23 hk_t159_23 e_t159_23 
            rw [dn_s]
            refine j_iload X 4 dX12_host_159 rfl (q := 161) rfl ?_
            refine j_if_lt (tgt := 189) X dX12_host_161 (by decide) (q := 164) rfl (fun c45 => ?_) (fun c45 => ?_)
            · skip
              have c45 : r159_23 < 0 := (nI_ltI (a := r159_23) (b := 0) (by omega) (by omega)).mp c45
              exfalso; omega
            · skip
              have c45 : ¬ r159_23 < 0 := fun h => c45 ((nI_ltI (a := r159_23) (b := 0) (by omega) (by omega)).mpr h)
              refine j_ldc2 X mw_X12_host_10 dX12_host_164 (q := 167) rfl ?_
              refine j_lload_n X 3 dX12_host_167 rfl (q := 168) rfl ?_
              refine j_lmul X dX12_host_168 (q := 169) rfl ?_
              refine j_aload_n X 0 dX12_host_169 rfl (q := 170) rfl ?_
              refine j_get (f := 73) X 0 inT12 rfl rfl (by decide) mw_X12_host_13 rfl dX12_host_170 (q := 173) rfl ?_
              refine j_iload X 4 dX12_host_173 rfl (q := 175) rfl ?_
              refine k_iald X 3 rfl (vp_in_nI (by omega) (by omega)) (nI_clamp (by omega)) dX12_host_175 (q := 176) rfl ?_
              refine j_i2l X dX12_host_176 (q := 177) rfl ?_
              refine j_ladd X dX12_host_177 (q := 178) rfl ?_
              refine j_ldc2 X mw_X12_host_9 dX12_host_178 (q := 181) rfl ?_
              refine j_lrem X dX12_host_181 (by decide) (q := 182) rfl ?_
              refine j_topl (fun y46 e_y46 => ?_)
              refine j_lstore_n (lv' := [(3, .long y46), (0, .ref a_this), (1, .ref a_2), (2, .ref a_7), (5, .int (nI r159_23))]) X dX12_host_182 (by decide) rfl (q := 183) rfl ?_
              refine j_iinc (v := dn r159_23) (lv' := [(5, .int (dn r159_23)), (3, .long y46), (0, .ref a_this), (1, .ref a_2), (2, .ref a_7)]) X 4 dX12_host_183 rfl (dn_dec _) (by decide) rfl (q := 186) rfl ?_
              refine j_goto (tgt := 159) X dX12_host_186 (by decide) ?_
              refine j_lv (lv' := [(0, .ref a_this), (1, .ref a_2), (2, .ref a_7), (3, .long y46), (5, .int (dn r159_23))]) [2, 3, 4, 1, 0] rfl ?_
              have hb : (X12_host_l159 u20) r159_23 t159_23 = y46 := (by subst e_y46; rfl)
              exact ih159_23 y46 (by omega) (by rw [e_t159_23, itd_s, hb]) 
        exact LP159_23 16 y22 (by omega) rfl 
      · skip
        have c13 : ¬ 16 ≤ 16 := fun h => c13 ((nI_leI (a := 16) (b := 16) (by omega) (by omega)).mpr h)
        exfalso; omega
    | succ r91_12 ih91_12 =>
      intro k91_12 t91_12 hk_t91_12 e_t91_12 
      refine j_iload_n X 3 dX12_host_91 rfl (q := 92) rfl ?_
      refine j_bipush (v := nI 16) X dX12_host_92 (by decide) (q := 94) rfl ?_
      refine j_icmp_ge (tgt := 115) X dX12_host_94 (by decide) (q := 97) rfl (fun c47 => ?_) (fun c47 => ?_)
      · skip
        have c47 : 16 ≤ k91_12 := (nI_leI (a := 16) (b := k91_12) (by omega) (by omega)).mp c47
        exfalso; omega
      · skip
        have c47 : ¬ 16 ≤ k91_12 := fun h => c47 ((nI_leI (a := 16) (b := k91_12) (by omega) (by omega)).mpr h)
        refine j_aload_n X 0 dX12_host_97 rfl (q := 98) rfl ?_
        refine j_get (f := 72) X 0 inT12 rfl rfl (by decide) mw_X12_host_7 rfl dX12_host_98 (q := 101) rfl ?_
        refine j_iload_n X 3 dX12_host_101 rfl (q := 102) rfl ?_
        refine j_aload_n X 0 dX12_host_102 rfl (q := 103) rfl ?_
        refine j_get (f := 73) X 0 inT12 rfl rfl (by decide) mw_X12_host_13 rfl dX12_host_103 (q := 106) rfl ?_
        refine j_iload_n X 3 dX12_host_106 rfl (q := 107) rfl ?_
        refine k_iald X 3 rfl (vp_in_nI (by omega) (by omega)) (nI_clamp (by omega)) dX12_host_107 (q := 108) rfl ?_
        refine j_topi (fun y48 e_y48 => ?_)
        refine k_iast (ws2 := [(a_this, .inr (12, mfs ad v_thrown v_connections (nI v_size) (nI v_ids) (nI v_dataAll) (nI v_putCount) (nI v_waiting) (nI v_readSize) v_power v_left v_since v_changes (nI v_rowSize))), (ad 75, .inl (ct 0, 16, .inl u6)), (ad 76, .inl (ct 0, 16, .inl u8)), (ad 73, .inl (ct 0, 32, .inl u10)), (ad 72, .inl (ct 0, 16, .inl (upd t91_12 k91_12 y48))), (ad 57, .inl (ct 0, 8, .inl f_hostN)), (ad 58, .inl (ct 0, 18, .inl f_hostD))]) X 4 rfl (vp_in_nI (by omega) (by omega)) (nI_clamp (by omega)) dX12_host_108 rfl (q := 109) rfl ?_
        refine j_iinc (v := nI (k91_12 + 1)) (lv' := [(3, .int (nI (k91_12 + 1))), (0, .ref a_this), (1, .ref a_2), (2, .ref a_7)]) X 3 dX12_host_109 rfl (nI_inc _ 1) (by decide) rfl (q := 112) rfl ?_
        refine j_goto (tgt := 91) X dX12_host_112 (by decide) ?_
        refine j_lv (lv' := [(0, .ref a_this), (1, .ref a_2), (2, .ref a_7), (3, .int (nI (k91_12 + 1)))]) [1, 2, 3, 0] rfl ?_
        have hb : (X12_host_l91 u10) k91_12 t91_12 = upd t91_12 k91_12 y48 := (by subst e_y48; rfl)
        exact ih91_12 (k91_12 + 1) (upd t91_12 k91_12 y48) (by omega) (by rw [itr_s, ← e_t91_12]; exact hb.symm) 
  exact LP91_12 16 0 f_result (by omega) (itr_0 _ _).symm 
theorem cal_X12_host : Cal yX12_host cX12_host 11 none 0 := ⟨tb_at 120 (by decide +kernel) (by decide +kernel), tb_at 1214 (by decide +kernel) (by decide +kernel), by decide +kernel, by decide +kernel, by decide +kernel⟩
theorem cwi_X12_host : Cond.instanceMethod yX12_host ∈ tb := tb_at 1213 (by decide +kernel) (by decide +kernel)
theorem cws_X12_host : Cond.selects yX12_host.cls yX12_host yX12_host ∈ tb := tb_at 46 (by decide +kernel) (by decide +kernel)

