theorem q1853 : Cond.code yX9_goesBack cX9_goesBack 8 none ∈ lw_g := lw_gm (List.mem_of_getElem? (i := 1853) (by decide +kernel)) rfl
theorem q1395 : Cond.fieldLink RX9 74 "LipsAndSlidesModel" "cost" "[I" ∈ lw_g := lw_gm (List.mem_of_getElem? (i := 1395) (by decide +kernel)) rfl
theorem q1396 : Cond.fieldLink RX9 77 "LipsAndSlidesModel" "sour" "[I" ∈ lw_g := lw_gm (List.mem_of_getElem? (i := 1396) (by decide +kernel)) rfl
theorem q1397 : Cond.fieldLink RX9 80 "LipsAndSlidesModel" "plays" "[J" ∈ lw_g := lw_gm (List.mem_of_getElem? (i := 1397) (by decide +kernel)) rfl
theorem q1854 : Cond.methodLink RX9 403 yX9_mayGo_ ∈ lw_g := lw_gm (List.mem_of_getElem? (i := 1854) (by decide +kernel)) rfl
theorem q1856 : Cond.instanceMethod yX9_mayGo_ ∈ lw_g := lw_gm (List.mem_of_getElem? (i := 1856) (by decide +kernel)) rfl
theorem q95 : Cond.selects RX9 yX9_mayGo_ yX9_mayGo_ ∈ lw_g := lw_gm (List.mem_of_getElem? (i := 95) (by decide +kernel)) rfl
theorem q1862 : Cond.methodLink RX9 405 yX9_moveBy ∈ lw_g := lw_gm (List.mem_of_getElem? (i := 1862) (by decide +kernel)) rfl
theorem q1864 : Cond.instanceMethod yX9_moveBy ∈ lw_g := lw_gm (List.mem_of_getElem? (i := 1864) (by decide +kernel)) rfl
theorem q97 : Cond.selects RX9 yX9_moveBy yX9_moveBy ∈ lw_g := lw_gm (List.mem_of_getElem? (i := 97) (by decide +kernel)) rfl
theorem q1866 : Cond.constantLong RX9 408 (1000000000) ∈ lw_g := lw_gm (List.mem_of_getElem? (i := 1866) (by decide +kernel)) rfl
theorem q1867 : Cond.constantLong RX9 410 (1000000001) ∈ lw_g := lw_gm (List.mem_of_getElem? (i := 1867) (by decide +kernel)) rfl
theorem dX9_goesBack_0 : decode cX9_goesBack 0 = .ok (.aload_n 0, 1) := by decide +kernel
theorem dX9_goesBack_1 : decode cX9_goesBack 1 = .ok (.getfield 387, 3) := by decide +kernel
theorem dX9_goesBack_4 : decode cX9_goesBack 4 = .ok (.iconst 1, 1) := by decide +kernel
theorem dX9_goesBack_5 : decode cX9_goesBack 5 = .ok (.isub, 1) := by decide +kernel
theorem dX9_goesBack_6 : decode cX9_goesBack 6 = .ok (.istore_n 1, 1) := by decide +kernel
theorem dX9_goesBack_7 : decode cX9_goesBack 7 = .ok (.iload_n 1, 1) := by decide +kernel
theorem dX9_goesBack_8 : decode cX9_goesBack 8 = .ok (.ifCond .lt 306, 3) := by decide +kernel
theorem dX9_goesBack_11 : decode cX9_goesBack 11 = .ok (.iconst 0, 1) := by decide +kernel
theorem dX9_goesBack_12 : decode cX9_goesBack 12 = .ok (.istore_n 2, 1) := by decide +kernel
theorem dX9_goesBack_13 : decode cX9_goesBack 13 = .ok (.iload_n 2, 1) := by decide +kernel
theorem dX9_goesBack_14 : decode cX9_goesBack 14 = .ok (.aload_n 0, 1) := by decide +kernel
theorem dX9_goesBack_15 : decode cX9_goesBack 15 = .ok (.getfield 53, 3) := by decide +kernel
theorem dX9_goesBack_18 : decode cX9_goesBack 18 = .ok (.iload_n 1, 1) := by decide +kernel
theorem dX9_goesBack_19 : decode cX9_goesBack 19 = .ok (.iaload, 1) := by decide +kernel
theorem dX9_goesBack_20 : decode cX9_goesBack 20 = .ok (.if_icmp .ge 288, 3) := by decide +kernel
theorem dX9_goesBack_23 : decode cX9_goesBack 23 = .ok (.bipush 88, 2) := by decide +kernel
theorem dX9_goesBack_25 : decode cX9_goesBack 25 = .ok (.iload_n 1, 1) := by decide +kernel
theorem dX9_goesBack_26 : decode cX9_goesBack 26 = .ok (.imul, 1) := by decide +kernel
theorem dX9_goesBack_27 : decode cX9_goesBack 27 = .ok (.iload_n 2, 1) := by decide +kernel
theorem dX9_goesBack_28 : decode cX9_goesBack 28 = .ok (.iadd, 1) := by decide +kernel
theorem dX9_goesBack_29 : decode cX9_goesBack 29 = .ok (.istore_n 3, 1) := by decide +kernel
theorem dX9_goesBack_30 : decode cX9_goesBack 30 = .ok (.aload_n 0, 1) := by decide +kernel
theorem dX9_goesBack_31 : decode cX9_goesBack 31 = .ok (.getfield 74, 3) := by decide +kernel
theorem dX9_goesBack_34 : decode cX9_goesBack 34 = .ok (.iload_n 3, 1) := by decide +kernel
theorem dX9_goesBack_35 : decode cX9_goesBack 35 = .ok (.iload_n 1, 1) := by decide +kernel
theorem dX9_goesBack_36 : decode cX9_goesBack 36 = .ok (.aload_n 0, 1) := by decide +kernel
theorem dX9_goesBack_37 : decode cX9_goesBack 37 = .ok (.getfield 387, 3) := by decide +kernel
theorem dX9_goesBack_40 : decode cX9_goesBack 40 = .ok (.iconst 1, 1) := by decide +kernel
theorem dX9_goesBack_41 : decode cX9_goesBack 41 = .ok (.isub, 1) := by decide +kernel
theorem dX9_goesBack_42 : decode cX9_goesBack 42 = .ok (.if_icmp .ne 7, 3) := by decide +kernel
theorem dX9_goesBack_45 : decode cX9_goesBack 45 = .ok (.iconst 0, 1) := by decide +kernel
theorem dX9_goesBack_46 : decode cX9_goesBack 46 = .ok (.goto 5, 3) := by decide +kernel
theorem dX9_goesBack_49 : decode cX9_goesBack 49 = .ok (.ldc 180, 2) := by decide +kernel
theorem dX9_goesBack_51 : decode cX9_goesBack 51 = .ok (.iastore, 1) := by decide +kernel
theorem dX9_goesBack_52 : decode cX9_goesBack 52 = .ok (.aload_n 0, 1) := by decide +kernel
theorem dX9_goesBack_53 : decode cX9_goesBack 53 = .ok (.getfield 77, 3) := by decide +kernel
theorem dX9_goesBack_56 : decode cX9_goesBack 56 = .ok (.iload_n 3, 1) := by decide +kernel
theorem dX9_goesBack_57 : decode cX9_goesBack 57 = .ok (.iload_n 1, 1) := by decide +kernel
theorem dX9_goesBack_58 : decode cX9_goesBack 58 = .ok (.aload_n 0, 1) := by decide +kernel
theorem dX9_goesBack_59 : decode cX9_goesBack 59 = .ok (.getfield 387, 3) := by decide +kernel
theorem dX9_goesBack_62 : decode cX9_goesBack 62 = .ok (.iconst 1, 1) := by decide +kernel
theorem dX9_goesBack_63 : decode cX9_goesBack 63 = .ok (.isub, 1) := by decide +kernel
theorem dX9_goesBack_64 : decode cX9_goesBack 64 = .ok (.if_icmp .ne 12, 3) := by decide +kernel
theorem dX9_goesBack_67 : decode cX9_goesBack 67 = .ok (.aload_n 0, 1) := by decide +kernel
theorem dX9_goesBack_68 : decode cX9_goesBack 68 = .ok (.getfield 62, 3) := by decide +kernel
theorem dX9_goesBack_71 : decode cX9_goesBack 71 = .ok (.iload_n 3, 1) := by decide +kernel
theorem dX9_goesBack_72 : decode cX9_goesBack 72 = .ok (.iaload, 1) := by decide +kernel
theorem dX9_goesBack_73 : decode cX9_goesBack 73 = .ok (.goto 5, 3) := by decide +kernel
theorem dX9_goesBack_76 : decode cX9_goesBack 76 = .ok (.ldc 180, 2) := by decide +kernel
theorem dX9_goesBack_78 : decode cX9_goesBack 78 = .ok (.iastore, 1) := by decide +kernel
theorem dX9_goesBack_79 : decode cX9_goesBack 79 = .ok (.aload_n 0, 1) := by decide +kernel
theorem dX9_goesBack_80 : decode cX9_goesBack 80 = .ok (.getfield 80, 3) := by decide +kernel
theorem dX9_goesBack_83 : decode cX9_goesBack 83 = .ok (.iload_n 3, 1) := by decide +kernel
theorem dX9_goesBack_84 : decode cX9_goesBack 84 = .ok (.iload_n 1, 1) := by decide +kernel
theorem dX9_goesBack_85 : decode cX9_goesBack 85 = .ok (.aload_n 0, 1) := by decide +kernel
theorem dX9_goesBack_86 : decode cX9_goesBack 86 = .ok (.getfield 387, 3) := by decide +kernel
theorem dX9_goesBack_89 : decode cX9_goesBack 89 = .ok (.iconst 1, 1) := by decide +kernel
theorem dX9_goesBack_90 : decode cX9_goesBack 90 = .ok (.isub, 1) := by decide +kernel
theorem dX9_goesBack_91 : decode cX9_goesBack 91 = .ok (.if_icmp .ne 7, 3) := by decide +kernel
theorem dX9_goesBack_94 : decode cX9_goesBack 94 = .ok (.lconst 1, 1) := by decide +kernel
theorem dX9_goesBack_95 : decode cX9_goesBack 95 = .ok (.goto 4, 3) := by decide +kernel
theorem dX9_goesBack_98 : decode cX9_goesBack 98 = .ok (.lconst 0, 1) := by decide +kernel
theorem dX9_goesBack_99 : decode cX9_goesBack 99 = .ok (.lastore, 1) := by decide +kernel
theorem dX9_goesBack_100 : decode cX9_goesBack 100 = .ok (.iconst 0, 1) := by decide +kernel
theorem dX9_goesBack_101 : decode cX9_goesBack 101 = .ok (.istore 4, 2) := by decide +kernel
theorem dX9_goesBack_103 : decode cX9_goesBack 103 = .ok (.iload_n 1, 1) := by decide +kernel
theorem dX9_goesBack_104 : decode cX9_goesBack 104 = .ok (.aload_n 0, 1) := by decide +kernel
theorem dX9_goesBack_105 : decode cX9_goesBack 105 = .ok (.getfield 387, 3) := by decide +kernel
theorem dX9_goesBack_108 : decode cX9_goesBack 108 = .ok (.iconst 1, 1) := by decide +kernel
theorem dX9_goesBack_109 : decode cX9_goesBack 109 = .ok (.isub, 1) := by decide +kernel
theorem dX9_goesBack_110 : decode cX9_goesBack 110 = .ok (.if_icmp .ge 192, 3) := by decide +kernel
theorem dX9_goesBack_113 : decode cX9_goesBack 113 = .ok (.iload 4, 2) := by decide +kernel
theorem dX9_goesBack_115 : decode cX9_goesBack 115 = .ok (.aload_n 0, 1) := by decide +kernel
theorem dX9_goesBack_116 : decode cX9_goesBack 116 = .ok (.getfield 53, 3) := by decide +kernel
theorem dX9_goesBack_119 : decode cX9_goesBack 119 = .ok (.iload_n 1, 1) := by decide +kernel
theorem dX9_goesBack_120 : decode cX9_goesBack 120 = .ok (.iconst 1, 1) := by decide +kernel
theorem dX9_goesBack_121 : decode cX9_goesBack 121 = .ok (.iadd, 1) := by decide +kernel
theorem dX9_goesBack_122 : decode cX9_goesBack 122 = .ok (.iaload, 1) := by decide +kernel
theorem dX9_goesBack_123 : decode cX9_goesBack 123 = .ok (.if_icmp .ge 179, 3) := by decide +kernel
theorem dX9_goesBack_126 : decode cX9_goesBack 126 = .ok (.bipush 88, 2) := by decide +kernel
theorem dX9_goesBack_128 : decode cX9_goesBack 128 = .ok (.iload_n 1, 1) := by decide +kernel
theorem dX9_goesBack_129 : decode cX9_goesBack 129 = .ok (.iconst 1, 1) := by decide +kernel
theorem dX9_goesBack_130 : decode cX9_goesBack 130 = .ok (.iadd, 1) := by decide +kernel
theorem dX9_goesBack_131 : decode cX9_goesBack 131 = .ok (.imul, 1) := by decide +kernel
theorem dX9_goesBack_132 : decode cX9_goesBack 132 = .ok (.iload 4, 2) := by decide +kernel
theorem dX9_goesBack_134 : decode cX9_goesBack 134 = .ok (.iadd, 1) := by decide +kernel
theorem dX9_goesBack_135 : decode cX9_goesBack 135 = .ok (.istore 5, 2) := by decide +kernel
theorem dX9_goesBack_137 : decode cX9_goesBack 137 = .ok (.aload_n 0, 1) := by decide +kernel
theorem dX9_goesBack_138 : decode cX9_goesBack 138 = .ok (.getfield 74, 3) := by decide +kernel
theorem dX9_goesBack_141 : decode cX9_goesBack 141 = .ok (.iload 5, 2) := by decide +kernel
theorem dX9_goesBack_143 : decode cX9_goesBack 143 = .ok (.iaload, 1) := by decide +kernel
theorem dX9_goesBack_144 : decode cX9_goesBack 144 = .ok (.ldc 180, 2) := by decide +kernel
theorem dX9_goesBack_146 : decode cX9_goesBack 146 = .ok (.if_icmp .eq 150, 3) := by decide +kernel
theorem dX9_goesBack_149 : decode cX9_goesBack 149 = .ok (.aload_n 0, 1) := by decide +kernel
theorem dX9_goesBack_150 : decode cX9_goesBack 150 = .ok (.iload_n 1, 1) := by decide +kernel
theorem dX9_goesBack_151 : decode cX9_goesBack 151 = .ok (.iload_n 2, 1) := by decide +kernel
theorem dX9_goesBack_152 : decode cX9_goesBack 152 = .ok (.iload 4, 2) := by decide +kernel
theorem dX9_goesBack_154 : decode cX9_goesBack 154 = .ok (.invokevirtual 403, 3) := by decide +kernel
theorem dX9_goesBack_157 : decode cX9_goesBack 157 = .ok (.ifCond .ne 6, 3) := by decide +kernel
theorem dX9_goesBack_160 : decode cX9_goesBack 160 = .ok (.goto 136, 3) := by decide +kernel
theorem dX9_goesBack_163 : decode cX9_goesBack 163 = .ok (.aload_n 0, 1) := by decide +kernel
theorem dX9_goesBack_164 : decode cX9_goesBack 164 = .ok (.getfield 74, 3) := by decide +kernel
theorem dX9_goesBack_167 : decode cX9_goesBack 167 = .ok (.iload 5, 2) := by decide +kernel
theorem dX9_goesBack_169 : decode cX9_goesBack 169 = .ok (.iaload, 1) := by decide +kernel
theorem dX9_goesBack_170 : decode cX9_goesBack 170 = .ok (.aload_n 0, 1) := by decide +kernel
theorem dX9_goesBack_171 : decode cX9_goesBack 171 = .ok (.iload_n 1, 1) := by decide +kernel
theorem dX9_goesBack_172 : decode cX9_goesBack 172 = .ok (.iload_n 2, 1) := by decide +kernel
theorem dX9_goesBack_173 : decode cX9_goesBack 173 = .ok (.iload 4, 2) := by decide +kernel
theorem dX9_goesBack_175 : decode cX9_goesBack 175 = .ok (.invokevirtual 405, 3) := by decide +kernel
theorem dX9_goesBack_178 : decode cX9_goesBack 178 = .ok (.iadd, 1) := by decide +kernel
theorem dX9_goesBack_179 : decode cX9_goesBack 179 = .ok (.istore 6, 2) := by decide +kernel
theorem dX9_goesBack_181 : decode cX9_goesBack 181 = .ok (.aload_n 0, 1) := by decide +kernel
theorem dX9_goesBack_182 : decode cX9_goesBack 182 = .ok (.getfield 77, 3) := by decide +kernel
theorem dX9_goesBack_185 : decode cX9_goesBack 185 = .ok (.iload 5, 2) := by decide +kernel
theorem dX9_goesBack_187 : decode cX9_goesBack 187 = .ok (.iaload, 1) := by decide +kernel
theorem dX9_goesBack_188 : decode cX9_goesBack 188 = .ok (.aload_n 0, 1) := by decide +kernel
theorem dX9_goesBack_189 : decode cX9_goesBack 189 = .ok (.getfield 62, 3) := by decide +kernel
theorem dX9_goesBack_192 : decode cX9_goesBack 192 = .ok (.iload_n 3, 1) := by decide +kernel
theorem dX9_goesBack_193 : decode cX9_goesBack 193 = .ok (.iaload, 1) := by decide +kernel
theorem dX9_goesBack_194 : decode cX9_goesBack 194 = .ok (.iadd, 1) := by decide +kernel
theorem dX9_goesBack_195 : decode cX9_goesBack 195 = .ok (.istore 7, 2) := by decide +kernel
theorem dX9_goesBack_197 : decode cX9_goesBack 197 = .ok (.aload_n 0, 1) := by decide +kernel
theorem dX9_goesBack_198 : decode cX9_goesBack 198 = .ok (.getfield 80, 3) := by decide +kernel
theorem dX9_goesBack_201 : decode cX9_goesBack 201 = .ok (.iload_n 3, 1) := by decide +kernel
theorem dX9_goesBack_202 : decode cX9_goesBack 202 = .ok (.aload_n 0, 1) := by decide +kernel
theorem dX9_goesBack_203 : decode cX9_goesBack 203 = .ok (.getfield 80, 3) := by decide +kernel
theorem dX9_goesBack_206 : decode cX9_goesBack 206 = .ok (.iload_n 3, 1) := by decide +kernel
theorem dX9_goesBack_207 : decode cX9_goesBack 207 = .ok (.laload, 1) := by decide +kernel
theorem dX9_goesBack_208 : decode cX9_goesBack 208 = .ok (.aload_n 0, 1) := by decide +kernel
theorem dX9_goesBack_209 : decode cX9_goesBack 209 = .ok (.getfield 80, 3) := by decide +kernel
theorem dX9_goesBack_212 : decode cX9_goesBack 212 = .ok (.iload 5, 2) := by decide +kernel
theorem dX9_goesBack_214 : decode cX9_goesBack 214 = .ok (.laload, 1) := by decide +kernel
theorem dX9_goesBack_215 : decode cX9_goesBack 215 = .ok (.ladd, 1) := by decide +kernel
theorem dX9_goesBack_216 : decode cX9_goesBack 216 = .ok (.ldc2_w 408, 3) := by decide +kernel
theorem dX9_goesBack_219 : decode cX9_goesBack 219 = .ok (.lcmp, 1) := by decide +kernel
theorem dX9_goesBack_220 : decode cX9_goesBack 220 = .ok (.ifCond .le 9, 3) := by decide +kernel
theorem dX9_goesBack_223 : decode cX9_goesBack 223 = .ok (.ldc2_w 410, 3) := by decide +kernel
theorem dX9_goesBack_226 : decode cX9_goesBack 226 = .ok (.goto 17, 3) := by decide +kernel
theorem dX9_goesBack_229 : decode cX9_goesBack 229 = .ok (.aload_n 0, 1) := by decide +kernel
theorem dX9_goesBack_230 : decode cX9_goesBack 230 = .ok (.getfield 80, 3) := by decide +kernel
theorem dX9_goesBack_233 : decode cX9_goesBack 233 = .ok (.iload_n 3, 1) := by decide +kernel
theorem dX9_goesBack_234 : decode cX9_goesBack 234 = .ok (.laload, 1) := by decide +kernel
theorem dX9_goesBack_235 : decode cX9_goesBack 235 = .ok (.aload_n 0, 1) := by decide +kernel
theorem dX9_goesBack_236 : decode cX9_goesBack 236 = .ok (.getfield 80, 3) := by decide +kernel
theorem dX9_goesBack_239 : decode cX9_goesBack 239 = .ok (.iload 5, 2) := by decide +kernel
theorem dX9_goesBack_241 : decode cX9_goesBack 241 = .ok (.laload, 1) := by decide +kernel
theorem dX9_goesBack_242 : decode cX9_goesBack 242 = .ok (.ladd, 1) := by decide +kernel
theorem dX9_goesBack_243 : decode cX9_goesBack 243 = .ok (.lastore, 1) := by decide +kernel
theorem dX9_goesBack_244 : decode cX9_goesBack 244 = .ok (.iload 6, 2) := by decide +kernel
theorem dX9_goesBack_246 : decode cX9_goesBack 246 = .ok (.aload_n 0, 1) := by decide +kernel
theorem dX9_goesBack_247 : decode cX9_goesBack 247 = .ok (.getfield 74, 3) := by decide +kernel
theorem dX9_goesBack_250 : decode cX9_goesBack 250 = .ok (.iload_n 3, 1) := by decide +kernel
theorem dX9_goesBack_251 : decode cX9_goesBack 251 = .ok (.iaload, 1) := by decide +kernel
theorem dX9_goesBack_252 : decode cX9_goesBack 252 = .ok (.if_icmp .gt 44, 3) := by decide +kernel
theorem dX9_goesBack_255 : decode cX9_goesBack 255 = .ok (.iload 6, 2) := by decide +kernel
theorem dX9_goesBack_257 : decode cX9_goesBack 257 = .ok (.aload_n 0, 1) := by decide +kernel
theorem dX9_goesBack_258 : decode cX9_goesBack 258 = .ok (.getfield 74, 3) := by decide +kernel
theorem dX9_goesBack_261 : decode cX9_goesBack 261 = .ok (.iload_n 3, 1) := by decide +kernel
theorem dX9_goesBack_262 : decode cX9_goesBack 262 = .ok (.iaload, 1) := by decide +kernel
theorem dX9_goesBack_263 : decode cX9_goesBack 263 = .ok (.if_icmp .ne 17, 3) := by decide +kernel
theorem dX9_goesBack_266 : decode cX9_goesBack 266 = .ok (.iload 7, 2) := by decide +kernel
theorem dX9_goesBack_268 : decode cX9_goesBack 268 = .ok (.aload_n 0, 1) := by decide +kernel
theorem dX9_goesBack_269 : decode cX9_goesBack 269 = .ok (.getfield 77, 3) := by decide +kernel
theorem dX9_goesBack_272 : decode cX9_goesBack 272 = .ok (.iload_n 3, 1) := by decide +kernel
theorem dX9_goesBack_273 : decode cX9_goesBack 273 = .ok (.iaload, 1) := by decide +kernel
theorem dX9_goesBack_274 : decode cX9_goesBack 274 = .ok (.if_icmp .lt 6, 3) := by decide +kernel
theorem dX9_goesBack_277 : decode cX9_goesBack 277 = .ok (.goto 19, 3) := by decide +kernel
theorem dX9_goesBack_280 : decode cX9_goesBack 280 = .ok (.aload_n 0, 1) := by decide +kernel
theorem dX9_goesBack_281 : decode cX9_goesBack 281 = .ok (.getfield 74, 3) := by decide +kernel
theorem dX9_goesBack_284 : decode cX9_goesBack 284 = .ok (.iload_n 3, 1) := by decide +kernel
theorem dX9_goesBack_285 : decode cX9_goesBack 285 = .ok (.iload 6, 2) := by decide +kernel
theorem dX9_goesBack_287 : decode cX9_goesBack 287 = .ok (.iastore, 1) := by decide +kernel
theorem dX9_goesBack_288 : decode cX9_goesBack 288 = .ok (.aload_n 0, 1) := by decide +kernel
theorem dX9_goesBack_289 : decode cX9_goesBack 289 = .ok (.getfield 77, 3) := by decide +kernel
theorem dX9_goesBack_292 : decode cX9_goesBack 292 = .ok (.iload_n 3, 1) := by decide +kernel
theorem dX9_goesBack_293 : decode cX9_goesBack 293 = .ok (.iload 7, 2) := by decide +kernel
theorem dX9_goesBack_295 : decode cX9_goesBack 295 = .ok (.iastore, 1) := by decide +kernel
theorem dX9_goesBack_296 : decode cX9_goesBack 296 = .ok (.iinc 4 1, 3) := by decide +kernel
theorem dX9_goesBack_299 : decode cX9_goesBack 299 = .ok (.goto (-196), 3) := by decide +kernel
theorem dX9_goesBack_302 : decode cX9_goesBack 302 = .ok (.iinc 2 1, 3) := by decide +kernel
theorem dX9_goesBack_305 : decode cX9_goesBack 305 = .ok (.goto (-292), 3) := by decide +kernel
theorem dX9_goesBack_308 : decode cX9_goesBack 308 = .ok (.iinc 1 (-1), 3) := by decide +kernel
theorem dX9_goesBack_311 : decode cX9_goesBack 311 = .ok (.goto (-304), 3) := by decide +kernel
theorem dX9_goesBack_314 : decode cX9_goesBack 314 = .ok (.return_, 1) := by decide +kernel
set_option maxHeartbeats 4000000 in
set_option maxRecDepth 100000 in
theorem m_X9_goesBack (l : Launch) (D : va_G) (cy : Nat → ClassId) (g : Nat → Nat) (σ : ST)  (sz : Nat) (hJ : J9 (σ 9))  : Met l yX9_goesBack (ww yX9_goesBack cX9_goesBack 8 none) ({ frames := 5, cells := 0, slots := 0, locals := 320 }) (va_Pc [.ref (g 60)] (pr9 D cy g σ sz)) (qv9 D cy g sz (fun τ => Fr (fL [35, 36, 37]) σ τ ∧ J9 (τ 9) ∧ GB (τ 9) ∧ True)) 0 0 (A9 cy g sz) := by
  refine Met.ofW (cc := cX9_goesBack) (maxL := 8) (ret := none) (by decide) rfl ?_
  intro p e s m args below meth c s₁ B hml hv
  obtain ⟨rfl, hsz, hP, hK, hD0, hC⟩ := hv
  have hx := B.exec
  have hb := B.bytes
  have hr := B.returns
  have hts := hts_g (atoms_spec (ws := ww yX9_goesBack cX9_goesBack 8 none) B.pre)
  have hown : s.vm.findClass RX9 = some m.cls := findClass_of_methodNamed B.named
  have hlocks := B.notSynchronized
  clear B
  subst hsz
  have hD := fun τ => A9_D (sz := s.heap.size) hD0 τ
  clear hD0
  have hS : va_S (A9 cy g s.heap.size) s.heap s.heap [] := va_S.rf
  have hl := lv_entry ([.ref (g 60)]) (n := 8) (Nat.le_of_ble_eq_true rfl)
  rw [lg_entry_eq]
  generalize (lg_sl ([.ref (g 60)]) ++ List.replicate (8 - (lg_sl ([.ref (g 60)])).length) Slot.unset).toArray = ls at hl ⊢
  have hl : lv_has ls 8 [(0, .ref (g 60))] := hl
  refine lv_aload_n hx hb dX9_goesBack_0 rfl (lv_at hl 0 rfl) ?_
  refine g9_31 (x := ((σ 9).1 31)) hx hb hts hown hK hP (rfl) (hts _ q1391) dX9_goesBack_1 ?_
  refine lv_iconst (v := 1) hx hb dX9_goesBack_4 (by decide) ?_
  refine lv_isub hx hb dX9_goesBack_5 ?_
  refine lv_topi (fun x1 ex1 => ?_)
  have t2 := subO ex1 (by have f0 := j9_31 hJ rfl; have z1 : (1 : Int32).toInt = 1 := (by decide); omega)
  refine lv_istore_n (lv' := [(1, .int x1), (0, .ref (g 60))]) hx hb dX9_goesBack_6 rfl hl (by decide) rfl (fun ls hl => ?_)
  refine loop9 8 7 (fun x : LZ => [(1, .int (x.2.1 0)), (0, .ref (g 60))]) (fun x : LZ => (Fr (fL [35, 36, 37]) σ x.1) ∧ (J9 (x.1 9)) ∧ ((-1 : Int) ≤ (x.2.1 0).toInt ∧ (x.2.1 0).toInt ≤ 15) ∧ (GO (x.1 9) ((x.2.1 0).toInt + 1)) ∧ True) (fun x : LZ => ((x.2.1 0).toInt - (-2 : Int)).toNat) ?_ (σ, lf [x1], lg []) ⟨Fr.rf, hJ, (show (-1 : Int) ≤ (x1 : Int32).toInt ∧ (x1 : Int32).toInt ≤ 15 from (by have f0 := t2; have f1 := j9_31 hJ rfl; have g1 := rg32 x1; have z1 : (1 : Int32).toInt = 1 := (by decide); omega)), (show GO (σ 9) (x1.toInt + 1) from GO.nil (by have f0 := j9_31 hJ rfl; have f1 := t2; have g1 := rg32 x1; have z1 : (1 : Int32).toInt = 1 := (by decide); omega)), trivial⟩ _ _ _ hP hS (lv_sub hl [0, 1] rfl)
  intro y5 hI4 nl3 H locs ls hP hS hl
  obtain ⟨σ6, eσ6⟩ : ∃ z, z = y5.1 := ⟨_, rfl⟩
  rw [← eσ6] at hP hI4
  have hF7 : Fr (fL [35, 36, 37]) σ σ6 := hI4.1
  have hJ8 : J9 (σ6 9) := hI4.2.1
  have b9 : (-1 : Int) ≤ (y5.2.1 0).toInt ∧ (y5.2.1 0).toInt ≤ 15 := hI4.2.2.1
  have b10 : GO (σ6 9) ((y5.2.1 0).toInt + 1) := hI4.2.2.2.1
  have hl : lv_has ls 8 [(1, .int (y5.2.1 0)), (0, .ref (g 60))] := hl
  refine lv_iload_n hx hb dX9_goesBack_7 rfl (lv_at hl 0 rfl) ?_
  refine lv_if_lt (tgt := 314) hx hb dX9_goesBack_8 (by decide) (fun c11 => ?_) (fun c11 => ?_)
  ·
    have k12 := plt32 c11
    exact W.vret hx hb hr (fun tS ht hW => ⟨⟨σ6, rfl, ⟨Fr.tr (Fr.rf) hF7 (fL_sub rfl), hJ8, GO.all b10 (by have f0 := b9; have f1 := k12; have g0 := rg32 (y5.2.1 0); have z0 : (0 : Int32).toInt = 0 := (by decide); omega), trivial⟩, (show va_P D clz (WD9 cy g σ6) tS.heap by rw [ht]; exact hP)⟩, hS.F ht⟩) hS.2.2 dX9_goesBack_314
  ·
    have k13 := nlt32 c11
    refine lv_iconst (v := 0) hx hb dX9_goesBack_11 (by decide) ?_
    refine lv_istore_n (lv' := [(2, .int 0), (1, .int (y5.2.1 0)), (0, .ref (g 60))]) hx hb dX9_goesBack_12 rfl hl (by decide) rfl (fun ls hl => ?_)
    refine loop9 8 13 (fun x : LZ => [(2, .int (x.2.1 0)), (1, .int (y5.2.1 0)), (0, .ref (g 60))]) (fun x : LZ => (Fr (fL [35, 36, 37]) σ6 x.1) ∧ (J9 (x.1 9)) ∧ ((0 : Int) ≤ (x.2.1 0).toInt ∧ (x.2.1 0).toInt ≤ 88) ∧ (GI (x.1 9) ((y5.2.1 0).toInt.toNat) ((x.2.1 0).toInt.toNat)) ∧ True) (fun x : LZ => ((89 : Int) - (x.2.1 0).toInt).toNat) ?_ (σ6, lf [0], lg []) ⟨Fr.rf, hJ8, (show (0 : Int) ≤ (0 : Int32).toInt ∧ (0 : Int32).toInt ≤ 88 from (by have z0 : (0 : Int32).toInt = 0 := (by decide); omega)), (show GI (σ6 9) ((y5.2.1 0).toInt.toNat) ((0 : Int32).toInt.toNat) from GI.begin b10 (by have f0 := b9; have f1 := k13; have g0 := rg32 (y5.2.1 0); have z0 : (0 : Int32).toInt = 0 := (by decide); omega) (by decide)), trivial⟩ _ _ _ hP hS (lv_sub hl [0, 1, 2] rfl)
    intro y16 hI15 nl14 H locs ls hP hS hl
    obtain ⟨σ17, eσ17⟩ : ∃ z, z = y16.1 := ⟨_, rfl⟩
    rw [← eσ17] at hP hI15
    have hF18 : Fr (fL [35, 36, 37]) σ6 σ17 := hI15.1
    have hJ19 : J9 (σ17 9) := hI15.2.1
    have b20 : (0 : Int) ≤ (y16.2.1 0).toInt ∧ (y16.2.1 0).toInt ≤ 88 := hI15.2.2.1
    have b21 : GI (σ17 9) ((y5.2.1 0).toInt.toNat) ((y16.2.1 0).toInt.toNat) := hI15.2.2.2.1
    have hl : lv_has ls 8 [(2, .int (y16.2.1 0)), (1, .int (y5.2.1 0)), (0, .ref (g 60))] := hl
    refine lv_iload_n hx hb dX9_goesBack_13 rfl (lv_at hl 0 rfl) ?_
    refine lv_aload_n hx hb dX9_goesBack_14 rfl (lv_at hl 2 rfl) ?_
    refine g9_24 hx hb hts hown hK hP (hts _ q1384) dX9_goesBack_15 ?_
    refine lv_iload_n hx hb dX9_goesBack_18 rfl (lv_at hl 1 rfl) ?_
    obtain ⟨x22, ex22⟩ : ∃ z, (σ 9).2.2.1 24 (y5.2.1 0).toInt.toNat = z := ⟨_, rfl⟩
    refine l9_24 (x := x22) hx hb hK hP (vpo (by have f0 := b9; have f1 := k13; have g0 := rg32 (y5.2.1 0); have z0 : (0 : Int32).toInt = 0 := (by decide); omega)) ((congrFun (((hF18 9 24 rfl).2.2.1).trans ((hF7 9 24 rfl).2.2.1)) _).trans ex22) dX9_goesBack_19 ?_
    have t23 := a9_24 hJ ex22
    refine lv_icmp_ge (tgt := 308) hx hb dX9_goesBack_20 (by decide) (fun c24 => ?_) (fun c24 => ?_)
    ·
      have k25 := ple32 c24
      obtain ⟨x26, ex26⟩ : ∃ y : Int32, y = (y5.2.1 0) + (-1) := ⟨_, rfl⟩
      have t27 := addO ex26 (by have f0 := b9; have f1 := k13; have f2 := t23; have f3 := k25; have f4 := b20; have g0 := rg32 (y5.2.1 0); have zm1 : ((-1) : Int32).toInt = (-1) := (by decide); have z0 : (0 : Int32).toInt = 0 := (by decide); omega)
      refine lv_iinc (v := x26) (lv' := [(1, .int x26), (2, .int (y16.2.1 0)), (0, .ref (g 60))]) hx hb dX9_goesBack_308 hl (k := 1) rfl (by rw [ex26]; rfl) (by decide) rfl (fun ls hl => ?_)
      refine lv_goto (tgt := 7) hx hb dX9_goesBack_311 (by decide) ?_
      have t28 : (x26.toInt - (-2 : Int)).toNat < ((y5.2.1 0).toInt - (-2 : Int)).toNat := (by have f0 := b9; have f1 := k13; have f2 := t23; have f3 := t27; have f4 := k25; have f5 := b20; have g0 := rg32 (y5.2.1 0); have g1 := rg32 x26; have zm1 : ((-1) : Int32).toInt = (-1) := (by decide); have z0 : (0 : Int32).toInt = 0 := (by decide); omega)
      exact nl3 (σ17, lf [x26], lg []) ⟨Fr.tr (Fr.tr (Fr.rf) hF7 (fL_sub rfl)) hF18 (fL_sub rfl), hJ19, (show (-1 : Int) ≤ (x26 : Int32).toInt ∧ (x26 : Int32).toInt ≤ 15 from (by have f0 := t27; have f1 := b9; have f2 := k13; have f3 := t23; have f4 := k25; have f5 := b20; have g0 := rg32 x26; have zm1 : ((-1) : Int32).toInt = (-1) := (by decide); have z0 : (0 : Int32).toInt = 0 := (by decide); omega)), (show GO (σ17 9) (x26.toInt + 1) from GI.done b21 (by have f0 := b9; have f1 := k13; have f2 := t23; have f3 := t27; have f4 := k25; have f5 := b20; have g0 := rg32 (y5.2.1 0); have g1 := rg32 x26; have zm1 : ((-1) : Int32).toInt = (-1) := (by decide); have z0 : (0 : Int32).toInt = 0 := (by decide); omega) (by rw [show ((σ17 9).2.2.1 24 (y5.2.1 0).toInt.toNat) = x22 from ((congrFun (((hF18 9 24 rfl).2.2.1).trans ((hF7 9 24 rfl).2.2.1)) _).trans ex22)]; exact (by have f0 := b20; have f1 := t23; have f2 := k25; have f3 := b9; have f4 := k13; have f5 := t27; have g0 := rg32 (y16.2.1 0); have g1 := rg32 x22; have zm1 : ((-1) : Int32).toInt = (-1) := (by decide); have z0 : (0 : Int32).toInt = 0 := (by decide); omega))), trivial⟩ (show (x26.toInt - (-2 : Int)).toNat < _ from by first | exact t28 | (rw [← eσ6]; exact t28)) _ _ _ hP hS (lv_sub hl [0, 2] rfl)
    ·
      have k29 := nle32 c24
      refine lv_bipush (v := 88) hx hb dX9_goesBack_23 (by decide) ?_
      refine lv_iload_n hx hb dX9_goesBack_25 rfl (lv_at hl 1 rfl) ?_
      refine lv_imul hx hb dX9_goesBack_26 ?_
      refine lv_topi (fun x30 ex30 => ?_)
      have t31 := mulC' (n := 88) ex30 (by decide) (by have f0 := b9; have f1 := k13; have f2 := t23; have f3 := k29; have f4 := b20; have g0 := rg32 (y5.2.1 0); have z0 : (0 : Int32).toInt = 0 := (by decide); omega)
      refine lv_iload_n hx hb dX9_goesBack_27 rfl (lv_at hl 0 rfl) ?_
      refine lv_iadd hx hb dX9_goesBack_28 ?_
      refine lv_topi (fun x32 ex32 => ?_)
      have t33 := addO ex32 (by have f0 := b20; have f1 := k29; have f2 := t31; have f3 := b9; have f4 := k13; have f5 := t23; have g0 := rg32 (y16.2.1 0); have g1 := rg32 x30; have z0 : (0 : Int32).toInt = 0 := (by decide); omega)
      refine lv_istore_n (lv' := [(3, .int x32), (2, .int (y16.2.1 0)), (1, .int (y5.2.1 0)), (0, .ref (g 60))]) hx hb dX9_goesBack_29 rfl hl (by decide) rfl (fun ls hl => ?_)
      refine lv_aload_n hx hb dX9_goesBack_30 rfl (lv_at hl 3 rfl) ?_
      refine g9_35 hx hb hts hown hK hP (hts _ q1395) dX9_goesBack_31 ?_
      refine lv_iload_n hx hb dX9_goesBack_34 rfl (lv_at hl 0 rfl) ?_
      refine lv_iload_n hx hb dX9_goesBack_35 rfl (lv_at hl 2 rfl) ?_
      refine lv_aload_n hx hb dX9_goesBack_36 rfl (lv_at hl 3 rfl) ?_
      refine g9_31 (x := ((σ 9).1 31)) hx hb hts hown hK hP (((hF18 9 31 rfl).1).trans ((hF7 9 31 rfl).1)) (hts _ q1391) dX9_goesBack_37 ?_
      refine lv_iconst (v := 1) hx hb dX9_goesBack_40 (by decide) ?_
      refine lv_isub hx hb dX9_goesBack_41 ?_
      refine lv_topi (fun x34 ex34 => ?_)
      have t35 := subO ex34 (by have f0 := j9_31 hJ rfl; have f1 := t2; have z1 : (1 : Int32).toInt = 1 := (by decide); omega)
      refine cut9 (D := D) (cy := cy) (g := g) (A := A9 cy g s.heap.size) (H0 := s.heap) 8 51 (fun x : LZ => [(3, .int x32), (2, .int (y16.2.1 0)), (1, .int (y5.2.1 0)), (0, .ref (g 60))]) (fun x : LZ => [.int (x.2.1 0), .int x32, .ref (g 35)]) (fun x : LZ => (x.1 = σ17) ∧ ((0 : Int) ≤ (x.2.1 0).toInt ∧ (x.2.1 0).toInt ≤ 1000000) ∧ ((y5.2.1 0).toInt = ((σ17 9).1 31).toInt - 1 ∨ (x.2.1 0).toInt = 1000000) ∧ (GI (σ17 9) ((y5.2.1 0).toInt.toNat) ((y16.2.1 0).toInt.toNat)) ∧ True) ?_ ?_
      ·
        intro y38 hI37 H locs ls hP hS hl
        rw [show y38.1 = σ17 from hI37.1] at hP
        have b39 : (0 : Int) ≤ (y38.2.1 0).toInt ∧ (y38.2.1 0).toInt ≤ 1000000 := hI37.2.1
        have b40 : (y5.2.1 0).toInt = ((σ17 9).1 31).toInt - 1 ∨ (y38.2.1 0).toInt = 1000000 := hI37.2.2.1
        have b41 : GI (σ17 9) ((y5.2.1 0).toInt.toNat) ((y16.2.1 0).toInt.toNat) := hI37.2.2.2.1
        have hl : lv_has ls 8 [(3, .int x32), (2, .int (y16.2.1 0)), (1, .int (y5.2.1 0)), (0, .ref (g 60))] := hl
        refine W.eq (g2 := F0 m 51 ls [.int (y38.2.1 0), .int x32, .ref (g 35)]) rfl ?_
        refine t9_35 hx hb hK hP hD hS (vpo (by have f0 := t33; have f1 := b20; have f2 := k29; have f3 := t31; have f4 := b9; have f5 := k13; have f6 := t23; have f7 := b40; have f8 := j9_31 hJ19 rfl; have f9 := congrArg Int32.toInt (show ((σ17 9).1 31) = ((σ 9).1 31) from ((hF18 9 31 rfl).1).trans ((hF7 9 31 rfl).1)); have f10 := b39; have f11 := j9_31 hJ rfl; have f12 := t2; have f13 := t35; have g2 := rg32 x32; have z0 : (0 : Int32).toInt = 0 := (by decide); have z1 : (1 : Int32).toInt = 1 := (by decide); omega)) dX9_goesBack_51 (fun H locs σ42 eσ42 hP hS => ?_)
        have hJ43 : J9 (σ42 9) := hJ19.A eσ42 trivial
        have T44 : GI (σ42 9) ((y5.2.1 0).toInt.toNat) ((y16.2.1 0).toInt.toNat) := GI.s35 b41 eσ42 (by have f0 := b9; have f1 := k13; have f2 := b20; have f3 := t23; have f4 := k29; have f5 := t31; have f6 := t33; have f7 := b40; have f8 := j9_31 hJ19 rfl; have f9 := congrArg Int32.toInt (show ((σ17 9).1 31) = ((σ 9).1 31) from ((hF18 9 31 rfl).1).trans ((hF7 9 31 rfl).1)); have f10 := b39; have f11 := j9_31 hJ rfl; have f12 := t2; have f13 := t35; have g2 := rg32 (y16.2.1 0); have g3 := rg32 (y5.2.1 0); have g4 := rg32 x32; have z0 : (0 : Int32).toInt = 0 := (by decide); have z1 : (1 : Int32).toInt = 1 := (by decide); omega) (by have f0 := b9; have f1 := k13; have f2 := b20; have f3 := t23; have f4 := k29; have f5 := t31; have f6 := t33; have f7 := b40; have f8 := j9_31 hJ19 rfl; have f9 := congrArg Int32.toInt (show ((σ17 9).1 31) = ((σ 9).1 31) from ((hF18 9 31 rfl).1).trans ((hF7 9 31 rfl).1)); have f10 := b39; have f11 := j9_31 hJ rfl; have f12 := t2; have f13 := t35; have g2 := rg32 (y16.2.1 0); have g3 := rg32 (y5.2.1 0); have g4 := rg32 x32; have z0 : (0 : Int32).toInt = 0 := (by decide); have z1 : (1 : Int32).toInt = 1 := (by decide); omega)
        refine lv_aload_n hx hb dX9_goesBack_52 rfl (lv_at hl 3 rfl) ?_
        refine g9_36 hx hb hts hown hK hP (hts _ q1396) dX9_goesBack_53 ?_
        refine lv_iload_n hx hb dX9_goesBack_56 rfl (lv_at hl 0 rfl) ?_
        refine lv_iload_n hx hb dX9_goesBack_57 rfl (lv_at hl 2 rfl) ?_
        refine lv_aload_n hx hb dX9_goesBack_58 rfl (lv_at hl 3 rfl) ?_
        refine g9_31 (x := ((σ 9).1 31)) hx hb hts hown hK hP ((((sA_f eσ42) 9 31 rfl).1).trans (((hF18 9 31 rfl).1).trans ((hF7 9 31 rfl).1))) (hts _ q1391) dX9_goesBack_59 ?_
        refine lv_iconst (v := 1) hx hb dX9_goesBack_62 (by decide) ?_
        refine lv_isub hx hb dX9_goesBack_63 ?_
        refine lv_topi (fun x45 ex45 => ?_)
        have t46 := subO ex45 (by have f0 := j9_31 hJ rfl; have f1 := t2; have f2 := t35; have z1 : (1 : Int32).toInt = 1 := (by decide); omega)
        refine cut9 (D := D) (cy := cy) (g := g) (A := A9 cy g s.heap.size) (H0 := s.heap) 8 78 (fun x : LZ => [(3, .int x32), (2, .int (y16.2.1 0)), (1, .int (y5.2.1 0)), (0, .ref (g 60))]) (fun x : LZ => [.int (x.2.1 0), .int x32, .ref (g 36)]) (fun x : LZ => (x.1 = σ42) ∧ (GI (σ42 9) ((y5.2.1 0).toInt.toNat) ((y16.2.1 0).toInt.toNat)) ∧ True) ?_ ?_
        ·
          intro y49 hI48 H locs ls hP hS hl
          rw [show y49.1 = σ42 from hI48.1] at hP
          have b50 : GI (σ42 9) ((y5.2.1 0).toInt.toNat) ((y16.2.1 0).toInt.toNat) := hI48.2.1
          have hl : lv_has ls 8 [(3, .int x32), (2, .int (y16.2.1 0)), (1, .int (y5.2.1 0)), (0, .ref (g 60))] := hl
          refine W.eq (g2 := F0 m 78 ls [.int (y49.2.1 0), .int x32, .ref (g 36)]) rfl ?_
          refine t9_36 hx hb hK hP hD hS (vpo (by have f0 := t33; have f1 := b20; have f2 := k29; have f3 := t31; have f4 := b9; have f5 := k13; have f6 := t23; have f7 := b40; have f8 := j9_31 hJ19 rfl; have f9 := congrArg Int32.toInt (show ((σ17 9).1 31) = ((σ 9).1 31) from ((hF18 9 31 rfl).1).trans ((hF7 9 31 rfl).1)); have f10 := b39; have f11 := j9_31 hJ rfl; have f12 := t2; have f13 := t35; have f14 := t46; have g2 := rg32 x32; have z0 : (0 : Int32).toInt = 0 := (by decide); have z1 : (1 : Int32).toInt = 1 := (by decide); omega)) dX9_goesBack_78 (fun H locs σ51 eσ51 hP hS => ?_)
          have hJ52 : J9 (σ51 9) := hJ43.A eσ51 trivial
          have T53 : GI (σ51 9) ((y5.2.1 0).toInt.toNat) ((y16.2.1 0).toInt.toNat) := GI.s36 b50 eσ51 (by have f0 := b9; have f1 := k13; have f2 := b20; have f3 := t23; have f4 := k29; have f5 := t31; have f6 := t33; have f7 := b40; have f8 := j9_31 hJ19 rfl; have f9 := congrArg Int32.toInt (show ((σ17 9).1 31) = ((σ 9).1 31) from ((hF18 9 31 rfl).1).trans ((hF7 9 31 rfl).1)); have f10 := b39; have f11 := j9_31 hJ rfl; have f12 := t2; have f13 := t35; have f14 := t46; have g2 := rg32 (y16.2.1 0); have g3 := rg32 (y5.2.1 0); have g4 := rg32 x32; have z0 : (0 : Int32).toInt = 0 := (by decide); have z1 : (1 : Int32).toInt = 1 := (by decide); omega) (by have f0 := b9; have f1 := k13; have f2 := b20; have f3 := t23; have f4 := k29; have f5 := t31; have f6 := t33; have f7 := b40; have f8 := j9_31 hJ19 rfl; have f9 := congrArg Int32.toInt (show ((σ17 9).1 31) = ((σ 9).1 31) from ((hF18 9 31 rfl).1).trans ((hF7 9 31 rfl).1)); have f10 := b39; have f11 := j9_31 hJ rfl; have f12 := t2; have f13 := t35; have f14 := t46; have g2 := rg32 (y16.2.1 0); have g3 := rg32 (y5.2.1 0); have g4 := rg32 x32; have z0 : (0 : Int32).toInt = 0 := (by decide); have z1 : (1 : Int32).toInt = 1 := (by decide); omega)
          refine lv_aload_n hx hb dX9_goesBack_79 rfl (lv_at hl 3 rfl) ?_
          refine g9_37 hx hb hts hown hK hP (hts _ q1397) dX9_goesBack_80 ?_
          refine lv_iload_n hx hb dX9_goesBack_83 rfl (lv_at hl 0 rfl) ?_
          refine lv_iload_n hx hb dX9_goesBack_84 rfl (lv_at hl 2 rfl) ?_
          refine lv_aload_n hx hb dX9_goesBack_85 rfl (lv_at hl 3 rfl) ?_
          refine g9_31 (x := ((σ 9).1 31)) hx hb hts hown hK hP ((((sA_f eσ51) 9 31 rfl).1).trans ((((sA_f eσ42) 9 31 rfl).1).trans (((hF18 9 31 rfl).1).trans ((hF7 9 31 rfl).1)))) (hts _ q1391) dX9_goesBack_86 ?_
          refine lv_iconst (v := 1) hx hb dX9_goesBack_89 (by decide) ?_
          refine lv_isub hx hb dX9_goesBack_90 ?_
          refine lv_topi (fun x54 ex54 => ?_)
          have t55 := subO ex54 (by have f0 := j9_31 hJ rfl; have f1 := t2; have f2 := t35; have f3 := t46; have z1 : (1 : Int32).toInt = 1 := (by decide); omega)
          refine cut9 (D := D) (cy := cy) (g := g) (A := A9 cy g s.heap.size) (H0 := s.heap) 8 99 (fun x : LZ => [(3, .int x32), (2, .int (y16.2.1 0)), (1, .int (y5.2.1 0)), (0, .ref (g 60))]) (fun x : LZ => [.long (x.2.2 0), .int x32, .ref (g 37)]) (fun x : LZ => (x.1 = σ51) ∧ (GI (σ51 9) ((y5.2.1 0).toInt.toNat) ((y16.2.1 0).toInt.toNat)) ∧ True) ?_ ?_
          ·
            intro y58 hI57 H locs ls hP hS hl
            rw [show y58.1 = σ51 from hI57.1] at hP
            have b59 : GI (σ51 9) ((y5.2.1 0).toInt.toNat) ((y16.2.1 0).toInt.toNat) := hI57.2.1
            have hl : lv_has ls 8 [(3, .int x32), (2, .int (y16.2.1 0)), (1, .int (y5.2.1 0)), (0, .ref (g 60))] := hl
            refine W.eq (g2 := F0 m 99 ls [.long (y58.2.2 0), .int x32, .ref (g 37)]) rfl ?_
            refine t9_37 hx hb hK hP hD hS (vpo (by have f0 := t33; have f1 := b20; have f2 := k29; have f3 := t31; have f4 := b9; have f5 := k13; have f6 := t23; have f7 := b40; have f8 := j9_31 hJ19 rfl; have f9 := congrArg Int32.toInt (show ((σ17 9).1 31) = ((σ 9).1 31) from ((hF18 9 31 rfl).1).trans ((hF7 9 31 rfl).1)); have f10 := b39; have f11 := j9_31 hJ rfl; have f12 := t2; have f13 := t35; have f14 := t46; have f15 := t55; have g2 := rg32 x32; have z0 : (0 : Int32).toInt = 0 := (by decide); have z1 : (1 : Int32).toInt = 1 := (by decide); omega)) dX9_goesBack_99 (fun H locs σ60 eσ60 hP hS => ?_)
            have hJ61 : J9 (σ60 9) := hJ52.B eσ60
            have T62 : GI (σ60 9) ((y5.2.1 0).toInt.toNat) ((y16.2.1 0).toInt.toNat) := GI.s37 b59 eσ60
            have T63 : CI (σ60 9) ((y5.2.1 0).toInt.toNat) ((y16.2.1 0).toInt.toNat) ((0 : Int32).toInt.toNat) := CI.init eσ42 (by have f0 := b9; have f1 := k13; have f2 := b20; have f3 := t23; have f4 := k29; have f5 := t31; have f6 := t33; have f7 := b40; have f8 := j9_31 hJ19 rfl; have f9 := congrArg Int32.toInt (show ((σ17 9).1 31) = ((σ 9).1 31) from ((hF18 9 31 rfl).1).trans ((hF7 9 31 rfl).1)); have f10 := b39; have f11 := j9_31 hJ rfl; have f12 := t2; have f13 := t35; have f14 := t46; have f15 := t55; have g2 := rg32 (y16.2.1 0); have g3 := rg32 (y5.2.1 0); have g4 := rg32 x32; have z0 : (0 : Int32).toInt = 0 := (by decide); have z1 : (1 : Int32).toInt = 1 := (by decide); omega) ((((sB_f eσ60) 9 35 rfl).2.2.1).trans (((sA_f eσ51) 9 35 rfl).2.2.1)) (fun hk => by rw [(((sB_f eσ60) 9 31 rfl).1).trans ((((sA_f eσ51) 9 31 rfl).1).trans ((((sA_f eσ42) 9 31 rfl).1).trans (((hF18 9 31 rfl).1).trans ((hF7 9 31 rfl).1))))] at hk; have f0 := j9_31 hJ rfl; have f1 := t2; have f2 := b9; have f3 := k13; have f4 := t23; have f5 := t31; have f6 := t35; have f7 := b39; have f8 := b40; have f9 := t46; have f10 := t55; have f11 := j9_31 hJ19 rfl; have f12 := congrArg Int32.toInt (show ((σ17 9).1 31) = ((σ 9).1 31) from ((hF18 9 31 rfl).1).trans ((hF7 9 31 rfl).1)); have f13 := k29; have f14 := t33; have f15 := b20; have g2 := rg32 (y38.2.1 0); have g3 := rg32 (y5.2.1 0); have z0 : (0 : Int32).toInt = 0 := (by decide); have z1 : (1 : Int32).toInt = 1 := (by decide); omega)
            refine lv_iconst (v := 0) hx hb dX9_goesBack_100 (by decide) ?_
            refine lv_istore (lv' := [(4, .int 0), (3, .int x32), (2, .int (y16.2.1 0)), (1, .int (y5.2.1 0)), (0, .ref (g 60))]) hx hb dX9_goesBack_101 hl (by decide) rfl (fun ls hl => ?_)
            refine loop9 8 103 (fun x : LZ => [(4, .int (x.2.1 0)), (3, .int x32), (2, .int (y16.2.1 0)), (1, .int (y5.2.1 0)), (0, .ref (g 60))]) (fun x : LZ => (Fr (fL [35, 36, 37]) σ60 x.1) ∧ (J9 (x.1 9)) ∧ ((0 : Int) ≤ (x.2.1 0).toInt ∧ (x.2.1 0).toInt ≤ 88) ∧ (GI (x.1 9) ((y5.2.1 0).toInt.toNat) ((y16.2.1 0).toInt.toNat)) ∧ (CI (x.1 9) ((y5.2.1 0).toInt.toNat) ((y16.2.1 0).toInt.toNat) ((x.2.1 0).toInt.toNat)) ∧ True) (fun x : LZ => ((89 : Int) - (x.2.1 0).toInt).toNat) ?_ (σ60, lf [0], lg []) ⟨Fr.rf, hJ61, (show (0 : Int) ≤ (0 : Int32).toInt ∧ (0 : Int32).toInt ≤ 88 from (by have z0 : (0 : Int32).toInt = 0 := (by decide); omega)), (show GI (σ60 9) ((y5.2.1 0).toInt.toNat) ((y16.2.1 0).toInt.toNat) from T62), (show CI (σ60 9) ((y5.2.1 0).toInt.toNat) ((y16.2.1 0).toInt.toNat) ((0 : Int32).toInt.toNat) from T63), trivial⟩ _ _ _ hP hS (lv_sub hl [0, 1, 2, 3, 4] rfl)
            intro y66 hI65 nl64 H locs ls hP hS hl
            obtain ⟨σ67, eσ67⟩ : ∃ z, z = y66.1 := ⟨_, rfl⟩
            rw [← eσ67] at hP hI65
            have hF68 : Fr (fL [35, 36, 37]) σ60 σ67 := hI65.1
            have hJ69 : J9 (σ67 9) := hI65.2.1
            have b70 : (0 : Int) ≤ (y66.2.1 0).toInt ∧ (y66.2.1 0).toInt ≤ 88 := hI65.2.2.1
            have b71 : GI (σ67 9) ((y5.2.1 0).toInt.toNat) ((y16.2.1 0).toInt.toNat) := hI65.2.2.2.1
            have b72 : CI (σ67 9) ((y5.2.1 0).toInt.toNat) ((y16.2.1 0).toInt.toNat) ((y66.2.1 0).toInt.toNat) := hI65.2.2.2.2.1
            have hl : lv_has ls 8 [(4, .int (y66.2.1 0)), (3, .int x32), (2, .int (y16.2.1 0)), (1, .int (y5.2.1 0)), (0, .ref (g 60))] := hl
            refine lv_iload_n hx hb dX9_goesBack_103 rfl (lv_at hl 3 rfl) ?_
            refine lv_aload_n hx hb dX9_goesBack_104 rfl (lv_at hl 4 rfl) ?_
            refine g9_31 (x := ((σ 9).1 31)) hx hb hts hown hK hP (((hF68 9 31 rfl).1).trans ((((sB_f eσ60) 9 31 rfl).1).trans ((((sA_f eσ51) 9 31 rfl).1).trans ((((sA_f eσ42) 9 31 rfl).1).trans (((hF18 9 31 rfl).1).trans ((hF7 9 31 rfl).1)))))) (hts _ q1391) dX9_goesBack_105 ?_
            refine lv_iconst (v := 1) hx hb dX9_goesBack_108 (by decide) ?_
            refine lv_isub hx hb dX9_goesBack_109 ?_
            refine lv_topi (fun x73 ex73 => ?_)
            have t74 := subO ex73 (by have f0 := j9_31 hJ rfl; have f1 := t2; have f2 := t35; have f3 := t46; have f4 := t55; have z1 : (1 : Int32).toInt = 1 := (by decide); omega)
            refine lv_icmp_ge (tgt := 302) hx hb dX9_goesBack_110 (by decide) (fun c75 => ?_) (fun c75 => ?_)
            ·
              have k76 := ple32 c75
              obtain ⟨x77, ex77⟩ : ∃ y : Int32, y = (y16.2.1 0) + 1 := ⟨_, rfl⟩
              have t78 := addO ex77 (by have f0 := b20; have f1 := k29; have f2 := t33; have f3 := t23; have f4 := t31; have f5 := b9; have f6 := k13; have f7 := b40; have f8 := k76; have f9 := j9_31 hJ19 rfl; have f10 := congrArg Int32.toInt (show ((σ17 9).1 31) = ((σ 9).1 31) from ((hF18 9 31 rfl).1).trans ((hF7 9 31 rfl).1)); have f11 := b39; have f12 := t74; have f13 := j9_31 hJ rfl; have f14 := t2; have f15 := t35; have f16 := t46; have f17 := t55; have g2 := rg32 (y16.2.1 0); have z0 : (0 : Int32).toInt = 0 := (by decide); have z1 : (1 : Int32).toInt = 1 := (by decide); omega)
              refine lv_iinc (v := x77) (lv' := [(2, .int x77), (4, .int (y66.2.1 0)), (3, .int x32), (1, .int (y5.2.1 0)), (0, .ref (g 60))]) hx hb dX9_goesBack_302 hl (k := 2) rfl (by rw [ex77]; rfl) (by decide) rfl (fun ls hl => ?_)
              refine lv_goto (tgt := 13) hx hb dX9_goesBack_305 (by decide) ?_
              have t79 : ((89 : Int) - x77.toInt).toNat < ((89 : Int) - (y16.2.1 0).toInt).toNat := (by have f0 := b20; have f1 := k29; have f2 := t33; have f3 := t78; have f4 := t23; have f5 := t31; have f6 := b9; have f7 := k13; have f8 := b40; have f9 := k76; have f10 := j9_31 hJ19 rfl; have f11 := congrArg Int32.toInt (show ((σ17 9).1 31) = ((σ 9).1 31) from ((hF18 9 31 rfl).1).trans ((hF7 9 31 rfl).1)); have f12 := b39; have f13 := t74; have f14 := j9_31 hJ rfl; have f15 := t2; have f16 := t35; have f17 := t46; have f18 := t55; have g2 := rg32 (y16.2.1 0); have g3 := rg32 x77; have z0 : (0 : Int32).toInt = 0 := (by decide); have z1 : (1 : Int32).toInt = 1 := (by decide); omega)
              exact nl14 (σ67, lf [x77], lg []) ⟨Fr.tr (Fr.tr (Fr.tr (Fr.tr (Fr.tr (Fr.rf) hF18 (fL_sub rfl)) (sA_f eσ42) (fN_L rfl)) (sA_f eσ51) (fN_L rfl)) (sB_f eσ60) (fN_L rfl)) hF68 (fL_sub rfl), hJ69, (show (0 : Int) ≤ (x77 : Int32).toInt ∧ (x77 : Int32).toInt ≤ 88 from (by have f0 := t78; have f1 := b20; have f2 := k29; have f3 := t33; have f4 := t23; have f5 := t31; have f6 := b9; have f7 := k13; have f8 := b40; have f9 := k76; have f10 := j9_31 hJ19 rfl; have f11 := congrArg Int32.toInt (show ((σ17 9).1 31) = ((σ 9).1 31) from ((hF18 9 31 rfl).1).trans ((hF7 9 31 rfl).1)); have f12 := b39; have f13 := t74; have f14 := j9_31 hJ rfl; have f15 := t2; have f16 := t35; have f17 := t46; have f18 := t55; have g2 := rg32 x77; have z0 : (0 : Int32).toInt = 0 := (by decide); have z1 : (1 : Int32).toInt = 1 := (by decide); omega)), (show GI (σ67 9) ((y5.2.1 0).toInt.toNat) (x77.toInt.toNat) from GI.next b71 b72 (by have f0 := b20; have f1 := k29; have f2 := t33; have f3 := t78; have f4 := t23; have f5 := t31; have f6 := b9; have f7 := k13; have f8 := b40; have f9 := k76; have f10 := j9_31 hJ19 rfl; have f11 := congrArg Int32.toInt (show ((σ17 9).1 31) = ((σ 9).1 31) from ((hF18 9 31 rfl).1).trans ((hF7 9 31 rfl).1)); have f12 := b39; have f13 := t74; have f14 := j9_31 hJ rfl; have f15 := t2; have f16 := t35; have f17 := t46; have f18 := t55; have g2 := rg32 (y16.2.1 0); have g3 := rg32 x77; have z0 : (0 : Int32).toInt = 0 := (by decide); have z1 : (1 : Int32).toInt = 1 := (by decide); omega)), trivial⟩ (show ((89 : Int) - x77.toInt).toNat < _ from by first | exact t79 | (rw [← eσ17]; exact t79)) _ _ _ hP hS (lv_sub hl [0, 3, 4] rfl)
            ·
              have k80 := nle32 c75
              refine lv_iload hx hb dX9_goesBack_113 (lv_at hl 0 rfl) ?_
              refine lv_aload_n hx hb dX9_goesBack_115 rfl (lv_at hl 4 rfl) ?_
              refine g9_24 hx hb hts hown hK hP (hts _ q1384) dX9_goesBack_116 ?_
              refine lv_iload_n hx hb dX9_goesBack_119 rfl (lv_at hl 3 rfl) ?_
              refine lv_iconst (v := 1) hx hb dX9_goesBack_120 (by decide) ?_
              refine lv_iadd hx hb dX9_goesBack_121 ?_
              refine lv_topi (fun x81 ex81 => ?_)
              have t82 := addO ex81 (by have f0 := b9; have f1 := k13; have f2 := t23; have f3 := t31; have f4 := b40; have f5 := k80; have f6 := j9_31 hJ19 rfl; have f7 := congrArg Int32.toInt (show ((σ17 9).1 31) = ((σ 9).1 31) from ((hF18 9 31 rfl).1).trans ((hF7 9 31 rfl).1)); have f8 := k29; have f9 := t33; have f10 := b39; have f11 := t74; have f12 := j9_31 hJ rfl; have f13 := t2; have f14 := b20; have f15 := t35; have f16 := t46; have f17 := t55; have g2 := rg32 (y5.2.1 0); have z0 : (0 : Int32).toInt = 0 := (by decide); have z1 : (1 : Int32).toInt = 1 := (by decide); omega)
              obtain ⟨x83, ex83⟩ : ∃ z, (σ 9).2.2.1 24 x81.toInt.toNat = z := ⟨_, rfl⟩
              refine l9_24 (x := x83) hx hb hK hP (vpo (by have f0 := t82; have f1 := b9; have f2 := k13; have f3 := t23; have f4 := t31; have f5 := b40; have f6 := k80; have f7 := j9_31 hJ19 rfl; have f8 := congrArg Int32.toInt (show ((σ17 9).1 31) = ((σ 9).1 31) from ((hF18 9 31 rfl).1).trans ((hF7 9 31 rfl).1)); have f9 := k29; have f10 := t33; have f11 := b39; have f12 := t74; have f13 := j9_31 hJ rfl; have f14 := t2; have f15 := b20; have f16 := t35; have f17 := t46; have f18 := t55; have g2 := rg32 x81; have z0 : (0 : Int32).toInt = 0 := (by decide); have z1 : (1 : Int32).toInt = 1 := (by decide); omega)) ((congrFun (((hF68 9 24 rfl).2.2.1).trans ((((sB_f eσ60) 9 24 rfl).2.2.1).trans ((((sA_f eσ51) 9 24 rfl).2.2.1).trans ((((sA_f eσ42) 9 24 rfl).2.2.1).trans (((hF18 9 24 rfl).2.2.1).trans ((hF7 9 24 rfl).2.2.1)))))) _).trans ex83) dX9_goesBack_122 ?_
              have t84 := a9_24 hJ ex83
              refine lv_icmp_ge (tgt := 302) hx hb dX9_goesBack_123 (by decide) (fun c85 => ?_) (fun c85 => ?_)
              ·
                have k86 := ple32 c85
                obtain ⟨x87, ex87⟩ : ∃ y : Int32, y = (y16.2.1 0) + 1 := ⟨_, rfl⟩
                have t88 := addO ex87 (by have f0 := b20; have f1 := k29; have f2 := t33; have f3 := t23; have f4 := t31; have f5 := b9; have f6 := k13; have f7 := b40; have f8 := k80; have f9 := t82; have f10 := j9_31 hJ19 rfl; have f11 := congrArg Int32.toInt (show ((σ17 9).1 31) = ((σ 9).1 31) from ((hF18 9 31 rfl).1).trans ((hF7 9 31 rfl).1)); have f12 := b39; have f13 := t74; have f14 := t84; have f15 := j9_31 hJ rfl; have f16 := t2; have f17 := t35; have f18 := t46; have f19 := t55; have f20 := k86; have f21 := b70; have g2 := rg32 (y16.2.1 0); have z0 : (0 : Int32).toInt = 0 := (by decide); have z1 : (1 : Int32).toInt = 1 := (by decide); omega)
                refine lv_iinc (v := x87) (lv' := [(2, .int x87), (4, .int (y66.2.1 0)), (3, .int x32), (1, .int (y5.2.1 0)), (0, .ref (g 60))]) hx hb dX9_goesBack_302 hl (k := 2) rfl (by rw [ex87]; rfl) (by decide) rfl (fun ls hl => ?_)
                refine lv_goto (tgt := 13) hx hb dX9_goesBack_305 (by decide) ?_
                have t89 : ((89 : Int) - x87.toInt).toNat < ((89 : Int) - (y16.2.1 0).toInt).toNat := (by have f0 := b20; have f1 := k29; have f2 := t33; have f3 := t88; have f4 := t23; have f5 := t31; have f6 := b9; have f7 := k13; have f8 := b40; have f9 := k80; have f10 := t82; have f11 := j9_31 hJ19 rfl; have f12 := congrArg Int32.toInt (show ((σ17 9).1 31) = ((σ 9).1 31) from ((hF18 9 31 rfl).1).trans ((hF7 9 31 rfl).1)); have f13 := b39; have f14 := t74; have f15 := t84; have f16 := j9_31 hJ rfl; have f17 := t2; have f18 := t35; have f19 := t46; have f20 := t55; have f21 := k86; have f22 := b70; have g2 := rg32 (y16.2.1 0); have g3 := rg32 x87; have z0 : (0 : Int32).toInt = 0 := (by decide); have z1 : (1 : Int32).toInt = 1 := (by decide); omega)
                exact nl14 (σ67, lf [x87], lg []) ⟨Fr.tr (Fr.tr (Fr.tr (Fr.tr (Fr.tr (Fr.rf) hF18 (fL_sub rfl)) (sA_f eσ42) (fN_L rfl)) (sA_f eσ51) (fN_L rfl)) (sB_f eσ60) (fN_L rfl)) hF68 (fL_sub rfl), hJ69, (show (0 : Int) ≤ (x87 : Int32).toInt ∧ (x87 : Int32).toInt ≤ 88 from (by have f0 := t88; have f1 := b20; have f2 := k29; have f3 := t33; have f4 := t23; have f5 := t31; have f6 := b9; have f7 := k13; have f8 := b40; have f9 := k80; have f10 := t82; have f11 := j9_31 hJ19 rfl; have f12 := congrArg Int32.toInt (show ((σ17 9).1 31) = ((σ 9).1 31) from ((hF18 9 31 rfl).1).trans ((hF7 9 31 rfl).1)); have f13 := b39; have f14 := t74; have f15 := t84; have f16 := j9_31 hJ rfl; have f17 := t2; have f18 := t35; have f19 := t46; have f20 := t55; have f21 := k86; have f22 := b70; have g2 := rg32 x87; have z0 : (0 : Int32).toInt = 0 := (by decide); have z1 : (1 : Int32).toInt = 1 := (by decide); omega)), (show GI (σ67 9) ((y5.2.1 0).toInt.toNat) (x87.toInt.toNat) from GI.next b71 b72 (by have f0 := b20; have f1 := k29; have f2 := t33; have f3 := t88; have f4 := t23; have f5 := t31; have f6 := b9; have f7 := k13; have f8 := b40; have f9 := k80; have f10 := t82; have f11 := j9_31 hJ19 rfl; have f12 := congrArg Int32.toInt (show ((σ17 9).1 31) = ((σ 9).1 31) from ((hF18 9 31 rfl).1).trans ((hF7 9 31 rfl).1)); have f13 := b39; have f14 := t74; have f15 := t84; have f16 := j9_31 hJ rfl; have f17 := t2; have f18 := t35; have f19 := t46; have f20 := t55; have f21 := k86; have f22 := b70; have g2 := rg32 (y16.2.1 0); have g3 := rg32 x87; have z0 : (0 : Int32).toInt = 0 := (by decide); have z1 : (1 : Int32).toInt = 1 := (by decide); omega)), trivial⟩ (show ((89 : Int) - x87.toInt).toNat < _ from by first | exact t89 | (rw [← eσ17]; exact t89)) _ _ _ hP hS (lv_sub hl [0, 3, 4] rfl)
              ·
                have k90 := nle32 c85
                refine lv_bipush (v := 88) hx hb dX9_goesBack_126 (by decide) ?_
                refine lv_iload_n hx hb dX9_goesBack_128 rfl (lv_at hl 3 rfl) ?_
                refine lv_iconst (v := 1) hx hb dX9_goesBack_129 (by decide) ?_
                refine lv_iadd hx hb dX9_goesBack_130 ?_
                refine lv_topi (fun x91 ex91 => ?_)
                have t92 := addO ex91 (by have f0 := b9; have f1 := k13; have f2 := t23; have f3 := t31; have f4 := b40; have f5 := k80; have f6 := t82; have f7 := j9_31 hJ19 rfl; have f8 := congrArg Int32.toInt (show ((σ17 9).1 31) = ((σ 9).1 31) from ((hF18 9 31 rfl).1).trans ((hF7 9 31 rfl).1)); have f9 := k29; have f10 := t33; have f11 := b39; have f12 := t74; have f13 := t84; have f14 := j9_31 hJ rfl; have f15 := t2; have f16 := b20; have f17 := t35; have f18 := t46; have f19 := t55; have f20 := k90; have f21 := b70; have g2 := rg32 (y5.2.1 0); have z0 : (0 : Int32).toInt = 0 := (by decide); have z1 : (1 : Int32).toInt = 1 := (by decide); omega)
                refine lv_imul hx hb dX9_goesBack_131 ?_
                refine lv_topi (fun x93 ex93 => ?_)
                have t94 := mulC' (n := 88) ex93 (by decide) (by have f0 := t92; have f1 := b9; have f2 := k13; have f3 := t23; have f4 := t31; have f5 := b40; have f6 := k80; have f7 := t82; have f8 := j9_31 hJ19 rfl; have f9 := congrArg Int32.toInt (show ((σ17 9).1 31) = ((σ 9).1 31) from ((hF18 9 31 rfl).1).trans ((hF7 9 31 rfl).1)); have f10 := k29; have f11 := t33; have f12 := b39; have f13 := t74; have f14 := t84; have f15 := j9_31 hJ rfl; have f16 := t2; have f17 := b20; have f18 := t35; have f19 := t46; have f20 := t55; have f21 := k90; have f22 := b70; have g2 := rg32 x91; have z0 : (0 : Int32).toInt = 0 := (by decide); have z1 : (1 : Int32).toInt = 1 := (by decide); omega)
                refine lv_iload hx hb dX9_goesBack_132 (lv_at hl 0 rfl) ?_
                refine lv_iadd hx hb dX9_goesBack_134 ?_
                refine lv_topi (fun x95 ex95 => ?_)
                have t96 := addO ex95 (by have f0 := b70; have f1 := k90; have f2 := t94; have f3 := t84; have f4 := t92; have f5 := b9; have f6 := k13; have f7 := t23; have f8 := t31; have f9 := b40; have f10 := k80; have f11 := t82; have f12 := j9_31 hJ19 rfl; have f13 := congrArg Int32.toInt (show ((σ17 9).1 31) = ((σ 9).1 31) from ((hF18 9 31 rfl).1).trans ((hF7 9 31 rfl).1)); have f14 := k29; have f15 := t33; have f16 := b39; have f17 := t74; have f18 := j9_31 hJ rfl; have f19 := t2; have f20 := b20; have f21 := t35; have f22 := t46; have f23 := t55; have g2 := rg32 (y66.2.1 0); have g3 := rg32 x93; have z0 : (0 : Int32).toInt = 0 := (by decide); have z1 : (1 : Int32).toInt = 1 := (by decide); omega)
                refine lv_istore (lv' := [(5, .int x95), (4, .int (y66.2.1 0)), (3, .int x32), (2, .int (y16.2.1 0)), (1, .int (y5.2.1 0)), (0, .ref (g 60))]) hx hb dX9_goesBack_135 hl (by decide) rfl (fun ls hl => ?_)
                refine lv_aload_n hx hb dX9_goesBack_137 rfl (lv_at hl 5 rfl) ?_
                refine g9_35 hx hb hts hown hK hP (hts _ q1395) dX9_goesBack_138 ?_
                refine lv_iload hx hb dX9_goesBack_141 (lv_at hl 0 rfl) ?_
                obtain ⟨x97, ex97⟩ : ∃ z, (σ67 9).2.2.1 35 x95.toInt.toNat = z := ⟨_, rfl⟩
                refine l9_35 (x := x97) hx hb hK hP (vpo (by have f0 := t96; have f1 := b70; have f2 := k90; have f3 := t94; have f4 := t84; have f5 := t92; have f6 := b9; have f7 := k13; have f8 := t23; have f9 := t31; have f10 := b40; have f11 := k80; have f12 := t82; have f13 := j9_31 hJ19 rfl; have f14 := congrArg Int32.toInt (show ((σ17 9).1 31) = ((σ 9).1 31) from ((hF18 9 31 rfl).1).trans ((hF7 9 31 rfl).1)); have f15 := k29; have f16 := t33; have f17 := b39; have f18 := t74; have f19 := j9_31 hJ rfl; have f20 := t2; have f21 := b20; have f22 := t35; have f23 := t46; have f24 := t55; have g2 := rg32 x95; have z0 : (0 : Int32).toInt = 0 := (by decide); have z1 : (1 : Int32).toInt = 1 := (by decide); omega)) ex97 dX9_goesBack_143 ?_
                refine lv_ldc (v := 1000000) hx hb hown (hts _ q1604) dX9_goesBack_144 ?_
                refine lv_icmp_eq (tgt := 296) hx hb dX9_goesBack_146 (by decide) (fun c98 => ?_) (fun c98 => ?_)
                ·
                  have k99 := peq32 c98
                  obtain ⟨x100, ex100⟩ : ∃ y : Int32, y = (y66.2.1 0) + 1 := ⟨_, rfl⟩
                  have t101 := addO ex100 (by have f0 := b70; have f1 := k90; have f2 := t96; have f3 := t84; have f4 := t94; have f5 := t82; have f6 := t92; have f7 := b9; have f8 := k13; have f9 := t23; have f10 := t31; have f11 := b40; have f12 := k80; have f13 := j9_31 hJ19 rfl; have f14 := congrArg Int32.toInt (show ((σ17 9).1 31) = ((σ 9).1 31) from ((hF18 9 31 rfl).1).trans ((hF7 9 31 rfl).1)); have f15 := k29; have f16 := t33; have f17 := b39; have f18 := t74; have f19 := j9_31 hJ rfl; have f20 := t2; have f21 := b20; have f22 := t35; have f23 := t46; have f24 := t55; have g2 := rg32 (y66.2.1 0); have z0 : (0 : Int32).toInt = 0 := (by decide); have z1 : (1 : Int32).toInt = 1 := (by decide); omega)
                  refine lv_iinc (v := x100) (lv' := [(4, .int x100), (5, .int x95), (3, .int x32), (2, .int (y16.2.1 0)), (1, .int (y5.2.1 0)), (0, .ref (g 60))]) hx hb dX9_goesBack_296 hl (k := 1) rfl (by rw [ex100]; rfl) (by decide) rfl (fun ls hl => ?_)
                  refine lv_goto (tgt := 103) hx hb dX9_goesBack_299 (by decide) ?_
                  have t102 : ((89 : Int) - x100.toInt).toNat < ((89 : Int) - (y66.2.1 0).toInt).toNat := (by have f0 := b70; have f1 := k90; have f2 := t96; have f3 := t101; have f4 := t84; have f5 := t94; have f6 := t82; have f7 := t92; have f8 := b9; have f9 := k13; have f10 := t23; have f11 := t31; have f12 := b40; have f13 := k80; have f14 := j9_31 hJ19 rfl; have f15 := congrArg Int32.toInt (show ((σ17 9).1 31) = ((σ 9).1 31) from ((hF18 9 31 rfl).1).trans ((hF7 9 31 rfl).1)); have f16 := k29; have f17 := t33; have f18 := b39; have f19 := t74; have f20 := j9_31 hJ rfl; have f21 := t2; have f22 := b20; have f23 := t35; have f24 := t46; have f25 := t55; have g2 := rg32 (y66.2.1 0); have g3 := rg32 x100; have z0 : (0 : Int32).toInt = 0 := (by decide); have z1 : (1 : Int32).toInt = 1 := (by decide); omega)
                  exact nl64 (σ67, lf [x100], lg []) ⟨Fr.tr (Fr.rf) hF68 (fL_sub rfl), hJ69, (show (0 : Int) ≤ (x100 : Int32).toInt ∧ (x100 : Int32).toInt ≤ 88 from (by have f0 := t101; have f1 := b70; have f2 := k90; have f3 := t96; have f4 := t84; have f5 := t94; have f6 := t82; have f7 := t92; have f8 := b9; have f9 := k13; have f10 := t23; have f11 := t31; have f12 := b40; have f13 := k80; have f14 := j9_31 hJ19 rfl; have f15 := congrArg Int32.toInt (show ((σ17 9).1 31) = ((σ 9).1 31) from ((hF18 9 31 rfl).1).trans ((hF7 9 31 rfl).1)); have f16 := k29; have f17 := t33; have f18 := b39; have f19 := t74; have f20 := j9_31 hJ rfl; have f21 := t2; have f22 := b20; have f23 := t35; have f24 := t46; have f25 := t55; have g2 := rg32 x100; have z0 : (0 : Int32).toInt = 0 := (by decide); have z1 : (1 : Int32).toInt = 1 := (by decide); omega)), (show GI (σ67 9) ((y5.2.1 0).toInt.toNat) ((y16.2.1 0).toInt.toNat) from b71), (show CI (σ67 9) ((y5.2.1 0).toInt.toNat) ((y16.2.1 0).toInt.toNat) (x100.toInt.toNat) from CI.stay b72 (by have f0 := b70; have f1 := k90; have f2 := t96; have f3 := t101; have f4 := t84; have f5 := t94; have f6 := t82; have f7 := t92; have f8 := b9; have f9 := k13; have f10 := t23; have f11 := t31; have f12 := b40; have f13 := k80; have f14 := j9_31 hJ19 rfl; have f15 := congrArg Int32.toInt (show ((σ17 9).1 31) = ((σ 9).1 31) from ((hF18 9 31 rfl).1).trans ((hF7 9 31 rfl).1)); have f16 := k29; have f17 := t33; have f18 := b39; have f19 := t74; have f20 := j9_31 hJ rfl; have f21 := t2; have f22 := b20; have f23 := t35; have f24 := t46; have f25 := t55; have g2 := rg32 (y66.2.1 0); have g3 := rg32 x100; have z0 : (0 : Int32).toInt = 0 := (by decide); have z1 : (1 : Int32).toInt = 1 := (by decide); omega)), trivial⟩ (show ((89 : Int) - x100.toInt).toNat < _ from by first | exact t102 | (rw [← eσ67]; exact t102)) _ _ _ hP hS (lv_sub hl [0, 2, 3, 4, 5] rfl)
                ·
                  have k103 := neq32 c98
                  refine lv_aload_n hx hb dX9_goesBack_149 rfl (lv_at hl 5 rfl) ?_
                  refine lv_iload_n hx hb dX9_goesBack_150 rfl (lv_at hl 4 rfl) ?_
                  refine lv_iload_n hx hb dX9_goesBack_151 rfl (lv_at hl 3 rfl) ?_
                  refine lv_iload hx hb dX9_goesBack_152 (lv_at hl 1 rfl) ?_
                  refine va_calli (va_runV (As := [.int (y5.2.1 0), .int (y16.2.1 0), .int (y66.2.1 0)]) (rest := []) ⟨hx, hb, hml, hown, hts⟩ (m_X9_mayGo_ l D cy g σ67 (y5.2.1 0) (y16.2.1 0) (y66.2.1 0) _ hJ69 (show (0 : Int) ≤ (y5.2.1 0).toInt ∧ (y5.2.1 0).toInt ≤ 14 from (by have f0 := b9; have f1 := k13; have f2 := t23; have f3 := t31; have f4 := b40; have f5 := k80; have f6 := t82; have f7 := t92; have f8 := j9_31 hJ19 rfl; have f9 := congrArg Int32.toInt (show ((σ17 9).1 31) = ((σ 9).1 31) from ((hF18 9 31 rfl).1).trans ((hF7 9 31 rfl).1)); have f10 := k29; have f11 := t33; have f12 := b39; have f13 := t74; have f14 := t84; have f15 := t94; have f16 := j9_31 hJ rfl; have f17 := t2; have f18 := b20; have f19 := t35; have f20 := t46; have f21 := t55; have f22 := k90; have f23 := t96; have f24 := b70; have g2 := rg32 (y5.2.1 0); have z0 : (0 : Int32).toInt = 0 := (by decide); have z1 : (1 : Int32).toInt = 1 := (by decide); omega)) (show (0 : Int) ≤ (y16.2.1 0).toInt ∧ (y16.2.1 0).toInt ≤ 87 from (by have f0 := b9; have f1 := k13; have f2 := b20; have f3 := t23; have f4 := k29; have f5 := t31; have f6 := t33; have f7 := b40; have f8 := k80; have f9 := t82; have f10 := t92; have f11 := j9_31 hJ19 rfl; have f12 := congrArg Int32.toInt (show ((σ17 9).1 31) = ((σ 9).1 31) from ((hF18 9 31 rfl).1).trans ((hF7 9 31 rfl).1)); have f13 := b39; have f14 := t74; have f15 := t84; have f16 := t94; have f17 := j9_31 hJ rfl; have f18 := t2; have f19 := t35; have f20 := t46; have f21 := t55; have f22 := k90; have f23 := t96; have f24 := b70; have g2 := rg32 (y16.2.1 0); have g3 := rg32 (y5.2.1 0); have z0 : (0 : Int32).toInt = 0 := (by decide); have z1 : (1 : Int32).toInt = 1 := (by decide); omega)) (show (0 : Int) ≤ (y66.2.1 0).toInt ∧ (y66.2.1 0).toInt ≤ 87 from (by have f0 := b9; have f1 := k13; have f2 := b20; have f3 := t23; have f4 := k29; have f5 := t31; have f6 := t33; have f7 := b40; have f8 := b70; have f9 := k80; have f10 := t82; have f11 := k90; have f12 := t92; have f13 := t96; have f14 := j9_31 hJ19 rfl; have f15 := congrArg Int32.toInt (show ((σ17 9).1 31) = ((σ 9).1 31) from ((hF18 9 31 rfl).1).trans ((hF7 9 31 rfl).1)); have f16 := b39; have f17 := t74; have f18 := t84; have f19 := t94; have f20 := j9_31 hJ rfl; have f21 := t2; have f22 := t35; have f23 := t46; have f24 := t55; have g2 := rg32 (y16.2.1 0); have g3 := rg32 (y5.2.1 0); have g4 := rg32 (y66.2.1 0); have z0 : (0 : Int32).toInt = 0 := (by decide); have z1 : (1 : Int32).toInt = 1 := (by decide); omega))) (cwV 3 hts (gd_V q1854 q1856 q95 q134 q1857) rfl rfl rfl (by decide +kernel) ⟨Nat.le_of_ble_eq_true rfl, Nat.le_of_ble_eq_true rfl⟩) (pv9 hP hK hD hC hS (va_recv hK hP (ci := 9) (q0 := 0) rfl rfl)) rfl rfl hl.1 rfl (lv_room (Nat.le_of_ble_eq_true rfl)) dX9_goesBack_154 ⟨Nat.le_of_ble_eq_true rfl, Nat.le_of_ble_eq_true rfl⟩) hS (fun q _ h => up9 hS q h) (up9 hS) (fun r104 σ105 tS H1 locs ht hvm hw106 hB hz1 hk1 hS => ?_)
                  have hP : va_P D clz (WD9 cy g σ105) H1 := by rw [← ht]; exact hB
                  clear hB hz1 hk1 hvm ht
                  generalize H1 = H at hP hS ⊢
                  have hw106E : σ67 = σ105 := (hw106.1).symm
                  subst hw106E
                  have b107 : (0 : Int) ≤ r104.toInt ∧ r104.toInt ≤ 1 := hw106.2.1
                  have b108 : r104 = goW (σ67 9) (y5.2.1 0).toInt.toNat (y16.2.1 0).toInt.toNat (y66.2.1 0).toInt.toNat := hw106.2.2.1
                  refine lv_if_ne (tgt := 163) hx hb dX9_goesBack_157 (by decide) (fun c109 => ?_) (fun c109 => ?_)
                  ·
                    have k110 := neq32 c109
                    refine lv_aload_n hx hb dX9_goesBack_163 rfl (lv_at hl 5 rfl) ?_
                    refine g9_35 hx hb hts hown hK hP (hts _ q1395) dX9_goesBack_164 ?_
                    refine lv_iload hx hb dX9_goesBack_167 (lv_at hl 0 rfl) ?_
                    refine l9_35 (x := x97) hx hb hK hP (vpo (by have f0 := t96; have f1 := b70; have f2 := k90; have f3 := t94; have f4 := t84; have f5 := t92; have f6 := b9; have f7 := k13; have f8 := t23; have f9 := t31; have f10 := b40; have f11 := k80; have f12 := t82; have f13 := j9_31 hJ19 rfl; have f14 := congrArg Int32.toInt (show ((σ17 9).1 31) = ((σ 9).1 31) from ((hF18 9 31 rfl).1).trans ((hF7 9 31 rfl).1)); have f15 := k29; have f16 := t33; have f17 := b39; have f18 := t74; have f19 := j9_31 hJ rfl; have f20 := t2; have f21 := b20; have f22 := t35; have f23 := t46; have f24 := t55; have g2 := rg32 x95; have z0 : (0 : Int32).toInt = 0 := (by decide); have z1 : (1 : Int32).toInt = 1 := (by decide); omega)) ex97 dX9_goesBack_169 ?_
                    refine lv_aload_n hx hb dX9_goesBack_170 rfl (lv_at hl 5 rfl) ?_
                    refine lv_iload_n hx hb dX9_goesBack_171 rfl (lv_at hl 4 rfl) ?_
                    refine lv_iload_n hx hb dX9_goesBack_172 rfl (lv_at hl 3 rfl) ?_
                    refine lv_iload hx hb dX9_goesBack_173 (lv_at hl 1 rfl) ?_
                    refine va_calli (va_runV (As := [.int (y5.2.1 0), .int (y16.2.1 0), .int (y66.2.1 0)]) (rest := [.int x97]) ⟨hx, hb, hml, hown, hts⟩ (m_X9_moveBy l D cy g σ67 (y5.2.1 0) (y16.2.1 0) (y66.2.1 0) _ hJ69 (show (0 : Int) ≤ (y5.2.1 0).toInt ∧ (y5.2.1 0).toInt ≤ 14 from (by have f0 := b9; have f1 := k13; have f2 := t23; have f3 := t31; have f4 := b40; have f5 := k80; have f6 := t82; have f7 := t92; have f8 := j9_31 hJ19 rfl; have f9 := congrArg Int32.toInt (show ((σ17 9).1 31) = ((σ 9).1 31) from ((hF18 9 31 rfl).1).trans ((hF7 9 31 rfl).1)); have f10 := k29; have f11 := t33; have f12 := b39; have f13 := t74; have f14 := t84; have f15 := t94; have f16 := j9_31 hJ rfl; have f17 := t2; have f18 := b20; have f19 := t35; have f20 := t46; have f21 := t55; have f22 := k90; have f23 := t96; have f24 := b70; have g2 := rg32 (y5.2.1 0); have z0 : (0 : Int32).toInt = 0 := (by decide); have z1 : (1 : Int32).toInt = 1 := (by decide); omega)) (show (0 : Int) ≤ (y16.2.1 0).toInt ∧ (y16.2.1 0).toInt ≤ 87 from (by have f0 := b9; have f1 := k13; have f2 := b20; have f3 := t23; have f4 := k29; have f5 := t31; have f6 := t33; have f7 := b40; have f8 := k80; have f9 := t82; have f10 := t92; have f11 := j9_31 hJ19 rfl; have f12 := congrArg Int32.toInt (show ((σ17 9).1 31) = ((σ 9).1 31) from ((hF18 9 31 rfl).1).trans ((hF7 9 31 rfl).1)); have f13 := b39; have f14 := t74; have f15 := t84; have f16 := t94; have f17 := j9_31 hJ rfl; have f18 := t2; have f19 := t35; have f20 := t46; have f21 := t55; have f22 := k90; have f23 := t96; have f24 := b70; have g2 := rg32 (y16.2.1 0); have g3 := rg32 (y5.2.1 0); have z0 : (0 : Int32).toInt = 0 := (by decide); have z1 : (1 : Int32).toInt = 1 := (by decide); omega)) (show (0 : Int) ≤ (y66.2.1 0).toInt ∧ (y66.2.1 0).toInt ≤ 87 from (by have f0 := b9; have f1 := k13; have f2 := b20; have f3 := t23; have f4 := k29; have f5 := t31; have f6 := t33; have f7 := b40; have f8 := b70; have f9 := k80; have f10 := t82; have f11 := k90; have f12 := t92; have f13 := t96; have f14 := j9_31 hJ19 rfl; have f15 := congrArg Int32.toInt (show ((σ17 9).1 31) = ((σ 9).1 31) from ((hF18 9 31 rfl).1).trans ((hF7 9 31 rfl).1)); have f16 := b39; have f17 := t74; have f18 := t84; have f19 := t94; have f20 := j9_31 hJ rfl; have f21 := t2; have f22 := t35; have f23 := t46; have f24 := t55; have g2 := rg32 (y16.2.1 0); have g3 := rg32 (y5.2.1 0); have g4 := rg32 (y66.2.1 0); have z0 : (0 : Int32).toInt = 0 := (by decide); have z1 : (1 : Int32).toInt = 1 := (by decide); omega))) (cwV 3 hts (gd_V q1862 q1864 q97 q134 q1865) rfl rfl rfl (by decide +kernel) ⟨Nat.le_of_ble_eq_true rfl, Nat.le_of_ble_eq_true rfl⟩) (pv9 hP hK hD hC hS (va_recv hK hP (ci := 9) (q0 := 0) rfl rfl)) rfl rfl hl.1 rfl (lv_room (Nat.le_of_ble_eq_true rfl)) dX9_goesBack_175 ⟨Nat.le_of_ble_eq_true rfl, Nat.le_of_ble_eq_true rfl⟩) hS (fun q _ h => up9 hS q h) (up9 hS) (fun r111 σ112 tS H1 locs ht hvm hw113 hB hz1 hk1 hS => ?_)
                    have hP : va_P D clz (WD9 cy g σ112) H1 := by rw [← ht]; exact hB
                    clear hB hz1 hk1 hvm ht
                    generalize H1 = H at hP hS ⊢
                    have hw113E : σ67 = σ112 := (hw113.1).symm
                    subst hw113E
                    have b114 : r111 = mvW (σ67 9) (y5.2.1 0).toInt.toNat (y16.2.1 0).toInt.toNat (y66.2.1 0).toInt.toNat := hw113.2.1
                    refine lv_iadd hx hb dX9_goesBack_178 ?_
                    refine lv_topi (fun x115 ex115 => ?_)
                    refine lv_istore (lv' := [(6, .int x115), (5, .int x95), (4, .int (y66.2.1 0)), (3, .int x32), (2, .int (y16.2.1 0)), (1, .int (y5.2.1 0)), (0, .ref (g 60))]) hx hb dX9_goesBack_179 hl (by decide) rfl (fun ls hl => ?_)
                    refine lv_aload_n hx hb dX9_goesBack_181 rfl (lv_at hl 6 rfl) ?_
                    refine g9_36 hx hb hts hown hK hP (hts _ q1396) dX9_goesBack_182 ?_
                    refine lv_iload hx hb dX9_goesBack_185 (lv_at hl 1 rfl) ?_
                    obtain ⟨x116, ex116⟩ : ∃ z, (σ67 9).2.2.1 36 x95.toInt.toNat = z := ⟨_, rfl⟩
                    refine l9_36 (x := x116) hx hb hK hP (vpo (by have f0 := t96; have f1 := b70; have f2 := k90; have f3 := t94; have f4 := t84; have f5 := t92; have f6 := b9; have f7 := k13; have f8 := t23; have f9 := t31; have f10 := b40; have f11 := k80; have f12 := t82; have f13 := j9_31 hJ19 rfl; have f14 := congrArg Int32.toInt (show ((σ17 9).1 31) = ((σ 9).1 31) from ((hF18 9 31 rfl).1).trans ((hF7 9 31 rfl).1)); have f15 := k29; have f16 := t33; have f17 := b39; have f18 := t74; have f19 := j9_31 hJ rfl; have f20 := t2; have f21 := b20; have f22 := t35; have f23 := t46; have f24 := t55; have g2 := rg32 x95; have z0 : (0 : Int32).toInt = 0 := (by decide); have z1 : (1 : Int32).toInt = 1 := (by decide); omega)) ex116 dX9_goesBack_187 ?_
                    refine lv_aload_n hx hb dX9_goesBack_188 rfl (lv_at hl 6 rfl) ?_
                    refine g9_27 hx hb hts hown hK hP (hts _ q1387) dX9_goesBack_189 ?_
                    refine lv_iload_n hx hb dX9_goesBack_192 rfl (lv_at hl 3 rfl) ?_
                    obtain ⟨x117, ex117⟩ : ∃ z, (σ 9).2.2.1 27 x32.toInt.toNat = z := ⟨_, rfl⟩
                    refine l9_27 (x := x117) hx hb hK hP (vpo (by have f0 := t33; have f1 := b20; have f2 := k29; have f3 := t31; have f4 := b9; have f5 := k13; have f6 := t23; have f7 := b40; have f8 := k80; have f9 := t82; have f10 := t92; have f11 := j9_31 hJ19 rfl; have f12 := congrArg Int32.toInt (show ((σ17 9).1 31) = ((σ 9).1 31) from ((hF18 9 31 rfl).1).trans ((hF7 9 31 rfl).1)); have f13 := b39; have f14 := t74; have f15 := t84; have f16 := t94; have f17 := j9_31 hJ rfl; have f18 := t2; have f19 := t35; have f20 := t46; have f21 := t55; have f22 := k90; have f23 := t96; have f24 := b70; have g2 := rg32 x32; have z0 : (0 : Int32).toInt = 0 := (by decide); have z1 : (1 : Int32).toInt = 1 := (by decide); omega)) ((congrFun (((hF68 9 27 rfl).2.2.1).trans ((((sB_f eσ60) 9 27 rfl).2.2.1).trans ((((sA_f eσ51) 9 27 rfl).2.2.1).trans ((((sA_f eσ42) 9 27 rfl).2.2.1).trans (((hF18 9 27 rfl).2.2.1).trans ((hF7 9 27 rfl).2.2.1)))))) _).trans ex117) dX9_goesBack_193 ?_
                    refine lv_iadd hx hb dX9_goesBack_194 ?_
                    refine lv_topi (fun x118 ex118 => ?_)
                    refine lv_istore (lv' := [(7, .int x118), (6, .int x115), (5, .int x95), (4, .int (y66.2.1 0)), (3, .int x32), (2, .int (y16.2.1 0)), (1, .int (y5.2.1 0)), (0, .ref (g 60))]) hx hb dX9_goesBack_195 hl (by decide) rfl (fun ls hl => ?_)
                    refine lv_aload_n hx hb dX9_goesBack_197 rfl (lv_at hl 7 rfl) ?_
                    refine g9_37 hx hb hts hown hK hP (hts _ q1397) dX9_goesBack_198 ?_
                    refine lv_iload_n hx hb dX9_goesBack_201 rfl (lv_at hl 4 rfl) ?_
                    refine lv_aload_n hx hb dX9_goesBack_202 rfl (lv_at hl 7 rfl) ?_
                    refine g9_37 hx hb hts hown hK hP (hts _ q1397) dX9_goesBack_203 ?_
                    refine lv_iload_n hx hb dX9_goesBack_206 rfl (lv_at hl 4 rfl) ?_
                    obtain ⟨x119, ex119⟩ : ∃ z, (σ67 9).2.2.2 37 x32.toInt.toNat = z := ⟨_, rfl⟩
                    refine l9_37 (x := x119) hx hb hK hP (vpo (by have f0 := t33; have f1 := b20; have f2 := k29; have f3 := t31; have f4 := b9; have f5 := k13; have f6 := t23; have f7 := b40; have f8 := k80; have f9 := t82; have f10 := t92; have f11 := j9_31 hJ19 rfl; have f12 := congrArg Int32.toInt (show ((σ17 9).1 31) = ((σ 9).1 31) from ((hF18 9 31 rfl).1).trans ((hF7 9 31 rfl).1)); have f13 := b39; have f14 := t74; have f15 := t84; have f16 := t94; have f17 := j9_31 hJ rfl; have f18 := t2; have f19 := t35; have f20 := t46; have f21 := t55; have f22 := k90; have f23 := t96; have f24 := b70; have g2 := rg32 x32; have z0 : (0 : Int32).toInt = 0 := (by decide); have z1 : (1 : Int32).toInt = 1 := (by decide); omega)) ex119 dX9_goesBack_207 ?_
                    refine lv_aload_n hx hb dX9_goesBack_208 rfl (lv_at hl 7 rfl) ?_
                    refine g9_37 hx hb hts hown hK hP (hts _ q1397) dX9_goesBack_209 ?_
                    refine lv_iload hx hb dX9_goesBack_212 (lv_at hl 2 rfl) ?_
                    obtain ⟨x120, ex120⟩ : ∃ z, (σ67 9).2.2.2 37 x95.toInt.toNat = z := ⟨_, rfl⟩
                    refine l9_37 (x := x120) hx hb hK hP (vpo (by have f0 := t96; have f1 := b70; have f2 := k90; have f3 := t94; have f4 := t84; have f5 := t92; have f6 := b9; have f7 := k13; have f8 := t23; have f9 := t31; have f10 := b40; have f11 := k80; have f12 := t82; have f13 := j9_31 hJ19 rfl; have f14 := congrArg Int32.toInt (show ((σ17 9).1 31) = ((σ 9).1 31) from ((hF18 9 31 rfl).1).trans ((hF7 9 31 rfl).1)); have f15 := k29; have f16 := t33; have f17 := b39; have f18 := t74; have f19 := j9_31 hJ rfl; have f20 := t2; have f21 := b20; have f22 := t35; have f23 := t46; have f24 := t55; have g2 := rg32 x95; have z0 : (0 : Int32).toInt = 0 := (by decide); have z1 : (1 : Int32).toInt = 1 := (by decide); omega)) ex120 dX9_goesBack_214 ?_
                    refine lv_ladd hx hb dX9_goesBack_215 ?_
                    refine lv_topl (fun x121 ex121 => ?_)
                    refine lv_ldc2 (v := 1000000000) hx hb hown (hts _ q1866) dX9_goesBack_216 ?_
                    refine W.lcmp hx hb dX9_goesBack_219 ?_
                    refine cut9 (D := D) (cy := cy) (g := g) (A := A9 cy g s.heap.size) (H0 := s.heap) 8 243 (fun x : LZ => [(7, .int x118), (6, .int x115), (5, .int x95), (4, .int (y66.2.1 0)), (3, .int x32), (2, .int (y16.2.1 0)), (1, .int (y5.2.1 0)), (0, .ref (g 60))]) (fun x : LZ => [.long (x.2.2 0), .int x32, .ref (g 37)]) (fun x : LZ => (x.1 = σ67) ∧ (GI (σ67 9) ((y5.2.1 0).toInt.toNat) ((y16.2.1 0).toInt.toNat)) ∧ (CI (σ67 9) ((y5.2.1 0).toInt.toNat) ((y16.2.1 0).toInt.toNat) ((y66.2.1 0).toInt.toNat)) ∧ True) ?_ ?_
                    ·
                      intro y124 hI123 H locs ls hP hS hl
                      rw [show y124.1 = σ67 from hI123.1] at hP
                      have b125 : GI (σ67 9) ((y5.2.1 0).toInt.toNat) ((y16.2.1 0).toInt.toNat) := hI123.2.1
                      have b126 : CI (σ67 9) ((y5.2.1 0).toInt.toNat) ((y16.2.1 0).toInt.toNat) ((y66.2.1 0).toInt.toNat) := hI123.2.2.1
                      have hl : lv_has ls 8 [(7, .int x118), (6, .int x115), (5, .int x95), (4, .int (y66.2.1 0)), (3, .int x32), (2, .int (y16.2.1 0)), (1, .int (y5.2.1 0)), (0, .ref (g 60))] := hl
                      refine W.eq (g2 := F0 m 243 ls [.long (y124.2.2 0), .int x32, .ref (g 37)]) rfl ?_
                      refine t9_37 hx hb hK hP hD hS (vpo (by have f0 := t33; have f1 := b20; have f2 := k29; have f3 := t31; have f4 := b9; have f5 := k13; have f6 := t23; have f7 := b40; have f8 := k80; have f9 := t82; have f10 := t92; have f11 := j9_31 hJ19 rfl; have f12 := congrArg Int32.toInt (show ((σ17 9).1 31) = ((σ 9).1 31) from ((hF18 9 31 rfl).1).trans ((hF7 9 31 rfl).1)); have f13 := b39; have f14 := t74; have f15 := t84; have f16 := t94; have f17 := j9_31 hJ rfl; have f18 := t2; have f19 := t35; have f20 := t46; have f21 := t55; have f22 := k90; have f23 := t96; have f24 := b70; have g2 := rg32 x32; have z0 : (0 : Int32).toInt = 0 := (by decide); have z1 : (1 : Int32).toInt = 1 := (by decide); omega)) dX9_goesBack_243 (fun H locs σ127 eσ127 hP hS => ?_)
                      have hJ128 : J9 (σ127 9) := hJ69.B eσ127
                      have T129 : GI (σ127 9) ((y5.2.1 0).toInt.toNat) ((y16.2.1 0).toInt.toNat) := GI.s37 b125 eσ127
                      have T130 : CI (σ127 9) ((y5.2.1 0).toInt.toNat) ((y16.2.1 0).toInt.toNat) ((y66.2.1 0).toInt.toNat) := CI.s37 b126 eσ127
                      refine lv_iload hx hb dX9_goesBack_244 (lv_at hl 1 rfl) ?_
                      refine lv_aload_n hx hb dX9_goesBack_246 rfl (lv_at hl 7 rfl) ?_
                      refine g9_35 hx hb hts hown hK hP (hts _ q1395) dX9_goesBack_247 ?_
                      refine lv_iload_n hx hb dX9_goesBack_250 rfl (lv_at hl 4 rfl) ?_
                      obtain ⟨x131, ex131⟩ : ∃ z, (σ67 9).2.2.1 35 x32.toInt.toNat = z := ⟨_, rfl⟩
                      refine l9_35 (x := x131) hx hb hK hP (vpo (by have f0 := t33; have f1 := b20; have f2 := k29; have f3 := t31; have f4 := b9; have f5 := k13; have f6 := t23; have f7 := b40; have f8 := k80; have f9 := t82; have f10 := t92; have f11 := j9_31 hJ19 rfl; have f12 := congrArg Int32.toInt (show ((σ17 9).1 31) = ((σ 9).1 31) from ((hF18 9 31 rfl).1).trans ((hF7 9 31 rfl).1)); have f13 := b39; have f14 := t74; have f15 := t84; have f16 := t94; have f17 := j9_31 hJ rfl; have f18 := t2; have f19 := t35; have f20 := t46; have f21 := t55; have f22 := k90; have f23 := t96; have f24 := b70; have g2 := rg32 x32; have z0 : (0 : Int32).toInt = 0 := (by decide); have z1 : (1 : Int32).toInt = 1 := (by decide); omega)) ((congrFun (((sB_f eσ127) 9 35 rfl).2.2.1) _).trans ex131) dX9_goesBack_251 ?_
                      refine lv_icmp_gt (tgt := 296) hx hb dX9_goesBack_252 (by decide) (fun c132 => ?_) (fun c132 => ?_)
                      ·
                        have k133 := plt32 c132
                        obtain ⟨x134, ex134⟩ : ∃ y : Int32, y = (y66.2.1 0) + 1 := ⟨_, rfl⟩
                        have t135 := addO ex134 (by have f0 := b70; have f1 := k90; have f2 := t96; have f3 := t84; have f4 := t94; have f5 := t82; have f6 := t92; have f7 := b9; have f8 := k13; have f9 := t23; have f10 := t31; have f11 := b40; have f12 := k80; have f13 := j9_31 hJ19 rfl; have f14 := congrArg Int32.toInt (show ((σ17 9).1 31) = ((σ 9).1 31) from ((hF18 9 31 rfl).1).trans ((hF7 9 31 rfl).1)); have f15 := k29; have f16 := t33; have f17 := b39; have f18 := t74; have f19 := j9_31 hJ rfl; have f20 := t2; have f21 := b20; have f22 := t35; have f23 := t46; have f24 := t55; have g2 := rg32 (y66.2.1 0); have z0 : (0 : Int32).toInt = 0 := (by decide); have z1 : (1 : Int32).toInt = 1 := (by decide); omega)
                        refine lv_iinc (v := x134) (lv' := [(4, .int x134), (7, .int x118), (6, .int x115), (5, .int x95), (3, .int x32), (2, .int (y16.2.1 0)), (1, .int (y5.2.1 0)), (0, .ref (g 60))]) hx hb dX9_goesBack_296 hl (k := 3) rfl (by rw [ex134]; rfl) (by decide) rfl (fun ls hl => ?_)
                        refine lv_goto (tgt := 103) hx hb dX9_goesBack_299 (by decide) ?_
                        have t136 : ((89 : Int) - x134.toInt).toNat < ((89 : Int) - (y66.2.1 0).toInt).toNat := (by have f0 := b70; have f1 := k90; have f2 := t96; have f3 := t135; have f4 := t84; have f5 := t94; have f6 := t82; have f7 := t92; have f8 := b9; have f9 := k13; have f10 := t23; have f11 := t31; have f12 := b40; have f13 := k80; have f14 := j9_31 hJ19 rfl; have f15 := congrArg Int32.toInt (show ((σ17 9).1 31) = ((σ 9).1 31) from ((hF18 9 31 rfl).1).trans ((hF7 9 31 rfl).1)); have f16 := k29; have f17 := t33; have f18 := b39; have f19 := t74; have f20 := j9_31 hJ rfl; have f21 := t2; have f22 := b20; have f23 := t35; have f24 := t46; have f25 := t55; have g2 := rg32 (y66.2.1 0); have g3 := rg32 x134; have z0 : (0 : Int32).toInt = 0 := (by decide); have z1 : (1 : Int32).toInt = 1 := (by decide); omega)
                        exact nl64 (σ127, lf [x134], lg []) ⟨Fr.tr (Fr.tr (Fr.rf) hF68 (fL_sub rfl)) (sB_f eσ127) (fN_L rfl), hJ128, (show (0 : Int) ≤ (x134 : Int32).toInt ∧ (x134 : Int32).toInt ≤ 88 from (by have f0 := t135; have f1 := b70; have f2 := k90; have f3 := t96; have f4 := t84; have f5 := t94; have f6 := t82; have f7 := t92; have f8 := b9; have f9 := k13; have f10 := t23; have f11 := t31; have f12 := b40; have f13 := k80; have f14 := j9_31 hJ19 rfl; have f15 := congrArg Int32.toInt (show ((σ17 9).1 31) = ((σ 9).1 31) from ((hF18 9 31 rfl).1).trans ((hF7 9 31 rfl).1)); have f16 := k29; have f17 := t33; have f18 := b39; have f19 := t74; have f20 := j9_31 hJ rfl; have f21 := t2; have f22 := b20; have f23 := t35; have f24 := t46; have f25 := t55; have g2 := rg32 x134; have z0 : (0 : Int32).toInt = 0 := (by decide); have z1 : (1 : Int32).toInt = 1 := (by decide); omega)), (show GI (σ127 9) ((y5.2.1 0).toInt.toNat) ((y16.2.1 0).toInt.toNat) from T129), (show CI (σ127 9) ((y5.2.1 0).toInt.toNat) ((y16.2.1 0).toInt.toNat) (x134.toInt.toNat) from CI.stay T130 (by have f0 := b70; have f1 := k90; have f2 := t96; have f3 := t135; have f4 := t84; have f5 := t94; have f6 := t82; have f7 := t92; have f8 := b9; have f9 := k13; have f10 := t23; have f11 := t31; have f12 := b40; have f13 := k80; have f14 := j9_31 hJ19 rfl; have f15 := congrArg Int32.toInt (show ((σ17 9).1 31) = ((σ 9).1 31) from ((hF18 9 31 rfl).1).trans ((hF7 9 31 rfl).1)); have f16 := k29; have f17 := t33; have f18 := b39; have f19 := t74; have f20 := j9_31 hJ rfl; have f21 := t2; have f22 := b20; have f23 := t35; have f24 := t46; have f25 := t55; have g2 := rg32 (y66.2.1 0); have g3 := rg32 x134; have z0 : (0 : Int32).toInt = 0 := (by decide); have z1 : (1 : Int32).toInt = 1 := (by decide); omega)), trivial⟩ (show ((89 : Int) - x134.toInt).toNat < _ from by first | exact t136 | (rw [← eσ67]; exact t136)) _ _ _ hP hS (lv_sub hl [0, 4, 5, 6, 7] rfl)
                      ·
                        have k137 := nlt32 c132
                        refine lv_iload hx hb dX9_goesBack_255 (lv_at hl 1 rfl) ?_
                        refine lv_aload_n hx hb dX9_goesBack_257 rfl (lv_at hl 7 rfl) ?_
                        refine g9_35 hx hb hts hown hK hP (hts _ q1395) dX9_goesBack_258 ?_
                        refine lv_iload_n hx hb dX9_goesBack_261 rfl (lv_at hl 4 rfl) ?_
                        refine l9_35 (x := x131) hx hb hK hP (vpo (by have f0 := t33; have f1 := b20; have f2 := k29; have f3 := t31; have f4 := b9; have f5 := k13; have f6 := t23; have f7 := b40; have f8 := k80; have f9 := t82; have f10 := t92; have f11 := j9_31 hJ19 rfl; have f12 := congrArg Int32.toInt (show ((σ17 9).1 31) = ((σ 9).1 31) from ((hF18 9 31 rfl).1).trans ((hF7 9 31 rfl).1)); have f13 := b39; have f14 := t74; have f15 := t84; have f16 := t94; have f17 := j9_31 hJ rfl; have f18 := t2; have f19 := t35; have f20 := t46; have f21 := t55; have f22 := k90; have f23 := t96; have f24 := b70; have g2 := rg32 x32; have z0 : (0 : Int32).toInt = 0 := (by decide); have z1 : (1 : Int32).toInt = 1 := (by decide); omega)) ((congrFun (((sB_f eσ127) 9 35 rfl).2.2.1) _).trans ex131) dX9_goesBack_262 ?_
                        refine lv_icmp_ne (tgt := 280) hx hb dX9_goesBack_263 (by decide) (fun c138 => ?_) (fun c138 => ?_)
                        ·
                          have k139 := neq32 c138
                          refine lv_aload_n hx hb dX9_goesBack_280 rfl (lv_at hl 7 rfl) ?_
                          refine g9_35 hx hb hts hown hK hP (hts _ q1395) dX9_goesBack_281 ?_
                          refine lv_iload_n hx hb dX9_goesBack_284 rfl (lv_at hl 4 rfl) ?_
                          refine lv_iload hx hb dX9_goesBack_285 (lv_at hl 1 rfl) ?_
                          refine t9_35 hx hb hK hP hD hS (vpo (by have f0 := t33; have f1 := b20; have f2 := k29; have f3 := t31; have f4 := b9; have f5 := k13; have f6 := t23; have f7 := b40; have f8 := k80; have f9 := t82; have f10 := t92; have f11 := j9_31 hJ19 rfl; have f12 := congrArg Int32.toInt (show ((σ17 9).1 31) = ((σ 9).1 31) from ((hF18 9 31 rfl).1).trans ((hF7 9 31 rfl).1)); have f13 := b39; have f14 := t74; have f15 := t84; have f16 := t94; have f17 := j9_31 hJ rfl; have f18 := t2; have f19 := t35; have f20 := t46; have f21 := t55; have f22 := k90; have f23 := t96; have f24 := b70; have g2 := rg32 x32; have z0 : (0 : Int32).toInt = 0 := (by decide); have z1 : (1 : Int32).toInt = 1 := (by decide); omega)) dX9_goesBack_287 (fun H locs σ140 eσ140 hP hS => ?_)
                          have hJ141 : J9 (σ140 9) := hJ128.A eσ140 trivial
                          have T142 : GI (σ140 9) ((y5.2.1 0).toInt.toNat) ((y16.2.1 0).toInt.toNat) := GI.s35 T129 eσ140 (by have f0 := b9; have f1 := k13; have f2 := b20; have f3 := t23; have f4 := k29; have f5 := t31; have f6 := t33; have f7 := b40; have f8 := k80; have f9 := t82; have f10 := t92; have f11 := j9_31 hJ19 rfl; have f12 := congrArg Int32.toInt (show ((σ17 9).1 31) = ((σ 9).1 31) from ((hF18 9 31 rfl).1).trans ((hF7 9 31 rfl).1)); have f13 := b39; have f14 := t74; have f15 := t84; have f16 := t94; have f17 := j9_31 hJ rfl; have f18 := t2; have f19 := t35; have f20 := t46; have f21 := t55; have f22 := k90; have f23 := t96; have f24 := b70; have g2 := rg32 (y16.2.1 0); have g3 := rg32 (y5.2.1 0); have g4 := rg32 x32; have z0 : (0 : Int32).toInt = 0 := (by decide); have z1 : (1 : Int32).toInt = 1 := (by decide); omega) (by have f0 := b9; have f1 := k13; have f2 := b20; have f3 := t23; have f4 := k29; have f5 := t31; have f6 := t33; have f7 := b40; have f8 := k80; have f9 := t82; have f10 := t92; have f11 := j9_31 hJ19 rfl; have f12 := congrArg Int32.toInt (show ((σ17 9).1 31) = ((σ 9).1 31) from ((hF18 9 31 rfl).1).trans ((hF7 9 31 rfl).1)); have f13 := b39; have f14 := t74; have f15 := t84; have f16 := t94; have f17 := j9_31 hJ rfl; have f18 := t2; have f19 := t35; have f20 := t46; have f21 := t55; have f22 := k90; have f23 := t96; have f24 := b70; have g2 := rg32 (y16.2.1 0); have g3 := rg32 (y5.2.1 0); have g4 := rg32 x32; have z0 : (0 : Int32).toInt = 0 := (by decide); have z1 : (1 : Int32).toInt = 1 := (by decide); omega)
                          refine lv_aload_n hx hb dX9_goesBack_288 rfl (lv_at hl 7 rfl) ?_
                          refine g9_36 hx hb hts hown hK hP (hts _ q1396) dX9_goesBack_289 ?_
                          refine lv_iload_n hx hb dX9_goesBack_292 rfl (lv_at hl 4 rfl) ?_
                          refine lv_iload hx hb dX9_goesBack_293 (lv_at hl 0 rfl) ?_
                          refine t9_36 hx hb hK hP hD hS (vpo (by have f0 := t33; have f1 := b20; have f2 := k29; have f3 := t31; have f4 := b9; have f5 := k13; have f6 := t23; have f7 := b40; have f8 := k80; have f9 := t82; have f10 := t92; have f11 := j9_31 hJ19 rfl; have f12 := congrArg Int32.toInt (show ((σ17 9).1 31) = ((σ 9).1 31) from ((hF18 9 31 rfl).1).trans ((hF7 9 31 rfl).1)); have f13 := b39; have f14 := t74; have f15 := t84; have f16 := t94; have f17 := j9_31 hJ rfl; have f18 := t2; have f19 := t35; have f20 := t46; have f21 := t55; have f22 := k90; have f23 := t96; have f24 := b70; have g2 := rg32 x32; have z0 : (0 : Int32).toInt = 0 := (by decide); have z1 : (1 : Int32).toInt = 1 := (by decide); omega)) dX9_goesBack_295 (fun H locs σ144 eσ144 hP hS => ?_)
                          have hJ145 : J9 (σ144 9) := hJ141.A eσ144 trivial
                          have T146 : GI (σ144 9) ((y5.2.1 0).toInt.toNat) ((y16.2.1 0).toInt.toNat) := GI.s36 T142 eσ144 (by have f0 := b9; have f1 := k13; have f2 := b20; have f3 := t23; have f4 := k29; have f5 := t31; have f6 := t33; have f7 := b40; have f8 := k80; have f9 := t82; have f10 := t92; have f11 := j9_31 hJ19 rfl; have f12 := congrArg Int32.toInt (show ((σ17 9).1 31) = ((σ 9).1 31) from ((hF18 9 31 rfl).1).trans ((hF7 9 31 rfl).1)); have f13 := b39; have f14 := t74; have f15 := t84; have f16 := t94; have f17 := j9_31 hJ rfl; have f18 := t2; have f19 := t35; have f20 := t46; have f21 := t55; have f22 := k90; have f23 := t96; have f24 := b70; have g2 := rg32 (y16.2.1 0); have g3 := rg32 (y5.2.1 0); have g4 := rg32 x32; have z0 : (0 : Int32).toInt = 0 := (by decide); have z1 : (1 : Int32).toInt = 1 := (by decide); omega) (by have f0 := b9; have f1 := k13; have f2 := b20; have f3 := t23; have f4 := k29; have f5 := t31; have f6 := t33; have f7 := b40; have f8 := k80; have f9 := t82; have f10 := t92; have f11 := j9_31 hJ19 rfl; have f12 := congrArg Int32.toInt (show ((σ17 9).1 31) = ((σ 9).1 31) from ((hF18 9 31 rfl).1).trans ((hF7 9 31 rfl).1)); have f13 := b39; have f14 := t74; have f15 := t84; have f16 := t94; have f17 := j9_31 hJ rfl; have f18 := t2; have f19 := t35; have f20 := t46; have f21 := t55; have f22 := k90; have f23 := t96; have f24 := b70; have g2 := rg32 (y16.2.1 0); have g3 := rg32 (y5.2.1 0); have g4 := rg32 x32; have z0 : (0 : Int32).toInt = 0 := (by decide); have z1 : (1 : Int32).toInt = 1 := (by decide); omega)
                          obtain ⟨x147, ex147⟩ : ∃ y : Int32, y = (y66.2.1 0) + 1 := ⟨_, rfl⟩
                          have t148 := addO ex147 (by have f0 := b70; have f1 := k90; have f2 := t96; have f3 := t84; have f4 := t94; have f5 := t82; have f6 := t92; have f7 := b9; have f8 := k13; have f9 := t23; have f10 := t31; have f11 := b40; have f12 := k80; have f13 := j9_31 hJ19 rfl; have f14 := congrArg Int32.toInt (show ((σ17 9).1 31) = ((σ 9).1 31) from ((hF18 9 31 rfl).1).trans ((hF7 9 31 rfl).1)); have f15 := k29; have f16 := t33; have f17 := b39; have f18 := t74; have f19 := j9_31 hJ rfl; have f20 := t2; have f21 := b20; have f22 := t35; have f23 := t46; have f24 := t55; have g2 := rg32 (y66.2.1 0); have z0 : (0 : Int32).toInt = 0 := (by decide); have z1 : (1 : Int32).toInt = 1 := (by decide); omega)
                          refine lv_iinc (v := x147) (lv' := [(4, .int x147), (7, .int x118), (6, .int x115), (5, .int x95), (3, .int x32), (2, .int (y16.2.1 0)), (1, .int (y5.2.1 0)), (0, .ref (g 60))]) hx hb dX9_goesBack_296 hl (k := 3) rfl (by rw [ex147]; rfl) (by decide) rfl (fun ls hl => ?_)
                          refine lv_goto (tgt := 103) hx hb dX9_goesBack_299 (by decide) ?_
                          have t149 : ((89 : Int) - x147.toInt).toNat < ((89 : Int) - (y66.2.1 0).toInt).toNat := (by have f0 := b70; have f1 := k90; have f2 := t96; have f3 := t148; have f4 := t84; have f5 := t94; have f6 := t82; have f7 := t92; have f8 := b9; have f9 := k13; have f10 := t23; have f11 := t31; have f12 := b40; have f13 := k80; have f14 := j9_31 hJ19 rfl; have f15 := congrArg Int32.toInt (show ((σ17 9).1 31) = ((σ 9).1 31) from ((hF18 9 31 rfl).1).trans ((hF7 9 31 rfl).1)); have f16 := k29; have f17 := t33; have f18 := b39; have f19 := t74; have f20 := j9_31 hJ rfl; have f21 := t2; have f22 := b20; have f23 := t35; have f24 := t46; have f25 := t55; have g2 := rg32 (y66.2.1 0); have g3 := rg32 x147; have z0 : (0 : Int32).toInt = 0 := (by decide); have z1 : (1 : Int32).toInt = 1 := (by decide); omega)
                          exact nl64 (σ144, lf [x147], lg []) ⟨Fr.tr (Fr.tr (Fr.tr (Fr.tr (Fr.rf) hF68 (fL_sub rfl)) (sB_f eσ127) (fN_L rfl)) (sA_f eσ140) (fN_L rfl)) (sA_f eσ144) (fN_L rfl), hJ145, (show (0 : Int) ≤ (x147 : Int32).toInt ∧ (x147 : Int32).toInt ≤ 88 from (by have f0 := t148; have f1 := b70; have f2 := k90; have f3 := t96; have f4 := t84; have f5 := t94; have f6 := t82; have f7 := t92; have f8 := b9; have f9 := k13; have f10 := t23; have f11 := t31; have f12 := b40; have f13 := k80; have f14 := j9_31 hJ19 rfl; have f15 := congrArg Int32.toInt (show ((σ17 9).1 31) = ((σ 9).1 31) from ((hF18 9 31 rfl).1).trans ((hF7 9 31 rfl).1)); have f16 := k29; have f17 := t33; have f18 := b39; have f19 := t74; have f20 := j9_31 hJ rfl; have f21 := t2; have f22 := b20; have f23 := t35; have f24 := t46; have f25 := t55; have g2 := rg32 x147; have z0 : (0 : Int32).toInt = 0 := (by decide); have z1 : (1 : Int32).toInt = 1 := (by decide); omega)), (show GI (σ144 9) ((y5.2.1 0).toInt.toNat) ((y16.2.1 0).toInt.toNat) from T146), (show CI (σ144 9) ((y5.2.1 0).toInt.toNat) ((y16.2.1 0).toInt.toNat) (x147.toInt.toNat) from (by rw [show x147.toInt.toNat = (y66.2.1 0).toInt.toNat + 1 from (by have f0 := b70; have f1 := k90; have f2 := t96; have f3 := t148; have f4 := t84; have f5 := t94; have f6 := t82; have f7 := t92; have f8 := b9; have f9 := k13; have f10 := t23; have f11 := t31; have f12 := b40; have f13 := k80; have f14 := j9_31 hJ19 rfl; have f15 := congrArg Int32.toInt (show ((σ17 9).1 31) = ((σ 9).1 31) from ((hF18 9 31 rfl).1).trans ((hF7 9 31 rfl).1)); have f16 := k29; have f17 := t33; have f18 := b39; have f19 := t74; have f20 := j9_31 hJ rfl; have f21 := t2; have f22 := b20; have f23 := t35; have f24 := t46; have f25 := t55; have g2 := rg32 (y66.2.1 0); have g3 := rg32 x147; have z0 : (0 : Int32).toInt = 0 := (by decide); have z1 : (1 : Int32).toInt = 1 := (by decide); omega)]; exact CI.put (b := (y66.2.1 0).toInt.toNat) (wm := x83) (xt := x97) (xs := x116) (xo := x117) eσ127 eσ140 eσ144 (by have f0 := b9; have f1 := k13; have f2 := b20; have f3 := t23; have f4 := k29; have f5 := t31; have f6 := t33; have f7 := b40; have f8 := b70; have f9 := k80; have f10 := t82; have f11 := k90; have f12 := t92; have f13 := t96; have f14 := t148; have f15 := j9_31 hJ19 rfl; have f16 := congrArg Int32.toInt (show ((σ17 9).1 31) = ((σ 9).1 31) from ((hF18 9 31 rfl).1).trans ((hF7 9 31 rfl).1)); have f17 := b39; have f18 := t74; have f19 := t84; have f20 := t94; have f21 := j9_31 hJ rfl; have f22 := t2; have f23 := t35; have f24 := t46; have f25 := t55; have g2 := rg32 (y16.2.1 0); have g3 := rg32 (y5.2.1 0); have g4 := rg32 (y66.2.1 0); have g5 := rg32 x32; have g6 := rg32 x95; have z0 : (0 : Int32).toInt = 0 := (by decide); have z1 : (1 : Int32).toInt = 1 := (by decide); omega) (by have f0 := b9; have f1 := k13; have f2 := b20; have f3 := t23; have f4 := k29; have f5 := t31; have f6 := t33; have f7 := b40; have f8 := b70; have f9 := k80; have f10 := t82; have f11 := k90; have f12 := t92; have f13 := t96; have f14 := t148; have f15 := j9_31 hJ19 rfl; have f16 := congrArg Int32.toInt (show ((σ17 9).1 31) = ((σ 9).1 31) from ((hF18 9 31 rfl).1).trans ((hF7 9 31 rfl).1)); have f17 := b39; have f18 := t74; have f19 := t84; have f20 := t94; have f21 := j9_31 hJ rfl; have f22 := t2; have f23 := t35; have f24 := t46; have f25 := t55; have g2 := rg32 (y16.2.1 0); have g3 := rg32 (y5.2.1 0); have g4 := rg32 (y66.2.1 0); have g5 := rg32 x32; have g6 := rg32 x95; have z0 : (0 : Int32).toInt = 0 := (by decide); have z1 : (1 : Int32).toInt = 1 := (by decide); omega) (by have f0 := b9; have f1 := k13; have f2 := b20; have f3 := t23; have f4 := k29; have f5 := t31; have f6 := t33; have f7 := b40; have f8 := b70; have f9 := k80; have f10 := t82; have f11 := k90; have f12 := t92; have f13 := t96; have f14 := t148; have f15 := j9_31 hJ19 rfl; have f16 := congrArg Int32.toInt (show ((σ17 9).1 31) = ((σ 9).1 31) from ((hF18 9 31 rfl).1).trans ((hF7 9 31 rfl).1)); have f17 := b39; have f18 := t74; have f19 := t84; have f20 := t94; have f21 := j9_31 hJ rfl; have f22 := t2; have f23 := t35; have f24 := t46; have f25 := t55; have g2 := rg32 (y16.2.1 0); have g3 := rg32 (y5.2.1 0); have g4 := rg32 (y66.2.1 0); have g5 := rg32 x32; have g6 := rg32 x95; have z0 : (0 : Int32).toInt = 0 := (by decide); have z1 : (1 : Int32).toInt = 1 := (by decide); omega) ex97 ex116 ((congrFun (((hF68 9 27 rfl).2.2.1).trans ((((sB_f eσ60) 9 27 rfl).2.2.1).trans ((((sA_f eσ51) 9 27 rfl).2.2.1).trans ((((sA_f eσ42) 9 27 rfl).2.2.1).trans (((hF18 9 27 rfl).2.2.1).trans ((hF7 9 27 rfl).2.2.1)))))) _).trans ex117) (by rw [show (y5.2.1 0).toInt.toNat + 1 = x81.toInt.toNat from (by have f0 := b9; have f1 := k13; have f2 := t23; have f3 := t31; have f4 := b40; have f5 := k80; have f6 := t82; have f7 := t84; have f8 := t92; have f9 := j9_31 hJ19 rfl; have f10 := congrArg Int32.toInt (show ((σ17 9).1 31) = ((σ 9).1 31) from ((hF18 9 31 rfl).1).trans ((hF7 9 31 rfl).1)); have f11 := k29; have f12 := t33; have f13 := b39; have f14 := t74; have f15 := k90; have f16 := t94; have f17 := j9_31 hJ rfl; have f18 := t2; have f19 := b20; have f20 := t35; have f21 := t46; have f22 := t55; have f23 := b70; have f24 := t96; have f25 := t148; have g2 := rg32 (y5.2.1 0); have g3 := rg32 x81; have z0 : (0 : Int32).toInt = 0 := (by decide); have z1 : (1 : Int32).toInt = 1 := (by decide); omega)]; exact ((congrFun (((hF68 9 24 rfl).2.2.1).trans ((((sB_f eσ60) 9 24 rfl).2.2.1).trans ((((sA_f eσ51) 9 24 rfl).2.2.1).trans ((((sA_f eσ42) 9 24 rfl).2.2.1).trans (((hF18 9 24 rfl).2.2.1).trans ((hF7 9 24 rfl).2.2.1)))))) _).trans ex83)) (by have f0 := b70; have f1 := t84; have f2 := k90; have f3 := t96; have f4 := t148; have f5 := t82; have f6 := t94; have f7 := b9; have f8 := k13; have f9 := t23; have f10 := t31; have f11 := b40; have f12 := k80; have f13 := t92; have f14 := j9_31 hJ19 rfl; have f15 := congrArg Int32.toInt (show ((σ17 9).1 31) = ((σ 9).1 31) from ((hF18 9 31 rfl).1).trans ((hF7 9 31 rfl).1)); have f16 := k29; have f17 := t33; have f18 := b39; have f19 := t74; have f20 := j9_31 hJ rfl; have f21 := t2; have f22 := b20; have f23 := t35; have f24 := t46; have f25 := t55; have g2 := rg32 (y66.2.1 0); have g3 := rg32 x83; have z0 : (0 : Int32).toInt = 0 := (by decide); have z1 : (1 : Int32).toInt = 1 := (by decide); omega) c98 (fun q => c109 (b108.trans q)) (by rw [ex115, b114]) ex118)), trivial⟩ (show ((89 : Int) - x147.toInt).toNat < _ from by first | exact t149 | (rw [← eσ67]; exact t149)) _ _ _ hP hS (lv_sub hl [0, 4, 5, 6, 7] rfl)
                        ·
                          have k150 := peq32 c138
                          refine lv_iload hx hb dX9_goesBack_266 (lv_at hl 0 rfl) ?_
                          refine lv_aload_n hx hb dX9_goesBack_268 rfl (lv_at hl 7 rfl) ?_
                          refine g9_36 hx hb hts hown hK hP (hts _ q1396) dX9_goesBack_269 ?_
                          refine lv_iload_n hx hb dX9_goesBack_272 rfl (lv_at hl 4 rfl) ?_
                          obtain ⟨x151, ex151⟩ : ∃ z, (σ67 9).2.2.1 36 x32.toInt.toNat = z := ⟨_, rfl⟩
                          refine l9_36 (x := x151) hx hb hK hP (vpo (by have f0 := t33; have f1 := b20; have f2 := k29; have f3 := t31; have f4 := b9; have f5 := k13; have f6 := t23; have f7 := b40; have f8 := k80; have f9 := t82; have f10 := t92; have f11 := j9_31 hJ19 rfl; have f12 := congrArg Int32.toInt (show ((σ17 9).1 31) = ((σ 9).1 31) from ((hF18 9 31 rfl).1).trans ((hF7 9 31 rfl).1)); have f13 := b39; have f14 := t74; have f15 := t84; have f16 := t94; have f17 := j9_31 hJ rfl; have f18 := t2; have f19 := t35; have f20 := t46; have f21 := t55; have f22 := k90; have f23 := t96; have f24 := b70; have g2 := rg32 x32; have z0 : (0 : Int32).toInt = 0 := (by decide); have z1 : (1 : Int32).toInt = 1 := (by decide); omega)) ((congrFun (((sB_f eσ127) 9 36 rfl).2.2.1) _).trans ex151) dX9_goesBack_273 ?_
                          refine lv_icmp_lt (tgt := 280) hx hb dX9_goesBack_274 (by decide) (fun c152 => ?_) (fun c152 => ?_)
                          ·
                            have k153 := plt32 c152
                            refine lv_aload_n hx hb dX9_goesBack_280 rfl (lv_at hl 7 rfl) ?_
                            refine g9_35 hx hb hts hown hK hP (hts _ q1395) dX9_goesBack_281 ?_
                            refine lv_iload_n hx hb dX9_goesBack_284 rfl (lv_at hl 4 rfl) ?_
                            refine lv_iload hx hb dX9_goesBack_285 (lv_at hl 1 rfl) ?_
                            refine t9_35 hx hb hK hP hD hS (vpo (by have f0 := t33; have f1 := b20; have f2 := k29; have f3 := t31; have f4 := b9; have f5 := k13; have f6 := t23; have f7 := b40; have f8 := k80; have f9 := t82; have f10 := t92; have f11 := j9_31 hJ19 rfl; have f12 := congrArg Int32.toInt (show ((σ17 9).1 31) = ((σ 9).1 31) from ((hF18 9 31 rfl).1).trans ((hF7 9 31 rfl).1)); have f13 := b39; have f14 := t74; have f15 := t84; have f16 := t94; have f17 := j9_31 hJ rfl; have f18 := t2; have f19 := t35; have f20 := t46; have f21 := t55; have f22 := k90; have f23 := t96; have f24 := b70; have g2 := rg32 x32; have z0 : (0 : Int32).toInt = 0 := (by decide); have z1 : (1 : Int32).toInt = 1 := (by decide); omega)) dX9_goesBack_287 (fun H locs σ154 eσ154 hP hS => ?_)
                            have hJ155 : J9 (σ154 9) := hJ128.A eσ154 trivial
                            have T156 : GI (σ154 9) ((y5.2.1 0).toInt.toNat) ((y16.2.1 0).toInt.toNat) := GI.s35 T129 eσ154 (by have f0 := b9; have f1 := k13; have f2 := b20; have f3 := t23; have f4 := k29; have f5 := t31; have f6 := t33; have f7 := b40; have f8 := k80; have f9 := t82; have f10 := t92; have f11 := j9_31 hJ19 rfl; have f12 := congrArg Int32.toInt (show ((σ17 9).1 31) = ((σ 9).1 31) from ((hF18 9 31 rfl).1).trans ((hF7 9 31 rfl).1)); have f13 := b39; have f14 := t74; have f15 := t84; have f16 := t94; have f17 := j9_31 hJ rfl; have f18 := t2; have f19 := t35; have f20 := t46; have f21 := t55; have f22 := k90; have f23 := t96; have f24 := b70; have g2 := rg32 (y16.2.1 0); have g3 := rg32 (y5.2.1 0); have g4 := rg32 x32; have z0 : (0 : Int32).toInt = 0 := (by decide); have z1 : (1 : Int32).toInt = 1 := (by decide); omega) (by have f0 := b9; have f1 := k13; have f2 := b20; have f3 := t23; have f4 := k29; have f5 := t31; have f6 := t33; have f7 := b40; have f8 := k80; have f9 := t82; have f10 := t92; have f11 := j9_31 hJ19 rfl; have f12 := congrArg Int32.toInt (show ((σ17 9).1 31) = ((σ 9).1 31) from ((hF18 9 31 rfl).1).trans ((hF7 9 31 rfl).1)); have f13 := b39; have f14 := t74; have f15 := t84; have f16 := t94; have f17 := j9_31 hJ rfl; have f18 := t2; have f19 := t35; have f20 := t46; have f21 := t55; have f22 := k90; have f23 := t96; have f24 := b70; have g2 := rg32 (y16.2.1 0); have g3 := rg32 (y5.2.1 0); have g4 := rg32 x32; have z0 : (0 : Int32).toInt = 0 := (by decide); have z1 : (1 : Int32).toInt = 1 := (by decide); omega)
                            refine lv_aload_n hx hb dX9_goesBack_288 rfl (lv_at hl 7 rfl) ?_
                            refine g9_36 hx hb hts hown hK hP (hts _ q1396) dX9_goesBack_289 ?_
                            refine lv_iload_n hx hb dX9_goesBack_292 rfl (lv_at hl 4 rfl) ?_
                            refine lv_iload hx hb dX9_goesBack_293 (lv_at hl 0 rfl) ?_
                            refine t9_36 hx hb hK hP hD hS (vpo (by have f0 := t33; have f1 := b20; have f2 := k29; have f3 := t31; have f4 := b9; have f5 := k13; have f6 := t23; have f7 := b40; have f8 := k80; have f9 := t82; have f10 := t92; have f11 := j9_31 hJ19 rfl; have f12 := congrArg Int32.toInt (show ((σ17 9).1 31) = ((σ 9).1 31) from ((hF18 9 31 rfl).1).trans ((hF7 9 31 rfl).1)); have f13 := b39; have f14 := t74; have f15 := t84; have f16 := t94; have f17 := j9_31 hJ rfl; have f18 := t2; have f19 := t35; have f20 := t46; have f21 := t55; have f22 := k90; have f23 := t96; have f24 := b70; have g2 := rg32 x32; have z0 : (0 : Int32).toInt = 0 := (by decide); have z1 : (1 : Int32).toInt = 1 := (by decide); omega)) dX9_goesBack_295 (fun H locs σ158 eσ158 hP hS => ?_)
                            have hJ159 : J9 (σ158 9) := hJ155.A eσ158 trivial
                            have T160 : GI (σ158 9) ((y5.2.1 0).toInt.toNat) ((y16.2.1 0).toInt.toNat) := GI.s36 T156 eσ158 (by have f0 := b9; have f1 := k13; have f2 := b20; have f3 := t23; have f4 := k29; have f5 := t31; have f6 := t33; have f7 := b40; have f8 := k80; have f9 := t82; have f10 := t92; have f11 := j9_31 hJ19 rfl; have f12 := congrArg Int32.toInt (show ((σ17 9).1 31) = ((σ 9).1 31) from ((hF18 9 31 rfl).1).trans ((hF7 9 31 rfl).1)); have f13 := b39; have f14 := t74; have f15 := t84; have f16 := t94; have f17 := j9_31 hJ rfl; have f18 := t2; have f19 := t35; have f20 := t46; have f21 := t55; have f22 := k90; have f23 := t96; have f24 := b70; have g2 := rg32 (y16.2.1 0); have g3 := rg32 (y5.2.1 0); have g4 := rg32 x32; have z0 : (0 : Int32).toInt = 0 := (by decide); have z1 : (1 : Int32).toInt = 1 := (by decide); omega) (by have f0 := b9; have f1 := k13; have f2 := b20; have f3 := t23; have f4 := k29; have f5 := t31; have f6 := t33; have f7 := b40; have f8 := k80; have f9 := t82; have f10 := t92; have f11 := j9_31 hJ19 rfl; have f12 := congrArg Int32.toInt (show ((σ17 9).1 31) = ((σ 9).1 31) from ((hF18 9 31 rfl).1).trans ((hF7 9 31 rfl).1)); have f13 := b39; have f14 := t74; have f15 := t84; have f16 := t94; have f17 := j9_31 hJ rfl; have f18 := t2; have f19 := t35; have f20 := t46; have f21 := t55; have f22 := k90; have f23 := t96; have f24 := b70; have g2 := rg32 (y16.2.1 0); have g3 := rg32 (y5.2.1 0); have g4 := rg32 x32; have z0 : (0 : Int32).toInt = 0 := (by decide); have z1 : (1 : Int32).toInt = 1 := (by decide); omega)
                            obtain ⟨x161, ex161⟩ : ∃ y : Int32, y = (y66.2.1 0) + 1 := ⟨_, rfl⟩
                            have t162 := addO ex161 (by have f0 := b70; have f1 := k90; have f2 := t96; have f3 := t84; have f4 := t94; have f5 := t82; have f6 := t92; have f7 := b9; have f8 := k13; have f9 := t23; have f10 := t31; have f11 := b40; have f12 := k80; have f13 := j9_31 hJ19 rfl; have f14 := congrArg Int32.toInt (show ((σ17 9).1 31) = ((σ 9).1 31) from ((hF18 9 31 rfl).1).trans ((hF7 9 31 rfl).1)); have f15 := k29; have f16 := t33; have f17 := b39; have f18 := t74; have f19 := j9_31 hJ rfl; have f20 := t2; have f21 := b20; have f22 := t35; have f23 := t46; have f24 := t55; have g2 := rg32 (y66.2.1 0); have z0 : (0 : Int32).toInt = 0 := (by decide); have z1 : (1 : Int32).toInt = 1 := (by decide); omega)
                            refine lv_iinc (v := x161) (lv' := [(4, .int x161), (7, .int x118), (6, .int x115), (5, .int x95), (3, .int x32), (2, .int (y16.2.1 0)), (1, .int (y5.2.1 0)), (0, .ref (g 60))]) hx hb dX9_goesBack_296 hl (k := 3) rfl (by rw [ex161]; rfl) (by decide) rfl (fun ls hl => ?_)
                            refine lv_goto (tgt := 103) hx hb dX9_goesBack_299 (by decide) ?_
                            have t163 : ((89 : Int) - x161.toInt).toNat < ((89 : Int) - (y66.2.1 0).toInt).toNat := (by have f0 := b70; have f1 := k90; have f2 := t96; have f3 := t162; have f4 := t84; have f5 := t94; have f6 := t82; have f7 := t92; have f8 := b9; have f9 := k13; have f10 := t23; have f11 := t31; have f12 := b40; have f13 := k80; have f14 := j9_31 hJ19 rfl; have f15 := congrArg Int32.toInt (show ((σ17 9).1 31) = ((σ 9).1 31) from ((hF18 9 31 rfl).1).trans ((hF7 9 31 rfl).1)); have f16 := k29; have f17 := t33; have f18 := b39; have f19 := t74; have f20 := j9_31 hJ rfl; have f21 := t2; have f22 := b20; have f23 := t35; have f24 := t46; have f25 := t55; have g2 := rg32 (y66.2.1 0); have g3 := rg32 x161; have z0 : (0 : Int32).toInt = 0 := (by decide); have z1 : (1 : Int32).toInt = 1 := (by decide); omega)
                            exact nl64 (σ158, lf [x161], lg []) ⟨Fr.tr (Fr.tr (Fr.tr (Fr.tr (Fr.rf) hF68 (fL_sub rfl)) (sB_f eσ127) (fN_L rfl)) (sA_f eσ154) (fN_L rfl)) (sA_f eσ158) (fN_L rfl), hJ159, (show (0 : Int) ≤ (x161 : Int32).toInt ∧ (x161 : Int32).toInt ≤ 88 from (by have f0 := t162; have f1 := b70; have f2 := k90; have f3 := t96; have f4 := t84; have f5 := t94; have f6 := t82; have f7 := t92; have f8 := b9; have f9 := k13; have f10 := t23; have f11 := t31; have f12 := b40; have f13 := k80; have f14 := j9_31 hJ19 rfl; have f15 := congrArg Int32.toInt (show ((σ17 9).1 31) = ((σ 9).1 31) from ((hF18 9 31 rfl).1).trans ((hF7 9 31 rfl).1)); have f16 := k29; have f17 := t33; have f18 := b39; have f19 := t74; have f20 := j9_31 hJ rfl; have f21 := t2; have f22 := b20; have f23 := t35; have f24 := t46; have f25 := t55; have g2 := rg32 x161; have z0 : (0 : Int32).toInt = 0 := (by decide); have z1 : (1 : Int32).toInt = 1 := (by decide); omega)), (show GI (σ158 9) ((y5.2.1 0).toInt.toNat) ((y16.2.1 0).toInt.toNat) from T160), (show CI (σ158 9) ((y5.2.1 0).toInt.toNat) ((y16.2.1 0).toInt.toNat) (x161.toInt.toNat) from (by rw [show x161.toInt.toNat = (y66.2.1 0).toInt.toNat + 1 from (by have f0 := b70; have f1 := k90; have f2 := t96; have f3 := t162; have f4 := t84; have f5 := t94; have f6 := t82; have f7 := t92; have f8 := b9; have f9 := k13; have f10 := t23; have f11 := t31; have f12 := b40; have f13 := k80; have f14 := j9_31 hJ19 rfl; have f15 := congrArg Int32.toInt (show ((σ17 9).1 31) = ((σ 9).1 31) from ((hF18 9 31 rfl).1).trans ((hF7 9 31 rfl).1)); have f16 := k29; have f17 := t33; have f18 := b39; have f19 := t74; have f20 := j9_31 hJ rfl; have f21 := t2; have f22 := b20; have f23 := t35; have f24 := t46; have f25 := t55; have g2 := rg32 (y66.2.1 0); have g3 := rg32 x161; have z0 : (0 : Int32).toInt = 0 := (by decide); have z1 : (1 : Int32).toInt = 1 := (by decide); omega)]; exact CI.put (b := (y66.2.1 0).toInt.toNat) (wm := x83) (xt := x97) (xs := x116) (xo := x117) eσ127 eσ154 eσ158 (by have f0 := b9; have f1 := k13; have f2 := b20; have f3 := t23; have f4 := k29; have f5 := t31; have f6 := t33; have f7 := b40; have f8 := b70; have f9 := k80; have f10 := t82; have f11 := k90; have f12 := t92; have f13 := t96; have f14 := t162; have f15 := j9_31 hJ19 rfl; have f16 := congrArg Int32.toInt (show ((σ17 9).1 31) = ((σ 9).1 31) from ((hF18 9 31 rfl).1).trans ((hF7 9 31 rfl).1)); have f17 := b39; have f18 := t74; have f19 := t84; have f20 := t94; have f21 := j9_31 hJ rfl; have f22 := t2; have f23 := t35; have f24 := t46; have f25 := t55; have g2 := rg32 (y16.2.1 0); have g3 := rg32 (y5.2.1 0); have g4 := rg32 (y66.2.1 0); have g5 := rg32 x32; have g6 := rg32 x95; have z0 : (0 : Int32).toInt = 0 := (by decide); have z1 : (1 : Int32).toInt = 1 := (by decide); omega) (by have f0 := b9; have f1 := k13; have f2 := b20; have f3 := t23; have f4 := k29; have f5 := t31; have f6 := t33; have f7 := b40; have f8 := b70; have f9 := k80; have f10 := t82; have f11 := k90; have f12 := t92; have f13 := t96; have f14 := t162; have f15 := j9_31 hJ19 rfl; have f16 := congrArg Int32.toInt (show ((σ17 9).1 31) = ((σ 9).1 31) from ((hF18 9 31 rfl).1).trans ((hF7 9 31 rfl).1)); have f17 := b39; have f18 := t74; have f19 := t84; have f20 := t94; have f21 := j9_31 hJ rfl; have f22 := t2; have f23 := t35; have f24 := t46; have f25 := t55; have g2 := rg32 (y16.2.1 0); have g3 := rg32 (y5.2.1 0); have g4 := rg32 (y66.2.1 0); have g5 := rg32 x32; have g6 := rg32 x95; have z0 : (0 : Int32).toInt = 0 := (by decide); have z1 : (1 : Int32).toInt = 1 := (by decide); omega) (by have f0 := b9; have f1 := k13; have f2 := b20; have f3 := t23; have f4 := k29; have f5 := t31; have f6 := t33; have f7 := b40; have f8 := b70; have f9 := k80; have f10 := t82; have f11 := k90; have f12 := t92; have f13 := t96; have f14 := t162; have f15 := j9_31 hJ19 rfl; have f16 := congrArg Int32.toInt (show ((σ17 9).1 31) = ((σ 9).1 31) from ((hF18 9 31 rfl).1).trans ((hF7 9 31 rfl).1)); have f17 := b39; have f18 := t74; have f19 := t84; have f20 := t94; have f21 := j9_31 hJ rfl; have f22 := t2; have f23 := t35; have f24 := t46; have f25 := t55; have g2 := rg32 (y16.2.1 0); have g3 := rg32 (y5.2.1 0); have g4 := rg32 (y66.2.1 0); have g5 := rg32 x32; have g6 := rg32 x95; have z0 : (0 : Int32).toInt = 0 := (by decide); have z1 : (1 : Int32).toInt = 1 := (by decide); omega) ex97 ex116 ((congrFun (((hF68 9 27 rfl).2.2.1).trans ((((sB_f eσ60) 9 27 rfl).2.2.1).trans ((((sA_f eσ51) 9 27 rfl).2.2.1).trans ((((sA_f eσ42) 9 27 rfl).2.2.1).trans (((hF18 9 27 rfl).2.2.1).trans ((hF7 9 27 rfl).2.2.1)))))) _).trans ex117) (by rw [show (y5.2.1 0).toInt.toNat + 1 = x81.toInt.toNat from (by have f0 := b9; have f1 := k13; have f2 := t23; have f3 := t31; have f4 := b40; have f5 := k80; have f6 := t82; have f7 := t84; have f8 := t92; have f9 := j9_31 hJ19 rfl; have f10 := congrArg Int32.toInt (show ((σ17 9).1 31) = ((σ 9).1 31) from ((hF18 9 31 rfl).1).trans ((hF7 9 31 rfl).1)); have f11 := k29; have f12 := t33; have f13 := b39; have f14 := t74; have f15 := k90; have f16 := t94; have f17 := j9_31 hJ rfl; have f18 := t2; have f19 := b20; have f20 := t35; have f21 := t46; have f22 := t55; have f23 := b70; have f24 := t96; have f25 := t162; have g2 := rg32 (y5.2.1 0); have g3 := rg32 x81; have z0 : (0 : Int32).toInt = 0 := (by decide); have z1 : (1 : Int32).toInt = 1 := (by decide); omega)]; exact ((congrFun (((hF68 9 24 rfl).2.2.1).trans ((((sB_f eσ60) 9 24 rfl).2.2.1).trans ((((sA_f eσ51) 9 24 rfl).2.2.1).trans ((((sA_f eσ42) 9 24 rfl).2.2.1).trans (((hF18 9 24 rfl).2.2.1).trans ((hF7 9 24 rfl).2.2.1)))))) _).trans ex83)) (by have f0 := b70; have f1 := t84; have f2 := k90; have f3 := t96; have f4 := t162; have f5 := t82; have f6 := t94; have f7 := b9; have f8 := k13; have f9 := t23; have f10 := t31; have f11 := b40; have f12 := k80; have f13 := t92; have f14 := j9_31 hJ19 rfl; have f15 := congrArg Int32.toInt (show ((σ17 9).1 31) = ((σ 9).1 31) from ((hF18 9 31 rfl).1).trans ((hF7 9 31 rfl).1)); have f16 := k29; have f17 := t33; have f18 := b39; have f19 := t74; have f20 := j9_31 hJ rfl; have f21 := t2; have f22 := b20; have f23 := t35; have f24 := t46; have f25 := t55; have g2 := rg32 (y66.2.1 0); have g3 := rg32 x83; have z0 : (0 : Int32).toInt = 0 := (by decide); have z1 : (1 : Int32).toInt = 1 := (by decide); omega) c98 (fun q => c109 (b108.trans q)) (by rw [ex115, b114]) ex118)), trivial⟩ (show ((89 : Int) - x161.toInt).toNat < _ from by first | exact t163 | (rw [← eσ67]; exact t163)) _ _ _ hP hS (lv_sub hl [0, 4, 5, 6, 7] rfl)
                          ·
                            have k164 := nlt32 c152
                            refine lv_goto (tgt := 296) hx hb dX9_goesBack_277 (by decide) ?_
                            obtain ⟨x165, ex165⟩ : ∃ y : Int32, y = (y66.2.1 0) + 1 := ⟨_, rfl⟩
                            have t166 := addO ex165 (by have f0 := b70; have f1 := k90; have f2 := t96; have f3 := t84; have f4 := t94; have f5 := t82; have f6 := t92; have f7 := b9; have f8 := k13; have f9 := t23; have f10 := t31; have f11 := b40; have f12 := k80; have f13 := j9_31 hJ19 rfl; have f14 := congrArg Int32.toInt (show ((σ17 9).1 31) = ((σ 9).1 31) from ((hF18 9 31 rfl).1).trans ((hF7 9 31 rfl).1)); have f15 := k29; have f16 := t33; have f17 := b39; have f18 := t74; have f19 := j9_31 hJ rfl; have f20 := t2; have f21 := b20; have f22 := t35; have f23 := t46; have f24 := t55; have g2 := rg32 (y66.2.1 0); have z0 : (0 : Int32).toInt = 0 := (by decide); have z1 : (1 : Int32).toInt = 1 := (by decide); omega)
                            refine lv_iinc (v := x165) (lv' := [(4, .int x165), (7, .int x118), (6, .int x115), (5, .int x95), (3, .int x32), (2, .int (y16.2.1 0)), (1, .int (y5.2.1 0)), (0, .ref (g 60))]) hx hb dX9_goesBack_296 hl (k := 3) rfl (by rw [ex165]; rfl) (by decide) rfl (fun ls hl => ?_)
                            refine lv_goto (tgt := 103) hx hb dX9_goesBack_299 (by decide) ?_
                            have t167 : ((89 : Int) - x165.toInt).toNat < ((89 : Int) - (y66.2.1 0).toInt).toNat := (by have f0 := b70; have f1 := k90; have f2 := t96; have f3 := t166; have f4 := t84; have f5 := t94; have f6 := t82; have f7 := t92; have f8 := b9; have f9 := k13; have f10 := t23; have f11 := t31; have f12 := b40; have f13 := k80; have f14 := j9_31 hJ19 rfl; have f15 := congrArg Int32.toInt (show ((σ17 9).1 31) = ((σ 9).1 31) from ((hF18 9 31 rfl).1).trans ((hF7 9 31 rfl).1)); have f16 := k29; have f17 := t33; have f18 := b39; have f19 := t74; have f20 := j9_31 hJ rfl; have f21 := t2; have f22 := b20; have f23 := t35; have f24 := t46; have f25 := t55; have g2 := rg32 (y66.2.1 0); have g3 := rg32 x165; have z0 : (0 : Int32).toInt = 0 := (by decide); have z1 : (1 : Int32).toInt = 1 := (by decide); omega)
                            exact nl64 (σ127, lf [x165], lg []) ⟨Fr.tr (Fr.tr (Fr.rf) hF68 (fL_sub rfl)) (sB_f eσ127) (fN_L rfl), hJ128, (show (0 : Int) ≤ (x165 : Int32).toInt ∧ (x165 : Int32).toInt ≤ 88 from (by have f0 := t166; have f1 := b70; have f2 := k90; have f3 := t96; have f4 := t84; have f5 := t94; have f6 := t82; have f7 := t92; have f8 := b9; have f9 := k13; have f10 := t23; have f11 := t31; have f12 := b40; have f13 := k80; have f14 := j9_31 hJ19 rfl; have f15 := congrArg Int32.toInt (show ((σ17 9).1 31) = ((σ 9).1 31) from ((hF18 9 31 rfl).1).trans ((hF7 9 31 rfl).1)); have f16 := k29; have f17 := t33; have f18 := b39; have f19 := t74; have f20 := j9_31 hJ rfl; have f21 := t2; have f22 := b20; have f23 := t35; have f24 := t46; have f25 := t55; have g2 := rg32 x165; have z0 : (0 : Int32).toInt = 0 := (by decide); have z1 : (1 : Int32).toInt = 1 := (by decide); omega)), (show GI (σ127 9) ((y5.2.1 0).toInt.toNat) ((y16.2.1 0).toInt.toNat) from T129), (show CI (σ127 9) ((y5.2.1 0).toInt.toNat) ((y16.2.1 0).toInt.toNat) (x165.toInt.toNat) from CI.stay T130 (by have f0 := b70; have f1 := k90; have f2 := t96; have f3 := t166; have f4 := t84; have f5 := t94; have f6 := t82; have f7 := t92; have f8 := b9; have f9 := k13; have f10 := t23; have f11 := t31; have f12 := b40; have f13 := k80; have f14 := j9_31 hJ19 rfl; have f15 := congrArg Int32.toInt (show ((σ17 9).1 31) = ((σ 9).1 31) from ((hF18 9 31 rfl).1).trans ((hF7 9 31 rfl).1)); have f16 := k29; have f17 := t33; have f18 := b39; have f19 := t74; have f20 := j9_31 hJ rfl; have f21 := t2; have f22 := b20; have f23 := t35; have f24 := t46; have f25 := t55; have g2 := rg32 (y66.2.1 0); have g3 := rg32 x165; have z0 : (0 : Int32).toInt = 0 := (by decide); have z1 : (1 : Int32).toInt = 1 := (by decide); omega)), trivial⟩ (show ((89 : Int) - x165.toInt).toNat < _ from by first | exact t167 | (rw [← eσ67]; exact t167)) _ _ _ hP hS (lv_sub hl [0, 4, 5, 6, 7] rfl)
                    ·
                      intro nj122
                      refine lv_if_le (tgt := 229) hx hb dX9_goesBack_220 (by decide) (fun c168 => ?_) (fun c168 => ?_)
                      ·
                        have k169 := ple64 ((lg_cmp_le x121 (1000000000 : Int64)).mp c168)
                        refine lv_aload_n hx hb dX9_goesBack_229 rfl (lv_at hl 7 rfl) ?_
                        refine g9_37 hx hb hts hown hK hP (hts _ q1397) dX9_goesBack_230 ?_
                        refine lv_iload_n hx hb dX9_goesBack_233 rfl (lv_at hl 4 rfl) ?_
                        refine l9_37 (x := x119) hx hb hK hP (vpo (by have f0 := t33; have f1 := b20; have f2 := k29; have f3 := t31; have f4 := b9; have f5 := k13; have f6 := t23; have f7 := b40; have f8 := k80; have f9 := t82; have f10 := t92; have f11 := j9_31 hJ19 rfl; have f12 := congrArg Int32.toInt (show ((σ17 9).1 31) = ((σ 9).1 31) from ((hF18 9 31 rfl).1).trans ((hF7 9 31 rfl).1)); have f13 := b39; have f14 := t74; have f15 := t84; have f16 := t94; have f17 := j9_31 hJ rfl; have f18 := t2; have f19 := t35; have f20 := t46; have f21 := t55; have f22 := k90; have f23 := t96; have f24 := b70; have g2 := rg32 x32; have z0 : (0 : Int32).toInt = 0 := (by decide); have z1 : (1 : Int32).toInt = 1 := (by decide); omega)) ex119 dX9_goesBack_234 ?_
                        refine lv_aload_n hx hb dX9_goesBack_235 rfl (lv_at hl 7 rfl) ?_
                        refine g9_37 hx hb hts hown hK hP (hts _ q1397) dX9_goesBack_236 ?_
                        refine lv_iload hx hb dX9_goesBack_239 (lv_at hl 2 rfl) ?_
                        refine l9_37 (x := x120) hx hb hK hP (vpo (by have f0 := t96; have f1 := b70; have f2 := k90; have f3 := t94; have f4 := t84; have f5 := t92; have f6 := b9; have f7 := k13; have f8 := t23; have f9 := t31; have f10 := b40; have f11 := k80; have f12 := t82; have f13 := j9_31 hJ19 rfl; have f14 := congrArg Int32.toInt (show ((σ17 9).1 31) = ((σ 9).1 31) from ((hF18 9 31 rfl).1).trans ((hF7 9 31 rfl).1)); have f15 := k29; have f16 := t33; have f17 := b39; have f18 := t74; have f19 := j9_31 hJ rfl; have f20 := t2; have f21 := b20; have f22 := t35; have f23 := t46; have f24 := t55; have g2 := rg32 x95; have z0 : (0 : Int32).toInt = 0 := (by decide); have z1 : (1 : Int32).toInt = 1 := (by decide); omega)) ex120 dX9_goesBack_241 ?_
                        refine lv_ladd hx hb dX9_goesBack_242 ?_
                        refine lv_topl (fun x170 ex170 => ?_)
                        exact nj122 (σ67, lf [], lg [x170]) ⟨rfl, (show GI (σ67 9) ((y5.2.1 0).toInt.toNat) ((y16.2.1 0).toInt.toNat) from b71), (show CI (σ67 9) ((y5.2.1 0).toInt.toNat) ((y16.2.1 0).toInt.toNat) ((y66.2.1 0).toInt.toNat) from b72), trivial⟩ _ _ _ hP hS (lv_sub hl [0, 1, 2, 3, 4, 5, 6, 7] rfl)
                      ·
                        have k171 := nle64 (fun q => c168 ((lg_cmp_le x121 (1000000000 : Int64)).mpr q))
                        refine lv_ldc2 (v := 1000000001) hx hb hown (hts _ q1867) dX9_goesBack_223 ?_
                        refine lv_goto (tgt := 243) hx hb dX9_goesBack_226 (by decide) ?_
                        exact nj122 (σ67, lf [], lg [1000000001]) ⟨rfl, (show GI (σ67 9) ((y5.2.1 0).toInt.toNat) ((y16.2.1 0).toInt.toNat) from b71), (show CI (σ67 9) ((y5.2.1 0).toInt.toNat) ((y16.2.1 0).toInt.toNat) ((y66.2.1 0).toInt.toNat) from b72), trivial⟩ _ _ _ hP hS (lv_sub hl [0, 1, 2, 3, 4, 5, 6, 7] rfl)
                  ·
                    have k172 := peq32 c109
                    refine lv_goto (tgt := 296) hx hb dX9_goesBack_160 (by decide) ?_
                    obtain ⟨x173, ex173⟩ : ∃ y : Int32, y = (y66.2.1 0) + 1 := ⟨_, rfl⟩
                    have t174 := addO ex173 (by have f0 := b70; have f1 := k90; have f2 := t96; have f3 := t84; have f4 := t94; have f5 := t82; have f6 := t92; have f7 := b9; have f8 := k13; have f9 := t23; have f10 := t31; have f11 := b40; have f12 := k80; have f13 := j9_31 hJ19 rfl; have f14 := congrArg Int32.toInt (show ((σ17 9).1 31) = ((σ 9).1 31) from ((hF18 9 31 rfl).1).trans ((hF7 9 31 rfl).1)); have f15 := k29; have f16 := t33; have f17 := b39; have f18 := t74; have f19 := j9_31 hJ rfl; have f20 := t2; have f21 := b20; have f22 := t35; have f23 := t46; have f24 := t55; have g2 := rg32 (y66.2.1 0); have z0 : (0 : Int32).toInt = 0 := (by decide); have z1 : (1 : Int32).toInt = 1 := (by decide); omega)
                    refine lv_iinc (v := x173) (lv' := [(4, .int x173), (5, .int x95), (3, .int x32), (2, .int (y16.2.1 0)), (1, .int (y5.2.1 0)), (0, .ref (g 60))]) hx hb dX9_goesBack_296 hl (k := 1) rfl (by rw [ex173]; rfl) (by decide) rfl (fun ls hl => ?_)
                    refine lv_goto (tgt := 103) hx hb dX9_goesBack_299 (by decide) ?_
                    have t175 : ((89 : Int) - x173.toInt).toNat < ((89 : Int) - (y66.2.1 0).toInt).toNat := (by have f0 := b70; have f1 := k90; have f2 := t96; have f3 := t174; have f4 := t84; have f5 := t94; have f6 := t82; have f7 := t92; have f8 := b9; have f9 := k13; have f10 := t23; have f11 := t31; have f12 := b40; have f13 := k80; have f14 := j9_31 hJ19 rfl; have f15 := congrArg Int32.toInt (show ((σ17 9).1 31) = ((σ 9).1 31) from ((hF18 9 31 rfl).1).trans ((hF7 9 31 rfl).1)); have f16 := k29; have f17 := t33; have f18 := b39; have f19 := t74; have f20 := j9_31 hJ rfl; have f21 := t2; have f22 := b20; have f23 := t35; have f24 := t46; have f25 := t55; have g2 := rg32 (y66.2.1 0); have g3 := rg32 x173; have z0 : (0 : Int32).toInt = 0 := (by decide); have z1 : (1 : Int32).toInt = 1 := (by decide); omega)
                    exact nl64 (σ67, lf [x173], lg []) ⟨Fr.tr (Fr.rf) hF68 (fL_sub rfl), hJ69, (show (0 : Int) ≤ (x173 : Int32).toInt ∧ (x173 : Int32).toInt ≤ 88 from (by have f0 := t174; have f1 := b70; have f2 := k90; have f3 := t96; have f4 := t84; have f5 := t94; have f6 := t82; have f7 := t92; have f8 := b9; have f9 := k13; have f10 := t23; have f11 := t31; have f12 := b40; have f13 := k80; have f14 := j9_31 hJ19 rfl; have f15 := congrArg Int32.toInt (show ((σ17 9).1 31) = ((σ 9).1 31) from ((hF18 9 31 rfl).1).trans ((hF7 9 31 rfl).1)); have f16 := k29; have f17 := t33; have f18 := b39; have f19 := t74; have f20 := j9_31 hJ rfl; have f21 := t2; have f22 := b20; have f23 := t35; have f24 := t46; have f25 := t55; have g2 := rg32 x173; have z0 : (0 : Int32).toInt = 0 := (by decide); have z1 : (1 : Int32).toInt = 1 := (by decide); omega)), (show GI (σ67 9) ((y5.2.1 0).toInt.toNat) ((y16.2.1 0).toInt.toNat) from b71), (show CI (σ67 9) ((y5.2.1 0).toInt.toNat) ((y16.2.1 0).toInt.toNat) (x173.toInt.toNat) from CI.stay b72 (by have f0 := b70; have f1 := k90; have f2 := t96; have f3 := t174; have f4 := t84; have f5 := t94; have f6 := t82; have f7 := t92; have f8 := b9; have f9 := k13; have f10 := t23; have f11 := t31; have f12 := b40; have f13 := k80; have f14 := j9_31 hJ19 rfl; have f15 := congrArg Int32.toInt (show ((σ17 9).1 31) = ((σ 9).1 31) from ((hF18 9 31 rfl).1).trans ((hF7 9 31 rfl).1)); have f16 := k29; have f17 := t33; have f18 := b39; have f19 := t74; have f20 := j9_31 hJ rfl; have f21 := t2; have f22 := b20; have f23 := t35; have f24 := t46; have f25 := t55; have g2 := rg32 (y66.2.1 0); have g3 := rg32 x173; have z0 : (0 : Int32).toInt = 0 := (by decide); have z1 : (1 : Int32).toInt = 1 := (by decide); omega)), trivial⟩ (show ((89 : Int) - x173.toInt).toNat < _ from by first | exact t175 | (rw [← eσ67]; exact t175)) _ _ _ hP hS (lv_sub hl [0, 2, 3, 4, 5] rfl)
          ·
            intro nj56
            refine lv_icmp_ne (tgt := 98) hx hb dX9_goesBack_91 (by decide) (fun c176 => ?_) (fun c176 => ?_)
            ·
              have k177 := neq32 c176
              refine lv_lconst (v := 0) hx hb dX9_goesBack_98 (by decide) ?_
              exact nj56 (σ51, lf [], lg [0]) ⟨rfl, (show GI (σ51 9) ((y5.2.1 0).toInt.toNat) ((y16.2.1 0).toInt.toNat) from T53), trivial⟩ _ _ _ hP hS (lv_sub hl [0, 1, 2, 3] rfl)
            ·
              have k178 := peq32 c176
              refine lv_lconst (v := 1) hx hb dX9_goesBack_94 (by decide) ?_
              refine lv_goto (tgt := 99) hx hb dX9_goesBack_95 (by decide) ?_
              exact nj56 (σ51, lf [], lg [1]) ⟨rfl, (show GI (σ51 9) ((y5.2.1 0).toInt.toNat) ((y16.2.1 0).toInt.toNat) from T53), trivial⟩ _ _ _ hP hS (lv_sub hl [0, 1, 2, 3] rfl)
        ·
          intro nj47
          refine lv_icmp_ne (tgt := 76) hx hb dX9_goesBack_64 (by decide) (fun c179 => ?_) (fun c179 => ?_)
          ·
            have k180 := neq32 c179
            refine lv_ldc (v := 1000000) hx hb hown (hts _ q1604) dX9_goesBack_76 ?_
            exact nj47 (σ42, lf [1000000], lg []) ⟨rfl, (show GI (σ42 9) ((y5.2.1 0).toInt.toNat) ((y16.2.1 0).toInt.toNat) from T44), trivial⟩ _ _ _ hP hS (lv_sub hl [0, 1, 2, 3] rfl)
          ·
            have k181 := peq32 c179
            refine lv_aload_n hx hb dX9_goesBack_67 rfl (lv_at hl 3 rfl) ?_
            refine g9_27 hx hb hts hown hK hP (hts _ q1387) dX9_goesBack_68 ?_
            refine lv_iload_n hx hb dX9_goesBack_71 rfl (lv_at hl 0 rfl) ?_
            obtain ⟨x182, ex182⟩ : ∃ z, (σ 9).2.2.1 27 x32.toInt.toNat = z := ⟨_, rfl⟩
            refine l9_27 (x := x182) hx hb hK hP (vpo (by have f0 := t33; have f1 := b20; have f2 := k29; have f3 := t31; have f4 := b9; have f5 := k13; have f6 := t23; have f7 := b40; have f8 := k181; have f9 := j9_31 hJ19 rfl; have f10 := congrArg Int32.toInt (show ((σ17 9).1 31) = ((σ 9).1 31) from ((hF18 9 31 rfl).1).trans ((hF7 9 31 rfl).1)); have f11 := b39; have f12 := t46; have f13 := j9_31 hJ rfl; have f14 := t2; have f15 := t35; have g2 := rg32 x32; have z0 : (0 : Int32).toInt = 0 := (by decide); have z1 : (1 : Int32).toInt = 1 := (by decide); omega)) ((congrFun ((((sA_f eσ42) 9 27 rfl).2.2.1).trans (((hF18 9 27 rfl).2.2.1).trans ((hF7 9 27 rfl).2.2.1))) _).trans ex182) dX9_goesBack_72 ?_
            refine lv_goto (tgt := 78) hx hb dX9_goesBack_73 (by decide) ?_
            exact nj47 (σ42, lf [x182], lg []) ⟨rfl, (show GI (σ42 9) ((y5.2.1 0).toInt.toNat) ((y16.2.1 0).toInt.toNat) from T44), trivial⟩ _ _ _ hP hS (lv_sub hl [0, 1, 2, 3] rfl)
      ·
        intro nj36
        refine lv_icmp_ne (tgt := 49) hx hb dX9_goesBack_42 (by decide) (fun c183 => ?_) (fun c183 => ?_)
        ·
          have k184 := neq32 c183
          refine lv_ldc (v := 1000000) hx hb hown (hts _ q1604) dX9_goesBack_49 ?_
          exact nj36 (σ17, lf [1000000], lg []) ⟨rfl, (show (0 : Int) ≤ (1000000 : Int32).toInt ∧ (1000000 : Int32).toInt ≤ 1000000 from (by have z1000000 : (1000000 : Int32).toInt = 1000000 := (by decide); omega)), (show (y5.2.1 0).toInt = ((σ17 9).1 31).toInt - 1 ∨ (1000000 : Int32).toInt = 1000000 from (by have f0 := j9_31 hJ19 rfl; have f1 := congrArg Int32.toInt (show ((σ17 9).1 31) = ((σ 9).1 31) from ((hF18 9 31 rfl).1).trans ((hF7 9 31 rfl).1)); have f2 := b9; have f3 := k13; have f4 := t23; have f5 := t31; have f6 := k184; have f7 := j9_31 hJ rfl; have f8 := t2; have f9 := k29; have f10 := t33; have f11 := t35; have f12 := b20; have g2 := rg32 (y5.2.1 0); have z0 : (0 : Int32).toInt = 0 := (by decide); have z1 : (1 : Int32).toInt = 1 := (by decide); have z1000000 : (1000000 : Int32).toInt = 1000000 := (by decide); omega)), (show GI (σ17 9) ((y5.2.1 0).toInt.toNat) ((y16.2.1 0).toInt.toNat) from b21), trivial⟩ _ _ _ hP hS (lv_sub hl [0, 1, 2, 3] rfl)
        ·
          have k185 := peq32 c183
          refine lv_iconst (v := 0) hx hb dX9_goesBack_45 (by decide) ?_
          refine lv_goto (tgt := 51) hx hb dX9_goesBack_46 (by decide) ?_
          exact nj36 (σ17, lf [0], lg []) ⟨rfl, (show (0 : Int) ≤ (0 : Int32).toInt ∧ (0 : Int32).toInt ≤ 1000000 from (by have z0 : (0 : Int32).toInt = 0 := (by decide); omega)), (show (y5.2.1 0).toInt = ((σ17 9).1 31).toInt - 1 ∨ (0 : Int32).toInt = 1000000 from (by have f0 := j9_31 hJ19 rfl; have f1 := congrArg Int32.toInt (show ((σ17 9).1 31) = ((σ 9).1 31) from ((hF18 9 31 rfl).1).trans ((hF7 9 31 rfl).1)); have f2 := b9; have f3 := k13; have f4 := t23; have f5 := t31; have f6 := k185; have f7 := j9_31 hJ rfl; have f8 := t2; have f9 := k29; have f10 := t33; have f11 := t35; have f12 := b20; have g2 := rg32 (y5.2.1 0); have z0 : (0 : Int32).toInt = 0 := (by decide); have z1 : (1 : Int32).toInt = 1 := (by decide); omega)), (show GI (σ17 9) ((y5.2.1 0).toInt.toNat) ((y16.2.1 0).toInt.toNat) from b21), trivial⟩ _ _ _ hP hS (lv_sub hl [0, 1, 2, 3] rfl)

