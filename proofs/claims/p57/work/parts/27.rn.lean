theorem q1639 : Cond.code yX9_line cX9_line 5 none ∈ lw_g := lw_gm (List.mem_of_getElem? (i := 1639) (by decide +kernel)) rfl
theorem q1640 : Cond.constantLong RX9 244 (1481657) ∈ lw_g := lw_gm (List.mem_of_getElem? (i := 1640) (by decide +kernel)) rfl
theorem q1643 : Cond.constantLong RX9 250 (235997865) ∈ lw_g := lw_gm (List.mem_of_getElem? (i := 1643) (by decide +kernel)) rfl
theorem q1644 : Cond.constantLong RX9 252 (316163) ∈ lw_g := lw_gm (List.mem_of_getElem? (i := 1644) (by decide +kernel)) rfl
theorem q1645 : Cond.constantLong RX9 254 (404978) ∈ lw_g := lw_gm (List.mem_of_getElem? (i := 1645) (by decide +kernel)) rfl
theorem q1678 : Cond.methodLink RX9 267 yX9_restLine ∈ lw_g := lw_gm (List.mem_of_getElem? (i := 1678) (by decide +kernel)) rfl
theorem q1680 : Cond.instanceMethod yX9_restLine ∈ lw_g := lw_gm (List.mem_of_getElem? (i := 1680) (by decide +kernel)) rfl
theorem q67 : Cond.selects RX9 yX9_restLine yX9_restLine ∈ lw_g := lw_gm (List.mem_of_getElem? (i := 67) (by decide +kernel)) rfl
theorem q1667 : Cond.methodLink RX9 264 yX9_toneLine ∈ lw_g := lw_gm (List.mem_of_getElem? (i := 1667) (by decide +kernel)) rfl
theorem q1669 : Cond.instanceMethod yX9_toneLine ∈ lw_g := lw_gm (List.mem_of_getElem? (i := 1669) (by decide +kernel)) rfl
theorem q65 : Cond.selects RX9 yX9_toneLine yX9_toneLine ∈ lw_g := lw_gm (List.mem_of_getElem? (i := 65) (by decide +kernel)) rfl
theorem q1660 : Cond.methodLink RX9 261 yX9_playerLine ∈ lw_g := lw_gm (List.mem_of_getElem? (i := 1660) (by decide +kernel)) rfl
theorem q1662 : Cond.instanceMethod yX9_playerLine ∈ lw_g := lw_gm (List.mem_of_getElem? (i := 1662) (by decide +kernel)) rfl
theorem q64 : Cond.selects RX9 yX9_playerLine yX9_playerLine ∈ lw_g := lw_gm (List.mem_of_getElem? (i := 64) (by decide +kernel)) rfl
theorem q1651 : Cond.methodLink RX9 258 yX9_brassLine ∈ lw_g := lw_gm (List.mem_of_getElem? (i := 1651) (by decide +kernel)) rfl
theorem q1653 : Cond.instanceMethod yX9_brassLine ∈ lw_g := lw_gm (List.mem_of_getElem? (i := 1653) (by decide +kernel)) rfl
theorem q63 : Cond.selects RX9 yX9_brassLine yX9_brassLine ∈ lw_g := lw_gm (List.mem_of_getElem? (i := 63) (by decide +kernel)) rfl
theorem q1646 : Cond.constantLong RX9 256 (358472) ∈ lw_g := lw_gm (List.mem_of_getElem? (i := 1646) (by decide +kernel)) rfl
theorem q1641 : Cond.constantLong RX9 246 (168899) ∈ lw_g := lw_gm (List.mem_of_getElem? (i := 1641) (by decide +kernel)) rfl
theorem q1642 : Cond.constantLong RX9 248 (10340249) ∈ lw_g := lw_gm (List.mem_of_getElem? (i := 1642) (by decide +kernel)) rfl
theorem dX9_line_0 : decode cX9_line 0 = .ok (.aload_n 0, 1) := by decide +kernel
theorem dX9_line_1 : decode cX9_line 1 = .ok (.ldc2_w 244, 3) := by decide +kernel
theorem dX9_line_4 : decode cX9_line 4 = .ok (.invokevirtual 187, 3) := by decide +kernel
theorem dX9_line_7 : decode cX9_line 7 = .ok (.ifCond .eq 7, 3) := by decide +kernel
theorem dX9_line_10 : decode cX9_line 10 = .ok (.iconst 0, 1) := by decide +kernel
theorem dX9_line_11 : decode cX9_line 11 = .ok (.goto 32, 3) := by decide +kernel
theorem dX9_line_14 : decode cX9_line 14 = .ok (.aload_n 0, 1) := by decide +kernel
theorem dX9_line_15 : decode cX9_line 15 = .ok (.ldc2_w 246, 3) := by decide +kernel
theorem dX9_line_18 : decode cX9_line 18 = .ok (.invokevirtual 187, 3) := by decide +kernel
theorem dX9_line_21 : decode cX9_line 21 = .ok (.ifCond .eq 7, 3) := by decide +kernel
theorem dX9_line_24 : decode cX9_line 24 = .ok (.iconst 1, 1) := by decide +kernel
theorem dX9_line_25 : decode cX9_line 25 = .ok (.goto 18, 3) := by decide +kernel
theorem dX9_line_28 : decode cX9_line 28 = .ok (.aload_n 0, 1) := by decide +kernel
theorem dX9_line_29 : decode cX9_line 29 = .ok (.ldc2_w 248, 3) := by decide +kernel
theorem dX9_line_32 : decode cX9_line 32 = .ok (.invokevirtual 187, 3) := by decide +kernel
theorem dX9_line_35 : decode cX9_line 35 = .ok (.ifCond .eq 7, 3) := by decide +kernel
theorem dX9_line_38 : decode cX9_line 38 = .ok (.iconst 2, 1) := by decide +kernel
theorem dX9_line_39 : decode cX9_line 39 = .ok (.goto 4, 3) := by decide +kernel
theorem dX9_line_42 : decode cX9_line 42 = .ok (.iconst (-1), 1) := by decide +kernel
theorem dX9_line_43 : decode cX9_line 43 = .ok (.istore_n 1, 1) := by decide +kernel
theorem dX9_line_44 : decode cX9_line 44 = .ok (.aload_n 0, 1) := by decide +kernel
theorem dX9_line_45 : decode cX9_line 45 = .ok (.ldc2_w 250, 3) := by decide +kernel
theorem dX9_line_48 : decode cX9_line 48 = .ok (.invokevirtual 187, 3) := by decide +kernel
theorem dX9_line_51 : decode cX9_line 51 = .ok (.istore_n 2, 1) := by decide +kernel
theorem dX9_line_52 : decode cX9_line 52 = .ok (.aload_n 0, 1) := by decide +kernel
theorem dX9_line_53 : decode cX9_line 53 = .ok (.ldc2_w 252, 3) := by decide +kernel
theorem dX9_line_56 : decode cX9_line 56 = .ok (.invokevirtual 187, 3) := by decide +kernel
theorem dX9_line_59 : decode cX9_line 59 = .ok (.istore_n 3, 1) := by decide +kernel
theorem dX9_line_60 : decode cX9_line 60 = .ok (.aload_n 0, 1) := by decide +kernel
theorem dX9_line_61 : decode cX9_line 61 = .ok (.ldc2_w 254, 3) := by decide +kernel
theorem dX9_line_64 : decode cX9_line 64 = .ok (.invokevirtual 187, 3) := by decide +kernel
theorem dX9_line_67 : decode cX9_line 67 = .ok (.istore 4, 2) := by decide +kernel
theorem dX9_line_69 : decode cX9_line 69 = .ok (.iload_n 1, 1) := by decide +kernel
theorem dX9_line_70 : decode cX9_line 70 = .ok (.iconst (-1), 1) := by decide +kernel
theorem dX9_line_71 : decode cX9_line 71 = .ok (.if_icmp .ne 31, 3) := by decide +kernel
theorem dX9_line_74 : decode cX9_line 74 = .ok (.iload_n 2, 1) := by decide +kernel
theorem dX9_line_75 : decode cX9_line 75 = .ok (.ifCond .ne 27, 3) := by decide +kernel
theorem dX9_line_78 : decode cX9_line 78 = .ok (.iload_n 3, 1) := by decide +kernel
theorem dX9_line_79 : decode cX9_line 79 = .ok (.ifCond .ne 23, 3) := by decide +kernel
theorem dX9_line_82 : decode cX9_line 82 = .ok (.iload 4, 2) := by decide +kernel
theorem dX9_line_84 : decode cX9_line 84 = .ok (.ifCond .ne 18, 3) := by decide +kernel
theorem dX9_line_87 : decode cX9_line 87 = .ok (.aload_n 0, 1) := by decide +kernel
theorem dX9_line_88 : decode cX9_line 88 = .ok (.ldc2_w 256, 3) := by decide +kernel
theorem dX9_line_91 : decode cX9_line 91 = .ok (.invokevirtual 187, 3) := by decide +kernel
theorem dX9_line_94 : decode cX9_line 94 = .ok (.ifCond .ne 8, 3) := by decide +kernel
theorem dX9_line_97 : decode cX9_line 97 = .ok (.aload_n 0, 1) := by decide +kernel
theorem dX9_line_98 : decode cX9_line 98 = .ok (.iconst 1, 1) := by decide +kernel
theorem dX9_line_99 : decode cX9_line 99 = .ok (.invokevirtual 197, 3) := by decide +kernel
theorem dX9_line_102 : decode cX9_line 102 = .ok (.aload_n 0, 1) := by decide +kernel
theorem dX9_line_103 : decode cX9_line 103 = .ok (.getfield 181, 3) := by decide +kernel
theorem dX9_line_106 : decode cX9_line 106 = .ok (.ifCond .eq 4, 3) := by decide +kernel
theorem dX9_line_109 : decode cX9_line 109 = .ok (.return_, 1) := by decide +kernel
theorem dX9_line_110 : decode cX9_line 110 = .ok (.iload_n 1, 1) := by decide +kernel
theorem dX9_line_111 : decode cX9_line 111 = .ok (.iconst (-1), 1) := by decide +kernel
theorem dX9_line_112 : decode cX9_line 112 = .ok (.if_icmp .ne 55, 3) := by decide +kernel
theorem dX9_line_115 : decode cX9_line 115 = .ok (.iload_n 2, 1) := by decide +kernel
theorem dX9_line_116 : decode cX9_line 116 = .ok (.ifCond .ne 51, 3) := by decide +kernel
theorem dX9_line_119 : decode cX9_line 119 = .ok (.iload_n 3, 1) := by decide +kernel
theorem dX9_line_120 : decode cX9_line 120 = .ok (.ifCond .ne 47, 3) := by decide +kernel
theorem dX9_line_123 : decode cX9_line 123 = .ok (.aload_n 0, 1) := by decide +kernel
theorem dX9_line_124 : decode cX9_line 124 = .ok (.iconst 4, 1) := by decide +kernel
theorem dX9_line_125 : decode cX9_line 125 = .ok (.invokevirtual 211, 3) := by decide +kernel
theorem dX9_line_128 : decode cX9_line 128 = .ok (.ifCond .ne 11, 3) := by decide +kernel
theorem dX9_line_131 : decode cX9_line 131 = .ok (.aload_n 0, 1) := by decide +kernel
theorem dX9_line_132 : decode cX9_line 132 = .ok (.iconst 1, 1) := by decide +kernel
theorem dX9_line_133 : decode cX9_line 133 = .ok (.invokevirtual 197, 3) := by decide +kernel
theorem dX9_line_136 : decode cX9_line 136 = .ok (.goto 77, 3) := by decide +kernel
theorem dX9_line_139 : decode cX9_line 139 = .ok (.aload_n 0, 1) := by decide +kernel
theorem dX9_line_140 : decode cX9_line 140 = .ok (.getfield 43, 3) := by decide +kernel
theorem dX9_line_143 : decode cX9_line 143 = .ok (.bipush 12, 2) := by decide +kernel
theorem dX9_line_145 : decode cX9_line 145 = .ok (.aload_n 0, 1) := by decide +kernel
theorem dX9_line_146 : decode cX9_line 146 = .ok (.iconst 4, 1) := by decide +kernel
theorem dX9_line_147 : decode cX9_line 147 = .ok (.invokevirtual 211, 3) := by decide +kernel
theorem dX9_line_150 : decode cX9_line 150 = .ok (.iadd, 1) := by decide +kernel
theorem dX9_line_151 : decode cX9_line 151 = .ok (.iconst 1, 1) := by decide +kernel
theorem dX9_line_152 : decode cX9_line 152 = .ok (.isub, 1) := by decide +kernel
theorem dX9_line_153 : decode cX9_line 153 = .ok (.iaload, 1) := by decide +kernel
theorem dX9_line_154 : decode cX9_line 154 = .ok (.bipush 16, 2) := by decide +kernel
theorem dX9_line_156 : decode cX9_line 156 = .ok (.if_icmp .ne 57, 3) := by decide +kernel
theorem dX9_line_159 : decode cX9_line 159 = .ok (.aload_n 0, 1) := by decide +kernel
theorem dX9_line_160 : decode cX9_line 160 = .ok (.iconst 3, 1) := by decide +kernel
theorem dX9_line_161 : decode cX9_line 161 = .ok (.invokevirtual 197, 3) := by decide +kernel
theorem dX9_line_164 : decode cX9_line 164 = .ok (.goto 49, 3) := by decide +kernel
theorem dX9_line_167 : decode cX9_line 167 = .ok (.iload_n 1, 1) := by decide +kernel
theorem dX9_line_168 : decode cX9_line 168 = .ok (.iconst (-1), 1) := by decide +kernel
theorem dX9_line_169 : decode cX9_line 169 = .ok (.if_icmp .eq 12, 3) := by decide +kernel
theorem dX9_line_172 : decode cX9_line 172 = .ok (.aload_n 0, 1) := by decide +kernel
theorem dX9_line_173 : decode cX9_line 173 = .ok (.iconst 2, 1) := by decide +kernel
theorem dX9_line_174 : decode cX9_line 174 = .ok (.invokevirtual 211, 3) := by decide +kernel
theorem dX9_line_177 : decode cX9_line 177 = .ok (.iconst 4, 1) := by decide +kernel
theorem dX9_line_178 : decode cX9_line 178 = .ok (.if_icmp .eq 30, 3) := by decide +kernel
theorem dX9_line_181 : decode cX9_line 181 = .ok (.iload_n 2, 1) := by decide +kernel
theorem dX9_line_182 : decode cX9_line 182 = .ok (.ifCond .eq 13, 3) := by decide +kernel
theorem dX9_line_185 : decode cX9_line 185 = .ok (.aload_n 0, 1) := by decide +kernel
theorem dX9_line_186 : decode cX9_line 186 = .ok (.iconst 3, 1) := by decide +kernel
theorem dX9_line_187 : decode cX9_line 187 = .ok (.invokevirtual 211, 3) := by decide +kernel
theorem dX9_line_190 : decode cX9_line 190 = .ok (.bipush 9, 2) := by decide +kernel
theorem dX9_line_192 : decode cX9_line 192 = .ok (.if_icmp .eq 16, 3) := by decide +kernel
theorem dX9_line_195 : decode cX9_line 195 = .ok (.iload_n 3, 1) := by decide +kernel
theorem dX9_line_196 : decode cX9_line 196 = .ok (.ifCond .eq 17, 3) := by decide +kernel
theorem dX9_line_199 : decode cX9_line 199 = .ok (.aload_n 0, 1) := by decide +kernel
theorem dX9_line_200 : decode cX9_line 200 = .ok (.iconst 4, 1) := by decide +kernel
theorem dX9_line_201 : decode cX9_line 201 = .ok (.invokevirtual 211, 3) := by decide +kernel
theorem dX9_line_204 : decode cX9_line 204 = .ok (.iconst 3, 1) := by decide +kernel
theorem dX9_line_205 : decode cX9_line 205 = .ok (.if_icmp .ne 8, 3) := by decide +kernel
theorem dX9_line_208 : decode cX9_line 208 = .ok (.aload_n 0, 1) := by decide +kernel
theorem dX9_line_209 : decode cX9_line 209 = .ok (.iconst 3, 1) := by decide +kernel
theorem dX9_line_210 : decode cX9_line 210 = .ok (.invokevirtual 197, 3) := by decide +kernel
theorem dX9_line_213 : decode cX9_line 213 = .ok (.aload_n 0, 1) := by decide +kernel
theorem dX9_line_214 : decode cX9_line 214 = .ok (.getfield 181, 3) := by decide +kernel
theorem dX9_line_217 : decode cX9_line 217 = .ok (.ifCond .eq 4, 3) := by decide +kernel
theorem dX9_line_220 : decode cX9_line 220 = .ok (.return_, 1) := by decide +kernel
theorem dX9_line_221 : decode cX9_line 221 = .ok (.aload_n 0, 1) := by decide +kernel
theorem dX9_line_222 : decode cX9_line 222 = .ok (.invokevirtual 191, 3) := by decide +kernel
theorem dX9_line_225 : decode cX9_line 225 = .ok (.iload_n 1, 1) := by decide +kernel
theorem dX9_line_226 : decode cX9_line 226 = .ok (.iconst (-1), 1) := by decide +kernel
theorem dX9_line_227 : decode cX9_line 227 = .ok (.if_icmp .eq 11, 3) := by decide +kernel
theorem dX9_line_230 : decode cX9_line 230 = .ok (.aload_n 0, 1) := by decide +kernel
theorem dX9_line_231 : decode cX9_line 231 = .ok (.iload_n 1, 1) := by decide +kernel
theorem dX9_line_232 : decode cX9_line 232 = .ok (.invokevirtual 258, 3) := by decide +kernel
theorem dX9_line_235 : decode cX9_line 235 = .ok (.goto 62, 3) := by decide +kernel
theorem dX9_line_238 : decode cX9_line 238 = .ok (.iload_n 2, 1) := by decide +kernel
theorem dX9_line_239 : decode cX9_line 239 = .ok (.ifCond .eq 10, 3) := by decide +kernel
theorem dX9_line_242 : decode cX9_line 242 = .ok (.aload_n 0, 1) := by decide +kernel
theorem dX9_line_243 : decode cX9_line 243 = .ok (.invokevirtual 261, 3) := by decide +kernel
theorem dX9_line_246 : decode cX9_line 246 = .ok (.goto 51, 3) := by decide +kernel
theorem dX9_line_249 : decode cX9_line 249 = .ok (.iload_n 3, 1) := by decide +kernel
theorem dX9_line_250 : decode cX9_line 250 = .ok (.ifCond .eq 31, 3) := by decide +kernel
theorem dX9_line_253 : decode cX9_line 253 = .ok (.aload_n 0, 1) := by decide +kernel
theorem dX9_line_254 : decode cX9_line 254 = .ok (.getfield 43, 3) := by decide +kernel
theorem dX9_line_257 : decode cX9_line 257 = .ok (.bipush 12, 2) := by decide +kernel
theorem dX9_line_259 : decode cX9_line 259 = .ok (.aload_n 0, 1) := by decide +kernel
theorem dX9_line_260 : decode cX9_line 260 = .ok (.iconst 4, 1) := by decide +kernel
theorem dX9_line_261 : decode cX9_line 261 = .ok (.invokevirtual 211, 3) := by decide +kernel
theorem dX9_line_264 : decode cX9_line 264 = .ok (.iadd, 1) := by decide +kernel
theorem dX9_line_265 : decode cX9_line 265 = .ok (.iconst 0, 1) := by decide +kernel
theorem dX9_line_266 : decode cX9_line 266 = .ok (.iastore, 1) := by decide +kernel
theorem dX9_line_267 : decode cX9_line 267 = .ok (.aload_n 0, 1) := by decide +kernel
theorem dX9_line_268 : decode cX9_line 268 = .ok (.getfield 34, 3) := by decide +kernel
theorem dX9_line_271 : decode cX9_line 271 = .ok (.bipush 24, 2) := by decide +kernel
theorem dX9_line_273 : decode cX9_line 273 = .ok (.dup2, 1) := by decide +kernel
theorem dX9_line_274 : decode cX9_line 274 = .ok (.iaload, 1) := by decide +kernel
theorem dX9_line_275 : decode cX9_line 275 = .ok (.iconst 1, 1) := by decide +kernel
theorem dX9_line_276 : decode cX9_line 276 = .ok (.iadd, 1) := by decide +kernel
theorem dX9_line_277 : decode cX9_line 277 = .ok (.iastore, 1) := by decide +kernel
theorem dX9_line_278 : decode cX9_line 278 = .ok (.goto 19, 3) := by decide +kernel
theorem dX9_line_281 : decode cX9_line 281 = .ok (.iload 4, 2) := by decide +kernel
theorem dX9_line_283 : decode cX9_line 283 = .ok (.ifCond .eq 10, 3) := by decide +kernel
theorem dX9_line_286 : decode cX9_line 286 = .ok (.aload_n 0, 1) := by decide +kernel
theorem dX9_line_287 : decode cX9_line 287 = .ok (.invokevirtual 264, 3) := by decide +kernel
theorem dX9_line_290 : decode cX9_line 290 = .ok (.goto 7, 3) := by decide +kernel
theorem dX9_line_293 : decode cX9_line 293 = .ok (.aload_n 0, 1) := by decide +kernel
theorem dX9_line_294 : decode cX9_line 294 = .ok (.invokevirtual 267, 3) := by decide +kernel
theorem dX9_line_297 : decode cX9_line 297 = .ok (.return_, 1) := by decide +kernel
set_option maxHeartbeats 4000000 in
set_option maxRecDepth 100000 in
theorem m_X9_line (l : Launch) (D : va_G) (cy : Nat → ClassId) (g : Nat → Nat) (σ : ST)  (sz : Nat) (hJ : J9 (σ 9)) (kRD : RD (σ 9)) (kDKA : DKA (σ 9)) (h0 : ((σ 9).1 7).toInt ≤ ((σ 9).1 6).toInt) : Met l yX9_line (ww yX9_line cX9_line 5 none) ({ frames := 7, cells := 0, slots := 0, locals := 448 }) (va_Pc [.ref (g 60)] (pr9 D cy g σ sz)) (qv9 D cy g sz (fun τ => Fr (fL [7, 8, 9, 10, 11, 12, 13, 17, 18, 19, 20, 21]) σ τ ∧ J9 (τ 9) ∧ RD (τ 9) ∧ DKA (τ 9) ∧ (((σ 9).1 7).toInt ≤ ((τ 9).1 7).toInt ∧ ((τ 9).1 7).toInt ≤ ((τ 9).1 6).toInt) ∧ (ph ((σ 9).1 7) ((σ 9).1 8) ≤ ph ((τ 9).1 7) ((τ 9).1 8)) ∧ (¬ ((τ 9).1 12).toInt = 0 ∨ ((σ 9).1 12).toInt = 0) ∧ True)) 0 0 (A9 cy g sz) := by
  refine Met.ofW (cc := cX9_line) (maxL := 5) (ret := none) (by decide) rfl ?_
  intro p e s m args below meth c s₁ B hml hv
  obtain ⟨rfl, hsz, hP, hK, hD0, hC⟩ := hv
  have hx := B.exec
  have hb := B.bytes
  have hr := B.returns
  have hts := hts_g (atoms_spec (ws := ww yX9_line cX9_line 5 none) B.pre)
  have hown : s.vm.findClass RX9 = some m.cls := findClass_of_methodNamed B.named
  have hlocks := B.notSynchronized
  clear B
  subst hsz
  have hD := fun τ => A9_D (sz := s.heap.size) hD0 τ
  clear hD0
  have hS : va_S (A9 cy g s.heap.size) s.heap s.heap [] := va_S.rf
  have hl := lv_entry ([.ref (g 60)]) (n := 5) (Nat.le_of_ble_eq_true rfl)
  rw [lg_entry_eq]
  generalize (lg_sl ([.ref (g 60)]) ++ List.replicate (5 - (lg_sl ([.ref (g 60)])).length) Slot.unset).toArray = ls at hl ⊢
  have hl : lv_has ls 5 [(0, .ref (g 60))] := hl
  refine lv_aload_n hx hb dX9_line_0 rfl (lv_at hl 0 rfl) ?_
  refine lv_ldc2 (v := 1481657) hx hb hown (hts _ q1640) dX9_line_1 ?_
  refine va_calli (va_runV (As := [.long 1481657]) (rest := []) ⟨hx, hb, hml, hown, hts⟩ (m_X9_is l D cy g σ (1481657) _ hJ ) (cwV 1 hts (gd_V q1618 q1620 q57 q134 q1621) rfl rfl rfl (by decide +kernel) ⟨Nat.le_of_ble_eq_true rfl, Nat.le_of_ble_eq_true rfl⟩) (pv9 hP hK hD hC hS (va_recv hK hP (ci := 9) (q0 := 0) rfl rfl)) rfl rfl hl.1 rfl (lv_room (Nat.le_of_ble_eq_true rfl)) dX9_line_4 ⟨Nat.le_of_ble_eq_true rfl, Nat.le_of_ble_eq_true rfl⟩) hS (fun q _ h => up9 hS q h) (up9 hS) (fun r1 σ2 tS H1 locs ht hvm hw3 hB hz1 hk1 hS => ?_)
  have hP : va_P D clz (WD9 cy g σ2) H1 := by rw [← ht]; exact hB
  clear hB hz1 hk1 hvm ht
  generalize H1 = H at hP hS ⊢
  have hw3E : σ = σ2 := (hw3.1).symm
  subst hw3E
  have b4 : (0 : Int) ≤ r1.toInt ∧ r1.toInt ≤ 1 := hw3.2.1
  refine cut9 (D := D) (cy := cy) (g := g) (A := A9 cy g s.heap.size) (H0 := s.heap) 5 43 (fun x : LZ => [(0, .ref (g 60))]) (fun x : LZ => [.int (x.2.1 0)]) (fun x : LZ => (x.1 = σ) ∧ ((-1 : Int) ≤ (x.2.1 0).toInt ∧ (x.2.1 0).toInt ≤ 2) ∧ (RD (σ 9)) ∧ (DKA (σ 9)) ∧ True) ?_ ?_
  ·
    intro y7 hI6 H locs ls hP hS hl
    rw [show y7.1 = σ from hI6.1] at hP
    have b8 : (-1 : Int) ≤ (y7.2.1 0).toInt ∧ (y7.2.1 0).toInt ≤ 2 := hI6.2.1
    have b9 : RD (σ 9) := hI6.2.2.1
    have b10 : DKA (σ 9) := hI6.2.2.2.1
    have hl : lv_has ls 5 [(0, .ref (g 60))] := hl
    refine W.eq (g2 := F0 m 43 ls [.int (y7.2.1 0)]) rfl ?_
    refine lv_istore_n (lv' := [(1, .int (y7.2.1 0)), (0, .ref (g 60))]) hx hb dX9_line_43 rfl hl (by decide) rfl (fun ls hl => ?_)
    refine lv_aload_n hx hb dX9_line_44 rfl (lv_at hl 1 rfl) ?_
    refine lv_ldc2 (v := 235997865) hx hb hown (hts _ q1643) dX9_line_45 ?_
    refine va_calli (va_runV (As := [.long 235997865]) (rest := []) ⟨hx, hb, hml, hown, hts⟩ (m_X9_is l D cy g σ (235997865) _ hJ ) (cwV 1 hts (gd_V q1618 q1620 q57 q134 q1621) rfl rfl rfl (by decide +kernel) ⟨Nat.le_of_ble_eq_true rfl, Nat.le_of_ble_eq_true rfl⟩) (pv9 hP hK hD hC hS (va_recv hK hP (ci := 9) (q0 := 0) rfl rfl)) rfl rfl hl.1 rfl (lv_room (Nat.le_of_ble_eq_true rfl)) dX9_line_48 ⟨Nat.le_of_ble_eq_true rfl, Nat.le_of_ble_eq_true rfl⟩) hS (fun q _ h => up9 hS q h) (up9 hS) (fun r11 σ12 tS H1 locs ht hvm hw13 hB hz1 hk1 hS => ?_)
    have hP : va_P D clz (WD9 cy g σ12) H1 := by rw [← ht]; exact hB
    clear hB hz1 hk1 hvm ht
    generalize H1 = H at hP hS ⊢
    have hw13E : σ = σ12 := (hw13.1).symm
    subst hw13E
    have b14 : (0 : Int) ≤ r11.toInt ∧ r11.toInt ≤ 1 := hw13.2.1
    refine lv_istore_n (lv' := [(2, .int r11), (1, .int (y7.2.1 0)), (0, .ref (g 60))]) hx hb dX9_line_51 rfl hl (by decide) rfl (fun ls hl => ?_)
    refine lv_aload_n hx hb dX9_line_52 rfl (lv_at hl 2 rfl) ?_
    refine lv_ldc2 (v := 316163) hx hb hown (hts _ q1644) dX9_line_53 ?_
    refine va_calli (va_runV (As := [.long 316163]) (rest := []) ⟨hx, hb, hml, hown, hts⟩ (m_X9_is l D cy g σ (316163) _ hJ ) (cwV 1 hts (gd_V q1618 q1620 q57 q134 q1621) rfl rfl rfl (by decide +kernel) ⟨Nat.le_of_ble_eq_true rfl, Nat.le_of_ble_eq_true rfl⟩) (pv9 hP hK hD hC hS (va_recv hK hP (ci := 9) (q0 := 0) rfl rfl)) rfl rfl hl.1 rfl (lv_room (Nat.le_of_ble_eq_true rfl)) dX9_line_56 ⟨Nat.le_of_ble_eq_true rfl, Nat.le_of_ble_eq_true rfl⟩) hS (fun q _ h => up9 hS q h) (up9 hS) (fun r15 σ16 tS H1 locs ht hvm hw17 hB hz1 hk1 hS => ?_)
    have hP : va_P D clz (WD9 cy g σ16) H1 := by rw [← ht]; exact hB
    clear hB hz1 hk1 hvm ht
    generalize H1 = H at hP hS ⊢
    have hw17E : σ = σ16 := (hw17.1).symm
    subst hw17E
    have b18 : (0 : Int) ≤ r15.toInt ∧ r15.toInt ≤ 1 := hw17.2.1
    refine lv_istore_n (lv' := [(3, .int r15), (2, .int r11), (1, .int (y7.2.1 0)), (0, .ref (g 60))]) hx hb dX9_line_59 rfl hl (by decide) rfl (fun ls hl => ?_)
    refine lv_aload_n hx hb dX9_line_60 rfl (lv_at hl 3 rfl) ?_
    refine lv_ldc2 (v := 404978) hx hb hown (hts _ q1645) dX9_line_61 ?_
    refine va_calli (va_runV (As := [.long 404978]) (rest := []) ⟨hx, hb, hml, hown, hts⟩ (m_X9_is l D cy g σ (404978) _ hJ ) (cwV 1 hts (gd_V q1618 q1620 q57 q134 q1621) rfl rfl rfl (by decide +kernel) ⟨Nat.le_of_ble_eq_true rfl, Nat.le_of_ble_eq_true rfl⟩) (pv9 hP hK hD hC hS (va_recv hK hP (ci := 9) (q0 := 0) rfl rfl)) rfl rfl hl.1 rfl (lv_room (Nat.le_of_ble_eq_true rfl)) dX9_line_64 ⟨Nat.le_of_ble_eq_true rfl, Nat.le_of_ble_eq_true rfl⟩) hS (fun q _ h => up9 hS q h) (up9 hS) (fun r19 σ20 tS H1 locs ht hvm hw21 hB hz1 hk1 hS => ?_)
    have hP : va_P D clz (WD9 cy g σ20) H1 := by rw [← ht]; exact hB
    clear hB hz1 hk1 hvm ht
    generalize H1 = H at hP hS ⊢
    have hw21E : σ = σ20 := (hw21.1).symm
    subst hw21E
    have b22 : (0 : Int) ≤ r19.toInt ∧ r19.toInt ≤ 1 := hw21.2.1
    refine lv_istore (lv' := [(4, .int r19), (3, .int r15), (2, .int r11), (1, .int (y7.2.1 0)), (0, .ref (g 60))]) hx hb dX9_line_67 hl (by decide) rfl (fun ls hl => ?_)
    refine lv_iload_n hx hb dX9_line_69 rfl (lv_at hl 3 rfl) ?_
    refine lv_iconst (v := (-1)) hx hb dX9_line_70 (by decide) ?_
    refine cut9 (D := D) (cy := cy) (g := g) (A := A9 cy g s.heap.size) (H0 := s.heap) 5 102 (fun x : LZ => [(4, .int r19), (3, .int r15), (2, .int r11), (1, .int (y7.2.1 0)), (0, .ref (g 60))]) (fun x : LZ => []) (fun x : LZ => (Fr (fL [12, 13]) σ x.1) ∧ (J9 (x.1 9)) ∧ (¬ ((x.1 9).1 12).toInt = 0 ∨ ((σ 9).1 12).toInt = 0) ∧ (RD (x.1 9)) ∧ (DKA (x.1 9)) ∧ True) ?_ ?_
    ·
      intro y25 hI24 H locs ls hP hS hl
      obtain ⟨σ26, eσ26⟩ : ∃ z, z = y25.1 := ⟨_, rfl⟩
      rw [← eσ26] at hP hI24
      have hF27 : Fr (fL [12, 13]) σ σ26 := hI24.1
      have hJ28 : J9 (σ26 9) := hI24.2.1
      have b29 : ¬ ((σ26 9).1 12).toInt = 0 ∨ ((σ 9).1 12).toInt = 0 := hI24.2.2.1
      have b30 : RD (σ26 9) := hI24.2.2.2.1
      have b31 : DKA (σ26 9) := hI24.2.2.2.2.1
      have hl : lv_has ls 5 [(4, .int r19), (3, .int r15), (2, .int r11), (1, .int (y7.2.1 0)), (0, .ref (g 60))] := hl
      refine lv_aload_n hx hb dX9_line_102 rfl (lv_at hl 4 rfl) ?_
      refine g9_12 (x := ((σ26 9).1 12)) hx hb hts hown hK hP (rfl) (hts _ q1372) dX9_line_103 ?_
      refine lv_if_eq (tgt := 110) hx hb dX9_line_106 (by decide) (fun c32 => ?_) (fun c32 => ?_)
      ·
        have k33 := peq32 c32
        refine lv_iload_n hx hb dX9_line_110 rfl (lv_at hl 3 rfl) ?_
        refine lv_iconst (v := (-1)) hx hb dX9_line_111 (by decide) ?_
        refine cut9 (D := D) (cy := cy) (g := g) (A := A9 cy g s.heap.size) (H0 := s.heap) 5 213 (fun x : LZ => [(4, .int r19), (3, .int r15), (2, .int r11), (1, .int (y7.2.1 0)), (0, .ref (g 60))]) (fun x : LZ => []) (fun x : LZ => (Fr (fL [12, 13]) σ26 x.1) ∧ (J9 (x.1 9)) ∧ (¬ ((x.1 9).1 12).toInt = 0 ∨ ((¬ (y7.2.1 0).toInt = -1 → ((σ 9).2.2.1 17 22).toInt ≤ 3) ∧ (¬ r11.toInt = 0 → ((σ 9).2.2.1 17 23).toInt ≤ 8) ∧ (¬ r15.toInt = 0 → ((σ 9).2.2.1 17 24).toInt ≤ 2) ∧ ((y7.2.1 0).toInt = -1 → r11.toInt = 0 → r15.toInt = 0 → 1 ≤ ((σ 9).2.2.1 17 24).toInt ∧ ((σ 9).2.2.1 20 (11 + ((σ 9).2.2.1 17 24).toInt.toNat)).toInt ≤ 15))) ∧ (¬ ((x.1 9).1 12).toInt = 0 ∨ ((σ26 9).1 12).toInt = 0) ∧ (RD (x.1 9)) ∧ (DKA (x.1 9)) ∧ True) ?_ ?_
        ·
          intro y36 hI35 H locs ls hP hS hl
          obtain ⟨σ37, eσ37⟩ : ∃ z, z = y36.1 := ⟨_, rfl⟩
          rw [← eσ37] at hP hI35
          have hF38 : Fr (fL [12, 13]) σ26 σ37 := hI35.1
          have hJ39 : J9 (σ37 9) := hI35.2.1
          have b40 : ¬ ((σ37 9).1 12).toInt = 0 ∨ ((¬ (y7.2.1 0).toInt = -1 → ((σ 9).2.2.1 17 22).toInt ≤ 3) ∧ (¬ r11.toInt = 0 → ((σ 9).2.2.1 17 23).toInt ≤ 8) ∧ (¬ r15.toInt = 0 → ((σ 9).2.2.1 17 24).toInt ≤ 2) ∧ ((y7.2.1 0).toInt = -1 → r11.toInt = 0 → r15.toInt = 0 → 1 ≤ ((σ 9).2.2.1 17 24).toInt ∧ ((σ 9).2.2.1 20 (11 + ((σ 9).2.2.1 17 24).toInt.toNat)).toInt ≤ 15)) := hI35.2.2.1
          have b41 : ¬ ((σ37 9).1 12).toInt = 0 ∨ ((σ26 9).1 12).toInt = 0 := hI35.2.2.2.1
          have b42 : RD (σ37 9) := hI35.2.2.2.2.1
          have b43 : DKA (σ37 9) := hI35.2.2.2.2.2.1
          have hl : lv_has ls 5 [(4, .int r19), (3, .int r15), (2, .int r11), (1, .int (y7.2.1 0)), (0, .ref (g 60))] := hl
          refine lv_aload_n hx hb dX9_line_213 rfl (lv_at hl 4 rfl) ?_
          refine g9_12 (x := ((σ37 9).1 12)) hx hb hts hown hK hP (rfl) (hts _ q1372) dX9_line_214 ?_
          refine lv_if_eq (tgt := 221) hx hb dX9_line_217 (by decide) (fun c44 => ?_) (fun c44 => ?_)
          ·
            have k45 := peq32 c44
            refine lv_aload_n hx hb dX9_line_221 rfl (lv_at hl 4 rfl) ?_
            refine va_callv (va_runV (As := []) (rest := []) ⟨hx, hb, hml, hown, hts⟩ (m_X9_next l D cy g σ37  _ hJ39 (show ((σ37 9).1 7).toInt ≤ ((σ37 9).1 6).toInt from (by have f0 := j9_6 hJ39 rfl; have f1 := congrArg Int32.toInt (show ((σ37 9).1 6) = ((σ 9).1 6) from ((hF38 9 6 rfl).1).trans ((hF27 9 6 rfl).1)); have f2 := j9_7 hJ39 rfl; have f3 := congrArg Int32.toInt (show ((σ37 9).1 7) = ((σ 9).1 7) from ((hF38 9 7 rfl).1).trans ((hF27 9 7 rfl).1)); have f4 := j9_6 hJ rfl; have f5 := j9_7 hJ rfl; have f6 := h0; omega))) (cwV 0 hts (gd_V q1592 q1594 q52 q134 q1595) rfl rfl rfl (by decide +kernel) ⟨Nat.le_of_ble_eq_true rfl, Nat.le_of_ble_eq_true rfl⟩) (pv9 hP hK hD hC hS (va_recv hK hP (ci := 9) (q0 := 0) rfl rfl)) rfl rfl hl.1 rfl (lv_room (Nat.le_of_ble_eq_true rfl)) dX9_line_222 ⟨Nat.le_of_ble_eq_true rfl, Nat.le_of_ble_eq_true rfl⟩) hS (fun q _ h => up9 hS q h) (up9 hS) (fun σ47 tS H1 locs ht hvm hw48 hB hz1 hk1 hS => ?_)
            have hP : va_P D clz (WD9 cy g σ47) H1 := by rw [← ht]; exact hB
            clear hB hz1 hk1 hvm ht
            generalize H1 = H at hP hS ⊢
            have hF49 : Fr (fL [7, 8, 9, 10, 11]) σ37 σ47 := hw48.1
            have hJ50 : J9 (σ47 9) := hw48.2.1
            have b51 : ((σ37 9).1 7).toInt ≤ ((σ47 9).1 7).toInt ∧ ((σ47 9).1 7).toInt ≤ ((σ47 9).1 6).toInt ∧ ((σ47 9).1 6).toInt = ((σ37 9).1 6).toInt := hw48.2.2.1
            have b52 : ph ((σ37 9).1 7) ((σ37 9).1 8) ≤ ph ((σ47 9).1 7) ((σ47 9).1 8) ∧ ((σ37 9).1 7).toInt ≤ ph ((σ47 9).1 7) ((σ47 9).1 8) := hw48.2.2.2.1
            have T53 : RD (σ47 9) := RD.mv b42 (hF49 9 12 rfl).1 (hF49 9 17 rfl).2.2.1 (hF49 9 18 rfl).2.2.1 (hF49 9 19 rfl).2.2.1
            have T54 : DKA (σ47 9) := DKA.mv b43 (hF49 9 17 rfl).2.2.1 (hF49 9 18 rfl).2.2.1 (hF49 9 19 rfl).2.2.1
            refine lv_iload_n hx hb dX9_line_225 rfl (lv_at hl 3 rfl) ?_
            refine lv_iconst (v := (-1)) hx hb dX9_line_226 (by decide) ?_
            refine lv_icmp_eq (tgt := 238) hx hb dX9_line_227 (by decide) (fun c55 => ?_) (fun c55 => ?_)
            ·
              have k56 := peq32 c55
              refine lv_iload_n hx hb dX9_line_238 rfl (lv_at hl 2 rfl) ?_
              refine lv_if_eq (tgt := 249) hx hb dX9_line_239 (by decide) (fun c57 => ?_) (fun c57 => ?_)
              ·
                have k58 := peq32 c57
                refine lv_iload_n hx hb dX9_line_249 rfl (lv_at hl 1 rfl) ?_
                refine lv_if_eq (tgt := 281) hx hb dX9_line_250 (by decide) (fun c59 => ?_) (fun c59 => ?_)
                ·
                  have k60 := peq32 c59
                  refine lv_iload hx hb dX9_line_281 (lv_at hl 0 rfl) ?_
                  refine lv_if_eq (tgt := 293) hx hb dX9_line_283 (by decide) (fun c61 => ?_) (fun c61 => ?_)
                  ·
                    have k62 := peq32 c61
                    have T63 : TH (σ47 9) := by unfold TH; rw [((hF49 9 17 rfl).2.2.1).trans (((hF38 9 17 rfl).2.2.1).trans ((hF27 9 17 rfl).2.2.1)), ((hF49 9 20 rfl).2.2.1).trans (((hF38 9 20 rfl).2.2.1).trans ((hF27 9 20 rfl).2.2.1))]; have f0 := h17_4 hJ (j := 24) (by decide); have f1 := b8; have f2 := b14; have f3 := b18; have f4 := k45; have f5 := k56; have f6 := k58; have f7 := k60; have f8 := b40; have f9 := h17_2 hJ (j := 22) (by decide); have f10 := h17_3 hJ (j := 23) (by decide); have f11 := b41; have f12 := b29; have f13 := k33; have g6 := rg32 (y7.2.1 0); have g7 := rg32 r11; have g8 := rg32 r15; have zm1 : ((-1) : Int32).toInt = (-1) := (by decide); have z0 : (0 : Int32).toInt = 0 := (by decide); exact ⟨by omega, by omega⟩
                    refine lv_aload_n hx hb dX9_line_293 rfl (lv_at hl 4 rfl) ?_
                    refine va_callv (va_runV (As := []) (rest := []) ⟨hx, hb, hml, hown, hts⟩ (m_X9_restLine l D cy g σ47  _ hJ50 T63 T53 T54 (show ((σ47 9).1 7).toInt ≤ ((σ47 9).1 6).toInt from (by have f0 := j9_6 hJ50 rfl; have f1 := congrArg Int32.toInt (show ((σ47 9).1 6) = ((σ 9).1 6) from ((hF49 9 6 rfl).1).trans (((hF38 9 6 rfl).1).trans ((hF27 9 6 rfl).1))); have f2 := j9_7 hJ50 rfl; have f3 := j9_6 hJ rfl; have f4 := h0; have f5 := j9_7 hJ rfl; have f6 := b51; have f7 := j9_6 hJ39 rfl; have f8 := congrArg Int32.toInt (show ((σ37 9).1 6) = ((σ 9).1 6) from ((hF38 9 6 rfl).1).trans ((hF27 9 6 rfl).1)); have f9 := j9_7 hJ39 rfl; have f10 := congrArg Int32.toInt (show ((σ37 9).1 7) = ((σ 9).1 7) from ((hF38 9 7 rfl).1).trans ((hF27 9 7 rfl).1)); have f11 := b52; have f12 := (show ph ((σ37 9).1 7) ((σ37 9).1 8) = ph ((σ 9).1 7) ((σ 9).1 8) from by rw [((hF38 9 7 rfl).1).trans ((hF27 9 7 rfl).1), ((hF38 9 8 rfl).1).trans ((hF27 9 8 rfl).1)]); omega))) (cwV 0 hts (gd_V q1678 q1680 q67 q134 q1681) rfl rfl rfl (by decide +kernel) ⟨Nat.le_of_ble_eq_true rfl, Nat.le_of_ble_eq_true rfl⟩) (pv9 hP hK hD hC hS (va_recv hK hP (ci := 9) (q0 := 0) rfl rfl)) rfl rfl hl.1 rfl (lv_room (Nat.le_of_ble_eq_true rfl)) dX9_line_294 ⟨Nat.le_of_ble_eq_true rfl, Nat.le_of_ble_eq_true rfl⟩) hS (fun q _ h => up9 hS q h) (up9 hS) (fun σ65 tS H1 locs ht hvm hw66 hB hz1 hk1 hS => ?_)
                    have hP : va_P D clz (WD9 cy g σ65) H1 := by rw [← ht]; exact hB
                    clear hB hz1 hk1 hvm ht
                    generalize H1 = H at hP hS ⊢
                    have hF67 : Fr (fL [7, 8, 9, 10, 11, 12, 13, 20, 21]) σ47 σ65 := hw66.1
                    have hJ68 : J9 (σ65 9) := hw66.2.1
                    have b69 : ((σ47 9).1 7).toInt ≤ ((σ65 9).1 7).toInt ∧ ((σ65 9).1 7).toInt ≤ ((σ65 9).1 6).toInt := hw66.2.2.2.2.1
                    have b70 : ph ((σ47 9).1 7) ((σ47 9).1 8) ≤ ph ((σ65 9).1 7) ((σ65 9).1 8) := hw66.2.2.2.2.2.1
                    have b71 : ¬ ((σ65 9).1 12).toInt = 0 ∨ ((σ47 9).1 12).toInt = 0 := hw66.2.2.2.2.2.2.1
                    exact W.vret hx hb hr (fun tS ht hW => ⟨⟨σ65, rfl, ⟨Fr.tr (Fr.tr (Fr.tr (Fr.tr (Fr.rf) hF27 (fL_sub rfl)) hF38 (fL_sub rfl)) hF49 (fL_sub rfl)) hF67 (fL_sub rfl), hJ68, hw66.2.2.1, hw66.2.2.2.1, (show ((σ 9).1 7).toInt ≤ ((σ65 9).1 7).toInt ∧ ((σ65 9).1 7).toInt ≤ ((σ65 9).1 6).toInt from (by have f0 := j9_7 hJ68 rfl; have f1 := j9_6 hJ68 rfl; have f2 := congrArg Int32.toInt (show ((σ65 9).1 6) = ((σ 9).1 6) from ((hF67 9 6 rfl).1).trans (((hF49 9 6 rfl).1).trans (((hF38 9 6 rfl).1).trans ((hF27 9 6 rfl).1)))); have f3 := j9_7 hJ rfl; have f4 := j9_6 hJ rfl; have f5 := h0; have f6 := b51; have f7 := j9_6 hJ50 rfl; have f8 := congrArg Int32.toInt (show ((σ47 9).1 6) = ((σ 9).1 6) from ((hF49 9 6 rfl).1).trans (((hF38 9 6 rfl).1).trans ((hF27 9 6 rfl).1))); have f9 := j9_6 hJ39 rfl; have f10 := congrArg Int32.toInt (show ((σ37 9).1 6) = ((σ 9).1 6) from ((hF38 9 6 rfl).1).trans ((hF27 9 6 rfl).1)); have f11 := j9_7 hJ50 rfl; have f12 := j9_7 hJ39 rfl; have f13 := congrArg Int32.toInt (show ((σ37 9).1 7) = ((σ 9).1 7) from ((hF38 9 7 rfl).1).trans ((hF27 9 7 rfl).1)); have f14 := b52; have f15 := (show ph ((σ37 9).1 7) ((σ37 9).1 8) = ph ((σ 9).1 7) ((σ 9).1 8) from by rw [((hF38 9 7 rfl).1).trans ((hF27 9 7 rfl).1), ((hF38 9 8 rfl).1).trans ((hF27 9 8 rfl).1)]); have f16 := b69; have f17 := b70; omega)), (show ph ((σ 9).1 7) ((σ 9).1 8) ≤ ph ((σ65 9).1 7) ((σ65 9).1 8) from (by have f0 := b52; have f1 := j9_7 hJ39 rfl; have f2 := congrArg Int32.toInt (show ((σ37 9).1 7) = ((σ 9).1 7) from ((hF38 9 7 rfl).1).trans ((hF27 9 7 rfl).1)); have f3 := (show ph ((σ37 9).1 7) ((σ37 9).1 8) = ph ((σ 9).1 7) ((σ 9).1 8) from by rw [((hF38 9 7 rfl).1).trans ((hF27 9 7 rfl).1), ((hF38 9 8 rfl).1).trans ((hF27 9 8 rfl).1)]); have f4 := j9_7 hJ rfl; have f5 := b70; have f6 := h0; have f7 := j9_6 hJ rfl; have f8 := b51; have f9 := j9_6 hJ50 rfl; have f10 := congrArg Int32.toInt (show ((σ47 9).1 6) = ((σ 9).1 6) from ((hF49 9 6 rfl).1).trans (((hF38 9 6 rfl).1).trans ((hF27 9 6 rfl).1))); have f11 := j9_6 hJ39 rfl; have f12 := congrArg Int32.toInt (show ((σ37 9).1 6) = ((σ 9).1 6) from ((hF38 9 6 rfl).1).trans ((hF27 9 6 rfl).1)); have f13 := j9_7 hJ50 rfl; have f14 := b69; have f15 := j9_7 hJ68 rfl; have f16 := j9_6 hJ68 rfl; have f17 := congrArg Int32.toInt (show ((σ65 9).1 6) = ((σ 9).1 6) from ((hF67 9 6 rfl).1).trans (((hF49 9 6 rfl).1).trans (((hF38 9 6 rfl).1).trans ((hF27 9 6 rfl).1)))); omega)), (show ¬ ((σ65 9).1 12).toInt = 0 ∨ ((σ 9).1 12).toInt = 0 from (by have f0 := b29; have f1 := b71; have f2 := congrArg Int32.toInt (show ((σ47 9).1 12) = ((σ37 9).1 12) from (hF49 9 12 rfl).1); have f3 := k33; have f4 := b40; have f5 := h17_2 hJ (j := 22) (by decide); have f6 := h17_4 hJ (j := 24) (by decide); have f7 := h17_3 hJ (j := 23) (by decide); have f8 := b41; have f9 := k45; have f10 := b8; have f11 := b14; have f12 := b18; have f13 := k56; have f14 := k58; have f15 := k60; have zm1 : ((-1) : Int32).toInt = (-1) := (by decide); have z0 : (0 : Int32).toInt = 0 := (by decide); omega)), trivial⟩, (show va_P D clz (WD9 cy g σ65) tS.heap by rw [ht]; exact hP)⟩, hS.F ht⟩) hS.2.2 dX9_line_297
                  ·
                    have k73 := neq32 c61
                    have T74 : TH (σ47 9) := by unfold TH; rw [((hF49 9 17 rfl).2.2.1).trans (((hF38 9 17 rfl).2.2.1).trans ((hF27 9 17 rfl).2.2.1)), ((hF49 9 20 rfl).2.2.1).trans (((hF38 9 20 rfl).2.2.1).trans ((hF27 9 20 rfl).2.2.1))]; have f0 := h17_4 hJ (j := 24) (by decide); have f1 := b8; have f2 := b14; have f3 := b18; have f4 := k45; have f5 := k56; have f6 := k58; have f7 := k60; have f8 := b40; have f9 := h17_2 hJ (j := 22) (by decide); have f10 := h17_3 hJ (j := 23) (by decide); have f11 := b41; have f12 := b29; have f13 := k33; have g6 := rg32 (y7.2.1 0); have g7 := rg32 r11; have g8 := rg32 r15; have zm1 : ((-1) : Int32).toInt = (-1) := (by decide); have z0 : (0 : Int32).toInt = 0 := (by decide); exact ⟨by omega, by omega⟩
                    refine lv_aload_n hx hb dX9_line_286 rfl (lv_at hl 4 rfl) ?_
                    refine va_callv (va_runV (As := []) (rest := []) ⟨hx, hb, hml, hown, hts⟩ (m_X9_toneLine l D cy g σ47  _ hJ50 T74 T53 T54 (show ((σ47 9).1 7).toInt ≤ ((σ47 9).1 6).toInt from (by have f0 := j9_6 hJ50 rfl; have f1 := congrArg Int32.toInt (show ((σ47 9).1 6) = ((σ 9).1 6) from ((hF49 9 6 rfl).1).trans (((hF38 9 6 rfl).1).trans ((hF27 9 6 rfl).1))); have f2 := j9_7 hJ50 rfl; have f3 := j9_6 hJ rfl; have f4 := h0; have f5 := j9_7 hJ rfl; have f6 := b51; have f7 := j9_6 hJ39 rfl; have f8 := congrArg Int32.toInt (show ((σ37 9).1 6) = ((σ 9).1 6) from ((hF38 9 6 rfl).1).trans ((hF27 9 6 rfl).1)); have f9 := j9_7 hJ39 rfl; have f10 := congrArg Int32.toInt (show ((σ37 9).1 7) = ((σ 9).1 7) from ((hF38 9 7 rfl).1).trans ((hF27 9 7 rfl).1)); have f11 := b52; have f12 := (show ph ((σ37 9).1 7) ((σ37 9).1 8) = ph ((σ 9).1 7) ((σ 9).1 8) from by rw [((hF38 9 7 rfl).1).trans ((hF27 9 7 rfl).1), ((hF38 9 8 rfl).1).trans ((hF27 9 8 rfl).1)]); omega))) (cwV 0 hts (gd_V q1667 q1669 q65 q134 q1670) rfl rfl rfl (by decide +kernel) ⟨Nat.le_of_ble_eq_true rfl, Nat.le_of_ble_eq_true rfl⟩) (pv9 hP hK hD hC hS (va_recv hK hP (ci := 9) (q0 := 0) rfl rfl)) rfl rfl hl.1 rfl (lv_room (Nat.le_of_ble_eq_true rfl)) dX9_line_287 ⟨Nat.le_of_ble_eq_true rfl, Nat.le_of_ble_eq_true rfl⟩) hS (fun q _ h => up9 hS q h) (up9 hS) (fun σ76 tS H1 locs ht hvm hw77 hB hz1 hk1 hS => ?_)
                    have hP : va_P D clz (WD9 cy g σ76) H1 := by rw [← ht]; exact hB
                    clear hB hz1 hk1 hvm ht
                    generalize H1 = H at hP hS ⊢
                    have hF78 : Fr (fL [7, 8, 9, 10, 11, 12, 13, 20, 21]) σ47 σ76 := hw77.1
                    have hJ79 : J9 (σ76 9) := hw77.2.1
                    have b80 : ((σ47 9).1 7).toInt ≤ ((σ76 9).1 7).toInt ∧ ((σ76 9).1 7).toInt ≤ ((σ76 9).1 6).toInt := hw77.2.2.2.2.1
                    have b81 : ph ((σ47 9).1 7) ((σ47 9).1 8) ≤ ph ((σ76 9).1 7) ((σ76 9).1 8) := hw77.2.2.2.2.2.1
                    have b82 : ¬ ((σ76 9).1 12).toInt = 0 ∨ ((σ47 9).1 12).toInt = 0 := hw77.2.2.2.2.2.2.1
                    refine lv_goto (tgt := 297) hx hb dX9_line_290 (by decide) ?_
                    exact W.vret hx hb hr (fun tS ht hW => ⟨⟨σ76, rfl, ⟨Fr.tr (Fr.tr (Fr.tr (Fr.tr (Fr.rf) hF27 (fL_sub rfl)) hF38 (fL_sub rfl)) hF49 (fL_sub rfl)) hF78 (fL_sub rfl), hJ79, hw77.2.2.1, hw77.2.2.2.1, (show ((σ 9).1 7).toInt ≤ ((σ76 9).1 7).toInt ∧ ((σ76 9).1 7).toInt ≤ ((σ76 9).1 6).toInt from (by have f0 := j9_7 hJ79 rfl; have f1 := j9_7 hJ rfl; have f2 := j9_6 hJ79 rfl; have f3 := congrArg Int32.toInt (show ((σ76 9).1 6) = ((σ 9).1 6) from ((hF78 9 6 rfl).1).trans (((hF49 9 6 rfl).1).trans (((hF38 9 6 rfl).1).trans ((hF27 9 6 rfl).1)))); have f4 := j9_6 hJ rfl; have f5 := h0; have f6 := b51; have f7 := j9_6 hJ50 rfl; have f8 := congrArg Int32.toInt (show ((σ47 9).1 6) = ((σ 9).1 6) from ((hF49 9 6 rfl).1).trans (((hF38 9 6 rfl).1).trans ((hF27 9 6 rfl).1))); have f9 := j9_6 hJ39 rfl; have f10 := congrArg Int32.toInt (show ((σ37 9).1 6) = ((σ 9).1 6) from ((hF38 9 6 rfl).1).trans ((hF27 9 6 rfl).1)); have f11 := j9_7 hJ50 rfl; have f12 := j9_7 hJ39 rfl; have f13 := congrArg Int32.toInt (show ((σ37 9).1 7) = ((σ 9).1 7) from ((hF38 9 7 rfl).1).trans ((hF27 9 7 rfl).1)); have f14 := b52; have f15 := (show ph ((σ37 9).1 7) ((σ37 9).1 8) = ph ((σ 9).1 7) ((σ 9).1 8) from by rw [((hF38 9 7 rfl).1).trans ((hF27 9 7 rfl).1), ((hF38 9 8 rfl).1).trans ((hF27 9 8 rfl).1)]); have f16 := b80; have f17 := b81; omega)), (show ph ((σ 9).1 7) ((σ 9).1 8) ≤ ph ((σ76 9).1 7) ((σ76 9).1 8) from (by have f0 := b52; have f1 := j9_7 hJ39 rfl; have f2 := congrArg Int32.toInt (show ((σ37 9).1 7) = ((σ 9).1 7) from ((hF38 9 7 rfl).1).trans ((hF27 9 7 rfl).1)); have f3 := (show ph ((σ37 9).1 7) ((σ37 9).1 8) = ph ((σ 9).1 7) ((σ 9).1 8) from by rw [((hF38 9 7 rfl).1).trans ((hF27 9 7 rfl).1), ((hF38 9 8 rfl).1).trans ((hF27 9 8 rfl).1)]); have f4 := j9_7 hJ rfl; have f5 := b81; have f6 := h0; have f7 := j9_6 hJ rfl; have f8 := b51; have f9 := j9_6 hJ50 rfl; have f10 := congrArg Int32.toInt (show ((σ47 9).1 6) = ((σ 9).1 6) from ((hF49 9 6 rfl).1).trans (((hF38 9 6 rfl).1).trans ((hF27 9 6 rfl).1))); have f11 := j9_6 hJ39 rfl; have f12 := congrArg Int32.toInt (show ((σ37 9).1 6) = ((σ 9).1 6) from ((hF38 9 6 rfl).1).trans ((hF27 9 6 rfl).1)); have f13 := j9_7 hJ50 rfl; have f14 := b80; have f15 := j9_7 hJ79 rfl; have f16 := j9_6 hJ79 rfl; have f17 := congrArg Int32.toInt (show ((σ76 9).1 6) = ((σ 9).1 6) from ((hF78 9 6 rfl).1).trans (((hF49 9 6 rfl).1).trans (((hF38 9 6 rfl).1).trans ((hF27 9 6 rfl).1)))); omega)), (show ¬ ((σ76 9).1 12).toInt = 0 ∨ ((σ 9).1 12).toInt = 0 from (by have f0 := b29; have f1 := b82; have f2 := congrArg Int32.toInt (show ((σ47 9).1 12) = ((σ37 9).1 12) from (hF49 9 12 rfl).1); have f3 := k33; have f4 := b40; have f5 := h17_2 hJ (j := 22) (by decide); have f6 := h17_4 hJ (j := 24) (by decide); have f7 := h17_3 hJ (j := 23) (by decide); have f8 := b41; have f9 := k45; have f10 := b8; have f11 := b14; have f12 := b18; have f13 := k56; have f14 := k58; have f15 := k60; have zm1 : ((-1) : Int32).toInt = (-1) := (by decide); have z0 : (0 : Int32).toInt = 0 := (by decide); omega)), trivial⟩, (show va_P D clz (WD9 cy g σ76) tS.heap by rw [ht]; exact hP)⟩, hS.F ht⟩) hS.2.2 dX9_line_297
                ·
                  have k84 := neq32 c59
                  have t85 : ((σ 9).2.2.1 17 24).toInt ≤ 2 := (by have f0 := h17_4 hJ (j := 24) (by decide); have f1 := b8; have f2 := b14; have f3 := b18; have f4 := k45; have f5 := k56; have f6 := k58; have f7 := k84; have f8 := b40; have f9 := h17_2 hJ (j := 22) (by decide); have f10 := h17_3 hJ (j := 23) (by decide); have f11 := b41; have f12 := b29; have f13 := k33; have g6 := rg32 (y7.2.1 0); have g7 := rg32 r11; have g8 := rg32 r15; have zm1 : ((-1) : Int32).toInt = (-1) := (by decide); have z0 : (0 : Int32).toInt = 0 := (by decide); omega)
                  refine lv_aload_n hx hb dX9_line_253 rfl (lv_at hl 4 rfl) ?_
                  refine g9_20 hx hb hts hown hK hP (hts _ q1380) dX9_line_254 ?_
                  refine lv_bipush (v := 12) hx hb dX9_line_257 (by decide) ?_
                  refine lv_aload_n hx hb dX9_line_259 rfl (lv_at hl 4 rfl) ?_
                  refine lv_iconst (v := 4) hx hb dX9_line_260 (by decide) ?_
                  refine va_calli (va_runV (As := [.int 4]) (rest := [.int 12, .ref (g 20)]) ⟨hx, hb, hml, hown, hts⟩ (m_X9_hasRead l D cy g σ47 (4) _ hJ50 (show (0 : Int) ≤ (4 : Int32).toInt ∧ (4 : Int32).toInt ≤ 4 from (by have z4 : (4 : Int32).toInt = 4 := (by decide); omega))) (cwV 1 hts (gd_V q1647 q1649 q62 q134 q1650) rfl rfl rfl (by decide +kernel) ⟨Nat.le_of_ble_eq_true rfl, Nat.le_of_ble_eq_true rfl⟩) (pv9 hP hK hD hC hS (va_recv hK hP (ci := 9) (q0 := 0) rfl rfl)) rfl rfl hl.1 rfl (lv_room (Nat.le_of_ble_eq_true rfl)) dX9_line_261 ⟨Nat.le_of_ble_eq_true rfl, Nat.le_of_ble_eq_true rfl⟩) hS (fun q _ h => up9 hS q h) (up9 hS) (fun r86 σ87 tS H1 locs ht hvm hw88 hB hz1 hk1 hS => ?_)
                  have hP : va_P D clz (WD9 cy g σ87) H1 := by rw [← ht]; exact hB
                  clear hB hz1 hk1 hvm ht
                  generalize H1 = H at hP hS ⊢
                  have hw88E : σ47 = σ87 := (hw88.1).symm
                  subst hw88E
                  have b89 : (0 : Int) ≤ r86.toInt ∧ r86.toInt ≤ 60 := hw88.2.1
                  have b90 : ((4 : Int32).toInt = 2 → r86.toInt = ((σ47 9).2.2.1 17 22).toInt) ∧ ((4 : Int32).toInt = 3 → r86.toInt = ((σ47 9).2.2.1 17 23).toInt) ∧ ((4 : Int32).toInt = 4 → r86.toInt = ((σ47 9).2.2.1 17 24).toInt) := hw88.2.2.1
                  have b90c := b90.2.2 (by decide)
                  refine lv_iadd hx hb dX9_line_264 ?_
                  refine lv_topi (fun x91 ex91 => ?_)
                  have t92 := addO ex91 (by have f0 := b89; have f1 := b90c; have f2 := h17_4 hJ50 (j := 24) (by decide); have f3 := congrArg Int32.toInt (show ((σ47 9).2.2.1 17 24) = ((σ 9).2.2.1 17 24) from congrFun (((hF49 9 17 rfl).2.2.1).trans (((hF38 9 17 rfl).2.2.1).trans ((hF27 9 17 rfl).2.2.1))) _); have f4 := h17_4 hJ (j := 24) (by decide); have f5 := t85; have g2 := rg32 r86; have z12 : (12 : Int32).toInt = 12 := (by decide); omega)
                  refine lv_iconst (v := 0) hx hb dX9_line_265 (by decide) ?_
                  refine t9_20 hx hb hK hP hD hS (vpo (by have f0 := t92; have f1 := b89; have f2 := b90c; have f3 := h17_4 hJ50 (j := 24) (by decide); have f4 := congrArg Int32.toInt (show ((σ47 9).2.2.1 17 24) = ((σ 9).2.2.1 17 24) from congrFun (((hF49 9 17 rfl).2.2.1).trans (((hF38 9 17 rfl).2.2.1).trans ((hF27 9 17 rfl).2.2.1))) _); have f5 := h17_4 hJ (j := 24) (by decide); have f6 := t85; have g2 := rg32 x91; have z12 : (12 : Int32).toInt = 12 := (by decide); omega)) dX9_line_266 (fun H locs σ93 eσ93 hP hS => ?_)
                  have hJ94 : J9 (σ93 9) := hJ50.A eσ93 (show PA9 20 x91.toInt.toNat (0 : Int32) from (by have f0 := t92; have f1 := b89; have f2 := b90c; have f3 := h17_4 hJ50 (j := 24) (by decide); have f4 := congrArg Int32.toInt (show ((σ47 9).2.2.1 17 24) = ((σ 9).2.2.1 17 24) from congrFun (((hF49 9 17 rfl).2.2.1).trans (((hF38 9 17 rfl).2.2.1).trans ((hF27 9 17 rfl).2.2.1))) _); have f5 := h17_4 hJ (j := 24) (by decide); have f6 := t85; have g2 := rg32 x91; have z0 : (0 : Int32).toInt = 0 := (by decide); have z12 : (12 : Int32).toInt = 12 := (by decide); exact ⟨by omega, by omega⟩))
                  have T95 : RD (σ93 9) := RD.mv T53 ((sA_f eσ93) 9 12 rfl).1 ((sA_f eσ93) 9 17 rfl).2.2.1 ((sA_f eσ93) 9 18 rfl).2.2.1 ((sA_f eσ93) 9 19 rfl).2.2.1
                  have T96 : DKA (σ93 9) := DKA.mv T54 ((sA_f eσ93) 9 17 rfl).2.2.1 ((sA_f eσ93) 9 18 rfl).2.2.1 ((sA_f eσ93) 9 19 rfl).2.2.1
                  refine lv_aload_n hx hb dX9_line_267 rfl (lv_at hl 4 rfl) ?_
                  refine g9_17 hx hb hts hown hK hP (hts _ q1377) dX9_line_268 ?_
                  refine lv_bipush (v := 24) hx hb dX9_line_271 (by decide) ?_
                  refine lv_dup2_11 hx hb dX9_line_273 rfl rfl ?_
                  refine l9_17 (x := ((σ 9).2.2.1 17 24)) hx hb hK hP (vpi (by decide)) ((congrFun ((((sA_f eσ93) 9 17 rfl).2.2.1).trans (((hF49 9 17 rfl).2.2.1).trans (((hF38 9 17 rfl).2.2.1).trans ((hF27 9 17 rfl).2.2.1)))) _).trans (congrArg ((σ 9).2.2.1 17) (show (24 : Int32).toInt.toNat = 24 by decide))) dX9_line_274 ?_
                  refine lv_iconst (v := 1) hx hb dX9_line_275 (by decide) ?_
                  refine lv_iadd hx hb dX9_line_276 ?_
                  refine lv_topi (fun x97 ex97 => ?_)
                  have t98 := addO ex97 (by have f0 := h17_4 hJ (j := 24) (by decide); have f1 := t85; have f2 := b90c; have f3 := h17_4 hJ50 (j := 24) (by decide); have f4 := congrArg Int32.toInt (show ((σ47 9).2.2.1 17 24) = ((σ 9).2.2.1 17 24) from congrFun (((hF49 9 17 rfl).2.2.1).trans (((hF38 9 17 rfl).2.2.1).trans ((hF27 9 17 rfl).2.2.1))) _); have f5 := t92; have f6 := b89; have f7 := b40; have f8 := h17_2 hJ (j := 22) (by decide); have f9 := h17_3 hJ (j := 23) (by decide); have f10 := b8; have f11 := b14; have f12 := b18; have f13 := k45; have f14 := k56; have f15 := k58; have f16 := k84; have zm1 : ((-1) : Int32).toInt = (-1) := (by decide); have z0 : (0 : Int32).toInt = 0 := (by decide); have z1 : (1 : Int32).toInt = 1 := (by decide); have z12 : (12 : Int32).toInt = 12 := (by decide); omega)
                  refine t9_17 hx hb hK hP hD hS (vpi (by decide)) dX9_line_277 (fun H locs σ99 eσ99 hP hS => ?_)
                  have hJ100 : J9 (σ99 9) := hJ94.A eσ99 (show PA9 17 (24 : Int32).toInt.toNat x97 from (by have f0 := t98; have f1 := h17_4 hJ (j := 24) (by decide); have f2 := t85; have f3 := b90c; have f4 := h17_4 hJ50 (j := 24) (by decide); have f5 := congrArg Int32.toInt (show ((σ47 9).2.2.1 17 24) = ((σ 9).2.2.1 17 24) from congrFun (((hF49 9 17 rfl).2.2.1).trans (((hF38 9 17 rfl).2.2.1).trans ((hF27 9 17 rfl).2.2.1))) _); have f6 := t92; have f7 := b89; have g1 := rg32 x97; have z1 : (1 : Int32).toInt = 1 := (by decide); have z12 : (12 : Int32).toInt = 12 := (by decide); have z24 : (24 : Int32).toInt = 24 := (by decide); exact ⟨by omega, by omega, by omega, by omega, by omega, by omega⟩))
                  have T101 : RD (σ99 9) := RD.s17o T95 eσ99 (by decide) (by decide)
                  have T102 : DKA (σ99 9) := DKA.s17 T96 hJ94 eσ99 (by decide)
                  refine lv_goto (tgt := 297) hx hb dX9_line_278 (by decide) ?_
                  exact W.vret hx hb hr (fun tS ht hW => ⟨⟨σ99, rfl, ⟨Fr.tr (Fr.tr (Fr.tr (Fr.tr (Fr.tr (Fr.rf) hF27 (fL_sub rfl)) hF38 (fL_sub rfl)) hF49 (fL_sub rfl)) (sA_f eσ93) (fN_L rfl)) (sA_f eσ99) (fN_L rfl), hJ100, T101, T102, (show ((σ 9).1 7).toInt ≤ ((σ99 9).1 7).toInt ∧ ((σ99 9).1 7).toInt ≤ ((σ99 9).1 6).toInt from (by have f0 := j9_6 hJ100 rfl; have f1 := congrArg Int32.toInt (show ((σ99 9).1 6) = ((σ 9).1 6) from (((sA_f eσ99) 9 6 rfl).1).trans ((((sA_f eσ93) 9 6 rfl).1).trans (((hF49 9 6 rfl).1).trans (((hF38 9 6 rfl).1).trans ((hF27 9 6 rfl).1))))); have f2 := j9_7 hJ rfl; have f3 := j9_7 hJ100 rfl; have f4 := congrArg Int32.toInt (show ((σ99 9).1 7) = ((σ47 9).1 7) from (((sA_f eσ99) 9 7 rfl).1).trans (((sA_f eσ93) 9 7 rfl).1)); have f5 := j9_6 hJ rfl; have f6 := j9_7 hJ50 rfl; have f7 := h0; have f8 := b51; have f9 := j9_6 hJ50 rfl; have f10 := congrArg Int32.toInt (show ((σ47 9).1 6) = ((σ 9).1 6) from ((hF49 9 6 rfl).1).trans (((hF38 9 6 rfl).1).trans ((hF27 9 6 rfl).1))); have f11 := j9_6 hJ39 rfl; have f12 := congrArg Int32.toInt (show ((σ37 9).1 6) = ((σ 9).1 6) from ((hF38 9 6 rfl).1).trans ((hF27 9 6 rfl).1)); have f13 := j9_7 hJ39 rfl; have f14 := congrArg Int32.toInt (show ((σ37 9).1 7) = ((σ 9).1 7) from ((hF38 9 7 rfl).1).trans ((hF27 9 7 rfl).1)); have f15 := b52; have f16 := (show ph ((σ37 9).1 7) ((σ37 9).1 8) = ph ((σ 9).1 7) ((σ 9).1 8) from by rw [((hF38 9 7 rfl).1).trans ((hF27 9 7 rfl).1), ((hF38 9 8 rfl).1).trans ((hF27 9 8 rfl).1)]); omega)), (show ph ((σ 9).1 7) ((σ 9).1 8) ≤ ph ((σ99 9).1 7) ((σ99 9).1 8) from (by have f0 := (show ph ((σ99 9).1 7) ((σ99 9).1 8) = ph ((σ47 9).1 7) ((σ47 9).1 8) from by rw [(((sA_f eσ99) 9 7 rfl).1).trans (((sA_f eσ93) 9 7 rfl).1), (((sA_f eσ99) 9 8 rfl).1).trans (((sA_f eσ93) 9 8 rfl).1)]); have f1 := b52; have f2 := j9_7 hJ39 rfl; have f3 := congrArg Int32.toInt (show ((σ37 9).1 7) = ((σ 9).1 7) from ((hF38 9 7 rfl).1).trans ((hF27 9 7 rfl).1)); have f4 := (show ph ((σ37 9).1 7) ((σ37 9).1 8) = ph ((σ 9).1 7) ((σ 9).1 8) from by rw [((hF38 9 7 rfl).1).trans ((hF27 9 7 rfl).1), ((hF38 9 8 rfl).1).trans ((hF27 9 8 rfl).1)]); have f5 := j9_7 hJ rfl; have f6 := h0; have f7 := j9_6 hJ rfl; have f8 := b51; have f9 := j9_6 hJ50 rfl; have f10 := congrArg Int32.toInt (show ((σ47 9).1 6) = ((σ 9).1 6) from ((hF49 9 6 rfl).1).trans (((hF38 9 6 rfl).1).trans ((hF27 9 6 rfl).1))); have f11 := j9_6 hJ39 rfl; have f12 := congrArg Int32.toInt (show ((σ37 9).1 6) = ((σ 9).1 6) from ((hF38 9 6 rfl).1).trans ((hF27 9 6 rfl).1)); have f13 := j9_7 hJ50 rfl; omega)), (show ¬ ((σ99 9).1 12).toInt = 0 ∨ ((σ 9).1 12).toInt = 0 from (by have f0 := congrArg Int32.toInt (show ((σ99 9).1 12) = ((σ37 9).1 12) from (((sA_f eσ99) 9 12 rfl).1).trans ((((sA_f eσ93) 9 12 rfl).1).trans ((hF49 9 12 rfl).1))); have f1 := k45; have f2 := b29; have f3 := b40; have f4 := h17_2 hJ (j := 22) (by decide); have f5 := h17_4 hJ (j := 24) (by decide); have f6 := h17_3 hJ (j := 23) (by decide); have f7 := b41; have f8 := k33; have f9 := b8; have f10 := b14; have f11 := b18; have f12 := k56; have f13 := k58; have f14 := k84; have f15 := t85; have f16 := b90c; have f17 := h17_4 hJ50 (j := 24) (by decide); have f18 := congrArg Int32.toInt (show ((σ47 9).2.2.1 17 24) = ((σ 9).2.2.1 17 24) from congrFun (((hF49 9 17 rfl).2.2.1).trans (((hF38 9 17 rfl).2.2.1).trans ((hF27 9 17 rfl).2.2.1))) _); have f19 := t92; have f20 := t98; have f21 := b89; have zm1 : ((-1) : Int32).toInt = (-1) := (by decide); have z0 : (0 : Int32).toInt = 0 := (by decide); have z1 : (1 : Int32).toInt = 1 := (by decide); have z12 : (12 : Int32).toInt = 12 := (by decide); omega)), trivial⟩, (show va_P D clz (WD9 cy g σ99) tS.heap by rw [ht]; exact hP)⟩, hS.F ht⟩) hS.2.2 dX9_line_297
              ·
                have k103 := neq32 c57
                refine lv_aload_n hx hb dX9_line_242 rfl (lv_at hl 4 rfl) ?_
                refine va_callv (va_runV (As := []) (rest := []) ⟨hx, hb, hml, hown, hts⟩ (m_X9_playerLine l D cy g σ47  _ hJ50 T53 T54 (show ((σ47 9).1 7).toInt ≤ ((σ47 9).1 6).toInt from (by have f0 := j9_6 hJ50 rfl; have f1 := congrArg Int32.toInt (show ((σ47 9).1 6) = ((σ 9).1 6) from ((hF49 9 6 rfl).1).trans (((hF38 9 6 rfl).1).trans ((hF27 9 6 rfl).1))); have f2 := j9_7 hJ50 rfl; have f3 := j9_6 hJ rfl; have f4 := h0; have f5 := j9_7 hJ rfl; have f6 := b51; have f7 := j9_6 hJ39 rfl; have f8 := congrArg Int32.toInt (show ((σ37 9).1 6) = ((σ 9).1 6) from ((hF38 9 6 rfl).1).trans ((hF27 9 6 rfl).1)); have f9 := j9_7 hJ39 rfl; have f10 := congrArg Int32.toInt (show ((σ37 9).1 7) = ((σ 9).1 7) from ((hF38 9 7 rfl).1).trans ((hF27 9 7 rfl).1)); have f11 := b52; have f12 := (show ph ((σ37 9).1 7) ((σ37 9).1 8) = ph ((σ 9).1 7) ((σ 9).1 8) from by rw [((hF38 9 7 rfl).1).trans ((hF27 9 7 rfl).1), ((hF38 9 8 rfl).1).trans ((hF27 9 8 rfl).1)]); omega)) (show ((σ47 9).2.2.1 17 23).toInt ≤ 8 from (by have f0 := h17_3 hJ50 (j := 23) (by decide); have f1 := congrArg Int32.toInt (show ((σ47 9).2.2.1 17 23) = ((σ 9).2.2.1 17 23) from congrFun (((hF49 9 17 rfl).2.2.1).trans (((hF38 9 17 rfl).2.2.1).trans ((hF27 9 17 rfl).2.2.1))) _); have f2 := h17_3 hJ (j := 23) (by decide); have f3 := b40; have f4 := h17_2 hJ (j := 22) (by decide); have f5 := h17_4 hJ (j := 24) (by decide); have f6 := b8; have f7 := b14; have f8 := b18; have f9 := k45; have f10 := k56; have f11 := k103; have zm1 : ((-1) : Int32).toInt = (-1) := (by decide); have z0 : (0 : Int32).toInt = 0 := (by decide); omega))) (cwV 0 hts (gd_V q1660 q1662 q64 q134 q1663) rfl rfl rfl (by decide +kernel) ⟨Nat.le_of_ble_eq_true rfl, Nat.le_of_ble_eq_true rfl⟩) (pv9 hP hK hD hC hS (va_recv hK hP (ci := 9) (q0 := 0) rfl rfl)) rfl rfl hl.1 rfl (lv_room (Nat.le_of_ble_eq_true rfl)) dX9_line_243 ⟨Nat.le_of_ble_eq_true rfl, Nat.le_of_ble_eq_true rfl⟩) hS (fun q _ h => up9 hS q h) (up9 hS) (fun σ105 tS H1 locs ht hvm hw106 hB hz1 hk1 hS => ?_)
                have hP : va_P D clz (WD9 cy g σ105) H1 := by rw [← ht]; exact hB
                clear hB hz1 hk1 hvm ht
                generalize H1 = H at hP hS ⊢
                have hF107 : Fr (fL [7, 8, 9, 10, 11, 12, 13, 17, 19]) σ47 σ105 := hw106.1
                have hJ108 : J9 (σ105 9) := hw106.2.1
                have b109 : ((σ47 9).1 7).toInt ≤ ((σ105 9).1 7).toInt ∧ ((σ105 9).1 7).toInt ≤ ((σ105 9).1 6).toInt := hw106.2.2.2.2.1
                have b110 : ph ((σ47 9).1 7) ((σ47 9).1 8) ≤ ph ((σ105 9).1 7) ((σ105 9).1 8) := hw106.2.2.2.2.2.1
                have b111 : ¬ ((σ105 9).1 12).toInt = 0 ∨ ((σ47 9).1 12).toInt = 0 := hw106.2.2.2.2.2.2.1
                refine lv_goto (tgt := 297) hx hb dX9_line_246 (by decide) ?_
                exact W.vret hx hb hr (fun tS ht hW => ⟨⟨σ105, rfl, ⟨Fr.tr (Fr.tr (Fr.tr (Fr.tr (Fr.rf) hF27 (fL_sub rfl)) hF38 (fL_sub rfl)) hF49 (fL_sub rfl)) hF107 (fL_sub rfl), hJ108, hw106.2.2.1, hw106.2.2.2.1, (show ((σ 9).1 7).toInt ≤ ((σ105 9).1 7).toInt ∧ ((σ105 9).1 7).toInt ≤ ((σ105 9).1 6).toInt from (by have f0 := j9_6 hJ108 rfl; have f1 := congrArg Int32.toInt (show ((σ105 9).1 6) = ((σ 9).1 6) from ((hF107 9 6 rfl).1).trans (((hF49 9 6 rfl).1).trans (((hF38 9 6 rfl).1).trans ((hF27 9 6 rfl).1)))); have f2 := j9_7 hJ rfl; have f3 := j9_7 hJ108 rfl; have f4 := j9_6 hJ rfl; have f5 := h0; have f6 := b51; have f7 := j9_6 hJ50 rfl; have f8 := congrArg Int32.toInt (show ((σ47 9).1 6) = ((σ 9).1 6) from ((hF49 9 6 rfl).1).trans (((hF38 9 6 rfl).1).trans ((hF27 9 6 rfl).1))); have f9 := j9_6 hJ39 rfl; have f10 := congrArg Int32.toInt (show ((σ37 9).1 6) = ((σ 9).1 6) from ((hF38 9 6 rfl).1).trans ((hF27 9 6 rfl).1)); have f11 := j9_7 hJ50 rfl; have f12 := j9_7 hJ39 rfl; have f13 := congrArg Int32.toInt (show ((σ37 9).1 7) = ((σ 9).1 7) from ((hF38 9 7 rfl).1).trans ((hF27 9 7 rfl).1)); have f14 := b52; have f15 := (show ph ((σ37 9).1 7) ((σ37 9).1 8) = ph ((σ 9).1 7) ((σ 9).1 8) from by rw [((hF38 9 7 rfl).1).trans ((hF27 9 7 rfl).1), ((hF38 9 8 rfl).1).trans ((hF27 9 8 rfl).1)]); have f16 := b109; have f17 := b110; omega)), (show ph ((σ 9).1 7) ((σ 9).1 8) ≤ ph ((σ105 9).1 7) ((σ105 9).1 8) from (by have f0 := b52; have f1 := j9_7 hJ39 rfl; have f2 := congrArg Int32.toInt (show ((σ37 9).1 7) = ((σ 9).1 7) from ((hF38 9 7 rfl).1).trans ((hF27 9 7 rfl).1)); have f3 := (show ph ((σ37 9).1 7) ((σ37 9).1 8) = ph ((σ 9).1 7) ((σ 9).1 8) from by rw [((hF38 9 7 rfl).1).trans ((hF27 9 7 rfl).1), ((hF38 9 8 rfl).1).trans ((hF27 9 8 rfl).1)]); have f4 := j9_7 hJ rfl; have f5 := b110; have f6 := h0; have f7 := j9_6 hJ rfl; have f8 := b51; have f9 := j9_6 hJ50 rfl; have f10 := congrArg Int32.toInt (show ((σ47 9).1 6) = ((σ 9).1 6) from ((hF49 9 6 rfl).1).trans (((hF38 9 6 rfl).1).trans ((hF27 9 6 rfl).1))); have f11 := j9_6 hJ39 rfl; have f12 := congrArg Int32.toInt (show ((σ37 9).1 6) = ((σ 9).1 6) from ((hF38 9 6 rfl).1).trans ((hF27 9 6 rfl).1)); have f13 := j9_7 hJ50 rfl; have f14 := b109; have f15 := j9_6 hJ108 rfl; have f16 := congrArg Int32.toInt (show ((σ105 9).1 6) = ((σ 9).1 6) from ((hF107 9 6 rfl).1).trans (((hF49 9 6 rfl).1).trans (((hF38 9 6 rfl).1).trans ((hF27 9 6 rfl).1)))); have f17 := j9_7 hJ108 rfl; omega)), (show ¬ ((σ105 9).1 12).toInt = 0 ∨ ((σ 9).1 12).toInt = 0 from (by have f0 := b29; have f1 := b111; have f2 := congrArg Int32.toInt (show ((σ47 9).1 12) = ((σ37 9).1 12) from (hF49 9 12 rfl).1); have f3 := k33; have f4 := b40; have f5 := h17_2 hJ (j := 22) (by decide); have f6 := h17_4 hJ (j := 24) (by decide); have f7 := h17_3 hJ (j := 23) (by decide); have f8 := b41; have f9 := k45; have f10 := b8; have f11 := b14; have f12 := b18; have f13 := k56; have f14 := k103; have zm1 : ((-1) : Int32).toInt = (-1) := (by decide); have z0 : (0 : Int32).toInt = 0 := (by decide); omega)), trivial⟩, (show va_P D clz (WD9 cy g σ105) tS.heap by rw [ht]; exact hP)⟩, hS.F ht⟩) hS.2.2 dX9_line_297
            ·
              have k112 := neq32 c55
              refine lv_aload_n hx hb dX9_line_230 rfl (lv_at hl 4 rfl) ?_
              refine lv_iload_n hx hb dX9_line_231 rfl (lv_at hl 3 rfl) ?_
              refine va_callv (va_runV (As := [.int (y7.2.1 0)]) (rest := []) ⟨hx, hb, hml, hown, hts⟩ (m_X9_brassLine l D cy g σ47 (y7.2.1 0) _ hJ50 T53 T54 (show (0 : Int) ≤ (y7.2.1 0).toInt ∧ (y7.2.1 0).toInt ≤ 2 from (by have f0 := b8; have f1 := k112; have f2 := b40; have f3 := h17_2 hJ (j := 22) (by decide); have f4 := h17_4 hJ (j := 24) (by decide); have f5 := h17_3 hJ (j := 23) (by decide); have f6 := b14; have f7 := b18; have f8 := k45; have g4 := rg32 (y7.2.1 0); have zm1 : ((-1) : Int32).toInt = (-1) := (by decide); have z0 : (0 : Int32).toInt = 0 := (by decide); omega)) (show ((σ47 9).1 7).toInt ≤ ((σ47 9).1 6).toInt from (by have f0 := j9_6 hJ50 rfl; have f1 := congrArg Int32.toInt (show ((σ47 9).1 6) = ((σ 9).1 6) from ((hF49 9 6 rfl).1).trans (((hF38 9 6 rfl).1).trans ((hF27 9 6 rfl).1))); have f2 := j9_7 hJ50 rfl; have f3 := j9_6 hJ rfl; have f4 := h0; have f5 := j9_7 hJ rfl; have f6 := b51; have f7 := j9_6 hJ39 rfl; have f8 := congrArg Int32.toInt (show ((σ37 9).1 6) = ((σ 9).1 6) from ((hF38 9 6 rfl).1).trans ((hF27 9 6 rfl).1)); have f9 := j9_7 hJ39 rfl; have f10 := congrArg Int32.toInt (show ((σ37 9).1 7) = ((σ 9).1 7) from ((hF38 9 7 rfl).1).trans ((hF27 9 7 rfl).1)); have f11 := b52; have f12 := (show ph ((σ37 9).1 7) ((σ37 9).1 8) = ph ((σ 9).1 7) ((σ 9).1 8) from by rw [((hF38 9 7 rfl).1).trans ((hF27 9 7 rfl).1), ((hF38 9 8 rfl).1).trans ((hF27 9 8 rfl).1)]); omega)) (show ((σ47 9).2.2.1 17 22).toInt ≤ 3 from (by have f0 := h17_2 hJ50 (j := 22) (by decide); have f1 := congrArg Int32.toInt (show ((σ47 9).2.2.1 17 22) = ((σ 9).2.2.1 17 22) from congrFun (((hF49 9 17 rfl).2.2.1).trans (((hF38 9 17 rfl).2.2.1).trans ((hF27 9 17 rfl).2.2.1))) _); have f2 := h17_2 hJ (j := 22) (by decide); have f3 := b40; have f4 := h17_4 hJ (j := 24) (by decide); have f5 := h17_3 hJ (j := 23) (by decide); have f6 := b8; have f7 := b14; have f8 := b18; have f9 := k45; have f10 := k112; have zm1 : ((-1) : Int32).toInt = (-1) := (by decide); have z0 : (0 : Int32).toInt = 0 := (by decide); omega))) (cwV 1 hts (gd_V q1651 q1653 q63 q134 q1654) rfl rfl rfl (by decide +kernel) ⟨Nat.le_of_ble_eq_true rfl, Nat.le_of_ble_eq_true rfl⟩) (pv9 hP hK hD hC hS (va_recv hK hP (ci := 9) (q0 := 0) rfl rfl)) rfl rfl hl.1 rfl (lv_room (Nat.le_of_ble_eq_true rfl)) dX9_line_232 ⟨Nat.le_of_ble_eq_true rfl, Nat.le_of_ble_eq_true rfl⟩) hS (fun q _ h => up9 hS q h) (up9 hS) (fun σ114 tS H1 locs ht hvm hw115 hB hz1 hk1 hS => ?_)
              have hP : va_P D clz (WD9 cy g σ114) H1 := by rw [← ht]; exact hB
              clear hB hz1 hk1 hvm ht
              generalize H1 = H at hP hS ⊢
              have hF116 : Fr (fL [7, 8, 9, 10, 11, 12, 13, 17, 18]) σ47 σ114 := hw115.1
              have hJ117 : J9 (σ114 9) := hw115.2.1
              have b118 : ((σ47 9).1 7).toInt ≤ ((σ114 9).1 7).toInt ∧ ((σ114 9).1 7).toInt ≤ ((σ114 9).1 6).toInt := hw115.2.2.2.2.1
              have b119 : ph ((σ47 9).1 7) ((σ47 9).1 8) ≤ ph ((σ114 9).1 7) ((σ114 9).1 8) := hw115.2.2.2.2.2.1
              have b120 : ¬ ((σ114 9).1 12).toInt = 0 ∨ ((σ47 9).1 12).toInt = 0 := hw115.2.2.2.2.2.2.1
              refine lv_goto (tgt := 297) hx hb dX9_line_235 (by decide) ?_
              exact W.vret hx hb hr (fun tS ht hW => ⟨⟨σ114, rfl, ⟨Fr.tr (Fr.tr (Fr.tr (Fr.tr (Fr.rf) hF27 (fL_sub rfl)) hF38 (fL_sub rfl)) hF49 (fL_sub rfl)) hF116 (fL_sub rfl), hJ117, hw115.2.2.1, hw115.2.2.2.1, (show ((σ 9).1 7).toInt ≤ ((σ114 9).1 7).toInt ∧ ((σ114 9).1 7).toInt ≤ ((σ114 9).1 6).toInt from (by have f0 := j9_7 hJ117 rfl; have f1 := j9_6 hJ117 rfl; have f2 := congrArg Int32.toInt (show ((σ114 9).1 6) = ((σ 9).1 6) from ((hF116 9 6 rfl).1).trans (((hF49 9 6 rfl).1).trans (((hF38 9 6 rfl).1).trans ((hF27 9 6 rfl).1)))); have f3 := j9_7 hJ rfl; have f4 := j9_6 hJ rfl; have f5 := h0; have f6 := b51; have f7 := j9_6 hJ50 rfl; have f8 := congrArg Int32.toInt (show ((σ47 9).1 6) = ((σ 9).1 6) from ((hF49 9 6 rfl).1).trans (((hF38 9 6 rfl).1).trans ((hF27 9 6 rfl).1))); have f9 := j9_6 hJ39 rfl; have f10 := congrArg Int32.toInt (show ((σ37 9).1 6) = ((σ 9).1 6) from ((hF38 9 6 rfl).1).trans ((hF27 9 6 rfl).1)); have f11 := j9_7 hJ50 rfl; have f12 := j9_7 hJ39 rfl; have f13 := congrArg Int32.toInt (show ((σ37 9).1 7) = ((σ 9).1 7) from ((hF38 9 7 rfl).1).trans ((hF27 9 7 rfl).1)); have f14 := b52; have f15 := (show ph ((σ37 9).1 7) ((σ37 9).1 8) = ph ((σ 9).1 7) ((σ 9).1 8) from by rw [((hF38 9 7 rfl).1).trans ((hF27 9 7 rfl).1), ((hF38 9 8 rfl).1).trans ((hF27 9 8 rfl).1)]); have f16 := b118; have f17 := b119; omega)), (show ph ((σ 9).1 7) ((σ 9).1 8) ≤ ph ((σ114 9).1 7) ((σ114 9).1 8) from (by have f0 := b52; have f1 := j9_7 hJ39 rfl; have f2 := congrArg Int32.toInt (show ((σ37 9).1 7) = ((σ 9).1 7) from ((hF38 9 7 rfl).1).trans ((hF27 9 7 rfl).1)); have f3 := (show ph ((σ37 9).1 7) ((σ37 9).1 8) = ph ((σ 9).1 7) ((σ 9).1 8) from by rw [((hF38 9 7 rfl).1).trans ((hF27 9 7 rfl).1), ((hF38 9 8 rfl).1).trans ((hF27 9 8 rfl).1)]); have f4 := j9_7 hJ rfl; have f5 := b119; have f6 := h0; have f7 := j9_6 hJ rfl; have f8 := b51; have f9 := j9_6 hJ50 rfl; have f10 := congrArg Int32.toInt (show ((σ47 9).1 6) = ((σ 9).1 6) from ((hF49 9 6 rfl).1).trans (((hF38 9 6 rfl).1).trans ((hF27 9 6 rfl).1))); have f11 := j9_6 hJ39 rfl; have f12 := congrArg Int32.toInt (show ((σ37 9).1 6) = ((σ 9).1 6) from ((hF38 9 6 rfl).1).trans ((hF27 9 6 rfl).1)); have f13 := j9_7 hJ50 rfl; have f14 := b118; have f15 := j9_7 hJ117 rfl; have f16 := j9_6 hJ117 rfl; have f17 := congrArg Int32.toInt (show ((σ114 9).1 6) = ((σ 9).1 6) from ((hF116 9 6 rfl).1).trans (((hF49 9 6 rfl).1).trans (((hF38 9 6 rfl).1).trans ((hF27 9 6 rfl).1)))); omega)), (show ¬ ((σ114 9).1 12).toInt = 0 ∨ ((σ 9).1 12).toInt = 0 from (by have f0 := b29; have f1 := b120; have f2 := congrArg Int32.toInt (show ((σ47 9).1 12) = ((σ37 9).1 12) from (hF49 9 12 rfl).1); have f3 := k33; have f4 := b40; have f5 := h17_2 hJ (j := 22) (by decide); have f6 := h17_4 hJ (j := 24) (by decide); have f7 := h17_3 hJ (j := 23) (by decide); have f8 := b41; have f9 := k45; have f10 := b8; have f11 := b14; have f12 := b18; have f13 := k112; have zm1 : ((-1) : Int32).toInt = (-1) := (by decide); have z0 : (0 : Int32).toInt = 0 := (by decide); omega)), trivial⟩, (show va_P D clz (WD9 cy g σ114) tS.heap by rw [ht]; exact hP)⟩, hS.F ht⟩) hS.2.2 dX9_line_297
          ·
            have k121 := neq32 c44
            exact W.vret hx hb hr (fun tS ht hW => ⟨⟨σ37, rfl, ⟨Fr.tr (Fr.tr (Fr.rf) hF27 (fL_sub rfl)) hF38 (fL_sub rfl), hJ39, b42, b43, (show ((σ 9).1 7).toInt ≤ ((σ37 9).1 7).toInt ∧ ((σ37 9).1 7).toInt ≤ ((σ37 9).1 6).toInt from (by have f0 := j9_6 hJ39 rfl; have f1 := congrArg Int32.toInt (show ((σ37 9).1 6) = ((σ 9).1 6) from ((hF38 9 6 rfl).1).trans ((hF27 9 6 rfl).1)); have f2 := j9_7 hJ rfl; have f3 := j9_7 hJ39 rfl; have f4 := congrArg Int32.toInt (show ((σ37 9).1 7) = ((σ 9).1 7) from ((hF38 9 7 rfl).1).trans ((hF27 9 7 rfl).1)); have f5 := j9_6 hJ rfl; have f6 := h0; omega)), (show ph ((σ 9).1 7) ((σ 9).1 8) ≤ ph ((σ37 9).1 7) ((σ37 9).1 8) from (by have f0 := (show ph ((σ37 9).1 7) ((σ37 9).1 8) = ph ((σ 9).1 7) ((σ 9).1 8) from by rw [((hF38 9 7 rfl).1).trans ((hF27 9 7 rfl).1), ((hF38 9 8 rfl).1).trans ((hF27 9 8 rfl).1)]); omega)), (show ¬ ((σ37 9).1 12).toInt = 0 ∨ ((σ 9).1 12).toInt = 0 from (by have f0 := k121; have f1 := b29; have f2 := b40; have f3 := h17_2 hJ (j := 22) (by decide); have f4 := h17_4 hJ (j := 24) (by decide); have f5 := h17_3 hJ (j := 23) (by decide); have f6 := b41; have f7 := k33; have f8 := b8; have f9 := b14; have f10 := b18; have z0 : (0 : Int32).toInt = 0 := (by decide); omega)), trivial⟩, (show va_P D clz (WD9 cy g σ37) tS.heap by rw [ht]; exact hP)⟩, hS.F ht⟩) hS.2.2 dX9_line_220
        ·
          intro nj34
          refine cut9 (D := D) (cy := cy) (g := g) (A := A9 cy g s.heap.size) (H0 := s.heap) 5 167 (fun x : LZ => [(4, .int r19), (3, .int r15), (2, .int r11), (1, .int (y7.2.1 0)), (0, .ref (g 60))]) (fun x : LZ => []) (fun x : LZ => (x.1 = σ26) ∧ (¬ (y7.2.1 0).toInt = -1 ∨ ¬ r11.toInt = 0 ∨ ¬ r15.toInt = 0) ∧ (RD (σ26 9)) ∧ (DKA (σ26 9)) ∧ True) ?_ ?_
          ·
            intro y124 hI123 H locs ls hP hS hl
            rw [show y124.1 = σ26 from hI123.1] at hP
            have b125 : ¬ (y7.2.1 0).toInt = -1 ∨ ¬ r11.toInt = 0 ∨ ¬ r15.toInt = 0 := hI123.2.1
            have b126 : RD (σ26 9) := hI123.2.2.1
            have b127 : DKA (σ26 9) := hI123.2.2.2.1
            have hl : lv_has ls 5 [(4, .int r19), (3, .int r15), (2, .int r11), (1, .int (y7.2.1 0)), (0, .ref (g 60))] := hl
            refine lv_iload_n hx hb dX9_line_167 rfl (lv_at hl 3 rfl) ?_
            refine lv_iconst (v := (-1)) hx hb dX9_line_168 (by decide) ?_
            refine lv_icmp_eq (tgt := 181) hx hb dX9_line_169 (by decide) (fun c128 => ?_) (fun c128 => ?_)
            ·
              have k129 := peq32 c128
              refine lv_iload_n hx hb dX9_line_181 rfl (lv_at hl 2 rfl) ?_
              refine lv_if_eq (tgt := 195) hx hb dX9_line_182 (by decide) (fun c130 => ?_) (fun c130 => ?_)
              ·
                have k131 := peq32 c130
                refine lv_iload_n hx hb dX9_line_195 rfl (lv_at hl 1 rfl) ?_
                refine lv_if_eq (tgt := 213) hx hb dX9_line_196 (by decide) (fun c132 => ?_) (fun c132 => ?_)
                ·
                  have k133 := peq32 c132
                  exact nj34 (σ26, lf [], lg []) ⟨Fr.rf, hJ28, (show ¬ ((σ26 9).1 12).toInt = 0 ∨ ((¬ (y7.2.1 0).toInt = -1 → ((σ 9).2.2.1 17 22).toInt ≤ 3) ∧ (¬ r11.toInt = 0 → ((σ 9).2.2.1 17 23).toInt ≤ 8) ∧ (¬ r15.toInt = 0 → ((σ 9).2.2.1 17 24).toInt ≤ 2) ∧ ((y7.2.1 0).toInt = -1 → r11.toInt = 0 → r15.toInt = 0 → 1 ≤ ((σ 9).2.2.1 17 24).toInt ∧ ((σ 9).2.2.1 20 (11 + ((σ 9).2.2.1 17 24).toInt.toNat)).toInt ≤ 15)) from (by have f0 := h17_2 hJ (j := 22) (by decide); have f1 := h17_4 hJ (j := 24) (by decide); have f2 := h17_3 hJ (j := 23) (by decide); have f3 := b8; have f4 := b14; have f5 := b18; have f6 := k33; have f7 := k129; have f8 := k131; have f9 := k133; have f10 := b29; have f11 := b125; have g6 := rg32 (y7.2.1 0); have g7 := rg32 r11; have g8 := rg32 r15; have zm1 : ((-1) : Int32).toInt = (-1) := (by decide); have z0 : (0 : Int32).toInt = 0 := (by decide); omega)), (show ¬ ((σ26 9).1 12).toInt = 0 ∨ ((σ26 9).1 12).toInt = 0 from (by have f0 := k33; have f1 := b29; have z0 : (0 : Int32).toInt = 0 := (by decide); omega)), (show RD (σ26 9) from b126), (show DKA (σ26 9) from b127), trivial⟩ _ _ _ hP hS (lv_sub hl [0, 1, 2, 3, 4] rfl)
                ·
                  have k134 := neq32 c132
                  refine lv_aload_n hx hb dX9_line_199 rfl (lv_at hl 4 rfl) ?_
                  refine lv_iconst (v := 4) hx hb dX9_line_200 (by decide) ?_
                  refine va_calli (va_runV (As := [.int 4]) (rest := []) ⟨hx, hb, hml, hown, hts⟩ (m_X9_hasRead l D cy g σ26 (4) _ hJ28 (show (0 : Int) ≤ (4 : Int32).toInt ∧ (4 : Int32).toInt ≤ 4 from (by have z4 : (4 : Int32).toInt = 4 := (by decide); omega))) (cwV 1 hts (gd_V q1647 q1649 q62 q134 q1650) rfl rfl rfl (by decide +kernel) ⟨Nat.le_of_ble_eq_true rfl, Nat.le_of_ble_eq_true rfl⟩) (pv9 hP hK hD hC hS (va_recv hK hP (ci := 9) (q0 := 0) rfl rfl)) rfl rfl hl.1 rfl (lv_room (Nat.le_of_ble_eq_true rfl)) dX9_line_201 ⟨Nat.le_of_ble_eq_true rfl, Nat.le_of_ble_eq_true rfl⟩) hS (fun q _ h => up9 hS q h) (up9 hS) (fun r135 σ136 tS H1 locs ht hvm hw137 hB hz1 hk1 hS => ?_)
                  have hP : va_P D clz (WD9 cy g σ136) H1 := by rw [← ht]; exact hB
                  clear hB hz1 hk1 hvm ht
                  generalize H1 = H at hP hS ⊢
                  have hw137E : σ26 = σ136 := (hw137.1).symm
                  subst hw137E
                  have b138 : (0 : Int) ≤ r135.toInt ∧ r135.toInt ≤ 60 := hw137.2.1
                  have b139 : ((4 : Int32).toInt = 2 → r135.toInt = ((σ26 9).2.2.1 17 22).toInt) ∧ ((4 : Int32).toInt = 3 → r135.toInt = ((σ26 9).2.2.1 17 23).toInt) ∧ ((4 : Int32).toInt = 4 → r135.toInt = ((σ26 9).2.2.1 17 24).toInt) := hw137.2.2.1
                  have b139c := b139.2.2 (by decide)
                  refine lv_iconst (v := 3) hx hb dX9_line_204 (by decide) ?_
                  refine lv_icmp_ne (tgt := 213) hx hb dX9_line_205 (by decide) (fun c140 => ?_) (fun c140 => ?_)
                  ·
                    have k141 := neq32 c140
                    exact nj34 (σ26, lf [], lg []) ⟨Fr.rf, hJ28, (show ¬ ((σ26 9).1 12).toInt = 0 ∨ ((¬ (y7.2.1 0).toInt = -1 → ((σ 9).2.2.1 17 22).toInt ≤ 3) ∧ (¬ r11.toInt = 0 → ((σ 9).2.2.1 17 23).toInt ≤ 8) ∧ (¬ r15.toInt = 0 → ((σ 9).2.2.1 17 24).toInt ≤ 2) ∧ ((y7.2.1 0).toInt = -1 → r11.toInt = 0 → r15.toInt = 0 → 1 ≤ ((σ 9).2.2.1 17 24).toInt ∧ ((σ 9).2.2.1 20 (11 + ((σ 9).2.2.1 17 24).toInt.toNat)).toInt ≤ 15)) from (by have f0 := h17_2 hJ (j := 22) (by decide); have f1 := h17_4 hJ (j := 24) (by decide); have f2 := h17_3 hJ (j := 23) (by decide); have f3 := b8; have f4 := b14; have f5 := b18; have f6 := k33; have f7 := k129; have f8 := k131; have f9 := k134; have f10 := b139c; have f11 := h17_4 hJ28 (j := 24) (by decide); have f12 := congrArg Int32.toInt (show ((σ26 9).2.2.1 17 24) = ((σ 9).2.2.1 17 24) from congrFun ((hF27 9 17 rfl).2.2.1) _); have f13 := k141; have f14 := b138; have f15 := b29; have f16 := b125; have g7 := rg32 (y7.2.1 0); have g8 := rg32 r11; have g9 := rg32 r15; have zm1 : ((-1) : Int32).toInt = (-1) := (by decide); have z0 : (0 : Int32).toInt = 0 := (by decide); have z3 : (3 : Int32).toInt = 3 := (by decide); omega)), (show ¬ ((σ26 9).1 12).toInt = 0 ∨ ((σ26 9).1 12).toInt = 0 from (by have f0 := k33; have f1 := b29; have z0 : (0 : Int32).toInt = 0 := (by decide); omega)), (show RD (σ26 9) from b126), (show DKA (σ26 9) from b127), trivial⟩ _ _ _ hP hS (lv_sub hl [0, 1, 2, 3, 4] rfl)
                  ·
                    have k142 := peq32 c140
                    refine lv_aload_n hx hb dX9_line_208 rfl (lv_at hl 4 rfl) ?_
                    refine lv_iconst (v := 3) hx hb dX9_line_209 (by decide) ?_
                    refine va_callv (va_runV (As := [.int 3]) (rest := []) ⟨hx, hb, hml, hown, hts⟩ (m_X9_fails l D cy g σ26 (3) _ hJ28 (show (1 : Int) ≤ (3 : Int32).toInt ∧ (3 : Int32).toInt ≤ 3 from (by have z3 : (3 : Int32).toInt = 3 := (by decide); omega))) (cwV 1 hts (gd_V q1622 q1624 q58 q134 q1625) rfl rfl rfl (by decide +kernel) ⟨Nat.le_of_ble_eq_true rfl, Nat.le_of_ble_eq_true rfl⟩) (pv9 hP hK hD hC hS (va_recv hK hP (ci := 9) (q0 := 0) rfl rfl)) rfl rfl hl.1 rfl (lv_room (Nat.le_of_ble_eq_true rfl)) dX9_line_210 ⟨Nat.le_of_ble_eq_true rfl, Nat.le_of_ble_eq_true rfl⟩) hS (fun q _ h => up9 hS q h) (up9 hS) (fun σ144 tS H1 locs ht hvm hw145 hB hz1 hk1 hS => ?_)
                    have hP : va_P D clz (WD9 cy g σ144) H1 := by rw [← ht]; exact hB
                    clear hB hz1 hk1 hvm ht
                    generalize H1 = H at hP hS ⊢
                    have hF146 : Fr (fL [12, 13]) σ26 σ144 := hw145.1
                    have hJ147 : J9 (σ144 9) := hw145.2.1
                    have b148 : ¬ ((σ144 9).1 12).toInt = 0 := hw145.2.2.1
                    have T149 : RD (σ144 9) := RD.call b126 (by have f0 := k33; have f1 := b148; have f2 := b29; have z0 : (0 : Int32).toInt = 0 := (by decide); omega) (hF146 9 17 rfl).2.2.1 (hF146 9 18 rfl).2.2.1 (hF146 9 19 rfl).2.2.1
                    have T150 : DKA (σ144 9) := DKA.mv b127 (hF146 9 17 rfl).2.2.1 (hF146 9 18 rfl).2.2.1 (hF146 9 19 rfl).2.2.1
                    exact nj34 (σ144, lf [], lg []) ⟨Fr.tr (Fr.rf) hF146 (fL_sub rfl), hJ147, (show ¬ ((σ144 9).1 12).toInt = 0 ∨ ((¬ (y7.2.1 0).toInt = -1 → ((σ 9).2.2.1 17 22).toInt ≤ 3) ∧ (¬ r11.toInt = 0 → ((σ 9).2.2.1 17 23).toInt ≤ 8) ∧ (¬ r15.toInt = 0 → ((σ 9).2.2.1 17 24).toInt ≤ 2) ∧ ((y7.2.1 0).toInt = -1 → r11.toInt = 0 → r15.toInt = 0 → 1 ≤ ((σ 9).2.2.1 17 24).toInt ∧ ((σ 9).2.2.1 20 (11 + ((σ 9).2.2.1 17 24).toInt.toNat)).toInt ≤ 15)) from (by have f0 := h17_2 hJ (j := 22) (by decide); have f1 := h17_4 hJ (j := 24) (by decide); have f2 := h17_3 hJ (j := 23) (by decide); have f3 := b8; have f4 := b14; have f5 := b18; have f6 := k129; have f7 := k131; have f8 := k134; have f9 := b139c; have f10 := h17_4 hJ28 (j := 24) (by decide); have f11 := congrArg Int32.toInt (show ((σ26 9).2.2.1 17 24) = ((σ 9).2.2.1 17 24) from congrFun ((hF27 9 17 rfl).2.2.1) _); have f12 := k142; have f13 := b148; have f14 := b138; have f15 := b125; have g6 := rg32 (y7.2.1 0); have g7 := rg32 r11; have g8 := rg32 r15; have zm1 : ((-1) : Int32).toInt = (-1) := (by decide); have z0 : (0 : Int32).toInt = 0 := (by decide); have z3 : (3 : Int32).toInt = 3 := (by decide); omega)), (show ¬ ((σ144 9).1 12).toInt = 0 ∨ ((σ26 9).1 12).toInt = 0 from (by have f0 := k33; have f1 := b148; have f2 := b29; have z0 : (0 : Int32).toInt = 0 := (by decide); omega)), (show RD (σ144 9) from T149), (show DKA (σ144 9) from T150), trivial⟩ _ _ _ hP hS (lv_sub hl [0, 1, 2, 3, 4] rfl)
              ·
                have k151 := neq32 c130
                refine lv_aload_n hx hb dX9_line_185 rfl (lv_at hl 4 rfl) ?_
                refine lv_iconst (v := 3) hx hb dX9_line_186 (by decide) ?_
                refine va_calli (va_runV (As := [.int 3]) (rest := []) ⟨hx, hb, hml, hown, hts⟩ (m_X9_hasRead l D cy g σ26 (3) _ hJ28 (show (0 : Int) ≤ (3 : Int32).toInt ∧ (3 : Int32).toInt ≤ 4 from (by have z3 : (3 : Int32).toInt = 3 := (by decide); omega))) (cwV 1 hts (gd_V q1647 q1649 q62 q134 q1650) rfl rfl rfl (by decide +kernel) ⟨Nat.le_of_ble_eq_true rfl, Nat.le_of_ble_eq_true rfl⟩) (pv9 hP hK hD hC hS (va_recv hK hP (ci := 9) (q0 := 0) rfl rfl)) rfl rfl hl.1 rfl (lv_room (Nat.le_of_ble_eq_true rfl)) dX9_line_187 ⟨Nat.le_of_ble_eq_true rfl, Nat.le_of_ble_eq_true rfl⟩) hS (fun q _ h => up9 hS q h) (up9 hS) (fun r152 σ153 tS H1 locs ht hvm hw154 hB hz1 hk1 hS => ?_)
                have hP : va_P D clz (WD9 cy g σ153) H1 := by rw [← ht]; exact hB
                clear hB hz1 hk1 hvm ht
                generalize H1 = H at hP hS ⊢
                have hw154E : σ26 = σ153 := (hw154.1).symm
                subst hw154E
                have b155 : (0 : Int) ≤ r152.toInt ∧ r152.toInt ≤ 60 := hw154.2.1
                have b156 : ((3 : Int32).toInt = 2 → r152.toInt = ((σ26 9).2.2.1 17 22).toInt) ∧ ((3 : Int32).toInt = 3 → r152.toInt = ((σ26 9).2.2.1 17 23).toInt) ∧ ((3 : Int32).toInt = 4 → r152.toInt = ((σ26 9).2.2.1 17 24).toInt) := hw154.2.2.1
                have b156c := b156.2.1 (by decide)
                refine lv_bipush (v := 9) hx hb dX9_line_190 (by decide) ?_
                refine lv_icmp_eq (tgt := 208) hx hb dX9_line_192 (by decide) (fun c157 => ?_) (fun c157 => ?_)
                ·
                  have k158 := peq32 c157
                  refine lv_aload_n hx hb dX9_line_208 rfl (lv_at hl 4 rfl) ?_
                  refine lv_iconst (v := 3) hx hb dX9_line_209 (by decide) ?_
                  refine va_callv (va_runV (As := [.int 3]) (rest := []) ⟨hx, hb, hml, hown, hts⟩ (m_X9_fails l D cy g σ26 (3) _ hJ28 (show (1 : Int) ≤ (3 : Int32).toInt ∧ (3 : Int32).toInt ≤ 3 from (by have z3 : (3 : Int32).toInt = 3 := (by decide); omega))) (cwV 1 hts (gd_V q1622 q1624 q58 q134 q1625) rfl rfl rfl (by decide +kernel) ⟨Nat.le_of_ble_eq_true rfl, Nat.le_of_ble_eq_true rfl⟩) (pv9 hP hK hD hC hS (va_recv hK hP (ci := 9) (q0 := 0) rfl rfl)) rfl rfl hl.1 rfl (lv_room (Nat.le_of_ble_eq_true rfl)) dX9_line_210 ⟨Nat.le_of_ble_eq_true rfl, Nat.le_of_ble_eq_true rfl⟩) hS (fun q _ h => up9 hS q h) (up9 hS) (fun σ160 tS H1 locs ht hvm hw161 hB hz1 hk1 hS => ?_)
                  have hP : va_P D clz (WD9 cy g σ160) H1 := by rw [← ht]; exact hB
                  clear hB hz1 hk1 hvm ht
                  generalize H1 = H at hP hS ⊢
                  have hF162 : Fr (fL [12, 13]) σ26 σ160 := hw161.1
                  have hJ163 : J9 (σ160 9) := hw161.2.1
                  have b164 : ¬ ((σ160 9).1 12).toInt = 0 := hw161.2.2.1
                  have T165 : RD (σ160 9) := RD.call b126 (by have f0 := k33; have f1 := b164; have f2 := b29; have z0 : (0 : Int32).toInt = 0 := (by decide); omega) (hF162 9 17 rfl).2.2.1 (hF162 9 18 rfl).2.2.1 (hF162 9 19 rfl).2.2.1
                  have T166 : DKA (σ160 9) := DKA.mv b127 (hF162 9 17 rfl).2.2.1 (hF162 9 18 rfl).2.2.1 (hF162 9 19 rfl).2.2.1
                  exact nj34 (σ160, lf [], lg []) ⟨Fr.tr (Fr.rf) hF162 (fL_sub rfl), hJ163, (show ¬ ((σ160 9).1 12).toInt = 0 ∨ ((¬ (y7.2.1 0).toInt = -1 → ((σ 9).2.2.1 17 22).toInt ≤ 3) ∧ (¬ r11.toInt = 0 → ((σ 9).2.2.1 17 23).toInt ≤ 8) ∧ (¬ r15.toInt = 0 → ((σ 9).2.2.1 17 24).toInt ≤ 2) ∧ ((y7.2.1 0).toInt = -1 → r11.toInt = 0 → r15.toInt = 0 → 1 ≤ ((σ 9).2.2.1 17 24).toInt ∧ ((σ 9).2.2.1 20 (11 + ((σ 9).2.2.1 17 24).toInt.toNat)).toInt ≤ 15)) from (by have f0 := h17_2 hJ (j := 22) (by decide); have f1 := h17_4 hJ (j := 24) (by decide); have f2 := h17_3 hJ (j := 23) (by decide); have f3 := b8; have f4 := b14; have f5 := b18; have f6 := k129; have f7 := k151; have f8 := b156c; have f9 := h17_3 hJ28 (j := 23) (by decide); have f10 := congrArg Int32.toInt (show ((σ26 9).2.2.1 17 23) = ((σ 9).2.2.1 17 23) from congrFun ((hF27 9 17 rfl).2.2.1) _); have f11 := k158; have f12 := b164; have f13 := b155; have f14 := b125; have g6 := rg32 (y7.2.1 0); have g7 := rg32 r11; have g8 := rg32 r15; have zm1 : ((-1) : Int32).toInt = (-1) := (by decide); have z0 : (0 : Int32).toInt = 0 := (by decide); have z9 : (9 : Int32).toInt = 9 := (by decide); omega)), (show ¬ ((σ160 9).1 12).toInt = 0 ∨ ((σ26 9).1 12).toInt = 0 from (by have f0 := k33; have f1 := b164; have f2 := b29; have z0 : (0 : Int32).toInt = 0 := (by decide); omega)), (show RD (σ160 9) from T165), (show DKA (σ160 9) from T166), trivial⟩ _ _ _ hP hS (lv_sub hl [0, 1, 2, 3, 4] rfl)
                ·
                  have k167 := neq32 c157
                  refine lv_iload_n hx hb dX9_line_195 rfl (lv_at hl 1 rfl) ?_
                  refine lv_if_eq (tgt := 213) hx hb dX9_line_196 (by decide) (fun c168 => ?_) (fun c168 => ?_)
                  ·
                    have k169 := peq32 c168
                    exact nj34 (σ26, lf [], lg []) ⟨Fr.rf, hJ28, (show ¬ ((σ26 9).1 12).toInt = 0 ∨ ((¬ (y7.2.1 0).toInt = -1 → ((σ 9).2.2.1 17 22).toInt ≤ 3) ∧ (¬ r11.toInt = 0 → ((σ 9).2.2.1 17 23).toInt ≤ 8) ∧ (¬ r15.toInt = 0 → ((σ 9).2.2.1 17 24).toInt ≤ 2) ∧ ((y7.2.1 0).toInt = -1 → r11.toInt = 0 → r15.toInt = 0 → 1 ≤ ((σ 9).2.2.1 17 24).toInt ∧ ((σ 9).2.2.1 20 (11 + ((σ 9).2.2.1 17 24).toInt.toNat)).toInt ≤ 15)) from (by have f0 := h17_2 hJ (j := 22) (by decide); have f1 := h17_4 hJ (j := 24) (by decide); have f2 := h17_3 hJ (j := 23) (by decide); have f3 := b8; have f4 := b14; have f5 := b18; have f6 := k33; have f7 := k129; have f8 := k151; have f9 := b156c; have f10 := h17_3 hJ28 (j := 23) (by decide); have f11 := congrArg Int32.toInt (show ((σ26 9).2.2.1 17 23) = ((σ 9).2.2.1 17 23) from congrFun ((hF27 9 17 rfl).2.2.1) _); have f12 := k167; have f13 := k169; have f14 := b155; have f15 := b29; have f16 := b125; have g7 := rg32 (y7.2.1 0); have g8 := rg32 r11; have g9 := rg32 r15; have zm1 : ((-1) : Int32).toInt = (-1) := (by decide); have z0 : (0 : Int32).toInt = 0 := (by decide); have z9 : (9 : Int32).toInt = 9 := (by decide); omega)), (show ¬ ((σ26 9).1 12).toInt = 0 ∨ ((σ26 9).1 12).toInt = 0 from (by have f0 := k33; have f1 := b29; have z0 : (0 : Int32).toInt = 0 := (by decide); omega)), (show RD (σ26 9) from b126), (show DKA (σ26 9) from b127), trivial⟩ _ _ _ hP hS (lv_sub hl [0, 1, 2, 3, 4] rfl)
                  ·
                    have k170 := neq32 c168
                    refine lv_aload_n hx hb dX9_line_199 rfl (lv_at hl 4 rfl) ?_
                    refine lv_iconst (v := 4) hx hb dX9_line_200 (by decide) ?_
                    refine va_calli (va_runV (As := [.int 4]) (rest := []) ⟨hx, hb, hml, hown, hts⟩ (m_X9_hasRead l D cy g σ26 (4) _ hJ28 (show (0 : Int) ≤ (4 : Int32).toInt ∧ (4 : Int32).toInt ≤ 4 from (by have z4 : (4 : Int32).toInt = 4 := (by decide); omega))) (cwV 1 hts (gd_V q1647 q1649 q62 q134 q1650) rfl rfl rfl (by decide +kernel) ⟨Nat.le_of_ble_eq_true rfl, Nat.le_of_ble_eq_true rfl⟩) (pv9 hP hK hD hC hS (va_recv hK hP (ci := 9) (q0 := 0) rfl rfl)) rfl rfl hl.1 rfl (lv_room (Nat.le_of_ble_eq_true rfl)) dX9_line_201 ⟨Nat.le_of_ble_eq_true rfl, Nat.le_of_ble_eq_true rfl⟩) hS (fun q _ h => up9 hS q h) (up9 hS) (fun r171 σ172 tS H1 locs ht hvm hw173 hB hz1 hk1 hS => ?_)
                    have hP : va_P D clz (WD9 cy g σ172) H1 := by rw [← ht]; exact hB
                    clear hB hz1 hk1 hvm ht
                    generalize H1 = H at hP hS ⊢
                    have hw173E : σ26 = σ172 := (hw173.1).symm
                    subst hw173E
                    have b174 : (0 : Int) ≤ r171.toInt ∧ r171.toInt ≤ 60 := hw173.2.1
                    have b175 : ((4 : Int32).toInt = 2 → r171.toInt = ((σ26 9).2.2.1 17 22).toInt) ∧ ((4 : Int32).toInt = 3 → r171.toInt = ((σ26 9).2.2.1 17 23).toInt) ∧ ((4 : Int32).toInt = 4 → r171.toInt = ((σ26 9).2.2.1 17 24).toInt) := hw173.2.2.1
                    have b175c := b175.2.2 (by decide)
                    refine lv_iconst (v := 3) hx hb dX9_line_204 (by decide) ?_
                    refine lv_icmp_ne (tgt := 213) hx hb dX9_line_205 (by decide) (fun c176 => ?_) (fun c176 => ?_)
                    ·
                      have k177 := neq32 c176
                      exact nj34 (σ26, lf [], lg []) ⟨Fr.rf, hJ28, (show ¬ ((σ26 9).1 12).toInt = 0 ∨ ((¬ (y7.2.1 0).toInt = -1 → ((σ 9).2.2.1 17 22).toInt ≤ 3) ∧ (¬ r11.toInt = 0 → ((σ 9).2.2.1 17 23).toInt ≤ 8) ∧ (¬ r15.toInt = 0 → ((σ 9).2.2.1 17 24).toInt ≤ 2) ∧ ((y7.2.1 0).toInt = -1 → r11.toInt = 0 → r15.toInt = 0 → 1 ≤ ((σ 9).2.2.1 17 24).toInt ∧ ((σ 9).2.2.1 20 (11 + ((σ 9).2.2.1 17 24).toInt.toNat)).toInt ≤ 15)) from (by have f0 := h17_2 hJ (j := 22) (by decide); have f1 := h17_4 hJ (j := 24) (by decide); have f2 := h17_3 hJ (j := 23) (by decide); have f3 := b8; have f4 := b14; have f5 := b18; have f6 := k33; have f7 := k129; have f8 := k151; have f9 := b156c; have f10 := h17_3 hJ28 (j := 23) (by decide); have f11 := congrArg Int32.toInt (show ((σ26 9).2.2.1 17 23) = ((σ 9).2.2.1 17 23) from congrFun ((hF27 9 17 rfl).2.2.1) _); have f12 := k167; have f13 := k170; have f14 := b175c; have f15 := h17_4 hJ28 (j := 24) (by decide); have f16 := congrArg Int32.toInt (show ((σ26 9).2.2.1 17 24) = ((σ 9).2.2.1 17 24) from congrFun ((hF27 9 17 rfl).2.2.1) _); have f17 := k177; have f18 := b155; have f19 := b174; have f20 := b29; have f21 := b125; have g8 := rg32 (y7.2.1 0); have g9 := rg32 r11; have g10 := rg32 r15; have zm1 : ((-1) : Int32).toInt = (-1) := (by decide); have z0 : (0 : Int32).toInt = 0 := (by decide); have z3 : (3 : Int32).toInt = 3 := (by decide); have z9 : (9 : Int32).toInt = 9 := (by decide); omega)), (show ¬ ((σ26 9).1 12).toInt = 0 ∨ ((σ26 9).1 12).toInt = 0 from (by have f0 := k33; have f1 := b29; have z0 : (0 : Int32).toInt = 0 := (by decide); omega)), (show RD (σ26 9) from b126), (show DKA (σ26 9) from b127), trivial⟩ _ _ _ hP hS (lv_sub hl [0, 1, 2, 3, 4] rfl)
                    ·
                      have k178 := peq32 c176
                      refine lv_aload_n hx hb dX9_line_208 rfl (lv_at hl 4 rfl) ?_
                      refine lv_iconst (v := 3) hx hb dX9_line_209 (by decide) ?_
                      refine va_callv (va_runV (As := [.int 3]) (rest := []) ⟨hx, hb, hml, hown, hts⟩ (m_X9_fails l D cy g σ26 (3) _ hJ28 (show (1 : Int) ≤ (3 : Int32).toInt ∧ (3 : Int32).toInt ≤ 3 from (by have z3 : (3 : Int32).toInt = 3 := (by decide); omega))) (cwV 1 hts (gd_V q1622 q1624 q58 q134 q1625) rfl rfl rfl (by decide +kernel) ⟨Nat.le_of_ble_eq_true rfl, Nat.le_of_ble_eq_true rfl⟩) (pv9 hP hK hD hC hS (va_recv hK hP (ci := 9) (q0 := 0) rfl rfl)) rfl rfl hl.1 rfl (lv_room (Nat.le_of_ble_eq_true rfl)) dX9_line_210 ⟨Nat.le_of_ble_eq_true rfl, Nat.le_of_ble_eq_true rfl⟩) hS (fun q _ h => up9 hS q h) (up9 hS) (fun σ180 tS H1 locs ht hvm hw181 hB hz1 hk1 hS => ?_)
                      have hP : va_P D clz (WD9 cy g σ180) H1 := by rw [← ht]; exact hB
                      clear hB hz1 hk1 hvm ht
                      generalize H1 = H at hP hS ⊢
                      have hF182 : Fr (fL [12, 13]) σ26 σ180 := hw181.1
                      have hJ183 : J9 (σ180 9) := hw181.2.1
                      have b184 : ¬ ((σ180 9).1 12).toInt = 0 := hw181.2.2.1
                      have T185 : RD (σ180 9) := RD.call b126 (by have f0 := k33; have f1 := b184; have f2 := b29; have z0 : (0 : Int32).toInt = 0 := (by decide); omega) (hF182 9 17 rfl).2.2.1 (hF182 9 18 rfl).2.2.1 (hF182 9 19 rfl).2.2.1
                      have T186 : DKA (σ180 9) := DKA.mv b127 (hF182 9 17 rfl).2.2.1 (hF182 9 18 rfl).2.2.1 (hF182 9 19 rfl).2.2.1
                      exact nj34 (σ180, lf [], lg []) ⟨Fr.tr (Fr.rf) hF182 (fL_sub rfl), hJ183, (show ¬ ((σ180 9).1 12).toInt = 0 ∨ ((¬ (y7.2.1 0).toInt = -1 → ((σ 9).2.2.1 17 22).toInt ≤ 3) ∧ (¬ r11.toInt = 0 → ((σ 9).2.2.1 17 23).toInt ≤ 8) ∧ (¬ r15.toInt = 0 → ((σ 9).2.2.1 17 24).toInt ≤ 2) ∧ ((y7.2.1 0).toInt = -1 → r11.toInt = 0 → r15.toInt = 0 → 1 ≤ ((σ 9).2.2.1 17 24).toInt ∧ ((σ 9).2.2.1 20 (11 + ((σ 9).2.2.1 17 24).toInt.toNat)).toInt ≤ 15)) from (by have f0 := h17_2 hJ (j := 22) (by decide); have f1 := h17_4 hJ (j := 24) (by decide); have f2 := h17_3 hJ (j := 23) (by decide); have f3 := b8; have f4 := b14; have f5 := b18; have f6 := k129; have f7 := k151; have f8 := b156c; have f9 := h17_3 hJ28 (j := 23) (by decide); have f10 := congrArg Int32.toInt (show ((σ26 9).2.2.1 17 23) = ((σ 9).2.2.1 17 23) from congrFun ((hF27 9 17 rfl).2.2.1) _); have f11 := k167; have f12 := k170; have f13 := b175c; have f14 := h17_4 hJ28 (j := 24) (by decide); have f15 := congrArg Int32.toInt (show ((σ26 9).2.2.1 17 24) = ((σ 9).2.2.1 17 24) from congrFun ((hF27 9 17 rfl).2.2.1) _); have f16 := k178; have f17 := b184; have f18 := b155; have f19 := b174; have f20 := b125; have g7 := rg32 (y7.2.1 0); have g8 := rg32 r11; have g9 := rg32 r15; have zm1 : ((-1) : Int32).toInt = (-1) := (by decide); have z0 : (0 : Int32).toInt = 0 := (by decide); have z3 : (3 : Int32).toInt = 3 := (by decide); have z9 : (9 : Int32).toInt = 9 := (by decide); omega)), (show ¬ ((σ180 9).1 12).toInt = 0 ∨ ((σ26 9).1 12).toInt = 0 from (by have f0 := k33; have f1 := b184; have f2 := b29; have z0 : (0 : Int32).toInt = 0 := (by decide); omega)), (show RD (σ180 9) from T185), (show DKA (σ180 9) from T186), trivial⟩ _ _ _ hP hS (lv_sub hl [0, 1, 2, 3, 4] rfl)
            ·
              have k187 := neq32 c128
              refine lv_aload_n hx hb dX9_line_172 rfl (lv_at hl 4 rfl) ?_
              refine lv_iconst (v := 2) hx hb dX9_line_173 (by decide) ?_
              refine va_calli (va_runV (As := [.int 2]) (rest := []) ⟨hx, hb, hml, hown, hts⟩ (m_X9_hasRead l D cy g σ26 (2) _ hJ28 (show (0 : Int) ≤ (2 : Int32).toInt ∧ (2 : Int32).toInt ≤ 4 from (by have z2 : (2 : Int32).toInt = 2 := (by decide); omega))) (cwV 1 hts (gd_V q1647 q1649 q62 q134 q1650) rfl rfl rfl (by decide +kernel) ⟨Nat.le_of_ble_eq_true rfl, Nat.le_of_ble_eq_true rfl⟩) (pv9 hP hK hD hC hS (va_recv hK hP (ci := 9) (q0 := 0) rfl rfl)) rfl rfl hl.1 rfl (lv_room (Nat.le_of_ble_eq_true rfl)) dX9_line_174 ⟨Nat.le_of_ble_eq_true rfl, Nat.le_of_ble_eq_true rfl⟩) hS (fun q _ h => up9 hS q h) (up9 hS) (fun r188 σ189 tS H1 locs ht hvm hw190 hB hz1 hk1 hS => ?_)
              have hP : va_P D clz (WD9 cy g σ189) H1 := by rw [← ht]; exact hB
              clear hB hz1 hk1 hvm ht
              generalize H1 = H at hP hS ⊢
              have hw190E : σ26 = σ189 := (hw190.1).symm
              subst hw190E
              have b191 : (0 : Int) ≤ r188.toInt ∧ r188.toInt ≤ 60 := hw190.2.1
              have b192 : ((2 : Int32).toInt = 2 → r188.toInt = ((σ26 9).2.2.1 17 22).toInt) ∧ ((2 : Int32).toInt = 3 → r188.toInt = ((σ26 9).2.2.1 17 23).toInt) ∧ ((2 : Int32).toInt = 4 → r188.toInt = ((σ26 9).2.2.1 17 24).toInt) := hw190.2.2.1
              have b192c := b192.1 (by decide)
              refine lv_iconst (v := 4) hx hb dX9_line_177 (by decide) ?_
              refine lv_icmp_eq (tgt := 208) hx hb dX9_line_178 (by decide) (fun c193 => ?_) (fun c193 => ?_)
              ·
                have k194 := peq32 c193
                refine lv_aload_n hx hb dX9_line_208 rfl (lv_at hl 4 rfl) ?_
                refine lv_iconst (v := 3) hx hb dX9_line_209 (by decide) ?_
                refine va_callv (va_runV (As := [.int 3]) (rest := []) ⟨hx, hb, hml, hown, hts⟩ (m_X9_fails l D cy g σ26 (3) _ hJ28 (show (1 : Int) ≤ (3 : Int32).toInt ∧ (3 : Int32).toInt ≤ 3 from (by have z3 : (3 : Int32).toInt = 3 := (by decide); omega))) (cwV 1 hts (gd_V q1622 q1624 q58 q134 q1625) rfl rfl rfl (by decide +kernel) ⟨Nat.le_of_ble_eq_true rfl, Nat.le_of_ble_eq_true rfl⟩) (pv9 hP hK hD hC hS (va_recv hK hP (ci := 9) (q0 := 0) rfl rfl)) rfl rfl hl.1 rfl (lv_room (Nat.le_of_ble_eq_true rfl)) dX9_line_210 ⟨Nat.le_of_ble_eq_true rfl, Nat.le_of_ble_eq_true rfl⟩) hS (fun q _ h => up9 hS q h) (up9 hS) (fun σ196 tS H1 locs ht hvm hw197 hB hz1 hk1 hS => ?_)
                have hP : va_P D clz (WD9 cy g σ196) H1 := by rw [← ht]; exact hB
                clear hB hz1 hk1 hvm ht
                generalize H1 = H at hP hS ⊢
                have hF198 : Fr (fL [12, 13]) σ26 σ196 := hw197.1
                have hJ199 : J9 (σ196 9) := hw197.2.1
                have b200 : ¬ ((σ196 9).1 12).toInt = 0 := hw197.2.2.1
                have T201 : RD (σ196 9) := RD.call b126 (by have f0 := k33; have f1 := b200; have f2 := b29; have z0 : (0 : Int32).toInt = 0 := (by decide); omega) (hF198 9 17 rfl).2.2.1 (hF198 9 18 rfl).2.2.1 (hF198 9 19 rfl).2.2.1
                have T202 : DKA (σ196 9) := DKA.mv b127 (hF198 9 17 rfl).2.2.1 (hF198 9 18 rfl).2.2.1 (hF198 9 19 rfl).2.2.1
                exact nj34 (σ196, lf [], lg []) ⟨Fr.tr (Fr.rf) hF198 (fL_sub rfl), hJ199, (show ¬ ((σ196 9).1 12).toInt = 0 ∨ ((¬ (y7.2.1 0).toInt = -1 → ((σ 9).2.2.1 17 22).toInt ≤ 3) ∧ (¬ r11.toInt = 0 → ((σ 9).2.2.1 17 23).toInt ≤ 8) ∧ (¬ r15.toInt = 0 → ((σ 9).2.2.1 17 24).toInt ≤ 2) ∧ ((y7.2.1 0).toInt = -1 → r11.toInt = 0 → r15.toInt = 0 → 1 ≤ ((σ 9).2.2.1 17 24).toInt ∧ ((σ 9).2.2.1 20 (11 + ((σ 9).2.2.1 17 24).toInt.toNat)).toInt ≤ 15)) from (by have f0 := h17_2 hJ (j := 22) (by decide); have f1 := h17_4 hJ (j := 24) (by decide); have f2 := h17_3 hJ (j := 23) (by decide); have f3 := b8; have f4 := b14; have f5 := b18; have f6 := k187; have f7 := b192c; have f8 := h17_2 hJ28 (j := 22) (by decide); have f9 := congrArg Int32.toInt (show ((σ26 9).2.2.1 17 22) = ((σ 9).2.2.1 17 22) from congrFun ((hF27 9 17 rfl).2.2.1) _); have f10 := k194; have f11 := b200; have f12 := b191; have f13 := b125; have g6 := rg32 (y7.2.1 0); have g7 := rg32 r11; have g8 := rg32 r15; have zm1 : ((-1) : Int32).toInt = (-1) := (by decide); have z4 : (4 : Int32).toInt = 4 := (by decide); omega)), (show ¬ ((σ196 9).1 12).toInt = 0 ∨ ((σ26 9).1 12).toInt = 0 from (by have f0 := k33; have f1 := b200; have f2 := b29; have z0 : (0 : Int32).toInt = 0 := (by decide); omega)), (show RD (σ196 9) from T201), (show DKA (σ196 9) from T202), trivial⟩ _ _ _ hP hS (lv_sub hl [0, 1, 2, 3, 4] rfl)
              ·
                have k203 := neq32 c193
                refine lv_iload_n hx hb dX9_line_181 rfl (lv_at hl 2 rfl) ?_
                refine lv_if_eq (tgt := 195) hx hb dX9_line_182 (by decide) (fun c204 => ?_) (fun c204 => ?_)
                ·
                  have k205 := peq32 c204
                  refine lv_iload_n hx hb dX9_line_195 rfl (lv_at hl 1 rfl) ?_
                  refine lv_if_eq (tgt := 213) hx hb dX9_line_196 (by decide) (fun c206 => ?_) (fun c206 => ?_)
                  ·
                    have k207 := peq32 c206
                    exact nj34 (σ26, lf [], lg []) ⟨Fr.rf, hJ28, (show ¬ ((σ26 9).1 12).toInt = 0 ∨ ((¬ (y7.2.1 0).toInt = -1 → ((σ 9).2.2.1 17 22).toInt ≤ 3) ∧ (¬ r11.toInt = 0 → ((σ 9).2.2.1 17 23).toInt ≤ 8) ∧ (¬ r15.toInt = 0 → ((σ 9).2.2.1 17 24).toInt ≤ 2) ∧ ((y7.2.1 0).toInt = -1 → r11.toInt = 0 → r15.toInt = 0 → 1 ≤ ((σ 9).2.2.1 17 24).toInt ∧ ((σ 9).2.2.1 20 (11 + ((σ 9).2.2.1 17 24).toInt.toNat)).toInt ≤ 15)) from (by have f0 := h17_2 hJ (j := 22) (by decide); have f1 := h17_4 hJ (j := 24) (by decide); have f2 := h17_3 hJ (j := 23) (by decide); have f3 := b8; have f4 := b14; have f5 := b18; have f6 := k33; have f7 := k187; have f8 := b192c; have f9 := h17_2 hJ28 (j := 22) (by decide); have f10 := congrArg Int32.toInt (show ((σ26 9).2.2.1 17 22) = ((σ 9).2.2.1 17 22) from congrFun ((hF27 9 17 rfl).2.2.1) _); have f11 := k203; have f12 := k205; have f13 := k207; have f14 := b191; have f15 := b29; have f16 := b125; have g7 := rg32 (y7.2.1 0); have g8 := rg32 r11; have g9 := rg32 r15; have zm1 : ((-1) : Int32).toInt = (-1) := (by decide); have z0 : (0 : Int32).toInt = 0 := (by decide); have z4 : (4 : Int32).toInt = 4 := (by decide); omega)), (show ¬ ((σ26 9).1 12).toInt = 0 ∨ ((σ26 9).1 12).toInt = 0 from (by have f0 := k33; have f1 := b29; have z0 : (0 : Int32).toInt = 0 := (by decide); omega)), (show RD (σ26 9) from b126), (show DKA (σ26 9) from b127), trivial⟩ _ _ _ hP hS (lv_sub hl [0, 1, 2, 3, 4] rfl)
                  ·
                    have k208 := neq32 c206
                    refine lv_aload_n hx hb dX9_line_199 rfl (lv_at hl 4 rfl) ?_
                    refine lv_iconst (v := 4) hx hb dX9_line_200 (by decide) ?_
                    refine va_calli (va_runV (As := [.int 4]) (rest := []) ⟨hx, hb, hml, hown, hts⟩ (m_X9_hasRead l D cy g σ26 (4) _ hJ28 (show (0 : Int) ≤ (4 : Int32).toInt ∧ (4 : Int32).toInt ≤ 4 from (by have z4 : (4 : Int32).toInt = 4 := (by decide); omega))) (cwV 1 hts (gd_V q1647 q1649 q62 q134 q1650) rfl rfl rfl (by decide +kernel) ⟨Nat.le_of_ble_eq_true rfl, Nat.le_of_ble_eq_true rfl⟩) (pv9 hP hK hD hC hS (va_recv hK hP (ci := 9) (q0 := 0) rfl rfl)) rfl rfl hl.1 rfl (lv_room (Nat.le_of_ble_eq_true rfl)) dX9_line_201 ⟨Nat.le_of_ble_eq_true rfl, Nat.le_of_ble_eq_true rfl⟩) hS (fun q _ h => up9 hS q h) (up9 hS) (fun r209 σ210 tS H1 locs ht hvm hw211 hB hz1 hk1 hS => ?_)
                    have hP : va_P D clz (WD9 cy g σ210) H1 := by rw [← ht]; exact hB
                    clear hB hz1 hk1 hvm ht
                    generalize H1 = H at hP hS ⊢
                    have hw211E : σ26 = σ210 := (hw211.1).symm
                    subst hw211E
                    have b212 : (0 : Int) ≤ r209.toInt ∧ r209.toInt ≤ 60 := hw211.2.1
                    have b213 : ((4 : Int32).toInt = 2 → r209.toInt = ((σ26 9).2.2.1 17 22).toInt) ∧ ((4 : Int32).toInt = 3 → r209.toInt = ((σ26 9).2.2.1 17 23).toInt) ∧ ((4 : Int32).toInt = 4 → r209.toInt = ((σ26 9).2.2.1 17 24).toInt) := hw211.2.2.1
                    have b213c := b213.2.2 (by decide)
                    refine lv_iconst (v := 3) hx hb dX9_line_204 (by decide) ?_
                    refine lv_icmp_ne (tgt := 213) hx hb dX9_line_205 (by decide) (fun c214 => ?_) (fun c214 => ?_)
                    ·
                      have k215 := neq32 c214
                      exact nj34 (σ26, lf [], lg []) ⟨Fr.rf, hJ28, (show ¬ ((σ26 9).1 12).toInt = 0 ∨ ((¬ (y7.2.1 0).toInt = -1 → ((σ 9).2.2.1 17 22).toInt ≤ 3) ∧ (¬ r11.toInt = 0 → ((σ 9).2.2.1 17 23).toInt ≤ 8) ∧ (¬ r15.toInt = 0 → ((σ 9).2.2.1 17 24).toInt ≤ 2) ∧ ((y7.2.1 0).toInt = -1 → r11.toInt = 0 → r15.toInt = 0 → 1 ≤ ((σ 9).2.2.1 17 24).toInt ∧ ((σ 9).2.2.1 20 (11 + ((σ 9).2.2.1 17 24).toInt.toNat)).toInt ≤ 15)) from (by have f0 := h17_2 hJ (j := 22) (by decide); have f1 := h17_4 hJ (j := 24) (by decide); have f2 := h17_3 hJ (j := 23) (by decide); have f3 := b8; have f4 := b14; have f5 := b18; have f6 := k33; have f7 := k187; have f8 := b192c; have f9 := h17_2 hJ28 (j := 22) (by decide); have f10 := congrArg Int32.toInt (show ((σ26 9).2.2.1 17 22) = ((σ 9).2.2.1 17 22) from congrFun ((hF27 9 17 rfl).2.2.1) _); have f11 := k203; have f12 := k205; have f13 := k208; have f14 := b213c; have f15 := h17_4 hJ28 (j := 24) (by decide); have f16 := congrArg Int32.toInt (show ((σ26 9).2.2.1 17 24) = ((σ 9).2.2.1 17 24) from congrFun ((hF27 9 17 rfl).2.2.1) _); have f17 := k215; have f18 := b191; have f19 := b212; have f20 := b29; have f21 := b125; have g8 := rg32 (y7.2.1 0); have g9 := rg32 r11; have g10 := rg32 r15; have zm1 : ((-1) : Int32).toInt = (-1) := (by decide); have z0 : (0 : Int32).toInt = 0 := (by decide); have z3 : (3 : Int32).toInt = 3 := (by decide); have z4 : (4 : Int32).toInt = 4 := (by decide); omega)), (show ¬ ((σ26 9).1 12).toInt = 0 ∨ ((σ26 9).1 12).toInt = 0 from (by have f0 := k33; have f1 := b29; have z0 : (0 : Int32).toInt = 0 := (by decide); omega)), (show RD (σ26 9) from b126), (show DKA (σ26 9) from b127), trivial⟩ _ _ _ hP hS (lv_sub hl [0, 1, 2, 3, 4] rfl)
                    ·
                      have k216 := peq32 c214
                      refine lv_aload_n hx hb dX9_line_208 rfl (lv_at hl 4 rfl) ?_
                      refine lv_iconst (v := 3) hx hb dX9_line_209 (by decide) ?_
                      refine va_callv (va_runV (As := [.int 3]) (rest := []) ⟨hx, hb, hml, hown, hts⟩ (m_X9_fails l D cy g σ26 (3) _ hJ28 (show (1 : Int) ≤ (3 : Int32).toInt ∧ (3 : Int32).toInt ≤ 3 from (by have z3 : (3 : Int32).toInt = 3 := (by decide); omega))) (cwV 1 hts (gd_V q1622 q1624 q58 q134 q1625) rfl rfl rfl (by decide +kernel) ⟨Nat.le_of_ble_eq_true rfl, Nat.le_of_ble_eq_true rfl⟩) (pv9 hP hK hD hC hS (va_recv hK hP (ci := 9) (q0 := 0) rfl rfl)) rfl rfl hl.1 rfl (lv_room (Nat.le_of_ble_eq_true rfl)) dX9_line_210 ⟨Nat.le_of_ble_eq_true rfl, Nat.le_of_ble_eq_true rfl⟩) hS (fun q _ h => up9 hS q h) (up9 hS) (fun σ218 tS H1 locs ht hvm hw219 hB hz1 hk1 hS => ?_)
                      have hP : va_P D clz (WD9 cy g σ218) H1 := by rw [← ht]; exact hB
                      clear hB hz1 hk1 hvm ht
                      generalize H1 = H at hP hS ⊢
                      have hF220 : Fr (fL [12, 13]) σ26 σ218 := hw219.1
                      have hJ221 : J9 (σ218 9) := hw219.2.1
                      have b222 : ¬ ((σ218 9).1 12).toInt = 0 := hw219.2.2.1
                      have T223 : RD (σ218 9) := RD.call b126 (by have f0 := k33; have f1 := b222; have f2 := b29; have z0 : (0 : Int32).toInt = 0 := (by decide); omega) (hF220 9 17 rfl).2.2.1 (hF220 9 18 rfl).2.2.1 (hF220 9 19 rfl).2.2.1
                      have T224 : DKA (σ218 9) := DKA.mv b127 (hF220 9 17 rfl).2.2.1 (hF220 9 18 rfl).2.2.1 (hF220 9 19 rfl).2.2.1
                      exact nj34 (σ218, lf [], lg []) ⟨Fr.tr (Fr.rf) hF220 (fL_sub rfl), hJ221, (show ¬ ((σ218 9).1 12).toInt = 0 ∨ ((¬ (y7.2.1 0).toInt = -1 → ((σ 9).2.2.1 17 22).toInt ≤ 3) ∧ (¬ r11.toInt = 0 → ((σ 9).2.2.1 17 23).toInt ≤ 8) ∧ (¬ r15.toInt = 0 → ((σ 9).2.2.1 17 24).toInt ≤ 2) ∧ ((y7.2.1 0).toInt = -1 → r11.toInt = 0 → r15.toInt = 0 → 1 ≤ ((σ 9).2.2.1 17 24).toInt ∧ ((σ 9).2.2.1 20 (11 + ((σ 9).2.2.1 17 24).toInt.toNat)).toInt ≤ 15)) from (by have f0 := h17_2 hJ (j := 22) (by decide); have f1 := h17_4 hJ (j := 24) (by decide); have f2 := h17_3 hJ (j := 23) (by decide); have f3 := b8; have f4 := b14; have f5 := b18; have f6 := k187; have f7 := b192c; have f8 := h17_2 hJ28 (j := 22) (by decide); have f9 := congrArg Int32.toInt (show ((σ26 9).2.2.1 17 22) = ((σ 9).2.2.1 17 22) from congrFun ((hF27 9 17 rfl).2.2.1) _); have f10 := k203; have f11 := k205; have f12 := k208; have f13 := b213c; have f14 := h17_4 hJ28 (j := 24) (by decide); have f15 := congrArg Int32.toInt (show ((σ26 9).2.2.1 17 24) = ((σ 9).2.2.1 17 24) from congrFun ((hF27 9 17 rfl).2.2.1) _); have f16 := k216; have f17 := b222; have f18 := b191; have f19 := b212; have f20 := b125; have g7 := rg32 (y7.2.1 0); have g8 := rg32 r11; have g9 := rg32 r15; have zm1 : ((-1) : Int32).toInt = (-1) := (by decide); have z0 : (0 : Int32).toInt = 0 := (by decide); have z3 : (3 : Int32).toInt = 3 := (by decide); have z4 : (4 : Int32).toInt = 4 := (by decide); omega)), (show ¬ ((σ218 9).1 12).toInt = 0 ∨ ((σ26 9).1 12).toInt = 0 from (by have f0 := k33; have f1 := b222; have f2 := b29; have z0 : (0 : Int32).toInt = 0 := (by decide); omega)), (show RD (σ218 9) from T223), (show DKA (σ218 9) from T224), trivial⟩ _ _ _ hP hS (lv_sub hl [0, 1, 2, 3, 4] rfl)
                ·
                  have k225 := neq32 c204
                  refine lv_aload_n hx hb dX9_line_185 rfl (lv_at hl 4 rfl) ?_
                  refine lv_iconst (v := 3) hx hb dX9_line_186 (by decide) ?_
                  refine va_calli (va_runV (As := [.int 3]) (rest := []) ⟨hx, hb, hml, hown, hts⟩ (m_X9_hasRead l D cy g σ26 (3) _ hJ28 (show (0 : Int) ≤ (3 : Int32).toInt ∧ (3 : Int32).toInt ≤ 4 from (by have z3 : (3 : Int32).toInt = 3 := (by decide); omega))) (cwV 1 hts (gd_V q1647 q1649 q62 q134 q1650) rfl rfl rfl (by decide +kernel) ⟨Nat.le_of_ble_eq_true rfl, Nat.le_of_ble_eq_true rfl⟩) (pv9 hP hK hD hC hS (va_recv hK hP (ci := 9) (q0 := 0) rfl rfl)) rfl rfl hl.1 rfl (lv_room (Nat.le_of_ble_eq_true rfl)) dX9_line_187 ⟨Nat.le_of_ble_eq_true rfl, Nat.le_of_ble_eq_true rfl⟩) hS (fun q _ h => up9 hS q h) (up9 hS) (fun r226 σ227 tS H1 locs ht hvm hw228 hB hz1 hk1 hS => ?_)
                  have hP : va_P D clz (WD9 cy g σ227) H1 := by rw [← ht]; exact hB
                  clear hB hz1 hk1 hvm ht
                  generalize H1 = H at hP hS ⊢
                  have hw228E : σ26 = σ227 := (hw228.1).symm
                  subst hw228E
                  have b229 : (0 : Int) ≤ r226.toInt ∧ r226.toInt ≤ 60 := hw228.2.1
                  have b230 : ((3 : Int32).toInt = 2 → r226.toInt = ((σ26 9).2.2.1 17 22).toInt) ∧ ((3 : Int32).toInt = 3 → r226.toInt = ((σ26 9).2.2.1 17 23).toInt) ∧ ((3 : Int32).toInt = 4 → r226.toInt = ((σ26 9).2.2.1 17 24).toInt) := hw228.2.2.1
                  have b230c := b230.2.1 (by decide)
                  refine lv_bipush (v := 9) hx hb dX9_line_190 (by decide) ?_
                  refine lv_icmp_eq (tgt := 208) hx hb dX9_line_192 (by decide) (fun c231 => ?_) (fun c231 => ?_)
                  ·
                    have k232 := peq32 c231
                    refine lv_aload_n hx hb dX9_line_208 rfl (lv_at hl 4 rfl) ?_
                    refine lv_iconst (v := 3) hx hb dX9_line_209 (by decide) ?_
                    refine va_callv (va_runV (As := [.int 3]) (rest := []) ⟨hx, hb, hml, hown, hts⟩ (m_X9_fails l D cy g σ26 (3) _ hJ28 (show (1 : Int) ≤ (3 : Int32).toInt ∧ (3 : Int32).toInt ≤ 3 from (by have z3 : (3 : Int32).toInt = 3 := (by decide); omega))) (cwV 1 hts (gd_V q1622 q1624 q58 q134 q1625) rfl rfl rfl (by decide +kernel) ⟨Nat.le_of_ble_eq_true rfl, Nat.le_of_ble_eq_true rfl⟩) (pv9 hP hK hD hC hS (va_recv hK hP (ci := 9) (q0 := 0) rfl rfl)) rfl rfl hl.1 rfl (lv_room (Nat.le_of_ble_eq_true rfl)) dX9_line_210 ⟨Nat.le_of_ble_eq_true rfl, Nat.le_of_ble_eq_true rfl⟩) hS (fun q _ h => up9 hS q h) (up9 hS) (fun σ234 tS H1 locs ht hvm hw235 hB hz1 hk1 hS => ?_)
                    have hP : va_P D clz (WD9 cy g σ234) H1 := by rw [← ht]; exact hB
                    clear hB hz1 hk1 hvm ht
                    generalize H1 = H at hP hS ⊢
                    have hF236 : Fr (fL [12, 13]) σ26 σ234 := hw235.1
                    have hJ237 : J9 (σ234 9) := hw235.2.1
                    have b238 : ¬ ((σ234 9).1 12).toInt = 0 := hw235.2.2.1
                    have T239 : RD (σ234 9) := RD.call b126 (by have f0 := k33; have f1 := b238; have f2 := b29; have z0 : (0 : Int32).toInt = 0 := (by decide); omega) (hF236 9 17 rfl).2.2.1 (hF236 9 18 rfl).2.2.1 (hF236 9 19 rfl).2.2.1
                    have T240 : DKA (σ234 9) := DKA.mv b127 (hF236 9 17 rfl).2.2.1 (hF236 9 18 rfl).2.2.1 (hF236 9 19 rfl).2.2.1
                    exact nj34 (σ234, lf [], lg []) ⟨Fr.tr (Fr.rf) hF236 (fL_sub rfl), hJ237, (show ¬ ((σ234 9).1 12).toInt = 0 ∨ ((¬ (y7.2.1 0).toInt = -1 → ((σ 9).2.2.1 17 22).toInt ≤ 3) ∧ (¬ r11.toInt = 0 → ((σ 9).2.2.1 17 23).toInt ≤ 8) ∧ (¬ r15.toInt = 0 → ((σ 9).2.2.1 17 24).toInt ≤ 2) ∧ ((y7.2.1 0).toInt = -1 → r11.toInt = 0 → r15.toInt = 0 → 1 ≤ ((σ 9).2.2.1 17 24).toInt ∧ ((σ 9).2.2.1 20 (11 + ((σ 9).2.2.1 17 24).toInt.toNat)).toInt ≤ 15)) from (by have f0 := h17_2 hJ (j := 22) (by decide); have f1 := h17_4 hJ (j := 24) (by decide); have f2 := h17_3 hJ (j := 23) (by decide); have f3 := b8; have f4 := b14; have f5 := b18; have f6 := k187; have f7 := b192c; have f8 := h17_2 hJ28 (j := 22) (by decide); have f9 := congrArg Int32.toInt (show ((σ26 9).2.2.1 17 22) = ((σ 9).2.2.1 17 22) from congrFun ((hF27 9 17 rfl).2.2.1) _); have f10 := k203; have f11 := k225; have f12 := b230c; have f13 := h17_3 hJ28 (j := 23) (by decide); have f14 := congrArg Int32.toInt (show ((σ26 9).2.2.1 17 23) = ((σ 9).2.2.1 17 23) from congrFun ((hF27 9 17 rfl).2.2.1) _); have f15 := k232; have f16 := b238; have f17 := b191; have f18 := b229; have f19 := b125; have g7 := rg32 (y7.2.1 0); have g8 := rg32 r11; have g9 := rg32 r15; have zm1 : ((-1) : Int32).toInt = (-1) := (by decide); have z0 : (0 : Int32).toInt = 0 := (by decide); have z4 : (4 : Int32).toInt = 4 := (by decide); have z9 : (9 : Int32).toInt = 9 := (by decide); omega)), (show ¬ ((σ234 9).1 12).toInt = 0 ∨ ((σ26 9).1 12).toInt = 0 from (by have f0 := k33; have f1 := b238; have f2 := b29; have z0 : (0 : Int32).toInt = 0 := (by decide); omega)), (show RD (σ234 9) from T239), (show DKA (σ234 9) from T240), trivial⟩ _ _ _ hP hS (lv_sub hl [0, 1, 2, 3, 4] rfl)
                  ·
                    have k241 := neq32 c231
                    refine lv_iload_n hx hb dX9_line_195 rfl (lv_at hl 1 rfl) ?_
                    refine lv_if_eq (tgt := 213) hx hb dX9_line_196 (by decide) (fun c242 => ?_) (fun c242 => ?_)
                    ·
                      have k243 := peq32 c242
                      exact nj34 (σ26, lf [], lg []) ⟨Fr.rf, hJ28, (show ¬ ((σ26 9).1 12).toInt = 0 ∨ ((¬ (y7.2.1 0).toInt = -1 → ((σ 9).2.2.1 17 22).toInt ≤ 3) ∧ (¬ r11.toInt = 0 → ((σ 9).2.2.1 17 23).toInt ≤ 8) ∧ (¬ r15.toInt = 0 → ((σ 9).2.2.1 17 24).toInt ≤ 2) ∧ ((y7.2.1 0).toInt = -1 → r11.toInt = 0 → r15.toInt = 0 → 1 ≤ ((σ 9).2.2.1 17 24).toInt ∧ ((σ 9).2.2.1 20 (11 + ((σ 9).2.2.1 17 24).toInt.toNat)).toInt ≤ 15)) from (by have f0 := h17_2 hJ (j := 22) (by decide); have f1 := h17_4 hJ (j := 24) (by decide); have f2 := h17_3 hJ (j := 23) (by decide); have f3 := b8; have f4 := b14; have f5 := b18; have f6 := k33; have f7 := k187; have f8 := b192c; have f9 := h17_2 hJ28 (j := 22) (by decide); have f10 := congrArg Int32.toInt (show ((σ26 9).2.2.1 17 22) = ((σ 9).2.2.1 17 22) from congrFun ((hF27 9 17 rfl).2.2.1) _); have f11 := k203; have f12 := k225; have f13 := b230c; have f14 := h17_3 hJ28 (j := 23) (by decide); have f15 := congrArg Int32.toInt (show ((σ26 9).2.2.1 17 23) = ((σ 9).2.2.1 17 23) from congrFun ((hF27 9 17 rfl).2.2.1) _); have f16 := k241; have f17 := k243; have f18 := b191; have f19 := b229; have f20 := b29; have f21 := b125; have g8 := rg32 (y7.2.1 0); have g9 := rg32 r11; have g10 := rg32 r15; have zm1 : ((-1) : Int32).toInt = (-1) := (by decide); have z0 : (0 : Int32).toInt = 0 := (by decide); have z4 : (4 : Int32).toInt = 4 := (by decide); have z9 : (9 : Int32).toInt = 9 := (by decide); omega)), (show ¬ ((σ26 9).1 12).toInt = 0 ∨ ((σ26 9).1 12).toInt = 0 from (by have f0 := k33; have f1 := b29; have z0 : (0 : Int32).toInt = 0 := (by decide); omega)), (show RD (σ26 9) from b126), (show DKA (σ26 9) from b127), trivial⟩ _ _ _ hP hS (lv_sub hl [0, 1, 2, 3, 4] rfl)
                    ·
                      have k244 := neq32 c242
                      refine lv_aload_n hx hb dX9_line_199 rfl (lv_at hl 4 rfl) ?_
                      refine lv_iconst (v := 4) hx hb dX9_line_200 (by decide) ?_
                      refine va_calli (va_runV (As := [.int 4]) (rest := []) ⟨hx, hb, hml, hown, hts⟩ (m_X9_hasRead l D cy g σ26 (4) _ hJ28 (show (0 : Int) ≤ (4 : Int32).toInt ∧ (4 : Int32).toInt ≤ 4 from (by have z4 : (4 : Int32).toInt = 4 := (by decide); omega))) (cwV 1 hts (gd_V q1647 q1649 q62 q134 q1650) rfl rfl rfl (by decide +kernel) ⟨Nat.le_of_ble_eq_true rfl, Nat.le_of_ble_eq_true rfl⟩) (pv9 hP hK hD hC hS (va_recv hK hP (ci := 9) (q0 := 0) rfl rfl)) rfl rfl hl.1 rfl (lv_room (Nat.le_of_ble_eq_true rfl)) dX9_line_201 ⟨Nat.le_of_ble_eq_true rfl, Nat.le_of_ble_eq_true rfl⟩) hS (fun q _ h => up9 hS q h) (up9 hS) (fun r245 σ246 tS H1 locs ht hvm hw247 hB hz1 hk1 hS => ?_)
                      have hP : va_P D clz (WD9 cy g σ246) H1 := by rw [← ht]; exact hB
                      clear hB hz1 hk1 hvm ht
                      generalize H1 = H at hP hS ⊢
                      have hw247E : σ26 = σ246 := (hw247.1).symm
                      subst hw247E
                      have b248 : (0 : Int) ≤ r245.toInt ∧ r245.toInt ≤ 60 := hw247.2.1
                      have b249 : ((4 : Int32).toInt = 2 → r245.toInt = ((σ26 9).2.2.1 17 22).toInt) ∧ ((4 : Int32).toInt = 3 → r245.toInt = ((σ26 9).2.2.1 17 23).toInt) ∧ ((4 : Int32).toInt = 4 → r245.toInt = ((σ26 9).2.2.1 17 24).toInt) := hw247.2.2.1
                      have b249c := b249.2.2 (by decide)
                      refine lv_iconst (v := 3) hx hb dX9_line_204 (by decide) ?_
                      refine lv_icmp_ne (tgt := 213) hx hb dX9_line_205 (by decide) (fun c250 => ?_) (fun c250 => ?_)
                      ·
                        have k251 := neq32 c250
                        exact nj34 (σ26, lf [], lg []) ⟨Fr.rf, hJ28, (show ¬ ((σ26 9).1 12).toInt = 0 ∨ ((¬ (y7.2.1 0).toInt = -1 → ((σ 9).2.2.1 17 22).toInt ≤ 3) ∧ (¬ r11.toInt = 0 → ((σ 9).2.2.1 17 23).toInt ≤ 8) ∧ (¬ r15.toInt = 0 → ((σ 9).2.2.1 17 24).toInt ≤ 2) ∧ ((y7.2.1 0).toInt = -1 → r11.toInt = 0 → r15.toInt = 0 → 1 ≤ ((σ 9).2.2.1 17 24).toInt ∧ ((σ 9).2.2.1 20 (11 + ((σ 9).2.2.1 17 24).toInt.toNat)).toInt ≤ 15)) from (by have f0 := h17_2 hJ (j := 22) (by decide); have f1 := h17_4 hJ (j := 24) (by decide); have f2 := h17_3 hJ (j := 23) (by decide); have f3 := b8; have f4 := b14; have f5 := b18; have f6 := k33; have f7 := k187; have f8 := b192c; have f9 := h17_2 hJ28 (j := 22) (by decide); have f10 := congrArg Int32.toInt (show ((σ26 9).2.2.1 17 22) = ((σ 9).2.2.1 17 22) from congrFun ((hF27 9 17 rfl).2.2.1) _); have f11 := k203; have f12 := k225; have f13 := b230c; have f14 := h17_3 hJ28 (j := 23) (by decide); have f15 := congrArg Int32.toInt (show ((σ26 9).2.2.1 17 23) = ((σ 9).2.2.1 17 23) from congrFun ((hF27 9 17 rfl).2.2.1) _); have f16 := k241; have f17 := k244; have f18 := b249c; have f19 := h17_4 hJ28 (j := 24) (by decide); have f20 := congrArg Int32.toInt (show ((σ26 9).2.2.1 17 24) = ((σ 9).2.2.1 17 24) from congrFun ((hF27 9 17 rfl).2.2.1) _); have f21 := k251; have f22 := b191; have f23 := b229; have f24 := b248; have f25 := b29; have f26 := b125; have g9 := rg32 (y7.2.1 0); have g10 := rg32 r11; have g11 := rg32 r15; have zm1 : ((-1) : Int32).toInt = (-1) := (by decide); have z0 : (0 : Int32).toInt = 0 := (by decide); have z3 : (3 : Int32).toInt = 3 := (by decide); have z4 : (4 : Int32).toInt = 4 := (by decide); have z9 : (9 : Int32).toInt = 9 := (by decide); omega)), (show ¬ ((σ26 9).1 12).toInt = 0 ∨ ((σ26 9).1 12).toInt = 0 from (by have f0 := k33; have f1 := b29; have z0 : (0 : Int32).toInt = 0 := (by decide); omega)), (show RD (σ26 9) from b126), (show DKA (σ26 9) from b127), trivial⟩ _ _ _ hP hS (lv_sub hl [0, 1, 2, 3, 4] rfl)
                      ·
                        have k252 := peq32 c250
                        refine lv_aload_n hx hb dX9_line_208 rfl (lv_at hl 4 rfl) ?_
                        refine lv_iconst (v := 3) hx hb dX9_line_209 (by decide) ?_
                        refine va_callv (va_runV (As := [.int 3]) (rest := []) ⟨hx, hb, hml, hown, hts⟩ (m_X9_fails l D cy g σ26 (3) _ hJ28 (show (1 : Int) ≤ (3 : Int32).toInt ∧ (3 : Int32).toInt ≤ 3 from (by have z3 : (3 : Int32).toInt = 3 := (by decide); omega))) (cwV 1 hts (gd_V q1622 q1624 q58 q134 q1625) rfl rfl rfl (by decide +kernel) ⟨Nat.le_of_ble_eq_true rfl, Nat.le_of_ble_eq_true rfl⟩) (pv9 hP hK hD hC hS (va_recv hK hP (ci := 9) (q0 := 0) rfl rfl)) rfl rfl hl.1 rfl (lv_room (Nat.le_of_ble_eq_true rfl)) dX9_line_210 ⟨Nat.le_of_ble_eq_true rfl, Nat.le_of_ble_eq_true rfl⟩) hS (fun q _ h => up9 hS q h) (up9 hS) (fun σ254 tS H1 locs ht hvm hw255 hB hz1 hk1 hS => ?_)
                        have hP : va_P D clz (WD9 cy g σ254) H1 := by rw [← ht]; exact hB
                        clear hB hz1 hk1 hvm ht
                        generalize H1 = H at hP hS ⊢
                        have hF256 : Fr (fL [12, 13]) σ26 σ254 := hw255.1
                        have hJ257 : J9 (σ254 9) := hw255.2.1
                        have b258 : ¬ ((σ254 9).1 12).toInt = 0 := hw255.2.2.1
                        have T259 : RD (σ254 9) := RD.call b126 (by have f0 := k33; have f1 := b258; have f2 := b29; have z0 : (0 : Int32).toInt = 0 := (by decide); omega) (hF256 9 17 rfl).2.2.1 (hF256 9 18 rfl).2.2.1 (hF256 9 19 rfl).2.2.1
                        have T260 : DKA (σ254 9) := DKA.mv b127 (hF256 9 17 rfl).2.2.1 (hF256 9 18 rfl).2.2.1 (hF256 9 19 rfl).2.2.1
                        exact nj34 (σ254, lf [], lg []) ⟨Fr.tr (Fr.rf) hF256 (fL_sub rfl), hJ257, (show ¬ ((σ254 9).1 12).toInt = 0 ∨ ((¬ (y7.2.1 0).toInt = -1 → ((σ 9).2.2.1 17 22).toInt ≤ 3) ∧ (¬ r11.toInt = 0 → ((σ 9).2.2.1 17 23).toInt ≤ 8) ∧ (¬ r15.toInt = 0 → ((σ 9).2.2.1 17 24).toInt ≤ 2) ∧ ((y7.2.1 0).toInt = -1 → r11.toInt = 0 → r15.toInt = 0 → 1 ≤ ((σ 9).2.2.1 17 24).toInt ∧ ((σ 9).2.2.1 20 (11 + ((σ 9).2.2.1 17 24).toInt.toNat)).toInt ≤ 15)) from (by have f0 := h17_2 hJ (j := 22) (by decide); have f1 := h17_4 hJ (j := 24) (by decide); have f2 := h17_3 hJ (j := 23) (by decide); have f3 := b8; have f4 := b14; have f5 := b18; have f6 := k187; have f7 := b192c; have f8 := h17_2 hJ28 (j := 22) (by decide); have f9 := congrArg Int32.toInt (show ((σ26 9).2.2.1 17 22) = ((σ 9).2.2.1 17 22) from congrFun ((hF27 9 17 rfl).2.2.1) _); have f10 := k203; have f11 := k225; have f12 := b230c; have f13 := h17_3 hJ28 (j := 23) (by decide); have f14 := congrArg Int32.toInt (show ((σ26 9).2.2.1 17 23) = ((σ 9).2.2.1 17 23) from congrFun ((hF27 9 17 rfl).2.2.1) _); have f15 := k241; have f16 := k244; have f17 := b249c; have f18 := h17_4 hJ28 (j := 24) (by decide); have f19 := congrArg Int32.toInt (show ((σ26 9).2.2.1 17 24) = ((σ 9).2.2.1 17 24) from congrFun ((hF27 9 17 rfl).2.2.1) _); have f20 := k252; have f21 := b258; have f22 := b191; have f23 := b229; have f24 := b248; have f25 := b125; have g8 := rg32 (y7.2.1 0); have g9 := rg32 r11; have g10 := rg32 r15; have zm1 : ((-1) : Int32).toInt = (-1) := (by decide); have z0 : (0 : Int32).toInt = 0 := (by decide); have z3 : (3 : Int32).toInt = 3 := (by decide); have z4 : (4 : Int32).toInt = 4 := (by decide); have z9 : (9 : Int32).toInt = 9 := (by decide); omega)), (show ¬ ((σ254 9).1 12).toInt = 0 ∨ ((σ26 9).1 12).toInt = 0 from (by have f0 := k33; have f1 := b258; have f2 := b29; have z0 : (0 : Int32).toInt = 0 := (by decide); omega)), (show RD (σ254 9) from T259), (show DKA (σ254 9) from T260), trivial⟩ _ _ _ hP hS (lv_sub hl [0, 1, 2, 3, 4] rfl)
          ·
            intro nj122
            refine lv_icmp_ne (tgt := 167) hx hb dX9_line_112 (by decide) (fun c261 => ?_) (fun c261 => ?_)
            ·
              have k262 := neq32 c261
              exact nj122 (σ26, lf [], lg []) ⟨rfl, (show ¬ (y7.2.1 0).toInt = -1 ∨ ¬ r11.toInt = 0 ∨ ¬ r15.toInt = 0 from (by have f0 := b8; have f1 := b14; have f2 := b18; have f3 := k262; have g0 := rg32 (y7.2.1 0); have g1 := rg32 r11; have g2 := rg32 r15; have zm1 : ((-1) : Int32).toInt = (-1) := (by decide); omega)), (show RD (σ26 9) from b30), (show DKA (σ26 9) from b31), trivial⟩ _ _ _ hP hS (lv_sub hl [0, 1, 2, 3, 4] rfl)
            ·
              have k263 := peq32 c261
              refine lv_iload_n hx hb dX9_line_115 rfl (lv_at hl 2 rfl) ?_
              refine lv_if_ne (tgt := 167) hx hb dX9_line_116 (by decide) (fun c264 => ?_) (fun c264 => ?_)
              ·
                have k265 := neq32 c264
                exact nj122 (σ26, lf [], lg []) ⟨rfl, (show ¬ (y7.2.1 0).toInt = -1 ∨ ¬ r11.toInt = 0 ∨ ¬ r15.toInt = 0 from (by have f0 := b8; have f1 := b14; have f2 := b18; have f3 := k263; have f4 := k265; have g0 := rg32 (y7.2.1 0); have g1 := rg32 r11; have g2 := rg32 r15; have zm1 : ((-1) : Int32).toInt = (-1) := (by decide); have z0 : (0 : Int32).toInt = 0 := (by decide); omega)), (show RD (σ26 9) from b30), (show DKA (σ26 9) from b31), trivial⟩ _ _ _ hP hS (lv_sub hl [0, 1, 2, 3, 4] rfl)
              ·
                have k266 := peq32 c264
                refine lv_iload_n hx hb dX9_line_119 rfl (lv_at hl 1 rfl) ?_
                refine lv_if_ne (tgt := 167) hx hb dX9_line_120 (by decide) (fun c267 => ?_) (fun c267 => ?_)
                ·
                  have k268 := neq32 c267
                  exact nj122 (σ26, lf [], lg []) ⟨rfl, (show ¬ (y7.2.1 0).toInt = -1 ∨ ¬ r11.toInt = 0 ∨ ¬ r15.toInt = 0 from (by have f0 := b8; have f1 := b14; have f2 := b18; have f3 := k263; have f4 := k266; have f5 := k268; have g0 := rg32 (y7.2.1 0); have g1 := rg32 r11; have g2 := rg32 r15; have zm1 : ((-1) : Int32).toInt = (-1) := (by decide); have z0 : (0 : Int32).toInt = 0 := (by decide); omega)), (show RD (σ26 9) from b30), (show DKA (σ26 9) from b31), trivial⟩ _ _ _ hP hS (lv_sub hl [0, 1, 2, 3, 4] rfl)
                ·
                  have k269 := peq32 c267
                  refine lv_aload_n hx hb dX9_line_123 rfl (lv_at hl 4 rfl) ?_
                  refine lv_iconst (v := 4) hx hb dX9_line_124 (by decide) ?_
                  refine va_calli (va_runV (As := [.int 4]) (rest := []) ⟨hx, hb, hml, hown, hts⟩ (m_X9_hasRead l D cy g σ26 (4) _ hJ28 (show (0 : Int) ≤ (4 : Int32).toInt ∧ (4 : Int32).toInt ≤ 4 from (by have z4 : (4 : Int32).toInt = 4 := (by decide); omega))) (cwV 1 hts (gd_V q1647 q1649 q62 q134 q1650) rfl rfl rfl (by decide +kernel) ⟨Nat.le_of_ble_eq_true rfl, Nat.le_of_ble_eq_true rfl⟩) (pv9 hP hK hD hC hS (va_recv hK hP (ci := 9) (q0 := 0) rfl rfl)) rfl rfl hl.1 rfl (lv_room (Nat.le_of_ble_eq_true rfl)) dX9_line_125 ⟨Nat.le_of_ble_eq_true rfl, Nat.le_of_ble_eq_true rfl⟩) hS (fun q _ h => up9 hS q h) (up9 hS) (fun r270 σ271 tS H1 locs ht hvm hw272 hB hz1 hk1 hS => ?_)
                  have hP : va_P D clz (WD9 cy g σ271) H1 := by rw [← ht]; exact hB
                  clear hB hz1 hk1 hvm ht
                  generalize H1 = H at hP hS ⊢
                  have hw272E : σ26 = σ271 := (hw272.1).symm
                  subst hw272E
                  have b273 : (0 : Int) ≤ r270.toInt ∧ r270.toInt ≤ 60 := hw272.2.1
                  have b274 : ((4 : Int32).toInt = 2 → r270.toInt = ((σ26 9).2.2.1 17 22).toInt) ∧ ((4 : Int32).toInt = 3 → r270.toInt = ((σ26 9).2.2.1 17 23).toInt) ∧ ((4 : Int32).toInt = 4 → r270.toInt = ((σ26 9).2.2.1 17 24).toInt) := hw272.2.2.1
                  have b274c := b274.2.2 (by decide)
                  refine lv_if_ne (tgt := 139) hx hb dX9_line_128 (by decide) (fun c275 => ?_) (fun c275 => ?_)
                  ·
                    have k276 := neq32 c275
                    refine lv_aload_n hx hb dX9_line_139 rfl (lv_at hl 4 rfl) ?_
                    refine g9_20 hx hb hts hown hK hP (hts _ q1380) dX9_line_140 ?_
                    refine lv_bipush (v := 12) hx hb dX9_line_143 (by decide) ?_
                    refine lv_aload_n hx hb dX9_line_145 rfl (lv_at hl 4 rfl) ?_
                    refine lv_iconst (v := 4) hx hb dX9_line_146 (by decide) ?_
                    refine va_calli (va_runV (As := [.int 4]) (rest := [.int 12, .ref (g 20)]) ⟨hx, hb, hml, hown, hts⟩ (m_X9_hasRead l D cy g σ26 (4) _ hJ28 (show (0 : Int) ≤ (4 : Int32).toInt ∧ (4 : Int32).toInt ≤ 4 from (by have z4 : (4 : Int32).toInt = 4 := (by decide); omega))) (cwV 1 hts (gd_V q1647 q1649 q62 q134 q1650) rfl rfl rfl (by decide +kernel) ⟨Nat.le_of_ble_eq_true rfl, Nat.le_of_ble_eq_true rfl⟩) (pv9 hP hK hD hC hS (va_recv hK hP (ci := 9) (q0 := 0) rfl rfl)) rfl rfl hl.1 rfl (lv_room (Nat.le_of_ble_eq_true rfl)) dX9_line_147 ⟨Nat.le_of_ble_eq_true rfl, Nat.le_of_ble_eq_true rfl⟩) hS (fun q _ h => up9 hS q h) (up9 hS) (fun r277 σ278 tS H1 locs ht hvm hw279 hB hz1 hk1 hS => ?_)
                    have hP : va_P D clz (WD9 cy g σ278) H1 := by rw [← ht]; exact hB
                    clear hB hz1 hk1 hvm ht
                    generalize H1 = H at hP hS ⊢
                    have hw279E : σ26 = σ278 := (hw279.1).symm
                    subst hw279E
                    have b280 : (0 : Int) ≤ r277.toInt ∧ r277.toInt ≤ 60 := hw279.2.1
                    have b281 : ((4 : Int32).toInt = 2 → r277.toInt = ((σ26 9).2.2.1 17 22).toInt) ∧ ((4 : Int32).toInt = 3 → r277.toInt = ((σ26 9).2.2.1 17 23).toInt) ∧ ((4 : Int32).toInt = 4 → r277.toInt = ((σ26 9).2.2.1 17 24).toInt) := hw279.2.2.1
                    have b281c := b281.2.2 (by decide)
                    refine lv_iadd hx hb dX9_line_150 ?_
                    refine lv_topi (fun x282 ex282 => ?_)
                    have t283 := addO ex282 (by have f0 := b280; have f1 := b281c; have f2 := h17_4 hJ28 (j := 24) (by decide); have f3 := congrArg Int32.toInt (show ((σ26 9).2.2.1 17 24) = ((σ 9).2.2.1 17 24) from congrFun ((hF27 9 17 rfl).2.2.1) _); have f4 := h17_4 hJ (j := 24) (by decide); have f5 := b274c; have f6 := k276; have f7 := b273; have g2 := rg32 r277; have z0 : (0 : Int32).toInt = 0 := (by decide); have z12 : (12 : Int32).toInt = 12 := (by decide); omega)
                    refine lv_iconst (v := 1) hx hb dX9_line_151 (by decide) ?_
                    refine lv_isub hx hb dX9_line_152 ?_
                    refine lv_topi (fun x284 ex284 => ?_)
                    have t285 := subO ex284 (by have f0 := t283; have f1 := b280; have f2 := b281c; have f3 := h17_4 hJ28 (j := 24) (by decide); have f4 := congrArg Int32.toInt (show ((σ26 9).2.2.1 17 24) = ((σ 9).2.2.1 17 24) from congrFun ((hF27 9 17 rfl).2.2.1) _); have f5 := h17_4 hJ (j := 24) (by decide); have f6 := b274c; have f7 := k276; have f8 := b273; have g2 := rg32 x282; have z0 : (0 : Int32).toInt = 0 := (by decide); have z1 : (1 : Int32).toInt = 1 := (by decide); have z12 : (12 : Int32).toInt = 12 := (by decide); omega)
                    obtain ⟨x286, ex286⟩ : ∃ z, (σ 9).2.2.1 20 x284.toInt.toNat = z := ⟨_, rfl⟩
                    refine l9_20 (x := x286) hx hb hK hP (vpo (by have f0 := t285; have f1 := t283; have f2 := b280; have f3 := b281c; have f4 := h17_4 hJ28 (j := 24) (by decide); have f5 := congrArg Int32.toInt (show ((σ26 9).2.2.1 17 24) = ((σ 9).2.2.1 17 24) from congrFun ((hF27 9 17 rfl).2.2.1) _); have f6 := h17_4 hJ (j := 24) (by decide); have f7 := b274c; have f8 := k276; have f9 := b273; have g2 := rg32 x284; have z0 : (0 : Int32).toInt = 0 := (by decide); have z1 : (1 : Int32).toInt = 1 := (by decide); have z12 : (12 : Int32).toInt = 12 := (by decide); omega)) ((congrFun ((hF27 9 20 rfl).2.2.1) _).trans ex286) dX9_line_153 ?_
                    have t287 := a9_20 hJ ex286
                    have t288 : ((σ 9).2.2.1 20 (11 + ((σ 9).2.2.1 17 24).toInt.toNat)).toInt = x286.toInt := by rw [show 11 + ((σ 9).2.2.1 17 24).toInt.toNat = x284.toInt.toNat from (by have f0 := h17_4 hJ (j := 24) (by decide); have f1 := b274c; have f2 := h17_4 hJ28 (j := 24) (by decide); have f3 := congrArg Int32.toInt (show ((σ26 9).2.2.1 17 24) = ((σ 9).2.2.1 17 24) from congrFun ((hF27 9 17 rfl).2.2.1) _); have f4 := k276; have f5 := b281c; have f6 := t283; have f7 := t285; have f8 := t287; have f9 := b273; have f10 := b280; have g2 := rg32 x284; have z0 : (0 : Int32).toInt = 0 := (by decide); have z1 : (1 : Int32).toInt = 1 := (by decide); have z12 : (12 : Int32).toInt = 12 := (by decide); omega)]; exact congrArg Int32.toInt ex286
                    refine lv_bipush (v := 16) hx hb dX9_line_154 (by decide) ?_
                    refine lv_icmp_ne (tgt := 213) hx hb dX9_line_156 (by decide) (fun c289 => ?_) (fun c289 => ?_)
                    ·
                      have k290 := neq32 c289
                      exact nj34 (σ26, lf [], lg []) ⟨Fr.rf, hJ28, (show ¬ ((σ26 9).1 12).toInt = 0 ∨ ((¬ (y7.2.1 0).toInt = -1 → ((σ 9).2.2.1 17 22).toInt ≤ 3) ∧ (¬ r11.toInt = 0 → ((σ 9).2.2.1 17 23).toInt ≤ 8) ∧ (¬ r15.toInt = 0 → ((σ 9).2.2.1 17 24).toInt ≤ 2) ∧ ((y7.2.1 0).toInt = -1 → r11.toInt = 0 → r15.toInt = 0 → 1 ≤ ((σ 9).2.2.1 17 24).toInt ∧ ((σ 9).2.2.1 20 (11 + ((σ 9).2.2.1 17 24).toInt.toNat)).toInt ≤ 15)) from (by have f0 := h17_2 hJ (j := 22) (by decide); have f1 := h17_4 hJ (j := 24) (by decide); have f2 := h17_3 hJ (j := 23) (by decide); have f3 := b8; have f4 := b14; have f5 := b18; have f6 := k33; have f7 := k263; have f8 := k266; have f9 := k269; have f10 := b274c; have f11 := h17_4 hJ28 (j := 24) (by decide); have f12 := congrArg Int32.toInt (show ((σ26 9).2.2.1 17 24) = ((σ 9).2.2.1 17 24) from congrFun ((hF27 9 17 rfl).2.2.1) _); have f13 := k276; have f14 := b281c; have f15 := t283; have f16 := t285; have f17 := t287; have f18 := t288; have f19 := k290; have f20 := b273; have f21 := b280; have f22 := b29; have g7 := rg32 (y7.2.1 0); have g8 := rg32 r11; have g9 := rg32 r15; have zm1 : ((-1) : Int32).toInt = (-1) := (by decide); have z0 : (0 : Int32).toInt = 0 := (by decide); have z1 : (1 : Int32).toInt = 1 := (by decide); have z12 : (12 : Int32).toInt = 12 := (by decide); have z16 : (16 : Int32).toInt = 16 := (by decide); omega)), (show ¬ ((σ26 9).1 12).toInt = 0 ∨ ((σ26 9).1 12).toInt = 0 from (by have f0 := k33; have f1 := b29; have z0 : (0 : Int32).toInt = 0 := (by decide); omega)), (show RD (σ26 9) from b30), (show DKA (σ26 9) from b31), trivial⟩ _ _ _ hP hS (lv_sub hl [0, 1, 2, 3, 4] rfl)
                    ·
                      have k291 := peq32 c289
                      refine lv_aload_n hx hb dX9_line_159 rfl (lv_at hl 4 rfl) ?_
                      refine lv_iconst (v := 3) hx hb dX9_line_160 (by decide) ?_
                      refine va_callv (va_runV (As := [.int 3]) (rest := []) ⟨hx, hb, hml, hown, hts⟩ (m_X9_fails l D cy g σ26 (3) _ hJ28 (show (1 : Int) ≤ (3 : Int32).toInt ∧ (3 : Int32).toInt ≤ 3 from (by have z3 : (3 : Int32).toInt = 3 := (by decide); omega))) (cwV 1 hts (gd_V q1622 q1624 q58 q134 q1625) rfl rfl rfl (by decide +kernel) ⟨Nat.le_of_ble_eq_true rfl, Nat.le_of_ble_eq_true rfl⟩) (pv9 hP hK hD hC hS (va_recv hK hP (ci := 9) (q0 := 0) rfl rfl)) rfl rfl hl.1 rfl (lv_room (Nat.le_of_ble_eq_true rfl)) dX9_line_161 ⟨Nat.le_of_ble_eq_true rfl, Nat.le_of_ble_eq_true rfl⟩) hS (fun q _ h => up9 hS q h) (up9 hS) (fun σ293 tS H1 locs ht hvm hw294 hB hz1 hk1 hS => ?_)
                      have hP : va_P D clz (WD9 cy g σ293) H1 := by rw [← ht]; exact hB
                      clear hB hz1 hk1 hvm ht
                      generalize H1 = H at hP hS ⊢
                      have hF295 : Fr (fL [12, 13]) σ26 σ293 := hw294.1
                      have hJ296 : J9 (σ293 9) := hw294.2.1
                      have b297 : ¬ ((σ293 9).1 12).toInt = 0 := hw294.2.2.1
                      have T298 : RD (σ293 9) := RD.call b30 (by have f0 := k33; have f1 := b297; have f2 := b29; have z0 : (0 : Int32).toInt = 0 := (by decide); omega) (hF295 9 17 rfl).2.2.1 (hF295 9 18 rfl).2.2.1 (hF295 9 19 rfl).2.2.1
                      have T299 : DKA (σ293 9) := DKA.mv b31 (hF295 9 17 rfl).2.2.1 (hF295 9 18 rfl).2.2.1 (hF295 9 19 rfl).2.2.1
                      refine lv_goto (tgt := 213) hx hb dX9_line_164 (by decide) ?_
                      exact nj34 (σ293, lf [], lg []) ⟨Fr.tr (Fr.rf) hF295 (fL_sub rfl), hJ296, (show ¬ ((σ293 9).1 12).toInt = 0 ∨ ((¬ (y7.2.1 0).toInt = -1 → ((σ 9).2.2.1 17 22).toInt ≤ 3) ∧ (¬ r11.toInt = 0 → ((σ 9).2.2.1 17 23).toInt ≤ 8) ∧ (¬ r15.toInt = 0 → ((σ 9).2.2.1 17 24).toInt ≤ 2) ∧ ((y7.2.1 0).toInt = -1 → r11.toInt = 0 → r15.toInt = 0 → 1 ≤ ((σ 9).2.2.1 17 24).toInt ∧ ((σ 9).2.2.1 20 (11 + ((σ 9).2.2.1 17 24).toInt.toNat)).toInt ≤ 15)) from (by have f0 := h17_2 hJ (j := 22) (by decide); have f1 := h17_4 hJ (j := 24) (by decide); have f2 := h17_3 hJ (j := 23) (by decide); have f3 := b8; have f4 := b14; have f5 := b18; have f6 := k263; have f7 := k266; have f8 := k269; have f9 := b274c; have f10 := h17_4 hJ28 (j := 24) (by decide); have f11 := congrArg Int32.toInt (show ((σ26 9).2.2.1 17 24) = ((σ 9).2.2.1 17 24) from congrFun ((hF27 9 17 rfl).2.2.1) _); have f12 := k276; have f13 := b281c; have f14 := t283; have f15 := t285; have f16 := t287; have f17 := t288; have f18 := k291; have f19 := b297; have f20 := b273; have f21 := b280; have g6 := rg32 (y7.2.1 0); have g7 := rg32 r11; have g8 := rg32 r15; have zm1 : ((-1) : Int32).toInt = (-1) := (by decide); have z0 : (0 : Int32).toInt = 0 := (by decide); have z1 : (1 : Int32).toInt = 1 := (by decide); have z12 : (12 : Int32).toInt = 12 := (by decide); have z16 : (16 : Int32).toInt = 16 := (by decide); omega)), (show ¬ ((σ293 9).1 12).toInt = 0 ∨ ((σ26 9).1 12).toInt = 0 from (by have f0 := k33; have f1 := b297; have f2 := b29; have z0 : (0 : Int32).toInt = 0 := (by decide); omega)), (show RD (σ293 9) from T298), (show DKA (σ293 9) from T299), trivial⟩ _ _ _ hP hS (lv_sub hl [0, 1, 2, 3, 4] rfl)
                  ·
                    have k300 := peq32 c275
                    refine lv_aload_n hx hb dX9_line_131 rfl (lv_at hl 4 rfl) ?_
                    refine lv_iconst (v := 1) hx hb dX9_line_132 (by decide) ?_
                    refine va_callv (va_runV (As := [.int 1]) (rest := []) ⟨hx, hb, hml, hown, hts⟩ (m_X9_fails l D cy g σ26 (1) _ hJ28 (show (1 : Int) ≤ (1 : Int32).toInt ∧ (1 : Int32).toInt ≤ 3 from (by have z1 : (1 : Int32).toInt = 1 := (by decide); omega))) (cwV 1 hts (gd_V q1622 q1624 q58 q134 q1625) rfl rfl rfl (by decide +kernel) ⟨Nat.le_of_ble_eq_true rfl, Nat.le_of_ble_eq_true rfl⟩) (pv9 hP hK hD hC hS (va_recv hK hP (ci := 9) (q0 := 0) rfl rfl)) rfl rfl hl.1 rfl (lv_room (Nat.le_of_ble_eq_true rfl)) dX9_line_133 ⟨Nat.le_of_ble_eq_true rfl, Nat.le_of_ble_eq_true rfl⟩) hS (fun q _ h => up9 hS q h) (up9 hS) (fun σ302 tS H1 locs ht hvm hw303 hB hz1 hk1 hS => ?_)
                    have hP : va_P D clz (WD9 cy g σ302) H1 := by rw [← ht]; exact hB
                    clear hB hz1 hk1 hvm ht
                    generalize H1 = H at hP hS ⊢
                    have hF304 : Fr (fL [12, 13]) σ26 σ302 := hw303.1
                    have hJ305 : J9 (σ302 9) := hw303.2.1
                    have b306 : ¬ ((σ302 9).1 12).toInt = 0 := hw303.2.2.1
                    have T307 : RD (σ302 9) := RD.call b30 (by have f0 := k33; have f1 := b306; have f2 := b29; have z0 : (0 : Int32).toInt = 0 := (by decide); omega) (hF304 9 17 rfl).2.2.1 (hF304 9 18 rfl).2.2.1 (hF304 9 19 rfl).2.2.1
                    have T308 : DKA (σ302 9) := DKA.mv b31 (hF304 9 17 rfl).2.2.1 (hF304 9 18 rfl).2.2.1 (hF304 9 19 rfl).2.2.1
                    refine lv_goto (tgt := 213) hx hb dX9_line_136 (by decide) ?_
                    exact nj34 (σ302, lf [], lg []) ⟨Fr.tr (Fr.rf) hF304 (fL_sub rfl), hJ305, (show ¬ ((σ302 9).1 12).toInt = 0 ∨ ((¬ (y7.2.1 0).toInt = -1 → ((σ 9).2.2.1 17 22).toInt ≤ 3) ∧ (¬ r11.toInt = 0 → ((σ 9).2.2.1 17 23).toInt ≤ 8) ∧ (¬ r15.toInt = 0 → ((σ 9).2.2.1 17 24).toInt ≤ 2) ∧ ((y7.2.1 0).toInt = -1 → r11.toInt = 0 → r15.toInt = 0 → 1 ≤ ((σ 9).2.2.1 17 24).toInt ∧ ((σ 9).2.2.1 20 (11 + ((σ 9).2.2.1 17 24).toInt.toNat)).toInt ≤ 15)) from (by have f0 := h17_2 hJ (j := 22) (by decide); have f1 := h17_4 hJ (j := 24) (by decide); have f2 := h17_3 hJ (j := 23) (by decide); have f3 := b8; have f4 := b14; have f5 := b18; have f6 := k263; have f7 := k266; have f8 := k269; have f9 := b274c; have f10 := h17_4 hJ28 (j := 24) (by decide); have f11 := congrArg Int32.toInt (show ((σ26 9).2.2.1 17 24) = ((σ 9).2.2.1 17 24) from congrFun ((hF27 9 17 rfl).2.2.1) _); have f12 := k300; have f13 := b306; have f14 := b273; have g6 := rg32 (y7.2.1 0); have g7 := rg32 r11; have g8 := rg32 r15; have zm1 : ((-1) : Int32).toInt = (-1) := (by decide); have z0 : (0 : Int32).toInt = 0 := (by decide); omega)), (show ¬ ((σ302 9).1 12).toInt = 0 ∨ ((σ26 9).1 12).toInt = 0 from (by have f0 := k33; have f1 := b306; have f2 := b29; have z0 : (0 : Int32).toInt = 0 := (by decide); omega)), (show RD (σ302 9) from T307), (show DKA (σ302 9) from T308), trivial⟩ _ _ _ hP hS (lv_sub hl [0, 1, 2, 3, 4] rfl)
      ·
        have k309 := neq32 c32
        exact W.vret hx hb hr (fun tS ht hW => ⟨⟨σ26, rfl, ⟨Fr.tr (Fr.rf) hF27 (fL_sub rfl), hJ28, b30, b31, (show ((σ 9).1 7).toInt ≤ ((σ26 9).1 7).toInt ∧ ((σ26 9).1 7).toInt ≤ ((σ26 9).1 6).toInt from (by have f0 := j9_7 hJ28 rfl; have f1 := congrArg Int32.toInt (show ((σ26 9).1 7) = ((σ 9).1 7) from (hF27 9 7 rfl).1); have f2 := j9_6 hJ28 rfl; have f3 := congrArg Int32.toInt (show ((σ26 9).1 6) = ((σ 9).1 6) from (hF27 9 6 rfl).1); have f4 := j9_7 hJ rfl; have f5 := j9_6 hJ rfl; have f6 := h0; omega)), (show ph ((σ 9).1 7) ((σ 9).1 8) ≤ ph ((σ26 9).1 7) ((σ26 9).1 8) from (by have f0 := (show ph ((σ26 9).1 7) ((σ26 9).1 8) = ph ((σ 9).1 7) ((σ 9).1 8) from by rw [(hF27 9 7 rfl).1, (hF27 9 8 rfl).1]); omega)), (show ¬ ((σ26 9).1 12).toInt = 0 ∨ ((σ 9).1 12).toInt = 0 from (by have f0 := k309; have f1 := b29; have z0 : (0 : Int32).toInt = 0 := (by decide); omega)), trivial⟩, (show va_P D clz (WD9 cy g σ26) tS.heap by rw [ht]; exact hP)⟩, hS.F ht⟩) hS.2.2 dX9_line_109
    ·
      intro nj23
      refine lv_icmp_ne (tgt := 102) hx hb dX9_line_71 (by decide) (fun c310 => ?_) (fun c310 => ?_)
      ·
        have k311 := neq32 c310
        exact nj23 (σ, lf [], lg []) ⟨Fr.rf, hJ, (show ¬ ((σ 9).1 12).toInt = 0 ∨ ((σ 9).1 12).toInt = 0 from (by omega)), (show RD (σ 9) from b9), (show DKA (σ 9) from b10), trivial⟩ _ _ _ hP hS (lv_sub hl [0, 1, 2, 3, 4] rfl)
      ·
        have k312 := peq32 c310
        refine lv_iload_n hx hb dX9_line_74 rfl (lv_at hl 2 rfl) ?_
        refine lv_if_ne (tgt := 102) hx hb dX9_line_75 (by decide) (fun c313 => ?_) (fun c313 => ?_)
        ·
          have k314 := neq32 c313
          exact nj23 (σ, lf [], lg []) ⟨Fr.rf, hJ, (show ¬ ((σ 9).1 12).toInt = 0 ∨ ((σ 9).1 12).toInt = 0 from (by omega)), (show RD (σ 9) from b9), (show DKA (σ 9) from b10), trivial⟩ _ _ _ hP hS (lv_sub hl [0, 1, 2, 3, 4] rfl)
        ·
          have k315 := peq32 c313
          refine lv_iload_n hx hb dX9_line_78 rfl (lv_at hl 1 rfl) ?_
          refine lv_if_ne (tgt := 102) hx hb dX9_line_79 (by decide) (fun c316 => ?_) (fun c316 => ?_)
          ·
            have k317 := neq32 c316
            exact nj23 (σ, lf [], lg []) ⟨Fr.rf, hJ, (show ¬ ((σ 9).1 12).toInt = 0 ∨ ((σ 9).1 12).toInt = 0 from (by omega)), (show RD (σ 9) from b9), (show DKA (σ 9) from b10), trivial⟩ _ _ _ hP hS (lv_sub hl [0, 1, 2, 3, 4] rfl)
          ·
            have k318 := peq32 c316
            refine lv_iload hx hb dX9_line_82 (lv_at hl 0 rfl) ?_
            refine lv_if_ne (tgt := 102) hx hb dX9_line_84 (by decide) (fun c319 => ?_) (fun c319 => ?_)
            ·
              have k320 := neq32 c319
              exact nj23 (σ, lf [], lg []) ⟨Fr.rf, hJ, (show ¬ ((σ 9).1 12).toInt = 0 ∨ ((σ 9).1 12).toInt = 0 from (by omega)), (show RD (σ 9) from b9), (show DKA (σ 9) from b10), trivial⟩ _ _ _ hP hS (lv_sub hl [0, 1, 2, 3, 4] rfl)
            ·
              have k321 := peq32 c319
              refine lv_aload_n hx hb dX9_line_87 rfl (lv_at hl 4 rfl) ?_
              refine lv_ldc2 (v := 358472) hx hb hown (hts _ q1646) dX9_line_88 ?_
              refine va_calli (va_runV (As := [.long 358472]) (rest := []) ⟨hx, hb, hml, hown, hts⟩ (m_X9_is l D cy g σ (358472) _ hJ ) (cwV 1 hts (gd_V q1618 q1620 q57 q134 q1621) rfl rfl rfl (by decide +kernel) ⟨Nat.le_of_ble_eq_true rfl, Nat.le_of_ble_eq_true rfl⟩) (pv9 hP hK hD hC hS (va_recv hK hP (ci := 9) (q0 := 0) rfl rfl)) rfl rfl hl.1 rfl (lv_room (Nat.le_of_ble_eq_true rfl)) dX9_line_91 ⟨Nat.le_of_ble_eq_true rfl, Nat.le_of_ble_eq_true rfl⟩) hS (fun q _ h => up9 hS q h) (up9 hS) (fun r322 σ323 tS H1 locs ht hvm hw324 hB hz1 hk1 hS => ?_)
              have hP : va_P D clz (WD9 cy g σ323) H1 := by rw [← ht]; exact hB
              clear hB hz1 hk1 hvm ht
              generalize H1 = H at hP hS ⊢
              have hw324E : σ = σ323 := (hw324.1).symm
              subst hw324E
              have b325 : (0 : Int) ≤ r322.toInt ∧ r322.toInt ≤ 1 := hw324.2.1
              refine lv_if_ne (tgt := 102) hx hb dX9_line_94 (by decide) (fun c326 => ?_) (fun c326 => ?_)
              ·
                have k327 := neq32 c326
                exact nj23 (σ, lf [], lg []) ⟨Fr.rf, hJ, (show ¬ ((σ 9).1 12).toInt = 0 ∨ ((σ 9).1 12).toInt = 0 from (by omega)), (show RD (σ 9) from b9), (show DKA (σ 9) from b10), trivial⟩ _ _ _ hP hS (lv_sub hl [0, 1, 2, 3, 4] rfl)
              ·
                have k328 := peq32 c326
                refine lv_aload_n hx hb dX9_line_97 rfl (lv_at hl 4 rfl) ?_
                refine lv_iconst (v := 1) hx hb dX9_line_98 (by decide) ?_
                refine va_callv (va_runV (As := [.int 1]) (rest := []) ⟨hx, hb, hml, hown, hts⟩ (m_X9_fails l D cy g σ (1) _ hJ (show (1 : Int) ≤ (1 : Int32).toInt ∧ (1 : Int32).toInt ≤ 3 from (by have z1 : (1 : Int32).toInt = 1 := (by decide); omega))) (cwV 1 hts (gd_V q1622 q1624 q58 q134 q1625) rfl rfl rfl (by decide +kernel) ⟨Nat.le_of_ble_eq_true rfl, Nat.le_of_ble_eq_true rfl⟩) (pv9 hP hK hD hC hS (va_recv hK hP (ci := 9) (q0 := 0) rfl rfl)) rfl rfl hl.1 rfl (lv_room (Nat.le_of_ble_eq_true rfl)) dX9_line_99 ⟨Nat.le_of_ble_eq_true rfl, Nat.le_of_ble_eq_true rfl⟩) hS (fun q _ h => up9 hS q h) (up9 hS) (fun σ330 tS H1 locs ht hvm hw331 hB hz1 hk1 hS => ?_)
                have hP : va_P D clz (WD9 cy g σ330) H1 := by rw [← ht]; exact hB
                clear hB hz1 hk1 hvm ht
                generalize H1 = H at hP hS ⊢
                have hF332 : Fr (fL [12, 13]) σ σ330 := hw331.1
                have hJ333 : J9 (σ330 9) := hw331.2.1
                have b334 : ¬ ((σ330 9).1 12).toInt = 0 := hw331.2.2.1
                have T335 : RD (σ330 9) := RD.call b9 (by have f0 := b334; omega) (hF332 9 17 rfl).2.2.1 (hF332 9 18 rfl).2.2.1 (hF332 9 19 rfl).2.2.1
                have T336 : DKA (σ330 9) := DKA.mv b10 (hF332 9 17 rfl).2.2.1 (hF332 9 18 rfl).2.2.1 (hF332 9 19 rfl).2.2.1
                exact nj23 (σ330, lf [], lg []) ⟨Fr.tr (Fr.rf) hF332 (fL_sub rfl), hJ333, (show ¬ ((σ330 9).1 12).toInt = 0 ∨ ((σ 9).1 12).toInt = 0 from (by have f0 := b334; omega)), (show RD (σ330 9) from T335), (show DKA (σ330 9) from T336), trivial⟩ _ _ _ hP hS (lv_sub hl [0, 1, 2, 3, 4] rfl)
  ·
    intro nj5
    refine lv_if_eq (tgt := 14) hx hb dX9_line_7 (by decide) (fun c337 => ?_) (fun c337 => ?_)
    ·
      have k338 := peq32 c337
      refine lv_aload_n hx hb dX9_line_14 rfl (lv_at hl 0 rfl) ?_
      refine lv_ldc2 (v := 168899) hx hb hown (hts _ q1641) dX9_line_15 ?_
      refine va_calli (va_runV (As := [.long 168899]) (rest := []) ⟨hx, hb, hml, hown, hts⟩ (m_X9_is l D cy g σ (168899) _ hJ ) (cwV 1 hts (gd_V q1618 q1620 q57 q134 q1621) rfl rfl rfl (by decide +kernel) ⟨Nat.le_of_ble_eq_true rfl, Nat.le_of_ble_eq_true rfl⟩) (pv9 hP hK hD hC hS (va_recv hK hP (ci := 9) (q0 := 0) rfl rfl)) rfl rfl hl.1 rfl (lv_room (Nat.le_of_ble_eq_true rfl)) dX9_line_18 ⟨Nat.le_of_ble_eq_true rfl, Nat.le_of_ble_eq_true rfl⟩) hS (fun q _ h => up9 hS q h) (up9 hS) (fun r339 σ340 tS H1 locs ht hvm hw341 hB hz1 hk1 hS => ?_)
      have hP : va_P D clz (WD9 cy g σ340) H1 := by rw [← ht]; exact hB
      clear hB hz1 hk1 hvm ht
      generalize H1 = H at hP hS ⊢
      have hw341E : σ = σ340 := (hw341.1).symm
      subst hw341E
      have b342 : (0 : Int) ≤ r339.toInt ∧ r339.toInt ≤ 1 := hw341.2.1
      refine lv_if_eq (tgt := 28) hx hb dX9_line_21 (by decide) (fun c343 => ?_) (fun c343 => ?_)
      ·
        have k344 := peq32 c343
        refine lv_aload_n hx hb dX9_line_28 rfl (lv_at hl 0 rfl) ?_
        refine lv_ldc2 (v := 10340249) hx hb hown (hts _ q1642) dX9_line_29 ?_
        refine va_calli (va_runV (As := [.long 10340249]) (rest := []) ⟨hx, hb, hml, hown, hts⟩ (m_X9_is l D cy g σ (10340249) _ hJ ) (cwV 1 hts (gd_V q1618 q1620 q57 q134 q1621) rfl rfl rfl (by decide +kernel) ⟨Nat.le_of_ble_eq_true rfl, Nat.le_of_ble_eq_true rfl⟩) (pv9 hP hK hD hC hS (va_recv hK hP (ci := 9) (q0 := 0) rfl rfl)) rfl rfl hl.1 rfl (lv_room (Nat.le_of_ble_eq_true rfl)) dX9_line_32 ⟨Nat.le_of_ble_eq_true rfl, Nat.le_of_ble_eq_true rfl⟩) hS (fun q _ h => up9 hS q h) (up9 hS) (fun r345 σ346 tS H1 locs ht hvm hw347 hB hz1 hk1 hS => ?_)
        have hP : va_P D clz (WD9 cy g σ346) H1 := by rw [← ht]; exact hB
        clear hB hz1 hk1 hvm ht
        generalize H1 = H at hP hS ⊢
        have hw347E : σ = σ346 := (hw347.1).symm
        subst hw347E
        have b348 : (0 : Int) ≤ r345.toInt ∧ r345.toInt ≤ 1 := hw347.2.1
        refine lv_if_eq (tgt := 42) hx hb dX9_line_35 (by decide) (fun c349 => ?_) (fun c349 => ?_)
        ·
          have k350 := peq32 c349
          refine lv_iconst (v := (-1)) hx hb dX9_line_42 (by decide) ?_
          exact nj5 (σ, lf [(-1)], lg []) ⟨rfl, (show (-1 : Int) ≤ ((-1) : Int32).toInt ∧ ((-1) : Int32).toInt ≤ 2 from (by have zm1 : ((-1) : Int32).toInt = (-1) := (by decide); omega)), (show RD (σ 9) from kRD), (show DKA (σ 9) from kDKA), trivial⟩ _ _ _ hP hS (lv_sub hl [0] rfl)
        ·
          have k351 := neq32 c349
          refine lv_iconst (v := 2) hx hb dX9_line_38 (by decide) ?_
          refine lv_goto (tgt := 43) hx hb dX9_line_39 (by decide) ?_
          exact nj5 (σ, lf [2], lg []) ⟨rfl, (show (-1 : Int) ≤ (2 : Int32).toInt ∧ (2 : Int32).toInt ≤ 2 from (by have z2 : (2 : Int32).toInt = 2 := (by decide); omega)), (show RD (σ 9) from kRD), (show DKA (σ 9) from kDKA), trivial⟩ _ _ _ hP hS (lv_sub hl [0] rfl)
      ·
        have k352 := neq32 c343
        refine lv_iconst (v := 1) hx hb dX9_line_24 (by decide) ?_
        refine lv_goto (tgt := 43) hx hb dX9_line_25 (by decide) ?_
        exact nj5 (σ, lf [1], lg []) ⟨rfl, (show (-1 : Int) ≤ (1 : Int32).toInt ∧ (1 : Int32).toInt ≤ 2 from (by have z1 : (1 : Int32).toInt = 1 := (by decide); omega)), (show RD (σ 9) from kRD), (show DKA (σ 9) from kDKA), trivial⟩ _ _ _ hP hS (lv_sub hl [0] rfl)
    ·
      have k353 := neq32 c337
      refine lv_iconst (v := 0) hx hb dX9_line_10 (by decide) ?_
      refine lv_goto (tgt := 43) hx hb dX9_line_11 (by decide) ?_
      exact nj5 (σ, lf [0], lg []) ⟨rfl, (show (-1 : Int) ≤ (0 : Int32).toInt ∧ (0 : Int32).toInt ≤ 2 from (by have z0 : (0 : Int32).toInt = 0 := (by decide); omega)), (show RD (σ 9) from kRD), (show DKA (σ 9) from kDKA), trivial⟩ _ _ _ hP hS (lv_sub hl [0] rfl)

theorem q1583 : Cond.code yX9_desk cX9_desk 1 (some .int) ∈ lw_g := lw_gm (List.mem_of_getElem? (i := 1583) (by decide +kernel)) rfl
theorem q1584 : Cond.methodLink RX9 270 yX9_clears ∈ lw_g := lw_gm (List.mem_of_getElem? (i := 1584) (by decide +kernel)) rfl
theorem q1586 : Cond.instanceMethod yX9_clears ∈ lw_g := lw_gm (List.mem_of_getElem? (i := 1586) (by decide +kernel)) rfl
theorem q50 : Cond.selects RX9 yX9_clears yX9_clears ∈ lw_g := lw_gm (List.mem_of_getElem? (i := 50) (by decide +kernel)) rfl
theorem q1588 : Cond.methodLink RX9 273 yX9_begins ∈ lw_g := lw_gm (List.mem_of_getElem? (i := 1588) (by decide +kernel)) rfl
theorem q1590 : Cond.instanceMethod yX9_begins ∈ lw_g := lw_gm (List.mem_of_getElem? (i := 1590) (by decide +kernel)) rfl
theorem q51 : Cond.selects RX9 yX9_begins yX9_begins ∈ lw_g := lw_gm (List.mem_of_getElem? (i := 51) (by decide +kernel)) rfl
theorem q1605 : Cond.methodLink RX9 276 yX9_isGood ∈ lw_g := lw_gm (List.mem_of_getElem? (i := 1605) (by decide +kernel)) rfl
theorem q1607 : Cond.instanceMethod yX9_isGood ∈ lw_g := lw_gm (List.mem_of_getElem? (i := 1607) (by decide +kernel)) rfl
theorem q54 : Cond.selects RX9 yX9_isGood yX9_isGood ∈ lw_g := lw_gm (List.mem_of_getElem? (i := 54) (by decide +kernel)) rfl
theorem q1686 : Cond.methodLink RX9 292 yX9_isOver ∈ lw_g := lw_gm (List.mem_of_getElem? (i := 1686) (by decide +kernel)) rfl
theorem q1688 : Cond.instanceMethod yX9_isOver ∈ lw_g := lw_gm (List.mem_of_getElem? (i := 1688) (by decide +kernel)) rfl
theorem q69 : Cond.selects RX9 yX9_isOver yX9_isOver ∈ lw_g := lw_gm (List.mem_of_getElem? (i := 69) (by decide +kernel)) rfl
theorem q1682 : Cond.methodLink RX9 289 yX9_ends ∈ lw_g := lw_gm (List.mem_of_getElem? (i := 1682) (by decide +kernel)) rfl
theorem q1684 : Cond.instanceMethod yX9_ends ∈ lw_g := lw_gm (List.mem_of_getElem? (i := 1684) (by decide +kernel)) rfl
theorem q68 : Cond.selects RX9 yX9_ends yX9_ends ∈ lw_g := lw_gm (List.mem_of_getElem? (i := 68) (by decide +kernel)) rfl
theorem q1636 : Cond.methodLink RX9 286 yX9_line ∈ lw_g := lw_gm (List.mem_of_getElem? (i := 1636) (by decide +kernel)) rfl
theorem q1638 : Cond.instanceMethod yX9_line ∈ lw_g := lw_gm (List.mem_of_getElem? (i := 1638) (by decide +kernel)) rfl
theorem q61 : Cond.selects RX9 yX9_line yX9_line ∈ lw_g := lw_gm (List.mem_of_getElem? (i := 61) (by decide +kernel)) rfl
theorem q1609 : Cond.constantLong RX9 280 (82901) ∈ lw_g := lw_gm (List.mem_of_getElem? (i := 1609) (by decide +kernel)) rfl
theorem q1626 : Cond.constantLong RX9 282 (1703503) ∈ lw_g := lw_gm (List.mem_of_getElem? (i := 1626) (by decide +kernel)) rfl
theorem q1635 : Cond.constantLong RX9 284 (3232385804) ∈ lw_g := lw_gm (List.mem_of_getElem? (i := 1635) (by decide +kernel)) rfl
theorem dX9_desk_0 : decode cX9_desk 0 = .ok (.aload_n 0, 1) := by decide +kernel
theorem dX9_desk_1 : decode cX9_desk 1 = .ok (.iconst 0, 1) := by decide +kernel
theorem dX9_desk_2 : decode cX9_desk 2 = .ok (.putfield 129, 3) := by decide +kernel
theorem dX9_desk_5 : decode cX9_desk 5 = .ok (.aload_n 0, 1) := by decide +kernel
theorem dX9_desk_6 : decode cX9_desk 6 = .ok (.invokevirtual 270, 3) := by decide +kernel
theorem dX9_desk_9 : decode cX9_desk 9 = .ok (.aload_n 0, 1) := by decide +kernel
theorem dX9_desk_10 : decode cX9_desk 10 = .ok (.invokevirtual 273, 3) := by decide +kernel
theorem dX9_desk_13 : decode cX9_desk 13 = .ok (.aload_n 0, 1) := by decide +kernel
theorem dX9_desk_14 : decode cX9_desk 14 = .ok (.invokevirtual 276, 3) := by decide +kernel
theorem dX9_desk_17 : decode cX9_desk 17 = .ok (.ifCond .eq 91, 3) := by decide +kernel
theorem dX9_desk_20 : decode cX9_desk 20 = .ok (.aload_n 0, 1) := by decide +kernel
theorem dX9_desk_21 : decode cX9_desk 21 = .ok (.getfield 170, 3) := by decide +kernel
theorem dX9_desk_24 : decode cX9_desk 24 = .ok (.ifCond .eq 84, 3) := by decide +kernel
theorem dX9_desk_27 : decode cX9_desk 27 = .ok (.aload_n 0, 1) := by decide +kernel
theorem dX9_desk_28 : decode cX9_desk 28 = .ok (.getfield 31, 3) := by decide +kernel
theorem dX9_desk_31 : decode cX9_desk 31 = .ok (.iconst 4, 1) := by decide +kernel
theorem dX9_desk_32 : decode cX9_desk 32 = .ok (.iaload, 1) := by decide +kernel
theorem dX9_desk_33 : decode cX9_desk 33 = .ok (.ifCond .ne 47, 3) := by decide +kernel
theorem dX9_desk_36 : decode cX9_desk 36 = .ok (.aload_n 0, 1) := by decide +kernel
theorem dX9_desk_37 : decode cX9_desk 37 = .ok (.ldc2_w 280, 3) := by decide +kernel
theorem dX9_desk_40 : decode cX9_desk 40 = .ok (.invokevirtual 200, 3) := by decide +kernel
theorem dX9_desk_43 : decode cX9_desk 43 = .ok (.aload_n 0, 1) := by decide +kernel
theorem dX9_desk_44 : decode cX9_desk 44 = .ok (.getfield 34, 3) := by decide +kernel
theorem dX9_desk_47 : decode cX9_desk 47 = .ok (.bipush 20, 2) := by decide +kernel
theorem dX9_desk_49 : decode cX9_desk 49 = .ok (.aload_n 0, 1) := by decide +kernel
theorem dX9_desk_50 : decode cX9_desk 50 = .ok (.ldc2_w 282, 3) := by decide +kernel
theorem dX9_desk_53 : decode cX9_desk 53 = .ok (.iconst 1, 1) := by decide +kernel
theorem dX9_desk_54 : decode cX9_desk 54 = .ok (.bipush 60, 2) := by decide +kernel
theorem dX9_desk_56 : decode cX9_desk 56 = .ok (.invokevirtual 217, 3) := by decide +kernel
theorem dX9_desk_59 : decode cX9_desk 59 = .ok (.iastore, 1) := by decide +kernel
theorem dX9_desk_60 : decode cX9_desk 60 = .ok (.aload_n 0, 1) := by decide +kernel
theorem dX9_desk_61 : decode cX9_desk 61 = .ok (.getfield 34, 3) := by decide +kernel
theorem dX9_desk_64 : decode cX9_desk 64 = .ok (.bipush 21, 2) := by decide +kernel
theorem dX9_desk_66 : decode cX9_desk 66 = .ok (.aload_n 0, 1) := by decide +kernel
theorem dX9_desk_67 : decode cX9_desk 67 = .ok (.ldc2_w 284, 3) := by decide +kernel
theorem dX9_desk_70 : decode cX9_desk 70 = .ok (.iconst 2, 1) := by decide +kernel
theorem dX9_desk_71 : decode cX9_desk 71 = .ok (.bipush 12, 2) := by decide +kernel
theorem dX9_desk_73 : decode cX9_desk 73 = .ok (.invokevirtual 217, 3) := by decide +kernel
theorem dX9_desk_76 : decode cX9_desk 76 = .ok (.iastore, 1) := by decide +kernel
theorem dX9_desk_77 : decode cX9_desk 77 = .ok (.goto 7, 3) := by decide +kernel
theorem dX9_desk_80 : decode cX9_desk 80 = .ok (.aload_n 0, 1) := by decide +kernel
theorem dX9_desk_81 : decode cX9_desk 81 = .ok (.invokevirtual 286, 3) := by decide +kernel
theorem dX9_desk_84 : decode cX9_desk 84 = .ok (.aload_n 0, 1) := by decide +kernel
theorem dX9_desk_85 : decode cX9_desk 85 = .ok (.invokevirtual 276, 3) := by decide +kernel
theorem dX9_desk_88 : decode cX9_desk 88 = .ok (.ifCond .eq 7, 3) := by decide +kernel
theorem dX9_desk_91 : decode cX9_desk 91 = .ok (.aload_n 0, 1) := by decide +kernel
theorem dX9_desk_92 : decode cX9_desk 92 = .ok (.invokevirtual 289, 3) := by decide +kernel
theorem dX9_desk_95 : decode cX9_desk 95 = .ok (.aload_n 0, 1) := by decide +kernel
theorem dX9_desk_96 : decode cX9_desk 96 = .ok (.getfield 31, 3) := by decide +kernel
theorem dX9_desk_99 : decode cX9_desk 99 = .ok (.iconst 4, 1) := by decide +kernel
theorem dX9_desk_100 : decode cX9_desk 100 = .ok (.dup2, 1) := by decide +kernel
theorem dX9_desk_101 : decode cX9_desk 101 = .ok (.iaload, 1) := by decide +kernel
theorem dX9_desk_102 : decode cX9_desk 102 = .ok (.iconst 1, 1) := by decide +kernel
theorem dX9_desk_103 : decode cX9_desk 103 = .ok (.iadd, 1) := by decide +kernel
theorem dX9_desk_104 : decode cX9_desk 104 = .ok (.iastore, 1) := by decide +kernel
theorem dX9_desk_105 : decode cX9_desk 105 = .ok (.goto (-92), 3) := by decide +kernel
theorem dX9_desk_108 : decode cX9_desk 108 = .ok (.aload_n 0, 1) := by decide +kernel
theorem dX9_desk_109 : decode cX9_desk 109 = .ok (.invokevirtual 292, 3) := by decide +kernel
theorem dX9_desk_112 : decode cX9_desk 112 = .ok (.aload_n 0, 1) := by decide +kernel
theorem dX9_desk_113 : decode cX9_desk 113 = .ok (.getfield 181, 3) := by decide +kernel
theorem dX9_desk_116 : decode cX9_desk 116 = .ok (.ifCond .eq 6, 3) := by decide +kernel
theorem dX9_desk_119 : decode cX9_desk 119 = .ok (.bipush (-4), 2) := by decide +kernel
theorem dX9_desk_121 : decode cX9_desk 121 = .ok (.ireturn, 1) := by decide +kernel
theorem dX9_desk_122 : decode cX9_desk 122 = .ok (.aload_n 0, 1) := by decide +kernel
theorem dX9_desk_123 : decode cX9_desk 123 = .ok (.iconst 4, 1) := by decide +kernel
theorem dX9_desk_124 : decode cX9_desk 124 = .ok (.iconst 0, 1) := by decide +kernel
theorem dX9_desk_125 : decode cX9_desk 125 = .ok (.invokevirtual 295, 3) := by decide +kernel
theorem dX9_desk_128 : decode cX9_desk 128 = .ok (.aload_n 0, 1) := by decide +kernel
theorem dX9_desk_129 : decode cX9_desk 129 = .ok (.getfield 31, 3) := by decide +kernel
theorem dX9_desk_132 : decode cX9_desk 132 = .ok (.iconst 0, 1) := by decide +kernel
theorem dX9_desk_133 : decode cX9_desk 133 = .ok (.iaload, 1) := by decide +kernel
theorem dX9_desk_134 : decode cX9_desk 134 = .ok (.ireturn, 1) := by decide +kernel
set_option maxHeartbeats 4000000 in
set_option maxRecDepth 100000 in
theorem m_X9_desk (l : Launch) (D : va_G) (cy : Nat → ClassId) (g : Nat → Nat) (σ : ST)  (sz : Nat) (hJ : J9 (σ 9)) (kDKA : DKA (σ 9)) : Met l yX9_desk (ww yX9_desk cX9_desk 1 (some .int)) ({ frames := 8, cells := 0, slots := 0, locals := 512 }) (va_Pc [.ref (g 60)] (pr9 D cy g σ sz)) (qi9 D cy g sz (fun r τ => Fr (fL [0, 6, 7, 8, 9, 10, 11, 12, 13, 14, 15, 16, 17, 18, 19, 20, 21]) σ τ ∧ J9 (τ 9) ∧ DKA (τ 9) ∧ True)) 0 0 (A9 cy g sz) := by
  refine Met.ofW (cc := cX9_desk) (maxL := 1) (ret := (some .int)) (by decide) rfl ?_
  intro p e s m args below meth c s₁ B hml hv
  obtain ⟨rfl, hsz, hP, hK, hD0, hC⟩ := hv
  have hx := B.exec
  have hb := B.bytes
  have hr := B.returns
  have hts := hts_g (atoms_spec (ws := ww yX9_desk cX9_desk 1 (some .int)) B.pre)
  have hown : s.vm.findClass RX9 = some m.cls := findClass_of_methodNamed B.named
  have hlocks := B.notSynchronized
  clear B
  subst hsz
  have hD := fun τ => A9_D (sz := s.heap.size) hD0 τ
  clear hD0
  have hS : va_S (A9 cy g s.heap.size) s.heap s.heap [] := va_S.rf
  have hl := lv_entry ([.ref (g 60)]) (n := 1) (Nat.le_of_ble_eq_true rfl)
  rw [lg_entry_eq]
  generalize (lg_sl ([.ref (g 60)]) ++ List.replicate (1 - (lg_sl ([.ref (g 60)])).length) Slot.unset).toArray = ls at hl ⊢
  have hl : lv_has ls 1 [(0, .ref (g 60))] := hl
  refine lv_aload_n hx hb dX9_desk_0 rfl (lv_at hl 0 rfl) ?_
  refine lv_iconst (v := 0) hx hb dX9_desk_1 (by decide) ?_
  refine p9_0 hx hb hts hown hK hP hD hS (hts _ q1360) dX9_desk_2 (fun H locs σ1 eσ1 hP hS => ?_)
  have hJ2 : J9 (σ1 9) := hJ.I eσ1 (show JI9 0 (0 : Int32) from trivial)
  have T3 : DKA (σ1 9) := DKA.mv kDKA ((sI_f eσ1) 9 17 rfl).2.2.1 ((sI_f eσ1) 9 18 rfl).2.2.1 ((sI_f eσ1) 9 19 rfl).2.2.1
  refine lv_aload_n hx hb dX9_desk_5 rfl (lv_at hl 0 rfl) ?_
  refine va_callv (va_runV (As := []) (rest := []) ⟨hx, hb, hml, hown, hts⟩ (m_X9_clears l D cy g σ1  _ hJ2 T3) (cwV 0 hts (gd_V q1584 q1586 q50 q134 q1587) rfl rfl rfl (by decide +kernel) ⟨Nat.le_of_ble_eq_true rfl, Nat.le_of_ble_eq_true rfl⟩) (pv9 hP hK hD hC hS (va_recv hK hP (ci := 9) (q0 := 0) rfl rfl)) rfl rfl hl.1 rfl (lv_room (Nat.le_of_ble_eq_true rfl)) dX9_desk_6 ⟨Nat.le_of_ble_eq_true rfl, Nat.le_of_ble_eq_true rfl⟩) hS (fun q _ h => up9 hS q h) (up9 hS) (fun σ5 tS H1 locs ht hvm hw6 hB hz1 hk1 hS => ?_)
  have hP : va_P D clz (WD9 cy g σ5) H1 := by rw [← ht]; exact hB
  clear hB hz1 hk1 hvm ht
  generalize H1 = H at hP hS ⊢
  have hF7 : Fr (fL [16, 17]) σ1 σ5 := hw6.1
  have hJ8 : J9 (σ5 9) := hw6.2.1
  have b9 : ((σ5 9).2.2.1 17 22).toInt = 0 ∧ ((σ5 9).2.2.1 17 23).toInt = 0 := hw6.2.2.2.1
  refine lv_aload_n hx hb dX9_desk_9 rfl (lv_at hl 0 rfl) ?_
  refine va_callv (va_runV (As := []) (rest := []) ⟨hx, hb, hml, hown, hts⟩ (m_X9_begins l D cy g σ5  _ hJ8 ) (cwV 0 hts (gd_V q1588 q1590 q51 q134 q1591) rfl rfl rfl (by decide +kernel) ⟨Nat.le_of_ble_eq_true rfl, Nat.le_of_ble_eq_true rfl⟩) (pv9 hP hK hD hC hS (va_recv hK hP (ci := 9) (q0 := 0) rfl rfl)) rfl rfl hl.1 rfl (lv_room (Nat.le_of_ble_eq_true rfl)) dX9_desk_10 ⟨Nat.le_of_ble_eq_true rfl, Nat.le_of_ble_eq_true rfl⟩) hS (fun q _ h => up9 hS q h) (up9 hS) (fun σ11 tS H1 locs ht hvm hw12 hB hz1 hk1 hS => ?_)
  have hP : va_P D clz (WD9 cy g σ11) H1 := by rw [← ht]; exact hB
  clear hB hz1 hk1 hvm ht
  generalize H1 = H at hP hS ⊢
  have hF13 : Fr (fL [7, 8, 9, 10, 11, 12, 13]) σ5 σ11 := hw12.1
  have hJ14 : J9 (σ11 9) := hw12.2.1
  have b15 : ((σ11 9).1 7).toInt ≤ ((σ11 9).1 6).toInt ∧ ((σ11 9).1 12).toInt = 0 := hw12.2.2.1
  have T16 : DKA (σ11 9) := DKA.mv hw6.2.2.1 (hF13 9 17 rfl).2.2.1 (hF13 9 18 rfl).2.2.1 (hF13 9 19 rfl).2.2.1
  have T17 : RD (σ11 9) := RD.zero (by have f0 := h17_2 hJ14 (j := 22) (by decide); have f1 := congrArg Int32.toInt (show ((σ11 9).2.2.1 17 22) = ((σ5 9).2.2.1 17 22) from congrFun ((hF13 9 17 rfl).2.2.1) _); have f2 := h17_2 hJ8 (j := 22) (by decide); have f3 := b9; have f4 := h17_3 hJ8 (j := 23) (by decide); omega) (by have f0 := h17_3 hJ14 (j := 23) (by decide); have f1 := congrArg Int32.toInt (show ((σ11 9).2.2.1 17 23) = ((σ5 9).2.2.1 17 23) from congrFun ((hF13 9 17 rfl).2.2.1) _); have f2 := h17_3 hJ8 (j := 23) (by decide); have f3 := b9; have f4 := h17_2 hJ8 (j := 22) (by decide); omega)
  refine loop9 1 13 (fun x : LZ => [(0, .ref (g 60))]) (fun x : LZ => (Fr (fL [7, 8, 9, 10, 11, 12, 13, 16, 17, 18, 19, 20, 21]) σ11 x.1) ∧ (J9 (x.1 9)) ∧ (((x.1 9).1 7).toInt ≤ ((x.1 9).1 6).toInt) ∧ (DKA (x.1 9)) ∧ (RD (x.1 9)) ∧ True) (fun x : LZ => mz ((x.1 9).1 12) (((x.1 9).1 6).toInt - ph ((x.1 9).1 7) ((x.1 9).1 8))) ?_ (σ11, lf [], lg []) ⟨Fr.rf, hJ14, (show ((σ11 9).1 7).toInt ≤ ((σ11 9).1 6).toInt from (by have f0 := j9_6 hJ14 rfl; have f1 := congrArg Int32.toInt (show ((σ11 9).1 6) = ((σ 9).1 6) from ((hF13 9 6 rfl).1).trans (((hF7 9 6 rfl).1).trans (((sI_f eσ1) 9 6 rfl).1))); have f2 := j9_7 hJ14 rfl; have f3 := j9_6 hJ rfl; have f4 := b15; omega)), (show DKA (σ11 9) from T16), (show RD (σ11 9) from T17), trivial⟩ _ _ _ hP hS (lv_sub hl [0] rfl)
  intro y20 hI19 nl18 H locs ls hP hS hl
  obtain ⟨σ21, eσ21⟩ : ∃ z, z = y20.1 := ⟨_, rfl⟩
  rw [← eσ21] at hP hI19
  have hF22 : Fr (fL [7, 8, 9, 10, 11, 12, 13, 16, 17, 18, 19, 20, 21]) σ11 σ21 := hI19.1
  have hJ23 : J9 (σ21 9) := hI19.2.1
  have b24 : ((σ21 9).1 7).toInt ≤ ((σ21 9).1 6).toInt := hI19.2.2.1
  have b25 : DKA (σ21 9) := hI19.2.2.2.1
  have b26 : RD (σ21 9) := hI19.2.2.2.2.1
  have hl : lv_has ls 1 [(0, .ref (g 60))] := hl
  refine lv_aload_n hx hb dX9_desk_13 rfl (lv_at hl 0 rfl) ?_
  refine va_calli (va_runV (As := []) (rest := []) ⟨hx, hb, hml, hown, hts⟩ (m_X9_isGood l D cy g σ21  _ hJ23 ) (cwV 0 hts (gd_V q1605 q1607 q54 q134 q1608) rfl rfl rfl (by decide +kernel) ⟨Nat.le_of_ble_eq_true rfl, Nat.le_of_ble_eq_true rfl⟩) (pv9 hP hK hD hC hS (va_recv hK hP (ci := 9) (q0 := 0) rfl rfl)) rfl rfl hl.1 rfl (lv_room (Nat.le_of_ble_eq_true rfl)) dX9_desk_14 ⟨Nat.le_of_ble_eq_true rfl, Nat.le_of_ble_eq_true rfl⟩) hS (fun q _ h => up9 hS q h) (up9 hS) (fun r27 σ28 tS H1 locs ht hvm hw29 hB hz1 hk1 hS => ?_)
  have hP : va_P D clz (WD9 cy g σ28) H1 := by rw [← ht]; exact hB
  clear hB hz1 hk1 hvm ht
  generalize H1 = H at hP hS ⊢
  have hw29E : σ21 = σ28 := (hw29.1).symm
  subst hw29E
  have b30 : (0 : Int) ≤ r27.toInt ∧ r27.toInt ≤ 1 := hw29.2.1
  have b31 : (r27.toInt = 1 ∧ ((σ21 9).1 12).toInt = 0) ∨ (r27.toInt = 0 ∧ ¬ ((σ21 9).1 12).toInt = 0) := hw29.2.2.1
  refine cut9 (D := D) (cy := cy) (g := g) (A := A9 cy g s.heap.size) (H0 := s.heap) 1 108 (fun x : LZ => [(0, .ref (g 60))]) (fun x : LZ => []) (fun x : LZ => (x.1 = σ21) ∧ (DKA (σ21 9)) ∧ (RD (σ21 9)) ∧ True) ?_ ?_
  ·
    intro y34 hI33 H locs ls hP hS hl
    rw [show y34.1 = σ21 from hI33.1] at hP
    have b35 : DKA (σ21 9) := hI33.2.1
    have b36 : RD (σ21 9) := hI33.2.2.1
    have hl : lv_has ls 1 [(0, .ref (g 60))] := hl
    refine lv_aload_n hx hb dX9_desk_108 rfl (lv_at hl 0 rfl) ?_
    refine va_callv (va_runV (As := []) (rest := []) ⟨hx, hb, hml, hown, hts⟩ (m_X9_isOver l D cy g σ21  _ hJ23 ) (cwV 0 hts (gd_V q1686 q1688 q69 q134 q1689) rfl rfl rfl (by decide +kernel) ⟨Nat.le_of_ble_eq_true rfl, Nat.le_of_ble_eq_true rfl⟩) (pv9 hP hK hD hC hS (va_recv hK hP (ci := 9) (q0 := 0) rfl rfl)) rfl rfl hl.1 rfl (lv_room (Nat.le_of_ble_eq_true rfl)) dX9_desk_109 ⟨Nat.le_of_ble_eq_true rfl, Nat.le_of_ble_eq_true rfl⟩) hS (fun q _ h => up9 hS q h) (up9 hS) (fun σ38 tS H1 locs ht hvm hw39 hB hz1 hk1 hS => ?_)
    have hP : va_P D clz (WD9 cy g σ38) H1 := by rw [← ht]; exact hB
    clear hB hz1 hk1 hvm ht
    generalize H1 = H at hP hS ⊢
    have hF40 : Fr (fL [6, 14, 15]) σ21 σ38 := hw39.1
    have hJ41 : J9 (σ38 9) := hw39.2.1
    have T42 : DKA (σ38 9) := DKA.mv b35 (hF40 9 17 rfl).2.2.1 (hF40 9 18 rfl).2.2.1 (hF40 9 19 rfl).2.2.1
    have T43 : RD (σ38 9) := RD.mv b36 (hF40 9 12 rfl).1 (hF40 9 17 rfl).2.2.1 (hF40 9 18 rfl).2.2.1 (hF40 9 19 rfl).2.2.1
    refine lv_aload_n hx hb dX9_desk_112 rfl (lv_at hl 0 rfl) ?_
    refine g9_12 (x := ((σ21 9).1 12)) hx hb hts hown hK hP ((hF40 9 12 rfl).1) (hts _ q1372) dX9_desk_113 ?_
    refine lv_if_eq (tgt := 122) hx hb dX9_desk_116 (by decide) (fun c44 => ?_) (fun c44 => ?_)
    ·
      have k45 := peq32 c44
      refine lv_aload_n hx hb dX9_desk_122 rfl (lv_at hl 0 rfl) ?_
      refine lv_iconst (v := 4) hx hb dX9_desk_123 (by decide) ?_
      refine lv_iconst (v := 0) hx hb dX9_desk_124 (by decide) ?_
      refine va_callv (va_runV (As := [.int 4, .int 0]) (rest := []) ⟨hx, hb, hml, hown, hts⟩ (m_X9_copyDesk l D cy g σ38 (4) (0) _ hJ41 T42 (show (0 : Int) ≤ (4 : Int32).toInt ∧ (4 : Int32).toInt ≤ 4 from (by have z4 : (4 : Int32).toInt = 4 := (by decide); omega)) (show (0 : Int) ≤ (0 : Int32).toInt ∧ (0 : Int32).toInt ≤ 4 from (by have z0 : (0 : Int32).toInt = 0 := (by decide); have z4 : (4 : Int32).toInt = 4 := (by decide); omega)) (show ¬ (4 : Int32).toInt = (0 : Int32).toInt from (by have z0 : (0 : Int32).toInt = 0 := (by decide); have z4 : (4 : Int32).toInt = 4 := (by decide); omega)) (show DKd (σ38 9) (4 : Int32).toInt.toNat from (by rw [show (4 : Int32).toInt.toNat = 4 by decide]; exact RD.dk T43 (by have f0 := congrArg Int32.toInt (show ((σ38 9).1 12) = ((σ21 9).1 12) from (hF40 9 12 rfl).1); have f1 := k45; have f2 := b31; have f3 := b30; have z0 : (0 : Int32).toInt = 0 := (by decide); omega)))) (cwV 2 hts (gd_V q1690 q1692 q70 q134 q1693) rfl rfl rfl (by decide +kernel) ⟨Nat.le_of_ble_eq_true rfl, Nat.le_of_ble_eq_true rfl⟩) (pv9 hP hK hD hC hS (va_recv hK hP (ci := 9) (q0 := 0) rfl rfl)) rfl rfl hl.1 rfl (lv_room (Nat.le_of_ble_eq_true rfl)) dX9_desk_125 ⟨Nat.le_of_ble_eq_true rfl, Nat.le_of_ble_eq_true rfl⟩) hS (fun q _ h => up9 hS q h) (up9 hS) (fun σ47 tS H1 locs ht hvm hw48 hB hz1 hk1 hS => ?_)
      have hP : va_P D clz (WD9 cy g σ47) H1 := by rw [← ht]; exact hB
      clear hB hz1 hk1 hvm ht
      generalize H1 = H at hP hS ⊢
      have hF49 : Fr (fL [16, 17, 18, 19, 20, 21]) σ38 σ47 := hw48.1
      have hJ50 : J9 (σ47 9) := hw48.2.1
      refine lv_aload_n hx hb dX9_desk_128 rfl (lv_at hl 0 rfl) ?_
      refine g9_16 hx hb hts hown hK hP (hts _ q1376) dX9_desk_129 ?_
      refine lv_iconst (v := 0) hx hb dX9_desk_132 (by decide) ?_
      refine l9_16 (x := ((σ47 9).2.2.1 16 0)) hx hb hK hP (vpi (by decide)) (congrArg ((σ47 9).2.2.1 16) (show (0 : Int32).toInt.toNat = 0 by decide)) dX9_desk_133 ?_
      exact W.iret (v := ((σ47 9).2.2.1 16 0)) hx hb hr (fun tS ht hW => ⟨⟨((σ47 9).2.2.1 16 0), σ47, rfl, ⟨Fr.tr (Fr.tr (Fr.tr (Fr.tr (Fr.tr (Fr.tr (Fr.rf) (sI_f eσ1) (fN_L rfl)) hF7 (fL_sub rfl)) hF13 (fL_sub rfl)) hF22 (fL_sub rfl)) hF40 (fL_sub rfl)) hF49 (fL_sub rfl), hJ50, hw48.2.2.1, trivial⟩, (show va_P D clz (WD9 cy g σ47) tS.heap by rw [ht]; exact hP)⟩, hS.F ht⟩) hS.2.2 dX9_desk_134
    ·
      have k52 := neq32 c44
      refine lv_bipush (v := (-4)) hx hb dX9_desk_119 (by decide) ?_
      exact W.iret (v := (-4)) hx hb hr (fun tS ht hW => ⟨⟨(-4), σ38, rfl, ⟨Fr.tr (Fr.tr (Fr.tr (Fr.tr (Fr.tr (Fr.rf) (sI_f eσ1) (fN_L rfl)) hF7 (fL_sub rfl)) hF13 (fL_sub rfl)) hF22 (fL_sub rfl)) hF40 (fL_sub rfl), hJ41, T42, trivial⟩, (show va_P D clz (WD9 cy g σ38) tS.heap by rw [ht]; exact hP)⟩, hS.F ht⟩) hS.2.2 dX9_desk_121
  ·
    intro nj32
    refine lv_if_eq (tgt := 108) hx hb dX9_desk_17 (by decide) (fun c53 => ?_) (fun c53 => ?_)
    ·
      have k54 := peq32 c53
      exact nj32 (σ21, lf [], lg []) ⟨rfl, (show DKA (σ21 9) from b25), (show RD (σ21 9) from b26), trivial⟩ _ _ _ hP hS (lv_sub hl [0] rfl)
    ·
      have k55 := neq32 c53
      refine lv_aload_n hx hb dX9_desk_20 rfl (lv_at hl 0 rfl) ?_
      refine g9_8 (x := ((σ21 9).1 8)) hx hb hts hown hK hP (rfl) (hts _ q1368) dX9_desk_21 ?_
      refine lv_if_eq (tgt := 108) hx hb dX9_desk_24 (by decide) (fun c56 => ?_) (fun c56 => ?_)
      ·
        have k57 := peq32 c56
        exact nj32 (σ21, lf [], lg []) ⟨rfl, (show DKA (σ21 9) from b25), (show RD (σ21 9) from b26), trivial⟩ _ _ _ hP hS (lv_sub hl [0] rfl)
      ·
        have k58 := neq32 c56
        refine lv_aload_n hx hb dX9_desk_27 rfl (lv_at hl 0 rfl) ?_
        refine g9_16 hx hb hts hown hK hP (hts _ q1376) dX9_desk_28 ?_
        refine lv_iconst (v := 4) hx hb dX9_desk_31 (by decide) ?_
        refine l9_16 (x := ((σ21 9).2.2.1 16 4)) hx hb hK hP (vpi (by decide)) (congrArg ((σ21 9).2.2.1 16) (show (4 : Int32).toInt.toNat = 4 by decide)) dX9_desk_32 ?_
        refine cut9 (D := D) (cy := cy) (g := g) (A := A9 cy g s.heap.size) (H0 := s.heap) 1 84 (fun x : LZ => [(0, .ref (g 60))]) (fun x : LZ => []) (fun x : LZ => (Fr (fL [7, 8, 9, 10, 11, 12, 13, 17, 18, 19, 20, 21]) σ21 x.1) ∧ (J9 (x.1 9)) ∧ (((x.1 9).1 7).toInt ≤ ((x.1 9).1 6).toInt ∧ ph ((σ21 9).1 7) ((σ21 9).1 8) ≤ ph ((x.1 9).1 7) ((x.1 9).1 8)) ∧ (¬ ((x.1 9).1 12).toInt = 0 ∨ ((σ21 9).1 12).toInt = 0) ∧ (DKA (x.1 9)) ∧ (RD (x.1 9)) ∧ True) ?_ ?_
        ·
          intro y61 hI60 H locs ls hP hS hl
          obtain ⟨σ62, eσ62⟩ : ∃ z, z = y61.1 := ⟨_, rfl⟩
          rw [← eσ62] at hP hI60
          have hF63 : Fr (fL [7, 8, 9, 10, 11, 12, 13, 17, 18, 19, 20, 21]) σ21 σ62 := hI60.1
          have hJ64 : J9 (σ62 9) := hI60.2.1
          have b65 : ((σ62 9).1 7).toInt ≤ ((σ62 9).1 6).toInt ∧ ph ((σ21 9).1 7) ((σ21 9).1 8) ≤ ph ((σ62 9).1 7) ((σ62 9).1 8) := hI60.2.2.1
          have b66 : ¬ ((σ62 9).1 12).toInt = 0 ∨ ((σ21 9).1 12).toInt = 0 := hI60.2.2.2.1
          have b67 : DKA (σ62 9) := hI60.2.2.2.2.1
          have b68 : RD (σ62 9) := hI60.2.2.2.2.2.1
          have hl : lv_has ls 1 [(0, .ref (g 60))] := hl
          refine lv_aload_n hx hb dX9_desk_84 rfl (lv_at hl 0 rfl) ?_
          refine va_calli (va_runV (As := []) (rest := []) ⟨hx, hb, hml, hown, hts⟩ (m_X9_isGood l D cy g σ62  _ hJ64 ) (cwV 0 hts (gd_V q1605 q1607 q54 q134 q1608) rfl rfl rfl (by decide +kernel) ⟨Nat.le_of_ble_eq_true rfl, Nat.le_of_ble_eq_true rfl⟩) (pv9 hP hK hD hC hS (va_recv hK hP (ci := 9) (q0 := 0) rfl rfl)) rfl rfl hl.1 rfl (lv_room (Nat.le_of_ble_eq_true rfl)) dX9_desk_85 ⟨Nat.le_of_ble_eq_true rfl, Nat.le_of_ble_eq_true rfl⟩) hS (fun q _ h => up9 hS q h) (up9 hS) (fun r69 σ70 tS H1 locs ht hvm hw71 hB hz1 hk1 hS => ?_)
          have hP : va_P D clz (WD9 cy g σ70) H1 := by rw [← ht]; exact hB
          clear hB hz1 hk1 hvm ht
          generalize H1 = H at hP hS ⊢
          have hw71E : σ62 = σ70 := (hw71.1).symm
          subst hw71E
          have b72 : (0 : Int) ≤ r69.toInt ∧ r69.toInt ≤ 1 := hw71.2.1
          have b73 : (r69.toInt = 1 ∧ ((σ62 9).1 12).toInt = 0) ∨ (r69.toInt = 0 ∧ ¬ ((σ62 9).1 12).toInt = 0) := hw71.2.2.1
          refine cut9 (D := D) (cy := cy) (g := g) (A := A9 cy g s.heap.size) (H0 := s.heap) 1 95 (fun x : LZ => [(0, .ref (g 60))]) (fun x : LZ => []) (fun x : LZ => (Fr (fL [7, 8, 9, 10, 11, 12, 13]) σ62 x.1) ∧ (J9 (x.1 9)) ∧ (((x.1 9).1 7).toInt ≤ ((x.1 9).1 6).toInt) ∧ (¬ ((x.1 9).1 12).toInt = 0 ∨ ph ((σ62 9).1 7) ((σ62 9).1 8) + 1 ≤ ph ((x.1 9).1 7) ((x.1 9).1 8)) ∧ (¬ ((x.1 9).1 12).toInt = 0 ∨ ((σ62 9).1 12).toInt = 0) ∧ (DKA (x.1 9)) ∧ (RD (x.1 9)) ∧ True) ?_ ?_
          ·
            intro y76 hI75 H locs ls hP hS hl
            obtain ⟨σ77, eσ77⟩ : ∃ z, z = y76.1 := ⟨_, rfl⟩
            rw [← eσ77] at hP hI75
            have hF78 : Fr (fL [7, 8, 9, 10, 11, 12, 13]) σ62 σ77 := hI75.1
            have hJ79 : J9 (σ77 9) := hI75.2.1
            have b80 : ((σ77 9).1 7).toInt ≤ ((σ77 9).1 6).toInt := hI75.2.2.1
            have b81 : ¬ ((σ77 9).1 12).toInt = 0 ∨ ph ((σ62 9).1 7) ((σ62 9).1 8) + 1 ≤ ph ((σ77 9).1 7) ((σ77 9).1 8) := hI75.2.2.2.1
            have b82 : ¬ ((σ77 9).1 12).toInt = 0 ∨ ((σ62 9).1 12).toInt = 0 := hI75.2.2.2.2.1
            have b83 : DKA (σ77 9) := hI75.2.2.2.2.2.1
            have b84 : RD (σ77 9) := hI75.2.2.2.2.2.2.1
            have hl : lv_has ls 1 [(0, .ref (g 60))] := hl
            refine lv_aload_n hx hb dX9_desk_95 rfl (lv_at hl 0 rfl) ?_
            refine g9_16 hx hb hts hown hK hP (hts _ q1376) dX9_desk_96 ?_
            refine lv_iconst (v := 4) hx hb dX9_desk_99 (by decide) ?_
            refine lv_dup2_11 hx hb dX9_desk_100 rfl rfl ?_
            refine l9_16 (x := ((σ21 9).2.2.1 16 4)) hx hb hK hP (vpi (by decide)) ((congrFun (((hF78 9 16 rfl).2.2.1).trans ((hF63 9 16 rfl).2.2.1)) _).trans (congrArg ((σ21 9).2.2.1 16) (show (4 : Int32).toInt.toNat = 4 by decide))) dX9_desk_101 ?_
            refine lv_iconst (v := 1) hx hb dX9_desk_102 (by decide) ?_
            refine lv_iadd hx hb dX9_desk_103 ?_
            refine lv_topi (fun x85 ex85 => ?_)
            refine t9_16 hx hb hK hP hD hS (vpi (by decide)) dX9_desk_104 (fun H locs σ86 eσ86 hP hS => ?_)
            have hJ87 : J9 (σ86 9) := hJ79.A eσ86 trivial
            have T88 : DKA (σ86 9) := DKA.mv b83 ((sA_f eσ86) 9 17 rfl).2.2.1 ((sA_f eσ86) 9 18 rfl).2.2.1 ((sA_f eσ86) 9 19 rfl).2.2.1
            have T89 : RD (σ86 9) := RD.mv b84 ((sA_f eσ86) 9 12 rfl).1 ((sA_f eσ86) 9 17 rfl).2.2.1 ((sA_f eσ86) 9 18 rfl).2.2.1 ((sA_f eσ86) 9 19 rfl).2.2.1
            refine lv_goto (tgt := 13) hx hb dX9_desk_105 (by decide) ?_
            have t90 : mz ((σ86 9).1 12) (((σ86 9).1 6).toInt - ph ((σ86 9).1 7) ((σ86 9).1 8)) < mz ((σ21 9).1 12) (((σ21 9).1 6).toInt - ph ((σ21 9).1 7) ((σ21 9).1 8)) := (mz_lt (by have f0 := b31; have f1 := b66; have f2 := b73; have f3 := b82; have f4 := b81; have f5 := b30; have f6 := k55; have f7 := b65; have f8 := j9_7 hJ64 rfl; have f9 := j9_6 hJ64 rfl; have f10 := congrArg Int32.toInt (show ((σ62 9).1 6) = ((σ 9).1 6) from ((hF63 9 6 rfl).1).trans (((hF22 9 6 rfl).1).trans (((hF13 9 6 rfl).1).trans (((hF7 9 6 rfl).1).trans (((sI_f eσ1) 9 6 rfl).1))))); have f11 := j9_6 hJ rfl; have f12 := b72; have f13 := b80; have f14 := j9_6 hJ79 rfl; have f15 := congrArg Int32.toInt (show ((σ77 9).1 6) = ((σ 9).1 6) from ((hF78 9 6 rfl).1).trans (((hF63 9 6 rfl).1).trans (((hF22 9 6 rfl).1).trans (((hF13 9 6 rfl).1).trans (((hF7 9 6 rfl).1).trans (((sI_f eσ1) 9 6 rfl).1)))))); have f16 := j9_7 hJ79 rfl; have f17 := b15; have f18 := j9_6 hJ14 rfl; have f19 := congrArg Int32.toInt (show ((σ11 9).1 6) = ((σ 9).1 6) from ((hF13 9 6 rfl).1).trans (((hF7 9 6 rfl).1).trans (((sI_f eσ1) 9 6 rfl).1))); have f20 := j9_7 hJ14 rfl; have f21 := b24; have f22 := j9_7 hJ23 rfl; have f23 := j9_6 hJ23 rfl; have f24 := congrArg Int32.toInt (show ((σ21 9).1 6) = ((σ 9).1 6) from ((hF22 9 6 rfl).1).trans (((hF13 9 6 rfl).1).trans (((hF7 9 6 rfl).1).trans (((sI_f eσ1) 9 6 rfl).1)))); have z0 : (0 : Int32).toInt = 0 := (by decide); omega) (by have f0 := j9_6 hJ23 rfl; have f1 := congrArg Int32.toInt (show ((σ21 9).1 6) = ((σ 9).1 6) from ((hF22 9 6 rfl).1).trans (((hF13 9 6 rfl).1).trans (((hF7 9 6 rfl).1).trans (((sI_f eσ1) 9 6 rfl).1)))); have f2 := congrArg Int32.toInt (show ((σ86 9).1 12) = ((σ77 9).1 12) from ((sA_f eσ86) 9 12 rfl).1); have f3 := j9_6 hJ87 rfl; have f4 := congrArg Int32.toInt (show ((σ86 9).1 6) = ((σ 9).1 6) from (((sA_f eσ86) 9 6 rfl).1).trans (((hF78 9 6 rfl).1).trans (((hF63 9 6 rfl).1).trans (((hF22 9 6 rfl).1).trans (((hF13 9 6 rfl).1).trans (((hF7 9 6 rfl).1).trans (((sI_f eσ1) 9 6 rfl).1))))))); have f5 := (show ph ((σ86 9).1 7) ((σ86 9).1 8) = ph ((σ77 9).1 7) ((σ77 9).1 8) from by rw [((sA_f eσ86) 9 7 rfl).1, ((sA_f eσ86) 9 8 rfl).1]); have f6 := j9_6 hJ rfl; have f7 := b15; have f8 := j9_6 hJ14 rfl; have f9 := congrArg Int32.toInt (show ((σ11 9).1 6) = ((σ 9).1 6) from ((hF13 9 6 rfl).1).trans (((hF7 9 6 rfl).1).trans (((sI_f eσ1) 9 6 rfl).1))); have f10 := j9_7 hJ14 rfl; have f11 := b24; have f12 := j9_7 hJ23 rfl; have f13 := b65; have f14 := j9_7 hJ64 rfl; have f15 := j9_6 hJ64 rfl; have f16 := congrArg Int32.toInt (show ((σ62 9).1 6) = ((σ 9).1 6) from ((hF63 9 6 rfl).1).trans (((hF22 9 6 rfl).1).trans (((hF13 9 6 rfl).1).trans (((hF7 9 6 rfl).1).trans (((sI_f eσ1) 9 6 rfl).1))))); have f17 := b80; have f18 := j9_6 hJ79 rfl; have f19 := congrArg Int32.toInt (show ((σ77 9).1 6) = ((σ 9).1 6) from ((hF78 9 6 rfl).1).trans (((hF63 9 6 rfl).1).trans (((hF22 9 6 rfl).1).trans (((hF13 9 6 rfl).1).trans (((hF7 9 6 rfl).1).trans (((sI_f eσ1) 9 6 rfl).1)))))); have f20 := j9_7 hJ79 rfl; have f21 := b31; have f22 := b66; have f23 := b81; have f24 := b82; have f25 := b73; have f26 := b30; have f27 := k55; have f28 := b72; have z0 : (0 : Int32).toInt = 0 := (by decide); omega) (by have q := ph_le (a := ((σ21 9).1 7)) (t := ((σ21 9).1 8)); have f0 := j9_6 hJ23 rfl; have f1 := congrArg Int32.toInt (show ((σ21 9).1 6) = ((σ 9).1 6) from ((hF22 9 6 rfl).1).trans (((hF13 9 6 rfl).1).trans (((hF7 9 6 rfl).1).trans (((sI_f eσ1) 9 6 rfl).1)))); have f2 := j9_7 hJ23 rfl; have f3 := congrArg Int32.toInt (show ((σ86 9).1 12) = ((σ77 9).1 12) from ((sA_f eσ86) 9 12 rfl).1); have f4 := j9_6 hJ87 rfl; have f5 := congrArg Int32.toInt (show ((σ86 9).1 6) = ((σ 9).1 6) from (((sA_f eσ86) 9 6 rfl).1).trans (((hF78 9 6 rfl).1).trans (((hF63 9 6 rfl).1).trans (((hF22 9 6 rfl).1).trans (((hF13 9 6 rfl).1).trans (((hF7 9 6 rfl).1).trans (((sI_f eσ1) 9 6 rfl).1))))))); have f6 := (show ph ((σ86 9).1 7) ((σ86 9).1 8) = ph ((σ77 9).1 7) ((σ77 9).1 8) from by rw [((sA_f eσ86) 9 7 rfl).1, ((sA_f eσ86) 9 8 rfl).1]); have f7 := j9_6 hJ rfl; have f8 := b15; have f9 := j9_6 hJ14 rfl; have f10 := congrArg Int32.toInt (show ((σ11 9).1 6) = ((σ 9).1 6) from ((hF13 9 6 rfl).1).trans (((hF7 9 6 rfl).1).trans (((sI_f eσ1) 9 6 rfl).1))); have f11 := j9_7 hJ14 rfl; have f12 := b24; have f13 := b65; have f14 := j9_7 hJ64 rfl; have f15 := j9_6 hJ64 rfl; have f16 := congrArg Int32.toInt (show ((σ62 9).1 6) = ((σ 9).1 6) from ((hF63 9 6 rfl).1).trans (((hF22 9 6 rfl).1).trans (((hF13 9 6 rfl).1).trans (((hF7 9 6 rfl).1).trans (((sI_f eσ1) 9 6 rfl).1))))); have f17 := b80; have f18 := j9_6 hJ79 rfl; have f19 := congrArg Int32.toInt (show ((σ77 9).1 6) = ((σ 9).1 6) from ((hF78 9 6 rfl).1).trans (((hF63 9 6 rfl).1).trans (((hF22 9 6 rfl).1).trans (((hF13 9 6 rfl).1).trans (((hF7 9 6 rfl).1).trans (((sI_f eσ1) 9 6 rfl).1)))))); have f20 := j9_7 hJ79 rfl; have f21 := b31; have f22 := b66; have f23 := b81; have f24 := b82; have f25 := b73; have f26 := b30; have f27 := k55; have f28 := b72; have z0 : (0 : Int32).toInt = 0 := (by decide); omega))
            exact nl18 (σ86, lf [], lg []) ⟨Fr.tr (Fr.tr (Fr.tr (Fr.tr (Fr.rf) hF22 (fL_sub rfl)) hF63 (fL_sub rfl)) hF78 (fL_sub rfl)) (sA_f eσ86) (fN_L rfl), hJ87, (show ((σ86 9).1 7).toInt ≤ ((σ86 9).1 6).toInt from (by have f0 := j9_7 hJ87 rfl; have f1 := congrArg Int32.toInt (show ((σ86 9).1 7) = ((σ77 9).1 7) from ((sA_f eσ86) 9 7 rfl).1); have f2 := j9_6 hJ87 rfl; have f3 := congrArg Int32.toInt (show ((σ86 9).1 6) = ((σ 9).1 6) from (((sA_f eσ86) 9 6 rfl).1).trans (((hF78 9 6 rfl).1).trans (((hF63 9 6 rfl).1).trans (((hF22 9 6 rfl).1).trans (((hF13 9 6 rfl).1).trans (((hF7 9 6 rfl).1).trans (((sI_f eσ1) 9 6 rfl).1))))))); have f4 := j9_6 hJ rfl; have f5 := j9_7 hJ79 rfl; have f6 := b15; have f7 := j9_6 hJ14 rfl; have f8 := congrArg Int32.toInt (show ((σ11 9).1 6) = ((σ 9).1 6) from ((hF13 9 6 rfl).1).trans (((hF7 9 6 rfl).1).trans (((sI_f eσ1) 9 6 rfl).1))); have f9 := j9_7 hJ14 rfl; have f10 := b24; have f11 := j9_7 hJ23 rfl; have f12 := j9_6 hJ23 rfl; have f13 := congrArg Int32.toInt (show ((σ21 9).1 6) = ((σ 9).1 6) from ((hF22 9 6 rfl).1).trans (((hF13 9 6 rfl).1).trans (((hF7 9 6 rfl).1).trans (((sI_f eσ1) 9 6 rfl).1)))); have f14 := b65; have f15 := j9_7 hJ64 rfl; have f16 := j9_6 hJ64 rfl; have f17 := congrArg Int32.toInt (show ((σ62 9).1 6) = ((σ 9).1 6) from ((hF63 9 6 rfl).1).trans (((hF22 9 6 rfl).1).trans (((hF13 9 6 rfl).1).trans (((hF7 9 6 rfl).1).trans (((sI_f eσ1) 9 6 rfl).1))))); have f18 := b80; have f19 := j9_6 hJ79 rfl; have f20 := congrArg Int32.toInt (show ((σ77 9).1 6) = ((σ 9).1 6) from ((hF78 9 6 rfl).1).trans (((hF63 9 6 rfl).1).trans (((hF22 9 6 rfl).1).trans (((hF13 9 6 rfl).1).trans (((hF7 9 6 rfl).1).trans (((sI_f eσ1) 9 6 rfl).1)))))); omega)), (show DKA (σ86 9) from T88), (show RD (σ86 9) from T89), trivial⟩ (show mz ((σ86 9).1 12) (((σ86 9).1 6).toInt - ph ((σ86 9).1 7) ((σ86 9).1 8)) < _ from by first | exact t90 | (rw [← eσ21]; exact t90)) _ _ _ hP hS (lv_sub hl [0] rfl)
          ·
            intro nj74
            refine lv_if_eq (tgt := 95) hx hb dX9_desk_88 (by decide) (fun c91 => ?_) (fun c91 => ?_)
            ·
              have k92 := peq32 c91
              exact nj74 (σ62, lf [], lg []) ⟨Fr.rf, hJ64, (show ((σ62 9).1 7).toInt ≤ ((σ62 9).1 6).toInt from (by have f0 := j9_7 hJ64 rfl; have f1 := j9_6 hJ64 rfl; have f2 := congrArg Int32.toInt (show ((σ62 9).1 6) = ((σ 9).1 6) from ((hF63 9 6 rfl).1).trans (((hF22 9 6 rfl).1).trans (((hF13 9 6 rfl).1).trans (((hF7 9 6 rfl).1).trans (((sI_f eσ1) 9 6 rfl).1))))); have f3 := j9_6 hJ rfl; have f4 := b15; have f5 := j9_6 hJ14 rfl; have f6 := congrArg Int32.toInt (show ((σ11 9).1 6) = ((σ 9).1 6) from ((hF13 9 6 rfl).1).trans (((hF7 9 6 rfl).1).trans (((sI_f eσ1) 9 6 rfl).1))); have f7 := j9_7 hJ14 rfl; have f8 := b24; have f9 := j9_7 hJ23 rfl; have f10 := j9_6 hJ23 rfl; have f11 := congrArg Int32.toInt (show ((σ21 9).1 6) = ((σ 9).1 6) from ((hF22 9 6 rfl).1).trans (((hF13 9 6 rfl).1).trans (((hF7 9 6 rfl).1).trans (((sI_f eσ1) 9 6 rfl).1)))); have f12 := b65; omega)), (show ¬ ((σ62 9).1 12).toInt = 0 ∨ ph ((σ62 9).1 7) ((σ62 9).1 8) + 1 ≤ ph ((σ62 9).1 7) ((σ62 9).1 8) from (by have f0 := b65; have f1 := j9_7 hJ64 rfl; have f2 := j9_6 hJ64 rfl; have f3 := congrArg Int32.toInt (show ((σ62 9).1 6) = ((σ 9).1 6) from ((hF63 9 6 rfl).1).trans (((hF22 9 6 rfl).1).trans (((hF13 9 6 rfl).1).trans (((hF7 9 6 rfl).1).trans (((sI_f eσ1) 9 6 rfl).1))))); have f4 := j9_6 hJ rfl; have f5 := b15; have f6 := j9_6 hJ14 rfl; have f7 := congrArg Int32.toInt (show ((σ11 9).1 6) = ((σ 9).1 6) from ((hF13 9 6 rfl).1).trans (((hF7 9 6 rfl).1).trans (((sI_f eσ1) 9 6 rfl).1))); have f8 := j9_7 hJ14 rfl; have f9 := b24; have f10 := j9_7 hJ23 rfl; have f11 := j9_6 hJ23 rfl; have f12 := congrArg Int32.toInt (show ((σ21 9).1 6) = ((σ 9).1 6) from ((hF22 9 6 rfl).1).trans (((hF13 9 6 rfl).1).trans (((hF7 9 6 rfl).1).trans (((sI_f eσ1) 9 6 rfl).1)))); have f13 := b66; have f14 := b73; have f15 := b31; have f16 := b30; have f17 := k55; have f18 := b72; have f19 := k92; have z0 : (0 : Int32).toInt = 0 := (by decide); omega)), (show ¬ ((σ62 9).1 12).toInt = 0 ∨ ((σ62 9).1 12).toInt = 0 from (by have f0 := b66; have f1 := b73; have f2 := b31; have f3 := b30; have f4 := k55; have f5 := b72; have f6 := k92; have z0 : (0 : Int32).toInt = 0 := (by decide); omega)), (show DKA (σ62 9) from b67), (show RD (σ62 9) from b68), trivial⟩ _ _ _ hP hS (lv_sub hl [0] rfl)
            ·
              have k93 := neq32 c91
              refine lv_aload_n hx hb dX9_desk_91 rfl (lv_at hl 0 rfl) ?_
              refine va_callv (va_runV (As := []) (rest := []) ⟨hx, hb, hml, hown, hts⟩ (m_X9_ends l D cy g σ62  _ hJ64 (show ((σ62 9).1 7).toInt ≤ ((σ62 9).1 6).toInt from (by have f0 := j9_7 hJ64 rfl; have f1 := j9_6 hJ64 rfl; have f2 := congrArg Int32.toInt (show ((σ62 9).1 6) = ((σ 9).1 6) from ((hF63 9 6 rfl).1).trans (((hF22 9 6 rfl).1).trans (((hF13 9 6 rfl).1).trans (((hF7 9 6 rfl).1).trans (((sI_f eσ1) 9 6 rfl).1))))); have f3 := j9_6 hJ rfl; have f4 := b15; have f5 := j9_6 hJ14 rfl; have f6 := congrArg Int32.toInt (show ((σ11 9).1 6) = ((σ 9).1 6) from ((hF13 9 6 rfl).1).trans (((hF7 9 6 rfl).1).trans (((sI_f eσ1) 9 6 rfl).1))); have f7 := j9_7 hJ14 rfl; have f8 := b24; have f9 := j9_7 hJ23 rfl; have f10 := j9_6 hJ23 rfl; have f11 := congrArg Int32.toInt (show ((σ21 9).1 6) = ((σ 9).1 6) from ((hF22 9 6 rfl).1).trans (((hF13 9 6 rfl).1).trans (((hF7 9 6 rfl).1).trans (((sI_f eσ1) 9 6 rfl).1)))); have f12 := b65; omega))) (cwV 0 hts (gd_V q1682 q1684 q68 q134 q1685) rfl rfl rfl (by decide +kernel) ⟨Nat.le_of_ble_eq_true rfl, Nat.le_of_ble_eq_true rfl⟩) (pv9 hP hK hD hC hS (va_recv hK hP (ci := 9) (q0 := 0) rfl rfl)) rfl rfl hl.1 rfl (lv_room (Nat.le_of_ble_eq_true rfl)) dX9_desk_92 ⟨Nat.le_of_ble_eq_true rfl, Nat.le_of_ble_eq_true rfl⟩) hS (fun q _ h => up9 hS q h) (up9 hS) (fun σ95 tS H1 locs ht hvm hw96 hB hz1 hk1 hS => ?_)
              have hP : va_P D clz (WD9 cy g σ95) H1 := by rw [← ht]; exact hB
              clear hB hz1 hk1 hvm ht
              generalize H1 = H at hP hS ⊢
              have hF97 : Fr (fL [7, 8, 9, 10, 11, 12, 13]) σ62 σ95 := hw96.1
              have hJ98 : J9 (σ95 9) := hw96.2.1
              have b99 : ((σ62 9).1 7).toInt ≤ ((σ95 9).1 7).toInt ∧ ((σ95 9).1 7).toInt ≤ ((σ95 9).1 6).toInt := hw96.2.2.1
              have b100 : ph ((σ62 9).1 7) ((σ62 9).1 8) ≤ ph ((σ95 9).1 7) ((σ95 9).1 8) := hw96.2.2.2.1
              have b101 : ¬ ((σ95 9).1 12).toInt = 0 ∨ ph ((σ62 9).1 7) ((σ62 9).1 8) + 1 ≤ ph ((σ95 9).1 7) ((σ95 9).1 8) := hw96.2.2.2.2.1
              have b102 : ¬ ((σ95 9).1 12).toInt = 0 ∨ ((σ62 9).1 12).toInt = 0 := hw96.2.2.2.2.2.1
              have T103 : DKA (σ95 9) := DKA.mv b67 (hF97 9 17 rfl).2.2.1 (hF97 9 18 rfl).2.2.1 (hF97 9 19 rfl).2.2.1
              have T104 : RD (σ95 9) := RD.call b68 (by have f0 := b66; have f1 := b73; have f2 := b101; have f3 := b102; have f4 := b31; have f5 := b30; have f6 := k55; have f7 := b65; have f8 := j9_7 hJ64 rfl; have f9 := j9_6 hJ64 rfl; have f10 := congrArg Int32.toInt (show ((σ62 9).1 6) = ((σ 9).1 6) from ((hF63 9 6 rfl).1).trans (((hF22 9 6 rfl).1).trans (((hF13 9 6 rfl).1).trans (((hF7 9 6 rfl).1).trans (((sI_f eσ1) 9 6 rfl).1))))); have f11 := j9_6 hJ rfl; have f12 := b72; have f13 := k93; have f14 := b99; have f15 := j9_6 hJ98 rfl; have f16 := congrArg Int32.toInt (show ((σ95 9).1 6) = ((σ 9).1 6) from ((hF97 9 6 rfl).1).trans (((hF63 9 6 rfl).1).trans (((hF22 9 6 rfl).1).trans (((hF13 9 6 rfl).1).trans (((hF7 9 6 rfl).1).trans (((sI_f eσ1) 9 6 rfl).1)))))); have f17 := j9_7 hJ98 rfl; have f18 := b100; have f19 := b15; have f20 := j9_6 hJ14 rfl; have f21 := congrArg Int32.toInt (show ((σ11 9).1 6) = ((σ 9).1 6) from ((hF13 9 6 rfl).1).trans (((hF7 9 6 rfl).1).trans (((sI_f eσ1) 9 6 rfl).1))); have f22 := j9_7 hJ14 rfl; have f23 := b24; have f24 := j9_7 hJ23 rfl; have f25 := j9_6 hJ23 rfl; have f26 := congrArg Int32.toInt (show ((σ21 9).1 6) = ((σ 9).1 6) from ((hF22 9 6 rfl).1).trans (((hF13 9 6 rfl).1).trans (((hF7 9 6 rfl).1).trans (((sI_f eσ1) 9 6 rfl).1)))); have z0 : (0 : Int32).toInt = 0 := (by decide); omega) (hF97 9 17 rfl).2.2.1 (hF97 9 18 rfl).2.2.1 (hF97 9 19 rfl).2.2.1
              exact nj74 (σ95, lf [], lg []) ⟨Fr.tr (Fr.rf) hF97 (fL_sub rfl), hJ98, (show ((σ95 9).1 7).toInt ≤ ((σ95 9).1 6).toInt from (by have f0 := j9_6 hJ98 rfl; have f1 := congrArg Int32.toInt (show ((σ95 9).1 6) = ((σ 9).1 6) from ((hF97 9 6 rfl).1).trans (((hF63 9 6 rfl).1).trans (((hF22 9 6 rfl).1).trans (((hF13 9 6 rfl).1).trans (((hF7 9 6 rfl).1).trans (((sI_f eσ1) 9 6 rfl).1)))))); have f2 := j9_7 hJ98 rfl; have f3 := j9_6 hJ rfl; have f4 := b15; have f5 := j9_6 hJ14 rfl; have f6 := congrArg Int32.toInt (show ((σ11 9).1 6) = ((σ 9).1 6) from ((hF13 9 6 rfl).1).trans (((hF7 9 6 rfl).1).trans (((sI_f eσ1) 9 6 rfl).1))); have f7 := j9_7 hJ14 rfl; have f8 := b24; have f9 := j9_7 hJ23 rfl; have f10 := j9_6 hJ23 rfl; have f11 := congrArg Int32.toInt (show ((σ21 9).1 6) = ((σ 9).1 6) from ((hF22 9 6 rfl).1).trans (((hF13 9 6 rfl).1).trans (((hF7 9 6 rfl).1).trans (((sI_f eσ1) 9 6 rfl).1)))); have f12 := b65; have f13 := j9_7 hJ64 rfl; have f14 := j9_6 hJ64 rfl; have f15 := congrArg Int32.toInt (show ((σ62 9).1 6) = ((σ 9).1 6) from ((hF63 9 6 rfl).1).trans (((hF22 9 6 rfl).1).trans (((hF13 9 6 rfl).1).trans (((hF7 9 6 rfl).1).trans (((sI_f eσ1) 9 6 rfl).1))))); have f16 := b99; have f17 := b100; omega)), (show ¬ ((σ95 9).1 12).toInt = 0 ∨ ph ((σ62 9).1 7) ((σ62 9).1 8) + 1 ≤ ph ((σ95 9).1 7) ((σ95 9).1 8) from (by have f0 := b65; have f1 := j9_7 hJ64 rfl; have f2 := j9_6 hJ64 rfl; have f3 := congrArg Int32.toInt (show ((σ62 9).1 6) = ((σ 9).1 6) from ((hF63 9 6 rfl).1).trans (((hF22 9 6 rfl).1).trans (((hF13 9 6 rfl).1).trans (((hF7 9 6 rfl).1).trans (((sI_f eσ1) 9 6 rfl).1))))); have f4 := j9_6 hJ rfl; have f5 := b99; have f6 := j9_6 hJ98 rfl; have f7 := congrArg Int32.toInt (show ((σ95 9).1 6) = ((σ 9).1 6) from ((hF97 9 6 rfl).1).trans (((hF63 9 6 rfl).1).trans (((hF22 9 6 rfl).1).trans (((hF13 9 6 rfl).1).trans (((hF7 9 6 rfl).1).trans (((sI_f eσ1) 9 6 rfl).1)))))); have f8 := j9_7 hJ98 rfl; have f9 := b100; have f10 := b15; have f11 := j9_6 hJ14 rfl; have f12 := congrArg Int32.toInt (show ((σ11 9).1 6) = ((σ 9).1 6) from ((hF13 9 6 rfl).1).trans (((hF7 9 6 rfl).1).trans (((sI_f eσ1) 9 6 rfl).1))); have f13 := j9_7 hJ14 rfl; have f14 := b24; have f15 := j9_7 hJ23 rfl; have f16 := j9_6 hJ23 rfl; have f17 := congrArg Int32.toInt (show ((σ21 9).1 6) = ((σ 9).1 6) from ((hF22 9 6 rfl).1).trans (((hF13 9 6 rfl).1).trans (((hF7 9 6 rfl).1).trans (((sI_f eσ1) 9 6 rfl).1)))); have f18 := b101; have f19 := b102; have f20 := b66; have f21 := b73; have f22 := b31; have f23 := b30; have f24 := k55; have f25 := b72; have f26 := k93; have z0 : (0 : Int32).toInt = 0 := (by decide); omega)), (show ¬ ((σ95 9).1 12).toInt = 0 ∨ ((σ62 9).1 12).toInt = 0 from (by have f0 := b66; have f1 := b73; have f2 := b101; have f3 := b102; have f4 := b31; have f5 := b30; have f6 := k55; have f7 := b65; have f8 := j9_7 hJ64 rfl; have f9 := j9_6 hJ64 rfl; have f10 := congrArg Int32.toInt (show ((σ62 9).1 6) = ((σ 9).1 6) from ((hF63 9 6 rfl).1).trans (((hF22 9 6 rfl).1).trans (((hF13 9 6 rfl).1).trans (((hF7 9 6 rfl).1).trans (((sI_f eσ1) 9 6 rfl).1))))); have f11 := j9_6 hJ rfl; have f12 := b72; have f13 := k93; have f14 := b99; have f15 := j9_6 hJ98 rfl; have f16 := congrArg Int32.toInt (show ((σ95 9).1 6) = ((σ 9).1 6) from ((hF97 9 6 rfl).1).trans (((hF63 9 6 rfl).1).trans (((hF22 9 6 rfl).1).trans (((hF13 9 6 rfl).1).trans (((hF7 9 6 rfl).1).trans (((sI_f eσ1) 9 6 rfl).1)))))); have f17 := j9_7 hJ98 rfl; have f18 := b100; have f19 := b15; have f20 := j9_6 hJ14 rfl; have f21 := congrArg Int32.toInt (show ((σ11 9).1 6) = ((σ 9).1 6) from ((hF13 9 6 rfl).1).trans (((hF7 9 6 rfl).1).trans (((sI_f eσ1) 9 6 rfl).1))); have f22 := j9_7 hJ14 rfl; have f23 := b24; have f24 := j9_7 hJ23 rfl; have f25 := j9_6 hJ23 rfl; have f26 := congrArg Int32.toInt (show ((σ21 9).1 6) = ((σ 9).1 6) from ((hF22 9 6 rfl).1).trans (((hF13 9 6 rfl).1).trans (((hF7 9 6 rfl).1).trans (((sI_f eσ1) 9 6 rfl).1)))); have z0 : (0 : Int32).toInt = 0 := (by decide); omega)), (show DKA (σ95 9) from T103), (show RD (σ95 9) from T104), trivial⟩ _ _ _ hP hS (lv_sub hl [0] rfl)
        ·
          intro nj59
          refine lv_if_ne (tgt := 80) hx hb dX9_desk_33 (by decide) (fun c105 => ?_) (fun c105 => ?_)
          ·
            have k106 := neq32 c105
            refine lv_aload_n hx hb dX9_desk_80 rfl (lv_at hl 0 rfl) ?_
            refine va_callv (va_runV (As := []) (rest := []) ⟨hx, hb, hml, hown, hts⟩ (m_X9_line l D cy g σ21  _ hJ23 b26 b25 (show ((σ21 9).1 7).toInt ≤ ((σ21 9).1 6).toInt from (by have f0 := j9_7 hJ23 rfl; have f1 := j9_6 hJ23 rfl; have f2 := congrArg Int32.toInt (show ((σ21 9).1 6) = ((σ 9).1 6) from ((hF22 9 6 rfl).1).trans (((hF13 9 6 rfl).1).trans (((hF7 9 6 rfl).1).trans (((sI_f eσ1) 9 6 rfl).1)))); have f3 := j9_6 hJ rfl; have f4 := b15; have f5 := j9_6 hJ14 rfl; have f6 := congrArg Int32.toInt (show ((σ11 9).1 6) = ((σ 9).1 6) from ((hF13 9 6 rfl).1).trans (((hF7 9 6 rfl).1).trans (((sI_f eσ1) 9 6 rfl).1))); have f7 := j9_7 hJ14 rfl; have f8 := b24; omega))) (cwV 0 hts (gd_V q1636 q1638 q61 q134 q1639) rfl rfl rfl (by decide +kernel) ⟨Nat.le_of_ble_eq_true rfl, Nat.le_of_ble_eq_true rfl⟩) (pv9 hP hK hD hC hS (va_recv hK hP (ci := 9) (q0 := 0) rfl rfl)) rfl rfl hl.1 rfl (lv_room (Nat.le_of_ble_eq_true rfl)) dX9_desk_81 ⟨Nat.le_of_ble_eq_true rfl, Nat.le_of_ble_eq_true rfl⟩) hS (fun q _ h => up9 hS q h) (up9 hS) (fun σ108 tS H1 locs ht hvm hw109 hB hz1 hk1 hS => ?_)
            have hP : va_P D clz (WD9 cy g σ108) H1 := by rw [← ht]; exact hB
            clear hB hz1 hk1 hvm ht
            generalize H1 = H at hP hS ⊢
            have hF110 : Fr (fL [7, 8, 9, 10, 11, 12, 13, 17, 18, 19, 20, 21]) σ21 σ108 := hw109.1
            have hJ111 : J9 (σ108 9) := hw109.2.1
            have b112 : ((σ21 9).1 7).toInt ≤ ((σ108 9).1 7).toInt ∧ ((σ108 9).1 7).toInt ≤ ((σ108 9).1 6).toInt := hw109.2.2.2.2.1
            have b113 : ph ((σ21 9).1 7) ((σ21 9).1 8) ≤ ph ((σ108 9).1 7) ((σ108 9).1 8) := hw109.2.2.2.2.2.1
            have b114 : ¬ ((σ108 9).1 12).toInt = 0 ∨ ((σ21 9).1 12).toInt = 0 := hw109.2.2.2.2.2.2.1
            exact nj59 (σ108, lf [], lg []) ⟨Fr.tr (Fr.rf) hF110 (fL_sub rfl), hJ111, (show ((σ108 9).1 7).toInt ≤ ((σ108 9).1 6).toInt ∧ ph ((σ21 9).1 7) ((σ21 9).1 8) ≤ ph ((σ108 9).1 7) ((σ108 9).1 8) from (by have f0 := j9_7 hJ111 rfl; have f1 := j9_6 hJ111 rfl; have f2 := congrArg Int32.toInt (show ((σ108 9).1 6) = ((σ 9).1 6) from ((hF110 9 6 rfl).1).trans (((hF22 9 6 rfl).1).trans (((hF13 9 6 rfl).1).trans (((hF7 9 6 rfl).1).trans (((sI_f eσ1) 9 6 rfl).1))))); have f3 := j9_6 hJ rfl; have f4 := b15; have f5 := j9_6 hJ14 rfl; have f6 := congrArg Int32.toInt (show ((σ11 9).1 6) = ((σ 9).1 6) from ((hF13 9 6 rfl).1).trans (((hF7 9 6 rfl).1).trans (((sI_f eσ1) 9 6 rfl).1))); have f7 := j9_7 hJ14 rfl; have f8 := b24; have f9 := j9_7 hJ23 rfl; have f10 := j9_6 hJ23 rfl; have f11 := congrArg Int32.toInt (show ((σ21 9).1 6) = ((σ 9).1 6) from ((hF22 9 6 rfl).1).trans (((hF13 9 6 rfl).1).trans (((hF7 9 6 rfl).1).trans (((sI_f eσ1) 9 6 rfl).1)))); have f12 := b112; have f13 := b113; omega)), (show ¬ ((σ108 9).1 12).toInt = 0 ∨ ((σ21 9).1 12).toInt = 0 from (by have f0 := b31; have f1 := b114; have f2 := b30; have f3 := k55; have z0 : (0 : Int32).toInt = 0 := (by decide); omega)), (show DKA (σ108 9) from hw109.2.2.2.1), (show RD (σ108 9) from hw109.2.2.1), trivial⟩ _ _ _ hP hS (lv_sub hl [0] rfl)
          ·
            have k115 := peq32 c105
            refine lv_aload_n hx hb dX9_desk_36 rfl (lv_at hl 0 rfl) ?_
            refine lv_ldc2 (v := 82901) hx hb hown (hts _ q1609) dX9_desk_37 ?_
            refine va_callv (va_runV (As := [.long 82901]) (rest := []) ⟨hx, hb, hml, hown, hts⟩ (m_X9_asks l D cy g σ21 (82901) _ hJ23 (show ((σ21 9).1 7).toInt ≤ ((σ21 9).1 6).toInt from (by have f0 := j9_7 hJ23 rfl; have f1 := j9_6 hJ23 rfl; have f2 := congrArg Int32.toInt (show ((σ21 9).1 6) = ((σ 9).1 6) from ((hF22 9 6 rfl).1).trans (((hF13 9 6 rfl).1).trans (((hF7 9 6 rfl).1).trans (((sI_f eσ1) 9 6 rfl).1)))); have f3 := j9_6 hJ rfl; have f4 := b15; have f5 := j9_6 hJ14 rfl; have f6 := congrArg Int32.toInt (show ((σ11 9).1 6) = ((σ 9).1 6) from ((hF13 9 6 rfl).1).trans (((hF7 9 6 rfl).1).trans (((sI_f eσ1) 9 6 rfl).1))); have f7 := j9_7 hJ14 rfl; have f8 := b24; omega))) (cwV 1 hts (gd_V q1610 q1612 q55 q134 q1613) rfl rfl rfl (by decide +kernel) ⟨Nat.le_of_ble_eq_true rfl, Nat.le_of_ble_eq_true rfl⟩) (pv9 hP hK hD hC hS (va_recv hK hP (ci := 9) (q0 := 0) rfl rfl)) rfl rfl hl.1 rfl (lv_room (Nat.le_of_ble_eq_true rfl)) dX9_desk_40 ⟨Nat.le_of_ble_eq_true rfl, Nat.le_of_ble_eq_true rfl⟩) hS (fun q _ h => up9 hS q h) (up9 hS) (fun σ117 tS H1 locs ht hvm hw118 hB hz1 hk1 hS => ?_)
            have hP : va_P D clz (WD9 cy g σ117) H1 := by rw [← ht]; exact hB
            clear hB hz1 hk1 hvm ht
            generalize H1 = H at hP hS ⊢
            have hF119 : Fr (fL [7, 8, 9, 10, 11, 12, 13]) σ21 σ117 := hw118.1
            have hJ120 : J9 (σ117 9) := hw118.2.1
            have b121 : ((σ21 9).1 7).toInt ≤ ((σ117 9).1 7).toInt ∧ ((σ117 9).1 7).toInt ≤ ((σ117 9).1 6).toInt := hw118.2.2.1
            have b122 : ph ((σ21 9).1 7) ((σ21 9).1 8) ≤ ph ((σ117 9).1 7) ((σ117 9).1 8) := hw118.2.2.2.1
            have b123 : ¬ ((σ117 9).1 12).toInt = 0 ∨ ((σ21 9).1 12).toInt = 0 := hw118.2.2.2.2.1
            have T124 : DKA (σ117 9) := DKA.mv b25 (hF119 9 17 rfl).2.2.1 (hF119 9 18 rfl).2.2.1 (hF119 9 19 rfl).2.2.1
            have T125 : RD (σ117 9) := RD.call b26 (by have f0 := b31; have f1 := b123; have f2 := b30; have f3 := k55; have z0 : (0 : Int32).toInt = 0 := (by decide); omega) (hF119 9 17 rfl).2.2.1 (hF119 9 18 rfl).2.2.1 (hF119 9 19 rfl).2.2.1
            refine lv_aload_n hx hb dX9_desk_43 rfl (lv_at hl 0 rfl) ?_
            refine g9_17 hx hb hts hown hK hP (hts _ q1377) dX9_desk_44 ?_
            refine lv_bipush (v := 20) hx hb dX9_desk_47 (by decide) ?_
            refine lv_aload_n hx hb dX9_desk_49 rfl (lv_at hl 0 rfl) ?_
            refine lv_ldc2 (v := 1703503) hx hb hown (hts _ q1626) dX9_desk_50 ?_
            refine lv_iconst (v := 1) hx hb dX9_desk_53 (by decide) ?_
            refine lv_bipush (v := 60) hx hb dX9_desk_54 (by decide) ?_
            refine va_calli (va_runV (As := [.long 1703503, .int 1, .int 60]) (rest := [.int 20, .ref (g 17)]) ⟨hx, hb, hml, hown, hts⟩ (m_X9_number_ l D cy g σ117 (1703503) (1) (60) _ hJ120 (show ((σ117 9).1 7).toInt ≤ ((σ117 9).1 6).toInt from (by have f0 := j9_7 hJ120 rfl; have f1 := j9_6 hJ120 rfl; have f2 := congrArg Int32.toInt (show ((σ117 9).1 6) = ((σ 9).1 6) from ((hF119 9 6 rfl).1).trans (((hF22 9 6 rfl).1).trans (((hF13 9 6 rfl).1).trans (((hF7 9 6 rfl).1).trans (((sI_f eσ1) 9 6 rfl).1))))); have f3 := j9_6 hJ rfl; have f4 := b15; have f5 := j9_6 hJ14 rfl; have f6 := congrArg Int32.toInt (show ((σ11 9).1 6) = ((σ 9).1 6) from ((hF13 9 6 rfl).1).trans (((hF7 9 6 rfl).1).trans (((sI_f eσ1) 9 6 rfl).1))); have f7 := j9_7 hJ14 rfl; have f8 := b24; have f9 := j9_7 hJ23 rfl; have f10 := j9_6 hJ23 rfl; have f11 := congrArg Int32.toInt (show ((σ21 9).1 6) = ((σ 9).1 6) from ((hF22 9 6 rfl).1).trans (((hF13 9 6 rfl).1).trans (((hF7 9 6 rfl).1).trans (((sI_f eσ1) 9 6 rfl).1)))); have f12 := b121; omega))) (cwV 3 hts (gd_V q1627 q1629 q59 q134 q1630) rfl rfl rfl (by decide +kernel) ⟨Nat.le_of_ble_eq_true rfl, Nat.le_of_ble_eq_true rfl⟩) (pv9 hP hK hD hC hS (va_recv hK hP (ci := 9) (q0 := 0) rfl rfl)) rfl rfl hl.1 rfl (lv_room (Nat.le_of_ble_eq_true rfl)) dX9_desk_56 ⟨Nat.le_of_ble_eq_true rfl, Nat.le_of_ble_eq_true rfl⟩) hS (fun q _ h => up9 hS q h) (up9 hS) (fun r126 σ127 tS H1 locs ht hvm hw128 hB hz1 hk1 hS => ?_)
            have hP : va_P D clz (WD9 cy g σ127) H1 := by rw [← ht]; exact hB
            clear hB hz1 hk1 hvm ht
            generalize H1 = H at hP hS ⊢
            have hF129 : Fr (fL [7, 8, 9, 10, 11, 12, 13]) σ117 σ127 := hw128.1
            have hJ130 : J9 (σ127 9) := hw128.2.1
            have b131 : ((σ117 9).1 7).toInt ≤ ((σ127 9).1 7).toInt ∧ ((σ127 9).1 7).toInt ≤ ((σ127 9).1 6).toInt := hw128.2.2.1
            have b132 : ph ((σ117 9).1 7) ((σ117 9).1 8) ≤ ph ((σ127 9).1 7) ((σ127 9).1 8) := hw128.2.2.2.1
            have b133 : (1 : Int32).toInt ≤ r126.toInt ∧ (r126.toInt ≤ (60 : Int32).toInt ∨ r126.toInt = (1 : Int32).toInt) := hw128.2.2.2.2.1
            have b134 : ¬ ((σ127 9).1 12).toInt = 0 ∨ (((σ117 9).1 12).toInt = 0 ∧ r126.toInt ≤ (60 : Int32).toInt) := hw128.2.2.2.2.2.1
            have T135 : DKA (σ127 9) := DKA.mv T124 (hF129 9 17 rfl).2.2.1 (hF129 9 18 rfl).2.2.1 (hF129 9 19 rfl).2.2.1
            have T136 : RD (σ127 9) := RD.call T125 (by have f0 := b123; have f1 := b134; have f2 := b31; have f3 := b30; have f4 := k55; have g3 := rg32 r126; have z0 : (0 : Int32).toInt = 0 := (by decide); have z60 : (60 : Int32).toInt = 60 := (by decide); omega) (hF129 9 17 rfl).2.2.1 (hF129 9 18 rfl).2.2.1 (hF129 9 19 rfl).2.2.1
            refine t9_17 hx hb hK hP hD hS (vpi (by decide)) dX9_desk_59 (fun H locs σ137 eσ137 hP hS => ?_)
            have hJ138 : J9 (σ137 9) := hJ130.A eσ137 (show PA9 17 (20 : Int32).toInt.toNat r126 from (by have f0 := b133; have f1 := b134; have g2 := rg32 r126; have z1 : (1 : Int32).toInt = 1 := (by decide); have z20 : (20 : Int32).toInt = 20 := (by decide); have z60 : (60 : Int32).toInt = 60 := (by decide); exact ⟨by omega, by omega, by omega, by omega, by omega, by omega⟩))
            have T139 : DKA (σ137 9) := DKA.s17 T135 hJ130 eσ137 (by decide)
            have T140 : RD (σ137 9) := RD.s17o T136 eσ137 (by decide) (by decide)
            refine lv_aload_n hx hb dX9_desk_60 rfl (lv_at hl 0 rfl) ?_
            refine g9_17 hx hb hts hown hK hP (hts _ q1377) dX9_desk_61 ?_
            refine lv_bipush (v := 21) hx hb dX9_desk_64 (by decide) ?_
            refine lv_aload_n hx hb dX9_desk_66 rfl (lv_at hl 0 rfl) ?_
            refine lv_ldc2 (v := 3232385804) hx hb hown (hts _ q1635) dX9_desk_67 ?_
            refine lv_iconst (v := 2) hx hb dX9_desk_70 (by decide) ?_
            refine lv_bipush (v := 12) hx hb dX9_desk_71 (by decide) ?_
            refine va_calli (va_runV (As := [.long 3232385804, .int 2, .int 12]) (rest := [.int 21, .ref (g 17)]) ⟨hx, hb, hml, hown, hts⟩ (m_X9_number_ l D cy g σ137 (3232385804) (2) (12) _ hJ138 (show ((σ137 9).1 7).toInt ≤ ((σ137 9).1 6).toInt from (by have f0 := j9_7 hJ138 rfl; have f1 := congrArg Int32.toInt (show ((σ137 9).1 7) = ((σ127 9).1 7) from ((sA_f eσ137) 9 7 rfl).1); have f2 := j9_6 hJ138 rfl; have f3 := congrArg Int32.toInt (show ((σ137 9).1 6) = ((σ 9).1 6) from (((sA_f eσ137) 9 6 rfl).1).trans (((hF129 9 6 rfl).1).trans (((hF119 9 6 rfl).1).trans (((hF22 9 6 rfl).1).trans (((hF13 9 6 rfl).1).trans (((hF7 9 6 rfl).1).trans (((sI_f eσ1) 9 6 rfl).1))))))); have f4 := j9_6 hJ rfl; have f5 := j9_7 hJ130 rfl; have f6 := b15; have f7 := j9_6 hJ14 rfl; have f8 := congrArg Int32.toInt (show ((σ11 9).1 6) = ((σ 9).1 6) from ((hF13 9 6 rfl).1).trans (((hF7 9 6 rfl).1).trans (((sI_f eσ1) 9 6 rfl).1))); have f9 := j9_7 hJ14 rfl; have f10 := b24; have f11 := j9_7 hJ23 rfl; have f12 := j9_6 hJ23 rfl; have f13 := congrArg Int32.toInt (show ((σ21 9).1 6) = ((σ 9).1 6) from ((hF22 9 6 rfl).1).trans (((hF13 9 6 rfl).1).trans (((hF7 9 6 rfl).1).trans (((sI_f eσ1) 9 6 rfl).1)))); have f14 := b121; have f15 := j9_7 hJ120 rfl; have f16 := j9_6 hJ120 rfl; have f17 := congrArg Int32.toInt (show ((σ117 9).1 6) = ((σ 9).1 6) from ((hF119 9 6 rfl).1).trans (((hF22 9 6 rfl).1).trans (((hF13 9 6 rfl).1).trans (((hF7 9 6 rfl).1).trans (((sI_f eσ1) 9 6 rfl).1))))); have f18 := b131; have f19 := j9_6 hJ130 rfl; have f20 := congrArg Int32.toInt (show ((σ127 9).1 6) = ((σ 9).1 6) from ((hF129 9 6 rfl).1).trans (((hF119 9 6 rfl).1).trans (((hF22 9 6 rfl).1).trans (((hF13 9 6 rfl).1).trans (((hF7 9 6 rfl).1).trans (((sI_f eσ1) 9 6 rfl).1)))))); omega))) (cwV 3 hts (gd_V q1627 q1629 q59 q134 q1630) rfl rfl rfl (by decide +kernel) ⟨Nat.le_of_ble_eq_true rfl, Nat.le_of_ble_eq_true rfl⟩) (pv9 hP hK hD hC hS (va_recv hK hP (ci := 9) (q0 := 0) rfl rfl)) rfl rfl hl.1 rfl (lv_room (Nat.le_of_ble_eq_true rfl)) dX9_desk_73 ⟨Nat.le_of_ble_eq_true rfl, Nat.le_of_ble_eq_true rfl⟩) hS (fun q _ h => up9 hS q h) (up9 hS) (fun r141 σ142 tS H1 locs ht hvm hw143 hB hz1 hk1 hS => ?_)
            have hP : va_P D clz (WD9 cy g σ142) H1 := by rw [← ht]; exact hB
            clear hB hz1 hk1 hvm ht
            generalize H1 = H at hP hS ⊢
            have hF144 : Fr (fL [7, 8, 9, 10, 11, 12, 13]) σ137 σ142 := hw143.1
            have hJ145 : J9 (σ142 9) := hw143.2.1
            have b146 : ((σ137 9).1 7).toInt ≤ ((σ142 9).1 7).toInt ∧ ((σ142 9).1 7).toInt ≤ ((σ142 9).1 6).toInt := hw143.2.2.1
            have b147 : ph ((σ137 9).1 7) ((σ137 9).1 8) ≤ ph ((σ142 9).1 7) ((σ142 9).1 8) := hw143.2.2.2.1
            have b148 : (2 : Int32).toInt ≤ r141.toInt ∧ (r141.toInt ≤ (12 : Int32).toInt ∨ r141.toInt = (2 : Int32).toInt) := hw143.2.2.2.2.1
            have b149 : ¬ ((σ142 9).1 12).toInt = 0 ∨ (((σ137 9).1 12).toInt = 0 ∧ r141.toInt ≤ (12 : Int32).toInt) := hw143.2.2.2.2.2.1
            have T150 : DKA (σ142 9) := DKA.mv T139 (hF144 9 17 rfl).2.2.1 (hF144 9 18 rfl).2.2.1 (hF144 9 19 rfl).2.2.1
            have T151 : RD (σ142 9) := RD.call T140 (by have f0 := congrArg Int32.toInt (show ((σ137 9).1 12) = ((σ127 9).1 12) from ((sA_f eσ137) 9 12 rfl).1); have f1 := b134; have f2 := b149; have f3 := b123; have f4 := b31; have f5 := b30; have f6 := k55; have g5 := rg32 r141; have z0 : (0 : Int32).toInt = 0 := (by decide); have z12 : (12 : Int32).toInt = 12 := (by decide); have z60 : (60 : Int32).toInt = 60 := (by decide); omega) (hF144 9 17 rfl).2.2.1 (hF144 9 18 rfl).2.2.1 (hF144 9 19 rfl).2.2.1
            refine t9_17 hx hb hK hP hD hS (vpi (by decide)) dX9_desk_76 (fun H locs σ152 eσ152 hP hS => ?_)
            have hJ153 : J9 (σ152 9) := hJ145.A eσ152 (show PA9 17 (21 : Int32).toInt.toNat r141 from (by have f0 := b148; have f1 := b149; have f2 := congrArg Int32.toInt (show ((σ137 9).1 12) = ((σ127 9).1 12) from ((sA_f eσ137) 9 12 rfl).1); have g3 := rg32 r141; have z2 : (2 : Int32).toInt = 2 := (by decide); have z12 : (12 : Int32).toInt = 12 := (by decide); have z21 : (21 : Int32).toInt = 21 := (by decide); exact ⟨by omega, by omega, by omega, by omega, by omega, by omega⟩))
            have T154 : DKA (σ152 9) := DKA.s17 T150 hJ145 eσ152 (by decide)
            have T155 : RD (σ152 9) := RD.s17o T151 eσ152 (by decide) (by decide)
            refine lv_goto (tgt := 84) hx hb dX9_desk_77 (by decide) ?_
            exact nj59 (σ152, lf [], lg []) ⟨Fr.tr (Fr.tr (Fr.tr (Fr.tr (Fr.tr (Fr.rf) hF119 (fL_sub rfl)) hF129 (fL_sub rfl)) (sA_f eσ137) (fN_L rfl)) hF144 (fL_sub rfl)) (sA_f eσ152) (fN_L rfl), hJ153, (show ((σ152 9).1 7).toInt ≤ ((σ152 9).1 6).toInt ∧ ph ((σ21 9).1 7) ((σ21 9).1 8) ≤ ph ((σ152 9).1 7) ((σ152 9).1 8) from (by have f0 := j9_6 hJ153 rfl; have f1 := congrArg Int32.toInt (show ((σ152 9).1 6) = ((σ 9).1 6) from (((sA_f eσ152) 9 6 rfl).1).trans (((hF144 9 6 rfl).1).trans ((((sA_f eσ137) 9 6 rfl).1).trans (((hF129 9 6 rfl).1).trans (((hF119 9 6 rfl).1).trans (((hF22 9 6 rfl).1).trans (((hF13 9 6 rfl).1).trans (((hF7 9 6 rfl).1).trans (((sI_f eσ1) 9 6 rfl).1))))))))); have f2 := (show ph ((σ152 9).1 7) ((σ152 9).1 8) = ph ((σ142 9).1 7) ((σ142 9).1 8) from by rw [((sA_f eσ152) 9 7 rfl).1, ((sA_f eσ152) 9 8 rfl).1]); have f3 := j9_7 hJ153 rfl; have f4 := congrArg Int32.toInt (show ((σ152 9).1 7) = ((σ142 9).1 7) from ((sA_f eσ152) 9 7 rfl).1); have f5 := j9_6 hJ rfl; have f6 := j9_7 hJ145 rfl; have f7 := b15; have f8 := j9_6 hJ14 rfl; have f9 := congrArg Int32.toInt (show ((σ11 9).1 6) = ((σ 9).1 6) from ((hF13 9 6 rfl).1).trans (((hF7 9 6 rfl).1).trans (((sI_f eσ1) 9 6 rfl).1))); have f10 := j9_7 hJ14 rfl; have f11 := b24; have f12 := j9_7 hJ23 rfl; have f13 := j9_6 hJ23 rfl; have f14 := congrArg Int32.toInt (show ((σ21 9).1 6) = ((σ 9).1 6) from ((hF22 9 6 rfl).1).trans (((hF13 9 6 rfl).1).trans (((hF7 9 6 rfl).1).trans (((sI_f eσ1) 9 6 rfl).1)))); have f15 := b121; have f16 := j9_7 hJ120 rfl; have f17 := j9_6 hJ120 rfl; have f18 := congrArg Int32.toInt (show ((σ117 9).1 6) = ((σ 9).1 6) from ((hF119 9 6 rfl).1).trans (((hF22 9 6 rfl).1).trans (((hF13 9 6 rfl).1).trans (((hF7 9 6 rfl).1).trans (((sI_f eσ1) 9 6 rfl).1))))); have f19 := b122; have f20 := b131; have f21 := j9_6 hJ130 rfl; have f22 := congrArg Int32.toInt (show ((σ127 9).1 6) = ((σ 9).1 6) from ((hF129 9 6 rfl).1).trans (((hF119 9 6 rfl).1).trans (((hF22 9 6 rfl).1).trans (((hF13 9 6 rfl).1).trans (((hF7 9 6 rfl).1).trans (((sI_f eσ1) 9 6 rfl).1)))))); have f23 := j9_7 hJ130 rfl; have f24 := b132; have f25 := b146; have f26 := j9_6 hJ145 rfl; have f27 := congrArg Int32.toInt (show ((σ142 9).1 6) = ((σ 9).1 6) from ((hF144 9 6 rfl).1).trans ((((sA_f eσ137) 9 6 rfl).1).trans (((hF129 9 6 rfl).1).trans (((hF119 9 6 rfl).1).trans (((hF22 9 6 rfl).1).trans (((hF13 9 6 rfl).1).trans (((hF7 9 6 rfl).1).trans (((sI_f eσ1) 9 6 rfl).1)))))))); have f28 := j9_7 hJ138 rfl; have f29 := congrArg Int32.toInt (show ((σ137 9).1 7) = ((σ127 9).1 7) from ((sA_f eσ137) 9 7 rfl).1); have f30 := b147; have f31 := (show ph ((σ137 9).1 7) ((σ137 9).1 8) = ph ((σ127 9).1 7) ((σ127 9).1 8) from by rw [((sA_f eσ137) 9 7 rfl).1, ((sA_f eσ137) 9 8 rfl).1]); omega)), (show ¬ ((σ152 9).1 12).toInt = 0 ∨ ((σ21 9).1 12).toInt = 0 from (by have f0 := congrArg Int32.toInt (show ((σ152 9).1 12) = ((σ142 9).1 12) from ((sA_f eσ152) 9 12 rfl).1); have f1 := b31; have f2 := b123; have f3 := b149; have f4 := congrArg Int32.toInt (show ((σ137 9).1 12) = ((σ127 9).1 12) from ((sA_f eσ137) 9 12 rfl).1); have f5 := b134; have f6 := b30; have f7 := k55; have z0 : (0 : Int32).toInt = 0 := (by decide); have z12 : (12 : Int32).toInt = 12 := (by decide); have z60 : (60 : Int32).toInt = 60 := (by decide); omega)), (show DKA (σ152 9) from T154), (show RD (σ152 9) from T155), trivial⟩ _ _ _ hP hS (lv_sub hl [0] rfl)

