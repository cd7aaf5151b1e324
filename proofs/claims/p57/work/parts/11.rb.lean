theorem q1595 : Cond.code yX9_next cX9_next 2 none ∈ lw_g := lw_gm (List.mem_of_getElem? (i := 1595) (by decide +kernel)) rfl
theorem q1367 : Cond.fieldLink RX9 153 "LipsAndSlidesModel" "at" "I" ∈ lw_g := lw_gm (List.mem_of_getElem? (i := 1367) (by decide +kernel)) rfl
theorem q1596 : Cond.methodLink RX9 156 yX9_isByte ∈ lw_g := lw_gm (List.mem_of_getElem? (i := 1596) (by decide +kernel)) rfl
theorem q1598 : Cond.instanceMethod yX9_isByte ∈ lw_g := lw_gm (List.mem_of_getElem? (i := 1598) (by decide +kernel)) rfl
theorem q53 : Cond.selects RX9 yX9_isByte yX9_isByte ∈ lw_g := lw_gm (List.mem_of_getElem? (i := 53) (by decide +kernel)) rfl
theorem q1370 : Cond.fieldLink RX9 163 "LipsAndSlidesModel" "value" "I" ∈ lw_g := lw_gm (List.mem_of_getElem? (i := 1370) (by decide +kernel)) rfl
theorem q1371 : Cond.fieldLink RX9 166 "LipsAndSlidesModel" "word" "J" ∈ lw_g := lw_gm (List.mem_of_getElem? (i := 1371) (by decide +kernel)) rfl
theorem q1368 : Cond.fieldLink RX9 170 "LipsAndSlidesModel" "token" "I" ∈ lw_g := lw_gm (List.mem_of_getElem? (i := 1368) (by decide +kernel)) rfl
theorem q1603 : Cond.constant RX9 179 (100000) ∈ lw_g := lw_gm (List.mem_of_getElem? (i := 1603) (by decide +kernel)) rfl
theorem q1604 : Cond.constant RX9 180 (1000000) ∈ lw_g := lw_gm (List.mem_of_getElem? (i := 1604) (by decide +kernel)) rfl
theorem q1600 : Cond.constantLong RX9 173 (-1) ∈ lw_g := lw_gm (List.mem_of_getElem? (i := 1600) (by decide +kernel)) rfl
theorem q1601 : Cond.constantLong RX9 175 (27) ∈ lw_g := lw_gm (List.mem_of_getElem? (i := 1601) (by decide +kernel)) rfl
theorem q1602 : Cond.constantLong RX9 177 (96) ∈ lw_g := lw_gm (List.mem_of_getElem? (i := 1602) (by decide +kernel)) rfl
theorem dX9_next_0 : decode cX9_next 0 = .ok (.aload_n 0, 1) := by decide +kernel
theorem dX9_next_1 : decode cX9_next 1 = .ok (.aload_n 0, 1) := by decide +kernel
theorem dX9_next_2 : decode cX9_next 2 = .ok (.getfield 153, 3) := by decide +kernel
theorem dX9_next_5 : decode cX9_next 5 = .ok (.bipush 32, 2) := by decide +kernel
theorem dX9_next_7 : decode cX9_next 7 = .ok (.bipush 32, 2) := by decide +kernel
theorem dX9_next_9 : decode cX9_next 9 = .ok (.invokevirtual 156, 3) := by decide +kernel
theorem dX9_next_12 : decode cX9_next 12 = .ok (.ifCond .ne 18, 3) := by decide +kernel
theorem dX9_next_15 : decode cX9_next 15 = .ok (.aload_n 0, 1) := by decide +kernel
theorem dX9_next_16 : decode cX9_next 16 = .ok (.aload_n 0, 1) := by decide +kernel
theorem dX9_next_17 : decode cX9_next 17 = .ok (.getfield 153, 3) := by decide +kernel
theorem dX9_next_20 : decode cX9_next 20 = .ok (.bipush 10, 2) := by decide +kernel
theorem dX9_next_22 : decode cX9_next 22 = .ok (.bipush 10, 2) := by decide +kernel
theorem dX9_next_24 : decode cX9_next 24 = .ok (.invokevirtual 156, 3) := by decide +kernel
theorem dX9_next_27 : decode cX9_next 27 = .ok (.ifCond .eq 16, 3) := by decide +kernel
theorem dX9_next_30 : decode cX9_next 30 = .ok (.aload_n 0, 1) := by decide +kernel
theorem dX9_next_31 : decode cX9_next 31 = .ok (.dup, 1) := by decide +kernel
theorem dX9_next_32 : decode cX9_next 32 = .ok (.getfield 153, 3) := by decide +kernel
theorem dX9_next_35 : decode cX9_next 35 = .ok (.iconst 1, 1) := by decide +kernel
theorem dX9_next_36 : decode cX9_next 36 = .ok (.iadd, 1) := by decide +kernel
theorem dX9_next_37 : decode cX9_next 37 = .ok (.putfield 153, 3) := by decide +kernel
theorem dX9_next_40 : decode cX9_next 40 = .ok (.goto (-40), 3) := by decide +kernel
theorem dX9_next_43 : decode cX9_next 43 = .ok (.aload_n 0, 1) := by decide +kernel
theorem dX9_next_44 : decode cX9_next 44 = .ok (.aload_n 0, 1) := by decide +kernel
theorem dX9_next_45 : decode cX9_next 45 = .ok (.getfield 153, 3) := by decide +kernel
theorem dX9_next_48 : decode cX9_next 48 = .ok (.putfield 160, 3) := by decide +kernel
theorem dX9_next_51 : decode cX9_next 51 = .ok (.aload_n 0, 1) := by decide +kernel
theorem dX9_next_52 : decode cX9_next 52 = .ok (.iconst 0, 1) := by decide +kernel
theorem dX9_next_53 : decode cX9_next 53 = .ok (.putfield 163, 3) := by decide +kernel
theorem dX9_next_56 : decode cX9_next 56 = .ok (.aload_n 0, 1) := by decide +kernel
theorem dX9_next_57 : decode cX9_next 57 = .ok (.lconst 0, 1) := by decide +kernel
theorem dX9_next_58 : decode cX9_next 58 = .ok (.putfield 166, 3) := by decide +kernel
theorem dX9_next_61 : decode cX9_next 61 = .ok (.aload_n 0, 1) := by decide +kernel
theorem dX9_next_62 : decode cX9_next 62 = .ok (.getfield 153, 3) := by decide +kernel
theorem dX9_next_65 : decode cX9_next 65 = .ok (.aload_n 0, 1) := by decide +kernel
theorem dX9_next_66 : decode cX9_next 66 = .ok (.getfield 146, 3) := by decide +kernel
theorem dX9_next_69 : decode cX9_next 69 = .ok (.if_icmp .ne 11, 3) := by decide +kernel
theorem dX9_next_72 : decode cX9_next 72 = .ok (.aload_n 0, 1) := by decide +kernel
theorem dX9_next_73 : decode cX9_next 73 = .ok (.iconst 0, 1) := by decide +kernel
theorem dX9_next_74 : decode cX9_next 74 = .ok (.putfield 170, 3) := by decide +kernel
theorem dX9_next_77 : decode cX9_next 77 = .ok (.goto 230, 3) := by decide +kernel
theorem dX9_next_80 : decode cX9_next 80 = .ok (.aload_n 0, 1) := by decide +kernel
theorem dX9_next_81 : decode cX9_next 81 = .ok (.aload_n 0, 1) := by decide +kernel
theorem dX9_next_82 : decode cX9_next 82 = .ok (.getfield 153, 3) := by decide +kernel
theorem dX9_next_85 : decode cX9_next 85 = .ok (.bipush 97, 2) := by decide +kernel
theorem dX9_next_87 : decode cX9_next 87 = .ok (.bipush 122, 2) := by decide +kernel
theorem dX9_next_89 : decode cX9_next 89 = .ok (.invokevirtual 156, 3) := by decide +kernel
theorem dX9_next_92 : decode cX9_next 92 = .ok (.ifCond .eq 96, 3) := by decide +kernel
theorem dX9_next_95 : decode cX9_next 95 = .ok (.aload_n 0, 1) := by decide +kernel
theorem dX9_next_96 : decode cX9_next 96 = .ok (.iconst 1, 1) := by decide +kernel
theorem dX9_next_97 : decode cX9_next 97 = .ok (.putfield 170, 3) := by decide +kernel
theorem dX9_next_100 : decode cX9_next 100 = .ok (.iconst 0, 1) := by decide +kernel
theorem dX9_next_101 : decode cX9_next 101 = .ok (.istore_n 1, 1) := by decide +kernel
theorem dX9_next_102 : decode cX9_next 102 = .ok (.aload_n 0, 1) := by decide +kernel
theorem dX9_next_103 : decode cX9_next 103 = .ok (.aload_n 0, 1) := by decide +kernel
theorem dX9_next_104 : decode cX9_next 104 = .ok (.getfield 153, 3) := by decide +kernel
theorem dX9_next_107 : decode cX9_next 107 = .ok (.bipush 97, 2) := by decide +kernel
theorem dX9_next_109 : decode cX9_next 109 = .ok (.bipush 122, 2) := by decide +kernel
theorem dX9_next_111 : decode cX9_next 111 = .ok (.invokevirtual 156, 3) := by decide +kernel
theorem dX9_next_114 : decode cX9_next 114 = .ok (.ifCond .eq 71, 3) := by decide +kernel
theorem dX9_next_117 : decode cX9_next 117 = .ok (.aload_n 0, 1) := by decide +kernel
theorem dX9_next_118 : decode cX9_next 118 = .ok (.iload_n 1, 1) := by decide +kernel
theorem dX9_next_119 : decode cX9_next 119 = .ok (.bipush 11, 2) := by decide +kernel
theorem dX9_next_121 : decode cX9_next 121 = .ok (.if_icmp .le 9, 3) := by decide +kernel
theorem dX9_next_124 : decode cX9_next 124 = .ok (.ldc2_w 173, 3) := by decide +kernel
theorem dX9_next_127 : decode cX9_next 127 = .ok (.goto 26, 3) := by decide +kernel
theorem dX9_next_130 : decode cX9_next 130 = .ok (.ldc2_w 175, 3) := by decide +kernel
theorem dX9_next_133 : decode cX9_next 133 = .ok (.aload_n 0, 1) := by decide +kernel
theorem dX9_next_134 : decode cX9_next 134 = .ok (.getfield 166, 3) := by decide +kernel
theorem dX9_next_137 : decode cX9_next 137 = .ok (.lmul, 1) := by decide +kernel
theorem dX9_next_138 : decode cX9_next 138 = .ok (.aload_n 0, 1) := by decide +kernel
theorem dX9_next_139 : decode cX9_next 139 = .ok (.getfield 23, 3) := by decide +kernel
theorem dX9_next_142 : decode cX9_next 142 = .ok (.aload_n 0, 1) := by decide +kernel
theorem dX9_next_143 : decode cX9_next 143 = .ok (.getfield 153, 3) := by decide +kernel
theorem dX9_next_146 : decode cX9_next 146 = .ok (.baload, 1) := by decide +kernel
theorem dX9_next_147 : decode cX9_next 147 = .ok (.i2l, 1) := by decide +kernel
theorem dX9_next_148 : decode cX9_next 148 = .ok (.ladd, 1) := by decide +kernel
theorem dX9_next_149 : decode cX9_next 149 = .ok (.ldc2_w 177, 3) := by decide +kernel
theorem dX9_next_152 : decode cX9_next 152 = .ok (.lsub, 1) := by decide +kernel
theorem dX9_next_153 : decode cX9_next 153 = .ok (.putfield 166, 3) := by decide +kernel
theorem dX9_next_156 : decode cX9_next 156 = .ok (.iload_n 1, 1) := by decide +kernel
theorem dX9_next_157 : decode cX9_next 157 = .ok (.bipush 11, 2) := by decide +kernel
theorem dX9_next_159 : decode cX9_next 159 = .ok (.if_icmp .le 10, 3) := by decide +kernel
theorem dX9_next_162 : decode cX9_next 162 = .ok (.aload_n 0, 1) := by decide +kernel
theorem dX9_next_163 : decode cX9_next 163 = .ok (.ldc2_w 173, 3) := by decide +kernel
theorem dX9_next_166 : decode cX9_next 166 = .ok (.putfield 166, 3) := by decide +kernel
theorem dX9_next_169 : decode cX9_next 169 = .ok (.aload_n 0, 1) := by decide +kernel
theorem dX9_next_170 : decode cX9_next 170 = .ok (.dup, 1) := by decide +kernel
theorem dX9_next_171 : decode cX9_next 171 = .ok (.getfield 153, 3) := by decide +kernel
theorem dX9_next_174 : decode cX9_next 174 = .ok (.iconst 1, 1) := by decide +kernel
theorem dX9_next_175 : decode cX9_next 175 = .ok (.iadd, 1) := by decide +kernel
theorem dX9_next_176 : decode cX9_next 176 = .ok (.putfield 153, 3) := by decide +kernel
theorem dX9_next_179 : decode cX9_next 179 = .ok (.iinc 1 1, 3) := by decide +kernel
theorem dX9_next_182 : decode cX9_next 182 = .ok (.goto (-80), 3) := by decide +kernel
theorem dX9_next_185 : decode cX9_next 185 = .ok (.goto 122, 3) := by decide +kernel
theorem dX9_next_188 : decode cX9_next 188 = .ok (.aload_n 0, 1) := by decide +kernel
theorem dX9_next_189 : decode cX9_next 189 = .ok (.aload_n 0, 1) := by decide +kernel
theorem dX9_next_190 : decode cX9_next 190 = .ok (.getfield 153, 3) := by decide +kernel
theorem dX9_next_193 : decode cX9_next 193 = .ok (.bipush 48, 2) := by decide +kernel
theorem dX9_next_195 : decode cX9_next 195 = .ok (.bipush 57, 2) := by decide +kernel
theorem dX9_next_197 : decode cX9_next 197 = .ok (.invokevirtual 156, 3) := by decide +kernel
theorem dX9_next_200 : decode cX9_next 200 = .ok (.ifCond .eq 74, 3) := by decide +kernel
theorem dX9_next_203 : decode cX9_next 203 = .ok (.aload_n 0, 1) := by decide +kernel
theorem dX9_next_204 : decode cX9_next 204 = .ok (.iconst 2, 1) := by decide +kernel
theorem dX9_next_205 : decode cX9_next 205 = .ok (.putfield 170, 3) := by decide +kernel
theorem dX9_next_208 : decode cX9_next 208 = .ok (.aload_n 0, 1) := by decide +kernel
theorem dX9_next_209 : decode cX9_next 209 = .ok (.aload_n 0, 1) := by decide +kernel
theorem dX9_next_210 : decode cX9_next 210 = .ok (.getfield 153, 3) := by decide +kernel
theorem dX9_next_213 : decode cX9_next 213 = .ok (.bipush 48, 2) := by decide +kernel
theorem dX9_next_215 : decode cX9_next 215 = .ok (.bipush 57, 2) := by decide +kernel
theorem dX9_next_217 : decode cX9_next 217 = .ok (.invokevirtual 156, 3) := by decide +kernel
theorem dX9_next_220 : decode cX9_next 220 = .ok (.ifCond .eq 87, 3) := by decide +kernel
theorem dX9_next_223 : decode cX9_next 223 = .ok (.aload_n 0, 1) := by decide +kernel
theorem dX9_next_224 : decode cX9_next 224 = .ok (.aload_n 0, 1) := by decide +kernel
theorem dX9_next_225 : decode cX9_next 225 = .ok (.getfield 163, 3) := by decide +kernel
theorem dX9_next_228 : decode cX9_next 228 = .ok (.ldc 179, 2) := by decide +kernel
theorem dX9_next_230 : decode cX9_next 230 = .ok (.if_icmp .le 8, 3) := by decide +kernel
theorem dX9_next_233 : decode cX9_next 233 = .ok (.ldc 180, 2) := by decide +kernel
theorem dX9_next_235 : decode cX9_next 235 = .ok (.goto 23, 3) := by decide +kernel
theorem dX9_next_238 : decode cX9_next 238 = .ok (.bipush 10, 2) := by decide +kernel
theorem dX9_next_240 : decode cX9_next 240 = .ok (.aload_n 0, 1) := by decide +kernel
theorem dX9_next_241 : decode cX9_next 241 = .ok (.getfield 163, 3) := by decide +kernel
theorem dX9_next_244 : decode cX9_next 244 = .ok (.imul, 1) := by decide +kernel
theorem dX9_next_245 : decode cX9_next 245 = .ok (.aload_n 0, 1) := by decide +kernel
theorem dX9_next_246 : decode cX9_next 246 = .ok (.getfield 23, 3) := by decide +kernel
theorem dX9_next_249 : decode cX9_next 249 = .ok (.aload_n 0, 1) := by decide +kernel
theorem dX9_next_250 : decode cX9_next 250 = .ok (.getfield 153, 3) := by decide +kernel
theorem dX9_next_253 : decode cX9_next 253 = .ok (.baload, 1) := by decide +kernel
theorem dX9_next_254 : decode cX9_next 254 = .ok (.iadd, 1) := by decide +kernel
theorem dX9_next_255 : decode cX9_next 255 = .ok (.bipush 48, 2) := by decide +kernel
theorem dX9_next_257 : decode cX9_next 257 = .ok (.isub, 1) := by decide +kernel
theorem dX9_next_258 : decode cX9_next 258 = .ok (.putfield 163, 3) := by decide +kernel
theorem dX9_next_261 : decode cX9_next 261 = .ok (.aload_n 0, 1) := by decide +kernel
theorem dX9_next_262 : decode cX9_next 262 = .ok (.dup, 1) := by decide +kernel
theorem dX9_next_263 : decode cX9_next 263 = .ok (.getfield 153, 3) := by decide +kernel
theorem dX9_next_266 : decode cX9_next 266 = .ok (.iconst 1, 1) := by decide +kernel
theorem dX9_next_267 : decode cX9_next 267 = .ok (.iadd, 1) := by decide +kernel
theorem dX9_next_268 : decode cX9_next 268 = .ok (.putfield 153, 3) := by decide +kernel
theorem dX9_next_271 : decode cX9_next 271 = .ok (.goto (-63), 3) := by decide +kernel
theorem dX9_next_274 : decode cX9_next 274 = .ok (.aload_n 0, 1) := by decide +kernel
theorem dX9_next_275 : decode cX9_next 275 = .ok (.aload_n 0, 1) := by decide +kernel
theorem dX9_next_276 : decode cX9_next 276 = .ok (.getfield 23, 3) := by decide +kernel
theorem dX9_next_279 : decode cX9_next 279 = .ok (.aload_n 0, 1) := by decide +kernel
theorem dX9_next_280 : decode cX9_next 280 = .ok (.getfield 153, 3) := by decide +kernel
theorem dX9_next_283 : decode cX9_next 283 = .ok (.baload, 1) := by decide +kernel
theorem dX9_next_284 : decode cX9_next 284 = .ok (.bipush 59, 2) := by decide +kernel
theorem dX9_next_286 : decode cX9_next 286 = .ok (.if_icmp .ne 7, 3) := by decide +kernel
theorem dX9_next_289 : decode cX9_next 289 = .ok (.iconst 3, 1) := by decide +kernel
theorem dX9_next_290 : decode cX9_next 290 = .ok (.goto 4, 3) := by decide +kernel
theorem dX9_next_293 : decode cX9_next 293 = .ok (.iconst 4, 1) := by decide +kernel
theorem dX9_next_294 : decode cX9_next 294 = .ok (.putfield 170, 3) := by decide +kernel
theorem dX9_next_297 : decode cX9_next 297 = .ok (.aload_n 0, 1) := by decide +kernel
theorem dX9_next_298 : decode cX9_next 298 = .ok (.dup, 1) := by decide +kernel
theorem dX9_next_299 : decode cX9_next 299 = .ok (.getfield 153, 3) := by decide +kernel
theorem dX9_next_302 : decode cX9_next 302 = .ok (.iconst 1, 1) := by decide +kernel
theorem dX9_next_303 : decode cX9_next 303 = .ok (.iadd, 1) := by decide +kernel
theorem dX9_next_304 : decode cX9_next 304 = .ok (.putfield 153, 3) := by decide +kernel
theorem dX9_next_307 : decode cX9_next 307 = .ok (.return_, 1) := by decide +kernel
set_option maxHeartbeats 4000000 in
set_option maxRecDepth 100000 in
theorem m_X9_next (l : Launch) (D : va_G) (cy : Nat → ClassId) (g : Nat → Nat) (σ : ST)  (sz : Nat) (hJ : J9 (σ 9)) (h0 : ((σ 9).1 7).toInt ≤ ((σ 9).1 6).toInt) : Met l yX9_next (ww yX9_next cX9_next 2 none) ({ frames := 2, cells := 0, slots := 0, locals := 128 }) (va_Pc [.ref (g 60)] (pr9 D cy g σ sz)) (qv9 D cy g sz (fun τ => Fr (fL [7, 8, 9, 10, 11]) σ τ ∧ J9 (τ 9) ∧ (((σ 9).1 7).toInt ≤ ((τ 9).1 7).toInt ∧ ((τ 9).1 7).toInt ≤ ((τ 9).1 6).toInt ∧ ((τ 9).1 6).toInt = ((σ 9).1 6).toInt) ∧ (ph ((σ 9).1 7) ((σ 9).1 8) ≤ ph ((τ 9).1 7) ((τ 9).1 8) ∧ ((σ 9).1 7).toInt ≤ ph ((τ 9).1 7) ((τ 9).1 8)) ∧ True)) 0 0 (A9 cy g sz) := by
  refine Met.ofW (cc := cX9_next) (maxL := 2) (ret := none) (by decide) rfl ?_
  intro p e s m args below meth c s₁ B hml hv
  obtain ⟨rfl, hsz, hP, hK, hD0, hC⟩ := hv
  have hx := B.exec
  have hb := B.bytes
  have hr := B.returns
  have hts := hts_g (atoms_spec (ws := ww yX9_next cX9_next 2 none) B.pre)
  have hown : s.vm.findClass RX9 = some m.cls := findClass_of_methodNamed B.named
  have hlocks := B.notSynchronized
  clear B
  subst hsz
  have hD := fun τ => A9_D (sz := s.heap.size) hD0 τ
  clear hD0
  have hS : va_S (A9 cy g s.heap.size) s.heap s.heap [] := va_S.rf
  have hl := lv_entry ([.ref (g 60)]) (n := 2) (Nat.le_of_ble_eq_true rfl)
  rw [lg_entry_eq]
  generalize (lg_sl ([.ref (g 60)]) ++ List.replicate (2 - (lg_sl ([.ref (g 60)])).length) Slot.unset).toArray = ls at hl ⊢
  have hl : lv_has ls 2 [(0, .ref (g 60))] := hl
  refine loop9 2 0 (fun x : LZ => [(0, .ref (g 60))]) (fun x : LZ => (Fr (fL [7]) σ x.1) ∧ (J9 (x.1 9)) ∧ (((σ 9).1 7).toInt ≤ ((x.1 9).1 7).toInt ∧ ((x.1 9).1 7).toInt ≤ ((x.1 9).1 6).toInt ∧ ((x.1 9).1 6).toInt = ((σ 9).1 6).toInt) ∧ True) (fun x : LZ => (((x.1 9).1 6).toInt - ((x.1 9).1 7).toInt).toNat) ?_ (σ, lf [], lg []) ⟨Fr.rf, hJ, (show ((σ 9).1 7).toInt ≤ ((σ 9).1 7).toInt ∧ ((σ 9).1 7).toInt ≤ ((σ 9).1 6).toInt ∧ ((σ 9).1 6).toInt = ((σ 9).1 6).toInt from (by have f0 := j9_6 hJ rfl; have f1 := j9_7 hJ rfl; have f2 := h0; omega)), trivial⟩ _ _ _ hP hS (lv_sub hl [0] rfl)
  intro y3 hI2 nl1 H locs ls hP hS hl
  obtain ⟨σ4, eσ4⟩ : ∃ z, z = y3.1 := ⟨_, rfl⟩
  rw [← eσ4] at hP hI2
  have hF5 : Fr (fL [7]) σ σ4 := hI2.1
  have hJ6 : J9 (σ4 9) := hI2.2.1
  have b7 : ((σ 9).1 7).toInt ≤ ((σ4 9).1 7).toInt ∧ ((σ4 9).1 7).toInt ≤ ((σ4 9).1 6).toInt ∧ ((σ4 9).1 6).toInt = ((σ 9).1 6).toInt := hI2.2.2.1
  have hl : lv_has ls 2 [(0, .ref (g 60))] := hl
  refine lv_aload_n hx hb dX9_next_0 rfl (lv_at hl 0 rfl) ?_
  refine lv_aload_n hx hb dX9_next_1 rfl (lv_at hl 0 rfl) ?_
  refine g9_7 (x := ((σ4 9).1 7)) hx hb hts hown hK hP (rfl) (hts _ q1367) dX9_next_2 ?_
  refine lv_bipush (v := 32) hx hb dX9_next_5 (by decide) ?_
  refine lv_bipush (v := 32) hx hb dX9_next_7 (by decide) ?_
  refine va_calli (va_runV (As := [.int ((σ4 9).1 7), .int 32, .int 32]) (rest := []) ⟨hx, hb, hml, hown, hts⟩ (m_X9_isByte l D cy g σ4 ((σ4 9).1 7) (32) (32) _ hJ6 (show (0 : Int) ≤ ((σ4 9).1 7).toInt ∧ ((σ4 9).1 7).toInt ≤ 2000 from (by have f0 := j9_7 hJ6 rfl; have f1 := b7; have f2 := j9_6 hJ6 rfl; have f3 := congrArg Int32.toInt (show ((σ4 9).1 6) = ((σ 9).1 6) from (hF5 9 6 rfl).1); have f4 := j9_6 hJ rfl; have f5 := j9_7 hJ rfl; have f6 := h0; omega))) (cwV 3 hts (gd_V q1596 q1598 q53 q134 q1599) rfl rfl rfl (by decide +kernel) ⟨Nat.le_of_ble_eq_true rfl, Nat.le_of_ble_eq_true rfl⟩) (pv9 hP hK hD hC hS (va_recv hK hP (ci := 9) (q0 := 0) rfl rfl)) rfl rfl hl.1 rfl (lv_room (Nat.le_of_ble_eq_true rfl)) dX9_next_9 ⟨Nat.le_of_ble_eq_true rfl, Nat.le_of_ble_eq_true rfl⟩) hS (fun q _ h => up9 hS q h) (up9 hS) (fun r8 σ9 tS H1 locs ht hvm hw10 hB hz1 hk1 hS => ?_)
  have hP : va_P D clz (WD9 cy g σ9) H1 := by rw [← ht]; exact hB
  clear hB hz1 hk1 hvm ht
  generalize H1 = H at hP hS ⊢
  have hw10E : σ4 = σ9 := (hw10.1).symm
  subst hw10E
  have b11 : (0 : Int) ≤ r8.toInt ∧ r8.toInt ≤ 1 := hw10.2.1
  have b12 : (r8.toInt = 0) ∨ (((σ4 9).1 7).toInt < ((σ4 9).1 6).toInt) := hw10.2.2.1
  refine lv_if_ne (tgt := 30) hx hb dX9_next_12 (by decide) (fun c13 => ?_) (fun c13 => ?_)
  ·
    have k14 := neq32 c13
    refine lv_aload_n hx hb dX9_next_30 rfl (lv_at hl 0 rfl) ?_
    refine lv_dup hx hb dX9_next_31 rfl ?_
    refine g9_7 (x := ((σ4 9).1 7)) hx hb hts hown hK hP (rfl) (hts _ q1367) dX9_next_32 ?_
    refine lv_iconst (v := 1) hx hb dX9_next_35 (by decide) ?_
    refine lv_iadd hx hb dX9_next_36 ?_
    refine lv_topi (fun x15 ex15 => ?_)
    have t16 := addO ex15 (by have f0 := j9_7 hJ6 rfl; have f1 := b7; have f2 := b12; have f3 := j9_6 hJ6 rfl; have f4 := congrArg Int32.toInt (show ((σ4 9).1 6) = ((σ 9).1 6) from (hF5 9 6 rfl).1); have f5 := j9_6 hJ rfl; have f6 := j9_7 hJ rfl; have f7 := h0; have f8 := b11; have f9 := k14; have z0 : (0 : Int32).toInt = 0 := (by decide); have z1 : (1 : Int32).toInt = 1 := (by decide); omega)
    refine p9_7 hx hb hts hown hK hP hD hS (hts _ q1367) dX9_next_37 (fun H locs σ17 eσ17 hP hS => ?_)
    have hJ18 : J9 (σ17 9) := hJ6.I eσ17 (show JI9 7 x15 from (by have f0 := t16; have f1 := j9_7 hJ6 rfl; have f2 := b7; have f3 := b12; have f4 := j9_6 hJ6 rfl; have f5 := congrArg Int32.toInt (show ((σ4 9).1 6) = ((σ 9).1 6) from (hF5 9 6 rfl).1); have f6 := j9_6 hJ rfl; have f7 := j9_7 hJ rfl; have f8 := h0; have f9 := b11; have f10 := k14; have g4 := rg32 x15; have z0 : (0 : Int32).toInt = 0 := (by decide); have z1 : (1 : Int32).toInt = 1 := (by decide); exact ⟨by omega, by omega⟩))
    refine lv_goto (tgt := 0) hx hb dX9_next_40 (by decide) ?_
    have t19 : (((σ17 9).1 6).toInt - ((σ17 9).1 7).toInt).toNat < (((σ4 9).1 6).toInt - ((σ4 9).1 7).toInt).toNat := (by have f0 := j9_6 hJ6 rfl; have f1 := congrArg Int32.toInt (show ((σ4 9).1 6) = ((σ 9).1 6) from (hF5 9 6 rfl).1); have f2 := j9_6 hJ18 rfl; have f3 := congrArg Int32.toInt (show ((σ17 9).1 6) = ((σ 9).1 6) from (((sI_f eσ17) 9 6 rfl).1).trans ((hF5 9 6 rfl).1)); have f4 := j9_7 hJ6 rfl; have f5 := j9_7 hJ18 rfl; have f6 := congrArg Int32.toInt (show ((σ17 9).1 7) = x15 from sI_s eσ17); have f7 := b7; have f8 := b12; have f9 := t16; have f10 := j9_6 hJ rfl; have f11 := j9_7 hJ rfl; have f12 := h0; have f13 := b11; have f14 := k14; have z0 : (0 : Int32).toInt = 0 := (by decide); have z1 : (1 : Int32).toInt = 1 := (by decide); omega)
    exact nl1 (σ17, lf [], lg []) ⟨Fr.tr (Fr.tr (Fr.rf) hF5 (fL_sub rfl)) (sI_f eσ17) (fN_L rfl), hJ18, (show ((σ 9).1 7).toInt ≤ ((σ17 9).1 7).toInt ∧ ((σ17 9).1 7).toInt ≤ ((σ17 9).1 6).toInt ∧ ((σ17 9).1 6).toInt = ((σ 9).1 6).toInt from (by have f0 := j9_6 hJ rfl; have f1 := j9_6 hJ18 rfl; have f2 := congrArg Int32.toInt (show ((σ17 9).1 6) = ((σ 9).1 6) from (((sI_f eσ17) 9 6 rfl).1).trans ((hF5 9 6 rfl).1)); have f3 := j9_7 hJ18 rfl; have f4 := congrArg Int32.toInt (show ((σ17 9).1 7) = x15 from sI_s eσ17); have f5 := j9_7 hJ rfl; have f6 := h0; have f7 := b7; have f8 := j9_6 hJ6 rfl; have f9 := congrArg Int32.toInt (show ((σ4 9).1 6) = ((σ 9).1 6) from (hF5 9 6 rfl).1); have f10 := j9_7 hJ6 rfl; have f11 := b12; have f12 := t16; have f13 := b11; have f14 := k14; have z0 : (0 : Int32).toInt = 0 := (by decide); have z1 : (1 : Int32).toInt = 1 := (by decide); omega)), trivial⟩ (show (((σ17 9).1 6).toInt - ((σ17 9).1 7).toInt).toNat < _ from by first | exact t19 | (rw [← eσ4]; exact t19)) _ _ _ hP hS (lv_sub hl [0] rfl)
  ·
    have k20 := peq32 c13
    refine lv_aload_n hx hb dX9_next_15 rfl (lv_at hl 0 rfl) ?_
    refine lv_aload_n hx hb dX9_next_16 rfl (lv_at hl 0 rfl) ?_
    refine g9_7 (x := ((σ4 9).1 7)) hx hb hts hown hK hP (rfl) (hts _ q1367) dX9_next_17 ?_
    refine lv_bipush (v := 10) hx hb dX9_next_20 (by decide) ?_
    refine lv_bipush (v := 10) hx hb dX9_next_22 (by decide) ?_
    refine va_calli (va_runV (As := [.int ((σ4 9).1 7), .int 10, .int 10]) (rest := []) ⟨hx, hb, hml, hown, hts⟩ (m_X9_isByte l D cy g σ4 ((σ4 9).1 7) (10) (10) _ hJ6 (show (0 : Int) ≤ ((σ4 9).1 7).toInt ∧ ((σ4 9).1 7).toInt ≤ 2000 from (by have f0 := j9_7 hJ6 rfl; have f1 := b7; have f2 := b12; have f3 := j9_6 hJ6 rfl; have f4 := congrArg Int32.toInt (show ((σ4 9).1 6) = ((σ 9).1 6) from (hF5 9 6 rfl).1); have f5 := j9_6 hJ rfl; have f6 := j9_7 hJ rfl; have f7 := h0; have f8 := b11; have f9 := k20; have z0 : (0 : Int32).toInt = 0 := (by decide); omega))) (cwV 3 hts (gd_V q1596 q1598 q53 q134 q1599) rfl rfl rfl (by decide +kernel) ⟨Nat.le_of_ble_eq_true rfl, Nat.le_of_ble_eq_true rfl⟩) (pv9 hP hK hD hC hS (va_recv hK hP (ci := 9) (q0 := 0) rfl rfl)) rfl rfl hl.1 rfl (lv_room (Nat.le_of_ble_eq_true rfl)) dX9_next_24 ⟨Nat.le_of_ble_eq_true rfl, Nat.le_of_ble_eq_true rfl⟩) hS (fun q _ h => up9 hS q h) (up9 hS) (fun r21 σ22 tS H1 locs ht hvm hw23 hB hz1 hk1 hS => ?_)
    have hP : va_P D clz (WD9 cy g σ22) H1 := by rw [← ht]; exact hB
    clear hB hz1 hk1 hvm ht
    generalize H1 = H at hP hS ⊢
    have hw23E : σ4 = σ22 := (hw23.1).symm
    subst hw23E
    have b24 : (0 : Int) ≤ r21.toInt ∧ r21.toInt ≤ 1 := hw23.2.1
    have b25 : (r21.toInt = 0) ∨ (((σ4 9).1 7).toInt < ((σ4 9).1 6).toInt) := hw23.2.2.1
    refine lv_if_eq (tgt := 43) hx hb dX9_next_27 (by decide) (fun c26 => ?_) (fun c26 => ?_)
    ·
      have k27 := peq32 c26
      refine lv_aload_n hx hb dX9_next_43 rfl (lv_at hl 0 rfl) ?_
      refine lv_aload_n hx hb dX9_next_44 rfl (lv_at hl 0 rfl) ?_
      refine g9_7 (x := ((σ4 9).1 7)) hx hb hts hown hK hP (rfl) (hts _ q1367) dX9_next_45 ?_
      refine p9_9 hx hb hts hown hK hP hD hS (hts _ q1369) dX9_next_48 (fun H locs σ28 eσ28 hP hS => ?_)
      have hJ29 : J9 (σ28 9) := hJ6.I eσ28 (show JI9 9 ((σ4 9).1 7) from trivial)
      refine lv_aload_n hx hb dX9_next_51 rfl (lv_at hl 0 rfl) ?_
      refine lv_iconst (v := 0) hx hb dX9_next_52 (by decide) ?_
      refine p9_10 hx hb hts hown hK hP hD hS (hts _ q1370) dX9_next_53 (fun H locs σ30 eσ30 hP hS => ?_)
      have hJ31 : J9 (σ30 9) := hJ29.I eσ30 (show JI9 10 (0 : Int32) from trivial)
      refine lv_aload_n hx hb dX9_next_56 rfl (lv_at hl 0 rfl) ?_
      refine lv_lconst (v := 0) hx hb dX9_next_57 (by decide) ?_
      refine p9_11 hx hb hts hown hK hP hD hS (hts _ q1371) dX9_next_58 (fun H locs σ32 eσ32 hP hS => ?_)
      have hJ33 : J9 (σ32 9) := hJ31.L eσ32
      refine lv_aload_n hx hb dX9_next_61 rfl (lv_at hl 0 rfl) ?_
      refine g9_7 (x := ((σ4 9).1 7)) hx hb hts hown hK hP ((((sL_f eσ32) 9 7 rfl).1).trans ((((sI_f eσ30) 9 7 rfl).1).trans (((sI_f eσ28) 9 7 rfl).1))) (hts _ q1367) dX9_next_62 ?_
      refine lv_aload_n hx hb dX9_next_65 rfl (lv_at hl 0 rfl) ?_
      refine g9_6 (x := ((σ 9).1 6)) hx hb hts hown hK hP ((((sL_f eσ32) 9 6 rfl).1).trans ((((sI_f eσ30) 9 6 rfl).1).trans ((((sI_f eσ28) 9 6 rfl).1).trans ((hF5 9 6 rfl).1)))) (hts _ q1366) dX9_next_66 ?_
      refine lv_icmp_ne (tgt := 80) hx hb dX9_next_69 (by decide) (fun c34 => ?_) (fun c34 => ?_)
      ·
        have k35 := neq32 c34
        refine lv_aload_n hx hb dX9_next_80 rfl (lv_at hl 0 rfl) ?_
        refine lv_aload_n hx hb dX9_next_81 rfl (lv_at hl 0 rfl) ?_
        refine g9_7 (x := ((σ4 9).1 7)) hx hb hts hown hK hP ((((sL_f eσ32) 9 7 rfl).1).trans ((((sI_f eσ30) 9 7 rfl).1).trans (((sI_f eσ28) 9 7 rfl).1))) (hts _ q1367) dX9_next_82 ?_
        refine lv_bipush (v := 97) hx hb dX9_next_85 (by decide) ?_
        refine lv_bipush (v := 122) hx hb dX9_next_87 (by decide) ?_
        refine va_calli (va_runV (As := [.int ((σ4 9).1 7), .int 97, .int 122]) (rest := []) ⟨hx, hb, hml, hown, hts⟩ (m_X9_isByte l D cy g σ32 ((σ4 9).1 7) (97) (122) _ hJ33 (show (0 : Int) ≤ ((σ4 9).1 7).toInt ∧ ((σ4 9).1 7).toInt ≤ 2000 from (by have f0 := j9_7 hJ6 rfl; have f1 := b7; have f2 := b12; have f3 := b25; have f4 := k35; have f5 := j9_6 hJ6 rfl; have f6 := congrArg Int32.toInt (show ((σ4 9).1 6) = ((σ 9).1 6) from (hF5 9 6 rfl).1); have f7 := j9_6 hJ rfl; have f8 := j9_7 hJ rfl; have f9 := h0; have f10 := b11; have f11 := k20; have f12 := b24; have f13 := k27; have z0 : (0 : Int32).toInt = 0 := (by decide); omega))) (cwV 3 hts (gd_V q1596 q1598 q53 q134 q1599) rfl rfl rfl (by decide +kernel) ⟨Nat.le_of_ble_eq_true rfl, Nat.le_of_ble_eq_true rfl⟩) (pv9 hP hK hD hC hS (va_recv hK hP (ci := 9) (q0 := 0) rfl rfl)) rfl rfl hl.1 rfl (lv_room (Nat.le_of_ble_eq_true rfl)) dX9_next_89 ⟨Nat.le_of_ble_eq_true rfl, Nat.le_of_ble_eq_true rfl⟩) hS (fun q _ h => up9 hS q h) (up9 hS) (fun r36 σ37 tS H1 locs ht hvm hw38 hB hz1 hk1 hS => ?_)
        have hP : va_P D clz (WD9 cy g σ37) H1 := by rw [← ht]; exact hB
        clear hB hz1 hk1 hvm ht
        generalize H1 = H at hP hS ⊢
        have hw38E : σ32 = σ37 := (hw38.1).symm
        subst hw38E
        have b39 : (0 : Int) ≤ r36.toInt ∧ r36.toInt ≤ 1 := hw38.2.1
        have b40 : (r36.toInt = 0) ∨ (((σ4 9).1 7).toInt < ((σ32 9).1 6).toInt) := hw38.2.2.1
        refine lv_if_eq (tgt := 188) hx hb dX9_next_92 (by decide) (fun c41 => ?_) (fun c41 => ?_)
        ·
          have k42 := peq32 c41
          refine lv_aload_n hx hb dX9_next_188 rfl (lv_at hl 0 rfl) ?_
          refine lv_aload_n hx hb dX9_next_189 rfl (lv_at hl 0 rfl) ?_
          refine g9_7 (x := ((σ4 9).1 7)) hx hb hts hown hK hP ((((sL_f eσ32) 9 7 rfl).1).trans ((((sI_f eσ30) 9 7 rfl).1).trans (((sI_f eσ28) 9 7 rfl).1))) (hts _ q1367) dX9_next_190 ?_
          refine lv_bipush (v := 48) hx hb dX9_next_193 (by decide) ?_
          refine lv_bipush (v := 57) hx hb dX9_next_195 (by decide) ?_
          refine va_calli (va_runV (As := [.int ((σ4 9).1 7), .int 48, .int 57]) (rest := []) ⟨hx, hb, hml, hown, hts⟩ (m_X9_isByte l D cy g σ32 ((σ4 9).1 7) (48) (57) _ hJ33 (show (0 : Int) ≤ ((σ4 9).1 7).toInt ∧ ((σ4 9).1 7).toInt ≤ 2000 from (by have f0 := j9_7 hJ6 rfl; have f1 := b7; have f2 := b12; have f3 := b25; have f4 := k35; have f5 := b40; have f6 := j9_6 hJ6 rfl; have f7 := congrArg Int32.toInt (show ((σ4 9).1 6) = ((σ 9).1 6) from (hF5 9 6 rfl).1); have f8 := j9_6 hJ33 rfl; have f9 := congrArg Int32.toInt (show ((σ32 9).1 6) = ((σ 9).1 6) from (((sL_f eσ32) 9 6 rfl).1).trans ((((sI_f eσ30) 9 6 rfl).1).trans ((((sI_f eσ28) 9 6 rfl).1).trans ((hF5 9 6 rfl).1)))); have f10 := j9_6 hJ rfl; have f11 := j9_7 hJ rfl; have f12 := h0; have f13 := b11; have f14 := k20; have f15 := b24; have f16 := k27; have f17 := b39; have f18 := k42; have z0 : (0 : Int32).toInt = 0 := (by decide); omega))) (cwV 3 hts (gd_V q1596 q1598 q53 q134 q1599) rfl rfl rfl (by decide +kernel) ⟨Nat.le_of_ble_eq_true rfl, Nat.le_of_ble_eq_true rfl⟩) (pv9 hP hK hD hC hS (va_recv hK hP (ci := 9) (q0 := 0) rfl rfl)) rfl rfl hl.1 rfl (lv_room (Nat.le_of_ble_eq_true rfl)) dX9_next_197 ⟨Nat.le_of_ble_eq_true rfl, Nat.le_of_ble_eq_true rfl⟩) hS (fun q _ h => up9 hS q h) (up9 hS) (fun r43 σ44 tS H1 locs ht hvm hw45 hB hz1 hk1 hS => ?_)
          have hP : va_P D clz (WD9 cy g σ44) H1 := by rw [← ht]; exact hB
          clear hB hz1 hk1 hvm ht
          generalize H1 = H at hP hS ⊢
          have hw45E : σ32 = σ44 := (hw45.1).symm
          subst hw45E
          have b46 : (0 : Int) ≤ r43.toInt ∧ r43.toInt ≤ 1 := hw45.2.1
          have b47 : (r43.toInt = 0) ∨ (((σ4 9).1 7).toInt < ((σ32 9).1 6).toInt) := hw45.2.2.1
          refine lv_if_eq (tgt := 274) hx hb dX9_next_200 (by decide) (fun c48 => ?_) (fun c48 => ?_)
          ·
            have k49 := peq32 c48
            refine lv_aload_n hx hb dX9_next_274 rfl (lv_at hl 0 rfl) ?_
            refine lv_aload_n hx hb dX9_next_275 rfl (lv_at hl 0 rfl) ?_
            refine g9_5 hx hb hts hown hK hP (hts _ q1365) dX9_next_276 ?_
            refine lv_aload_n hx hb dX9_next_279 rfl (lv_at hl 0 rfl) ?_
            refine g9_7 (x := ((σ4 9).1 7)) hx hb hts hown hK hP ((((sL_f eσ32) 9 7 rfl).1).trans ((((sI_f eσ30) 9 7 rfl).1).trans (((sI_f eσ28) 9 7 rfl).1))) (hts _ q1367) dX9_next_280 ?_
            obtain ⟨x50, ex50⟩ : ∃ z, (σ 9).2.2.1 5 ((σ4 9).1 7).toInt.toNat = z := ⟨_, rfl⟩
            refine l9_5 (x := x50) hx hb hK hP (vpo (by have f0 := j9_7 hJ6 rfl; have f1 := b7; have f2 := b12; have f3 := b25; have f4 := k35; have f5 := b40; have f6 := b47; have f7 := j9_6 hJ33 rfl; have f8 := congrArg Int32.toInt (show ((σ32 9).1 6) = ((σ 9).1 6) from (((sL_f eσ32) 9 6 rfl).1).trans ((((sI_f eσ30) 9 6 rfl).1).trans ((((sI_f eσ28) 9 6 rfl).1).trans ((hF5 9 6 rfl).1)))); have f9 := j9_6 hJ rfl; have f10 := j9_6 hJ6 rfl; have f11 := congrArg Int32.toInt (show ((σ4 9).1 6) = ((σ 9).1 6) from (hF5 9 6 rfl).1); have f12 := j9_7 hJ rfl; have f13 := h0; have f14 := b11; have f15 := k20; have f16 := b24; have f17 := k27; have f18 := b39; have f19 := k42; have f20 := b46; have f21 := k49; have z0 : (0 : Int32).toInt = 0 := (by decide); omega)) ((congrFun ((((sL_f eσ32) 9 5 rfl).2.2.1).trans ((((sI_f eσ30) 9 5 rfl).2.2.1).trans ((((sI_f eσ28) 9 5 rfl).2.2.1).trans ((hF5 9 5 rfl).2.2.1)))) _).trans ex50) dX9_next_283 ?_
            refine lv_bipush (v := 59) hx hb dX9_next_284 (by decide) ?_
            refine cut9 (D := D) (cy := cy) (g := g) (A := A9 cy g s.heap.size) (H0 := s.heap) 2 294 (fun x : LZ => [(0, .ref (g 60))]) (fun x : LZ => [.int (x.2.1 0), .ref (g 60)]) (fun x : LZ => (x.1 = σ32) ∧ ((3 : Int) ≤ (x.2.1 0).toInt ∧ (x.2.1 0).toInt ≤ 4) ∧ True) ?_ ?_
            ·
              intro y53 hI52 H locs ls hP hS hl
              rw [show y53.1 = σ32 from hI52.1] at hP
              have b54 : (3 : Int) ≤ (y53.2.1 0).toInt ∧ (y53.2.1 0).toInt ≤ 4 := hI52.2.1
              have hl : lv_has ls 2 [(0, .ref (g 60))] := hl
              refine W.eq (g2 := F0 m 294 ls [.int (y53.2.1 0), .ref (g 60)]) rfl ?_
              refine p9_8 hx hb hts hown hK hP hD hS (hts _ q1368) dX9_next_294 (fun H locs σ55 eσ55 hP hS => ?_)
              have hJ56 : J9 (σ55 9) := hJ33.I eσ55 (show JI9 8 (y53.2.1 0) from trivial)
              refine lv_aload_n hx hb dX9_next_297 rfl (lv_at hl 0 rfl) ?_
              refine lv_dup hx hb dX9_next_298 rfl ?_
              refine g9_7 (x := ((σ4 9).1 7)) hx hb hts hown hK hP ((((sI_f eσ55) 9 7 rfl).1).trans ((((sL_f eσ32) 9 7 rfl).1).trans ((((sI_f eσ30) 9 7 rfl).1).trans (((sI_f eσ28) 9 7 rfl).1)))) (hts _ q1367) dX9_next_299 ?_
              refine lv_iconst (v := 1) hx hb dX9_next_302 (by decide) ?_
              refine lv_iadd hx hb dX9_next_303 ?_
              refine lv_topi (fun x57 ex57 => ?_)
              have t58 := addO ex57 (by have f0 := j9_7 hJ6 rfl; have f1 := b7; have f2 := b12; have f3 := b25; have f4 := k35; have f5 := b40; have f6 := b47; have f7 := j9_6 hJ33 rfl; have f8 := congrArg Int32.toInt (show ((σ32 9).1 6) = ((σ 9).1 6) from (((sL_f eσ32) 9 6 rfl).1).trans ((((sI_f eσ30) 9 6 rfl).1).trans ((((sI_f eσ28) 9 6 rfl).1).trans ((hF5 9 6 rfl).1)))); have f9 := j9_6 hJ rfl; have f10 := j9_6 hJ6 rfl; have f11 := congrArg Int32.toInt (show ((σ4 9).1 6) = ((σ 9).1 6) from (hF5 9 6 rfl).1); have f12 := j9_7 hJ rfl; have f13 := h0; have f14 := b11; have f15 := k20; have f16 := b24; have f17 := k27; have f18 := b39; have f19 := k42; have f20 := b46; have f21 := k49; have z0 : (0 : Int32).toInt = 0 := (by decide); have z1 : (1 : Int32).toInt = 1 := (by decide); omega)
              refine p9_7 hx hb hts hown hK hP hD hS (hts _ q1367) dX9_next_304 (fun H locs σ59 eσ59 hP hS => ?_)
              have hJ60 : J9 (σ59 9) := hJ56.I eσ59 (show JI9 7 x57 from (by have f0 := t58; have f1 := j9_7 hJ6 rfl; have f2 := b7; have f3 := b12; have f4 := b25; have f5 := k35; have f6 := b40; have f7 := b47; have f8 := j9_6 hJ33 rfl; have f9 := congrArg Int32.toInt (show ((σ32 9).1 6) = ((σ 9).1 6) from (((sL_f eσ32) 9 6 rfl).1).trans ((((sI_f eσ30) 9 6 rfl).1).trans ((((sI_f eσ28) 9 6 rfl).1).trans ((hF5 9 6 rfl).1)))); have f10 := j9_6 hJ rfl; have f11 := j9_6 hJ6 rfl; have f12 := congrArg Int32.toInt (show ((σ4 9).1 6) = ((σ 9).1 6) from (hF5 9 6 rfl).1); have f13 := j9_7 hJ rfl; have f14 := h0; have f15 := b11; have f16 := k20; have f17 := b24; have f18 := k27; have f19 := b39; have f20 := k42; have f21 := b46; have f22 := k49; have g3 := rg32 x57; have z0 : (0 : Int32).toInt = 0 := (by decide); have z1 : (1 : Int32).toInt = 1 := (by decide); exact ⟨by omega, by omega⟩))
              exact W.vret hx hb hr (fun tS ht hW => ⟨⟨σ59, rfl, ⟨Fr.tr (Fr.tr (Fr.tr (Fr.tr (Fr.tr (Fr.tr (Fr.rf) hF5 (fL_sub rfl)) (sI_f eσ28) (fN_L rfl)) (sI_f eσ30) (fN_L rfl)) (sL_f eσ32) (fN_L rfl)) (sI_f eσ55) (fN_L rfl)) (sI_f eσ59) (fN_L rfl), hJ60, (show ((σ 9).1 7).toInt ≤ ((σ59 9).1 7).toInt ∧ ((σ59 9).1 7).toInt ≤ ((σ59 9).1 6).toInt ∧ ((σ59 9).1 6).toInt = ((σ 9).1 6).toInt from (by have f0 := j9_7 hJ60 rfl; have f1 := congrArg Int32.toInt (show ((σ59 9).1 7) = x57 from sI_s eσ59); have f2 := j9_6 hJ rfl; have f3 := j9_7 hJ rfl; have f4 := j9_6 hJ60 rfl; have f5 := congrArg Int32.toInt (show ((σ59 9).1 6) = ((σ 9).1 6) from (((sI_f eσ59) 9 6 rfl).1).trans ((((sI_f eσ55) 9 6 rfl).1).trans ((((sL_f eσ32) 9 6 rfl).1).trans ((((sI_f eσ30) 9 6 rfl).1).trans ((((sI_f eσ28) 9 6 rfl).1).trans ((hF5 9 6 rfl).1)))))); have f6 := h0; have f7 := b7; have f8 := k35; have f9 := j9_6 hJ6 rfl; have f10 := congrArg Int32.toInt (show ((σ4 9).1 6) = ((σ 9).1 6) from (hF5 9 6 rfl).1); have f11 := j9_7 hJ6 rfl; have f12 := b12; have f13 := b25; have f14 := b40; have f15 := b47; have f16 := t58; have f17 := j9_6 hJ33 rfl; have f18 := congrArg Int32.toInt (show ((σ32 9).1 6) = ((σ 9).1 6) from (((sL_f eσ32) 9 6 rfl).1).trans ((((sI_f eσ30) 9 6 rfl).1).trans ((((sI_f eσ28) 9 6 rfl).1).trans ((hF5 9 6 rfl).1)))); have f19 := b11; have f20 := k20; have f21 := b24; have f22 := k27; have f23 := b39; have f24 := k42; have f25 := b46; have f26 := k49; have z0 : (0 : Int32).toInt = 0 := (by decide); have z1 : (1 : Int32).toInt = 1 := (by decide); omega)), (show ph ((σ 9).1 7) ((σ 9).1 8) ≤ ph ((σ59 9).1 7) ((σ59 9).1 8) ∧ ((σ 9).1 7).toInt ≤ ph ((σ59 9).1 7) ((σ59 9).1 8) from (by have f0 := j9_7 hJ60 rfl; have f1 := congrArg Int32.toInt (show ((σ59 9).1 7) = x57 from sI_s eσ59); have f2 := congrArg Int32.toInt (show ((σ59 9).1 8) = (y53.2.1 0) from (((sI_f eσ59) 9 8 rfl).1).trans (sI_s eσ55)); have f3 := j9_7 hJ rfl; have f4 := h0; have f5 := b7; have f6 := j9_6 hJ6 rfl; have f7 := congrArg Int32.toInt (show ((σ4 9).1 6) = ((σ 9).1 6) from (hF5 9 6 rfl).1); have f8 := j9_6 hJ rfl; have f9 := j9_7 hJ6 rfl; have f10 := b12; have f11 := b25; have f12 := k35; have f13 := b40; have f14 := b47; have f15 := b54; have f16 := t58; have f17 := j9_6 hJ33 rfl; have f18 := congrArg Int32.toInt (show ((σ32 9).1 6) = ((σ 9).1 6) from (((sL_f eσ32) 9 6 rfl).1).trans ((((sI_f eσ30) 9 6 rfl).1).trans ((((sI_f eσ28) 9 6 rfl).1).trans ((hF5 9 6 rfl).1)))); have f19 := b11; have f20 := k20; have f21 := b24; have f22 := k27; have f23 := b39; have f24 := k42; have f25 := b46; have f26 := k49; have z0 : (0 : Int32).toInt = 0 := (by decide); have z1 : (1 : Int32).toInt = 1 := (by decide); unfold ph; split <;> split <;> omega)), trivial⟩, (show va_P D clz (WD9 cy g σ59) tS.heap by rw [ht]; exact hP)⟩, hS.F ht⟩) hS.2.2 dX9_next_307
            ·
              intro nj51
              refine lv_icmp_ne (tgt := 293) hx hb dX9_next_286 (by decide) (fun c61 => ?_) (fun c61 => ?_)
              ·
                have k62 := neq32 c61
                refine lv_iconst (v := 4) hx hb dX9_next_293 (by decide) ?_
                exact nj51 (σ32, lf [4], lg []) ⟨rfl, (show (3 : Int) ≤ (4 : Int32).toInt ∧ (4 : Int32).toInt ≤ 4 from (by have z4 : (4 : Int32).toInt = 4 := (by decide); omega)), trivial⟩ _ _ _ hP hS (lv_sub hl [0] rfl)
              ·
                have k63 := peq32 c61
                refine lv_iconst (v := 3) hx hb dX9_next_289 (by decide) ?_
                refine lv_goto (tgt := 294) hx hb dX9_next_290 (by decide) ?_
                exact nj51 (σ32, lf [3], lg []) ⟨rfl, (show (3 : Int) ≤ (3 : Int32).toInt ∧ (3 : Int32).toInt ≤ 4 from (by have z3 : (3 : Int32).toInt = 3 := (by decide); omega)), trivial⟩ _ _ _ hP hS (lv_sub hl [0] rfl)
          ·
            have k64 := neq32 c48
            refine lv_aload_n hx hb dX9_next_203 rfl (lv_at hl 0 rfl) ?_
            refine lv_iconst (v := 2) hx hb dX9_next_204 (by decide) ?_
            refine p9_8 hx hb hts hown hK hP hD hS (hts _ q1368) dX9_next_205 (fun H locs σ65 eσ65 hP hS => ?_)
            have hJ66 : J9 (σ65 9) := hJ33.I eσ65 (show JI9 8 (2 : Int32) from trivial)
            refine loop9 2 208 (fun x : LZ => [(0, .ref (g 60))]) (fun x : LZ => (Fr (fL [7, 10]) σ65 x.1) ∧ (J9 (x.1 9)) ∧ (((σ65 9).1 7).toInt ≤ ((x.1 9).1 7).toInt ∧ ((x.1 9).1 7).toInt ≤ ((x.1 9).1 6).toInt ∧ ((x.1 9).1 6).toInt = ((σ65 9).1 6).toInt) ∧ (((x.1 9).1 8).toInt = 2) ∧ True) (fun x : LZ => (((x.1 9).1 6).toInt - ((x.1 9).1 7).toInt).toNat) ?_ (σ65, lf [], lg []) ⟨Fr.rf, hJ66, (show ((σ65 9).1 7).toInt ≤ ((σ65 9).1 7).toInt ∧ ((σ65 9).1 7).toInt ≤ ((σ65 9).1 6).toInt ∧ ((σ65 9).1 6).toInt = ((σ65 9).1 6).toInt from (by have f0 := j9_7 hJ66 rfl; have f1 := congrArg Int32.toInt (show ((σ65 9).1 7) = ((σ4 9).1 7) from (((sI_f eσ65) 9 7 rfl).1).trans ((((sL_f eσ32) 9 7 rfl).1).trans ((((sI_f eσ30) 9 7 rfl).1).trans (((sI_f eσ28) 9 7 rfl).1)))); have f2 := j9_6 hJ66 rfl; have f3 := congrArg Int32.toInt (show ((σ65 9).1 6) = ((σ 9).1 6) from (((sI_f eσ65) 9 6 rfl).1).trans ((((sL_f eσ32) 9 6 rfl).1).trans ((((sI_f eσ30) 9 6 rfl).1).trans ((((sI_f eσ28) 9 6 rfl).1).trans ((hF5 9 6 rfl).1))))); have f4 := j9_6 hJ rfl; have f5 := j9_7 hJ6 rfl; have f6 := h0; have f7 := b7; have f8 := b12; have f9 := b25; have f10 := k35; have f11 := b40; have f12 := b47; have f13 := j9_6 hJ6 rfl; have f14 := congrArg Int32.toInt (show ((σ4 9).1 6) = ((σ 9).1 6) from (hF5 9 6 rfl).1); have f15 := j9_6 hJ33 rfl; have f16 := congrArg Int32.toInt (show ((σ32 9).1 6) = ((σ 9).1 6) from (((sL_f eσ32) 9 6 rfl).1).trans ((((sI_f eσ30) 9 6 rfl).1).trans ((((sI_f eσ28) 9 6 rfl).1).trans ((hF5 9 6 rfl).1)))); have f17 := j9_7 hJ rfl; have f18 := b11; have f19 := k20; have f20 := b24; have f21 := k27; have f22 := b39; have f23 := k42; have f24 := b46; have f25 := k64; have z0 : (0 : Int32).toInt = 0 := (by decide); omega)), (show ((σ65 9).1 8).toInt = 2 from (by have f0 := congrArg Int32.toInt (show ((σ65 9).1 8) = (2 : Int32) from sI_s eσ65); have z2 : (2 : Int32).toInt = 2 := (by decide); omega)), trivial⟩ _ _ _ hP hS (lv_sub hl [0] rfl)
            intro y69 hI68 nl67 H locs ls hP hS hl
            obtain ⟨σ70, eσ70⟩ : ∃ z, z = y69.1 := ⟨_, rfl⟩
            rw [← eσ70] at hP hI68
            have hF71 : Fr (fL [7, 10]) σ65 σ70 := hI68.1
            have hJ72 : J9 (σ70 9) := hI68.2.1
            have b73 : ((σ65 9).1 7).toInt ≤ ((σ70 9).1 7).toInt ∧ ((σ70 9).1 7).toInt ≤ ((σ70 9).1 6).toInt ∧ ((σ70 9).1 6).toInt = ((σ65 9).1 6).toInt := hI68.2.2.1
            have b74 : ((σ70 9).1 8).toInt = 2 := hI68.2.2.2.1
            have hl : lv_has ls 2 [(0, .ref (g 60))] := hl
            refine lv_aload_n hx hb dX9_next_208 rfl (lv_at hl 0 rfl) ?_
            refine lv_aload_n hx hb dX9_next_209 rfl (lv_at hl 0 rfl) ?_
            refine g9_7 (x := ((σ70 9).1 7)) hx hb hts hown hK hP (rfl) (hts _ q1367) dX9_next_210 ?_
            refine lv_bipush (v := 48) hx hb dX9_next_213 (by decide) ?_
            refine lv_bipush (v := 57) hx hb dX9_next_215 (by decide) ?_
            refine va_calli (va_runV (As := [.int ((σ70 9).1 7), .int 48, .int 57]) (rest := []) ⟨hx, hb, hml, hown, hts⟩ (m_X9_isByte l D cy g σ70 ((σ70 9).1 7) (48) (57) _ hJ72 (show (0 : Int) ≤ ((σ70 9).1 7).toInt ∧ ((σ70 9).1 7).toInt ≤ 2000 from (by have f0 := j9_7 hJ72 rfl; have f1 := b73; have f2 := j9_7 hJ66 rfl; have f3 := congrArg Int32.toInt (show ((σ65 9).1 7) = ((σ4 9).1 7) from (((sI_f eσ65) 9 7 rfl).1).trans ((((sL_f eσ32) 9 7 rfl).1).trans ((((sI_f eσ30) 9 7 rfl).1).trans (((sI_f eσ28) 9 7 rfl).1)))); have f4 := j9_6 hJ66 rfl; have f5 := congrArg Int32.toInt (show ((σ65 9).1 6) = ((σ 9).1 6) from (((sI_f eσ65) 9 6 rfl).1).trans ((((sL_f eσ32) 9 6 rfl).1).trans ((((sI_f eσ30) 9 6 rfl).1).trans ((((sI_f eσ28) 9 6 rfl).1).trans ((hF5 9 6 rfl).1))))); have f6 := j9_6 hJ72 rfl; have f7 := congrArg Int32.toInt (show ((σ70 9).1 6) = ((σ 9).1 6) from ((hF71 9 6 rfl).1).trans ((((sI_f eσ65) 9 6 rfl).1).trans ((((sL_f eσ32) 9 6 rfl).1).trans ((((sI_f eσ30) 9 6 rfl).1).trans ((((sI_f eσ28) 9 6 rfl).1).trans ((hF5 9 6 rfl).1)))))); have f8 := j9_6 hJ rfl; have f9 := j9_7 hJ6 rfl; have f10 := h0; have f11 := b7; have f12 := b12; have f13 := b25; have f14 := k35; have f15 := b40; have f16 := b47; have f17 := j9_6 hJ6 rfl; have f18 := congrArg Int32.toInt (show ((σ4 9).1 6) = ((σ 9).1 6) from (hF5 9 6 rfl).1); have f19 := j9_6 hJ33 rfl; have f20 := congrArg Int32.toInt (show ((σ32 9).1 6) = ((σ 9).1 6) from (((sL_f eσ32) 9 6 rfl).1).trans ((((sI_f eσ30) 9 6 rfl).1).trans ((((sI_f eσ28) 9 6 rfl).1).trans ((hF5 9 6 rfl).1)))); have f21 := j9_7 hJ rfl; have f22 := b11; have f23 := k20; have f24 := b24; have f25 := k27; have f26 := b39; have f27 := k42; have f28 := b46; have f29 := k64; have z0 : (0 : Int32).toInt = 0 := (by decide); omega))) (cwV 3 hts (gd_V q1596 q1598 q53 q134 q1599) rfl rfl rfl (by decide +kernel) ⟨Nat.le_of_ble_eq_true rfl, Nat.le_of_ble_eq_true rfl⟩) (pv9 hP hK hD hC hS (va_recv hK hP (ci := 9) (q0 := 0) rfl rfl)) rfl rfl hl.1 rfl (lv_room (Nat.le_of_ble_eq_true rfl)) dX9_next_217 ⟨Nat.le_of_ble_eq_true rfl, Nat.le_of_ble_eq_true rfl⟩) hS (fun q _ h => up9 hS q h) (up9 hS) (fun r75 σ76 tS H1 locs ht hvm hw77 hB hz1 hk1 hS => ?_)
            have hP : va_P D clz (WD9 cy g σ76) H1 := by rw [← ht]; exact hB
            clear hB hz1 hk1 hvm ht
            generalize H1 = H at hP hS ⊢
            have hw77E : σ70 = σ76 := (hw77.1).symm
            subst hw77E
            have b78 : (0 : Int) ≤ r75.toInt ∧ r75.toInt ≤ 1 := hw77.2.1
            have b79 : (r75.toInt = 0) ∨ (((σ70 9).1 7).toInt < ((σ70 9).1 6).toInt) := hw77.2.2.1
            refine lv_if_eq (tgt := 307) hx hb dX9_next_220 (by decide) (fun c80 => ?_) (fun c80 => ?_)
            ·
              have k81 := peq32 c80
              exact W.vret hx hb hr (fun tS ht hW => ⟨⟨σ70, rfl, ⟨Fr.tr (Fr.tr (Fr.tr (Fr.tr (Fr.tr (Fr.tr (Fr.rf) hF5 (fL_sub rfl)) (sI_f eσ28) (fN_L rfl)) (sI_f eσ30) (fN_L rfl)) (sL_f eσ32) (fN_L rfl)) (sI_f eσ65) (fN_L rfl)) hF71 (fL_sub rfl), hJ72, (show ((σ 9).1 7).toInt ≤ ((σ70 9).1 7).toInt ∧ ((σ70 9).1 7).toInt ≤ ((σ70 9).1 6).toInt ∧ ((σ70 9).1 6).toInt = ((σ 9).1 6).toInt from (by have f0 := j9_6 hJ rfl; have f1 := j9_7 hJ72 rfl; have f2 := j9_7 hJ rfl; have f3 := j9_6 hJ72 rfl; have f4 := congrArg Int32.toInt (show ((σ70 9).1 6) = ((σ 9).1 6) from ((hF71 9 6 rfl).1).trans ((((sI_f eσ65) 9 6 rfl).1).trans ((((sL_f eσ32) 9 6 rfl).1).trans ((((sI_f eσ30) 9 6 rfl).1).trans ((((sI_f eσ28) 9 6 rfl).1).trans ((hF5 9 6 rfl).1)))))); have f5 := h0; have f6 := b7; have f7 := k35; have f8 := b73; have f9 := b79; have f10 := j9_6 hJ6 rfl; have f11 := congrArg Int32.toInt (show ((σ4 9).1 6) = ((σ 9).1 6) from (hF5 9 6 rfl).1); have f12 := j9_7 hJ66 rfl; have f13 := congrArg Int32.toInt (show ((σ65 9).1 7) = ((σ4 9).1 7) from (((sI_f eσ65) 9 7 rfl).1).trans ((((sL_f eσ32) 9 7 rfl).1).trans ((((sI_f eσ30) 9 7 rfl).1).trans (((sI_f eσ28) 9 7 rfl).1)))); have f14 := j9_7 hJ6 rfl; have f15 := j9_6 hJ66 rfl; have f16 := congrArg Int32.toInt (show ((σ65 9).1 6) = ((σ 9).1 6) from (((sI_f eσ65) 9 6 rfl).1).trans ((((sL_f eσ32) 9 6 rfl).1).trans ((((sI_f eσ30) 9 6 rfl).1).trans ((((sI_f eσ28) 9 6 rfl).1).trans ((hF5 9 6 rfl).1))))); have f17 := b12; have f18 := b25; have f19 := b40; have f20 := b47; have f21 := b78; have f22 := k81; have f23 := j9_6 hJ33 rfl; have f24 := congrArg Int32.toInt (show ((σ32 9).1 6) = ((σ 9).1 6) from (((sL_f eσ32) 9 6 rfl).1).trans ((((sI_f eσ30) 9 6 rfl).1).trans ((((sI_f eσ28) 9 6 rfl).1).trans ((hF5 9 6 rfl).1)))); have f25 := b11; have f26 := k20; have f27 := b24; have f28 := k27; have f29 := b39; have f30 := k42; have f31 := b46; have f32 := k64; have z0 : (0 : Int32).toInt = 0 := (by decide); omega)), (show ph ((σ 9).1 7) ((σ 9).1 8) ≤ ph ((σ70 9).1 7) ((σ70 9).1 8) ∧ ((σ 9).1 7).toInt ≤ ph ((σ70 9).1 7) ((σ70 9).1 8) from (by have f0 := congrArg Int32.toInt (show ((σ70 9).1 8) = (2 : Int32) from ((hF71 9 8 rfl).1).trans (sI_s eσ65)); have f1 := j9_7 hJ72 rfl; have f2 := j9_7 hJ rfl; have f3 := h0; have f4 := b7; have f5 := b73; have f6 := b74; have f7 := b79; have f8 := j9_6 hJ6 rfl; have f9 := congrArg Int32.toInt (show ((σ4 9).1 6) = ((σ 9).1 6) from (hF5 9 6 rfl).1); have f10 := j9_7 hJ66 rfl; have f11 := congrArg Int32.toInt (show ((σ65 9).1 7) = ((σ4 9).1 7) from (((sI_f eσ65) 9 7 rfl).1).trans ((((sL_f eσ32) 9 7 rfl).1).trans ((((sI_f eσ30) 9 7 rfl).1).trans (((sI_f eσ28) 9 7 rfl).1)))); have f12 := j9_6 hJ rfl; have f13 := j9_7 hJ6 rfl; have f14 := j9_6 hJ66 rfl; have f15 := congrArg Int32.toInt (show ((σ65 9).1 6) = ((σ 9).1 6) from (((sI_f eσ65) 9 6 rfl).1).trans ((((sL_f eσ32) 9 6 rfl).1).trans ((((sI_f eσ30) 9 6 rfl).1).trans ((((sI_f eσ28) 9 6 rfl).1).trans ((hF5 9 6 rfl).1))))); have f16 := j9_6 hJ72 rfl; have f17 := congrArg Int32.toInt (show ((σ70 9).1 6) = ((σ 9).1 6) from ((hF71 9 6 rfl).1).trans ((((sI_f eσ65) 9 6 rfl).1).trans ((((sL_f eσ32) 9 6 rfl).1).trans ((((sI_f eσ30) 9 6 rfl).1).trans ((((sI_f eσ28) 9 6 rfl).1).trans ((hF5 9 6 rfl).1)))))); have f18 := b12; have f19 := b25; have f20 := k35; have f21 := b40; have f22 := b47; have f23 := b78; have f24 := k81; have f25 := j9_6 hJ33 rfl; have f26 := congrArg Int32.toInt (show ((σ32 9).1 6) = ((σ 9).1 6) from (((sL_f eσ32) 9 6 rfl).1).trans ((((sI_f eσ30) 9 6 rfl).1).trans ((((sI_f eσ28) 9 6 rfl).1).trans ((hF5 9 6 rfl).1)))); have f27 := b11; have f28 := k20; have f29 := b24; have f30 := k27; have f31 := b39; have f32 := k42; have f33 := b46; have f34 := k64; have z0 : (0 : Int32).toInt = 0 := (by decide); have z2 : (2 : Int32).toInt = 2 := (by decide); unfold ph; split <;> split <;> omega)), trivial⟩, (show va_P D clz (WD9 cy g σ70) tS.heap by rw [ht]; exact hP)⟩, hS.F ht⟩) hS.2.2 dX9_next_307
            ·
              have k82 := neq32 c80
              refine lv_aload_n hx hb dX9_next_223 rfl (lv_at hl 0 rfl) ?_
              refine lv_aload_n hx hb dX9_next_224 rfl (lv_at hl 0 rfl) ?_
              refine g9_10 (x := ((σ70 9).1 10)) hx hb hts hown hK hP (rfl) (hts _ q1370) dX9_next_225 ?_
              refine lv_ldc (v := 100000) hx hb hown (hts _ q1603) dX9_next_228 ?_
              refine cut9 (D := D) (cy := cy) (g := g) (A := A9 cy g s.heap.size) (H0 := s.heap) 2 258 (fun x : LZ => [(0, .ref (g 60))]) (fun x : LZ => [.int (x.2.1 0), .ref (g 60)]) (fun x : LZ => (x.1 = σ70) ∧ True) ?_ ?_
              ·
                intro y85 hI84 H locs ls hP hS hl
                rw [show y85.1 = σ70 from hI84.1] at hP
                have hl : lv_has ls 2 [(0, .ref (g 60))] := hl
                refine W.eq (g2 := F0 m 258 ls [.int (y85.2.1 0), .ref (g 60)]) rfl ?_
                refine p9_10 hx hb hts hown hK hP hD hS (hts _ q1370) dX9_next_258 (fun H locs σ86 eσ86 hP hS => ?_)
                have hJ87 : J9 (σ86 9) := hJ72.I eσ86 (show JI9 10 (y85.2.1 0) from trivial)
                refine lv_aload_n hx hb dX9_next_261 rfl (lv_at hl 0 rfl) ?_
                refine lv_dup hx hb dX9_next_262 rfl ?_
                refine g9_7 (x := ((σ70 9).1 7)) hx hb hts hown hK hP (((sI_f eσ86) 9 7 rfl).1) (hts _ q1367) dX9_next_263 ?_
                refine lv_iconst (v := 1) hx hb dX9_next_266 (by decide) ?_
                refine lv_iadd hx hb dX9_next_267 ?_
                refine lv_topi (fun x88 ex88 => ?_)
                have t89 := addO ex88 (by have f0 := j9_7 hJ72 rfl; have f1 := b73; have f2 := b79; have f3 := j9_7 hJ66 rfl; have f4 := congrArg Int32.toInt (show ((σ65 9).1 7) = ((σ4 9).1 7) from (((sI_f eσ65) 9 7 rfl).1).trans ((((sL_f eσ32) 9 7 rfl).1).trans ((((sI_f eσ30) 9 7 rfl).1).trans (((sI_f eσ28) 9 7 rfl).1)))); have f5 := j9_6 hJ66 rfl; have f6 := congrArg Int32.toInt (show ((σ65 9).1 6) = ((σ 9).1 6) from (((sI_f eσ65) 9 6 rfl).1).trans ((((sL_f eσ32) 9 6 rfl).1).trans ((((sI_f eσ30) 9 6 rfl).1).trans ((((sI_f eσ28) 9 6 rfl).1).trans ((hF5 9 6 rfl).1))))); have f7 := j9_6 hJ72 rfl; have f8 := congrArg Int32.toInt (show ((σ70 9).1 6) = ((σ 9).1 6) from ((hF71 9 6 rfl).1).trans ((((sI_f eσ65) 9 6 rfl).1).trans ((((sL_f eσ32) 9 6 rfl).1).trans ((((sI_f eσ30) 9 6 rfl).1).trans ((((sI_f eσ28) 9 6 rfl).1).trans ((hF5 9 6 rfl).1)))))); have f9 := b78; have f10 := k82; have f11 := j9_6 hJ rfl; have f12 := j9_7 hJ6 rfl; have f13 := h0; have f14 := b7; have f15 := b12; have f16 := b25; have f17 := k35; have f18 := b40; have f19 := b47; have f20 := j9_6 hJ6 rfl; have f21 := congrArg Int32.toInt (show ((σ4 9).1 6) = ((σ 9).1 6) from (hF5 9 6 rfl).1); have f22 := j9_6 hJ33 rfl; have f23 := congrArg Int32.toInt (show ((σ32 9).1 6) = ((σ 9).1 6) from (((sL_f eσ32) 9 6 rfl).1).trans ((((sI_f eσ30) 9 6 rfl).1).trans ((((sI_f eσ28) 9 6 rfl).1).trans ((hF5 9 6 rfl).1)))); have f24 := j9_7 hJ rfl; have f25 := b11; have f26 := k20; have f27 := b24; have f28 := k27; have f29 := b39; have f30 := k42; have f31 := b46; have f32 := k64; have z0 : (0 : Int32).toInt = 0 := (by decide); have z1 : (1 : Int32).toInt = 1 := (by decide); omega)
                refine p9_7 hx hb hts hown hK hP hD hS (hts _ q1367) dX9_next_268 (fun H locs σ90 eσ90 hP hS => ?_)
                have hJ91 : J9 (σ90 9) := hJ87.I eσ90 (show JI9 7 x88 from (by have f0 := t89; have f1 := j9_7 hJ72 rfl; have f2 := b73; have f3 := b79; have f4 := j9_7 hJ66 rfl; have f5 := congrArg Int32.toInt (show ((σ65 9).1 7) = ((σ4 9).1 7) from (((sI_f eσ65) 9 7 rfl).1).trans ((((sL_f eσ32) 9 7 rfl).1).trans ((((sI_f eσ30) 9 7 rfl).1).trans (((sI_f eσ28) 9 7 rfl).1)))); have f6 := j9_6 hJ66 rfl; have f7 := congrArg Int32.toInt (show ((σ65 9).1 6) = ((σ 9).1 6) from (((sI_f eσ65) 9 6 rfl).1).trans ((((sL_f eσ32) 9 6 rfl).1).trans ((((sI_f eσ30) 9 6 rfl).1).trans ((((sI_f eσ28) 9 6 rfl).1).trans ((hF5 9 6 rfl).1))))); have f8 := j9_6 hJ72 rfl; have f9 := congrArg Int32.toInt (show ((σ70 9).1 6) = ((σ 9).1 6) from ((hF71 9 6 rfl).1).trans ((((sI_f eσ65) 9 6 rfl).1).trans ((((sL_f eσ32) 9 6 rfl).1).trans ((((sI_f eσ30) 9 6 rfl).1).trans ((((sI_f eσ28) 9 6 rfl).1).trans ((hF5 9 6 rfl).1)))))); have f10 := b78; have f11 := k82; have f12 := j9_6 hJ rfl; have f13 := j9_7 hJ6 rfl; have f14 := h0; have f15 := b7; have f16 := b12; have f17 := b25; have f18 := k35; have f19 := b40; have f20 := b47; have f21 := j9_6 hJ6 rfl; have f22 := congrArg Int32.toInt (show ((σ4 9).1 6) = ((σ 9).1 6) from (hF5 9 6 rfl).1); have f23 := j9_6 hJ33 rfl; have f24 := congrArg Int32.toInt (show ((σ32 9).1 6) = ((σ 9).1 6) from (((sL_f eσ32) 9 6 rfl).1).trans ((((sI_f eσ30) 9 6 rfl).1).trans ((((sI_f eσ28) 9 6 rfl).1).trans ((hF5 9 6 rfl).1)))); have f25 := j9_7 hJ rfl; have f26 := b11; have f27 := k20; have f28 := b24; have f29 := k27; have f30 := b39; have f31 := k42; have f32 := b46; have f33 := k64; have g7 := rg32 x88; have z0 : (0 : Int32).toInt = 0 := (by decide); have z1 : (1 : Int32).toInt = 1 := (by decide); exact ⟨by omega, by omega⟩))
                refine lv_goto (tgt := 208) hx hb dX9_next_271 (by decide) ?_
                have t92 : (((σ90 9).1 6).toInt - ((σ90 9).1 7).toInt).toNat < (((σ70 9).1 6).toInt - ((σ70 9).1 7).toInt).toNat := (by have f0 := j9_7 hJ91 rfl; have f1 := congrArg Int32.toInt (show ((σ90 9).1 7) = x88 from sI_s eσ90); have f2 := j9_6 hJ91 rfl; have f3 := congrArg Int32.toInt (show ((σ90 9).1 6) = ((σ 9).1 6) from (((sI_f eσ90) 9 6 rfl).1).trans ((((sI_f eσ86) 9 6 rfl).1).trans (((hF71 9 6 rfl).1).trans ((((sI_f eσ65) 9 6 rfl).1).trans ((((sL_f eσ32) 9 6 rfl).1).trans ((((sI_f eσ30) 9 6 rfl).1).trans ((((sI_f eσ28) 9 6 rfl).1).trans ((hF5 9 6 rfl).1)))))))); have f4 := j9_7 hJ72 rfl; have f5 := j9_6 hJ72 rfl; have f6 := congrArg Int32.toInt (show ((σ70 9).1 6) = ((σ 9).1 6) from ((hF71 9 6 rfl).1).trans ((((sI_f eσ65) 9 6 rfl).1).trans ((((sL_f eσ32) 9 6 rfl).1).trans ((((sI_f eσ30) 9 6 rfl).1).trans ((((sI_f eσ28) 9 6 rfl).1).trans ((hF5 9 6 rfl).1)))))); have f7 := b73; have f8 := b79; have f9 := t89; have f10 := j9_7 hJ66 rfl; have f11 := congrArg Int32.toInt (show ((σ65 9).1 7) = ((σ4 9).1 7) from (((sI_f eσ65) 9 7 rfl).1).trans ((((sL_f eσ32) 9 7 rfl).1).trans ((((sI_f eσ30) 9 7 rfl).1).trans (((sI_f eσ28) 9 7 rfl).1)))); have f12 := j9_6 hJ rfl; have f13 := j9_6 hJ66 rfl; have f14 := congrArg Int32.toInt (show ((σ65 9).1 6) = ((σ 9).1 6) from (((sI_f eσ65) 9 6 rfl).1).trans ((((sL_f eσ32) 9 6 rfl).1).trans ((((sI_f eσ30) 9 6 rfl).1).trans ((((sI_f eσ28) 9 6 rfl).1).trans ((hF5 9 6 rfl).1))))); have f15 := h0; have f16 := b7; have f17 := k35; have f18 := b78; have f19 := k82; have f20 := j9_6 hJ6 rfl; have f21 := congrArg Int32.toInt (show ((σ4 9).1 6) = ((σ 9).1 6) from (hF5 9 6 rfl).1); have f22 := j9_7 hJ6 rfl; have f23 := j9_7 hJ rfl; have f24 := b12; have f25 := b25; have f26 := b40; have f27 := b47; have f28 := j9_6 hJ33 rfl; have f29 := congrArg Int32.toInt (show ((σ32 9).1 6) = ((σ 9).1 6) from (((sL_f eσ32) 9 6 rfl).1).trans ((((sI_f eσ30) 9 6 rfl).1).trans ((((sI_f eσ28) 9 6 rfl).1).trans ((hF5 9 6 rfl).1)))); have f30 := b11; have f31 := k20; have f32 := b24; have f33 := k27; have f34 := b39; have f35 := k42; have f36 := b46; have f37 := k64; have z0 : (0 : Int32).toInt = 0 := (by decide); have z1 : (1 : Int32).toInt = 1 := (by decide); omega)
                exact nl67 (σ90, lf [], lg []) ⟨Fr.tr (Fr.tr (Fr.tr (Fr.rf) hF71 (fL_sub rfl)) (sI_f eσ86) (fN_L rfl)) (sI_f eσ90) (fN_L rfl), hJ91, (show ((σ65 9).1 7).toInt ≤ ((σ90 9).1 7).toInt ∧ ((σ90 9).1 7).toInt ≤ ((σ90 9).1 6).toInt ∧ ((σ90 9).1 6).toInt = ((σ65 9).1 6).toInt from (by have f0 := j9_7 hJ66 rfl; have f1 := congrArg Int32.toInt (show ((σ65 9).1 7) = ((σ4 9).1 7) from (((sI_f eσ65) 9 7 rfl).1).trans ((((sL_f eσ32) 9 7 rfl).1).trans ((((sI_f eσ30) 9 7 rfl).1).trans (((sI_f eσ28) 9 7 rfl).1)))); have f2 := j9_7 hJ91 rfl; have f3 := congrArg Int32.toInt (show ((σ90 9).1 7) = x88 from sI_s eσ90); have f4 := j9_6 hJ91 rfl; have f5 := congrArg Int32.toInt (show ((σ90 9).1 6) = ((σ 9).1 6) from (((sI_f eσ90) 9 6 rfl).1).trans ((((sI_f eσ86) 9 6 rfl).1).trans (((hF71 9 6 rfl).1).trans ((((sI_f eσ65) 9 6 rfl).1).trans ((((sL_f eσ32) 9 6 rfl).1).trans ((((sI_f eσ30) 9 6 rfl).1).trans ((((sI_f eσ28) 9 6 rfl).1).trans ((hF5 9 6 rfl).1)))))))); have f6 := j9_6 hJ66 rfl; have f7 := congrArg Int32.toInt (show ((σ65 9).1 6) = ((σ 9).1 6) from (((sI_f eσ65) 9 6 rfl).1).trans ((((sL_f eσ32) 9 6 rfl).1).trans ((((sI_f eσ30) 9 6 rfl).1).trans ((((sI_f eσ28) 9 6 rfl).1).trans ((hF5 9 6 rfl).1))))); have f8 := b73; have f9 := j9_7 hJ72 rfl; have f10 := j9_6 hJ rfl; have f11 := j9_7 hJ6 rfl; have f12 := j9_6 hJ72 rfl; have f13 := congrArg Int32.toInt (show ((σ70 9).1 6) = ((σ 9).1 6) from ((hF71 9 6 rfl).1).trans ((((sI_f eσ65) 9 6 rfl).1).trans ((((sL_f eσ32) 9 6 rfl).1).trans ((((sI_f eσ30) 9 6 rfl).1).trans ((((sI_f eσ28) 9 6 rfl).1).trans ((hF5 9 6 rfl).1)))))); have f14 := h0; have f15 := b7; have f16 := b12; have f17 := b25; have f18 := k35; have f19 := b40; have f20 := b47; have f21 := b79; have f22 := t89; have f23 := j9_6 hJ6 rfl; have f24 := congrArg Int32.toInt (show ((σ4 9).1 6) = ((σ 9).1 6) from (hF5 9 6 rfl).1); have f25 := j9_6 hJ33 rfl; have f26 := congrArg Int32.toInt (show ((σ32 9).1 6) = ((σ 9).1 6) from (((sL_f eσ32) 9 6 rfl).1).trans ((((sI_f eσ30) 9 6 rfl).1).trans ((((sI_f eσ28) 9 6 rfl).1).trans ((hF5 9 6 rfl).1)))); have f27 := j9_7 hJ rfl; have f28 := b11; have f29 := k20; have f30 := b24; have f31 := k27; have f32 := b39; have f33 := k42; have f34 := b46; have f35 := k64; have f36 := b78; have f37 := k82; have z0 : (0 : Int32).toInt = 0 := (by decide); have z1 : (1 : Int32).toInt = 1 := (by decide); omega)), (show ((σ90 9).1 8).toInt = 2 from (by have f0 := congrArg Int32.toInt (show ((σ90 9).1 8) = (2 : Int32) from ((((sI_f eσ90) 9 8 rfl).1).trans ((((sI_f eσ86) 9 8 rfl).1).trans ((hF71 9 8 rfl).1))).trans (sI_s eσ65)); have z2 : (2 : Int32).toInt = 2 := (by decide); omega)), trivial⟩ (show (((σ90 9).1 6).toInt - ((σ90 9).1 7).toInt).toNat < _ from by first | exact t92 | (rw [← eσ70]; exact t92)) _ _ _ hP hS (lv_sub hl [0] rfl)
              ·
                intro nj83
                refine lv_icmp_le (tgt := 238) hx hb dX9_next_230 (by decide) (fun c93 => ?_) (fun c93 => ?_)
                ·
                  have k94 := ple32 c93
                  refine lv_bipush (v := 10) hx hb dX9_next_238 (by decide) ?_
                  refine lv_aload_n hx hb dX9_next_240 rfl (lv_at hl 0 rfl) ?_
                  refine g9_10 (x := ((σ70 9).1 10)) hx hb hts hown hK hP (rfl) (hts _ q1370) dX9_next_241 ?_
                  refine lv_imul hx hb dX9_next_244 ?_
                  refine lv_topi (fun x95 ex95 => ?_)
                  refine lv_aload_n hx hb dX9_next_245 rfl (lv_at hl 0 rfl) ?_
                  refine g9_5 hx hb hts hown hK hP (hts _ q1365) dX9_next_246 ?_
                  refine lv_aload_n hx hb dX9_next_249 rfl (lv_at hl 0 rfl) ?_
                  refine g9_7 (x := ((σ70 9).1 7)) hx hb hts hown hK hP (rfl) (hts _ q1367) dX9_next_250 ?_
                  obtain ⟨x96, ex96⟩ : ∃ z, (σ 9).2.2.1 5 ((σ70 9).1 7).toInt.toNat = z := ⟨_, rfl⟩
                  refine l9_5 (x := x96) hx hb hK hP (vpo (by have f0 := j9_7 hJ72 rfl; have f1 := b73; have f2 := b79; have f3 := j9_7 hJ66 rfl; have f4 := congrArg Int32.toInt (show ((σ65 9).1 7) = ((σ4 9).1 7) from (((sI_f eσ65) 9 7 rfl).1).trans ((((sL_f eσ32) 9 7 rfl).1).trans ((((sI_f eσ30) 9 7 rfl).1).trans (((sI_f eσ28) 9 7 rfl).1)))); have f5 := j9_6 hJ66 rfl; have f6 := congrArg Int32.toInt (show ((σ65 9).1 6) = ((σ 9).1 6) from (((sI_f eσ65) 9 6 rfl).1).trans ((((sL_f eσ32) 9 6 rfl).1).trans ((((sI_f eσ30) 9 6 rfl).1).trans ((((sI_f eσ28) 9 6 rfl).1).trans ((hF5 9 6 rfl).1))))); have f7 := j9_6 hJ72 rfl; have f8 := congrArg Int32.toInt (show ((σ70 9).1 6) = ((σ 9).1 6) from ((hF71 9 6 rfl).1).trans ((((sI_f eσ65) 9 6 rfl).1).trans ((((sL_f eσ32) 9 6 rfl).1).trans ((((sI_f eσ30) 9 6 rfl).1).trans ((((sI_f eσ28) 9 6 rfl).1).trans ((hF5 9 6 rfl).1)))))); have f9 := b78; have f10 := k82; have f11 := j9_6 hJ rfl; have f12 := j9_7 hJ6 rfl; have f13 := h0; have f14 := b7; have f15 := b12; have f16 := b25; have f17 := k35; have f18 := b40; have f19 := b47; have f20 := j9_6 hJ6 rfl; have f21 := congrArg Int32.toInt (show ((σ4 9).1 6) = ((σ 9).1 6) from (hF5 9 6 rfl).1); have f22 := j9_6 hJ33 rfl; have f23 := congrArg Int32.toInt (show ((σ32 9).1 6) = ((σ 9).1 6) from (((sL_f eσ32) 9 6 rfl).1).trans ((((sI_f eσ30) 9 6 rfl).1).trans ((((sI_f eσ28) 9 6 rfl).1).trans ((hF5 9 6 rfl).1)))); have f24 := j9_7 hJ rfl; have f25 := b11; have f26 := k20; have f27 := b24; have f28 := k27; have f29 := b39; have f30 := k42; have f31 := b46; have f32 := k64; have z0 : (0 : Int32).toInt = 0 := (by decide); omega)) ((congrFun (((hF71 9 5 rfl).2.2.1).trans ((((sI_f eσ65) 9 5 rfl).2.2.1).trans ((((sL_f eσ32) 9 5 rfl).2.2.1).trans ((((sI_f eσ30) 9 5 rfl).2.2.1).trans ((((sI_f eσ28) 9 5 rfl).2.2.1).trans ((hF5 9 5 rfl).2.2.1)))))) _).trans ex96) dX9_next_253 ?_
                  refine lv_iadd hx hb dX9_next_254 ?_
                  refine lv_topi (fun x97 ex97 => ?_)
                  refine lv_bipush (v := 48) hx hb dX9_next_255 (by decide) ?_
                  refine lv_isub hx hb dX9_next_257 ?_
                  refine lv_topi (fun x98 ex98 => ?_)
                  exact nj83 (σ70, lf [x98], lg []) ⟨rfl, trivial⟩ _ _ _ hP hS (lv_sub hl [0] rfl)
                ·
                  have k99 := nle32 c93
                  refine lv_ldc (v := 1000000) hx hb hown (hts _ q1604) dX9_next_233 ?_
                  refine lv_goto (tgt := 258) hx hb dX9_next_235 (by decide) ?_
                  exact nj83 (σ70, lf [1000000], lg []) ⟨rfl, trivial⟩ _ _ _ hP hS (lv_sub hl [0] rfl)
        ·
          have k100 := neq32 c41
          refine lv_aload_n hx hb dX9_next_95 rfl (lv_at hl 0 rfl) ?_
          refine lv_iconst (v := 1) hx hb dX9_next_96 (by decide) ?_
          refine p9_8 hx hb hts hown hK hP hD hS (hts _ q1368) dX9_next_97 (fun H locs σ101 eσ101 hP hS => ?_)
          have hJ102 : J9 (σ101 9) := hJ33.I eσ101 (show JI9 8 (1 : Int32) from trivial)
          refine lv_iconst (v := 0) hx hb dX9_next_100 (by decide) ?_
          refine lv_istore_n (lv' := [(1, .int 0), (0, .ref (g 60))]) hx hb dX9_next_101 rfl hl (by decide) rfl (fun ls hl => ?_)
          refine loop9 2 102 (fun x : LZ => [(1, .int (x.2.1 0)), (0, .ref (g 60))]) (fun x : LZ => (Fr (fL [7, 11]) σ101 x.1) ∧ (J9 (x.1 9)) ∧ (((σ101 9).1 7).toInt ≤ ((x.1 9).1 7).toInt ∧ ((x.1 9).1 7).toInt ≤ ((x.1 9).1 6).toInt ∧ ((x.1 9).1 6).toInt = ((σ101 9).1 6).toInt) ∧ (((x.1 9).1 8).toInt = 1) ∧ True) (fun x : LZ => (((x.1 9).1 6).toInt - ((x.1 9).1 7).toInt).toNat) ?_ (σ101, lf [0], lg []) ⟨Fr.rf, hJ102, (show ((σ101 9).1 7).toInt ≤ ((σ101 9).1 7).toInt ∧ ((σ101 9).1 7).toInt ≤ ((σ101 9).1 6).toInt ∧ ((σ101 9).1 6).toInt = ((σ101 9).1 6).toInt from (by have f0 := j9_7 hJ102 rfl; have f1 := congrArg Int32.toInt (show ((σ101 9).1 7) = ((σ4 9).1 7) from (((sI_f eσ101) 9 7 rfl).1).trans ((((sL_f eσ32) 9 7 rfl).1).trans ((((sI_f eσ30) 9 7 rfl).1).trans (((sI_f eσ28) 9 7 rfl).1)))); have f2 := j9_6 hJ102 rfl; have f3 := congrArg Int32.toInt (show ((σ101 9).1 6) = ((σ 9).1 6) from (((sI_f eσ101) 9 6 rfl).1).trans ((((sL_f eσ32) 9 6 rfl).1).trans ((((sI_f eσ30) 9 6 rfl).1).trans ((((sI_f eσ28) 9 6 rfl).1).trans ((hF5 9 6 rfl).1))))); have f4 := j9_6 hJ rfl; have f5 := j9_7 hJ6 rfl; have f6 := h0; have f7 := b7; have f8 := b12; have f9 := b25; have f10 := k35; have f11 := b40; have f12 := j9_6 hJ6 rfl; have f13 := congrArg Int32.toInt (show ((σ4 9).1 6) = ((σ 9).1 6) from (hF5 9 6 rfl).1); have f14 := j9_6 hJ33 rfl; have f15 := congrArg Int32.toInt (show ((σ32 9).1 6) = ((σ 9).1 6) from (((sL_f eσ32) 9 6 rfl).1).trans ((((sI_f eσ30) 9 6 rfl).1).trans ((((sI_f eσ28) 9 6 rfl).1).trans ((hF5 9 6 rfl).1)))); have f16 := j9_7 hJ rfl; have f17 := b11; have f18 := k20; have f19 := b24; have f20 := k27; have f21 := b39; have f22 := k100; have z0 : (0 : Int32).toInt = 0 := (by decide); omega)), (show ((σ101 9).1 8).toInt = 1 from (by have f0 := congrArg Int32.toInt (show ((σ101 9).1 8) = (1 : Int32) from sI_s eσ101); have z1 : (1 : Int32).toInt = 1 := (by decide); omega)), trivial⟩ _ _ _ hP hS (lv_sub hl [0, 1] rfl)
          intro y105 hI104 nl103 H locs ls hP hS hl
          obtain ⟨σ106, eσ106⟩ : ∃ z, z = y105.1 := ⟨_, rfl⟩
          rw [← eσ106] at hP hI104
          have hF107 : Fr (fL [7, 11]) σ101 σ106 := hI104.1
          have hJ108 : J9 (σ106 9) := hI104.2.1
          have b109 : ((σ101 9).1 7).toInt ≤ ((σ106 9).1 7).toInt ∧ ((σ106 9).1 7).toInt ≤ ((σ106 9).1 6).toInt ∧ ((σ106 9).1 6).toInt = ((σ101 9).1 6).toInt := hI104.2.2.1
          have b110 : ((σ106 9).1 8).toInt = 1 := hI104.2.2.2.1
          have hl : lv_has ls 2 [(1, .int (y105.2.1 0)), (0, .ref (g 60))] := hl
          refine lv_aload_n hx hb dX9_next_102 rfl (lv_at hl 1 rfl) ?_
          refine lv_aload_n hx hb dX9_next_103 rfl (lv_at hl 1 rfl) ?_
          refine g9_7 (x := ((σ106 9).1 7)) hx hb hts hown hK hP (rfl) (hts _ q1367) dX9_next_104 ?_
          refine lv_bipush (v := 97) hx hb dX9_next_107 (by decide) ?_
          refine lv_bipush (v := 122) hx hb dX9_next_109 (by decide) ?_
          refine va_calli (va_runV (As := [.int ((σ106 9).1 7), .int 97, .int 122]) (rest := []) ⟨hx, hb, hml, hown, hts⟩ (m_X9_isByte l D cy g σ106 ((σ106 9).1 7) (97) (122) _ hJ108 (show (0 : Int) ≤ ((σ106 9).1 7).toInt ∧ ((σ106 9).1 7).toInt ≤ 2000 from (by have f0 := j9_7 hJ108 rfl; have f1 := b109; have f2 := j9_7 hJ102 rfl; have f3 := congrArg Int32.toInt (show ((σ101 9).1 7) = ((σ4 9).1 7) from (((sI_f eσ101) 9 7 rfl).1).trans ((((sL_f eσ32) 9 7 rfl).1).trans ((((sI_f eσ30) 9 7 rfl).1).trans (((sI_f eσ28) 9 7 rfl).1)))); have f4 := j9_6 hJ108 rfl; have f5 := congrArg Int32.toInt (show ((σ106 9).1 6) = ((σ 9).1 6) from ((hF107 9 6 rfl).1).trans ((((sI_f eσ101) 9 6 rfl).1).trans ((((sL_f eσ32) 9 6 rfl).1).trans ((((sI_f eσ30) 9 6 rfl).1).trans ((((sI_f eσ28) 9 6 rfl).1).trans ((hF5 9 6 rfl).1)))))); have f6 := j9_6 hJ102 rfl; have f7 := congrArg Int32.toInt (show ((σ101 9).1 6) = ((σ 9).1 6) from (((sI_f eσ101) 9 6 rfl).1).trans ((((sL_f eσ32) 9 6 rfl).1).trans ((((sI_f eσ30) 9 6 rfl).1).trans ((((sI_f eσ28) 9 6 rfl).1).trans ((hF5 9 6 rfl).1))))); have f8 := j9_6 hJ rfl; have f9 := j9_7 hJ6 rfl; have f10 := h0; have f11 := b7; have f12 := b12; have f13 := b25; have f14 := k35; have f15 := b40; have f16 := j9_6 hJ6 rfl; have f17 := congrArg Int32.toInt (show ((σ4 9).1 6) = ((σ 9).1 6) from (hF5 9 6 rfl).1); have f18 := j9_6 hJ33 rfl; have f19 := congrArg Int32.toInt (show ((σ32 9).1 6) = ((σ 9).1 6) from (((sL_f eσ32) 9 6 rfl).1).trans ((((sI_f eσ30) 9 6 rfl).1).trans ((((sI_f eσ28) 9 6 rfl).1).trans ((hF5 9 6 rfl).1)))); have f20 := j9_7 hJ rfl; have f21 := b11; have f22 := k20; have f23 := b24; have f24 := k27; have f25 := b39; have f26 := k100; have z0 : (0 : Int32).toInt = 0 := (by decide); omega))) (cwV 3 hts (gd_V q1596 q1598 q53 q134 q1599) rfl rfl rfl (by decide +kernel) ⟨Nat.le_of_ble_eq_true rfl, Nat.le_of_ble_eq_true rfl⟩) (pv9 hP hK hD hC hS (va_recv hK hP (ci := 9) (q0 := 0) rfl rfl)) rfl rfl hl.1 rfl (lv_room (Nat.le_of_ble_eq_true rfl)) dX9_next_111 ⟨Nat.le_of_ble_eq_true rfl, Nat.le_of_ble_eq_true rfl⟩) hS (fun q _ h => up9 hS q h) (up9 hS) (fun r111 σ112 tS H1 locs ht hvm hw113 hB hz1 hk1 hS => ?_)
          have hP : va_P D clz (WD9 cy g σ112) H1 := by rw [← ht]; exact hB
          clear hB hz1 hk1 hvm ht
          generalize H1 = H at hP hS ⊢
          have hw113E : σ106 = σ112 := (hw113.1).symm
          subst hw113E
          have b114 : (0 : Int) ≤ r111.toInt ∧ r111.toInt ≤ 1 := hw113.2.1
          have b115 : (r111.toInt = 0) ∨ (((σ106 9).1 7).toInt < ((σ106 9).1 6).toInt) := hw113.2.2.1
          refine lv_if_eq (tgt := 185) hx hb dX9_next_114 (by decide) (fun c116 => ?_) (fun c116 => ?_)
          ·
            have k117 := peq32 c116
            refine lv_goto (tgt := 307) hx hb dX9_next_185 (by decide) ?_
            exact W.vret hx hb hr (fun tS ht hW => ⟨⟨σ106, rfl, ⟨Fr.tr (Fr.tr (Fr.tr (Fr.tr (Fr.tr (Fr.tr (Fr.rf) hF5 (fL_sub rfl)) (sI_f eσ28) (fN_L rfl)) (sI_f eσ30) (fN_L rfl)) (sL_f eσ32) (fN_L rfl)) (sI_f eσ101) (fN_L rfl)) hF107 (fL_sub rfl), hJ108, (show ((σ 9).1 7).toInt ≤ ((σ106 9).1 7).toInt ∧ ((σ106 9).1 7).toInt ≤ ((σ106 9).1 6).toInt ∧ ((σ106 9).1 6).toInt = ((σ 9).1 6).toInt from (by have f0 := j9_6 hJ rfl; have f1 := j9_7 hJ108 rfl; have f2 := j9_6 hJ108 rfl; have f3 := congrArg Int32.toInt (show ((σ106 9).1 6) = ((σ 9).1 6) from ((hF107 9 6 rfl).1).trans ((((sI_f eσ101) 9 6 rfl).1).trans ((((sL_f eσ32) 9 6 rfl).1).trans ((((sI_f eσ30) 9 6 rfl).1).trans ((((sI_f eσ28) 9 6 rfl).1).trans ((hF5 9 6 rfl).1)))))); have f4 := j9_7 hJ rfl; have f5 := h0; have f6 := b7; have f7 := k35; have f8 := b109; have f9 := b115; have f10 := j9_6 hJ6 rfl; have f11 := congrArg Int32.toInt (show ((σ4 9).1 6) = ((σ 9).1 6) from (hF5 9 6 rfl).1); have f12 := j9_7 hJ102 rfl; have f13 := congrArg Int32.toInt (show ((σ101 9).1 7) = ((σ4 9).1 7) from (((sI_f eσ101) 9 7 rfl).1).trans ((((sL_f eσ32) 9 7 rfl).1).trans ((((sI_f eσ30) 9 7 rfl).1).trans (((sI_f eσ28) 9 7 rfl).1)))); have f14 := j9_7 hJ6 rfl; have f15 := j9_6 hJ102 rfl; have f16 := congrArg Int32.toInt (show ((σ101 9).1 6) = ((σ 9).1 6) from (((sI_f eσ101) 9 6 rfl).1).trans ((((sL_f eσ32) 9 6 rfl).1).trans ((((sI_f eσ30) 9 6 rfl).1).trans ((((sI_f eσ28) 9 6 rfl).1).trans ((hF5 9 6 rfl).1))))); have f17 := b12; have f18 := b25; have f19 := b40; have f20 := b114; have f21 := k117; have f22 := j9_6 hJ33 rfl; have f23 := congrArg Int32.toInt (show ((σ32 9).1 6) = ((σ 9).1 6) from (((sL_f eσ32) 9 6 rfl).1).trans ((((sI_f eσ30) 9 6 rfl).1).trans ((((sI_f eσ28) 9 6 rfl).1).trans ((hF5 9 6 rfl).1)))); have f24 := b11; have f25 := k20; have f26 := b24; have f27 := k27; have f28 := b39; have f29 := k100; have z0 : (0 : Int32).toInt = 0 := (by decide); omega)), (show ph ((σ 9).1 7) ((σ 9).1 8) ≤ ph ((σ106 9).1 7) ((σ106 9).1 8) ∧ ((σ 9).1 7).toInt ≤ ph ((σ106 9).1 7) ((σ106 9).1 8) from (by have f0 := congrArg Int32.toInt (show ((σ106 9).1 8) = (1 : Int32) from ((hF107 9 8 rfl).1).trans (sI_s eσ101)); have f1 := j9_7 hJ108 rfl; have f2 := j9_7 hJ rfl; have f3 := h0; have f4 := b7; have f5 := b109; have f6 := b110; have f7 := b115; have f8 := j9_6 hJ6 rfl; have f9 := congrArg Int32.toInt (show ((σ4 9).1 6) = ((σ 9).1 6) from (hF5 9 6 rfl).1); have f10 := j9_6 hJ108 rfl; have f11 := congrArg Int32.toInt (show ((σ106 9).1 6) = ((σ 9).1 6) from ((hF107 9 6 rfl).1).trans ((((sI_f eσ101) 9 6 rfl).1).trans ((((sL_f eσ32) 9 6 rfl).1).trans ((((sI_f eσ30) 9 6 rfl).1).trans ((((sI_f eσ28) 9 6 rfl).1).trans ((hF5 9 6 rfl).1)))))); have f12 := j9_6 hJ rfl; have f13 := j9_7 hJ102 rfl; have f14 := congrArg Int32.toInt (show ((σ101 9).1 7) = ((σ4 9).1 7) from (((sI_f eσ101) 9 7 rfl).1).trans ((((sL_f eσ32) 9 7 rfl).1).trans ((((sI_f eσ30) 9 7 rfl).1).trans (((sI_f eσ28) 9 7 rfl).1)))); have f15 := j9_7 hJ6 rfl; have f16 := j9_6 hJ102 rfl; have f17 := congrArg Int32.toInt (show ((σ101 9).1 6) = ((σ 9).1 6) from (((sI_f eσ101) 9 6 rfl).1).trans ((((sL_f eσ32) 9 6 rfl).1).trans ((((sI_f eσ30) 9 6 rfl).1).trans ((((sI_f eσ28) 9 6 rfl).1).trans ((hF5 9 6 rfl).1))))); have f18 := b12; have f19 := b25; have f20 := k35; have f21 := b40; have f22 := b114; have f23 := k117; have f24 := j9_6 hJ33 rfl; have f25 := congrArg Int32.toInt (show ((σ32 9).1 6) = ((σ 9).1 6) from (((sL_f eσ32) 9 6 rfl).1).trans ((((sI_f eσ30) 9 6 rfl).1).trans ((((sI_f eσ28) 9 6 rfl).1).trans ((hF5 9 6 rfl).1)))); have f26 := b11; have f27 := k20; have f28 := b24; have f29 := k27; have f30 := b39; have f31 := k100; have z0 : (0 : Int32).toInt = 0 := (by decide); have z1 : (1 : Int32).toInt = 1 := (by decide); unfold ph; split <;> split <;> omega)), trivial⟩, (show va_P D clz (WD9 cy g σ106) tS.heap by rw [ht]; exact hP)⟩, hS.F ht⟩) hS.2.2 dX9_next_307
          ·
            have k118 := neq32 c116
            refine lv_aload_n hx hb dX9_next_117 rfl (lv_at hl 1 rfl) ?_
            refine lv_iload_n hx hb dX9_next_118 rfl (lv_at hl 0 rfl) ?_
            refine lv_bipush (v := 11) hx hb dX9_next_119 (by decide) ?_
            refine cut9 (D := D) (cy := cy) (g := g) (A := A9 cy g s.heap.size) (H0 := s.heap) 2 153 (fun x : LZ => [(1, .int (y105.2.1 0)), (0, .ref (g 60))]) (fun x : LZ => [.long (x.2.2 0), .ref (g 60)]) (fun x : LZ => (x.1 = σ106) ∧ True) ?_ ?_
            ·
              intro y121 hI120 H locs ls hP hS hl
              rw [show y121.1 = σ106 from hI120.1] at hP
              have hl : lv_has ls 2 [(1, .int (y105.2.1 0)), (0, .ref (g 60))] := hl
              refine W.eq (g2 := F0 m 153 ls [.long (y121.2.2 0), .ref (g 60)]) rfl ?_
              refine p9_11 hx hb hts hown hK hP hD hS (hts _ q1371) dX9_next_153 (fun H locs σ122 eσ122 hP hS => ?_)
              have hJ123 : J9 (σ122 9) := hJ108.L eσ122
              refine lv_iload_n hx hb dX9_next_156 rfl (lv_at hl 0 rfl) ?_
              refine lv_bipush (v := 11) hx hb dX9_next_157 (by decide) ?_
              refine cut9 (D := D) (cy := cy) (g := g) (A := A9 cy g s.heap.size) (H0 := s.heap) 2 169 (fun x : LZ => [(1, .int (y105.2.1 0)), (0, .ref (g 60))]) (fun x : LZ => []) (fun x : LZ => (Fr (fL [11]) σ122 x.1) ∧ (J9 (x.1 9)) ∧ True) ?_ ?_
              ·
                intro y126 hI125 H locs ls hP hS hl
                obtain ⟨σ127, eσ127⟩ : ∃ z, z = y126.1 := ⟨_, rfl⟩
                rw [← eσ127] at hP hI125
                have hF128 : Fr (fL [11]) σ122 σ127 := hI125.1
                have hJ129 : J9 (σ127 9) := hI125.2.1
                have hl : lv_has ls 2 [(1, .int (y105.2.1 0)), (0, .ref (g 60))] := hl
                refine lv_aload_n hx hb dX9_next_169 rfl (lv_at hl 1 rfl) ?_
                refine lv_dup hx hb dX9_next_170 rfl ?_
                refine g9_7 (x := ((σ106 9).1 7)) hx hb hts hown hK hP (((hF128 9 7 rfl).1).trans (((sL_f eσ122) 9 7 rfl).1)) (hts _ q1367) dX9_next_171 ?_
                refine lv_iconst (v := 1) hx hb dX9_next_174 (by decide) ?_
                refine lv_iadd hx hb dX9_next_175 ?_
                refine lv_topi (fun x130 ex130 => ?_)
                have t131 := addO ex130 (by have f0 := j9_7 hJ108 rfl; have f1 := b109; have f2 := b115; have f3 := j9_6 hJ108 rfl; have f4 := congrArg Int32.toInt (show ((σ106 9).1 6) = ((σ 9).1 6) from ((hF107 9 6 rfl).1).trans ((((sI_f eσ101) 9 6 rfl).1).trans ((((sL_f eσ32) 9 6 rfl).1).trans ((((sI_f eσ30) 9 6 rfl).1).trans ((((sI_f eσ28) 9 6 rfl).1).trans ((hF5 9 6 rfl).1)))))); have f5 := j9_7 hJ102 rfl; have f6 := congrArg Int32.toInt (show ((σ101 9).1 7) = ((σ4 9).1 7) from (((sI_f eσ101) 9 7 rfl).1).trans ((((sL_f eσ32) 9 7 rfl).1).trans ((((sI_f eσ30) 9 7 rfl).1).trans (((sI_f eσ28) 9 7 rfl).1)))); have f7 := j9_6 hJ102 rfl; have f8 := congrArg Int32.toInt (show ((σ101 9).1 6) = ((σ 9).1 6) from (((sI_f eσ101) 9 6 rfl).1).trans ((((sL_f eσ32) 9 6 rfl).1).trans ((((sI_f eσ30) 9 6 rfl).1).trans ((((sI_f eσ28) 9 6 rfl).1).trans ((hF5 9 6 rfl).1))))); have f9 := b114; have f10 := k118; have f11 := j9_6 hJ rfl; have f12 := j9_7 hJ6 rfl; have f13 := h0; have f14 := b7; have f15 := b12; have f16 := b25; have f17 := k35; have f18 := b40; have f19 := j9_6 hJ6 rfl; have f20 := congrArg Int32.toInt (show ((σ4 9).1 6) = ((σ 9).1 6) from (hF5 9 6 rfl).1); have f21 := j9_6 hJ33 rfl; have f22 := congrArg Int32.toInt (show ((σ32 9).1 6) = ((σ 9).1 6) from (((sL_f eσ32) 9 6 rfl).1).trans ((((sI_f eσ30) 9 6 rfl).1).trans ((((sI_f eσ28) 9 6 rfl).1).trans ((hF5 9 6 rfl).1)))); have f23 := j9_7 hJ rfl; have f24 := b11; have f25 := k20; have f26 := b24; have f27 := k27; have f28 := b39; have f29 := k100; have z0 : (0 : Int32).toInt = 0 := (by decide); have z1 : (1 : Int32).toInt = 1 := (by decide); omega)
                refine p9_7 hx hb hts hown hK hP hD hS (hts _ q1367) dX9_next_176 (fun H locs σ132 eσ132 hP hS => ?_)
                have hJ133 : J9 (σ132 9) := hJ129.I eσ132 (show JI9 7 x130 from (by have f0 := t131; have f1 := j9_7 hJ108 rfl; have f2 := b109; have f3 := b115; have f4 := j9_6 hJ108 rfl; have f5 := congrArg Int32.toInt (show ((σ106 9).1 6) = ((σ 9).1 6) from ((hF107 9 6 rfl).1).trans ((((sI_f eσ101) 9 6 rfl).1).trans ((((sL_f eσ32) 9 6 rfl).1).trans ((((sI_f eσ30) 9 6 rfl).1).trans ((((sI_f eσ28) 9 6 rfl).1).trans ((hF5 9 6 rfl).1)))))); have f6 := j9_7 hJ102 rfl; have f7 := congrArg Int32.toInt (show ((σ101 9).1 7) = ((σ4 9).1 7) from (((sI_f eσ101) 9 7 rfl).1).trans ((((sL_f eσ32) 9 7 rfl).1).trans ((((sI_f eσ30) 9 7 rfl).1).trans (((sI_f eσ28) 9 7 rfl).1)))); have f8 := j9_6 hJ102 rfl; have f9 := congrArg Int32.toInt (show ((σ101 9).1 6) = ((σ 9).1 6) from (((sI_f eσ101) 9 6 rfl).1).trans ((((sL_f eσ32) 9 6 rfl).1).trans ((((sI_f eσ30) 9 6 rfl).1).trans ((((sI_f eσ28) 9 6 rfl).1).trans ((hF5 9 6 rfl).1))))); have f10 := b114; have f11 := k118; have f12 := j9_6 hJ rfl; have f13 := j9_7 hJ6 rfl; have f14 := h0; have f15 := b7; have f16 := b12; have f17 := b25; have f18 := k35; have f19 := b40; have f20 := j9_6 hJ6 rfl; have f21 := congrArg Int32.toInt (show ((σ4 9).1 6) = ((σ 9).1 6) from (hF5 9 6 rfl).1); have f22 := j9_6 hJ33 rfl; have f23 := congrArg Int32.toInt (show ((σ32 9).1 6) = ((σ 9).1 6) from (((sL_f eσ32) 9 6 rfl).1).trans ((((sI_f eσ30) 9 6 rfl).1).trans ((((sI_f eσ28) 9 6 rfl).1).trans ((hF5 9 6 rfl).1)))); have f24 := j9_7 hJ rfl; have f25 := b11; have f26 := k20; have f27 := b24; have f28 := k27; have f29 := b39; have f30 := k100; have g7 := rg32 x130; have z0 : (0 : Int32).toInt = 0 := (by decide); have z1 : (1 : Int32).toInt = 1 := (by decide); exact ⟨by omega, by omega⟩))
                obtain ⟨x134, ex134⟩ : ∃ y : Int32, y = (y105.2.1 0) + 1 := ⟨_, rfl⟩
                refine lv_iinc (v := x134) (lv' := [(1, .int x134), (0, .ref (g 60))]) hx hb dX9_next_179 hl (k := 0) rfl (by rw [ex134]; rfl) (by decide) rfl (fun ls hl => ?_)
                refine lv_goto (tgt := 102) hx hb dX9_next_182 (by decide) ?_
                have t135 : (((σ132 9).1 6).toInt - ((σ132 9).1 7).toInt).toNat < (((σ106 9).1 6).toInt - ((σ106 9).1 7).toInt).toNat := (by have f0 := j9_6 hJ133 rfl; have f1 := congrArg Int32.toInt (show ((σ132 9).1 6) = ((σ 9).1 6) from (((sI_f eσ132) 9 6 rfl).1).trans (((hF128 9 6 rfl).1).trans ((((sL_f eσ122) 9 6 rfl).1).trans (((hF107 9 6 rfl).1).trans ((((sI_f eσ101) 9 6 rfl).1).trans ((((sL_f eσ32) 9 6 rfl).1).trans ((((sI_f eσ30) 9 6 rfl).1).trans ((((sI_f eσ28) 9 6 rfl).1).trans ((hF5 9 6 rfl).1))))))))); have f2 := j9_7 hJ133 rfl; have f3 := congrArg Int32.toInt (show ((σ132 9).1 7) = x130 from sI_s eσ132); have f4 := j9_6 hJ108 rfl; have f5 := congrArg Int32.toInt (show ((σ106 9).1 6) = ((σ 9).1 6) from ((hF107 9 6 rfl).1).trans ((((sI_f eσ101) 9 6 rfl).1).trans ((((sL_f eσ32) 9 6 rfl).1).trans ((((sI_f eσ30) 9 6 rfl).1).trans ((((sI_f eσ28) 9 6 rfl).1).trans ((hF5 9 6 rfl).1)))))); have f6 := j9_7 hJ108 rfl; have f7 := b109; have f8 := b115; have f9 := t131; have f10 := j9_6 hJ rfl; have f11 := j9_7 hJ102 rfl; have f12 := congrArg Int32.toInt (show ((σ101 9).1 7) = ((σ4 9).1 7) from (((sI_f eσ101) 9 7 rfl).1).trans ((((sL_f eσ32) 9 7 rfl).1).trans ((((sI_f eσ30) 9 7 rfl).1).trans (((sI_f eσ28) 9 7 rfl).1)))); have f13 := j9_6 hJ102 rfl; have f14 := congrArg Int32.toInt (show ((σ101 9).1 6) = ((σ 9).1 6) from (((sI_f eσ101) 9 6 rfl).1).trans ((((sL_f eσ32) 9 6 rfl).1).trans ((((sI_f eσ30) 9 6 rfl).1).trans ((((sI_f eσ28) 9 6 rfl).1).trans ((hF5 9 6 rfl).1))))); have f15 := h0; have f16 := b7; have f17 := k35; have f18 := b114; have f19 := k118; have f20 := j9_6 hJ6 rfl; have f21 := congrArg Int32.toInt (show ((σ4 9).1 6) = ((σ 9).1 6) from (hF5 9 6 rfl).1); have f22 := j9_7 hJ6 rfl; have f23 := j9_7 hJ rfl; have f24 := b12; have f25 := b25; have f26 := b40; have f27 := j9_6 hJ33 rfl; have f28 := congrArg Int32.toInt (show ((σ32 9).1 6) = ((σ 9).1 6) from (((sL_f eσ32) 9 6 rfl).1).trans ((((sI_f eσ30) 9 6 rfl).1).trans ((((sI_f eσ28) 9 6 rfl).1).trans ((hF5 9 6 rfl).1)))); have f29 := b11; have f30 := k20; have f31 := b24; have f32 := k27; have f33 := b39; have f34 := k100; have z0 : (0 : Int32).toInt = 0 := (by decide); have z1 : (1 : Int32).toInt = 1 := (by decide); omega)
                exact nl103 (σ132, lf [x134], lg []) ⟨Fr.tr (Fr.tr (Fr.tr (Fr.tr (Fr.rf) hF107 (fL_sub rfl)) (sL_f eσ122) (fN_L rfl)) hF128 (fL_sub rfl)) (sI_f eσ132) (fN_L rfl), hJ133, (show ((σ101 9).1 7).toInt ≤ ((σ132 9).1 7).toInt ∧ ((σ132 9).1 7).toInt ≤ ((σ132 9).1 6).toInt ∧ ((σ132 9).1 6).toInt = ((σ101 9).1 6).toInt from (by have f0 := j9_6 hJ133 rfl; have f1 := congrArg Int32.toInt (show ((σ132 9).1 6) = ((σ 9).1 6) from (((sI_f eσ132) 9 6 rfl).1).trans (((hF128 9 6 rfl).1).trans ((((sL_f eσ122) 9 6 rfl).1).trans (((hF107 9 6 rfl).1).trans ((((sI_f eσ101) 9 6 rfl).1).trans ((((sL_f eσ32) 9 6 rfl).1).trans ((((sI_f eσ30) 9 6 rfl).1).trans ((((sI_f eσ28) 9 6 rfl).1).trans ((hF5 9 6 rfl).1))))))))); have f2 := j9_7 hJ133 rfl; have f3 := congrArg Int32.toInt (show ((σ132 9).1 7) = x130 from sI_s eσ132); have f4 := j9_7 hJ102 rfl; have f5 := congrArg Int32.toInt (show ((σ101 9).1 7) = ((σ4 9).1 7) from (((sI_f eσ101) 9 7 rfl).1).trans ((((sL_f eσ32) 9 7 rfl).1).trans ((((sI_f eσ30) 9 7 rfl).1).trans (((sI_f eσ28) 9 7 rfl).1)))); have f6 := j9_6 hJ102 rfl; have f7 := congrArg Int32.toInt (show ((σ101 9).1 6) = ((σ 9).1 6) from (((sI_f eσ101) 9 6 rfl).1).trans ((((sL_f eσ32) 9 6 rfl).1).trans ((((sI_f eσ30) 9 6 rfl).1).trans ((((sI_f eσ28) 9 6 rfl).1).trans ((hF5 9 6 rfl).1))))); have f8 := b109; have f9 := j9_6 hJ108 rfl; have f10 := congrArg Int32.toInt (show ((σ106 9).1 6) = ((σ 9).1 6) from ((hF107 9 6 rfl).1).trans ((((sI_f eσ101) 9 6 rfl).1).trans ((((sL_f eσ32) 9 6 rfl).1).trans ((((sI_f eσ30) 9 6 rfl).1).trans ((((sI_f eσ28) 9 6 rfl).1).trans ((hF5 9 6 rfl).1)))))); have f11 := j9_7 hJ108 rfl; have f12 := j9_6 hJ rfl; have f13 := j9_7 hJ6 rfl; have f14 := h0; have f15 := b7; have f16 := b12; have f17 := b25; have f18 := k35; have f19 := b40; have f20 := b115; have f21 := t131; have f22 := j9_6 hJ6 rfl; have f23 := congrArg Int32.toInt (show ((σ4 9).1 6) = ((σ 9).1 6) from (hF5 9 6 rfl).1); have f24 := j9_6 hJ33 rfl; have f25 := congrArg Int32.toInt (show ((σ32 9).1 6) = ((σ 9).1 6) from (((sL_f eσ32) 9 6 rfl).1).trans ((((sI_f eσ30) 9 6 rfl).1).trans ((((sI_f eσ28) 9 6 rfl).1).trans ((hF5 9 6 rfl).1)))); have f26 := j9_7 hJ rfl; have f27 := b11; have f28 := k20; have f29 := b24; have f30 := k27; have f31 := b39; have f32 := k100; have f33 := b114; have f34 := k118; have z0 : (0 : Int32).toInt = 0 := (by decide); have z1 : (1 : Int32).toInt = 1 := (by decide); omega)), (show ((σ132 9).1 8).toInt = 1 from (by have f0 := congrArg Int32.toInt (show ((σ132 9).1 8) = (1 : Int32) from ((((sI_f eσ132) 9 8 rfl).1).trans (((hF128 9 8 rfl).1).trans ((((sL_f eσ122) 9 8 rfl).1).trans ((hF107 9 8 rfl).1)))).trans (sI_s eσ101)); have z1 : (1 : Int32).toInt = 1 := (by decide); omega)), trivial⟩ (show (((σ132 9).1 6).toInt - ((σ132 9).1 7).toInt).toNat < _ from by first | exact t135 | (rw [← eσ106]; exact t135)) _ _ _ hP hS (lv_sub hl [0, 1] rfl)
              ·
                intro nj124
                refine lv_icmp_le (tgt := 169) hx hb dX9_next_159 (by decide) (fun c136 => ?_) (fun c136 => ?_)
                ·
                  have k137 := ple32 c136
                  exact nj124 (σ122, lf [], lg []) ⟨Fr.rf, hJ123, trivial⟩ _ _ _ hP hS (lv_sub hl [0, 1] rfl)
                ·
                  have k138 := nle32 c136
                  refine lv_aload_n hx hb dX9_next_162 rfl (lv_at hl 1 rfl) ?_
                  refine lv_ldc2 (v := (-1)) hx hb hown (hts _ q1600) dX9_next_163 ?_
                  refine p9_11 hx hb hts hown hK hP hD hS (hts _ q1371) dX9_next_166 (fun H locs σ139 eσ139 hP hS => ?_)
                  have hJ140 : J9 (σ139 9) := hJ123.L eσ139
                  exact nj124 (σ139, lf [], lg []) ⟨Fr.tr (Fr.rf) (sL_f eσ139) (fN_L rfl), hJ140, trivial⟩ _ _ _ hP hS (lv_sub hl [0, 1] rfl)
            ·
              intro nj119
              refine lv_icmp_le (tgt := 130) hx hb dX9_next_121 (by decide) (fun c141 => ?_) (fun c141 => ?_)
              ·
                have k142 := ple32 c141
                refine lv_ldc2 (v := 27) hx hb hown (hts _ q1601) dX9_next_130 ?_
                refine lv_aload_n hx hb dX9_next_133 rfl (lv_at hl 1 rfl) ?_
                refine g9_11 (x := ((σ106 9).2.1 11)) hx hb hts hown hK hP (rfl) (hts _ q1371) dX9_next_134 ?_
                refine lv_lmul hx hb dX9_next_137 ?_
                refine lv_topl (fun x143 ex143 => ?_)
                refine lv_aload_n hx hb dX9_next_138 rfl (lv_at hl 1 rfl) ?_
                refine g9_5 hx hb hts hown hK hP (hts _ q1365) dX9_next_139 ?_
                refine lv_aload_n hx hb dX9_next_142 rfl (lv_at hl 1 rfl) ?_
                refine g9_7 (x := ((σ106 9).1 7)) hx hb hts hown hK hP (rfl) (hts _ q1367) dX9_next_143 ?_
                obtain ⟨x144, ex144⟩ : ∃ z, (σ 9).2.2.1 5 ((σ106 9).1 7).toInt.toNat = z := ⟨_, rfl⟩
                refine l9_5 (x := x144) hx hb hK hP (vpo (by have f0 := j9_7 hJ108 rfl; have f1 := b109; have f2 := b115; have f3 := j9_6 hJ108 rfl; have f4 := congrArg Int32.toInt (show ((σ106 9).1 6) = ((σ 9).1 6) from ((hF107 9 6 rfl).1).trans ((((sI_f eσ101) 9 6 rfl).1).trans ((((sL_f eσ32) 9 6 rfl).1).trans ((((sI_f eσ30) 9 6 rfl).1).trans ((((sI_f eσ28) 9 6 rfl).1).trans ((hF5 9 6 rfl).1)))))); have f5 := j9_7 hJ102 rfl; have f6 := congrArg Int32.toInt (show ((σ101 9).1 7) = ((σ4 9).1 7) from (((sI_f eσ101) 9 7 rfl).1).trans ((((sL_f eσ32) 9 7 rfl).1).trans ((((sI_f eσ30) 9 7 rfl).1).trans (((sI_f eσ28) 9 7 rfl).1)))); have f7 := j9_6 hJ102 rfl; have f8 := congrArg Int32.toInt (show ((σ101 9).1 6) = ((σ 9).1 6) from (((sI_f eσ101) 9 6 rfl).1).trans ((((sL_f eσ32) 9 6 rfl).1).trans ((((sI_f eσ30) 9 6 rfl).1).trans ((((sI_f eσ28) 9 6 rfl).1).trans ((hF5 9 6 rfl).1))))); have f9 := b114; have f10 := k118; have f11 := j9_6 hJ rfl; have f12 := j9_7 hJ6 rfl; have f13 := h0; have f14 := b7; have f15 := b12; have f16 := b25; have f17 := k35; have f18 := b40; have f19 := j9_6 hJ6 rfl; have f20 := congrArg Int32.toInt (show ((σ4 9).1 6) = ((σ 9).1 6) from (hF5 9 6 rfl).1); have f21 := j9_6 hJ33 rfl; have f22 := congrArg Int32.toInt (show ((σ32 9).1 6) = ((σ 9).1 6) from (((sL_f eσ32) 9 6 rfl).1).trans ((((sI_f eσ30) 9 6 rfl).1).trans ((((sI_f eσ28) 9 6 rfl).1).trans ((hF5 9 6 rfl).1)))); have f23 := j9_7 hJ rfl; have f24 := b11; have f25 := k20; have f26 := b24; have f27 := k27; have f28 := b39; have f29 := k100; have z0 : (0 : Int32).toInt = 0 := (by decide); omega)) ((congrFun (((hF107 9 5 rfl).2.2.1).trans ((((sI_f eσ101) 9 5 rfl).2.2.1).trans ((((sL_f eσ32) 9 5 rfl).2.2.1).trans ((((sI_f eσ30) 9 5 rfl).2.2.1).trans ((((sI_f eσ28) 9 5 rfl).2.2.1).trans ((hF5 9 5 rfl).2.2.1)))))) _).trans ex144) dX9_next_146 ?_
                refine lv_i2l (v := x144.toInt64) hx hb dX9_next_147 rfl ?_
                refine lv_ladd hx hb dX9_next_148 ?_
                refine lv_topl (fun x145 ex145 => ?_)
                refine lv_ldc2 (v := 96) hx hb hown (hts _ q1602) dX9_next_149 ?_
                refine lv_lsub hx hb dX9_next_152 ?_
                refine lv_topl (fun x146 ex146 => ?_)
                exact nj119 (σ106, lf [], lg [x146]) ⟨rfl, trivial⟩ _ _ _ hP hS (lv_sub hl [0, 1] rfl)
              ·
                have k147 := nle32 c141
                refine lv_ldc2 (v := (-1)) hx hb hown (hts _ q1600) dX9_next_124 ?_
                refine lv_goto (tgt := 153) hx hb dX9_next_127 (by decide) ?_
                exact nj119 (σ106, lf [], lg [(-1)]) ⟨rfl, trivial⟩ _ _ _ hP hS (lv_sub hl [0, 1] rfl)
      ·
        have k148 := peq32 c34
        refine lv_aload_n hx hb dX9_next_72 rfl (lv_at hl 0 rfl) ?_
        refine lv_iconst (v := 0) hx hb dX9_next_73 (by decide) ?_
        refine p9_8 hx hb hts hown hK hP hD hS (hts _ q1368) dX9_next_74 (fun H locs σ149 eσ149 hP hS => ?_)
        have hJ150 : J9 (σ149 9) := hJ33.I eσ149 (show JI9 8 (0 : Int32) from trivial)
        refine lv_goto (tgt := 307) hx hb dX9_next_77 (by decide) ?_
        exact W.vret hx hb hr (fun tS ht hW => ⟨⟨σ149, rfl, ⟨Fr.tr (Fr.tr (Fr.tr (Fr.tr (Fr.tr (Fr.rf) hF5 (fL_sub rfl)) (sI_f eσ28) (fN_L rfl)) (sI_f eσ30) (fN_L rfl)) (sL_f eσ32) (fN_L rfl)) (sI_f eσ149) (fN_L rfl), hJ150, (show ((σ 9).1 7).toInt ≤ ((σ149 9).1 7).toInt ∧ ((σ149 9).1 7).toInt ≤ ((σ149 9).1 6).toInt ∧ ((σ149 9).1 6).toInt = ((σ 9).1 6).toInt from (by have f0 := j9_6 hJ rfl; have f1 := j9_6 hJ150 rfl; have f2 := congrArg Int32.toInt (show ((σ149 9).1 6) = ((σ 9).1 6) from (((sI_f eσ149) 9 6 rfl).1).trans ((((sL_f eσ32) 9 6 rfl).1).trans ((((sI_f eσ30) 9 6 rfl).1).trans ((((sI_f eσ28) 9 6 rfl).1).trans ((hF5 9 6 rfl).1))))); have f3 := j9_7 hJ150 rfl; have f4 := congrArg Int32.toInt (show ((σ149 9).1 7) = ((σ4 9).1 7) from (((sI_f eσ149) 9 7 rfl).1).trans ((((sL_f eσ32) 9 7 rfl).1).trans ((((sI_f eσ30) 9 7 rfl).1).trans (((sI_f eσ28) 9 7 rfl).1)))); have f5 := j9_7 hJ rfl; have f6 := h0; have f7 := b7; have f8 := k148; have f9 := j9_6 hJ6 rfl; have f10 := congrArg Int32.toInt (show ((σ4 9).1 6) = ((σ 9).1 6) from (hF5 9 6 rfl).1); have f11 := j9_7 hJ6 rfl; have f12 := b12; have f13 := b25; have f14 := b11; have f15 := k20; have f16 := b24; have f17 := k27; have z0 : (0 : Int32).toInt = 0 := (by decide); omega)), (show ph ((σ 9).1 7) ((σ 9).1 8) ≤ ph ((σ149 9).1 7) ((σ149 9).1 8) ∧ ((σ 9).1 7).toInt ≤ ph ((σ149 9).1 7) ((σ149 9).1 8) from (by have f0 := j9_7 hJ150 rfl; have f1 := congrArg Int32.toInt (show ((σ149 9).1 7) = ((σ4 9).1 7) from (((sI_f eσ149) 9 7 rfl).1).trans ((((sL_f eσ32) 9 7 rfl).1).trans ((((sI_f eσ30) 9 7 rfl).1).trans (((sI_f eσ28) 9 7 rfl).1)))); have f2 := j9_7 hJ rfl; have f3 := congrArg Int32.toInt (show ((σ149 9).1 8) = (0 : Int32) from sI_s eσ149); have f4 := h0; have f5 := b7; have f6 := j9_6 hJ6 rfl; have f7 := congrArg Int32.toInt (show ((σ4 9).1 6) = ((σ 9).1 6) from (hF5 9 6 rfl).1); have f8 := j9_6 hJ rfl; have f9 := j9_7 hJ6 rfl; have f10 := b12; have f11 := b25; have f12 := k148; have f13 := b11; have f14 := k20; have f15 := b24; have f16 := k27; have z0 : (0 : Int32).toInt = 0 := (by decide); unfold ph; split <;> split <;> omega)), trivial⟩, (show va_P D clz (WD9 cy g σ149) tS.heap by rw [ht]; exact hP)⟩, hS.F ht⟩) hS.2.2 dX9_next_307
    ·
      have k151 := neq32 c26
      refine lv_aload_n hx hb dX9_next_30 rfl (lv_at hl 0 rfl) ?_
      refine lv_dup hx hb dX9_next_31 rfl ?_
      refine g9_7 (x := ((σ4 9).1 7)) hx hb hts hown hK hP (rfl) (hts _ q1367) dX9_next_32 ?_
      refine lv_iconst (v := 1) hx hb dX9_next_35 (by decide) ?_
      refine lv_iadd hx hb dX9_next_36 ?_
      refine lv_topi (fun x152 ex152 => ?_)
      have t153 := addO ex152 (by have f0 := j9_7 hJ6 rfl; have f1 := b7; have f2 := b12; have f3 := b25; have f4 := j9_6 hJ6 rfl; have f5 := congrArg Int32.toInt (show ((σ4 9).1 6) = ((σ 9).1 6) from (hF5 9 6 rfl).1); have f6 := j9_6 hJ rfl; have f7 := j9_7 hJ rfl; have f8 := h0; have f9 := b11; have f10 := k20; have f11 := b24; have f12 := k151; have z0 : (0 : Int32).toInt = 0 := (by decide); have z1 : (1 : Int32).toInt = 1 := (by decide); omega)
      refine p9_7 hx hb hts hown hK hP hD hS (hts _ q1367) dX9_next_37 (fun H locs σ154 eσ154 hP hS => ?_)
      have hJ155 : J9 (σ154 9) := hJ6.I eσ154 (show JI9 7 x152 from (by have f0 := t153; have f1 := j9_7 hJ6 rfl; have f2 := b7; have f3 := b12; have f4 := b25; have f5 := j9_6 hJ6 rfl; have f6 := congrArg Int32.toInt (show ((σ4 9).1 6) = ((σ 9).1 6) from (hF5 9 6 rfl).1); have f7 := j9_6 hJ rfl; have f8 := j9_7 hJ rfl; have f9 := h0; have f10 := b11; have f11 := k20; have f12 := b24; have f13 := k151; have g4 := rg32 x152; have z0 : (0 : Int32).toInt = 0 := (by decide); have z1 : (1 : Int32).toInt = 1 := (by decide); exact ⟨by omega, by omega⟩))
      refine lv_goto (tgt := 0) hx hb dX9_next_40 (by decide) ?_
      have t156 : (((σ154 9).1 6).toInt - ((σ154 9).1 7).toInt).toNat < (((σ4 9).1 6).toInt - ((σ4 9).1 7).toInt).toNat := (by have f0 := j9_6 hJ6 rfl; have f1 := congrArg Int32.toInt (show ((σ4 9).1 6) = ((σ 9).1 6) from (hF5 9 6 rfl).1); have f2 := j9_7 hJ155 rfl; have f3 := congrArg Int32.toInt (show ((σ154 9).1 7) = x152 from sI_s eσ154); have f4 := j9_7 hJ6 rfl; have f5 := j9_6 hJ155 rfl; have f6 := congrArg Int32.toInt (show ((σ154 9).1 6) = ((σ 9).1 6) from (((sI_f eσ154) 9 6 rfl).1).trans ((hF5 9 6 rfl).1)); have f7 := b7; have f8 := b12; have f9 := b25; have f10 := t153; have f11 := j9_6 hJ rfl; have f12 := j9_7 hJ rfl; have f13 := h0; have f14 := b11; have f15 := k20; have f16 := b24; have f17 := k151; have z0 : (0 : Int32).toInt = 0 := (by decide); have z1 : (1 : Int32).toInt = 1 := (by decide); omega)
      exact nl1 (σ154, lf [], lg []) ⟨Fr.tr (Fr.tr (Fr.rf) hF5 (fL_sub rfl)) (sI_f eσ154) (fN_L rfl), hJ155, (show ((σ 9).1 7).toInt ≤ ((σ154 9).1 7).toInt ∧ ((σ154 9).1 7).toInt ≤ ((σ154 9).1 6).toInt ∧ ((σ154 9).1 6).toInt = ((σ 9).1 6).toInt from (by have f0 := j9_6 hJ rfl; have f1 := j9_7 hJ155 rfl; have f2 := congrArg Int32.toInt (show ((σ154 9).1 7) = x152 from sI_s eσ154); have f3 := j9_6 hJ155 rfl; have f4 := congrArg Int32.toInt (show ((σ154 9).1 6) = ((σ 9).1 6) from (((sI_f eσ154) 9 6 rfl).1).trans ((hF5 9 6 rfl).1)); have f5 := j9_7 hJ rfl; have f6 := h0; have f7 := b7; have f8 := j9_6 hJ6 rfl; have f9 := congrArg Int32.toInt (show ((σ4 9).1 6) = ((σ 9).1 6) from (hF5 9 6 rfl).1); have f10 := j9_7 hJ6 rfl; have f11 := b12; have f12 := b25; have f13 := t153; have f14 := b11; have f15 := k20; have f16 := b24; have f17 := k151; have z0 : (0 : Int32).toInt = 0 := (by decide); have z1 : (1 : Int32).toInt = 1 := (by decide); omega)), trivial⟩ (show (((σ154 9).1 6).toInt - ((σ154 9).1 7).toInt).toNat < _ from by first | exact t156 | (rw [← eσ4]; exact t156)) _ _ _ hP hS (lv_sub hl [0] rfl)

