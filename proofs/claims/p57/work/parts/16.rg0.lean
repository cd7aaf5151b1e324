theorem q1837 : Cond.code yX9_laysPart cX9_laysPart 4 none ∈ lw_g := lw_gm (List.mem_of_getElem? (i := 1837) (by decide +kernel)) rfl
theorem q1389 : Cond.fieldLink RX9 384 "LipsAndSlidesModel" "part" "I" ∈ lw_g := lw_gm (List.mem_of_getElem? (i := 1389) (by decide +kernel)) rfl
theorem q1391 : Cond.fieldLink RX9 387 "LipsAndSlidesModel" "sounds" "I" ∈ lw_g := lw_gm (List.mem_of_getElem? (i := 1391) (by decide +kernel)) rfl
theorem q1838 : Cond.methodLink RX9 390 yX9_isRest ∈ lw_g := lw_gm (List.mem_of_getElem? (i := 1838) (by decide +kernel)) rfl
theorem q1840 : Cond.instanceMethod yX9_isRest ∈ lw_g := lw_gm (List.mem_of_getElem? (i := 1840) (by decide +kernel)) rfl
theorem q91 : Cond.selects RX9 yX9_isRest yX9_isRest ∈ lw_g := lw_gm (List.mem_of_getElem? (i := 91) (by decide +kernel)) rfl
theorem q1392 : Cond.fieldLink RX9 65 "LipsAndSlidesModel" "sound" "[I" ∈ lw_g := lw_gm (List.mem_of_getElem? (i := 1392) (by decide +kernel)) rfl
theorem dX9_laysPart_0 : decode cX9_laysPart 0 = .ok (.aload_n 0, 1) := by decide +kernel
theorem dX9_laysPart_1 : decode cX9_laysPart 1 = .ok (.aload_n 0, 1) := by decide +kernel
theorem dX9_laysPart_2 : decode cX9_laysPart 2 = .ok (.getfield 40, 3) := by decide +kernel
theorem dX9_laysPart_5 : decode cX9_laysPart 5 = .ok (.iconst 4, 1) := by decide +kernel
theorem dX9_laysPart_6 : decode cX9_laysPart 6 = .ok (.iload_n 1, 1) := by decide +kernel
theorem dX9_laysPart_7 : decode cX9_laysPart 7 = .ok (.imul, 1) := by decide +kernel
theorem dX9_laysPart_8 : decode cX9_laysPart 8 = .ok (.iaload, 1) := by decide +kernel
theorem dX9_laysPart_9 : decode cX9_laysPart 9 = .ok (.putfield 378, 3) := by decide +kernel
theorem dX9_laysPart_12 : decode cX9_laysPart 12 = .ok (.aload_n 0, 1) := by decide +kernel
theorem dX9_laysPart_13 : decode cX9_laysPart 13 = .ok (.aload_n 0, 1) := by decide +kernel
theorem dX9_laysPart_14 : decode cX9_laysPart 14 = .ok (.getfield 40, 3) := by decide +kernel
theorem dX9_laysPart_17 : decode cX9_laysPart 17 = .ok (.iconst 4, 1) := by decide +kernel
theorem dX9_laysPart_18 : decode cX9_laysPart 18 = .ok (.iload_n 1, 1) := by decide +kernel
theorem dX9_laysPart_19 : decode cX9_laysPart 19 = .ok (.imul, 1) := by decide +kernel
theorem dX9_laysPart_20 : decode cX9_laysPart 20 = .ok (.iconst 1, 1) := by decide +kernel
theorem dX9_laysPart_21 : decode cX9_laysPart 21 = .ok (.iadd, 1) := by decide +kernel
theorem dX9_laysPart_22 : decode cX9_laysPart 22 = .ok (.iaload, 1) := by decide +kernel
theorem dX9_laysPart_23 : decode cX9_laysPart 23 = .ok (.putfield 381, 3) := by decide +kernel
theorem dX9_laysPart_26 : decode cX9_laysPart 26 = .ok (.aload_n 0, 1) := by decide +kernel
theorem dX9_laysPart_27 : decode cX9_laysPart 27 = .ok (.iload_n 2, 1) := by decide +kernel
theorem dX9_laysPart_28 : decode cX9_laysPart 28 = .ok (.putfield 384, 3) := by decide +kernel
theorem dX9_laysPart_31 : decode cX9_laysPart 31 = .ok (.aload_n 0, 1) := by decide +kernel
theorem dX9_laysPart_32 : decode cX9_laysPart 32 = .ok (.iconst 0, 1) := by decide +kernel
theorem dX9_laysPart_33 : decode cX9_laysPart 33 = .ok (.putfield 387, 3) := by decide +kernel
theorem dX9_laysPart_36 : decode cX9_laysPart 36 = .ok (.iconst 0, 1) := by decide +kernel
theorem dX9_laysPart_37 : decode cX9_laysPart 37 = .ok (.istore_n 3, 1) := by decide +kernel
theorem dX9_laysPart_38 : decode cX9_laysPart 38 = .ok (.iload_n 3, 1) := by decide +kernel
theorem dX9_laysPart_39 : decode cX9_laysPart 39 = .ok (.aload_n 0, 1) := by decide +kernel
theorem dX9_laysPart_40 : decode cX9_laysPart 40 = .ok (.getfield 43, 3) := by decide +kernel
theorem dX9_laysPart_43 : decode cX9_laysPart 43 = .ok (.aload_n 0, 1) := by decide +kernel
theorem dX9_laysPart_44 : decode cX9_laysPart 44 = .ok (.getfield 384, 3) := by decide +kernel
theorem dX9_laysPart_47 : decode cX9_laysPart 47 = .ok (.iaload, 1) := by decide +kernel
theorem dX9_laysPart_48 : decode cX9_laysPart 48 = .ok (.if_icmp .ge 148, 3) := by decide +kernel
theorem dX9_laysPart_51 : decode cX9_laysPart 51 = .ok (.aload_n 0, 1) := by decide +kernel
theorem dX9_laysPart_52 : decode cX9_laysPart 52 = .ok (.aload_n 0, 1) := by decide +kernel
theorem dX9_laysPart_53 : decode cX9_laysPart 53 = .ok (.getfield 384, 3) := by decide +kernel
theorem dX9_laysPart_56 : decode cX9_laysPart 56 = .ok (.iload_n 3, 1) := by decide +kernel
theorem dX9_laysPart_57 : decode cX9_laysPart 57 = .ok (.invokevirtual 390, 3) := by decide +kernel
theorem dX9_laysPart_60 : decode cX9_laysPart 60 = .ok (.ifCond .eq 6, 3) := by decide +kernel
theorem dX9_laysPart_63 : decode cX9_laysPart 63 = .ok (.goto 127, 3) := by decide +kernel
theorem dX9_laysPart_66 : decode cX9_laysPart 66 = .ok (.aload_n 0, 1) := by decide +kernel
theorem dX9_laysPart_67 : decode cX9_laysPart 67 = .ok (.getfield 387, 3) := by decide +kernel
theorem dX9_laysPart_70 : decode cX9_laysPart 70 = .ok (.ifCond .le 100, 3) := by decide +kernel
theorem dX9_laysPart_73 : decode cX9_laysPart 73 = .ok (.aload_n 0, 1) := by decide +kernel
theorem dX9_laysPart_74 : decode cX9_laysPart 74 = .ok (.getfield 68, 3) := by decide +kernel
theorem dX9_laysPart_77 : decode cX9_laysPart 77 = .ok (.aload_n 0, 1) := by decide +kernel
theorem dX9_laysPart_78 : decode cX9_laysPart 78 = .ok (.getfield 387, 3) := by decide +kernel
theorem dX9_laysPart_81 : decode cX9_laysPart 81 = .ok (.iconst 1, 1) := by decide +kernel
theorem dX9_laysPart_82 : decode cX9_laysPart 82 = .ok (.isub, 1) := by decide +kernel
theorem dX9_laysPart_83 : decode cX9_laysPart 83 = .ok (.aload_n 0, 1) := by decide +kernel
theorem dX9_laysPart_84 : decode cX9_laysPart 84 = .ok (.aload_n 0, 1) := by decide +kernel
theorem dX9_laysPart_85 : decode cX9_laysPart 85 = .ok (.getfield 384, 3) := by decide +kernel
theorem dX9_laysPart_88 : decode cX9_laysPart 88 = .ok (.iload_n 3, 1) := by decide +kernel
theorem dX9_laysPart_89 : decode cX9_laysPart 89 = .ok (.invokevirtual 326, 3) := by decide +kernel
theorem dX9_laysPart_92 : decode cX9_laysPart 92 = .ok (.aload_n 0, 1) := by decide +kernel
theorem dX9_laysPart_93 : decode cX9_laysPart 93 = .ok (.aload_n 0, 1) := by decide +kernel
theorem dX9_laysPart_94 : decode cX9_laysPart 94 = .ok (.getfield 384, 3) := by decide +kernel
theorem dX9_laysPart_97 : decode cX9_laysPart 97 = .ok (.aload_n 0, 1) := by decide +kernel
theorem dX9_laysPart_98 : decode cX9_laysPart 98 = .ok (.getfield 65, 3) := by decide +kernel
theorem dX9_laysPart_101 : decode cX9_laysPart 101 = .ok (.aload_n 0, 1) := by decide +kernel
theorem dX9_laysPart_102 : decode cX9_laysPart 102 = .ok (.getfield 387, 3) := by decide +kernel
theorem dX9_laysPart_105 : decode cX9_laysPart 105 = .ok (.iconst 1, 1) := by decide +kernel
theorem dX9_laysPart_106 : decode cX9_laysPart 106 = .ok (.isub, 1) := by decide +kernel
theorem dX9_laysPart_107 : decode cX9_laysPart 107 = .ok (.iaload, 1) := by decide +kernel
theorem dX9_laysPart_108 : decode cX9_laysPart 108 = .ok (.invokevirtual 326, 3) := by decide +kernel
theorem dX9_laysPart_111 : decode cX9_laysPart 111 = .ok (.isub, 1) := by decide +kernel
theorem dX9_laysPart_112 : decode cX9_laysPart 112 = .ok (.iastore, 1) := by decide +kernel
theorem dX9_laysPart_113 : decode cX9_laysPart 113 = .ok (.aload_n 0, 1) := by decide +kernel
theorem dX9_laysPart_114 : decode cX9_laysPart 114 = .ok (.getfield 71, 3) := by decide +kernel
theorem dX9_laysPart_117 : decode cX9_laysPart 117 = .ok (.aload_n 0, 1) := by decide +kernel
theorem dX9_laysPart_118 : decode cX9_laysPart 118 = .ok (.getfield 387, 3) := by decide +kernel
theorem dX9_laysPart_121 : decode cX9_laysPart 121 = .ok (.iconst 1, 1) := by decide +kernel
theorem dX9_laysPart_122 : decode cX9_laysPart 122 = .ok (.isub, 1) := by decide +kernel
theorem dX9_laysPart_123 : decode cX9_laysPart 123 = .ok (.aload_n 0, 1) := by decide +kernel
theorem dX9_laysPart_124 : decode cX9_laysPart 124 = .ok (.aload_n 0, 1) := by decide +kernel
theorem dX9_laysPart_125 : decode cX9_laysPart 125 = .ok (.getfield 384, 3) := by decide +kernel
theorem dX9_laysPart_128 : decode cX9_laysPart 128 = .ok (.aload_n 0, 1) := by decide +kernel
theorem dX9_laysPart_129 : decode cX9_laysPart 129 = .ok (.getfield 65, 3) := by decide +kernel
theorem dX9_laysPart_132 : decode cX9_laysPart 132 = .ok (.aload_n 0, 1) := by decide +kernel
theorem dX9_laysPart_133 : decode cX9_laysPart 133 = .ok (.getfield 387, 3) := by decide +kernel
theorem dX9_laysPart_136 : decode cX9_laysPart 136 = .ok (.iconst 1, 1) := by decide +kernel
theorem dX9_laysPart_137 : decode cX9_laysPart 137 = .ok (.isub, 1) := by decide +kernel
theorem dX9_laysPart_138 : decode cX9_laysPart 138 = .ok (.iaload, 1) := by decide +kernel
theorem dX9_laysPart_139 : decode cX9_laysPart 139 = .ok (.iconst 2, 1) := by decide +kernel
theorem dX9_laysPart_140 : decode cX9_laysPart 140 = .ok (.invokevirtual 308, 3) := by decide +kernel
theorem dX9_laysPart_143 : decode cX9_laysPart 143 = .ok (.iconst 1, 1) := by decide +kernel
theorem dX9_laysPart_144 : decode cX9_laysPart 144 = .ok (.if_icmp .ne 24, 3) := by decide +kernel
theorem dX9_laysPart_147 : decode cX9_laysPart 147 = .ok (.iload_n 3, 1) := by decide +kernel
theorem dX9_laysPart_148 : decode cX9_laysPart 148 = .ok (.aload_n 0, 1) := by decide +kernel
theorem dX9_laysPart_149 : decode cX9_laysPart 149 = .ok (.getfield 65, 3) := by decide +kernel
theorem dX9_laysPart_152 : decode cX9_laysPart 152 = .ok (.aload_n 0, 1) := by decide +kernel
theorem dX9_laysPart_153 : decode cX9_laysPart 153 = .ok (.getfield 387, 3) := by decide +kernel
theorem dX9_laysPart_156 : decode cX9_laysPart 156 = .ok (.iconst 1, 1) := by decide +kernel
theorem dX9_laysPart_157 : decode cX9_laysPart 157 = .ok (.isub, 1) := by decide +kernel
theorem dX9_laysPart_158 : decode cX9_laysPart 158 = .ok (.iaload, 1) := by decide +kernel
theorem dX9_laysPart_159 : decode cX9_laysPart 159 = .ok (.iconst 1, 1) := by decide +kernel
theorem dX9_laysPart_160 : decode cX9_laysPart 160 = .ok (.iadd, 1) := by decide +kernel
theorem dX9_laysPart_161 : decode cX9_laysPart 161 = .ok (.if_icmp .ne 7, 3) := by decide +kernel
theorem dX9_laysPart_164 : decode cX9_laysPart 164 = .ok (.iconst 1, 1) := by decide +kernel
theorem dX9_laysPart_165 : decode cX9_laysPart 165 = .ok (.goto 4, 3) := by decide +kernel
theorem dX9_laysPart_168 : decode cX9_laysPart 168 = .ok (.iconst 0, 1) := by decide +kernel
theorem dX9_laysPart_169 : decode cX9_laysPart 169 = .ok (.bastore, 1) := by decide +kernel
theorem dX9_laysPart_170 : decode cX9_laysPart 170 = .ok (.aload_n 0, 1) := by decide +kernel
theorem dX9_laysPart_171 : decode cX9_laysPart 171 = .ok (.getfield 65, 3) := by decide +kernel
theorem dX9_laysPart_174 : decode cX9_laysPart 174 = .ok (.aload_n 0, 1) := by decide +kernel
theorem dX9_laysPart_175 : decode cX9_laysPart 175 = .ok (.getfield 387, 3) := by decide +kernel
theorem dX9_laysPart_178 : decode cX9_laysPart 178 = .ok (.iload_n 3, 1) := by decide +kernel
theorem dX9_laysPart_179 : decode cX9_laysPart 179 = .ok (.iastore, 1) := by decide +kernel
theorem dX9_laysPart_180 : decode cX9_laysPart 180 = .ok (.aload_n 0, 1) := by decide +kernel
theorem dX9_laysPart_181 : decode cX9_laysPart 181 = .ok (.dup, 1) := by decide +kernel
theorem dX9_laysPart_182 : decode cX9_laysPart 182 = .ok (.getfield 387, 3) := by decide +kernel
theorem dX9_laysPart_185 : decode cX9_laysPart 185 = .ok (.iconst 1, 1) := by decide +kernel
theorem dX9_laysPart_186 : decode cX9_laysPart 186 = .ok (.iadd, 1) := by decide +kernel
theorem dX9_laysPart_187 : decode cX9_laysPart 187 = .ok (.putfield 387, 3) := by decide +kernel
theorem dX9_laysPart_190 : decode cX9_laysPart 190 = .ok (.iinc 3 1, 3) := by decide +kernel
theorem dX9_laysPart_193 : decode cX9_laysPart 193 = .ok (.goto (-155), 3) := by decide +kernel
theorem dX9_laysPart_196 : decode cX9_laysPart 196 = .ok (.return_, 1) := by decide +kernel
set_option maxHeartbeats 4000000 in
set_option maxRecDepth 100000 in
theorem m_X9_laysPart (l : Launch) (D : va_G) (cy : Nat → ClassId) (g : Nat → Nat) (σ : ST) (p1 : Int32) (p2 : Int32) (sz : Nat) (hJ : J9 (σ 9)) (kDK0 : DK0 (σ 9)) (h0 : (0 : Int) ≤ p1.toInt ∧ p1.toInt ≤ 8) (h1 : (0 : Int) ≤ p2.toInt ∧ p2.toInt ≤ 2) (h2 : p1.toInt < ((σ 9).2.2.1 17 3).toInt) : Met l yX9_laysPart (ww yX9_laysPart cX9_laysPart 4 none) ({ frames := 3, cells := 0, slots := 0, locals := 192 }) (va_Pc [.ref (g 60), .int p1, .int p2] (pr9 D cy g σ sz)) (qv9 D cy g sz (fun τ => Fr (fL [28, 29, 30, 31, 32, 33, 34]) σ τ ∧ J9 (τ 9) ∧ HK (τ 9) ∧ True)) 0 0 (A9 cy g sz) := by
  refine Met.ofW (cc := cX9_laysPart) (maxL := 4) (ret := none) (by decide) rfl ?_
  intro p e s m args below meth c s₁ B hml hv
  obtain ⟨rfl, hsz, hP, hK, hD0, hC⟩ := hv
  have hx := B.exec
  have hb := B.bytes
  have hr := B.returns
  have hts := hts_g (atoms_spec (ws := ww yX9_laysPart cX9_laysPart 4 none) B.pre)
  have hown : s.vm.findClass RX9 = some m.cls := findClass_of_methodNamed B.named
  have hlocks := B.notSynchronized
  clear B
  subst hsz
  have hD := fun τ => A9_D (sz := s.heap.size) hD0 τ
  clear hD0
  have hS : va_S (A9 cy g s.heap.size) s.heap s.heap [] := va_S.rf
  have hl := lv_entry ([.ref (g 60), .int p1, .int p2]) (n := 4) (Nat.le_of_ble_eq_true rfl)
  rw [lg_entry_eq]
  generalize (lg_sl ([.ref (g 60), .int p1, .int p2]) ++ List.replicate (4 - (lg_sl ([.ref (g 60), .int p1, .int p2])).length) Slot.unset).toArray = ls at hl ⊢
  have hl : lv_has ls 4 [(0, .ref (g 60)), (1, .int p1), (2, .int p2)] := hl
  refine lv_aload_n hx hb dX9_laysPart_0 rfl (lv_at hl 0 rfl) ?_
  refine lv_aload_n hx hb dX9_laysPart_1 rfl (lv_at hl 0 rfl) ?_
  refine g9_19 hx hb hts hown hK hP (hts _ q1379) dX9_laysPart_2 ?_
  refine lv_iconst (v := 4) hx hb dX9_laysPart_5 (by decide) ?_
  refine lv_iload_n hx hb dX9_laysPart_6 rfl (lv_at hl 1 rfl) ?_
  refine lv_imul hx hb dX9_laysPart_7 ?_
  refine lv_topi (fun x1 ex1 => ?_)
  have t2 := mulC' (n := 4) ex1 (by decide) (by have f0 := h0; have f1 := h2; have f2 := a9_17 hJ (j := 3) rfl; have g1 := rg32 p1; omega)
  obtain ⟨x3, ex3⟩ : ∃ z, (σ 9).2.2.1 19 x1.toInt.toNat = z := ⟨_, rfl⟩
  refine l9_19 (x := x3) hx hb hK hP (vpo (by have f0 := t2; have f1 := h0; have f2 := h2; have f3 := a9_17 hJ (j := 3) rfl; have g1 := rg32 x1; omega)) ex3 dX9_laysPart_8 ?_
  have t4 := a9_19 hJ ex3
  refine p9_28 hx hb hts hown hK hP hD hS (hts _ q1388) dX9_laysPart_9 (fun H locs σ5 eσ5 hP hS => ?_)
  have hJ6 : J9 (σ5 9) := hJ.I eσ5 (show JI9 28 x3 from (by have f0 := t4; have f1 := t2; have f2 := h0; have f3 := h2; have f4 := a9_17 hJ (j := 3) rfl; have g1 := rg32 x3; exact ⟨by omega, by omega⟩))
  have T7 : DK0 (σ5 9) := DK0.mv kDK0 ((sI_f eσ5) 9 17 rfl).2.2.1 ((sI_f eσ5) 9 18 rfl).2.2.1 ((sI_f eσ5) 9 19 rfl).2.2.1
  have T8 : HK (σ5 9) := DK0.hk kDK0 (q := p1.toInt.toNat) (by have f0 := a9_17 hJ (j := 3) rfl; have f1 := h0; have f2 := h2; have f3 := t2; have f4 := t4; have g1 := rg32 p1; omega) (show ((σ 9).2.2.1 19 (4 * p1.toInt.toNat)) = x3 from by rw [show 4 * p1.toInt.toNat = x1.toInt.toNat from (by have f0 := h0; have f1 := h2; have f2 := t2; have f3 := t4; have f4 := a9_17 hJ (j := 3) rfl; have g1 := rg32 p1; have g2 := rg32 x1; omega)]; exact ex3) (by have f0 := t4; have f1 := t2; have f2 := h0; have f3 := h2; have f4 := a9_17 hJ (j := 3) rfl; have g1 := rg32 x3; omega) ((sI_f eσ5) 9 18 rfl).2.2.1 (sI_s eσ5)
  refine lv_aload_n hx hb dX9_laysPart_12 rfl (lv_at hl 0 rfl) ?_
  refine lv_aload_n hx hb dX9_laysPart_13 rfl (lv_at hl 0 rfl) ?_
  refine g9_19 hx hb hts hown hK hP (hts _ q1379) dX9_laysPart_14 ?_
  refine lv_iconst (v := 4) hx hb dX9_laysPart_17 (by decide) ?_
  refine lv_iload_n hx hb dX9_laysPart_18 rfl (lv_at hl 1 rfl) ?_
  refine lv_imul hx hb dX9_laysPart_19 ?_
  refine lv_topi (fun x9 ex9 => ?_)
  have t10 := mulC' (n := 4) ex9 (by decide) (by have f0 := h0; have f1 := h2; have f2 := t2; have f3 := a9_17 hJ (j := 3) rfl; have f4 := t4; have g1 := rg32 p1; omega)
  refine lv_iconst (v := 1) hx hb dX9_laysPart_20 (by decide) ?_
  refine lv_iadd hx hb dX9_laysPart_21 ?_
  refine lv_topi (fun x11 ex11 => ?_)
  have t12 := addO ex11 (by have f0 := t10; have f1 := h0; have f2 := h2; have f3 := t2; have f4 := a9_17 hJ (j := 3) rfl; have f5 := t4; have g1 := rg32 x9; have z1 : (1 : Int32).toInt = 1 := (by decide); omega)
  obtain ⟨x13, ex13⟩ : ∃ z, (σ 9).2.2.1 19 x11.toInt.toNat = z := ⟨_, rfl⟩
  refine l9_19 (x := x13) hx hb hK hP (vpo (by have f0 := t12; have f1 := t10; have f2 := h0; have f3 := h2; have f4 := t2; have f5 := a9_17 hJ (j := 3) rfl; have f6 := t4; have g1 := rg32 x11; have z1 : (1 : Int32).toInt = 1 := (by decide); omega)) ((congrFun (((sI_f eσ5) 9 19 rfl).2.2.1) _).trans ex13) dX9_laysPart_22 ?_
  have t14 := a9_19 hJ ex13
  refine p9_30 hx hb hts hown hK hP hD hS (hts _ q1390) dX9_laysPart_23 (fun H locs σ15 eσ15 hP hS => ?_)
  have hJ16 : J9 (σ15 9) := hJ6.I eσ15 (show JI9 30 x13 from trivial)
  have T17 : DK0 (σ15 9) := DK0.mv T7 ((sI_f eσ15) 9 17 rfl).2.2.1 ((sI_f eσ15) 9 18 rfl).2.2.1 ((sI_f eσ15) 9 19 rfl).2.2.1
  have T18 : HK (σ15 9) := HK.mv T8 ((sI_f eσ15) 9 18 rfl).2.2.1 ((sI_f eσ15) 9 28 rfl).1
  refine lv_aload_n hx hb dX9_laysPart_26 rfl (lv_at hl 0 rfl) ?_
  refine lv_iload_n hx hb dX9_laysPart_27 rfl (lv_at hl 2 rfl) ?_
  refine p9_29 hx hb hts hown hK hP hD hS (hts _ q1389) dX9_laysPart_28 (fun H locs σ19 eσ19 hP hS => ?_)
  have hJ20 : J9 (σ19 9) := hJ16.I eσ19 (show JI9 29 p2 from (by have f0 := h1; have g0 := rg32 p2; exact ⟨by omega, by omega⟩))
  have T21 : DK0 (σ19 9) := DK0.mv T17 ((sI_f eσ19) 9 17 rfl).2.2.1 ((sI_f eσ19) 9 18 rfl).2.2.1 ((sI_f eσ19) 9 19 rfl).2.2.1
  have T22 : HK (σ19 9) := HK.mv T18 ((sI_f eσ19) 9 18 rfl).2.2.1 ((sI_f eσ19) 9 28 rfl).1
  refine lv_aload_n hx hb dX9_laysPart_31 rfl (lv_at hl 0 rfl) ?_
  refine lv_iconst (v := 0) hx hb dX9_laysPart_32 (by decide) ?_
  refine p9_31 hx hb hts hown hK hP hD hS (hts _ q1391) dX9_laysPart_33 (fun H locs σ23 eσ23 hP hS => ?_)
  have hJ24 : J9 (σ23 9) := hJ20.I eσ23 (show JI9 31 (0 : Int32) from (by constructor <;> decide))
  have T25 : DK0 (σ23 9) := DK0.mv T21 ((sI_f eσ23) 9 17 rfl).2.2.1 ((sI_f eσ23) 9 18 rfl).2.2.1 ((sI_f eσ23) 9 19 rfl).2.2.1
  have T26 : HK (σ23 9) := HK.mv T22 ((sI_f eσ23) 9 18 rfl).2.2.1 ((sI_f eσ23) 9 28 rfl).1
  refine lv_iconst (v := 0) hx hb dX9_laysPart_36 (by decide) ?_
  refine lv_istore_n (lv' := [(3, .int 0), (0, .ref (g 60)), (1, .int p1), (2, .int p2)]) hx hb dX9_laysPart_37 rfl hl (by decide) rfl (fun ls hl => ?_)
  refine loop9 4 38 (fun x : LZ => [(3, .int (x.2.1 0)), (0, .ref (g 60)), (1, .int p1), (2, .int p2)]) (fun x : LZ => (Fr (fL [31, 32, 33, 34]) σ23 x.1) ∧ (J9 (x.1 9)) ∧ ((0 : Int) ≤ (x.2.1 0).toInt ∧ (x.2.1 0).toInt ≤ 16) ∧ (((x.1 9).1 31).toInt ≤ (x.2.1 0).toInt) ∧ (DK0 (x.1 9)) ∧ (HK (x.1 9)) ∧ True) (fun x : LZ => ((17 : Int) - (x.2.1 0).toInt).toNat) ?_ (σ23, lf [0], lg []) ⟨Fr.rf, hJ24, (show (0 : Int) ≤ (0 : Int32).toInt ∧ (0 : Int32).toInt ≤ 16 from (by have z0 : (0 : Int32).toInt = 0 := (by decide); omega)), (show ((σ23 9).1 31).toInt ≤ (0 : Int32).toInt from (by have f0 := j9_31 hJ24 rfl; have f1 := congrArg Int32.toInt (show ((σ23 9).1 31) = (0 : Int32) from sI_s eσ23); have z0 : (0 : Int32).toInt = 0 := (by decide); omega)), (show DK0 (σ23 9) from T25), (show HK (σ23 9) from T26), trivial⟩ _ _ _ hP hS (lv_sub hl [0, 1, 2, 3] rfl)
  intro y29 hI28 nl27 H locs ls hP hS hl
  obtain ⟨σ30, eσ30⟩ : ∃ z, z = y29.1 := ⟨_, rfl⟩
  rw [← eσ30] at hP hI28
  have hF31 : Fr (fL [31, 32, 33, 34]) σ23 σ30 := hI28.1
  have hJ32 : J9 (σ30 9) := hI28.2.1
  have b33 : (0 : Int) ≤ (y29.2.1 0).toInt ∧ (y29.2.1 0).toInt ≤ 16 := hI28.2.2.1
  have b34 : ((σ30 9).1 31).toInt ≤ (y29.2.1 0).toInt := hI28.2.2.2.1
  have b35 : DK0 (σ30 9) := hI28.2.2.2.2.1
  have b36 : HK (σ30 9) := hI28.2.2.2.2.2.1
  have hl : lv_has ls 4 [(3, .int (y29.2.1 0)), (0, .ref (g 60)), (1, .int p1), (2, .int p2)] := hl
  refine lv_iload_n hx hb dX9_laysPart_38 rfl (lv_at hl 0 rfl) ?_
  refine lv_aload_n hx hb dX9_laysPart_39 rfl (lv_at hl 1 rfl) ?_
  refine g9_20 hx hb hts hown hK hP (hts _ q1380) dX9_laysPart_40 ?_
  refine lv_aload_n hx hb dX9_laysPart_43 rfl (lv_at hl 1 rfl) ?_
  refine g9_29 (x := p2) hx hb hts hown hK hP ((((hF31 9 29 rfl).1).trans (((sI_f eσ23) 9 29 rfl).1)).trans (sI_s eσ19)) (hts _ q1389) dX9_laysPart_44 ?_
  obtain ⟨x37, ex37⟩ : ∃ z, (σ 9).2.2.1 20 p2.toInt.toNat = z := ⟨_, rfl⟩
  refine l9_20 (x := x37) hx hb hK hP (vpo (by have f0 := h1; have g0 := rg32 p2; omega)) ((congrFun (((hF31 9 20 rfl).2.2.1).trans ((((sI_f eσ23) 9 20 rfl).2.2.1).trans ((((sI_f eσ19) 9 20 rfl).2.2.1).trans ((((sI_f eσ15) 9 20 rfl).2.2.1).trans (((sI_f eσ5) 9 20 rfl).2.2.1))))) _).trans ex37) dX9_laysPart_47 ?_
  have t38 := a9_20 hJ ex37
  refine lv_icmp_ge (tgt := 196) hx hb dX9_laysPart_48 (by decide) (fun c39 => ?_) (fun c39 => ?_)
  ·
    have k40 := ple32 c39
    exact W.vret hx hb hr (fun tS ht hW => ⟨⟨σ30, rfl, ⟨Fr.tr (Fr.tr (Fr.tr (Fr.tr (Fr.tr (Fr.rf) (sI_f eσ5) (fN_L rfl)) (sI_f eσ15) (fN_L rfl)) (sI_f eσ19) (fN_L rfl)) (sI_f eσ23) (fN_L rfl)) hF31 (fL_sub rfl), hJ32, b36, trivial⟩, (show va_P D clz (WD9 cy g σ30) tS.heap by rw [ht]; exact hP)⟩, hS.F ht⟩) hS.2.2 dX9_laysPart_196
  ·
    have k41 := nle32 c39
    refine lv_aload_n hx hb dX9_laysPart_51 rfl (lv_at hl 1 rfl) ?_
    refine lv_aload_n hx hb dX9_laysPart_52 rfl (lv_at hl 1 rfl) ?_
    refine g9_29 (x := p2) hx hb hts hown hK hP ((((hF31 9 29 rfl).1).trans (((sI_f eσ23) 9 29 rfl).1)).trans (sI_s eσ19)) (hts _ q1389) dX9_laysPart_53 ?_
    refine lv_iload_n hx hb dX9_laysPart_56 rfl (lv_at hl 0 rfl) ?_
    refine va_calli (va_runV (As := [.int p2, .int (y29.2.1 0)]) (rest := []) ⟨hx, hb, hml, hown, hts⟩ (m_X9_isRest l D cy g σ30 p2 (y29.2.1 0) _ hJ32 (show (0 : Int) ≤ p2.toInt ∧ p2.toInt ≤ 2 from (by have f0 := h1; have f1 := t38; have f2 := k41; have f3 := b33; have f4 := b34; have f5 := j9_31 hJ32 rfl; have g1 := rg32 p2; omega)) (show (0 : Int) ≤ (y29.2.1 0).toInt ∧ (y29.2.1 0).toInt ≤ 15 from (by have f0 := h1; have f1 := b33; have f2 := b34; have f3 := t38; have f4 := k41; have f5 := j9_31 hJ32 rfl; have g1 := rg32 (y29.2.1 0); have g2 := rg32 p2; omega))) (cwV 2 hts (gd_V q1838 q1840 q91 q134 q1841) rfl rfl rfl (by decide +kernel) ⟨Nat.le_of_ble_eq_true rfl, Nat.le_of_ble_eq_true rfl⟩) (pv9 hP hK hD hC hS (va_recv hK hP (ci := 9) (q0 := 0) rfl rfl)) rfl rfl hl.1 rfl (lv_room (Nat.le_of_ble_eq_true rfl)) dX9_laysPart_57 ⟨Nat.le_of_ble_eq_true rfl, Nat.le_of_ble_eq_true rfl⟩) hS (fun q _ h => up9 hS q h) (up9 hS) (fun r42 σ43 tS H1 locs ht hvm hw44 hB hz1 hk1 hS => ?_)
    have hP : va_P D clz (WD9 cy g σ43) H1 := by rw [← ht]; exact hB
    clear hB hz1 hk1 hvm ht
    generalize H1 = H at hP hS ⊢
    have hw44E : σ30 = σ43 := (hw44.1).symm
    subst hw44E
    have b45 : (0 : Int) ≤ r42.toInt ∧ r42.toInt ≤ 1 := hw44.2.1
    refine cut9 (D := D) (cy := cy) (g := g) (A := A9 cy g s.heap.size) (H0 := s.heap) 4 190 (fun x : LZ => [(3, .int (y29.2.1 0)), (0, .ref (g 60)), (1, .int p1), (2, .int p2)]) (fun x : LZ => []) (fun x : LZ => (Fr (fL [31, 32, 33, 34]) σ30 x.1) ∧ (J9 (x.1 9)) ∧ (((x.1 9).1 31).toInt ≤ (y29.2.1 0).toInt + 1) ∧ (DK0 (x.1 9)) ∧ (HK (x.1 9)) ∧ True) ?_ ?_
    ·
      intro y48 hI47 H locs ls hP hS hl
      obtain ⟨σ49, eσ49⟩ : ∃ z, z = y48.1 := ⟨_, rfl⟩
      rw [← eσ49] at hP hI47
      have hF50 : Fr (fL [31, 32, 33, 34]) σ30 σ49 := hI47.1
      have hJ51 : J9 (σ49 9) := hI47.2.1
      have b52 : ((σ49 9).1 31).toInt ≤ (y29.2.1 0).toInt + 1 := hI47.2.2.1
      have b53 : DK0 (σ49 9) := hI47.2.2.2.1
      have b54 : HK (σ49 9) := hI47.2.2.2.2.1
      have hl : lv_has ls 4 [(3, .int (y29.2.1 0)), (0, .ref (g 60)), (1, .int p1), (2, .int p2)] := hl
      obtain ⟨x55, ex55⟩ : ∃ y : Int32, y = (y29.2.1 0) + 1 := ⟨_, rfl⟩
      have t56 := addO ex55 (by have f0 := b33; have f1 := b34; have f2 := k41; have f3 := b52; have f4 := j9_31 hJ32 rfl; have f5 := j9_31 hJ51 rfl; have f6 := t38; have f7 := h1; have g2 := rg32 (y29.2.1 0); have z1 : (1 : Int32).toInt = 1 := (by decide); omega)
      refine lv_iinc (v := x55) (lv' := [(3, .int x55), (0, .ref (g 60)), (1, .int p1), (2, .int p2)]) hx hb dX9_laysPart_190 hl (k := 0) rfl (by rw [ex55]; rfl) (by decide) rfl (fun ls hl => ?_)
      refine lv_goto (tgt := 38) hx hb dX9_laysPart_193 (by decide) ?_
      have t57 : ((17 : Int) - x55.toInt).toNat < ((17 : Int) - (y29.2.1 0).toInt).toNat := (by have f0 := b33; have f1 := b34; have f2 := k41; have f3 := b52; have f4 := t56; have f5 := j9_31 hJ32 rfl; have f6 := j9_31 hJ51 rfl; have f7 := t38; have f8 := h1; have g2 := rg32 (y29.2.1 0); have g3 := rg32 x55; have z1 : (1 : Int32).toInt = 1 := (by decide); omega)
      exact nl27 (σ49, lf [x55], lg []) ⟨Fr.tr (Fr.tr (Fr.rf) hF31 (fL_sub rfl)) hF50 (fL_sub rfl), hJ51, (show (0 : Int) ≤ (x55 : Int32).toInt ∧ (x55 : Int32).toInt ≤ 16 from (by have f0 := t56; have f1 := b33; have f2 := b34; have f3 := k41; have f4 := b52; have f5 := j9_31 hJ32 rfl; have f6 := j9_31 hJ51 rfl; have f7 := t38; have f8 := h1; have g2 := rg32 x55; have z1 : (1 : Int32).toInt = 1 := (by decide); omega)), (show ((σ49 9).1 31).toInt ≤ x55.toInt from (by have f0 := j9_31 hJ51 rfl; have f1 := b52; have f2 := t56; have f3 := b33; have f4 := b34; have f5 := k41; have f6 := j9_31 hJ32 rfl; have f7 := t38; have f8 := h1; have g2 := rg32 x55; have z1 : (1 : Int32).toInt = 1 := (by decide); omega)), (show DK0 (σ49 9) from b53), (show HK (σ49 9) from b54), trivial⟩ (show ((17 : Int) - x55.toInt).toNat < _ from by first | exact t57 | (rw [← eσ30]; exact t57)) _ _ _ hP hS (lv_sub hl [0, 1, 2, 3] rfl)
    ·
      intro nj46
      refine lv_if_eq (tgt := 66) hx hb dX9_laysPart_60 (by decide) (fun c58 => ?_) (fun c58 => ?_)
      ·
        have k59 := peq32 c58
        refine lv_aload_n hx hb dX9_laysPart_66 rfl (lv_at hl 1 rfl) ?_
        refine g9_31 (x := ((σ30 9).1 31)) hx hb hts hown hK hP (rfl) (hts _ q1391) dX9_laysPart_67 ?_
        refine cut9 (D := D) (cy := cy) (g := g) (A := A9 cy g s.heap.size) (H0 := s.heap) 4 170 (fun x : LZ => [(3, .int (y29.2.1 0)), (0, .ref (g 60)), (1, .int p1), (2, .int p2)]) (fun x : LZ => []) (fun x : LZ => (Fr (fL [33, 34]) σ30 x.1) ∧ (J9 (x.1 9)) ∧ (DK0 (x.1 9)) ∧ (HK (x.1 9)) ∧ True) ?_ ?_
        ·
          intro y62 hI61 H locs ls hP hS hl
          obtain ⟨σ63, eσ63⟩ : ∃ z, z = y62.1 := ⟨_, rfl⟩
          rw [← eσ63] at hP hI61
          have hF64 : Fr (fL [33, 34]) σ30 σ63 := hI61.1
          have hJ65 : J9 (σ63 9) := hI61.2.1
          have b66 : DK0 (σ63 9) := hI61.2.2.1
          have b67 : HK (σ63 9) := hI61.2.2.2.1
          have hl : lv_has ls 4 [(3, .int (y29.2.1 0)), (0, .ref (g 60)), (1, .int p1), (2, .int p2)] := hl
          refine lv_aload_n hx hb dX9_laysPart_170 rfl (lv_at hl 1 rfl) ?_
          refine g9_32 hx hb hts hown hK hP (hts _ q1392) dX9_laysPart_171 ?_
          refine lv_aload_n hx hb dX9_laysPart_174 rfl (lv_at hl 1 rfl) ?_
          refine g9_31 (x := ((σ30 9).1 31)) hx hb hts hown hK hP ((hF64 9 31 rfl).1) (hts _ q1391) dX9_laysPart_175 ?_
          refine lv_iload_n hx hb dX9_laysPart_178 rfl (lv_at hl 0 rfl) ?_
          refine t9_32 hx hb hK hP hD hS (vpo (by have f0 := j9_31 hJ32 rfl; have f1 := b34; have f2 := b33; have f3 := k41; have f4 := t38; have f5 := h1; omega)) dX9_laysPart_179 (fun H locs σ68 eσ68 hP hS => ?_)
          have hJ69 : J9 (σ68 9) := hJ65.A eσ68 (show PA9 32 ((σ30 9).1 31).toInt.toNat (y29.2.1 0) from (by have f0 := j9_31 hJ32 rfl; have f1 := b33; have f2 := b34; have f3 := k41; have f4 := t38; have f5 := h1; have g1 := rg32 (y29.2.1 0); exact ⟨by omega, by omega⟩))
          have T70 : DK0 (σ68 9) := DK0.mv b66 ((sA_f eσ68) 9 17 rfl).2.2.1 ((sA_f eσ68) 9 18 rfl).2.2.1 ((sA_f eσ68) 9 19 rfl).2.2.1
          have T71 : HK (σ68 9) := HK.mv b67 ((sA_f eσ68) 9 18 rfl).2.2.1 ((sA_f eσ68) 9 28 rfl).1
          refine lv_aload_n hx hb dX9_laysPart_180 rfl (lv_at hl 1 rfl) ?_
          refine lv_dup hx hb dX9_laysPart_181 rfl ?_
          refine g9_31 (x := ((σ30 9).1 31)) hx hb hts hown hK hP ((((sA_f eσ68) 9 31 rfl).1).trans ((hF64 9 31 rfl).1)) (hts _ q1391) dX9_laysPart_182 ?_
          refine lv_iconst (v := 1) hx hb dX9_laysPart_185 (by decide) ?_
          refine lv_iadd hx hb dX9_laysPart_186 ?_
          refine lv_topi (fun x72 ex72 => ?_)
          have t73 := addO ex72 (by have f0 := j9_31 hJ32 rfl; have f1 := b34; have f2 := b33; have f3 := k41; have f4 := t38; have f5 := h1; have z1 : (1 : Int32).toInt = 1 := (by decide); omega)
          refine p9_31 hx hb hts hown hK hP hD hS (hts _ q1391) dX9_laysPart_187 (fun H locs σ74 eσ74 hP hS => ?_)
          have hJ75 : J9 (σ74 9) := hJ69.I eσ74 (show JI9 31 x72 from (by have f0 := t73; have f1 := j9_31 hJ32 rfl; have f2 := b34; have f3 := b33; have f4 := k41; have f5 := t38; have f6 := h1; have g1 := rg32 x72; have z1 : (1 : Int32).toInt = 1 := (by decide); exact ⟨by omega, by omega⟩))
          have T76 : DK0 (σ74 9) := DK0.mv T70 ((sI_f eσ74) 9 17 rfl).2.2.1 ((sI_f eσ74) 9 18 rfl).2.2.1 ((sI_f eσ74) 9 19 rfl).2.2.1
          have T77 : HK (σ74 9) := HK.mv T71 ((sI_f eσ74) 9 18 rfl).2.2.1 ((sI_f eσ74) 9 28 rfl).1
          exact nj46 (σ74, lf [], lg []) ⟨Fr.tr (Fr.tr (Fr.tr (Fr.rf) hF64 (fL_sub rfl)) (sA_f eσ68) (fN_L rfl)) (sI_f eσ74) (fN_L rfl), hJ75, (show ((σ74 9).1 31).toInt ≤ (y29.2.1 0).toInt + 1 from (by have f0 := j9_31 hJ75 rfl; have f1 := congrArg Int32.toInt (show ((σ74 9).1 31) = x72 from sI_s eσ74); have f2 := b33; have f3 := b34; have f4 := k41; have f5 := j9_31 hJ32 rfl; have f6 := t38; have f7 := t73; have f8 := h1; have g2 := rg32 (y29.2.1 0); have z1 : (1 : Int32).toInt = 1 := (by decide); omega)), (show DK0 (σ74 9) from T76), (show HK (σ74 9) from T77), trivial⟩ _ _ _ hP hS (lv_sub hl [0, 1, 2, 3] rfl)
        ·
          intro nj60
          refine lv_if_le (tgt := 170) hx hb dX9_laysPart_70 (by decide) (fun c78 => ?_) (fun c78 => ?_)
          ·
            have k79 := ple32 c78
            exact nj60 (σ30, lf [], lg []) ⟨Fr.rf, hJ32, (show DK0 (σ30 9) from b35), (show HK (σ30 9) from b36), trivial⟩ _ _ _ hP hS (lv_sub hl [0, 1, 2, 3] rfl)
          ·
            have k80 := nle32 c78
            refine lv_aload_n hx hb dX9_laysPart_73 rfl (lv_at hl 1 rfl) ?_
            refine g9_33 hx hb hts hown hK hP (hts _ q1393) dX9_laysPart_74 ?_
            refine lv_aload_n hx hb dX9_laysPart_77 rfl (lv_at hl 1 rfl) ?_
            refine g9_31 (x := ((σ30 9).1 31)) hx hb hts hown hK hP (rfl) (hts _ q1391) dX9_laysPart_78 ?_
            refine lv_iconst (v := 1) hx hb dX9_laysPart_81 (by decide) ?_
            refine lv_isub hx hb dX9_laysPart_82 ?_
            refine lv_topi (fun x81 ex81 => ?_)
            have t82 := subO ex81 (by have f0 := j9_31 hJ32 rfl; have f1 := b34; have f2 := k80; have f3 := b33; have f4 := k41; have f5 := t38; have f6 := h1; have z0 : (0 : Int32).toInt = 0 := (by decide); have z1 : (1 : Int32).toInt = 1 := (by decide); omega)
            refine lv_aload_n hx hb dX9_laysPart_83 rfl (lv_at hl 1 rfl) ?_
            refine lv_aload_n hx hb dX9_laysPart_84 rfl (lv_at hl 1 rfl) ?_
            refine g9_29 (x := p2) hx hb hts hown hK hP ((((hF31 9 29 rfl).1).trans (((sI_f eσ23) 9 29 rfl).1)).trans (sI_s eσ19)) (hts _ q1389) dX9_laysPart_85 ?_
            refine lv_iload_n hx hb dX9_laysPart_88 rfl (lv_at hl 0 rfl) ?_
            refine va_calli (va_runV (As := [.int p2, .int (y29.2.1 0)]) (rest := [.int x81, .ref (g 33)]) ⟨hx, hb, hml, hown, hts⟩ (m_X9_beginOf l D cy g σ30 p2 (y29.2.1 0) _ hJ32 (show (0 : Int) ≤ p2.toInt ∧ p2.toInt ≤ 2 from (by have f0 := h1; have f1 := t38; have f2 := k41; have f3 := b33; have f4 := b34; have f5 := j9_31 hJ32 rfl; have f6 := k80; have f7 := t82; have g0 := rg32 p2; have z0 : (0 : Int32).toInt = 0 := (by decide); have z1 : (1 : Int32).toInt = 1 := (by decide); omega)) (show (0 : Int) ≤ (y29.2.1 0).toInt ∧ (y29.2.1 0).toInt ≤ 16 from (by have f0 := h1; have f1 := b33; have f2 := b34; have f3 := t38; have f4 := k41; have f5 := j9_31 hJ32 rfl; have f6 := k80; have f7 := t82; have g0 := rg32 (y29.2.1 0); have g1 := rg32 p2; have z0 : (0 : Int32).toInt = 0 := (by decide); have z1 : (1 : Int32).toInt = 1 := (by decide); omega))) (cwV 2 hts (gd_V q1731 q1733 q76 q134 q1734) rfl rfl rfl (by decide +kernel) ⟨Nat.le_of_ble_eq_true rfl, Nat.le_of_ble_eq_true rfl⟩) (pv9 hP hK hD hC hS (va_recv hK hP (ci := 9) (q0 := 0) rfl rfl)) rfl rfl hl.1 rfl (lv_room (Nat.le_of_ble_eq_true rfl)) dX9_laysPart_89 ⟨Nat.le_of_ble_eq_true rfl, Nat.le_of_ble_eq_true rfl⟩) hS (fun q _ h => up9 hS q h) (up9 hS) (fun r83 σ84 tS H1 locs ht hvm hw85 hB hz1 hk1 hS => ?_)
            have hP : va_P D clz (WD9 cy g σ84) H1 := by rw [← ht]; exact hB
            clear hB hz1 hk1 hvm ht
            generalize H1 = H at hP hS ⊢
            have hw85E : σ30 = σ84 := (hw85.1).symm
            subst hw85E
            refine lv_aload_n hx hb dX9_laysPart_92 rfl (lv_at hl 1 rfl) ?_
            refine lv_aload_n hx hb dX9_laysPart_93 rfl (lv_at hl 1 rfl) ?_
            refine g9_29 (x := p2) hx hb hts hown hK hP ((((hF31 9 29 rfl).1).trans (((sI_f eσ23) 9 29 rfl).1)).trans (sI_s eσ19)) (hts _ q1389) dX9_laysPart_94 ?_
            refine lv_aload_n hx hb dX9_laysPart_97 rfl (lv_at hl 1 rfl) ?_
            refine g9_32 hx hb hts hown hK hP (hts _ q1392) dX9_laysPart_98 ?_
            refine lv_aload_n hx hb dX9_laysPart_101 rfl (lv_at hl 1 rfl) ?_
            refine g9_31 (x := ((σ30 9).1 31)) hx hb hts hown hK hP (rfl) (hts _ q1391) dX9_laysPart_102 ?_
            refine lv_iconst (v := 1) hx hb dX9_laysPart_105 (by decide) ?_
            refine lv_isub hx hb dX9_laysPart_106 ?_
            refine lv_topi (fun x86 ex86 => ?_)
            have t87 := subO ex86 (by have f0 := j9_31 hJ32 rfl; have f1 := b34; have f2 := k80; have f3 := t82; have f4 := b33; have f5 := k41; have f6 := t38; have f7 := h1; have z0 : (0 : Int32).toInt = 0 := (by decide); have z1 : (1 : Int32).toInt = 1 := (by decide); omega)
            obtain ⟨x88, ex88⟩ : ∃ z, (σ30 9).2.2.1 32 x86.toInt.toNat = z := ⟨_, rfl⟩
            refine l9_32 (x := x88) hx hb hK hP (vpo (by have f0 := t87; have f1 := j9_31 hJ32 rfl; have f2 := b34; have f3 := k80; have f4 := t82; have f5 := b33; have f6 := k41; have f7 := t38; have f8 := h1; have g0 := rg32 x86; have z0 : (0 : Int32).toInt = 0 := (by decide); have z1 : (1 : Int32).toInt = 1 := (by decide); omega)) ex88 dX9_laysPart_107 ?_
            have t89 := a9_32 hJ32 ex88
            refine va_calli (va_runV (As := [.int p2, .int x88]) (rest := [.int r83, .int x81, .ref (g 33)]) ⟨hx, hb, hml, hown, hts⟩ (m_X9_beginOf l D cy g σ30 p2 x88 _ hJ32 (show (0 : Int) ≤ p2.toInt ∧ p2.toInt ≤ 2 from (by have f0 := h1; have f1 := t38; have f2 := k41; have f3 := b33; have f4 := b34; have f5 := j9_31 hJ32 rfl; have f6 := k80; have f7 := t82; have f8 := t87; have f9 := t89; have g0 := rg32 p2; have z0 : (0 : Int32).toInt = 0 := (by decide); have z1 : (1 : Int32).toInt = 1 := (by decide); omega)) (show (0 : Int) ≤ x88.toInt ∧ x88.toInt ≤ 16 from (by have f0 := h1; have f1 := t38; have f2 := t89; have f3 := k41; have f4 := t87; have f5 := j9_31 hJ32 rfl; have f6 := b33; have f7 := b34; have f8 := k80; have f9 := t82; have g0 := rg32 p2; have g1 := rg32 x88; have z0 : (0 : Int32).toInt = 0 := (by decide); have z1 : (1 : Int32).toInt = 1 := (by decide); omega))) (cwV 2 hts (gd_V q1731 q1733 q76 q134 q1734) rfl rfl rfl (by decide +kernel) ⟨Nat.le_of_ble_eq_true rfl, Nat.le_of_ble_eq_true rfl⟩) (pv9 hP hK hD hC hS (va_recv hK hP (ci := 9) (q0 := 0) rfl rfl)) rfl rfl hl.1 rfl (lv_room (Nat.le_of_ble_eq_true rfl)) dX9_laysPart_108 ⟨Nat.le_of_ble_eq_true rfl, Nat.le_of_ble_eq_true rfl⟩) hS (fun q _ h => up9 hS q h) (up9 hS) (fun r90 σ91 tS H1 locs ht hvm hw92 hB hz1 hk1 hS => ?_)
            have hP : va_P D clz (WD9 cy g σ91) H1 := by rw [← ht]; exact hB
            clear hB hz1 hk1 hvm ht
            generalize H1 = H at hP hS ⊢
            have hw92E : σ30 = σ91 := (hw92.1).symm
            subst hw92E
            refine lv_isub hx hb dX9_laysPart_111 ?_
            refine lv_topi (fun x93 ex93 => ?_)
            refine t9_33 hx hb hK hP hD hS (vpo (by have f0 := t82; have f1 := j9_31 hJ32 rfl; have f2 := b34; have f3 := k80; have f4 := t87; have f5 := b33; have f6 := k41; have f7 := t89; have f8 := t38; have f9 := h1; have g0 := rg32 x81; have z0 : (0 : Int32).toInt = 0 := (by decide); have z1 : (1 : Int32).toInt = 1 := (by decide); omega)) dX9_laysPart_112 (fun H locs σ94 eσ94 hP hS => ?_)
            have hJ95 : J9 (σ94 9) := hJ32.A eσ94 trivial
            have T96 : DK0 (σ94 9) := DK0.mv b35 ((sA_f eσ94) 9 17 rfl).2.2.1 ((sA_f eσ94) 9 18 rfl).2.2.1 ((sA_f eσ94) 9 19 rfl).2.2.1
            have T97 : HK (σ94 9) := HK.mv b36 ((sA_f eσ94) 9 18 rfl).2.2.1 ((sA_f eσ94) 9 28 rfl).1
            refine lv_aload_n hx hb dX9_laysPart_113 rfl (lv_at hl 1 rfl) ?_
            refine g9_34 hx hb hts hown hK hP (hts _ q1394) dX9_laysPart_114 ?_
            refine lv_aload_n hx hb dX9_laysPart_117 rfl (lv_at hl 1 rfl) ?_
            refine g9_31 (x := ((σ30 9).1 31)) hx hb hts hown hK hP (((sA_f eσ94) 9 31 rfl).1) (hts _ q1391) dX9_laysPart_118 ?_
            refine lv_iconst (v := 1) hx hb dX9_laysPart_121 (by decide) ?_
            refine lv_isub hx hb dX9_laysPart_122 ?_
            refine lv_topi (fun x98 ex98 => ?_)
            have t99 := subO ex98 (by have f0 := j9_31 hJ32 rfl; have f1 := b34; have f2 := k80; have f3 := t82; have f4 := t87; have f5 := b33; have f6 := k41; have f7 := t89; have f8 := t38; have f9 := h1; have z0 : (0 : Int32).toInt = 0 := (by decide); have z1 : (1 : Int32).toInt = 1 := (by decide); omega)
            refine lv_aload_n hx hb dX9_laysPart_123 rfl (lv_at hl 1 rfl) ?_
            refine lv_aload_n hx hb dX9_laysPart_124 rfl (lv_at hl 1 rfl) ?_
            refine g9_29 (x := p2) hx hb hts hown hK hP (((((sA_f eσ94) 9 29 rfl).1).trans (((hF31 9 29 rfl).1).trans (((sI_f eσ23) 9 29 rfl).1))).trans (sI_s eσ19)) (hts _ q1389) dX9_laysPart_125 ?_
            refine lv_aload_n hx hb dX9_laysPart_128 rfl (lv_at hl 1 rfl) ?_
            refine g9_32 hx hb hts hown hK hP (hts _ q1392) dX9_laysPart_129 ?_
            refine lv_aload_n hx hb dX9_laysPart_132 rfl (lv_at hl 1 rfl) ?_
            refine g9_31 (x := ((σ30 9).1 31)) hx hb hts hown hK hP (((sA_f eσ94) 9 31 rfl).1) (hts _ q1391) dX9_laysPart_133 ?_
            refine lv_iconst (v := 1) hx hb dX9_laysPart_136 (by decide) ?_
            refine lv_isub hx hb dX9_laysPart_137 ?_
            refine lv_topi (fun x100 ex100 => ?_)
            have t101 := subO ex100 (by have f0 := j9_31 hJ32 rfl; have f1 := b34; have f2 := k80; have f3 := t82; have f4 := t87; have f5 := t99; have f6 := b33; have f7 := k41; have f8 := t89; have f9 := t38; have f10 := h1; have z0 : (0 : Int32).toInt = 0 := (by decide); have z1 : (1 : Int32).toInt = 1 := (by decide); omega)
            obtain ⟨x102, ex102⟩ : ∃ z, (σ30 9).2.2.1 32 x100.toInt.toNat = z := ⟨_, rfl⟩
            refine l9_32 (x := x102) hx hb hK hP (vpo (by have f0 := t101; have f1 := j9_31 hJ32 rfl; have f2 := b34; have f3 := k80; have f4 := t82; have f5 := t87; have f6 := t99; have f7 := b33; have f8 := k41; have f9 := t89; have f10 := t38; have f11 := h1; have g0 := rg32 x100; have z0 : (0 : Int32).toInt = 0 := (by decide); have z1 : (1 : Int32).toInt = 1 := (by decide); omega)) ((congrFun (((sA_f eσ94) 9 32 rfl).2.2.1) _).trans ex102) dX9_laysPart_138 ?_
            have t103 := a9_32 hJ32 ex102
            refine lv_iconst (v := 2) hx hb dX9_laysPart_139 (by decide) ?_
            refine va_calli (va_runV (As := [.int p2, .int x102, .int 2]) (rest := [.int x98, .ref (g 34)]) ⟨hx, hb, hml, hown, hts⟩ (m_X9_toneOf l D cy g σ94 p2 x102 (2) _ hJ95 (show (0 : Int) ≤ p2.toInt ∧ p2.toInt ≤ 2 from (by have f0 := h1; have f1 := t38; have f2 := k41; have f3 := b33; have f4 := b34; have f5 := j9_31 hJ32 rfl; have f6 := k80; have f7 := t82; have f8 := t87; have f9 := t99; have f10 := t101; have f11 := t89; have f12 := t103; have g0 := rg32 p2; have z0 : (0 : Int32).toInt = 0 := (by decide); have z1 : (1 : Int32).toInt = 1 := (by decide); omega)) (show (0 : Int) ≤ x102.toInt ∧ x102.toInt ≤ 15 from (by have f0 := h1; have f1 := t38; have f2 := t103; have f3 := k41; have f4 := t101; have f5 := j9_31 hJ32 rfl; have f6 := b33; have f7 := b34; have f8 := k80; have f9 := t82; have f10 := t87; have f11 := t99; have f12 := t89; have g0 := rg32 p2; have g1 := rg32 x102; have z0 : (0 : Int32).toInt = 0 := (by decide); have z1 : (1 : Int32).toInt = 1 := (by decide); omega)) (show (0 : Int) ≤ (2 : Int32).toInt ∧ (2 : Int32).toInt ≤ 3 from (by have f0 := h1; have f1 := t38; have f2 := t103; have f3 := k41; have f4 := t101; have f5 := j9_31 hJ32 rfl; have f6 := b33; have f7 := b34; have f8 := k80; have f9 := t82; have f10 := t87; have f11 := t99; have f12 := t89; have g0 := rg32 p2; have g1 := rg32 x102; have z0 : (0 : Int32).toInt = 0 := (by decide); have z1 : (1 : Int32).toInt = 1 := (by decide); have z2 : (2 : Int32).toInt = 2 := (by decide); omega))) (cwV 3 hts (gd_V q1727 q1729 q75 q134 q1730) rfl rfl rfl (by decide +kernel) ⟨Nat.le_of_ble_eq_true rfl, Nat.le_of_ble_eq_true rfl⟩) (pv9 hP hK hD hC hS (va_recv hK hP (ci := 9) (q0 := 0) rfl rfl)) rfl rfl hl.1 rfl (lv_room (Nat.le_of_ble_eq_true rfl)) dX9_laysPart_140 ⟨Nat.le_of_ble_eq_true rfl, Nat.le_of_ble_eq_true rfl⟩) hS (fun q _ h => up9 hS q h) (up9 hS) (fun r104 σ105 tS H1 locs ht hvm hw106 hB hz1 hk1 hS => ?_)
            have hP : va_P D clz (WD9 cy g σ105) H1 := by rw [← ht]; exact hB
            clear hB hz1 hk1 hvm ht
            generalize H1 = H at hP hS ⊢
            have hw106E : σ94 = σ105 := (hw106.1).symm
            subst hw106E
            have b107 : (-1 : Int) ≤ r104.toInt ∧ r104.toInt ≤ 60 := hw106.2.1
            have b108 : ¬ (2 : Int32).toInt = 1 ∨ 0 ≤ r104.toInt := hw106.2.2.1
            refine lv_iconst (v := 1) hx hb dX9_laysPart_143 (by decide) ?_
            refine cut9 (D := D) (cy := cy) (g := g) (A := A9 cy g s.heap.size) (H0 := s.heap) 4 169 (fun x : LZ => [(3, .int (y29.2.1 0)), (0, .ref (g 60)), (1, .int p1), (2, .int p2)]) (fun x : LZ => [.int (x.2.1 0), .int x98, .ref (g 34)]) (fun x : LZ => (x.1 = σ94) ∧ ((0 : Int) ≤ (x.2.1 0).toInt ∧ (x.2.1 0).toInt ≤ 1) ∧ (DK0 (σ94 9)) ∧ (HK (σ94 9)) ∧ True) ?_ ?_
            ·
              intro y111 hI110 H locs ls hP hS hl
              rw [show y111.1 = σ94 from hI110.1] at hP
              have b112 : (0 : Int) ≤ (y111.2.1 0).toInt ∧ (y111.2.1 0).toInt ≤ 1 := hI110.2.1
              have b113 : DK0 (σ94 9) := hI110.2.2.1
              have b114 : HK (σ94 9) := hI110.2.2.2.1
              have hl : lv_has ls 4 [(3, .int (y29.2.1 0)), (0, .ref (g 60)), (1, .int p1), (2, .int p2)] := hl
              refine W.eq (g2 := F0 m 169 ls [.int (y111.2.1 0), .int x98, .ref (g 34)]) rfl ?_
              refine t9_34 hx hb hK hP hD hS (vpo (by have f0 := t99; have f1 := j9_31 hJ32 rfl; have f2 := b34; have f3 := k80; have f4 := t82; have f5 := t87; have f6 := t101; have f7 := b33; have f8 := k41; have f9 := t89; have f10 := t103; have f11 := t38; have f12 := h1; have g0 := rg32 x98; have z0 : (0 : Int32).toInt = 0 := (by decide); have z1 : (1 : Int32).toInt = 1 := (by decide); omega)) dX9_laysPart_169 (fun H locs σ115 eσ115 hP hS => ?_)
              have hJ116 : J9 (σ115 9) := hJ95.A eσ115 trivial
              have T117 : DK0 (σ115 9) := DK0.mv b113 ((sA_f eσ115) 9 17 rfl).2.2.1 ((sA_f eσ115) 9 18 rfl).2.2.1 ((sA_f eσ115) 9 19 rfl).2.2.1
              have T118 : HK (σ115 9) := HK.mv b114 ((sA_f eσ115) 9 18 rfl).2.2.1 ((sA_f eσ115) 9 28 rfl).1
              exact nj60 (σ115, lf [], lg []) ⟨Fr.tr (Fr.tr (Fr.rf) (sA_f eσ94) (fN_L rfl)) (sA_f eσ115) (fN_L rfl), hJ116, (show DK0 (σ115 9) from T117), (show HK (σ115 9) from T118), trivial⟩ _ _ _ hP hS (lv_sub hl [0, 1, 2, 3] rfl)
            ·
              intro nj109
              refine cut9 (D := D) (cy := cy) (g := g) (A := A9 cy g s.heap.size) (H0 := s.heap) 4 168 (fun x : LZ => [(3, .int (y29.2.1 0)), (0, .ref (g 60)), (1, .int p1), (2, .int p2)]) (fun x : LZ => [.int x98, .ref (g 34)]) (fun x : LZ => (x.1 = σ94) ∧ (DK0 (σ94 9)) ∧ (HK (σ94 9)) ∧ True) ?_ ?_
              ·
                intro y121 hI120 H locs ls hP hS hl
                rw [show y121.1 = σ94 from hI120.1] at hP
                have b122 : DK0 (σ94 9) := hI120.2.1
                have b123 : HK (σ94 9) := hI120.2.2.1
                have hl : lv_has ls 4 [(3, .int (y29.2.1 0)), (0, .ref (g 60)), (1, .int p1), (2, .int p2)] := hl
                refine W.eq (g2 := F0 m 168 ls [.int x98, .ref (g 34)]) rfl ?_
                refine lv_iconst (v := 0) hx hb dX9_laysPart_168 (by decide) ?_
                exact nj109 (σ94, lf [0], lg []) ⟨rfl, (show (0 : Int) ≤ (0 : Int32).toInt ∧ (0 : Int32).toInt ≤ 1 from (by have z0 : (0 : Int32).toInt = 0 := (by decide); omega)), (show DK0 (σ94 9) from b122), (show HK (σ94 9) from b123), trivial⟩ _ _ _ hP hS (lv_sub hl [0, 1, 2, 3] rfl)
              ·
                intro nj119
                refine lv_icmp_ne (tgt := 168) hx hb dX9_laysPart_144 (by decide) (fun c124 => ?_) (fun c124 => ?_)
                ·
                  have k125 := neq32 c124
                  exact nj119 (σ94, lf [], lg []) ⟨rfl, (show DK0 (σ94 9) from T96), (show HK (σ94 9) from T97), trivial⟩ _ _ _ hP hS (lv_sub hl [0, 1, 2, 3] rfl)
                ·
                  have k126 := peq32 c124
                  refine lv_iload_n hx hb dX9_laysPart_147 rfl (lv_at hl 0 rfl) ?_
                  refine lv_aload_n hx hb dX9_laysPart_148 rfl (lv_at hl 1 rfl) ?_
                  refine g9_32 hx hb hts hown hK hP (hts _ q1392) dX9_laysPart_149 ?_
                  refine lv_aload_n hx hb dX9_laysPart_152 rfl (lv_at hl 1 rfl) ?_
                  refine g9_31 (x := ((σ30 9).1 31)) hx hb hts hown hK hP (((sA_f eσ94) 9 31 rfl).1) (hts _ q1391) dX9_laysPart_153 ?_
                  refine lv_iconst (v := 1) hx hb dX9_laysPart_156 (by decide) ?_
                  refine lv_isub hx hb dX9_laysPart_157 ?_
                  refine lv_topi (fun x127 ex127 => ?_)
                  have t128 := subO ex127 (by have f0 := j9_31 hJ32 rfl; have f1 := b34; have f2 := k80; have f3 := t82; have f4 := t87; have f5 := t99; have f6 := t101; have f7 := b33; have f8 := k41; have f9 := t89; have f10 := t103; have f11 := t38; have f12 := h1; have z0 : (0 : Int32).toInt = 0 := (by decide); have z1 : (1 : Int32).toInt = 1 := (by decide); omega)
                  obtain ⟨x129, ex129⟩ : ∃ z, (σ30 9).2.2.1 32 x127.toInt.toNat = z := ⟨_, rfl⟩
                  refine l9_32 (x := x129) hx hb hK hP (vpo (by have f0 := t128; have f1 := j9_31 hJ32 rfl; have f2 := b34; have f3 := k80; have f4 := t82; have f5 := t87; have f6 := t99; have f7 := t101; have f8 := b33; have f9 := k41; have f10 := t89; have f11 := t103; have f12 := t38; have f13 := h1; have g0 := rg32 x127; have z0 : (0 : Int32).toInt = 0 := (by decide); have z1 : (1 : Int32).toInt = 1 := (by decide); omega)) ((congrFun (((sA_f eσ94) 9 32 rfl).2.2.1) _).trans ex129) dX9_laysPart_158 ?_
                  have t130 := a9_32 hJ32 ex129
                  refine lv_iconst (v := 1) hx hb dX9_laysPart_159 (by decide) ?_
                  refine lv_iadd hx hb dX9_laysPart_160 ?_
                  refine lv_topi (fun x131 ex131 => ?_)
                  have t132 := addO ex131 (by have f0 := t130; have f1 := t128; have f2 := j9_31 hJ32 rfl; have f3 := b34; have f4 := k80; have f5 := t82; have f6 := t87; have f7 := t99; have f8 := t101; have f9 := b33; have f10 := k41; have f11 := t89; have f12 := t103; have f13 := t38; have f14 := h1; have g0 := rg32 x129; have z0 : (0 : Int32).toInt = 0 := (by decide); have z1 : (1 : Int32).toInt = 1 := (by decide); omega)
                  refine lv_icmp_ne (tgt := 168) hx hb dX9_laysPart_161 (by decide) (fun c133 => ?_) (fun c133 => ?_)
                  ·
                    have k134 := neq32 c133
                    exact nj119 (σ94, lf [], lg []) ⟨rfl, (show DK0 (σ94 9) from T96), (show HK (σ94 9) from T97), trivial⟩ _ _ _ hP hS (lv_sub hl [0, 1, 2, 3] rfl)
                  ·
                    have k135 := peq32 c133
                    refine lv_iconst (v := 1) hx hb dX9_laysPart_164 (by decide) ?_
                    refine lv_goto (tgt := 169) hx hb dX9_laysPart_165 (by decide) ?_
                    exact nj109 (σ94, lf [1], lg []) ⟨rfl, (show (0 : Int) ≤ (1 : Int32).toInt ∧ (1 : Int32).toInt ≤ 1 from (by have z1 : (1 : Int32).toInt = 1 := (by decide); omega)), (show DK0 (σ94 9) from T96), (show HK (σ94 9) from T97), trivial⟩ _ _ _ hP hS (lv_sub hl [0, 1, 2, 3] rfl)
      ·
        have k136 := neq32 c58
        refine lv_goto (tgt := 190) hx hb dX9_laysPart_63 (by decide) ?_
        exact nj46 (σ30, lf [], lg []) ⟨Fr.rf, hJ32, (show ((σ30 9).1 31).toInt ≤ (y29.2.1 0).toInt + 1 from (by have f0 := j9_31 hJ32 rfl; have f1 := b33; have f2 := b34; have f3 := k41; have f4 := t38; have f5 := h1; have g1 := rg32 (y29.2.1 0); omega)), (show DK0 (σ30 9) from b35), (show HK (σ30 9) from b36), trivial⟩ _ _ _ hP hS (lv_sub hl [0, 1, 2, 3] rfl)

theorem q1845 : Cond.code yX9_laysAll cX9_laysAll 4 none ∈ lw_g := lw_gm (List.mem_of_getElem? (i := 1845) (by decide +kernel)) rfl
theorem dX9_laysAll_0 : decode cX9_laysAll 0 = .ok (.iconst 0, 1) := by decide +kernel
theorem dX9_laysAll_1 : decode cX9_laysAll 1 = .ok (.istore_n 3, 1) := by decide +kernel
theorem dX9_laysAll_2 : decode cX9_laysAll 2 = .ok (.iload_n 3, 1) := by decide +kernel
theorem dX9_laysAll_3 : decode cX9_laysAll 3 = .ok (.aload_n 0, 1) := by decide +kernel
theorem dX9_laysAll_4 : decode cX9_laysAll 4 = .ok (.getfield 387, 3) := by decide +kernel
theorem dX9_laysAll_7 : decode cX9_laysAll 7 = .ok (.if_icmp .ge 36, 3) := by decide +kernel
theorem dX9_laysAll_10 : decode cX9_laysAll 10 = .ok (.aload_n 0, 1) := by decide +kernel
theorem dX9_laysAll_11 : decode cX9_laysAll 11 = .ok (.iload_n 3, 1) := by decide +kernel
theorem dX9_laysAll_12 : decode cX9_laysAll 12 = .ok (.aload_n 0, 1) := by decide +kernel
theorem dX9_laysAll_13 : decode cX9_laysAll 13 = .ok (.getfield 378, 3) := by decide +kernel
theorem dX9_laysAll_16 : decode cX9_laysAll 16 = .ok (.aload_n 0, 1) := by decide +kernel
theorem dX9_laysAll_17 : decode cX9_laysAll 17 = .ok (.aload_n 0, 1) := by decide +kernel
theorem dX9_laysAll_18 : decode cX9_laysAll 18 = .ok (.getfield 384, 3) := by decide +kernel
theorem dX9_laysAll_21 : decode cX9_laysAll 21 = .ok (.aload_n 0, 1) := by decide +kernel
theorem dX9_laysAll_22 : decode cX9_laysAll 22 = .ok (.getfield 65, 3) := by decide +kernel
theorem dX9_laysAll_25 : decode cX9_laysAll 25 = .ok (.iload_n 3, 1) := by decide +kernel
theorem dX9_laysAll_26 : decode cX9_laysAll 26 = .ok (.iaload, 1) := by decide +kernel
theorem dX9_laysAll_27 : decode cX9_laysAll 27 = .ok (.iconst 0, 1) := by decide +kernel
theorem dX9_laysAll_28 : decode cX9_laysAll 28 = .ok (.invokevirtual 308, 3) := by decide +kernel
theorem dX9_laysAll_31 : decode cX9_laysAll 31 = .ok (.iload_n 2, 1) := by decide +kernel
theorem dX9_laysAll_32 : decode cX9_laysAll 32 = .ok (.iadd, 1) := by decide +kernel
theorem dX9_laysAll_33 : decode cX9_laysAll 33 = .ok (.iload_n 1, 1) := by decide +kernel
theorem dX9_laysAll_34 : decode cX9_laysAll 34 = .ok (.invokevirtual 371, 3) := by decide +kernel
theorem dX9_laysAll_37 : decode cX9_laysAll 37 = .ok (.iinc 3 1, 3) := by decide +kernel
theorem dX9_laysAll_40 : decode cX9_laysAll 40 = .ok (.goto (-38), 3) := by decide +kernel
theorem dX9_laysAll_43 : decode cX9_laysAll 43 = .ok (.return_, 1) := by decide +kernel
set_option maxHeartbeats 4000000 in
set_option maxRecDepth 100000 in
theorem m_X9_laysAll (l : Launch) (D : va_G) (cy : Nat → ClassId) (g : Nat → Nat) (σ : ST) (p1 : Int32) (p2 : Int32) (sz : Nat) (hJ : J9 (σ 9)) (kHK : HK (σ 9)) : Met l yX9_laysAll (ww yX9_laysAll cX9_laysAll 4 none) ({ frames := 4, cells := 0, slots := 0, locals := 256 }) (va_Pc [.ref (g 60), .int p1, .int p2] (pr9 D cy g σ sz)) (qv9 D cy g sz (fun τ => Fr (fL [23, 24, 25, 26, 27]) σ τ ∧ J9 (τ 9) ∧ True)) 0 0 (A9 cy g sz) := by
  refine Met.ofW (cc := cX9_laysAll) (maxL := 4) (ret := none) (by decide) rfl ?_
  intro p e s m args below meth c s₁ B hml hv
  obtain ⟨rfl, hsz, hP, hK, hD0, hC⟩ := hv
  have hx := B.exec
  have hb := B.bytes
  have hr := B.returns
  have hts := hts_g (atoms_spec (ws := ww yX9_laysAll cX9_laysAll 4 none) B.pre)
  have hown : s.vm.findClass RX9 = some m.cls := findClass_of_methodNamed B.named
  have hlocks := B.notSynchronized
  clear B
  subst hsz
  have hD := fun τ => A9_D (sz := s.heap.size) hD0 τ
  clear hD0
  have hS : va_S (A9 cy g s.heap.size) s.heap s.heap [] := va_S.rf
  have hl := lv_entry ([.ref (g 60), .int p1, .int p2]) (n := 4) (Nat.le_of_ble_eq_true rfl)
  rw [lg_entry_eq]
  generalize (lg_sl ([.ref (g 60), .int p1, .int p2]) ++ List.replicate (4 - (lg_sl ([.ref (g 60), .int p1, .int p2])).length) Slot.unset).toArray = ls at hl ⊢
  have hl : lv_has ls 4 [(0, .ref (g 60)), (1, .int p1), (2, .int p2)] := hl
  refine lv_iconst (v := 0) hx hb dX9_laysAll_0 (by decide) ?_
  refine lv_istore_n (lv' := [(3, .int 0), (0, .ref (g 60)), (1, .int p1), (2, .int p2)]) hx hb dX9_laysAll_1 rfl hl (by decide) rfl (fun ls hl => ?_)
  refine loop9 4 2 (fun x : LZ => [(3, .int (x.2.1 0)), (0, .ref (g 60)), (1, .int p1), (2, .int p2)]) (fun x : LZ => (Fr (fL [23, 24, 25, 26, 27]) σ x.1) ∧ (J9 (x.1 9)) ∧ ((0 : Int) ≤ (x.2.1 0).toInt ∧ (x.2.1 0).toInt ≤ 16) ∧ (HK (x.1 9)) ∧ True) (fun x : LZ => ((17 : Int) - (x.2.1 0).toInt).toNat) ?_ (σ, lf [0], lg []) ⟨Fr.rf, hJ, (show (0 : Int) ≤ (0 : Int32).toInt ∧ (0 : Int32).toInt ≤ 16 from (by have z0 : (0 : Int32).toInt = 0 := (by decide); omega)), (show HK (σ 9) from kHK), trivial⟩ _ _ _ hP hS (lv_sub hl [0, 1, 2, 3] rfl)
  intro y3 hI2 nl1 H locs ls hP hS hl
  obtain ⟨σ4, eσ4⟩ : ∃ z, z = y3.1 := ⟨_, rfl⟩
  rw [← eσ4] at hP hI2
  have hF5 : Fr (fL [23, 24, 25, 26, 27]) σ σ4 := hI2.1
  have hJ6 : J9 (σ4 9) := hI2.2.1
  have b7 : (0 : Int) ≤ (y3.2.1 0).toInt ∧ (y3.2.1 0).toInt ≤ 16 := hI2.2.2.1
  have b8 : HK (σ4 9) := hI2.2.2.2.1
  have hl : lv_has ls 4 [(3, .int (y3.2.1 0)), (0, .ref (g 60)), (1, .int p1), (2, .int p2)] := hl
  refine lv_iload_n hx hb dX9_laysAll_2 rfl (lv_at hl 0 rfl) ?_
  refine lv_aload_n hx hb dX9_laysAll_3 rfl (lv_at hl 1 rfl) ?_
  refine g9_31 (x := ((σ 9).1 31)) hx hb hts hown hK hP ((hF5 9 31 rfl).1) (hts _ q1391) dX9_laysAll_4 ?_
  refine lv_icmp_ge (tgt := 43) hx hb dX9_laysAll_7 (by decide) (fun c9 => ?_) (fun c9 => ?_)
  ·
    have k10 := ple32 c9
    exact W.vret hx hb hr (fun tS ht hW => ⟨⟨σ4, rfl, ⟨Fr.tr (Fr.rf) hF5 (fL_sub rfl), hJ6, trivial⟩, (show va_P D clz (WD9 cy g σ4) tS.heap by rw [ht]; exact hP)⟩, hS.F ht⟩) hS.2.2 dX9_laysAll_43
  ·
    have k11 := nle32 c9
    refine lv_aload_n hx hb dX9_laysAll_10 rfl (lv_at hl 1 rfl) ?_
    refine lv_iload_n hx hb dX9_laysAll_11 rfl (lv_at hl 0 rfl) ?_
    refine lv_aload_n hx hb dX9_laysAll_12 rfl (lv_at hl 1 rfl) ?_
    refine g9_28 (x := ((σ 9).1 28)) hx hb hts hown hK hP ((hF5 9 28 rfl).1) (hts _ q1388) dX9_laysAll_13 ?_
    refine lv_aload_n hx hb dX9_laysAll_16 rfl (lv_at hl 1 rfl) ?_
    refine lv_aload_n hx hb dX9_laysAll_17 rfl (lv_at hl 1 rfl) ?_
    refine g9_29 (x := ((σ 9).1 29)) hx hb hts hown hK hP ((hF5 9 29 rfl).1) (hts _ q1389) dX9_laysAll_18 ?_
    refine lv_aload_n hx hb dX9_laysAll_21 rfl (lv_at hl 1 rfl) ?_
    refine g9_32 hx hb hts hown hK hP (hts _ q1392) dX9_laysAll_22 ?_
    refine lv_iload_n hx hb dX9_laysAll_25 rfl (lv_at hl 0 rfl) ?_
    obtain ⟨x12, ex12⟩ : ∃ z, (σ 9).2.2.1 32 (y3.2.1 0).toInt.toNat = z := ⟨_, rfl⟩
    refine l9_32 (x := x12) hx hb hK hP (vpo (by have f0 := b7; have f1 := k11; have f2 := j9_31 hJ rfl; have g0 := rg32 (y3.2.1 0); omega)) ((congrFun ((hF5 9 32 rfl).2.2.1) _).trans ex12) dX9_laysAll_26 ?_
    have t13 := a9_32 hJ ex12
    refine lv_iconst (v := 0) hx hb dX9_laysAll_27 (by decide) ?_
    refine va_calli (va_runV (As := [.int ((σ 9).1 29), .int x12, .int 0]) (rest := [.int ((σ 9).1 28), .int (y3.2.1 0), .ref (g 60)]) ⟨hx, hb, hml, hown, hts⟩ (m_X9_toneOf l D cy g σ4 ((σ 9).1 29) x12 (0) _ hJ6 (show (0 : Int) ≤ ((σ 9).1 29).toInt ∧ ((σ 9).1 29).toInt ≤ 2 from (by have f0 := j9_29 hJ rfl; omega)) (show (0 : Int) ≤ x12.toInt ∧ x12.toInt ≤ 15 from (by have f0 := j9_29 hJ rfl; have f1 := t13; have f2 := b7; have f3 := k11; have f4 := j9_31 hJ rfl; have g1 := rg32 x12; omega)) (show (0 : Int) ≤ (0 : Int32).toInt ∧ (0 : Int32).toInt ≤ 3 from (by have f0 := j9_29 hJ rfl; have f1 := t13; have f2 := b7; have f3 := k11; have f4 := j9_31 hJ rfl; have g1 := rg32 x12; have z0 : (0 : Int32).toInt = 0 := (by decide); omega))) (cwV 3 hts (gd_V q1727 q1729 q75 q134 q1730) rfl rfl rfl (by decide +kernel) ⟨Nat.le_of_ble_eq_true rfl, Nat.le_of_ble_eq_true rfl⟩) (pv9 hP hK hD hC hS (va_recv hK hP (ci := 9) (q0 := 0) rfl rfl)) rfl rfl hl.1 rfl (lv_room (Nat.le_of_ble_eq_true rfl)) dX9_laysAll_28 ⟨Nat.le_of_ble_eq_true rfl, Nat.le_of_ble_eq_true rfl⟩) hS (fun q _ h => up9 hS q h) (up9 hS) (fun r14 σ15 tS H1 locs ht hvm hw16 hB hz1 hk1 hS => ?_)
    have hP : va_P D clz (WD9 cy g σ15) H1 := by rw [← ht]; exact hB
    clear hB hz1 hk1 hvm ht
    generalize H1 = H at hP hS ⊢
    have hw16E : σ4 = σ15 := (hw16.1).symm
    subst hw16E
    have b17 : (-1 : Int) ≤ r14.toInt ∧ r14.toInt ≤ 60 := hw16.2.1
    have b18 : ¬ (0 : Int32).toInt = 1 ∨ 0 ≤ r14.toInt := hw16.2.2.1
    refine lv_iload_n hx hb dX9_laysAll_31 rfl (lv_at hl 3 rfl) ?_
    refine lv_iadd hx hb dX9_laysAll_32 ?_
    refine lv_topi (fun x19 ex19 => ?_)
    refine lv_iload_n hx hb dX9_laysAll_33 rfl (lv_at hl 2 rfl) ?_
    refine va_callv (va_runV (As := [.int (y3.2.1 0), .int ((σ 9).1 28), .int x19, .int p1]) (rest := []) ⟨hx, hb, hml, hown, hts⟩ (m_X9_laysWays l D cy g σ4 (y3.2.1 0) ((σ 9).1 28) x19 p1 _ hJ6 (show (0 : Int) ≤ (y3.2.1 0).toInt ∧ (y3.2.1 0).toInt ≤ 16 from (by have f0 := b7; have f1 := k11; have f2 := t13; have f3 := j9_31 hJ rfl; have g0 := rg32 (y3.2.1 0); omega)) (show (0 : Int) ≤ ((σ 9).1 28).toInt ∧ ((σ 9).1 28).toInt ≤ 3 from (by have f0 := j9_28 hJ rfl; have f1 := b7; have f2 := k11; have f3 := t13; have f4 := j9_31 hJ rfl; have g1 := rg32 (y3.2.1 0); omega)) (show 100 ≤ ((σ4 9).2.2.1 18 (7 * ((σ 9).1 28).toInt.toNat + 2)).toInt from (HK.to b8 ((hF5 9 28 rfl).1) rfl))) (cwV 4 hts (gd_V q1802 q1804 q86 q134 q1805) rfl rfl rfl (by decide +kernel) ⟨Nat.le_of_ble_eq_true rfl, Nat.le_of_ble_eq_true rfl⟩) (pv9 hP hK hD hC hS (va_recv hK hP (ci := 9) (q0 := 0) rfl rfl)) rfl rfl hl.1 rfl (lv_room (Nat.le_of_ble_eq_true rfl)) dX9_laysAll_34 ⟨Nat.le_of_ble_eq_true rfl, Nat.le_of_ble_eq_true rfl⟩) hS (fun q _ h => up9 hS q h) (up9 hS) (fun σ21 tS H1 locs ht hvm hw22 hB hz1 hk1 hS => ?_)
    have hP : va_P D clz (WD9 cy g σ21) H1 := by rw [← ht]; exact hB
    clear hB hz1 hk1 hvm ht
    generalize H1 = H at hP hS ⊢
    have hF23 : Fr (fL [23, 24, 25, 26, 27]) σ4 σ21 := hw22.1
    have hJ24 : J9 (σ21 9) := hw22.2.1
    have T25 : HK (σ21 9) := HK.mv b8 (hF23 9 18 rfl).2.2.1 (hF23 9 28 rfl).1
    obtain ⟨x26, ex26⟩ : ∃ y : Int32, y = (y3.2.1 0) + 1 := ⟨_, rfl⟩
    have t27 := addO ex26 (by have f0 := b7; have f1 := k11; have f2 := t13; have f3 := j9_31 hJ rfl; have g0 := rg32 (y3.2.1 0); have z1 : (1 : Int32).toInt = 1 := (by decide); omega)
    refine lv_iinc (v := x26) (lv' := [(3, .int x26), (0, .ref (g 60)), (1, .int p1), (2, .int p2)]) hx hb dX9_laysAll_37 hl (k := 0) rfl (by rw [ex26]; rfl) (by decide) rfl (fun ls hl => ?_)
    refine lv_goto (tgt := 2) hx hb dX9_laysAll_40 (by decide) ?_
    have t28 : ((17 : Int) - x26.toInt).toNat < ((17 : Int) - (y3.2.1 0).toInt).toNat := (by have f0 := b7; have f1 := k11; have f2 := t13; have f3 := t27; have f4 := j9_31 hJ rfl; have g0 := rg32 (y3.2.1 0); have g1 := rg32 x26; have z1 : (1 : Int32).toInt = 1 := (by decide); omega)
    exact nl1 (σ21, lf [x26], lg []) ⟨Fr.tr (Fr.tr (Fr.rf) hF5 (fL_sub rfl)) hF23 (fL_sub rfl), hJ24, (show (0 : Int) ≤ (x26 : Int32).toInt ∧ (x26 : Int32).toInt ≤ 16 from (by have f0 := t27; have f1 := b7; have f2 := k11; have f3 := t13; have f4 := j9_31 hJ rfl; have g0 := rg32 x26; have z1 : (1 : Int32).toInt = 1 := (by decide); omega)), (show HK (σ21 9) from T25), trivial⟩ (show ((17 : Int) - x26.toInt).toNat < _ from by first | exact t28 | (rw [← eσ4]; exact t28)) _ _ _ hP hS (lv_sub hl [0, 1, 2, 3] rfl)

theorem q1833 : Cond.code yX9_lays cX9_lays 3 none ∈ lw_g := lw_gm (List.mem_of_getElem? (i := 1833) (by decide +kernel)) rfl
theorem q1834 : Cond.methodLink RX9 393 yX9_laysPart ∈ lw_g := lw_gm (List.mem_of_getElem? (i := 1834) (by decide +kernel)) rfl
theorem q1836 : Cond.instanceMethod yX9_laysPart ∈ lw_g := lw_gm (List.mem_of_getElem? (i := 1836) (by decide +kernel)) rfl
theorem q90 : Cond.selects RX9 yX9_laysPart yX9_laysPart ∈ lw_g := lw_gm (List.mem_of_getElem? (i := 90) (by decide +kernel)) rfl
theorem q1842 : Cond.methodLink RX9 396 yX9_laysAll ∈ lw_g := lw_gm (List.mem_of_getElem? (i := 1842) (by decide +kernel)) rfl
theorem q1844 : Cond.instanceMethod yX9_laysAll ∈ lw_g := lw_gm (List.mem_of_getElem? (i := 1844) (by decide +kernel)) rfl
theorem q92 : Cond.selects RX9 yX9_laysAll yX9_laysAll ∈ lw_g := lw_gm (List.mem_of_getElem? (i := 92) (by decide +kernel)) rfl
theorem dX9_lays_0 : decode cX9_lays 0 = .ok (.aload_n 0, 1) := by decide +kernel
theorem dX9_lays_1 : decode cX9_lays 1 = .ok (.iload_n 1, 1) := by decide +kernel
theorem dX9_lays_2 : decode cX9_lays 2 = .ok (.iload_n 2, 1) := by decide +kernel
theorem dX9_lays_3 : decode cX9_lays 3 = .ok (.invokevirtual 393, 3) := by decide +kernel
theorem dX9_lays_6 : decode cX9_lays 6 = .ok (.aload_n 0, 1) := by decide +kernel
theorem dX9_lays_7 : decode cX9_lays 7 = .ok (.aload_n 0, 1) := by decide +kernel
theorem dX9_lays_8 : decode cX9_lays 8 = .ok (.getfield 34, 3) := by decide +kernel
theorem dX9_lays_11 : decode cX9_lays 11 = .ok (.iconst 0, 1) := by decide +kernel
theorem dX9_lays_12 : decode cX9_lays 12 = .ok (.iaload, 1) := by decide +kernel
theorem dX9_lays_13 : decode cX9_lays 13 = .ok (.iconst 0, 1) := by decide +kernel
theorem dX9_lays_14 : decode cX9_lays 14 = .ok (.invokevirtual 396, 3) := by decide +kernel
theorem dX9_lays_17 : decode cX9_lays 17 = .ok (.return_, 1) := by decide +kernel
set_option maxHeartbeats 4000000 in
set_option maxRecDepth 100000 in
theorem m_X9_lays (l : Launch) (D : va_G) (cy : Nat → ClassId) (g : Nat → Nat) (σ : ST) (p1 : Int32) (p2 : Int32) (sz : Nat) (hJ : J9 (σ 9)) (kDK0 : DK0 (σ 9)) (h0 : (0 : Int) ≤ p1.toInt ∧ p1.toInt ≤ 8) (h1 : (0 : Int) ≤ p2.toInt ∧ p2.toInt ≤ 2) (h2 : p1.toInt < ((σ 9).2.2.1 17 3).toInt) : Met l yX9_lays (ww yX9_lays cX9_lays 3 none) ({ frames := 5, cells := 0, slots := 0, locals := 320 }) (va_Pc [.ref (g 60), .int p1, .int p2] (pr9 D cy g σ sz)) (qv9 D cy g sz (fun τ => Fr (fL [23, 24, 25, 26, 27, 28, 29, 30, 31, 32, 33, 34]) σ τ ∧ J9 (τ 9) ∧ HK (τ 9) ∧ True)) 0 0 (A9 cy g sz) := by
  refine Met.ofW (cc := cX9_lays) (maxL := 3) (ret := none) (by decide) rfl ?_
  intro p e s m args below meth c s₁ B hml hv
  obtain ⟨rfl, hsz, hP, hK, hD0, hC⟩ := hv
  have hx := B.exec
  have hb := B.bytes
  have hr := B.returns
  have hts := hts_g (atoms_spec (ws := ww yX9_lays cX9_lays 3 none) B.pre)
  have hown : s.vm.findClass RX9 = some m.cls := findClass_of_methodNamed B.named
  have hlocks := B.notSynchronized
  clear B
  subst hsz
  have hD := fun τ => A9_D (sz := s.heap.size) hD0 τ
  clear hD0
  have hS : va_S (A9 cy g s.heap.size) s.heap s.heap [] := va_S.rf
  have hl := lv_entry ([.ref (g 60), .int p1, .int p2]) (n := 3) (Nat.le_of_ble_eq_true rfl)
  rw [lg_entry_eq]
  generalize (lg_sl ([.ref (g 60), .int p1, .int p2]) ++ List.replicate (3 - (lg_sl ([.ref (g 60), .int p1, .int p2])).length) Slot.unset).toArray = ls at hl ⊢
  have hl : lv_has ls 3 [(0, .ref (g 60)), (1, .int p1), (2, .int p2)] := hl
  refine lv_aload_n hx hb dX9_lays_0 rfl (lv_at hl 0 rfl) ?_
  refine lv_iload_n hx hb dX9_lays_1 rfl (lv_at hl 1 rfl) ?_
  refine lv_iload_n hx hb dX9_lays_2 rfl (lv_at hl 2 rfl) ?_
  refine va_callv (va_runV (As := [.int p1, .int p2]) (rest := []) ⟨hx, hb, hml, hown, hts⟩ (m_X9_laysPart l D cy g σ p1 p2 _ hJ kDK0 (show (0 : Int) ≤ p1.toInt ∧ p1.toInt ≤ 8 from (by have f0 := h0; have f1 := h2; have f2 := a9_17 hJ (j := 3) rfl; have g1 := rg32 p1; omega)) (show (0 : Int) ≤ p2.toInt ∧ p2.toInt ≤ 2 from (by have f0 := h0; have f1 := h1; have f2 := h2; have f3 := a9_17 hJ (j := 3) rfl; have g1 := rg32 p1; have g2 := rg32 p2; omega)) (show p1.toInt < ((σ 9).2.2.1 17 3).toInt from (by have f0 := a9_17 hJ (j := 3) rfl; have f1 := h0; have f2 := h2; have g1 := rg32 p1; omega))) (cwV 2 hts (gd_V q1834 q1836 q90 q134 q1837) rfl rfl rfl (by decide +kernel) ⟨Nat.le_of_ble_eq_true rfl, Nat.le_of_ble_eq_true rfl⟩) (pv9 hP hK hD hC hS (va_recv hK hP (ci := 9) (q0 := 0) rfl rfl)) rfl rfl hl.1 rfl (lv_room (Nat.le_of_ble_eq_true rfl)) dX9_lays_3 ⟨Nat.le_of_ble_eq_true rfl, Nat.le_of_ble_eq_true rfl⟩) hS (fun q _ h => up9 hS q h) (up9 hS) (fun σ2 tS H1 locs ht hvm hw3 hB hz1 hk1 hS => ?_)
  have hP : va_P D clz (WD9 cy g σ2) H1 := by rw [← ht]; exact hB
  clear hB hz1 hk1 hvm ht
  generalize H1 = H at hP hS ⊢
  have hF4 : Fr (fL [28, 29, 30, 31, 32, 33, 34]) σ σ2 := hw3.1
  have hJ5 : J9 (σ2 9) := hw3.2.1
  have T6 : DK0 (σ2 9) := DK0.mv kDK0 (hF4 9 17 rfl).2.2.1 (hF4 9 18 rfl).2.2.1 (hF4 9 19 rfl).2.2.1
  refine lv_aload_n hx hb dX9_lays_6 rfl (lv_at hl 0 rfl) ?_
  refine lv_aload_n hx hb dX9_lays_7 rfl (lv_at hl 0 rfl) ?_
  refine g9_17 hx hb hts hown hK hP (hts _ q1377) dX9_lays_8 ?_
  refine lv_iconst (v := 0) hx hb dX9_lays_11 (by decide) ?_
  refine l9_17 (x := ((σ 9).2.2.1 17 0)) hx hb hK hP (vpi (by decide)) ((congrFun ((hF4 9 17 rfl).2.2.1) _).trans (congrArg ((σ 9).2.2.1 17) (show (0 : Int32).toInt.toNat = 0 by decide))) dX9_lays_12 ?_
  refine lv_iconst (v := 0) hx hb dX9_lays_13 (by decide) ?_
  refine va_callv (va_runV (As := [.int ((σ 9).2.2.1 17 0), .int 0]) (rest := []) ⟨hx, hb, hml, hown, hts⟩ (m_X9_laysAll l D cy g σ2 ((σ 9).2.2.1 17 0) (0) _ hJ5 hw3.2.2.1) (cwV 2 hts (gd_V q1842 q1844 q92 q134 q1845) rfl rfl rfl (by decide +kernel) ⟨Nat.le_of_ble_eq_true rfl, Nat.le_of_ble_eq_true rfl⟩) (pv9 hP hK hD hC hS (va_recv hK hP (ci := 9) (q0 := 0) rfl rfl)) rfl rfl hl.1 rfl (lv_room (Nat.le_of_ble_eq_true rfl)) dX9_lays_14 ⟨Nat.le_of_ble_eq_true rfl, Nat.le_of_ble_eq_true rfl⟩) hS (fun q _ h => up9 hS q h) (up9 hS) (fun σ8 tS H1 locs ht hvm hw9 hB hz1 hk1 hS => ?_)
  have hP : va_P D clz (WD9 cy g σ8) H1 := by rw [← ht]; exact hB
  clear hB hz1 hk1 hvm ht
  generalize H1 = H at hP hS ⊢
  have hF10 : Fr (fL [23, 24, 25, 26, 27]) σ2 σ8 := hw9.1
  have hJ11 : J9 (σ8 9) := hw9.2.1
  have T12 : DK0 (σ8 9) := DK0.mv T6 (hF10 9 17 rfl).2.2.1 (hF10 9 18 rfl).2.2.1 (hF10 9 19 rfl).2.2.1
  have T13 : HK (σ8 9) := HK.mv hw3.2.2.1 (hF10 9 18 rfl).2.2.1 (hF10 9 28 rfl).1
  exact W.vret hx hb hr (fun tS ht hW => ⟨⟨σ8, rfl, ⟨Fr.tr (Fr.tr (Fr.rf) hF4 (fL_sub rfl)) hF10 (fL_sub rfl), hJ11, T13, trivial⟩, (show va_P D clz (WD9 cy g σ8) tS.heap by rw [ht]; exact hP)⟩, hS.F ht⟩) hS.2.2 dX9_lays_17

