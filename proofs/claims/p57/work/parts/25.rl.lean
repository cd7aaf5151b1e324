theorem q1654 : Cond.code yX9_brassLine cX9_brassLine 4 none ∈ lw_g := lw_gm (List.mem_of_getElem? (i := 1654) (by decide +kernel)) rfl
theorem q1647 : Cond.methodLink RX9 211 yX9_hasRead ∈ lw_g := lw_gm (List.mem_of_getElem? (i := 1647) (by decide +kernel)) rfl
theorem q1649 : Cond.instanceMethod yX9_hasRead ∈ lw_g := lw_gm (List.mem_of_getElem? (i := 1649) (by decide +kernel)) rfl
theorem q62 : Cond.selects RX9 yX9_hasRead yX9_hasRead ∈ lw_g := lw_gm (List.mem_of_getElem? (i := 62) (by decide +kernel)) rfl
theorem q1655 : Cond.constantLong RX9 215 (40613) ∈ lw_g := lw_gm (List.mem_of_getElem? (i := 1655) (by decide +kernel)) rfl
theorem q1627 : Cond.methodLink RX9 217 yX9_number_ ∈ lw_g := lw_gm (List.mem_of_getElem? (i := 1627) (by decide +kernel)) rfl
theorem q1629 : Cond.instanceMethod yX9_number_ ∈ lw_g := lw_gm (List.mem_of_getElem? (i := 1629) (by decide +kernel)) rfl
theorem q59 : Cond.selects RX9 yX9_number_ yX9_number_ ∈ lw_g := lw_gm (List.mem_of_getElem? (i := 59) (by decide +kernel)) rfl
theorem q1656 : Cond.constantLong RX9 220 (247516) ∈ lw_g := lw_gm (List.mem_of_getElem? (i := 1656) (by decide +kernel)) rfl
theorem q1659 : Cond.constantLong RX9 226 (388708) ∈ lw_g := lw_gm (List.mem_of_getElem? (i := 1659) (by decide +kernel)) rfl
theorem q1657 : Cond.constantLong RX9 222 (316459783) ∈ lw_g := lw_gm (List.mem_of_getElem? (i := 1657) (by decide +kernel)) rfl
theorem q1658 : Cond.constantLong RX9 224 (2481427) ∈ lw_g := lw_gm (List.mem_of_getElem? (i := 1658) (by decide +kernel)) rfl
theorem dX9_brassLine_0 : decode cX9_brassLine 0 = .ok (.bipush 7, 2) := by decide +kernel
theorem dX9_brassLine_2 : decode cX9_brassLine 2 = .ok (.bipush 16, 2) := by decide +kernel
theorem dX9_brassLine_4 : decode cX9_brassLine 4 = .ok (.aload_n 0, 1) := by decide +kernel
theorem dX9_brassLine_5 : decode cX9_brassLine 5 = .ok (.iconst 2, 1) := by decide +kernel
theorem dX9_brassLine_6 : decode cX9_brassLine 6 = .ok (.invokevirtual 211, 3) := by decide +kernel
theorem dX9_brassLine_9 : decode cX9_brassLine 9 = .ok (.iadd, 1) := by decide +kernel
theorem dX9_brassLine_10 : decode cX9_brassLine 10 = .ok (.imul, 1) := by decide +kernel
theorem dX9_brassLine_11 : decode cX9_brassLine 11 = .ok (.istore_n 2, 1) := by decide +kernel
theorem dX9_brassLine_12 : decode cX9_brassLine 12 = .ok (.iconst 3, 1) := by decide +kernel
theorem dX9_brassLine_13 : decode cX9_brassLine 13 = .ok (.istore_n 3, 1) := by decide +kernel
theorem dX9_brassLine_14 : decode cX9_brassLine 14 = .ok (.iload_n 3, 1) := by decide +kernel
theorem dX9_brassLine_15 : decode cX9_brassLine 15 = .ok (.bipush 7, 2) := by decide +kernel
theorem dX9_brassLine_17 : decode cX9_brassLine 17 = .ok (.if_icmp .ge 18, 3) := by decide +kernel
theorem dX9_brassLine_20 : decode cX9_brassLine 20 = .ok (.aload_n 0, 1) := by decide +kernel
theorem dX9_brassLine_21 : decode cX9_brassLine 21 = .ok (.getfield 37, 3) := by decide +kernel
theorem dX9_brassLine_24 : decode cX9_brassLine 24 = .ok (.iload_n 2, 1) := by decide +kernel
theorem dX9_brassLine_25 : decode cX9_brassLine 25 = .ok (.iload_n 3, 1) := by decide +kernel
theorem dX9_brassLine_26 : decode cX9_brassLine 26 = .ok (.iadd, 1) := by decide +kernel
theorem dX9_brassLine_27 : decode cX9_brassLine 27 = .ok (.iconst 0, 1) := by decide +kernel
theorem dX9_brassLine_28 : decode cX9_brassLine 28 = .ok (.iastore, 1) := by decide +kernel
theorem dX9_brassLine_29 : decode cX9_brassLine 29 = .ok (.iinc 3 1, 3) := by decide +kernel
theorem dX9_brassLine_32 : decode cX9_brassLine 32 = .ok (.goto (-18), 3) := by decide +kernel
theorem dX9_brassLine_35 : decode cX9_brassLine 35 = .ok (.aload_n 0, 1) := by decide +kernel
theorem dX9_brassLine_36 : decode cX9_brassLine 36 = .ok (.getfield 37, 3) := by decide +kernel
theorem dX9_brassLine_39 : decode cX9_brassLine 39 = .ok (.iload_n 2, 1) := by decide +kernel
theorem dX9_brassLine_40 : decode cX9_brassLine 40 = .ok (.iload_n 1, 1) := by decide +kernel
theorem dX9_brassLine_41 : decode cX9_brassLine 41 = .ok (.iastore, 1) := by decide +kernel
theorem dX9_brassLine_42 : decode cX9_brassLine 42 = .ok (.aload_n 0, 1) := by decide +kernel
theorem dX9_brassLine_43 : decode cX9_brassLine 43 = .ok (.getfield 37, 3) := by decide +kernel
theorem dX9_brassLine_46 : decode cX9_brassLine 46 = .ok (.iload_n 2, 1) := by decide +kernel
theorem dX9_brassLine_47 : decode cX9_brassLine 47 = .ok (.iconst 1, 1) := by decide +kernel
theorem dX9_brassLine_48 : decode cX9_brassLine 48 = .ok (.iadd, 1) := by decide +kernel
theorem dX9_brassLine_49 : decode cX9_brassLine 49 = .ok (.aload_n 0, 1) := by decide +kernel
theorem dX9_brassLine_50 : decode cX9_brassLine 50 = .ok (.ldc2_w 215, 3) := by decide +kernel
theorem dX9_brassLine_53 : decode cX9_brassLine 53 = .ok (.iconst 0, 1) := by decide +kernel
theorem dX9_brassLine_54 : decode cX9_brassLine 54 = .ok (.bipush 40, 2) := by decide +kernel
theorem dX9_brassLine_56 : decode cX9_brassLine 56 = .ok (.invokevirtual 217, 3) := by decide +kernel
theorem dX9_brassLine_59 : decode cX9_brassLine 59 = .ok (.iastore, 1) := by decide +kernel
theorem dX9_brassLine_60 : decode cX9_brassLine 60 = .ok (.aload_n 0, 1) := by decide +kernel
theorem dX9_brassLine_61 : decode cX9_brassLine 61 = .ok (.getfield 37, 3) := by decide +kernel
theorem dX9_brassLine_64 : decode cX9_brassLine 64 = .ok (.iload_n 2, 1) := by decide +kernel
theorem dX9_brassLine_65 : decode cX9_brassLine 65 = .ok (.iconst 2, 1) := by decide +kernel
theorem dX9_brassLine_66 : decode cX9_brassLine 66 = .ok (.iadd, 1) := by decide +kernel
theorem dX9_brassLine_67 : decode cX9_brassLine 67 = .ok (.aload_n 0, 1) := by decide +kernel
theorem dX9_brassLine_68 : decode cX9_brassLine 68 = .ok (.ldc2_w 220, 3) := by decide +kernel
theorem dX9_brassLine_71 : decode cX9_brassLine 71 = .ok (.bipush 100, 2) := by decide +kernel
theorem dX9_brassLine_73 : decode cX9_brassLine 73 = .ok (.sipush 999, 3) := by decide +kernel
theorem dX9_brassLine_76 : decode cX9_brassLine 76 = .ok (.invokevirtual 217, 3) := by decide +kernel
theorem dX9_brassLine_79 : decode cX9_brassLine 79 = .ok (.iastore, 1) := by decide +kernel
theorem dX9_brassLine_80 : decode cX9_brassLine 80 = .ok (.iload_n 1, 1) := by decide +kernel
theorem dX9_brassLine_81 : decode cX9_brassLine 81 = .ok (.iconst 1, 1) := by decide +kernel
theorem dX9_brassLine_82 : decode cX9_brassLine 82 = .ok (.if_icmp .ne 62, 3) := by decide +kernel
theorem dX9_brassLine_85 : decode cX9_brassLine 85 = .ok (.aload_n 0, 1) := by decide +kernel
theorem dX9_brassLine_86 : decode cX9_brassLine 86 = .ok (.ldc2_w 222, 3) := by decide +kernel
theorem dX9_brassLine_89 : decode cX9_brassLine 89 = .ok (.invokevirtual 200, 3) := by decide +kernel
theorem dX9_brassLine_92 : decode cX9_brassLine 92 = .ok (.iconst 3, 1) := by decide +kernel
theorem dX9_brassLine_93 : decode cX9_brassLine 93 = .ok (.istore_n 3, 1) := by decide +kernel
theorem dX9_brassLine_94 : decode cX9_brassLine 94 = .ok (.iload_n 3, 1) := by decide +kernel
theorem dX9_brassLine_95 : decode cX9_brassLine 95 = .ok (.bipush 6, 2) := by decide +kernel
theorem dX9_brassLine_97 : decode cX9_brassLine 97 = .ok (.if_icmp .ge 25, 3) := by decide +kernel
theorem dX9_brassLine_100 : decode cX9_brassLine 100 = .ok (.aload_n 0, 1) := by decide +kernel
theorem dX9_brassLine_101 : decode cX9_brassLine 101 = .ok (.getfield 37, 3) := by decide +kernel
theorem dX9_brassLine_104 : decode cX9_brassLine 104 = .ok (.iload_n 2, 1) := by decide +kernel
theorem dX9_brassLine_105 : decode cX9_brassLine 105 = .ok (.iload_n 3, 1) := by decide +kernel
theorem dX9_brassLine_106 : decode cX9_brassLine 106 = .ok (.iadd, 1) := by decide +kernel
theorem dX9_brassLine_107 : decode cX9_brassLine 107 = .ok (.aload_n 0, 1) := by decide +kernel
theorem dX9_brassLine_108 : decode cX9_brassLine 108 = .ok (.iconst 0, 1) := by decide +kernel
theorem dX9_brassLine_109 : decode cX9_brassLine 109 = .ok (.sipush 400, 3) := by decide +kernel
theorem dX9_brassLine_112 : decode cX9_brassLine 112 = .ok (.invokevirtual 204, 3) := by decide +kernel
theorem dX9_brassLine_115 : decode cX9_brassLine 115 = .ok (.iastore, 1) := by decide +kernel
theorem dX9_brassLine_116 : decode cX9_brassLine 116 = .ok (.iinc 3 1, 3) := by decide +kernel
theorem dX9_brassLine_119 : decode cX9_brassLine 119 = .ok (.goto (-25), 3) := by decide +kernel
theorem dX9_brassLine_122 : decode cX9_brassLine 122 = .ok (.aload_n 0, 1) := by decide +kernel
theorem dX9_brassLine_123 : decode cX9_brassLine 123 = .ok (.getfield 37, 3) := by decide +kernel
theorem dX9_brassLine_126 : decode cX9_brassLine 126 = .ok (.iload_n 2, 1) := by decide +kernel
theorem dX9_brassLine_127 : decode cX9_brassLine 127 = .ok (.bipush 6, 2) := by decide +kernel
theorem dX9_brassLine_129 : decode cX9_brassLine 129 = .ok (.iadd, 1) := by decide +kernel
theorem dX9_brassLine_130 : decode cX9_brassLine 130 = .ok (.aload_n 0, 1) := by decide +kernel
theorem dX9_brassLine_131 : decode cX9_brassLine 131 = .ok (.ldc2_w 224, 3) := by decide +kernel
theorem dX9_brassLine_134 : decode cX9_brassLine 134 = .ok (.iconst 0, 1) := by decide +kernel
theorem dX9_brassLine_135 : decode cX9_brassLine 135 = .ok (.bipush 60, 2) := by decide +kernel
theorem dX9_brassLine_137 : decode cX9_brassLine 137 = .ok (.invokevirtual 217, 3) := by decide +kernel
theorem dX9_brassLine_140 : decode cX9_brassLine 140 = .ok (.iastore, 1) := by decide +kernel
theorem dX9_brassLine_141 : decode cX9_brassLine 141 = .ok (.goto 26, 3) := by decide +kernel
theorem dX9_brassLine_144 : decode cX9_brassLine 144 = .ok (.iload_n 1, 1) := by decide +kernel
theorem dX9_brassLine_145 : decode cX9_brassLine 145 = .ok (.iconst 2, 1) := by decide +kernel
theorem dX9_brassLine_146 : decode cX9_brassLine 146 = .ok (.if_icmp .ne 21, 3) := by decide +kernel
theorem dX9_brassLine_149 : decode cX9_brassLine 149 = .ok (.aload_n 0, 1) := by decide +kernel
theorem dX9_brassLine_150 : decode cX9_brassLine 150 = .ok (.getfield 37, 3) := by decide +kernel
theorem dX9_brassLine_153 : decode cX9_brassLine 153 = .ok (.iload_n 2, 1) := by decide +kernel
theorem dX9_brassLine_154 : decode cX9_brassLine 154 = .ok (.iconst 3, 1) := by decide +kernel
theorem dX9_brassLine_155 : decode cX9_brassLine 155 = .ok (.iadd, 1) := by decide +kernel
theorem dX9_brassLine_156 : decode cX9_brassLine 156 = .ok (.aload_n 0, 1) := by decide +kernel
theorem dX9_brassLine_157 : decode cX9_brassLine 157 = .ok (.ldc2_w 226, 3) := by decide +kernel
theorem dX9_brassLine_160 : decode cX9_brassLine 160 = .ok (.iconst 0, 1) := by decide +kernel
theorem dX9_brassLine_161 : decode cX9_brassLine 161 = .ok (.bipush 100, 2) := by decide +kernel
theorem dX9_brassLine_163 : decode cX9_brassLine 163 = .ok (.invokevirtual 217, 3) := by decide +kernel
theorem dX9_brassLine_166 : decode cX9_brassLine 166 = .ok (.iastore, 1) := by decide +kernel
theorem dX9_brassLine_167 : decode cX9_brassLine 167 = .ok (.aload_n 0, 1) := by decide +kernel
theorem dX9_brassLine_168 : decode cX9_brassLine 168 = .ok (.getfield 34, 3) := by decide +kernel
theorem dX9_brassLine_171 : decode cX9_brassLine 171 = .ok (.bipush 22, 2) := by decide +kernel
theorem dX9_brassLine_173 : decode cX9_brassLine 173 = .ok (.dup2, 1) := by decide +kernel
theorem dX9_brassLine_174 : decode cX9_brassLine 174 = .ok (.iaload, 1) := by decide +kernel
theorem dX9_brassLine_175 : decode cX9_brassLine 175 = .ok (.iconst 1, 1) := by decide +kernel
theorem dX9_brassLine_176 : decode cX9_brassLine 176 = .ok (.iadd, 1) := by decide +kernel
theorem dX9_brassLine_177 : decode cX9_brassLine 177 = .ok (.iastore, 1) := by decide +kernel
theorem dX9_brassLine_178 : decode cX9_brassLine 178 = .ok (.return_, 1) := by decide +kernel
set_option maxHeartbeats 4000000 in
set_option maxRecDepth 100000 in
theorem m_X9_brassLine (l : Launch) (D : va_G) (cy : Nat → ClassId) (g : Nat → Nat) (σ : ST) (p1 : Int32) (sz : Nat) (hJ : J9 (σ 9)) (kRD : RD (σ 9)) (kDKA : DKA (σ 9)) (h0 : (0 : Int) ≤ p1.toInt ∧ p1.toInt ≤ 2) (h1 : ((σ 9).1 7).toInt ≤ ((σ 9).1 6).toInt) (h2 : ((σ 9).2.2.1 17 22).toInt ≤ 3) : Met l yX9_brassLine (ww yX9_brassLine cX9_brassLine 4 none) ({ frames := 6, cells := 0, slots := 0, locals := 384 }) (va_Pc [.ref (g 60), .int p1] (pr9 D cy g σ sz)) (qv9 D cy g sz (fun τ => Fr (fL [7, 8, 9, 10, 11, 12, 13, 17, 18]) σ τ ∧ J9 (τ 9) ∧ RD (τ 9) ∧ DKA (τ 9) ∧ (((σ 9).1 7).toInt ≤ ((τ 9).1 7).toInt ∧ ((τ 9).1 7).toInt ≤ ((τ 9).1 6).toInt) ∧ (ph ((σ 9).1 7) ((σ 9).1 8) ≤ ph ((τ 9).1 7) ((τ 9).1 8)) ∧ (¬ ((τ 9).1 12).toInt = 0 ∨ ((σ 9).1 12).toInt = 0) ∧ True)) 0 0 (A9 cy g sz) := by
  refine Met.ofW (cc := cX9_brassLine) (maxL := 4) (ret := none) (by decide) rfl ?_
  intro p e s m args below meth c s₁ B hml hv
  obtain ⟨rfl, hsz, hP, hK, hD0, hC⟩ := hv
  have hx := B.exec
  have hb := B.bytes
  have hr := B.returns
  have hts := hts_g (atoms_spec (ws := ww yX9_brassLine cX9_brassLine 4 none) B.pre)
  have hown : s.vm.findClass RX9 = some m.cls := findClass_of_methodNamed B.named
  have hlocks := B.notSynchronized
  clear B
  subst hsz
  have hD := fun τ => A9_D (sz := s.heap.size) hD0 τ
  clear hD0
  have hS : va_S (A9 cy g s.heap.size) s.heap s.heap [] := va_S.rf
  have hl := lv_entry ([.ref (g 60), .int p1]) (n := 4) (Nat.le_of_ble_eq_true rfl)
  rw [lg_entry_eq]
  generalize (lg_sl ([.ref (g 60), .int p1]) ++ List.replicate (4 - (lg_sl ([.ref (g 60), .int p1])).length) Slot.unset).toArray = ls at hl ⊢
  have hl : lv_has ls 4 [(0, .ref (g 60)), (1, .int p1)] := hl
  refine lv_bipush (v := 7) hx hb dX9_brassLine_0 (by decide) ?_
  refine lv_bipush (v := 16) hx hb dX9_brassLine_2 (by decide) ?_
  refine lv_aload_n hx hb dX9_brassLine_4 rfl (lv_at hl 0 rfl) ?_
  refine lv_iconst (v := 2) hx hb dX9_brassLine_5 (by decide) ?_
  refine va_calli (va_runV (As := [.int 2]) (rest := [.int 16, .int 7]) ⟨hx, hb, hml, hown, hts⟩ (m_X9_hasRead l D cy g σ (2) _ hJ (show (0 : Int) ≤ (2 : Int32).toInt ∧ (2 : Int32).toInt ≤ 4 from (by have z2 : (2 : Int32).toInt = 2 := (by decide); omega))) (cwV 1 hts (gd_V q1647 q1649 q62 q134 q1650) rfl rfl rfl (by decide +kernel) ⟨Nat.le_of_ble_eq_true rfl, Nat.le_of_ble_eq_true rfl⟩) (pv9 hP hK hD hC hS (va_recv hK hP (ci := 9) (q0 := 0) rfl rfl)) rfl rfl hl.1 rfl (lv_room (Nat.le_of_ble_eq_true rfl)) dX9_brassLine_6 ⟨Nat.le_of_ble_eq_true rfl, Nat.le_of_ble_eq_true rfl⟩) hS (fun q _ h => up9 hS q h) (up9 hS) (fun r1 σ2 tS H1 locs ht hvm hw3 hB hz1 hk1 hS => ?_)
  have hP : va_P D clz (WD9 cy g σ2) H1 := by rw [← ht]; exact hB
  clear hB hz1 hk1 hvm ht
  generalize H1 = H at hP hS ⊢
  have hw3E : σ = σ2 := (hw3.1).symm
  subst hw3E
  have b4 : (0 : Int) ≤ r1.toInt ∧ r1.toInt ≤ 60 := hw3.2.1
  have b5 : ((2 : Int32).toInt = 2 → r1.toInt = ((σ 9).2.2.1 17 22).toInt) ∧ ((2 : Int32).toInt = 3 → r1.toInt = ((σ 9).2.2.1 17 23).toInt) ∧ ((2 : Int32).toInt = 4 → r1.toInt = ((σ 9).2.2.1 17 24).toInt) := hw3.2.2.1
  have b5c := b5.1 (by decide)
  refine lv_iadd hx hb dX9_brassLine_9 ?_
  refine lv_topi (fun x6 ex6 => ?_)
  have t7 := addO ex6 (by have f0 := b4; have f1 := b5c; have f2 := h17_2 hJ (j := 22) (by decide); have f3 := h2; have g1 := rg32 r1; have z16 : (16 : Int32).toInt = 16 := (by decide); omega)
  refine lv_imul hx hb dX9_brassLine_10 ?_
  refine lv_topi (fun x8 ex8 => ?_)
  have t9 := mulC' (n := 7) ex8 (by decide) (by have f0 := t7; have f1 := b4; have f2 := b5c; have f3 := h17_2 hJ (j := 22) (by decide); have f4 := h2; have g1 := rg32 x6; have z16 : (16 : Int32).toInt = 16 := (by decide); omega)
  refine lv_istore_n (lv' := [(2, .int x8), (0, .ref (g 60)), (1, .int p1)]) hx hb dX9_brassLine_11 rfl hl (by decide) rfl (fun ls hl => ?_)
  refine lv_iconst (v := 3) hx hb dX9_brassLine_12 (by decide) ?_
  refine lv_istore_n (lv' := [(3, .int 3), (2, .int x8), (0, .ref (g 60)), (1, .int p1)]) hx hb dX9_brassLine_13 rfl hl (by decide) rfl (fun ls hl => ?_)
  refine loop9 4 14 (fun x : LZ => [(3, .int (x.2.1 0)), (2, .int x8), (0, .ref (g 60)), (1, .int p1)]) (fun x : LZ => (Fr (fL [18]) σ x.1) ∧ (J9 (x.1 9)) ∧ ((3 : Int) ≤ (x.2.1 0).toInt ∧ (x.2.1 0).toInt ≤ 7) ∧ (RD (x.1 9)) ∧ (DKA (x.1 9)) ∧ True) (fun x : LZ => ((8 : Int) - (x.2.1 0).toInt).toNat) ?_ (σ, lf [3], lg []) ⟨Fr.rf, hJ, (show (3 : Int) ≤ (3 : Int32).toInt ∧ (3 : Int32).toInt ≤ 7 from (by have z3 : (3 : Int32).toInt = 3 := (by decide); omega)), (show RD (σ 9) from kRD), (show DKA (σ 9) from kDKA), trivial⟩ _ _ _ hP hS (lv_sub hl [0, 1, 2, 3] rfl)
  intro y12 hI11 nl10 H locs ls hP hS hl
  obtain ⟨σ13, eσ13⟩ : ∃ z, z = y12.1 := ⟨_, rfl⟩
  rw [← eσ13] at hP hI11
  have hF14 : Fr (fL [18]) σ σ13 := hI11.1
  have hJ15 : J9 (σ13 9) := hI11.2.1
  have b16 : (3 : Int) ≤ (y12.2.1 0).toInt ∧ (y12.2.1 0).toInt ≤ 7 := hI11.2.2.1
  have b17 : RD (σ13 9) := hI11.2.2.2.1
  have b18 : DKA (σ13 9) := hI11.2.2.2.2.1
  have hl : lv_has ls 4 [(3, .int (y12.2.1 0)), (2, .int x8), (0, .ref (g 60)), (1, .int p1)] := hl
  refine lv_iload_n hx hb dX9_brassLine_14 rfl (lv_at hl 0 rfl) ?_
  refine lv_bipush (v := 7) hx hb dX9_brassLine_15 (by decide) ?_
  refine lv_icmp_ge (tgt := 35) hx hb dX9_brassLine_17 (by decide) (fun c19 => ?_) (fun c19 => ?_)
  ·
    have k20 := ple32 c19
    refine lv_aload_n hx hb dX9_brassLine_35 rfl (lv_at hl 2 rfl) ?_
    refine g9_18 hx hb hts hown hK hP (hts _ q1378) dX9_brassLine_36 ?_
    refine lv_iload_n hx hb dX9_brassLine_39 rfl (lv_at hl 1 rfl) ?_
    refine lv_iload_n hx hb dX9_brassLine_40 rfl (lv_at hl 3 rfl) ?_
    refine t9_18 hx hb hK hP hD hS (vpo (by have f0 := t9; have f1 := t7; have f2 := b4; have f3 := b5c; have f4 := h17_2 hJ (j := 22) (by decide); have f5 := h2; have g1 := rg32 x8; have z16 : (16 : Int32).toInt = 16 := (by decide); omega)) dX9_brassLine_41 (fun H locs σ21 eσ21 hP hS => ?_)
    have hJ22 : J9 (σ21 9) := hJ15.A eσ21 (show PA9 18 x8.toInt.toNat p1 from (by have f0 := h0; have f1 := t9; have f2 := t7; have f3 := b4; have f4 := b5c; have f5 := h17_2 hJ (j := 22) (by decide); have f6 := h2; have g1 := rg32 p1; have g2 := rg32 x8; have z16 : (16 : Int32).toInt = 16 := (by decide); exact ⟨by omega, by omega⟩))
    have T23 : RD (σ21 9) := RD.s18 b17 eσ21 (by have f0 := h17_2 hJ15 (j := 22) (by decide); have f1 := congrArg Int32.toInt (show ((σ13 9).2.2.1 17 22) = ((σ 9).2.2.1 17 22) from congrFun ((hF14 9 17 rfl).2.2.1) _); have f2 := h17_2 hJ (j := 22) (by decide); have f3 := h2; have f4 := b5c; have f5 := t7; have f6 := t9; have f7 := b4; have g2 := rg32 x8; have z16 : (16 : Int32).toInt = 16 := (by decide); omega)
    have T24 : DKA (σ21 9) := DKA.s18 b18 hJ15 eσ21 (by have f0 := t9; have f1 := t7; have f2 := b4; have f3 := b5c; have f4 := h17_2 hJ (j := 22) (by decide); have f5 := h2; have g1 := rg32 x8; have z16 : (16 : Int32).toInt = 16 := (by decide); omega)
    refine lv_aload_n hx hb dX9_brassLine_42 rfl (lv_at hl 2 rfl) ?_
    refine g9_18 hx hb hts hown hK hP (hts _ q1378) dX9_brassLine_43 ?_
    refine lv_iload_n hx hb dX9_brassLine_46 rfl (lv_at hl 1 rfl) ?_
    refine lv_iconst (v := 1) hx hb dX9_brassLine_47 (by decide) ?_
    refine lv_iadd hx hb dX9_brassLine_48 ?_
    refine lv_topi (fun x25 ex25 => ?_)
    have t26 := addO ex25 (by have f0 := t9; have f1 := t7; have f2 := b4; have f3 := b5c; have f4 := h17_2 hJ (j := 22) (by decide); have f5 := h2; have g1 := rg32 x8; have z1 : (1 : Int32).toInt = 1 := (by decide); have z16 : (16 : Int32).toInt = 16 := (by decide); omega)
    refine lv_aload_n hx hb dX9_brassLine_49 rfl (lv_at hl 2 rfl) ?_
    refine lv_ldc2 (v := 40613) hx hb hown (hts _ q1655) dX9_brassLine_50 ?_
    refine lv_iconst (v := 0) hx hb dX9_brassLine_53 (by decide) ?_
    refine lv_bipush (v := 40) hx hb dX9_brassLine_54 (by decide) ?_
    refine va_calli (va_runV (As := [.long 40613, .int 0, .int 40]) (rest := [.int x25, .ref (g 18)]) ⟨hx, hb, hml, hown, hts⟩ (m_X9_number_ l D cy g σ21 (40613) (0) (40) _ hJ22 (show ((σ21 9).1 7).toInt ≤ ((σ21 9).1 6).toInt from (by have f0 := j9_7 hJ22 rfl; have f1 := congrArg Int32.toInt (show ((σ21 9).1 7) = ((σ 9).1 7) from (((sA_f eσ21) 9 7 rfl).1).trans ((hF14 9 7 rfl).1)); have f2 := j9_6 hJ22 rfl; have f3 := congrArg Int32.toInt (show ((σ21 9).1 6) = ((σ 9).1 6) from (((sA_f eσ21) 9 6 rfl).1).trans ((hF14 9 6 rfl).1)); have f4 := j9_6 hJ rfl; have f5 := j9_7 hJ rfl; have f6 := h1; omega))) (cwV 3 hts (gd_V q1627 q1629 q59 q134 q1630) rfl rfl rfl (by decide +kernel) ⟨Nat.le_of_ble_eq_true rfl, Nat.le_of_ble_eq_true rfl⟩) (pv9 hP hK hD hC hS (va_recv hK hP (ci := 9) (q0 := 0) rfl rfl)) rfl rfl hl.1 rfl (lv_room (Nat.le_of_ble_eq_true rfl)) dX9_brassLine_56 ⟨Nat.le_of_ble_eq_true rfl, Nat.le_of_ble_eq_true rfl⟩) hS (fun q _ h => up9 hS q h) (up9 hS) (fun r27 σ28 tS H1 locs ht hvm hw29 hB hz1 hk1 hS => ?_)
    have hP : va_P D clz (WD9 cy g σ28) H1 := by rw [← ht]; exact hB
    clear hB hz1 hk1 hvm ht
    generalize H1 = H at hP hS ⊢
    have hF30 : Fr (fL [7, 8, 9, 10, 11, 12, 13]) σ21 σ28 := hw29.1
    have hJ31 : J9 (σ28 9) := hw29.2.1
    have b32 : ((σ21 9).1 7).toInt ≤ ((σ28 9).1 7).toInt ∧ ((σ28 9).1 7).toInt ≤ ((σ28 9).1 6).toInt := hw29.2.2.1
    have b33 : ph ((σ21 9).1 7) ((σ21 9).1 8) ≤ ph ((σ28 9).1 7) ((σ28 9).1 8) := hw29.2.2.2.1
    have b34 : (0 : Int32).toInt ≤ r27.toInt ∧ (r27.toInt ≤ (40 : Int32).toInt ∨ r27.toInt = (0 : Int32).toInt) := hw29.2.2.2.2.1
    have b35 : ¬ ((σ28 9).1 12).toInt = 0 ∨ (((σ21 9).1 12).toInt = 0 ∧ r27.toInt ≤ (40 : Int32).toInt) := hw29.2.2.2.2.2.1
    have T36 : RD (σ28 9) := RD.call T23 (by have f0 := congrArg Int32.toInt (show ((σ21 9).1 12) = ((σ 9).1 12) from (((sA_f eσ21) 9 12 rfl).1).trans ((hF14 9 12 rfl).1)); have f1 := b35; have g3 := rg32 r27; have z40 : (40 : Int32).toInt = 40 := (by decide); omega) (hF30 9 17 rfl).2.2.1 (hF30 9 18 rfl).2.2.1 (hF30 9 19 rfl).2.2.1
    have T37 : DKA (σ28 9) := DKA.mv T24 (hF30 9 17 rfl).2.2.1 (hF30 9 18 rfl).2.2.1 (hF30 9 19 rfl).2.2.1
    refine t9_18 hx hb hK hP hD hS (vpo (by have f0 := t26; have f1 := t9; have f2 := t7; have f3 := b4; have f4 := b5c; have f5 := h17_2 hJ (j := 22) (by decide); have f6 := h2; have g1 := rg32 x25; have z1 : (1 : Int32).toInt = 1 := (by decide); have z16 : (16 : Int32).toInt = 16 := (by decide); omega)) dX9_brassLine_59 (fun H locs σ38 eσ38 hP hS => ?_)
    have hJ39 : J9 (σ38 9) := hJ31.A eσ38 (show PA9 18 x25.toInt.toNat r27 from (by have f0 := t26; have f1 := t9; have f2 := t7; have f3 := b4; have f4 := b5c; have f5 := h17_2 hJ (j := 22) (by decide); have f6 := h2; have f7 := b34; have f8 := b35; have f9 := congrArg Int32.toInt (show ((σ21 9).1 12) = ((σ 9).1 12) from (((sA_f eσ21) 9 12 rfl).1).trans ((hF14 9 12 rfl).1)); have g4 := rg32 r27; have g5 := rg32 x25; have z0 : (0 : Int32).toInt = 0 := (by decide); have z1 : (1 : Int32).toInt = 1 := (by decide); have z16 : (16 : Int32).toInt = 16 := (by decide); have z40 : (40 : Int32).toInt = 40 := (by decide); exact ⟨by omega, by omega⟩))
    have T40 : RD (σ38 9) := RD.s18 T36 eσ38 (by have f0 := h17_2 hJ31 (j := 22) (by decide); have f1 := congrArg Int32.toInt (show ((σ28 9).2.2.1 17 22) = ((σ 9).2.2.1 17 22) from congrFun (((hF30 9 17 rfl).2.2.1).trans ((((sA_f eσ21) 9 17 rfl).2.2.1).trans ((hF14 9 17 rfl).2.2.1))) _); have f2 := h17_2 hJ (j := 22) (by decide); have f3 := h2; have f4 := b5c; have f5 := t7; have f6 := t9; have f7 := t26; have f8 := b4; have g2 := rg32 x25; have z1 : (1 : Int32).toInt = 1 := (by decide); have z16 : (16 : Int32).toInt = 16 := (by decide); omega)
    have T41 : DKA (σ38 9) := DKA.s18 T37 hJ31 eσ38 (by have f0 := t26; have f1 := t9; have f2 := t7; have f3 := b4; have f4 := b5c; have f5 := h17_2 hJ (j := 22) (by decide); have f6 := h2; have g1 := rg32 x25; have z1 : (1 : Int32).toInt = 1 := (by decide); have z16 : (16 : Int32).toInt = 16 := (by decide); omega)
    refine lv_aload_n hx hb dX9_brassLine_60 rfl (lv_at hl 2 rfl) ?_
    refine g9_18 hx hb hts hown hK hP (hts _ q1378) dX9_brassLine_61 ?_
    refine lv_iload_n hx hb dX9_brassLine_64 rfl (lv_at hl 1 rfl) ?_
    refine lv_iconst (v := 2) hx hb dX9_brassLine_65 (by decide) ?_
    refine lv_iadd hx hb dX9_brassLine_66 ?_
    refine lv_topi (fun x42 ex42 => ?_)
    have t43 := addO ex42 (by have f0 := t9; have f1 := t26; have f2 := t7; have f3 := b4; have f4 := b5c; have f5 := h17_2 hJ (j := 22) (by decide); have f6 := h2; have g1 := rg32 x8; have z1 : (1 : Int32).toInt = 1 := (by decide); have z2 : (2 : Int32).toInt = 2 := (by decide); have z16 : (16 : Int32).toInt = 16 := (by decide); omega)
    refine lv_aload_n hx hb dX9_brassLine_67 rfl (lv_at hl 2 rfl) ?_
    refine lv_ldc2 (v := 247516) hx hb hown (hts _ q1656) dX9_brassLine_68 ?_
    refine lv_bipush (v := 100) hx hb dX9_brassLine_71 (by decide) ?_
    refine lv_sipush (v := 999) hx hb dX9_brassLine_73 (by decide) ?_
    refine va_calli (va_runV (As := [.long 247516, .int 100, .int 999]) (rest := [.int x42, .ref (g 18)]) ⟨hx, hb, hml, hown, hts⟩ (m_X9_number_ l D cy g σ38 (247516) (100) (999) _ hJ39 (show ((σ38 9).1 7).toInt ≤ ((σ38 9).1 6).toInt from (by have f0 := j9_6 hJ39 rfl; have f1 := congrArg Int32.toInt (show ((σ38 9).1 6) = ((σ 9).1 6) from (((sA_f eσ38) 9 6 rfl).1).trans (((hF30 9 6 rfl).1).trans ((((sA_f eσ21) 9 6 rfl).1).trans ((hF14 9 6 rfl).1)))); have f2 := j9_7 hJ39 rfl; have f3 := congrArg Int32.toInt (show ((σ38 9).1 7) = ((σ28 9).1 7) from ((sA_f eσ38) 9 7 rfl).1); have f4 := j9_6 hJ rfl; have f5 := j9_7 hJ31 rfl; have f6 := h1; have f7 := j9_7 hJ rfl; have f8 := b32; have f9 := j9_7 hJ22 rfl; have f10 := congrArg Int32.toInt (show ((σ21 9).1 7) = ((σ 9).1 7) from (((sA_f eσ21) 9 7 rfl).1).trans ((hF14 9 7 rfl).1)); have f11 := j9_6 hJ31 rfl; have f12 := congrArg Int32.toInt (show ((σ28 9).1 6) = ((σ 9).1 6) from ((hF30 9 6 rfl).1).trans ((((sA_f eσ21) 9 6 rfl).1).trans ((hF14 9 6 rfl).1))); omega))) (cwV 3 hts (gd_V q1627 q1629 q59 q134 q1630) rfl rfl rfl (by decide +kernel) ⟨Nat.le_of_ble_eq_true rfl, Nat.le_of_ble_eq_true rfl⟩) (pv9 hP hK hD hC hS (va_recv hK hP (ci := 9) (q0 := 0) rfl rfl)) rfl rfl hl.1 rfl (lv_room (Nat.le_of_ble_eq_true rfl)) dX9_brassLine_76 ⟨Nat.le_of_ble_eq_true rfl, Nat.le_of_ble_eq_true rfl⟩) hS (fun q _ h => up9 hS q h) (up9 hS) (fun r44 σ45 tS H1 locs ht hvm hw46 hB hz1 hk1 hS => ?_)
    have hP : va_P D clz (WD9 cy g σ45) H1 := by rw [← ht]; exact hB
    clear hB hz1 hk1 hvm ht
    generalize H1 = H at hP hS ⊢
    have hF47 : Fr (fL [7, 8, 9, 10, 11, 12, 13]) σ38 σ45 := hw46.1
    have hJ48 : J9 (σ45 9) := hw46.2.1
    have b49 : ((σ38 9).1 7).toInt ≤ ((σ45 9).1 7).toInt ∧ ((σ45 9).1 7).toInt ≤ ((σ45 9).1 6).toInt := hw46.2.2.1
    have b50 : ph ((σ38 9).1 7) ((σ38 9).1 8) ≤ ph ((σ45 9).1 7) ((σ45 9).1 8) := hw46.2.2.2.1
    have b51 : (100 : Int32).toInt ≤ r44.toInt ∧ (r44.toInt ≤ (999 : Int32).toInt ∨ r44.toInt = (100 : Int32).toInt) := hw46.2.2.2.2.1
    have b52 : ¬ ((σ45 9).1 12).toInt = 0 ∨ (((σ38 9).1 12).toInt = 0 ∧ r44.toInt ≤ (999 : Int32).toInt) := hw46.2.2.2.2.2.1
    have T53 : RD (σ45 9) := RD.call T40 (by have f0 := congrArg Int32.toInt (show ((σ38 9).1 12) = ((σ28 9).1 12) from ((sA_f eσ38) 9 12 rfl).1); have f1 := b35; have f2 := congrArg Int32.toInt (show ((σ21 9).1 12) = ((σ 9).1 12) from (((sA_f eσ21) 9 12 rfl).1).trans ((hF14 9 12 rfl).1)); have f3 := b52; have g5 := rg32 r44; have z40 : (40 : Int32).toInt = 40 := (by decide); have z999 : (999 : Int32).toInt = 999 := (by decide); omega) (hF47 9 17 rfl).2.2.1 (hF47 9 18 rfl).2.2.1 (hF47 9 19 rfl).2.2.1
    have T54 : DKA (σ45 9) := DKA.mv T41 (hF47 9 17 rfl).2.2.1 (hF47 9 18 rfl).2.2.1 (hF47 9 19 rfl).2.2.1
    refine t9_18 hx hb hK hP hD hS (vpo (by have f0 := t43; have f1 := t9; have f2 := t26; have f3 := t7; have f4 := b4; have f5 := b5c; have f6 := h17_2 hJ (j := 22) (by decide); have f7 := h2; have g1 := rg32 x42; have z1 : (1 : Int32).toInt = 1 := (by decide); have z2 : (2 : Int32).toInt = 2 := (by decide); have z16 : (16 : Int32).toInt = 16 := (by decide); omega)) dX9_brassLine_79 (fun H locs σ55 eσ55 hP hS => ?_)
    have hJ56 : J9 (σ55 9) := hJ48.A eσ55 (show PA9 18 x42.toInt.toNat r44 from (by have f0 := t43; have f1 := t9; have f2 := t26; have f3 := t7; have f4 := b4; have f5 := b5c; have f6 := h17_2 hJ (j := 22) (by decide); have f7 := h2; have f8 := b51; have f9 := b52; have f10 := congrArg Int32.toInt (show ((σ38 9).1 12) = ((σ28 9).1 12) from ((sA_f eσ38) 9 12 rfl).1); have g4 := rg32 r44; have g5 := rg32 x42; have z1 : (1 : Int32).toInt = 1 := (by decide); have z2 : (2 : Int32).toInt = 2 := (by decide); have z16 : (16 : Int32).toInt = 16 := (by decide); have z100 : (100 : Int32).toInt = 100 := (by decide); have z999 : (999 : Int32).toInt = 999 := (by decide); exact ⟨by omega, by omega⟩))
    have T57 : RD (σ55 9) := RD.s18 T53 eσ55 (by have f0 := h17_2 hJ48 (j := 22) (by decide); have f1 := congrArg Int32.toInt (show ((σ45 9).2.2.1 17 22) = ((σ 9).2.2.1 17 22) from congrFun (((hF47 9 17 rfl).2.2.1).trans ((((sA_f eσ38) 9 17 rfl).2.2.1).trans (((hF30 9 17 rfl).2.2.1).trans ((((sA_f eσ21) 9 17 rfl).2.2.1).trans ((hF14 9 17 rfl).2.2.1))))) _); have f2 := h17_2 hJ (j := 22) (by decide); have f3 := h2; have f4 := b5c; have f5 := t7; have f6 := t9; have f7 := t26; have f8 := t43; have f9 := b4; have g2 := rg32 x42; have z1 : (1 : Int32).toInt = 1 := (by decide); have z2 : (2 : Int32).toInt = 2 := (by decide); have z16 : (16 : Int32).toInt = 16 := (by decide); omega)
    have T58 : DKA (σ55 9) := DKA.s18 T54 hJ48 eσ55 (by have f0 := t43; have f1 := t9; have f2 := t26; have f3 := t7; have f4 := b4; have f5 := b5c; have f6 := h17_2 hJ (j := 22) (by decide); have f7 := h2; have g1 := rg32 x42; have z1 : (1 : Int32).toInt = 1 := (by decide); have z2 : (2 : Int32).toInt = 2 := (by decide); have z16 : (16 : Int32).toInt = 16 := (by decide); omega)
    have T59 : LV (σ55 9) := LV.new eσ55 (by have f0 := h17_2 hJ48 (j := 22) (by decide); have f1 := congrArg Int32.toInt (show ((σ45 9).2.2.1 17 22) = ((σ 9).2.2.1 17 22) from congrFun (((hF47 9 17 rfl).2.2.1).trans ((((sA_f eσ38) 9 17 rfl).2.2.1).trans (((hF30 9 17 rfl).2.2.1).trans ((((sA_f eσ21) 9 17 rfl).2.2.1).trans ((hF14 9 17 rfl).2.2.1))))) _); have f2 := h17_2 hJ (j := 22) (by decide); have f3 := h2; have f4 := b5c; have f5 := t7; have f6 := t9; have f7 := t26; have f8 := t43; have f9 := b4; have g2 := rg32 x42; have z1 : (1 : Int32).toInt = 1 := (by decide); have z2 : (2 : Int32).toInt = 2 := (by decide); have z16 : (16 : Int32).toInt = 16 := (by decide); omega) (by have f0 := h17_2 hJ48 (j := 22) (by decide); have f1 := congrArg Int32.toInt (show ((σ45 9).2.2.1 17 22) = ((σ 9).2.2.1 17 22) from congrFun (((hF47 9 17 rfl).2.2.1).trans ((((sA_f eσ38) 9 17 rfl).2.2.1).trans (((hF30 9 17 rfl).2.2.1).trans ((((sA_f eσ21) 9 17 rfl).2.2.1).trans ((hF14 9 17 rfl).2.2.1))))) _); have f2 := h17_2 hJ (j := 22) (by decide); have f3 := h2; have f4 := b5c; have f5 := t7; have f6 := t9; have f7 := t26; have f8 := t43; have f9 := b4; have z1 : (1 : Int32).toInt = 1 := (by decide); have z2 : (2 : Int32).toInt = 2 := (by decide); have z16 : (16 : Int32).toInt = 16 := (by decide); omega) (by have f0 := b51; have f1 := b52; have f2 := congrArg Int32.toInt (show ((σ38 9).1 12) = ((σ28 9).1 12) from ((sA_f eσ38) 9 12 rfl).1); have g3 := rg32 r44; have z100 : (100 : Int32).toInt = 100 := (by decide); have z999 : (999 : Int32).toInt = 999 := (by decide); omega)
    refine lv_iload_n hx hb dX9_brassLine_80 rfl (lv_at hl 3 rfl) ?_
    refine lv_iconst (v := 1) hx hb dX9_brassLine_81 (by decide) ?_
    refine cut9 (D := D) (cy := cy) (g := g) (A := A9 cy g s.heap.size) (H0 := s.heap) 4 167 (fun x : LZ => [(3, .int (x.2.1 0)), (2, .int x8), (0, .ref (g 60)), (1, .int p1)]) (fun x : LZ => []) (fun x : LZ => (Fr (fL [7, 8, 9, 10, 11, 12, 13, 18]) σ55 x.1) ∧ (J9 (x.1 9)) ∧ ((6 : Int) ≤ (x.2.1 0).toInt ∧ (x.2.1 0).toInt ≤ 7) ∧ (((x.1 9).1 7).toInt ≤ ((x.1 9).1 6).toInt ∧ ph ((σ55 9).1 7) ((σ55 9).1 8) ≤ ph ((x.1 9).1 7) ((x.1 9).1 8) ∧ ((σ55 9).1 7).toInt ≤ ((x.1 9).1 7).toInt) ∧ (¬ ((x.1 9).1 12).toInt = 0 ∨ ((σ55 9).1 12).toInt = 0) ∧ (RD (x.1 9)) ∧ (DKA (x.1 9)) ∧ (LV (x.1 9)) ∧ True) ?_ ?_
    ·
      intro y62 hI61 H locs ls hP hS hl
      obtain ⟨σ63, eσ63⟩ : ∃ z, z = y62.1 := ⟨_, rfl⟩
      rw [← eσ63] at hP hI61
      have hF64 : Fr (fL [7, 8, 9, 10, 11, 12, 13, 18]) σ55 σ63 := hI61.1
      have hJ65 : J9 (σ63 9) := hI61.2.1
      have b66 : (6 : Int) ≤ (y62.2.1 0).toInt ∧ (y62.2.1 0).toInt ≤ 7 := hI61.2.2.1
      have b67 : ((σ63 9).1 7).toInt ≤ ((σ63 9).1 6).toInt ∧ ph ((σ55 9).1 7) ((σ55 9).1 8) ≤ ph ((σ63 9).1 7) ((σ63 9).1 8) ∧ ((σ55 9).1 7).toInt ≤ ((σ63 9).1 7).toInt := hI61.2.2.2.1
      have b68 : ¬ ((σ63 9).1 12).toInt = 0 ∨ ((σ55 9).1 12).toInt = 0 := hI61.2.2.2.2.1
      have b69 : RD (σ63 9) := hI61.2.2.2.2.2.1
      have b70 : DKA (σ63 9) := hI61.2.2.2.2.2.2.1
      have b71 : LV (σ63 9) := hI61.2.2.2.2.2.2.2.1
      have hl : lv_has ls 4 [(3, .int (y62.2.1 0)), (2, .int x8), (0, .ref (g 60)), (1, .int p1)] := hl
      refine lv_aload_n hx hb dX9_brassLine_167 rfl (lv_at hl 2 rfl) ?_
      refine g9_17 hx hb hts hown hK hP (hts _ q1377) dX9_brassLine_168 ?_
      refine lv_bipush (v := 22) hx hb dX9_brassLine_171 (by decide) ?_
      refine lv_dup2_11 hx hb dX9_brassLine_173 rfl rfl ?_
      refine l9_17 (x := ((σ 9).2.2.1 17 22)) hx hb hK hP (vpi (by decide)) ((congrFun (((hF64 9 17 rfl).2.2.1).trans ((((sA_f eσ55) 9 17 rfl).2.2.1).trans (((hF47 9 17 rfl).2.2.1).trans ((((sA_f eσ38) 9 17 rfl).2.2.1).trans (((hF30 9 17 rfl).2.2.1).trans ((((sA_f eσ21) 9 17 rfl).2.2.1).trans ((hF14 9 17 rfl).2.2.1))))))) _).trans (congrArg ((σ 9).2.2.1 17) (show (22 : Int32).toInt.toNat = 22 by decide))) dX9_brassLine_174 ?_
      refine lv_iconst (v := 1) hx hb dX9_brassLine_175 (by decide) ?_
      refine lv_iadd hx hb dX9_brassLine_176 ?_
      refine lv_topi (fun x72 ex72 => ?_)
      have t73 := addO ex72 (by have f0 := h17_2 hJ (j := 22) (by decide); have f1 := h2; have f2 := b5c; have f3 := t7; have f4 := t9; have f5 := t26; have f6 := t43; have f7 := b4; have z1 : (1 : Int32).toInt = 1 := (by decide); have z2 : (2 : Int32).toInt = 2 := (by decide); have z16 : (16 : Int32).toInt = 16 := (by decide); omega)
      refine t9_17 hx hb hK hP hD hS (vpi (by decide)) dX9_brassLine_177 (fun H locs σ74 eσ74 hP hS => ?_)
      have hJ75 : J9 (σ74 9) := hJ65.A eσ74 (show PA9 17 (22 : Int32).toInt.toNat x72 from (by have f0 := t73; have f1 := h17_2 hJ (j := 22) (by decide); have f2 := h2; have f3 := b5c; have f4 := t7; have f5 := t9; have f6 := t26; have f7 := t43; have f8 := b4; have g0 := rg32 x72; have z1 : (1 : Int32).toInt = 1 := (by decide); have z2 : (2 : Int32).toInt = 2 := (by decide); have z16 : (16 : Int32).toInt = 16 := (by decide); have z22 : (22 : Int32).toInt = 22 := (by decide); exact ⟨by omega, by omega, by omega, by omega, by omega, by omega⟩))
      have T76 : RD (σ74 9) := RD.h22 b69 b71 eσ74 (by decide) (by have f0 := h17_2 hJ65 (j := 22) (by decide); have f1 := congrArg Int32.toInt (show ((σ63 9).2.2.1 17 22) = ((σ 9).2.2.1 17 22) from congrFun (((hF64 9 17 rfl).2.2.1).trans ((((sA_f eσ55) 9 17 rfl).2.2.1).trans (((hF47 9 17 rfl).2.2.1).trans ((((sA_f eσ38) 9 17 rfl).2.2.1).trans (((hF30 9 17 rfl).2.2.1).trans ((((sA_f eσ21) 9 17 rfl).2.2.1).trans ((hF14 9 17 rfl).2.2.1))))))) _); have f2 := h17_2 hJ (j := 22) (by decide); have f3 := h2; have f4 := b5c; have f5 := t7; have f6 := t9; have f7 := t26; have f8 := t43; have f9 := t73; have f10 := b4; have f11 := updc eσ74 22; have f12 := h17_2 hJ75 (j := 22) (by decide); have z1 : (1 : Int32).toInt = 1 := (by decide); have z2 : (2 : Int32).toInt = 2 := (by decide); have z16 : (16 : Int32).toInt = 16 := (by decide); have z22 : (22 : Int32).toInt = 22 := (by decide); omega) (by have f0 := h17_2 hJ65 (j := 22) (by decide); have f1 := congrArg Int32.toInt (show ((σ63 9).2.2.1 17 22) = ((σ 9).2.2.1 17 22) from congrFun (((hF64 9 17 rfl).2.2.1).trans ((((sA_f eσ55) 9 17 rfl).2.2.1).trans (((hF47 9 17 rfl).2.2.1).trans ((((sA_f eσ38) 9 17 rfl).2.2.1).trans (((hF30 9 17 rfl).2.2.1).trans ((((sA_f eσ21) 9 17 rfl).2.2.1).trans ((hF14 9 17 rfl).2.2.1))))))) _); have f2 := h17_2 hJ (j := 22) (by decide); have f3 := h2; have f4 := b5c; have f5 := t7; have f6 := t9; have f7 := t26; have f8 := t43; have f9 := t73; have f10 := b4; have f11 := updc eσ74 20; have f12 := h17_0 hJ65 (j := 20) (by decide); have f13 := congrArg Int32.toInt (show ((σ63 9).2.2.1 17 20) = ((σ 9).2.2.1 17 20) from congrFun (((hF64 9 17 rfl).2.2.1).trans ((((sA_f eσ55) 9 17 rfl).2.2.1).trans (((hF47 9 17 rfl).2.2.1).trans ((((sA_f eσ38) 9 17 rfl).2.2.1).trans (((hF30 9 17 rfl).2.2.1).trans ((((sA_f eσ21) 9 17 rfl).2.2.1).trans ((hF14 9 17 rfl).2.2.1))))))) _); have f14 := h17_0 hJ75 (j := 20) (by decide); have f15 := h17_0 hJ (j := 20) (by decide); have f16 := updc eσ74 21; have f17 := h17_1 hJ75 (j := 21) (by decide); have f18 := h17_1 hJ65 (j := 21) (by decide); have f19 := congrArg Int32.toInt (show ((σ63 9).2.2.1 17 21) = ((σ 9).2.2.1 17 21) from congrFun (((hF64 9 17 rfl).2.2.1).trans ((((sA_f eσ55) 9 17 rfl).2.2.1).trans (((hF47 9 17 rfl).2.2.1).trans ((((sA_f eσ38) 9 17 rfl).2.2.1).trans (((hF30 9 17 rfl).2.2.1).trans ((((sA_f eσ21) 9 17 rfl).2.2.1).trans ((hF14 9 17 rfl).2.2.1))))))) _); have f20 := h17_1 hJ (j := 21) (by decide); have f21 := updc eσ74 22; have f22 := h17_2 hJ75 (j := 22) (by decide); have f23 := updc eσ74 23; have f24 := h17_3 hJ65 (j := 23) (by decide); have f25 := congrArg Int32.toInt (show ((σ63 9).2.2.1 17 23) = ((σ 9).2.2.1 17 23) from congrFun (((hF64 9 17 rfl).2.2.1).trans ((((sA_f eσ55) 9 17 rfl).2.2.1).trans (((hF47 9 17 rfl).2.2.1).trans ((((sA_f eσ38) 9 17 rfl).2.2.1).trans (((hF30 9 17 rfl).2.2.1).trans ((((sA_f eσ21) 9 17 rfl).2.2.1).trans ((hF14 9 17 rfl).2.2.1))))))) _); have f26 := h17_3 hJ75 (j := 23) (by decide); have f27 := h17_3 hJ (j := 23) (by decide); have f28 := updc eσ74 24; have f29 := h17_4 hJ75 (j := 24) (by decide); have f30 := h17_4 hJ65 (j := 24) (by decide); have f31 := congrArg Int32.toInt (show ((σ63 9).2.2.1 17 24) = ((σ 9).2.2.1 17 24) from congrFun (((hF64 9 17 rfl).2.2.1).trans ((((sA_f eσ55) 9 17 rfl).2.2.1).trans (((hF47 9 17 rfl).2.2.1).trans ((((sA_f eσ38) 9 17 rfl).2.2.1).trans (((hF30 9 17 rfl).2.2.1).trans ((((sA_f eσ21) 9 17 rfl).2.2.1).trans ((hF14 9 17 rfl).2.2.1))))))) _); have f32 := h17_4 hJ (j := 24) (by decide); have g14 := rg32 x72; have z1 : (1 : Int32).toInt = 1 := (by decide); have z2 : (2 : Int32).toInt = 2 := (by decide); have z16 : (16 : Int32).toInt = 16 := (by decide); have z22 : (22 : Int32).toInt = 22 := (by decide); omega)
      have T77 : DKA (σ74 9) := DKA.s17 b70 hJ65 eσ74 (by decide)
      exact W.vret hx hb hr (fun tS ht hW => ⟨⟨σ74, rfl, ⟨Fr.tr (Fr.tr (Fr.tr (Fr.tr (Fr.tr (Fr.tr (Fr.tr (Fr.tr (Fr.rf) hF14 (fL_sub rfl)) (sA_f eσ21) (fN_L rfl)) hF30 (fL_sub rfl)) (sA_f eσ38) (fN_L rfl)) hF47 (fL_sub rfl)) (sA_f eσ55) (fN_L rfl)) hF64 (fL_sub rfl)) (sA_f eσ74) (fN_L rfl), hJ75, T76, T77, (show ((σ 9).1 7).toInt ≤ ((σ74 9).1 7).toInt ∧ ((σ74 9).1 7).toInt ≤ ((σ74 9).1 6).toInt from (by have f0 := j9_7 hJ75 rfl; have f1 := congrArg Int32.toInt (show ((σ74 9).1 7) = ((σ63 9).1 7) from ((sA_f eσ74) 9 7 rfl).1); have f2 := j9_6 hJ75 rfl; have f3 := congrArg Int32.toInt (show ((σ74 9).1 6) = ((σ 9).1 6) from (((sA_f eσ74) 9 6 rfl).1).trans (((hF64 9 6 rfl).1).trans ((((sA_f eσ55) 9 6 rfl).1).trans (((hF47 9 6 rfl).1).trans ((((sA_f eσ38) 9 6 rfl).1).trans (((hF30 9 6 rfl).1).trans ((((sA_f eσ21) 9 6 rfl).1).trans ((hF14 9 6 rfl).1)))))))); have f4 := j9_7 hJ rfl; have f5 := j9_6 hJ rfl; have f6 := j9_7 hJ65 rfl; have f7 := h1; have f8 := b32; have f9 := j9_7 hJ31 rfl; have f10 := j9_7 hJ22 rfl; have f11 := congrArg Int32.toInt (show ((σ21 9).1 7) = ((σ 9).1 7) from (((sA_f eσ21) 9 7 rfl).1).trans ((hF14 9 7 rfl).1)); have f12 := j9_6 hJ31 rfl; have f13 := congrArg Int32.toInt (show ((σ28 9).1 6) = ((σ 9).1 6) from ((hF30 9 6 rfl).1).trans ((((sA_f eσ21) 9 6 rfl).1).trans ((hF14 9 6 rfl).1))); have f14 := b49; have f15 := j9_6 hJ48 rfl; have f16 := congrArg Int32.toInt (show ((σ45 9).1 6) = ((σ 9).1 6) from ((hF47 9 6 rfl).1).trans ((((sA_f eσ38) 9 6 rfl).1).trans (((hF30 9 6 rfl).1).trans ((((sA_f eσ21) 9 6 rfl).1).trans ((hF14 9 6 rfl).1))))); have f17 := j9_7 hJ48 rfl; have f18 := j9_7 hJ39 rfl; have f19 := congrArg Int32.toInt (show ((σ38 9).1 7) = ((σ28 9).1 7) from ((sA_f eσ38) 9 7 rfl).1); have f20 := b67; have f21 := j9_7 hJ56 rfl; have f22 := congrArg Int32.toInt (show ((σ55 9).1 7) = ((σ45 9).1 7) from ((sA_f eσ55) 9 7 rfl).1); have f23 := j9_6 hJ65 rfl; have f24 := congrArg Int32.toInt (show ((σ63 9).1 6) = ((σ 9).1 6) from ((hF64 9 6 rfl).1).trans ((((sA_f eσ55) 9 6 rfl).1).trans (((hF47 9 6 rfl).1).trans ((((sA_f eσ38) 9 6 rfl).1).trans (((hF30 9 6 rfl).1).trans ((((sA_f eσ21) 9 6 rfl).1).trans ((hF14 9 6 rfl).1))))))); have f25 := (show ph ((σ55 9).1 7) ((σ55 9).1 8) = ph ((σ45 9).1 7) ((σ45 9).1 8) from by rw [((sA_f eσ55) 9 7 rfl).1, ((sA_f eσ55) 9 8 rfl).1]); have f26 := b50; have f27 := (show ph ((σ38 9).1 7) ((σ38 9).1 8) = ph ((σ28 9).1 7) ((σ28 9).1 8) from by rw [((sA_f eσ38) 9 7 rfl).1, ((sA_f eσ38) 9 8 rfl).1]); have f28 := b33; have f29 := (show ph ((σ21 9).1 7) ((σ21 9).1 8) = ph ((σ 9).1 7) ((σ 9).1 8) from by rw [(((sA_f eσ21) 9 7 rfl).1).trans ((hF14 9 7 rfl).1), (((sA_f eσ21) 9 8 rfl).1).trans ((hF14 9 8 rfl).1)]); omega)), (show ph ((σ 9).1 7) ((σ 9).1 8) ≤ ph ((σ74 9).1 7) ((σ74 9).1 8) from (by have f0 := (show ph ((σ74 9).1 7) ((σ74 9).1 8) = ph ((σ63 9).1 7) ((σ63 9).1 8) from by rw [((sA_f eσ74) 9 7 rfl).1, ((sA_f eσ74) 9 8 rfl).1]); have f1 := b33; have f2 := (show ph ((σ21 9).1 7) ((σ21 9).1 8) = ph ((σ 9).1 7) ((σ 9).1 8) from by rw [(((sA_f eσ21) 9 7 rfl).1).trans ((hF14 9 7 rfl).1), (((sA_f eσ21) 9 8 rfl).1).trans ((hF14 9 8 rfl).1)]); have f3 := b50; have f4 := (show ph ((σ38 9).1 7) ((σ38 9).1 8) = ph ((σ28 9).1 7) ((σ28 9).1 8) from by rw [((sA_f eσ38) 9 7 rfl).1, ((sA_f eσ38) 9 8 rfl).1]); have f5 := b67; have f6 := j9_7 hJ56 rfl; have f7 := congrArg Int32.toInt (show ((σ55 9).1 7) = ((σ45 9).1 7) from ((sA_f eσ55) 9 7 rfl).1); have f8 := j9_6 hJ65 rfl; have f9 := congrArg Int32.toInt (show ((σ63 9).1 6) = ((σ 9).1 6) from ((hF64 9 6 rfl).1).trans ((((sA_f eσ55) 9 6 rfl).1).trans (((hF47 9 6 rfl).1).trans ((((sA_f eσ38) 9 6 rfl).1).trans (((hF30 9 6 rfl).1).trans ((((sA_f eσ21) 9 6 rfl).1).trans ((hF14 9 6 rfl).1))))))); have f10 := (show ph ((σ55 9).1 7) ((σ55 9).1 8) = ph ((σ45 9).1 7) ((σ45 9).1 8) from by rw [((sA_f eσ55) 9 7 rfl).1, ((sA_f eσ55) 9 8 rfl).1]); have f11 := j9_7 hJ65 rfl; have f12 := j9_6 hJ rfl; have f13 := j9_7 hJ48 rfl; have f14 := h1; have f15 := j9_7 hJ rfl; have f16 := b32; have f17 := j9_7 hJ31 rfl; have f18 := j9_7 hJ22 rfl; have f19 := congrArg Int32.toInt (show ((σ21 9).1 7) = ((σ 9).1 7) from (((sA_f eσ21) 9 7 rfl).1).trans ((hF14 9 7 rfl).1)); have f20 := j9_6 hJ31 rfl; have f21 := congrArg Int32.toInt (show ((σ28 9).1 6) = ((σ 9).1 6) from ((hF30 9 6 rfl).1).trans ((((sA_f eσ21) 9 6 rfl).1).trans ((hF14 9 6 rfl).1))); have f22 := b49; have f23 := j9_6 hJ48 rfl; have f24 := congrArg Int32.toInt (show ((σ45 9).1 6) = ((σ 9).1 6) from ((hF47 9 6 rfl).1).trans ((((sA_f eσ38) 9 6 rfl).1).trans (((hF30 9 6 rfl).1).trans ((((sA_f eσ21) 9 6 rfl).1).trans ((hF14 9 6 rfl).1))))); have f25 := j9_7 hJ39 rfl; have f26 := congrArg Int32.toInt (show ((σ38 9).1 7) = ((σ28 9).1 7) from ((sA_f eσ38) 9 7 rfl).1); omega)), (show ¬ ((σ74 9).1 12).toInt = 0 ∨ ((σ 9).1 12).toInt = 0 from (by have f0 := congrArg Int32.toInt (show ((σ74 9).1 12) = ((σ63 9).1 12) from ((sA_f eσ74) 9 12 rfl).1); have f1 := b35; have f2 := congrArg Int32.toInt (show ((σ21 9).1 12) = ((σ 9).1 12) from (((sA_f eσ21) 9 12 rfl).1).trans ((hF14 9 12 rfl).1)); have f3 := b68; have f4 := congrArg Int32.toInt (show ((σ55 9).1 12) = ((σ45 9).1 12) from ((sA_f eσ55) 9 12 rfl).1); have f5 := b52; have f6 := congrArg Int32.toInt (show ((σ38 9).1 12) = ((σ28 9).1 12) from ((sA_f eσ38) 9 12 rfl).1); have z40 : (40 : Int32).toInt = 40 := (by decide); have z999 : (999 : Int32).toInt = 999 := (by decide); omega)), trivial⟩, (show va_P D clz (WD9 cy g σ74) tS.heap by rw [ht]; exact hP)⟩, hS.F ht⟩) hS.2.2 dX9_brassLine_178
    ·
      intro nj60
      refine lv_icmp_ne (tgt := 144) hx hb dX9_brassLine_82 (by decide) (fun c79 => ?_) (fun c79 => ?_)
      ·
        have k80 := neq32 c79
        refine lv_iload_n hx hb dX9_brassLine_144 rfl (lv_at hl 3 rfl) ?_
        refine lv_iconst (v := 2) hx hb dX9_brassLine_145 (by decide) ?_
        refine lv_icmp_ne (tgt := 167) hx hb dX9_brassLine_146 (by decide) (fun c81 => ?_) (fun c81 => ?_)
        ·
          have k82 := neq32 c81
          exact nj60 (σ55, lf [(y12.2.1 0)], lg []) ⟨Fr.rf, hJ56, (show (6 : Int) ≤ ((y12.2.1 0) : Int32).toInt ∧ ((y12.2.1 0) : Int32).toInt ≤ 7 from (by have f0 := b16; have f1 := k20; have g0 := rg32 (y12.2.1 0); have z7 : (7 : Int32).toInt = 7 := (by decide); omega)), (show ((σ55 9).1 7).toInt ≤ ((σ55 9).1 6).toInt ∧ ph ((σ55 9).1 7) ((σ55 9).1 8) ≤ ph ((σ55 9).1 7) ((σ55 9).1 8) ∧ ((σ55 9).1 7).toInt ≤ ((σ55 9).1 7).toInt from (by have f0 := j9_6 hJ56 rfl; have f1 := congrArg Int32.toInt (show ((σ55 9).1 6) = ((σ 9).1 6) from (((sA_f eσ55) 9 6 rfl).1).trans (((hF47 9 6 rfl).1).trans ((((sA_f eσ38) 9 6 rfl).1).trans (((hF30 9 6 rfl).1).trans ((((sA_f eσ21) 9 6 rfl).1).trans ((hF14 9 6 rfl).1)))))); have f2 := j9_7 hJ56 rfl; have f3 := congrArg Int32.toInt (show ((σ55 9).1 7) = ((σ45 9).1 7) from ((sA_f eσ55) 9 7 rfl).1); have f4 := (show ph ((σ55 9).1 7) ((σ55 9).1 8) = ph ((σ45 9).1 7) ((σ45 9).1 8) from by rw [((sA_f eσ55) 9 7 rfl).1, ((sA_f eσ55) 9 8 rfl).1]); have f5 := j9_6 hJ rfl; have f6 := j9_7 hJ48 rfl; have f7 := h1; have f8 := j9_7 hJ rfl; have f9 := b32; have f10 := j9_7 hJ31 rfl; have f11 := j9_7 hJ22 rfl; have f12 := congrArg Int32.toInt (show ((σ21 9).1 7) = ((σ 9).1 7) from (((sA_f eσ21) 9 7 rfl).1).trans ((hF14 9 7 rfl).1)); have f13 := j9_6 hJ31 rfl; have f14 := congrArg Int32.toInt (show ((σ28 9).1 6) = ((σ 9).1 6) from ((hF30 9 6 rfl).1).trans ((((sA_f eσ21) 9 6 rfl).1).trans ((hF14 9 6 rfl).1))); have f15 := b49; have f16 := j9_6 hJ48 rfl; have f17 := congrArg Int32.toInt (show ((σ45 9).1 6) = ((σ 9).1 6) from ((hF47 9 6 rfl).1).trans ((((sA_f eσ38) 9 6 rfl).1).trans (((hF30 9 6 rfl).1).trans ((((sA_f eσ21) 9 6 rfl).1).trans ((hF14 9 6 rfl).1))))); have f18 := j9_7 hJ39 rfl; have f19 := congrArg Int32.toInt (show ((σ38 9).1 7) = ((σ28 9).1 7) from ((sA_f eσ38) 9 7 rfl).1); have f20 := b50; have f21 := (show ph ((σ38 9).1 7) ((σ38 9).1 8) = ph ((σ28 9).1 7) ((σ28 9).1 8) from by rw [((sA_f eσ38) 9 7 rfl).1, ((sA_f eσ38) 9 8 rfl).1]); have f22 := b33; have f23 := (show ph ((σ21 9).1 7) ((σ21 9).1 8) = ph ((σ 9).1 7) ((σ 9).1 8) from by rw [(((sA_f eσ21) 9 7 rfl).1).trans ((hF14 9 7 rfl).1), (((sA_f eσ21) 9 8 rfl).1).trans ((hF14 9 8 rfl).1)]); omega)), (show ¬ ((σ55 9).1 12).toInt = 0 ∨ ((σ55 9).1 12).toInt = 0 from (by have f0 := congrArg Int32.toInt (show ((σ55 9).1 12) = ((σ45 9).1 12) from ((sA_f eσ55) 9 12 rfl).1); have f1 := b52; have f2 := congrArg Int32.toInt (show ((σ38 9).1 12) = ((σ28 9).1 12) from ((sA_f eσ38) 9 12 rfl).1); have f3 := b35; have f4 := congrArg Int32.toInt (show ((σ21 9).1 12) = ((σ 9).1 12) from (((sA_f eσ21) 9 12 rfl).1).trans ((hF14 9 12 rfl).1)); have z40 : (40 : Int32).toInt = 40 := (by decide); have z999 : (999 : Int32).toInt = 999 := (by decide); omega)), (show RD (σ55 9) from T57), (show DKA (σ55 9) from T58), (show LV (σ55 9) from T59), trivial⟩ _ _ _ hP hS (lv_sub hl [0, 1, 2, 3] rfl)
        ·
          have k83 := peq32 c81
          refine lv_aload_n hx hb dX9_brassLine_149 rfl (lv_at hl 2 rfl) ?_
          refine g9_18 hx hb hts hown hK hP (hts _ q1378) dX9_brassLine_150 ?_
          refine lv_iload_n hx hb dX9_brassLine_153 rfl (lv_at hl 1 rfl) ?_
          refine lv_iconst (v := 3) hx hb dX9_brassLine_154 (by decide) ?_
          refine lv_iadd hx hb dX9_brassLine_155 ?_
          refine lv_topi (fun x84 ex84 => ?_)
          have t85 := addO ex84 (by have f0 := t9; have f1 := t26; have f2 := t43; have f3 := t7; have f4 := b4; have f5 := b5c; have f6 := h17_2 hJ (j := 22) (by decide); have f7 := h2; have g1 := rg32 x8; have z1 : (1 : Int32).toInt = 1 := (by decide); have z2 : (2 : Int32).toInt = 2 := (by decide); have z3 : (3 : Int32).toInt = 3 := (by decide); have z16 : (16 : Int32).toInt = 16 := (by decide); omega)
          refine lv_aload_n hx hb dX9_brassLine_156 rfl (lv_at hl 2 rfl) ?_
          refine lv_ldc2 (v := 388708) hx hb hown (hts _ q1659) dX9_brassLine_157 ?_
          refine lv_iconst (v := 0) hx hb dX9_brassLine_160 (by decide) ?_
          refine lv_bipush (v := 100) hx hb dX9_brassLine_161 (by decide) ?_
          refine va_calli (va_runV (As := [.long 388708, .int 0, .int 100]) (rest := [.int x84, .ref (g 18)]) ⟨hx, hb, hml, hown, hts⟩ (m_X9_number_ l D cy g σ55 (388708) (0) (100) _ hJ56 (show ((σ55 9).1 7).toInt ≤ ((σ55 9).1 6).toInt from (by have f0 := j9_6 hJ56 rfl; have f1 := congrArg Int32.toInt (show ((σ55 9).1 6) = ((σ 9).1 6) from (((sA_f eσ55) 9 6 rfl).1).trans (((hF47 9 6 rfl).1).trans ((((sA_f eσ38) 9 6 rfl).1).trans (((hF30 9 6 rfl).1).trans ((((sA_f eσ21) 9 6 rfl).1).trans ((hF14 9 6 rfl).1)))))); have f2 := j9_7 hJ56 rfl; have f3 := congrArg Int32.toInt (show ((σ55 9).1 7) = ((σ45 9).1 7) from ((sA_f eσ55) 9 7 rfl).1); have f4 := j9_6 hJ rfl; have f5 := j9_7 hJ48 rfl; have f6 := h1; have f7 := j9_7 hJ rfl; have f8 := b32; have f9 := j9_7 hJ31 rfl; have f10 := j9_7 hJ22 rfl; have f11 := congrArg Int32.toInt (show ((σ21 9).1 7) = ((σ 9).1 7) from (((sA_f eσ21) 9 7 rfl).1).trans ((hF14 9 7 rfl).1)); have f12 := j9_6 hJ31 rfl; have f13 := congrArg Int32.toInt (show ((σ28 9).1 6) = ((σ 9).1 6) from ((hF30 9 6 rfl).1).trans ((((sA_f eσ21) 9 6 rfl).1).trans ((hF14 9 6 rfl).1))); have f14 := b49; have f15 := j9_6 hJ48 rfl; have f16 := congrArg Int32.toInt (show ((σ45 9).1 6) = ((σ 9).1 6) from ((hF47 9 6 rfl).1).trans ((((sA_f eσ38) 9 6 rfl).1).trans (((hF30 9 6 rfl).1).trans ((((sA_f eσ21) 9 6 rfl).1).trans ((hF14 9 6 rfl).1))))); have f17 := j9_7 hJ39 rfl; have f18 := congrArg Int32.toInt (show ((σ38 9).1 7) = ((σ28 9).1 7) from ((sA_f eσ38) 9 7 rfl).1); omega))) (cwV 3 hts (gd_V q1627 q1629 q59 q134 q1630) rfl rfl rfl (by decide +kernel) ⟨Nat.le_of_ble_eq_true rfl, Nat.le_of_ble_eq_true rfl⟩) (pv9 hP hK hD hC hS (va_recv hK hP (ci := 9) (q0 := 0) rfl rfl)) rfl rfl hl.1 rfl (lv_room (Nat.le_of_ble_eq_true rfl)) dX9_brassLine_163 ⟨Nat.le_of_ble_eq_true rfl, Nat.le_of_ble_eq_true rfl⟩) hS (fun q _ h => up9 hS q h) (up9 hS) (fun r86 σ87 tS H1 locs ht hvm hw88 hB hz1 hk1 hS => ?_)
          have hP : va_P D clz (WD9 cy g σ87) H1 := by rw [← ht]; exact hB
          clear hB hz1 hk1 hvm ht
          generalize H1 = H at hP hS ⊢
          have hF89 : Fr (fL [7, 8, 9, 10, 11, 12, 13]) σ55 σ87 := hw88.1
          have hJ90 : J9 (σ87 9) := hw88.2.1
          have b91 : ((σ55 9).1 7).toInt ≤ ((σ87 9).1 7).toInt ∧ ((σ87 9).1 7).toInt ≤ ((σ87 9).1 6).toInt := hw88.2.2.1
          have b92 : ph ((σ55 9).1 7) ((σ55 9).1 8) ≤ ph ((σ87 9).1 7) ((σ87 9).1 8) := hw88.2.2.2.1
          have b93 : (0 : Int32).toInt ≤ r86.toInt ∧ (r86.toInt ≤ (100 : Int32).toInt ∨ r86.toInt = (0 : Int32).toInt) := hw88.2.2.2.2.1
          have b94 : ¬ ((σ87 9).1 12).toInt = 0 ∨ (((σ55 9).1 12).toInt = 0 ∧ r86.toInt ≤ (100 : Int32).toInt) := hw88.2.2.2.2.2.1
          have T95 : RD (σ87 9) := RD.call T57 (by have f0 := congrArg Int32.toInt (show ((σ55 9).1 12) = ((σ45 9).1 12) from ((sA_f eσ55) 9 12 rfl).1); have f1 := b52; have f2 := congrArg Int32.toInt (show ((σ38 9).1 12) = ((σ28 9).1 12) from ((sA_f eσ38) 9 12 rfl).1); have f3 := b94; have f4 := b35; have f5 := congrArg Int32.toInt (show ((σ21 9).1 12) = ((σ 9).1 12) from (((sA_f eσ21) 9 12 rfl).1).trans ((hF14 9 12 rfl).1)); have g7 := rg32 r86; have z40 : (40 : Int32).toInt = 40 := (by decide); have z100 : (100 : Int32).toInt = 100 := (by decide); have z999 : (999 : Int32).toInt = 999 := (by decide); omega) (hF89 9 17 rfl).2.2.1 (hF89 9 18 rfl).2.2.1 (hF89 9 19 rfl).2.2.1
          have T96 : DKA (σ87 9) := DKA.mv T58 (hF89 9 17 rfl).2.2.1 (hF89 9 18 rfl).2.2.1 (hF89 9 19 rfl).2.2.1
          have T97 : LV (σ87 9) := LV.mv T59 (hF89 9 17 rfl).2.2.1 (hF89 9 18 rfl).2.2.1
          refine t9_18 hx hb hK hP hD hS (vpo (by have f0 := t85; have f1 := t9; have f2 := t26; have f3 := t43; have f4 := t7; have f5 := b4; have f6 := b5c; have f7 := h17_2 hJ (j := 22) (by decide); have f8 := h2; have g1 := rg32 x84; have z1 : (1 : Int32).toInt = 1 := (by decide); have z2 : (2 : Int32).toInt = 2 := (by decide); have z3 : (3 : Int32).toInt = 3 := (by decide); have z16 : (16 : Int32).toInt = 16 := (by decide); omega)) dX9_brassLine_166 (fun H locs σ98 eσ98 hP hS => ?_)
          have hJ99 : J9 (σ98 9) := hJ90.A eσ98 (show PA9 18 x84.toInt.toNat r86 from (by have f0 := t85; have f1 := t9; have f2 := t26; have f3 := t43; have f4 := t7; have f5 := b4; have f6 := b5c; have f7 := h17_2 hJ (j := 22) (by decide); have f8 := h2; have f9 := b93; have f10 := b94; have f11 := congrArg Int32.toInt (show ((σ55 9).1 12) = ((σ45 9).1 12) from ((sA_f eσ55) 9 12 rfl).1); have g4 := rg32 r86; have g5 := rg32 x84; have z0 : (0 : Int32).toInt = 0 := (by decide); have z1 : (1 : Int32).toInt = 1 := (by decide); have z2 : (2 : Int32).toInt = 2 := (by decide); have z3 : (3 : Int32).toInt = 3 := (by decide); have z16 : (16 : Int32).toInt = 16 := (by decide); have z100 : (100 : Int32).toInt = 100 := (by decide); exact ⟨by omega, by omega⟩))
          have T100 : RD (σ98 9) := RD.s18 T95 eσ98 (by have f0 := h17_2 hJ90 (j := 22) (by decide); have f1 := congrArg Int32.toInt (show ((σ87 9).2.2.1 17 22) = ((σ 9).2.2.1 17 22) from congrFun (((hF89 9 17 rfl).2.2.1).trans ((((sA_f eσ55) 9 17 rfl).2.2.1).trans (((hF47 9 17 rfl).2.2.1).trans ((((sA_f eσ38) 9 17 rfl).2.2.1).trans (((hF30 9 17 rfl).2.2.1).trans ((((sA_f eσ21) 9 17 rfl).2.2.1).trans ((hF14 9 17 rfl).2.2.1))))))) _); have f2 := h17_2 hJ (j := 22) (by decide); have f3 := h2; have f4 := b5c; have f5 := t7; have f6 := t9; have f7 := t26; have f8 := t43; have f9 := t85; have f10 := b4; have g2 := rg32 x84; have z1 : (1 : Int32).toInt = 1 := (by decide); have z2 : (2 : Int32).toInt = 2 := (by decide); have z3 : (3 : Int32).toInt = 3 := (by decide); have z16 : (16 : Int32).toInt = 16 := (by decide); omega)
          have T101 : DKA (σ98 9) := DKA.s18 T96 hJ90 eσ98 (by have f0 := t85; have f1 := t9; have f2 := t26; have f3 := t43; have f4 := t7; have f5 := b4; have f6 := b5c; have f7 := h17_2 hJ (j := 22) (by decide); have f8 := h2; have g1 := rg32 x84; have z1 : (1 : Int32).toInt = 1 := (by decide); have z2 : (2 : Int32).toInt = 2 := (by decide); have z3 : (3 : Int32).toInt = 3 := (by decide); have z16 : (16 : Int32).toInt = 16 := (by decide); omega)
          have T102 : LV (σ98 9) := LV.s18 T97 eσ98 (by have f0 := h17_2 hJ90 (j := 22) (by decide); have f1 := congrArg Int32.toInt (show ((σ87 9).2.2.1 17 22) = ((σ 9).2.2.1 17 22) from congrFun (((hF89 9 17 rfl).2.2.1).trans ((((sA_f eσ55) 9 17 rfl).2.2.1).trans (((hF47 9 17 rfl).2.2.1).trans ((((sA_f eσ38) 9 17 rfl).2.2.1).trans (((hF30 9 17 rfl).2.2.1).trans ((((sA_f eσ21) 9 17 rfl).2.2.1).trans ((hF14 9 17 rfl).2.2.1))))))) _); have f2 := h17_2 hJ (j := 22) (by decide); have f3 := h2; have f4 := b5c; have f5 := t7; have f6 := t9; have f7 := t26; have f8 := t43; have f9 := t85; have f10 := b4; have g2 := rg32 x84; have z1 : (1 : Int32).toInt = 1 := (by decide); have z2 : (2 : Int32).toInt = 2 := (by decide); have z3 : (3 : Int32).toInt = 3 := (by decide); have z16 : (16 : Int32).toInt = 16 := (by decide); omega) (by have f0 := h17_2 hJ90 (j := 22) (by decide); have f1 := congrArg Int32.toInt (show ((σ87 9).2.2.1 17 22) = ((σ 9).2.2.1 17 22) from congrFun (((hF89 9 17 rfl).2.2.1).trans ((((sA_f eσ55) 9 17 rfl).2.2.1).trans (((hF47 9 17 rfl).2.2.1).trans ((((sA_f eσ38) 9 17 rfl).2.2.1).trans (((hF30 9 17 rfl).2.2.1).trans ((((sA_f eσ21) 9 17 rfl).2.2.1).trans ((hF14 9 17 rfl).2.2.1))))))) _); have f2 := h17_2 hJ (j := 22) (by decide); have f3 := h2; have f4 := b5c; have f5 := t7; have f6 := t9; have f7 := t26; have f8 := t43; have f9 := t85; have f10 := b4; have z1 : (1 : Int32).toInt = 1 := (by decide); have z2 : (2 : Int32).toInt = 2 := (by decide); have z3 : (3 : Int32).toInt = 3 := (by decide); have z16 : (16 : Int32).toInt = 16 := (by decide); omega)
          exact nj60 (σ98, lf [(y12.2.1 0)], lg []) ⟨Fr.tr (Fr.tr (Fr.rf) hF89 (fL_sub rfl)) (sA_f eσ98) (fN_L rfl), hJ99, (show (6 : Int) ≤ ((y12.2.1 0) : Int32).toInt ∧ ((y12.2.1 0) : Int32).toInt ≤ 7 from (by have f0 := b16; have f1 := k20; have g0 := rg32 (y12.2.1 0); have z7 : (7 : Int32).toInt = 7 := (by decide); omega)), (show ((σ98 9).1 7).toInt ≤ ((σ98 9).1 6).toInt ∧ ph ((σ55 9).1 7) ((σ55 9).1 8) ≤ ph ((σ98 9).1 7) ((σ98 9).1 8) ∧ ((σ55 9).1 7).toInt ≤ ((σ98 9).1 7).toInt from (by have f0 := j9_7 hJ56 rfl; have f1 := congrArg Int32.toInt (show ((σ55 9).1 7) = ((σ45 9).1 7) from ((sA_f eσ55) 9 7 rfl).1); have f2 := j9_6 hJ99 rfl; have f3 := congrArg Int32.toInt (show ((σ98 9).1 6) = ((σ 9).1 6) from (((sA_f eσ98) 9 6 rfl).1).trans (((hF89 9 6 rfl).1).trans ((((sA_f eσ55) 9 6 rfl).1).trans (((hF47 9 6 rfl).1).trans ((((sA_f eσ38) 9 6 rfl).1).trans (((hF30 9 6 rfl).1).trans ((((sA_f eσ21) 9 6 rfl).1).trans ((hF14 9 6 rfl).1)))))))); have f4 := (show ph ((σ98 9).1 7) ((σ98 9).1 8) = ph ((σ87 9).1 7) ((σ87 9).1 8) from by rw [((sA_f eσ98) 9 7 rfl).1, ((sA_f eσ98) 9 8 rfl).1]); have f5 := (show ph ((σ55 9).1 7) ((σ55 9).1 8) = ph ((σ45 9).1 7) ((σ45 9).1 8) from by rw [((sA_f eσ55) 9 7 rfl).1, ((sA_f eσ55) 9 8 rfl).1]); have f6 := j9_7 hJ99 rfl; have f7 := congrArg Int32.toInt (show ((σ98 9).1 7) = ((σ87 9).1 7) from ((sA_f eσ98) 9 7 rfl).1); have f8 := j9_7 hJ90 rfl; have f9 := j9_7 hJ48 rfl; have f10 := j9_6 hJ rfl; have f11 := h1; have f12 := j9_7 hJ rfl; have f13 := b32; have f14 := j9_7 hJ31 rfl; have f15 := j9_7 hJ22 rfl; have f16 := congrArg Int32.toInt (show ((σ21 9).1 7) = ((σ 9).1 7) from (((sA_f eσ21) 9 7 rfl).1).trans ((hF14 9 7 rfl).1)); have f17 := j9_6 hJ31 rfl; have f18 := congrArg Int32.toInt (show ((σ28 9).1 6) = ((σ 9).1 6) from ((hF30 9 6 rfl).1).trans ((((sA_f eσ21) 9 6 rfl).1).trans ((hF14 9 6 rfl).1))); have f19 := b49; have f20 := j9_6 hJ48 rfl; have f21 := congrArg Int32.toInt (show ((σ45 9).1 6) = ((σ 9).1 6) from ((hF47 9 6 rfl).1).trans ((((sA_f eσ38) 9 6 rfl).1).trans (((hF30 9 6 rfl).1).trans ((((sA_f eσ21) 9 6 rfl).1).trans ((hF14 9 6 rfl).1))))); have f22 := j9_7 hJ39 rfl; have f23 := congrArg Int32.toInt (show ((σ38 9).1 7) = ((σ28 9).1 7) from ((sA_f eσ38) 9 7 rfl).1); have f24 := b50; have f25 := (show ph ((σ38 9).1 7) ((σ38 9).1 8) = ph ((σ28 9).1 7) ((σ28 9).1 8) from by rw [((sA_f eσ38) 9 7 rfl).1, ((sA_f eσ38) 9 8 rfl).1]); have f26 := b91; have f27 := j9_6 hJ90 rfl; have f28 := congrArg Int32.toInt (show ((σ87 9).1 6) = ((σ 9).1 6) from ((hF89 9 6 rfl).1).trans ((((sA_f eσ55) 9 6 rfl).1).trans (((hF47 9 6 rfl).1).trans ((((sA_f eσ38) 9 6 rfl).1).trans (((hF30 9 6 rfl).1).trans ((((sA_f eσ21) 9 6 rfl).1).trans ((hF14 9 6 rfl).1))))))); have f29 := b92; have f30 := b33; have f31 := (show ph ((σ21 9).1 7) ((σ21 9).1 8) = ph ((σ 9).1 7) ((σ 9).1 8) from by rw [(((sA_f eσ21) 9 7 rfl).1).trans ((hF14 9 7 rfl).1), (((sA_f eσ21) 9 8 rfl).1).trans ((hF14 9 8 rfl).1)]); omega)), (show ¬ ((σ98 9).1 12).toInt = 0 ∨ ((σ55 9).1 12).toInt = 0 from (by have f0 := congrArg Int32.toInt (show ((σ98 9).1 12) = ((σ87 9).1 12) from ((sA_f eσ98) 9 12 rfl).1); have f1 := congrArg Int32.toInt (show ((σ55 9).1 12) = ((σ45 9).1 12) from ((sA_f eσ55) 9 12 rfl).1); have f2 := b52; have f3 := congrArg Int32.toInt (show ((σ38 9).1 12) = ((σ28 9).1 12) from ((sA_f eσ38) 9 12 rfl).1); have f4 := b94; have f5 := b35; have f6 := congrArg Int32.toInt (show ((σ21 9).1 12) = ((σ 9).1 12) from (((sA_f eσ21) 9 12 rfl).1).trans ((hF14 9 12 rfl).1)); have z40 : (40 : Int32).toInt = 40 := (by decide); have z100 : (100 : Int32).toInt = 100 := (by decide); have z999 : (999 : Int32).toInt = 999 := (by decide); omega)), (show RD (σ98 9) from T100), (show DKA (σ98 9) from T101), (show LV (σ98 9) from T102), trivial⟩ _ _ _ hP hS (lv_sub hl [0, 1, 2, 3] rfl)
      ·
        have k103 := peq32 c79
        refine lv_aload_n hx hb dX9_brassLine_85 rfl (lv_at hl 2 rfl) ?_
        refine lv_ldc2 (v := 316459783) hx hb hown (hts _ q1657) dX9_brassLine_86 ?_
        refine va_callv (va_runV (As := [.long 316459783]) (rest := []) ⟨hx, hb, hml, hown, hts⟩ (m_X9_asks l D cy g σ55 (316459783) _ hJ56 (show ((σ55 9).1 7).toInt ≤ ((σ55 9).1 6).toInt from (by have f0 := j9_6 hJ56 rfl; have f1 := congrArg Int32.toInt (show ((σ55 9).1 6) = ((σ 9).1 6) from (((sA_f eσ55) 9 6 rfl).1).trans (((hF47 9 6 rfl).1).trans ((((sA_f eσ38) 9 6 rfl).1).trans (((hF30 9 6 rfl).1).trans ((((sA_f eσ21) 9 6 rfl).1).trans ((hF14 9 6 rfl).1)))))); have f2 := j9_7 hJ56 rfl; have f3 := congrArg Int32.toInt (show ((σ55 9).1 7) = ((σ45 9).1 7) from ((sA_f eσ55) 9 7 rfl).1); have f4 := j9_6 hJ rfl; have f5 := j9_7 hJ48 rfl; have f6 := h1; have f7 := j9_7 hJ rfl; have f8 := b32; have f9 := j9_7 hJ31 rfl; have f10 := j9_7 hJ22 rfl; have f11 := congrArg Int32.toInt (show ((σ21 9).1 7) = ((σ 9).1 7) from (((sA_f eσ21) 9 7 rfl).1).trans ((hF14 9 7 rfl).1)); have f12 := j9_6 hJ31 rfl; have f13 := congrArg Int32.toInt (show ((σ28 9).1 6) = ((σ 9).1 6) from ((hF30 9 6 rfl).1).trans ((((sA_f eσ21) 9 6 rfl).1).trans ((hF14 9 6 rfl).1))); have f14 := b49; have f15 := j9_6 hJ48 rfl; have f16 := congrArg Int32.toInt (show ((σ45 9).1 6) = ((σ 9).1 6) from ((hF47 9 6 rfl).1).trans ((((sA_f eσ38) 9 6 rfl).1).trans (((hF30 9 6 rfl).1).trans ((((sA_f eσ21) 9 6 rfl).1).trans ((hF14 9 6 rfl).1))))); have f17 := j9_7 hJ39 rfl; have f18 := congrArg Int32.toInt (show ((σ38 9).1 7) = ((σ28 9).1 7) from ((sA_f eσ38) 9 7 rfl).1); omega))) (cwV 1 hts (gd_V q1610 q1612 q55 q134 q1613) rfl rfl rfl (by decide +kernel) ⟨Nat.le_of_ble_eq_true rfl, Nat.le_of_ble_eq_true rfl⟩) (pv9 hP hK hD hC hS (va_recv hK hP (ci := 9) (q0 := 0) rfl rfl)) rfl rfl hl.1 rfl (lv_room (Nat.le_of_ble_eq_true rfl)) dX9_brassLine_89 ⟨Nat.le_of_ble_eq_true rfl, Nat.le_of_ble_eq_true rfl⟩) hS (fun q _ h => up9 hS q h) (up9 hS) (fun σ105 tS H1 locs ht hvm hw106 hB hz1 hk1 hS => ?_)
        have hP : va_P D clz (WD9 cy g σ105) H1 := by rw [← ht]; exact hB
        clear hB hz1 hk1 hvm ht
        generalize H1 = H at hP hS ⊢
        have hF107 : Fr (fL [7, 8, 9, 10, 11, 12, 13]) σ55 σ105 := hw106.1
        have hJ108 : J9 (σ105 9) := hw106.2.1
        have b109 : ((σ55 9).1 7).toInt ≤ ((σ105 9).1 7).toInt ∧ ((σ105 9).1 7).toInt ≤ ((σ105 9).1 6).toInt := hw106.2.2.1
        have b110 : ph ((σ55 9).1 7) ((σ55 9).1 8) ≤ ph ((σ105 9).1 7) ((σ105 9).1 8) := hw106.2.2.2.1
        have b111 : ¬ ((σ105 9).1 12).toInt = 0 ∨ ((σ55 9).1 12).toInt = 0 := hw106.2.2.2.2.1
        have T112 : RD (σ105 9) := RD.call T57 (by have f0 := congrArg Int32.toInt (show ((σ55 9).1 12) = ((σ45 9).1 12) from ((sA_f eσ55) 9 12 rfl).1); have f1 := b52; have f2 := congrArg Int32.toInt (show ((σ38 9).1 12) = ((σ28 9).1 12) from ((sA_f eσ38) 9 12 rfl).1); have f3 := b111; have f4 := b35; have f5 := congrArg Int32.toInt (show ((σ21 9).1 12) = ((σ 9).1 12) from (((sA_f eσ21) 9 12 rfl).1).trans ((hF14 9 12 rfl).1)); have z40 : (40 : Int32).toInt = 40 := (by decide); have z999 : (999 : Int32).toInt = 999 := (by decide); omega) (hF107 9 17 rfl).2.2.1 (hF107 9 18 rfl).2.2.1 (hF107 9 19 rfl).2.2.1
        have T113 : DKA (σ105 9) := DKA.mv T58 (hF107 9 17 rfl).2.2.1 (hF107 9 18 rfl).2.2.1 (hF107 9 19 rfl).2.2.1
        have T114 : LV (σ105 9) := LV.mv T59 (hF107 9 17 rfl).2.2.1 (hF107 9 18 rfl).2.2.1
        refine lv_iconst (v := 3) hx hb dX9_brassLine_92 (by decide) ?_
        refine lv_istore_n (lv' := [(3, .int 3), (2, .int x8), (0, .ref (g 60)), (1, .int p1)]) hx hb dX9_brassLine_93 rfl hl (by decide) rfl (fun ls hl => ?_)
        refine loop9 4 94 (fun x : LZ => [(3, .int (x.2.1 0)), (2, .int x8), (0, .ref (g 60)), (1, .int p1)]) (fun x : LZ => (Fr (fL [7, 8, 9, 10, 11, 12, 13, 18]) σ105 x.1) ∧ (J9 (x.1 9)) ∧ ((3 : Int) ≤ (x.2.1 0).toInt ∧ (x.2.1 0).toInt ≤ 6) ∧ (((x.1 9).1 7).toInt ≤ ((x.1 9).1 6).toInt ∧ ph ((σ105 9).1 7) ((σ105 9).1 8) ≤ ph ((x.1 9).1 7) ((x.1 9).1 8) ∧ ((σ105 9).1 7).toInt ≤ ((x.1 9).1 7).toInt) ∧ (¬ ((x.1 9).1 12).toInt = 0 ∨ ((σ105 9).1 12).toInt = 0) ∧ (RD (x.1 9)) ∧ (DKA (x.1 9)) ∧ (LV (x.1 9)) ∧ True) (fun x : LZ => ((7 : Int) - (x.2.1 0).toInt).toNat) ?_ (σ105, lf [3], lg []) ⟨Fr.rf, hJ108, (show (3 : Int) ≤ (3 : Int32).toInt ∧ (3 : Int32).toInt ≤ 6 from (by have z3 : (3 : Int32).toInt = 3 := (by decide); omega)), (show ((σ105 9).1 7).toInt ≤ ((σ105 9).1 6).toInt ∧ ph ((σ105 9).1 7) ((σ105 9).1 8) ≤ ph ((σ105 9).1 7) ((σ105 9).1 8) ∧ ((σ105 9).1 7).toInt ≤ ((σ105 9).1 7).toInt from (by have f0 := j9_6 hJ108 rfl; have f1 := congrArg Int32.toInt (show ((σ105 9).1 6) = ((σ 9).1 6) from ((hF107 9 6 rfl).1).trans ((((sA_f eσ55) 9 6 rfl).1).trans (((hF47 9 6 rfl).1).trans ((((sA_f eσ38) 9 6 rfl).1).trans (((hF30 9 6 rfl).1).trans ((((sA_f eσ21) 9 6 rfl).1).trans ((hF14 9 6 rfl).1))))))); have f2 := j9_7 hJ108 rfl; have f3 := j9_6 hJ rfl; have f4 := h1; have f5 := j9_7 hJ rfl; have f6 := b32; have f7 := j9_7 hJ31 rfl; have f8 := j9_7 hJ22 rfl; have f9 := congrArg Int32.toInt (show ((σ21 9).1 7) = ((σ 9).1 7) from (((sA_f eσ21) 9 7 rfl).1).trans ((hF14 9 7 rfl).1)); have f10 := j9_6 hJ31 rfl; have f11 := congrArg Int32.toInt (show ((σ28 9).1 6) = ((σ 9).1 6) from ((hF30 9 6 rfl).1).trans ((((sA_f eσ21) 9 6 rfl).1).trans ((hF14 9 6 rfl).1))); have f12 := b49; have f13 := j9_6 hJ48 rfl; have f14 := congrArg Int32.toInt (show ((σ45 9).1 6) = ((σ 9).1 6) from ((hF47 9 6 rfl).1).trans ((((sA_f eσ38) 9 6 rfl).1).trans (((hF30 9 6 rfl).1).trans ((((sA_f eσ21) 9 6 rfl).1).trans ((hF14 9 6 rfl).1))))); have f15 := j9_7 hJ48 rfl; have f16 := j9_7 hJ39 rfl; have f17 := congrArg Int32.toInt (show ((σ38 9).1 7) = ((σ28 9).1 7) from ((sA_f eσ38) 9 7 rfl).1); have f18 := b109; have f19 := j9_7 hJ56 rfl; have f20 := congrArg Int32.toInt (show ((σ55 9).1 7) = ((σ45 9).1 7) from ((sA_f eσ55) 9 7 rfl).1); have f21 := b110; have f22 := (show ph ((σ55 9).1 7) ((σ55 9).1 8) = ph ((σ45 9).1 7) ((σ45 9).1 8) from by rw [((sA_f eσ55) 9 7 rfl).1, ((sA_f eσ55) 9 8 rfl).1]); have f23 := b50; have f24 := (show ph ((σ38 9).1 7) ((σ38 9).1 8) = ph ((σ28 9).1 7) ((σ28 9).1 8) from by rw [((sA_f eσ38) 9 7 rfl).1, ((sA_f eσ38) 9 8 rfl).1]); have f25 := b33; have f26 := (show ph ((σ21 9).1 7) ((σ21 9).1 8) = ph ((σ 9).1 7) ((σ 9).1 8) from by rw [(((sA_f eσ21) 9 7 rfl).1).trans ((hF14 9 7 rfl).1), (((sA_f eσ21) 9 8 rfl).1).trans ((hF14 9 8 rfl).1)]); omega)), (show ¬ ((σ105 9).1 12).toInt = 0 ∨ ((σ105 9).1 12).toInt = 0 from (by have f0 := b111; have f1 := congrArg Int32.toInt (show ((σ55 9).1 12) = ((σ45 9).1 12) from ((sA_f eσ55) 9 12 rfl).1); have f2 := b52; have f3 := congrArg Int32.toInt (show ((σ38 9).1 12) = ((σ28 9).1 12) from ((sA_f eσ38) 9 12 rfl).1); have f4 := b35; have f5 := congrArg Int32.toInt (show ((σ21 9).1 12) = ((σ 9).1 12) from (((sA_f eσ21) 9 12 rfl).1).trans ((hF14 9 12 rfl).1)); have z40 : (40 : Int32).toInt = 40 := (by decide); have z999 : (999 : Int32).toInt = 999 := (by decide); omega)), (show RD (σ105 9) from T112), (show DKA (σ105 9) from T113), (show LV (σ105 9) from T114), trivial⟩ _ _ _ hP hS (lv_sub hl [0, 1, 2, 3] rfl)
        intro y117 hI116 nl115 H locs ls hP hS hl
        obtain ⟨σ118, eσ118⟩ : ∃ z, z = y117.1 := ⟨_, rfl⟩
        rw [← eσ118] at hP hI116
        have hF119 : Fr (fL [7, 8, 9, 10, 11, 12, 13, 18]) σ105 σ118 := hI116.1
        have hJ120 : J9 (σ118 9) := hI116.2.1
        have b121 : (3 : Int) ≤ (y117.2.1 0).toInt ∧ (y117.2.1 0).toInt ≤ 6 := hI116.2.2.1
        have b122 : ((σ118 9).1 7).toInt ≤ ((σ118 9).1 6).toInt ∧ ph ((σ105 9).1 7) ((σ105 9).1 8) ≤ ph ((σ118 9).1 7) ((σ118 9).1 8) ∧ ((σ105 9).1 7).toInt ≤ ((σ118 9).1 7).toInt := hI116.2.2.2.1
        have b123 : ¬ ((σ118 9).1 12).toInt = 0 ∨ ((σ105 9).1 12).toInt = 0 := hI116.2.2.2.2.1
        have b124 : RD (σ118 9) := hI116.2.2.2.2.2.1
        have b125 : DKA (σ118 9) := hI116.2.2.2.2.2.2.1
        have b126 : LV (σ118 9) := hI116.2.2.2.2.2.2.2.1
        have hl : lv_has ls 4 [(3, .int (y117.2.1 0)), (2, .int x8), (0, .ref (g 60)), (1, .int p1)] := hl
        refine lv_iload_n hx hb dX9_brassLine_94 rfl (lv_at hl 0 rfl) ?_
        refine lv_bipush (v := 6) hx hb dX9_brassLine_95 (by decide) ?_
        refine lv_icmp_ge (tgt := 122) hx hb dX9_brassLine_97 (by decide) (fun c127 => ?_) (fun c127 => ?_)
        ·
          have k128 := ple32 c127
          refine lv_aload_n hx hb dX9_brassLine_122 rfl (lv_at hl 2 rfl) ?_
          refine g9_18 hx hb hts hown hK hP (hts _ q1378) dX9_brassLine_123 ?_
          refine lv_iload_n hx hb dX9_brassLine_126 rfl (lv_at hl 1 rfl) ?_
          refine lv_bipush (v := 6) hx hb dX9_brassLine_127 (by decide) ?_
          refine lv_iadd hx hb dX9_brassLine_129 ?_
          refine lv_topi (fun x129 ex129 => ?_)
          have t130 := addO ex129 (by have f0 := t9; have f1 := t26; have f2 := t43; have f3 := t7; have f4 := b4; have f5 := b5c; have f6 := h17_2 hJ (j := 22) (by decide); have f7 := h2; have g1 := rg32 x8; have z1 : (1 : Int32).toInt = 1 := (by decide); have z2 : (2 : Int32).toInt = 2 := (by decide); have z6 : (6 : Int32).toInt = 6 := (by decide); have z16 : (16 : Int32).toInt = 16 := (by decide); omega)
          refine lv_aload_n hx hb dX9_brassLine_130 rfl (lv_at hl 2 rfl) ?_
          refine lv_ldc2 (v := 2481427) hx hb hown (hts _ q1658) dX9_brassLine_131 ?_
          refine lv_iconst (v := 0) hx hb dX9_brassLine_134 (by decide) ?_
          refine lv_bipush (v := 60) hx hb dX9_brassLine_135 (by decide) ?_
          refine va_calli (va_runV (As := [.long 2481427, .int 0, .int 60]) (rest := [.int x129, .ref (g 18)]) ⟨hx, hb, hml, hown, hts⟩ (m_X9_number_ l D cy g σ118 (2481427) (0) (60) _ hJ120 (show ((σ118 9).1 7).toInt ≤ ((σ118 9).1 6).toInt from (by have f0 := j9_7 hJ120 rfl; have f1 := j9_6 hJ120 rfl; have f2 := congrArg Int32.toInt (show ((σ118 9).1 6) = ((σ 9).1 6) from ((hF119 9 6 rfl).1).trans (((hF107 9 6 rfl).1).trans ((((sA_f eσ55) 9 6 rfl).1).trans (((hF47 9 6 rfl).1).trans ((((sA_f eσ38) 9 6 rfl).1).trans (((hF30 9 6 rfl).1).trans ((((sA_f eσ21) 9 6 rfl).1).trans ((hF14 9 6 rfl).1)))))))); have f3 := j9_6 hJ rfl; have f4 := h1; have f5 := j9_7 hJ rfl; have f6 := b32; have f7 := j9_7 hJ31 rfl; have f8 := j9_7 hJ22 rfl; have f9 := congrArg Int32.toInt (show ((σ21 9).1 7) = ((σ 9).1 7) from (((sA_f eσ21) 9 7 rfl).1).trans ((hF14 9 7 rfl).1)); have f10 := j9_6 hJ31 rfl; have f11 := congrArg Int32.toInt (show ((σ28 9).1 6) = ((σ 9).1 6) from ((hF30 9 6 rfl).1).trans ((((sA_f eσ21) 9 6 rfl).1).trans ((hF14 9 6 rfl).1))); have f12 := b49; have f13 := j9_6 hJ48 rfl; have f14 := congrArg Int32.toInt (show ((σ45 9).1 6) = ((σ 9).1 6) from ((hF47 9 6 rfl).1).trans ((((sA_f eσ38) 9 6 rfl).1).trans (((hF30 9 6 rfl).1).trans ((((sA_f eσ21) 9 6 rfl).1).trans ((hF14 9 6 rfl).1))))); have f15 := j9_7 hJ48 rfl; have f16 := j9_7 hJ39 rfl; have f17 := congrArg Int32.toInt (show ((σ38 9).1 7) = ((σ28 9).1 7) from ((sA_f eσ38) 9 7 rfl).1); have f18 := b109; have f19 := j9_6 hJ108 rfl; have f20 := congrArg Int32.toInt (show ((σ105 9).1 6) = ((σ 9).1 6) from ((hF107 9 6 rfl).1).trans ((((sA_f eσ55) 9 6 rfl).1).trans (((hF47 9 6 rfl).1).trans ((((sA_f eσ38) 9 6 rfl).1).trans (((hF30 9 6 rfl).1).trans ((((sA_f eσ21) 9 6 rfl).1).trans ((hF14 9 6 rfl).1))))))); have f21 := j9_7 hJ56 rfl; have f22 := congrArg Int32.toInt (show ((σ55 9).1 7) = ((σ45 9).1 7) from ((sA_f eσ55) 9 7 rfl).1); have f23 := j9_7 hJ108 rfl; have f24 := b122; have f25 := b110; have f26 := (show ph ((σ55 9).1 7) ((σ55 9).1 8) = ph ((σ45 9).1 7) ((σ45 9).1 8) from by rw [((sA_f eσ55) 9 7 rfl).1, ((sA_f eσ55) 9 8 rfl).1]); have f27 := b50; have f28 := (show ph ((σ38 9).1 7) ((σ38 9).1 8) = ph ((σ28 9).1 7) ((σ28 9).1 8) from by rw [((sA_f eσ38) 9 7 rfl).1, ((sA_f eσ38) 9 8 rfl).1]); have f29 := b33; have f30 := (show ph ((σ21 9).1 7) ((σ21 9).1 8) = ph ((σ 9).1 7) ((σ 9).1 8) from by rw [(((sA_f eσ21) 9 7 rfl).1).trans ((hF14 9 7 rfl).1), (((sA_f eσ21) 9 8 rfl).1).trans ((hF14 9 8 rfl).1)]); omega))) (cwV 3 hts (gd_V q1627 q1629 q59 q134 q1630) rfl rfl rfl (by decide +kernel) ⟨Nat.le_of_ble_eq_true rfl, Nat.le_of_ble_eq_true rfl⟩) (pv9 hP hK hD hC hS (va_recv hK hP (ci := 9) (q0 := 0) rfl rfl)) rfl rfl hl.1 rfl (lv_room (Nat.le_of_ble_eq_true rfl)) dX9_brassLine_137 ⟨Nat.le_of_ble_eq_true rfl, Nat.le_of_ble_eq_true rfl⟩) hS (fun q _ h => up9 hS q h) (up9 hS) (fun r131 σ132 tS H1 locs ht hvm hw133 hB hz1 hk1 hS => ?_)
          have hP : va_P D clz (WD9 cy g σ132) H1 := by rw [← ht]; exact hB
          clear hB hz1 hk1 hvm ht
          generalize H1 = H at hP hS ⊢
          have hF134 : Fr (fL [7, 8, 9, 10, 11, 12, 13]) σ118 σ132 := hw133.1
          have hJ135 : J9 (σ132 9) := hw133.2.1
          have b136 : ((σ118 9).1 7).toInt ≤ ((σ132 9).1 7).toInt ∧ ((σ132 9).1 7).toInt ≤ ((σ132 9).1 6).toInt := hw133.2.2.1
          have b137 : ph ((σ118 9).1 7) ((σ118 9).1 8) ≤ ph ((σ132 9).1 7) ((σ132 9).1 8) := hw133.2.2.2.1
          have b138 : (0 : Int32).toInt ≤ r131.toInt ∧ (r131.toInt ≤ (60 : Int32).toInt ∨ r131.toInt = (0 : Int32).toInt) := hw133.2.2.2.2.1
          have b139 : ¬ ((σ132 9).1 12).toInt = 0 ∨ (((σ118 9).1 12).toInt = 0 ∧ r131.toInt ≤ (60 : Int32).toInt) := hw133.2.2.2.2.2.1
          have T140 : RD (σ132 9) := RD.call b124 (by have f0 := b123; have f1 := b139; have f2 := b111; have f3 := congrArg Int32.toInt (show ((σ55 9).1 12) = ((σ45 9).1 12) from ((sA_f eσ55) 9 12 rfl).1); have f4 := b52; have f5 := congrArg Int32.toInt (show ((σ38 9).1 12) = ((σ28 9).1 12) from ((sA_f eσ38) 9 12 rfl).1); have f6 := b35; have f7 := congrArg Int32.toInt (show ((σ21 9).1 12) = ((σ 9).1 12) from (((sA_f eσ21) 9 12 rfl).1).trans ((hF14 9 12 rfl).1)); have g9 := rg32 r131; have z40 : (40 : Int32).toInt = 40 := (by decide); have z60 : (60 : Int32).toInt = 60 := (by decide); have z999 : (999 : Int32).toInt = 999 := (by decide); omega) (hF134 9 17 rfl).2.2.1 (hF134 9 18 rfl).2.2.1 (hF134 9 19 rfl).2.2.1
          have T141 : DKA (σ132 9) := DKA.mv b125 (hF134 9 17 rfl).2.2.1 (hF134 9 18 rfl).2.2.1 (hF134 9 19 rfl).2.2.1
          have T142 : LV (σ132 9) := LV.mv b126 (hF134 9 17 rfl).2.2.1 (hF134 9 18 rfl).2.2.1
          refine t9_18 hx hb hK hP hD hS (vpo (by have f0 := t130; have f1 := t9; have f2 := t26; have f3 := t43; have f4 := t7; have f5 := b4; have f6 := b5c; have f7 := h17_2 hJ (j := 22) (by decide); have f8 := h2; have g1 := rg32 x129; have z1 : (1 : Int32).toInt = 1 := (by decide); have z2 : (2 : Int32).toInt = 2 := (by decide); have z6 : (6 : Int32).toInt = 6 := (by decide); have z16 : (16 : Int32).toInt = 16 := (by decide); omega)) dX9_brassLine_140 (fun H locs σ143 eσ143 hP hS => ?_)
          have hJ144 : J9 (σ143 9) := hJ135.A eσ143 (show PA9 18 x129.toInt.toNat r131 from (by have f0 := t130; have f1 := t9; have f2 := t26; have f3 := t43; have f4 := t7; have f5 := b4; have f6 := b5c; have f7 := h17_2 hJ (j := 22) (by decide); have f8 := h2; have f9 := b138; have f10 := b139; have g3 := rg32 r131; have g4 := rg32 x129; have z0 : (0 : Int32).toInt = 0 := (by decide); have z1 : (1 : Int32).toInt = 1 := (by decide); have z2 : (2 : Int32).toInt = 2 := (by decide); have z6 : (6 : Int32).toInt = 6 := (by decide); have z16 : (16 : Int32).toInt = 16 := (by decide); have z60 : (60 : Int32).toInt = 60 := (by decide); exact ⟨by omega, by omega⟩))
          have T145 : RD (σ143 9) := RD.s18 T140 eσ143 (by have f0 := h17_2 hJ135 (j := 22) (by decide); have f1 := congrArg Int32.toInt (show ((σ132 9).2.2.1 17 22) = ((σ 9).2.2.1 17 22) from congrFun (((hF134 9 17 rfl).2.2.1).trans (((hF119 9 17 rfl).2.2.1).trans (((hF107 9 17 rfl).2.2.1).trans ((((sA_f eσ55) 9 17 rfl).2.2.1).trans (((hF47 9 17 rfl).2.2.1).trans ((((sA_f eσ38) 9 17 rfl).2.2.1).trans (((hF30 9 17 rfl).2.2.1).trans ((((sA_f eσ21) 9 17 rfl).2.2.1).trans ((hF14 9 17 rfl).2.2.1))))))))) _); have f2 := h17_2 hJ (j := 22) (by decide); have f3 := h2; have f4 := b5c; have f5 := t7; have f6 := t9; have f7 := t26; have f8 := t43; have f9 := t130; have f10 := b4; have g2 := rg32 x129; have z1 : (1 : Int32).toInt = 1 := (by decide); have z2 : (2 : Int32).toInt = 2 := (by decide); have z6 : (6 : Int32).toInt = 6 := (by decide); have z16 : (16 : Int32).toInt = 16 := (by decide); omega)
          have T146 : DKA (σ143 9) := DKA.s18 T141 hJ135 eσ143 (by have f0 := t130; have f1 := t9; have f2 := t26; have f3 := t43; have f4 := t7; have f5 := b4; have f6 := b5c; have f7 := h17_2 hJ (j := 22) (by decide); have f8 := h2; have g1 := rg32 x129; have z1 : (1 : Int32).toInt = 1 := (by decide); have z2 : (2 : Int32).toInt = 2 := (by decide); have z6 : (6 : Int32).toInt = 6 := (by decide); have z16 : (16 : Int32).toInt = 16 := (by decide); omega)
          have T147 : LV (σ143 9) := LV.s18 T142 eσ143 (by have f0 := h17_2 hJ135 (j := 22) (by decide); have f1 := congrArg Int32.toInt (show ((σ132 9).2.2.1 17 22) = ((σ 9).2.2.1 17 22) from congrFun (((hF134 9 17 rfl).2.2.1).trans (((hF119 9 17 rfl).2.2.1).trans (((hF107 9 17 rfl).2.2.1).trans ((((sA_f eσ55) 9 17 rfl).2.2.1).trans (((hF47 9 17 rfl).2.2.1).trans ((((sA_f eσ38) 9 17 rfl).2.2.1).trans (((hF30 9 17 rfl).2.2.1).trans ((((sA_f eσ21) 9 17 rfl).2.2.1).trans ((hF14 9 17 rfl).2.2.1))))))))) _); have f2 := h17_2 hJ (j := 22) (by decide); have f3 := h2; have f4 := b5c; have f5 := t7; have f6 := t9; have f7 := t26; have f8 := t43; have f9 := t130; have f10 := b4; have g2 := rg32 x129; have z1 : (1 : Int32).toInt = 1 := (by decide); have z2 : (2 : Int32).toInt = 2 := (by decide); have z6 : (6 : Int32).toInt = 6 := (by decide); have z16 : (16 : Int32).toInt = 16 := (by decide); omega) (by have f0 := h17_2 hJ135 (j := 22) (by decide); have f1 := congrArg Int32.toInt (show ((σ132 9).2.2.1 17 22) = ((σ 9).2.2.1 17 22) from congrFun (((hF134 9 17 rfl).2.2.1).trans (((hF119 9 17 rfl).2.2.1).trans (((hF107 9 17 rfl).2.2.1).trans ((((sA_f eσ55) 9 17 rfl).2.2.1).trans (((hF47 9 17 rfl).2.2.1).trans ((((sA_f eσ38) 9 17 rfl).2.2.1).trans (((hF30 9 17 rfl).2.2.1).trans ((((sA_f eσ21) 9 17 rfl).2.2.1).trans ((hF14 9 17 rfl).2.2.1))))))))) _); have f2 := h17_2 hJ (j := 22) (by decide); have f3 := h2; have f4 := b5c; have f5 := t7; have f6 := t9; have f7 := t26; have f8 := t43; have f9 := t130; have f10 := b4; have z1 : (1 : Int32).toInt = 1 := (by decide); have z2 : (2 : Int32).toInt = 2 := (by decide); have z6 : (6 : Int32).toInt = 6 := (by decide); have z16 : (16 : Int32).toInt = 16 := (by decide); omega)
          refine lv_goto (tgt := 167) hx hb dX9_brassLine_141 (by decide) ?_
          exact nj60 (σ143, lf [(y117.2.1 0)], lg []) ⟨Fr.tr (Fr.tr (Fr.tr (Fr.tr (Fr.rf) hF107 (fL_sub rfl)) hF119 (fL_sub rfl)) hF134 (fL_sub rfl)) (sA_f eσ143) (fN_L rfl), hJ144, (show (6 : Int) ≤ ((y117.2.1 0) : Int32).toInt ∧ ((y117.2.1 0) : Int32).toInt ≤ 7 from (by have f0 := b121; have f1 := k128; have g0 := rg32 (y117.2.1 0); have z6 : (6 : Int32).toInt = 6 := (by decide); omega)), (show ((σ143 9).1 7).toInt ≤ ((σ143 9).1 6).toInt ∧ ph ((σ55 9).1 7) ((σ55 9).1 8) ≤ ph ((σ143 9).1 7) ((σ143 9).1 8) ∧ ((σ55 9).1 7).toInt ≤ ((σ143 9).1 7).toInt from (by have f0 := j9_7 hJ56 rfl; have f1 := congrArg Int32.toInt (show ((σ55 9).1 7) = ((σ45 9).1 7) from ((sA_f eσ55) 9 7 rfl).1); have f2 := j9_7 hJ144 rfl; have f3 := congrArg Int32.toInt (show ((σ143 9).1 7) = ((σ132 9).1 7) from ((sA_f eσ143) 9 7 rfl).1); have f4 := j9_6 hJ144 rfl; have f5 := congrArg Int32.toInt (show ((σ143 9).1 6) = ((σ 9).1 6) from (((sA_f eσ143) 9 6 rfl).1).trans (((hF134 9 6 rfl).1).trans (((hF119 9 6 rfl).1).trans (((hF107 9 6 rfl).1).trans ((((sA_f eσ55) 9 6 rfl).1).trans (((hF47 9 6 rfl).1).trans ((((sA_f eσ38) 9 6 rfl).1).trans (((hF30 9 6 rfl).1).trans ((((sA_f eσ21) 9 6 rfl).1).trans ((hF14 9 6 rfl).1)))))))))); have f6 := (show ph ((σ143 9).1 7) ((σ143 9).1 8) = ph ((σ132 9).1 7) ((σ132 9).1 8) from by rw [((sA_f eσ143) 9 7 rfl).1, ((sA_f eσ143) 9 8 rfl).1]); have f7 := (show ph ((σ55 9).1 7) ((σ55 9).1 8) = ph ((σ45 9).1 7) ((σ45 9).1 8) from by rw [((sA_f eσ55) 9 7 rfl).1, ((sA_f eσ55) 9 8 rfl).1]); have f8 := j9_7 hJ135 rfl; have f9 := j9_7 hJ48 rfl; have f10 := j9_6 hJ rfl; have f11 := h1; have f12 := j9_7 hJ rfl; have f13 := b32; have f14 := j9_7 hJ31 rfl; have f15 := j9_7 hJ22 rfl; have f16 := congrArg Int32.toInt (show ((σ21 9).1 7) = ((σ 9).1 7) from (((sA_f eσ21) 9 7 rfl).1).trans ((hF14 9 7 rfl).1)); have f17 := j9_6 hJ31 rfl; have f18 := congrArg Int32.toInt (show ((σ28 9).1 6) = ((σ 9).1 6) from ((hF30 9 6 rfl).1).trans ((((sA_f eσ21) 9 6 rfl).1).trans ((hF14 9 6 rfl).1))); have f19 := b49; have f20 := j9_6 hJ48 rfl; have f21 := congrArg Int32.toInt (show ((σ45 9).1 6) = ((σ 9).1 6) from ((hF47 9 6 rfl).1).trans ((((sA_f eσ38) 9 6 rfl).1).trans (((hF30 9 6 rfl).1).trans ((((sA_f eσ21) 9 6 rfl).1).trans ((hF14 9 6 rfl).1))))); have f22 := j9_7 hJ39 rfl; have f23 := congrArg Int32.toInt (show ((σ38 9).1 7) = ((σ28 9).1 7) from ((sA_f eσ38) 9 7 rfl).1); have f24 := b50; have f25 := (show ph ((σ38 9).1 7) ((σ38 9).1 8) = ph ((σ28 9).1 7) ((σ28 9).1 8) from by rw [((sA_f eσ38) 9 7 rfl).1, ((sA_f eσ38) 9 8 rfl).1]); have f26 := b109; have f27 := j9_6 hJ108 rfl; have f28 := congrArg Int32.toInt (show ((σ105 9).1 6) = ((σ 9).1 6) from ((hF107 9 6 rfl).1).trans ((((sA_f eσ55) 9 6 rfl).1).trans (((hF47 9 6 rfl).1).trans ((((sA_f eσ38) 9 6 rfl).1).trans (((hF30 9 6 rfl).1).trans ((((sA_f eσ21) 9 6 rfl).1).trans ((hF14 9 6 rfl).1))))))); have f29 := j9_7 hJ108 rfl; have f30 := b110; have f31 := b122; have f32 := j9_6 hJ120 rfl; have f33 := congrArg Int32.toInt (show ((σ118 9).1 6) = ((σ 9).1 6) from ((hF119 9 6 rfl).1).trans (((hF107 9 6 rfl).1).trans ((((sA_f eσ55) 9 6 rfl).1).trans (((hF47 9 6 rfl).1).trans ((((sA_f eσ38) 9 6 rfl).1).trans (((hF30 9 6 rfl).1).trans ((((sA_f eσ21) 9 6 rfl).1).trans ((hF14 9 6 rfl).1)))))))); have f34 := j9_7 hJ120 rfl; have f35 := b136; have f36 := j9_6 hJ135 rfl; have f37 := congrArg Int32.toInt (show ((σ132 9).1 6) = ((σ 9).1 6) from ((hF134 9 6 rfl).1).trans (((hF119 9 6 rfl).1).trans (((hF107 9 6 rfl).1).trans ((((sA_f eσ55) 9 6 rfl).1).trans (((hF47 9 6 rfl).1).trans ((((sA_f eσ38) 9 6 rfl).1).trans (((hF30 9 6 rfl).1).trans ((((sA_f eσ21) 9 6 rfl).1).trans ((hF14 9 6 rfl).1))))))))); have f38 := b137; have f39 := b33; have f40 := (show ph ((σ21 9).1 7) ((σ21 9).1 8) = ph ((σ 9).1 7) ((σ 9).1 8) from by rw [(((sA_f eσ21) 9 7 rfl).1).trans ((hF14 9 7 rfl).1), (((sA_f eσ21) 9 8 rfl).1).trans ((hF14 9 8 rfl).1)]); omega)), (show ¬ ((σ143 9).1 12).toInt = 0 ∨ ((σ55 9).1 12).toInt = 0 from (by have f0 := congrArg Int32.toInt (show ((σ143 9).1 12) = ((σ132 9).1 12) from ((sA_f eσ143) 9 12 rfl).1); have f1 := congrArg Int32.toInt (show ((σ55 9).1 12) = ((σ45 9).1 12) from ((sA_f eσ55) 9 12 rfl).1); have f2 := b52; have f3 := congrArg Int32.toInt (show ((σ38 9).1 12) = ((σ28 9).1 12) from ((sA_f eσ38) 9 12 rfl).1); have f4 := b111; have f5 := b139; have f6 := b35; have f7 := congrArg Int32.toInt (show ((σ21 9).1 12) = ((σ 9).1 12) from (((sA_f eσ21) 9 12 rfl).1).trans ((hF14 9 12 rfl).1)); have f8 := b123; have z40 : (40 : Int32).toInt = 40 := (by decide); have z60 : (60 : Int32).toInt = 60 := (by decide); have z999 : (999 : Int32).toInt = 999 := (by decide); omega)), (show RD (σ143 9) from T145), (show DKA (σ143 9) from T146), (show LV (σ143 9) from T147), trivial⟩ _ _ _ hP hS (lv_sub hl [0, 1, 2, 3] rfl)
        ·
          have k148 := nle32 c127
          refine lv_aload_n hx hb dX9_brassLine_100 rfl (lv_at hl 2 rfl) ?_
          refine g9_18 hx hb hts hown hK hP (hts _ q1378) dX9_brassLine_101 ?_
          refine lv_iload_n hx hb dX9_brassLine_104 rfl (lv_at hl 1 rfl) ?_
          refine lv_iload_n hx hb dX9_brassLine_105 rfl (lv_at hl 0 rfl) ?_
          refine lv_iadd hx hb dX9_brassLine_106 ?_
          refine lv_topi (fun x149 ex149 => ?_)
          have t150 := addO ex149 (by have f0 := t9; have f1 := t26; have f2 := t43; have f3 := b121; have f4 := k148; have f5 := t7; have f6 := b4; have f7 := b5c; have f8 := h17_2 hJ (j := 22) (by decide); have f9 := h2; have g1 := rg32 (y117.2.1 0); have g2 := rg32 x8; have z1 : (1 : Int32).toInt = 1 := (by decide); have z2 : (2 : Int32).toInt = 2 := (by decide); have z6 : (6 : Int32).toInt = 6 := (by decide); have z16 : (16 : Int32).toInt = 16 := (by decide); omega)
          refine lv_aload_n hx hb dX9_brassLine_107 rfl (lv_at hl 2 rfl) ?_
          refine lv_iconst (v := 0) hx hb dX9_brassLine_108 (by decide) ?_
          refine lv_sipush (v := 400) hx hb dX9_brassLine_109 (by decide) ?_
          refine va_calli (va_runV (As := [.int 0, .int 400]) (rest := [.int x149, .ref (g 18)]) ⟨hx, hb, hml, hown, hts⟩ (m_X9_number l D cy g σ118 (0) (400) _ hJ120 (show ((σ118 9).1 7).toInt ≤ ((σ118 9).1 6).toInt from (by have f0 := j9_7 hJ120 rfl; have f1 := j9_6 hJ120 rfl; have f2 := congrArg Int32.toInt (show ((σ118 9).1 6) = ((σ 9).1 6) from ((hF119 9 6 rfl).1).trans (((hF107 9 6 rfl).1).trans ((((sA_f eσ55) 9 6 rfl).1).trans (((hF47 9 6 rfl).1).trans ((((sA_f eσ38) 9 6 rfl).1).trans (((hF30 9 6 rfl).1).trans ((((sA_f eσ21) 9 6 rfl).1).trans ((hF14 9 6 rfl).1)))))))); have f3 := j9_6 hJ rfl; have f4 := h1; have f5 := j9_7 hJ rfl; have f6 := b32; have f7 := j9_7 hJ31 rfl; have f8 := j9_7 hJ22 rfl; have f9 := congrArg Int32.toInt (show ((σ21 9).1 7) = ((σ 9).1 7) from (((sA_f eσ21) 9 7 rfl).1).trans ((hF14 9 7 rfl).1)); have f10 := j9_6 hJ31 rfl; have f11 := congrArg Int32.toInt (show ((σ28 9).1 6) = ((σ 9).1 6) from ((hF30 9 6 rfl).1).trans ((((sA_f eσ21) 9 6 rfl).1).trans ((hF14 9 6 rfl).1))); have f12 := b49; have f13 := j9_6 hJ48 rfl; have f14 := congrArg Int32.toInt (show ((σ45 9).1 6) = ((σ 9).1 6) from ((hF47 9 6 rfl).1).trans ((((sA_f eσ38) 9 6 rfl).1).trans (((hF30 9 6 rfl).1).trans ((((sA_f eσ21) 9 6 rfl).1).trans ((hF14 9 6 rfl).1))))); have f15 := j9_7 hJ48 rfl; have f16 := j9_7 hJ39 rfl; have f17 := congrArg Int32.toInt (show ((σ38 9).1 7) = ((σ28 9).1 7) from ((sA_f eσ38) 9 7 rfl).1); have f18 := b109; have f19 := j9_6 hJ108 rfl; have f20 := congrArg Int32.toInt (show ((σ105 9).1 6) = ((σ 9).1 6) from ((hF107 9 6 rfl).1).trans ((((sA_f eσ55) 9 6 rfl).1).trans (((hF47 9 6 rfl).1).trans ((((sA_f eσ38) 9 6 rfl).1).trans (((hF30 9 6 rfl).1).trans ((((sA_f eσ21) 9 6 rfl).1).trans ((hF14 9 6 rfl).1))))))); have f21 := j9_7 hJ56 rfl; have f22 := congrArg Int32.toInt (show ((σ55 9).1 7) = ((σ45 9).1 7) from ((sA_f eσ55) 9 7 rfl).1); have f23 := j9_7 hJ108 rfl; have f24 := b122; have f25 := b110; have f26 := (show ph ((σ55 9).1 7) ((σ55 9).1 8) = ph ((σ45 9).1 7) ((σ45 9).1 8) from by rw [((sA_f eσ55) 9 7 rfl).1, ((sA_f eσ55) 9 8 rfl).1]); have f27 := b50; have f28 := (show ph ((σ38 9).1 7) ((σ38 9).1 8) = ph ((σ28 9).1 7) ((σ28 9).1 8) from by rw [((sA_f eσ38) 9 7 rfl).1, ((sA_f eσ38) 9 8 rfl).1]); have f29 := b33; have f30 := (show ph ((σ21 9).1 7) ((σ21 9).1 8) = ph ((σ 9).1 7) ((σ 9).1 8) from by rw [(((sA_f eσ21) 9 7 rfl).1).trans ((hF14 9 7 rfl).1), (((sA_f eσ21) 9 8 rfl).1).trans ((hF14 9 8 rfl).1)]); omega))) (cwV 2 hts (gd_V q1631 q1633 q60 q134 q1634) rfl rfl rfl (by decide +kernel) ⟨Nat.le_of_ble_eq_true rfl, Nat.le_of_ble_eq_true rfl⟩) (pv9 hP hK hD hC hS (va_recv hK hP (ci := 9) (q0 := 0) rfl rfl)) rfl rfl hl.1 rfl (lv_room (Nat.le_of_ble_eq_true rfl)) dX9_brassLine_112 ⟨Nat.le_of_ble_eq_true rfl, Nat.le_of_ble_eq_true rfl⟩) hS (fun q _ h => up9 hS q h) (up9 hS) (fun r151 σ152 tS H1 locs ht hvm hw153 hB hz1 hk1 hS => ?_)
          have hP : va_P D clz (WD9 cy g σ152) H1 := by rw [← ht]; exact hB
          clear hB hz1 hk1 hvm ht
          generalize H1 = H at hP hS ⊢
          have hF154 : Fr (fL [7, 8, 9, 10, 11, 12, 13]) σ118 σ152 := hw153.1
          have hJ155 : J9 (σ152 9) := hw153.2.1
          have b156 : ((σ118 9).1 7).toInt ≤ ((σ152 9).1 7).toInt ∧ ((σ152 9).1 7).toInt ≤ ((σ152 9).1 6).toInt := hw153.2.2.1
          have b157 : ph ((σ118 9).1 7) ((σ118 9).1 8) ≤ ph ((σ152 9).1 7) ((σ152 9).1 8) := hw153.2.2.2.1
          have b158 : (0 : Int32).toInt ≤ r151.toInt ∧ (r151.toInt ≤ (400 : Int32).toInt ∨ r151.toInt = (0 : Int32).toInt) := hw153.2.2.2.2.1
          have b159 : ¬ ((σ152 9).1 12).toInt = 0 ∨ (((σ118 9).1 12).toInt = 0 ∧ r151.toInt ≤ (400 : Int32).toInt) := hw153.2.2.2.2.2.1
          have T160 : RD (σ152 9) := RD.call b124 (by have f0 := b123; have f1 := b159; have f2 := b111; have f3 := congrArg Int32.toInt (show ((σ55 9).1 12) = ((σ45 9).1 12) from ((sA_f eσ55) 9 12 rfl).1); have f4 := b52; have f5 := congrArg Int32.toInt (show ((σ38 9).1 12) = ((σ28 9).1 12) from ((sA_f eσ38) 9 12 rfl).1); have f6 := b35; have f7 := congrArg Int32.toInt (show ((σ21 9).1 12) = ((σ 9).1 12) from (((sA_f eσ21) 9 12 rfl).1).trans ((hF14 9 12 rfl).1)); have g9 := rg32 r151; have z40 : (40 : Int32).toInt = 40 := (by decide); have z400 : (400 : Int32).toInt = 400 := (by decide); have z999 : (999 : Int32).toInt = 999 := (by decide); omega) (hF154 9 17 rfl).2.2.1 (hF154 9 18 rfl).2.2.1 (hF154 9 19 rfl).2.2.1
          have T161 : DKA (σ152 9) := DKA.mv b125 (hF154 9 17 rfl).2.2.1 (hF154 9 18 rfl).2.2.1 (hF154 9 19 rfl).2.2.1
          have T162 : LV (σ152 9) := LV.mv b126 (hF154 9 17 rfl).2.2.1 (hF154 9 18 rfl).2.2.1
          refine t9_18 hx hb hK hP hD hS (vpo (by have f0 := t150; have f1 := t9; have f2 := t26; have f3 := t43; have f4 := b121; have f5 := k148; have f6 := t7; have f7 := b4; have f8 := b5c; have f9 := h17_2 hJ (j := 22) (by decide); have f10 := h2; have g1 := rg32 x149; have z1 : (1 : Int32).toInt = 1 := (by decide); have z2 : (2 : Int32).toInt = 2 := (by decide); have z6 : (6 : Int32).toInt = 6 := (by decide); have z16 : (16 : Int32).toInt = 16 := (by decide); omega)) dX9_brassLine_115 (fun H locs σ163 eσ163 hP hS => ?_)
          have hJ164 : J9 (σ163 9) := hJ155.A eσ163 (show PA9 18 x149.toInt.toNat r151 from (by have f0 := t150; have f1 := t9; have f2 := t26; have f3 := t43; have f4 := b121; have f5 := k148; have f6 := t7; have f7 := b4; have f8 := b5c; have f9 := h17_2 hJ (j := 22) (by decide); have f10 := h2; have f11 := b158; have f12 := b159; have g3 := rg32 r151; have g4 := rg32 x149; have z0 : (0 : Int32).toInt = 0 := (by decide); have z1 : (1 : Int32).toInt = 1 := (by decide); have z2 : (2 : Int32).toInt = 2 := (by decide); have z6 : (6 : Int32).toInt = 6 := (by decide); have z16 : (16 : Int32).toInt = 16 := (by decide); have z400 : (400 : Int32).toInt = 400 := (by decide); exact ⟨by omega, by omega⟩))
          have T165 : RD (σ163 9) := RD.s18 T160 eσ163 (by have f0 := h17_2 hJ155 (j := 22) (by decide); have f1 := congrArg Int32.toInt (show ((σ152 9).2.2.1 17 22) = ((σ 9).2.2.1 17 22) from congrFun (((hF154 9 17 rfl).2.2.1).trans (((hF119 9 17 rfl).2.2.1).trans (((hF107 9 17 rfl).2.2.1).trans ((((sA_f eσ55) 9 17 rfl).2.2.1).trans (((hF47 9 17 rfl).2.2.1).trans ((((sA_f eσ38) 9 17 rfl).2.2.1).trans (((hF30 9 17 rfl).2.2.1).trans ((((sA_f eσ21) 9 17 rfl).2.2.1).trans ((hF14 9 17 rfl).2.2.1))))))))) _); have f2 := h17_2 hJ (j := 22) (by decide); have f3 := h2; have f4 := b5c; have f5 := t7; have f6 := t9; have f7 := t26; have f8 := t43; have f9 := t150; have f10 := b4; have f11 := b121; have f12 := k148; have g2 := rg32 x149; have z1 : (1 : Int32).toInt = 1 := (by decide); have z2 : (2 : Int32).toInt = 2 := (by decide); have z6 : (6 : Int32).toInt = 6 := (by decide); have z16 : (16 : Int32).toInt = 16 := (by decide); omega)
          have T166 : DKA (σ163 9) := DKA.s18 T161 hJ155 eσ163 (by have f0 := t150; have f1 := t9; have f2 := t26; have f3 := t43; have f4 := b121; have f5 := k148; have f6 := t7; have f7 := b4; have f8 := b5c; have f9 := h17_2 hJ (j := 22) (by decide); have f10 := h2; have g1 := rg32 x149; have z1 : (1 : Int32).toInt = 1 := (by decide); have z2 : (2 : Int32).toInt = 2 := (by decide); have z6 : (6 : Int32).toInt = 6 := (by decide); have z16 : (16 : Int32).toInt = 16 := (by decide); omega)
          have T167 : LV (σ163 9) := LV.s18 T162 eσ163 (by have f0 := h17_2 hJ155 (j := 22) (by decide); have f1 := congrArg Int32.toInt (show ((σ152 9).2.2.1 17 22) = ((σ 9).2.2.1 17 22) from congrFun (((hF154 9 17 rfl).2.2.1).trans (((hF119 9 17 rfl).2.2.1).trans (((hF107 9 17 rfl).2.2.1).trans ((((sA_f eσ55) 9 17 rfl).2.2.1).trans (((hF47 9 17 rfl).2.2.1).trans ((((sA_f eσ38) 9 17 rfl).2.2.1).trans (((hF30 9 17 rfl).2.2.1).trans ((((sA_f eσ21) 9 17 rfl).2.2.1).trans ((hF14 9 17 rfl).2.2.1))))))))) _); have f2 := h17_2 hJ (j := 22) (by decide); have f3 := h2; have f4 := b5c; have f5 := t7; have f6 := t9; have f7 := t26; have f8 := t43; have f9 := t150; have f10 := b4; have f11 := b121; have f12 := k148; have g2 := rg32 x149; have z1 : (1 : Int32).toInt = 1 := (by decide); have z2 : (2 : Int32).toInt = 2 := (by decide); have z6 : (6 : Int32).toInt = 6 := (by decide); have z16 : (16 : Int32).toInt = 16 := (by decide); omega) (by have f0 := h17_2 hJ155 (j := 22) (by decide); have f1 := congrArg Int32.toInt (show ((σ152 9).2.2.1 17 22) = ((σ 9).2.2.1 17 22) from congrFun (((hF154 9 17 rfl).2.2.1).trans (((hF119 9 17 rfl).2.2.1).trans (((hF107 9 17 rfl).2.2.1).trans ((((sA_f eσ55) 9 17 rfl).2.2.1).trans (((hF47 9 17 rfl).2.2.1).trans ((((sA_f eσ38) 9 17 rfl).2.2.1).trans (((hF30 9 17 rfl).2.2.1).trans ((((sA_f eσ21) 9 17 rfl).2.2.1).trans ((hF14 9 17 rfl).2.2.1))))))))) _); have f2 := h17_2 hJ (j := 22) (by decide); have f3 := h2; have f4 := b5c; have f5 := t7; have f6 := t9; have f7 := t26; have f8 := t43; have f9 := t150; have f10 := b4; have f11 := b121; have f12 := k148; have z1 : (1 : Int32).toInt = 1 := (by decide); have z2 : (2 : Int32).toInt = 2 := (by decide); have z6 : (6 : Int32).toInt = 6 := (by decide); have z16 : (16 : Int32).toInt = 16 := (by decide); omega)
          obtain ⟨x168, ex168⟩ : ∃ y : Int32, y = (y117.2.1 0) + 1 := ⟨_, rfl⟩
          have t169 := addO ex168 (by have f0 := b121; have f1 := k148; have f2 := t150; have f3 := t9; have f4 := t26; have f5 := t43; have f6 := t7; have f7 := b4; have f8 := b5c; have f9 := h17_2 hJ (j := 22) (by decide); have f10 := h2; have g1 := rg32 (y117.2.1 0); have z1 : (1 : Int32).toInt = 1 := (by decide); have z2 : (2 : Int32).toInt = 2 := (by decide); have z6 : (6 : Int32).toInt = 6 := (by decide); have z16 : (16 : Int32).toInt = 16 := (by decide); omega)
          refine lv_iinc (v := x168) (lv' := [(3, .int x168), (2, .int x8), (0, .ref (g 60)), (1, .int p1)]) hx hb dX9_brassLine_116 hl (k := 0) rfl (by rw [ex168]; rfl) (by decide) rfl (fun ls hl => ?_)
          refine lv_goto (tgt := 94) hx hb dX9_brassLine_119 (by decide) ?_
          have t170 : ((7 : Int) - x168.toInt).toNat < ((7 : Int) - (y117.2.1 0).toInt).toNat := (by have f0 := b121; have f1 := k148; have f2 := t150; have f3 := t169; have f4 := t9; have f5 := t26; have f6 := t43; have f7 := t7; have f8 := b4; have f9 := b5c; have f10 := h17_2 hJ (j := 22) (by decide); have f11 := h2; have g1 := rg32 (y117.2.1 0); have g2 := rg32 x168; have z1 : (1 : Int32).toInt = 1 := (by decide); have z2 : (2 : Int32).toInt = 2 := (by decide); have z6 : (6 : Int32).toInt = 6 := (by decide); have z16 : (16 : Int32).toInt = 16 := (by decide); omega)
          exact nl115 (σ163, lf [x168], lg []) ⟨Fr.tr (Fr.tr (Fr.tr (Fr.rf) hF119 (fL_sub rfl)) hF154 (fL_sub rfl)) (sA_f eσ163) (fN_L rfl), hJ164, (show (3 : Int) ≤ (x168 : Int32).toInt ∧ (x168 : Int32).toInt ≤ 6 from (by have f0 := t169; have f1 := b121; have f2 := k148; have f3 := t150; have f4 := t9; have f5 := t26; have f6 := t43; have f7 := t7; have f8 := b4; have f9 := b5c; have f10 := h17_2 hJ (j := 22) (by decide); have f11 := h2; have g1 := rg32 x168; have z1 : (1 : Int32).toInt = 1 := (by decide); have z2 : (2 : Int32).toInt = 2 := (by decide); have z6 : (6 : Int32).toInt = 6 := (by decide); have z16 : (16 : Int32).toInt = 16 := (by decide); omega)), (show ((σ163 9).1 7).toInt ≤ ((σ163 9).1 6).toInt ∧ ph ((σ105 9).1 7) ((σ105 9).1 8) ≤ ph ((σ163 9).1 7) ((σ163 9).1 8) ∧ ((σ105 9).1 7).toInt ≤ ((σ163 9).1 7).toInt from (by have f0 := j9_6 hJ164 rfl; have f1 := congrArg Int32.toInt (show ((σ163 9).1 6) = ((σ 9).1 6) from (((sA_f eσ163) 9 6 rfl).1).trans (((hF154 9 6 rfl).1).trans (((hF119 9 6 rfl).1).trans (((hF107 9 6 rfl).1).trans ((((sA_f eσ55) 9 6 rfl).1).trans (((hF47 9 6 rfl).1).trans ((((sA_f eσ38) 9 6 rfl).1).trans (((hF30 9 6 rfl).1).trans ((((sA_f eσ21) 9 6 rfl).1).trans ((hF14 9 6 rfl).1)))))))))); have f2 := j9_7 hJ164 rfl; have f3 := congrArg Int32.toInt (show ((σ163 9).1 7) = ((σ152 9).1 7) from ((sA_f eσ163) 9 7 rfl).1); have f4 := (show ph ((σ163 9).1 7) ((σ163 9).1 8) = ph ((σ152 9).1 7) ((σ152 9).1 8) from by rw [((sA_f eσ163) 9 7 rfl).1, ((sA_f eσ163) 9 8 rfl).1]); have f5 := j9_7 hJ108 rfl; have f6 := j9_6 hJ rfl; have f7 := j9_7 hJ155 rfl; have f8 := h1; have f9 := j9_7 hJ rfl; have f10 := b32; have f11 := j9_7 hJ31 rfl; have f12 := j9_7 hJ22 rfl; have f13 := congrArg Int32.toInt (show ((σ21 9).1 7) = ((σ 9).1 7) from (((sA_f eσ21) 9 7 rfl).1).trans ((hF14 9 7 rfl).1)); have f14 := j9_6 hJ31 rfl; have f15 := congrArg Int32.toInt (show ((σ28 9).1 6) = ((σ 9).1 6) from ((hF30 9 6 rfl).1).trans ((((sA_f eσ21) 9 6 rfl).1).trans ((hF14 9 6 rfl).1))); have f16 := b49; have f17 := j9_6 hJ48 rfl; have f18 := congrArg Int32.toInt (show ((σ45 9).1 6) = ((σ 9).1 6) from ((hF47 9 6 rfl).1).trans ((((sA_f eσ38) 9 6 rfl).1).trans (((hF30 9 6 rfl).1).trans ((((sA_f eσ21) 9 6 rfl).1).trans ((hF14 9 6 rfl).1))))); have f19 := j9_7 hJ48 rfl; have f20 := j9_7 hJ39 rfl; have f21 := congrArg Int32.toInt (show ((σ38 9).1 7) = ((σ28 9).1 7) from ((sA_f eσ38) 9 7 rfl).1); have f22 := b109; have f23 := j9_6 hJ108 rfl; have f24 := congrArg Int32.toInt (show ((σ105 9).1 6) = ((σ 9).1 6) from ((hF107 9 6 rfl).1).trans ((((sA_f eσ55) 9 6 rfl).1).trans (((hF47 9 6 rfl).1).trans ((((sA_f eσ38) 9 6 rfl).1).trans (((hF30 9 6 rfl).1).trans ((((sA_f eσ21) 9 6 rfl).1).trans ((hF14 9 6 rfl).1))))))); have f25 := j9_7 hJ56 rfl; have f26 := congrArg Int32.toInt (show ((σ55 9).1 7) = ((σ45 9).1 7) from ((sA_f eσ55) 9 7 rfl).1); have f27 := b110; have f28 := (show ph ((σ55 9).1 7) ((σ55 9).1 8) = ph ((σ45 9).1 7) ((σ45 9).1 8) from by rw [((sA_f eσ55) 9 7 rfl).1, ((sA_f eσ55) 9 8 rfl).1]); have f29 := b122; have f30 := j9_6 hJ120 rfl; have f31 := congrArg Int32.toInt (show ((σ118 9).1 6) = ((σ 9).1 6) from ((hF119 9 6 rfl).1).trans (((hF107 9 6 rfl).1).trans ((((sA_f eσ55) 9 6 rfl).1).trans (((hF47 9 6 rfl).1).trans ((((sA_f eσ38) 9 6 rfl).1).trans (((hF30 9 6 rfl).1).trans ((((sA_f eσ21) 9 6 rfl).1).trans ((hF14 9 6 rfl).1)))))))); have f32 := j9_7 hJ120 rfl; have f33 := b156; have f34 := j9_6 hJ155 rfl; have f35 := congrArg Int32.toInt (show ((σ152 9).1 6) = ((σ 9).1 6) from ((hF154 9 6 rfl).1).trans (((hF119 9 6 rfl).1).trans (((hF107 9 6 rfl).1).trans ((((sA_f eσ55) 9 6 rfl).1).trans (((hF47 9 6 rfl).1).trans ((((sA_f eσ38) 9 6 rfl).1).trans (((hF30 9 6 rfl).1).trans ((((sA_f eσ21) 9 6 rfl).1).trans ((hF14 9 6 rfl).1))))))))); have f36 := b157; have f37 := b50; have f38 := (show ph ((σ38 9).1 7) ((σ38 9).1 8) = ph ((σ28 9).1 7) ((σ28 9).1 8) from by rw [((sA_f eσ38) 9 7 rfl).1, ((sA_f eσ38) 9 8 rfl).1]); have f39 := b33; have f40 := (show ph ((σ21 9).1 7) ((σ21 9).1 8) = ph ((σ 9).1 7) ((σ 9).1 8) from by rw [(((sA_f eσ21) 9 7 rfl).1).trans ((hF14 9 7 rfl).1), (((sA_f eσ21) 9 8 rfl).1).trans ((hF14 9 8 rfl).1)]); omega)), (show ¬ ((σ163 9).1 12).toInt = 0 ∨ ((σ105 9).1 12).toInt = 0 from (by have f0 := congrArg Int32.toInt (show ((σ163 9).1 12) = ((σ152 9).1 12) from ((sA_f eσ163) 9 12 rfl).1); have f1 := b111; have f2 := congrArg Int32.toInt (show ((σ55 9).1 12) = ((σ45 9).1 12) from ((sA_f eσ55) 9 12 rfl).1); have f3 := b123; have f4 := b159; have f5 := b52; have f6 := congrArg Int32.toInt (show ((σ38 9).1 12) = ((σ28 9).1 12) from ((sA_f eσ38) 9 12 rfl).1); have f7 := b35; have f8 := congrArg Int32.toInt (show ((σ21 9).1 12) = ((σ 9).1 12) from (((sA_f eσ21) 9 12 rfl).1).trans ((hF14 9 12 rfl).1)); have z40 : (40 : Int32).toInt = 40 := (by decide); have z400 : (400 : Int32).toInt = 400 := (by decide); have z999 : (999 : Int32).toInt = 999 := (by decide); omega)), (show RD (σ163 9) from T165), (show DKA (σ163 9) from T166), (show LV (σ163 9) from T167), trivial⟩ (show ((7 : Int) - x168.toInt).toNat < _ from by first | exact t170 | (rw [← eσ118]; exact t170)) _ _ _ hP hS (lv_sub hl [0, 1, 2, 3] rfl)
  ·
    have k171 := nle32 c19
    refine lv_aload_n hx hb dX9_brassLine_20 rfl (lv_at hl 2 rfl) ?_
    refine g9_18 hx hb hts hown hK hP (hts _ q1378) dX9_brassLine_21 ?_
    refine lv_iload_n hx hb dX9_brassLine_24 rfl (lv_at hl 1 rfl) ?_
    refine lv_iload_n hx hb dX9_brassLine_25 rfl (lv_at hl 0 rfl) ?_
    refine lv_iadd hx hb dX9_brassLine_26 ?_
    refine lv_topi (fun x172 ex172 => ?_)
    have t173 := addO ex172 (by have f0 := t9; have f1 := b16; have f2 := k171; have f3 := t7; have f4 := b4; have f5 := b5c; have f6 := h17_2 hJ (j := 22) (by decide); have f7 := h2; have g1 := rg32 (y12.2.1 0); have g2 := rg32 x8; have z7 : (7 : Int32).toInt = 7 := (by decide); have z16 : (16 : Int32).toInt = 16 := (by decide); omega)
    refine lv_iconst (v := 0) hx hb dX9_brassLine_27 (by decide) ?_
    refine t9_18 hx hb hK hP hD hS (vpo (by have f0 := t173; have f1 := t9; have f2 := b16; have f3 := k171; have f4 := t7; have f5 := b4; have f6 := b5c; have f7 := h17_2 hJ (j := 22) (by decide); have f8 := h2; have g1 := rg32 x172; have z7 : (7 : Int32).toInt = 7 := (by decide); have z16 : (16 : Int32).toInt = 16 := (by decide); omega)) dX9_brassLine_28 (fun H locs σ174 eσ174 hP hS => ?_)
    have hJ175 : J9 (σ174 9) := hJ15.A eσ174 (show PA9 18 x172.toInt.toNat (0 : Int32) from (by have f0 := t173; have f1 := t9; have f2 := b16; have f3 := k171; have f4 := t7; have f5 := b4; have f6 := b5c; have f7 := h17_2 hJ (j := 22) (by decide); have f8 := h2; have g1 := rg32 x172; have z0 : (0 : Int32).toInt = 0 := (by decide); have z7 : (7 : Int32).toInt = 7 := (by decide); have z16 : (16 : Int32).toInt = 16 := (by decide); exact ⟨by omega, by omega⟩))
    have T176 : RD (σ174 9) := RD.s18 b17 eσ174 (by have f0 := h17_2 hJ15 (j := 22) (by decide); have f1 := congrArg Int32.toInt (show ((σ13 9).2.2.1 17 22) = ((σ 9).2.2.1 17 22) from congrFun ((hF14 9 17 rfl).2.2.1) _); have f2 := h17_2 hJ (j := 22) (by decide); have f3 := h2; have f4 := b5c; have f5 := t7; have f6 := t9; have f7 := t173; have f8 := b4; have f9 := b16; have f10 := k171; have g2 := rg32 x172; have z7 : (7 : Int32).toInt = 7 := (by decide); have z16 : (16 : Int32).toInt = 16 := (by decide); omega)
    have T177 : DKA (σ174 9) := DKA.s18 b18 hJ15 eσ174 (by have f0 := t173; have f1 := t9; have f2 := b16; have f3 := k171; have f4 := t7; have f5 := b4; have f6 := b5c; have f7 := h17_2 hJ (j := 22) (by decide); have f8 := h2; have g1 := rg32 x172; have z7 : (7 : Int32).toInt = 7 := (by decide); have z16 : (16 : Int32).toInt = 16 := (by decide); omega)
    obtain ⟨x178, ex178⟩ : ∃ y : Int32, y = (y12.2.1 0) + 1 := ⟨_, rfl⟩
    have t179 := addO ex178 (by have f0 := b16; have f1 := k171; have f2 := t173; have f3 := t9; have f4 := t7; have f5 := b4; have f6 := b5c; have f7 := h17_2 hJ (j := 22) (by decide); have f8 := h2; have g1 := rg32 (y12.2.1 0); have z1 : (1 : Int32).toInt = 1 := (by decide); have z7 : (7 : Int32).toInt = 7 := (by decide); have z16 : (16 : Int32).toInt = 16 := (by decide); omega)
    refine lv_iinc (v := x178) (lv' := [(3, .int x178), (2, .int x8), (0, .ref (g 60)), (1, .int p1)]) hx hb dX9_brassLine_29 hl (k := 0) rfl (by rw [ex178]; rfl) (by decide) rfl (fun ls hl => ?_)
    refine lv_goto (tgt := 14) hx hb dX9_brassLine_32 (by decide) ?_
    have t180 : ((8 : Int) - x178.toInt).toNat < ((8 : Int) - (y12.2.1 0).toInt).toNat := (by have f0 := b16; have f1 := k171; have f2 := t173; have f3 := t179; have f4 := t9; have f5 := t7; have f6 := b4; have f7 := b5c; have f8 := h17_2 hJ (j := 22) (by decide); have f9 := h2; have g1 := rg32 (y12.2.1 0); have g2 := rg32 x178; have z1 : (1 : Int32).toInt = 1 := (by decide); have z7 : (7 : Int32).toInt = 7 := (by decide); have z16 : (16 : Int32).toInt = 16 := (by decide); omega)
    exact nl10 (σ174, lf [x178], lg []) ⟨Fr.tr (Fr.tr (Fr.rf) hF14 (fL_sub rfl)) (sA_f eσ174) (fN_L rfl), hJ175, (show (3 : Int) ≤ (x178 : Int32).toInt ∧ (x178 : Int32).toInt ≤ 7 from (by have f0 := t179; have f1 := b16; have f2 := k171; have f3 := t173; have f4 := t9; have f5 := t7; have f6 := b4; have f7 := b5c; have f8 := h17_2 hJ (j := 22) (by decide); have f9 := h2; have g1 := rg32 x178; have z1 : (1 : Int32).toInt = 1 := (by decide); have z7 : (7 : Int32).toInt = 7 := (by decide); have z16 : (16 : Int32).toInt = 16 := (by decide); omega)), (show RD (σ174 9) from T176), (show DKA (σ174 9) from T177), trivial⟩ (show ((8 : Int) - x178.toInt).toNat < _ from by first | exact t180 | (rw [← eσ13]; exact t180)) _ _ _ hP hS (lv_sub hl [0, 1, 2, 3] rfl)

theorem q1663 : Cond.code yX9_playerLine cX9_playerLine 2 none ∈ lw_g := lw_gm (List.mem_of_getElem? (i := 1663) (by decide +kernel)) rfl
theorem q1664 : Cond.constantLong RX9 228 (9454493) ∈ lw_g := lw_gm (List.mem_of_getElem? (i := 1664) (by decide +kernel)) rfl
theorem q1665 : Cond.constantLong RX9 230 (990) ∈ lw_g := lw_gm (List.mem_of_getElem? (i := 1665) (by decide +kernel)) rfl
theorem q1666 : Cond.constantLong RX9 232 (243208) ∈ lw_g := lw_gm (List.mem_of_getElem? (i := 1666) (by decide +kernel)) rfl
theorem dX9_playerLine_0 : decode cX9_playerLine 0 = .ok (.iconst 4, 1) := by decide +kernel
theorem dX9_playerLine_1 : decode cX9_playerLine 1 = .ok (.bipush 36, 2) := by decide +kernel
theorem dX9_playerLine_3 : decode cX9_playerLine 3 = .ok (.aload_n 0, 1) := by decide +kernel
theorem dX9_playerLine_4 : decode cX9_playerLine 4 = .ok (.iconst 3, 1) := by decide +kernel
theorem dX9_playerLine_5 : decode cX9_playerLine 5 = .ok (.invokevirtual 211, 3) := by decide +kernel
theorem dX9_playerLine_8 : decode cX9_playerLine 8 = .ok (.iadd, 1) := by decide +kernel
theorem dX9_playerLine_9 : decode cX9_playerLine 9 = .ok (.imul, 1) := by decide +kernel
theorem dX9_playerLine_10 : decode cX9_playerLine 10 = .ok (.istore_n 1, 1) := by decide +kernel
theorem dX9_playerLine_11 : decode cX9_playerLine 11 = .ok (.aload_n 0, 1) := by decide +kernel
theorem dX9_playerLine_12 : decode cX9_playerLine 12 = .ok (.getfield 40, 3) := by decide +kernel
theorem dX9_playerLine_15 : decode cX9_playerLine 15 = .ok (.iload_n 1, 1) := by decide +kernel
theorem dX9_playerLine_16 : decode cX9_playerLine 16 = .ok (.aload_n 0, 1) := by decide +kernel
theorem dX9_playerLine_17 : decode cX9_playerLine 17 = .ok (.iconst 0, 1) := by decide +kernel
theorem dX9_playerLine_18 : decode cX9_playerLine 18 = .ok (.aload_n 0, 1) := by decide +kernel
theorem dX9_playerLine_19 : decode cX9_playerLine 19 = .ok (.iconst 2, 1) := by decide +kernel
theorem dX9_playerLine_20 : decode cX9_playerLine 20 = .ok (.invokevirtual 211, 3) := by decide +kernel
theorem dX9_playerLine_23 : decode cX9_playerLine 23 = .ok (.iconst 1, 1) := by decide +kernel
theorem dX9_playerLine_24 : decode cX9_playerLine 24 = .ok (.isub, 1) := by decide +kernel
theorem dX9_playerLine_25 : decode cX9_playerLine 25 = .ok (.invokevirtual 204, 3) := by decide +kernel
theorem dX9_playerLine_28 : decode cX9_playerLine 28 = .ok (.iastore, 1) := by decide +kernel
theorem dX9_playerLine_29 : decode cX9_playerLine 29 = .ok (.aload_n 0, 1) := by decide +kernel
theorem dX9_playerLine_30 : decode cX9_playerLine 30 = .ok (.getfield 40, 3) := by decide +kernel
theorem dX9_playerLine_33 : decode cX9_playerLine 33 = .ok (.iload_n 1, 1) := by decide +kernel
theorem dX9_playerLine_34 : decode cX9_playerLine 34 = .ok (.iconst 1, 1) := by decide +kernel
theorem dX9_playerLine_35 : decode cX9_playerLine 35 = .ok (.iadd, 1) := by decide +kernel
theorem dX9_playerLine_36 : decode cX9_playerLine 36 = .ok (.aload_n 0, 1) := by decide +kernel
theorem dX9_playerLine_37 : decode cX9_playerLine 37 = .ok (.ldc2_w 228, 3) := by decide +kernel
theorem dX9_playerLine_40 : decode cX9_playerLine 40 = .ok (.iconst 0, 1) := by decide +kernel
theorem dX9_playerLine_41 : decode cX9_playerLine 41 = .ok (.bipush 9, 2) := by decide +kernel
theorem dX9_playerLine_43 : decode cX9_playerLine 43 = .ok (.invokevirtual 217, 3) := by decide +kernel
theorem dX9_playerLine_46 : decode cX9_playerLine 46 = .ok (.iastore, 1) := by decide +kernel
theorem dX9_playerLine_47 : decode cX9_playerLine 47 = .ok (.aload_n 0, 1) := by decide +kernel
theorem dX9_playerLine_48 : decode cX9_playerLine 48 = .ok (.getfield 40, 3) := by decide +kernel
theorem dX9_playerLine_51 : decode cX9_playerLine 51 = .ok (.iload_n 1, 1) := by decide +kernel
theorem dX9_playerLine_52 : decode cX9_playerLine 52 = .ok (.iconst 2, 1) := by decide +kernel
theorem dX9_playerLine_53 : decode cX9_playerLine 53 = .ok (.iadd, 1) := by decide +kernel
theorem dX9_playerLine_54 : decode cX9_playerLine 54 = .ok (.aload_n 0, 1) := by decide +kernel
theorem dX9_playerLine_55 : decode cX9_playerLine 55 = .ok (.ldc2_w 230, 3) := by decide +kernel
theorem dX9_playerLine_58 : decode cX9_playerLine 58 = .ok (.iconst 1, 1) := by decide +kernel
theorem dX9_playerLine_59 : decode cX9_playerLine 59 = .ok (.bipush 30, 2) := by decide +kernel
theorem dX9_playerLine_61 : decode cX9_playerLine 61 = .ok (.invokevirtual 217, 3) := by decide +kernel
theorem dX9_playerLine_64 : decode cX9_playerLine 64 = .ok (.iastore, 1) := by decide +kernel
theorem dX9_playerLine_65 : decode cX9_playerLine 65 = .ok (.aload_n 0, 1) := by decide +kernel
theorem dX9_playerLine_66 : decode cX9_playerLine 66 = .ok (.getfield 40, 3) := by decide +kernel
theorem dX9_playerLine_69 : decode cX9_playerLine 69 = .ok (.iload_n 1, 1) := by decide +kernel
theorem dX9_playerLine_70 : decode cX9_playerLine 70 = .ok (.iconst 3, 1) := by decide +kernel
theorem dX9_playerLine_71 : decode cX9_playerLine 71 = .ok (.iadd, 1) := by decide +kernel
theorem dX9_playerLine_72 : decode cX9_playerLine 72 = .ok (.aload_n 0, 1) := by decide +kernel
theorem dX9_playerLine_73 : decode cX9_playerLine 73 = .ok (.ldc2_w 232, 3) := by decide +kernel
theorem dX9_playerLine_76 : decode cX9_playerLine 76 = .ok (.iconst 0, 1) := by decide +kernel
theorem dX9_playerLine_77 : decode cX9_playerLine 77 = .ok (.sipush 999, 3) := by decide +kernel
theorem dX9_playerLine_80 : decode cX9_playerLine 80 = .ok (.invokevirtual 217, 3) := by decide +kernel
theorem dX9_playerLine_83 : decode cX9_playerLine 83 = .ok (.iastore, 1) := by decide +kernel
theorem dX9_playerLine_84 : decode cX9_playerLine 84 = .ok (.aload_n 0, 1) := by decide +kernel
theorem dX9_playerLine_85 : decode cX9_playerLine 85 = .ok (.getfield 34, 3) := by decide +kernel
theorem dX9_playerLine_88 : decode cX9_playerLine 88 = .ok (.bipush 23, 2) := by decide +kernel
theorem dX9_playerLine_90 : decode cX9_playerLine 90 = .ok (.dup2, 1) := by decide +kernel
theorem dX9_playerLine_91 : decode cX9_playerLine 91 = .ok (.iaload, 1) := by decide +kernel
theorem dX9_playerLine_92 : decode cX9_playerLine 92 = .ok (.iconst 1, 1) := by decide +kernel
theorem dX9_playerLine_93 : decode cX9_playerLine 93 = .ok (.iadd, 1) := by decide +kernel
theorem dX9_playerLine_94 : decode cX9_playerLine 94 = .ok (.iastore, 1) := by decide +kernel
theorem dX9_playerLine_95 : decode cX9_playerLine 95 = .ok (.return_, 1) := by decide +kernel
set_option maxHeartbeats 4000000 in
set_option maxRecDepth 100000 in
theorem m_X9_playerLine (l : Launch) (D : va_G) (cy : Nat → ClassId) (g : Nat → Nat) (σ : ST)  (sz : Nat) (hJ : J9 (σ 9)) (kRD : RD (σ 9)) (kDKA : DKA (σ 9)) (h0 : ((σ 9).1 7).toInt ≤ ((σ 9).1 6).toInt) (h1 : ((σ 9).2.2.1 17 23).toInt ≤ 8) : Met l yX9_playerLine (ww yX9_playerLine cX9_playerLine 2 none) ({ frames := 6, cells := 0, slots := 0, locals := 384 }) (va_Pc [.ref (g 60)] (pr9 D cy g σ sz)) (qv9 D cy g sz (fun τ => Fr (fL [7, 8, 9, 10, 11, 12, 13, 17, 19]) σ τ ∧ J9 (τ 9) ∧ RD (τ 9) ∧ DKA (τ 9) ∧ (((σ 9).1 7).toInt ≤ ((τ 9).1 7).toInt ∧ ((τ 9).1 7).toInt ≤ ((τ 9).1 6).toInt) ∧ (ph ((σ 9).1 7) ((σ 9).1 8) ≤ ph ((τ 9).1 7) ((τ 9).1 8)) ∧ (¬ ((τ 9).1 12).toInt = 0 ∨ ((σ 9).1 12).toInt = 0) ∧ True)) 0 0 (A9 cy g sz) := by
  refine Met.ofW (cc := cX9_playerLine) (maxL := 2) (ret := none) (by decide) rfl ?_
  intro p e s m args below meth c s₁ B hml hv
  obtain ⟨rfl, hsz, hP, hK, hD0, hC⟩ := hv
  have hx := B.exec
  have hb := B.bytes
  have hr := B.returns
  have hts := hts_g (atoms_spec (ws := ww yX9_playerLine cX9_playerLine 2 none) B.pre)
  have hown : s.vm.findClass RX9 = some m.cls := findClass_of_methodNamed B.named
  have hlocks := B.notSynchronized
  clear B
  subst hsz
  have hD := fun τ => A9_D (sz := s.heap.size) hD0 τ
  clear hD0
  have hS : va_S (A9 cy g s.heap.size) s.heap s.heap [] := va_S.rf
  have hl := lv_entry ([.ref (g 60)]) (n := 2) (Nat.le_of_ble_eq_true rfl)
  rw [lg_entry_eq]
  generalize (lg_sl ([.ref (g 60)]) ++ List.replicate (2 - (lg_sl ([.ref (g 60)])).length) Slot.unset).toArray = ls at hl ⊢
  have hl : lv_has ls 2 [(0, .ref (g 60))] := hl
  refine lv_iconst (v := 4) hx hb dX9_playerLine_0 (by decide) ?_
  refine lv_bipush (v := 36) hx hb dX9_playerLine_1 (by decide) ?_
  refine lv_aload_n hx hb dX9_playerLine_3 rfl (lv_at hl 0 rfl) ?_
  refine lv_iconst (v := 3) hx hb dX9_playerLine_4 (by decide) ?_
  refine va_calli (va_runV (As := [.int 3]) (rest := [.int 36, .int 4]) ⟨hx, hb, hml, hown, hts⟩ (m_X9_hasRead l D cy g σ (3) _ hJ (show (0 : Int) ≤ (3 : Int32).toInt ∧ (3 : Int32).toInt ≤ 4 from (by have z3 : (3 : Int32).toInt = 3 := (by decide); omega))) (cwV 1 hts (gd_V q1647 q1649 q62 q134 q1650) rfl rfl rfl (by decide +kernel) ⟨Nat.le_of_ble_eq_true rfl, Nat.le_of_ble_eq_true rfl⟩) (pv9 hP hK hD hC hS (va_recv hK hP (ci := 9) (q0 := 0) rfl rfl)) rfl rfl hl.1 rfl (lv_room (Nat.le_of_ble_eq_true rfl)) dX9_playerLine_5 ⟨Nat.le_of_ble_eq_true rfl, Nat.le_of_ble_eq_true rfl⟩) hS (fun q _ h => up9 hS q h) (up9 hS) (fun r1 σ2 tS H1 locs ht hvm hw3 hB hz1 hk1 hS => ?_)
  have hP : va_P D clz (WD9 cy g σ2) H1 := by rw [← ht]; exact hB
  clear hB hz1 hk1 hvm ht
  generalize H1 = H at hP hS ⊢
  have hw3E : σ = σ2 := (hw3.1).symm
  subst hw3E
  have b4 : (0 : Int) ≤ r1.toInt ∧ r1.toInt ≤ 60 := hw3.2.1
  have b5 : ((3 : Int32).toInt = 2 → r1.toInt = ((σ 9).2.2.1 17 22).toInt) ∧ ((3 : Int32).toInt = 3 → r1.toInt = ((σ 9).2.2.1 17 23).toInt) ∧ ((3 : Int32).toInt = 4 → r1.toInt = ((σ 9).2.2.1 17 24).toInt) := hw3.2.2.1
  have b5c := b5.2.1 (by decide)
  refine lv_iadd hx hb dX9_playerLine_8 ?_
  refine lv_topi (fun x6 ex6 => ?_)
  have t7 := addO ex6 (by have f0 := b4; have f1 := b5c; have f2 := h17_3 hJ (j := 23) (by decide); have f3 := h1; have g1 := rg32 r1; have z36 : (36 : Int32).toInt = 36 := (by decide); omega)
  refine lv_imul hx hb dX9_playerLine_9 ?_
  refine lv_topi (fun x8 ex8 => ?_)
  have t9 := mulC' (n := 4) ex8 (by decide) (by have f0 := t7; have f1 := b4; have f2 := b5c; have f3 := h17_3 hJ (j := 23) (by decide); have f4 := h1; have g1 := rg32 x6; have z36 : (36 : Int32).toInt = 36 := (by decide); omega)
  refine lv_istore_n (lv' := [(1, .int x8), (0, .ref (g 60))]) hx hb dX9_playerLine_10 rfl hl (by decide) rfl (fun ls hl => ?_)
  refine lv_aload_n hx hb dX9_playerLine_11 rfl (lv_at hl 1 rfl) ?_
  refine g9_19 hx hb hts hown hK hP (hts _ q1379) dX9_playerLine_12 ?_
  refine lv_iload_n hx hb dX9_playerLine_15 rfl (lv_at hl 0 rfl) ?_
  refine lv_aload_n hx hb dX9_playerLine_16 rfl (lv_at hl 1 rfl) ?_
  refine lv_iconst (v := 0) hx hb dX9_playerLine_17 (by decide) ?_
  refine lv_aload_n hx hb dX9_playerLine_18 rfl (lv_at hl 1 rfl) ?_
  refine lv_iconst (v := 2) hx hb dX9_playerLine_19 (by decide) ?_
  refine va_calli (va_runV (As := [.int 2]) (rest := [.int 0, .ref (g 60), .int x8, .ref (g 19)]) ⟨hx, hb, hml, hown, hts⟩ (m_X9_hasRead l D cy g σ (2) _ hJ (show (0 : Int) ≤ (2 : Int32).toInt ∧ (2 : Int32).toInt ≤ 4 from (by have z2 : (2 : Int32).toInt = 2 := (by decide); omega))) (cwV 1 hts (gd_V q1647 q1649 q62 q134 q1650) rfl rfl rfl (by decide +kernel) ⟨Nat.le_of_ble_eq_true rfl, Nat.le_of_ble_eq_true rfl⟩) (pv9 hP hK hD hC hS (va_recv hK hP (ci := 9) (q0 := 0) rfl rfl)) rfl rfl hl.1 rfl (lv_room (Nat.le_of_ble_eq_true rfl)) dX9_playerLine_20 ⟨Nat.le_of_ble_eq_true rfl, Nat.le_of_ble_eq_true rfl⟩) hS (fun q _ h => up9 hS q h) (up9 hS) (fun r10 σ11 tS H1 locs ht hvm hw12 hB hz1 hk1 hS => ?_)
  have hP : va_P D clz (WD9 cy g σ11) H1 := by rw [← ht]; exact hB
  clear hB hz1 hk1 hvm ht
  generalize H1 = H at hP hS ⊢
  have hw12E : σ = σ11 := (hw12.1).symm
  subst hw12E
  have b13 : (0 : Int) ≤ r10.toInt ∧ r10.toInt ≤ 60 := hw12.2.1
  have b14 : ((2 : Int32).toInt = 2 → r10.toInt = ((σ 9).2.2.1 17 22).toInt) ∧ ((2 : Int32).toInt = 3 → r10.toInt = ((σ 9).2.2.1 17 23).toInt) ∧ ((2 : Int32).toInt = 4 → r10.toInt = ((σ 9).2.2.1 17 24).toInt) := hw12.2.2.1
  have b14c := b14.1 (by decide)
  refine lv_iconst (v := 1) hx hb dX9_playerLine_23 (by decide) ?_
  refine lv_isub hx hb dX9_playerLine_24 ?_
  refine lv_topi (fun x15 ex15 => ?_)
  have t16 := subO ex15 (by have f0 := b13; have f1 := b14c; have f2 := h17_2 hJ (j := 22) (by decide); have g1 := rg32 r10; have z1 : (1 : Int32).toInt = 1 := (by decide); omega)
  refine va_calli (va_runV (As := [.int 0, .int x15]) (rest := [.int x8, .ref (g 19)]) ⟨hx, hb, hml, hown, hts⟩ (m_X9_number l D cy g σ (0) x15 _ hJ (show ((σ 9).1 7).toInt ≤ ((σ 9).1 6).toInt from (by have f0 := j9_6 hJ rfl; have f1 := j9_7 hJ rfl; have f2 := h0; omega))) (cwV 2 hts (gd_V q1631 q1633 q60 q134 q1634) rfl rfl rfl (by decide +kernel) ⟨Nat.le_of_ble_eq_true rfl, Nat.le_of_ble_eq_true rfl⟩) (pv9 hP hK hD hC hS (va_recv hK hP (ci := 9) (q0 := 0) rfl rfl)) rfl rfl hl.1 rfl (lv_room (Nat.le_of_ble_eq_true rfl)) dX9_playerLine_25 ⟨Nat.le_of_ble_eq_true rfl, Nat.le_of_ble_eq_true rfl⟩) hS (fun q _ h => up9 hS q h) (up9 hS) (fun r17 σ18 tS H1 locs ht hvm hw19 hB hz1 hk1 hS => ?_)
  have hP : va_P D clz (WD9 cy g σ18) H1 := by rw [← ht]; exact hB
  clear hB hz1 hk1 hvm ht
  generalize H1 = H at hP hS ⊢
  have hF20 : Fr (fL [7, 8, 9, 10, 11, 12, 13]) σ σ18 := hw19.1
  have hJ21 : J9 (σ18 9) := hw19.2.1
  have b22 : ((σ 9).1 7).toInt ≤ ((σ18 9).1 7).toInt ∧ ((σ18 9).1 7).toInt ≤ ((σ18 9).1 6).toInt := hw19.2.2.1
  have b23 : ph ((σ 9).1 7) ((σ 9).1 8) ≤ ph ((σ18 9).1 7) ((σ18 9).1 8) := hw19.2.2.2.1
  have b24 : (0 : Int32).toInt ≤ r17.toInt ∧ (r17.toInt ≤ x15.toInt ∨ r17.toInt = (0 : Int32).toInt) := hw19.2.2.2.2.1
  have b25 : ¬ ((σ18 9).1 12).toInt = 0 ∨ (((σ 9).1 12).toInt = 0 ∧ r17.toInt ≤ x15.toInt) := hw19.2.2.2.2.2.1
  have T26 : RD (σ18 9) := RD.call kRD (by have f0 := b25; have f1 := t16; have f2 := b13; have f3 := b14c; have f4 := h17_2 hJ (j := 22) (by decide); have g3 := rg32 r17; have z1 : (1 : Int32).toInt = 1 := (by decide); omega) (hF20 9 17 rfl).2.2.1 (hF20 9 18 rfl).2.2.1 (hF20 9 19 rfl).2.2.1
  have T27 : DKA (σ18 9) := DKA.mv kDKA (hF20 9 17 rfl).2.2.1 (hF20 9 18 rfl).2.2.1 (hF20 9 19 rfl).2.2.1
  refine t9_19 hx hb hK hP hD hS (vpo (by have f0 := t9; have f1 := t7; have f2 := b4; have f3 := b5c; have f4 := h17_3 hJ (j := 23) (by decide); have f5 := h1; have g1 := rg32 x8; have z36 : (36 : Int32).toInt = 36 := (by decide); omega)) dX9_playerLine_28 (fun H locs σ28 eσ28 hP hS => ?_)
  have hJ29 : J9 (σ28 9) := hJ21.A eσ28 (show PA9 19 x8.toInt.toNat r17 from (by have f0 := t9; have f1 := t7; have f2 := b4; have f3 := b5c; have f4 := h17_3 hJ (j := 23) (by decide); have f5 := h1; have f6 := b24; have f7 := b25; have f8 := t16; have f9 := b13; have f10 := b14c; have f11 := h17_2 hJ (j := 22) (by decide); have g4 := rg32 r17; have g5 := rg32 x8; have z0 : (0 : Int32).toInt = 0 := (by decide); have z1 : (1 : Int32).toInt = 1 := (by decide); have z36 : (36 : Int32).toInt = 36 := (by decide); exact ⟨by omega, by omega, by omega, by omega⟩))
  have T30 : RD (σ28 9) := RD.s19 T26 eσ28 (by have f0 := h17_3 hJ21 (j := 23) (by decide); have f1 := congrArg Int32.toInt (show ((σ18 9).2.2.1 17 23) = ((σ 9).2.2.1 17 23) from congrFun ((hF20 9 17 rfl).2.2.1) _); have f2 := h17_3 hJ (j := 23) (by decide); have f3 := h1; have f4 := b5c; have f5 := t7; have f6 := t9; have f7 := b4; have g2 := rg32 x8; have z36 : (36 : Int32).toInt = 36 := (by decide); omega)
  have T31 : DKA (σ28 9) := DKA.s19 T27 hJ21 eσ28 (by have f0 := t9; have f1 := t7; have f2 := b4; have f3 := b5c; have f4 := h17_3 hJ (j := 23) (by decide); have f5 := h1; have g1 := rg32 x8; have z36 : (36 : Int32).toInt = 36 := (by decide); omega)
  have T32 : PV (σ28 9) := PV.new eσ28 (by have f0 := h17_3 hJ21 (j := 23) (by decide); have f1 := congrArg Int32.toInt (show ((σ18 9).2.2.1 17 23) = ((σ 9).2.2.1 17 23) from congrFun ((hF20 9 17 rfl).2.2.1) _); have f2 := h17_3 hJ (j := 23) (by decide); have f3 := h1; have f4 := b5c; have f5 := t7; have f6 := t9; have f7 := b4; have g2 := rg32 x8; have z36 : (36 : Int32).toInt = 36 := (by decide); omega) (by have f0 := h17_3 hJ21 (j := 23) (by decide); have f1 := congrArg Int32.toInt (show ((σ18 9).2.2.1 17 23) = ((σ 9).2.2.1 17 23) from congrFun ((hF20 9 17 rfl).2.2.1) _); have f2 := h17_3 hJ (j := 23) (by decide); have f3 := h1; have f4 := b5c; have f5 := t7; have f6 := t9; have f7 := b4; have z36 : (36 : Int32).toInt = 36 := (by decide); omega) (by have f0 := h17_2 hJ21 (j := 22) (by decide); have f1 := congrArg Int32.toInt (show ((σ18 9).2.2.1 17 22) = ((σ 9).2.2.1 17 22) from congrFun ((hF20 9 17 rfl).2.2.1) _); have f2 := h17_2 hJ (j := 22) (by decide); have f3 := b14c; have f4 := t16; have f5 := b13; have f6 := b24; have f7 := b25; have g4 := rg32 r17; have z0 : (0 : Int32).toInt = 0 := (by decide); have z1 : (1 : Int32).toInt = 1 := (by decide); omega)
  refine lv_aload_n hx hb dX9_playerLine_29 rfl (lv_at hl 1 rfl) ?_
  refine g9_19 hx hb hts hown hK hP (hts _ q1379) dX9_playerLine_30 ?_
  refine lv_iload_n hx hb dX9_playerLine_33 rfl (lv_at hl 0 rfl) ?_
  refine lv_iconst (v := 1) hx hb dX9_playerLine_34 (by decide) ?_
  refine lv_iadd hx hb dX9_playerLine_35 ?_
  refine lv_topi (fun x33 ex33 => ?_)
  have t34 := addO ex33 (by have f0 := t9; have f1 := t7; have f2 := b4; have f3 := b5c; have f4 := h17_3 hJ (j := 23) (by decide); have f5 := h1; have g1 := rg32 x8; have z1 : (1 : Int32).toInt = 1 := (by decide); have z36 : (36 : Int32).toInt = 36 := (by decide); omega)
  refine lv_aload_n hx hb dX9_playerLine_36 rfl (lv_at hl 1 rfl) ?_
  refine lv_ldc2 (v := 9454493) hx hb hown (hts _ q1664) dX9_playerLine_37 ?_
  refine lv_iconst (v := 0) hx hb dX9_playerLine_40 (by decide) ?_
  refine lv_bipush (v := 9) hx hb dX9_playerLine_41 (by decide) ?_
  refine va_calli (va_runV (As := [.long 9454493, .int 0, .int 9]) (rest := [.int x33, .ref (g 19)]) ⟨hx, hb, hml, hown, hts⟩ (m_X9_number_ l D cy g σ28 (9454493) (0) (9) _ hJ29 (show ((σ28 9).1 7).toInt ≤ ((σ28 9).1 6).toInt from (by have f0 := j9_7 hJ29 rfl; have f1 := congrArg Int32.toInt (show ((σ28 9).1 7) = ((σ18 9).1 7) from ((sA_f eσ28) 9 7 rfl).1); have f2 := j9_6 hJ29 rfl; have f3 := congrArg Int32.toInt (show ((σ28 9).1 6) = ((σ 9).1 6) from (((sA_f eσ28) 9 6 rfl).1).trans ((hF20 9 6 rfl).1)); have f4 := j9_6 hJ rfl; have f5 := j9_7 hJ21 rfl; have f6 := h0; have f7 := j9_7 hJ rfl; have f8 := b22; have f9 := j9_6 hJ21 rfl; have f10 := congrArg Int32.toInt (show ((σ18 9).1 6) = ((σ 9).1 6) from (hF20 9 6 rfl).1); omega))) (cwV 3 hts (gd_V q1627 q1629 q59 q134 q1630) rfl rfl rfl (by decide +kernel) ⟨Nat.le_of_ble_eq_true rfl, Nat.le_of_ble_eq_true rfl⟩) (pv9 hP hK hD hC hS (va_recv hK hP (ci := 9) (q0 := 0) rfl rfl)) rfl rfl hl.1 rfl (lv_room (Nat.le_of_ble_eq_true rfl)) dX9_playerLine_43 ⟨Nat.le_of_ble_eq_true rfl, Nat.le_of_ble_eq_true rfl⟩) hS (fun q _ h => up9 hS q h) (up9 hS) (fun r35 σ36 tS H1 locs ht hvm hw37 hB hz1 hk1 hS => ?_)
  have hP : va_P D clz (WD9 cy g σ36) H1 := by rw [← ht]; exact hB
  clear hB hz1 hk1 hvm ht
  generalize H1 = H at hP hS ⊢
  have hF38 : Fr (fL [7, 8, 9, 10, 11, 12, 13]) σ28 σ36 := hw37.1
  have hJ39 : J9 (σ36 9) := hw37.2.1
  have b40 : ((σ28 9).1 7).toInt ≤ ((σ36 9).1 7).toInt ∧ ((σ36 9).1 7).toInt ≤ ((σ36 9).1 6).toInt := hw37.2.2.1
  have b41 : ph ((σ28 9).1 7) ((σ28 9).1 8) ≤ ph ((σ36 9).1 7) ((σ36 9).1 8) := hw37.2.2.2.1
  have b42 : (0 : Int32).toInt ≤ r35.toInt ∧ (r35.toInt ≤ (9 : Int32).toInt ∨ r35.toInt = (0 : Int32).toInt) := hw37.2.2.2.2.1
  have b43 : ¬ ((σ36 9).1 12).toInt = 0 ∨ (((σ28 9).1 12).toInt = 0 ∧ r35.toInt ≤ (9 : Int32).toInt) := hw37.2.2.2.2.2.1
  have T44 : RD (σ36 9) := RD.call T30 (by have f0 := congrArg Int32.toInt (show ((σ28 9).1 12) = ((σ18 9).1 12) from ((sA_f eσ28) 9 12 rfl).1); have f1 := b25; have f2 := b43; have f3 := t16; have f4 := b13; have f5 := b14c; have f6 := h17_2 hJ (j := 22) (by decide); have g5 := rg32 r35; have z1 : (1 : Int32).toInt = 1 := (by decide); have z9 : (9 : Int32).toInt = 9 := (by decide); omega) (hF38 9 17 rfl).2.2.1 (hF38 9 18 rfl).2.2.1 (hF38 9 19 rfl).2.2.1
  have T45 : DKA (σ36 9) := DKA.mv T31 (hF38 9 17 rfl).2.2.1 (hF38 9 18 rfl).2.2.1 (hF38 9 19 rfl).2.2.1
  have T46 : PV (σ36 9) := PV.call T32 (by have f0 := congrArg Int32.toInt (show ((σ28 9).1 12) = ((σ18 9).1 12) from ((sA_f eσ28) 9 12 rfl).1); have f1 := b25; have f2 := b43; have f3 := t16; have f4 := b13; have f5 := b14c; have f6 := h17_2 hJ (j := 22) (by decide); have g5 := rg32 r35; have z1 : (1 : Int32).toInt = 1 := (by decide); have z9 : (9 : Int32).toInt = 9 := (by decide); omega) (hF38 9 17 rfl).2.2.1 (hF38 9 19 rfl).2.2.1
  refine t9_19 hx hb hK hP hD hS (vpo (by have f0 := t34; have f1 := t9; have f2 := t7; have f3 := b4; have f4 := b5c; have f5 := h17_3 hJ (j := 23) (by decide); have f6 := h1; have g1 := rg32 x33; have z1 : (1 : Int32).toInt = 1 := (by decide); have z36 : (36 : Int32).toInt = 36 := (by decide); omega)) dX9_playerLine_46 (fun H locs σ47 eσ47 hP hS => ?_)
  have hJ48 : J9 (σ47 9) := hJ39.A eσ47 (show PA9 19 x33.toInt.toNat r35 from (by have f0 := t34; have f1 := t9; have f2 := t7; have f3 := b4; have f4 := b5c; have f5 := h17_3 hJ (j := 23) (by decide); have f6 := h1; have f7 := b42; have f8 := b43; have f9 := congrArg Int32.toInt (show ((σ28 9).1 12) = ((σ18 9).1 12) from ((sA_f eσ28) 9 12 rfl).1); have g4 := rg32 r35; have g5 := rg32 x33; have z0 : (0 : Int32).toInt = 0 := (by decide); have z1 : (1 : Int32).toInt = 1 := (by decide); have z9 : (9 : Int32).toInt = 9 := (by decide); have z36 : (36 : Int32).toInt = 36 := (by decide); exact ⟨by omega, by omega, by omega, by omega⟩))
  have T49 : RD (σ47 9) := RD.s19 T44 eσ47 (by have f0 := h17_3 hJ39 (j := 23) (by decide); have f1 := congrArg Int32.toInt (show ((σ36 9).2.2.1 17 23) = ((σ 9).2.2.1 17 23) from congrFun (((hF38 9 17 rfl).2.2.1).trans ((((sA_f eσ28) 9 17 rfl).2.2.1).trans ((hF20 9 17 rfl).2.2.1))) _); have f2 := h17_3 hJ (j := 23) (by decide); have f3 := h1; have f4 := b5c; have f5 := t7; have f6 := t9; have f7 := t34; have f8 := b4; have g2 := rg32 x33; have z1 : (1 : Int32).toInt = 1 := (by decide); have z36 : (36 : Int32).toInt = 36 := (by decide); omega)
  have T50 : DKA (σ47 9) := DKA.s19 T45 hJ39 eσ47 (by have f0 := t34; have f1 := t9; have f2 := t7; have f3 := b4; have f4 := b5c; have f5 := h17_3 hJ (j := 23) (by decide); have f6 := h1; have g1 := rg32 x33; have z1 : (1 : Int32).toInt = 1 := (by decide); have z36 : (36 : Int32).toInt = 36 := (by decide); omega)
  have T51 : PV (σ47 9) := PV.s19 T46 eσ47 (by have f0 := h17_3 hJ39 (j := 23) (by decide); have f1 := congrArg Int32.toInt (show ((σ36 9).2.2.1 17 23) = ((σ 9).2.2.1 17 23) from congrFun (((hF38 9 17 rfl).2.2.1).trans ((((sA_f eσ28) 9 17 rfl).2.2.1).trans ((hF20 9 17 rfl).2.2.1))) _); have f2 := h17_3 hJ (j := 23) (by decide); have f3 := h1; have f4 := b5c; have f5 := t7; have f6 := t9; have f7 := t34; have f8 := b4; have g2 := rg32 x33; have z1 : (1 : Int32).toInt = 1 := (by decide); have z36 : (36 : Int32).toInt = 36 := (by decide); omega) (by have f0 := h17_3 hJ39 (j := 23) (by decide); have f1 := congrArg Int32.toInt (show ((σ36 9).2.2.1 17 23) = ((σ 9).2.2.1 17 23) from congrFun (((hF38 9 17 rfl).2.2.1).trans ((((sA_f eσ28) 9 17 rfl).2.2.1).trans ((hF20 9 17 rfl).2.2.1))) _); have f2 := h17_3 hJ (j := 23) (by decide); have f3 := h1; have f4 := b5c; have f5 := t7; have f6 := t9; have f7 := t34; have f8 := b4; have z1 : (1 : Int32).toInt = 1 := (by decide); have z36 : (36 : Int32).toInt = 36 := (by decide); omega)
  refine lv_aload_n hx hb dX9_playerLine_47 rfl (lv_at hl 1 rfl) ?_
  refine g9_19 hx hb hts hown hK hP (hts _ q1379) dX9_playerLine_48 ?_
  refine lv_iload_n hx hb dX9_playerLine_51 rfl (lv_at hl 0 rfl) ?_
  refine lv_iconst (v := 2) hx hb dX9_playerLine_52 (by decide) ?_
  refine lv_iadd hx hb dX9_playerLine_53 ?_
  refine lv_topi (fun x52 ex52 => ?_)
  have t53 := addO ex52 (by have f0 := t9; have f1 := t34; have f2 := t7; have f3 := b4; have f4 := b5c; have f5 := h17_3 hJ (j := 23) (by decide); have f6 := h1; have g1 := rg32 x8; have z1 : (1 : Int32).toInt = 1 := (by decide); have z2 : (2 : Int32).toInt = 2 := (by decide); have z36 : (36 : Int32).toInt = 36 := (by decide); omega)
  refine lv_aload_n hx hb dX9_playerLine_54 rfl (lv_at hl 1 rfl) ?_
  refine lv_ldc2 (v := 990) hx hb hown (hts _ q1665) dX9_playerLine_55 ?_
  refine lv_iconst (v := 1) hx hb dX9_playerLine_58 (by decide) ?_
  refine lv_bipush (v := 30) hx hb dX9_playerLine_59 (by decide) ?_
  refine va_calli (va_runV (As := [.long 990, .int 1, .int 30]) (rest := [.int x52, .ref (g 19)]) ⟨hx, hb, hml, hown, hts⟩ (m_X9_number_ l D cy g σ47 (990) (1) (30) _ hJ48 (show ((σ47 9).1 7).toInt ≤ ((σ47 9).1 6).toInt from (by have f0 := j9_6 hJ48 rfl; have f1 := congrArg Int32.toInt (show ((σ47 9).1 6) = ((σ 9).1 6) from (((sA_f eσ47) 9 6 rfl).1).trans (((hF38 9 6 rfl).1).trans ((((sA_f eσ28) 9 6 rfl).1).trans ((hF20 9 6 rfl).1)))); have f2 := j9_7 hJ48 rfl; have f3 := congrArg Int32.toInt (show ((σ47 9).1 7) = ((σ36 9).1 7) from ((sA_f eσ47) 9 7 rfl).1); have f4 := j9_6 hJ rfl; have f5 := j9_7 hJ39 rfl; have f6 := h0; have f7 := j9_7 hJ rfl; have f8 := b22; have f9 := j9_7 hJ21 rfl; have f10 := j9_6 hJ21 rfl; have f11 := congrArg Int32.toInt (show ((σ18 9).1 6) = ((σ 9).1 6) from (hF20 9 6 rfl).1); have f12 := b40; have f13 := j9_7 hJ29 rfl; have f14 := congrArg Int32.toInt (show ((σ28 9).1 7) = ((σ18 9).1 7) from ((sA_f eσ28) 9 7 rfl).1); have f15 := j9_6 hJ39 rfl; have f16 := congrArg Int32.toInt (show ((σ36 9).1 6) = ((σ 9).1 6) from ((hF38 9 6 rfl).1).trans ((((sA_f eσ28) 9 6 rfl).1).trans ((hF20 9 6 rfl).1))); omega))) (cwV 3 hts (gd_V q1627 q1629 q59 q134 q1630) rfl rfl rfl (by decide +kernel) ⟨Nat.le_of_ble_eq_true rfl, Nat.le_of_ble_eq_true rfl⟩) (pv9 hP hK hD hC hS (va_recv hK hP (ci := 9) (q0 := 0) rfl rfl)) rfl rfl hl.1 rfl (lv_room (Nat.le_of_ble_eq_true rfl)) dX9_playerLine_61 ⟨Nat.le_of_ble_eq_true rfl, Nat.le_of_ble_eq_true rfl⟩) hS (fun q _ h => up9 hS q h) (up9 hS) (fun r54 σ55 tS H1 locs ht hvm hw56 hB hz1 hk1 hS => ?_)
  have hP : va_P D clz (WD9 cy g σ55) H1 := by rw [← ht]; exact hB
  clear hB hz1 hk1 hvm ht
  generalize H1 = H at hP hS ⊢
  have hF57 : Fr (fL [7, 8, 9, 10, 11, 12, 13]) σ47 σ55 := hw56.1
  have hJ58 : J9 (σ55 9) := hw56.2.1
  have b59 : ((σ47 9).1 7).toInt ≤ ((σ55 9).1 7).toInt ∧ ((σ55 9).1 7).toInt ≤ ((σ55 9).1 6).toInt := hw56.2.2.1
  have b60 : ph ((σ47 9).1 7) ((σ47 9).1 8) ≤ ph ((σ55 9).1 7) ((σ55 9).1 8) := hw56.2.2.2.1
  have b61 : (1 : Int32).toInt ≤ r54.toInt ∧ (r54.toInt ≤ (30 : Int32).toInt ∨ r54.toInt = (1 : Int32).toInt) := hw56.2.2.2.2.1
  have b62 : ¬ ((σ55 9).1 12).toInt = 0 ∨ (((σ47 9).1 12).toInt = 0 ∧ r54.toInt ≤ (30 : Int32).toInt) := hw56.2.2.2.2.2.1
  have T63 : RD (σ55 9) := RD.call T49 (by have f0 := congrArg Int32.toInt (show ((σ47 9).1 12) = ((σ36 9).1 12) from ((sA_f eσ47) 9 12 rfl).1); have f1 := b43; have f2 := congrArg Int32.toInt (show ((σ28 9).1 12) = ((σ18 9).1 12) from ((sA_f eσ28) 9 12 rfl).1); have f3 := b62; have f4 := b25; have f5 := t16; have f6 := b13; have f7 := b14c; have f8 := h17_2 hJ (j := 22) (by decide); have g7 := rg32 r54; have z1 : (1 : Int32).toInt = 1 := (by decide); have z9 : (9 : Int32).toInt = 9 := (by decide); have z30 : (30 : Int32).toInt = 30 := (by decide); omega) (hF57 9 17 rfl).2.2.1 (hF57 9 18 rfl).2.2.1 (hF57 9 19 rfl).2.2.1
  have T64 : DKA (σ55 9) := DKA.mv T50 (hF57 9 17 rfl).2.2.1 (hF57 9 18 rfl).2.2.1 (hF57 9 19 rfl).2.2.1
  have T65 : PV (σ55 9) := PV.call T51 (by have f0 := congrArg Int32.toInt (show ((σ47 9).1 12) = ((σ36 9).1 12) from ((sA_f eσ47) 9 12 rfl).1); have f1 := b43; have f2 := congrArg Int32.toInt (show ((σ28 9).1 12) = ((σ18 9).1 12) from ((sA_f eσ28) 9 12 rfl).1); have f3 := b62; have f4 := b25; have f5 := t16; have f6 := b13; have f7 := b14c; have f8 := h17_2 hJ (j := 22) (by decide); have g7 := rg32 r54; have z1 : (1 : Int32).toInt = 1 := (by decide); have z9 : (9 : Int32).toInt = 9 := (by decide); have z30 : (30 : Int32).toInt = 30 := (by decide); omega) (hF57 9 17 rfl).2.2.1 (hF57 9 19 rfl).2.2.1
  refine t9_19 hx hb hK hP hD hS (vpo (by have f0 := t53; have f1 := t9; have f2 := t34; have f3 := t7; have f4 := b4; have f5 := b5c; have f6 := h17_3 hJ (j := 23) (by decide); have f7 := h1; have g1 := rg32 x52; have z1 : (1 : Int32).toInt = 1 := (by decide); have z2 : (2 : Int32).toInt = 2 := (by decide); have z36 : (36 : Int32).toInt = 36 := (by decide); omega)) dX9_playerLine_64 (fun H locs σ66 eσ66 hP hS => ?_)
  have hJ67 : J9 (σ66 9) := hJ58.A eσ66 (show PA9 19 x52.toInt.toNat r54 from (by have f0 := t53; have f1 := t9; have f2 := t34; have f3 := t7; have f4 := b4; have f5 := b5c; have f6 := h17_3 hJ (j := 23) (by decide); have f7 := h1; have f8 := b61; have f9 := b62; have f10 := congrArg Int32.toInt (show ((σ47 9).1 12) = ((σ36 9).1 12) from ((sA_f eσ47) 9 12 rfl).1); have g4 := rg32 r54; have g5 := rg32 x52; have z1 : (1 : Int32).toInt = 1 := (by decide); have z2 : (2 : Int32).toInt = 2 := (by decide); have z30 : (30 : Int32).toInt = 30 := (by decide); have z36 : (36 : Int32).toInt = 36 := (by decide); exact ⟨by omega, by omega, by omega, by omega⟩))
  have T68 : RD (σ66 9) := RD.s19 T63 eσ66 (by have f0 := h17_3 hJ58 (j := 23) (by decide); have f1 := congrArg Int32.toInt (show ((σ55 9).2.2.1 17 23) = ((σ 9).2.2.1 17 23) from congrFun (((hF57 9 17 rfl).2.2.1).trans ((((sA_f eσ47) 9 17 rfl).2.2.1).trans (((hF38 9 17 rfl).2.2.1).trans ((((sA_f eσ28) 9 17 rfl).2.2.1).trans ((hF20 9 17 rfl).2.2.1))))) _); have f2 := h17_3 hJ (j := 23) (by decide); have f3 := h1; have f4 := b5c; have f5 := t7; have f6 := t9; have f7 := t34; have f8 := t53; have f9 := b4; have g2 := rg32 x52; have z1 : (1 : Int32).toInt = 1 := (by decide); have z2 : (2 : Int32).toInt = 2 := (by decide); have z36 : (36 : Int32).toInt = 36 := (by decide); omega)
  have T69 : DKA (σ66 9) := DKA.s19 T64 hJ58 eσ66 (by have f0 := t53; have f1 := t9; have f2 := t34; have f3 := t7; have f4 := b4; have f5 := b5c; have f6 := h17_3 hJ (j := 23) (by decide); have f7 := h1; have g1 := rg32 x52; have z1 : (1 : Int32).toInt = 1 := (by decide); have z2 : (2 : Int32).toInt = 2 := (by decide); have z36 : (36 : Int32).toInt = 36 := (by decide); omega)
  have T70 : PV (σ66 9) := PV.s19 T65 eσ66 (by have f0 := h17_3 hJ58 (j := 23) (by decide); have f1 := congrArg Int32.toInt (show ((σ55 9).2.2.1 17 23) = ((σ 9).2.2.1 17 23) from congrFun (((hF57 9 17 rfl).2.2.1).trans ((((sA_f eσ47) 9 17 rfl).2.2.1).trans (((hF38 9 17 rfl).2.2.1).trans ((((sA_f eσ28) 9 17 rfl).2.2.1).trans ((hF20 9 17 rfl).2.2.1))))) _); have f2 := h17_3 hJ (j := 23) (by decide); have f3 := h1; have f4 := b5c; have f5 := t7; have f6 := t9; have f7 := t34; have f8 := t53; have f9 := b4; have g2 := rg32 x52; have z1 : (1 : Int32).toInt = 1 := (by decide); have z2 : (2 : Int32).toInt = 2 := (by decide); have z36 : (36 : Int32).toInt = 36 := (by decide); omega) (by have f0 := h17_3 hJ58 (j := 23) (by decide); have f1 := congrArg Int32.toInt (show ((σ55 9).2.2.1 17 23) = ((σ 9).2.2.1 17 23) from congrFun (((hF57 9 17 rfl).2.2.1).trans ((((sA_f eσ47) 9 17 rfl).2.2.1).trans (((hF38 9 17 rfl).2.2.1).trans ((((sA_f eσ28) 9 17 rfl).2.2.1).trans ((hF20 9 17 rfl).2.2.1))))) _); have f2 := h17_3 hJ (j := 23) (by decide); have f3 := h1; have f4 := b5c; have f5 := t7; have f6 := t9; have f7 := t34; have f8 := t53; have f9 := b4; have z1 : (1 : Int32).toInt = 1 := (by decide); have z2 : (2 : Int32).toInt = 2 := (by decide); have z36 : (36 : Int32).toInt = 36 := (by decide); omega)
  refine lv_aload_n hx hb dX9_playerLine_65 rfl (lv_at hl 1 rfl) ?_
  refine g9_19 hx hb hts hown hK hP (hts _ q1379) dX9_playerLine_66 ?_
  refine lv_iload_n hx hb dX9_playerLine_69 rfl (lv_at hl 0 rfl) ?_
  refine lv_iconst (v := 3) hx hb dX9_playerLine_70 (by decide) ?_
  refine lv_iadd hx hb dX9_playerLine_71 ?_
  refine lv_topi (fun x71 ex71 => ?_)
  have t72 := addO ex71 (by have f0 := t9; have f1 := t34; have f2 := t53; have f3 := t7; have f4 := b4; have f5 := b5c; have f6 := h17_3 hJ (j := 23) (by decide); have f7 := h1; have g1 := rg32 x8; have z1 : (1 : Int32).toInt = 1 := (by decide); have z2 : (2 : Int32).toInt = 2 := (by decide); have z3 : (3 : Int32).toInt = 3 := (by decide); have z36 : (36 : Int32).toInt = 36 := (by decide); omega)
  refine lv_aload_n hx hb dX9_playerLine_72 rfl (lv_at hl 1 rfl) ?_
  refine lv_ldc2 (v := 243208) hx hb hown (hts _ q1666) dX9_playerLine_73 ?_
  refine lv_iconst (v := 0) hx hb dX9_playerLine_76 (by decide) ?_
  refine lv_sipush (v := 999) hx hb dX9_playerLine_77 (by decide) ?_
  refine va_calli (va_runV (As := [.long 243208, .int 0, .int 999]) (rest := [.int x71, .ref (g 19)]) ⟨hx, hb, hml, hown, hts⟩ (m_X9_number_ l D cy g σ66 (243208) (0) (999) _ hJ67 (show ((σ66 9).1 7).toInt ≤ ((σ66 9).1 6).toInt from (by have f0 := j9_6 hJ67 rfl; have f1 := congrArg Int32.toInt (show ((σ66 9).1 6) = ((σ 9).1 6) from (((sA_f eσ66) 9 6 rfl).1).trans (((hF57 9 6 rfl).1).trans ((((sA_f eσ47) 9 6 rfl).1).trans (((hF38 9 6 rfl).1).trans ((((sA_f eσ28) 9 6 rfl).1).trans ((hF20 9 6 rfl).1)))))); have f2 := j9_7 hJ67 rfl; have f3 := congrArg Int32.toInt (show ((σ66 9).1 7) = ((σ55 9).1 7) from ((sA_f eσ66) 9 7 rfl).1); have f4 := j9_6 hJ rfl; have f5 := j9_7 hJ58 rfl; have f6 := h0; have f7 := j9_7 hJ rfl; have f8 := b22; have f9 := j9_7 hJ21 rfl; have f10 := j9_6 hJ21 rfl; have f11 := congrArg Int32.toInt (show ((σ18 9).1 6) = ((σ 9).1 6) from (hF20 9 6 rfl).1); have f12 := b40; have f13 := j9_7 hJ39 rfl; have f14 := j9_7 hJ29 rfl; have f15 := congrArg Int32.toInt (show ((σ28 9).1 7) = ((σ18 9).1 7) from ((sA_f eσ28) 9 7 rfl).1); have f16 := j9_6 hJ39 rfl; have f17 := congrArg Int32.toInt (show ((σ36 9).1 6) = ((σ 9).1 6) from ((hF38 9 6 rfl).1).trans ((((sA_f eσ28) 9 6 rfl).1).trans ((hF20 9 6 rfl).1))); have f18 := b59; have f19 := j9_6 hJ58 rfl; have f20 := congrArg Int32.toInt (show ((σ55 9).1 6) = ((σ 9).1 6) from ((hF57 9 6 rfl).1).trans ((((sA_f eσ47) 9 6 rfl).1).trans (((hF38 9 6 rfl).1).trans ((((sA_f eσ28) 9 6 rfl).1).trans ((hF20 9 6 rfl).1))))); have f21 := j9_7 hJ48 rfl; have f22 := congrArg Int32.toInt (show ((σ47 9).1 7) = ((σ36 9).1 7) from ((sA_f eσ47) 9 7 rfl).1); omega))) (cwV 3 hts (gd_V q1627 q1629 q59 q134 q1630) rfl rfl rfl (by decide +kernel) ⟨Nat.le_of_ble_eq_true rfl, Nat.le_of_ble_eq_true rfl⟩) (pv9 hP hK hD hC hS (va_recv hK hP (ci := 9) (q0 := 0) rfl rfl)) rfl rfl hl.1 rfl (lv_room (Nat.le_of_ble_eq_true rfl)) dX9_playerLine_80 ⟨Nat.le_of_ble_eq_true rfl, Nat.le_of_ble_eq_true rfl⟩) hS (fun q _ h => up9 hS q h) (up9 hS) (fun r73 σ74 tS H1 locs ht hvm hw75 hB hz1 hk1 hS => ?_)
  have hP : va_P D clz (WD9 cy g σ74) H1 := by rw [← ht]; exact hB
  clear hB hz1 hk1 hvm ht
  generalize H1 = H at hP hS ⊢
  have hF76 : Fr (fL [7, 8, 9, 10, 11, 12, 13]) σ66 σ74 := hw75.1
  have hJ77 : J9 (σ74 9) := hw75.2.1
  have b78 : ((σ66 9).1 7).toInt ≤ ((σ74 9).1 7).toInt ∧ ((σ74 9).1 7).toInt ≤ ((σ74 9).1 6).toInt := hw75.2.2.1
  have b79 : ph ((σ66 9).1 7) ((σ66 9).1 8) ≤ ph ((σ74 9).1 7) ((σ74 9).1 8) := hw75.2.2.2.1
  have b80 : (0 : Int32).toInt ≤ r73.toInt ∧ (r73.toInt ≤ (999 : Int32).toInt ∨ r73.toInt = (0 : Int32).toInt) := hw75.2.2.2.2.1
  have b81 : ¬ ((σ74 9).1 12).toInt = 0 ∨ (((σ66 9).1 12).toInt = 0 ∧ r73.toInt ≤ (999 : Int32).toInt) := hw75.2.2.2.2.2.1
  have T82 : RD (σ74 9) := RD.call T68 (by have f0 := congrArg Int32.toInt (show ((σ66 9).1 12) = ((σ55 9).1 12) from ((sA_f eσ66) 9 12 rfl).1); have f1 := b62; have f2 := congrArg Int32.toInt (show ((σ47 9).1 12) = ((σ36 9).1 12) from ((sA_f eσ47) 9 12 rfl).1); have f3 := b81; have f4 := b43; have f5 := congrArg Int32.toInt (show ((σ28 9).1 12) = ((σ18 9).1 12) from ((sA_f eσ28) 9 12 rfl).1); have f6 := b25; have f7 := t16; have f8 := b13; have f9 := b14c; have f10 := h17_2 hJ (j := 22) (by decide); have g9 := rg32 r73; have z1 : (1 : Int32).toInt = 1 := (by decide); have z9 : (9 : Int32).toInt = 9 := (by decide); have z30 : (30 : Int32).toInt = 30 := (by decide); have z999 : (999 : Int32).toInt = 999 := (by decide); omega) (hF76 9 17 rfl).2.2.1 (hF76 9 18 rfl).2.2.1 (hF76 9 19 rfl).2.2.1
  have T83 : DKA (σ74 9) := DKA.mv T69 (hF76 9 17 rfl).2.2.1 (hF76 9 18 rfl).2.2.1 (hF76 9 19 rfl).2.2.1
  have T84 : PV (σ74 9) := PV.call T70 (by have f0 := congrArg Int32.toInt (show ((σ66 9).1 12) = ((σ55 9).1 12) from ((sA_f eσ66) 9 12 rfl).1); have f1 := b62; have f2 := congrArg Int32.toInt (show ((σ47 9).1 12) = ((σ36 9).1 12) from ((sA_f eσ47) 9 12 rfl).1); have f3 := b81; have f4 := b43; have f5 := congrArg Int32.toInt (show ((σ28 9).1 12) = ((σ18 9).1 12) from ((sA_f eσ28) 9 12 rfl).1); have f6 := b25; have f7 := t16; have f8 := b13; have f9 := b14c; have f10 := h17_2 hJ (j := 22) (by decide); have g9 := rg32 r73; have z1 : (1 : Int32).toInt = 1 := (by decide); have z9 : (9 : Int32).toInt = 9 := (by decide); have z30 : (30 : Int32).toInt = 30 := (by decide); have z999 : (999 : Int32).toInt = 999 := (by decide); omega) (hF76 9 17 rfl).2.2.1 (hF76 9 19 rfl).2.2.1
  refine t9_19 hx hb hK hP hD hS (vpo (by have f0 := t72; have f1 := t9; have f2 := t34; have f3 := t53; have f4 := t7; have f5 := b4; have f6 := b5c; have f7 := h17_3 hJ (j := 23) (by decide); have f8 := h1; have g1 := rg32 x71; have z1 : (1 : Int32).toInt = 1 := (by decide); have z2 : (2 : Int32).toInt = 2 := (by decide); have z3 : (3 : Int32).toInt = 3 := (by decide); have z36 : (36 : Int32).toInt = 36 := (by decide); omega)) dX9_playerLine_83 (fun H locs σ85 eσ85 hP hS => ?_)
  have hJ86 : J9 (σ85 9) := hJ77.A eσ85 (show PA9 19 x71.toInt.toNat r73 from (by have f0 := t72; have f1 := t9; have f2 := t34; have f3 := t53; have f4 := t7; have f5 := b4; have f6 := b5c; have f7 := h17_3 hJ (j := 23) (by decide); have f8 := h1; have f9 := b80; have f10 := b81; have f11 := congrArg Int32.toInt (show ((σ66 9).1 12) = ((σ55 9).1 12) from ((sA_f eσ66) 9 12 rfl).1); have g4 := rg32 r73; have g5 := rg32 x71; have z0 : (0 : Int32).toInt = 0 := (by decide); have z1 : (1 : Int32).toInt = 1 := (by decide); have z2 : (2 : Int32).toInt = 2 := (by decide); have z3 : (3 : Int32).toInt = 3 := (by decide); have z36 : (36 : Int32).toInt = 36 := (by decide); have z999 : (999 : Int32).toInt = 999 := (by decide); exact ⟨by omega, by omega, by omega, by omega⟩))
  have T87 : RD (σ85 9) := RD.s19 T82 eσ85 (by have f0 := h17_3 hJ77 (j := 23) (by decide); have f1 := congrArg Int32.toInt (show ((σ74 9).2.2.1 17 23) = ((σ 9).2.2.1 17 23) from congrFun (((hF76 9 17 rfl).2.2.1).trans ((((sA_f eσ66) 9 17 rfl).2.2.1).trans (((hF57 9 17 rfl).2.2.1).trans ((((sA_f eσ47) 9 17 rfl).2.2.1).trans (((hF38 9 17 rfl).2.2.1).trans ((((sA_f eσ28) 9 17 rfl).2.2.1).trans ((hF20 9 17 rfl).2.2.1))))))) _); have f2 := h17_3 hJ (j := 23) (by decide); have f3 := h1; have f4 := b5c; have f5 := t7; have f6 := t9; have f7 := t34; have f8 := t53; have f9 := t72; have f10 := b4; have g2 := rg32 x71; have z1 : (1 : Int32).toInt = 1 := (by decide); have z2 : (2 : Int32).toInt = 2 := (by decide); have z3 : (3 : Int32).toInt = 3 := (by decide); have z36 : (36 : Int32).toInt = 36 := (by decide); omega)
  have T88 : DKA (σ85 9) := DKA.s19 T83 hJ77 eσ85 (by have f0 := t72; have f1 := t9; have f2 := t34; have f3 := t53; have f4 := t7; have f5 := b4; have f6 := b5c; have f7 := h17_3 hJ (j := 23) (by decide); have f8 := h1; have g1 := rg32 x71; have z1 : (1 : Int32).toInt = 1 := (by decide); have z2 : (2 : Int32).toInt = 2 := (by decide); have z3 : (3 : Int32).toInt = 3 := (by decide); have z36 : (36 : Int32).toInt = 36 := (by decide); omega)
  have T89 : PV (σ85 9) := PV.s19 T84 eσ85 (by have f0 := h17_3 hJ77 (j := 23) (by decide); have f1 := congrArg Int32.toInt (show ((σ74 9).2.2.1 17 23) = ((σ 9).2.2.1 17 23) from congrFun (((hF76 9 17 rfl).2.2.1).trans ((((sA_f eσ66) 9 17 rfl).2.2.1).trans (((hF57 9 17 rfl).2.2.1).trans ((((sA_f eσ47) 9 17 rfl).2.2.1).trans (((hF38 9 17 rfl).2.2.1).trans ((((sA_f eσ28) 9 17 rfl).2.2.1).trans ((hF20 9 17 rfl).2.2.1))))))) _); have f2 := h17_3 hJ (j := 23) (by decide); have f3 := h1; have f4 := b5c; have f5 := t7; have f6 := t9; have f7 := t34; have f8 := t53; have f9 := t72; have f10 := b4; have g2 := rg32 x71; have z1 : (1 : Int32).toInt = 1 := (by decide); have z2 : (2 : Int32).toInt = 2 := (by decide); have z3 : (3 : Int32).toInt = 3 := (by decide); have z36 : (36 : Int32).toInt = 36 := (by decide); omega) (by have f0 := h17_3 hJ77 (j := 23) (by decide); have f1 := congrArg Int32.toInt (show ((σ74 9).2.2.1 17 23) = ((σ 9).2.2.1 17 23) from congrFun (((hF76 9 17 rfl).2.2.1).trans ((((sA_f eσ66) 9 17 rfl).2.2.1).trans (((hF57 9 17 rfl).2.2.1).trans ((((sA_f eσ47) 9 17 rfl).2.2.1).trans (((hF38 9 17 rfl).2.2.1).trans ((((sA_f eσ28) 9 17 rfl).2.2.1).trans ((hF20 9 17 rfl).2.2.1))))))) _); have f2 := h17_3 hJ (j := 23) (by decide); have f3 := h1; have f4 := b5c; have f5 := t7; have f6 := t9; have f7 := t34; have f8 := t53; have f9 := t72; have f10 := b4; have z1 : (1 : Int32).toInt = 1 := (by decide); have z2 : (2 : Int32).toInt = 2 := (by decide); have z3 : (3 : Int32).toInt = 3 := (by decide); have z36 : (36 : Int32).toInt = 36 := (by decide); omega)
  refine lv_aload_n hx hb dX9_playerLine_84 rfl (lv_at hl 1 rfl) ?_
  refine g9_17 hx hb hts hown hK hP (hts _ q1377) dX9_playerLine_85 ?_
  refine lv_bipush (v := 23) hx hb dX9_playerLine_88 (by decide) ?_
  refine lv_dup2_11 hx hb dX9_playerLine_90 rfl rfl ?_
  refine l9_17 (x := ((σ 9).2.2.1 17 23)) hx hb hK hP (vpi (by decide)) ((congrFun ((((sA_f eσ85) 9 17 rfl).2.2.1).trans (((hF76 9 17 rfl).2.2.1).trans ((((sA_f eσ66) 9 17 rfl).2.2.1).trans (((hF57 9 17 rfl).2.2.1).trans ((((sA_f eσ47) 9 17 rfl).2.2.1).trans (((hF38 9 17 rfl).2.2.1).trans ((((sA_f eσ28) 9 17 rfl).2.2.1).trans ((hF20 9 17 rfl).2.2.1)))))))) _).trans (congrArg ((σ 9).2.2.1 17) (show (23 : Int32).toInt.toNat = 23 by decide))) dX9_playerLine_91 ?_
  refine lv_iconst (v := 1) hx hb dX9_playerLine_92 (by decide) ?_
  refine lv_iadd hx hb dX9_playerLine_93 ?_
  refine lv_topi (fun x90 ex90 => ?_)
  have t91 := addO ex90 (by have f0 := h17_3 hJ (j := 23) (by decide); have f1 := h1; have f2 := b5c; have f3 := t7; have f4 := t9; have f5 := t34; have f6 := t53; have f7 := t72; have f8 := b4; have z1 : (1 : Int32).toInt = 1 := (by decide); have z2 : (2 : Int32).toInt = 2 := (by decide); have z3 : (3 : Int32).toInt = 3 := (by decide); have z36 : (36 : Int32).toInt = 36 := (by decide); omega)
  refine t9_17 hx hb hK hP hD hS (vpi (by decide)) dX9_playerLine_94 (fun H locs σ92 eσ92 hP hS => ?_)
  have hJ93 : J9 (σ92 9) := hJ86.A eσ92 (show PA9 17 (23 : Int32).toInt.toNat x90 from (by have f0 := t91; have f1 := h17_3 hJ (j := 23) (by decide); have f2 := h1; have f3 := b5c; have f4 := t7; have f5 := t9; have f6 := t34; have f7 := t53; have f8 := t72; have f9 := b4; have g0 := rg32 x90; have z1 : (1 : Int32).toInt = 1 := (by decide); have z2 : (2 : Int32).toInt = 2 := (by decide); have z3 : (3 : Int32).toInt = 3 := (by decide); have z23 : (23 : Int32).toInt = 23 := (by decide); have z36 : (36 : Int32).toInt = 36 := (by decide); exact ⟨by omega, by omega, by omega, by omega, by omega, by omega⟩))
  have T94 : RD (σ92 9) := RD.h23 T87 T89 eσ92 (by decide) (by have f0 := h17_3 hJ86 (j := 23) (by decide); have f1 := congrArg Int32.toInt (show ((σ85 9).2.2.1 17 23) = ((σ 9).2.2.1 17 23) from congrFun ((((sA_f eσ85) 9 17 rfl).2.2.1).trans (((hF76 9 17 rfl).2.2.1).trans ((((sA_f eσ66) 9 17 rfl).2.2.1).trans (((hF57 9 17 rfl).2.2.1).trans ((((sA_f eσ47) 9 17 rfl).2.2.1).trans (((hF38 9 17 rfl).2.2.1).trans ((((sA_f eσ28) 9 17 rfl).2.2.1).trans ((hF20 9 17 rfl).2.2.1)))))))) _); have f2 := h17_3 hJ (j := 23) (by decide); have f3 := h1; have f4 := b5c; have f5 := t7; have f6 := t9; have f7 := t34; have f8 := t53; have f9 := t72; have f10 := t91; have f11 := b4; have f12 := updc eσ92 23; have f13 := h17_3 hJ93 (j := 23) (by decide); have z1 : (1 : Int32).toInt = 1 := (by decide); have z2 : (2 : Int32).toInt = 2 := (by decide); have z3 : (3 : Int32).toInt = 3 := (by decide); have z23 : (23 : Int32).toInt = 23 := (by decide); have z36 : (36 : Int32).toInt = 36 := (by decide); omega) (by have f0 := h17_3 hJ86 (j := 23) (by decide); have f1 := congrArg Int32.toInt (show ((σ85 9).2.2.1 17 23) = ((σ 9).2.2.1 17 23) from congrFun ((((sA_f eσ85) 9 17 rfl).2.2.1).trans (((hF76 9 17 rfl).2.2.1).trans ((((sA_f eσ66) 9 17 rfl).2.2.1).trans (((hF57 9 17 rfl).2.2.1).trans ((((sA_f eσ47) 9 17 rfl).2.2.1).trans (((hF38 9 17 rfl).2.2.1).trans ((((sA_f eσ28) 9 17 rfl).2.2.1).trans ((hF20 9 17 rfl).2.2.1)))))))) _); have f2 := h17_3 hJ (j := 23) (by decide); have f3 := h1; have f4 := b5c; have f5 := t7; have f6 := t9; have f7 := t34; have f8 := t53; have f9 := t72; have f10 := t91; have f11 := b4; have f12 := updc eσ92 20; have f13 := h17_0 hJ86 (j := 20) (by decide); have f14 := congrArg Int32.toInt (show ((σ85 9).2.2.1 17 20) = ((σ 9).2.2.1 17 20) from congrFun ((((sA_f eσ85) 9 17 rfl).2.2.1).trans (((hF76 9 17 rfl).2.2.1).trans ((((sA_f eσ66) 9 17 rfl).2.2.1).trans (((hF57 9 17 rfl).2.2.1).trans ((((sA_f eσ47) 9 17 rfl).2.2.1).trans (((hF38 9 17 rfl).2.2.1).trans ((((sA_f eσ28) 9 17 rfl).2.2.1).trans ((hF20 9 17 rfl).2.2.1)))))))) _); have f15 := h17_0 hJ93 (j := 20) (by decide); have f16 := h17_0 hJ (j := 20) (by decide); have f17 := updc eσ92 21; have f18 := h17_1 hJ86 (j := 21) (by decide); have f19 := congrArg Int32.toInt (show ((σ85 9).2.2.1 17 21) = ((σ 9).2.2.1 17 21) from congrFun ((((sA_f eσ85) 9 17 rfl).2.2.1).trans (((hF76 9 17 rfl).2.2.1).trans ((((sA_f eσ66) 9 17 rfl).2.2.1).trans (((hF57 9 17 rfl).2.2.1).trans ((((sA_f eσ47) 9 17 rfl).2.2.1).trans (((hF38 9 17 rfl).2.2.1).trans ((((sA_f eσ28) 9 17 rfl).2.2.1).trans ((hF20 9 17 rfl).2.2.1)))))))) _); have f20 := h17_1 hJ93 (j := 21) (by decide); have f21 := h17_1 hJ (j := 21) (by decide); have f22 := updc eσ92 22; have f23 := h17_2 hJ86 (j := 22) (by decide); have f24 := congrArg Int32.toInt (show ((σ85 9).2.2.1 17 22) = ((σ 9).2.2.1 17 22) from congrFun ((((sA_f eσ85) 9 17 rfl).2.2.1).trans (((hF76 9 17 rfl).2.2.1).trans ((((sA_f eσ66) 9 17 rfl).2.2.1).trans (((hF57 9 17 rfl).2.2.1).trans ((((sA_f eσ47) 9 17 rfl).2.2.1).trans (((hF38 9 17 rfl).2.2.1).trans ((((sA_f eσ28) 9 17 rfl).2.2.1).trans ((hF20 9 17 rfl).2.2.1)))))))) _); have f25 := h17_2 hJ93 (j := 22) (by decide); have f26 := h17_2 hJ (j := 22) (by decide); have f27 := updc eσ92 23; have f28 := h17_3 hJ93 (j := 23) (by decide); have f29 := updc eσ92 24; have f30 := h17_4 hJ93 (j := 24) (by decide); have f31 := h17_4 hJ86 (j := 24) (by decide); have f32 := congrArg Int32.toInt (show ((σ85 9).2.2.1 17 24) = ((σ 9).2.2.1 17 24) from congrFun ((((sA_f eσ85) 9 17 rfl).2.2.1).trans (((hF76 9 17 rfl).2.2.1).trans ((((sA_f eσ66) 9 17 rfl).2.2.1).trans (((hF57 9 17 rfl).2.2.1).trans ((((sA_f eσ47) 9 17 rfl).2.2.1).trans (((hF38 9 17 rfl).2.2.1).trans ((((sA_f eσ28) 9 17 rfl).2.2.1).trans ((hF20 9 17 rfl).2.2.1)))))))) _); have f33 := h17_4 hJ (j := 24) (by decide); have f34 := b14c; have f35 := t16; have f36 := b13; have g14 := rg32 x90; have z1 : (1 : Int32).toInt = 1 := (by decide); have z2 : (2 : Int32).toInt = 2 := (by decide); have z3 : (3 : Int32).toInt = 3 := (by decide); have z23 : (23 : Int32).toInt = 23 := (by decide); have z36 : (36 : Int32).toInt = 36 := (by decide); omega)
  have T95 : DKA (σ92 9) := DKA.s17 T88 hJ86 eσ92 (by decide)
  exact W.vret hx hb hr (fun tS ht hW => ⟨⟨σ92, rfl, ⟨Fr.tr (Fr.tr (Fr.tr (Fr.tr (Fr.tr (Fr.tr (Fr.tr (Fr.tr (Fr.tr (Fr.rf) hF20 (fL_sub rfl)) (sA_f eσ28) (fN_L rfl)) hF38 (fL_sub rfl)) (sA_f eσ47) (fN_L rfl)) hF57 (fL_sub rfl)) (sA_f eσ66) (fN_L rfl)) hF76 (fL_sub rfl)) (sA_f eσ85) (fN_L rfl)) (sA_f eσ92) (fN_L rfl), hJ93, T94, T95, (show ((σ 9).1 7).toInt ≤ ((σ92 9).1 7).toInt ∧ ((σ92 9).1 7).toInt ≤ ((σ92 9).1 6).toInt from (by have f0 := j9_6 hJ93 rfl; have f1 := congrArg Int32.toInt (show ((σ92 9).1 6) = ((σ 9).1 6) from (((sA_f eσ92) 9 6 rfl).1).trans ((((sA_f eσ85) 9 6 rfl).1).trans (((hF76 9 6 rfl).1).trans ((((sA_f eσ66) 9 6 rfl).1).trans (((hF57 9 6 rfl).1).trans ((((sA_f eσ47) 9 6 rfl).1).trans (((hF38 9 6 rfl).1).trans ((((sA_f eσ28) 9 6 rfl).1).trans ((hF20 9 6 rfl).1))))))))); have f2 := j9_7 hJ rfl; have f3 := j9_7 hJ93 rfl; have f4 := congrArg Int32.toInt (show ((σ92 9).1 7) = ((σ74 9).1 7) from (((sA_f eσ92) 9 7 rfl).1).trans (((sA_f eσ85) 9 7 rfl).1)); have f5 := j9_7 hJ77 rfl; have f6 := j9_6 hJ rfl; have f7 := h0; have f8 := b22; have f9 := j9_7 hJ21 rfl; have f10 := j9_6 hJ21 rfl; have f11 := congrArg Int32.toInt (show ((σ18 9).1 6) = ((σ 9).1 6) from (hF20 9 6 rfl).1); have f12 := b40; have f13 := j9_7 hJ39 rfl; have f14 := j9_7 hJ29 rfl; have f15 := congrArg Int32.toInt (show ((σ28 9).1 7) = ((σ18 9).1 7) from ((sA_f eσ28) 9 7 rfl).1); have f16 := j9_6 hJ39 rfl; have f17 := congrArg Int32.toInt (show ((σ36 9).1 6) = ((σ 9).1 6) from ((hF38 9 6 rfl).1).trans ((((sA_f eσ28) 9 6 rfl).1).trans ((hF20 9 6 rfl).1))); have f18 := b59; have f19 := j9_6 hJ58 rfl; have f20 := congrArg Int32.toInt (show ((σ55 9).1 6) = ((σ 9).1 6) from ((hF57 9 6 rfl).1).trans ((((sA_f eσ47) 9 6 rfl).1).trans (((hF38 9 6 rfl).1).trans ((((sA_f eσ28) 9 6 rfl).1).trans ((hF20 9 6 rfl).1))))); have f21 := j9_7 hJ58 rfl; have f22 := j9_7 hJ48 rfl; have f23 := congrArg Int32.toInt (show ((σ47 9).1 7) = ((σ36 9).1 7) from ((sA_f eσ47) 9 7 rfl).1); have f24 := b78; have f25 := j9_6 hJ77 rfl; have f26 := congrArg Int32.toInt (show ((σ74 9).1 6) = ((σ 9).1 6) from ((hF76 9 6 rfl).1).trans ((((sA_f eσ66) 9 6 rfl).1).trans (((hF57 9 6 rfl).1).trans ((((sA_f eσ47) 9 6 rfl).1).trans (((hF38 9 6 rfl).1).trans ((((sA_f eσ28) 9 6 rfl).1).trans ((hF20 9 6 rfl).1))))))); have f27 := j9_7 hJ67 rfl; have f28 := congrArg Int32.toInt (show ((σ66 9).1 7) = ((σ55 9).1 7) from ((sA_f eσ66) 9 7 rfl).1); omega)), (show ph ((σ 9).1 7) ((σ 9).1 8) ≤ ph ((σ92 9).1 7) ((σ92 9).1 8) from (by have f0 := (show ph ((σ92 9).1 7) ((σ92 9).1 8) = ph ((σ74 9).1 7) ((σ74 9).1 8) from by rw [(((sA_f eσ92) 9 7 rfl).1).trans (((sA_f eσ85) 9 7 rfl).1), (((sA_f eσ92) 9 8 rfl).1).trans (((sA_f eσ85) 9 8 rfl).1)]); have f1 := b23; have f2 := b41; have f3 := (show ph ((σ28 9).1 7) ((σ28 9).1 8) = ph ((σ18 9).1 7) ((σ18 9).1 8) from by rw [((sA_f eσ28) 9 7 rfl).1, ((sA_f eσ28) 9 8 rfl).1]); have f4 := b60; have f5 := (show ph ((σ47 9).1 7) ((σ47 9).1 8) = ph ((σ36 9).1 7) ((σ36 9).1 8) from by rw [((sA_f eσ47) 9 7 rfl).1, ((sA_f eσ47) 9 8 rfl).1]); have f6 := b79; have f7 := (show ph ((σ66 9).1 7) ((σ66 9).1 8) = ph ((σ55 9).1 7) ((σ55 9).1 8) from by rw [((sA_f eσ66) 9 7 rfl).1, ((sA_f eσ66) 9 8 rfl).1]); omega)), (show ¬ ((σ92 9).1 12).toInt = 0 ∨ ((σ 9).1 12).toInt = 0 from (by have f0 := congrArg Int32.toInt (show ((σ92 9).1 12) = ((σ74 9).1 12) from (((sA_f eσ92) 9 12 rfl).1).trans (((sA_f eσ85) 9 12 rfl).1)); have f1 := b25; have f2 := b81; have f3 := congrArg Int32.toInt (show ((σ66 9).1 12) = ((σ55 9).1 12) from ((sA_f eσ66) 9 12 rfl).1); have f4 := b43; have f5 := congrArg Int32.toInt (show ((σ28 9).1 12) = ((σ18 9).1 12) from ((sA_f eσ28) 9 12 rfl).1); have f6 := b62; have f7 := congrArg Int32.toInt (show ((σ47 9).1 12) = ((σ36 9).1 12) from ((sA_f eσ47) 9 12 rfl).1); have f8 := t16; have f9 := b13; have f10 := b14c; have f11 := h17_2 hJ (j := 22) (by decide); have z1 : (1 : Int32).toInt = 1 := (by decide); have z9 : (9 : Int32).toInt = 9 := (by decide); have z30 : (30 : Int32).toInt = 30 := (by decide); have z999 : (999 : Int32).toInt = 999 := (by decide); omega)), trivial⟩, (show va_P D clz (WD9 cy g σ92) tS.heap by rw [ht]; exact hP)⟩, hS.F ht⟩) hS.2.2 dX9_playerLine_95

theorem q1674 : Cond.code yX9_toneHere cX9_toneHere 3 (some .int) ∈ lw_g := lw_gm (List.mem_of_getElem? (i := 1674) (by decide +kernel)) rfl
theorem dX9_toneHere_0 : decode cX9_toneHere 0 = .ok (.bipush 12, 2) := by decide +kernel
theorem dX9_toneHere_2 : decode cX9_toneHere 2 = .ok (.aload_n 0, 1) := by decide +kernel
theorem dX9_toneHere_3 : decode cX9_toneHere 3 = .ok (.iconst 4, 1) := by decide +kernel
theorem dX9_toneHere_4 : decode cX9_toneHere 4 = .ok (.invokevirtual 211, 3) := by decide +kernel
theorem dX9_toneHere_7 : decode cX9_toneHere 7 = .ok (.iadd, 1) := by decide +kernel
theorem dX9_toneHere_8 : decode cX9_toneHere 8 = .ok (.iconst 1, 1) := by decide +kernel
theorem dX9_toneHere_9 : decode cX9_toneHere 9 = .ok (.isub, 1) := by decide +kernel
theorem dX9_toneHere_10 : decode cX9_toneHere 10 = .ok (.istore_n 1, 1) := by decide +kernel
theorem dX9_toneHere_11 : decode cX9_toneHere 11 = .ok (.iconst 4, 1) := by decide +kernel
theorem dX9_toneHere_12 : decode cX9_toneHere 12 = .ok (.bipush 16, 2) := by decide +kernel
theorem dX9_toneHere_14 : decode cX9_toneHere 14 = .ok (.iload_n 1, 1) := by decide +kernel
theorem dX9_toneHere_15 : decode cX9_toneHere 15 = .ok (.imul, 1) := by decide +kernel
theorem dX9_toneHere_16 : decode cX9_toneHere 16 = .ok (.aload_n 0, 1) := by decide +kernel
theorem dX9_toneHere_17 : decode cX9_toneHere 17 = .ok (.getfield 43, 3) := by decide +kernel
theorem dX9_toneHere_20 : decode cX9_toneHere 20 = .ok (.iload_n 1, 1) := by decide +kernel
theorem dX9_toneHere_21 : decode cX9_toneHere 21 = .ok (.iaload, 1) := by decide +kernel
theorem dX9_toneHere_22 : decode cX9_toneHere 22 = .ok (.iadd, 1) := by decide +kernel
theorem dX9_toneHere_23 : decode cX9_toneHere 23 = .ok (.imul, 1) := by decide +kernel
theorem dX9_toneHere_24 : decode cX9_toneHere 24 = .ok (.istore_n 2, 1) := by decide +kernel
theorem dX9_toneHere_25 : decode cX9_toneHere 25 = .ok (.aload_n 0, 1) := by decide +kernel
theorem dX9_toneHere_26 : decode cX9_toneHere 26 = .ok (.getfield 43, 3) := by decide +kernel
theorem dX9_toneHere_29 : decode cX9_toneHere 29 = .ok (.iload_n 1, 1) := by decide +kernel
theorem dX9_toneHere_30 : decode cX9_toneHere 30 = .ok (.dup2, 1) := by decide +kernel
theorem dX9_toneHere_31 : decode cX9_toneHere 31 = .ok (.iaload, 1) := by decide +kernel
theorem dX9_toneHere_32 : decode cX9_toneHere 32 = .ok (.iconst 1, 1) := by decide +kernel
theorem dX9_toneHere_33 : decode cX9_toneHere 33 = .ok (.iadd, 1) := by decide +kernel
theorem dX9_toneHere_34 : decode cX9_toneHere 34 = .ok (.iastore, 1) := by decide +kernel
theorem dX9_toneHere_35 : decode cX9_toneHere 35 = .ok (.iload_n 2, 1) := by decide +kernel
theorem dX9_toneHere_36 : decode cX9_toneHere 36 = .ok (.ireturn, 1) := by decide +kernel
set_option maxHeartbeats 4000000 in
set_option maxRecDepth 100000 in
theorem m_X9_toneHere (l : Launch) (D : va_G) (cy : Nat → ClassId) (g : Nat → Nat) (σ : ST)  (sz : Nat) (hJ : J9 (σ 9)) (kTH : TH (σ 9)) : Met l yX9_toneHere (ww yX9_toneHere cX9_toneHere 3 (some .int)) ({ frames := 2, cells := 0, slots := 0, locals := 128 }) (va_Pc [.ref (g 60)] (pr9 D cy g σ sz)) (qi9 D cy g sz (fun r τ => Fr (fL [20]) σ τ ∧ J9 (τ 9) ∧ ((768 : Int) ≤ r.toInt ∧ r.toInt ≤ 956) ∧ (r.toInt % 4 = 0) ∧ True)) 0 0 (A9 cy g sz) := by
  refine Met.ofW (cc := cX9_toneHere) (maxL := 3) (ret := (some .int)) (by decide) rfl ?_
  intro p e s m args below meth c s₁ B hml hv
  obtain ⟨rfl, hsz, hP, hK, hD0, hC⟩ := hv
  have hx := B.exec
  have hb := B.bytes
  have hr := B.returns
  have hts := hts_g (atoms_spec (ws := ww yX9_toneHere cX9_toneHere 3 (some .int)) B.pre)
  have hown : s.vm.findClass RX9 = some m.cls := findClass_of_methodNamed B.named
  have hlocks := B.notSynchronized
  clear B
  subst hsz
  have hD := fun τ => A9_D (sz := s.heap.size) hD0 τ
  clear hD0
  have hS : va_S (A9 cy g s.heap.size) s.heap s.heap [] := va_S.rf
  have hl := lv_entry ([.ref (g 60)]) (n := 3) (Nat.le_of_ble_eq_true rfl)
  rw [lg_entry_eq]
  generalize (lg_sl ([.ref (g 60)]) ++ List.replicate (3 - (lg_sl ([.ref (g 60)])).length) Slot.unset).toArray = ls at hl ⊢
  have hl : lv_has ls 3 [(0, .ref (g 60))] := hl
  refine lv_bipush (v := 12) hx hb dX9_toneHere_0 (by decide) ?_
  refine lv_aload_n hx hb dX9_toneHere_2 rfl (lv_at hl 0 rfl) ?_
  refine lv_iconst (v := 4) hx hb dX9_toneHere_3 (by decide) ?_
  refine va_calli (va_runV (As := [.int 4]) (rest := [.int 12]) ⟨hx, hb, hml, hown, hts⟩ (m_X9_hasRead l D cy g σ (4) _ hJ (show (0 : Int) ≤ (4 : Int32).toInt ∧ (4 : Int32).toInt ≤ 4 from (by have z4 : (4 : Int32).toInt = 4 := (by decide); omega))) (cwV 1 hts (gd_V q1647 q1649 q62 q134 q1650) rfl rfl rfl (by decide +kernel) ⟨Nat.le_of_ble_eq_true rfl, Nat.le_of_ble_eq_true rfl⟩) (pv9 hP hK hD hC hS (va_recv hK hP (ci := 9) (q0 := 0) rfl rfl)) rfl rfl hl.1 rfl (lv_room (Nat.le_of_ble_eq_true rfl)) dX9_toneHere_4 ⟨Nat.le_of_ble_eq_true rfl, Nat.le_of_ble_eq_true rfl⟩) hS (fun q _ h => up9 hS q h) (up9 hS) (fun r1 σ2 tS H1 locs ht hvm hw3 hB hz1 hk1 hS => ?_)
  have hP : va_P D clz (WD9 cy g σ2) H1 := by rw [← ht]; exact hB
  clear hB hz1 hk1 hvm ht
  generalize H1 = H at hP hS ⊢
  have hw3E : σ = σ2 := (hw3.1).symm
  subst hw3E
  have b4 : (0 : Int) ≤ r1.toInt ∧ r1.toInt ≤ 60 := hw3.2.1
  have b5 : ((4 : Int32).toInt = 2 → r1.toInt = ((σ 9).2.2.1 17 22).toInt) ∧ ((4 : Int32).toInt = 3 → r1.toInt = ((σ 9).2.2.1 17 23).toInt) ∧ ((4 : Int32).toInt = 4 → r1.toInt = ((σ 9).2.2.1 17 24).toInt) := hw3.2.2.1
  have b5c := b5.2.2 (by decide)
  refine lv_iadd hx hb dX9_toneHere_7 ?_
  refine lv_topi (fun x6 ex6 => ?_)
  have t7 := addO ex6 (by have f0 := b4; have f1 := b5c; have f2 := h17_4 hJ (j := 24) (by decide); have f3 := kTH.1; have g0 := rg32 r1; have z12 : (12 : Int32).toInt = 12 := (by decide); omega)
  refine lv_iconst (v := 1) hx hb dX9_toneHere_8 (by decide) ?_
  refine lv_isub hx hb dX9_toneHere_9 ?_
  refine lv_topi (fun x8 ex8 => ?_)
  have t9 := subO ex8 (by have f0 := t7; have f1 := b4; have f2 := b5c; have f3 := h17_4 hJ (j := 24) (by decide); have f4 := kTH.1; have g0 := rg32 x6; have z1 : (1 : Int32).toInt = 1 := (by decide); have z12 : (12 : Int32).toInt = 12 := (by decide); omega)
  refine lv_istore_n (lv' := [(1, .int x8), (0, .ref (g 60))]) hx hb dX9_toneHere_10 rfl hl (by decide) rfl (fun ls hl => ?_)
  refine lv_iconst (v := 4) hx hb dX9_toneHere_11 (by decide) ?_
  refine lv_bipush (v := 16) hx hb dX9_toneHere_12 (by decide) ?_
  refine lv_iload_n hx hb dX9_toneHere_14 rfl (lv_at hl 0 rfl) ?_
  refine lv_imul hx hb dX9_toneHere_15 ?_
  refine lv_topi (fun x10 ex10 => ?_)
  have t11 := mulC' (n := 16) ex10 (by decide) (by have f0 := t9; have f1 := t7; have f2 := b4; have f3 := b5c; have f4 := h17_4 hJ (j := 24) (by decide); have f5 := kTH.1; have g0 := rg32 x8; have z1 : (1 : Int32).toInt = 1 := (by decide); have z12 : (12 : Int32).toInt = 12 := (by decide); omega)
  refine lv_aload_n hx hb dX9_toneHere_16 rfl (lv_at hl 1 rfl) ?_
  refine g9_20 hx hb hts hown hK hP (hts _ q1380) dX9_toneHere_17 ?_
  refine lv_iload_n hx hb dX9_toneHere_20 rfl (lv_at hl 0 rfl) ?_
  obtain ⟨x12, ex12⟩ : ∃ z, (σ 9).2.2.1 20 x8.toInt.toNat = z := ⟨_, rfl⟩
  refine l9_20 (x := x12) hx hb hK hP (vpo (by have f0 := t9; have f1 := t11; have f2 := t7; have f3 := b4; have f4 := b5c; have f5 := h17_4 hJ (j := 24) (by decide); have f6 := kTH.1; have g0 := rg32 x8; have z1 : (1 : Int32).toInt = 1 := (by decide); have z12 : (12 : Int32).toInt = 12 := (by decide); omega)) ex12 dX9_toneHere_21 ?_
  have t13 := a9_20 hJ ex12
  have t14 : x12.toInt ≤ 15 := by rw [← ex12, show x8.toInt.toNat = 11 + ((σ 9).2.2.1 17 24).toInt.toNat from (by have f0 := h17_4 hJ (j := 24) (by decide); have f1 := kTH.1; have f2 := b5c; have f3 := t7; have f4 := t9; have f5 := t11; have f6 := t13; have f7 := b4; have g1 := rg32 x8; have z1 : (1 : Int32).toInt = 1 := (by decide); have z12 : (12 : Int32).toInt = 12 := (by decide); omega)]; exact kTH.2
  refine lv_iadd hx hb dX9_toneHere_22 ?_
  refine lv_topi (fun x15 ex15 => ?_)
  have t16 := addO ex15 (by have f0 := t11; have f1 := t13; have f2 := t14; have f3 := t9; have f4 := t7; have f5 := b4; have f6 := b5c; have f7 := h17_4 hJ (j := 24) (by decide); have f8 := kTH.1; have g0 := rg32 x10; have g1 := rg32 x12; have z1 : (1 : Int32).toInt = 1 := (by decide); have z12 : (12 : Int32).toInt = 12 := (by decide); omega)
  refine lv_imul hx hb dX9_toneHere_23 ?_
  refine lv_topi (fun x17 ex17 => ?_)
  have t18 := mulC' (n := 4) ex17 (by decide) (by have f0 := t16; have f1 := t11; have f2 := t13; have f3 := t14; have f4 := t9; have f5 := t7; have f6 := b4; have f7 := b5c; have f8 := h17_4 hJ (j := 24) (by decide); have f9 := kTH.1; have g0 := rg32 x15; have z1 : (1 : Int32).toInt = 1 := (by decide); have z12 : (12 : Int32).toInt = 12 := (by decide); omega)
  refine lv_istore_n (lv' := [(2, .int x17), (1, .int x8), (0, .ref (g 60))]) hx hb dX9_toneHere_24 rfl hl (by decide) rfl (fun ls hl => ?_)
  refine lv_aload_n hx hb dX9_toneHere_25 rfl (lv_at hl 2 rfl) ?_
  refine g9_20 hx hb hts hown hK hP (hts _ q1380) dX9_toneHere_26 ?_
  refine lv_iload_n hx hb dX9_toneHere_29 rfl (lv_at hl 1 rfl) ?_
  refine lv_dup2_11 hx hb dX9_toneHere_30 rfl rfl ?_
  refine l9_20 (x := x12) hx hb hK hP (vpo (by have f0 := t9; have f1 := t11; have f2 := t13; have f3 := t14; have f4 := t16; have f5 := t18; have f6 := t7; have f7 := b4; have f8 := b5c; have f9 := h17_4 hJ (j := 24) (by decide); have f10 := kTH.1; have g0 := rg32 x8; have z1 : (1 : Int32).toInt = 1 := (by decide); have z12 : (12 : Int32).toInt = 12 := (by decide); omega)) ex12 dX9_toneHere_31 ?_
  refine lv_iconst (v := 1) hx hb dX9_toneHere_32 (by decide) ?_
  refine lv_iadd hx hb dX9_toneHere_33 ?_
  refine lv_topi (fun x19 ex19 => ?_)
  have t20 := addO ex19 (by have f0 := t13; have f1 := t14; have f2 := t16; have f3 := t18; have f4 := t9; have f5 := t11; have f6 := t7; have f7 := b4; have f8 := b5c; have f9 := h17_4 hJ (j := 24) (by decide); have f10 := kTH.1; have g0 := rg32 x12; have z1 : (1 : Int32).toInt = 1 := (by decide); have z12 : (12 : Int32).toInt = 12 := (by decide); omega)
  refine t9_20 hx hb hK hP hD hS (vpo (by have f0 := t9; have f1 := t11; have f2 := t13; have f3 := t14; have f4 := t16; have f5 := t18; have f6 := t20; have f7 := t7; have f8 := b4; have f9 := b5c; have f10 := h17_4 hJ (j := 24) (by decide); have f11 := kTH.1; have g0 := rg32 x8; have z1 : (1 : Int32).toInt = 1 := (by decide); have z12 : (12 : Int32).toInt = 12 := (by decide); omega)) dX9_toneHere_34 (fun H locs σ21 eσ21 hP hS => ?_)
  have hJ22 : J9 (σ21 9) := hJ.A eσ21 (show PA9 20 x8.toInt.toNat x19 from (by have f0 := t9; have f1 := t11; have f2 := t13; have f3 := t14; have f4 := t16; have f5 := t18; have f6 := t20; have f7 := t7; have f8 := b4; have f9 := b5c; have f10 := h17_4 hJ (j := 24) (by decide); have f11 := kTH.1; have g0 := rg32 x19; have g1 := rg32 x8; have z1 : (1 : Int32).toInt = 1 := (by decide); have z12 : (12 : Int32).toInt = 12 := (by decide); exact ⟨by omega, by omega⟩))
  refine lv_iload_n hx hb dX9_toneHere_35 rfl (lv_at hl 0 rfl) ?_
  exact W.iret (v := x17) hx hb hr (fun tS ht hW => ⟨⟨x17, σ21, rfl, ⟨Fr.tr (Fr.rf) (sA_f eσ21) (fN_L rfl), hJ22, (show (768 : Int) ≤ x17.toInt ∧ x17.toInt ≤ 956 from (by have f0 := t18; have f1 := t16; have f2 := t20; have f3 := t11; have f4 := t13; have f5 := t14; have f6 := t9; have f7 := t7; have f8 := b4; have f9 := b5c; have f10 := h17_4 hJ (j := 24) (by decide); have f11 := kTH.1; have g0 := rg32 x17; have z1 : (1 : Int32).toInt = 1 := (by decide); have z12 : (12 : Int32).toInt = 12 := (by decide); omega)), (show x17.toInt % 4 = 0 from (by have f0 := t18; have f1 := t16; have f2 := t20; have f3 := t11; have f4 := t13; have f5 := t14; have f6 := t9; have f7 := t7; have f8 := b4; have f9 := b5c; have f10 := h17_4 hJ (j := 24) (by decide); have f11 := kTH.1; have g0 := rg32 x17; have z1 : (1 : Int32).toInt = 1 := (by decide); have z12 : (12 : Int32).toInt = 12 := (by decide); omega)), trivial⟩, (show va_P D clz (WD9 cy g σ21) tS.heap by rw [ht]; exact hP)⟩, hS.F ht⟩) hS.2.2 dX9_toneHere_36

theorem q1670 : Cond.code yX9_toneLine cX9_toneLine 2 none ∈ lw_g := lw_gm (List.mem_of_getElem? (i := 1670) (by decide +kernel)) rfl
theorem q1671 : Cond.methodLink RX9 234 yX9_toneHere ∈ lw_g := lw_gm (List.mem_of_getElem? (i := 1671) (by decide +kernel)) rfl
theorem q1673 : Cond.instanceMethod yX9_toneHere ∈ lw_g := lw_gm (List.mem_of_getElem? (i := 1673) (by decide +kernel)) rfl
theorem q66 : Cond.selects RX9 yX9_toneHere yX9_toneHere ∈ lw_g := lw_gm (List.mem_of_getElem? (i := 66) (by decide +kernel)) rfl
theorem q1675 : Cond.constantLong RX9 238 (4797) ∈ lw_g := lw_gm (List.mem_of_getElem? (i := 1675) (by decide +kernel)) rfl
theorem q1676 : Cond.constantLong RX9 240 (7544703991) ∈ lw_g := lw_gm (List.mem_of_getElem? (i := 1676) (by decide +kernel)) rfl
theorem q1677 : Cond.constantLong RX9 242 (38363444) ∈ lw_g := lw_gm (List.mem_of_getElem? (i := 1677) (by decide +kernel)) rfl
theorem dX9_toneLine_0 : decode cX9_toneLine 0 = .ok (.aload_n 0, 1) := by decide +kernel
theorem dX9_toneLine_1 : decode cX9_toneLine 1 = .ok (.invokevirtual 234, 3) := by decide +kernel
theorem dX9_toneLine_4 : decode cX9_toneLine 4 = .ok (.istore_n 1, 1) := by decide +kernel
theorem dX9_toneLine_5 : decode cX9_toneLine 5 = .ok (.aload_n 0, 1) := by decide +kernel
theorem dX9_toneLine_6 : decode cX9_toneLine 6 = .ok (.getfield 46, 3) := by decide +kernel
theorem dX9_toneLine_9 : decode cX9_toneLine 9 = .ok (.iload_n 1, 1) := by decide +kernel
theorem dX9_toneLine_10 : decode cX9_toneLine 10 = .ok (.aload_n 0, 1) := by decide +kernel
theorem dX9_toneLine_11 : decode cX9_toneLine 11 = .ok (.iconst 0, 1) := by decide +kernel
theorem dX9_toneLine_12 : decode cX9_toneLine 12 = .ok (.bipush 60, 2) := by decide +kernel
theorem dX9_toneLine_14 : decode cX9_toneLine 14 = .ok (.invokevirtual 204, 3) := by decide +kernel
theorem dX9_toneLine_17 : decode cX9_toneLine 17 = .ok (.iastore, 1) := by decide +kernel
theorem dX9_toneLine_18 : decode cX9_toneLine 18 = .ok (.aload_n 0, 1) := by decide +kernel
theorem dX9_toneLine_19 : decode cX9_toneLine 19 = .ok (.getfield 46, 3) := by decide +kernel
theorem dX9_toneLine_22 : decode cX9_toneLine 22 = .ok (.iload_n 1, 1) := by decide +kernel
theorem dX9_toneLine_23 : decode cX9_toneLine 23 = .ok (.iconst 1, 1) := by decide +kernel
theorem dX9_toneLine_24 : decode cX9_toneLine 24 = .ok (.iadd, 1) := by decide +kernel
theorem dX9_toneLine_25 : decode cX9_toneLine 25 = .ok (.aload_n 0, 1) := by decide +kernel
theorem dX9_toneLine_26 : decode cX9_toneLine 26 = .ok (.ldc2_w 238, 3) := by decide +kernel
theorem dX9_toneLine_29 : decode cX9_toneLine 29 = .ok (.iconst 1, 1) := by decide +kernel
theorem dX9_toneLine_30 : decode cX9_toneLine 30 = .ok (.bipush 9, 2) := by decide +kernel
theorem dX9_toneLine_32 : decode cX9_toneLine 32 = .ok (.invokevirtual 217, 3) := by decide +kernel
theorem dX9_toneLine_35 : decode cX9_toneLine 35 = .ok (.iastore, 1) := by decide +kernel
theorem dX9_toneLine_36 : decode cX9_toneLine 36 = .ok (.aload_n 0, 1) := by decide +kernel
theorem dX9_toneLine_37 : decode cX9_toneLine 37 = .ok (.getfield 46, 3) := by decide +kernel
theorem dX9_toneLine_40 : decode cX9_toneLine 40 = .ok (.iload_n 1, 1) := by decide +kernel
theorem dX9_toneLine_41 : decode cX9_toneLine 41 = .ok (.iconst 2, 1) := by decide +kernel
theorem dX9_toneLine_42 : decode cX9_toneLine 42 = .ok (.iadd, 1) := by decide +kernel
theorem dX9_toneLine_43 : decode cX9_toneLine 43 = .ok (.aload_n 0, 1) := by decide +kernel
theorem dX9_toneLine_44 : decode cX9_toneLine 44 = .ok (.ldc2_w 240, 3) := by decide +kernel
theorem dX9_toneLine_47 : decode cX9_toneLine 47 = .ok (.invokevirtual 194, 3) := by decide +kernel
theorem dX9_toneLine_50 : decode cX9_toneLine 50 = .ok (.ifCond .eq 7, 3) := by decide +kernel
theorem dX9_toneLine_53 : decode cX9_toneLine 53 = .ok (.iconst 1, 1) := by decide +kernel
theorem dX9_toneLine_54 : decode cX9_toneLine 54 = .ok (.goto 4, 3) := by decide +kernel
theorem dX9_toneLine_57 : decode cX9_toneLine 57 = .ok (.iconst 0, 1) := by decide +kernel
theorem dX9_toneLine_58 : decode cX9_toneLine 58 = .ok (.iastore, 1) := by decide +kernel
theorem dX9_toneLine_59 : decode cX9_toneLine 59 = .ok (.aload_n 0, 1) := by decide +kernel
theorem dX9_toneLine_60 : decode cX9_toneLine 60 = .ok (.getfield 46, 3) := by decide +kernel
theorem dX9_toneLine_63 : decode cX9_toneLine 63 = .ok (.iload_n 1, 1) := by decide +kernel
theorem dX9_toneLine_64 : decode cX9_toneLine 64 = .ok (.iconst 3, 1) := by decide +kernel
theorem dX9_toneLine_65 : decode cX9_toneLine 65 = .ok (.iadd, 1) := by decide +kernel
theorem dX9_toneLine_66 : decode cX9_toneLine 66 = .ok (.aload_n 0, 1) := by decide +kernel
theorem dX9_toneLine_67 : decode cX9_toneLine 67 = .ok (.ldc2_w 242, 3) := by decide +kernel
theorem dX9_toneLine_70 : decode cX9_toneLine 70 = .ok (.invokevirtual 194, 3) := by decide +kernel
theorem dX9_toneLine_73 : decode cX9_toneLine 73 = .ok (.ifCond .eq 7, 3) := by decide +kernel
theorem dX9_toneLine_76 : decode cX9_toneLine 76 = .ok (.iconst 1, 1) := by decide +kernel
theorem dX9_toneLine_77 : decode cX9_toneLine 77 = .ok (.goto 4, 3) := by decide +kernel
theorem dX9_toneLine_80 : decode cX9_toneLine 80 = .ok (.iconst 0, 1) := by decide +kernel
theorem dX9_toneLine_81 : decode cX9_toneLine 81 = .ok (.iastore, 1) := by decide +kernel
theorem dX9_toneLine_82 : decode cX9_toneLine 82 = .ok (.return_, 1) := by decide +kernel
set_option maxHeartbeats 4000000 in
set_option maxRecDepth 100000 in
theorem m_X9_toneLine (l : Launch) (D : va_G) (cy : Nat → ClassId) (g : Nat → Nat) (σ : ST)  (sz : Nat) (hJ : J9 (σ 9)) (kTH : TH (σ 9)) (kRD : RD (σ 9)) (kDKA : DKA (σ 9)) (h0 : ((σ 9).1 7).toInt ≤ ((σ 9).1 6).toInt) : Met l yX9_toneLine (ww yX9_toneLine cX9_toneLine 2 none) ({ frames := 6, cells := 0, slots := 0, locals := 384 }) (va_Pc [.ref (g 60)] (pr9 D cy g σ sz)) (qv9 D cy g sz (fun τ => Fr (fL [7, 8, 9, 10, 11, 12, 13, 20, 21]) σ τ ∧ J9 (τ 9) ∧ RD (τ 9) ∧ DKA (τ 9) ∧ (((σ 9).1 7).toInt ≤ ((τ 9).1 7).toInt ∧ ((τ 9).1 7).toInt ≤ ((τ 9).1 6).toInt) ∧ (ph ((σ 9).1 7) ((σ 9).1 8) ≤ ph ((τ 9).1 7) ((τ 9).1 8)) ∧ (¬ ((τ 9).1 12).toInt = 0 ∨ ((σ 9).1 12).toInt = 0) ∧ True)) 0 0 (A9 cy g sz) := by
  refine Met.ofW (cc := cX9_toneLine) (maxL := 2) (ret := none) (by decide) rfl ?_
  intro p e s m args below meth c s₁ B hml hv
  obtain ⟨rfl, hsz, hP, hK, hD0, hC⟩ := hv
  have hx := B.exec
  have hb := B.bytes
  have hr := B.returns
  have hts := hts_g (atoms_spec (ws := ww yX9_toneLine cX9_toneLine 2 none) B.pre)
  have hown : s.vm.findClass RX9 = some m.cls := findClass_of_methodNamed B.named
  have hlocks := B.notSynchronized
  clear B
  subst hsz
  have hD := fun τ => A9_D (sz := s.heap.size) hD0 τ
  clear hD0
  have hS : va_S (A9 cy g s.heap.size) s.heap s.heap [] := va_S.rf
  have hl := lv_entry ([.ref (g 60)]) (n := 2) (Nat.le_of_ble_eq_true rfl)
  rw [lg_entry_eq]
  generalize (lg_sl ([.ref (g 60)]) ++ List.replicate (2 - (lg_sl ([.ref (g 60)])).length) Slot.unset).toArray = ls at hl ⊢
  have hl : lv_has ls 2 [(0, .ref (g 60))] := hl
  refine lv_aload_n hx hb dX9_toneLine_0 rfl (lv_at hl 0 rfl) ?_
  refine va_calli (va_runV (As := []) (rest := []) ⟨hx, hb, hml, hown, hts⟩ (m_X9_toneHere l D cy g σ  _ hJ kTH) (cwV 0 hts (gd_V q1671 q1673 q66 q134 q1674) rfl rfl rfl (by decide +kernel) ⟨Nat.le_of_ble_eq_true rfl, Nat.le_of_ble_eq_true rfl⟩) (pv9 hP hK hD hC hS (va_recv hK hP (ci := 9) (q0 := 0) rfl rfl)) rfl rfl hl.1 rfl (lv_room (Nat.le_of_ble_eq_true rfl)) dX9_toneLine_1 ⟨Nat.le_of_ble_eq_true rfl, Nat.le_of_ble_eq_true rfl⟩) hS (fun q _ h => up9 hS q h) (up9 hS) (fun r1 σ2 tS H1 locs ht hvm hw3 hB hz1 hk1 hS => ?_)
  have hP : va_P D clz (WD9 cy g σ2) H1 := by rw [← ht]; exact hB
  clear hB hz1 hk1 hvm ht
  generalize H1 = H at hP hS ⊢
  have hF4 : Fr (fL [20]) σ σ2 := hw3.1
  have hJ5 : J9 (σ2 9) := hw3.2.1
  have b6 : (768 : Int) ≤ r1.toInt ∧ r1.toInt ≤ 956 := hw3.2.2.1
  have b7 : r1.toInt % 4 = 0 := hw3.2.2.2.1
  have T9 : RD (σ2 9) := RD.mv kRD (hF4 9 12 rfl).1 (hF4 9 17 rfl).2.2.1 (hF4 9 18 rfl).2.2.1 (hF4 9 19 rfl).2.2.1
  have T10 : DKA (σ2 9) := DKA.mv kDKA (hF4 9 17 rfl).2.2.1 (hF4 9 18 rfl).2.2.1 (hF4 9 19 rfl).2.2.1
  refine lv_istore_n (lv' := [(1, .int r1), (0, .ref (g 60))]) hx hb dX9_toneLine_4 rfl hl (by decide) rfl (fun ls hl => ?_)
  refine lv_aload_n hx hb dX9_toneLine_5 rfl (lv_at hl 1 rfl) ?_
  refine g9_21 hx hb hts hown hK hP (hts _ q1381) dX9_toneLine_6 ?_
  refine lv_iload_n hx hb dX9_toneLine_9 rfl (lv_at hl 0 rfl) ?_
  refine lv_aload_n hx hb dX9_toneLine_10 rfl (lv_at hl 1 rfl) ?_
  refine lv_iconst (v := 0) hx hb dX9_toneLine_11 (by decide) ?_
  refine lv_bipush (v := 60) hx hb dX9_toneLine_12 (by decide) ?_
  refine va_calli (va_runV (As := [.int 0, .int 60]) (rest := [.int r1, .ref (g 21)]) ⟨hx, hb, hml, hown, hts⟩ (m_X9_number l D cy g σ2 (0) (60) _ hJ5 (show ((σ2 9).1 7).toInt ≤ ((σ2 9).1 6).toInt from (by have f0 := j9_6 hJ5 rfl; have f1 := congrArg Int32.toInt (show ((σ2 9).1 6) = ((σ 9).1 6) from (hF4 9 6 rfl).1); have f2 := j9_7 hJ5 rfl; have f3 := congrArg Int32.toInt (show ((σ2 9).1 7) = ((σ 9).1 7) from (hF4 9 7 rfl).1); have f4 := j9_6 hJ rfl; have f5 := j9_7 hJ rfl; have f6 := h0; omega))) (cwV 2 hts (gd_V q1631 q1633 q60 q134 q1634) rfl rfl rfl (by decide +kernel) ⟨Nat.le_of_ble_eq_true rfl, Nat.le_of_ble_eq_true rfl⟩) (pv9 hP hK hD hC hS (va_recv hK hP (ci := 9) (q0 := 0) rfl rfl)) rfl rfl hl.1 rfl (lv_room (Nat.le_of_ble_eq_true rfl)) dX9_toneLine_14 ⟨Nat.le_of_ble_eq_true rfl, Nat.le_of_ble_eq_true rfl⟩) hS (fun q _ h => up9 hS q h) (up9 hS) (fun r11 σ12 tS H1 locs ht hvm hw13 hB hz1 hk1 hS => ?_)
  have hP : va_P D clz (WD9 cy g σ12) H1 := by rw [← ht]; exact hB
  clear hB hz1 hk1 hvm ht
  generalize H1 = H at hP hS ⊢
  have hF14 : Fr (fL [7, 8, 9, 10, 11, 12, 13]) σ2 σ12 := hw13.1
  have hJ15 : J9 (σ12 9) := hw13.2.1
  have b16 : ((σ2 9).1 7).toInt ≤ ((σ12 9).1 7).toInt ∧ ((σ12 9).1 7).toInt ≤ ((σ12 9).1 6).toInt := hw13.2.2.1
  have b17 : ph ((σ2 9).1 7) ((σ2 9).1 8) ≤ ph ((σ12 9).1 7) ((σ12 9).1 8) := hw13.2.2.2.1
  have b18 : (0 : Int32).toInt ≤ r11.toInt ∧ (r11.toInt ≤ (60 : Int32).toInt ∨ r11.toInt = (0 : Int32).toInt) := hw13.2.2.2.2.1
  have b19 : ¬ ((σ12 9).1 12).toInt = 0 ∨ (((σ2 9).1 12).toInt = 0 ∧ r11.toInt ≤ (60 : Int32).toInt) := hw13.2.2.2.2.2.1
  have T20 : RD (σ12 9) := RD.call T9 (by have f0 := congrArg Int32.toInt (show ((σ2 9).1 12) = ((σ 9).1 12) from (hF4 9 12 rfl).1); have f1 := b19; have g3 := rg32 r11; have z60 : (60 : Int32).toInt = 60 := (by decide); omega) (hF14 9 17 rfl).2.2.1 (hF14 9 18 rfl).2.2.1 (hF14 9 19 rfl).2.2.1
  have T21 : DKA (σ12 9) := DKA.mv T10 (hF14 9 17 rfl).2.2.1 (hF14 9 18 rfl).2.2.1 (hF14 9 19 rfl).2.2.1
  refine t9_21 hx hb hK hP hD hS (vpo (by have f0 := b6; have f1 := b7; have g0 := rg32 r1; omega)) dX9_toneLine_17 (fun H locs σ22 eσ22 hP hS => ?_)
  have hJ23 : J9 (σ22 9) := hJ15.A eσ22 (show PA9 21 r1.toInt.toNat r11 from (by have f0 := b6; have f1 := b7; have f2 := b18; have f3 := b19; have f4 := congrArg Int32.toInt (show ((σ2 9).1 12) = ((σ 9).1 12) from (hF4 9 12 rfl).1); have g3 := rg32 r1; have g4 := rg32 r11; have z0 : (0 : Int32).toInt = 0 := (by decide); have z60 : (60 : Int32).toInt = 60 := (by decide); exact ⟨by omega, by omega, by omega⟩))
  have T24 : RD (σ22 9) := RD.mv T20 ((sA_f eσ22) 9 12 rfl).1 ((sA_f eσ22) 9 17 rfl).2.2.1 ((sA_f eσ22) 9 18 rfl).2.2.1 ((sA_f eσ22) 9 19 rfl).2.2.1
  have T25 : DKA (σ22 9) := DKA.mv T21 ((sA_f eσ22) 9 17 rfl).2.2.1 ((sA_f eσ22) 9 18 rfl).2.2.1 ((sA_f eσ22) 9 19 rfl).2.2.1
  refine lv_aload_n hx hb dX9_toneLine_18 rfl (lv_at hl 1 rfl) ?_
  refine g9_21 hx hb hts hown hK hP (hts _ q1381) dX9_toneLine_19 ?_
  refine lv_iload_n hx hb dX9_toneLine_22 rfl (lv_at hl 0 rfl) ?_
  refine lv_iconst (v := 1) hx hb dX9_toneLine_23 (by decide) ?_
  refine lv_iadd hx hb dX9_toneLine_24 ?_
  refine lv_topi (fun x26 ex26 => ?_)
  have t27 := addO ex26 (by have f0 := b6; have f1 := b7; have g0 := rg32 r1; have z1 : (1 : Int32).toInt = 1 := (by decide); omega)
  refine lv_aload_n hx hb dX9_toneLine_25 rfl (lv_at hl 1 rfl) ?_
  refine lv_ldc2 (v := 4797) hx hb hown (hts _ q1675) dX9_toneLine_26 ?_
  refine lv_iconst (v := 1) hx hb dX9_toneLine_29 (by decide) ?_
  refine lv_bipush (v := 9) hx hb dX9_toneLine_30 (by decide) ?_
  refine va_calli (va_runV (As := [.long 4797, .int 1, .int 9]) (rest := [.int x26, .ref (g 21)]) ⟨hx, hb, hml, hown, hts⟩ (m_X9_number_ l D cy g σ22 (4797) (1) (9) _ hJ23 (show ((σ22 9).1 7).toInt ≤ ((σ22 9).1 6).toInt from (by have f0 := j9_7 hJ23 rfl; have f1 := congrArg Int32.toInt (show ((σ22 9).1 7) = ((σ12 9).1 7) from ((sA_f eσ22) 9 7 rfl).1); have f2 := j9_6 hJ23 rfl; have f3 := congrArg Int32.toInt (show ((σ22 9).1 6) = ((σ 9).1 6) from (((sA_f eσ22) 9 6 rfl).1).trans (((hF14 9 6 rfl).1).trans ((hF4 9 6 rfl).1))); have f4 := j9_6 hJ rfl; have f5 := j9_7 hJ15 rfl; have f6 := h0; have f7 := j9_7 hJ rfl; have f8 := b16; have f9 := j9_6 hJ15 rfl; have f10 := congrArg Int32.toInt (show ((σ12 9).1 6) = ((σ 9).1 6) from ((hF14 9 6 rfl).1).trans ((hF4 9 6 rfl).1)); have f11 := j9_7 hJ5 rfl; have f12 := congrArg Int32.toInt (show ((σ2 9).1 7) = ((σ 9).1 7) from (hF4 9 7 rfl).1); omega))) (cwV 3 hts (gd_V q1627 q1629 q59 q134 q1630) rfl rfl rfl (by decide +kernel) ⟨Nat.le_of_ble_eq_true rfl, Nat.le_of_ble_eq_true rfl⟩) (pv9 hP hK hD hC hS (va_recv hK hP (ci := 9) (q0 := 0) rfl rfl)) rfl rfl hl.1 rfl (lv_room (Nat.le_of_ble_eq_true rfl)) dX9_toneLine_32 ⟨Nat.le_of_ble_eq_true rfl, Nat.le_of_ble_eq_true rfl⟩) hS (fun q _ h => up9 hS q h) (up9 hS) (fun r28 σ29 tS H1 locs ht hvm hw30 hB hz1 hk1 hS => ?_)
  have hP : va_P D clz (WD9 cy g σ29) H1 := by rw [← ht]; exact hB
  clear hB hz1 hk1 hvm ht
  generalize H1 = H at hP hS ⊢
  have hF31 : Fr (fL [7, 8, 9, 10, 11, 12, 13]) σ22 σ29 := hw30.1
  have hJ32 : J9 (σ29 9) := hw30.2.1
  have b33 : ((σ22 9).1 7).toInt ≤ ((σ29 9).1 7).toInt ∧ ((σ29 9).1 7).toInt ≤ ((σ29 9).1 6).toInt := hw30.2.2.1
  have b34 : ph ((σ22 9).1 7) ((σ22 9).1 8) ≤ ph ((σ29 9).1 7) ((σ29 9).1 8) := hw30.2.2.2.1
  have b35 : (1 : Int32).toInt ≤ r28.toInt ∧ (r28.toInt ≤ (9 : Int32).toInt ∨ r28.toInt = (1 : Int32).toInt) := hw30.2.2.2.2.1
  have b36 : ¬ ((σ29 9).1 12).toInt = 0 ∨ (((σ22 9).1 12).toInt = 0 ∧ r28.toInt ≤ (9 : Int32).toInt) := hw30.2.2.2.2.2.1
  have T37 : RD (σ29 9) := RD.call T24 (by have f0 := congrArg Int32.toInt (show ((σ22 9).1 12) = ((σ12 9).1 12) from ((sA_f eσ22) 9 12 rfl).1); have f1 := b19; have f2 := congrArg Int32.toInt (show ((σ2 9).1 12) = ((σ 9).1 12) from (hF4 9 12 rfl).1); have f3 := b36; have g5 := rg32 r28; have z9 : (9 : Int32).toInt = 9 := (by decide); have z60 : (60 : Int32).toInt = 60 := (by decide); omega) (hF31 9 17 rfl).2.2.1 (hF31 9 18 rfl).2.2.1 (hF31 9 19 rfl).2.2.1
  have T38 : DKA (σ29 9) := DKA.mv T25 (hF31 9 17 rfl).2.2.1 (hF31 9 18 rfl).2.2.1 (hF31 9 19 rfl).2.2.1
  refine t9_21 hx hb hK hP hD hS (vpo (by have f0 := t27; have f1 := b6; have f2 := b7; have g0 := rg32 x26; have z1 : (1 : Int32).toInt = 1 := (by decide); omega)) dX9_toneLine_35 (fun H locs σ39 eσ39 hP hS => ?_)
  have hJ40 : J9 (σ39 9) := hJ32.A eσ39 (show PA9 21 x26.toInt.toNat r28 from (by have f0 := t27; have f1 := b6; have f2 := b7; have f3 := b35; have f4 := b36; have f5 := congrArg Int32.toInt (show ((σ22 9).1 12) = ((σ12 9).1 12) from ((sA_f eσ22) 9 12 rfl).1); have g3 := rg32 r28; have g4 := rg32 x26; have z1 : (1 : Int32).toInt = 1 := (by decide); have z9 : (9 : Int32).toInt = 9 := (by decide); exact ⟨by omega, by omega, by omega⟩))
  have T41 : RD (σ39 9) := RD.mv T37 ((sA_f eσ39) 9 12 rfl).1 ((sA_f eσ39) 9 17 rfl).2.2.1 ((sA_f eσ39) 9 18 rfl).2.2.1 ((sA_f eσ39) 9 19 rfl).2.2.1
  have T42 : DKA (σ39 9) := DKA.mv T38 ((sA_f eσ39) 9 17 rfl).2.2.1 ((sA_f eσ39) 9 18 rfl).2.2.1 ((sA_f eσ39) 9 19 rfl).2.2.1
  refine lv_aload_n hx hb dX9_toneLine_36 rfl (lv_at hl 1 rfl) ?_
  refine g9_21 hx hb hts hown hK hP (hts _ q1381) dX9_toneLine_37 ?_
  refine lv_iload_n hx hb dX9_toneLine_40 rfl (lv_at hl 0 rfl) ?_
  refine lv_iconst (v := 2) hx hb dX9_toneLine_41 (by decide) ?_
  refine lv_iadd hx hb dX9_toneLine_42 ?_
  refine lv_topi (fun x43 ex43 => ?_)
  have t44 := addO ex43 (by have f0 := b6; have f1 := b7; have f2 := t27; have g0 := rg32 r1; have z1 : (1 : Int32).toInt = 1 := (by decide); have z2 : (2 : Int32).toInt = 2 := (by decide); omega)
  refine lv_aload_n hx hb dX9_toneLine_43 rfl (lv_at hl 1 rfl) ?_
  refine lv_ldc2 (v := 7544703991) hx hb hown (hts _ q1676) dX9_toneLine_44 ?_
  refine va_calli (va_runV (As := [.long 7544703991]) (rest := [.int x43, .ref (g 21)]) ⟨hx, hb, hml, hown, hts⟩ (m_X9_takes l D cy g σ39 (7544703991) _ hJ40 (show ((σ39 9).1 7).toInt ≤ ((σ39 9).1 6).toInt from (by have f0 := j9_7 hJ40 rfl; have f1 := congrArg Int32.toInt (show ((σ39 9).1 7) = ((σ29 9).1 7) from ((sA_f eσ39) 9 7 rfl).1); have f2 := j9_6 hJ40 rfl; have f3 := congrArg Int32.toInt (show ((σ39 9).1 6) = ((σ 9).1 6) from (((sA_f eσ39) 9 6 rfl).1).trans (((hF31 9 6 rfl).1).trans ((((sA_f eσ22) 9 6 rfl).1).trans (((hF14 9 6 rfl).1).trans ((hF4 9 6 rfl).1))))); have f4 := j9_6 hJ rfl; have f5 := j9_7 hJ32 rfl; have f6 := h0; have f7 := j9_7 hJ rfl; have f8 := b16; have f9 := j9_6 hJ15 rfl; have f10 := congrArg Int32.toInt (show ((σ12 9).1 6) = ((σ 9).1 6) from ((hF14 9 6 rfl).1).trans ((hF4 9 6 rfl).1)); have f11 := j9_7 hJ5 rfl; have f12 := congrArg Int32.toInt (show ((σ2 9).1 7) = ((σ 9).1 7) from (hF4 9 7 rfl).1); have f13 := j9_7 hJ15 rfl; have f14 := b33; have f15 := j9_7 hJ23 rfl; have f16 := congrArg Int32.toInt (show ((σ22 9).1 7) = ((σ12 9).1 7) from ((sA_f eσ22) 9 7 rfl).1); have f17 := j9_6 hJ32 rfl; have f18 := congrArg Int32.toInt (show ((σ29 9).1 6) = ((σ 9).1 6) from ((hF31 9 6 rfl).1).trans ((((sA_f eσ22) 9 6 rfl).1).trans (((hF14 9 6 rfl).1).trans ((hF4 9 6 rfl).1)))); omega))) (cwV 1 hts (gd_V q1614 q1616 q56 q134 q1617) rfl rfl rfl (by decide +kernel) ⟨Nat.le_of_ble_eq_true rfl, Nat.le_of_ble_eq_true rfl⟩) (pv9 hP hK hD hC hS (va_recv hK hP (ci := 9) (q0 := 0) rfl rfl)) rfl rfl hl.1 rfl (lv_room (Nat.le_of_ble_eq_true rfl)) dX9_toneLine_47 ⟨Nat.le_of_ble_eq_true rfl, Nat.le_of_ble_eq_true rfl⟩) hS (fun q _ h => up9 hS q h) (up9 hS) (fun r45 σ46 tS H1 locs ht hvm hw47 hB hz1 hk1 hS => ?_)
  have hP : va_P D clz (WD9 cy g σ46) H1 := by rw [← ht]; exact hB
  clear hB hz1 hk1 hvm ht
  generalize H1 = H at hP hS ⊢
  have hF48 : Fr (fL [7, 8, 9, 10, 11]) σ39 σ46 := hw47.1
  have hJ49 : J9 (σ46 9) := hw47.2.1
  have b50 : (0 : Int) ≤ r45.toInt ∧ r45.toInt ≤ 1 := hw47.2.2.1
  have b51 : ((σ39 9).1 7).toInt ≤ ((σ46 9).1 7).toInt ∧ ((σ46 9).1 7).toInt ≤ ((σ46 9).1 6).toInt := hw47.2.2.2.1
  have b52 : ph ((σ39 9).1 7) ((σ39 9).1 8) ≤ ph ((σ46 9).1 7) ((σ46 9).1 8) := hw47.2.2.2.2.1
  have T53 : RD (σ46 9) := RD.mv T41 (hF48 9 12 rfl).1 (hF48 9 17 rfl).2.2.1 (hF48 9 18 rfl).2.2.1 (hF48 9 19 rfl).2.2.1
  have T54 : DKA (σ46 9) := DKA.mv T42 (hF48 9 17 rfl).2.2.1 (hF48 9 18 rfl).2.2.1 (hF48 9 19 rfl).2.2.1
  refine cut9 (D := D) (cy := cy) (g := g) (A := A9 cy g s.heap.size) (H0 := s.heap) 2 58 (fun x : LZ => [(1, .int r1), (0, .ref (g 60))]) (fun x : LZ => [.int (x.2.1 0), .int x43, .ref (g 21)]) (fun x : LZ => (x.1 = σ46) ∧ ((0 : Int) ≤ (x.2.1 0).toInt ∧ (x.2.1 0).toInt ≤ 1) ∧ (RD (σ46 9)) ∧ (DKA (σ46 9)) ∧ True) ?_ ?_
  ·
    intro y57 hI56 H locs ls hP hS hl
    rw [show y57.1 = σ46 from hI56.1] at hP
    have b58 : (0 : Int) ≤ (y57.2.1 0).toInt ∧ (y57.2.1 0).toInt ≤ 1 := hI56.2.1
    have b59 : RD (σ46 9) := hI56.2.2.1
    have b60 : DKA (σ46 9) := hI56.2.2.2.1
    have hl : lv_has ls 2 [(1, .int r1), (0, .ref (g 60))] := hl
    refine W.eq (g2 := F0 m 58 ls [.int (y57.2.1 0), .int x43, .ref (g 21)]) rfl ?_
    refine t9_21 hx hb hK hP hD hS (vpo (by have f0 := t44; have f1 := b6; have f2 := b7; have f3 := t27; have g0 := rg32 x43; have z1 : (1 : Int32).toInt = 1 := (by decide); have z2 : (2 : Int32).toInt = 2 := (by decide); omega)) dX9_toneLine_58 (fun H locs σ61 eσ61 hP hS => ?_)
    have hJ62 : J9 (σ61 9) := hJ49.A eσ61 (show PA9 21 x43.toInt.toNat (y57.2.1 0) from (by have f0 := t44; have f1 := b58; have f2 := b6; have f3 := b7; have f4 := t27; have g0 := rg32 (y57.2.1 0); have g1 := rg32 x43; have z1 : (1 : Int32).toInt = 1 := (by decide); have z2 : (2 : Int32).toInt = 2 := (by decide); exact ⟨by omega, by omega, by omega⟩))
    have T63 : RD (σ61 9) := RD.mv b59 ((sA_f eσ61) 9 12 rfl).1 ((sA_f eσ61) 9 17 rfl).2.2.1 ((sA_f eσ61) 9 18 rfl).2.2.1 ((sA_f eσ61) 9 19 rfl).2.2.1
    have T64 : DKA (σ61 9) := DKA.mv b60 ((sA_f eσ61) 9 17 rfl).2.2.1 ((sA_f eσ61) 9 18 rfl).2.2.1 ((sA_f eσ61) 9 19 rfl).2.2.1
    refine lv_aload_n hx hb dX9_toneLine_59 rfl (lv_at hl 1 rfl) ?_
    refine g9_21 hx hb hts hown hK hP (hts _ q1381) dX9_toneLine_60 ?_
    refine lv_iload_n hx hb dX9_toneLine_63 rfl (lv_at hl 0 rfl) ?_
    refine lv_iconst (v := 3) hx hb dX9_toneLine_64 (by decide) ?_
    refine lv_iadd hx hb dX9_toneLine_65 ?_
    refine lv_topi (fun x65 ex65 => ?_)
    have t66 := addO ex65 (by have f0 := b6; have f1 := b7; have f2 := t27; have f3 := t44; have g0 := rg32 r1; have z1 : (1 : Int32).toInt = 1 := (by decide); have z2 : (2 : Int32).toInt = 2 := (by decide); have z3 : (3 : Int32).toInt = 3 := (by decide); omega)
    refine lv_aload_n hx hb dX9_toneLine_66 rfl (lv_at hl 1 rfl) ?_
    refine lv_ldc2 (v := 38363444) hx hb hown (hts _ q1677) dX9_toneLine_67 ?_
    refine va_calli (va_runV (As := [.long 38363444]) (rest := [.int x65, .ref (g 21)]) ⟨hx, hb, hml, hown, hts⟩ (m_X9_takes l D cy g σ61 (38363444) _ hJ62 (show ((σ61 9).1 7).toInt ≤ ((σ61 9).1 6).toInt from (by have f0 := j9_6 hJ62 rfl; have f1 := congrArg Int32.toInt (show ((σ61 9).1 6) = ((σ 9).1 6) from (((sA_f eσ61) 9 6 rfl).1).trans (((hF48 9 6 rfl).1).trans ((((sA_f eσ39) 9 6 rfl).1).trans (((hF31 9 6 rfl).1).trans ((((sA_f eσ22) 9 6 rfl).1).trans (((hF14 9 6 rfl).1).trans ((hF4 9 6 rfl).1))))))); have f2 := j9_7 hJ62 rfl; have f3 := congrArg Int32.toInt (show ((σ61 9).1 7) = ((σ46 9).1 7) from ((sA_f eσ61) 9 7 rfl).1); have f4 := j9_6 hJ rfl; have f5 := j9_7 hJ49 rfl; have f6 := h0; have f7 := j9_7 hJ rfl; have f8 := b16; have f9 := j9_6 hJ15 rfl; have f10 := congrArg Int32.toInt (show ((σ12 9).1 6) = ((σ 9).1 6) from ((hF14 9 6 rfl).1).trans ((hF4 9 6 rfl).1)); have f11 := j9_7 hJ5 rfl; have f12 := congrArg Int32.toInt (show ((σ2 9).1 7) = ((σ 9).1 7) from (hF4 9 7 rfl).1); have f13 := j9_7 hJ15 rfl; have f14 := b33; have f15 := j9_7 hJ23 rfl; have f16 := congrArg Int32.toInt (show ((σ22 9).1 7) = ((σ12 9).1 7) from ((sA_f eσ22) 9 7 rfl).1); have f17 := j9_6 hJ32 rfl; have f18 := congrArg Int32.toInt (show ((σ29 9).1 6) = ((σ 9).1 6) from ((hF31 9 6 rfl).1).trans ((((sA_f eσ22) 9 6 rfl).1).trans (((hF14 9 6 rfl).1).trans ((hF4 9 6 rfl).1)))); have f19 := j9_7 hJ32 rfl; have f20 := b51; have f21 := j9_7 hJ40 rfl; have f22 := congrArg Int32.toInt (show ((σ39 9).1 7) = ((σ29 9).1 7) from ((sA_f eσ39) 9 7 rfl).1); have f23 := j9_6 hJ49 rfl; have f24 := congrArg Int32.toInt (show ((σ46 9).1 6) = ((σ 9).1 6) from ((hF48 9 6 rfl).1).trans ((((sA_f eσ39) 9 6 rfl).1).trans (((hF31 9 6 rfl).1).trans ((((sA_f eσ22) 9 6 rfl).1).trans (((hF14 9 6 rfl).1).trans ((hF4 9 6 rfl).1)))))); omega))) (cwV 1 hts (gd_V q1614 q1616 q56 q134 q1617) rfl rfl rfl (by decide +kernel) ⟨Nat.le_of_ble_eq_true rfl, Nat.le_of_ble_eq_true rfl⟩) (pv9 hP hK hD hC hS (va_recv hK hP (ci := 9) (q0 := 0) rfl rfl)) rfl rfl hl.1 rfl (lv_room (Nat.le_of_ble_eq_true rfl)) dX9_toneLine_70 ⟨Nat.le_of_ble_eq_true rfl, Nat.le_of_ble_eq_true rfl⟩) hS (fun q _ h => up9 hS q h) (up9 hS) (fun r67 σ68 tS H1 locs ht hvm hw69 hB hz1 hk1 hS => ?_)
    have hP : va_P D clz (WD9 cy g σ68) H1 := by rw [← ht]; exact hB
    clear hB hz1 hk1 hvm ht
    generalize H1 = H at hP hS ⊢
    have hF70 : Fr (fL [7, 8, 9, 10, 11]) σ61 σ68 := hw69.1
    have hJ71 : J9 (σ68 9) := hw69.2.1
    have b72 : (0 : Int) ≤ r67.toInt ∧ r67.toInt ≤ 1 := hw69.2.2.1
    have b73 : ((σ61 9).1 7).toInt ≤ ((σ68 9).1 7).toInt ∧ ((σ68 9).1 7).toInt ≤ ((σ68 9).1 6).toInt := hw69.2.2.2.1
    have b74 : ph ((σ61 9).1 7) ((σ61 9).1 8) ≤ ph ((σ68 9).1 7) ((σ68 9).1 8) := hw69.2.2.2.2.1
    have T75 : RD (σ68 9) := RD.mv T63 (hF70 9 12 rfl).1 (hF70 9 17 rfl).2.2.1 (hF70 9 18 rfl).2.2.1 (hF70 9 19 rfl).2.2.1
    have T76 : DKA (σ68 9) := DKA.mv T64 (hF70 9 17 rfl).2.2.1 (hF70 9 18 rfl).2.2.1 (hF70 9 19 rfl).2.2.1
    refine lv_if_eq (tgt := 80) hx hb dX9_toneLine_73 (by decide) (fun c77 => ?_) (fun c77 => ?_)
    ·
      have k78 := peq32 c77
      refine lv_iconst (v := 0) hx hb dX9_toneLine_80 (by decide) ?_
      refine t9_21 hx hb hK hP hD hS (vpo (by have f0 := t66; have f1 := b6; have f2 := b7; have f3 := t27; have f4 := t44; have g0 := rg32 x65; have z1 : (1 : Int32).toInt = 1 := (by decide); have z2 : (2 : Int32).toInt = 2 := (by decide); have z3 : (3 : Int32).toInt = 3 := (by decide); omega)) dX9_toneLine_81 (fun H locs σ79 eσ79 hP hS => ?_)
      have hJ80 : J9 (σ79 9) := hJ71.A eσ79 (show PA9 21 x65.toInt.toNat (0 : Int32) from (by have f0 := t66; have f1 := b6; have f2 := b7; have f3 := t27; have f4 := t44; have g0 := rg32 x65; have z0 : (0 : Int32).toInt = 0 := (by decide); have z1 : (1 : Int32).toInt = 1 := (by decide); have z2 : (2 : Int32).toInt = 2 := (by decide); have z3 : (3 : Int32).toInt = 3 := (by decide); exact ⟨by omega, by omega, by omega⟩))
      have T81 : RD (σ79 9) := RD.mv T75 ((sA_f eσ79) 9 12 rfl).1 ((sA_f eσ79) 9 17 rfl).2.2.1 ((sA_f eσ79) 9 18 rfl).2.2.1 ((sA_f eσ79) 9 19 rfl).2.2.1
      have T82 : DKA (σ79 9) := DKA.mv T76 ((sA_f eσ79) 9 17 rfl).2.2.1 ((sA_f eσ79) 9 18 rfl).2.2.1 ((sA_f eσ79) 9 19 rfl).2.2.1
      exact W.vret hx hb hr (fun tS ht hW => ⟨⟨σ79, rfl, ⟨Fr.tr (Fr.tr (Fr.tr (Fr.tr (Fr.tr (Fr.tr (Fr.tr (Fr.tr (Fr.tr (Fr.rf) hF4 (fL_sub rfl)) hF14 (fL_sub rfl)) (sA_f eσ22) (fN_L rfl)) hF31 (fL_sub rfl)) (sA_f eσ39) (fN_L rfl)) hF48 (fL_sub rfl)) (sA_f eσ61) (fN_L rfl)) hF70 (fL_sub rfl)) (sA_f eσ79) (fN_L rfl), hJ80, T81, T82, (show ((σ 9).1 7).toInt ≤ ((σ79 9).1 7).toInt ∧ ((σ79 9).1 7).toInt ≤ ((σ79 9).1 6).toInt from (by have f0 := j9_6 hJ80 rfl; have f1 := congrArg Int32.toInt (show ((σ79 9).1 6) = ((σ 9).1 6) from (((sA_f eσ79) 9 6 rfl).1).trans (((hF70 9 6 rfl).1).trans ((((sA_f eσ61) 9 6 rfl).1).trans (((hF48 9 6 rfl).1).trans ((((sA_f eσ39) 9 6 rfl).1).trans (((hF31 9 6 rfl).1).trans ((((sA_f eσ22) 9 6 rfl).1).trans (((hF14 9 6 rfl).1).trans ((hF4 9 6 rfl).1))))))))); have f2 := j9_7 hJ80 rfl; have f3 := congrArg Int32.toInt (show ((σ79 9).1 7) = ((σ68 9).1 7) from ((sA_f eσ79) 9 7 rfl).1); have f4 := j9_7 hJ rfl; have f5 := j9_6 hJ rfl; have f6 := j9_7 hJ71 rfl; have f7 := h0; have f8 := b16; have f9 := j9_6 hJ15 rfl; have f10 := congrArg Int32.toInt (show ((σ12 9).1 6) = ((σ 9).1 6) from ((hF14 9 6 rfl).1).trans ((hF4 9 6 rfl).1)); have f11 := j9_7 hJ5 rfl; have f12 := congrArg Int32.toInt (show ((σ2 9).1 7) = ((σ 9).1 7) from (hF4 9 7 rfl).1); have f13 := j9_7 hJ15 rfl; have f14 := b33; have f15 := j9_7 hJ23 rfl; have f16 := congrArg Int32.toInt (show ((σ22 9).1 7) = ((σ12 9).1 7) from ((sA_f eσ22) 9 7 rfl).1); have f17 := j9_6 hJ32 rfl; have f18 := congrArg Int32.toInt (show ((σ29 9).1 6) = ((σ 9).1 6) from ((hF31 9 6 rfl).1).trans ((((sA_f eσ22) 9 6 rfl).1).trans (((hF14 9 6 rfl).1).trans ((hF4 9 6 rfl).1)))); have f19 := j9_7 hJ32 rfl; have f20 := b51; have f21 := j9_7 hJ40 rfl; have f22 := congrArg Int32.toInt (show ((σ39 9).1 7) = ((σ29 9).1 7) from ((sA_f eσ39) 9 7 rfl).1); have f23 := j9_6 hJ49 rfl; have f24 := congrArg Int32.toInt (show ((σ46 9).1 6) = ((σ 9).1 6) from ((hF48 9 6 rfl).1).trans ((((sA_f eσ39) 9 6 rfl).1).trans (((hF31 9 6 rfl).1).trans ((((sA_f eσ22) 9 6 rfl).1).trans (((hF14 9 6 rfl).1).trans ((hF4 9 6 rfl).1)))))); have f25 := j9_7 hJ49 rfl; have f26 := b73; have f27 := j9_6 hJ71 rfl; have f28 := congrArg Int32.toInt (show ((σ68 9).1 6) = ((σ 9).1 6) from ((hF70 9 6 rfl).1).trans ((((sA_f eσ61) 9 6 rfl).1).trans (((hF48 9 6 rfl).1).trans ((((sA_f eσ39) 9 6 rfl).1).trans (((hF31 9 6 rfl).1).trans ((((sA_f eσ22) 9 6 rfl).1).trans (((hF14 9 6 rfl).1).trans ((hF4 9 6 rfl).1)))))))); have f29 := j9_7 hJ62 rfl; have f30 := congrArg Int32.toInt (show ((σ61 9).1 7) = ((σ46 9).1 7) from ((sA_f eσ61) 9 7 rfl).1); omega)), (show ph ((σ 9).1 7) ((σ 9).1 8) ≤ ph ((σ79 9).1 7) ((σ79 9).1 8) from (by have f0 := (show ph ((σ79 9).1 7) ((σ79 9).1 8) = ph ((σ68 9).1 7) ((σ68 9).1 8) from by rw [((sA_f eσ79) 9 7 rfl).1, ((sA_f eσ79) 9 8 rfl).1]); have f1 := b17; have f2 := (show ph ((σ2 9).1 7) ((σ2 9).1 8) = ph ((σ 9).1 7) ((σ 9).1 8) from by rw [(hF4 9 7 rfl).1, (hF4 9 8 rfl).1]); have f3 := b34; have f4 := (show ph ((σ22 9).1 7) ((σ22 9).1 8) = ph ((σ12 9).1 7) ((σ12 9).1 8) from by rw [((sA_f eσ22) 9 7 rfl).1, ((sA_f eσ22) 9 8 rfl).1]); have f5 := b52; have f6 := (show ph ((σ39 9).1 7) ((σ39 9).1 8) = ph ((σ29 9).1 7) ((σ29 9).1 8) from by rw [((sA_f eσ39) 9 7 rfl).1, ((sA_f eσ39) 9 8 rfl).1]); have f7 := b74; have f8 := (show ph ((σ61 9).1 7) ((σ61 9).1 8) = ph ((σ46 9).1 7) ((σ46 9).1 8) from by rw [((sA_f eσ61) 9 7 rfl).1, ((sA_f eσ61) 9 8 rfl).1]); omega)), (show ¬ ((σ79 9).1 12).toInt = 0 ∨ ((σ 9).1 12).toInt = 0 from (by have f0 := congrArg Int32.toInt (show ((σ79 9).1 12) = ((σ29 9).1 12) from (((sA_f eσ79) 9 12 rfl).1).trans (((hF70 9 12 rfl).1).trans ((((sA_f eσ61) 9 12 rfl).1).trans (((hF48 9 12 rfl).1).trans (((sA_f eσ39) 9 12 rfl).1))))); have f1 := b19; have f2 := congrArg Int32.toInt (show ((σ2 9).1 12) = ((σ 9).1 12) from (hF4 9 12 rfl).1); have f3 := b36; have f4 := congrArg Int32.toInt (show ((σ22 9).1 12) = ((σ12 9).1 12) from ((sA_f eσ22) 9 12 rfl).1); have z9 : (9 : Int32).toInt = 9 := (by decide); have z60 : (60 : Int32).toInt = 60 := (by decide); omega)), trivial⟩, (show va_P D clz (WD9 cy g σ79) tS.heap by rw [ht]; exact hP)⟩, hS.F ht⟩) hS.2.2 dX9_toneLine_82
    ·
      have k83 := neq32 c77
      refine lv_iconst (v := 1) hx hb dX9_toneLine_76 (by decide) ?_
      refine lv_goto (tgt := 81) hx hb dX9_toneLine_77 (by decide) ?_
      refine t9_21 hx hb hK hP hD hS (vpo (by have f0 := t66; have f1 := b6; have f2 := b7; have f3 := t27; have f4 := t44; have g0 := rg32 x65; have z1 : (1 : Int32).toInt = 1 := (by decide); have z2 : (2 : Int32).toInt = 2 := (by decide); have z3 : (3 : Int32).toInt = 3 := (by decide); omega)) dX9_toneLine_81 (fun H locs σ84 eσ84 hP hS => ?_)
      have hJ85 : J9 (σ84 9) := hJ71.A eσ84 (show PA9 21 x65.toInt.toNat (1 : Int32) from (by have f0 := t66; have f1 := b6; have f2 := b7; have f3 := t27; have f4 := t44; have g0 := rg32 x65; have z1 : (1 : Int32).toInt = 1 := (by decide); have z2 : (2 : Int32).toInt = 2 := (by decide); have z3 : (3 : Int32).toInt = 3 := (by decide); exact ⟨by omega, by omega, by omega⟩))
      have T86 : RD (σ84 9) := RD.mv T75 ((sA_f eσ84) 9 12 rfl).1 ((sA_f eσ84) 9 17 rfl).2.2.1 ((sA_f eσ84) 9 18 rfl).2.2.1 ((sA_f eσ84) 9 19 rfl).2.2.1
      have T87 : DKA (σ84 9) := DKA.mv T76 ((sA_f eσ84) 9 17 rfl).2.2.1 ((sA_f eσ84) 9 18 rfl).2.2.1 ((sA_f eσ84) 9 19 rfl).2.2.1
      exact W.vret hx hb hr (fun tS ht hW => ⟨⟨σ84, rfl, ⟨Fr.tr (Fr.tr (Fr.tr (Fr.tr (Fr.tr (Fr.tr (Fr.tr (Fr.tr (Fr.tr (Fr.rf) hF4 (fL_sub rfl)) hF14 (fL_sub rfl)) (sA_f eσ22) (fN_L rfl)) hF31 (fL_sub rfl)) (sA_f eσ39) (fN_L rfl)) hF48 (fL_sub rfl)) (sA_f eσ61) (fN_L rfl)) hF70 (fL_sub rfl)) (sA_f eσ84) (fN_L rfl), hJ85, T86, T87, (show ((σ 9).1 7).toInt ≤ ((σ84 9).1 7).toInt ∧ ((σ84 9).1 7).toInt ≤ ((σ84 9).1 6).toInt from (by have f0 := j9_7 hJ85 rfl; have f1 := congrArg Int32.toInt (show ((σ84 9).1 7) = ((σ68 9).1 7) from ((sA_f eσ84) 9 7 rfl).1); have f2 := j9_6 hJ85 rfl; have f3 := congrArg Int32.toInt (show ((σ84 9).1 6) = ((σ 9).1 6) from (((sA_f eσ84) 9 6 rfl).1).trans (((hF70 9 6 rfl).1).trans ((((sA_f eσ61) 9 6 rfl).1).trans (((hF48 9 6 rfl).1).trans ((((sA_f eσ39) 9 6 rfl).1).trans (((hF31 9 6 rfl).1).trans ((((sA_f eσ22) 9 6 rfl).1).trans (((hF14 9 6 rfl).1).trans ((hF4 9 6 rfl).1))))))))); have f4 := j9_7 hJ rfl; have f5 := j9_6 hJ rfl; have f6 := j9_7 hJ71 rfl; have f7 := h0; have f8 := b16; have f9 := j9_6 hJ15 rfl; have f10 := congrArg Int32.toInt (show ((σ12 9).1 6) = ((σ 9).1 6) from ((hF14 9 6 rfl).1).trans ((hF4 9 6 rfl).1)); have f11 := j9_7 hJ5 rfl; have f12 := congrArg Int32.toInt (show ((σ2 9).1 7) = ((σ 9).1 7) from (hF4 9 7 rfl).1); have f13 := j9_7 hJ15 rfl; have f14 := b33; have f15 := j9_7 hJ23 rfl; have f16 := congrArg Int32.toInt (show ((σ22 9).1 7) = ((σ12 9).1 7) from ((sA_f eσ22) 9 7 rfl).1); have f17 := j9_6 hJ32 rfl; have f18 := congrArg Int32.toInt (show ((σ29 9).1 6) = ((σ 9).1 6) from ((hF31 9 6 rfl).1).trans ((((sA_f eσ22) 9 6 rfl).1).trans (((hF14 9 6 rfl).1).trans ((hF4 9 6 rfl).1)))); have f19 := j9_7 hJ32 rfl; have f20 := b51; have f21 := j9_7 hJ40 rfl; have f22 := congrArg Int32.toInt (show ((σ39 9).1 7) = ((σ29 9).1 7) from ((sA_f eσ39) 9 7 rfl).1); have f23 := j9_6 hJ49 rfl; have f24 := congrArg Int32.toInt (show ((σ46 9).1 6) = ((σ 9).1 6) from ((hF48 9 6 rfl).1).trans ((((sA_f eσ39) 9 6 rfl).1).trans (((hF31 9 6 rfl).1).trans ((((sA_f eσ22) 9 6 rfl).1).trans (((hF14 9 6 rfl).1).trans ((hF4 9 6 rfl).1)))))); have f25 := j9_7 hJ49 rfl; have f26 := b73; have f27 := j9_6 hJ71 rfl; have f28 := congrArg Int32.toInt (show ((σ68 9).1 6) = ((σ 9).1 6) from ((hF70 9 6 rfl).1).trans ((((sA_f eσ61) 9 6 rfl).1).trans (((hF48 9 6 rfl).1).trans ((((sA_f eσ39) 9 6 rfl).1).trans (((hF31 9 6 rfl).1).trans ((((sA_f eσ22) 9 6 rfl).1).trans (((hF14 9 6 rfl).1).trans ((hF4 9 6 rfl).1)))))))); have f29 := j9_7 hJ62 rfl; have f30 := congrArg Int32.toInt (show ((σ61 9).1 7) = ((σ46 9).1 7) from ((sA_f eσ61) 9 7 rfl).1); omega)), (show ph ((σ 9).1 7) ((σ 9).1 8) ≤ ph ((σ84 9).1 7) ((σ84 9).1 8) from (by have f0 := (show ph ((σ84 9).1 7) ((σ84 9).1 8) = ph ((σ68 9).1 7) ((σ68 9).1 8) from by rw [((sA_f eσ84) 9 7 rfl).1, ((sA_f eσ84) 9 8 rfl).1]); have f1 := b17; have f2 := (show ph ((σ2 9).1 7) ((σ2 9).1 8) = ph ((σ 9).1 7) ((σ 9).1 8) from by rw [(hF4 9 7 rfl).1, (hF4 9 8 rfl).1]); have f3 := b34; have f4 := (show ph ((σ22 9).1 7) ((σ22 9).1 8) = ph ((σ12 9).1 7) ((σ12 9).1 8) from by rw [((sA_f eσ22) 9 7 rfl).1, ((sA_f eσ22) 9 8 rfl).1]); have f5 := b52; have f6 := (show ph ((σ39 9).1 7) ((σ39 9).1 8) = ph ((σ29 9).1 7) ((σ29 9).1 8) from by rw [((sA_f eσ39) 9 7 rfl).1, ((sA_f eσ39) 9 8 rfl).1]); have f7 := b74; have f8 := (show ph ((σ61 9).1 7) ((σ61 9).1 8) = ph ((σ46 9).1 7) ((σ46 9).1 8) from by rw [((sA_f eσ61) 9 7 rfl).1, ((sA_f eσ61) 9 8 rfl).1]); omega)), (show ¬ ((σ84 9).1 12).toInt = 0 ∨ ((σ 9).1 12).toInt = 0 from (by have f0 := congrArg Int32.toInt (show ((σ84 9).1 12) = ((σ29 9).1 12) from (((sA_f eσ84) 9 12 rfl).1).trans (((hF70 9 12 rfl).1).trans ((((sA_f eσ61) 9 12 rfl).1).trans (((hF48 9 12 rfl).1).trans (((sA_f eσ39) 9 12 rfl).1))))); have f1 := b19; have f2 := congrArg Int32.toInt (show ((σ2 9).1 12) = ((σ 9).1 12) from (hF4 9 12 rfl).1); have f3 := b36; have f4 := congrArg Int32.toInt (show ((σ22 9).1 12) = ((σ12 9).1 12) from ((sA_f eσ22) 9 12 rfl).1); have z9 : (9 : Int32).toInt = 9 := (by decide); have z60 : (60 : Int32).toInt = 60 := (by decide); omega)), trivial⟩, (show va_P D clz (WD9 cy g σ84) tS.heap by rw [ht]; exact hP)⟩, hS.F ht⟩) hS.2.2 dX9_toneLine_82
  ·
    intro nj55
    refine lv_if_eq (tgt := 57) hx hb dX9_toneLine_50 (by decide) (fun c88 => ?_) (fun c88 => ?_)
    ·
      have k89 := peq32 c88
      refine lv_iconst (v := 0) hx hb dX9_toneLine_57 (by decide) ?_
      exact nj55 (σ46, lf [0], lg []) ⟨rfl, (show (0 : Int) ≤ (0 : Int32).toInt ∧ (0 : Int32).toInt ≤ 1 from (by have z0 : (0 : Int32).toInt = 0 := (by decide); omega)), (show RD (σ46 9) from T53), (show DKA (σ46 9) from T54), trivial⟩ _ _ _ hP hS (lv_sub hl [0, 1] rfl)
    ·
      have k90 := neq32 c88
      refine lv_iconst (v := 1) hx hb dX9_toneLine_53 (by decide) ?_
      refine lv_goto (tgt := 58) hx hb dX9_toneLine_54 (by decide) ?_
      exact nj55 (σ46, lf [1], lg []) ⟨rfl, (show (0 : Int) ≤ (1 : Int32).toInt ∧ (1 : Int32).toInt ≤ 1 from (by have z1 : (1 : Int32).toInt = 1 := (by decide); omega)), (show RD (σ46 9) from T53), (show DKA (σ46 9) from T54), trivial⟩ _ _ _ hP hS (lv_sub hl [0, 1] rfl)

theorem q1681 : Cond.code yX9_restLine cX9_restLine 2 none ∈ lw_g := lw_gm (List.mem_of_getElem? (i := 1681) (by decide +kernel)) rfl
theorem dX9_restLine_0 : decode cX9_restLine 0 = .ok (.aload_n 0, 1) := by decide +kernel
theorem dX9_restLine_1 : decode cX9_restLine 1 = .ok (.invokevirtual 234, 3) := by decide +kernel
theorem dX9_restLine_4 : decode cX9_restLine 4 = .ok (.istore_n 1, 1) := by decide +kernel
theorem dX9_restLine_5 : decode cX9_restLine 5 = .ok (.aload_n 0, 1) := by decide +kernel
theorem dX9_restLine_6 : decode cX9_restLine 6 = .ok (.getfield 46, 3) := by decide +kernel
theorem dX9_restLine_9 : decode cX9_restLine 9 = .ok (.iload_n 1, 1) := by decide +kernel
theorem dX9_restLine_10 : decode cX9_restLine 10 = .ok (.iconst (-1), 1) := by decide +kernel
theorem dX9_restLine_11 : decode cX9_restLine 11 = .ok (.iastore, 1) := by decide +kernel
theorem dX9_restLine_12 : decode cX9_restLine 12 = .ok (.aload_n 0, 1) := by decide +kernel
theorem dX9_restLine_13 : decode cX9_restLine 13 = .ok (.getfield 46, 3) := by decide +kernel
theorem dX9_restLine_16 : decode cX9_restLine 16 = .ok (.iload_n 1, 1) := by decide +kernel
theorem dX9_restLine_17 : decode cX9_restLine 17 = .ok (.iconst 1, 1) := by decide +kernel
theorem dX9_restLine_18 : decode cX9_restLine 18 = .ok (.iadd, 1) := by decide +kernel
theorem dX9_restLine_19 : decode cX9_restLine 19 = .ok (.aload_n 0, 1) := by decide +kernel
theorem dX9_restLine_20 : decode cX9_restLine 20 = .ok (.iconst 1, 1) := by decide +kernel
theorem dX9_restLine_21 : decode cX9_restLine 21 = .ok (.bipush 9, 2) := by decide +kernel
theorem dX9_restLine_23 : decode cX9_restLine 23 = .ok (.invokevirtual 204, 3) := by decide +kernel
theorem dX9_restLine_26 : decode cX9_restLine 26 = .ok (.iastore, 1) := by decide +kernel
theorem dX9_restLine_27 : decode cX9_restLine 27 = .ok (.aload_n 0, 1) := by decide +kernel
theorem dX9_restLine_28 : decode cX9_restLine 28 = .ok (.getfield 46, 3) := by decide +kernel
theorem dX9_restLine_31 : decode cX9_restLine 31 = .ok (.iload_n 1, 1) := by decide +kernel
theorem dX9_restLine_32 : decode cX9_restLine 32 = .ok (.iconst 2, 1) := by decide +kernel
theorem dX9_restLine_33 : decode cX9_restLine 33 = .ok (.iadd, 1) := by decide +kernel
theorem dX9_restLine_34 : decode cX9_restLine 34 = .ok (.iconst 0, 1) := by decide +kernel
theorem dX9_restLine_35 : decode cX9_restLine 35 = .ok (.iastore, 1) := by decide +kernel
theorem dX9_restLine_36 : decode cX9_restLine 36 = .ok (.aload_n 0, 1) := by decide +kernel
theorem dX9_restLine_37 : decode cX9_restLine 37 = .ok (.getfield 46, 3) := by decide +kernel
theorem dX9_restLine_40 : decode cX9_restLine 40 = .ok (.iload_n 1, 1) := by decide +kernel
theorem dX9_restLine_41 : decode cX9_restLine 41 = .ok (.iconst 3, 1) := by decide +kernel
theorem dX9_restLine_42 : decode cX9_restLine 42 = .ok (.iadd, 1) := by decide +kernel
theorem dX9_restLine_43 : decode cX9_restLine 43 = .ok (.iconst 0, 1) := by decide +kernel
theorem dX9_restLine_44 : decode cX9_restLine 44 = .ok (.iastore, 1) := by decide +kernel
theorem dX9_restLine_45 : decode cX9_restLine 45 = .ok (.return_, 1) := by decide +kernel
set_option maxHeartbeats 4000000 in
set_option maxRecDepth 100000 in
theorem m_X9_restLine (l : Launch) (D : va_G) (cy : Nat → ClassId) (g : Nat → Nat) (σ : ST)  (sz : Nat) (hJ : J9 (σ 9)) (kTH : TH (σ 9)) (kRD : RD (σ 9)) (kDKA : DKA (σ 9)) (h0 : ((σ 9).1 7).toInt ≤ ((σ 9).1 6).toInt) : Met l yX9_restLine (ww yX9_restLine cX9_restLine 2 none) ({ frames := 4, cells := 0, slots := 0, locals := 256 }) (va_Pc [.ref (g 60)] (pr9 D cy g σ sz)) (qv9 D cy g sz (fun τ => Fr (fL [7, 8, 9, 10, 11, 12, 13, 20, 21]) σ τ ∧ J9 (τ 9) ∧ RD (τ 9) ∧ DKA (τ 9) ∧ (((σ 9).1 7).toInt ≤ ((τ 9).1 7).toInt ∧ ((τ 9).1 7).toInt ≤ ((τ 9).1 6).toInt) ∧ (ph ((σ 9).1 7) ((σ 9).1 8) ≤ ph ((τ 9).1 7) ((τ 9).1 8)) ∧ (¬ ((τ 9).1 12).toInt = 0 ∨ ((σ 9).1 12).toInt = 0) ∧ True)) 0 0 (A9 cy g sz) := by
  refine Met.ofW (cc := cX9_restLine) (maxL := 2) (ret := none) (by decide) rfl ?_
  intro p e s m args below meth c s₁ B hml hv
  obtain ⟨rfl, hsz, hP, hK, hD0, hC⟩ := hv
  have hx := B.exec
  have hb := B.bytes
  have hr := B.returns
  have hts := hts_g (atoms_spec (ws := ww yX9_restLine cX9_restLine 2 none) B.pre)
  have hown : s.vm.findClass RX9 = some m.cls := findClass_of_methodNamed B.named
  have hlocks := B.notSynchronized
  clear B
  subst hsz
  have hD := fun τ => A9_D (sz := s.heap.size) hD0 τ
  clear hD0
  have hS : va_S (A9 cy g s.heap.size) s.heap s.heap [] := va_S.rf
  have hl := lv_entry ([.ref (g 60)]) (n := 2) (Nat.le_of_ble_eq_true rfl)
  rw [lg_entry_eq]
  generalize (lg_sl ([.ref (g 60)]) ++ List.replicate (2 - (lg_sl ([.ref (g 60)])).length) Slot.unset).toArray = ls at hl ⊢
  have hl : lv_has ls 2 [(0, .ref (g 60))] := hl
  refine lv_aload_n hx hb dX9_restLine_0 rfl (lv_at hl 0 rfl) ?_
  refine va_calli (va_runV (As := []) (rest := []) ⟨hx, hb, hml, hown, hts⟩ (m_X9_toneHere l D cy g σ  _ hJ kTH) (cwV 0 hts (gd_V q1671 q1673 q66 q134 q1674) rfl rfl rfl (by decide +kernel) ⟨Nat.le_of_ble_eq_true rfl, Nat.le_of_ble_eq_true rfl⟩) (pv9 hP hK hD hC hS (va_recv hK hP (ci := 9) (q0 := 0) rfl rfl)) rfl rfl hl.1 rfl (lv_room (Nat.le_of_ble_eq_true rfl)) dX9_restLine_1 ⟨Nat.le_of_ble_eq_true rfl, Nat.le_of_ble_eq_true rfl⟩) hS (fun q _ h => up9 hS q h) (up9 hS) (fun r1 σ2 tS H1 locs ht hvm hw3 hB hz1 hk1 hS => ?_)
  have hP : va_P D clz (WD9 cy g σ2) H1 := by rw [← ht]; exact hB
  clear hB hz1 hk1 hvm ht
  generalize H1 = H at hP hS ⊢
  have hF4 : Fr (fL [20]) σ σ2 := hw3.1
  have hJ5 : J9 (σ2 9) := hw3.2.1
  have b6 : (768 : Int) ≤ r1.toInt ∧ r1.toInt ≤ 956 := hw3.2.2.1
  have b7 : r1.toInt % 4 = 0 := hw3.2.2.2.1
  have T9 : RD (σ2 9) := RD.mv kRD (hF4 9 12 rfl).1 (hF4 9 17 rfl).2.2.1 (hF4 9 18 rfl).2.2.1 (hF4 9 19 rfl).2.2.1
  have T10 : DKA (σ2 9) := DKA.mv kDKA (hF4 9 17 rfl).2.2.1 (hF4 9 18 rfl).2.2.1 (hF4 9 19 rfl).2.2.1
  refine lv_istore_n (lv' := [(1, .int r1), (0, .ref (g 60))]) hx hb dX9_restLine_4 rfl hl (by decide) rfl (fun ls hl => ?_)
  refine lv_aload_n hx hb dX9_restLine_5 rfl (lv_at hl 1 rfl) ?_
  refine g9_21 hx hb hts hown hK hP (hts _ q1381) dX9_restLine_6 ?_
  refine lv_iload_n hx hb dX9_restLine_9 rfl (lv_at hl 0 rfl) ?_
  refine lv_iconst (v := (-1)) hx hb dX9_restLine_10 (by decide) ?_
  refine t9_21 hx hb hK hP hD hS (vpo (by have f0 := b6; have f1 := b7; have g0 := rg32 r1; omega)) dX9_restLine_11 (fun H locs σ11 eσ11 hP hS => ?_)
  have hJ12 : J9 (σ11 9) := hJ5.A eσ11 (show PA9 21 r1.toInt.toNat ((-1) : Int32) from (by have f0 := b6; have f1 := b7; have g0 := rg32 r1; have zm1 : ((-1) : Int32).toInt = (-1) := (by decide); exact ⟨by omega, by omega, by omega⟩))
  have T13 : RD (σ11 9) := RD.mv T9 ((sA_f eσ11) 9 12 rfl).1 ((sA_f eσ11) 9 17 rfl).2.2.1 ((sA_f eσ11) 9 18 rfl).2.2.1 ((sA_f eσ11) 9 19 rfl).2.2.1
  have T14 : DKA (σ11 9) := DKA.mv T10 ((sA_f eσ11) 9 17 rfl).2.2.1 ((sA_f eσ11) 9 18 rfl).2.2.1 ((sA_f eσ11) 9 19 rfl).2.2.1
  refine lv_aload_n hx hb dX9_restLine_12 rfl (lv_at hl 1 rfl) ?_
  refine g9_21 hx hb hts hown hK hP (hts _ q1381) dX9_restLine_13 ?_
  refine lv_iload_n hx hb dX9_restLine_16 rfl (lv_at hl 0 rfl) ?_
  refine lv_iconst (v := 1) hx hb dX9_restLine_17 (by decide) ?_
  refine lv_iadd hx hb dX9_restLine_18 ?_
  refine lv_topi (fun x15 ex15 => ?_)
  have t16 := addO ex15 (by have f0 := b6; have f1 := b7; have g0 := rg32 r1; have z1 : (1 : Int32).toInt = 1 := (by decide); omega)
  refine lv_aload_n hx hb dX9_restLine_19 rfl (lv_at hl 1 rfl) ?_
  refine lv_iconst (v := 1) hx hb dX9_restLine_20 (by decide) ?_
  refine lv_bipush (v := 9) hx hb dX9_restLine_21 (by decide) ?_
  refine va_calli (va_runV (As := [.int 1, .int 9]) (rest := [.int x15, .ref (g 21)]) ⟨hx, hb, hml, hown, hts⟩ (m_X9_number l D cy g σ11 (1) (9) _ hJ12 (show ((σ11 9).1 7).toInt ≤ ((σ11 9).1 6).toInt from (by have f0 := j9_6 hJ12 rfl; have f1 := congrArg Int32.toInt (show ((σ11 9).1 6) = ((σ 9).1 6) from (((sA_f eσ11) 9 6 rfl).1).trans ((hF4 9 6 rfl).1)); have f2 := j9_7 hJ12 rfl; have f3 := congrArg Int32.toInt (show ((σ11 9).1 7) = ((σ 9).1 7) from (((sA_f eσ11) 9 7 rfl).1).trans ((hF4 9 7 rfl).1)); have f4 := j9_6 hJ rfl; have f5 := j9_7 hJ rfl; have f6 := h0; omega))) (cwV 2 hts (gd_V q1631 q1633 q60 q134 q1634) rfl rfl rfl (by decide +kernel) ⟨Nat.le_of_ble_eq_true rfl, Nat.le_of_ble_eq_true rfl⟩) (pv9 hP hK hD hC hS (va_recv hK hP (ci := 9) (q0 := 0) rfl rfl)) rfl rfl hl.1 rfl (lv_room (Nat.le_of_ble_eq_true rfl)) dX9_restLine_23 ⟨Nat.le_of_ble_eq_true rfl, Nat.le_of_ble_eq_true rfl⟩) hS (fun q _ h => up9 hS q h) (up9 hS) (fun r17 σ18 tS H1 locs ht hvm hw19 hB hz1 hk1 hS => ?_)
  have hP : va_P D clz (WD9 cy g σ18) H1 := by rw [← ht]; exact hB
  clear hB hz1 hk1 hvm ht
  generalize H1 = H at hP hS ⊢
  have hF20 : Fr (fL [7, 8, 9, 10, 11, 12, 13]) σ11 σ18 := hw19.1
  have hJ21 : J9 (σ18 9) := hw19.2.1
  have b22 : ((σ11 9).1 7).toInt ≤ ((σ18 9).1 7).toInt ∧ ((σ18 9).1 7).toInt ≤ ((σ18 9).1 6).toInt := hw19.2.2.1
  have b23 : ph ((σ11 9).1 7) ((σ11 9).1 8) ≤ ph ((σ18 9).1 7) ((σ18 9).1 8) := hw19.2.2.2.1
  have b24 : (1 : Int32).toInt ≤ r17.toInt ∧ (r17.toInt ≤ (9 : Int32).toInt ∨ r17.toInt = (1 : Int32).toInt) := hw19.2.2.2.2.1
  have b25 : ¬ ((σ18 9).1 12).toInt = 0 ∨ (((σ11 9).1 12).toInt = 0 ∧ r17.toInt ≤ (9 : Int32).toInt) := hw19.2.2.2.2.2.1
  have T26 : RD (σ18 9) := RD.call T13 (by have f0 := congrArg Int32.toInt (show ((σ11 9).1 12) = ((σ 9).1 12) from (((sA_f eσ11) 9 12 rfl).1).trans ((hF4 9 12 rfl).1)); have f1 := b25; have g3 := rg32 r17; have z9 : (9 : Int32).toInt = 9 := (by decide); omega) (hF20 9 17 rfl).2.2.1 (hF20 9 18 rfl).2.2.1 (hF20 9 19 rfl).2.2.1
  have T27 : DKA (σ18 9) := DKA.mv T14 (hF20 9 17 rfl).2.2.1 (hF20 9 18 rfl).2.2.1 (hF20 9 19 rfl).2.2.1
  refine t9_21 hx hb hK hP hD hS (vpo (by have f0 := t16; have f1 := b6; have f2 := b7; have g0 := rg32 x15; have z1 : (1 : Int32).toInt = 1 := (by decide); omega)) dX9_restLine_26 (fun H locs σ28 eσ28 hP hS => ?_)
  have hJ29 : J9 (σ28 9) := hJ21.A eσ28 (show PA9 21 x15.toInt.toNat r17 from (by have f0 := t16; have f1 := b6; have f2 := b7; have f3 := b24; have f4 := b25; have f5 := congrArg Int32.toInt (show ((σ11 9).1 12) = ((σ 9).1 12) from (((sA_f eσ11) 9 12 rfl).1).trans ((hF4 9 12 rfl).1)); have g3 := rg32 r17; have g4 := rg32 x15; have z1 : (1 : Int32).toInt = 1 := (by decide); have z9 : (9 : Int32).toInt = 9 := (by decide); exact ⟨by omega, by omega, by omega⟩))
  have T30 : RD (σ28 9) := RD.mv T26 ((sA_f eσ28) 9 12 rfl).1 ((sA_f eσ28) 9 17 rfl).2.2.1 ((sA_f eσ28) 9 18 rfl).2.2.1 ((sA_f eσ28) 9 19 rfl).2.2.1
  have T31 : DKA (σ28 9) := DKA.mv T27 ((sA_f eσ28) 9 17 rfl).2.2.1 ((sA_f eσ28) 9 18 rfl).2.2.1 ((sA_f eσ28) 9 19 rfl).2.2.1
  refine lv_aload_n hx hb dX9_restLine_27 rfl (lv_at hl 1 rfl) ?_
  refine g9_21 hx hb hts hown hK hP (hts _ q1381) dX9_restLine_28 ?_
  refine lv_iload_n hx hb dX9_restLine_31 rfl (lv_at hl 0 rfl) ?_
  refine lv_iconst (v := 2) hx hb dX9_restLine_32 (by decide) ?_
  refine lv_iadd hx hb dX9_restLine_33 ?_
  refine lv_topi (fun x32 ex32 => ?_)
  have t33 := addO ex32 (by have f0 := b6; have f1 := b7; have f2 := t16; have g0 := rg32 r1; have z1 : (1 : Int32).toInt = 1 := (by decide); have z2 : (2 : Int32).toInt = 2 := (by decide); omega)
  refine lv_iconst (v := 0) hx hb dX9_restLine_34 (by decide) ?_
  refine t9_21 hx hb hK hP hD hS (vpo (by have f0 := t33; have f1 := b6; have f2 := b7; have f3 := t16; have g0 := rg32 x32; have z1 : (1 : Int32).toInt = 1 := (by decide); have z2 : (2 : Int32).toInt = 2 := (by decide); omega)) dX9_restLine_35 (fun H locs σ34 eσ34 hP hS => ?_)
  have hJ35 : J9 (σ34 9) := hJ29.A eσ34 (show PA9 21 x32.toInt.toNat (0 : Int32) from (by have f0 := t33; have f1 := b6; have f2 := b7; have f3 := t16; have g0 := rg32 x32; have z0 : (0 : Int32).toInt = 0 := (by decide); have z1 : (1 : Int32).toInt = 1 := (by decide); have z2 : (2 : Int32).toInt = 2 := (by decide); exact ⟨by omega, by omega, by omega⟩))
  have T36 : RD (σ34 9) := RD.mv T30 ((sA_f eσ34) 9 12 rfl).1 ((sA_f eσ34) 9 17 rfl).2.2.1 ((sA_f eσ34) 9 18 rfl).2.2.1 ((sA_f eσ34) 9 19 rfl).2.2.1
  have T37 : DKA (σ34 9) := DKA.mv T31 ((sA_f eσ34) 9 17 rfl).2.2.1 ((sA_f eσ34) 9 18 rfl).2.2.1 ((sA_f eσ34) 9 19 rfl).2.2.1
  refine lv_aload_n hx hb dX9_restLine_36 rfl (lv_at hl 1 rfl) ?_
  refine g9_21 hx hb hts hown hK hP (hts _ q1381) dX9_restLine_37 ?_
  refine lv_iload_n hx hb dX9_restLine_40 rfl (lv_at hl 0 rfl) ?_
  refine lv_iconst (v := 3) hx hb dX9_restLine_41 (by decide) ?_
  refine lv_iadd hx hb dX9_restLine_42 ?_
  refine lv_topi (fun x38 ex38 => ?_)
  have t39 := addO ex38 (by have f0 := b6; have f1 := b7; have f2 := t16; have f3 := t33; have g0 := rg32 r1; have z1 : (1 : Int32).toInt = 1 := (by decide); have z2 : (2 : Int32).toInt = 2 := (by decide); have z3 : (3 : Int32).toInt = 3 := (by decide); omega)
  refine lv_iconst (v := 0) hx hb dX9_restLine_43 (by decide) ?_
  refine t9_21 hx hb hK hP hD hS (vpo (by have f0 := t39; have f1 := b6; have f2 := b7; have f3 := t16; have f4 := t33; have g0 := rg32 x38; have z1 : (1 : Int32).toInt = 1 := (by decide); have z2 : (2 : Int32).toInt = 2 := (by decide); have z3 : (3 : Int32).toInt = 3 := (by decide); omega)) dX9_restLine_44 (fun H locs σ40 eσ40 hP hS => ?_)
  have hJ41 : J9 (σ40 9) := hJ35.A eσ40 (show PA9 21 x38.toInt.toNat (0 : Int32) from (by have f0 := t39; have f1 := b6; have f2 := b7; have f3 := t16; have f4 := t33; have g0 := rg32 x38; have z0 : (0 : Int32).toInt = 0 := (by decide); have z1 : (1 : Int32).toInt = 1 := (by decide); have z2 : (2 : Int32).toInt = 2 := (by decide); have z3 : (3 : Int32).toInt = 3 := (by decide); exact ⟨by omega, by omega, by omega⟩))
  have T42 : RD (σ40 9) := RD.mv T36 ((sA_f eσ40) 9 12 rfl).1 ((sA_f eσ40) 9 17 rfl).2.2.1 ((sA_f eσ40) 9 18 rfl).2.2.1 ((sA_f eσ40) 9 19 rfl).2.2.1
  have T43 : DKA (σ40 9) := DKA.mv T37 ((sA_f eσ40) 9 17 rfl).2.2.1 ((sA_f eσ40) 9 18 rfl).2.2.1 ((sA_f eσ40) 9 19 rfl).2.2.1
  exact W.vret hx hb hr (fun tS ht hW => ⟨⟨σ40, rfl, ⟨Fr.tr (Fr.tr (Fr.tr (Fr.tr (Fr.tr (Fr.tr (Fr.rf) hF4 (fL_sub rfl)) (sA_f eσ11) (fN_L rfl)) hF20 (fL_sub rfl)) (sA_f eσ28) (fN_L rfl)) (sA_f eσ34) (fN_L rfl)) (sA_f eσ40) (fN_L rfl), hJ41, T42, T43, (show ((σ 9).1 7).toInt ≤ ((σ40 9).1 7).toInt ∧ ((σ40 9).1 7).toInt ≤ ((σ40 9).1 6).toInt from (by have f0 := j9_7 hJ41 rfl; have f1 := congrArg Int32.toInt (show ((σ40 9).1 7) = ((σ18 9).1 7) from (((sA_f eσ40) 9 7 rfl).1).trans ((((sA_f eσ34) 9 7 rfl).1).trans (((sA_f eσ28) 9 7 rfl).1))); have f2 := j9_7 hJ rfl; have f3 := j9_6 hJ41 rfl; have f4 := congrArg Int32.toInt (show ((σ40 9).1 6) = ((σ 9).1 6) from (((sA_f eσ40) 9 6 rfl).1).trans ((((sA_f eσ34) 9 6 rfl).1).trans ((((sA_f eσ28) 9 6 rfl).1).trans (((hF20 9 6 rfl).1).trans ((((sA_f eσ11) 9 6 rfl).1).trans ((hF4 9 6 rfl).1)))))); have f5 := j9_6 hJ rfl; have f6 := j9_7 hJ21 rfl; have f7 := h0; have f8 := b22; have f9 := j9_7 hJ12 rfl; have f10 := congrArg Int32.toInt (show ((σ11 9).1 7) = ((σ 9).1 7) from (((sA_f eσ11) 9 7 rfl).1).trans ((hF4 9 7 rfl).1)); have f11 := j9_6 hJ21 rfl; have f12 := congrArg Int32.toInt (show ((σ18 9).1 6) = ((σ 9).1 6) from ((hF20 9 6 rfl).1).trans ((((sA_f eσ11) 9 6 rfl).1).trans ((hF4 9 6 rfl).1))); omega)), (show ph ((σ 9).1 7) ((σ 9).1 8) ≤ ph ((σ40 9).1 7) ((σ40 9).1 8) from (by have f0 := (show ph ((σ40 9).1 7) ((σ40 9).1 8) = ph ((σ18 9).1 7) ((σ18 9).1 8) from by rw [(((sA_f eσ40) 9 7 rfl).1).trans ((((sA_f eσ34) 9 7 rfl).1).trans (((sA_f eσ28) 9 7 rfl).1)), (((sA_f eσ40) 9 8 rfl).1).trans ((((sA_f eσ34) 9 8 rfl).1).trans (((sA_f eσ28) 9 8 rfl).1))]); have f1 := b23; have f2 := (show ph ((σ11 9).1 7) ((σ11 9).1 8) = ph ((σ 9).1 7) ((σ 9).1 8) from by rw [(((sA_f eσ11) 9 7 rfl).1).trans ((hF4 9 7 rfl).1), (((sA_f eσ11) 9 8 rfl).1).trans ((hF4 9 8 rfl).1)]); omega)), (show ¬ ((σ40 9).1 12).toInt = 0 ∨ ((σ 9).1 12).toInt = 0 from (by have f0 := congrArg Int32.toInt (show ((σ40 9).1 12) = ((σ18 9).1 12) from (((sA_f eσ40) 9 12 rfl).1).trans ((((sA_f eσ34) 9 12 rfl).1).trans (((sA_f eσ28) 9 12 rfl).1))); have f1 := b25; have f2 := congrArg Int32.toInt (show ((σ11 9).1 12) = ((σ 9).1 12) from (((sA_f eσ11) 9 12 rfl).1).trans ((hF4 9 12 rfl).1)); have z9 : (9 : Int32).toInt = 9 := (by decide); omega)), trivial⟩, (show va_P D clz (WD9 cy g σ40) tS.heap by rw [ht]; exact hP)⟩, hS.F ht⟩) hS.2.2 dX9_restLine_45

theorem q1587 : Cond.code yX9_clears cX9_clears 2 none ∈ lw_g := lw_gm (List.mem_of_getElem? (i := 1587) (by decide +kernel)) rfl
theorem dX9_clears_0 : decode cX9_clears 0 = .ok (.aload_n 0, 1) := by decide +kernel
theorem dX9_clears_1 : decode cX9_clears 1 = .ok (.getfield 31, 3) := by decide +kernel
theorem dX9_clears_4 : decode cX9_clears 4 = .ok (.iconst 4, 1) := by decide +kernel
theorem dX9_clears_5 : decode cX9_clears 5 = .ok (.iconst 0, 1) := by decide +kernel
theorem dX9_clears_6 : decode cX9_clears 6 = .ok (.iastore, 1) := by decide +kernel
theorem dX9_clears_7 : decode cX9_clears 7 = .ok (.iconst 0, 1) := by decide +kernel
theorem dX9_clears_8 : decode cX9_clears 8 = .ok (.istore_n 1, 1) := by decide +kernel
theorem dX9_clears_9 : decode cX9_clears 9 = .ok (.iload_n 1, 1) := by decide +kernel
theorem dX9_clears_10 : decode cX9_clears 10 = .ok (.iconst 5, 1) := by decide +kernel
theorem dX9_clears_11 : decode cX9_clears 11 = .ok (.if_icmp .ge 19, 3) := by decide +kernel
theorem dX9_clears_14 : decode cX9_clears 14 = .ok (.aload_n 0, 1) := by decide +kernel
theorem dX9_clears_15 : decode cX9_clears 15 = .ok (.getfield 34, 3) := by decide +kernel
theorem dX9_clears_18 : decode cX9_clears 18 = .ok (.bipush 20, 2) := by decide +kernel
theorem dX9_clears_20 : decode cX9_clears 20 = .ok (.iload_n 1, 1) := by decide +kernel
theorem dX9_clears_21 : decode cX9_clears 21 = .ok (.iadd, 1) := by decide +kernel
theorem dX9_clears_22 : decode cX9_clears 22 = .ok (.iconst 0, 1) := by decide +kernel
theorem dX9_clears_23 : decode cX9_clears 23 = .ok (.iastore, 1) := by decide +kernel
theorem dX9_clears_24 : decode cX9_clears 24 = .ok (.iinc 1 1, 3) := by decide +kernel
theorem dX9_clears_27 : decode cX9_clears 27 = .ok (.goto (-18), 3) := by decide +kernel
theorem dX9_clears_30 : decode cX9_clears 30 = .ok (.return_, 1) := by decide +kernel
set_option maxHeartbeats 4000000 in
set_option maxRecDepth 100000 in
theorem m_X9_clears (l : Launch) (D : va_G) (cy : Nat → ClassId) (g : Nat → Nat) (σ : ST)  (sz : Nat) (hJ : J9 (σ 9)) (kDKA : DKA (σ 9)) : Met l yX9_clears (ww yX9_clears cX9_clears 2 none) ({ frames := 1, cells := 0, slots := 0, locals := 64 }) (va_Pc [.ref (g 60)] (pr9 D cy g σ sz)) (qv9 D cy g sz (fun τ => Fr (fL [16, 17]) σ τ ∧ J9 (τ 9) ∧ DKA (τ 9) ∧ (((τ 9).2.2.1 17 22).toInt = 0 ∧ ((τ 9).2.2.1 17 23).toInt = 0) ∧ True)) 0 0 (A9 cy g sz) := by
  refine Met.ofW (cc := cX9_clears) (maxL := 2) (ret := none) (by decide) rfl ?_
  intro p e s m args below meth c s₁ B hml hv
  obtain ⟨rfl, hsz, hP, hK, hD0, hC⟩ := hv
  have hx := B.exec
  have hb := B.bytes
  have hr := B.returns
  have hts := hts_g (atoms_spec (ws := ww yX9_clears cX9_clears 2 none) B.pre)
  have hown : s.vm.findClass RX9 = some m.cls := findClass_of_methodNamed B.named
  have hlocks := B.notSynchronized
  clear B
  subst hsz
  have hD := fun τ => A9_D (sz := s.heap.size) hD0 τ
  clear hD0
  have hS : va_S (A9 cy g s.heap.size) s.heap s.heap [] := va_S.rf
  have hl := lv_entry ([.ref (g 60)]) (n := 2) (Nat.le_of_ble_eq_true rfl)
  rw [lg_entry_eq]
  generalize (lg_sl ([.ref (g 60)]) ++ List.replicate (2 - (lg_sl ([.ref (g 60)])).length) Slot.unset).toArray = ls at hl ⊢
  have hl : lv_has ls 2 [(0, .ref (g 60))] := hl
  refine lv_aload_n hx hb dX9_clears_0 rfl (lv_at hl 0 rfl) ?_
  refine g9_16 hx hb hts hown hK hP (hts _ q1376) dX9_clears_1 ?_
  refine lv_iconst (v := 4) hx hb dX9_clears_4 (by decide) ?_
  refine lv_iconst (v := 0) hx hb dX9_clears_5 (by decide) ?_
  refine t9_16 hx hb hK hP hD hS (vpi (by decide)) dX9_clears_6 (fun H locs σ1 eσ1 hP hS => ?_)
  have hJ2 : J9 (σ1 9) := hJ.A eσ1 trivial
  have T3 : DKA (σ1 9) := DKA.mv kDKA ((sA_f eσ1) 9 17 rfl).2.2.1 ((sA_f eσ1) 9 18 rfl).2.2.1 ((sA_f eσ1) 9 19 rfl).2.2.1
  refine lv_iconst (v := 0) hx hb dX9_clears_7 (by decide) ?_
  refine lv_istore_n (lv' := [(1, .int 0), (0, .ref (g 60))]) hx hb dX9_clears_8 rfl hl (by decide) rfl (fun ls hl => ?_)
  refine loop9 2 9 (fun x : LZ => [(1, .int (x.2.1 0)), (0, .ref (g 60))]) (fun x : LZ => (Fr (fL [17]) σ1 x.1) ∧ (J9 (x.1 9)) ∧ ((0 : Int) ≤ (x.2.1 0).toInt ∧ (x.2.1 0).toInt ≤ 5) ∧ (((x.2.1 0).toInt ≤ 2 ∨ ((x.1 9).2.2.1 17 22).toInt = 0) ∧ ((x.2.1 0).toInt ≤ 3 ∨ ((x.1 9).2.2.1 17 23).toInt = 0)) ∧ (DKA (x.1 9)) ∧ True) (fun x : LZ => ((6 : Int) - (x.2.1 0).toInt).toNat) ?_ (σ1, lf [0], lg []) ⟨Fr.rf, hJ2, (show (0 : Int) ≤ (0 : Int32).toInt ∧ (0 : Int32).toInt ≤ 5 from (by have z0 : (0 : Int32).toInt = 0 := (by decide); omega)), (show ((0 : Int32).toInt ≤ 2 ∨ ((σ1 9).2.2.1 17 22).toInt = 0) ∧ ((0 : Int32).toInt ≤ 3 ∨ ((σ1 9).2.2.1 17 23).toInt = 0) from (by have f0 := h17_3 hJ2 (j := 23) (by decide); have f1 := congrArg Int32.toInt (show ((σ1 9).2.2.1 17 23) = ((σ 9).2.2.1 17 23) from congrFun (((sA_f eσ1) 9 17 rfl).2.2.1) _); have f2 := h17_2 hJ2 (j := 22) (by decide); have f3 := congrArg Int32.toInt (show ((σ1 9).2.2.1 17 22) = ((σ 9).2.2.1 17 22) from congrFun (((sA_f eσ1) 9 17 rfl).2.2.1) _); have f4 := h17_2 hJ (j := 22) (by decide); have f5 := h17_3 hJ (j := 23) (by decide); have z0 : (0 : Int32).toInt = 0 := (by decide); omega)), (show DKA (σ1 9) from T3), trivial⟩ _ _ _ hP hS (lv_sub hl [0, 1] rfl)
  intro y6 hI5 nl4 H locs ls hP hS hl
  obtain ⟨σ7, eσ7⟩ : ∃ z, z = y6.1 := ⟨_, rfl⟩
  rw [← eσ7] at hP hI5
  have hF8 : Fr (fL [17]) σ1 σ7 := hI5.1
  have hJ9 : J9 (σ7 9) := hI5.2.1
  have b10 : (0 : Int) ≤ (y6.2.1 0).toInt ∧ (y6.2.1 0).toInt ≤ 5 := hI5.2.2.1
  have b11 : ((y6.2.1 0).toInt ≤ 2 ∨ ((σ7 9).2.2.1 17 22).toInt = 0) ∧ ((y6.2.1 0).toInt ≤ 3 ∨ ((σ7 9).2.2.1 17 23).toInt = 0) := hI5.2.2.2.1
  have b12 : DKA (σ7 9) := hI5.2.2.2.2.1
  have hl : lv_has ls 2 [(1, .int (y6.2.1 0)), (0, .ref (g 60))] := hl
  refine lv_iload_n hx hb dX9_clears_9 rfl (lv_at hl 0 rfl) ?_
  refine lv_iconst (v := 5) hx hb dX9_clears_10 (by decide) ?_
  refine lv_icmp_ge (tgt := 30) hx hb dX9_clears_11 (by decide) (fun c13 => ?_) (fun c13 => ?_)
  ·
    have k14 := ple32 c13
    exact W.vret hx hb hr (fun tS ht hW => ⟨⟨σ7, rfl, ⟨Fr.tr (Fr.tr (Fr.rf) (sA_f eσ1) (fN_L rfl)) hF8 (fL_sub rfl), hJ9, b12, (show ((σ7 9).2.2.1 17 22).toInt = 0 ∧ ((σ7 9).2.2.1 17 23).toInt = 0 from (by have f0 := h17_3 hJ9 (j := 23) (by decide); have f1 := h17_2 hJ9 (j := 22) (by decide); have f2 := b11; have f3 := b10; have f4 := k14; have z5 : (5 : Int32).toInt = 5 := (by decide); omega)), trivial⟩, (show va_P D clz (WD9 cy g σ7) tS.heap by rw [ht]; exact hP)⟩, hS.F ht⟩) hS.2.2 dX9_clears_30
  ·
    have k15 := nle32 c13
    refine lv_aload_n hx hb dX9_clears_14 rfl (lv_at hl 1 rfl) ?_
    refine g9_17 hx hb hts hown hK hP (hts _ q1377) dX9_clears_15 ?_
    refine lv_bipush (v := 20) hx hb dX9_clears_18 (by decide) ?_
    refine lv_iload_n hx hb dX9_clears_20 rfl (lv_at hl 0 rfl) ?_
    refine lv_iadd hx hb dX9_clears_21 ?_
    refine lv_topi (fun x16 ex16 => ?_)
    have t17 := addO ex16 (by have f0 := b10; have f1 := k15; have f2 := b11; have f3 := h17_3 hJ9 (j := 23) (by decide); have f4 := h17_2 hJ9 (j := 22) (by decide); have g2 := rg32 (y6.2.1 0); have z5 : (5 : Int32).toInt = 5 := (by decide); have z20 : (20 : Int32).toInt = 20 := (by decide); omega)
    refine lv_iconst (v := 0) hx hb dX9_clears_22 (by decide) ?_
    refine t9_17 hx hb hK hP hD hS (vpo (by have f0 := t17; have f1 := b10; have f2 := k15; have g0 := rg32 x16; have z5 : (5 : Int32).toInt = 5 := (by decide); have z20 : (20 : Int32).toInt = 20 := (by decide); omega)) dX9_clears_23 (fun H locs σ18 eσ18 hP hS => ?_)
    have hJ19 : J9 (σ18 9) := hJ9.A eσ18 (show PA9 17 x16.toInt.toNat (0 : Int32) from (by have f0 := t17; have f1 := b10; have f2 := k15; have g0 := rg32 x16; have z0 : (0 : Int32).toInt = 0 := (by decide); have z5 : (5 : Int32).toInt = 5 := (by decide); have z20 : (20 : Int32).toInt = 20 := (by decide); exact ⟨by omega, by omega, by omega, by omega, by omega, by omega⟩))
    have T20 : DKA (σ18 9) := DKA.s17 b12 hJ9 eσ18 (by have f0 := t17; have f1 := b10; have f2 := k15; have f3 := updc eσ18 20; have f4 := h17_0 hJ19 (j := 20) (by decide); have f5 := h17_0 hJ9 (j := 20) (by decide); have f6 := updc eσ18 21; have f7 := h17_1 hJ9 (j := 21) (by decide); have f8 := h17_1 hJ19 (j := 21) (by decide); have f9 := updc eσ18 22; have f10 := h17_2 hJ19 (j := 22) (by decide); have f11 := h17_2 hJ9 (j := 22) (by decide); have f12 := updc eσ18 23; have f13 := h17_3 hJ9 (j := 23) (by decide); have f14 := h17_3 hJ19 (j := 23) (by decide); have f15 := updc eσ18 24; have f16 := h17_4 hJ9 (j := 24) (by decide); have f17 := h17_4 hJ19 (j := 24) (by decide); have g10 := rg32 x16; have z0 : (0 : Int32).toInt = 0 := (by decide); have z5 : (5 : Int32).toInt = 5 := (by decide); have z20 : (20 : Int32).toInt = 20 := (by decide); omega)
    obtain ⟨x21, ex21⟩ : ∃ y : Int32, y = (y6.2.1 0) + 1 := ⟨_, rfl⟩
    have t22 := addO ex21 (by have f0 := b10; have f1 := k15; have f2 := t17; have f3 := b11; have f4 := h17_3 hJ9 (j := 23) (by decide); have f5 := h17_2 hJ9 (j := 22) (by decide); have g2 := rg32 (y6.2.1 0); have z1 : (1 : Int32).toInt = 1 := (by decide); have z5 : (5 : Int32).toInt = 5 := (by decide); have z20 : (20 : Int32).toInt = 20 := (by decide); omega)
    refine lv_iinc (v := x21) (lv' := [(1, .int x21), (0, .ref (g 60))]) hx hb dX9_clears_24 hl (k := 0) rfl (by rw [ex21]; rfl) (by decide) rfl (fun ls hl => ?_)
    refine lv_goto (tgt := 9) hx hb dX9_clears_27 (by decide) ?_
    have t23 : ((6 : Int) - x21.toInt).toNat < ((6 : Int) - (y6.2.1 0).toInt).toNat := (by have f0 := b10; have f1 := k15; have f2 := t17; have f3 := t22; have f4 := b11; have f5 := h17_3 hJ9 (j := 23) (by decide); have f6 := h17_2 hJ9 (j := 22) (by decide); have g2 := rg32 (y6.2.1 0); have g3 := rg32 x21; have z1 : (1 : Int32).toInt = 1 := (by decide); have z5 : (5 : Int32).toInt = 5 := (by decide); have z20 : (20 : Int32).toInt = 20 := (by decide); omega)
    exact nl4 (σ18, lf [x21], lg []) ⟨Fr.tr (Fr.tr (Fr.rf) hF8 (fL_sub rfl)) (sA_f eσ18) (fN_L rfl), hJ19, (show (0 : Int) ≤ (x21 : Int32).toInt ∧ (x21 : Int32).toInt ≤ 5 from (by have f0 := t22; have f1 := b10; have f2 := k15; have f3 := t17; have g0 := rg32 x21; have z1 : (1 : Int32).toInt = 1 := (by decide); have z5 : (5 : Int32).toInt = 5 := (by decide); have z20 : (20 : Int32).toInt = 20 := (by decide); omega)), (show (x21.toInt ≤ 2 ∨ ((σ18 9).2.2.1 17 22).toInt = 0) ∧ (x21.toInt ≤ 3 ∨ ((σ18 9).2.2.1 17 23).toInt = 0) from (by have f0 := h17_2 hJ19 (j := 22) (by decide); have f1 := h17_3 hJ19 (j := 23) (by decide); have f2 := t22; have f3 := b10; have f4 := k15; have f5 := t17; have f6 := updc eσ18 22; have f7 := h17_2 hJ9 (j := 22) (by decide); have f8 := updc eσ18 23; have f9 := h17_3 hJ9 (j := 23) (by decide); have g4 := rg32 x21; have z0 : (0 : Int32).toInt = 0 := (by decide); have z1 : (1 : Int32).toInt = 1 := (by decide); have z5 : (5 : Int32).toInt = 5 := (by decide); have z20 : (20 : Int32).toInt = 20 := (by decide); omega)), (show DKA (σ18 9) from T20), trivial⟩ (show ((6 : Int) - x21.toInt).toNat < _ from by first | exact t23 | (rw [← eσ7]; exact t23)) _ _ _ hP hS (lv_sub hl [0, 1] rfl)

