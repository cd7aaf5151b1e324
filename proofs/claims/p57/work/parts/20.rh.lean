theorem q1923 : Cond.code yX9_laysOctaves cX9_laysOctaves 4 none ∈ lw_g := lw_gm (List.mem_of_getElem? (i := 1923) (by decide +kernel)) rfl
theorem q1403 : Cond.fieldLink RX9 89 "LipsAndSlidesModel" "octaveMany" "[I" ∈ lw_g := lw_gm (List.mem_of_getElem? (i := 1403) (by decide +kernel)) rfl
theorem dX9_laysOctaves_0 : decode cX9_laysOctaves 0 = .ok (.iconst 0, 1) := by decide +kernel
theorem dX9_laysOctaves_1 : decode cX9_laysOctaves 1 = .ok (.istore_n 1, 1) := by decide +kernel
theorem dX9_laysOctaves_2 : decode cX9_laysOctaves 2 = .ok (.iload_n 1, 1) := by decide +kernel
theorem dX9_laysOctaves_3 : decode cX9_laysOctaves 3 = .ok (.aload_n 0, 1) := by decide +kernel
theorem dX9_laysOctaves_4 : decode cX9_laysOctaves 4 = .ok (.getfield 387, 3) := by decide +kernel
theorem dX9_laysOctaves_7 : decode cX9_laysOctaves 7 = .ok (.if_icmp .ge 146, 3) := by decide +kernel
theorem dX9_laysOctaves_10 : decode cX9_laysOctaves 10 = .ok (.iconst 0, 1) := by decide +kernel
theorem dX9_laysOctaves_11 : decode cX9_laysOctaves 11 = .ok (.istore_n 2, 1) := by decide +kernel
theorem dX9_laysOctaves_12 : decode cX9_laysOctaves 12 = .ok (.iload_n 2, 1) := by decide +kernel
theorem dX9_laysOctaves_13 : decode cX9_laysOctaves 13 = .ok (.iconst 3, 1) := by decide +kernel
theorem dX9_laysOctaves_14 : decode cX9_laysOctaves 14 = .ok (.if_icmp .ge 133, 3) := by decide +kernel
theorem dX9_laysOctaves_17 : decode cX9_laysOctaves 17 = .ok (.aload_n 0, 1) := by decide +kernel
theorem dX9_laysOctaves_18 : decode cX9_laysOctaves 18 = .ok (.bipush 16, 2) := by decide +kernel
theorem dX9_laysOctaves_20 : decode cX9_laysOctaves 20 = .ok (.aload_n 0, 1) := by decide +kernel
theorem dX9_laysOctaves_21 : decode cX9_laysOctaves 21 = .ok (.getfield 378, 3) := by decide +kernel
theorem dX9_laysOctaves_24 : decode cX9_laysOctaves 24 = .ok (.aload_n 0, 1) := by decide +kernel
theorem dX9_laysOctaves_25 : decode cX9_laysOctaves 25 = .ok (.aload_n 0, 1) := by decide +kernel
theorem dX9_laysOctaves_26 : decode cX9_laysOctaves 26 = .ok (.getfield 384, 3) := by decide +kernel
theorem dX9_laysOctaves_29 : decode cX9_laysOctaves 29 = .ok (.aload_n 0, 1) := by decide +kernel
theorem dX9_laysOctaves_30 : decode cX9_laysOctaves 30 = .ok (.getfield 65, 3) := by decide +kernel
theorem dX9_laysOctaves_33 : decode cX9_laysOctaves 33 = .ok (.iload_n 1, 1) := by decide +kernel
theorem dX9_laysOctaves_34 : decode cX9_laysOctaves 34 = .ok (.iaload, 1) := by decide +kernel
theorem dX9_laysOctaves_35 : decode cX9_laysOctaves 35 = .ok (.iconst 0, 1) := by decide +kernel
theorem dX9_laysOctaves_36 : decode cX9_laysOctaves 36 = .ok (.invokevirtual 308, 3) := by decide +kernel
theorem dX9_laysOctaves_39 : decode cX9_laysOctaves 39 = .ok (.bipush 12, 2) := by decide +kernel
theorem dX9_laysOctaves_41 : decode cX9_laysOctaves 41 = .ok (.iload_n 2, 1) := by decide +kernel
theorem dX9_laysOctaves_42 : decode cX9_laysOctaves 42 = .ok (.iconst 1, 1) := by decide +kernel
theorem dX9_laysOctaves_43 : decode cX9_laysOctaves 43 = .ok (.isub, 1) := by decide +kernel
theorem dX9_laysOctaves_44 : decode cX9_laysOctaves 44 = .ok (.imul, 1) := by decide +kernel
theorem dX9_laysOctaves_45 : decode cX9_laysOctaves 45 = .ok (.iadd, 1) := by decide +kernel
theorem dX9_laysOctaves_46 : decode cX9_laysOctaves 46 = .ok (.aload_n 0, 1) := by decide +kernel
theorem dX9_laysOctaves_47 : decode cX9_laysOctaves 47 = .ok (.getfield 34, 3) := by decide +kernel
theorem dX9_laysOctaves_50 : decode cX9_laysOctaves 50 = .ok (.iconst 0, 1) := by decide +kernel
theorem dX9_laysOctaves_51 : decode cX9_laysOctaves 51 = .ok (.iaload, 1) := by decide +kernel
theorem dX9_laysOctaves_52 : decode cX9_laysOctaves 52 = .ok (.invokevirtual 371, 3) := by decide +kernel
theorem dX9_laysOctaves_55 : decode cX9_laysOctaves 55 = .ok (.aload_n 0, 1) := by decide +kernel
theorem dX9_laysOctaves_56 : decode cX9_laysOctaves 56 = .ok (.getfield 89, 3) := by decide +kernel
theorem dX9_laysOctaves_59 : decode cX9_laysOctaves 59 = .ok (.iconst 3, 1) := by decide +kernel
theorem dX9_laysOctaves_60 : decode cX9_laysOctaves 60 = .ok (.iload_n 1, 1) := by decide +kernel
theorem dX9_laysOctaves_61 : decode cX9_laysOctaves 61 = .ok (.imul, 1) := by decide +kernel
theorem dX9_laysOctaves_62 : decode cX9_laysOctaves 62 = .ok (.iload_n 2, 1) := by decide +kernel
theorem dX9_laysOctaves_63 : decode cX9_laysOctaves 63 = .ok (.iadd, 1) := by decide +kernel
theorem dX9_laysOctaves_64 : decode cX9_laysOctaves 64 = .ok (.aload_n 0, 1) := by decide +kernel
theorem dX9_laysOctaves_65 : decode cX9_laysOctaves 65 = .ok (.getfield 53, 3) := by decide +kernel
theorem dX9_laysOctaves_68 : decode cX9_laysOctaves 68 = .ok (.bipush 16, 2) := by decide +kernel
theorem dX9_laysOctaves_70 : decode cX9_laysOctaves 70 = .ok (.iaload, 1) := by decide +kernel
theorem dX9_laysOctaves_71 : decode cX9_laysOctaves 71 = .ok (.iastore, 1) := by decide +kernel
theorem dX9_laysOctaves_72 : decode cX9_laysOctaves 72 = .ok (.iconst 0, 1) := by decide +kernel
theorem dX9_laysOctaves_73 : decode cX9_laysOctaves 73 = .ok (.istore_n 3, 1) := by decide +kernel
theorem dX9_laysOctaves_74 : decode cX9_laysOctaves 74 = .ok (.iload_n 3, 1) := by decide +kernel
theorem dX9_laysOctaves_75 : decode cX9_laysOctaves 75 = .ok (.aload_n 0, 1) := by decide +kernel
theorem dX9_laysOctaves_76 : decode cX9_laysOctaves 76 = .ok (.getfield 53, 3) := by decide +kernel
theorem dX9_laysOctaves_79 : decode cX9_laysOctaves 79 = .ok (.bipush 16, 2) := by decide +kernel
theorem dX9_laysOctaves_81 : decode cX9_laysOctaves 81 = .ok (.iaload, 1) := by decide +kernel
theorem dX9_laysOctaves_82 : decode cX9_laysOctaves 82 = .ok (.if_icmp .ge 59, 3) := by decide +kernel
theorem dX9_laysOctaves_85 : decode cX9_laysOctaves 85 = .ok (.aload_n 0, 1) := by decide +kernel
theorem dX9_laysOctaves_86 : decode cX9_laysOctaves 86 = .ok (.getfield 92, 3) := by decide +kernel
theorem dX9_laysOctaves_89 : decode cX9_laysOctaves 89 = .ok (.bipush 88, 2) := by decide +kernel
theorem dX9_laysOctaves_91 : decode cX9_laysOctaves 91 = .ok (.iconst 3, 1) := by decide +kernel
theorem dX9_laysOctaves_92 : decode cX9_laysOctaves 92 = .ok (.iload_n 1, 1) := by decide +kernel
theorem dX9_laysOctaves_93 : decode cX9_laysOctaves 93 = .ok (.imul, 1) := by decide +kernel
theorem dX9_laysOctaves_94 : decode cX9_laysOctaves 94 = .ok (.iload_n 2, 1) := by decide +kernel
theorem dX9_laysOctaves_95 : decode cX9_laysOctaves 95 = .ok (.iadd, 1) := by decide +kernel
theorem dX9_laysOctaves_96 : decode cX9_laysOctaves 96 = .ok (.imul, 1) := by decide +kernel
theorem dX9_laysOctaves_97 : decode cX9_laysOctaves 97 = .ok (.iload_n 3, 1) := by decide +kernel
theorem dX9_laysOctaves_98 : decode cX9_laysOctaves 98 = .ok (.iadd, 1) := by decide +kernel
theorem dX9_laysOctaves_99 : decode cX9_laysOctaves 99 = .ok (.aload_n 0, 1) := by decide +kernel
theorem dX9_laysOctaves_100 : decode cX9_laysOctaves 100 = .ok (.getfield 56, 3) := by decide +kernel
theorem dX9_laysOctaves_103 : decode cX9_laysOctaves 103 = .ok (.sipush 1408, 3) := by decide +kernel
theorem dX9_laysOctaves_106 : decode cX9_laysOctaves 106 = .ok (.iload_n 3, 1) := by decide +kernel
theorem dX9_laysOctaves_107 : decode cX9_laysOctaves 107 = .ok (.iadd, 1) := by decide +kernel
theorem dX9_laysOctaves_108 : decode cX9_laysOctaves 108 = .ok (.iaload, 1) := by decide +kernel
theorem dX9_laysOctaves_109 : decode cX9_laysOctaves 109 = .ok (.iastore, 1) := by decide +kernel
theorem dX9_laysOctaves_110 : decode cX9_laysOctaves 110 = .ok (.aload_n 0, 1) := by decide +kernel
theorem dX9_laysOctaves_111 : decode cX9_laysOctaves 111 = .ok (.getfield 95, 3) := by decide +kernel
theorem dX9_laysOctaves_114 : decode cX9_laysOctaves 114 = .ok (.bipush 88, 2) := by decide +kernel
theorem dX9_laysOctaves_116 : decode cX9_laysOctaves 116 = .ok (.iconst 3, 1) := by decide +kernel
theorem dX9_laysOctaves_117 : decode cX9_laysOctaves 117 = .ok (.iload_n 1, 1) := by decide +kernel
theorem dX9_laysOctaves_118 : decode cX9_laysOctaves 118 = .ok (.imul, 1) := by decide +kernel
theorem dX9_laysOctaves_119 : decode cX9_laysOctaves 119 = .ok (.iload_n 2, 1) := by decide +kernel
theorem dX9_laysOctaves_120 : decode cX9_laysOctaves 120 = .ok (.iadd, 1) := by decide +kernel
theorem dX9_laysOctaves_121 : decode cX9_laysOctaves 121 = .ok (.imul, 1) := by decide +kernel
theorem dX9_laysOctaves_122 : decode cX9_laysOctaves 122 = .ok (.iload_n 3, 1) := by decide +kernel
theorem dX9_laysOctaves_123 : decode cX9_laysOctaves 123 = .ok (.iadd, 1) := by decide +kernel
theorem dX9_laysOctaves_124 : decode cX9_laysOctaves 124 = .ok (.aload_n 0, 1) := by decide +kernel
theorem dX9_laysOctaves_125 : decode cX9_laysOctaves 125 = .ok (.getfield 59, 3) := by decide +kernel
theorem dX9_laysOctaves_128 : decode cX9_laysOctaves 128 = .ok (.sipush 1408, 3) := by decide +kernel
theorem dX9_laysOctaves_131 : decode cX9_laysOctaves 131 = .ok (.iload_n 3, 1) := by decide +kernel
theorem dX9_laysOctaves_132 : decode cX9_laysOctaves 132 = .ok (.iadd, 1) := by decide +kernel
theorem dX9_laysOctaves_133 : decode cX9_laysOctaves 133 = .ok (.iaload, 1) := by decide +kernel
theorem dX9_laysOctaves_134 : decode cX9_laysOctaves 134 = .ok (.iastore, 1) := by decide +kernel
theorem dX9_laysOctaves_135 : decode cX9_laysOctaves 135 = .ok (.iinc 3 1, 3) := by decide +kernel
theorem dX9_laysOctaves_138 : decode cX9_laysOctaves 138 = .ok (.goto (-64), 3) := by decide +kernel
theorem dX9_laysOctaves_141 : decode cX9_laysOctaves 141 = .ok (.iinc 2 1, 3) := by decide +kernel
theorem dX9_laysOctaves_144 : decode cX9_laysOctaves 144 = .ok (.goto (-132), 3) := by decide +kernel
theorem dX9_laysOctaves_147 : decode cX9_laysOctaves 147 = .ok (.iinc 1 1, 3) := by decide +kernel
theorem dX9_laysOctaves_150 : decode cX9_laysOctaves 150 = .ok (.goto (-148), 3) := by decide +kernel
theorem dX9_laysOctaves_153 : decode cX9_laysOctaves 153 = .ok (.return_, 1) := by decide +kernel
set_option maxHeartbeats 4000000 in
set_option maxRecDepth 100000 in
theorem m_X9_laysOctaves (l : Launch) (D : va_G) (cy : Nat → ClassId) (g : Nat → Nat) (σ : ST)  (sz : Nat) (hJ : J9 (σ 9)) (kHK : HK (σ 9)) : Met l yX9_laysOctaves (ww yX9_laysOctaves cX9_laysOctaves 4 none) ({ frames := 4, cells := 0, slots := 0, locals := 256 }) (va_Pc [.ref (g 60)] (pr9 D cy g σ sz)) (qv9 D cy g sz (fun τ => Fr (fL [23, 24, 25, 26, 27, 43, 44, 45]) σ τ ∧ J9 (τ 9) ∧ True)) 0 0 (A9 cy g sz) := by
  refine Met.ofW (cc := cX9_laysOctaves) (maxL := 4) (ret := none) (by decide) rfl ?_
  intro p e s m args below meth c s₁ B hml hv
  obtain ⟨rfl, hsz, hP, hK, hD0, hC⟩ := hv
  have hx := B.exec
  have hb := B.bytes
  have hr := B.returns
  have hts := hts_g (atoms_spec (ws := ww yX9_laysOctaves cX9_laysOctaves 4 none) B.pre)
  have hown : s.vm.findClass RX9 = some m.cls := findClass_of_methodNamed B.named
  have hlocks := B.notSynchronized
  clear B
  subst hsz
  have hD := fun τ => A9_D (sz := s.heap.size) hD0 τ
  clear hD0
  have hS : va_S (A9 cy g s.heap.size) s.heap s.heap [] := va_S.rf
  have hl := lv_entry ([.ref (g 60)]) (n := 4) (Nat.le_of_ble_eq_true rfl)
  rw [lg_entry_eq]
  generalize (lg_sl ([.ref (g 60)]) ++ List.replicate (4 - (lg_sl ([.ref (g 60)])).length) Slot.unset).toArray = ls at hl ⊢
  have hl : lv_has ls 4 [(0, .ref (g 60))] := hl
  refine lv_iconst (v := 0) hx hb dX9_laysOctaves_0 (by decide) ?_
  refine lv_istore_n (lv' := [(1, .int 0), (0, .ref (g 60))]) hx hb dX9_laysOctaves_1 rfl hl (by decide) rfl (fun ls hl => ?_)
  refine loop9 4 2 (fun x : LZ => [(1, .int (x.2.1 0)), (0, .ref (g 60))]) (fun x : LZ => (Fr (fL [23, 24, 25, 26, 27, 43, 44, 45]) σ x.1) ∧ (J9 (x.1 9)) ∧ ((0 : Int) ≤ (x.2.1 0).toInt ∧ (x.2.1 0).toInt ≤ 16) ∧ (HK (x.1 9)) ∧ True) (fun x : LZ => ((17 : Int) - (x.2.1 0).toInt).toNat) ?_ (σ, lf [0], lg []) ⟨Fr.rf, hJ, (show (0 : Int) ≤ (0 : Int32).toInt ∧ (0 : Int32).toInt ≤ 16 from (by have z0 : (0 : Int32).toInt = 0 := (by decide); omega)), (show HK (σ 9) from kHK), trivial⟩ _ _ _ hP hS (lv_sub hl [0, 1] rfl)
  intro y3 hI2 nl1 H locs ls hP hS hl
  obtain ⟨σ4, eσ4⟩ : ∃ z, z = y3.1 := ⟨_, rfl⟩
  rw [← eσ4] at hP hI2
  have hF5 : Fr (fL [23, 24, 25, 26, 27, 43, 44, 45]) σ σ4 := hI2.1
  have hJ6 : J9 (σ4 9) := hI2.2.1
  have b7 : (0 : Int) ≤ (y3.2.1 0).toInt ∧ (y3.2.1 0).toInt ≤ 16 := hI2.2.2.1
  have b8 : HK (σ4 9) := hI2.2.2.2.1
  have hl : lv_has ls 4 [(1, .int (y3.2.1 0)), (0, .ref (g 60))] := hl
  refine lv_iload_n hx hb dX9_laysOctaves_2 rfl (lv_at hl 0 rfl) ?_
  refine lv_aload_n hx hb dX9_laysOctaves_3 rfl (lv_at hl 1 rfl) ?_
  refine g9_31 (x := ((σ 9).1 31)) hx hb hts hown hK hP ((hF5 9 31 rfl).1) (hts _ q1391) dX9_laysOctaves_4 ?_
  refine lv_icmp_ge (tgt := 153) hx hb dX9_laysOctaves_7 (by decide) (fun c9 => ?_) (fun c9 => ?_)
  ·
    have k10 := ple32 c9
    exact W.vret hx hb hr (fun tS ht hW => ⟨⟨σ4, rfl, ⟨Fr.tr (Fr.rf) hF5 (fL_sub rfl), hJ6, trivial⟩, (show va_P D clz (WD9 cy g σ4) tS.heap by rw [ht]; exact hP)⟩, hS.F ht⟩) hS.2.2 dX9_laysOctaves_153
  ·
    have k11 := nle32 c9
    refine lv_iconst (v := 0) hx hb dX9_laysOctaves_10 (by decide) ?_
    refine lv_istore_n (lv' := [(2, .int 0), (1, .int (y3.2.1 0)), (0, .ref (g 60))]) hx hb dX9_laysOctaves_11 rfl hl (by decide) rfl (fun ls hl => ?_)
    refine loop9 4 12 (fun x : LZ => [(2, .int (x.2.1 0)), (1, .int (y3.2.1 0)), (0, .ref (g 60))]) (fun x : LZ => (Fr (fL [23, 24, 25, 26, 27, 43, 44, 45]) σ4 x.1) ∧ (J9 (x.1 9)) ∧ ((0 : Int) ≤ (x.2.1 0).toInt ∧ (x.2.1 0).toInt ≤ 3) ∧ (HK (x.1 9)) ∧ True) (fun x : LZ => ((4 : Int) - (x.2.1 0).toInt).toNat) ?_ (σ4, lf [0], lg []) ⟨Fr.rf, hJ6, (show (0 : Int) ≤ (0 : Int32).toInt ∧ (0 : Int32).toInt ≤ 3 from (by have z0 : (0 : Int32).toInt = 0 := (by decide); omega)), (show HK (σ4 9) from b8), trivial⟩ _ _ _ hP hS (lv_sub hl [0, 1, 2] rfl)
    intro y14 hI13 nl12 H locs ls hP hS hl
    obtain ⟨σ15, eσ15⟩ : ∃ z, z = y14.1 := ⟨_, rfl⟩
    rw [← eσ15] at hP hI13
    have hF16 : Fr (fL [23, 24, 25, 26, 27, 43, 44, 45]) σ4 σ15 := hI13.1
    have hJ17 : J9 (σ15 9) := hI13.2.1
    have b18 : (0 : Int) ≤ (y14.2.1 0).toInt ∧ (y14.2.1 0).toInt ≤ 3 := hI13.2.2.1
    have b19 : HK (σ15 9) := hI13.2.2.2.1
    have hl : lv_has ls 4 [(2, .int (y14.2.1 0)), (1, .int (y3.2.1 0)), (0, .ref (g 60))] := hl
    refine lv_iload_n hx hb dX9_laysOctaves_12 rfl (lv_at hl 0 rfl) ?_
    refine lv_iconst (v := 3) hx hb dX9_laysOctaves_13 (by decide) ?_
    refine lv_icmp_ge (tgt := 147) hx hb dX9_laysOctaves_14 (by decide) (fun c20 => ?_) (fun c20 => ?_)
    ·
      have k21 := ple32 c20
      obtain ⟨x22, ex22⟩ : ∃ y : Int32, y = (y3.2.1 0) + 1 := ⟨_, rfl⟩
      have t23 := addO ex22 (by have f0 := b7; have f1 := k11; have f2 := j9_31 hJ rfl; have g0 := rg32 (y3.2.1 0); have z1 : (1 : Int32).toInt = 1 := (by decide); omega)
      refine lv_iinc (v := x22) (lv' := [(1, .int x22), (2, .int (y14.2.1 0)), (0, .ref (g 60))]) hx hb dX9_laysOctaves_147 hl (k := 1) rfl (by rw [ex22]; rfl) (by decide) rfl (fun ls hl => ?_)
      refine lv_goto (tgt := 2) hx hb dX9_laysOctaves_150 (by decide) ?_
      have t24 : ((17 : Int) - x22.toInt).toNat < ((17 : Int) - (y3.2.1 0).toInt).toNat := (by have f0 := b7; have f1 := k11; have f2 := t23; have f3 := j9_31 hJ rfl; have g0 := rg32 (y3.2.1 0); have g1 := rg32 x22; have z1 : (1 : Int32).toInt = 1 := (by decide); omega)
      exact nl1 (σ15, lf [x22], lg []) ⟨Fr.tr (Fr.tr (Fr.rf) hF5 (fL_sub rfl)) hF16 (fL_sub rfl), hJ17, (show (0 : Int) ≤ (x22 : Int32).toInt ∧ (x22 : Int32).toInt ≤ 16 from (by have f0 := t23; have f1 := b7; have f2 := k11; have f3 := j9_31 hJ rfl; have g0 := rg32 x22; have z1 : (1 : Int32).toInt = 1 := (by decide); omega)), (show HK (σ15 9) from b19), trivial⟩ (show ((17 : Int) - x22.toInt).toNat < _ from by first | exact t24 | (rw [← eσ4]; exact t24)) _ _ _ hP hS (lv_sub hl [0, 2] rfl)
    ·
      have k25 := nle32 c20
      refine lv_aload_n hx hb dX9_laysOctaves_17 rfl (lv_at hl 2 rfl) ?_
      refine lv_bipush (v := 16) hx hb dX9_laysOctaves_18 (by decide) ?_
      refine lv_aload_n hx hb dX9_laysOctaves_20 rfl (lv_at hl 2 rfl) ?_
      refine g9_28 (x := ((σ 9).1 28)) hx hb hts hown hK hP (((hF16 9 28 rfl).1).trans ((hF5 9 28 rfl).1)) (hts _ q1388) dX9_laysOctaves_21 ?_
      refine lv_aload_n hx hb dX9_laysOctaves_24 rfl (lv_at hl 2 rfl) ?_
      refine lv_aload_n hx hb dX9_laysOctaves_25 rfl (lv_at hl 2 rfl) ?_
      refine g9_29 (x := ((σ 9).1 29)) hx hb hts hown hK hP (((hF16 9 29 rfl).1).trans ((hF5 9 29 rfl).1)) (hts _ q1389) dX9_laysOctaves_26 ?_
      refine lv_aload_n hx hb dX9_laysOctaves_29 rfl (lv_at hl 2 rfl) ?_
      refine g9_32 hx hb hts hown hK hP (hts _ q1392) dX9_laysOctaves_30 ?_
      refine lv_iload_n hx hb dX9_laysOctaves_33 rfl (lv_at hl 1 rfl) ?_
      obtain ⟨x26, ex26⟩ : ∃ z, (σ 9).2.2.1 32 (y3.2.1 0).toInt.toNat = z := ⟨_, rfl⟩
      refine l9_32 (x := x26) hx hb hK hP (vpo (by have f0 := b7; have f1 := k11; have f2 := j9_31 hJ rfl; have g0 := rg32 (y3.2.1 0); omega)) ((congrFun (((hF16 9 32 rfl).2.2.1).trans ((hF5 9 32 rfl).2.2.1)) _).trans ex26) dX9_laysOctaves_34 ?_
      have t27 := a9_32 hJ ex26
      refine lv_iconst (v := 0) hx hb dX9_laysOctaves_35 (by decide) ?_
      refine va_calli (va_runV (As := [.int ((σ 9).1 29), .int x26, .int 0]) (rest := [.int ((σ 9).1 28), .int 16, .ref (g 60)]) ⟨hx, hb, hml, hown, hts⟩ (m_X9_toneOf l D cy g σ15 ((σ 9).1 29) x26 (0) _ hJ17 (show (0 : Int) ≤ ((σ 9).1 29).toInt ∧ ((σ 9).1 29).toInt ≤ 2 from (by have f0 := j9_29 hJ rfl; omega)) (show (0 : Int) ≤ x26.toInt ∧ x26.toInt ≤ 15 from (by have f0 := j9_29 hJ rfl; have f1 := t27; have f2 := b7; have f3 := k11; have f4 := j9_31 hJ rfl; have g1 := rg32 x26; omega)) (show (0 : Int) ≤ (0 : Int32).toInt ∧ (0 : Int32).toInt ≤ 3 from (by have f0 := j9_29 hJ rfl; have f1 := t27; have f2 := b7; have f3 := k11; have f4 := j9_31 hJ rfl; have g1 := rg32 x26; have z0 : (0 : Int32).toInt = 0 := (by decide); omega))) (cwV 3 hts (gd_V q1727 q1729 q75 q134 q1730) rfl rfl rfl (by decide +kernel) ⟨Nat.le_of_ble_eq_true rfl, Nat.le_of_ble_eq_true rfl⟩) (pv9 hP hK hD hC hS (va_recv hK hP (ci := 9) (q0 := 0) rfl rfl)) rfl rfl hl.1 rfl (lv_room (Nat.le_of_ble_eq_true rfl)) dX9_laysOctaves_36 ⟨Nat.le_of_ble_eq_true rfl, Nat.le_of_ble_eq_true rfl⟩) hS (fun q _ h => up9 hS q h) (up9 hS) (fun r28 σ29 tS H1 locs ht hvm hw30 hB hz1 hk1 hS => ?_)
      have hP : va_P D clz (WD9 cy g σ29) H1 := by rw [← ht]; exact hB
      clear hB hz1 hk1 hvm ht
      generalize H1 = H at hP hS ⊢
      have hw30E : σ15 = σ29 := (hw30.1).symm
      subst hw30E
      have b31 : (-1 : Int) ≤ r28.toInt ∧ r28.toInt ≤ 60 := hw30.2.1
      have b32 : ¬ (0 : Int32).toInt = 1 ∨ 0 ≤ r28.toInt := hw30.2.2.1
      refine lv_bipush (v := 12) hx hb dX9_laysOctaves_39 (by decide) ?_
      refine lv_iload_n hx hb dX9_laysOctaves_41 rfl (lv_at hl 0 rfl) ?_
      refine lv_iconst (v := 1) hx hb dX9_laysOctaves_42 (by decide) ?_
      refine lv_isub hx hb dX9_laysOctaves_43 ?_
      refine lv_topi (fun x33 ex33 => ?_)
      have t34 := subO ex33 (by have f0 := b18; have f1 := k25; have g0 := rg32 (y14.2.1 0); have z1 : (1 : Int32).toInt = 1 := (by decide); have z3 : (3 : Int32).toInt = 3 := (by decide); omega)
      refine lv_imul hx hb dX9_laysOctaves_44 ?_
      refine lv_topi (fun x35 ex35 => ?_)
      have t36 := mulC' (n := 12) ex35 (by decide) (by have f0 := t34; have f1 := b18; have f2 := k25; have g0 := rg32 x33; have z1 : (1 : Int32).toInt = 1 := (by decide); have z3 : (3 : Int32).toInt = 3 := (by decide); omega)
      refine lv_iadd hx hb dX9_laysOctaves_45 ?_
      refine lv_topi (fun x37 ex37 => ?_)
      have t38 := addO ex37 (by have f0 := b31; have f1 := b32; have f2 := t36; have f3 := t34; have f4 := b18; have f5 := k25; have g0 := rg32 r28; have g1 := rg32 x35; have z0 : (0 : Int32).toInt = 0 := (by decide); have z1 : (1 : Int32).toInt = 1 := (by decide); have z3 : (3 : Int32).toInt = 3 := (by decide); omega)
      refine lv_aload_n hx hb dX9_laysOctaves_46 rfl (lv_at hl 2 rfl) ?_
      refine g9_17 hx hb hts hown hK hP (hts _ q1377) dX9_laysOctaves_47 ?_
      refine lv_iconst (v := 0) hx hb dX9_laysOctaves_50 (by decide) ?_
      refine l9_17 (x := ((σ 9).2.2.1 17 0)) hx hb hK hP (vpi (by decide)) ((congrFun (((hF16 9 17 rfl).2.2.1).trans ((hF5 9 17 rfl).2.2.1)) _).trans (congrArg ((σ 9).2.2.1 17) (show (0 : Int32).toInt.toNat = 0 by decide))) dX9_laysOctaves_51 ?_
      refine va_callv (va_runV (As := [.int 16, .int ((σ 9).1 28), .int x37, .int ((σ 9).2.2.1 17 0)]) (rest := []) ⟨hx, hb, hml, hown, hts⟩ (m_X9_laysWays l D cy g σ15 (16) ((σ 9).1 28) x37 ((σ 9).2.2.1 17 0) _ hJ17 (show (0 : Int) ≤ (16 : Int32).toInt ∧ (16 : Int32).toInt ≤ 16 from (by have z16 : (16 : Int32).toInt = 16 := (by decide); omega)) (show (0 : Int) ≤ ((σ 9).1 28).toInt ∧ ((σ 9).1 28).toInt ≤ 3 from (by have f0 := j9_28 hJ rfl; have z16 : (16 : Int32).toInt = 16 := (by decide); omega)) (show 100 ≤ ((σ15 9).2.2.1 18 (7 * ((σ 9).1 28).toInt.toNat + 2)).toInt from (HK.to b19 (((hF16 9 28 rfl).1).trans ((hF5 9 28 rfl).1)) rfl))) (cwV 4 hts (gd_V q1802 q1804 q86 q134 q1805) rfl rfl rfl (by decide +kernel) ⟨Nat.le_of_ble_eq_true rfl, Nat.le_of_ble_eq_true rfl⟩) (pv9 hP hK hD hC hS (va_recv hK hP (ci := 9) (q0 := 0) rfl rfl)) rfl rfl hl.1 rfl (lv_room (Nat.le_of_ble_eq_true rfl)) dX9_laysOctaves_52 ⟨Nat.le_of_ble_eq_true rfl, Nat.le_of_ble_eq_true rfl⟩) hS (fun q _ h => up9 hS q h) (up9 hS) (fun σ40 tS H1 locs ht hvm hw41 hB hz1 hk1 hS => ?_)
      have hP : va_P D clz (WD9 cy g σ40) H1 := by rw [← ht]; exact hB
      clear hB hz1 hk1 hvm ht
      generalize H1 = H at hP hS ⊢
      have hF42 : Fr (fL [23, 24, 25, 26, 27]) σ15 σ40 := hw41.1
      have hJ43 : J9 (σ40 9) := hw41.2.1
      have T44 : HK (σ40 9) := HK.mv b19 (hF42 9 18 rfl).2.2.1 (hF42 9 28 rfl).1
      refine lv_aload_n hx hb dX9_laysOctaves_55 rfl (lv_at hl 2 rfl) ?_
      refine g9_43 hx hb hts hown hK hP (hts _ q1403) dX9_laysOctaves_56 ?_
      refine lv_iconst (v := 3) hx hb dX9_laysOctaves_59 (by decide) ?_
      refine lv_iload_n hx hb dX9_laysOctaves_60 rfl (lv_at hl 1 rfl) ?_
      refine lv_imul hx hb dX9_laysOctaves_61 ?_
      refine lv_topi (fun x45 ex45 => ?_)
      have t46 := mulC' (n := 3) ex45 (by decide) (by have f0 := b7; have f1 := k11; have f2 := t27; have f3 := j9_31 hJ rfl; have g0 := rg32 (y3.2.1 0); omega)
      refine lv_iload_n hx hb dX9_laysOctaves_62 rfl (lv_at hl 0 rfl) ?_
      refine lv_iadd hx hb dX9_laysOctaves_63 ?_
      refine lv_topi (fun x47 ex47 => ?_)
      have t48 := addO ex47 (by have f0 := b18; have f1 := k25; have f2 := t34; have f3 := t46; have f4 := b7; have f5 := k11; have f6 := t27; have f7 := t36; have f8 := j9_31 hJ rfl; have f9 := t38; have f10 := b31; have f11 := b32; have g0 := rg32 (y14.2.1 0); have g1 := rg32 x45; have z0 : (0 : Int32).toInt = 0 := (by decide); have z1 : (1 : Int32).toInt = 1 := (by decide); have z3 : (3 : Int32).toInt = 3 := (by decide); omega)
      refine lv_aload_n hx hb dX9_laysOctaves_64 rfl (lv_at hl 2 rfl) ?_
      refine g9_24 hx hb hts hown hK hP (hts _ q1384) dX9_laysOctaves_65 ?_
      refine lv_bipush (v := 16) hx hb dX9_laysOctaves_68 (by decide) ?_
      refine l9_24 (x := ((σ40 9).2.2.1 24 16)) hx hb hK hP (vpi (by decide)) (congrArg ((σ40 9).2.2.1 24) (show (16 : Int32).toInt.toNat = 16 by decide)) dX9_laysOctaves_70 ?_
      refine t9_43 hx hb hK hP hD hS (vpo (by have f0 := t48; have f1 := b18; have f2 := k25; have f3 := t34; have f4 := t46; have f5 := b7; have f6 := k11; have f7 := t27; have f8 := t36; have f9 := j9_31 hJ rfl; have f10 := t38; have f11 := b31; have f12 := b32; have g0 := rg32 x47; have z0 : (0 : Int32).toInt = 0 := (by decide); have z1 : (1 : Int32).toInt = 1 := (by decide); have z3 : (3 : Int32).toInt = 3 := (by decide); omega)) dX9_laysOctaves_71 (fun H locs σ49 eσ49 hP hS => ?_)
      have hJ50 : J9 (σ49 9) := hJ43.A eσ49 (show PA9 43 x47.toInt.toNat ((σ40 9).2.2.1 24 16) from (by have f0 := a9_24 hJ43 (j := 16) rfl; have f1 := t48; have f2 := b18; have f3 := k25; have f4 := t34; have f5 := t46; have f6 := b7; have f7 := k11; have f8 := t27; have f9 := t36; have f10 := j9_31 hJ rfl; have f11 := t38; have f12 := b31; have f13 := b32; have g1 := rg32 x47; have z0 : (0 : Int32).toInt = 0 := (by decide); have z1 : (1 : Int32).toInt = 1 := (by decide); have z3 : (3 : Int32).toInt = 3 := (by decide); exact ⟨by omega, by omega⟩))
      have T51 : HK (σ49 9) := HK.mv T44 ((sA_f eσ49) 9 18 rfl).2.2.1 ((sA_f eσ49) 9 28 rfl).1
      refine lv_iconst (v := 0) hx hb dX9_laysOctaves_72 (by decide) ?_
      refine lv_istore_n (lv' := [(3, .int 0), (2, .int (y14.2.1 0)), (1, .int (y3.2.1 0)), (0, .ref (g 60))]) hx hb dX9_laysOctaves_73 rfl hl (by decide) rfl (fun ls hl => ?_)
      refine loop9 4 74 (fun x : LZ => [(3, .int (x.2.1 0)), (2, .int (y14.2.1 0)), (1, .int (y3.2.1 0)), (0, .ref (g 60))]) (fun x : LZ => (Fr (fL [44, 45]) σ49 x.1) ∧ (J9 (x.1 9)) ∧ ((0 : Int) ≤ (x.2.1 0).toInt ∧ (x.2.1 0).toInt ≤ 88) ∧ (HK (x.1 9)) ∧ True) (fun x : LZ => ((89 : Int) - (x.2.1 0).toInt).toNat) ?_ (σ49, lf [0], lg []) ⟨Fr.rf, hJ50, (show (0 : Int) ≤ (0 : Int32).toInt ∧ (0 : Int32).toInt ≤ 88 from (by have z0 : (0 : Int32).toInt = 0 := (by decide); omega)), (show HK (σ49 9) from T51), trivial⟩ _ _ _ hP hS (lv_sub hl [0, 1, 2, 3] rfl)
      intro y54 hI53 nl52 H locs ls hP hS hl
      obtain ⟨σ55, eσ55⟩ : ∃ z, z = y54.1 := ⟨_, rfl⟩
      rw [← eσ55] at hP hI53
      have hF56 : Fr (fL [44, 45]) σ49 σ55 := hI53.1
      have hJ57 : J9 (σ55 9) := hI53.2.1
      have b58 : (0 : Int) ≤ (y54.2.1 0).toInt ∧ (y54.2.1 0).toInt ≤ 88 := hI53.2.2.1
      have b59 : HK (σ55 9) := hI53.2.2.2.1
      have hl : lv_has ls 4 [(3, .int (y54.2.1 0)), (2, .int (y14.2.1 0)), (1, .int (y3.2.1 0)), (0, .ref (g 60))] := hl
      refine lv_iload_n hx hb dX9_laysOctaves_74 rfl (lv_at hl 0 rfl) ?_
      refine lv_aload_n hx hb dX9_laysOctaves_75 rfl (lv_at hl 3 rfl) ?_
      refine g9_24 hx hb hts hown hK hP (hts _ q1384) dX9_laysOctaves_76 ?_
      refine lv_bipush (v := 16) hx hb dX9_laysOctaves_79 (by decide) ?_
      refine l9_24 (x := ((σ40 9).2.2.1 24 16)) hx hb hK hP (vpi (by decide)) ((congrFun (((hF56 9 24 rfl).2.2.1).trans (((sA_f eσ49) 9 24 rfl).2.2.1)) _).trans (congrArg ((σ40 9).2.2.1 24) (show (16 : Int32).toInt.toNat = 16 by decide))) dX9_laysOctaves_81 ?_
      refine lv_icmp_ge (tgt := 141) hx hb dX9_laysOctaves_82 (by decide) (fun c60 => ?_) (fun c60 => ?_)
      ·
        have k61 := ple32 c60
        obtain ⟨x62, ex62⟩ : ∃ y : Int32, y = (y14.2.1 0) + 1 := ⟨_, rfl⟩
        have t63 := addO ex62 (by have f0 := b18; have f1 := k25; have f2 := t34; have f3 := t48; have f4 := t36; have f5 := t46; have f6 := b7; have f7 := k11; have f8 := t27; have f9 := t38; have f10 := j9_31 hJ rfl; have f11 := b31; have f12 := b32; have g0 := rg32 (y14.2.1 0); have z0 : (0 : Int32).toInt = 0 := (by decide); have z1 : (1 : Int32).toInt = 1 := (by decide); have z3 : (3 : Int32).toInt = 3 := (by decide); omega)
        refine lv_iinc (v := x62) (lv' := [(2, .int x62), (3, .int (y54.2.1 0)), (1, .int (y3.2.1 0)), (0, .ref (g 60))]) hx hb dX9_laysOctaves_141 hl (k := 1) rfl (by rw [ex62]; rfl) (by decide) rfl (fun ls hl => ?_)
        refine lv_goto (tgt := 12) hx hb dX9_laysOctaves_144 (by decide) ?_
        have t64 : ((4 : Int) - x62.toInt).toNat < ((4 : Int) - (y14.2.1 0).toInt).toNat := (by have f0 := b18; have f1 := k25; have f2 := t34; have f3 := t48; have f4 := t63; have f5 := t36; have f6 := t46; have f7 := b7; have f8 := k11; have f9 := t27; have f10 := t38; have f11 := j9_31 hJ rfl; have f12 := b31; have f13 := b32; have g0 := rg32 (y14.2.1 0); have g1 := rg32 x62; have z0 : (0 : Int32).toInt = 0 := (by decide); have z1 : (1 : Int32).toInt = 1 := (by decide); have z3 : (3 : Int32).toInt = 3 := (by decide); omega)
        exact nl12 (σ55, lf [x62], lg []) ⟨Fr.tr (Fr.tr (Fr.tr (Fr.tr (Fr.rf) hF16 (fL_sub rfl)) hF42 (fL_sub rfl)) (sA_f eσ49) (fN_L rfl)) hF56 (fL_sub rfl), hJ57, (show (0 : Int) ≤ (x62 : Int32).toInt ∧ (x62 : Int32).toInt ≤ 3 from (by have f0 := t63; have f1 := b18; have f2 := k25; have f3 := t34; have f4 := t48; have f5 := t36; have f6 := t46; have f7 := b7; have f8 := k11; have f9 := t27; have f10 := t38; have f11 := j9_31 hJ rfl; have f12 := b31; have f13 := b32; have g0 := rg32 x62; have z0 : (0 : Int32).toInt = 0 := (by decide); have z1 : (1 : Int32).toInt = 1 := (by decide); have z3 : (3 : Int32).toInt = 3 := (by decide); omega)), (show HK (σ55 9) from b59), trivial⟩ (show ((4 : Int) - x62.toInt).toNat < _ from by first | exact t64 | (rw [← eσ15]; exact t64)) _ _ _ hP hS (lv_sub hl [0, 2, 3] rfl)
      ·
        have k65 := nle32 c60
        refine lv_aload_n hx hb dX9_laysOctaves_85 rfl (lv_at hl 3 rfl) ?_
        refine g9_44 hx hb hts hown hK hP (hts _ q1404) dX9_laysOctaves_86 ?_
        refine lv_bipush (v := 88) hx hb dX9_laysOctaves_89 (by decide) ?_
        refine lv_iconst (v := 3) hx hb dX9_laysOctaves_91 (by decide) ?_
        refine lv_iload_n hx hb dX9_laysOctaves_92 rfl (lv_at hl 2 rfl) ?_
        refine lv_imul hx hb dX9_laysOctaves_93 ?_
        refine lv_topi (fun x66 ex66 => ?_)
        have t67 := mulC' (n := 3) ex66 (by decide) (by have f0 := b7; have f1 := k11; have f2 := t27; have f3 := t46; have f4 := j9_31 hJ rfl; have f5 := t48; have f6 := b18; have f7 := k25; have f8 := t34; have f9 := t36; have f10 := t38; have f11 := b31; have f12 := b32; have g0 := rg32 (y3.2.1 0); have z0 : (0 : Int32).toInt = 0 := (by decide); have z1 : (1 : Int32).toInt = 1 := (by decide); have z3 : (3 : Int32).toInt = 3 := (by decide); omega)
        refine lv_iload_n hx hb dX9_laysOctaves_94 rfl (lv_at hl 1 rfl) ?_
        refine lv_iadd hx hb dX9_laysOctaves_95 ?_
        refine lv_topi (fun x68 ex68 => ?_)
        have t69 := addO ex68 (by have f0 := b18; have f1 := k25; have f2 := t34; have f3 := t48; have f4 := t67; have f5 := b7; have f6 := k11; have f7 := t27; have f8 := t36; have f9 := t46; have f10 := j9_31 hJ rfl; have f11 := t38; have f12 := b31; have f13 := b32; have g0 := rg32 (y14.2.1 0); have g1 := rg32 x66; have z0 : (0 : Int32).toInt = 0 := (by decide); have z1 : (1 : Int32).toInt = 1 := (by decide); have z3 : (3 : Int32).toInt = 3 := (by decide); omega)
        refine lv_imul hx hb dX9_laysOctaves_96 ?_
        refine lv_topi (fun x70 ex70 => ?_)
        have t71 := mulC' (n := 88) ex70 (by decide) (by have f0 := t69; have f1 := b18; have f2 := k25; have f3 := t34; have f4 := t48; have f5 := t67; have f6 := b7; have f7 := k11; have f8 := t27; have f9 := t36; have f10 := t46; have f11 := j9_31 hJ rfl; have f12 := t38; have f13 := b31; have f14 := b32; have g0 := rg32 x68; have z0 : (0 : Int32).toInt = 0 := (by decide); have z1 : (1 : Int32).toInt = 1 := (by decide); have z3 : (3 : Int32).toInt = 3 := (by decide); omega)
        refine lv_iload_n hx hb dX9_laysOctaves_97 rfl (lv_at hl 0 rfl) ?_
        refine lv_iadd hx hb dX9_laysOctaves_98 ?_
        refine lv_topi (fun x72 ex72 => ?_)
        have t73 := addO ex72 (by have f0 := b58; have f1 := k65; have f2 := t71; have f3 := a9_24 hJ43 (j := 16) rfl; have f4 := t69; have f5 := b18; have f6 := k25; have f7 := t34; have f8 := t48; have f9 := t67; have f10 := b7; have f11 := k11; have f12 := t27; have f13 := t36; have f14 := t46; have f15 := j9_31 hJ rfl; have f16 := t38; have f17 := b31; have f18 := b32; have g0 := rg32 (y54.2.1 0); have g1 := rg32 x70; have z0 : (0 : Int32).toInt = 0 := (by decide); have z1 : (1 : Int32).toInt = 1 := (by decide); have z3 : (3 : Int32).toInt = 3 := (by decide); omega)
        refine lv_aload_n hx hb dX9_laysOctaves_99 rfl (lv_at hl 3 rfl) ?_
        refine g9_25 hx hb hts hown hK hP (hts _ q1385) dX9_laysOctaves_100 ?_
        refine lv_sipush (v := 1408) hx hb dX9_laysOctaves_103 (by decide) ?_
        refine lv_iload_n hx hb dX9_laysOctaves_106 rfl (lv_at hl 0 rfl) ?_
        refine lv_iadd hx hb dX9_laysOctaves_107 ?_
        refine lv_topi (fun x74 ex74 => ?_)
        have t75 := addO ex74 (by have f0 := b58; have f1 := k65; have f2 := t73; have f3 := a9_24 hJ43 (j := 16) rfl; have f4 := t71; have f5 := t69; have f6 := b18; have f7 := k25; have f8 := t34; have f9 := t48; have f10 := t67; have f11 := b7; have f12 := k11; have f13 := t27; have f14 := t36; have f15 := t46; have f16 := j9_31 hJ rfl; have f17 := t38; have f18 := b31; have f19 := b32; have g0 := rg32 (y54.2.1 0); have z0 : (0 : Int32).toInt = 0 := (by decide); have z1 : (1 : Int32).toInt = 1 := (by decide); have z3 : (3 : Int32).toInt = 3 := (by decide); have z1408 : (1408 : Int32).toInt = 1408 := (by decide); omega)
        obtain ⟨x76, ex76⟩ : ∃ z, (σ40 9).2.2.1 25 x74.toInt.toNat = z := ⟨_, rfl⟩
        refine l9_25 (x := x76) hx hb hK hP (vpo (by have f0 := t75; have f1 := b58; have f2 := k65; have f3 := t73; have f4 := a9_24 hJ43 (j := 16) rfl; have f5 := t71; have f6 := t69; have f7 := b18; have f8 := k25; have f9 := t34; have f10 := t48; have f11 := t67; have f12 := b7; have f13 := k11; have f14 := t27; have f15 := t36; have f16 := t46; have f17 := j9_31 hJ rfl; have f18 := t38; have f19 := b31; have f20 := b32; have g0 := rg32 x74; have z0 : (0 : Int32).toInt = 0 := (by decide); have z1 : (1 : Int32).toInt = 1 := (by decide); have z3 : (3 : Int32).toInt = 3 := (by decide); have z1408 : (1408 : Int32).toInt = 1408 := (by decide); omega)) ((congrFun (((hF56 9 25 rfl).2.2.1).trans (((sA_f eσ49) 9 25 rfl).2.2.1)) _).trans ex76) dX9_laysOctaves_108 ?_
        refine t9_44 hx hb hK hP hD hS (vpo (by have f0 := t73; have f1 := b58; have f2 := k65; have f3 := t71; have f4 := t75; have f5 := a9_24 hJ43 (j := 16) rfl; have f6 := t69; have f7 := b18; have f8 := k25; have f9 := t34; have f10 := t48; have f11 := t67; have f12 := b7; have f13 := k11; have f14 := t27; have f15 := t36; have f16 := t46; have f17 := j9_31 hJ rfl; have f18 := t38; have f19 := b31; have f20 := b32; have g0 := rg32 x72; have z0 : (0 : Int32).toInt = 0 := (by decide); have z1 : (1 : Int32).toInt = 1 := (by decide); have z3 : (3 : Int32).toInt = 3 := (by decide); have z1408 : (1408 : Int32).toInt = 1408 := (by decide); omega)) dX9_laysOctaves_109 (fun H locs σ77 eσ77 hP hS => ?_)
        have hJ78 : J9 (σ77 9) := hJ57.A eσ77 trivial
        have T79 : HK (σ77 9) := HK.mv b59 ((sA_f eσ77) 9 18 rfl).2.2.1 ((sA_f eσ77) 9 28 rfl).1
        refine lv_aload_n hx hb dX9_laysOctaves_110 rfl (lv_at hl 3 rfl) ?_
        refine g9_45 hx hb hts hown hK hP (hts _ q1405) dX9_laysOctaves_111 ?_
        refine lv_bipush (v := 88) hx hb dX9_laysOctaves_114 (by decide) ?_
        refine lv_iconst (v := 3) hx hb dX9_laysOctaves_116 (by decide) ?_
        refine lv_iload_n hx hb dX9_laysOctaves_117 rfl (lv_at hl 2 rfl) ?_
        refine lv_imul hx hb dX9_laysOctaves_118 ?_
        refine lv_topi (fun x80 ex80 => ?_)
        have t81 := mulC' (n := 3) ex80 (by decide) (by have f0 := b7; have f1 := k11; have f2 := t27; have f3 := t46; have f4 := t67; have f5 := j9_31 hJ rfl; have f6 := t48; have f7 := t69; have f8 := b18; have f9 := k25; have f10 := t34; have f11 := t71; have f12 := t36; have f13 := t73; have f14 := t38; have f15 := b58; have f16 := k65; have f17 := t75; have f18 := a9_24 hJ43 (j := 16) rfl; have f19 := b31; have f20 := b32; have g0 := rg32 (y3.2.1 0); have z0 : (0 : Int32).toInt = 0 := (by decide); have z1 : (1 : Int32).toInt = 1 := (by decide); have z3 : (3 : Int32).toInt = 3 := (by decide); have z1408 : (1408 : Int32).toInt = 1408 := (by decide); omega)
        refine lv_iload_n hx hb dX9_laysOctaves_119 rfl (lv_at hl 1 rfl) ?_
        refine lv_iadd hx hb dX9_laysOctaves_120 ?_
        refine lv_topi (fun x82 ex82 => ?_)
        have t83 := addO ex82 (by have f0 := b18; have f1 := k25; have f2 := t34; have f3 := t48; have f4 := t69; have f5 := t81; have f6 := b7; have f7 := k11; have f8 := t27; have f9 := t36; have f10 := t46; have f11 := t67; have f12 := t71; have f13 := j9_31 hJ rfl; have f14 := t38; have f15 := t73; have f16 := b31; have f17 := b32; have f18 := b58; have f19 := k65; have f20 := t75; have f21 := a9_24 hJ43 (j := 16) rfl; have g0 := rg32 (y14.2.1 0); have g1 := rg32 x80; have z0 : (0 : Int32).toInt = 0 := (by decide); have z1 : (1 : Int32).toInt = 1 := (by decide); have z3 : (3 : Int32).toInt = 3 := (by decide); have z1408 : (1408 : Int32).toInt = 1408 := (by decide); omega)
        refine lv_imul hx hb dX9_laysOctaves_121 ?_
        refine lv_topi (fun x84 ex84 => ?_)
        have t85 := mulC' (n := 88) ex84 (by decide) (by have f0 := t83; have f1 := b18; have f2 := k25; have f3 := t34; have f4 := t48; have f5 := t69; have f6 := t81; have f7 := b7; have f8 := k11; have f9 := t27; have f10 := t36; have f11 := t46; have f12 := t67; have f13 := t71; have f14 := j9_31 hJ rfl; have f15 := t38; have f16 := t73; have f17 := b31; have f18 := b32; have f19 := b58; have f20 := k65; have f21 := t75; have f22 := a9_24 hJ43 (j := 16) rfl; have g0 := rg32 x82; have z0 : (0 : Int32).toInt = 0 := (by decide); have z1 : (1 : Int32).toInt = 1 := (by decide); have z3 : (3 : Int32).toInt = 3 := (by decide); have z1408 : (1408 : Int32).toInt = 1408 := (by decide); omega)
        refine lv_iload_n hx hb dX9_laysOctaves_122 rfl (lv_at hl 0 rfl) ?_
        refine lv_iadd hx hb dX9_laysOctaves_123 ?_
        refine lv_topi (fun x86 ex86 => ?_)
        have t87 := addO ex86 (by have f0 := b58; have f1 := k65; have f2 := t73; have f3 := t75; have f4 := t85; have f5 := a9_24 hJ43 (j := 16) rfl; have f6 := t71; have f7 := t83; have f8 := b18; have f9 := k25; have f10 := t34; have f11 := t48; have f12 := t69; have f13 := t81; have f14 := b7; have f15 := k11; have f16 := t27; have f17 := t36; have f18 := t46; have f19 := t67; have f20 := j9_31 hJ rfl; have f21 := t38; have f22 := b31; have f23 := b32; have g0 := rg32 (y54.2.1 0); have g1 := rg32 x84; have z0 : (0 : Int32).toInt = 0 := (by decide); have z1 : (1 : Int32).toInt = 1 := (by decide); have z3 : (3 : Int32).toInt = 3 := (by decide); have z1408 : (1408 : Int32).toInt = 1408 := (by decide); omega)
        refine lv_aload_n hx hb dX9_laysOctaves_124 rfl (lv_at hl 3 rfl) ?_
        refine g9_26 hx hb hts hown hK hP (hts _ q1386) dX9_laysOctaves_125 ?_
        refine lv_sipush (v := 1408) hx hb dX9_laysOctaves_128 (by decide) ?_
        refine lv_iload_n hx hb dX9_laysOctaves_131 rfl (lv_at hl 0 rfl) ?_
        refine lv_iadd hx hb dX9_laysOctaves_132 ?_
        refine lv_topi (fun x88 ex88 => ?_)
        have t89 := addO ex88 (by have f0 := b58; have f1 := k65; have f2 := t73; have f3 := t75; have f4 := t87; have f5 := a9_24 hJ43 (j := 16) rfl; have f6 := t71; have f7 := t85; have f8 := t69; have f9 := t83; have f10 := b18; have f11 := k25; have f12 := t34; have f13 := t48; have f14 := t67; have f15 := t81; have f16 := b7; have f17 := k11; have f18 := t27; have f19 := t36; have f20 := t46; have f21 := j9_31 hJ rfl; have f22 := t38; have f23 := b31; have f24 := b32; have g0 := rg32 (y54.2.1 0); have z0 : (0 : Int32).toInt = 0 := (by decide); have z1 : (1 : Int32).toInt = 1 := (by decide); have z3 : (3 : Int32).toInt = 3 := (by decide); have z1408 : (1408 : Int32).toInt = 1408 := (by decide); omega)
        obtain ⟨x90, ex90⟩ : ∃ z, (σ40 9).2.2.1 26 x88.toInt.toNat = z := ⟨_, rfl⟩
        refine l9_26 (x := x90) hx hb hK hP (vpo (by have f0 := t89; have f1 := b58; have f2 := k65; have f3 := t73; have f4 := t75; have f5 := t87; have f6 := a9_24 hJ43 (j := 16) rfl; have f7 := t71; have f8 := t85; have f9 := t69; have f10 := t83; have f11 := b18; have f12 := k25; have f13 := t34; have f14 := t48; have f15 := t67; have f16 := t81; have f17 := b7; have f18 := k11; have f19 := t27; have f20 := t36; have f21 := t46; have f22 := j9_31 hJ rfl; have f23 := t38; have f24 := b31; have f25 := b32; have g0 := rg32 x88; have z0 : (0 : Int32).toInt = 0 := (by decide); have z1 : (1 : Int32).toInt = 1 := (by decide); have z3 : (3 : Int32).toInt = 3 := (by decide); have z1408 : (1408 : Int32).toInt = 1408 := (by decide); omega)) ((congrFun ((((sA_f eσ77) 9 26 rfl).2.2.1).trans (((hF56 9 26 rfl).2.2.1).trans (((sA_f eσ49) 9 26 rfl).2.2.1))) _).trans ex90) dX9_laysOctaves_133 ?_
        have t91 := a9_26 hJ43 ex90
        refine t9_45 hx hb hK hP hD hS (vpo (by have f0 := t87; have f1 := b58; have f2 := k65; have f3 := t73; have f4 := t75; have f5 := t85; have f6 := t89; have f7 := a9_24 hJ43 (j := 16) rfl; have f8 := t71; have f9 := t83; have f10 := t91; have f11 := b18; have f12 := k25; have f13 := t34; have f14 := t48; have f15 := t69; have f16 := t81; have f17 := b7; have f18 := k11; have f19 := t27; have f20 := t36; have f21 := t46; have f22 := t67; have f23 := j9_31 hJ rfl; have f24 := t38; have f25 := b31; have f26 := b32; have g0 := rg32 x86; have z0 : (0 : Int32).toInt = 0 := (by decide); have z1 : (1 : Int32).toInt = 1 := (by decide); have z3 : (3 : Int32).toInt = 3 := (by decide); have z1408 : (1408 : Int32).toInt = 1408 := (by decide); omega)) dX9_laysOctaves_134 (fun H locs σ92 eσ92 hP hS => ?_)
        have hJ93 : J9 (σ92 9) := hJ78.A eσ92 (show PA9 45 x86.toInt.toNat x90 from (by have f0 := t87; have f1 := t91; have f2 := b58; have f3 := k65; have f4 := t73; have f5 := t75; have f6 := t85; have f7 := t89; have f8 := a9_24 hJ43 (j := 16) rfl; have f9 := t71; have f10 := t83; have f11 := b18; have f12 := k25; have f13 := t34; have f14 := t48; have f15 := t69; have f16 := t81; have f17 := b7; have f18 := k11; have f19 := t27; have f20 := t36; have f21 := t46; have f22 := t67; have f23 := j9_31 hJ rfl; have f24 := t38; have f25 := b31; have f26 := b32; have g0 := rg32 x86; have g1 := rg32 x90; have z0 : (0 : Int32).toInt = 0 := (by decide); have z1 : (1 : Int32).toInt = 1 := (by decide); have z3 : (3 : Int32).toInt = 3 := (by decide); have z1408 : (1408 : Int32).toInt = 1408 := (by decide); exact ⟨by omega, by omega⟩))
        have T94 : HK (σ92 9) := HK.mv T79 ((sA_f eσ92) 9 18 rfl).2.2.1 ((sA_f eσ92) 9 28 rfl).1
        obtain ⟨x95, ex95⟩ : ∃ y : Int32, y = (y54.2.1 0) + 1 := ⟨_, rfl⟩
        have t96 := addO ex95 (by have f0 := b58; have f1 := k65; have f2 := t73; have f3 := t75; have f4 := t87; have f5 := t89; have f6 := a9_24 hJ43 (j := 16) rfl; have f7 := t71; have f8 := t85; have f9 := t91; have f10 := t69; have f11 := t83; have f12 := b18; have f13 := k25; have f14 := t34; have f15 := t48; have f16 := t67; have f17 := t81; have f18 := b7; have f19 := k11; have f20 := t27; have f21 := t36; have f22 := t46; have f23 := j9_31 hJ rfl; have f24 := t38; have f25 := b31; have f26 := b32; have g0 := rg32 (y54.2.1 0); have z0 : (0 : Int32).toInt = 0 := (by decide); have z1 : (1 : Int32).toInt = 1 := (by decide); have z3 : (3 : Int32).toInt = 3 := (by decide); have z1408 : (1408 : Int32).toInt = 1408 := (by decide); omega)
        refine lv_iinc (v := x95) (lv' := [(3, .int x95), (2, .int (y14.2.1 0)), (1, .int (y3.2.1 0)), (0, .ref (g 60))]) hx hb dX9_laysOctaves_135 hl (k := 0) rfl (by rw [ex95]; rfl) (by decide) rfl (fun ls hl => ?_)
        refine lv_goto (tgt := 74) hx hb dX9_laysOctaves_138 (by decide) ?_
        have t97 : ((89 : Int) - x95.toInt).toNat < ((89 : Int) - (y54.2.1 0).toInt).toNat := (by have f0 := b58; have f1 := k65; have f2 := t73; have f3 := t75; have f4 := t87; have f5 := t89; have f6 := t96; have f7 := a9_24 hJ43 (j := 16) rfl; have f8 := t71; have f9 := t85; have f10 := t91; have f11 := t69; have f12 := t83; have f13 := b18; have f14 := k25; have f15 := t34; have f16 := t48; have f17 := t67; have f18 := t81; have f19 := b7; have f20 := k11; have f21 := t27; have f22 := t36; have f23 := t46; have f24 := j9_31 hJ rfl; have f25 := t38; have f26 := b31; have f27 := b32; have g0 := rg32 (y54.2.1 0); have g1 := rg32 x95; have z0 : (0 : Int32).toInt = 0 := (by decide); have z1 : (1 : Int32).toInt = 1 := (by decide); have z3 : (3 : Int32).toInt = 3 := (by decide); have z1408 : (1408 : Int32).toInt = 1408 := (by decide); omega)
        exact nl52 (σ92, lf [x95], lg []) ⟨Fr.tr (Fr.tr (Fr.tr (Fr.rf) hF56 (fL_sub rfl)) (sA_f eσ77) (fN_L rfl)) (sA_f eσ92) (fN_L rfl), hJ93, (show (0 : Int) ≤ (x95 : Int32).toInt ∧ (x95 : Int32).toInt ≤ 88 from (by have f0 := t96; have f1 := b58; have f2 := k65; have f3 := t73; have f4 := t75; have f5 := t87; have f6 := t89; have f7 := a9_24 hJ43 (j := 16) rfl; have f8 := t71; have f9 := t85; have f10 := t91; have f11 := t69; have f12 := t83; have f13 := b18; have f14 := k25; have f15 := t34; have f16 := t48; have f17 := t67; have f18 := t81; have f19 := b7; have f20 := k11; have f21 := t27; have f22 := t36; have f23 := t46; have f24 := j9_31 hJ rfl; have f25 := t38; have f26 := b31; have f27 := b32; have g0 := rg32 x95; have z0 : (0 : Int32).toInt = 0 := (by decide); have z1 : (1 : Int32).toInt = 1 := (by decide); have z3 : (3 : Int32).toInt = 3 := (by decide); have z1408 : (1408 : Int32).toInt = 1408 := (by decide); omega)), (show HK (σ92 9) from T94), trivial⟩ (show ((89 : Int) - x95.toInt).toNat < _ from by first | exact t97 | (rw [← eσ55]; exact t97)) _ _ _ hP hS (lv_sub hl [0, 1, 2, 3] rfl)

theorem q1927 : Cond.code yX9_fewestFrom cX9_fewestFrom 9 (some .int) ∈ lw_g := lw_gm (List.mem_of_getElem? (i := 1927) (by decide +kernel)) rfl
theorem q1406 : Cond.fieldLink RX9 98 "LipsAndSlidesModel" "octaveCost" "[I" ∈ lw_g := lw_gm (List.mem_of_getElem? (i := 1406) (by decide +kernel)) rfl
theorem q1928 : Cond.methodLink RX9 445 yX9_octaveGo ∈ lw_g := lw_gm (List.mem_of_getElem? (i := 1928) (by decide +kernel)) rfl
theorem q1930 : Cond.instanceMethod yX9_octaveGo ∈ lw_g := lw_gm (List.mem_of_getElem? (i := 1930) (by decide +kernel)) rfl
theorem q104 : Cond.selects RX9 yX9_octaveGo yX9_octaveGo ∈ lw_g := lw_gm (List.mem_of_getElem? (i := 104) (by decide +kernel)) rfl
theorem dX9_fewestFrom_0 : decode cX9_fewestFrom 0 = .ok (.iload_n 3, 1) := by decide +kernel
theorem dX9_fewestFrom_1 : decode cX9_fewestFrom 1 = .ok (.iconst 1, 1) := by decide +kernel
theorem dX9_fewestFrom_2 : decode cX9_fewestFrom 2 = .ok (.if_icmp .ne 7, 3) := by decide +kernel
theorem dX9_fewestFrom_5 : decode cX9_fewestFrom 5 = .ok (.iconst 0, 1) := by decide +kernel
theorem dX9_fewestFrom_6 : decode cX9_fewestFrom 6 = .ok (.goto 4, 3) := by decide +kernel
theorem dX9_fewestFrom_9 : decode cX9_fewestFrom 9 = .ok (.iconst 1, 1) := by decide +kernel
theorem dX9_fewestFrom_10 : decode cX9_fewestFrom 10 = .ok (.istore 4, 2) := by decide +kernel
theorem dX9_fewestFrom_12 : decode cX9_fewestFrom 12 = .ok (.iload_n 1, 1) := by decide +kernel
theorem dX9_fewestFrom_13 : decode cX9_fewestFrom 13 = .ok (.aload_n 0, 1) := by decide +kernel
theorem dX9_fewestFrom_14 : decode cX9_fewestFrom 14 = .ok (.getfield 387, 3) := by decide +kernel
theorem dX9_fewestFrom_17 : decode cX9_fewestFrom 17 = .ok (.iconst 1, 1) := by decide +kernel
theorem dX9_fewestFrom_18 : decode cX9_fewestFrom 18 = .ok (.isub, 1) := by decide +kernel
theorem dX9_fewestFrom_19 : decode cX9_fewestFrom 19 = .ok (.if_icmp .ne 6, 3) := by decide +kernel
theorem dX9_fewestFrom_22 : decode cX9_fewestFrom 22 = .ok (.iload 4, 2) := by decide +kernel
theorem dX9_fewestFrom_24 : decode cX9_fewestFrom 24 = .ok (.ireturn, 1) := by decide +kernel
theorem dX9_fewestFrom_25 : decode cX9_fewestFrom 25 = .ok (.ldc 180, 2) := by decide +kernel
theorem dX9_fewestFrom_27 : decode cX9_fewestFrom 27 = .ok (.istore 5, 2) := by decide +kernel
theorem dX9_fewestFrom_29 : decode cX9_fewestFrom 29 = .ok (.iconst 0, 1) := by decide +kernel
theorem dX9_fewestFrom_30 : decode cX9_fewestFrom 30 = .ok (.istore 6, 2) := by decide +kernel
theorem dX9_fewestFrom_32 : decode cX9_fewestFrom 32 = .ok (.iload 6, 2) := by decide +kernel
theorem dX9_fewestFrom_34 : decode cX9_fewestFrom 34 = .ok (.iconst 3, 1) := by decide +kernel
theorem dX9_fewestFrom_35 : decode cX9_fewestFrom 35 = .ok (.if_icmp .ge 84, 3) := by decide +kernel
theorem dX9_fewestFrom_38 : decode cX9_fewestFrom 38 = .ok (.iconst 0, 1) := by decide +kernel
theorem dX9_fewestFrom_39 : decode cX9_fewestFrom 39 = .ok (.istore 7, 2) := by decide +kernel
theorem dX9_fewestFrom_41 : decode cX9_fewestFrom 41 = .ok (.iload 7, 2) := by decide +kernel
theorem dX9_fewestFrom_43 : decode cX9_fewestFrom 43 = .ok (.aload_n 0, 1) := by decide +kernel
theorem dX9_fewestFrom_44 : decode cX9_fewestFrom 44 = .ok (.getfield 89, 3) := by decide +kernel
theorem dX9_fewestFrom_47 : decode cX9_fewestFrom 47 = .ok (.iconst 3, 1) := by decide +kernel
theorem dX9_fewestFrom_48 : decode cX9_fewestFrom 48 = .ok (.iload_n 1, 1) := by decide +kernel
theorem dX9_fewestFrom_49 : decode cX9_fewestFrom 49 = .ok (.iconst 1, 1) := by decide +kernel
theorem dX9_fewestFrom_50 : decode cX9_fewestFrom 50 = .ok (.iadd, 1) := by decide +kernel
theorem dX9_fewestFrom_51 : decode cX9_fewestFrom 51 = .ok (.imul, 1) := by decide +kernel
theorem dX9_fewestFrom_52 : decode cX9_fewestFrom 52 = .ok (.iload 6, 2) := by decide +kernel
theorem dX9_fewestFrom_54 : decode cX9_fewestFrom 54 = .ok (.iadd, 1) := by decide +kernel
theorem dX9_fewestFrom_55 : decode cX9_fewestFrom 55 = .ok (.iaload, 1) := by decide +kernel
theorem dX9_fewestFrom_56 : decode cX9_fewestFrom 56 = .ok (.if_icmp .ge 57, 3) := by decide +kernel
theorem dX9_fewestFrom_59 : decode cX9_fewestFrom 59 = .ok (.bipush 88, 2) := by decide +kernel
theorem dX9_fewestFrom_61 : decode cX9_fewestFrom 61 = .ok (.iconst 3, 1) := by decide +kernel
theorem dX9_fewestFrom_62 : decode cX9_fewestFrom 62 = .ok (.iload_n 1, 1) := by decide +kernel
theorem dX9_fewestFrom_63 : decode cX9_fewestFrom 63 = .ok (.iconst 1, 1) := by decide +kernel
theorem dX9_fewestFrom_64 : decode cX9_fewestFrom 64 = .ok (.iadd, 1) := by decide +kernel
theorem dX9_fewestFrom_65 : decode cX9_fewestFrom 65 = .ok (.imul, 1) := by decide +kernel
theorem dX9_fewestFrom_66 : decode cX9_fewestFrom 66 = .ok (.iload 6, 2) := by decide +kernel
theorem dX9_fewestFrom_68 : decode cX9_fewestFrom 68 = .ok (.iadd, 1) := by decide +kernel
theorem dX9_fewestFrom_69 : decode cX9_fewestFrom 69 = .ok (.imul, 1) := by decide +kernel
theorem dX9_fewestFrom_70 : decode cX9_fewestFrom 70 = .ok (.iload 7, 2) := by decide +kernel
theorem dX9_fewestFrom_72 : decode cX9_fewestFrom 72 = .ok (.iadd, 1) := by decide +kernel
theorem dX9_fewestFrom_73 : decode cX9_fewestFrom 73 = .ok (.istore 8, 2) := by decide +kernel
theorem dX9_fewestFrom_75 : decode cX9_fewestFrom 75 = .ok (.aload_n 0, 1) := by decide +kernel
theorem dX9_fewestFrom_76 : decode cX9_fewestFrom 76 = .ok (.getfield 98, 3) := by decide +kernel
theorem dX9_fewestFrom_79 : decode cX9_fewestFrom 79 = .ok (.iload 8, 2) := by decide +kernel
theorem dX9_fewestFrom_81 : decode cX9_fewestFrom 81 = .ok (.iaload, 1) := by decide +kernel
theorem dX9_fewestFrom_82 : decode cX9_fewestFrom 82 = .ok (.iload 5, 2) := by decide +kernel
theorem dX9_fewestFrom_84 : decode cX9_fewestFrom 84 = .ok (.if_icmp .ge 23, 3) := by decide +kernel
theorem dX9_fewestFrom_87 : decode cX9_fewestFrom 87 = .ok (.aload_n 0, 1) := by decide +kernel
theorem dX9_fewestFrom_88 : decode cX9_fewestFrom 88 = .ok (.iload_n 1, 1) := by decide +kernel
theorem dX9_fewestFrom_89 : decode cX9_fewestFrom 89 = .ok (.iload_n 2, 1) := by decide +kernel
theorem dX9_fewestFrom_90 : decode cX9_fewestFrom 90 = .ok (.iload 8, 2) := by decide +kernel
theorem dX9_fewestFrom_92 : decode cX9_fewestFrom 92 = .ok (.invokevirtual 445, 3) := by decide +kernel
theorem dX9_fewestFrom_95 : decode cX9_fewestFrom 95 = .ok (.ifCond .eq 12, 3) := by decide +kernel
theorem dX9_fewestFrom_98 : decode cX9_fewestFrom 98 = .ok (.aload_n 0, 1) := by decide +kernel
theorem dX9_fewestFrom_99 : decode cX9_fewestFrom 99 = .ok (.getfield 98, 3) := by decide +kernel
theorem dX9_fewestFrom_102 : decode cX9_fewestFrom 102 = .ok (.iload 8, 2) := by decide +kernel
theorem dX9_fewestFrom_104 : decode cX9_fewestFrom 104 = .ok (.iaload, 1) := by decide +kernel
theorem dX9_fewestFrom_105 : decode cX9_fewestFrom 105 = .ok (.istore 5, 2) := by decide +kernel
theorem dX9_fewestFrom_107 : decode cX9_fewestFrom 107 = .ok (.iinc 7 1, 3) := by decide +kernel
theorem dX9_fewestFrom_110 : decode cX9_fewestFrom 110 = .ok (.goto (-69), 3) := by decide +kernel
theorem dX9_fewestFrom_113 : decode cX9_fewestFrom 113 = .ok (.iinc 6 1, 3) := by decide +kernel
theorem dX9_fewestFrom_116 : decode cX9_fewestFrom 116 = .ok (.goto (-84), 3) := by decide +kernel
theorem dX9_fewestFrom_119 : decode cX9_fewestFrom 119 = .ok (.iload 5, 2) := by decide +kernel
theorem dX9_fewestFrom_121 : decode cX9_fewestFrom 121 = .ok (.ldc 180, 2) := by decide +kernel
theorem dX9_fewestFrom_123 : decode cX9_fewestFrom 123 = .ok (.if_icmp .ne 8, 3) := by decide +kernel
theorem dX9_fewestFrom_126 : decode cX9_fewestFrom 126 = .ok (.ldc 180, 2) := by decide +kernel
theorem dX9_fewestFrom_128 : decode cX9_fewestFrom 128 = .ok (.goto 8, 3) := by decide +kernel
theorem dX9_fewestFrom_131 : decode cX9_fewestFrom 131 = .ok (.iload 5, 2) := by decide +kernel
theorem dX9_fewestFrom_133 : decode cX9_fewestFrom 133 = .ok (.iload 4, 2) := by decide +kernel
theorem dX9_fewestFrom_135 : decode cX9_fewestFrom 135 = .ok (.iadd, 1) := by decide +kernel
theorem dX9_fewestFrom_136 : decode cX9_fewestFrom 136 = .ok (.ireturn, 1) := by decide +kernel
set_option maxHeartbeats 4000000 in
set_option maxRecDepth 100000 in
theorem m_X9_fewestFrom (l : Launch) (D : va_G) (cy : Nat → ClassId) (g : Nat → Nat) (σ : ST) (p1 : Int32) (p2 : Int32) (p3 : Int32) (sz : Nat) (hJ : J9 (σ 9)) (h0 : (0 : Int) ≤ p1.toInt ∧ p1.toInt ≤ 15) (h1 : (0 : Int) ≤ p2.toInt ∧ p2.toInt ≤ 4223) (h2 : (0 : Int) ≤ p3.toInt ∧ p3.toInt ≤ 2) (h3 : p1.toInt < ((σ 9).1 31).toInt) : Met l yX9_fewestFrom (ww yX9_fewestFrom cX9_fewestFrom 9 (some .int)) ({ frames := 5, cells := 0, slots := 0, locals := 320 }) (va_Pc [.ref (g 60), .int p1, .int p2, .int p3] (pr9 D cy g σ sz)) (qi9 D cy g sz (fun r τ => τ = σ ∧ True)) 0 0 (A9 cy g sz) := by
  refine Met.ofW (cc := cX9_fewestFrom) (maxL := 9) (ret := (some .int)) (by decide) rfl ?_
  intro p e s m args below meth c s₁ B hml hv
  obtain ⟨rfl, hsz, hP, hK, hD0, hC⟩ := hv
  have hx := B.exec
  have hb := B.bytes
  have hr := B.returns
  have hts := hts_g (atoms_spec (ws := ww yX9_fewestFrom cX9_fewestFrom 9 (some .int)) B.pre)
  have hown : s.vm.findClass RX9 = some m.cls := findClass_of_methodNamed B.named
  have hlocks := B.notSynchronized
  clear B
  subst hsz
  have hD := fun τ => A9_D (sz := s.heap.size) hD0 τ
  clear hD0
  have hS : va_S (A9 cy g s.heap.size) s.heap s.heap [] := va_S.rf
  have hl := lv_entry ([.ref (g 60), .int p1, .int p2, .int p3]) (n := 9) (Nat.le_of_ble_eq_true rfl)
  rw [lg_entry_eq]
  generalize (lg_sl ([.ref (g 60), .int p1, .int p2, .int p3]) ++ List.replicate (9 - (lg_sl ([.ref (g 60), .int p1, .int p2, .int p3])).length) Slot.unset).toArray = ls at hl ⊢
  have hl : lv_has ls 9 [(0, .ref (g 60)), (1, .int p1), (2, .int p2), (3, .int p3)] := hl
  refine lv_iload_n hx hb dX9_fewestFrom_0 rfl (lv_at hl 3 rfl) ?_
  refine lv_iconst (v := 1) hx hb dX9_fewestFrom_1 (by decide) ?_
  refine cut9 (D := D) (cy := cy) (g := g) (A := A9 cy g s.heap.size) (H0 := s.heap) 9 10 (fun x : LZ => [(0, .ref (g 60)), (1, .int p1), (2, .int p2), (3, .int p3)]) (fun x : LZ => [.int (x.2.1 0)]) (fun x : LZ => (x.1 = σ) ∧ ((0 : Int) ≤ (x.2.1 0).toInt ∧ (x.2.1 0).toInt ≤ 1) ∧ True) ?_ ?_
  ·
    intro y3 hI2 H locs ls hP hS hl
    rw [show y3.1 = σ from hI2.1] at hP
    have b4 : (0 : Int) ≤ (y3.2.1 0).toInt ∧ (y3.2.1 0).toInt ≤ 1 := hI2.2.1
    have hl : lv_has ls 9 [(0, .ref (g 60)), (1, .int p1), (2, .int p2), (3, .int p3)] := hl
    refine W.eq (g2 := F0 m 10 ls [.int (y3.2.1 0)]) rfl ?_
    refine lv_istore (lv' := [(4, .int (y3.2.1 0)), (0, .ref (g 60)), (1, .int p1), (2, .int p2), (3, .int p3)]) hx hb dX9_fewestFrom_10 hl (by decide) rfl (fun ls hl => ?_)
    refine lv_iload_n hx hb dX9_fewestFrom_12 rfl (lv_at hl 2 rfl) ?_
    refine lv_aload_n hx hb dX9_fewestFrom_13 rfl (lv_at hl 1 rfl) ?_
    refine g9_31 (x := ((σ 9).1 31)) hx hb hts hown hK hP (rfl) (hts _ q1391) dX9_fewestFrom_14 ?_
    refine lv_iconst (v := 1) hx hb dX9_fewestFrom_17 (by decide) ?_
    refine lv_isub hx hb dX9_fewestFrom_18 ?_
    refine lv_topi (fun x5 ex5 => ?_)
    have t6 := subO ex5 (by have f0 := j9_31 hJ rfl; have f1 := h3; have f2 := h0; have z1 : (1 : Int32).toInt = 1 := (by decide); omega)
    refine lv_icmp_ne (tgt := 25) hx hb dX9_fewestFrom_19 (by decide) (fun c7 => ?_) (fun c7 => ?_)
    ·
      have k8 := neq32 c7
      have t9 : (0 : Int) ≤ p1.toInt ∧ p1.toInt ≤ 14 := (by have f0 := h0; have f1 := h3; have f2 := k8; have f3 := j9_31 hJ rfl; have f4 := t6; have g1 := rg32 p1; have z1 : (1 : Int32).toInt = 1 := (by decide); omega)
      refine lv_ldc (v := 1000000) hx hb hown (hts _ q1604) dX9_fewestFrom_25 ?_
      refine lv_istore (lv' := [(5, .int 1000000), (4, .int (y3.2.1 0)), (0, .ref (g 60)), (1, .int p1), (2, .int p2), (3, .int p3)]) hx hb dX9_fewestFrom_27 hl (by decide) rfl (fun ls hl => ?_)
      refine lv_iconst (v := 0) hx hb dX9_fewestFrom_29 (by decide) ?_
      refine lv_istore (lv' := [(6, .int 0), (5, .int 1000000), (4, .int (y3.2.1 0)), (0, .ref (g 60)), (1, .int p1), (2, .int p2), (3, .int p3)]) hx hb dX9_fewestFrom_30 hl (by decide) rfl (fun ls hl => ?_)
      refine loop9 9 32 (fun x : LZ => [(6, .int (x.2.1 0)), (5, .int (x.2.1 1)), (4, .int (y3.2.1 0)), (0, .ref (g 60)), (1, .int p1), (2, .int p2), (3, .int p3)]) (fun x : LZ => (x.1 = σ) ∧ ((0 : Int) ≤ (x.2.1 0).toInt ∧ (x.2.1 0).toInt ≤ 3) ∧ True) (fun x : LZ => ((4 : Int) - (x.2.1 0).toInt).toNat) ?_ (σ, lf [0, 1000000], lg []) ⟨rfl, (show (0 : Int) ≤ (0 : Int32).toInt ∧ (0 : Int32).toInt ≤ 3 from (by have z0 : (0 : Int32).toInt = 0 := (by decide); omega)), trivial⟩ _ _ _ hP hS (lv_sub hl [0, 1, 2, 3, 4, 5, 6] rfl)
      intro y12 hI11 nl10 H locs ls hP hS hl
      rw [show y12.1 = σ from hI11.1] at hP
      have b13 : (0 : Int) ≤ (y12.2.1 0).toInt ∧ (y12.2.1 0).toInt ≤ 3 := hI11.2.1
      have hl : lv_has ls 9 [(6, .int (y12.2.1 0)), (5, .int (y12.2.1 1)), (4, .int (y3.2.1 0)), (0, .ref (g 60)), (1, .int p1), (2, .int p2), (3, .int p3)] := hl
      refine lv_iload hx hb dX9_fewestFrom_32 (lv_at hl 0 rfl) ?_
      refine lv_iconst (v := 3) hx hb dX9_fewestFrom_34 (by decide) ?_
      refine lv_icmp_ge (tgt := 119) hx hb dX9_fewestFrom_35 (by decide) (fun c14 => ?_) (fun c14 => ?_)
      ·
        have k15 := ple32 c14
        refine lv_iload hx hb dX9_fewestFrom_119 (lv_at hl 1 rfl) ?_
        refine lv_ldc (v := 1000000) hx hb hown (hts _ q1604) dX9_fewestFrom_121 ?_
        refine lv_icmp_ne (tgt := 131) hx hb dX9_fewestFrom_123 (by decide) (fun c16 => ?_) (fun c16 => ?_)
        ·
          have k17 := neq32 c16
          refine lv_iload hx hb dX9_fewestFrom_131 (lv_at hl 1 rfl) ?_
          refine lv_iload hx hb dX9_fewestFrom_133 (lv_at hl 2 rfl) ?_
          refine lv_iadd hx hb dX9_fewestFrom_135 ?_
          refine lv_topi (fun x18 ex18 => ?_)
          exact W.iret (v := x18) hx hb hr (fun tS ht hW => ⟨⟨x18, σ, rfl, ⟨rfl, trivial⟩, (show va_P D clz (WD9 cy g σ) tS.heap by rw [ht]; exact hP)⟩, hS.F ht⟩) hS.2.2 dX9_fewestFrom_136
        ·
          have k19 := peq32 c16
          refine lv_ldc (v := 1000000) hx hb hown (hts _ q1604) dX9_fewestFrom_126 ?_
          refine lv_goto (tgt := 136) hx hb dX9_fewestFrom_128 (by decide) ?_
          exact W.iret (v := 1000000) hx hb hr (fun tS ht hW => ⟨⟨1000000, σ, rfl, ⟨rfl, trivial⟩, (show va_P D clz (WD9 cy g σ) tS.heap by rw [ht]; exact hP)⟩, hS.F ht⟩) hS.2.2 dX9_fewestFrom_136
      ·
        have k20 := nle32 c14
        refine lv_iconst (v := 0) hx hb dX9_fewestFrom_38 (by decide) ?_
        refine lv_istore (lv' := [(7, .int 0), (6, .int (y12.2.1 0)), (5, .int (y12.2.1 1)), (4, .int (y3.2.1 0)), (0, .ref (g 60)), (1, .int p1), (2, .int p2), (3, .int p3)]) hx hb dX9_fewestFrom_39 hl (by decide) rfl (fun ls hl => ?_)
        refine loop9 9 41 (fun x : LZ => [(7, .int (x.2.1 0)), (6, .int (y12.2.1 0)), (5, .int (x.2.1 1)), (4, .int (y3.2.1 0)), (0, .ref (g 60)), (1, .int p1), (2, .int p2), (3, .int p3)]) (fun x : LZ => (x.1 = σ) ∧ ((0 : Int) ≤ (x.2.1 0).toInt ∧ (x.2.1 0).toInt ≤ 88) ∧ True) (fun x : LZ => ((89 : Int) - (x.2.1 0).toInt).toNat) ?_ (σ, lf [0, (y12.2.1 1)], lg []) ⟨rfl, (show (0 : Int) ≤ (0 : Int32).toInt ∧ (0 : Int32).toInt ≤ 88 from (by have z0 : (0 : Int32).toInt = 0 := (by decide); omega)), trivial⟩ _ _ _ hP hS (lv_sub hl [0, 1, 2, 3, 4, 5, 6, 7] rfl)
        intro y23 hI22 nl21 H locs ls hP hS hl
        rw [show y23.1 = σ from hI22.1] at hP
        have b24 : (0 : Int) ≤ (y23.2.1 0).toInt ∧ (y23.2.1 0).toInt ≤ 88 := hI22.2.1
        have hl : lv_has ls 9 [(7, .int (y23.2.1 0)), (6, .int (y12.2.1 0)), (5, .int (y23.2.1 1)), (4, .int (y3.2.1 0)), (0, .ref (g 60)), (1, .int p1), (2, .int p2), (3, .int p3)] := hl
        refine lv_iload hx hb dX9_fewestFrom_41 (lv_at hl 0 rfl) ?_
        refine lv_aload_n hx hb dX9_fewestFrom_43 rfl (lv_at hl 4 rfl) ?_
        refine g9_43 hx hb hts hown hK hP (hts _ q1403) dX9_fewestFrom_44 ?_
        refine lv_iconst (v := 3) hx hb dX9_fewestFrom_47 (by decide) ?_
        refine lv_iload_n hx hb dX9_fewestFrom_48 rfl (lv_at hl 5 rfl) ?_
        refine lv_iconst (v := 1) hx hb dX9_fewestFrom_49 (by decide) ?_
        refine lv_iadd hx hb dX9_fewestFrom_50 ?_
        refine lv_topi (fun x25 ex25 => ?_)
        have t26 := addO ex25 (by have f0 := h0; have f1 := h3; have f2 := k8; have f3 := t9; have f4 := j9_31 hJ rfl; have f5 := t6; have g1 := rg32 p1; have z1 : (1 : Int32).toInt = 1 := (by decide); omega)
        refine lv_imul hx hb dX9_fewestFrom_51 ?_
        refine lv_topi (fun x27 ex27 => ?_)
        have t28 := mulC' (n := 3) ex27 (by decide) (by have f0 := t26; have f1 := h0; have f2 := h3; have f3 := k8; have f4 := t9; have f5 := j9_31 hJ rfl; have f6 := t6; have g1 := rg32 x25; have z1 : (1 : Int32).toInt = 1 := (by decide); omega)
        refine lv_iload hx hb dX9_fewestFrom_52 (lv_at hl 1 rfl) ?_
        refine lv_iadd hx hb dX9_fewestFrom_54 ?_
        refine lv_topi (fun x29 ex29 => ?_)
        have t30 := addO ex29 (by have f0 := b13; have f1 := k20; have f2 := t28; have f3 := t26; have f4 := h0; have f5 := h3; have f6 := k8; have f7 := t9; have f8 := j9_31 hJ rfl; have f9 := t6; have g1 := rg32 (y12.2.1 0); have g2 := rg32 x27; have z1 : (1 : Int32).toInt = 1 := (by decide); have z3 : (3 : Int32).toInt = 3 := (by decide); omega)
        obtain ⟨x31, ex31⟩ : ∃ z, (σ 9).2.2.1 43 x29.toInt.toNat = z := ⟨_, rfl⟩
        refine l9_43 (x := x31) hx hb hK hP (vpo (by have f0 := t30; have f1 := b13; have f2 := k20; have f3 := t28; have f4 := t26; have f5 := h0; have f6 := h3; have f7 := k8; have f8 := t9; have f9 := j9_31 hJ rfl; have f10 := t6; have g1 := rg32 x29; have z1 : (1 : Int32).toInt = 1 := (by decide); have z3 : (3 : Int32).toInt = 3 := (by decide); omega)) ex31 dX9_fewestFrom_55 ?_
        have t32 := a9_43 hJ ex31
        refine lv_icmp_ge (tgt := 113) hx hb dX9_fewestFrom_56 (by decide) (fun c33 => ?_) (fun c33 => ?_)
        ·
          have k34 := ple32 c33
          obtain ⟨x35, ex35⟩ : ∃ y : Int32, y = (y12.2.1 0) + 1 := ⟨_, rfl⟩
          have t36 := addO ex35 (by have f0 := b13; have f1 := k20; have f2 := t30; have f3 := t28; have f4 := t32; have f5 := t26; have f6 := k34; have f7 := h0; have f8 := h3; have f9 := k8; have f10 := t9; have f11 := b24; have f12 := j9_31 hJ rfl; have f13 := t6; have g1 := rg32 (y12.2.1 0); have z1 : (1 : Int32).toInt = 1 := (by decide); have z3 : (3 : Int32).toInt = 3 := (by decide); omega)
          refine lv_iinc (v := x35) (lv' := [(6, .int x35), (7, .int (y23.2.1 0)), (5, .int (y23.2.1 1)), (4, .int (y3.2.1 0)), (0, .ref (g 60)), (1, .int p1), (2, .int p2), (3, .int p3)]) hx hb dX9_fewestFrom_113 hl (k := 1) rfl (by rw [ex35]; rfl) (by decide) rfl (fun ls hl => ?_)
          refine lv_goto (tgt := 32) hx hb dX9_fewestFrom_116 (by decide) ?_
          have t37 : ((4 : Int) - x35.toInt).toNat < ((4 : Int) - (y12.2.1 0).toInt).toNat := (by have f0 := b13; have f1 := k20; have f2 := t30; have f3 := t36; have f4 := t28; have f5 := t32; have f6 := t26; have f7 := k34; have f8 := h0; have f9 := h3; have f10 := k8; have f11 := t9; have f12 := b24; have f13 := j9_31 hJ rfl; have f14 := t6; have g1 := rg32 (y12.2.1 0); have g2 := rg32 x35; have z1 : (1 : Int32).toInt = 1 := (by decide); have z3 : (3 : Int32).toInt = 3 := (by decide); omega)
          exact nl10 (σ, lf [x35, (y23.2.1 1)], lg []) ⟨rfl, (show (0 : Int) ≤ (x35 : Int32).toInt ∧ (x35 : Int32).toInt ≤ 3 from (by have f0 := t36; have f1 := b13; have f2 := k20; have f3 := t30; have f4 := t28; have f5 := t32; have f6 := t26; have f7 := k34; have f8 := h0; have f9 := h3; have f10 := k8; have f11 := t9; have f12 := b24; have f13 := j9_31 hJ rfl; have f14 := t6; have g1 := rg32 x35; have z1 : (1 : Int32).toInt = 1 := (by decide); have z3 : (3 : Int32).toInt = 3 := (by decide); omega)), trivial⟩ (show ((4 : Int) - x35.toInt).toNat < _ from t37) _ _ _ hP hS (lv_sub hl [0, 2, 3, 4, 5, 6, 7] rfl)
        ·
          have k38 := nle32 c33
          refine lv_bipush (v := 88) hx hb dX9_fewestFrom_59 (by decide) ?_
          refine lv_iconst (v := 3) hx hb dX9_fewestFrom_61 (by decide) ?_
          refine lv_iload_n hx hb dX9_fewestFrom_62 rfl (lv_at hl 5 rfl) ?_
          refine lv_iconst (v := 1) hx hb dX9_fewestFrom_63 (by decide) ?_
          refine lv_iadd hx hb dX9_fewestFrom_64 ?_
          refine lv_topi (fun x39 ex39 => ?_)
          have t40 := addO ex39 (by have f0 := h0; have f1 := h3; have f2 := k8; have f3 := t9; have f4 := t26; have f5 := j9_31 hJ rfl; have f6 := t6; have f7 := t28; have f8 := t30; have f9 := b13; have f10 := k20; have f11 := t32; have f12 := k38; have f13 := b24; have g1 := rg32 p1; have z1 : (1 : Int32).toInt = 1 := (by decide); have z3 : (3 : Int32).toInt = 3 := (by decide); omega)
          refine lv_imul hx hb dX9_fewestFrom_65 ?_
          refine lv_topi (fun x41 ex41 => ?_)
          have t42 := mulC' (n := 3) ex41 (by decide) (by have f0 := t40; have f1 := h0; have f2 := h3; have f3 := k8; have f4 := t9; have f5 := t26; have f6 := j9_31 hJ rfl; have f7 := t6; have f8 := t28; have f9 := t30; have f10 := b13; have f11 := k20; have f12 := t32; have f13 := k38; have f14 := b24; have g1 := rg32 x39; have z1 : (1 : Int32).toInt = 1 := (by decide); have z3 : (3 : Int32).toInt = 3 := (by decide); omega)
          refine lv_iload hx hb dX9_fewestFrom_66 (lv_at hl 1 rfl) ?_
          refine lv_iadd hx hb dX9_fewestFrom_68 ?_
          refine lv_topi (fun x43 ex43 => ?_)
          have t44 := addO ex43 (by have f0 := b13; have f1 := k20; have f2 := t30; have f3 := t42; have f4 := t28; have f5 := t32; have f6 := t40; have f7 := h0; have f8 := h3; have f9 := k8; have f10 := t9; have f11 := t26; have f12 := k38; have f13 := j9_31 hJ rfl; have f14 := t6; have f15 := b24; have g1 := rg32 (y12.2.1 0); have g2 := rg32 x41; have z1 : (1 : Int32).toInt = 1 := (by decide); have z3 : (3 : Int32).toInt = 3 := (by decide); omega)
          refine lv_imul hx hb dX9_fewestFrom_69 ?_
          refine lv_topi (fun x45 ex45 => ?_)
          have t46 := mulC' (n := 88) ex45 (by decide) (by have f0 := t44; have f1 := b13; have f2 := k20; have f3 := t30; have f4 := t42; have f5 := t28; have f6 := t32; have f7 := t40; have f8 := h0; have f9 := h3; have f10 := k8; have f11 := t9; have f12 := t26; have f13 := k38; have f14 := j9_31 hJ rfl; have f15 := t6; have f16 := b24; have g1 := rg32 x43; have z1 : (1 : Int32).toInt = 1 := (by decide); have z3 : (3 : Int32).toInt = 3 := (by decide); omega)
          refine lv_iload hx hb dX9_fewestFrom_70 (lv_at hl 0 rfl) ?_
          refine lv_iadd hx hb dX9_fewestFrom_72 ?_
          refine lv_topi (fun x47 ex47 => ?_)
          have t48 := addO ex47 (by have f0 := b24; have f1 := k38; have f2 := t46; have f3 := t32; have f4 := t44; have f5 := b13; have f6 := k20; have f7 := t30; have f8 := t42; have f9 := t28; have f10 := t40; have f11 := h0; have f12 := h3; have f13 := k8; have f14 := t9; have f15 := t26; have f16 := j9_31 hJ rfl; have f17 := t6; have g1 := rg32 (y23.2.1 0); have g2 := rg32 x45; have z1 : (1 : Int32).toInt = 1 := (by decide); have z3 : (3 : Int32).toInt = 3 := (by decide); omega)
          refine lv_istore (lv' := [(8, .int x47), (7, .int (y23.2.1 0)), (6, .int (y12.2.1 0)), (5, .int (y23.2.1 1)), (4, .int (y3.2.1 0)), (0, .ref (g 60)), (1, .int p1), (2, .int p2), (3, .int p3)]) hx hb dX9_fewestFrom_73 hl (by decide) rfl (fun ls hl => ?_)
          refine lv_aload_n hx hb dX9_fewestFrom_75 rfl (lv_at hl 5 rfl) ?_
          refine g9_46 hx hb hts hown hK hP (hts _ q1406) dX9_fewestFrom_76 ?_
          refine lv_iload hx hb dX9_fewestFrom_79 (lv_at hl 0 rfl) ?_
          obtain ⟨x49, ex49⟩ : ∃ z, (σ 9).2.2.1 46 x47.toInt.toNat = z := ⟨_, rfl⟩
          refine l9_46 (x := x49) hx hb hK hP (vpo (by have f0 := t48; have f1 := b24; have f2 := k38; have f3 := t46; have f4 := t32; have f5 := t44; have f6 := b13; have f7 := k20; have f8 := t30; have f9 := t42; have f10 := t28; have f11 := t40; have f12 := h0; have f13 := h3; have f14 := k8; have f15 := t9; have f16 := t26; have f17 := j9_31 hJ rfl; have f18 := t6; have g1 := rg32 x47; have z1 : (1 : Int32).toInt = 1 := (by decide); have z3 : (3 : Int32).toInt = 3 := (by decide); omega)) ex49 dX9_fewestFrom_81 ?_
          refine lv_iload hx hb dX9_fewestFrom_82 (lv_at hl 3 rfl) ?_
          refine cut9 (D := D) (cy := cy) (g := g) (A := A9 cy g s.heap.size) (H0 := s.heap) 9 107 (fun x : LZ => [(8, .int x47), (7, .int (y23.2.1 0)), (6, .int (y12.2.1 0)), (5, .int (x.2.1 0)), (4, .int (y3.2.1 0)), (0, .ref (g 60)), (1, .int p1), (2, .int p2), (3, .int p3)]) (fun x : LZ => []) (fun x : LZ => (x.1 = σ) ∧ True) ?_ ?_
          ·
            intro y52 hI51 H locs ls hP hS hl
            rw [show y52.1 = σ from hI51.1] at hP
            have hl : lv_has ls 9 [(8, .int x47), (7, .int (y23.2.1 0)), (6, .int (y12.2.1 0)), (5, .int (y52.2.1 0)), (4, .int (y3.2.1 0)), (0, .ref (g 60)), (1, .int p1), (2, .int p2), (3, .int p3)] := hl
            obtain ⟨x53, ex53⟩ : ∃ y : Int32, y = (y23.2.1 0) + 1 := ⟨_, rfl⟩
            have t54 := addO ex53 (by have f0 := b24; have f1 := k38; have f2 := t48; have f3 := t32; have f4 := t46; have f5 := t30; have f6 := t44; have f7 := b13; have f8 := k20; have f9 := t28; have f10 := t42; have f11 := t26; have f12 := t40; have f13 := h0; have f14 := h3; have f15 := k8; have f16 := t9; have f17 := j9_31 hJ rfl; have f18 := t6; have g1 := rg32 (y23.2.1 0); have z1 : (1 : Int32).toInt = 1 := (by decide); have z3 : (3 : Int32).toInt = 3 := (by decide); omega)
            refine lv_iinc (v := x53) (lv' := [(7, .int x53), (8, .int x47), (6, .int (y12.2.1 0)), (5, .int (y52.2.1 0)), (4, .int (y3.2.1 0)), (0, .ref (g 60)), (1, .int p1), (2, .int p2), (3, .int p3)]) hx hb dX9_fewestFrom_107 hl (k := 1) rfl (by rw [ex53]; rfl) (by decide) rfl (fun ls hl => ?_)
            refine lv_goto (tgt := 41) hx hb dX9_fewestFrom_110 (by decide) ?_
            have t55 : ((89 : Int) - x53.toInt).toNat < ((89 : Int) - (y23.2.1 0).toInt).toNat := (by have f0 := b24; have f1 := k38; have f2 := t48; have f3 := t54; have f4 := t32; have f5 := t46; have f6 := t30; have f7 := t44; have f8 := b13; have f9 := k20; have f10 := t28; have f11 := t42; have f12 := t26; have f13 := t40; have f14 := h0; have f15 := h3; have f16 := k8; have f17 := t9; have f18 := j9_31 hJ rfl; have f19 := t6; have g1 := rg32 (y23.2.1 0); have g2 := rg32 x53; have z1 : (1 : Int32).toInt = 1 := (by decide); have z3 : (3 : Int32).toInt = 3 := (by decide); omega)
            exact nl21 (σ, lf [x53, (y52.2.1 0)], lg []) ⟨rfl, (show (0 : Int) ≤ (x53 : Int32).toInt ∧ (x53 : Int32).toInt ≤ 88 from (by have f0 := t54; have f1 := b24; have f2 := k38; have f3 := t48; have f4 := t32; have f5 := t46; have f6 := t30; have f7 := t44; have f8 := b13; have f9 := k20; have f10 := t28; have f11 := t42; have f12 := t26; have f13 := t40; have f14 := h0; have f15 := h3; have f16 := k8; have f17 := t9; have f18 := j9_31 hJ rfl; have f19 := t6; have g1 := rg32 x53; have z1 : (1 : Int32).toInt = 1 := (by decide); have z3 : (3 : Int32).toInt = 3 := (by decide); omega)), trivial⟩ (show ((89 : Int) - x53.toInt).toNat < _ from t55) _ _ _ hP hS (lv_sub hl [0, 2, 3, 4, 5, 6, 7, 8] rfl)
          ·
            intro nj50
            refine lv_icmp_ge (tgt := 107) hx hb dX9_fewestFrom_84 (by decide) (fun c56 => ?_) (fun c56 => ?_)
            ·
              have k57 := ple32 c56
              exact nj50 (σ, lf [(y23.2.1 1)], lg []) ⟨rfl, trivial⟩ _ _ _ hP hS (lv_sub hl [0, 1, 2, 3, 4, 5, 6, 7, 8] rfl)
            ·
              have k58 := nle32 c56
              refine lv_aload_n hx hb dX9_fewestFrom_87 rfl (lv_at hl 5 rfl) ?_
              refine lv_iload_n hx hb dX9_fewestFrom_88 rfl (lv_at hl 6 rfl) ?_
              refine lv_iload_n hx hb dX9_fewestFrom_89 rfl (lv_at hl 7 rfl) ?_
              refine lv_iload hx hb dX9_fewestFrom_90 (lv_at hl 0 rfl) ?_
              refine va_calli (va_runV (As := [.int p1, .int p2, .int x47]) (rest := []) ⟨hx, hb, hml, hown, hts⟩ (m_X9_octaveGo l D cy g σ p1 p2 x47 _ hJ (show (0 : Int) ≤ p1.toInt ∧ p1.toInt ≤ 14 from (by have f0 := h0; have f1 := h3; have f2 := k8; have f3 := t9; have f4 := t26; have f5 := t40; have f6 := j9_31 hJ rfl; have f7 := t6; have f8 := t28; have f9 := t42; have f10 := t30; have f11 := t44; have f12 := b13; have f13 := k20; have f14 := t32; have f15 := t46; have f16 := k38; have f17 := t48; have f18 := b24; have g1 := rg32 p1; have z1 : (1 : Int32).toInt = 1 := (by decide); have z3 : (3 : Int32).toInt = 3 := (by decide); omega)) (show (0 : Int) ≤ p2.toInt ∧ p2.toInt ≤ 4223 from (by have f0 := h0; have f1 := h1; have f2 := h3; have f3 := k8; have f4 := t9; have f5 := t26; have f6 := t40; have f7 := j9_31 hJ rfl; have f8 := t6; have f9 := t28; have f10 := t42; have f11 := t30; have f12 := t44; have f13 := b13; have f14 := k20; have f15 := t32; have f16 := t46; have f17 := k38; have f18 := t48; have f19 := b24; have g1 := rg32 p1; have g2 := rg32 p2; have z1 : (1 : Int32).toInt = 1 := (by decide); have z3 : (3 : Int32).toInt = 3 := (by decide); omega)) (show (0 : Int) ≤ x47.toInt ∧ x47.toInt ≤ 4223 from (by have f0 := h0; have f1 := h1; have f2 := h3; have f3 := k8; have f4 := t9; have f5 := t26; have f6 := t40; have f7 := t48; have f8 := j9_31 hJ rfl; have f9 := t6; have f10 := b24; have f11 := t28; have f12 := k38; have f13 := t42; have f14 := t46; have f15 := t30; have f16 := t32; have f17 := t44; have f18 := b13; have f19 := k20; have g1 := rg32 p1; have g2 := rg32 p2; have g3 := rg32 x47; have z1 : (1 : Int32).toInt = 1 := (by decide); have z3 : (3 : Int32).toInt = 3 := (by decide); omega))) (cwV 3 hts (gd_V q1928 q1930 q104 q134 q1931) rfl rfl rfl (by decide +kernel) ⟨Nat.le_of_ble_eq_true rfl, Nat.le_of_ble_eq_true rfl⟩) (pv9 hP hK hD hC hS (va_recv hK hP (ci := 9) (q0 := 0) rfl rfl)) rfl rfl hl.1 rfl (lv_room (Nat.le_of_ble_eq_true rfl)) dX9_fewestFrom_92 ⟨Nat.le_of_ble_eq_true rfl, Nat.le_of_ble_eq_true rfl⟩) hS (fun q _ h => up9 hS q h) (up9 hS) (fun r59 σ60 tS H1 locs ht hvm hw61 hB hz1 hk1 hS => ?_)
              have hP : va_P D clz (WD9 cy g σ60) H1 := by rw [← ht]; exact hB
              clear hB hz1 hk1 hvm ht
              generalize H1 = H at hP hS ⊢
              have hw61E : σ = σ60 := (hw61.1).symm
              subst hw61E
              have b62 : (0 : Int) ≤ r59.toInt ∧ r59.toInt ≤ 1 := hw61.2.1
              have b63 : r59 = goO (σ 9) p1.toInt.toNat p2.toInt.toNat x47.toInt.toNat := hw61.2.2.1
              refine lv_if_eq (tgt := 107) hx hb dX9_fewestFrom_95 (by decide) (fun c64 => ?_) (fun c64 => ?_)
              ·
                have k65 := peq32 c64
                exact nj50 (σ, lf [(y23.2.1 1)], lg []) ⟨rfl, trivial⟩ _ _ _ hP hS (lv_sub hl [0, 1, 2, 3, 4, 5, 6, 7, 8] rfl)
              ·
                have k66 := neq32 c64
                refine lv_aload_n hx hb dX9_fewestFrom_98 rfl (lv_at hl 5 rfl) ?_
                refine g9_46 hx hb hts hown hK hP (hts _ q1406) dX9_fewestFrom_99 ?_
                refine lv_iload hx hb dX9_fewestFrom_102 (lv_at hl 0 rfl) ?_
                refine l9_46 (x := x49) hx hb hK hP (vpo (by have f0 := t48; have f1 := b24; have f2 := k38; have f3 := t46; have f4 := t32; have f5 := t44; have f6 := b13; have f7 := k20; have f8 := t30; have f9 := t42; have f10 := t28; have f11 := t40; have f12 := h0; have f13 := h3; have f14 := k8; have f15 := t9; have f16 := t26; have f17 := j9_31 hJ rfl; have f18 := t6; have g1 := rg32 x47; have z1 : (1 : Int32).toInt = 1 := (by decide); have z3 : (3 : Int32).toInt = 3 := (by decide); omega)) ex49 dX9_fewestFrom_104 ?_
                refine lv_istore (lv' := [(5, .int x49), (8, .int x47), (7, .int (y23.2.1 0)), (6, .int (y12.2.1 0)), (4, .int (y3.2.1 0)), (0, .ref (g 60)), (1, .int p1), (2, .int p2), (3, .int p3)]) hx hb dX9_fewestFrom_105 hl (by decide) rfl (fun ls hl => ?_)
                exact nj50 (σ, lf [x49], lg []) ⟨rfl, trivial⟩ _ _ _ hP hS (lv_sub hl [1, 2, 3, 0, 4, 5, 6, 7, 8] rfl)
    ·
      have k67 := peq32 c7
      refine lv_iload hx hb dX9_fewestFrom_22 (lv_at hl 0 rfl) ?_
      exact W.iret (v := (y3.2.1 0)) hx hb hr (fun tS ht hW => ⟨⟨(y3.2.1 0), σ, rfl, ⟨rfl, trivial⟩, (show va_P D clz (WD9 cy g σ) tS.heap by rw [ht]; exact hP)⟩, hS.F ht⟩) hS.2.2 dX9_fewestFrom_24
  ·
    intro nj1
    refine lv_icmp_ne (tgt := 9) hx hb dX9_fewestFrom_2 (by decide) (fun c68 => ?_) (fun c68 => ?_)
    ·
      have k69 := neq32 c68
      refine lv_iconst (v := 1) hx hb dX9_fewestFrom_9 (by decide) ?_
      exact nj1 (σ, lf [1], lg []) ⟨rfl, (show (0 : Int) ≤ (1 : Int32).toInt ∧ (1 : Int32).toInt ≤ 1 from (by have z1 : (1 : Int32).toInt = 1 := (by decide); omega)), trivial⟩ _ _ _ hP hS (lv_sub hl [0, 1, 2, 3] rfl)
    ·
      have k70 := peq32 c68
      refine lv_iconst (v := 0) hx hb dX9_fewestFrom_5 (by decide) ?_
      refine lv_goto (tgt := 10) hx hb dX9_fewestFrom_6 (by decide) ?_
      exact nj1 (σ, lf [0], lg []) ⟨rfl, (show (0 : Int) ≤ (0 : Int32).toInt ∧ (0 : Int32).toInt ≤ 1 from (by have z0 : (0 : Int32).toInt = 0 := (by decide); omega)), trivial⟩ _ _ _ hP hS (lv_sub hl [0, 1, 2, 3] rfl)

theorem q1935 : Cond.code yX9_comesBy cX9_comesBy 11 (some .boolean) ∈ lw_g := lw_gm (List.mem_of_getElem? (i := 1935) (by decide +kernel)) rfl
theorem q1407 : Cond.fieldLink RX9 101 "LipsAndSlidesModel" "octaveCome" "[Z" ∈ lw_g := lw_gm (List.mem_of_getElem? (i := 1407) (by decide +kernel)) rfl
theorem q1408 : Cond.fieldLink RX9 104 "LipsAndSlidesModel" "putBy" "[I" ∈ lw_g := lw_gm (List.mem_of_getElem? (i := 1408) (by decide +kernel)) rfl
theorem dX9_comesBy_0 : decode cX9_comesBy 0 = .ok (.iconst 0, 1) := by decide +kernel
theorem dX9_comesBy_1 : decode cX9_comesBy 1 = .ok (.istore 4, 2) := by decide +kernel
theorem dX9_comesBy_3 : decode cX9_comesBy 3 = .ok (.iconst 0, 1) := by decide +kernel
theorem dX9_comesBy_4 : decode cX9_comesBy 4 = .ok (.istore 5, 2) := by decide +kernel
theorem dX9_comesBy_6 : decode cX9_comesBy 6 = .ok (.iload 5, 2) := by decide +kernel
theorem dX9_comesBy_8 : decode cX9_comesBy 8 = .ok (.aload_n 0, 1) := by decide +kernel
theorem dX9_comesBy_9 : decode cX9_comesBy 9 = .ok (.getfield 89, 3) := by decide +kernel
theorem dX9_comesBy_12 : decode cX9_comesBy 12 = .ok (.iconst 3, 1) := by decide +kernel
theorem dX9_comesBy_13 : decode cX9_comesBy 13 = .ok (.iload_n 1, 1) := by decide +kernel
theorem dX9_comesBy_14 : decode cX9_comesBy 14 = .ok (.imul, 1) := by decide +kernel
theorem dX9_comesBy_15 : decode cX9_comesBy 15 = .ok (.iload_n 2, 1) := by decide +kernel
theorem dX9_comesBy_16 : decode cX9_comesBy 16 = .ok (.iadd, 1) := by decide +kernel
theorem dX9_comesBy_17 : decode cX9_comesBy 17 = .ok (.iaload, 1) := by decide +kernel
theorem dX9_comesBy_18 : decode cX9_comesBy 18 = .ok (.if_icmp .ge 195, 3) := by decide +kernel
theorem dX9_comesBy_21 : decode cX9_comesBy 21 = .ok (.bipush 88, 2) := by decide +kernel
theorem dX9_comesBy_23 : decode cX9_comesBy 23 = .ok (.iconst 3, 1) := by decide +kernel
theorem dX9_comesBy_24 : decode cX9_comesBy 24 = .ok (.iload_n 1, 1) := by decide +kernel
theorem dX9_comesBy_25 : decode cX9_comesBy 25 = .ok (.imul, 1) := by decide +kernel
theorem dX9_comesBy_26 : decode cX9_comesBy 26 = .ok (.iload_n 2, 1) := by decide +kernel
theorem dX9_comesBy_27 : decode cX9_comesBy 27 = .ok (.iadd, 1) := by decide +kernel
theorem dX9_comesBy_28 : decode cX9_comesBy 28 = .ok (.imul, 1) := by decide +kernel
theorem dX9_comesBy_29 : decode cX9_comesBy 29 = .ok (.iload 5, 2) := by decide +kernel
theorem dX9_comesBy_31 : decode cX9_comesBy 31 = .ok (.iadd, 1) := by decide +kernel
theorem dX9_comesBy_32 : decode cX9_comesBy 32 = .ok (.istore 6, 2) := by decide +kernel
theorem dX9_comesBy_34 : decode cX9_comesBy 34 = .ok (.aload_n 0, 1) := by decide +kernel
theorem dX9_comesBy_35 : decode cX9_comesBy 35 = .ok (.getfield 98, 3) := by decide +kernel
theorem dX9_comesBy_38 : decode cX9_comesBy 38 = .ok (.iload 6, 2) := by decide +kernel
theorem dX9_comesBy_40 : decode cX9_comesBy 40 = .ok (.iaload, 1) := by decide +kernel
theorem dX9_comesBy_41 : decode cX9_comesBy 41 = .ok (.iload_n 3, 1) := by decide +kernel
theorem dX9_comesBy_42 : decode cX9_comesBy 42 = .ok (.if_icmp .ne 7, 3) := by decide +kernel
theorem dX9_comesBy_45 : decode cX9_comesBy 45 = .ok (.iconst 1, 1) := by decide +kernel
theorem dX9_comesBy_46 : decode cX9_comesBy 46 = .ok (.goto 4, 3) := by decide +kernel
theorem dX9_comesBy_49 : decode cX9_comesBy 49 = .ok (.iconst 0, 1) := by decide +kernel
theorem dX9_comesBy_50 : decode cX9_comesBy 50 = .ok (.istore 7, 2) := by decide +kernel
theorem dX9_comesBy_52 : decode cX9_comesBy 52 = .ok (.iload_n 1, 1) := by decide +kernel
theorem dX9_comesBy_53 : decode cX9_comesBy 53 = .ok (.ifCond .ne 7, 3) := by decide +kernel
theorem dX9_comesBy_56 : decode cX9_comesBy 56 = .ok (.iconst 1, 1) := by decide +kernel
theorem dX9_comesBy_57 : decode cX9_comesBy 57 = .ok (.goto 4, 3) := by decide +kernel
theorem dX9_comesBy_60 : decode cX9_comesBy 60 = .ok (.iconst 0, 1) := by decide +kernel
theorem dX9_comesBy_61 : decode cX9_comesBy 61 = .ok (.istore 8, 2) := by decide +kernel
theorem dX9_comesBy_63 : decode cX9_comesBy 63 = .ok (.iconst 0, 1) := by decide +kernel
theorem dX9_comesBy_64 : decode cX9_comesBy 64 = .ok (.istore 9, 2) := by decide +kernel
theorem dX9_comesBy_66 : decode cX9_comesBy 66 = .ok (.iload 7, 2) := by decide +kernel
theorem dX9_comesBy_68 : decode cX9_comesBy 68 = .ok (.ifCond .eq 95, 3) := by decide +kernel
theorem dX9_comesBy_71 : decode cX9_comesBy 71 = .ok (.iload_n 1, 1) := by decide +kernel
theorem dX9_comesBy_72 : decode cX9_comesBy 72 = .ok (.ifCond .le 91, 3) := by decide +kernel
theorem dX9_comesBy_75 : decode cX9_comesBy 75 = .ok (.iload 8, 2) := by decide +kernel
theorem dX9_comesBy_77 : decode cX9_comesBy 77 = .ok (.ifCond .ne 86, 3) := by decide +kernel
theorem dX9_comesBy_80 : decode cX9_comesBy 80 = .ok (.iload 9, 2) := by decide +kernel
theorem dX9_comesBy_82 : decode cX9_comesBy 82 = .ok (.aload_n 0, 1) := by decide +kernel
theorem dX9_comesBy_83 : decode cX9_comesBy 83 = .ok (.getfield 89, 3) := by decide +kernel
theorem dX9_comesBy_86 : decode cX9_comesBy 86 = .ok (.iconst 3, 1) := by decide +kernel
theorem dX9_comesBy_87 : decode cX9_comesBy 87 = .ok (.iload_n 1, 1) := by decide +kernel
theorem dX9_comesBy_88 : decode cX9_comesBy 88 = .ok (.iconst 1, 1) := by decide +kernel
theorem dX9_comesBy_89 : decode cX9_comesBy 89 = .ok (.isub, 1) := by decide +kernel
theorem dX9_comesBy_90 : decode cX9_comesBy 90 = .ok (.imul, 1) := by decide +kernel
theorem dX9_comesBy_91 : decode cX9_comesBy 91 = .ok (.aload_n 0, 1) := by decide +kernel
theorem dX9_comesBy_92 : decode cX9_comesBy 92 = .ok (.getfield 104, 3) := by decide +kernel
theorem dX9_comesBy_95 : decode cX9_comesBy 95 = .ok (.iload_n 1, 1) := by decide +kernel
theorem dX9_comesBy_96 : decode cX9_comesBy 96 = .ok (.iconst 1, 1) := by decide +kernel
theorem dX9_comesBy_97 : decode cX9_comesBy 97 = .ok (.isub, 1) := by decide +kernel
theorem dX9_comesBy_98 : decode cX9_comesBy 98 = .ok (.iaload, 1) := by decide +kernel
theorem dX9_comesBy_99 : decode cX9_comesBy 99 = .ok (.iadd, 1) := by decide +kernel
theorem dX9_comesBy_100 : decode cX9_comesBy 100 = .ok (.iaload, 1) := by decide +kernel
theorem dX9_comesBy_101 : decode cX9_comesBy 101 = .ok (.if_icmp .ge 62, 3) := by decide +kernel
theorem dX9_comesBy_104 : decode cX9_comesBy 104 = .ok (.bipush 88, 2) := by decide +kernel
theorem dX9_comesBy_106 : decode cX9_comesBy 106 = .ok (.iconst 3, 1) := by decide +kernel
theorem dX9_comesBy_107 : decode cX9_comesBy 107 = .ok (.iload_n 1, 1) := by decide +kernel
theorem dX9_comesBy_108 : decode cX9_comesBy 108 = .ok (.iconst 1, 1) := by decide +kernel
theorem dX9_comesBy_109 : decode cX9_comesBy 109 = .ok (.isub, 1) := by decide +kernel
theorem dX9_comesBy_110 : decode cX9_comesBy 110 = .ok (.imul, 1) := by decide +kernel
theorem dX9_comesBy_111 : decode cX9_comesBy 111 = .ok (.aload_n 0, 1) := by decide +kernel
theorem dX9_comesBy_112 : decode cX9_comesBy 112 = .ok (.getfield 104, 3) := by decide +kernel
theorem dX9_comesBy_115 : decode cX9_comesBy 115 = .ok (.iload_n 1, 1) := by decide +kernel
theorem dX9_comesBy_116 : decode cX9_comesBy 116 = .ok (.iconst 1, 1) := by decide +kernel
theorem dX9_comesBy_117 : decode cX9_comesBy 117 = .ok (.isub, 1) := by decide +kernel
theorem dX9_comesBy_118 : decode cX9_comesBy 118 = .ok (.iaload, 1) := by decide +kernel
theorem dX9_comesBy_119 : decode cX9_comesBy 119 = .ok (.iadd, 1) := by decide +kernel
theorem dX9_comesBy_120 : decode cX9_comesBy 120 = .ok (.imul, 1) := by decide +kernel
theorem dX9_comesBy_121 : decode cX9_comesBy 121 = .ok (.iload 9, 2) := by decide +kernel
theorem dX9_comesBy_123 : decode cX9_comesBy 123 = .ok (.iadd, 1) := by decide +kernel
theorem dX9_comesBy_124 : decode cX9_comesBy 124 = .ok (.istore 10, 2) := by decide +kernel
theorem dX9_comesBy_126 : decode cX9_comesBy 126 = .ok (.aload_n 0, 1) := by decide +kernel
theorem dX9_comesBy_127 : decode cX9_comesBy 127 = .ok (.getfield 101, 3) := by decide +kernel
theorem dX9_comesBy_130 : decode cX9_comesBy 130 = .ok (.iload 10, 2) := by decide +kernel
theorem dX9_comesBy_132 : decode cX9_comesBy 132 = .ok (.baload, 1) := by decide +kernel
theorem dX9_comesBy_133 : decode cX9_comesBy 133 = .ok (.ifCond .eq 21, 3) := by decide +kernel
theorem dX9_comesBy_136 : decode cX9_comesBy 136 = .ok (.aload_n 0, 1) := by decide +kernel
theorem dX9_comesBy_137 : decode cX9_comesBy 137 = .ok (.iload_n 1, 1) := by decide +kernel
theorem dX9_comesBy_138 : decode cX9_comesBy 138 = .ok (.iconst 1, 1) := by decide +kernel
theorem dX9_comesBy_139 : decode cX9_comesBy 139 = .ok (.isub, 1) := by decide +kernel
theorem dX9_comesBy_140 : decode cX9_comesBy 140 = .ok (.iload 10, 2) := by decide +kernel
theorem dX9_comesBy_142 : decode cX9_comesBy 142 = .ok (.iload 6, 2) := by decide +kernel
theorem dX9_comesBy_144 : decode cX9_comesBy 144 = .ok (.invokevirtual 445, 3) := by decide +kernel
theorem dX9_comesBy_147 : decode cX9_comesBy 147 = .ok (.ifCond .eq 7, 3) := by decide +kernel
theorem dX9_comesBy_150 : decode cX9_comesBy 150 = .ok (.iconst 1, 1) := by decide +kernel
theorem dX9_comesBy_151 : decode cX9_comesBy 151 = .ok (.goto 4, 3) := by decide +kernel
theorem dX9_comesBy_154 : decode cX9_comesBy 154 = .ok (.iconst 0, 1) := by decide +kernel
theorem dX9_comesBy_155 : decode cX9_comesBy 155 = .ok (.istore 8, 2) := by decide +kernel
theorem dX9_comesBy_157 : decode cX9_comesBy 157 = .ok (.iinc 9 1, 3) := by decide +kernel
theorem dX9_comesBy_160 : decode cX9_comesBy 160 = .ok (.goto (-94), 3) := by decide +kernel
theorem dX9_comesBy_163 : decode cX9_comesBy 163 = .ok (.aload_n 0, 1) := by decide +kernel
theorem dX9_comesBy_164 : decode cX9_comesBy 164 = .ok (.getfield 101, 3) := by decide +kernel
theorem dX9_comesBy_167 : decode cX9_comesBy 167 = .ok (.iload 6, 2) := by decide +kernel
theorem dX9_comesBy_169 : decode cX9_comesBy 169 = .ok (.iload 7, 2) := by decide +kernel
theorem dX9_comesBy_171 : decode cX9_comesBy 171 = .ok (.ifCond .eq 12, 3) := by decide +kernel
theorem dX9_comesBy_174 : decode cX9_comesBy 174 = .ok (.iload 8, 2) := by decide +kernel
theorem dX9_comesBy_176 : decode cX9_comesBy 176 = .ok (.ifCond .eq 7, 3) := by decide +kernel
theorem dX9_comesBy_179 : decode cX9_comesBy 179 = .ok (.iconst 1, 1) := by decide +kernel
theorem dX9_comesBy_180 : decode cX9_comesBy 180 = .ok (.goto 4, 3) := by decide +kernel
theorem dX9_comesBy_183 : decode cX9_comesBy 183 = .ok (.iconst 0, 1) := by decide +kernel
theorem dX9_comesBy_184 : decode cX9_comesBy 184 = .ok (.bastore, 1) := by decide +kernel
theorem dX9_comesBy_185 : decode cX9_comesBy 185 = .ok (.iload 4, 2) := by decide +kernel
theorem dX9_comesBy_187 : decode cX9_comesBy 187 = .ok (.ifCond .ne 13, 3) := by decide +kernel
theorem dX9_comesBy_190 : decode cX9_comesBy 190 = .ok (.aload_n 0, 1) := by decide +kernel
theorem dX9_comesBy_191 : decode cX9_comesBy 191 = .ok (.getfield 101, 3) := by decide +kernel
theorem dX9_comesBy_194 : decode cX9_comesBy 194 = .ok (.iload 6, 2) := by decide +kernel
theorem dX9_comesBy_196 : decode cX9_comesBy 196 = .ok (.baload, 1) := by decide +kernel
theorem dX9_comesBy_197 : decode cX9_comesBy 197 = .ok (.ifCond .eq 7, 3) := by decide +kernel
theorem dX9_comesBy_200 : decode cX9_comesBy 200 = .ok (.iconst 1, 1) := by decide +kernel
theorem dX9_comesBy_201 : decode cX9_comesBy 201 = .ok (.goto 4, 3) := by decide +kernel
theorem dX9_comesBy_204 : decode cX9_comesBy 204 = .ok (.iconst 0, 1) := by decide +kernel
theorem dX9_comesBy_205 : decode cX9_comesBy 205 = .ok (.istore 4, 2) := by decide +kernel
theorem dX9_comesBy_207 : decode cX9_comesBy 207 = .ok (.iinc 5 1, 3) := by decide +kernel
theorem dX9_comesBy_210 : decode cX9_comesBy 210 = .ok (.goto (-204), 3) := by decide +kernel
theorem dX9_comesBy_213 : decode cX9_comesBy 213 = .ok (.iload 4, 2) := by decide +kernel
theorem dX9_comesBy_215 : decode cX9_comesBy 215 = .ok (.ireturn, 1) := by decide +kernel
set_option maxHeartbeats 4000000 in
set_option maxRecDepth 100000 in
theorem m_X9_comesBy (l : Launch) (D : va_G) (cy : Nat → ClassId) (g : Nat → Nat) (σ : ST) (p1 : Int32) (p2 : Int32) (p3 : Int32) (sz : Nat) (hJ : J9 (σ 9)) (h0 : (0 : Int) ≤ p1.toInt ∧ p1.toInt ≤ 15) (h1 : (0 : Int) ≤ p2.toInt ∧ p2.toInt ≤ 2) (h2 : p1.toInt = 0 ∨ 2 ≤ p1.toInt ∨ 0 ≤ ((σ 9).2.2.1 48 0).toInt) : Met l yX9_comesBy (ww yX9_comesBy cX9_comesBy 11 (some .boolean)) ({ frames := 5, cells := 0, slots := 0, locals := 320 }) (va_Pc [.ref (g 60), .int p1, .int p2, .int p3] (pr9 D cy g σ sz)) (qi9 D cy g sz (fun r τ => Fr (fL [47]) σ τ ∧ J9 (τ 9) ∧ ((0 : Int) ≤ r.toInt ∧ r.toInt ≤ 1) ∧ (CBP (σ 9) p1 p2.toInt.toNat p3 r) ∧ True)) 0 0 (A9 cy g sz) := by
  refine Met.ofW (cc := cX9_comesBy) (maxL := 11) (ret := (some .boolean)) (by decide) rfl ?_
  intro p e s m args below meth c s₁ B hml hv
  obtain ⟨rfl, hsz, hP, hK, hD0, hC⟩ := hv
  have hx := B.exec
  have hb := B.bytes
  have hr := B.returns
  have hts := hts_g (atoms_spec (ws := ww yX9_comesBy cX9_comesBy 11 (some .boolean)) B.pre)
  have hown : s.vm.findClass RX9 = some m.cls := findClass_of_methodNamed B.named
  have hlocks := B.notSynchronized
  clear B
  subst hsz
  have hD := fun τ => A9_D (sz := s.heap.size) hD0 τ
  clear hD0
  have hS : va_S (A9 cy g s.heap.size) s.heap s.heap [] := va_S.rf
  have hl := lv_entry ([.ref (g 60), .int p1, .int p2, .int p3]) (n := 11) (Nat.le_of_ble_eq_true rfl)
  rw [lg_entry_eq]
  generalize (lg_sl ([.ref (g 60), .int p1, .int p2, .int p3]) ++ List.replicate (11 - (lg_sl ([.ref (g 60), .int p1, .int p2, .int p3])).length) Slot.unset).toArray = ls at hl ⊢
  have hl : lv_has ls 11 [(0, .ref (g 60)), (1, .int p1), (2, .int p2), (3, .int p3)] := hl
  refine lv_iconst (v := 0) hx hb dX9_comesBy_0 (by decide) ?_
  refine lv_istore (lv' := [(4, .int 0), (0, .ref (g 60)), (1, .int p1), (2, .int p2), (3, .int p3)]) hx hb dX9_comesBy_1 hl (by decide) rfl (fun ls hl => ?_)
  refine lv_iconst (v := 0) hx hb dX9_comesBy_3 (by decide) ?_
  refine lv_istore (lv' := [(5, .int 0), (4, .int 0), (0, .ref (g 60)), (1, .int p1), (2, .int p2), (3, .int p3)]) hx hb dX9_comesBy_4 hl (by decide) rfl (fun ls hl => ?_)
  refine loop9 11 6 (fun x : LZ => [(5, .int (x.2.1 0)), (4, .int (x.2.1 1)), (0, .ref (g 60)), (1, .int p1), (2, .int p2), (3, .int p3)]) (fun x : LZ => (Fr (fL [47]) σ x.1) ∧ (J9 (x.1 9)) ∧ ((0 : Int) ≤ (x.2.1 0).toInt ∧ (x.2.1 0).toInt ≤ 88) ∧ ((0 : Int) ≤ (x.2.1 1).toInt ∧ (x.2.1 1).toInt ≤ 1) ∧ (CBQ (σ 9) p1 p2.toInt.toNat p3 (x.2.1 1) (x.2.1 0)) ∧ True) (fun x : LZ => ((89 : Int) - (x.2.1 0).toInt).toNat) ?_ (σ, lf [0, 0], lg []) ⟨Fr.rf, hJ, (show (0 : Int) ≤ (0 : Int32).toInt ∧ (0 : Int32).toInt ≤ 88 from (by have z0 : (0 : Int32).toInt = 0 := (by decide); omega)), (show (0 : Int) ≤ (0 : Int32).toInt ∧ (0 : Int32).toInt ≤ 1 from (by have z0 : (0 : Int32).toInt = 0 := (by decide); omega)), (show CBQ (σ 9) p1 p2.toInt.toNat p3 (0 : Int32) (0 : Int32) from (CBQ.nil (by decide))), trivial⟩ _ _ _ hP hS (lv_sub hl [0, 1, 2, 3, 4, 5] rfl)
  intro y3 hI2 nl1 H locs ls hP hS hl
  obtain ⟨σ4, eσ4⟩ : ∃ z, z = y3.1 := ⟨_, rfl⟩
  rw [← eσ4] at hP hI2
  have hF5 : Fr (fL [47]) σ σ4 := hI2.1
  have hJ6 : J9 (σ4 9) := hI2.2.1
  have b7 : (0 : Int) ≤ (y3.2.1 0).toInt ∧ (y3.2.1 0).toInt ≤ 88 := hI2.2.2.1
  have b8 : (0 : Int) ≤ (y3.2.1 1).toInt ∧ (y3.2.1 1).toInt ≤ 1 := hI2.2.2.2.1
  have b9 : CBQ (σ 9) p1 p2.toInt.toNat p3 (y3.2.1 1) (y3.2.1 0) := hI2.2.2.2.2.1
  have hl : lv_has ls 11 [(5, .int (y3.2.1 0)), (4, .int (y3.2.1 1)), (0, .ref (g 60)), (1, .int p1), (2, .int p2), (3, .int p3)] := hl
  refine lv_iload hx hb dX9_comesBy_6 (lv_at hl 0 rfl) ?_
  refine lv_aload_n hx hb dX9_comesBy_8 rfl (lv_at hl 2 rfl) ?_
  refine g9_43 hx hb hts hown hK hP (hts _ q1403) dX9_comesBy_9 ?_
  refine lv_iconst (v := 3) hx hb dX9_comesBy_12 (by decide) ?_
  refine lv_iload_n hx hb dX9_comesBy_13 rfl (lv_at hl 3 rfl) ?_
  refine lv_imul hx hb dX9_comesBy_14 ?_
  refine lv_topi (fun x10 ex10 => ?_)
  have t11 := mulC' (n := 3) ex10 (by decide) (by have f0 := h0; have f1 := h2; have f2 := a9_48 hJ (j := 0) rfl; have g1 := rg32 p1; omega)
  refine lv_iload_n hx hb dX9_comesBy_15 rfl (lv_at hl 4 rfl) ?_
  refine lv_iadd hx hb dX9_comesBy_16 ?_
  refine lv_topi (fun x12 ex12 => ?_)
  have t13 := addO ex12 (by have f0 := h1; have f1 := t11; have f2 := h0; have f3 := h2; have f4 := a9_48 hJ (j := 0) rfl; have g1 := rg32 p2; have g2 := rg32 x10; omega)
  obtain ⟨x14, ex14⟩ : ∃ z, (σ 9).2.2.1 43 x12.toInt.toNat = z := ⟨_, rfl⟩
  refine l9_43 (x := x14) hx hb hK hP (vpo (by have f0 := t13; have f1 := h1; have f2 := t11; have f3 := h0; have f4 := h2; have f5 := a9_48 hJ (j := 0) rfl; have g1 := rg32 x12; omega)) ((congrFun ((hF5 9 43 rfl).2.2.1) _).trans ex14) dX9_comesBy_17 ?_
  have t15 := a9_43 hJ ex14
  refine lv_icmp_ge (tgt := 213) hx hb dX9_comesBy_18 (by decide) (fun c16 => ?_) (fun c16 => ?_)
  ·
    have k17 := ple32 c16
    refine lv_iload hx hb dX9_comesBy_213 (lv_at hl 1 rfl) ?_
    exact W.zret (v := (y3.2.1 1)) hx hb hr (nrZ (by have f0 := b8; have g0 := rg32 (y3.2.1 1); omega)) (fun tS ht hW => ⟨⟨(y3.2.1 1), σ4, rfl, ⟨Fr.tr (Fr.rf) hF5 (fL_sub rfl), hJ6, (show (0 : Int) ≤ (y3.2.1 1).toInt ∧ (y3.2.1 1).toInt ≤ 1 from (by have f0 := b8; have g0 := rg32 (y3.2.1 1); omega)), (show CBP (σ 9) p1 p2.toInt.toNat p3 (y3.2.1 1) from (CBQ.done b9 ex14 (fun hk => (by have f0 := h0; have f1 := h1; have f2 := h2; have f3 := t11; have f4 := t13; have f5 := t15; have f6 := a9_48 hJ (j := 0) rfl; have f7 := k17; have f8 := b7; have g1 := rg32 p1; have g2 := rg32 p2; have g3 := rg32 x12; omega)) (by have f0 := b7; have f1 := t15; have f2 := k17; have f3 := t13; have f4 := h1; have f5 := t11; have f6 := h0; have f7 := h2; have f8 := a9_48 hJ (j := 0) rfl; have g1 := rg32 (y3.2.1 0); have g2 := rg32 x14; omega))), trivial⟩, (show va_P D clz (WD9 cy g σ4) tS.heap by rw [ht]; exact hP)⟩, hS.F ht⟩) hS.2.2 dX9_comesBy_215
  ·
    have k18 := nle32 c16
    refine lv_bipush (v := 88) hx hb dX9_comesBy_21 (by decide) ?_
    refine lv_iconst (v := 3) hx hb dX9_comesBy_23 (by decide) ?_
    refine lv_iload_n hx hb dX9_comesBy_24 rfl (lv_at hl 3 rfl) ?_
    refine lv_imul hx hb dX9_comesBy_25 ?_
    refine lv_topi (fun x19 ex19 => ?_)
    have t20 := mulC' (n := 3) ex19 (by decide) (by have f0 := h0; have f1 := h2; have f2 := t11; have f3 := a9_48 hJ (j := 0) rfl; have f4 := t13; have f5 := h1; have f6 := t15; have f7 := k18; have f8 := b7; have g1 := rg32 p1; omega)
    refine lv_iload_n hx hb dX9_comesBy_26 rfl (lv_at hl 4 rfl) ?_
    refine lv_iadd hx hb dX9_comesBy_27 ?_
    refine lv_topi (fun x21 ex21 => ?_)
    have t22 := addO ex21 (by have f0 := h1; have f1 := t13; have f2 := t20; have f3 := h0; have f4 := h2; have f5 := t11; have f6 := t15; have f7 := a9_48 hJ (j := 0) rfl; have f8 := k18; have f9 := b7; have g1 := rg32 p2; have g2 := rg32 x19; omega)
    refine lv_imul hx hb dX9_comesBy_28 ?_
    refine lv_topi (fun x23 ex23 => ?_)
    have t24 := mulC' (n := 88) ex23 (by decide) (by have f0 := t22; have f1 := h1; have f2 := t13; have f3 := t20; have f4 := h0; have f5 := h2; have f6 := t11; have f7 := t15; have f8 := a9_48 hJ (j := 0) rfl; have f9 := k18; have f10 := b7; have g1 := rg32 x21; omega)
    refine lv_iload hx hb dX9_comesBy_29 (lv_at hl 0 rfl) ?_
    refine lv_iadd hx hb dX9_comesBy_31 ?_
    refine lv_topi (fun x25 ex25 => ?_)
    have t26 := addO ex25 (by have f0 := b7; have f1 := k18; have f2 := t24; have f3 := t15; have f4 := t22; have f5 := h1; have f6 := t13; have f7 := t20; have f8 := h0; have f9 := h2; have f10 := t11; have f11 := a9_48 hJ (j := 0) rfl; have g1 := rg32 (y3.2.1 0); have g2 := rg32 x23; omega)
    refine lv_istore (lv' := [(6, .int x25), (5, .int (y3.2.1 0)), (4, .int (y3.2.1 1)), (0, .ref (g 60)), (1, .int p1), (2, .int p2), (3, .int p3)]) hx hb dX9_comesBy_32 hl (by decide) rfl (fun ls hl => ?_)
    refine lv_aload_n hx hb dX9_comesBy_34 rfl (lv_at hl 3 rfl) ?_
    refine g9_46 hx hb hts hown hK hP (hts _ q1406) dX9_comesBy_35 ?_
    refine lv_iload hx hb dX9_comesBy_38 (lv_at hl 0 rfl) ?_
    obtain ⟨x27, ex27⟩ : ∃ z, (σ 9).2.2.1 46 x25.toInt.toNat = z := ⟨_, rfl⟩
    refine l9_46 (x := x27) hx hb hK hP (vpo (by have f0 := t26; have f1 := b7; have f2 := k18; have f3 := t24; have f4 := t15; have f5 := t22; have f6 := h1; have f7 := t13; have f8 := t20; have f9 := h0; have f10 := h2; have f11 := t11; have f12 := a9_48 hJ (j := 0) rfl; have g1 := rg32 x25; omega)) ((congrFun ((hF5 9 46 rfl).2.2.1) _).trans ex27) dX9_comesBy_40 ?_
    refine lv_iload_n hx hb dX9_comesBy_41 rfl (lv_at hl 6 rfl) ?_
    refine cut9 (D := D) (cy := cy) (g := g) (A := A9 cy g s.heap.size) (H0 := s.heap) 11 50 (fun x : LZ => [(6, .int x25), (5, .int (y3.2.1 0)), (4, .int (y3.2.1 1)), (0, .ref (g 60)), (1, .int p1), (2, .int p2), (3, .int p3)]) (fun x : LZ => [.int (x.2.1 0)]) (fun x : LZ => (x.1 = σ4) ∧ ((0 : Int) ≤ (x.2.1 0).toInt ∧ (x.2.1 0).toInt ≤ 1) ∧ ((x.2.1 0).toInt = 1 ∨ ¬ x27.toInt = p3.toInt) ∧ True) ?_ ?_
    ·
      intro y30 hI29 H locs ls hP hS hl
      rw [show y30.1 = σ4 from hI29.1] at hP
      have b31 : (0 : Int) ≤ (y30.2.1 0).toInt ∧ (y30.2.1 0).toInt ≤ 1 := hI29.2.1
      have b32 : (y30.2.1 0).toInt = 1 ∨ ¬ x27.toInt = p3.toInt := hI29.2.2.1
      have hl : lv_has ls 11 [(6, .int x25), (5, .int (y3.2.1 0)), (4, .int (y3.2.1 1)), (0, .ref (g 60)), (1, .int p1), (2, .int p2), (3, .int p3)] := hl
      refine W.eq (g2 := F0 m 50 ls [.int (y30.2.1 0)]) rfl ?_
      refine lv_istore (lv' := [(7, .int (y30.2.1 0)), (6, .int x25), (5, .int (y3.2.1 0)), (4, .int (y3.2.1 1)), (0, .ref (g 60)), (1, .int p1), (2, .int p2), (3, .int p3)]) hx hb dX9_comesBy_50 hl (by decide) rfl (fun ls hl => ?_)
      refine lv_iload_n hx hb dX9_comesBy_52 rfl (lv_at hl 5 rfl) ?_
      refine cut9 (D := D) (cy := cy) (g := g) (A := A9 cy g s.heap.size) (H0 := s.heap) 11 61 (fun x : LZ => [(7, .int (y30.2.1 0)), (6, .int x25), (5, .int (y3.2.1 0)), (4, .int (y3.2.1 1)), (0, .ref (g 60)), (1, .int p1), (2, .int p2), (3, .int p3)]) (fun x : LZ => [.int (x.2.1 0)]) (fun x : LZ => (x.1 = σ4) ∧ ((0 : Int) ≤ (x.2.1 0).toInt ∧ (x.2.1 0).toInt ≤ 1) ∧ (¬ p1.toInt = 0 ∨ (x.2.1 0).toInt = 1) ∧ True) ?_ ?_
      ·
        intro y35 hI34 H locs ls hP hS hl
        rw [show y35.1 = σ4 from hI34.1] at hP
        have b36 : (0 : Int) ≤ (y35.2.1 0).toInt ∧ (y35.2.1 0).toInt ≤ 1 := hI34.2.1
        have b37 : ¬ p1.toInt = 0 ∨ (y35.2.1 0).toInt = 1 := hI34.2.2.1
        have hl : lv_has ls 11 [(7, .int (y30.2.1 0)), (6, .int x25), (5, .int (y3.2.1 0)), (4, .int (y3.2.1 1)), (0, .ref (g 60)), (1, .int p1), (2, .int p2), (3, .int p3)] := hl
        refine W.eq (g2 := F0 m 61 ls [.int (y35.2.1 0)]) rfl ?_
        refine lv_istore (lv' := [(8, .int (y35.2.1 0)), (7, .int (y30.2.1 0)), (6, .int x25), (5, .int (y3.2.1 0)), (4, .int (y3.2.1 1)), (0, .ref (g 60)), (1, .int p1), (2, .int p2), (3, .int p3)]) hx hb dX9_comesBy_61 hl (by decide) rfl (fun ls hl => ?_)
        refine lv_iconst (v := 0) hx hb dX9_comesBy_63 (by decide) ?_
        refine lv_istore (lv' := [(9, .int 0), (8, .int (y35.2.1 0)), (7, .int (y30.2.1 0)), (6, .int x25), (5, .int (y3.2.1 0)), (4, .int (y3.2.1 1)), (0, .ref (g 60)), (1, .int p1), (2, .int p2), (3, .int p3)]) hx hb dX9_comesBy_64 hl (by decide) rfl (fun ls hl => ?_)
        refine loop9 11 66 (fun x : LZ => [(9, .int (x.2.1 0)), (8, .int (x.2.1 1)), (7, .int (y30.2.1 0)), (6, .int x25), (5, .int (y3.2.1 0)), (4, .int (y3.2.1 1)), (0, .ref (g 60)), (1, .int p1), (2, .int p2), (3, .int p3)]) (fun x : LZ => (x.1 = σ4) ∧ ((0 : Int) ≤ (x.2.1 0).toInt ∧ (x.2.1 0).toInt ≤ 88) ∧ ((0 : Int) ≤ (x.2.1 1).toInt ∧ (x.2.1 1).toInt ≤ 1) ∧ (¬ p1.toInt = 0 ∨ (x.2.1 1).toInt = 1) ∧ True) (fun x : LZ => ((89 : Int) - (x.2.1 0).toInt).toNat) ?_ (σ4, lf [0, (y35.2.1 0)], lg []) ⟨rfl, (show (0 : Int) ≤ (0 : Int32).toInt ∧ (0 : Int32).toInt ≤ 88 from (by have z0 : (0 : Int32).toInt = 0 := (by decide); omega)), (show (0 : Int) ≤ ((y35.2.1 0) : Int32).toInt ∧ ((y35.2.1 0) : Int32).toInt ≤ 1 from (by have f0 := b36; have f1 := b37; have f2 := h0; have f3 := h2; have f4 := t11; have f5 := t20; have f6 := a9_48 hJ (j := 0) rfl; have f7 := t13; have f8 := t22; have f9 := h1; have f10 := t15; have f11 := t24; have f12 := k18; have f13 := t26; have f14 := b7; have g1 := rg32 (y35.2.1 0); omega)), (show ¬ p1.toInt = 0 ∨ (y35.2.1 0).toInt = 1 from (by have f0 := h0; have f1 := h2; have f2 := t11; have f3 := t20; have f4 := b36; have f5 := b37; have f6 := a9_48 hJ (j := 0) rfl; have f7 := t13; have f8 := t22; have f9 := h1; have f10 := t15; have f11 := t24; have f12 := k18; have f13 := t26; have f14 := b7; have g1 := rg32 (y35.2.1 0); have g2 := rg32 p1; omega)), trivial⟩ _ _ _ hP hS (lv_sub hl [0, 1, 2, 3, 4, 5, 6, 7, 8, 9] rfl)
        intro y40 hI39 nl38 H locs ls hP hS hl
        rw [show y40.1 = σ4 from hI39.1] at hP
        have b41 : (0 : Int) ≤ (y40.2.1 0).toInt ∧ (y40.2.1 0).toInt ≤ 88 := hI39.2.1
        have b42 : (0 : Int) ≤ (y40.2.1 1).toInt ∧ (y40.2.1 1).toInt ≤ 1 := hI39.2.2.1
        have b43 : ¬ p1.toInt = 0 ∨ (y40.2.1 1).toInt = 1 := hI39.2.2.2.1
        have hl : lv_has ls 11 [(9, .int (y40.2.1 0)), (8, .int (y40.2.1 1)), (7, .int (y30.2.1 0)), (6, .int x25), (5, .int (y3.2.1 0)), (4, .int (y3.2.1 1)), (0, .ref (g 60)), (1, .int p1), (2, .int p2), (3, .int p3)] := hl
        refine lv_iload hx hb dX9_comesBy_66 (lv_at hl 2 rfl) ?_
        refine cut9 (D := D) (cy := cy) (g := g) (A := A9 cy g s.heap.size) (H0 := s.heap) 11 163 (fun x : LZ => [(9, .int (y40.2.1 0)), (8, .int (y40.2.1 1)), (7, .int (y30.2.1 0)), (6, .int x25), (5, .int (y3.2.1 0)), (4, .int (y3.2.1 1)), (0, .ref (g 60)), (1, .int p1), (2, .int p2), (3, .int p3)]) (fun x : LZ => []) (fun x : LZ => (x.1 = σ4) ∧ True) ?_ ?_
        ·
          intro y46 hI45 H locs ls hP hS hl
          rw [show y46.1 = σ4 from hI45.1] at hP
          have hl : lv_has ls 11 [(9, .int (y40.2.1 0)), (8, .int (y40.2.1 1)), (7, .int (y30.2.1 0)), (6, .int x25), (5, .int (y3.2.1 0)), (4, .int (y3.2.1 1)), (0, .ref (g 60)), (1, .int p1), (2, .int p2), (3, .int p3)] := hl
          refine lv_aload_n hx hb dX9_comesBy_163 rfl (lv_at hl 6 rfl) ?_
          refine g9_47 hx hb hts hown hK hP (hts _ q1407) dX9_comesBy_164 ?_
          refine lv_iload hx hb dX9_comesBy_167 (lv_at hl 3 rfl) ?_
          refine lv_iload hx hb dX9_comesBy_169 (lv_at hl 2 rfl) ?_
          refine cut9 (D := D) (cy := cy) (g := g) (A := A9 cy g s.heap.size) (H0 := s.heap) 11 184 (fun x : LZ => [(9, .int (y40.2.1 0)), (8, .int (y40.2.1 1)), (7, .int (y30.2.1 0)), (6, .int x25), (5, .int (y3.2.1 0)), (4, .int (y3.2.1 1)), (0, .ref (g 60)), (1, .int p1), (2, .int p2), (3, .int p3)]) (fun x : LZ => [.int (x.2.1 0), .int x25, .ref (g 47)]) (fun x : LZ => (x.1 = σ4) ∧ ((0 : Int) ≤ (x.2.1 0).toInt ∧ (x.2.1 0).toInt ≤ 1) ∧ ((x.2.1 0).toInt = 1 ∨ (y30.2.1 0).toInt = 0 ∨ (y40.2.1 1).toInt = 0) ∧ True) ?_ ?_
          ·
            intro y49 hI48 H locs ls hP hS hl
            rw [show y49.1 = σ4 from hI48.1] at hP
            have b50 : (0 : Int) ≤ (y49.2.1 0).toInt ∧ (y49.2.1 0).toInt ≤ 1 := hI48.2.1
            have b51 : (y49.2.1 0).toInt = 1 ∨ (y30.2.1 0).toInt = 0 ∨ (y40.2.1 1).toInt = 0 := hI48.2.2.1
            have hl : lv_has ls 11 [(9, .int (y40.2.1 0)), (8, .int (y40.2.1 1)), (7, .int (y30.2.1 0)), (6, .int x25), (5, .int (y3.2.1 0)), (4, .int (y3.2.1 1)), (0, .ref (g 60)), (1, .int p1), (2, .int p2), (3, .int p3)] := hl
            refine W.eq (g2 := F0 m 184 ls [.int (y49.2.1 0), .int x25, .ref (g 47)]) rfl ?_
            refine t9_47 hx hb hK hP hD hS (vpo (by have f0 := t26; have f1 := b7; have f2 := k18; have f3 := t24; have f4 := t15; have f5 := t22; have f6 := h1; have f7 := t13; have f8 := t20; have f9 := h0; have f10 := h2; have f11 := t11; have f12 := b37; have f13 := b43; have f14 := a9_48 hJ (j := 0) rfl; have f15 := b36; have f16 := b42; have f17 := b51; have f18 := b31; have f19 := b32; have f20 := b50; have g1 := rg32 p3; have g2 := rg32 x25; have g3 := rg32 x27; omega)) dX9_comesBy_184 (fun H locs σ52 eσ52 hP hS => ?_)
            have hJ53 : J9 (σ52 9) := hJ6.A eσ52 trivial
            refine lv_iload hx hb dX9_comesBy_185 (lv_at hl 5 rfl) ?_
            refine lv_if_ne (tgt := 200) hx hb dX9_comesBy_187 (by decide) (fun c54 => ?_) (fun c54 => ?_)
            ·
              have k55 := neq32 c54
              refine lv_iconst (v := 1) hx hb dX9_comesBy_200 (by decide) ?_
              refine lv_goto (tgt := 205) hx hb dX9_comesBy_201 (by decide) ?_
              refine lv_istore (lv' := [(4, .int 1), (9, .int (y40.2.1 0)), (8, .int (y40.2.1 1)), (7, .int (y30.2.1 0)), (6, .int x25), (5, .int (y3.2.1 0)), (0, .ref (g 60)), (1, .int p1), (2, .int p2), (3, .int p3)]) hx hb dX9_comesBy_205 hl (by decide) rfl (fun ls hl => ?_)
              obtain ⟨x56, ex56⟩ : ∃ y : Int32, y = (y3.2.1 0) + 1 := ⟨_, rfl⟩
              have t57 := addO ex56 (by have f0 := b7; have f1 := k18; have f2 := t26; have f3 := t15; have f4 := t24; have f5 := t13; have f6 := t22; have f7 := h1; have f8 := t11; have f9 := t20; have f10 := h0; have f11 := h2; have f12 := b37; have f13 := b43; have f14 := a9_48 hJ (j := 0) rfl; have f15 := b36; have f16 := b42; have f17 := b51; have f18 := b31; have f19 := b32; have f20 := b50; have g1 := rg32 (y3.2.1 0); have g2 := rg32 p3; have g3 := rg32 x27; have z1 : (1 : Int32).toInt = 1 := (by decide); omega)
              refine lv_iinc (v := x56) (lv' := [(5, .int x56), (4, .int 1), (9, .int (y40.2.1 0)), (8, .int (y40.2.1 1)), (7, .int (y30.2.1 0)), (6, .int x25), (0, .ref (g 60)), (1, .int p1), (2, .int p2), (3, .int p3)]) hx hb dX9_comesBy_207 hl (k := 5) rfl (by rw [ex56]; rfl) (by decide) rfl (fun ls hl => ?_)
              refine lv_goto (tgt := 6) hx hb dX9_comesBy_210 (by decide) ?_
              have t58 : ((89 : Int) - x56.toInt).toNat < ((89 : Int) - (y3.2.1 0).toInt).toNat := (by have f0 := b7; have f1 := k18; have f2 := t26; have f3 := t57; have f4 := t15; have f5 := t24; have f6 := t13; have f7 := t22; have f8 := h1; have f9 := t11; have f10 := t20; have f11 := h0; have f12 := h2; have f13 := b37; have f14 := b43; have f15 := a9_48 hJ (j := 0) rfl; have f16 := b36; have f17 := b42; have f18 := b51; have f19 := b31; have f20 := b32; have f21 := b50; have g1 := rg32 (y3.2.1 0); have g2 := rg32 p3; have g3 := rg32 x27; have g4 := rg32 x56; have z1 : (1 : Int32).toInt = 1 := (by decide); omega)
              exact nl1 (σ52, lf [x56, 1], lg []) ⟨Fr.tr (Fr.tr (Fr.rf) hF5 (fL_sub rfl)) (sA_f eσ52) (fN_L rfl), hJ53, (show (0 : Int) ≤ (x56 : Int32).toInt ∧ (x56 : Int32).toInt ≤ 88 from (by have f0 := t57; have f1 := b7; have f2 := k18; have f3 := t26; have f4 := t15; have f5 := t24; have f6 := t13; have f7 := t22; have f8 := h1; have f9 := t11; have f10 := t20; have f11 := h0; have f12 := h2; have f13 := b37; have f14 := b43; have f15 := a9_48 hJ (j := 0) rfl; have f16 := b36; have f17 := b42; have f18 := b51; have f19 := b31; have f20 := b32; have f21 := b50; have g1 := rg32 p3; have g2 := rg32 x27; have g3 := rg32 x56; have z1 : (1 : Int32).toInt = 1 := (by decide); omega)), (show (0 : Int) ≤ (1 : Int32).toInt ∧ (1 : Int32).toInt ≤ 1 from (by have z1 : (1 : Int32).toInt = 1 := (by decide); omega)), (show CBQ (σ 9) p1 p2.toInt.toNat p3 (1 : Int32) x56 from (CBQ.one (by decide))), trivial⟩ (show ((89 : Int) - x56.toInt).toNat < _ from by first | exact t58 | (rw [← eσ4]; exact t58)) _ _ _ hP hS (lv_sub hl [0, 1, 6, 7, 8, 9] rfl)
            ·
              have k59 := peq32 c54
              refine lv_aload_n hx hb dX9_comesBy_190 rfl (lv_at hl 6 rfl) ?_
              refine g9_47 hx hb hts hown hK hP (hts _ q1407) dX9_comesBy_191 ?_
              refine lv_iload hx hb dX9_comesBy_194 (lv_at hl 3 rfl) ?_
              obtain ⟨x60, ex60⟩ : ∃ z, (σ52 9).2.2.1 47 x25.toInt.toNat = z := ⟨_, rfl⟩
              refine l9_47 (x := x60) hx hb hK hP (vpo (by have f0 := t26; have f1 := b7; have f2 := k18; have f3 := t24; have f4 := t15; have f5 := t22; have f6 := h1; have f7 := t13; have f8 := t20; have f9 := h0; have f10 := h2; have f11 := t11; have f12 := b37; have f13 := b43; have f14 := a9_48 hJ (j := 0) rfl; have f15 := b36; have f16 := b42; have f17 := b51; have f18 := b31; have f19 := b32; have f20 := b50; have g1 := rg32 p3; have g2 := rg32 x25; have g3 := rg32 x27; omega)) ex60 dX9_comesBy_196 ?_
              have t61 := upz eσ52 (by have f0 := b50; have f1 := b51; have f2 := b31; have f3 := b32; have f4 := b42; have f5 := b43; have f6 := h0; have f7 := h2; have f8 := t11; have f9 := t20; have f10 := b37; have f11 := a9_48 hJ (j := 0) rfl; have f12 := t13; have f13 := t22; have f14 := b36; have f15 := h1; have f16 := t15; have f17 := t24; have f18 := k18; have f19 := t26; have f20 := b7; have g1 := rg32 (y49.2.1 0); have g2 := rg32 p3; have g3 := rg32 x27; omega) ex60
              refine lv_if_eq (tgt := 204) hx hb dX9_comesBy_197 (by decide) (fun c62 => ?_) (fun c62 => ?_)
              ·
                have k63 := peq32 c62
                refine lv_iconst (v := 0) hx hb dX9_comesBy_204 (by decide) ?_
                refine lv_istore (lv' := [(4, .int 0), (9, .int (y40.2.1 0)), (8, .int (y40.2.1 1)), (7, .int (y30.2.1 0)), (6, .int x25), (5, .int (y3.2.1 0)), (0, .ref (g 60)), (1, .int p1), (2, .int p2), (3, .int p3)]) hx hb dX9_comesBy_205 hl (by decide) rfl (fun ls hl => ?_)
                obtain ⟨x64, ex64⟩ : ∃ y : Int32, y = (y3.2.1 0) + 1 := ⟨_, rfl⟩
                have t65 := addO ex64 (by have f0 := b7; have f1 := k18; have f2 := t26; have f3 := t15; have f4 := t24; have f5 := t13; have f6 := t22; have f7 := h1; have f8 := t11; have f9 := t20; have f10 := h0; have f11 := h2; have f12 := b37; have f13 := b43; have f14 := a9_48 hJ (j := 0) rfl; have f15 := b36; have f16 := b42; have f17 := b51; have f18 := b31; have f19 := b32; have f20 := b50; have f21 := t61; have f22 := k63; have g1 := rg32 (y3.2.1 0); have g2 := rg32 p3; have g3 := rg32 x27; have z0 : (0 : Int32).toInt = 0 := (by decide); have z1 : (1 : Int32).toInt = 1 := (by decide); omega)
                refine lv_iinc (v := x64) (lv' := [(5, .int x64), (4, .int 0), (9, .int (y40.2.1 0)), (8, .int (y40.2.1 1)), (7, .int (y30.2.1 0)), (6, .int x25), (0, .ref (g 60)), (1, .int p1), (2, .int p2), (3, .int p3)]) hx hb dX9_comesBy_207 hl (k := 5) rfl (by rw [ex64]; rfl) (by decide) rfl (fun ls hl => ?_)
                refine lv_goto (tgt := 6) hx hb dX9_comesBy_210 (by decide) ?_
                have t66 : ((89 : Int) - x64.toInt).toNat < ((89 : Int) - (y3.2.1 0).toInt).toNat := (by have f0 := b7; have f1 := k18; have f2 := t26; have f3 := t65; have f4 := t15; have f5 := t24; have f6 := t13; have f7 := t22; have f8 := h1; have f9 := t11; have f10 := t20; have f11 := h0; have f12 := h2; have f13 := b37; have f14 := b43; have f15 := a9_48 hJ (j := 0) rfl; have f16 := b36; have f17 := b42; have f18 := b51; have f19 := b31; have f20 := b32; have f21 := b50; have f22 := t61; have f23 := k63; have g1 := rg32 (y3.2.1 0); have g2 := rg32 p3; have g3 := rg32 x27; have g4 := rg32 x64; have z0 : (0 : Int32).toInt = 0 := (by decide); have z1 : (1 : Int32).toInt = 1 := (by decide); omega)
                exact nl1 (σ52, lf [x64, 0], lg []) ⟨Fr.tr (Fr.tr (Fr.rf) hF5 (fL_sub rfl)) (sA_f eσ52) (fN_L rfl), hJ53, (show (0 : Int) ≤ (x64 : Int32).toInt ∧ (x64 : Int32).toInt ≤ 88 from (by have f0 := t65; have f1 := b7; have f2 := k18; have f3 := t26; have f4 := t15; have f5 := t24; have f6 := t13; have f7 := t22; have f8 := h1; have f9 := t11; have f10 := t20; have f11 := h0; have f12 := h2; have f13 := b37; have f14 := b43; have f15 := a9_48 hJ (j := 0) rfl; have f16 := b36; have f17 := b42; have f18 := b51; have f19 := b31; have f20 := b32; have f21 := b50; have f22 := t61; have f23 := k63; have g1 := rg32 p3; have g2 := rg32 x27; have g3 := rg32 x64; have z0 : (0 : Int32).toInt = 0 := (by decide); have z1 : (1 : Int32).toInt = 1 := (by decide); omega)), (show (0 : Int) ≤ (0 : Int32).toInt ∧ (0 : Int32).toInt ≤ 1 from (by have z0 : (0 : Int32).toInt = 0 := (by decide); omega)), (show CBQ (σ 9) p1 p2.toInt.toNat p3 (0 : Int32) x64 from (CBQ.step b9 (by have f0 := b8; have f1 := k59; have g0 := rg32 (y3.2.1 1); have z0 : (0 : Int32).toInt = 0 := (by decide); omega) (by have f0 := b7; have f1 := k18; have f2 := t26; have f3 := t65; have f4 := t15; have f5 := t24; have f6 := t13; have f7 := t22; have f8 := h1; have f9 := t11; have f10 := t20; have f11 := h0; have f12 := h2; have f13 := b37; have f14 := b43; have f15 := a9_48 hJ (j := 0) rfl; have f16 := b36; have f17 := b42; have f18 := b51; have f19 := b31; have f20 := b32; have f21 := b50; have f22 := t61; have f23 := k63; have g1 := rg32 (y3.2.1 0); have g2 := rg32 p3; have g3 := rg32 x27; have g4 := rg32 x64; have z0 : (0 : Int32).toInt = 0 := (by decide); have z1 : (1 : Int32).toInt = 1 := (by decide); omega) (fun hk q => (show False from by have q1 : x27.toInt = p3.toInt := congrArg Int32.toInt (show x27 = p3 from by rw [← ex27, show x25.toInt.toNat = 88 * p2.toInt.toNat + (y3.2.1 0).toInt.toNat from (by have hk1 := hk; have f0 := h0; have f1 := h1; have f2 := h2; have f3 := b7; have f4 := t11; have f5 := t13; have f6 := k18; have f7 := t20; have f8 := t22; have f9 := t26; have f10 := b37; have f11 := b43; have f12 := t65; have f13 := a9_48 hJ (j := 0) rfl; have f14 := t15; have f15 := t24; have f16 := b36; have f17 := b42; have f18 := b51; have f19 := b31; have f20 := b32; have f21 := b50; have f22 := t61; have f23 := k63; have g1 := rg32 (y3.2.1 0); have g2 := rg32 p1; have g3 := rg32 p2; have g4 := rg32 p3; have g5 := rg32 x25; have g6 := rg32 x27; have z0 : (0 : Int32).toInt = 0 := (by decide); have z1 : (1 : Int32).toInt = 1 := (by decide); omega)]; exact q); have f0 := h0; have f1 := h2; have f2 := t11; have f3 := t20; have f4 := b31; have f5 := b32; have f6 := b37; have f7 := b42; have f8 := b43; have f9 := b50; have f10 := b51; have f11 := t61; have f12 := a9_48 hJ (j := 0) rfl; have f13 := t13; have f14 := t22; have f15 := b36; have f16 := k63; have f17 := h1; have f18 := t15; have f19 := t24; have f20 := k18; have f21 := t26; have f22 := b7; have f23 := t65; have g1 := rg32 (y30.2.1 0); have g2 := rg32 (y40.2.1 1); have g3 := rg32 (y49.2.1 0); have g4 := rg32 p1; have g5 := rg32 p3; have g6 := rg32 x27; have z0 : (0 : Int32).toInt = 0 := (by decide); have z1 : (1 : Int32).toInt = 1 := (by decide); omega)))), trivial⟩ (show ((89 : Int) - x64.toInt).toNat < _ from by first | exact t66 | (rw [← eσ4]; exact t66)) _ _ _ hP hS (lv_sub hl [0, 1, 6, 7, 8, 9] rfl)
              ·
                have k67 := neq32 c62
                refine lv_iconst (v := 1) hx hb dX9_comesBy_200 (by decide) ?_
                refine lv_goto (tgt := 205) hx hb dX9_comesBy_201 (by decide) ?_
                refine lv_istore (lv' := [(4, .int 1), (9, .int (y40.2.1 0)), (8, .int (y40.2.1 1)), (7, .int (y30.2.1 0)), (6, .int x25), (5, .int (y3.2.1 0)), (0, .ref (g 60)), (1, .int p1), (2, .int p2), (3, .int p3)]) hx hb dX9_comesBy_205 hl (by decide) rfl (fun ls hl => ?_)
                obtain ⟨x68, ex68⟩ : ∃ y : Int32, y = (y3.2.1 0) + 1 := ⟨_, rfl⟩
                have t69 := addO ex68 (by have f0 := b7; have f1 := k18; have f2 := t26; have f3 := t15; have f4 := t24; have f5 := t13; have f6 := t22; have f7 := h1; have f8 := t11; have f9 := t20; have f10 := h0; have f11 := h2; have f12 := b37; have f13 := b43; have f14 := a9_48 hJ (j := 0) rfl; have f15 := b36; have f16 := b42; have f17 := b51; have f18 := b31; have f19 := b32; have f20 := b50; have f21 := t61; have f22 := k67; have g1 := rg32 (y3.2.1 0); have g2 := rg32 p3; have g3 := rg32 x27; have g4 := rg32 x60; have z0 : (0 : Int32).toInt = 0 := (by decide); have z1 : (1 : Int32).toInt = 1 := (by decide); omega)
                refine lv_iinc (v := x68) (lv' := [(5, .int x68), (4, .int 1), (9, .int (y40.2.1 0)), (8, .int (y40.2.1 1)), (7, .int (y30.2.1 0)), (6, .int x25), (0, .ref (g 60)), (1, .int p1), (2, .int p2), (3, .int p3)]) hx hb dX9_comesBy_207 hl (k := 5) rfl (by rw [ex68]; rfl) (by decide) rfl (fun ls hl => ?_)
                refine lv_goto (tgt := 6) hx hb dX9_comesBy_210 (by decide) ?_
                have t70 : ((89 : Int) - x68.toInt).toNat < ((89 : Int) - (y3.2.1 0).toInt).toNat := (by have f0 := b7; have f1 := k18; have f2 := t26; have f3 := t69; have f4 := t15; have f5 := t24; have f6 := t13; have f7 := t22; have f8 := h1; have f9 := t11; have f10 := t20; have f11 := h0; have f12 := h2; have f13 := b37; have f14 := b43; have f15 := a9_48 hJ (j := 0) rfl; have f16 := b36; have f17 := b42; have f18 := b51; have f19 := b31; have f20 := b32; have f21 := b50; have f22 := t61; have f23 := k67; have g1 := rg32 (y3.2.1 0); have g2 := rg32 p3; have g3 := rg32 x27; have g4 := rg32 x60; have g5 := rg32 x68; have z0 : (0 : Int32).toInt = 0 := (by decide); have z1 : (1 : Int32).toInt = 1 := (by decide); omega)
                exact nl1 (σ52, lf [x68, 1], lg []) ⟨Fr.tr (Fr.tr (Fr.rf) hF5 (fL_sub rfl)) (sA_f eσ52) (fN_L rfl), hJ53, (show (0 : Int) ≤ (x68 : Int32).toInt ∧ (x68 : Int32).toInt ≤ 88 from (by have f0 := t69; have f1 := b7; have f2 := k18; have f3 := t26; have f4 := t15; have f5 := t24; have f6 := t13; have f7 := t22; have f8 := h1; have f9 := t11; have f10 := t20; have f11 := h0; have f12 := h2; have f13 := b37; have f14 := b43; have f15 := a9_48 hJ (j := 0) rfl; have f16 := b36; have f17 := b42; have f18 := b51; have f19 := b31; have f20 := b32; have f21 := b50; have f22 := t61; have f23 := k67; have g1 := rg32 p3; have g2 := rg32 x27; have g3 := rg32 x60; have g4 := rg32 x68; have z0 : (0 : Int32).toInt = 0 := (by decide); have z1 : (1 : Int32).toInt = 1 := (by decide); omega)), (show (0 : Int) ≤ (1 : Int32).toInt ∧ (1 : Int32).toInt ≤ 1 from (by have z1 : (1 : Int32).toInt = 1 := (by decide); omega)), (show CBQ (σ 9) p1 p2.toInt.toNat p3 (1 : Int32) x68 from (CBQ.one (by decide))), trivial⟩ (show ((89 : Int) - x68.toInt).toNat < _ from by first | exact t70 | (rw [← eσ4]; exact t70)) _ _ _ hP hS (lv_sub hl [0, 1, 6, 7, 8, 9] rfl)
          ·
            intro nj47
            refine lv_if_eq (tgt := 183) hx hb dX9_comesBy_171 (by decide) (fun c71 => ?_) (fun c71 => ?_)
            ·
              have k72 := peq32 c71
              refine lv_iconst (v := 0) hx hb dX9_comesBy_183 (by decide) ?_
              exact nj47 (σ4, lf [0], lg []) ⟨rfl, (show (0 : Int) ≤ (0 : Int32).toInt ∧ (0 : Int32).toInt ≤ 1 from (by have z0 : (0 : Int32).toInt = 0 := (by decide); omega)), (show (0 : Int32).toInt = 1 ∨ (y30.2.1 0).toInt = 0 ∨ (y40.2.1 1).toInt = 0 from (by have f0 := b31; have f1 := b32; have f2 := b42; have f3 := b43; have f4 := k72; have f5 := h0; have f6 := h2; have f7 := t11; have f8 := t20; have f9 := b37; have f10 := a9_48 hJ (j := 0) rfl; have f11 := t13; have f12 := t22; have f13 := b36; have f14 := h1; have f15 := t15; have f16 := t24; have f17 := k18; have f18 := t26; have f19 := b7; have g1 := rg32 (y30.2.1 0); have g2 := rg32 (y40.2.1 1); have g3 := rg32 p3; have g4 := rg32 x27; have z0 : (0 : Int32).toInt = 0 := (by decide); omega)), trivial⟩ _ _ _ hP hS (lv_sub hl [0, 1, 2, 3, 4, 5, 6, 7, 8, 9] rfl)
            ·
              have k73 := neq32 c71
              refine lv_iload hx hb dX9_comesBy_174 (lv_at hl 1 rfl) ?_
              refine lv_if_eq (tgt := 183) hx hb dX9_comesBy_176 (by decide) (fun c74 => ?_) (fun c74 => ?_)
              ·
                have k75 := peq32 c74
                refine lv_iconst (v := 0) hx hb dX9_comesBy_183 (by decide) ?_
                exact nj47 (σ4, lf [0], lg []) ⟨rfl, (show (0 : Int) ≤ (0 : Int32).toInt ∧ (0 : Int32).toInt ≤ 1 from (by have z0 : (0 : Int32).toInt = 0 := (by decide); omega)), (show (0 : Int32).toInt = 1 ∨ (y30.2.1 0).toInt = 0 ∨ (y40.2.1 1).toInt = 0 from (by have f0 := b31; have f1 := b32; have f2 := b42; have f3 := b43; have f4 := k73; have f5 := k75; have f6 := h0; have f7 := h2; have f8 := t11; have f9 := t20; have f10 := b37; have f11 := a9_48 hJ (j := 0) rfl; have f12 := t13; have f13 := t22; have f14 := b36; have f15 := h1; have f16 := t15; have f17 := t24; have f18 := k18; have f19 := t26; have f20 := b7; have g1 := rg32 (y30.2.1 0); have g2 := rg32 (y40.2.1 1); have g3 := rg32 p3; have g4 := rg32 x27; have z0 : (0 : Int32).toInt = 0 := (by decide); omega)), trivial⟩ _ _ _ hP hS (lv_sub hl [0, 1, 2, 3, 4, 5, 6, 7, 8, 9] rfl)
              ·
                have k76 := neq32 c74
                refine lv_iconst (v := 1) hx hb dX9_comesBy_179 (by decide) ?_
                refine lv_goto (tgt := 184) hx hb dX9_comesBy_180 (by decide) ?_
                exact nj47 (σ4, lf [1], lg []) ⟨rfl, (show (0 : Int) ≤ (1 : Int32).toInt ∧ (1 : Int32).toInt ≤ 1 from (by have z1 : (1 : Int32).toInt = 1 := (by decide); omega)), (show (1 : Int32).toInt = 1 ∨ (y30.2.1 0).toInt = 0 ∨ (y40.2.1 1).toInt = 0 from (by have f0 := b31; have f1 := b32; have f2 := b42; have f3 := b43; have f4 := k73; have f5 := k76; have f6 := h0; have f7 := h2; have f8 := t11; have f9 := t20; have f10 := b37; have f11 := a9_48 hJ (j := 0) rfl; have f12 := t13; have f13 := t22; have f14 := b36; have f15 := h1; have f16 := t15; have f17 := t24; have f18 := k18; have f19 := t26; have f20 := b7; have g1 := rg32 (y30.2.1 0); have g2 := rg32 (y40.2.1 1); have g3 := rg32 p3; have g4 := rg32 x27; have z0 : (0 : Int32).toInt = 0 := (by decide); have z1 : (1 : Int32).toInt = 1 := (by decide); omega)), trivial⟩ _ _ _ hP hS (lv_sub hl [0, 1, 2, 3, 4, 5, 6, 7, 8, 9] rfl)
        ·
          intro nj44
          refine lv_if_eq (tgt := 163) hx hb dX9_comesBy_68 (by decide) (fun c77 => ?_) (fun c77 => ?_)
          ·
            have k78 := peq32 c77
            exact nj44 (σ4, lf [], lg []) ⟨rfl, trivial⟩ _ _ _ hP hS (lv_sub hl [0, 1, 2, 3, 4, 5, 6, 7, 8, 9] rfl)
          ·
            have k79 := neq32 c77
            refine lv_iload_n hx hb dX9_comesBy_71 rfl (lv_at hl 7 rfl) ?_
            refine lv_if_le (tgt := 163) hx hb dX9_comesBy_72 (by decide) (fun c80 => ?_) (fun c80 => ?_)
            ·
              have k81 := ple32 c80
              exact nj44 (σ4, lf [], lg []) ⟨rfl, trivial⟩ _ _ _ hP hS (lv_sub hl [0, 1, 2, 3, 4, 5, 6, 7, 8, 9] rfl)
            ·
              have k82 := nle32 c80
              refine lv_iload hx hb dX9_comesBy_75 (lv_at hl 1 rfl) ?_
              refine lv_if_ne (tgt := 163) hx hb dX9_comesBy_77 (by decide) (fun c83 => ?_) (fun c83 => ?_)
              ·
                have k84 := neq32 c83
                exact nj44 (σ4, lf [], lg []) ⟨rfl, trivial⟩ _ _ _ hP hS (lv_sub hl [0, 1, 2, 3, 4, 5, 6, 7, 8, 9] rfl)
              ·
                have k85 := peq32 c83
                refine lv_iload hx hb dX9_comesBy_80 (lv_at hl 0 rfl) ?_
                refine lv_aload_n hx hb dX9_comesBy_82 rfl (lv_at hl 6 rfl) ?_
                refine g9_43 hx hb hts hown hK hP (hts _ q1403) dX9_comesBy_83 ?_
                refine lv_iconst (v := 3) hx hb dX9_comesBy_86 (by decide) ?_
                refine lv_iload_n hx hb dX9_comesBy_87 rfl (lv_at hl 7 rfl) ?_
                refine lv_iconst (v := 1) hx hb dX9_comesBy_88 (by decide) ?_
                refine lv_isub hx hb dX9_comesBy_89 ?_
                refine lv_topi (fun x86 ex86 => ?_)
                have t87 := subO ex86 (by have f0 := h0; have f1 := h2; have f2 := t11; have f3 := t20; have f4 := b37; have f5 := b43; have f6 := k82; have f7 := a9_48 hJ (j := 0) rfl; have f8 := t13; have f9 := t22; have f10 := b36; have f11 := b42; have f12 := k85; have f13 := h1; have f14 := t15; have f15 := t24; have f16 := k18; have f17 := t26; have f18 := b7; have g1 := rg32 p1; have z0 : (0 : Int32).toInt = 0 := (by decide); have z1 : (1 : Int32).toInt = 1 := (by decide); omega)
                refine lv_imul hx hb dX9_comesBy_90 ?_
                refine lv_topi (fun x88 ex88 => ?_)
                have t89 := mulC' (n := 3) ex88 (by decide) (by have f0 := t87; have f1 := h0; have f2 := h2; have f3 := t11; have f4 := t20; have f5 := b37; have f6 := b43; have f7 := k82; have f8 := a9_48 hJ (j := 0) rfl; have f9 := t13; have f10 := t22; have f11 := b36; have f12 := b42; have f13 := k85; have f14 := h1; have f15 := t15; have f16 := t24; have f17 := k18; have f18 := t26; have f19 := b7; have g1 := rg32 x86; have z0 : (0 : Int32).toInt = 0 := (by decide); have z1 : (1 : Int32).toInt = 1 := (by decide); omega)
                refine lv_aload_n hx hb dX9_comesBy_91 rfl (lv_at hl 6 rfl) ?_
                refine g9_48 hx hb hts hown hK hP (hts _ q1408) dX9_comesBy_92 ?_
                refine lv_iload_n hx hb dX9_comesBy_95 rfl (lv_at hl 7 rfl) ?_
                refine lv_iconst (v := 1) hx hb dX9_comesBy_96 (by decide) ?_
                refine lv_isub hx hb dX9_comesBy_97 ?_
                refine lv_topi (fun x90 ex90 => ?_)
                have t91 := subO ex90 (by have f0 := h0; have f1 := h2; have f2 := t11; have f3 := t20; have f4 := b37; have f5 := b43; have f6 := k82; have f7 := t87; have f8 := a9_48 hJ (j := 0) rfl; have f9 := t13; have f10 := t22; have f11 := b36; have f12 := b42; have f13 := k85; have f14 := t89; have f15 := h1; have f16 := t15; have f17 := t24; have f18 := k18; have f19 := t26; have f20 := b7; have g1 := rg32 p1; have z0 : (0 : Int32).toInt = 0 := (by decide); have z1 : (1 : Int32).toInt = 1 := (by decide); omega)
                obtain ⟨x92, ex92⟩ : ∃ z, (σ 9).2.2.1 48 x90.toInt.toNat = z := ⟨_, rfl⟩
                refine l9_48 (x := x92) hx hb hK hP (vpo (by have f0 := t91; have f1 := h0; have f2 := h2; have f3 := t11; have f4 := t20; have f5 := b37; have f6 := b43; have f7 := k82; have f8 := t87; have f9 := a9_48 hJ (j := 0) rfl; have f10 := t13; have f11 := t22; have f12 := b36; have f13 := b42; have f14 := k85; have f15 := t89; have f16 := h1; have f17 := t15; have f18 := t24; have f19 := k18; have f20 := t26; have f21 := b7; have g1 := rg32 x90; have z0 : (0 : Int32).toInt = 0 := (by decide); have z1 : (1 : Int32).toInt = 1 := (by decide); omega)) ((congrFun ((hF5 9 48 rfl).2.2.1) _).trans ex92) dX9_comesBy_98 ?_
                have t93 := a9_48 hJ ex92
                have t94 := at0 (f := (σ 9).2.2.1 48) ex92
                refine lv_iadd hx hb dX9_comesBy_99 ?_
                refine lv_topi (fun x95 ex95 => ?_)
                have t96 := addO ex95 (by have f0 := t89; have f1 := t93; have f2 := t94; have f3 := a9_48 hJ (j := 0) rfl; have f4 := h2; have f5 := t87; have f6 := t91; have f7 := h0; have f8 := t11; have f9 := t20; have f10 := b37; have f11 := b43; have f12 := k82; have f13 := t13; have f14 := t22; have f15 := b36; have f16 := b42; have f17 := k85; have f18 := h1; have f19 := t15; have f20 := t24; have f21 := k18; have f22 := t26; have f23 := b7; have g1 := rg32 x88; have g2 := rg32 x92; have z0 : (0 : Int32).toInt = 0 := (by decide); have z1 : (1 : Int32).toInt = 1 := (by decide); omega)
                obtain ⟨x97, ex97⟩ : ∃ z, (σ 9).2.2.1 43 x95.toInt.toNat = z := ⟨_, rfl⟩
                refine l9_43 (x := x97) hx hb hK hP (vpo (by have f0 := t96; have f1 := t89; have f2 := t93; have f3 := t94; have f4 := a9_48 hJ (j := 0) rfl; have f5 := h2; have f6 := t87; have f7 := t91; have f8 := h0; have f9 := t11; have f10 := t20; have f11 := b37; have f12 := b43; have f13 := k82; have f14 := t13; have f15 := t22; have f16 := b36; have f17 := b42; have f18 := k85; have f19 := h1; have f20 := t15; have f21 := t24; have f22 := k18; have f23 := t26; have f24 := b7; have g1 := rg32 x95; have z0 : (0 : Int32).toInt = 0 := (by decide); have z1 : (1 : Int32).toInt = 1 := (by decide); omega)) ((congrFun ((hF5 9 43 rfl).2.2.1) _).trans ex97) dX9_comesBy_100 ?_
                have t98 := a9_43 hJ ex97
                refine lv_icmp_ge (tgt := 163) hx hb dX9_comesBy_101 (by decide) (fun c99 => ?_) (fun c99 => ?_)
                ·
                  have k100 := ple32 c99
                  exact nj44 (σ4, lf [], lg []) ⟨rfl, trivial⟩ _ _ _ hP hS (lv_sub hl [0, 1, 2, 3, 4, 5, 6, 7, 8, 9] rfl)
                ·
                  have k101 := nle32 c99
                  refine lv_bipush (v := 88) hx hb dX9_comesBy_104 (by decide) ?_
                  refine lv_iconst (v := 3) hx hb dX9_comesBy_106 (by decide) ?_
                  refine lv_iload_n hx hb dX9_comesBy_107 rfl (lv_at hl 7 rfl) ?_
                  refine lv_iconst (v := 1) hx hb dX9_comesBy_108 (by decide) ?_
                  refine lv_isub hx hb dX9_comesBy_109 ?_
                  refine lv_topi (fun x102 ex102 => ?_)
                  have t103 := subO ex102 (by have f0 := h0; have f1 := h2; have f2 := t11; have f3 := t20; have f4 := b37; have f5 := b43; have f6 := k82; have f7 := t87; have f8 := t91; have f9 := a9_48 hJ (j := 0) rfl; have f10 := t13; have f11 := t22; have f12 := b36; have f13 := b42; have f14 := k85; have f15 := t89; have f16 := t93; have f17 := t94; have f18 := h1; have f19 := t15; have f20 := t24; have f21 := t96; have f22 := k18; have f23 := t26; have f24 := t98; have f25 := b7; have f26 := k101; have f27 := b41; have g1 := rg32 p1; have z0 : (0 : Int32).toInt = 0 := (by decide); have z1 : (1 : Int32).toInt = 1 := (by decide); omega)
                  refine lv_imul hx hb dX9_comesBy_110 ?_
                  refine lv_topi (fun x104 ex104 => ?_)
                  have t105 := mulC' (n := 3) ex104 (by decide) (by have f0 := t103; have f1 := h0; have f2 := h2; have f3 := t11; have f4 := t20; have f5 := b37; have f6 := b43; have f7 := k82; have f8 := t87; have f9 := t91; have f10 := a9_48 hJ (j := 0) rfl; have f11 := t13; have f12 := t22; have f13 := b36; have f14 := b42; have f15 := k85; have f16 := t89; have f17 := t93; have f18 := t94; have f19 := h1; have f20 := t15; have f21 := t24; have f22 := t96; have f23 := k18; have f24 := t26; have f25 := t98; have f26 := b7; have f27 := k101; have f28 := b41; have g1 := rg32 x102; have z0 : (0 : Int32).toInt = 0 := (by decide); have z1 : (1 : Int32).toInt = 1 := (by decide); omega)
                  refine lv_aload_n hx hb dX9_comesBy_111 rfl (lv_at hl 6 rfl) ?_
                  refine g9_48 hx hb hts hown hK hP (hts _ q1408) dX9_comesBy_112 ?_
                  refine lv_iload_n hx hb dX9_comesBy_115 rfl (lv_at hl 7 rfl) ?_
                  refine lv_iconst (v := 1) hx hb dX9_comesBy_116 (by decide) ?_
                  refine lv_isub hx hb dX9_comesBy_117 ?_
                  refine lv_topi (fun x106 ex106 => ?_)
                  have t107 := subO ex106 (by have f0 := h0; have f1 := h2; have f2 := t11; have f3 := t20; have f4 := b37; have f5 := b43; have f6 := k82; have f7 := t87; have f8 := t91; have f9 := t103; have f10 := a9_48 hJ (j := 0) rfl; have f11 := t13; have f12 := t22; have f13 := b36; have f14 := b42; have f15 := k85; have f16 := t89; have f17 := t93; have f18 := t94; have f19 := t105; have f20 := h1; have f21 := t15; have f22 := t24; have f23 := t96; have f24 := k18; have f25 := t26; have f26 := t98; have f27 := b7; have f28 := k101; have f29 := b41; have g1 := rg32 p1; have z0 : (0 : Int32).toInt = 0 := (by decide); have z1 : (1 : Int32).toInt = 1 := (by decide); omega)
                  obtain ⟨x108, ex108⟩ : ∃ z, (σ 9).2.2.1 48 x106.toInt.toNat = z := ⟨_, rfl⟩
                  refine l9_48 (x := x108) hx hb hK hP (vpo (by have f0 := t107; have f1 := h0; have f2 := h2; have f3 := t11; have f4 := t20; have f5 := b37; have f6 := b43; have f7 := k82; have f8 := t87; have f9 := t91; have f10 := t103; have f11 := a9_48 hJ (j := 0) rfl; have f12 := t13; have f13 := t22; have f14 := b36; have f15 := b42; have f16 := k85; have f17 := t89; have f18 := t93; have f19 := t94; have f20 := t105; have f21 := h1; have f22 := t15; have f23 := t24; have f24 := t96; have f25 := k18; have f26 := t26; have f27 := t98; have f28 := b7; have f29 := k101; have f30 := b41; have g1 := rg32 x106; have z0 : (0 : Int32).toInt = 0 := (by decide); have z1 : (1 : Int32).toInt = 1 := (by decide); omega)) ((congrFun ((hF5 9 48 rfl).2.2.1) _).trans ex108) dX9_comesBy_118 ?_
                  have t109 := a9_48 hJ ex108
                  have t110 := at0 (f := (σ 9).2.2.1 48) ex108
                  refine lv_iadd hx hb dX9_comesBy_119 ?_
                  refine lv_topi (fun x111 ex111 => ?_)
                  have t112 := addO ex111 (by have f0 := t105; have f1 := t109; have f2 := t110; have f3 := a9_48 hJ (j := 0) rfl; have f4 := h2; have f5 := t94; have f6 := t103; have f7 := t107; have f8 := h0; have f9 := t11; have f10 := t20; have f11 := b37; have f12 := b43; have f13 := k82; have f14 := t87; have f15 := t91; have f16 := t93; have f17 := t96; have f18 := t13; have f19 := t22; have f20 := b36; have f21 := b42; have f22 := k85; have f23 := t89; have f24 := t98; have f25 := h1; have f26 := t15; have f27 := t24; have f28 := k101; have f29 := k18; have f30 := t26; have f31 := b41; have f32 := b7; have g1 := rg32 x104; have g2 := rg32 x108; have z0 : (0 : Int32).toInt = 0 := (by decide); have z1 : (1 : Int32).toInt = 1 := (by decide); omega)
                  refine lv_imul hx hb dX9_comesBy_120 ?_
                  refine lv_topi (fun x113 ex113 => ?_)
                  have t114 := mulC' (n := 88) ex113 (by decide) (by have f0 := t112; have f1 := t105; have f2 := t109; have f3 := t110; have f4 := a9_48 hJ (j := 0) rfl; have f5 := h2; have f6 := t94; have f7 := t103; have f8 := t107; have f9 := h0; have f10 := t11; have f11 := t20; have f12 := b37; have f13 := b43; have f14 := k82; have f15 := t87; have f16 := t91; have f17 := t93; have f18 := t96; have f19 := t13; have f20 := t22; have f21 := b36; have f22 := b42; have f23 := k85; have f24 := t89; have f25 := t98; have f26 := h1; have f27 := t15; have f28 := t24; have f29 := k101; have f30 := k18; have f31 := t26; have f32 := b41; have f33 := b7; have g1 := rg32 x111; have z0 : (0 : Int32).toInt = 0 := (by decide); have z1 : (1 : Int32).toInt = 1 := (by decide); omega)
                  refine lv_iload hx hb dX9_comesBy_121 (lv_at hl 0 rfl) ?_
                  refine lv_iadd hx hb dX9_comesBy_123 ?_
                  refine lv_topi (fun x115 ex115 => ?_)
                  have t116 := addO ex115 (by have f0 := b41; have f1 := k101; have f2 := t114; have f3 := t98; have f4 := t112; have f5 := t96; have f6 := t105; have f7 := t109; have f8 := t110; have f9 := a9_48 hJ (j := 0) rfl; have f10 := h2; have f11 := t89; have f12 := t93; have f13 := t94; have f14 := t103; have f15 := t107; have f16 := h0; have f17 := t11; have f18 := t20; have f19 := b37; have f20 := b43; have f21 := k82; have f22 := t87; have f23 := t91; have f24 := t13; have f25 := t22; have f26 := b36; have f27 := b42; have f28 := k85; have f29 := h1; have f30 := t15; have f31 := t24; have f32 := k18; have f33 := t26; have f34 := b7; have g1 := rg32 (y40.2.1 0); have g2 := rg32 x113; have z0 : (0 : Int32).toInt = 0 := (by decide); have z1 : (1 : Int32).toInt = 1 := (by decide); omega)
                  refine lv_istore (lv' := [(10, .int x115), (9, .int (y40.2.1 0)), (8, .int (y40.2.1 1)), (7, .int (y30.2.1 0)), (6, .int x25), (5, .int (y3.2.1 0)), (4, .int (y3.2.1 1)), (0, .ref (g 60)), (1, .int p1), (2, .int p2), (3, .int p3)]) hx hb dX9_comesBy_124 hl (by decide) rfl (fun ls hl => ?_)
                  refine lv_aload_n hx hb dX9_comesBy_126 rfl (lv_at hl 7 rfl) ?_
                  refine g9_47 hx hb hts hown hK hP (hts _ q1407) dX9_comesBy_127 ?_
                  refine lv_iload hx hb dX9_comesBy_130 (lv_at hl 0 rfl) ?_
                  obtain ⟨x117, ex117⟩ : ∃ z, (σ4 9).2.2.1 47 x115.toInt.toNat = z := ⟨_, rfl⟩
                  refine l9_47 (x := x117) hx hb hK hP (vpo (by have f0 := t116; have f1 := b41; have f2 := k101; have f3 := t114; have f4 := t98; have f5 := t112; have f6 := t96; have f7 := t105; have f8 := t109; have f9 := t110; have f10 := a9_48 hJ (j := 0) rfl; have f11 := h2; have f12 := t89; have f13 := t93; have f14 := t94; have f15 := t103; have f16 := t107; have f17 := h0; have f18 := t11; have f19 := t20; have f20 := b37; have f21 := b43; have f22 := k82; have f23 := t87; have f24 := t91; have f25 := t13; have f26 := t22; have f27 := b36; have f28 := b42; have f29 := k85; have f30 := h1; have f31 := t15; have f32 := t24; have f33 := k18; have f34 := t26; have f35 := b7; have g1 := rg32 x115; have z0 : (0 : Int32).toInt = 0 := (by decide); have z1 : (1 : Int32).toInt = 1 := (by decide); omega)) ex117 dX9_comesBy_132 ?_
                  refine cut9 (D := D) (cy := cy) (g := g) (A := A9 cy g s.heap.size) (H0 := s.heap) 11 155 (fun x : LZ => [(10, .int x115), (9, .int (y40.2.1 0)), (8, .int (y40.2.1 1)), (7, .int (y30.2.1 0)), (6, .int x25), (5, .int (y3.2.1 0)), (4, .int (y3.2.1 1)), (0, .ref (g 60)), (1, .int p1), (2, .int p2), (3, .int p3)]) (fun x : LZ => [.int (x.2.1 0)]) (fun x : LZ => (x.1 = σ4) ∧ ((0 : Int) ≤ (x.2.1 0).toInt ∧ (x.2.1 0).toInt ≤ 1) ∧ True) ?_ ?_
                  ·
                    intro y120 hI119 H locs ls hP hS hl
                    rw [show y120.1 = σ4 from hI119.1] at hP
                    have b121 : (0 : Int) ≤ (y120.2.1 0).toInt ∧ (y120.2.1 0).toInt ≤ 1 := hI119.2.1
                    have hl : lv_has ls 11 [(10, .int x115), (9, .int (y40.2.1 0)), (8, .int (y40.2.1 1)), (7, .int (y30.2.1 0)), (6, .int x25), (5, .int (y3.2.1 0)), (4, .int (y3.2.1 1)), (0, .ref (g 60)), (1, .int p1), (2, .int p2), (3, .int p3)] := hl
                    refine W.eq (g2 := F0 m 155 ls [.int (y120.2.1 0)]) rfl ?_
                    refine lv_istore (lv' := [(8, .int (y120.2.1 0)), (10, .int x115), (9, .int (y40.2.1 0)), (7, .int (y30.2.1 0)), (6, .int x25), (5, .int (y3.2.1 0)), (4, .int (y3.2.1 1)), (0, .ref (g 60)), (1, .int p1), (2, .int p2), (3, .int p3)]) hx hb dX9_comesBy_155 hl (by decide) rfl (fun ls hl => ?_)
                    obtain ⟨x122, ex122⟩ : ∃ y : Int32, y = (y40.2.1 0) + 1 := ⟨_, rfl⟩
                    have t123 := addO ex122 (by have f0 := b41; have f1 := k101; have f2 := t116; have f3 := t98; have f4 := t114; have f5 := t96; have f6 := t112; have f7 := t89; have f8 := t93; have f9 := t94; have f10 := t105; have f11 := t109; have f12 := t110; have f13 := a9_48 hJ (j := 0) rfl; have f14 := h2; have f15 := t87; have f16 := t91; have f17 := t103; have f18 := t107; have f19 := h0; have f20 := t11; have f21 := t20; have f22 := b37; have f23 := b43; have f24 := k82; have f25 := t13; have f26 := t22; have f27 := b36; have f28 := b42; have f29 := k85; have f30 := h1; have f31 := t15; have f32 := t24; have f33 := k18; have f34 := t26; have f35 := b7; have g1 := rg32 (y40.2.1 0); have z0 : (0 : Int32).toInt = 0 := (by decide); have z1 : (1 : Int32).toInt = 1 := (by decide); omega)
                    refine lv_iinc (v := x122) (lv' := [(9, .int x122), (8, .int (y120.2.1 0)), (10, .int x115), (7, .int (y30.2.1 0)), (6, .int x25), (5, .int (y3.2.1 0)), (4, .int (y3.2.1 1)), (0, .ref (g 60)), (1, .int p1), (2, .int p2), (3, .int p3)]) hx hb dX9_comesBy_157 hl (k := 2) rfl (by rw [ex122]; rfl) (by decide) rfl (fun ls hl => ?_)
                    refine lv_goto (tgt := 66) hx hb dX9_comesBy_160 (by decide) ?_
                    have t124 : ((89 : Int) - x122.toInt).toNat < ((89 : Int) - (y40.2.1 0).toInt).toNat := (by have f0 := b41; have f1 := k101; have f2 := t116; have f3 := t123; have f4 := t98; have f5 := t114; have f6 := t96; have f7 := t112; have f8 := t89; have f9 := t93; have f10 := t94; have f11 := t105; have f12 := t109; have f13 := t110; have f14 := a9_48 hJ (j := 0) rfl; have f15 := h2; have f16 := t87; have f17 := t91; have f18 := t103; have f19 := t107; have f20 := h0; have f21 := t11; have f22 := t20; have f23 := b37; have f24 := b43; have f25 := k82; have f26 := t13; have f27 := t22; have f28 := b36; have f29 := b42; have f30 := k85; have f31 := h1; have f32 := t15; have f33 := t24; have f34 := k18; have f35 := t26; have f36 := b7; have g1 := rg32 (y40.2.1 0); have g2 := rg32 x122; have z0 : (0 : Int32).toInt = 0 := (by decide); have z1 : (1 : Int32).toInt = 1 := (by decide); omega)
                    exact nl38 (σ4, lf [x122, (y120.2.1 0)], lg []) ⟨rfl, (show (0 : Int) ≤ (x122 : Int32).toInt ∧ (x122 : Int32).toInt ≤ 88 from (by have f0 := t123; have f1 := b41; have f2 := k101; have f3 := t116; have f4 := t98; have f5 := t114; have f6 := t96; have f7 := t112; have f8 := t89; have f9 := t93; have f10 := t94; have f11 := t105; have f12 := t109; have f13 := t110; have f14 := a9_48 hJ (j := 0) rfl; have f15 := h2; have f16 := t87; have f17 := t91; have f18 := t103; have f19 := t107; have f20 := h0; have f21 := t11; have f22 := t20; have f23 := b37; have f24 := b43; have f25 := k82; have f26 := t13; have f27 := t22; have f28 := b36; have f29 := b42; have f30 := k85; have f31 := h1; have f32 := t15; have f33 := t24; have f34 := k18; have f35 := t26; have f36 := b7; have g1 := rg32 x122; have z0 : (0 : Int32).toInt = 0 := (by decide); have z1 : (1 : Int32).toInt = 1 := (by decide); omega)), (show (0 : Int) ≤ ((y120.2.1 0) : Int32).toInt ∧ ((y120.2.1 0) : Int32).toInt ≤ 1 from (by have f0 := b121; have g0 := rg32 (y120.2.1 0); omega)), (show ¬ p1.toInt = 0 ∨ (y120.2.1 0).toInt = 1 from (by have f0 := h0; have f1 := h2; have f2 := t11; have f3 := t20; have f4 := b37; have f5 := b43; have f6 := k82; have f7 := t87; have f8 := t91; have f9 := t103; have f10 := t107; have f11 := b121; have f12 := a9_48 hJ (j := 0) rfl; have f13 := t13; have f14 := t22; have f15 := b36; have f16 := b42; have f17 := k85; have f18 := t89; have f19 := t93; have f20 := t94; have f21 := t105; have f22 := t109; have f23 := t110; have f24 := h1; have f25 := t15; have f26 := t24; have f27 := t96; have f28 := t112; have f29 := k18; have f30 := t26; have f31 := t98; have f32 := t114; have f33 := b7; have f34 := k101; have f35 := t116; have f36 := b41; have f37 := t123; have g1 := rg32 (y120.2.1 0); have g2 := rg32 p1; have z0 : (0 : Int32).toInt = 0 := (by decide); have z1 : (1 : Int32).toInt = 1 := (by decide); omega)), trivial⟩ (show ((89 : Int) - x122.toInt).toNat < _ from t124) _ _ _ hP hS (lv_sub hl [0, 1, 3, 4, 5, 6, 7, 8, 9, 10] rfl)
                  ·
                    intro nj118
                    refine cut9 (D := D) (cy := cy) (g := g) (A := A9 cy g s.heap.size) (H0 := s.heap) 11 154 (fun x : LZ => [(10, .int x115), (9, .int (y40.2.1 0)), (8, .int (y40.2.1 1)), (7, .int (y30.2.1 0)), (6, .int x25), (5, .int (y3.2.1 0)), (4, .int (y3.2.1 1)), (0, .ref (g 60)), (1, .int p1), (2, .int p2), (3, .int p3)]) (fun x : LZ => []) (fun x : LZ => (x.1 = σ4) ∧ True) ?_ ?_
                    ·
                      intro y127 hI126 H locs ls hP hS hl
                      rw [show y127.1 = σ4 from hI126.1] at hP
                      have hl : lv_has ls 11 [(10, .int x115), (9, .int (y40.2.1 0)), (8, .int (y40.2.1 1)), (7, .int (y30.2.1 0)), (6, .int x25), (5, .int (y3.2.1 0)), (4, .int (y3.2.1 1)), (0, .ref (g 60)), (1, .int p1), (2, .int p2), (3, .int p3)] := hl
                      refine lv_iconst (v := 0) hx hb dX9_comesBy_154 (by decide) ?_
                      exact nj118 (σ4, lf [0], lg []) ⟨rfl, (show (0 : Int) ≤ (0 : Int32).toInt ∧ (0 : Int32).toInt ≤ 1 from (by have z0 : (0 : Int32).toInt = 0 := (by decide); omega)), trivial⟩ _ _ _ hP hS (lv_sub hl [0, 1, 2, 3, 4, 5, 6, 7, 8, 9, 10] rfl)
                    ·
                      intro nj125
                      refine lv_if_eq (tgt := 154) hx hb dX9_comesBy_133 (by decide) (fun c128 => ?_) (fun c128 => ?_)
                      ·
                        have k129 := peq32 c128
                        exact nj125 (σ4, lf [], lg []) ⟨rfl, trivial⟩ _ _ _ hP hS (lv_sub hl [0, 1, 2, 3, 4, 5, 6, 7, 8, 9, 10] rfl)
                      ·
                        have k130 := neq32 c128
                        refine lv_aload_n hx hb dX9_comesBy_136 rfl (lv_at hl 7 rfl) ?_
                        refine lv_iload_n hx hb dX9_comesBy_137 rfl (lv_at hl 8 rfl) ?_
                        refine lv_iconst (v := 1) hx hb dX9_comesBy_138 (by decide) ?_
                        refine lv_isub hx hb dX9_comesBy_139 ?_
                        refine lv_topi (fun x131 ex131 => ?_)
                        have t132 := subO ex131 (by have f0 := h0; have f1 := h2; have f2 := t11; have f3 := t20; have f4 := b37; have f5 := b43; have f6 := k82; have f7 := t87; have f8 := t91; have f9 := t103; have f10 := t107; have f11 := a9_48 hJ (j := 0) rfl; have f12 := t13; have f13 := t22; have f14 := b36; have f15 := b42; have f16 := k85; have f17 := t89; have f18 := t93; have f19 := t94; have f20 := t105; have f21 := t109; have f22 := t110; have f23 := h1; have f24 := t15; have f25 := t24; have f26 := t96; have f27 := t112; have f28 := k18; have f29 := t26; have f30 := t98; have f31 := t114; have f32 := b7; have f33 := k101; have f34 := t116; have f35 := b41; have g1 := rg32 p1; have z0 : (0 : Int32).toInt = 0 := (by decide); have z1 : (1 : Int32).toInt = 1 := (by decide); omega)
                        refine lv_iload hx hb dX9_comesBy_140 (lv_at hl 0 rfl) ?_
                        refine lv_iload hx hb dX9_comesBy_142 (lv_at hl 4 rfl) ?_
                        refine va_calli (va_runV (As := [.int x131, .int x115, .int x25]) (rest := []) ⟨hx, hb, hml, hown, hts⟩ (m_X9_octaveGo l D cy g σ4 x131 x115 x25 _ hJ6 (show (0 : Int) ≤ x131.toInt ∧ x131.toInt ≤ 14 from (by have f0 := t132; have f1 := h0; have f2 := h2; have f3 := t11; have f4 := t20; have f5 := b37; have f6 := b43; have f7 := k82; have f8 := t87; have f9 := t91; have f10 := t103; have f11 := t107; have f12 := a9_48 hJ (j := 0) rfl; have f13 := t13; have f14 := t22; have f15 := b36; have f16 := b42; have f17 := k85; have f18 := t89; have f19 := t93; have f20 := t94; have f21 := t105; have f22 := t109; have f23 := t110; have f24 := h1; have f25 := t15; have f26 := t24; have f27 := t96; have f28 := t112; have f29 := k18; have f30 := t26; have f31 := t98; have f32 := t114; have f33 := b7; have f34 := k101; have f35 := t116; have f36 := b41; have g1 := rg32 x131; have z0 : (0 : Int32).toInt = 0 := (by decide); have z1 : (1 : Int32).toInt = 1 := (by decide); omega)) (show (0 : Int) ≤ x115.toInt ∧ x115.toInt ≤ 4223 from (by have f0 := t116; have f1 := t132; have f2 := h0; have f3 := h2; have f4 := t11; have f5 := t20; have f6 := b37; have f7 := b41; have f8 := b43; have f9 := k82; have f10 := t87; have f11 := t91; have f12 := k101; have f13 := t103; have f14 := t107; have f15 := t114; have f16 := a9_48 hJ (j := 0) rfl; have f17 := t13; have f18 := t22; have f19 := b36; have f20 := b42; have f21 := k85; have f22 := t89; have f23 := t93; have f24 := t94; have f25 := t98; have f26 := t105; have f27 := t109; have f28 := t110; have f29 := t112; have f30 := h1; have f31 := t15; have f32 := t24; have f33 := t96; have f34 := k18; have f35 := t26; have f36 := b7; have g1 := rg32 x115; have g2 := rg32 x131; have z0 : (0 : Int32).toInt = 0 := (by decide); have z1 : (1 : Int32).toInt = 1 := (by decide); omega)) (show (0 : Int) ≤ x25.toInt ∧ x25.toInt ≤ 4223 from (by have f0 := t26; have f1 := t116; have f2 := t132; have f3 := h0; have f4 := h2; have f5 := b7; have f6 := t11; have f7 := k18; have f8 := t20; have f9 := t24; have f10 := b37; have f11 := b41; have f12 := b43; have f13 := k82; have f14 := t87; have f15 := t91; have f16 := k101; have f17 := t103; have f18 := t107; have f19 := t114; have f20 := a9_48 hJ (j := 0) rfl; have f21 := t13; have f22 := t15; have f23 := t22; have f24 := b36; have f25 := b42; have f26 := k85; have f27 := t89; have f28 := t93; have f29 := t94; have f30 := t98; have f31 := t105; have f32 := t109; have f33 := t110; have f34 := t112; have f35 := h1; have f36 := t96; have g1 := rg32 x115; have g2 := rg32 x131; have g3 := rg32 x25; have z0 : (0 : Int32).toInt = 0 := (by decide); have z1 : (1 : Int32).toInt = 1 := (by decide); omega))) (cwV 3 hts (gd_V q1928 q1930 q104 q134 q1931) rfl rfl rfl (by decide +kernel) ⟨Nat.le_of_ble_eq_true rfl, Nat.le_of_ble_eq_true rfl⟩) (pv9 hP hK hD hC hS (va_recv hK hP (ci := 9) (q0 := 0) rfl rfl)) rfl rfl hl.1 rfl (lv_room (Nat.le_of_ble_eq_true rfl)) dX9_comesBy_144 ⟨Nat.le_of_ble_eq_true rfl, Nat.le_of_ble_eq_true rfl⟩) hS (fun q _ h => up9 hS q h) (up9 hS) (fun r133 σ134 tS H1 locs ht hvm hw135 hB hz1 hk1 hS => ?_)
                        have hP : va_P D clz (WD9 cy g σ134) H1 := by rw [← ht]; exact hB
                        clear hB hz1 hk1 hvm ht
                        generalize H1 = H at hP hS ⊢
                        have hw135E : σ4 = σ134 := (hw135.1).symm
                        subst hw135E
                        have b136 : (0 : Int) ≤ r133.toInt ∧ r133.toInt ≤ 1 := hw135.2.1
                        have b137 : r133 = goO (σ4 9) x131.toInt.toNat x115.toInt.toNat x25.toInt.toNat := hw135.2.2.1
                        refine lv_if_eq (tgt := 154) hx hb dX9_comesBy_147 (by decide) (fun c138 => ?_) (fun c138 => ?_)
                        ·
                          have k139 := peq32 c138
                          exact nj125 (σ4, lf [], lg []) ⟨rfl, trivial⟩ _ _ _ hP hS (lv_sub hl [0, 1, 2, 3, 4, 5, 6, 7, 8, 9, 10] rfl)
                        ·
                          have k140 := neq32 c138
                          refine lv_iconst (v := 1) hx hb dX9_comesBy_150 (by decide) ?_
                          refine lv_goto (tgt := 155) hx hb dX9_comesBy_151 (by decide) ?_
                          exact nj118 (σ4, lf [1], lg []) ⟨rfl, (show (0 : Int) ≤ (1 : Int32).toInt ∧ (1 : Int32).toInt ≤ 1 from (by have z1 : (1 : Int32).toInt = 1 := (by decide); omega)), trivial⟩ _ _ _ hP hS (lv_sub hl [0, 1, 2, 3, 4, 5, 6, 7, 8, 9, 10] rfl)
      ·
        intro nj33
        refine lv_if_ne (tgt := 60) hx hb dX9_comesBy_53 (by decide) (fun c141 => ?_) (fun c141 => ?_)
        ·
          have k142 := neq32 c141
          refine lv_iconst (v := 0) hx hb dX9_comesBy_60 (by decide) ?_
          exact nj33 (σ4, lf [0], lg []) ⟨rfl, (show (0 : Int) ≤ (0 : Int32).toInt ∧ (0 : Int32).toInt ≤ 1 from (by have z0 : (0 : Int32).toInt = 0 := (by decide); omega)), (show ¬ p1.toInt = 0 ∨ (0 : Int32).toInt = 1 from (by have f0 := h0; have f1 := h2; have f2 := t11; have f3 := t20; have f4 := k142; have f5 := a9_48 hJ (j := 0) rfl; have f6 := t13; have f7 := t22; have f8 := h1; have f9 := t15; have f10 := t24; have f11 := k18; have f12 := t26; have f13 := b7; have g1 := rg32 p1; have z0 : (0 : Int32).toInt = 0 := (by decide); omega)), trivial⟩ _ _ _ hP hS (lv_sub hl [0, 1, 2, 3, 4, 5, 6, 7] rfl)
        ·
          have k143 := peq32 c141
          refine lv_iconst (v := 1) hx hb dX9_comesBy_56 (by decide) ?_
          refine lv_goto (tgt := 61) hx hb dX9_comesBy_57 (by decide) ?_
          exact nj33 (σ4, lf [1], lg []) ⟨rfl, (show (0 : Int) ≤ (1 : Int32).toInt ∧ (1 : Int32).toInt ≤ 1 from (by have z1 : (1 : Int32).toInt = 1 := (by decide); omega)), (show ¬ p1.toInt = 0 ∨ (1 : Int32).toInt = 1 from (by have f0 := h0; have f1 := h2; have f2 := t11; have f3 := t20; have f4 := k143; have f5 := a9_48 hJ (j := 0) rfl; have f6 := t13; have f7 := t22; have f8 := h1; have f9 := t15; have f10 := t24; have f11 := k18; have f12 := t26; have f13 := b7; have g1 := rg32 p1; have z0 : (0 : Int32).toInt = 0 := (by decide); have z1 : (1 : Int32).toInt = 1 := (by decide); omega)), trivial⟩ _ _ _ hP hS (lv_sub hl [0, 1, 2, 3, 4, 5, 6, 7] rfl)
    ·
      intro nj28
      refine lv_icmp_ne (tgt := 49) hx hb dX9_comesBy_42 (by decide) (fun c144 => ?_) (fun c144 => ?_)
      ·
        have k145 := neq32 c144
        refine lv_iconst (v := 0) hx hb dX9_comesBy_49 (by decide) ?_
        exact nj28 (σ4, lf [0], lg []) ⟨rfl, (show (0 : Int) ≤ (0 : Int32).toInt ∧ (0 : Int32).toInt ≤ 1 from (by have z0 : (0 : Int32).toInt = 0 := (by decide); omega)), (show (0 : Int32).toInt = 1 ∨ ¬ x27.toInt = p3.toInt from (by have f0 := k145; have g0 := rg32 p3; have g1 := rg32 x27; have z0 : (0 : Int32).toInt = 0 := (by decide); omega)), trivial⟩ _ _ _ hP hS (lv_sub hl [0, 1, 2, 3, 4, 5, 6] rfl)
      ·
        have k146 := peq32 c144
        refine lv_iconst (v := 1) hx hb dX9_comesBy_45 (by decide) ?_
        refine lv_goto (tgt := 50) hx hb dX9_comesBy_46 (by decide) ?_
        exact nj28 (σ4, lf [1], lg []) ⟨rfl, (show (0 : Int) ≤ (1 : Int32).toInt ∧ (1 : Int32).toInt ≤ 1 from (by have z1 : (1 : Int32).toInt = 1 := (by decide); omega)), (show (1 : Int32).toInt = 1 ∨ ¬ x27.toInt = p3.toInt from (by have f0 := k146; have g0 := rg32 p3; have g1 := rg32 x27; have z1 : (1 : Int32).toInt = 1 := (by decide); omega)), trivial⟩ _ _ _ hP hS (lv_sub hl [0, 1, 2, 3, 4, 5, 6] rfl)

theorem q1919 : Cond.code yX9_moves cX9_moves 7 (some .int) ∈ lw_g := lw_gm (List.mem_of_getElem? (i := 1919) (by decide +kernel)) rfl
theorem q1920 : Cond.methodLink RX9 448 yX9_laysOctaves ∈ lw_g := lw_gm (List.mem_of_getElem? (i := 1920) (by decide +kernel)) rfl
theorem q1922 : Cond.instanceMethod yX9_laysOctaves ∈ lw_g := lw_gm (List.mem_of_getElem? (i := 1922) (by decide +kernel)) rfl
theorem q102 : Cond.selects RX9 yX9_laysOctaves yX9_laysOctaves ∈ lw_g := lw_gm (List.mem_of_getElem? (i := 102) (by decide +kernel)) rfl
theorem q1932 : Cond.methodLink RX9 454 yX9_comesBy ∈ lw_g := lw_gm (List.mem_of_getElem? (i := 1932) (by decide +kernel)) rfl
theorem q1934 : Cond.instanceMethod yX9_comesBy ∈ lw_g := lw_gm (List.mem_of_getElem? (i := 1934) (by decide +kernel)) rfl
theorem q105 : Cond.selects RX9 yX9_comesBy yX9_comesBy ∈ lw_g := lw_gm (List.mem_of_getElem? (i := 105) (by decide +kernel)) rfl
theorem q1924 : Cond.methodLink RX9 451 yX9_fewestFrom ∈ lw_g := lw_gm (List.mem_of_getElem? (i := 1924) (by decide +kernel)) rfl
theorem q1926 : Cond.instanceMethod yX9_fewestFrom ∈ lw_g := lw_gm (List.mem_of_getElem? (i := 1926) (by decide +kernel)) rfl
theorem q103 : Cond.selects RX9 yX9_fewestFrom yX9_fewestFrom ∈ lw_g := lw_gm (List.mem_of_getElem? (i := 103) (by decide +kernel)) rfl
theorem dX9_moves_0 : decode cX9_moves 0 = .ok (.aload_n 0, 1) := by decide +kernel
theorem dX9_moves_1 : decode cX9_moves 1 = .ok (.iload_n 1, 1) := by decide +kernel
theorem dX9_moves_2 : decode cX9_moves 2 = .ok (.iload_n 2, 1) := by decide +kernel
theorem dX9_moves_3 : decode cX9_moves 3 = .ok (.invokevirtual 393, 3) := by decide +kernel
theorem dX9_moves_6 : decode cX9_moves 6 = .ok (.aload_n 0, 1) := by decide +kernel
theorem dX9_moves_7 : decode cX9_moves 7 = .ok (.invokevirtual 448, 3) := by decide +kernel
theorem dX9_moves_10 : decode cX9_moves 10 = .ok (.aload_n 0, 1) := by decide +kernel
theorem dX9_moves_11 : decode cX9_moves 11 = .ok (.getfield 387, 3) := by decide +kernel
theorem dX9_moves_14 : decode cX9_moves 14 = .ok (.iconst 1, 1) := by decide +kernel
theorem dX9_moves_15 : decode cX9_moves 15 = .ok (.isub, 1) := by decide +kernel
theorem dX9_moves_16 : decode cX9_moves 16 = .ok (.istore_n 3, 1) := by decide +kernel
theorem dX9_moves_17 : decode cX9_moves 17 = .ok (.iload_n 3, 1) := by decide +kernel
theorem dX9_moves_18 : decode cX9_moves 18 = .ok (.ifCond .lt 85, 3) := by decide +kernel
theorem dX9_moves_21 : decode cX9_moves 21 = .ok (.iconst 0, 1) := by decide +kernel
theorem dX9_moves_22 : decode cX9_moves 22 = .ok (.istore 4, 2) := by decide +kernel
theorem dX9_moves_24 : decode cX9_moves 24 = .ok (.iload 4, 2) := by decide +kernel
theorem dX9_moves_26 : decode cX9_moves 26 = .ok (.iconst 3, 1) := by decide +kernel
theorem dX9_moves_27 : decode cX9_moves 27 = .ok (.if_icmp .ge 70, 3) := by decide +kernel
theorem dX9_moves_30 : decode cX9_moves 30 = .ok (.iconst 0, 1) := by decide +kernel
theorem dX9_moves_31 : decode cX9_moves 31 = .ok (.istore 5, 2) := by decide +kernel
theorem dX9_moves_33 : decode cX9_moves 33 = .ok (.iload 5, 2) := by decide +kernel
theorem dX9_moves_35 : decode cX9_moves 35 = .ok (.aload_n 0, 1) := by decide +kernel
theorem dX9_moves_36 : decode cX9_moves 36 = .ok (.getfield 89, 3) := by decide +kernel
theorem dX9_moves_39 : decode cX9_moves 39 = .ok (.iconst 3, 1) := by decide +kernel
theorem dX9_moves_40 : decode cX9_moves 40 = .ok (.iload_n 3, 1) := by decide +kernel
theorem dX9_moves_41 : decode cX9_moves 41 = .ok (.imul, 1) := by decide +kernel
theorem dX9_moves_42 : decode cX9_moves 42 = .ok (.iload 4, 2) := by decide +kernel
theorem dX9_moves_44 : decode cX9_moves 44 = .ok (.iadd, 1) := by decide +kernel
theorem dX9_moves_45 : decode cX9_moves 45 = .ok (.iaload, 1) := by decide +kernel
theorem dX9_moves_46 : decode cX9_moves 46 = .ok (.if_icmp .ge 45, 3) := by decide +kernel
theorem dX9_moves_49 : decode cX9_moves 49 = .ok (.aload_n 0, 1) := by decide +kernel
theorem dX9_moves_50 : decode cX9_moves 50 = .ok (.getfield 98, 3) := by decide +kernel
theorem dX9_moves_53 : decode cX9_moves 53 = .ok (.bipush 88, 2) := by decide +kernel
theorem dX9_moves_55 : decode cX9_moves 55 = .ok (.iconst 3, 1) := by decide +kernel
theorem dX9_moves_56 : decode cX9_moves 56 = .ok (.iload_n 3, 1) := by decide +kernel
theorem dX9_moves_57 : decode cX9_moves 57 = .ok (.imul, 1) := by decide +kernel
theorem dX9_moves_58 : decode cX9_moves 58 = .ok (.iload 4, 2) := by decide +kernel
theorem dX9_moves_60 : decode cX9_moves 60 = .ok (.iadd, 1) := by decide +kernel
theorem dX9_moves_61 : decode cX9_moves 61 = .ok (.imul, 1) := by decide +kernel
theorem dX9_moves_62 : decode cX9_moves 62 = .ok (.iload 5, 2) := by decide +kernel
theorem dX9_moves_64 : decode cX9_moves 64 = .ok (.iadd, 1) := by decide +kernel
theorem dX9_moves_65 : decode cX9_moves 65 = .ok (.aload_n 0, 1) := by decide +kernel
theorem dX9_moves_66 : decode cX9_moves 66 = .ok (.iload_n 3, 1) := by decide +kernel
theorem dX9_moves_67 : decode cX9_moves 67 = .ok (.bipush 88, 2) := by decide +kernel
theorem dX9_moves_69 : decode cX9_moves 69 = .ok (.iconst 3, 1) := by decide +kernel
theorem dX9_moves_70 : decode cX9_moves 70 = .ok (.iload_n 3, 1) := by decide +kernel
theorem dX9_moves_71 : decode cX9_moves 71 = .ok (.imul, 1) := by decide +kernel
theorem dX9_moves_72 : decode cX9_moves 72 = .ok (.iload 4, 2) := by decide +kernel
theorem dX9_moves_74 : decode cX9_moves 74 = .ok (.iadd, 1) := by decide +kernel
theorem dX9_moves_75 : decode cX9_moves 75 = .ok (.imul, 1) := by decide +kernel
theorem dX9_moves_76 : decode cX9_moves 76 = .ok (.iload 5, 2) := by decide +kernel
theorem dX9_moves_78 : decode cX9_moves 78 = .ok (.iadd, 1) := by decide +kernel
theorem dX9_moves_79 : decode cX9_moves 79 = .ok (.iload 4, 2) := by decide +kernel
theorem dX9_moves_81 : decode cX9_moves 81 = .ok (.invokevirtual 451, 3) := by decide +kernel
theorem dX9_moves_84 : decode cX9_moves 84 = .ok (.iastore, 1) := by decide +kernel
theorem dX9_moves_85 : decode cX9_moves 85 = .ok (.iinc 5 1, 3) := by decide +kernel
theorem dX9_moves_88 : decode cX9_moves 88 = .ok (.goto (-55), 3) := by decide +kernel
theorem dX9_moves_91 : decode cX9_moves 91 = .ok (.iinc 4 1, 3) := by decide +kernel
theorem dX9_moves_94 : decode cX9_moves 94 = .ok (.goto (-70), 3) := by decide +kernel
theorem dX9_moves_97 : decode cX9_moves 97 = .ok (.iinc 3 (-1), 3) := by decide +kernel
theorem dX9_moves_100 : decode cX9_moves 100 = .ok (.goto (-83), 3) := by decide +kernel
theorem dX9_moves_103 : decode cX9_moves 103 = .ok (.aload_n 0, 1) := by decide +kernel
theorem dX9_moves_104 : decode cX9_moves 104 = .ok (.getfield 387, 3) := by decide +kernel
theorem dX9_moves_107 : decode cX9_moves 107 = .ok (.ifCond .ne 7, 3) := by decide +kernel
theorem dX9_moves_110 : decode cX9_moves 110 = .ok (.iconst 0, 1) := by decide +kernel
theorem dX9_moves_111 : decode cX9_moves 111 = .ok (.goto 5, 3) := by decide +kernel
theorem dX9_moves_114 : decode cX9_moves 114 = .ok (.ldc 180, 2) := by decide +kernel
theorem dX9_moves_116 : decode cX9_moves 116 = .ok (.istore_n 3, 1) := by decide +kernel
theorem dX9_moves_117 : decode cX9_moves 117 = .ok (.iconst 0, 1) := by decide +kernel
theorem dX9_moves_118 : decode cX9_moves 118 = .ok (.istore 4, 2) := by decide +kernel
theorem dX9_moves_120 : decode cX9_moves 120 = .ok (.aload_n 0, 1) := by decide +kernel
theorem dX9_moves_121 : decode cX9_moves 121 = .ok (.getfield 387, 3) := by decide +kernel
theorem dX9_moves_124 : decode cX9_moves 124 = .ok (.ifCond .le 71, 3) := by decide +kernel
theorem dX9_moves_127 : decode cX9_moves 127 = .ok (.iload 4, 2) := by decide +kernel
theorem dX9_moves_129 : decode cX9_moves 129 = .ok (.iconst 3, 1) := by decide +kernel
theorem dX9_moves_130 : decode cX9_moves 130 = .ok (.if_icmp .ge 65, 3) := by decide +kernel
theorem dX9_moves_133 : decode cX9_moves 133 = .ok (.iconst 0, 1) := by decide +kernel
theorem dX9_moves_134 : decode cX9_moves 134 = .ok (.istore 5, 2) := by decide +kernel
theorem dX9_moves_136 : decode cX9_moves 136 = .ok (.iload 5, 2) := by decide +kernel
theorem dX9_moves_138 : decode cX9_moves 138 = .ok (.aload_n 0, 1) := by decide +kernel
theorem dX9_moves_139 : decode cX9_moves 139 = .ok (.getfield 89, 3) := by decide +kernel
theorem dX9_moves_142 : decode cX9_moves 142 = .ok (.iload 4, 2) := by decide +kernel
theorem dX9_moves_144 : decode cX9_moves 144 = .ok (.iaload, 1) := by decide +kernel
theorem dX9_moves_145 : decode cX9_moves 145 = .ok (.if_icmp .ge 44, 3) := by decide +kernel
theorem dX9_moves_148 : decode cX9_moves 148 = .ok (.aload_n 0, 1) := by decide +kernel
theorem dX9_moves_149 : decode cX9_moves 149 = .ok (.getfield 98, 3) := by decide +kernel
theorem dX9_moves_152 : decode cX9_moves 152 = .ok (.bipush 88, 2) := by decide +kernel
theorem dX9_moves_154 : decode cX9_moves 154 = .ok (.iload 4, 2) := by decide +kernel
theorem dX9_moves_156 : decode cX9_moves 156 = .ok (.imul, 1) := by decide +kernel
theorem dX9_moves_157 : decode cX9_moves 157 = .ok (.iload 5, 2) := by decide +kernel
theorem dX9_moves_159 : decode cX9_moves 159 = .ok (.iadd, 1) := by decide +kernel
theorem dX9_moves_160 : decode cX9_moves 160 = .ok (.iaload, 1) := by decide +kernel
theorem dX9_moves_161 : decode cX9_moves 161 = .ok (.iload_n 3, 1) := by decide +kernel
theorem dX9_moves_162 : decode cX9_moves 162 = .ok (.if_icmp .ge 19, 3) := by decide +kernel
theorem dX9_moves_165 : decode cX9_moves 165 = .ok (.aload_n 0, 1) := by decide +kernel
theorem dX9_moves_166 : decode cX9_moves 166 = .ok (.getfield 98, 3) := by decide +kernel
theorem dX9_moves_169 : decode cX9_moves 169 = .ok (.bipush 88, 2) := by decide +kernel
theorem dX9_moves_171 : decode cX9_moves 171 = .ok (.iload 4, 2) := by decide +kernel
theorem dX9_moves_173 : decode cX9_moves 173 = .ok (.imul, 1) := by decide +kernel
theorem dX9_moves_174 : decode cX9_moves 174 = .ok (.iload 5, 2) := by decide +kernel
theorem dX9_moves_176 : decode cX9_moves 176 = .ok (.iadd, 1) := by decide +kernel
theorem dX9_moves_177 : decode cX9_moves 177 = .ok (.iaload, 1) := by decide +kernel
theorem dX9_moves_178 : decode cX9_moves 178 = .ok (.goto 4, 3) := by decide +kernel
theorem dX9_moves_181 : decode cX9_moves 181 = .ok (.iload_n 3, 1) := by decide +kernel
theorem dX9_moves_182 : decode cX9_moves 182 = .ok (.istore_n 3, 1) := by decide +kernel
theorem dX9_moves_183 : decode cX9_moves 183 = .ok (.iinc 5 1, 3) := by decide +kernel
theorem dX9_moves_186 : decode cX9_moves 186 = .ok (.goto (-50), 3) := by decide +kernel
theorem dX9_moves_189 : decode cX9_moves 189 = .ok (.iinc 4 1, 3) := by decide +kernel
theorem dX9_moves_192 : decode cX9_moves 192 = .ok (.goto (-72), 3) := by decide +kernel
theorem dX9_moves_195 : decode cX9_moves 195 = .ok (.iload_n 3, 1) := by decide +kernel
theorem dX9_moves_196 : decode cX9_moves 196 = .ok (.ldc 180, 2) := by decide +kernel
theorem dX9_moves_198 : decode cX9_moves 198 = .ok (.if_icmp .ne 6, 3) := by decide +kernel
theorem dX9_moves_201 : decode cX9_moves 201 = .ok (.ldc 180, 2) := by decide +kernel
theorem dX9_moves_203 : decode cX9_moves 203 = .ok (.ireturn, 1) := by decide +kernel
theorem dX9_moves_204 : decode cX9_moves 204 = .ok (.iload_n 3, 1) := by decide +kernel
theorem dX9_moves_205 : decode cX9_moves 205 = .ok (.istore 4, 2) := by decide +kernel
theorem dX9_moves_207 : decode cX9_moves 207 = .ok (.iconst 0, 1) := by decide +kernel
theorem dX9_moves_208 : decode cX9_moves 208 = .ok (.istore 5, 2) := by decide +kernel
theorem dX9_moves_210 : decode cX9_moves 210 = .ok (.iload 5, 2) := by decide +kernel
theorem dX9_moves_212 : decode cX9_moves 212 = .ok (.aload_n 0, 1) := by decide +kernel
theorem dX9_moves_213 : decode cX9_moves 213 = .ok (.getfield 387, 3) := by decide +kernel
theorem dX9_moves_216 : decode cX9_moves 216 = .ok (.if_icmp .ge 86, 3) := by decide +kernel
theorem dX9_moves_219 : decode cX9_moves 219 = .ok (.aload_n 0, 1) := by decide +kernel
theorem dX9_moves_220 : decode cX9_moves 220 = .ok (.getfield 104, 3) := by decide +kernel
theorem dX9_moves_223 : decode cX9_moves 223 = .ok (.iload 5, 2) := by decide +kernel
theorem dX9_moves_225 : decode cX9_moves 225 = .ok (.iconst (-1), 1) := by decide +kernel
theorem dX9_moves_226 : decode cX9_moves 226 = .ok (.iastore, 1) := by decide +kernel
theorem dX9_moves_227 : decode cX9_moves 227 = .ok (.iconst 0, 1) := by decide +kernel
theorem dX9_moves_228 : decode cX9_moves 228 = .ok (.istore 6, 2) := by decide +kernel
theorem dX9_moves_230 : decode cX9_moves 230 = .ok (.iload 6, 2) := by decide +kernel
theorem dX9_moves_232 : decode cX9_moves 232 = .ok (.iconst 3, 1) := by decide +kernel
theorem dX9_moves_233 : decode cX9_moves 233 = .ok (.if_icmp .ge 42, 3) := by decide +kernel
theorem dX9_moves_236 : decode cX9_moves 236 = .ok (.aload_n 0, 1) := by decide +kernel
theorem dX9_moves_237 : decode cX9_moves 237 = .ok (.getfield 104, 3) := by decide +kernel
theorem dX9_moves_240 : decode cX9_moves 240 = .ok (.iload 5, 2) := by decide +kernel
theorem dX9_moves_242 : decode cX9_moves 242 = .ok (.iaload, 1) := by decide +kernel
theorem dX9_moves_243 : decode cX9_moves 243 = .ok (.iconst (-1), 1) := by decide +kernel
theorem dX9_moves_244 : decode cX9_moves 244 = .ok (.if_icmp .ne 31, 3) := by decide +kernel
theorem dX9_moves_247 : decode cX9_moves 247 = .ok (.aload_n 0, 1) := by decide +kernel
theorem dX9_moves_248 : decode cX9_moves 248 = .ok (.iload 5, 2) := by decide +kernel
theorem dX9_moves_250 : decode cX9_moves 250 = .ok (.iload 6, 2) := by decide +kernel
theorem dX9_moves_252 : decode cX9_moves 252 = .ok (.iload 4, 2) := by decide +kernel
theorem dX9_moves_254 : decode cX9_moves 254 = .ok (.invokevirtual 454, 3) := by decide +kernel
theorem dX9_moves_257 : decode cX9_moves 257 = .ok (.ifCond .eq 12, 3) := by decide +kernel
theorem dX9_moves_260 : decode cX9_moves 260 = .ok (.aload_n 0, 1) := by decide +kernel
theorem dX9_moves_261 : decode cX9_moves 261 = .ok (.getfield 104, 3) := by decide +kernel
theorem dX9_moves_264 : decode cX9_moves 264 = .ok (.iload 5, 2) := by decide +kernel
theorem dX9_moves_266 : decode cX9_moves 266 = .ok (.iload 6, 2) := by decide +kernel
theorem dX9_moves_268 : decode cX9_moves 268 = .ok (.iastore, 1) := by decide +kernel
theorem dX9_moves_269 : decode cX9_moves 269 = .ok (.iinc 6 1, 3) := by decide +kernel
theorem dX9_moves_272 : decode cX9_moves 272 = .ok (.goto (-42), 3) := by decide +kernel
theorem dX9_moves_275 : decode cX9_moves 275 = .ok (.iload 4, 2) := by decide +kernel
theorem dX9_moves_277 : decode cX9_moves 277 = .ok (.aload_n 0, 1) := by decide +kernel
theorem dX9_moves_278 : decode cX9_moves 278 = .ok (.getfield 104, 3) := by decide +kernel
theorem dX9_moves_281 : decode cX9_moves 281 = .ok (.iload 5, 2) := by decide +kernel
theorem dX9_moves_283 : decode cX9_moves 283 = .ok (.iaload, 1) := by decide +kernel
theorem dX9_moves_284 : decode cX9_moves 284 = .ok (.iconst 1, 1) := by decide +kernel
theorem dX9_moves_285 : decode cX9_moves 285 = .ok (.if_icmp .ne 7, 3) := by decide +kernel
theorem dX9_moves_288 : decode cX9_moves 288 = .ok (.iconst 0, 1) := by decide +kernel
theorem dX9_moves_289 : decode cX9_moves 289 = .ok (.goto 4, 3) := by decide +kernel
theorem dX9_moves_292 : decode cX9_moves 292 = .ok (.iconst 1, 1) := by decide +kernel
theorem dX9_moves_293 : decode cX9_moves 293 = .ok (.isub, 1) := by decide +kernel
theorem dX9_moves_294 : decode cX9_moves 294 = .ok (.istore 4, 2) := by decide +kernel
theorem dX9_moves_296 : decode cX9_moves 296 = .ok (.iinc 5 1, 3) := by decide +kernel
theorem dX9_moves_299 : decode cX9_moves 299 = .ok (.goto (-89), 3) := by decide +kernel
theorem dX9_moves_302 : decode cX9_moves 302 = .ok (.iload_n 3, 1) := by decide +kernel
theorem dX9_moves_303 : decode cX9_moves 303 = .ok (.ireturn, 1) := by decide +kernel
set_option maxHeartbeats 4000000 in
set_option maxRecDepth 100000 in
theorem m_X9_moves (l : Launch) (D : va_G) (cy : Nat → ClassId) (g : Nat → Nat) (σ : ST) (p1 : Int32) (p2 : Int32) (sz : Nat) (hJ : J9 (σ 9)) (kDK0 : DK0 (σ 9)) (h0 : (0 : Int) ≤ p1.toInt ∧ p1.toInt ≤ 8) (h1 : (0 : Int) ≤ p2.toInt ∧ p2.toInt ≤ 2) (h2 : p1.toInt < ((σ 9).2.2.1 17 3).toInt) : Met l yX9_moves (ww yX9_moves cX9_moves 7 (some .int)) ({ frames := 6, cells := 0, slots := 0, locals := 384 }) (va_Pc [.ref (g 60), .int p1, .int p2] (pr9 D cy g σ sz)) (qi9 D cy g sz (fun r τ => Fr (fL [23, 24, 25, 26, 27, 28, 29, 30, 31, 32, 33, 34, 43, 44, 45, 46, 47, 48]) σ τ ∧ J9 (τ 9) ∧ True)) 0 0 (A9 cy g sz) := by
  refine Met.ofW (cc := cX9_moves) (maxL := 7) (ret := (some .int)) (by decide) rfl ?_
  intro p e s m args below meth c s₁ B hml hv
  obtain ⟨rfl, hsz, hP, hK, hD0, hC⟩ := hv
  have hx := B.exec
  have hb := B.bytes
  have hr := B.returns
  have hts := hts_g (atoms_spec (ws := ww yX9_moves cX9_moves 7 (some .int)) B.pre)
  have hown : s.vm.findClass RX9 = some m.cls := findClass_of_methodNamed B.named
  have hlocks := B.notSynchronized
  clear B
  subst hsz
  have hD := fun τ => A9_D (sz := s.heap.size) hD0 τ
  clear hD0
  have hS : va_S (A9 cy g s.heap.size) s.heap s.heap [] := va_S.rf
  have hl := lv_entry ([.ref (g 60), .int p1, .int p2]) (n := 7) (Nat.le_of_ble_eq_true rfl)
  rw [lg_entry_eq]
  generalize (lg_sl ([.ref (g 60), .int p1, .int p2]) ++ List.replicate (7 - (lg_sl ([.ref (g 60), .int p1, .int p2])).length) Slot.unset).toArray = ls at hl ⊢
  have hl : lv_has ls 7 [(0, .ref (g 60)), (1, .int p1), (2, .int p2)] := hl
  refine lv_aload_n hx hb dX9_moves_0 rfl (lv_at hl 0 rfl) ?_
  refine lv_iload_n hx hb dX9_moves_1 rfl (lv_at hl 1 rfl) ?_
  refine lv_iload_n hx hb dX9_moves_2 rfl (lv_at hl 2 rfl) ?_
  refine va_callv (va_runV (As := [.int p1, .int p2]) (rest := []) ⟨hx, hb, hml, hown, hts⟩ (m_X9_laysPart l D cy g σ p1 p2 _ hJ kDK0 (show (0 : Int) ≤ p1.toInt ∧ p1.toInt ≤ 8 from (by have f0 := h0; have f1 := h2; have f2 := a9_17 hJ (j := 3) rfl; have g1 := rg32 p1; omega)) (show (0 : Int) ≤ p2.toInt ∧ p2.toInt ≤ 2 from (by have f0 := h0; have f1 := h1; have f2 := h2; have f3 := a9_17 hJ (j := 3) rfl; have g1 := rg32 p1; have g2 := rg32 p2; omega)) (show p1.toInt < ((σ 9).2.2.1 17 3).toInt from (by have f0 := a9_17 hJ (j := 3) rfl; have f1 := h0; have f2 := h2; have g1 := rg32 p1; omega))) (cwV 2 hts (gd_V q1834 q1836 q90 q134 q1837) rfl rfl rfl (by decide +kernel) ⟨Nat.le_of_ble_eq_true rfl, Nat.le_of_ble_eq_true rfl⟩) (pv9 hP hK hD hC hS (va_recv hK hP (ci := 9) (q0 := 0) rfl rfl)) rfl rfl hl.1 rfl (lv_room (Nat.le_of_ble_eq_true rfl)) dX9_moves_3 ⟨Nat.le_of_ble_eq_true rfl, Nat.le_of_ble_eq_true rfl⟩) hS (fun q _ h => up9 hS q h) (up9 hS) (fun σ2 tS H1 locs ht hvm hw3 hB hz1 hk1 hS => ?_)
  have hP : va_P D clz (WD9 cy g σ2) H1 := by rw [← ht]; exact hB
  clear hB hz1 hk1 hvm ht
  generalize H1 = H at hP hS ⊢
  have hF4 : Fr (fL [28, 29, 30, 31, 32, 33, 34]) σ σ2 := hw3.1
  have hJ5 : J9 (σ2 9) := hw3.2.1
  have T6 : DK0 (σ2 9) := DK0.mv kDK0 (hF4 9 17 rfl).2.2.1 (hF4 9 18 rfl).2.2.1 (hF4 9 19 rfl).2.2.1
  refine lv_aload_n hx hb dX9_moves_6 rfl (lv_at hl 0 rfl) ?_
  refine va_callv (va_runV (As := []) (rest := []) ⟨hx, hb, hml, hown, hts⟩ (m_X9_laysOctaves l D cy g σ2  _ hJ5 hw3.2.2.1) (cwV 0 hts (gd_V q1920 q1922 q102 q134 q1923) rfl rfl rfl (by decide +kernel) ⟨Nat.le_of_ble_eq_true rfl, Nat.le_of_ble_eq_true rfl⟩) (pv9 hP hK hD hC hS (va_recv hK hP (ci := 9) (q0 := 0) rfl rfl)) rfl rfl hl.1 rfl (lv_room (Nat.le_of_ble_eq_true rfl)) dX9_moves_7 ⟨Nat.le_of_ble_eq_true rfl, Nat.le_of_ble_eq_true rfl⟩) hS (fun q _ h => up9 hS q h) (up9 hS) (fun σ8 tS H1 locs ht hvm hw9 hB hz1 hk1 hS => ?_)
  have hP : va_P D clz (WD9 cy g σ8) H1 := by rw [← ht]; exact hB
  clear hB hz1 hk1 hvm ht
  generalize H1 = H at hP hS ⊢
  have hF10 : Fr (fL [23, 24, 25, 26, 27, 43, 44, 45]) σ2 σ8 := hw9.1
  have hJ11 : J9 (σ8 9) := hw9.2.1
  have T12 : DK0 (σ8 9) := DK0.mv T6 (hF10 9 17 rfl).2.2.1 (hF10 9 18 rfl).2.2.1 (hF10 9 19 rfl).2.2.1
  have T13 : HK (σ8 9) := HK.mv hw3.2.2.1 (hF10 9 18 rfl).2.2.1 (hF10 9 28 rfl).1
  refine lv_aload_n hx hb dX9_moves_10 rfl (lv_at hl 0 rfl) ?_
  refine g9_31 (x := ((σ2 9).1 31)) hx hb hts hown hK hP ((hF10 9 31 rfl).1) (hts _ q1391) dX9_moves_11 ?_
  refine lv_iconst (v := 1) hx hb dX9_moves_14 (by decide) ?_
  refine lv_isub hx hb dX9_moves_15 ?_
  refine lv_topi (fun x14 ex14 => ?_)
  have t15 := subO ex14 (by have f0 := j9_31 hJ5 rfl; have z1 : (1 : Int32).toInt = 1 := (by decide); omega)
  refine lv_istore_n (lv' := [(3, .int x14), (0, .ref (g 60)), (1, .int p1), (2, .int p2)]) hx hb dX9_moves_16 rfl hl (by decide) rfl (fun ls hl => ?_)
  refine loop9 7 17 (fun x : LZ => [(3, .int (x.2.1 0)), (0, .ref (g 60)), (1, .int p1), (2, .int p2)]) (fun x : LZ => (Fr (fL [46]) σ8 x.1) ∧ (J9 (x.1 9)) ∧ ((-1 : Int) ≤ (x.2.1 0).toInt ∧ (x.2.1 0).toInt ≤ 15) ∧ ((x.2.1 0).toInt + 1 ≤ ((x.1 9).1 31).toInt) ∧ (DK0 (x.1 9)) ∧ (HK (x.1 9)) ∧ True) (fun x : LZ => ((x.2.1 0).toInt - (-2 : Int)).toNat) ?_ (σ8, lf [x14], lg []) ⟨Fr.rf, hJ11, (show (-1 : Int) ≤ (x14 : Int32).toInt ∧ (x14 : Int32).toInt ≤ 15 from (by have f0 := t15; have f1 := j9_31 hJ5 rfl; have g1 := rg32 x14; have z1 : (1 : Int32).toInt = 1 := (by decide); omega)), (show x14.toInt + 1 ≤ ((σ8 9).1 31).toInt from (by have f0 := j9_31 hJ11 rfl; have f1 := congrArg Int32.toInt (show ((σ8 9).1 31) = ((σ2 9).1 31) from (hF10 9 31 rfl).1); have f2 := t15; have f3 := j9_31 hJ5 rfl; have g2 := rg32 x14; have z1 : (1 : Int32).toInt = 1 := (by decide); omega)), (show DK0 (σ8 9) from T12), (show HK (σ8 9) from T13), trivial⟩ _ _ _ hP hS (lv_sub hl [0, 1, 2, 3] rfl)
  intro y18 hI17 nl16 H locs ls hP hS hl
  obtain ⟨σ19, eσ19⟩ : ∃ z, z = y18.1 := ⟨_, rfl⟩
  rw [← eσ19] at hP hI17
  have hF20 : Fr (fL [46]) σ8 σ19 := hI17.1
  have hJ21 : J9 (σ19 9) := hI17.2.1
  have b22 : (-1 : Int) ≤ (y18.2.1 0).toInt ∧ (y18.2.1 0).toInt ≤ 15 := hI17.2.2.1
  have b23 : (y18.2.1 0).toInt + 1 ≤ ((σ19 9).1 31).toInt := hI17.2.2.2.1
  have b24 : DK0 (σ19 9) := hI17.2.2.2.2.1
  have b25 : HK (σ19 9) := hI17.2.2.2.2.2.1
  have hl : lv_has ls 7 [(3, .int (y18.2.1 0)), (0, .ref (g 60)), (1, .int p1), (2, .int p2)] := hl
  refine lv_iload_n hx hb dX9_moves_17 rfl (lv_at hl 0 rfl) ?_
  refine lv_if_lt (tgt := 103) hx hb dX9_moves_18 (by decide) (fun c26 => ?_) (fun c26 => ?_)
  ·
    have k27 := plt32 c26
    refine lv_aload_n hx hb dX9_moves_103 rfl (lv_at hl 1 rfl) ?_
    refine g9_31 (x := ((σ2 9).1 31)) hx hb hts hown hK hP (((hF20 9 31 rfl).1).trans ((hF10 9 31 rfl).1)) (hts _ q1391) dX9_moves_104 ?_
    refine cut9 (D := D) (cy := cy) (g := g) (A := A9 cy g s.heap.size) (H0 := s.heap) 7 116 (fun x : LZ => [(3, .int (y18.2.1 0)), (0, .ref (g 60)), (1, .int p1), (2, .int p2)]) (fun x : LZ => [.int (x.2.1 0)]) (fun x : LZ => (x.1 = σ19) ∧ ((0 : Int) ≤ (x.2.1 0).toInt ∧ (x.2.1 0).toInt ≤ 1000000) ∧ ((((σ19 9).1 31).toInt = 0 ∧ (x.2.1 0).toInt = 0) ∨ (x.2.1 0).toInt = 1000000) ∧ (DK0 (σ19 9)) ∧ (HK (σ19 9)) ∧ True) ?_ ?_
    ·
      intro y30 hI29 H locs ls hP hS hl
      rw [show y30.1 = σ19 from hI29.1] at hP
      have b31 : (0 : Int) ≤ (y30.2.1 0).toInt ∧ (y30.2.1 0).toInt ≤ 1000000 := hI29.2.1
      have b32 : (((σ19 9).1 31).toInt = 0 ∧ (y30.2.1 0).toInt = 0) ∨ (y30.2.1 0).toInt = 1000000 := hI29.2.2.1
      have b33 : DK0 (σ19 9) := hI29.2.2.2.1
      have b34 : HK (σ19 9) := hI29.2.2.2.2.1
      have hl : lv_has ls 7 [(3, .int (y18.2.1 0)), (0, .ref (g 60)), (1, .int p1), (2, .int p2)] := hl
      refine W.eq (g2 := F0 m 116 ls [.int (y30.2.1 0)]) rfl ?_
      refine lv_istore_n (lv' := [(3, .int (y30.2.1 0)), (0, .ref (g 60)), (1, .int p1), (2, .int p2)]) hx hb dX9_moves_116 rfl hl (by decide) rfl (fun ls hl => ?_)
      refine lv_iconst (v := 0) hx hb dX9_moves_117 (by decide) ?_
      refine lv_istore (lv' := [(4, .int 0), (3, .int (y30.2.1 0)), (0, .ref (g 60)), (1, .int p1), (2, .int p2)]) hx hb dX9_moves_118 hl (by decide) rfl (fun ls hl => ?_)
      refine loop9 7 120 (fun x : LZ => [(4, .int (x.2.1 0)), (3, .int (x.2.1 1)), (0, .ref (g 60)), (1, .int p1), (2, .int p2)]) (fun x : LZ => (x.1 = σ19) ∧ ((0 : Int) ≤ (x.2.1 0).toInt ∧ (x.2.1 0).toInt ≤ 3) ∧ (LM (σ19 9) (x.2.1 1)) ∧ (DK0 (σ19 9)) ∧ (HK (σ19 9)) ∧ True) (fun x : LZ => ((4 : Int) - (x.2.1 0).toInt).toNat) ?_ (σ19, lf [0, (y30.2.1 0)], lg []) ⟨rfl, (show (0 : Int) ≤ (0 : Int32).toInt ∧ (0 : Int32).toInt ≤ 3 from (by have z0 : (0 : Int32).toInt = 0 := (by decide); omega)), (show LM (σ19 9) (y30.2.1 0) from (by unfold LM; rw [((hF20 9 31 rfl).1).trans ((hF10 9 31 rfl).1)]; by_cases hz : ((σ2 9).1 31).toInt = 0; exact Or.inl hz; exact Or.inr (Or.inl (by have f0 := j9_31 hJ5 rfl; have f1 := t15; have f2 := b31; have f3 := b32; have f4 := j9_31 hJ21 rfl; have f5 := congrArg Int32.toInt (show ((σ19 9).1 31) = ((σ2 9).1 31) from ((hF20 9 31 rfl).1).trans ((hF10 9 31 rfl).1)); have f6 := b23; have f7 := b22; have f8 := k27; have g2 := rg32 (y30.2.1 0); have z0 : (0 : Int32).toInt = 0 := (by decide); have z1 : (1 : Int32).toInt = 1 := (by decide); omega)))), (show DK0 (σ19 9) from b33), (show HK (σ19 9) from b34), trivial⟩ _ _ _ hP hS (lv_sub hl [0, 1, 2, 3, 4] rfl)
      intro y37 hI36 nl35 H locs ls hP hS hl
      rw [show y37.1 = σ19 from hI36.1] at hP
      have b38 : (0 : Int) ≤ (y37.2.1 0).toInt ∧ (y37.2.1 0).toInt ≤ 3 := hI36.2.1
      have b39 : LM (σ19 9) (y37.2.1 1) := hI36.2.2.1
      have b40 : DK0 (σ19 9) := hI36.2.2.2.1
      have b41 : HK (σ19 9) := hI36.2.2.2.2.1
      have hl : lv_has ls 7 [(4, .int (y37.2.1 0)), (3, .int (y37.2.1 1)), (0, .ref (g 60)), (1, .int p1), (2, .int p2)] := hl
      refine lv_aload_n hx hb dX9_moves_120 rfl (lv_at hl 2 rfl) ?_
      refine g9_31 (x := ((σ2 9).1 31)) hx hb hts hown hK hP (((hF20 9 31 rfl).1).trans ((hF10 9 31 rfl).1)) (hts _ q1391) dX9_moves_121 ?_
      refine cut9 (D := D) (cy := cy) (g := g) (A := A9 cy g s.heap.size) (H0 := s.heap) 7 195 (fun x : LZ => [(4, .int (y37.2.1 0)), (3, .int (y37.2.1 1)), (0, .ref (g 60)), (1, .int p1), (2, .int p2)]) (fun x : LZ => []) (fun x : LZ => (x.1 = σ19) ∧ (DK0 (σ19 9)) ∧ (HK (σ19 9)) ∧ True) ?_ ?_
      ·
        intro y44 hI43 H locs ls hP hS hl
        rw [show y44.1 = σ19 from hI43.1] at hP
        have b45 : DK0 (σ19 9) := hI43.2.1
        have b46 : HK (σ19 9) := hI43.2.2.1
        have hl : lv_has ls 7 [(4, .int (y37.2.1 0)), (3, .int (y37.2.1 1)), (0, .ref (g 60)), (1, .int p1), (2, .int p2)] := hl
        refine lv_iload_n hx hb dX9_moves_195 rfl (lv_at hl 1 rfl) ?_
        refine lv_ldc (v := 1000000) hx hb hown (hts _ q1604) dX9_moves_196 ?_
        refine lv_icmp_ne (tgt := 204) hx hb dX9_moves_198 (by decide) (fun c47 => ?_) (fun c47 => ?_)
        ·
          have k48 := neq32 c47
          obtain ⟨m0, v0, hm0, hq0⟩ := LM.get b39 (by have f0 := k48; have g0 := rg32 (y37.2.1 1); have z1000000 : (1000000 : Int32).toInt = 1000000 := (by decide); omega)
          rw [show ((σ19 9).1 31) = ((σ2 9).1 31) from ((hF20 9 31 rfl).1).trans ((hF10 9 31 rfl).1)] at hq0
          refine lv_iload_n hx hb dX9_moves_204 rfl (lv_at hl 1 rfl) ?_
          refine lv_istore (lv' := [(4, .int (y37.2.1 1)), (3, .int (y37.2.1 1)), (0, .ref (g 60)), (1, .int p1), (2, .int p2)]) hx hb dX9_moves_205 hl (by decide) rfl (fun ls hl => ?_)
          refine lv_iconst (v := 0) hx hb dX9_moves_207 (by decide) ?_
          refine lv_istore (lv' := [(5, .int 0), (4, .int (y37.2.1 1)), (3, .int (y37.2.1 1)), (0, .ref (g 60)), (1, .int p1), (2, .int p2)]) hx hb dX9_moves_208 hl (by decide) rfl (fun ls hl => ?_)
          refine loop9 7 210 (fun x : LZ => [(5, .int (x.2.1 0)), (4, .int (x.2.1 1)), (3, .int (y37.2.1 1)), (0, .ref (g 60)), (1, .int p1), (2, .int p2)]) (fun x : LZ => (Fr (fL [47, 48]) σ19 x.1) ∧ (J9 (x.1 9)) ∧ ((0 : Int) ≤ (x.2.1 0).toInt ∧ (x.2.1 0).toInt ≤ 16) ∧ (((x.2.1 0).toInt = 0 ∧ (x.2.1 1).toInt = (y37.2.1 1).toInt) ∨ (1 ≤ (x.2.1 0).toInt ∧ 0 ≤ ((x.1 9).2.2.1 48 0).toInt)) ∧ (DK0 (x.1 9)) ∧ (HK (x.1 9)) ∧ True) (fun x : LZ => ((17 : Int) - (x.2.1 0).toInt).toNat) ?_ (σ19, lf [0, (y37.2.1 1)], lg []) ⟨Fr.rf, hJ21, (show (0 : Int) ≤ (0 : Int32).toInt ∧ (0 : Int32).toInt ≤ 16 from (by have z0 : (0 : Int32).toInt = 0 := (by decide); omega)), (show ((0 : Int32).toInt = 0 ∧ (y37.2.1 1).toInt = (y37.2.1 1).toInt) ∨ (1 ≤ (0 : Int32).toInt ∧ 0 ≤ ((σ19 9).2.2.1 48 0).toInt) from (by have f0 := a9_48 hJ21 (j := 0) rfl; have f1 := congrArg Int32.toInt (show ((σ19 9).2.2.1 48 0) = ((σ 9).2.2.1 48 0) from congrFun (((hF20 9 48 rfl).2.2.1).trans (((hF10 9 48 rfl).2.2.1).trans ((hF4 9 48 rfl).2.2.1))) _); have f2 := k48; have f3 := a9_48 hJ (j := 0) rfl; have g2 := rg32 (y37.2.1 1); have z0 : (0 : Int32).toInt = 0 := (by decide); have z1000000 : (1000000 : Int32).toInt = 1000000 := (by decide); omega)), (show DK0 (σ19 9) from b45), (show HK (σ19 9) from b46), trivial⟩ _ _ _ hP hS (lv_sub hl [0, 1, 2, 3, 4, 5] rfl)
          intro y51 hI50 nl49 H locs ls hP hS hl
          obtain ⟨σ52, eσ52⟩ : ∃ z, z = y51.1 := ⟨_, rfl⟩
          rw [← eσ52] at hP hI50
          have hF53 : Fr (fL [47, 48]) σ19 σ52 := hI50.1
          have hJ54 : J9 (σ52 9) := hI50.2.1
          have b55 : (0 : Int) ≤ (y51.2.1 0).toInt ∧ (y51.2.1 0).toInt ≤ 16 := hI50.2.2.1
          have b56 : ((y51.2.1 0).toInt = 0 ∧ (y51.2.1 1).toInt = (y37.2.1 1).toInt) ∨ (1 ≤ (y51.2.1 0).toInt ∧ 0 ≤ ((σ52 9).2.2.1 48 0).toInt) := hI50.2.2.2.1
          have b57 : DK0 (σ52 9) := hI50.2.2.2.2.1
          have b58 : HK (σ52 9) := hI50.2.2.2.2.2.1
          have hl : lv_has ls 7 [(5, .int (y51.2.1 0)), (4, .int (y51.2.1 1)), (3, .int (y37.2.1 1)), (0, .ref (g 60)), (1, .int p1), (2, .int p2)] := hl
          refine lv_iload hx hb dX9_moves_210 (lv_at hl 0 rfl) ?_
          refine lv_aload_n hx hb dX9_moves_212 rfl (lv_at hl 3 rfl) ?_
          refine g9_31 (x := ((σ2 9).1 31)) hx hb hts hown hK hP (((hF53 9 31 rfl).1).trans (((hF20 9 31 rfl).1).trans ((hF10 9 31 rfl).1))) (hts _ q1391) dX9_moves_213 ?_
          refine lv_icmp_ge (tgt := 302) hx hb dX9_moves_216 (by decide) (fun c59 => ?_) (fun c59 => ?_)
          ·
            have k60 := ple32 c59
            refine lv_iload_n hx hb dX9_moves_302 rfl (lv_at hl 2 rfl) ?_
            exact W.iret (v := (y37.2.1 1)) hx hb hr (fun tS ht hW => ⟨⟨(y37.2.1 1), σ52, rfl, ⟨Fr.tr (Fr.tr (Fr.tr (Fr.tr (Fr.rf) hF4 (fL_sub rfl)) hF10 (fL_sub rfl)) hF20 (fL_sub rfl)) hF53 (fL_sub rfl), hJ54, trivial⟩, (show va_P D clz (WD9 cy g σ52) tS.heap by rw [ht]; exact hP)⟩, hS.F ht⟩) hS.2.2 dX9_moves_303
          ·
            have k61 := nle32 c59
            refine lv_aload_n hx hb dX9_moves_219 rfl (lv_at hl 3 rfl) ?_
            refine g9_48 hx hb hts hown hK hP (hts _ q1408) dX9_moves_220 ?_
            refine lv_iload hx hb dX9_moves_223 (lv_at hl 0 rfl) ?_
            refine lv_iconst (v := (-1)) hx hb dX9_moves_225 (by decide) ?_
            refine t9_48 hx hb hK hP hD hS (vpo (by have f0 := b55; have f1 := b56; have f2 := k61; have f3 := j9_31 hJ5 rfl; have f4 := a9_48 hJ54 (j := 0) rfl; have f5 := t15; have f6 := k48; have g1 := rg32 (y37.2.1 1); have g2 := rg32 (y51.2.1 0); have g3 := rg32 (y51.2.1 1); have z1 : (1 : Int32).toInt = 1 := (by decide); have z1000000 : (1000000 : Int32).toInt = 1000000 := (by decide); omega)) dX9_moves_226 (fun H locs σ62 eσ62 hP hS => ?_)
            have hJ63 : J9 (σ62 9) := hJ54.A eσ62 (show PA9 48 (y51.2.1 0).toInt.toNat ((-1) : Int32) from (by have f0 := b55; have f1 := b56; have f2 := k61; have f3 := j9_31 hJ5 rfl; have f4 := a9_48 hJ54 (j := 0) rfl; have f5 := t15; have f6 := k48; have g1 := rg32 (y37.2.1 1); have g2 := rg32 (y51.2.1 0); have g3 := rg32 (y51.2.1 1); have zm1 : ((-1) : Int32).toInt = (-1) := (by decide); have z1 : (1 : Int32).toInt = 1 := (by decide); have z1000000 : (1000000 : Int32).toInt = 1000000 := (by decide); exact ⟨by omega, by omega⟩))
            have T64 : DK0 (σ62 9) := DK0.mv b57 ((sA_f eσ62) 9 17 rfl).2.2.1 ((sA_f eσ62) 9 18 rfl).2.2.1 ((sA_f eσ62) 9 19 rfl).2.2.1
            have T65 : HK (σ62 9) := HK.mv b58 ((sA_f eσ62) 9 18 rfl).2.2.1 ((sA_f eσ62) 9 28 rfl).1
            have t66 := upk eσ62 0
            refine lv_iconst (v := 0) hx hb dX9_moves_227 (by decide) ?_
            refine lv_istore (lv' := [(6, .int 0), (5, .int (y51.2.1 0)), (4, .int (y51.2.1 1)), (3, .int (y37.2.1 1)), (0, .ref (g 60)), (1, .int p1), (2, .int p2)]) hx hb dX9_moves_228 hl (by decide) rfl (fun ls hl => ?_)
            refine loop9 7 230 (fun x : LZ => [(6, .int (x.2.1 0)), (5, .int (y51.2.1 0)), (4, .int (y51.2.1 1)), (3, .int (y37.2.1 1)), (0, .ref (g 60)), (1, .int p1), (2, .int p2)]) (fun x : LZ => (Fr (fL [47, 48]) σ62 x.1) ∧ (J9 (x.1 9)) ∧ ((0 : Int) ≤ (x.2.1 0).toInt ∧ (x.2.1 0).toInt ≤ 3) ∧ (0 ≤ ((x.1 9).2.2.1 48 0).toInt ∨ ((y51.2.1 0).toInt = 0 ∧ (x.2.1 0).toInt ≤ (m0 : Int) ∧ (y51.2.1 1).toInt = (y37.2.1 1).toInt)) ∧ (DK0 (x.1 9)) ∧ (HK (x.1 9)) ∧ True) (fun x : LZ => ((4 : Int) - (x.2.1 0).toInt).toNat) ?_ (σ62, lf [0], lg []) ⟨Fr.rf, hJ63, (show (0 : Int) ≤ (0 : Int32).toInt ∧ (0 : Int32).toInt ≤ 3 from (by have z0 : (0 : Int32).toInt = 0 := (by decide); omega)), (show 0 ≤ ((σ62 9).2.2.1 48 0).toInt ∨ ((y51.2.1 0).toInt = 0 ∧ (0 : Int32).toInt ≤ (m0 : Int) ∧ (y51.2.1 1).toInt = (y37.2.1 1).toInt) from (by have f0 := a9_48 hJ63 (j := 0) rfl; have f1 := k48; have f2 := hm0; have f3 := b55; have f4 := b56; have f5 := k61; have f6 := t66; have f7 := j9_31 hJ5 rfl; have f8 := a9_48 hJ54 (j := 0) rfl; have f9 := t15; have g2 := rg32 (y37.2.1 1); have g3 := rg32 (y51.2.1 0); have g4 := rg32 (y51.2.1 1); have zm1 : ((-1) : Int32).toInt = (-1) := (by decide); have z0 : (0 : Int32).toInt = 0 := (by decide); have z1 : (1 : Int32).toInt = 1 := (by decide); have z1000000 : (1000000 : Int32).toInt = 1000000 := (by decide); omega)), (show DK0 (σ62 9) from T64), (show HK (σ62 9) from T65), trivial⟩ _ _ _ hP hS (lv_sub hl [0, 1, 2, 3, 4, 5, 6] rfl)
            intro y69 hI68 nl67 H locs ls hP hS hl
            obtain ⟨σ70, eσ70⟩ : ∃ z, z = y69.1 := ⟨_, rfl⟩
            rw [← eσ70] at hP hI68
            have hF71 : Fr (fL [47, 48]) σ62 σ70 := hI68.1
            have hJ72 : J9 (σ70 9) := hI68.2.1
            have b73 : (0 : Int) ≤ (y69.2.1 0).toInt ∧ (y69.2.1 0).toInt ≤ 3 := hI68.2.2.1
            have b74 : 0 ≤ ((σ70 9).2.2.1 48 0).toInt ∨ ((y51.2.1 0).toInt = 0 ∧ (y69.2.1 0).toInt ≤ (m0 : Int) ∧ (y51.2.1 1).toInt = (y37.2.1 1).toInt) := hI68.2.2.2.1
            have b75 : DK0 (σ70 9) := hI68.2.2.2.2.1
            have b76 : HK (σ70 9) := hI68.2.2.2.2.2.1
            have hl : lv_has ls 7 [(6, .int (y69.2.1 0)), (5, .int (y51.2.1 0)), (4, .int (y51.2.1 1)), (3, .int (y37.2.1 1)), (0, .ref (g 60)), (1, .int p1), (2, .int p2)] := hl
            refine lv_iload hx hb dX9_moves_230 (lv_at hl 0 rfl) ?_
            refine lv_iconst (v := 3) hx hb dX9_moves_232 (by decide) ?_
            refine cut9 (D := D) (cy := cy) (g := g) (A := A9 cy g s.heap.size) (H0 := s.heap) 7 275 (fun x : LZ => [(6, .int (y69.2.1 0)), (5, .int (y51.2.1 0)), (4, .int (y51.2.1 1)), (3, .int (y37.2.1 1)), (0, .ref (g 60)), (1, .int p1), (2, .int p2)]) (fun x : LZ => []) (fun x : LZ => (x.1 = σ70) ∧ (0 ≤ ((σ70 9).2.2.1 48 0).toInt) ∧ (DK0 (σ70 9)) ∧ (HK (σ70 9)) ∧ True) ?_ ?_
            ·
              intro y79 hI78 H locs ls hP hS hl
              rw [show y79.1 = σ70 from hI78.1] at hP
              have b80 : 0 ≤ ((σ70 9).2.2.1 48 0).toInt := hI78.2.1
              have b81 : DK0 (σ70 9) := hI78.2.2.1
              have b82 : HK (σ70 9) := hI78.2.2.2.1
              have hl : lv_has ls 7 [(6, .int (y69.2.1 0)), (5, .int (y51.2.1 0)), (4, .int (y51.2.1 1)), (3, .int (y37.2.1 1)), (0, .ref (g 60)), (1, .int p1), (2, .int p2)] := hl
              refine lv_iload hx hb dX9_moves_275 (lv_at hl 2 rfl) ?_
              refine lv_aload_n hx hb dX9_moves_277 rfl (lv_at hl 4 rfl) ?_
              refine g9_48 hx hb hts hown hK hP (hts _ q1408) dX9_moves_278 ?_
              refine lv_iload hx hb dX9_moves_281 (lv_at hl 1 rfl) ?_
              obtain ⟨x83, ex83⟩ : ∃ z, (σ70 9).2.2.1 48 (y51.2.1 0).toInt.toNat = z := ⟨_, rfl⟩
              refine l9_48 (x := x83) hx hb hK hP (vpo (by have f0 := b55; have f1 := b56; have f2 := k61; have f3 := t66; have f4 := b74; have f5 := j9_31 hJ5 rfl; have f6 := a9_48 hJ54 (j := 0) rfl; have f7 := a9_48 hJ63 (j := 0) rfl; have f8 := a9_48 hJ72 (j := 0) rfl; have f9 := t15; have f10 := k48; have f11 := hm0; have f12 := b73; have f13 := b80; have g3 := rg32 (y37.2.1 1); have g4 := rg32 (y51.2.1 0); have g5 := rg32 (y51.2.1 1); have zm1 : ((-1) : Int32).toInt = (-1) := (by decide); have z1 : (1 : Int32).toInt = 1 := (by decide); have z1000000 : (1000000 : Int32).toInt = 1000000 := (by decide); omega)) ex83 dX9_moves_283 ?_
              have t84 := a9_48 hJ72 ex83
              have t85 := at0 (f := (σ70 9).2.2.1 48) ex83
              refine lv_iconst (v := 1) hx hb dX9_moves_284 (by decide) ?_
              refine cut9 (D := D) (cy := cy) (g := g) (A := A9 cy g s.heap.size) (H0 := s.heap) 7 293 (fun x : LZ => [(6, .int (y69.2.1 0)), (5, .int (y51.2.1 0)), (4, .int (y51.2.1 1)), (3, .int (y37.2.1 1)), (0, .ref (g 60)), (1, .int p1), (2, .int p2)]) (fun x : LZ => [.int (x.2.1 0), .int (y51.2.1 1)]) (fun x : LZ => (x.1 = σ70) ∧ ((0 : Int) ≤ (x.2.1 0).toInt ∧ (x.2.1 0).toInt ≤ 1) ∧ (DK0 (σ70 9)) ∧ (HK (σ70 9)) ∧ True) ?_ ?_
              ·
                intro y88 hI87 H locs ls hP hS hl
                rw [show y88.1 = σ70 from hI87.1] at hP
                have b89 : (0 : Int) ≤ (y88.2.1 0).toInt ∧ (y88.2.1 0).toInt ≤ 1 := hI87.2.1
                have b90 : DK0 (σ70 9) := hI87.2.2.1
                have b91 : HK (σ70 9) := hI87.2.2.2.1
                have hl : lv_has ls 7 [(6, .int (y69.2.1 0)), (5, .int (y51.2.1 0)), (4, .int (y51.2.1 1)), (3, .int (y37.2.1 1)), (0, .ref (g 60)), (1, .int p1), (2, .int p2)] := hl
                refine W.eq (g2 := F0 m 293 ls [.int (y88.2.1 0), .int (y51.2.1 1)]) rfl ?_
                refine lv_isub hx hb dX9_moves_293 ?_
                refine lv_topi (fun x92 ex92 => ?_)
                refine lv_istore (lv' := [(4, .int x92), (6, .int (y69.2.1 0)), (5, .int (y51.2.1 0)), (3, .int (y37.2.1 1)), (0, .ref (g 60)), (1, .int p1), (2, .int p2)]) hx hb dX9_moves_294 hl (by decide) rfl (fun ls hl => ?_)
                obtain ⟨x93, ex93⟩ : ∃ y : Int32, y = (y51.2.1 0) + 1 := ⟨_, rfl⟩
                have t94 := addO ex93 (by have f0 := b55; have f1 := b56; have f2 := k61; have f3 := t66; have f4 := b74; have f5 := t84; have f6 := t85; have f7 := j9_31 hJ5 rfl; have f8 := a9_48 hJ54 (j := 0) rfl; have f9 := a9_48 hJ63 (j := 0) rfl; have f10 := a9_48 hJ72 (j := 0) rfl; have f11 := t15; have f12 := k48; have f13 := hm0; have f14 := b73; have f15 := b80; have g3 := rg32 (y37.2.1 1); have g4 := rg32 (y51.2.1 0); have g5 := rg32 (y51.2.1 1); have zm1 : ((-1) : Int32).toInt = (-1) := (by decide); have z1 : (1 : Int32).toInt = 1 := (by decide); have z1000000 : (1000000 : Int32).toInt = 1000000 := (by decide); omega)
                refine lv_iinc (v := x93) (lv' := [(5, .int x93), (4, .int x92), (6, .int (y69.2.1 0)), (3, .int (y37.2.1 1)), (0, .ref (g 60)), (1, .int p1), (2, .int p2)]) hx hb dX9_moves_296 hl (k := 2) rfl (by rw [ex93]; rfl) (by decide) rfl (fun ls hl => ?_)
                refine lv_goto (tgt := 210) hx hb dX9_moves_299 (by decide) ?_
                have t95 : ((17 : Int) - x93.toInt).toNat < ((17 : Int) - (y51.2.1 0).toInt).toNat := (by have f0 := b55; have f1 := b56; have f2 := k61; have f3 := t66; have f4 := b74; have f5 := t84; have f6 := t85; have f7 := t94; have f8 := j9_31 hJ5 rfl; have f9 := a9_48 hJ54 (j := 0) rfl; have f10 := a9_48 hJ63 (j := 0) rfl; have f11 := a9_48 hJ72 (j := 0) rfl; have f12 := t15; have f13 := k48; have f14 := hm0; have f15 := b73; have f16 := b80; have g3 := rg32 (y37.2.1 1); have g4 := rg32 (y51.2.1 0); have g5 := rg32 (y51.2.1 1); have g7 := rg32 x93; have zm1 : ((-1) : Int32).toInt = (-1) := (by decide); have z1 : (1 : Int32).toInt = 1 := (by decide); have z1000000 : (1000000 : Int32).toInt = 1000000 := (by decide); omega)
                exact nl49 (σ70, lf [x93, x92], lg []) ⟨Fr.tr (Fr.tr (Fr.tr (Fr.rf) hF53 (fL_sub rfl)) (sA_f eσ62) (fN_L rfl)) hF71 (fL_sub rfl), hJ72, (show (0 : Int) ≤ (x93 : Int32).toInt ∧ (x93 : Int32).toInt ≤ 16 from (by have f0 := t94; have f1 := b55; have f2 := b56; have f3 := k61; have f4 := t66; have f5 := b74; have f6 := t84; have f7 := t85; have f8 := j9_31 hJ5 rfl; have f9 := a9_48 hJ54 (j := 0) rfl; have f10 := a9_48 hJ63 (j := 0) rfl; have f11 := a9_48 hJ72 (j := 0) rfl; have f12 := t15; have f13 := k48; have f14 := hm0; have f15 := b73; have f16 := b80; have g3 := rg32 (y37.2.1 1); have g4 := rg32 (y51.2.1 1); have g6 := rg32 x93; have zm1 : ((-1) : Int32).toInt = (-1) := (by decide); have z1 : (1 : Int32).toInt = 1 := (by decide); have z1000000 : (1000000 : Int32).toInt = 1000000 := (by decide); omega)), (show (x93.toInt = 0 ∧ x92.toInt = (y37.2.1 1).toInt) ∨ (1 ≤ x93.toInt ∧ 0 ≤ ((σ70 9).2.2.1 48 0).toInt) from (by have f0 := a9_48 hJ72 (j := 0) rfl; have f1 := k48; have f2 := b56; have f3 := b74; have f4 := b80; have f5 := t85; have f6 := t94; have f7 := a9_48 hJ54 (j := 0) rfl; have f8 := hm0; have f9 := b55; have f10 := k61; have f11 := t66; have f12 := b73; have f13 := t84; have f14 := j9_31 hJ5 rfl; have f15 := a9_48 hJ63 (j := 0) rfl; have f16 := t15; have g3 := rg32 (y37.2.1 1); have g4 := rg32 (y51.2.1 1); have g6 := rg32 x92; have g7 := rg32 x93; have zm1 : ((-1) : Int32).toInt = (-1) := (by decide); have z1 : (1 : Int32).toInt = 1 := (by decide); have z1000000 : (1000000 : Int32).toInt = 1000000 := (by decide); omega)), (show DK0 (σ70 9) from b90), (show HK (σ70 9) from b91), trivial⟩ (show ((17 : Int) - x93.toInt).toNat < _ from by first | exact t95 | (rw [← eσ52]; exact t95)) _ _ _ hP hS (lv_sub hl [0, 1, 3, 4, 5, 6] rfl)
              ·
                intro nj86
                refine lv_icmp_ne (tgt := 292) hx hb dX9_moves_285 (by decide) (fun c96 => ?_) (fun c96 => ?_)
                ·
                  have k97 := neq32 c96
                  refine lv_iconst (v := 1) hx hb dX9_moves_292 (by decide) ?_
                  exact nj86 (σ70, lf [1], lg []) ⟨rfl, (show (0 : Int) ≤ (1 : Int32).toInt ∧ (1 : Int32).toInt ≤ 1 from (by have z1 : (1 : Int32).toInt = 1 := (by decide); omega)), (show DK0 (σ70 9) from b81), (show HK (σ70 9) from b82), trivial⟩ _ _ _ hP hS (lv_sub hl [0, 1, 2, 3, 4, 5, 6] rfl)
                ·
                  have k98 := peq32 c96
                  refine lv_iconst (v := 0) hx hb dX9_moves_288 (by decide) ?_
                  refine lv_goto (tgt := 293) hx hb dX9_moves_289 (by decide) ?_
                  exact nj86 (σ70, lf [0], lg []) ⟨rfl, (show (0 : Int) ≤ (0 : Int32).toInt ∧ (0 : Int32).toInt ≤ 1 from (by have z0 : (0 : Int32).toInt = 0 := (by decide); omega)), (show DK0 (σ70 9) from b81), (show HK (σ70 9) from b82), trivial⟩ _ _ _ hP hS (lv_sub hl [0, 1, 2, 3, 4, 5, 6] rfl)
            ·
              intro nj77
              refine lv_icmp_ge (tgt := 275) hx hb dX9_moves_233 (by decide) (fun c99 => ?_) (fun c99 => ?_)
              ·
                have k100 := ple32 c99
                exact nj77 (σ70, lf [], lg []) ⟨rfl, (show 0 ≤ ((σ70 9).2.2.1 48 0).toInt from (by have f0 := a9_48 hJ72 (j := 0) rfl; have f1 := b74; have f2 := k48; have f3 := hm0; have f4 := b55; have f5 := b56; have f6 := k61; have f7 := t66; have f8 := b73; have f9 := k100; have f10 := j9_31 hJ5 rfl; have f11 := a9_48 hJ54 (j := 0) rfl; have f12 := a9_48 hJ63 (j := 0) rfl; have f13 := t15; have g3 := rg32 (y37.2.1 1); have g4 := rg32 (y51.2.1 1); have zm1 : ((-1) : Int32).toInt = (-1) := (by decide); have z1 : (1 : Int32).toInt = 1 := (by decide); have z3 : (3 : Int32).toInt = 3 := (by decide); have z1000000 : (1000000 : Int32).toInt = 1000000 := (by decide); omega)), (show DK0 (σ70 9) from b75), (show HK (σ70 9) from b76), trivial⟩ _ _ _ hP hS (lv_sub hl [0, 1, 2, 3, 4, 5, 6] rfl)
              ·
                have k101 := nle32 c99
                refine lv_aload_n hx hb dX9_moves_236 rfl (lv_at hl 4 rfl) ?_
                refine g9_48 hx hb hts hown hK hP (hts _ q1408) dX9_moves_237 ?_
                refine lv_iload hx hb dX9_moves_240 (lv_at hl 1 rfl) ?_
                obtain ⟨x102, ex102⟩ : ∃ z, (σ70 9).2.2.1 48 (y51.2.1 0).toInt.toNat = z := ⟨_, rfl⟩
                refine l9_48 (x := x102) hx hb hK hP (vpo (by have f0 := b55; have f1 := b56; have f2 := k61; have f3 := t66; have f4 := b74; have f5 := j9_31 hJ5 rfl; have f6 := a9_48 hJ54 (j := 0) rfl; have f7 := a9_48 hJ63 (j := 0) rfl; have f8 := a9_48 hJ72 (j := 0) rfl; have f9 := t15; have f10 := k48; have f11 := hm0; have f12 := b73; have f13 := k101; have g3 := rg32 (y37.2.1 1); have g4 := rg32 (y51.2.1 0); have g5 := rg32 (y51.2.1 1); have zm1 : ((-1) : Int32).toInt = (-1) := (by decide); have z1 : (1 : Int32).toInt = 1 := (by decide); have z3 : (3 : Int32).toInt = 3 := (by decide); have z1000000 : (1000000 : Int32).toInt = 1000000 := (by decide); omega)) ex102 dX9_moves_242 ?_
                have t103 := a9_48 hJ72 ex102
                have t104 := at0 (f := (σ70 9).2.2.1 48) ex102
                refine lv_iconst (v := (-1)) hx hb dX9_moves_243 (by decide) ?_
                refine lv_icmp_ne (tgt := 275) hx hb dX9_moves_244 (by decide) (fun c105 => ?_) (fun c105 => ?_)
                ·
                  have k106 := neq32 c105
                  exact nj77 (σ70, lf [], lg []) ⟨rfl, (show 0 ≤ ((σ70 9).2.2.1 48 0).toInt from (by have f0 := a9_48 hJ72 (j := 0) rfl; have f1 := b74; have f2 := t104; have f3 := k48; have f4 := hm0; have f5 := b55; have f6 := b56; have f7 := k61; have f8 := t66; have f9 := b73; have f10 := k101; have f11 := t103; have f12 := k106; have f13 := j9_31 hJ5 rfl; have f14 := a9_48 hJ54 (j := 0) rfl; have f15 := a9_48 hJ63 (j := 0) rfl; have f16 := t15; have g3 := rg32 (y37.2.1 1); have g4 := rg32 (y51.2.1 1); have zm1 : ((-1) : Int32).toInt = (-1) := (by decide); have z1 : (1 : Int32).toInt = 1 := (by decide); have z3 : (3 : Int32).toInt = 3 := (by decide); have z1000000 : (1000000 : Int32).toInt = 1000000 := (by decide); omega)), (show DK0 (σ70 9) from b75), (show HK (σ70 9) from b76), trivial⟩ _ _ _ hP hS (lv_sub hl [0, 1, 2, 3, 4, 5, 6] rfl)
                ·
                  have k107 := peq32 c105
                  refine lv_aload_n hx hb dX9_moves_247 rfl (lv_at hl 4 rfl) ?_
                  refine lv_iload hx hb dX9_moves_248 (lv_at hl 1 rfl) ?_
                  refine lv_iload hx hb dX9_moves_250 (lv_at hl 0 rfl) ?_
                  refine lv_iload hx hb dX9_moves_252 (lv_at hl 2 rfl) ?_
                  refine va_calli (va_runV (As := [.int (y51.2.1 0), .int (y69.2.1 0), .int (y51.2.1 1)]) (rest := []) ⟨hx, hb, hml, hown, hts⟩ (m_X9_comesBy l D cy g σ70 (y51.2.1 0) (y69.2.1 0) (y51.2.1 1) _ hJ72 (show (0 : Int) ≤ (y51.2.1 0).toInt ∧ (y51.2.1 0).toInt ≤ 15 from (by have f0 := b55; have f1 := b56; have f2 := k61; have f3 := t66; have f4 := b74; have f5 := t103; have f6 := t104; have f7 := j9_31 hJ5 rfl; have f8 := a9_48 hJ54 (j := 0) rfl; have f9 := a9_48 hJ63 (j := 0) rfl; have f10 := a9_48 hJ72 (j := 0) rfl; have f11 := t15; have f12 := k48; have f13 := hm0; have f14 := b73; have f15 := k101; have f16 := k107; have g3 := rg32 (y37.2.1 1); have g4 := rg32 (y51.2.1 0); have g5 := rg32 (y51.2.1 1); have zm1 : ((-1) : Int32).toInt = (-1) := (by decide); have z1 : (1 : Int32).toInt = 1 := (by decide); have z3 : (3 : Int32).toInt = 3 := (by decide); have z1000000 : (1000000 : Int32).toInt = 1000000 := (by decide); omega)) (show (0 : Int) ≤ (y69.2.1 0).toInt ∧ (y69.2.1 0).toInt ≤ 2 from (by have f0 := b55; have f1 := b56; have f2 := k61; have f3 := t66; have f4 := b73; have f5 := b74; have f6 := k101; have f7 := t103; have f8 := t104; have f9 := j9_31 hJ5 rfl; have f10 := a9_48 hJ54 (j := 0) rfl; have f11 := a9_48 hJ63 (j := 0) rfl; have f12 := a9_48 hJ72 (j := 0) rfl; have f13 := t15; have f14 := k48; have f15 := hm0; have f16 := k107; have g3 := rg32 (y37.2.1 1); have g4 := rg32 (y51.2.1 0); have g5 := rg32 (y51.2.1 1); have g6 := rg32 (y69.2.1 0); have zm1 : ((-1) : Int32).toInt = (-1) := (by decide); have z1 : (1 : Int32).toInt = 1 := (by decide); have z3 : (3 : Int32).toInt = 3 := (by decide); have z1000000 : (1000000 : Int32).toInt = 1000000 := (by decide); omega)) (show (y51.2.1 0).toInt = 0 ∨ 2 ≤ (y51.2.1 0).toInt ∨ 0 ≤ ((σ70 9).2.2.1 48 0).toInt from (by have f0 := a9_48 hJ72 (j := 0) rfl; have f1 := b55; have f2 := b56; have f3 := k61; have f4 := t66; have f5 := b74; have f6 := t103; have f7 := t104; have f8 := j9_31 hJ5 rfl; have f9 := a9_48 hJ54 (j := 0) rfl; have f10 := a9_48 hJ63 (j := 0) rfl; have f11 := t15; have f12 := k48; have f13 := hm0; have f14 := b73; have f15 := k101; have f16 := k107; have g3 := rg32 (y37.2.1 1); have g4 := rg32 (y51.2.1 0); have g5 := rg32 (y51.2.1 1); have zm1 : ((-1) : Int32).toInt = (-1) := (by decide); have z1 : (1 : Int32).toInt = 1 := (by decide); have z3 : (3 : Int32).toInt = 3 := (by decide); have z1000000 : (1000000 : Int32).toInt = 1000000 := (by decide); omega))) (cwV 3 hts (gd_V q1932 q1934 q105 q134 q1935) rfl rfl rfl (by decide +kernel) ⟨Nat.le_of_ble_eq_true rfl, Nat.le_of_ble_eq_true rfl⟩) (pv9 hP hK hD hC hS (va_recv hK hP (ci := 9) (q0 := 0) rfl rfl)) rfl rfl hl.1 rfl (lv_room (Nat.le_of_ble_eq_true rfl)) dX9_moves_254 ⟨Nat.le_of_ble_eq_true rfl, Nat.le_of_ble_eq_true rfl⟩) hS (fun q _ h => up9 hS q h) (up9 hS) (fun r108 σ109 tS H1 locs ht hvm hw110 hB hz1 hk1 hS => ?_)
                  have hP : va_P D clz (WD9 cy g σ109) H1 := by rw [← ht]; exact hB
                  clear hB hz1 hk1 hvm ht
                  generalize H1 = H at hP hS ⊢
                  have hF111 : Fr (fL [47]) σ70 σ109 := hw110.1
                  have hJ112 : J9 (σ109 9) := hw110.2.1
                  have b113 : (0 : Int) ≤ r108.toInt ∧ r108.toInt ≤ 1 := hw110.2.2.1
                  have b114 : CBP (σ70 9) (y51.2.1 0) (y69.2.1 0).toInt.toNat (y51.2.1 1) r108 := hw110.2.2.2.1
                  have T115 : DK0 (σ109 9) := DK0.mv b75 (hF111 9 17 rfl).2.2.1 (hF111 9 18 rfl).2.2.1 (hF111 9 19 rfl).2.2.1
                  have T116 : HK (σ109 9) := HK.mv b76 (hF111 9 18 rfl).2.2.1 (hF111 9 28 rfl).1
                  refine lv_if_eq (tgt := 269) hx hb dX9_moves_257 (by decide) (fun c117 => ?_) (fun c117 => ?_)
                  ·
                    have k118 := peq32 c117
                    have t119 := CBP.not (m0 := m0) (v0 := v0) b114 (by have f0 := b113; have f1 := k118; have g0 := rg32 r108; have z0 : (0 : Int32).toInt = 0 := (by decide); omega) (((hF71 9 43 rfl).2.2.1).trans ((((sA_f eσ62) 9 43 rfl).2.2.1).trans ((hF53 9 43 rfl).2.2.1))) (((hF71 9 46 rfl).2.2.1).trans ((((sA_f eσ62) 9 46 rfl).2.2.1).trans ((hF53 9 46 rfl).2.2.1))) (hq0.resolve_left (by have f0 := j9_31 hJ5 rfl; have f1 := t15; have f2 := b55; have f3 := b56; have f4 := k61; have f5 := t66; have f6 := b74; have f7 := t103; have f8 := t104; have f9 := a9_48 hJ54 (j := 0) rfl; have f10 := a9_48 hJ63 (j := 0) rfl; have f11 := a9_48 hJ72 (j := 0) rfl; have f12 := k48; have f13 := hm0; have f14 := b73; have f15 := k101; have f16 := k107; have g4 := rg32 (y37.2.1 1); have g5 := rg32 (y51.2.1 0); have g6 := rg32 (y51.2.1 1); have zm1 : ((-1) : Int32).toInt = (-1) := (by decide); have z1 : (1 : Int32).toInt = 1 := (by decide); have z3 : (3 : Int32).toInt = 3 := (by decide); have z1000000 : (1000000 : Int32).toInt = 1000000 := (by decide); omega))
                    obtain ⟨x120, ex120⟩ : ∃ y : Int32, y = (y69.2.1 0) + 1 := ⟨_, rfl⟩
                    have t121 := addO ex120 (by have f0 := b73; have f1 := b74; have f2 := k101; have f3 := t119; have f4 := a9_48 hJ72 (j := 0) rfl; have f5 := k48; have f6 := hm0; have f7 := b55; have f8 := b56; have f9 := k61; have f10 := t66; have f11 := t103; have f12 := t104; have f13 := j9_31 hJ5 rfl; have f14 := a9_48 hJ54 (j := 0) rfl; have f15 := a9_48 hJ63 (j := 0) rfl; have f16 := t15; have f17 := k107; have g3 := rg32 (y37.2.1 1); have g4 := rg32 (y51.2.1 1); have g5 := rg32 (y69.2.1 0); have zm1 : ((-1) : Int32).toInt = (-1) := (by decide); have z1 : (1 : Int32).toInt = 1 := (by decide); have z3 : (3 : Int32).toInt = 3 := (by decide); have z1000000 : (1000000 : Int32).toInt = 1000000 := (by decide); omega)
                    refine lv_iinc (v := x120) (lv' := [(6, .int x120), (5, .int (y51.2.1 0)), (4, .int (y51.2.1 1)), (3, .int (y37.2.1 1)), (0, .ref (g 60)), (1, .int p1), (2, .int p2)]) hx hb dX9_moves_269 hl (k := 0) rfl (by rw [ex120]; rfl) (by decide) rfl (fun ls hl => ?_)
                    refine lv_goto (tgt := 230) hx hb dX9_moves_272 (by decide) ?_
                    have t122 : ((4 : Int) - x120.toInt).toNat < ((4 : Int) - (y69.2.1 0).toInt).toNat := (by have f0 := b73; have f1 := b74; have f2 := k101; have f3 := t119; have f4 := t121; have f5 := a9_48 hJ72 (j := 0) rfl; have f6 := k48; have f7 := hm0; have f8 := b55; have f9 := b56; have f10 := k61; have f11 := t66; have f12 := t103; have f13 := t104; have f14 := j9_31 hJ5 rfl; have f15 := a9_48 hJ54 (j := 0) rfl; have f16 := a9_48 hJ63 (j := 0) rfl; have f17 := t15; have f18 := k107; have g3 := rg32 (y37.2.1 1); have g4 := rg32 (y51.2.1 1); have g5 := rg32 (y69.2.1 0); have g7 := rg32 x120; have zm1 : ((-1) : Int32).toInt = (-1) := (by decide); have z1 : (1 : Int32).toInt = 1 := (by decide); have z3 : (3 : Int32).toInt = 3 := (by decide); have z1000000 : (1000000 : Int32).toInt = 1000000 := (by decide); omega)
                    exact nl67 (σ109, lf [x120], lg []) ⟨Fr.tr (Fr.tr (Fr.rf) hF71 (fL_sub rfl)) hF111 (fL_sub rfl), hJ112, (show (0 : Int) ≤ (x120 : Int32).toInt ∧ (x120 : Int32).toInt ≤ 3 from (by have f0 := t121; have f1 := b73; have f2 := b74; have f3 := k101; have f4 := t119; have f5 := a9_48 hJ72 (j := 0) rfl; have f6 := k48; have f7 := hm0; have f8 := b55; have f9 := b56; have f10 := k61; have f11 := t66; have f12 := t103; have f13 := t104; have f14 := j9_31 hJ5 rfl; have f15 := a9_48 hJ54 (j := 0) rfl; have f16 := a9_48 hJ63 (j := 0) rfl; have f17 := t15; have f18 := k107; have g3 := rg32 (y37.2.1 1); have g4 := rg32 (y51.2.1 1); have g6 := rg32 x120; have zm1 : ((-1) : Int32).toInt = (-1) := (by decide); have z1 : (1 : Int32).toInt = 1 := (by decide); have z3 : (3 : Int32).toInt = 3 := (by decide); have z1000000 : (1000000 : Int32).toInt = 1000000 := (by decide); omega)), (show 0 ≤ ((σ109 9).2.2.1 48 0).toInt ∨ ((y51.2.1 0).toInt = 0 ∧ x120.toInt ≤ (m0 : Int) ∧ (y51.2.1 1).toInt = (y37.2.1 1).toInt) from (by have f0 := a9_48 hJ112 (j := 0) rfl; have f1 := congrArg Int32.toInt (show ((σ109 9).2.2.1 48 0) = ((σ70 9).2.2.1 48 0) from congrFun ((hF111 9 48 rfl).2.2.1) _); have f2 := k48; have f3 := hm0; have f4 := b55; have f5 := b56; have f6 := k61; have f7 := t66; have f8 := b74; have f9 := t103; have f10 := t104; have f11 := t119; have f12 := t121; have f13 := j9_31 hJ5 rfl; have f14 := a9_48 hJ54 (j := 0) rfl; have f15 := a9_48 hJ72 (j := 0) rfl; have f16 := a9_48 hJ63 (j := 0) rfl; have f17 := t15; have f18 := b73; have f19 := k101; have f20 := k107; have g4 := rg32 (y37.2.1 1); have g5 := rg32 (y51.2.1 0); have g6 := rg32 (y51.2.1 1); have g8 := rg32 x120; have zm1 : ((-1) : Int32).toInt = (-1) := (by decide); have z1 : (1 : Int32).toInt = 1 := (by decide); have z3 : (3 : Int32).toInt = 3 := (by decide); have z1000000 : (1000000 : Int32).toInt = 1000000 := (by decide); omega)), (show DK0 (σ109 9) from T115), (show HK (σ109 9) from T116), trivial⟩ (show ((4 : Int) - x120.toInt).toNat < _ from by first | exact t122 | (rw [← eσ70]; exact t122)) _ _ _ hP hS (lv_sub hl [0, 1, 2, 3, 4, 5, 6] rfl)
                  ·
                    have k123 := neq32 c117
                    refine lv_aload_n hx hb dX9_moves_260 rfl (lv_at hl 4 rfl) ?_
                    refine g9_48 hx hb hts hown hK hP (hts _ q1408) dX9_moves_261 ?_
                    refine lv_iload hx hb dX9_moves_264 (lv_at hl 1 rfl) ?_
                    refine lv_iload hx hb dX9_moves_266 (lv_at hl 0 rfl) ?_
                    refine t9_48 hx hb hK hP hD hS (vpo (by have f0 := b55; have f1 := b56; have f2 := k61; have f3 := t66; have f4 := b74; have f5 := t103; have f6 := t104; have f7 := j9_31 hJ5 rfl; have f8 := a9_48 hJ54 (j := 0) rfl; have f9 := a9_48 hJ63 (j := 0) rfl; have f10 := a9_48 hJ72 (j := 0) rfl; have f11 := t15; have f12 := k48; have f13 := hm0; have f14 := b73; have f15 := k101; have f16 := k107; have g3 := rg32 (y37.2.1 1); have g4 := rg32 (y51.2.1 0); have g5 := rg32 (y51.2.1 1); have zm1 : ((-1) : Int32).toInt = (-1) := (by decide); have z1 : (1 : Int32).toInt = 1 := (by decide); have z3 : (3 : Int32).toInt = 3 := (by decide); have z1000000 : (1000000 : Int32).toInt = 1000000 := (by decide); omega)) dX9_moves_268 (fun H locs σ124 eσ124 hP hS => ?_)
                    have hJ125 : J9 (σ124 9) := hJ112.A eσ124 (show PA9 48 (y51.2.1 0).toInt.toNat (y69.2.1 0) from (by have f0 := b55; have f1 := b56; have f2 := k61; have f3 := t66; have f4 := b73; have f5 := b74; have f6 := k101; have f7 := t103; have f8 := t104; have f9 := j9_31 hJ5 rfl; have f10 := a9_48 hJ54 (j := 0) rfl; have f11 := a9_48 hJ63 (j := 0) rfl; have f12 := a9_48 hJ72 (j := 0) rfl; have f13 := t15; have f14 := k48; have f15 := hm0; have f16 := k107; have g3 := rg32 (y37.2.1 1); have g4 := rg32 (y51.2.1 0); have g5 := rg32 (y51.2.1 1); have g6 := rg32 (y69.2.1 0); have zm1 : ((-1) : Int32).toInt = (-1) := (by decide); have z1 : (1 : Int32).toInt = 1 := (by decide); have z3 : (3 : Int32).toInt = 3 := (by decide); have z1000000 : (1000000 : Int32).toInt = 1000000 := (by decide); exact ⟨by omega, by omega⟩))
                    have T126 : DK0 (σ124 9) := DK0.mv T115 ((sA_f eσ124) 9 17 rfl).2.2.1 ((sA_f eσ124) 9 18 rfl).2.2.1 ((sA_f eσ124) 9 19 rfl).2.2.1
                    have T127 : HK (σ124 9) := HK.mv T116 ((sA_f eσ124) 9 18 rfl).2.2.1 ((sA_f eσ124) 9 28 rfl).1
                    have t128 := upk eσ124 0
                    obtain ⟨x129, ex129⟩ : ∃ y : Int32, y = (y69.2.1 0) + 1 := ⟨_, rfl⟩
                    have t130 := addO ex129 (by have f0 := b73; have f1 := b74; have f2 := k101; have f3 := t128; have f4 := a9_48 hJ125 (j := 0) rfl; have f5 := a9_48 hJ72 (j := 0) rfl; have f6 := a9_48 hJ112 (j := 0) rfl; have f7 := congrArg Int32.toInt (show ((σ109 9).2.2.1 48 0) = ((σ70 9).2.2.1 48 0) from congrFun ((hF111 9 48 rfl).2.2.1) _); have f8 := k48; have f9 := hm0; have f10 := b55; have f11 := b56; have f12 := k61; have f13 := t66; have f14 := t103; have f15 := t104; have f16 := j9_31 hJ5 rfl; have f17 := a9_48 hJ54 (j := 0) rfl; have f18 := a9_48 hJ63 (j := 0) rfl; have f19 := t15; have f20 := k107; have g5 := rg32 (y37.2.1 1); have g6 := rg32 (y51.2.1 1); have g7 := rg32 (y69.2.1 0); have zm1 : ((-1) : Int32).toInt = (-1) := (by decide); have z1 : (1 : Int32).toInt = 1 := (by decide); have z3 : (3 : Int32).toInt = 3 := (by decide); have z1000000 : (1000000 : Int32).toInt = 1000000 := (by decide); omega)
                    refine lv_iinc (v := x129) (lv' := [(6, .int x129), (5, .int (y51.2.1 0)), (4, .int (y51.2.1 1)), (3, .int (y37.2.1 1)), (0, .ref (g 60)), (1, .int p1), (2, .int p2)]) hx hb dX9_moves_269 hl (k := 0) rfl (by rw [ex129]; rfl) (by decide) rfl (fun ls hl => ?_)
                    refine lv_goto (tgt := 230) hx hb dX9_moves_272 (by decide) ?_
                    have t131 : ((4 : Int) - x129.toInt).toNat < ((4 : Int) - (y69.2.1 0).toInt).toNat := (by have f0 := b73; have f1 := b74; have f2 := k101; have f3 := t128; have f4 := t130; have f5 := a9_48 hJ125 (j := 0) rfl; have f6 := a9_48 hJ72 (j := 0) rfl; have f7 := a9_48 hJ112 (j := 0) rfl; have f8 := congrArg Int32.toInt (show ((σ109 9).2.2.1 48 0) = ((σ70 9).2.2.1 48 0) from congrFun ((hF111 9 48 rfl).2.2.1) _); have f9 := k48; have f10 := hm0; have f11 := b55; have f12 := b56; have f13 := k61; have f14 := t66; have f15 := t103; have f16 := t104; have f17 := j9_31 hJ5 rfl; have f18 := a9_48 hJ54 (j := 0) rfl; have f19 := a9_48 hJ63 (j := 0) rfl; have f20 := t15; have f21 := k107; have g5 := rg32 (y37.2.1 1); have g6 := rg32 (y51.2.1 1); have g7 := rg32 (y69.2.1 0); have g9 := rg32 x129; have zm1 : ((-1) : Int32).toInt = (-1) := (by decide); have z1 : (1 : Int32).toInt = 1 := (by decide); have z3 : (3 : Int32).toInt = 3 := (by decide); have z1000000 : (1000000 : Int32).toInt = 1000000 := (by decide); omega)
                    exact nl67 (σ124, lf [x129], lg []) ⟨Fr.tr (Fr.tr (Fr.tr (Fr.rf) hF71 (fL_sub rfl)) hF111 (fL_sub rfl)) (sA_f eσ124) (fN_L rfl), hJ125, (show (0 : Int) ≤ (x129 : Int32).toInt ∧ (x129 : Int32).toInt ≤ 3 from (by have f0 := t130; have f1 := b73; have f2 := b74; have f3 := k101; have f4 := t128; have f5 := a9_48 hJ125 (j := 0) rfl; have f6 := a9_48 hJ72 (j := 0) rfl; have f7 := a9_48 hJ112 (j := 0) rfl; have f8 := congrArg Int32.toInt (show ((σ109 9).2.2.1 48 0) = ((σ70 9).2.2.1 48 0) from congrFun ((hF111 9 48 rfl).2.2.1) _); have f9 := k48; have f10 := hm0; have f11 := b55; have f12 := b56; have f13 := k61; have f14 := t66; have f15 := t103; have f16 := t104; have f17 := j9_31 hJ5 rfl; have f18 := a9_48 hJ54 (j := 0) rfl; have f19 := a9_48 hJ63 (j := 0) rfl; have f20 := t15; have f21 := k107; have g5 := rg32 (y37.2.1 1); have g6 := rg32 (y51.2.1 1); have g8 := rg32 x129; have zm1 : ((-1) : Int32).toInt = (-1) := (by decide); have z1 : (1 : Int32).toInt = 1 := (by decide); have z3 : (3 : Int32).toInt = 3 := (by decide); have z1000000 : (1000000 : Int32).toInt = 1000000 := (by decide); omega)), (show 0 ≤ ((σ124 9).2.2.1 48 0).toInt ∨ ((y51.2.1 0).toInt = 0 ∧ x129.toInt ≤ (m0 : Int) ∧ (y51.2.1 1).toInt = (y37.2.1 1).toInt) from (by have f0 := a9_48 hJ125 (j := 0) rfl; have f1 := k48; have f2 := hm0; have f3 := b55; have f4 := b56; have f5 := k61; have f6 := t66; have f7 := b74; have f8 := t103; have f9 := t104; have f10 := t128; have f11 := t130; have f12 := j9_31 hJ5 rfl; have f13 := a9_48 hJ54 (j := 0) rfl; have f14 := a9_48 hJ63 (j := 0) rfl; have f15 := a9_48 hJ112 (j := 0) rfl; have f16 := congrArg Int32.toInt (show ((σ109 9).2.2.1 48 0) = ((σ70 9).2.2.1 48 0) from congrFun ((hF111 9 48 rfl).2.2.1) _); have f17 := a9_48 hJ72 (j := 0) rfl; have f18 := t15; have f19 := b73; have f20 := k101; have f21 := k107; have g5 := rg32 (y37.2.1 1); have g6 := rg32 (y51.2.1 0); have g7 := rg32 (y51.2.1 1); have g9 := rg32 x129; have zm1 : ((-1) : Int32).toInt = (-1) := (by decide); have z1 : (1 : Int32).toInt = 1 := (by decide); have z3 : (3 : Int32).toInt = 3 := (by decide); have z1000000 : (1000000 : Int32).toInt = 1000000 := (by decide); omega)), (show DK0 (σ124 9) from T126), (show HK (σ124 9) from T127), trivial⟩ (show ((4 : Int) - x129.toInt).toNat < _ from by first | exact t131 | (rw [← eσ70]; exact t131)) _ _ _ hP hS (lv_sub hl [0, 1, 2, 3, 4, 5, 6] rfl)
        ·
          have k132 := peq32 c47
          refine lv_ldc (v := 1000000) hx hb hown (hts _ q1604) dX9_moves_201 ?_
          exact W.iret (v := 1000000) hx hb hr (fun tS ht hW => ⟨⟨1000000, σ19, rfl, ⟨Fr.tr (Fr.tr (Fr.tr (Fr.rf) hF4 (fL_sub rfl)) hF10 (fL_sub rfl)) hF20 (fL_sub rfl), hJ21, trivial⟩, (show va_P D clz (WD9 cy g σ19) tS.heap by rw [ht]; exact hP)⟩, hS.F ht⟩) hS.2.2 dX9_moves_203
      ·
        intro nj42
        refine lv_if_le (tgt := 195) hx hb dX9_moves_124 (by decide) (fun c133 => ?_) (fun c133 => ?_)
        ·
          have k134 := ple32 c133
          exact nj42 (σ19, lf [], lg []) ⟨rfl, (show DK0 (σ19 9) from b40), (show HK (σ19 9) from b41), trivial⟩ _ _ _ hP hS (lv_sub hl [0, 1, 2, 3, 4] rfl)
        ·
          have k135 := nle32 c133
          refine lv_iload hx hb dX9_moves_127 (lv_at hl 0 rfl) ?_
          refine lv_iconst (v := 3) hx hb dX9_moves_129 (by decide) ?_
          refine lv_icmp_ge (tgt := 195) hx hb dX9_moves_130 (by decide) (fun c136 => ?_) (fun c136 => ?_)
          ·
            have k137 := ple32 c136
            exact nj42 (σ19, lf [], lg []) ⟨rfl, (show DK0 (σ19 9) from b40), (show HK (σ19 9) from b41), trivial⟩ _ _ _ hP hS (lv_sub hl [0, 1, 2, 3, 4] rfl)
          ·
            have k138 := nle32 c136
            refine lv_iconst (v := 0) hx hb dX9_moves_133 (by decide) ?_
            refine lv_istore (lv' := [(5, .int 0), (4, .int (y37.2.1 0)), (3, .int (y37.2.1 1)), (0, .ref (g 60)), (1, .int p1), (2, .int p2)]) hx hb dX9_moves_134 hl (by decide) rfl (fun ls hl => ?_)
            refine loop9 7 136 (fun x : LZ => [(5, .int (x.2.1 0)), (4, .int (y37.2.1 0)), (3, .int (x.2.1 1)), (0, .ref (g 60)), (1, .int p1), (2, .int p2)]) (fun x : LZ => (x.1 = σ19) ∧ ((0 : Int) ≤ (x.2.1 0).toInt ∧ (x.2.1 0).toInt ≤ 88) ∧ (LM (σ19 9) (x.2.1 1)) ∧ (DK0 (σ19 9)) ∧ (HK (σ19 9)) ∧ True) (fun x : LZ => ((89 : Int) - (x.2.1 0).toInt).toNat) ?_ (σ19, lf [0, (y37.2.1 1)], lg []) ⟨rfl, (show (0 : Int) ≤ (0 : Int32).toInt ∧ (0 : Int32).toInt ≤ 88 from (by have z0 : (0 : Int32).toInt = 0 := (by decide); omega)), (show LM (σ19 9) (y37.2.1 1) from b39), (show DK0 (σ19 9) from b40), (show HK (σ19 9) from b41), trivial⟩ _ _ _ hP hS (lv_sub hl [0, 1, 2, 3, 4, 5] rfl)
            intro y141 hI140 nl139 H locs ls hP hS hl
            rw [show y141.1 = σ19 from hI140.1] at hP
            have b142 : (0 : Int) ≤ (y141.2.1 0).toInt ∧ (y141.2.1 0).toInt ≤ 88 := hI140.2.1
            have b143 : LM (σ19 9) (y141.2.1 1) := hI140.2.2.1
            have b144 : DK0 (σ19 9) := hI140.2.2.2.1
            have b145 : HK (σ19 9) := hI140.2.2.2.2.1
            have hl : lv_has ls 7 [(5, .int (y141.2.1 0)), (4, .int (y37.2.1 0)), (3, .int (y141.2.1 1)), (0, .ref (g 60)), (1, .int p1), (2, .int p2)] := hl
            refine lv_iload hx hb dX9_moves_136 (lv_at hl 0 rfl) ?_
            refine lv_aload_n hx hb dX9_moves_138 rfl (lv_at hl 3 rfl) ?_
            refine g9_43 hx hb hts hown hK hP (hts _ q1403) dX9_moves_139 ?_
            refine lv_iload hx hb dX9_moves_142 (lv_at hl 1 rfl) ?_
            obtain ⟨x146, ex146⟩ : ∃ z, (σ8 9).2.2.1 43 (y37.2.1 0).toInt.toNat = z := ⟨_, rfl⟩
            refine l9_43 (x := x146) hx hb hK hP (vpo (by have f0 := b38; have f1 := k138; have g0 := rg32 (y37.2.1 0); have z3 : (3 : Int32).toInt = 3 := (by decide); omega)) ((congrFun ((hF20 9 43 rfl).2.2.1) _).trans ex146) dX9_moves_144 ?_
            have t147 := a9_43 hJ11 ex146
            refine lv_icmp_ge (tgt := 189) hx hb dX9_moves_145 (by decide) (fun c148 => ?_) (fun c148 => ?_)
            ·
              have k149 := ple32 c148
              obtain ⟨x150, ex150⟩ : ∃ y : Int32, y = (y37.2.1 0) + 1 := ⟨_, rfl⟩
              have t151 := addO ex150 (by have f0 := b38; have f1 := k138; have f2 := t147; have f3 := k149; have f4 := b142; have g0 := rg32 (y37.2.1 0); have z1 : (1 : Int32).toInt = 1 := (by decide); have z3 : (3 : Int32).toInt = 3 := (by decide); omega)
              refine lv_iinc (v := x150) (lv' := [(4, .int x150), (5, .int (y141.2.1 0)), (3, .int (y141.2.1 1)), (0, .ref (g 60)), (1, .int p1), (2, .int p2)]) hx hb dX9_moves_189 hl (k := 1) rfl (by rw [ex150]; rfl) (by decide) rfl (fun ls hl => ?_)
              refine lv_goto (tgt := 120) hx hb dX9_moves_192 (by decide) ?_
              have t152 : ((4 : Int) - x150.toInt).toNat < ((4 : Int) - (y37.2.1 0).toInt).toNat := (by have f0 := b38; have f1 := k138; have f2 := t147; have f3 := t151; have f4 := k149; have f5 := b142; have g0 := rg32 (y37.2.1 0); have g1 := rg32 x150; have z1 : (1 : Int32).toInt = 1 := (by decide); have z3 : (3 : Int32).toInt = 3 := (by decide); omega)
              exact nl35 (σ19, lf [x150, (y141.2.1 1)], lg []) ⟨rfl, (show (0 : Int) ≤ (x150 : Int32).toInt ∧ (x150 : Int32).toInt ≤ 3 from (by have f0 := t151; have f1 := b38; have f2 := k138; have f3 := t147; have f4 := k149; have f5 := b142; have g0 := rg32 x150; have z1 : (1 : Int32).toInt = 1 := (by decide); have z3 : (3 : Int32).toInt = 3 := (by decide); omega)), (show LM (σ19 9) (y141.2.1 1) from b143), (show DK0 (σ19 9) from b144), (show HK (σ19 9) from b145), trivial⟩ (show ((4 : Int) - x150.toInt).toNat < _ from t152) _ _ _ hP hS (lv_sub hl [0, 2, 3, 4, 5] rfl)
            ·
              have k153 := nle32 c148
              refine lv_aload_n hx hb dX9_moves_148 rfl (lv_at hl 3 rfl) ?_
              refine g9_46 hx hb hts hown hK hP (hts _ q1406) dX9_moves_149 ?_
              refine lv_bipush (v := 88) hx hb dX9_moves_152 (by decide) ?_
              refine lv_iload hx hb dX9_moves_154 (lv_at hl 1 rfl) ?_
              refine lv_imul hx hb dX9_moves_156 ?_
              refine lv_topi (fun x154 ex154 => ?_)
              have t155 := mulC' (n := 88) ex154 (by decide) (by have f0 := b38; have f1 := k138; have f2 := t147; have f3 := k153; have f4 := b142; have g0 := rg32 (y37.2.1 0); have z3 : (3 : Int32).toInt = 3 := (by decide); omega)
              refine lv_iload hx hb dX9_moves_157 (lv_at hl 0 rfl) ?_
              refine lv_iadd hx hb dX9_moves_159 ?_
              refine lv_topi (fun x156 ex156 => ?_)
              have t157 := addO ex156 (by have f0 := b142; have f1 := k153; have f2 := t155; have f3 := b38; have f4 := k138; have f5 := t147; have g0 := rg32 (y141.2.1 0); have g1 := rg32 x154; have z3 : (3 : Int32).toInt = 3 := (by decide); omega)
              obtain ⟨x158, ex158⟩ : ∃ z, (σ19 9).2.2.1 46 x156.toInt.toNat = z := ⟨_, rfl⟩
              refine l9_46 (x := x158) hx hb hK hP (vpo (by have f0 := t157; have f1 := b142; have f2 := k153; have f3 := t155; have f4 := b38; have f5 := k138; have f6 := t147; have g0 := rg32 x156; have z3 : (3 : Int32).toInt = 3 := (by decide); omega)) ex158 dX9_moves_160 ?_
              refine lv_iload_n hx hb dX9_moves_161 rfl (lv_at hl 2 rfl) ?_
              refine lv_icmp_ge (tgt := 181) hx hb dX9_moves_162 (by decide) (fun c159 => ?_) (fun c159 => ?_)
              ·
                have k160 := ple32 c159
                refine lv_iload_n hx hb dX9_moves_181 rfl (lv_at hl 2 rfl) ?_
                refine lv_istore_n (lv' := [(3, .int (y141.2.1 1)), (5, .int (y141.2.1 0)), (4, .int (y37.2.1 0)), (0, .ref (g 60)), (1, .int p1), (2, .int p2)]) hx hb dX9_moves_182 rfl hl (by decide) rfl (fun ls hl => ?_)
                obtain ⟨x161, ex161⟩ : ∃ y : Int32, y = (y141.2.1 0) + 1 := ⟨_, rfl⟩
                have t162 := addO ex161 (by have f0 := b142; have f1 := k153; have f2 := t157; have f3 := t147; have f4 := t155; have f5 := b38; have f6 := k138; have g0 := rg32 (y141.2.1 0); have z1 : (1 : Int32).toInt = 1 := (by decide); have z3 : (3 : Int32).toInt = 3 := (by decide); omega)
                refine lv_iinc (v := x161) (lv' := [(5, .int x161), (3, .int (y141.2.1 1)), (4, .int (y37.2.1 0)), (0, .ref (g 60)), (1, .int p1), (2, .int p2)]) hx hb dX9_moves_183 hl (k := 1) rfl (by rw [ex161]; rfl) (by decide) rfl (fun ls hl => ?_)
                refine lv_goto (tgt := 136) hx hb dX9_moves_186 (by decide) ?_
                have t163 : ((89 : Int) - x161.toInt).toNat < ((89 : Int) - (y141.2.1 0).toInt).toNat := (by have f0 := b142; have f1 := k153; have f2 := t157; have f3 := t162; have f4 := t147; have f5 := t155; have f6 := b38; have f7 := k138; have g0 := rg32 (y141.2.1 0); have g1 := rg32 x161; have z1 : (1 : Int32).toInt = 1 := (by decide); have z3 : (3 : Int32).toInt = 3 := (by decide); omega)
                exact nl139 (σ19, lf [x161, (y141.2.1 1)], lg []) ⟨rfl, (show (0 : Int) ≤ (x161 : Int32).toInt ∧ (x161 : Int32).toInt ≤ 88 from (by have f0 := t162; have f1 := b142; have f2 := k153; have f3 := t157; have f4 := t147; have f5 := t155; have f6 := b38; have f7 := k138; have g0 := rg32 x161; have z1 : (1 : Int32).toInt = 1 := (by decide); have z3 : (3 : Int32).toInt = 3 := (by decide); omega)), (show LM (σ19 9) (y141.2.1 1) from b143), (show DK0 (σ19 9) from b144), (show HK (σ19 9) from b145), trivial⟩ (show ((89 : Int) - x161.toInt).toNat < _ from t163) _ _ _ hP hS (lv_sub hl [0, 2, 1, 3, 4, 5] rfl)
              ·
                have k164 := nle32 c159
                refine lv_aload_n hx hb dX9_moves_165 rfl (lv_at hl 3 rfl) ?_
                refine g9_46 hx hb hts hown hK hP (hts _ q1406) dX9_moves_166 ?_
                refine lv_bipush (v := 88) hx hb dX9_moves_169 (by decide) ?_
                refine lv_iload hx hb dX9_moves_171 (lv_at hl 1 rfl) ?_
                refine lv_imul hx hb dX9_moves_173 ?_
                refine lv_topi (fun x165 ex165 => ?_)
                have t166 := mulC' (n := 88) ex165 (by decide) (by have f0 := b38; have f1 := k138; have f2 := t147; have f3 := t155; have f4 := k153; have f5 := t157; have f6 := b142; have g0 := rg32 (y37.2.1 0); have z3 : (3 : Int32).toInt = 3 := (by decide); omega)
                refine lv_iload hx hb dX9_moves_174 (lv_at hl 0 rfl) ?_
                refine lv_iadd hx hb dX9_moves_176 ?_
                refine lv_topi (fun x167 ex167 => ?_)
                have t168 := addO ex167 (by have f0 := b142; have f1 := k153; have f2 := t157; have f3 := t166; have f4 := b38; have f5 := k138; have f6 := t147; have f7 := t155; have g0 := rg32 (y141.2.1 0); have g1 := rg32 x165; have z3 : (3 : Int32).toInt = 3 := (by decide); omega)
                obtain ⟨x169, ex169⟩ : ∃ z, (σ19 9).2.2.1 46 x167.toInt.toNat = z := ⟨_, rfl⟩
                refine l9_46 (x := x169) hx hb hK hP (vpo (by have f0 := t168; have f1 := b142; have f2 := k153; have f3 := t157; have f4 := t166; have f5 := b38; have f6 := k138; have f7 := t147; have f8 := t155; have g0 := rg32 x167; have z3 : (3 : Int32).toInt = 3 := (by decide); omega)) ex169 dX9_moves_177 ?_
                refine lv_goto (tgt := 182) hx hb dX9_moves_178 (by decide) ?_
                refine lv_istore_n (lv' := [(3, .int x169), (5, .int (y141.2.1 0)), (4, .int (y37.2.1 0)), (0, .ref (g 60)), (1, .int p1), (2, .int p2)]) hx hb dX9_moves_182 rfl hl (by decide) rfl (fun ls hl => ?_)
                obtain ⟨x170, ex170⟩ : ∃ y : Int32, y = (y141.2.1 0) + 1 := ⟨_, rfl⟩
                have t171 := addO ex170 (by have f0 := b142; have f1 := k153; have f2 := t157; have f3 := t168; have f4 := t147; have f5 := t155; have f6 := t166; have f7 := b38; have f8 := k138; have g0 := rg32 (y141.2.1 0); have z1 : (1 : Int32).toInt = 1 := (by decide); have z3 : (3 : Int32).toInt = 3 := (by decide); omega)
                refine lv_iinc (v := x170) (lv' := [(5, .int x170), (3, .int x169), (4, .int (y37.2.1 0)), (0, .ref (g 60)), (1, .int p1), (2, .int p2)]) hx hb dX9_moves_183 hl (k := 1) rfl (by rw [ex170]; rfl) (by decide) rfl (fun ls hl => ?_)
                refine lv_goto (tgt := 136) hx hb dX9_moves_186 (by decide) ?_
                have t172 : ((89 : Int) - x170.toInt).toNat < ((89 : Int) - (y141.2.1 0).toInt).toNat := (by have f0 := b142; have f1 := k153; have f2 := t157; have f3 := t168; have f4 := t171; have f5 := t147; have f6 := t155; have f7 := t166; have f8 := b38; have f9 := k138; have g0 := rg32 (y141.2.1 0); have g1 := rg32 x170; have z1 : (1 : Int32).toInt = 1 := (by decide); have z3 : (3 : Int32).toInt = 3 := (by decide); omega)
                exact nl139 (σ19, lf [x170, x169], lg []) ⟨rfl, (show (0 : Int) ≤ (x170 : Int32).toInt ∧ (x170 : Int32).toInt ≤ 88 from (by have f0 := t171; have f1 := b142; have f2 := k153; have f3 := t157; have f4 := t168; have f5 := t147; have f6 := t155; have f7 := t166; have f8 := b38; have f9 := k138; have g0 := rg32 x170; have z1 : (1 : Int32).toInt = 1 := (by decide); have z3 : (3 : Int32).toInt = 3 := (by decide); omega)), (show LM (σ19 9) x169 from (LM.of (m := (y37.2.1 0).toInt.toNat) (v := (y141.2.1 0).toInt.toNat) (by have f0 := b38; have f1 := k138; have f2 := t147; have f3 := t155; have f4 := t166; have f5 := k153; have f6 := t157; have f7 := t168; have f8 := b142; have f9 := t171; have g0 := rg32 (y37.2.1 0); have z1 : (1 : Int32).toInt = 1 := (by decide); have z3 : (3 : Int32).toInt = 3 := (by decide); omega) ((congrFun ((hF20 9 43 rfl).2.2.1) _).trans ex146) (by have f0 := b142; have f1 := t147; have f2 := k153; have f3 := t157; have f4 := t168; have f5 := t171; have f6 := b38; have f7 := k138; have f8 := t155; have f9 := t166; have g0 := rg32 (y141.2.1 0); have g1 := rg32 x146; have z1 : (1 : Int32).toInt = 1 := (by decide); have z3 : (3 : Int32).toInt = 3 := (by decide); omega) ex169 (by have f0 := b38; have f1 := k138; have f2 := b142; have f3 := t147; have f4 := k153; have f5 := t155; have f6 := t157; have f7 := t166; have f8 := t168; have f9 := t171; have g0 := rg32 (y141.2.1 0); have g1 := rg32 (y37.2.1 0); have g2 := rg32 x167; have z1 : (1 : Int32).toInt = 1 := (by decide); have z3 : (3 : Int32).toInt = 3 := (by decide); omega))), (show DK0 (σ19 9) from b144), (show HK (σ19 9) from b145), trivial⟩ (show ((89 : Int) - x170.toInt).toNat < _ from t172) _ _ _ hP hS (lv_sub hl [0, 2, 1, 3, 4, 5] rfl)
    ·
      intro nj28
      refine lv_if_ne (tgt := 114) hx hb dX9_moves_107 (by decide) (fun c173 => ?_) (fun c173 => ?_)
      ·
        have k174 := neq32 c173
        refine lv_ldc (v := 1000000) hx hb hown (hts _ q1604) dX9_moves_114 ?_
        exact nj28 (σ19, lf [1000000], lg []) ⟨rfl, (show (0 : Int) ≤ (1000000 : Int32).toInt ∧ (1000000 : Int32).toInt ≤ 1000000 from (by have z1000000 : (1000000 : Int32).toInt = 1000000 := (by decide); omega)), (show (((σ19 9).1 31).toInt = 0 ∧ (1000000 : Int32).toInt = 0) ∨ (1000000 : Int32).toInt = 1000000 from (by have f0 := j9_31 hJ21 rfl; have f1 := congrArg Int32.toInt (show ((σ19 9).1 31) = ((σ2 9).1 31) from ((hF20 9 31 rfl).1).trans ((hF10 9 31 rfl).1)); have f2 := b23; have f3 := j9_31 hJ5 rfl; have f4 := t15; have f5 := b22; have f6 := k27; have f7 := k174; have z0 : (0 : Int32).toInt = 0 := (by decide); have z1 : (1 : Int32).toInt = 1 := (by decide); have z1000000 : (1000000 : Int32).toInt = 1000000 := (by decide); omega)), (show DK0 (σ19 9) from b24), (show HK (σ19 9) from b25), trivial⟩ _ _ _ hP hS (lv_sub hl [0, 1, 2, 3] rfl)
      ·
        have k175 := peq32 c173
        refine lv_iconst (v := 0) hx hb dX9_moves_110 (by decide) ?_
        refine lv_goto (tgt := 116) hx hb dX9_moves_111 (by decide) ?_
        exact nj28 (σ19, lf [0], lg []) ⟨rfl, (show (0 : Int) ≤ (0 : Int32).toInt ∧ (0 : Int32).toInt ≤ 1000000 from (by have z0 : (0 : Int32).toInt = 0 := (by decide); omega)), (show (((σ19 9).1 31).toInt = 0 ∧ (0 : Int32).toInt = 0) ∨ (0 : Int32).toInt = 1000000 from (by have f0 := j9_31 hJ21 rfl; have f1 := congrArg Int32.toInt (show ((σ19 9).1 31) = ((σ2 9).1 31) from ((hF20 9 31 rfl).1).trans ((hF10 9 31 rfl).1)); have f2 := b23; have f3 := j9_31 hJ5 rfl; have f4 := t15; have f5 := b22; have f6 := k27; have f7 := k175; have z0 : (0 : Int32).toInt = 0 := (by decide); have z1 : (1 : Int32).toInt = 1 := (by decide); omega)), (show DK0 (σ19 9) from b24), (show HK (σ19 9) from b25), trivial⟩ _ _ _ hP hS (lv_sub hl [0, 1, 2, 3] rfl)
  ·
    have k176 := nlt32 c26
    refine lv_iconst (v := 0) hx hb dX9_moves_21 (by decide) ?_
    refine lv_istore (lv' := [(4, .int 0), (3, .int (y18.2.1 0)), (0, .ref (g 60)), (1, .int p1), (2, .int p2)]) hx hb dX9_moves_22 hl (by decide) rfl (fun ls hl => ?_)
    refine loop9 7 24 (fun x : LZ => [(4, .int (x.2.1 0)), (3, .int (y18.2.1 0)), (0, .ref (g 60)), (1, .int p1), (2, .int p2)]) (fun x : LZ => (Fr (fL [46]) σ19 x.1) ∧ (J9 (x.1 9)) ∧ ((0 : Int) ≤ (x.2.1 0).toInt ∧ (x.2.1 0).toInt ≤ 3) ∧ (DK0 (x.1 9)) ∧ (HK (x.1 9)) ∧ True) (fun x : LZ => ((4 : Int) - (x.2.1 0).toInt).toNat) ?_ (σ19, lf [0], lg []) ⟨Fr.rf, hJ21, (show (0 : Int) ≤ (0 : Int32).toInt ∧ (0 : Int32).toInt ≤ 3 from (by have z0 : (0 : Int32).toInt = 0 := (by decide); omega)), (show DK0 (σ19 9) from b24), (show HK (σ19 9) from b25), trivial⟩ _ _ _ hP hS (lv_sub hl [0, 1, 2, 3, 4] rfl)
    intro y179 hI178 nl177 H locs ls hP hS hl
    obtain ⟨σ180, eσ180⟩ : ∃ z, z = y179.1 := ⟨_, rfl⟩
    rw [← eσ180] at hP hI178
    have hF181 : Fr (fL [46]) σ19 σ180 := hI178.1
    have hJ182 : J9 (σ180 9) := hI178.2.1
    have b183 : (0 : Int) ≤ (y179.2.1 0).toInt ∧ (y179.2.1 0).toInt ≤ 3 := hI178.2.2.1
    have b184 : DK0 (σ180 9) := hI178.2.2.2.1
    have b185 : HK (σ180 9) := hI178.2.2.2.2.1
    have hl : lv_has ls 7 [(4, .int (y179.2.1 0)), (3, .int (y18.2.1 0)), (0, .ref (g 60)), (1, .int p1), (2, .int p2)] := hl
    refine lv_iload hx hb dX9_moves_24 (lv_at hl 0 rfl) ?_
    refine lv_iconst (v := 3) hx hb dX9_moves_26 (by decide) ?_
    refine lv_icmp_ge (tgt := 97) hx hb dX9_moves_27 (by decide) (fun c186 => ?_) (fun c186 => ?_)
    ·
      have k187 := ple32 c186
      obtain ⟨x188, ex188⟩ : ∃ y : Int32, y = (y18.2.1 0) + (-1) := ⟨_, rfl⟩
      have t189 := addO ex188 (by have f0 := b22; have f1 := b23; have f2 := k176; have f3 := j9_31 hJ21 rfl; have f4 := congrArg Int32.toInt (show ((σ19 9).1 31) = ((σ2 9).1 31) from ((hF20 9 31 rfl).1).trans ((hF10 9 31 rfl).1)); have f5 := j9_31 hJ5 rfl; have f6 := t15; have g2 := rg32 (y18.2.1 0); have zm1 : ((-1) : Int32).toInt = (-1) := (by decide); have z0 : (0 : Int32).toInt = 0 := (by decide); have z1 : (1 : Int32).toInt = 1 := (by decide); omega)
      refine lv_iinc (v := x188) (lv' := [(3, .int x188), (4, .int (y179.2.1 0)), (0, .ref (g 60)), (1, .int p1), (2, .int p2)]) hx hb dX9_moves_97 hl (k := 1) rfl (by rw [ex188]; rfl) (by decide) rfl (fun ls hl => ?_)
      refine lv_goto (tgt := 17) hx hb dX9_moves_100 (by decide) ?_
      have t190 : (x188.toInt - (-2 : Int)).toNat < ((y18.2.1 0).toInt - (-2 : Int)).toNat := (by have f0 := b22; have f1 := b23; have f2 := k176; have f3 := t189; have f4 := j9_31 hJ21 rfl; have f5 := congrArg Int32.toInt (show ((σ19 9).1 31) = ((σ2 9).1 31) from ((hF20 9 31 rfl).1).trans ((hF10 9 31 rfl).1)); have f6 := j9_31 hJ5 rfl; have f7 := t15; have g2 := rg32 (y18.2.1 0); have g3 := rg32 x188; have zm1 : ((-1) : Int32).toInt = (-1) := (by decide); have z0 : (0 : Int32).toInt = 0 := (by decide); have z1 : (1 : Int32).toInt = 1 := (by decide); omega)
      exact nl16 (σ180, lf [x188], lg []) ⟨Fr.tr (Fr.tr (Fr.rf) hF20 (fL_sub rfl)) hF181 (fL_sub rfl), hJ182, (show (-1 : Int) ≤ (x188 : Int32).toInt ∧ (x188 : Int32).toInt ≤ 15 from (by have f0 := t189; have f1 := b22; have f2 := b23; have f3 := k176; have f4 := j9_31 hJ21 rfl; have f5 := congrArg Int32.toInt (show ((σ19 9).1 31) = ((σ2 9).1 31) from ((hF20 9 31 rfl).1).trans ((hF10 9 31 rfl).1)); have f6 := j9_31 hJ5 rfl; have f7 := t15; have g2 := rg32 x188; have zm1 : ((-1) : Int32).toInt = (-1) := (by decide); have z0 : (0 : Int32).toInt = 0 := (by decide); have z1 : (1 : Int32).toInt = 1 := (by decide); omega)), (show x188.toInt + 1 ≤ ((σ180 9).1 31).toInt from (by have f0 := j9_31 hJ182 rfl; have f1 := congrArg Int32.toInt (show ((σ180 9).1 31) = ((σ2 9).1 31) from ((hF181 9 31 rfl).1).trans (((hF20 9 31 rfl).1).trans ((hF10 9 31 rfl).1))); have f2 := t189; have f3 := j9_31 hJ5 rfl; have f4 := t15; have f5 := b22; have f6 := b23; have f7 := k176; have f8 := j9_31 hJ21 rfl; have f9 := congrArg Int32.toInt (show ((σ19 9).1 31) = ((σ2 9).1 31) from ((hF20 9 31 rfl).1).trans ((hF10 9 31 rfl).1)); have g3 := rg32 x188; have zm1 : ((-1) : Int32).toInt = (-1) := (by decide); have z0 : (0 : Int32).toInt = 0 := (by decide); have z1 : (1 : Int32).toInt = 1 := (by decide); omega)), (show DK0 (σ180 9) from b184), (show HK (σ180 9) from b185), trivial⟩ (show (x188.toInt - (-2 : Int)).toNat < _ from by first | exact t190 | (rw [← eσ19]; exact t190)) _ _ _ hP hS (lv_sub hl [0, 2, 3, 4] rfl)
    ·
      have k191 := nle32 c186
      refine lv_iconst (v := 0) hx hb dX9_moves_30 (by decide) ?_
      refine lv_istore (lv' := [(5, .int 0), (4, .int (y179.2.1 0)), (3, .int (y18.2.1 0)), (0, .ref (g 60)), (1, .int p1), (2, .int p2)]) hx hb dX9_moves_31 hl (by decide) rfl (fun ls hl => ?_)
      refine loop9 7 33 (fun x : LZ => [(5, .int (x.2.1 0)), (4, .int (y179.2.1 0)), (3, .int (y18.2.1 0)), (0, .ref (g 60)), (1, .int p1), (2, .int p2)]) (fun x : LZ => (Fr (fL [46]) σ180 x.1) ∧ (J9 (x.1 9)) ∧ ((0 : Int) ≤ (x.2.1 0).toInt ∧ (x.2.1 0).toInt ≤ 88) ∧ (DK0 (x.1 9)) ∧ (HK (x.1 9)) ∧ True) (fun x : LZ => ((89 : Int) - (x.2.1 0).toInt).toNat) ?_ (σ180, lf [0], lg []) ⟨Fr.rf, hJ182, (show (0 : Int) ≤ (0 : Int32).toInt ∧ (0 : Int32).toInt ≤ 88 from (by have z0 : (0 : Int32).toInt = 0 := (by decide); omega)), (show DK0 (σ180 9) from b184), (show HK (σ180 9) from b185), trivial⟩ _ _ _ hP hS (lv_sub hl [0, 1, 2, 3, 4, 5] rfl)
      intro y194 hI193 nl192 H locs ls hP hS hl
      obtain ⟨σ195, eσ195⟩ : ∃ z, z = y194.1 := ⟨_, rfl⟩
      rw [← eσ195] at hP hI193
      have hF196 : Fr (fL [46]) σ180 σ195 := hI193.1
      have hJ197 : J9 (σ195 9) := hI193.2.1
      have b198 : (0 : Int) ≤ (y194.2.1 0).toInt ∧ (y194.2.1 0).toInt ≤ 88 := hI193.2.2.1
      have b199 : DK0 (σ195 9) := hI193.2.2.2.1
      have b200 : HK (σ195 9) := hI193.2.2.2.2.1
      have hl : lv_has ls 7 [(5, .int (y194.2.1 0)), (4, .int (y179.2.1 0)), (3, .int (y18.2.1 0)), (0, .ref (g 60)), (1, .int p1), (2, .int p2)] := hl
      refine lv_iload hx hb dX9_moves_33 (lv_at hl 0 rfl) ?_
      refine lv_aload_n hx hb dX9_moves_35 rfl (lv_at hl 3 rfl) ?_
      refine g9_43 hx hb hts hown hK hP (hts _ q1403) dX9_moves_36 ?_
      refine lv_iconst (v := 3) hx hb dX9_moves_39 (by decide) ?_
      refine lv_iload_n hx hb dX9_moves_40 rfl (lv_at hl 2 rfl) ?_
      refine lv_imul hx hb dX9_moves_41 ?_
      refine lv_topi (fun x201 ex201 => ?_)
      have t202 := mulC' (n := 3) ex201 (by decide) (by have f0 := b22; have f1 := b23; have f2 := k176; have f3 := j9_31 hJ21 rfl; have f4 := congrArg Int32.toInt (show ((σ19 9).1 31) = ((σ2 9).1 31) from ((hF20 9 31 rfl).1).trans ((hF10 9 31 rfl).1)); have f5 := j9_31 hJ5 rfl; have f6 := t15; have g2 := rg32 (y18.2.1 0); have z0 : (0 : Int32).toInt = 0 := (by decide); have z1 : (1 : Int32).toInt = 1 := (by decide); omega)
      refine lv_iload hx hb dX9_moves_42 (lv_at hl 1 rfl) ?_
      refine lv_iadd hx hb dX9_moves_44 ?_
      refine lv_topi (fun x203 ex203 => ?_)
      have t204 := addO ex203 (by have f0 := b183; have f1 := k191; have f2 := t202; have f3 := b22; have f4 := b23; have f5 := k176; have f6 := j9_31 hJ21 rfl; have f7 := congrArg Int32.toInt (show ((σ19 9).1 31) = ((σ2 9).1 31) from ((hF20 9 31 rfl).1).trans ((hF10 9 31 rfl).1)); have f8 := j9_31 hJ5 rfl; have f9 := t15; have g2 := rg32 (y179.2.1 0); have g3 := rg32 x201; have z0 : (0 : Int32).toInt = 0 := (by decide); have z1 : (1 : Int32).toInt = 1 := (by decide); have z3 : (3 : Int32).toInt = 3 := (by decide); omega)
      obtain ⟨x205, ex205⟩ : ∃ z, (σ8 9).2.2.1 43 x203.toInt.toNat = z := ⟨_, rfl⟩
      refine l9_43 (x := x205) hx hb hK hP (vpo (by have f0 := t204; have f1 := b183; have f2 := k191; have f3 := t202; have f4 := b22; have f5 := b23; have f6 := k176; have f7 := j9_31 hJ21 rfl; have f8 := congrArg Int32.toInt (show ((σ19 9).1 31) = ((σ2 9).1 31) from ((hF20 9 31 rfl).1).trans ((hF10 9 31 rfl).1)); have f9 := j9_31 hJ5 rfl; have f10 := t15; have g2 := rg32 x203; have z0 : (0 : Int32).toInt = 0 := (by decide); have z1 : (1 : Int32).toInt = 1 := (by decide); have z3 : (3 : Int32).toInt = 3 := (by decide); omega)) ((congrFun (((hF196 9 43 rfl).2.2.1).trans (((hF181 9 43 rfl).2.2.1).trans ((hF20 9 43 rfl).2.2.1))) _).trans ex205) dX9_moves_45 ?_
      have t206 := a9_43 hJ11 ex205
      refine lv_icmp_ge (tgt := 91) hx hb dX9_moves_46 (by decide) (fun c207 => ?_) (fun c207 => ?_)
      ·
        have k208 := ple32 c207
        obtain ⟨x209, ex209⟩ : ∃ y : Int32, y = (y179.2.1 0) + 1 := ⟨_, rfl⟩
        have t210 := addO ex209 (by have f0 := b183; have f1 := k191; have f2 := t204; have f3 := t202; have f4 := t206; have f5 := b22; have f6 := b23; have f7 := k176; have f8 := k208; have f9 := j9_31 hJ21 rfl; have f10 := congrArg Int32.toInt (show ((σ19 9).1 31) = ((σ2 9).1 31) from ((hF20 9 31 rfl).1).trans ((hF10 9 31 rfl).1)); have f11 := b198; have f12 := j9_31 hJ5 rfl; have f13 := t15; have g2 := rg32 (y179.2.1 0); have z0 : (0 : Int32).toInt = 0 := (by decide); have z1 : (1 : Int32).toInt = 1 := (by decide); have z3 : (3 : Int32).toInt = 3 := (by decide); omega)
        refine lv_iinc (v := x209) (lv' := [(4, .int x209), (5, .int (y194.2.1 0)), (3, .int (y18.2.1 0)), (0, .ref (g 60)), (1, .int p1), (2, .int p2)]) hx hb dX9_moves_91 hl (k := 1) rfl (by rw [ex209]; rfl) (by decide) rfl (fun ls hl => ?_)
        refine lv_goto (tgt := 24) hx hb dX9_moves_94 (by decide) ?_
        have t211 : ((4 : Int) - x209.toInt).toNat < ((4 : Int) - (y179.2.1 0).toInt).toNat := (by have f0 := b183; have f1 := k191; have f2 := t204; have f3 := t210; have f4 := t202; have f5 := t206; have f6 := b22; have f7 := b23; have f8 := k176; have f9 := k208; have f10 := j9_31 hJ21 rfl; have f11 := congrArg Int32.toInt (show ((σ19 9).1 31) = ((σ2 9).1 31) from ((hF20 9 31 rfl).1).trans ((hF10 9 31 rfl).1)); have f12 := b198; have f13 := j9_31 hJ5 rfl; have f14 := t15; have g2 := rg32 (y179.2.1 0); have g3 := rg32 x209; have z0 : (0 : Int32).toInt = 0 := (by decide); have z1 : (1 : Int32).toInt = 1 := (by decide); have z3 : (3 : Int32).toInt = 3 := (by decide); omega)
        exact nl177 (σ195, lf [x209], lg []) ⟨Fr.tr (Fr.tr (Fr.rf) hF181 (fL_sub rfl)) hF196 (fL_sub rfl), hJ197, (show (0 : Int) ≤ (x209 : Int32).toInt ∧ (x209 : Int32).toInt ≤ 3 from (by have f0 := t210; have f1 := b183; have f2 := k191; have f3 := t204; have f4 := t202; have f5 := t206; have f6 := b22; have f7 := b23; have f8 := k176; have f9 := k208; have f10 := j9_31 hJ21 rfl; have f11 := congrArg Int32.toInt (show ((σ19 9).1 31) = ((σ2 9).1 31) from ((hF20 9 31 rfl).1).trans ((hF10 9 31 rfl).1)); have f12 := b198; have f13 := j9_31 hJ5 rfl; have f14 := t15; have g2 := rg32 x209; have z0 : (0 : Int32).toInt = 0 := (by decide); have z1 : (1 : Int32).toInt = 1 := (by decide); have z3 : (3 : Int32).toInt = 3 := (by decide); omega)), (show DK0 (σ195 9) from b199), (show HK (σ195 9) from b200), trivial⟩ (show ((4 : Int) - x209.toInt).toNat < _ from by first | exact t211 | (rw [← eσ180]; exact t211)) _ _ _ hP hS (lv_sub hl [0, 2, 3, 4, 5] rfl)
      ·
        have k212 := nle32 c207
        refine lv_aload_n hx hb dX9_moves_49 rfl (lv_at hl 3 rfl) ?_
        refine g9_46 hx hb hts hown hK hP (hts _ q1406) dX9_moves_50 ?_
        refine lv_bipush (v := 88) hx hb dX9_moves_53 (by decide) ?_
        refine lv_iconst (v := 3) hx hb dX9_moves_55 (by decide) ?_
        refine lv_iload_n hx hb dX9_moves_56 rfl (lv_at hl 2 rfl) ?_
        refine lv_imul hx hb dX9_moves_57 ?_
        refine lv_topi (fun x213 ex213 => ?_)
        have t214 := mulC' (n := 3) ex213 (by decide) (by have f0 := b22; have f1 := b23; have f2 := k176; have f3 := t202; have f4 := j9_31 hJ21 rfl; have f5 := congrArg Int32.toInt (show ((σ19 9).1 31) = ((σ2 9).1 31) from ((hF20 9 31 rfl).1).trans ((hF10 9 31 rfl).1)); have f6 := t204; have f7 := j9_31 hJ5 rfl; have f8 := t15; have f9 := b183; have f10 := k191; have f11 := t206; have f12 := k212; have f13 := b198; have g2 := rg32 (y18.2.1 0); have z0 : (0 : Int32).toInt = 0 := (by decide); have z1 : (1 : Int32).toInt = 1 := (by decide); have z3 : (3 : Int32).toInt = 3 := (by decide); omega)
        refine lv_iload hx hb dX9_moves_58 (lv_at hl 1 rfl) ?_
        refine lv_iadd hx hb dX9_moves_60 ?_
        refine lv_topi (fun x215 ex215 => ?_)
        have t216 := addO ex215 (by have f0 := b183; have f1 := k191; have f2 := t204; have f3 := t214; have f4 := b22; have f5 := b23; have f6 := k176; have f7 := t202; have f8 := t206; have f9 := j9_31 hJ21 rfl; have f10 := congrArg Int32.toInt (show ((σ19 9).1 31) = ((σ2 9).1 31) from ((hF20 9 31 rfl).1).trans ((hF10 9 31 rfl).1)); have f11 := k212; have f12 := j9_31 hJ5 rfl; have f13 := t15; have f14 := b198; have g2 := rg32 (y179.2.1 0); have g3 := rg32 x213; have z0 : (0 : Int32).toInt = 0 := (by decide); have z1 : (1 : Int32).toInt = 1 := (by decide); have z3 : (3 : Int32).toInt = 3 := (by decide); omega)
        refine lv_imul hx hb dX9_moves_61 ?_
        refine lv_topi (fun x217 ex217 => ?_)
        have t218 := mulC' (n := 88) ex217 (by decide) (by have f0 := t216; have f1 := b183; have f2 := k191; have f3 := t204; have f4 := t214; have f5 := b22; have f6 := b23; have f7 := k176; have f8 := t202; have f9 := t206; have f10 := j9_31 hJ21 rfl; have f11 := congrArg Int32.toInt (show ((σ19 9).1 31) = ((σ2 9).1 31) from ((hF20 9 31 rfl).1).trans ((hF10 9 31 rfl).1)); have f12 := k212; have f13 := j9_31 hJ5 rfl; have f14 := t15; have f15 := b198; have g2 := rg32 x215; have z0 : (0 : Int32).toInt = 0 := (by decide); have z1 : (1 : Int32).toInt = 1 := (by decide); have z3 : (3 : Int32).toInt = 3 := (by decide); omega)
        refine lv_iload hx hb dX9_moves_62 (lv_at hl 0 rfl) ?_
        refine lv_iadd hx hb dX9_moves_64 ?_
        refine lv_topi (fun x219 ex219 => ?_)
        have t220 := addO ex219 (by have f0 := b198; have f1 := k212; have f2 := t218; have f3 := t206; have f4 := t216; have f5 := b183; have f6 := k191; have f7 := t204; have f8 := t214; have f9 := b22; have f10 := b23; have f11 := k176; have f12 := t202; have f13 := j9_31 hJ21 rfl; have f14 := congrArg Int32.toInt (show ((σ19 9).1 31) = ((σ2 9).1 31) from ((hF20 9 31 rfl).1).trans ((hF10 9 31 rfl).1)); have f15 := j9_31 hJ5 rfl; have f16 := t15; have g2 := rg32 (y194.2.1 0); have g3 := rg32 x217; have z0 : (0 : Int32).toInt = 0 := (by decide); have z1 : (1 : Int32).toInt = 1 := (by decide); have z3 : (3 : Int32).toInt = 3 := (by decide); omega)
        refine lv_aload_n hx hb dX9_moves_65 rfl (lv_at hl 3 rfl) ?_
        refine lv_iload_n hx hb dX9_moves_66 rfl (lv_at hl 2 rfl) ?_
        refine lv_bipush (v := 88) hx hb dX9_moves_67 (by decide) ?_
        refine lv_iconst (v := 3) hx hb dX9_moves_69 (by decide) ?_
        refine lv_iload_n hx hb dX9_moves_70 rfl (lv_at hl 2 rfl) ?_
        refine lv_imul hx hb dX9_moves_71 ?_
        refine lv_topi (fun x221 ex221 => ?_)
        have t222 := mulC' (n := 3) ex221 (by decide) (by have f0 := b22; have f1 := b23; have f2 := k176; have f3 := t202; have f4 := t214; have f5 := j9_31 hJ21 rfl; have f6 := congrArg Int32.toInt (show ((σ19 9).1 31) = ((σ2 9).1 31) from ((hF20 9 31 rfl).1).trans ((hF10 9 31 rfl).1)); have f7 := t204; have f8 := t216; have f9 := j9_31 hJ5 rfl; have f10 := t15; have f11 := b183; have f12 := k191; have f13 := t206; have f14 := t218; have f15 := k212; have f16 := t220; have f17 := b198; have g2 := rg32 (y18.2.1 0); have z0 : (0 : Int32).toInt = 0 := (by decide); have z1 : (1 : Int32).toInt = 1 := (by decide); have z3 : (3 : Int32).toInt = 3 := (by decide); omega)
        refine lv_iload hx hb dX9_moves_72 (lv_at hl 1 rfl) ?_
        refine lv_iadd hx hb dX9_moves_74 ?_
        refine lv_topi (fun x223 ex223 => ?_)
        have t224 := addO ex223 (by have f0 := b183; have f1 := k191; have f2 := t204; have f3 := t216; have f4 := t222; have f5 := b22; have f6 := b23; have f7 := k176; have f8 := t202; have f9 := t206; have f10 := t214; have f11 := t218; have f12 := j9_31 hJ21 rfl; have f13 := congrArg Int32.toInt (show ((σ19 9).1 31) = ((σ2 9).1 31) from ((hF20 9 31 rfl).1).trans ((hF10 9 31 rfl).1)); have f14 := k212; have f15 := t220; have f16 := j9_31 hJ5 rfl; have f17 := t15; have f18 := b198; have g2 := rg32 (y179.2.1 0); have g3 := rg32 x221; have z0 : (0 : Int32).toInt = 0 := (by decide); have z1 : (1 : Int32).toInt = 1 := (by decide); have z3 : (3 : Int32).toInt = 3 := (by decide); omega)
        refine lv_imul hx hb dX9_moves_75 ?_
        refine lv_topi (fun x225 ex225 => ?_)
        have t226 := mulC' (n := 88) ex225 (by decide) (by have f0 := t224; have f1 := b183; have f2 := k191; have f3 := t204; have f4 := t216; have f5 := t222; have f6 := b22; have f7 := b23; have f8 := k176; have f9 := t202; have f10 := t206; have f11 := t214; have f12 := t218; have f13 := j9_31 hJ21 rfl; have f14 := congrArg Int32.toInt (show ((σ19 9).1 31) = ((σ2 9).1 31) from ((hF20 9 31 rfl).1).trans ((hF10 9 31 rfl).1)); have f15 := k212; have f16 := t220; have f17 := j9_31 hJ5 rfl; have f18 := t15; have f19 := b198; have g2 := rg32 x223; have z0 : (0 : Int32).toInt = 0 := (by decide); have z1 : (1 : Int32).toInt = 1 := (by decide); have z3 : (3 : Int32).toInt = 3 := (by decide); omega)
        refine lv_iload hx hb dX9_moves_76 (lv_at hl 0 rfl) ?_
        refine lv_iadd hx hb dX9_moves_78 ?_
        refine lv_topi (fun x227 ex227 => ?_)
        have t228 := addO ex227 (by have f0 := b198; have f1 := k212; have f2 := t220; have f3 := t226; have f4 := t206; have f5 := t218; have f6 := t224; have f7 := b183; have f8 := k191; have f9 := t204; have f10 := t216; have f11 := t222; have f12 := b22; have f13 := b23; have f14 := k176; have f15 := t202; have f16 := t214; have f17 := j9_31 hJ21 rfl; have f18 := congrArg Int32.toInt (show ((σ19 9).1 31) = ((σ2 9).1 31) from ((hF20 9 31 rfl).1).trans ((hF10 9 31 rfl).1)); have f19 := j9_31 hJ5 rfl; have f20 := t15; have g2 := rg32 (y194.2.1 0); have g3 := rg32 x225; have z0 : (0 : Int32).toInt = 0 := (by decide); have z1 : (1 : Int32).toInt = 1 := (by decide); have z3 : (3 : Int32).toInt = 3 := (by decide); omega)
        refine lv_iload hx hb dX9_moves_79 (lv_at hl 1 rfl) ?_
        refine va_calli (va_runV (As := [.int (y18.2.1 0), .int x227, .int (y179.2.1 0)]) (rest := [.int x219, .ref (g 46)]) ⟨hx, hb, hml, hown, hts⟩ (m_X9_fewestFrom l D cy g σ195 (y18.2.1 0) x227 (y179.2.1 0) _ hJ197 (show (0 : Int) ≤ (y18.2.1 0).toInt ∧ (y18.2.1 0).toInt ≤ 15 from (by have f0 := b22; have f1 := b23; have f2 := k176; have f3 := t202; have f4 := t214; have f5 := t222; have f6 := j9_31 hJ21 rfl; have f7 := congrArg Int32.toInt (show ((σ19 9).1 31) = ((σ2 9).1 31) from ((hF20 9 31 rfl).1).trans ((hF10 9 31 rfl).1)); have f8 := t204; have f9 := t216; have f10 := t224; have f11 := j9_31 hJ5 rfl; have f12 := t15; have f13 := b183; have f14 := k191; have f15 := t206; have f16 := t218; have f17 := t226; have f18 := k212; have f19 := t220; have f20 := t228; have f21 := b198; have g2 := rg32 (y18.2.1 0); have z0 : (0 : Int32).toInt = 0 := (by decide); have z1 : (1 : Int32).toInt = 1 := (by decide); have z3 : (3 : Int32).toInt = 3 := (by decide); omega)) (show (0 : Int) ≤ x227.toInt ∧ x227.toInt ≤ 4223 from (by have f0 := b22; have f1 := b23; have f2 := k176; have f3 := t202; have f4 := t214; have f5 := t222; have f6 := t228; have f7 := j9_31 hJ21 rfl; have f8 := congrArg Int32.toInt (show ((σ19 9).1 31) = ((σ2 9).1 31) from ((hF20 9 31 rfl).1).trans ((hF10 9 31 rfl).1)); have f9 := b198; have f10 := t204; have f11 := k212; have f12 := t216; have f13 := t220; have f14 := t224; have f15 := t226; have f16 := j9_31 hJ5 rfl; have f17 := t15; have f18 := b183; have f19 := k191; have f20 := t206; have f21 := t218; have g2 := rg32 (y18.2.1 0); have g3 := rg32 x227; have z0 : (0 : Int32).toInt = 0 := (by decide); have z1 : (1 : Int32).toInt = 1 := (by decide); have z3 : (3 : Int32).toInt = 3 := (by decide); omega)) (show (0 : Int) ≤ (y179.2.1 0).toInt ∧ (y179.2.1 0).toInt ≤ 2 from (by have f0 := b22; have f1 := b23; have f2 := k176; have f3 := b183; have f4 := k191; have f5 := t202; have f6 := t204; have f7 := t214; have f8 := t216; have f9 := t222; have f10 := t224; have f11 := t228; have f12 := j9_31 hJ21 rfl; have f13 := congrArg Int32.toInt (show ((σ19 9).1 31) = ((σ2 9).1 31) from ((hF20 9 31 rfl).1).trans ((hF10 9 31 rfl).1)); have f14 := b198; have f15 := t206; have f16 := k212; have f17 := t218; have f18 := t220; have f19 := t226; have f20 := j9_31 hJ5 rfl; have f21 := t15; have g2 := rg32 (y179.2.1 0); have g3 := rg32 (y18.2.1 0); have g4 := rg32 x227; have z0 : (0 : Int32).toInt = 0 := (by decide); have z1 : (1 : Int32).toInt = 1 := (by decide); have z3 : (3 : Int32).toInt = 3 := (by decide); omega)) (show (y18.2.1 0).toInt < ((σ195 9).1 31).toInt from (by have f0 := j9_31 hJ197 rfl; have f1 := congrArg Int32.toInt (show ((σ195 9).1 31) = ((σ2 9).1 31) from ((hF196 9 31 rfl).1).trans (((hF181 9 31 rfl).1).trans (((hF20 9 31 rfl).1).trans ((hF10 9 31 rfl).1)))); have f2 := b22; have f3 := b23; have f4 := k176; have f5 := t202; have f6 := t214; have f7 := t222; have f8 := j9_31 hJ21 rfl; have f9 := congrArg Int32.toInt (show ((σ19 9).1 31) = ((σ2 9).1 31) from ((hF20 9 31 rfl).1).trans ((hF10 9 31 rfl).1)); have f10 := j9_31 hJ5 rfl; have f11 := t15; have f12 := t204; have f13 := t216; have f14 := t224; have f15 := b183; have f16 := k191; have f17 := t206; have f18 := t218; have f19 := t226; have f20 := k212; have f21 := t220; have f22 := t228; have f23 := b198; have g3 := rg32 (y18.2.1 0); have z0 : (0 : Int32).toInt = 0 := (by decide); have z1 : (1 : Int32).toInt = 1 := (by decide); have z3 : (3 : Int32).toInt = 3 := (by decide); omega))) (cwV 3 hts (gd_V q1924 q1926 q103 q134 q1927) rfl rfl rfl (by decide +kernel) ⟨Nat.le_of_ble_eq_true rfl, Nat.le_of_ble_eq_true rfl⟩) (pv9 hP hK hD hC hS (va_recv hK hP (ci := 9) (q0 := 0) rfl rfl)) rfl rfl hl.1 rfl (lv_room (Nat.le_of_ble_eq_true rfl)) dX9_moves_81 ⟨Nat.le_of_ble_eq_true rfl, Nat.le_of_ble_eq_true rfl⟩) hS (fun q _ h => up9 hS q h) (up9 hS) (fun r229 σ230 tS H1 locs ht hvm hw231 hB hz1 hk1 hS => ?_)
        have hP : va_P D clz (WD9 cy g σ230) H1 := by rw [← ht]; exact hB
        clear hB hz1 hk1 hvm ht
        generalize H1 = H at hP hS ⊢
        have hw231E : σ195 = σ230 := (hw231.1).symm
        subst hw231E
        refine t9_46 hx hb hK hP hD hS (vpo (by have f0 := t220; have f1 := b198; have f2 := k212; have f3 := t218; have f4 := t228; have f5 := t206; have f6 := t216; have f7 := t226; have f8 := b183; have f9 := k191; have f10 := t204; have f11 := t214; have f12 := t224; have f13 := b22; have f14 := b23; have f15 := k176; have f16 := t202; have f17 := t222; have f18 := j9_31 hJ21 rfl; have f19 := congrArg Int32.toInt (show ((σ19 9).1 31) = ((σ2 9).1 31) from ((hF20 9 31 rfl).1).trans ((hF10 9 31 rfl).1)); have f20 := j9_31 hJ5 rfl; have f21 := t15; have g2 := rg32 x219; have z0 : (0 : Int32).toInt = 0 := (by decide); have z1 : (1 : Int32).toInt = 1 := (by decide); have z3 : (3 : Int32).toInt = 3 := (by decide); omega)) dX9_moves_84 (fun H locs σ232 eσ232 hP hS => ?_)
        have hJ233 : J9 (σ232 9) := hJ197.A eσ232 trivial
        have T234 : DK0 (σ232 9) := DK0.mv b199 ((sA_f eσ232) 9 17 rfl).2.2.1 ((sA_f eσ232) 9 18 rfl).2.2.1 ((sA_f eσ232) 9 19 rfl).2.2.1
        have T235 : HK (σ232 9) := HK.mv b200 ((sA_f eσ232) 9 18 rfl).2.2.1 ((sA_f eσ232) 9 28 rfl).1
        obtain ⟨x236, ex236⟩ : ∃ y : Int32, y = (y194.2.1 0) + 1 := ⟨_, rfl⟩
        have t237 := addO ex236 (by have f0 := b198; have f1 := k212; have f2 := t220; have f3 := t228; have f4 := t206; have f5 := t218; have f6 := t226; have f7 := t204; have f8 := t216; have f9 := t224; have f10 := b183; have f11 := k191; have f12 := t202; have f13 := t214; have f14 := t222; have f15 := b22; have f16 := b23; have f17 := k176; have f18 := j9_31 hJ21 rfl; have f19 := congrArg Int32.toInt (show ((σ19 9).1 31) = ((σ2 9).1 31) from ((hF20 9 31 rfl).1).trans ((hF10 9 31 rfl).1)); have f20 := j9_31 hJ5 rfl; have f21 := t15; have g2 := rg32 (y194.2.1 0); have z0 : (0 : Int32).toInt = 0 := (by decide); have z1 : (1 : Int32).toInt = 1 := (by decide); have z3 : (3 : Int32).toInt = 3 := (by decide); omega)
        refine lv_iinc (v := x236) (lv' := [(5, .int x236), (4, .int (y179.2.1 0)), (3, .int (y18.2.1 0)), (0, .ref (g 60)), (1, .int p1), (2, .int p2)]) hx hb dX9_moves_85 hl (k := 0) rfl (by rw [ex236]; rfl) (by decide) rfl (fun ls hl => ?_)
        refine lv_goto (tgt := 33) hx hb dX9_moves_88 (by decide) ?_
        have t238 : ((89 : Int) - x236.toInt).toNat < ((89 : Int) - (y194.2.1 0).toInt).toNat := (by have f0 := b198; have f1 := k212; have f2 := t220; have f3 := t228; have f4 := t237; have f5 := t206; have f6 := t218; have f7 := t226; have f8 := t204; have f9 := t216; have f10 := t224; have f11 := b183; have f12 := k191; have f13 := t202; have f14 := t214; have f15 := t222; have f16 := b22; have f17 := b23; have f18 := k176; have f19 := j9_31 hJ21 rfl; have f20 := congrArg Int32.toInt (show ((σ19 9).1 31) = ((σ2 9).1 31) from ((hF20 9 31 rfl).1).trans ((hF10 9 31 rfl).1)); have f21 := j9_31 hJ5 rfl; have f22 := t15; have g2 := rg32 (y194.2.1 0); have g3 := rg32 x236; have z0 : (0 : Int32).toInt = 0 := (by decide); have z1 : (1 : Int32).toInt = 1 := (by decide); have z3 : (3 : Int32).toInt = 3 := (by decide); omega)
        exact nl192 (σ232, lf [x236], lg []) ⟨Fr.tr (Fr.tr (Fr.rf) hF196 (fL_sub rfl)) (sA_f eσ232) (fN_L rfl), hJ233, (show (0 : Int) ≤ (x236 : Int32).toInt ∧ (x236 : Int32).toInt ≤ 88 from (by have f0 := t237; have f1 := b198; have f2 := k212; have f3 := t220; have f4 := t228; have f5 := t206; have f6 := t218; have f7 := t226; have f8 := t204; have f9 := t216; have f10 := t224; have f11 := b183; have f12 := k191; have f13 := t202; have f14 := t214; have f15 := t222; have f16 := b22; have f17 := b23; have f18 := k176; have f19 := j9_31 hJ21 rfl; have f20 := congrArg Int32.toInt (show ((σ19 9).1 31) = ((σ2 9).1 31) from ((hF20 9 31 rfl).1).trans ((hF10 9 31 rfl).1)); have f21 := j9_31 hJ5 rfl; have f22 := t15; have g2 := rg32 x236; have z0 : (0 : Int32).toInt = 0 := (by decide); have z1 : (1 : Int32).toInt = 1 := (by decide); have z3 : (3 : Int32).toInt = 3 := (by decide); omega)), (show DK0 (σ232 9) from T234), (show HK (σ232 9) from T235), trivial⟩ (show ((89 : Int) - x236.toInt).toNat < _ from by first | exact t238 | (rw [← eσ195]; exact t238)) _ _ _ hP hS (lv_sub hl [0, 1, 2, 3, 4, 5] rfl)

theorem q1915 : Cond.code yX9_moved cX9_moved 4 (some .int) ∈ lw_g := lw_gm (List.mem_of_getElem? (i := 1915) (by decide +kernel)) rfl
theorem q1916 : Cond.methodLink RX9 457 yX9_moves ∈ lw_g := lw_gm (List.mem_of_getElem? (i := 1916) (by decide +kernel)) rfl
theorem q1918 : Cond.instanceMethod yX9_moves ∈ lw_g := lw_gm (List.mem_of_getElem? (i := 1918) (by decide +kernel)) rfl
theorem q101 : Cond.selects RX9 yX9_moves yX9_moves ∈ lw_g := lw_gm (List.mem_of_getElem? (i := 101) (by decide +kernel)) rfl
theorem dX9_moved_0 : decode cX9_moved 0 = .ok (.aload_n 0, 1) := by decide +kernel
theorem dX9_moved_1 : decode cX9_moved 1 = .ok (.iconst 0, 1) := by decide +kernel
theorem dX9_moved_2 : decode cX9_moved 2 = .ok (.putfield 129, 3) := by decide +kernel
theorem dX9_moved_5 : decode cX9_moved 5 = .ok (.aload_n 0, 1) := by decide +kernel
theorem dX9_moved_6 : decode cX9_moved 6 = .ok (.iload_n 1, 1) := by decide +kernel
theorem dX9_moved_7 : decode cX9_moved 7 = .ok (.iload_n 2, 1) := by decide +kernel
theorem dX9_moved_8 : decode cX9_moved 8 = .ok (.invokevirtual 433, 3) := by decide +kernel
theorem dX9_moved_11 : decode cX9_moved 11 = .ok (.ifCond .ne 6, 3) := by decide +kernel
theorem dX9_moved_14 : decode cX9_moved 14 = .ok (.bipush (-2), 2) := by decide +kernel
theorem dX9_moved_16 : decode cX9_moved 16 = .ok (.ireturn, 1) := by decide +kernel
theorem dX9_moved_17 : decode cX9_moved 17 = .ok (.aload_n 0, 1) := by decide +kernel
theorem dX9_moved_18 : decode cX9_moved 18 = .ok (.iload_n 1, 1) := by decide +kernel
theorem dX9_moved_19 : decode cX9_moved 19 = .ok (.iload_n 2, 1) := by decide +kernel
theorem dX9_moved_20 : decode cX9_moved 20 = .ok (.invokevirtual 457, 3) := by decide +kernel
theorem dX9_moved_23 : decode cX9_moved 23 = .ok (.istore_n 3, 1) := by decide +kernel
theorem dX9_moved_24 : decode cX9_moved 24 = .ok (.iload_n 3, 1) := by decide +kernel
theorem dX9_moved_25 : decode cX9_moved 25 = .ok (.ldc 180, 2) := by decide +kernel
theorem dX9_moved_27 : decode cX9_moved 27 = .ok (.if_icmp .ne 7, 3) := by decide +kernel
theorem dX9_moved_30 : decode cX9_moved 30 = .ok (.iconst (-1), 1) := by decide +kernel
theorem dX9_moved_31 : decode cX9_moved 31 = .ok (.goto 4, 3) := by decide +kernel
theorem dX9_moved_34 : decode cX9_moved 34 = .ok (.iload_n 3, 1) := by decide +kernel
theorem dX9_moved_35 : decode cX9_moved 35 = .ok (.ireturn, 1) := by decide +kernel
set_option maxHeartbeats 4000000 in
set_option maxRecDepth 100000 in
theorem m_X9_moved (l : Launch) (D : va_G) (cy : Nat → ClassId) (g : Nat → Nat) (σ : ST) (p1 : Int32) (p2 : Int32) (sz : Nat) (hJ : J9 (σ 9)) (kDK0 : DK0 (σ 9)) : Met l yX9_moved (ww yX9_moved cX9_moved 4 (some .int)) ({ frames := 7, cells := 0, slots := 0, locals := 448 }) (va_Pc [.ref (g 60), .int p1, .int p2] (pr9 D cy g σ sz)) (qi9 D cy g sz (fun r τ => Fr (fL [0, 23, 24, 25, 26, 27, 28, 29, 30, 31, 32, 33, 34, 43, 44, 45, 46, 47, 48]) σ τ ∧ J9 (τ 9) ∧ True)) 0 0 (A9 cy g sz) := by
  refine Met.ofW (cc := cX9_moved) (maxL := 4) (ret := (some .int)) (by decide) rfl ?_
  intro p e s m args below meth c s₁ B hml hv
  obtain ⟨rfl, hsz, hP, hK, hD0, hC⟩ := hv
  have hx := B.exec
  have hb := B.bytes
  have hr := B.returns
  have hts := hts_g (atoms_spec (ws := ww yX9_moved cX9_moved 4 (some .int)) B.pre)
  have hown : s.vm.findClass RX9 = some m.cls := findClass_of_methodNamed B.named
  have hlocks := B.notSynchronized
  clear B
  subst hsz
  have hD := fun τ => A9_D (sz := s.heap.size) hD0 τ
  clear hD0
  have hS : va_S (A9 cy g s.heap.size) s.heap s.heap [] := va_S.rf
  have hl := lv_entry ([.ref (g 60), .int p1, .int p2]) (n := 4) (Nat.le_of_ble_eq_true rfl)
  rw [lg_entry_eq]
  generalize (lg_sl ([.ref (g 60), .int p1, .int p2]) ++ List.replicate (4 - (lg_sl ([.ref (g 60), .int p1, .int p2])).length) Slot.unset).toArray = ls at hl ⊢
  have hl : lv_has ls 4 [(0, .ref (g 60)), (1, .int p1), (2, .int p2)] := hl
  refine lv_aload_n hx hb dX9_moved_0 rfl (lv_at hl 0 rfl) ?_
  refine lv_iconst (v := 0) hx hb dX9_moved_1 (by decide) ?_
  refine p9_0 hx hb hts hown hK hP hD hS (hts _ q1360) dX9_moved_2 (fun H locs σ1 eσ1 hP hS => ?_)
  have hJ2 : J9 (σ1 9) := hJ.I eσ1 (show JI9 0 (0 : Int32) from trivial)
  have T3 : DK0 (σ1 9) := DK0.mv kDK0 ((sI_f eσ1) 9 17 rfl).2.2.1 ((sI_f eσ1) 9 18 rfl).2.2.1 ((sI_f eσ1) 9 19 rfl).2.2.1
  refine lv_aload_n hx hb dX9_moved_5 rfl (lv_at hl 0 rfl) ?_
  refine lv_iload_n hx hb dX9_moved_6 rfl (lv_at hl 1 rfl) ?_
  refine lv_iload_n hx hb dX9_moved_7 rfl (lv_at hl 2 rfl) ?_
  refine va_calli (va_runV (As := [.int p1, .int p2]) (rest := []) ⟨hx, hb, hml, hown, hts⟩ (m_X9_isPlaying l D cy g σ1 p1 p2 _ hJ2 ) (cwV 2 hts (gd_V q1822 q1824 q87 q134 q1825) rfl rfl rfl (by decide +kernel) ⟨Nat.le_of_ble_eq_true rfl, Nat.le_of_ble_eq_true rfl⟩) (pv9 hP hK hD hC hS (va_recv hK hP (ci := 9) (q0 := 0) rfl rfl)) rfl rfl hl.1 rfl (lv_room (Nat.le_of_ble_eq_true rfl)) dX9_moved_8 ⟨Nat.le_of_ble_eq_true rfl, Nat.le_of_ble_eq_true rfl⟩) hS (fun q _ h => up9 hS q h) (up9 hS) (fun r4 σ5 tS H1 locs ht hvm hw6 hB hz1 hk1 hS => ?_)
  have hP : va_P D clz (WD9 cy g σ5) H1 := by rw [← ht]; exact hB
  clear hB hz1 hk1 hvm ht
  generalize H1 = H at hP hS ⊢
  have hw6E : σ1 = σ5 := (hw6.1).symm
  subst hw6E
  have b7 : (0 : Int) ≤ r4.toInt ∧ r4.toInt ≤ 1 := hw6.2.1
  have b8 : (r4.toInt = 0) ∨ ((0 : Int) ≤ p1.toInt ∧ p1.toInt ≤ 8 ∧ (0 : Int) ≤ p2.toInt ∧ p2.toInt ≤ 2) := hw6.2.2.1
  have b9 : (r4.toInt = 0) ∨ (p1.toInt < ((σ1 9).2.2.1 17 3).toInt) := hw6.2.2.2.1
  refine lv_if_ne (tgt := 17) hx hb dX9_moved_11 (by decide) (fun c10 => ?_) (fun c10 => ?_)
  ·
    have k11 := neq32 c10
    refine lv_aload_n hx hb dX9_moved_17 rfl (lv_at hl 0 rfl) ?_
    refine lv_iload_n hx hb dX9_moved_18 rfl (lv_at hl 1 rfl) ?_
    refine lv_iload_n hx hb dX9_moved_19 rfl (lv_at hl 2 rfl) ?_
    refine va_calli (va_runV (As := [.int p1, .int p2]) (rest := []) ⟨hx, hb, hml, hown, hts⟩ (m_X9_moves l D cy g σ1 p1 p2 _ hJ2 T3 (show (0 : Int) ≤ p1.toInt ∧ p1.toInt ≤ 8 from (by have f0 := b8; have f1 := b9; have f2 := a9_17 hJ2 (j := 3) rfl; have f3 := congrArg Int32.toInt (show ((σ1 9).2.2.1 17 3) = ((σ 9).2.2.1 17 3) from congrFun (((sI_f eσ1) 9 17 rfl).2.2.1) _); have f4 := b7; have f5 := k11; have f6 := a9_17 hJ (j := 3) rfl; have g2 := rg32 p1; have z0 : (0 : Int32).toInt = 0 := (by decide); omega)) (show (0 : Int) ≤ p2.toInt ∧ p2.toInt ≤ 2 from (by have f0 := b8; have f1 := b9; have f2 := a9_17 hJ2 (j := 3) rfl; have f3 := congrArg Int32.toInt (show ((σ1 9).2.2.1 17 3) = ((σ 9).2.2.1 17 3) from congrFun (((sI_f eσ1) 9 17 rfl).2.2.1) _); have f4 := b7; have f5 := k11; have f6 := a9_17 hJ (j := 3) rfl; have g2 := rg32 p1; have g3 := rg32 p2; have z0 : (0 : Int32).toInt = 0 := (by decide); omega)) (show p1.toInt < ((σ1 9).2.2.1 17 3).toInt from (by have f0 := a9_17 hJ2 (j := 3) rfl; have f1 := congrArg Int32.toInt (show ((σ1 9).2.2.1 17 3) = ((σ 9).2.2.1 17 3) from congrFun (((sI_f eσ1) 9 17 rfl).2.2.1) _); have f2 := b8; have f3 := b9; have f4 := a9_17 hJ (j := 3) rfl; have f5 := b7; have f6 := k11; have g2 := rg32 p1; have z0 : (0 : Int32).toInt = 0 := (by decide); omega))) (cwV 2 hts (gd_V q1916 q1918 q101 q134 q1919) rfl rfl rfl (by decide +kernel) ⟨Nat.le_of_ble_eq_true rfl, Nat.le_of_ble_eq_true rfl⟩) (pv9 hP hK hD hC hS (va_recv hK hP (ci := 9) (q0 := 0) rfl rfl)) rfl rfl hl.1 rfl (lv_room (Nat.le_of_ble_eq_true rfl)) dX9_moved_20 ⟨Nat.le_of_ble_eq_true rfl, Nat.le_of_ble_eq_true rfl⟩) hS (fun q _ h => up9 hS q h) (up9 hS) (fun r12 σ13 tS H1 locs ht hvm hw14 hB hz1 hk1 hS => ?_)
    have hP : va_P D clz (WD9 cy g σ13) H1 := by rw [← ht]; exact hB
    clear hB hz1 hk1 hvm ht
    generalize H1 = H at hP hS ⊢
    have hF15 : Fr (fL [23, 24, 25, 26, 27, 28, 29, 30, 31, 32, 33, 34, 43, 44, 45, 46, 47, 48]) σ1 σ13 := hw14.1
    have hJ16 : J9 (σ13 9) := hw14.2.1
    have T17 : DK0 (σ13 9) := DK0.mv T3 (hF15 9 17 rfl).2.2.1 (hF15 9 18 rfl).2.2.1 (hF15 9 19 rfl).2.2.1
    refine lv_istore_n (lv' := [(3, .int r12), (0, .ref (g 60)), (1, .int p1), (2, .int p2)]) hx hb dX9_moved_23 rfl hl (by decide) rfl (fun ls hl => ?_)
    refine lv_iload_n hx hb dX9_moved_24 rfl (lv_at hl 0 rfl) ?_
    refine lv_ldc (v := 1000000) hx hb hown (hts _ q1604) dX9_moved_25 ?_
    refine lv_icmp_ne (tgt := 34) hx hb dX9_moved_27 (by decide) (fun c18 => ?_) (fun c18 => ?_)
    ·
      have k19 := neq32 c18
      refine lv_iload_n hx hb dX9_moved_34 rfl (lv_at hl 0 rfl) ?_
      exact W.iret (v := r12) hx hb hr (fun tS ht hW => ⟨⟨r12, σ13, rfl, ⟨Fr.tr (Fr.tr (Fr.rf) (sI_f eσ1) (fN_L rfl)) hF15 (fL_sub rfl), hJ16, trivial⟩, (show va_P D clz (WD9 cy g σ13) tS.heap by rw [ht]; exact hP)⟩, hS.F ht⟩) hS.2.2 dX9_moved_35
    ·
      have k20 := peq32 c18
      refine lv_iconst (v := (-1)) hx hb dX9_moved_30 (by decide) ?_
      refine lv_goto (tgt := 35) hx hb dX9_moved_31 (by decide) ?_
      exact W.iret (v := (-1)) hx hb hr (fun tS ht hW => ⟨⟨(-1), σ13, rfl, ⟨Fr.tr (Fr.tr (Fr.rf) (sI_f eσ1) (fN_L rfl)) hF15 (fL_sub rfl), hJ16, trivial⟩, (show va_P D clz (WD9 cy g σ13) tS.heap by rw [ht]; exact hP)⟩, hS.F ht⟩) hS.2.2 dX9_moved_35
  ·
    have k21 := peq32 c10
    refine lv_bipush (v := (-2)) hx hb dX9_moved_14 (by decide) ?_
    exact W.iret (v := (-2)) hx hb hr (fun tS ht hW => ⟨⟨(-2), σ1, rfl, ⟨Fr.tr (Fr.rf) (sI_f eσ1) (fN_L rfl), hJ2, trivial⟩, (show va_P D clz (WD9 cy g σ1) tS.heap by rw [ht]; exact hP)⟩, hS.F ht⟩) hS.2.2 dX9_moved_16

theorem q1939 : Cond.code yX9_put cX9_put 5 (some .int) ∈ lw_g := lw_gm (List.mem_of_getElem? (i := 1939) (by decide +kernel)) rfl
theorem dX9_put_0 : decode cX9_put 0 = .ok (.aload_n 0, 1) := by decide +kernel
theorem dX9_put_1 : decode cX9_put 1 = .ok (.iconst 0, 1) := by decide +kernel
theorem dX9_put_2 : decode cX9_put 2 = .ok (.putfield 129, 3) := by decide +kernel
theorem dX9_put_5 : decode cX9_put 5 = .ok (.aload_n 0, 1) := by decide +kernel
theorem dX9_put_6 : decode cX9_put 6 = .ok (.iload_n 1, 1) := by decide +kernel
theorem dX9_put_7 : decode cX9_put 7 = .ok (.iload_n 2, 1) := by decide +kernel
theorem dX9_put_8 : decode cX9_put 8 = .ok (.invokevirtual 433, 3) := by decide +kernel
theorem dX9_put_11 : decode cX9_put 11 = .ok (.ifCond .ne 6, 3) := by decide +kernel
theorem dX9_put_14 : decode cX9_put 14 = .ok (.bipush (-2), 2) := by decide +kernel
theorem dX9_put_16 : decode cX9_put 16 = .ok (.ireturn, 1) := by decide +kernel
theorem dX9_put_17 : decode cX9_put 17 = .ok (.aload_n 0, 1) := by decide +kernel
theorem dX9_put_18 : decode cX9_put 18 = .ok (.iload_n 1, 1) := by decide +kernel
theorem dX9_put_19 : decode cX9_put 19 = .ok (.iload_n 2, 1) := by decide +kernel
theorem dX9_put_20 : decode cX9_put 20 = .ok (.invokevirtual 457, 3) := by decide +kernel
theorem dX9_put_23 : decode cX9_put 23 = .ok (.ldc 180, 2) := by decide +kernel
theorem dX9_put_25 : decode cX9_put 25 = .ok (.if_icmp .ne 5, 3) := by decide +kernel
theorem dX9_put_28 : decode cX9_put 28 = .ok (.iconst (-1), 1) := by decide +kernel
theorem dX9_put_29 : decode cX9_put 29 = .ok (.ireturn, 1) := by decide +kernel
theorem dX9_put_30 : decode cX9_put 30 = .ok (.aload_n 0, 1) := by decide +kernel
theorem dX9_put_31 : decode cX9_put 31 = .ok (.iload_n 3, 1) := by decide +kernel
theorem dX9_put_32 : decode cX9_put 32 = .ok (.invokevirtual 439, 3) := by decide +kernel
theorem dX9_put_35 : decode cX9_put 35 = .ok (.istore 4, 2) := by decide +kernel
theorem dX9_put_37 : decode cX9_put 37 = .ok (.iload 4, 2) := by decide +kernel
theorem dX9_put_39 : decode cX9_put 39 = .ok (.iconst (-1), 1) := by decide +kernel
theorem dX9_put_40 : decode cX9_put 40 = .ok (.if_icmp .ne 7, 3) := by decide +kernel
theorem dX9_put_43 : decode cX9_put 43 = .ok (.iconst (-1), 1) := by decide +kernel
theorem dX9_put_44 : decode cX9_put 44 = .ok (.goto 15, 3) := by decide +kernel
theorem dX9_put_47 : decode cX9_put 47 = .ok (.bipush 12, 2) := by decide +kernel
theorem dX9_put_49 : decode cX9_put 49 = .ok (.aload_n 0, 1) := by decide +kernel
theorem dX9_put_50 : decode cX9_put 50 = .ok (.getfield 104, 3) := by decide +kernel
theorem dX9_put_53 : decode cX9_put 53 = .ok (.iload 4, 2) := by decide +kernel
theorem dX9_put_55 : decode cX9_put 55 = .ok (.iaload, 1) := by decide +kernel
theorem dX9_put_56 : decode cX9_put 56 = .ok (.iconst 1, 1) := by decide +kernel
theorem dX9_put_57 : decode cX9_put 57 = .ok (.isub, 1) := by decide +kernel
theorem dX9_put_58 : decode cX9_put 58 = .ok (.imul, 1) := by decide +kernel
theorem dX9_put_59 : decode cX9_put 59 = .ok (.ireturn, 1) := by decide +kernel
set_option maxHeartbeats 4000000 in
set_option maxRecDepth 100000 in
theorem m_X9_put (l : Launch) (D : va_G) (cy : Nat → ClassId) (g : Nat → Nat) (σ : ST) (p1 : Int32) (p2 : Int32) (p3 : Int32) (sz : Nat) (hJ : J9 (σ 9)) (kDK0 : DK0 (σ 9)) : Met l yX9_put (ww yX9_put cX9_put 5 (some .int)) ({ frames := 7, cells := 0, slots := 0, locals := 448 }) (va_Pc [.ref (g 60), .int p1, .int p2, .int p3] (pr9 D cy g σ sz)) (qi9 D cy g sz (fun r τ => Fr (fL [0, 23, 24, 25, 26, 27, 28, 29, 30, 31, 32, 33, 34, 43, 44, 45, 46, 47, 48]) σ τ ∧ J9 (τ 9) ∧ True)) 0 0 (A9 cy g sz) := by
  refine Met.ofW (cc := cX9_put) (maxL := 5) (ret := (some .int)) (by decide) rfl ?_
  intro p e s m args below meth c s₁ B hml hv
  obtain ⟨rfl, hsz, hP, hK, hD0, hC⟩ := hv
  have hx := B.exec
  have hb := B.bytes
  have hr := B.returns
  have hts := hts_g (atoms_spec (ws := ww yX9_put cX9_put 5 (some .int)) B.pre)
  have hown : s.vm.findClass RX9 = some m.cls := findClass_of_methodNamed B.named
  have hlocks := B.notSynchronized
  clear B
  subst hsz
  have hD := fun τ => A9_D (sz := s.heap.size) hD0 τ
  clear hD0
  have hS : va_S (A9 cy g s.heap.size) s.heap s.heap [] := va_S.rf
  have hl := lv_entry ([.ref (g 60), .int p1, .int p2, .int p3]) (n := 5) (Nat.le_of_ble_eq_true rfl)
  rw [lg_entry_eq]
  generalize (lg_sl ([.ref (g 60), .int p1, .int p2, .int p3]) ++ List.replicate (5 - (lg_sl ([.ref (g 60), .int p1, .int p2, .int p3])).length) Slot.unset).toArray = ls at hl ⊢
  have hl : lv_has ls 5 [(0, .ref (g 60)), (1, .int p1), (2, .int p2), (3, .int p3)] := hl
  refine lv_aload_n hx hb dX9_put_0 rfl (lv_at hl 0 rfl) ?_
  refine lv_iconst (v := 0) hx hb dX9_put_1 (by decide) ?_
  refine p9_0 hx hb hts hown hK hP hD hS (hts _ q1360) dX9_put_2 (fun H locs σ1 eσ1 hP hS => ?_)
  have hJ2 : J9 (σ1 9) := hJ.I eσ1 (show JI9 0 (0 : Int32) from trivial)
  have T3 : DK0 (σ1 9) := DK0.mv kDK0 ((sI_f eσ1) 9 17 rfl).2.2.1 ((sI_f eσ1) 9 18 rfl).2.2.1 ((sI_f eσ1) 9 19 rfl).2.2.1
  refine lv_aload_n hx hb dX9_put_5 rfl (lv_at hl 0 rfl) ?_
  refine lv_iload_n hx hb dX9_put_6 rfl (lv_at hl 1 rfl) ?_
  refine lv_iload_n hx hb dX9_put_7 rfl (lv_at hl 2 rfl) ?_
  refine va_calli (va_runV (As := [.int p1, .int p2]) (rest := []) ⟨hx, hb, hml, hown, hts⟩ (m_X9_isPlaying l D cy g σ1 p1 p2 _ hJ2 ) (cwV 2 hts (gd_V q1822 q1824 q87 q134 q1825) rfl rfl rfl (by decide +kernel) ⟨Nat.le_of_ble_eq_true rfl, Nat.le_of_ble_eq_true rfl⟩) (pv9 hP hK hD hC hS (va_recv hK hP (ci := 9) (q0 := 0) rfl rfl)) rfl rfl hl.1 rfl (lv_room (Nat.le_of_ble_eq_true rfl)) dX9_put_8 ⟨Nat.le_of_ble_eq_true rfl, Nat.le_of_ble_eq_true rfl⟩) hS (fun q _ h => up9 hS q h) (up9 hS) (fun r4 σ5 tS H1 locs ht hvm hw6 hB hz1 hk1 hS => ?_)
  have hP : va_P D clz (WD9 cy g σ5) H1 := by rw [← ht]; exact hB
  clear hB hz1 hk1 hvm ht
  generalize H1 = H at hP hS ⊢
  have hw6E : σ1 = σ5 := (hw6.1).symm
  subst hw6E
  have b7 : (0 : Int) ≤ r4.toInt ∧ r4.toInt ≤ 1 := hw6.2.1
  have b8 : (r4.toInt = 0) ∨ ((0 : Int) ≤ p1.toInt ∧ p1.toInt ≤ 8 ∧ (0 : Int) ≤ p2.toInt ∧ p2.toInt ≤ 2) := hw6.2.2.1
  have b9 : (r4.toInt = 0) ∨ (p1.toInt < ((σ1 9).2.2.1 17 3).toInt) := hw6.2.2.2.1
  refine lv_if_ne (tgt := 17) hx hb dX9_put_11 (by decide) (fun c10 => ?_) (fun c10 => ?_)
  ·
    have k11 := neq32 c10
    refine lv_aload_n hx hb dX9_put_17 rfl (lv_at hl 0 rfl) ?_
    refine lv_iload_n hx hb dX9_put_18 rfl (lv_at hl 1 rfl) ?_
    refine lv_iload_n hx hb dX9_put_19 rfl (lv_at hl 2 rfl) ?_
    refine va_calli (va_runV (As := [.int p1, .int p2]) (rest := []) ⟨hx, hb, hml, hown, hts⟩ (m_X9_moves l D cy g σ1 p1 p2 _ hJ2 T3 (show (0 : Int) ≤ p1.toInt ∧ p1.toInt ≤ 8 from (by have f0 := b8; have f1 := b9; have f2 := a9_17 hJ2 (j := 3) rfl; have f3 := congrArg Int32.toInt (show ((σ1 9).2.2.1 17 3) = ((σ 9).2.2.1 17 3) from congrFun (((sI_f eσ1) 9 17 rfl).2.2.1) _); have f4 := b7; have f5 := k11; have f6 := a9_17 hJ (j := 3) rfl; have g2 := rg32 p1; have z0 : (0 : Int32).toInt = 0 := (by decide); omega)) (show (0 : Int) ≤ p2.toInt ∧ p2.toInt ≤ 2 from (by have f0 := b8; have f1 := b9; have f2 := a9_17 hJ2 (j := 3) rfl; have f3 := congrArg Int32.toInt (show ((σ1 9).2.2.1 17 3) = ((σ 9).2.2.1 17 3) from congrFun (((sI_f eσ1) 9 17 rfl).2.2.1) _); have f4 := b7; have f5 := k11; have f6 := a9_17 hJ (j := 3) rfl; have g2 := rg32 p1; have g3 := rg32 p2; have z0 : (0 : Int32).toInt = 0 := (by decide); omega)) (show p1.toInt < ((σ1 9).2.2.1 17 3).toInt from (by have f0 := a9_17 hJ2 (j := 3) rfl; have f1 := congrArg Int32.toInt (show ((σ1 9).2.2.1 17 3) = ((σ 9).2.2.1 17 3) from congrFun (((sI_f eσ1) 9 17 rfl).2.2.1) _); have f2 := b8; have f3 := b9; have f4 := a9_17 hJ (j := 3) rfl; have f5 := b7; have f6 := k11; have g2 := rg32 p1; have z0 : (0 : Int32).toInt = 0 := (by decide); omega))) (cwV 2 hts (gd_V q1916 q1918 q101 q134 q1919) rfl rfl rfl (by decide +kernel) ⟨Nat.le_of_ble_eq_true rfl, Nat.le_of_ble_eq_true rfl⟩) (pv9 hP hK hD hC hS (va_recv hK hP (ci := 9) (q0 := 0) rfl rfl)) rfl rfl hl.1 rfl (lv_room (Nat.le_of_ble_eq_true rfl)) dX9_put_20 ⟨Nat.le_of_ble_eq_true rfl, Nat.le_of_ble_eq_true rfl⟩) hS (fun q _ h => up9 hS q h) (up9 hS) (fun r12 σ13 tS H1 locs ht hvm hw14 hB hz1 hk1 hS => ?_)
    have hP : va_P D clz (WD9 cy g σ13) H1 := by rw [← ht]; exact hB
    clear hB hz1 hk1 hvm ht
    generalize H1 = H at hP hS ⊢
    have hF15 : Fr (fL [23, 24, 25, 26, 27, 28, 29, 30, 31, 32, 33, 34, 43, 44, 45, 46, 47, 48]) σ1 σ13 := hw14.1
    have hJ16 : J9 (σ13 9) := hw14.2.1
    have T17 : DK0 (σ13 9) := DK0.mv T3 (hF15 9 17 rfl).2.2.1 (hF15 9 18 rfl).2.2.1 (hF15 9 19 rfl).2.2.1
    refine lv_ldc (v := 1000000) hx hb hown (hts _ q1604) dX9_put_23 ?_
    refine lv_icmp_ne (tgt := 30) hx hb dX9_put_25 (by decide) (fun c18 => ?_) (fun c18 => ?_)
    ·
      have k19 := neq32 c18
      refine lv_aload_n hx hb dX9_put_30 rfl (lv_at hl 0 rfl) ?_
      refine lv_iload_n hx hb dX9_put_31 rfl (lv_at hl 3 rfl) ?_
      refine va_calli (va_runV (As := [.int p3]) (rest := []) ⟨hx, hb, hml, hown, hts⟩ (m_X9_soundOf l D cy g σ13 p3 _ hJ16 ) (cwV 1 hts (gd_V q1884 q1886 q99 q134 q1887) rfl rfl rfl (by decide +kernel) ⟨Nat.le_of_ble_eq_true rfl, Nat.le_of_ble_eq_true rfl⟩) (pv9 hP hK hD hC hS (va_recv hK hP (ci := 9) (q0 := 0) rfl rfl)) rfl rfl hl.1 rfl (lv_room (Nat.le_of_ble_eq_true rfl)) dX9_put_32 ⟨Nat.le_of_ble_eq_true rfl, Nat.le_of_ble_eq_true rfl⟩) hS (fun q _ h => up9 hS q h) (up9 hS) (fun r20 σ21 tS H1 locs ht hvm hw22 hB hz1 hk1 hS => ?_)
      have hP : va_P D clz (WD9 cy g σ21) H1 := by rw [← ht]; exact hB
      clear hB hz1 hk1 hvm ht
      generalize H1 = H at hP hS ⊢
      have hw22E : σ13 = σ21 := (hw22.1).symm
      subst hw22E
      have b23 : (-1 : Int) ≤ r20.toInt ∧ r20.toInt ≤ 15 := hw22.2.1
      refine lv_istore (lv' := [(4, .int r20), (0, .ref (g 60)), (1, .int p1), (2, .int p2), (3, .int p3)]) hx hb dX9_put_35 hl (by decide) rfl (fun ls hl => ?_)
      refine lv_iload hx hb dX9_put_37 (lv_at hl 0 rfl) ?_
      refine lv_iconst (v := (-1)) hx hb dX9_put_39 (by decide) ?_
      refine lv_icmp_ne (tgt := 47) hx hb dX9_put_40 (by decide) (fun c24 => ?_) (fun c24 => ?_)
      ·
        have k25 := neq32 c24
        refine lv_bipush (v := 12) hx hb dX9_put_47 (by decide) ?_
        refine lv_aload_n hx hb dX9_put_49 rfl (lv_at hl 1 rfl) ?_
        refine g9_48 hx hb hts hown hK hP (hts _ q1408) dX9_put_50 ?_
        refine lv_iload hx hb dX9_put_53 (lv_at hl 0 rfl) ?_
        obtain ⟨x26, ex26⟩ : ∃ z, (σ13 9).2.2.1 48 r20.toInt.toNat = z := ⟨_, rfl⟩
        refine l9_48 (x := x26) hx hb hK hP (vpo (by have f0 := b23; have f1 := k25; have g0 := rg32 r20; have zm1 : ((-1) : Int32).toInt = (-1) := (by decide); omega)) ex26 dX9_put_55 ?_
        have t27 := a9_48 hJ16 ex26
        refine lv_iconst (v := 1) hx hb dX9_put_56 (by decide) ?_
        refine lv_isub hx hb dX9_put_57 ?_
        refine lv_topi (fun x28 ex28 => ?_)
        have t29 := subO ex28 (by have f0 := t27; have f1 := b23; have f2 := k25; have g0 := rg32 x26; have zm1 : ((-1) : Int32).toInt = (-1) := (by decide); have z1 : (1 : Int32).toInt = 1 := (by decide); omega)
        refine lv_imul hx hb dX9_put_58 ?_
        refine lv_topi (fun x30 ex30 => ?_)
        have t31 := mulC' (n := 12) ex30 (by decide) (by have f0 := t29; have f1 := t27; have f2 := b23; have f3 := k25; have g0 := rg32 x28; have zm1 : ((-1) : Int32).toInt = (-1) := (by decide); have z1 : (1 : Int32).toInt = 1 := (by decide); omega)
        exact W.iret (v := x30) hx hb hr (fun tS ht hW => ⟨⟨x30, σ13, rfl, ⟨Fr.tr (Fr.tr (Fr.rf) (sI_f eσ1) (fN_L rfl)) hF15 (fL_sub rfl), hJ16, trivial⟩, (show va_P D clz (WD9 cy g σ13) tS.heap by rw [ht]; exact hP)⟩, hS.F ht⟩) hS.2.2 dX9_put_59
      ·
        have k32 := peq32 c24
        refine lv_iconst (v := (-1)) hx hb dX9_put_43 (by decide) ?_
        refine lv_goto (tgt := 59) hx hb dX9_put_44 (by decide) ?_
        exact W.iret (v := (-1)) hx hb hr (fun tS ht hW => ⟨⟨(-1), σ13, rfl, ⟨Fr.tr (Fr.tr (Fr.rf) (sI_f eσ1) (fN_L rfl)) hF15 (fL_sub rfl), hJ16, trivial⟩, (show va_P D clz (WD9 cy g σ13) tS.heap by rw [ht]; exact hP)⟩, hS.F ht⟩) hS.2.2 dX9_put_59
    ·
      have k33 := peq32 c18
      refine lv_iconst (v := (-1)) hx hb dX9_put_28 (by decide) ?_
      exact W.iret (v := (-1)) hx hb hr (fun tS ht hW => ⟨⟨(-1), σ13, rfl, ⟨Fr.tr (Fr.tr (Fr.rf) (sI_f eσ1) (fN_L rfl)) hF15 (fL_sub rfl), hJ16, trivial⟩, (show va_P D clz (WD9 cy g σ13) tS.heap by rw [ht]; exact hP)⟩, hS.F ht⟩) hS.2.2 dX9_put_29
  ·
    have k34 := peq32 c10
    refine lv_bipush (v := (-2)) hx hb dX9_put_14 (by decide) ?_
    exact W.iret (v := (-2)) hx hb hr (fun tS ht hW => ⟨⟨(-2), σ1, rfl, ⟨Fr.tr (Fr.rf) (sI_f eσ1) (fN_L rfl), hJ2, trivial⟩, (show va_P D clz (WD9 cy g σ1) tS.heap by rw [ht]; exact hP)⟩, hS.F ht⟩) hS.2.2 dX9_put_16

