theorem q1923 : Cond.code yX9_laysOctaves cX9_laysOctaves 4 none ∈ lw_g := lw_gm (List.mem_of_getElem? (i := 1923) (by decide +kernel)) rfl
theorem q1403 : Cond.fieldLink RX9 89 "LipsAndSlidesModel" "octaveMany" "[I" ∈ lw_g := lw_gm (List.mem_of_getElem? (i := 1403) (by decide +kernel)) rfl
theorem dX9_laysOctaves_0 : decode cX9_laysOctaves 0 = .ok (.iconst 0, 1) := by decide +kernel
theorem dX9_laysOctaves_1 : decode cX9_laysOctaves 1 = .ok (.istore_n 1, 1) := by decide +kernel
theorem dX9_laysOctaves_2 : decode cX9_laysOctaves 2 = .ok (.iload_n 1, 1) := by decide +kernel
theorem dX9_laysOctaves_3 : decode cX9_laysOctaves 3 = .ok (.aload_n 0, 1) := by decide +kernel
theorem dX9_laysOctaves_4 : decode cX9_laysOctaves 4 = .ok (.getfield 387, 3) := by decide +kernel
theorem dX9_laysOctaves_7 : decode cX9_laysOctaves 7 = .ok (.if_icmp .ge 146, 3) := by decide +kernel
theorem dX9_laysOctaves_10 : decode cX9_laysOctaves 10 = .ok (.iconst 0, 1) := by decide +kernel
theorem dX9_laysOctaves_11 : decode cX9_laysOctaves 11 = .ok (.istore_n 2, 1) := by decide +kernel
theorem dX9_laysOctaves_12 : decode cX9_laysOctaves 12 = .ok (.iload_n 2, 1) := by decide +kernel
theorem dX9_laysOctaves_13 : decode cX9_laysOctaves 13 = .ok (.iconst 3, 1) := by decide +kernel
theorem dX9_laysOctaves_14 : decode cX9_laysOctaves 14 = .ok (.if_icmp .ge 133, 3) := by decide +kernel
theorem dX9_laysOctaves_17 : decode cX9_laysOctaves 17 = .ok (.aload_n 0, 1) := by decide +kernel
theorem dX9_laysOctaves_18 : decode cX9_laysOctaves 18 = .ok (.bipush 16, 2) := by decide +kernel
theorem dX9_laysOctaves_20 : decode cX9_laysOctaves 20 = .ok (.aload_n 0, 1) := by decide +kernel
theorem dX9_laysOctaves_21 : decode cX9_laysOctaves 21 = .ok (.getfield 378, 3) := by decide +kernel
theorem dX9_laysOctaves_24 : decode cX9_laysOctaves 24 = .ok (.aload_n 0, 1) := by decide +kernel
theorem dX9_laysOctaves_25 : decode cX9_laysOctaves 25 = .ok (.aload_n 0, 1) := by decide +kernel
theorem dX9_laysOctaves_26 : decode cX9_laysOctaves 26 = .ok (.getfield 384, 3) := by decide +kernel
theorem dX9_laysOctaves_29 : decode cX9_laysOctaves 29 = .ok (.aload_n 0, 1) := by decide +kernel
theorem dX9_laysOctaves_30 : decode cX9_laysOctaves 30 = .ok (.getfield 65, 3) := by decide +kernel
theorem dX9_laysOctaves_33 : decode cX9_laysOctaves 33 = .ok (.iload_n 1, 1) := by decide +kernel
theorem dX9_laysOctaves_34 : decode cX9_laysOctaves 34 = .ok (.iaload, 1) := by decide +kernel
theorem dX9_laysOctaves_35 : decode cX9_laysOctaves 35 = .ok (.iconst 0, 1) := by decide +kernel
theorem dX9_laysOctaves_36 : decode cX9_laysOctaves 36 = .ok (.invokevirtual 308, 3) := by decide +kernel
theorem dX9_laysOctaves_39 : decode cX9_laysOctaves 39 = .ok (.bipush 12, 2) := by decide +kernel
theorem dX9_laysOctaves_41 : decode cX9_laysOctaves 41 = .ok (.iload_n 2, 1) := by decide +kernel
theorem dX9_laysOctaves_42 : decode cX9_laysOctaves 42 = .ok (.iconst 1, 1) := by decide +kernel
theorem dX9_laysOctaves_43 : decode cX9_laysOctaves 43 = .ok (.isub, 1) := by decide +kernel
theorem dX9_laysOctaves_44 : decode cX9_laysOctaves 44 = .ok (.imul, 1) := by decide +kernel
theorem dX9_laysOctaves_45 : decode cX9_laysOctaves 45 = .ok (.iadd, 1) := by decide +kernel
theorem dX9_laysOctaves_46 : decode cX9_laysOctaves 46 = .ok (.aload_n 0, 1) := by decide +kernel
theorem dX9_laysOctaves_47 : decode cX9_laysOctaves 47 = .ok (.getfield 34, 3) := by decide +kernel
theorem dX9_laysOctaves_50 : decode cX9_laysOctaves 50 = .ok (.iconst 0, 1) := by decide +kernel
theorem dX9_laysOctaves_51 : decode cX9_laysOctaves 51 = .ok (.iaload, 1) := by decide +kernel
theorem dX9_laysOctaves_52 : decode cX9_laysOctaves 52 = .ok (.invokevirtual 371, 3) := by decide +kernel
theorem dX9_laysOctaves_55 : decode cX9_laysOctaves 55 = .ok (.aload_n 0, 1) := by decide +kernel
theorem dX9_laysOctaves_56 : decode cX9_laysOctaves 56 = .ok (.getfield 89, 3) := by decide +kernel
theorem dX9_laysOctaves_59 : decode cX9_laysOctaves 59 = .ok (.iconst 3, 1) := by decide +kernel
theorem dX9_laysOctaves_60 : decode cX9_laysOctaves 60 = .ok (.iload_n 1, 1) := by decide +kernel
theorem dX9_laysOctaves_61 : decode cX9_laysOctaves 61 = .ok (.imul, 1) := by decide +kernel
theorem dX9_laysOctaves_62 : decode cX9_laysOctaves 62 = .ok (.iload_n 2, 1) := by decide +kernel
theorem dX9_laysOctaves_63 : decode cX9_laysOctaves 63 = .ok (.iadd, 1) := by decide +kernel
theorem dX9_laysOctaves_64 : decode cX9_laysOctaves 64 = .ok (.aload_n 0, 1) := by decide +kernel
theorem dX9_laysOctaves_65 : decode cX9_laysOctaves 65 = .ok (.getfield 53, 3) := by decide +kernel
theorem dX9_laysOctaves_68 : decode cX9_laysOctaves 68 = .ok (.bipush 16, 2) := by decide +kernel
theorem dX9_laysOctaves_70 : decode cX9_laysOctaves 70 = .ok (.iaload, 1) := by decide +kernel
theorem dX9_laysOctaves_71 : decode cX9_laysOctaves 71 = .ok (.iastore, 1) := by decide +kernel
theorem dX9_laysOctaves_72 : decode cX9_laysOctaves 72 = .ok (.iconst 0, 1) := by decide +kernel
theorem dX9_laysOctaves_73 : decode cX9_laysOctaves 73 = .ok (.istore_n 3, 1) := by decide +kernel
theorem dX9_laysOctaves_74 : decode cX9_laysOctaves 74 = .ok (.iload_n 3, 1) := by decide +kernel
theorem dX9_laysOctaves_75 : decode cX9_laysOctaves 75 = .ok (.aload_n 0, 1) := by decide +kernel
theorem dX9_laysOctaves_76 : decode cX9_laysOctaves 76 = .ok (.getfield 53, 3) := by decide +kernel
theorem dX9_laysOctaves_79 : decode cX9_laysOctaves 79 = .ok (.bipush 16, 2) := by decide +kernel
theorem dX9_laysOctaves_81 : decode cX9_laysOctaves 81 = .ok (.iaload, 1) := by decide +kernel
theorem dX9_laysOctaves_82 : decode cX9_laysOctaves 82 = .ok (.if_icmp .ge 59, 3) := by decide +kernel
theorem dX9_laysOctaves_85 : decode cX9_laysOctaves 85 = .ok (.aload_n 0, 1) := by decide +kernel
theorem dX9_laysOctaves_86 : decode cX9_laysOctaves 86 = .ok (.getfield 92, 3) := by decide +kernel
theorem dX9_laysOctaves_89 : decode cX9_laysOctaves 89 = .ok (.bipush 88, 2) := by decide +kernel
theorem dX9_laysOctaves_91 : decode cX9_laysOctaves 91 = .ok (.iconst 3, 1) := by decide +kernel
theorem dX9_laysOctaves_92 : decode cX9_laysOctaves 92 = .ok (.iload_n 1, 1) := by decide +kernel
theorem dX9_laysOctaves_93 : decode cX9_laysOctaves 93 = .ok (.imul, 1) := by decide +kernel
theorem dX9_laysOctaves_94 : decode cX9_laysOctaves 94 = .ok (.iload_n 2, 1) := by decide +kernel
theorem dX9_laysOctaves_95 : decode cX9_laysOctaves 95 = .ok (.iadd, 1) := by decide +kernel
theorem dX9_laysOctaves_96 : decode cX9_laysOctaves 96 = .ok (.imul, 1) := by decide +kernel
theorem dX9_laysOctaves_97 : decode cX9_laysOctaves 97 = .ok (.iload_n 3, 1) := by decide +kernel
theorem dX9_laysOctaves_98 : decode cX9_laysOctaves 98 = .ok (.iadd, 1) := by decide +kernel
theorem dX9_laysOctaves_99 : decode cX9_laysOctaves 99 = .ok (.aload_n 0, 1) := by decide +kernel
theorem dX9_laysOctaves_100 : decode cX9_laysOctaves 100 = .ok (.getfield 56, 3) := by decide +kernel
theorem dX9_laysOctaves_103 : decode cX9_laysOctaves 103 = .ok (.sipush 1408, 3) := by decide +kernel
theorem dX9_laysOctaves_106 : decode cX9_laysOctaves 106 = .ok (.iload_n 3, 1) := by decide +kernel
theorem dX9_laysOctaves_107 : decode cX9_laysOctaves 107 = .ok (.iadd, 1) := by decide +kernel
theorem dX9_laysOctaves_108 : decode cX9_laysOctaves 108 = .ok (.iaload, 1) := by decide +kernel
theorem dX9_laysOctaves_109 : decode cX9_laysOctaves 109 = .ok (.iastore, 1) := by decide +kernel
theorem dX9_laysOctaves_110 : decode cX9_laysOctaves 110 = .ok (.aload_n 0, 1) := by decide +kernel
theorem dX9_laysOctaves_111 : decode cX9_laysOctaves 111 = .ok (.getfield 95, 3) := by decide +kernel
theorem dX9_laysOctaves_114 : decode cX9_laysOctaves 114 = .ok (.bipush 88, 2) := by decide +kernel
theorem dX9_laysOctaves_116 : decode cX9_laysOctaves 116 = .ok (.iconst 3, 1) := by decide +kernel
theorem dX9_laysOctaves_117 : decode cX9_laysOctaves 117 = .ok (.iload_n 1, 1) := by decide +kernel
theorem dX9_laysOctaves_118 : decode cX9_laysOctaves 118 = .ok (.imul, 1) := by decide +kernel
theorem dX9_laysOctaves_119 : decode cX9_laysOctaves 119 = .ok (.iload_n 2, 1) := by decide +kernel
theorem dX9_laysOctaves_120 : decode cX9_laysOctaves 120 = .ok (.iadd, 1) := by decide +kernel
theorem dX9_laysOctaves_121 : decode cX9_laysOctaves 121 = .ok (.imul, 1) := by decide +kernel
theorem dX9_laysOctaves_122 : decode cX9_laysOctaves 122 = .ok (.iload_n 3, 1) := by decide +kernel
theorem dX9_laysOctaves_123 : decode cX9_laysOctaves 123 = .ok (.iadd, 1) := by decide +kernel
theorem dX9_laysOctaves_124 : decode cX9_laysOctaves 124 = .ok (.aload_n 0, 1) := by decide +kernel
theorem dX9_laysOctaves_125 : decode cX9_laysOctaves 125 = .ok (.getfield 59, 3) := by decide +kernel
theorem dX9_laysOctaves_128 : decode cX9_laysOctaves 128 = .ok (.sipush 1408, 3) := by decide +kernel
theorem dX9_laysOctaves_131 : decode cX9_laysOctaves 131 = .ok (.iload_n 3, 1) := by decide +kernel
theorem dX9_laysOctaves_132 : decode cX9_laysOctaves 132 = .ok (.iadd, 1) := by decide +kernel
theorem dX9_laysOctaves_133 : decode cX9_laysOctaves 133 = .ok (.iaload, 1) := by decide +kernel
theorem dX9_laysOctaves_134 : decode cX9_laysOctaves 134 = .ok (.iastore, 1) := by decide +kernel
theorem dX9_laysOctaves_135 : decode cX9_laysOctaves 135 = .ok (.iinc 3 1, 3) := by decide +kernel
theorem dX9_laysOctaves_138 : decode cX9_laysOctaves 138 = .ok (.goto (-64), 3) := by decide +kernel
theorem dX9_laysOctaves_141 : decode cX9_laysOctaves 141 = .ok (.iinc 2 1, 3) := by decide +kernel
theorem dX9_laysOctaves_144 : decode cX9_laysOctaves 144 = .ok (.goto (-132), 3) := by decide +kernel
theorem dX9_laysOctaves_147 : decode cX9_laysOctaves 147 = .ok (.iinc 1 1, 3) := by decide +kernel
theorem dX9_laysOctaves_150 : decode cX9_laysOctaves 150 = .ok (.goto (-148), 3) := by decide +kernel
theorem dX9_laysOctaves_153 : decode cX9_laysOctaves 153 = .ok (.return_, 1) := by decide +kernel
set_option maxHeartbeats 4000000 in
set_option maxRecDepth 100000 in
theorem m_X9_laysOctaves (l : Launch) (D : va_G) (cy : Nat → ClassId) (g : Nat → Nat) (σ : ST)  (sz : Nat) (hJ : J9 (σ 9)) (kHK : HK (σ 9)) : Met l yX9_laysOctaves (ww yX9_laysOctaves cX9_laysOctaves 4 none) ({ frames := 4, cells := 0, slots := 0, locals := 256 }) (va_Pc [.ref (g 60)] (pr9 D cy g σ sz)) (qv9 D cy g sz (fun τ => Fr (fL [23, 24, 25, 26, 27, 43, 44, 45]) σ τ ∧ J9 (τ 9) ∧ True)) 0 0 (A9 cy g sz) := by
  refine Met.ofW (cc := cX9_laysOctaves) (maxL := 4) (ret := none) (by decide) rfl ?_
  intro p e s m args below meth c s₁ B hml hv
  obtain ⟨rfl, hsz, hP, hK, hD0, hC⟩ := hv
  have hx := B.exec
  have hb := B.bytes
  have hr := B.returns
  have hts := hts_g (atoms_spec (ws := ww yX9_laysOctaves cX9_laysOctaves 4 none) B.pre)
  have hown : s.vm.findClass RX9 = some m.cls := findClass_of_methodNamed B.named
  have hlocks := B.notSynchronized
  clear B
  subst hsz
  have hD := fun τ => A9_D (sz := s.heap.size) hD0 τ
  clear hD0
  have hS : va_S (A9 cy g s.heap.size) s.heap s.heap [] := va_S.rf
  have hl := lv_entry ([.ref (g 60)]) (n := 4) (Nat.le_of_ble_eq_true rfl)
  rw [lg_entry_eq]
  generalize (lg_sl ([.ref (g 60)]) ++ List.replicate (4 - (lg_sl ([.ref (g 60)])).length) Slot.unset).toArray = ls at hl ⊢
  have hl : lv_has ls 4 [(0, .ref (g 60))] := hl
  refine lv_iconst (v := 0) hx hb dX9_laysOctaves_0 (by decide) ?_
  refine lv_istore_n (lv' := [(1, .int 0), (0, .ref (g 60))]) hx hb dX9_laysOctaves_1 rfl hl (by decide) rfl (fun ls hl => ?_)
  refine loop9 4 2 (fun x : LZ => [(1, .int (x.2.1 0)), (0, .ref (g 60))]) (fun x : LZ => (Fr (fL [23, 24, 25, 26, 27, 43, 44, 45]) σ x.1) ∧ (J9 (x.1 9)) ∧ ((0 : Int) ≤ (x.2.1 0).toInt ∧ (x.2.1 0).toInt ≤ 16) ∧ (HK (x.1 9)) ∧ True) (fun x : LZ => ((17 : Int) - (x.2.1 0).toInt).toNat) ?_ (σ, lf [0], lg []) ⟨Fr.rf, hJ, (show (0 : Int) ≤ (0 : Int32).toInt ∧ (0 : Int32).toInt ≤ 16 from (by have z0 : (0 : Int32).toInt = 0 := (by decide); omega)), (show HK (σ 9) from kHK), trivial⟩ _ _ _ hP hS (lv_sub hl [0, 1] rfl)
  intro y3 hI2 nl1 H locs ls hP hS hl
  obtain ⟨σ4, eσ4⟩ : ∃ z, z = y3.1 := ⟨_, rfl⟩
  rw [← eσ4] at hP hI2
  have hF5 : Fr (fL [23, 24, 25, 26, 27, 43, 44, 45]) σ σ4 := hI2.1
  have hJ6 : J9 (σ4 9) := hI2.2.1
  have b7 : (0 : Int) ≤ (y3.2.1 0).toInt ∧ (y3.2.1 0).toInt ≤ 16 := hI2.2.2.1
  have b8 : HK (σ4 9) := hI2.2.2.2.1
  have hl : lv_has ls 4 [(1, .int (y3.2.1 0)), (0, .ref (g 60))] := hl
  refine lv_iload_n hx hb dX9_laysOctaves_2 rfl (lv_at hl 0 rfl) ?_
  refine lv_aload_n hx hb dX9_laysOctaves_3 rfl (lv_at hl 1 rfl) ?_
  refine g9_31 (x := ((σ 9).1 31)) hx hb hts hown hK hP ((hF5 9 31 rfl).1) (hts _ q1391) dX9_laysOctaves_4 ?_
  refine lv_icmp_ge (tgt := 153) hx hb dX9_laysOctaves_7 (by decide) (fun c9 => ?_) (fun c9 => ?_)
  ·
    have k10 := ple32 c9
    exact W.vret hx hb hr (fun tS ht hW => ⟨⟨σ4, rfl, ⟨Fr.tr (Fr.rf) hF5 (fL_sub rfl), hJ6, trivial⟩, (show va_P D clz (WD9 cy g σ4) tS.heap by rw [ht]; exact hP)⟩, hS.F ht⟩) hS.2.2 dX9_laysOctaves_153
  ·
    have k11 := nle32 c9
    refine lv_iconst (v := 0) hx hb dX9_laysOctaves_10 (by decide) ?_
    refine lv_istore_n (lv' := [(2, .int 0), (1, .int (y3.2.1 0)), (0, .ref (g 60))]) hx hb dX9_laysOctaves_11 rfl hl (by decide) rfl (fun ls hl => ?_)
    refine loop9 4 12 (fun x : LZ => [(2, .int (x.2.1 0)), (1, .int (y3.2.1 0)), (0, .ref (g 60))]) (fun x : LZ => (Fr (fL [23, 24, 25, 26, 27, 43, 44, 45]) σ4 x.1) ∧ (J9 (x.1 9)) ∧ ((0 : Int) ≤ (x.2.1 0).toInt ∧ (x.2.1 0).toInt ≤ 3) ∧ (HK (x.1 9)) ∧ True) (fun x : LZ => ((4 : Int) - (x.2.1 0).toInt).toNat) ?_ (σ4, lf [0], lg []) ⟨Fr.rf, hJ6, (show (0 : Int) ≤ (0 : Int32).toInt ∧ (0 : Int32).toInt ≤ 3 from (by have z0 : (0 : Int32).toInt = 0 := (by decide); omega)), (show HK (σ4 9) from b8), trivial⟩ _ _ _ hP hS (lv_sub hl [0, 1, 2] rfl)
    intro y14 hI13 nl12 H locs ls hP hS hl
    obtain ⟨σ15, eσ15⟩ : ∃ z, z = y14.1 := ⟨_, rfl⟩
    rw [← eσ15] at hP hI13
    have hF16 : Fr (fL [23, 24, 25, 26, 27, 43, 44, 45]) σ4 σ15 := hI13.1
    have hJ17 : J9 (σ15 9) := hI13.2.1
    have b18 : (0 : Int) ≤ (y14.2.1 0).toInt ∧ (y14.2.1 0).toInt ≤ 3 := hI13.2.2.1
    have b19 : HK (σ15 9) := hI13.2.2.2.1
    have hl : lv_has ls 4 [(2, .int (y14.2.1 0)), (1, .int (y3.2.1 0)), (0, .ref (g 60))] := hl
    refine lv_iload_n hx hb dX9_laysOctaves_12 rfl (lv_at hl 0 rfl) ?_
    refine lv_iconst (v := 3) hx hb dX9_laysOctaves_13 (by decide) ?_
    refine lv_icmp_ge (tgt := 147) hx hb dX9_laysOctaves_14 (by decide) (fun c20 => ?_) (fun c20 => ?_)
    ·
      have k21 := ple32 c20
      obtain ⟨x22, ex22⟩ : ∃ y : Int32, y = (y3.2.1 0) + 1 := ⟨_, rfl⟩
      have t23 := addO ex22 (by have f0 := b7; have f1 := k11; have f2 := j9_31 hJ rfl; have g0 := rg32 (y3.2.1 0); have z1 : (1 : Int32).toInt = 1 := (by decide); omega)
      refine lv_iinc (v := x22) (lv' := [(1, .int x22), (2, .int (y14.2.1 0)), (0, .ref (g 60))]) hx hb dX9_laysOctaves_147 hl (k := 1) rfl (by rw [ex22]; rfl) (by decide) rfl (fun ls hl => ?_)
      refine lv_goto (tgt := 2) hx hb dX9_laysOctaves_150 (by decide) ?_
      have t24 : ((17 : Int) - x22.toInt).toNat < ((17 : Int) - (y3.2.1 0).toInt).toNat := (by have f0 := b7; have f1 := k11; have f2 := t23; have f3 := j9_31 hJ rfl; have g0 := rg32 (y3.2.1 0); have g1 := rg32 x22; have z1 : (1 : Int32).toInt = 1 := (by decide); omega)
      exact nl1 (σ15, lf [x22], lg []) ⟨Fr.tr (Fr.tr (Fr.rf) hF5 (fL_sub rfl)) hF16 (fL_sub rfl), hJ17, (show (0 : Int) ≤ (x22 : Int32).toInt ∧ (x22 : Int32).toInt ≤ 16 from (by have f0 := t23; have f1 := b7; have f2 := k11; have f3 := j9_31 hJ rfl; have g0 := rg32 x22; have z1 : (1 : Int32).toInt = 1 := (by decide); omega)), (show HK (σ15 9) from b19), trivial⟩ (show ((17 : Int) - x22.toInt).toNat < _ from by first | exact t24 | (rw [← eσ4]; exact t24)) _ _ _ hP hS (lv_sub hl [0, 2] rfl)
    ·
      have k25 := nle32 c20
      refine lv_aload_n hx hb dX9_laysOctaves_17 rfl (lv_at hl 2 rfl) ?_
      refine lv_bipush (v := 16) hx hb dX9_laysOctaves_18 (by decide) ?_
      refine lv_aload_n hx hb dX9_laysOctaves_20 rfl (lv_at hl 2 rfl) ?_
      refine g9_28 (x := ((σ 9).1 28)) hx hb hts hown hK hP (((hF16 9 28 rfl).1).trans ((hF5 9 28 rfl).1)) (hts _ q1388) dX9_laysOctaves_21 ?_
      refine lv_aload_n hx hb dX9_laysOctaves_24 rfl (lv_at hl 2 rfl) ?_
      refine lv_aload_n hx hb dX9_laysOctaves_25 rfl (lv_at hl 2 rfl) ?_
      refine g9_29 (x := ((σ 9).1 29)) hx hb hts hown hK hP (((hF16 9 29 rfl).1).trans ((hF5 9 29 rfl).1)) (hts _ q1389) dX9_laysOctaves_26 ?_
      refine lv_aload_n hx hb dX9_laysOctaves_29 rfl (lv_at hl 2 rfl) ?_
      refine g9_32 hx hb hts hown hK hP (hts _ q1392) dX9_laysOctaves_30 ?_
      refine lv_iload_n hx hb dX9_laysOctaves_33 rfl (lv_at hl 1 rfl) ?_
      obtain ⟨x26, ex26⟩ : ∃ z, (σ 9).2.2.1 32 (y3.2.1 0).toInt.toNat = z := ⟨_, rfl⟩
      refine l9_32 (x := x26) hx hb hK hP (vpo (by have f0 := b7; have f1 := k11; have f2 := j9_31 hJ rfl; have g0 := rg32 (y3.2.1 0); omega)) ((congrFun (((hF16 9 32 rfl).2.2.1).trans ((hF5 9 32 rfl).2.2.1)) _).trans ex26) dX9_laysOctaves_34 ?_
      have t27 := a9_32 hJ ex26
      refine lv_iconst (v := 0) hx hb dX9_laysOctaves_35 (by decide) ?_
      refine va_calli (va_runV (As := [.int ((σ 9).1 29), .int x26, .int 0]) (rest := [.int ((σ 9).1 28), .int 16, .ref (g 60)]) ⟨hx, hb, hml, hown, hts⟩ (m_X9_toneOf l D cy g σ15 ((σ 9).1 29) x26 (0) _ hJ17 (show (0 : Int) ≤ ((σ 9).1 29).toInt ∧ ((σ 9).1 29).toInt ≤ 2 from (by have f0 := j9_29 hJ rfl; omega)) (show (0 : Int) ≤ x26.toInt ∧ x26.toInt ≤ 15 from (by have f0 := j9_29 hJ rfl; have f1 := t27; have f2 := b7; have f3 := k11; have f4 := j9_31 hJ rfl; have g1 := rg32 x26; omega)) (show (0 : Int) ≤ (0 : Int32).toInt ∧ (0 : Int32).toInt ≤ 3 from (by have f0 := j9_29 hJ rfl; have f1 := t27; have f2 := b7; have f3 := k11; have f4 := j9_31 hJ rfl; have g1 := rg32 x26; have z0 : (0 : Int32).toInt = 0 := (by decide); omega))) (cwV 3 hts (gd_V q1727 q1729 q75 q134 q1730) rfl rfl rfl (by decide +kernel) ⟨Nat.le_of_ble_eq_true rfl, Nat.le_of_ble_eq_true rfl⟩) (pv9 hP hK hD hC hS (va_recv hK hP (ci := 9) (q0 := 0) rfl rfl)) rfl rfl hl.1 rfl (lv_room (Nat.le_of_ble_eq_true rfl)) dX9_laysOctaves_36 ⟨Nat.le_of_ble_eq_true rfl, Nat.le_of_ble_eq_true rfl⟩) hS (fun q _ h => up9 hS q h) (up9 hS) (fun r28 σ29 tS H1 locs ht hvm hw30 hB hz1 hk1 hS => ?_)
      have hP : va_P D clz (WD9 cy g σ29) H1 := by rw [← ht]; exact hB
      clear hB hz1 hk1 hvm ht
      generalize H1 = H at hP hS ⊢
      have hw30E : σ15 = σ29 := (hw30.1).symm
      subst hw30E
      have b31 : (-1 : Int) ≤ r28.toInt ∧ r28.toInt ≤ 60 := hw30.2.1
      have b32 : ¬ (0 : Int32).toInt = 1 ∨ 0 ≤ r28.toInt := hw30.2.2.1
      refine lv_bipush (v := 12) hx hb dX9_laysOctaves_39 (by decide) ?_
      refine lv_iload_n hx hb dX9_laysOctaves_41 rfl (lv_at hl 0 rfl) ?_
      refine lv_iconst (v := 1) hx hb dX9_laysOctaves_42 (by decide) ?_
      refine lv_isub hx hb dX9_laysOctaves_43 ?_
      refine lv_topi (fun x33 ex33 => ?_)
      have t34 := subO ex33 (by have f0 := b18; have f1 := k25; have g0 := rg32 (y14.2.1 0); have z1 : (1 : Int32).toInt = 1 := (by decide); have z3 : (3 : Int32).toInt = 3 := (by decide); omega)
      refine lv_imul hx hb dX9_laysOctaves_44 ?_
      refine lv_topi (fun x35 ex35 => ?_)
      have t36 := mulC' (n := 12) ex35 (by decide) (by have f0 := t34; have f1 := b18; have f2 := k25; have g0 := rg32 x33; have z1 : (1 : Int32).toInt = 1 := (by decide); have z3 : (3 : Int32).toInt = 3 := (by decide); omega)
      refine lv_iadd hx hb dX9_laysOctaves_45 ?_
      refine lv_topi (fun x37 ex37 => ?_)
      have t38 := addO ex37 (by have f0 := b31; have f1 := b32; have f2 := t36; have f3 := t34; have f4 := b18; have f5 := k25; have g0 := rg32 r28; have g1 := rg32 x35; have z0 : (0 : Int32).toInt = 0 := (by decide); have z1 : (1 : Int32).toInt = 1 := (by decide); have z3 : (3 : Int32).toInt = 3 := (by decide); omega)
      refine lv_aload_n hx hb dX9_laysOctaves_46 rfl (lv_at hl 2 rfl) ?_
      refine g9_17 hx hb hts hown hK hP (hts _ q1377) dX9_laysOctaves_47 ?_
      refine lv_iconst (v := 0) hx hb dX9_laysOctaves_50 (by decide) ?_
      refine l9_17 (x := ((σ 9).2.2.1 17 0)) hx hb hK hP (vpi (by decide)) ((congrFun (((hF16 9 17 rfl).2.2.1).trans ((hF5 9 17 rfl).2.2.1)) _).trans (congrArg ((σ 9).2.2.1 17) (show (0 : Int32).toInt.toNat = 0 by decide))) dX9_laysOctaves_51 ?_
      refine va_callv (va_runV (As := [.int 16, .int ((σ 9).1 28), .int x37, .int ((σ 9).2.2.1 17 0)]) (rest := []) ⟨hx, hb, hml, hown, hts⟩ (m_X9_laysWays l D cy g σ15 (16) ((σ 9).1 28) x37 ((σ 9).2.2.1 17 0) _ hJ17 (show (0 : Int) ≤ (16 : Int32).toInt ∧ (16 : Int32).toInt ≤ 16 from (by have z16 : (16 : Int32).toInt = 16 := (by decide); omega)) (show (0 : Int) ≤ ((σ 9).1 28).toInt ∧ ((σ 9).1 28).toInt ≤ 3 from (by have f0 := j9_28 hJ rfl; have z16 : (16 : Int32).toInt = 16 := (by decide); omega)) (show 100 ≤ ((σ15 9).2.2.1 18 (7 * ((σ 9).1 28).toInt.toNat + 2)).toInt from (HK.to b19 (((hF16 9 28 rfl).1).trans ((hF5 9 28 rfl).1)) rfl))) (cwV 4 hts (gd_V q1802 q1804 q86 q134 q1805) rfl rfl rfl (by decide +kernel) ⟨Nat.le_of_ble_eq_true rfl, Nat.le_of_ble_eq_true rfl⟩) (pv9 hP hK hD hC hS (va_recv hK hP (ci := 9) (q0 := 0) rfl rfl)) rfl rfl hl.1 rfl (lv_room (Nat.le_of_ble_eq_true rfl)) dX9_laysOctaves_52 ⟨Nat.le_of_ble_eq_true rfl, Nat.le_of_ble_eq_true rfl⟩) hS (fun q _ h => up9 hS q h) (up9 hS) (fun σ40 tS H1 locs ht hvm hw41 hB hz1 hk1 hS => ?_)
      have hP : va_P D clz (WD9 cy g σ40) H1 := by rw [← ht]; exact hB
      clear hB hz1 hk1 hvm ht
      generalize H1 = H at hP hS ⊢
      have hF42 : Fr (fL [23, 24, 25, 26, 27]) σ15 σ40 := hw41.1
      have hJ43 : J9 (σ40 9) := hw41.2.1
      have T44 : HK (σ40 9) := HK.mv b19 (hF42 9 18 rfl).2.2.1 (hF42 9 28 rfl).1
      refine lv_aload_n hx hb dX9_laysOctaves_55 rfl (lv_at hl 2 rfl) ?_
      refine g9_43 hx hb hts hown hK hP (hts _ q1403) dX9_laysOctaves_56 ?_
      refine lv_iconst (v := 3) hx hb dX9_laysOctaves_59 (by decide) ?_
      refine lv_iload_n hx hb dX9_laysOctaves_60 rfl (lv_at hl 1 rfl) ?_
      refine lv_imul hx hb dX9_laysOctaves_61 ?_
      refine lv_topi (fun x45 ex45 => ?_)
      have t46 := mulC' (n := 3) ex45 (by decide) (by have f0 := b7; have f1 := k11; have f2 := t27; have f3 := j9_31 hJ rfl; have g0 := rg32 (y3.2.1 0); omega)
      refine lv_iload_n hx hb dX9_laysOctaves_62 rfl (lv_at hl 0 rfl) ?_
      refine lv_iadd hx hb dX9_laysOctaves_63 ?_
      refine lv_topi (fun x47 ex47 => ?_)
      have t48 := addO ex47 (by have f0 := b18; have f1 := k25; have f2 := t34; have f3 := t46; have f4 := b7; have f5 := k11; have f6 := t27; have f7 := t36; have f8 := j9_31 hJ rfl; have f9 := t38; have f10 := b31; have f11 := b32; have g0 := rg32 (y14.2.1 0); have g1 := rg32 x45; have z0 : (0 : Int32).toInt = 0 := (by decide); have z1 : (1 : Int32).toInt = 1 := (by decide); have z3 : (3 : Int32).toInt = 3 := (by decide); omega)
      refine lv_aload_n hx hb dX9_laysOctaves_64 rfl (lv_at hl 2 rfl) ?_
      refine g9_24 hx hb hts hown hK hP (hts _ q1384) dX9_laysOctaves_65 ?_
      refine lv_bipush (v := 16) hx hb dX9_laysOctaves_68 (by decide) ?_
      refine l9_24 (x := ((σ40 9).2.2.1 24 16)) hx hb hK hP (vpi (by decide)) (congrArg ((σ40 9).2.2.1 24) (show (16 : Int32).toInt.toNat = 16 by decide)) dX9_laysOctaves_70 ?_
      refine t9_43 hx hb hK hP hD hS (vpo (by have f0 := t48; have f1 := b18; have f2 := k25; have f3 := t34; have f4 := t46; have f5 := b7; have f6 := k11; have f7 := t27; have f8 := t36; have f9 := j9_31 hJ rfl; have f10 := t38; have f11 := b31; have f12 := b32; have g0 := rg32 x47; have z0 : (0 : Int32).toInt = 0 := (by decide); have z1 : (1 : Int32).toInt = 1 := (by decide); have z3 : (3 : Int32).toInt = 3 := (by decide); omega)) dX9_laysOctaves_71 (fun H locs σ49 eσ49 hP hS => ?_)
      have hJ50 : J9 (σ49 9) := hJ43.A eσ49 (show PA9 43 x47.toInt.toNat ((σ40 9).2.2.1 24 16) from (by have f0 := a9_24 hJ43 (j := 16) rfl; have f1 := t48; have f2 := b18; have f3 := k25; have f4 := t34; have f5 := t46; have f6 := b7; have f7 := k11; have f8 := t27; have f9 := t36; have f10 := j9_31 hJ rfl; have f11 := t38; have f12 := b31; have f13 := b32; have g1 := rg32 x47; have z0 : (0 : Int32).toInt = 0 := (by decide); have z1 : (1 : Int32).toInt = 1 := (by decide); have z3 : (3 : Int32).toInt = 3 := (by decide); exact ⟨by omega, by omega⟩))
      have T51 : HK (σ49 9) := HK.mv T44 ((sA_f eσ49) 9 18 rfl).2.2.1 ((sA_f eσ49) 9 28 rfl).1
      refine lv_iconst (v := 0) hx hb dX9_laysOctaves_72 (by decide) ?_
      refine lv_istore_n (lv' := [(3, .int 0), (2, .int (y14.2.1 0)), (1, .int (y3.2.1 0)), (0, .ref (g 60))]) hx hb dX9_laysOctaves_73 rfl hl (by decide) rfl (fun ls hl => ?_)
      refine loop9 4 74 (fun x : LZ => [(3, .int (x.2.1 0)), (2, .int (y14.2.1 0)), (1, .int (y3.2.1 0)), (0, .ref (g 60))]) (fun x : LZ => (Fr (fL [44, 45]) σ49 x.1) ∧ (J9 (x.1 9)) ∧ ((0 : Int) ≤ (x.2.1 0).toInt ∧ (x.2.1 0).toInt ≤ 88) ∧ (HK (x.1 9)) ∧ True) (fun x : LZ => ((89 : Int) - (x.2.1 0).toInt).toNat) ?_ (σ49, lf [0], lg []) ⟨Fr.rf, hJ50, (show (0 : Int) ≤ (0 : Int32).toInt ∧ (0 : Int32).toInt ≤ 88 from (by have z0 : (0 : Int32).toInt = 0 := (by decide); omega)), (show HK (σ49 9) from T51), trivial⟩ _ _ _ hP hS (lv_sub hl [0, 1, 2, 3] rfl)
      intro y54 hI53 nl52 H locs ls hP hS hl
      obtain ⟨σ55, eσ55⟩ : ∃ z, z = y54.1 := ⟨_, rfl⟩
      rw [← eσ55] at hP hI53
      have hF56 : Fr (fL [44, 45]) σ49 σ55 := hI53.1
      have hJ57 : J9 (σ55 9) := hI53.2.1
      have b58 : (0 : Int) ≤ (y54.2.1 0).toInt ∧ (y54.2.1 0).toInt ≤ 88 := hI53.2.2.1
      have b59 : HK (σ55 9) := hI53.2.2.2.1
      have hl : lv_has ls 4 [(3, .int (y54.2.1 0)), (2, .int (y14.2.1 0)), (1, .int (y3.2.1 0)), (0, .ref (g 60))] := hl
      refine lv_iload_n hx hb dX9_laysOctaves_74 rfl (lv_at hl 0 rfl) ?_
      refine lv_aload_n hx hb dX9_laysOctaves_75 rfl (lv_at hl 3 rfl) ?_
      refine g9_24 hx hb hts hown hK hP (hts _ q1384) dX9_laysOctaves_76 ?_
      refine lv_bipush (v := 16) hx hb dX9_laysOctaves_79 (by decide) ?_
      refine l9_24 (x := ((σ40 9).2.2.1 24 16)) hx hb hK hP (vpi (by decide)) ((congrFun (((hF56 9 24 rfl).2.2.1).trans (((sA_f eσ49) 9 24 rfl).2.2.1)) _).trans (congrArg ((σ40 9).2.2.1 24) (show (16 : Int32).toInt.toNat = 16 by decide))) dX9_laysOctaves_81 ?_
      refine lv_icmp_ge (tgt := 141) hx hb dX9_laysOctaves_82 (by decide) (fun c60 => ?_) (fun c60 => ?_)
      ·
        have k61 := ple32 c60
        obtain ⟨x62, ex62⟩ : ∃ y : Int32, y = (y14.2.1 0) + 1 := ⟨_, rfl⟩
        have t63 := addO ex62 (by have f0 := b18; have f1 := k25; have f2 := t34; have f3 := t48; have f4 := t36; have f5 := t46; have f6 := b7; have f7 := k11; have f8 := t27; have f9 := t38; have f10 := j9_31 hJ rfl; have f11 := b31; have f12 := b32; have g0 := rg32 (y14.2.1 0); have z0 : (0 : Int32).toInt = 0 := (by decide); have z1 : (1 : Int32).toInt = 1 := (by decide); have z3 : (3 : Int32).toInt = 3 := (by decide); omega)
        refine lv_iinc (v := x62) (lv' := [(2, .int x62), (3, .int (y54.2.1 0)), (1, .int (y3.2.1 0)), (0, .ref (g 60))]) hx hb dX9_laysOctaves_141 hl (k := 1) rfl (by rw [ex62]; rfl) (by decide) rfl (fun ls hl => ?_)
        refine lv_goto (tgt := 12) hx hb dX9_laysOctaves_144 (by decide) ?_
        have t64 : ((4 : Int) - x62.toInt).toNat < ((4 : Int) - (y14.2.1 0).toInt).toNat := (by have f0 := b18; have f1 := k25; have f2 := t34; have f3 := t48; have f4 := t63; have f5 := t36; have f6 := t46; have f7 := b7; have f8 := k11; have f9 := t27; have f10 := t38; have f11 := j9_31 hJ rfl; have f12 := b31; have f13 := b32; have g0 := rg32 (y14.2.1 0); have g1 := rg32 x62; have z0 : (0 : Int32).toInt = 0 := (by decide); have z1 : (1 : Int32).toInt = 1 := (by decide); have z3 : (3 : Int32).toInt = 3 := (by decide); omega)
        exact nl12 (σ55, lf [x62], lg []) ⟨Fr.tr (Fr.tr (Fr.tr (Fr.tr (Fr.rf) hF16 (fL_sub rfl)) hF42 (fL_sub rfl)) (sA_f eσ49) (fN_L rfl)) hF56 (fL_sub rfl), hJ57, (show (0 : Int) ≤ (x62 : Int32).toInt ∧ (x62 : Int32).toInt ≤ 3 from (by have f0 := t63; have f1 := b18; have f2 := k25; have f3 := t34; have f4 := t48; have f5 := t36; have f6 := t46; have f7 := b7; have f8 := k11; have f9 := t27; have f10 := t38; have f11 := j9_31 hJ rfl; have f12 := b31; have f13 := b32; have g0 := rg32 x62; have z0 : (0 : Int32).toInt = 0 := (by decide); have z1 : (1 : Int32).toInt = 1 := (by decide); have z3 : (3 : Int32).toInt = 3 := (by decide); omega)), (show HK (σ55 9) from b59), trivial⟩ (show ((4 : Int) - x62.toInt).toNat < _ from by first | exact t64 | (rw [← eσ15]; exact t64)) _ _ _ hP hS (lv_sub hl [0, 2, 3] rfl)
      ·
        have k65 := nle32 c60
        refine lv_aload_n hx hb dX9_laysOctaves_85 rfl (lv_at hl 3 rfl) ?_
        refine g9_44 hx hb hts hown hK hP (hts _ q1404) dX9_laysOctaves_86 ?_
        refine lv_bipush (v := 88) hx hb dX9_laysOctaves_89 (by decide) ?_
        refine lv_iconst (v := 3) hx hb dX9_laysOctaves_91 (by decide) ?_
        refine lv_iload_n hx hb dX9_laysOctaves_92 rfl (lv_at hl 2 rfl) ?_
        refine lv_imul hx hb dX9_laysOctaves_93 ?_
        refine lv_topi (fun x66 ex66 => ?_)
        have t67 := mulC' (n := 3) ex66 (by decide) (by have f0 := b7; have f1 := k11; have f2 := t27; have f3 := t46; have f4 := j9_31 hJ rfl; have f5 := t48; have f6 := b18; have f7 := k25; have f8 := t34; have f9 := t36; have f10 := t38; have f11 := b31; have f12 := b32; have g0 := rg32 (y3.2.1 0); have z0 : (0 : Int32).toInt = 0 := (by decide); have z1 : (1 : Int32).toInt = 1 := (by decide); have z3 : (3 : Int32).toInt = 3 := (by decide); omega)
        refine lv_iload_n hx hb dX9_laysOctaves_94 rfl (lv_at hl 1 rfl) ?_
        refine lv_iadd hx hb dX9_laysOctaves_95 ?_
        refine lv_topi (fun x68 ex68 => ?_)
        have t69 := addO ex68 (by have f0 := b18; have f1 := k25; have f2 := t34; have f3 := t48; have f4 := t67; have f5 := b7; have f6 := k11; have f7 := t27; have f8 := t36; have f9 := t46; have f10 := j9_31 hJ rfl; have f11 := t38; have f12 := b31; have f13 := b32; have g0 := rg32 (y14.2.1 0); have g1 := rg32 x66; have z0 : (0 : Int32).toInt = 0 := (by decide); have z1 : (1 : Int32).toInt = 1 := (by decide); have z3 : (3 : Int32).toInt = 3 := (by decide); omega)
        refine lv_imul hx hb dX9_laysOctaves_96 ?_
        refine lv_topi (fun x70 ex70 => ?_)
        have t71 := mulC' (n := 88) ex70 (by decide) (by have f0 := t69; have f1 := b18; have f2 := k25; have f3 := t34; have f4 := t48; have f5 := t67; have f6 := b7; have f7 := k11; have f8 := t27; have f9 := t36; have f10 := t46; have f11 := j9_31 hJ rfl; have f12 := t38; have f13 := b31; have f14 := b32; have g0 := rg32 x68; have z0 : (0 : Int32).toInt = 0 := (by decide); have z1 : (1 : Int32).toInt = 1 := (by decide); have z3 : (3 : Int32).toInt = 3 := (by decide); omega)
        refine lv_iload_n hx hb dX9_laysOctaves_97 rfl (lv_at hl 0 rfl) ?_
        refine lv_iadd hx hb dX9_laysOctaves_98 ?_
        refine lv_topi (fun x72 ex72 => ?_)
        have t73 := addO ex72 (by have f0 := b58; have f1 := k65; have f2 := t71; have f3 := a9_24 hJ43 (j := 16) rfl; have f4 := t69; have f5 := b18; have f6 := k25; have f7 := t34; have f8 := t48; have f9 := t67; have f10 := b7; have f11 := k11; have f12 := t27; have f13 := t36; have f14 := t46; have f15 := j9_31 hJ rfl; have f16 := t38; have f17 := b31; have f18 := b32; have g0 := rg32 (y54.2.1 0); have g1 := rg32 x70; have z0 : (0 : Int32).toInt = 0 := (by decide); have z1 : (1 : Int32).toInt = 1 := (by decide); have z3 : (3 : Int32).toInt = 3 := (by decide); omega)
        refine lv_aload_n hx hb dX9_laysOctaves_99 rfl (lv_at hl 3 rfl) ?_
        refine g9_25 hx hb hts hown hK hP (hts _ q1385) dX9_laysOctaves_100 ?_
        refine lv_sipush (v := 1408) hx hb dX9_laysOctaves_103 (by decide) ?_
        refine lv_iload_n hx hb dX9_laysOctaves_106 rfl (lv_at hl 0 rfl) ?_
        refine lv_iadd hx hb dX9_laysOctaves_107 ?_
        refine lv_topi (fun x74 ex74 => ?_)
        have t75 := addO ex74 (by have f0 := b58; have f1 := k65; have f2 := t73; have f3 := a9_24 hJ43 (j := 16) rfl; have f4 := t71; have f5 := t69; have f6 := b18; have f7 := k25; have f8 := t34; have f9 := t48; have f10 := t67; have f11 := b7; have f12 := k11; have f13 := t27; have f14 := t36; have f15 := t46; have f16 := j9_31 hJ rfl; have f17 := t38; have f18 := b31; have f19 := b32; have g0 := rg32 (y54.2.1 0); have z0 : (0 : Int32).toInt = 0 := (by decide); have z1 : (1 : Int32).toInt = 1 := (by decide); have z3 : (3 : Int32).toInt = 3 := (by decide); have z1408 : (1408 : Int32).toInt = 1408 := (by decide); omega)
        obtain ⟨x76, ex76⟩ : ∃ z, (σ40 9).2.2.1 25 x74.toInt.toNat = z := ⟨_, rfl⟩
        refine l9_25 (x := x76) hx hb hK hP (vpo (by have f0 := t75; have f1 := b58; have f2 := k65; have f3 := t73; have f4 := a9_24 hJ43 (j := 16) rfl; have f5 := t71; have f6 := t69; have f7 := b18; have f8 := k25; have f9 := t34; have f10 := t48; have f11 := t67; have f12 := b7; have f13 := k11; have f14 := t27; have f15 := t36; have f16 := t46; have f17 := j9_31 hJ rfl; have f18 := t38; have f19 := b31; have f20 := b32; have g0 := rg32 x74; have z0 : (0 : Int32).toInt = 0 := (by decide); have z1 : (1 : Int32).toInt = 1 := (by decide); have z3 : (3 : Int32).toInt = 3 := (by decide); have z1408 : (1408 : Int32).toInt = 1408 := (by decide); omega)) ((congrFun (((hF56 9 25 rfl).2.2.1).trans (((sA_f eσ49) 9 25 rfl).2.2.1)) _).trans ex76) dX9_laysOctaves_108 ?_
        refine t9_44 hx hb hK hP hD hS (vpo (by have f0 := t73; have f1 := b58; have f2 := k65; have f3 := t71; have f4 := t75; have f5 := a9_24 hJ43 (j := 16) rfl; have f6 := t69; have f7 := b18; have f8 := k25; have f9 := t34; have f10 := t48; have f11 := t67; have f12 := b7; have f13 := k11; have f14 := t27; have f15 := t36; have f16 := t46; have f17 := j9_31 hJ rfl; have f18 := t38; have f19 := b31; have f20 := b32; have g0 := rg32 x72; have z0 : (0 : Int32).toInt = 0 := (by decide); have z1 : (1 : Int32).toInt = 1 := (by decide); have z3 : (3 : Int32).toInt = 3 := (by decide); have z1408 : (1408 : Int32).toInt = 1408 := (by decide); omega)) dX9_laysOctaves_109 (fun H locs σ77 eσ77 hP hS => ?_)
        have hJ78 : J9 (σ77 9) := hJ57.A eσ77 trivial
        have T79 : HK (σ77 9) := HK.mv b59 ((sA_f eσ77) 9 18 rfl).2.2.1 ((sA_f eσ77) 9 28 rfl).1
        refine lv_aload_n hx hb dX9_laysOctaves_110 rfl (lv_at hl 3 rfl) ?_
        refine g9_45 hx hb hts hown hK hP (hts _ q1405) dX9_laysOctaves_111 ?_
        refine lv_bipush (v := 88) hx hb dX9_laysOctaves_114 (by decide) ?_
        refine lv_iconst (v := 3) hx hb dX9_laysOctaves_116 (by decide) ?_
        refine lv_iload_n hx hb dX9_laysOctaves_117 rfl (lv_at hl 2 rfl) ?_
        refine lv_imul hx hb dX9_laysOctaves_118 ?_
        refine lv_topi (fun x80 ex80 => ?_)
        have t81 := mulC' (n := 3) ex80 (by decide) (by have f0 := b7; have f1 := k11; have f2 := t27; have f3 := t46; have f4 := t67; have f5 := j9_31 hJ rfl; have f6 := t48; have f7 := t69; have f8 := b18; have f9 := k25; have f10 := t34; have f11 := t71; have f12 := t36; have f13 := t73; have f14 := t38; have f15 := b58; have f16 := k65; have f17 := t75; have f18 := a9_24 hJ43 (j := 16) rfl; have f19 := b31; have f20 := b32; have g0 := rg32 (y3.2.1 0); have z0 : (0 : Int32).toInt = 0 := (by decide); have z1 : (1 : Int32).toInt = 1 := (by decide); have z3 : (3 : Int32).toInt = 3 := (by decide); have z1408 : (1408 : Int32).toInt = 1408 := (by decide); omega)
        refine lv_iload_n hx hb dX9_laysOctaves_119 rfl (lv_at hl 1 rfl) ?_
        refine lv_iadd hx hb dX9_laysOctaves_120 ?_
        refine lv_topi (fun x82 ex82 => ?_)
        have t83 := addO ex82 (by have f0 := b18; have f1 := k25; have f2 := t34; have f3 := t48; have f4 := t69; have f5 := t81; have f6 := b7; have f7 := k11; have f8 := t27; have f9 := t36; have f10 := t46; have f11 := t67; have f12 := t71; have f13 := j9_31 hJ rfl; have f14 := t38; have f15 := t73; have f16 := b31; have f17 := b32; have f18 := b58; have f19 := k65; have f20 := t75; have f21 := a9_24 hJ43 (j := 16) rfl; have g0 := rg32 (y14.2.1 0); have g1 := rg32 x80; have z0 : (0 : Int32).toInt = 0 := (by decide); have z1 : (1 : Int32).toInt = 1 := (by decide); have z3 : (3 : Int32).toInt = 3 := (by decide); have z1408 : (1408 : Int32).toInt = 1408 := (by decide); omega)
        refine lv_imul hx hb dX9_laysOctaves_121 ?_
        refine lv_topi (fun x84 ex84 => ?_)
        have t85 := mulC' (n := 88) ex84 (by decide) (by have f0 := t83; have f1 := b18; have f2 := k25; have f3 := t34; have f4 := t48; have f5 := t69; have f6 := t81; have f7 := b7; have f8 := k11; have f9 := t27; have f10 := t36; have f11 := t46; have f12 := t67; have f13 := t71; have f14 := j9_31 hJ rfl; have f15 := t38; have f16 := t73; have f17 := b31; have f18 := b32; have f19 := b58; have f20 := k65; have f21 := t75; have f22 := a9_24 hJ43 (j := 16) rfl; have g0 := rg32 x82; have z0 : (0 : Int32).toInt = 0 := (by decide); have z1 : (1 : Int32).toInt = 1 := (by decide); have z3 : (3 : Int32).toInt = 3 := (by decide); have z1408 : (1408 : Int32).toInt = 1408 := (by decide); omega)
        refine lv_iload_n hx hb dX9_laysOctaves_122 rfl (lv_at hl 0 rfl) ?_
        refine lv_iadd hx hb dX9_laysOctaves_123 ?_
        refine lv_topi (fun x86 ex86 => ?_)
        have t87 := addO ex86 (by have f0 := b58; have f1 := k65; have f2 := t73; have f3 := t75; have f4 := t85; have f5 := a9_24 hJ43 (j := 16) rfl; have f6 := t71; have f7 := t83; have f8 := b18; have f9 := k25; have f10 := t34; have f11 := t48; have f12 := t69; have f13 := t81; have f14 := b7; have f15 := k11; have f16 := t27; have f17 := t36; have f18 := t46; have f19 := t67; have f20 := j9_31 hJ rfl; have f21 := t38; have f22 := b31; have f23 := b32; have g0 := rg32 (y54.2.1 0); have g1 := rg32 x84; have z0 : (0 : Int32).toInt = 0 := (by decide); have z1 : (1 : Int32).toInt = 1 := (by decide); have z3 : (3 : Int32).toInt = 3 := (by decide); have z1408 : (1408 : Int32).toInt = 1408 := (by decide); omega)
        refine lv_aload_n hx hb dX9_laysOctaves_124 rfl (lv_at hl 3 rfl) ?_
        refine g9_26 hx hb hts hown hK hP (hts _ q1386) dX9_laysOctaves_125 ?_
        refine lv_sipush (v := 1408) hx hb dX9_laysOctaves_128 (by decide) ?_
        refine lv_iload_n hx hb dX9_laysOctaves_131 rfl (lv_at hl 0 rfl) ?_
        refine lv_iadd hx hb dX9_laysOctaves_132 ?_
        refine lv_topi (fun x88 ex88 => ?_)
        have t89 := addO ex88 (by have f0 := b58; have f1 := k65; have f2 := t73; have f3 := t75; have f4 := t87; have f5 := a9_24 hJ43 (j := 16) rfl; have f6 := t71; have f7 := t85; have f8 := t69; have f9 := t83; have f10 := b18; have f11 := k25; have f12 := t34; have f13 := t48; have f14 := t67; have f15 := t81; have f16 := b7; have f17 := k11; have f18 := t27; have f19 := t36; have f20 := t46; have f21 := j9_31 hJ rfl; have f22 := t38; have f23 := b31; have f24 := b32; have g0 := rg32 (y54.2.1 0); have z0 : (0 : Int32).toInt = 0 := (by decide); have z1 : (1 : Int32).toInt = 1 := (by decide); have z3 : (3 : Int32).toInt = 3 := (by decide); have z1408 : (1408 : Int32).toInt = 1408 := (by decide); omega)
        obtain ⟨x90, ex90⟩ : ∃ z, (σ40 9).2.2.1 26 x88.toInt.toNat = z := ⟨_, rfl⟩
        refine l9_26 (x := x90) hx hb hK hP (vpo (by have f0 := t89; have f1 := b58; have f2 := k65; have f3 := t73; have f4 := t75; have f5 := t87; have f6 := a9_24 hJ43 (j := 16) rfl; have f7 := t71; have f8 := t85; have f9 := t69; have f10 := t83; have f11 := b18; have f12 := k25; have f13 := t34; have f14 := t48; have f15 := t67; have f16 := t81; have f17 := b7; have f18 := k11; have f19 := t27; have f20 := t36; have f21 := t46; have f22 := j9_31 hJ rfl; have f23 := t38; have f24 := b31; have f25 := b32; have g0 := rg32 x88; have z0 : (0 : Int32).toInt = 0 := (by decide); have z1 : (1 : Int32).toInt = 1 := (by decide); have z3 : (3 : Int32).toInt = 3 := (by decide); have z1408 : (1408 : Int32).toInt = 1408 := (by decide); omega)) ((congrFun ((((sA_f eσ77) 9 26 rfl).2.2.1).trans (((hF56 9 26 rfl).2.2.1).trans (((sA_f eσ49) 9 26 rfl).2.2.1))) _).trans ex90) dX9_laysOctaves_133 ?_
        have t91 := a9_26 hJ43 ex90
        refine t9_45 hx hb hK hP hD hS (vpo (by have f0 := t87; have f1 := b58; have f2 := k65; have f3 := t73; have f4 := t75; have f5 := t85; have f6 := t89; have f7 := a9_24 hJ43 (j := 16) rfl; have f8 := t71; have f9 := t83; have f10 := t91; have f11 := b18; have f12 := k25; have f13 := t34; have f14 := t48; have f15 := t69; have f16 := t81; have f17 := b7; have f18 := k11; have f19 := t27; have f20 := t36; have f21 := t46; have f22 := t67; have f23 := j9_31 hJ rfl; have f24 := t38; have f25 := b31; have f26 := b32; have g0 := rg32 x86; have z0 : (0 : Int32).toInt = 0 := (by decide); have z1 : (1 : Int32).toInt = 1 := (by decide); have z3 : (3 : Int32).toInt = 3 := (by decide); have z1408 : (1408 : Int32).toInt = 1408 := (by decide); omega)) dX9_laysOctaves_134 (fun H locs σ92 eσ92 hP hS => ?_)
        have hJ93 : J9 (σ92 9) := hJ78.A eσ92 (show PA9 45 x86.toInt.toNat x90 from (by have f0 := t87; have f1 := t91; have f2 := b58; have f3 := k65; have f4 := t73; have f5 := t75; have f6 := t85; have f7 := t89; have f8 := a9_24 hJ43 (j := 16) rfl; have f9 := t71; have f10 := t83; have f11 := b18; have f12 := k25; have f13 := t34; have f14 := t48; have f15 := t69; have f16 := t81; have f17 := b7; have f18 := k11; have f19 := t27; have f20 := t36; have f21 := t46; have f22 := t67; have f23 := j9_31 hJ rfl; have f24 := t38; have f25 := b31; have f26 := b32; have g0 := rg32 x86; have g1 := rg32 x90; have z0 : (0 : Int32).toInt = 0 := (by decide); have z1 : (1 : Int32).toInt = 1 := (by decide); have z3 : (3 : Int32).toInt = 3 := (by decide); have z1408 : (1408 : Int32).toInt = 1408 := (by decide); exact ⟨by omega, by omega⟩))
        have T94 : HK (σ92 9) := HK.mv T79 ((sA_f eσ92) 9 18 rfl).2.2.1 ((sA_f eσ92) 9 28 rfl).1
        obtain ⟨x95, ex95⟩ : ∃ y : Int32, y = (y54.2.1 0) + 1 := ⟨_, rfl⟩
        have t96 := addO ex95 (by have f0 := b58; have f1 := k65; have f2 := t73; have f3 := t75; have f4 := t87; have f5 := t89; have f6 := a9_24 hJ43 (j := 16) rfl; have f7 := t71; have f8 := t85; have f9 := t91; have f10 := t69; have f11 := t83; have f12 := b18; have f13 := k25; have f14 := t34; have f15 := t48; have f16 := t67; have f17 := t81; have f18 := b7; have f19 := k11; have f20 := t27; have f21 := t36; have f22 := t46; have f23 := j9_31 hJ rfl; have f24 := t38; have f25 := b31; have f26 := b32; have g0 := rg32 (y54.2.1 0); have z0 : (0 : Int32).toInt = 0 := (by decide); have z1 : (1 : Int32).toInt = 1 := (by decide); have z3 : (3 : Int32).toInt = 3 := (by decide); have z1408 : (1408 : Int32).toInt = 1408 := (by decide); omega)
        refine lv_iinc (v := x95) (lv' := [(3, .int x95), (2, .int (y14.2.1 0)), (1, .int (y3.2.1 0)), (0, .ref (g 60))]) hx hb dX9_laysOctaves_135 hl (k := 0) rfl (by rw [ex95]; rfl) (by decide) rfl (fun ls hl => ?_)
        refine lv_goto (tgt := 74) hx hb dX9_laysOctaves_138 (by decide) ?_
        have t97 : ((89 : Int) - x95.toInt).toNat < ((89 : Int) - (y54.2.1 0).toInt).toNat := (by have f0 := b58; have f1 := k65; have f2 := t73; have f3 := t75; have f4 := t87; have f5 := t89; have f6 := t96; have f7 := a9_24 hJ43 (j := 16) rfl; have f8 := t71; have f9 := t85; have f10 := t91; have f11 := t69; have f12 := t83; have f13 := b18; have f14 := k25; have f15 := t34; have f16 := t48; have f17 := t67; have f18 := t81; have f19 := b7; have f20 := k11; have f21 := t27; have f22 := t36; have f23 := t46; have f24 := j9_31 hJ rfl; have f25 := t38; have f26 := b31; have f27 := b32; have g0 := rg32 (y54.2.1 0); have g1 := rg32 x95; have z0 : (0 : Int32).toInt = 0 := (by decide); have z1 : (1 : Int32).toInt = 1 := (by decide); have z3 : (3 : Int32).toInt = 3 := (by decide); have z1408 : (1408 : Int32).toInt = 1408 := (by decide); omega)
        exact nl52 (σ92, lf [x95], lg []) ⟨Fr.tr (Fr.tr (Fr.tr (Fr.rf) hF56 (fL_sub rfl)) (sA_f eσ77) (fN_L rfl)) (sA_f eσ92) (fN_L rfl), hJ93, (show (0 : Int) ≤ (x95 : Int32).toInt ∧ (x95 : Int32).toInt ≤ 88 from (by have f0 := t96; have f1 := b58; have f2 := k65; have f3 := t73; have f4 := t75; have f5 := t87; have f6 := t89; have f7 := a9_24 hJ43 (j := 16) rfl; have f8 := t71; have f9 := t85; have f10 := t91; have f11 := t69; have f12 := t83; have f13 := b18; have f14 := k25; have f15 := t34; have f16 := t48; have f17 := t67; have f18 := t81; have f19 := b7; have f20 := k11; have f21 := t27; have f22 := t36; have f23 := t46; have f24 := j9_31 hJ rfl; have f25 := t38; have f26 := b31; have f27 := b32; have g0 := rg32 x95; have z0 : (0 : Int32).toInt = 0 := (by decide); have z1 : (1 : Int32).toInt = 1 := (by decide); have z3 : (3 : Int32).toInt = 3 := (by decide); have z1408 : (1408 : Int32).toInt = 1408 := (by decide); omega)), (show HK (σ92 9) from T94), trivial⟩ (show ((89 : Int) - x95.toInt).toNat < _ from by first | exact t97 | (rw [← eσ55]; exact t97)) _ _ _ hP hS (lv_sub hl [0, 1, 2, 3] rfl)

theorem q1927 : Cond.code yX9_fewestFrom cX9_fewestFrom 9 (some .int) ∈ lw_g := lw_gm (List.mem_of_getElem? (i := 1927) (by decide +kernel)) rfl
set_option maxHeartbeats 4000000 in
set_option maxRecDepth 100000 in
theorem m_X9_fewestFrom (l : Launch) (D : va_G) (cy : Nat → ClassId) (g : Nat → Nat) (σ : ST) (p1 : Int32) (p2 : Int32) (p3 : Int32) (sz : Nat) (hJ : J9 (σ 9)) (h0 : (0 : Int) ≤ p1.toInt ∧ p1.toInt ≤ 15) (h1 : (0 : Int) ≤ p2.toInt ∧ p2.toInt ≤ 4223) (h2 : (0 : Int) ≤ p3.toInt ∧ p3.toInt ≤ 2) : Met l yX9_fewestFrom (ww yX9_fewestFrom cX9_fewestFrom 9 (some .int)) ({ frames := 4, cells := 0, slots := 0, locals := 256 }) (va_Pc [.ref (g 60), .int p1, .int p2, .int p3] (pr9 D cy g σ sz)) (qi9 D cy g sz (fun r τ => τ = σ ∧ True)) 0 0 (A9 cy g sz) := by
  refine Met.ofW (cc := cX9_fewestFrom) (maxL := 9) (ret := (some .int)) (by decide) rfl ?_
  intro p e s m args below meth c s₁ B hml hv
  obtain ⟨rfl, hsz, hP, hK, hD0, hC⟩ := hv
  have hx := B.exec
  have hb := B.bytes
  have hr := B.returns
  have hts := hts_g (atoms_spec (ws := ww yX9_fewestFrom cX9_fewestFrom 9 (some .int)) B.pre)
  have hown : s.vm.findClass RX9 = some m.cls := findClass_of_methodNamed B.named
  have hlocks := B.notSynchronized
  clear B
  subst hsz
  have hD := fun τ => A9_D (sz := s.heap.size) hD0 τ
  clear hD0
  have hS : va_S (A9 cy g s.heap.size) s.heap s.heap [] := va_S.rf
  have hl := lv_entry ([.ref (g 60), .int p1, .int p2, .int p3]) (n := 9) (Nat.le_of_ble_eq_true rfl)
  rw [lg_entry_eq]
  generalize (lg_sl ([.ref (g 60), .int p1, .int p2, .int p3]) ++ List.replicate (9 - (lg_sl ([.ref (g 60), .int p1, .int p2, .int p3])).length) Slot.unset).toArray = ls at hl ⊢
  have hl : lv_has ls 9 [(0, .ref (g 60)), (1, .int p1), (2, .int p2), (3, .int p3)] := hl
  sorry

theorem q1935 : Cond.code yX9_comesBy cX9_comesBy 11 (some .boolean) ∈ lw_g := lw_gm (List.mem_of_getElem? (i := 1935) (by decide +kernel)) rfl
set_option maxHeartbeats 4000000 in
set_option maxRecDepth 100000 in
theorem m_X9_comesBy (l : Launch) (D : va_G) (cy : Nat → ClassId) (g : Nat → Nat) (σ : ST) (p1 : Int32) (p2 : Int32) (p3 : Int32) (sz : Nat) (hJ : J9 (σ 9)) (h0 : (0 : Int) ≤ p1.toInt ∧ p1.toInt ≤ 15) (h1 : (0 : Int) ≤ p2.toInt ∧ p2.toInt ≤ 2) : Met l yX9_comesBy (ww yX9_comesBy cX9_comesBy 11 (some .boolean)) ({ frames := 4, cells := 0, slots := 0, locals := 256 }) (va_Pc [.ref (g 60), .int p1, .int p2, .int p3] (pr9 D cy g σ sz)) (qi9 D cy g sz (fun r τ => Fr (fL [47]) σ τ ∧ J9 (τ 9) ∧ ((0 : Int) ≤ r.toInt ∧ r.toInt ≤ 1) ∧ True)) 0 0 (A9 cy g sz) := by
  refine Met.ofW (cc := cX9_comesBy) (maxL := 11) (ret := (some .boolean)) (by decide) rfl ?_
  intro p e s m args below meth c s₁ B hml hv
  obtain ⟨rfl, hsz, hP, hK, hD0, hC⟩ := hv
  have hx := B.exec
  have hb := B.bytes
  have hr := B.returns
  have hts := hts_g (atoms_spec (ws := ww yX9_comesBy cX9_comesBy 11 (some .boolean)) B.pre)
  have hown : s.vm.findClass RX9 = some m.cls := findClass_of_methodNamed B.named
  have hlocks := B.notSynchronized
  clear B
  subst hsz
  have hD := fun τ => A9_D (sz := s.heap.size) hD0 τ
  clear hD0
  have hS : va_S (A9 cy g s.heap.size) s.heap s.heap [] := va_S.rf
  have hl := lv_entry ([.ref (g 60), .int p1, .int p2, .int p3]) (n := 11) (Nat.le_of_ble_eq_true rfl)
  rw [lg_entry_eq]
  generalize (lg_sl ([.ref (g 60), .int p1, .int p2, .int p3]) ++ List.replicate (11 - (lg_sl ([.ref (g 60), .int p1, .int p2, .int p3])).length) Slot.unset).toArray = ls at hl ⊢
  have hl : lv_has ls 11 [(0, .ref (g 60)), (1, .int p1), (2, .int p2), (3, .int p3)] := hl
  sorry

theorem q1919 : Cond.code yX9_moves cX9_moves 7 (some .int) ∈ lw_g := lw_gm (List.mem_of_getElem? (i := 1919) (by decide +kernel)) rfl
set_option maxHeartbeats 4000000 in
set_option maxRecDepth 100000 in
theorem m_X9_moves (l : Launch) (D : va_G) (cy : Nat → ClassId) (g : Nat → Nat) (σ : ST) (p1 : Int32) (p2 : Int32) (sz : Nat) (hJ : J9 (σ 9)) (kDK0 : DK0 (σ 9)) (h0 : (0 : Int) ≤ p1.toInt ∧ p1.toInt ≤ 8) (h1 : (0 : Int) ≤ p2.toInt ∧ p2.toInt ≤ 2) (h2 : p1.toInt < ((σ 9).2.2.1 17 3).toInt) : Met l yX9_moves (ww yX9_moves cX9_moves 7 (some .int)) ({ frames := 6, cells := 0, slots := 0, locals := 384 }) (va_Pc [.ref (g 60), .int p1, .int p2] (pr9 D cy g σ sz)) (qi9 D cy g sz (fun r τ => Fr (fL [23, 24, 25, 26, 27, 28, 29, 30, 31, 32, 33, 34, 43, 44, 45, 46, 47, 48]) σ τ ∧ J9 (τ 9) ∧ True)) 0 0 (A9 cy g sz) := by
  refine Met.ofW (cc := cX9_moves) (maxL := 7) (ret := (some .int)) (by decide) rfl ?_
  intro p e s m args below meth c s₁ B hml hv
  obtain ⟨rfl, hsz, hP, hK, hD0, hC⟩ := hv
  have hx := B.exec
  have hb := B.bytes
  have hr := B.returns
  have hts := hts_g (atoms_spec (ws := ww yX9_moves cX9_moves 7 (some .int)) B.pre)
  have hown : s.vm.findClass RX9 = some m.cls := findClass_of_methodNamed B.named
  have hlocks := B.notSynchronized
  clear B
  subst hsz
  have hD := fun τ => A9_D (sz := s.heap.size) hD0 τ
  clear hD0
  have hS : va_S (A9 cy g s.heap.size) s.heap s.heap [] := va_S.rf
  have hl := lv_entry ([.ref (g 60), .int p1, .int p2]) (n := 7) (Nat.le_of_ble_eq_true rfl)
  rw [lg_entry_eq]
  generalize (lg_sl ([.ref (g 60), .int p1, .int p2]) ++ List.replicate (7 - (lg_sl ([.ref (g 60), .int p1, .int p2])).length) Slot.unset).toArray = ls at hl ⊢
  have hl : lv_has ls 7 [(0, .ref (g 60)), (1, .int p1), (2, .int p2)] := hl
  sorry

theorem q1915 : Cond.code yX9_moved cX9_moved 4 (some .int) ∈ lw_g := lw_gm (List.mem_of_getElem? (i := 1915) (by decide +kernel)) rfl
theorem q1916 : Cond.methodLink RX9 457 yX9_moves ∈ lw_g := lw_gm (List.mem_of_getElem? (i := 1916) (by decide +kernel)) rfl
theorem q1918 : Cond.instanceMethod yX9_moves ∈ lw_g := lw_gm (List.mem_of_getElem? (i := 1918) (by decide +kernel)) rfl
theorem q101 : Cond.selects RX9 yX9_moves yX9_moves ∈ lw_g := lw_gm (List.mem_of_getElem? (i := 101) (by decide +kernel)) rfl
theorem dX9_moved_0 : decode cX9_moved 0 = .ok (.aload_n 0, 1) := by decide +kernel
theorem dX9_moved_1 : decode cX9_moved 1 = .ok (.iconst 0, 1) := by decide +kernel
theorem dX9_moved_2 : decode cX9_moved 2 = .ok (.putfield 129, 3) := by decide +kernel
theorem dX9_moved_5 : decode cX9_moved 5 = .ok (.aload_n 0, 1) := by decide +kernel
theorem dX9_moved_6 : decode cX9_moved 6 = .ok (.iload_n 1, 1) := by decide +kernel
theorem dX9_moved_7 : decode cX9_moved 7 = .ok (.iload_n 2, 1) := by decide +kernel
theorem dX9_moved_8 : decode cX9_moved 8 = .ok (.invokevirtual 433, 3) := by decide +kernel
theorem dX9_moved_11 : decode cX9_moved 11 = .ok (.ifCond .ne 6, 3) := by decide +kernel
theorem dX9_moved_14 : decode cX9_moved 14 = .ok (.bipush (-2), 2) := by decide +kernel
theorem dX9_moved_16 : decode cX9_moved 16 = .ok (.ireturn, 1) := by decide +kernel
theorem dX9_moved_17 : decode cX9_moved 17 = .ok (.aload_n 0, 1) := by decide +kernel
theorem dX9_moved_18 : decode cX9_moved 18 = .ok (.iload_n 1, 1) := by decide +kernel
theorem dX9_moved_19 : decode cX9_moved 19 = .ok (.iload_n 2, 1) := by decide +kernel
theorem dX9_moved_20 : decode cX9_moved 20 = .ok (.invokevirtual 457, 3) := by decide +kernel
theorem dX9_moved_23 : decode cX9_moved 23 = .ok (.istore_n 3, 1) := by decide +kernel
theorem dX9_moved_24 : decode cX9_moved 24 = .ok (.iload_n 3, 1) := by decide +kernel
theorem dX9_moved_25 : decode cX9_moved 25 = .ok (.ldc 180, 2) := by decide +kernel
theorem dX9_moved_27 : decode cX9_moved 27 = .ok (.if_icmp .ne 7, 3) := by decide +kernel
theorem dX9_moved_30 : decode cX9_moved 30 = .ok (.iconst (-1), 1) := by decide +kernel
theorem dX9_moved_31 : decode cX9_moved 31 = .ok (.goto 4, 3) := by decide +kernel
theorem dX9_moved_34 : decode cX9_moved 34 = .ok (.iload_n 3, 1) := by decide +kernel
theorem dX9_moved_35 : decode cX9_moved 35 = .ok (.ireturn, 1) := by decide +kernel
set_option maxHeartbeats 4000000 in
set_option maxRecDepth 100000 in
theorem m_X9_moved (l : Launch) (D : va_G) (cy : Nat → ClassId) (g : Nat → Nat) (σ : ST) (p1 : Int32) (p2 : Int32) (sz : Nat) (hJ : J9 (σ 9)) (kDK0 : DK0 (σ 9)) : Met l yX9_moved (ww yX9_moved cX9_moved 4 (some .int)) ({ frames := 7, cells := 0, slots := 0, locals := 448 }) (va_Pc [.ref (g 60), .int p1, .int p2] (pr9 D cy g σ sz)) (qi9 D cy g sz (fun r τ => Fr (fL [0, 23, 24, 25, 26, 27, 28, 29, 30, 31, 32, 33, 34, 43, 44, 45, 46, 47, 48]) σ τ ∧ J9 (τ 9) ∧ True)) 0 0 (A9 cy g sz) := by
  refine Met.ofW (cc := cX9_moved) (maxL := 4) (ret := (some .int)) (by decide) rfl ?_
  intro p e s m args below meth c s₁ B hml hv
  obtain ⟨rfl, hsz, hP, hK, hD0, hC⟩ := hv
  have hx := B.exec
  have hb := B.bytes
  have hr := B.returns
  have hts := hts_g (atoms_spec (ws := ww yX9_moved cX9_moved 4 (some .int)) B.pre)
  have hown : s.vm.findClass RX9 = some m.cls := findClass_of_methodNamed B.named
  have hlocks := B.notSynchronized
  clear B
  subst hsz
  have hD := fun τ => A9_D (sz := s.heap.size) hD0 τ
  clear hD0
  have hS : va_S (A9 cy g s.heap.size) s.heap s.heap [] := va_S.rf
  have hl := lv_entry ([.ref (g 60), .int p1, .int p2]) (n := 4) (Nat.le_of_ble_eq_true rfl)
  rw [lg_entry_eq]
  generalize (lg_sl ([.ref (g 60), .int p1, .int p2]) ++ List.replicate (4 - (lg_sl ([.ref (g 60), .int p1, .int p2])).length) Slot.unset).toArray = ls at hl ⊢
  have hl : lv_has ls 4 [(0, .ref (g 60)), (1, .int p1), (2, .int p2)] := hl
  refine lv_aload_n hx hb dX9_moved_0 rfl (lv_at hl 0 rfl) ?_
  refine lv_iconst (v := 0) hx hb dX9_moved_1 (by decide) ?_
  refine p9_0 hx hb hts hown hK hP hD hS (hts _ q1360) dX9_moved_2 (fun H locs σ1 eσ1 hP hS => ?_)
  have hJ2 : J9 (σ1 9) := hJ.I eσ1 (show JI9 0 (0 : Int32) from trivial)
  have T3 : DK0 (σ1 9) := DK0.mv kDK0 ((sI_f eσ1) 9 17 rfl).2.2.1 ((sI_f eσ1) 9 18 rfl).2.2.1 ((sI_f eσ1) 9 19 rfl).2.2.1
  refine lv_aload_n hx hb dX9_moved_5 rfl (lv_at hl 0 rfl) ?_
  refine lv_iload_n hx hb dX9_moved_6 rfl (lv_at hl 1 rfl) ?_
  refine lv_iload_n hx hb dX9_moved_7 rfl (lv_at hl 2 rfl) ?_
  refine va_calli (va_runV (As := [.int p1, .int p2]) (rest := []) ⟨hx, hb, hml, hown, hts⟩ (m_X9_isPlaying l D cy g σ1 p1 p2 _ hJ2 ) (cwV 2 hts (gd_V q1822 q1824 q87 q134 q1825) rfl rfl rfl (by decide +kernel) ⟨Nat.le_of_ble_eq_true rfl, Nat.le_of_ble_eq_true rfl⟩) (pv9 hP hK hD hC hS (va_recv hK hP (ci := 9) (q0 := 0) rfl rfl)) rfl rfl hl.1 rfl (lv_room (Nat.le_of_ble_eq_true rfl)) dX9_moved_8 ⟨Nat.le_of_ble_eq_true rfl, Nat.le_of_ble_eq_true rfl⟩) hS (fun q _ h => up9 hS q h) (up9 hS) (fun r4 σ5 tS H1 locs ht hvm hw6 hB hz1 hk1 hS => ?_)
  have hP : va_P D clz (WD9 cy g σ5) H1 := by rw [← ht]; exact hB
  clear hB hz1 hk1 hvm ht
  generalize H1 = H at hP hS ⊢
  have hw6E : σ1 = σ5 := (hw6.1).symm
  subst hw6E
  have b7 : (0 : Int) ≤ r4.toInt ∧ r4.toInt ≤ 1 := hw6.2.1
  have b8 : (r4.toInt = 0) ∨ ((0 : Int) ≤ p1.toInt ∧ p1.toInt ≤ 8 ∧ (0 : Int) ≤ p2.toInt ∧ p2.toInt ≤ 2) := hw6.2.2.1
  have b9 : (r4.toInt = 0) ∨ (p1.toInt < ((σ1 9).2.2.1 17 3).toInt) := hw6.2.2.2.1
  refine lv_if_ne (tgt := 17) hx hb dX9_moved_11 (by decide) (fun c10 => ?_) (fun c10 => ?_)
  ·
    have k11 := neq32 c10
    refine lv_aload_n hx hb dX9_moved_17 rfl (lv_at hl 0 rfl) ?_
    refine lv_iload_n hx hb dX9_moved_18 rfl (lv_at hl 1 rfl) ?_
    refine lv_iload_n hx hb dX9_moved_19 rfl (lv_at hl 2 rfl) ?_
    refine va_calli (va_runV (As := [.int p1, .int p2]) (rest := []) ⟨hx, hb, hml, hown, hts⟩ (m_X9_moves l D cy g σ1 p1 p2 _ hJ2 T3 (show (0 : Int) ≤ p1.toInt ∧ p1.toInt ≤ 8 from (by have f0 := b8; have f1 := b9; have f2 := a9_17 hJ2 (j := 3) rfl; have f3 := congrArg Int32.toInt (show ((σ1 9).2.2.1 17 3) = ((σ 9).2.2.1 17 3) from congrFun (((sI_f eσ1) 9 17 rfl).2.2.1) _); have f4 := b7; have f5 := k11; have f6 := a9_17 hJ (j := 3) rfl; have g2 := rg32 p1; have z0 : (0 : Int32).toInt = 0 := (by decide); omega)) (show (0 : Int) ≤ p2.toInt ∧ p2.toInt ≤ 2 from (by have f0 := b8; have f1 := b9; have f2 := a9_17 hJ2 (j := 3) rfl; have f3 := congrArg Int32.toInt (show ((σ1 9).2.2.1 17 3) = ((σ 9).2.2.1 17 3) from congrFun (((sI_f eσ1) 9 17 rfl).2.2.1) _); have f4 := b7; have f5 := k11; have f6 := a9_17 hJ (j := 3) rfl; have g2 := rg32 p1; have g3 := rg32 p2; have z0 : (0 : Int32).toInt = 0 := (by decide); omega)) (show p1.toInt < ((σ1 9).2.2.1 17 3).toInt from (by have f0 := a9_17 hJ2 (j := 3) rfl; have f1 := congrArg Int32.toInt (show ((σ1 9).2.2.1 17 3) = ((σ 9).2.2.1 17 3) from congrFun (((sI_f eσ1) 9 17 rfl).2.2.1) _); have f2 := b8; have f3 := b9; have f4 := a9_17 hJ (j := 3) rfl; have f5 := b7; have f6 := k11; have g2 := rg32 p1; have z0 : (0 : Int32).toInt = 0 := (by decide); omega))) (cwV 2 hts (gd_V q1916 q1918 q101 q134 q1919) rfl rfl rfl (by decide +kernel) ⟨Nat.le_of_ble_eq_true rfl, Nat.le_of_ble_eq_true rfl⟩) (pv9 hP hK hD hC hS (va_recv hK hP (ci := 9) (q0 := 0) rfl rfl)) rfl rfl hl.1 rfl (lv_room (Nat.le_of_ble_eq_true rfl)) dX9_moved_20 ⟨Nat.le_of_ble_eq_true rfl, Nat.le_of_ble_eq_true rfl⟩) hS (fun q _ h => up9 hS q h) (up9 hS) (fun r12 σ13 tS H1 locs ht hvm hw14 hB hz1 hk1 hS => ?_)
    have hP : va_P D clz (WD9 cy g σ13) H1 := by rw [← ht]; exact hB
    clear hB hz1 hk1 hvm ht
    generalize H1 = H at hP hS ⊢
    have hF15 : Fr (fL [23, 24, 25, 26, 27, 28, 29, 30, 31, 32, 33, 34, 43, 44, 45, 46, 47, 48]) σ1 σ13 := hw14.1
    have hJ16 : J9 (σ13 9) := hw14.2.1
    have T17 : DK0 (σ13 9) := DK0.mv T3 (hF15 9 17 rfl).2.2.1 (hF15 9 18 rfl).2.2.1 (hF15 9 19 rfl).2.2.1
    refine lv_istore_n (lv' := [(3, .int r12), (0, .ref (g 60)), (1, .int p1), (2, .int p2)]) hx hb dX9_moved_23 rfl hl (by decide) rfl (fun ls hl => ?_)
    refine lv_iload_n hx hb dX9_moved_24 rfl (lv_at hl 0 rfl) ?_
    refine lv_ldc (v := 1000000) hx hb hown (hts _ q1604) dX9_moved_25 ?_
    refine lv_icmp_ne (tgt := 34) hx hb dX9_moved_27 (by decide) (fun c18 => ?_) (fun c18 => ?_)
    ·
      have k19 := neq32 c18
      refine lv_iload_n hx hb dX9_moved_34 rfl (lv_at hl 0 rfl) ?_
      exact W.iret (v := r12) hx hb hr (fun tS ht hW => ⟨⟨r12, σ13, rfl, ⟨Fr.tr (Fr.tr (Fr.rf) (sI_f eσ1) (fN_L rfl)) hF15 (fL_sub rfl), hJ16, trivial⟩, (show va_P D clz (WD9 cy g σ13) tS.heap by rw [ht]; exact hP)⟩, hS.F ht⟩) hS.2.2 dX9_moved_35
    ·
      have k20 := peq32 c18
      refine lv_iconst (v := (-1)) hx hb dX9_moved_30 (by decide) ?_
      refine lv_goto (tgt := 35) hx hb dX9_moved_31 (by decide) ?_
      exact W.iret (v := (-1)) hx hb hr (fun tS ht hW => ⟨⟨(-1), σ13, rfl, ⟨Fr.tr (Fr.tr (Fr.rf) (sI_f eσ1) (fN_L rfl)) hF15 (fL_sub rfl), hJ16, trivial⟩, (show va_P D clz (WD9 cy g σ13) tS.heap by rw [ht]; exact hP)⟩, hS.F ht⟩) hS.2.2 dX9_moved_35
  ·
    have k21 := peq32 c10
    refine lv_bipush (v := (-2)) hx hb dX9_moved_14 (by decide) ?_
    exact W.iret (v := (-2)) hx hb hr (fun tS ht hW => ⟨⟨(-2), σ1, rfl, ⟨Fr.tr (Fr.rf) (sI_f eσ1) (fN_L rfl), hJ2, trivial⟩, (show va_P D clz (WD9 cy g σ1) tS.heap by rw [ht]; exact hP)⟩, hS.F ht⟩) hS.2.2 dX9_moved_16

theorem q1939 : Cond.code yX9_put cX9_put 5 (some .int) ∈ lw_g := lw_gm (List.mem_of_getElem? (i := 1939) (by decide +kernel)) rfl
theorem q1408 : Cond.fieldLink RX9 104 "LipsAndSlidesModel" "putBy" "[I" ∈ lw_g := lw_gm (List.mem_of_getElem? (i := 1408) (by decide +kernel)) rfl
theorem dX9_put_0 : decode cX9_put 0 = .ok (.aload_n 0, 1) := by decide +kernel
theorem dX9_put_1 : decode cX9_put 1 = .ok (.iconst 0, 1) := by decide +kernel
theorem dX9_put_2 : decode cX9_put 2 = .ok (.putfield 129, 3) := by decide +kernel
theorem dX9_put_5 : decode cX9_put 5 = .ok (.aload_n 0, 1) := by decide +kernel
theorem dX9_put_6 : decode cX9_put 6 = .ok (.iload_n 1, 1) := by decide +kernel
theorem dX9_put_7 : decode cX9_put 7 = .ok (.iload_n 2, 1) := by decide +kernel
theorem dX9_put_8 : decode cX9_put 8 = .ok (.invokevirtual 433, 3) := by decide +kernel
theorem dX9_put_11 : decode cX9_put 11 = .ok (.ifCond .ne 6, 3) := by decide +kernel
theorem dX9_put_14 : decode cX9_put 14 = .ok (.bipush (-2), 2) := by decide +kernel
theorem dX9_put_16 : decode cX9_put 16 = .ok (.ireturn, 1) := by decide +kernel
theorem dX9_put_17 : decode cX9_put 17 = .ok (.aload_n 0, 1) := by decide +kernel
theorem dX9_put_18 : decode cX9_put 18 = .ok (.iload_n 1, 1) := by decide +kernel
theorem dX9_put_19 : decode cX9_put 19 = .ok (.iload_n 2, 1) := by decide +kernel
theorem dX9_put_20 : decode cX9_put 20 = .ok (.invokevirtual 457, 3) := by decide +kernel
theorem dX9_put_23 : decode cX9_put 23 = .ok (.ldc 180, 2) := by decide +kernel
theorem dX9_put_25 : decode cX9_put 25 = .ok (.if_icmp .ne 5, 3) := by decide +kernel
theorem dX9_put_28 : decode cX9_put 28 = .ok (.iconst (-1), 1) := by decide +kernel
theorem dX9_put_29 : decode cX9_put 29 = .ok (.ireturn, 1) := by decide +kernel
theorem dX9_put_30 : decode cX9_put 30 = .ok (.aload_n 0, 1) := by decide +kernel
theorem dX9_put_31 : decode cX9_put 31 = .ok (.iload_n 3, 1) := by decide +kernel
theorem dX9_put_32 : decode cX9_put 32 = .ok (.invokevirtual 439, 3) := by decide +kernel
theorem dX9_put_35 : decode cX9_put 35 = .ok (.istore 4, 2) := by decide +kernel
theorem dX9_put_37 : decode cX9_put 37 = .ok (.iload 4, 2) := by decide +kernel
theorem dX9_put_39 : decode cX9_put 39 = .ok (.iconst (-1), 1) := by decide +kernel
theorem dX9_put_40 : decode cX9_put 40 = .ok (.if_icmp .ne 7, 3) := by decide +kernel
theorem dX9_put_43 : decode cX9_put 43 = .ok (.iconst (-1), 1) := by decide +kernel
theorem dX9_put_44 : decode cX9_put 44 = .ok (.goto 15, 3) := by decide +kernel
theorem dX9_put_47 : decode cX9_put 47 = .ok (.bipush 12, 2) := by decide +kernel
theorem dX9_put_49 : decode cX9_put 49 = .ok (.aload_n 0, 1) := by decide +kernel
theorem dX9_put_50 : decode cX9_put 50 = .ok (.getfield 104, 3) := by decide +kernel
theorem dX9_put_53 : decode cX9_put 53 = .ok (.iload 4, 2) := by decide +kernel
theorem dX9_put_55 : decode cX9_put 55 = .ok (.iaload, 1) := by decide +kernel
theorem dX9_put_56 : decode cX9_put 56 = .ok (.iconst 1, 1) := by decide +kernel
theorem dX9_put_57 : decode cX9_put 57 = .ok (.isub, 1) := by decide +kernel
theorem dX9_put_58 : decode cX9_put 58 = .ok (.imul, 1) := by decide +kernel
theorem dX9_put_59 : decode cX9_put 59 = .ok (.ireturn, 1) := by decide +kernel
set_option maxHeartbeats 4000000 in
set_option maxRecDepth 100000 in
theorem m_X9_put (l : Launch) (D : va_G) (cy : Nat → ClassId) (g : Nat → Nat) (σ : ST) (p1 : Int32) (p2 : Int32) (p3 : Int32) (sz : Nat) (hJ : J9 (σ 9)) (kDK0 : DK0 (σ 9)) : Met l yX9_put (ww yX9_put cX9_put 5 (some .int)) ({ frames := 7, cells := 0, slots := 0, locals := 448 }) (va_Pc [.ref (g 60), .int p1, .int p2, .int p3] (pr9 D cy g σ sz)) (qi9 D cy g sz (fun r τ => Fr (fL [0, 23, 24, 25, 26, 27, 28, 29, 30, 31, 32, 33, 34, 43, 44, 45, 46, 47, 48]) σ τ ∧ J9 (τ 9) ∧ True)) 0 0 (A9 cy g sz) := by
  refine Met.ofW (cc := cX9_put) (maxL := 5) (ret := (some .int)) (by decide) rfl ?_
  intro p e s m args below meth c s₁ B hml hv
  obtain ⟨rfl, hsz, hP, hK, hD0, hC⟩ := hv
  have hx := B.exec
  have hb := B.bytes
  have hr := B.returns
  have hts := hts_g (atoms_spec (ws := ww yX9_put cX9_put 5 (some .int)) B.pre)
  have hown : s.vm.findClass RX9 = some m.cls := findClass_of_methodNamed B.named
  have hlocks := B.notSynchronized
  clear B
  subst hsz
  have hD := fun τ => A9_D (sz := s.heap.size) hD0 τ
  clear hD0
  have hS : va_S (A9 cy g s.heap.size) s.heap s.heap [] := va_S.rf
  have hl := lv_entry ([.ref (g 60), .int p1, .int p2, .int p3]) (n := 5) (Nat.le_of_ble_eq_true rfl)
  rw [lg_entry_eq]
  generalize (lg_sl ([.ref (g 60), .int p1, .int p2, .int p3]) ++ List.replicate (5 - (lg_sl ([.ref (g 60), .int p1, .int p2, .int p3])).length) Slot.unset).toArray = ls at hl ⊢
  have hl : lv_has ls 5 [(0, .ref (g 60)), (1, .int p1), (2, .int p2), (3, .int p3)] := hl
  refine lv_aload_n hx hb dX9_put_0 rfl (lv_at hl 0 rfl) ?_
  refine lv_iconst (v := 0) hx hb dX9_put_1 (by decide) ?_
  refine p9_0 hx hb hts hown hK hP hD hS (hts _ q1360) dX9_put_2 (fun H locs σ1 eσ1 hP hS => ?_)
  have hJ2 : J9 (σ1 9) := hJ.I eσ1 (show JI9 0 (0 : Int32) from trivial)
  have T3 : DK0 (σ1 9) := DK0.mv kDK0 ((sI_f eσ1) 9 17 rfl).2.2.1 ((sI_f eσ1) 9 18 rfl).2.2.1 ((sI_f eσ1) 9 19 rfl).2.2.1
  refine lv_aload_n hx hb dX9_put_5 rfl (lv_at hl 0 rfl) ?_
  refine lv_iload_n hx hb dX9_put_6 rfl (lv_at hl 1 rfl) ?_
  refine lv_iload_n hx hb dX9_put_7 rfl (lv_at hl 2 rfl) ?_
  refine va_calli (va_runV (As := [.int p1, .int p2]) (rest := []) ⟨hx, hb, hml, hown, hts⟩ (m_X9_isPlaying l D cy g σ1 p1 p2 _ hJ2 ) (cwV 2 hts (gd_V q1822 q1824 q87 q134 q1825) rfl rfl rfl (by decide +kernel) ⟨Nat.le_of_ble_eq_true rfl, Nat.le_of_ble_eq_true rfl⟩) (pv9 hP hK hD hC hS (va_recv hK hP (ci := 9) (q0 := 0) rfl rfl)) rfl rfl hl.1 rfl (lv_room (Nat.le_of_ble_eq_true rfl)) dX9_put_8 ⟨Nat.le_of_ble_eq_true rfl, Nat.le_of_ble_eq_true rfl⟩) hS (fun q _ h => up9 hS q h) (up9 hS) (fun r4 σ5 tS H1 locs ht hvm hw6 hB hz1 hk1 hS => ?_)
  have hP : va_P D clz (WD9 cy g σ5) H1 := by rw [← ht]; exact hB
  clear hB hz1 hk1 hvm ht
  generalize H1 = H at hP hS ⊢
  have hw6E : σ1 = σ5 := (hw6.1).symm
  subst hw6E
  have b7 : (0 : Int) ≤ r4.toInt ∧ r4.toInt ≤ 1 := hw6.2.1
  have b8 : (r4.toInt = 0) ∨ ((0 : Int) ≤ p1.toInt ∧ p1.toInt ≤ 8 ∧ (0 : Int) ≤ p2.toInt ∧ p2.toInt ≤ 2) := hw6.2.2.1
  have b9 : (r4.toInt = 0) ∨ (p1.toInt < ((σ1 9).2.2.1 17 3).toInt) := hw6.2.2.2.1
  refine lv_if_ne (tgt := 17) hx hb dX9_put_11 (by decide) (fun c10 => ?_) (fun c10 => ?_)
  ·
    have k11 := neq32 c10
    refine lv_aload_n hx hb dX9_put_17 rfl (lv_at hl 0 rfl) ?_
    refine lv_iload_n hx hb dX9_put_18 rfl (lv_at hl 1 rfl) ?_
    refine lv_iload_n hx hb dX9_put_19 rfl (lv_at hl 2 rfl) ?_
    refine va_calli (va_runV (As := [.int p1, .int p2]) (rest := []) ⟨hx, hb, hml, hown, hts⟩ (m_X9_moves l D cy g σ1 p1 p2 _ hJ2 T3 (show (0 : Int) ≤ p1.toInt ∧ p1.toInt ≤ 8 from (by have f0 := b8; have f1 := b9; have f2 := a9_17 hJ2 (j := 3) rfl; have f3 := congrArg Int32.toInt (show ((σ1 9).2.2.1 17 3) = ((σ 9).2.2.1 17 3) from congrFun (((sI_f eσ1) 9 17 rfl).2.2.1) _); have f4 := b7; have f5 := k11; have f6 := a9_17 hJ (j := 3) rfl; have g2 := rg32 p1; have z0 : (0 : Int32).toInt = 0 := (by decide); omega)) (show (0 : Int) ≤ p2.toInt ∧ p2.toInt ≤ 2 from (by have f0 := b8; have f1 := b9; have f2 := a9_17 hJ2 (j := 3) rfl; have f3 := congrArg Int32.toInt (show ((σ1 9).2.2.1 17 3) = ((σ 9).2.2.1 17 3) from congrFun (((sI_f eσ1) 9 17 rfl).2.2.1) _); have f4 := b7; have f5 := k11; have f6 := a9_17 hJ (j := 3) rfl; have g2 := rg32 p1; have g3 := rg32 p2; have z0 : (0 : Int32).toInt = 0 := (by decide); omega)) (show p1.toInt < ((σ1 9).2.2.1 17 3).toInt from (by have f0 := a9_17 hJ2 (j := 3) rfl; have f1 := congrArg Int32.toInt (show ((σ1 9).2.2.1 17 3) = ((σ 9).2.2.1 17 3) from congrFun (((sI_f eσ1) 9 17 rfl).2.2.1) _); have f2 := b8; have f3 := b9; have f4 := a9_17 hJ (j := 3) rfl; have f5 := b7; have f6 := k11; have g2 := rg32 p1; have z0 : (0 : Int32).toInt = 0 := (by decide); omega))) (cwV 2 hts (gd_V q1916 q1918 q101 q134 q1919) rfl rfl rfl (by decide +kernel) ⟨Nat.le_of_ble_eq_true rfl, Nat.le_of_ble_eq_true rfl⟩) (pv9 hP hK hD hC hS (va_recv hK hP (ci := 9) (q0 := 0) rfl rfl)) rfl rfl hl.1 rfl (lv_room (Nat.le_of_ble_eq_true rfl)) dX9_put_20 ⟨Nat.le_of_ble_eq_true rfl, Nat.le_of_ble_eq_true rfl⟩) hS (fun q _ h => up9 hS q h) (up9 hS) (fun r12 σ13 tS H1 locs ht hvm hw14 hB hz1 hk1 hS => ?_)
    have hP : va_P D clz (WD9 cy g σ13) H1 := by rw [← ht]; exact hB
    clear hB hz1 hk1 hvm ht
    generalize H1 = H at hP hS ⊢
    have hF15 : Fr (fL [23, 24, 25, 26, 27, 28, 29, 30, 31, 32, 33, 34, 43, 44, 45, 46, 47, 48]) σ1 σ13 := hw14.1
    have hJ16 : J9 (σ13 9) := hw14.2.1
    have T17 : DK0 (σ13 9) := DK0.mv T3 (hF15 9 17 rfl).2.2.1 (hF15 9 18 rfl).2.2.1 (hF15 9 19 rfl).2.2.1
    refine lv_ldc (v := 1000000) hx hb hown (hts _ q1604) dX9_put_23 ?_
    refine lv_icmp_ne (tgt := 30) hx hb dX9_put_25 (by decide) (fun c18 => ?_) (fun c18 => ?_)
    ·
      have k19 := neq32 c18
      refine lv_aload_n hx hb dX9_put_30 rfl (lv_at hl 0 rfl) ?_
      refine lv_iload_n hx hb dX9_put_31 rfl (lv_at hl 3 rfl) ?_
      refine va_calli (va_runV (As := [.int p3]) (rest := []) ⟨hx, hb, hml, hown, hts⟩ (m_X9_soundOf l D cy g σ13 p3 _ hJ16 ) (cwV 1 hts (gd_V q1884 q1886 q99 q134 q1887) rfl rfl rfl (by decide +kernel) ⟨Nat.le_of_ble_eq_true rfl, Nat.le_of_ble_eq_true rfl⟩) (pv9 hP hK hD hC hS (va_recv hK hP (ci := 9) (q0 := 0) rfl rfl)) rfl rfl hl.1 rfl (lv_room (Nat.le_of_ble_eq_true rfl)) dX9_put_32 ⟨Nat.le_of_ble_eq_true rfl, Nat.le_of_ble_eq_true rfl⟩) hS (fun q _ h => up9 hS q h) (up9 hS) (fun r20 σ21 tS H1 locs ht hvm hw22 hB hz1 hk1 hS => ?_)
      have hP : va_P D clz (WD9 cy g σ21) H1 := by rw [← ht]; exact hB
      clear hB hz1 hk1 hvm ht
      generalize H1 = H at hP hS ⊢
      have hw22E : σ13 = σ21 := (hw22.1).symm
      subst hw22E
      have b23 : (-1 : Int) ≤ r20.toInt ∧ r20.toInt ≤ 15 := hw22.2.1
      refine lv_istore (lv' := [(4, .int r20), (0, .ref (g 60)), (1, .int p1), (2, .int p2), (3, .int p3)]) hx hb dX9_put_35 hl (by decide) rfl (fun ls hl => ?_)
      refine lv_iload hx hb dX9_put_37 (lv_at hl 0 rfl) ?_
      refine lv_iconst (v := (-1)) hx hb dX9_put_39 (by decide) ?_
      refine lv_icmp_ne (tgt := 47) hx hb dX9_put_40 (by decide) (fun c24 => ?_) (fun c24 => ?_)
      ·
        have k25 := neq32 c24
        refine lv_bipush (v := 12) hx hb dX9_put_47 (by decide) ?_
        refine lv_aload_n hx hb dX9_put_49 rfl (lv_at hl 1 rfl) ?_
        refine g9_48 hx hb hts hown hK hP (hts _ q1408) dX9_put_50 ?_
        refine lv_iload hx hb dX9_put_53 (lv_at hl 0 rfl) ?_
        obtain ⟨x26, ex26⟩ : ∃ z, (σ13 9).2.2.1 48 r20.toInt.toNat = z := ⟨_, rfl⟩
        refine l9_48 (x := x26) hx hb hK hP (vpo (by have f0 := b23; have f1 := k25; have g0 := rg32 r20; have zm1 : ((-1) : Int32).toInt = (-1) := (by decide); omega)) ex26 dX9_put_55 ?_
        have t27 := a9_48 hJ16 ex26
        refine lv_iconst (v := 1) hx hb dX9_put_56 (by decide) ?_
        refine lv_isub hx hb dX9_put_57 ?_
        refine lv_topi (fun x28 ex28 => ?_)
        have t29 := subO ex28 (by have f0 := t27; have f1 := b23; have f2 := k25; have g0 := rg32 x26; have zm1 : ((-1) : Int32).toInt = (-1) := (by decide); have z1 : (1 : Int32).toInt = 1 := (by decide); omega)
        refine lv_imul hx hb dX9_put_58 ?_
        refine lv_topi (fun x30 ex30 => ?_)
        have t31 := mulC' (n := 12) ex30 (by decide) (by have f0 := t29; have f1 := t27; have f2 := b23; have f3 := k25; have g0 := rg32 x28; have zm1 : ((-1) : Int32).toInt = (-1) := (by decide); have z1 : (1 : Int32).toInt = 1 := (by decide); omega)
        exact W.iret (v := x30) hx hb hr (fun tS ht hW => ⟨⟨x30, σ13, rfl, ⟨Fr.tr (Fr.tr (Fr.rf) (sI_f eσ1) (fN_L rfl)) hF15 (fL_sub rfl), hJ16, trivial⟩, (show va_P D clz (WD9 cy g σ13) tS.heap by rw [ht]; exact hP)⟩, hS.F ht⟩) hS.2.2 dX9_put_59
      ·
        have k32 := peq32 c24
        refine lv_iconst (v := (-1)) hx hb dX9_put_43 (by decide) ?_
        refine lv_goto (tgt := 59) hx hb dX9_put_44 (by decide) ?_
        exact W.iret (v := (-1)) hx hb hr (fun tS ht hW => ⟨⟨(-1), σ13, rfl, ⟨Fr.tr (Fr.tr (Fr.rf) (sI_f eσ1) (fN_L rfl)) hF15 (fL_sub rfl), hJ16, trivial⟩, (show va_P D clz (WD9 cy g σ13) tS.heap by rw [ht]; exact hP)⟩, hS.F ht⟩) hS.2.2 dX9_put_59
    ·
      have k33 := peq32 c18
      refine lv_iconst (v := (-1)) hx hb dX9_put_28 (by decide) ?_
      exact W.iret (v := (-1)) hx hb hr (fun tS ht hW => ⟨⟨(-1), σ13, rfl, ⟨Fr.tr (Fr.tr (Fr.rf) (sI_f eσ1) (fN_L rfl)) hF15 (fL_sub rfl), hJ16, trivial⟩, (show va_P D clz (WD9 cy g σ13) tS.heap by rw [ht]; exact hP)⟩, hS.F ht⟩) hS.2.2 dX9_put_29
  ·
    have k34 := peq32 c10
    refine lv_bipush (v := (-2)) hx hb dX9_put_14 (by decide) ?_
    exact W.iret (v := (-2)) hx hb hr (fun tS ht hW => ⟨⟨(-2), σ1, rfl, ⟨Fr.tr (Fr.rf) (sI_f eσ1) (fN_L rfl), hJ2, trivial⟩, (show va_P D clz (WD9 cy g σ1) tS.heap by rw [ht]; exact hP)⟩, hS.F ht⟩) hS.2.2 dX9_put_16

