theorem q1871 : Cond.code yX9_nextOf cX9_nextOf 5 (some .int) ∈ lw_g := lw_gm (List.mem_of_getElem? (i := 1871) (by decide +kernel)) rfl
theorem q1398 : Cond.fieldLink RX9 83 "LipsAndSlidesModel" "chosen" "[I" ∈ lw_g := lw_gm (List.mem_of_getElem? (i := 1398) (by decide +kernel)) rfl
theorem dX9_nextOf_0 : decode cX9_nextOf 0 = .ok (.aload_n 0, 1) := by decide +kernel
theorem dX9_nextOf_1 : decode cX9_nextOf 1 = .ok (.getfield 83, 3) := by decide +kernel
theorem dX9_nextOf_4 : decode cX9_nextOf 4 = .ok (.iload_n 1, 1) := by decide +kernel
theorem dX9_nextOf_5 : decode cX9_nextOf 5 = .ok (.iaload, 1) := by decide +kernel
theorem dX9_nextOf_6 : decode cX9_nextOf 6 = .ok (.istore_n 2, 1) := by decide +kernel
theorem dX9_nextOf_7 : decode cX9_nextOf 7 = .ok (.iconst 0, 1) := by decide +kernel
theorem dX9_nextOf_8 : decode cX9_nextOf 8 = .ok (.istore_n 3, 1) := by decide +kernel
theorem dX9_nextOf_9 : decode cX9_nextOf 9 = .ok (.bipush 88, 2) := by decide +kernel
theorem dX9_nextOf_11 : decode cX9_nextOf 11 = .ok (.iload_n 1, 1) := by decide +kernel
theorem dX9_nextOf_12 : decode cX9_nextOf 12 = .ok (.iconst 1, 1) := by decide +kernel
theorem dX9_nextOf_13 : decode cX9_nextOf 13 = .ok (.iadd, 1) := by decide +kernel
theorem dX9_nextOf_14 : decode cX9_nextOf 14 = .ok (.imul, 1) := by decide +kernel
theorem dX9_nextOf_15 : decode cX9_nextOf 15 = .ok (.iload_n 3, 1) := by decide +kernel
theorem dX9_nextOf_16 : decode cX9_nextOf 16 = .ok (.iadd, 1) := by decide +kernel
theorem dX9_nextOf_17 : decode cX9_nextOf 17 = .ok (.istore 4, 2) := by decide +kernel
theorem dX9_nextOf_19 : decode cX9_nextOf 19 = .ok (.aload_n 0, 1) := by decide +kernel
theorem dX9_nextOf_20 : decode cX9_nextOf 20 = .ok (.getfield 74, 3) := by decide +kernel
theorem dX9_nextOf_23 : decode cX9_nextOf 23 = .ok (.iload 4, 2) := by decide +kernel
theorem dX9_nextOf_25 : decode cX9_nextOf 25 = .ok (.iaload, 1) := by decide +kernel
theorem dX9_nextOf_26 : decode cX9_nextOf 26 = .ok (.ldc 180, 2) := by decide +kernel
theorem dX9_nextOf_28 : decode cX9_nextOf 28 = .ok (.if_icmp .eq 77, 3) := by decide +kernel
theorem dX9_nextOf_31 : decode cX9_nextOf 31 = .ok (.aload_n 0, 1) := by decide +kernel
theorem dX9_nextOf_32 : decode cX9_nextOf 32 = .ok (.iload_n 1, 1) := by decide +kernel
theorem dX9_nextOf_33 : decode cX9_nextOf 33 = .ok (.iload_n 2, 1) := by decide +kernel
theorem dX9_nextOf_34 : decode cX9_nextOf 34 = .ok (.iload_n 3, 1) := by decide +kernel
theorem dX9_nextOf_35 : decode cX9_nextOf 35 = .ok (.invokevirtual 403, 3) := by decide +kernel
theorem dX9_nextOf_38 : decode cX9_nextOf 38 = .ok (.ifCond .eq 67, 3) := by decide +kernel
theorem dX9_nextOf_41 : decode cX9_nextOf 41 = .ok (.aload_n 0, 1) := by decide +kernel
theorem dX9_nextOf_42 : decode cX9_nextOf 42 = .ok (.getfield 74, 3) := by decide +kernel
theorem dX9_nextOf_45 : decode cX9_nextOf 45 = .ok (.iload 4, 2) := by decide +kernel
theorem dX9_nextOf_47 : decode cX9_nextOf 47 = .ok (.iaload, 1) := by decide +kernel
theorem dX9_nextOf_48 : decode cX9_nextOf 48 = .ok (.aload_n 0, 1) := by decide +kernel
theorem dX9_nextOf_49 : decode cX9_nextOf 49 = .ok (.iload_n 1, 1) := by decide +kernel
theorem dX9_nextOf_50 : decode cX9_nextOf 50 = .ok (.iload_n 2, 1) := by decide +kernel
theorem dX9_nextOf_51 : decode cX9_nextOf 51 = .ok (.iload_n 3, 1) := by decide +kernel
theorem dX9_nextOf_52 : decode cX9_nextOf 52 = .ok (.invokevirtual 405, 3) := by decide +kernel
theorem dX9_nextOf_55 : decode cX9_nextOf 55 = .ok (.iadd, 1) := by decide +kernel
theorem dX9_nextOf_56 : decode cX9_nextOf 56 = .ok (.aload_n 0, 1) := by decide +kernel
theorem dX9_nextOf_57 : decode cX9_nextOf 57 = .ok (.getfield 74, 3) := by decide +kernel
theorem dX9_nextOf_60 : decode cX9_nextOf 60 = .ok (.bipush 88, 2) := by decide +kernel
theorem dX9_nextOf_62 : decode cX9_nextOf 62 = .ok (.iload_n 1, 1) := by decide +kernel
theorem dX9_nextOf_63 : decode cX9_nextOf 63 = .ok (.imul, 1) := by decide +kernel
theorem dX9_nextOf_64 : decode cX9_nextOf 64 = .ok (.iload_n 2, 1) := by decide +kernel
theorem dX9_nextOf_65 : decode cX9_nextOf 65 = .ok (.iadd, 1) := by decide +kernel
theorem dX9_nextOf_66 : decode cX9_nextOf 66 = .ok (.iaload, 1) := by decide +kernel
theorem dX9_nextOf_67 : decode cX9_nextOf 67 = .ok (.if_icmp .ne 38, 3) := by decide +kernel
theorem dX9_nextOf_70 : decode cX9_nextOf 70 = .ok (.aload_n 0, 1) := by decide +kernel
theorem dX9_nextOf_71 : decode cX9_nextOf 71 = .ok (.getfield 77, 3) := by decide +kernel
theorem dX9_nextOf_74 : decode cX9_nextOf 74 = .ok (.iload 4, 2) := by decide +kernel
theorem dX9_nextOf_76 : decode cX9_nextOf 76 = .ok (.iaload, 1) := by decide +kernel
theorem dX9_nextOf_77 : decode cX9_nextOf 77 = .ok (.aload_n 0, 1) := by decide +kernel
theorem dX9_nextOf_78 : decode cX9_nextOf 78 = .ok (.getfield 62, 3) := by decide +kernel
theorem dX9_nextOf_81 : decode cX9_nextOf 81 = .ok (.bipush 88, 2) := by decide +kernel
theorem dX9_nextOf_83 : decode cX9_nextOf 83 = .ok (.iload_n 1, 1) := by decide +kernel
theorem dX9_nextOf_84 : decode cX9_nextOf 84 = .ok (.imul, 1) := by decide +kernel
theorem dX9_nextOf_85 : decode cX9_nextOf 85 = .ok (.iload_n 2, 1) := by decide +kernel
theorem dX9_nextOf_86 : decode cX9_nextOf 86 = .ok (.iadd, 1) := by decide +kernel
theorem dX9_nextOf_87 : decode cX9_nextOf 87 = .ok (.iaload, 1) := by decide +kernel
theorem dX9_nextOf_88 : decode cX9_nextOf 88 = .ok (.iadd, 1) := by decide +kernel
theorem dX9_nextOf_89 : decode cX9_nextOf 89 = .ok (.aload_n 0, 1) := by decide +kernel
theorem dX9_nextOf_90 : decode cX9_nextOf 90 = .ok (.getfield 77, 3) := by decide +kernel
theorem dX9_nextOf_93 : decode cX9_nextOf 93 = .ok (.bipush 88, 2) := by decide +kernel
theorem dX9_nextOf_95 : decode cX9_nextOf 95 = .ok (.iload_n 1, 1) := by decide +kernel
theorem dX9_nextOf_96 : decode cX9_nextOf 96 = .ok (.imul, 1) := by decide +kernel
theorem dX9_nextOf_97 : decode cX9_nextOf 97 = .ok (.iload_n 2, 1) := by decide +kernel
theorem dX9_nextOf_98 : decode cX9_nextOf 98 = .ok (.iadd, 1) := by decide +kernel
theorem dX9_nextOf_99 : decode cX9_nextOf 99 = .ok (.iaload, 1) := by decide +kernel
theorem dX9_nextOf_100 : decode cX9_nextOf 100 = .ok (.if_icmp .ne 5, 3) := by decide +kernel
theorem dX9_nextOf_103 : decode cX9_nextOf 103 = .ok (.iload_n 3, 1) := by decide +kernel
theorem dX9_nextOf_104 : decode cX9_nextOf 104 = .ok (.ireturn, 1) := by decide +kernel
theorem dX9_nextOf_105 : decode cX9_nextOf 105 = .ok (.iinc 3 1, 3) := by decide +kernel
theorem dX9_nextOf_108 : decode cX9_nextOf 108 = .ok (.goto (-99), 3) := by decide +kernel
set_option maxHeartbeats 4000000 in
set_option maxRecDepth 100000 in
theorem m_X9_nextOf (l : Launch) (D : va_G) (cy : Nat → ClassId) (g : Nat → Nat) (σ : ST) (p1 : Int32) (sz : Nat) (hJ : J9 (σ 9)) (kGB : GB (σ 9)) (h0 : (0 : Int) ≤ p1.toInt ∧ p1.toInt ≤ 14) (h1 : p1.toInt + 1 < ((σ 9).1 31).toInt) (h2 : CH (σ 9) p1.toInt.toNat) : Met l yX9_nextOf (ww yX9_nextOf cX9_nextOf 5 (some .int)) ({ frames := 5, cells := 0, slots := 0, locals := 320 }) (va_Pc [.ref (g 60), .int p1] (pr9 D cy g σ sz)) (qi9 D cy g sz (fun r τ => τ = σ ∧ ((0 : Int) ≤ r.toInt ∧ r.toInt ≤ 87) ∧ (r.toInt < ((σ 9).2.2.1 24 (p1.toInt.toNat + 1)).toInt) ∧ (¬ ((σ 9)).2.2.1 35 (88 * (p1.toInt.toNat + 1) + r.toInt.toNat) = 1000000) ∧ True)) 0 0 (A9 cy g sz) := by
  refine Met.ofW (cc := cX9_nextOf) (maxL := 5) (ret := (some .int)) (by decide) rfl ?_
  intro p e s m args below meth c s₁ B hml hv
  obtain ⟨rfl, hsz, hP, hK, hD0, hC⟩ := hv
  have hx := B.exec
  have hb := B.bytes
  have hr := B.returns
  have hts := hts_g (atoms_spec (ws := ww yX9_nextOf cX9_nextOf 5 (some .int)) B.pre)
  have hown : s.vm.findClass RX9 = some m.cls := findClass_of_methodNamed B.named
  have hlocks := B.notSynchronized
  clear B
  subst hsz
  have hD := fun τ => A9_D (sz := s.heap.size) hD0 τ
  clear hD0
  have hS : va_S (A9 cy g s.heap.size) s.heap s.heap [] := va_S.rf
  have hl := lv_entry ([.ref (g 60), .int p1]) (n := 5) (Nat.le_of_ble_eq_true rfl)
  rw [lg_entry_eq]
  generalize (lg_sl ([.ref (g 60), .int p1]) ++ List.replicate (5 - (lg_sl ([.ref (g 60), .int p1])).length) Slot.unset).toArray = ls at hl ⊢
  have hl : lv_has ls 5 [(0, .ref (g 60)), (1, .int p1)] := hl
  refine lv_aload_n hx hb dX9_nextOf_0 rfl (lv_at hl 0 rfl) ?_
  refine g9_38 hx hb hts hown hK hP (hts _ q1398) dX9_nextOf_1 ?_
  refine lv_iload_n hx hb dX9_nextOf_4 rfl (lv_at hl 1 rfl) ?_
  obtain ⟨x1, ex1⟩ : ∃ z, (σ 9).2.2.1 38 p1.toInt.toNat = z := ⟨_, rfl⟩
  refine l9_38 (x := x1) hx hb hK hP (vpo (by have f0 := h0; have f1 := h1; have f2 := j9_31 hJ rfl; have g1 := rg32 p1; omega)) ex1 dX9_nextOf_5 ?_
  have t2 := a9_38 hJ ex1
  refine lv_istore_n (lv' := [(2, .int x1), (0, .ref (g 60)), (1, .int p1)]) hx hb dX9_nextOf_6 rfl hl (by decide) rfl (fun ls hl => ?_)
  have hCH : CH (σ 9) p1.toInt.toNat := h2
  unfold CH at hCH
  rw [ex1] at hCH
  obtain ⟨b0, hb0⟩ := kGB p1.toInt.toNat x1.toInt.toNat (by have f0 := j9_31 hJ rfl; have f1 := h0; have f2 := h1; have f3 := t2; have g1 := rg32 p1; omega) (by have q1 := hCH.1; have f0 := t2; have f1 := h0; have f2 := h1; have f3 := j9_31 hJ rfl; have g1 := rg32 x1; omega) hCH.2
  have t3 := a9_24 hJ (j := p1.toInt.toNat + 1) rfl
  have t4 := hb0.1
  refine lv_iconst (v := 0) hx hb dX9_nextOf_7 (by decide) ?_
  refine lv_istore_n (lv' := [(3, .int 0), (2, .int x1), (0, .ref (g 60)), (1, .int p1)]) hx hb dX9_nextOf_8 rfl hl (by decide) rfl (fun ls hl => ?_)
  refine loop9 5 9 (fun x : LZ => [(3, .int (x.2.1 0)), (2, .int x1), (0, .ref (g 60)), (1, .int p1)]) (fun x : LZ => (x.1 = σ) ∧ ((0 : Int) ≤ (x.2.1 0).toInt ∧ (x.2.1 0).toInt ≤ 88) ∧ ((x.2.1 0).toInt ≤ (b0 : Int)) ∧ (GB (σ 9)) ∧ True) (fun x : LZ => ((b0 : Int) + 1 - (x.2.1 0).toInt).toNat) ?_ (σ, lf [0], lg []) ⟨rfl, (show (0 : Int) ≤ (0 : Int32).toInt ∧ (0 : Int32).toInt ≤ 88 from (by have z0 : (0 : Int32).toInt = 0 := (by decide); omega)), (show (0 : Int32).toInt ≤ (b0 : Int) from (by have f0 := t3; have f1 := t4; have z0 : (0 : Int32).toInt = 0 := (by decide); omega)), (show GB (σ 9) from kGB), trivial⟩ _ _ _ hP hS (lv_sub hl [0, 1, 2, 3] rfl)
  intro y7 hI6 nl5 H locs ls hP hS hl
  rw [show y7.1 = σ from hI6.1] at hP
  have b8 : (0 : Int) ≤ (y7.2.1 0).toInt ∧ (y7.2.1 0).toInt ≤ 88 := hI6.2.1
  have b9 : (y7.2.1 0).toInt ≤ (b0 : Int) := hI6.2.2.1
  have b10 : GB (σ 9) := hI6.2.2.2.1
  have hl : lv_has ls 5 [(3, .int (y7.2.1 0)), (2, .int x1), (0, .ref (g 60)), (1, .int p1)] := hl
  refine lv_bipush (v := 88) hx hb dX9_nextOf_9 (by decide) ?_
  refine lv_iload_n hx hb dX9_nextOf_11 rfl (lv_at hl 3 rfl) ?_
  refine lv_iconst (v := 1) hx hb dX9_nextOf_12 (by decide) ?_
  refine lv_iadd hx hb dX9_nextOf_13 ?_
  refine lv_topi (fun x11 ex11 => ?_)
  have t12 := addO ex11 (by have f0 := h0; have f1 := h1; have f2 := t2; have f3 := j9_31 hJ rfl; have g1 := rg32 p1; have z1 : (1 : Int32).toInt = 1 := (by decide); omega)
  refine lv_imul hx hb dX9_nextOf_14 ?_
  refine lv_topi (fun x13 ex13 => ?_)
  have t14 := mulC' (n := 88) ex13 (by decide) (by have f0 := t12; have f1 := h0; have f2 := h1; have f3 := t2; have f4 := j9_31 hJ rfl; have g1 := rg32 x11; have z1 : (1 : Int32).toInt = 1 := (by decide); omega)
  refine lv_iload_n hx hb dX9_nextOf_15 rfl (lv_at hl 0 rfl) ?_
  refine lv_iadd hx hb dX9_nextOf_16 ?_
  refine lv_topi (fun x15 ex15 => ?_)
  have t16 := addO ex15 (by have f0 := b8; have f1 := b9; have f2 := t14; have f3 := t3; have f4 := t4; have f5 := t12; have f6 := h0; have f7 := h1; have f8 := t2; have f9 := j9_31 hJ rfl; have g1 := rg32 (y7.2.1 0); have g3 := rg32 x13; have z1 : (1 : Int32).toInt = 1 := (by decide); omega)
  refine lv_istore (lv' := [(4, .int x15), (3, .int (y7.2.1 0)), (2, .int x1), (0, .ref (g 60)), (1, .int p1)]) hx hb dX9_nextOf_17 hl (by decide) rfl (fun ls hl => ?_)
  refine lv_aload_n hx hb dX9_nextOf_19 rfl (lv_at hl 3 rfl) ?_
  refine g9_35 hx hb hts hown hK hP (hts _ q1395) dX9_nextOf_20 ?_
  refine lv_iload hx hb dX9_nextOf_23 (lv_at hl 0 rfl) ?_
  obtain ⟨x17, ex17⟩ : ∃ z, (σ 9).2.2.1 35 x15.toInt.toNat = z := ⟨_, rfl⟩
  refine l9_35 (x := x17) hx hb hK hP (vpo (by have f0 := t16; have f1 := b8; have f2 := b9; have f3 := t14; have f4 := t3; have f5 := t4; have f6 := t12; have f7 := h0; have f8 := h1; have f9 := t2; have f10 := j9_31 hJ rfl; have g2 := rg32 x15; have z1 : (1 : Int32).toInt = 1 := (by decide); omega)) ex17 dX9_nextOf_25 ?_
  refine lv_ldc (v := 1000000) hx hb hown (hts _ q1604) dX9_nextOf_26 ?_
  refine lv_icmp_eq (tgt := 105) hx hb dX9_nextOf_28 (by decide) (fun c18 => ?_) (fun c18 => ?_)
  ·
    have k19 := peq32 c18
    obtain ⟨x20, ex20⟩ : ∃ y : Int32, y = (y7.2.1 0) + 1 := ⟨_, rfl⟩
    have t21 := addO ex20 (by have f0 := b8; have f1 := b9; have f2 := t16; have f3 := t3; have f4 := t4; have f5 := t14; have f6 := t12; have f7 := h0; have f8 := h1; have f9 := t2; have f10 := j9_31 hJ rfl; have g1 := rg32 (y7.2.1 0); have z1 : (1 : Int32).toInt = 1 := (by decide); omega)
    refine lv_iinc (v := x20) (lv' := [(3, .int x20), (4, .int x15), (2, .int x1), (0, .ref (g 60)), (1, .int p1)]) hx hb dX9_nextOf_105 hl (k := 1) rfl (by rw [ex20]; rfl) (by decide) rfl (fun ls hl => ?_)
    refine lv_goto (tgt := 9) hx hb dX9_nextOf_108 (by decide) ?_
    have t22 : ((b0 : Int) + 1 - x20.toInt).toNat < ((b0 : Int) + 1 - (y7.2.1 0).toInt).toNat := (by have f0 := t3; have f1 := t4; have f2 := b8; have f3 := b9; have f4 := t16; have f5 := t21; have f6 := t14; have f7 := t12; have f8 := h0; have f9 := h1; have f10 := t2; have f11 := j9_31 hJ rfl; have g1 := rg32 (y7.2.1 0); have g3 := rg32 x20; have z1 : (1 : Int32).toInt = 1 := (by decide); omega)
    exact nl5 (σ, lf [x20], lg []) ⟨rfl, (show (0 : Int) ≤ (x20 : Int32).toInt ∧ (x20 : Int32).toInt ≤ 88 from (by have f0 := t21; have f1 := b8; have f2 := b9; have f3 := t16; have f4 := t3; have f5 := t4; have f6 := t14; have f7 := t12; have f8 := h0; have f9 := h1; have f10 := t2; have f11 := j9_31 hJ rfl; have g2 := rg32 x20; have z1 : (1 : Int32).toInt = 1 := (by decide); omega)), (show x20.toInt ≤ (b0 : Int) from (by have hn : ¬ (y7.2.1 0).toInt = (b0 : Int) := fun hq => hb0.2.1 (by rw [show 88 * (p1.toInt.toNat + 1) + b0 = x15.toInt.toNat from (by have q9 := hq; have f0 := h0; have f1 := h1; have f2 := t2; have f3 := t3; have f4 := t4; have f5 := b8; have f6 := b9; have f7 := t12; have f8 := t16; have f9 := t21; have f10 := j9_31 hJ rfl; have f11 := t14; have g1 := rg32 (y7.2.1 0); have g3 := rg32 p1; have g4 := rg32 x15; have z1 : (1 : Int32).toInt = 1 := (by decide); omega)]; exact ex17.trans c18); have f0 := t3; have f1 := t4; have f2 := b8; have f3 := b9; have f4 := t16; have f5 := t21; have f6 := t14; have f7 := t12; have f8 := h0; have f9 := h1; have f10 := t2; have f11 := j9_31 hJ rfl; have g1 := rg32 (y7.2.1 0); have g3 := rg32 x20; have z1 : (1 : Int32).toInt = 1 := (by decide); omega)), (show GB (σ 9) from b10), trivial⟩ (show ((b0 : Int) + 1 - x20.toInt).toNat < _ from t22) _ _ _ hP hS (lv_sub hl [0, 2, 3, 4] rfl)
  ·
    have k23 := neq32 c18
    refine lv_aload_n hx hb dX9_nextOf_31 rfl (lv_at hl 3 rfl) ?_
    refine lv_iload_n hx hb dX9_nextOf_32 rfl (lv_at hl 4 rfl) ?_
    refine lv_iload_n hx hb dX9_nextOf_33 rfl (lv_at hl 2 rfl) ?_
    refine lv_iload_n hx hb dX9_nextOf_34 rfl (lv_at hl 1 rfl) ?_
    refine va_calli (va_runV (As := [.int p1, .int x1, .int (y7.2.1 0)]) (rest := []) ⟨hx, hb, hml, hown, hts⟩ (m_X9_mayGo_ l D cy g σ p1 x1 (y7.2.1 0) _ hJ (show (0 : Int) ≤ p1.toInt ∧ p1.toInt ≤ 14 from (by have f0 := h0; have f1 := h1; have f2 := t2; have f3 := t12; have f4 := j9_31 hJ rfl; have f5 := t14; have f6 := t16; have f7 := b8; have f8 := b9; have f9 := t3; have f10 := t4; have g2 := rg32 p1; have z1 : (1 : Int32).toInt = 1 := (by decide); omega)) (show (0 : Int) ≤ x1.toInt ∧ x1.toInt ≤ 87 from (by have f0 := h0; have f1 := h1; have f2 := t2; have f3 := t12; have f4 := j9_31 hJ rfl; have f5 := t14; have f6 := t16; have f7 := b8; have f8 := b9; have f9 := t3; have f10 := t4; have g2 := rg32 p1; have g3 := rg32 x1; have z1 : (1 : Int32).toInt = 1 := (by decide); omega)) (show (0 : Int) ≤ (y7.2.1 0).toInt ∧ (y7.2.1 0).toInt ≤ 87 from (by have f0 := h0; have f1 := h1; have f2 := t2; have f3 := b8; have f4 := b9; have f5 := t12; have f6 := t16; have f7 := j9_31 hJ rfl; have f8 := t3; have f9 := t4; have f10 := t14; have g1 := rg32 (y7.2.1 0); have g3 := rg32 p1; have g4 := rg32 x1; have z1 : (1 : Int32).toInt = 1 := (by decide); omega))) (cwV 3 hts (gd_V q1854 q1856 q95 q134 q1857) rfl rfl rfl (by decide +kernel) ⟨Nat.le_of_ble_eq_true rfl, Nat.le_of_ble_eq_true rfl⟩) (pv9 hP hK hD hC hS (va_recv hK hP (ci := 9) (q0 := 0) rfl rfl)) rfl rfl hl.1 rfl (lv_room (Nat.le_of_ble_eq_true rfl)) dX9_nextOf_35 ⟨Nat.le_of_ble_eq_true rfl, Nat.le_of_ble_eq_true rfl⟩) hS (fun q _ h => up9 hS q h) (up9 hS) (fun r24 σ25 tS H1 locs ht hvm hw26 hB hz1 hk1 hS => ?_)
    have hP : va_P D clz (WD9 cy g σ25) H1 := by rw [← ht]; exact hB
    clear hB hz1 hk1 hvm ht
    generalize H1 = H at hP hS ⊢
    have hw26E : σ = σ25 := (hw26.1).symm
    subst hw26E
    have b27 : (0 : Int) ≤ r24.toInt ∧ r24.toInt ≤ 1 := hw26.2.1
    have b28 : r24 = goW (σ 9) p1.toInt.toNat x1.toInt.toNat (y7.2.1 0).toInt.toNat := hw26.2.2.1
    refine lv_if_eq (tgt := 105) hx hb dX9_nextOf_38 (by decide) (fun c29 => ?_) (fun c29 => ?_)
    ·
      have k30 := peq32 c29
      obtain ⟨x31, ex31⟩ : ∃ y : Int32, y = (y7.2.1 0) + 1 := ⟨_, rfl⟩
      have t32 := addO ex31 (by have f0 := b8; have f1 := b9; have f2 := t16; have f3 := t3; have f4 := t4; have f5 := t14; have f6 := t12; have f7 := h0; have f8 := h1; have f9 := t2; have f10 := j9_31 hJ rfl; have g1 := rg32 (y7.2.1 0); have z1 : (1 : Int32).toInt = 1 := (by decide); omega)
      refine lv_iinc (v := x31) (lv' := [(3, .int x31), (4, .int x15), (2, .int x1), (0, .ref (g 60)), (1, .int p1)]) hx hb dX9_nextOf_105 hl (k := 1) rfl (by rw [ex31]; rfl) (by decide) rfl (fun ls hl => ?_)
      refine lv_goto (tgt := 9) hx hb dX9_nextOf_108 (by decide) ?_
      have t33 : ((b0 : Int) + 1 - x31.toInt).toNat < ((b0 : Int) + 1 - (y7.2.1 0).toInt).toNat := (by have f0 := t3; have f1 := t4; have f2 := b8; have f3 := b9; have f4 := t16; have f5 := t32; have f6 := t14; have f7 := t12; have f8 := h0; have f9 := h1; have f10 := t2; have f11 := j9_31 hJ rfl; have g1 := rg32 (y7.2.1 0); have g3 := rg32 x31; have z1 : (1 : Int32).toInt = 1 := (by decide); omega)
      exact nl5 (σ, lf [x31], lg []) ⟨rfl, (show (0 : Int) ≤ (x31 : Int32).toInt ∧ (x31 : Int32).toInt ≤ 88 from (by have f0 := t32; have f1 := b8; have f2 := b9; have f3 := t16; have f4 := t3; have f5 := t4; have f6 := t14; have f7 := t12; have f8 := h0; have f9 := h1; have f10 := t2; have f11 := j9_31 hJ rfl; have g2 := rg32 x31; have z1 : (1 : Int32).toInt = 1 := (by decide); omega)), (show x31.toInt ≤ (b0 : Int) from (by have hn : ¬ (y7.2.1 0).toInt = (b0 : Int) := fun hq => hb0.2.2.1 (by rw [(show b0 = (y7.2.1 0).toInt.toNat from (by have q9 := hq; have f0 := h0; have f1 := h1; have f2 := t2; have f3 := t3; have f4 := t4; have f5 := b8; have f6 := b9; have f7 := t12; have f8 := t16; have f9 := t32; have f10 := j9_31 hJ rfl; have f11 := t14; have g1 := rg32 (y7.2.1 0); have g3 := rg32 p1; have g4 := rg32 x15; have z1 : (1 : Int32).toInt = 1 := (by decide); omega))]; exact b28.symm.trans c29); have f0 := t3; have f1 := t4; have f2 := b8; have f3 := b9; have f4 := t16; have f5 := t32; have f6 := t14; have f7 := t12; have f8 := h0; have f9 := h1; have f10 := t2; have f11 := j9_31 hJ rfl; have g1 := rg32 (y7.2.1 0); have g3 := rg32 x31; have z1 : (1 : Int32).toInt = 1 := (by decide); omega)), (show GB (σ 9) from b10), trivial⟩ (show ((b0 : Int) + 1 - x31.toInt).toNat < _ from t33) _ _ _ hP hS (lv_sub hl [0, 2, 3, 4] rfl)
    ·
      have k34 := neq32 c29
      refine lv_aload_n hx hb dX9_nextOf_41 rfl (lv_at hl 3 rfl) ?_
      refine g9_35 hx hb hts hown hK hP (hts _ q1395) dX9_nextOf_42 ?_
      refine lv_iload hx hb dX9_nextOf_45 (lv_at hl 0 rfl) ?_
      refine l9_35 (x := x17) hx hb hK hP (vpo (by have f0 := t16; have f1 := b8; have f2 := b9; have f3 := t14; have f4 := t3; have f5 := t4; have f6 := t12; have f7 := h0; have f8 := h1; have f9 := t2; have f10 := j9_31 hJ rfl; have g2 := rg32 x15; have z1 : (1 : Int32).toInt = 1 := (by decide); omega)) ex17 dX9_nextOf_47 ?_
      refine lv_aload_n hx hb dX9_nextOf_48 rfl (lv_at hl 3 rfl) ?_
      refine lv_iload_n hx hb dX9_nextOf_49 rfl (lv_at hl 4 rfl) ?_
      refine lv_iload_n hx hb dX9_nextOf_50 rfl (lv_at hl 2 rfl) ?_
      refine lv_iload_n hx hb dX9_nextOf_51 rfl (lv_at hl 1 rfl) ?_
      refine va_calli (va_runV (As := [.int p1, .int x1, .int (y7.2.1 0)]) (rest := [.int x17]) ⟨hx, hb, hml, hown, hts⟩ (m_X9_moveBy l D cy g σ p1 x1 (y7.2.1 0) _ hJ (show (0 : Int) ≤ p1.toInt ∧ p1.toInt ≤ 14 from (by have f0 := h0; have f1 := h1; have f2 := t2; have f3 := t12; have f4 := j9_31 hJ rfl; have f5 := t14; have f6 := t16; have f7 := b8; have f8 := b9; have f9 := t3; have f10 := t4; have g2 := rg32 p1; have z1 : (1 : Int32).toInt = 1 := (by decide); omega)) (show (0 : Int) ≤ x1.toInt ∧ x1.toInt ≤ 87 from (by have f0 := h0; have f1 := h1; have f2 := t2; have f3 := t12; have f4 := j9_31 hJ rfl; have f5 := t14; have f6 := t16; have f7 := b8; have f8 := b9; have f9 := t3; have f10 := t4; have g2 := rg32 p1; have g3 := rg32 x1; have z1 : (1 : Int32).toInt = 1 := (by decide); omega)) (show (0 : Int) ≤ (y7.2.1 0).toInt ∧ (y7.2.1 0).toInt ≤ 87 from (by have f0 := h0; have f1 := h1; have f2 := t2; have f3 := b8; have f4 := b9; have f5 := t12; have f6 := t16; have f7 := j9_31 hJ rfl; have f8 := t3; have f9 := t4; have f10 := t14; have g1 := rg32 (y7.2.1 0); have g3 := rg32 p1; have g4 := rg32 x1; have z1 : (1 : Int32).toInt = 1 := (by decide); omega))) (cwV 3 hts (gd_V q1862 q1864 q97 q134 q1865) rfl rfl rfl (by decide +kernel) ⟨Nat.le_of_ble_eq_true rfl, Nat.le_of_ble_eq_true rfl⟩) (pv9 hP hK hD hC hS (va_recv hK hP (ci := 9) (q0 := 0) rfl rfl)) rfl rfl hl.1 rfl (lv_room (Nat.le_of_ble_eq_true rfl)) dX9_nextOf_52 ⟨Nat.le_of_ble_eq_true rfl, Nat.le_of_ble_eq_true rfl⟩) hS (fun q _ h => up9 hS q h) (up9 hS) (fun r35 σ36 tS H1 locs ht hvm hw37 hB hz1 hk1 hS => ?_)
      have hP : va_P D clz (WD9 cy g σ36) H1 := by rw [← ht]; exact hB
      clear hB hz1 hk1 hvm ht
      generalize H1 = H at hP hS ⊢
      have hw37E : σ = σ36 := (hw37.1).symm
      subst hw37E
      have b38 : r35 = mvW (σ 9) p1.toInt.toNat x1.toInt.toNat (y7.2.1 0).toInt.toNat := hw37.2.1
      refine lv_iadd hx hb dX9_nextOf_55 ?_
      refine lv_topi (fun x39 ex39 => ?_)
      refine lv_aload_n hx hb dX9_nextOf_56 rfl (lv_at hl 3 rfl) ?_
      refine g9_35 hx hb hts hown hK hP (hts _ q1395) dX9_nextOf_57 ?_
      refine lv_bipush (v := 88) hx hb dX9_nextOf_60 (by decide) ?_
      refine lv_iload_n hx hb dX9_nextOf_62 rfl (lv_at hl 4 rfl) ?_
      refine lv_imul hx hb dX9_nextOf_63 ?_
      refine lv_topi (fun x40 ex40 => ?_)
      have t41 := mulC' (n := 88) ex40 (by decide) (by have f0 := h0; have f1 := h1; have f2 := t2; have f3 := t12; have f4 := j9_31 hJ rfl; have f5 := t14; have f6 := t16; have f7 := b8; have f8 := b9; have f9 := t3; have f10 := t4; have g2 := rg32 p1; have z1 : (1 : Int32).toInt = 1 := (by decide); omega)
      refine lv_iload_n hx hb dX9_nextOf_64 rfl (lv_at hl 2 rfl) ?_
      refine lv_iadd hx hb dX9_nextOf_65 ?_
      refine lv_topi (fun x42 ex42 => ?_)
      have t43 := addO ex42 (by have f0 := t2; have f1 := t41; have f2 := h0; have f3 := h1; have f4 := t12; have f5 := j9_31 hJ rfl; have f6 := t14; have f7 := t16; have f8 := b8; have f9 := b9; have f10 := t3; have f11 := t4; have g2 := rg32 x1; have g3 := rg32 x40; have z1 : (1 : Int32).toInt = 1 := (by decide); omega)
      obtain ⟨x44, ex44⟩ : ∃ z, (σ 9).2.2.1 35 x42.toInt.toNat = z := ⟨_, rfl⟩
      refine l9_35 (x := x44) hx hb hK hP (vpo (by have f0 := t43; have f1 := t2; have f2 := t41; have f3 := h0; have f4 := h1; have f5 := t12; have f6 := j9_31 hJ rfl; have f7 := t14; have f8 := t16; have f9 := b8; have f10 := b9; have f11 := t3; have f12 := t4; have g2 := rg32 x42; have z1 : (1 : Int32).toInt = 1 := (by decide); omega)) ex44 dX9_nextOf_66 ?_
      refine lv_icmp_ne (tgt := 105) hx hb dX9_nextOf_67 (by decide) (fun c45 => ?_) (fun c45 => ?_)
      ·
        have k46 := neq32 c45
        obtain ⟨x47, ex47⟩ : ∃ y : Int32, y = (y7.2.1 0) + 1 := ⟨_, rfl⟩
        have t48 := addO ex47 (by have f0 := b8; have f1 := b9; have f2 := t16; have f3 := t3; have f4 := t4; have f5 := t14; have f6 := t12; have f7 := h0; have f8 := h1; have f9 := t2; have f10 := t41; have f11 := j9_31 hJ rfl; have f12 := t43; have g1 := rg32 (y7.2.1 0); have z1 : (1 : Int32).toInt = 1 := (by decide); omega)
        refine lv_iinc (v := x47) (lv' := [(3, .int x47), (4, .int x15), (2, .int x1), (0, .ref (g 60)), (1, .int p1)]) hx hb dX9_nextOf_105 hl (k := 1) rfl (by rw [ex47]; rfl) (by decide) rfl (fun ls hl => ?_)
        refine lv_goto (tgt := 9) hx hb dX9_nextOf_108 (by decide) ?_
        have t49 : ((b0 : Int) + 1 - x47.toInt).toNat < ((b0 : Int) + 1 - (y7.2.1 0).toInt).toNat := (by have f0 := t3; have f1 := t4; have f2 := b8; have f3 := b9; have f4 := t16; have f5 := t48; have f6 := t14; have f7 := t12; have f8 := h0; have f9 := h1; have f10 := t2; have f11 := t41; have f12 := j9_31 hJ rfl; have f13 := t43; have g1 := rg32 (y7.2.1 0); have g3 := rg32 x47; have z1 : (1 : Int32).toInt = 1 := (by decide); omega)
        exact nl5 (σ, lf [x47], lg []) ⟨rfl, (show (0 : Int) ≤ (x47 : Int32).toInt ∧ (x47 : Int32).toInt ≤ 88 from (by have f0 := t48; have f1 := b8; have f2 := b9; have f3 := t16; have f4 := t3; have f5 := t4; have f6 := t14; have f7 := t12; have f8 := h0; have f9 := h1; have f10 := t2; have f11 := t41; have f12 := j9_31 hJ rfl; have f13 := t43; have g2 := rg32 x47; have z1 : (1 : Int32).toInt = 1 := (by decide); omega)), (show x47.toInt ≤ (b0 : Int) from (by have hn : ¬ (y7.2.1 0).toInt = (b0 : Int) := fun hq => c45 (by rw [ex39, b38]; have q := hb0.2.2.2.1; rw [show 88 * (p1.toInt.toNat + 1) + b0 = x15.toInt.toNat from (by have q9 := hq; have f0 := h0; have f1 := h1; have f2 := t2; have f3 := t3; have f4 := t4; have f5 := b8; have f6 := b9; have f7 := t12; have f8 := t16; have f9 := t41; have f10 := t48; have f11 := j9_31 hJ rfl; have f12 := t14; have f13 := t43; have g1 := rg32 (y7.2.1 0); have g3 := rg32 p1; have g4 := rg32 x15; have z1 : (1 : Int32).toInt = 1 := (by decide); omega), show 88 * p1.toInt.toNat + x1.toInt.toNat = x42.toInt.toNat from (by have f0 := h0; have f1 := h1; have f2 := t2; have f3 := t12; have f4 := t41; have f5 := t43; have f6 := j9_31 hJ rfl; have f7 := t14; have f8 := t16; have f9 := b8; have f10 := b9; have f11 := t48; have f12 := t3; have f13 := t4; have g2 := rg32 p1; have g3 := rg32 x1; have g4 := rg32 x42; have z1 : (1 : Int32).toInt = 1 := (by decide); omega), ex17, ex44, (show b0 = (y7.2.1 0).toInt.toNat from (by have q9 := hq; have f0 := h0; have f1 := h1; have f2 := t2; have f3 := t3; have f4 := t4; have f5 := b8; have f6 := b9; have f7 := t12; have f8 := t16; have f9 := t41; have f10 := t48; have f11 := j9_31 hJ rfl; have f12 := t14; have f13 := t43; have g1 := rg32 (y7.2.1 0); have g3 := rg32 p1; have g4 := rg32 x15; have z1 : (1 : Int32).toInt = 1 := (by decide); omega))] at q; exact q); have f0 := t3; have f1 := t4; have f2 := b8; have f3 := b9; have f4 := t16; have f5 := t48; have f6 := t14; have f7 := t12; have f8 := h0; have f9 := h1; have f10 := t2; have f11 := t41; have f12 := j9_31 hJ rfl; have f13 := t43; have g1 := rg32 (y7.2.1 0); have g3 := rg32 x47; have z1 : (1 : Int32).toInt = 1 := (by decide); omega)), (show GB (σ 9) from b10), trivial⟩ (show ((b0 : Int) + 1 - x47.toInt).toNat < _ from t49) _ _ _ hP hS (lv_sub hl [0, 2, 3, 4] rfl)
      ·
        have k50 := peq32 c45
        refine lv_aload_n hx hb dX9_nextOf_70 rfl (lv_at hl 3 rfl) ?_
        refine g9_36 hx hb hts hown hK hP (hts _ q1396) dX9_nextOf_71 ?_
        refine lv_iload hx hb dX9_nextOf_74 (lv_at hl 0 rfl) ?_
        obtain ⟨x51, ex51⟩ : ∃ z, (σ 9).2.2.1 36 x15.toInt.toNat = z := ⟨_, rfl⟩
        refine l9_36 (x := x51) hx hb hK hP (vpo (by have f0 := t16; have f1 := b8; have f2 := b9; have f3 := t14; have f4 := t3; have f5 := t4; have f6 := t12; have f7 := h0; have f8 := h1; have f9 := t2; have f10 := t41; have f11 := j9_31 hJ rfl; have f12 := t43; have g2 := rg32 x15; have z1 : (1 : Int32).toInt = 1 := (by decide); omega)) ex51 dX9_nextOf_76 ?_
        refine lv_aload_n hx hb dX9_nextOf_77 rfl (lv_at hl 3 rfl) ?_
        refine g9_27 hx hb hts hown hK hP (hts _ q1387) dX9_nextOf_78 ?_
        refine lv_bipush (v := 88) hx hb dX9_nextOf_81 (by decide) ?_
        refine lv_iload_n hx hb dX9_nextOf_83 rfl (lv_at hl 4 rfl) ?_
        refine lv_imul hx hb dX9_nextOf_84 ?_
        refine lv_topi (fun x52 ex52 => ?_)
        have t53 := mulC' (n := 88) ex52 (by decide) (by have f0 := h0; have f1 := h1; have f2 := t2; have f3 := t12; have f4 := t41; have f5 := j9_31 hJ rfl; have f6 := t14; have f7 := t43; have f8 := t16; have f9 := b8; have f10 := b9; have f11 := t3; have f12 := t4; have g2 := rg32 p1; have z1 : (1 : Int32).toInt = 1 := (by decide); omega)
        refine lv_iload_n hx hb dX9_nextOf_85 rfl (lv_at hl 2 rfl) ?_
        refine lv_iadd hx hb dX9_nextOf_86 ?_
        refine lv_topi (fun x54 ex54 => ?_)
        have t55 := addO ex54 (by have f0 := t2; have f1 := t43; have f2 := t53; have f3 := h0; have f4 := h1; have f5 := t12; have f6 := t41; have f7 := j9_31 hJ rfl; have f8 := t14; have f9 := t16; have f10 := b8; have f11 := b9; have f12 := t3; have f13 := t4; have g2 := rg32 x1; have g3 := rg32 x52; have z1 : (1 : Int32).toInt = 1 := (by decide); omega)
        obtain ⟨x56, ex56⟩ : ∃ z, (σ 9).2.2.1 27 x54.toInt.toNat = z := ⟨_, rfl⟩
        refine l9_27 (x := x56) hx hb hK hP (vpo (by have f0 := t55; have f1 := t2; have f2 := t43; have f3 := t53; have f4 := h0; have f5 := h1; have f6 := t12; have f7 := t41; have f8 := j9_31 hJ rfl; have f9 := t14; have f10 := t16; have f11 := b8; have f12 := b9; have f13 := t3; have f14 := t4; have g2 := rg32 x54; have z1 : (1 : Int32).toInt = 1 := (by decide); omega)) ex56 dX9_nextOf_87 ?_
        refine lv_iadd hx hb dX9_nextOf_88 ?_
        refine lv_topi (fun x57 ex57 => ?_)
        refine lv_aload_n hx hb dX9_nextOf_89 rfl (lv_at hl 3 rfl) ?_
        refine g9_36 hx hb hts hown hK hP (hts _ q1396) dX9_nextOf_90 ?_
        refine lv_bipush (v := 88) hx hb dX9_nextOf_93 (by decide) ?_
        refine lv_iload_n hx hb dX9_nextOf_95 rfl (lv_at hl 4 rfl) ?_
        refine lv_imul hx hb dX9_nextOf_96 ?_
        refine lv_topi (fun x58 ex58 => ?_)
        have t59 := mulC' (n := 88) ex58 (by decide) (by have f0 := h0; have f1 := h1; have f2 := t2; have f3 := t12; have f4 := t41; have f5 := t53; have f6 := j9_31 hJ rfl; have f7 := t14; have f8 := t43; have f9 := t55; have f10 := t16; have f11 := b8; have f12 := b9; have f13 := t3; have f14 := t4; have g2 := rg32 p1; have z1 : (1 : Int32).toInt = 1 := (by decide); omega)
        refine lv_iload_n hx hb dX9_nextOf_97 rfl (lv_at hl 2 rfl) ?_
        refine lv_iadd hx hb dX9_nextOf_98 ?_
        refine lv_topi (fun x60 ex60 => ?_)
        have t61 := addO ex60 (by have f0 := t2; have f1 := t43; have f2 := t55; have f3 := t59; have f4 := h0; have f5 := h1; have f6 := t12; have f7 := t41; have f8 := t53; have f9 := j9_31 hJ rfl; have f10 := t14; have f11 := t16; have f12 := b8; have f13 := b9; have f14 := t3; have f15 := t4; have g2 := rg32 x1; have g3 := rg32 x58; have z1 : (1 : Int32).toInt = 1 := (by decide); omega)
        obtain ⟨x62, ex62⟩ : ∃ z, (σ 9).2.2.1 36 x60.toInt.toNat = z := ⟨_, rfl⟩
        refine l9_36 (x := x62) hx hb hK hP (vpo (by have f0 := t61; have f1 := t2; have f2 := t43; have f3 := t55; have f4 := t59; have f5 := h0; have f6 := h1; have f7 := t12; have f8 := t41; have f9 := t53; have f10 := j9_31 hJ rfl; have f11 := t14; have f12 := t16; have f13 := b8; have f14 := b9; have f15 := t3; have f16 := t4; have g2 := rg32 x60; have z1 : (1 : Int32).toInt = 1 := (by decide); omega)) ex62 dX9_nextOf_99 ?_
        refine lv_icmp_ne (tgt := 105) hx hb dX9_nextOf_100 (by decide) (fun c63 => ?_) (fun c63 => ?_)
        ·
          have k64 := neq32 c63
          obtain ⟨x65, ex65⟩ : ∃ y : Int32, y = (y7.2.1 0) + 1 := ⟨_, rfl⟩
          have t66 := addO ex65 (by have f0 := b8; have f1 := b9; have f2 := t16; have f3 := t3; have f4 := t4; have f5 := t14; have f6 := t12; have f7 := h0; have f8 := h1; have f9 := t2; have f10 := t41; have f11 := t53; have f12 := t59; have f13 := j9_31 hJ rfl; have f14 := t43; have f15 := t55; have f16 := t61; have g1 := rg32 (y7.2.1 0); have z1 : (1 : Int32).toInt = 1 := (by decide); omega)
          refine lv_iinc (v := x65) (lv' := [(3, .int x65), (4, .int x15), (2, .int x1), (0, .ref (g 60)), (1, .int p1)]) hx hb dX9_nextOf_105 hl (k := 1) rfl (by rw [ex65]; rfl) (by decide) rfl (fun ls hl => ?_)
          refine lv_goto (tgt := 9) hx hb dX9_nextOf_108 (by decide) ?_
          have t67 : ((b0 : Int) + 1 - x65.toInt).toNat < ((b0 : Int) + 1 - (y7.2.1 0).toInt).toNat := (by have f0 := t3; have f1 := t4; have f2 := b8; have f3 := b9; have f4 := t16; have f5 := t66; have f6 := t14; have f7 := t12; have f8 := h0; have f9 := h1; have f10 := t2; have f11 := t41; have f12 := t53; have f13 := t59; have f14 := j9_31 hJ rfl; have f15 := t43; have f16 := t55; have f17 := t61; have g1 := rg32 (y7.2.1 0); have g3 := rg32 x65; have z1 : (1 : Int32).toInt = 1 := (by decide); omega)
          exact nl5 (σ, lf [x65], lg []) ⟨rfl, (show (0 : Int) ≤ (x65 : Int32).toInt ∧ (x65 : Int32).toInt ≤ 88 from (by have f0 := t66; have f1 := b8; have f2 := b9; have f3 := t16; have f4 := t3; have f5 := t4; have f6 := t14; have f7 := t12; have f8 := h0; have f9 := h1; have f10 := t2; have f11 := t41; have f12 := t53; have f13 := t59; have f14 := j9_31 hJ rfl; have f15 := t43; have f16 := t55; have f17 := t61; have g2 := rg32 x65; have z1 : (1 : Int32).toInt = 1 := (by decide); omega)), (show x65.toInt ≤ (b0 : Int) from (by have hn : ¬ (y7.2.1 0).toInt = (b0 : Int) := fun hq => c63 (by rw [ex57]; have q := hb0.2.2.2.2; rw [show 88 * (p1.toInt.toNat + 1) + b0 = x15.toInt.toNat from (by have q9 := hq; have f0 := h0; have f1 := h1; have f2 := t2; have f3 := t3; have f4 := t4; have f5 := b8; have f6 := b9; have f7 := t12; have f8 := t16; have f9 := t41; have f10 := t53; have f11 := t59; have f12 := t66; have f13 := j9_31 hJ rfl; have f14 := t14; have f15 := t43; have f16 := t55; have f17 := t61; have g1 := rg32 (y7.2.1 0); have g3 := rg32 p1; have g4 := rg32 x15; have z1 : (1 : Int32).toInt = 1 := (by decide); omega), show 88 * p1.toInt.toNat + x1.toInt.toNat = x60.toInt.toNat from (by have f0 := h0; have f1 := h1; have f2 := t2; have f3 := t12; have f4 := t41; have f5 := t43; have f6 := t53; have f7 := t55; have f8 := t59; have f9 := t61; have f10 := j9_31 hJ rfl; have f11 := t14; have f12 := t16; have f13 := b8; have f14 := b9; have f15 := t66; have f16 := t3; have f17 := t4; have g2 := rg32 p1; have g3 := rg32 x1; have g4 := rg32 x60; have z1 : (1 : Int32).toInt = 1 := (by decide); omega), ex51, ex62, (show ((σ 9).2.2.1 27 x60.toInt.toNat) = x56 from by rw [show x60.toInt.toNat = x54.toInt.toNat from (by have f0 := t55; have f1 := t61; have f2 := t2; have f3 := t43; have f4 := t53; have f5 := t59; have f6 := h0; have f7 := h1; have f8 := t12; have f9 := t41; have f10 := j9_31 hJ rfl; have f11 := t14; have f12 := t16; have f13 := b8; have f14 := b9; have f15 := t66; have f16 := t3; have f17 := t4; have g2 := rg32 x54; have g3 := rg32 x60; have z1 : (1 : Int32).toInt = 1 := (by decide); omega)]; exact ex56)] at q; exact q); have f0 := t3; have f1 := t4; have f2 := b8; have f3 := b9; have f4 := t16; have f5 := t66; have f6 := t14; have f7 := t12; have f8 := h0; have f9 := h1; have f10 := t2; have f11 := t41; have f12 := t53; have f13 := t59; have f14 := j9_31 hJ rfl; have f15 := t43; have f16 := t55; have f17 := t61; have g1 := rg32 (y7.2.1 0); have g3 := rg32 x65; have z1 : (1 : Int32).toInt = 1 := (by decide); omega)), (show GB (σ 9) from b10), trivial⟩ (show ((b0 : Int) + 1 - x65.toInt).toNat < _ from t67) _ _ _ hP hS (lv_sub hl [0, 2, 3, 4] rfl)
        ·
          have k68 := peq32 c63
          refine lv_iload_n hx hb dX9_nextOf_103 rfl (lv_at hl 1 rfl) ?_
          exact W.iret (v := (y7.2.1 0)) hx hb hr (fun tS ht hW => ⟨⟨(y7.2.1 0), σ, rfl, ⟨rfl, (show (0 : Int) ≤ (y7.2.1 0).toInt ∧ (y7.2.1 0).toInt ≤ 87 from (by have f0 := b8; have f1 := b9; have f2 := t16; have f3 := t3; have f4 := t4; have f5 := t14; have f6 := t12; have f7 := h0; have f8 := h1; have f9 := t2; have f10 := t41; have f11 := t53; have f12 := t59; have f13 := j9_31 hJ rfl; have f14 := t43; have f15 := t55; have f16 := t61; have g1 := rg32 (y7.2.1 0); have z1 : (1 : Int32).toInt = 1 := (by decide); omega)), (show (y7.2.1 0).toInt < ((σ 9).2.2.1 24 (p1.toInt.toNat + 1)).toInt from (by have f0 := t3; have f1 := t4; have f2 := b8; have f3 := b9; have f4 := t16; have f5 := t14; have f6 := t12; have f7 := h0; have f8 := h1; have f9 := t2; have f10 := t41; have f11 := t53; have f12 := t59; have f13 := j9_31 hJ rfl; have f14 := t43; have f15 := t55; have f16 := t61; have g2 := rg32 (y7.2.1 0); have z1 : (1 : Int32).toInt = 1 := (by decide); omega)), (show ¬ ((σ 9)).2.2.1 35 (88 * (p1.toInt.toNat + 1) + (y7.2.1 0).toInt.toNat) = 1000000 from (fun q => c18 (by rw [← ex17]; rw [show x15.toInt.toNat = 88 * (p1.toInt.toNat + 1) + (y7.2.1 0).toInt.toNat from (by have f0 := h0; have f1 := h1; have f2 := t2; have f3 := b8; have f4 := b9; have f5 := t12; have f6 := t16; have f7 := t41; have f8 := t53; have f9 := t59; have f10 := j9_31 hJ rfl; have f11 := t3; have f12 := t4; have f13 := t14; have f14 := t43; have f15 := t55; have f16 := t61; have g1 := rg32 (y7.2.1 0); have g3 := rg32 p1; have g4 := rg32 x15; have z1 : (1 : Int32).toInt = 1 := (by decide); omega)]; exact q))), trivial⟩, (show va_P D clz (WD9 cy g σ) tS.heap by rw [ht]; exact hP)⟩, hS.F ht⟩) hS.2.2 dX9_nextOf_104

theorem q1849 : Cond.code yX9_isPlay cX9_isPlay 2 (some .boolean) ∈ lw_g := lw_gm (List.mem_of_getElem? (i := 1849) (by decide +kernel)) rfl
theorem q1850 : Cond.methodLink RX9 412 yX9_goesBack ∈ lw_g := lw_gm (List.mem_of_getElem? (i := 1850) (by decide +kernel)) rfl
theorem q1852 : Cond.instanceMethod yX9_goesBack ∈ lw_g := lw_gm (List.mem_of_getElem? (i := 1852) (by decide +kernel)) rfl
theorem q94 : Cond.selects RX9 yX9_goesBack yX9_goesBack ∈ lw_g := lw_gm (List.mem_of_getElem? (i := 94) (by decide +kernel)) rfl
theorem q1399 : Cond.fieldLink RX9 415 "LipsAndSlidesModel" "bestCost" "I" ∈ lw_g := lw_gm (List.mem_of_getElem? (i := 1399) (by decide +kernel)) rfl
theorem q1400 : Cond.fieldLink RX9 418 "LipsAndSlidesModel" "bestSour" "I" ∈ lw_g := lw_gm (List.mem_of_getElem? (i := 1400) (by decide +kernel)) rfl
theorem q1401 : Cond.fieldLink RX9 421 "LipsAndSlidesModel" "allPlays" "J" ∈ lw_g := lw_gm (List.mem_of_getElem? (i := 1401) (by decide +kernel)) rfl
theorem q1868 : Cond.methodLink RX9 424 yX9_nextOf ∈ lw_g := lw_gm (List.mem_of_getElem? (i := 1868) (by decide +kernel)) rfl
theorem q1870 : Cond.instanceMethod yX9_nextOf ∈ lw_g := lw_gm (List.mem_of_getElem? (i := 1870) (by decide +kernel)) rfl
theorem q98 : Cond.selects RX9 yX9_nextOf yX9_nextOf ∈ lw_g := lw_gm (List.mem_of_getElem? (i := 98) (by decide +kernel)) rfl
theorem dX9_isPlay_0 : decode cX9_isPlay 0 = .ok (.aload_n 0, 1) := by decide +kernel
theorem dX9_isPlay_1 : decode cX9_isPlay 1 = .ok (.invokevirtual 412, 3) := by decide +kernel
theorem dX9_isPlay_4 : decode cX9_isPlay 4 = .ok (.aload_n 0, 1) := by decide +kernel
theorem dX9_isPlay_5 : decode cX9_isPlay 5 = .ok (.aload_n 0, 1) := by decide +kernel
theorem dX9_isPlay_6 : decode cX9_isPlay 6 = .ok (.getfield 387, 3) := by decide +kernel
theorem dX9_isPlay_9 : decode cX9_isPlay 9 = .ok (.ifCond .ne 7, 3) := by decide +kernel
theorem dX9_isPlay_12 : decode cX9_isPlay 12 = .ok (.iconst 0, 1) := by decide +kernel
theorem dX9_isPlay_13 : decode cX9_isPlay 13 = .ok (.goto 5, 3) := by decide +kernel
theorem dX9_isPlay_16 : decode cX9_isPlay 16 = .ok (.ldc 180, 2) := by decide +kernel
theorem dX9_isPlay_18 : decode cX9_isPlay 18 = .ok (.putfield 415, 3) := by decide +kernel
theorem dX9_isPlay_21 : decode cX9_isPlay 21 = .ok (.aload_n 0, 1) := by decide +kernel
theorem dX9_isPlay_22 : decode cX9_isPlay 22 = .ok (.iconst 0, 1) := by decide +kernel
theorem dX9_isPlay_23 : decode cX9_isPlay 23 = .ok (.putfield 418, 3) := by decide +kernel
theorem dX9_isPlay_26 : decode cX9_isPlay 26 = .ok (.aload_n 0, 1) := by decide +kernel
theorem dX9_isPlay_27 : decode cX9_isPlay 27 = .ok (.aload_n 0, 1) := by decide +kernel
theorem dX9_isPlay_28 : decode cX9_isPlay 28 = .ok (.getfield 387, 3) := by decide +kernel
theorem dX9_isPlay_31 : decode cX9_isPlay 31 = .ok (.ifCond .ne 7, 3) := by decide +kernel
theorem dX9_isPlay_34 : decode cX9_isPlay 34 = .ok (.lconst 1, 1) := by decide +kernel
theorem dX9_isPlay_35 : decode cX9_isPlay 35 = .ok (.goto 4, 3) := by decide +kernel
theorem dX9_isPlay_38 : decode cX9_isPlay 38 = .ok (.lconst 0, 1) := by decide +kernel
theorem dX9_isPlay_39 : decode cX9_isPlay 39 = .ok (.putfield 421, 3) := by decide +kernel
theorem dX9_isPlay_42 : decode cX9_isPlay 42 = .ok (.iconst 0, 1) := by decide +kernel
theorem dX9_isPlay_43 : decode cX9_isPlay 43 = .ok (.istore_n 1, 1) := by decide +kernel
theorem dX9_isPlay_44 : decode cX9_isPlay 44 = .ok (.aload_n 0, 1) := by decide +kernel
theorem dX9_isPlay_45 : decode cX9_isPlay 45 = .ok (.getfield 387, 3) := by decide +kernel
theorem dX9_isPlay_48 : decode cX9_isPlay 48 = .ok (.ifCond .le 138, 3) := by decide +kernel
theorem dX9_isPlay_51 : decode cX9_isPlay 51 = .ok (.iload_n 1, 1) := by decide +kernel
theorem dX9_isPlay_52 : decode cX9_isPlay 52 = .ok (.aload_n 0, 1) := by decide +kernel
theorem dX9_isPlay_53 : decode cX9_isPlay 53 = .ok (.getfield 53, 3) := by decide +kernel
theorem dX9_isPlay_56 : decode cX9_isPlay 56 = .ok (.iconst 0, 1) := by decide +kernel
theorem dX9_isPlay_57 : decode cX9_isPlay 57 = .ok (.iaload, 1) := by decide +kernel
theorem dX9_isPlay_58 : decode cX9_isPlay 58 = .ok (.if_icmp .ge 128, 3) := by decide +kernel
theorem dX9_isPlay_61 : decode cX9_isPlay 61 = .ok (.aload_n 0, 1) := by decide +kernel
theorem dX9_isPlay_62 : decode cX9_isPlay 62 = .ok (.aload_n 0, 1) := by decide +kernel
theorem dX9_isPlay_63 : decode cX9_isPlay 63 = .ok (.getfield 421, 3) := by decide +kernel
theorem dX9_isPlay_66 : decode cX9_isPlay 66 = .ok (.aload_n 0, 1) := by decide +kernel
theorem dX9_isPlay_67 : decode cX9_isPlay 67 = .ok (.getfield 80, 3) := by decide +kernel
theorem dX9_isPlay_70 : decode cX9_isPlay 70 = .ok (.iload_n 1, 1) := by decide +kernel
theorem dX9_isPlay_71 : decode cX9_isPlay 71 = .ok (.laload, 1) := by decide +kernel
theorem dX9_isPlay_72 : decode cX9_isPlay 72 = .ok (.ladd, 1) := by decide +kernel
theorem dX9_isPlay_73 : decode cX9_isPlay 73 = .ok (.ldc2_w 408, 3) := by decide +kernel
theorem dX9_isPlay_76 : decode cX9_isPlay 76 = .ok (.lcmp, 1) := by decide +kernel
theorem dX9_isPlay_77 : decode cX9_isPlay 77 = .ok (.ifCond .le 9, 3) := by decide +kernel
theorem dX9_isPlay_80 : decode cX9_isPlay 80 = .ok (.ldc2_w 410, 3) := by decide +kernel
theorem dX9_isPlay_83 : decode cX9_isPlay 83 = .ok (.goto 14, 3) := by decide +kernel
theorem dX9_isPlay_86 : decode cX9_isPlay 86 = .ok (.aload_n 0, 1) := by decide +kernel
theorem dX9_isPlay_87 : decode cX9_isPlay 87 = .ok (.getfield 421, 3) := by decide +kernel
theorem dX9_isPlay_90 : decode cX9_isPlay 90 = .ok (.aload_n 0, 1) := by decide +kernel
theorem dX9_isPlay_91 : decode cX9_isPlay 91 = .ok (.getfield 80, 3) := by decide +kernel
theorem dX9_isPlay_94 : decode cX9_isPlay 94 = .ok (.iload_n 1, 1) := by decide +kernel
theorem dX9_isPlay_95 : decode cX9_isPlay 95 = .ok (.laload, 1) := by decide +kernel
theorem dX9_isPlay_96 : decode cX9_isPlay 96 = .ok (.ladd, 1) := by decide +kernel
theorem dX9_isPlay_97 : decode cX9_isPlay 97 = .ok (.putfield 421, 3) := by decide +kernel
theorem dX9_isPlay_100 : decode cX9_isPlay 100 = .ok (.aload_n 0, 1) := by decide +kernel
theorem dX9_isPlay_101 : decode cX9_isPlay 101 = .ok (.getfield 74, 3) := by decide +kernel
theorem dX9_isPlay_104 : decode cX9_isPlay 104 = .ok (.iload_n 1, 1) := by decide +kernel
theorem dX9_isPlay_105 : decode cX9_isPlay 105 = .ok (.iaload, 1) := by decide +kernel
theorem dX9_isPlay_106 : decode cX9_isPlay 106 = .ok (.ldc 180, 2) := by decide +kernel
theorem dX9_isPlay_108 : decode cX9_isPlay 108 = .ok (.if_icmp .eq 72, 3) := by decide +kernel
theorem dX9_isPlay_111 : decode cX9_isPlay 111 = .ok (.aload_n 0, 1) := by decide +kernel
theorem dX9_isPlay_112 : decode cX9_isPlay 112 = .ok (.getfield 74, 3) := by decide +kernel
theorem dX9_isPlay_115 : decode cX9_isPlay 115 = .ok (.iload_n 1, 1) := by decide +kernel
theorem dX9_isPlay_116 : decode cX9_isPlay 116 = .ok (.iaload, 1) := by decide +kernel
theorem dX9_isPlay_117 : decode cX9_isPlay 117 = .ok (.aload_n 0, 1) := by decide +kernel
theorem dX9_isPlay_118 : decode cX9_isPlay 118 = .ok (.getfield 415, 3) := by decide +kernel
theorem dX9_isPlay_121 : decode cX9_isPlay 121 = .ok (.if_icmp .gt 59, 3) := by decide +kernel
theorem dX9_isPlay_124 : decode cX9_isPlay 124 = .ok (.aload_n 0, 1) := by decide +kernel
theorem dX9_isPlay_125 : decode cX9_isPlay 125 = .ok (.getfield 74, 3) := by decide +kernel
theorem dX9_isPlay_128 : decode cX9_isPlay 128 = .ok (.iload_n 1, 1) := by decide +kernel
theorem dX9_isPlay_129 : decode cX9_isPlay 129 = .ok (.iaload, 1) := by decide +kernel
theorem dX9_isPlay_130 : decode cX9_isPlay 130 = .ok (.aload_n 0, 1) := by decide +kernel
theorem dX9_isPlay_131 : decode cX9_isPlay 131 = .ok (.getfield 415, 3) := by decide +kernel
theorem dX9_isPlay_134 : decode cX9_isPlay 134 = .ok (.if_icmp .ne 19, 3) := by decide +kernel
theorem dX9_isPlay_137 : decode cX9_isPlay 137 = .ok (.aload_n 0, 1) := by decide +kernel
theorem dX9_isPlay_138 : decode cX9_isPlay 138 = .ok (.getfield 77, 3) := by decide +kernel
theorem dX9_isPlay_141 : decode cX9_isPlay 141 = .ok (.iload_n 1, 1) := by decide +kernel
theorem dX9_isPlay_142 : decode cX9_isPlay 142 = .ok (.iaload, 1) := by decide +kernel
theorem dX9_isPlay_143 : decode cX9_isPlay 143 = .ok (.aload_n 0, 1) := by decide +kernel
theorem dX9_isPlay_144 : decode cX9_isPlay 144 = .ok (.getfield 418, 3) := by decide +kernel
theorem dX9_isPlay_147 : decode cX9_isPlay 147 = .ok (.if_icmp .lt 6, 3) := by decide +kernel
theorem dX9_isPlay_150 : decode cX9_isPlay 150 = .ok (.goto 30, 3) := by decide +kernel
theorem dX9_isPlay_153 : decode cX9_isPlay 153 = .ok (.aload_n 0, 1) := by decide +kernel
theorem dX9_isPlay_154 : decode cX9_isPlay 154 = .ok (.aload_n 0, 1) := by decide +kernel
theorem dX9_isPlay_155 : decode cX9_isPlay 155 = .ok (.getfield 74, 3) := by decide +kernel
theorem dX9_isPlay_158 : decode cX9_isPlay 158 = .ok (.iload_n 1, 1) := by decide +kernel
theorem dX9_isPlay_159 : decode cX9_isPlay 159 = .ok (.iaload, 1) := by decide +kernel
theorem dX9_isPlay_160 : decode cX9_isPlay 160 = .ok (.putfield 415, 3) := by decide +kernel
theorem dX9_isPlay_163 : decode cX9_isPlay 163 = .ok (.aload_n 0, 1) := by decide +kernel
theorem dX9_isPlay_164 : decode cX9_isPlay 164 = .ok (.aload_n 0, 1) := by decide +kernel
theorem dX9_isPlay_165 : decode cX9_isPlay 165 = .ok (.getfield 77, 3) := by decide +kernel
theorem dX9_isPlay_168 : decode cX9_isPlay 168 = .ok (.iload_n 1, 1) := by decide +kernel
theorem dX9_isPlay_169 : decode cX9_isPlay 169 = .ok (.iaload, 1) := by decide +kernel
theorem dX9_isPlay_170 : decode cX9_isPlay 170 = .ok (.putfield 418, 3) := by decide +kernel
theorem dX9_isPlay_173 : decode cX9_isPlay 173 = .ok (.aload_n 0, 1) := by decide +kernel
theorem dX9_isPlay_174 : decode cX9_isPlay 174 = .ok (.getfield 83, 3) := by decide +kernel
theorem dX9_isPlay_177 : decode cX9_isPlay 177 = .ok (.iconst 0, 1) := by decide +kernel
theorem dX9_isPlay_178 : decode cX9_isPlay 178 = .ok (.iload_n 1, 1) := by decide +kernel
theorem dX9_isPlay_179 : decode cX9_isPlay 179 = .ok (.iastore, 1) := by decide +kernel
theorem dX9_isPlay_180 : decode cX9_isPlay 180 = .ok (.iinc 1 1, 3) := by decide +kernel
theorem dX9_isPlay_183 : decode cX9_isPlay 183 = .ok (.goto (-139), 3) := by decide +kernel
theorem dX9_isPlay_186 : decode cX9_isPlay 186 = .ok (.aload_n 0, 1) := by decide +kernel
theorem dX9_isPlay_187 : decode cX9_isPlay 187 = .ok (.getfield 415, 3) := by decide +kernel
theorem dX9_isPlay_190 : decode cX9_isPlay 190 = .ok (.ldc 180, 2) := by decide +kernel
theorem dX9_isPlay_192 : decode cX9_isPlay 192 = .ok (.if_icmp .ne 5, 3) := by decide +kernel
theorem dX9_isPlay_195 : decode cX9_isPlay 195 = .ok (.iconst 0, 1) := by decide +kernel
theorem dX9_isPlay_196 : decode cX9_isPlay 196 = .ok (.ireturn, 1) := by decide +kernel
theorem dX9_isPlay_197 : decode cX9_isPlay 197 = .ok (.iconst 0, 1) := by decide +kernel
theorem dX9_isPlay_198 : decode cX9_isPlay 198 = .ok (.istore_n 1, 1) := by decide +kernel
theorem dX9_isPlay_199 : decode cX9_isPlay 199 = .ok (.iload_n 1, 1) := by decide +kernel
theorem dX9_isPlay_200 : decode cX9_isPlay 200 = .ok (.iconst 1, 1) := by decide +kernel
theorem dX9_isPlay_201 : decode cX9_isPlay 201 = .ok (.iadd, 1) := by decide +kernel
theorem dX9_isPlay_202 : decode cX9_isPlay 202 = .ok (.aload_n 0, 1) := by decide +kernel
theorem dX9_isPlay_203 : decode cX9_isPlay 203 = .ok (.getfield 387, 3) := by decide +kernel
theorem dX9_isPlay_206 : decode cX9_isPlay 206 = .ok (.if_icmp .ge 22, 3) := by decide +kernel
theorem dX9_isPlay_209 : decode cX9_isPlay 209 = .ok (.aload_n 0, 1) := by decide +kernel
theorem dX9_isPlay_210 : decode cX9_isPlay 210 = .ok (.getfield 83, 3) := by decide +kernel
theorem dX9_isPlay_213 : decode cX9_isPlay 213 = .ok (.iload_n 1, 1) := by decide +kernel
theorem dX9_isPlay_214 : decode cX9_isPlay 214 = .ok (.iconst 1, 1) := by decide +kernel
theorem dX9_isPlay_215 : decode cX9_isPlay 215 = .ok (.iadd, 1) := by decide +kernel
theorem dX9_isPlay_216 : decode cX9_isPlay 216 = .ok (.aload_n 0, 1) := by decide +kernel
theorem dX9_isPlay_217 : decode cX9_isPlay 217 = .ok (.iload_n 1, 1) := by decide +kernel
theorem dX9_isPlay_218 : decode cX9_isPlay 218 = .ok (.invokevirtual 424, 3) := by decide +kernel
theorem dX9_isPlay_221 : decode cX9_isPlay 221 = .ok (.iastore, 1) := by decide +kernel
theorem dX9_isPlay_222 : decode cX9_isPlay 222 = .ok (.iinc 1 1, 3) := by decide +kernel
theorem dX9_isPlay_225 : decode cX9_isPlay 225 = .ok (.goto (-26), 3) := by decide +kernel
theorem dX9_isPlay_228 : decode cX9_isPlay 228 = .ok (.iconst 1, 1) := by decide +kernel
theorem dX9_isPlay_229 : decode cX9_isPlay 229 = .ok (.ireturn, 1) := by decide +kernel
set_option maxHeartbeats 4000000 in
set_option maxRecDepth 100000 in
theorem m_X9_isPlay (l : Launch) (D : va_G) (cy : Nat → ClassId) (g : Nat → Nat) (σ : ST)  (sz : Nat) (hJ : J9 (σ 9))  : Met l yX9_isPlay (ww yX9_isPlay cX9_isPlay 2 (some .boolean)) ({ frames := 6, cells := 0, slots := 0, locals := 384 }) (va_Pc [.ref (g 60)] (pr9 D cy g σ sz)) (qi9 D cy g sz (fun r τ => Fr (fL [35, 36, 37, 38, 39, 40, 41]) σ τ ∧ J9 (τ 9) ∧ ((0 : Int) ≤ r.toInt ∧ r.toInt ≤ 1) ∧ True)) 0 0 (A9 cy g sz) := by
  refine Met.ofW (cc := cX9_isPlay) (maxL := 2) (ret := (some .boolean)) (by decide) rfl ?_
  intro p e s m args below meth c s₁ B hml hv
  obtain ⟨rfl, hsz, hP, hK, hD0, hC⟩ := hv
  have hx := B.exec
  have hb := B.bytes
  have hr := B.returns
  have hts := hts_g (atoms_spec (ws := ww yX9_isPlay cX9_isPlay 2 (some .boolean)) B.pre)
  have hown : s.vm.findClass RX9 = some m.cls := findClass_of_methodNamed B.named
  have hlocks := B.notSynchronized
  clear B
  subst hsz
  have hD := fun τ => A9_D (sz := s.heap.size) hD0 τ
  clear hD0
  have hS : va_S (A9 cy g s.heap.size) s.heap s.heap [] := va_S.rf
  have hl := lv_entry ([.ref (g 60)]) (n := 2) (Nat.le_of_ble_eq_true rfl)
  rw [lg_entry_eq]
  generalize (lg_sl ([.ref (g 60)]) ++ List.replicate (2 - (lg_sl ([.ref (g 60)])).length) Slot.unset).toArray = ls at hl ⊢
  have hl : lv_has ls 2 [(0, .ref (g 60))] := hl
  refine lv_aload_n hx hb dX9_isPlay_0 rfl (lv_at hl 0 rfl) ?_
  refine va_callv (va_runV (As := []) (rest := []) ⟨hx, hb, hml, hown, hts⟩ (m_X9_goesBack l D cy g σ  _ hJ ) (cwV 0 hts (gd_V q1850 q1852 q94 q134 q1853) rfl rfl rfl (by decide +kernel) ⟨Nat.le_of_ble_eq_true rfl, Nat.le_of_ble_eq_true rfl⟩) (pv9 hP hK hD hC hS (va_recv hK hP (ci := 9) (q0 := 0) rfl rfl)) rfl rfl hl.1 rfl (lv_room (Nat.le_of_ble_eq_true rfl)) dX9_isPlay_1 ⟨Nat.le_of_ble_eq_true rfl, Nat.le_of_ble_eq_true rfl⟩) hS (fun q _ h => up9 hS q h) (up9 hS) (fun σ2 tS H1 locs ht hvm hw3 hB hz1 hk1 hS => ?_)
  have hP : va_P D clz (WD9 cy g σ2) H1 := by rw [← ht]; exact hB
  clear hB hz1 hk1 hvm ht
  generalize H1 = H at hP hS ⊢
  have hF4 : Fr (fL [35, 36, 37]) σ σ2 := hw3.1
  have hJ5 : J9 (σ2 9) := hw3.2.1
  refine lv_aload_n hx hb dX9_isPlay_4 rfl (lv_at hl 0 rfl) ?_
  refine lv_aload_n hx hb dX9_isPlay_5 rfl (lv_at hl 0 rfl) ?_
  refine g9_31 (x := ((σ 9).1 31)) hx hb hts hown hK hP ((hF4 9 31 rfl).1) (hts _ q1391) dX9_isPlay_6 ?_
  refine cut9 (D := D) (cy := cy) (g := g) (A := A9 cy g s.heap.size) (H0 := s.heap) 2 18 (fun x : LZ => [(0, .ref (g 60))]) (fun x : LZ => [.int (x.2.1 0), .ref (g 60)]) (fun x : LZ => (x.1 = σ2) ∧ ((0 : Int) ≤ (x.2.1 0).toInt ∧ (x.2.1 0).toInt ≤ 1000000) ∧ ((((σ2 9).1 31).toInt = 0 ∧ (x.2.1 0).toInt = 0) ∨ (x.2.1 0).toInt = 1000000) ∧ (GB (σ2 9)) ∧ True) ?_ ?_
  ·
    intro y8 hI7 H locs ls hP hS hl
    rw [show y8.1 = σ2 from hI7.1] at hP
    have b9 : (0 : Int) ≤ (y8.2.1 0).toInt ∧ (y8.2.1 0).toInt ≤ 1000000 := hI7.2.1
    have b10 : (((σ2 9).1 31).toInt = 0 ∧ (y8.2.1 0).toInt = 0) ∨ (y8.2.1 0).toInt = 1000000 := hI7.2.2.1
    have b11 : GB (σ2 9) := hI7.2.2.2.1
    have hl : lv_has ls 2 [(0, .ref (g 60))] := hl
    refine W.eq (g2 := F0 m 18 ls [.int (y8.2.1 0), .ref (g 60)]) rfl ?_
    refine p9_39 hx hb hts hown hK hP hD hS (hts _ q1399) dX9_isPlay_18 (fun H locs σ12 eσ12 hP hS => ?_)
    have hJ13 : J9 (σ12 9) := hJ5.I eσ12 (show JI9 39 (y8.2.1 0) from trivial)
    have T14 : GB (σ12 9) := GB.mv b11 ((sI_f eσ12) 9 28 rfl).1 ((sI_f eσ12) 9 30 rfl).1 ((sI_f eσ12) 9 31 rfl).1 ((sI_f eσ12) 9 18 rfl).2.2.1 ((sI_f eσ12) 9 24 rfl).2.2.1 ((sI_f eσ12) 9 25 rfl).2.2.1 ((sI_f eσ12) 9 26 rfl).2.2.1 ((sI_f eσ12) 9 27 rfl).2.2.1 ((sI_f eσ12) 9 33 rfl).2.2.1 ((sI_f eσ12) 9 34 rfl).2.2.1 ((sI_f eσ12) 9 35 rfl).2.2.1 ((sI_f eσ12) 9 36 rfl).2.2.1
    refine lv_aload_n hx hb dX9_isPlay_21 rfl (lv_at hl 0 rfl) ?_
    refine lv_iconst (v := 0) hx hb dX9_isPlay_22 (by decide) ?_
    refine p9_40 hx hb hts hown hK hP hD hS (hts _ q1400) dX9_isPlay_23 (fun H locs σ15 eσ15 hP hS => ?_)
    have hJ16 : J9 (σ15 9) := hJ13.I eσ15 (show JI9 40 (0 : Int32) from trivial)
    have T17 : GB (σ15 9) := GB.mv T14 ((sI_f eσ15) 9 28 rfl).1 ((sI_f eσ15) 9 30 rfl).1 ((sI_f eσ15) 9 31 rfl).1 ((sI_f eσ15) 9 18 rfl).2.2.1 ((sI_f eσ15) 9 24 rfl).2.2.1 ((sI_f eσ15) 9 25 rfl).2.2.1 ((sI_f eσ15) 9 26 rfl).2.2.1 ((sI_f eσ15) 9 27 rfl).2.2.1 ((sI_f eσ15) 9 33 rfl).2.2.1 ((sI_f eσ15) 9 34 rfl).2.2.1 ((sI_f eσ15) 9 35 rfl).2.2.1 ((sI_f eσ15) 9 36 rfl).2.2.1
    refine lv_aload_n hx hb dX9_isPlay_26 rfl (lv_at hl 0 rfl) ?_
    refine lv_aload_n hx hb dX9_isPlay_27 rfl (lv_at hl 0 rfl) ?_
    refine g9_31 (x := ((σ 9).1 31)) hx hb hts hown hK hP ((((sI_f eσ15) 9 31 rfl).1).trans ((((sI_f eσ12) 9 31 rfl).1).trans ((hF4 9 31 rfl).1))) (hts _ q1391) dX9_isPlay_28 ?_
    refine cut9 (D := D) (cy := cy) (g := g) (A := A9 cy g s.heap.size) (H0 := s.heap) 2 39 (fun x : LZ => [(0, .ref (g 60))]) (fun x : LZ => [.long (x.2.2 0), .ref (g 60)]) (fun x : LZ => (x.1 = σ15) ∧ (GB (σ15 9)) ∧ True) ?_ ?_
    ·
      intro y20 hI19 H locs ls hP hS hl
      rw [show y20.1 = σ15 from hI19.1] at hP
      have b21 : GB (σ15 9) := hI19.2.1
      have hl : lv_has ls 2 [(0, .ref (g 60))] := hl
      refine W.eq (g2 := F0 m 39 ls [.long (y20.2.2 0), .ref (g 60)]) rfl ?_
      refine p9_41 hx hb hts hown hK hP hD hS (hts _ q1401) dX9_isPlay_39 (fun H locs σ22 eσ22 hP hS => ?_)
      have hJ23 : J9 (σ22 9) := hJ16.L eσ22
      have T24 : GB (σ22 9) := GB.mv b21 ((sL_f eσ22) 9 28 rfl).1 ((sL_f eσ22) 9 30 rfl).1 ((sL_f eσ22) 9 31 rfl).1 ((sL_f eσ22) 9 18 rfl).2.2.1 ((sL_f eσ22) 9 24 rfl).2.2.1 ((sL_f eσ22) 9 25 rfl).2.2.1 ((sL_f eσ22) 9 26 rfl).2.2.1 ((sL_f eσ22) 9 27 rfl).2.2.1 ((sL_f eσ22) 9 33 rfl).2.2.1 ((sL_f eσ22) 9 34 rfl).2.2.1 ((sL_f eσ22) 9 35 rfl).2.2.1 ((sL_f eσ22) 9 36 rfl).2.2.1
      have T25 : BP (σ22 9) := by unfold BP; rw [((((sL_f eσ22) 9 39 rfl).1).trans (((sI_f eσ15) 9 39 rfl).1)).trans (sI_s eσ12), (((sL_f eσ22) 9 31 rfl).1).trans ((((sI_f eσ15) 9 31 rfl).1).trans ((((sI_f eσ12) 9 31 rfl).1).trans ((hF4 9 31 rfl).1)))]; by_cases hz : ((σ 9).1 31).toInt = 0; exact Or.inr (Or.inl hz); exact Or.inl (by have f0 := j9_31 hJ rfl; have f1 := b9; have f2 := b10; have f3 := j9_31 hJ5 rfl; have f4 := congrArg Int32.toInt (show ((σ2 9).1 31) = ((σ 9).1 31) from (hF4 9 31 rfl).1); have g2 := rg32 (y8.2.1 0); omega)
      refine lv_iconst (v := 0) hx hb dX9_isPlay_42 (by decide) ?_
      refine lv_istore_n (lv' := [(1, .int 0), (0, .ref (g 60))]) hx hb dX9_isPlay_43 rfl hl (by decide) rfl (fun ls hl => ?_)
      refine loop9 2 44 (fun x : LZ => [(1, .int (x.2.1 0)), (0, .ref (g 60))]) (fun x : LZ => (Fr (fL [38, 39, 40, 41]) σ22 x.1) ∧ (J9 (x.1 9)) ∧ ((0 : Int) ≤ (x.2.1 0).toInt ∧ (x.2.1 0).toInt ≤ 88) ∧ (GB (x.1 9)) ∧ (BP (x.1 9)) ∧ True) (fun x : LZ => ((89 : Int) - (x.2.1 0).toInt).toNat) ?_ (σ22, lf [0], lg []) ⟨Fr.rf, hJ23, (show (0 : Int) ≤ (0 : Int32).toInt ∧ (0 : Int32).toInt ≤ 88 from (by have z0 : (0 : Int32).toInt = 0 := (by decide); omega)), (show GB (σ22 9) from T24), (show BP (σ22 9) from T25), trivial⟩ _ _ _ hP hS (lv_sub hl [0, 1] rfl)
      intro y28 hI27 nl26 H locs ls hP hS hl
      obtain ⟨σ29, eσ29⟩ : ∃ z, z = y28.1 := ⟨_, rfl⟩
      rw [← eσ29] at hP hI27
      have hF30 : Fr (fL [38, 39, 40, 41]) σ22 σ29 := hI27.1
      have hJ31 : J9 (σ29 9) := hI27.2.1
      have b32 : (0 : Int) ≤ (y28.2.1 0).toInt ∧ (y28.2.1 0).toInt ≤ 88 := hI27.2.2.1
      have b33 : GB (σ29 9) := hI27.2.2.2.1
      have b34 : BP (σ29 9) := hI27.2.2.2.2.1
      have hl : lv_has ls 2 [(1, .int (y28.2.1 0)), (0, .ref (g 60))] := hl
      refine lv_aload_n hx hb dX9_isPlay_44 rfl (lv_at hl 1 rfl) ?_
      refine g9_31 (x := ((σ 9).1 31)) hx hb hts hown hK hP (((hF30 9 31 rfl).1).trans ((((sL_f eσ22) 9 31 rfl).1).trans ((((sI_f eσ15) 9 31 rfl).1).trans ((((sI_f eσ12) 9 31 rfl).1).trans ((hF4 9 31 rfl).1))))) (hts _ q1391) dX9_isPlay_45 ?_
      refine cut9 (D := D) (cy := cy) (g := g) (A := A9 cy g s.heap.size) (H0 := s.heap) 2 186 (fun x : LZ => [(1, .int (y28.2.1 0)), (0, .ref (g 60))]) (fun x : LZ => []) (fun x : LZ => (x.1 = σ29) ∧ (GB (σ29 9)) ∧ (BP (σ29 9)) ∧ True) ?_ ?_
      ·
        intro y37 hI36 H locs ls hP hS hl
        rw [show y37.1 = σ29 from hI36.1] at hP
        have b38 : GB (σ29 9) := hI36.2.1
        have b39 : BP (σ29 9) := hI36.2.2.1
        have hl : lv_has ls 2 [(1, .int (y28.2.1 0)), (0, .ref (g 60))] := hl
        refine lv_aload_n hx hb dX9_isPlay_186 rfl (lv_at hl 1 rfl) ?_
        refine g9_39 (x := ((σ29 9).1 39)) hx hb hts hown hK hP (rfl) (hts _ q1399) dX9_isPlay_187 ?_
        refine lv_ldc (v := 1000000) hx hb hown (hts _ q1604) dX9_isPlay_190 ?_
        refine lv_icmp_ne (tgt := 197) hx hb dX9_isPlay_192 (by decide) (fun c40 => ?_) (fun c40 => ?_)
        ·
          have k41 := neq32 c40
          refine lv_iconst (v := 0) hx hb dX9_isPlay_197 (by decide) ?_
          refine lv_istore_n (lv' := [(1, .int 0), (0, .ref (g 60))]) hx hb dX9_isPlay_198 rfl hl (by decide) rfl (fun ls hl => ?_)
          refine loop9 2 199 (fun x : LZ => [(1, .int (x.2.1 0)), (0, .ref (g 60))]) (fun x : LZ => (Fr (fL [38]) σ29 x.1) ∧ (J9 (x.1 9)) ∧ ((0 : Int) ≤ (x.2.1 0).toInt ∧ (x.2.1 0).toInt ≤ 15) ∧ (CS (x.1 9) ((x.2.1 0).toInt.toNat)) ∧ (GB (x.1 9)) ∧ True) (fun x : LZ => ((16 : Int) - (x.2.1 0).toInt).toNat) ?_ (σ29, lf [0], lg []) ⟨Fr.rf, hJ31, (show (0 : Int) ≤ (0 : Int32).toInt ∧ (0 : Int32).toInt ≤ 15 from (by have z0 : (0 : Int32).toInt = 0 := (by decide); omega)), (show CS (σ29 9) ((0 : Int32).toInt.toNat) from (by rw [show (0 : Int32).toInt.toNat = 0 by decide]; exact (b39).resolve_left (by have f0 := k41; have z1000000 : (1000000 : Int32).toInt = 1000000 := (by decide); omega))), (show GB (σ29 9) from b38), trivial⟩ _ _ _ hP hS (lv_sub hl [0, 1] rfl)
          intro y44 hI43 nl42 H locs ls hP hS hl
          obtain ⟨σ45, eσ45⟩ : ∃ z, z = y44.1 := ⟨_, rfl⟩
          rw [← eσ45] at hP hI43
          have hF46 : Fr (fL [38]) σ29 σ45 := hI43.1
          have hJ47 : J9 (σ45 9) := hI43.2.1
          have b48 : (0 : Int) ≤ (y44.2.1 0).toInt ∧ (y44.2.1 0).toInt ≤ 15 := hI43.2.2.1
          have b49 : CS (σ45 9) ((y44.2.1 0).toInt.toNat) := hI43.2.2.2.1
          have b50 : GB (σ45 9) := hI43.2.2.2.2.1
          have hl : lv_has ls 2 [(1, .int (y44.2.1 0)), (0, .ref (g 60))] := hl
          refine lv_iload_n hx hb dX9_isPlay_199 rfl (lv_at hl 0 rfl) ?_
          refine lv_iconst (v := 1) hx hb dX9_isPlay_200 (by decide) ?_
          refine lv_iadd hx hb dX9_isPlay_201 ?_
          refine lv_topi (fun x51 ex51 => ?_)
          have t52 := addO ex51 (by have f0 := b48; have g0 := rg32 (y44.2.1 0); have z1 : (1 : Int32).toInt = 1 := (by decide); omega)
          refine lv_aload_n hx hb dX9_isPlay_202 rfl (lv_at hl 1 rfl) ?_
          refine g9_31 (x := ((σ 9).1 31)) hx hb hts hown hK hP (((hF46 9 31 rfl).1).trans (((hF30 9 31 rfl).1).trans ((((sL_f eσ22) 9 31 rfl).1).trans ((((sI_f eσ15) 9 31 rfl).1).trans ((((sI_f eσ12) 9 31 rfl).1).trans ((hF4 9 31 rfl).1)))))) (hts _ q1391) dX9_isPlay_203 ?_
          refine lv_icmp_ge (tgt := 228) hx hb dX9_isPlay_206 (by decide) (fun c53 => ?_) (fun c53 => ?_)
          ·
            have k54 := ple32 c53
            refine lv_iconst (v := 1) hx hb dX9_isPlay_228 (by decide) ?_
            exact W.zret (v := 1) hx hb hr rfl (fun tS ht hW => ⟨⟨1, σ45, rfl, ⟨Fr.tr (Fr.tr (Fr.tr (Fr.tr (Fr.tr (Fr.tr (Fr.rf) hF4 (fL_sub rfl)) (sI_f eσ12) (fN_L rfl)) (sI_f eσ15) (fN_L rfl)) (sL_f eσ22) (fN_L rfl)) hF30 (fL_sub rfl)) hF46 (fL_sub rfl), hJ47, (show (0 : Int) ≤ (1 : Int32).toInt ∧ (1 : Int32).toInt ≤ 1 from (by have z1 : (1 : Int32).toInt = 1 := (by decide); omega)), trivial⟩, (show va_P D clz (WD9 cy g σ45) tS.heap by rw [ht]; exact hP)⟩, hS.F ht⟩) hS.2.2 dX9_isPlay_229
          ·
            have k55 := nle32 c53
            refine lv_aload_n hx hb dX9_isPlay_209 rfl (lv_at hl 1 rfl) ?_
            refine g9_38 hx hb hts hown hK hP (hts _ q1398) dX9_isPlay_210 ?_
            refine lv_iload_n hx hb dX9_isPlay_213 rfl (lv_at hl 0 rfl) ?_
            refine lv_iconst (v := 1) hx hb dX9_isPlay_214 (by decide) ?_
            refine lv_iadd hx hb dX9_isPlay_215 ?_
            refine lv_topi (fun x56 ex56 => ?_)
            have t57 := addO ex56 (by have f0 := b48; have f1 := t52; have f2 := k55; have f3 := j9_31 hJ rfl; have g0 := rg32 (y44.2.1 0); have z1 : (1 : Int32).toInt = 1 := (by decide); omega)
            refine lv_aload_n hx hb dX9_isPlay_216 rfl (lv_at hl 1 rfl) ?_
            refine lv_iload_n hx hb dX9_isPlay_217 rfl (lv_at hl 0 rfl) ?_
            refine va_calli (va_runV (As := [.int (y44.2.1 0)]) (rest := [.int x56, .ref (g 38)]) ⟨hx, hb, hml, hown, hts⟩ (m_X9_nextOf l D cy g σ45 (y44.2.1 0) _ hJ47 b50 (show (0 : Int) ≤ (y44.2.1 0).toInt ∧ (y44.2.1 0).toInt ≤ 14 from (by have f0 := b48; have f1 := t52; have f2 := t57; have f3 := k55; have f4 := j9_31 hJ rfl; have g0 := rg32 (y44.2.1 0); have z1 : (1 : Int32).toInt = 1 := (by decide); omega)) (show (y44.2.1 0).toInt + 1 < ((σ45 9).1 31).toInt from (by have f0 := j9_31 hJ47 rfl; have f1 := congrArg Int32.toInt (show ((σ45 9).1 31) = ((σ 9).1 31) from ((hF46 9 31 rfl).1).trans (((hF30 9 31 rfl).1).trans ((((sL_f eσ22) 9 31 rfl).1).trans ((((sI_f eσ15) 9 31 rfl).1).trans ((((sI_f eσ12) 9 31 rfl).1).trans ((hF4 9 31 rfl).1)))))); have f2 := b48; have f3 := t52; have f4 := t57; have f5 := j9_31 hJ rfl; have f6 := k55; have g1 := rg32 (y44.2.1 0); have z1 : (1 : Int32).toInt = 1 := (by decide); omega)) (show CH (σ45 9) (y44.2.1 0).toInt.toNat from ((b49).resolve_left (by have f0 := j9_31 hJ47 rfl; have f1 := congrArg Int32.toInt (show ((σ45 9).1 31) = ((σ 9).1 31) from ((hF46 9 31 rfl).1).trans (((hF30 9 31 rfl).1).trans ((((sL_f eσ22) 9 31 rfl).1).trans ((((sI_f eσ15) 9 31 rfl).1).trans ((((sI_f eσ12) 9 31 rfl).1).trans ((hF4 9 31 rfl).1)))))); have f2 := b48; have f3 := t52; have f4 := t57; have f5 := j9_31 hJ rfl; have f6 := k55; have g1 := rg32 (y44.2.1 0); have z1 : (1 : Int32).toInt = 1 := (by decide); omega)))) (cwV 1 hts (gd_V q1868 q1870 q98 q134 q1871) rfl rfl rfl (by decide +kernel) ⟨Nat.le_of_ble_eq_true rfl, Nat.le_of_ble_eq_true rfl⟩) (pv9 hP hK hD hC hS (va_recv hK hP (ci := 9) (q0 := 0) rfl rfl)) rfl rfl hl.1 rfl (lv_room (Nat.le_of_ble_eq_true rfl)) dX9_isPlay_218 ⟨Nat.le_of_ble_eq_true rfl, Nat.le_of_ble_eq_true rfl⟩) hS (fun q _ h => up9 hS q h) (up9 hS) (fun r58 σ59 tS H1 locs ht hvm hw60 hB hz1 hk1 hS => ?_)
            have hP : va_P D clz (WD9 cy g σ59) H1 := by rw [← ht]; exact hB
            clear hB hz1 hk1 hvm ht
            generalize H1 = H at hP hS ⊢
            have hw60E : σ45 = σ59 := (hw60.1).symm
            subst hw60E
            have b61 : (0 : Int) ≤ r58.toInt ∧ r58.toInt ≤ 87 := hw60.2.1
            have b62 : r58.toInt < ((σ45 9).2.2.1 24 ((y44.2.1 0).toInt.toNat + 1)).toInt := hw60.2.2.1
            have b63 : ¬ ((σ45 9)).2.2.1 35 (88 * ((y44.2.1 0).toInt.toNat + 1) + r58.toInt.toNat) = 1000000 := hw60.2.2.2.1
            refine t9_38 hx hb hK hP hD hS (vpo (by have f0 := t57; have f1 := b48; have f2 := t52; have f3 := b62; have f4 := congrArg Int32.toInt (show ((σ45 9).2.2.1 24 ((y44.2.1 0).toInt.toNat + 1)) = ((σ 9).2.2.1 24 ((y44.2.1 0).toInt.toNat + 1)) from congrFun (((hF46 9 24 rfl).2.2.1).trans (((hF30 9 24 rfl).2.2.1).trans ((((sL_f eσ22) 9 24 rfl).2.2.1).trans ((((sI_f eσ15) 9 24 rfl).2.2.1).trans ((((sI_f eσ12) 9 24 rfl).2.2.1).trans ((hF4 9 24 rfl).2.2.1)))))) _); have f5 := k55; have f6 := b61; have f7 := j9_31 hJ rfl; have g2 := rg32 x56; have z1 : (1 : Int32).toInt = 1 := (by decide); omega)) dX9_isPlay_221 (fun H locs σ64 eσ64 hP hS => ?_)
            have hJ65 : J9 (σ64 9) := hJ47.A eσ64 (show PA9 38 x56.toInt.toNat r58 from (by have f0 := t57; have f1 := b61; have f2 := b62; have f3 := congrArg Int32.toInt (show ((σ45 9).2.2.1 24 ((y44.2.1 0).toInt.toNat + 1)) = ((σ 9).2.2.1 24 ((y44.2.1 0).toInt.toNat + 1)) from congrFun (((hF46 9 24 rfl).2.2.1).trans (((hF30 9 24 rfl).2.2.1).trans ((((sL_f eσ22) 9 24 rfl).2.2.1).trans ((((sI_f eσ15) 9 24 rfl).2.2.1).trans ((((sI_f eσ12) 9 24 rfl).2.2.1).trans ((hF4 9 24 rfl).2.2.1)))))) _); have f4 := b48; have f5 := t52; have f6 := k55; have f7 := j9_31 hJ rfl; have g2 := rg32 r58; have g3 := rg32 x56; have z1 : (1 : Int32).toInt = 1 := (by decide); exact ⟨by omega, by omega⟩))
            have T66 : GB (σ64 9) := GB.mv b50 ((sA_f eσ64) 9 28 rfl).1 ((sA_f eσ64) 9 30 rfl).1 ((sA_f eσ64) 9 31 rfl).1 ((sA_f eσ64) 9 18 rfl).2.2.1 ((sA_f eσ64) 9 24 rfl).2.2.1 ((sA_f eσ64) 9 25 rfl).2.2.1 ((sA_f eσ64) 9 26 rfl).2.2.1 ((sA_f eσ64) 9 27 rfl).2.2.1 ((sA_f eσ64) 9 33 rfl).2.2.1 ((sA_f eσ64) 9 34 rfl).2.2.1 ((sA_f eσ64) 9 35 rfl).2.2.1 ((sA_f eσ64) 9 36 rfl).2.2.1
            obtain ⟨x67, ex67⟩ : ∃ y : Int32, y = (y44.2.1 0) + 1 := ⟨_, rfl⟩
            have t68 := addO ex67 (by have f0 := b48; have f1 := t52; have f2 := t57; have f3 := b62; have f4 := congrArg Int32.toInt (show ((σ45 9).2.2.1 24 ((y44.2.1 0).toInt.toNat + 1)) = ((σ 9).2.2.1 24 ((y44.2.1 0).toInt.toNat + 1)) from congrFun (((hF46 9 24 rfl).2.2.1).trans (((hF30 9 24 rfl).2.2.1).trans ((((sL_f eσ22) 9 24 rfl).2.2.1).trans ((((sI_f eσ15) 9 24 rfl).2.2.1).trans ((((sI_f eσ12) 9 24 rfl).2.2.1).trans ((hF4 9 24 rfl).2.2.1)))))) _); have f5 := k55; have f6 := b61; have f7 := j9_31 hJ rfl; have g2 := rg32 (y44.2.1 0); have z1 : (1 : Int32).toInt = 1 := (by decide); omega)
            refine lv_iinc (v := x67) (lv' := [(1, .int x67), (0, .ref (g 60))]) hx hb dX9_isPlay_222 hl (k := 0) rfl (by rw [ex67]; rfl) (by decide) rfl (fun ls hl => ?_)
            refine lv_goto (tgt := 199) hx hb dX9_isPlay_225 (by decide) ?_
            have t69 : ((16 : Int) - x67.toInt).toNat < ((16 : Int) - (y44.2.1 0).toInt).toNat := (by have f0 := b48; have f1 := t52; have f2 := t57; have f3 := b62; have f4 := t68; have f5 := congrArg Int32.toInt (show ((σ45 9).2.2.1 24 ((y44.2.1 0).toInt.toNat + 1)) = ((σ 9).2.2.1 24 ((y44.2.1 0).toInt.toNat + 1)) from congrFun (((hF46 9 24 rfl).2.2.1).trans (((hF30 9 24 rfl).2.2.1).trans ((((sL_f eσ22) 9 24 rfl).2.2.1).trans ((((sI_f eσ15) 9 24 rfl).2.2.1).trans ((((sI_f eσ12) 9 24 rfl).2.2.1).trans ((hF4 9 24 rfl).2.2.1)))))) _); have f6 := k55; have f7 := b61; have f8 := j9_31 hJ rfl; have g2 := rg32 (y44.2.1 0); have g3 := rg32 x67; have z1 : (1 : Int32).toInt = 1 := (by decide); omega)
            exact nl42 (σ64, lf [x67], lg []) ⟨Fr.tr (Fr.tr (Fr.rf) hF46 (fL_sub rfl)) (sA_f eσ64) (fN_L rfl), hJ65, (show (0 : Int) ≤ (x67 : Int32).toInt ∧ (x67 : Int32).toInt ≤ 15 from (by have f0 := t68; have f1 := b48; have f2 := t52; have f3 := t57; have f4 := b62; have f5 := congrArg Int32.toInt (show ((σ45 9).2.2.1 24 ((y44.2.1 0).toInt.toNat + 1)) = ((σ 9).2.2.1 24 ((y44.2.1 0).toInt.toNat + 1)) from congrFun (((hF46 9 24 rfl).2.2.1).trans (((hF30 9 24 rfl).2.2.1).trans ((((sL_f eσ22) 9 24 rfl).2.2.1).trans ((((sI_f eσ15) 9 24 rfl).2.2.1).trans ((((sI_f eσ12) 9 24 rfl).2.2.1).trans ((hF4 9 24 rfl).2.2.1)))))) _); have f6 := k55; have f7 := b61; have f8 := j9_31 hJ rfl; have g2 := rg32 x67; have z1 : (1 : Int32).toInt = 1 := (by decide); omega)), (show CS (σ64 9) (x67.toInt.toNat) from (by rw [show x67.toInt.toNat = (y44.2.1 0).toInt.toNat + 1 from (by have f0 := b48; have f1 := t52; have f2 := t57; have f3 := b62; have f4 := t68; have f5 := congrArg Int32.toInt (show ((σ45 9).2.2.1 24 ((y44.2.1 0).toInt.toNat + 1)) = ((σ 9).2.2.1 24 ((y44.2.1 0).toInt.toNat + 1)) from congrFun (((hF46 9 24 rfl).2.2.1).trans (((hF30 9 24 rfl).2.2.1).trans ((((sL_f eσ22) 9 24 rfl).2.2.1).trans ((((sI_f eσ15) 9 24 rfl).2.2.1).trans ((((sI_f eσ12) 9 24 rfl).2.2.1).trans ((hF4 9 24 rfl).2.2.1)))))) _); have f6 := k55; have f7 := b61; have f8 := j9_31 hJ rfl; have g2 := rg32 (y44.2.1 0); have g3 := rg32 x67; have z1 : (1 : Int32).toInt = 1 := (by decide); omega)]; exact Or.inr (CH.of (x := r58) (by rw [sA_s eσ64, show (y44.2.1 0).toInt.toNat + 1 = x56.toInt.toNat from (by have f0 := b48; have f1 := t52; have f2 := t57; have f3 := b62; have f4 := t68; have f5 := congrArg Int32.toInt (show ((σ45 9).2.2.1 24 ((y44.2.1 0).toInt.toNat + 1)) = ((σ 9).2.2.1 24 ((y44.2.1 0).toInt.toNat + 1)) from congrFun (((hF46 9 24 rfl).2.2.1).trans (((hF30 9 24 rfl).2.2.1).trans ((((sL_f eσ22) 9 24 rfl).2.2.1).trans ((((sI_f eσ15) 9 24 rfl).2.2.1).trans ((((sI_f eσ12) 9 24 rfl).2.2.1).trans ((hF4 9 24 rfl).2.2.1)))))) _); have f6 := k55; have f7 := b61; have f8 := j9_31 hJ rfl; have g2 := rg32 (y44.2.1 0); have g3 := rg32 x56; have z1 : (1 : Int32).toInt = 1 := (by decide); omega)]; exact pk_us) (by rw [sAo eσ64 rfl]; exact b62) (by rw [sAo eσ64 rfl]; exact b63)))), (show GB (σ64 9) from T66), trivial⟩ (show ((16 : Int) - x67.toInt).toNat < _ from by first | exact t69 | (rw [← eσ45]; exact t69)) _ _ _ hP hS (lv_sub hl [0, 1] rfl)
        ·
          have k70 := peq32 c40
          refine lv_iconst (v := 0) hx hb dX9_isPlay_195 (by decide) ?_
          exact W.zret (v := 0) hx hb hr rfl (fun tS ht hW => ⟨⟨0, σ29, rfl, ⟨Fr.tr (Fr.tr (Fr.tr (Fr.tr (Fr.tr (Fr.rf) hF4 (fL_sub rfl)) (sI_f eσ12) (fN_L rfl)) (sI_f eσ15) (fN_L rfl)) (sL_f eσ22) (fN_L rfl)) hF30 (fL_sub rfl), hJ31, (show (0 : Int) ≤ (0 : Int32).toInt ∧ (0 : Int32).toInt ≤ 1 from (by have z0 : (0 : Int32).toInt = 0 := (by decide); omega)), trivial⟩, (show va_P D clz (WD9 cy g σ29) tS.heap by rw [ht]; exact hP)⟩, hS.F ht⟩) hS.2.2 dX9_isPlay_196
      ·
        intro nj35
        refine lv_if_le (tgt := 186) hx hb dX9_isPlay_48 (by decide) (fun c71 => ?_) (fun c71 => ?_)
        ·
          have k72 := ple32 c71
          exact nj35 (σ29, lf [], lg []) ⟨rfl, (show GB (σ29 9) from b33), (show BP (σ29 9) from b34), trivial⟩ _ _ _ hP hS (lv_sub hl [0, 1] rfl)
        ·
          have k73 := nle32 c71
          refine lv_iload_n hx hb dX9_isPlay_51 rfl (lv_at hl 0 rfl) ?_
          refine lv_aload_n hx hb dX9_isPlay_52 rfl (lv_at hl 1 rfl) ?_
          refine g9_24 hx hb hts hown hK hP (hts _ q1384) dX9_isPlay_53 ?_
          refine lv_iconst (v := 0) hx hb dX9_isPlay_56 (by decide) ?_
          refine l9_24 (x := ((σ 9).2.2.1 24 0)) hx hb hK hP (vpi (by decide)) ((congrFun (((hF30 9 24 rfl).2.2.1).trans ((((sL_f eσ22) 9 24 rfl).2.2.1).trans ((((sI_f eσ15) 9 24 rfl).2.2.1).trans ((((sI_f eσ12) 9 24 rfl).2.2.1).trans ((hF4 9 24 rfl).2.2.1))))) _).trans (congrArg ((σ 9).2.2.1 24) (show (0 : Int32).toInt.toNat = 0 by decide))) dX9_isPlay_57 ?_
          refine lv_icmp_ge (tgt := 186) hx hb dX9_isPlay_58 (by decide) (fun c74 => ?_) (fun c74 => ?_)
          ·
            have k75 := ple32 c74
            exact nj35 (σ29, lf [], lg []) ⟨rfl, (show GB (σ29 9) from b33), (show BP (σ29 9) from b34), trivial⟩ _ _ _ hP hS (lv_sub hl [0, 1] rfl)
          ·
            have k76 := nle32 c74
            refine lv_aload_n hx hb dX9_isPlay_61 rfl (lv_at hl 1 rfl) ?_
            refine lv_aload_n hx hb dX9_isPlay_62 rfl (lv_at hl 1 rfl) ?_
            refine g9_41 (x := ((σ29 9).2.1 41)) hx hb hts hown hK hP (rfl) (hts _ q1401) dX9_isPlay_63 ?_
            refine lv_aload_n hx hb dX9_isPlay_66 rfl (lv_at hl 1 rfl) ?_
            refine g9_37 hx hb hts hown hK hP (hts _ q1397) dX9_isPlay_67 ?_
            refine lv_iload_n hx hb dX9_isPlay_70 rfl (lv_at hl 0 rfl) ?_
            obtain ⟨x77, ex77⟩ : ∃ z, (σ2 9).2.2.2 37 (y28.2.1 0).toInt.toNat = z := ⟨_, rfl⟩
            refine l9_37 (x := x77) hx hb hK hP (vpo (by have f0 := b32; have f1 := k76; have f2 := a9_24 hJ (j := 0) rfl; have g0 := rg32 (y28.2.1 0); omega)) ((congrFun (((hF30 9 37 rfl).2.2.2).trans ((((sL_f eσ22) 9 37 rfl).2.2.2).trans ((((sI_f eσ15) 9 37 rfl).2.2.2).trans (((sI_f eσ12) 9 37 rfl).2.2.2)))) _).trans ex77) dX9_isPlay_71 ?_
            refine lv_ladd hx hb dX9_isPlay_72 ?_
            refine lv_topl (fun x78 ex78 => ?_)
            refine lv_ldc2 (v := 1000000000) hx hb hown (hts _ q1866) dX9_isPlay_73 ?_
            refine W.lcmp hx hb dX9_isPlay_76 ?_
            refine cut9 (D := D) (cy := cy) (g := g) (A := A9 cy g s.heap.size) (H0 := s.heap) 2 97 (fun x : LZ => [(1, .int (y28.2.1 0)), (0, .ref (g 60))]) (fun x : LZ => [.long (x.2.2 0), .ref (g 60)]) (fun x : LZ => (x.1 = σ29) ∧ (GB (σ29 9)) ∧ (BP (σ29 9)) ∧ True) ?_ ?_
            ·
              intro y81 hI80 H locs ls hP hS hl
              rw [show y81.1 = σ29 from hI80.1] at hP
              have b82 : GB (σ29 9) := hI80.2.1
              have b83 : BP (σ29 9) := hI80.2.2.1
              have hl : lv_has ls 2 [(1, .int (y28.2.1 0)), (0, .ref (g 60))] := hl
              refine W.eq (g2 := F0 m 97 ls [.long (y81.2.2 0), .ref (g 60)]) rfl ?_
              refine p9_41 hx hb hts hown hK hP hD hS (hts _ q1401) dX9_isPlay_97 (fun H locs σ84 eσ84 hP hS => ?_)
              have hJ85 : J9 (σ84 9) := hJ31.L eσ84
              have T86 : GB (σ84 9) := GB.mv b82 ((sL_f eσ84) 9 28 rfl).1 ((sL_f eσ84) 9 30 rfl).1 ((sL_f eσ84) 9 31 rfl).1 ((sL_f eσ84) 9 18 rfl).2.2.1 ((sL_f eσ84) 9 24 rfl).2.2.1 ((sL_f eσ84) 9 25 rfl).2.2.1 ((sL_f eσ84) 9 26 rfl).2.2.1 ((sL_f eσ84) 9 27 rfl).2.2.1 ((sL_f eσ84) 9 33 rfl).2.2.1 ((sL_f eσ84) 9 34 rfl).2.2.1 ((sL_f eσ84) 9 35 rfl).2.2.1 ((sL_f eσ84) 9 36 rfl).2.2.1
              have T87 : BP (σ84 9) := BP.mv b83 ((sL_f eσ84) 9 39 rfl).1 ((sL_f eσ84) 9 31 rfl).1 ((sL_f eσ84) 9 38 rfl).2.2.1 ((sL_f eσ84) 9 24 rfl).2.2.1 ((sL_f eσ84) 9 35 rfl).2.2.1
              refine lv_aload_n hx hb dX9_isPlay_100 rfl (lv_at hl 1 rfl) ?_
              refine g9_35 hx hb hts hown hK hP (hts _ q1395) dX9_isPlay_101 ?_
              refine lv_iload_n hx hb dX9_isPlay_104 rfl (lv_at hl 0 rfl) ?_
              obtain ⟨x88, ex88⟩ : ∃ z, (σ2 9).2.2.1 35 (y28.2.1 0).toInt.toNat = z := ⟨_, rfl⟩
              refine l9_35 (x := x88) hx hb hK hP (vpo (by have f0 := b32; have f1 := k76; have f2 := a9_24 hJ (j := 0) rfl; have g0 := rg32 (y28.2.1 0); omega)) ((congrFun ((((sL_f eσ84) 9 35 rfl).2.2.1).trans (((hF30 9 35 rfl).2.2.1).trans ((((sL_f eσ22) 9 35 rfl).2.2.1).trans ((((sI_f eσ15) 9 35 rfl).2.2.1).trans (((sI_f eσ12) 9 35 rfl).2.2.1))))) _).trans ex88) dX9_isPlay_105 ?_
              refine lv_ldc (v := 1000000) hx hb hown (hts _ q1604) dX9_isPlay_106 ?_
              refine lv_icmp_eq (tgt := 180) hx hb dX9_isPlay_108 (by decide) (fun c89 => ?_) (fun c89 => ?_)
              ·
                have k90 := peq32 c89
                obtain ⟨x91, ex91⟩ : ∃ y : Int32, y = (y28.2.1 0) + 1 := ⟨_, rfl⟩
                have t92 := addO ex91 (by have f0 := b32; have f1 := k76; have f2 := a9_24 hJ (j := 0) rfl; have g0 := rg32 (y28.2.1 0); have z1 : (1 : Int32).toInt = 1 := (by decide); omega)
                refine lv_iinc (v := x91) (lv' := [(1, .int x91), (0, .ref (g 60))]) hx hb dX9_isPlay_180 hl (k := 0) rfl (by rw [ex91]; rfl) (by decide) rfl (fun ls hl => ?_)
                refine lv_goto (tgt := 44) hx hb dX9_isPlay_183 (by decide) ?_
                have t93 : ((89 : Int) - x91.toInt).toNat < ((89 : Int) - (y28.2.1 0).toInt).toNat := (by have f0 := b32; have f1 := k76; have f2 := t92; have f3 := a9_24 hJ (j := 0) rfl; have g0 := rg32 (y28.2.1 0); have g1 := rg32 x91; have z1 : (1 : Int32).toInt = 1 := (by decide); omega)
                exact nl26 (σ84, lf [x91], lg []) ⟨Fr.tr (Fr.tr (Fr.rf) hF30 (fL_sub rfl)) (sL_f eσ84) (fN_L rfl), hJ85, (show (0 : Int) ≤ (x91 : Int32).toInt ∧ (x91 : Int32).toInt ≤ 88 from (by have f0 := t92; have f1 := b32; have f2 := k76; have f3 := a9_24 hJ (j := 0) rfl; have g0 := rg32 x91; have z1 : (1 : Int32).toInt = 1 := (by decide); omega)), (show GB (σ84 9) from T86), (show BP (σ84 9) from T87), trivial⟩ (show ((89 : Int) - x91.toInt).toNat < _ from by first | exact t93 | (rw [← eσ29]; exact t93)) _ _ _ hP hS (lv_sub hl [0, 1] rfl)
              ·
                have k94 := neq32 c89
                refine lv_aload_n hx hb dX9_isPlay_111 rfl (lv_at hl 1 rfl) ?_
                refine g9_35 hx hb hts hown hK hP (hts _ q1395) dX9_isPlay_112 ?_
                refine lv_iload_n hx hb dX9_isPlay_115 rfl (lv_at hl 0 rfl) ?_
                refine l9_35 (x := x88) hx hb hK hP (vpo (by have f0 := b32; have f1 := k76; have f2 := a9_24 hJ (j := 0) rfl; have g0 := rg32 (y28.2.1 0); omega)) ((congrFun ((((sL_f eσ84) 9 35 rfl).2.2.1).trans (((hF30 9 35 rfl).2.2.1).trans ((((sL_f eσ22) 9 35 rfl).2.2.1).trans ((((sI_f eσ15) 9 35 rfl).2.2.1).trans (((sI_f eσ12) 9 35 rfl).2.2.1))))) _).trans ex88) dX9_isPlay_116 ?_
                refine lv_aload_n hx hb dX9_isPlay_117 rfl (lv_at hl 1 rfl) ?_
                refine g9_39 (x := ((σ29 9).1 39)) hx hb hts hown hK hP (((sL_f eσ84) 9 39 rfl).1) (hts _ q1399) dX9_isPlay_118 ?_
                refine lv_icmp_gt (tgt := 180) hx hb dX9_isPlay_121 (by decide) (fun c95 => ?_) (fun c95 => ?_)
                ·
                  have k96 := plt32 c95
                  obtain ⟨x97, ex97⟩ : ∃ y : Int32, y = (y28.2.1 0) + 1 := ⟨_, rfl⟩
                  have t98 := addO ex97 (by have f0 := b32; have f1 := k76; have f2 := a9_24 hJ (j := 0) rfl; have g0 := rg32 (y28.2.1 0); have z1 : (1 : Int32).toInt = 1 := (by decide); omega)
                  refine lv_iinc (v := x97) (lv' := [(1, .int x97), (0, .ref (g 60))]) hx hb dX9_isPlay_180 hl (k := 0) rfl (by rw [ex97]; rfl) (by decide) rfl (fun ls hl => ?_)
                  refine lv_goto (tgt := 44) hx hb dX9_isPlay_183 (by decide) ?_
                  have t99 : ((89 : Int) - x97.toInt).toNat < ((89 : Int) - (y28.2.1 0).toInt).toNat := (by have f0 := b32; have f1 := k76; have f2 := t98; have f3 := a9_24 hJ (j := 0) rfl; have g0 := rg32 (y28.2.1 0); have g1 := rg32 x97; have z1 : (1 : Int32).toInt = 1 := (by decide); omega)
                  exact nl26 (σ84, lf [x97], lg []) ⟨Fr.tr (Fr.tr (Fr.rf) hF30 (fL_sub rfl)) (sL_f eσ84) (fN_L rfl), hJ85, (show (0 : Int) ≤ (x97 : Int32).toInt ∧ (x97 : Int32).toInt ≤ 88 from (by have f0 := t98; have f1 := b32; have f2 := k76; have f3 := a9_24 hJ (j := 0) rfl; have g0 := rg32 x97; have z1 : (1 : Int32).toInt = 1 := (by decide); omega)), (show GB (σ84 9) from T86), (show BP (σ84 9) from T87), trivial⟩ (show ((89 : Int) - x97.toInt).toNat < _ from by first | exact t99 | (rw [← eσ29]; exact t99)) _ _ _ hP hS (lv_sub hl [0, 1] rfl)
                ·
                  have k100 := nlt32 c95
                  refine lv_aload_n hx hb dX9_isPlay_124 rfl (lv_at hl 1 rfl) ?_
                  refine g9_35 hx hb hts hown hK hP (hts _ q1395) dX9_isPlay_125 ?_
                  refine lv_iload_n hx hb dX9_isPlay_128 rfl (lv_at hl 0 rfl) ?_
                  refine l9_35 (x := x88) hx hb hK hP (vpo (by have f0 := b32; have f1 := k76; have f2 := a9_24 hJ (j := 0) rfl; have g0 := rg32 (y28.2.1 0); omega)) ((congrFun ((((sL_f eσ84) 9 35 rfl).2.2.1).trans (((hF30 9 35 rfl).2.2.1).trans ((((sL_f eσ22) 9 35 rfl).2.2.1).trans ((((sI_f eσ15) 9 35 rfl).2.2.1).trans (((sI_f eσ12) 9 35 rfl).2.2.1))))) _).trans ex88) dX9_isPlay_129 ?_
                  refine lv_aload_n hx hb dX9_isPlay_130 rfl (lv_at hl 1 rfl) ?_
                  refine g9_39 (x := ((σ29 9).1 39)) hx hb hts hown hK hP (((sL_f eσ84) 9 39 rfl).1) (hts _ q1399) dX9_isPlay_131 ?_
                  refine lv_icmp_ne (tgt := 153) hx hb dX9_isPlay_134 (by decide) (fun c101 => ?_) (fun c101 => ?_)
                  ·
                    have k102 := neq32 c101
                    refine lv_aload_n hx hb dX9_isPlay_153 rfl (lv_at hl 1 rfl) ?_
                    refine lv_aload_n hx hb dX9_isPlay_154 rfl (lv_at hl 1 rfl) ?_
                    refine g9_35 hx hb hts hown hK hP (hts _ q1395) dX9_isPlay_155 ?_
                    refine lv_iload_n hx hb dX9_isPlay_158 rfl (lv_at hl 0 rfl) ?_
                    refine l9_35 (x := x88) hx hb hK hP (vpo (by have f0 := b32; have f1 := k76; have f2 := a9_24 hJ (j := 0) rfl; have g0 := rg32 (y28.2.1 0); omega)) ((congrFun ((((sL_f eσ84) 9 35 rfl).2.2.1).trans (((hF30 9 35 rfl).2.2.1).trans ((((sL_f eσ22) 9 35 rfl).2.2.1).trans ((((sI_f eσ15) 9 35 rfl).2.2.1).trans (((sI_f eσ12) 9 35 rfl).2.2.1))))) _).trans ex88) dX9_isPlay_159 ?_
                    refine p9_39 hx hb hts hown hK hP hD hS (hts _ q1399) dX9_isPlay_160 (fun H locs σ103 eσ103 hP hS => ?_)
                    have hJ104 : J9 (σ103 9) := hJ85.I eσ103 (show JI9 39 x88 from trivial)
                    have T105 : GB (σ103 9) := GB.mv T86 ((sI_f eσ103) 9 28 rfl).1 ((sI_f eσ103) 9 30 rfl).1 ((sI_f eσ103) 9 31 rfl).1 ((sI_f eσ103) 9 18 rfl).2.2.1 ((sI_f eσ103) 9 24 rfl).2.2.1 ((sI_f eσ103) 9 25 rfl).2.2.1 ((sI_f eσ103) 9 26 rfl).2.2.1 ((sI_f eσ103) 9 27 rfl).2.2.1 ((sI_f eσ103) 9 33 rfl).2.2.1 ((sI_f eσ103) 9 34 rfl).2.2.1 ((sI_f eσ103) 9 35 rfl).2.2.1 ((sI_f eσ103) 9 36 rfl).2.2.1
                    refine lv_aload_n hx hb dX9_isPlay_163 rfl (lv_at hl 1 rfl) ?_
                    refine lv_aload_n hx hb dX9_isPlay_164 rfl (lv_at hl 1 rfl) ?_
                    refine g9_36 hx hb hts hown hK hP (hts _ q1396) dX9_isPlay_165 ?_
                    refine lv_iload_n hx hb dX9_isPlay_168 rfl (lv_at hl 0 rfl) ?_
                    obtain ⟨x107, ex107⟩ : ∃ z, (σ2 9).2.2.1 36 (y28.2.1 0).toInt.toNat = z := ⟨_, rfl⟩
                    refine l9_36 (x := x107) hx hb hK hP (vpo (by have f0 := b32; have f1 := k76; have f2 := a9_24 hJ (j := 0) rfl; have g0 := rg32 (y28.2.1 0); omega)) ((congrFun ((((sI_f eσ103) 9 36 rfl).2.2.1).trans ((((sL_f eσ84) 9 36 rfl).2.2.1).trans (((hF30 9 36 rfl).2.2.1).trans ((((sL_f eσ22) 9 36 rfl).2.2.1).trans ((((sI_f eσ15) 9 36 rfl).2.2.1).trans (((sI_f eσ12) 9 36 rfl).2.2.1)))))) _).trans ex107) dX9_isPlay_169 ?_
                    refine p9_40 hx hb hts hown hK hP hD hS (hts _ q1400) dX9_isPlay_170 (fun H locs σ108 eσ108 hP hS => ?_)
                    have hJ109 : J9 (σ108 9) := hJ104.I eσ108 (show JI9 40 x107 from trivial)
                    have T110 : GB (σ108 9) := GB.mv T105 ((sI_f eσ108) 9 28 rfl).1 ((sI_f eσ108) 9 30 rfl).1 ((sI_f eσ108) 9 31 rfl).1 ((sI_f eσ108) 9 18 rfl).2.2.1 ((sI_f eσ108) 9 24 rfl).2.2.1 ((sI_f eσ108) 9 25 rfl).2.2.1 ((sI_f eσ108) 9 26 rfl).2.2.1 ((sI_f eσ108) 9 27 rfl).2.2.1 ((sI_f eσ108) 9 33 rfl).2.2.1 ((sI_f eσ108) 9 34 rfl).2.2.1 ((sI_f eσ108) 9 35 rfl).2.2.1 ((sI_f eσ108) 9 36 rfl).2.2.1
                    refine lv_aload_n hx hb dX9_isPlay_173 rfl (lv_at hl 1 rfl) ?_
                    refine g9_38 hx hb hts hown hK hP (hts _ q1398) dX9_isPlay_174 ?_
                    refine lv_iconst (v := 0) hx hb dX9_isPlay_177 (by decide) ?_
                    refine lv_iload_n hx hb dX9_isPlay_178 rfl (lv_at hl 0 rfl) ?_
                    refine t9_38 hx hb hK hP hD hS (vpi (by decide)) dX9_isPlay_179 (fun H locs σ111 eσ111 hP hS => ?_)
                    have hJ112 : J9 (σ111 9) := hJ109.A eσ111 (show PA9 38 (0 : Int32).toInt.toNat (y28.2.1 0) from (by have f0 := b32; have f1 := k76; have f2 := a9_24 hJ (j := 0) rfl; have g0 := rg32 (y28.2.1 0); have z0 : (0 : Int32).toInt = 0 := (by decide); exact ⟨by omega, by omega⟩))
                    have T113 : GB (σ111 9) := GB.mv T110 ((sA_f eσ111) 9 28 rfl).1 ((sA_f eσ111) 9 30 rfl).1 ((sA_f eσ111) 9 31 rfl).1 ((sA_f eσ111) 9 18 rfl).2.2.1 ((sA_f eσ111) 9 24 rfl).2.2.1 ((sA_f eσ111) 9 25 rfl).2.2.1 ((sA_f eσ111) 9 26 rfl).2.2.1 ((sA_f eσ111) 9 27 rfl).2.2.1 ((sA_f eσ111) 9 33 rfl).2.2.1 ((sA_f eσ111) 9 34 rfl).2.2.1 ((sA_f eσ111) 9 35 rfl).2.2.1 ((sA_f eσ111) 9 36 rfl).2.2.1
                    have T114 : BP (σ111 9) := Or.inr (Or.inr (CH.of (x := (y28.2.1 0)) (by rw [sA_s eσ111]; exact pk_us) (by rw [show ((σ111 9).2.2.1 24 0) = ((σ 9).2.2.1 24 0) from congrFun ((((sA_f eσ111) 9 24 rfl).2.2.1).trans ((((sI_f eσ108) 9 24 rfl).2.2.1).trans ((((sI_f eσ103) 9 24 rfl).2.2.1).trans ((((sL_f eσ84) 9 24 rfl).2.2.1).trans (((hF30 9 24 rfl).2.2.1).trans ((((sL_f eσ22) 9 24 rfl).2.2.1).trans ((((sI_f eσ15) 9 24 rfl).2.2.1).trans ((((sI_f eσ12) 9 24 rfl).2.2.1).trans ((hF4 9 24 rfl).2.2.1))))))))) _]; exact (by have f0 := a9_24 hJ (j := 0) rfl; have f1 := b32; have f2 := k76; have g1 := rg32 (y28.2.1 0); omega)) (fun q => c89 (by rw [← ((congrFun ((((sA_f eσ111) 9 35 rfl).2.2.1).trans ((((sI_f eσ108) 9 35 rfl).2.2.1).trans ((((sI_f eσ103) 9 35 rfl).2.2.1).trans ((((sL_f eσ84) 9 35 rfl).2.2.1).trans (((hF30 9 35 rfl).2.2.1).trans ((((sL_f eσ22) 9 35 rfl).2.2.1).trans ((((sI_f eσ15) 9 35 rfl).2.2.1).trans (((sI_f eσ12) 9 35 rfl).2.2.1)))))))) _).trans ex88)]; rw [show (y28.2.1 0).toInt.toNat = 88 * 0 + (y28.2.1 0).toInt.toNat by omega]; exact q))))
                    obtain ⟨x115, ex115⟩ : ∃ y : Int32, y = (y28.2.1 0) + 1 := ⟨_, rfl⟩
                    have t116 := addO ex115 (by have f0 := b32; have f1 := k76; have f2 := a9_24 hJ (j := 0) rfl; have g0 := rg32 (y28.2.1 0); have z1 : (1 : Int32).toInt = 1 := (by decide); omega)
                    refine lv_iinc (v := x115) (lv' := [(1, .int x115), (0, .ref (g 60))]) hx hb dX9_isPlay_180 hl (k := 0) rfl (by rw [ex115]; rfl) (by decide) rfl (fun ls hl => ?_)
                    refine lv_goto (tgt := 44) hx hb dX9_isPlay_183 (by decide) ?_
                    have t117 : ((89 : Int) - x115.toInt).toNat < ((89 : Int) - (y28.2.1 0).toInt).toNat := (by have f0 := b32; have f1 := k76; have f2 := t116; have f3 := a9_24 hJ (j := 0) rfl; have g0 := rg32 (y28.2.1 0); have g1 := rg32 x115; have z1 : (1 : Int32).toInt = 1 := (by decide); omega)
                    exact nl26 (σ111, lf [x115], lg []) ⟨Fr.tr (Fr.tr (Fr.tr (Fr.tr (Fr.tr (Fr.rf) hF30 (fL_sub rfl)) (sL_f eσ84) (fN_L rfl)) (sI_f eσ103) (fN_L rfl)) (sI_f eσ108) (fN_L rfl)) (sA_f eσ111) (fN_L rfl), hJ112, (show (0 : Int) ≤ (x115 : Int32).toInt ∧ (x115 : Int32).toInt ≤ 88 from (by have f0 := t116; have f1 := b32; have f2 := k76; have f3 := a9_24 hJ (j := 0) rfl; have g0 := rg32 x115; have z1 : (1 : Int32).toInt = 1 := (by decide); omega)), (show GB (σ111 9) from T113), (show BP (σ111 9) from T114), trivial⟩ (show ((89 : Int) - x115.toInt).toNat < _ from by first | exact t117 | (rw [← eσ29]; exact t117)) _ _ _ hP hS (lv_sub hl [0, 1] rfl)
                  ·
                    have k118 := peq32 c101
                    refine lv_aload_n hx hb dX9_isPlay_137 rfl (lv_at hl 1 rfl) ?_
                    refine g9_36 hx hb hts hown hK hP (hts _ q1396) dX9_isPlay_138 ?_
                    refine lv_iload_n hx hb dX9_isPlay_141 rfl (lv_at hl 0 rfl) ?_
                    obtain ⟨x119, ex119⟩ : ∃ z, (σ2 9).2.2.1 36 (y28.2.1 0).toInt.toNat = z := ⟨_, rfl⟩
                    refine l9_36 (x := x119) hx hb hK hP (vpo (by have f0 := b32; have f1 := k76; have f2 := a9_24 hJ (j := 0) rfl; have g0 := rg32 (y28.2.1 0); omega)) ((congrFun ((((sL_f eσ84) 9 36 rfl).2.2.1).trans (((hF30 9 36 rfl).2.2.1).trans ((((sL_f eσ22) 9 36 rfl).2.2.1).trans ((((sI_f eσ15) 9 36 rfl).2.2.1).trans (((sI_f eσ12) 9 36 rfl).2.2.1))))) _).trans ex119) dX9_isPlay_142 ?_
                    refine lv_aload_n hx hb dX9_isPlay_143 rfl (lv_at hl 1 rfl) ?_
                    refine g9_40 (x := ((σ29 9).1 40)) hx hb hts hown hK hP (((sL_f eσ84) 9 40 rfl).1) (hts _ q1400) dX9_isPlay_144 ?_
                    refine lv_icmp_lt (tgt := 153) hx hb dX9_isPlay_147 (by decide) (fun c120 => ?_) (fun c120 => ?_)
                    ·
                      have k121 := plt32 c120
                      refine lv_aload_n hx hb dX9_isPlay_153 rfl (lv_at hl 1 rfl) ?_
                      refine lv_aload_n hx hb dX9_isPlay_154 rfl (lv_at hl 1 rfl) ?_
                      refine g9_35 hx hb hts hown hK hP (hts _ q1395) dX9_isPlay_155 ?_
                      refine lv_iload_n hx hb dX9_isPlay_158 rfl (lv_at hl 0 rfl) ?_
                      refine l9_35 (x := x88) hx hb hK hP (vpo (by have f0 := b32; have f1 := k76; have f2 := a9_24 hJ (j := 0) rfl; have g0 := rg32 (y28.2.1 0); omega)) ((congrFun ((((sL_f eσ84) 9 35 rfl).2.2.1).trans (((hF30 9 35 rfl).2.2.1).trans ((((sL_f eσ22) 9 35 rfl).2.2.1).trans ((((sI_f eσ15) 9 35 rfl).2.2.1).trans (((sI_f eσ12) 9 35 rfl).2.2.1))))) _).trans ex88) dX9_isPlay_159 ?_
                      refine p9_39 hx hb hts hown hK hP hD hS (hts _ q1399) dX9_isPlay_160 (fun H locs σ122 eσ122 hP hS => ?_)
                      have hJ123 : J9 (σ122 9) := hJ85.I eσ122 (show JI9 39 x88 from trivial)
                      have T124 : GB (σ122 9) := GB.mv T86 ((sI_f eσ122) 9 28 rfl).1 ((sI_f eσ122) 9 30 rfl).1 ((sI_f eσ122) 9 31 rfl).1 ((sI_f eσ122) 9 18 rfl).2.2.1 ((sI_f eσ122) 9 24 rfl).2.2.1 ((sI_f eσ122) 9 25 rfl).2.2.1 ((sI_f eσ122) 9 26 rfl).2.2.1 ((sI_f eσ122) 9 27 rfl).2.2.1 ((sI_f eσ122) 9 33 rfl).2.2.1 ((sI_f eσ122) 9 34 rfl).2.2.1 ((sI_f eσ122) 9 35 rfl).2.2.1 ((sI_f eσ122) 9 36 rfl).2.2.1
                      refine lv_aload_n hx hb dX9_isPlay_163 rfl (lv_at hl 1 rfl) ?_
                      refine lv_aload_n hx hb dX9_isPlay_164 rfl (lv_at hl 1 rfl) ?_
                      refine g9_36 hx hb hts hown hK hP (hts _ q1396) dX9_isPlay_165 ?_
                      refine lv_iload_n hx hb dX9_isPlay_168 rfl (lv_at hl 0 rfl) ?_
                      refine l9_36 (x := x119) hx hb hK hP (vpo (by have f0 := b32; have f1 := k76; have f2 := a9_24 hJ (j := 0) rfl; have g0 := rg32 (y28.2.1 0); omega)) ((congrFun ((((sI_f eσ122) 9 36 rfl).2.2.1).trans ((((sL_f eσ84) 9 36 rfl).2.2.1).trans (((hF30 9 36 rfl).2.2.1).trans ((((sL_f eσ22) 9 36 rfl).2.2.1).trans ((((sI_f eσ15) 9 36 rfl).2.2.1).trans (((sI_f eσ12) 9 36 rfl).2.2.1)))))) _).trans ex119) dX9_isPlay_169 ?_
                      refine p9_40 hx hb hts hown hK hP hD hS (hts _ q1400) dX9_isPlay_170 (fun H locs σ126 eσ126 hP hS => ?_)
                      have hJ127 : J9 (σ126 9) := hJ123.I eσ126 (show JI9 40 x119 from trivial)
                      have T128 : GB (σ126 9) := GB.mv T124 ((sI_f eσ126) 9 28 rfl).1 ((sI_f eσ126) 9 30 rfl).1 ((sI_f eσ126) 9 31 rfl).1 ((sI_f eσ126) 9 18 rfl).2.2.1 ((sI_f eσ126) 9 24 rfl).2.2.1 ((sI_f eσ126) 9 25 rfl).2.2.1 ((sI_f eσ126) 9 26 rfl).2.2.1 ((sI_f eσ126) 9 27 rfl).2.2.1 ((sI_f eσ126) 9 33 rfl).2.2.1 ((sI_f eσ126) 9 34 rfl).2.2.1 ((sI_f eσ126) 9 35 rfl).2.2.1 ((sI_f eσ126) 9 36 rfl).2.2.1
                      refine lv_aload_n hx hb dX9_isPlay_173 rfl (lv_at hl 1 rfl) ?_
                      refine g9_38 hx hb hts hown hK hP (hts _ q1398) dX9_isPlay_174 ?_
                      refine lv_iconst (v := 0) hx hb dX9_isPlay_177 (by decide) ?_
                      refine lv_iload_n hx hb dX9_isPlay_178 rfl (lv_at hl 0 rfl) ?_
                      refine t9_38 hx hb hK hP hD hS (vpi (by decide)) dX9_isPlay_179 (fun H locs σ129 eσ129 hP hS => ?_)
                      have hJ130 : J9 (σ129 9) := hJ127.A eσ129 (show PA9 38 (0 : Int32).toInt.toNat (y28.2.1 0) from (by have f0 := b32; have f1 := k76; have f2 := a9_24 hJ (j := 0) rfl; have g0 := rg32 (y28.2.1 0); have z0 : (0 : Int32).toInt = 0 := (by decide); exact ⟨by omega, by omega⟩))
                      have T131 : GB (σ129 9) := GB.mv T128 ((sA_f eσ129) 9 28 rfl).1 ((sA_f eσ129) 9 30 rfl).1 ((sA_f eσ129) 9 31 rfl).1 ((sA_f eσ129) 9 18 rfl).2.2.1 ((sA_f eσ129) 9 24 rfl).2.2.1 ((sA_f eσ129) 9 25 rfl).2.2.1 ((sA_f eσ129) 9 26 rfl).2.2.1 ((sA_f eσ129) 9 27 rfl).2.2.1 ((sA_f eσ129) 9 33 rfl).2.2.1 ((sA_f eσ129) 9 34 rfl).2.2.1 ((sA_f eσ129) 9 35 rfl).2.2.1 ((sA_f eσ129) 9 36 rfl).2.2.1
                      have T132 : BP (σ129 9) := Or.inr (Or.inr (CH.of (x := (y28.2.1 0)) (by rw [sA_s eσ129]; exact pk_us) (by rw [show ((σ129 9).2.2.1 24 0) = ((σ 9).2.2.1 24 0) from congrFun ((((sA_f eσ129) 9 24 rfl).2.2.1).trans ((((sI_f eσ126) 9 24 rfl).2.2.1).trans ((((sI_f eσ122) 9 24 rfl).2.2.1).trans ((((sL_f eσ84) 9 24 rfl).2.2.1).trans (((hF30 9 24 rfl).2.2.1).trans ((((sL_f eσ22) 9 24 rfl).2.2.1).trans ((((sI_f eσ15) 9 24 rfl).2.2.1).trans ((((sI_f eσ12) 9 24 rfl).2.2.1).trans ((hF4 9 24 rfl).2.2.1))))))))) _]; exact (by have f0 := a9_24 hJ (j := 0) rfl; have f1 := b32; have f2 := k76; have g1 := rg32 (y28.2.1 0); omega)) (fun q => c89 (by rw [← ((congrFun ((((sA_f eσ129) 9 35 rfl).2.2.1).trans ((((sI_f eσ126) 9 35 rfl).2.2.1).trans ((((sI_f eσ122) 9 35 rfl).2.2.1).trans ((((sL_f eσ84) 9 35 rfl).2.2.1).trans (((hF30 9 35 rfl).2.2.1).trans ((((sL_f eσ22) 9 35 rfl).2.2.1).trans ((((sI_f eσ15) 9 35 rfl).2.2.1).trans (((sI_f eσ12) 9 35 rfl).2.2.1)))))))) _).trans ex88)]; rw [show (y28.2.1 0).toInt.toNat = 88 * 0 + (y28.2.1 0).toInt.toNat by omega]; exact q))))
                      obtain ⟨x133, ex133⟩ : ∃ y : Int32, y = (y28.2.1 0) + 1 := ⟨_, rfl⟩
                      have t134 := addO ex133 (by have f0 := b32; have f1 := k76; have f2 := a9_24 hJ (j := 0) rfl; have g0 := rg32 (y28.2.1 0); have z1 : (1 : Int32).toInt = 1 := (by decide); omega)
                      refine lv_iinc (v := x133) (lv' := [(1, .int x133), (0, .ref (g 60))]) hx hb dX9_isPlay_180 hl (k := 0) rfl (by rw [ex133]; rfl) (by decide) rfl (fun ls hl => ?_)
                      refine lv_goto (tgt := 44) hx hb dX9_isPlay_183 (by decide) ?_
                      have t135 : ((89 : Int) - x133.toInt).toNat < ((89 : Int) - (y28.2.1 0).toInt).toNat := (by have f0 := b32; have f1 := k76; have f2 := t134; have f3 := a9_24 hJ (j := 0) rfl; have g0 := rg32 (y28.2.1 0); have g1 := rg32 x133; have z1 : (1 : Int32).toInt = 1 := (by decide); omega)
                      exact nl26 (σ129, lf [x133], lg []) ⟨Fr.tr (Fr.tr (Fr.tr (Fr.tr (Fr.tr (Fr.rf) hF30 (fL_sub rfl)) (sL_f eσ84) (fN_L rfl)) (sI_f eσ122) (fN_L rfl)) (sI_f eσ126) (fN_L rfl)) (sA_f eσ129) (fN_L rfl), hJ130, (show (0 : Int) ≤ (x133 : Int32).toInt ∧ (x133 : Int32).toInt ≤ 88 from (by have f0 := t134; have f1 := b32; have f2 := k76; have f3 := a9_24 hJ (j := 0) rfl; have g0 := rg32 x133; have z1 : (1 : Int32).toInt = 1 := (by decide); omega)), (show GB (σ129 9) from T131), (show BP (σ129 9) from T132), trivial⟩ (show ((89 : Int) - x133.toInt).toNat < _ from by first | exact t135 | (rw [← eσ29]; exact t135)) _ _ _ hP hS (lv_sub hl [0, 1] rfl)
                    ·
                      have k136 := nlt32 c120
                      refine lv_goto (tgt := 180) hx hb dX9_isPlay_150 (by decide) ?_
                      obtain ⟨x137, ex137⟩ : ∃ y : Int32, y = (y28.2.1 0) + 1 := ⟨_, rfl⟩
                      have t138 := addO ex137 (by have f0 := b32; have f1 := k76; have f2 := a9_24 hJ (j := 0) rfl; have g0 := rg32 (y28.2.1 0); have z1 : (1 : Int32).toInt = 1 := (by decide); omega)
                      refine lv_iinc (v := x137) (lv' := [(1, .int x137), (0, .ref (g 60))]) hx hb dX9_isPlay_180 hl (k := 0) rfl (by rw [ex137]; rfl) (by decide) rfl (fun ls hl => ?_)
                      refine lv_goto (tgt := 44) hx hb dX9_isPlay_183 (by decide) ?_
                      have t139 : ((89 : Int) - x137.toInt).toNat < ((89 : Int) - (y28.2.1 0).toInt).toNat := (by have f0 := b32; have f1 := k76; have f2 := t138; have f3 := a9_24 hJ (j := 0) rfl; have g0 := rg32 (y28.2.1 0); have g1 := rg32 x137; have z1 : (1 : Int32).toInt = 1 := (by decide); omega)
                      exact nl26 (σ84, lf [x137], lg []) ⟨Fr.tr (Fr.tr (Fr.rf) hF30 (fL_sub rfl)) (sL_f eσ84) (fN_L rfl), hJ85, (show (0 : Int) ≤ (x137 : Int32).toInt ∧ (x137 : Int32).toInt ≤ 88 from (by have f0 := t138; have f1 := b32; have f2 := k76; have f3 := a9_24 hJ (j := 0) rfl; have g0 := rg32 x137; have z1 : (1 : Int32).toInt = 1 := (by decide); omega)), (show GB (σ84 9) from T86), (show BP (σ84 9) from T87), trivial⟩ (show ((89 : Int) - x137.toInt).toNat < _ from by first | exact t139 | (rw [← eσ29]; exact t139)) _ _ _ hP hS (lv_sub hl [0, 1] rfl)
            ·
              intro nj79
              refine lv_if_le (tgt := 86) hx hb dX9_isPlay_77 (by decide) (fun c140 => ?_) (fun c140 => ?_)
              ·
                have k141 := ple64 ((lg_cmp_le x78 (1000000000 : Int64)).mp c140)
                refine lv_aload_n hx hb dX9_isPlay_86 rfl (lv_at hl 1 rfl) ?_
                refine g9_41 (x := ((σ29 9).2.1 41)) hx hb hts hown hK hP (rfl) (hts _ q1401) dX9_isPlay_87 ?_
                refine lv_aload_n hx hb dX9_isPlay_90 rfl (lv_at hl 1 rfl) ?_
                refine g9_37 hx hb hts hown hK hP (hts _ q1397) dX9_isPlay_91 ?_
                refine lv_iload_n hx hb dX9_isPlay_94 rfl (lv_at hl 0 rfl) ?_
                refine l9_37 (x := x77) hx hb hK hP (vpo (by have f0 := b32; have f1 := k76; have f2 := a9_24 hJ (j := 0) rfl; have g0 := rg32 (y28.2.1 0); omega)) ((congrFun (((hF30 9 37 rfl).2.2.2).trans ((((sL_f eσ22) 9 37 rfl).2.2.2).trans ((((sI_f eσ15) 9 37 rfl).2.2.2).trans (((sI_f eσ12) 9 37 rfl).2.2.2)))) _).trans ex77) dX9_isPlay_95 ?_
                refine lv_ladd hx hb dX9_isPlay_96 ?_
                refine lv_topl (fun x142 ex142 => ?_)
                exact nj79 (σ29, lf [], lg [x142]) ⟨rfl, (show GB (σ29 9) from b33), (show BP (σ29 9) from b34), trivial⟩ _ _ _ hP hS (lv_sub hl [0, 1] rfl)
              ·
                have k143 := nle64 (fun q => c140 ((lg_cmp_le x78 (1000000000 : Int64)).mpr q))
                refine lv_ldc2 (v := 1000000001) hx hb hown (hts _ q1867) dX9_isPlay_80 ?_
                refine lv_goto (tgt := 97) hx hb dX9_isPlay_83 (by decide) ?_
                exact nj79 (σ29, lf [], lg [1000000001]) ⟨rfl, (show GB (σ29 9) from b33), (show BP (σ29 9) from b34), trivial⟩ _ _ _ hP hS (lv_sub hl [0, 1] rfl)
    ·
      intro nj18
      refine lv_if_ne (tgt := 38) hx hb dX9_isPlay_31 (by decide) (fun c144 => ?_) (fun c144 => ?_)
      ·
        have k145 := neq32 c144
        refine lv_lconst (v := 0) hx hb dX9_isPlay_38 (by decide) ?_
        exact nj18 (σ15, lf [], lg [0]) ⟨rfl, (show GB (σ15 9) from T17), trivial⟩ _ _ _ hP hS (lv_sub hl [0] rfl)
      ·
        have k146 := peq32 c144
        refine lv_lconst (v := 1) hx hb dX9_isPlay_34 (by decide) ?_
        refine lv_goto (tgt := 39) hx hb dX9_isPlay_35 (by decide) ?_
        exact nj18 (σ15, lf [], lg [1]) ⟨rfl, (show GB (σ15 9) from T17), trivial⟩ _ _ _ hP hS (lv_sub hl [0] rfl)
  ·
    intro nj6
    refine lv_if_ne (tgt := 16) hx hb dX9_isPlay_9 (by decide) (fun c147 => ?_) (fun c147 => ?_)
    ·
      have k148 := neq32 c147
      refine lv_ldc (v := 1000000) hx hb hown (hts _ q1604) dX9_isPlay_16 ?_
      exact nj6 (σ2, lf [1000000], lg []) ⟨rfl, (show (0 : Int) ≤ (1000000 : Int32).toInt ∧ (1000000 : Int32).toInt ≤ 1000000 from (by have z1000000 : (1000000 : Int32).toInt = 1000000 := (by decide); omega)), (show (((σ2 9).1 31).toInt = 0 ∧ (1000000 : Int32).toInt = 0) ∨ (1000000 : Int32).toInt = 1000000 from (by have f0 := j9_31 hJ5 rfl; have f1 := congrArg Int32.toInt (show ((σ2 9).1 31) = ((σ 9).1 31) from (hF4 9 31 rfl).1); have f2 := j9_31 hJ rfl; have f3 := k148; have z0 : (0 : Int32).toInt = 0 := (by decide); have z1000000 : (1000000 : Int32).toInt = 1000000 := (by decide); omega)), (show GB (σ2 9) from hw3.2.2.1), trivial⟩ _ _ _ hP hS (lv_sub hl [0] rfl)
    ·
      have k149 := peq32 c147
      refine lv_iconst (v := 0) hx hb dX9_isPlay_12 (by decide) ?_
      refine lv_goto (tgt := 18) hx hb dX9_isPlay_13 (by decide) ?_
      exact nj6 (σ2, lf [0], lg []) ⟨rfl, (show (0 : Int) ≤ (0 : Int32).toInt ∧ (0 : Int32).toInt ≤ 1000000 from (by have z0 : (0 : Int32).toInt = 0 := (by decide); omega)), (show (((σ2 9).1 31).toInt = 0 ∧ (0 : Int32).toInt = 0) ∨ (0 : Int32).toInt = 1000000 from (by have f0 := j9_31 hJ5 rfl; have f1 := congrArg Int32.toInt (show ((σ2 9).1 31) = ((σ 9).1 31) from (hF4 9 31 rfl).1); have f2 := j9_31 hJ rfl; have f3 := k149; have z0 : (0 : Int32).toInt = 0 := (by decide); omega)), (show GB (σ2 9) from hw3.2.2.1), trivial⟩ _ _ _ hP hS (lv_sub hl [0] rfl)

