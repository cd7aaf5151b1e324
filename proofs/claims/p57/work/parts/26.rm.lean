theorem q1696 : Cond.code yX9_copyRow cX9_copyRow 5 none ∈ lw_g := lw_gm (List.mem_of_getElem? (i := 1696) (by decide +kernel)) rfl
theorem dX9_copyRow_0 : decode cX9_copyRow 0 = .ok (.iconst 0, 1) := by decide +kernel
theorem dX9_copyRow_1 : decode cX9_copyRow 1 = .ok (.istore 4, 2) := by decide +kernel
theorem dX9_copyRow_3 : decode cX9_copyRow 3 = .ok (.iload 4, 2) := by decide +kernel
theorem dX9_copyRow_5 : decode cX9_copyRow 5 = .ok (.iload_n 1, 1) := by decide +kernel
theorem dX9_copyRow_6 : decode cX9_copyRow 6 = .ok (.if_icmp .ge 25, 3) := by decide +kernel
theorem dX9_copyRow_9 : decode cX9_copyRow 9 = .ok (.aload_n 0, 1) := by decide +kernel
theorem dX9_copyRow_10 : decode cX9_copyRow 10 = .ok (.iload_n 1, 1) := by decide +kernel
theorem dX9_copyRow_11 : decode cX9_copyRow 11 = .ok (.iload_n 3, 1) := by decide +kernel
theorem dX9_copyRow_12 : decode cX9_copyRow 12 = .ok (.imul, 1) := by decide +kernel
theorem dX9_copyRow_13 : decode cX9_copyRow 13 = .ok (.iload 4, 2) := by decide +kernel
theorem dX9_copyRow_15 : decode cX9_copyRow 15 = .ok (.iadd, 1) := by decide +kernel
theorem dX9_copyRow_16 : decode cX9_copyRow 16 = .ok (.aload_n 0, 1) := by decide +kernel
theorem dX9_copyRow_17 : decode cX9_copyRow 17 = .ok (.iload_n 1, 1) := by decide +kernel
theorem dX9_copyRow_18 : decode cX9_copyRow 18 = .ok (.iload_n 2, 1) := by decide +kernel
theorem dX9_copyRow_19 : decode cX9_copyRow 19 = .ok (.imul, 1) := by decide +kernel
theorem dX9_copyRow_20 : decode cX9_copyRow 20 = .ok (.iload 4, 2) := by decide +kernel
theorem dX9_copyRow_22 : decode cX9_copyRow 22 = .ok (.iadd, 1) := by decide +kernel
theorem dX9_copyRow_23 : decode cX9_copyRow 23 = .ok (.iaload, 1) := by decide +kernel
theorem dX9_copyRow_24 : decode cX9_copyRow 24 = .ok (.iastore, 1) := by decide +kernel
theorem dX9_copyRow_25 : decode cX9_copyRow 25 = .ok (.iinc 4 1, 3) := by decide +kernel
theorem dX9_copyRow_28 : decode cX9_copyRow 28 = .ok (.goto (-25), 3) := by decide +kernel
theorem dX9_copyRow_31 : decode cX9_copyRow 31 = .ok (.return_, 1) := by decide +kernel
set_option maxHeartbeats 4000000 in
set_option maxRecDepth 100000 in
theorem m_X9_copyRow_16_c1 (l : Launch) (D : va_G) (cy : Nat → ClassId) (g : Nat → Nat) (σ : ST) (p2 : Int32) (p3 : Int32) (sz : Nat) (hJ : J9 (σ 9)) (h0 : (0 : Int) ≤ p2.toInt ∧ p2.toInt ≤ 4) (h1 : (0 : Int) ≤ p3.toInt ∧ p3.toInt ≤ 4) (h2 : ¬ p2.toInt = p3.toInt) : Met l yX9_copyRow (ww yX9_copyRow cX9_copyRow 5 none) ({ frames := 1, cells := 0, slots := 0, locals := 64 }) (va_Pc [.ref (g 16), .int 1, .int p2, .int p3] (pr9 D cy g σ sz)) (qv9 D cy g sz (fun τ => Fr (fL [16]) σ τ ∧ J9 (τ 9) ∧ (CR (((τ 9)).2.2.1 16) (((σ 9)).2.2.1 16) 1 p2.toInt.toNat p3.toInt.toNat 1) ∧ True)) 0 0 (A9 cy g sz) := by
  refine Met.ofW (cc := cX9_copyRow) (maxL := 5) (ret := none) (by decide) rfl ?_
  intro p e s m args below meth c s₁ B hml hv
  obtain ⟨rfl, hsz, hP, hK, hD0, hC⟩ := hv
  have hx := B.exec
  have hb := B.bytes
  have hr := B.returns
  have hts := hts_g (atoms_spec (ws := ww yX9_copyRow cX9_copyRow 5 none) B.pre)
  have hown : s.vm.findClass RX9 = some m.cls := findClass_of_methodNamed B.named
  have hlocks := B.notSynchronized
  clear B
  subst hsz
  have hD := fun τ => A9_D (sz := s.heap.size) hD0 τ
  clear hD0
  have hS : va_S (A9 cy g s.heap.size) s.heap s.heap [] := va_S.rf
  have hl := lv_entry ([.ref (g 16), .int 1, .int p2, .int p3]) (n := 5) (Nat.le_of_ble_eq_true rfl)
  rw [lg_entry_eq]
  generalize (lg_sl ([.ref (g 16), .int 1, .int p2, .int p3]) ++ List.replicate (5 - (lg_sl ([.ref (g 16), .int 1, .int p2, .int p3])).length) Slot.unset).toArray = ls at hl ⊢
  have hl : lv_has ls 5 [(0, .ref (g 16)), (1, .int 1), (2, .int p2), (3, .int p3)] := hl
  refine lv_iconst (v := 0) hx hb dX9_copyRow_0 (by decide) ?_
  refine lv_istore (lv' := [(4, .int 0), (0, .ref (g 16)), (1, .int 1), (2, .int p2), (3, .int p3)]) hx hb dX9_copyRow_1 hl (by decide) rfl (fun ls hl => ?_)
  refine loop9 5 3 (fun x : LZ => [(4, .int (x.2.1 0)), (0, .ref (g 16)), (1, .int 1), (2, .int p2), (3, .int p3)]) (fun x : LZ => (Fr (fL [16]) σ x.1) ∧ (J9 (x.1 9)) ∧ ((0 : Int) ≤ (x.2.1 0).toInt ∧ (x.2.1 0).toInt ≤ 1) ∧ (CR ((x.1 9).2.2.1 16) ((σ 9).2.2.1 16) 1 p2.toInt.toNat p3.toInt.toNat (x.2.1 0).toInt.toNat) ∧ True) (fun x : LZ => ((2 : Int) - (x.2.1 0).toInt).toNat) ?_ (σ, lf [0], lg []) ⟨Fr.rf, hJ, (show (0 : Int) ≤ (0 : Int32).toInt ∧ (0 : Int32).toInt ≤ 1 from (by have z0 : (0 : Int32).toInt = 0 := (by decide); omega)), (show CR ((σ 9).2.2.1 16) ((σ 9).2.2.1 16) 1 p2.toInt.toNat p3.toInt.toNat (0 : Int32).toInt.toNat from (by rw [show (0 : Int32).toInt.toNat = 0 by decide]; exact CR.nil)), trivial⟩ _ _ _ hP hS (lv_sub hl [0, 1, 2, 3, 4] rfl)
  intro y3 hI2 nl1 H locs ls hP hS hl
  obtain ⟨σ4, eσ4⟩ : ∃ z, z = y3.1 := ⟨_, rfl⟩
  rw [← eσ4] at hP hI2
  have hF5 : Fr (fL [16]) σ σ4 := hI2.1
  have hJ6 : J9 (σ4 9) := hI2.2.1
  have b7 : (0 : Int) ≤ (y3.2.1 0).toInt ∧ (y3.2.1 0).toInt ≤ 1 := hI2.2.2.1
  have b8 : CR ((σ4 9).2.2.1 16) ((σ 9).2.2.1 16) 1 p2.toInt.toNat p3.toInt.toNat (y3.2.1 0).toInt.toNat := hI2.2.2.2.1
  have hl : lv_has ls 5 [(4, .int (y3.2.1 0)), (0, .ref (g 16)), (1, .int 1), (2, .int p2), (3, .int p3)] := hl
  refine lv_iload hx hb dX9_copyRow_3 (lv_at hl 0 rfl) ?_
  refine lv_iload_n hx hb dX9_copyRow_5 rfl (lv_at hl 2 rfl) ?_
  refine lv_icmp_ge (tgt := 31) hx hb dX9_copyRow_6 (by decide) (fun c9 => ?_) (fun c9 => ?_)
  ·
    have k10 := ple32 c9
    exact W.vret hx hb hr (fun tS ht hW => ⟨⟨σ4, rfl, ⟨Fr.tr (Fr.rf) hF5 (fL_sub rfl), hJ6, (show CR (((σ4 9)).2.2.1 16) (((σ 9)).2.2.1 16) 1 p2.toInt.toNat p3.toInt.toNat 1 from (by have h := b8; rw [show (y3.2.1 0).toInt.toNat = 1 from (by have f0 := b7; have f1 := k10; have g0 := rg32 (y3.2.1 0); have z1 : (1 : Int32).toInt = 1 := (by decide); omega)] at h; exact h)), trivial⟩, (show va_P D clz (WD9 cy g σ4) tS.heap by rw [ht]; exact hP)⟩, hS.F ht⟩) hS.2.2 dX9_copyRow_31
  ·
    have k11 := nle32 c9
    refine lv_aload_n hx hb dX9_copyRow_9 rfl (lv_at hl 1 rfl) ?_
    refine lv_iload_n hx hb dX9_copyRow_10 rfl (lv_at hl 2 rfl) ?_
    refine lv_iload_n hx hb dX9_copyRow_11 rfl (lv_at hl 4 rfl) ?_
    refine lv_imul hx hb dX9_copyRow_12 ?_
    refine lv_topi (fun x12 ex12 => ?_)
    have t13 := mulC' (n := 1) ex12 (by decide) (by have f0 := h1; have f1 := h2; have f2 := h0; have g0 := rg32 p3; omega)
    refine lv_iload hx hb dX9_copyRow_13 (lv_at hl 0 rfl) ?_
    refine lv_iadd hx hb dX9_copyRow_15 ?_
    refine lv_topi (fun x14 ex14 => ?_)
    have t15 := addO ex14 (by have f0 := b7; have f1 := k11; have f2 := t13; have f3 := h1; have f4 := h2; have f5 := h0; have g0 := rg32 (y3.2.1 0); have g1 := rg32 x12; have z1 : (1 : Int32).toInt = 1 := (by decide); omega)
    refine lv_aload_n hx hb dX9_copyRow_16 rfl (lv_at hl 1 rfl) ?_
    refine lv_iload_n hx hb dX9_copyRow_17 rfl (lv_at hl 2 rfl) ?_
    refine lv_iload_n hx hb dX9_copyRow_18 rfl (lv_at hl 3 rfl) ?_
    refine lv_imul hx hb dX9_copyRow_19 ?_
    refine lv_topi (fun x16 ex16 => ?_)
    have t17 := mulC' (n := 1) ex16 (by decide) (by have f0 := h0; have f1 := h2; have f2 := h1; have f3 := t13; have f4 := t15; have f5 := b7; have f6 := k11; have g0 := rg32 p2; have z1 : (1 : Int32).toInt = 1 := (by decide); omega)
    refine lv_iload hx hb dX9_copyRow_20 (lv_at hl 0 rfl) ?_
    refine lv_iadd hx hb dX9_copyRow_22 ?_
    refine lv_topi (fun x18 ex18 => ?_)
    have t19 := addO ex18 (by have f0 := b7; have f1 := k11; have f2 := t15; have f3 := t17; have f4 := h0; have f5 := h2; have f6 := t13; have f7 := h1; have g0 := rg32 (y3.2.1 0); have g1 := rg32 x16; have z1 : (1 : Int32).toInt = 1 := (by decide); omega)
    obtain ⟨x20, ex20⟩ : ∃ z, (σ4 9).2.2.1 16 x18.toInt.toNat = z := ⟨_, rfl⟩
    refine l9_16 (x := x20) hx hb hK hP (vpo (by have f0 := t19; have f1 := b7; have f2 := k11; have f3 := t15; have f4 := t17; have f5 := h0; have f6 := h2; have f7 := t13; have f8 := h1; have g0 := rg32 x18; have z1 : (1 : Int32).toInt = 1 := (by decide); omega)) ex20 dX9_copyRow_23 ?_
    refine t9_16 hx hb hK hP hD hS (vpo (by have f0 := t15; have f1 := b7; have f2 := k11; have f3 := t13; have f4 := t19; have f5 := h1; have f6 := h2; have f7 := t17; have f8 := h0; have g0 := rg32 x14; have z1 : (1 : Int32).toInt = 1 := (by decide); omega)) dX9_copyRow_24 (fun H locs σ21 eσ21 hP hS => ?_)
    have hJ22 : J9 (σ21 9) := hJ6.A eσ21 trivial
    obtain ⟨x23, ex23⟩ : ∃ y : Int32, y = (y3.2.1 0) + 1 := ⟨_, rfl⟩
    have t24 := addO ex23 (by have f0 := b7; have f1 := k11; have f2 := t15; have f3 := t19; have f4 := t13; have f5 := t17; have f6 := h0; have f7 := h1; have f8 := h2; have g0 := rg32 (y3.2.1 0); have z1 : (1 : Int32).toInt = 1 := (by decide); omega)
    refine lv_iinc (v := x23) (lv' := [(4, .int x23), (0, .ref (g 16)), (1, .int 1), (2, .int p2), (3, .int p3)]) hx hb dX9_copyRow_25 hl (k := 0) rfl (by rw [ex23]; rfl) (by decide) rfl (fun ls hl => ?_)
    refine lv_goto (tgt := 3) hx hb dX9_copyRow_28 (by decide) ?_
    have t25 : ((2 : Int) - x23.toInt).toNat < ((2 : Int) - (y3.2.1 0).toInt).toNat := (by have f0 := b7; have f1 := k11; have f2 := t15; have f3 := t19; have f4 := t24; have f5 := t13; have f6 := t17; have f7 := h0; have f8 := h1; have f9 := h2; have g0 := rg32 (y3.2.1 0); have g1 := rg32 x23; have z1 : (1 : Int32).toInt = 1 := (by decide); omega)
    exact nl1 (σ21, lf [x23], lg []) ⟨Fr.tr (Fr.tr (Fr.rf) hF5 (fL_sub rfl)) (sA_f eσ21) (fN_L rfl), hJ22, (show (0 : Int) ≤ (x23 : Int32).toInt ∧ (x23 : Int32).toInt ≤ 1 from (by have f0 := t24; have f1 := b7; have f2 := k11; have f3 := t15; have f4 := t19; have f5 := t13; have f6 := t17; have f7 := h0; have f8 := h1; have f9 := h2; have g0 := rg32 x23; have z1 : (1 : Int32).toInt = 1 := (by decide); omega)), (show CR ((σ21 9).2.2.1 16) ((σ 9).2.2.1 16) 1 p2.toInt.toNat p3.toInt.toNat x23.toInt.toNat from (CR.step b8 (by have f0 := h0; have f1 := h1; have f2 := h2; have f3 := b7; have f4 := k11; have f5 := t13; have f6 := t15; have f7 := t17; have f8 := t19; have f9 := t24; have g0 := rg32 (y3.2.1 0); have g1 := rg32 p2; have g2 := rg32 p3; have g3 := rg32 x14; have g4 := rg32 x18; have g5 := rg32 x23; have z1 : (1 : Int32).toInt = 1 := (by decide); omega) (by have f0 := h0; have f1 := h1; have f2 := h2; have f3 := b7; have f4 := k11; have f5 := t13; have f6 := t15; have f7 := t17; have f8 := t19; have f9 := t24; have g0 := rg32 (y3.2.1 0); have g1 := rg32 p2; have g2 := rg32 p3; have g3 := rg32 x14; have g4 := rg32 x18; have g5 := rg32 x23; have z1 : (1 : Int32).toInt = 1 := (by decide); omega) (by have f0 := h0; have f1 := h1; have f2 := h2; have f3 := b7; have f4 := k11; have f5 := t13; have f6 := t15; have f7 := t17; have f8 := t19; have f9 := t24; have g0 := rg32 (y3.2.1 0); have g1 := rg32 p2; have g2 := rg32 p3; have g3 := rg32 x14; have g4 := rg32 x18; have g5 := rg32 x23; have z1 : (1 : Int32).toInt = 1 := (by decide); omega) (by have f0 := h0; have f1 := h1; have f2 := h2; have f3 := b7; have f4 := k11; have f5 := t13; have f6 := t15; have f7 := t17; have f8 := t19; have f9 := t24; have g0 := rg32 (y3.2.1 0); have g1 := rg32 p2; have g2 := rg32 p3; have g3 := rg32 x14; have g4 := rg32 x18; have g5 := rg32 x23; have z1 : (1 : Int32).toInt = 1 := (by decide); omega) ex20 (sA_s eσ21) (by have f0 := h0; have f1 := h1; have f2 := h2; have f3 := b7; have f4 := k11; have f5 := t13; have f6 := t15; have f7 := t17; have f8 := t19; have f9 := t24; have g0 := rg32 (y3.2.1 0); have g1 := rg32 p2; have g2 := rg32 p3; have g3 := rg32 x14; have g4 := rg32 x18; have g5 := rg32 x23; have z1 : (1 : Int32).toInt = 1 := (by decide); omega))), trivial⟩ (show ((2 : Int) - x23.toInt).toNat < _ from by first | exact t25 | (rw [← eσ4]; exact t25)) _ _ _ hP hS (lv_sub hl [0, 1, 2, 3, 4] rfl)

set_option maxHeartbeats 4000000 in
set_option maxRecDepth 100000 in
theorem m_X9_copyRow_17_c5 (l : Launch) (D : va_G) (cy : Nat → ClassId) (g : Nat → Nat) (σ : ST) (p2 : Int32) (p3 : Int32) (sz : Nat) (hJ : J9 (σ 9)) (h0 : (0 : Int) ≤ p2.toInt ∧ p2.toInt ≤ 4) (h1 : (0 : Int) ≤ p3.toInt ∧ p3.toInt ≤ 4) (h2 : ¬ p2.toInt = p3.toInt) : Met l yX9_copyRow (ww yX9_copyRow cX9_copyRow 5 none) ({ frames := 1, cells := 0, slots := 0, locals := 64 }) (va_Pc [.ref (g 17), .int 5, .int p2, .int p3] (pr9 D cy g σ sz)) (qv9 D cy g sz (fun τ => Fr (fL [17]) σ τ ∧ J9 (τ 9) ∧ (CR (((τ 9)).2.2.1 17) (((σ 9)).2.2.1 17) 5 p2.toInt.toNat p3.toInt.toNat 5) ∧ True)) 0 0 (A9 cy g sz) := by
  refine Met.ofW (cc := cX9_copyRow) (maxL := 5) (ret := none) (by decide) rfl ?_
  intro p e s m args below meth c s₁ B hml hv
  obtain ⟨rfl, hsz, hP, hK, hD0, hC⟩ := hv
  have hx := B.exec
  have hb := B.bytes
  have hr := B.returns
  have hts := hts_g (atoms_spec (ws := ww yX9_copyRow cX9_copyRow 5 none) B.pre)
  have hown : s.vm.findClass RX9 = some m.cls := findClass_of_methodNamed B.named
  have hlocks := B.notSynchronized
  clear B
  subst hsz
  have hD := fun τ => A9_D (sz := s.heap.size) hD0 τ
  clear hD0
  have hS : va_S (A9 cy g s.heap.size) s.heap s.heap [] := va_S.rf
  have hl := lv_entry ([.ref (g 17), .int 5, .int p2, .int p3]) (n := 5) (Nat.le_of_ble_eq_true rfl)
  rw [lg_entry_eq]
  generalize (lg_sl ([.ref (g 17), .int 5, .int p2, .int p3]) ++ List.replicate (5 - (lg_sl ([.ref (g 17), .int 5, .int p2, .int p3])).length) Slot.unset).toArray = ls at hl ⊢
  have hl : lv_has ls 5 [(0, .ref (g 17)), (1, .int 5), (2, .int p2), (3, .int p3)] := hl
  refine lv_iconst (v := 0) hx hb dX9_copyRow_0 (by decide) ?_
  refine lv_istore (lv' := [(4, .int 0), (0, .ref (g 17)), (1, .int 5), (2, .int p2), (3, .int p3)]) hx hb dX9_copyRow_1 hl (by decide) rfl (fun ls hl => ?_)
  refine loop9 5 3 (fun x : LZ => [(4, .int (x.2.1 0)), (0, .ref (g 17)), (1, .int 5), (2, .int p2), (3, .int p3)]) (fun x : LZ => (Fr (fL [17]) σ x.1) ∧ (J9 (x.1 9)) ∧ ((0 : Int) ≤ (x.2.1 0).toInt ∧ (x.2.1 0).toInt ≤ 5) ∧ (CR ((x.1 9).2.2.1 17) ((σ 9).2.2.1 17) 5 p2.toInt.toNat p3.toInt.toNat (x.2.1 0).toInt.toNat) ∧ True) (fun x : LZ => ((6 : Int) - (x.2.1 0).toInt).toNat) ?_ (σ, lf [0], lg []) ⟨Fr.rf, hJ, (show (0 : Int) ≤ (0 : Int32).toInt ∧ (0 : Int32).toInt ≤ 5 from (by have z0 : (0 : Int32).toInt = 0 := (by decide); omega)), (show CR ((σ 9).2.2.1 17) ((σ 9).2.2.1 17) 5 p2.toInt.toNat p3.toInt.toNat (0 : Int32).toInt.toNat from (by rw [show (0 : Int32).toInt.toNat = 0 by decide]; exact CR.nil)), trivial⟩ _ _ _ hP hS (lv_sub hl [0, 1, 2, 3, 4] rfl)
  intro y3 hI2 nl1 H locs ls hP hS hl
  obtain ⟨σ4, eσ4⟩ : ∃ z, z = y3.1 := ⟨_, rfl⟩
  rw [← eσ4] at hP hI2
  have hF5 : Fr (fL [17]) σ σ4 := hI2.1
  have hJ6 : J9 (σ4 9) := hI2.2.1
  have b7 : (0 : Int) ≤ (y3.2.1 0).toInt ∧ (y3.2.1 0).toInt ≤ 5 := hI2.2.2.1
  have b8 : CR ((σ4 9).2.2.1 17) ((σ 9).2.2.1 17) 5 p2.toInt.toNat p3.toInt.toNat (y3.2.1 0).toInt.toNat := hI2.2.2.2.1
  have hl : lv_has ls 5 [(4, .int (y3.2.1 0)), (0, .ref (g 17)), (1, .int 5), (2, .int p2), (3, .int p3)] := hl
  refine lv_iload hx hb dX9_copyRow_3 (lv_at hl 0 rfl) ?_
  refine lv_iload_n hx hb dX9_copyRow_5 rfl (lv_at hl 2 rfl) ?_
  refine lv_icmp_ge (tgt := 31) hx hb dX9_copyRow_6 (by decide) (fun c9 => ?_) (fun c9 => ?_)
  ·
    have k10 := ple32 c9
    exact W.vret hx hb hr (fun tS ht hW => ⟨⟨σ4, rfl, ⟨Fr.tr (Fr.rf) hF5 (fL_sub rfl), hJ6, (show CR (((σ4 9)).2.2.1 17) (((σ 9)).2.2.1 17) 5 p2.toInt.toNat p3.toInt.toNat 5 from (by have h := b8; rw [show (y3.2.1 0).toInt.toNat = 5 from (by have f0 := b7; have f1 := k10; have g0 := rg32 (y3.2.1 0); have z5 : (5 : Int32).toInt = 5 := (by decide); omega)] at h; exact h)), trivial⟩, (show va_P D clz (WD9 cy g σ4) tS.heap by rw [ht]; exact hP)⟩, hS.F ht⟩) hS.2.2 dX9_copyRow_31
  ·
    have k11 := nle32 c9
    refine lv_aload_n hx hb dX9_copyRow_9 rfl (lv_at hl 1 rfl) ?_
    refine lv_iload_n hx hb dX9_copyRow_10 rfl (lv_at hl 2 rfl) ?_
    refine lv_iload_n hx hb dX9_copyRow_11 rfl (lv_at hl 4 rfl) ?_
    refine lv_imul hx hb dX9_copyRow_12 ?_
    refine lv_topi (fun x12 ex12 => ?_)
    have t13 := mulC' (n := 5) ex12 (by decide) (by have f0 := h1; have f1 := h2; have f2 := h0; have g0 := rg32 p3; omega)
    refine lv_iload hx hb dX9_copyRow_13 (lv_at hl 0 rfl) ?_
    refine lv_iadd hx hb dX9_copyRow_15 ?_
    refine lv_topi (fun x14 ex14 => ?_)
    have t15 := addO ex14 (by have f0 := b7; have f1 := k11; have f2 := t13; have f3 := h1; have f4 := h2; have f5 := h0; have g0 := rg32 (y3.2.1 0); have g1 := rg32 x12; have z5 : (5 : Int32).toInt = 5 := (by decide); omega)
    refine lv_aload_n hx hb dX9_copyRow_16 rfl (lv_at hl 1 rfl) ?_
    refine lv_iload_n hx hb dX9_copyRow_17 rfl (lv_at hl 2 rfl) ?_
    refine lv_iload_n hx hb dX9_copyRow_18 rfl (lv_at hl 3 rfl) ?_
    refine lv_imul hx hb dX9_copyRow_19 ?_
    refine lv_topi (fun x16 ex16 => ?_)
    have t17 := mulC' (n := 5) ex16 (by decide) (by have f0 := h0; have f1 := h2; have f2 := h1; have f3 := t13; have f4 := t15; have f5 := b7; have f6 := k11; have g0 := rg32 p2; have z5 : (5 : Int32).toInt = 5 := (by decide); omega)
    refine lv_iload hx hb dX9_copyRow_20 (lv_at hl 0 rfl) ?_
    refine lv_iadd hx hb dX9_copyRow_22 ?_
    refine lv_topi (fun x18 ex18 => ?_)
    have t19 := addO ex18 (by have f0 := b7; have f1 := k11; have f2 := t15; have f3 := t17; have f4 := h0; have f5 := h2; have f6 := t13; have f7 := h1; have g0 := rg32 (y3.2.1 0); have g1 := rg32 x16; have z5 : (5 : Int32).toInt = 5 := (by decide); omega)
    obtain ⟨x20, ex20⟩ : ∃ z, (σ4 9).2.2.1 17 x18.toInt.toNat = z := ⟨_, rfl⟩
    refine l9_17 (x := x20) hx hb hK hP (vpo (by have f0 := t19; have f1 := b7; have f2 := k11; have f3 := t15; have f4 := t17; have f5 := h0; have f6 := h2; have f7 := t13; have f8 := h1; have g0 := rg32 x18; have z5 : (5 : Int32).toInt = 5 := (by decide); omega)) ex20 dX9_copyRow_23 ?_
    refine t9_17 hx hb hK hP hD hS (vpo (by have f0 := t15; have f1 := b7; have f2 := k11; have f3 := t13; have f4 := t19; have f5 := h1; have f6 := h2; have f7 := t17; have f8 := h0; have g0 := rg32 x14; have z5 : (5 : Int32).toInt = 5 := (by decide); omega)) dX9_copyRow_24 (fun H locs σ21 eσ21 hP hS => ?_)
    have hJ22 : J9 (σ21 9) := hJ6.A eσ21 (show PA9 17 x14.toInt.toNat x20 from (pa17 (show PA9 17 x18.toInt.toNat x20 from by rw [← ex20]; exact hJ6.2 17 _) (by have f0 := h0; have f1 := h1; have f2 := h2; have f3 := b7; have f4 := k11; have f5 := t13; have f6 := t15; have f7 := t17; have f8 := t19; have g0 := rg32 (y3.2.1 0); have g1 := rg32 p2; have g2 := rg32 p3; have g3 := rg32 x14; have g4 := rg32 x18; have z5 : (5 : Int32).toInt = 5 := (by decide); omega)))
    obtain ⟨x23, ex23⟩ : ∃ y : Int32, y = (y3.2.1 0) + 1 := ⟨_, rfl⟩
    have t24 := addO ex23 (by have f0 := b7; have f1 := k11; have f2 := t15; have f3 := t19; have f4 := t13; have f5 := t17; have f6 := h0; have f7 := h1; have f8 := h2; have g0 := rg32 (y3.2.1 0); have z1 : (1 : Int32).toInt = 1 := (by decide); have z5 : (5 : Int32).toInt = 5 := (by decide); omega)
    refine lv_iinc (v := x23) (lv' := [(4, .int x23), (0, .ref (g 17)), (1, .int 5), (2, .int p2), (3, .int p3)]) hx hb dX9_copyRow_25 hl (k := 0) rfl (by rw [ex23]; rfl) (by decide) rfl (fun ls hl => ?_)
    refine lv_goto (tgt := 3) hx hb dX9_copyRow_28 (by decide) ?_
    have t25 : ((6 : Int) - x23.toInt).toNat < ((6 : Int) - (y3.2.1 0).toInt).toNat := (by have f0 := b7; have f1 := k11; have f2 := t15; have f3 := t19; have f4 := t24; have f5 := t13; have f6 := t17; have f7 := h0; have f8 := h1; have f9 := h2; have g0 := rg32 (y3.2.1 0); have g1 := rg32 x23; have z1 : (1 : Int32).toInt = 1 := (by decide); have z5 : (5 : Int32).toInt = 5 := (by decide); omega)
    exact nl1 (σ21, lf [x23], lg []) ⟨Fr.tr (Fr.tr (Fr.rf) hF5 (fL_sub rfl)) (sA_f eσ21) (fN_L rfl), hJ22, (show (0 : Int) ≤ (x23 : Int32).toInt ∧ (x23 : Int32).toInt ≤ 5 from (by have f0 := t24; have f1 := b7; have f2 := k11; have f3 := t15; have f4 := t19; have f5 := t13; have f6 := t17; have f7 := h0; have f8 := h1; have f9 := h2; have g0 := rg32 x23; have z1 : (1 : Int32).toInt = 1 := (by decide); have z5 : (5 : Int32).toInt = 5 := (by decide); omega)), (show CR ((σ21 9).2.2.1 17) ((σ 9).2.2.1 17) 5 p2.toInt.toNat p3.toInt.toNat x23.toInt.toNat from (CR.step b8 (by have f0 := h0; have f1 := h1; have f2 := h2; have f3 := b7; have f4 := k11; have f5 := t13; have f6 := t15; have f7 := t17; have f8 := t19; have f9 := t24; have g0 := rg32 (y3.2.1 0); have g1 := rg32 p2; have g2 := rg32 p3; have g3 := rg32 x14; have g4 := rg32 x18; have g5 := rg32 x23; have z1 : (1 : Int32).toInt = 1 := (by decide); have z5 : (5 : Int32).toInt = 5 := (by decide); omega) (by have f0 := h0; have f1 := h1; have f2 := h2; have f3 := b7; have f4 := k11; have f5 := t13; have f6 := t15; have f7 := t17; have f8 := t19; have f9 := t24; have g0 := rg32 (y3.2.1 0); have g1 := rg32 p2; have g2 := rg32 p3; have g3 := rg32 x14; have g4 := rg32 x18; have g5 := rg32 x23; have z1 : (1 : Int32).toInt = 1 := (by decide); have z5 : (5 : Int32).toInt = 5 := (by decide); omega) (by have f0 := h0; have f1 := h1; have f2 := h2; have f3 := b7; have f4 := k11; have f5 := t13; have f6 := t15; have f7 := t17; have f8 := t19; have f9 := t24; have g0 := rg32 (y3.2.1 0); have g1 := rg32 p2; have g2 := rg32 p3; have g3 := rg32 x14; have g4 := rg32 x18; have g5 := rg32 x23; have z1 : (1 : Int32).toInt = 1 := (by decide); have z5 : (5 : Int32).toInt = 5 := (by decide); omega) (by have f0 := h0; have f1 := h1; have f2 := h2; have f3 := b7; have f4 := k11; have f5 := t13; have f6 := t15; have f7 := t17; have f8 := t19; have f9 := t24; have g0 := rg32 (y3.2.1 0); have g1 := rg32 p2; have g2 := rg32 p3; have g3 := rg32 x14; have g4 := rg32 x18; have g5 := rg32 x23; have z1 : (1 : Int32).toInt = 1 := (by decide); have z5 : (5 : Int32).toInt = 5 := (by decide); omega) ex20 (sA_s eσ21) (by have f0 := h0; have f1 := h1; have f2 := h2; have f3 := b7; have f4 := k11; have f5 := t13; have f6 := t15; have f7 := t17; have f8 := t19; have f9 := t24; have g0 := rg32 (y3.2.1 0); have g1 := rg32 p2; have g2 := rg32 p3; have g3 := rg32 x14; have g4 := rg32 x18; have g5 := rg32 x23; have z1 : (1 : Int32).toInt = 1 := (by decide); have z5 : (5 : Int32).toInt = 5 := (by decide); omega))), trivial⟩ (show ((6 : Int) - x23.toInt).toNat < _ from by first | exact t25 | (rw [← eσ4]; exact t25)) _ _ _ hP hS (lv_sub hl [0, 1, 2, 3, 4] rfl)

set_option maxHeartbeats 4000000 in
set_option maxRecDepth 100000 in
theorem m_X9_copyRow_18_c28 (l : Launch) (D : va_G) (cy : Nat → ClassId) (g : Nat → Nat) (σ : ST) (p2 : Int32) (p3 : Int32) (sz : Nat) (hJ : J9 (σ 9)) (h0 : (0 : Int) ≤ p2.toInt ∧ p2.toInt ≤ 4) (h1 : (0 : Int) ≤ p3.toInt ∧ p3.toInt ≤ 4) (h2 : ¬ p2.toInt = p3.toInt) : Met l yX9_copyRow (ww yX9_copyRow cX9_copyRow 5 none) ({ frames := 1, cells := 0, slots := 0, locals := 64 }) (va_Pc [.ref (g 18), .int 28, .int p2, .int p3] (pr9 D cy g σ sz)) (qv9 D cy g sz (fun τ => Fr (fL [18]) σ τ ∧ J9 (τ 9) ∧ (CR (((τ 9)).2.2.1 18) (((σ 9)).2.2.1 18) 28 p2.toInt.toNat p3.toInt.toNat 28) ∧ True)) 0 0 (A9 cy g sz) := by
  refine Met.ofW (cc := cX9_copyRow) (maxL := 5) (ret := none) (by decide) rfl ?_
  intro p e s m args below meth c s₁ B hml hv
  obtain ⟨rfl, hsz, hP, hK, hD0, hC⟩ := hv
  have hx := B.exec
  have hb := B.bytes
  have hr := B.returns
  have hts := hts_g (atoms_spec (ws := ww yX9_copyRow cX9_copyRow 5 none) B.pre)
  have hown : s.vm.findClass RX9 = some m.cls := findClass_of_methodNamed B.named
  have hlocks := B.notSynchronized
  clear B
  subst hsz
  have hD := fun τ => A9_D (sz := s.heap.size) hD0 τ
  clear hD0
  have hS : va_S (A9 cy g s.heap.size) s.heap s.heap [] := va_S.rf
  have hl := lv_entry ([.ref (g 18), .int 28, .int p2, .int p3]) (n := 5) (Nat.le_of_ble_eq_true rfl)
  rw [lg_entry_eq]
  generalize (lg_sl ([.ref (g 18), .int 28, .int p2, .int p3]) ++ List.replicate (5 - (lg_sl ([.ref (g 18), .int 28, .int p2, .int p3])).length) Slot.unset).toArray = ls at hl ⊢
  have hl : lv_has ls 5 [(0, .ref (g 18)), (1, .int 28), (2, .int p2), (3, .int p3)] := hl
  refine lv_iconst (v := 0) hx hb dX9_copyRow_0 (by decide) ?_
  refine lv_istore (lv' := [(4, .int 0), (0, .ref (g 18)), (1, .int 28), (2, .int p2), (3, .int p3)]) hx hb dX9_copyRow_1 hl (by decide) rfl (fun ls hl => ?_)
  refine loop9 5 3 (fun x : LZ => [(4, .int (x.2.1 0)), (0, .ref (g 18)), (1, .int 28), (2, .int p2), (3, .int p3)]) (fun x : LZ => (Fr (fL [18]) σ x.1) ∧ (J9 (x.1 9)) ∧ ((0 : Int) ≤ (x.2.1 0).toInt ∧ (x.2.1 0).toInt ≤ 28) ∧ (CR ((x.1 9).2.2.1 18) ((σ 9).2.2.1 18) 28 p2.toInt.toNat p3.toInt.toNat (x.2.1 0).toInt.toNat) ∧ True) (fun x : LZ => ((29 : Int) - (x.2.1 0).toInt).toNat) ?_ (σ, lf [0], lg []) ⟨Fr.rf, hJ, (show (0 : Int) ≤ (0 : Int32).toInt ∧ (0 : Int32).toInt ≤ 28 from (by have z0 : (0 : Int32).toInt = 0 := (by decide); omega)), (show CR ((σ 9).2.2.1 18) ((σ 9).2.2.1 18) 28 p2.toInt.toNat p3.toInt.toNat (0 : Int32).toInt.toNat from (by rw [show (0 : Int32).toInt.toNat = 0 by decide]; exact CR.nil)), trivial⟩ _ _ _ hP hS (lv_sub hl [0, 1, 2, 3, 4] rfl)
  intro y3 hI2 nl1 H locs ls hP hS hl
  obtain ⟨σ4, eσ4⟩ : ∃ z, z = y3.1 := ⟨_, rfl⟩
  rw [← eσ4] at hP hI2
  have hF5 : Fr (fL [18]) σ σ4 := hI2.1
  have hJ6 : J9 (σ4 9) := hI2.2.1
  have b7 : (0 : Int) ≤ (y3.2.1 0).toInt ∧ (y3.2.1 0).toInt ≤ 28 := hI2.2.2.1
  have b8 : CR ((σ4 9).2.2.1 18) ((σ 9).2.2.1 18) 28 p2.toInt.toNat p3.toInt.toNat (y3.2.1 0).toInt.toNat := hI2.2.2.2.1
  have hl : lv_has ls 5 [(4, .int (y3.2.1 0)), (0, .ref (g 18)), (1, .int 28), (2, .int p2), (3, .int p3)] := hl
  refine lv_iload hx hb dX9_copyRow_3 (lv_at hl 0 rfl) ?_
  refine lv_iload_n hx hb dX9_copyRow_5 rfl (lv_at hl 2 rfl) ?_
  refine lv_icmp_ge (tgt := 31) hx hb dX9_copyRow_6 (by decide) (fun c9 => ?_) (fun c9 => ?_)
  ·
    have k10 := ple32 c9
    exact W.vret hx hb hr (fun tS ht hW => ⟨⟨σ4, rfl, ⟨Fr.tr (Fr.rf) hF5 (fL_sub rfl), hJ6, (show CR (((σ4 9)).2.2.1 18) (((σ 9)).2.2.1 18) 28 p2.toInt.toNat p3.toInt.toNat 28 from (by have h := b8; rw [show (y3.2.1 0).toInt.toNat = 28 from (by have f0 := b7; have f1 := k10; have g0 := rg32 (y3.2.1 0); have z28 : (28 : Int32).toInt = 28 := (by decide); omega)] at h; exact h)), trivial⟩, (show va_P D clz (WD9 cy g σ4) tS.heap by rw [ht]; exact hP)⟩, hS.F ht⟩) hS.2.2 dX9_copyRow_31
  ·
    have k11 := nle32 c9
    refine lv_aload_n hx hb dX9_copyRow_9 rfl (lv_at hl 1 rfl) ?_
    refine lv_iload_n hx hb dX9_copyRow_10 rfl (lv_at hl 2 rfl) ?_
    refine lv_iload_n hx hb dX9_copyRow_11 rfl (lv_at hl 4 rfl) ?_
    refine lv_imul hx hb dX9_copyRow_12 ?_
    refine lv_topi (fun x12 ex12 => ?_)
    have t13 := mulC' (n := 28) ex12 (by decide) (by have f0 := h1; have f1 := h2; have f2 := h0; have g0 := rg32 p3; omega)
    refine lv_iload hx hb dX9_copyRow_13 (lv_at hl 0 rfl) ?_
    refine lv_iadd hx hb dX9_copyRow_15 ?_
    refine lv_topi (fun x14 ex14 => ?_)
    have t15 := addO ex14 (by have f0 := b7; have f1 := k11; have f2 := t13; have f3 := h1; have f4 := h2; have f5 := h0; have g0 := rg32 (y3.2.1 0); have g1 := rg32 x12; have z28 : (28 : Int32).toInt = 28 := (by decide); omega)
    refine lv_aload_n hx hb dX9_copyRow_16 rfl (lv_at hl 1 rfl) ?_
    refine lv_iload_n hx hb dX9_copyRow_17 rfl (lv_at hl 2 rfl) ?_
    refine lv_iload_n hx hb dX9_copyRow_18 rfl (lv_at hl 3 rfl) ?_
    refine lv_imul hx hb dX9_copyRow_19 ?_
    refine lv_topi (fun x16 ex16 => ?_)
    have t17 := mulC' (n := 28) ex16 (by decide) (by have f0 := h0; have f1 := h2; have f2 := h1; have f3 := t13; have f4 := t15; have f5 := b7; have f6 := k11; have g0 := rg32 p2; have z28 : (28 : Int32).toInt = 28 := (by decide); omega)
    refine lv_iload hx hb dX9_copyRow_20 (lv_at hl 0 rfl) ?_
    refine lv_iadd hx hb dX9_copyRow_22 ?_
    refine lv_topi (fun x18 ex18 => ?_)
    have t19 := addO ex18 (by have f0 := b7; have f1 := k11; have f2 := t15; have f3 := t17; have f4 := h0; have f5 := h2; have f6 := t13; have f7 := h1; have g0 := rg32 (y3.2.1 0); have g1 := rg32 x16; have z28 : (28 : Int32).toInt = 28 := (by decide); omega)
    obtain ⟨x20, ex20⟩ : ∃ z, (σ4 9).2.2.1 18 x18.toInt.toNat = z := ⟨_, rfl⟩
    refine l9_18 (x := x20) hx hb hK hP (vpo (by have f0 := t19; have f1 := b7; have f2 := k11; have f3 := t15; have f4 := t17; have f5 := h0; have f6 := h2; have f7 := t13; have f8 := h1; have g0 := rg32 x18; have z28 : (28 : Int32).toInt = 28 := (by decide); omega)) ex20 dX9_copyRow_23 ?_
    have t21 := a9_18 hJ6 ex20
    refine t9_18 hx hb hK hP hD hS (vpo (by have f0 := t15; have f1 := b7; have f2 := k11; have f3 := t13; have f4 := t19; have f5 := h1; have f6 := h2; have f7 := t17; have f8 := t21; have f9 := h0; have g0 := rg32 x14; have z28 : (28 : Int32).toInt = 28 := (by decide); omega)) dX9_copyRow_24 (fun H locs σ22 eσ22 hP hS => ?_)
    have hJ23 : J9 (σ22 9) := hJ6.A eσ22 (show PA9 18 x14.toInt.toNat x20 from (by have f0 := t15; have f1 := t21; have f2 := b7; have f3 := k11; have f4 := t13; have f5 := t19; have f6 := h1; have f7 := h2; have f8 := t17; have f9 := h0; have g0 := rg32 x14; have g1 := rg32 x20; have z28 : (28 : Int32).toInt = 28 := (by decide); exact ⟨by omega, by omega⟩))
    obtain ⟨x24, ex24⟩ : ∃ y : Int32, y = (y3.2.1 0) + 1 := ⟨_, rfl⟩
    have t25 := addO ex24 (by have f0 := b7; have f1 := k11; have f2 := t15; have f3 := t19; have f4 := t13; have f5 := t17; have f6 := t21; have f7 := h0; have f8 := h1; have f9 := h2; have g0 := rg32 (y3.2.1 0); have z1 : (1 : Int32).toInt = 1 := (by decide); have z28 : (28 : Int32).toInt = 28 := (by decide); omega)
    refine lv_iinc (v := x24) (lv' := [(4, .int x24), (0, .ref (g 18)), (1, .int 28), (2, .int p2), (3, .int p3)]) hx hb dX9_copyRow_25 hl (k := 0) rfl (by rw [ex24]; rfl) (by decide) rfl (fun ls hl => ?_)
    refine lv_goto (tgt := 3) hx hb dX9_copyRow_28 (by decide) ?_
    have t26 : ((29 : Int) - x24.toInt).toNat < ((29 : Int) - (y3.2.1 0).toInt).toNat := (by have f0 := b7; have f1 := k11; have f2 := t15; have f3 := t19; have f4 := t25; have f5 := t13; have f6 := t17; have f7 := t21; have f8 := h0; have f9 := h1; have f10 := h2; have g0 := rg32 (y3.2.1 0); have g1 := rg32 x24; have z1 : (1 : Int32).toInt = 1 := (by decide); have z28 : (28 : Int32).toInt = 28 := (by decide); omega)
    exact nl1 (σ22, lf [x24], lg []) ⟨Fr.tr (Fr.tr (Fr.rf) hF5 (fL_sub rfl)) (sA_f eσ22) (fN_L rfl), hJ23, (show (0 : Int) ≤ (x24 : Int32).toInt ∧ (x24 : Int32).toInt ≤ 28 from (by have f0 := t25; have f1 := b7; have f2 := k11; have f3 := t15; have f4 := t19; have f5 := t13; have f6 := t17; have f7 := t21; have f8 := h0; have f9 := h1; have f10 := h2; have g0 := rg32 x24; have z1 : (1 : Int32).toInt = 1 := (by decide); have z28 : (28 : Int32).toInt = 28 := (by decide); omega)), (show CR ((σ22 9).2.2.1 18) ((σ 9).2.2.1 18) 28 p2.toInt.toNat p3.toInt.toNat x24.toInt.toNat from (CR.step b8 (by have f0 := h0; have f1 := h1; have f2 := h2; have f3 := b7; have f4 := k11; have f5 := t13; have f6 := t15; have f7 := t17; have f8 := t19; have f9 := t21; have f10 := t25; have g0 := rg32 (y3.2.1 0); have g1 := rg32 p2; have g2 := rg32 p3; have g3 := rg32 x14; have g4 := rg32 x18; have g5 := rg32 x24; have z1 : (1 : Int32).toInt = 1 := (by decide); have z28 : (28 : Int32).toInt = 28 := (by decide); omega) (by have f0 := h0; have f1 := h1; have f2 := h2; have f3 := b7; have f4 := k11; have f5 := t13; have f6 := t15; have f7 := t17; have f8 := t19; have f9 := t21; have f10 := t25; have g0 := rg32 (y3.2.1 0); have g1 := rg32 p2; have g2 := rg32 p3; have g3 := rg32 x14; have g4 := rg32 x18; have g5 := rg32 x24; have z1 : (1 : Int32).toInt = 1 := (by decide); have z28 : (28 : Int32).toInt = 28 := (by decide); omega) (by have f0 := h0; have f1 := h1; have f2 := h2; have f3 := b7; have f4 := k11; have f5 := t13; have f6 := t15; have f7 := t17; have f8 := t19; have f9 := t21; have f10 := t25; have g0 := rg32 (y3.2.1 0); have g1 := rg32 p2; have g2 := rg32 p3; have g3 := rg32 x14; have g4 := rg32 x18; have g5 := rg32 x24; have z1 : (1 : Int32).toInt = 1 := (by decide); have z28 : (28 : Int32).toInt = 28 := (by decide); omega) (by have f0 := h0; have f1 := h1; have f2 := h2; have f3 := b7; have f4 := k11; have f5 := t13; have f6 := t15; have f7 := t17; have f8 := t19; have f9 := t21; have f10 := t25; have g0 := rg32 (y3.2.1 0); have g1 := rg32 p2; have g2 := rg32 p3; have g3 := rg32 x14; have g4 := rg32 x18; have g5 := rg32 x24; have z1 : (1 : Int32).toInt = 1 := (by decide); have z28 : (28 : Int32).toInt = 28 := (by decide); omega) ex20 (sA_s eσ22) (by have f0 := h0; have f1 := h1; have f2 := h2; have f3 := b7; have f4 := k11; have f5 := t13; have f6 := t15; have f7 := t17; have f8 := t19; have f9 := t21; have f10 := t25; have g0 := rg32 (y3.2.1 0); have g1 := rg32 p2; have g2 := rg32 p3; have g3 := rg32 x14; have g4 := rg32 x18; have g5 := rg32 x24; have z1 : (1 : Int32).toInt = 1 := (by decide); have z28 : (28 : Int32).toInt = 28 := (by decide); omega))), trivial⟩ (show ((29 : Int) - x24.toInt).toNat < _ from by first | exact t26 | (rw [← eσ4]; exact t26)) _ _ _ hP hS (lv_sub hl [0, 1, 2, 3, 4] rfl)

set_option maxHeartbeats 4000000 in
set_option maxRecDepth 100000 in
theorem m_X9_copyRow_19_c36 (l : Launch) (D : va_G) (cy : Nat → ClassId) (g : Nat → Nat) (σ : ST) (p2 : Int32) (p3 : Int32) (sz : Nat) (hJ : J9 (σ 9)) (h0 : (0 : Int) ≤ p2.toInt ∧ p2.toInt ≤ 4) (h1 : (0 : Int) ≤ p3.toInt ∧ p3.toInt ≤ 4) (h2 : ¬ p2.toInt = p3.toInt) : Met l yX9_copyRow (ww yX9_copyRow cX9_copyRow 5 none) ({ frames := 1, cells := 0, slots := 0, locals := 64 }) (va_Pc [.ref (g 19), .int 36, .int p2, .int p3] (pr9 D cy g σ sz)) (qv9 D cy g sz (fun τ => Fr (fL [19]) σ τ ∧ J9 (τ 9) ∧ (CR (((τ 9)).2.2.1 19) (((σ 9)).2.2.1 19) 36 p2.toInt.toNat p3.toInt.toNat 36) ∧ True)) 0 0 (A9 cy g sz) := by
  refine Met.ofW (cc := cX9_copyRow) (maxL := 5) (ret := none) (by decide) rfl ?_
  intro p e s m args below meth c s₁ B hml hv
  obtain ⟨rfl, hsz, hP, hK, hD0, hC⟩ := hv
  have hx := B.exec
  have hb := B.bytes
  have hr := B.returns
  have hts := hts_g (atoms_spec (ws := ww yX9_copyRow cX9_copyRow 5 none) B.pre)
  have hown : s.vm.findClass RX9 = some m.cls := findClass_of_methodNamed B.named
  have hlocks := B.notSynchronized
  clear B
  subst hsz
  have hD := fun τ => A9_D (sz := s.heap.size) hD0 τ
  clear hD0
  have hS : va_S (A9 cy g s.heap.size) s.heap s.heap [] := va_S.rf
  have hl := lv_entry ([.ref (g 19), .int 36, .int p2, .int p3]) (n := 5) (Nat.le_of_ble_eq_true rfl)
  rw [lg_entry_eq]
  generalize (lg_sl ([.ref (g 19), .int 36, .int p2, .int p3]) ++ List.replicate (5 - (lg_sl ([.ref (g 19), .int 36, .int p2, .int p3])).length) Slot.unset).toArray = ls at hl ⊢
  have hl : lv_has ls 5 [(0, .ref (g 19)), (1, .int 36), (2, .int p2), (3, .int p3)] := hl
  refine lv_iconst (v := 0) hx hb dX9_copyRow_0 (by decide) ?_
  refine lv_istore (lv' := [(4, .int 0), (0, .ref (g 19)), (1, .int 36), (2, .int p2), (3, .int p3)]) hx hb dX9_copyRow_1 hl (by decide) rfl (fun ls hl => ?_)
  refine loop9 5 3 (fun x : LZ => [(4, .int (x.2.1 0)), (0, .ref (g 19)), (1, .int 36), (2, .int p2), (3, .int p3)]) (fun x : LZ => (Fr (fL [19]) σ x.1) ∧ (J9 (x.1 9)) ∧ ((0 : Int) ≤ (x.2.1 0).toInt ∧ (x.2.1 0).toInt ≤ 36) ∧ (CR ((x.1 9).2.2.1 19) ((σ 9).2.2.1 19) 36 p2.toInt.toNat p3.toInt.toNat (x.2.1 0).toInt.toNat) ∧ True) (fun x : LZ => ((37 : Int) - (x.2.1 0).toInt).toNat) ?_ (σ, lf [0], lg []) ⟨Fr.rf, hJ, (show (0 : Int) ≤ (0 : Int32).toInt ∧ (0 : Int32).toInt ≤ 36 from (by have z0 : (0 : Int32).toInt = 0 := (by decide); omega)), (show CR ((σ 9).2.2.1 19) ((σ 9).2.2.1 19) 36 p2.toInt.toNat p3.toInt.toNat (0 : Int32).toInt.toNat from (by rw [show (0 : Int32).toInt.toNat = 0 by decide]; exact CR.nil)), trivial⟩ _ _ _ hP hS (lv_sub hl [0, 1, 2, 3, 4] rfl)
  intro y3 hI2 nl1 H locs ls hP hS hl
  obtain ⟨σ4, eσ4⟩ : ∃ z, z = y3.1 := ⟨_, rfl⟩
  rw [← eσ4] at hP hI2
  have hF5 : Fr (fL [19]) σ σ4 := hI2.1
  have hJ6 : J9 (σ4 9) := hI2.2.1
  have b7 : (0 : Int) ≤ (y3.2.1 0).toInt ∧ (y3.2.1 0).toInt ≤ 36 := hI2.2.2.1
  have b8 : CR ((σ4 9).2.2.1 19) ((σ 9).2.2.1 19) 36 p2.toInt.toNat p3.toInt.toNat (y3.2.1 0).toInt.toNat := hI2.2.2.2.1
  have hl : lv_has ls 5 [(4, .int (y3.2.1 0)), (0, .ref (g 19)), (1, .int 36), (2, .int p2), (3, .int p3)] := hl
  refine lv_iload hx hb dX9_copyRow_3 (lv_at hl 0 rfl) ?_
  refine lv_iload_n hx hb dX9_copyRow_5 rfl (lv_at hl 2 rfl) ?_
  refine lv_icmp_ge (tgt := 31) hx hb dX9_copyRow_6 (by decide) (fun c9 => ?_) (fun c9 => ?_)
  ·
    have k10 := ple32 c9
    exact W.vret hx hb hr (fun tS ht hW => ⟨⟨σ4, rfl, ⟨Fr.tr (Fr.rf) hF5 (fL_sub rfl), hJ6, (show CR (((σ4 9)).2.2.1 19) (((σ 9)).2.2.1 19) 36 p2.toInt.toNat p3.toInt.toNat 36 from (by have h := b8; rw [show (y3.2.1 0).toInt.toNat = 36 from (by have f0 := b7; have f1 := k10; have g0 := rg32 (y3.2.1 0); have z36 : (36 : Int32).toInt = 36 := (by decide); omega)] at h; exact h)), trivial⟩, (show va_P D clz (WD9 cy g σ4) tS.heap by rw [ht]; exact hP)⟩, hS.F ht⟩) hS.2.2 dX9_copyRow_31
  ·
    have k11 := nle32 c9
    refine lv_aload_n hx hb dX9_copyRow_9 rfl (lv_at hl 1 rfl) ?_
    refine lv_iload_n hx hb dX9_copyRow_10 rfl (lv_at hl 2 rfl) ?_
    refine lv_iload_n hx hb dX9_copyRow_11 rfl (lv_at hl 4 rfl) ?_
    refine lv_imul hx hb dX9_copyRow_12 ?_
    refine lv_topi (fun x12 ex12 => ?_)
    have t13 := mulC' (n := 36) ex12 (by decide) (by have f0 := h1; have f1 := h2; have f2 := h0; have g0 := rg32 p3; omega)
    refine lv_iload hx hb dX9_copyRow_13 (lv_at hl 0 rfl) ?_
    refine lv_iadd hx hb dX9_copyRow_15 ?_
    refine lv_topi (fun x14 ex14 => ?_)
    have t15 := addO ex14 (by have f0 := b7; have f1 := k11; have f2 := t13; have f3 := h1; have f4 := h2; have f5 := h0; have g0 := rg32 (y3.2.1 0); have g1 := rg32 x12; have z36 : (36 : Int32).toInt = 36 := (by decide); omega)
    refine lv_aload_n hx hb dX9_copyRow_16 rfl (lv_at hl 1 rfl) ?_
    refine lv_iload_n hx hb dX9_copyRow_17 rfl (lv_at hl 2 rfl) ?_
    refine lv_iload_n hx hb dX9_copyRow_18 rfl (lv_at hl 3 rfl) ?_
    refine lv_imul hx hb dX9_copyRow_19 ?_
    refine lv_topi (fun x16 ex16 => ?_)
    have t17 := mulC' (n := 36) ex16 (by decide) (by have f0 := h0; have f1 := h2; have f2 := h1; have f3 := t13; have f4 := t15; have f5 := b7; have f6 := k11; have g0 := rg32 p2; have z36 : (36 : Int32).toInt = 36 := (by decide); omega)
    refine lv_iload hx hb dX9_copyRow_20 (lv_at hl 0 rfl) ?_
    refine lv_iadd hx hb dX9_copyRow_22 ?_
    refine lv_topi (fun x18 ex18 => ?_)
    have t19 := addO ex18 (by have f0 := b7; have f1 := k11; have f2 := t15; have f3 := t17; have f4 := h0; have f5 := h2; have f6 := t13; have f7 := h1; have g0 := rg32 (y3.2.1 0); have g1 := rg32 x16; have z36 : (36 : Int32).toInt = 36 := (by decide); omega)
    obtain ⟨x20, ex20⟩ : ∃ z, (σ4 9).2.2.1 19 x18.toInt.toNat = z := ⟨_, rfl⟩
    refine l9_19 (x := x20) hx hb hK hP (vpo (by have f0 := t19; have f1 := b7; have f2 := k11; have f3 := t15; have f4 := t17; have f5 := h0; have f6 := h2; have f7 := t13; have f8 := h1; have g0 := rg32 x18; have z36 : (36 : Int32).toInt = 36 := (by decide); omega)) ex20 dX9_copyRow_23 ?_
    refine t9_19 hx hb hK hP hD hS (vpo (by have f0 := t15; have f1 := b7; have f2 := k11; have f3 := t13; have f4 := t19; have f5 := h1; have f6 := h2; have f7 := t17; have f8 := h0; have g0 := rg32 x14; have z36 : (36 : Int32).toInt = 36 := (by decide); omega)) dX9_copyRow_24 (fun H locs σ21 eσ21 hP hS => ?_)
    have hJ22 : J9 (σ21 9) := hJ6.A eσ21 (show PA9 19 x14.toInt.toNat x20 from (pa19 (show PA9 19 x18.toInt.toNat x20 from by rw [← ex20]; exact hJ6.2 19 _) (by have f0 := h0; have f1 := h1; have f2 := h2; have f3 := b7; have f4 := k11; have f5 := t13; have f6 := t15; have f7 := t17; have f8 := t19; have g0 := rg32 (y3.2.1 0); have g1 := rg32 p2; have g2 := rg32 p3; have g3 := rg32 x14; have g4 := rg32 x18; have z36 : (36 : Int32).toInt = 36 := (by decide); omega)))
    obtain ⟨x23, ex23⟩ : ∃ y : Int32, y = (y3.2.1 0) + 1 := ⟨_, rfl⟩
    have t24 := addO ex23 (by have f0 := b7; have f1 := k11; have f2 := t15; have f3 := t19; have f4 := t13; have f5 := t17; have f6 := h0; have f7 := h1; have f8 := h2; have g0 := rg32 (y3.2.1 0); have z1 : (1 : Int32).toInt = 1 := (by decide); have z36 : (36 : Int32).toInt = 36 := (by decide); omega)
    refine lv_iinc (v := x23) (lv' := [(4, .int x23), (0, .ref (g 19)), (1, .int 36), (2, .int p2), (3, .int p3)]) hx hb dX9_copyRow_25 hl (k := 0) rfl (by rw [ex23]; rfl) (by decide) rfl (fun ls hl => ?_)
    refine lv_goto (tgt := 3) hx hb dX9_copyRow_28 (by decide) ?_
    have t25 : ((37 : Int) - x23.toInt).toNat < ((37 : Int) - (y3.2.1 0).toInt).toNat := (by have f0 := b7; have f1 := k11; have f2 := t15; have f3 := t19; have f4 := t24; have f5 := t13; have f6 := t17; have f7 := h0; have f8 := h1; have f9 := h2; have g0 := rg32 (y3.2.1 0); have g1 := rg32 x23; have z1 : (1 : Int32).toInt = 1 := (by decide); have z36 : (36 : Int32).toInt = 36 := (by decide); omega)
    exact nl1 (σ21, lf [x23], lg []) ⟨Fr.tr (Fr.tr (Fr.rf) hF5 (fL_sub rfl)) (sA_f eσ21) (fN_L rfl), hJ22, (show (0 : Int) ≤ (x23 : Int32).toInt ∧ (x23 : Int32).toInt ≤ 36 from (by have f0 := t24; have f1 := b7; have f2 := k11; have f3 := t15; have f4 := t19; have f5 := t13; have f6 := t17; have f7 := h0; have f8 := h1; have f9 := h2; have g0 := rg32 x23; have z1 : (1 : Int32).toInt = 1 := (by decide); have z36 : (36 : Int32).toInt = 36 := (by decide); omega)), (show CR ((σ21 9).2.2.1 19) ((σ 9).2.2.1 19) 36 p2.toInt.toNat p3.toInt.toNat x23.toInt.toNat from (CR.step b8 (by have f0 := h0; have f1 := h1; have f2 := h2; have f3 := b7; have f4 := k11; have f5 := t13; have f6 := t15; have f7 := t17; have f8 := t19; have f9 := t24; have g0 := rg32 (y3.2.1 0); have g1 := rg32 p2; have g2 := rg32 p3; have g3 := rg32 x14; have g4 := rg32 x18; have g5 := rg32 x23; have z1 : (1 : Int32).toInt = 1 := (by decide); have z36 : (36 : Int32).toInt = 36 := (by decide); omega) (by have f0 := h0; have f1 := h1; have f2 := h2; have f3 := b7; have f4 := k11; have f5 := t13; have f6 := t15; have f7 := t17; have f8 := t19; have f9 := t24; have g0 := rg32 (y3.2.1 0); have g1 := rg32 p2; have g2 := rg32 p3; have g3 := rg32 x14; have g4 := rg32 x18; have g5 := rg32 x23; have z1 : (1 : Int32).toInt = 1 := (by decide); have z36 : (36 : Int32).toInt = 36 := (by decide); omega) (by have f0 := h0; have f1 := h1; have f2 := h2; have f3 := b7; have f4 := k11; have f5 := t13; have f6 := t15; have f7 := t17; have f8 := t19; have f9 := t24; have g0 := rg32 (y3.2.1 0); have g1 := rg32 p2; have g2 := rg32 p3; have g3 := rg32 x14; have g4 := rg32 x18; have g5 := rg32 x23; have z1 : (1 : Int32).toInt = 1 := (by decide); have z36 : (36 : Int32).toInt = 36 := (by decide); omega) (by have f0 := h0; have f1 := h1; have f2 := h2; have f3 := b7; have f4 := k11; have f5 := t13; have f6 := t15; have f7 := t17; have f8 := t19; have f9 := t24; have g0 := rg32 (y3.2.1 0); have g1 := rg32 p2; have g2 := rg32 p3; have g3 := rg32 x14; have g4 := rg32 x18; have g5 := rg32 x23; have z1 : (1 : Int32).toInt = 1 := (by decide); have z36 : (36 : Int32).toInt = 36 := (by decide); omega) ex20 (sA_s eσ21) (by have f0 := h0; have f1 := h1; have f2 := h2; have f3 := b7; have f4 := k11; have f5 := t13; have f6 := t15; have f7 := t17; have f8 := t19; have f9 := t24; have g0 := rg32 (y3.2.1 0); have g1 := rg32 p2; have g2 := rg32 p3; have g3 := rg32 x14; have g4 := rg32 x18; have g5 := rg32 x23; have z1 : (1 : Int32).toInt = 1 := (by decide); have z36 : (36 : Int32).toInt = 36 := (by decide); omega))), trivial⟩ (show ((37 : Int) - x23.toInt).toNat < _ from by first | exact t25 | (rw [← eσ4]; exact t25)) _ _ _ hP hS (lv_sub hl [0, 1, 2, 3, 4] rfl)

set_option maxHeartbeats 4000000 in
set_option maxRecDepth 100000 in
theorem m_X9_copyRow_20_c3 (l : Launch) (D : va_G) (cy : Nat → ClassId) (g : Nat → Nat) (σ : ST) (p2 : Int32) (p3 : Int32) (sz : Nat) (hJ : J9 (σ 9)) (h0 : (0 : Int) ≤ p2.toInt ∧ p2.toInt ≤ 4) (h1 : (0 : Int) ≤ p3.toInt ∧ p3.toInt ≤ 4) (h2 : ¬ p2.toInt = p3.toInt) : Met l yX9_copyRow (ww yX9_copyRow cX9_copyRow 5 none) ({ frames := 1, cells := 0, slots := 0, locals := 64 }) (va_Pc [.ref (g 20), .int 3, .int p2, .int p3] (pr9 D cy g σ sz)) (qv9 D cy g sz (fun τ => Fr (fL [20]) σ τ ∧ J9 (τ 9) ∧ (CR (((τ 9)).2.2.1 20) (((σ 9)).2.2.1 20) 3 p2.toInt.toNat p3.toInt.toNat 3) ∧ True)) 0 0 (A9 cy g sz) := by
  refine Met.ofW (cc := cX9_copyRow) (maxL := 5) (ret := none) (by decide) rfl ?_
  intro p e s m args below meth c s₁ B hml hv
  obtain ⟨rfl, hsz, hP, hK, hD0, hC⟩ := hv
  have hx := B.exec
  have hb := B.bytes
  have hr := B.returns
  have hts := hts_g (atoms_spec (ws := ww yX9_copyRow cX9_copyRow 5 none) B.pre)
  have hown : s.vm.findClass RX9 = some m.cls := findClass_of_methodNamed B.named
  have hlocks := B.notSynchronized
  clear B
  subst hsz
  have hD := fun τ => A9_D (sz := s.heap.size) hD0 τ
  clear hD0
  have hS : va_S (A9 cy g s.heap.size) s.heap s.heap [] := va_S.rf
  have hl := lv_entry ([.ref (g 20), .int 3, .int p2, .int p3]) (n := 5) (Nat.le_of_ble_eq_true rfl)
  rw [lg_entry_eq]
  generalize (lg_sl ([.ref (g 20), .int 3, .int p2, .int p3]) ++ List.replicate (5 - (lg_sl ([.ref (g 20), .int 3, .int p2, .int p3])).length) Slot.unset).toArray = ls at hl ⊢
  have hl : lv_has ls 5 [(0, .ref (g 20)), (1, .int 3), (2, .int p2), (3, .int p3)] := hl
  refine lv_iconst (v := 0) hx hb dX9_copyRow_0 (by decide) ?_
  refine lv_istore (lv' := [(4, .int 0), (0, .ref (g 20)), (1, .int 3), (2, .int p2), (3, .int p3)]) hx hb dX9_copyRow_1 hl (by decide) rfl (fun ls hl => ?_)
  refine loop9 5 3 (fun x : LZ => [(4, .int (x.2.1 0)), (0, .ref (g 20)), (1, .int 3), (2, .int p2), (3, .int p3)]) (fun x : LZ => (Fr (fL [20]) σ x.1) ∧ (J9 (x.1 9)) ∧ ((0 : Int) ≤ (x.2.1 0).toInt ∧ (x.2.1 0).toInt ≤ 3) ∧ (CR ((x.1 9).2.2.1 20) ((σ 9).2.2.1 20) 3 p2.toInt.toNat p3.toInt.toNat (x.2.1 0).toInt.toNat) ∧ True) (fun x : LZ => ((4 : Int) - (x.2.1 0).toInt).toNat) ?_ (σ, lf [0], lg []) ⟨Fr.rf, hJ, (show (0 : Int) ≤ (0 : Int32).toInt ∧ (0 : Int32).toInt ≤ 3 from (by have z0 : (0 : Int32).toInt = 0 := (by decide); omega)), (show CR ((σ 9).2.2.1 20) ((σ 9).2.2.1 20) 3 p2.toInt.toNat p3.toInt.toNat (0 : Int32).toInt.toNat from (by rw [show (0 : Int32).toInt.toNat = 0 by decide]; exact CR.nil)), trivial⟩ _ _ _ hP hS (lv_sub hl [0, 1, 2, 3, 4] rfl)
  intro y3 hI2 nl1 H locs ls hP hS hl
  obtain ⟨σ4, eσ4⟩ : ∃ z, z = y3.1 := ⟨_, rfl⟩
  rw [← eσ4] at hP hI2
  have hF5 : Fr (fL [20]) σ σ4 := hI2.1
  have hJ6 : J9 (σ4 9) := hI2.2.1
  have b7 : (0 : Int) ≤ (y3.2.1 0).toInt ∧ (y3.2.1 0).toInt ≤ 3 := hI2.2.2.1
  have b8 : CR ((σ4 9).2.2.1 20) ((σ 9).2.2.1 20) 3 p2.toInt.toNat p3.toInt.toNat (y3.2.1 0).toInt.toNat := hI2.2.2.2.1
  have hl : lv_has ls 5 [(4, .int (y3.2.1 0)), (0, .ref (g 20)), (1, .int 3), (2, .int p2), (3, .int p3)] := hl
  refine lv_iload hx hb dX9_copyRow_3 (lv_at hl 0 rfl) ?_
  refine lv_iload_n hx hb dX9_copyRow_5 rfl (lv_at hl 2 rfl) ?_
  refine lv_icmp_ge (tgt := 31) hx hb dX9_copyRow_6 (by decide) (fun c9 => ?_) (fun c9 => ?_)
  ·
    have k10 := ple32 c9
    exact W.vret hx hb hr (fun tS ht hW => ⟨⟨σ4, rfl, ⟨Fr.tr (Fr.rf) hF5 (fL_sub rfl), hJ6, (show CR (((σ4 9)).2.2.1 20) (((σ 9)).2.2.1 20) 3 p2.toInt.toNat p3.toInt.toNat 3 from (by have h := b8; rw [show (y3.2.1 0).toInt.toNat = 3 from (by have f0 := b7; have f1 := k10; have g0 := rg32 (y3.2.1 0); have z3 : (3 : Int32).toInt = 3 := (by decide); omega)] at h; exact h)), trivial⟩, (show va_P D clz (WD9 cy g σ4) tS.heap by rw [ht]; exact hP)⟩, hS.F ht⟩) hS.2.2 dX9_copyRow_31
  ·
    have k11 := nle32 c9
    refine lv_aload_n hx hb dX9_copyRow_9 rfl (lv_at hl 1 rfl) ?_
    refine lv_iload_n hx hb dX9_copyRow_10 rfl (lv_at hl 2 rfl) ?_
    refine lv_iload_n hx hb dX9_copyRow_11 rfl (lv_at hl 4 rfl) ?_
    refine lv_imul hx hb dX9_copyRow_12 ?_
    refine lv_topi (fun x12 ex12 => ?_)
    have t13 := mulC' (n := 3) ex12 (by decide) (by have f0 := h1; have f1 := h2; have f2 := h0; have g0 := rg32 p3; omega)
    refine lv_iload hx hb dX9_copyRow_13 (lv_at hl 0 rfl) ?_
    refine lv_iadd hx hb dX9_copyRow_15 ?_
    refine lv_topi (fun x14 ex14 => ?_)
    have t15 := addO ex14 (by have f0 := b7; have f1 := k11; have f2 := t13; have f3 := h1; have f4 := h2; have f5 := h0; have g0 := rg32 (y3.2.1 0); have g1 := rg32 x12; have z3 : (3 : Int32).toInt = 3 := (by decide); omega)
    refine lv_aload_n hx hb dX9_copyRow_16 rfl (lv_at hl 1 rfl) ?_
    refine lv_iload_n hx hb dX9_copyRow_17 rfl (lv_at hl 2 rfl) ?_
    refine lv_iload_n hx hb dX9_copyRow_18 rfl (lv_at hl 3 rfl) ?_
    refine lv_imul hx hb dX9_copyRow_19 ?_
    refine lv_topi (fun x16 ex16 => ?_)
    have t17 := mulC' (n := 3) ex16 (by decide) (by have f0 := h0; have f1 := h2; have f2 := h1; have f3 := t13; have f4 := t15; have f5 := b7; have f6 := k11; have g0 := rg32 p2; have z3 : (3 : Int32).toInt = 3 := (by decide); omega)
    refine lv_iload hx hb dX9_copyRow_20 (lv_at hl 0 rfl) ?_
    refine lv_iadd hx hb dX9_copyRow_22 ?_
    refine lv_topi (fun x18 ex18 => ?_)
    have t19 := addO ex18 (by have f0 := b7; have f1 := k11; have f2 := t15; have f3 := t17; have f4 := h0; have f5 := h2; have f6 := t13; have f7 := h1; have g0 := rg32 (y3.2.1 0); have g1 := rg32 x16; have z3 : (3 : Int32).toInt = 3 := (by decide); omega)
    obtain ⟨x20, ex20⟩ : ∃ z, (σ4 9).2.2.1 20 x18.toInt.toNat = z := ⟨_, rfl⟩
    refine l9_20 (x := x20) hx hb hK hP (vpo (by have f0 := t19; have f1 := b7; have f2 := k11; have f3 := t15; have f4 := t17; have f5 := h0; have f6 := h2; have f7 := t13; have f8 := h1; have g0 := rg32 x18; have z3 : (3 : Int32).toInt = 3 := (by decide); omega)) ex20 dX9_copyRow_23 ?_
    have t21 := a9_20 hJ6 ex20
    refine t9_20 hx hb hK hP hD hS (vpo (by have f0 := t15; have f1 := b7; have f2 := k11; have f3 := t13; have f4 := t19; have f5 := h1; have f6 := h2; have f7 := t17; have f8 := t21; have f9 := h0; have g0 := rg32 x14; have z3 : (3 : Int32).toInt = 3 := (by decide); omega)) dX9_copyRow_24 (fun H locs σ22 eσ22 hP hS => ?_)
    have hJ23 : J9 (σ22 9) := hJ6.A eσ22 (show PA9 20 x14.toInt.toNat x20 from (by have f0 := t15; have f1 := t21; have f2 := b7; have f3 := k11; have f4 := t13; have f5 := t19; have f6 := h1; have f7 := h2; have f8 := t17; have f9 := h0; have g0 := rg32 x14; have g1 := rg32 x20; have z3 : (3 : Int32).toInt = 3 := (by decide); exact ⟨by omega, by omega⟩))
    obtain ⟨x24, ex24⟩ : ∃ y : Int32, y = (y3.2.1 0) + 1 := ⟨_, rfl⟩
    have t25 := addO ex24 (by have f0 := b7; have f1 := k11; have f2 := t15; have f3 := t19; have f4 := t13; have f5 := t17; have f6 := t21; have f7 := h0; have f8 := h1; have f9 := h2; have g0 := rg32 (y3.2.1 0); have z1 : (1 : Int32).toInt = 1 := (by decide); have z3 : (3 : Int32).toInt = 3 := (by decide); omega)
    refine lv_iinc (v := x24) (lv' := [(4, .int x24), (0, .ref (g 20)), (1, .int 3), (2, .int p2), (3, .int p3)]) hx hb dX9_copyRow_25 hl (k := 0) rfl (by rw [ex24]; rfl) (by decide) rfl (fun ls hl => ?_)
    refine lv_goto (tgt := 3) hx hb dX9_copyRow_28 (by decide) ?_
    have t26 : ((4 : Int) - x24.toInt).toNat < ((4 : Int) - (y3.2.1 0).toInt).toNat := (by have f0 := b7; have f1 := k11; have f2 := t15; have f3 := t19; have f4 := t25; have f5 := t13; have f6 := t17; have f7 := t21; have f8 := h0; have f9 := h1; have f10 := h2; have g0 := rg32 (y3.2.1 0); have g1 := rg32 x24; have z1 : (1 : Int32).toInt = 1 := (by decide); have z3 : (3 : Int32).toInt = 3 := (by decide); omega)
    exact nl1 (σ22, lf [x24], lg []) ⟨Fr.tr (Fr.tr (Fr.rf) hF5 (fL_sub rfl)) (sA_f eσ22) (fN_L rfl), hJ23, (show (0 : Int) ≤ (x24 : Int32).toInt ∧ (x24 : Int32).toInt ≤ 3 from (by have f0 := t25; have f1 := b7; have f2 := k11; have f3 := t15; have f4 := t19; have f5 := t13; have f6 := t17; have f7 := t21; have f8 := h0; have f9 := h1; have f10 := h2; have g0 := rg32 x24; have z1 : (1 : Int32).toInt = 1 := (by decide); have z3 : (3 : Int32).toInt = 3 := (by decide); omega)), (show CR ((σ22 9).2.2.1 20) ((σ 9).2.2.1 20) 3 p2.toInt.toNat p3.toInt.toNat x24.toInt.toNat from (CR.step b8 (by have f0 := h0; have f1 := h1; have f2 := h2; have f3 := b7; have f4 := k11; have f5 := t13; have f6 := t15; have f7 := t17; have f8 := t19; have f9 := t21; have f10 := t25; have g0 := rg32 (y3.2.1 0); have g1 := rg32 p2; have g2 := rg32 p3; have g3 := rg32 x14; have g4 := rg32 x18; have g5 := rg32 x24; have z1 : (1 : Int32).toInt = 1 := (by decide); have z3 : (3 : Int32).toInt = 3 := (by decide); omega) (by have f0 := h0; have f1 := h1; have f2 := h2; have f3 := b7; have f4 := k11; have f5 := t13; have f6 := t15; have f7 := t17; have f8 := t19; have f9 := t21; have f10 := t25; have g0 := rg32 (y3.2.1 0); have g1 := rg32 p2; have g2 := rg32 p3; have g3 := rg32 x14; have g4 := rg32 x18; have g5 := rg32 x24; have z1 : (1 : Int32).toInt = 1 := (by decide); have z3 : (3 : Int32).toInt = 3 := (by decide); omega) (by have f0 := h0; have f1 := h1; have f2 := h2; have f3 := b7; have f4 := k11; have f5 := t13; have f6 := t15; have f7 := t17; have f8 := t19; have f9 := t21; have f10 := t25; have g0 := rg32 (y3.2.1 0); have g1 := rg32 p2; have g2 := rg32 p3; have g3 := rg32 x14; have g4 := rg32 x18; have g5 := rg32 x24; have z1 : (1 : Int32).toInt = 1 := (by decide); have z3 : (3 : Int32).toInt = 3 := (by decide); omega) (by have f0 := h0; have f1 := h1; have f2 := h2; have f3 := b7; have f4 := k11; have f5 := t13; have f6 := t15; have f7 := t17; have f8 := t19; have f9 := t21; have f10 := t25; have g0 := rg32 (y3.2.1 0); have g1 := rg32 p2; have g2 := rg32 p3; have g3 := rg32 x14; have g4 := rg32 x18; have g5 := rg32 x24; have z1 : (1 : Int32).toInt = 1 := (by decide); have z3 : (3 : Int32).toInt = 3 := (by decide); omega) ex20 (sA_s eσ22) (by have f0 := h0; have f1 := h1; have f2 := h2; have f3 := b7; have f4 := k11; have f5 := t13; have f6 := t15; have f7 := t17; have f8 := t19; have f9 := t21; have f10 := t25; have g0 := rg32 (y3.2.1 0); have g1 := rg32 p2; have g2 := rg32 p3; have g3 := rg32 x14; have g4 := rg32 x18; have g5 := rg32 x24; have z1 : (1 : Int32).toInt = 1 := (by decide); have z3 : (3 : Int32).toInt = 3 := (by decide); omega))), trivial⟩ (show ((4 : Int) - x24.toInt).toNat < _ from by first | exact t26 | (rw [← eσ4]; exact t26)) _ _ _ hP hS (lv_sub hl [0, 1, 2, 3, 4] rfl)

set_option maxHeartbeats 4000000 in
set_option maxRecDepth 100000 in
theorem m_X9_copyRow_21_c192 (l : Launch) (D : va_G) (cy : Nat → ClassId) (g : Nat → Nat) (σ : ST) (p2 : Int32) (p3 : Int32) (sz : Nat) (hJ : J9 (σ 9)) (h0 : (0 : Int) ≤ p2.toInt ∧ p2.toInt ≤ 4) (h1 : (0 : Int) ≤ p3.toInt ∧ p3.toInt ≤ 4) (h2 : ¬ p2.toInt = p3.toInt) : Met l yX9_copyRow (ww yX9_copyRow cX9_copyRow 5 none) ({ frames := 1, cells := 0, slots := 0, locals := 64 }) (va_Pc [.ref (g 21), .int 192, .int p2, .int p3] (pr9 D cy g σ sz)) (qv9 D cy g sz (fun τ => Fr (fL [21]) σ τ ∧ J9 (τ 9) ∧ (CR (((τ 9)).2.2.1 21) (((σ 9)).2.2.1 21) 192 p2.toInt.toNat p3.toInt.toNat 192) ∧ True)) 0 0 (A9 cy g sz) := by
  refine Met.ofW (cc := cX9_copyRow) (maxL := 5) (ret := none) (by decide) rfl ?_
  intro p e s m args below meth c s₁ B hml hv
  obtain ⟨rfl, hsz, hP, hK, hD0, hC⟩ := hv
  have hx := B.exec
  have hb := B.bytes
  have hr := B.returns
  have hts := hts_g (atoms_spec (ws := ww yX9_copyRow cX9_copyRow 5 none) B.pre)
  have hown : s.vm.findClass RX9 = some m.cls := findClass_of_methodNamed B.named
  have hlocks := B.notSynchronized
  clear B
  subst hsz
  have hD := fun τ => A9_D (sz := s.heap.size) hD0 τ
  clear hD0
  have hS : va_S (A9 cy g s.heap.size) s.heap s.heap [] := va_S.rf
  have hl := lv_entry ([.ref (g 21), .int 192, .int p2, .int p3]) (n := 5) (Nat.le_of_ble_eq_true rfl)
  rw [lg_entry_eq]
  generalize (lg_sl ([.ref (g 21), .int 192, .int p2, .int p3]) ++ List.replicate (5 - (lg_sl ([.ref (g 21), .int 192, .int p2, .int p3])).length) Slot.unset).toArray = ls at hl ⊢
  have hl : lv_has ls 5 [(0, .ref (g 21)), (1, .int 192), (2, .int p2), (3, .int p3)] := hl
  refine lv_iconst (v := 0) hx hb dX9_copyRow_0 (by decide) ?_
  refine lv_istore (lv' := [(4, .int 0), (0, .ref (g 21)), (1, .int 192), (2, .int p2), (3, .int p3)]) hx hb dX9_copyRow_1 hl (by decide) rfl (fun ls hl => ?_)
  refine loop9 5 3 (fun x : LZ => [(4, .int (x.2.1 0)), (0, .ref (g 21)), (1, .int 192), (2, .int p2), (3, .int p3)]) (fun x : LZ => (Fr (fL [21]) σ x.1) ∧ (J9 (x.1 9)) ∧ ((0 : Int) ≤ (x.2.1 0).toInt ∧ (x.2.1 0).toInt ≤ 192) ∧ (CR ((x.1 9).2.2.1 21) ((σ 9).2.2.1 21) 192 p2.toInt.toNat p3.toInt.toNat (x.2.1 0).toInt.toNat) ∧ True) (fun x : LZ => ((193 : Int) - (x.2.1 0).toInt).toNat) ?_ (σ, lf [0], lg []) ⟨Fr.rf, hJ, (show (0 : Int) ≤ (0 : Int32).toInt ∧ (0 : Int32).toInt ≤ 192 from (by have z0 : (0 : Int32).toInt = 0 := (by decide); omega)), (show CR ((σ 9).2.2.1 21) ((σ 9).2.2.1 21) 192 p2.toInt.toNat p3.toInt.toNat (0 : Int32).toInt.toNat from (by rw [show (0 : Int32).toInt.toNat = 0 by decide]; exact CR.nil)), trivial⟩ _ _ _ hP hS (lv_sub hl [0, 1, 2, 3, 4] rfl)
  intro y3 hI2 nl1 H locs ls hP hS hl
  obtain ⟨σ4, eσ4⟩ : ∃ z, z = y3.1 := ⟨_, rfl⟩
  rw [← eσ4] at hP hI2
  have hF5 : Fr (fL [21]) σ σ4 := hI2.1
  have hJ6 : J9 (σ4 9) := hI2.2.1
  have b7 : (0 : Int) ≤ (y3.2.1 0).toInt ∧ (y3.2.1 0).toInt ≤ 192 := hI2.2.2.1
  have b8 : CR ((σ4 9).2.2.1 21) ((σ 9).2.2.1 21) 192 p2.toInt.toNat p3.toInt.toNat (y3.2.1 0).toInt.toNat := hI2.2.2.2.1
  have hl : lv_has ls 5 [(4, .int (y3.2.1 0)), (0, .ref (g 21)), (1, .int 192), (2, .int p2), (3, .int p3)] := hl
  refine lv_iload hx hb dX9_copyRow_3 (lv_at hl 0 rfl) ?_
  refine lv_iload_n hx hb dX9_copyRow_5 rfl (lv_at hl 2 rfl) ?_
  refine lv_icmp_ge (tgt := 31) hx hb dX9_copyRow_6 (by decide) (fun c9 => ?_) (fun c9 => ?_)
  ·
    have k10 := ple32 c9
    exact W.vret hx hb hr (fun tS ht hW => ⟨⟨σ4, rfl, ⟨Fr.tr (Fr.rf) hF5 (fL_sub rfl), hJ6, (show CR (((σ4 9)).2.2.1 21) (((σ 9)).2.2.1 21) 192 p2.toInt.toNat p3.toInt.toNat 192 from (by have h := b8; rw [show (y3.2.1 0).toInt.toNat = 192 from (by have f0 := b7; have f1 := k10; have g0 := rg32 (y3.2.1 0); have z192 : (192 : Int32).toInt = 192 := (by decide); omega)] at h; exact h)), trivial⟩, (show va_P D clz (WD9 cy g σ4) tS.heap by rw [ht]; exact hP)⟩, hS.F ht⟩) hS.2.2 dX9_copyRow_31
  ·
    have k11 := nle32 c9
    refine lv_aload_n hx hb dX9_copyRow_9 rfl (lv_at hl 1 rfl) ?_
    refine lv_iload_n hx hb dX9_copyRow_10 rfl (lv_at hl 2 rfl) ?_
    refine lv_iload_n hx hb dX9_copyRow_11 rfl (lv_at hl 4 rfl) ?_
    refine lv_imul hx hb dX9_copyRow_12 ?_
    refine lv_topi (fun x12 ex12 => ?_)
    have t13 := mulC' (n := 192) ex12 (by decide) (by have f0 := h1; have f1 := h2; have f2 := h0; have g0 := rg32 p3; omega)
    refine lv_iload hx hb dX9_copyRow_13 (lv_at hl 0 rfl) ?_
    refine lv_iadd hx hb dX9_copyRow_15 ?_
    refine lv_topi (fun x14 ex14 => ?_)
    have t15 := addO ex14 (by have f0 := b7; have f1 := k11; have f2 := t13; have f3 := h1; have f4 := h2; have f5 := h0; have g0 := rg32 (y3.2.1 0); have g1 := rg32 x12; have z192 : (192 : Int32).toInt = 192 := (by decide); omega)
    refine lv_aload_n hx hb dX9_copyRow_16 rfl (lv_at hl 1 rfl) ?_
    refine lv_iload_n hx hb dX9_copyRow_17 rfl (lv_at hl 2 rfl) ?_
    refine lv_iload_n hx hb dX9_copyRow_18 rfl (lv_at hl 3 rfl) ?_
    refine lv_imul hx hb dX9_copyRow_19 ?_
    refine lv_topi (fun x16 ex16 => ?_)
    have t17 := mulC' (n := 192) ex16 (by decide) (by have f0 := h0; have f1 := h2; have f2 := h1; have f3 := t13; have f4 := t15; have f5 := b7; have f6 := k11; have g0 := rg32 p2; have z192 : (192 : Int32).toInt = 192 := (by decide); omega)
    refine lv_iload hx hb dX9_copyRow_20 (lv_at hl 0 rfl) ?_
    refine lv_iadd hx hb dX9_copyRow_22 ?_
    refine lv_topi (fun x18 ex18 => ?_)
    have t19 := addO ex18 (by have f0 := b7; have f1 := k11; have f2 := t15; have f3 := t17; have f4 := h0; have f5 := h2; have f6 := t13; have f7 := h1; have g0 := rg32 (y3.2.1 0); have g1 := rg32 x16; have z192 : (192 : Int32).toInt = 192 := (by decide); omega)
    obtain ⟨x20, ex20⟩ : ∃ z, (σ4 9).2.2.1 21 x18.toInt.toNat = z := ⟨_, rfl⟩
    refine l9_21 (x := x20) hx hb hK hP (vpo (by have f0 := t19; have f1 := b7; have f2 := k11; have f3 := t15; have f4 := t17; have f5 := h0; have f6 := h2; have f7 := t13; have f8 := h1; have g0 := rg32 x18; have z192 : (192 : Int32).toInt = 192 := (by decide); omega)) ex20 dX9_copyRow_23 ?_
    refine t9_21 hx hb hK hP hD hS (vpo (by have f0 := t15; have f1 := b7; have f2 := k11; have f3 := t13; have f4 := t19; have f5 := h1; have f6 := h2; have f7 := t17; have f8 := h0; have g0 := rg32 x14; have z192 : (192 : Int32).toInt = 192 := (by decide); omega)) dX9_copyRow_24 (fun H locs σ21 eσ21 hP hS => ?_)
    have hJ22 : J9 (σ21 9) := hJ6.A eσ21 (show PA9 21 x14.toInt.toNat x20 from (pa21 (show PA9 21 x18.toInt.toNat x20 from by rw [← ex20]; exact hJ6.2 21 _) (by have f0 := h0; have f1 := h1; have f2 := h2; have f3 := b7; have f4 := k11; have f5 := t13; have f6 := t15; have f7 := t17; have f8 := t19; have g0 := rg32 (y3.2.1 0); have g1 := rg32 p2; have g2 := rg32 p3; have g3 := rg32 x14; have g4 := rg32 x18; have z192 : (192 : Int32).toInt = 192 := (by decide); omega)))
    obtain ⟨x23, ex23⟩ : ∃ y : Int32, y = (y3.2.1 0) + 1 := ⟨_, rfl⟩
    have t24 := addO ex23 (by have f0 := b7; have f1 := k11; have f2 := t15; have f3 := t19; have f4 := t13; have f5 := t17; have f6 := h0; have f7 := h1; have f8 := h2; have g0 := rg32 (y3.2.1 0); have z1 : (1 : Int32).toInt = 1 := (by decide); have z192 : (192 : Int32).toInt = 192 := (by decide); omega)
    refine lv_iinc (v := x23) (lv' := [(4, .int x23), (0, .ref (g 21)), (1, .int 192), (2, .int p2), (3, .int p3)]) hx hb dX9_copyRow_25 hl (k := 0) rfl (by rw [ex23]; rfl) (by decide) rfl (fun ls hl => ?_)
    refine lv_goto (tgt := 3) hx hb dX9_copyRow_28 (by decide) ?_
    have t25 : ((193 : Int) - x23.toInt).toNat < ((193 : Int) - (y3.2.1 0).toInt).toNat := (by have f0 := b7; have f1 := k11; have f2 := t15; have f3 := t19; have f4 := t24; have f5 := t13; have f6 := t17; have f7 := h0; have f8 := h1; have f9 := h2; have g0 := rg32 (y3.2.1 0); have g1 := rg32 x23; have z1 : (1 : Int32).toInt = 1 := (by decide); have z192 : (192 : Int32).toInt = 192 := (by decide); omega)
    exact nl1 (σ21, lf [x23], lg []) ⟨Fr.tr (Fr.tr (Fr.rf) hF5 (fL_sub rfl)) (sA_f eσ21) (fN_L rfl), hJ22, (show (0 : Int) ≤ (x23 : Int32).toInt ∧ (x23 : Int32).toInt ≤ 192 from (by have f0 := t24; have f1 := b7; have f2 := k11; have f3 := t15; have f4 := t19; have f5 := t13; have f6 := t17; have f7 := h0; have f8 := h1; have f9 := h2; have g0 := rg32 x23; have z1 : (1 : Int32).toInt = 1 := (by decide); have z192 : (192 : Int32).toInt = 192 := (by decide); omega)), (show CR ((σ21 9).2.2.1 21) ((σ 9).2.2.1 21) 192 p2.toInt.toNat p3.toInt.toNat x23.toInt.toNat from (CR.step b8 (by have f0 := h0; have f1 := h1; have f2 := h2; have f3 := b7; have f4 := k11; have f5 := t13; have f6 := t15; have f7 := t17; have f8 := t19; have f9 := t24; have g0 := rg32 (y3.2.1 0); have g1 := rg32 p2; have g2 := rg32 p3; have g3 := rg32 x14; have g4 := rg32 x18; have g5 := rg32 x23; have z1 : (1 : Int32).toInt = 1 := (by decide); have z192 : (192 : Int32).toInt = 192 := (by decide); omega) (by have f0 := h0; have f1 := h1; have f2 := h2; have f3 := b7; have f4 := k11; have f5 := t13; have f6 := t15; have f7 := t17; have f8 := t19; have f9 := t24; have g0 := rg32 (y3.2.1 0); have g1 := rg32 p2; have g2 := rg32 p3; have g3 := rg32 x14; have g4 := rg32 x18; have g5 := rg32 x23; have z1 : (1 : Int32).toInt = 1 := (by decide); have z192 : (192 : Int32).toInt = 192 := (by decide); omega) (by have f0 := h0; have f1 := h1; have f2 := h2; have f3 := b7; have f4 := k11; have f5 := t13; have f6 := t15; have f7 := t17; have f8 := t19; have f9 := t24; have g0 := rg32 (y3.2.1 0); have g1 := rg32 p2; have g2 := rg32 p3; have g3 := rg32 x14; have g4 := rg32 x18; have g5 := rg32 x23; have z1 : (1 : Int32).toInt = 1 := (by decide); have z192 : (192 : Int32).toInt = 192 := (by decide); omega) (by have f0 := h0; have f1 := h1; have f2 := h2; have f3 := b7; have f4 := k11; have f5 := t13; have f6 := t15; have f7 := t17; have f8 := t19; have f9 := t24; have g0 := rg32 (y3.2.1 0); have g1 := rg32 p2; have g2 := rg32 p3; have g3 := rg32 x14; have g4 := rg32 x18; have g5 := rg32 x23; have z1 : (1 : Int32).toInt = 1 := (by decide); have z192 : (192 : Int32).toInt = 192 := (by decide); omega) ex20 (sA_s eσ21) (by have f0 := h0; have f1 := h1; have f2 := h2; have f3 := b7; have f4 := k11; have f5 := t13; have f6 := t15; have f7 := t17; have f8 := t19; have f9 := t24; have g0 := rg32 (y3.2.1 0); have g1 := rg32 p2; have g2 := rg32 p3; have g3 := rg32 x14; have g4 := rg32 x18; have g5 := rg32 x23; have z1 : (1 : Int32).toInt = 1 := (by decide); have z192 : (192 : Int32).toInt = 192 := (by decide); omega))), trivial⟩ (show ((193 : Int) - x23.toInt).toNat < _ from by first | exact t25 | (rw [← eσ4]; exact t25)) _ _ _ hP hS (lv_sub hl [0, 1, 2, 3, 4] rfl)

theorem q1693 : Cond.code yX9_copyDesk cX9_copyDesk 3 none ∈ lw_g := lw_gm (List.mem_of_getElem? (i := 1693) (by decide +kernel)) rfl
theorem q1694 : Cond.methodLink RX9 299 yX9_copyRow ∈ lw_g := lw_gm (List.mem_of_getElem? (i := 1694) (by decide +kernel)) rfl
theorem q1695 : Cond.static yX9_copyRow ∈ lw_g := lw_gm (List.mem_of_getElem? (i := 1695) (by decide +kernel)) rfl
theorem dX9_copyDesk_0 : decode cX9_copyDesk 0 = .ok (.aload_n 0, 1) := by decide +kernel
theorem dX9_copyDesk_1 : decode cX9_copyDesk 1 = .ok (.getfield 31, 3) := by decide +kernel
theorem dX9_copyDesk_4 : decode cX9_copyDesk 4 = .ok (.iconst 1, 1) := by decide +kernel
theorem dX9_copyDesk_5 : decode cX9_copyDesk 5 = .ok (.iload_n 1, 1) := by decide +kernel
theorem dX9_copyDesk_6 : decode cX9_copyDesk 6 = .ok (.iload_n 2, 1) := by decide +kernel
theorem dX9_copyDesk_7 : decode cX9_copyDesk 7 = .ok (.invokestatic 299, 3) := by decide +kernel
theorem dX9_copyDesk_10 : decode cX9_copyDesk 10 = .ok (.aload_n 0, 1) := by decide +kernel
theorem dX9_copyDesk_11 : decode cX9_copyDesk 11 = .ok (.getfield 34, 3) := by decide +kernel
theorem dX9_copyDesk_14 : decode cX9_copyDesk 14 = .ok (.iconst 5, 1) := by decide +kernel
theorem dX9_copyDesk_15 : decode cX9_copyDesk 15 = .ok (.iload_n 1, 1) := by decide +kernel
theorem dX9_copyDesk_16 : decode cX9_copyDesk 16 = .ok (.iload_n 2, 1) := by decide +kernel
theorem dX9_copyDesk_17 : decode cX9_copyDesk 17 = .ok (.invokestatic 299, 3) := by decide +kernel
theorem dX9_copyDesk_20 : decode cX9_copyDesk 20 = .ok (.aload_n 0, 1) := by decide +kernel
theorem dX9_copyDesk_21 : decode cX9_copyDesk 21 = .ok (.getfield 37, 3) := by decide +kernel
theorem dX9_copyDesk_24 : decode cX9_copyDesk 24 = .ok (.bipush 28, 2) := by decide +kernel
theorem dX9_copyDesk_26 : decode cX9_copyDesk 26 = .ok (.iload_n 1, 1) := by decide +kernel
theorem dX9_copyDesk_27 : decode cX9_copyDesk 27 = .ok (.iload_n 2, 1) := by decide +kernel
theorem dX9_copyDesk_28 : decode cX9_copyDesk 28 = .ok (.invokestatic 299, 3) := by decide +kernel
theorem dX9_copyDesk_31 : decode cX9_copyDesk 31 = .ok (.aload_n 0, 1) := by decide +kernel
theorem dX9_copyDesk_32 : decode cX9_copyDesk 32 = .ok (.getfield 40, 3) := by decide +kernel
theorem dX9_copyDesk_35 : decode cX9_copyDesk 35 = .ok (.bipush 36, 2) := by decide +kernel
theorem dX9_copyDesk_37 : decode cX9_copyDesk 37 = .ok (.iload_n 1, 1) := by decide +kernel
theorem dX9_copyDesk_38 : decode cX9_copyDesk 38 = .ok (.iload_n 2, 1) := by decide +kernel
theorem dX9_copyDesk_39 : decode cX9_copyDesk 39 = .ok (.invokestatic 299, 3) := by decide +kernel
theorem dX9_copyDesk_42 : decode cX9_copyDesk 42 = .ok (.aload_n 0, 1) := by decide +kernel
theorem dX9_copyDesk_43 : decode cX9_copyDesk 43 = .ok (.getfield 43, 3) := by decide +kernel
theorem dX9_copyDesk_46 : decode cX9_copyDesk 46 = .ok (.iconst 3, 1) := by decide +kernel
theorem dX9_copyDesk_47 : decode cX9_copyDesk 47 = .ok (.iload_n 1, 1) := by decide +kernel
theorem dX9_copyDesk_48 : decode cX9_copyDesk 48 = .ok (.iload_n 2, 1) := by decide +kernel
theorem dX9_copyDesk_49 : decode cX9_copyDesk 49 = .ok (.invokestatic 299, 3) := by decide +kernel
theorem dX9_copyDesk_52 : decode cX9_copyDesk 52 = .ok (.aload_n 0, 1) := by decide +kernel
theorem dX9_copyDesk_53 : decode cX9_copyDesk 53 = .ok (.getfield 46, 3) := by decide +kernel
theorem dX9_copyDesk_56 : decode cX9_copyDesk 56 = .ok (.sipush 192, 3) := by decide +kernel
theorem dX9_copyDesk_59 : decode cX9_copyDesk 59 = .ok (.iload_n 1, 1) := by decide +kernel
theorem dX9_copyDesk_60 : decode cX9_copyDesk 60 = .ok (.iload_n 2, 1) := by decide +kernel
theorem dX9_copyDesk_61 : decode cX9_copyDesk 61 = .ok (.invokestatic 299, 3) := by decide +kernel
theorem dX9_copyDesk_64 : decode cX9_copyDesk 64 = .ok (.return_, 1) := by decide +kernel
set_option maxHeartbeats 4000000 in
set_option maxRecDepth 100000 in
theorem m_X9_copyDesk (l : Launch) (D : va_G) (cy : Nat → ClassId) (g : Nat → Nat) (σ : ST) (p1 : Int32) (p2 : Int32) (sz : Nat) (hJ : J9 (σ 9)) (kDKA : DKA (σ 9)) (h0 : (0 : Int) ≤ p1.toInt ∧ p1.toInt ≤ 4) (h1 : (0 : Int) ≤ p2.toInt ∧ p2.toInt ≤ 4) (h2 : ¬ p1.toInt = p2.toInt) (h3 : DKd (σ 9) p1.toInt.toNat) : Met l yX9_copyDesk (ww yX9_copyDesk cX9_copyDesk 3 none) ({ frames := 2, cells := 0, slots := 0, locals := 128 }) (va_Pc [.ref (g 60), .int p1, .int p2] (pr9 D cy g σ sz)) (qv9 D cy g sz (fun τ => Fr (fL [16, 17, 18, 19, 20, 21]) σ τ ∧ J9 (τ 9) ∧ DKA (τ 9) ∧ True)) 0 0 (A9 cy g sz) := by
  refine Met.ofW (cc := cX9_copyDesk) (maxL := 3) (ret := none) (by decide) rfl ?_
  intro p e s m args below meth c s₁ B hml hv
  obtain ⟨rfl, hsz, hP, hK, hD0, hC⟩ := hv
  have hx := B.exec
  have hb := B.bytes
  have hr := B.returns
  have hts := hts_g (atoms_spec (ws := ww yX9_copyDesk cX9_copyDesk 3 none) B.pre)
  have hown : s.vm.findClass RX9 = some m.cls := findClass_of_methodNamed B.named
  have hlocks := B.notSynchronized
  clear B
  subst hsz
  have hD := fun τ => A9_D (sz := s.heap.size) hD0 τ
  clear hD0
  have hS : va_S (A9 cy g s.heap.size) s.heap s.heap [] := va_S.rf
  have hl := lv_entry ([.ref (g 60), .int p1, .int p2]) (n := 3) (Nat.le_of_ble_eq_true rfl)
  rw [lg_entry_eq]
  generalize (lg_sl ([.ref (g 60), .int p1, .int p2]) ++ List.replicate (3 - (lg_sl ([.ref (g 60), .int p1, .int p2])).length) Slot.unset).toArray = ls at hl ⊢
  have hl : lv_has ls 3 [(0, .ref (g 60)), (1, .int p1), (2, .int p2)] := hl
  refine lv_aload_n hx hb dX9_copyDesk_0 rfl (lv_at hl 0 rfl) ?_
  refine g9_16 hx hb hts hown hK hP (hts _ q1376) dX9_copyDesk_1 ?_
  refine lv_iconst (v := 1) hx hb dX9_copyDesk_4 (by decide) ?_
  refine lv_iload_n hx hb dX9_copyDesk_5 rfl (lv_at hl 1 rfl) ?_
  refine lv_iload_n hx hb dX9_copyDesk_6 rfl (lv_at hl 2 rfl) ?_
  refine va_callv (va_runS (As := [.ref (g 16), .int 1, .int p1, .int p2]) (rest := []) ⟨hx, hb, hml, hown, hts⟩ (m_X9_copyRow_16_c1 l D cy g σ p1 p2 _ hJ (show (0 : Int) ≤ p1.toInt ∧ p1.toInt ≤ 4 from (by have f0 := h0; have f1 := h2; have f2 := h1; have g0 := rg32 p1; omega)) (show (0 : Int) ≤ p2.toInt ∧ p2.toInt ≤ 4 from (by have f0 := h0; have f1 := h1; have f2 := h2; have g0 := rg32 p1; have g1 := rg32 p2; omega)) (show ¬ p1.toInt = p2.toInt from (by have f0 := h0; have f1 := h1; have f2 := h2; have g0 := rg32 p1; have g1 := rg32 p2; omega))) (va_cwS 4 hts (gd_S q1694 q1695 q134 q1696) rfl rfl rfl (by decide +kernel) ⟨Nat.le_of_ble_eq_true rfl, Nat.le_of_ble_eq_true rfl⟩) (ps9 hP hK hD hC hS) rfl rfl hl.1 rfl (lv_room (Nat.le_of_ble_eq_true rfl)) dX9_copyDesk_7 ⟨Nat.le_of_ble_eq_true rfl, Nat.le_of_ble_eq_true rfl⟩) hS (fun q _ h => up9 hS q h) (up9 hS) (fun σ2 tS H1 locs ht hvm hw3 hB hz1 hk1 hS => ?_)
  have hP : va_P D clz (WD9 cy g σ2) H1 := by rw [← ht]; exact hB
  clear hB hz1 hk1 hvm ht
  generalize H1 = H at hP hS ⊢
  have hF4 : Fr (fL [16]) σ σ2 := hw3.1
  have hJ5 : J9 (σ2 9) := hw3.2.1
  have b6 : CR (((σ2 9)).2.2.1 16) (((σ 9)).2.2.1 16) 1 p1.toInt.toNat p2.toInt.toNat 1 := hw3.2.2.1
  have T7 : DKA (σ2 9) := DKA.mv kDKA (hF4 9 17 rfl).2.2.1 (hF4 9 18 rfl).2.2.1 (hF4 9 19 rfl).2.2.1
  refine lv_aload_n hx hb dX9_copyDesk_10 rfl (lv_at hl 0 rfl) ?_
  refine g9_17 hx hb hts hown hK hP (hts _ q1377) dX9_copyDesk_11 ?_
  refine lv_iconst (v := 5) hx hb dX9_copyDesk_14 (by decide) ?_
  refine lv_iload_n hx hb dX9_copyDesk_15 rfl (lv_at hl 1 rfl) ?_
  refine lv_iload_n hx hb dX9_copyDesk_16 rfl (lv_at hl 2 rfl) ?_
  refine va_callv (va_runS (As := [.ref (g 17), .int 5, .int p1, .int p2]) (rest := []) ⟨hx, hb, hml, hown, hts⟩ (m_X9_copyRow_17_c5 l D cy g σ2 p1 p2 _ hJ5 (show (0 : Int) ≤ p1.toInt ∧ p1.toInt ≤ 4 from (by have f0 := h0; have f1 := h2; have f2 := h1; have g0 := rg32 p1; omega)) (show (0 : Int) ≤ p2.toInt ∧ p2.toInt ≤ 4 from (by have f0 := h0; have f1 := h1; have f2 := h2; have g0 := rg32 p1; have g1 := rg32 p2; omega)) (show ¬ p1.toInt = p2.toInt from (by have f0 := h0; have f1 := h1; have f2 := h2; have g0 := rg32 p1; have g1 := rg32 p2; omega))) (va_cwS 4 hts (gd_S q1694 q1695 q134 q1696) rfl rfl rfl (by decide +kernel) ⟨Nat.le_of_ble_eq_true rfl, Nat.le_of_ble_eq_true rfl⟩) (ps9 hP hK hD hC hS) rfl rfl hl.1 rfl (lv_room (Nat.le_of_ble_eq_true rfl)) dX9_copyDesk_17 ⟨Nat.le_of_ble_eq_true rfl, Nat.le_of_ble_eq_true rfl⟩) hS (fun q _ h => up9 hS q h) (up9 hS) (fun σ9 tS H1 locs ht hvm hw10 hB hz1 hk1 hS => ?_)
  have hP : va_P D clz (WD9 cy g σ9) H1 := by rw [← ht]; exact hB
  clear hB hz1 hk1 hvm ht
  generalize H1 = H at hP hS ⊢
  have hF11 : Fr (fL [17]) σ2 σ9 := hw10.1
  have hJ12 : J9 (σ9 9) := hw10.2.1
  have b13 : CR (((σ9 9)).2.2.1 17) (((σ2 9)).2.2.1 17) 5 p1.toInt.toNat p2.toInt.toNat 5 := hw10.2.2.1
  refine lv_aload_n hx hb dX9_copyDesk_20 rfl (lv_at hl 0 rfl) ?_
  refine g9_18 hx hb hts hown hK hP (hts _ q1378) dX9_copyDesk_21 ?_
  refine lv_bipush (v := 28) hx hb dX9_copyDesk_24 (by decide) ?_
  refine lv_iload_n hx hb dX9_copyDesk_26 rfl (lv_at hl 1 rfl) ?_
  refine lv_iload_n hx hb dX9_copyDesk_27 rfl (lv_at hl 2 rfl) ?_
  refine va_callv (va_runS (As := [.ref (g 18), .int 28, .int p1, .int p2]) (rest := []) ⟨hx, hb, hml, hown, hts⟩ (m_X9_copyRow_18_c28 l D cy g σ9 p1 p2 _ hJ12 (show (0 : Int) ≤ p1.toInt ∧ p1.toInt ≤ 4 from (by have f0 := h0; have f1 := h2; have f2 := h1; have g0 := rg32 p1; omega)) (show (0 : Int) ≤ p2.toInt ∧ p2.toInt ≤ 4 from (by have f0 := h0; have f1 := h1; have f2 := h2; have g0 := rg32 p1; have g1 := rg32 p2; omega)) (show ¬ p1.toInt = p2.toInt from (by have f0 := h0; have f1 := h1; have f2 := h2; have g0 := rg32 p1; have g1 := rg32 p2; omega))) (va_cwS 4 hts (gd_S q1694 q1695 q134 q1696) rfl rfl rfl (by decide +kernel) ⟨Nat.le_of_ble_eq_true rfl, Nat.le_of_ble_eq_true rfl⟩) (ps9 hP hK hD hC hS) rfl rfl hl.1 rfl (lv_room (Nat.le_of_ble_eq_true rfl)) dX9_copyDesk_28 ⟨Nat.le_of_ble_eq_true rfl, Nat.le_of_ble_eq_true rfl⟩) hS (fun q _ h => up9 hS q h) (up9 hS) (fun σ16 tS H1 locs ht hvm hw17 hB hz1 hk1 hS => ?_)
  have hP : va_P D clz (WD9 cy g σ16) H1 := by rw [← ht]; exact hB
  clear hB hz1 hk1 hvm ht
  generalize H1 = H at hP hS ⊢
  have hF18 : Fr (fL [18]) σ9 σ16 := hw17.1
  have hJ19 : J9 (σ16 9) := hw17.2.1
  have b20 : CR (((σ16 9)).2.2.1 18) (((σ9 9)).2.2.1 18) 28 p1.toInt.toNat p2.toInt.toNat 28 := hw17.2.2.1
  refine lv_aload_n hx hb dX9_copyDesk_31 rfl (lv_at hl 0 rfl) ?_
  refine g9_19 hx hb hts hown hK hP (hts _ q1379) dX9_copyDesk_32 ?_
  refine lv_bipush (v := 36) hx hb dX9_copyDesk_35 (by decide) ?_
  refine lv_iload_n hx hb dX9_copyDesk_37 rfl (lv_at hl 1 rfl) ?_
  refine lv_iload_n hx hb dX9_copyDesk_38 rfl (lv_at hl 2 rfl) ?_
  refine va_callv (va_runS (As := [.ref (g 19), .int 36, .int p1, .int p2]) (rest := []) ⟨hx, hb, hml, hown, hts⟩ (m_X9_copyRow_19_c36 l D cy g σ16 p1 p2 _ hJ19 (show (0 : Int) ≤ p1.toInt ∧ p1.toInt ≤ 4 from (by have f0 := h0; have f1 := h2; have f2 := h1; have g0 := rg32 p1; omega)) (show (0 : Int) ≤ p2.toInt ∧ p2.toInt ≤ 4 from (by have f0 := h0; have f1 := h1; have f2 := h2; have g0 := rg32 p1; have g1 := rg32 p2; omega)) (show ¬ p1.toInt = p2.toInt from (by have f0 := h0; have f1 := h1; have f2 := h2; have g0 := rg32 p1; have g1 := rg32 p2; omega))) (va_cwS 4 hts (gd_S q1694 q1695 q134 q1696) rfl rfl rfl (by decide +kernel) ⟨Nat.le_of_ble_eq_true rfl, Nat.le_of_ble_eq_true rfl⟩) (ps9 hP hK hD hC hS) rfl rfl hl.1 rfl (lv_room (Nat.le_of_ble_eq_true rfl)) dX9_copyDesk_39 ⟨Nat.le_of_ble_eq_true rfl, Nat.le_of_ble_eq_true rfl⟩) hS (fun q _ h => up9 hS q h) (up9 hS) (fun σ22 tS H1 locs ht hvm hw23 hB hz1 hk1 hS => ?_)
  have hP : va_P D clz (WD9 cy g σ22) H1 := by rw [← ht]; exact hB
  clear hB hz1 hk1 hvm ht
  generalize H1 = H at hP hS ⊢
  have hF24 : Fr (fL [19]) σ16 σ22 := hw23.1
  have hJ25 : J9 (σ22 9) := hw23.2.1
  have b26 : CR (((σ22 9)).2.2.1 19) (((σ16 9)).2.2.1 19) 36 p1.toInt.toNat p2.toInt.toNat 36 := hw23.2.2.1
  refine lv_aload_n hx hb dX9_copyDesk_42 rfl (lv_at hl 0 rfl) ?_
  refine g9_20 hx hb hts hown hK hP (hts _ q1380) dX9_copyDesk_43 ?_
  refine lv_iconst (v := 3) hx hb dX9_copyDesk_46 (by decide) ?_
  refine lv_iload_n hx hb dX9_copyDesk_47 rfl (lv_at hl 1 rfl) ?_
  refine lv_iload_n hx hb dX9_copyDesk_48 rfl (lv_at hl 2 rfl) ?_
  refine va_callv (va_runS (As := [.ref (g 20), .int 3, .int p1, .int p2]) (rest := []) ⟨hx, hb, hml, hown, hts⟩ (m_X9_copyRow_20_c3 l D cy g σ22 p1 p2 _ hJ25 (show (0 : Int) ≤ p1.toInt ∧ p1.toInt ≤ 4 from (by have f0 := h0; have f1 := h2; have f2 := h1; have g0 := rg32 p1; omega)) (show (0 : Int) ≤ p2.toInt ∧ p2.toInt ≤ 4 from (by have f0 := h0; have f1 := h1; have f2 := h2; have g0 := rg32 p1; have g1 := rg32 p2; omega)) (show ¬ p1.toInt = p2.toInt from (by have f0 := h0; have f1 := h1; have f2 := h2; have g0 := rg32 p1; have g1 := rg32 p2; omega))) (va_cwS 4 hts (gd_S q1694 q1695 q134 q1696) rfl rfl rfl (by decide +kernel) ⟨Nat.le_of_ble_eq_true rfl, Nat.le_of_ble_eq_true rfl⟩) (ps9 hP hK hD hC hS) rfl rfl hl.1 rfl (lv_room (Nat.le_of_ble_eq_true rfl)) dX9_copyDesk_49 ⟨Nat.le_of_ble_eq_true rfl, Nat.le_of_ble_eq_true rfl⟩) hS (fun q _ h => up9 hS q h) (up9 hS) (fun σ28 tS H1 locs ht hvm hw29 hB hz1 hk1 hS => ?_)
  have hP : va_P D clz (WD9 cy g σ28) H1 := by rw [← ht]; exact hB
  clear hB hz1 hk1 hvm ht
  generalize H1 = H at hP hS ⊢
  have hF30 : Fr (fL [20]) σ22 σ28 := hw29.1
  have hJ31 : J9 (σ28 9) := hw29.2.1
  have b32 : CR (((σ28 9)).2.2.1 20) (((σ22 9)).2.2.1 20) 3 p1.toInt.toNat p2.toInt.toNat 3 := hw29.2.2.1
  refine lv_aload_n hx hb dX9_copyDesk_52 rfl (lv_at hl 0 rfl) ?_
  refine g9_21 hx hb hts hown hK hP (hts _ q1381) dX9_copyDesk_53 ?_
  refine lv_sipush (v := 192) hx hb dX9_copyDesk_56 (by decide) ?_
  refine lv_iload_n hx hb dX9_copyDesk_59 rfl (lv_at hl 1 rfl) ?_
  refine lv_iload_n hx hb dX9_copyDesk_60 rfl (lv_at hl 2 rfl) ?_
  refine va_callv (va_runS (As := [.ref (g 21), .int 192, .int p1, .int p2]) (rest := []) ⟨hx, hb, hml, hown, hts⟩ (m_X9_copyRow_21_c192 l D cy g σ28 p1 p2 _ hJ31 (show (0 : Int) ≤ p1.toInt ∧ p1.toInt ≤ 4 from (by have f0 := h0; have f1 := h2; have f2 := h1; have g0 := rg32 p1; omega)) (show (0 : Int) ≤ p2.toInt ∧ p2.toInt ≤ 4 from (by have f0 := h0; have f1 := h1; have f2 := h2; have g0 := rg32 p1; have g1 := rg32 p2; omega)) (show ¬ p1.toInt = p2.toInt from (by have f0 := h0; have f1 := h1; have f2 := h2; have g0 := rg32 p1; have g1 := rg32 p2; omega))) (va_cwS 4 hts (gd_S q1694 q1695 q134 q1696) rfl rfl rfl (by decide +kernel) ⟨Nat.le_of_ble_eq_true rfl, Nat.le_of_ble_eq_true rfl⟩) (ps9 hP hK hD hC hS) rfl rfl hl.1 rfl (lv_room (Nat.le_of_ble_eq_true rfl)) dX9_copyDesk_61 ⟨Nat.le_of_ble_eq_true rfl, Nat.le_of_ble_eq_true rfl⟩) hS (fun q _ h => up9 hS q h) (up9 hS) (fun σ34 tS H1 locs ht hvm hw35 hB hz1 hk1 hS => ?_)
  have hP : va_P D clz (WD9 cy g σ34) H1 := by rw [← ht]; exact hB
  clear hB hz1 hk1 hvm ht
  generalize H1 = H at hP hS ⊢
  have hF36 : Fr (fL [21]) σ28 σ34 := hw35.1
  have hJ37 : J9 (σ34 9) := hw35.2.1
  have b38 : CR (((σ34 9)).2.2.1 21) (((σ28 9)).2.2.1 21) 192 p1.toInt.toNat p2.toInt.toNat 192 := hw35.2.2.1
  exact W.vret hx hb hr (fun tS ht hW => ⟨⟨σ34, rfl, ⟨Fr.tr (Fr.tr (Fr.tr (Fr.tr (Fr.tr (Fr.tr (Fr.rf) hF4 (fL_sub rfl)) hF11 (fL_sub rfl)) hF18 (fL_sub rfl)) hF24 (fL_sub rfl)) hF30 (fL_sub rfl)) hF36 (fL_sub rfl), hJ37, DKA.copy kDKA hJ h3 (show CR ((σ34 9).2.2.1 17) ((σ 9).2.2.1 17) 5 p1.toInt.toNat p2.toInt.toNat 5 from (by rw [((hF36 9 17 rfl).2.2.1).trans (((hF30 9 17 rfl).2.2.1).trans (((hF24 9 17 rfl).2.2.1).trans ((hF18 9 17 rfl).2.2.1))), ← ((hF4 9 17 rfl).2.2.1)]; exact b13)) (show CR ((σ34 9).2.2.1 18) ((σ 9).2.2.1 18) 28 p1.toInt.toNat p2.toInt.toNat 28 from (by rw [((hF36 9 18 rfl).2.2.1).trans (((hF30 9 18 rfl).2.2.1).trans ((hF24 9 18 rfl).2.2.1)), ← (((hF11 9 18 rfl).2.2.1).trans ((hF4 9 18 rfl).2.2.1))]; exact b20)) (show CR ((σ34 9).2.2.1 19) ((σ 9).2.2.1 19) 36 p1.toInt.toNat p2.toInt.toNat 36 from (by rw [((hF36 9 19 rfl).2.2.1).trans ((hF30 9 19 rfl).2.2.1), ← (((hF18 9 19 rfl).2.2.1).trans (((hF11 9 19 rfl).2.2.1).trans ((hF4 9 19 rfl).2.2.1)))]; exact b26)), trivial⟩, (show va_P D clz (WD9 cy g σ34) tS.heap by rw [ht]; exact hP)⟩, hS.F ht⟩) hS.2.2 dX9_copyDesk_64

theorem q2147 : Cond.code yX9_keep cX9_keep 2 (some .int) ∈ lw_g := lw_gm (List.mem_of_getElem? (i := 2147) (by decide +kernel)) rfl
theorem q1690 : Cond.methodLink RX9 295 yX9_copyDesk ∈ lw_g := lw_gm (List.mem_of_getElem? (i := 1690) (by decide +kernel)) rfl
theorem q1692 : Cond.instanceMethod yX9_copyDesk ∈ lw_g := lw_gm (List.mem_of_getElem? (i := 1692) (by decide +kernel)) rfl
theorem q70 : Cond.selects RX9 yX9_copyDesk yX9_copyDesk ∈ lw_g := lw_gm (List.mem_of_getElem? (i := 70) (by decide +kernel)) rfl
theorem q1382 : Cond.fieldLink RX9 49 "LipsAndSlidesModel" "isKept" "[Z" ∈ lw_g := lw_gm (List.mem_of_getElem? (i := 1382) (by decide +kernel)) rfl
theorem dX9_keep_0 : decode cX9_keep 0 = .ok (.aload_n 0, 1) := by decide +kernel
theorem dX9_keep_1 : decode cX9_keep 1 = .ok (.iconst 0, 1) := by decide +kernel
theorem dX9_keep_2 : decode cX9_keep 2 = .ok (.putfield 129, 3) := by decide +kernel
theorem dX9_keep_5 : decode cX9_keep 5 = .ok (.iload_n 1, 1) := by decide +kernel
theorem dX9_keep_6 : decode cX9_keep 6 = .ok (.i2l, 1) := by decide +kernel
theorem dX9_keep_7 : decode cX9_keep 7 = .ok (.lconst 0, 1) := by decide +kernel
theorem dX9_keep_8 : decode cX9_keep 8 = .ok (.ldc2_w 351, 3) := by decide +kernel
theorem dX9_keep_11 : decode cX9_keep 11 = .ok (.invokestatic 134, 3) := by decide +kernel
theorem dX9_keep_14 : decode cX9_keep 14 = .ok (.ifCond .ne 6, 3) := by decide +kernel
theorem dX9_keep_17 : decode cX9_keep 17 = .ok (.bipush (-2), 2) := by decide +kernel
theorem dX9_keep_19 : decode cX9_keep 19 = .ok (.ireturn, 1) := by decide +kernel
theorem dX9_keep_20 : decode cX9_keep 20 = .ok (.aload_n 0, 1) := by decide +kernel
theorem dX9_keep_21 : decode cX9_keep 21 = .ok (.iconst 0, 1) := by decide +kernel
theorem dX9_keep_22 : decode cX9_keep 22 = .ok (.iconst 1, 1) := by decide +kernel
theorem dX9_keep_23 : decode cX9_keep 23 = .ok (.iload_n 1, 1) := by decide +kernel
theorem dX9_keep_24 : decode cX9_keep 24 = .ok (.iadd, 1) := by decide +kernel
theorem dX9_keep_25 : decode cX9_keep 25 = .ok (.invokevirtual 295, 3) := by decide +kernel
theorem dX9_keep_28 : decode cX9_keep 28 = .ok (.aload_n 0, 1) := by decide +kernel
theorem dX9_keep_29 : decode cX9_keep 29 = .ok (.getfield 49, 3) := by decide +kernel
theorem dX9_keep_32 : decode cX9_keep 32 = .ok (.iload_n 1, 1) := by decide +kernel
theorem dX9_keep_33 : decode cX9_keep 33 = .ok (.iconst 1, 1) := by decide +kernel
theorem dX9_keep_34 : decode cX9_keep 34 = .ok (.bastore, 1) := by decide +kernel
theorem dX9_keep_35 : decode cX9_keep 35 = .ok (.iconst 0, 1) := by decide +kernel
theorem dX9_keep_36 : decode cX9_keep 36 = .ok (.ireturn, 1) := by decide +kernel
set_option maxHeartbeats 4000000 in
set_option maxRecDepth 100000 in
theorem m_X9_keep (l : Launch) (D : va_G) (cy : Nat → ClassId) (g : Nat → Nat) (σ : ST) (p1 : Int32) (sz : Nat) (hJ : J9 (σ 9)) (kDKA : DKA (σ 9)) : Met l yX9_keep (ww yX9_keep cX9_keep 2 (some .int)) ({ frames := 3, cells := 0, slots := 0, locals := 192 }) (va_Pc [.ref (g 60), .int p1] (pr9 D cy g σ sz)) (qi9 D cy g sz (fun r τ => Fr (fL [0, 16, 17, 18, 19, 20, 21, 22]) σ τ ∧ J9 (τ 9) ∧ DKA (τ 9) ∧ (((p1.toInt < 0 ∨ 2 < p1.toInt) ∧ r.toInt = -2) ∨ (0 ≤ p1.toInt ∧ p1.toInt ≤ 2 ∧ r.toInt = 0)) ∧ ((r.toInt = 0 ∧ ((τ 9)).2.2.1 22 = upd (((σ 9)).2.2.1 22) p1.toInt.toNat (vp_nar .boolean 1)) ∨ (¬ r.toInt = 0 ∧ ((τ 9)).2.2.1 22 = ((σ 9)).2.2.1 22)) ∧ True)) 0 0 (A9 cy g sz) := by
  refine Met.ofW (cc := cX9_keep) (maxL := 2) (ret := (some .int)) (by decide) rfl ?_
  intro p e s m args below meth c s₁ B hml hv
  obtain ⟨rfl, hsz, hP, hK, hD0, hC⟩ := hv
  have hx := B.exec
  have hb := B.bytes
  have hr := B.returns
  have hts := hts_g (atoms_spec (ws := ww yX9_keep cX9_keep 2 (some .int)) B.pre)
  have hown : s.vm.findClass RX9 = some m.cls := findClass_of_methodNamed B.named
  have hlocks := B.notSynchronized
  clear B
  subst hsz
  have hD := fun τ => A9_D (sz := s.heap.size) hD0 τ
  clear hD0
  have hS : va_S (A9 cy g s.heap.size) s.heap s.heap [] := va_S.rf
  have hl := lv_entry ([.ref (g 60), .int p1]) (n := 2) (Nat.le_of_ble_eq_true rfl)
  rw [lg_entry_eq]
  generalize (lg_sl ([.ref (g 60), .int p1]) ++ List.replicate (2 - (lg_sl ([.ref (g 60), .int p1])).length) Slot.unset).toArray = ls at hl ⊢
  have hl : lv_has ls 2 [(0, .ref (g 60)), (1, .int p1)] := hl
  refine lv_aload_n hx hb dX9_keep_0 rfl (lv_at hl 0 rfl) ?_
  refine lv_iconst (v := 0) hx hb dX9_keep_1 (by decide) ?_
  refine p9_0 hx hb hts hown hK hP hD hS (hts _ q1360) dX9_keep_2 (fun H locs σ1 eσ1 hP hS => ?_)
  have hJ2 : J9 (σ1 9) := hJ.I eσ1 (show JI9 0 (0 : Int32) from trivial)
  have T3 : DKA (σ1 9) := DKA.mv kDKA ((sI_f eσ1) 9 17 rfl).2.2.1 ((sI_f eσ1) 9 18 rfl).2.2.1 ((sI_f eσ1) 9 19 rfl).2.2.1
  refine lv_iload_n hx hb dX9_keep_5 rfl (lv_at hl 1 rfl) ?_
  refine lv_i2l (v := p1.toInt64) hx hb dX9_keep_6 rfl ?_
  refine lv_lconst (v := 0) hx hb dX9_keep_7 (by decide) ?_
  refine lv_ldc2 (v := 2) hx hb hown (hts _ q1771) dX9_keep_8 ?_
  refine va_calli (va_runS (As := [.long p1.toInt64, .long 0, .long 2]) (rest := []) ⟨hx, hb, hml, hown, hts⟩ (m_X9_in l D cy g σ1 p1.toInt64 (0) (2) _ hJ2 ) (va_cwS 3 hts (gd_S q1550 q1551 q134 q1552) rfl rfl rfl (by decide +kernel) ⟨Nat.le_of_ble_eq_true rfl, Nat.le_of_ble_eq_true rfl⟩) (ps9 hP hK hD hC hS) rfl rfl hl.1 rfl (lv_room (Nat.le_of_ble_eq_true rfl)) dX9_keep_11 ⟨Nat.le_of_ble_eq_true rfl, Nat.le_of_ble_eq_true rfl⟩) hS (fun q _ h => up9 hS q h) (up9 hS) (fun r4 σ5 tS H1 locs ht hvm hw6 hB hz1 hk1 hS => ?_)
  have hP : va_P D clz (WD9 cy g σ5) H1 := by rw [← ht]; exact hB
  clear hB hz1 hk1 hvm ht
  generalize H1 = H at hP hS ⊢
  have hw6E : σ1 = σ5 := (hw6.1).symm
  subst hw6E
  have b7 : (0 : Int) ≤ r4.toInt ∧ r4.toInt ≤ 1 := hw6.2.1
  have b8 : (r4.toInt = 1 ∧ (0 : Int64).toInt ≤ p1.toInt64.toInt ∧ p1.toInt64.toInt ≤ (2 : Int64).toInt) ∨ (r4.toInt = 0 ∧ ¬ ((0 : Int64).toInt ≤ p1.toInt64.toInt ∧ p1.toInt64.toInt ≤ (2 : Int64).toInt)) := hw6.2.2.1
  refine lv_if_ne (tgt := 20) hx hb dX9_keep_14 (by decide) (fun c9 => ?_) (fun c9 => ?_)
  ·
    have k10 := neq32 c9
    refine lv_aload_n hx hb dX9_keep_20 rfl (lv_at hl 0 rfl) ?_
    refine lv_iconst (v := 0) hx hb dX9_keep_21 (by decide) ?_
    refine lv_iconst (v := 1) hx hb dX9_keep_22 (by decide) ?_
    refine lv_iload_n hx hb dX9_keep_23 rfl (lv_at hl 1 rfl) ?_
    refine lv_iadd hx hb dX9_keep_24 ?_
    refine lv_topi (fun x11 ex11 => ?_)
    have t12 := addO ex11 (by have f0 := t64 (a := p1); have f1 := rg32 p1; have f2 := b8; have f3 := b7; have f4 := k10; have g0 := rg32 p1; have z0 : (0 : Int32).toInt = 0 := (by decide); have zl0 : (0 : Int64).toInt = 0 := (by decide); have z1 : (1 : Int32).toInt = 1 := (by decide); have zl2 : (2 : Int64).toInt = 2 := (by decide); have w10 := t64 (a := p1); omega)
    refine va_callv (va_runV (As := [.int 0, .int x11]) (rest := []) ⟨hx, hb, hml, hown, hts⟩ (m_X9_copyDesk l D cy g σ1 (0) x11 _ hJ2 T3 (show (0 : Int) ≤ (0 : Int32).toInt ∧ (0 : Int32).toInt ≤ 4 from (by have z0 : (0 : Int32).toInt = 0 := (by decide); omega)) (show (0 : Int) ≤ x11.toInt ∧ x11.toInt ≤ 4 from (by have f0 := t12; have f1 := t64 (a := p1); have f2 := rg32 p1; have f3 := b8; have f4 := b7; have f5 := k10; have g0 := rg32 x11; have z0 : (0 : Int32).toInt = 0 := (by decide); have zl0 : (0 : Int64).toInt = 0 := (by decide); have z1 : (1 : Int32).toInt = 1 := (by decide); have zl2 : (2 : Int64).toInt = 2 := (by decide); have w11 := t64 (a := p1); omega)) (show ¬ (0 : Int32).toInt = x11.toInt from (by have f0 := t12; have f1 := t64 (a := p1); have f2 := rg32 p1; have f3 := b8; have f4 := b7; have f5 := k10; have g0 := rg32 x11; have z0 : (0 : Int32).toInt = 0 := (by decide); have zl0 : (0 : Int64).toInt = 0 := (by decide); have z1 : (1 : Int32).toInt = 1 := (by decide); have zl2 : (2 : Int64).toInt = 2 := (by decide); have w11 := t64 (a := p1); omega)) (show DKd (σ1 9) (0 : Int32).toInt.toNat from (by rw [show (0 : Int32).toInt.toNat = 0 by decide]; exact T3 0 (by omega)))) (cwV 2 hts (gd_V q1690 q1692 q70 q134 q1693) rfl rfl rfl (by decide +kernel) ⟨Nat.le_of_ble_eq_true rfl, Nat.le_of_ble_eq_true rfl⟩) (pv9 hP hK hD hC hS (va_recv hK hP (ci := 9) (q0 := 0) rfl rfl)) rfl rfl hl.1 rfl (lv_room (Nat.le_of_ble_eq_true rfl)) dX9_keep_25 ⟨Nat.le_of_ble_eq_true rfl, Nat.le_of_ble_eq_true rfl⟩) hS (fun q _ h => up9 hS q h) (up9 hS) (fun σ14 tS H1 locs ht hvm hw15 hB hz1 hk1 hS => ?_)
    have hP : va_P D clz (WD9 cy g σ14) H1 := by rw [← ht]; exact hB
    clear hB hz1 hk1 hvm ht
    generalize H1 = H at hP hS ⊢
    have hF16 : Fr (fL [16, 17, 18, 19, 20, 21]) σ1 σ14 := hw15.1
    have hJ17 : J9 (σ14 9) := hw15.2.1
    refine lv_aload_n hx hb dX9_keep_28 rfl (lv_at hl 0 rfl) ?_
    refine g9_22 hx hb hts hown hK hP (hts _ q1382) dX9_keep_29 ?_
    refine lv_iload_n hx hb dX9_keep_32 rfl (lv_at hl 1 rfl) ?_
    refine lv_iconst (v := 1) hx hb dX9_keep_33 (by decide) ?_
    refine t9_22 hx hb hK hP hD hS (vpo (by have f0 := t64 (a := p1); have f1 := rg32 p1; have f2 := t12; have f3 := b8; have f4 := b7; have f5 := k10; have g0 := rg32 p1; have z0 : (0 : Int32).toInt = 0 := (by decide); have zl0 : (0 : Int64).toInt = 0 := (by decide); have z1 : (1 : Int32).toInt = 1 := (by decide); have zl2 : (2 : Int64).toInt = 2 := (by decide); have w11 := t64 (a := p1); omega)) dX9_keep_34 (fun H locs σ18 eσ18 hP hS => ?_)
    have hJ19 : J9 (σ18 9) := hJ17.A eσ18 trivial
    have T20 : DKA (σ18 9) := DKA.mv hw15.2.2.1 ((sA_f eσ18) 9 17 rfl).2.2.1 ((sA_f eσ18) 9 18 rfl).2.2.1 ((sA_f eσ18) 9 19 rfl).2.2.1
    refine lv_iconst (v := 0) hx hb dX9_keep_35 (by decide) ?_
    exact W.iret (v := 0) hx hb hr (fun tS ht hW => ⟨⟨0, σ18, rfl, ⟨Fr.tr (Fr.tr (Fr.tr (Fr.rf) (sI_f eσ1) (fN_L rfl)) hF16 (fL_sub rfl)) (sA_f eσ18) (fN_L rfl), hJ19, T20, (show ((p1.toInt < 0 ∨ 2 < p1.toInt) ∧ (0 : Int32).toInt = -2) ∨ (0 ≤ p1.toInt ∧ p1.toInt ≤ 2 ∧ (0 : Int32).toInt = 0) from (by have f0 := t64 (a := p1); have f1 := rg32 p1; have f2 := t12; have f3 := b8; have f4 := b7; have f5 := k10; have g0 := rg32 p1; have z0 : (0 : Int32).toInt = 0 := (by decide); have zl0 : (0 : Int64).toInt = 0 := (by decide); have z1 : (1 : Int32).toInt = 1 := (by decide); have zl2 : (2 : Int64).toInt = 2 := (by decide); have w11 := t64 (a := p1); omega)), (show ((0 : Int32).toInt = 0 ∧ ((σ18 9)).2.2.1 22 = upd (((σ 9)).2.2.1 22) p1.toInt.toNat (vp_nar .boolean 1)) ∨ (¬ (0 : Int32).toInt = 0 ∧ ((σ18 9)).2.2.1 22 = ((σ 9)).2.2.1 22) from (Or.inl ⟨(by have z0 : (0 : Int32).toInt = 0 := (by decide); omega), (by rw [sA_s eσ18, ((hF16 9 22 rfl).2.2.1).trans (((sI_f eσ1) 9 22 rfl).2.2.1)])⟩)), trivial⟩, (show va_P D clz (WD9 cy g σ18) tS.heap by rw [ht]; exact hP)⟩, hS.F ht⟩) hS.2.2 dX9_keep_36
  ·
    have k21 := peq32 c9
    refine lv_bipush (v := (-2)) hx hb dX9_keep_17 (by decide) ?_
    exact W.iret (v := (-2)) hx hb hr (fun tS ht hW => ⟨⟨(-2), σ1, rfl, ⟨Fr.tr (Fr.rf) (sI_f eσ1) (fN_L rfl), hJ2, T3, (show ((p1.toInt < 0 ∨ 2 < p1.toInt) ∧ ((-2) : Int32).toInt = -2) ∨ (0 ≤ p1.toInt ∧ p1.toInt ≤ 2 ∧ ((-2) : Int32).toInt = 0) from (by have f0 := t64 (a := p1); have f1 := rg32 p1; have f2 := b8; have f3 := b7; have f4 := k21; have g0 := rg32 p1; have zm2 : ((-2) : Int32).toInt = (-2) := (by decide); have z0 : (0 : Int32).toInt = 0 := (by decide); have zl0 : (0 : Int64).toInt = 0 := (by decide); have zl2 : (2 : Int64).toInt = 2 := (by decide); have w10 := t64 (a := p1); omega)), (show (((-2) : Int32).toInt = 0 ∧ ((σ1 9)).2.2.1 22 = upd (((σ 9)).2.2.1 22) p1.toInt.toNat (vp_nar .boolean 1)) ∨ (¬ ((-2) : Int32).toInt = 0 ∧ ((σ1 9)).2.2.1 22 = ((σ 9)).2.2.1 22) from (Or.inr ⟨(by have zm2 : ((-2) : Int32).toInt = (-2) := (by decide); omega), ((sI_f eσ1) 9 22 rfl).2.2.1⟩)), trivial⟩, (show va_P D clz (WD9 cy g σ1) tS.heap by rw [ht]; exact hP)⟩, hS.F ht⟩) hS.2.2 dX9_keep_19

theorem q2151 : Cond.code yX9_back cX9_back 2 (some .int) ∈ lw_g := lw_gm (List.mem_of_getElem? (i := 2151) (by decide +kernel)) rfl
theorem dX9_back_0 : decode cX9_back 0 = .ok (.aload_n 0, 1) := by decide +kernel
theorem dX9_back_1 : decode cX9_back 1 = .ok (.iconst 0, 1) := by decide +kernel
theorem dX9_back_2 : decode cX9_back 2 = .ok (.putfield 129, 3) := by decide +kernel
theorem dX9_back_5 : decode cX9_back 5 = .ok (.iload_n 1, 1) := by decide +kernel
theorem dX9_back_6 : decode cX9_back 6 = .ok (.i2l, 1) := by decide +kernel
theorem dX9_back_7 : decode cX9_back 7 = .ok (.lconst 0, 1) := by decide +kernel
theorem dX9_back_8 : decode cX9_back 8 = .ok (.ldc2_w 351, 3) := by decide +kernel
theorem dX9_back_11 : decode cX9_back 11 = .ok (.invokestatic 134, 3) := by decide +kernel
theorem dX9_back_14 : decode cX9_back 14 = .ok (.ifCond .ne 6, 3) := by decide +kernel
theorem dX9_back_17 : decode cX9_back 17 = .ok (.bipush (-2), 2) := by decide +kernel
theorem dX9_back_19 : decode cX9_back 19 = .ok (.ireturn, 1) := by decide +kernel
theorem dX9_back_20 : decode cX9_back 20 = .ok (.aload_n 0, 1) := by decide +kernel
theorem dX9_back_21 : decode cX9_back 21 = .ok (.getfield 49, 3) := by decide +kernel
theorem dX9_back_24 : decode cX9_back 24 = .ok (.iload_n 1, 1) := by decide +kernel
theorem dX9_back_25 : decode cX9_back 25 = .ok (.baload, 1) := by decide +kernel
theorem dX9_back_26 : decode cX9_back 26 = .ok (.ifCond .ne 6, 3) := by decide +kernel
theorem dX9_back_29 : decode cX9_back 29 = .ok (.bipush (-6), 2) := by decide +kernel
theorem dX9_back_31 : decode cX9_back 31 = .ok (.ireturn, 1) := by decide +kernel
theorem dX9_back_32 : decode cX9_back 32 = .ok (.aload_n 0, 1) := by decide +kernel
theorem dX9_back_33 : decode cX9_back 33 = .ok (.iconst 1, 1) := by decide +kernel
theorem dX9_back_34 : decode cX9_back 34 = .ok (.iload_n 1, 1) := by decide +kernel
theorem dX9_back_35 : decode cX9_back 35 = .ok (.iadd, 1) := by decide +kernel
theorem dX9_back_36 : decode cX9_back 36 = .ok (.iconst 0, 1) := by decide +kernel
theorem dX9_back_37 : decode cX9_back 37 = .ok (.invokevirtual 295, 3) := by decide +kernel
theorem dX9_back_40 : decode cX9_back 40 = .ok (.iconst 0, 1) := by decide +kernel
theorem dX9_back_41 : decode cX9_back 41 = .ok (.ireturn, 1) := by decide +kernel
set_option maxHeartbeats 4000000 in
set_option maxRecDepth 100000 in
theorem m_X9_back (l : Launch) (D : va_G) (cy : Nat → ClassId) (g : Nat → Nat) (σ : ST) (p1 : Int32) (sz : Nat) (hJ : J9 (σ 9)) (kDKA : DKA (σ 9)) : Met l yX9_back (ww yX9_back cX9_back 2 (some .int)) ({ frames := 3, cells := 0, slots := 0, locals := 192 }) (va_Pc [.ref (g 60), .int p1] (pr9 D cy g σ sz)) (qi9 D cy g sz (fun r τ => Fr (fL [0, 16, 17, 18, 19, 20, 21]) σ τ ∧ J9 (τ 9) ∧ DKA (τ 9) ∧ ((¬ (0 ≤ p1.toInt ∧ p1.toInt ≤ 2) ∧ r.toInt = -2) ∨ ((0 ≤ p1.toInt ∧ p1.toInt ≤ 2) ∧ ((σ 9).2.2.1 22 (p1.toInt.toNat)).toInt = 0 ∧ r.toInt = -6) ∨ ((0 ≤ p1.toInt ∧ p1.toInt ≤ 2) ∧ ¬ ((σ 9).2.2.1 22 (p1.toInt.toNat)).toInt = 0 ∧ r.toInt = 0)) ∧ True)) 0 0 (A9 cy g sz) := by
  refine Met.ofW (cc := cX9_back) (maxL := 2) (ret := (some .int)) (by decide) rfl ?_
  intro p e s m args below meth c s₁ B hml hv
  obtain ⟨rfl, hsz, hP, hK, hD0, hC⟩ := hv
  have hx := B.exec
  have hb := B.bytes
  have hr := B.returns
  have hts := hts_g (atoms_spec (ws := ww yX9_back cX9_back 2 (some .int)) B.pre)
  have hown : s.vm.findClass RX9 = some m.cls := findClass_of_methodNamed B.named
  have hlocks := B.notSynchronized
  clear B
  subst hsz
  have hD := fun τ => A9_D (sz := s.heap.size) hD0 τ
  clear hD0
  have hS : va_S (A9 cy g s.heap.size) s.heap s.heap [] := va_S.rf
  have hl := lv_entry ([.ref (g 60), .int p1]) (n := 2) (Nat.le_of_ble_eq_true rfl)
  rw [lg_entry_eq]
  generalize (lg_sl ([.ref (g 60), .int p1]) ++ List.replicate (2 - (lg_sl ([.ref (g 60), .int p1])).length) Slot.unset).toArray = ls at hl ⊢
  have hl : lv_has ls 2 [(0, .ref (g 60)), (1, .int p1)] := hl
  refine lv_aload_n hx hb dX9_back_0 rfl (lv_at hl 0 rfl) ?_
  refine lv_iconst (v := 0) hx hb dX9_back_1 (by decide) ?_
  refine p9_0 hx hb hts hown hK hP hD hS (hts _ q1360) dX9_back_2 (fun H locs σ1 eσ1 hP hS => ?_)
  have hJ2 : J9 (σ1 9) := hJ.I eσ1 (show JI9 0 (0 : Int32) from trivial)
  have T3 : DKA (σ1 9) := DKA.mv kDKA ((sI_f eσ1) 9 17 rfl).2.2.1 ((sI_f eσ1) 9 18 rfl).2.2.1 ((sI_f eσ1) 9 19 rfl).2.2.1
  refine lv_iload_n hx hb dX9_back_5 rfl (lv_at hl 1 rfl) ?_
  refine lv_i2l (v := p1.toInt64) hx hb dX9_back_6 rfl ?_
  refine lv_lconst (v := 0) hx hb dX9_back_7 (by decide) ?_
  refine lv_ldc2 (v := 2) hx hb hown (hts _ q1771) dX9_back_8 ?_
  refine va_calli (va_runS (As := [.long p1.toInt64, .long 0, .long 2]) (rest := []) ⟨hx, hb, hml, hown, hts⟩ (m_X9_in l D cy g σ1 p1.toInt64 (0) (2) _ hJ2 ) (va_cwS 3 hts (gd_S q1550 q1551 q134 q1552) rfl rfl rfl (by decide +kernel) ⟨Nat.le_of_ble_eq_true rfl, Nat.le_of_ble_eq_true rfl⟩) (ps9 hP hK hD hC hS) rfl rfl hl.1 rfl (lv_room (Nat.le_of_ble_eq_true rfl)) dX9_back_11 ⟨Nat.le_of_ble_eq_true rfl, Nat.le_of_ble_eq_true rfl⟩) hS (fun q _ h => up9 hS q h) (up9 hS) (fun r4 σ5 tS H1 locs ht hvm hw6 hB hz1 hk1 hS => ?_)
  have hP : va_P D clz (WD9 cy g σ5) H1 := by rw [← ht]; exact hB
  clear hB hz1 hk1 hvm ht
  generalize H1 = H at hP hS ⊢
  have hw6E : σ1 = σ5 := (hw6.1).symm
  subst hw6E
  have b7 : (0 : Int) ≤ r4.toInt ∧ r4.toInt ≤ 1 := hw6.2.1
  have b8 : (r4.toInt = 1 ∧ (0 : Int64).toInt ≤ p1.toInt64.toInt ∧ p1.toInt64.toInt ≤ (2 : Int64).toInt) ∨ (r4.toInt = 0 ∧ ¬ ((0 : Int64).toInt ≤ p1.toInt64.toInt ∧ p1.toInt64.toInt ≤ (2 : Int64).toInt)) := hw6.2.2.1
  refine lv_if_ne (tgt := 20) hx hb dX9_back_14 (by decide) (fun c9 => ?_) (fun c9 => ?_)
  ·
    have k10 := neq32 c9
    refine lv_aload_n hx hb dX9_back_20 rfl (lv_at hl 0 rfl) ?_
    refine g9_22 hx hb hts hown hK hP (hts _ q1382) dX9_back_21 ?_
    refine lv_iload_n hx hb dX9_back_24 rfl (lv_at hl 1 rfl) ?_
    obtain ⟨x11, ex11⟩ : ∃ z, (σ 9).2.2.1 22 p1.toInt.toNat = z := ⟨_, rfl⟩
    refine l9_22 (x := x11) hx hb hK hP (vpo (by have f0 := t64 (a := p1); have f1 := rg32 p1; have f2 := b8; have f3 := b7; have f4 := k10; have g0 := rg32 p1; have z0 : (0 : Int32).toInt = 0 := (by decide); have zl0 : (0 : Int64).toInt = 0 := (by decide); have zl2 : (2 : Int64).toInt = 2 := (by decide); have w9 := t64 (a := p1); omega)) ((congrFun (((sI_f eσ1) 9 22 rfl).2.2.1) _).trans ex11) dX9_back_25 ?_
    refine lv_if_ne (tgt := 32) hx hb dX9_back_26 (by decide) (fun c12 => ?_) (fun c12 => ?_)
    ·
      have k13 := neq32 c12
      refine lv_aload_n hx hb dX9_back_32 rfl (lv_at hl 0 rfl) ?_
      refine lv_iconst (v := 1) hx hb dX9_back_33 (by decide) ?_
      refine lv_iload_n hx hb dX9_back_34 rfl (lv_at hl 1 rfl) ?_
      refine lv_iadd hx hb dX9_back_35 ?_
      refine lv_topi (fun x14 ex14 => ?_)
      have t15 := addO ex14 (by have f0 := t64 (a := p1); have f1 := rg32 p1; have f2 := b8; have f3 := b7; have f4 := k10; have g0 := rg32 p1; have z0 : (0 : Int32).toInt = 0 := (by decide); have zl0 : (0 : Int64).toInt = 0 := (by decide); have z1 : (1 : Int32).toInt = 1 := (by decide); have zl2 : (2 : Int64).toInt = 2 := (by decide); have w10 := t64 (a := p1); omega)
      refine lv_iconst (v := 0) hx hb dX9_back_36 (by decide) ?_
      refine va_callv (va_runV (As := [.int x14, .int 0]) (rest := []) ⟨hx, hb, hml, hown, hts⟩ (m_X9_copyDesk l D cy g σ1 x14 (0) _ hJ2 T3 (show (0 : Int) ≤ x14.toInt ∧ x14.toInt ≤ 4 from (by have f0 := t15; have f1 := t64 (a := p1); have f2 := rg32 p1; have f3 := b8; have f4 := b7; have f5 := k10; have g0 := rg32 x14; have z0 : (0 : Int32).toInt = 0 := (by decide); have zl0 : (0 : Int64).toInt = 0 := (by decide); have z1 : (1 : Int32).toInt = 1 := (by decide); have zl2 : (2 : Int64).toInt = 2 := (by decide); have w11 := t64 (a := p1); omega)) (show (0 : Int) ≤ (0 : Int32).toInt ∧ (0 : Int32).toInt ≤ 4 from (by have f0 := t15; have f1 := t64 (a := p1); have f2 := rg32 p1; have f3 := b8; have f4 := b7; have f5 := k10; have g0 := rg32 x14; have z0 : (0 : Int32).toInt = 0 := (by decide); have zl0 : (0 : Int64).toInt = 0 := (by decide); have z1 : (1 : Int32).toInt = 1 := (by decide); have zl2 : (2 : Int64).toInt = 2 := (by decide); have w11 := t64 (a := p1); omega)) (show ¬ x14.toInt = (0 : Int32).toInt from (by have f0 := t15; have f1 := t64 (a := p1); have f2 := rg32 p1; have f3 := b8; have f4 := b7; have f5 := k10; have g0 := rg32 x14; have z0 : (0 : Int32).toInt = 0 := (by decide); have zl0 : (0 : Int64).toInt = 0 := (by decide); have z1 : (1 : Int32).toInt = 1 := (by decide); have zl2 : (2 : Int64).toInt = 2 := (by decide); have w11 := t64 (a := p1); omega)) (show DKd (σ1 9) x14.toInt.toNat from (T3 _ (by have f0 := t15; have f1 := t64 (a := p1); have f2 := rg32 p1; have f3 := b8; have f4 := b7; have f5 := k10; have g0 := rg32 x14; have z0 : (0 : Int32).toInt = 0 := (by decide); have zl0 : (0 : Int64).toInt = 0 := (by decide); have z1 : (1 : Int32).toInt = 1 := (by decide); have zl2 : (2 : Int64).toInt = 2 := (by decide); have w11 := t64 (a := p1); omega)))) (cwV 2 hts (gd_V q1690 q1692 q70 q134 q1693) rfl rfl rfl (by decide +kernel) ⟨Nat.le_of_ble_eq_true rfl, Nat.le_of_ble_eq_true rfl⟩) (pv9 hP hK hD hC hS (va_recv hK hP (ci := 9) (q0 := 0) rfl rfl)) rfl rfl hl.1 rfl (lv_room (Nat.le_of_ble_eq_true rfl)) dX9_back_37 ⟨Nat.le_of_ble_eq_true rfl, Nat.le_of_ble_eq_true rfl⟩) hS (fun q _ h => up9 hS q h) (up9 hS) (fun σ17 tS H1 locs ht hvm hw18 hB hz1 hk1 hS => ?_)
      have hP : va_P D clz (WD9 cy g σ17) H1 := by rw [← ht]; exact hB
      clear hB hz1 hk1 hvm ht
      generalize H1 = H at hP hS ⊢
      have hF19 : Fr (fL [16, 17, 18, 19, 20, 21]) σ1 σ17 := hw18.1
      have hJ20 : J9 (σ17 9) := hw18.2.1
      refine lv_iconst (v := 0) hx hb dX9_back_40 (by decide) ?_
      exact W.iret (v := 0) hx hb hr (fun tS ht hW => ⟨⟨0, σ17, rfl, ⟨Fr.tr (Fr.tr (Fr.rf) (sI_f eσ1) (fN_L rfl)) hF19 (fL_sub rfl), hJ20, hw18.2.2.1, (show (¬ (0 ≤ p1.toInt ∧ p1.toInt ≤ 2) ∧ (0 : Int32).toInt = -2) ∨ ((0 ≤ p1.toInt ∧ p1.toInt ≤ 2) ∧ ((σ 9).2.2.1 22 (p1.toInt.toNat)).toInt = 0 ∧ (0 : Int32).toInt = -6) ∨ ((0 ≤ p1.toInt ∧ p1.toInt ≤ 2) ∧ ¬ ((σ 9).2.2.1 22 (p1.toInt.toNat)).toInt = 0 ∧ (0 : Int32).toInt = 0) from (by rw [ex11]; have f0 := t64 (a := p1); have f1 := rg32 p1; have f2 := k13; have f3 := t15; have f4 := b8; have f5 := b7; have f6 := k10; have g1 := rg32 p1; have g2 := rg32 x11; have z0 : (0 : Int32).toInt = 0 := (by decide); have zl0 : (0 : Int64).toInt = 0 := (by decide); have z1 : (1 : Int32).toInt = 1 := (by decide); have zl2 : (2 : Int64).toInt = 2 := (by decide); have w13 := t64 (a := p1); exact (Or.inr (Or.inr (by omega))))), trivial⟩, (show va_P D clz (WD9 cy g σ17) tS.heap by rw [ht]; exact hP)⟩, hS.F ht⟩) hS.2.2 dX9_back_41
    ·
      have k21 := peq32 c12
      refine lv_bipush (v := (-6)) hx hb dX9_back_29 (by decide) ?_
      exact W.iret (v := (-6)) hx hb hr (fun tS ht hW => ⟨⟨(-6), σ1, rfl, ⟨Fr.tr (Fr.rf) (sI_f eσ1) (fN_L rfl), hJ2, T3, (show (¬ (0 ≤ p1.toInt ∧ p1.toInt ≤ 2) ∧ ((-6) : Int32).toInt = -2) ∨ ((0 ≤ p1.toInt ∧ p1.toInt ≤ 2) ∧ ((σ 9).2.2.1 22 (p1.toInt.toNat)).toInt = 0 ∧ ((-6) : Int32).toInt = -6) ∨ ((0 ≤ p1.toInt ∧ p1.toInt ≤ 2) ∧ ¬ ((σ 9).2.2.1 22 (p1.toInt.toNat)).toInt = 0 ∧ ((-6) : Int32).toInt = 0) from (by rw [ex11]; have f0 := t64 (a := p1); have f1 := rg32 p1; have f2 := k21; have f3 := b8; have f4 := b7; have f5 := k10; have g1 := rg32 p1; have g2 := rg32 x11; have zm6 : ((-6) : Int32).toInt = (-6) := (by decide); have z0 : (0 : Int32).toInt = 0 := (by decide); have zl0 : (0 : Int64).toInt = 0 := (by decide); have zl2 : (2 : Int64).toInt = 2 := (by decide); have w12 := t64 (a := p1); exact (Or.inr (Or.inl (by omega))))), trivial⟩, (show va_P D clz (WD9 cy g σ1) tS.heap by rw [ht]; exact hP)⟩, hS.F ht⟩) hS.2.2 dX9_back_31
  ·
    have k22 := peq32 c9
    refine lv_bipush (v := (-2)) hx hb dX9_back_17 (by decide) ?_
    exact W.iret (v := (-2)) hx hb hr (fun tS ht hW => ⟨⟨(-2), σ1, rfl, ⟨Fr.tr (Fr.rf) (sI_f eσ1) (fN_L rfl), hJ2, T3, (show (¬ (0 ≤ p1.toInt ∧ p1.toInt ≤ 2) ∧ ((-2) : Int32).toInt = -2) ∨ ((0 ≤ p1.toInt ∧ p1.toInt ≤ 2) ∧ ((σ 9).2.2.1 22 (p1.toInt.toNat)).toInt = 0 ∧ ((-2) : Int32).toInt = -6) ∨ ((0 ≤ p1.toInt ∧ p1.toInt ≤ 2) ∧ ¬ ((σ 9).2.2.1 22 (p1.toInt.toNat)).toInt = 0 ∧ ((-2) : Int32).toInt = 0) from (by have f0 := t64 (a := p1); have f1 := rg32 p1; have f2 := b8; have f3 := b7; have f4 := k22; have g1 := rg32 p1; have zm2 : ((-2) : Int32).toInt = (-2) := (by decide); have z0 : (0 : Int32).toInt = 0 := (by decide); have zl0 : (0 : Int64).toInt = 0 := (by decide); have zl2 : (2 : Int64).toInt = 2 := (by decide); have w10 := t64 (a := p1); exact (Or.inl (by omega)))), trivial⟩, (show va_P D clz (WD9 cy g σ1) tS.heap by rw [ht]; exact hP)⟩, hS.F ht⟩) hS.2.2 dX9_back_19

theorem q2105 : Cond.code yX9_train cX9_train 4 (some .int) ∈ lw_g := lw_gm (List.mem_of_getElem? (i := 2105) (by decide +kernel)) rfl
theorem q2108 : Cond.constantLong RX9 554 (999) ∈ lw_g := lw_gm (List.mem_of_getElem? (i := 2108) (by decide +kernel)) rfl
theorem q2107 : Cond.constantLong RX9 552 (30) ∈ lw_g := lw_gm (List.mem_of_getElem? (i := 2107) (by decide +kernel)) rfl
theorem q2106 : Cond.constantLong RX9 550 (9) ∈ lw_g := lw_gm (List.mem_of_getElem? (i := 2106) (by decide +kernel)) rfl
theorem dX9_train_0 : decode cX9_train 0 = .ok (.aload_n 0, 1) := by decide +kernel
theorem dX9_train_1 : decode cX9_train 1 = .ok (.iconst 0, 1) := by decide +kernel
theorem dX9_train_2 : decode cX9_train 2 = .ok (.putfield 129, 3) := by decide +kernel
theorem dX9_train_5 : decode cX9_train 5 = .ok (.aload_n 0, 1) := by decide +kernel
theorem dX9_train_6 : decode cX9_train 6 = .ok (.iload_n 1, 1) := by decide +kernel
theorem dX9_train_7 : decode cX9_train 7 = .ok (.invokevirtual 317, 3) := by decide +kernel
theorem dX9_train_10 : decode cX9_train 10 = .ok (.ifCond .eq 58, 3) := by decide +kernel
theorem dX9_train_13 : decode cX9_train 13 = .ok (.iload_n 2, 1) := by decide +kernel
theorem dX9_train_14 : decode cX9_train 14 = .ok (.i2l, 1) := by decide +kernel
theorem dX9_train_15 : decode cX9_train 15 = .ok (.lconst 1, 1) := by decide +kernel
theorem dX9_train_16 : decode cX9_train 16 = .ok (.ldc2_w 132, 3) := by decide +kernel
theorem dX9_train_19 : decode cX9_train 19 = .ok (.invokestatic 134, 3) := by decide +kernel
theorem dX9_train_22 : decode cX9_train 22 = .ok (.ifCond .eq 46, 3) := by decide +kernel
theorem dX9_train_25 : decode cX9_train 25 = .ok (.iload_n 3, 1) := by decide +kernel
theorem dX9_train_26 : decode cX9_train 26 = .ok (.i2l, 1) := by decide +kernel
theorem dX9_train_27 : decode cX9_train 27 = .ok (.iload_n 2, 1) := by decide +kernel
theorem dX9_train_28 : decode cX9_train 28 = .ok (.iconst 2, 1) := by decide +kernel
theorem dX9_train_29 : decode cX9_train 29 = .ok (.if_icmp .ne 7, 3) := by decide +kernel
theorem dX9_train_32 : decode cX9_train 32 = .ok (.lconst 1, 1) := by decide +kernel
theorem dX9_train_33 : decode cX9_train 33 = .ok (.goto 4, 3) := by decide +kernel
theorem dX9_train_36 : decode cX9_train 36 = .ok (.lconst 0, 1) := by decide +kernel
theorem dX9_train_37 : decode cX9_train 37 = .ok (.iload_n 2, 1) := by decide +kernel
theorem dX9_train_38 : decode cX9_train 38 = .ok (.iconst 1, 1) := by decide +kernel
theorem dX9_train_39 : decode cX9_train 39 = .ok (.if_icmp .ne 9, 3) := by decide +kernel
theorem dX9_train_42 : decode cX9_train 42 = .ok (.ldc2_w 550, 3) := by decide +kernel
theorem dX9_train_45 : decode cX9_train 45 = .ok (.goto 17, 3) := by decide +kernel
theorem dX9_train_48 : decode cX9_train 48 = .ok (.iload_n 2, 1) := by decide +kernel
theorem dX9_train_49 : decode cX9_train 49 = .ok (.iconst 2, 1) := by decide +kernel
theorem dX9_train_50 : decode cX9_train 50 = .ok (.if_icmp .ne 9, 3) := by decide +kernel
theorem dX9_train_53 : decode cX9_train 53 = .ok (.ldc2_w 552, 3) := by decide +kernel
theorem dX9_train_56 : decode cX9_train 56 = .ok (.goto 6, 3) := by decide +kernel
theorem dX9_train_59 : decode cX9_train 59 = .ok (.ldc2_w 554, 3) := by decide +kernel
theorem dX9_train_62 : decode cX9_train 62 = .ok (.invokestatic 134, 3) := by decide +kernel
theorem dX9_train_65 : decode cX9_train 65 = .ok (.ifCond .ne 6, 3) := by decide +kernel
theorem dX9_train_68 : decode cX9_train 68 = .ok (.bipush (-2), 2) := by decide +kernel
theorem dX9_train_70 : decode cX9_train 70 = .ok (.ireturn, 1) := by decide +kernel
theorem dX9_train_71 : decode cX9_train 71 = .ok (.aload_n 0, 1) := by decide +kernel
theorem dX9_train_72 : decode cX9_train 72 = .ok (.getfield 40, 3) := by decide +kernel
theorem dX9_train_75 : decode cX9_train 75 = .ok (.iconst 4, 1) := by decide +kernel
theorem dX9_train_76 : decode cX9_train 76 = .ok (.iload_n 1, 1) := by decide +kernel
theorem dX9_train_77 : decode cX9_train 77 = .ok (.imul, 1) := by decide +kernel
theorem dX9_train_78 : decode cX9_train 78 = .ok (.iload_n 2, 1) := by decide +kernel
theorem dX9_train_79 : decode cX9_train 79 = .ok (.iadd, 1) := by decide +kernel
theorem dX9_train_80 : decode cX9_train 80 = .ok (.iload_n 3, 1) := by decide +kernel
theorem dX9_train_81 : decode cX9_train 81 = .ok (.invokestatic 556, 3) := by decide +kernel
theorem dX9_train_84 : decode cX9_train 84 = .ok (.ireturn, 1) := by decide +kernel
set_option maxHeartbeats 4000000 in
set_option maxRecDepth 100000 in
theorem m_X9_train (l : Launch) (D : va_G) (cy : Nat → ClassId) (g : Nat → Nat) (σ : ST) (p1 : Int32) (p2 : Int32) (p3 : Int32) (sz : Nat) (hJ : J9 (σ 9)) (kDKA : DKA (σ 9)) : Met l yX9_train (ww yX9_train cX9_train 4 (some .int)) ({ frames := 3, cells := 0, slots := 0, locals := 192 }) (va_Pc [.ref (g 60), .int p1, .int p2, .int p3] (pr9 D cy g σ sz)) (qi9 D cy g sz (fun r τ => Fr (fL [0, 19]) σ τ ∧ J9 (τ 9) ∧ DKA (τ 9) ∧ True)) 0 0 (A9 cy g sz) := by
  refine Met.ofW (cc := cX9_train) (maxL := 4) (ret := (some .int)) (by decide) rfl ?_
  intro p e s m args below meth c s₁ B hml hv
  obtain ⟨rfl, hsz, hP, hK, hD0, hC⟩ := hv
  have hx := B.exec
  have hb := B.bytes
  have hr := B.returns
  have hts := hts_g (atoms_spec (ws := ww yX9_train cX9_train 4 (some .int)) B.pre)
  have hown : s.vm.findClass RX9 = some m.cls := findClass_of_methodNamed B.named
  have hlocks := B.notSynchronized
  clear B
  subst hsz
  have hD := fun τ => A9_D (sz := s.heap.size) hD0 τ
  clear hD0
  have hS : va_S (A9 cy g s.heap.size) s.heap s.heap [] := va_S.rf
  have hl := lv_entry ([.ref (g 60), .int p1, .int p2, .int p3]) (n := 4) (Nat.le_of_ble_eq_true rfl)
  rw [lg_entry_eq]
  generalize (lg_sl ([.ref (g 60), .int p1, .int p2, .int p3]) ++ List.replicate (4 - (lg_sl ([.ref (g 60), .int p1, .int p2, .int p3])).length) Slot.unset).toArray = ls at hl ⊢
  have hl : lv_has ls 4 [(0, .ref (g 60)), (1, .int p1), (2, .int p2), (3, .int p3)] := hl
  refine lv_aload_n hx hb dX9_train_0 rfl (lv_at hl 0 rfl) ?_
  refine lv_iconst (v := 0) hx hb dX9_train_1 (by decide) ?_
  refine p9_0 hx hb hts hown hK hP hD hS (hts _ q1360) dX9_train_2 (fun H locs σ1 eσ1 hP hS => ?_)
  have hJ2 : J9 (σ1 9) := hJ.I eσ1 (show JI9 0 (0 : Int32) from trivial)
  have T3 : DKA (σ1 9) := DKA.mv kDKA ((sI_f eσ1) 9 17 rfl).2.2.1 ((sI_f eσ1) 9 18 rfl).2.2.1 ((sI_f eσ1) 9 19 rfl).2.2.1
  refine lv_aload_n hx hb dX9_train_5 rfl (lv_at hl 0 rfl) ?_
  refine lv_iload_n hx hb dX9_train_6 rfl (lv_at hl 1 rfl) ?_
  refine va_calli (va_runV (As := [.int p1]) (rest := []) ⟨hx, hb, hml, hown, hts⟩ (m_X9_isPlayer l D cy g σ1 p1 _ hJ2 ) (cwV 1 hts (gd_V q1710 q1712 q72 q134 q1713) rfl rfl rfl (by decide +kernel) ⟨Nat.le_of_ble_eq_true rfl, Nat.le_of_ble_eq_true rfl⟩) (pv9 hP hK hD hC hS (va_recv hK hP (ci := 9) (q0 := 0) rfl rfl)) rfl rfl hl.1 rfl (lv_room (Nat.le_of_ble_eq_true rfl)) dX9_train_7 ⟨Nat.le_of_ble_eq_true rfl, Nat.le_of_ble_eq_true rfl⟩) hS (fun q _ h => up9 hS q h) (up9 hS) (fun r4 σ5 tS H1 locs ht hvm hw6 hB hz1 hk1 hS => ?_)
  have hP : va_P D clz (WD9 cy g σ5) H1 := by rw [← ht]; exact hB
  clear hB hz1 hk1 hvm ht
  generalize H1 = H at hP hS ⊢
  have hw6E : σ1 = σ5 := (hw6.1).symm
  subst hw6E
  have b7 : (0 : Int) ≤ r4.toInt ∧ r4.toInt ≤ 1 := hw6.2.1
  have b8 : (r4.toInt = 0) ∨ ((0 : Int) ≤ p1.toInt ∧ p1.toInt ≤ 8) := hw6.2.2.1
  have b9 : (r4.toInt = 0) ∨ (0 ≤ p1.toInt ∧ p1.toInt < ((σ1 9).2.2.1 17 3).toInt) := hw6.2.2.2.1
  refine lv_if_eq (tgt := 68) hx hb dX9_train_10 (by decide) (fun c10 => ?_) (fun c10 => ?_)
  ·
    have k11 := peq32 c10
    refine lv_bipush (v := (-2)) hx hb dX9_train_68 (by decide) ?_
    exact W.iret (v := (-2)) hx hb hr (fun tS ht hW => ⟨⟨(-2), σ1, rfl, ⟨Fr.tr (Fr.rf) (sI_f eσ1) (fN_L rfl), hJ2, T3, trivial⟩, (show va_P D clz (WD9 cy g σ1) tS.heap by rw [ht]; exact hP)⟩, hS.F ht⟩) hS.2.2 dX9_train_70
  ·
    have k12 := neq32 c10
    refine lv_iload_n hx hb dX9_train_13 rfl (lv_at hl 2 rfl) ?_
    refine lv_i2l (v := p2.toInt64) hx hb dX9_train_14 rfl ?_
    refine lv_lconst (v := 1) hx hb dX9_train_15 (by decide) ?_
    refine lv_ldc2 (v := 3) hx hb hown (hts _ q1549) dX9_train_16 ?_
    refine va_calli (va_runS (As := [.long p2.toInt64, .long 1, .long 3]) (rest := []) ⟨hx, hb, hml, hown, hts⟩ (m_X9_in l D cy g σ1 p2.toInt64 (1) (3) _ hJ2 ) (va_cwS 3 hts (gd_S q1550 q1551 q134 q1552) rfl rfl rfl (by decide +kernel) ⟨Nat.le_of_ble_eq_true rfl, Nat.le_of_ble_eq_true rfl⟩) (ps9 hP hK hD hC hS) rfl rfl hl.1 rfl (lv_room (Nat.le_of_ble_eq_true rfl)) dX9_train_19 ⟨Nat.le_of_ble_eq_true rfl, Nat.le_of_ble_eq_true rfl⟩) hS (fun q _ h => up9 hS q h) (up9 hS) (fun r13 σ14 tS H1 locs ht hvm hw15 hB hz1 hk1 hS => ?_)
    have hP : va_P D clz (WD9 cy g σ14) H1 := by rw [← ht]; exact hB
    clear hB hz1 hk1 hvm ht
    generalize H1 = H at hP hS ⊢
    have hw15E : σ1 = σ14 := (hw15.1).symm
    subst hw15E
    have b16 : (0 : Int) ≤ r13.toInt ∧ r13.toInt ≤ 1 := hw15.2.1
    have b17 : (r13.toInt = 1 ∧ (1 : Int64).toInt ≤ p2.toInt64.toInt ∧ p2.toInt64.toInt ≤ (3 : Int64).toInt) ∨ (r13.toInt = 0 ∧ ¬ ((1 : Int64).toInt ≤ p2.toInt64.toInt ∧ p2.toInt64.toInt ≤ (3 : Int64).toInt)) := hw15.2.2.1
    refine lv_if_eq (tgt := 68) hx hb dX9_train_22 (by decide) (fun c18 => ?_) (fun c18 => ?_)
    ·
      have k19 := peq32 c18
      refine lv_bipush (v := (-2)) hx hb dX9_train_68 (by decide) ?_
      exact W.iret (v := (-2)) hx hb hr (fun tS ht hW => ⟨⟨(-2), σ1, rfl, ⟨Fr.tr (Fr.rf) (sI_f eσ1) (fN_L rfl), hJ2, T3, trivial⟩, (show va_P D clz (WD9 cy g σ1) tS.heap by rw [ht]; exact hP)⟩, hS.F ht⟩) hS.2.2 dX9_train_70
    ·
      have k20 := neq32 c18
      refine lv_iload_n hx hb dX9_train_25 rfl (lv_at hl 3 rfl) ?_
      refine lv_i2l (v := p3.toInt64) hx hb dX9_train_26 rfl ?_
      refine lv_iload_n hx hb dX9_train_27 rfl (lv_at hl 2 rfl) ?_
      refine lv_iconst (v := 2) hx hb dX9_train_28 (by decide) ?_
      refine lv_icmp_ne (tgt := 36) hx hb dX9_train_29 (by decide) (fun c21 => ?_) (fun c21 => ?_)
      ·
        have k22 := neq32 c21
        refine lv_lconst (v := 0) hx hb dX9_train_36 (by decide) ?_
        refine lv_iload_n hx hb dX9_train_37 rfl (lv_at hl 2 rfl) ?_
        refine lv_iconst (v := 1) hx hb dX9_train_38 (by decide) ?_
        refine lv_icmp_ne (tgt := 48) hx hb dX9_train_39 (by decide) (fun c23 => ?_) (fun c23 => ?_)
        ·
          have k24 := neq32 c23
          refine lv_iload_n hx hb dX9_train_48 rfl (lv_at hl 2 rfl) ?_
          refine lv_iconst (v := 2) hx hb dX9_train_49 (by decide) ?_
          refine lv_icmp_ne (tgt := 59) hx hb dX9_train_50 (by decide) (fun c25 => ?_) (fun c25 => ?_)
          ·
            have k26 := neq32 c25
            refine lv_ldc2 (v := 999) hx hb hown (hts _ q2108) dX9_train_59 ?_
            refine va_calli (va_runS (As := [.long p3.toInt64, .long 0, .long 999]) (rest := []) ⟨hx, hb, hml, hown, hts⟩ (m_X9_in l D cy g σ1 p3.toInt64 (0) (999) _ hJ2 ) (va_cwS 3 hts (gd_S q1550 q1551 q134 q1552) rfl rfl rfl (by decide +kernel) ⟨Nat.le_of_ble_eq_true rfl, Nat.le_of_ble_eq_true rfl⟩) (ps9 hP hK hD hC hS) rfl rfl hl.1 rfl (lv_room (Nat.le_of_ble_eq_true rfl)) dX9_train_62 ⟨Nat.le_of_ble_eq_true rfl, Nat.le_of_ble_eq_true rfl⟩) hS (fun q _ h => up9 hS q h) (up9 hS) (fun r27 σ28 tS H1 locs ht hvm hw29 hB hz1 hk1 hS => ?_)
            have hP : va_P D clz (WD9 cy g σ28) H1 := by rw [← ht]; exact hB
            clear hB hz1 hk1 hvm ht
            generalize H1 = H at hP hS ⊢
            have hw29E : σ1 = σ28 := (hw29.1).symm
            subst hw29E
            have b30 : (0 : Int) ≤ r27.toInt ∧ r27.toInt ≤ 1 := hw29.2.1
            have b31 : (r27.toInt = 1 ∧ (0 : Int64).toInt ≤ p3.toInt64.toInt ∧ p3.toInt64.toInt ≤ (999 : Int64).toInt) ∨ (r27.toInt = 0 ∧ ¬ ((0 : Int64).toInt ≤ p3.toInt64.toInt ∧ p3.toInt64.toInt ≤ (999 : Int64).toInt)) := hw29.2.2.1
            refine lv_if_ne (tgt := 71) hx hb dX9_train_65 (by decide) (fun c32 => ?_) (fun c32 => ?_)
            ·
              have k33 := neq32 c32
              refine lv_aload_n hx hb dX9_train_71 rfl (lv_at hl 0 rfl) ?_
              refine g9_19 hx hb hts hown hK hP (hts _ q1379) dX9_train_72 ?_
              refine lv_iconst (v := 4) hx hb dX9_train_75 (by decide) ?_
              refine lv_iload_n hx hb dX9_train_76 rfl (lv_at hl 1 rfl) ?_
              refine lv_imul hx hb dX9_train_77 ?_
              refine lv_topi (fun x34 ex34 => ?_)
              have t35 := mulC' (n := 4) ex34 (by decide) (by have f0 := b8; have f1 := b9; have f2 := a9_17 hJ2 (j := 3) rfl; have f3 := congrArg Int32.toInt (show ((σ1 9).2.2.1 17 3) = ((σ 9).2.2.1 17 3) from congrFun (((sI_f eσ1) 9 17 rfl).2.2.1) _); have f4 := b7; have f5 := k12; have f6 := a9_17 hJ (j := 3) rfl; have g2 := rg32 p1; have z0 : (0 : Int32).toInt = 0 := (by decide); omega)
              refine lv_iload_n hx hb dX9_train_78 rfl (lv_at hl 2 rfl) ?_
              refine lv_iadd hx hb dX9_train_79 ?_
              refine lv_topi (fun x36 ex36 => ?_)
              have t37 := addO ex36 (by have f0 := t64 (a := p2); have f1 := rg32 p2; have f2 := k22; have f3 := k24; have f4 := k26; have f5 := t35; have f6 := b8; have f7 := b9; have f8 := b17; have f9 := a9_17 hJ2 (j := 3) rfl; have f10 := congrArg Int32.toInt (show ((σ1 9).2.2.1 17 3) = ((σ 9).2.2.1 17 3) from congrFun (((sI_f eσ1) 9 17 rfl).2.2.1) _); have f11 := b7; have f12 := k12; have f13 := b16; have f14 := k20; have f15 := a9_17 hJ (j := 3) rfl; have g2 := rg32 p2; have g3 := rg32 x34; have z0 : (0 : Int32).toInt = 0 := (by decide); have z1 : (1 : Int32).toInt = 1 := (by decide); have zl1 : (1 : Int64).toInt = 1 := (by decide); have z2 : (2 : Int32).toInt = 2 := (by decide); have zl3 : (3 : Int64).toInt = 3 := (by decide); have w23 := t64 (a := p2); omega)
              refine lv_iload_n hx hb dX9_train_80 rfl (lv_at hl 3 rfl) ?_
              refine va_calli (va_runS (As := [.ref (g 19), .int x36, .int p3]) (rest := []) ⟨hx, hb, hml, hown, hts⟩ (m_X9_sets_19 l D cy g σ1 x36 p3 _ hJ2 (show (0 : Int) ≤ x36.toInt ∧ x36.toInt ≤ 179 from (by have f0 := t37; have f1 := t64 (a := p2); have f2 := rg32 p2; have f3 := k22; have f4 := k24; have f5 := k26; have f6 := t35; have f7 := b8; have f8 := b9; have f9 := b17; have f10 := a9_17 hJ2 (j := 3) rfl; have f11 := congrArg Int32.toInt (show ((σ1 9).2.2.1 17 3) = ((σ 9).2.2.1 17 3) from congrFun (((sI_f eσ1) 9 17 rfl).2.2.1) _); have f12 := b7; have f13 := k12; have f14 := b16; have f15 := k20; have f16 := a9_17 hJ (j := 3) rfl; have g2 := rg32 x36; have z0 : (0 : Int32).toInt = 0 := (by decide); have z1 : (1 : Int32).toInt = 1 := (by decide); have zl1 : (1 : Int64).toInt = 1 := (by decide); have z2 : (2 : Int32).toInt = 2 := (by decide); have zl3 : (3 : Int64).toInt = 3 := (by decide); have w23 := t64 (a := p2); omega)) (show 0 ≤ p3.toInt ∧ p3.toInt ≤ 999 ∧ (x36.toInt.toNat % 4 = 0 → p3.toInt ≤ 3) ∧ (x36.toInt.toNat % 4 = 2 → p3.toInt ≤ 30) from (by have f0 := t64 (a := p3); have f1 := rg32 p3; have f2 := t37; have f3 := t64 (a := p2); have f4 := rg32 p2; have f5 := k22; have f6 := k24; have f7 := k26; have f8 := b31; have f9 := t35; have f10 := b8; have f11 := b9; have f12 := b17; have f13 := b30; have f14 := k33; have f15 := a9_17 hJ2 (j := 3) rfl; have f16 := congrArg Int32.toInt (show ((σ1 9).2.2.1 17 3) = ((σ 9).2.2.1 17 3) from congrFun (((sI_f eσ1) 9 17 rfl).2.2.1) _); have f17 := b7; have f18 := k12; have f19 := b16; have f20 := k20; have f21 := a9_17 hJ (j := 3) rfl; have g2 := rg32 p3; have g3 := rg32 x36; have z0 : (0 : Int32).toInt = 0 := (by decide); have zl0 : (0 : Int64).toInt = 0 := (by decide); have z1 : (1 : Int32).toInt = 1 := (by decide); have zl1 : (1 : Int64).toInt = 1 := (by decide); have z2 : (2 : Int32).toInt = 2 := (by decide); have zl3 : (3 : Int64).toInt = 3 := (by decide); have zl999 : (999 : Int64).toInt = 999 := (by decide); have w31 := t64 (a := p2); have w32 := t64 (a := p3); omega))) (va_cwS 3 hts (gd_S q2109 q2110 q134 q2111) rfl rfl rfl (by decide +kernel) ⟨Nat.le_of_ble_eq_true rfl, Nat.le_of_ble_eq_true rfl⟩) (ps9 hP hK hD hC hS) rfl rfl hl.1 rfl (lv_room (Nat.le_of_ble_eq_true rfl)) dX9_train_81 ⟨Nat.le_of_ble_eq_true rfl, Nat.le_of_ble_eq_true rfl⟩) hS (fun q _ h => up9 hS q h) (up9 hS) (fun r38 σ39 tS H1 locs ht hvm hw40 hB hz1 hk1 hS => ?_)
              have hP : va_P D clz (WD9 cy g σ39) H1 := by rw [← ht]; exact hB
              clear hB hz1 hk1 hvm ht
              generalize H1 = H at hP hS ⊢
              have hF41 : Fr (fL [19]) σ1 σ39 := hw40.1
              have hJ42 : J9 (σ39 9) := hw40.2.1
              have b43 : ((σ39 9)).2.2.1 19 = upd (((σ1 9)).2.2.1 19) x36.toInt.toNat p3 := hw40.2.2.1
              exact W.iret (v := r38) hx hb hr (fun tS ht hW => ⟨⟨r38, σ39, rfl, ⟨Fr.tr (Fr.tr (Fr.rf) (sI_f eσ1) (fN_L rfl)) hF41 (fL_sub rfl), hJ42, (DKA.pl T3 (hF41 9 17 rfl).2.2.1 (hF41 9 18 rfl).2.2.1 b43 (by have f0 := t64 (a := p2); have f1 := rg32 p2; have f2 := k22; have f3 := k24; have f4 := k26; have f5 := t37; have f6 := b17; have f7 := t35; have f8 := b8; have f9 := b9; have f10 := b16; have f11 := k20; have f12 := a9_17 hJ2 (j := 3) rfl; have f13 := congrArg Int32.toInt (show ((σ1 9).2.2.1 17 3) = ((σ 9).2.2.1 17 3) from congrFun (((sI_f eσ1) 9 17 rfl).2.2.1) _); have f14 := b7; have f15 := k12; have f16 := a9_17 hJ (j := 3) rfl; have g2 := rg32 p2; have g3 := rg32 x36; have z0 : (0 : Int32).toInt = 0 := (by decide); have z1 : (1 : Int32).toInt = 1 := (by decide); have zl1 : (1 : Int64).toInt = 1 := (by decide); have z2 : (2 : Int32).toInt = 2 := (by decide); have zl3 : (3 : Int64).toInt = 3 := (by decide); have w24 := t64 (a := p2); omega)), trivial⟩, (show va_P D clz (WD9 cy g σ39) tS.heap by rw [ht]; exact hP)⟩, hS.F ht⟩) hS.2.2 dX9_train_84
            ·
              have k45 := peq32 c32
              refine lv_bipush (v := (-2)) hx hb dX9_train_68 (by decide) ?_
              exact W.iret (v := (-2)) hx hb hr (fun tS ht hW => ⟨⟨(-2), σ1, rfl, ⟨Fr.tr (Fr.rf) (sI_f eσ1) (fN_L rfl), hJ2, T3, trivial⟩, (show va_P D clz (WD9 cy g σ1) tS.heap by rw [ht]; exact hP)⟩, hS.F ht⟩) hS.2.2 dX9_train_70
          ·
            have k46 := peq32 c25
            refine lv_ldc2 (v := 30) hx hb hown (hts _ q2107) dX9_train_53 ?_
            refine lv_goto (tgt := 62) hx hb dX9_train_56 (by decide) ?_
            refine va_calli (va_runS (As := [.long p3.toInt64, .long 0, .long 30]) (rest := []) ⟨hx, hb, hml, hown, hts⟩ (m_X9_in l D cy g σ1 p3.toInt64 (0) (30) _ hJ2 ) (va_cwS 3 hts (gd_S q1550 q1551 q134 q1552) rfl rfl rfl (by decide +kernel) ⟨Nat.le_of_ble_eq_true rfl, Nat.le_of_ble_eq_true rfl⟩) (ps9 hP hK hD hC hS) rfl rfl hl.1 rfl (lv_room (Nat.le_of_ble_eq_true rfl)) dX9_train_62 ⟨Nat.le_of_ble_eq_true rfl, Nat.le_of_ble_eq_true rfl⟩) hS (fun q _ h => up9 hS q h) (up9 hS) (fun r47 σ48 tS H1 locs ht hvm hw49 hB hz1 hk1 hS => ?_)
            have hP : va_P D clz (WD9 cy g σ48) H1 := by rw [← ht]; exact hB
            clear hB hz1 hk1 hvm ht
            generalize H1 = H at hP hS ⊢
            have hw49E : σ1 = σ48 := (hw49.1).symm
            subst hw49E
            have b50 : (0 : Int) ≤ r47.toInt ∧ r47.toInt ≤ 1 := hw49.2.1
            have b51 : (r47.toInt = 1 ∧ (0 : Int64).toInt ≤ p3.toInt64.toInt ∧ p3.toInt64.toInt ≤ (30 : Int64).toInt) ∨ (r47.toInt = 0 ∧ ¬ ((0 : Int64).toInt ≤ p3.toInt64.toInt ∧ p3.toInt64.toInt ≤ (30 : Int64).toInt)) := hw49.2.2.1
            refine lv_if_ne (tgt := 71) hx hb dX9_train_65 (by decide) (fun c52 => ?_) (fun c52 => ?_)
            ·
              have k53 := neq32 c52
              refine lv_aload_n hx hb dX9_train_71 rfl (lv_at hl 0 rfl) ?_
              refine g9_19 hx hb hts hown hK hP (hts _ q1379) dX9_train_72 ?_
              refine lv_iconst (v := 4) hx hb dX9_train_75 (by decide) ?_
              refine lv_iload_n hx hb dX9_train_76 rfl (lv_at hl 1 rfl) ?_
              refine lv_imul hx hb dX9_train_77 ?_
              refine lv_topi (fun x54 ex54 => ?_)
              have t55 := mulC' (n := 4) ex54 (by decide) (by have f0 := b8; have f1 := b9; have f2 := a9_17 hJ2 (j := 3) rfl; have f3 := congrArg Int32.toInt (show ((σ1 9).2.2.1 17 3) = ((σ 9).2.2.1 17 3) from congrFun (((sI_f eσ1) 9 17 rfl).2.2.1) _); have f4 := b7; have f5 := k12; have f6 := a9_17 hJ (j := 3) rfl; have g2 := rg32 p1; have z0 : (0 : Int32).toInt = 0 := (by decide); omega)
              refine lv_iload_n hx hb dX9_train_78 rfl (lv_at hl 2 rfl) ?_
              refine lv_iadd hx hb dX9_train_79 ?_
              refine lv_topi (fun x56 ex56 => ?_)
              have t57 := addO ex56 (by have f0 := t64 (a := p2); have f1 := rg32 p2; have f2 := k22; have f3 := k24; have f4 := k46; have f5 := t55; have f6 := b8; have f7 := b9; have f8 := b17; have f9 := a9_17 hJ2 (j := 3) rfl; have f10 := congrArg Int32.toInt (show ((σ1 9).2.2.1 17 3) = ((σ 9).2.2.1 17 3) from congrFun (((sI_f eσ1) 9 17 rfl).2.2.1) _); have f11 := b7; have f12 := k12; have f13 := b16; have f14 := k20; have f15 := a9_17 hJ (j := 3) rfl; have g2 := rg32 p2; have g3 := rg32 x54; have z0 : (0 : Int32).toInt = 0 := (by decide); have z1 : (1 : Int32).toInt = 1 := (by decide); have zl1 : (1 : Int64).toInt = 1 := (by decide); have z2 : (2 : Int32).toInt = 2 := (by decide); have zl3 : (3 : Int64).toInt = 3 := (by decide); have w23 := t64 (a := p2); omega)
              refine lv_iload_n hx hb dX9_train_80 rfl (lv_at hl 3 rfl) ?_
              refine va_calli (va_runS (As := [.ref (g 19), .int x56, .int p3]) (rest := []) ⟨hx, hb, hml, hown, hts⟩ (m_X9_sets_19 l D cy g σ1 x56 p3 _ hJ2 (show (0 : Int) ≤ x56.toInt ∧ x56.toInt ≤ 179 from (by have f0 := t57; have f1 := t64 (a := p2); have f2 := rg32 p2; have f3 := k22; have f4 := k24; have f5 := k46; have f6 := t55; have f7 := b8; have f8 := b9; have f9 := b17; have f10 := a9_17 hJ2 (j := 3) rfl; have f11 := congrArg Int32.toInt (show ((σ1 9).2.2.1 17 3) = ((σ 9).2.2.1 17 3) from congrFun (((sI_f eσ1) 9 17 rfl).2.2.1) _); have f12 := b7; have f13 := k12; have f14 := b16; have f15 := k20; have f16 := a9_17 hJ (j := 3) rfl; have g2 := rg32 x56; have z0 : (0 : Int32).toInt = 0 := (by decide); have z1 : (1 : Int32).toInt = 1 := (by decide); have zl1 : (1 : Int64).toInt = 1 := (by decide); have z2 : (2 : Int32).toInt = 2 := (by decide); have zl3 : (3 : Int64).toInt = 3 := (by decide); have w23 := t64 (a := p2); omega)) (show 0 ≤ p3.toInt ∧ p3.toInt ≤ 999 ∧ (x56.toInt.toNat % 4 = 0 → p3.toInt ≤ 3) ∧ (x56.toInt.toNat % 4 = 2 → p3.toInt ≤ 30) from (by have f0 := t64 (a := p3); have f1 := rg32 p3; have f2 := t57; have f3 := t64 (a := p2); have f4 := rg32 p2; have f5 := k22; have f6 := k24; have f7 := k46; have f8 := b51; have f9 := t55; have f10 := b8; have f11 := b9; have f12 := b17; have f13 := b50; have f14 := k53; have f15 := a9_17 hJ2 (j := 3) rfl; have f16 := congrArg Int32.toInt (show ((σ1 9).2.2.1 17 3) = ((σ 9).2.2.1 17 3) from congrFun (((sI_f eσ1) 9 17 rfl).2.2.1) _); have f17 := b7; have f18 := k12; have f19 := b16; have f20 := k20; have f21 := a9_17 hJ (j := 3) rfl; have g2 := rg32 p3; have g3 := rg32 x56; have z0 : (0 : Int32).toInt = 0 := (by decide); have zl0 : (0 : Int64).toInt = 0 := (by decide); have z1 : (1 : Int32).toInt = 1 := (by decide); have zl1 : (1 : Int64).toInt = 1 := (by decide); have z2 : (2 : Int32).toInt = 2 := (by decide); have zl3 : (3 : Int64).toInt = 3 := (by decide); have zl30 : (30 : Int64).toInt = 30 := (by decide); have w31 := t64 (a := p2); have w32 := t64 (a := p3); omega))) (va_cwS 3 hts (gd_S q2109 q2110 q134 q2111) rfl rfl rfl (by decide +kernel) ⟨Nat.le_of_ble_eq_true rfl, Nat.le_of_ble_eq_true rfl⟩) (ps9 hP hK hD hC hS) rfl rfl hl.1 rfl (lv_room (Nat.le_of_ble_eq_true rfl)) dX9_train_81 ⟨Nat.le_of_ble_eq_true rfl, Nat.le_of_ble_eq_true rfl⟩) hS (fun q _ h => up9 hS q h) (up9 hS) (fun r58 σ59 tS H1 locs ht hvm hw60 hB hz1 hk1 hS => ?_)
              have hP : va_P D clz (WD9 cy g σ59) H1 := by rw [← ht]; exact hB
              clear hB hz1 hk1 hvm ht
              generalize H1 = H at hP hS ⊢
              have hF61 : Fr (fL [19]) σ1 σ59 := hw60.1
              have hJ62 : J9 (σ59 9) := hw60.2.1
              have b63 : ((σ59 9)).2.2.1 19 = upd (((σ1 9)).2.2.1 19) x56.toInt.toNat p3 := hw60.2.2.1
              exact W.iret (v := r58) hx hb hr (fun tS ht hW => ⟨⟨r58, σ59, rfl, ⟨Fr.tr (Fr.tr (Fr.rf) (sI_f eσ1) (fN_L rfl)) hF61 (fL_sub rfl), hJ62, (DKA.pl T3 (hF61 9 17 rfl).2.2.1 (hF61 9 18 rfl).2.2.1 b63 (by have f0 := t64 (a := p2); have f1 := rg32 p2; have f2 := k22; have f3 := k24; have f4 := k46; have f5 := t57; have f6 := b17; have f7 := t55; have f8 := b8; have f9 := b9; have f10 := b16; have f11 := k20; have f12 := a9_17 hJ2 (j := 3) rfl; have f13 := congrArg Int32.toInt (show ((σ1 9).2.2.1 17 3) = ((σ 9).2.2.1 17 3) from congrFun (((sI_f eσ1) 9 17 rfl).2.2.1) _); have f14 := b7; have f15 := k12; have f16 := a9_17 hJ (j := 3) rfl; have g2 := rg32 p2; have g3 := rg32 x56; have z0 : (0 : Int32).toInt = 0 := (by decide); have z1 : (1 : Int32).toInt = 1 := (by decide); have zl1 : (1 : Int64).toInt = 1 := (by decide); have z2 : (2 : Int32).toInt = 2 := (by decide); have zl3 : (3 : Int64).toInt = 3 := (by decide); have w24 := t64 (a := p2); omega)), trivial⟩, (show va_P D clz (WD9 cy g σ59) tS.heap by rw [ht]; exact hP)⟩, hS.F ht⟩) hS.2.2 dX9_train_84
            ·
              have k65 := peq32 c52
              refine lv_bipush (v := (-2)) hx hb dX9_train_68 (by decide) ?_
              exact W.iret (v := (-2)) hx hb hr (fun tS ht hW => ⟨⟨(-2), σ1, rfl, ⟨Fr.tr (Fr.rf) (sI_f eσ1) (fN_L rfl), hJ2, T3, trivial⟩, (show va_P D clz (WD9 cy g σ1) tS.heap by rw [ht]; exact hP)⟩, hS.F ht⟩) hS.2.2 dX9_train_70
        ·
          have k66 := peq32 c23
          refine lv_ldc2 (v := 9) hx hb hown (hts _ q2106) dX9_train_42 ?_
          refine lv_goto (tgt := 62) hx hb dX9_train_45 (by decide) ?_
          refine va_calli (va_runS (As := [.long p3.toInt64, .long 0, .long 9]) (rest := []) ⟨hx, hb, hml, hown, hts⟩ (m_X9_in l D cy g σ1 p3.toInt64 (0) (9) _ hJ2 ) (va_cwS 3 hts (gd_S q1550 q1551 q134 q1552) rfl rfl rfl (by decide +kernel) ⟨Nat.le_of_ble_eq_true rfl, Nat.le_of_ble_eq_true rfl⟩) (ps9 hP hK hD hC hS) rfl rfl hl.1 rfl (lv_room (Nat.le_of_ble_eq_true rfl)) dX9_train_62 ⟨Nat.le_of_ble_eq_true rfl, Nat.le_of_ble_eq_true rfl⟩) hS (fun q _ h => up9 hS q h) (up9 hS) (fun r67 σ68 tS H1 locs ht hvm hw69 hB hz1 hk1 hS => ?_)
          have hP : va_P D clz (WD9 cy g σ68) H1 := by rw [← ht]; exact hB
          clear hB hz1 hk1 hvm ht
          generalize H1 = H at hP hS ⊢
          have hw69E : σ1 = σ68 := (hw69.1).symm
          subst hw69E
          have b70 : (0 : Int) ≤ r67.toInt ∧ r67.toInt ≤ 1 := hw69.2.1
          have b71 : (r67.toInt = 1 ∧ (0 : Int64).toInt ≤ p3.toInt64.toInt ∧ p3.toInt64.toInt ≤ (9 : Int64).toInt) ∨ (r67.toInt = 0 ∧ ¬ ((0 : Int64).toInt ≤ p3.toInt64.toInt ∧ p3.toInt64.toInt ≤ (9 : Int64).toInt)) := hw69.2.2.1
          refine lv_if_ne (tgt := 71) hx hb dX9_train_65 (by decide) (fun c72 => ?_) (fun c72 => ?_)
          ·
            have k73 := neq32 c72
            refine lv_aload_n hx hb dX9_train_71 rfl (lv_at hl 0 rfl) ?_
            refine g9_19 hx hb hts hown hK hP (hts _ q1379) dX9_train_72 ?_
            refine lv_iconst (v := 4) hx hb dX9_train_75 (by decide) ?_
            refine lv_iload_n hx hb dX9_train_76 rfl (lv_at hl 1 rfl) ?_
            refine lv_imul hx hb dX9_train_77 ?_
            refine lv_topi (fun x74 ex74 => ?_)
            have t75 := mulC' (n := 4) ex74 (by decide) (by have f0 := b8; have f1 := b9; have f2 := a9_17 hJ2 (j := 3) rfl; have f3 := congrArg Int32.toInt (show ((σ1 9).2.2.1 17 3) = ((σ 9).2.2.1 17 3) from congrFun (((sI_f eσ1) 9 17 rfl).2.2.1) _); have f4 := b7; have f5 := k12; have f6 := a9_17 hJ (j := 3) rfl; have g2 := rg32 p1; have z0 : (0 : Int32).toInt = 0 := (by decide); omega)
            refine lv_iload_n hx hb dX9_train_78 rfl (lv_at hl 2 rfl) ?_
            refine lv_iadd hx hb dX9_train_79 ?_
            refine lv_topi (fun x76 ex76 => ?_)
            have t77 := addO ex76 (by have f0 := t64 (a := p2); have f1 := rg32 p2; have f2 := k22; have f3 := k66; have f4 := t75; have f5 := b8; have f6 := b9; have f7 := b17; have f8 := a9_17 hJ2 (j := 3) rfl; have f9 := congrArg Int32.toInt (show ((σ1 9).2.2.1 17 3) = ((σ 9).2.2.1 17 3) from congrFun (((sI_f eσ1) 9 17 rfl).2.2.1) _); have f10 := b7; have f11 := k12; have f12 := b16; have f13 := k20; have f14 := a9_17 hJ (j := 3) rfl; have g2 := rg32 p2; have g3 := rg32 x74; have z0 : (0 : Int32).toInt = 0 := (by decide); have z1 : (1 : Int32).toInt = 1 := (by decide); have zl1 : (1 : Int64).toInt = 1 := (by decide); have z2 : (2 : Int32).toInt = 2 := (by decide); have zl3 : (3 : Int64).toInt = 3 := (by decide); have w22 := t64 (a := p2); omega)
            refine lv_iload_n hx hb dX9_train_80 rfl (lv_at hl 3 rfl) ?_
            refine va_calli (va_runS (As := [.ref (g 19), .int x76, .int p3]) (rest := []) ⟨hx, hb, hml, hown, hts⟩ (m_X9_sets_19 l D cy g σ1 x76 p3 _ hJ2 (show (0 : Int) ≤ x76.toInt ∧ x76.toInt ≤ 179 from (by have f0 := t77; have f1 := t64 (a := p2); have f2 := rg32 p2; have f3 := k22; have f4 := k66; have f5 := t75; have f6 := b8; have f7 := b9; have f8 := b17; have f9 := a9_17 hJ2 (j := 3) rfl; have f10 := congrArg Int32.toInt (show ((σ1 9).2.2.1 17 3) = ((σ 9).2.2.1 17 3) from congrFun (((sI_f eσ1) 9 17 rfl).2.2.1) _); have f11 := b7; have f12 := k12; have f13 := b16; have f14 := k20; have f15 := a9_17 hJ (j := 3) rfl; have g2 := rg32 x76; have z0 : (0 : Int32).toInt = 0 := (by decide); have z1 : (1 : Int32).toInt = 1 := (by decide); have zl1 : (1 : Int64).toInt = 1 := (by decide); have z2 : (2 : Int32).toInt = 2 := (by decide); have zl3 : (3 : Int64).toInt = 3 := (by decide); have w22 := t64 (a := p2); omega)) (show 0 ≤ p3.toInt ∧ p3.toInt ≤ 999 ∧ (x76.toInt.toNat % 4 = 0 → p3.toInt ≤ 3) ∧ (x76.toInt.toNat % 4 = 2 → p3.toInt ≤ 30) from (by have f0 := t64 (a := p3); have f1 := rg32 p3; have f2 := t77; have f3 := t64 (a := p2); have f4 := rg32 p2; have f5 := k22; have f6 := k66; have f7 := b71; have f8 := t75; have f9 := b8; have f10 := b9; have f11 := b17; have f12 := b70; have f13 := k73; have f14 := a9_17 hJ2 (j := 3) rfl; have f15 := congrArg Int32.toInt (show ((σ1 9).2.2.1 17 3) = ((σ 9).2.2.1 17 3) from congrFun (((sI_f eσ1) 9 17 rfl).2.2.1) _); have f16 := b7; have f17 := k12; have f18 := b16; have f19 := k20; have f20 := a9_17 hJ (j := 3) rfl; have g2 := rg32 p3; have g3 := rg32 x76; have z0 : (0 : Int32).toInt = 0 := (by decide); have zl0 : (0 : Int64).toInt = 0 := (by decide); have z1 : (1 : Int32).toInt = 1 := (by decide); have zl1 : (1 : Int64).toInt = 1 := (by decide); have z2 : (2 : Int32).toInt = 2 := (by decide); have zl3 : (3 : Int64).toInt = 3 := (by decide); have zl9 : (9 : Int64).toInt = 9 := (by decide); have w30 := t64 (a := p2); have w31 := t64 (a := p3); omega))) (va_cwS 3 hts (gd_S q2109 q2110 q134 q2111) rfl rfl rfl (by decide +kernel) ⟨Nat.le_of_ble_eq_true rfl, Nat.le_of_ble_eq_true rfl⟩) (ps9 hP hK hD hC hS) rfl rfl hl.1 rfl (lv_room (Nat.le_of_ble_eq_true rfl)) dX9_train_81 ⟨Nat.le_of_ble_eq_true rfl, Nat.le_of_ble_eq_true rfl⟩) hS (fun q _ h => up9 hS q h) (up9 hS) (fun r78 σ79 tS H1 locs ht hvm hw80 hB hz1 hk1 hS => ?_)
            have hP : va_P D clz (WD9 cy g σ79) H1 := by rw [← ht]; exact hB
            clear hB hz1 hk1 hvm ht
            generalize H1 = H at hP hS ⊢
            have hF81 : Fr (fL [19]) σ1 σ79 := hw80.1
            have hJ82 : J9 (σ79 9) := hw80.2.1
            have b83 : ((σ79 9)).2.2.1 19 = upd (((σ1 9)).2.2.1 19) x76.toInt.toNat p3 := hw80.2.2.1
            exact W.iret (v := r78) hx hb hr (fun tS ht hW => ⟨⟨r78, σ79, rfl, ⟨Fr.tr (Fr.tr (Fr.rf) (sI_f eσ1) (fN_L rfl)) hF81 (fL_sub rfl), hJ82, (DKA.pl T3 (hF81 9 17 rfl).2.2.1 (hF81 9 18 rfl).2.2.1 b83 (by have f0 := t64 (a := p2); have f1 := rg32 p2; have f2 := k22; have f3 := k66; have f4 := t77; have f5 := b17; have f6 := t75; have f7 := b8; have f8 := b9; have f9 := b16; have f10 := k20; have f11 := a9_17 hJ2 (j := 3) rfl; have f12 := congrArg Int32.toInt (show ((σ1 9).2.2.1 17 3) = ((σ 9).2.2.1 17 3) from congrFun (((sI_f eσ1) 9 17 rfl).2.2.1) _); have f13 := b7; have f14 := k12; have f15 := a9_17 hJ (j := 3) rfl; have g2 := rg32 p2; have g3 := rg32 x76; have z0 : (0 : Int32).toInt = 0 := (by decide); have z1 : (1 : Int32).toInt = 1 := (by decide); have zl1 : (1 : Int64).toInt = 1 := (by decide); have z2 : (2 : Int32).toInt = 2 := (by decide); have zl3 : (3 : Int64).toInt = 3 := (by decide); have w23 := t64 (a := p2); omega)), trivial⟩, (show va_P D clz (WD9 cy g σ79) tS.heap by rw [ht]; exact hP)⟩, hS.F ht⟩) hS.2.2 dX9_train_84
          ·
            have k85 := peq32 c72
            refine lv_bipush (v := (-2)) hx hb dX9_train_68 (by decide) ?_
            exact W.iret (v := (-2)) hx hb hr (fun tS ht hW => ⟨⟨(-2), σ1, rfl, ⟨Fr.tr (Fr.rf) (sI_f eσ1) (fN_L rfl), hJ2, T3, trivial⟩, (show va_P D clz (WD9 cy g σ1) tS.heap by rw [ht]; exact hP)⟩, hS.F ht⟩) hS.2.2 dX9_train_70
      ·
        have k86 := peq32 c21
        refine lv_lconst (v := 1) hx hb dX9_train_32 (by decide) ?_
        refine lv_goto (tgt := 37) hx hb dX9_train_33 (by decide) ?_
        refine lv_iload_n hx hb dX9_train_37 rfl (lv_at hl 2 rfl) ?_
        refine lv_iconst (v := 1) hx hb dX9_train_38 (by decide) ?_
        refine lv_icmp_ne (tgt := 48) hx hb dX9_train_39 (by decide) (fun c87 => ?_) (fun c87 => ?_)
        ·
          have k88 := neq32 c87
          refine lv_iload_n hx hb dX9_train_48 rfl (lv_at hl 2 rfl) ?_
          refine lv_iconst (v := 2) hx hb dX9_train_49 (by decide) ?_
          refine lv_icmp_ne (tgt := 59) hx hb dX9_train_50 (by decide) (fun c89 => ?_) (fun c89 => ?_)
          ·
            have k90 := neq32 c89
            exact False.elim (by have f0 := t64 (a := p2); have f1 := rg32 p2; have f2 := k86; have f3 := k88; have f4 := k90; have f5 := b17; have f6 := b16; have f7 := k20; have g0 := rg32 p2; have z0 : (0 : Int32).toInt = 0 := (by decide); have z1 : (1 : Int32).toInt = 1 := (by decide); have zl1 : (1 : Int64).toInt = 1 := (by decide); have z2 : (2 : Int32).toInt = 2 := (by decide); have zl3 : (3 : Int64).toInt = 3 := (by decide); have w14 := t64 (a := p2); omega)
          ·
            have k91 := peq32 c89
            refine lv_ldc2 (v := 30) hx hb hown (hts _ q2107) dX9_train_53 ?_
            refine lv_goto (tgt := 62) hx hb dX9_train_56 (by decide) ?_
            refine va_calli (va_runS (As := [.long p3.toInt64, .long 1, .long 30]) (rest := []) ⟨hx, hb, hml, hown, hts⟩ (m_X9_in l D cy g σ1 p3.toInt64 (1) (30) _ hJ2 ) (va_cwS 3 hts (gd_S q1550 q1551 q134 q1552) rfl rfl rfl (by decide +kernel) ⟨Nat.le_of_ble_eq_true rfl, Nat.le_of_ble_eq_true rfl⟩) (ps9 hP hK hD hC hS) rfl rfl hl.1 rfl (lv_room (Nat.le_of_ble_eq_true rfl)) dX9_train_62 ⟨Nat.le_of_ble_eq_true rfl, Nat.le_of_ble_eq_true rfl⟩) hS (fun q _ h => up9 hS q h) (up9 hS) (fun r92 σ93 tS H1 locs ht hvm hw94 hB hz1 hk1 hS => ?_)
            have hP : va_P D clz (WD9 cy g σ93) H1 := by rw [← ht]; exact hB
            clear hB hz1 hk1 hvm ht
            generalize H1 = H at hP hS ⊢
            have hw94E : σ1 = σ93 := (hw94.1).symm
            subst hw94E
            have b95 : (0 : Int) ≤ r92.toInt ∧ r92.toInt ≤ 1 := hw94.2.1
            have b96 : (r92.toInt = 1 ∧ (1 : Int64).toInt ≤ p3.toInt64.toInt ∧ p3.toInt64.toInt ≤ (30 : Int64).toInt) ∨ (r92.toInt = 0 ∧ ¬ ((1 : Int64).toInt ≤ p3.toInt64.toInt ∧ p3.toInt64.toInt ≤ (30 : Int64).toInt)) := hw94.2.2.1
            refine lv_if_ne (tgt := 71) hx hb dX9_train_65 (by decide) (fun c97 => ?_) (fun c97 => ?_)
            ·
              have k98 := neq32 c97
              refine lv_aload_n hx hb dX9_train_71 rfl (lv_at hl 0 rfl) ?_
              refine g9_19 hx hb hts hown hK hP (hts _ q1379) dX9_train_72 ?_
              refine lv_iconst (v := 4) hx hb dX9_train_75 (by decide) ?_
              refine lv_iload_n hx hb dX9_train_76 rfl (lv_at hl 1 rfl) ?_
              refine lv_imul hx hb dX9_train_77 ?_
              refine lv_topi (fun x99 ex99 => ?_)
              have t100 := mulC' (n := 4) ex99 (by decide) (by have f0 := b8; have f1 := b9; have f2 := a9_17 hJ2 (j := 3) rfl; have f3 := congrArg Int32.toInt (show ((σ1 9).2.2.1 17 3) = ((σ 9).2.2.1 17 3) from congrFun (((sI_f eσ1) 9 17 rfl).2.2.1) _); have f4 := b7; have f5 := k12; have f6 := a9_17 hJ (j := 3) rfl; have g2 := rg32 p1; have z0 : (0 : Int32).toInt = 0 := (by decide); omega)
              refine lv_iload_n hx hb dX9_train_78 rfl (lv_at hl 2 rfl) ?_
              refine lv_iadd hx hb dX9_train_79 ?_
              refine lv_topi (fun x101 ex101 => ?_)
              have t102 := addO ex101 (by have f0 := t64 (a := p2); have f1 := rg32 p2; have f2 := k86; have f3 := k88; have f4 := k91; have f5 := t100; have f6 := b8; have f7 := b9; have f8 := b17; have f9 := a9_17 hJ2 (j := 3) rfl; have f10 := congrArg Int32.toInt (show ((σ1 9).2.2.1 17 3) = ((σ 9).2.2.1 17 3) from congrFun (((sI_f eσ1) 9 17 rfl).2.2.1) _); have f11 := b7; have f12 := k12; have f13 := b16; have f14 := k20; have f15 := a9_17 hJ (j := 3) rfl; have g2 := rg32 p2; have g3 := rg32 x99; have z0 : (0 : Int32).toInt = 0 := (by decide); have z1 : (1 : Int32).toInt = 1 := (by decide); have zl1 : (1 : Int64).toInt = 1 := (by decide); have z2 : (2 : Int32).toInt = 2 := (by decide); have zl3 : (3 : Int64).toInt = 3 := (by decide); have w23 := t64 (a := p2); omega)
              refine lv_iload_n hx hb dX9_train_80 rfl (lv_at hl 3 rfl) ?_
              refine va_calli (va_runS (As := [.ref (g 19), .int x101, .int p3]) (rest := []) ⟨hx, hb, hml, hown, hts⟩ (m_X9_sets_19 l D cy g σ1 x101 p3 _ hJ2 (show (0 : Int) ≤ x101.toInt ∧ x101.toInt ≤ 179 from (by have f0 := t102; have f1 := t64 (a := p2); have f2 := rg32 p2; have f3 := k86; have f4 := k88; have f5 := k91; have f6 := t100; have f7 := b8; have f8 := b9; have f9 := b17; have f10 := a9_17 hJ2 (j := 3) rfl; have f11 := congrArg Int32.toInt (show ((σ1 9).2.2.1 17 3) = ((σ 9).2.2.1 17 3) from congrFun (((sI_f eσ1) 9 17 rfl).2.2.1) _); have f12 := b7; have f13 := k12; have f14 := b16; have f15 := k20; have f16 := a9_17 hJ (j := 3) rfl; have g2 := rg32 x101; have z0 : (0 : Int32).toInt = 0 := (by decide); have z1 : (1 : Int32).toInt = 1 := (by decide); have zl1 : (1 : Int64).toInt = 1 := (by decide); have z2 : (2 : Int32).toInt = 2 := (by decide); have zl3 : (3 : Int64).toInt = 3 := (by decide); have w23 := t64 (a := p2); omega)) (show 0 ≤ p3.toInt ∧ p3.toInt ≤ 999 ∧ (x101.toInt.toNat % 4 = 0 → p3.toInt ≤ 3) ∧ (x101.toInt.toNat % 4 = 2 → p3.toInt ≤ 30) from (by have f0 := t64 (a := p3); have f1 := rg32 p3; have f2 := t102; have f3 := t64 (a := p2); have f4 := rg32 p2; have f5 := k86; have f6 := k88; have f7 := k91; have f8 := b96; have f9 := t100; have f10 := b8; have f11 := b9; have f12 := b17; have f13 := b95; have f14 := k98; have f15 := a9_17 hJ2 (j := 3) rfl; have f16 := congrArg Int32.toInt (show ((σ1 9).2.2.1 17 3) = ((σ 9).2.2.1 17 3) from congrFun (((sI_f eσ1) 9 17 rfl).2.2.1) _); have f17 := b7; have f18 := k12; have f19 := b16; have f20 := k20; have f21 := a9_17 hJ (j := 3) rfl; have g2 := rg32 p3; have g3 := rg32 x101; have z0 : (0 : Int32).toInt = 0 := (by decide); have z1 : (1 : Int32).toInt = 1 := (by decide); have zl1 : (1 : Int64).toInt = 1 := (by decide); have z2 : (2 : Int32).toInt = 2 := (by decide); have zl3 : (3 : Int64).toInt = 3 := (by decide); have zl30 : (30 : Int64).toInt = 30 := (by decide); have w30 := t64 (a := p2); have w31 := t64 (a := p3); omega))) (va_cwS 3 hts (gd_S q2109 q2110 q134 q2111) rfl rfl rfl (by decide +kernel) ⟨Nat.le_of_ble_eq_true rfl, Nat.le_of_ble_eq_true rfl⟩) (ps9 hP hK hD hC hS) rfl rfl hl.1 rfl (lv_room (Nat.le_of_ble_eq_true rfl)) dX9_train_81 ⟨Nat.le_of_ble_eq_true rfl, Nat.le_of_ble_eq_true rfl⟩) hS (fun q _ h => up9 hS q h) (up9 hS) (fun r103 σ104 tS H1 locs ht hvm hw105 hB hz1 hk1 hS => ?_)
              have hP : va_P D clz (WD9 cy g σ104) H1 := by rw [← ht]; exact hB
              clear hB hz1 hk1 hvm ht
              generalize H1 = H at hP hS ⊢
              have hF106 : Fr (fL [19]) σ1 σ104 := hw105.1
              have hJ107 : J9 (σ104 9) := hw105.2.1
              have b108 : ((σ104 9)).2.2.1 19 = upd (((σ1 9)).2.2.1 19) x101.toInt.toNat p3 := hw105.2.2.1
              exact W.iret (v := r103) hx hb hr (fun tS ht hW => ⟨⟨r103, σ104, rfl, ⟨Fr.tr (Fr.tr (Fr.rf) (sI_f eσ1) (fN_L rfl)) hF106 (fL_sub rfl), hJ107, (DKA.pl T3 (hF106 9 17 rfl).2.2.1 (hF106 9 18 rfl).2.2.1 b108 (by have f0 := t64 (a := p2); have f1 := rg32 p2; have f2 := k86; have f3 := k88; have f4 := k91; have f5 := t102; have f6 := b17; have f7 := t100; have f8 := b8; have f9 := b9; have f10 := b16; have f11 := k20; have f12 := a9_17 hJ2 (j := 3) rfl; have f13 := congrArg Int32.toInt (show ((σ1 9).2.2.1 17 3) = ((σ 9).2.2.1 17 3) from congrFun (((sI_f eσ1) 9 17 rfl).2.2.1) _); have f14 := b7; have f15 := k12; have f16 := a9_17 hJ (j := 3) rfl; have g2 := rg32 p2; have g3 := rg32 x101; have z0 : (0 : Int32).toInt = 0 := (by decide); have z1 : (1 : Int32).toInt = 1 := (by decide); have zl1 : (1 : Int64).toInt = 1 := (by decide); have z2 : (2 : Int32).toInt = 2 := (by decide); have zl3 : (3 : Int64).toInt = 3 := (by decide); have w24 := t64 (a := p2); omega)), trivial⟩, (show va_P D clz (WD9 cy g σ104) tS.heap by rw [ht]; exact hP)⟩, hS.F ht⟩) hS.2.2 dX9_train_84
            ·
              have k110 := peq32 c97
              refine lv_bipush (v := (-2)) hx hb dX9_train_68 (by decide) ?_
              exact W.iret (v := (-2)) hx hb hr (fun tS ht hW => ⟨⟨(-2), σ1, rfl, ⟨Fr.tr (Fr.rf) (sI_f eσ1) (fN_L rfl), hJ2, T3, trivial⟩, (show va_P D clz (WD9 cy g σ1) tS.heap by rw [ht]; exact hP)⟩, hS.F ht⟩) hS.2.2 dX9_train_70
        ·
          have k111 := peq32 c87
          exact False.elim (by have f0 := t64 (a := p2); have f1 := rg32 p2; have f2 := k86; have f3 := k111; have f4 := b17; have f5 := b16; have f6 := k20; have g0 := rg32 p2; have z0 : (0 : Int32).toInt = 0 := (by decide); have z1 : (1 : Int32).toInt = 1 := (by decide); have zl1 : (1 : Int64).toInt = 1 := (by decide); have z2 : (2 : Int32).toInt = 2 := (by decide); have zl3 : (3 : Int64).toInt = 3 := (by decide); have w13 := t64 (a := p2); omega)

theorem q2115 : Cond.code yX9_tune cX9_tune 3 (some .int) ∈ lw_g := lw_gm (List.mem_of_getElem? (i := 2115) (by decide +kernel)) rfl
theorem dX9_tune_0 : decode cX9_tune 0 = .ok (.aload_n 0, 1) := by decide +kernel
theorem dX9_tune_1 : decode cX9_tune 1 = .ok (.iconst 0, 1) := by decide +kernel
theorem dX9_tune_2 : decode cX9_tune 2 = .ok (.putfield 129, 3) := by decide +kernel
theorem dX9_tune_5 : decode cX9_tune 5 = .ok (.aload_n 0, 1) := by decide +kernel
theorem dX9_tune_6 : decode cX9_tune 6 = .ok (.iload_n 1, 1) := by decide +kernel
theorem dX9_tune_7 : decode cX9_tune 7 = .ok (.invokevirtual 312, 3) := by decide +kernel
theorem dX9_tune_10 : decode cX9_tune 10 = .ok (.ifCond .eq 34, 3) := by decide +kernel
theorem dX9_tune_13 : decode cX9_tune 13 = .ok (.iload_n 2, 1) := by decide +kernel
theorem dX9_tune_14 : decode cX9_tune 14 = .ok (.i2l, 1) := by decide +kernel
theorem dX9_tune_15 : decode cX9_tune 15 = .ok (.ldc2_w 537, 3) := by decide +kernel
theorem dX9_tune_18 : decode cX9_tune 18 = .ok (.ldc2_w 554, 3) := by decide +kernel
theorem dX9_tune_21 : decode cX9_tune 21 = .ok (.invokestatic 134, 3) := by decide +kernel
theorem dX9_tune_24 : decode cX9_tune 24 = .ok (.ifCond .eq 20, 3) := by decide +kernel
theorem dX9_tune_27 : decode cX9_tune 27 = .ok (.aload_n 0, 1) := by decide +kernel
theorem dX9_tune_28 : decode cX9_tune 28 = .ok (.getfield 37, 3) := by decide +kernel
theorem dX9_tune_31 : decode cX9_tune 31 = .ok (.bipush 7, 2) := by decide +kernel
theorem dX9_tune_33 : decode cX9_tune 33 = .ok (.iload_n 1, 1) := by decide +kernel
theorem dX9_tune_34 : decode cX9_tune 34 = .ok (.imul, 1) := by decide +kernel
theorem dX9_tune_35 : decode cX9_tune 35 = .ok (.iconst 2, 1) := by decide +kernel
theorem dX9_tune_36 : decode cX9_tune 36 = .ok (.iadd, 1) := by decide +kernel
theorem dX9_tune_37 : decode cX9_tune 37 = .ok (.iload_n 2, 1) := by decide +kernel
theorem dX9_tune_38 : decode cX9_tune 38 = .ok (.invokestatic 556, 3) := by decide +kernel
theorem dX9_tune_41 : decode cX9_tune 41 = .ok (.goto 5, 3) := by decide +kernel
theorem dX9_tune_44 : decode cX9_tune 44 = .ok (.bipush (-2), 2) := by decide +kernel
theorem dX9_tune_46 : decode cX9_tune 46 = .ok (.ireturn, 1) := by decide +kernel
set_option maxHeartbeats 4000000 in
set_option maxRecDepth 100000 in
theorem m_X9_tune (l : Launch) (D : va_G) (cy : Nat → ClassId) (g : Nat → Nat) (σ : ST) (p1 : Int32) (p2 : Int32) (sz : Nat) (hJ : J9 (σ 9)) (kDKA : DKA (σ 9)) : Met l yX9_tune (ww yX9_tune cX9_tune 3 (some .int)) ({ frames := 3, cells := 0, slots := 0, locals := 192 }) (va_Pc [.ref (g 60), .int p1, .int p2] (pr9 D cy g σ sz)) (qi9 D cy g sz (fun r τ => Fr (fL [0, 18]) σ τ ∧ J9 (τ 9) ∧ DKA (τ 9) ∧ True)) 0 0 (A9 cy g sz) := by
  refine Met.ofW (cc := cX9_tune) (maxL := 3) (ret := (some .int)) (by decide) rfl ?_
  intro p e s m args below meth c s₁ B hml hv
  obtain ⟨rfl, hsz, hP, hK, hD0, hC⟩ := hv
  have hx := B.exec
  have hb := B.bytes
  have hr := B.returns
  have hts := hts_g (atoms_spec (ws := ww yX9_tune cX9_tune 3 (some .int)) B.pre)
  have hown : s.vm.findClass RX9 = some m.cls := findClass_of_methodNamed B.named
  have hlocks := B.notSynchronized
  clear B
  subst hsz
  have hD := fun τ => A9_D (sz := s.heap.size) hD0 τ
  clear hD0
  have hS : va_S (A9 cy g s.heap.size) s.heap s.heap [] := va_S.rf
  have hl := lv_entry ([.ref (g 60), .int p1, .int p2]) (n := 3) (Nat.le_of_ble_eq_true rfl)
  rw [lg_entry_eq]
  generalize (lg_sl ([.ref (g 60), .int p1, .int p2]) ++ List.replicate (3 - (lg_sl ([.ref (g 60), .int p1, .int p2])).length) Slot.unset).toArray = ls at hl ⊢
  have hl : lv_has ls 3 [(0, .ref (g 60)), (1, .int p1), (2, .int p2)] := hl
  refine lv_aload_n hx hb dX9_tune_0 rfl (lv_at hl 0 rfl) ?_
  refine lv_iconst (v := 0) hx hb dX9_tune_1 (by decide) ?_
  refine p9_0 hx hb hts hown hK hP hD hS (hts _ q1360) dX9_tune_2 (fun H locs σ1 eσ1 hP hS => ?_)
  have hJ2 : J9 (σ1 9) := hJ.I eσ1 (show JI9 0 (0 : Int32) from trivial)
  have T3 : DKA (σ1 9) := DKA.mv kDKA ((sI_f eσ1) 9 17 rfl).2.2.1 ((sI_f eσ1) 9 18 rfl).2.2.1 ((sI_f eσ1) 9 19 rfl).2.2.1
  refine lv_aload_n hx hb dX9_tune_5 rfl (lv_at hl 0 rfl) ?_
  refine lv_iload_n hx hb dX9_tune_6 rfl (lv_at hl 1 rfl) ?_
  refine va_calli (va_runV (As := [.int p1]) (rest := []) ⟨hx, hb, hml, hown, hts⟩ (m_X9_isBrass l D cy g σ1 p1 _ hJ2 ) (cwV 1 hts (gd_V q1701 q1703 q71 q134 q1704) rfl rfl rfl (by decide +kernel) ⟨Nat.le_of_ble_eq_true rfl, Nat.le_of_ble_eq_true rfl⟩) (pv9 hP hK hD hC hS (va_recv hK hP (ci := 9) (q0 := 0) rfl rfl)) rfl rfl hl.1 rfl (lv_room (Nat.le_of_ble_eq_true rfl)) dX9_tune_7 ⟨Nat.le_of_ble_eq_true rfl, Nat.le_of_ble_eq_true rfl⟩) hS (fun q _ h => up9 hS q h) (up9 hS) (fun r4 σ5 tS H1 locs ht hvm hw6 hB hz1 hk1 hS => ?_)
  have hP : va_P D clz (WD9 cy g σ5) H1 := by rw [← ht]; exact hB
  clear hB hz1 hk1 hvm ht
  generalize H1 = H at hP hS ⊢
  have hw6E : σ1 = σ5 := (hw6.1).symm
  subst hw6E
  have b7 : (0 : Int) ≤ r4.toInt ∧ r4.toInt ≤ 1 := hw6.2.1
  have b8 : (r4.toInt = 0) ∨ ((0 : Int) ≤ p1.toInt ∧ p1.toInt ≤ 3) := hw6.2.2.1
  have b9 : (r4.toInt = 0) ∨ (0 ≤ p1.toInt ∧ p1.toInt < ((σ1 9).2.2.1 17 2).toInt) := hw6.2.2.2.1
  refine lv_if_eq (tgt := 44) hx hb dX9_tune_10 (by decide) (fun c10 => ?_) (fun c10 => ?_)
  ·
    have k11 := peq32 c10
    refine lv_bipush (v := (-2)) hx hb dX9_tune_44 (by decide) ?_
    exact W.iret (v := (-2)) hx hb hr (fun tS ht hW => ⟨⟨(-2), σ1, rfl, ⟨Fr.tr (Fr.rf) (sI_f eσ1) (fN_L rfl), hJ2, T3, trivial⟩, (show va_P D clz (WD9 cy g σ1) tS.heap by rw [ht]; exact hP)⟩, hS.F ht⟩) hS.2.2 dX9_tune_46
  ·
    have k12 := neq32 c10
    refine lv_iload_n hx hb dX9_tune_13 rfl (lv_at hl 2 rfl) ?_
    refine lv_i2l (v := p2.toInt64) hx hb dX9_tune_14 rfl ?_
    refine lv_ldc2 (v := 100) hx hb hown (hts _ q2092) dX9_tune_15 ?_
    refine lv_ldc2 (v := 999) hx hb hown (hts _ q2108) dX9_tune_18 ?_
    refine va_calli (va_runS (As := [.long p2.toInt64, .long 100, .long 999]) (rest := []) ⟨hx, hb, hml, hown, hts⟩ (m_X9_in l D cy g σ1 p2.toInt64 (100) (999) _ hJ2 ) (va_cwS 3 hts (gd_S q1550 q1551 q134 q1552) rfl rfl rfl (by decide +kernel) ⟨Nat.le_of_ble_eq_true rfl, Nat.le_of_ble_eq_true rfl⟩) (ps9 hP hK hD hC hS) rfl rfl hl.1 rfl (lv_room (Nat.le_of_ble_eq_true rfl)) dX9_tune_21 ⟨Nat.le_of_ble_eq_true rfl, Nat.le_of_ble_eq_true rfl⟩) hS (fun q _ h => up9 hS q h) (up9 hS) (fun r13 σ14 tS H1 locs ht hvm hw15 hB hz1 hk1 hS => ?_)
    have hP : va_P D clz (WD9 cy g σ14) H1 := by rw [← ht]; exact hB
    clear hB hz1 hk1 hvm ht
    generalize H1 = H at hP hS ⊢
    have hw15E : σ1 = σ14 := (hw15.1).symm
    subst hw15E
    have b16 : (0 : Int) ≤ r13.toInt ∧ r13.toInt ≤ 1 := hw15.2.1
    have b17 : (r13.toInt = 1 ∧ (100 : Int64).toInt ≤ p2.toInt64.toInt ∧ p2.toInt64.toInt ≤ (999 : Int64).toInt) ∨ (r13.toInt = 0 ∧ ¬ ((100 : Int64).toInt ≤ p2.toInt64.toInt ∧ p2.toInt64.toInt ≤ (999 : Int64).toInt)) := hw15.2.2.1
    refine lv_if_eq (tgt := 44) hx hb dX9_tune_24 (by decide) (fun c18 => ?_) (fun c18 => ?_)
    ·
      have k19 := peq32 c18
      refine lv_bipush (v := (-2)) hx hb dX9_tune_44 (by decide) ?_
      exact W.iret (v := (-2)) hx hb hr (fun tS ht hW => ⟨⟨(-2), σ1, rfl, ⟨Fr.tr (Fr.rf) (sI_f eσ1) (fN_L rfl), hJ2, T3, trivial⟩, (show va_P D clz (WD9 cy g σ1) tS.heap by rw [ht]; exact hP)⟩, hS.F ht⟩) hS.2.2 dX9_tune_46
    ·
      have k20 := neq32 c18
      refine lv_aload_n hx hb dX9_tune_27 rfl (lv_at hl 0 rfl) ?_
      refine g9_18 hx hb hts hown hK hP (hts _ q1378) dX9_tune_28 ?_
      refine lv_bipush (v := 7) hx hb dX9_tune_31 (by decide) ?_
      refine lv_iload_n hx hb dX9_tune_33 rfl (lv_at hl 1 rfl) ?_
      refine lv_imul hx hb dX9_tune_34 ?_
      refine lv_topi (fun x21 ex21 => ?_)
      have t22 := mulC' (n := 7) ex21 (by decide) (by have f0 := b8; have f1 := b9; have f2 := a9_17 hJ2 (j := 2) rfl; have f3 := congrArg Int32.toInt (show ((σ1 9).2.2.1 17 2) = ((σ 9).2.2.1 17 2) from congrFun (((sI_f eσ1) 9 17 rfl).2.2.1) _); have f4 := b7; have f5 := k12; have f6 := a9_17 hJ (j := 2) rfl; have g2 := rg32 p1; have z0 : (0 : Int32).toInt = 0 := (by decide); omega)
      refine lv_iconst (v := 2) hx hb dX9_tune_35 (by decide) ?_
      refine lv_iadd hx hb dX9_tune_36 ?_
      refine lv_topi (fun x23 ex23 => ?_)
      have t24 := addO ex23 (by have f0 := t22; have f1 := b8; have f2 := b9; have f3 := a9_17 hJ2 (j := 2) rfl; have f4 := congrArg Int32.toInt (show ((σ1 9).2.2.1 17 2) = ((σ 9).2.2.1 17 2) from congrFun (((sI_f eσ1) 9 17 rfl).2.2.1) _); have f5 := b7; have f6 := k12; have f7 := a9_17 hJ (j := 2) rfl; have g2 := rg32 x21; have z0 : (0 : Int32).toInt = 0 := (by decide); have z2 : (2 : Int32).toInt = 2 := (by decide); omega)
      refine lv_iload_n hx hb dX9_tune_37 rfl (lv_at hl 2 rfl) ?_
      refine va_calli (va_runS (As := [.ref (g 18), .int x23, .int p2]) (rest := []) ⟨hx, hb, hml, hown, hts⟩ (m_X9_sets_18 l D cy g σ1 x23 p2 _ hJ2 (show (0 : Int) ≤ x23.toInt ∧ x23.toInt ≤ 139 from (by have f0 := t24; have f1 := t22; have f2 := b8; have f3 := b9; have f4 := a9_17 hJ2 (j := 2) rfl; have f5 := congrArg Int32.toInt (show ((σ1 9).2.2.1 17 2) = ((σ 9).2.2.1 17 2) from congrFun (((sI_f eσ1) 9 17 rfl).2.2.1) _); have f6 := b7; have f7 := k12; have f8 := a9_17 hJ (j := 2) rfl; have g2 := rg32 x23; have z0 : (0 : Int32).toInt = 0 := (by decide); have z2 : (2 : Int32).toInt = 2 := (by decide); omega)) (show 0 ≤ p2.toInt ∧ p2.toInt ≤ 999 from (by have f0 := t64 (a := p2); have f1 := rg32 p2; have f2 := b17; have f3 := b16; have f4 := k20; have g0 := rg32 p2; have z0 : (0 : Int32).toInt = 0 := (by decide); have zl100 : (100 : Int64).toInt = 100 := (by decide); have zl999 : (999 : Int64).toInt = 999 := (by decide); have w9 := t64 (a := p2); omega))) (va_cwS 3 hts (gd_S q2109 q2110 q134 q2111) rfl rfl rfl (by decide +kernel) ⟨Nat.le_of_ble_eq_true rfl, Nat.le_of_ble_eq_true rfl⟩) (ps9 hP hK hD hC hS) rfl rfl hl.1 rfl (lv_room (Nat.le_of_ble_eq_true rfl)) dX9_tune_38 ⟨Nat.le_of_ble_eq_true rfl, Nat.le_of_ble_eq_true rfl⟩) hS (fun q _ h => up9 hS q h) (up9 hS) (fun r25 σ26 tS H1 locs ht hvm hw27 hB hz1 hk1 hS => ?_)
      have hP : va_P D clz (WD9 cy g σ26) H1 := by rw [← ht]; exact hB
      clear hB hz1 hk1 hvm ht
      generalize H1 = H at hP hS ⊢
      have hF28 : Fr (fL [18]) σ1 σ26 := hw27.1
      have hJ29 : J9 (σ26 9) := hw27.2.1
      have b30 : ((σ26 9)).2.2.1 18 = upd (((σ1 9)).2.2.1 18) x23.toInt.toNat p2 := hw27.2.2.1
      refine lv_goto (tgt := 46) hx hb dX9_tune_41 (by decide) ?_
      exact W.iret (v := r25) hx hb hr (fun tS ht hW => ⟨⟨r25, σ26, rfl, ⟨Fr.tr (Fr.tr (Fr.rf) (sI_f eσ1) (fN_L rfl)) hF28 (fL_sub rfl), hJ29, (DKA.br T3 (hF28 9 17 rfl).2.2.1 (hF28 9 19 rfl).2.2.1 b30 (by have f0 := t64 (a := p2); have f1 := rg32 p2; have f2 := b17; have f3 := b16; have f4 := k20; have g0 := rg32 p2; have z0 : (0 : Int32).toInt = 0 := (by decide); have zl100 : (100 : Int64).toInt = 100 := (by decide); have zl999 : (999 : Int64).toInt = 999 := (by decide); have w9 := t64 (a := p2); omega)), trivial⟩, (show va_P D clz (WD9 cy g σ26) tS.heap by rw [ht]; exact hP)⟩, hS.F ht⟩) hS.2.2 dX9_tune_46

