theorem q1696 : Cond.code yX9_copyRow cX9_copyRow 5 none ∈ lw_g := lw_gm (List.mem_of_getElem? (i := 1696) (by decide +kernel)) rfl
theorem dX9_copyRow_0 : decode cX9_copyRow 0 = .ok (.iconst 0, 1) := by decide +kernel
theorem dX9_copyRow_1 : decode cX9_copyRow 1 = .ok (.istore 4, 2) := by decide +kernel
theorem dX9_copyRow_3 : decode cX9_copyRow 3 = .ok (.iload 4, 2) := by decide +kernel
theorem dX9_copyRow_5 : decode cX9_copyRow 5 = .ok (.iload_n 1, 1) := by decide +kernel
theorem dX9_copyRow_6 : decode cX9_copyRow 6 = .ok (.if_icmp .ge 25, 3) := by decide +kernel
theorem dX9_copyRow_9 : decode cX9_copyRow 9 = .ok (.aload_n 0, 1) := by decide +kernel
theorem dX9_copyRow_10 : decode cX9_copyRow 10 = .ok (.iload_n 1, 1) := by decide +kernel
theorem dX9_copyRow_11 : decode cX9_copyRow 11 = .ok (.iload_n 3, 1) := by decide +kernel
theorem dX9_copyRow_12 : decode cX9_copyRow 12 = .ok (.imul, 1) := by decide +kernel
theorem dX9_copyRow_13 : decode cX9_copyRow 13 = .ok (.iload 4, 2) := by decide +kernel
theorem dX9_copyRow_15 : decode cX9_copyRow 15 = .ok (.iadd, 1) := by decide +kernel
theorem dX9_copyRow_16 : decode cX9_copyRow 16 = .ok (.aload_n 0, 1) := by decide +kernel
theorem dX9_copyRow_17 : decode cX9_copyRow 17 = .ok (.iload_n 1, 1) := by decide +kernel
theorem dX9_copyRow_18 : decode cX9_copyRow 18 = .ok (.iload_n 2, 1) := by decide +kernel
theorem dX9_copyRow_19 : decode cX9_copyRow 19 = .ok (.imul, 1) := by decide +kernel
theorem dX9_copyRow_20 : decode cX9_copyRow 20 = .ok (.iload 4, 2) := by decide +kernel
theorem dX9_copyRow_22 : decode cX9_copyRow 22 = .ok (.iadd, 1) := by decide +kernel
theorem dX9_copyRow_23 : decode cX9_copyRow 23 = .ok (.iaload, 1) := by decide +kernel
theorem dX9_copyRow_24 : decode cX9_copyRow 24 = .ok (.iastore, 1) := by decide +kernel
theorem dX9_copyRow_25 : decode cX9_copyRow 25 = .ok (.iinc 4 1, 3) := by decide +kernel
theorem dX9_copyRow_28 : decode cX9_copyRow 28 = .ok (.goto (-25), 3) := by decide +kernel
theorem dX9_copyRow_31 : decode cX9_copyRow 31 = .ok (.return_, 1) := by decide +kernel
set_option maxHeartbeats 4000000 in
set_option maxRecDepth 100000 in
theorem m_X9_copyRow_16_c1 (l : Launch) (D : va_G) (cy : Nat → ClassId) (g : Nat → Nat) (σ : ST) (p2 : Int32) (p3 : Int32) (sz : Nat) (hJ : J9 (σ 9)) (h0 : (0 : Int) ≤ p2.toInt ∧ p2.toInt ≤ 4) (h1 : (0 : Int) ≤ p3.toInt ∧ p3.toInt ≤ 4) (h2 : ¬ p2.toInt = p3.toInt) : Met l yX9_copyRow (ww yX9_copyRow cX9_copyRow 5 none) ({ frames := 1, cells := 0, slots := 0, locals := 64 }) (va_Pc [.ref (g 16), .int 1, .int p2, .int p3] (pr9 D cy g σ sz)) (qv9 D cy g sz (fun τ => Fr (fL [16]) σ τ ∧ J9 (τ 9) ∧ (CR (((τ 9)).2.2.1 16) (((σ 9)).2.2.1 16) 1 p2.toInt.toNat p3.toInt.toNat 1) ∧ True)) 0 0 (A9 cy g sz) := by
  refine Met.ofW (cc := cX9_copyRow) (maxL := 5) (ret := none) (by decide) rfl ?_
  intro p e s m args below meth c s₁ B hml hv
  obtain ⟨rfl, hsz, hP, hK, hD0, hC⟩ := hv
  have hx := B.exec
  have hb := B.bytes
  have hr := B.returns
  have hts := hts_g (atoms_spec (ws := ww yX9_copyRow cX9_copyRow 5 none) B.pre)
  have hown : s.vm.findClass RX9 = some m.cls := findClass_of_methodNamed B.named
  have hlocks := B.notSynchronized
  clear B
  subst hsz
  have hD := fun τ => A9_D (sz := s.heap.size) hD0 τ
  clear hD0
  have hS : va_S (A9 cy g s.heap.size) s.heap s.heap [] := va_S.rf
  have hl := lv_entry ([.ref (g 16), .int 1, .int p2, .int p3]) (n := 5) (Nat.le_of_ble_eq_true rfl)
  rw [lg_entry_eq]
  generalize (lg_sl ([.ref (g 16), .int 1, .int p2, .int p3]) ++ List.replicate (5 - (lg_sl ([.ref (g 16), .int 1, .int p2, .int p3])).length) Slot.unset).toArray = ls at hl ⊢
  have hl : lv_has ls 5 [(0, .ref (g 16)), (1, .int 1), (2, .int p2), (3, .int p3)] := hl
  refine lv_iconst (v := 0) hx hb dX9_copyRow_0 (by decide) ?_
  refine lv_istore (lv' := [(4, .int 0), (0, .ref (g 16)), (1, .int 1), (2, .int p2), (3, .int p3)]) hx hb dX9_copyRow_1 hl (by decide) rfl (fun ls hl => ?_)
  refine loop9 5 3 (fun x : LZ => [(4, .int (x.2.1 0)), (0, .ref (g 16)), (1, .int 1), (2, .int p2), (3, .int p3)]) (fun x : LZ => (Fr (fL [16]) σ x.1) ∧ (J9 (x.1 9)) ∧ ((0 : Int) ≤ (x.2.1 0).toInt ∧ (x.2.1 0).toInt ≤ 1) ∧ (CR ((x.1 9).2.2.1 16) ((σ 9).2.2.1 16) 1 p2.toInt.toNat p3.toInt.toNat (x.2.1 0).toInt.toNat) ∧ True) (fun x : LZ => ((2 : Int) - (x.2.1 0).toInt).toNat) ?_ (σ, lf [0], lg []) ⟨Fr.rf, hJ, (show (0 : Int) ≤ (0 : Int32).toInt ∧ (0 : Int32).toInt ≤ 1 from (by have z0 : (0 : Int32).toInt = 0 := (by decide); omega)), (show CR ((σ 9).2.2.1 16) ((σ 9).2.2.1 16) 1 p2.toInt.toNat p3.toInt.toNat (0 : Int32).toInt.toNat from (by rw [show (0 : Int32).toInt.toNat = 0 by decide]; exact CR.nil)), trivial⟩ _ _ _ hP hS (lv_sub hl [0, 1, 2, 3, 4] rfl)
  intro y3 hI2 nl1 H locs ls hP hS hl
  obtain ⟨σ4, eσ4⟩ : ∃ z, z = y3.1 := ⟨_, rfl⟩
  rw [← eσ4] at hP hI2
  have hF5 : Fr (fL [16]) σ σ4 := hI2.1
  have hJ6 : J9 (σ4 9) := hI2.2.1
  have b7 : (0 : Int) ≤ (y3.2.1 0).toInt ∧ (y3.2.1 0).toInt ≤ 1 := hI2.2.2.1
  have b8 : CR ((σ4 9).2.2.1 16) ((σ 9).2.2.1 16) 1 p2.toInt.toNat p3.toInt.toNat (y3.2.1 0).toInt.toNat := hI2.2.2.2.1
  have hl : lv_has ls 5 [(4, .int (y3.2.1 0)), (0, .ref (g 16)), (1, .int 1), (2, .int p2), (3, .int p3)] := hl
  refine lv_iload hx hb dX9_copyRow_3 (lv_at hl 0 rfl) ?_
  refine lv_iload_n hx hb dX9_copyRow_5 rfl (lv_at hl 2 rfl) ?_
  refine lv_icmp_ge (tgt := 31) hx hb dX9_copyRow_6 (by decide) (fun c9 => ?_) (fun c9 => ?_)
  ·
    have k10 := ple32 c9
    exact W.vret hx hb hr (fun tS ht hW => ⟨⟨σ4, rfl, ⟨Fr.tr (Fr.rf) hF5 (fL_sub rfl), hJ6, (show CR (((σ4 9)).2.2.1 16) (((σ 9)).2.2.1 16) 1 p2.toInt.toNat p3.toInt.toNat 1 from (by have h := b8; rw [show (y3.2.1 0).toInt.toNat = 1 from (by have f0 := b7; have f1 := k10; have g0 := rg32 (y3.2.1 0); have z1 : (1 : Int32).toInt = 1 := (by decide); omega)] at h; exact h)), trivial⟩, (show va_P D clz (WD9 cy g σ4) tS.heap by rw [ht]; exact hP)⟩, hS.F ht⟩) hS.2.2 dX9_copyRow_31
  ·
    have k11 := nle32 c9
    refine lv_aload_n hx hb dX9_copyRow_9 rfl (lv_at hl 1 rfl) ?_
    refine lv_iload_n hx hb dX9_copyRow_10 rfl (lv_at hl 2 rfl) ?_
    refine lv_iload_n hx hb dX9_copyRow_11 rfl (lv_at hl 4 rfl) ?_
    refine lv_imul hx hb dX9_copyRow_12 ?_
    refine lv_topi (fun x12 ex12 => ?_)
    have t13 := mulC' (n := 1) ex12 (by decide) (by have f0 := h1; have f1 := h2; have f2 := h0; have g0 := rg32 p3; omega)
    refine lv_iload hx hb dX9_copyRow_13 (lv_at hl 0 rfl) ?_
    refine lv_iadd hx hb dX9_copyRow_15 ?_
    refine lv_topi (fun x14 ex14 => ?_)
    have t15 := addO ex14 (by have f0 := b7; have f1 := k11; have f2 := t13; have f3 := h1; have f4 := h2; have f5 := h0; have g0 := rg32 (y3.2.1 0); have g1 := rg32 x12; have z1 : (1 : Int32).toInt = 1 := (by decide); omega)
    refine lv_aload_n hx hb dX9_copyRow_16 rfl (lv_at hl 1 rfl) ?_
    refine lv_iload_n hx hb dX9_copyRow_17 rfl (lv_at hl 2 rfl) ?_
    refine lv_iload_n hx hb dX9_copyRow_18 rfl (lv_at hl 3 rfl) ?_
    refine lv_imul hx hb dX9_copyRow_19 ?_
    refine lv_topi (fun x16 ex16 => ?_)
    have t17 := mulC' (n := 1) ex16 (by decide) (by have f0 := h0; have f1 := h2; have f2 := h1; have f3 := t13; have f4 := t15; have f5 := b7; have f6 := k11; have g0 := rg32 p2; have z1 : (1 : Int32).toInt = 1 := (by decide); omega)
    refine lv_iload hx hb dX9_copyRow_20 (lv_at hl 0 rfl) ?_
    refine lv_iadd hx hb dX9_copyRow_22 ?_
    refine lv_topi (fun x18 ex18 => ?_)
    have t19 := addO ex18 (by have f0 := b7; have f1 := k11; have f2 := t15; have f3 := t17; have f4 := h0; have f5 := h2; have f6 := t13; have f7 := h1; have g0 := rg32 (y3.2.1 0); have g1 := rg32 x16; have z1 : (1 : Int32).toInt = 1 := (by decide); omega)
    obtain ⟨x20, ex20⟩ : ∃ z, (σ4 9).2.2.1 16 x18.toInt.toNat = z := ⟨_, rfl⟩
    refine l9_16 (x := x20) hx hb hK hP (vpo (by have f0 := t19; have f1 := b7; have f2 := k11; have f3 := t15; have f4 := t17; have f5 := h0; have f6 := h2; have f7 := t13; have f8 := h1; have g0 := rg32 x18; have z1 : (1 : Int32).toInt = 1 := (by decide); omega)) ex20 dX9_copyRow_23 ?_
    refine t9_16 hx hb hK hP hD hS (vpo (by have f0 := t15; have f1 := b7; have f2 := k11; have f3 := t13; have f4 := t19; have f5 := h1; have f6 := h2; have f7 := t17; have f8 := h0; have g0 := rg32 x14; have z1 : (1 : Int32).toInt = 1 := (by decide); omega)) dX9_copyRow_24 (fun H locs σ21 eσ21 hP hS => ?_)
    have hJ22 : J9 (σ21 9) := hJ6.A eσ21 trivial
    obtain ⟨x23, ex23⟩ : ∃ y : Int32, y = (y3.2.1 0) + 1 := ⟨_, rfl⟩
    have t24 := addO ex23 (by have f0 := b7; have f1 := k11; have f2 := t15; have f3 := t19; have f4 := t13; have f5 := t17; have f6 := h0; have f7 := h1; have f8 := h2; have g0 := rg32 (y3.2.1 0); have z1 : (1 : Int32).toInt = 1 := (by decide); omega)
    refine lv_iinc (v := x23) (lv' := [(4, .int x23), (0, .ref (g 16)), (1, .int 1), (2, .int p2), (3, .int p3)]) hx hb dX9_copyRow_25 hl (k := 0) rfl (by rw [ex23]; rfl) (by decide) rfl (fun ls hl => ?_)
    refine lv_goto (tgt := 3) hx hb dX9_copyRow_28 (by decide) ?_
    have t25 : ((2 : Int) - x23.toInt).toNat < ((2 : Int) - (y3.2.1 0).toInt).toNat := (by have f0 := b7; have f1 := k11; have f2 := t15; have f3 := t19; have f4 := t24; have f5 := t13; have f6 := t17; have f7 := h0; have f8 := h1; have f9 := h2; have g0 := rg32 (y3.2.1 0); have g1 := rg32 x23; have z1 : (1 : Int32).toInt = 1 := (by decide); omega)
    exact nl1 (σ21, lf [x23], lg []) ⟨Fr.tr (Fr.tr (Fr.rf) hF5 (fL_sub rfl)) (sA_f eσ21) (fN_L rfl), hJ22, (show (0 : Int) ≤ (x23 : Int32).toInt ∧ (x23 : Int32).toInt ≤ 1 from (by have f0 := t24; have f1 := b7; have f2 := k11; have f3 := t15; have f4 := t19; have f5 := t13; have f6 := t17; have f7 := h0; have f8 := h1; have f9 := h2; have g0 := rg32 x23; have z1 : (1 : Int32).toInt = 1 := (by decide); omega)), (show CR ((σ21 9).2.2.1 16) ((σ 9).2.2.1 16) 1 p2.toInt.toNat p3.toInt.toNat x23.toInt.toNat from (CR.step b8 (by have f0 := h0; have f1 := h1; have f2 := h2; have f3 := b7; have f4 := k11; have f5 := t13; have f6 := t15; have f7 := t17; have f8 := t19; have f9 := t24; have g0 := rg32 (y3.2.1 0); have g1 := rg32 p2; have g2 := rg32 p3; have g3 := rg32 x14; have g4 := rg32 x18; have g5 := rg32 x23; have z1 : (1 : Int32).toInt = 1 := (by decide); omega) (by have f0 := h0; have f1 := h1; have f2 := h2; have f3 := b7; have f4 := k11; have f5 := t13; have f6 := t15; have f7 := t17; have f8 := t19; have f9 := t24; have g0 := rg32 (y3.2.1 0); have g1 := rg32 p2; have g2 := rg32 p3; have g3 := rg32 x14; have g4 := rg32 x18; have g5 := rg32 x23; have z1 : (1 : Int32).toInt = 1 := (by decide); omega) (by have f0 := h0; have f1 := h1; have f2 := h2; have f3 := b7; have f4 := k11; have f5 := t13; have f6 := t15; have f7 := t17; have f8 := t19; have f9 := t24; have g0 := rg32 (y3.2.1 0); have g1 := rg32 p2; have g2 := rg32 p3; have g3 := rg32 x14; have g4 := rg32 x18; have g5 := rg32 x23; have z1 : (1 : Int32).toInt = 1 := (by decide); omega) (by have f0 := h0; have f1 := h1; have f2 := h2; have f3 := b7; have f4 := k11; have f5 := t13; have f6 := t15; have f7 := t17; have f8 := t19; have f9 := t24; have g0 := rg32 (y3.2.1 0); have g1 := rg32 p2; have g2 := rg32 p3; have g3 := rg32 x14; have g4 := rg32 x18; have g5 := rg32 x23; have z1 : (1 : Int32).toInt = 1 := (by decide); omega) ex20 (sA_s eσ21) (by have f0 := h0; have f1 := h1; have f2 := h2; have f3 := b7; have f4 := k11; have f5 := t13; have f6 := t15; have f7 := t17; have f8 := t19; have f9 := t24; have g0 := rg32 (y3.2.1 0); have g1 := rg32 p2; have g2 := rg32 p3; have g3 := rg32 x14; have g4 := rg32 x18; have g5 := rg32 x23; have z1 : (1 : Int32).toInt = 1 := (by decide); omega))), trivial⟩ (show ((2 : Int) - x23.toInt).toNat < _ from by first | exact t25 | (rw [← eσ4]; exact t25)) _ _ _ hP hS (lv_sub hl [0, 1, 2, 3, 4] rfl)

set_option maxHeartbeats 4000000 in
set_option maxRecDepth 100000 in
theorem m_X9_copyRow_18_c28 (l : Launch) (D : va_G) (cy : Nat → ClassId) (g : Nat → Nat) (σ : ST) (p2 : Int32) (p3 : Int32) (sz : Nat) (hJ : J9 (σ 9)) (h0 : (0 : Int) ≤ p2.toInt ∧ p2.toInt ≤ 4) (h1 : (0 : Int) ≤ p3.toInt ∧ p3.toInt ≤ 4) (h2 : ¬ p2.toInt = p3.toInt) : Met l yX9_copyRow (ww yX9_copyRow cX9_copyRow 5 none) ({ frames := 1, cells := 0, slots := 0, locals := 64 }) (va_Pc [.ref (g 18), .int 28, .int p2, .int p3] (pr9 D cy g σ sz)) (qv9 D cy g sz (fun τ => Fr (fL [18]) σ τ ∧ J9 (τ 9) ∧ (CR (((τ 9)).2.2.1 18) (((σ 9)).2.2.1 18) 28 p2.toInt.toNat p3.toInt.toNat 28) ∧ True)) 0 0 (A9 cy g sz) := by
  refine Met.ofW (cc := cX9_copyRow) (maxL := 5) (ret := none) (by decide) rfl ?_
  intro p e s m args below meth c s₁ B hml hv
  obtain ⟨rfl, hsz, hP, hK, hD0, hC⟩ := hv
  have hx := B.exec
  have hb := B.bytes
  have hr := B.returns
  have hts := hts_g (atoms_spec (ws := ww yX9_copyRow cX9_copyRow 5 none) B.pre)
  have hown : s.vm.findClass RX9 = some m.cls := findClass_of_methodNamed B.named
  have hlocks := B.notSynchronized
  clear B
  subst hsz
  have hD := fun τ => A9_D (sz := s.heap.size) hD0 τ
  clear hD0
  have hS : va_S (A9 cy g s.heap.size) s.heap s.heap [] := va_S.rf
  have hl := lv_entry ([.ref (g 18), .int 28, .int p2, .int p3]) (n := 5) (Nat.le_of_ble_eq_true rfl)
  rw [lg_entry_eq]
  generalize (lg_sl ([.ref (g 18), .int 28, .int p2, .int p3]) ++ List.replicate (5 - (lg_sl ([.ref (g 18), .int 28, .int p2, .int p3])).length) Slot.unset).toArray = ls at hl ⊢
  have hl : lv_has ls 5 [(0, .ref (g 18)), (1, .int 28), (2, .int p2), (3, .int p3)] := hl
  refine lv_iconst (v := 0) hx hb dX9_copyRow_0 (by decide) ?_
  refine lv_istore (lv' := [(4, .int 0), (0, .ref (g 18)), (1, .int 28), (2, .int p2), (3, .int p3)]) hx hb dX9_copyRow_1 hl (by decide) rfl (fun ls hl => ?_)
  refine loop9 5 3 (fun x : LZ => [(4, .int (x.2.1 0)), (0, .ref (g 18)), (1, .int 28), (2, .int p2), (3, .int p3)]) (fun x : LZ => (Fr (fL [18]) σ x.1) ∧ (J9 (x.1 9)) ∧ ((0 : Int) ≤ (x.2.1 0).toInt ∧ (x.2.1 0).toInt ≤ 28) ∧ (CR ((x.1 9).2.2.1 18) ((σ 9).2.2.1 18) 28 p2.toInt.toNat p3.toInt.toNat (x.2.1 0).toInt.toNat) ∧ True) (fun x : LZ => ((29 : Int) - (x.2.1 0).toInt).toNat) ?_ (σ, lf [0], lg []) ⟨Fr.rf, hJ, (show (0 : Int) ≤ (0 : Int32).toInt ∧ (0 : Int32).toInt ≤ 28 from (by have z0 : (0 : Int32).toInt = 0 := (by decide); omega)), (show CR ((σ 9).2.2.1 18) ((σ 9).2.2.1 18) 28 p2.toInt.toNat p3.toInt.toNat (0 : Int32).toInt.toNat from (by rw [show (0 : Int32).toInt.toNat = 0 by decide]; exact CR.nil)), trivial⟩ _ _ _ hP hS (lv_sub hl [0, 1, 2, 3, 4] rfl)
  intro y3 hI2 nl1 H locs ls hP hS hl
  obtain ⟨σ4, eσ4⟩ : ∃ z, z = y3.1 := ⟨_, rfl⟩
  rw [← eσ4] at hP hI2
  have hF5 : Fr (fL [18]) σ σ4 := hI2.1
  have hJ6 : J9 (σ4 9) := hI2.2.1
  have b7 : (0 : Int) ≤ (y3.2.1 0).toInt ∧ (y3.2.1 0).toInt ≤ 28 := hI2.2.2.1
  have b8 : CR ((σ4 9).2.2.1 18) ((σ 9).2.2.1 18) 28 p2.toInt.toNat p3.toInt.toNat (y3.2.1 0).toInt.toNat := hI2.2.2.2.1
  have hl : lv_has ls 5 [(4, .int (y3.2.1 0)), (0, .ref (g 18)), (1, .int 28), (2, .int p2), (3, .int p3)] := hl
  refine lv_iload hx hb dX9_copyRow_3 (lv_at hl 0 rfl) ?_
  refine lv_iload_n hx hb dX9_copyRow_5 rfl (lv_at hl 2 rfl) ?_
  refine lv_icmp_ge (tgt := 31) hx hb dX9_copyRow_6 (by decide) (fun c9 => ?_) (fun c9 => ?_)
  ·
    have k10 := ple32 c9
    exact W.vret hx hb hr (fun tS ht hW => ⟨⟨σ4, rfl, ⟨Fr.tr (Fr.rf) hF5 (fL_sub rfl), hJ6, (show CR (((σ4 9)).2.2.1 18) (((σ 9)).2.2.1 18) 28 p2.toInt.toNat p3.toInt.toNat 28 from (by have h := b8; rw [show (y3.2.1 0).toInt.toNat = 28 from (by have f0 := b7; have f1 := k10; have g0 := rg32 (y3.2.1 0); have z28 : (28 : Int32).toInt = 28 := (by decide); omega)] at h; exact h)), trivial⟩, (show va_P D clz (WD9 cy g σ4) tS.heap by rw [ht]; exact hP)⟩, hS.F ht⟩) hS.2.2 dX9_copyRow_31
  ·
    have k11 := nle32 c9
    refine lv_aload_n hx hb dX9_copyRow_9 rfl (lv_at hl 1 rfl) ?_
    refine lv_iload_n hx hb dX9_copyRow_10 rfl (lv_at hl 2 rfl) ?_
    refine lv_iload_n hx hb dX9_copyRow_11 rfl (lv_at hl 4 rfl) ?_
    refine lv_imul hx hb dX9_copyRow_12 ?_
    refine lv_topi (fun x12 ex12 => ?_)
    have t13 := mulC' (n := 28) ex12 (by decide) (by have f0 := h1; have f1 := h2; have f2 := h0; have g0 := rg32 p3; omega)
    refine lv_iload hx hb dX9_copyRow_13 (lv_at hl 0 rfl) ?_
    refine lv_iadd hx hb dX9_copyRow_15 ?_
    refine lv_topi (fun x14 ex14 => ?_)
    have t15 := addO ex14 (by have f0 := b7; have f1 := k11; have f2 := t13; have f3 := h1; have f4 := h2; have f5 := h0; have g0 := rg32 (y3.2.1 0); have g1 := rg32 x12; have z28 : (28 : Int32).toInt = 28 := (by decide); omega)
    refine lv_aload_n hx hb dX9_copyRow_16 rfl (lv_at hl 1 rfl) ?_
    refine lv_iload_n hx hb dX9_copyRow_17 rfl (lv_at hl 2 rfl) ?_
    refine lv_iload_n hx hb dX9_copyRow_18 rfl (lv_at hl 3 rfl) ?_
    refine lv_imul hx hb dX9_copyRow_19 ?_
    refine lv_topi (fun x16 ex16 => ?_)
    have t17 := mulC' (n := 28) ex16 (by decide) (by have f0 := h0; have f1 := h2; have f2 := h1; have f3 := t13; have f4 := t15; have f5 := b7; have f6 := k11; have g0 := rg32 p2; have z28 : (28 : Int32).toInt = 28 := (by decide); omega)
    refine lv_iload hx hb dX9_copyRow_20 (lv_at hl 0 rfl) ?_
    refine lv_iadd hx hb dX9_copyRow_22 ?_
    refine lv_topi (fun x18 ex18 => ?_)
    have t19 := addO ex18 (by have f0 := b7; have f1 := k11; have f2 := t15; have f3 := t17; have f4 := h0; have f5 := h2; have f6 := t13; have f7 := h1; have g0 := rg32 (y3.2.1 0); have g1 := rg32 x16; have z28 : (28 : Int32).toInt = 28 := (by decide); omega)
    obtain ⟨x20, ex20⟩ : ∃ z, (σ4 9).2.2.1 18 x18.toInt.toNat = z := ⟨_, rfl⟩
    refine l9_18 (x := x20) hx hb hK hP (vpo (by have f0 := t19; have f1 := b7; have f2 := k11; have f3 := t15; have f4 := t17; have f5 := h0; have f6 := h2; have f7 := t13; have f8 := h1; have g0 := rg32 x18; have z28 : (28 : Int32).toInt = 28 := (by decide); omega)) ex20 dX9_copyRow_23 ?_
    have t21 := a9_18 hJ6 ex20
    refine t9_18 hx hb hK hP hD hS (vpo (by have f0 := t15; have f1 := b7; have f2 := k11; have f3 := t13; have f4 := t19; have f5 := h1; have f6 := h2; have f7 := t17; have f8 := t21; have f9 := h0; have g0 := rg32 x14; have z28 : (28 : Int32).toInt = 28 := (by decide); omega)) dX9_copyRow_24 (fun H locs σ22 eσ22 hP hS => ?_)
    have hJ23 : J9 (σ22 9) := hJ6.A eσ22 (show PA9 18 x14.toInt.toNat x20 from (by have f0 := t15; have f1 := t21; have f2 := b7; have f3 := k11; have f4 := t13; have f5 := t19; have f6 := h1; have f7 := h2; have f8 := t17; have f9 := h0; have g0 := rg32 x14; have g1 := rg32 x20; have z28 : (28 : Int32).toInt = 28 := (by decide); exact ⟨by omega, by omega⟩))
    obtain ⟨x24, ex24⟩ : ∃ y : Int32, y = (y3.2.1 0) + 1 := ⟨_, rfl⟩
    have t25 := addO ex24 (by have f0 := b7; have f1 := k11; have f2 := t15; have f3 := t19; have f4 := t13; have f5 := t17; have f6 := t21; have f7 := h0; have f8 := h1; have f9 := h2; have g0 := rg32 (y3.2.1 0); have z1 : (1 : Int32).toInt = 1 := (by decide); have z28 : (28 : Int32).toInt = 28 := (by decide); omega)
    refine lv_iinc (v := x24) (lv' := [(4, .int x24), (0, .ref (g 18)), (1, .int 28), (2, .int p2), (3, .int p3)]) hx hb dX9_copyRow_25 hl (k := 0) rfl (by rw [ex24]; rfl) (by decide) rfl (fun ls hl => ?_)
    refine lv_goto (tgt := 3) hx hb dX9_copyRow_28 (by decide) ?_
    have t26 : ((29 : Int) - x24.toInt).toNat < ((29 : Int) - (y3.2.1 0).toInt).toNat := (by have f0 := b7; have f1 := k11; have f2 := t15; have f3 := t19; have f4 := t25; have f5 := t13; have f6 := t17; have f7 := t21; have f8 := h0; have f9 := h1; have f10 := h2; have g0 := rg32 (y3.2.1 0); have g1 := rg32 x24; have z1 : (1 : Int32).toInt = 1 := (by decide); have z28 : (28 : Int32).toInt = 28 := (by decide); omega)
    exact nl1 (σ22, lf [x24], lg []) ⟨Fr.tr (Fr.tr (Fr.rf) hF5 (fL_sub rfl)) (sA_f eσ22) (fN_L rfl), hJ23, (show (0 : Int) ≤ (x24 : Int32).toInt ∧ (x24 : Int32).toInt ≤ 28 from (by have f0 := t25; have f1 := b7; have f2 := k11; have f3 := t15; have f4 := t19; have f5 := t13; have f6 := t17; have f7 := t21; have f8 := h0; have f9 := h1; have f10 := h2; have g0 := rg32 x24; have z1 : (1 : Int32).toInt = 1 := (by decide); have z28 : (28 : Int32).toInt = 28 := (by decide); omega)), (show CR ((σ22 9).2.2.1 18) ((σ 9).2.2.1 18) 28 p2.toInt.toNat p3.toInt.toNat x24.toInt.toNat from (CR.step b8 (by have f0 := h0; have f1 := h1; have f2 := h2; have f3 := b7; have f4 := k11; have f5 := t13; have f6 := t15; have f7 := t17; have f8 := t19; have f9 := t21; have f10 := t25; have g0 := rg32 (y3.2.1 0); have g1 := rg32 p2; have g2 := rg32 p3; have g3 := rg32 x14; have g4 := rg32 x18; have g5 := rg32 x24; have z1 : (1 : Int32).toInt = 1 := (by decide); have z28 : (28 : Int32).toInt = 28 := (by decide); omega) (by have f0 := h0; have f1 := h1; have f2 := h2; have f3 := b7; have f4 := k11; have f5 := t13; have f6 := t15; have f7 := t17; have f8 := t19; have f9 := t21; have f10 := t25; have g0 := rg32 (y3.2.1 0); have g1 := rg32 p2; have g2 := rg32 p3; have g3 := rg32 x14; have g4 := rg32 x18; have g5 := rg32 x24; have z1 : (1 : Int32).toInt = 1 := (by decide); have z28 : (28 : Int32).toInt = 28 := (by decide); omega) (by have f0 := h0; have f1 := h1; have f2 := h2; have f3 := b7; have f4 := k11; have f5 := t13; have f6 := t15; have f7 := t17; have f8 := t19; have f9 := t21; have f10 := t25; have g0 := rg32 (y3.2.1 0); have g1 := rg32 p2; have g2 := rg32 p3; have g3 := rg32 x14; have g4 := rg32 x18; have g5 := rg32 x24; have z1 : (1 : Int32).toInt = 1 := (by decide); have z28 : (28 : Int32).toInt = 28 := (by decide); omega) (by have f0 := h0; have f1 := h1; have f2 := h2; have f3 := b7; have f4 := k11; have f5 := t13; have f6 := t15; have f7 := t17; have f8 := t19; have f9 := t21; have f10 := t25; have g0 := rg32 (y3.2.1 0); have g1 := rg32 p2; have g2 := rg32 p3; have g3 := rg32 x14; have g4 := rg32 x18; have g5 := rg32 x24; have z1 : (1 : Int32).toInt = 1 := (by decide); have z28 : (28 : Int32).toInt = 28 := (by decide); omega) ex20 (sA_s eσ22) (by have f0 := h0; have f1 := h1; have f2 := h2; have f3 := b7; have f4 := k11; have f5 := t13; have f6 := t15; have f7 := t17; have f8 := t19; have f9 := t21; have f10 := t25; have g0 := rg32 (y3.2.1 0); have g1 := rg32 p2; have g2 := rg32 p3; have g3 := rg32 x14; have g4 := rg32 x18; have g5 := rg32 x24; have z1 : (1 : Int32).toInt = 1 := (by decide); have z28 : (28 : Int32).toInt = 28 := (by decide); omega))), trivial⟩ (show ((29 : Int) - x24.toInt).toNat < _ from by first | exact t26 | (rw [← eσ4]; exact t26)) _ _ _ hP hS (lv_sub hl [0, 1, 2, 3, 4] rfl)

