theorem q808 : Cond.code yX7_addValves cX7_addValves 5 none ∈ lw_g := lw_gm (List.mem_of_getElem? (i := 808) (by decide +kernel)) rfl
theorem q256 : Cond.fieldLink RX7 11 "LipsAndSlides$Tube" "longer" "[I" ∈ lw_g := lw_gm (List.mem_of_getElem? (i := 256) (by decide +kernel)) rfl
theorem q804 : Cond.methodLink RX7 15 yX0_brassField ∈ lw_g := lw_gm (List.mem_of_getElem? (i := 804) (by decide +kernel)) rfl
theorem dX7_addValves_0 : decode cX7_addValves 0 = .ok (.iconst 0, 1) := by decide +kernel
theorem dX7_addValves_1 : decode cX7_addValves 1 = .ok (.istore_n 3, 1) := by decide +kernel
theorem dX7_addValves_2 : decode cX7_addValves 2 = .ok (.iload_n 3, 1) := by decide +kernel
theorem dX7_addValves_3 : decode cX7_addValves 3 = .ok (.bipush 8, 2) := by decide +kernel
theorem dX7_addValves_5 : decode cX7_addValves 5 = .ok (.if_icmp .ge 52, 3) := by decide +kernel
theorem dX7_addValves_8 : decode cX7_addValves 8 = .ok (.iconst 0, 1) := by decide +kernel
theorem dX7_addValves_9 : decode cX7_addValves 9 = .ok (.istore 4, 2) := by decide +kernel
theorem dX7_addValves_11 : decode cX7_addValves 11 = .ok (.iload 4, 2) := by decide +kernel
theorem dX7_addValves_13 : decode cX7_addValves 13 = .ok (.iconst 3, 1) := by decide +kernel
theorem dX7_addValves_14 : decode cX7_addValves 14 = .ok (.if_icmp .ge 37, 3) := by decide +kernel
theorem dX7_addValves_17 : decode cX7_addValves 17 = .ok (.iload_n 3, 1) := by decide +kernel
theorem dX7_addValves_18 : decode cX7_addValves 18 = .ok (.iload 4, 2) := by decide +kernel
theorem dX7_addValves_20 : decode cX7_addValves 20 = .ok (.ishr, 1) := by decide +kernel
theorem dX7_addValves_21 : decode cX7_addValves 21 = .ok (.iconst 1, 1) := by decide +kernel
theorem dX7_addValves_22 : decode cX7_addValves 22 = .ok (.iand, 1) := by decide +kernel
theorem dX7_addValves_23 : decode cX7_addValves 23 = .ok (.iconst 1, 1) := by decide +kernel
theorem dX7_addValves_24 : decode cX7_addValves 24 = .ok (.if_icmp .ne 21, 3) := by decide +kernel
theorem dX7_addValves_27 : decode cX7_addValves 27 = .ok (.aload_n 0, 1) := by decide +kernel
theorem dX7_addValves_28 : decode cX7_addValves 28 = .ok (.getfield 11, 3) := by decide +kernel
theorem dX7_addValves_31 : decode cX7_addValves 31 = .ok (.iload_n 3, 1) := by decide +kernel
theorem dX7_addValves_32 : decode cX7_addValves 32 = .ok (.dup2, 1) := by decide +kernel
theorem dX7_addValves_33 : decode cX7_addValves 33 = .ok (.iaload, 1) := by decide +kernel
theorem dX7_addValves_34 : decode cX7_addValves 34 = .ok (.aload_n 1, 1) := by decide +kernel
theorem dX7_addValves_35 : decode cX7_addValves 35 = .ok (.iload_n 2, 1) := by decide +kernel
theorem dX7_addValves_36 : decode cX7_addValves 36 = .ok (.iconst 3, 1) := by decide +kernel
theorem dX7_addValves_37 : decode cX7_addValves 37 = .ok (.iload 4, 2) := by decide +kernel
theorem dX7_addValves_39 : decode cX7_addValves 39 = .ok (.iadd, 1) := by decide +kernel
theorem dX7_addValves_40 : decode cX7_addValves 40 = .ok (.invokevirtual 15, 3) := by decide +kernel
theorem dX7_addValves_43 : decode cX7_addValves 43 = .ok (.iadd, 1) := by decide +kernel
theorem dX7_addValves_44 : decode cX7_addValves 44 = .ok (.iastore, 1) := by decide +kernel
theorem dX7_addValves_45 : decode cX7_addValves 45 = .ok (.iinc 4 1, 3) := by decide +kernel
theorem dX7_addValves_48 : decode cX7_addValves 48 = .ok (.goto (-37), 3) := by decide +kernel
theorem dX7_addValves_51 : decode cX7_addValves 51 = .ok (.iinc 3 1, 3) := by decide +kernel
theorem dX7_addValves_54 : decode cX7_addValves 54 = .ok (.goto (-52), 3) := by decide +kernel
theorem dX7_addValves_57 : decode cX7_addValves 57 = .ok (.return_, 1) := by decide +kernel
set_option maxHeartbeats 4000000 in
set_option maxRecDepth 100000 in
theorem m_X7_addValves (l : Launch) (D : va_G) (cy : Nat → ClassId) (g : Nat → Nat) (σ : ST) (d0 : Nat) (d1 : Nat) (p2 : Int32) (sz : Nat) (hJ : J8 σ) (hd0 : 9 ≤ d0 ∧ d0 < 12) (hd1 : 0 ≤ d1 ∧ d1 < 5) : Met l yX7_addValves (ww yX7_addValves cX7_addValves 5 none) ({ frames := 3, cells := 0, slots := 0, locals := 192 }) (va_Pc [.ref (gO g d0), .ref (gO g d1), .int p2] (pr8 D cy g σ sz)) (qv8 D cy g sz (fun τ => Fr (fO [d0]) σ τ ∧ J8 τ ∧ True)) 0 0 (A8 cy g sz) := by
  refine Met.ofW (cc := cX7_addValves) (maxL := 5) (ret := none) (by decide) rfl ?_
  intro p e s m args below meth c s₁ B hml hv
  obtain ⟨rfl, hsz, hP, hK, hD0, hC⟩ := hv
  have hx := B.exec
  have hb := B.bytes
  have hr := B.returns
  have hts := hts_g (atoms_spec (ws := ww yX7_addValves cX7_addValves 5 none) B.pre)
  have hown : s.vm.findClass RX7 = some m.cls := findClass_of_methodNamed B.named
  have hlocks := B.notSynchronized
  clear B
  subst hsz
  have hD := fun τ => A8_D (sz := s.heap.size) hD0 τ
  clear hD0
  have hS : va_S (A8 cy g s.heap.size) s.heap s.heap [] := va_S.rf
  have hl := lv_entry ([.ref (gO g d0), .ref (gO g d1), .int p2]) (n := 5) (Nat.le_of_ble_eq_true rfl)
  rw [lg_entry_eq]
  generalize (lg_sl ([.ref (gO g d0), .ref (gO g d1), .int p2]) ++ List.replicate (5 - (lg_sl ([.ref (gO g d0), .ref (gO g d1), .int p2])).length) Slot.unset).toArray = ls at hl ⊢
  have hl : lv_has ls 5 [(0, .ref (gO g d0)), (1, .ref (gO g d1)), (2, .int p2)] := hl
  refine lv_iconst (v := 0) hx hb dX7_addValves_0 (by decide) ?_
  refine lv_istore_n (lv' := [(3, .int 0), (0, .ref (gO g d0)), (1, .ref (gO g d1)), (2, .int p2)]) hx hb dX7_addValves_1 rfl hl (by decide) rfl (fun ls hl => ?_)
  refine loop8 5 2 (fun x : LZ => [(3, .int (x.2.1 0)), (0, .ref (gO g d0)), (1, .ref (gO g d1)), (2, .int p2)]) (fun x : LZ => (Fr (fO [d0]) σ x.1) ∧ (J8 x.1) ∧ ((0 : Int) ≤ (x.2.1 0).toInt ∧ (x.2.1 0).toInt ≤ 8) ∧ True) (fun x : LZ => ((9 : Int) - (x.2.1 0).toInt).toNat) ?_ (σ, lf [0], lg []) ⟨Fr.rf, hJ, (show (0 : Int) ≤ (0 : Int32).toInt ∧ (0 : Int32).toInt ≤ 8 from (by have z0 : (0 : Int32).toInt = 0 := (by decide); omega)), trivial⟩ _ _ _ hP hS (lv_sub hl [0, 1, 2, 3] rfl)
  intro y3 hI2 nl1 H locs ls hP hS hl
  obtain ⟨σ4, eσ4⟩ : ∃ z, z = y3.1 := ⟨_, rfl⟩
  rw [← eσ4] at hP hI2
  have hF5 : Fr (fO [d0]) σ σ4 := hI2.1
  have hJ6 : J8 σ4 := hI2.2.1
  have b7 : (0 : Int) ≤ (y3.2.1 0).toInt ∧ (y3.2.1 0).toInt ≤ 8 := hI2.2.2.1
  have hl : lv_has ls 5 [(3, .int (y3.2.1 0)), (0, .ref (gO g d0)), (1, .ref (gO g d1)), (2, .int p2)] := hl
  refine lv_iload_n hx hb dX7_addValves_2 rfl (lv_at hl 0 rfl) ?_
  refine lv_bipush (v := 8) hx hb dX7_addValves_3 (by decide) ?_
  refine lv_icmp_ge (tgt := 57) hx hb dX7_addValves_5 (by decide) (fun c8 => ?_) (fun c8 => ?_)
  ·
    have k9 := ple32 c8
    exact W.vret hx hb hr (fun tS ht hW => ⟨⟨σ4, rfl, ⟨Fr.tr (Fr.rf) hF5 (fO_sub (fun _ q => q)), hJ6, trivial⟩, (show va_P D clz (WD8 cy g σ4) tS.heap by rw [ht]; exact hP)⟩, hS.F ht⟩) hS.2.2 dX7_addValves_57
  ·
    have k10 := nle32 c8
    refine lv_iconst (v := 0) hx hb dX7_addValves_8 (by decide) ?_
    refine lv_istore (lv' := [(4, .int 0), (3, .int (y3.2.1 0)), (0, .ref (gO g d0)), (1, .ref (gO g d1)), (2, .int p2)]) hx hb dX7_addValves_9 hl (by decide) rfl (fun ls hl => ?_)
    refine loop8 5 11 (fun x : LZ => [(4, .int (x.2.1 0)), (3, .int (y3.2.1 0)), (0, .ref (gO g d0)), (1, .ref (gO g d1)), (2, .int p2)]) (fun x : LZ => (Fr (fO [d0]) σ4 x.1) ∧ (J8 x.1) ∧ ((0 : Int) ≤ (x.2.1 0).toInt ∧ (x.2.1 0).toInt ≤ 3) ∧ True) (fun x : LZ => ((4 : Int) - (x.2.1 0).toInt).toNat) ?_ (σ4, lf [0], lg []) ⟨Fr.rf, hJ6, (show (0 : Int) ≤ (0 : Int32).toInt ∧ (0 : Int32).toInt ≤ 3 from (by have z0 : (0 : Int32).toInt = 0 := (by decide); omega)), trivial⟩ _ _ _ hP hS (lv_sub hl [0, 1, 2, 3, 4] rfl)
    intro y13 hI12 nl11 H locs ls hP hS hl
    obtain ⟨σ14, eσ14⟩ : ∃ z, z = y13.1 := ⟨_, rfl⟩
    rw [← eσ14] at hP hI12
    have hF15 : Fr (fO [d0]) σ4 σ14 := hI12.1
    have hJ16 : J8 σ14 := hI12.2.1
    have b17 : (0 : Int) ≤ (y13.2.1 0).toInt ∧ (y13.2.1 0).toInt ≤ 3 := hI12.2.2.1
    have hl : lv_has ls 5 [(4, .int (y13.2.1 0)), (3, .int (y3.2.1 0)), (0, .ref (gO g d0)), (1, .ref (gO g d1)), (2, .int p2)] := hl
    refine lv_iload hx hb dX7_addValves_11 (lv_at hl 0 rfl) ?_
    refine lv_iconst (v := 3) hx hb dX7_addValves_13 (by decide) ?_
    refine lv_icmp_ge (tgt := 51) hx hb dX7_addValves_14 (by decide) (fun c18 => ?_) (fun c18 => ?_)
    ·
      have k19 := ple32 c18
      obtain ⟨x20, ex20⟩ : ∃ y : Int32, y = (y3.2.1 0) + 1 := ⟨_, rfl⟩
      have t21 := addO ex20 (by have f0 := b7; have f1 := k10; have g0 := rg32 (y3.2.1 0); have z1 : (1 : Int32).toInt = 1 := (by decide); have z8 : (8 : Int32).toInt = 8 := (by decide); omega)
      refine lv_iinc (v := x20) (lv' := [(3, .int x20), (4, .int (y13.2.1 0)), (0, .ref (gO g d0)), (1, .ref (gO g d1)), (2, .int p2)]) hx hb dX7_addValves_51 hl (k := 1) rfl (by rw [ex20]; rfl) (by decide) rfl (fun ls hl => ?_)
      refine lv_goto (tgt := 2) hx hb dX7_addValves_54 (by decide) ?_
      have t22 : ((9 : Int) - x20.toInt).toNat < ((9 : Int) - (y3.2.1 0).toInt).toNat := (by have f0 := b7; have f1 := k10; have f2 := t21; have g0 := rg32 (y3.2.1 0); have g1 := rg32 x20; have z1 : (1 : Int32).toInt = 1 := (by decide); have z8 : (8 : Int32).toInt = 8 := (by decide); omega)
      exact nl1 (σ14, lf [x20], lg []) ⟨Fr.tr (Fr.tr (Fr.rf) hF5 (fO_sub (fun _ q => q))) hF15 (fO_sub (fun _ q => q)), hJ16, (show (0 : Int) ≤ (x20 : Int32).toInt ∧ (x20 : Int32).toInt ≤ 8 from (by have f0 := t21; have f1 := b7; have f2 := k10; have g0 := rg32 x20; have z1 : (1 : Int32).toInt = 1 := (by decide); have z8 : (8 : Int32).toInt = 8 := (by decide); omega)), trivial⟩ (show ((9 : Int) - x20.toInt).toNat < _ from by first | exact t22 | (rw [← eσ4]; exact t22)) _ _ _ hP hS (lv_sub hl [0, 2, 3, 4] rfl)
    ·
      have k23 := nle32 c18
      refine lv_iload_n hx hb dX7_addValves_17 rfl (lv_at hl 1 rfl) ?_
      refine lv_iload hx hb dX7_addValves_18 (lv_at hl 0 rfl) ?_
      refine lv_ishr hx hb dX7_addValves_20 ?_
      refine lv_topi (fun x24 ex24 => ?_)
      refine lv_iconst (v := 1) hx hb dX7_addValves_21 (by decide) ?_
      refine lv_iand hx hb dX7_addValves_22 ?_
      refine lv_topi (fun x25 ex25 => ?_)
      have t26 := andM 1 ex25 (by decide) (by decide)
      refine lv_iconst (v := 1) hx hb dX7_addValves_23 (by decide) ?_
      refine cut8 (D := D) (cy := cy) (g := g) (A := A8 cy g s.heap.size) (H0 := s.heap) 5 45 (fun x : LZ => [(4, .int (y13.2.1 0)), (3, .int (y3.2.1 0)), (0, .ref (gO g d0)), (1, .ref (gO g d1)), (2, .int p2)]) (fun x : LZ => []) (fun x : LZ => (Fr (fO [d0]) σ14 x.1) ∧ (J8 x.1) ∧ True) ?_ ?_
      ·
        intro y29 hI28 H locs ls hP hS hl
        obtain ⟨σ30, eσ30⟩ : ∃ z, z = y29.1 := ⟨_, rfl⟩
        rw [← eσ30] at hP hI28
        have hF31 : Fr (fO [d0]) σ14 σ30 := hI28.1
        have hJ32 : J8 σ30 := hI28.2.1
        have hl : lv_has ls 5 [(4, .int (y13.2.1 0)), (3, .int (y3.2.1 0)), (0, .ref (gO g d0)), (1, .ref (gO g d1)), (2, .int p2)] := hl
        obtain ⟨x33, ex33⟩ : ∃ y : Int32, y = (y13.2.1 0) + 1 := ⟨_, rfl⟩
        have t34 := addO ex33 (by have f0 := b17; have f1 := k23; have g0 := rg32 (y13.2.1 0); have z1 : (1 : Int32).toInt = 1 := (by decide); have z3 : (3 : Int32).toInt = 3 := (by decide); omega)
        refine lv_iinc (v := x33) (lv' := [(4, .int x33), (3, .int (y3.2.1 0)), (0, .ref (gO g d0)), (1, .ref (gO g d1)), (2, .int p2)]) hx hb dX7_addValves_45 hl (k := 0) rfl (by rw [ex33]; rfl) (by decide) rfl (fun ls hl => ?_)
        refine lv_goto (tgt := 11) hx hb dX7_addValves_48 (by decide) ?_
        have t35 : ((4 : Int) - x33.toInt).toNat < ((4 : Int) - (y13.2.1 0).toInt).toNat := (by have f0 := b17; have f1 := k23; have f2 := t34; have g0 := rg32 (y13.2.1 0); have g1 := rg32 x33; have z1 : (1 : Int32).toInt = 1 := (by decide); have z3 : (3 : Int32).toInt = 3 := (by decide); omega)
        exact nl11 (σ30, lf [x33], lg []) ⟨Fr.tr (Fr.tr (Fr.rf) hF15 (fO_sub (fun _ q => q))) hF31 (fO_sub (fun _ q => q)), hJ32, (show (0 : Int) ≤ (x33 : Int32).toInt ∧ (x33 : Int32).toInt ≤ 3 from (by have f0 := t34; have f1 := b17; have f2 := k23; have g0 := rg32 x33; have z1 : (1 : Int32).toInt = 1 := (by decide); have z3 : (3 : Int32).toInt = 3 := (by decide); omega)), trivial⟩ (show ((4 : Int) - x33.toInt).toNat < _ from by first | exact t35 | (rw [← eσ14]; exact t35)) _ _ _ hP hS (lv_sub hl [0, 1, 2, 3, 4] rfl)
      ·
        intro nj27
        refine lv_icmp_ne (tgt := 45) hx hb dX7_addValves_24 (by decide) (fun c36 => ?_) (fun c36 => ?_)
        ·
          have k37 := neq32 c36
          exact nj27 (σ14, lf [], lg []) ⟨Fr.rf, hJ16, trivial⟩ _ _ _ hP hS (lv_sub hl [0, 1, 2, 3, 4] rfl)
        ·
          have k38 := peq32 c36
          refine lv_aload_n hx hb dX7_addValves_27 rfl (lv_at hl 2 rfl) ?_
          refine g8_7_6 hx hb hts hown hK hP hd0 (hts _ q256) dX7_addValves_28 ?_
          refine lv_iload_n hx hb dX7_addValves_31 rfl (lv_at hl 1 rfl) ?_
          refine lv_dup2_11 hx hb dX7_addValves_32 rfl rfl ?_
          obtain ⟨x39, ex39⟩ : ∃ z, (σ14 d0).2.2.1 6 (y3.2.1 0).toInt.toNat = z := ⟨_, rfl⟩
          refine l8_7_6 (x := x39) hx hb hK hP hd0 (vpo (by have f0 := b7; have f1 := k10; have g0 := rg32 (y3.2.1 0); have z8 : (8 : Int32).toInt = 8 := (by decide); omega)) ex39 dX7_addValves_33 ?_
          refine lv_aload_n hx hb dX7_addValves_34 rfl (lv_at hl 3 rfl) ?_
          refine lv_iload_n hx hb dX7_addValves_35 rfl (lv_at hl 4 rfl) ?_
          refine lv_iconst (v := 3) hx hb dX7_addValves_36 (by decide) ?_
          refine lv_iload hx hb dX7_addValves_37 (lv_at hl 0 rfl) ?_
          refine lv_iadd hx hb dX7_addValves_39 ?_
          refine lv_topi (fun x40 ex40 => ?_)
          have t41 := addO ex40 (by have f0 := b17; have f1 := k23; have g0 := rg32 (y13.2.1 0); have z3 : (3 : Int32).toInt = 3 := (by decide); omega)
          refine va_calli (va_runV (As := [.int p2, .int x40]) (rest := [.int x39, .int (y3.2.1 0), .ref (gR g d0 6)]) ⟨hx, hb, hml, hown, hts⟩ (m_X0_brassField l D cy g σ14  d1 p2 x40 _ hJ16 (show 0 ≤ d1 ∧ d1 < 5 from hd1)) (cwV 2 hts (gd_V q804 q718 q719 q127 q720) rfl rfl rfl (by decide +kernel) ⟨(Nat.le_of_ble_eq_true rfl), (Nat.le_of_ble_eq_true rfl)⟩) (pv8 hP hK hD hC hS (rv8_0 hK hP hd1)) rfl rfl hl.1 rfl (lv_room (Nat.le_of_ble_eq_true rfl)) dX7_addValves_40 ⟨Nat.le_of_ble_eq_true rfl, Nat.le_of_ble_eq_true rfl⟩) hS (fun q _ h => up8 hS q h) (up8 hS) (fun r42 σ43 tS H1 locs ht hvm hw44 hB hz1 hk1 hS => ?_)
          have hP : va_P D clz (WD8 cy g σ43) H1 := by rw [← ht]; exact hB
          clear hB hz1 hk1 hvm ht
          generalize H1 = H at hP hS ⊢
          have hw44E : σ14 = σ43 := (hw44.1).symm
          subst hw44E
          have b45 : (-2147483648 : Int) ≤ r42.toInt ∧ r42.toInt ≤ 1000000 := hw44.2.1
          refine lv_iadd hx hb dX7_addValves_43 ?_
          refine lv_topi (fun x46 ex46 => ?_)
          refine t8_7_6 hx hb hK hP hd0 hD hS (vpo (by have f0 := b7; have f1 := k10; have g0 := rg32 (y3.2.1 0); have z8 : (8 : Int32).toInt = 8 := (by decide); omega)) dX7_addValves_44 (fun H locs σ47 eσ47 hP hS => ?_)
          have hJ48 : J8 σ47 := hJ16.A eσ47 (clO_7 hd0) (show PA8 7 6 x46 from trivial)
          exact nj27 (σ47, lf [], lg []) ⟨Fr.tr (Fr.rf) (sA_f eσ47) (fN_O mem0), hJ48, trivial⟩ _ _ _ hP hS (lv_sub hl [0, 1, 2, 3, 4] rfl)

theorem q803 : Cond.code yX7_aim cX7_aim 4 none ∈ lw_g := lw_gm (List.mem_of_getElem? (i := 803) (by decide +kernel)) rfl
theorem q252 : Cond.fieldLink RX7 21 "LipsAndSlides$Tube" "kind" "I" ∈ lw_g := lw_gm (List.mem_of_getElem? (i := 252) (by decide +kernel)) rfl
theorem q253 : Cond.fieldLink RX7 25 "LipsAndSlides$Tube" "base" "I" ∈ lw_g := lw_gm (List.mem_of_getElem? (i := 253) (by decide +kernel)) rfl
theorem q254 : Cond.fieldLink RX7 28 "LipsAndSlides$Tube" "length" "I" ∈ lw_g := lw_gm (List.mem_of_getElem? (i := 254) (by decide +kernel)) rfl
theorem q255 : Cond.fieldLink RX7 31 "LipsAndSlides$Tube" "draws" "I" ∈ lw_g := lw_gm (List.mem_of_getElem? (i := 255) (by decide +kernel)) rfl
theorem q196 : Cond.fieldLink RX7 34 "LipsAndSlides$Desk" "highest" "I" ∈ lw_g := lw_gm (List.mem_of_getElem? (i := 196) (by decide +kernel)) rfl
theorem q250 : Cond.fieldLink RX7 37 "LipsAndSlides$Tube" "highest" "I" ∈ lw_g := lw_gm (List.mem_of_getElem? (i := 250) (by decide +kernel)) rfl
theorem q247 : Cond.fieldLink RX7 38 "LipsAndSlides$Tube" "settings" "I" ∈ lw_g := lw_gm (List.mem_of_getElem? (i := 247) (by decide +kernel)) rfl
theorem q805 : Cond.methodLink RX7 41 yX7_addValves ∈ lw_g := lw_gm (List.mem_of_getElem? (i := 805) (by decide +kernel)) rfl
theorem q807 : Cond.instanceMethod yX7_addValves ∈ lw_g := lw_gm (List.mem_of_getElem? (i := 807) (by decide +kernel)) rfl
theorem q15 : Cond.selects RX7 yX7_addValves yX7_addValves ∈ lw_g := lw_gm (List.mem_of_getElem? (i := 15) (by decide +kernel)) rfl
theorem q128 : Cond.initialized RX7 ∈ lw_g := lw_gm (List.mem_of_getElem? (i := 128) (by decide +kernel)) rfl
theorem dX7_aim_0 : decode cX7_aim 0 = .ok (.aload_n 0, 1) := by decide +kernel
theorem dX7_aim_1 : decode cX7_aim 1 = .ok (.aload_n 1, 1) := by decide +kernel
theorem dX7_aim_2 : decode cX7_aim 2 = .ok (.iload_n 2, 1) := by decide +kernel
theorem dX7_aim_3 : decode cX7_aim 3 = .ok (.iconst 0, 1) := by decide +kernel
theorem dX7_aim_4 : decode cX7_aim 4 = .ok (.invokevirtual 15, 3) := by decide +kernel
theorem dX7_aim_7 : decode cX7_aim 7 = .ok (.putfield 21, 3) := by decide +kernel
theorem dX7_aim_10 : decode cX7_aim 10 = .ok (.aload_n 0, 1) := by decide +kernel
theorem dX7_aim_11 : decode cX7_aim 11 = .ok (.aload_n 1, 1) := by decide +kernel
theorem dX7_aim_12 : decode cX7_aim 12 = .ok (.iload_n 2, 1) := by decide +kernel
theorem dX7_aim_13 : decode cX7_aim 13 = .ok (.iconst 1, 1) := by decide +kernel
theorem dX7_aim_14 : decode cX7_aim 14 = .ok (.invokevirtual 15, 3) := by decide +kernel
theorem dX7_aim_17 : decode cX7_aim 17 = .ok (.putfield 25, 3) := by decide +kernel
theorem dX7_aim_20 : decode cX7_aim 20 = .ok (.aload_n 0, 1) := by decide +kernel
theorem dX7_aim_21 : decode cX7_aim 21 = .ok (.aload_n 1, 1) := by decide +kernel
theorem dX7_aim_22 : decode cX7_aim 22 = .ok (.iload_n 2, 1) := by decide +kernel
theorem dX7_aim_23 : decode cX7_aim 23 = .ok (.iconst 2, 1) := by decide +kernel
theorem dX7_aim_24 : decode cX7_aim 24 = .ok (.invokevirtual 15, 3) := by decide +kernel
theorem dX7_aim_27 : decode cX7_aim 27 = .ok (.putfield 28, 3) := by decide +kernel
theorem dX7_aim_30 : decode cX7_aim 30 = .ok (.aload_n 0, 1) := by decide +kernel
theorem dX7_aim_31 : decode cX7_aim 31 = .ok (.aload_n 1, 1) := by decide +kernel
theorem dX7_aim_32 : decode cX7_aim 32 = .ok (.iload_n 2, 1) := by decide +kernel
theorem dX7_aim_33 : decode cX7_aim 33 = .ok (.bipush 6, 2) := by decide +kernel
theorem dX7_aim_35 : decode cX7_aim 35 = .ok (.invokevirtual 15, 3) := by decide +kernel
theorem dX7_aim_38 : decode cX7_aim 38 = .ok (.putfield 31, 3) := by decide +kernel
theorem dX7_aim_41 : decode cX7_aim 41 = .ok (.aload_n 0, 1) := by decide +kernel
theorem dX7_aim_42 : decode cX7_aim 42 = .ok (.aload_n 1, 1) := by decide +kernel
theorem dX7_aim_43 : decode cX7_aim 43 = .ok (.getfield 34, 3) := by decide +kernel
theorem dX7_aim_46 : decode cX7_aim 46 = .ok (.putfield 37, 3) := by decide +kernel
theorem dX7_aim_49 : decode cX7_aim 49 = .ok (.aload_n 0, 1) := by decide +kernel
theorem dX7_aim_50 : decode cX7_aim 50 = .ok (.aload_n 0, 1) := by decide +kernel
theorem dX7_aim_51 : decode cX7_aim 51 = .ok (.getfield 21, 3) := by decide +kernel
theorem dX7_aim_54 : decode cX7_aim 54 = .ok (.iconst 1, 1) := by decide +kernel
theorem dX7_aim_55 : decode cX7_aim 55 = .ok (.if_icmp .ne 8, 3) := by decide +kernel
theorem dX7_aim_58 : decode cX7_aim 58 = .ok (.bipush 8, 2) := by decide +kernel
theorem dX7_aim_60 : decode cX7_aim 60 = .ok (.goto 17, 3) := by decide +kernel
theorem dX7_aim_63 : decode cX7_aim 63 = .ok (.aload_n 0, 1) := by decide +kernel
theorem dX7_aim_64 : decode cX7_aim 64 = .ok (.getfield 21, 3) := by decide +kernel
theorem dX7_aim_67 : decode cX7_aim 67 = .ok (.iconst 2, 1) := by decide +kernel
theorem dX7_aim_68 : decode cX7_aim 68 = .ok (.if_icmp .ne 8, 3) := by decide +kernel
theorem dX7_aim_71 : decode cX7_aim 71 = .ok (.bipush 7, 2) := by decide +kernel
theorem dX7_aim_73 : decode cX7_aim 73 = .ok (.goto 4, 3) := by decide +kernel
theorem dX7_aim_76 : decode cX7_aim 76 = .ok (.iconst 1, 1) := by decide +kernel
theorem dX7_aim_77 : decode cX7_aim 77 = .ok (.putfield 38, 3) := by decide +kernel
theorem dX7_aim_80 : decode cX7_aim 80 = .ok (.iconst 0, 1) := by decide +kernel
theorem dX7_aim_81 : decode cX7_aim 81 = .ok (.istore_n 3, 1) := by decide +kernel
theorem dX7_aim_82 : decode cX7_aim 82 = .ok (.iload_n 3, 1) := by decide +kernel
theorem dX7_aim_83 : decode cX7_aim 83 = .ok (.bipush 8, 2) := by decide +kernel
theorem dX7_aim_85 : decode cX7_aim 85 = .ok (.if_icmp .ge 35, 3) := by decide +kernel
theorem dX7_aim_88 : decode cX7_aim 88 = .ok (.aload_n 0, 1) := by decide +kernel
theorem dX7_aim_89 : decode cX7_aim 89 = .ok (.getfield 11, 3) := by decide +kernel
theorem dX7_aim_92 : decode cX7_aim 92 = .ok (.iload_n 3, 1) := by decide +kernel
theorem dX7_aim_93 : decode cX7_aim 93 = .ok (.aload_n 0, 1) := by decide +kernel
theorem dX7_aim_94 : decode cX7_aim 94 = .ok (.getfield 21, 3) := by decide +kernel
theorem dX7_aim_97 : decode cX7_aim 97 = .ok (.iconst 2, 1) := by decide +kernel
theorem dX7_aim_98 : decode cX7_aim 98 = .ok (.if_icmp .ne 14, 3) := by decide +kernel
theorem dX7_aim_101 : decode cX7_aim 101 = .ok (.iload_n 3, 1) := by decide +kernel
theorem dX7_aim_102 : decode cX7_aim 102 = .ok (.aload_n 1, 1) := by decide +kernel
theorem dX7_aim_103 : decode cX7_aim 103 = .ok (.iload_n 2, 1) := by decide +kernel
theorem dX7_aim_104 : decode cX7_aim 104 = .ok (.iconst 3, 1) := by decide +kernel
theorem dX7_aim_105 : decode cX7_aim 105 = .ok (.invokevirtual 15, 3) := by decide +kernel
theorem dX7_aim_108 : decode cX7_aim 108 = .ok (.imul, 1) := by decide +kernel
theorem dX7_aim_109 : decode cX7_aim 109 = .ok (.goto 4, 3) := by decide +kernel
theorem dX7_aim_112 : decode cX7_aim 112 = .ok (.iconst 0, 1) := by decide +kernel
theorem dX7_aim_113 : decode cX7_aim 113 = .ok (.iastore, 1) := by decide +kernel
theorem dX7_aim_114 : decode cX7_aim 114 = .ok (.iinc 3 1, 3) := by decide +kernel
theorem dX7_aim_117 : decode cX7_aim 117 = .ok (.goto (-35), 3) := by decide +kernel
theorem dX7_aim_120 : decode cX7_aim 120 = .ok (.aload_n 0, 1) := by decide +kernel
theorem dX7_aim_121 : decode cX7_aim 121 = .ok (.getfield 21, 3) := by decide +kernel
theorem dX7_aim_124 : decode cX7_aim 124 = .ok (.iconst 1, 1) := by decide +kernel
theorem dX7_aim_125 : decode cX7_aim 125 = .ok (.if_icmp .ne 9, 3) := by decide +kernel
theorem dX7_aim_128 : decode cX7_aim 128 = .ok (.aload_n 0, 1) := by decide +kernel
theorem dX7_aim_129 : decode cX7_aim 129 = .ok (.aload_n 1, 1) := by decide +kernel
theorem dX7_aim_130 : decode cX7_aim 130 = .ok (.iload_n 2, 1) := by decide +kernel
theorem dX7_aim_131 : decode cX7_aim 131 = .ok (.invokevirtual 41, 3) := by decide +kernel
theorem dX7_aim_134 : decode cX7_aim 134 = .ok (.return_, 1) := by decide +kernel
set_option maxHeartbeats 4000000 in
set_option maxRecDepth 100000 in
theorem m_X7_aim (l : Launch) (D : va_G) (cy : Nat → ClassId) (g : Nat → Nat) (σ : ST) (d0 : Nat) (d1 : Nat) (p2 : Int32) (sz : Nat) (hJ : J8 σ) (hd0 : 9 ≤ d0 ∧ d0 < 12) (hd1 : 0 ≤ d1 ∧ d1 < 5) : Met l yX7_aim (ww yX7_aim cX7_aim 4 none) ({ frames := 4, cells := 0, slots := 0, locals := 256 }) (va_Pc [.ref (gO g d0), .ref (gO g d1), .int p2] (pr8 D cy g σ sz)) (qv8 D cy g sz (fun τ => Fr (fO [d0]) σ τ ∧ J8 τ ∧ True)) 0 0 (A8 cy g sz) := by
  refine Met.ofW (cc := cX7_aim) (maxL := 4) (ret := none) (by decide) rfl ?_
  intro p e s m args below meth c s₁ B hml hv
  obtain ⟨rfl, hsz, hP, hK, hD0, hC⟩ := hv
  have hx := B.exec
  have hb := B.bytes
  have hr := B.returns
  have hts := hts_g (atoms_spec (ws := ww yX7_aim cX7_aim 4 none) B.pre)
  have hown : s.vm.findClass RX7 = some m.cls := findClass_of_methodNamed B.named
  have hlocks := B.notSynchronized
  clear B
  subst hsz
  have hD := fun τ => A8_D (sz := s.heap.size) hD0 τ
  clear hD0
  have hS : va_S (A8 cy g s.heap.size) s.heap s.heap [] := va_S.rf
  have hl := lv_entry ([.ref (gO g d0), .ref (gO g d1), .int p2]) (n := 4) (Nat.le_of_ble_eq_true rfl)
  rw [lg_entry_eq]
  generalize (lg_sl ([.ref (gO g d0), .ref (gO g d1), .int p2]) ++ List.replicate (4 - (lg_sl ([.ref (gO g d0), .ref (gO g d1), .int p2])).length) Slot.unset).toArray = ls at hl ⊢
  have hl : lv_has ls 4 [(0, .ref (gO g d0)), (1, .ref (gO g d1)), (2, .int p2)] := hl
  refine lv_aload_n hx hb dX7_aim_0 rfl (lv_at hl 0 rfl) ?_
  refine lv_aload_n hx hb dX7_aim_1 rfl (lv_at hl 1 rfl) ?_
  refine lv_iload_n hx hb dX7_aim_2 rfl (lv_at hl 2 rfl) ?_
  refine lv_iconst (v := 0) hx hb dX7_aim_3 (by decide) ?_
  refine va_calli (va_runV (As := [.int p2, .int 0]) (rest := [.ref (gO g d0)]) ⟨hx, hb, hml, hown, hts⟩ (m_X0_brassField l D cy g σ  d1 p2 (0) _ hJ (show 0 ≤ d1 ∧ d1 < 5 from hd1)) (cwV 2 hts (gd_V q804 q718 q719 q127 q720) rfl rfl rfl (by decide +kernel) ⟨(Nat.le_of_ble_eq_true rfl), (Nat.le_of_ble_eq_true rfl)⟩) (pv8 hP hK hD hC hS (rv8_0 hK hP hd1)) rfl rfl hl.1 rfl (lv_room (Nat.le_of_ble_eq_true rfl)) dX7_aim_4 ⟨Nat.le_of_ble_eq_true rfl, Nat.le_of_ble_eq_true rfl⟩) hS (fun q _ h => up8 hS q h) (up8 hS) (fun r1 σ2 tS H1 locs ht hvm hw3 hB hz1 hk1 hS => ?_)
  have hP : va_P D clz (WD8 cy g σ2) H1 := by rw [← ht]; exact hB
  clear hB hz1 hk1 hvm ht
  generalize H1 = H at hP hS ⊢
  have hw3E : σ = σ2 := (hw3.1).symm
  subst hw3E
  have b4 : (-2147483648 : Int) ≤ r1.toInt ∧ r1.toInt ≤ 1000000 := hw3.2.1
  refine p8_7_2 hx hb hts hown hK hP hd0 hD hS (hts _ q252) dX7_aim_7 (fun H locs σ5 eσ5 hP hS => ?_)
  have hJ6 : J8 σ5 := hJ.I eσ5 (clO_7 hd0) (show JI8 7 2 r1 from trivial)
  refine lv_aload_n hx hb dX7_aim_10 rfl (lv_at hl 0 rfl) ?_
  refine lv_aload_n hx hb dX7_aim_11 rfl (lv_at hl 1 rfl) ?_
  refine lv_iload_n hx hb dX7_aim_12 rfl (lv_at hl 2 rfl) ?_
  refine lv_iconst (v := 1) hx hb dX7_aim_13 (by decide) ?_
  refine va_calli (va_runV (As := [.int p2, .int 1]) (rest := [.ref (gO g d0)]) ⟨hx, hb, hml, hown, hts⟩ (m_X0_brassField l D cy g σ5  d1 p2 (1) _ hJ6 (show 0 ≤ d1 ∧ d1 < 5 from hd1)) (cwV 2 hts (gd_V q804 q718 q719 q127 q720) rfl rfl rfl (by decide +kernel) ⟨(Nat.le_of_ble_eq_true rfl), (Nat.le_of_ble_eq_true rfl)⟩) (pv8 hP hK hD hC hS (rv8_0 hK hP hd1)) rfl rfl hl.1 rfl (lv_room (Nat.le_of_ble_eq_true rfl)) dX7_aim_14 ⟨Nat.le_of_ble_eq_true rfl, Nat.le_of_ble_eq_true rfl⟩) hS (fun q _ h => up8 hS q h) (up8 hS) (fun r7 σ8 tS H1 locs ht hvm hw9 hB hz1 hk1 hS => ?_)
  have hP : va_P D clz (WD8 cy g σ8) H1 := by rw [← ht]; exact hB
  clear hB hz1 hk1 hvm ht
  generalize H1 = H at hP hS ⊢
  have hw9E : σ5 = σ8 := (hw9.1).symm
  subst hw9E
  have b10 : (-2147483648 : Int) ≤ r7.toInt ∧ r7.toInt ≤ 1000000 := hw9.2.1
  refine p8_7_3 hx hb hts hown hK hP hd0 hD hS (hts _ q253) dX7_aim_17 (fun H locs σ11 eσ11 hP hS => ?_)
  have hJ12 : J8 σ11 := hJ6.I eσ11 (clO_7 hd0) (show JI8 7 3 r7 from trivial)
  refine lv_aload_n hx hb dX7_aim_20 rfl (lv_at hl 0 rfl) ?_
  refine lv_aload_n hx hb dX7_aim_21 rfl (lv_at hl 1 rfl) ?_
  refine lv_iload_n hx hb dX7_aim_22 rfl (lv_at hl 2 rfl) ?_
  refine lv_iconst (v := 2) hx hb dX7_aim_23 (by decide) ?_
  refine va_calli (va_runV (As := [.int p2, .int 2]) (rest := [.ref (gO g d0)]) ⟨hx, hb, hml, hown, hts⟩ (m_X0_brassField l D cy g σ11  d1 p2 (2) _ hJ12 (show 0 ≤ d1 ∧ d1 < 5 from hd1)) (cwV 2 hts (gd_V q804 q718 q719 q127 q720) rfl rfl rfl (by decide +kernel) ⟨(Nat.le_of_ble_eq_true rfl), (Nat.le_of_ble_eq_true rfl)⟩) (pv8 hP hK hD hC hS (rv8_0 hK hP hd1)) rfl rfl hl.1 rfl (lv_room (Nat.le_of_ble_eq_true rfl)) dX7_aim_24 ⟨Nat.le_of_ble_eq_true rfl, Nat.le_of_ble_eq_true rfl⟩) hS (fun q _ h => up8 hS q h) (up8 hS) (fun r13 σ14 tS H1 locs ht hvm hw15 hB hz1 hk1 hS => ?_)
  have hP : va_P D clz (WD8 cy g σ14) H1 := by rw [← ht]; exact hB
  clear hB hz1 hk1 hvm ht
  generalize H1 = H at hP hS ⊢
  have hw15E : σ11 = σ14 := (hw15.1).symm
  subst hw15E
  have b16 : (-2147483648 : Int) ≤ r13.toInt ∧ r13.toInt ≤ 1000000 := hw15.2.1
  refine p8_7_4 hx hb hts hown hK hP hd0 hD hS (hts _ q254) dX7_aim_27 (fun H locs σ17 eσ17 hP hS => ?_)
  have hJ18 : J8 σ17 := hJ12.I eσ17 (clO_7 hd0) (show JI8 7 4 r13 from trivial)
  refine lv_aload_n hx hb dX7_aim_30 rfl (lv_at hl 0 rfl) ?_
  refine lv_aload_n hx hb dX7_aim_31 rfl (lv_at hl 1 rfl) ?_
  refine lv_iload_n hx hb dX7_aim_32 rfl (lv_at hl 2 rfl) ?_
  refine lv_bipush (v := 6) hx hb dX7_aim_33 (by decide) ?_
  refine va_calli (va_runV (As := [.int p2, .int 6]) (rest := [.ref (gO g d0)]) ⟨hx, hb, hml, hown, hts⟩ (m_X0_brassField l D cy g σ17  d1 p2 (6) _ hJ18 (show 0 ≤ d1 ∧ d1 < 5 from hd1)) (cwV 2 hts (gd_V q804 q718 q719 q127 q720) rfl rfl rfl (by decide +kernel) ⟨(Nat.le_of_ble_eq_true rfl), (Nat.le_of_ble_eq_true rfl)⟩) (pv8 hP hK hD hC hS (rv8_0 hK hP hd1)) rfl rfl hl.1 rfl (lv_room (Nat.le_of_ble_eq_true rfl)) dX7_aim_35 ⟨Nat.le_of_ble_eq_true rfl, Nat.le_of_ble_eq_true rfl⟩) hS (fun q _ h => up8 hS q h) (up8 hS) (fun r19 σ20 tS H1 locs ht hvm hw21 hB hz1 hk1 hS => ?_)
  have hP : va_P D clz (WD8 cy g σ20) H1 := by rw [← ht]; exact hB
  clear hB hz1 hk1 hvm ht
  generalize H1 = H at hP hS ⊢
  have hw21E : σ17 = σ20 := (hw21.1).symm
  subst hw21E
  have b22 : (-2147483648 : Int) ≤ r19.toInt ∧ r19.toInt ≤ 1000000 := hw21.2.1
  refine p8_7_5 hx hb hts hown hK hP hd0 hD hS (hts _ q255) dX7_aim_38 (fun H locs σ23 eσ23 hP hS => ?_)
  have hJ24 : J8 σ23 := hJ18.I eσ23 (clO_7 hd0) (show JI8 7 5 r19 from (by have f0 := b22; have g0 := rg32 r19; exact ⟨by omega, by omega⟩))
  refine lv_aload_n hx hb dX7_aim_41 rfl (lv_at hl 0 rfl) ?_
  refine lv_aload_n hx hb dX7_aim_42 rfl (lv_at hl 1 rfl) ?_
  refine g8_0_1 (x := ((σ d1).1 1)) hx hb hts hown hK hP hd1 ((((sI_f eσ23) d1 1 (fN_o (ne2 hd1 hd0 (by decide)))).1).trans ((((sI_f eσ17) d1 1 (fN_o (ne2 hd1 hd0 (by decide)))).1).trans ((((sI_f eσ11) d1 1 (fN_o (ne2 hd1 hd0 (by decide)))).1).trans (((sI_f eσ5) d1 1 (fN_o (ne2 hd1 hd0 (by decide)))).1)))) (hts _ q196) dX7_aim_43 ?_
  refine p8_7_1 hx hb hts hown hK hP hd0 hD hS (hts _ q250) dX7_aim_46 (fun H locs σ25 eσ25 hP hS => ?_)
  have hJ26 : J8 σ25 := hJ24.I eσ25 (clO_7 hd0) (show JI8 7 1 ((σ d1).1 1) from (by have f0 := j8_0_1 hJ hd1 rfl; exact ⟨by omega, by omega⟩))
  refine lv_aload_n hx hb dX7_aim_49 rfl (lv_at hl 0 rfl) ?_
  refine lv_aload_n hx hb dX7_aim_50 rfl (lv_at hl 0 rfl) ?_
  refine g8_7_2 (x := r1) hx hb hts hown hK hP hd0 (((((sI_f eσ25) d0 2 (fN_k rfl)).1).trans ((((sI_f eσ23) d0 2 (fN_k rfl)).1).trans ((((sI_f eσ17) d0 2 (fN_k rfl)).1).trans (((sI_f eσ11) d0 2 (fN_k rfl)).1)))).trans (sI_s eσ5)) (hts _ q252) dX7_aim_51 ?_
  refine lv_iconst (v := 1) hx hb dX7_aim_54 (by decide) ?_
  refine cut8 (D := D) (cy := cy) (g := g) (A := A8 cy g s.heap.size) (H0 := s.heap) 4 77 (fun x : LZ => [(0, .ref (gO g d0)), (1, .ref (gO g d1)), (2, .int p2)]) (fun x : LZ => [.int (x.2.1 0), .ref (gO g d0)]) (fun x : LZ => (x.1 = σ25) ∧ ((1 : Int) ≤ (x.2.1 0).toInt ∧ (x.2.1 0).toInt ≤ 8) ∧ True) ?_ ?_
  ·
    intro y29 hI28 H locs ls hP hS hl
    rw [show y29.1 = σ25 from hI28.1] at hP
    have b30 : (1 : Int) ≤ (y29.2.1 0).toInt ∧ (y29.2.1 0).toInt ≤ 8 := hI28.2.1
    have hl : lv_has ls 4 [(0, .ref (gO g d0)), (1, .ref (gO g d1)), (2, .int p2)] := hl
    refine W.eq (g2 := F0 m 77 ls [.int (y29.2.1 0), .ref (gO g d0)]) rfl ?_
    refine p8_7_0 hx hb hts hown hK hP hd0 hD hS (hts _ q247) dX7_aim_77 (fun H locs σ31 eσ31 hP hS => ?_)
    have hJ32 : J8 σ31 := hJ26.I eσ31 (clO_7 hd0) (show JI8 7 0 (y29.2.1 0) from (by have f0 := b30; have g0 := rg32 (y29.2.1 0); exact ⟨by omega, by omega⟩))
    refine lv_iconst (v := 0) hx hb dX7_aim_80 (by decide) ?_
    refine lv_istore_n (lv' := [(3, .int 0), (0, .ref (gO g d0)), (1, .ref (gO g d1)), (2, .int p2)]) hx hb dX7_aim_81 rfl hl (by decide) rfl (fun ls hl => ?_)
    refine loop8 4 82 (fun x : LZ => [(3, .int (x.2.1 0)), (0, .ref (gO g d0)), (1, .ref (gO g d1)), (2, .int p2)]) (fun x : LZ => (Fr (fO [d0]) σ31 x.1) ∧ (J8 x.1) ∧ ((0 : Int) ≤ (x.2.1 0).toInt ∧ (x.2.1 0).toInt ≤ 8) ∧ True) (fun x : LZ => ((9 : Int) - (x.2.1 0).toInt).toNat) ?_ (σ31, lf [0], lg []) ⟨Fr.rf, hJ32, (show (0 : Int) ≤ (0 : Int32).toInt ∧ (0 : Int32).toInt ≤ 8 from (by have z0 : (0 : Int32).toInt = 0 := (by decide); omega)), trivial⟩ _ _ _ hP hS (lv_sub hl [0, 1, 2, 3] rfl)
    intro y35 hI34 nl33 H locs ls hP hS hl
    obtain ⟨σ36, eσ36⟩ : ∃ z, z = y35.1 := ⟨_, rfl⟩
    rw [← eσ36] at hP hI34
    have hF37 : Fr (fO [d0]) σ31 σ36 := hI34.1
    have hJ38 : J8 σ36 := hI34.2.1
    have b39 : (0 : Int) ≤ (y35.2.1 0).toInt ∧ (y35.2.1 0).toInt ≤ 8 := hI34.2.2.1
    have hl : lv_has ls 4 [(3, .int (y35.2.1 0)), (0, .ref (gO g d0)), (1, .ref (gO g d1)), (2, .int p2)] := hl
    refine lv_iload_n hx hb dX7_aim_82 rfl (lv_at hl 0 rfl) ?_
    refine lv_bipush (v := 8) hx hb dX7_aim_83 (by decide) ?_
    refine lv_icmp_ge (tgt := 120) hx hb dX7_aim_85 (by decide) (fun c40 => ?_) (fun c40 => ?_)
    ·
      have k41 := ple32 c40
      refine lv_aload_n hx hb dX7_aim_120 rfl (lv_at hl 1 rfl) ?_
      refine g8_7_2 (x := ((σ36 d0).1 2)) hx hb hts hown hK hP hd0 (rfl) (hts _ q252) dX7_aim_121 ?_
      refine lv_iconst (v := 1) hx hb dX7_aim_124 (by decide) ?_
      refine lv_icmp_ne (tgt := 134) hx hb dX7_aim_125 (by decide) (fun c42 => ?_) (fun c42 => ?_)
      ·
        have k43 := neq32 c42
        exact W.vret hx hb hr (fun tS ht hW => ⟨⟨σ36, rfl, ⟨Fr.tr (Fr.tr (Fr.tr (Fr.tr (Fr.tr (Fr.tr (Fr.tr (Fr.rf) (sI_f eσ5) (fN_O mem0)) (sI_f eσ11) (fN_O mem0)) (sI_f eσ17) (fN_O mem0)) (sI_f eσ23) (fN_O mem0)) (sI_f eσ25) (fN_O mem0)) (sI_f eσ31) (fN_O mem0)) hF37 (fO_sub (fun _ q => q)), hJ38, trivial⟩, (show va_P D clz (WD8 cy g σ36) tS.heap by rw [ht]; exact hP)⟩, hS.F ht⟩) hS.2.2 dX7_aim_134
      ·
        have k44 := peq32 c42
        refine lv_aload_n hx hb dX7_aim_128 rfl (lv_at hl 1 rfl) ?_
        refine lv_aload_n hx hb dX7_aim_129 rfl (lv_at hl 2 rfl) ?_
        refine lv_iload_n hx hb dX7_aim_130 rfl (lv_at hl 3 rfl) ?_
        refine va_callv (va_runV (As := [.ref (gO g d1), .int p2]) (rest := []) ⟨hx, hb, hml, hown, hts⟩ (m_X7_addValves l D cy g σ36  d0 d1 p2 _ hJ38 (show 9 ≤ d0 ∧ d0 < 12 from hd0) (show 0 ≤ d1 ∧ d1 < 5 from hd1)) (cwV 2 hts (gd_V q805 q807 q15 q128 q808) rfl rfl rfl (by decide +kernel) ⟨(Nat.le_of_ble_eq_true rfl), (Nat.le_of_ble_eq_true rfl)⟩) (pv8 hP hK hD hC hS (rv8_7 hK hP hd0)) rfl rfl hl.1 rfl (lv_room (Nat.le_of_ble_eq_true rfl)) dX7_aim_131 ⟨Nat.le_of_ble_eq_true rfl, Nat.le_of_ble_eq_true rfl⟩) hS (fun q _ h => up8 hS q h) (up8 hS) (fun σ46 tS H1 locs ht hvm hw47 hB hz1 hk1 hS => ?_)
        have hP : va_P D clz (WD8 cy g σ46) H1 := by rw [← ht]; exact hB
        clear hB hz1 hk1 hvm ht
        generalize H1 = H at hP hS ⊢
        have hF48 : Fr (fO [d0]) σ36 σ46 := hw47.1
        have hJ49 : J8 σ46 := hw47.2.1
        exact W.vret hx hb hr (fun tS ht hW => ⟨⟨σ46, rfl, ⟨Fr.tr (Fr.tr (Fr.tr (Fr.tr (Fr.tr (Fr.tr (Fr.tr (Fr.tr (Fr.rf) (sI_f eσ5) (fN_O mem0)) (sI_f eσ11) (fN_O mem0)) (sI_f eσ17) (fN_O mem0)) (sI_f eσ23) (fN_O mem0)) (sI_f eσ25) (fN_O mem0)) (sI_f eσ31) (fN_O mem0)) hF37 (fO_sub (fun _ q => q))) hF48 (fO_sub (fun _ q => q)), hJ49, trivial⟩, (show va_P D clz (WD8 cy g σ46) tS.heap by rw [ht]; exact hP)⟩, hS.F ht⟩) hS.2.2 dX7_aim_134
    ·
      have k50 := nle32 c40
      refine lv_aload_n hx hb dX7_aim_88 rfl (lv_at hl 1 rfl) ?_
      refine g8_7_6 hx hb hts hown hK hP hd0 (hts _ q256) dX7_aim_89 ?_
      refine lv_iload_n hx hb dX7_aim_92 rfl (lv_at hl 0 rfl) ?_
      refine lv_aload_n hx hb dX7_aim_93 rfl (lv_at hl 1 rfl) ?_
      refine g8_7_2 (x := ((σ36 d0).1 2)) hx hb hts hown hK hP hd0 (rfl) (hts _ q252) dX7_aim_94 ?_
      refine lv_iconst (v := 2) hx hb dX7_aim_97 (by decide) ?_
      refine cut8 (D := D) (cy := cy) (g := g) (A := A8 cy g s.heap.size) (H0 := s.heap) 4 113 (fun x : LZ => [(3, .int (y35.2.1 0)), (0, .ref (gO g d0)), (1, .ref (gO g d1)), (2, .int p2)]) (fun x : LZ => [.int (x.2.1 0), .int (y35.2.1 0), .ref (gR g d0 6)]) (fun x : LZ => (x.1 = σ36) ∧ True) ?_ ?_
      ·
        intro y53 hI52 H locs ls hP hS hl
        rw [show y53.1 = σ36 from hI52.1] at hP
        have hl : lv_has ls 4 [(3, .int (y35.2.1 0)), (0, .ref (gO g d0)), (1, .ref (gO g d1)), (2, .int p2)] := hl
        refine W.eq (g2 := F0 m 113 ls [.int (y53.2.1 0), .int (y35.2.1 0), .ref (gR g d0 6)]) rfl ?_
        refine t8_7_6 hx hb hK hP hd0 hD hS (vpo (by have f0 := b39; have f1 := k50; have g0 := rg32 (y35.2.1 0); have z8 : (8 : Int32).toInt = 8 := (by decide); omega)) dX7_aim_113 (fun H locs σ54 eσ54 hP hS => ?_)
        have hJ55 : J8 σ54 := hJ38.A eσ54 (clO_7 hd0) (show PA8 7 6 (y53.2.1 0) from trivial)
        obtain ⟨x56, ex56⟩ : ∃ y : Int32, y = (y35.2.1 0) + 1 := ⟨_, rfl⟩
        have t57 := addO ex56 (by have f0 := b39; have f1 := k50; have g0 := rg32 (y35.2.1 0); have z1 : (1 : Int32).toInt = 1 := (by decide); have z8 : (8 : Int32).toInt = 8 := (by decide); omega)
        refine lv_iinc (v := x56) (lv' := [(3, .int x56), (0, .ref (gO g d0)), (1, .ref (gO g d1)), (2, .int p2)]) hx hb dX7_aim_114 hl (k := 0) rfl (by rw [ex56]; rfl) (by decide) rfl (fun ls hl => ?_)
        refine lv_goto (tgt := 82) hx hb dX7_aim_117 (by decide) ?_
        have t58 : ((9 : Int) - x56.toInt).toNat < ((9 : Int) - (y35.2.1 0).toInt).toNat := (by have f0 := b39; have f1 := k50; have f2 := t57; have g0 := rg32 (y35.2.1 0); have g1 := rg32 x56; have z1 : (1 : Int32).toInt = 1 := (by decide); have z8 : (8 : Int32).toInt = 8 := (by decide); omega)
        exact nl33 (σ54, lf [x56], lg []) ⟨Fr.tr (Fr.tr (Fr.rf) hF37 (fO_sub (fun _ q => q))) (sA_f eσ54) (fN_O mem0), hJ55, (show (0 : Int) ≤ (x56 : Int32).toInt ∧ (x56 : Int32).toInt ≤ 8 from (by have f0 := t57; have f1 := b39; have f2 := k50; have g0 := rg32 x56; have z1 : (1 : Int32).toInt = 1 := (by decide); have z8 : (8 : Int32).toInt = 8 := (by decide); omega)), trivial⟩ (show ((9 : Int) - x56.toInt).toNat < _ from by first | exact t58 | (rw [← eσ36]; exact t58)) _ _ _ hP hS (lv_sub hl [0, 1, 2, 3] rfl)
      ·
        intro nj51
        refine lv_icmp_ne (tgt := 112) hx hb dX7_aim_98 (by decide) (fun c59 => ?_) (fun c59 => ?_)
        ·
          have k60 := neq32 c59
          refine lv_iconst (v := 0) hx hb dX7_aim_112 (by decide) ?_
          exact nj51 (σ36, lf [0], lg []) ⟨rfl, trivial⟩ _ _ _ hP hS (lv_sub hl [0, 1, 2, 3] rfl)
        ·
          have k61 := peq32 c59
          refine lv_iload_n hx hb dX7_aim_101 rfl (lv_at hl 0 rfl) ?_
          refine lv_aload_n hx hb dX7_aim_102 rfl (lv_at hl 2 rfl) ?_
          refine lv_iload_n hx hb dX7_aim_103 rfl (lv_at hl 3 rfl) ?_
          refine lv_iconst (v := 3) hx hb dX7_aim_104 (by decide) ?_
          refine va_calli (va_runV (As := [.int p2, .int 3]) (rest := [.int (y35.2.1 0), .int (y35.2.1 0), .ref (gR g d0 6)]) ⟨hx, hb, hml, hown, hts⟩ (m_X0_brassField l D cy g σ36  d1 p2 (3) _ hJ38 (show 0 ≤ d1 ∧ d1 < 5 from hd1)) (cwV 2 hts (gd_V q804 q718 q719 q127 q720) rfl rfl rfl (by decide +kernel) ⟨(Nat.le_of_ble_eq_true rfl), (Nat.le_of_ble_eq_true rfl)⟩) (pv8 hP hK hD hC hS (rv8_0 hK hP hd1)) rfl rfl hl.1 rfl (lv_room (Nat.le_of_ble_eq_true rfl)) dX7_aim_105 ⟨Nat.le_of_ble_eq_true rfl, Nat.le_of_ble_eq_true rfl⟩) hS (fun q _ h => up8 hS q h) (up8 hS) (fun r62 σ63 tS H1 locs ht hvm hw64 hB hz1 hk1 hS => ?_)
          have hP : va_P D clz (WD8 cy g σ63) H1 := by rw [← ht]; exact hB
          clear hB hz1 hk1 hvm ht
          generalize H1 = H at hP hS ⊢
          have hw64E : σ36 = σ63 := (hw64.1).symm
          subst hw64E
          have b65 : (-2147483648 : Int) ≤ r62.toInt ∧ r62.toInt ≤ 1000000 := hw64.2.1
          refine lv_imul hx hb dX7_aim_108 ?_
          refine lv_topi (fun x66 ex66 => ?_)
          refine lv_goto (tgt := 113) hx hb dX7_aim_109 (by decide) ?_
          exact nj51 (σ36, lf [x66], lg []) ⟨rfl, trivial⟩ _ _ _ hP hS (lv_sub hl [0, 1, 2, 3] rfl)
  ·
    intro nj27
    refine lv_icmp_ne (tgt := 63) hx hb dX7_aim_55 (by decide) (fun c67 => ?_) (fun c67 => ?_)
    ·
      have k68 := neq32 c67
      refine lv_aload_n hx hb dX7_aim_63 rfl (lv_at hl 0 rfl) ?_
      refine g8_7_2 (x := r1) hx hb hts hown hK hP hd0 (((((sI_f eσ25) d0 2 (fN_k rfl)).1).trans ((((sI_f eσ23) d0 2 (fN_k rfl)).1).trans ((((sI_f eσ17) d0 2 (fN_k rfl)).1).trans (((sI_f eσ11) d0 2 (fN_k rfl)).1)))).trans (sI_s eσ5)) (hts _ q252) dX7_aim_64 ?_
      refine lv_iconst (v := 2) hx hb dX7_aim_67 (by decide) ?_
      refine lv_icmp_ne (tgt := 76) hx hb dX7_aim_68 (by decide) (fun c69 => ?_) (fun c69 => ?_)
      ·
        have k70 := neq32 c69
        refine lv_iconst (v := 1) hx hb dX7_aim_76 (by decide) ?_
        exact nj27 (σ25, lf [1], lg []) ⟨rfl, (show (1 : Int) ≤ (1 : Int32).toInt ∧ (1 : Int32).toInt ≤ 8 from (by have z1 : (1 : Int32).toInt = 1 := (by decide); omega)), trivial⟩ _ _ _ hP hS (lv_sub hl [0, 1, 2] rfl)
      ·
        have k71 := peq32 c69
        refine lv_bipush (v := 7) hx hb dX7_aim_71 (by decide) ?_
        refine lv_goto (tgt := 77) hx hb dX7_aim_73 (by decide) ?_
        exact nj27 (σ25, lf [7], lg []) ⟨rfl, (show (1 : Int) ≤ (7 : Int32).toInt ∧ (7 : Int32).toInt ≤ 8 from (by have z7 : (7 : Int32).toInt = 7 := (by decide); omega)), trivial⟩ _ _ _ hP hS (lv_sub hl [0, 1, 2] rfl)
    ·
      have k72 := peq32 c67
      refine lv_bipush (v := 8) hx hb dX7_aim_58 (by decide) ?_
      refine lv_goto (tgt := 77) hx hb dX7_aim_60 (by decide) ?_
      exact nj27 (σ25, lf [8], lg []) ⟨rfl, (show (1 : Int) ≤ (8 : Int32).toInt ∧ (8 : Int32).toInt ≤ 8 from (by have z8 : (8 : Int32).toInt = 8 := (by decide); omega)), trivial⟩ _ _ _ hP hS (lv_sub hl [0, 1, 2] rfl)

theorem q799 : Cond.code yX8_aimTube cX8_aimTube 3 (some .boolean) ∈ lw_g := lw_gm (List.mem_of_getElem? (i := 799) (by decide +kernel)) rfl
theorem q800 : Cond.methodLink RX8 226 yX7_aim ∈ lw_g := lw_gm (List.mem_of_getElem? (i := 800) (by decide +kernel)) rfl
theorem q801 : Cond.instanceMethod yX7_aim ∈ lw_g := lw_gm (List.mem_of_getElem? (i := 801) (by decide +kernel)) rfl
theorem q802 : Cond.selects RX7 yX7_aim yX7_aim ∈ lw_g := lw_gm (List.mem_of_getElem? (i := 802) (by decide +kernel)) rfl
theorem dX8_aimTube_0 : decode cX8_aimTube 0 = .ok (.aload_n 0, 1) := by decide +kernel
theorem dX8_aimTube_1 : decode cX8_aimTube 1 = .ok (.getfield 19, 3) := by decide +kernel
theorem dX8_aimTube_4 : decode cX8_aimTube 4 = .ok (.iload_n 2, 1) := by decide +kernel
theorem dX8_aimTube_5 : decode cX8_aimTube 5 = .ok (.invokevirtual 173, 3) := by decide +kernel
theorem dX8_aimTube_8 : decode cX8_aimTube 8 = .ok (.ifCond .ne 5, 3) := by decide +kernel
theorem dX8_aimTube_11 : decode cX8_aimTube 11 = .ok (.iconst 0, 1) := by decide +kernel
theorem dX8_aimTube_12 : decode cX8_aimTube 12 = .ok (.ireturn, 1) := by decide +kernel
theorem dX8_aimTube_13 : decode cX8_aimTube 13 = .ok (.aload_n 1, 1) := by decide +kernel
theorem dX8_aimTube_14 : decode cX8_aimTube 14 = .ok (.aload_n 0, 1) := by decide +kernel
theorem dX8_aimTube_15 : decode cX8_aimTube 15 = .ok (.getfield 19, 3) := by decide +kernel
theorem dX8_aimTube_18 : decode cX8_aimTube 18 = .ok (.iload_n 2, 1) := by decide +kernel
theorem dX8_aimTube_19 : decode cX8_aimTube 19 = .ok (.invokevirtual 226, 3) := by decide +kernel
theorem dX8_aimTube_22 : decode cX8_aimTube 22 = .ok (.iconst 1, 1) := by decide +kernel
theorem dX8_aimTube_23 : decode cX8_aimTube 23 = .ok (.ireturn, 1) := by decide +kernel
set_option maxHeartbeats 4000000 in
set_option maxRecDepth 100000 in
theorem m_X8_aimTube (l : Launch) (D : va_G) (cy : Nat → ClassId) (g : Nat → Nat) (σ : ST) (d1 : Nat) (p2 : Int32) (sz : Nat) (hJ : J8 σ) (hd1 : 9 ≤ d1 ∧ d1 < 12) : Met l yX8_aimTube (ww yX8_aimTube cX8_aimTube 3 (some .boolean)) ({ frames := 5, cells := 0, slots := 0, locals := 320 }) (va_Pc [.ref (gO g 17), .ref (gO g d1), .int p2] (pr8 D cy g σ sz)) (qi8 D cy g sz (fun r τ => Fr (fO [d1]) σ τ ∧ J8 τ ∧ ((0 : Int) ≤ r.toInt ∧ r.toInt ≤ 1) ∧ True)) 0 0 (A8 cy g sz) := by
  refine Met.ofW (cc := cX8_aimTube) (maxL := 3) (ret := (some .boolean)) (by decide) rfl ?_
  intro p e s m args below meth c s₁ B hml hv
  obtain ⟨rfl, hsz, hP, hK, hD0, hC⟩ := hv
  have hx := B.exec
  have hb := B.bytes
  have hr := B.returns
  have hts := hts_g (atoms_spec (ws := ww yX8_aimTube cX8_aimTube 3 (some .boolean)) B.pre)
  have hown : s.vm.findClass RX8 = some m.cls := findClass_of_methodNamed B.named
  have hlocks := B.notSynchronized
  clear B
  subst hsz
  have hD := fun τ => A8_D (sz := s.heap.size) hD0 τ
  clear hD0
  have hS : va_S (A8 cy g s.heap.size) s.heap s.heap [] := va_S.rf
  have hl := lv_entry ([.ref (gO g 17), .ref (gO g d1), .int p2]) (n := 3) (Nat.le_of_ble_eq_true rfl)
  rw [lg_entry_eq]
  generalize (lg_sl ([.ref (gO g 17), .ref (gO g d1), .int p2]) ++ List.replicate (3 - (lg_sl ([.ref (gO g 17), .ref (gO g d1), .int p2])).length) Slot.unset).toArray = ls at hl ⊢
  have hl : lv_has ls 3 [(0, .ref (gO g 17)), (1, .ref (gO g d1)), (2, .int p2)] := hl
  refine lv_aload_n hx hb dX8_aimTube_0 rfl (lv_at hl 0 rfl) ?_
  obtain ⟨dx1, edx1⟩ : ∃ z : Nat, ((σ 17).1 1).toInt.toNat = z := ⟨_, rfl⟩
  have hdx1 : 0 ≤ dx1 ∧ dx1 < 5 := mnow (by have f0 := j8_8_1 hJ rfl; omega) edx1
  refine g8_8_1 (o := dx1) hx hb hts hown hK hP edx1 (hts _ q435) dX8_aimTube_1 ?_
  refine lv_iload_n hx hb dX8_aimTube_4 rfl (lv_at hl 2 rfl) ?_
  refine va_calli (va_runV (As := [.int p2]) (rest := []) ⟨hx, hb, hml, hown, hts⟩ (m_X0_hasBrass l D cy g σ  dx1 p2 _ hJ (show 0 ≤ dx1 ∧ dx1 < 5 from hdx1)) (cwV 1 hts (gd_V q776 q599 q600 q127 q601) rfl rfl rfl (by decide +kernel) ⟨(Nat.le_of_ble_eq_true rfl), (Nat.le_of_ble_eq_true rfl)⟩) (pv8 hP hK hD hC hS (rv8_0 hK hP hdx1)) rfl rfl hl.1 rfl (lv_room (Nat.le_of_ble_eq_true rfl)) dX8_aimTube_5 ⟨Nat.le_of_ble_eq_true rfl, Nat.le_of_ble_eq_true rfl⟩) hS (fun q _ h => up8 hS q h) (up8 hS) (fun r2 σ3 tS H1 locs ht hvm hw4 hB hz1 hk1 hS => ?_)
  have hP : va_P D clz (WD8 cy g σ3) H1 := by rw [← ht]; exact hB
  clear hB hz1 hk1 hvm ht
  generalize H1 = H at hP hS ⊢
  have hw4E : σ = σ3 := (hw4.1).symm
  subst hw4E
  have b5 : (0 : Int) ≤ r2.toInt ∧ r2.toInt ≤ 1 := hw4.2.1
  have b6 : (r2.toInt = 0) ∨ ((0 : Int) ≤ p2.toInt ∧ p2.toInt ≤ 3) := hw4.2.2.1
  refine lv_if_ne (tgt := 13) hx hb dX8_aimTube_8 (by decide) (fun c7 => ?_) (fun c7 => ?_)
  ·
    have k8 := neq32 c7
    refine lv_aload_n hx hb dX8_aimTube_13 rfl (lv_at hl 1 rfl) ?_
    refine lv_aload_n hx hb dX8_aimTube_14 rfl (lv_at hl 0 rfl) ?_
    refine g8_8_1 (o := dx1) hx hb hts hown hK hP edx1 (hts _ q435) dX8_aimTube_15 ?_
    refine lv_iload_n hx hb dX8_aimTube_18 rfl (lv_at hl 2 rfl) ?_
    refine va_callv (va_runV (As := [.ref (gO g dx1), .int p2]) (rest := []) ⟨hx, hb, hml, hown, hts⟩ (m_X7_aim l D cy g σ  d1 dx1 p2 _ hJ (show 9 ≤ d1 ∧ d1 < 12 from hd1) (show 0 ≤ dx1 ∧ dx1 < 5 from hdx1)) (cwV 2 hts (gd_V q800 q801 q802 q128 q803) rfl rfl rfl (by decide +kernel) ⟨(Nat.le_of_ble_eq_true rfl), (Nat.le_of_ble_eq_true rfl)⟩) (pv8 hP hK hD hC hS (rv8_7 hK hP hd1)) rfl rfl hl.1 rfl (lv_room (Nat.le_of_ble_eq_true rfl)) dX8_aimTube_19 ⟨Nat.le_of_ble_eq_true rfl, Nat.le_of_ble_eq_true rfl⟩) hS (fun q _ h => up8 hS q h) (up8 hS) (fun σ10 tS H1 locs ht hvm hw11 hB hz1 hk1 hS => ?_)
    have hP : va_P D clz (WD8 cy g σ10) H1 := by rw [← ht]; exact hB
    clear hB hz1 hk1 hvm ht
    generalize H1 = H at hP hS ⊢
    have hF12 : Fr (fO [d1]) σ σ10 := hw11.1
    have hJ13 : J8 σ10 := hw11.2.1
    refine lv_iconst (v := 1) hx hb dX8_aimTube_22 (by decide) ?_
    exact W.zret (v := 1) hx hb hr rfl (fun tS ht hW => ⟨⟨1, σ10, rfl, ⟨Fr.tr (Fr.rf) hF12 (fO_sub (fun _ q => q)), hJ13, (show (0 : Int) ≤ (1 : Int32).toInt ∧ (1 : Int32).toInt ≤ 1 from (by have z1 : (1 : Int32).toInt = 1 := (by decide); omega)), trivial⟩, (show va_P D clz (WD8 cy g σ10) tS.heap by rw [ht]; exact hP)⟩, hS.F ht⟩) hS.2.2 dX8_aimTube_23
  ·
    have k14 := peq32 c7
    refine lv_iconst (v := 0) hx hb dX8_aimTube_11 (by decide) ?_
    exact W.zret (v := 0) hx hb hr rfl (fun tS ht hW => ⟨⟨0, σ, rfl, ⟨Fr.rf, hJ, (show (0 : Int) ≤ (0 : Int32).toInt ∧ (0 : Int32).toInt ≤ 1 from (by have z0 : (0 : Int32).toInt = 0 := (by decide); omega)), trivial⟩, (show va_P D clz (WD8 cy g σ) tS.heap by rw [ht]; exact hP)⟩, hS.F ht⟩) hS.2.2 dX8_aimTube_12

theorem q812 : Cond.code yX7_hasSetting cX7_hasSetting 2 (some .boolean) ∈ lw_g := lw_gm (List.mem_of_getElem? (i := 812) (by decide +kernel)) rfl
theorem dX7_hasSetting_0 : decode cX7_hasSetting 0 = .ok (.iload_n 1, 1) := by decide +kernel
theorem dX7_hasSetting_1 : decode cX7_hasSetting 1 = .ok (.ifCond .lt 21, 3) := by decide +kernel
theorem dX7_hasSetting_4 : decode cX7_hasSetting 4 = .ok (.iload_n 1, 1) := by decide +kernel
theorem dX7_hasSetting_5 : decode cX7_hasSetting 5 = .ok (.aload_n 0, 1) := by decide +kernel
theorem dX7_hasSetting_6 : decode cX7_hasSetting 6 = .ok (.getfield 38, 3) := by decide +kernel
theorem dX7_hasSetting_9 : decode cX7_hasSetting 9 = .ok (.if_icmp .ge 13, 3) := by decide +kernel
theorem dX7_hasSetting_12 : decode cX7_hasSetting 12 = .ok (.iload_n 1, 1) := by decide +kernel
theorem dX7_hasSetting_13 : decode cX7_hasSetting 13 = .ok (.bipush 8, 2) := by decide +kernel
theorem dX7_hasSetting_15 : decode cX7_hasSetting 15 = .ok (.if_icmp .ge 7, 3) := by decide +kernel
theorem dX7_hasSetting_18 : decode cX7_hasSetting 18 = .ok (.iconst 1, 1) := by decide +kernel
theorem dX7_hasSetting_19 : decode cX7_hasSetting 19 = .ok (.goto 4, 3) := by decide +kernel
theorem dX7_hasSetting_22 : decode cX7_hasSetting 22 = .ok (.iconst 0, 1) := by decide +kernel
theorem dX7_hasSetting_23 : decode cX7_hasSetting 23 = .ok (.ireturn, 1) := by decide +kernel
set_option maxHeartbeats 4000000 in
set_option maxRecDepth 100000 in
theorem m_X7_hasSetting (l : Launch) (D : va_G) (cy : Nat → ClassId) (g : Nat → Nat) (σ : ST) (d0 : Nat) (p1 : Int32) (sz : Nat) (hJ : J8 σ) (hd0 : 9 ≤ d0 ∧ d0 < 12) : Met l yX7_hasSetting (ww yX7_hasSetting cX7_hasSetting 2 (some .boolean)) ({ frames := 1, cells := 0, slots := 0, locals := 64 }) (va_Pc [.ref (gO g d0), .int p1] (pr8 D cy g σ sz)) (qi8 D cy g sz (fun r τ => τ = σ ∧ ((0 : Int) ≤ r.toInt ∧ r.toInt ≤ 1) ∧ ((r.toInt = 0) ∨ ((0 : Int) ≤ p1.toInt ∧ p1.toInt ≤ 7)) ∧ True)) 0 0 (A8 cy g sz) := by
  refine Met.ofW (cc := cX7_hasSetting) (maxL := 2) (ret := (some .boolean)) (by decide) rfl ?_
  intro p e s m args below meth c s₁ B hml hv
  obtain ⟨rfl, hsz, hP, hK, hD0, hC⟩ := hv
  have hx := B.exec
  have hb := B.bytes
  have hr := B.returns
  have hts := hts_g (atoms_spec (ws := ww yX7_hasSetting cX7_hasSetting 2 (some .boolean)) B.pre)
  have hown : s.vm.findClass RX7 = some m.cls := findClass_of_methodNamed B.named
  have hlocks := B.notSynchronized
  clear B
  subst hsz
  have hD := fun τ => A8_D (sz := s.heap.size) hD0 τ
  clear hD0
  have hS : va_S (A8 cy g s.heap.size) s.heap s.heap [] := va_S.rf
  have hl := lv_entry ([.ref (gO g d0), .int p1]) (n := 2) (Nat.le_of_ble_eq_true rfl)
  rw [lg_entry_eq]
  generalize (lg_sl ([.ref (gO g d0), .int p1]) ++ List.replicate (2 - (lg_sl ([.ref (gO g d0), .int p1])).length) Slot.unset).toArray = ls at hl ⊢
  have hl : lv_has ls 2 [(0, .ref (gO g d0)), (1, .int p1)] := hl
  refine lv_iload_n hx hb dX7_hasSetting_0 rfl (lv_at hl 1 rfl) ?_
  refine lv_if_lt (tgt := 22) hx hb dX7_hasSetting_1 (by decide) (fun c1 => ?_) (fun c1 => ?_)
  ·
    have k2 := plt32 c1
    refine lv_iconst (v := 0) hx hb dX7_hasSetting_22 (by decide) ?_
    exact W.zret (v := 0) hx hb hr rfl (fun tS ht hW => ⟨⟨0, σ, rfl, ⟨rfl, (show (0 : Int) ≤ (0 : Int32).toInt ∧ (0 : Int32).toInt ≤ 1 from (by have z0 : (0 : Int32).toInt = 0 := (by decide); omega)), (show ((0 : Int32).toInt = 0) ∨ ((0 : Int) ≤ p1.toInt ∧ p1.toInt ≤ 7) from (by have f0 := k2; have g0 := rg32 p1; have z0 : (0 : Int32).toInt = 0 := (by decide); omega)), trivial⟩, (show va_P D clz (WD8 cy g σ) tS.heap by rw [ht]; exact hP)⟩, hS.F ht⟩) hS.2.2 dX7_hasSetting_23
  ·
    have k3 := nlt32 c1
    refine lv_iload_n hx hb dX7_hasSetting_4 rfl (lv_at hl 1 rfl) ?_
    refine lv_aload_n hx hb dX7_hasSetting_5 rfl (lv_at hl 0 rfl) ?_
    refine g8_7_0 (x := ((σ d0).1 0)) hx hb hts hown hK hP hd0 (rfl) (hts _ q247) dX7_hasSetting_6 ?_
    refine lv_icmp_ge (tgt := 22) hx hb dX7_hasSetting_9 (by decide) (fun c4 => ?_) (fun c4 => ?_)
    ·
      have k5 := ple32 c4
      refine lv_iconst (v := 0) hx hb dX7_hasSetting_22 (by decide) ?_
      exact W.zret (v := 0) hx hb hr rfl (fun tS ht hW => ⟨⟨0, σ, rfl, ⟨rfl, (show (0 : Int) ≤ (0 : Int32).toInt ∧ (0 : Int32).toInt ≤ 1 from (by have z0 : (0 : Int32).toInt = 0 := (by decide); omega)), (show ((0 : Int32).toInt = 0) ∨ ((0 : Int) ≤ p1.toInt ∧ p1.toInt ≤ 7) from (by have f0 := k3; have f1 := k5; have f2 := j8_7_0 hJ hd0 rfl; have g0 := rg32 p1; have z0 : (0 : Int32).toInt = 0 := (by decide); omega)), trivial⟩, (show va_P D clz (WD8 cy g σ) tS.heap by rw [ht]; exact hP)⟩, hS.F ht⟩) hS.2.2 dX7_hasSetting_23
    ·
      have k6 := nle32 c4
      refine lv_iload_n hx hb dX7_hasSetting_12 rfl (lv_at hl 1 rfl) ?_
      refine lv_bipush (v := 8) hx hb dX7_hasSetting_13 (by decide) ?_
      refine lv_icmp_ge (tgt := 22) hx hb dX7_hasSetting_15 (by decide) (fun c7 => ?_) (fun c7 => ?_)
      ·
        have k8 := ple32 c7
        exact False.elim (by have f0 := k3; have f1 := k6; have f2 := k8; have f3 := j8_7_0 hJ hd0 rfl; have g0 := rg32 p1; have z0 : (0 : Int32).toInt = 0 := (by decide); have z8 : (8 : Int32).toInt = 8 := (by decide); omega)
      ·
        have k9 := nle32 c7
        refine lv_iconst (v := 1) hx hb dX7_hasSetting_18 (by decide) ?_
        refine lv_goto (tgt := 23) hx hb dX7_hasSetting_19 (by decide) ?_
        exact W.zret (v := 1) hx hb hr rfl (fun tS ht hW => ⟨⟨1, σ, rfl, ⟨rfl, (show (0 : Int) ≤ (1 : Int32).toInt ∧ (1 : Int32).toInt ≤ 1 from (by have z1 : (1 : Int32).toInt = 1 := (by decide); omega)), (show ((1 : Int32).toInt = 0) ∨ ((0 : Int) ≤ p1.toInt ∧ p1.toInt ≤ 7) from (by have f0 := k3; have f1 := k6; have f2 := k9; have f3 := j8_7_0 hJ hd0 rfl; have g0 := rg32 p1; have z0 : (0 : Int32).toInt = 0 := (by decide); have z1 : (1 : Int32).toInt = 1 := (by decide); have z8 : (8 : Int32).toInt = 8 := (by decide); omega)), trivial⟩, (show va_P D clz (WD8 cy g σ) tS.heap by rw [ht]; exact hP)⟩, hS.F ht⟩) hS.2.2 dX7_hasSetting_23

theorem q816 : Cond.code yX7_longerBy cX7_longerBy 2 (some .int) ∈ lw_g := lw_gm (List.mem_of_getElem? (i := 816) (by decide +kernel)) rfl
theorem dX7_longerBy_0 : decode cX7_longerBy 0 = .ok (.iload_n 1, 1) := by decide +kernel
theorem dX7_longerBy_1 : decode cX7_longerBy 1 = .ok (.ifCond .lt 18, 3) := by decide +kernel
theorem dX7_longerBy_4 : decode cX7_longerBy 4 = .ok (.iload_n 1, 1) := by decide +kernel
theorem dX7_longerBy_5 : decode cX7_longerBy 5 = .ok (.bipush 8, 2) := by decide +kernel
theorem dX7_longerBy_7 : decode cX7_longerBy 7 = .ok (.if_icmp .ge 12, 3) := by decide +kernel
theorem dX7_longerBy_10 : decode cX7_longerBy 10 = .ok (.aload_n 0, 1) := by decide +kernel
theorem dX7_longerBy_11 : decode cX7_longerBy 11 = .ok (.getfield 11, 3) := by decide +kernel
theorem dX7_longerBy_14 : decode cX7_longerBy 14 = .ok (.iload_n 1, 1) := by decide +kernel
theorem dX7_longerBy_15 : decode cX7_longerBy 15 = .ok (.iaload, 1) := by decide +kernel
theorem dX7_longerBy_16 : decode cX7_longerBy 16 = .ok (.goto 4, 3) := by decide +kernel
theorem dX7_longerBy_19 : decode cX7_longerBy 19 = .ok (.iconst 0, 1) := by decide +kernel
theorem dX7_longerBy_20 : decode cX7_longerBy 20 = .ok (.ireturn, 1) := by decide +kernel
set_option maxHeartbeats 4000000 in
set_option maxRecDepth 100000 in
theorem m_X7_longerBy (l : Launch) (D : va_G) (cy : Nat → ClassId) (g : Nat → Nat) (σ : ST) (d0 : Nat) (p1 : Int32) (sz : Nat) (hJ : J8 σ) (hd0 : 9 ≤ d0 ∧ d0 < 12) : Met l yX7_longerBy (ww yX7_longerBy cX7_longerBy 2 (some .int)) ({ frames := 1, cells := 0, slots := 0, locals := 64 }) (va_Pc [.ref (gO g d0), .int p1] (pr8 D cy g σ sz)) (qi8 D cy g sz (fun r τ => τ = σ ∧ True)) 0 0 (A8 cy g sz) := by
  refine Met.ofW (cc := cX7_longerBy) (maxL := 2) (ret := (some .int)) (by decide) rfl ?_
  intro p e s m args below meth c s₁ B hml hv
  obtain ⟨rfl, hsz, hP, hK, hD0, hC⟩ := hv
  have hx := B.exec
  have hb := B.bytes
  have hr := B.returns
  have hts := hts_g (atoms_spec (ws := ww yX7_longerBy cX7_longerBy 2 (some .int)) B.pre)
  have hown : s.vm.findClass RX7 = some m.cls := findClass_of_methodNamed B.named
  have hlocks := B.notSynchronized
  clear B
  subst hsz
  have hD := fun τ => A8_D (sz := s.heap.size) hD0 τ
  clear hD0
  have hS : va_S (A8 cy g s.heap.size) s.heap s.heap [] := va_S.rf
  have hl := lv_entry ([.ref (gO g d0), .int p1]) (n := 2) (Nat.le_of_ble_eq_true rfl)
  rw [lg_entry_eq]
  generalize (lg_sl ([.ref (gO g d0), .int p1]) ++ List.replicate (2 - (lg_sl ([.ref (gO g d0), .int p1])).length) Slot.unset).toArray = ls at hl ⊢
  have hl : lv_has ls 2 [(0, .ref (gO g d0)), (1, .int p1)] := hl
  refine lv_iload_n hx hb dX7_longerBy_0 rfl (lv_at hl 1 rfl) ?_
  refine lv_if_lt (tgt := 19) hx hb dX7_longerBy_1 (by decide) (fun c1 => ?_) (fun c1 => ?_)
  ·
    have k2 := plt32 c1
    refine lv_iconst (v := 0) hx hb dX7_longerBy_19 (by decide) ?_
    exact W.iret (v := 0) hx hb hr (fun tS ht hW => ⟨⟨0, σ, rfl, ⟨rfl, trivial⟩, (show va_P D clz (WD8 cy g σ) tS.heap by rw [ht]; exact hP)⟩, hS.F ht⟩) hS.2.2 dX7_longerBy_20
  ·
    have k3 := nlt32 c1
    refine lv_iload_n hx hb dX7_longerBy_4 rfl (lv_at hl 1 rfl) ?_
    refine lv_bipush (v := 8) hx hb dX7_longerBy_5 (by decide) ?_
    refine lv_icmp_ge (tgt := 19) hx hb dX7_longerBy_7 (by decide) (fun c4 => ?_) (fun c4 => ?_)
    ·
      have k5 := ple32 c4
      refine lv_iconst (v := 0) hx hb dX7_longerBy_19 (by decide) ?_
      exact W.iret (v := 0) hx hb hr (fun tS ht hW => ⟨⟨0, σ, rfl, ⟨rfl, trivial⟩, (show va_P D clz (WD8 cy g σ) tS.heap by rw [ht]; exact hP)⟩, hS.F ht⟩) hS.2.2 dX7_longerBy_20
    ·
      have k6 := nle32 c4
      refine lv_aload_n hx hb dX7_longerBy_10 rfl (lv_at hl 0 rfl) ?_
      refine g8_7_6 hx hb hts hown hK hP hd0 (hts _ q256) dX7_longerBy_11 ?_
      refine lv_iload_n hx hb dX7_longerBy_14 rfl (lv_at hl 1 rfl) ?_
      obtain ⟨x7, ex7⟩ : ∃ z, (σ d0).2.2.1 6 p1.toInt.toNat = z := ⟨_, rfl⟩
      refine l8_7_6 (x := x7) hx hb hK hP hd0 (vpo (by have f0 := k3; have f1 := k6; have g0 := rg32 p1; have z0 : (0 : Int32).toInt = 0 := (by decide); have z8 : (8 : Int32).toInt = 8 := (by decide); omega)) ex7 dX7_longerBy_15 ?_
      refine lv_goto (tgt := 20) hx hb dX7_longerBy_16 (by decide) ?_
      exact W.iret (v := x7) hx hb hr (fun tS ht hW => ⟨⟨x7, σ, rfl, ⟨rfl, trivial⟩, (show va_P D clz (WD8 cy g σ) tS.heap by rw [ht]; exact hP)⟩, hS.F ht⟩) hS.2.2 dX7_longerBy_20

theorem q820 : Cond.code yX7_flatBy cX7_flatBy 3 (some .int) ∈ lw_g := lw_gm (List.mem_of_getElem? (i := 820) (by decide +kernel)) rfl
theorem dX7_flatBy_0 : decode cX7_flatBy 0 = .ok (.iconst 2, 1) := by decide +kernel
theorem dX7_flatBy_1 : decode cX7_flatBy 1 = .ok (.aload_n 0, 1) := by decide +kernel
theorem dX7_flatBy_2 : decode cX7_flatBy 2 = .ok (.getfield 28, 3) := by decide +kernel
theorem dX7_flatBy_5 : decode cX7_flatBy 5 = .ok (.imul, 1) := by decide +kernel
theorem dX7_flatBy_6 : decode cX7_flatBy 6 = .ok (.iload_n 1, 1) := by decide +kernel
theorem dX7_flatBy_7 : decode cX7_flatBy 7 = .ok (.iadd, 1) := by decide +kernel
theorem dX7_flatBy_8 : decode cX7_flatBy 8 = .ok (.istore_n 2, 1) := by decide +kernel
theorem dX7_flatBy_9 : decode cX7_flatBy 9 = .ok (.iload_n 2, 1) := by decide +kernel
theorem dX7_flatBy_10 : decode cX7_flatBy 10 = .ok (.ifCond .le 13, 3) := by decide +kernel
theorem dX7_flatBy_13 : decode cX7_flatBy 13 = .ok (.sipush 3462, 3) := by decide +kernel
theorem dX7_flatBy_16 : decode cX7_flatBy 16 = .ok (.iload_n 1, 1) := by decide +kernel
theorem dX7_flatBy_17 : decode cX7_flatBy 17 = .ok (.imul, 1) := by decide +kernel
theorem dX7_flatBy_18 : decode cX7_flatBy 18 = .ok (.iload_n 2, 1) := by decide +kernel
theorem dX7_flatBy_19 : decode cX7_flatBy 19 = .ok (.idiv, 1) := by decide +kernel
theorem dX7_flatBy_20 : decode cX7_flatBy 20 = .ok (.goto 4, 3) := by decide +kernel
theorem dX7_flatBy_23 : decode cX7_flatBy 23 = .ok (.iconst 0, 1) := by decide +kernel
theorem dX7_flatBy_24 : decode cX7_flatBy 24 = .ok (.ireturn, 1) := by decide +kernel
set_option maxHeartbeats 4000000 in
set_option maxRecDepth 100000 in
theorem m_X7_flatBy (l : Launch) (D : va_G) (cy : Nat → ClassId) (g : Nat → Nat) (σ : ST) (d0 : Nat) (p1 : Int32) (sz : Nat) (hJ : J8 σ) (hd0 : 9 ≤ d0 ∧ d0 < 12) : Met l yX7_flatBy (ww yX7_flatBy cX7_flatBy 3 (some .int)) ({ frames := 1, cells := 0, slots := 0, locals := 64 }) (va_Pc [.ref (gO g d0), .int p1] (pr8 D cy g σ sz)) (qi8 D cy g sz (fun r τ => τ = σ ∧ True)) 0 0 (A8 cy g sz) := by
  refine Met.ofW (cc := cX7_flatBy) (maxL := 3) (ret := (some .int)) (by decide) rfl ?_
  intro p e s m args below meth c s₁ B hml hv
  obtain ⟨rfl, hsz, hP, hK, hD0, hC⟩ := hv
  have hx := B.exec
  have hb := B.bytes
  have hr := B.returns
  have hts := hts_g (atoms_spec (ws := ww yX7_flatBy cX7_flatBy 3 (some .int)) B.pre)
  have hown : s.vm.findClass RX7 = some m.cls := findClass_of_methodNamed B.named
  have hlocks := B.notSynchronized
  clear B
  subst hsz
  have hD := fun τ => A8_D (sz := s.heap.size) hD0 τ
  clear hD0
  have hS : va_S (A8 cy g s.heap.size) s.heap s.heap [] := va_S.rf
  have hl := lv_entry ([.ref (gO g d0), .int p1]) (n := 3) (Nat.le_of_ble_eq_true rfl)
  rw [lg_entry_eq]
  generalize (lg_sl ([.ref (gO g d0), .int p1]) ++ List.replicate (3 - (lg_sl ([.ref (gO g d0), .int p1])).length) Slot.unset).toArray = ls at hl ⊢
  have hl : lv_has ls 3 [(0, .ref (gO g d0)), (1, .int p1)] := hl
  refine lv_iconst (v := 2) hx hb dX7_flatBy_0 (by decide) ?_
  refine lv_aload_n hx hb dX7_flatBy_1 rfl (lv_at hl 0 rfl) ?_
  refine g8_7_4 (x := ((σ d0).1 4)) hx hb hts hown hK hP hd0 (rfl) (hts _ q254) dX7_flatBy_2 ?_
  refine lv_imul hx hb dX7_flatBy_5 ?_
  refine lv_topi (fun x1 ex1 => ?_)
  refine lv_iload_n hx hb dX7_flatBy_6 rfl (lv_at hl 1 rfl) ?_
  refine lv_iadd hx hb dX7_flatBy_7 ?_
  refine lv_topi (fun x2 ex2 => ?_)
  refine lv_istore_n (lv' := [(2, .int x2), (0, .ref (gO g d0)), (1, .int p1)]) hx hb dX7_flatBy_8 rfl hl (by decide) rfl (fun ls hl => ?_)
  refine lv_iload_n hx hb dX7_flatBy_9 rfl (lv_at hl 0 rfl) ?_
  refine lv_if_le (tgt := 23) hx hb dX7_flatBy_10 (by decide) (fun c3 => ?_) (fun c3 => ?_)
  ·
    have k4 := ple32 c3
    refine lv_iconst (v := 0) hx hb dX7_flatBy_23 (by decide) ?_
    exact W.iret (v := 0) hx hb hr (fun tS ht hW => ⟨⟨0, σ, rfl, ⟨rfl, trivial⟩, (show va_P D clz (WD8 cy g σ) tS.heap by rw [ht]; exact hP)⟩, hS.F ht⟩) hS.2.2 dX7_flatBy_24
  ·
    have k5 := nle32 c3
    refine lv_sipush (v := 3462) hx hb dX7_flatBy_13 (by decide) ?_
    refine lv_iload_n hx hb dX7_flatBy_16 rfl (lv_at hl 2 rfl) ?_
    refine lv_imul hx hb dX7_flatBy_17 ?_
    refine lv_topi (fun x6 ex6 => ?_)
    refine lv_iload_n hx hb dX7_flatBy_18 rfl (lv_at hl 0 rfl) ?_
    refine lv_idiv hx hb dX7_flatBy_19 (ne0 (by have f0 := k5; have g0 := rg32 x2; have z0 : (0 : Int32).toInt = 0 := (by decide); omega)) ?_
    refine lv_topi (fun x7 ex7 => ?_)
    refine lv_goto (tgt := 24) hx hb dX7_flatBy_20 (by decide) ?_
    exact W.iret (v := x7) hx hb hr (fun tS ht hW => ⟨⟨x7, σ, rfl, ⟨rfl, trivial⟩, (show va_P D clz (WD8 cy g σ) tS.heap by rw [ht]; exact hP)⟩, hS.F ht⟩) hS.2.2 dX7_flatBy_24

theorem q795 : Cond.code yX8_flat cX8_flat 3 (some .int) ∈ lw_g := lw_gm (List.mem_of_getElem? (i := 795) (by decide +kernel)) rfl
theorem q440 : Cond.fieldLink RX8 43 "LipsAndSlides" "tube" "LLipsAndSlides$Tube;" ∈ lw_g := lw_gm (List.mem_of_getElem? (i := 440) (by decide +kernel)) rfl
theorem q796 : Cond.methodLink RX8 186 yX8_aimTube ∈ lw_g := lw_gm (List.mem_of_getElem? (i := 796) (by decide +kernel)) rfl
theorem q798 : Cond.instanceMethod yX8_aimTube ∈ lw_g := lw_gm (List.mem_of_getElem? (i := 798) (by decide +kernel)) rfl
theorem q14 : Cond.selects RX8 yX8_aimTube yX8_aimTube ∈ lw_g := lw_gm (List.mem_of_getElem? (i := 14) (by decide +kernel)) rfl
theorem q809 : Cond.methodLink RX8 190 yX7_hasSetting ∈ lw_g := lw_gm (List.mem_of_getElem? (i := 809) (by decide +kernel)) rfl
theorem q810 : Cond.instanceMethod yX7_hasSetting ∈ lw_g := lw_gm (List.mem_of_getElem? (i := 810) (by decide +kernel)) rfl
theorem q811 : Cond.selects RX7 yX7_hasSetting yX7_hasSetting ∈ lw_g := lw_gm (List.mem_of_getElem? (i := 811) (by decide +kernel)) rfl
theorem q813 : Cond.methodLink RX8 193 yX7_longerBy ∈ lw_g := lw_gm (List.mem_of_getElem? (i := 813) (by decide +kernel)) rfl
theorem q814 : Cond.instanceMethod yX7_longerBy ∈ lw_g := lw_gm (List.mem_of_getElem? (i := 814) (by decide +kernel)) rfl
theorem q815 : Cond.selects RX7 yX7_longerBy yX7_longerBy ∈ lw_g := lw_gm (List.mem_of_getElem? (i := 815) (by decide +kernel)) rfl
theorem q817 : Cond.methodLink RX8 196 yX7_flatBy ∈ lw_g := lw_gm (List.mem_of_getElem? (i := 817) (by decide +kernel)) rfl
theorem q818 : Cond.instanceMethod yX7_flatBy ∈ lw_g := lw_gm (List.mem_of_getElem? (i := 818) (by decide +kernel)) rfl
theorem q819 : Cond.selects RX7 yX7_flatBy yX7_flatBy ∈ lw_g := lw_gm (List.mem_of_getElem? (i := 819) (by decide +kernel)) rfl
theorem dX8_flat_0 : decode cX8_flat 0 = .ok (.aload_n 0, 1) := by decide +kernel
theorem dX8_flat_1 : decode cX8_flat 1 = .ok (.aload_n 0, 1) := by decide +kernel
theorem dX8_flat_2 : decode cX8_flat 2 = .ok (.getfield 43, 3) := by decide +kernel
theorem dX8_flat_5 : decode cX8_flat 5 = .ok (.iload_n 1, 1) := by decide +kernel
theorem dX8_flat_6 : decode cX8_flat 6 = .ok (.invokevirtual 186, 3) := by decide +kernel
theorem dX8_flat_9 : decode cX8_flat 9 = .ok (.ifCond .eq 14, 3) := by decide +kernel
theorem dX8_flat_12 : decode cX8_flat 12 = .ok (.aload_n 0, 1) := by decide +kernel
theorem dX8_flat_13 : decode cX8_flat 13 = .ok (.getfield 43, 3) := by decide +kernel
theorem dX8_flat_16 : decode cX8_flat 16 = .ok (.iload_n 2, 1) := by decide +kernel
theorem dX8_flat_17 : decode cX8_flat 17 = .ok (.invokevirtual 190, 3) := by decide +kernel
theorem dX8_flat_20 : decode cX8_flat 20 = .ok (.ifCond .ne 6, 3) := by decide +kernel
theorem dX8_flat_23 : decode cX8_flat 23 = .ok (.bipush (-2), 2) := by decide +kernel
theorem dX8_flat_25 : decode cX8_flat 25 = .ok (.ireturn, 1) := by decide +kernel
theorem dX8_flat_26 : decode cX8_flat 26 = .ok (.aload_n 0, 1) := by decide +kernel
theorem dX8_flat_27 : decode cX8_flat 27 = .ok (.getfield 43, 3) := by decide +kernel
theorem dX8_flat_30 : decode cX8_flat 30 = .ok (.aload_n 0, 1) := by decide +kernel
theorem dX8_flat_31 : decode cX8_flat 31 = .ok (.getfield 43, 3) := by decide +kernel
theorem dX8_flat_34 : decode cX8_flat 34 = .ok (.iload_n 2, 1) := by decide +kernel
theorem dX8_flat_35 : decode cX8_flat 35 = .ok (.invokevirtual 193, 3) := by decide +kernel
theorem dX8_flat_38 : decode cX8_flat 38 = .ok (.invokevirtual 196, 3) := by decide +kernel
theorem dX8_flat_41 : decode cX8_flat 41 = .ok (.ireturn, 1) := by decide +kernel
set_option maxHeartbeats 4000000 in
set_option maxRecDepth 100000 in
theorem m_X8_flat (l : Launch) (D : va_G) (cy : Nat → ClassId) (g : Nat → Nat) (σ : ST) (p1 : Int32) (p2 : Int32) (sz : Nat) (hJ : J8 σ)  : Met l yX8_flat (ww yX8_flat cX8_flat 3 (some .int)) ({ frames := 6, cells := 0, slots := 0, locals := 384 }) (va_Pc [.ref (gO g 17), .int p1, .int p2] (pr8 D cy g σ sz)) (qi8 D cy g sz (fun r τ => Fr (fO [9]) σ τ ∧ J8 τ ∧ True)) 0 0 (A8 cy g sz) := by
  refine Met.ofW (cc := cX8_flat) (maxL := 3) (ret := (some .int)) (by decide) rfl ?_
  intro p e s m args below meth c s₁ B hml hv
  obtain ⟨rfl, hsz, hP, hK, hD0, hC⟩ := hv
  have hx := B.exec
  have hb := B.bytes
  have hr := B.returns
  have hts := hts_g (atoms_spec (ws := ww yX8_flat cX8_flat 3 (some .int)) B.pre)
  have hown : s.vm.findClass RX8 = some m.cls := findClass_of_methodNamed B.named
  have hlocks := B.notSynchronized
  clear B
  subst hsz
  have hD := fun τ => A8_D (sz := s.heap.size) hD0 τ
  clear hD0
  have hS : va_S (A8 cy g s.heap.size) s.heap s.heap [] := va_S.rf
  have hl := lv_entry ([.ref (gO g 17), .int p1, .int p2]) (n := 3) (Nat.le_of_ble_eq_true rfl)
  rw [lg_entry_eq]
  generalize (lg_sl ([.ref (gO g 17), .int p1, .int p2]) ++ List.replicate (3 - (lg_sl ([.ref (gO g 17), .int p1, .int p2])).length) Slot.unset).toArray = ls at hl ⊢
  have hl : lv_has ls 3 [(0, .ref (gO g 17)), (1, .int p1), (2, .int p2)] := hl
  refine lv_aload_n hx hb dX8_flat_0 rfl (lv_at hl 0 rfl) ?_
  refine lv_aload_n hx hb dX8_flat_1 rfl (lv_at hl 0 rfl) ?_
  refine g8_8_6 hx hb hts hown hK hP (hts _ q440) dX8_flat_2 ?_
  refine lv_iload_n hx hb dX8_flat_5 rfl (lv_at hl 1 rfl) ?_
  refine va_calli (va_runV (As := [.ref (gO g 9), .int p1]) (rest := []) ⟨hx, hb, hml, hown, hts⟩ (m_X8_aimTube l D cy g σ  9 p1 _ hJ (show 9 ≤ 9 ∧ 9 < 12 from ⟨by decide, by decide⟩)) (cwV 2 hts (gd_V q796 q798 q14 q125 q799) rfl rfl rfl (by decide +kernel) ⟨(Nat.le_of_ble_eq_true rfl), (Nat.le_of_ble_eq_true rfl)⟩) (pv8 hP hK hD hC hS (rv8_8 hK hP)) rfl rfl hl.1 rfl (lv_room (Nat.le_of_ble_eq_true rfl)) dX8_flat_6 ⟨Nat.le_of_ble_eq_true rfl, Nat.le_of_ble_eq_true rfl⟩) hS (fun q _ h => up8 hS q h) (up8 hS) (fun r1 σ2 tS H1 locs ht hvm hw3 hB hz1 hk1 hS => ?_)
  have hP : va_P D clz (WD8 cy g σ2) H1 := by rw [← ht]; exact hB
  clear hB hz1 hk1 hvm ht
  generalize H1 = H at hP hS ⊢
  have hF4 : Fr (fO [9]) σ σ2 := hw3.1
  have hJ5 : J8 σ2 := hw3.2.1
  have b6 : (0 : Int) ≤ r1.toInt ∧ r1.toInt ≤ 1 := hw3.2.2.1
  refine lv_if_eq (tgt := 23) hx hb dX8_flat_9 (by decide) (fun c7 => ?_) (fun c7 => ?_)
  ·
    have k8 := peq32 c7
    refine lv_bipush (v := (-2)) hx hb dX8_flat_23 (by decide) ?_
    exact W.iret (v := (-2)) hx hb hr (fun tS ht hW => ⟨⟨(-2), σ2, rfl, ⟨Fr.tr (Fr.rf) hF4 (fO_sub (fun _ q => q)), hJ5, trivial⟩, (show va_P D clz (WD8 cy g σ2) tS.heap by rw [ht]; exact hP)⟩, hS.F ht⟩) hS.2.2 dX8_flat_25
  ·
    have k9 := neq32 c7
    refine lv_aload_n hx hb dX8_flat_12 rfl (lv_at hl 0 rfl) ?_
    refine g8_8_6 hx hb hts hown hK hP (hts _ q440) dX8_flat_13 ?_
    refine lv_iload_n hx hb dX8_flat_16 rfl (lv_at hl 2 rfl) ?_
    refine va_calli (va_runV (As := [.int p2]) (rest := []) ⟨hx, hb, hml, hown, hts⟩ (m_X7_hasSetting l D cy g σ2  9 p2 _ hJ5 (show 9 ≤ 9 ∧ 9 < 12 from ⟨by decide, by decide⟩)) (cwV 1 hts (gd_V q809 q810 q811 q128 q812) rfl rfl rfl (by decide +kernel) ⟨(Nat.le_of_ble_eq_true rfl), (Nat.le_of_ble_eq_true rfl)⟩) (pv8 hP hK hD hC hS (rv8_7 hK hP (by decide : 9 ≤ 9 ∧ 9 < 12))) rfl rfl hl.1 rfl (lv_room (Nat.le_of_ble_eq_true rfl)) dX8_flat_17 ⟨Nat.le_of_ble_eq_true rfl, Nat.le_of_ble_eq_true rfl⟩) hS (fun q _ h => up8 hS q h) (up8 hS) (fun r10 σ11 tS H1 locs ht hvm hw12 hB hz1 hk1 hS => ?_)
    have hP : va_P D clz (WD8 cy g σ11) H1 := by rw [← ht]; exact hB
    clear hB hz1 hk1 hvm ht
    generalize H1 = H at hP hS ⊢
    have hw12E : σ2 = σ11 := (hw12.1).symm
    subst hw12E
    have b13 : (0 : Int) ≤ r10.toInt ∧ r10.toInt ≤ 1 := hw12.2.1
    have b14 : (r10.toInt = 0) ∨ ((0 : Int) ≤ p2.toInt ∧ p2.toInt ≤ 7) := hw12.2.2.1
    refine lv_if_ne (tgt := 26) hx hb dX8_flat_20 (by decide) (fun c15 => ?_) (fun c15 => ?_)
    ·
      have k16 := neq32 c15
      refine lv_aload_n hx hb dX8_flat_26 rfl (lv_at hl 0 rfl) ?_
      refine g8_8_6 hx hb hts hown hK hP (hts _ q440) dX8_flat_27 ?_
      refine lv_aload_n hx hb dX8_flat_30 rfl (lv_at hl 0 rfl) ?_
      refine g8_8_6 hx hb hts hown hK hP (hts _ q440) dX8_flat_31 ?_
      refine lv_iload_n hx hb dX8_flat_34 rfl (lv_at hl 2 rfl) ?_
      refine va_calli (va_runV (As := [.int p2]) (rest := [.ref (gO g 9)]) ⟨hx, hb, hml, hown, hts⟩ (m_X7_longerBy l D cy g σ2  9 p2 _ hJ5 (show 9 ≤ 9 ∧ 9 < 12 from ⟨by decide, by decide⟩)) (cwV 1 hts (gd_V q813 q814 q815 q128 q816) rfl rfl rfl (by decide +kernel) ⟨(Nat.le_of_ble_eq_true rfl), (Nat.le_of_ble_eq_true rfl)⟩) (pv8 hP hK hD hC hS (rv8_7 hK hP (by decide : 9 ≤ 9 ∧ 9 < 12))) rfl rfl hl.1 rfl (lv_room (Nat.le_of_ble_eq_true rfl)) dX8_flat_35 ⟨Nat.le_of_ble_eq_true rfl, Nat.le_of_ble_eq_true rfl⟩) hS (fun q _ h => up8 hS q h) (up8 hS) (fun r17 σ18 tS H1 locs ht hvm hw19 hB hz1 hk1 hS => ?_)
      have hP : va_P D clz (WD8 cy g σ18) H1 := by rw [← ht]; exact hB
      clear hB hz1 hk1 hvm ht
      generalize H1 = H at hP hS ⊢
      have hw19E : σ2 = σ18 := (hw19.1).symm
      subst hw19E
      refine va_calli (va_runV (As := [.int r17]) (rest := []) ⟨hx, hb, hml, hown, hts⟩ (m_X7_flatBy l D cy g σ2  9 r17 _ hJ5 (show 9 ≤ 9 ∧ 9 < 12 from ⟨by decide, by decide⟩)) (cwV 1 hts (gd_V q817 q818 q819 q128 q820) rfl rfl rfl (by decide +kernel) ⟨(Nat.le_of_ble_eq_true rfl), (Nat.le_of_ble_eq_true rfl)⟩) (pv8 hP hK hD hC hS (rv8_7 hK hP (by decide : 9 ≤ 9 ∧ 9 < 12))) rfl rfl hl.1 rfl (lv_room (Nat.le_of_ble_eq_true rfl)) dX8_flat_38 ⟨Nat.le_of_ble_eq_true rfl, Nat.le_of_ble_eq_true rfl⟩) hS (fun q _ h => up8 hS q h) (up8 hS) (fun r20 σ21 tS H1 locs ht hvm hw22 hB hz1 hk1 hS => ?_)
      have hP : va_P D clz (WD8 cy g σ21) H1 := by rw [← ht]; exact hB
      clear hB hz1 hk1 hvm ht
      generalize H1 = H at hP hS ⊢
      have hw22E : σ2 = σ21 := (hw22.1).symm
      subst hw22E
      exact W.iret (v := r20) hx hb hr (fun tS ht hW => ⟨⟨r20, σ2, rfl, ⟨Fr.tr (Fr.rf) hF4 (fO_sub (fun _ q => q)), hJ5, trivial⟩, (show va_P D clz (WD8 cy g σ2) tS.heap by rw [ht]; exact hP)⟩, hS.F ht⟩) hS.2.2 dX8_flat_41
    ·
      have k23 := peq32 c15
      refine lv_bipush (v := (-2)) hx hb dX8_flat_23 (by decide) ?_
      exact W.iret (v := (-2)) hx hb hr (fun tS ht hW => ⟨⟨(-2), σ2, rfl, ⟨Fr.tr (Fr.rf) hF4 (fO_sub (fun _ q => q)), hJ5, trivial⟩, (show va_P D clz (WD8 cy g σ2) tS.heap by rw [ht]; exact hP)⟩, hS.F ht⟩) hS.2.2 dX8_flat_25

theorem q831 : Cond.code yX8_isPitch cX8_isPitch 2 (some .boolean) ∈ lw_g := lw_gm (List.mem_of_getElem? (i := 831) (by decide +kernel)) rfl
theorem q832 : Cond.constantLong RX8 233 (60) ∈ lw_g := lw_gm (List.mem_of_getElem? (i := 832) (by decide +kernel)) rfl
theorem dX8_isPitch_0 : decode cX8_isPitch 0 = .ok (.lload_n 0, 1) := by decide +kernel
theorem dX8_isPitch_1 : decode cX8_isPitch 1 = .ok (.lconst 0, 1) := by decide +kernel
theorem dX8_isPitch_2 : decode cX8_isPitch 2 = .ok (.lcmp, 1) := by decide +kernel
theorem dX8_isPitch_3 : decode cX8_isPitch 3 = .ok (.ifCond .lt 15, 3) := by decide +kernel
theorem dX8_isPitch_6 : decode cX8_isPitch 6 = .ok (.lload_n 0, 1) := by decide +kernel
theorem dX8_isPitch_7 : decode cX8_isPitch 7 = .ok (.ldc2_w 233, 3) := by decide +kernel
theorem dX8_isPitch_10 : decode cX8_isPitch 10 = .ok (.lcmp, 1) := by decide +kernel
theorem dX8_isPitch_11 : decode cX8_isPitch 11 = .ok (.ifCond .gt 7, 3) := by decide +kernel
theorem dX8_isPitch_14 : decode cX8_isPitch 14 = .ok (.iconst 1, 1) := by decide +kernel
theorem dX8_isPitch_15 : decode cX8_isPitch 15 = .ok (.goto 4, 3) := by decide +kernel
theorem dX8_isPitch_18 : decode cX8_isPitch 18 = .ok (.iconst 0, 1) := by decide +kernel
theorem dX8_isPitch_19 : decode cX8_isPitch 19 = .ok (.ireturn, 1) := by decide +kernel
set_option maxHeartbeats 4000000 in
set_option maxRecDepth 100000 in
theorem m_X8_isPitch (l : Launch) (D : va_G) (cy : Nat → ClassId) (g : Nat → Nat) (σ : ST) (p0 : Int64) (sz : Nat) (hJ : J8 σ)  : Met l yX8_isPitch (ww yX8_isPitch cX8_isPitch 2 (some .boolean)) ({ frames := 1, cells := 0, slots := 0, locals := 64 }) (va_Pc [.long p0] (pr8 D cy g σ sz)) (qi8 D cy g sz (fun r τ => τ = σ ∧ ((0 : Int) ≤ r.toInt ∧ r.toInt ≤ 1) ∧ True)) 0 0 (A8 cy g sz) := by
  refine Met.ofW (cc := cX8_isPitch) (maxL := 2) (ret := (some .boolean)) (by decide) rfl ?_
  intro p e s m args below meth c s₁ B hml hv
  obtain ⟨rfl, hsz, hP, hK, hD0, hC⟩ := hv
  have hx := B.exec
  have hb := B.bytes
  have hr := B.returns
  have hts := hts_g (atoms_spec (ws := ww yX8_isPitch cX8_isPitch 2 (some .boolean)) B.pre)
  have hown : s.vm.findClass RX8 = some m.cls := findClass_of_methodNamed B.named
  have hlocks := B.notSynchronized
  clear B
  subst hsz
  have hD := fun τ => A8_D (sz := s.heap.size) hD0 τ
  clear hD0
  have hS : va_S (A8 cy g s.heap.size) s.heap s.heap [] := va_S.rf
  have hl := lv_entry ([.long p0]) (n := 2) (Nat.le_of_ble_eq_true rfl)
  rw [lg_entry_eq]
  generalize (lg_sl ([.long p0]) ++ List.replicate (2 - (lg_sl ([.long p0])).length) Slot.unset).toArray = ls at hl ⊢
  have hl : lv_has ls 2 [(0, .long p0)] := hl
  refine lv_lload_n hx hb dX8_isPitch_0 rfl (lv_at hl 0 rfl) ?_
  refine lv_lconst (v := 0) hx hb dX8_isPitch_1 (by decide) ?_
  refine W.lcmp hx hb dX8_isPitch_2 ?_
  refine lv_if_lt (tgt := 18) hx hb dX8_isPitch_3 (by decide) (fun c1 => ?_) (fun c1 => ?_)
  ·
    have k2 := plt64 ((lg_cmp_lt p0 (0 : Int64)).mp c1)
    refine lv_iconst (v := 0) hx hb dX8_isPitch_18 (by decide) ?_
    exact W.zret (v := 0) hx hb hr rfl (fun tS ht hW => ⟨⟨0, σ, rfl, ⟨rfl, (show (0 : Int) ≤ (0 : Int32).toInt ∧ (0 : Int32).toInt ≤ 1 from (by have z0 : (0 : Int32).toInt = 0 := (by decide); omega)), trivial⟩, (show va_P D clz (WD8 cy g σ) tS.heap by rw [ht]; exact hP)⟩, hS.F ht⟩) hS.2.2 dX8_isPitch_19
  ·
    have k3 := nlt64 (fun q => c1 ((lg_cmp_lt p0 (0 : Int64)).mpr q))
    refine lv_lload_n hx hb dX8_isPitch_6 rfl (lv_at hl 0 rfl) ?_
    refine lv_ldc2 (v := 60) hx hb hown (hts _ q832) dX8_isPitch_7 ?_
    refine W.lcmp hx hb dX8_isPitch_10 ?_
    refine lv_if_gt (tgt := 18) hx hb dX8_isPitch_11 (by decide) (fun c4 => ?_) (fun c4 => ?_)
    ·
      have k5 := plt64 ((lg_cmp_gt p0 (60 : Int64)).mp c4)
      refine lv_iconst (v := 0) hx hb dX8_isPitch_18 (by decide) ?_
      exact W.zret (v := 0) hx hb hr rfl (fun tS ht hW => ⟨⟨0, σ, rfl, ⟨rfl, (show (0 : Int) ≤ (0 : Int32).toInt ∧ (0 : Int32).toInt ≤ 1 from (by have z0 : (0 : Int32).toInt = 0 := (by decide); omega)), trivial⟩, (show va_P D clz (WD8 cy g σ) tS.heap by rw [ht]; exact hP)⟩, hS.F ht⟩) hS.2.2 dX8_isPitch_19
    ·
      have k6 := nlt64 (fun q => c4 ((lg_cmp_gt p0 (60 : Int64)).mpr q))
      refine lv_iconst (v := 1) hx hb dX8_isPitch_14 (by decide) ?_
      refine lv_goto (tgt := 19) hx hb dX8_isPitch_15 (by decide) ?_
      exact W.zret (v := 1) hx hb hr rfl (fun tS ht hW => ⟨⟨1, σ, rfl, ⟨rfl, (show (0 : Int) ≤ (1 : Int32).toInt ∧ (1 : Int32).toInt ≤ 1 from (by have z1 : (1 : Int32).toInt = 1 := (by decide); omega)), trivial⟩, (show va_P D clz (WD8 cy g σ) tS.heap by rw [ht]; exact hP)⟩, hS.F ht⟩) hS.2.2 dX8_isPitch_19

theorem q836 : Cond.code yX7_hasPartial cX7_hasPartial 2 (some .boolean) ∈ lw_g := lw_gm (List.mem_of_getElem? (i := 836) (by decide +kernel)) rfl
theorem dX7_hasPartial_0 : decode cX7_hasPartial 0 = .ok (.iload_n 1, 1) := by decide +kernel
theorem dX7_hasPartial_1 : decode cX7_hasPartial 1 = .ok (.iconst 2, 1) := by decide +kernel
theorem dX7_hasPartial_2 : decode cX7_hasPartial 2 = .ok (.if_icmp .lt 21, 3) := by decide +kernel
theorem dX7_hasPartial_5 : decode cX7_hasPartial 5 = .ok (.iload_n 1, 1) := by decide +kernel
theorem dX7_hasPartial_6 : decode cX7_hasPartial 6 = .ok (.aload_n 0, 1) := by decide +kernel
theorem dX7_hasPartial_7 : decode cX7_hasPartial 7 = .ok (.getfield 37, 3) := by decide +kernel
theorem dX7_hasPartial_10 : decode cX7_hasPartial 10 = .ok (.if_icmp .gt 13, 3) := by decide +kernel
theorem dX7_hasPartial_13 : decode cX7_hasPartial 13 = .ok (.iload_n 1, 1) := by decide +kernel
theorem dX7_hasPartial_14 : decode cX7_hasPartial 14 = .ok (.bipush 12, 2) := by decide +kernel
theorem dX7_hasPartial_16 : decode cX7_hasPartial 16 = .ok (.if_icmp .gt 7, 3) := by decide +kernel
theorem dX7_hasPartial_19 : decode cX7_hasPartial 19 = .ok (.iconst 1, 1) := by decide +kernel
theorem dX7_hasPartial_20 : decode cX7_hasPartial 20 = .ok (.goto 4, 3) := by decide +kernel
theorem dX7_hasPartial_23 : decode cX7_hasPartial 23 = .ok (.iconst 0, 1) := by decide +kernel
theorem dX7_hasPartial_24 : decode cX7_hasPartial 24 = .ok (.ireturn, 1) := by decide +kernel
set_option maxHeartbeats 4000000 in
set_option maxRecDepth 100000 in
theorem m_X7_hasPartial (l : Launch) (D : va_G) (cy : Nat → ClassId) (g : Nat → Nat) (σ : ST) (d0 : Nat) (p1 : Int32) (sz : Nat) (hJ : J8 σ) (hd0 : 9 ≤ d0 ∧ d0 < 12) : Met l yX7_hasPartial (ww yX7_hasPartial cX7_hasPartial 2 (some .boolean)) ({ frames := 1, cells := 0, slots := 0, locals := 64 }) (va_Pc [.ref (gO g d0), .int p1] (pr8 D cy g σ sz)) (qi8 D cy g sz (fun r τ => τ = σ ∧ ((0 : Int) ≤ r.toInt ∧ r.toInt ≤ 1) ∧ ((r.toInt = 0) ∨ ((2 : Int) ≤ p1.toInt ∧ p1.toInt ≤ 12)) ∧ True)) 0 0 (A8 cy g sz) := by
  refine Met.ofW (cc := cX7_hasPartial) (maxL := 2) (ret := (some .boolean)) (by decide) rfl ?_
  intro p e s m args below meth c s₁ B hml hv
  obtain ⟨rfl, hsz, hP, hK, hD0, hC⟩ := hv
  have hx := B.exec
  have hb := B.bytes
  have hr := B.returns
  have hts := hts_g (atoms_spec (ws := ww yX7_hasPartial cX7_hasPartial 2 (some .boolean)) B.pre)
  have hown : s.vm.findClass RX7 = some m.cls := findClass_of_methodNamed B.named
  have hlocks := B.notSynchronized
  clear B
  subst hsz
  have hD := fun τ => A8_D (sz := s.heap.size) hD0 τ
  clear hD0
  have hS : va_S (A8 cy g s.heap.size) s.heap s.heap [] := va_S.rf
  have hl := lv_entry ([.ref (gO g d0), .int p1]) (n := 2) (Nat.le_of_ble_eq_true rfl)
  rw [lg_entry_eq]
  generalize (lg_sl ([.ref (gO g d0), .int p1]) ++ List.replicate (2 - (lg_sl ([.ref (gO g d0), .int p1])).length) Slot.unset).toArray = ls at hl ⊢
  have hl : lv_has ls 2 [(0, .ref (gO g d0)), (1, .int p1)] := hl
  refine lv_iload_n hx hb dX7_hasPartial_0 rfl (lv_at hl 1 rfl) ?_
  refine lv_iconst (v := 2) hx hb dX7_hasPartial_1 (by decide) ?_
  refine lv_icmp_lt (tgt := 23) hx hb dX7_hasPartial_2 (by decide) (fun c1 => ?_) (fun c1 => ?_)
  ·
    have k2 := plt32 c1
    refine lv_iconst (v := 0) hx hb dX7_hasPartial_23 (by decide) ?_
    exact W.zret (v := 0) hx hb hr rfl (fun tS ht hW => ⟨⟨0, σ, rfl, ⟨rfl, (show (0 : Int) ≤ (0 : Int32).toInt ∧ (0 : Int32).toInt ≤ 1 from (by have z0 : (0 : Int32).toInt = 0 := (by decide); omega)), (show ((0 : Int32).toInt = 0) ∨ ((2 : Int) ≤ p1.toInt ∧ p1.toInt ≤ 12) from (by have f0 := k2; have g0 := rg32 p1; have z0 : (0 : Int32).toInt = 0 := (by decide); have z2 : (2 : Int32).toInt = 2 := (by decide); omega)), trivial⟩, (show va_P D clz (WD8 cy g σ) tS.heap by rw [ht]; exact hP)⟩, hS.F ht⟩) hS.2.2 dX7_hasPartial_24
  ·
    have k3 := nlt32 c1
    refine lv_iload_n hx hb dX7_hasPartial_5 rfl (lv_at hl 1 rfl) ?_
    refine lv_aload_n hx hb dX7_hasPartial_6 rfl (lv_at hl 0 rfl) ?_
    refine g8_7_1 (x := ((σ d0).1 1)) hx hb hts hown hK hP hd0 (rfl) (hts _ q250) dX7_hasPartial_7 ?_
    refine lv_icmp_gt (tgt := 23) hx hb dX7_hasPartial_10 (by decide) (fun c4 => ?_) (fun c4 => ?_)
    ·
      have k5 := plt32 c4
      refine lv_iconst (v := 0) hx hb dX7_hasPartial_23 (by decide) ?_
      exact W.zret (v := 0) hx hb hr rfl (fun tS ht hW => ⟨⟨0, σ, rfl, ⟨rfl, (show (0 : Int) ≤ (0 : Int32).toInt ∧ (0 : Int32).toInt ≤ 1 from (by have z0 : (0 : Int32).toInt = 0 := (by decide); omega)), (show ((0 : Int32).toInt = 0) ∨ ((2 : Int) ≤ p1.toInt ∧ p1.toInt ≤ 12) from (by have f0 := k3; have f1 := k5; have f2 := j8_7_1 hJ hd0 rfl; have g1 := rg32 p1; have z0 : (0 : Int32).toInt = 0 := (by decide); have z2 : (2 : Int32).toInt = 2 := (by decide); omega)), trivial⟩, (show va_P D clz (WD8 cy g σ) tS.heap by rw [ht]; exact hP)⟩, hS.F ht⟩) hS.2.2 dX7_hasPartial_24
    ·
      have k6 := nlt32 c4
      refine lv_iload_n hx hb dX7_hasPartial_13 rfl (lv_at hl 1 rfl) ?_
      refine lv_bipush (v := 12) hx hb dX7_hasPartial_14 (by decide) ?_
      refine lv_icmp_gt (tgt := 23) hx hb dX7_hasPartial_16 (by decide) (fun c7 => ?_) (fun c7 => ?_)
      ·
        have k8 := plt32 c7
        refine lv_iconst (v := 0) hx hb dX7_hasPartial_23 (by decide) ?_
        exact W.zret (v := 0) hx hb hr rfl (fun tS ht hW => ⟨⟨0, σ, rfl, ⟨rfl, (show (0 : Int) ≤ (0 : Int32).toInt ∧ (0 : Int32).toInt ≤ 1 from (by have z0 : (0 : Int32).toInt = 0 := (by decide); omega)), (show ((0 : Int32).toInt = 0) ∨ ((2 : Int) ≤ p1.toInt ∧ p1.toInt ≤ 12) from (by have f0 := k3; have f1 := k6; have f2 := k8; have f3 := j8_7_1 hJ hd0 rfl; have g0 := rg32 p1; have z0 : (0 : Int32).toInt = 0 := (by decide); have z2 : (2 : Int32).toInt = 2 := (by decide); have z12 : (12 : Int32).toInt = 12 := (by decide); omega)), trivial⟩, (show va_P D clz (WD8 cy g σ) tS.heap by rw [ht]; exact hP)⟩, hS.F ht⟩) hS.2.2 dX7_hasPartial_24
      ·
        have k9 := nlt32 c7
        refine lv_iconst (v := 1) hx hb dX7_hasPartial_19 (by decide) ?_
        refine lv_goto (tgt := 24) hx hb dX7_hasPartial_20 (by decide) ?_
        exact W.zret (v := 1) hx hb hr rfl (fun tS ht hW => ⟨⟨1, σ, rfl, ⟨rfl, (show (0 : Int) ≤ (1 : Int32).toInt ∧ (1 : Int32).toInt ≤ 1 from (by have z1 : (1 : Int32).toInt = 1 := (by decide); omega)), (show ((1 : Int32).toInt = 0) ∨ ((2 : Int) ≤ p1.toInt ∧ p1.toInt ≤ 12) from (by have f0 := k3; have f1 := k6; have f2 := k9; have f3 := j8_7_1 hJ hd0 rfl; have g0 := rg32 p1; have z1 : (1 : Int32).toInt = 1 := (by decide); have z2 : (2 : Int32).toInt = 2 := (by decide); have z12 : (12 : Int32).toInt = 12 := (by decide); omega)), trivial⟩, (show va_P D clz (WD8 cy g σ) tS.heap by rw [ht]; exact hP)⟩, hS.F ht⟩) hS.2.2 dX7_hasPartial_24

theorem q828 : Cond.code yX8_canBeTried cX8_canBeTried 5 (some .boolean) ∈ lw_g := lw_gm (List.mem_of_getElem? (i := 828) (by decide +kernel)) rfl
theorem q829 : Cond.methodLink RX8 213 yX8_isPitch ∈ lw_g := lw_gm (List.mem_of_getElem? (i := 829) (by decide +kernel)) rfl
theorem q830 : Cond.static yX8_isPitch ∈ lw_g := lw_gm (List.mem_of_getElem? (i := 830) (by decide +kernel)) rfl
theorem q833 : Cond.methodLink RX8 230 yX7_hasPartial ∈ lw_g := lw_gm (List.mem_of_getElem? (i := 833) (by decide +kernel)) rfl
theorem q834 : Cond.instanceMethod yX7_hasPartial ∈ lw_g := lw_gm (List.mem_of_getElem? (i := 834) (by decide +kernel)) rfl
theorem q835 : Cond.selects RX7 yX7_hasPartial yX7_hasPartial ∈ lw_g := lw_gm (List.mem_of_getElem? (i := 835) (by decide +kernel)) rfl
theorem dX8_canBeTried_0 : decode cX8_canBeTried 0 = .ok (.aload_n 0, 1) := by decide +kernel
theorem dX8_canBeTried_1 : decode cX8_canBeTried 1 = .ok (.aload_n 0, 1) := by decide +kernel
theorem dX8_canBeTried_2 : decode cX8_canBeTried 2 = .ok (.getfield 43, 3) := by decide +kernel
theorem dX8_canBeTried_5 : decode cX8_canBeTried 5 = .ok (.iload_n 1, 1) := by decide +kernel
theorem dX8_canBeTried_6 : decode cX8_canBeTried 6 = .ok (.invokevirtual 186, 3) := by decide +kernel
theorem dX8_canBeTried_9 : decode cX8_canBeTried 9 = .ok (.ifCond .eq 38, 3) := by decide +kernel
theorem dX8_canBeTried_12 : decode cX8_canBeTried 12 = .ok (.iload_n 2, 1) := by decide +kernel
theorem dX8_canBeTried_13 : decode cX8_canBeTried 13 = .ok (.i2l, 1) := by decide +kernel
theorem dX8_canBeTried_14 : decode cX8_canBeTried 14 = .ok (.invokestatic 213, 3) := by decide +kernel
theorem dX8_canBeTried_17 : decode cX8_canBeTried 17 = .ok (.ifCond .eq 30, 3) := by decide +kernel
theorem dX8_canBeTried_20 : decode cX8_canBeTried 20 = .ok (.aload_n 0, 1) := by decide +kernel
theorem dX8_canBeTried_21 : decode cX8_canBeTried 21 = .ok (.getfield 43, 3) := by decide +kernel
theorem dX8_canBeTried_24 : decode cX8_canBeTried 24 = .ok (.iload_n 3, 1) := by decide +kernel
theorem dX8_canBeTried_25 : decode cX8_canBeTried 25 = .ok (.invokevirtual 230, 3) := by decide +kernel
theorem dX8_canBeTried_28 : decode cX8_canBeTried 28 = .ok (.ifCond .eq 19, 3) := by decide +kernel
theorem dX8_canBeTried_31 : decode cX8_canBeTried 31 = .ok (.aload_n 0, 1) := by decide +kernel
theorem dX8_canBeTried_32 : decode cX8_canBeTried 32 = .ok (.getfield 43, 3) := by decide +kernel
theorem dX8_canBeTried_35 : decode cX8_canBeTried 35 = .ok (.iload 4, 2) := by decide +kernel
theorem dX8_canBeTried_37 : decode cX8_canBeTried 37 = .ok (.invokevirtual 190, 3) := by decide +kernel
theorem dX8_canBeTried_40 : decode cX8_canBeTried 40 = .ok (.ifCond .eq 7, 3) := by decide +kernel
theorem dX8_canBeTried_43 : decode cX8_canBeTried 43 = .ok (.iconst 1, 1) := by decide +kernel
theorem dX8_canBeTried_44 : decode cX8_canBeTried 44 = .ok (.goto 4, 3) := by decide +kernel
theorem dX8_canBeTried_47 : decode cX8_canBeTried 47 = .ok (.iconst 0, 1) := by decide +kernel
theorem dX8_canBeTried_48 : decode cX8_canBeTried 48 = .ok (.ireturn, 1) := by decide +kernel
set_option maxHeartbeats 4000000 in
set_option maxRecDepth 100000 in
theorem m_X8_canBeTried (l : Launch) (D : va_G) (cy : Nat → ClassId) (g : Nat → Nat) (σ : ST) (p1 : Int32) (p2 : Int32) (p3 : Int32) (p4 : Int32) (sz : Nat) (hJ : J8 σ)  : Met l yX8_canBeTried (ww yX8_canBeTried cX8_canBeTried 5 (some .boolean)) ({ frames := 6, cells := 0, slots := 0, locals := 384 }) (va_Pc [.ref (gO g 17), .int p1, .int p2, .int p3, .int p4] (pr8 D cy g σ sz)) (qi8 D cy g sz (fun r τ => Fr (fO [9]) σ τ ∧ J8 τ ∧ ((0 : Int) ≤ r.toInt ∧ r.toInt ≤ 1) ∧ True)) 0 0 (A8 cy g sz) := by
  refine Met.ofW (cc := cX8_canBeTried) (maxL := 5) (ret := (some .boolean)) (by decide) rfl ?_
  intro p e s m args below meth c s₁ B hml hv
  obtain ⟨rfl, hsz, hP, hK, hD0, hC⟩ := hv
  have hx := B.exec
  have hb := B.bytes
  have hr := B.returns
  have hts := hts_g (atoms_spec (ws := ww yX8_canBeTried cX8_canBeTried 5 (some .boolean)) B.pre)
  have hown : s.vm.findClass RX8 = some m.cls := findClass_of_methodNamed B.named
  have hlocks := B.notSynchronized
  clear B
  subst hsz
  have hD := fun τ => A8_D (sz := s.heap.size) hD0 τ
  clear hD0
  have hS : va_S (A8 cy g s.heap.size) s.heap s.heap [] := va_S.rf
  have hl := lv_entry ([.ref (gO g 17), .int p1, .int p2, .int p3, .int p4]) (n := 5) (Nat.le_of_ble_eq_true rfl)
  rw [lg_entry_eq]
  generalize (lg_sl ([.ref (gO g 17), .int p1, .int p2, .int p3, .int p4]) ++ List.replicate (5 - (lg_sl ([.ref (gO g 17), .int p1, .int p2, .int p3, .int p4])).length) Slot.unset).toArray = ls at hl ⊢
  have hl : lv_has ls 5 [(0, .ref (gO g 17)), (1, .int p1), (2, .int p2), (3, .int p3), (4, .int p4)] := hl
  refine lv_aload_n hx hb dX8_canBeTried_0 rfl (lv_at hl 0 rfl) ?_
  refine lv_aload_n hx hb dX8_canBeTried_1 rfl (lv_at hl 0 rfl) ?_
  refine g8_8_6 hx hb hts hown hK hP (hts _ q440) dX8_canBeTried_2 ?_
  refine lv_iload_n hx hb dX8_canBeTried_5 rfl (lv_at hl 1 rfl) ?_
  refine va_calli (va_runV (As := [.ref (gO g 9), .int p1]) (rest := []) ⟨hx, hb, hml, hown, hts⟩ (m_X8_aimTube l D cy g σ  9 p1 _ hJ (show 9 ≤ 9 ∧ 9 < 12 from ⟨by decide, by decide⟩)) (cwV 2 hts (gd_V q796 q798 q14 q125 q799) rfl rfl rfl (by decide +kernel) ⟨(Nat.le_of_ble_eq_true rfl), (Nat.le_of_ble_eq_true rfl)⟩) (pv8 hP hK hD hC hS (rv8_8 hK hP)) rfl rfl hl.1 rfl (lv_room (Nat.le_of_ble_eq_true rfl)) dX8_canBeTried_6 ⟨Nat.le_of_ble_eq_true rfl, Nat.le_of_ble_eq_true rfl⟩) hS (fun q _ h => up8 hS q h) (up8 hS) (fun r1 σ2 tS H1 locs ht hvm hw3 hB hz1 hk1 hS => ?_)
  have hP : va_P D clz (WD8 cy g σ2) H1 := by rw [← ht]; exact hB
  clear hB hz1 hk1 hvm ht
  generalize H1 = H at hP hS ⊢
  have hF4 : Fr (fO [9]) σ σ2 := hw3.1
  have hJ5 : J8 σ2 := hw3.2.1
  have b6 : (0 : Int) ≤ r1.toInt ∧ r1.toInt ≤ 1 := hw3.2.2.1
  refine lv_if_eq (tgt := 47) hx hb dX8_canBeTried_9 (by decide) (fun c7 => ?_) (fun c7 => ?_)
  ·
    have k8 := peq32 c7
    refine lv_iconst (v := 0) hx hb dX8_canBeTried_47 (by decide) ?_
    exact W.zret (v := 0) hx hb hr rfl (fun tS ht hW => ⟨⟨0, σ2, rfl, ⟨Fr.tr (Fr.rf) hF4 (fO_sub (fun _ q => q)), hJ5, (show (0 : Int) ≤ (0 : Int32).toInt ∧ (0 : Int32).toInt ≤ 1 from (by have z0 : (0 : Int32).toInt = 0 := (by decide); omega)), trivial⟩, (show va_P D clz (WD8 cy g σ2) tS.heap by rw [ht]; exact hP)⟩, hS.F ht⟩) hS.2.2 dX8_canBeTried_48
  ·
    have k9 := neq32 c7
    refine lv_iload_n hx hb dX8_canBeTried_12 rfl (lv_at hl 2 rfl) ?_
    refine lv_i2l (v := p2.toInt64) hx hb dX8_canBeTried_13 rfl ?_
    refine va_calli (va_runS (As := [.long p2.toInt64]) (rest := []) ⟨hx, hb, hml, hown, hts⟩ (m_X8_isPitch l D cy g σ2  p2.toInt64 _ hJ5 ) (va_cwS 1 hts (gd_S q829 q830 q125 q831) rfl rfl rfl (by decide +kernel) ⟨(Nat.le_of_ble_eq_true rfl), (Nat.le_of_ble_eq_true rfl)⟩) (ps8 hP hK hD hC hS) rfl rfl hl.1 rfl (lv_room (Nat.le_of_ble_eq_true rfl)) dX8_canBeTried_14 ⟨Nat.le_of_ble_eq_true rfl, Nat.le_of_ble_eq_true rfl⟩) hS (fun q _ h => up8 hS q h) (up8 hS) (fun r10 σ11 tS H1 locs ht hvm hw12 hB hz1 hk1 hS => ?_)
    have hP : va_P D clz (WD8 cy g σ11) H1 := by rw [← ht]; exact hB
    clear hB hz1 hk1 hvm ht
    generalize H1 = H at hP hS ⊢
    have hw12E : σ2 = σ11 := (hw12.1).symm
    subst hw12E
    have b13 : (0 : Int) ≤ r10.toInt ∧ r10.toInt ≤ 1 := hw12.2.1
    refine lv_if_eq (tgt := 47) hx hb dX8_canBeTried_17 (by decide) (fun c14 => ?_) (fun c14 => ?_)
    ·
      have k15 := peq32 c14
      refine lv_iconst (v := 0) hx hb dX8_canBeTried_47 (by decide) ?_
      exact W.zret (v := 0) hx hb hr rfl (fun tS ht hW => ⟨⟨0, σ2, rfl, ⟨Fr.tr (Fr.rf) hF4 (fO_sub (fun _ q => q)), hJ5, (show (0 : Int) ≤ (0 : Int32).toInt ∧ (0 : Int32).toInt ≤ 1 from (by have z0 : (0 : Int32).toInt = 0 := (by decide); omega)), trivial⟩, (show va_P D clz (WD8 cy g σ2) tS.heap by rw [ht]; exact hP)⟩, hS.F ht⟩) hS.2.2 dX8_canBeTried_48
    ·
      have k16 := neq32 c14
      refine lv_aload_n hx hb dX8_canBeTried_20 rfl (lv_at hl 0 rfl) ?_
      refine g8_8_6 hx hb hts hown hK hP (hts _ q440) dX8_canBeTried_21 ?_
      refine lv_iload_n hx hb dX8_canBeTried_24 rfl (lv_at hl 3 rfl) ?_
      refine va_calli (va_runV (As := [.int p3]) (rest := []) ⟨hx, hb, hml, hown, hts⟩ (m_X7_hasPartial l D cy g σ2  9 p3 _ hJ5 (show 9 ≤ 9 ∧ 9 < 12 from ⟨by decide, by decide⟩)) (cwV 1 hts (gd_V q833 q834 q835 q128 q836) rfl rfl rfl (by decide +kernel) ⟨(Nat.le_of_ble_eq_true rfl), (Nat.le_of_ble_eq_true rfl)⟩) (pv8 hP hK hD hC hS (rv8_7 hK hP (by decide : 9 ≤ 9 ∧ 9 < 12))) rfl rfl hl.1 rfl (lv_room (Nat.le_of_ble_eq_true rfl)) dX8_canBeTried_25 ⟨Nat.le_of_ble_eq_true rfl, Nat.le_of_ble_eq_true rfl⟩) hS (fun q _ h => up8 hS q h) (up8 hS) (fun r17 σ18 tS H1 locs ht hvm hw19 hB hz1 hk1 hS => ?_)
      have hP : va_P D clz (WD8 cy g σ18) H1 := by rw [← ht]; exact hB
      clear hB hz1 hk1 hvm ht
      generalize H1 = H at hP hS ⊢
      have hw19E : σ2 = σ18 := (hw19.1).symm
      subst hw19E
      have b20 : (0 : Int) ≤ r17.toInt ∧ r17.toInt ≤ 1 := hw19.2.1
      have b21 : (r17.toInt = 0) ∨ ((2 : Int) ≤ p3.toInt ∧ p3.toInt ≤ 12) := hw19.2.2.1
      refine lv_if_eq (tgt := 47) hx hb dX8_canBeTried_28 (by decide) (fun c22 => ?_) (fun c22 => ?_)
      ·
        have k23 := peq32 c22
        refine lv_iconst (v := 0) hx hb dX8_canBeTried_47 (by decide) ?_
        exact W.zret (v := 0) hx hb hr rfl (fun tS ht hW => ⟨⟨0, σ2, rfl, ⟨Fr.tr (Fr.rf) hF4 (fO_sub (fun _ q => q)), hJ5, (show (0 : Int) ≤ (0 : Int32).toInt ∧ (0 : Int32).toInt ≤ 1 from (by have z0 : (0 : Int32).toInt = 0 := (by decide); omega)), trivial⟩, (show va_P D clz (WD8 cy g σ2) tS.heap by rw [ht]; exact hP)⟩, hS.F ht⟩) hS.2.2 dX8_canBeTried_48
      ·
        have k24 := neq32 c22
        refine lv_aload_n hx hb dX8_canBeTried_31 rfl (lv_at hl 0 rfl) ?_
        refine g8_8_6 hx hb hts hown hK hP (hts _ q440) dX8_canBeTried_32 ?_
        refine lv_iload hx hb dX8_canBeTried_35 (lv_at hl 4 rfl) ?_
        refine va_calli (va_runV (As := [.int p4]) (rest := []) ⟨hx, hb, hml, hown, hts⟩ (m_X7_hasSetting l D cy g σ2  9 p4 _ hJ5 (show 9 ≤ 9 ∧ 9 < 12 from ⟨by decide, by decide⟩)) (cwV 1 hts (gd_V q809 q810 q811 q128 q812) rfl rfl rfl (by decide +kernel) ⟨(Nat.le_of_ble_eq_true rfl), (Nat.le_of_ble_eq_true rfl)⟩) (pv8 hP hK hD hC hS (rv8_7 hK hP (by decide : 9 ≤ 9 ∧ 9 < 12))) rfl rfl hl.1 rfl (lv_room (Nat.le_of_ble_eq_true rfl)) dX8_canBeTried_37 ⟨Nat.le_of_ble_eq_true rfl, Nat.le_of_ble_eq_true rfl⟩) hS (fun q _ h => up8 hS q h) (up8 hS) (fun r25 σ26 tS H1 locs ht hvm hw27 hB hz1 hk1 hS => ?_)
        have hP : va_P D clz (WD8 cy g σ26) H1 := by rw [← ht]; exact hB
        clear hB hz1 hk1 hvm ht
        generalize H1 = H at hP hS ⊢
        have hw27E : σ2 = σ26 := (hw27.1).symm
        subst hw27E
        have b28 : (0 : Int) ≤ r25.toInt ∧ r25.toInt ≤ 1 := hw27.2.1
        have b29 : (r25.toInt = 0) ∨ ((0 : Int) ≤ p4.toInt ∧ p4.toInt ≤ 7) := hw27.2.2.1
        refine lv_if_eq (tgt := 47) hx hb dX8_canBeTried_40 (by decide) (fun c30 => ?_) (fun c30 => ?_)
        ·
          have k31 := peq32 c30
          refine lv_iconst (v := 0) hx hb dX8_canBeTried_47 (by decide) ?_
          exact W.zret (v := 0) hx hb hr rfl (fun tS ht hW => ⟨⟨0, σ2, rfl, ⟨Fr.tr (Fr.rf) hF4 (fO_sub (fun _ q => q)), hJ5, (show (0 : Int) ≤ (0 : Int32).toInt ∧ (0 : Int32).toInt ≤ 1 from (by have z0 : (0 : Int32).toInt = 0 := (by decide); omega)), trivial⟩, (show va_P D clz (WD8 cy g σ2) tS.heap by rw [ht]; exact hP)⟩, hS.F ht⟩) hS.2.2 dX8_canBeTried_48
        ·
          have k32 := neq32 c30
          refine lv_iconst (v := 1) hx hb dX8_canBeTried_43 (by decide) ?_
          refine lv_goto (tgt := 48) hx hb dX8_canBeTried_44 (by decide) ?_
          exact W.zret (v := 1) hx hb hr rfl (fun tS ht hW => ⟨⟨1, σ2, rfl, ⟨Fr.tr (Fr.rf) hF4 (fO_sub (fun _ q => q)), hJ5, (show (0 : Int) ≤ (1 : Int32).toInt ∧ (1 : Int32).toInt ≤ 1 from (by have z1 : (1 : Int32).toInt = 1 := (by decide); omega)), trivial⟩, (show va_P D clz (WD8 cy g σ2) tS.heap by rw [ht]; exact hP)⟩, hS.F ht⟩) hS.2.2 dX8_canBeTried_48

theorem q845 : Cond.code yX7_wantedFlat cX7_wantedFlat 4 (some .int) ∈ lw_g := lw_gm (List.mem_of_getElem? (i := 845) (by decide +kernel)) rfl
theorem q846 : Cond.methodLink RX7 45 yX7_hasPartial ∈ lw_g := lw_gm (List.mem_of_getElem? (i := 846) (by decide +kernel)) rfl
theorem q847 : Cond.fieldLink RX7 49 "LipsAndSlides$Tube" "PARTIAL_CENTS" "[I" ∈ lw_g := lw_gm (List.mem_of_getElem? (i := 847) (by decide +kernel)) rfl
theorem dX7_wantedFlat_0 : decode cX7_wantedFlat 0 = .ok (.aload_n 0, 1) := by decide +kernel
theorem dX7_wantedFlat_1 : decode cX7_wantedFlat 1 = .ok (.iload_n 2, 1) := by decide +kernel
theorem dX7_wantedFlat_2 : decode cX7_wantedFlat 2 = .ok (.invokevirtual 45, 3) := by decide +kernel
theorem dX7_wantedFlat_5 : decode cX7_wantedFlat 5 = .ok (.ifCond .eq 13, 3) := by decide +kernel
theorem dX7_wantedFlat_8 : decode cX7_wantedFlat 8 = .ok (.getstatic 49, 3) := by decide +kernel
theorem dX7_wantedFlat_11 : decode cX7_wantedFlat 11 = .ok (.iload_n 2, 1) := by decide +kernel
theorem dX7_wantedFlat_12 : decode cX7_wantedFlat 12 = .ok (.iconst 2, 1) := by decide +kernel
theorem dX7_wantedFlat_13 : decode cX7_wantedFlat 13 = .ok (.isub, 1) := by decide +kernel
theorem dX7_wantedFlat_14 : decode cX7_wantedFlat 14 = .ok (.iaload, 1) := by decide +kernel
theorem dX7_wantedFlat_15 : decode cX7_wantedFlat 15 = .ok (.goto 4, 3) := by decide +kernel
theorem dX7_wantedFlat_18 : decode cX7_wantedFlat 18 = .ok (.iconst 0, 1) := by decide +kernel
theorem dX7_wantedFlat_19 : decode cX7_wantedFlat 19 = .ok (.istore_n 3, 1) := by decide +kernel
theorem dX7_wantedFlat_20 : decode cX7_wantedFlat 20 = .ok (.bipush 100, 2) := by decide +kernel
theorem dX7_wantedFlat_22 : decode cX7_wantedFlat 22 = .ok (.aload_n 0, 1) := by decide +kernel
theorem dX7_wantedFlat_23 : decode cX7_wantedFlat 23 = .ok (.getfield 25, 3) := by decide +kernel
theorem dX7_wantedFlat_26 : decode cX7_wantedFlat 26 = .ok (.imul, 1) := by decide +kernel
theorem dX7_wantedFlat_27 : decode cX7_wantedFlat 27 = .ok (.iload_n 3, 1) := by decide +kernel
theorem dX7_wantedFlat_28 : decode cX7_wantedFlat 28 = .ok (.iadd, 1) := by decide +kernel
theorem dX7_wantedFlat_29 : decode cX7_wantedFlat 29 = .ok (.bipush 100, 2) := by decide +kernel
theorem dX7_wantedFlat_31 : decode cX7_wantedFlat 31 = .ok (.iload_n 1, 1) := by decide +kernel
theorem dX7_wantedFlat_32 : decode cX7_wantedFlat 32 = .ok (.imul, 1) := by decide +kernel
theorem dX7_wantedFlat_33 : decode cX7_wantedFlat 33 = .ok (.isub, 1) := by decide +kernel
theorem dX7_wantedFlat_34 : decode cX7_wantedFlat 34 = .ok (.ireturn, 1) := by decide +kernel
set_option maxHeartbeats 4000000 in
set_option maxRecDepth 100000 in
theorem m_X7_wantedFlat (l : Launch) (D : va_G) (cy : Nat → ClassId) (g : Nat → Nat) (σ : ST) (d0 : Nat) (p1 : Int32) (p2 : Int32) (sz : Nat) (hJ : J8 σ) (hd0 : 9 ≤ d0 ∧ d0 < 12) : Met l yX7_wantedFlat (ww yX7_wantedFlat cX7_wantedFlat 4 (some .int)) ({ frames := 2, cells := 0, slots := 0, locals := 128 }) (va_Pc [.ref (gO g d0), .int p1, .int p2] (pr8 D cy g σ sz)) (qi8 D cy g sz (fun r τ => τ = σ ∧ True)) 0 0 (A8 cy g sz) := by
  refine Met.ofW (cc := cX7_wantedFlat) (maxL := 4) (ret := (some .int)) (by decide) rfl ?_
  intro p e s m args below meth c s₁ B hml hv
  obtain ⟨rfl, hsz, hP, hK, hD0, hC⟩ := hv
  have hx := B.exec
  have hb := B.bytes
  have hr := B.returns
  have hts := hts_g (atoms_spec (ws := ww yX7_wantedFlat cX7_wantedFlat 4 (some .int)) B.pre)
  have hown : s.vm.findClass RX7 = some m.cls := findClass_of_methodNamed B.named
  have hlocks := B.notSynchronized
  clear B
  subst hsz
  have hD := fun τ => A8_D (sz := s.heap.size) hD0 τ
  clear hD0
  have hS : va_S (A8 cy g s.heap.size) s.heap s.heap [] := va_S.rf
  have hl := lv_entry ([.ref (gO g d0), .int p1, .int p2]) (n := 4) (Nat.le_of_ble_eq_true rfl)
  rw [lg_entry_eq]
  generalize (lg_sl ([.ref (gO g d0), .int p1, .int p2]) ++ List.replicate (4 - (lg_sl ([.ref (gO g d0), .int p1, .int p2])).length) Slot.unset).toArray = ls at hl ⊢
  have hl : lv_has ls 4 [(0, .ref (gO g d0)), (1, .int p1), (2, .int p2)] := hl
  refine lv_aload_n hx hb dX7_wantedFlat_0 rfl (lv_at hl 0 rfl) ?_
  refine lv_iload_n hx hb dX7_wantedFlat_1 rfl (lv_at hl 2 rfl) ?_
  refine va_calli (va_runV (As := [.int p2]) (rest := []) ⟨hx, hb, hml, hown, hts⟩ (m_X7_hasPartial l D cy g σ  d0 p2 _ hJ (show 9 ≤ d0 ∧ d0 < 12 from hd0)) (cwV 1 hts (gd_V q846 q834 q835 q128 q836) rfl rfl rfl (by decide +kernel) ⟨(Nat.le_of_ble_eq_true rfl), (Nat.le_of_ble_eq_true rfl)⟩) (pv8 hP hK hD hC hS (rv8_7 hK hP hd0)) rfl rfl hl.1 rfl (lv_room (Nat.le_of_ble_eq_true rfl)) dX7_wantedFlat_2 ⟨Nat.le_of_ble_eq_true rfl, Nat.le_of_ble_eq_true rfl⟩) hS (fun q _ h => up8 hS q h) (up8 hS) (fun r1 σ2 tS H1 locs ht hvm hw3 hB hz1 hk1 hS => ?_)
  have hP : va_P D clz (WD8 cy g σ2) H1 := by rw [← ht]; exact hB
  clear hB hz1 hk1 hvm ht
  generalize H1 = H at hP hS ⊢
  have hw3E : σ = σ2 := (hw3.1).symm
  subst hw3E
  have b4 : (0 : Int) ≤ r1.toInt ∧ r1.toInt ≤ 1 := hw3.2.1
  have b5 : (r1.toInt = 0) ∨ ((2 : Int) ≤ p2.toInt ∧ p2.toInt ≤ 12) := hw3.2.2.1
  refine cut8 (D := D) (cy := cy) (g := g) (A := A8 cy g s.heap.size) (H0 := s.heap) 4 19 (fun x : LZ => [(0, .ref (gO g d0)), (1, .int p1), (2, .int p2)]) (fun x : LZ => [.int (x.2.1 0)]) (fun x : LZ => (x.1 = σ) ∧ True) ?_ ?_
  ·
    intro y8 hI7 H locs ls hP hS hl
    rw [show y8.1 = σ from hI7.1] at hP
    have hl : lv_has ls 4 [(0, .ref (gO g d0)), (1, .int p1), (2, .int p2)] := hl
    refine W.eq (g2 := F0 m 19 ls [.int (y8.2.1 0)]) rfl ?_
    refine lv_istore_n (lv' := [(3, .int (y8.2.1 0)), (0, .ref (gO g d0)), (1, .int p1), (2, .int p2)]) hx hb dX7_wantedFlat_19 rfl hl (by decide) rfl (fun ls hl => ?_)
    refine lv_bipush (v := 100) hx hb dX7_wantedFlat_20 (by decide) ?_
    refine lv_aload_n hx hb dX7_wantedFlat_22 rfl (lv_at hl 1 rfl) ?_
    refine g8_7_3 (x := ((σ d0).1 3)) hx hb hts hown hK hP hd0 (rfl) (hts _ q253) dX7_wantedFlat_23 ?_
    refine lv_imul hx hb dX7_wantedFlat_26 ?_
    refine lv_topi (fun x9 ex9 => ?_)
    refine lv_iload_n hx hb dX7_wantedFlat_27 rfl (lv_at hl 0 rfl) ?_
    refine lv_iadd hx hb dX7_wantedFlat_28 ?_
    refine lv_topi (fun x10 ex10 => ?_)
    refine lv_bipush (v := 100) hx hb dX7_wantedFlat_29 (by decide) ?_
    refine lv_iload_n hx hb dX7_wantedFlat_31 rfl (lv_at hl 2 rfl) ?_
    refine lv_imul hx hb dX7_wantedFlat_32 ?_
    refine lv_topi (fun x11 ex11 => ?_)
    refine lv_isub hx hb dX7_wantedFlat_33 ?_
    refine lv_topi (fun x12 ex12 => ?_)
    exact W.iret (v := x12) hx hb hr (fun tS ht hW => ⟨⟨x12, σ, rfl, ⟨rfl, trivial⟩, (show va_P D clz (WD8 cy g σ) tS.heap by rw [ht]; exact hP)⟩, hS.F ht⟩) hS.2.2 dX7_wantedFlat_34
  ·
    intro nj6
    refine lv_if_eq (tgt := 18) hx hb dX7_wantedFlat_5 (by decide) (fun c13 => ?_) (fun c13 => ?_)
    ·
      have k14 := peq32 c13
      refine lv_iconst (v := 0) hx hb dX7_wantedFlat_18 (by decide) ?_
      exact nj6 (σ, lf [0], lg []) ⟨rfl, trivial⟩ _ _ _ hP hS (lv_sub hl [0, 1, 2] rfl)
    ·
      have k15 := neq32 c13
      obtain ⟨tC16, hZtC16, hTtC16⟩ := hC.1
      refine va_gets (own := RX7) (ref := RX7) hx hb hZtC16 hS hown (hts _ q847) (fun _ h9 => h9) dX7_wantedFlat_8 ?_
      refine lv_iload_n hx hb dX7_wantedFlat_11 rfl (lv_at hl 2 rfl) ?_
      refine lv_iconst (v := 2) hx hb dX7_wantedFlat_12 (by decide) ?_
      refine lv_isub hx hb dX7_wantedFlat_13 ?_
      refine lv_topi (fun x17 ex17 => ?_)
      have t18 := subO ex17 (by have f0 := b5; have f1 := b4; have f2 := k15; have g0 := rg32 p2; have z0 : (0 : Int32).toInt = 0 := (by decide); have z2 : (2 : Int32).toInt = 2 := (by decide); omega)
      refine va_ti hx hb hTtC16 hS (vpo (by have f0 := t18; have f1 := b5; have f2 := b4; have f3 := k15; have g0 := rg32 x17; have z0 : (0 : Int32).toInt = 0 := (by decide); have z2 : (2 : Int32).toInt = 2 := (by decide); omega)) rfl dX7_wantedFlat_14 ?_
      refine lv_topi (fun x19 ex19 => ?_)
      refine lv_goto (tgt := 19) hx hb dX7_wantedFlat_15 (by decide) ?_
      exact nj6 (σ, lf [x19], lg []) ⟨rfl, trivial⟩ _ _ _ hP hS (lv_sub hl [0, 1, 2] rfl)

theorem q857 : Cond.code yX7_drawsOf cX7_drawsOf 2 (some .int) ∈ lw_g := lw_gm (List.mem_of_getElem? (i := 857) (by decide +kernel)) rfl
theorem dX7_drawsOf_0 : decode cX7_drawsOf 0 = .ok (.aload_n 0, 1) := by decide +kernel
theorem dX7_drawsOf_1 : decode cX7_drawsOf 1 = .ok (.getfield 21, 3) := by decide +kernel
theorem dX7_drawsOf_4 : decode cX7_drawsOf 4 = .ok (.iconst 1, 1) := by decide +kernel
theorem dX7_drawsOf_5 : decode cX7_drawsOf 5 = .ok (.if_icmp .ne 16, 3) := by decide +kernel
theorem dX7_drawsOf_8 : decode cX7_drawsOf 8 = .ok (.iload_n 1, 1) := by decide +kernel
theorem dX7_drawsOf_9 : decode cX7_drawsOf 9 = .ok (.iconst 4, 1) := by decide +kernel
theorem dX7_drawsOf_10 : decode cX7_drawsOf 10 = .ok (.iand, 1) := by decide +kernel
theorem dX7_drawsOf_11 : decode cX7_drawsOf 11 = .ok (.ifCond .eq 10, 3) := by decide +kernel
theorem dX7_drawsOf_14 : decode cX7_drawsOf 14 = .ok (.aload_n 0, 1) := by decide +kernel
theorem dX7_drawsOf_15 : decode cX7_drawsOf 15 = .ok (.getfield 31, 3) := by decide +kernel
theorem dX7_drawsOf_18 : decode cX7_drawsOf 18 = .ok (.goto 4, 3) := by decide +kernel
theorem dX7_drawsOf_21 : decode cX7_drawsOf 21 = .ok (.iconst 0, 1) := by decide +kernel
theorem dX7_drawsOf_22 : decode cX7_drawsOf 22 = .ok (.ireturn, 1) := by decide +kernel
set_option maxHeartbeats 4000000 in
set_option maxRecDepth 100000 in
theorem m_X7_drawsOf (l : Launch) (D : va_G) (cy : Nat → ClassId) (g : Nat → Nat) (σ : ST) (d0 : Nat) (p1 : Int32) (sz : Nat) (hJ : J8 σ) (hd0 : 9 ≤ d0 ∧ d0 < 12) : Met l yX7_drawsOf (ww yX7_drawsOf cX7_drawsOf 2 (some .int)) ({ frames := 1, cells := 0, slots := 0, locals := 64 }) (va_Pc [.ref (gO g d0), .int p1] (pr8 D cy g σ sz)) (qi8 D cy g sz (fun r τ => τ = σ ∧ ((-2147483648 : Int) ≤ r.toInt ∧ r.toInt ≤ 1000000) ∧ True)) 0 0 (A8 cy g sz) := by
  refine Met.ofW (cc := cX7_drawsOf) (maxL := 2) (ret := (some .int)) (by decide) rfl ?_
  intro p e s m args below meth c s₁ B hml hv
  obtain ⟨rfl, hsz, hP, hK, hD0, hC⟩ := hv
  have hx := B.exec
  have hb := B.bytes
  have hr := B.returns
  have hts := hts_g (atoms_spec (ws := ww yX7_drawsOf cX7_drawsOf 2 (some .int)) B.pre)
  have hown : s.vm.findClass RX7 = some m.cls := findClass_of_methodNamed B.named
  have hlocks := B.notSynchronized
  clear B
  subst hsz
  have hD := fun τ => A8_D (sz := s.heap.size) hD0 τ
  clear hD0
  have hS : va_S (A8 cy g s.heap.size) s.heap s.heap [] := va_S.rf
  have hl := lv_entry ([.ref (gO g d0), .int p1]) (n := 2) (Nat.le_of_ble_eq_true rfl)
  rw [lg_entry_eq]
  generalize (lg_sl ([.ref (gO g d0), .int p1]) ++ List.replicate (2 - (lg_sl ([.ref (gO g d0), .int p1])).length) Slot.unset).toArray = ls at hl ⊢
  have hl : lv_has ls 2 [(0, .ref (gO g d0)), (1, .int p1)] := hl
  refine lv_aload_n hx hb dX7_drawsOf_0 rfl (lv_at hl 0 rfl) ?_
  refine g8_7_2 (x := ((σ d0).1 2)) hx hb hts hown hK hP hd0 (rfl) (hts _ q252) dX7_drawsOf_1 ?_
  refine lv_iconst (v := 1) hx hb dX7_drawsOf_4 (by decide) ?_
  refine lv_icmp_ne (tgt := 21) hx hb dX7_drawsOf_5 (by decide) (fun c1 => ?_) (fun c1 => ?_)
  ·
    have k2 := neq32 c1
    refine lv_iconst (v := 0) hx hb dX7_drawsOf_21 (by decide) ?_
    exact W.iret (v := 0) hx hb hr (fun tS ht hW => ⟨⟨0, σ, rfl, ⟨rfl, (show (-2147483648 : Int) ≤ (0 : Int32).toInt ∧ (0 : Int32).toInt ≤ 1000000 from (by have z0 : (0 : Int32).toInt = 0 := (by decide); omega)), trivial⟩, (show va_P D clz (WD8 cy g σ) tS.heap by rw [ht]; exact hP)⟩, hS.F ht⟩) hS.2.2 dX7_drawsOf_22
  ·
    have k3 := peq32 c1
    refine lv_iload_n hx hb dX7_drawsOf_8 rfl (lv_at hl 1 rfl) ?_
    refine lv_iconst (v := 4) hx hb dX7_drawsOf_9 (by decide) ?_
    refine lv_iand hx hb dX7_drawsOf_10 ?_
    refine lv_topi (fun x4 ex4 => ?_)
    refine lv_if_eq (tgt := 21) hx hb dX7_drawsOf_11 (by decide) (fun c5 => ?_) (fun c5 => ?_)
    ·
      have k6 := peq32 c5
      refine lv_iconst (v := 0) hx hb dX7_drawsOf_21 (by decide) ?_
      exact W.iret (v := 0) hx hb hr (fun tS ht hW => ⟨⟨0, σ, rfl, ⟨rfl, (show (-2147483648 : Int) ≤ (0 : Int32).toInt ∧ (0 : Int32).toInt ≤ 1000000 from (by have z0 : (0 : Int32).toInt = 0 := (by decide); omega)), trivial⟩, (show va_P D clz (WD8 cy g σ) tS.heap by rw [ht]; exact hP)⟩, hS.F ht⟩) hS.2.2 dX7_drawsOf_22
    ·
      have k7 := neq32 c5
      refine lv_aload_n hx hb dX7_drawsOf_14 rfl (lv_at hl 0 rfl) ?_
      refine g8_7_5 (x := ((σ d0).1 5)) hx hb hts hown hK hP hd0 (rfl) (hts _ q255) dX7_drawsOf_15 ?_
      refine lv_goto (tgt := 22) hx hb dX7_drawsOf_18 (by decide) ?_
      exact W.iret (v := ((σ d0).1 5)) hx hb hr (fun tS ht hW => ⟨⟨((σ d0).1 5), σ, rfl, ⟨rfl, (show (-2147483648 : Int) ≤ ((σ d0).1 5).toInt ∧ ((σ d0).1 5).toInt ≤ 1000000 from (by have f0 := j8_7_5 hJ hd0 rfl; omega)), trivial⟩, (show va_P D clz (WD8 cy g σ) tS.heap by rw [ht]; exact hP)⟩, hS.F ht⟩) hS.2.2 dX7_drawsOf_22

theorem q853 : Cond.code yX7_drawFor cX7_drawFor 8 (some .int) ∈ lw_g := lw_gm (List.mem_of_getElem? (i := 853) (by decide +kernel)) rfl
theorem q854 : Cond.methodLink RX7 52 yX7_drawsOf ∈ lw_g := lw_gm (List.mem_of_getElem? (i := 854) (by decide +kernel)) rfl
theorem q856 : Cond.instanceMethod yX7_drawsOf ∈ lw_g := lw_gm (List.mem_of_getElem? (i := 856) (by decide +kernel)) rfl
theorem q17 : Cond.selects RX7 yX7_drawsOf yX7_drawsOf ∈ lw_g := lw_gm (List.mem_of_getElem? (i := 17) (by decide +kernel)) rfl
theorem q849 : Cond.methodLink RX7 56 yX7_longerBy ∈ lw_g := lw_gm (List.mem_of_getElem? (i := 849) (by decide +kernel)) rfl
theorem q858 : Cond.methodLink RX7 59 yX7_flatBy ∈ lw_g := lw_gm (List.mem_of_getElem? (i := 858) (by decide +kernel)) rfl
theorem q859 : Cond.methodLink RX7 62 Lib.Math.abs.name ∈ lw_g := lw_gm (List.mem_of_getElem? (i := 859) (by decide +kernel)) rfl
theorem q860 : Cond.static Lib.Math.abs.name ∈ lw_g := lw_gm (List.mem_of_getElem? (i := 860) (by decide +kernel)) rfl
theorem q861 : Cond.code Lib.Math.abs.name Lib.Math.abs.code 1 (some .int) ∈ lw_g := lw_gm (List.mem_of_getElem? (i := 861) (by decide +kernel)) rfl
theorem dX7_drawFor_0 : decode cX7_drawFor 0 = .ok (.aload_n 0, 1) := by decide +kernel
theorem dX7_drawFor_1 : decode cX7_drawFor 1 = .ok (.iload_n 1, 1) := by decide +kernel
theorem dX7_drawFor_2 : decode cX7_drawFor 2 = .ok (.invokevirtual 52, 3) := by decide +kernel
theorem dX7_drawFor_5 : decode cX7_drawFor 5 = .ok (.istore_n 3, 1) := by decide +kernel
theorem dX7_drawFor_6 : decode cX7_drawFor 6 = .ok (.iconst 0, 1) := by decide +kernel
theorem dX7_drawFor_7 : decode cX7_drawFor 7 = .ok (.istore 4, 2) := by decide +kernel
theorem dX7_drawFor_9 : decode cX7_drawFor 9 = .ok (.iload_n 2, 1) := by decide +kernel
theorem dX7_drawFor_10 : decode cX7_drawFor 10 = .ok (.aload_n 0, 1) := by decide +kernel
theorem dX7_drawFor_11 : decode cX7_drawFor 11 = .ok (.aload_n 0, 1) := by decide +kernel
theorem dX7_drawFor_12 : decode cX7_drawFor 12 = .ok (.iload_n 1, 1) := by decide +kernel
theorem dX7_drawFor_13 : decode cX7_drawFor 13 = .ok (.invokevirtual 56, 3) := by decide +kernel
theorem dX7_drawFor_16 : decode cX7_drawFor 16 = .ok (.invokevirtual 59, 3) := by decide +kernel
theorem dX7_drawFor_19 : decode cX7_drawFor 19 = .ok (.isub, 1) := by decide +kernel
theorem dX7_drawFor_20 : decode cX7_drawFor 20 = .ok (.invokestatic 62, 3) := by decide +kernel
theorem dX7_drawFor_23 : decode cX7_drawFor 23 = .ok (.istore 5, 2) := by decide +kernel
theorem dX7_drawFor_25 : decode cX7_drawFor 25 = .ok (.iconst 1, 1) := by decide +kernel
theorem dX7_drawFor_26 : decode cX7_drawFor 26 = .ok (.istore 6, 2) := by decide +kernel
theorem dX7_drawFor_28 : decode cX7_drawFor 28 = .ok (.iload 6, 2) := by decide +kernel
theorem dX7_drawFor_30 : decode cX7_drawFor 30 = .ok (.iload_n 3, 1) := by decide +kernel
theorem dX7_drawFor_31 : decode cX7_drawFor 31 = .ok (.if_icmp .gt 56, 3) := by decide +kernel
theorem dX7_drawFor_34 : decode cX7_drawFor 34 = .ok (.iload_n 2, 1) := by decide +kernel
theorem dX7_drawFor_35 : decode cX7_drawFor 35 = .ok (.aload_n 0, 1) := by decide +kernel
theorem dX7_drawFor_36 : decode cX7_drawFor 36 = .ok (.aload_n 0, 1) := by decide +kernel
theorem dX7_drawFor_37 : decode cX7_drawFor 37 = .ok (.iload_n 1, 1) := by decide +kernel
theorem dX7_drawFor_38 : decode cX7_drawFor 38 = .ok (.invokevirtual 56, 3) := by decide +kernel
theorem dX7_drawFor_41 : decode cX7_drawFor 41 = .ok (.iload 6, 2) := by decide +kernel
theorem dX7_drawFor_43 : decode cX7_drawFor 43 = .ok (.iadd, 1) := by decide +kernel
theorem dX7_drawFor_44 : decode cX7_drawFor 44 = .ok (.invokevirtual 59, 3) := by decide +kernel
theorem dX7_drawFor_47 : decode cX7_drawFor 47 = .ok (.isub, 1) := by decide +kernel
theorem dX7_drawFor_48 : decode cX7_drawFor 48 = .ok (.invokestatic 62, 3) := by decide +kernel
theorem dX7_drawFor_51 : decode cX7_drawFor 51 = .ok (.istore 7, 2) := by decide +kernel
theorem dX7_drawFor_53 : decode cX7_drawFor 53 = .ok (.iload 7, 2) := by decide +kernel
theorem dX7_drawFor_55 : decode cX7_drawFor 55 = .ok (.iload 5, 2) := by decide +kernel
theorem dX7_drawFor_57 : decode cX7_drawFor 57 = .ok (.if_icmp .ge 14, 3) := by decide +kernel
theorem dX7_drawFor_60 : decode cX7_drawFor 60 = .ok (.iload 6, 2) := by decide +kernel
theorem dX7_drawFor_62 : decode cX7_drawFor 62 = .ok (.istore 4, 2) := by decide +kernel
theorem dX7_drawFor_64 : decode cX7_drawFor 64 = .ok (.iload 7, 2) := by decide +kernel
theorem dX7_drawFor_66 : decode cX7_drawFor 66 = .ok (.istore 5, 2) := by decide +kernel
theorem dX7_drawFor_68 : decode cX7_drawFor 68 = .ok (.goto 13, 3) := by decide +kernel
theorem dX7_drawFor_71 : decode cX7_drawFor 71 = .ok (.iload 7, 2) := by decide +kernel
theorem dX7_drawFor_73 : decode cX7_drawFor 73 = .ok (.iload 5, 2) := by decide +kernel
theorem dX7_drawFor_75 : decode cX7_drawFor 75 = .ok (.if_icmp .le 6, 3) := by decide +kernel
theorem dX7_drawFor_78 : decode cX7_drawFor 78 = .ok (.goto 9, 3) := by decide +kernel
theorem dX7_drawFor_81 : decode cX7_drawFor 81 = .ok (.iinc 6 1, 3) := by decide +kernel
theorem dX7_drawFor_84 : decode cX7_drawFor 84 = .ok (.goto (-56), 3) := by decide +kernel
theorem dX7_drawFor_87 : decode cX7_drawFor 87 = .ok (.iload 4, 2) := by decide +kernel
theorem dX7_drawFor_89 : decode cX7_drawFor 89 = .ok (.ireturn, 1) := by decide +kernel
set_option maxHeartbeats 4000000 in
set_option maxRecDepth 100000 in
theorem m_X7_drawFor (l : Launch) (D : va_G) (cy : Nat → ClassId) (g : Nat → Nat) (σ : ST) (d0 : Nat) (p1 : Int32) (p2 : Int32) (sz : Nat) (hJ : J8 σ) (hd0 : 9 ≤ d0 ∧ d0 < 12) : Met l yX7_drawFor (ww yX7_drawFor cX7_drawFor 8 (some .int)) ({ frames := 2, cells := 0, slots := 0, locals := 128 }) (va_Pc [.ref (gO g d0), .int p1, .int p2] (pr8 D cy g σ sz)) (qi8 D cy g sz (fun r τ => τ = σ ∧ ((0 : Int) ≤ r.toInt ∧ r.toInt ≤ 1000000) ∧ True)) 0 0 (A8 cy g sz) := by
  refine Met.ofW (cc := cX7_drawFor) (maxL := 8) (ret := (some .int)) (by decide) rfl ?_
  intro p e s m args below meth c s₁ B hml hv
  obtain ⟨rfl, hsz, hP, hK, hD0, hC⟩ := hv
  have hx := B.exec
  have hb := B.bytes
  have hr := B.returns
  have hts := hts_g (atoms_spec (ws := ww yX7_drawFor cX7_drawFor 8 (some .int)) B.pre)
  have hown : s.vm.findClass RX7 = some m.cls := findClass_of_methodNamed B.named
  have hlocks := B.notSynchronized
  clear B
  subst hsz
  have hD := fun τ => A8_D (sz := s.heap.size) hD0 τ
  clear hD0
  have hS : va_S (A8 cy g s.heap.size) s.heap s.heap [] := va_S.rf
  have hl := lv_entry ([.ref (gO g d0), .int p1, .int p2]) (n := 8) (Nat.le_of_ble_eq_true rfl)
  rw [lg_entry_eq]
  generalize (lg_sl ([.ref (gO g d0), .int p1, .int p2]) ++ List.replicate (8 - (lg_sl ([.ref (gO g d0), .int p1, .int p2])).length) Slot.unset).toArray = ls at hl ⊢
  have hl : lv_has ls 8 [(0, .ref (gO g d0)), (1, .int p1), (2, .int p2)] := hl
  refine lv_aload_n hx hb dX7_drawFor_0 rfl (lv_at hl 0 rfl) ?_
  refine lv_iload_n hx hb dX7_drawFor_1 rfl (lv_at hl 1 rfl) ?_
  refine va_calli (va_runV (As := [.int p1]) (rest := []) ⟨hx, hb, hml, hown, hts⟩ (m_X7_drawsOf l D cy g σ  d0 p1 _ hJ (show 9 ≤ d0 ∧ d0 < 12 from hd0)) (cwV 1 hts (gd_V q854 q856 q17 q128 q857) rfl rfl rfl (by decide +kernel) ⟨(Nat.le_of_ble_eq_true rfl), (Nat.le_of_ble_eq_true rfl)⟩) (pv8 hP hK hD hC hS (rv8_7 hK hP hd0)) rfl rfl hl.1 rfl (lv_room (Nat.le_of_ble_eq_true rfl)) dX7_drawFor_2 ⟨Nat.le_of_ble_eq_true rfl, Nat.le_of_ble_eq_true rfl⟩) hS (fun q _ h => up8 hS q h) (up8 hS) (fun r1 σ2 tS H1 locs ht hvm hw3 hB hz1 hk1 hS => ?_)
  have hP : va_P D clz (WD8 cy g σ2) H1 := by rw [← ht]; exact hB
  clear hB hz1 hk1 hvm ht
  generalize H1 = H at hP hS ⊢
  have hw3E : σ = σ2 := (hw3.1).symm
  subst hw3E
  have b4 : (-2147483648 : Int) ≤ r1.toInt ∧ r1.toInt ≤ 1000000 := hw3.2.1
  refine lv_istore_n (lv' := [(3, .int r1), (0, .ref (gO g d0)), (1, .int p1), (2, .int p2)]) hx hb dX7_drawFor_5 rfl hl (by decide) rfl (fun ls hl => ?_)
  refine lv_iconst (v := 0) hx hb dX7_drawFor_6 (by decide) ?_
  refine lv_istore (lv' := [(4, .int 0), (3, .int r1), (0, .ref (gO g d0)), (1, .int p1), (2, .int p2)]) hx hb dX7_drawFor_7 hl (by decide) rfl (fun ls hl => ?_)
  refine lv_iload_n hx hb dX7_drawFor_9 rfl (lv_at hl 4 rfl) ?_
  refine lv_aload_n hx hb dX7_drawFor_10 rfl (lv_at hl 2 rfl) ?_
  refine lv_aload_n hx hb dX7_drawFor_11 rfl (lv_at hl 2 rfl) ?_
  refine lv_iload_n hx hb dX7_drawFor_12 rfl (lv_at hl 3 rfl) ?_
  refine va_calli (va_runV (As := [.int p1]) (rest := [.ref (gO g d0), .int p2]) ⟨hx, hb, hml, hown, hts⟩ (m_X7_longerBy l D cy g σ  d0 p1 _ hJ (show 9 ≤ d0 ∧ d0 < 12 from hd0)) (cwV 1 hts (gd_V q849 q814 q815 q128 q816) rfl rfl rfl (by decide +kernel) ⟨(Nat.le_of_ble_eq_true rfl), (Nat.le_of_ble_eq_true rfl)⟩) (pv8 hP hK hD hC hS (rv8_7 hK hP hd0)) rfl rfl hl.1 rfl (lv_room (Nat.le_of_ble_eq_true rfl)) dX7_drawFor_13 ⟨Nat.le_of_ble_eq_true rfl, Nat.le_of_ble_eq_true rfl⟩) hS (fun q _ h => up8 hS q h) (up8 hS) (fun r5 σ6 tS H1 locs ht hvm hw7 hB hz1 hk1 hS => ?_)
  have hP : va_P D clz (WD8 cy g σ6) H1 := by rw [← ht]; exact hB
  clear hB hz1 hk1 hvm ht
  generalize H1 = H at hP hS ⊢
  have hw7E : σ = σ6 := (hw7.1).symm
  subst hw7E
  refine va_calli (va_runV (As := [.int r5]) (rest := [.int p2]) ⟨hx, hb, hml, hown, hts⟩ (m_X7_flatBy l D cy g σ  d0 r5 _ hJ (show 9 ≤ d0 ∧ d0 < 12 from hd0)) (cwV 1 hts (gd_V q858 q818 q819 q128 q820) rfl rfl rfl (by decide +kernel) ⟨(Nat.le_of_ble_eq_true rfl), (Nat.le_of_ble_eq_true rfl)⟩) (pv8 hP hK hD hC hS (rv8_7 hK hP hd0)) rfl rfl hl.1 rfl (lv_room (Nat.le_of_ble_eq_true rfl)) dX7_drawFor_16 ⟨Nat.le_of_ble_eq_true rfl, Nat.le_of_ble_eq_true rfl⟩) hS (fun q _ h => up8 hS q h) (up8 hS) (fun r8 σ9 tS H1 locs ht hvm hw10 hB hz1 hk1 hS => ?_)
  have hP : va_P D clz (WD8 cy g σ9) H1 := by rw [← ht]; exact hB
  clear hB hz1 hk1 hvm ht
  generalize H1 = H at hP hS ⊢
  have hw10E : σ = σ9 := (hw10.1).symm
  subst hw10E
  refine lv_isub hx hb dX7_drawFor_19 ?_
  refine lv_topi (fun x11 ex11 => ?_)
  refine va_mabs hx hb (hml.trans hl.1.symm) hown (hts _ q859) (hts _ q860) (hts _ q135) (hts _ q861) (Nat.le_of_ble_eq_true rfl) (Nat.le_of_ble_eq_true rfl) (Nat.le_refl _) (Nat.le_refl _) dX7_drawFor_20 ?_
  refine lv_topi (fun x12 ex12 => ?_)
  refine lv_istore (lv' := [(5, .int x12), (4, .int 0), (3, .int r1), (0, .ref (gO g d0)), (1, .int p1), (2, .int p2)]) hx hb dX7_drawFor_23 hl (by decide) rfl (fun ls hl => ?_)
  refine lv_iconst (v := 1) hx hb dX7_drawFor_25 (by decide) ?_
  refine lv_istore (lv' := [(6, .int 1), (5, .int x12), (4, .int 0), (3, .int r1), (0, .ref (gO g d0)), (1, .int p1), (2, .int p2)]) hx hb dX7_drawFor_26 hl (by decide) rfl (fun ls hl => ?_)
  refine loop8 8 28 (fun x : LZ => [(6, .int (x.2.1 0)), (5, .int (x.2.1 1)), (4, .int (x.2.1 2)), (3, .int r1), (0, .ref (gO g d0)), (1, .int p1), (2, .int p2)]) (fun x : LZ => (x.1 = σ) ∧ ((1 : Int) ≤ (x.2.1 0).toInt ∧ (x.2.1 0).toInt ≤ 10000000) ∧ ((0 : Int) ≤ (x.2.1 2).toInt ∧ (x.2.1 2).toInt ≤ 1000000) ∧ True) (fun x : LZ => ((10000001 : Int) - (x.2.1 0).toInt).toNat) ?_ (σ, lf [1, x12, 0], lg []) ⟨rfl, (show (1 : Int) ≤ (1 : Int32).toInt ∧ (1 : Int32).toInt ≤ 10000000 from (by have z1 : (1 : Int32).toInt = 1 := (by decide); omega)), (show (0 : Int) ≤ (0 : Int32).toInt ∧ (0 : Int32).toInt ≤ 1000000 from (by have z0 : (0 : Int32).toInt = 0 := (by decide); omega)), trivial⟩ _ _ _ hP hS (lv_sub hl [0, 1, 2, 3, 4, 5, 6] rfl)
  intro y16 hI15 nl14 H locs ls hP hS hl
  rw [show y16.1 = σ from hI15.1] at hP
  have b17 : (1 : Int) ≤ (y16.2.1 0).toInt ∧ (y16.2.1 0).toInt ≤ 10000000 := hI15.2.1
  have b18 : (0 : Int) ≤ (y16.2.1 2).toInt ∧ (y16.2.1 2).toInt ≤ 1000000 := hI15.2.2.1
  have hl : lv_has ls 8 [(6, .int (y16.2.1 0)), (5, .int (y16.2.1 1)), (4, .int (y16.2.1 2)), (3, .int r1), (0, .ref (gO g d0)), (1, .int p1), (2, .int p2)] := hl
  refine lv_iload hx hb dX7_drawFor_28 (lv_at hl 0 rfl) ?_
  refine lv_iload_n hx hb dX7_drawFor_30 rfl (lv_at hl 3 rfl) ?_
  refine lv_icmp_gt (tgt := 87) hx hb dX7_drawFor_31 (by decide) (fun c19 => ?_) (fun c19 => ?_)
  ·
    have k20 := plt32 c19
    refine lv_iload hx hb dX7_drawFor_87 (lv_at hl 2 rfl) ?_
    exact W.iret (v := (y16.2.1 2)) hx hb hr (fun tS ht hW => ⟨⟨(y16.2.1 2), σ, rfl, ⟨rfl, (show (0 : Int) ≤ (y16.2.1 2).toInt ∧ (y16.2.1 2).toInt ≤ 1000000 from (by have f0 := b18; have g0 := rg32 (y16.2.1 2); omega)), trivial⟩, (show va_P D clz (WD8 cy g σ) tS.heap by rw [ht]; exact hP)⟩, hS.F ht⟩) hS.2.2 dX7_drawFor_89
  ·
    have k21 := nlt32 c19
    refine lv_iload_n hx hb dX7_drawFor_34 rfl (lv_at hl 6 rfl) ?_
    refine lv_aload_n hx hb dX7_drawFor_35 rfl (lv_at hl 4 rfl) ?_
    refine lv_aload_n hx hb dX7_drawFor_36 rfl (lv_at hl 4 rfl) ?_
    refine lv_iload_n hx hb dX7_drawFor_37 rfl (lv_at hl 5 rfl) ?_
    refine va_calli (va_runV (As := [.int p1]) (rest := [.ref (gO g d0), .int p2]) ⟨hx, hb, hml, hown, hts⟩ (m_X7_longerBy l D cy g σ  d0 p1 _ hJ (show 9 ≤ d0 ∧ d0 < 12 from hd0)) (cwV 1 hts (gd_V q849 q814 q815 q128 q816) rfl rfl rfl (by decide +kernel) ⟨(Nat.le_of_ble_eq_true rfl), (Nat.le_of_ble_eq_true rfl)⟩) (pv8 hP hK hD hC hS (rv8_7 hK hP hd0)) rfl rfl hl.1 rfl (lv_room (Nat.le_of_ble_eq_true rfl)) dX7_drawFor_38 ⟨Nat.le_of_ble_eq_true rfl, Nat.le_of_ble_eq_true rfl⟩) hS (fun q _ h => up8 hS q h) (up8 hS) (fun r22 σ23 tS H1 locs ht hvm hw24 hB hz1 hk1 hS => ?_)
    have hP : va_P D clz (WD8 cy g σ23) H1 := by rw [← ht]; exact hB
    clear hB hz1 hk1 hvm ht
    generalize H1 = H at hP hS ⊢
    have hw24E : σ = σ23 := (hw24.1).symm
    subst hw24E
    refine lv_iload hx hb dX7_drawFor_41 (lv_at hl 0 rfl) ?_
    refine lv_iadd hx hb dX7_drawFor_43 ?_
    refine lv_topi (fun x25 ex25 => ?_)
    refine va_calli (va_runV (As := [.int x25]) (rest := [.int p2]) ⟨hx, hb, hml, hown, hts⟩ (m_X7_flatBy l D cy g σ  d0 x25 _ hJ (show 9 ≤ d0 ∧ d0 < 12 from hd0)) (cwV 1 hts (gd_V q858 q818 q819 q128 q820) rfl rfl rfl (by decide +kernel) ⟨(Nat.le_of_ble_eq_true rfl), (Nat.le_of_ble_eq_true rfl)⟩) (pv8 hP hK hD hC hS (rv8_7 hK hP hd0)) rfl rfl hl.1 rfl (lv_room (Nat.le_of_ble_eq_true rfl)) dX7_drawFor_44 ⟨Nat.le_of_ble_eq_true rfl, Nat.le_of_ble_eq_true rfl⟩) hS (fun q _ h => up8 hS q h) (up8 hS) (fun r26 σ27 tS H1 locs ht hvm hw28 hB hz1 hk1 hS => ?_)
    have hP : va_P D clz (WD8 cy g σ27) H1 := by rw [← ht]; exact hB
    clear hB hz1 hk1 hvm ht
    generalize H1 = H at hP hS ⊢
    have hw28E : σ = σ27 := (hw28.1).symm
    subst hw28E
    refine lv_isub hx hb dX7_drawFor_47 ?_
    refine lv_topi (fun x29 ex29 => ?_)
    refine va_mabs hx hb (hml.trans hl.1.symm) hown (hts _ q859) (hts _ q860) (hts _ q135) (hts _ q861) (Nat.le_of_ble_eq_true rfl) (Nat.le_of_ble_eq_true rfl) (Nat.le_refl _) (Nat.le_refl _) dX7_drawFor_48 ?_
    refine lv_topi (fun x30 ex30 => ?_)
    refine lv_istore (lv' := [(7, .int x30), (6, .int (y16.2.1 0)), (5, .int (y16.2.1 1)), (4, .int (y16.2.1 2)), (3, .int r1), (0, .ref (gO g d0)), (1, .int p1), (2, .int p2)]) hx hb dX7_drawFor_51 hl (by decide) rfl (fun ls hl => ?_)
    refine lv_iload hx hb dX7_drawFor_53 (lv_at hl 0 rfl) ?_
    refine lv_iload hx hb dX7_drawFor_55 (lv_at hl 2 rfl) ?_
    refine cut8 (D := D) (cy := cy) (g := g) (A := A8 cy g s.heap.size) (H0 := s.heap) 8 81 (fun x : LZ => [(7, .int x30), (6, .int (y16.2.1 0)), (5, .int (x.2.1 0)), (4, .int (x.2.1 1)), (3, .int r1), (0, .ref (gO g d0)), (1, .int p1), (2, .int p2)]) (fun x : LZ => []) (fun x : LZ => (x.1 = σ) ∧ ((0 : Int) ≤ (x.2.1 1).toInt ∧ (x.2.1 1).toInt ≤ 1000000) ∧ True) ?_ ?_
    ·
      intro y34 hI33 H locs ls hP hS hl
      rw [show y34.1 = σ from hI33.1] at hP
      have b35 : (0 : Int) ≤ (y34.2.1 1).toInt ∧ (y34.2.1 1).toInt ≤ 1000000 := hI33.2.1
      have hl : lv_has ls 8 [(7, .int x30), (6, .int (y16.2.1 0)), (5, .int (y34.2.1 0)), (4, .int (y34.2.1 1)), (3, .int r1), (0, .ref (gO g d0)), (1, .int p1), (2, .int p2)] := hl
      obtain ⟨x36, ex36⟩ : ∃ y : Int32, y = (y16.2.1 0) + 1 := ⟨_, rfl⟩
      have t37 := addO ex36 (by have f0 := b17; have f1 := k21; have f2 := b4; have g0 := rg32 (y16.2.1 0); have z1 : (1 : Int32).toInt = 1 := (by decide); omega)
      refine lv_iinc (v := x36) (lv' := [(6, .int x36), (7, .int x30), (5, .int (y34.2.1 0)), (4, .int (y34.2.1 1)), (3, .int r1), (0, .ref (gO g d0)), (1, .int p1), (2, .int p2)]) hx hb dX7_drawFor_81 hl (k := 1) rfl (by rw [ex36]; rfl) (by decide) rfl (fun ls hl => ?_)
      refine lv_goto (tgt := 28) hx hb dX7_drawFor_84 (by decide) ?_
      have t38 : ((10000001 : Int) - x36.toInt).toNat < ((10000001 : Int) - (y16.2.1 0).toInt).toNat := (by have f0 := b17; have f1 := k21; have f2 := t37; have f3 := b4; have g0 := rg32 (y16.2.1 0); have g1 := rg32 x36; have z1 : (1 : Int32).toInt = 1 := (by decide); omega)
      exact nl14 (σ, lf [x36, (y34.2.1 0), (y34.2.1 1)], lg []) ⟨rfl, (show (1 : Int) ≤ (x36 : Int32).toInt ∧ (x36 : Int32).toInt ≤ 10000000 from (by have f0 := t37; have f1 := b17; have f2 := k21; have f3 := b4; have g0 := rg32 x36; have z1 : (1 : Int32).toInt = 1 := (by decide); omega)), (show (0 : Int) ≤ ((y34.2.1 1) : Int32).toInt ∧ ((y34.2.1 1) : Int32).toInt ≤ 1000000 from (by have f0 := b35; have g0 := rg32 (y34.2.1 1); omega)), trivial⟩ (show ((10000001 : Int) - x36.toInt).toNat < _ from t38) _ _ _ hP hS (lv_sub hl [0, 2, 3, 4, 5, 6, 7] rfl)
    ·
      intro nj32
      refine lv_icmp_ge (tgt := 71) hx hb dX7_drawFor_57 (by decide) (fun c39 => ?_) (fun c39 => ?_)
      ·
        have k40 := ple32 c39
        refine lv_iload hx hb dX7_drawFor_71 (lv_at hl 0 rfl) ?_
        refine lv_iload hx hb dX7_drawFor_73 (lv_at hl 2 rfl) ?_
        refine lv_icmp_le (tgt := 81) hx hb dX7_drawFor_75 (by decide) (fun c41 => ?_) (fun c41 => ?_)
        ·
          have k42 := ple32 c41
          exact nj32 (σ, lf [(y16.2.1 1), (y16.2.1 2)], lg []) ⟨rfl, (show (0 : Int) ≤ ((y16.2.1 2) : Int32).toInt ∧ ((y16.2.1 2) : Int32).toInt ≤ 1000000 from (by have f0 := b18; have g0 := rg32 (y16.2.1 2); omega)), trivial⟩ _ _ _ hP hS (lv_sub hl [0, 1, 2, 3, 4, 5, 6, 7] rfl)
        ·
          have k43 := nle32 c41
          refine lv_goto (tgt := 87) hx hb dX7_drawFor_78 (by decide) ?_
          refine lv_iload hx hb dX7_drawFor_87 (lv_at hl 3 rfl) ?_
          exact W.iret (v := (y16.2.1 2)) hx hb hr (fun tS ht hW => ⟨⟨(y16.2.1 2), σ, rfl, ⟨rfl, (show (0 : Int) ≤ (y16.2.1 2).toInt ∧ (y16.2.1 2).toInt ≤ 1000000 from (by have f0 := b18; have g0 := rg32 (y16.2.1 2); omega)), trivial⟩, (show va_P D clz (WD8 cy g σ) tS.heap by rw [ht]; exact hP)⟩, hS.F ht⟩) hS.2.2 dX7_drawFor_89
      ·
        have k44 := nle32 c39
        refine lv_iload hx hb dX7_drawFor_60 (lv_at hl 1 rfl) ?_
        refine lv_istore (lv' := [(4, .int (y16.2.1 0)), (7, .int x30), (6, .int (y16.2.1 0)), (5, .int (y16.2.1 1)), (3, .int r1), (0, .ref (gO g d0)), (1, .int p1), (2, .int p2)]) hx hb dX7_drawFor_62 hl (by decide) rfl (fun ls hl => ?_)
        refine lv_iload hx hb dX7_drawFor_64 (lv_at hl 1 rfl) ?_
        refine lv_istore (lv' := [(5, .int x30), (4, .int (y16.2.1 0)), (7, .int x30), (6, .int (y16.2.1 0)), (3, .int r1), (0, .ref (gO g d0)), (1, .int p1), (2, .int p2)]) hx hb dX7_drawFor_66 hl (by decide) rfl (fun ls hl => ?_)
        refine lv_goto (tgt := 81) hx hb dX7_drawFor_68 (by decide) ?_
        exact nj32 (σ, lf [x30, (y16.2.1 0)], lg []) ⟨rfl, (show (0 : Int) ≤ ((y16.2.1 0) : Int32).toInt ∧ ((y16.2.1 0) : Int32).toInt ≤ 1000000 from (by have f0 := b17; have f1 := k21; have f2 := b4; have g0 := rg32 (y16.2.1 0); omega)), trivial⟩ _ _ _ hP hS (lv_sub hl [2, 3, 0, 1, 4, 5, 6, 7] rfl)

