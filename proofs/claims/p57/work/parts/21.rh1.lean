theorem q1943 : Cond.code yX9_shift cX9_shift 5 (some .int) ∈ lw_g := lw_gm (List.mem_of_getElem? (i := 1943) (by decide +kernel)) rfl
theorem dX9_shift_0 : decode cX9_shift 0 = .ok (.aload_n 0, 1) := by decide +kernel
theorem dX9_shift_1 : decode cX9_shift 1 = .ok (.iconst 0, 1) := by decide +kernel
theorem dX9_shift_2 : decode cX9_shift 2 = .ok (.putfield 129, 3) := by decide +kernel
theorem dX9_shift_5 : decode cX9_shift 5 = .ok (.aload_n 0, 1) := by decide +kernel
theorem dX9_shift_6 : decode cX9_shift 6 = .ok (.iload_n 1, 1) := by decide +kernel
theorem dX9_shift_7 : decode cX9_shift 7 = .ok (.iload_n 2, 1) := by decide +kernel
theorem dX9_shift_8 : decode cX9_shift 8 = .ok (.invokevirtual 433, 3) := by decide +kernel
theorem dX9_shift_11 : decode cX9_shift 11 = .ok (.ifCond .ne 6, 3) := by decide +kernel
theorem dX9_shift_14 : decode cX9_shift 14 = .ok (.bipush (-2), 2) := by decide +kernel
theorem dX9_shift_16 : decode cX9_shift 16 = .ok (.ireturn, 1) := by decide +kernel
theorem dX9_shift_17 : decode cX9_shift 17 = .ok (.aload_n 0, 1) := by decide +kernel
theorem dX9_shift_18 : decode cX9_shift 18 = .ok (.iload_n 1, 1) := by decide +kernel
theorem dX9_shift_19 : decode cX9_shift 19 = .ok (.iload_n 2, 1) := by decide +kernel
theorem dX9_shift_20 : decode cX9_shift 20 = .ok (.invokevirtual 393, 3) := by decide +kernel
theorem dX9_shift_23 : decode cX9_shift 23 = .ok (.iconst 0, 1) := by decide +kernel
theorem dX9_shift_24 : decode cX9_shift 24 = .ok (.istore_n 3, 1) := by decide +kernel
theorem dX9_shift_25 : decode cX9_shift 25 = .ok (.iload_n 3, 1) := by decide +kernel
theorem dX9_shift_26 : decode cX9_shift 26 = .ok (.bipush 24, 2) := by decide +kernel
theorem dX9_shift_28 : decode cX9_shift 28 = .ok (.if_icmp .gt 52, 3) := by decide +kernel
theorem dX9_shift_31 : decode cX9_shift 31 = .ok (.iload_n 3, 1) := by decide +kernel
theorem dX9_shift_32 : decode cX9_shift 32 = .ok (.iconst 2, 1) := by decide +kernel
theorem dX9_shift_33 : decode cX9_shift 33 = .ok (.irem, 1) := by decide +kernel
theorem dX9_shift_34 : decode cX9_shift 34 = .ok (.iconst 1, 1) := by decide +kernel
theorem dX9_shift_35 : decode cX9_shift 35 = .ok (.if_icmp .ne 11, 3) := by decide +kernel
theorem dX9_shift_38 : decode cX9_shift 38 = .ok (.iload_n 3, 1) := by decide +kernel
theorem dX9_shift_39 : decode cX9_shift 39 = .ok (.iconst 1, 1) := by decide +kernel
theorem dX9_shift_40 : decode cX9_shift 40 = .ok (.iadd, 1) := by decide +kernel
theorem dX9_shift_41 : decode cX9_shift 41 = .ok (.iconst 2, 1) := by decide +kernel
theorem dX9_shift_42 : decode cX9_shift 42 = .ok (.idiv, 1) := by decide +kernel
theorem dX9_shift_43 : decode cX9_shift 43 = .ok (.goto 7, 3) := by decide +kernel
theorem dX9_shift_46 : decode cX9_shift 46 = .ok (.iload_n 3, 1) := by decide +kernel
theorem dX9_shift_47 : decode cX9_shift 47 = .ok (.ineg, 1) := by decide +kernel
theorem dX9_shift_48 : decode cX9_shift 48 = .ok (.iconst 2, 1) := by decide +kernel
theorem dX9_shift_49 : decode cX9_shift 49 = .ok (.idiv, 1) := by decide +kernel
theorem dX9_shift_50 : decode cX9_shift 50 = .ok (.istore 4, 2) := by decide +kernel
theorem dX9_shift_52 : decode cX9_shift 52 = .ok (.aload_n 0, 1) := by decide +kernel
theorem dX9_shift_53 : decode cX9_shift 53 = .ok (.aload_n 0, 1) := by decide +kernel
theorem dX9_shift_54 : decode cX9_shift 54 = .ok (.getfield 34, 3) := by decide +kernel
theorem dX9_shift_57 : decode cX9_shift 57 = .ok (.iconst 0, 1) := by decide +kernel
theorem dX9_shift_58 : decode cX9_shift 58 = .ok (.iaload, 1) := by decide +kernel
theorem dX9_shift_59 : decode cX9_shift 59 = .ok (.iload 4, 2) := by decide +kernel
theorem dX9_shift_61 : decode cX9_shift 61 = .ok (.invokevirtual 396, 3) := by decide +kernel
theorem dX9_shift_64 : decode cX9_shift 64 = .ok (.aload_n 0, 1) := by decide +kernel
theorem dX9_shift_65 : decode cX9_shift 65 = .ok (.invokevirtual 430, 3) := by decide +kernel
theorem dX9_shift_68 : decode cX9_shift 68 = .ok (.ifCond .eq 6, 3) := by decide +kernel
theorem dX9_shift_71 : decode cX9_shift 71 = .ok (.iload 4, 2) := by decide +kernel
theorem dX9_shift_73 : decode cX9_shift 73 = .ok (.ireturn, 1) := by decide +kernel
theorem dX9_shift_74 : decode cX9_shift 74 = .ok (.iinc 3 1, 3) := by decide +kernel
theorem dX9_shift_77 : decode cX9_shift 77 = .ok (.goto (-52), 3) := by decide +kernel
theorem dX9_shift_80 : decode cX9_shift 80 = .ok (.bipush (-100), 2) := by decide +kernel
theorem dX9_shift_82 : decode cX9_shift 82 = .ok (.ireturn, 1) := by decide +kernel
set_option maxHeartbeats 4000000 in
set_option maxRecDepth 100000 in
theorem m_X9_shift (l : Launch) (D : va_G) (cy : Nat → ClassId) (g : Nat → Nat) (σ : ST) (p1 : Int32) (p2 : Int32) (sz : Nat) (hJ : J9 (σ 9)) (kDK0 : DK0 (σ 9)) : Met l yX9_shift (ww yX9_shift cX9_shift 5 (some .int)) ({ frames := 7, cells := 0, slots := 0, locals := 448 }) (va_Pc [.ref (g 60), .int p1, .int p2] (pr9 D cy g σ sz)) (qi9 D cy g sz (fun r τ => Fr (fL [0, 23, 24, 25, 26, 27, 28, 29, 30, 31, 32, 33, 34, 35, 36, 37, 38, 39, 40, 41]) σ τ ∧ J9 (τ 9) ∧ True)) 0 0 (A9 cy g sz) := by
  refine Met.ofW (cc := cX9_shift) (maxL := 5) (ret := (some .int)) (by decide) rfl ?_
  intro p e s m args below meth c s₁ B hml hv
  obtain ⟨rfl, hsz, hP, hK, hD0, hC⟩ := hv
  have hx := B.exec
  have hb := B.bytes
  have hr := B.returns
  have hts := hts_g (atoms_spec (ws := ww yX9_shift cX9_shift 5 (some .int)) B.pre)
  have hown : s.vm.findClass RX9 = some m.cls := findClass_of_methodNamed B.named
  have hlocks := B.notSynchronized
  clear B
  subst hsz
  have hD := fun τ => A9_D (sz := s.heap.size) hD0 τ
  clear hD0
  have hS : va_S (A9 cy g s.heap.size) s.heap s.heap [] := va_S.rf
  have hl := lv_entry ([.ref (g 60), .int p1, .int p2]) (n := 5) (Nat.le_of_ble_eq_true rfl)
  rw [lg_entry_eq]
  generalize (lg_sl ([.ref (g 60), .int p1, .int p2]) ++ List.replicate (5 - (lg_sl ([.ref (g 60), .int p1, .int p2])).length) Slot.unset).toArray = ls at hl ⊢
  have hl : lv_has ls 5 [(0, .ref (g 60)), (1, .int p1), (2, .int p2)] := hl
  refine lv_aload_n hx hb dX9_shift_0 rfl (lv_at hl 0 rfl) ?_
  refine lv_iconst (v := 0) hx hb dX9_shift_1 (by decide) ?_
  refine p9_0 hx hb hts hown hK hP hD hS (hts _ q1360) dX9_shift_2 (fun H locs σ1 eσ1 hP hS => ?_)
  have hJ2 : J9 (σ1 9) := hJ.I eσ1 (show JI9 0 (0 : Int32) from trivial)
  have T3 : DK0 (σ1 9) := DK0.mv kDK0 ((sI_f eσ1) 9 17 rfl).2.2.1 ((sI_f eσ1) 9 18 rfl).2.2.1 ((sI_f eσ1) 9 19 rfl).2.2.1
  refine lv_aload_n hx hb dX9_shift_5 rfl (lv_at hl 0 rfl) ?_
  refine lv_iload_n hx hb dX9_shift_6 rfl (lv_at hl 1 rfl) ?_
  refine lv_iload_n hx hb dX9_shift_7 rfl (lv_at hl 2 rfl) ?_
  refine va_calli (va_runV (As := [.int p1, .int p2]) (rest := []) ⟨hx, hb, hml, hown, hts⟩ (m_X9_isPlaying l D cy g σ1 p1 p2 _ hJ2 ) (cwV 2 hts (gd_V q1822 q1824 q87 q134 q1825) rfl rfl rfl (by decide +kernel) ⟨Nat.le_of_ble_eq_true rfl, Nat.le_of_ble_eq_true rfl⟩) (pv9 hP hK hD hC hS (va_recv hK hP (ci := 9) (q0 := 0) rfl rfl)) rfl rfl hl.1 rfl (lv_room (Nat.le_of_ble_eq_true rfl)) dX9_shift_8 ⟨Nat.le_of_ble_eq_true rfl, Nat.le_of_ble_eq_true rfl⟩) hS (fun q _ h => up9 hS q h) (up9 hS) (fun r4 σ5 tS H1 locs ht hvm hw6 hB hz1 hk1 hS => ?_)
  have hP : va_P D clz (WD9 cy g σ5) H1 := by rw [← ht]; exact hB
  clear hB hz1 hk1 hvm ht
  generalize H1 = H at hP hS ⊢
  have hw6E : σ1 = σ5 := (hw6.1).symm
  subst hw6E
  have b7 : (0 : Int) ≤ r4.toInt ∧ r4.toInt ≤ 1 := hw6.2.1
  have b8 : (r4.toInt = 0) ∨ ((0 : Int) ≤ p1.toInt ∧ p1.toInt ≤ 8 ∧ (0 : Int) ≤ p2.toInt ∧ p2.toInt ≤ 2) := hw6.2.2.1
  have b9 : (r4.toInt = 0) ∨ (p1.toInt < ((σ1 9).2.2.1 17 3).toInt) := hw6.2.2.2.1
  refine lv_if_ne (tgt := 17) hx hb dX9_shift_11 (by decide) (fun c10 => ?_) (fun c10 => ?_)
  ·
    have k11 := neq32 c10
    refine lv_aload_n hx hb dX9_shift_17 rfl (lv_at hl 0 rfl) ?_
    refine lv_iload_n hx hb dX9_shift_18 rfl (lv_at hl 1 rfl) ?_
    refine lv_iload_n hx hb dX9_shift_19 rfl (lv_at hl 2 rfl) ?_
    refine va_callv (va_runV (As := [.int p1, .int p2]) (rest := []) ⟨hx, hb, hml, hown, hts⟩ (m_X9_laysPart l D cy g σ1 p1 p2 _ hJ2 T3 (show (0 : Int) ≤ p1.toInt ∧ p1.toInt ≤ 8 from (by have f0 := b8; have f1 := b9; have f2 := a9_17 hJ2 (j := 3) rfl; have f3 := congrArg Int32.toInt (show ((σ1 9).2.2.1 17 3) = ((σ 9).2.2.1 17 3) from congrFun (((sI_f eσ1) 9 17 rfl).2.2.1) _); have f4 := b7; have f5 := k11; have f6 := a9_17 hJ (j := 3) rfl; have g2 := rg32 p1; have z0 : (0 : Int32).toInt = 0 := (by decide); omega)) (show (0 : Int) ≤ p2.toInt ∧ p2.toInt ≤ 2 from (by have f0 := b8; have f1 := b9; have f2 := a9_17 hJ2 (j := 3) rfl; have f3 := congrArg Int32.toInt (show ((σ1 9).2.2.1 17 3) = ((σ 9).2.2.1 17 3) from congrFun (((sI_f eσ1) 9 17 rfl).2.2.1) _); have f4 := b7; have f5 := k11; have f6 := a9_17 hJ (j := 3) rfl; have g2 := rg32 p1; have g3 := rg32 p2; have z0 : (0 : Int32).toInt = 0 := (by decide); omega)) (show p1.toInt < ((σ1 9).2.2.1 17 3).toInt from (by have f0 := a9_17 hJ2 (j := 3) rfl; have f1 := congrArg Int32.toInt (show ((σ1 9).2.2.1 17 3) = ((σ 9).2.2.1 17 3) from congrFun (((sI_f eσ1) 9 17 rfl).2.2.1) _); have f2 := b8; have f3 := b9; have f4 := a9_17 hJ (j := 3) rfl; have f5 := b7; have f6 := k11; have g2 := rg32 p1; have z0 : (0 : Int32).toInt = 0 := (by decide); omega))) (cwV 2 hts (gd_V q1834 q1836 q90 q134 q1837) rfl rfl rfl (by decide +kernel) ⟨Nat.le_of_ble_eq_true rfl, Nat.le_of_ble_eq_true rfl⟩) (pv9 hP hK hD hC hS (va_recv hK hP (ci := 9) (q0 := 0) rfl rfl)) rfl rfl hl.1 rfl (lv_room (Nat.le_of_ble_eq_true rfl)) dX9_shift_20 ⟨Nat.le_of_ble_eq_true rfl, Nat.le_of_ble_eq_true rfl⟩) hS (fun q _ h => up9 hS q h) (up9 hS) (fun σ13 tS H1 locs ht hvm hw14 hB hz1 hk1 hS => ?_)
    have hP : va_P D clz (WD9 cy g σ13) H1 := by rw [← ht]; exact hB
    clear hB hz1 hk1 hvm ht
    generalize H1 = H at hP hS ⊢
    have hF15 : Fr (fL [28, 29, 30, 31, 32, 33, 34]) σ1 σ13 := hw14.1
    have hJ16 : J9 (σ13 9) := hw14.2.1
    have T17 : DK0 (σ13 9) := DK0.mv T3 (hF15 9 17 rfl).2.2.1 (hF15 9 18 rfl).2.2.1 (hF15 9 19 rfl).2.2.1
    refine lv_iconst (v := 0) hx hb dX9_shift_23 (by decide) ?_
    refine lv_istore_n (lv' := [(3, .int 0), (0, .ref (g 60)), (1, .int p1), (2, .int p2)]) hx hb dX9_shift_24 rfl hl (by decide) rfl (fun ls hl => ?_)
    refine loop9 5 25 (fun x : LZ => [(3, .int (x.2.1 0)), (0, .ref (g 60)), (1, .int p1), (2, .int p2)]) (fun x : LZ => (Fr (fL [23, 24, 25, 26, 27, 35, 36, 37, 38, 39, 40, 41]) σ13 x.1) ∧ (J9 (x.1 9)) ∧ ((0 : Int) ≤ (x.2.1 0).toInt ∧ (x.2.1 0).toInt ≤ 28) ∧ (DK0 (x.1 9)) ∧ (HK (x.1 9)) ∧ True) (fun x : LZ => ((29 : Int) - (x.2.1 0).toInt).toNat) ?_ (σ13, lf [0], lg []) ⟨Fr.rf, hJ16, (show (0 : Int) ≤ (0 : Int32).toInt ∧ (0 : Int32).toInt ≤ 28 from (by have z0 : (0 : Int32).toInt = 0 := (by decide); omega)), (show DK0 (σ13 9) from T17), (show HK (σ13 9) from hw14.2.2.1), trivial⟩ _ _ _ hP hS (lv_sub hl [0, 1, 2, 3] rfl)
    intro y20 hI19 nl18 H locs ls hP hS hl
    obtain ⟨σ21, eσ21⟩ : ∃ z, z = y20.1 := ⟨_, rfl⟩
    rw [← eσ21] at hP hI19
    have hF22 : Fr (fL [23, 24, 25, 26, 27, 35, 36, 37, 38, 39, 40, 41]) σ13 σ21 := hI19.1
    have hJ23 : J9 (σ21 9) := hI19.2.1
    have b24 : (0 : Int) ≤ (y20.2.1 0).toInt ∧ (y20.2.1 0).toInt ≤ 28 := hI19.2.2.1
    have b25 : DK0 (σ21 9) := hI19.2.2.2.1
    have b26 : HK (σ21 9) := hI19.2.2.2.2.1
    have hl : lv_has ls 5 [(3, .int (y20.2.1 0)), (0, .ref (g 60)), (1, .int p1), (2, .int p2)] := hl
    refine lv_iload_n hx hb dX9_shift_25 rfl (lv_at hl 0 rfl) ?_
    refine lv_bipush (v := 24) hx hb dX9_shift_26 (by decide) ?_
    refine lv_icmp_gt (tgt := 80) hx hb dX9_shift_28 (by decide) (fun c27 => ?_) (fun c27 => ?_)
    ·
      have k28 := plt32 c27
      refine lv_bipush (v := (-100)) hx hb dX9_shift_80 (by decide) ?_
      exact W.iret (v := (-100)) hx hb hr (fun tS ht hW => ⟨⟨(-100), σ21, rfl, ⟨Fr.tr (Fr.tr (Fr.tr (Fr.rf) (sI_f eσ1) (fN_L rfl)) hF15 (fL_sub rfl)) hF22 (fL_sub rfl), hJ23, trivial⟩, (show va_P D clz (WD9 cy g σ21) tS.heap by rw [ht]; exact hP)⟩, hS.F ht⟩) hS.2.2 dX9_shift_82
    ·
      have k29 := nlt32 c27
      refine lv_iload_n hx hb dX9_shift_31 rfl (lv_at hl 0 rfl) ?_
      refine lv_iconst (v := 2) hx hb dX9_shift_32 (by decide) ?_
      refine lv_irem hx hb dX9_shift_33 (by decide) ?_
      refine lv_topi (fun x30 ex30 => ?_)
      have t31 := remC (n := 2) ex30 (by decide) (by have f0 := b24; have f1 := k29; have g0 := rg32 (y20.2.1 0); have z24 : (24 : Int32).toInt = 24 := (by decide); omega)
      refine lv_iconst (v := 1) hx hb dX9_shift_34 (by decide) ?_
      refine cut9 (D := D) (cy := cy) (g := g) (A := A9 cy g s.heap.size) (H0 := s.heap) 5 50 (fun x : LZ => [(3, .int (y20.2.1 0)), (0, .ref (g 60)), (1, .int p1), (2, .int p2)]) (fun x : LZ => [.int (x.2.1 0)]) (fun x : LZ => (x.1 = σ21) ∧ (DK0 (σ21 9)) ∧ (HK (σ21 9)) ∧ True) ?_ ?_
      ·
        intro y34 hI33 H locs ls hP hS hl
        rw [show y34.1 = σ21 from hI33.1] at hP
        have b35 : DK0 (σ21 9) := hI33.2.1
        have b36 : HK (σ21 9) := hI33.2.2.1
        have hl : lv_has ls 5 [(3, .int (y20.2.1 0)), (0, .ref (g 60)), (1, .int p1), (2, .int p2)] := hl
        refine W.eq (g2 := F0 m 50 ls [.int (y34.2.1 0)]) rfl ?_
        refine lv_istore (lv' := [(4, .int (y34.2.1 0)), (3, .int (y20.2.1 0)), (0, .ref (g 60)), (1, .int p1), (2, .int p2)]) hx hb dX9_shift_50 hl (by decide) rfl (fun ls hl => ?_)
        refine lv_aload_n hx hb dX9_shift_52 rfl (lv_at hl 2 rfl) ?_
        refine lv_aload_n hx hb dX9_shift_53 rfl (lv_at hl 2 rfl) ?_
        refine g9_17 hx hb hts hown hK hP (hts _ q1377) dX9_shift_54 ?_
        refine lv_iconst (v := 0) hx hb dX9_shift_57 (by decide) ?_
        refine l9_17 (x := ((σ 9).2.2.1 17 0)) hx hb hK hP (vpi (by decide)) ((congrFun (((hF22 9 17 rfl).2.2.1).trans (((hF15 9 17 rfl).2.2.1).trans (((sI_f eσ1) 9 17 rfl).2.2.1))) _).trans (congrArg ((σ 9).2.2.1 17) (show (0 : Int32).toInt.toNat = 0 by decide))) dX9_shift_58 ?_
        refine lv_iload hx hb dX9_shift_59 (lv_at hl 0 rfl) ?_
        refine va_callv (va_runV (As := [.int ((σ 9).2.2.1 17 0), .int (y34.2.1 0)]) (rest := []) ⟨hx, hb, hml, hown, hts⟩ (m_X9_laysAll l D cy g σ21 ((σ 9).2.2.1 17 0) (y34.2.1 0) _ hJ23 b36) (cwV 2 hts (gd_V q1842 q1844 q92 q134 q1845) rfl rfl rfl (by decide +kernel) ⟨Nat.le_of_ble_eq_true rfl, Nat.le_of_ble_eq_true rfl⟩) (pv9 hP hK hD hC hS (va_recv hK hP (ci := 9) (q0 := 0) rfl rfl)) rfl rfl hl.1 rfl (lv_room (Nat.le_of_ble_eq_true rfl)) dX9_shift_61 ⟨Nat.le_of_ble_eq_true rfl, Nat.le_of_ble_eq_true rfl⟩) hS (fun q _ h => up9 hS q h) (up9 hS) (fun σ38 tS H1 locs ht hvm hw39 hB hz1 hk1 hS => ?_)
        have hP : va_P D clz (WD9 cy g σ38) H1 := by rw [← ht]; exact hB
        clear hB hz1 hk1 hvm ht
        generalize H1 = H at hP hS ⊢
        have hF40 : Fr (fL [23, 24, 25, 26, 27]) σ21 σ38 := hw39.1
        have hJ41 : J9 (σ38 9) := hw39.2.1
        have T42 : DK0 (σ38 9) := DK0.mv b35 (hF40 9 17 rfl).2.2.1 (hF40 9 18 rfl).2.2.1 (hF40 9 19 rfl).2.2.1
        have T43 : HK (σ38 9) := HK.mv b36 (hF40 9 18 rfl).2.2.1 (hF40 9 28 rfl).1
        refine lv_aload_n hx hb dX9_shift_64 rfl (lv_at hl 2 rfl) ?_
        refine va_calli (va_runV (As := []) (rest := []) ⟨hx, hb, hml, hown, hts⟩ (m_X9_isPlay l D cy g σ38  _ hJ41 ) (cwV 0 hts (gd_V q1846 q1848 q93 q134 q1849) rfl rfl rfl (by decide +kernel) ⟨Nat.le_of_ble_eq_true rfl, Nat.le_of_ble_eq_true rfl⟩) (pv9 hP hK hD hC hS (va_recv hK hP (ci := 9) (q0 := 0) rfl rfl)) rfl rfl hl.1 rfl (lv_room (Nat.le_of_ble_eq_true rfl)) dX9_shift_65 ⟨Nat.le_of_ble_eq_true rfl, Nat.le_of_ble_eq_true rfl⟩) hS (fun q _ h => up9 hS q h) (up9 hS) (fun r44 σ45 tS H1 locs ht hvm hw46 hB hz1 hk1 hS => ?_)
        have hP : va_P D clz (WD9 cy g σ45) H1 := by rw [← ht]; exact hB
        clear hB hz1 hk1 hvm ht
        generalize H1 = H at hP hS ⊢
        have hF47 : Fr (fL [35, 36, 37, 38, 39, 40, 41]) σ38 σ45 := hw46.1
        have hJ48 : J9 (σ45 9) := hw46.2.1
        have b49 : (0 : Int) ≤ r44.toInt ∧ r44.toInt ≤ 1 := hw46.2.2.1
        have T50 : DK0 (σ45 9) := DK0.mv T42 (hF47 9 17 rfl).2.2.1 (hF47 9 18 rfl).2.2.1 (hF47 9 19 rfl).2.2.1
        have T51 : HK (σ45 9) := HK.mv T43 (hF47 9 18 rfl).2.2.1 (hF47 9 28 rfl).1
        refine lv_if_eq (tgt := 74) hx hb dX9_shift_68 (by decide) (fun c52 => ?_) (fun c52 => ?_)
        ·
          have k53 := peq32 c52
          obtain ⟨x54, ex54⟩ : ∃ y : Int32, y = (y20.2.1 0) + 1 := ⟨_, rfl⟩
          have t55 := addO ex54 (by have f0 := b24; have f1 := k29; have f2 := t31; have g0 := rg32 (y20.2.1 0); have z1 : (1 : Int32).toInt = 1 := (by decide); have z24 : (24 : Int32).toInt = 24 := (by decide); omega)
          refine lv_iinc (v := x54) (lv' := [(3, .int x54), (4, .int (y34.2.1 0)), (0, .ref (g 60)), (1, .int p1), (2, .int p2)]) hx hb dX9_shift_74 hl (k := 1) rfl (by rw [ex54]; rfl) (by decide) rfl (fun ls hl => ?_)
          refine lv_goto (tgt := 25) hx hb dX9_shift_77 (by decide) ?_
          have t56 : ((29 : Int) - x54.toInt).toNat < ((29 : Int) - (y20.2.1 0).toInt).toNat := (by have f0 := b24; have f1 := k29; have f2 := t31; have f3 := t55; have g0 := rg32 (y20.2.1 0); have g1 := rg32 x54; have z1 : (1 : Int32).toInt = 1 := (by decide); have z24 : (24 : Int32).toInt = 24 := (by decide); omega)
          exact nl18 (σ45, lf [x54], lg []) ⟨Fr.tr (Fr.tr (Fr.tr (Fr.rf) hF22 (fL_sub rfl)) hF40 (fL_sub rfl)) hF47 (fL_sub rfl), hJ48, (show (0 : Int) ≤ (x54 : Int32).toInt ∧ (x54 : Int32).toInt ≤ 28 from (by have f0 := t55; have f1 := b24; have f2 := k29; have f3 := t31; have g0 := rg32 x54; have z1 : (1 : Int32).toInt = 1 := (by decide); have z24 : (24 : Int32).toInt = 24 := (by decide); omega)), (show DK0 (σ45 9) from T50), (show HK (σ45 9) from T51), trivial⟩ (show ((29 : Int) - x54.toInt).toNat < _ from by first | exact t56 | (rw [← eσ21]; exact t56)) _ _ _ hP hS (lv_sub hl [0, 2, 3, 4] rfl)
        ·
          have k57 := neq32 c52
          refine lv_iload hx hb dX9_shift_71 (lv_at hl 0 rfl) ?_
          exact W.iret (v := (y34.2.1 0)) hx hb hr (fun tS ht hW => ⟨⟨(y34.2.1 0), σ45, rfl, ⟨Fr.tr (Fr.tr (Fr.tr (Fr.tr (Fr.tr (Fr.rf) (sI_f eσ1) (fN_L rfl)) hF15 (fL_sub rfl)) hF22 (fL_sub rfl)) hF40 (fL_sub rfl)) hF47 (fL_sub rfl), hJ48, trivial⟩, (show va_P D clz (WD9 cy g σ45) tS.heap by rw [ht]; exact hP)⟩, hS.F ht⟩) hS.2.2 dX9_shift_73
      ·
        intro nj32
        refine lv_icmp_ne (tgt := 46) hx hb dX9_shift_35 (by decide) (fun c58 => ?_) (fun c58 => ?_)
        ·
          have k59 := neq32 c58
          refine lv_iload_n hx hb dX9_shift_46 rfl (lv_at hl 0 rfl) ?_
          refine lv_ineg hx hb dX9_shift_47 ?_
          refine lv_topi (fun x60 ex60 => ?_)
          have t61 := negO ex60 (by have f0 := b24; have f1 := k29; have f2 := t31; have f3 := k59; have g0 := rg32 (y20.2.1 0); have z1 : (1 : Int32).toInt = 1 := (by decide); have z24 : (24 : Int32).toInt = 24 := (by decide); omega)
          refine lv_iconst (v := 2) hx hb dX9_shift_48 (by decide) ?_
          refine lv_idiv hx hb dX9_shift_49 (by decide) ?_
          refine lv_topi (fun x62 ex62 => ?_)
          exact nj32 (σ21, lf [x62], lg []) ⟨rfl, (show DK0 (σ21 9) from b25), (show HK (σ21 9) from b26), trivial⟩ _ _ _ hP hS (lv_sub hl [0, 1, 2, 3] rfl)
        ·
          have k63 := peq32 c58
          refine lv_iload_n hx hb dX9_shift_38 rfl (lv_at hl 0 rfl) ?_
          refine lv_iconst (v := 1) hx hb dX9_shift_39 (by decide) ?_
          refine lv_iadd hx hb dX9_shift_40 ?_
          refine lv_topi (fun x64 ex64 => ?_)
          have t65 := addO ex64 (by have f0 := b24; have f1 := k29; have f2 := t31; have f3 := k63; have g0 := rg32 (y20.2.1 0); have z1 : (1 : Int32).toInt = 1 := (by decide); have z24 : (24 : Int32).toInt = 24 := (by decide); omega)
          refine lv_iconst (v := 2) hx hb dX9_shift_41 (by decide) ?_
          refine lv_idiv hx hb dX9_shift_42 (by decide) ?_
          refine lv_topi (fun x66 ex66 => ?_)
          have t67 := divC (n := 2) ex66 (by decide) (by have f0 := t65; have f1 := b24; have f2 := k29; have f3 := t31; have f4 := k63; have g0 := rg32 x64; have z1 : (1 : Int32).toInt = 1 := (by decide); have z24 : (24 : Int32).toInt = 24 := (by decide); omega)
          refine lv_goto (tgt := 50) hx hb dX9_shift_43 (by decide) ?_
          exact nj32 (σ21, lf [x66], lg []) ⟨rfl, (show DK0 (σ21 9) from b25), (show HK (σ21 9) from b26), trivial⟩ _ _ _ hP hS (lv_sub hl [0, 1, 2, 3] rfl)
  ·
    have k68 := peq32 c10
    refine lv_bipush (v := (-2)) hx hb dX9_shift_14 (by decide) ?_
    exact W.iret (v := (-2)) hx hb hr (fun tS ht hW => ⟨⟨(-2), σ1, rfl, ⟨Fr.tr (Fr.rf) (sI_f eσ1) (fN_L rfl), hJ2, trivial⟩, (show va_P D clz (WD9 cy g σ1) tS.heap by rw [ht]; exact hP)⟩, hS.F ht⟩) hS.2.2 dX9_shift_16

theorem q1963 : Cond.code yX9_chokes cX9_chokes 6 (some .int) ∈ lw_g := lw_gm (List.mem_of_getElem? (i := 1963) (by decide +kernel)) rfl
theorem dX9_chokes_0 : decode cX9_chokes 0 = .ok (.iconst 0, 1) := by decide +kernel
theorem dX9_chokes_1 : decode cX9_chokes 1 = .ok (.istore 4, 2) := by decide +kernel
theorem dX9_chokes_3 : decode cX9_chokes 3 = .ok (.iconst 0, 1) := by decide +kernel
theorem dX9_chokes_4 : decode cX9_chokes 4 = .ok (.istore 5, 2) := by decide +kernel
theorem dX9_chokes_6 : decode cX9_chokes 6 = .ok (.iload 5, 2) := by decide +kernel
theorem dX9_chokes_8 : decode cX9_chokes 8 = .ok (.aload_n 0, 1) := by decide +kernel
theorem dX9_chokes_9 : decode cX9_chokes 9 = .ok (.getfield 43, 3) := by decide +kernel
theorem dX9_chokes_12 : decode cX9_chokes 12 = .ok (.iload_n 2, 1) := by decide +kernel
theorem dX9_chokes_13 : decode cX9_chokes 13 = .ok (.iaload, 1) := by decide +kernel
theorem dX9_chokes_14 : decode cX9_chokes 14 = .ok (.if_icmp .ge 69, 3) := by decide +kernel
theorem dX9_chokes_17 : decode cX9_chokes 17 = .ok (.aload_n 0, 1) := by decide +kernel
theorem dX9_chokes_18 : decode cX9_chokes 18 = .ok (.iload_n 2, 1) := by decide +kernel
theorem dX9_chokes_19 : decode cX9_chokes 19 = .ok (.iload 5, 2) := by decide +kernel
theorem dX9_chokes_21 : decode cX9_chokes 21 = .ok (.invokevirtual 390, 3) := by decide +kernel
theorem dX9_chokes_24 : decode cX9_chokes 24 = .ok (.ifCond .eq 9, 3) := by decide +kernel
theorem dX9_chokes_27 : decode cX9_chokes 27 = .ok (.iconst 0, 1) := by decide +kernel
theorem dX9_chokes_28 : decode cX9_chokes 28 = .ok (.istore 4, 2) := by decide +kernel
theorem dX9_chokes_30 : decode cX9_chokes 30 = .ok (.goto 47, 3) := by decide +kernel
theorem dX9_chokes_33 : decode cX9_chokes 33 = .ok (.iload 4, 2) := by decide +kernel
theorem dX9_chokes_35 : decode cX9_chokes 35 = .ok (.aload_n 0, 1) := by decide +kernel
theorem dX9_chokes_36 : decode cX9_chokes 36 = .ok (.iload_n 2, 1) := by decide +kernel
theorem dX9_chokes_37 : decode cX9_chokes 37 = .ok (.iload 5, 2) := by decide +kernel
theorem dX9_chokes_39 : decode cX9_chokes 39 = .ok (.iconst 1, 1) := by decide +kernel
theorem dX9_chokes_40 : decode cX9_chokes 40 = .ok (.invokevirtual 308, 3) := by decide +kernel
theorem dX9_chokes_43 : decode cX9_chokes 43 = .ok (.iadd, 1) := by decide +kernel
theorem dX9_chokes_44 : decode cX9_chokes 44 = .ok (.istore 4, 2) := by decide +kernel
theorem dX9_chokes_46 : decode cX9_chokes 46 = .ok (.iload 4, 2) := by decide +kernel
theorem dX9_chokes_48 : decode cX9_chokes 48 = .ok (.aload_n 0, 1) := by decide +kernel
theorem dX9_chokes_49 : decode cX9_chokes 49 = .ok (.getfield 40, 3) := by decide +kernel
theorem dX9_chokes_52 : decode cX9_chokes 52 = .ok (.iconst 4, 1) := by decide +kernel
theorem dX9_chokes_53 : decode cX9_chokes 53 = .ok (.iload_n 1, 1) := by decide +kernel
theorem dX9_chokes_54 : decode cX9_chokes 54 = .ok (.imul, 1) := by decide +kernel
theorem dX9_chokes_55 : decode cX9_chokes 55 = .ok (.iconst 2, 1) := by decide +kernel
theorem dX9_chokes_56 : decode cX9_chokes 56 = .ok (.iadd, 1) := by decide +kernel
theorem dX9_chokes_57 : decode cX9_chokes 57 = .ok (.iaload, 1) := by decide +kernel
theorem dX9_chokes_58 : decode cX9_chokes 58 = .ok (.if_icmp .le 6, 3) := by decide +kernel
theorem dX9_chokes_61 : decode cX9_chokes 61 = .ok (.iload 5, 2) := by decide +kernel
theorem dX9_chokes_63 : decode cX9_chokes 63 = .ok (.ireturn, 1) := by decide +kernel
theorem dX9_chokes_64 : decode cX9_chokes 64 = .ok (.iload_n 3, 1) := by decide +kernel
theorem dX9_chokes_65 : decode cX9_chokes 65 = .ok (.iload 5, 2) := by decide +kernel
theorem dX9_chokes_67 : decode cX9_chokes 67 = .ok (.ishr, 1) := by decide +kernel
theorem dX9_chokes_68 : decode cX9_chokes 68 = .ok (.iconst 1, 1) := by decide +kernel
theorem dX9_chokes_69 : decode cX9_chokes 69 = .ok (.iand, 1) := by decide +kernel
theorem dX9_chokes_70 : decode cX9_chokes 70 = .ok (.iconst 1, 1) := by decide +kernel
theorem dX9_chokes_71 : decode cX9_chokes 71 = .ok (.if_icmp .ne 6, 3) := by decide +kernel
theorem dX9_chokes_74 : decode cX9_chokes 74 = .ok (.iconst 0, 1) := by decide +kernel
theorem dX9_chokes_75 : decode cX9_chokes 75 = .ok (.istore 4, 2) := by decide +kernel
theorem dX9_chokes_77 : decode cX9_chokes 77 = .ok (.iinc 5 1, 3) := by decide +kernel
theorem dX9_chokes_80 : decode cX9_chokes 80 = .ok (.goto (-74), 3) := by decide +kernel
theorem dX9_chokes_83 : decode cX9_chokes 83 = .ok (.iconst (-1), 1) := by decide +kernel
theorem dX9_chokes_84 : decode cX9_chokes 84 = .ok (.ireturn, 1) := by decide +kernel
set_option maxHeartbeats 4000000 in
set_option maxRecDepth 100000 in
theorem m_X9_chokes (l : Launch) (D : va_G) (cy : Nat → ClassId) (g : Nat → Nat) (σ : ST) (p1 : Int32) (p2 : Int32) (p3 : Int32) (sz : Nat) (hJ : J9 (σ 9)) (h0 : (0 : Int) ≤ p1.toInt ∧ p1.toInt ≤ 8) (h1 : (0 : Int) ≤ p2.toInt ∧ p2.toInt ≤ 2) : Met l yX9_chokes (ww yX9_chokes cX9_chokes 6 (some .int)) ({ frames := 3, cells := 0, slots := 0, locals := 192 }) (va_Pc [.ref (g 60), .int p1, .int p2, .int p3] (pr9 D cy g σ sz)) (qi9 D cy g sz (fun r τ => τ = σ ∧ True)) 0 0 (A9 cy g sz) := by
  refine Met.ofW (cc := cX9_chokes) (maxL := 6) (ret := (some .int)) (by decide) rfl ?_
  intro p e s m args below meth c s₁ B hml hv
  obtain ⟨rfl, hsz, hP, hK, hD0, hC⟩ := hv
  have hx := B.exec
  have hb := B.bytes
  have hr := B.returns
  have hts := hts_g (atoms_spec (ws := ww yX9_chokes cX9_chokes 6 (some .int)) B.pre)
  have hown : s.vm.findClass RX9 = some m.cls := findClass_of_methodNamed B.named
  have hlocks := B.notSynchronized
  clear B
  subst hsz
  have hD := fun τ => A9_D (sz := s.heap.size) hD0 τ
  clear hD0
  have hS : va_S (A9 cy g s.heap.size) s.heap s.heap [] := va_S.rf
  have hl := lv_entry ([.ref (g 60), .int p1, .int p2, .int p3]) (n := 6) (Nat.le_of_ble_eq_true rfl)
  rw [lg_entry_eq]
  generalize (lg_sl ([.ref (g 60), .int p1, .int p2, .int p3]) ++ List.replicate (6 - (lg_sl ([.ref (g 60), .int p1, .int p2, .int p3])).length) Slot.unset).toArray = ls at hl ⊢
  have hl : lv_has ls 6 [(0, .ref (g 60)), (1, .int p1), (2, .int p2), (3, .int p3)] := hl
  refine lv_iconst (v := 0) hx hb dX9_chokes_0 (by decide) ?_
  refine lv_istore (lv' := [(4, .int 0), (0, .ref (g 60)), (1, .int p1), (2, .int p2), (3, .int p3)]) hx hb dX9_chokes_1 hl (by decide) rfl (fun ls hl => ?_)
  refine lv_iconst (v := 0) hx hb dX9_chokes_3 (by decide) ?_
  refine lv_istore (lv' := [(5, .int 0), (4, .int 0), (0, .ref (g 60)), (1, .int p1), (2, .int p2), (3, .int p3)]) hx hb dX9_chokes_4 hl (by decide) rfl (fun ls hl => ?_)
  refine loop9 6 6 (fun x : LZ => [(5, .int (x.2.1 0)), (4, .int (x.2.1 1)), (0, .ref (g 60)), (1, .int p1), (2, .int p2), (3, .int p3)]) (fun x : LZ => (x.1 = σ) ∧ ((0 : Int) ≤ (x.2.1 0).toInt ∧ (x.2.1 0).toInt ≤ 16) ∧ ((-2147483648 : Int) ≤ (x.2.1 1).toInt ∧ (x.2.1 1).toInt ≤ 999) ∧ True) (fun x : LZ => ((17 : Int) - (x.2.1 0).toInt).toNat) ?_ (σ, lf [0, 0], lg []) ⟨rfl, (show (0 : Int) ≤ (0 : Int32).toInt ∧ (0 : Int32).toInt ≤ 16 from (by have z0 : (0 : Int32).toInt = 0 := (by decide); omega)), (show (-2147483648 : Int) ≤ (0 : Int32).toInt ∧ (0 : Int32).toInt ≤ 999 from (by have z0 : (0 : Int32).toInt = 0 := (by decide); omega)), trivial⟩ _ _ _ hP hS (lv_sub hl [0, 1, 2, 3, 4, 5] rfl)
  intro y3 hI2 nl1 H locs ls hP hS hl
  rw [show y3.1 = σ from hI2.1] at hP
  have b4 : (0 : Int) ≤ (y3.2.1 0).toInt ∧ (y3.2.1 0).toInt ≤ 16 := hI2.2.1
  have b5 : (-2147483648 : Int) ≤ (y3.2.1 1).toInt ∧ (y3.2.1 1).toInt ≤ 999 := hI2.2.2.1
  have hl : lv_has ls 6 [(5, .int (y3.2.1 0)), (4, .int (y3.2.1 1)), (0, .ref (g 60)), (1, .int p1), (2, .int p2), (3, .int p3)] := hl
  refine lv_iload hx hb dX9_chokes_6 (lv_at hl 0 rfl) ?_
  refine lv_aload_n hx hb dX9_chokes_8 rfl (lv_at hl 2 rfl) ?_
  refine g9_20 hx hb hts hown hK hP (hts _ q1380) dX9_chokes_9 ?_
  refine lv_iload_n hx hb dX9_chokes_12 rfl (lv_at hl 4 rfl) ?_
  obtain ⟨x6, ex6⟩ : ∃ z, (σ 9).2.2.1 20 p2.toInt.toNat = z := ⟨_, rfl⟩
  refine l9_20 (x := x6) hx hb hK hP (vpo (by have f0 := h1; have g0 := rg32 p2; omega)) ex6 dX9_chokes_13 ?_
  have t7 := a9_20 hJ ex6
  refine lv_icmp_ge (tgt := 83) hx hb dX9_chokes_14 (by decide) (fun c8 => ?_) (fun c8 => ?_)
  ·
    have k9 := ple32 c8
    refine lv_iconst (v := (-1)) hx hb dX9_chokes_83 (by decide) ?_
    exact W.iret (v := (-1)) hx hb hr (fun tS ht hW => ⟨⟨(-1), σ, rfl, ⟨rfl, trivial⟩, (show va_P D clz (WD9 cy g σ) tS.heap by rw [ht]; exact hP)⟩, hS.F ht⟩) hS.2.2 dX9_chokes_84
  ·
    have k10 := nle32 c8
    refine lv_aload_n hx hb dX9_chokes_17 rfl (lv_at hl 2 rfl) ?_
    refine lv_iload_n hx hb dX9_chokes_18 rfl (lv_at hl 4 rfl) ?_
    refine lv_iload hx hb dX9_chokes_19 (lv_at hl 0 rfl) ?_
    refine va_calli (va_runV (As := [.int p2, .int (y3.2.1 0)]) (rest := []) ⟨hx, hb, hml, hown, hts⟩ (m_X9_isRest l D cy g σ p2 (y3.2.1 0) _ hJ (show (0 : Int) ≤ p2.toInt ∧ p2.toInt ≤ 2 from (by have f0 := h1; have f1 := t7; have f2 := k10; have f3 := b4; have g0 := rg32 p2; omega)) (show (0 : Int) ≤ (y3.2.1 0).toInt ∧ (y3.2.1 0).toInt ≤ 15 from (by have f0 := h1; have f1 := b4; have f2 := t7; have f3 := k10; have g0 := rg32 (y3.2.1 0); have g1 := rg32 p2; omega))) (cwV 2 hts (gd_V q1838 q1840 q91 q134 q1841) rfl rfl rfl (by decide +kernel) ⟨Nat.le_of_ble_eq_true rfl, Nat.le_of_ble_eq_true rfl⟩) (pv9 hP hK hD hC hS (va_recv hK hP (ci := 9) (q0 := 0) rfl rfl)) rfl rfl hl.1 rfl (lv_room (Nat.le_of_ble_eq_true rfl)) dX9_chokes_21 ⟨Nat.le_of_ble_eq_true rfl, Nat.le_of_ble_eq_true rfl⟩) hS (fun q _ h => up9 hS q h) (up9 hS) (fun r11 σ12 tS H1 locs ht hvm hw13 hB hz1 hk1 hS => ?_)
    have hP : va_P D clz (WD9 cy g σ12) H1 := by rw [← ht]; exact hB
    clear hB hz1 hk1 hvm ht
    generalize H1 = H at hP hS ⊢
    have hw13E : σ = σ12 := (hw13.1).symm
    subst hw13E
    have b14 : (0 : Int) ≤ r11.toInt ∧ r11.toInt ≤ 1 := hw13.2.1
    refine cut9 (D := D) (cy := cy) (g := g) (A := A9 cy g s.heap.size) (H0 := s.heap) 6 77 (fun x : LZ => [(5, .int (y3.2.1 0)), (4, .int (x.2.1 0)), (0, .ref (g 60)), (1, .int p1), (2, .int p2), (3, .int p3)]) (fun x : LZ => []) (fun x : LZ => (x.1 = σ) ∧ ((-2147483648 : Int) ≤ (x.2.1 0).toInt ∧ (x.2.1 0).toInt ≤ 999) ∧ True) ?_ ?_
    ·
      intro y17 hI16 H locs ls hP hS hl
      rw [show y17.1 = σ from hI16.1] at hP
      have b18 : (-2147483648 : Int) ≤ (y17.2.1 0).toInt ∧ (y17.2.1 0).toInt ≤ 999 := hI16.2.1
      have hl : lv_has ls 6 [(5, .int (y3.2.1 0)), (4, .int (y17.2.1 0)), (0, .ref (g 60)), (1, .int p1), (2, .int p2), (3, .int p3)] := hl
      obtain ⟨x19, ex19⟩ : ∃ y : Int32, y = (y3.2.1 0) + 1 := ⟨_, rfl⟩
      have t20 := addO ex19 (by have f0 := b4; have f1 := k10; have f2 := t7; have f3 := h1; have g0 := rg32 (y3.2.1 0); have z1 : (1 : Int32).toInt = 1 := (by decide); omega)
      refine lv_iinc (v := x19) (lv' := [(5, .int x19), (4, .int (y17.2.1 0)), (0, .ref (g 60)), (1, .int p1), (2, .int p2), (3, .int p3)]) hx hb dX9_chokes_77 hl (k := 0) rfl (by rw [ex19]; rfl) (by decide) rfl (fun ls hl => ?_)
      refine lv_goto (tgt := 6) hx hb dX9_chokes_80 (by decide) ?_
      have t21 : ((17 : Int) - x19.toInt).toNat < ((17 : Int) - (y3.2.1 0).toInt).toNat := (by have f0 := b4; have f1 := k10; have f2 := t20; have f3 := t7; have f4 := h1; have g0 := rg32 (y3.2.1 0); have g1 := rg32 x19; have z1 : (1 : Int32).toInt = 1 := (by decide); omega)
      exact nl1 (σ, lf [x19, (y17.2.1 0)], lg []) ⟨rfl, (show (0 : Int) ≤ (x19 : Int32).toInt ∧ (x19 : Int32).toInt ≤ 16 from (by have f0 := t20; have f1 := b4; have f2 := k10; have f3 := t7; have f4 := h1; have g0 := rg32 x19; have z1 : (1 : Int32).toInt = 1 := (by decide); omega)), (show (-2147483648 : Int) ≤ ((y17.2.1 0) : Int32).toInt ∧ ((y17.2.1 0) : Int32).toInt ≤ 999 from (by have f0 := b18; have g0 := rg32 (y17.2.1 0); omega)), trivial⟩ (show ((17 : Int) - x19.toInt).toNat < _ from t21) _ _ _ hP hS (lv_sub hl [0, 1, 2, 3, 4, 5] rfl)
    ·
      intro nj15
      refine lv_if_eq (tgt := 33) hx hb dX9_chokes_24 (by decide) (fun c22 => ?_) (fun c22 => ?_)
      ·
        have k23 := peq32 c22
        refine lv_iload hx hb dX9_chokes_33 (lv_at hl 1 rfl) ?_
        refine lv_aload_n hx hb dX9_chokes_35 rfl (lv_at hl 2 rfl) ?_
        refine lv_iload_n hx hb dX9_chokes_36 rfl (lv_at hl 4 rfl) ?_
        refine lv_iload hx hb dX9_chokes_37 (lv_at hl 0 rfl) ?_
        refine lv_iconst (v := 1) hx hb dX9_chokes_39 (by decide) ?_
        refine va_calli (va_runV (As := [.int p2, .int (y3.2.1 0), .int 1]) (rest := [.int (y3.2.1 1)]) ⟨hx, hb, hml, hown, hts⟩ (m_X9_toneOf l D cy g σ p2 (y3.2.1 0) (1) _ hJ (show (0 : Int) ≤ p2.toInt ∧ p2.toInt ≤ 2 from (by have f0 := h1; have f1 := t7; have f2 := k10; have f3 := b4; have g0 := rg32 p2; omega)) (show (0 : Int) ≤ (y3.2.1 0).toInt ∧ (y3.2.1 0).toInt ≤ 15 from (by have f0 := h1; have f1 := b4; have f2 := t7; have f3 := k10; have g0 := rg32 (y3.2.1 0); have g1 := rg32 p2; omega)) (show (0 : Int) ≤ (1 : Int32).toInt ∧ (1 : Int32).toInt ≤ 3 from (by have f0 := h1; have f1 := b4; have f2 := t7; have f3 := k10; have g0 := rg32 (y3.2.1 0); have g1 := rg32 p2; have z1 : (1 : Int32).toInt = 1 := (by decide); omega))) (cwV 3 hts (gd_V q1727 q1729 q75 q134 q1730) rfl rfl rfl (by decide +kernel) ⟨Nat.le_of_ble_eq_true rfl, Nat.le_of_ble_eq_true rfl⟩) (pv9 hP hK hD hC hS (va_recv hK hP (ci := 9) (q0 := 0) rfl rfl)) rfl rfl hl.1 rfl (lv_room (Nat.le_of_ble_eq_true rfl)) dX9_chokes_40 ⟨Nat.le_of_ble_eq_true rfl, Nat.le_of_ble_eq_true rfl⟩) hS (fun q _ h => up9 hS q h) (up9 hS) (fun r24 σ25 tS H1 locs ht hvm hw26 hB hz1 hk1 hS => ?_)
        have hP : va_P D clz (WD9 cy g σ25) H1 := by rw [← ht]; exact hB
        clear hB hz1 hk1 hvm ht
        generalize H1 = H at hP hS ⊢
        have hw26E : σ = σ25 := (hw26.1).symm
        subst hw26E
        have b27 : (-1 : Int) ≤ r24.toInt ∧ r24.toInt ≤ 60 := hw26.2.1
        have b28 : ¬ (1 : Int32).toInt = 1 ∨ 0 ≤ r24.toInt := hw26.2.2.1
        refine lv_iadd hx hb dX9_chokes_43 ?_
        refine lv_topi (fun x29 ex29 => ?_)
        refine lv_istore (lv' := [(4, .int x29), (5, .int (y3.2.1 0)), (0, .ref (g 60)), (1, .int p1), (2, .int p2), (3, .int p3)]) hx hb dX9_chokes_44 hl (by decide) rfl (fun ls hl => ?_)
        refine lv_iload hx hb dX9_chokes_46 (lv_at hl 0 rfl) ?_
        refine lv_aload_n hx hb dX9_chokes_48 rfl (lv_at hl 2 rfl) ?_
        refine g9_19 hx hb hts hown hK hP (hts _ q1379) dX9_chokes_49 ?_
        refine lv_iconst (v := 4) hx hb dX9_chokes_52 (by decide) ?_
        refine lv_iload_n hx hb dX9_chokes_53 rfl (lv_at hl 3 rfl) ?_
        refine lv_imul hx hb dX9_chokes_54 ?_
        refine lv_topi (fun x30 ex30 => ?_)
        have t31 := mulC' (n := 4) ex30 (by decide) (by have f0 := h0; have g0 := rg32 p1; omega)
        refine lv_iconst (v := 2) hx hb dX9_chokes_55 (by decide) ?_
        refine lv_iadd hx hb dX9_chokes_56 ?_
        refine lv_topi (fun x32 ex32 => ?_)
        have t33 := addO ex32 (by have f0 := t31; have f1 := h0; have g0 := rg32 x30; have z2 : (2 : Int32).toInt = 2 := (by decide); omega)
        obtain ⟨x34, ex34⟩ : ∃ z, (σ 9).2.2.1 19 x32.toInt.toNat = z := ⟨_, rfl⟩
        refine l9_19 (x := x34) hx hb hK hP (vpo (by have f0 := t33; have f1 := t31; have f2 := h0; have g0 := rg32 x32; have z2 : (2 : Int32).toInt = 2 := (by decide); omega)) ex34 dX9_chokes_57 ?_
        have t35 := a9_19 hJ ex34
        refine lv_icmp_le (tgt := 64) hx hb dX9_chokes_58 (by decide) (fun c36 => ?_) (fun c36 => ?_)
        ·
          have k37 := ple32 c36
          refine lv_iload_n hx hb dX9_chokes_64 rfl (lv_at hl 5 rfl) ?_
          refine lv_iload hx hb dX9_chokes_65 (lv_at hl 1 rfl) ?_
          refine lv_ishr hx hb dX9_chokes_67 ?_
          refine lv_topi (fun x38 ex38 => ?_)
          refine lv_iconst (v := 1) hx hb dX9_chokes_68 (by decide) ?_
          refine lv_iand hx hb dX9_chokes_69 ?_
          refine lv_topi (fun x39 ex39 => ?_)
          have t40 := andM 1 ex39 (by decide) (by decide)
          refine lv_iconst (v := 1) hx hb dX9_chokes_70 (by decide) ?_
          refine lv_icmp_ne (tgt := 77) hx hb dX9_chokes_71 (by decide) (fun c41 => ?_) (fun c41 => ?_)
          ·
            have k42 := neq32 c41
            exact nj15 (σ, lf [x29], lg []) ⟨rfl, (show (-2147483648 : Int) ≤ (x29 : Int32).toInt ∧ (x29 : Int32).toInt ≤ 999 from (by have f0 := k37; have f1 := t35; have f2 := t33; have f3 := t31; have f4 := h0; have g0 := rg32 x29; have z2 : (2 : Int32).toInt = 2 := (by decide); omega)), trivial⟩ _ _ _ hP hS (lv_sub hl [1, 0, 2, 3, 4, 5] rfl)
          ·
            have k43 := peq32 c41
            refine lv_iconst (v := 0) hx hb dX9_chokes_74 (by decide) ?_
            refine lv_istore (lv' := [(4, .int 0), (5, .int (y3.2.1 0)), (0, .ref (g 60)), (1, .int p1), (2, .int p2), (3, .int p3)]) hx hb dX9_chokes_75 hl (by decide) rfl (fun ls hl => ?_)
            exact nj15 (σ, lf [0], lg []) ⟨rfl, (show (-2147483648 : Int) ≤ (0 : Int32).toInt ∧ (0 : Int32).toInt ≤ 999 from (by have z0 : (0 : Int32).toInt = 0 := (by decide); omega)), trivial⟩ _ _ _ hP hS (lv_sub hl [1, 0, 2, 3, 4, 5] rfl)
        ·
          have k44 := nle32 c36
          refine lv_iload hx hb dX9_chokes_61 (lv_at hl 1 rfl) ?_
          exact W.iret (v := (y3.2.1 0)) hx hb hr (fun tS ht hW => ⟨⟨(y3.2.1 0), σ, rfl, ⟨rfl, trivial⟩, (show va_P D clz (WD9 cy g σ) tS.heap by rw [ht]; exact hP)⟩, hS.F ht⟩) hS.2.2 dX9_chokes_63
      ·
        have k45 := neq32 c22
        refine lv_iconst (v := 0) hx hb dX9_chokes_27 (by decide) ?_
        refine lv_istore (lv' := [(4, .int 0), (5, .int (y3.2.1 0)), (0, .ref (g 60)), (1, .int p1), (2, .int p2), (3, .int p3)]) hx hb dX9_chokes_28 hl (by decide) rfl (fun ls hl => ?_)
        refine lv_goto (tgt := 77) hx hb dX9_chokes_30 (by decide) ?_
        exact nj15 (σ, lf [0], lg []) ⟨rfl, (show (-2147483648 : Int) ≤ (0 : Int32).toInt ∧ (0 : Int32).toInt ≤ 999 from (by have z0 : (0 : Int32).toInt = 0 := (by decide); omega)), trivial⟩ _ _ _ hP hS (lv_sub hl [1, 0, 2, 3, 4, 5] rfl)

theorem q1955 : Cond.code yX9_marksOf cX9_marksOf 4 (some .int) ∈ lw_g := lw_gm (List.mem_of_getElem? (i := 1955) (by decide +kernel)) rfl
theorem dX9_marksOf_0 : decode cX9_marksOf 0 = .ok (.iconst 0, 1) := by decide +kernel
theorem dX9_marksOf_1 : decode cX9_marksOf 1 = .ok (.istore_n 2, 1) := by decide +kernel
theorem dX9_marksOf_2 : decode cX9_marksOf 2 = .ok (.iconst 0, 1) := by decide +kernel
theorem dX9_marksOf_3 : decode cX9_marksOf 3 = .ok (.istore_n 3, 1) := by decide +kernel
theorem dX9_marksOf_4 : decode cX9_marksOf 4 = .ok (.iload_n 3, 1) := by decide +kernel
theorem dX9_marksOf_5 : decode cX9_marksOf 5 = .ok (.aload_n 0, 1) := by decide +kernel
theorem dX9_marksOf_6 : decode cX9_marksOf 6 = .ok (.getfield 43, 3) := by decide +kernel
theorem dX9_marksOf_9 : decode cX9_marksOf 9 = .ok (.iload_n 1, 1) := by decide +kernel
theorem dX9_marksOf_10 : decode cX9_marksOf 10 = .ok (.iaload, 1) := by decide +kernel
theorem dX9_marksOf_11 : decode cX9_marksOf 11 = .ok (.if_icmp .ge 30, 3) := by decide +kernel
theorem dX9_marksOf_14 : decode cX9_marksOf 14 = .ok (.iload_n 2, 1) := by decide +kernel
theorem dX9_marksOf_15 : decode cX9_marksOf 15 = .ok (.aload_n 0, 1) := by decide +kernel
theorem dX9_marksOf_16 : decode cX9_marksOf 16 = .ok (.iload_n 1, 1) := by decide +kernel
theorem dX9_marksOf_17 : decode cX9_marksOf 17 = .ok (.iload_n 3, 1) := by decide +kernel
theorem dX9_marksOf_18 : decode cX9_marksOf 18 = .ok (.iconst 3, 1) := by decide +kernel
theorem dX9_marksOf_19 : decode cX9_marksOf 19 = .ok (.invokevirtual 308, 3) := by decide +kernel
theorem dX9_marksOf_22 : decode cX9_marksOf 22 = .ok (.iconst 1, 1) := by decide +kernel
theorem dX9_marksOf_23 : decode cX9_marksOf 23 = .ok (.if_icmp .ne 9, 3) := by decide +kernel
theorem dX9_marksOf_26 : decode cX9_marksOf 26 = .ok (.iconst 1, 1) := by decide +kernel
theorem dX9_marksOf_27 : decode cX9_marksOf 27 = .ok (.iload_n 3, 1) := by decide +kernel
theorem dX9_marksOf_28 : decode cX9_marksOf 28 = .ok (.ishl, 1) := by decide +kernel
theorem dX9_marksOf_29 : decode cX9_marksOf 29 = .ok (.goto 4, 3) := by decide +kernel
theorem dX9_marksOf_32 : decode cX9_marksOf 32 = .ok (.iconst 0, 1) := by decide +kernel
theorem dX9_marksOf_33 : decode cX9_marksOf 33 = .ok (.ior, 1) := by decide +kernel
theorem dX9_marksOf_34 : decode cX9_marksOf 34 = .ok (.istore_n 2, 1) := by decide +kernel
theorem dX9_marksOf_35 : decode cX9_marksOf 35 = .ok (.iinc 3 1, 3) := by decide +kernel
theorem dX9_marksOf_38 : decode cX9_marksOf 38 = .ok (.goto (-34), 3) := by decide +kernel
theorem dX9_marksOf_41 : decode cX9_marksOf 41 = .ok (.iload_n 2, 1) := by decide +kernel
theorem dX9_marksOf_42 : decode cX9_marksOf 42 = .ok (.ireturn, 1) := by decide +kernel
set_option maxHeartbeats 4000000 in
set_option maxRecDepth 100000 in
theorem m_X9_marksOf (l : Launch) (D : va_G) (cy : Nat → ClassId) (g : Nat → Nat) (σ : ST) (p1 : Int32) (sz : Nat) (hJ : J9 (σ 9)) (h0 : (0 : Int) ≤ p1.toInt ∧ p1.toInt ≤ 2) : Met l yX9_marksOf (ww yX9_marksOf cX9_marksOf 4 (some .int)) ({ frames := 2, cells := 0, slots := 0, locals := 128 }) (va_Pc [.ref (g 60), .int p1] (pr9 D cy g σ sz)) (qi9 D cy g sz (fun r τ => τ = σ ∧ True)) 0 0 (A9 cy g sz) := by
  refine Met.ofW (cc := cX9_marksOf) (maxL := 4) (ret := (some .int)) (by decide) rfl ?_
  intro p e s m args below meth c s₁ B hml hv
  obtain ⟨rfl, hsz, hP, hK, hD0, hC⟩ := hv
  have hx := B.exec
  have hb := B.bytes
  have hr := B.returns
  have hts := hts_g (atoms_spec (ws := ww yX9_marksOf cX9_marksOf 4 (some .int)) B.pre)
  have hown : s.vm.findClass RX9 = some m.cls := findClass_of_methodNamed B.named
  have hlocks := B.notSynchronized
  clear B
  subst hsz
  have hD := fun τ => A9_D (sz := s.heap.size) hD0 τ
  clear hD0
  have hS : va_S (A9 cy g s.heap.size) s.heap s.heap [] := va_S.rf
  have hl := lv_entry ([.ref (g 60), .int p1]) (n := 4) (Nat.le_of_ble_eq_true rfl)
  rw [lg_entry_eq]
  generalize (lg_sl ([.ref (g 60), .int p1]) ++ List.replicate (4 - (lg_sl ([.ref (g 60), .int p1])).length) Slot.unset).toArray = ls at hl ⊢
  have hl : lv_has ls 4 [(0, .ref (g 60)), (1, .int p1)] := hl
  refine lv_iconst (v := 0) hx hb dX9_marksOf_0 (by decide) ?_
  refine lv_istore_n (lv' := [(2, .int 0), (0, .ref (g 60)), (1, .int p1)]) hx hb dX9_marksOf_1 rfl hl (by decide) rfl (fun ls hl => ?_)
  refine lv_iconst (v := 0) hx hb dX9_marksOf_2 (by decide) ?_
  refine lv_istore_n (lv' := [(3, .int 0), (2, .int 0), (0, .ref (g 60)), (1, .int p1)]) hx hb dX9_marksOf_3 rfl hl (by decide) rfl (fun ls hl => ?_)
  refine loop9 4 4 (fun x : LZ => [(3, .int (x.2.1 0)), (2, .int (x.2.1 1)), (0, .ref (g 60)), (1, .int p1)]) (fun x : LZ => (x.1 = σ) ∧ ((0 : Int) ≤ (x.2.1 0).toInt ∧ (x.2.1 0).toInt ≤ 16) ∧ True) (fun x : LZ => ((17 : Int) - (x.2.1 0).toInt).toNat) ?_ (σ, lf [0, 0], lg []) ⟨rfl, (show (0 : Int) ≤ (0 : Int32).toInt ∧ (0 : Int32).toInt ≤ 16 from (by have z0 : (0 : Int32).toInt = 0 := (by decide); omega)), trivial⟩ _ _ _ hP hS (lv_sub hl [0, 1, 2, 3] rfl)
  intro y3 hI2 nl1 H locs ls hP hS hl
  rw [show y3.1 = σ from hI2.1] at hP
  have b4 : (0 : Int) ≤ (y3.2.1 0).toInt ∧ (y3.2.1 0).toInt ≤ 16 := hI2.2.1
  have hl : lv_has ls 4 [(3, .int (y3.2.1 0)), (2, .int (y3.2.1 1)), (0, .ref (g 60)), (1, .int p1)] := hl
  refine lv_iload_n hx hb dX9_marksOf_4 rfl (lv_at hl 0 rfl) ?_
  refine lv_aload_n hx hb dX9_marksOf_5 rfl (lv_at hl 2 rfl) ?_
  refine g9_20 hx hb hts hown hK hP (hts _ q1380) dX9_marksOf_6 ?_
  refine lv_iload_n hx hb dX9_marksOf_9 rfl (lv_at hl 3 rfl) ?_
  obtain ⟨x5, ex5⟩ : ∃ z, (σ 9).2.2.1 20 p1.toInt.toNat = z := ⟨_, rfl⟩
  refine l9_20 (x := x5) hx hb hK hP (vpo (by have f0 := h0; have g0 := rg32 p1; omega)) ex5 dX9_marksOf_10 ?_
  have t6 := a9_20 hJ ex5
  refine lv_icmp_ge (tgt := 41) hx hb dX9_marksOf_11 (by decide) (fun c7 => ?_) (fun c7 => ?_)
  ·
    have k8 := ple32 c7
    refine lv_iload_n hx hb dX9_marksOf_41 rfl (lv_at hl 1 rfl) ?_
    exact W.iret (v := (y3.2.1 1)) hx hb hr (fun tS ht hW => ⟨⟨(y3.2.1 1), σ, rfl, ⟨rfl, trivial⟩, (show va_P D clz (WD9 cy g σ) tS.heap by rw [ht]; exact hP)⟩, hS.F ht⟩) hS.2.2 dX9_marksOf_42
  ·
    have k9 := nle32 c7
    refine lv_iload_n hx hb dX9_marksOf_14 rfl (lv_at hl 1 rfl) ?_
    refine lv_aload_n hx hb dX9_marksOf_15 rfl (lv_at hl 2 rfl) ?_
    refine lv_iload_n hx hb dX9_marksOf_16 rfl (lv_at hl 3 rfl) ?_
    refine lv_iload_n hx hb dX9_marksOf_17 rfl (lv_at hl 0 rfl) ?_
    refine lv_iconst (v := 3) hx hb dX9_marksOf_18 (by decide) ?_
    refine va_calli (va_runV (As := [.int p1, .int (y3.2.1 0), .int 3]) (rest := [.int (y3.2.1 1)]) ⟨hx, hb, hml, hown, hts⟩ (m_X9_toneOf l D cy g σ p1 (y3.2.1 0) (3) _ hJ (show (0 : Int) ≤ p1.toInt ∧ p1.toInt ≤ 2 from (by have f0 := h0; have f1 := t6; have f2 := k9; have f3 := b4; have g0 := rg32 p1; omega)) (show (0 : Int) ≤ (y3.2.1 0).toInt ∧ (y3.2.1 0).toInt ≤ 15 from (by have f0 := h0; have f1 := b4; have f2 := t6; have f3 := k9; have g0 := rg32 (y3.2.1 0); have g1 := rg32 p1; omega)) (show (0 : Int) ≤ (3 : Int32).toInt ∧ (3 : Int32).toInt ≤ 3 from (by have f0 := h0; have f1 := b4; have f2 := t6; have f3 := k9; have g0 := rg32 (y3.2.1 0); have g1 := rg32 p1; have z3 : (3 : Int32).toInt = 3 := (by decide); omega))) (cwV 3 hts (gd_V q1727 q1729 q75 q134 q1730) rfl rfl rfl (by decide +kernel) ⟨Nat.le_of_ble_eq_true rfl, Nat.le_of_ble_eq_true rfl⟩) (pv9 hP hK hD hC hS (va_recv hK hP (ci := 9) (q0 := 0) rfl rfl)) rfl rfl hl.1 rfl (lv_room (Nat.le_of_ble_eq_true rfl)) dX9_marksOf_19 ⟨Nat.le_of_ble_eq_true rfl, Nat.le_of_ble_eq_true rfl⟩) hS (fun q _ h => up9 hS q h) (up9 hS) (fun r10 σ11 tS H1 locs ht hvm hw12 hB hz1 hk1 hS => ?_)
    have hP : va_P D clz (WD9 cy g σ11) H1 := by rw [← ht]; exact hB
    clear hB hz1 hk1 hvm ht
    generalize H1 = H at hP hS ⊢
    have hw12E : σ = σ11 := (hw12.1).symm
    subst hw12E
    have b13 : (-1 : Int) ≤ r10.toInt ∧ r10.toInt ≤ 60 := hw12.2.1
    have b14 : ¬ (3 : Int32).toInt = 1 ∨ 0 ≤ r10.toInt := hw12.2.2.1
    refine lv_iconst (v := 1) hx hb dX9_marksOf_22 (by decide) ?_
    refine cut9 (D := D) (cy := cy) (g := g) (A := A9 cy g s.heap.size) (H0 := s.heap) 4 33 (fun x : LZ => [(3, .int (y3.2.1 0)), (2, .int (y3.2.1 1)), (0, .ref (g 60)), (1, .int p1)]) (fun x : LZ => [.int (x.2.1 0), .int (y3.2.1 1)]) (fun x : LZ => (x.1 = σ) ∧ True) ?_ ?_
    ·
      intro y17 hI16 H locs ls hP hS hl
      rw [show y17.1 = σ from hI16.1] at hP
      have hl : lv_has ls 4 [(3, .int (y3.2.1 0)), (2, .int (y3.2.1 1)), (0, .ref (g 60)), (1, .int p1)] := hl
      refine W.eq (g2 := F0 m 33 ls [.int (y17.2.1 0), .int (y3.2.1 1)]) rfl ?_
      refine lv_ior hx hb dX9_marksOf_33 ?_
      refine lv_topi (fun x18 ex18 => ?_)
      refine lv_istore_n (lv' := [(2, .int x18), (3, .int (y3.2.1 0)), (0, .ref (g 60)), (1, .int p1)]) hx hb dX9_marksOf_34 rfl hl (by decide) rfl (fun ls hl => ?_)
      obtain ⟨x19, ex19⟩ : ∃ y : Int32, y = (y3.2.1 0) + 1 := ⟨_, rfl⟩
      have t20 := addO ex19 (by have f0 := b4; have f1 := k9; have f2 := t6; have f3 := h0; have g0 := rg32 (y3.2.1 0); have z1 : (1 : Int32).toInt = 1 := (by decide); omega)
      refine lv_iinc (v := x19) (lv' := [(3, .int x19), (2, .int x18), (0, .ref (g 60)), (1, .int p1)]) hx hb dX9_marksOf_35 hl (k := 1) rfl (by rw [ex19]; rfl) (by decide) rfl (fun ls hl => ?_)
      refine lv_goto (tgt := 4) hx hb dX9_marksOf_38 (by decide) ?_
      have t21 : ((17 : Int) - x19.toInt).toNat < ((17 : Int) - (y3.2.1 0).toInt).toNat := (by have f0 := b4; have f1 := k9; have f2 := t20; have f3 := t6; have f4 := h0; have g0 := rg32 (y3.2.1 0); have g1 := rg32 x19; have z1 : (1 : Int32).toInt = 1 := (by decide); omega)
      exact nl1 (σ, lf [x19, x18], lg []) ⟨rfl, (show (0 : Int) ≤ (x19 : Int32).toInt ∧ (x19 : Int32).toInt ≤ 16 from (by have f0 := t20; have f1 := b4; have f2 := k9; have f3 := t6; have f4 := h0; have g0 := rg32 x19; have z1 : (1 : Int32).toInt = 1 := (by decide); omega)), trivial⟩ (show ((17 : Int) - x19.toInt).toNat < _ from t21) _ _ _ hP hS (lv_sub hl [0, 1, 2, 3] rfl)
    ·
      intro nj15
      refine lv_icmp_ne (tgt := 32) hx hb dX9_marksOf_23 (by decide) (fun c22 => ?_) (fun c22 => ?_)
      ·
        have k23 := neq32 c22
        refine lv_iconst (v := 0) hx hb dX9_marksOf_32 (by decide) ?_
        exact nj15 (σ, lf [0], lg []) ⟨rfl, trivial⟩ _ _ _ hP hS (lv_sub hl [0, 1, 2, 3] rfl)
      ·
        have k24 := peq32 c22
        refine lv_iconst (v := 1) hx hb dX9_marksOf_26 (by decide) ?_
        refine lv_iload_n hx hb dX9_marksOf_27 rfl (lv_at hl 0 rfl) ?_
        refine lv_ishl hx hb dX9_marksOf_28 ?_
        refine lv_topi (fun x25 ex25 => ?_)
        refine lv_goto (tgt := 33) hx hb dX9_marksOf_29 (by decide) ?_
        exact nj15 (σ, lf [x25], lg []) ⟨rfl, trivial⟩ _ _ _ hP hS (lv_sub hl [0, 1, 2, 3] rfl)

theorem q1951 : Cond.code yX9_marksBest cX9_marksBest 6 (some .int) ∈ lw_g := lw_gm (List.mem_of_getElem? (i := 1951) (by decide +kernel)) rfl
theorem q1952 : Cond.methodLink RX9 460 yX9_marksOf ∈ lw_g := lw_gm (List.mem_of_getElem? (i := 1952) (by decide +kernel)) rfl
theorem q1954 : Cond.instanceMethod yX9_marksOf ∈ lw_g := lw_gm (List.mem_of_getElem? (i := 1954) (by decide +kernel)) rfl
theorem q107 : Cond.selects RX9 yX9_marksOf yX9_marksOf ∈ lw_g := lw_gm (List.mem_of_getElem? (i := 107) (by decide +kernel)) rfl
theorem q1956 : Cond.constant RX9 463 (65536) ∈ lw_g := lw_gm (List.mem_of_getElem? (i := 1956) (by decide +kernel)) rfl
theorem q1960 : Cond.methodLink RX9 467 yX9_chokes ∈ lw_g := lw_gm (List.mem_of_getElem? (i := 1960) (by decide +kernel)) rfl
theorem q1962 : Cond.instanceMethod yX9_chokes ∈ lw_g := lw_gm (List.mem_of_getElem? (i := 1962) (by decide +kernel)) rfl
theorem q108 : Cond.selects RX9 yX9_chokes yX9_chokes ∈ lw_g := lw_gm (List.mem_of_getElem? (i := 108) (by decide +kernel)) rfl
theorem q1957 : Cond.methodLink RX9 464 yX9_bits ∈ lw_g := lw_gm (List.mem_of_getElem? (i := 1957) (by decide +kernel)) rfl
theorem q1958 : Cond.static yX9_bits ∈ lw_g := lw_gm (List.mem_of_getElem? (i := 1958) (by decide +kernel)) rfl
theorem dX9_marksBest_0 : decode cX9_marksBest 0 = .ok (.aload_n 0, 1) := by decide +kernel
theorem dX9_marksBest_1 : decode cX9_marksBest 1 = .ok (.iload_n 2, 1) := by decide +kernel
theorem dX9_marksBest_2 : decode cX9_marksBest 2 = .ok (.invokevirtual 460, 3) := by decide +kernel
theorem dX9_marksBest_5 : decode cX9_marksBest 5 = .ok (.istore_n 3, 1) := by decide +kernel
theorem dX9_marksBest_6 : decode cX9_marksBest 6 = .ok (.iconst (-1), 1) := by decide +kernel
theorem dX9_marksBest_7 : decode cX9_marksBest 7 = .ok (.istore 4, 2) := by decide +kernel
theorem dX9_marksBest_9 : decode cX9_marksBest 9 = .ok (.iconst 0, 1) := by decide +kernel
theorem dX9_marksBest_10 : decode cX9_marksBest 10 = .ok (.istore 5, 2) := by decide +kernel
theorem dX9_marksBest_12 : decode cX9_marksBest 12 = .ok (.iload 5, 2) := by decide +kernel
theorem dX9_marksBest_14 : decode cX9_marksBest 14 = .ok (.ldc_w 463, 3) := by decide +kernel
theorem dX9_marksBest_17 : decode cX9_marksBest 17 = .ok (.if_icmp .ge 56, 3) := by decide +kernel
theorem dX9_marksBest_20 : decode cX9_marksBest 20 = .ok (.iload 5, 2) := by decide +kernel
theorem dX9_marksBest_22 : decode cX9_marksBest 22 = .ok (.iload_n 3, 1) := by decide +kernel
theorem dX9_marksBest_23 : decode cX9_marksBest 23 = .ok (.iconst (-1), 1) := by decide +kernel
theorem dX9_marksBest_24 : decode cX9_marksBest 24 = .ok (.ixor, 1) := by decide +kernel
theorem dX9_marksBest_25 : decode cX9_marksBest 25 = .ok (.iand, 1) := by decide +kernel
theorem dX9_marksBest_26 : decode cX9_marksBest 26 = .ok (.ifCond .ne 41, 3) := by decide +kernel
theorem dX9_marksBest_29 : decode cX9_marksBest 29 = .ok (.iload 4, 2) := by decide +kernel
theorem dX9_marksBest_31 : decode cX9_marksBest 31 = .ok (.iconst (-1), 1) := by decide +kernel
theorem dX9_marksBest_32 : decode cX9_marksBest 32 = .ok (.if_icmp .eq 19, 3) := by decide +kernel
theorem dX9_marksBest_35 : decode cX9_marksBest 35 = .ok (.iload 5, 2) := by decide +kernel
theorem dX9_marksBest_37 : decode cX9_marksBest 37 = .ok (.invokestatic 464, 3) := by decide +kernel
theorem dX9_marksBest_40 : decode cX9_marksBest 40 = .ok (.iload 4, 2) := by decide +kernel
theorem dX9_marksBest_42 : decode cX9_marksBest 42 = .ok (.invokestatic 464, 3) := by decide +kernel
theorem dX9_marksBest_45 : decode cX9_marksBest 45 = .ok (.if_icmp .lt 6, 3) := by decide +kernel
theorem dX9_marksBest_48 : decode cX9_marksBest 48 = .ok (.goto 19, 3) := by decide +kernel
theorem dX9_marksBest_51 : decode cX9_marksBest 51 = .ok (.aload_n 0, 1) := by decide +kernel
theorem dX9_marksBest_52 : decode cX9_marksBest 52 = .ok (.iload_n 1, 1) := by decide +kernel
theorem dX9_marksBest_53 : decode cX9_marksBest 53 = .ok (.iload_n 2, 1) := by decide +kernel
theorem dX9_marksBest_54 : decode cX9_marksBest 54 = .ok (.iload 5, 2) := by decide +kernel
theorem dX9_marksBest_56 : decode cX9_marksBest 56 = .ok (.invokevirtual 467, 3) := by decide +kernel
theorem dX9_marksBest_59 : decode cX9_marksBest 59 = .ok (.iconst (-1), 1) := by decide +kernel
theorem dX9_marksBest_60 : decode cX9_marksBest 60 = .ok (.if_icmp .ne 7, 3) := by decide +kernel
theorem dX9_marksBest_63 : decode cX9_marksBest 63 = .ok (.iload 5, 2) := by decide +kernel
theorem dX9_marksBest_65 : decode cX9_marksBest 65 = .ok (.istore 4, 2) := by decide +kernel
theorem dX9_marksBest_67 : decode cX9_marksBest 67 = .ok (.iinc 5 1, 3) := by decide +kernel
theorem dX9_marksBest_70 : decode cX9_marksBest 70 = .ok (.goto (-58), 3) := by decide +kernel
theorem dX9_marksBest_73 : decode cX9_marksBest 73 = .ok (.iload 4, 2) := by decide +kernel
theorem dX9_marksBest_75 : decode cX9_marksBest 75 = .ok (.ireturn, 1) := by decide +kernel
set_option maxHeartbeats 4000000 in
set_option maxRecDepth 100000 in
theorem m_X9_marksBest (l : Launch) (D : va_G) (cy : Nat → ClassId) (g : Nat → Nat) (σ : ST) (p1 : Int32) (p2 : Int32) (sz : Nat) (hJ : J9 (σ 9)) (h0 : (0 : Int) ≤ p1.toInt ∧ p1.toInt ≤ 8) (h1 : (0 : Int) ≤ p2.toInt ∧ p2.toInt ≤ 2) : Met l yX9_marksBest (ww yX9_marksBest cX9_marksBest 6 (some .int)) ({ frames := 4, cells := 0, slots := 0, locals := 256 }) (va_Pc [.ref (g 60), .int p1, .int p2] (pr9 D cy g σ sz)) (qi9 D cy g sz (fun r τ => τ = σ ∧ True)) 0 0 (A9 cy g sz) := by
  refine Met.ofW (cc := cX9_marksBest) (maxL := 6) (ret := (some .int)) (by decide) rfl ?_
  intro p e s m args below meth c s₁ B hml hv
  obtain ⟨rfl, hsz, hP, hK, hD0, hC⟩ := hv
  have hx := B.exec
  have hb := B.bytes
  have hr := B.returns
  have hts := hts_g (atoms_spec (ws := ww yX9_marksBest cX9_marksBest 6 (some .int)) B.pre)
  have hown : s.vm.findClass RX9 = some m.cls := findClass_of_methodNamed B.named
  have hlocks := B.notSynchronized
  clear B
  subst hsz
  have hD := fun τ => A9_D (sz := s.heap.size) hD0 τ
  clear hD0
  have hS : va_S (A9 cy g s.heap.size) s.heap s.heap [] := va_S.rf
  have hl := lv_entry ([.ref (g 60), .int p1, .int p2]) (n := 6) (Nat.le_of_ble_eq_true rfl)
  rw [lg_entry_eq]
  generalize (lg_sl ([.ref (g 60), .int p1, .int p2]) ++ List.replicate (6 - (lg_sl ([.ref (g 60), .int p1, .int p2])).length) Slot.unset).toArray = ls at hl ⊢
  have hl : lv_has ls 6 [(0, .ref (g 60)), (1, .int p1), (2, .int p2)] := hl
  refine lv_aload_n hx hb dX9_marksBest_0 rfl (lv_at hl 0 rfl) ?_
  refine lv_iload_n hx hb dX9_marksBest_1 rfl (lv_at hl 2 rfl) ?_
  refine va_calli (va_runV (As := [.int p2]) (rest := []) ⟨hx, hb, hml, hown, hts⟩ (m_X9_marksOf l D cy g σ p2 _ hJ (show (0 : Int) ≤ p2.toInt ∧ p2.toInt ≤ 2 from (by have f0 := h1; have g0 := rg32 p2; omega))) (cwV 1 hts (gd_V q1952 q1954 q107 q134 q1955) rfl rfl rfl (by decide +kernel) ⟨Nat.le_of_ble_eq_true rfl, Nat.le_of_ble_eq_true rfl⟩) (pv9 hP hK hD hC hS (va_recv hK hP (ci := 9) (q0 := 0) rfl rfl)) rfl rfl hl.1 rfl (lv_room (Nat.le_of_ble_eq_true rfl)) dX9_marksBest_2 ⟨Nat.le_of_ble_eq_true rfl, Nat.le_of_ble_eq_true rfl⟩) hS (fun q _ h => up9 hS q h) (up9 hS) (fun r1 σ2 tS H1 locs ht hvm hw3 hB hz1 hk1 hS => ?_)
  have hP : va_P D clz (WD9 cy g σ2) H1 := by rw [← ht]; exact hB
  clear hB hz1 hk1 hvm ht
  generalize H1 = H at hP hS ⊢
  have hw3E : σ = σ2 := (hw3.1).symm
  subst hw3E
  refine lv_istore_n (lv' := [(3, .int r1), (0, .ref (g 60)), (1, .int p1), (2, .int p2)]) hx hb dX9_marksBest_5 rfl hl (by decide) rfl (fun ls hl => ?_)
  refine lv_iconst (v := (-1)) hx hb dX9_marksBest_6 (by decide) ?_
  refine lv_istore (lv' := [(4, .int (-1)), (3, .int r1), (0, .ref (g 60)), (1, .int p1), (2, .int p2)]) hx hb dX9_marksBest_7 hl (by decide) rfl (fun ls hl => ?_)
  refine lv_iconst (v := 0) hx hb dX9_marksBest_9 (by decide) ?_
  refine lv_istore (lv' := [(5, .int 0), (4, .int (-1)), (3, .int r1), (0, .ref (g 60)), (1, .int p1), (2, .int p2)]) hx hb dX9_marksBest_10 hl (by decide) rfl (fun ls hl => ?_)
  refine loop9 6 12 (fun x : LZ => [(5, .int (x.2.1 0)), (4, .int (x.2.1 1)), (3, .int r1), (0, .ref (g 60)), (1, .int p1), (2, .int p2)]) (fun x : LZ => (x.1 = σ) ∧ ((0 : Int) ≤ (x.2.1 0).toInt ∧ (x.2.1 0).toInt ≤ 100000) ∧ ((-1 : Int) ≤ (x.2.1 1).toInt ∧ (x.2.1 1).toInt ≤ 100000) ∧ True) (fun x : LZ => ((100001 : Int) - (x.2.1 0).toInt).toNat) ?_ (σ, lf [0, (-1)], lg []) ⟨rfl, (show (0 : Int) ≤ (0 : Int32).toInt ∧ (0 : Int32).toInt ≤ 100000 from (by have z0 : (0 : Int32).toInt = 0 := (by decide); omega)), (show (-1 : Int) ≤ ((-1) : Int32).toInt ∧ ((-1) : Int32).toInt ≤ 100000 from (by have zm1 : ((-1) : Int32).toInt = (-1) := (by decide); omega)), trivial⟩ _ _ _ hP hS (lv_sub hl [0, 1, 2, 3, 4, 5] rfl)
  intro y6 hI5 nl4 H locs ls hP hS hl
  rw [show y6.1 = σ from hI5.1] at hP
  have b7 : (0 : Int) ≤ (y6.2.1 0).toInt ∧ (y6.2.1 0).toInt ≤ 100000 := hI5.2.1
  have b8 : (-1 : Int) ≤ (y6.2.1 1).toInt ∧ (y6.2.1 1).toInt ≤ 100000 := hI5.2.2.1
  have hl : lv_has ls 6 [(5, .int (y6.2.1 0)), (4, .int (y6.2.1 1)), (3, .int r1), (0, .ref (g 60)), (1, .int p1), (2, .int p2)] := hl
  refine lv_iload hx hb dX9_marksBest_12 (lv_at hl 0 rfl) ?_
  refine lv_ldcw (v := 65536) hx hb hown (hts _ q1956) dX9_marksBest_14 ?_
  refine lv_icmp_ge (tgt := 73) hx hb dX9_marksBest_17 (by decide) (fun c9 => ?_) (fun c9 => ?_)
  ·
    have k10 := ple32 c9
    refine lv_iload hx hb dX9_marksBest_73 (lv_at hl 1 rfl) ?_
    exact W.iret (v := (y6.2.1 1)) hx hb hr (fun tS ht hW => ⟨⟨(y6.2.1 1), σ, rfl, ⟨rfl, trivial⟩, (show va_P D clz (WD9 cy g σ) tS.heap by rw [ht]; exact hP)⟩, hS.F ht⟩) hS.2.2 dX9_marksBest_75
  ·
    have k11 := nle32 c9
    refine lv_iload hx hb dX9_marksBest_20 (lv_at hl 0 rfl) ?_
    refine lv_iload_n hx hb dX9_marksBest_22 rfl (lv_at hl 2 rfl) ?_
    refine lv_iconst (v := (-1)) hx hb dX9_marksBest_23 (by decide) ?_
    refine lv_ixor hx hb dX9_marksBest_24 ?_
    refine lv_topi (fun x12 ex12 => ?_)
    refine lv_iand hx hb dX9_marksBest_25 ?_
    refine lv_topi (fun x13 ex13 => ?_)
    refine cut9 (D := D) (cy := cy) (g := g) (A := A9 cy g s.heap.size) (H0 := s.heap) 6 67 (fun x : LZ => [(5, .int (y6.2.1 0)), (4, .int (x.2.1 0)), (3, .int r1), (0, .ref (g 60)), (1, .int p1), (2, .int p2)]) (fun x : LZ => []) (fun x : LZ => (x.1 = σ) ∧ ((-1 : Int) ≤ (x.2.1 0).toInt ∧ (x.2.1 0).toInt ≤ 100000) ∧ True) ?_ ?_
    ·
      intro y16 hI15 H locs ls hP hS hl
      rw [show y16.1 = σ from hI15.1] at hP
      have b17 : (-1 : Int) ≤ (y16.2.1 0).toInt ∧ (y16.2.1 0).toInt ≤ 100000 := hI15.2.1
      have hl : lv_has ls 6 [(5, .int (y6.2.1 0)), (4, .int (y16.2.1 0)), (3, .int r1), (0, .ref (g 60)), (1, .int p1), (2, .int p2)] := hl
      obtain ⟨x18, ex18⟩ : ∃ y : Int32, y = (y6.2.1 0) + 1 := ⟨_, rfl⟩
      have t19 := addO ex18 (by have f0 := b7; have f1 := k11; have g0 := rg32 (y6.2.1 0); have z1 : (1 : Int32).toInt = 1 := (by decide); have z65536 : (65536 : Int32).toInt = 65536 := (by decide); omega)
      refine lv_iinc (v := x18) (lv' := [(5, .int x18), (4, .int (y16.2.1 0)), (3, .int r1), (0, .ref (g 60)), (1, .int p1), (2, .int p2)]) hx hb dX9_marksBest_67 hl (k := 0) rfl (by rw [ex18]; rfl) (by decide) rfl (fun ls hl => ?_)
      refine lv_goto (tgt := 12) hx hb dX9_marksBest_70 (by decide) ?_
      have t20 : ((100001 : Int) - x18.toInt).toNat < ((100001 : Int) - (y6.2.1 0).toInt).toNat := (by have f0 := b7; have f1 := k11; have f2 := t19; have g0 := rg32 (y6.2.1 0); have g1 := rg32 x18; have z1 : (1 : Int32).toInt = 1 := (by decide); have z65536 : (65536 : Int32).toInt = 65536 := (by decide); omega)
      exact nl4 (σ, lf [x18, (y16.2.1 0)], lg []) ⟨rfl, (show (0 : Int) ≤ (x18 : Int32).toInt ∧ (x18 : Int32).toInt ≤ 100000 from (by have f0 := t19; have f1 := b7; have f2 := k11; have g0 := rg32 x18; have z1 : (1 : Int32).toInt = 1 := (by decide); have z65536 : (65536 : Int32).toInt = 65536 := (by decide); omega)), (show (-1 : Int) ≤ ((y16.2.1 0) : Int32).toInt ∧ ((y16.2.1 0) : Int32).toInt ≤ 100000 from (by have f0 := b17; have g0 := rg32 (y16.2.1 0); omega)), trivial⟩ (show ((100001 : Int) - x18.toInt).toNat < _ from t20) _ _ _ hP hS (lv_sub hl [0, 1, 2, 3, 4, 5] rfl)
    ·
      intro nj14
      refine lv_if_ne (tgt := 67) hx hb dX9_marksBest_26 (by decide) (fun c21 => ?_) (fun c21 => ?_)
      ·
        have k22 := neq32 c21
        exact nj14 (σ, lf [(y6.2.1 1)], lg []) ⟨rfl, (show (-1 : Int) ≤ ((y6.2.1 1) : Int32).toInt ∧ ((y6.2.1 1) : Int32).toInt ≤ 100000 from (by have f0 := b8; have g0 := rg32 (y6.2.1 1); omega)), trivial⟩ _ _ _ hP hS (lv_sub hl [0, 1, 2, 3, 4, 5] rfl)
      ·
        have k23 := peq32 c21
        refine lv_iload hx hb dX9_marksBest_29 (lv_at hl 1 rfl) ?_
        refine lv_iconst (v := (-1)) hx hb dX9_marksBest_31 (by decide) ?_
        refine cut9 (D := D) (cy := cy) (g := g) (A := A9 cy g s.heap.size) (H0 := s.heap) 6 51 (fun x : LZ => [(5, .int (y6.2.1 0)), (4, .int (y6.2.1 1)), (3, .int r1), (0, .ref (g 60)), (1, .int p1), (2, .int p2)]) (fun x : LZ => []) (fun x : LZ => (x.1 = σ) ∧ True) ?_ ?_
        ·
          intro y26 hI25 H locs ls hP hS hl
          rw [show y26.1 = σ from hI25.1] at hP
          have hl : lv_has ls 6 [(5, .int (y6.2.1 0)), (4, .int (y6.2.1 1)), (3, .int r1), (0, .ref (g 60)), (1, .int p1), (2, .int p2)] := hl
          refine lv_aload_n hx hb dX9_marksBest_51 rfl (lv_at hl 3 rfl) ?_
          refine lv_iload_n hx hb dX9_marksBest_52 rfl (lv_at hl 4 rfl) ?_
          refine lv_iload_n hx hb dX9_marksBest_53 rfl (lv_at hl 5 rfl) ?_
          refine lv_iload hx hb dX9_marksBest_54 (lv_at hl 0 rfl) ?_
          refine va_calli (va_runV (As := [.int p1, .int p2, .int (y6.2.1 0)]) (rest := []) ⟨hx, hb, hml, hown, hts⟩ (m_X9_chokes l D cy g σ p1 p2 (y6.2.1 0) _ hJ (show (0 : Int) ≤ p1.toInt ∧ p1.toInt ≤ 8 from (by have f0 := h0; have g0 := rg32 p1; omega)) (show (0 : Int) ≤ p2.toInt ∧ p2.toInt ≤ 2 from (by have f0 := h0; have f1 := h1; have g0 := rg32 p1; have g1 := rg32 p2; omega))) (cwV 3 hts (gd_V q1960 q1962 q108 q134 q1963) rfl rfl rfl (by decide +kernel) ⟨Nat.le_of_ble_eq_true rfl, Nat.le_of_ble_eq_true rfl⟩) (pv9 hP hK hD hC hS (va_recv hK hP (ci := 9) (q0 := 0) rfl rfl)) rfl rfl hl.1 rfl (lv_room (Nat.le_of_ble_eq_true rfl)) dX9_marksBest_56 ⟨Nat.le_of_ble_eq_true rfl, Nat.le_of_ble_eq_true rfl⟩) hS (fun q _ h => up9 hS q h) (up9 hS) (fun r27 σ28 tS H1 locs ht hvm hw29 hB hz1 hk1 hS => ?_)
          have hP : va_P D clz (WD9 cy g σ28) H1 := by rw [← ht]; exact hB
          clear hB hz1 hk1 hvm ht
          generalize H1 = H at hP hS ⊢
          have hw29E : σ = σ28 := (hw29.1).symm
          subst hw29E
          refine lv_iconst (v := (-1)) hx hb dX9_marksBest_59 (by decide) ?_
          refine lv_icmp_ne (tgt := 67) hx hb dX9_marksBest_60 (by decide) (fun c30 => ?_) (fun c30 => ?_)
          ·
            have k31 := neq32 c30
            exact nj14 (σ, lf [(y6.2.1 1)], lg []) ⟨rfl, (show (-1 : Int) ≤ ((y6.2.1 1) : Int32).toInt ∧ ((y6.2.1 1) : Int32).toInt ≤ 100000 from (by have f0 := b8; have g0 := rg32 (y6.2.1 1); omega)), trivial⟩ _ _ _ hP hS (lv_sub hl [0, 1, 2, 3, 4, 5] rfl)
          ·
            have k32 := peq32 c30
            refine lv_iload hx hb dX9_marksBest_63 (lv_at hl 0 rfl) ?_
            refine lv_istore (lv' := [(4, .int (y6.2.1 0)), (5, .int (y6.2.1 0)), (3, .int r1), (0, .ref (g 60)), (1, .int p1), (2, .int p2)]) hx hb dX9_marksBest_65 hl (by decide) rfl (fun ls hl => ?_)
            exact nj14 (σ, lf [(y6.2.1 0)], lg []) ⟨rfl, (show (-1 : Int) ≤ ((y6.2.1 0) : Int32).toInt ∧ ((y6.2.1 0) : Int32).toInt ≤ 100000 from (by have f0 := b7; have f1 := k11; have g0 := rg32 (y6.2.1 0); have z65536 : (65536 : Int32).toInt = 65536 := (by decide); omega)), trivial⟩ _ _ _ hP hS (lv_sub hl [1, 0, 2, 3, 4, 5] rfl)
        ·
          intro nj24
          refine lv_icmp_eq (tgt := 51) hx hb dX9_marksBest_32 (by decide) (fun c33 => ?_) (fun c33 => ?_)
          ·
            have k34 := peq32 c33
            exact nj24 (σ, lf [], lg []) ⟨rfl, trivial⟩ _ _ _ hP hS (lv_sub hl [0, 1, 2, 3, 4, 5] rfl)
          ·
            have k35 := neq32 c33
            refine lv_iload hx hb dX9_marksBest_35 (lv_at hl 0 rfl) ?_
            refine va_calli (va_runS (As := [.int (y6.2.1 0)]) (rest := []) ⟨hx, hb, hml, hown, hts⟩ (m_X9_bits l D cy g σ (y6.2.1 0) _ hJ ) (va_cwS 1 hts (gd_S q1957 q1958 q134 q1959) rfl rfl rfl (by decide +kernel) ⟨Nat.le_of_ble_eq_true rfl, Nat.le_of_ble_eq_true rfl⟩) (ps9 hP hK hD hC hS) rfl rfl hl.1 rfl (lv_room (Nat.le_of_ble_eq_true rfl)) dX9_marksBest_37 ⟨Nat.le_of_ble_eq_true rfl, Nat.le_of_ble_eq_true rfl⟩) hS (fun q _ h => up9 hS q h) (up9 hS) (fun r36 σ37 tS H1 locs ht hvm hw38 hB hz1 hk1 hS => ?_)
            have hP : va_P D clz (WD9 cy g σ37) H1 := by rw [← ht]; exact hB
            clear hB hz1 hk1 hvm ht
            generalize H1 = H at hP hS ⊢
            have hw38E : σ = σ37 := (hw38.1).symm
            subst hw38E
            have b39 : r36.toInt = (bitT (y6.2.1 0)).toInt := hw38.2.1
            refine lv_iload hx hb dX9_marksBest_40 (lv_at hl 1 rfl) ?_
            refine va_calli (va_runS (As := [.int (y6.2.1 1)]) (rest := [.int r36]) ⟨hx, hb, hml, hown, hts⟩ (m_X9_bits l D cy g σ (y6.2.1 1) _ hJ ) (va_cwS 1 hts (gd_S q1957 q1958 q134 q1959) rfl rfl rfl (by decide +kernel) ⟨Nat.le_of_ble_eq_true rfl, Nat.le_of_ble_eq_true rfl⟩) (ps9 hP hK hD hC hS) rfl rfl hl.1 rfl (lv_room (Nat.le_of_ble_eq_true rfl)) dX9_marksBest_42 ⟨Nat.le_of_ble_eq_true rfl, Nat.le_of_ble_eq_true rfl⟩) hS (fun q _ h => up9 hS q h) (up9 hS) (fun r40 σ41 tS H1 locs ht hvm hw42 hB hz1 hk1 hS => ?_)
            have hP : va_P D clz (WD9 cy g σ41) H1 := by rw [← ht]; exact hB
            clear hB hz1 hk1 hvm ht
            generalize H1 = H at hP hS ⊢
            have hw42E : σ = σ41 := (hw42.1).symm
            subst hw42E
            have b43 : r40.toInt = (bitT (y6.2.1 1)).toInt := hw42.2.1
            refine lv_icmp_lt (tgt := 51) hx hb dX9_marksBest_45 (by decide) (fun c44 => ?_) (fun c44 => ?_)
            ·
              have k45 := plt32 c44
              exact nj24 (σ, lf [], lg []) ⟨rfl, trivial⟩ _ _ _ hP hS (lv_sub hl [0, 1, 2, 3, 4, 5] rfl)
            ·
              have k46 := nlt32 c44
              refine lv_goto (tgt := 67) hx hb dX9_marksBest_48 (by decide) ?_
              exact nj14 (σ, lf [(y6.2.1 1)], lg []) ⟨rfl, (show (-1 : Int) ≤ ((y6.2.1 1) : Int32).toInt ∧ ((y6.2.1 1) : Int32).toInt ≤ 100000 from (by have f0 := b8; have f1 := k35; have f2 := b43; have f3 := k46; have f4 := b39; have f5 := b7; have f6 := k11; have g2 := rg32 (y6.2.1 1); have g3 := rg32 r36; have g4 := rg32 r40; have zm1 : ((-1) : Int32).toInt = (-1) := (by decide); have z65536 : (65536 : Int32).toInt = 65536 := (by decide); omega)), trivial⟩ _ _ _ hP hS (lv_sub hl [0, 1, 2, 3, 4, 5] rfl)

theorem q1947 : Cond.code yX9_breaths cX9_breaths 4 (some .int) ∈ lw_g := lw_gm (List.mem_of_getElem? (i := 1947) (by decide +kernel)) rfl
theorem q1948 : Cond.methodLink RX9 470 yX9_marksBest ∈ lw_g := lw_gm (List.mem_of_getElem? (i := 1948) (by decide +kernel)) rfl
theorem q1950 : Cond.instanceMethod yX9_marksBest ∈ lw_g := lw_gm (List.mem_of_getElem? (i := 1950) (by decide +kernel)) rfl
theorem q106 : Cond.selects RX9 yX9_marksBest yX9_marksBest ∈ lw_g := lw_gm (List.mem_of_getElem? (i := 106) (by decide +kernel)) rfl
theorem dX9_breaths_0 : decode cX9_breaths 0 = .ok (.aload_n 0, 1) := by decide +kernel
theorem dX9_breaths_1 : decode cX9_breaths 1 = .ok (.iconst 0, 1) := by decide +kernel
theorem dX9_breaths_2 : decode cX9_breaths 2 = .ok (.putfield 129, 3) := by decide +kernel
theorem dX9_breaths_5 : decode cX9_breaths 5 = .ok (.aload_n 0, 1) := by decide +kernel
theorem dX9_breaths_6 : decode cX9_breaths 6 = .ok (.iload_n 1, 1) := by decide +kernel
theorem dX9_breaths_7 : decode cX9_breaths 7 = .ok (.iload_n 2, 1) := by decide +kernel
theorem dX9_breaths_8 : decode cX9_breaths 8 = .ok (.invokevirtual 433, 3) := by decide +kernel
theorem dX9_breaths_11 : decode cX9_breaths 11 = .ok (.ifCond .ne 6, 3) := by decide +kernel
theorem dX9_breaths_14 : decode cX9_breaths 14 = .ok (.bipush (-2), 2) := by decide +kernel
theorem dX9_breaths_16 : decode cX9_breaths 16 = .ok (.ireturn, 1) := by decide +kernel
theorem dX9_breaths_17 : decode cX9_breaths 17 = .ok (.aload_n 0, 1) := by decide +kernel
theorem dX9_breaths_18 : decode cX9_breaths 18 = .ok (.iload_n 1, 1) := by decide +kernel
theorem dX9_breaths_19 : decode cX9_breaths 19 = .ok (.iload_n 2, 1) := by decide +kernel
theorem dX9_breaths_20 : decode cX9_breaths 20 = .ok (.invokevirtual 470, 3) := by decide +kernel
theorem dX9_breaths_23 : decode cX9_breaths 23 = .ok (.istore_n 3, 1) := by decide +kernel
theorem dX9_breaths_24 : decode cX9_breaths 24 = .ok (.iload_n 3, 1) := by decide +kernel
theorem dX9_breaths_25 : decode cX9_breaths 25 = .ok (.iconst (-1), 1) := by decide +kernel
theorem dX9_breaths_26 : decode cX9_breaths 26 = .ok (.if_icmp .ne 7, 3) := by decide +kernel
theorem dX9_breaths_29 : decode cX9_breaths 29 = .ok (.iconst (-1), 1) := by decide +kernel
theorem dX9_breaths_30 : decode cX9_breaths 30 = .ok (.goto 7, 3) := by decide +kernel
theorem dX9_breaths_33 : decode cX9_breaths 33 = .ok (.iload_n 3, 1) := by decide +kernel
theorem dX9_breaths_34 : decode cX9_breaths 34 = .ok (.invokestatic 464, 3) := by decide +kernel
theorem dX9_breaths_37 : decode cX9_breaths 37 = .ok (.ireturn, 1) := by decide +kernel
set_option maxHeartbeats 4000000 in
set_option maxRecDepth 100000 in
theorem m_X9_breaths (l : Launch) (D : va_G) (cy : Nat → ClassId) (g : Nat → Nat) (σ : ST) (p1 : Int32) (p2 : Int32) (sz : Nat) (hJ : J9 (σ 9))  : Met l yX9_breaths (ww yX9_breaths cX9_breaths 4 (some .int)) ({ frames := 5, cells := 0, slots := 0, locals := 320 }) (va_Pc [.ref (g 60), .int p1, .int p2] (pr9 D cy g σ sz)) (qi9 D cy g sz (fun r τ => Fr (fL [0]) σ τ ∧ J9 (τ 9) ∧ True)) 0 0 (A9 cy g sz) := by
  refine Met.ofW (cc := cX9_breaths) (maxL := 4) (ret := (some .int)) (by decide) rfl ?_
  intro p e s m args below meth c s₁ B hml hv
  obtain ⟨rfl, hsz, hP, hK, hD0, hC⟩ := hv
  have hx := B.exec
  have hb := B.bytes
  have hr := B.returns
  have hts := hts_g (atoms_spec (ws := ww yX9_breaths cX9_breaths 4 (some .int)) B.pre)
  have hown : s.vm.findClass RX9 = some m.cls := findClass_of_methodNamed B.named
  have hlocks := B.notSynchronized
  clear B
  subst hsz
  have hD := fun τ => A9_D (sz := s.heap.size) hD0 τ
  clear hD0
  have hS : va_S (A9 cy g s.heap.size) s.heap s.heap [] := va_S.rf
  have hl := lv_entry ([.ref (g 60), .int p1, .int p2]) (n := 4) (Nat.le_of_ble_eq_true rfl)
  rw [lg_entry_eq]
  generalize (lg_sl ([.ref (g 60), .int p1, .int p2]) ++ List.replicate (4 - (lg_sl ([.ref (g 60), .int p1, .int p2])).length) Slot.unset).toArray = ls at hl ⊢
  have hl : lv_has ls 4 [(0, .ref (g 60)), (1, .int p1), (2, .int p2)] := hl
  refine lv_aload_n hx hb dX9_breaths_0 rfl (lv_at hl 0 rfl) ?_
  refine lv_iconst (v := 0) hx hb dX9_breaths_1 (by decide) ?_
  refine p9_0 hx hb hts hown hK hP hD hS (hts _ q1360) dX9_breaths_2 (fun H locs σ1 eσ1 hP hS => ?_)
  have hJ2 : J9 (σ1 9) := hJ.I eσ1 (show JI9 0 (0 : Int32) from trivial)
  refine lv_aload_n hx hb dX9_breaths_5 rfl (lv_at hl 0 rfl) ?_
  refine lv_iload_n hx hb dX9_breaths_6 rfl (lv_at hl 1 rfl) ?_
  refine lv_iload_n hx hb dX9_breaths_7 rfl (lv_at hl 2 rfl) ?_
  refine va_calli (va_runV (As := [.int p1, .int p2]) (rest := []) ⟨hx, hb, hml, hown, hts⟩ (m_X9_isPlaying l D cy g σ1 p1 p2 _ hJ2 ) (cwV 2 hts (gd_V q1822 q1824 q87 q134 q1825) rfl rfl rfl (by decide +kernel) ⟨Nat.le_of_ble_eq_true rfl, Nat.le_of_ble_eq_true rfl⟩) (pv9 hP hK hD hC hS (va_recv hK hP (ci := 9) (q0 := 0) rfl rfl)) rfl rfl hl.1 rfl (lv_room (Nat.le_of_ble_eq_true rfl)) dX9_breaths_8 ⟨Nat.le_of_ble_eq_true rfl, Nat.le_of_ble_eq_true rfl⟩) hS (fun q _ h => up9 hS q h) (up9 hS) (fun r3 σ4 tS H1 locs ht hvm hw5 hB hz1 hk1 hS => ?_)
  have hP : va_P D clz (WD9 cy g σ4) H1 := by rw [← ht]; exact hB
  clear hB hz1 hk1 hvm ht
  generalize H1 = H at hP hS ⊢
  have hw5E : σ1 = σ4 := (hw5.1).symm
  subst hw5E
  have b6 : (0 : Int) ≤ r3.toInt ∧ r3.toInt ≤ 1 := hw5.2.1
  have b7 : (r3.toInt = 0) ∨ ((0 : Int) ≤ p1.toInt ∧ p1.toInt ≤ 8 ∧ (0 : Int) ≤ p2.toInt ∧ p2.toInt ≤ 2) := hw5.2.2.1
  have b8 : (r3.toInt = 0) ∨ (p1.toInt < ((σ1 9).2.2.1 17 3).toInt) := hw5.2.2.2.1
  refine lv_if_ne (tgt := 17) hx hb dX9_breaths_11 (by decide) (fun c9 => ?_) (fun c9 => ?_)
  ·
    have k10 := neq32 c9
    refine lv_aload_n hx hb dX9_breaths_17 rfl (lv_at hl 0 rfl) ?_
    refine lv_iload_n hx hb dX9_breaths_18 rfl (lv_at hl 1 rfl) ?_
    refine lv_iload_n hx hb dX9_breaths_19 rfl (lv_at hl 2 rfl) ?_
    refine va_calli (va_runV (As := [.int p1, .int p2]) (rest := []) ⟨hx, hb, hml, hown, hts⟩ (m_X9_marksBest l D cy g σ1 p1 p2 _ hJ2 (show (0 : Int) ≤ p1.toInt ∧ p1.toInt ≤ 8 from (by have f0 := b7; have f1 := b8; have f2 := a9_17 hJ2 (j := 3) rfl; have f3 := congrArg Int32.toInt (show ((σ1 9).2.2.1 17 3) = ((σ 9).2.2.1 17 3) from congrFun (((sI_f eσ1) 9 17 rfl).2.2.1) _); have f4 := b6; have f5 := k10; have f6 := a9_17 hJ (j := 3) rfl; have g2 := rg32 p1; have z0 : (0 : Int32).toInt = 0 := (by decide); omega)) (show (0 : Int) ≤ p2.toInt ∧ p2.toInt ≤ 2 from (by have f0 := b7; have f1 := b8; have f2 := a9_17 hJ2 (j := 3) rfl; have f3 := congrArg Int32.toInt (show ((σ1 9).2.2.1 17 3) = ((σ 9).2.2.1 17 3) from congrFun (((sI_f eσ1) 9 17 rfl).2.2.1) _); have f4 := b6; have f5 := k10; have f6 := a9_17 hJ (j := 3) rfl; have g2 := rg32 p1; have g3 := rg32 p2; have z0 : (0 : Int32).toInt = 0 := (by decide); omega))) (cwV 2 hts (gd_V q1948 q1950 q106 q134 q1951) rfl rfl rfl (by decide +kernel) ⟨Nat.le_of_ble_eq_true rfl, Nat.le_of_ble_eq_true rfl⟩) (pv9 hP hK hD hC hS (va_recv hK hP (ci := 9) (q0 := 0) rfl rfl)) rfl rfl hl.1 rfl (lv_room (Nat.le_of_ble_eq_true rfl)) dX9_breaths_20 ⟨Nat.le_of_ble_eq_true rfl, Nat.le_of_ble_eq_true rfl⟩) hS (fun q _ h => up9 hS q h) (up9 hS) (fun r11 σ12 tS H1 locs ht hvm hw13 hB hz1 hk1 hS => ?_)
    have hP : va_P D clz (WD9 cy g σ12) H1 := by rw [← ht]; exact hB
    clear hB hz1 hk1 hvm ht
    generalize H1 = H at hP hS ⊢
    have hw13E : σ1 = σ12 := (hw13.1).symm
    subst hw13E
    refine lv_istore_n (lv' := [(3, .int r11), (0, .ref (g 60)), (1, .int p1), (2, .int p2)]) hx hb dX9_breaths_23 rfl hl (by decide) rfl (fun ls hl => ?_)
    refine lv_iload_n hx hb dX9_breaths_24 rfl (lv_at hl 0 rfl) ?_
    refine lv_iconst (v := (-1)) hx hb dX9_breaths_25 (by decide) ?_
    refine lv_icmp_ne (tgt := 33) hx hb dX9_breaths_26 (by decide) (fun c14 => ?_) (fun c14 => ?_)
    ·
      have k15 := neq32 c14
      refine lv_iload_n hx hb dX9_breaths_33 rfl (lv_at hl 0 rfl) ?_
      refine va_calli (va_runS (As := [.int r11]) (rest := []) ⟨hx, hb, hml, hown, hts⟩ (m_X9_bits l D cy g σ1 r11 _ hJ2 ) (va_cwS 1 hts (gd_S q1957 q1958 q134 q1959) rfl rfl rfl (by decide +kernel) ⟨Nat.le_of_ble_eq_true rfl, Nat.le_of_ble_eq_true rfl⟩) (ps9 hP hK hD hC hS) rfl rfl hl.1 rfl (lv_room (Nat.le_of_ble_eq_true rfl)) dX9_breaths_34 ⟨Nat.le_of_ble_eq_true rfl, Nat.le_of_ble_eq_true rfl⟩) hS (fun q _ h => up9 hS q h) (up9 hS) (fun r16 σ17 tS H1 locs ht hvm hw18 hB hz1 hk1 hS => ?_)
      have hP : va_P D clz (WD9 cy g σ17) H1 := by rw [← ht]; exact hB
      clear hB hz1 hk1 hvm ht
      generalize H1 = H at hP hS ⊢
      have hw18E : σ1 = σ17 := (hw18.1).symm
      subst hw18E
      have b19 : r16.toInt = (bitT r11).toInt := hw18.2.1
      exact W.iret (v := r16) hx hb hr (fun tS ht hW => ⟨⟨r16, σ1, rfl, ⟨Fr.tr (Fr.rf) (sI_f eσ1) (fN_L rfl), hJ2, trivial⟩, (show va_P D clz (WD9 cy g σ1) tS.heap by rw [ht]; exact hP)⟩, hS.F ht⟩) hS.2.2 dX9_breaths_37
    ·
      have k20 := peq32 c14
      refine lv_iconst (v := (-1)) hx hb dX9_breaths_29 (by decide) ?_
      refine lv_goto (tgt := 37) hx hb dX9_breaths_30 (by decide) ?_
      exact W.iret (v := (-1)) hx hb hr (fun tS ht hW => ⟨⟨(-1), σ1, rfl, ⟨Fr.tr (Fr.rf) (sI_f eσ1) (fN_L rfl), hJ2, trivial⟩, (show va_P D clz (WD9 cy g σ1) tS.heap by rw [ht]; exact hP)⟩, hS.F ht⟩) hS.2.2 dX9_breaths_37
  ·
    have k21 := peq32 c9
    refine lv_bipush (v := (-2)) hx hb dX9_breaths_14 (by decide) ?_
    exact W.iret (v := (-2)) hx hb hr (fun tS ht hW => ⟨⟨(-2), σ1, rfl, ⟨Fr.tr (Fr.rf) (sI_f eσ1) (fN_L rfl), hJ2, trivial⟩, (show va_P D clz (WD9 cy g σ1) tS.heap by rw [ht]; exact hP)⟩, hS.F ht⟩) hS.2.2 dX9_breaths_16

theorem q1967 : Cond.code yX9_marks cX9_marks 3 (some .int) ∈ lw_g := lw_gm (List.mem_of_getElem? (i := 1967) (by decide +kernel)) rfl
theorem dX9_marks_0 : decode cX9_marks 0 = .ok (.aload_n 0, 1) := by decide +kernel
theorem dX9_marks_1 : decode cX9_marks 1 = .ok (.iconst 0, 1) := by decide +kernel
theorem dX9_marks_2 : decode cX9_marks 2 = .ok (.putfield 129, 3) := by decide +kernel
theorem dX9_marks_5 : decode cX9_marks 5 = .ok (.aload_n 0, 1) := by decide +kernel
theorem dX9_marks_6 : decode cX9_marks 6 = .ok (.iload_n 1, 1) := by decide +kernel
theorem dX9_marks_7 : decode cX9_marks 7 = .ok (.iload_n 2, 1) := by decide +kernel
theorem dX9_marks_8 : decode cX9_marks 8 = .ok (.invokevirtual 433, 3) := by decide +kernel
theorem dX9_marks_11 : decode cX9_marks 11 = .ok (.ifCond .eq 12, 3) := by decide +kernel
theorem dX9_marks_14 : decode cX9_marks 14 = .ok (.aload_n 0, 1) := by decide +kernel
theorem dX9_marks_15 : decode cX9_marks 15 = .ok (.iload_n 1, 1) := by decide +kernel
theorem dX9_marks_16 : decode cX9_marks 16 = .ok (.iload_n 2, 1) := by decide +kernel
theorem dX9_marks_17 : decode cX9_marks 17 = .ok (.invokevirtual 470, 3) := by decide +kernel
theorem dX9_marks_20 : decode cX9_marks 20 = .ok (.goto 5, 3) := by decide +kernel
theorem dX9_marks_23 : decode cX9_marks 23 = .ok (.bipush (-2), 2) := by decide +kernel
theorem dX9_marks_25 : decode cX9_marks 25 = .ok (.ireturn, 1) := by decide +kernel
set_option maxHeartbeats 4000000 in
set_option maxRecDepth 100000 in
theorem m_X9_marks (l : Launch) (D : va_G) (cy : Nat → ClassId) (g : Nat → Nat) (σ : ST) (p1 : Int32) (p2 : Int32) (sz : Nat) (hJ : J9 (σ 9))  : Met l yX9_marks (ww yX9_marks cX9_marks 3 (some .int)) ({ frames := 5, cells := 0, slots := 0, locals := 320 }) (va_Pc [.ref (g 60), .int p1, .int p2] (pr9 D cy g σ sz)) (qi9 D cy g sz (fun r τ => Fr (fL [0]) σ τ ∧ J9 (τ 9) ∧ True)) 0 0 (A9 cy g sz) := by
  refine Met.ofW (cc := cX9_marks) (maxL := 3) (ret := (some .int)) (by decide) rfl ?_
  intro p e s m args below meth c s₁ B hml hv
  obtain ⟨rfl, hsz, hP, hK, hD0, hC⟩ := hv
  have hx := B.exec
  have hb := B.bytes
  have hr := B.returns
  have hts := hts_g (atoms_spec (ws := ww yX9_marks cX9_marks 3 (some .int)) B.pre)
  have hown : s.vm.findClass RX9 = some m.cls := findClass_of_methodNamed B.named
  have hlocks := B.notSynchronized
  clear B
  subst hsz
  have hD := fun τ => A9_D (sz := s.heap.size) hD0 τ
  clear hD0
  have hS : va_S (A9 cy g s.heap.size) s.heap s.heap [] := va_S.rf
  have hl := lv_entry ([.ref (g 60), .int p1, .int p2]) (n := 3) (Nat.le_of_ble_eq_true rfl)
  rw [lg_entry_eq]
  generalize (lg_sl ([.ref (g 60), .int p1, .int p2]) ++ List.replicate (3 - (lg_sl ([.ref (g 60), .int p1, .int p2])).length) Slot.unset).toArray = ls at hl ⊢
  have hl : lv_has ls 3 [(0, .ref (g 60)), (1, .int p1), (2, .int p2)] := hl
  refine lv_aload_n hx hb dX9_marks_0 rfl (lv_at hl 0 rfl) ?_
  refine lv_iconst (v := 0) hx hb dX9_marks_1 (by decide) ?_
  refine p9_0 hx hb hts hown hK hP hD hS (hts _ q1360) dX9_marks_2 (fun H locs σ1 eσ1 hP hS => ?_)
  have hJ2 : J9 (σ1 9) := hJ.I eσ1 (show JI9 0 (0 : Int32) from trivial)
  refine lv_aload_n hx hb dX9_marks_5 rfl (lv_at hl 0 rfl) ?_
  refine lv_iload_n hx hb dX9_marks_6 rfl (lv_at hl 1 rfl) ?_
  refine lv_iload_n hx hb dX9_marks_7 rfl (lv_at hl 2 rfl) ?_
  refine va_calli (va_runV (As := [.int p1, .int p2]) (rest := []) ⟨hx, hb, hml, hown, hts⟩ (m_X9_isPlaying l D cy g σ1 p1 p2 _ hJ2 ) (cwV 2 hts (gd_V q1822 q1824 q87 q134 q1825) rfl rfl rfl (by decide +kernel) ⟨Nat.le_of_ble_eq_true rfl, Nat.le_of_ble_eq_true rfl⟩) (pv9 hP hK hD hC hS (va_recv hK hP (ci := 9) (q0 := 0) rfl rfl)) rfl rfl hl.1 rfl (lv_room (Nat.le_of_ble_eq_true rfl)) dX9_marks_8 ⟨Nat.le_of_ble_eq_true rfl, Nat.le_of_ble_eq_true rfl⟩) hS (fun q _ h => up9 hS q h) (up9 hS) (fun r3 σ4 tS H1 locs ht hvm hw5 hB hz1 hk1 hS => ?_)
  have hP : va_P D clz (WD9 cy g σ4) H1 := by rw [← ht]; exact hB
  clear hB hz1 hk1 hvm ht
  generalize H1 = H at hP hS ⊢
  have hw5E : σ1 = σ4 := (hw5.1).symm
  subst hw5E
  have b6 : (0 : Int) ≤ r3.toInt ∧ r3.toInt ≤ 1 := hw5.2.1
  have b7 : (r3.toInt = 0) ∨ ((0 : Int) ≤ p1.toInt ∧ p1.toInt ≤ 8 ∧ (0 : Int) ≤ p2.toInt ∧ p2.toInt ≤ 2) := hw5.2.2.1
  have b8 : (r3.toInt = 0) ∨ (p1.toInt < ((σ1 9).2.2.1 17 3).toInt) := hw5.2.2.2.1
  refine lv_if_eq (tgt := 23) hx hb dX9_marks_11 (by decide) (fun c9 => ?_) (fun c9 => ?_)
  ·
    have k10 := peq32 c9
    refine lv_bipush (v := (-2)) hx hb dX9_marks_23 (by decide) ?_
    exact W.iret (v := (-2)) hx hb hr (fun tS ht hW => ⟨⟨(-2), σ1, rfl, ⟨Fr.tr (Fr.rf) (sI_f eσ1) (fN_L rfl), hJ2, trivial⟩, (show va_P D clz (WD9 cy g σ1) tS.heap by rw [ht]; exact hP)⟩, hS.F ht⟩) hS.2.2 dX9_marks_25
  ·
    have k11 := neq32 c9
    refine lv_aload_n hx hb dX9_marks_14 rfl (lv_at hl 0 rfl) ?_
    refine lv_iload_n hx hb dX9_marks_15 rfl (lv_at hl 1 rfl) ?_
    refine lv_iload_n hx hb dX9_marks_16 rfl (lv_at hl 2 rfl) ?_
    refine va_calli (va_runV (As := [.int p1, .int p2]) (rest := []) ⟨hx, hb, hml, hown, hts⟩ (m_X9_marksBest l D cy g σ1 p1 p2 _ hJ2 (show (0 : Int) ≤ p1.toInt ∧ p1.toInt ≤ 8 from (by have f0 := b7; have f1 := b8; have f2 := a9_17 hJ2 (j := 3) rfl; have f3 := congrArg Int32.toInt (show ((σ1 9).2.2.1 17 3) = ((σ 9).2.2.1 17 3) from congrFun (((sI_f eσ1) 9 17 rfl).2.2.1) _); have f4 := b6; have f5 := k11; have f6 := a9_17 hJ (j := 3) rfl; have g2 := rg32 p1; have z0 : (0 : Int32).toInt = 0 := (by decide); omega)) (show (0 : Int) ≤ p2.toInt ∧ p2.toInt ≤ 2 from (by have f0 := b7; have f1 := b8; have f2 := a9_17 hJ2 (j := 3) rfl; have f3 := congrArg Int32.toInt (show ((σ1 9).2.2.1 17 3) = ((σ 9).2.2.1 17 3) from congrFun (((sI_f eσ1) 9 17 rfl).2.2.1) _); have f4 := b6; have f5 := k11; have f6 := a9_17 hJ (j := 3) rfl; have g2 := rg32 p1; have g3 := rg32 p2; have z0 : (0 : Int32).toInt = 0 := (by decide); omega))) (cwV 2 hts (gd_V q1948 q1950 q106 q134 q1951) rfl rfl rfl (by decide +kernel) ⟨Nat.le_of_ble_eq_true rfl, Nat.le_of_ble_eq_true rfl⟩) (pv9 hP hK hD hC hS (va_recv hK hP (ci := 9) (q0 := 0) rfl rfl)) rfl rfl hl.1 rfl (lv_room (Nat.le_of_ble_eq_true rfl)) dX9_marks_17 ⟨Nat.le_of_ble_eq_true rfl, Nat.le_of_ble_eq_true rfl⟩) hS (fun q _ h => up9 hS q h) (up9 hS) (fun r12 σ13 tS H1 locs ht hvm hw14 hB hz1 hk1 hS => ?_)
    have hP : va_P D clz (WD9 cy g σ13) H1 := by rw [← ht]; exact hB
    clear hB hz1 hk1 hvm ht
    generalize H1 = H at hP hS ⊢
    have hw14E : σ1 = σ13 := (hw14.1).symm
    subst hw14E
    refine lv_goto (tgt := 25) hx hb dX9_marks_20 (by decide) ?_
    exact W.iret (v := r12) hx hb hr (fun tS ht hW => ⟨⟨r12, σ1, rfl, ⟨Fr.tr (Fr.rf) (sI_f eσ1) (fN_L rfl), hJ2, trivial⟩, (show va_P D clz (WD9 cy g σ1) tS.heap by rw [ht]; exact hP)⟩, hS.F ht⟩) hS.2.2 dX9_marks_25

theorem q1971 : Cond.code yX9_choked cX9_choked 3 (some .int) ∈ lw_g := lw_gm (List.mem_of_getElem? (i := 1971) (by decide +kernel)) rfl
theorem dX9_choked_0 : decode cX9_choked 0 = .ok (.aload_n 0, 1) := by decide +kernel
theorem dX9_choked_1 : decode cX9_choked 1 = .ok (.iconst 0, 1) := by decide +kernel
theorem dX9_choked_2 : decode cX9_choked 2 = .ok (.putfield 129, 3) := by decide +kernel
theorem dX9_choked_5 : decode cX9_choked 5 = .ok (.aload_n 0, 1) := by decide +kernel
theorem dX9_choked_6 : decode cX9_choked 6 = .ok (.iload_n 1, 1) := by decide +kernel
theorem dX9_choked_7 : decode cX9_choked 7 = .ok (.iload_n 2, 1) := by decide +kernel
theorem dX9_choked_8 : decode cX9_choked 8 = .ok (.invokevirtual 433, 3) := by decide +kernel
theorem dX9_choked_11 : decode cX9_choked 11 = .ok (.ifCond .eq 17, 3) := by decide +kernel
theorem dX9_choked_14 : decode cX9_choked 14 = .ok (.aload_n 0, 1) := by decide +kernel
theorem dX9_choked_15 : decode cX9_choked 15 = .ok (.iload_n 1, 1) := by decide +kernel
theorem dX9_choked_16 : decode cX9_choked 16 = .ok (.iload_n 2, 1) := by decide +kernel
theorem dX9_choked_17 : decode cX9_choked 17 = .ok (.aload_n 0, 1) := by decide +kernel
theorem dX9_choked_18 : decode cX9_choked 18 = .ok (.iload_n 2, 1) := by decide +kernel
theorem dX9_choked_19 : decode cX9_choked 19 = .ok (.invokevirtual 460, 3) := by decide +kernel
theorem dX9_choked_22 : decode cX9_choked 22 = .ok (.invokevirtual 467, 3) := by decide +kernel
theorem dX9_choked_25 : decode cX9_choked 25 = .ok (.goto 5, 3) := by decide +kernel
theorem dX9_choked_28 : decode cX9_choked 28 = .ok (.bipush (-2), 2) := by decide +kernel
theorem dX9_choked_30 : decode cX9_choked 30 = .ok (.ireturn, 1) := by decide +kernel
set_option maxHeartbeats 4000000 in
set_option maxRecDepth 100000 in
theorem m_X9_choked (l : Launch) (D : va_G) (cy : Nat → ClassId) (g : Nat → Nat) (σ : ST) (p1 : Int32) (p2 : Int32) (sz : Nat) (hJ : J9 (σ 9))  : Met l yX9_choked (ww yX9_choked cX9_choked 3 (some .int)) ({ frames := 4, cells := 0, slots := 0, locals := 256 }) (va_Pc [.ref (g 60), .int p1, .int p2] (pr9 D cy g σ sz)) (qi9 D cy g sz (fun r τ => Fr (fL [0]) σ τ ∧ J9 (τ 9) ∧ True)) 0 0 (A9 cy g sz) := by
  refine Met.ofW (cc := cX9_choked) (maxL := 3) (ret := (some .int)) (by decide) rfl ?_
  intro p e s m args below meth c s₁ B hml hv
  obtain ⟨rfl, hsz, hP, hK, hD0, hC⟩ := hv
  have hx := B.exec
  have hb := B.bytes
  have hr := B.returns
  have hts := hts_g (atoms_spec (ws := ww yX9_choked cX9_choked 3 (some .int)) B.pre)
  have hown : s.vm.findClass RX9 = some m.cls := findClass_of_methodNamed B.named
  have hlocks := B.notSynchronized
  clear B
  subst hsz
  have hD := fun τ => A9_D (sz := s.heap.size) hD0 τ
  clear hD0
  have hS : va_S (A9 cy g s.heap.size) s.heap s.heap [] := va_S.rf
  have hl := lv_entry ([.ref (g 60), .int p1, .int p2]) (n := 3) (Nat.le_of_ble_eq_true rfl)
  rw [lg_entry_eq]
  generalize (lg_sl ([.ref (g 60), .int p1, .int p2]) ++ List.replicate (3 - (lg_sl ([.ref (g 60), .int p1, .int p2])).length) Slot.unset).toArray = ls at hl ⊢
  have hl : lv_has ls 3 [(0, .ref (g 60)), (1, .int p1), (2, .int p2)] := hl
  refine lv_aload_n hx hb dX9_choked_0 rfl (lv_at hl 0 rfl) ?_
  refine lv_iconst (v := 0) hx hb dX9_choked_1 (by decide) ?_
  refine p9_0 hx hb hts hown hK hP hD hS (hts _ q1360) dX9_choked_2 (fun H locs σ1 eσ1 hP hS => ?_)
  have hJ2 : J9 (σ1 9) := hJ.I eσ1 (show JI9 0 (0 : Int32) from trivial)
  refine lv_aload_n hx hb dX9_choked_5 rfl (lv_at hl 0 rfl) ?_
  refine lv_iload_n hx hb dX9_choked_6 rfl (lv_at hl 1 rfl) ?_
  refine lv_iload_n hx hb dX9_choked_7 rfl (lv_at hl 2 rfl) ?_
  refine va_calli (va_runV (As := [.int p1, .int p2]) (rest := []) ⟨hx, hb, hml, hown, hts⟩ (m_X9_isPlaying l D cy g σ1 p1 p2 _ hJ2 ) (cwV 2 hts (gd_V q1822 q1824 q87 q134 q1825) rfl rfl rfl (by decide +kernel) ⟨Nat.le_of_ble_eq_true rfl, Nat.le_of_ble_eq_true rfl⟩) (pv9 hP hK hD hC hS (va_recv hK hP (ci := 9) (q0 := 0) rfl rfl)) rfl rfl hl.1 rfl (lv_room (Nat.le_of_ble_eq_true rfl)) dX9_choked_8 ⟨Nat.le_of_ble_eq_true rfl, Nat.le_of_ble_eq_true rfl⟩) hS (fun q _ h => up9 hS q h) (up9 hS) (fun r3 σ4 tS H1 locs ht hvm hw5 hB hz1 hk1 hS => ?_)
  have hP : va_P D clz (WD9 cy g σ4) H1 := by rw [← ht]; exact hB
  clear hB hz1 hk1 hvm ht
  generalize H1 = H at hP hS ⊢
  have hw5E : σ1 = σ4 := (hw5.1).symm
  subst hw5E
  have b6 : (0 : Int) ≤ r3.toInt ∧ r3.toInt ≤ 1 := hw5.2.1
  have b7 : (r3.toInt = 0) ∨ ((0 : Int) ≤ p1.toInt ∧ p1.toInt ≤ 8 ∧ (0 : Int) ≤ p2.toInt ∧ p2.toInt ≤ 2) := hw5.2.2.1
  have b8 : (r3.toInt = 0) ∨ (p1.toInt < ((σ1 9).2.2.1 17 3).toInt) := hw5.2.2.2.1
  refine lv_if_eq (tgt := 28) hx hb dX9_choked_11 (by decide) (fun c9 => ?_) (fun c9 => ?_)
  ·
    have k10 := peq32 c9
    refine lv_bipush (v := (-2)) hx hb dX9_choked_28 (by decide) ?_
    exact W.iret (v := (-2)) hx hb hr (fun tS ht hW => ⟨⟨(-2), σ1, rfl, ⟨Fr.tr (Fr.rf) (sI_f eσ1) (fN_L rfl), hJ2, trivial⟩, (show va_P D clz (WD9 cy g σ1) tS.heap by rw [ht]; exact hP)⟩, hS.F ht⟩) hS.2.2 dX9_choked_30
  ·
    have k11 := neq32 c9
    refine lv_aload_n hx hb dX9_choked_14 rfl (lv_at hl 0 rfl) ?_
    refine lv_iload_n hx hb dX9_choked_15 rfl (lv_at hl 1 rfl) ?_
    refine lv_iload_n hx hb dX9_choked_16 rfl (lv_at hl 2 rfl) ?_
    refine lv_aload_n hx hb dX9_choked_17 rfl (lv_at hl 0 rfl) ?_
    refine lv_iload_n hx hb dX9_choked_18 rfl (lv_at hl 2 rfl) ?_
    refine va_calli (va_runV (As := [.int p2]) (rest := [.int p2, .int p1, .ref (g 60)]) ⟨hx, hb, hml, hown, hts⟩ (m_X9_marksOf l D cy g σ1 p2 _ hJ2 (show (0 : Int) ≤ p2.toInt ∧ p2.toInt ≤ 2 from (by have f0 := b7; have f1 := b6; have f2 := b8; have f3 := k11; have f4 := a9_17 hJ2 (j := 3) rfl; have f5 := congrArg Int32.toInt (show ((σ1 9).2.2.1 17 3) = ((σ 9).2.2.1 17 3) from congrFun (((sI_f eσ1) 9 17 rfl).2.2.1) _); have f6 := a9_17 hJ (j := 3) rfl; have g2 := rg32 p2; have z0 : (0 : Int32).toInt = 0 := (by decide); omega))) (cwV 1 hts (gd_V q1952 q1954 q107 q134 q1955) rfl rfl rfl (by decide +kernel) ⟨Nat.le_of_ble_eq_true rfl, Nat.le_of_ble_eq_true rfl⟩) (pv9 hP hK hD hC hS (va_recv hK hP (ci := 9) (q0 := 0) rfl rfl)) rfl rfl hl.1 rfl (lv_room (Nat.le_of_ble_eq_true rfl)) dX9_choked_19 ⟨Nat.le_of_ble_eq_true rfl, Nat.le_of_ble_eq_true rfl⟩) hS (fun q _ h => up9 hS q h) (up9 hS) (fun r12 σ13 tS H1 locs ht hvm hw14 hB hz1 hk1 hS => ?_)
    have hP : va_P D clz (WD9 cy g σ13) H1 := by rw [← ht]; exact hB
    clear hB hz1 hk1 hvm ht
    generalize H1 = H at hP hS ⊢
    have hw14E : σ1 = σ13 := (hw14.1).symm
    subst hw14E
    refine va_calli (va_runV (As := [.int p1, .int p2, .int r12]) (rest := []) ⟨hx, hb, hml, hown, hts⟩ (m_X9_chokes l D cy g σ1 p1 p2 r12 _ hJ2 (show (0 : Int) ≤ p1.toInt ∧ p1.toInt ≤ 8 from (by have f0 := b7; have f1 := b8; have f2 := a9_17 hJ2 (j := 3) rfl; have f3 := congrArg Int32.toInt (show ((σ1 9).2.2.1 17 3) = ((σ 9).2.2.1 17 3) from congrFun (((sI_f eσ1) 9 17 rfl).2.2.1) _); have f4 := b6; have f5 := k11; have f6 := a9_17 hJ (j := 3) rfl; have g2 := rg32 p1; have z0 : (0 : Int32).toInt = 0 := (by decide); omega)) (show (0 : Int) ≤ p2.toInt ∧ p2.toInt ≤ 2 from (by have f0 := b7; have f1 := b8; have f2 := a9_17 hJ2 (j := 3) rfl; have f3 := congrArg Int32.toInt (show ((σ1 9).2.2.1 17 3) = ((σ 9).2.2.1 17 3) from congrFun (((sI_f eσ1) 9 17 rfl).2.2.1) _); have f4 := b6; have f5 := k11; have f6 := a9_17 hJ (j := 3) rfl; have g2 := rg32 p1; have g3 := rg32 p2; have z0 : (0 : Int32).toInt = 0 := (by decide); omega))) (cwV 3 hts (gd_V q1960 q1962 q108 q134 q1963) rfl rfl rfl (by decide +kernel) ⟨Nat.le_of_ble_eq_true rfl, Nat.le_of_ble_eq_true rfl⟩) (pv9 hP hK hD hC hS (va_recv hK hP (ci := 9) (q0 := 0) rfl rfl)) rfl rfl hl.1 rfl (lv_room (Nat.le_of_ble_eq_true rfl)) dX9_choked_22 ⟨Nat.le_of_ble_eq_true rfl, Nat.le_of_ble_eq_true rfl⟩) hS (fun q _ h => up9 hS q h) (up9 hS) (fun r15 σ16 tS H1 locs ht hvm hw17 hB hz1 hk1 hS => ?_)
    have hP : va_P D clz (WD9 cy g σ16) H1 := by rw [← ht]; exact hB
    clear hB hz1 hk1 hvm ht
    generalize H1 = H at hP hS ⊢
    have hw17E : σ1 = σ16 := (hw17.1).symm
    subst hw17E
    refine lv_goto (tgt := 30) hx hb dX9_choked_25 (by decide) ?_
    exact W.iret (v := r15) hx hb hr (fun tS ht hW => ⟨⟨r15, σ1, rfl, ⟨Fr.tr (Fr.rf) (sI_f eσ1) (fN_L rfl), hJ2, trivial⟩, (show va_P D clz (WD9 cy g σ1) tS.heap by rw [ht]; exact hP)⟩, hS.F ht⟩) hS.2.2 dX9_choked_30

theorem q1979 : Cond.code yX9_laysLoads cX9_laysLoads 6 none ∈ lw_g := lw_gm (List.mem_of_getElem? (i := 1979) (by decide +kernel)) rfl
theorem q1409 : Cond.fieldLink RX9 107 "LipsAndSlidesModel" "load" "[I" ∈ lw_g := lw_gm (List.mem_of_getElem? (i := 1409) (by decide +kernel)) rfl
theorem dX9_laysLoads_0 : decode cX9_laysLoads 0 = .ok (.iconst 0, 1) := by decide +kernel
theorem dX9_laysLoads_1 : decode cX9_laysLoads 1 = .ok (.istore_n 1, 1) := by decide +kernel
theorem dX9_laysLoads_2 : decode cX9_laysLoads 2 = .ok (.iconst 0, 1) := by decide +kernel
theorem dX9_laysLoads_3 : decode cX9_laysLoads 3 = .ok (.istore_n 2, 1) := by decide +kernel
theorem dX9_laysLoads_4 : decode cX9_laysLoads 4 = .ok (.iload_n 2, 1) := by decide +kernel
theorem dX9_laysLoads_5 : decode cX9_laysLoads 5 = .ok (.aload_n 0, 1) := by decide +kernel
theorem dX9_laysLoads_6 : decode cX9_laysLoads 6 = .ok (.getfield 43, 3) := by decide +kernel
theorem dX9_laysLoads_9 : decode cX9_laysLoads 9 = .ok (.aload_n 0, 1) := by decide +kernel
theorem dX9_laysLoads_10 : decode cX9_laysLoads 10 = .ok (.getfield 384, 3) := by decide +kernel
theorem dX9_laysLoads_13 : decode cX9_laysLoads 13 = .ok (.iaload, 1) := by decide +kernel
theorem dX9_laysLoads_14 : decode cX9_laysLoads 14 = .ok (.if_icmp .ge 99, 3) := by decide +kernel
theorem dX9_laysLoads_17 : decode cX9_laysLoads 17 = .ok (.aload_n 0, 1) := by decide +kernel
theorem dX9_laysLoads_18 : decode cX9_laysLoads 18 = .ok (.aload_n 0, 1) := by decide +kernel
theorem dX9_laysLoads_19 : decode cX9_laysLoads 19 = .ok (.getfield 384, 3) := by decide +kernel
theorem dX9_laysLoads_22 : decode cX9_laysLoads 22 = .ok (.iload_n 2, 1) := by decide +kernel
theorem dX9_laysLoads_23 : decode cX9_laysLoads 23 = .ok (.iconst 1, 1) := by decide +kernel
theorem dX9_laysLoads_24 : decode cX9_laysLoads 24 = .ok (.invokevirtual 308, 3) := by decide +kernel
theorem dX9_laysLoads_27 : decode cX9_laysLoads 27 = .ok (.istore_n 3, 1) := by decide +kernel
theorem dX9_laysLoads_28 : decode cX9_laysLoads 28 = .ok (.aload_n 0, 1) := by decide +kernel
theorem dX9_laysLoads_29 : decode cX9_laysLoads 29 = .ok (.iload_n 2, 1) := by decide +kernel
theorem dX9_laysLoads_30 : decode cX9_laysLoads 30 = .ok (.invokevirtual 439, 3) := by decide +kernel
theorem dX9_laysLoads_33 : decode cX9_laysLoads 33 = .ok (.istore 4, 2) := by decide +kernel
theorem dX9_laysLoads_35 : decode cX9_laysLoads 35 = .ok (.iload 4, 2) := by decide +kernel
theorem dX9_laysLoads_37 : decode cX9_laysLoads 37 = .ok (.iconst (-1), 1) := by decide +kernel
theorem dX9_laysLoads_38 : decode cX9_laysLoads 38 = .ok (.if_icmp .ne 23, 3) := by decide +kernel
theorem dX9_laysLoads_41 : decode cX9_laysLoads 41 = .ok (.iload_n 1, 1) := by decide +kernel
theorem dX9_laysLoads_42 : decode cX9_laysLoads 42 = .ok (.iconst 2, 1) := by decide +kernel
theorem dX9_laysLoads_43 : decode cX9_laysLoads 43 = .ok (.iload_n 3, 1) := by decide +kernel
theorem dX9_laysLoads_44 : decode cX9_laysLoads 44 = .ok (.imul, 1) := by decide +kernel
theorem dX9_laysLoads_45 : decode cX9_laysLoads 45 = .ok (.if_icmp .ge 7, 3) := by decide +kernel
theorem dX9_laysLoads_48 : decode cX9_laysLoads 48 = .ok (.iconst 0, 1) := by decide +kernel
theorem dX9_laysLoads_49 : decode cX9_laysLoads 49 = .ok (.goto 8, 3) := by decide +kernel
theorem dX9_laysLoads_52 : decode cX9_laysLoads 52 = .ok (.iload_n 1, 1) := by decide +kernel
theorem dX9_laysLoads_53 : decode cX9_laysLoads 53 = .ok (.iconst 2, 1) := by decide +kernel
theorem dX9_laysLoads_54 : decode cX9_laysLoads 54 = .ok (.iload_n 3, 1) := by decide +kernel
theorem dX9_laysLoads_55 : decode cX9_laysLoads 55 = .ok (.imul, 1) := by decide +kernel
theorem dX9_laysLoads_56 : decode cX9_laysLoads 56 = .ok (.isub, 1) := by decide +kernel
theorem dX9_laysLoads_57 : decode cX9_laysLoads 57 = .ok (.istore_n 1, 1) := by decide +kernel
theorem dX9_laysLoads_58 : decode cX9_laysLoads 58 = .ok (.goto 42, 3) := by decide +kernel
theorem dX9_laysLoads_61 : decode cX9_laysLoads 61 = .ok (.aload_n 0, 1) := by decide +kernel
theorem dX9_laysLoads_62 : decode cX9_laysLoads 62 = .ok (.getfield 56, 3) := by decide +kernel
theorem dX9_laysLoads_65 : decode cX9_laysLoads 65 = .ok (.bipush 88, 2) := by decide +kernel
theorem dX9_laysLoads_67 : decode cX9_laysLoads 67 = .ok (.iload 4, 2) := by decide +kernel
theorem dX9_laysLoads_69 : decode cX9_laysLoads 69 = .ok (.imul, 1) := by decide +kernel
theorem dX9_laysLoads_70 : decode cX9_laysLoads 70 = .ok (.aload_n 0, 1) := by decide +kernel
theorem dX9_laysLoads_71 : decode cX9_laysLoads 71 = .ok (.getfield 83, 3) := by decide +kernel
theorem dX9_laysLoads_74 : decode cX9_laysLoads 74 = .ok (.iload 4, 2) := by decide +kernel
theorem dX9_laysLoads_76 : decode cX9_laysLoads 76 = .ok (.iaload, 1) := by decide +kernel
theorem dX9_laysLoads_77 : decode cX9_laysLoads 77 = .ok (.iadd, 1) := by decide +kernel
theorem dX9_laysLoads_78 : decode cX9_laysLoads 78 = .ok (.iaload, 1) := by decide +kernel
theorem dX9_laysLoads_79 : decode cX9_laysLoads 79 = .ok (.istore 5, 2) := by decide +kernel
theorem dX9_laysLoads_81 : decode cX9_laysLoads 81 = .ok (.iload_n 1, 1) := by decide +kernel
theorem dX9_laysLoads_82 : decode cX9_laysLoads 82 = .ok (.iload_n 3, 1) := by decide +kernel
theorem dX9_laysLoads_83 : decode cX9_laysLoads 83 = .ok (.iload 5, 2) := by decide +kernel
theorem dX9_laysLoads_85 : decode cX9_laysLoads 85 = .ok (.iconst 4, 1) := by decide +kernel
theorem dX9_laysLoads_86 : decode cX9_laysLoads 86 = .ok (.if_icmp .le 10, 3) := by decide +kernel
theorem dX9_laysLoads_89 : decode cX9_laysLoads 89 = .ok (.iload 5, 2) := by decide +kernel
theorem dX9_laysLoads_91 : decode cX9_laysLoads 91 = .ok (.iconst 3, 1) := by decide +kernel
theorem dX9_laysLoads_92 : decode cX9_laysLoads 92 = .ok (.isub, 1) := by decide +kernel
theorem dX9_laysLoads_93 : decode cX9_laysLoads 93 = .ok (.goto 4, 3) := by decide +kernel
theorem dX9_laysLoads_96 : decode cX9_laysLoads 96 = .ok (.iconst 1, 1) := by decide +kernel
theorem dX9_laysLoads_97 : decode cX9_laysLoads 97 = .ok (.imul, 1) := by decide +kernel
theorem dX9_laysLoads_98 : decode cX9_laysLoads 98 = .ok (.iadd, 1) := by decide +kernel
theorem dX9_laysLoads_99 : decode cX9_laysLoads 99 = .ok (.istore_n 1, 1) := by decide +kernel
theorem dX9_laysLoads_100 : decode cX9_laysLoads 100 = .ok (.aload_n 0, 1) := by decide +kernel
theorem dX9_laysLoads_101 : decode cX9_laysLoads 101 = .ok (.getfield 107, 3) := by decide +kernel
theorem dX9_laysLoads_104 : decode cX9_laysLoads 104 = .ok (.iload_n 2, 1) := by decide +kernel
theorem dX9_laysLoads_105 : decode cX9_laysLoads 105 = .ok (.iload_n 1, 1) := by decide +kernel
theorem dX9_laysLoads_106 : decode cX9_laysLoads 106 = .ok (.iastore, 1) := by decide +kernel
theorem dX9_laysLoads_107 : decode cX9_laysLoads 107 = .ok (.iinc 2 1, 3) := by decide +kernel
theorem dX9_laysLoads_110 : decode cX9_laysLoads 110 = .ok (.goto (-106), 3) := by decide +kernel
theorem dX9_laysLoads_113 : decode cX9_laysLoads 113 = .ok (.return_, 1) := by decide +kernel
set_option maxHeartbeats 4000000 in
set_option maxRecDepth 100000 in
theorem m_X9_laysLoads (l : Launch) (D : va_G) (cy : Nat → ClassId) (g : Nat → Nat) (σ : ST)  (sz : Nat) (hJ : J9 (σ 9))  : Met l yX9_laysLoads (ww yX9_laysLoads cX9_laysLoads 6 none) ({ frames := 2, cells := 0, slots := 0, locals := 128 }) (va_Pc [.ref (g 60)] (pr9 D cy g σ sz)) (qv9 D cy g sz (fun τ => Fr (fL [49]) σ τ ∧ J9 (τ 9) ∧ True)) 0 0 (A9 cy g sz) := by
  refine Met.ofW (cc := cX9_laysLoads) (maxL := 6) (ret := none) (by decide) rfl ?_
  intro p e s m args below meth c s₁ B hml hv
  obtain ⟨rfl, hsz, hP, hK, hD0, hC⟩ := hv
  have hx := B.exec
  have hb := B.bytes
  have hr := B.returns
  have hts := hts_g (atoms_spec (ws := ww yX9_laysLoads cX9_laysLoads 6 none) B.pre)
  have hown : s.vm.findClass RX9 = some m.cls := findClass_of_methodNamed B.named
  have hlocks := B.notSynchronized
  clear B
  subst hsz
  have hD := fun τ => A9_D (sz := s.heap.size) hD0 τ
  clear hD0
  have hS : va_S (A9 cy g s.heap.size) s.heap s.heap [] := va_S.rf
  have hl := lv_entry ([.ref (g 60)]) (n := 6) (Nat.le_of_ble_eq_true rfl)
  rw [lg_entry_eq]
  generalize (lg_sl ([.ref (g 60)]) ++ List.replicate (6 - (lg_sl ([.ref (g 60)])).length) Slot.unset).toArray = ls at hl ⊢
  have hl : lv_has ls 6 [(0, .ref (g 60))] := hl
  refine lv_iconst (v := 0) hx hb dX9_laysLoads_0 (by decide) ?_
  refine lv_istore_n (lv' := [(1, .int 0), (0, .ref (g 60))]) hx hb dX9_laysLoads_1 rfl hl (by decide) rfl (fun ls hl => ?_)
  refine lv_iconst (v := 0) hx hb dX9_laysLoads_2 (by decide) ?_
  refine lv_istore_n (lv' := [(2, .int 0), (1, .int 0), (0, .ref (g 60))]) hx hb dX9_laysLoads_3 rfl hl (by decide) rfl (fun ls hl => ?_)
  refine loop9 6 4 (fun x : LZ => [(2, .int (x.2.1 0)), (1, .int (x.2.1 1)), (0, .ref (g 60))]) (fun x : LZ => (Fr (fL [49]) σ x.1) ∧ (J9 (x.1 9)) ∧ ((0 : Int) ≤ (x.2.1 0).toInt ∧ (x.2.1 0).toInt ≤ 16) ∧ True) (fun x : LZ => ((17 : Int) - (x.2.1 0).toInt).toNat) ?_ (σ, lf [0, 0], lg []) ⟨Fr.rf, hJ, (show (0 : Int) ≤ (0 : Int32).toInt ∧ (0 : Int32).toInt ≤ 16 from (by have z0 : (0 : Int32).toInt = 0 := (by decide); omega)), trivial⟩ _ _ _ hP hS (lv_sub hl [0, 1, 2] rfl)
  intro y3 hI2 nl1 H locs ls hP hS hl
  obtain ⟨σ4, eσ4⟩ : ∃ z, z = y3.1 := ⟨_, rfl⟩
  rw [← eσ4] at hP hI2
  have hF5 : Fr (fL [49]) σ σ4 := hI2.1
  have hJ6 : J9 (σ4 9) := hI2.2.1
  have b7 : (0 : Int) ≤ (y3.2.1 0).toInt ∧ (y3.2.1 0).toInt ≤ 16 := hI2.2.2.1
  have hl : lv_has ls 6 [(2, .int (y3.2.1 0)), (1, .int (y3.2.1 1)), (0, .ref (g 60))] := hl
  refine lv_iload_n hx hb dX9_laysLoads_4 rfl (lv_at hl 0 rfl) ?_
  refine lv_aload_n hx hb dX9_laysLoads_5 rfl (lv_at hl 2 rfl) ?_
  refine g9_20 hx hb hts hown hK hP (hts _ q1380) dX9_laysLoads_6 ?_
  refine lv_aload_n hx hb dX9_laysLoads_9 rfl (lv_at hl 2 rfl) ?_
  refine g9_29 (x := ((σ 9).1 29)) hx hb hts hown hK hP ((hF5 9 29 rfl).1) (hts _ q1389) dX9_laysLoads_10 ?_
  obtain ⟨x8, ex8⟩ : ∃ z, (σ 9).2.2.1 20 ((σ 9).1 29).toInt.toNat = z := ⟨_, rfl⟩
  refine l9_20 (x := x8) hx hb hK hP (vpo (by have f0 := j9_29 hJ rfl; omega)) ((congrFun ((hF5 9 20 rfl).2.2.1) _).trans ex8) dX9_laysLoads_13 ?_
  have t9 := a9_20 hJ ex8
  refine lv_icmp_ge (tgt := 113) hx hb dX9_laysLoads_14 (by decide) (fun c10 => ?_) (fun c10 => ?_)
  ·
    have k11 := ple32 c10
    exact W.vret hx hb hr (fun tS ht hW => ⟨⟨σ4, rfl, ⟨Fr.tr (Fr.rf) hF5 (fL_sub rfl), hJ6, trivial⟩, (show va_P D clz (WD9 cy g σ4) tS.heap by rw [ht]; exact hP)⟩, hS.F ht⟩) hS.2.2 dX9_laysLoads_113
  ·
    have k12 := nle32 c10
    refine lv_aload_n hx hb dX9_laysLoads_17 rfl (lv_at hl 2 rfl) ?_
    refine lv_aload_n hx hb dX9_laysLoads_18 rfl (lv_at hl 2 rfl) ?_
    refine g9_29 (x := ((σ 9).1 29)) hx hb hts hown hK hP ((hF5 9 29 rfl).1) (hts _ q1389) dX9_laysLoads_19 ?_
    refine lv_iload_n hx hb dX9_laysLoads_22 rfl (lv_at hl 0 rfl) ?_
    refine lv_iconst (v := 1) hx hb dX9_laysLoads_23 (by decide) ?_
    refine va_calli (va_runV (As := [.int ((σ 9).1 29), .int (y3.2.1 0), .int 1]) (rest := []) ⟨hx, hb, hml, hown, hts⟩ (m_X9_toneOf l D cy g σ4 ((σ 9).1 29) (y3.2.1 0) (1) _ hJ6 (show (0 : Int) ≤ ((σ 9).1 29).toInt ∧ ((σ 9).1 29).toInt ≤ 2 from (by have f0 := j9_29 hJ rfl; have f1 := t9; have f2 := k12; have f3 := b7; omega)) (show (0 : Int) ≤ (y3.2.1 0).toInt ∧ (y3.2.1 0).toInt ≤ 15 from (by have f0 := j9_29 hJ rfl; have f1 := b7; have f2 := t9; have f3 := k12; have g1 := rg32 (y3.2.1 0); omega)) (show (0 : Int) ≤ (1 : Int32).toInt ∧ (1 : Int32).toInt ≤ 3 from (by have f0 := j9_29 hJ rfl; have f1 := b7; have f2 := t9; have f3 := k12; have g1 := rg32 (y3.2.1 0); have z1 : (1 : Int32).toInt = 1 := (by decide); omega))) (cwV 3 hts (gd_V q1727 q1729 q75 q134 q1730) rfl rfl rfl (by decide +kernel) ⟨Nat.le_of_ble_eq_true rfl, Nat.le_of_ble_eq_true rfl⟩) (pv9 hP hK hD hC hS (va_recv hK hP (ci := 9) (q0 := 0) rfl rfl)) rfl rfl hl.1 rfl (lv_room (Nat.le_of_ble_eq_true rfl)) dX9_laysLoads_24 ⟨Nat.le_of_ble_eq_true rfl, Nat.le_of_ble_eq_true rfl⟩) hS (fun q _ h => up9 hS q h) (up9 hS) (fun r13 σ14 tS H1 locs ht hvm hw15 hB hz1 hk1 hS => ?_)
    have hP : va_P D clz (WD9 cy g σ14) H1 := by rw [← ht]; exact hB
    clear hB hz1 hk1 hvm ht
    generalize H1 = H at hP hS ⊢
    have hw15E : σ4 = σ14 := (hw15.1).symm
    subst hw15E
    have b16 : (-1 : Int) ≤ r13.toInt ∧ r13.toInt ≤ 60 := hw15.2.1
    have b17 : ¬ (1 : Int32).toInt = 1 ∨ 0 ≤ r13.toInt := hw15.2.2.1
    refine lv_istore_n (lv' := [(3, .int r13), (2, .int (y3.2.1 0)), (1, .int (y3.2.1 1)), (0, .ref (g 60))]) hx hb dX9_laysLoads_27 rfl hl (by decide) rfl (fun ls hl => ?_)
    refine lv_aload_n hx hb dX9_laysLoads_28 rfl (lv_at hl 3 rfl) ?_
    refine lv_iload_n hx hb dX9_laysLoads_29 rfl (lv_at hl 1 rfl) ?_
    refine va_calli (va_runV (As := [.int (y3.2.1 0)]) (rest := []) ⟨hx, hb, hml, hown, hts⟩ (m_X9_soundOf l D cy g σ4 (y3.2.1 0) _ hJ6 ) (cwV 1 hts (gd_V q1884 q1886 q99 q134 q1887) rfl rfl rfl (by decide +kernel) ⟨Nat.le_of_ble_eq_true rfl, Nat.le_of_ble_eq_true rfl⟩) (pv9 hP hK hD hC hS (va_recv hK hP (ci := 9) (q0 := 0) rfl rfl)) rfl rfl hl.1 rfl (lv_room (Nat.le_of_ble_eq_true rfl)) dX9_laysLoads_30 ⟨Nat.le_of_ble_eq_true rfl, Nat.le_of_ble_eq_true rfl⟩) hS (fun q _ h => up9 hS q h) (up9 hS) (fun r18 σ19 tS H1 locs ht hvm hw20 hB hz1 hk1 hS => ?_)
    have hP : va_P D clz (WD9 cy g σ19) H1 := by rw [← ht]; exact hB
    clear hB hz1 hk1 hvm ht
    generalize H1 = H at hP hS ⊢
    have hw20E : σ4 = σ19 := (hw20.1).symm
    subst hw20E
    have b21 : (-1 : Int) ≤ r18.toInt ∧ r18.toInt ≤ 15 := hw20.2.1
    refine lv_istore (lv' := [(4, .int r18), (3, .int r13), (2, .int (y3.2.1 0)), (1, .int (y3.2.1 1)), (0, .ref (g 60))]) hx hb dX9_laysLoads_33 hl (by decide) rfl (fun ls hl => ?_)
    refine lv_iload hx hb dX9_laysLoads_35 (lv_at hl 0 rfl) ?_
    refine lv_iconst (v := (-1)) hx hb dX9_laysLoads_37 (by decide) ?_
    refine cut9 (D := D) (cy := cy) (g := g) (A := A9 cy g s.heap.size) (H0 := s.heap) 6 100 (fun x : LZ => [(4, .int r18), (3, .int r13), (2, .int (y3.2.1 0)), (1, .int (x.2.1 0)), (0, .ref (g 60))]) (fun x : LZ => []) (fun x : LZ => (x.1 = σ4) ∧ True) ?_ ?_
    ·
      intro y24 hI23 H locs ls hP hS hl
      rw [show y24.1 = σ4 from hI23.1] at hP
      have hl : lv_has ls 6 [(4, .int r18), (3, .int r13), (2, .int (y3.2.1 0)), (1, .int (y24.2.1 0)), (0, .ref (g 60))] := hl
      refine lv_aload_n hx hb dX9_laysLoads_100 rfl (lv_at hl 4 rfl) ?_
      refine g9_49 hx hb hts hown hK hP (hts _ q1409) dX9_laysLoads_101 ?_
      refine lv_iload_n hx hb dX9_laysLoads_104 rfl (lv_at hl 2 rfl) ?_
      refine lv_iload_n hx hb dX9_laysLoads_105 rfl (lv_at hl 3 rfl) ?_
      refine t9_49 hx hb hK hP hD hS (vpo (by have f0 := b7; have f1 := k12; have f2 := t9; have f3 := j9_29 hJ rfl; have g1 := rg32 (y3.2.1 0); omega)) dX9_laysLoads_106 (fun H locs σ25 eσ25 hP hS => ?_)
      have hJ26 : J9 (σ25 9) := hJ6.A eσ25 trivial
      obtain ⟨x27, ex27⟩ : ∃ y : Int32, y = (y3.2.1 0) + 1 := ⟨_, rfl⟩
      have t28 := addO ex27 (by have f0 := b7; have f1 := k12; have f2 := t9; have f3 := j9_29 hJ rfl; have g1 := rg32 (y3.2.1 0); have z1 : (1 : Int32).toInt = 1 := (by decide); omega)
      refine lv_iinc (v := x27) (lv' := [(2, .int x27), (4, .int r18), (3, .int r13), (1, .int (y24.2.1 0)), (0, .ref (g 60))]) hx hb dX9_laysLoads_107 hl (k := 2) rfl (by rw [ex27]; rfl) (by decide) rfl (fun ls hl => ?_)
      refine lv_goto (tgt := 4) hx hb dX9_laysLoads_110 (by decide) ?_
      have t29 : ((17 : Int) - x27.toInt).toNat < ((17 : Int) - (y3.2.1 0).toInt).toNat := (by have f0 := b7; have f1 := k12; have f2 := t28; have f3 := t9; have f4 := j9_29 hJ rfl; have g1 := rg32 (y3.2.1 0); have g2 := rg32 x27; have z1 : (1 : Int32).toInt = 1 := (by decide); omega)
      exact nl1 (σ25, lf [x27, (y24.2.1 0)], lg []) ⟨Fr.tr (Fr.tr (Fr.rf) hF5 (fL_sub rfl)) (sA_f eσ25) (fN_L rfl), hJ26, (show (0 : Int) ≤ (x27 : Int32).toInt ∧ (x27 : Int32).toInt ≤ 16 from (by have f0 := t28; have f1 := b7; have f2 := k12; have f3 := t9; have f4 := j9_29 hJ rfl; have g1 := rg32 x27; have z1 : (1 : Int32).toInt = 1 := (by decide); omega)), trivial⟩ (show ((17 : Int) - x27.toInt).toNat < _ from by first | exact t29 | (rw [← eσ4]; exact t29)) _ _ _ hP hS (lv_sub hl [0, 3, 4] rfl)
    ·
      intro nj22
      refine lv_icmp_ne (tgt := 61) hx hb dX9_laysLoads_38 (by decide) (fun c30 => ?_) (fun c30 => ?_)
      ·
        have k31 := neq32 c30
        refine lv_aload_n hx hb dX9_laysLoads_61 rfl (lv_at hl 4 rfl) ?_
        refine g9_25 hx hb hts hown hK hP (hts _ q1385) dX9_laysLoads_62 ?_
        refine lv_bipush (v := 88) hx hb dX9_laysLoads_65 (by decide) ?_
        refine lv_iload hx hb dX9_laysLoads_67 (lv_at hl 0 rfl) ?_
        refine lv_imul hx hb dX9_laysLoads_69 ?_
        refine lv_topi (fun x32 ex32 => ?_)
        have t33 := mulC' (n := 88) ex32 (by decide) (by have f0 := b21; have f1 := k31; have g0 := rg32 r18; have zm1 : ((-1) : Int32).toInt = (-1) := (by decide); omega)
        refine lv_aload_n hx hb dX9_laysLoads_70 rfl (lv_at hl 4 rfl) ?_
        refine g9_38 hx hb hts hown hK hP (hts _ q1398) dX9_laysLoads_71 ?_
        refine lv_iload hx hb dX9_laysLoads_74 (lv_at hl 0 rfl) ?_
        obtain ⟨x34, ex34⟩ : ∃ z, (σ 9).2.2.1 38 r18.toInt.toNat = z := ⟨_, rfl⟩
        refine l9_38 (x := x34) hx hb hK hP (vpo (by have f0 := b21; have f1 := k31; have f2 := t33; have g0 := rg32 r18; have zm1 : ((-1) : Int32).toInt = (-1) := (by decide); omega)) ((congrFun ((hF5 9 38 rfl).2.2.1) _).trans ex34) dX9_laysLoads_76 ?_
        have t35 := a9_38 hJ ex34
        refine lv_iadd hx hb dX9_laysLoads_77 ?_
        refine lv_topi (fun x36 ex36 => ?_)
        have t37 := addO ex36 (by have f0 := t33; have f1 := t35; have f2 := b21; have f3 := k31; have g0 := rg32 x32; have g1 := rg32 x34; have zm1 : ((-1) : Int32).toInt = (-1) := (by decide); omega)
        obtain ⟨x38, ex38⟩ : ∃ z, (σ 9).2.2.1 25 x36.toInt.toNat = z := ⟨_, rfl⟩
        refine l9_25 (x := x38) hx hb hK hP (vpo (by have f0 := t37; have f1 := t33; have f2 := t35; have f3 := b21; have f4 := k31; have g0 := rg32 x36; have zm1 : ((-1) : Int32).toInt = (-1) := (by decide); omega)) ((congrFun ((hF5 9 25 rfl).2.2.1) _).trans ex38) dX9_laysLoads_78 ?_
        refine lv_istore (lv' := [(5, .int x38), (4, .int r18), (3, .int r13), (2, .int (y3.2.1 0)), (1, .int (y3.2.1 1)), (0, .ref (g 60))]) hx hb dX9_laysLoads_79 hl (by decide) rfl (fun ls hl => ?_)
        refine lv_iload_n hx hb dX9_laysLoads_81 rfl (lv_at hl 4 rfl) ?_
        refine lv_iload_n hx hb dX9_laysLoads_82 rfl (lv_at hl 2 rfl) ?_
        refine lv_iload hx hb dX9_laysLoads_83 (lv_at hl 0 rfl) ?_
        refine lv_iconst (v := 4) hx hb dX9_laysLoads_85 (by decide) ?_
        refine cut9 (D := D) (cy := cy) (g := g) (A := A9 cy g s.heap.size) (H0 := s.heap) 6 97 (fun x : LZ => [(5, .int x38), (4, .int r18), (3, .int r13), (2, .int (y3.2.1 0)), (1, .int (y3.2.1 1)), (0, .ref (g 60))]) (fun x : LZ => [.int (x.2.1 0), .int r13, .int (y3.2.1 1)]) (fun x : LZ => (x.1 = σ4) ∧ ((1 : Int) ≤ (x.2.1 0).toInt ∧ (x.2.1 0).toInt ≤ 2147483644) ∧ True) ?_ ?_
        ·
          intro y41 hI40 H locs ls hP hS hl
          rw [show y41.1 = σ4 from hI40.1] at hP
          have b42 : (1 : Int) ≤ (y41.2.1 0).toInt ∧ (y41.2.1 0).toInt ≤ 2147483644 := hI40.2.1
          have hl : lv_has ls 6 [(5, .int x38), (4, .int r18), (3, .int r13), (2, .int (y3.2.1 0)), (1, .int (y3.2.1 1)), (0, .ref (g 60))] := hl
          refine W.eq (g2 := F0 m 97 ls [.int (y41.2.1 0), .int r13, .int (y3.2.1 1)]) rfl ?_
          refine lv_imul hx hb dX9_laysLoads_97 ?_
          refine lv_topi (fun x43 ex43 => ?_)
          refine lv_iadd hx hb dX9_laysLoads_98 ?_
          refine lv_topi (fun x44 ex44 => ?_)
          refine lv_istore_n (lv' := [(1, .int x44), (5, .int x38), (4, .int r18), (3, .int r13), (2, .int (y3.2.1 0)), (0, .ref (g 60))]) hx hb dX9_laysLoads_99 rfl hl (by decide) rfl (fun ls hl => ?_)
          exact nj22 (σ4, lf [x44], lg []) ⟨rfl, trivial⟩ _ _ _ hP hS (lv_sub hl [2, 3, 4, 0, 5] rfl)
        ·
          intro nj39
          refine lv_icmp_le (tgt := 96) hx hb dX9_laysLoads_86 (by decide) (fun c45 => ?_) (fun c45 => ?_)
          ·
            have k46 := ple32 c45
            refine lv_iconst (v := 1) hx hb dX9_laysLoads_96 (by decide) ?_
            exact nj39 (σ4, lf [1], lg []) ⟨rfl, (show (1 : Int) ≤ (1 : Int32).toInt ∧ (1 : Int32).toInt ≤ 2147483644 from (by have z1 : (1 : Int32).toInt = 1 := (by decide); omega)), trivial⟩ _ _ _ hP hS (lv_sub hl [0, 1, 2, 3, 4, 5] rfl)
          ·
            have k47 := nle32 c45
            refine lv_iload hx hb dX9_laysLoads_89 (lv_at hl 0 rfl) ?_
            refine lv_iconst (v := 3) hx hb dX9_laysLoads_91 (by decide) ?_
            refine lv_isub hx hb dX9_laysLoads_92 ?_
            refine lv_topi (fun x48 ex48 => ?_)
            have t49 := subO ex48 (by have f0 := k47; have g0 := rg32 x38; have z3 : (3 : Int32).toInt = 3 := (by decide); have z4 : (4 : Int32).toInt = 4 := (by decide); omega)
            refine lv_goto (tgt := 97) hx hb dX9_laysLoads_93 (by decide) ?_
            exact nj39 (σ4, lf [x48], lg []) ⟨rfl, (show (1 : Int) ≤ (x48 : Int32).toInt ∧ (x48 : Int32).toInt ≤ 2147483644 from (by have f0 := t49; have f1 := k47; have g0 := rg32 x38; have g1 := rg32 x48; have z3 : (3 : Int32).toInt = 3 := (by decide); have z4 : (4 : Int32).toInt = 4 := (by decide); omega)), trivial⟩ _ _ _ hP hS (lv_sub hl [0, 1, 2, 3, 4, 5] rfl)
      ·
        have k50 := peq32 c30
        refine lv_iload_n hx hb dX9_laysLoads_41 rfl (lv_at hl 3 rfl) ?_
        refine lv_iconst (v := 2) hx hb dX9_laysLoads_42 (by decide) ?_
        refine lv_iload_n hx hb dX9_laysLoads_43 rfl (lv_at hl 1 rfl) ?_
        refine lv_imul hx hb dX9_laysLoads_44 ?_
        refine lv_topi (fun x51 ex51 => ?_)
        have t52 := mulC' (n := 2) ex51 (by decide) (by have f0 := b16; have f1 := b17; have g0 := rg32 r13; have z1 : (1 : Int32).toInt = 1 := (by decide); omega)
        refine cut9 (D := D) (cy := cy) (g := g) (A := A9 cy g s.heap.size) (H0 := s.heap) 6 57 (fun x : LZ => [(4, .int r18), (3, .int r13), (2, .int (y3.2.1 0)), (1, .int (y3.2.1 1)), (0, .ref (g 60))]) (fun x : LZ => [.int (x.2.1 0)]) (fun x : LZ => (x.1 = σ4) ∧ True) ?_ ?_
        ·
          intro y55 hI54 H locs ls hP hS hl
          rw [show y55.1 = σ4 from hI54.1] at hP
          have hl : lv_has ls 6 [(4, .int r18), (3, .int r13), (2, .int (y3.2.1 0)), (1, .int (y3.2.1 1)), (0, .ref (g 60))] := hl
          refine W.eq (g2 := F0 m 57 ls [.int (y55.2.1 0)]) rfl ?_
          refine lv_istore_n (lv' := [(1, .int (y55.2.1 0)), (4, .int r18), (3, .int r13), (2, .int (y3.2.1 0)), (0, .ref (g 60))]) hx hb dX9_laysLoads_57 rfl hl (by decide) rfl (fun ls hl => ?_)
          refine lv_goto (tgt := 100) hx hb dX9_laysLoads_58 (by decide) ?_
          exact nj22 (σ4, lf [(y55.2.1 0)], lg []) ⟨rfl, trivial⟩ _ _ _ hP hS (lv_sub hl [1, 2, 3, 0, 4] rfl)
        ·
          intro nj53
          refine lv_icmp_ge (tgt := 52) hx hb dX9_laysLoads_45 (by decide) (fun c56 => ?_) (fun c56 => ?_)
          ·
            have k57 := ple32 c56
            refine lv_iload_n hx hb dX9_laysLoads_52 rfl (lv_at hl 3 rfl) ?_
            refine lv_iconst (v := 2) hx hb dX9_laysLoads_53 (by decide) ?_
            refine lv_iload_n hx hb dX9_laysLoads_54 rfl (lv_at hl 1 rfl) ?_
            refine lv_imul hx hb dX9_laysLoads_55 ?_
            refine lv_topi (fun x58 ex58 => ?_)
            have t59 := mulC' (n := 2) ex58 (by decide) (by have f0 := b16; have f1 := b17; have f2 := t52; have f3 := k57; have g0 := rg32 (y3.2.1 1); have g1 := rg32 r13; have z1 : (1 : Int32).toInt = 1 := (by decide); omega)
            refine lv_isub hx hb dX9_laysLoads_56 ?_
            refine lv_topi (fun x60 ex60 => ?_)
            exact nj53 (σ4, lf [x60], lg []) ⟨rfl, trivial⟩ _ _ _ hP hS (lv_sub hl [0, 1, 2, 3, 4] rfl)
          ·
            have k61 := nle32 c56
            refine lv_iconst (v := 0) hx hb dX9_laysLoads_48 (by decide) ?_
            refine lv_goto (tgt := 57) hx hb dX9_laysLoads_49 (by decide) ?_
            exact nj53 (σ4, lf [0], lg []) ⟨rfl, trivial⟩ _ _ _ hP hS (lv_sub hl [0, 1, 2, 3, 4] rfl)

theorem q1975 : Cond.code yX9_load cX9_load 4 (some .int) ∈ lw_g := lw_gm (List.mem_of_getElem? (i := 1975) (by decide +kernel)) rfl
theorem q1976 : Cond.methodLink RX9 473 yX9_laysLoads ∈ lw_g := lw_gm (List.mem_of_getElem? (i := 1976) (by decide +kernel)) rfl
theorem q1978 : Cond.instanceMethod yX9_laysLoads ∈ lw_g := lw_gm (List.mem_of_getElem? (i := 1978) (by decide +kernel)) rfl
theorem q109 : Cond.selects RX9 yX9_laysLoads yX9_laysLoads ∈ lw_g := lw_gm (List.mem_of_getElem? (i := 109) (by decide +kernel)) rfl
theorem dX9_load_0 : decode cX9_load 0 = .ok (.aload_n 0, 1) := by decide +kernel
theorem dX9_load_1 : decode cX9_load 1 = .ok (.iconst 0, 1) := by decide +kernel
theorem dX9_load_2 : decode cX9_load 2 = .ok (.putfield 129, 3) := by decide +kernel
theorem dX9_load_5 : decode cX9_load 5 = .ok (.aload_n 0, 1) := by decide +kernel
theorem dX9_load_6 : decode cX9_load 6 = .ok (.iload_n 1, 1) := by decide +kernel
theorem dX9_load_7 : decode cX9_load 7 = .ok (.iload_n 2, 1) := by decide +kernel
theorem dX9_load_8 : decode cX9_load 8 = .ok (.invokevirtual 433, 3) := by decide +kernel
theorem dX9_load_11 : decode cX9_load 11 = .ok (.ifCond .eq 12, 3) := by decide +kernel
theorem dX9_load_14 : decode cX9_load 14 = .ok (.aload_n 0, 1) := by decide +kernel
theorem dX9_load_15 : decode cX9_load 15 = .ok (.iload_n 2, 1) := by decide +kernel
theorem dX9_load_16 : decode cX9_load 16 = .ok (.iload_n 3, 1) := by decide +kernel
theorem dX9_load_17 : decode cX9_load 17 = .ok (.invokevirtual 320, 3) := by decide +kernel
theorem dX9_load_20 : decode cX9_load 20 = .ok (.ifCond .ne 6, 3) := by decide +kernel
theorem dX9_load_23 : decode cX9_load 23 = .ok (.bipush (-2), 2) := by decide +kernel
theorem dX9_load_25 : decode cX9_load 25 = .ok (.ireturn, 1) := by decide +kernel
theorem dX9_load_26 : decode cX9_load 26 = .ok (.aload_n 0, 1) := by decide +kernel
theorem dX9_load_27 : decode cX9_load 27 = .ok (.iload_n 1, 1) := by decide +kernel
theorem dX9_load_28 : decode cX9_load 28 = .ok (.iload_n 2, 1) := by decide +kernel
theorem dX9_load_29 : decode cX9_load 29 = .ok (.invokevirtual 436, 3) := by decide +kernel
theorem dX9_load_32 : decode cX9_load 32 = .ok (.ifCond .ne 5, 3) := by decide +kernel
theorem dX9_load_35 : decode cX9_load 35 = .ok (.iconst (-1), 1) := by decide +kernel
theorem dX9_load_36 : decode cX9_load 36 = .ok (.ireturn, 1) := by decide +kernel
theorem dX9_load_37 : decode cX9_load 37 = .ok (.aload_n 0, 1) := by decide +kernel
theorem dX9_load_38 : decode cX9_load 38 = .ok (.invokevirtual 473, 3) := by decide +kernel
theorem dX9_load_41 : decode cX9_load 41 = .ok (.aload_n 0, 1) := by decide +kernel
theorem dX9_load_42 : decode cX9_load 42 = .ok (.getfield 107, 3) := by decide +kernel
theorem dX9_load_45 : decode cX9_load 45 = .ok (.iload_n 3, 1) := by decide +kernel
theorem dX9_load_46 : decode cX9_load 46 = .ok (.iaload, 1) := by decide +kernel
theorem dX9_load_47 : decode cX9_load 47 = .ok (.ireturn, 1) := by decide +kernel
set_option maxHeartbeats 4000000 in
set_option maxRecDepth 100000 in
theorem m_X9_load (l : Launch) (D : va_G) (cy : Nat → ClassId) (g : Nat → Nat) (σ : ST) (p1 : Int32) (p2 : Int32) (p3 : Int32) (sz : Nat) (hJ : J9 (σ 9)) (kDK0 : DK0 (σ 9)) : Met l yX9_load (ww yX9_load cX9_load 4 (some .int)) ({ frames := 8, cells := 0, slots := 0, locals := 512 }) (va_Pc [.ref (g 60), .int p1, .int p2, .int p3] (pr9 D cy g σ sz)) (qi9 D cy g sz (fun r τ => Fr (fL [0, 23, 24, 25, 26, 27, 28, 29, 30, 31, 32, 33, 34, 35, 36, 37, 38, 39, 40, 41, 49]) σ τ ∧ J9 (τ 9) ∧ True)) 0 0 (A9 cy g sz) := by
  refine Met.ofW (cc := cX9_load) (maxL := 4) (ret := (some .int)) (by decide) rfl ?_
  intro p e s m args below meth c s₁ B hml hv
  obtain ⟨rfl, hsz, hP, hK, hD0, hC⟩ := hv
  have hx := B.exec
  have hb := B.bytes
  have hr := B.returns
  have hts := hts_g (atoms_spec (ws := ww yX9_load cX9_load 4 (some .int)) B.pre)
  have hown : s.vm.findClass RX9 = some m.cls := findClass_of_methodNamed B.named
  have hlocks := B.notSynchronized
  clear B
  subst hsz
  have hD := fun τ => A9_D (sz := s.heap.size) hD0 τ
  clear hD0
  have hS : va_S (A9 cy g s.heap.size) s.heap s.heap [] := va_S.rf
  have hl := lv_entry ([.ref (g 60), .int p1, .int p2, .int p3]) (n := 4) (Nat.le_of_ble_eq_true rfl)
  rw [lg_entry_eq]
  generalize (lg_sl ([.ref (g 60), .int p1, .int p2, .int p3]) ++ List.replicate (4 - (lg_sl ([.ref (g 60), .int p1, .int p2, .int p3])).length) Slot.unset).toArray = ls at hl ⊢
  have hl : lv_has ls 4 [(0, .ref (g 60)), (1, .int p1), (2, .int p2), (3, .int p3)] := hl
  refine lv_aload_n hx hb dX9_load_0 rfl (lv_at hl 0 rfl) ?_
  refine lv_iconst (v := 0) hx hb dX9_load_1 (by decide) ?_
  refine p9_0 hx hb hts hown hK hP hD hS (hts _ q1360) dX9_load_2 (fun H locs σ1 eσ1 hP hS => ?_)
  have hJ2 : J9 (σ1 9) := hJ.I eσ1 (show JI9 0 (0 : Int32) from trivial)
  have T3 : DK0 (σ1 9) := DK0.mv kDK0 ((sI_f eσ1) 9 17 rfl).2.2.1 ((sI_f eσ1) 9 18 rfl).2.2.1 ((sI_f eσ1) 9 19 rfl).2.2.1
  refine lv_aload_n hx hb dX9_load_5 rfl (lv_at hl 0 rfl) ?_
  refine lv_iload_n hx hb dX9_load_6 rfl (lv_at hl 1 rfl) ?_
  refine lv_iload_n hx hb dX9_load_7 rfl (lv_at hl 2 rfl) ?_
  refine va_calli (va_runV (As := [.int p1, .int p2]) (rest := []) ⟨hx, hb, hml, hown, hts⟩ (m_X9_isPlaying l D cy g σ1 p1 p2 _ hJ2 ) (cwV 2 hts (gd_V q1822 q1824 q87 q134 q1825) rfl rfl rfl (by decide +kernel) ⟨Nat.le_of_ble_eq_true rfl, Nat.le_of_ble_eq_true rfl⟩) (pv9 hP hK hD hC hS (va_recv hK hP (ci := 9) (q0 := 0) rfl rfl)) rfl rfl hl.1 rfl (lv_room (Nat.le_of_ble_eq_true rfl)) dX9_load_8 ⟨Nat.le_of_ble_eq_true rfl, Nat.le_of_ble_eq_true rfl⟩) hS (fun q _ h => up9 hS q h) (up9 hS) (fun r4 σ5 tS H1 locs ht hvm hw6 hB hz1 hk1 hS => ?_)
  have hP : va_P D clz (WD9 cy g σ5) H1 := by rw [← ht]; exact hB
  clear hB hz1 hk1 hvm ht
  generalize H1 = H at hP hS ⊢
  have hw6E : σ1 = σ5 := (hw6.1).symm
  subst hw6E
  have b7 : (0 : Int) ≤ r4.toInt ∧ r4.toInt ≤ 1 := hw6.2.1
  have b8 : (r4.toInt = 0) ∨ ((0 : Int) ≤ p1.toInt ∧ p1.toInt ≤ 8 ∧ (0 : Int) ≤ p2.toInt ∧ p2.toInt ≤ 2) := hw6.2.2.1
  have b9 : (r4.toInt = 0) ∨ (p1.toInt < ((σ1 9).2.2.1 17 3).toInt) := hw6.2.2.2.1
  refine lv_if_eq (tgt := 23) hx hb dX9_load_11 (by decide) (fun c10 => ?_) (fun c10 => ?_)
  ·
    have k11 := peq32 c10
    refine lv_bipush (v := (-2)) hx hb dX9_load_23 (by decide) ?_
    exact W.iret (v := (-2)) hx hb hr (fun tS ht hW => ⟨⟨(-2), σ1, rfl, ⟨Fr.tr (Fr.rf) (sI_f eσ1) (fN_L rfl), hJ2, trivial⟩, (show va_P D clz (WD9 cy g σ1) tS.heap by rw [ht]; exact hP)⟩, hS.F ht⟩) hS.2.2 dX9_load_25
  ·
    have k12 := neq32 c10
    refine lv_aload_n hx hb dX9_load_14 rfl (lv_at hl 0 rfl) ?_
    refine lv_iload_n hx hb dX9_load_15 rfl (lv_at hl 2 rfl) ?_
    refine lv_iload_n hx hb dX9_load_16 rfl (lv_at hl 3 rfl) ?_
    refine va_calli (va_runV (As := [.int p2, .int p3]) (rest := []) ⟨hx, hb, hml, hown, hts⟩ (m_X9_isTone l D cy g σ1 p2 p3 _ hJ2 ) (cwV 2 hts (gd_V q1718 q1720 q73 q134 q1721) rfl rfl rfl (by decide +kernel) ⟨Nat.le_of_ble_eq_true rfl, Nat.le_of_ble_eq_true rfl⟩) (pv9 hP hK hD hC hS (va_recv hK hP (ci := 9) (q0 := 0) rfl rfl)) rfl rfl hl.1 rfl (lv_room (Nat.le_of_ble_eq_true rfl)) dX9_load_17 ⟨Nat.le_of_ble_eq_true rfl, Nat.le_of_ble_eq_true rfl⟩) hS (fun q _ h => up9 hS q h) (up9 hS) (fun r13 σ14 tS H1 locs ht hvm hw15 hB hz1 hk1 hS => ?_)
    have hP : va_P D clz (WD9 cy g σ14) H1 := by rw [← ht]; exact hB
    clear hB hz1 hk1 hvm ht
    generalize H1 = H at hP hS ⊢
    have hw15E : σ1 = σ14 := (hw15.1).symm
    subst hw15E
    have b16 : (0 : Int) ≤ r13.toInt ∧ r13.toInt ≤ 1 := hw15.2.1
    have b17 : (r13.toInt = 0) ∨ ((0 : Int) ≤ p2.toInt ∧ p2.toInt ≤ 2 ∧ (0 : Int) ≤ p3.toInt ∧ p3.toInt ≤ 15) := hw15.2.2.1
    refine lv_if_ne (tgt := 26) hx hb dX9_load_20 (by decide) (fun c18 => ?_) (fun c18 => ?_)
    ·
      have k19 := neq32 c18
      refine lv_aload_n hx hb dX9_load_26 rfl (lv_at hl 0 rfl) ?_
      refine lv_iload_n hx hb dX9_load_27 rfl (lv_at hl 1 rfl) ?_
      refine lv_iload_n hx hb dX9_load_28 rfl (lv_at hl 2 rfl) ?_
      refine va_calli (va_runV (As := [.int p1, .int p2]) (rest := []) ⟨hx, hb, hml, hown, hts⟩ (m_X9_isBest l D cy g σ1 p1 p2 _ hJ2 T3 (show (0 : Int) ≤ p1.toInt ∧ p1.toInt ≤ 8 from (by have f0 := b8; have f1 := b9; have f2 := a9_17 hJ2 (j := 3) rfl; have f3 := congrArg Int32.toInt (show ((σ1 9).2.2.1 17 3) = ((σ 9).2.2.1 17 3) from congrFun (((sI_f eσ1) 9 17 rfl).2.2.1) _); have f4 := b7; have f5 := k12; have f6 := b17; have f7 := a9_17 hJ (j := 3) rfl; have f8 := b16; have f9 := k19; have g2 := rg32 p1; have z0 : (0 : Int32).toInt = 0 := (by decide); omega)) (show (0 : Int) ≤ p2.toInt ∧ p2.toInt ≤ 2 from (by have f0 := b8; have f1 := b9; have f2 := b17; have f3 := a9_17 hJ2 (j := 3) rfl; have f4 := congrArg Int32.toInt (show ((σ1 9).2.2.1 17 3) = ((σ 9).2.2.1 17 3) from congrFun (((sI_f eσ1) 9 17 rfl).2.2.1) _); have f5 := b7; have f6 := k12; have f7 := b16; have f8 := k19; have f9 := a9_17 hJ (j := 3) rfl; have g2 := rg32 p1; have g3 := rg32 p2; have z0 : (0 : Int32).toInt = 0 := (by decide); omega)) (show p1.toInt < ((σ1 9).2.2.1 17 3).toInt from (by have f0 := a9_17 hJ2 (j := 3) rfl; have f1 := congrArg Int32.toInt (show ((σ1 9).2.2.1 17 3) = ((σ 9).2.2.1 17 3) from congrFun (((sI_f eσ1) 9 17 rfl).2.2.1) _); have f2 := b8; have f3 := b9; have f4 := a9_17 hJ (j := 3) rfl; have f5 := b7; have f6 := k12; have f7 := b17; have f8 := b16; have f9 := k19; have g2 := rg32 p1; have z0 : (0 : Int32).toInt = 0 := (by decide); omega))) (cwV 2 hts (gd_V q1826 q1828 q88 q134 q1829) rfl rfl rfl (by decide +kernel) ⟨Nat.le_of_ble_eq_true rfl, Nat.le_of_ble_eq_true rfl⟩) (pv9 hP hK hD hC hS (va_recv hK hP (ci := 9) (q0 := 0) rfl rfl)) rfl rfl hl.1 rfl (lv_room (Nat.le_of_ble_eq_true rfl)) dX9_load_29 ⟨Nat.le_of_ble_eq_true rfl, Nat.le_of_ble_eq_true rfl⟩) hS (fun q _ h => up9 hS q h) (up9 hS) (fun r20 σ21 tS H1 locs ht hvm hw22 hB hz1 hk1 hS => ?_)
      have hP : va_P D clz (WD9 cy g σ21) H1 := by rw [← ht]; exact hB
      clear hB hz1 hk1 hvm ht
      generalize H1 = H at hP hS ⊢
      have hF23 : Fr (fL [23, 24, 25, 26, 27, 28, 29, 30, 31, 32, 33, 34, 35, 36, 37, 38, 39, 40, 41]) σ1 σ21 := hw22.1
      have hJ24 : J9 (σ21 9) := hw22.2.1
      have b25 : (0 : Int) ≤ r20.toInt ∧ r20.toInt ≤ 1 := hw22.2.2.1
      have T26 : DK0 (σ21 9) := DK0.mv T3 (hF23 9 17 rfl).2.2.1 (hF23 9 18 rfl).2.2.1 (hF23 9 19 rfl).2.2.1
      refine lv_if_ne (tgt := 37) hx hb dX9_load_32 (by decide) (fun c27 => ?_) (fun c27 => ?_)
      ·
        have k28 := neq32 c27
        refine lv_aload_n hx hb dX9_load_37 rfl (lv_at hl 0 rfl) ?_
        refine va_callv (va_runV (As := []) (rest := []) ⟨hx, hb, hml, hown, hts⟩ (m_X9_laysLoads l D cy g σ21  _ hJ24 ) (cwV 0 hts (gd_V q1976 q1978 q109 q134 q1979) rfl rfl rfl (by decide +kernel) ⟨Nat.le_of_ble_eq_true rfl, Nat.le_of_ble_eq_true rfl⟩) (pv9 hP hK hD hC hS (va_recv hK hP (ci := 9) (q0 := 0) rfl rfl)) rfl rfl hl.1 rfl (lv_room (Nat.le_of_ble_eq_true rfl)) dX9_load_38 ⟨Nat.le_of_ble_eq_true rfl, Nat.le_of_ble_eq_true rfl⟩) hS (fun q _ h => up9 hS q h) (up9 hS) (fun σ30 tS H1 locs ht hvm hw31 hB hz1 hk1 hS => ?_)
        have hP : va_P D clz (WD9 cy g σ30) H1 := by rw [← ht]; exact hB
        clear hB hz1 hk1 hvm ht
        generalize H1 = H at hP hS ⊢
        have hF32 : Fr (fL [49]) σ21 σ30 := hw31.1
        have hJ33 : J9 (σ30 9) := hw31.2.1
        have T34 : DK0 (σ30 9) := DK0.mv T26 (hF32 9 17 rfl).2.2.1 (hF32 9 18 rfl).2.2.1 (hF32 9 19 rfl).2.2.1
        refine lv_aload_n hx hb dX9_load_41 rfl (lv_at hl 0 rfl) ?_
        refine g9_49 hx hb hts hown hK hP (hts _ q1409) dX9_load_42 ?_
        refine lv_iload_n hx hb dX9_load_45 rfl (lv_at hl 3 rfl) ?_
        obtain ⟨x35, ex35⟩ : ∃ z, (σ30 9).2.2.1 49 p3.toInt.toNat = z := ⟨_, rfl⟩
        refine l9_49 (x := x35) hx hb hK hP (vpo (by have f0 := b17; have f1 := b8; have f2 := b16; have f3 := k19; have f4 := b7; have f5 := b9; have f6 := k12; have f7 := a9_17 hJ2 (j := 3) rfl; have f8 := congrArg Int32.toInt (show ((σ1 9).2.2.1 17 3) = ((σ 9).2.2.1 17 3) from congrFun (((sI_f eσ1) 9 17 rfl).2.2.1) _); have f9 := a9_17 hJ (j := 3) rfl; have g2 := rg32 p3; have z0 : (0 : Int32).toInt = 0 := (by decide); omega)) ex35 dX9_load_46 ?_
        exact W.iret (v := x35) hx hb hr (fun tS ht hW => ⟨⟨x35, σ30, rfl, ⟨Fr.tr (Fr.tr (Fr.tr (Fr.rf) (sI_f eσ1) (fN_L rfl)) hF23 (fL_sub rfl)) hF32 (fL_sub rfl), hJ33, trivial⟩, (show va_P D clz (WD9 cy g σ30) tS.heap by rw [ht]; exact hP)⟩, hS.F ht⟩) hS.2.2 dX9_load_47
      ·
        have k36 := peq32 c27
        refine lv_iconst (v := (-1)) hx hb dX9_load_35 (by decide) ?_
        exact W.iret (v := (-1)) hx hb hr (fun tS ht hW => ⟨⟨(-1), σ21, rfl, ⟨Fr.tr (Fr.tr (Fr.rf) (sI_f eσ1) (fN_L rfl)) hF23 (fL_sub rfl), hJ24, trivial⟩, (show va_P D clz (WD9 cy g σ21) tS.heap by rw [ht]; exact hP)⟩, hS.F ht⟩) hS.2.2 dX9_load_36
    ·
      have k37 := peq32 c18
      refine lv_bipush (v := (-2)) hx hb dX9_load_23 (by decide) ?_
      exact W.iret (v := (-2)) hx hb hr (fun tS ht hW => ⟨⟨(-2), σ1, rfl, ⟨Fr.tr (Fr.rf) (sI_f eσ1) (fN_L rfl), hJ2, trivial⟩, (show va_P D clz (WD9 cy g σ1) tS.heap by rw [ht]; exact hP)⟩, hS.F ht⟩) hS.2.2 dX9_load_25

theorem q1987 : Cond.code yX9_tiredOf cX9_tiredOf 3 (some .int) ∈ lw_g := lw_gm (List.mem_of_getElem? (i := 1987) (by decide +kernel)) rfl
theorem dX9_tiredOf_0 : decode cX9_tiredOf 0 = .ok (.aload_n 0, 1) := by decide +kernel
theorem dX9_tiredOf_1 : decode cX9_tiredOf 1 = .ok (.invokevirtual 473, 3) := by decide +kernel
theorem dX9_tiredOf_4 : decode cX9_tiredOf 4 = .ok (.iconst 0, 1) := by decide +kernel
theorem dX9_tiredOf_5 : decode cX9_tiredOf 5 = .ok (.istore_n 2, 1) := by decide +kernel
theorem dX9_tiredOf_6 : decode cX9_tiredOf 6 = .ok (.iload_n 2, 1) := by decide +kernel
theorem dX9_tiredOf_7 : decode cX9_tiredOf 7 = .ok (.aload_n 0, 1) := by decide +kernel
theorem dX9_tiredOf_8 : decode cX9_tiredOf 8 = .ok (.getfield 43, 3) := by decide +kernel
theorem dX9_tiredOf_11 : decode cX9_tiredOf 11 = .ok (.aload_n 0, 1) := by decide +kernel
theorem dX9_tiredOf_12 : decode cX9_tiredOf 12 = .ok (.getfield 384, 3) := by decide +kernel
theorem dX9_tiredOf_15 : decode cX9_tiredOf 15 = .ok (.iaload, 1) := by decide +kernel
theorem dX9_tiredOf_16 : decode cX9_tiredOf 16 = .ok (.if_icmp .ge 30, 3) := by decide +kernel
theorem dX9_tiredOf_19 : decode cX9_tiredOf 19 = .ok (.aload_n 0, 1) := by decide +kernel
theorem dX9_tiredOf_20 : decode cX9_tiredOf 20 = .ok (.getfield 107, 3) := by decide +kernel
theorem dX9_tiredOf_23 : decode cX9_tiredOf 23 = .ok (.iload_n 2, 1) := by decide +kernel
theorem dX9_tiredOf_24 : decode cX9_tiredOf 24 = .ok (.iaload, 1) := by decide +kernel
theorem dX9_tiredOf_25 : decode cX9_tiredOf 25 = .ok (.aload_n 0, 1) := by decide +kernel
theorem dX9_tiredOf_26 : decode cX9_tiredOf 26 = .ok (.getfield 40, 3) := by decide +kernel
theorem dX9_tiredOf_29 : decode cX9_tiredOf 29 = .ok (.iconst 4, 1) := by decide +kernel
theorem dX9_tiredOf_30 : decode cX9_tiredOf 30 = .ok (.iload_n 1, 1) := by decide +kernel
theorem dX9_tiredOf_31 : decode cX9_tiredOf 31 = .ok (.imul, 1) := by decide +kernel
theorem dX9_tiredOf_32 : decode cX9_tiredOf 32 = .ok (.iconst 3, 1) := by decide +kernel
theorem dX9_tiredOf_33 : decode cX9_tiredOf 33 = .ok (.iadd, 1) := by decide +kernel
theorem dX9_tiredOf_34 : decode cX9_tiredOf 34 = .ok (.iaload, 1) := by decide +kernel
theorem dX9_tiredOf_35 : decode cX9_tiredOf 35 = .ok (.if_icmp .le 5, 3) := by decide +kernel
theorem dX9_tiredOf_38 : decode cX9_tiredOf 38 = .ok (.iload_n 2, 1) := by decide +kernel
theorem dX9_tiredOf_39 : decode cX9_tiredOf 39 = .ok (.ireturn, 1) := by decide +kernel
theorem dX9_tiredOf_40 : decode cX9_tiredOf 40 = .ok (.iinc 2 1, 3) := by decide +kernel
theorem dX9_tiredOf_43 : decode cX9_tiredOf 43 = .ok (.goto (-37), 3) := by decide +kernel
theorem dX9_tiredOf_46 : decode cX9_tiredOf 46 = .ok (.iconst (-1), 1) := by decide +kernel
theorem dX9_tiredOf_47 : decode cX9_tiredOf 47 = .ok (.ireturn, 1) := by decide +kernel
set_option maxHeartbeats 4000000 in
set_option maxRecDepth 100000 in
theorem m_X9_tiredOf (l : Launch) (D : va_G) (cy : Nat → ClassId) (g : Nat → Nat) (σ : ST) (p1 : Int32) (sz : Nat) (hJ : J9 (σ 9)) (h0 : (0 : Int) ≤ p1.toInt ∧ p1.toInt ≤ 8) : Met l yX9_tiredOf (ww yX9_tiredOf cX9_tiredOf 3 (some .int)) ({ frames := 3, cells := 0, slots := 0, locals := 192 }) (va_Pc [.ref (g 60), .int p1] (pr9 D cy g σ sz)) (qi9 D cy g sz (fun r τ => Fr (fL [49]) σ τ ∧ J9 (τ 9) ∧ ((-1 : Int) ≤ r.toInt ∧ r.toInt ≤ 15) ∧ True)) 0 0 (A9 cy g sz) := by
  refine Met.ofW (cc := cX9_tiredOf) (maxL := 3) (ret := (some .int)) (by decide) rfl ?_
  intro p e s m args below meth c s₁ B hml hv
  obtain ⟨rfl, hsz, hP, hK, hD0, hC⟩ := hv
  have hx := B.exec
  have hb := B.bytes
  have hr := B.returns
  have hts := hts_g (atoms_spec (ws := ww yX9_tiredOf cX9_tiredOf 3 (some .int)) B.pre)
  have hown : s.vm.findClass RX9 = some m.cls := findClass_of_methodNamed B.named
  have hlocks := B.notSynchronized
  clear B
  subst hsz
  have hD := fun τ => A9_D (sz := s.heap.size) hD0 τ
  clear hD0
  have hS : va_S (A9 cy g s.heap.size) s.heap s.heap [] := va_S.rf
  have hl := lv_entry ([.ref (g 60), .int p1]) (n := 3) (Nat.le_of_ble_eq_true rfl)
  rw [lg_entry_eq]
  generalize (lg_sl ([.ref (g 60), .int p1]) ++ List.replicate (3 - (lg_sl ([.ref (g 60), .int p1])).length) Slot.unset).toArray = ls at hl ⊢
  have hl : lv_has ls 3 [(0, .ref (g 60)), (1, .int p1)] := hl
  refine lv_aload_n hx hb dX9_tiredOf_0 rfl (lv_at hl 0 rfl) ?_
  refine va_callv (va_runV (As := []) (rest := []) ⟨hx, hb, hml, hown, hts⟩ (m_X9_laysLoads l D cy g σ  _ hJ ) (cwV 0 hts (gd_V q1976 q1978 q109 q134 q1979) rfl rfl rfl (by decide +kernel) ⟨Nat.le_of_ble_eq_true rfl, Nat.le_of_ble_eq_true rfl⟩) (pv9 hP hK hD hC hS (va_recv hK hP (ci := 9) (q0 := 0) rfl rfl)) rfl rfl hl.1 rfl (lv_room (Nat.le_of_ble_eq_true rfl)) dX9_tiredOf_1 ⟨Nat.le_of_ble_eq_true rfl, Nat.le_of_ble_eq_true rfl⟩) hS (fun q _ h => up9 hS q h) (up9 hS) (fun σ2 tS H1 locs ht hvm hw3 hB hz1 hk1 hS => ?_)
  have hP : va_P D clz (WD9 cy g σ2) H1 := by rw [← ht]; exact hB
  clear hB hz1 hk1 hvm ht
  generalize H1 = H at hP hS ⊢
  have hF4 : Fr (fL [49]) σ σ2 := hw3.1
  have hJ5 : J9 (σ2 9) := hw3.2.1
  refine lv_iconst (v := 0) hx hb dX9_tiredOf_4 (by decide) ?_
  refine lv_istore_n (lv' := [(2, .int 0), (0, .ref (g 60)), (1, .int p1)]) hx hb dX9_tiredOf_5 rfl hl (by decide) rfl (fun ls hl => ?_)
  refine loop9 3 6 (fun x : LZ => [(2, .int (x.2.1 0)), (0, .ref (g 60)), (1, .int p1)]) (fun x : LZ => (x.1 = σ2) ∧ ((0 : Int) ≤ (x.2.1 0).toInt ∧ (x.2.1 0).toInt ≤ 16) ∧ True) (fun x : LZ => ((17 : Int) - (x.2.1 0).toInt).toNat) ?_ (σ2, lf [0], lg []) ⟨rfl, (show (0 : Int) ≤ (0 : Int32).toInt ∧ (0 : Int32).toInt ≤ 16 from (by have z0 : (0 : Int32).toInt = 0 := (by decide); omega)), trivial⟩ _ _ _ hP hS (lv_sub hl [0, 1, 2] rfl)
  intro y8 hI7 nl6 H locs ls hP hS hl
  rw [show y8.1 = σ2 from hI7.1] at hP
  have b9 : (0 : Int) ≤ (y8.2.1 0).toInt ∧ (y8.2.1 0).toInt ≤ 16 := hI7.2.1
  have hl : lv_has ls 3 [(2, .int (y8.2.1 0)), (0, .ref (g 60)), (1, .int p1)] := hl
  refine lv_iload_n hx hb dX9_tiredOf_6 rfl (lv_at hl 0 rfl) ?_
  refine lv_aload_n hx hb dX9_tiredOf_7 rfl (lv_at hl 1 rfl) ?_
  refine g9_20 hx hb hts hown hK hP (hts _ q1380) dX9_tiredOf_8 ?_
  refine lv_aload_n hx hb dX9_tiredOf_11 rfl (lv_at hl 1 rfl) ?_
  refine g9_29 (x := ((σ 9).1 29)) hx hb hts hown hK hP ((hF4 9 29 rfl).1) (hts _ q1389) dX9_tiredOf_12 ?_
  obtain ⟨x10, ex10⟩ : ∃ z, (σ 9).2.2.1 20 ((σ 9).1 29).toInt.toNat = z := ⟨_, rfl⟩
  refine l9_20 (x := x10) hx hb hK hP (vpo (by have f0 := j9_29 hJ rfl; omega)) ((congrFun ((hF4 9 20 rfl).2.2.1) _).trans ex10) dX9_tiredOf_15 ?_
  have t11 := a9_20 hJ ex10
  refine lv_icmp_ge (tgt := 46) hx hb dX9_tiredOf_16 (by decide) (fun c12 => ?_) (fun c12 => ?_)
  ·
    have k13 := ple32 c12
    refine lv_iconst (v := (-1)) hx hb dX9_tiredOf_46 (by decide) ?_
    exact W.iret (v := (-1)) hx hb hr (fun tS ht hW => ⟨⟨(-1), σ2, rfl, ⟨Fr.tr (Fr.rf) hF4 (fL_sub rfl), hJ5, (show (-1 : Int) ≤ ((-1) : Int32).toInt ∧ ((-1) : Int32).toInt ≤ 15 from (by have zm1 : ((-1) : Int32).toInt = (-1) := (by decide); omega)), trivial⟩, (show va_P D clz (WD9 cy g σ2) tS.heap by rw [ht]; exact hP)⟩, hS.F ht⟩) hS.2.2 dX9_tiredOf_47
  ·
    have k14 := nle32 c12
    refine lv_aload_n hx hb dX9_tiredOf_19 rfl (lv_at hl 1 rfl) ?_
    refine g9_49 hx hb hts hown hK hP (hts _ q1409) dX9_tiredOf_20 ?_
    refine lv_iload_n hx hb dX9_tiredOf_23 rfl (lv_at hl 0 rfl) ?_
    obtain ⟨x15, ex15⟩ : ∃ z, (σ2 9).2.2.1 49 (y8.2.1 0).toInt.toNat = z := ⟨_, rfl⟩
    refine l9_49 (x := x15) hx hb hK hP (vpo (by have f0 := b9; have f1 := k14; have f2 := t11; have f3 := j9_29 hJ rfl; have g1 := rg32 (y8.2.1 0); omega)) ex15 dX9_tiredOf_24 ?_
    refine lv_aload_n hx hb dX9_tiredOf_25 rfl (lv_at hl 1 rfl) ?_
    refine g9_19 hx hb hts hown hK hP (hts _ q1379) dX9_tiredOf_26 ?_
    refine lv_iconst (v := 4) hx hb dX9_tiredOf_29 (by decide) ?_
    refine lv_iload_n hx hb dX9_tiredOf_30 rfl (lv_at hl 2 rfl) ?_
    refine lv_imul hx hb dX9_tiredOf_31 ?_
    refine lv_topi (fun x16 ex16 => ?_)
    have t17 := mulC' (n := 4) ex16 (by decide) (by have f0 := h0; have g0 := rg32 p1; omega)
    refine lv_iconst (v := 3) hx hb dX9_tiredOf_32 (by decide) ?_
    refine lv_iadd hx hb dX9_tiredOf_33 ?_
    refine lv_topi (fun x18 ex18 => ?_)
    have t19 := addO ex18 (by have f0 := t17; have f1 := h0; have g0 := rg32 x16; have z3 : (3 : Int32).toInt = 3 := (by decide); omega)
    obtain ⟨x20, ex20⟩ : ∃ z, (σ 9).2.2.1 19 x18.toInt.toNat = z := ⟨_, rfl⟩
    refine l9_19 (x := x20) hx hb hK hP (vpo (by have f0 := t19; have f1 := t17; have f2 := h0; have g0 := rg32 x18; have z3 : (3 : Int32).toInt = 3 := (by decide); omega)) ((congrFun ((hF4 9 19 rfl).2.2.1) _).trans ex20) dX9_tiredOf_34 ?_
    have t21 := a9_19 hJ ex20
    refine lv_icmp_le (tgt := 40) hx hb dX9_tiredOf_35 (by decide) (fun c22 => ?_) (fun c22 => ?_)
    ·
      have k23 := ple32 c22
      obtain ⟨x24, ex24⟩ : ∃ y : Int32, y = (y8.2.1 0) + 1 := ⟨_, rfl⟩
      have t25 := addO ex24 (by have f0 := b9; have f1 := k14; have f2 := t11; have f3 := j9_29 hJ rfl; have g1 := rg32 (y8.2.1 0); have z1 : (1 : Int32).toInt = 1 := (by decide); omega)
      refine lv_iinc (v := x24) (lv' := [(2, .int x24), (0, .ref (g 60)), (1, .int p1)]) hx hb dX9_tiredOf_40 hl (k := 0) rfl (by rw [ex24]; rfl) (by decide) rfl (fun ls hl => ?_)
      refine lv_goto (tgt := 6) hx hb dX9_tiredOf_43 (by decide) ?_
      have t26 : ((17 : Int) - x24.toInt).toNat < ((17 : Int) - (y8.2.1 0).toInt).toNat := (by have f0 := b9; have f1 := k14; have f2 := t25; have f3 := t11; have f4 := j9_29 hJ rfl; have g1 := rg32 (y8.2.1 0); have g2 := rg32 x24; have z1 : (1 : Int32).toInt = 1 := (by decide); omega)
      exact nl6 (σ2, lf [x24], lg []) ⟨rfl, (show (0 : Int) ≤ (x24 : Int32).toInt ∧ (x24 : Int32).toInt ≤ 16 from (by have f0 := t25; have f1 := b9; have f2 := k14; have f3 := t11; have f4 := j9_29 hJ rfl; have g1 := rg32 x24; have z1 : (1 : Int32).toInt = 1 := (by decide); omega)), trivial⟩ (show ((17 : Int) - x24.toInt).toNat < _ from t26) _ _ _ hP hS (lv_sub hl [0, 1, 2] rfl)
    ·
      have k27 := nle32 c22
      refine lv_iload_n hx hb dX9_tiredOf_38 rfl (lv_at hl 0 rfl) ?_
      exact W.iret (v := (y8.2.1 0)) hx hb hr (fun tS ht hW => ⟨⟨(y8.2.1 0), σ2, rfl, ⟨Fr.tr (Fr.rf) hF4 (fL_sub rfl), hJ5, (show (-1 : Int) ≤ (y8.2.1 0).toInt ∧ (y8.2.1 0).toInt ≤ 15 from (by have f0 := b9; have f1 := k14; have f2 := t11; have f3 := j9_29 hJ rfl; have g1 := rg32 (y8.2.1 0); omega)), trivial⟩, (show va_P D clz (WD9 cy g σ2) tS.heap by rw [ht]; exact hP)⟩, hS.F ht⟩) hS.2.2 dX9_tiredOf_39

theorem q1983 : Cond.code yX9_tired cX9_tired 3 (some .int) ∈ lw_g := lw_gm (List.mem_of_getElem? (i := 1983) (by decide +kernel)) rfl
theorem q1984 : Cond.methodLink RX9 476 yX9_tiredOf ∈ lw_g := lw_gm (List.mem_of_getElem? (i := 1984) (by decide +kernel)) rfl
theorem q1986 : Cond.instanceMethod yX9_tiredOf ∈ lw_g := lw_gm (List.mem_of_getElem? (i := 1986) (by decide +kernel)) rfl
theorem q110 : Cond.selects RX9 yX9_tiredOf yX9_tiredOf ∈ lw_g := lw_gm (List.mem_of_getElem? (i := 110) (by decide +kernel)) rfl
theorem dX9_tired_0 : decode cX9_tired 0 = .ok (.aload_n 0, 1) := by decide +kernel
theorem dX9_tired_1 : decode cX9_tired 1 = .ok (.iconst 0, 1) := by decide +kernel
theorem dX9_tired_2 : decode cX9_tired 2 = .ok (.putfield 129, 3) := by decide +kernel
theorem dX9_tired_5 : decode cX9_tired 5 = .ok (.aload_n 0, 1) := by decide +kernel
theorem dX9_tired_6 : decode cX9_tired 6 = .ok (.iload_n 1, 1) := by decide +kernel
theorem dX9_tired_7 : decode cX9_tired 7 = .ok (.iload_n 2, 1) := by decide +kernel
theorem dX9_tired_8 : decode cX9_tired 8 = .ok (.invokevirtual 433, 3) := by decide +kernel
theorem dX9_tired_11 : decode cX9_tired 11 = .ok (.ifCond .ne 8, 3) := by decide +kernel
theorem dX9_tired_14 : decode cX9_tired 14 = .ok (.bipush (-2), 2) := by decide +kernel
theorem dX9_tired_16 : decode cX9_tired 16 = .ok (.goto 21, 3) := by decide +kernel
theorem dX9_tired_19 : decode cX9_tired 19 = .ok (.aload_n 0, 1) := by decide +kernel
theorem dX9_tired_20 : decode cX9_tired 20 = .ok (.iload_n 1, 1) := by decide +kernel
theorem dX9_tired_21 : decode cX9_tired 21 = .ok (.iload_n 2, 1) := by decide +kernel
theorem dX9_tired_22 : decode cX9_tired 22 = .ok (.invokevirtual 436, 3) := by decide +kernel
theorem dX9_tired_25 : decode cX9_tired 25 = .ok (.ifCond .eq 11, 3) := by decide +kernel
theorem dX9_tired_28 : decode cX9_tired 28 = .ok (.aload_n 0, 1) := by decide +kernel
theorem dX9_tired_29 : decode cX9_tired 29 = .ok (.iload_n 1, 1) := by decide +kernel
theorem dX9_tired_30 : decode cX9_tired 30 = .ok (.invokevirtual 476, 3) := by decide +kernel
theorem dX9_tired_33 : decode cX9_tired 33 = .ok (.goto 4, 3) := by decide +kernel
theorem dX9_tired_36 : decode cX9_tired 36 = .ok (.iconst (-1), 1) := by decide +kernel
theorem dX9_tired_37 : decode cX9_tired 37 = .ok (.ireturn, 1) := by decide +kernel
set_option maxHeartbeats 4000000 in
set_option maxRecDepth 100000 in
theorem m_X9_tired (l : Launch) (D : va_G) (cy : Nat → ClassId) (g : Nat → Nat) (σ : ST) (p1 : Int32) (p2 : Int32) (sz : Nat) (hJ : J9 (σ 9)) (kDK0 : DK0 (σ 9)) : Met l yX9_tired (ww yX9_tired cX9_tired 3 (some .int)) ({ frames := 8, cells := 0, slots := 0, locals := 512 }) (va_Pc [.ref (g 60), .int p1, .int p2] (pr9 D cy g σ sz)) (qi9 D cy g sz (fun r τ => Fr (fL [0, 23, 24, 25, 26, 27, 28, 29, 30, 31, 32, 33, 34, 35, 36, 37, 38, 39, 40, 41, 49]) σ τ ∧ J9 (τ 9) ∧ True)) 0 0 (A9 cy g sz) := by
  refine Met.ofW (cc := cX9_tired) (maxL := 3) (ret := (some .int)) (by decide) rfl ?_
  intro p e s m args below meth c s₁ B hml hv
  obtain ⟨rfl, hsz, hP, hK, hD0, hC⟩ := hv
  have hx := B.exec
  have hb := B.bytes
  have hr := B.returns
  have hts := hts_g (atoms_spec (ws := ww yX9_tired cX9_tired 3 (some .int)) B.pre)
  have hown : s.vm.findClass RX9 = some m.cls := findClass_of_methodNamed B.named
  have hlocks := B.notSynchronized
  clear B
  subst hsz
  have hD := fun τ => A9_D (sz := s.heap.size) hD0 τ
  clear hD0
  have hS : va_S (A9 cy g s.heap.size) s.heap s.heap [] := va_S.rf
  have hl := lv_entry ([.ref (g 60), .int p1, .int p2]) (n := 3) (Nat.le_of_ble_eq_true rfl)
  rw [lg_entry_eq]
  generalize (lg_sl ([.ref (g 60), .int p1, .int p2]) ++ List.replicate (3 - (lg_sl ([.ref (g 60), .int p1, .int p2])).length) Slot.unset).toArray = ls at hl ⊢
  have hl : lv_has ls 3 [(0, .ref (g 60)), (1, .int p1), (2, .int p2)] := hl
  refine lv_aload_n hx hb dX9_tired_0 rfl (lv_at hl 0 rfl) ?_
  refine lv_iconst (v := 0) hx hb dX9_tired_1 (by decide) ?_
  refine p9_0 hx hb hts hown hK hP hD hS (hts _ q1360) dX9_tired_2 (fun H locs σ1 eσ1 hP hS => ?_)
  have hJ2 : J9 (σ1 9) := hJ.I eσ1 (show JI9 0 (0 : Int32) from trivial)
  have T3 : DK0 (σ1 9) := DK0.mv kDK0 ((sI_f eσ1) 9 17 rfl).2.2.1 ((sI_f eσ1) 9 18 rfl).2.2.1 ((sI_f eσ1) 9 19 rfl).2.2.1
  refine lv_aload_n hx hb dX9_tired_5 rfl (lv_at hl 0 rfl) ?_
  refine lv_iload_n hx hb dX9_tired_6 rfl (lv_at hl 1 rfl) ?_
  refine lv_iload_n hx hb dX9_tired_7 rfl (lv_at hl 2 rfl) ?_
  refine va_calli (va_runV (As := [.int p1, .int p2]) (rest := []) ⟨hx, hb, hml, hown, hts⟩ (m_X9_isPlaying l D cy g σ1 p1 p2 _ hJ2 ) (cwV 2 hts (gd_V q1822 q1824 q87 q134 q1825) rfl rfl rfl (by decide +kernel) ⟨Nat.le_of_ble_eq_true rfl, Nat.le_of_ble_eq_true rfl⟩) (pv9 hP hK hD hC hS (va_recv hK hP (ci := 9) (q0 := 0) rfl rfl)) rfl rfl hl.1 rfl (lv_room (Nat.le_of_ble_eq_true rfl)) dX9_tired_8 ⟨Nat.le_of_ble_eq_true rfl, Nat.le_of_ble_eq_true rfl⟩) hS (fun q _ h => up9 hS q h) (up9 hS) (fun r4 σ5 tS H1 locs ht hvm hw6 hB hz1 hk1 hS => ?_)
  have hP : va_P D clz (WD9 cy g σ5) H1 := by rw [← ht]; exact hB
  clear hB hz1 hk1 hvm ht
  generalize H1 = H at hP hS ⊢
  have hw6E : σ1 = σ5 := (hw6.1).symm
  subst hw6E
  have b7 : (0 : Int) ≤ r4.toInt ∧ r4.toInt ≤ 1 := hw6.2.1
  have b8 : (r4.toInt = 0) ∨ ((0 : Int) ≤ p1.toInt ∧ p1.toInt ≤ 8 ∧ (0 : Int) ≤ p2.toInt ∧ p2.toInt ≤ 2) := hw6.2.2.1
  have b9 : (r4.toInt = 0) ∨ (p1.toInt < ((σ1 9).2.2.1 17 3).toInt) := hw6.2.2.2.1
  refine lv_if_ne (tgt := 19) hx hb dX9_tired_11 (by decide) (fun c10 => ?_) (fun c10 => ?_)
  ·
    have k11 := neq32 c10
    refine lv_aload_n hx hb dX9_tired_19 rfl (lv_at hl 0 rfl) ?_
    refine lv_iload_n hx hb dX9_tired_20 rfl (lv_at hl 1 rfl) ?_
    refine lv_iload_n hx hb dX9_tired_21 rfl (lv_at hl 2 rfl) ?_
    refine va_calli (va_runV (As := [.int p1, .int p2]) (rest := []) ⟨hx, hb, hml, hown, hts⟩ (m_X9_isBest l D cy g σ1 p1 p2 _ hJ2 T3 (show (0 : Int) ≤ p1.toInt ∧ p1.toInt ≤ 8 from (by have f0 := b8; have f1 := b9; have f2 := a9_17 hJ2 (j := 3) rfl; have f3 := congrArg Int32.toInt (show ((σ1 9).2.2.1 17 3) = ((σ 9).2.2.1 17 3) from congrFun (((sI_f eσ1) 9 17 rfl).2.2.1) _); have f4 := b7; have f5 := k11; have f6 := a9_17 hJ (j := 3) rfl; have g2 := rg32 p1; have z0 : (0 : Int32).toInt = 0 := (by decide); omega)) (show (0 : Int) ≤ p2.toInt ∧ p2.toInt ≤ 2 from (by have f0 := b8; have f1 := b9; have f2 := a9_17 hJ2 (j := 3) rfl; have f3 := congrArg Int32.toInt (show ((σ1 9).2.2.1 17 3) = ((σ 9).2.2.1 17 3) from congrFun (((sI_f eσ1) 9 17 rfl).2.2.1) _); have f4 := b7; have f5 := k11; have f6 := a9_17 hJ (j := 3) rfl; have g2 := rg32 p1; have g3 := rg32 p2; have z0 : (0 : Int32).toInt = 0 := (by decide); omega)) (show p1.toInt < ((σ1 9).2.2.1 17 3).toInt from (by have f0 := a9_17 hJ2 (j := 3) rfl; have f1 := congrArg Int32.toInt (show ((σ1 9).2.2.1 17 3) = ((σ 9).2.2.1 17 3) from congrFun (((sI_f eσ1) 9 17 rfl).2.2.1) _); have f2 := b8; have f3 := b9; have f4 := a9_17 hJ (j := 3) rfl; have f5 := b7; have f6 := k11; have g2 := rg32 p1; have z0 : (0 : Int32).toInt = 0 := (by decide); omega))) (cwV 2 hts (gd_V q1826 q1828 q88 q134 q1829) rfl rfl rfl (by decide +kernel) ⟨Nat.le_of_ble_eq_true rfl, Nat.le_of_ble_eq_true rfl⟩) (pv9 hP hK hD hC hS (va_recv hK hP (ci := 9) (q0 := 0) rfl rfl)) rfl rfl hl.1 rfl (lv_room (Nat.le_of_ble_eq_true rfl)) dX9_tired_22 ⟨Nat.le_of_ble_eq_true rfl, Nat.le_of_ble_eq_true rfl⟩) hS (fun q _ h => up9 hS q h) (up9 hS) (fun r12 σ13 tS H1 locs ht hvm hw14 hB hz1 hk1 hS => ?_)
    have hP : va_P D clz (WD9 cy g σ13) H1 := by rw [← ht]; exact hB
    clear hB hz1 hk1 hvm ht
    generalize H1 = H at hP hS ⊢
    have hF15 : Fr (fL [23, 24, 25, 26, 27, 28, 29, 30, 31, 32, 33, 34, 35, 36, 37, 38, 39, 40, 41]) σ1 σ13 := hw14.1
    have hJ16 : J9 (σ13 9) := hw14.2.1
    have b17 : (0 : Int) ≤ r12.toInt ∧ r12.toInt ≤ 1 := hw14.2.2.1
    have T18 : DK0 (σ13 9) := DK0.mv T3 (hF15 9 17 rfl).2.2.1 (hF15 9 18 rfl).2.2.1 (hF15 9 19 rfl).2.2.1
    refine lv_if_eq (tgt := 36) hx hb dX9_tired_25 (by decide) (fun c19 => ?_) (fun c19 => ?_)
    ·
      have k20 := peq32 c19
      refine lv_iconst (v := (-1)) hx hb dX9_tired_36 (by decide) ?_
      exact W.iret (v := (-1)) hx hb hr (fun tS ht hW => ⟨⟨(-1), σ13, rfl, ⟨Fr.tr (Fr.tr (Fr.rf) (sI_f eσ1) (fN_L rfl)) hF15 (fL_sub rfl), hJ16, trivial⟩, (show va_P D clz (WD9 cy g σ13) tS.heap by rw [ht]; exact hP)⟩, hS.F ht⟩) hS.2.2 dX9_tired_37
    ·
      have k21 := neq32 c19
      refine lv_aload_n hx hb dX9_tired_28 rfl (lv_at hl 0 rfl) ?_
      refine lv_iload_n hx hb dX9_tired_29 rfl (lv_at hl 1 rfl) ?_
      refine va_calli (va_runV (As := [.int p1]) (rest := []) ⟨hx, hb, hml, hown, hts⟩ (m_X9_tiredOf l D cy g σ13 p1 _ hJ16 (show (0 : Int) ≤ p1.toInt ∧ p1.toInt ≤ 8 from (by have f0 := b8; have f1 := b9; have f2 := a9_17 hJ2 (j := 3) rfl; have f3 := congrArg Int32.toInt (show ((σ1 9).2.2.1 17 3) = ((σ 9).2.2.1 17 3) from congrFun (((sI_f eσ1) 9 17 rfl).2.2.1) _); have f4 := b7; have f5 := k11; have f6 := a9_17 hJ (j := 3) rfl; have g2 := rg32 p1; have z0 : (0 : Int32).toInt = 0 := (by decide); omega))) (cwV 1 hts (gd_V q1984 q1986 q110 q134 q1987) rfl rfl rfl (by decide +kernel) ⟨Nat.le_of_ble_eq_true rfl, Nat.le_of_ble_eq_true rfl⟩) (pv9 hP hK hD hC hS (va_recv hK hP (ci := 9) (q0 := 0) rfl rfl)) rfl rfl hl.1 rfl (lv_room (Nat.le_of_ble_eq_true rfl)) dX9_tired_30 ⟨Nat.le_of_ble_eq_true rfl, Nat.le_of_ble_eq_true rfl⟩) hS (fun q _ h => up9 hS q h) (up9 hS) (fun r22 σ23 tS H1 locs ht hvm hw24 hB hz1 hk1 hS => ?_)
      have hP : va_P D clz (WD9 cy g σ23) H1 := by rw [← ht]; exact hB
      clear hB hz1 hk1 hvm ht
      generalize H1 = H at hP hS ⊢
      have hF25 : Fr (fL [49]) σ13 σ23 := hw24.1
      have hJ26 : J9 (σ23 9) := hw24.2.1
      have b27 : (-1 : Int) ≤ r22.toInt ∧ r22.toInt ≤ 15 := hw24.2.2.1
      have T28 : DK0 (σ23 9) := DK0.mv T18 (hF25 9 17 rfl).2.2.1 (hF25 9 18 rfl).2.2.1 (hF25 9 19 rfl).2.2.1
      refine lv_goto (tgt := 37) hx hb dX9_tired_33 (by decide) ?_
      exact W.iret (v := r22) hx hb hr (fun tS ht hW => ⟨⟨r22, σ23, rfl, ⟨Fr.tr (Fr.tr (Fr.tr (Fr.rf) (sI_f eσ1) (fN_L rfl)) hF15 (fL_sub rfl)) hF25 (fL_sub rfl), hJ26, trivial⟩, (show va_P D clz (WD9 cy g σ23) tS.heap by rw [ht]; exact hP)⟩, hS.F ht⟩) hS.2.2 dX9_tired_37
  ·
    have k29 := peq32 c10
    refine lv_bipush (v := (-2)) hx hb dX9_tired_14 (by decide) ?_
    refine lv_goto (tgt := 37) hx hb dX9_tired_16 (by decide) ?_
    exact W.iret (v := (-2)) hx hb hr (fun tS ht hW => ⟨⟨(-2), σ1, rfl, ⟨Fr.tr (Fr.rf) (sI_f eσ1) (fN_L rfl), hJ2, trivial⟩, (show va_P D clz (WD9 cy g σ1) tS.heap by rw [ht]; exact hP)⟩, hS.F ht⟩) hS.2.2 dX9_tired_37

theorem q1991 : Cond.code yX9_spared cX9_spared 6 (some .int) ∈ lw_g := lw_gm (List.mem_of_getElem? (i := 1991) (by decide +kernel)) rfl
theorem dX9_spared_0 : decode cX9_spared 0 = .ok (.aload_n 0, 1) := by decide +kernel
theorem dX9_spared_1 : decode cX9_spared 1 = .ok (.iconst 0, 1) := by decide +kernel
theorem dX9_spared_2 : decode cX9_spared 2 = .ok (.putfield 129, 3) := by decide +kernel
theorem dX9_spared_5 : decode cX9_spared 5 = .ok (.aload_n 0, 1) := by decide +kernel
theorem dX9_spared_6 : decode cX9_spared 6 = .ok (.iload_n 1, 1) := by decide +kernel
theorem dX9_spared_7 : decode cX9_spared 7 = .ok (.iload_n 2, 1) := by decide +kernel
theorem dX9_spared_8 : decode cX9_spared 8 = .ok (.invokevirtual 433, 3) := by decide +kernel
theorem dX9_spared_11 : decode cX9_spared 11 = .ok (.ifCond .ne 6, 3) := by decide +kernel
theorem dX9_spared_14 : decode cX9_spared 14 = .ok (.bipush (-2), 2) := by decide +kernel
theorem dX9_spared_16 : decode cX9_spared 16 = .ok (.ireturn, 1) := by decide +kernel
theorem dX9_spared_17 : decode cX9_spared 17 = .ok (.aload_n 0, 1) := by decide +kernel
theorem dX9_spared_18 : decode cX9_spared 18 = .ok (.iload_n 1, 1) := by decide +kernel
theorem dX9_spared_19 : decode cX9_spared 19 = .ok (.iload_n 2, 1) := by decide +kernel
theorem dX9_spared_20 : decode cX9_spared 20 = .ok (.invokevirtual 436, 3) := by decide +kernel
theorem dX9_spared_23 : decode cX9_spared 23 = .ok (.ifCond .ne 5, 3) := by decide +kernel
theorem dX9_spared_26 : decode cX9_spared 26 = .ok (.iconst (-1), 1) := by decide +kernel
theorem dX9_spared_27 : decode cX9_spared 27 = .ok (.ireturn, 1) := by decide +kernel
theorem dX9_spared_28 : decode cX9_spared 28 = .ok (.aload_n 0, 1) := by decide +kernel
theorem dX9_spared_29 : decode cX9_spared 29 = .ok (.iload_n 1, 1) := by decide +kernel
theorem dX9_spared_30 : decode cX9_spared 30 = .ok (.invokevirtual 476, 3) := by decide +kernel
theorem dX9_spared_33 : decode cX9_spared 33 = .ok (.istore_n 3, 1) := by decide +kernel
theorem dX9_spared_34 : decode cX9_spared 34 = .ok (.iconst 0, 1) := by decide +kernel
theorem dX9_spared_35 : decode cX9_spared 35 = .ok (.istore 4, 2) := by decide +kernel
theorem dX9_spared_37 : decode cX9_spared 37 = .ok (.iload_n 3, 1) := by decide +kernel
theorem dX9_spared_38 : decode cX9_spared 38 = .ok (.istore 5, 2) := by decide +kernel
theorem dX9_spared_40 : decode cX9_spared 40 = .ok (.iload_n 3, 1) := by decide +kernel
theorem dX9_spared_41 : decode cX9_spared 41 = .ok (.iconst (-1), 1) := by decide +kernel
theorem dX9_spared_42 : decode cX9_spared 42 = .ok (.if_icmp .eq 46, 3) := by decide +kernel
theorem dX9_spared_45 : decode cX9_spared 45 = .ok (.iload 5, 2) := by decide +kernel
theorem dX9_spared_47 : decode cX9_spared 47 = .ok (.aload_n 0, 1) := by decide +kernel
theorem dX9_spared_48 : decode cX9_spared 48 = .ok (.getfield 43, 3) := by decide +kernel
theorem dX9_spared_51 : decode cX9_spared 51 = .ok (.aload_n 0, 1) := by decide +kernel
theorem dX9_spared_52 : decode cX9_spared 52 = .ok (.getfield 384, 3) := by decide +kernel
theorem dX9_spared_55 : decode cX9_spared 55 = .ok (.iaload, 1) := by decide +kernel
theorem dX9_spared_56 : decode cX9_spared 56 = .ok (.if_icmp .ge 32, 3) := by decide +kernel
theorem dX9_spared_59 : decode cX9_spared 59 = .ok (.iload 4, 2) := by decide +kernel
theorem dX9_spared_61 : decode cX9_spared 61 = .ok (.aload_n 0, 1) := by decide +kernel
theorem dX9_spared_62 : decode cX9_spared 62 = .ok (.aload_n 0, 1) := by decide +kernel
theorem dX9_spared_63 : decode cX9_spared 63 = .ok (.getfield 384, 3) := by decide +kernel
theorem dX9_spared_66 : decode cX9_spared 66 = .ok (.iload 5, 2) := by decide +kernel
theorem dX9_spared_68 : decode cX9_spared 68 = .ok (.invokevirtual 390, 3) := by decide +kernel
theorem dX9_spared_71 : decode cX9_spared 71 = .ok (.ifCond .eq 7, 3) := by decide +kernel
theorem dX9_spared_74 : decode cX9_spared 74 = .ok (.iconst 0, 1) := by decide +kernel
theorem dX9_spared_75 : decode cX9_spared 75 = .ok (.goto 4, 3) := by decide +kernel
theorem dX9_spared_78 : decode cX9_spared 78 = .ok (.iconst 1, 1) := by decide +kernel
theorem dX9_spared_79 : decode cX9_spared 79 = .ok (.iadd, 1) := by decide +kernel
theorem dX9_spared_80 : decode cX9_spared 80 = .ok (.istore 4, 2) := by decide +kernel
theorem dX9_spared_82 : decode cX9_spared 82 = .ok (.iinc 5 1, 3) := by decide +kernel
theorem dX9_spared_85 : decode cX9_spared 85 = .ok (.goto (-45), 3) := by decide +kernel
theorem dX9_spared_88 : decode cX9_spared 88 = .ok (.iload 4, 2) := by decide +kernel
theorem dX9_spared_90 : decode cX9_spared 90 = .ok (.ireturn, 1) := by decide +kernel
set_option maxHeartbeats 4000000 in
set_option maxRecDepth 100000 in
theorem m_X9_spared (l : Launch) (D : va_G) (cy : Nat → ClassId) (g : Nat → Nat) (σ : ST) (p1 : Int32) (p2 : Int32) (sz : Nat) (hJ : J9 (σ 9)) (kDK0 : DK0 (σ 9)) : Met l yX9_spared (ww yX9_spared cX9_spared 6 (some .int)) ({ frames := 8, cells := 0, slots := 0, locals := 512 }) (va_Pc [.ref (g 60), .int p1, .int p2] (pr9 D cy g σ sz)) (qi9 D cy g sz (fun r τ => Fr (fL [0, 23, 24, 25, 26, 27, 28, 29, 30, 31, 32, 33, 34, 35, 36, 37, 38, 39, 40, 41, 49]) σ τ ∧ J9 (τ 9) ∧ True)) 0 0 (A9 cy g sz) := by
  refine Met.ofW (cc := cX9_spared) (maxL := 6) (ret := (some .int)) (by decide) rfl ?_
  intro p e s m args below meth c s₁ B hml hv
  obtain ⟨rfl, hsz, hP, hK, hD0, hC⟩ := hv
  have hx := B.exec
  have hb := B.bytes
  have hr := B.returns
  have hts := hts_g (atoms_spec (ws := ww yX9_spared cX9_spared 6 (some .int)) B.pre)
  have hown : s.vm.findClass RX9 = some m.cls := findClass_of_methodNamed B.named
  have hlocks := B.notSynchronized
  clear B
  subst hsz
  have hD := fun τ => A9_D (sz := s.heap.size) hD0 τ
  clear hD0
  have hS : va_S (A9 cy g s.heap.size) s.heap s.heap [] := va_S.rf
  have hl := lv_entry ([.ref (g 60), .int p1, .int p2]) (n := 6) (Nat.le_of_ble_eq_true rfl)
  rw [lg_entry_eq]
  generalize (lg_sl ([.ref (g 60), .int p1, .int p2]) ++ List.replicate (6 - (lg_sl ([.ref (g 60), .int p1, .int p2])).length) Slot.unset).toArray = ls at hl ⊢
  have hl : lv_has ls 6 [(0, .ref (g 60)), (1, .int p1), (2, .int p2)] := hl
  refine lv_aload_n hx hb dX9_spared_0 rfl (lv_at hl 0 rfl) ?_
  refine lv_iconst (v := 0) hx hb dX9_spared_1 (by decide) ?_
  refine p9_0 hx hb hts hown hK hP hD hS (hts _ q1360) dX9_spared_2 (fun H locs σ1 eσ1 hP hS => ?_)
  have hJ2 : J9 (σ1 9) := hJ.I eσ1 (show JI9 0 (0 : Int32) from trivial)
  have T3 : DK0 (σ1 9) := DK0.mv kDK0 ((sI_f eσ1) 9 17 rfl).2.2.1 ((sI_f eσ1) 9 18 rfl).2.2.1 ((sI_f eσ1) 9 19 rfl).2.2.1
  refine lv_aload_n hx hb dX9_spared_5 rfl (lv_at hl 0 rfl) ?_
  refine lv_iload_n hx hb dX9_spared_6 rfl (lv_at hl 1 rfl) ?_
  refine lv_iload_n hx hb dX9_spared_7 rfl (lv_at hl 2 rfl) ?_
  refine va_calli (va_runV (As := [.int p1, .int p2]) (rest := []) ⟨hx, hb, hml, hown, hts⟩ (m_X9_isPlaying l D cy g σ1 p1 p2 _ hJ2 ) (cwV 2 hts (gd_V q1822 q1824 q87 q134 q1825) rfl rfl rfl (by decide +kernel) ⟨Nat.le_of_ble_eq_true rfl, Nat.le_of_ble_eq_true rfl⟩) (pv9 hP hK hD hC hS (va_recv hK hP (ci := 9) (q0 := 0) rfl rfl)) rfl rfl hl.1 rfl (lv_room (Nat.le_of_ble_eq_true rfl)) dX9_spared_8 ⟨Nat.le_of_ble_eq_true rfl, Nat.le_of_ble_eq_true rfl⟩) hS (fun q _ h => up9 hS q h) (up9 hS) (fun r4 σ5 tS H1 locs ht hvm hw6 hB hz1 hk1 hS => ?_)
  have hP : va_P D clz (WD9 cy g σ5) H1 := by rw [← ht]; exact hB
  clear hB hz1 hk1 hvm ht
  generalize H1 = H at hP hS ⊢
  have hw6E : σ1 = σ5 := (hw6.1).symm
  subst hw6E
  have b7 : (0 : Int) ≤ r4.toInt ∧ r4.toInt ≤ 1 := hw6.2.1
  have b8 : (r4.toInt = 0) ∨ ((0 : Int) ≤ p1.toInt ∧ p1.toInt ≤ 8 ∧ (0 : Int) ≤ p2.toInt ∧ p2.toInt ≤ 2) := hw6.2.2.1
  have b9 : (r4.toInt = 0) ∨ (p1.toInt < ((σ1 9).2.2.1 17 3).toInt) := hw6.2.2.2.1
  refine lv_if_ne (tgt := 17) hx hb dX9_spared_11 (by decide) (fun c10 => ?_) (fun c10 => ?_)
  ·
    have k11 := neq32 c10
    refine lv_aload_n hx hb dX9_spared_17 rfl (lv_at hl 0 rfl) ?_
    refine lv_iload_n hx hb dX9_spared_18 rfl (lv_at hl 1 rfl) ?_
    refine lv_iload_n hx hb dX9_spared_19 rfl (lv_at hl 2 rfl) ?_
    refine va_calli (va_runV (As := [.int p1, .int p2]) (rest := []) ⟨hx, hb, hml, hown, hts⟩ (m_X9_isBest l D cy g σ1 p1 p2 _ hJ2 T3 (show (0 : Int) ≤ p1.toInt ∧ p1.toInt ≤ 8 from (by have f0 := b8; have f1 := b9; have f2 := a9_17 hJ2 (j := 3) rfl; have f3 := congrArg Int32.toInt (show ((σ1 9).2.2.1 17 3) = ((σ 9).2.2.1 17 3) from congrFun (((sI_f eσ1) 9 17 rfl).2.2.1) _); have f4 := b7; have f5 := k11; have f6 := a9_17 hJ (j := 3) rfl; have g2 := rg32 p1; have z0 : (0 : Int32).toInt = 0 := (by decide); omega)) (show (0 : Int) ≤ p2.toInt ∧ p2.toInt ≤ 2 from (by have f0 := b8; have f1 := b9; have f2 := a9_17 hJ2 (j := 3) rfl; have f3 := congrArg Int32.toInt (show ((σ1 9).2.2.1 17 3) = ((σ 9).2.2.1 17 3) from congrFun (((sI_f eσ1) 9 17 rfl).2.2.1) _); have f4 := b7; have f5 := k11; have f6 := a9_17 hJ (j := 3) rfl; have g2 := rg32 p1; have g3 := rg32 p2; have z0 : (0 : Int32).toInt = 0 := (by decide); omega)) (show p1.toInt < ((σ1 9).2.2.1 17 3).toInt from (by have f0 := a9_17 hJ2 (j := 3) rfl; have f1 := congrArg Int32.toInt (show ((σ1 9).2.2.1 17 3) = ((σ 9).2.2.1 17 3) from congrFun (((sI_f eσ1) 9 17 rfl).2.2.1) _); have f2 := b8; have f3 := b9; have f4 := a9_17 hJ (j := 3) rfl; have f5 := b7; have f6 := k11; have g2 := rg32 p1; have z0 : (0 : Int32).toInt = 0 := (by decide); omega))) (cwV 2 hts (gd_V q1826 q1828 q88 q134 q1829) rfl rfl rfl (by decide +kernel) ⟨Nat.le_of_ble_eq_true rfl, Nat.le_of_ble_eq_true rfl⟩) (pv9 hP hK hD hC hS (va_recv hK hP (ci := 9) (q0 := 0) rfl rfl)) rfl rfl hl.1 rfl (lv_room (Nat.le_of_ble_eq_true rfl)) dX9_spared_20 ⟨Nat.le_of_ble_eq_true rfl, Nat.le_of_ble_eq_true rfl⟩) hS (fun q _ h => up9 hS q h) (up9 hS) (fun r12 σ13 tS H1 locs ht hvm hw14 hB hz1 hk1 hS => ?_)
    have hP : va_P D clz (WD9 cy g σ13) H1 := by rw [← ht]; exact hB
    clear hB hz1 hk1 hvm ht
    generalize H1 = H at hP hS ⊢
    have hF15 : Fr (fL [23, 24, 25, 26, 27, 28, 29, 30, 31, 32, 33, 34, 35, 36, 37, 38, 39, 40, 41]) σ1 σ13 := hw14.1
    have hJ16 : J9 (σ13 9) := hw14.2.1
    have b17 : (0 : Int) ≤ r12.toInt ∧ r12.toInt ≤ 1 := hw14.2.2.1
    have T18 : DK0 (σ13 9) := DK0.mv T3 (hF15 9 17 rfl).2.2.1 (hF15 9 18 rfl).2.2.1 (hF15 9 19 rfl).2.2.1
    refine lv_if_ne (tgt := 28) hx hb dX9_spared_23 (by decide) (fun c19 => ?_) (fun c19 => ?_)
    ·
      have k20 := neq32 c19
      refine lv_aload_n hx hb dX9_spared_28 rfl (lv_at hl 0 rfl) ?_
      refine lv_iload_n hx hb dX9_spared_29 rfl (lv_at hl 1 rfl) ?_
      refine va_calli (va_runV (As := [.int p1]) (rest := []) ⟨hx, hb, hml, hown, hts⟩ (m_X9_tiredOf l D cy g σ13 p1 _ hJ16 (show (0 : Int) ≤ p1.toInt ∧ p1.toInt ≤ 8 from (by have f0 := b8; have f1 := b9; have f2 := a9_17 hJ2 (j := 3) rfl; have f3 := congrArg Int32.toInt (show ((σ1 9).2.2.1 17 3) = ((σ 9).2.2.1 17 3) from congrFun (((sI_f eσ1) 9 17 rfl).2.2.1) _); have f4 := b7; have f5 := k11; have f6 := a9_17 hJ (j := 3) rfl; have g2 := rg32 p1; have z0 : (0 : Int32).toInt = 0 := (by decide); omega))) (cwV 1 hts (gd_V q1984 q1986 q110 q134 q1987) rfl rfl rfl (by decide +kernel) ⟨Nat.le_of_ble_eq_true rfl, Nat.le_of_ble_eq_true rfl⟩) (pv9 hP hK hD hC hS (va_recv hK hP (ci := 9) (q0 := 0) rfl rfl)) rfl rfl hl.1 rfl (lv_room (Nat.le_of_ble_eq_true rfl)) dX9_spared_30 ⟨Nat.le_of_ble_eq_true rfl, Nat.le_of_ble_eq_true rfl⟩) hS (fun q _ h => up9 hS q h) (up9 hS) (fun r21 σ22 tS H1 locs ht hvm hw23 hB hz1 hk1 hS => ?_)
      have hP : va_P D clz (WD9 cy g σ22) H1 := by rw [← ht]; exact hB
      clear hB hz1 hk1 hvm ht
      generalize H1 = H at hP hS ⊢
      have hF24 : Fr (fL [49]) σ13 σ22 := hw23.1
      have hJ25 : J9 (σ22 9) := hw23.2.1
      have b26 : (-1 : Int) ≤ r21.toInt ∧ r21.toInt ≤ 15 := hw23.2.2.1
      have T27 : DK0 (σ22 9) := DK0.mv T18 (hF24 9 17 rfl).2.2.1 (hF24 9 18 rfl).2.2.1 (hF24 9 19 rfl).2.2.1
      refine lv_istore_n (lv' := [(3, .int r21), (0, .ref (g 60)), (1, .int p1), (2, .int p2)]) hx hb dX9_spared_33 rfl hl (by decide) rfl (fun ls hl => ?_)
      refine lv_iconst (v := 0) hx hb dX9_spared_34 (by decide) ?_
      refine lv_istore (lv' := [(4, .int 0), (3, .int r21), (0, .ref (g 60)), (1, .int p1), (2, .int p2)]) hx hb dX9_spared_35 hl (by decide) rfl (fun ls hl => ?_)
      refine lv_iload_n hx hb dX9_spared_37 rfl (lv_at hl 1 rfl) ?_
      refine lv_istore (lv' := [(5, .int r21), (4, .int 0), (3, .int r21), (0, .ref (g 60)), (1, .int p1), (2, .int p2)]) hx hb dX9_spared_38 hl (by decide) rfl (fun ls hl => ?_)
      refine loop9 6 40 (fun x : LZ => [(5, .int (x.2.1 0)), (4, .int (x.2.1 1)), (3, .int r21), (0, .ref (g 60)), (1, .int p1), (2, .int p2)]) (fun x : LZ => (x.1 = σ22) ∧ ((-1 : Int) ≤ (x.2.1 0).toInt ∧ (x.2.1 0).toInt ≤ 16) ∧ (r21.toInt ≤ (x.2.1 0).toInt) ∧ (DK0 (σ22 9)) ∧ True) (fun x : LZ => ((17 : Int) - (x.2.1 0).toInt).toNat) ?_ (σ22, lf [r21, 0], lg []) ⟨rfl, (show (-1 : Int) ≤ (r21 : Int32).toInt ∧ (r21 : Int32).toInt ≤ 16 from (by have f0 := b26; have g0 := rg32 r21; omega)), (show r21.toInt ≤ r21.toInt from (by have f0 := b26; have g0 := rg32 r21; omega)), (show DK0 (σ22 9) from T27), trivial⟩ _ _ _ hP hS (lv_sub hl [0, 1, 2, 3, 4, 5] rfl)
      intro y30 hI29 nl28 H locs ls hP hS hl
      rw [show y30.1 = σ22 from hI29.1] at hP
      have b31 : (-1 : Int) ≤ (y30.2.1 0).toInt ∧ (y30.2.1 0).toInt ≤ 16 := hI29.2.1
      have b32 : r21.toInt ≤ (y30.2.1 0).toInt := hI29.2.2.1
      have b33 : DK0 (σ22 9) := hI29.2.2.2.1
      have hl : lv_has ls 6 [(5, .int (y30.2.1 0)), (4, .int (y30.2.1 1)), (3, .int r21), (0, .ref (g 60)), (1, .int p1), (2, .int p2)] := hl
      refine lv_iload_n hx hb dX9_spared_40 rfl (lv_at hl 2 rfl) ?_
      refine lv_iconst (v := (-1)) hx hb dX9_spared_41 (by decide) ?_
      refine lv_icmp_eq (tgt := 88) hx hb dX9_spared_42 (by decide) (fun c34 => ?_) (fun c34 => ?_)
      ·
        have k35 := peq32 c34
        refine lv_iload hx hb dX9_spared_88 (lv_at hl 1 rfl) ?_
        exact W.iret (v := (y30.2.1 1)) hx hb hr (fun tS ht hW => ⟨⟨(y30.2.1 1), σ22, rfl, ⟨Fr.tr (Fr.tr (Fr.tr (Fr.rf) (sI_f eσ1) (fN_L rfl)) hF15 (fL_sub rfl)) hF24 (fL_sub rfl), hJ25, trivial⟩, (show va_P D clz (WD9 cy g σ22) tS.heap by rw [ht]; exact hP)⟩, hS.F ht⟩) hS.2.2 dX9_spared_90
      ·
        have k36 := neq32 c34
        refine lv_iload hx hb dX9_spared_45 (lv_at hl 0 rfl) ?_
        refine lv_aload_n hx hb dX9_spared_47 rfl (lv_at hl 3 rfl) ?_
        refine g9_20 hx hb hts hown hK hP (hts _ q1380) dX9_spared_48 ?_
        refine lv_aload_n hx hb dX9_spared_51 rfl (lv_at hl 3 rfl) ?_
        refine g9_29 (x := ((σ13 9).1 29)) hx hb hts hown hK hP ((hF24 9 29 rfl).1) (hts _ q1389) dX9_spared_52 ?_
        obtain ⟨x37, ex37⟩ : ∃ z, (σ 9).2.2.1 20 ((σ13 9).1 29).toInt.toNat = z := ⟨_, rfl⟩
        refine l9_20 (x := x37) hx hb hK hP (vpo (by have f0 := j9_29 hJ16 rfl; omega)) ((congrFun (((hF24 9 20 rfl).2.2.1).trans (((hF15 9 20 rfl).2.2.1).trans (((sI_f eσ1) 9 20 rfl).2.2.1))) _).trans ex37) dX9_spared_55 ?_
        have t38 := a9_20 hJ ex37
        refine lv_icmp_ge (tgt := 88) hx hb dX9_spared_56 (by decide) (fun c39 => ?_) (fun c39 => ?_)
        ·
          have k40 := ple32 c39
          refine lv_iload hx hb dX9_spared_88 (lv_at hl 1 rfl) ?_
          exact W.iret (v := (y30.2.1 1)) hx hb hr (fun tS ht hW => ⟨⟨(y30.2.1 1), σ22, rfl, ⟨Fr.tr (Fr.tr (Fr.tr (Fr.rf) (sI_f eσ1) (fN_L rfl)) hF15 (fL_sub rfl)) hF24 (fL_sub rfl), hJ25, trivial⟩, (show va_P D clz (WD9 cy g σ22) tS.heap by rw [ht]; exact hP)⟩, hS.F ht⟩) hS.2.2 dX9_spared_90
        ·
          have k41 := nle32 c39
          refine lv_iload hx hb dX9_spared_59 (lv_at hl 1 rfl) ?_
          refine lv_aload_n hx hb dX9_spared_61 rfl (lv_at hl 3 rfl) ?_
          refine lv_aload_n hx hb dX9_spared_62 rfl (lv_at hl 3 rfl) ?_
          refine g9_29 (x := ((σ13 9).1 29)) hx hb hts hown hK hP ((hF24 9 29 rfl).1) (hts _ q1389) dX9_spared_63 ?_
          refine lv_iload hx hb dX9_spared_66 (lv_at hl 0 rfl) ?_
          refine va_calli (va_runV (As := [.int ((σ13 9).1 29), .int (y30.2.1 0)]) (rest := [.int (y30.2.1 1)]) ⟨hx, hb, hml, hown, hts⟩ (m_X9_isRest l D cy g σ22 ((σ13 9).1 29) (y30.2.1 0) _ hJ25 (show (0 : Int) ≤ ((σ13 9).1 29).toInt ∧ ((σ13 9).1 29).toInt ≤ 2 from (by have f0 := j9_29 hJ16 rfl; have f1 := t38; have f2 := k41; have f3 := b31; have f4 := b32; have f5 := b26; have f6 := k36; have zm1 : ((-1) : Int32).toInt = (-1) := (by decide); omega)) (show (0 : Int) ≤ (y30.2.1 0).toInt ∧ (y30.2.1 0).toInt ≤ 15 from (by have f0 := j9_29 hJ16 rfl; have f1 := b31; have f2 := b32; have f3 := t38; have f4 := k41; have f5 := b26; have f6 := k36; have g1 := rg32 (y30.2.1 0); have zm1 : ((-1) : Int32).toInt = (-1) := (by decide); omega))) (cwV 2 hts (gd_V q1838 q1840 q91 q134 q1841) rfl rfl rfl (by decide +kernel) ⟨Nat.le_of_ble_eq_true rfl, Nat.le_of_ble_eq_true rfl⟩) (pv9 hP hK hD hC hS (va_recv hK hP (ci := 9) (q0 := 0) rfl rfl)) rfl rfl hl.1 rfl (lv_room (Nat.le_of_ble_eq_true rfl)) dX9_spared_68 ⟨Nat.le_of_ble_eq_true rfl, Nat.le_of_ble_eq_true rfl⟩) hS (fun q _ h => up9 hS q h) (up9 hS) (fun r42 σ43 tS H1 locs ht hvm hw44 hB hz1 hk1 hS => ?_)
          have hP : va_P D clz (WD9 cy g σ43) H1 := by rw [← ht]; exact hB
          clear hB hz1 hk1 hvm ht
          generalize H1 = H at hP hS ⊢
          have hw44E : σ22 = σ43 := (hw44.1).symm
          subst hw44E
          have b45 : (0 : Int) ≤ r42.toInt ∧ r42.toInt ≤ 1 := hw44.2.1
          refine cut9 (D := D) (cy := cy) (g := g) (A := A9 cy g s.heap.size) (H0 := s.heap) 6 79 (fun x : LZ => [(5, .int (y30.2.1 0)), (4, .int (y30.2.1 1)), (3, .int r21), (0, .ref (g 60)), (1, .int p1), (2, .int p2)]) (fun x : LZ => [.int (x.2.1 0), .int (y30.2.1 1)]) (fun x : LZ => (x.1 = σ22) ∧ ((0 : Int) ≤ (x.2.1 0).toInt ∧ (x.2.1 0).toInt ≤ 1) ∧ (DK0 (σ22 9)) ∧ True) ?_ ?_
          ·
            intro y48 hI47 H locs ls hP hS hl
            rw [show y48.1 = σ22 from hI47.1] at hP
            have b49 : (0 : Int) ≤ (y48.2.1 0).toInt ∧ (y48.2.1 0).toInt ≤ 1 := hI47.2.1
            have b50 : DK0 (σ22 9) := hI47.2.2.1
            have hl : lv_has ls 6 [(5, .int (y30.2.1 0)), (4, .int (y30.2.1 1)), (3, .int r21), (0, .ref (g 60)), (1, .int p1), (2, .int p2)] := hl
            refine W.eq (g2 := F0 m 79 ls [.int (y48.2.1 0), .int (y30.2.1 1)]) rfl ?_
            refine lv_iadd hx hb dX9_spared_79 ?_
            refine lv_topi (fun x51 ex51 => ?_)
            refine lv_istore (lv' := [(4, .int x51), (5, .int (y30.2.1 0)), (3, .int r21), (0, .ref (g 60)), (1, .int p1), (2, .int p2)]) hx hb dX9_spared_80 hl (by decide) rfl (fun ls hl => ?_)
            obtain ⟨x52, ex52⟩ : ∃ y : Int32, y = (y30.2.1 0) + 1 := ⟨_, rfl⟩
            have t53 := addO ex52 (by have f0 := b31; have f1 := b32; have f2 := k41; have f3 := b26; have f4 := k36; have f5 := t38; have f6 := j9_29 hJ16 rfl; have g1 := rg32 (y30.2.1 0); have zm1 : ((-1) : Int32).toInt = (-1) := (by decide); have z1 : (1 : Int32).toInt = 1 := (by decide); omega)
            refine lv_iinc (v := x52) (lv' := [(5, .int x52), (4, .int x51), (3, .int r21), (0, .ref (g 60)), (1, .int p1), (2, .int p2)]) hx hb dX9_spared_82 hl (k := 1) rfl (by rw [ex52]; rfl) (by decide) rfl (fun ls hl => ?_)
            refine lv_goto (tgt := 40) hx hb dX9_spared_85 (by decide) ?_
            have t54 : ((17 : Int) - x52.toInt).toNat < ((17 : Int) - (y30.2.1 0).toInt).toNat := (by have f0 := b31; have f1 := b32; have f2 := k41; have f3 := t53; have f4 := b26; have f5 := k36; have f6 := t38; have f7 := j9_29 hJ16 rfl; have g1 := rg32 (y30.2.1 0); have g2 := rg32 x52; have zm1 : ((-1) : Int32).toInt = (-1) := (by decide); have z1 : (1 : Int32).toInt = 1 := (by decide); omega)
            exact nl28 (σ22, lf [x52, x51], lg []) ⟨rfl, (show (-1 : Int) ≤ (x52 : Int32).toInt ∧ (x52 : Int32).toInt ≤ 16 from (by have f0 := t53; have f1 := b31; have f2 := b32; have f3 := k41; have f4 := b26; have f5 := k36; have f6 := t38; have f7 := j9_29 hJ16 rfl; have g1 := rg32 x52; have zm1 : ((-1) : Int32).toInt = (-1) := (by decide); have z1 : (1 : Int32).toInt = 1 := (by decide); omega)), (show r21.toInt ≤ x52.toInt from (by have f0 := b26; have f1 := b32; have f2 := k36; have f3 := t53; have f4 := b31; have f5 := k41; have f6 := t38; have f7 := j9_29 hJ16 rfl; have g1 := rg32 r21; have g2 := rg32 x52; have zm1 : ((-1) : Int32).toInt = (-1) := (by decide); have z1 : (1 : Int32).toInt = 1 := (by decide); omega)), (show DK0 (σ22 9) from b50), trivial⟩ (show ((17 : Int) - x52.toInt).toNat < _ from t54) _ _ _ hP hS (lv_sub hl [0, 1, 2, 3, 4, 5] rfl)
          ·
            intro nj46
            refine lv_if_eq (tgt := 78) hx hb dX9_spared_71 (by decide) (fun c55 => ?_) (fun c55 => ?_)
            ·
              have k56 := peq32 c55
              refine lv_iconst (v := 1) hx hb dX9_spared_78 (by decide) ?_
              exact nj46 (σ22, lf [1], lg []) ⟨rfl, (show (0 : Int) ≤ (1 : Int32).toInt ∧ (1 : Int32).toInt ≤ 1 from (by have z1 : (1 : Int32).toInt = 1 := (by decide); omega)), (show DK0 (σ22 9) from b33), trivial⟩ _ _ _ hP hS (lv_sub hl [0, 1, 2, 3, 4, 5] rfl)
            ·
              have k57 := neq32 c55
              refine lv_iconst (v := 0) hx hb dX9_spared_74 (by decide) ?_
              refine lv_goto (tgt := 79) hx hb dX9_spared_75 (by decide) ?_
              exact nj46 (σ22, lf [0], lg []) ⟨rfl, (show (0 : Int) ≤ (0 : Int32).toInt ∧ (0 : Int32).toInt ≤ 1 from (by have z0 : (0 : Int32).toInt = 0 := (by decide); omega)), (show DK0 (σ22 9) from b33), trivial⟩ _ _ _ hP hS (lv_sub hl [0, 1, 2, 3, 4, 5] rfl)
    ·
      have k58 := peq32 c19
      refine lv_iconst (v := (-1)) hx hb dX9_spared_26 (by decide) ?_
      exact W.iret (v := (-1)) hx hb hr (fun tS ht hW => ⟨⟨(-1), σ13, rfl, ⟨Fr.tr (Fr.tr (Fr.rf) (sI_f eσ1) (fN_L rfl)) hF15 (fL_sub rfl), hJ16, trivial⟩, (show va_P D clz (WD9 cy g σ13) tS.heap by rw [ht]; exact hP)⟩, hS.F ht⟩) hS.2.2 dX9_spared_27
  ·
    have k59 := peq32 c10
    refine lv_bipush (v := (-2)) hx hb dX9_spared_14 (by decide) ?_
    exact W.iret (v := (-2)) hx hb hr (fun tS ht hW => ⟨⟨(-2), σ1, rfl, ⟨Fr.tr (Fr.rf) (sI_f eσ1) (fN_L rfl), hJ2, trivial⟩, (show va_P D clz (WD9 cy g σ1) tS.heap by rw [ht]; exact hP)⟩, hS.F ht⟩) hS.2.2 dX9_spared_16

theorem q2015 : Cond.code yX9_behind cX9_behind 9 (some .int) ∈ lw_g := lw_gm (List.mem_of_getElem? (i := 2015) (by decide +kernel)) rfl
theorem q1411 : Cond.fieldLink RX9 479 "LipsAndSlidesModel" "doubleMany" "I" ∈ lw_g := lw_gm (List.mem_of_getElem? (i := 1411) (by decide +kernel)) rfl
theorem q1414 : Cond.fieldLink RX9 117 "LipsAndSlidesModel" "doubleAir" "[I" ∈ lw_g := lw_gm (List.mem_of_getElem? (i := 1414) (by decide +kernel)) rfl
theorem dX9_behind_0 : decode cX9_behind 0 = .ok (.iconst 0, 1) := by decide +kernel
theorem dX9_behind_1 : decode cX9_behind 1 = .ok (.istore 4, 2) := by decide +kernel
theorem dX9_behind_3 : decode cX9_behind 3 = .ok (.iload_n 1, 1) := by decide +kernel
theorem dX9_behind_4 : decode cX9_behind 4 = .ok (.istore 5, 2) := by decide +kernel
theorem dX9_behind_6 : decode cX9_behind 6 = .ok (.iconst 1, 1) := by decide +kernel
theorem dX9_behind_7 : decode cX9_behind 7 = .ok (.istore 6, 2) := by decide +kernel
theorem dX9_behind_9 : decode cX9_behind 9 = .ok (.iconst 0, 1) := by decide +kernel
theorem dX9_behind_10 : decode cX9_behind 10 = .ok (.istore 7, 2) := by decide +kernel
theorem dX9_behind_12 : decode cX9_behind 12 = .ok (.iload 7, 2) := by decide +kernel
theorem dX9_behind_14 : decode cX9_behind 14 = .ok (.aload_n 0, 1) := by decide +kernel
theorem dX9_behind_15 : decode cX9_behind 15 = .ok (.getfield 479, 3) := by decide +kernel
theorem dX9_behind_18 : decode cX9_behind 18 = .ok (.if_icmp .ge 70, 3) := by decide +kernel
theorem dX9_behind_21 : decode cX9_behind 21 = .ok (.iload 5, 2) := by decide +kernel
theorem dX9_behind_23 : decode cX9_behind 23 = .ok (.bipush 31, 2) := by decide +kernel
theorem dX9_behind_25 : decode cX9_behind 25 = .ok (.irem, 1) := by decide +kernel
theorem dX9_behind_26 : decode cX9_behind 26 = .ok (.istore 8, 2) := by decide +kernel
theorem dX9_behind_28 : decode cX9_behind 28 = .ok (.iload 5, 2) := by decide +kernel
theorem dX9_behind_30 : decode cX9_behind 30 = .ok (.bipush 31, 2) := by decide +kernel
theorem dX9_behind_32 : decode cX9_behind 32 = .ok (.idiv, 1) := by decide +kernel
theorem dX9_behind_33 : decode cX9_behind 33 = .ok (.istore 5, 2) := by decide +kernel
theorem dX9_behind_35 : decode cX9_behind 35 = .ok (.iload 7, 2) := by decide +kernel
theorem dX9_behind_37 : decode cX9_behind 37 = .ok (.iload_n 3, 1) := by decide +kernel
theorem dX9_behind_38 : decode cX9_behind 38 = .ok (.if_icmp .ne 7, 3) := by decide +kernel
theorem dX9_behind_41 : decode cX9_behind 41 = .ok (.iconst 0, 1) := by decide +kernel
theorem dX9_behind_42 : decode cX9_behind 42 = .ok (.goto 7, 3) := by decide +kernel
theorem dX9_behind_45 : decode cX9_behind 45 = .ok (.iload 8, 2) := by decide +kernel
theorem dX9_behind_47 : decode cX9_behind 47 = .ok (.iload_n 2, 1) := by decide +kernel
theorem dX9_behind_48 : decode cX9_behind 48 = .ok (.iadd, 1) := by decide +kernel
theorem dX9_behind_49 : decode cX9_behind 49 = .ok (.istore 8, 2) := by decide +kernel
theorem dX9_behind_51 : decode cX9_behind 51 = .ok (.iload 8, 2) := by decide +kernel
theorem dX9_behind_53 : decode cX9_behind 53 = .ok (.aload_n 0, 1) := by decide +kernel
theorem dX9_behind_54 : decode cX9_behind 54 = .ok (.getfield 117, 3) := by decide +kernel
theorem dX9_behind_57 : decode cX9_behind 57 = .ok (.iload 7, 2) := by decide +kernel
theorem dX9_behind_59 : decode cX9_behind 59 = .ok (.iaload, 1) := by decide +kernel
theorem dX9_behind_60 : decode cX9_behind 60 = .ok (.if_icmp .le 5, 3) := by decide +kernel
theorem dX9_behind_63 : decode cX9_behind 63 = .ok (.iconst (-1), 1) := by decide +kernel
theorem dX9_behind_64 : decode cX9_behind 64 = .ok (.ireturn, 1) := by decide +kernel
theorem dX9_behind_65 : decode cX9_behind 65 = .ok (.iload 4, 2) := by decide +kernel
theorem dX9_behind_67 : decode cX9_behind 67 = .ok (.iload 6, 2) := by decide +kernel
theorem dX9_behind_69 : decode cX9_behind 69 = .ok (.iload 8, 2) := by decide +kernel
theorem dX9_behind_71 : decode cX9_behind 71 = .ok (.imul, 1) := by decide +kernel
theorem dX9_behind_72 : decode cX9_behind 72 = .ok (.iadd, 1) := by decide +kernel
theorem dX9_behind_73 : decode cX9_behind 73 = .ok (.istore 4, 2) := by decide +kernel
theorem dX9_behind_75 : decode cX9_behind 75 = .ok (.iload 6, 2) := by decide +kernel
theorem dX9_behind_77 : decode cX9_behind 77 = .ok (.bipush 31, 2) := by decide +kernel
theorem dX9_behind_79 : decode cX9_behind 79 = .ok (.imul, 1) := by decide +kernel
theorem dX9_behind_80 : decode cX9_behind 80 = .ok (.istore 6, 2) := by decide +kernel
theorem dX9_behind_82 : decode cX9_behind 82 = .ok (.iinc 7 1, 3) := by decide +kernel
theorem dX9_behind_85 : decode cX9_behind 85 = .ok (.goto (-73), 3) := by decide +kernel
theorem dX9_behind_88 : decode cX9_behind 88 = .ok (.iload 4, 2) := by decide +kernel
theorem dX9_behind_90 : decode cX9_behind 90 = .ok (.ireturn, 1) := by decide +kernel
set_option maxHeartbeats 4000000 in
set_option maxRecDepth 100000 in
theorem m_X9_behind (l : Launch) (D : va_G) (cy : Nat → ClassId) (g : Nat → Nat) (σ : ST) (p1 : Int32) (p2 : Int32) (p3 : Int32) (sz : Nat) (hJ : J9 (σ 9)) (h0 : (-1 : Int) ≤ p1.toInt ∧ p1.toInt ≤ 29790) (h1 : (0 : Int) ≤ p2.toInt ∧ p2.toInt ≤ 60) : Met l yX9_behind (ww yX9_behind cX9_behind 9 (some .int)) ({ frames := 1, cells := 0, slots := 0, locals := 64 }) (va_Pc [.ref (g 60), .int p1, .int p2, .int p3] (pr9 D cy g σ sz)) (qi9 D cy g sz (fun r τ => τ = σ ∧ ((-1 : Int) ≤ r.toInt ∧ r.toInt ≤ 29790) ∧ True)) 0 0 (A9 cy g sz) := by
  refine Met.ofW (cc := cX9_behind) (maxL := 9) (ret := (some .int)) (by decide) rfl ?_
  intro p e s m args below meth c s₁ B hml hv
  obtain ⟨rfl, hsz, hP, hK, hD0, hC⟩ := hv
  have hx := B.exec
  have hb := B.bytes
  have hr := B.returns
  have hts := hts_g (atoms_spec (ws := ww yX9_behind cX9_behind 9 (some .int)) B.pre)
  have hown : s.vm.findClass RX9 = some m.cls := findClass_of_methodNamed B.named
  have hlocks := B.notSynchronized
  clear B
  subst hsz
  have hD := fun τ => A9_D (sz := s.heap.size) hD0 τ
  clear hD0
  have hS : va_S (A9 cy g s.heap.size) s.heap s.heap [] := va_S.rf
  have hl := lv_entry ([.ref (g 60), .int p1, .int p2, .int p3]) (n := 9) (Nat.le_of_ble_eq_true rfl)
  rw [lg_entry_eq]
  generalize (lg_sl ([.ref (g 60), .int p1, .int p2, .int p3]) ++ List.replicate (9 - (lg_sl ([.ref (g 60), .int p1, .int p2, .int p3])).length) Slot.unset).toArray = ls at hl ⊢
  have hl : lv_has ls 9 [(0, .ref (g 60)), (1, .int p1), (2, .int p2), (3, .int p3)] := hl
  refine lv_iconst (v := 0) hx hb dX9_behind_0 (by decide) ?_
  refine lv_istore (lv' := [(4, .int 0), (0, .ref (g 60)), (1, .int p1), (2, .int p2), (3, .int p3)]) hx hb dX9_behind_1 hl (by decide) rfl (fun ls hl => ?_)
  refine lv_iload_n hx hb dX9_behind_3 rfl (lv_at hl 2 rfl) ?_
  refine lv_istore (lv' := [(5, .int p1), (4, .int 0), (0, .ref (g 60)), (1, .int p1), (2, .int p2), (3, .int p3)]) hx hb dX9_behind_4 hl (by decide) rfl (fun ls hl => ?_)
  refine lv_iconst (v := 1) hx hb dX9_behind_6 (by decide) ?_
  refine lv_istore (lv' := [(6, .int 1), (5, .int p1), (4, .int 0), (0, .ref (g 60)), (1, .int p1), (2, .int p2), (3, .int p3)]) hx hb dX9_behind_7 hl (by decide) rfl (fun ls hl => ?_)
  refine lv_iconst (v := 0) hx hb dX9_behind_9 (by decide) ?_
  refine lv_istore (lv' := [(7, .int 0), (6, .int 1), (5, .int p1), (4, .int 0), (0, .ref (g 60)), (1, .int p1), (2, .int p2), (3, .int p3)]) hx hb dX9_behind_10 hl (by decide) rfl (fun ls hl => ?_)
  refine lv_iload hx hb dX9_behind_12 (lv_at hl 0 rfl) ?_
  refine lv_aload_n hx hb dX9_behind_14 rfl (lv_at hl 4 rfl) ?_
  refine g9_51 (x := ((σ 9).1 51)) hx hb hts hown hK hP (rfl) (hts _ q1411) dX9_behind_15 ?_
  refine lv_icmp_ge (tgt := 88) hx hb dX9_behind_18 (by decide) (fun c1 => ?_) (fun c1 => ?_)
  ·
    have k2 := ple32 c1
    refine lv_iload hx hb dX9_behind_88 (lv_at hl 3 rfl) ?_
    exact W.iret (v := 0) hx hb hr (fun tS ht hW => ⟨⟨0, σ, rfl, ⟨rfl, (show (-1 : Int) ≤ (0 : Int32).toInt ∧ (0 : Int32).toInt ≤ 29790 from (by have z0 : (0 : Int32).toInt = 0 := (by decide); omega)), trivial⟩, (show va_P D clz (WD9 cy g σ) tS.heap by rw [ht]; exact hP)⟩, hS.F ht⟩) hS.2.2 dX9_behind_90
  ·
    have k3 := nle32 c1
    refine lv_iload hx hb dX9_behind_21 (lv_at hl 2 rfl) ?_
    refine lv_bipush (v := 31) hx hb dX9_behind_23 (by decide) ?_
    refine lv_irem hx hb dX9_behind_25 (by decide) ?_
    refine lv_topi (fun x4 ex4 => ?_)
    have t5 := remN (n := 31) ex4 (by decide) (by have f0 := h0; have g0 := rg32 p1; omega)
    refine lv_istore (lv' := [(8, .int x4), (7, .int 0), (6, .int 1), (5, .int p1), (4, .int 0), (0, .ref (g 60)), (1, .int p1), (2, .int p2), (3, .int p3)]) hx hb dX9_behind_26 hl (by decide) rfl (fun ls hl => ?_)
    refine lv_iload hx hb dX9_behind_28 (lv_at hl 3 rfl) ?_
    refine lv_bipush (v := 31) hx hb dX9_behind_30 (by decide) ?_
    refine lv_idiv hx hb dX9_behind_32 (by decide) ?_
    refine lv_topi (fun x6 ex6 => ?_)
    have t7 := divN (n := 31) ex6 (by decide) (by have f0 := h0; have f1 := t5; have g0 := rg32 p1; omega)
    refine lv_istore (lv' := [(5, .int x6), (8, .int x4), (7, .int 0), (6, .int 1), (4, .int 0), (0, .ref (g 60)), (1, .int p1), (2, .int p2), (3, .int p3)]) hx hb dX9_behind_33 hl (by decide) rfl (fun ls hl => ?_)
    refine lv_iload hx hb dX9_behind_35 (lv_at hl 2 rfl) ?_
    refine lv_iload_n hx hb dX9_behind_37 rfl (lv_at hl 8 rfl) ?_
    refine lv_icmp_ne (tgt := 45) hx hb dX9_behind_38 (by decide) (fun c8 => ?_) (fun c8 => ?_)
    ·
      have k9 := neq32 c8
      refine lv_iload hx hb dX9_behind_45 (lv_at hl 1 rfl) ?_
      refine lv_iload_n hx hb dX9_behind_47 rfl (lv_at hl 7 rfl) ?_
      refine lv_iadd hx hb dX9_behind_48 ?_
      refine lv_topi (fun x10 ex10 => ?_)
      have t11 := addO ex10 (by have f0 := h1; have f1 := t5; have f2 := h0; have f3 := t7; have g0 := rg32 p2; have g1 := rg32 x4; omega)
      refine lv_istore (lv' := [(8, .int x10), (5, .int x6), (7, .int 0), (6, .int 1), (4, .int 0), (0, .ref (g 60)), (1, .int p1), (2, .int p2), (3, .int p3)]) hx hb dX9_behind_49 hl (by decide) rfl (fun ls hl => ?_)
      refine lv_iload hx hb dX9_behind_51 (lv_at hl 0 rfl) ?_
      refine lv_aload_n hx hb dX9_behind_53 rfl (lv_at hl 5 rfl) ?_
      refine g9_54 hx hb hts hown hK hP (hts _ q1414) dX9_behind_54 ?_
      refine lv_iload hx hb dX9_behind_57 (lv_at hl 2 rfl) ?_
      refine l9_54 (x := ((σ 9).2.2.1 54 0)) hx hb hK hP (vpi (by decide)) (congrArg ((σ 9).2.2.1 54) (show (0 : Int32).toInt.toNat = 0 by decide)) dX9_behind_59 ?_
      refine lv_icmp_le (tgt := 65) hx hb dX9_behind_60 (by decide) (fun c12 => ?_) (fun c12 => ?_)
      ·
        have k13 := ple32 c12
        refine lv_iload hx hb dX9_behind_65 (lv_at hl 4 rfl) ?_
        refine lv_iload hx hb dX9_behind_67 (lv_at hl 3 rfl) ?_
        refine lv_iload hx hb dX9_behind_69 (lv_at hl 0 rfl) ?_
        refine lv_imul hx hb dX9_behind_71 ?_
        refine lv_topi (fun x14 ex14 => ?_)
        have t15 := mulC' (n := 1) ex14 (by decide) (by have f0 := t11; have f1 := k13; have f2 := a9_54 hJ (j := 0) rfl; have f3 := h1; have f4 := t5; have f5 := h0; have f6 := t7; have g0 := rg32 x10; omega)
        refine lv_iadd hx hb dX9_behind_72 ?_
        refine lv_topi (fun x16 ex16 => ?_)
        have t17 := addO ex16 (by have f0 := t15; have f1 := t11; have f2 := k13; have f3 := a9_54 hJ (j := 0) rfl; have f4 := h1; have f5 := t5; have f6 := h0; have f7 := t7; have g0 := rg32 x14; have z0 : (0 : Int32).toInt = 0 := (by decide); omega)
        refine lv_istore (lv' := [(4, .int x16), (8, .int x10), (5, .int x6), (7, .int 0), (6, .int 1), (0, .ref (g 60)), (1, .int p1), (2, .int p2), (3, .int p3)]) hx hb dX9_behind_73 hl (by decide) rfl (fun ls hl => ?_)
        refine lv_iload hx hb dX9_behind_75 (lv_at hl 4 rfl) ?_
        refine lv_bipush (v := 31) hx hb dX9_behind_77 (by decide) ?_
        refine lv_imul hx hb dX9_behind_79 ?_
        refine lv_topi (fun x18 ex18 => ?_)
        obtain rfl : x18 = 31 := ex18.trans (by decide)
        refine lv_istore (lv' := [(6, .int 31), (4, .int x16), (8, .int x10), (5, .int x6), (7, .int 0), (0, .ref (g 60)), (1, .int p1), (2, .int p2), (3, .int p3)]) hx hb dX9_behind_80 hl (by decide) rfl (fun ls hl => ?_)
        refine lv_iinc (v := 1) (lv' := [(7, .int 1), (6, .int 31), (4, .int x16), (8, .int x10), (5, .int x6), (0, .ref (g 60)), (1, .int p1), (2, .int p2), (3, .int p3)]) hx hb dX9_behind_82 hl (k := 4) rfl (by decide) (by decide) rfl (fun ls hl => ?_)
        refine lv_goto (tgt := 12) hx hb dX9_behind_85 (by decide) ?_
        refine lv_iload hx hb dX9_behind_12 (lv_at hl 0 rfl) ?_
        refine lv_aload_n hx hb dX9_behind_14 rfl (lv_at hl 5 rfl) ?_
        refine g9_51 (x := ((σ 9).1 51)) hx hb hts hown hK hP (rfl) (hts _ q1411) dX9_behind_15 ?_
        refine lv_icmp_ge (tgt := 88) hx hb dX9_behind_18 (by decide) (fun c19 => ?_) (fun c19 => ?_)
        ·
          have k20 := ple32 c19
          refine lv_iload hx hb dX9_behind_88 (lv_at hl 2 rfl) ?_
          exact W.iret (v := x16) hx hb hr (fun tS ht hW => ⟨⟨x16, σ, rfl, ⟨rfl, (show (-1 : Int) ≤ x16.toInt ∧ x16.toInt ≤ 29790 from (by have f0 := t17; have f1 := t15; have f2 := t11; have f3 := k13; have f4 := a9_54 hJ (j := 0) rfl; have f5 := h1; have f6 := t5; have f7 := h0; have f8 := t7; have g0 := rg32 x16; have z0 : (0 : Int32).toInt = 0 := (by decide); omega)), trivial⟩, (show va_P D clz (WD9 cy g σ) tS.heap by rw [ht]; exact hP)⟩, hS.F ht⟩) hS.2.2 dX9_behind_90
        ·
          have k21 := nle32 c19
          refine lv_iload hx hb dX9_behind_21 (lv_at hl 4 rfl) ?_
          refine lv_bipush (v := 31) hx hb dX9_behind_23 (by decide) ?_
          refine lv_irem hx hb dX9_behind_25 (by decide) ?_
          refine lv_topi (fun x22 ex22 => ?_)
          have t23 := remC (n := 31) ex22 (by decide) (by have f0 := t7; have f1 := h0; have f2 := t5; have f3 := t11; have f4 := h1; have f5 := k13; have f6 := t15; have f7 := a9_54 hJ (j := 0) rfl; have f8 := t17; have g0 := rg32 x6; have z0 : (0 : Int32).toInt = 0 := (by decide); omega)
          refine lv_istore (lv' := [(8, .int x22), (7, .int 1), (6, .int 31), (4, .int x16), (5, .int x6), (0, .ref (g 60)), (1, .int p1), (2, .int p2), (3, .int p3)]) hx hb dX9_behind_26 hl (by decide) rfl (fun ls hl => ?_)
          refine lv_iload hx hb dX9_behind_28 (lv_at hl 4 rfl) ?_
          refine lv_bipush (v := 31) hx hb dX9_behind_30 (by decide) ?_
          refine lv_idiv hx hb dX9_behind_32 (by decide) ?_
          refine lv_topi (fun x24 ex24 => ?_)
          have t25 := divC (n := 31) ex24 (by decide) (by have f0 := t7; have f1 := t23; have f2 := h0; have f3 := t5; have f4 := t11; have f5 := h1; have f6 := k13; have f7 := t15; have f8 := a9_54 hJ (j := 0) rfl; have f9 := t17; have g0 := rg32 x6; have z0 : (0 : Int32).toInt = 0 := (by decide); omega)
          refine lv_istore (lv' := [(5, .int x24), (8, .int x22), (7, .int 1), (6, .int 31), (4, .int x16), (0, .ref (g 60)), (1, .int p1), (2, .int p2), (3, .int p3)]) hx hb dX9_behind_33 hl (by decide) rfl (fun ls hl => ?_)
          refine lv_iload hx hb dX9_behind_35 (lv_at hl 2 rfl) ?_
          refine lv_iload_n hx hb dX9_behind_37 rfl (lv_at hl 8 rfl) ?_
          refine lv_icmp_ne (tgt := 45) hx hb dX9_behind_38 (by decide) (fun c26 => ?_) (fun c26 => ?_)
          ·
            have k27 := neq32 c26
            refine lv_iload hx hb dX9_behind_45 (lv_at hl 1 rfl) ?_
            refine lv_iload_n hx hb dX9_behind_47 rfl (lv_at hl 7 rfl) ?_
            refine lv_iadd hx hb dX9_behind_48 ?_
            refine lv_topi (fun x28 ex28 => ?_)
            have t29 := addO ex28 (by have f0 := h1; have f1 := t11; have f2 := t23; have f3 := t5; have f4 := t7; have f5 := k13; have f6 := t15; have f7 := t25; have f8 := a9_54 hJ (j := 0) rfl; have f9 := h0; have f10 := t17; have g0 := rg32 p2; have g1 := rg32 x22; have z0 : (0 : Int32).toInt = 0 := (by decide); omega)
            refine lv_istore (lv' := [(8, .int x28), (5, .int x24), (7, .int 1), (6, .int 31), (4, .int x16), (0, .ref (g 60)), (1, .int p1), (2, .int p2), (3, .int p3)]) hx hb dX9_behind_49 hl (by decide) rfl (fun ls hl => ?_)
            refine lv_iload hx hb dX9_behind_51 (lv_at hl 0 rfl) ?_
            refine lv_aload_n hx hb dX9_behind_53 rfl (lv_at hl 5 rfl) ?_
            refine g9_54 hx hb hts hown hK hP (hts _ q1414) dX9_behind_54 ?_
            refine lv_iload hx hb dX9_behind_57 (lv_at hl 2 rfl) ?_
            refine l9_54 (x := ((σ 9).2.2.1 54 1)) hx hb hK hP (vpi (by decide)) (congrArg ((σ 9).2.2.1 54) (show (1 : Int32).toInt.toNat = 1 by decide)) dX9_behind_59 ?_
            refine lv_icmp_le (tgt := 65) hx hb dX9_behind_60 (by decide) (fun c30 => ?_) (fun c30 => ?_)
            ·
              have k31 := ple32 c30
              refine lv_iload hx hb dX9_behind_65 (lv_at hl 4 rfl) ?_
              refine lv_iload hx hb dX9_behind_67 (lv_at hl 3 rfl) ?_
              refine lv_iload hx hb dX9_behind_69 (lv_at hl 0 rfl) ?_
              refine lv_imul hx hb dX9_behind_71 ?_
              refine lv_topi (fun x32 ex32 => ?_)
              have t33 := mulC' (n := 31) ex32 (by decide) (by have f0 := t29; have f1 := k31; have f2 := a9_54 hJ (j := 1) rfl; have f3 := h1; have f4 := t11; have f5 := t23; have f6 := t5; have f7 := t7; have f8 := k13; have f9 := t15; have f10 := t25; have f11 := a9_54 hJ (j := 0) rfl; have f12 := h0; have f13 := t17; have g0 := rg32 x28; have z0 : (0 : Int32).toInt = 0 := (by decide); omega)
              refine lv_iadd hx hb dX9_behind_72 ?_
              refine lv_topi (fun x34 ex34 => ?_)
              have t35 := addO ex34 (by have f0 := t17; have f1 := t33; have f2 := t15; have f3 := t29; have f4 := k31; have f5 := a9_54 hJ (j := 1) rfl; have f6 := h1; have f7 := t11; have f8 := k13; have f9 := t23; have f10 := a9_54 hJ (j := 0) rfl; have f11 := t5; have f12 := t7; have f13 := t25; have f14 := h0; have g0 := rg32 x16; have g1 := rg32 x32; have z0 : (0 : Int32).toInt = 0 := (by decide); omega)
              refine lv_istore (lv' := [(4, .int x34), (8, .int x28), (5, .int x24), (7, .int 1), (6, .int 31), (0, .ref (g 60)), (1, .int p1), (2, .int p2), (3, .int p3)]) hx hb dX9_behind_73 hl (by decide) rfl (fun ls hl => ?_)
              refine lv_iload hx hb dX9_behind_75 (lv_at hl 4 rfl) ?_
              refine lv_bipush (v := 31) hx hb dX9_behind_77 (by decide) ?_
              refine lv_imul hx hb dX9_behind_79 ?_
              refine lv_topi (fun x36 ex36 => ?_)
              obtain rfl : x36 = 961 := ex36.trans (by decide)
              refine lv_istore (lv' := [(6, .int 961), (4, .int x34), (8, .int x28), (5, .int x24), (7, .int 1), (0, .ref (g 60)), (1, .int p1), (2, .int p2), (3, .int p3)]) hx hb dX9_behind_80 hl (by decide) rfl (fun ls hl => ?_)
              refine lv_iinc (v := 2) (lv' := [(7, .int 2), (6, .int 961), (4, .int x34), (8, .int x28), (5, .int x24), (0, .ref (g 60)), (1, .int p1), (2, .int p2), (3, .int p3)]) hx hb dX9_behind_82 hl (k := 4) rfl (by decide) (by decide) rfl (fun ls hl => ?_)
              refine lv_goto (tgt := 12) hx hb dX9_behind_85 (by decide) ?_
              refine lv_iload hx hb dX9_behind_12 (lv_at hl 0 rfl) ?_
              refine lv_aload_n hx hb dX9_behind_14 rfl (lv_at hl 5 rfl) ?_
              refine g9_51 (x := ((σ 9).1 51)) hx hb hts hown hK hP (rfl) (hts _ q1411) dX9_behind_15 ?_
              refine lv_icmp_ge (tgt := 88) hx hb dX9_behind_18 (by decide) (fun c37 => ?_) (fun c37 => ?_)
              ·
                have k38 := ple32 c37
                refine lv_iload hx hb dX9_behind_88 (lv_at hl 2 rfl) ?_
                exact W.iret (v := x34) hx hb hr (fun tS ht hW => ⟨⟨x34, σ, rfl, ⟨rfl, (show (-1 : Int) ≤ x34.toInt ∧ x34.toInt ≤ 29790 from (by have f0 := t35; have f1 := t17; have f2 := t33; have f3 := t15; have f4 := t29; have f5 := k31; have f6 := a9_54 hJ (j := 1) rfl; have f7 := h1; have f8 := t11; have f9 := k13; have f10 := t23; have f11 := a9_54 hJ (j := 0) rfl; have f12 := t5; have f13 := t7; have f14 := t25; have f15 := h0; have g0 := rg32 x34; have z0 : (0 : Int32).toInt = 0 := (by decide); omega)), trivial⟩, (show va_P D clz (WD9 cy g σ) tS.heap by rw [ht]; exact hP)⟩, hS.F ht⟩) hS.2.2 dX9_behind_90
              ·
                have k39 := nle32 c37
                refine lv_iload hx hb dX9_behind_21 (lv_at hl 4 rfl) ?_
                refine lv_bipush (v := 31) hx hb dX9_behind_23 (by decide) ?_
                refine lv_irem hx hb dX9_behind_25 (by decide) ?_
                refine lv_topi (fun x40 ex40 => ?_)
                have t41 := remC (n := 31) ex40 (by decide) (by have f0 := t25; have f1 := t7; have f2 := t23; have f3 := h0; have f4 := t5; have f5 := t29; have f6 := h1; have f7 := t11; have f8 := k31; have f9 := t33; have f10 := a9_54 hJ (j := 1) rfl; have f11 := k13; have f12 := t15; have f13 := t35; have f14 := a9_54 hJ (j := 0) rfl; have f15 := t17; have g0 := rg32 x24; have z0 : (0 : Int32).toInt = 0 := (by decide); omega)
                refine lv_istore (lv' := [(8, .int x40), (7, .int 2), (6, .int 961), (4, .int x34), (5, .int x24), (0, .ref (g 60)), (1, .int p1), (2, .int p2), (3, .int p3)]) hx hb dX9_behind_26 hl (by decide) rfl (fun ls hl => ?_)
                refine lv_iload hx hb dX9_behind_28 (lv_at hl 4 rfl) ?_
                refine lv_bipush (v := 31) hx hb dX9_behind_30 (by decide) ?_
                refine lv_idiv hx hb dX9_behind_32 (by decide) ?_
                refine lv_topi (fun x42 ex42 => ?_)
                have t43 := divC (n := 31) ex42 (by decide) (by have f0 := t25; have f1 := t41; have f2 := t7; have f3 := t23; have f4 := h0; have f5 := t5; have f6 := t29; have f7 := h1; have f8 := t11; have f9 := k31; have f10 := t33; have f11 := a9_54 hJ (j := 1) rfl; have f12 := k13; have f13 := t15; have f14 := t35; have f15 := a9_54 hJ (j := 0) rfl; have f16 := t17; have g0 := rg32 x24; have z0 : (0 : Int32).toInt = 0 := (by decide); omega)
                refine lv_istore (lv' := [(5, .int x42), (8, .int x40), (7, .int 2), (6, .int 961), (4, .int x34), (0, .ref (g 60)), (1, .int p1), (2, .int p2), (3, .int p3)]) hx hb dX9_behind_33 hl (by decide) rfl (fun ls hl => ?_)
                refine lv_iload hx hb dX9_behind_35 (lv_at hl 2 rfl) ?_
                refine lv_iload_n hx hb dX9_behind_37 rfl (lv_at hl 8 rfl) ?_
                refine lv_icmp_ne (tgt := 45) hx hb dX9_behind_38 (by decide) (fun c44 => ?_) (fun c44 => ?_)
                ·
                  have k45 := neq32 c44
                  refine lv_iload hx hb dX9_behind_45 (lv_at hl 1 rfl) ?_
                  refine lv_iload_n hx hb dX9_behind_47 rfl (lv_at hl 7 rfl) ?_
                  refine lv_iadd hx hb dX9_behind_48 ?_
                  refine lv_topi (fun x46 ex46 => ?_)
                  have t47 := addO ex46 (by have f0 := h1; have f1 := t11; have f2 := t29; have f3 := t41; have f4 := t5; have f5 := k13; have f6 := t15; have f7 := t23; have f8 := t25; have f9 := k31; have f10 := t33; have f11 := t43; have f12 := a9_54 hJ (j := 1) rfl; have f13 := a9_54 hJ (j := 0) rfl; have f14 := h0; have f15 := t7; have f16 := t17; have f17 := t35; have g0 := rg32 p2; have g1 := rg32 x40; have z0 : (0 : Int32).toInt = 0 := (by decide); omega)
                  refine lv_istore (lv' := [(8, .int x46), (5, .int x42), (7, .int 2), (6, .int 961), (4, .int x34), (0, .ref (g 60)), (1, .int p1), (2, .int p2), (3, .int p3)]) hx hb dX9_behind_49 hl (by decide) rfl (fun ls hl => ?_)
                  refine lv_iload hx hb dX9_behind_51 (lv_at hl 0 rfl) ?_
                  refine lv_aload_n hx hb dX9_behind_53 rfl (lv_at hl 5 rfl) ?_
                  refine g9_54 hx hb hts hown hK hP (hts _ q1414) dX9_behind_54 ?_
                  refine lv_iload hx hb dX9_behind_57 (lv_at hl 2 rfl) ?_
                  refine l9_54 (x := ((σ 9).2.2.1 54 2)) hx hb hK hP (vpi (by decide)) (congrArg ((σ 9).2.2.1 54) (show (2 : Int32).toInt.toNat = 2 by decide)) dX9_behind_59 ?_
                  refine lv_icmp_le (tgt := 65) hx hb dX9_behind_60 (by decide) (fun c48 => ?_) (fun c48 => ?_)
                  ·
                    have k49 := ple32 c48
                    refine lv_iload hx hb dX9_behind_65 (lv_at hl 4 rfl) ?_
                    refine lv_iload hx hb dX9_behind_67 (lv_at hl 3 rfl) ?_
                    refine lv_iload hx hb dX9_behind_69 (lv_at hl 0 rfl) ?_
                    refine lv_imul hx hb dX9_behind_71 ?_
                    refine lv_topi (fun x50 ex50 => ?_)
                    have t51 := mulC' (n := 961) ex50 (by decide) (by have f0 := t47; have f1 := k49; have f2 := a9_54 hJ (j := 2) rfl; have f3 := h1; have f4 := t11; have f5 := t29; have f6 := t41; have f7 := t5; have f8 := k13; have f9 := t15; have f10 := t23; have f11 := t25; have f12 := k31; have f13 := t33; have f14 := t43; have f15 := a9_54 hJ (j := 1) rfl; have f16 := a9_54 hJ (j := 0) rfl; have f17 := h0; have f18 := t7; have f19 := t17; have f20 := t35; have g0 := rg32 x46; have z0 : (0 : Int32).toInt = 0 := (by decide); omega)
                    refine lv_iadd hx hb dX9_behind_72 ?_
                    refine lv_topi (fun x52 ex52 => ?_)
                    have t53 := addO ex52 (by have f0 := t35; have f1 := t51; have f2 := t17; have f3 := t33; have f4 := t47; have f5 := k49; have f6 := a9_54 hJ (j := 2) rfl; have f7 := h1; have f8 := t11; have f9 := t15; have f10 := t29; have f11 := k31; have f12 := t41; have f13 := a9_54 hJ (j := 1) rfl; have f14 := t5; have f15 := k13; have f16 := t23; have f17 := t25; have f18 := t43; have f19 := a9_54 hJ (j := 0) rfl; have f20 := h0; have f21 := t7; have g0 := rg32 x34; have g1 := rg32 x50; have z0 : (0 : Int32).toInt = 0 := (by decide); omega)
                    refine lv_istore (lv' := [(4, .int x52), (8, .int x46), (5, .int x42), (7, .int 2), (6, .int 961), (0, .ref (g 60)), (1, .int p1), (2, .int p2), (3, .int p3)]) hx hb dX9_behind_73 hl (by decide) rfl (fun ls hl => ?_)
                    refine lv_iload hx hb dX9_behind_75 (lv_at hl 4 rfl) ?_
                    refine lv_bipush (v := 31) hx hb dX9_behind_77 (by decide) ?_
                    refine lv_imul hx hb dX9_behind_79 ?_
                    refine lv_topi (fun x54 ex54 => ?_)
                    obtain rfl : x54 = 29791 := ex54.trans (by decide)
                    refine lv_istore (lv' := [(6, .int 29791), (4, .int x52), (8, .int x46), (5, .int x42), (7, .int 2), (0, .ref (g 60)), (1, .int p1), (2, .int p2), (3, .int p3)]) hx hb dX9_behind_80 hl (by decide) rfl (fun ls hl => ?_)
                    refine lv_iinc (v := 3) (lv' := [(7, .int 3), (6, .int 29791), (4, .int x52), (8, .int x46), (5, .int x42), (0, .ref (g 60)), (1, .int p1), (2, .int p2), (3, .int p3)]) hx hb dX9_behind_82 hl (k := 4) rfl (by decide) (by decide) rfl (fun ls hl => ?_)
                    refine lv_goto (tgt := 12) hx hb dX9_behind_85 (by decide) ?_
                    refine lv_iload hx hb dX9_behind_12 (lv_at hl 0 rfl) ?_
                    refine lv_aload_n hx hb dX9_behind_14 rfl (lv_at hl 5 rfl) ?_
                    refine g9_51 (x := ((σ 9).1 51)) hx hb hts hown hK hP (rfl) (hts _ q1411) dX9_behind_15 ?_
                    refine lv_icmp_ge (tgt := 88) hx hb dX9_behind_18 (by decide) (fun c55 => ?_) (fun c55 => ?_)
                    ·
                      have k56 := ple32 c55
                      refine lv_iload hx hb dX9_behind_88 (lv_at hl 2 rfl) ?_
                      exact W.iret (v := x52) hx hb hr (fun tS ht hW => ⟨⟨x52, σ, rfl, ⟨rfl, (show (-1 : Int) ≤ x52.toInt ∧ x52.toInt ≤ 29790 from (by have f0 := t53; have f1 := t35; have f2 := t51; have f3 := t17; have f4 := t33; have f5 := t47; have f6 := k49; have f7 := a9_54 hJ (j := 2) rfl; have f8 := h1; have f9 := t11; have f10 := t15; have f11 := t29; have f12 := k31; have f13 := t41; have f14 := a9_54 hJ (j := 1) rfl; have f15 := t5; have f16 := k13; have f17 := t23; have f18 := t25; have f19 := t43; have f20 := a9_54 hJ (j := 0) rfl; have f21 := h0; have f22 := t7; have g0 := rg32 x52; have z0 : (0 : Int32).toInt = 0 := (by decide); omega)), trivial⟩, (show va_P D clz (WD9 cy g σ) tS.heap by rw [ht]; exact hP)⟩, hS.F ht⟩) hS.2.2 dX9_behind_90
                    ·
                      have k57 := nle32 c55
                      exact False.elim (by have f0 := j9_51 hJ rfl; have f1 := k3; have f2 := k21; have f3 := k39; have f4 := k57; have z0 : (0 : Int32).toInt = 0 := (by decide); have z1 : (1 : Int32).toInt = 1 := (by decide); have z2 : (2 : Int32).toInt = 2 := (by decide); have z3 : (3 : Int32).toInt = 3 := (by decide); omega)
                  ·
                    have k58 := nle32 c48
                    refine lv_iconst (v := (-1)) hx hb dX9_behind_63 (by decide) ?_
                    exact W.iret (v := (-1)) hx hb hr (fun tS ht hW => ⟨⟨(-1), σ, rfl, ⟨rfl, (show (-1 : Int) ≤ ((-1) : Int32).toInt ∧ ((-1) : Int32).toInt ≤ 29790 from (by have zm1 : ((-1) : Int32).toInt = (-1) := (by decide); omega)), trivial⟩, (show va_P D clz (WD9 cy g σ) tS.heap by rw [ht]; exact hP)⟩, hS.F ht⟩) hS.2.2 dX9_behind_64
                ·
                  have k59 := peq32 c44
                  refine lv_iconst (v := 0) hx hb dX9_behind_41 (by decide) ?_
                  refine lv_goto (tgt := 49) hx hb dX9_behind_42 (by decide) ?_
                  refine lv_istore (lv' := [(8, .int 0), (5, .int x42), (7, .int 2), (6, .int 961), (4, .int x34), (0, .ref (g 60)), (1, .int p1), (2, .int p2), (3, .int p3)]) hx hb dX9_behind_49 hl (by decide) rfl (fun ls hl => ?_)
                  refine lv_iload hx hb dX9_behind_51 (lv_at hl 0 rfl) ?_
                  refine lv_aload_n hx hb dX9_behind_53 rfl (lv_at hl 5 rfl) ?_
                  refine g9_54 hx hb hts hown hK hP (hts _ q1414) dX9_behind_54 ?_
                  refine lv_iload hx hb dX9_behind_57 (lv_at hl 2 rfl) ?_
                  refine l9_54 (x := ((σ 9).2.2.1 54 2)) hx hb hK hP (vpi (by decide)) (congrArg ((σ 9).2.2.1 54) (show (2 : Int32).toInt.toNat = 2 by decide)) dX9_behind_59 ?_
                  refine lv_icmp_le (tgt := 65) hx hb dX9_behind_60 (by decide) (fun c60 => ?_) (fun c60 => ?_)
                  ·
                    have k61 := ple32 c60
                    refine lv_iload hx hb dX9_behind_65 (lv_at hl 4 rfl) ?_
                    refine lv_iload hx hb dX9_behind_67 (lv_at hl 3 rfl) ?_
                    refine lv_iload hx hb dX9_behind_69 (lv_at hl 0 rfl) ?_
                    refine lv_imul hx hb dX9_behind_71 ?_
                    refine lv_topi (fun x62 ex62 => ?_)
                    obtain rfl : x62 = 0 := ex62.trans (by decide)
                    refine lv_iadd hx hb dX9_behind_72 ?_
                    refine lv_topi (fun x63 ex63 => ?_)
                    have t64 := addO ex63 (by have f0 := t35; have f1 := t17; have f2 := t33; have f3 := t15; have f4 := t29; have f5 := k31; have f6 := a9_54 hJ (j := 1) rfl; have f7 := h1; have f8 := t11; have f9 := k13; have f10 := t23; have f11 := a9_54 hJ (j := 0) rfl; have f12 := t5; have f13 := t7; have f14 := t25; have f15 := h0; have f16 := t41; have f17 := t43; have g0 := rg32 x34; have z0 : (0 : Int32).toInt = 0 := (by decide); omega)
                    refine lv_istore (lv' := [(4, .int x63), (8, .int 0), (5, .int x42), (7, .int 2), (6, .int 961), (0, .ref (g 60)), (1, .int p1), (2, .int p2), (3, .int p3)]) hx hb dX9_behind_73 hl (by decide) rfl (fun ls hl => ?_)
                    refine lv_iload hx hb dX9_behind_75 (lv_at hl 4 rfl) ?_
                    refine lv_bipush (v := 31) hx hb dX9_behind_77 (by decide) ?_
                    refine lv_imul hx hb dX9_behind_79 ?_
                    refine lv_topi (fun x65 ex65 => ?_)
                    obtain rfl : x65 = 29791 := ex65.trans (by decide)
                    refine lv_istore (lv' := [(6, .int 29791), (4, .int x63), (8, .int 0), (5, .int x42), (7, .int 2), (0, .ref (g 60)), (1, .int p1), (2, .int p2), (3, .int p3)]) hx hb dX9_behind_80 hl (by decide) rfl (fun ls hl => ?_)
                    refine lv_iinc (v := 3) (lv' := [(7, .int 3), (6, .int 29791), (4, .int x63), (8, .int 0), (5, .int x42), (0, .ref (g 60)), (1, .int p1), (2, .int p2), (3, .int p3)]) hx hb dX9_behind_82 hl (k := 4) rfl (by decide) (by decide) rfl (fun ls hl => ?_)
                    refine lv_goto (tgt := 12) hx hb dX9_behind_85 (by decide) ?_
                    refine lv_iload hx hb dX9_behind_12 (lv_at hl 0 rfl) ?_
                    refine lv_aload_n hx hb dX9_behind_14 rfl (lv_at hl 5 rfl) ?_
                    refine g9_51 (x := ((σ 9).1 51)) hx hb hts hown hK hP (rfl) (hts _ q1411) dX9_behind_15 ?_
                    refine lv_icmp_ge (tgt := 88) hx hb dX9_behind_18 (by decide) (fun c66 => ?_) (fun c66 => ?_)
                    ·
                      have k67 := ple32 c66
                      refine lv_iload hx hb dX9_behind_88 (lv_at hl 2 rfl) ?_
                      exact W.iret (v := x63) hx hb hr (fun tS ht hW => ⟨⟨x63, σ, rfl, ⟨rfl, (show (-1 : Int) ≤ x63.toInt ∧ x63.toInt ≤ 29790 from (by have f0 := t64; have f1 := t35; have f2 := t17; have f3 := t33; have f4 := t15; have f5 := t29; have f6 := k31; have f7 := a9_54 hJ (j := 1) rfl; have f8 := h1; have f9 := t11; have f10 := k13; have f11 := t23; have f12 := a9_54 hJ (j := 0) rfl; have f13 := t5; have f14 := t7; have f15 := t25; have f16 := h0; have f17 := t41; have f18 := t43; have g0 := rg32 x63; have z0 : (0 : Int32).toInt = 0 := (by decide); omega)), trivial⟩, (show va_P D clz (WD9 cy g σ) tS.heap by rw [ht]; exact hP)⟩, hS.F ht⟩) hS.2.2 dX9_behind_90
                    ·
                      have k68 := nle32 c66
                      exact False.elim (by have f0 := j9_51 hJ rfl; have f1 := k3; have f2 := k21; have f3 := k39; have f4 := k68; have z0 : (0 : Int32).toInt = 0 := (by decide); have z1 : (1 : Int32).toInt = 1 := (by decide); have z2 : (2 : Int32).toInt = 2 := (by decide); have z3 : (3 : Int32).toInt = 3 := (by decide); omega)
                  ·
                    have k69 := nle32 c60
                    exact False.elim (by have f0 := a9_54 hJ (j := 2) rfl; have f1 := k69; have z0 : (0 : Int32).toInt = 0 := (by decide); omega)
            ·
              have k70 := nle32 c30
              refine lv_iconst (v := (-1)) hx hb dX9_behind_63 (by decide) ?_
              exact W.iret (v := (-1)) hx hb hr (fun tS ht hW => ⟨⟨(-1), σ, rfl, ⟨rfl, (show (-1 : Int) ≤ ((-1) : Int32).toInt ∧ ((-1) : Int32).toInt ≤ 29790 from (by have zm1 : ((-1) : Int32).toInt = (-1) := (by decide); omega)), trivial⟩, (show va_P D clz (WD9 cy g σ) tS.heap by rw [ht]; exact hP)⟩, hS.F ht⟩) hS.2.2 dX9_behind_64
          ·
            have k71 := peq32 c26
            refine lv_iconst (v := 0) hx hb dX9_behind_41 (by decide) ?_
            refine lv_goto (tgt := 49) hx hb dX9_behind_42 (by decide) ?_
            refine lv_istore (lv' := [(8, .int 0), (5, .int x24), (7, .int 1), (6, .int 31), (4, .int x16), (0, .ref (g 60)), (1, .int p1), (2, .int p2), (3, .int p3)]) hx hb dX9_behind_49 hl (by decide) rfl (fun ls hl => ?_)
            refine lv_iload hx hb dX9_behind_51 (lv_at hl 0 rfl) ?_
            refine lv_aload_n hx hb dX9_behind_53 rfl (lv_at hl 5 rfl) ?_
            refine g9_54 hx hb hts hown hK hP (hts _ q1414) dX9_behind_54 ?_
            refine lv_iload hx hb dX9_behind_57 (lv_at hl 2 rfl) ?_
            refine l9_54 (x := ((σ 9).2.2.1 54 1)) hx hb hK hP (vpi (by decide)) (congrArg ((σ 9).2.2.1 54) (show (1 : Int32).toInt.toNat = 1 by decide)) dX9_behind_59 ?_
            refine lv_icmp_le (tgt := 65) hx hb dX9_behind_60 (by decide) (fun c72 => ?_) (fun c72 => ?_)
            ·
              have k73 := ple32 c72
              refine lv_iload hx hb dX9_behind_65 (lv_at hl 4 rfl) ?_
              refine lv_iload hx hb dX9_behind_67 (lv_at hl 3 rfl) ?_
              refine lv_iload hx hb dX9_behind_69 (lv_at hl 0 rfl) ?_
              refine lv_imul hx hb dX9_behind_71 ?_
              refine lv_topi (fun x74 ex74 => ?_)
              obtain rfl : x74 = 0 := ex74.trans (by decide)
              refine lv_iadd hx hb dX9_behind_72 ?_
              refine lv_topi (fun x75 ex75 => ?_)
              have t76 := addO ex75 (by have f0 := t17; have f1 := t15; have f2 := t11; have f3 := k13; have f4 := a9_54 hJ (j := 0) rfl; have f5 := h1; have f6 := t5; have f7 := h0; have f8 := t7; have f9 := t23; have f10 := t25; have g0 := rg32 x16; have z0 : (0 : Int32).toInt = 0 := (by decide); omega)
              refine lv_istore (lv' := [(4, .int x75), (8, .int 0), (5, .int x24), (7, .int 1), (6, .int 31), (0, .ref (g 60)), (1, .int p1), (2, .int p2), (3, .int p3)]) hx hb dX9_behind_73 hl (by decide) rfl (fun ls hl => ?_)
              refine lv_iload hx hb dX9_behind_75 (lv_at hl 4 rfl) ?_
              refine lv_bipush (v := 31) hx hb dX9_behind_77 (by decide) ?_
              refine lv_imul hx hb dX9_behind_79 ?_
              refine lv_topi (fun x77 ex77 => ?_)
              obtain rfl : x77 = 961 := ex77.trans (by decide)
              refine lv_istore (lv' := [(6, .int 961), (4, .int x75), (8, .int 0), (5, .int x24), (7, .int 1), (0, .ref (g 60)), (1, .int p1), (2, .int p2), (3, .int p3)]) hx hb dX9_behind_80 hl (by decide) rfl (fun ls hl => ?_)
              refine lv_iinc (v := 2) (lv' := [(7, .int 2), (6, .int 961), (4, .int x75), (8, .int 0), (5, .int x24), (0, .ref (g 60)), (1, .int p1), (2, .int p2), (3, .int p3)]) hx hb dX9_behind_82 hl (k := 4) rfl (by decide) (by decide) rfl (fun ls hl => ?_)
              refine lv_goto (tgt := 12) hx hb dX9_behind_85 (by decide) ?_
              refine lv_iload hx hb dX9_behind_12 (lv_at hl 0 rfl) ?_
              refine lv_aload_n hx hb dX9_behind_14 rfl (lv_at hl 5 rfl) ?_
              refine g9_51 (x := ((σ 9).1 51)) hx hb hts hown hK hP (rfl) (hts _ q1411) dX9_behind_15 ?_
              refine lv_icmp_ge (tgt := 88) hx hb dX9_behind_18 (by decide) (fun c78 => ?_) (fun c78 => ?_)
              ·
                have k79 := ple32 c78
                refine lv_iload hx hb dX9_behind_88 (lv_at hl 2 rfl) ?_
                exact W.iret (v := x75) hx hb hr (fun tS ht hW => ⟨⟨x75, σ, rfl, ⟨rfl, (show (-1 : Int) ≤ x75.toInt ∧ x75.toInt ≤ 29790 from (by have f0 := t76; have f1 := t17; have f2 := t15; have f3 := t11; have f4 := k13; have f5 := a9_54 hJ (j := 0) rfl; have f6 := h1; have f7 := t5; have f8 := h0; have f9 := t7; have f10 := t23; have f11 := t25; have g0 := rg32 x75; have z0 : (0 : Int32).toInt = 0 := (by decide); omega)), trivial⟩, (show va_P D clz (WD9 cy g σ) tS.heap by rw [ht]; exact hP)⟩, hS.F ht⟩) hS.2.2 dX9_behind_90
              ·
                have k80 := nle32 c78
                refine lv_iload hx hb dX9_behind_21 (lv_at hl 4 rfl) ?_
                refine lv_bipush (v := 31) hx hb dX9_behind_23 (by decide) ?_
                refine lv_irem hx hb dX9_behind_25 (by decide) ?_
                refine lv_topi (fun x81 ex81 => ?_)
                have t82 := remC (n := 31) ex81 (by decide) (by have f0 := t25; have f1 := t7; have f2 := t23; have f3 := h0; have f4 := t5; have f5 := t11; have f6 := h1; have f7 := k13; have f8 := t15; have f9 := a9_54 hJ (j := 0) rfl; have f10 := t17; have f11 := t76; have g0 := rg32 x24; have z0 : (0 : Int32).toInt = 0 := (by decide); omega)
                refine lv_istore (lv' := [(8, .int x81), (7, .int 2), (6, .int 961), (4, .int x75), (5, .int x24), (0, .ref (g 60)), (1, .int p1), (2, .int p2), (3, .int p3)]) hx hb dX9_behind_26 hl (by decide) rfl (fun ls hl => ?_)
                refine lv_iload hx hb dX9_behind_28 (lv_at hl 4 rfl) ?_
                refine lv_bipush (v := 31) hx hb dX9_behind_30 (by decide) ?_
                refine lv_idiv hx hb dX9_behind_32 (by decide) ?_
                refine lv_topi (fun x83 ex83 => ?_)
                have t84 := divC (n := 31) ex83 (by decide) (by have f0 := t25; have f1 := t82; have f2 := t7; have f3 := t23; have f4 := h0; have f5 := t5; have f6 := t11; have f7 := h1; have f8 := k13; have f9 := t15; have f10 := a9_54 hJ (j := 0) rfl; have f11 := t17; have f12 := t76; have g0 := rg32 x24; have z0 : (0 : Int32).toInt = 0 := (by decide); omega)
                refine lv_istore (lv' := [(5, .int x83), (8, .int x81), (7, .int 2), (6, .int 961), (4, .int x75), (0, .ref (g 60)), (1, .int p1), (2, .int p2), (3, .int p3)]) hx hb dX9_behind_33 hl (by decide) rfl (fun ls hl => ?_)
                refine lv_iload hx hb dX9_behind_35 (lv_at hl 2 rfl) ?_
                refine lv_iload_n hx hb dX9_behind_37 rfl (lv_at hl 8 rfl) ?_
                refine lv_icmp_ne (tgt := 45) hx hb dX9_behind_38 (by decide) (fun c85 => ?_) (fun c85 => ?_)
                ·
                  have k86 := neq32 c85
                  refine lv_iload hx hb dX9_behind_45 (lv_at hl 1 rfl) ?_
                  refine lv_iload_n hx hb dX9_behind_47 rfl (lv_at hl 7 rfl) ?_
                  refine lv_iadd hx hb dX9_behind_48 ?_
                  refine lv_topi (fun x87 ex87 => ?_)
                  have t88 := addO ex87 (by have f0 := h1; have f1 := t11; have f2 := t82; have f3 := t5; have f4 := k13; have f5 := t15; have f6 := t25; have f7 := t84; have f8 := a9_54 hJ (j := 0) rfl; have f9 := h0; have f10 := t7; have f11 := t17; have f12 := t23; have f13 := t76; have g0 := rg32 p2; have g1 := rg32 x81; have z0 : (0 : Int32).toInt = 0 := (by decide); omega)
                  refine lv_istore (lv' := [(8, .int x87), (5, .int x83), (7, .int 2), (6, .int 961), (4, .int x75), (0, .ref (g 60)), (1, .int p1), (2, .int p2), (3, .int p3)]) hx hb dX9_behind_49 hl (by decide) rfl (fun ls hl => ?_)
                  refine lv_iload hx hb dX9_behind_51 (lv_at hl 0 rfl) ?_
                  refine lv_aload_n hx hb dX9_behind_53 rfl (lv_at hl 5 rfl) ?_
                  refine g9_54 hx hb hts hown hK hP (hts _ q1414) dX9_behind_54 ?_
                  refine lv_iload hx hb dX9_behind_57 (lv_at hl 2 rfl) ?_
                  refine l9_54 (x := ((σ 9).2.2.1 54 2)) hx hb hK hP (vpi (by decide)) (congrArg ((σ 9).2.2.1 54) (show (2 : Int32).toInt.toNat = 2 by decide)) dX9_behind_59 ?_
                  refine lv_icmp_le (tgt := 65) hx hb dX9_behind_60 (by decide) (fun c89 => ?_) (fun c89 => ?_)
                  ·
                    have k90 := ple32 c89
                    refine lv_iload hx hb dX9_behind_65 (lv_at hl 4 rfl) ?_
                    refine lv_iload hx hb dX9_behind_67 (lv_at hl 3 rfl) ?_
                    refine lv_iload hx hb dX9_behind_69 (lv_at hl 0 rfl) ?_
                    refine lv_imul hx hb dX9_behind_71 ?_
                    refine lv_topi (fun x91 ex91 => ?_)
                    have t92 := mulC' (n := 961) ex91 (by decide) (by have f0 := t88; have f1 := k90; have f2 := a9_54 hJ (j := 2) rfl; have f3 := h1; have f4 := t11; have f5 := t82; have f6 := t5; have f7 := k13; have f8 := t15; have f9 := t25; have f10 := t84; have f11 := a9_54 hJ (j := 0) rfl; have f12 := h0; have f13 := t7; have f14 := t17; have f15 := t23; have f16 := t76; have g0 := rg32 x87; have z0 : (0 : Int32).toInt = 0 := (by decide); omega)
                    refine lv_iadd hx hb dX9_behind_72 ?_
                    refine lv_topi (fun x93 ex93 => ?_)
                    have t94 := addO ex93 (by have f0 := t76; have f1 := t92; have f2 := t17; have f3 := t88; have f4 := k90; have f5 := a9_54 hJ (j := 2) rfl; have f6 := h1; have f7 := t11; have f8 := t15; have f9 := t82; have f10 := t5; have f11 := k13; have f12 := t25; have f13 := t84; have f14 := a9_54 hJ (j := 0) rfl; have f15 := h0; have f16 := t7; have f17 := t23; have g0 := rg32 x75; have g1 := rg32 x91; have z0 : (0 : Int32).toInt = 0 := (by decide); omega)
                    refine lv_istore (lv' := [(4, .int x93), (8, .int x87), (5, .int x83), (7, .int 2), (6, .int 961), (0, .ref (g 60)), (1, .int p1), (2, .int p2), (3, .int p3)]) hx hb dX9_behind_73 hl (by decide) rfl (fun ls hl => ?_)
                    refine lv_iload hx hb dX9_behind_75 (lv_at hl 4 rfl) ?_
                    refine lv_bipush (v := 31) hx hb dX9_behind_77 (by decide) ?_
                    refine lv_imul hx hb dX9_behind_79 ?_
                    refine lv_topi (fun x95 ex95 => ?_)
                    obtain rfl : x95 = 29791 := ex95.trans (by decide)
                    refine lv_istore (lv' := [(6, .int 29791), (4, .int x93), (8, .int x87), (5, .int x83), (7, .int 2), (0, .ref (g 60)), (1, .int p1), (2, .int p2), (3, .int p3)]) hx hb dX9_behind_80 hl (by decide) rfl (fun ls hl => ?_)
                    refine lv_iinc (v := 3) (lv' := [(7, .int 3), (6, .int 29791), (4, .int x93), (8, .int x87), (5, .int x83), (0, .ref (g 60)), (1, .int p1), (2, .int p2), (3, .int p3)]) hx hb dX9_behind_82 hl (k := 4) rfl (by decide) (by decide) rfl (fun ls hl => ?_)
                    refine lv_goto (tgt := 12) hx hb dX9_behind_85 (by decide) ?_
                    refine lv_iload hx hb dX9_behind_12 (lv_at hl 0 rfl) ?_
                    refine lv_aload_n hx hb dX9_behind_14 rfl (lv_at hl 5 rfl) ?_
                    refine g9_51 (x := ((σ 9).1 51)) hx hb hts hown hK hP (rfl) (hts _ q1411) dX9_behind_15 ?_
                    refine lv_icmp_ge (tgt := 88) hx hb dX9_behind_18 (by decide) (fun c96 => ?_) (fun c96 => ?_)
                    ·
                      have k97 := ple32 c96
                      refine lv_iload hx hb dX9_behind_88 (lv_at hl 2 rfl) ?_
                      exact W.iret (v := x93) hx hb hr (fun tS ht hW => ⟨⟨x93, σ, rfl, ⟨rfl, (show (-1 : Int) ≤ x93.toInt ∧ x93.toInt ≤ 29790 from (by have f0 := t94; have f1 := t76; have f2 := t92; have f3 := t17; have f4 := t88; have f5 := k90; have f6 := a9_54 hJ (j := 2) rfl; have f7 := h1; have f8 := t11; have f9 := t15; have f10 := t82; have f11 := t5; have f12 := k13; have f13 := t25; have f14 := t84; have f15 := a9_54 hJ (j := 0) rfl; have f16 := h0; have f17 := t7; have f18 := t23; have g0 := rg32 x93; have z0 : (0 : Int32).toInt = 0 := (by decide); omega)), trivial⟩, (show va_P D clz (WD9 cy g σ) tS.heap by rw [ht]; exact hP)⟩, hS.F ht⟩) hS.2.2 dX9_behind_90
                    ·
                      have k98 := nle32 c96
                      exact False.elim (by have f0 := j9_51 hJ rfl; have f1 := k3; have f2 := k21; have f3 := k80; have f4 := k98; have z0 : (0 : Int32).toInt = 0 := (by decide); have z1 : (1 : Int32).toInt = 1 := (by decide); have z2 : (2 : Int32).toInt = 2 := (by decide); have z3 : (3 : Int32).toInt = 3 := (by decide); omega)
                  ·
                    have k99 := nle32 c89
                    refine lv_iconst (v := (-1)) hx hb dX9_behind_63 (by decide) ?_
                    exact W.iret (v := (-1)) hx hb hr (fun tS ht hW => ⟨⟨(-1), σ, rfl, ⟨rfl, (show (-1 : Int) ≤ ((-1) : Int32).toInt ∧ ((-1) : Int32).toInt ≤ 29790 from (by have zm1 : ((-1) : Int32).toInt = (-1) := (by decide); omega)), trivial⟩, (show va_P D clz (WD9 cy g σ) tS.heap by rw [ht]; exact hP)⟩, hS.F ht⟩) hS.2.2 dX9_behind_64
                ·
                  have k100 := peq32 c85
                  exact False.elim (by have f0 := k9; have f1 := k71; have f2 := k100; have g0 := rg32 p3; have z0 : (0 : Int32).toInt = 0 := (by decide); have z1 : (1 : Int32).toInt = 1 := (by decide); have z2 : (2 : Int32).toInt = 2 := (by decide); omega)
            ·
              have k101 := nle32 c72
              exact False.elim (by have f0 := a9_54 hJ (j := 1) rfl; have f1 := k101; have z0 : (0 : Int32).toInt = 0 := (by decide); omega)
      ·
        have k102 := nle32 c12
        refine lv_iconst (v := (-1)) hx hb dX9_behind_63 (by decide) ?_
        exact W.iret (v := (-1)) hx hb hr (fun tS ht hW => ⟨⟨(-1), σ, rfl, ⟨rfl, (show (-1 : Int) ≤ ((-1) : Int32).toInt ∧ ((-1) : Int32).toInt ≤ 29790 from (by have zm1 : ((-1) : Int32).toInt = (-1) := (by decide); omega)), trivial⟩, (show va_P D clz (WD9 cy g σ) tS.heap by rw [ht]; exact hP)⟩, hS.F ht⟩) hS.2.2 dX9_behind_64
    ·
      have k103 := peq32 c8
      refine lv_iconst (v := 0) hx hb dX9_behind_41 (by decide) ?_
      refine lv_goto (tgt := 49) hx hb dX9_behind_42 (by decide) ?_
      refine lv_istore (lv' := [(8, .int 0), (5, .int x6), (7, .int 0), (6, .int 1), (4, .int 0), (0, .ref (g 60)), (1, .int p1), (2, .int p2), (3, .int p3)]) hx hb dX9_behind_49 hl (by decide) rfl (fun ls hl => ?_)
      refine lv_iload hx hb dX9_behind_51 (lv_at hl 0 rfl) ?_
      refine lv_aload_n hx hb dX9_behind_53 rfl (lv_at hl 5 rfl) ?_
      refine g9_54 hx hb hts hown hK hP (hts _ q1414) dX9_behind_54 ?_
      refine lv_iload hx hb dX9_behind_57 (lv_at hl 2 rfl) ?_
      refine l9_54 (x := ((σ 9).2.2.1 54 0)) hx hb hK hP (vpi (by decide)) (congrArg ((σ 9).2.2.1 54) (show (0 : Int32).toInt.toNat = 0 by decide)) dX9_behind_59 ?_
      refine lv_icmp_le (tgt := 65) hx hb dX9_behind_60 (by decide) (fun c104 => ?_) (fun c104 => ?_)
      ·
        have k105 := ple32 c104
        refine lv_iload hx hb dX9_behind_65 (lv_at hl 4 rfl) ?_
        refine lv_iload hx hb dX9_behind_67 (lv_at hl 3 rfl) ?_
        refine lv_iload hx hb dX9_behind_69 (lv_at hl 0 rfl) ?_
        refine lv_imul hx hb dX9_behind_71 ?_
        refine lv_topi (fun x106 ex106 => ?_)
        obtain rfl : x106 = 0 := ex106.trans (by decide)
        refine lv_iadd hx hb dX9_behind_72 ?_
        refine lv_topi (fun x107 ex107 => ?_)
        obtain rfl : x107 = 0 := ex107.trans (by decide)
        refine lv_istore (lv' := [(4, .int 0), (8, .int 0), (5, .int x6), (7, .int 0), (6, .int 1), (0, .ref (g 60)), (1, .int p1), (2, .int p2), (3, .int p3)]) hx hb dX9_behind_73 hl (by decide) rfl (fun ls hl => ?_)
        refine lv_iload hx hb dX9_behind_75 (lv_at hl 4 rfl) ?_
        refine lv_bipush (v := 31) hx hb dX9_behind_77 (by decide) ?_
        refine lv_imul hx hb dX9_behind_79 ?_
        refine lv_topi (fun x108 ex108 => ?_)
        obtain rfl : x108 = 31 := ex108.trans (by decide)
        refine lv_istore (lv' := [(6, .int 31), (4, .int 0), (8, .int 0), (5, .int x6), (7, .int 0), (0, .ref (g 60)), (1, .int p1), (2, .int p2), (3, .int p3)]) hx hb dX9_behind_80 hl (by decide) rfl (fun ls hl => ?_)
        refine lv_iinc (v := 1) (lv' := [(7, .int 1), (6, .int 31), (4, .int 0), (8, .int 0), (5, .int x6), (0, .ref (g 60)), (1, .int p1), (2, .int p2), (3, .int p3)]) hx hb dX9_behind_82 hl (k := 4) rfl (by decide) (by decide) rfl (fun ls hl => ?_)
        refine lv_goto (tgt := 12) hx hb dX9_behind_85 (by decide) ?_
        refine lv_iload hx hb dX9_behind_12 (lv_at hl 0 rfl) ?_
        refine lv_aload_n hx hb dX9_behind_14 rfl (lv_at hl 5 rfl) ?_
        refine g9_51 (x := ((σ 9).1 51)) hx hb hts hown hK hP (rfl) (hts _ q1411) dX9_behind_15 ?_
        refine lv_icmp_ge (tgt := 88) hx hb dX9_behind_18 (by decide) (fun c109 => ?_) (fun c109 => ?_)
        ·
          have k110 := ple32 c109
          refine lv_iload hx hb dX9_behind_88 (lv_at hl 2 rfl) ?_
          exact W.iret (v := 0) hx hb hr (fun tS ht hW => ⟨⟨0, σ, rfl, ⟨rfl, (show (-1 : Int) ≤ (0 : Int32).toInt ∧ (0 : Int32).toInt ≤ 29790 from (by have z0 : (0 : Int32).toInt = 0 := (by decide); omega)), trivial⟩, (show va_P D clz (WD9 cy g σ) tS.heap by rw [ht]; exact hP)⟩, hS.F ht⟩) hS.2.2 dX9_behind_90
        ·
          have k111 := nle32 c109
          refine lv_iload hx hb dX9_behind_21 (lv_at hl 4 rfl) ?_
          refine lv_bipush (v := 31) hx hb dX9_behind_23 (by decide) ?_
          refine lv_irem hx hb dX9_behind_25 (by decide) ?_
          refine lv_topi (fun x112 ex112 => ?_)
          have t113 := remC (n := 31) ex112 (by decide) (by have f0 := t7; have f1 := h0; have f2 := t5; have g0 := rg32 x6; omega)
          refine lv_istore (lv' := [(8, .int x112), (7, .int 1), (6, .int 31), (4, .int 0), (5, .int x6), (0, .ref (g 60)), (1, .int p1), (2, .int p2), (3, .int p3)]) hx hb dX9_behind_26 hl (by decide) rfl (fun ls hl => ?_)
          refine lv_iload hx hb dX9_behind_28 (lv_at hl 4 rfl) ?_
          refine lv_bipush (v := 31) hx hb dX9_behind_30 (by decide) ?_
          refine lv_idiv hx hb dX9_behind_32 (by decide) ?_
          refine lv_topi (fun x114 ex114 => ?_)
          have t115 := divC (n := 31) ex114 (by decide) (by have f0 := t7; have f1 := t113; have f2 := h0; have f3 := t5; have g0 := rg32 x6; omega)
          refine lv_istore (lv' := [(5, .int x114), (8, .int x112), (7, .int 1), (6, .int 31), (4, .int 0), (0, .ref (g 60)), (1, .int p1), (2, .int p2), (3, .int p3)]) hx hb dX9_behind_33 hl (by decide) rfl (fun ls hl => ?_)
          refine lv_iload hx hb dX9_behind_35 (lv_at hl 2 rfl) ?_
          refine lv_iload_n hx hb dX9_behind_37 rfl (lv_at hl 8 rfl) ?_
          refine lv_icmp_ne (tgt := 45) hx hb dX9_behind_38 (by decide) (fun c116 => ?_) (fun c116 => ?_)
          ·
            have k117 := neq32 c116
            refine lv_iload hx hb dX9_behind_45 (lv_at hl 1 rfl) ?_
            refine lv_iload_n hx hb dX9_behind_47 rfl (lv_at hl 7 rfl) ?_
            refine lv_iadd hx hb dX9_behind_48 ?_
            refine lv_topi (fun x118 ex118 => ?_)
            have t119 := addO ex118 (by have f0 := h1; have f1 := t113; have f2 := t7; have f3 := t115; have f4 := h0; have f5 := t5; have g0 := rg32 p2; have g1 := rg32 x112; omega)
            refine lv_istore (lv' := [(8, .int x118), (5, .int x114), (7, .int 1), (6, .int 31), (4, .int 0), (0, .ref (g 60)), (1, .int p1), (2, .int p2), (3, .int p3)]) hx hb dX9_behind_49 hl (by decide) rfl (fun ls hl => ?_)
            refine lv_iload hx hb dX9_behind_51 (lv_at hl 0 rfl) ?_
            refine lv_aload_n hx hb dX9_behind_53 rfl (lv_at hl 5 rfl) ?_
            refine g9_54 hx hb hts hown hK hP (hts _ q1414) dX9_behind_54 ?_
            refine lv_iload hx hb dX9_behind_57 (lv_at hl 2 rfl) ?_
            refine l9_54 (x := ((σ 9).2.2.1 54 1)) hx hb hK hP (vpi (by decide)) (congrArg ((σ 9).2.2.1 54) (show (1 : Int32).toInt.toNat = 1 by decide)) dX9_behind_59 ?_
            refine lv_icmp_le (tgt := 65) hx hb dX9_behind_60 (by decide) (fun c120 => ?_) (fun c120 => ?_)
            ·
              have k121 := ple32 c120
              refine lv_iload hx hb dX9_behind_65 (lv_at hl 4 rfl) ?_
              refine lv_iload hx hb dX9_behind_67 (lv_at hl 3 rfl) ?_
              refine lv_iload hx hb dX9_behind_69 (lv_at hl 0 rfl) ?_
              refine lv_imul hx hb dX9_behind_71 ?_
              refine lv_topi (fun x122 ex122 => ?_)
              have t123 := mulC' (n := 31) ex122 (by decide) (by have f0 := t119; have f1 := k121; have f2 := a9_54 hJ (j := 1) rfl; have f3 := h1; have f4 := t113; have f5 := t7; have f6 := t115; have f7 := h0; have f8 := t5; have g0 := rg32 x118; omega)
              refine lv_iadd hx hb dX9_behind_72 ?_
              refine lv_topi (fun x124 ex124 => ?_)
              have t125 := addO ex124 (by have f0 := t123; have f1 := t119; have f2 := k121; have f3 := a9_54 hJ (j := 1) rfl; have f4 := h1; have f5 := t113; have f6 := t7; have f7 := t115; have f8 := h0; have f9 := t5; have g0 := rg32 x122; have z0 : (0 : Int32).toInt = 0 := (by decide); omega)
              refine lv_istore (lv' := [(4, .int x124), (8, .int x118), (5, .int x114), (7, .int 1), (6, .int 31), (0, .ref (g 60)), (1, .int p1), (2, .int p2), (3, .int p3)]) hx hb dX9_behind_73 hl (by decide) rfl (fun ls hl => ?_)
              refine lv_iload hx hb dX9_behind_75 (lv_at hl 4 rfl) ?_
              refine lv_bipush (v := 31) hx hb dX9_behind_77 (by decide) ?_
              refine lv_imul hx hb dX9_behind_79 ?_
              refine lv_topi (fun x126 ex126 => ?_)
              obtain rfl : x126 = 961 := ex126.trans (by decide)
              refine lv_istore (lv' := [(6, .int 961), (4, .int x124), (8, .int x118), (5, .int x114), (7, .int 1), (0, .ref (g 60)), (1, .int p1), (2, .int p2), (3, .int p3)]) hx hb dX9_behind_80 hl (by decide) rfl (fun ls hl => ?_)
              refine lv_iinc (v := 2) (lv' := [(7, .int 2), (6, .int 961), (4, .int x124), (8, .int x118), (5, .int x114), (0, .ref (g 60)), (1, .int p1), (2, .int p2), (3, .int p3)]) hx hb dX9_behind_82 hl (k := 4) rfl (by decide) (by decide) rfl (fun ls hl => ?_)
              refine lv_goto (tgt := 12) hx hb dX9_behind_85 (by decide) ?_
              refine lv_iload hx hb dX9_behind_12 (lv_at hl 0 rfl) ?_
              refine lv_aload_n hx hb dX9_behind_14 rfl (lv_at hl 5 rfl) ?_
              refine g9_51 (x := ((σ 9).1 51)) hx hb hts hown hK hP (rfl) (hts _ q1411) dX9_behind_15 ?_
              refine lv_icmp_ge (tgt := 88) hx hb dX9_behind_18 (by decide) (fun c127 => ?_) (fun c127 => ?_)
              ·
                have k128 := ple32 c127
                refine lv_iload hx hb dX9_behind_88 (lv_at hl 2 rfl) ?_
                exact W.iret (v := x124) hx hb hr (fun tS ht hW => ⟨⟨x124, σ, rfl, ⟨rfl, (show (-1 : Int) ≤ x124.toInt ∧ x124.toInt ≤ 29790 from (by have f0 := t125; have f1 := t123; have f2 := t119; have f3 := k121; have f4 := a9_54 hJ (j := 1) rfl; have f5 := h1; have f6 := t113; have f7 := t7; have f8 := t115; have f9 := h0; have f10 := t5; have g0 := rg32 x124; have z0 : (0 : Int32).toInt = 0 := (by decide); omega)), trivial⟩, (show va_P D clz (WD9 cy g σ) tS.heap by rw [ht]; exact hP)⟩, hS.F ht⟩) hS.2.2 dX9_behind_90
              ·
                have k129 := nle32 c127
                refine lv_iload hx hb dX9_behind_21 (lv_at hl 4 rfl) ?_
                refine lv_bipush (v := 31) hx hb dX9_behind_23 (by decide) ?_
                refine lv_irem hx hb dX9_behind_25 (by decide) ?_
                refine lv_topi (fun x130 ex130 => ?_)
                have t131 := remC (n := 31) ex130 (by decide) (by have f0 := t115; have f1 := t7; have f2 := t113; have f3 := h0; have f4 := t5; have f5 := t119; have f6 := h1; have f7 := k121; have f8 := t123; have f9 := a9_54 hJ (j := 1) rfl; have f10 := t125; have g0 := rg32 x114; have z0 : (0 : Int32).toInt = 0 := (by decide); omega)
                refine lv_istore (lv' := [(8, .int x130), (7, .int 2), (6, .int 961), (4, .int x124), (5, .int x114), (0, .ref (g 60)), (1, .int p1), (2, .int p2), (3, .int p3)]) hx hb dX9_behind_26 hl (by decide) rfl (fun ls hl => ?_)
                refine lv_iload hx hb dX9_behind_28 (lv_at hl 4 rfl) ?_
                refine lv_bipush (v := 31) hx hb dX9_behind_30 (by decide) ?_
                refine lv_idiv hx hb dX9_behind_32 (by decide) ?_
                refine lv_topi (fun x132 ex132 => ?_)
                have t133 := divC (n := 31) ex132 (by decide) (by have f0 := t115; have f1 := t131; have f2 := t7; have f3 := t113; have f4 := h0; have f5 := t5; have f6 := t119; have f7 := h1; have f8 := k121; have f9 := t123; have f10 := a9_54 hJ (j := 1) rfl; have f11 := t125; have g0 := rg32 x114; have z0 : (0 : Int32).toInt = 0 := (by decide); omega)
                refine lv_istore (lv' := [(5, .int x132), (8, .int x130), (7, .int 2), (6, .int 961), (4, .int x124), (0, .ref (g 60)), (1, .int p1), (2, .int p2), (3, .int p3)]) hx hb dX9_behind_33 hl (by decide) rfl (fun ls hl => ?_)
                refine lv_iload hx hb dX9_behind_35 (lv_at hl 2 rfl) ?_
                refine lv_iload_n hx hb dX9_behind_37 rfl (lv_at hl 8 rfl) ?_
                refine lv_icmp_ne (tgt := 45) hx hb dX9_behind_38 (by decide) (fun c134 => ?_) (fun c134 => ?_)
                ·
                  have k135 := neq32 c134
                  refine lv_iload hx hb dX9_behind_45 (lv_at hl 1 rfl) ?_
                  refine lv_iload_n hx hb dX9_behind_47 rfl (lv_at hl 7 rfl) ?_
                  refine lv_iadd hx hb dX9_behind_48 ?_
                  refine lv_topi (fun x136 ex136 => ?_)
                  have t137 := addO ex136 (by have f0 := h1; have f1 := t119; have f2 := t131; have f3 := t113; have f4 := t115; have f5 := k121; have f6 := t123; have f7 := t133; have f8 := a9_54 hJ (j := 1) rfl; have f9 := t7; have f10 := t125; have f11 := h0; have f12 := t5; have g0 := rg32 p2; have g1 := rg32 x130; have z0 : (0 : Int32).toInt = 0 := (by decide); omega)
                  refine lv_istore (lv' := [(8, .int x136), (5, .int x132), (7, .int 2), (6, .int 961), (4, .int x124), (0, .ref (g 60)), (1, .int p1), (2, .int p2), (3, .int p3)]) hx hb dX9_behind_49 hl (by decide) rfl (fun ls hl => ?_)
                  refine lv_iload hx hb dX9_behind_51 (lv_at hl 0 rfl) ?_
                  refine lv_aload_n hx hb dX9_behind_53 rfl (lv_at hl 5 rfl) ?_
                  refine g9_54 hx hb hts hown hK hP (hts _ q1414) dX9_behind_54 ?_
                  refine lv_iload hx hb dX9_behind_57 (lv_at hl 2 rfl) ?_
                  refine l9_54 (x := ((σ 9).2.2.1 54 2)) hx hb hK hP (vpi (by decide)) (congrArg ((σ 9).2.2.1 54) (show (2 : Int32).toInt.toNat = 2 by decide)) dX9_behind_59 ?_
                  refine lv_icmp_le (tgt := 65) hx hb dX9_behind_60 (by decide) (fun c138 => ?_) (fun c138 => ?_)
                  ·
                    have k139 := ple32 c138
                    refine lv_iload hx hb dX9_behind_65 (lv_at hl 4 rfl) ?_
                    refine lv_iload hx hb dX9_behind_67 (lv_at hl 3 rfl) ?_
                    refine lv_iload hx hb dX9_behind_69 (lv_at hl 0 rfl) ?_
                    refine lv_imul hx hb dX9_behind_71 ?_
                    refine lv_topi (fun x140 ex140 => ?_)
                    have t141 := mulC' (n := 961) ex140 (by decide) (by have f0 := t137; have f1 := k139; have f2 := a9_54 hJ (j := 2) rfl; have f3 := h1; have f4 := t119; have f5 := t131; have f6 := t113; have f7 := t115; have f8 := k121; have f9 := t123; have f10 := t133; have f11 := a9_54 hJ (j := 1) rfl; have f12 := t7; have f13 := t125; have f14 := h0; have f15 := t5; have g0 := rg32 x136; have z0 : (0 : Int32).toInt = 0 := (by decide); omega)
                    refine lv_iadd hx hb dX9_behind_72 ?_
                    refine lv_topi (fun x142 ex142 => ?_)
                    have t143 := addO ex142 (by have f0 := t125; have f1 := t141; have f2 := t123; have f3 := t137; have f4 := k139; have f5 := a9_54 hJ (j := 2) rfl; have f6 := h1; have f7 := t119; have f8 := k121; have f9 := t131; have f10 := a9_54 hJ (j := 1) rfl; have f11 := t113; have f12 := t115; have f13 := t133; have f14 := t7; have f15 := h0; have f16 := t5; have g0 := rg32 x124; have g1 := rg32 x140; have z0 : (0 : Int32).toInt = 0 := (by decide); omega)
                    refine lv_istore (lv' := [(4, .int x142), (8, .int x136), (5, .int x132), (7, .int 2), (6, .int 961), (0, .ref (g 60)), (1, .int p1), (2, .int p2), (3, .int p3)]) hx hb dX9_behind_73 hl (by decide) rfl (fun ls hl => ?_)
                    refine lv_iload hx hb dX9_behind_75 (lv_at hl 4 rfl) ?_
                    refine lv_bipush (v := 31) hx hb dX9_behind_77 (by decide) ?_
                    refine lv_imul hx hb dX9_behind_79 ?_
                    refine lv_topi (fun x144 ex144 => ?_)
                    obtain rfl : x144 = 29791 := ex144.trans (by decide)
                    refine lv_istore (lv' := [(6, .int 29791), (4, .int x142), (8, .int x136), (5, .int x132), (7, .int 2), (0, .ref (g 60)), (1, .int p1), (2, .int p2), (3, .int p3)]) hx hb dX9_behind_80 hl (by decide) rfl (fun ls hl => ?_)
                    refine lv_iinc (v := 3) (lv' := [(7, .int 3), (6, .int 29791), (4, .int x142), (8, .int x136), (5, .int x132), (0, .ref (g 60)), (1, .int p1), (2, .int p2), (3, .int p3)]) hx hb dX9_behind_82 hl (k := 4) rfl (by decide) (by decide) rfl (fun ls hl => ?_)
                    refine lv_goto (tgt := 12) hx hb dX9_behind_85 (by decide) ?_
                    refine lv_iload hx hb dX9_behind_12 (lv_at hl 0 rfl) ?_
                    refine lv_aload_n hx hb dX9_behind_14 rfl (lv_at hl 5 rfl) ?_
                    refine g9_51 (x := ((σ 9).1 51)) hx hb hts hown hK hP (rfl) (hts _ q1411) dX9_behind_15 ?_
                    refine lv_icmp_ge (tgt := 88) hx hb dX9_behind_18 (by decide) (fun c145 => ?_) (fun c145 => ?_)
                    ·
                      have k146 := ple32 c145
                      refine lv_iload hx hb dX9_behind_88 (lv_at hl 2 rfl) ?_
                      exact W.iret (v := x142) hx hb hr (fun tS ht hW => ⟨⟨x142, σ, rfl, ⟨rfl, (show (-1 : Int) ≤ x142.toInt ∧ x142.toInt ≤ 29790 from (by have f0 := t143; have f1 := t125; have f2 := t141; have f3 := t123; have f4 := t137; have f5 := k139; have f6 := a9_54 hJ (j := 2) rfl; have f7 := h1; have f8 := t119; have f9 := k121; have f10 := t131; have f11 := a9_54 hJ (j := 1) rfl; have f12 := t113; have f13 := t115; have f14 := t133; have f15 := t7; have f16 := h0; have f17 := t5; have g0 := rg32 x142; have z0 : (0 : Int32).toInt = 0 := (by decide); omega)), trivial⟩, (show va_P D clz (WD9 cy g σ) tS.heap by rw [ht]; exact hP)⟩, hS.F ht⟩) hS.2.2 dX9_behind_90
                    ·
                      have k147 := nle32 c145
                      exact False.elim (by have f0 := j9_51 hJ rfl; have f1 := k3; have f2 := k111; have f3 := k129; have f4 := k147; have z0 : (0 : Int32).toInt = 0 := (by decide); have z1 : (1 : Int32).toInt = 1 := (by decide); have z2 : (2 : Int32).toInt = 2 := (by decide); have z3 : (3 : Int32).toInt = 3 := (by decide); omega)
                  ·
                    have k148 := nle32 c138
                    refine lv_iconst (v := (-1)) hx hb dX9_behind_63 (by decide) ?_
                    exact W.iret (v := (-1)) hx hb hr (fun tS ht hW => ⟨⟨(-1), σ, rfl, ⟨rfl, (show (-1 : Int) ≤ ((-1) : Int32).toInt ∧ ((-1) : Int32).toInt ≤ 29790 from (by have zm1 : ((-1) : Int32).toInt = (-1) := (by decide); omega)), trivial⟩, (show va_P D clz (WD9 cy g σ) tS.heap by rw [ht]; exact hP)⟩, hS.F ht⟩) hS.2.2 dX9_behind_64
                ·
                  have k149 := peq32 c134
                  exact False.elim (by have f0 := k103; have f1 := k117; have f2 := k149; have g0 := rg32 p3; have z0 : (0 : Int32).toInt = 0 := (by decide); have z1 : (1 : Int32).toInt = 1 := (by decide); have z2 : (2 : Int32).toInt = 2 := (by decide); omega)
            ·
              have k150 := nle32 c120
              refine lv_iconst (v := (-1)) hx hb dX9_behind_63 (by decide) ?_
              exact W.iret (v := (-1)) hx hb hr (fun tS ht hW => ⟨⟨(-1), σ, rfl, ⟨rfl, (show (-1 : Int) ≤ ((-1) : Int32).toInt ∧ ((-1) : Int32).toInt ≤ 29790 from (by have zm1 : ((-1) : Int32).toInt = (-1) := (by decide); omega)), trivial⟩, (show va_P D clz (WD9 cy g σ) tS.heap by rw [ht]; exact hP)⟩, hS.F ht⟩) hS.2.2 dX9_behind_64
          ·
            have k151 := peq32 c116
            exact False.elim (by have f0 := k103; have f1 := k151; have g0 := rg32 p3; have z0 : (0 : Int32).toInt = 0 := (by decide); have z1 : (1 : Int32).toInt = 1 := (by decide); omega)
      ·
        have k152 := nle32 c104
        exact False.elim (by have f0 := a9_54 hJ (j := 0) rfl; have f1 := k152; have z0 : (0 : Int32).toInt = 0 := (by decide); omega)

theorem q2007 : Cond.code yX9_states cX9_states 1 (some .int) ∈ lw_g := lw_gm (List.mem_of_getElem? (i := 2007) (by decide +kernel)) rfl
theorem dX9_states_0 : decode cX9_states 0 = .ok (.aload_n 0, 1) := by decide +kernel
theorem dX9_states_1 : decode cX9_states 1 = .ok (.getfield 479, 3) := by decide +kernel
theorem dX9_states_4 : decode cX9_states 4 = .ok (.iconst 1, 1) := by decide +kernel
theorem dX9_states_5 : decode cX9_states 5 = .ok (.if_icmp .ne 8, 3) := by decide +kernel
theorem dX9_states_8 : decode cX9_states 8 = .ok (.bipush 31, 2) := by decide +kernel
theorem dX9_states_10 : decode cX9_states 10 = .ok (.goto 20, 3) := by decide +kernel
theorem dX9_states_13 : decode cX9_states 13 = .ok (.aload_n 0, 1) := by decide +kernel
theorem dX9_states_14 : decode cX9_states 14 = .ok (.getfield 479, 3) := by decide +kernel
theorem dX9_states_17 : decode cX9_states 17 = .ok (.iconst 2, 1) := by decide +kernel
theorem dX9_states_18 : decode cX9_states 18 = .ok (.if_icmp .ne 9, 3) := by decide +kernel
theorem dX9_states_21 : decode cX9_states 21 = .ok (.sipush 961, 3) := by decide +kernel
theorem dX9_states_24 : decode cX9_states 24 = .ok (.goto 6, 3) := by decide +kernel
theorem dX9_states_27 : decode cX9_states 27 = .ok (.sipush 29791, 3) := by decide +kernel
theorem dX9_states_30 : decode cX9_states 30 = .ok (.ireturn, 1) := by decide +kernel
set_option maxHeartbeats 4000000 in
set_option maxRecDepth 100000 in
theorem m_X9_states (l : Launch) (D : va_G) (cy : Nat → ClassId) (g : Nat → Nat) (σ : ST)  (sz : Nat) (hJ : J9 (σ 9))  : Met l yX9_states (ww yX9_states cX9_states 1 (some .int)) ({ frames := 1, cells := 0, slots := 0, locals := 64 }) (va_Pc [.ref (g 60)] (pr9 D cy g σ sz)) (qi9 D cy g sz (fun r τ => τ = σ ∧ ((31 : Int) ≤ r.toInt ∧ r.toInt ≤ 29791) ∧ True)) 0 0 (A9 cy g sz) := by
  refine Met.ofW (cc := cX9_states) (maxL := 1) (ret := (some .int)) (by decide) rfl ?_
  intro p e s m args below meth c s₁ B hml hv
  obtain ⟨rfl, hsz, hP, hK, hD0, hC⟩ := hv
  have hx := B.exec
  have hb := B.bytes
  have hr := B.returns
  have hts := hts_g (atoms_spec (ws := ww yX9_states cX9_states 1 (some .int)) B.pre)
  have hown : s.vm.findClass RX9 = some m.cls := findClass_of_methodNamed B.named
  have hlocks := B.notSynchronized
  clear B
  subst hsz
  have hD := fun τ => A9_D (sz := s.heap.size) hD0 τ
  clear hD0
  have hS : va_S (A9 cy g s.heap.size) s.heap s.heap [] := va_S.rf
  have hl := lv_entry ([.ref (g 60)]) (n := 1) (Nat.le_of_ble_eq_true rfl)
  rw [lg_entry_eq]
  generalize (lg_sl ([.ref (g 60)]) ++ List.replicate (1 - (lg_sl ([.ref (g 60)])).length) Slot.unset).toArray = ls at hl ⊢
  have hl : lv_has ls 1 [(0, .ref (g 60))] := hl
  refine lv_aload_n hx hb dX9_states_0 rfl (lv_at hl 0 rfl) ?_
  refine g9_51 (x := ((σ 9).1 51)) hx hb hts hown hK hP (rfl) (hts _ q1411) dX9_states_1 ?_
  refine lv_iconst (v := 1) hx hb dX9_states_4 (by decide) ?_
  refine lv_icmp_ne (tgt := 13) hx hb dX9_states_5 (by decide) (fun c1 => ?_) (fun c1 => ?_)
  ·
    have k2 := neq32 c1
    refine lv_aload_n hx hb dX9_states_13 rfl (lv_at hl 0 rfl) ?_
    refine g9_51 (x := ((σ 9).1 51)) hx hb hts hown hK hP (rfl) (hts _ q1411) dX9_states_14 ?_
    refine lv_iconst (v := 2) hx hb dX9_states_17 (by decide) ?_
    refine lv_icmp_ne (tgt := 27) hx hb dX9_states_18 (by decide) (fun c3 => ?_) (fun c3 => ?_)
    ·
      have k4 := neq32 c3
      refine lv_sipush (v := 29791) hx hb dX9_states_27 (by decide) ?_
      exact W.iret (v := 29791) hx hb hr (fun tS ht hW => ⟨⟨29791, σ, rfl, ⟨rfl, (show (31 : Int) ≤ (29791 : Int32).toInt ∧ (29791 : Int32).toInt ≤ 29791 from (by have z29791 : (29791 : Int32).toInt = 29791 := (by decide); omega)), trivial⟩, (show va_P D clz (WD9 cy g σ) tS.heap by rw [ht]; exact hP)⟩, hS.F ht⟩) hS.2.2 dX9_states_30
    ·
      have k5 := peq32 c3
      refine lv_sipush (v := 961) hx hb dX9_states_21 (by decide) ?_
      refine lv_goto (tgt := 30) hx hb dX9_states_24 (by decide) ?_
      exact W.iret (v := 961) hx hb hr (fun tS ht hW => ⟨⟨961, σ, rfl, ⟨rfl, (show (31 : Int) ≤ (961 : Int32).toInt ∧ (961 : Int32).toInt ≤ 29791 from (by have z961 : (961 : Int32).toInt = 961 := (by decide); omega)), trivial⟩, (show va_P D clz (WD9 cy g σ) tS.heap by rw [ht]; exact hP)⟩, hS.F ht⟩) hS.2.2 dX9_states_30
  ·
    have k6 := peq32 c1
    refine lv_bipush (v := 31) hx hb dX9_states_8 (by decide) ?_
    refine lv_goto (tgt := 30) hx hb dX9_states_10 (by decide) ?_
    exact W.iret (v := 31) hx hb hr (fun tS ht hW => ⟨⟨31, σ, rfl, ⟨rfl, (show (31 : Int) ≤ (31 : Int32).toInt ∧ (31 : Int32).toInt ≤ 29791 from (by have z31 : (31 : Int32).toInt = 31 := (by decide); omega)), trivial⟩, (show va_P D clz (WD9 cy g σ) tS.heap by rw [ht]; exact hP)⟩, hS.F ht⟩) hS.2.2 dX9_states_30

theorem q2011 : Cond.code yX9_leftFrom cX9_leftFrom 7 (some .int) ∈ lw_g := lw_gm (List.mem_of_getElem? (i := 2011) (by decide +kernel)) rfl
theorem q1412 : Cond.fieldLink RX9 482 "LipsAndSlidesModel" "doublePart" "I" ∈ lw_g := lw_gm (List.mem_of_getElem? (i := 1412) (by decide +kernel)) rfl
theorem q2012 : Cond.methodLink RX9 485 yX9_behind ∈ lw_g := lw_gm (List.mem_of_getElem? (i := 2012) (by decide +kernel)) rfl
theorem q2014 : Cond.instanceMethod yX9_behind ∈ lw_g := lw_gm (List.mem_of_getElem? (i := 2014) (by decide +kernel)) rfl
theorem q115 : Cond.selects RX9 yX9_behind yX9_behind ∈ lw_g := lw_gm (List.mem_of_getElem? (i := 115) (by decide +kernel)) rfl
theorem q1410 : Cond.fieldLink RX9 111 "LipsAndSlidesModel" "left" "[B" ∈ lw_g := lw_gm (List.mem_of_getElem? (i := 1410) (by decide +kernel)) rfl
theorem dX9_leftFrom_0 : decode cX9_leftFrom 0 = .ok (.aload_n 0, 1) := by decide +kernel
theorem dX9_leftFrom_1 : decode cX9_leftFrom 1 = .ok (.aload_n 0, 1) := by decide +kernel
theorem dX9_leftFrom_2 : decode cX9_leftFrom 2 = .ok (.getfield 482, 3) := by decide +kernel
theorem dX9_leftFrom_5 : decode cX9_leftFrom 5 = .ok (.iload_n 1, 1) := by decide +kernel
theorem dX9_leftFrom_6 : decode cX9_leftFrom 6 = .ok (.invokevirtual 390, 3) := by decide +kernel
theorem dX9_leftFrom_9 : decode cX9_leftFrom 9 = .ok (.ifCond .eq 16, 3) := by decide +kernel
theorem dX9_leftFrom_12 : decode cX9_leftFrom 12 = .ok (.aload_n 0, 1) := by decide +kernel
theorem dX9_leftFrom_13 : decode cX9_leftFrom 13 = .ok (.getfield 111, 3) := by decide +kernel
theorem dX9_leftFrom_16 : decode cX9_leftFrom 16 = .ok (.sipush 29791, 3) := by decide +kernel
theorem dX9_leftFrom_19 : decode cX9_leftFrom 19 = .ok (.iload_n 1, 1) := by decide +kernel
theorem dX9_leftFrom_20 : decode cX9_leftFrom 20 = .ok (.iconst 1, 1) := by decide +kernel
theorem dX9_leftFrom_21 : decode cX9_leftFrom 21 = .ok (.iadd, 1) := by decide +kernel
theorem dX9_leftFrom_22 : decode cX9_leftFrom 22 = .ok (.imul, 1) := by decide +kernel
theorem dX9_leftFrom_23 : decode cX9_leftFrom 23 = .ok (.baload, 1) := by decide +kernel
theorem dX9_leftFrom_24 : decode cX9_leftFrom 24 = .ok (.ireturn, 1) := by decide +kernel
theorem dX9_leftFrom_25 : decode cX9_leftFrom 25 = .ok (.bipush 99, 2) := by decide +kernel
theorem dX9_leftFrom_27 : decode cX9_leftFrom 27 = .ok (.istore_n 3, 1) := by decide +kernel
theorem dX9_leftFrom_28 : decode cX9_leftFrom 28 = .ok (.iconst (-1), 1) := by decide +kernel
theorem dX9_leftFrom_29 : decode cX9_leftFrom 29 = .ok (.istore 4, 2) := by decide +kernel
theorem dX9_leftFrom_31 : decode cX9_leftFrom 31 = .ok (.iload 4, 2) := by decide +kernel
theorem dX9_leftFrom_33 : decode cX9_leftFrom 33 = .ok (.aload_n 0, 1) := by decide +kernel
theorem dX9_leftFrom_34 : decode cX9_leftFrom 34 = .ok (.getfield 479, 3) := by decide +kernel
theorem dX9_leftFrom_37 : decode cX9_leftFrom 37 = .ok (.iconst 1, 1) := by decide +kernel
theorem dX9_leftFrom_38 : decode cX9_leftFrom 38 = .ok (.if_icmp .ne 7, 3) := by decide +kernel
theorem dX9_leftFrom_41 : decode cX9_leftFrom 41 = .ok (.iconst 0, 1) := by decide +kernel
theorem dX9_leftFrom_42 : decode cX9_leftFrom 42 = .ok (.goto 7, 3) := by decide +kernel
theorem dX9_leftFrom_45 : decode cX9_leftFrom 45 = .ok (.aload_n 0, 1) := by decide +kernel
theorem dX9_leftFrom_46 : decode cX9_leftFrom 46 = .ok (.getfield 479, 3) := by decide +kernel
theorem dX9_leftFrom_49 : decode cX9_leftFrom 49 = .ok (.if_icmp .ge 79, 3) := by decide +kernel
theorem dX9_leftFrom_52 : decode cX9_leftFrom 52 = .ok (.aload_n 0, 1) := by decide +kernel
theorem dX9_leftFrom_53 : decode cX9_leftFrom 53 = .ok (.iload_n 2, 1) := by decide +kernel
theorem dX9_leftFrom_54 : decode cX9_leftFrom 54 = .ok (.aload_n 0, 1) := by decide +kernel
theorem dX9_leftFrom_55 : decode cX9_leftFrom 55 = .ok (.aload_n 0, 1) := by decide +kernel
theorem dX9_leftFrom_56 : decode cX9_leftFrom 56 = .ok (.getfield 482, 3) := by decide +kernel
theorem dX9_leftFrom_59 : decode cX9_leftFrom 59 = .ok (.iload_n 1, 1) := by decide +kernel
theorem dX9_leftFrom_60 : decode cX9_leftFrom 60 = .ok (.iconst 1, 1) := by decide +kernel
theorem dX9_leftFrom_61 : decode cX9_leftFrom 61 = .ok (.invokevirtual 308, 3) := by decide +kernel
theorem dX9_leftFrom_64 : decode cX9_leftFrom 64 = .ok (.iload 4, 2) := by decide +kernel
theorem dX9_leftFrom_66 : decode cX9_leftFrom 66 = .ok (.invokevirtual 485, 3) := by decide +kernel
theorem dX9_leftFrom_69 : decode cX9_leftFrom 69 = .ok (.istore 5, 2) := by decide +kernel
theorem dX9_leftFrom_71 : decode cX9_leftFrom 71 = .ok (.iload 5, 2) := by decide +kernel
theorem dX9_leftFrom_73 : decode cX9_leftFrom 73 = .ok (.iconst (-1), 1) := by decide +kernel
theorem dX9_leftFrom_74 : decode cX9_leftFrom 74 = .ok (.if_icmp .ne 6, 3) := by decide +kernel
theorem dX9_leftFrom_77 : decode cX9_leftFrom 77 = .ok (.goto 45, 3) := by decide +kernel
theorem dX9_leftFrom_80 : decode cX9_leftFrom 80 = .ok (.aload_n 0, 1) := by decide +kernel
theorem dX9_leftFrom_81 : decode cX9_leftFrom 81 = .ok (.getfield 111, 3) := by decide +kernel
theorem dX9_leftFrom_84 : decode cX9_leftFrom 84 = .ok (.sipush 29791, 3) := by decide +kernel
theorem dX9_leftFrom_87 : decode cX9_leftFrom 87 = .ok (.iload_n 1, 1) := by decide +kernel
theorem dX9_leftFrom_88 : decode cX9_leftFrom 88 = .ok (.iconst 1, 1) := by decide +kernel
theorem dX9_leftFrom_89 : decode cX9_leftFrom 89 = .ok (.iadd, 1) := by decide +kernel
theorem dX9_leftFrom_90 : decode cX9_leftFrom 90 = .ok (.imul, 1) := by decide +kernel
theorem dX9_leftFrom_91 : decode cX9_leftFrom 91 = .ok (.iload 5, 2) := by decide +kernel
theorem dX9_leftFrom_93 : decode cX9_leftFrom 93 = .ok (.iadd, 1) := by decide +kernel
theorem dX9_leftFrom_94 : decode cX9_leftFrom 94 = .ok (.baload, 1) := by decide +kernel
theorem dX9_leftFrom_95 : decode cX9_leftFrom 95 = .ok (.iload 4, 2) := by decide +kernel
theorem dX9_leftFrom_97 : decode cX9_leftFrom 97 = .ok (.iconst (-1), 1) := by decide +kernel
theorem dX9_leftFrom_98 : decode cX9_leftFrom 98 = .ok (.if_icmp .ne 7, 3) := by decide +kernel
theorem dX9_leftFrom_101 : decode cX9_leftFrom 101 = .ok (.iconst 0, 1) := by decide +kernel
theorem dX9_leftFrom_102 : decode cX9_leftFrom 102 = .ok (.goto 4, 3) := by decide +kernel
theorem dX9_leftFrom_105 : decode cX9_leftFrom 105 = .ok (.iconst 1, 1) := by decide +kernel
theorem dX9_leftFrom_106 : decode cX9_leftFrom 106 = .ok (.iadd, 1) := by decide +kernel
theorem dX9_leftFrom_107 : decode cX9_leftFrom 107 = .ok (.istore 6, 2) := by decide +kernel
theorem dX9_leftFrom_109 : decode cX9_leftFrom 109 = .ok (.iload 6, 2) := by decide +kernel
theorem dX9_leftFrom_111 : decode cX9_leftFrom 111 = .ok (.iload_n 3, 1) := by decide +kernel
theorem dX9_leftFrom_112 : decode cX9_leftFrom 112 = .ok (.if_icmp .ge 8, 3) := by decide +kernel
theorem dX9_leftFrom_115 : decode cX9_leftFrom 115 = .ok (.iload 6, 2) := by decide +kernel
theorem dX9_leftFrom_117 : decode cX9_leftFrom 117 = .ok (.goto 4, 3) := by decide +kernel
theorem dX9_leftFrom_120 : decode cX9_leftFrom 120 = .ok (.iload_n 3, 1) := by decide +kernel
theorem dX9_leftFrom_121 : decode cX9_leftFrom 121 = .ok (.istore_n 3, 1) := by decide +kernel
theorem dX9_leftFrom_122 : decode cX9_leftFrom 122 = .ok (.iinc 4 1, 3) := by decide +kernel
theorem dX9_leftFrom_125 : decode cX9_leftFrom 125 = .ok (.goto (-94), 3) := by decide +kernel
theorem dX9_leftFrom_128 : decode cX9_leftFrom 128 = .ok (.iload_n 3, 1) := by decide +kernel
theorem dX9_leftFrom_129 : decode cX9_leftFrom 129 = .ok (.ireturn, 1) := by decide +kernel
set_option maxHeartbeats 4000000 in
set_option maxRecDepth 100000 in
theorem m_X9_leftFrom (l : Launch) (D : va_G) (cy : Nat → ClassId) (g : Nat → Nat) (σ : ST) (p1 : Int32) (p2 : Int32) (sz : Nat) (hJ : J9 (σ 9)) (h0 : (0 : Int) ≤ p1.toInt ∧ p1.toInt ≤ 15) (h1 : (0 : Int) ≤ p2.toInt ∧ p2.toInt ≤ 29790) : Met l yX9_leftFrom (ww yX9_leftFrom cX9_leftFrom 7 (some .int)) ({ frames := 3, cells := 0, slots := 0, locals := 192 }) (va_Pc [.ref (g 60), .int p1, .int p2] (pr9 D cy g σ sz)) (qi9 D cy g sz (fun r τ => τ = σ ∧ True)) 0 0 (A9 cy g sz) := by
  refine Met.ofW (cc := cX9_leftFrom) (maxL := 7) (ret := (some .int)) (by decide) rfl ?_
  intro p e s m args below meth c s₁ B hml hv
  obtain ⟨rfl, hsz, hP, hK, hD0, hC⟩ := hv
  have hx := B.exec
  have hb := B.bytes
  have hr := B.returns
  have hts := hts_g (atoms_spec (ws := ww yX9_leftFrom cX9_leftFrom 7 (some .int)) B.pre)
  have hown : s.vm.findClass RX9 = some m.cls := findClass_of_methodNamed B.named
  have hlocks := B.notSynchronized
  clear B
  subst hsz
  have hD := fun τ => A9_D (sz := s.heap.size) hD0 τ
  clear hD0
  have hS : va_S (A9 cy g s.heap.size) s.heap s.heap [] := va_S.rf
  have hl := lv_entry ([.ref (g 60), .int p1, .int p2]) (n := 7) (Nat.le_of_ble_eq_true rfl)
  rw [lg_entry_eq]
  generalize (lg_sl ([.ref (g 60), .int p1, .int p2]) ++ List.replicate (7 - (lg_sl ([.ref (g 60), .int p1, .int p2])).length) Slot.unset).toArray = ls at hl ⊢
  have hl : lv_has ls 7 [(0, .ref (g 60)), (1, .int p1), (2, .int p2)] := hl
  refine lv_aload_n hx hb dX9_leftFrom_0 rfl (lv_at hl 0 rfl) ?_
  refine lv_aload_n hx hb dX9_leftFrom_1 rfl (lv_at hl 0 rfl) ?_
  refine g9_52 (x := ((σ 9).1 52)) hx hb hts hown hK hP (rfl) (hts _ q1412) dX9_leftFrom_2 ?_
  refine lv_iload_n hx hb dX9_leftFrom_5 rfl (lv_at hl 1 rfl) ?_
  refine va_calli (va_runV (As := [.int ((σ 9).1 52), .int p1]) (rest := []) ⟨hx, hb, hml, hown, hts⟩ (m_X9_isRest l D cy g σ ((σ 9).1 52) p1 _ hJ (show (0 : Int) ≤ ((σ 9).1 52).toInt ∧ ((σ 9).1 52).toInt ≤ 2 from (by have f0 := j9_52 hJ rfl; omega)) (show (0 : Int) ≤ p1.toInt ∧ p1.toInt ≤ 15 from (by have f0 := j9_52 hJ rfl; have f1 := h0; have g1 := rg32 p1; omega))) (cwV 2 hts (gd_V q1838 q1840 q91 q134 q1841) rfl rfl rfl (by decide +kernel) ⟨Nat.le_of_ble_eq_true rfl, Nat.le_of_ble_eq_true rfl⟩) (pv9 hP hK hD hC hS (va_recv hK hP (ci := 9) (q0 := 0) rfl rfl)) rfl rfl hl.1 rfl (lv_room (Nat.le_of_ble_eq_true rfl)) dX9_leftFrom_6 ⟨Nat.le_of_ble_eq_true rfl, Nat.le_of_ble_eq_true rfl⟩) hS (fun q _ h => up9 hS q h) (up9 hS) (fun r1 σ2 tS H1 locs ht hvm hw3 hB hz1 hk1 hS => ?_)
  have hP : va_P D clz (WD9 cy g σ2) H1 := by rw [← ht]; exact hB
  clear hB hz1 hk1 hvm ht
  generalize H1 = H at hP hS ⊢
  have hw3E : σ = σ2 := (hw3.1).symm
  subst hw3E
  have b4 : (0 : Int) ≤ r1.toInt ∧ r1.toInt ≤ 1 := hw3.2.1
  refine lv_if_eq (tgt := 25) hx hb dX9_leftFrom_9 (by decide) (fun c5 => ?_) (fun c5 => ?_)
  ·
    have k6 := peq32 c5
    refine lv_bipush (v := 99) hx hb dX9_leftFrom_25 (by decide) ?_
    refine lv_istore_n (lv' := [(3, .int 99), (0, .ref (g 60)), (1, .int p1), (2, .int p2)]) hx hb dX9_leftFrom_27 rfl hl (by decide) rfl (fun ls hl => ?_)
    refine lv_iconst (v := (-1)) hx hb dX9_leftFrom_28 (by decide) ?_
    refine lv_istore (lv' := [(4, .int (-1)), (3, .int 99), (0, .ref (g 60)), (1, .int p1), (2, .int p2)]) hx hb dX9_leftFrom_29 hl (by decide) rfl (fun ls hl => ?_)
    refine loop9 7 31 (fun x : LZ => [(4, .int (x.2.1 0)), (3, .int (x.2.1 1)), (0, .ref (g 60)), (1, .int p1), (2, .int p2)]) (fun x : LZ => (x.1 = σ) ∧ ((-1 : Int) ≤ (x.2.1 0).toInt ∧ (x.2.1 0).toInt ≤ 3) ∧ ((-2147483648 : Int) ≤ (x.2.1 1).toInt ∧ (x.2.1 1).toInt ≤ 99) ∧ True) (fun x : LZ => ((4 : Int) - (x.2.1 0).toInt).toNat) ?_ (σ, lf [(-1), 99], lg []) ⟨rfl, (show (-1 : Int) ≤ ((-1) : Int32).toInt ∧ ((-1) : Int32).toInt ≤ 3 from (by have zm1 : ((-1) : Int32).toInt = (-1) := (by decide); omega)), (show (-2147483648 : Int) ≤ (99 : Int32).toInt ∧ (99 : Int32).toInt ≤ 99 from (by have z99 : (99 : Int32).toInt = 99 := (by decide); omega)), trivial⟩ _ _ _ hP hS (lv_sub hl [0, 1, 2, 3, 4] rfl)
    intro y9 hI8 nl7 H locs ls hP hS hl
    rw [show y9.1 = σ from hI8.1] at hP
    have b10 : (-1 : Int) ≤ (y9.2.1 0).toInt ∧ (y9.2.1 0).toInt ≤ 3 := hI8.2.1
    have b11 : (-2147483648 : Int) ≤ (y9.2.1 1).toInt ∧ (y9.2.1 1).toInt ≤ 99 := hI8.2.2.1
    have hl : lv_has ls 7 [(4, .int (y9.2.1 0)), (3, .int (y9.2.1 1)), (0, .ref (g 60)), (1, .int p1), (2, .int p2)] := hl
    refine lv_iload hx hb dX9_leftFrom_31 (lv_at hl 0 rfl) ?_
    refine lv_aload_n hx hb dX9_leftFrom_33 rfl (lv_at hl 2 rfl) ?_
    refine g9_51 (x := ((σ 9).1 51)) hx hb hts hown hK hP (rfl) (hts _ q1411) dX9_leftFrom_34 ?_
    refine lv_iconst (v := 1) hx hb dX9_leftFrom_37 (by decide) ?_
    refine cut9 (D := D) (cy := cy) (g := g) (A := A9 cy g s.heap.size) (H0 := s.heap) 7 49 (fun x : LZ => [(4, .int (y9.2.1 0)), (3, .int (y9.2.1 1)), (0, .ref (g 60)), (1, .int p1), (2, .int p2)]) (fun x : LZ => [.int (x.2.1 0), .int (y9.2.1 0)]) (fun x : LZ => (x.1 = σ) ∧ ((0 : Int) ≤ (x.2.1 0).toInt ∧ (x.2.1 0).toInt ≤ 3) ∧ True) ?_ ?_
    ·
      intro y14 hI13 H locs ls hP hS hl
      rw [show y14.1 = σ from hI13.1] at hP
      have b15 : (0 : Int) ≤ (y14.2.1 0).toInt ∧ (y14.2.1 0).toInt ≤ 3 := hI13.2.1
      have hl : lv_has ls 7 [(4, .int (y9.2.1 0)), (3, .int (y9.2.1 1)), (0, .ref (g 60)), (1, .int p1), (2, .int p2)] := hl
      refine W.eq (g2 := F0 m 49 ls [.int (y14.2.1 0), .int (y9.2.1 0)]) rfl ?_
      refine lv_icmp_ge (tgt := 128) hx hb dX9_leftFrom_49 (by decide) (fun c16 => ?_) (fun c16 => ?_)
      ·
        have k17 := ple32 c16
        refine lv_iload_n hx hb dX9_leftFrom_128 rfl (lv_at hl 1 rfl) ?_
        exact W.iret (v := (y9.2.1 1)) hx hb hr (fun tS ht hW => ⟨⟨(y9.2.1 1), σ, rfl, ⟨rfl, trivial⟩, (show va_P D clz (WD9 cy g σ) tS.heap by rw [ht]; exact hP)⟩, hS.F ht⟩) hS.2.2 dX9_leftFrom_129
      ·
        have k18 := nle32 c16
        refine lv_aload_n hx hb dX9_leftFrom_52 rfl (lv_at hl 2 rfl) ?_
        refine lv_iload_n hx hb dX9_leftFrom_53 rfl (lv_at hl 4 rfl) ?_
        refine lv_aload_n hx hb dX9_leftFrom_54 rfl (lv_at hl 2 rfl) ?_
        refine lv_aload_n hx hb dX9_leftFrom_55 rfl (lv_at hl 2 rfl) ?_
        refine g9_52 (x := ((σ 9).1 52)) hx hb hts hown hK hP (rfl) (hts _ q1412) dX9_leftFrom_56 ?_
        refine lv_iload_n hx hb dX9_leftFrom_59 rfl (lv_at hl 3 rfl) ?_
        refine lv_iconst (v := 1) hx hb dX9_leftFrom_60 (by decide) ?_
        refine va_calli (va_runV (As := [.int ((σ 9).1 52), .int p1, .int 1]) (rest := [.int p2, .ref (g 60)]) ⟨hx, hb, hml, hown, hts⟩ (m_X9_toneOf l D cy g σ ((σ 9).1 52) p1 (1) _ hJ (show (0 : Int) ≤ ((σ 9).1 52).toInt ∧ ((σ 9).1 52).toInt ≤ 2 from (by have f0 := j9_52 hJ rfl; omega)) (show (0 : Int) ≤ p1.toInt ∧ p1.toInt ≤ 15 from (by have f0 := j9_52 hJ rfl; have f1 := h0; have g1 := rg32 p1; omega)) (show (0 : Int) ≤ (1 : Int32).toInt ∧ (1 : Int32).toInt ≤ 3 from (by have f0 := j9_52 hJ rfl; have f1 := h0; have g1 := rg32 p1; have z1 : (1 : Int32).toInt = 1 := (by decide); omega))) (cwV 3 hts (gd_V q1727 q1729 q75 q134 q1730) rfl rfl rfl (by decide +kernel) ⟨Nat.le_of_ble_eq_true rfl, Nat.le_of_ble_eq_true rfl⟩) (pv9 hP hK hD hC hS (va_recv hK hP (ci := 9) (q0 := 0) rfl rfl)) rfl rfl hl.1 rfl (lv_room (Nat.le_of_ble_eq_true rfl)) dX9_leftFrom_61 ⟨Nat.le_of_ble_eq_true rfl, Nat.le_of_ble_eq_true rfl⟩) hS (fun q _ h => up9 hS q h) (up9 hS) (fun r19 σ20 tS H1 locs ht hvm hw21 hB hz1 hk1 hS => ?_)
        have hP : va_P D clz (WD9 cy g σ20) H1 := by rw [← ht]; exact hB
        clear hB hz1 hk1 hvm ht
        generalize H1 = H at hP hS ⊢
        have hw21E : σ = σ20 := (hw21.1).symm
        subst hw21E
        have b22 : (-1 : Int) ≤ r19.toInt ∧ r19.toInt ≤ 60 := hw21.2.1
        have b23 : ¬ (1 : Int32).toInt = 1 ∨ 0 ≤ r19.toInt := hw21.2.2.1
        refine lv_iload hx hb dX9_leftFrom_64 (lv_at hl 0 rfl) ?_
        refine va_calli (va_runV (As := [.int p2, .int r19, .int (y9.2.1 0)]) (rest := []) ⟨hx, hb, hml, hown, hts⟩ (m_X9_behind l D cy g σ p2 r19 (y9.2.1 0) _ hJ (show (-1 : Int) ≤ p2.toInt ∧ p2.toInt ≤ 29790 from (by have f0 := h1; have g0 := rg32 p2; omega)) (show (0 : Int) ≤ r19.toInt ∧ r19.toInt ≤ 60 from (by have f0 := h1; have f1 := b22; have f2 := b23; have g0 := rg32 p2; have g1 := rg32 r19; have z1 : (1 : Int32).toInt = 1 := (by decide); omega))) (cwV 3 hts (gd_V q2012 q2014 q115 q134 q2015) rfl rfl rfl (by decide +kernel) ⟨Nat.le_of_ble_eq_true rfl, Nat.le_of_ble_eq_true rfl⟩) (pv9 hP hK hD hC hS (va_recv hK hP (ci := 9) (q0 := 0) rfl rfl)) rfl rfl hl.1 rfl (lv_room (Nat.le_of_ble_eq_true rfl)) dX9_leftFrom_66 ⟨Nat.le_of_ble_eq_true rfl, Nat.le_of_ble_eq_true rfl⟩) hS (fun q _ h => up9 hS q h) (up9 hS) (fun r24 σ25 tS H1 locs ht hvm hw26 hB hz1 hk1 hS => ?_)
        have hP : va_P D clz (WD9 cy g σ25) H1 := by rw [← ht]; exact hB
        clear hB hz1 hk1 hvm ht
        generalize H1 = H at hP hS ⊢
        have hw26E : σ = σ25 := (hw26.1).symm
        subst hw26E
        have b27 : (-1 : Int) ≤ r24.toInt ∧ r24.toInt ≤ 29790 := hw26.2.1
        refine lv_istore (lv' := [(5, .int r24), (4, .int (y9.2.1 0)), (3, .int (y9.2.1 1)), (0, .ref (g 60)), (1, .int p1), (2, .int p2)]) hx hb dX9_leftFrom_69 hl (by decide) rfl (fun ls hl => ?_)
        refine lv_iload hx hb dX9_leftFrom_71 (lv_at hl 0 rfl) ?_
        refine lv_iconst (v := (-1)) hx hb dX9_leftFrom_73 (by decide) ?_
        refine cut9 (D := D) (cy := cy) (g := g) (A := A9 cy g s.heap.size) (H0 := s.heap) 7 122 (fun x : LZ => [(5, .int r24), (4, .int (y9.2.1 0)), (3, .int (x.2.1 0)), (0, .ref (g 60)), (1, .int p1), (2, .int p2)]) (fun x : LZ => []) (fun x : LZ => (x.1 = σ) ∧ ((-2147483648 : Int) ≤ (x.2.1 0).toInt ∧ (x.2.1 0).toInt ≤ 99) ∧ True) ?_ ?_
        ·
          intro y30 hI29 H locs ls hP hS hl
          rw [show y30.1 = σ from hI29.1] at hP
          have b31 : (-2147483648 : Int) ≤ (y30.2.1 0).toInt ∧ (y30.2.1 0).toInt ≤ 99 := hI29.2.1
          have hl : lv_has ls 7 [(5, .int r24), (4, .int (y9.2.1 0)), (3, .int (y30.2.1 0)), (0, .ref (g 60)), (1, .int p1), (2, .int p2)] := hl
          obtain ⟨x32, ex32⟩ : ∃ y : Int32, y = (y9.2.1 0) + 1 := ⟨_, rfl⟩
          have t33 := addO ex32 (by have f0 := b10; have f1 := k18; have f2 := b15; have g0 := rg32 (y9.2.1 0); have z1 : (1 : Int32).toInt = 1 := (by decide); omega)
          refine lv_iinc (v := x32) (lv' := [(4, .int x32), (5, .int r24), (3, .int (y30.2.1 0)), (0, .ref (g 60)), (1, .int p1), (2, .int p2)]) hx hb dX9_leftFrom_122 hl (k := 1) rfl (by rw [ex32]; rfl) (by decide) rfl (fun ls hl => ?_)
          refine lv_goto (tgt := 31) hx hb dX9_leftFrom_125 (by decide) ?_
          have t34 : ((4 : Int) - x32.toInt).toNat < ((4 : Int) - (y9.2.1 0).toInt).toNat := (by have f0 := b10; have f1 := k18; have f2 := t33; have f3 := b15; have g0 := rg32 (y9.2.1 0); have g1 := rg32 x32; have z1 : (1 : Int32).toInt = 1 := (by decide); omega)
          exact nl7 (σ, lf [x32, (y30.2.1 0)], lg []) ⟨rfl, (show (-1 : Int) ≤ (x32 : Int32).toInt ∧ (x32 : Int32).toInt ≤ 3 from (by have f0 := t33; have f1 := b10; have f2 := k18; have f3 := b15; have g0 := rg32 x32; have z1 : (1 : Int32).toInt = 1 := (by decide); omega)), (show (-2147483648 : Int) ≤ ((y30.2.1 0) : Int32).toInt ∧ ((y30.2.1 0) : Int32).toInt ≤ 99 from (by have f0 := b31; have g0 := rg32 (y30.2.1 0); omega)), trivial⟩ (show ((4 : Int) - x32.toInt).toNat < _ from t34) _ _ _ hP hS (lv_sub hl [0, 2, 3, 4, 5] rfl)
        ·
          intro nj28
          refine lv_icmp_ne (tgt := 80) hx hb dX9_leftFrom_74 (by decide) (fun c35 => ?_) (fun c35 => ?_)
          ·
            have k36 := neq32 c35
            refine lv_aload_n hx hb dX9_leftFrom_80 rfl (lv_at hl 3 rfl) ?_
            refine g9_50 hx hb hts hown hK hP (hts _ q1410) dX9_leftFrom_81 ?_
            refine lv_sipush (v := 29791) hx hb dX9_leftFrom_84 (by decide) ?_
            refine lv_iload_n hx hb dX9_leftFrom_87 rfl (lv_at hl 4 rfl) ?_
            refine lv_iconst (v := 1) hx hb dX9_leftFrom_88 (by decide) ?_
            refine lv_iadd hx hb dX9_leftFrom_89 ?_
            refine lv_topi (fun x37 ex37 => ?_)
            have t38 := addO ex37 (by have f0 := h0; have g0 := rg32 p1; have z1 : (1 : Int32).toInt = 1 := (by decide); omega)
            refine lv_imul hx hb dX9_leftFrom_90 ?_
            refine lv_topi (fun x39 ex39 => ?_)
            have t40 := mulC' (n := 29791) ex39 (by decide) (by have f0 := t38; have f1 := h0; have g0 := rg32 x37; have z1 : (1 : Int32).toInt = 1 := (by decide); omega)
            refine lv_iload hx hb dX9_leftFrom_91 (lv_at hl 0 rfl) ?_
            refine lv_iadd hx hb dX9_leftFrom_93 ?_
            refine lv_topi (fun x41 ex41 => ?_)
            have t42 := addO ex41 (by have f0 := b27; have f1 := k36; have f2 := t40; have f3 := t38; have f4 := h0; have g0 := rg32 r24; have g1 := rg32 x39; have zm1 : ((-1) : Int32).toInt = (-1) := (by decide); have z1 : (1 : Int32).toInt = 1 := (by decide); omega)
            obtain ⟨x43, ex43⟩ : ∃ z, (σ 9).2.2.1 50 x41.toInt.toNat = z := ⟨_, rfl⟩
            refine l9_50 (x := x43) hx hb hK hP (vpo (by have f0 := t42; have f1 := b27; have f2 := k36; have f3 := t40; have f4 := t38; have f5 := h0; have g0 := rg32 x41; have zm1 : ((-1) : Int32).toInt = (-1) := (by decide); have z1 : (1 : Int32).toInt = 1 := (by decide); omega)) ex43 dX9_leftFrom_94 ?_
            refine lv_iload hx hb dX9_leftFrom_95 (lv_at hl 1 rfl) ?_
            refine lv_iconst (v := (-1)) hx hb dX9_leftFrom_97 (by decide) ?_
            refine cut9 (D := D) (cy := cy) (g := g) (A := A9 cy g s.heap.size) (H0 := s.heap) 7 106 (fun x : LZ => [(5, .int r24), (4, .int (y9.2.1 0)), (3, .int (y9.2.1 1)), (0, .ref (g 60)), (1, .int p1), (2, .int p2)]) (fun x : LZ => [.int (x.2.1 0), .int x43]) (fun x : LZ => (x.1 = σ) ∧ ((0 : Int) ≤ (x.2.1 0).toInt ∧ (x.2.1 0).toInt ≤ 1) ∧ True) ?_ ?_
            ·
              intro y46 hI45 H locs ls hP hS hl
              rw [show y46.1 = σ from hI45.1] at hP
              have b47 : (0 : Int) ≤ (y46.2.1 0).toInt ∧ (y46.2.1 0).toInt ≤ 1 := hI45.2.1
              have hl : lv_has ls 7 [(5, .int r24), (4, .int (y9.2.1 0)), (3, .int (y9.2.1 1)), (0, .ref (g 60)), (1, .int p1), (2, .int p2)] := hl
              refine W.eq (g2 := F0 m 106 ls [.int (y46.2.1 0), .int x43]) rfl ?_
              refine lv_iadd hx hb dX9_leftFrom_106 ?_
              refine lv_topi (fun x48 ex48 => ?_)
              refine lv_istore (lv' := [(6, .int x48), (5, .int r24), (4, .int (y9.2.1 0)), (3, .int (y9.2.1 1)), (0, .ref (g 60)), (1, .int p1), (2, .int p2)]) hx hb dX9_leftFrom_107 hl (by decide) rfl (fun ls hl => ?_)
              refine lv_iload hx hb dX9_leftFrom_109 (lv_at hl 0 rfl) ?_
              refine lv_iload_n hx hb dX9_leftFrom_111 rfl (lv_at hl 3 rfl) ?_
              refine cut9 (D := D) (cy := cy) (g := g) (A := A9 cy g s.heap.size) (H0 := s.heap) 7 121 (fun x : LZ => [(6, .int x48), (5, .int r24), (4, .int (y9.2.1 0)), (3, .int (y9.2.1 1)), (0, .ref (g 60)), (1, .int p1), (2, .int p2)]) (fun x : LZ => [.int (x.2.1 0)]) (fun x : LZ => (x.1 = σ) ∧ ((-2147483648 : Int) ≤ (x.2.1 0).toInt ∧ (x.2.1 0).toInt ≤ 99) ∧ True) ?_ ?_
              ·
                intro y51 hI50 H locs ls hP hS hl
                rw [show y51.1 = σ from hI50.1] at hP
                have b52 : (-2147483648 : Int) ≤ (y51.2.1 0).toInt ∧ (y51.2.1 0).toInt ≤ 99 := hI50.2.1
                have hl : lv_has ls 7 [(6, .int x48), (5, .int r24), (4, .int (y9.2.1 0)), (3, .int (y9.2.1 1)), (0, .ref (g 60)), (1, .int p1), (2, .int p2)] := hl
                refine W.eq (g2 := F0 m 121 ls [.int (y51.2.1 0)]) rfl ?_
                refine lv_istore_n (lv' := [(3, .int (y51.2.1 0)), (6, .int x48), (5, .int r24), (4, .int (y9.2.1 0)), (0, .ref (g 60)), (1, .int p1), (2, .int p2)]) hx hb dX9_leftFrom_121 rfl hl (by decide) rfl (fun ls hl => ?_)
                exact nj28 (σ, lf [(y51.2.1 0)], lg []) ⟨rfl, (show (-2147483648 : Int) ≤ ((y51.2.1 0) : Int32).toInt ∧ ((y51.2.1 0) : Int32).toInt ≤ 99 from (by have f0 := b52; have g0 := rg32 (y51.2.1 0); omega)), trivial⟩ _ _ _ hP hS (lv_sub hl [2, 3, 0, 4, 5, 6] rfl)
              ·
                intro nj49
                refine lv_icmp_ge (tgt := 120) hx hb dX9_leftFrom_112 (by decide) (fun c53 => ?_) (fun c53 => ?_)
                ·
                  have k54 := ple32 c53
                  refine lv_iload_n hx hb dX9_leftFrom_120 rfl (lv_at hl 3 rfl) ?_
                  exact nj49 (σ, lf [(y9.2.1 1)], lg []) ⟨rfl, (show (-2147483648 : Int) ≤ ((y9.2.1 1) : Int32).toInt ∧ ((y9.2.1 1) : Int32).toInt ≤ 99 from (by have f0 := b11; have f1 := k54; have g0 := rg32 (y9.2.1 1); have g1 := rg32 x48; omega)), trivial⟩ _ _ _ hP hS (lv_sub hl [0, 1, 2, 3, 4, 5, 6] rfl)
                ·
                  have k55 := nle32 c53
                  refine lv_iload hx hb dX9_leftFrom_115 (lv_at hl 0 rfl) ?_
                  refine lv_goto (tgt := 121) hx hb dX9_leftFrom_117 (by decide) ?_
                  exact nj49 (σ, lf [x48], lg []) ⟨rfl, (show (-2147483648 : Int) ≤ (x48 : Int32).toInt ∧ (x48 : Int32).toInt ≤ 99 from (by have f0 := k55; have f1 := b11; have g0 := rg32 x48; omega)), trivial⟩ _ _ _ hP hS (lv_sub hl [0, 1, 2, 3, 4, 5, 6] rfl)
            ·
              intro nj44
              refine lv_icmp_ne (tgt := 105) hx hb dX9_leftFrom_98 (by decide) (fun c56 => ?_) (fun c56 => ?_)
              ·
                have k57 := neq32 c56
                refine lv_iconst (v := 1) hx hb dX9_leftFrom_105 (by decide) ?_
                exact nj44 (σ, lf [1], lg []) ⟨rfl, (show (0 : Int) ≤ (1 : Int32).toInt ∧ (1 : Int32).toInt ≤ 1 from (by have z1 : (1 : Int32).toInt = 1 := (by decide); omega)), trivial⟩ _ _ _ hP hS (lv_sub hl [0, 1, 2, 3, 4, 5] rfl)
              ·
                have k58 := peq32 c56
                refine lv_iconst (v := 0) hx hb dX9_leftFrom_101 (by decide) ?_
                refine lv_goto (tgt := 106) hx hb dX9_leftFrom_102 (by decide) ?_
                exact nj44 (σ, lf [0], lg []) ⟨rfl, (show (0 : Int) ≤ (0 : Int32).toInt ∧ (0 : Int32).toInt ≤ 1 from (by have z0 : (0 : Int32).toInt = 0 := (by decide); omega)), trivial⟩ _ _ _ hP hS (lv_sub hl [0, 1, 2, 3, 4, 5] rfl)
          ·
            have k59 := peq32 c35
            refine lv_goto (tgt := 122) hx hb dX9_leftFrom_77 (by decide) ?_
            exact nj28 (σ, lf [(y9.2.1 1)], lg []) ⟨rfl, (show (-2147483648 : Int) ≤ ((y9.2.1 1) : Int32).toInt ∧ ((y9.2.1 1) : Int32).toInt ≤ 99 from (by have f0 := b11; have g0 := rg32 (y9.2.1 1); omega)), trivial⟩ _ _ _ hP hS (lv_sub hl [0, 1, 2, 3, 4, 5] rfl)
    ·
      intro nj12
      refine lv_icmp_ne (tgt := 45) hx hb dX9_leftFrom_38 (by decide) (fun c60 => ?_) (fun c60 => ?_)
      ·
        have k61 := neq32 c60
        refine lv_aload_n hx hb dX9_leftFrom_45 rfl (lv_at hl 2 rfl) ?_
        refine g9_51 (x := ((σ 9).1 51)) hx hb hts hown hK hP (rfl) (hts _ q1411) dX9_leftFrom_46 ?_
        exact nj12 (σ, lf [((σ 9).1 51)], lg []) ⟨rfl, (show (0 : Int) ≤ (((σ 9).1 51) : Int32).toInt ∧ (((σ 9).1 51) : Int32).toInt ≤ 3 from (by have f0 := j9_51 hJ rfl; have f1 := k61; have z1 : (1 : Int32).toInt = 1 := (by decide); omega)), trivial⟩ _ _ _ hP hS (lv_sub hl [0, 1, 2, 3, 4] rfl)
      ·
        have k62 := peq32 c60
        refine lv_iconst (v := 0) hx hb dX9_leftFrom_41 (by decide) ?_
        refine lv_goto (tgt := 49) hx hb dX9_leftFrom_42 (by decide) ?_
        exact nj12 (σ, lf [0], lg []) ⟨rfl, (show (0 : Int) ≤ (0 : Int32).toInt ∧ (0 : Int32).toInt ≤ 3 from (by have z0 : (0 : Int32).toInt = 0 := (by decide); omega)), trivial⟩ _ _ _ hP hS (lv_sub hl [0, 1, 2, 3, 4] rfl)
  ·
    have k63 := neq32 c5
    refine lv_aload_n hx hb dX9_leftFrom_12 rfl (lv_at hl 0 rfl) ?_
    refine g9_50 hx hb hts hown hK hP (hts _ q1410) dX9_leftFrom_13 ?_
    refine lv_sipush (v := 29791) hx hb dX9_leftFrom_16 (by decide) ?_
    refine lv_iload_n hx hb dX9_leftFrom_19 rfl (lv_at hl 1 rfl) ?_
    refine lv_iconst (v := 1) hx hb dX9_leftFrom_20 (by decide) ?_
    refine lv_iadd hx hb dX9_leftFrom_21 ?_
    refine lv_topi (fun x64 ex64 => ?_)
    have t65 := addO ex64 (by have f0 := h0; have g0 := rg32 p1; have z1 : (1 : Int32).toInt = 1 := (by decide); omega)
    refine lv_imul hx hb dX9_leftFrom_22 ?_
    refine lv_topi (fun x66 ex66 => ?_)
    have t67 := mulC' (n := 29791) ex66 (by decide) (by have f0 := t65; have f1 := h0; have g0 := rg32 x64; have z1 : (1 : Int32).toInt = 1 := (by decide); omega)
    obtain ⟨x68, ex68⟩ : ∃ z, (σ 9).2.2.1 50 x66.toInt.toNat = z := ⟨_, rfl⟩
    refine l9_50 (x := x68) hx hb hK hP (vpo (by have f0 := t67; have f1 := t65; have f2 := h0; have g0 := rg32 x66; have z1 : (1 : Int32).toInt = 1 := (by decide); omega)) ex68 dX9_leftFrom_23 ?_
    exact W.iret (v := x68) hx hb hr (fun tS ht hW => ⟨⟨x68, σ, rfl, ⟨rfl, trivial⟩, (show va_P D clz (WD9 cy g σ) tS.heap by rw [ht]; exact hP)⟩, hS.F ht⟩) hS.2.2 dX9_leftFrom_24

