theorem q1545 : Cond.code yX9_row cX9_row 5 (some .int) ∈ lw_g := lw_gm (List.mem_of_getElem? (i := 1545) (by decide +kernel)) rfl
theorem q1360 : Cond.fieldLink RX9 129 "LipsAndSlidesModel" "thrown" "I" ∈ lw_g := lw_gm (List.mem_of_getElem? (i := 1360) (by decide +kernel)) rfl
theorem q1546 : Cond.methodLink RX9 138 yX9_isSlot ∈ lw_g := lw_gm (List.mem_of_getElem? (i := 1546) (by decide +kernel)) rfl
theorem q1547 : Cond.static yX9_isSlot ∈ lw_g := lw_gm (List.mem_of_getElem? (i := 1547) (by decide +kernel)) rfl
theorem q1361 : Cond.fieldLink RX9 7 "LipsAndSlidesModel" "width" "[I" ∈ lw_g := lw_gm (List.mem_of_getElem? (i := 1361) (by decide +kernel)) rfl
theorem q1362 : Cond.fieldLink RX9 13 "LipsAndSlidesModel" "many" "[I" ∈ lw_g := lw_gm (List.mem_of_getElem? (i := 1362) (by decide +kernel)) rfl
theorem q1363 : Cond.fieldLink RX9 16 "LipsAndSlidesModel" "cells" "[J" ∈ lw_g := lw_gm (List.mem_of_getElem? (i := 1363) (by decide +kernel)) rfl
theorem dX9_row_0 : decode cX9_row 0 = .ok (.aload_n 0, 1) := by decide +kernel
theorem dX9_row_1 : decode cX9_row 1 = .ok (.iconst 0, 1) := by decide +kernel
theorem dX9_row_2 : decode cX9_row 2 = .ok (.putfield 129, 3) := by decide +kernel
theorem dX9_row_5 : decode cX9_row 5 = .ok (.iload_n 1, 1) := by decide +kernel
theorem dX9_row_6 : decode cX9_row 6 = .ok (.invokestatic 138, 3) := by decide +kernel
theorem dX9_row_9 : decode cX9_row 9 = .ok (.ifCond .eq 21, 3) := by decide +kernel
theorem dX9_row_12 : decode cX9_row 12 = .ok (.iload_n 2, 1) := by decide +kernel
theorem dX9_row_13 : decode cX9_row 13 = .ok (.i2l, 1) := by decide +kernel
theorem dX9_row_14 : decode cX9_row 14 = .ok (.lconst 0, 1) := by decide +kernel
theorem dX9_row_15 : decode cX9_row 15 = .ok (.ldc2_w 132, 3) := by decide +kernel
theorem dX9_row_18 : decode cX9_row 18 = .ok (.invokestatic 134, 3) := by decide +kernel
theorem dX9_row_21 : decode cX9_row 21 = .ok (.ifCond .eq 9, 3) := by decide +kernel
theorem dX9_row_24 : decode cX9_row 24 = .ok (.iload_n 3, 1) := by decide +kernel
theorem dX9_row_25 : decode cX9_row 25 = .ok (.bipush 60, 2) := by decide +kernel
theorem dX9_row_27 : decode cX9_row 27 = .ok (.if_icmp .le 6, 3) := by decide +kernel
theorem dX9_row_30 : decode cX9_row 30 = .ok (.bipush (-2), 2) := by decide +kernel
theorem dX9_row_32 : decode cX9_row 32 = .ok (.ireturn, 1) := by decide +kernel
theorem dX9_row_33 : decode cX9_row 33 = .ok (.iload_n 3, 1) := by decide +kernel
theorem dX9_row_34 : decode cX9_row 34 = .ok (.ifCond .ge 6, 3) := by decide +kernel
theorem dX9_row_37 : decode cX9_row 37 = .ok (.bipush (-3), 2) := by decide +kernel
theorem dX9_row_39 : decode cX9_row 39 = .ok (.ireturn, 1) := by decide +kernel
theorem dX9_row_40 : decode cX9_row 40 = .ok (.aload_n 0, 1) := by decide +kernel
theorem dX9_row_41 : decode cX9_row 41 = .ok (.getfield 7, 3) := by decide +kernel
theorem dX9_row_44 : decode cX9_row 44 = .ok (.iload_n 1, 1) := by decide +kernel
theorem dX9_row_45 : decode cX9_row 45 = .ok (.iload_n 2, 1) := by decide +kernel
theorem dX9_row_46 : decode cX9_row 46 = .ok (.iastore, 1) := by decide +kernel
theorem dX9_row_47 : decode cX9_row 47 = .ok (.aload_n 0, 1) := by decide +kernel
theorem dX9_row_48 : decode cX9_row 48 = .ok (.getfield 13, 3) := by decide +kernel
theorem dX9_row_51 : decode cX9_row 51 = .ok (.iload_n 1, 1) := by decide +kernel
theorem dX9_row_52 : decode cX9_row 52 = .ok (.iload_n 3, 1) := by decide +kernel
theorem dX9_row_53 : decode cX9_row 53 = .ok (.iastore, 1) := by decide +kernel
theorem dX9_row_54 : decode cX9_row 54 = .ok (.iconst 0, 1) := by decide +kernel
theorem dX9_row_55 : decode cX9_row 55 = .ok (.istore 4, 2) := by decide +kernel
theorem dX9_row_57 : decode cX9_row 57 = .ok (.iload 4, 2) := by decide +kernel
theorem dX9_row_59 : decode cX9_row 59 = .ok (.iload_n 3, 1) := by decide +kernel
theorem dX9_row_60 : decode cX9_row 60 = .ok (.if_icmp .ge 22, 3) := by decide +kernel
theorem dX9_row_63 : decode cX9_row 63 = .ok (.aload_n 0, 1) := by decide +kernel
theorem dX9_row_64 : decode cX9_row 64 = .ok (.getfield 16, 3) := by decide +kernel
theorem dX9_row_67 : decode cX9_row 67 = .ok (.bipush 60, 2) := by decide +kernel
theorem dX9_row_69 : decode cX9_row 69 = .ok (.iload_n 1, 1) := by decide +kernel
theorem dX9_row_70 : decode cX9_row 70 = .ok (.imul, 1) := by decide +kernel
theorem dX9_row_71 : decode cX9_row 71 = .ok (.iload 4, 2) := by decide +kernel
theorem dX9_row_73 : decode cX9_row 73 = .ok (.iadd, 1) := by decide +kernel
theorem dX9_row_74 : decode cX9_row 74 = .ok (.lconst 0, 1) := by decide +kernel
theorem dX9_row_75 : decode cX9_row 75 = .ok (.lastore, 1) := by decide +kernel
theorem dX9_row_76 : decode cX9_row 76 = .ok (.iinc 4 1, 3) := by decide +kernel
theorem dX9_row_79 : decode cX9_row 79 = .ok (.goto (-22), 3) := by decide +kernel
theorem dX9_row_82 : decode cX9_row 82 = .ok (.iconst 0, 1) := by decide +kernel
theorem dX9_row_83 : decode cX9_row 83 = .ok (.ireturn, 1) := by decide +kernel
set_option maxHeartbeats 4000000 in
set_option maxRecDepth 100000 in
theorem m_X9_row (l : Launch) (D : va_G) (cy : Nat → ClassId) (g : Nat → Nat) (σ : ST) (p1 : Int32) (p2 : Int32) (p3 : Int32) (sz : Nat) (hJ : J9 (σ 9))  : Met l yX9_row (ww yX9_row cX9_row 5 (some .int)) ({ frames := 3, cells := 0, slots := 0, locals := 192 }) (va_Pc [.ref (g 60), .int p1, .int p2, .int p3] (pr9 D cy g σ sz)) (qi9 D cy g sz (fun r τ => Fr (fL [0, 1, 2, 3]) σ τ ∧ J9 (τ 9) ∧ (((p1.toInt < 0 ∨ 3 < p1.toInt ∨ p2.toInt < 0 ∨ 3 < p2.toInt ∨ 60 < p3.toInt) ∧ r.toInt = -2) ∨ (¬ (p1.toInt < 0 ∨ 3 < p1.toInt ∨ p2.toInt < 0 ∨ 3 < p2.toInt ∨ 60 < p3.toInt) ∧ p3.toInt < 0 ∧ r.toInt = -3) ∨ (¬ (p1.toInt < 0 ∨ 3 < p1.toInt ∨ p2.toInt < 0 ∨ 3 < p2.toInt ∨ 60 < p3.toInt) ∧ 0 ≤ p3.toInt ∧ r.toInt = 0)) ∧ ((r.toInt = 0 ∧ ((τ 9)).2.2.1 1 = upd (((σ 9)).2.2.1 1) p1.toInt.toNat p2 ∧ ((τ 9)).2.2.1 2 = upd (((σ 9)).2.2.1 2) p1.toInt.toNat p3) ∨ (¬ r.toInt = 0 ∧ ((τ 9)).2.2.1 1 = ((σ 9)).2.2.1 1 ∧ ((τ 9)).2.2.1 2 = ((σ 9)).2.2.1 2)) ∧ True)) 0 0 (A9 cy g sz) := by
  refine Met.ofW (cc := cX9_row) (maxL := 5) (ret := (some .int)) (by decide) rfl ?_
  intro p e s m args below meth c s₁ B hml hv
  obtain ⟨rfl, hsz, hP, hK, hD0, hC⟩ := hv
  have hx := B.exec
  have hb := B.bytes
  have hr := B.returns
  have hts := hts_g (atoms_spec (ws := ww yX9_row cX9_row 5 (some .int)) B.pre)
  have hown : s.vm.findClass RX9 = some m.cls := findClass_of_methodNamed B.named
  have hlocks := B.notSynchronized
  clear B
  subst hsz
  have hD := fun τ => A9_D (sz := s.heap.size) hD0 τ
  clear hD0
  have hS : va_S (A9 cy g s.heap.size) s.heap s.heap [] := va_S.rf
  have hl := lv_entry ([.ref (g 60), .int p1, .int p2, .int p3]) (n := 5) (Nat.le_of_ble_eq_true rfl)
  rw [lg_entry_eq]
  generalize (lg_sl ([.ref (g 60), .int p1, .int p2, .int p3]) ++ List.replicate (5 - (lg_sl ([.ref (g 60), .int p1, .int p2, .int p3])).length) Slot.unset).toArray = ls at hl ⊢
  have hl : lv_has ls 5 [(0, .ref (g 60)), (1, .int p1), (2, .int p2), (3, .int p3)] := hl
  refine lv_aload_n hx hb dX9_row_0 rfl (lv_at hl 0 rfl) ?_
  refine lv_iconst (v := 0) hx hb dX9_row_1 (by decide) ?_
  refine p9_0 hx hb hts hown hK hP hD hS (hts _ q1360) dX9_row_2 (fun H locs σ1 eσ1 hP hS => ?_)
  have hJ2 : J9 (σ1 9) := hJ.I eσ1 (show JI9 0 (0 : Int32) from trivial)
  refine lv_iload_n hx hb dX9_row_5 rfl (lv_at hl 1 rfl) ?_
  refine va_calli (va_runS (As := [.int p1]) (rest := []) ⟨hx, hb, hml, hown, hts⟩ (m_X9_isSlot l D cy g σ1 p1 _ hJ2 ) (va_cwS 1 hts (gd_S q1546 q1547 q134 q1548) rfl rfl rfl (by decide +kernel) ⟨Nat.le_of_ble_eq_true rfl, Nat.le_of_ble_eq_true rfl⟩) (ps9 hP hK hD hC hS) rfl rfl hl.1 rfl (lv_room (Nat.le_of_ble_eq_true rfl)) dX9_row_6 ⟨Nat.le_of_ble_eq_true rfl, Nat.le_of_ble_eq_true rfl⟩) hS (fun q _ h => up9 hS q h) (up9 hS) (fun r3 σ4 tS H1 locs ht hvm hw5 hB hz1 hk1 hS => ?_)
  have hP : va_P D clz (WD9 cy g σ4) H1 := by rw [← ht]; exact hB
  clear hB hz1 hk1 hvm ht
  generalize H1 = H at hP hS ⊢
  have hw5E : σ1 = σ4 := (hw5.1).symm
  subst hw5E
  have b6 : (0 : Int) ≤ r3.toInt ∧ r3.toInt ≤ 1 := hw5.2.1
  have b7 : (r3.toInt = 0) ∨ ((0 : Int) ≤ p1.toInt ∧ p1.toInt ≤ 3) := hw5.2.2.1
  have b8 : r3.toInt = 1 ∨ p1.toInt < 0 ∨ 3 < p1.toInt := hw5.2.2.2.1
  refine lv_if_eq (tgt := 30) hx hb dX9_row_9 (by decide) (fun c9 => ?_) (fun c9 => ?_)
  ·
    have k10 := peq32 c9
    refine lv_bipush (v := (-2)) hx hb dX9_row_30 (by decide) ?_
    exact W.iret (v := (-2)) hx hb hr (fun tS ht hW => ⟨⟨(-2), σ1, rfl, ⟨Fr.tr (Fr.rf) (sI_f eσ1) (fN_L rfl), hJ2, (show ((p1.toInt < 0 ∨ 3 < p1.toInt ∨ p2.toInt < 0 ∨ 3 < p2.toInt ∨ 60 < p3.toInt) ∧ ((-2) : Int32).toInt = -2) ∨ (¬ (p1.toInt < 0 ∨ 3 < p1.toInt ∨ p2.toInt < 0 ∨ 3 < p2.toInt ∨ 60 < p3.toInt) ∧ p3.toInt < 0 ∧ ((-2) : Int32).toInt = -3) ∨ (¬ (p1.toInt < 0 ∨ 3 < p1.toInt ∨ p2.toInt < 0 ∨ 3 < p2.toInt ∨ 60 < p3.toInt) ∧ 0 ≤ p3.toInt ∧ ((-2) : Int32).toInt = 0) from (by have f0 := b7; have f1 := b8; have f2 := b6; have f3 := k10; have g0 := rg32 p1; have g1 := rg32 p2; have g2 := rg32 p3; have zm2 : ((-2) : Int32).toInt = (-2) := (by decide); have z0 : (0 : Int32).toInt = 0 := (by decide); omega)), (show (((-2) : Int32).toInt = 0 ∧ ((σ1 9)).2.2.1 1 = upd (((σ 9)).2.2.1 1) p1.toInt.toNat p2 ∧ ((σ1 9)).2.2.1 2 = upd (((σ 9)).2.2.1 2) p1.toInt.toNat p3) ∨ (¬ ((-2) : Int32).toInt = 0 ∧ ((σ1 9)).2.2.1 1 = ((σ 9)).2.2.1 1 ∧ ((σ1 9)).2.2.1 2 = ((σ 9)).2.2.1 2) from (Or.inr ⟨(by have zm2 : ((-2) : Int32).toInt = (-2) := (by decide); omega), ((sI_f eσ1) 9 1 rfl).2.2.1, ((sI_f eσ1) 9 2 rfl).2.2.1⟩)), trivial⟩, (show va_P D clz (WD9 cy g σ1) tS.heap by rw [ht]; exact hP)⟩, hS.F ht⟩) hS.2.2 dX9_row_32
  ·
    have k11 := neq32 c9
    refine lv_iload_n hx hb dX9_row_12 rfl (lv_at hl 2 rfl) ?_
    refine lv_i2l (v := p2.toInt64) hx hb dX9_row_13 rfl ?_
    refine lv_lconst (v := 0) hx hb dX9_row_14 (by decide) ?_
    refine lv_ldc2 (v := 3) hx hb hown (hts _ q1549) dX9_row_15 ?_
    refine va_calli (va_runS (As := [.long p2.toInt64, .long 0, .long 3]) (rest := []) ⟨hx, hb, hml, hown, hts⟩ (m_X9_in l D cy g σ1 p2.toInt64 (0) (3) _ hJ2 ) (va_cwS 3 hts (gd_S q1550 q1551 q134 q1552) rfl rfl rfl (by decide +kernel) ⟨Nat.le_of_ble_eq_true rfl, Nat.le_of_ble_eq_true rfl⟩) (ps9 hP hK hD hC hS) rfl rfl hl.1 rfl (lv_room (Nat.le_of_ble_eq_true rfl)) dX9_row_18 ⟨Nat.le_of_ble_eq_true rfl, Nat.le_of_ble_eq_true rfl⟩) hS (fun q _ h => up9 hS q h) (up9 hS) (fun r12 σ13 tS H1 locs ht hvm hw14 hB hz1 hk1 hS => ?_)
    have hP : va_P D clz (WD9 cy g σ13) H1 := by rw [← ht]; exact hB
    clear hB hz1 hk1 hvm ht
    generalize H1 = H at hP hS ⊢
    have hw14E : σ1 = σ13 := (hw14.1).symm
    subst hw14E
    have b15 : (0 : Int) ≤ r12.toInt ∧ r12.toInt ≤ 1 := hw14.2.1
    have b16 : (r12.toInt = 1 ∧ (0 : Int64).toInt ≤ p2.toInt64.toInt ∧ p2.toInt64.toInt ≤ (3 : Int64).toInt) ∨ (r12.toInt = 0 ∧ ¬ ((0 : Int64).toInt ≤ p2.toInt64.toInt ∧ p2.toInt64.toInt ≤ (3 : Int64).toInt)) := hw14.2.2.1
    refine lv_if_eq (tgt := 30) hx hb dX9_row_21 (by decide) (fun c17 => ?_) (fun c17 => ?_)
    ·
      have k18 := peq32 c17
      refine lv_bipush (v := (-2)) hx hb dX9_row_30 (by decide) ?_
      exact W.iret (v := (-2)) hx hb hr (fun tS ht hW => ⟨⟨(-2), σ1, rfl, ⟨Fr.tr (Fr.rf) (sI_f eσ1) (fN_L rfl), hJ2, (show ((p1.toInt < 0 ∨ 3 < p1.toInt ∨ p2.toInt < 0 ∨ 3 < p2.toInt ∨ 60 < p3.toInt) ∧ ((-2) : Int32).toInt = -2) ∨ (¬ (p1.toInt < 0 ∨ 3 < p1.toInt ∨ p2.toInt < 0 ∨ 3 < p2.toInt ∨ 60 < p3.toInt) ∧ p3.toInt < 0 ∧ ((-2) : Int32).toInt = -3) ∨ (¬ (p1.toInt < 0 ∨ 3 < p1.toInt ∨ p2.toInt < 0 ∨ 3 < p2.toInt ∨ 60 < p3.toInt) ∧ 0 ≤ p3.toInt ∧ ((-2) : Int32).toInt = 0) from (by have f0 := b7; have f1 := b8; have f2 := t64 (a := p2); have f3 := rg32 p2; have f4 := b6; have f5 := k11; have f6 := b16; have f7 := b15; have f8 := k18; have g0 := rg32 p1; have g1 := rg32 p2; have g3 := rg32 p3; have zm2 : ((-2) : Int32).toInt = (-2) := (by decide); have z0 : (0 : Int32).toInt = 0 := (by decide); have zl0 : (0 : Int64).toInt = 0 := (by decide); have zl3 : (3 : Int64).toInt = 3 := (by decide); have w16 := t64 (a := p2); omega)), (show (((-2) : Int32).toInt = 0 ∧ ((σ1 9)).2.2.1 1 = upd (((σ 9)).2.2.1 1) p1.toInt.toNat p2 ∧ ((σ1 9)).2.2.1 2 = upd (((σ 9)).2.2.1 2) p1.toInt.toNat p3) ∨ (¬ ((-2) : Int32).toInt = 0 ∧ ((σ1 9)).2.2.1 1 = ((σ 9)).2.2.1 1 ∧ ((σ1 9)).2.2.1 2 = ((σ 9)).2.2.1 2) from (Or.inr ⟨(by have zm2 : ((-2) : Int32).toInt = (-2) := (by decide); omega), ((sI_f eσ1) 9 1 rfl).2.2.1, ((sI_f eσ1) 9 2 rfl).2.2.1⟩)), trivial⟩, (show va_P D clz (WD9 cy g σ1) tS.heap by rw [ht]; exact hP)⟩, hS.F ht⟩) hS.2.2 dX9_row_32
    ·
      have k19 := neq32 c17
      refine lv_iload_n hx hb dX9_row_24 rfl (lv_at hl 3 rfl) ?_
      refine lv_bipush (v := 60) hx hb dX9_row_25 (by decide) ?_
      refine lv_icmp_le (tgt := 33) hx hb dX9_row_27 (by decide) (fun c20 => ?_) (fun c20 => ?_)
      ·
        have k21 := ple32 c20
        refine lv_iload_n hx hb dX9_row_33 rfl (lv_at hl 3 rfl) ?_
        refine lv_if_ge (tgt := 40) hx hb dX9_row_34 (by decide) (fun c22 => ?_) (fun c22 => ?_)
        ·
          have k23 := ple32 c22
          refine lv_aload_n hx hb dX9_row_40 rfl (lv_at hl 0 rfl) ?_
          refine g9_1 hx hb hts hown hK hP (hts _ q1361) dX9_row_41 ?_
          refine lv_iload_n hx hb dX9_row_44 rfl (lv_at hl 1 rfl) ?_
          refine lv_iload_n hx hb dX9_row_45 rfl (lv_at hl 2 rfl) ?_
          refine t9_1 hx hb hK hP hD hS (vpo (by have f0 := b7; have f1 := b8; have f2 := b6; have f3 := k11; have g0 := rg32 p1; have z0 : (0 : Int32).toInt = 0 := (by decide); omega)) dX9_row_46 (fun H locs σ24 eσ24 hP hS => ?_)
          have hJ25 : J9 (σ24 9) := hJ2.A eσ24 trivial
          refine lv_aload_n hx hb dX9_row_47 rfl (lv_at hl 0 rfl) ?_
          refine g9_2 hx hb hts hown hK hP (hts _ q1362) dX9_row_48 ?_
          refine lv_iload_n hx hb dX9_row_51 rfl (lv_at hl 1 rfl) ?_
          refine lv_iload_n hx hb dX9_row_52 rfl (lv_at hl 3 rfl) ?_
          refine t9_2 hx hb hK hP hD hS (vpo (by have f0 := b7; have f1 := b8; have f2 := b6; have f3 := k11; have g0 := rg32 p1; have z0 : (0 : Int32).toInt = 0 := (by decide); omega)) dX9_row_53 (fun H locs σ26 eσ26 hP hS => ?_)
          have hJ27 : J9 (σ26 9) := hJ25.A eσ26 (show PA9 2 p1.toInt.toNat p3 from (by have f0 := b7; have f1 := b8; have f2 := k21; have f3 := k23; have f4 := b6; have f5 := k11; have g0 := rg32 p1; have g1 := rg32 p3; have z0 : (0 : Int32).toInt = 0 := (by decide); have z60 : (60 : Int32).toInt = 60 := (by decide); exact ⟨by omega, by omega⟩))
          refine lv_iconst (v := 0) hx hb dX9_row_54 (by decide) ?_
          refine lv_istore (lv' := [(4, .int 0), (0, .ref (g 60)), (1, .int p1), (2, .int p2), (3, .int p3)]) hx hb dX9_row_55 hl (by decide) rfl (fun ls hl => ?_)
          refine loop9 5 57 (fun x : LZ => [(4, .int (x.2.1 0)), (0, .ref (g 60)), (1, .int p1), (2, .int p2), (3, .int p3)]) (fun x : LZ => (Fr (fL [3]) σ26 x.1) ∧ (J9 (x.1 9)) ∧ ((0 : Int) ≤ (x.2.1 0).toInt ∧ (x.2.1 0).toInt ≤ 60) ∧ (0 ≤ p3.toInt ∧ p3.toInt ≤ 60) ∧ True) (fun x : LZ => ((61 : Int) - (x.2.1 0).toInt).toNat) ?_ (σ26, lf [0], lg []) ⟨Fr.rf, hJ27, (show (0 : Int) ≤ (0 : Int32).toInt ∧ (0 : Int32).toInt ≤ 60 from (by have z0 : (0 : Int32).toInt = 0 := (by decide); omega)), (show 0 ≤ p3.toInt ∧ p3.toInt ≤ 60 from (by have f0 := k21; have f1 := k23; have g0 := rg32 p3; have z0 : (0 : Int32).toInt = 0 := (by decide); have z60 : (60 : Int32).toInt = 60 := (by decide); omega)), trivial⟩ _ _ _ hP hS (lv_sub hl [0, 1, 2, 3, 4] rfl)
          intro y30 hI29 nl28 H locs ls hP hS hl
          obtain ⟨σ31, eσ31⟩ : ∃ z, z = y30.1 := ⟨_, rfl⟩
          rw [← eσ31] at hP hI29
          have hF32 : Fr (fL [3]) σ26 σ31 := hI29.1
          have hJ33 : J9 (σ31 9) := hI29.2.1
          have b34 : (0 : Int) ≤ (y30.2.1 0).toInt ∧ (y30.2.1 0).toInt ≤ 60 := hI29.2.2.1
          have b35 : 0 ≤ p3.toInt ∧ p3.toInt ≤ 60 := hI29.2.2.2.1
          have hl : lv_has ls 5 [(4, .int (y30.2.1 0)), (0, .ref (g 60)), (1, .int p1), (2, .int p2), (3, .int p3)] := hl
          refine lv_iload hx hb dX9_row_57 (lv_at hl 0 rfl) ?_
          refine lv_iload_n hx hb dX9_row_59 rfl (lv_at hl 4 rfl) ?_
          refine lv_icmp_ge (tgt := 82) hx hb dX9_row_60 (by decide) (fun c36 => ?_) (fun c36 => ?_)
          ·
            have k37 := ple32 c36
            refine lv_iconst (v := 0) hx hb dX9_row_82 (by decide) ?_
            exact W.iret (v := 0) hx hb hr (fun tS ht hW => ⟨⟨0, σ31, rfl, ⟨Fr.tr (Fr.tr (Fr.tr (Fr.tr (Fr.rf) (sI_f eσ1) (fN_L rfl)) (sA_f eσ24) (fN_L rfl)) (sA_f eσ26) (fN_L rfl)) hF32 (fL_sub rfl), hJ33, (show ((p1.toInt < 0 ∨ 3 < p1.toInt ∨ p2.toInt < 0 ∨ 3 < p2.toInt ∨ 60 < p3.toInt) ∧ (0 : Int32).toInt = -2) ∨ (¬ (p1.toInt < 0 ∨ 3 < p1.toInt ∨ p2.toInt < 0 ∨ 3 < p2.toInt ∨ 60 < p3.toInt) ∧ p3.toInt < 0 ∧ (0 : Int32).toInt = -3) ∨ (¬ (p1.toInt < 0 ∨ 3 < p1.toInt ∨ p2.toInt < 0 ∨ 3 < p2.toInt ∨ 60 < p3.toInt) ∧ 0 ≤ p3.toInt ∧ (0 : Int32).toInt = 0) from (by have f0 := b7; have f1 := b8; have f2 := t64 (a := p2); have f3 := rg32 p2; have f4 := k21; have f5 := k23; have f6 := b35; have f7 := k37; have f8 := b6; have f9 := k11; have f10 := b16; have f11 := b34; have f12 := b15; have f13 := k19; have g0 := rg32 p1; have g1 := rg32 p2; have g2 := rg32 p3; have z0 : (0 : Int32).toInt = 0 := (by decide); have zl0 : (0 : Int64).toInt = 0 := (by decide); have zl3 : (3 : Int64).toInt = 3 := (by decide); have z60 : (60 : Int32).toInt = 60 := (by decide); have w21 := t64 (a := p2); omega)), (show ((0 : Int32).toInt = 0 ∧ ((σ31 9)).2.2.1 1 = upd (((σ 9)).2.2.1 1) p1.toInt.toNat p2 ∧ ((σ31 9)).2.2.1 2 = upd (((σ 9)).2.2.1 2) p1.toInt.toNat p3) ∨ (¬ (0 : Int32).toInt = 0 ∧ ((σ31 9)).2.2.1 1 = ((σ 9)).2.2.1 1 ∧ ((σ31 9)).2.2.1 2 = ((σ 9)).2.2.1 2) from (Or.inl ⟨(by have z0 : (0 : Int32).toInt = 0 := (by decide); omega), (by rw [((hF32 9 1 rfl).2.2.1).trans (((sA_f eσ26) 9 1 rfl).2.2.1), sA_s eσ24, ((sI_f eσ1) 9 1 rfl).2.2.1]), (by rw [(hF32 9 2 rfl).2.2.1, sA_s eσ26, (((sA_f eσ24) 9 2 rfl).2.2.1).trans (((sI_f eσ1) 9 2 rfl).2.2.1)])⟩)), trivial⟩, (show va_P D clz (WD9 cy g σ31) tS.heap by rw [ht]; exact hP)⟩, hS.F ht⟩) hS.2.2 dX9_row_83
          ·
            have k38 := nle32 c36
            refine lv_aload_n hx hb dX9_row_63 rfl (lv_at hl 1 rfl) ?_
            refine g9_3 hx hb hts hown hK hP (hts _ q1363) dX9_row_64 ?_
            refine lv_bipush (v := 60) hx hb dX9_row_67 (by decide) ?_
            refine lv_iload_n hx hb dX9_row_69 rfl (lv_at hl 2 rfl) ?_
            refine lv_imul hx hb dX9_row_70 ?_
            refine lv_topi (fun x39 ex39 => ?_)
            have t40 := mulC' (n := 60) ex39 (by decide) (by have f0 := b7; have f1 := b8; have f2 := b6; have f3 := k11; have g0 := rg32 p1; have z0 : (0 : Int32).toInt = 0 := (by decide); omega)
            refine lv_iload hx hb dX9_row_71 (lv_at hl 0 rfl) ?_
            refine lv_iadd hx hb dX9_row_73 ?_
            refine lv_topi (fun x41 ex41 => ?_)
            have t42 := addO ex41 (by have f0 := b34; have f1 := k38; have f2 := t40; have f3 := b7; have f4 := b8; have f5 := k21; have f6 := k23; have f7 := b35; have f8 := b6; have f9 := k11; have g0 := rg32 (y30.2.1 0); have g1 := rg32 x39; have z0 : (0 : Int32).toInt = 0 := (by decide); have z60 : (60 : Int32).toInt = 60 := (by decide); omega)
            refine lv_lconst (v := 0) hx hb dX9_row_74 (by decide) ?_
            refine t9_3 hx hb hK hP hD hS (vpo (by have f0 := t42; have f1 := b34; have f2 := k38; have f3 := t40; have f4 := b7; have f5 := b8; have f6 := k21; have f7 := k23; have f8 := b35; have f9 := b6; have f10 := k11; have g0 := rg32 x41; have z0 : (0 : Int32).toInt = 0 := (by decide); have z60 : (60 : Int32).toInt = 60 := (by decide); omega)) dX9_row_75 (fun H locs σ43 eσ43 hP hS => ?_)
            have hJ44 : J9 (σ43 9) := hJ33.B eσ43
            obtain ⟨x45, ex45⟩ : ∃ y : Int32, y = (y30.2.1 0) + 1 := ⟨_, rfl⟩
            have t46 := addO ex45 (by have f0 := b34; have f1 := k38; have f2 := t42; have f3 := k21; have f4 := k23; have f5 := b35; have f6 := t40; have f7 := b7; have f8 := b8; have f9 := b6; have f10 := k11; have g0 := rg32 (y30.2.1 0); have z0 : (0 : Int32).toInt = 0 := (by decide); have z1 : (1 : Int32).toInt = 1 := (by decide); have z60 : (60 : Int32).toInt = 60 := (by decide); omega)
            refine lv_iinc (v := x45) (lv' := [(4, .int x45), (0, .ref (g 60)), (1, .int p1), (2, .int p2), (3, .int p3)]) hx hb dX9_row_76 hl (k := 0) rfl (by rw [ex45]; rfl) (by decide) rfl (fun ls hl => ?_)
            refine lv_goto (tgt := 57) hx hb dX9_row_79 (by decide) ?_
            have t47 : ((61 : Int) - x45.toInt).toNat < ((61 : Int) - (y30.2.1 0).toInt).toNat := (by have f0 := b34; have f1 := k38; have f2 := t42; have f3 := t46; have f4 := k21; have f5 := k23; have f6 := b35; have f7 := t40; have f8 := b7; have f9 := b8; have f10 := b6; have f11 := k11; have g0 := rg32 (y30.2.1 0); have g1 := rg32 x45; have z0 : (0 : Int32).toInt = 0 := (by decide); have z1 : (1 : Int32).toInt = 1 := (by decide); have z60 : (60 : Int32).toInt = 60 := (by decide); omega)
            exact nl28 (σ43, lf [x45], lg []) ⟨Fr.tr (Fr.tr (Fr.rf) hF32 (fL_sub rfl)) (sB_f eσ43) (fN_L rfl), hJ44, (show (0 : Int) ≤ (x45 : Int32).toInt ∧ (x45 : Int32).toInt ≤ 60 from (by have f0 := t46; have f1 := b34; have f2 := k38; have f3 := t42; have f4 := k21; have f5 := k23; have f6 := b35; have f7 := t40; have f8 := b7; have f9 := b8; have f10 := b6; have f11 := k11; have g0 := rg32 x45; have z0 : (0 : Int32).toInt = 0 := (by decide); have z1 : (1 : Int32).toInt = 1 := (by decide); have z60 : (60 : Int32).toInt = 60 := (by decide); omega)), (show 0 ≤ p3.toInt ∧ p3.toInt ≤ 60 from (by have f0 := k21; have f1 := k23; have f2 := b35; have f3 := k38; have f4 := b34; have f5 := t42; have f6 := t46; have f7 := t40; have f8 := b7; have f9 := b8; have f10 := b6; have f11 := k11; have g0 := rg32 p3; have z0 : (0 : Int32).toInt = 0 := (by decide); have z1 : (1 : Int32).toInt = 1 := (by decide); have z60 : (60 : Int32).toInt = 60 := (by decide); omega)), trivial⟩ (show ((61 : Int) - x45.toInt).toNat < _ from by first | exact t47 | (rw [← eσ31]; exact t47)) _ _ _ hP hS (lv_sub hl [0, 1, 2, 3, 4] rfl)
        ·
          have k48 := nle32 c22
          refine lv_bipush (v := (-3)) hx hb dX9_row_37 (by decide) ?_
          exact W.iret (v := (-3)) hx hb hr (fun tS ht hW => ⟨⟨(-3), σ1, rfl, ⟨Fr.tr (Fr.rf) (sI_f eσ1) (fN_L rfl), hJ2, (show ((p1.toInt < 0 ∨ 3 < p1.toInt ∨ p2.toInt < 0 ∨ 3 < p2.toInt ∨ 60 < p3.toInt) ∧ ((-3) : Int32).toInt = -2) ∨ (¬ (p1.toInt < 0 ∨ 3 < p1.toInt ∨ p2.toInt < 0 ∨ 3 < p2.toInt ∨ 60 < p3.toInt) ∧ p3.toInt < 0 ∧ ((-3) : Int32).toInt = -3) ∨ (¬ (p1.toInt < 0 ∨ 3 < p1.toInt ∨ p2.toInt < 0 ∨ 3 < p2.toInt ∨ 60 < p3.toInt) ∧ 0 ≤ p3.toInt ∧ ((-3) : Int32).toInt = 0) from (by have f0 := b7; have f1 := b8; have f2 := t64 (a := p2); have f3 := rg32 p2; have f4 := k21; have f5 := k48; have f6 := b6; have f7 := k11; have f8 := b16; have f9 := b15; have f10 := k19; have g0 := rg32 p1; have g1 := rg32 p2; have g2 := rg32 p3; have zm3 : ((-3) : Int32).toInt = (-3) := (by decide); have z0 : (0 : Int32).toInt = 0 := (by decide); have zl0 : (0 : Int64).toInt = 0 := (by decide); have zl3 : (3 : Int64).toInt = 3 := (by decide); have z60 : (60 : Int32).toInt = 60 := (by decide); have w19 := t64 (a := p2); omega)), (show (((-3) : Int32).toInt = 0 ∧ ((σ1 9)).2.2.1 1 = upd (((σ 9)).2.2.1 1) p1.toInt.toNat p2 ∧ ((σ1 9)).2.2.1 2 = upd (((σ 9)).2.2.1 2) p1.toInt.toNat p3) ∨ (¬ ((-3) : Int32).toInt = 0 ∧ ((σ1 9)).2.2.1 1 = ((σ 9)).2.2.1 1 ∧ ((σ1 9)).2.2.1 2 = ((σ 9)).2.2.1 2) from (Or.inr ⟨(by have zm3 : ((-3) : Int32).toInt = (-3) := (by decide); omega), ((sI_f eσ1) 9 1 rfl).2.2.1, ((sI_f eσ1) 9 2 rfl).2.2.1⟩)), trivial⟩, (show va_P D clz (WD9 cy g σ1) tS.heap by rw [ht]; exact hP)⟩, hS.F ht⟩) hS.2.2 dX9_row_39
      ·
        have k49 := nle32 c20
        refine lv_bipush (v := (-2)) hx hb dX9_row_30 (by decide) ?_
        exact W.iret (v := (-2)) hx hb hr (fun tS ht hW => ⟨⟨(-2), σ1, rfl, ⟨Fr.tr (Fr.rf) (sI_f eσ1) (fN_L rfl), hJ2, (show ((p1.toInt < 0 ∨ 3 < p1.toInt ∨ p2.toInt < 0 ∨ 3 < p2.toInt ∨ 60 < p3.toInt) ∧ ((-2) : Int32).toInt = -2) ∨ (¬ (p1.toInt < 0 ∨ 3 < p1.toInt ∨ p2.toInt < 0 ∨ 3 < p2.toInt ∨ 60 < p3.toInt) ∧ p3.toInt < 0 ∧ ((-2) : Int32).toInt = -3) ∨ (¬ (p1.toInt < 0 ∨ 3 < p1.toInt ∨ p2.toInt < 0 ∨ 3 < p2.toInt ∨ 60 < p3.toInt) ∧ 0 ≤ p3.toInt ∧ ((-2) : Int32).toInt = 0) from (by have f0 := b7; have f1 := b8; have f2 := t64 (a := p2); have f3 := rg32 p2; have f4 := k49; have f5 := b6; have f6 := k11; have f7 := b16; have f8 := b15; have f9 := k19; have g0 := rg32 p1; have g1 := rg32 p2; have g2 := rg32 p3; have zm2 : ((-2) : Int32).toInt = (-2) := (by decide); have z0 : (0 : Int32).toInt = 0 := (by decide); have zl0 : (0 : Int64).toInt = 0 := (by decide); have zl3 : (3 : Int64).toInt = 3 := (by decide); have z60 : (60 : Int32).toInt = 60 := (by decide); have w18 := t64 (a := p2); omega)), (show (((-2) : Int32).toInt = 0 ∧ ((σ1 9)).2.2.1 1 = upd (((σ 9)).2.2.1 1) p1.toInt.toNat p2 ∧ ((σ1 9)).2.2.1 2 = upd (((σ 9)).2.2.1 2) p1.toInt.toNat p3) ∨ (¬ ((-2) : Int32).toInt = 0 ∧ ((σ1 9)).2.2.1 1 = ((σ 9)).2.2.1 1 ∧ ((σ1 9)).2.2.1 2 = ((σ 9)).2.2.1 2) from (Or.inr ⟨(by have zm2 : ((-2) : Int32).toInt = (-2) := (by decide); omega), ((sI_f eσ1) 9 1 rfl).2.2.1, ((sI_f eσ1) 9 2 rfl).2.2.1⟩)), trivial⟩, (show va_P D clz (WD9 cy g σ1) tS.heap by rw [ht]; exact hP)⟩, hS.F ht⟩) hS.2.2 dX9_row_32

theorem q1559 : Cond.code yX9_cut cX9_cut 3 (some .long) ∈ lw_g := lw_gm (List.mem_of_getElem? (i := 1559) (by decide +kernel)) rfl
theorem dX9_cut_0 : decode cX9_cut 0 = .ok (.iload_n 2, 1) := by decide +kernel
theorem dX9_cut_1 : decode cX9_cut 1 = .ok (.ifCond .ne 10, 3) := by decide +kernel
theorem dX9_cut_4 : decode cX9_cut 4 = .ok (.lload_n 0, 1) := by decide +kernel
theorem dX9_cut_5 : decode cX9_cut 5 = .ok (.l2i, 1) := by decide +kernel
theorem dX9_cut_6 : decode cX9_cut 6 = .ok (.i2b, 1) := by decide +kernel
theorem dX9_cut_7 : decode cX9_cut 7 = .ok (.i2l, 1) := by decide +kernel
theorem dX9_cut_8 : decode cX9_cut 8 = .ok (.goto 27, 3) := by decide +kernel
theorem dX9_cut_11 : decode cX9_cut 11 = .ok (.iload_n 2, 1) := by decide +kernel
theorem dX9_cut_12 : decode cX9_cut 12 = .ok (.iconst 1, 1) := by decide +kernel
theorem dX9_cut_13 : decode cX9_cut 13 = .ok (.if_icmp .ne 10, 3) := by decide +kernel
theorem dX9_cut_16 : decode cX9_cut 16 = .ok (.lload_n 0, 1) := by decide +kernel
theorem dX9_cut_17 : decode cX9_cut 17 = .ok (.l2i, 1) := by decide +kernel
theorem dX9_cut_18 : decode cX9_cut 18 = .ok (.i2s, 1) := by decide +kernel
theorem dX9_cut_19 : decode cX9_cut 19 = .ok (.i2l, 1) := by decide +kernel
theorem dX9_cut_20 : decode cX9_cut 20 = .ok (.goto 15, 3) := by decide +kernel
theorem dX9_cut_23 : decode cX9_cut 23 = .ok (.iload_n 2, 1) := by decide +kernel
theorem dX9_cut_24 : decode cX9_cut 24 = .ok (.iconst 2, 1) := by decide +kernel
theorem dX9_cut_25 : decode cX9_cut 25 = .ok (.if_icmp .ne 9, 3) := by decide +kernel
theorem dX9_cut_28 : decode cX9_cut 28 = .ok (.lload_n 0, 1) := by decide +kernel
theorem dX9_cut_29 : decode cX9_cut 29 = .ok (.l2i, 1) := by decide +kernel
theorem dX9_cut_30 : decode cX9_cut 30 = .ok (.i2l, 1) := by decide +kernel
theorem dX9_cut_31 : decode cX9_cut 31 = .ok (.goto 4, 3) := by decide +kernel
theorem dX9_cut_34 : decode cX9_cut 34 = .ok (.lload_n 0, 1) := by decide +kernel
theorem dX9_cut_35 : decode cX9_cut 35 = .ok (.lreturn, 1) := by decide +kernel
set_option maxHeartbeats 4000000 in
set_option maxRecDepth 100000 in
theorem m_X9_cut (l : Launch) (D : va_G) (cy : Nat → ClassId) (g : Nat → Nat) (σ : ST) (p0 : Int64) (p2 : Int32) (sz : Nat) (hJ : J9 (σ 9))  : Met l yX9_cut (ww yX9_cut cX9_cut 3 (some .long)) ({ frames := 1, cells := 0, slots := 0, locals := 64 }) (va_Pc [.long p0, .int p2] (pr9 D cy g σ sz)) (ql9 D cy g sz (fun r τ => τ = σ ∧ True)) 0 0 (A9 cy g sz) := by
  refine Met.ofW (cc := cX9_cut) (maxL := 3) (ret := (some .long)) (by decide) rfl ?_
  intro p e s m args below meth c s₁ B hml hv
  obtain ⟨rfl, hsz, hP, hK, hD0, hC⟩ := hv
  have hx := B.exec
  have hb := B.bytes
  have hr := B.returns
  have hts := hts_g (atoms_spec (ws := ww yX9_cut cX9_cut 3 (some .long)) B.pre)
  have hown : s.vm.findClass RX9 = some m.cls := findClass_of_methodNamed B.named
  have hlocks := B.notSynchronized
  clear B
  subst hsz
  have hD := fun τ => A9_D (sz := s.heap.size) hD0 τ
  clear hD0
  have hS : va_S (A9 cy g s.heap.size) s.heap s.heap [] := va_S.rf
  have hl := lv_entry ([.long p0, .int p2]) (n := 3) (Nat.le_of_ble_eq_true rfl)
  rw [lg_entry_eq]
  generalize (lg_sl ([.long p0, .int p2]) ++ List.replicate (3 - (lg_sl ([.long p0, .int p2])).length) Slot.unset).toArray = ls at hl ⊢
  have hl : lv_has ls 3 [(0, .long p0), (2, .int p2)] := hl
  refine lv_iload_n hx hb dX9_cut_0 rfl (lv_at hl 1 rfl) ?_
  refine lv_if_ne (tgt := 11) hx hb dX9_cut_1 (by decide) (fun c1 => ?_) (fun c1 => ?_)
  ·
    have k2 := neq32 c1
    refine lv_iload_n hx hb dX9_cut_11 rfl (lv_at hl 1 rfl) ?_
    refine lv_iconst (v := 1) hx hb dX9_cut_12 (by decide) ?_
    refine lv_icmp_ne (tgt := 23) hx hb dX9_cut_13 (by decide) (fun c3 => ?_) (fun c3 => ?_)
    ·
      have k4 := neq32 c3
      refine lv_iload_n hx hb dX9_cut_23 rfl (lv_at hl 1 rfl) ?_
      refine lv_iconst (v := 2) hx hb dX9_cut_24 (by decide) ?_
      refine lv_icmp_ne (tgt := 34) hx hb dX9_cut_25 (by decide) (fun c5 => ?_) (fun c5 => ?_)
      ·
        have k6 := neq32 c5
        refine lv_lload_n hx hb dX9_cut_34 rfl (lv_at hl 0 rfl) ?_
        exact W.lret (v := p0) hx hb hr (fun tS ht hW => ⟨⟨p0, σ, rfl, ⟨rfl, trivial⟩, (show va_P D clz (WD9 cy g σ) tS.heap by rw [ht]; exact hP)⟩, hS.F ht⟩) hS.2.2 dX9_cut_35
      ·
        have k7 := peq32 c5
        refine lv_lload_n hx hb dX9_cut_28 rfl (lv_at hl 0 rfl) ?_
        refine lv_l2i hx hb dX9_cut_29 rfl ?_
        refine lv_topi (fun x8 ex8 => ?_)
        refine lv_i2l (v := x8.toInt64) hx hb dX9_cut_30 rfl ?_
        refine lv_goto (tgt := 35) hx hb dX9_cut_31 (by decide) ?_
        exact W.lret (v := x8.toInt64) hx hb hr (fun tS ht hW => ⟨⟨x8.toInt64, σ, rfl, ⟨rfl, trivial⟩, (show va_P D clz (WD9 cy g σ) tS.heap by rw [ht]; exact hP)⟩, hS.F ht⟩) hS.2.2 dX9_cut_35
    ·
      have k9 := peq32 c3
      refine lv_lload_n hx hb dX9_cut_16 rfl (lv_at hl 0 rfl) ?_
      refine lv_l2i hx hb dX9_cut_17 rfl ?_
      refine lv_topi (fun x10 ex10 => ?_)
      refine lv_i2s hx hb dX9_cut_18 rfl ?_
      refine lv_topi (fun x11 ex11 => ?_)
      refine lv_i2l (v := x11.toInt64) hx hb dX9_cut_19 rfl ?_
      refine lv_goto (tgt := 35) hx hb dX9_cut_20 (by decide) ?_
      exact W.lret (v := x11.toInt64) hx hb hr (fun tS ht hW => ⟨⟨x11.toInt64, σ, rfl, ⟨rfl, trivial⟩, (show va_P D clz (WD9 cy g σ) tS.heap by rw [ht]; exact hP)⟩, hS.F ht⟩) hS.2.2 dX9_cut_35
  ·
    have k12 := peq32 c1
    refine lv_lload_n hx hb dX9_cut_4 rfl (lv_at hl 0 rfl) ?_
    refine lv_l2i hx hb dX9_cut_5 rfl ?_
    refine lv_topi (fun x13 ex13 => ?_)
    refine lv_i2b hx hb dX9_cut_6 rfl ?_
    refine lv_topi (fun x14 ex14 => ?_)
    refine lv_i2l (v := x14.toInt64) hx hb dX9_cut_7 rfl ?_
    refine lv_goto (tgt := 35) hx hb dX9_cut_8 (by decide) ?_
    exact W.lret (v := x14.toInt64) hx hb hr (fun tS ht hW => ⟨⟨x14.toInt64, σ, rfl, ⟨rfl, trivial⟩, (show va_P D clz (WD9 cy g σ) tS.heap by rw [ht]; exact hP)⟩, hS.F ht⟩) hS.2.2 dX9_cut_35

theorem q1556 : Cond.code yX9_write cX9_write 5 (some .int) ∈ lw_g := lw_gm (List.mem_of_getElem? (i := 1556) (by decide +kernel)) rfl
theorem q1557 : Cond.methodLink RX9 142 yX9_cut ∈ lw_g := lw_gm (List.mem_of_getElem? (i := 1557) (by decide +kernel)) rfl
theorem q1558 : Cond.static yX9_cut ∈ lw_g := lw_gm (List.mem_of_getElem? (i := 1558) (by decide +kernel)) rfl
theorem dX9_write_0 : decode cX9_write 0 = .ok (.aload_n 0, 1) := by decide +kernel
theorem dX9_write_1 : decode cX9_write 1 = .ok (.iconst 0, 1) := by decide +kernel
theorem dX9_write_2 : decode cX9_write 2 = .ok (.putfield 129, 3) := by decide +kernel
theorem dX9_write_5 : decode cX9_write 5 = .ok (.iload_n 1, 1) := by decide +kernel
theorem dX9_write_6 : decode cX9_write 6 = .ok (.invokestatic 138, 3) := by decide +kernel
theorem dX9_write_9 : decode cX9_write 9 = .ok (.ifCond .ne 6, 3) := by decide +kernel
theorem dX9_write_12 : decode cX9_write 12 = .ok (.bipush (-2), 2) := by decide +kernel
theorem dX9_write_14 : decode cX9_write 14 = .ok (.ireturn, 1) := by decide +kernel
theorem dX9_write_15 : decode cX9_write 15 = .ok (.aload_n 0, 1) := by decide +kernel
theorem dX9_write_16 : decode cX9_write 16 = .ok (.getfield 7, 3) := by decide +kernel
theorem dX9_write_19 : decode cX9_write 19 = .ok (.iload_n 1, 1) := by decide +kernel
theorem dX9_write_20 : decode cX9_write 20 = .ok (.iaload, 1) := by decide +kernel
theorem dX9_write_21 : decode cX9_write 21 = .ok (.iconst (-1), 1) := by decide +kernel
theorem dX9_write_22 : decode cX9_write 22 = .ok (.if_icmp .ne 6, 3) := by decide +kernel
theorem dX9_write_25 : decode cX9_write 25 = .ok (.bipush (-6), 2) := by decide +kernel
theorem dX9_write_27 : decode cX9_write 27 = .ok (.ireturn, 1) := by decide +kernel
theorem dX9_write_28 : decode cX9_write 28 = .ok (.iload_n 2, 1) := by decide +kernel
theorem dX9_write_29 : decode cX9_write 29 = .ok (.i2l, 1) := by decide +kernel
theorem dX9_write_30 : decode cX9_write 30 = .ok (.lconst 0, 1) := by decide +kernel
theorem dX9_write_31 : decode cX9_write 31 = .ok (.aload_n 0, 1) := by decide +kernel
theorem dX9_write_32 : decode cX9_write 32 = .ok (.getfield 13, 3) := by decide +kernel
theorem dX9_write_35 : decode cX9_write 35 = .ok (.iload_n 1, 1) := by decide +kernel
theorem dX9_write_36 : decode cX9_write 36 = .ok (.iaload, 1) := by decide +kernel
theorem dX9_write_37 : decode cX9_write 37 = .ok (.iconst 1, 1) := by decide +kernel
theorem dX9_write_38 : decode cX9_write 38 = .ok (.isub, 1) := by decide +kernel
theorem dX9_write_39 : decode cX9_write 39 = .ok (.i2l, 1) := by decide +kernel
theorem dX9_write_40 : decode cX9_write 40 = .ok (.invokestatic 134, 3) := by decide +kernel
theorem dX9_write_43 : decode cX9_write 43 = .ok (.ifCond .ne 6, 3) := by decide +kernel
theorem dX9_write_46 : decode cX9_write 46 = .ok (.bipush (-7), 2) := by decide +kernel
theorem dX9_write_48 : decode cX9_write 48 = .ok (.ireturn, 1) := by decide +kernel
theorem dX9_write_49 : decode cX9_write 49 = .ok (.aload_n 0, 1) := by decide +kernel
theorem dX9_write_50 : decode cX9_write 50 = .ok (.getfield 16, 3) := by decide +kernel
theorem dX9_write_53 : decode cX9_write 53 = .ok (.bipush 60, 2) := by decide +kernel
theorem dX9_write_55 : decode cX9_write 55 = .ok (.iload_n 1, 1) := by decide +kernel
theorem dX9_write_56 : decode cX9_write 56 = .ok (.imul, 1) := by decide +kernel
theorem dX9_write_57 : decode cX9_write 57 = .ok (.iload_n 2, 1) := by decide +kernel
theorem dX9_write_58 : decode cX9_write 58 = .ok (.iadd, 1) := by decide +kernel
theorem dX9_write_59 : decode cX9_write 59 = .ok (.lload_n 3, 1) := by decide +kernel
theorem dX9_write_60 : decode cX9_write 60 = .ok (.aload_n 0, 1) := by decide +kernel
theorem dX9_write_61 : decode cX9_write 61 = .ok (.getfield 7, 3) := by decide +kernel
theorem dX9_write_64 : decode cX9_write 64 = .ok (.iload_n 1, 1) := by decide +kernel
theorem dX9_write_65 : decode cX9_write 65 = .ok (.iaload, 1) := by decide +kernel
theorem dX9_write_66 : decode cX9_write 66 = .ok (.invokestatic 142, 3) := by decide +kernel
theorem dX9_write_69 : decode cX9_write 69 = .ok (.lastore, 1) := by decide +kernel
theorem dX9_write_70 : decode cX9_write 70 = .ok (.iconst 0, 1) := by decide +kernel
theorem dX9_write_71 : decode cX9_write 71 = .ok (.ireturn, 1) := by decide +kernel
set_option maxHeartbeats 4000000 in
set_option maxRecDepth 100000 in
theorem m_X9_write (l : Launch) (D : va_G) (cy : Nat → ClassId) (g : Nat → Nat) (σ : ST) (p1 : Int32) (p2 : Int32) (p3 : Int64) (sz : Nat) (hJ : J9 (σ 9))  : Met l yX9_write (ww yX9_write cX9_write 5 (some .int)) ({ frames := 3, cells := 0, slots := 0, locals := 192 }) (va_Pc [.ref (g 60), .int p1, .int p2, .long p3] (pr9 D cy g σ sz)) (qi9 D cy g sz (fun r τ => Fr (fL [0, 3]) σ τ ∧ J9 (τ 9) ∧ ((¬ (0 ≤ p1.toInt ∧ p1.toInt ≤ 3) ∧ r.toInt = -2) ∨ ((0 ≤ p1.toInt ∧ p1.toInt ≤ 3) ∧ ((σ 9).2.2.1 1 (p1.toInt.toNat)).toInt = -1 ∧ r.toInt = -6) ∨ ((0 ≤ p1.toInt ∧ p1.toInt ≤ 3) ∧ ¬ ((σ 9).2.2.1 1 (p1.toInt.toNat)).toInt = -1 ∧ ¬ (0 ≤ p2.toInt ∧ p2.toInt < ((σ 9).2.2.1 2 (p1.toInt.toNat)).toInt) ∧ r.toInt = -7) ∨ ((0 ≤ p1.toInt ∧ p1.toInt ≤ 3) ∧ ¬ ((σ 9).2.2.1 1 (p1.toInt.toNat)).toInt = -1 ∧ 0 ≤ p2.toInt ∧ p2.toInt < ((σ 9).2.2.1 2 (p1.toInt.toNat)).toInt ∧ r.toInt = 0)) ∧ True)) 0 0 (A9 cy g sz) := by
  refine Met.ofW (cc := cX9_write) (maxL := 5) (ret := (some .int)) (by decide) rfl ?_
  intro p e s m args below meth c s₁ B hml hv
  obtain ⟨rfl, hsz, hP, hK, hD0, hC⟩ := hv
  have hx := B.exec
  have hb := B.bytes
  have hr := B.returns
  have hts := hts_g (atoms_spec (ws := ww yX9_write cX9_write 5 (some .int)) B.pre)
  have hown : s.vm.findClass RX9 = some m.cls := findClass_of_methodNamed B.named
  have hlocks := B.notSynchronized
  clear B
  subst hsz
  have hD := fun τ => A9_D (sz := s.heap.size) hD0 τ
  clear hD0
  have hS : va_S (A9 cy g s.heap.size) s.heap s.heap [] := va_S.rf
  have hl := lv_entry ([.ref (g 60), .int p1, .int p2, .long p3]) (n := 5) (Nat.le_of_ble_eq_true rfl)
  rw [lg_entry_eq]
  generalize (lg_sl ([.ref (g 60), .int p1, .int p2, .long p3]) ++ List.replicate (5 - (lg_sl ([.ref (g 60), .int p1, .int p2, .long p3])).length) Slot.unset).toArray = ls at hl ⊢
  have hl : lv_has ls 5 [(0, .ref (g 60)), (1, .int p1), (2, .int p2), (3, .long p3)] := hl
  refine lv_aload_n hx hb dX9_write_0 rfl (lv_at hl 0 rfl) ?_
  refine lv_iconst (v := 0) hx hb dX9_write_1 (by decide) ?_
  refine p9_0 hx hb hts hown hK hP hD hS (hts _ q1360) dX9_write_2 (fun H locs σ1 eσ1 hP hS => ?_)
  have hJ2 : J9 (σ1 9) := hJ.I eσ1 (show JI9 0 (0 : Int32) from trivial)
  refine lv_iload_n hx hb dX9_write_5 rfl (lv_at hl 1 rfl) ?_
  refine va_calli (va_runS (As := [.int p1]) (rest := []) ⟨hx, hb, hml, hown, hts⟩ (m_X9_isSlot l D cy g σ1 p1 _ hJ2 ) (va_cwS 1 hts (gd_S q1546 q1547 q134 q1548) rfl rfl rfl (by decide +kernel) ⟨Nat.le_of_ble_eq_true rfl, Nat.le_of_ble_eq_true rfl⟩) (ps9 hP hK hD hC hS) rfl rfl hl.1 rfl (lv_room (Nat.le_of_ble_eq_true rfl)) dX9_write_6 ⟨Nat.le_of_ble_eq_true rfl, Nat.le_of_ble_eq_true rfl⟩) hS (fun q _ h => up9 hS q h) (up9 hS) (fun r3 σ4 tS H1 locs ht hvm hw5 hB hz1 hk1 hS => ?_)
  have hP : va_P D clz (WD9 cy g σ4) H1 := by rw [← ht]; exact hB
  clear hB hz1 hk1 hvm ht
  generalize H1 = H at hP hS ⊢
  have hw5E : σ1 = σ4 := (hw5.1).symm
  subst hw5E
  have b6 : (0 : Int) ≤ r3.toInt ∧ r3.toInt ≤ 1 := hw5.2.1
  have b7 : (r3.toInt = 0) ∨ ((0 : Int) ≤ p1.toInt ∧ p1.toInt ≤ 3) := hw5.2.2.1
  have b8 : r3.toInt = 1 ∨ p1.toInt < 0 ∨ 3 < p1.toInt := hw5.2.2.2.1
  refine lv_if_ne (tgt := 15) hx hb dX9_write_9 (by decide) (fun c9 => ?_) (fun c9 => ?_)
  ·
    have k10 := neq32 c9
    refine lv_aload_n hx hb dX9_write_15 rfl (lv_at hl 0 rfl) ?_
    refine g9_1 hx hb hts hown hK hP (hts _ q1361) dX9_write_16 ?_
    refine lv_iload_n hx hb dX9_write_19 rfl (lv_at hl 1 rfl) ?_
    obtain ⟨x11, ex11⟩ : ∃ z, (σ 9).2.2.1 1 p1.toInt.toNat = z := ⟨_, rfl⟩
    refine l9_1 (x := x11) hx hb hK hP (vpo (by have f0 := b7; have f1 := b8; have f2 := b6; have f3 := k10; have g0 := rg32 p1; have z0 : (0 : Int32).toInt = 0 := (by decide); omega)) ((congrFun (((sI_f eσ1) 9 1 rfl).2.2.1) _).trans ex11) dX9_write_20 ?_
    refine lv_iconst (v := (-1)) hx hb dX9_write_21 (by decide) ?_
    refine lv_icmp_ne (tgt := 28) hx hb dX9_write_22 (by decide) (fun c12 => ?_) (fun c12 => ?_)
    ·
      have k13 := neq32 c12
      refine lv_iload_n hx hb dX9_write_28 rfl (lv_at hl 2 rfl) ?_
      refine lv_i2l (v := p2.toInt64) hx hb dX9_write_29 rfl ?_
      refine lv_lconst (v := 0) hx hb dX9_write_30 (by decide) ?_
      refine lv_aload_n hx hb dX9_write_31 rfl (lv_at hl 0 rfl) ?_
      refine g9_2 hx hb hts hown hK hP (hts _ q1362) dX9_write_32 ?_
      refine lv_iload_n hx hb dX9_write_35 rfl (lv_at hl 1 rfl) ?_
      obtain ⟨x14, ex14⟩ : ∃ z, (σ 9).2.2.1 2 p1.toInt.toNat = z := ⟨_, rfl⟩
      refine l9_2 (x := x14) hx hb hK hP (vpo (by have f0 := b7; have f1 := b8; have f2 := b6; have f3 := k10; have g0 := rg32 p1; have z0 : (0 : Int32).toInt = 0 := (by decide); omega)) ((congrFun (((sI_f eσ1) 9 2 rfl).2.2.1) _).trans ex14) dX9_write_36 ?_
      have t15 := a9_2 hJ ex14
      refine lv_iconst (v := 1) hx hb dX9_write_37 (by decide) ?_
      refine lv_isub hx hb dX9_write_38 ?_
      refine lv_topi (fun x16 ex16 => ?_)
      have t17 := subO ex16 (by have f0 := t15; have f1 := b7; have f2 := b8; have f3 := b6; have f4 := k10; have g0 := rg32 x14; have z0 : (0 : Int32).toInt = 0 := (by decide); have z1 : (1 : Int32).toInt = 1 := (by decide); omega)
      refine lv_i2l (v := x16.toInt64) hx hb dX9_write_39 rfl ?_
      refine va_calli (va_runS (As := [.long p2.toInt64, .long 0, .long x16.toInt64]) (rest := []) ⟨hx, hb, hml, hown, hts⟩ (m_X9_in l D cy g σ1 p2.toInt64 (0) x16.toInt64 _ hJ2 ) (va_cwS 3 hts (gd_S q1550 q1551 q134 q1552) rfl rfl rfl (by decide +kernel) ⟨Nat.le_of_ble_eq_true rfl, Nat.le_of_ble_eq_true rfl⟩) (ps9 hP hK hD hC hS) rfl rfl hl.1 rfl (lv_room (Nat.le_of_ble_eq_true rfl)) dX9_write_40 ⟨Nat.le_of_ble_eq_true rfl, Nat.le_of_ble_eq_true rfl⟩) hS (fun q _ h => up9 hS q h) (up9 hS) (fun r18 σ19 tS H1 locs ht hvm hw20 hB hz1 hk1 hS => ?_)
      have hP : va_P D clz (WD9 cy g σ19) H1 := by rw [← ht]; exact hB
      clear hB hz1 hk1 hvm ht
      generalize H1 = H at hP hS ⊢
      have hw20E : σ1 = σ19 := (hw20.1).symm
      subst hw20E
      have b21 : (0 : Int) ≤ r18.toInt ∧ r18.toInt ≤ 1 := hw20.2.1
      have b22 : (r18.toInt = 1 ∧ (0 : Int64).toInt ≤ p2.toInt64.toInt ∧ p2.toInt64.toInt ≤ x16.toInt64.toInt) ∨ (r18.toInt = 0 ∧ ¬ ((0 : Int64).toInt ≤ p2.toInt64.toInt ∧ p2.toInt64.toInt ≤ x16.toInt64.toInt)) := hw20.2.2.1
      refine lv_if_ne (tgt := 49) hx hb dX9_write_43 (by decide) (fun c23 => ?_) (fun c23 => ?_)
      ·
        have k24 := neq32 c23
        refine lv_aload_n hx hb dX9_write_49 rfl (lv_at hl 0 rfl) ?_
        refine g9_3 hx hb hts hown hK hP (hts _ q1363) dX9_write_50 ?_
        refine lv_bipush (v := 60) hx hb dX9_write_53 (by decide) ?_
        refine lv_iload_n hx hb dX9_write_55 rfl (lv_at hl 1 rfl) ?_
        refine lv_imul hx hb dX9_write_56 ?_
        refine lv_topi (fun x25 ex25 => ?_)
        have t26 := mulC' (n := 60) ex25 (by decide) (by have f0 := b7; have f1 := b8; have f2 := t15; have f3 := b6; have f4 := k10; have f5 := t17; have f6 := t64 (a := x16); have f7 := rg32 x16; have f8 := b22; have f9 := t64 (a := p2); have f10 := b21; have f11 := k24; have f12 := rg32 p2; have g0 := rg32 p1; have z0 : (0 : Int32).toInt = 0 := (by decide); have zl0 : (0 : Int64).toInt = 0 := (by decide); have z1 : (1 : Int32).toInt = 1 := (by decide); have w17 := t64 (a := p2); have w18 := t64 (a := x16); omega)
        refine lv_iload_n hx hb dX9_write_57 rfl (lv_at hl 2 rfl) ?_
        refine lv_iadd hx hb dX9_write_58 ?_
        refine lv_topi (fun x27 ex27 => ?_)
        have t28 := addO ex27 (by have f0 := t64 (a := p2); have f1 := rg32 p2; have f2 := t26; have f3 := b7; have f4 := b8; have f5 := t15; have f6 := b22; have f7 := b6; have f8 := k10; have f9 := t17; have f10 := t64 (a := x16); have f11 := b21; have f12 := k24; have f13 := rg32 x16; have g0 := rg32 p2; have g2 := rg32 x25; have z0 : (0 : Int32).toInt = 0 := (by decide); have zl0 : (0 : Int64).toInt = 0 := (by decide); have z1 : (1 : Int32).toInt = 1 := (by decide); have w19 := t64 (a := p2); have w20 := t64 (a := x16); omega)
        refine lv_lload_n hx hb dX9_write_59 rfl (lv_at hl 3 rfl) ?_
        refine lv_aload_n hx hb dX9_write_60 rfl (lv_at hl 0 rfl) ?_
        refine g9_1 hx hb hts hown hK hP (hts _ q1361) dX9_write_61 ?_
        refine lv_iload_n hx hb dX9_write_64 rfl (lv_at hl 1 rfl) ?_
        refine l9_1 (x := x11) hx hb hK hP (vpo (by have f0 := b7; have f1 := b8; have f2 := t15; have f3 := t26; have f4 := b6; have f5 := k10; have f6 := t17; have f7 := t28; have f8 := t64 (a := p2); have f9 := rg32 p2; have f10 := t64 (a := x16); have f11 := rg32 x16; have f12 := b22; have f13 := b21; have f14 := k24; have g0 := rg32 p1; have z0 : (0 : Int32).toInt = 0 := (by decide); have zl0 : (0 : Int64).toInt = 0 := (by decide); have z1 : (1 : Int32).toInt = 1 := (by decide); have w19 := t64 (a := p2); have w20 := t64 (a := x16); omega)) ((congrFun (((sI_f eσ1) 9 1 rfl).2.2.1) _).trans ex11) dX9_write_65 ?_
        refine va_calll (va_runS (As := [.long p3, .int x11]) (rest := [.int x27, .ref (g 3)]) ⟨hx, hb, hml, hown, hts⟩ (m_X9_cut l D cy g σ1 p3 x11 _ hJ2 ) (va_cwS 2 hts (gd_S q1557 q1558 q134 q1559) rfl rfl rfl (by decide +kernel) ⟨Nat.le_of_ble_eq_true rfl, Nat.le_of_ble_eq_true rfl⟩) (ps9 hP hK hD hC hS) rfl rfl hl.1 rfl (lv_room (Nat.le_of_ble_eq_true rfl)) dX9_write_66 ⟨Nat.le_of_ble_eq_true rfl, Nat.le_of_ble_eq_true rfl⟩) hS (fun q _ h => up9 hS q h) (up9 hS) (fun r29 σ30 tS H1 locs ht hvm hw31 hB hz1 hk1 hS => ?_)
        have hP : va_P D clz (WD9 cy g σ30) H1 := by rw [← ht]; exact hB
        clear hB hz1 hk1 hvm ht
        generalize H1 = H at hP hS ⊢
        have hw31E : σ1 = σ30 := (hw31.1).symm
        subst hw31E
        refine t9_3 hx hb hK hP hD hS (vpo (by have f0 := t28; have f1 := t64 (a := p2); have f2 := rg32 p2; have f3 := t26; have f4 := b7; have f5 := b8; have f6 := t15; have f7 := b22; have f8 := b6; have f9 := k10; have f10 := t17; have f11 := t64 (a := x16); have f12 := b21; have f13 := k24; have f14 := rg32 x16; have g1 := rg32 x27; have z0 : (0 : Int32).toInt = 0 := (by decide); have zl0 : (0 : Int64).toInt = 0 := (by decide); have z1 : (1 : Int32).toInt = 1 := (by decide); have w19 := t64 (a := p2); have w20 := t64 (a := x16); omega)) dX9_write_69 (fun H locs σ32 eσ32 hP hS => ?_)
        have hJ33 : J9 (σ32 9) := hJ2.B eσ32
        refine lv_iconst (v := 0) hx hb dX9_write_70 (by decide) ?_
        exact W.iret (v := 0) hx hb hr (fun tS ht hW => ⟨⟨0, σ32, rfl, ⟨Fr.tr (Fr.tr (Fr.rf) (sI_f eσ1) (fN_L rfl)) (sB_f eσ32) (fN_L rfl), hJ33, (show (¬ (0 ≤ p1.toInt ∧ p1.toInt ≤ 3) ∧ (0 : Int32).toInt = -2) ∨ ((0 ≤ p1.toInt ∧ p1.toInt ≤ 3) ∧ ((σ 9).2.2.1 1 (p1.toInt.toNat)).toInt = -1 ∧ (0 : Int32).toInt = -6) ∨ ((0 ≤ p1.toInt ∧ p1.toInt ≤ 3) ∧ ¬ ((σ 9).2.2.1 1 (p1.toInt.toNat)).toInt = -1 ∧ ¬ (0 ≤ p2.toInt ∧ p2.toInt < ((σ 9).2.2.1 2 (p1.toInt.toNat)).toInt) ∧ (0 : Int32).toInt = -7) ∨ ((0 ≤ p1.toInt ∧ p1.toInt ≤ 3) ∧ ¬ ((σ 9).2.2.1 1 (p1.toInt.toNat)).toInt = -1 ∧ 0 ≤ p2.toInt ∧ p2.toInt < ((σ 9).2.2.1 2 (p1.toInt.toNat)).toInt ∧ (0 : Int32).toInt = 0) from (by rw [ex11, ex14]; have f0 := b7; have f1 := b8; have f2 := k13; have f3 := t64 (a := p2); have f4 := rg32 p2; have f5 := t15; have f6 := t17; have f7 := t26; have f8 := t28; have f9 := b6; have f10 := k10; have f11 := t64 (a := x16); have f12 := rg32 x16; have f13 := b22; have f14 := b21; have f15 := k24; have g2 := rg32 p1; have g3 := rg32 p2; have g4 := rg32 x11; have g5 := rg32 x14; have zm1 : ((-1) : Int32).toInt = (-1) := (by decide); have z0 : (0 : Int32).toInt = 0 := (by decide); have zl0 : (0 : Int64).toInt = 0 := (by decide); have z1 : (1 : Int32).toInt = 1 := (by decide); have w24 := t64 (a := p2); have w25 := t64 (a := x16); exact (Or.inr (Or.inr (Or.inr (by omega)))))), trivial⟩, (show va_P D clz (WD9 cy g σ32) tS.heap by rw [ht]; exact hP)⟩, hS.F ht⟩) hS.2.2 dX9_write_71
      ·
        have k34 := peq32 c23
        refine lv_bipush (v := (-7)) hx hb dX9_write_46 (by decide) ?_
        exact W.iret (v := (-7)) hx hb hr (fun tS ht hW => ⟨⟨(-7), σ1, rfl, ⟨Fr.tr (Fr.rf) (sI_f eσ1) (fN_L rfl), hJ2, (show (¬ (0 ≤ p1.toInt ∧ p1.toInt ≤ 3) ∧ ((-7) : Int32).toInt = -2) ∨ ((0 ≤ p1.toInt ∧ p1.toInt ≤ 3) ∧ ((σ 9).2.2.1 1 (p1.toInt.toNat)).toInt = -1 ∧ ((-7) : Int32).toInt = -6) ∨ ((0 ≤ p1.toInt ∧ p1.toInt ≤ 3) ∧ ¬ ((σ 9).2.2.1 1 (p1.toInt.toNat)).toInt = -1 ∧ ¬ (0 ≤ p2.toInt ∧ p2.toInt < ((σ 9).2.2.1 2 (p1.toInt.toNat)).toInt) ∧ ((-7) : Int32).toInt = -7) ∨ ((0 ≤ p1.toInt ∧ p1.toInt ≤ 3) ∧ ¬ ((σ 9).2.2.1 1 (p1.toInt.toNat)).toInt = -1 ∧ 0 ≤ p2.toInt ∧ p2.toInt < ((σ 9).2.2.1 2 (p1.toInt.toNat)).toInt ∧ ((-7) : Int32).toInt = 0) from (by rw [ex11, ex14]; have f0 := b7; have f1 := b8; have f2 := k13; have f3 := t64 (a := p2); have f4 := rg32 p2; have f5 := t15; have f6 := t17; have f7 := b6; have f8 := k10; have f9 := t64 (a := x16); have f10 := rg32 x16; have f11 := b22; have f12 := b21; have f13 := k34; have g2 := rg32 p1; have g3 := rg32 p2; have g5 := rg32 x11; have g6 := rg32 x14; have zm7 : ((-7) : Int32).toInt = (-7) := (by decide); have zm1 : ((-1) : Int32).toInt = (-1) := (by decide); have z0 : (0 : Int32).toInt = 0 := (by decide); have zl0 : (0 : Int64).toInt = 0 := (by decide); have z1 : (1 : Int32).toInt = 1 := (by decide); have w23 := t64 (a := p2); have w24 := t64 (a := x16); exact (Or.inr (Or.inr (Or.inl (by omega)))))), trivial⟩, (show va_P D clz (WD9 cy g σ1) tS.heap by rw [ht]; exact hP)⟩, hS.F ht⟩) hS.2.2 dX9_write_48
    ·
      have k35 := peq32 c12
      refine lv_bipush (v := (-6)) hx hb dX9_write_25 (by decide) ?_
      exact W.iret (v := (-6)) hx hb hr (fun tS ht hW => ⟨⟨(-6), σ1, rfl, ⟨Fr.tr (Fr.rf) (sI_f eσ1) (fN_L rfl), hJ2, (show (¬ (0 ≤ p1.toInt ∧ p1.toInt ≤ 3) ∧ ((-6) : Int32).toInt = -2) ∨ ((0 ≤ p1.toInt ∧ p1.toInt ≤ 3) ∧ ((σ 9).2.2.1 1 (p1.toInt.toNat)).toInt = -1 ∧ ((-6) : Int32).toInt = -6) ∨ ((0 ≤ p1.toInt ∧ p1.toInt ≤ 3) ∧ ¬ ((σ 9).2.2.1 1 (p1.toInt.toNat)).toInt = -1 ∧ ¬ (0 ≤ p2.toInt ∧ p2.toInt < ((σ 9).2.2.1 2 (p1.toInt.toNat)).toInt) ∧ ((-6) : Int32).toInt = -7) ∨ ((0 ≤ p1.toInt ∧ p1.toInt ≤ 3) ∧ ¬ ((σ 9).2.2.1 1 (p1.toInt.toNat)).toInt = -1 ∧ 0 ≤ p2.toInt ∧ p2.toInt < ((σ 9).2.2.1 2 (p1.toInt.toNat)).toInt ∧ ((-6) : Int32).toInt = 0) from (by rw [ex11]; have f0 := b7; have f1 := b8; have f2 := k35; have f3 := b6; have f4 := k10; have g2 := rg32 p1; have g3 := rg32 p2; have g4 := rg32 x11; have zm6 : ((-6) : Int32).toInt = (-6) := (by decide); have zm1 : ((-1) : Int32).toInt = (-1) := (by decide); have z0 : (0 : Int32).toInt = 0 := (by decide); exact (Or.inr (Or.inl (by omega))))), trivial⟩, (show va_P D clz (WD9 cy g σ1) tS.heap by rw [ht]; exact hP)⟩, hS.F ht⟩) hS.2.2 dX9_write_27
  ·
    have k36 := peq32 c9
    refine lv_bipush (v := (-2)) hx hb dX9_write_12 (by decide) ?_
    exact W.iret (v := (-2)) hx hb hr (fun tS ht hW => ⟨⟨(-2), σ1, rfl, ⟨Fr.tr (Fr.rf) (sI_f eσ1) (fN_L rfl), hJ2, (show (¬ (0 ≤ p1.toInt ∧ p1.toInt ≤ 3) ∧ ((-2) : Int32).toInt = -2) ∨ ((0 ≤ p1.toInt ∧ p1.toInt ≤ 3) ∧ ((σ 9).2.2.1 1 (p1.toInt.toNat)).toInt = -1 ∧ ((-2) : Int32).toInt = -6) ∨ ((0 ≤ p1.toInt ∧ p1.toInt ≤ 3) ∧ ¬ ((σ 9).2.2.1 1 (p1.toInt.toNat)).toInt = -1 ∧ ¬ (0 ≤ p2.toInt ∧ p2.toInt < ((σ 9).2.2.1 2 (p1.toInt.toNat)).toInt) ∧ ((-2) : Int32).toInt = -7) ∨ ((0 ≤ p1.toInt ∧ p1.toInt ≤ 3) ∧ ¬ ((σ 9).2.2.1 1 (p1.toInt.toNat)).toInt = -1 ∧ 0 ≤ p2.toInt ∧ p2.toInt < ((σ 9).2.2.1 2 (p1.toInt.toNat)).toInt ∧ ((-2) : Int32).toInt = 0) from (by have f0 := b7; have f1 := b8; have f2 := b6; have f3 := k36; have g2 := rg32 p1; have g3 := rg32 p2; have zm2 : ((-2) : Int32).toInt = (-2) := (by decide); have z0 : (0 : Int32).toInt = 0 := (by decide); exact (Or.inl (by omega)))), trivial⟩, (show va_P D clz (WD9 cy g σ1) tS.heap by rw [ht]; exact hP)⟩, hS.F ht⟩) hS.2.2 dX9_write_14

theorem q1563 : Cond.code yX9_paste cX9_paste 7 (some .int) ∈ lw_g := lw_gm (List.mem_of_getElem? (i := 1563) (by decide +kernel)) rfl
theorem q1364 : Cond.fieldLink RX9 20 "LipsAndSlidesModel" "moved" "[J" ∈ lw_g := lw_gm (List.mem_of_getElem? (i := 1364) (by decide +kernel)) rfl
theorem dX9_paste_0 : decode cX9_paste 0 = .ok (.aload_n 0, 1) := by decide +kernel
theorem dX9_paste_1 : decode cX9_paste 1 = .ok (.iconst 0, 1) := by decide +kernel
theorem dX9_paste_2 : decode cX9_paste 2 = .ok (.putfield 129, 3) := by decide +kernel
theorem dX9_paste_5 : decode cX9_paste 5 = .ok (.iload_n 1, 1) := by decide +kernel
theorem dX9_paste_6 : decode cX9_paste 6 = .ok (.invokestatic 138, 3) := by decide +kernel
theorem dX9_paste_9 : decode cX9_paste 9 = .ok (.ifCond .eq 10, 3) := by decide +kernel
theorem dX9_paste_12 : decode cX9_paste 12 = .ok (.iload_n 3, 1) := by decide +kernel
theorem dX9_paste_13 : decode cX9_paste 13 = .ok (.invokestatic 138, 3) := by decide +kernel
theorem dX9_paste_16 : decode cX9_paste 16 = .ok (.ifCond .ne 6, 3) := by decide +kernel
theorem dX9_paste_19 : decode cX9_paste 19 = .ok (.bipush (-2), 2) := by decide +kernel
theorem dX9_paste_21 : decode cX9_paste 21 = .ok (.ireturn, 1) := by decide +kernel
theorem dX9_paste_22 : decode cX9_paste 22 = .ok (.aload_n 0, 1) := by decide +kernel
theorem dX9_paste_23 : decode cX9_paste 23 = .ok (.getfield 7, 3) := by decide +kernel
theorem dX9_paste_26 : decode cX9_paste 26 = .ok (.iload_n 1, 1) := by decide +kernel
theorem dX9_paste_27 : decode cX9_paste 27 = .ok (.iaload, 1) := by decide +kernel
theorem dX9_paste_28 : decode cX9_paste 28 = .ok (.iconst (-1), 1) := by decide +kernel
theorem dX9_paste_29 : decode cX9_paste 29 = .ok (.if_icmp .eq 13, 3) := by decide +kernel
theorem dX9_paste_32 : decode cX9_paste 32 = .ok (.aload_n 0, 1) := by decide +kernel
theorem dX9_paste_33 : decode cX9_paste 33 = .ok (.getfield 7, 3) := by decide +kernel
theorem dX9_paste_36 : decode cX9_paste 36 = .ok (.iload_n 3, 1) := by decide +kernel
theorem dX9_paste_37 : decode cX9_paste 37 = .ok (.iaload, 1) := by decide +kernel
theorem dX9_paste_38 : decode cX9_paste 38 = .ok (.iconst (-1), 1) := by decide +kernel
theorem dX9_paste_39 : decode cX9_paste 39 = .ok (.if_icmp .ne 6, 3) := by decide +kernel
theorem dX9_paste_42 : decode cX9_paste 42 = .ok (.bipush (-6), 2) := by decide +kernel
theorem dX9_paste_44 : decode cX9_paste 44 = .ok (.ireturn, 1) := by decide +kernel
theorem dX9_paste_45 : decode cX9_paste 45 = .ok (.aload_n 0, 1) := by decide +kernel
theorem dX9_paste_46 : decode cX9_paste 46 = .ok (.getfield 7, 3) := by decide +kernel
theorem dX9_paste_49 : decode cX9_paste 49 = .ok (.iload_n 1, 1) := by decide +kernel
theorem dX9_paste_50 : decode cX9_paste 50 = .ok (.iaload, 1) := by decide +kernel
theorem dX9_paste_51 : decode cX9_paste 51 = .ok (.aload_n 0, 1) := by decide +kernel
theorem dX9_paste_52 : decode cX9_paste 52 = .ok (.getfield 7, 3) := by decide +kernel
theorem dX9_paste_55 : decode cX9_paste 55 = .ok (.iload_n 3, 1) := by decide +kernel
theorem dX9_paste_56 : decode cX9_paste 56 = .ok (.iaload, 1) := by decide +kernel
theorem dX9_paste_57 : decode cX9_paste 57 = .ok (.if_icmp .eq 6, 3) := by decide +kernel
theorem dX9_paste_60 : decode cX9_paste 60 = .ok (.bipush (-8), 2) := by decide +kernel
theorem dX9_paste_62 : decode cX9_paste 62 = .ok (.ireturn, 1) := by decide +kernel
theorem dX9_paste_63 : decode cX9_paste 63 = .ok (.iload_n 2, 1) := by decide +kernel
theorem dX9_paste_64 : decode cX9_paste 64 = .ok (.ifCond .lt 48, 3) := by decide +kernel
theorem dX9_paste_67 : decode cX9_paste 67 = .ok (.iload 4, 2) := by decide +kernel
theorem dX9_paste_69 : decode cX9_paste 69 = .ok (.ifCond .lt 43, 3) := by decide +kernel
theorem dX9_paste_72 : decode cX9_paste 72 = .ok (.iload 5, 2) := by decide +kernel
theorem dX9_paste_74 : decode cX9_paste 74 = .ok (.ifCond .lt 38, 3) := by decide +kernel
theorem dX9_paste_77 : decode cX9_paste 77 = .ok (.iload_n 2, 1) := by decide +kernel
theorem dX9_paste_78 : decode cX9_paste 78 = .ok (.i2l, 1) := by decide +kernel
theorem dX9_paste_79 : decode cX9_paste 79 = .ok (.iload 5, 2) := by decide +kernel
theorem dX9_paste_81 : decode cX9_paste 81 = .ok (.i2l, 1) := by decide +kernel
theorem dX9_paste_82 : decode cX9_paste 82 = .ok (.ladd, 1) := by decide +kernel
theorem dX9_paste_83 : decode cX9_paste 83 = .ok (.aload_n 0, 1) := by decide +kernel
theorem dX9_paste_84 : decode cX9_paste 84 = .ok (.getfield 13, 3) := by decide +kernel
theorem dX9_paste_87 : decode cX9_paste 87 = .ok (.iload_n 1, 1) := by decide +kernel
theorem dX9_paste_88 : decode cX9_paste 88 = .ok (.iaload, 1) := by decide +kernel
theorem dX9_paste_89 : decode cX9_paste 89 = .ok (.i2l, 1) := by decide +kernel
theorem dX9_paste_90 : decode cX9_paste 90 = .ok (.lcmp, 1) := by decide +kernel
theorem dX9_paste_91 : decode cX9_paste 91 = .ok (.ifCond .gt 21, 3) := by decide +kernel
theorem dX9_paste_94 : decode cX9_paste 94 = .ok (.iload 4, 2) := by decide +kernel
theorem dX9_paste_96 : decode cX9_paste 96 = .ok (.i2l, 1) := by decide +kernel
theorem dX9_paste_97 : decode cX9_paste 97 = .ok (.iload 5, 2) := by decide +kernel
theorem dX9_paste_99 : decode cX9_paste 99 = .ok (.i2l, 1) := by decide +kernel
theorem dX9_paste_100 : decode cX9_paste 100 = .ok (.ladd, 1) := by decide +kernel
theorem dX9_paste_101 : decode cX9_paste 101 = .ok (.aload_n 0, 1) := by decide +kernel
theorem dX9_paste_102 : decode cX9_paste 102 = .ok (.getfield 13, 3) := by decide +kernel
theorem dX9_paste_105 : decode cX9_paste 105 = .ok (.iload_n 3, 1) := by decide +kernel
theorem dX9_paste_106 : decode cX9_paste 106 = .ok (.iaload, 1) := by decide +kernel
theorem dX9_paste_107 : decode cX9_paste 107 = .ok (.i2l, 1) := by decide +kernel
theorem dX9_paste_108 : decode cX9_paste 108 = .ok (.lcmp, 1) := by decide +kernel
theorem dX9_paste_109 : decode cX9_paste 109 = .ok (.ifCond .le 6, 3) := by decide +kernel
theorem dX9_paste_112 : decode cX9_paste 112 = .ok (.bipush (-7), 2) := by decide +kernel
theorem dX9_paste_114 : decode cX9_paste 114 = .ok (.ireturn, 1) := by decide +kernel
theorem dX9_paste_115 : decode cX9_paste 115 = .ok (.iconst 0, 1) := by decide +kernel
theorem dX9_paste_116 : decode cX9_paste 116 = .ok (.istore 6, 2) := by decide +kernel
theorem dX9_paste_118 : decode cX9_paste 118 = .ok (.iload 6, 2) := by decide +kernel
theorem dX9_paste_120 : decode cX9_paste 120 = .ok (.iload 5, 2) := by decide +kernel
theorem dX9_paste_122 : decode cX9_paste 122 = .ok (.if_icmp .ge 30, 3) := by decide +kernel
theorem dX9_paste_125 : decode cX9_paste 125 = .ok (.aload_n 0, 1) := by decide +kernel
theorem dX9_paste_126 : decode cX9_paste 126 = .ok (.getfield 20, 3) := by decide +kernel
theorem dX9_paste_129 : decode cX9_paste 129 = .ok (.iload 6, 2) := by decide +kernel
theorem dX9_paste_131 : decode cX9_paste 131 = .ok (.aload_n 0, 1) := by decide +kernel
theorem dX9_paste_132 : decode cX9_paste 132 = .ok (.getfield 16, 3) := by decide +kernel
theorem dX9_paste_135 : decode cX9_paste 135 = .ok (.bipush 60, 2) := by decide +kernel
theorem dX9_paste_137 : decode cX9_paste 137 = .ok (.iload_n 1, 1) := by decide +kernel
theorem dX9_paste_138 : decode cX9_paste 138 = .ok (.imul, 1) := by decide +kernel
theorem dX9_paste_139 : decode cX9_paste 139 = .ok (.iload_n 2, 1) := by decide +kernel
theorem dX9_paste_140 : decode cX9_paste 140 = .ok (.iadd, 1) := by decide +kernel
theorem dX9_paste_141 : decode cX9_paste 141 = .ok (.iload 6, 2) := by decide +kernel
theorem dX9_paste_143 : decode cX9_paste 143 = .ok (.iadd, 1) := by decide +kernel
theorem dX9_paste_144 : decode cX9_paste 144 = .ok (.laload, 1) := by decide +kernel
theorem dX9_paste_145 : decode cX9_paste 145 = .ok (.lastore, 1) := by decide +kernel
theorem dX9_paste_146 : decode cX9_paste 146 = .ok (.iinc 6 1, 3) := by decide +kernel
theorem dX9_paste_149 : decode cX9_paste 149 = .ok (.goto (-31), 3) := by decide +kernel
theorem dX9_paste_152 : decode cX9_paste 152 = .ok (.iconst 0, 1) := by decide +kernel
theorem dX9_paste_153 : decode cX9_paste 153 = .ok (.istore 6, 2) := by decide +kernel
theorem dX9_paste_155 : decode cX9_paste 155 = .ok (.iload 6, 2) := by decide +kernel
theorem dX9_paste_157 : decode cX9_paste 157 = .ok (.iload 5, 2) := by decide +kernel
theorem dX9_paste_159 : decode cX9_paste 159 = .ok (.if_icmp .ge 31, 3) := by decide +kernel
theorem dX9_paste_162 : decode cX9_paste 162 = .ok (.aload_n 0, 1) := by decide +kernel
theorem dX9_paste_163 : decode cX9_paste 163 = .ok (.getfield 16, 3) := by decide +kernel
theorem dX9_paste_166 : decode cX9_paste 166 = .ok (.bipush 60, 2) := by decide +kernel
theorem dX9_paste_168 : decode cX9_paste 168 = .ok (.iload_n 3, 1) := by decide +kernel
theorem dX9_paste_169 : decode cX9_paste 169 = .ok (.imul, 1) := by decide +kernel
theorem dX9_paste_170 : decode cX9_paste 170 = .ok (.iload 4, 2) := by decide +kernel
theorem dX9_paste_172 : decode cX9_paste 172 = .ok (.iadd, 1) := by decide +kernel
theorem dX9_paste_173 : decode cX9_paste 173 = .ok (.iload 6, 2) := by decide +kernel
theorem dX9_paste_175 : decode cX9_paste 175 = .ok (.iadd, 1) := by decide +kernel
theorem dX9_paste_176 : decode cX9_paste 176 = .ok (.aload_n 0, 1) := by decide +kernel
theorem dX9_paste_177 : decode cX9_paste 177 = .ok (.getfield 20, 3) := by decide +kernel
theorem dX9_paste_180 : decode cX9_paste 180 = .ok (.iload 6, 2) := by decide +kernel
theorem dX9_paste_182 : decode cX9_paste 182 = .ok (.laload, 1) := by decide +kernel
theorem dX9_paste_183 : decode cX9_paste 183 = .ok (.lastore, 1) := by decide +kernel
theorem dX9_paste_184 : decode cX9_paste 184 = .ok (.iinc 6 1, 3) := by decide +kernel
theorem dX9_paste_187 : decode cX9_paste 187 = .ok (.goto (-32), 3) := by decide +kernel
theorem dX9_paste_190 : decode cX9_paste 190 = .ok (.iconst 0, 1) := by decide +kernel
theorem dX9_paste_191 : decode cX9_paste 191 = .ok (.ireturn, 1) := by decide +kernel
set_option maxHeartbeats 4000000 in
set_option maxRecDepth 100000 in
theorem m_X9_paste (l : Launch) (D : va_G) (cy : Nat → ClassId) (g : Nat → Nat) (σ : ST) (p1 : Int32) (p2 : Int32) (p3 : Int32) (p4 : Int32) (p5 : Int32) (sz : Nat) (hJ : J9 (σ 9))  : Met l yX9_paste (ww yX9_paste cX9_paste 7 (some .int)) ({ frames := 3, cells := 0, slots := 0, locals := 192 }) (va_Pc [.ref (g 60), .int p1, .int p2, .int p3, .int p4, .int p5] (pr9 D cy g σ sz)) (qi9 D cy g sz (fun r τ => Fr (fL [0, 3, 4]) σ τ ∧ J9 (τ 9) ∧ ((¬ (0 ≤ p1.toInt ∧ p1.toInt ≤ 3 ∧ 0 ≤ p3.toInt ∧ p3.toInt ≤ 3) ∧ r.toInt = -2) ∨ (0 ≤ p1.toInt ∧ p1.toInt ≤ 3 ∧ 0 ≤ p3.toInt ∧ p3.toInt ≤ 3 ∧ ¬ (¬ ((σ 9).2.2.1 1 (p1.toInt.toNat)).toInt = -1 ∧ ¬ ((σ 9).2.2.1 1 (p3.toInt.toNat)).toInt = -1) ∧ r.toInt = -6) ∨ (0 ≤ p1.toInt ∧ p1.toInt ≤ 3 ∧ 0 ≤ p3.toInt ∧ p3.toInt ≤ 3 ∧ ¬ ((σ 9).2.2.1 1 (p1.toInt.toNat)).toInt = -1 ∧ ¬ ((σ 9).2.2.1 1 (p3.toInt.toNat)).toInt = -1 ∧ ¬ ((σ 9).2.2.1 1 (p1.toInt.toNat)).toInt = ((σ 9).2.2.1 1 (p3.toInt.toNat)).toInt ∧ r.toInt = -8) ∨ (0 ≤ p1.toInt ∧ p1.toInt ≤ 3 ∧ 0 ≤ p3.toInt ∧ p3.toInt ≤ 3 ∧ ¬ ((σ 9).2.2.1 1 (p1.toInt.toNat)).toInt = -1 ∧ ¬ ((σ 9).2.2.1 1 (p3.toInt.toNat)).toInt = -1 ∧ ((σ 9).2.2.1 1 (p1.toInt.toNat)).toInt = ((σ 9).2.2.1 1 (p3.toInt.toNat)).toInt ∧ ¬ (0 ≤ p2.toInt ∧ 0 ≤ p4.toInt ∧ 0 ≤ p5.toInt ∧ p2.toInt + p5.toInt ≤ ((σ 9).2.2.1 2 (p1.toInt.toNat)).toInt ∧ p4.toInt + p5.toInt ≤ ((σ 9).2.2.1 2 (p3.toInt.toNat)).toInt) ∧ r.toInt = -7) ∨ (0 ≤ p1.toInt ∧ p1.toInt ≤ 3 ∧ 0 ≤ p3.toInt ∧ p3.toInt ≤ 3 ∧ ¬ ((σ 9).2.2.1 1 (p1.toInt.toNat)).toInt = -1 ∧ ¬ ((σ 9).2.2.1 1 (p3.toInt.toNat)).toInt = -1 ∧ ((σ 9).2.2.1 1 (p1.toInt.toNat)).toInt = ((σ 9).2.2.1 1 (p3.toInt.toNat)).toInt ∧ 0 ≤ p2.toInt ∧ 0 ≤ p4.toInt ∧ 0 ≤ p5.toInt ∧ p2.toInt + p5.toInt ≤ ((σ 9).2.2.1 2 (p1.toInt.toNat)).toInt ∧ p4.toInt + p5.toInt ≤ ((σ 9).2.2.1 2 (p3.toInt.toNat)).toInt ∧ r.toInt = 0)) ∧ True)) 0 0 (A9 cy g sz) := by
  refine Met.ofW (cc := cX9_paste) (maxL := 7) (ret := (some .int)) (by decide) rfl ?_
  intro p e s m args below meth c s₁ B hml hv
  obtain ⟨rfl, hsz, hP, hK, hD0, hC⟩ := hv
  have hx := B.exec
  have hb := B.bytes
  have hr := B.returns
  have hts := hts_g (atoms_spec (ws := ww yX9_paste cX9_paste 7 (some .int)) B.pre)
  have hown : s.vm.findClass RX9 = some m.cls := findClass_of_methodNamed B.named
  have hlocks := B.notSynchronized
  clear B
  subst hsz
  have hD := fun τ => A9_D (sz := s.heap.size) hD0 τ
  clear hD0
  have hS : va_S (A9 cy g s.heap.size) s.heap s.heap [] := va_S.rf
  have hl := lv_entry ([.ref (g 60), .int p1, .int p2, .int p3, .int p4, .int p5]) (n := 7) (Nat.le_of_ble_eq_true rfl)
  rw [lg_entry_eq]
  generalize (lg_sl ([.ref (g 60), .int p1, .int p2, .int p3, .int p4, .int p5]) ++ List.replicate (7 - (lg_sl ([.ref (g 60), .int p1, .int p2, .int p3, .int p4, .int p5])).length) Slot.unset).toArray = ls at hl ⊢
  have hl : lv_has ls 7 [(0, .ref (g 60)), (1, .int p1), (2, .int p2), (3, .int p3), (4, .int p4), (5, .int p5)] := hl
  refine lv_aload_n hx hb dX9_paste_0 rfl (lv_at hl 0 rfl) ?_
  refine lv_iconst (v := 0) hx hb dX9_paste_1 (by decide) ?_
  refine p9_0 hx hb hts hown hK hP hD hS (hts _ q1360) dX9_paste_2 (fun H locs σ1 eσ1 hP hS => ?_)
  have hJ2 : J9 (σ1 9) := hJ.I eσ1 (show JI9 0 (0 : Int32) from trivial)
  refine lv_iload_n hx hb dX9_paste_5 rfl (lv_at hl 1 rfl) ?_
  refine va_calli (va_runS (As := [.int p1]) (rest := []) ⟨hx, hb, hml, hown, hts⟩ (m_X9_isSlot l D cy g σ1 p1 _ hJ2 ) (va_cwS 1 hts (gd_S q1546 q1547 q134 q1548) rfl rfl rfl (by decide +kernel) ⟨Nat.le_of_ble_eq_true rfl, Nat.le_of_ble_eq_true rfl⟩) (ps9 hP hK hD hC hS) rfl rfl hl.1 rfl (lv_room (Nat.le_of_ble_eq_true rfl)) dX9_paste_6 ⟨Nat.le_of_ble_eq_true rfl, Nat.le_of_ble_eq_true rfl⟩) hS (fun q _ h => up9 hS q h) (up9 hS) (fun r3 σ4 tS H1 locs ht hvm hw5 hB hz1 hk1 hS => ?_)
  have hP : va_P D clz (WD9 cy g σ4) H1 := by rw [← ht]; exact hB
  clear hB hz1 hk1 hvm ht
  generalize H1 = H at hP hS ⊢
  have hw5E : σ1 = σ4 := (hw5.1).symm
  subst hw5E
  have b6 : (0 : Int) ≤ r3.toInt ∧ r3.toInt ≤ 1 := hw5.2.1
  have b7 : (r3.toInt = 0) ∨ ((0 : Int) ≤ p1.toInt ∧ p1.toInt ≤ 3) := hw5.2.2.1
  have b8 : r3.toInt = 1 ∨ p1.toInt < 0 ∨ 3 < p1.toInt := hw5.2.2.2.1
  refine lv_if_eq (tgt := 19) hx hb dX9_paste_9 (by decide) (fun c9 => ?_) (fun c9 => ?_)
  ·
    have k10 := peq32 c9
    refine lv_bipush (v := (-2)) hx hb dX9_paste_19 (by decide) ?_
    exact W.iret (v := (-2)) hx hb hr (fun tS ht hW => ⟨⟨(-2), σ1, rfl, ⟨Fr.tr (Fr.rf) (sI_f eσ1) (fN_L rfl), hJ2, (show (¬ (0 ≤ p1.toInt ∧ p1.toInt ≤ 3 ∧ 0 ≤ p3.toInt ∧ p3.toInt ≤ 3) ∧ ((-2) : Int32).toInt = -2) ∨ (0 ≤ p1.toInt ∧ p1.toInt ≤ 3 ∧ 0 ≤ p3.toInt ∧ p3.toInt ≤ 3 ∧ ¬ (¬ ((σ 9).2.2.1 1 (p1.toInt.toNat)).toInt = -1 ∧ ¬ ((σ 9).2.2.1 1 (p3.toInt.toNat)).toInt = -1) ∧ ((-2) : Int32).toInt = -6) ∨ (0 ≤ p1.toInt ∧ p1.toInt ≤ 3 ∧ 0 ≤ p3.toInt ∧ p3.toInt ≤ 3 ∧ ¬ ((σ 9).2.2.1 1 (p1.toInt.toNat)).toInt = -1 ∧ ¬ ((σ 9).2.2.1 1 (p3.toInt.toNat)).toInt = -1 ∧ ¬ ((σ 9).2.2.1 1 (p1.toInt.toNat)).toInt = ((σ 9).2.2.1 1 (p3.toInt.toNat)).toInt ∧ ((-2) : Int32).toInt = -8) ∨ (0 ≤ p1.toInt ∧ p1.toInt ≤ 3 ∧ 0 ≤ p3.toInt ∧ p3.toInt ≤ 3 ∧ ¬ ((σ 9).2.2.1 1 (p1.toInt.toNat)).toInt = -1 ∧ ¬ ((σ 9).2.2.1 1 (p3.toInt.toNat)).toInt = -1 ∧ ((σ 9).2.2.1 1 (p1.toInt.toNat)).toInt = ((σ 9).2.2.1 1 (p3.toInt.toNat)).toInt ∧ ¬ (0 ≤ p2.toInt ∧ 0 ≤ p4.toInt ∧ 0 ≤ p5.toInt ∧ p2.toInt + p5.toInt ≤ ((σ 9).2.2.1 2 (p1.toInt.toNat)).toInt ∧ p4.toInt + p5.toInt ≤ ((σ 9).2.2.1 2 (p3.toInt.toNat)).toInt) ∧ ((-2) : Int32).toInt = -7) ∨ (0 ≤ p1.toInt ∧ p1.toInt ≤ 3 ∧ 0 ≤ p3.toInt ∧ p3.toInt ≤ 3 ∧ ¬ ((σ 9).2.2.1 1 (p1.toInt.toNat)).toInt = -1 ∧ ¬ ((σ 9).2.2.1 1 (p3.toInt.toNat)).toInt = -1 ∧ ((σ 9).2.2.1 1 (p1.toInt.toNat)).toInt = ((σ 9).2.2.1 1 (p3.toInt.toNat)).toInt ∧ 0 ≤ p2.toInt ∧ 0 ≤ p4.toInt ∧ 0 ≤ p5.toInt ∧ p2.toInt + p5.toInt ≤ ((σ 9).2.2.1 2 (p1.toInt.toNat)).toInt ∧ p4.toInt + p5.toInt ≤ ((σ 9).2.2.1 2 (p3.toInt.toNat)).toInt ∧ ((-2) : Int32).toInt = 0) from (by have f0 := b7; have f1 := b8; have f2 := b6; have f3 := k10; have g4 := rg32 p1; have g5 := rg32 p2; have g6 := rg32 p3; have g7 := rg32 p4; have g8 := rg32 p5; have zm2 : ((-2) : Int32).toInt = (-2) := (by decide); have z0 : (0 : Int32).toInt = 0 := (by decide); exact (Or.inl (by omega)))), trivial⟩, (show va_P D clz (WD9 cy g σ1) tS.heap by rw [ht]; exact hP)⟩, hS.F ht⟩) hS.2.2 dX9_paste_21
  ·
    have k11 := neq32 c9
    refine lv_iload_n hx hb dX9_paste_12 rfl (lv_at hl 3 rfl) ?_
    refine va_calli (va_runS (As := [.int p3]) (rest := []) ⟨hx, hb, hml, hown, hts⟩ (m_X9_isSlot l D cy g σ1 p3 _ hJ2 ) (va_cwS 1 hts (gd_S q1546 q1547 q134 q1548) rfl rfl rfl (by decide +kernel) ⟨Nat.le_of_ble_eq_true rfl, Nat.le_of_ble_eq_true rfl⟩) (ps9 hP hK hD hC hS) rfl rfl hl.1 rfl (lv_room (Nat.le_of_ble_eq_true rfl)) dX9_paste_13 ⟨Nat.le_of_ble_eq_true rfl, Nat.le_of_ble_eq_true rfl⟩) hS (fun q _ h => up9 hS q h) (up9 hS) (fun r12 σ13 tS H1 locs ht hvm hw14 hB hz1 hk1 hS => ?_)
    have hP : va_P D clz (WD9 cy g σ13) H1 := by rw [← ht]; exact hB
    clear hB hz1 hk1 hvm ht
    generalize H1 = H at hP hS ⊢
    have hw14E : σ1 = σ13 := (hw14.1).symm
    subst hw14E
    have b15 : (0 : Int) ≤ r12.toInt ∧ r12.toInt ≤ 1 := hw14.2.1
    have b16 : (r12.toInt = 0) ∨ ((0 : Int) ≤ p3.toInt ∧ p3.toInt ≤ 3) := hw14.2.2.1
    have b17 : r12.toInt = 1 ∨ p3.toInt < 0 ∨ 3 < p3.toInt := hw14.2.2.2.1
    refine lv_if_ne (tgt := 22) hx hb dX9_paste_16 (by decide) (fun c18 => ?_) (fun c18 => ?_)
    ·
      have k19 := neq32 c18
      refine lv_aload_n hx hb dX9_paste_22 rfl (lv_at hl 0 rfl) ?_
      refine g9_1 hx hb hts hown hK hP (hts _ q1361) dX9_paste_23 ?_
      refine lv_iload_n hx hb dX9_paste_26 rfl (lv_at hl 1 rfl) ?_
      obtain ⟨x20, ex20⟩ : ∃ z, (σ 9).2.2.1 1 p1.toInt.toNat = z := ⟨_, rfl⟩
      refine l9_1 (x := x20) hx hb hK hP (vpo (by have f0 := b7; have f1 := b8; have f2 := b6; have f3 := k11; have g0 := rg32 p1; have z0 : (0 : Int32).toInt = 0 := (by decide); omega)) ((congrFun (((sI_f eσ1) 9 1 rfl).2.2.1) _).trans ex20) dX9_paste_27 ?_
      refine lv_iconst (v := (-1)) hx hb dX9_paste_28 (by decide) ?_
      refine lv_icmp_eq (tgt := 42) hx hb dX9_paste_29 (by decide) (fun c21 => ?_) (fun c21 => ?_)
      ·
        have k22 := peq32 c21
        refine lv_bipush (v := (-6)) hx hb dX9_paste_42 (by decide) ?_
        exact W.iret (v := (-6)) hx hb hr (fun tS ht hW => ⟨⟨(-6), σ1, rfl, ⟨Fr.tr (Fr.rf) (sI_f eσ1) (fN_L rfl), hJ2, (show (¬ (0 ≤ p1.toInt ∧ p1.toInt ≤ 3 ∧ 0 ≤ p3.toInt ∧ p3.toInt ≤ 3) ∧ ((-6) : Int32).toInt = -2) ∨ (0 ≤ p1.toInt ∧ p1.toInt ≤ 3 ∧ 0 ≤ p3.toInt ∧ p3.toInt ≤ 3 ∧ ¬ (¬ ((σ 9).2.2.1 1 (p1.toInt.toNat)).toInt = -1 ∧ ¬ ((σ 9).2.2.1 1 (p3.toInt.toNat)).toInt = -1) ∧ ((-6) : Int32).toInt = -6) ∨ (0 ≤ p1.toInt ∧ p1.toInt ≤ 3 ∧ 0 ≤ p3.toInt ∧ p3.toInt ≤ 3 ∧ ¬ ((σ 9).2.2.1 1 (p1.toInt.toNat)).toInt = -1 ∧ ¬ ((σ 9).2.2.1 1 (p3.toInt.toNat)).toInt = -1 ∧ ¬ ((σ 9).2.2.1 1 (p1.toInt.toNat)).toInt = ((σ 9).2.2.1 1 (p3.toInt.toNat)).toInt ∧ ((-6) : Int32).toInt = -8) ∨ (0 ≤ p1.toInt ∧ p1.toInt ≤ 3 ∧ 0 ≤ p3.toInt ∧ p3.toInt ≤ 3 ∧ ¬ ((σ 9).2.2.1 1 (p1.toInt.toNat)).toInt = -1 ∧ ¬ ((σ 9).2.2.1 1 (p3.toInt.toNat)).toInt = -1 ∧ ((σ 9).2.2.1 1 (p1.toInt.toNat)).toInt = ((σ 9).2.2.1 1 (p3.toInt.toNat)).toInt ∧ ¬ (0 ≤ p2.toInt ∧ 0 ≤ p4.toInt ∧ 0 ≤ p5.toInt ∧ p2.toInt + p5.toInt ≤ ((σ 9).2.2.1 2 (p1.toInt.toNat)).toInt ∧ p4.toInt + p5.toInt ≤ ((σ 9).2.2.1 2 (p3.toInt.toNat)).toInt) ∧ ((-6) : Int32).toInt = -7) ∨ (0 ≤ p1.toInt ∧ p1.toInt ≤ 3 ∧ 0 ≤ p3.toInt ∧ p3.toInt ≤ 3 ∧ ¬ ((σ 9).2.2.1 1 (p1.toInt.toNat)).toInt = -1 ∧ ¬ ((σ 9).2.2.1 1 (p3.toInt.toNat)).toInt = -1 ∧ ((σ 9).2.2.1 1 (p1.toInt.toNat)).toInt = ((σ 9).2.2.1 1 (p3.toInt.toNat)).toInt ∧ 0 ≤ p2.toInt ∧ 0 ≤ p4.toInt ∧ 0 ≤ p5.toInt ∧ p2.toInt + p5.toInt ≤ ((σ 9).2.2.1 2 (p1.toInt.toNat)).toInt ∧ p4.toInt + p5.toInt ≤ ((σ 9).2.2.1 2 (p3.toInt.toNat)).toInt ∧ ((-6) : Int32).toInt = 0) from (by rw [ex20]; have f0 := b7; have f1 := b8; have f2 := b16; have f3 := b17; have f4 := k22; have f5 := b6; have f6 := k11; have f7 := b15; have f8 := k19; have g4 := rg32 p1; have g5 := rg32 p2; have g6 := rg32 p3; have g7 := rg32 p4; have g8 := rg32 p5; have g9 := rg32 x20; have zm6 : ((-6) : Int32).toInt = (-6) := (by decide); have zm1 : ((-1) : Int32).toInt = (-1) := (by decide); have z0 : (0 : Int32).toInt = 0 := (by decide); exact (Or.inr (Or.inl (by omega))))), trivial⟩, (show va_P D clz (WD9 cy g σ1) tS.heap by rw [ht]; exact hP)⟩, hS.F ht⟩) hS.2.2 dX9_paste_44
      ·
        have k23 := neq32 c21
        refine lv_aload_n hx hb dX9_paste_32 rfl (lv_at hl 0 rfl) ?_
        refine g9_1 hx hb hts hown hK hP (hts _ q1361) dX9_paste_33 ?_
        refine lv_iload_n hx hb dX9_paste_36 rfl (lv_at hl 3 rfl) ?_
        obtain ⟨x24, ex24⟩ : ∃ z, (σ 9).2.2.1 1 p3.toInt.toNat = z := ⟨_, rfl⟩
        refine l9_1 (x := x24) hx hb hK hP (vpo (by have f0 := b16; have f1 := b17; have f2 := b15; have f3 := k19; have g0 := rg32 p3; have z0 : (0 : Int32).toInt = 0 := (by decide); omega)) ((congrFun (((sI_f eσ1) 9 1 rfl).2.2.1) _).trans ex24) dX9_paste_37 ?_
        refine lv_iconst (v := (-1)) hx hb dX9_paste_38 (by decide) ?_
        refine lv_icmp_ne (tgt := 45) hx hb dX9_paste_39 (by decide) (fun c25 => ?_) (fun c25 => ?_)
        ·
          have k26 := neq32 c25
          refine lv_aload_n hx hb dX9_paste_45 rfl (lv_at hl 0 rfl) ?_
          refine g9_1 hx hb hts hown hK hP (hts _ q1361) dX9_paste_46 ?_
          refine lv_iload_n hx hb dX9_paste_49 rfl (lv_at hl 1 rfl) ?_
          refine l9_1 (x := x20) hx hb hK hP (vpo (by have f0 := b7; have f1 := b8; have f2 := b6; have f3 := k11; have g0 := rg32 p1; have z0 : (0 : Int32).toInt = 0 := (by decide); omega)) ((congrFun (((sI_f eσ1) 9 1 rfl).2.2.1) _).trans ex20) dX9_paste_50 ?_
          refine lv_aload_n hx hb dX9_paste_51 rfl (lv_at hl 0 rfl) ?_
          refine g9_1 hx hb hts hown hK hP (hts _ q1361) dX9_paste_52 ?_
          refine lv_iload_n hx hb dX9_paste_55 rfl (lv_at hl 3 rfl) ?_
          refine l9_1 (x := x24) hx hb hK hP (vpo (by have f0 := b16; have f1 := b17; have f2 := b15; have f3 := k19; have g0 := rg32 p3; have z0 : (0 : Int32).toInt = 0 := (by decide); omega)) ((congrFun (((sI_f eσ1) 9 1 rfl).2.2.1) _).trans ex24) dX9_paste_56 ?_
          refine lv_icmp_eq (tgt := 63) hx hb dX9_paste_57 (by decide) (fun c27 => ?_) (fun c27 => ?_)
          ·
            have k28 := peq32 c27
            refine lv_iload_n hx hb dX9_paste_63 rfl (lv_at hl 2 rfl) ?_
            refine lv_if_lt (tgt := 112) hx hb dX9_paste_64 (by decide) (fun c29 => ?_) (fun c29 => ?_)
            ·
              have k30 := plt32 c29
              refine lv_bipush (v := (-7)) hx hb dX9_paste_112 (by decide) ?_
              exact W.iret (v := (-7)) hx hb hr (fun tS ht hW => ⟨⟨(-7), σ1, rfl, ⟨Fr.tr (Fr.rf) (sI_f eσ1) (fN_L rfl), hJ2, (show (¬ (0 ≤ p1.toInt ∧ p1.toInt ≤ 3 ∧ 0 ≤ p3.toInt ∧ p3.toInt ≤ 3) ∧ ((-7) : Int32).toInt = -2) ∨ (0 ≤ p1.toInt ∧ p1.toInt ≤ 3 ∧ 0 ≤ p3.toInt ∧ p3.toInt ≤ 3 ∧ ¬ (¬ ((σ 9).2.2.1 1 (p1.toInt.toNat)).toInt = -1 ∧ ¬ ((σ 9).2.2.1 1 (p3.toInt.toNat)).toInt = -1) ∧ ((-7) : Int32).toInt = -6) ∨ (0 ≤ p1.toInt ∧ p1.toInt ≤ 3 ∧ 0 ≤ p3.toInt ∧ p3.toInt ≤ 3 ∧ ¬ ((σ 9).2.2.1 1 (p1.toInt.toNat)).toInt = -1 ∧ ¬ ((σ 9).2.2.1 1 (p3.toInt.toNat)).toInt = -1 ∧ ¬ ((σ 9).2.2.1 1 (p1.toInt.toNat)).toInt = ((σ 9).2.2.1 1 (p3.toInt.toNat)).toInt ∧ ((-7) : Int32).toInt = -8) ∨ (0 ≤ p1.toInt ∧ p1.toInt ≤ 3 ∧ 0 ≤ p3.toInt ∧ p3.toInt ≤ 3 ∧ ¬ ((σ 9).2.2.1 1 (p1.toInt.toNat)).toInt = -1 ∧ ¬ ((σ 9).2.2.1 1 (p3.toInt.toNat)).toInt = -1 ∧ ((σ 9).2.2.1 1 (p1.toInt.toNat)).toInt = ((σ 9).2.2.1 1 (p3.toInt.toNat)).toInt ∧ ¬ (0 ≤ p2.toInt ∧ 0 ≤ p4.toInt ∧ 0 ≤ p5.toInt ∧ p2.toInt + p5.toInt ≤ ((σ 9).2.2.1 2 (p1.toInt.toNat)).toInt ∧ p4.toInt + p5.toInt ≤ ((σ 9).2.2.1 2 (p3.toInt.toNat)).toInt) ∧ ((-7) : Int32).toInt = -7) ∨ (0 ≤ p1.toInt ∧ p1.toInt ≤ 3 ∧ 0 ≤ p3.toInt ∧ p3.toInt ≤ 3 ∧ ¬ ((σ 9).2.2.1 1 (p1.toInt.toNat)).toInt = -1 ∧ ¬ ((σ 9).2.2.1 1 (p3.toInt.toNat)).toInt = -1 ∧ ((σ 9).2.2.1 1 (p1.toInt.toNat)).toInt = ((σ 9).2.2.1 1 (p3.toInt.toNat)).toInt ∧ 0 ≤ p2.toInt ∧ 0 ≤ p4.toInt ∧ 0 ≤ p5.toInt ∧ p2.toInt + p5.toInt ≤ ((σ 9).2.2.1 2 (p1.toInt.toNat)).toInt ∧ p4.toInt + p5.toInt ≤ ((σ 9).2.2.1 2 (p3.toInt.toNat)).toInt ∧ ((-7) : Int32).toInt = 0) from (by rw [ex20, ex24]; have f0 := b7; have f1 := b8; have f2 := b16; have f3 := b17; have f4 := k23; have f5 := k26; have f6 := k28; have f7 := k30; have f8 := b6; have f9 := k11; have f10 := b15; have f11 := k19; have g4 := rg32 p1; have g5 := rg32 p2; have g6 := rg32 p3; have g7 := rg32 p4; have g8 := rg32 p5; have g9 := rg32 x20; have g10 := rg32 x24; have zm7 : ((-7) : Int32).toInt = (-7) := (by decide); have zm1 : ((-1) : Int32).toInt = (-1) := (by decide); have z0 : (0 : Int32).toInt = 0 := (by decide); exact (Or.inr (Or.inr (Or.inr (Or.inl (by omega))))))), trivial⟩, (show va_P D clz (WD9 cy g σ1) tS.heap by rw [ht]; exact hP)⟩, hS.F ht⟩) hS.2.2 dX9_paste_114
            ·
              have k31 := nlt32 c29
              refine lv_iload hx hb dX9_paste_67 (lv_at hl 4 rfl) ?_
              refine lv_if_lt (tgt := 112) hx hb dX9_paste_69 (by decide) (fun c32 => ?_) (fun c32 => ?_)
              ·
                have k33 := plt32 c32
                refine lv_bipush (v := (-7)) hx hb dX9_paste_112 (by decide) ?_
                exact W.iret (v := (-7)) hx hb hr (fun tS ht hW => ⟨⟨(-7), σ1, rfl, ⟨Fr.tr (Fr.rf) (sI_f eσ1) (fN_L rfl), hJ2, (show (¬ (0 ≤ p1.toInt ∧ p1.toInt ≤ 3 ∧ 0 ≤ p3.toInt ∧ p3.toInt ≤ 3) ∧ ((-7) : Int32).toInt = -2) ∨ (0 ≤ p1.toInt ∧ p1.toInt ≤ 3 ∧ 0 ≤ p3.toInt ∧ p3.toInt ≤ 3 ∧ ¬ (¬ ((σ 9).2.2.1 1 (p1.toInt.toNat)).toInt = -1 ∧ ¬ ((σ 9).2.2.1 1 (p3.toInt.toNat)).toInt = -1) ∧ ((-7) : Int32).toInt = -6) ∨ (0 ≤ p1.toInt ∧ p1.toInt ≤ 3 ∧ 0 ≤ p3.toInt ∧ p3.toInt ≤ 3 ∧ ¬ ((σ 9).2.2.1 1 (p1.toInt.toNat)).toInt = -1 ∧ ¬ ((σ 9).2.2.1 1 (p3.toInt.toNat)).toInt = -1 ∧ ¬ ((σ 9).2.2.1 1 (p1.toInt.toNat)).toInt = ((σ 9).2.2.1 1 (p3.toInt.toNat)).toInt ∧ ((-7) : Int32).toInt = -8) ∨ (0 ≤ p1.toInt ∧ p1.toInt ≤ 3 ∧ 0 ≤ p3.toInt ∧ p3.toInt ≤ 3 ∧ ¬ ((σ 9).2.2.1 1 (p1.toInt.toNat)).toInt = -1 ∧ ¬ ((σ 9).2.2.1 1 (p3.toInt.toNat)).toInt = -1 ∧ ((σ 9).2.2.1 1 (p1.toInt.toNat)).toInt = ((σ 9).2.2.1 1 (p3.toInt.toNat)).toInt ∧ ¬ (0 ≤ p2.toInt ∧ 0 ≤ p4.toInt ∧ 0 ≤ p5.toInt ∧ p2.toInt + p5.toInt ≤ ((σ 9).2.2.1 2 (p1.toInt.toNat)).toInt ∧ p4.toInt + p5.toInt ≤ ((σ 9).2.2.1 2 (p3.toInt.toNat)).toInt) ∧ ((-7) : Int32).toInt = -7) ∨ (0 ≤ p1.toInt ∧ p1.toInt ≤ 3 ∧ 0 ≤ p3.toInt ∧ p3.toInt ≤ 3 ∧ ¬ ((σ 9).2.2.1 1 (p1.toInt.toNat)).toInt = -1 ∧ ¬ ((σ 9).2.2.1 1 (p3.toInt.toNat)).toInt = -1 ∧ ((σ 9).2.2.1 1 (p1.toInt.toNat)).toInt = ((σ 9).2.2.1 1 (p3.toInt.toNat)).toInt ∧ 0 ≤ p2.toInt ∧ 0 ≤ p4.toInt ∧ 0 ≤ p5.toInt ∧ p2.toInt + p5.toInt ≤ ((σ 9).2.2.1 2 (p1.toInt.toNat)).toInt ∧ p4.toInt + p5.toInt ≤ ((σ 9).2.2.1 2 (p3.toInt.toNat)).toInt ∧ ((-7) : Int32).toInt = 0) from (by rw [ex20, ex24]; have f0 := b7; have f1 := b8; have f2 := b16; have f3 := b17; have f4 := k23; have f5 := k26; have f6 := k28; have f7 := k31; have f8 := k33; have f9 := b6; have f10 := k11; have f11 := b15; have f12 := k19; have g4 := rg32 p1; have g5 := rg32 p2; have g6 := rg32 p3; have g7 := rg32 p4; have g8 := rg32 p5; have g9 := rg32 x20; have g10 := rg32 x24; have zm7 : ((-7) : Int32).toInt = (-7) := (by decide); have zm1 : ((-1) : Int32).toInt = (-1) := (by decide); have z0 : (0 : Int32).toInt = 0 := (by decide); exact (Or.inr (Or.inr (Or.inr (Or.inl (by omega))))))), trivial⟩, (show va_P D clz (WD9 cy g σ1) tS.heap by rw [ht]; exact hP)⟩, hS.F ht⟩) hS.2.2 dX9_paste_114
              ·
                have k34 := nlt32 c32
                refine lv_iload hx hb dX9_paste_72 (lv_at hl 5 rfl) ?_
                refine lv_if_lt (tgt := 112) hx hb dX9_paste_74 (by decide) (fun c35 => ?_) (fun c35 => ?_)
                ·
                  have k36 := plt32 c35
                  refine lv_bipush (v := (-7)) hx hb dX9_paste_112 (by decide) ?_
                  exact W.iret (v := (-7)) hx hb hr (fun tS ht hW => ⟨⟨(-7), σ1, rfl, ⟨Fr.tr (Fr.rf) (sI_f eσ1) (fN_L rfl), hJ2, (show (¬ (0 ≤ p1.toInt ∧ p1.toInt ≤ 3 ∧ 0 ≤ p3.toInt ∧ p3.toInt ≤ 3) ∧ ((-7) : Int32).toInt = -2) ∨ (0 ≤ p1.toInt ∧ p1.toInt ≤ 3 ∧ 0 ≤ p3.toInt ∧ p3.toInt ≤ 3 ∧ ¬ (¬ ((σ 9).2.2.1 1 (p1.toInt.toNat)).toInt = -1 ∧ ¬ ((σ 9).2.2.1 1 (p3.toInt.toNat)).toInt = -1) ∧ ((-7) : Int32).toInt = -6) ∨ (0 ≤ p1.toInt ∧ p1.toInt ≤ 3 ∧ 0 ≤ p3.toInt ∧ p3.toInt ≤ 3 ∧ ¬ ((σ 9).2.2.1 1 (p1.toInt.toNat)).toInt = -1 ∧ ¬ ((σ 9).2.2.1 1 (p3.toInt.toNat)).toInt = -1 ∧ ¬ ((σ 9).2.2.1 1 (p1.toInt.toNat)).toInt = ((σ 9).2.2.1 1 (p3.toInt.toNat)).toInt ∧ ((-7) : Int32).toInt = -8) ∨ (0 ≤ p1.toInt ∧ p1.toInt ≤ 3 ∧ 0 ≤ p3.toInt ∧ p3.toInt ≤ 3 ∧ ¬ ((σ 9).2.2.1 1 (p1.toInt.toNat)).toInt = -1 ∧ ¬ ((σ 9).2.2.1 1 (p3.toInt.toNat)).toInt = -1 ∧ ((σ 9).2.2.1 1 (p1.toInt.toNat)).toInt = ((σ 9).2.2.1 1 (p3.toInt.toNat)).toInt ∧ ¬ (0 ≤ p2.toInt ∧ 0 ≤ p4.toInt ∧ 0 ≤ p5.toInt ∧ p2.toInt + p5.toInt ≤ ((σ 9).2.2.1 2 (p1.toInt.toNat)).toInt ∧ p4.toInt + p5.toInt ≤ ((σ 9).2.2.1 2 (p3.toInt.toNat)).toInt) ∧ ((-7) : Int32).toInt = -7) ∨ (0 ≤ p1.toInt ∧ p1.toInt ≤ 3 ∧ 0 ≤ p3.toInt ∧ p3.toInt ≤ 3 ∧ ¬ ((σ 9).2.2.1 1 (p1.toInt.toNat)).toInt = -1 ∧ ¬ ((σ 9).2.2.1 1 (p3.toInt.toNat)).toInt = -1 ∧ ((σ 9).2.2.1 1 (p1.toInt.toNat)).toInt = ((σ 9).2.2.1 1 (p3.toInt.toNat)).toInt ∧ 0 ≤ p2.toInt ∧ 0 ≤ p4.toInt ∧ 0 ≤ p5.toInt ∧ p2.toInt + p5.toInt ≤ ((σ 9).2.2.1 2 (p1.toInt.toNat)).toInt ∧ p4.toInt + p5.toInt ≤ ((σ 9).2.2.1 2 (p3.toInt.toNat)).toInt ∧ ((-7) : Int32).toInt = 0) from (by rw [ex20, ex24]; have f0 := b7; have f1 := b8; have f2 := b16; have f3 := b17; have f4 := k23; have f5 := k26; have f6 := k28; have f7 := k31; have f8 := k34; have f9 := k36; have f10 := b6; have f11 := k11; have f12 := b15; have f13 := k19; have g4 := rg32 p1; have g5 := rg32 p2; have g6 := rg32 p3; have g7 := rg32 p4; have g8 := rg32 p5; have g9 := rg32 x20; have g10 := rg32 x24; have zm7 : ((-7) : Int32).toInt = (-7) := (by decide); have zm1 : ((-1) : Int32).toInt = (-1) := (by decide); have z0 : (0 : Int32).toInt = 0 := (by decide); exact (Or.inr (Or.inr (Or.inr (Or.inl (by omega))))))), trivial⟩, (show va_P D clz (WD9 cy g σ1) tS.heap by rw [ht]; exact hP)⟩, hS.F ht⟩) hS.2.2 dX9_paste_114
                ·
                  have k37 := nlt32 c35
                  refine lv_iload_n hx hb dX9_paste_77 rfl (lv_at hl 2 rfl) ?_
                  refine lv_i2l (v := p2.toInt64) hx hb dX9_paste_78 rfl ?_
                  refine lv_iload hx hb dX9_paste_79 (lv_at hl 5 rfl) ?_
                  refine lv_i2l (v := p5.toInt64) hx hb dX9_paste_81 rfl ?_
                  refine lv_ladd hx hb dX9_paste_82 ?_
                  refine lv_topl (fun x38 ex38 => ?_)
                  have t39 := addL ex38 (by have f0 := t64 (a := p2); have f1 := t64 (a := p5); have f2 := k31; have f3 := k37; have f4 := rg32 p2; have f5 := rg32 p5; have g0 := rg32 p2; have g2 := rg32 p5; have z0 : (0 : Int32).toInt = 0 := (by decide); have w9 := t64 (a := p2); have w10 := t64 (a := p5); omega)
                  refine lv_aload_n hx hb dX9_paste_83 rfl (lv_at hl 0 rfl) ?_
                  refine g9_2 hx hb hts hown hK hP (hts _ q1362) dX9_paste_84 ?_
                  refine lv_iload_n hx hb dX9_paste_87 rfl (lv_at hl 1 rfl) ?_
                  obtain ⟨x40, ex40⟩ : ∃ z, (σ 9).2.2.1 2 p1.toInt.toNat = z := ⟨_, rfl⟩
                  refine l9_2 (x := x40) hx hb hK hP (vpo (by have f0 := b7; have f1 := b8; have f2 := b6; have f3 := k11; have g0 := rg32 p1; have z0 : (0 : Int32).toInt = 0 := (by decide); omega)) ((congrFun (((sI_f eσ1) 9 2 rfl).2.2.1) _).trans ex40) dX9_paste_88 ?_
                  have t41 := a9_2 hJ ex40
                  refine lv_i2l (v := x40.toInt64) hx hb dX9_paste_89 rfl ?_
                  refine W.lcmp hx hb dX9_paste_90 ?_
                  refine lv_if_gt (tgt := 112) hx hb dX9_paste_91 (by decide) (fun c42 => ?_) (fun c42 => ?_)
                  ·
                    have k43 := plt64 ((lg_cmp_gt x38 x40.toInt64).mp c42)
                    refine lv_bipush (v := (-7)) hx hb dX9_paste_112 (by decide) ?_
                    exact W.iret (v := (-7)) hx hb hr (fun tS ht hW => ⟨⟨(-7), σ1, rfl, ⟨Fr.tr (Fr.rf) (sI_f eσ1) (fN_L rfl), hJ2, (show (¬ (0 ≤ p1.toInt ∧ p1.toInt ≤ 3 ∧ 0 ≤ p3.toInt ∧ p3.toInt ≤ 3) ∧ ((-7) : Int32).toInt = -2) ∨ (0 ≤ p1.toInt ∧ p1.toInt ≤ 3 ∧ 0 ≤ p3.toInt ∧ p3.toInt ≤ 3 ∧ ¬ (¬ ((σ 9).2.2.1 1 (p1.toInt.toNat)).toInt = -1 ∧ ¬ ((σ 9).2.2.1 1 (p3.toInt.toNat)).toInt = -1) ∧ ((-7) : Int32).toInt = -6) ∨ (0 ≤ p1.toInt ∧ p1.toInt ≤ 3 ∧ 0 ≤ p3.toInt ∧ p3.toInt ≤ 3 ∧ ¬ ((σ 9).2.2.1 1 (p1.toInt.toNat)).toInt = -1 ∧ ¬ ((σ 9).2.2.1 1 (p3.toInt.toNat)).toInt = -1 ∧ ¬ ((σ 9).2.2.1 1 (p1.toInt.toNat)).toInt = ((σ 9).2.2.1 1 (p3.toInt.toNat)).toInt ∧ ((-7) : Int32).toInt = -8) ∨ (0 ≤ p1.toInt ∧ p1.toInt ≤ 3 ∧ 0 ≤ p3.toInt ∧ p3.toInt ≤ 3 ∧ ¬ ((σ 9).2.2.1 1 (p1.toInt.toNat)).toInt = -1 ∧ ¬ ((σ 9).2.2.1 1 (p3.toInt.toNat)).toInt = -1 ∧ ((σ 9).2.2.1 1 (p1.toInt.toNat)).toInt = ((σ 9).2.2.1 1 (p3.toInt.toNat)).toInt ∧ ¬ (0 ≤ p2.toInt ∧ 0 ≤ p4.toInt ∧ 0 ≤ p5.toInt ∧ p2.toInt + p5.toInt ≤ ((σ 9).2.2.1 2 (p1.toInt.toNat)).toInt ∧ p4.toInt + p5.toInt ≤ ((σ 9).2.2.1 2 (p3.toInt.toNat)).toInt) ∧ ((-7) : Int32).toInt = -7) ∨ (0 ≤ p1.toInt ∧ p1.toInt ≤ 3 ∧ 0 ≤ p3.toInt ∧ p3.toInt ≤ 3 ∧ ¬ ((σ 9).2.2.1 1 (p1.toInt.toNat)).toInt = -1 ∧ ¬ ((σ 9).2.2.1 1 (p3.toInt.toNat)).toInt = -1 ∧ ((σ 9).2.2.1 1 (p1.toInt.toNat)).toInt = ((σ 9).2.2.1 1 (p3.toInt.toNat)).toInt ∧ 0 ≤ p2.toInt ∧ 0 ≤ p4.toInt ∧ 0 ≤ p5.toInt ∧ p2.toInt + p5.toInt ≤ ((σ 9).2.2.1 2 (p1.toInt.toNat)).toInt ∧ p4.toInt + p5.toInt ≤ ((σ 9).2.2.1 2 (p3.toInt.toNat)).toInt ∧ ((-7) : Int32).toInt = 0) from (by rw [ex20, ex40, ex24]; have f0 := b7; have f1 := b8; have f2 := b16; have f3 := b17; have f4 := k23; have f5 := k26; have f6 := k28; have f7 := k31; have f8 := k34; have f9 := k37; have f10 := t64 (a := p2); have f11 := rg32 p2; have f12 := t64 (a := p5); have f13 := rg32 p5; have f14 := t41; have f15 := t64 (a := x40); have f16 := rg32 x40; have f17 := b6; have f18 := k11; have f19 := b15; have f20 := k19; have f21 := t39; have f22 := k43; have g4 := rg32 p1; have g5 := rg32 p2; have g7 := rg32 p3; have g8 := rg32 p4; have g9 := rg32 p5; have g11 := rg32 x20; have g12 := rg32 x24; have g14 := rg32 x40; have zm7 : ((-7) : Int32).toInt = (-7) := (by decide); have zm1 : ((-1) : Int32).toInt = (-1) := (by decide); have z0 : (0 : Int32).toInt = 0 := (by decide); have w34 := t64 (a := p2); have w35 := t64 (a := p5); have w36 := t64 (a := x40); exact (Or.inr (Or.inr (Or.inr (Or.inl (by omega))))))), trivial⟩, (show va_P D clz (WD9 cy g σ1) tS.heap by rw [ht]; exact hP)⟩, hS.F ht⟩) hS.2.2 dX9_paste_114
                  ·
                    have k44 := nlt64 (fun q => c42 ((lg_cmp_gt x38 x40.toInt64).mpr q))
                    refine lv_iload hx hb dX9_paste_94 (lv_at hl 4 rfl) ?_
                    refine lv_i2l (v := p4.toInt64) hx hb dX9_paste_96 rfl ?_
                    refine lv_iload hx hb dX9_paste_97 (lv_at hl 5 rfl) ?_
                    refine lv_i2l (v := p5.toInt64) hx hb dX9_paste_99 rfl ?_
                    refine lv_ladd hx hb dX9_paste_100 ?_
                    refine lv_topl (fun x45 ex45 => ?_)
                    have t46 := addL ex45 (by have f0 := t64 (a := p5); have f1 := t39; have f2 := t64 (a := p4); have f3 := k34; have f4 := k37; have f5 := t64 (a := p2); have f6 := rg32 p5; have f7 := k44; have f8 := rg32 p4; have f9 := k31; have f10 := rg32 p2; have f11 := t64 (a := x40); have f12 := t41; have f13 := rg32 x40; have f14 := b7; have f15 := b8; have f16 := b6; have f17 := k11; have g0 := rg32 p2; have g2 := rg32 p4; have g4 := rg32 p5; have z0 : (0 : Int32).toInt = 0 := (by decide); have w22 := t64 (a := p2); have w23 := t64 (a := p4); have w24 := t64 (a := p5); have w25 := t64 (a := x40); omega)
                    refine lv_aload_n hx hb dX9_paste_101 rfl (lv_at hl 0 rfl) ?_
                    refine g9_2 hx hb hts hown hK hP (hts _ q1362) dX9_paste_102 ?_
                    refine lv_iload_n hx hb dX9_paste_105 rfl (lv_at hl 3 rfl) ?_
                    obtain ⟨x47, ex47⟩ : ∃ z, (σ 9).2.2.1 2 p3.toInt.toNat = z := ⟨_, rfl⟩
                    refine l9_2 (x := x47) hx hb hK hP (vpo (by have f0 := b16; have f1 := b17; have f2 := b15; have f3 := k19; have g0 := rg32 p3; have z0 : (0 : Int32).toInt = 0 := (by decide); omega)) ((congrFun (((sI_f eσ1) 9 2 rfl).2.2.1) _).trans ex47) dX9_paste_106 ?_
                    have t48 := a9_2 hJ ex47
                    refine lv_i2l (v := x47.toInt64) hx hb dX9_paste_107 rfl ?_
                    refine W.lcmp hx hb dX9_paste_108 ?_
                    refine lv_if_le (tgt := 115) hx hb dX9_paste_109 (by decide) (fun c49 => ?_) (fun c49 => ?_)
                    ·
                      have k50 := ple64 ((lg_cmp_le x45 x47.toInt64).mp c49)
                      refine lv_iconst (v := 0) hx hb dX9_paste_115 (by decide) ?_
                      have t51 : (0 : Int) ≤ p2.toInt ∧ p2.toInt ≤ 60 := (by have f0 := k31; have f1 := t64 (a := p2); have f2 := rg32 p2; have f3 := t39; have f4 := t64 (a := p5); have f5 := k44; have f6 := t46; have f7 := k37; have f8 := rg32 p5; have f9 := t64 (a := x40); have f10 := t64 (a := p4); have f11 := k50; have f12 := k34; have f13 := t41; have f14 := rg32 x40; have f15 := rg32 p4; have f16 := t64 (a := x47); have f17 := b7; have f18 := b8; have f19 := t48; have f20 := rg32 x47; have f21 := b6; have f22 := k11; have f23 := b16; have f24 := b17; have f25 := b15; have f26 := k19; have g0 := rg32 p2; have g2 := rg32 p4; have g4 := rg32 p5; have z0 : (0 : Int32).toInt = 0 := (by decide); have w31 := t64 (a := p2); have w32 := t64 (a := p4); have w33 := t64 (a := p5); have w34 := t64 (a := x40); have w35 := t64 (a := x47); omega)
                      have t52 : (0 : Int) ≤ p4.toInt ∧ p4.toInt ≤ 60 := (by have f0 := k34; have f1 := t64 (a := p4); have f2 := rg32 p4; have f3 := t46; have f4 := t64 (a := p5); have f5 := t39; have f6 := k50; have f7 := k37; have f8 := t64 (a := p2); have f9 := rg32 p5; have f10 := k44; have f11 := t64 (a := x47); have f12 := k31; have f13 := rg32 p2; have f14 := t64 (a := x40); have f15 := t48; have f16 := rg32 x47; have f17 := t51; have f18 := b16; have f19 := b17; have f20 := t41; have f21 := rg32 x40; have f22 := b7; have f23 := b8; have f24 := b15; have f25 := k19; have f26 := b6; have f27 := k11; have g1 := rg32 p4; have g3 := rg32 p5; have z0 : (0 : Int32).toInt = 0 := (by decide); have w31 := t64 (a := p2); have w32 := t64 (a := p4); have w33 := t64 (a := p5); have w34 := t64 (a := x40); have w35 := t64 (a := x47); omega)
                      have t53 : (0 : Int) ≤ p5.toInt ∧ p5.toInt ≤ 60 := (by have f0 := k37; have f1 := t64 (a := p5); have f2 := rg32 p5; have f3 := t39; have f4 := t46; have f5 := t64 (a := p2); have f6 := k44; have f7 := t64 (a := p4); have f8 := k50; have f9 := k31; have f10 := k34; have f11 := rg32 p2; have f12 := t64 (a := x40); have f13 := rg32 p4; have f14 := t64 (a := x47); have f15 := t51; have f16 := t52; have f17 := t41; have f18 := rg32 x40; have f19 := t48; have f20 := rg32 x47; have f21 := b7; have f22 := b8; have f23 := b16; have f24 := b17; have f25 := b6; have f26 := k11; have f27 := b15; have f28 := k19; have g2 := rg32 p5; have z0 : (0 : Int32).toInt = 0 := (by decide); have w31 := t64 (a := p2); have w32 := t64 (a := p4); have w33 := t64 (a := p5); have w34 := t64 (a := x40); have w35 := t64 (a := x47); omega)
                      refine lv_istore (lv' := [(6, .int 0), (0, .ref (g 60)), (1, .int p1), (2, .int p2), (3, .int p3), (4, .int p4), (5, .int p5)]) hx hb dX9_paste_116 hl (by decide) rfl (fun ls hl => ?_)
                      refine loop9 7 118 (fun x : LZ => [(6, .int (x.2.1 0)), (0, .ref (g 60)), (1, .int p1), (2, .int p2), (3, .int p3), (4, .int p4), (5, .int p5)]) (fun x : LZ => (Fr (fL [4]) σ1 x.1) ∧ (J9 (x.1 9)) ∧ ((0 : Int) ≤ (x.2.1 0).toInt ∧ (x.2.1 0).toInt ≤ 60) ∧ (p2.toInt + p5.toInt ≤ 60 ∧ p4.toInt + p5.toInt ≤ 60) ∧ True) (fun x : LZ => ((61 : Int) - (x.2.1 0).toInt).toNat) ?_ (σ1, lf [0], lg []) ⟨Fr.rf, hJ2, (show (0 : Int) ≤ (0 : Int32).toInt ∧ (0 : Int32).toInt ≤ 60 from (by have z0 : (0 : Int32).toInt = 0 := (by decide); omega)), (show p2.toInt + p5.toInt ≤ 60 ∧ p4.toInt + p5.toInt ≤ 60 from (by have f0 := k31; have f1 := k34; have f2 := k37; have f3 := t64 (a := p2); have f4 := rg32 p2; have f5 := t64 (a := p5); have f6 := rg32 p5; have f7 := t64 (a := p4); have f8 := rg32 p4; have f9 := t51; have f10 := t52; have f11 := t53; have f12 := t39; have f13 := t46; have f14 := k44; have f15 := k50; have f16 := t64 (a := x40); have f17 := t64 (a := x47); have f18 := t41; have f19 := rg32 x40; have f20 := t48; have f21 := rg32 x47; have f22 := b7; have f23 := b8; have f24 := b16; have f25 := b17; have f26 := b6; have f27 := k11; have f28 := b15; have f29 := k19; have g0 := rg32 p2; have g2 := rg32 p4; have g4 := rg32 p5; have z0 : (0 : Int32).toInt = 0 := (by decide); have w34 := t64 (a := p2); have w35 := t64 (a := p4); have w36 := t64 (a := p5); have w37 := t64 (a := x40); have w38 := t64 (a := x47); omega)), trivial⟩ _ _ _ hP hS (lv_sub hl [0, 1, 2, 3, 4, 5, 6] rfl)
                      intro y56 hI55 nl54 H locs ls hP hS hl
                      obtain ⟨σ57, eσ57⟩ : ∃ z, z = y56.1 := ⟨_, rfl⟩
                      rw [← eσ57] at hP hI55
                      have hF58 : Fr (fL [4]) σ1 σ57 := hI55.1
                      have hJ59 : J9 (σ57 9) := hI55.2.1
                      have b60 : (0 : Int) ≤ (y56.2.1 0).toInt ∧ (y56.2.1 0).toInt ≤ 60 := hI55.2.2.1
                      have b61 : p2.toInt + p5.toInt ≤ 60 ∧ p4.toInt + p5.toInt ≤ 60 := hI55.2.2.2.1
                      have hl : lv_has ls 7 [(6, .int (y56.2.1 0)), (0, .ref (g 60)), (1, .int p1), (2, .int p2), (3, .int p3), (4, .int p4), (5, .int p5)] := hl
                      refine lv_iload hx hb dX9_paste_118 (lv_at hl 0 rfl) ?_
                      refine lv_iload hx hb dX9_paste_120 (lv_at hl 6 rfl) ?_
                      refine lv_icmp_ge (tgt := 152) hx hb dX9_paste_122 (by decide) (fun c62 => ?_) (fun c62 => ?_)
                      ·
                        have k63 := ple32 c62
                        refine lv_iconst (v := 0) hx hb dX9_paste_152 (by decide) ?_
                        refine lv_istore (lv' := [(6, .int 0), (0, .ref (g 60)), (1, .int p1), (2, .int p2), (3, .int p3), (4, .int p4), (5, .int p5)]) hx hb dX9_paste_153 hl (by decide) rfl (fun ls hl => ?_)
                        refine loop9 7 155 (fun x : LZ => [(6, .int (x.2.1 0)), (0, .ref (g 60)), (1, .int p1), (2, .int p2), (3, .int p3), (4, .int p4), (5, .int p5)]) (fun x : LZ => (Fr (fL [3]) σ57 x.1) ∧ (J9 (x.1 9)) ∧ ((0 : Int) ≤ (x.2.1 0).toInt ∧ (x.2.1 0).toInt ≤ 60) ∧ (p2.toInt + p5.toInt ≤ 60 ∧ p4.toInt + p5.toInt ≤ 60) ∧ True) (fun x : LZ => ((61 : Int) - (x.2.1 0).toInt).toNat) ?_ (σ57, lf [0], lg []) ⟨Fr.rf, hJ59, (show (0 : Int) ≤ (0 : Int32).toInt ∧ (0 : Int32).toInt ≤ 60 from (by have z0 : (0 : Int32).toInt = 0 := (by decide); omega)), (show p2.toInt + p5.toInt ≤ 60 ∧ p4.toInt + p5.toInt ≤ 60 from (by have f0 := k31; have f1 := k34; have f2 := k37; have f3 := t64 (a := p2); have f4 := rg32 p2; have f5 := t64 (a := p5); have f6 := rg32 p5; have f7 := t64 (a := p4); have f8 := rg32 p4; have f9 := t51; have f10 := t52; have f11 := t53; have f12 := b61; have f13 := k63; have f14 := t39; have f15 := t46; have f16 := b60; have f17 := k44; have f18 := k50; have f19 := t64 (a := x40); have f20 := t64 (a := x47); have f21 := t41; have f22 := rg32 x40; have f23 := t48; have f24 := rg32 x47; have f25 := b7; have f26 := b8; have f27 := b16; have f28 := b17; have f29 := b6; have f30 := k11; have f31 := b15; have f32 := k19; have g0 := rg32 p2; have g2 := rg32 p4; have g4 := rg32 p5; have z0 : (0 : Int32).toInt = 0 := (by decide); have w37 := t64 (a := p2); have w38 := t64 (a := p4); have w39 := t64 (a := p5); have w40 := t64 (a := x40); have w41 := t64 (a := x47); omega)), trivial⟩ _ _ _ hP hS (lv_sub hl [0, 1, 2, 3, 4, 5, 6] rfl)
                        intro y66 hI65 nl64 H locs ls hP hS hl
                        obtain ⟨σ67, eσ67⟩ : ∃ z, z = y66.1 := ⟨_, rfl⟩
                        rw [← eσ67] at hP hI65
                        have hF68 : Fr (fL [3]) σ57 σ67 := hI65.1
                        have hJ69 : J9 (σ67 9) := hI65.2.1
                        have b70 : (0 : Int) ≤ (y66.2.1 0).toInt ∧ (y66.2.1 0).toInt ≤ 60 := hI65.2.2.1
                        have b71 : p2.toInt + p5.toInt ≤ 60 ∧ p4.toInt + p5.toInt ≤ 60 := hI65.2.2.2.1
                        have hl : lv_has ls 7 [(6, .int (y66.2.1 0)), (0, .ref (g 60)), (1, .int p1), (2, .int p2), (3, .int p3), (4, .int p4), (5, .int p5)] := hl
                        refine lv_iload hx hb dX9_paste_155 (lv_at hl 0 rfl) ?_
                        refine lv_iload hx hb dX9_paste_157 (lv_at hl 6 rfl) ?_
                        refine lv_icmp_ge (tgt := 190) hx hb dX9_paste_159 (by decide) (fun c72 => ?_) (fun c72 => ?_)
                        ·
                          have k73 := ple32 c72
                          refine lv_iconst (v := 0) hx hb dX9_paste_190 (by decide) ?_
                          exact W.iret (v := 0) hx hb hr (fun tS ht hW => ⟨⟨0, σ67, rfl, ⟨Fr.tr (Fr.tr (Fr.tr (Fr.rf) (sI_f eσ1) (fN_L rfl)) hF58 (fL_sub rfl)) hF68 (fL_sub rfl), hJ69, (show (¬ (0 ≤ p1.toInt ∧ p1.toInt ≤ 3 ∧ 0 ≤ p3.toInt ∧ p3.toInt ≤ 3) ∧ (0 : Int32).toInt = -2) ∨ (0 ≤ p1.toInt ∧ p1.toInt ≤ 3 ∧ 0 ≤ p3.toInt ∧ p3.toInt ≤ 3 ∧ ¬ (¬ ((σ 9).2.2.1 1 (p1.toInt.toNat)).toInt = -1 ∧ ¬ ((σ 9).2.2.1 1 (p3.toInt.toNat)).toInt = -1) ∧ (0 : Int32).toInt = -6) ∨ (0 ≤ p1.toInt ∧ p1.toInt ≤ 3 ∧ 0 ≤ p3.toInt ∧ p3.toInt ≤ 3 ∧ ¬ ((σ 9).2.2.1 1 (p1.toInt.toNat)).toInt = -1 ∧ ¬ ((σ 9).2.2.1 1 (p3.toInt.toNat)).toInt = -1 ∧ ¬ ((σ 9).2.2.1 1 (p1.toInt.toNat)).toInt = ((σ 9).2.2.1 1 (p3.toInt.toNat)).toInt ∧ (0 : Int32).toInt = -8) ∨ (0 ≤ p1.toInt ∧ p1.toInt ≤ 3 ∧ 0 ≤ p3.toInt ∧ p3.toInt ≤ 3 ∧ ¬ ((σ 9).2.2.1 1 (p1.toInt.toNat)).toInt = -1 ∧ ¬ ((σ 9).2.2.1 1 (p3.toInt.toNat)).toInt = -1 ∧ ((σ 9).2.2.1 1 (p1.toInt.toNat)).toInt = ((σ 9).2.2.1 1 (p3.toInt.toNat)).toInt ∧ ¬ (0 ≤ p2.toInt ∧ 0 ≤ p4.toInt ∧ 0 ≤ p5.toInt ∧ p2.toInt + p5.toInt ≤ ((σ 9).2.2.1 2 (p1.toInt.toNat)).toInt ∧ p4.toInt + p5.toInt ≤ ((σ 9).2.2.1 2 (p3.toInt.toNat)).toInt) ∧ (0 : Int32).toInt = -7) ∨ (0 ≤ p1.toInt ∧ p1.toInt ≤ 3 ∧ 0 ≤ p3.toInt ∧ p3.toInt ≤ 3 ∧ ¬ ((σ 9).2.2.1 1 (p1.toInt.toNat)).toInt = -1 ∧ ¬ ((σ 9).2.2.1 1 (p3.toInt.toNat)).toInt = -1 ∧ ((σ 9).2.2.1 1 (p1.toInt.toNat)).toInt = ((σ 9).2.2.1 1 (p3.toInt.toNat)).toInt ∧ 0 ≤ p2.toInt ∧ 0 ≤ p4.toInt ∧ 0 ≤ p5.toInt ∧ p2.toInt + p5.toInt ≤ ((σ 9).2.2.1 2 (p1.toInt.toNat)).toInt ∧ p4.toInt + p5.toInt ≤ ((σ 9).2.2.1 2 (p3.toInt.toNat)).toInt ∧ (0 : Int32).toInt = 0) from (by rw [ex20, ex40, ex24, ex47]; have f0 := b7; have f1 := b8; have f2 := b16; have f3 := b17; have f4 := k23; have f5 := k26; have f6 := k28; have f7 := k31; have f8 := k34; have f9 := k37; have f10 := t64 (a := p2); have f11 := rg32 p2; have f12 := t64 (a := p5); have f13 := rg32 p5; have f14 := t41; have f15 := t64 (a := x40); have f16 := rg32 x40; have f17 := t64 (a := p4); have f18 := rg32 p4; have f19 := t48; have f20 := t64 (a := x47); have f21 := rg32 x47; have f22 := t51; have f23 := t52; have f24 := t53; have f25 := b61; have f26 := k63; have f27 := b71; have f28 := k73; have f29 := b6; have f30 := k11; have f31 := b15; have f32 := k19; have f33 := t39; have f34 := k44; have f35 := t46; have f36 := k50; have f37 := b60; have f38 := b70; have g4 := rg32 p1; have g5 := rg32 p2; have g7 := rg32 p3; have g8 := rg32 p4; have g10 := rg32 p5; have g12 := rg32 x20; have g13 := rg32 x24; have g14 := rg32 x40; have g15 := rg32 x47; have zm1 : ((-1) : Int32).toInt = (-1) := (by decide); have z0 : (0 : Int32).toInt = 0 := (by decide); have w50 := t64 (a := p2); have w51 := t64 (a := p4); have w52 := t64 (a := p5); have w53 := t64 (a := x40); have w54 := t64 (a := x47); exact (Or.inr (Or.inr (Or.inr (Or.inr (by omega))))))), trivial⟩, (show va_P D clz (WD9 cy g σ67) tS.heap by rw [ht]; exact hP)⟩, hS.F ht⟩) hS.2.2 dX9_paste_191
                        ·
                          have k74 := nle32 c72
                          refine lv_aload_n hx hb dX9_paste_162 rfl (lv_at hl 1 rfl) ?_
                          refine g9_3 hx hb hts hown hK hP (hts _ q1363) dX9_paste_163 ?_
                          refine lv_bipush (v := 60) hx hb dX9_paste_166 (by decide) ?_
                          refine lv_iload_n hx hb dX9_paste_168 rfl (lv_at hl 4 rfl) ?_
                          refine lv_imul hx hb dX9_paste_169 ?_
                          refine lv_topi (fun x75 ex75 => ?_)
                          have t76 := mulC' (n := 60) ex75 (by decide) (by have f0 := b16; have f1 := b17; have f2 := t48; have f3 := b15; have f4 := k19; have f5 := t64 (a := x47); have f6 := rg32 x47; have f7 := k50; have f8 := t46; have f9 := t64 (a := p5); have f10 := t39; have f11 := t64 (a := p4); have f12 := k34; have f13 := k37; have f14 := t64 (a := p2); have f15 := rg32 p5; have f16 := k44; have f17 := rg32 p4; have f18 := t52; have f19 := t53; have f20 := b61; have f21 := k63; have f22 := b71; have f23 := k74; have f24 := k31; have f25 := rg32 p2; have f26 := t64 (a := x40); have f27 := t51; have f28 := b60; have f29 := b70; have f30 := t41; have f31 := rg32 x40; have f32 := b7; have f33 := b8; have f34 := b6; have f35 := k11; have g1 := rg32 p3; have z0 : (0 : Int32).toInt = 0 := (by decide); have w38 := t64 (a := p2); have w39 := t64 (a := p4); have w40 := t64 (a := p5); have w41 := t64 (a := x40); have w42 := t64 (a := x47); omega)
                          refine lv_iload hx hb dX9_paste_170 (lv_at hl 5 rfl) ?_
                          refine lv_iadd hx hb dX9_paste_172 ?_
                          refine lv_topi (fun x77 ex77 => ?_)
                          have t78 := addO ex77 (by have f0 := k34; have f1 := t64 (a := p4); have f2 := rg32 p4; have f3 := t52; have f4 := b61; have f5 := b71; have f6 := t76; have f7 := b16; have f8 := b17; have f9 := k31; have f10 := k37; have f11 := t64 (a := p2); have f12 := rg32 p2; have f13 := t64 (a := p5); have f14 := rg32 p5; have f15 := t46; have f16 := t48; have f17 := t51; have f18 := t53; have f19 := k63; have f20 := k74; have f21 := b15; have f22 := k19; have f23 := t39; have f24 := t64 (a := x47); have f25 := rg32 x47; have f26 := k50; have f27 := b60; have f28 := b70; have f29 := k44; have f30 := t64 (a := x40); have f31 := t41; have f32 := rg32 x40; have f33 := b7; have f34 := b8; have f35 := b6; have f36 := k11; have g1 := rg32 p4; have g4 := rg32 x75; have z0 : (0 : Int32).toInt = 0 := (by decide); have w40 := t64 (a := p2); have w41 := t64 (a := p4); have w42 := t64 (a := p5); have w43 := t64 (a := x40); have w44 := t64 (a := x47); omega)
                          refine lv_iload hx hb dX9_paste_173 (lv_at hl 0 rfl) ?_
                          refine lv_iadd hx hb dX9_paste_175 ?_
                          refine lv_topi (fun x79 ex79 => ?_)
                          have t80 := addO ex79 (by have f0 := b70; have f1 := k74; have f2 := t78; have f3 := k34; have f4 := k37; have f5 := t64 (a := p5); have f6 := rg32 p5; have f7 := t64 (a := p4); have f8 := rg32 p4; have f9 := t52; have f10 := t53; have f11 := b61; have f12 := k63; have f13 := b71; have f14 := t76; have f15 := b16; have f16 := b17; have f17 := k31; have f18 := t64 (a := p2); have f19 := rg32 p2; have f20 := t39; have f21 := t46; have f22 := t48; have f23 := t51; have f24 := b60; have f25 := b15; have f26 := k19; have f27 := k44; have f28 := t64 (a := x47); have f29 := rg32 x47; have f30 := k50; have f31 := t64 (a := x40); have f32 := t41; have f33 := rg32 x40; have f34 := b7; have f35 := b8; have f36 := b6; have f37 := k11; have g0 := rg32 (y66.2.1 0); have g4 := rg32 x77; have z0 : (0 : Int32).toInt = 0 := (by decide); have w41 := t64 (a := p2); have w42 := t64 (a := p4); have w43 := t64 (a := p5); have w44 := t64 (a := x40); have w45 := t64 (a := x47); omega)
                          refine lv_aload_n hx hb dX9_paste_176 rfl (lv_at hl 1 rfl) ?_
                          refine g9_4 hx hb hts hown hK hP (hts _ q1364) dX9_paste_177 ?_
                          refine lv_iload hx hb dX9_paste_180 (lv_at hl 0 rfl) ?_
                          obtain ⟨x81, ex81⟩ : ∃ z, (σ57 9).2.2.2 4 (y66.2.1 0).toInt.toNat = z := ⟨_, rfl⟩
                          refine l9_4 (x := x81) hx hb hK hP (vpo (by have f0 := b70; have f1 := k74; have f2 := t80; have f3 := k37; have f4 := t64 (a := p5); have f5 := rg32 p5; have f6 := t53; have f7 := b61; have f8 := k63; have f9 := b71; have f10 := t78; have f11 := k31; have f12 := k34; have f13 := t64 (a := p2); have f14 := rg32 p2; have f15 := t39; have f16 := t64 (a := p4); have f17 := rg32 p4; have f18 := t46; have f19 := t51; have f20 := t52; have f21 := b60; have f22 := t76; have f23 := b16; have f24 := b17; have f25 := k44; have f26 := t48; have f27 := k50; have f28 := b15; have f29 := k19; have f30 := t64 (a := x40); have f31 := t64 (a := x47); have f32 := rg32 x47; have f33 := t41; have f34 := rg32 x40; have f35 := b7; have f36 := b8; have f37 := b6; have f38 := k11; have g0 := rg32 (y66.2.1 0); have z0 : (0 : Int32).toInt = 0 := (by decide); have w41 := t64 (a := p2); have w42 := t64 (a := p4); have w43 := t64 (a := p5); have w44 := t64 (a := x40); have w45 := t64 (a := x47); omega)) ((congrFun ((hF68 9 4 rfl).2.2.2) _).trans ex81) dX9_paste_182 ?_
                          refine t9_3 hx hb hK hP hD hS (vpo (by have f0 := t80; have f1 := b70; have f2 := k74; have f3 := t78; have f4 := k34; have f5 := k37; have f6 := t64 (a := p5); have f7 := rg32 p5; have f8 := t64 (a := p4); have f9 := rg32 p4; have f10 := t52; have f11 := t53; have f12 := b61; have f13 := k63; have f14 := b71; have f15 := t76; have f16 := b16; have f17 := b17; have f18 := k31; have f19 := t64 (a := p2); have f20 := rg32 p2; have f21 := t39; have f22 := t46; have f23 := t48; have f24 := t51; have f25 := b60; have f26 := b15; have f27 := k19; have f28 := k44; have f29 := t64 (a := x47); have f30 := rg32 x47; have f31 := k50; have f32 := t64 (a := x40); have f33 := t41; have f34 := rg32 x40; have f35 := b7; have f36 := b8; have f37 := b6; have f38 := k11; have g3 := rg32 x79; have z0 : (0 : Int32).toInt = 0 := (by decide); have w41 := t64 (a := p2); have w42 := t64 (a := p4); have w43 := t64 (a := p5); have w44 := t64 (a := x40); have w45 := t64 (a := x47); omega)) dX9_paste_183 (fun H locs σ82 eσ82 hP hS => ?_)
                          have hJ83 : J9 (σ82 9) := hJ69.B eσ82
                          obtain ⟨x84, ex84⟩ : ∃ y : Int32, y = (y66.2.1 0) + 1 := ⟨_, rfl⟩
                          have t85 := addO ex84 (by have f0 := b70; have f1 := k74; have f2 := t80; have f3 := k37; have f4 := t64 (a := p5); have f5 := rg32 p5; have f6 := t53; have f7 := b61; have f8 := k63; have f9 := b71; have f10 := t78; have f11 := k31; have f12 := k34; have f13 := t64 (a := p2); have f14 := rg32 p2; have f15 := t39; have f16 := t64 (a := p4); have f17 := rg32 p4; have f18 := t46; have f19 := t51; have f20 := t52; have f21 := b60; have f22 := t76; have f23 := b16; have f24 := b17; have f25 := k44; have f26 := t48; have f27 := k50; have f28 := b15; have f29 := k19; have f30 := t64 (a := x40); have f31 := t64 (a := x47); have f32 := rg32 x47; have f33 := t41; have f34 := rg32 x40; have f35 := b7; have f36 := b8; have f37 := b6; have f38 := k11; have g0 := rg32 (y66.2.1 0); have z0 : (0 : Int32).toInt = 0 := (by decide); have z1 : (1 : Int32).toInt = 1 := (by decide); have w42 := t64 (a := p2); have w43 := t64 (a := p4); have w44 := t64 (a := p5); have w45 := t64 (a := x40); have w46 := t64 (a := x47); omega)
                          refine lv_iinc (v := x84) (lv' := [(6, .int x84), (0, .ref (g 60)), (1, .int p1), (2, .int p2), (3, .int p3), (4, .int p4), (5, .int p5)]) hx hb dX9_paste_184 hl (k := 0) rfl (by rw [ex84]; rfl) (by decide) rfl (fun ls hl => ?_)
                          refine lv_goto (tgt := 155) hx hb dX9_paste_187 (by decide) ?_
                          have t86 : ((61 : Int) - x84.toInt).toNat < ((61 : Int) - (y66.2.1 0).toInt).toNat := (by have f0 := b70; have f1 := k74; have f2 := t80; have f3 := t85; have f4 := k37; have f5 := t64 (a := p5); have f6 := rg32 p5; have f7 := t53; have f8 := b61; have f9 := k63; have f10 := b71; have f11 := t78; have f12 := k31; have f13 := k34; have f14 := t64 (a := p2); have f15 := rg32 p2; have f16 := t39; have f17 := t64 (a := p4); have f18 := rg32 p4; have f19 := t46; have f20 := t51; have f21 := t52; have f22 := b60; have f23 := t76; have f24 := b16; have f25 := b17; have f26 := k44; have f27 := t48; have f28 := k50; have f29 := b15; have f30 := k19; have f31 := t64 (a := x40); have f32 := t64 (a := x47); have f33 := rg32 x47; have f34 := t41; have f35 := rg32 x40; have f36 := b7; have f37 := b8; have f38 := b6; have f39 := k11; have g0 := rg32 (y66.2.1 0); have g4 := rg32 x84; have z0 : (0 : Int32).toInt = 0 := (by decide); have z1 : (1 : Int32).toInt = 1 := (by decide); have w44 := t64 (a := p2); have w45 := t64 (a := p4); have w46 := t64 (a := p5); have w47 := t64 (a := x40); have w48 := t64 (a := x47); omega)
                          exact nl64 (σ82, lf [x84], lg []) ⟨Fr.tr (Fr.tr (Fr.rf) hF68 (fL_sub rfl)) (sB_f eσ82) (fN_L rfl), hJ83, (show (0 : Int) ≤ (x84 : Int32).toInt ∧ (x84 : Int32).toInt ≤ 60 from (by have f0 := t85; have f1 := b70; have f2 := k74; have f3 := t80; have f4 := k37; have f5 := t64 (a := p5); have f6 := rg32 p5; have f7 := t53; have f8 := b61; have f9 := k63; have f10 := b71; have f11 := t78; have f12 := k31; have f13 := k34; have f14 := t64 (a := p2); have f15 := rg32 p2; have f16 := t39; have f17 := t64 (a := p4); have f18 := rg32 p4; have f19 := t46; have f20 := t51; have f21 := t52; have f22 := b60; have f23 := t76; have f24 := b16; have f25 := b17; have f26 := k44; have f27 := t48; have f28 := k50; have f29 := b15; have f30 := k19; have f31 := t64 (a := x40); have f32 := t64 (a := x47); have f33 := rg32 x47; have f34 := t41; have f35 := rg32 x40; have f36 := b7; have f37 := b8; have f38 := b6; have f39 := k11; have g3 := rg32 x84; have z0 : (0 : Int32).toInt = 0 := (by decide); have z1 : (1 : Int32).toInt = 1 := (by decide); have w43 := t64 (a := p2); have w44 := t64 (a := p4); have w45 := t64 (a := p5); have w46 := t64 (a := x40); have w47 := t64 (a := x47); omega)), (show p2.toInt + p5.toInt ≤ 60 ∧ p4.toInt + p5.toInt ≤ 60 from (by have f0 := k31; have f1 := k34; have f2 := k37; have f3 := t64 (a := p2); have f4 := rg32 p2; have f5 := t64 (a := p5); have f6 := rg32 p5; have f7 := t64 (a := p4); have f8 := rg32 p4; have f9 := t51; have f10 := t52; have f11 := t53; have f12 := b61; have f13 := k63; have f14 := b71; have f15 := k74; have f16 := t78; have f17 := t39; have f18 := t46; have f19 := b60; have f20 := b70; have f21 := t76; have f22 := t80; have f23 := t85; have f24 := b16; have f25 := b17; have f26 := k44; have f27 := t48; have f28 := k50; have f29 := b15; have f30 := k19; have f31 := t64 (a := x40); have f32 := t64 (a := x47); have f33 := rg32 x47; have f34 := t41; have f35 := rg32 x40; have f36 := b7; have f37 := b8; have f38 := b6; have f39 := k11; have g0 := rg32 p2; have g2 := rg32 p4; have g4 := rg32 p5; have z0 : (0 : Int32).toInt = 0 := (by decide); have z1 : (1 : Int32).toInt = 1 := (by decide); have w45 := t64 (a := p2); have w46 := t64 (a := p4); have w47 := t64 (a := p5); have w48 := t64 (a := x40); have w49 := t64 (a := x47); omega)), trivial⟩ (show ((61 : Int) - x84.toInt).toNat < _ from by first | exact t86 | (rw [← eσ67]; exact t86)) _ _ _ hP hS (lv_sub hl [0, 1, 2, 3, 4, 5, 6] rfl)
                      ·
                        have k87 := nle32 c62
                        refine lv_aload_n hx hb dX9_paste_125 rfl (lv_at hl 1 rfl) ?_
                        refine g9_4 hx hb hts hown hK hP (hts _ q1364) dX9_paste_126 ?_
                        refine lv_iload hx hb dX9_paste_129 (lv_at hl 0 rfl) ?_
                        refine lv_aload_n hx hb dX9_paste_131 rfl (lv_at hl 1 rfl) ?_
                        refine g9_3 hx hb hts hown hK hP (hts _ q1363) dX9_paste_132 ?_
                        refine lv_bipush (v := 60) hx hb dX9_paste_135 (by decide) ?_
                        refine lv_iload_n hx hb dX9_paste_137 rfl (lv_at hl 2 rfl) ?_
                        refine lv_imul hx hb dX9_paste_138 ?_
                        refine lv_topi (fun x88 ex88 => ?_)
                        have t89 := mulC' (n := 60) ex88 (by decide) (by have f0 := b7; have f1 := b8; have f2 := t41; have f3 := b6; have f4 := k11; have f5 := t64 (a := x40); have f6 := rg32 x40; have f7 := k44; have f8 := t39; have f9 := t64 (a := p2); have f10 := t64 (a := p5); have f11 := t46; have f12 := k31; have f13 := k37; have f14 := rg32 p2; have f15 := rg32 p5; have f16 := t64 (a := p4); have f17 := k50; have f18 := t51; have f19 := t53; have f20 := b61; have f21 := k87; have f22 := k34; have f23 := rg32 p4; have f24 := t64 (a := x47); have f25 := t52; have f26 := b60; have f27 := t48; have f28 := rg32 x47; have f29 := b16; have f30 := b17; have f31 := b15; have f32 := k19; have g0 := rg32 p1; have z0 : (0 : Int32).toInt = 0 := (by decide); have w35 := t64 (a := p2); have w36 := t64 (a := p4); have w37 := t64 (a := p5); have w38 := t64 (a := x40); have w39 := t64 (a := x47); omega)
                        refine lv_iload_n hx hb dX9_paste_139 rfl (lv_at hl 3 rfl) ?_
                        refine lv_iadd hx hb dX9_paste_140 ?_
                        refine lv_topi (fun x90 ex90 => ?_)
                        have t91 := addO ex90 (by have f0 := k31; have f1 := t64 (a := p2); have f2 := rg32 p2; have f3 := t51; have f4 := b61; have f5 := t89; have f6 := b7; have f7 := b8; have f8 := k34; have f9 := k37; have f10 := t64 (a := p5); have f11 := rg32 p5; have f12 := t39; have f13 := t41; have f14 := t64 (a := p4); have f15 := rg32 p4; have f16 := t52; have f17 := t53; have f18 := k87; have f19 := b6; have f20 := k11; have f21 := t64 (a := x40); have f22 := rg32 x40; have f23 := k44; have f24 := t46; have f25 := b60; have f26 := k50; have f27 := t64 (a := x47); have f28 := t48; have f29 := rg32 x47; have f30 := b16; have f31 := b17; have f32 := b15; have f33 := k19; have g0 := rg32 p2; have g4 := rg32 x88; have z0 : (0 : Int32).toInt = 0 := (by decide); have w37 := t64 (a := p2); have w38 := t64 (a := p4); have w39 := t64 (a := p5); have w40 := t64 (a := x40); have w41 := t64 (a := x47); omega)
                        refine lv_iload hx hb dX9_paste_141 (lv_at hl 0 rfl) ?_
                        refine lv_iadd hx hb dX9_paste_143 ?_
                        refine lv_topi (fun x92 ex92 => ?_)
                        have t93 := addO ex92 (by have f0 := b60; have f1 := k87; have f2 := t91; have f3 := k31; have f4 := k37; have f5 := t64 (a := p2); have f6 := rg32 p2; have f7 := t64 (a := p5); have f8 := rg32 p5; have f9 := t51; have f10 := t53; have f11 := b61; have f12 := t89; have f13 := b7; have f14 := b8; have f15 := k34; have f16 := t39; have f17 := t41; have f18 := t64 (a := p4); have f19 := rg32 p4; have f20 := t46; have f21 := t52; have f22 := b6; have f23 := k11; have f24 := t64 (a := x40); have f25 := rg32 x40; have f26 := k44; have f27 := k50; have f28 := t64 (a := x47); have f29 := t48; have f30 := rg32 x47; have f31 := b16; have f32 := b17; have f33 := b15; have f34 := k19; have g0 := rg32 (y56.2.1 0); have g4 := rg32 x90; have z0 : (0 : Int32).toInt = 0 := (by decide); have w38 := t64 (a := p2); have w39 := t64 (a := p4); have w40 := t64 (a := p5); have w41 := t64 (a := x40); have w42 := t64 (a := x47); omega)
                        obtain ⟨x94, ex94⟩ : ∃ z, (σ 9).2.2.2 3 x92.toInt.toNat = z := ⟨_, rfl⟩
                        refine l9_3 (x := x94) hx hb hK hP (vpo (by have f0 := t93; have f1 := b60; have f2 := k87; have f3 := t91; have f4 := k31; have f5 := k37; have f6 := t64 (a := p2); have f7 := rg32 p2; have f8 := t64 (a := p5); have f9 := rg32 p5; have f10 := t51; have f11 := t53; have f12 := b61; have f13 := t89; have f14 := b7; have f15 := b8; have f16 := k34; have f17 := t39; have f18 := t41; have f19 := t64 (a := p4); have f20 := rg32 p4; have f21 := t46; have f22 := t52; have f23 := b6; have f24 := k11; have f25 := t64 (a := x40); have f26 := rg32 x40; have f27 := k44; have f28 := k50; have f29 := t64 (a := x47); have f30 := t48; have f31 := rg32 x47; have f32 := b16; have f33 := b17; have f34 := b15; have f35 := k19; have g3 := rg32 x92; have z0 : (0 : Int32).toInt = 0 := (by decide); have w38 := t64 (a := p2); have w39 := t64 (a := p4); have w40 := t64 (a := p5); have w41 := t64 (a := x40); have w42 := t64 (a := x47); omega)) ((congrFun (((hF58 9 3 rfl).2.2.2).trans (((sI_f eσ1) 9 3 rfl).2.2.2)) _).trans ex94) dX9_paste_144 ?_
                        refine t9_4 hx hb hK hP hD hS (vpo (by have f0 := b60; have f1 := k87; have f2 := t93; have f3 := k37; have f4 := t64 (a := p5); have f5 := rg32 p5; have f6 := t53; have f7 := b61; have f8 := t91; have f9 := k31; have f10 := k34; have f11 := t64 (a := p2); have f12 := rg32 p2; have f13 := t39; have f14 := t64 (a := p4); have f15 := rg32 p4; have f16 := t46; have f17 := t51; have f18 := t52; have f19 := t89; have f20 := b7; have f21 := b8; have f22 := t41; have f23 := k44; have f24 := k50; have f25 := b6; have f26 := k11; have f27 := t64 (a := x40); have f28 := rg32 x40; have f29 := t64 (a := x47); have f30 := t48; have f31 := rg32 x47; have f32 := b16; have f33 := b17; have f34 := b15; have f35 := k19; have g0 := rg32 (y56.2.1 0); have z0 : (0 : Int32).toInt = 0 := (by decide); have w38 := t64 (a := p2); have w39 := t64 (a := p4); have w40 := t64 (a := p5); have w41 := t64 (a := x40); have w42 := t64 (a := x47); omega)) dX9_paste_145 (fun H locs σ95 eσ95 hP hS => ?_)
                        have hJ96 : J9 (σ95 9) := hJ59.B eσ95
                        obtain ⟨x97, ex97⟩ : ∃ y : Int32, y = (y56.2.1 0) + 1 := ⟨_, rfl⟩
                        have t98 := addO ex97 (by have f0 := b60; have f1 := k87; have f2 := t93; have f3 := k37; have f4 := t64 (a := p5); have f5 := rg32 p5; have f6 := t53; have f7 := b61; have f8 := t91; have f9 := k31; have f10 := k34; have f11 := t64 (a := p2); have f12 := rg32 p2; have f13 := t39; have f14 := t64 (a := p4); have f15 := rg32 p4; have f16 := t46; have f17 := t51; have f18 := t52; have f19 := t89; have f20 := b7; have f21 := b8; have f22 := t41; have f23 := k44; have f24 := k50; have f25 := b6; have f26 := k11; have f27 := t64 (a := x40); have f28 := rg32 x40; have f29 := t64 (a := x47); have f30 := t48; have f31 := rg32 x47; have f32 := b16; have f33 := b17; have f34 := b15; have f35 := k19; have g0 := rg32 (y56.2.1 0); have z0 : (0 : Int32).toInt = 0 := (by decide); have z1 : (1 : Int32).toInt = 1 := (by decide); have w39 := t64 (a := p2); have w40 := t64 (a := p4); have w41 := t64 (a := p5); have w42 := t64 (a := x40); have w43 := t64 (a := x47); omega)
                        refine lv_iinc (v := x97) (lv' := [(6, .int x97), (0, .ref (g 60)), (1, .int p1), (2, .int p2), (3, .int p3), (4, .int p4), (5, .int p5)]) hx hb dX9_paste_146 hl (k := 0) rfl (by rw [ex97]; rfl) (by decide) rfl (fun ls hl => ?_)
                        refine lv_goto (tgt := 118) hx hb dX9_paste_149 (by decide) ?_
                        have t99 : ((61 : Int) - x97.toInt).toNat < ((61 : Int) - (y56.2.1 0).toInt).toNat := (by have f0 := b60; have f1 := k87; have f2 := t93; have f3 := t98; have f4 := k37; have f5 := t64 (a := p5); have f6 := rg32 p5; have f7 := t53; have f8 := b61; have f9 := t91; have f10 := k31; have f11 := k34; have f12 := t64 (a := p2); have f13 := rg32 p2; have f14 := t39; have f15 := t64 (a := p4); have f16 := rg32 p4; have f17 := t46; have f18 := t51; have f19 := t52; have f20 := t89; have f21 := b7; have f22 := b8; have f23 := t41; have f24 := k44; have f25 := k50; have f26 := b6; have f27 := k11; have f28 := t64 (a := x40); have f29 := rg32 x40; have f30 := t64 (a := x47); have f31 := t48; have f32 := rg32 x47; have f33 := b16; have f34 := b17; have f35 := b15; have f36 := k19; have g0 := rg32 (y56.2.1 0); have g4 := rg32 x97; have z0 : (0 : Int32).toInt = 0 := (by decide); have z1 : (1 : Int32).toInt = 1 := (by decide); have w41 := t64 (a := p2); have w42 := t64 (a := p4); have w43 := t64 (a := p5); have w44 := t64 (a := x40); have w45 := t64 (a := x47); omega)
                        exact nl54 (σ95, lf [x97], lg []) ⟨Fr.tr (Fr.tr (Fr.rf) hF58 (fL_sub rfl)) (sB_f eσ95) (fN_L rfl), hJ96, (show (0 : Int) ≤ (x97 : Int32).toInt ∧ (x97 : Int32).toInt ≤ 60 from (by have f0 := t98; have f1 := b60; have f2 := k87; have f3 := t93; have f4 := k37; have f5 := t64 (a := p5); have f6 := rg32 p5; have f7 := t53; have f8 := b61; have f9 := t91; have f10 := k31; have f11 := k34; have f12 := t64 (a := p2); have f13 := rg32 p2; have f14 := t39; have f15 := t64 (a := p4); have f16 := rg32 p4; have f17 := t46; have f18 := t51; have f19 := t52; have f20 := t89; have f21 := b7; have f22 := b8; have f23 := t41; have f24 := k44; have f25 := k50; have f26 := b6; have f27 := k11; have f28 := t64 (a := x40); have f29 := rg32 x40; have f30 := t64 (a := x47); have f31 := t48; have f32 := rg32 x47; have f33 := b16; have f34 := b17; have f35 := b15; have f36 := k19; have g3 := rg32 x97; have z0 : (0 : Int32).toInt = 0 := (by decide); have z1 : (1 : Int32).toInt = 1 := (by decide); have w40 := t64 (a := p2); have w41 := t64 (a := p4); have w42 := t64 (a := p5); have w43 := t64 (a := x40); have w44 := t64 (a := x47); omega)), (show p2.toInt + p5.toInt ≤ 60 ∧ p4.toInt + p5.toInt ≤ 60 from (by have f0 := k31; have f1 := k34; have f2 := k37; have f3 := t64 (a := p2); have f4 := rg32 p2; have f5 := t64 (a := p5); have f6 := rg32 p5; have f7 := t64 (a := p4); have f8 := rg32 p4; have f9 := t51; have f10 := t52; have f11 := t53; have f12 := b61; have f13 := k87; have f14 := t91; have f15 := t39; have f16 := t46; have f17 := b60; have f18 := t89; have f19 := t93; have f20 := t98; have f21 := b7; have f22 := b8; have f23 := t41; have f24 := k44; have f25 := k50; have f26 := b6; have f27 := k11; have f28 := t64 (a := x40); have f29 := rg32 x40; have f30 := t64 (a := x47); have f31 := t48; have f32 := rg32 x47; have f33 := b16; have f34 := b17; have f35 := b15; have f36 := k19; have g0 := rg32 p2; have g2 := rg32 p4; have g4 := rg32 p5; have z0 : (0 : Int32).toInt = 0 := (by decide); have z1 : (1 : Int32).toInt = 1 := (by decide); have w42 := t64 (a := p2); have w43 := t64 (a := p4); have w44 := t64 (a := p5); have w45 := t64 (a := x40); have w46 := t64 (a := x47); omega)), trivial⟩ (show ((61 : Int) - x97.toInt).toNat < _ from by first | exact t99 | (rw [← eσ57]; exact t99)) _ _ _ hP hS (lv_sub hl [0, 1, 2, 3, 4, 5, 6] rfl)
                    ·
                      have k100 := nle64 (fun q => c49 ((lg_cmp_le x45 x47.toInt64).mpr q))
                      refine lv_bipush (v := (-7)) hx hb dX9_paste_112 (by decide) ?_
                      exact W.iret (v := (-7)) hx hb hr (fun tS ht hW => ⟨⟨(-7), σ1, rfl, ⟨Fr.tr (Fr.rf) (sI_f eσ1) (fN_L rfl), hJ2, (show (¬ (0 ≤ p1.toInt ∧ p1.toInt ≤ 3 ∧ 0 ≤ p3.toInt ∧ p3.toInt ≤ 3) ∧ ((-7) : Int32).toInt = -2) ∨ (0 ≤ p1.toInt ∧ p1.toInt ≤ 3 ∧ 0 ≤ p3.toInt ∧ p3.toInt ≤ 3 ∧ ¬ (¬ ((σ 9).2.2.1 1 (p1.toInt.toNat)).toInt = -1 ∧ ¬ ((σ 9).2.2.1 1 (p3.toInt.toNat)).toInt = -1) ∧ ((-7) : Int32).toInt = -6) ∨ (0 ≤ p1.toInt ∧ p1.toInt ≤ 3 ∧ 0 ≤ p3.toInt ∧ p3.toInt ≤ 3 ∧ ¬ ((σ 9).2.2.1 1 (p1.toInt.toNat)).toInt = -1 ∧ ¬ ((σ 9).2.2.1 1 (p3.toInt.toNat)).toInt = -1 ∧ ¬ ((σ 9).2.2.1 1 (p1.toInt.toNat)).toInt = ((σ 9).2.2.1 1 (p3.toInt.toNat)).toInt ∧ ((-7) : Int32).toInt = -8) ∨ (0 ≤ p1.toInt ∧ p1.toInt ≤ 3 ∧ 0 ≤ p3.toInt ∧ p3.toInt ≤ 3 ∧ ¬ ((σ 9).2.2.1 1 (p1.toInt.toNat)).toInt = -1 ∧ ¬ ((σ 9).2.2.1 1 (p3.toInt.toNat)).toInt = -1 ∧ ((σ 9).2.2.1 1 (p1.toInt.toNat)).toInt = ((σ 9).2.2.1 1 (p3.toInt.toNat)).toInt ∧ ¬ (0 ≤ p2.toInt ∧ 0 ≤ p4.toInt ∧ 0 ≤ p5.toInt ∧ p2.toInt + p5.toInt ≤ ((σ 9).2.2.1 2 (p1.toInt.toNat)).toInt ∧ p4.toInt + p5.toInt ≤ ((σ 9).2.2.1 2 (p3.toInt.toNat)).toInt) ∧ ((-7) : Int32).toInt = -7) ∨ (0 ≤ p1.toInt ∧ p1.toInt ≤ 3 ∧ 0 ≤ p3.toInt ∧ p3.toInt ≤ 3 ∧ ¬ ((σ 9).2.2.1 1 (p1.toInt.toNat)).toInt = -1 ∧ ¬ ((σ 9).2.2.1 1 (p3.toInt.toNat)).toInt = -1 ∧ ((σ 9).2.2.1 1 (p1.toInt.toNat)).toInt = ((σ 9).2.2.1 1 (p3.toInt.toNat)).toInt ∧ 0 ≤ p2.toInt ∧ 0 ≤ p4.toInt ∧ 0 ≤ p5.toInt ∧ p2.toInt + p5.toInt ≤ ((σ 9).2.2.1 2 (p1.toInt.toNat)).toInt ∧ p4.toInt + p5.toInt ≤ ((σ 9).2.2.1 2 (p3.toInt.toNat)).toInt ∧ ((-7) : Int32).toInt = 0) from (by rw [ex20, ex40, ex24, ex47]; have f0 := b7; have f1 := b8; have f2 := b16; have f3 := b17; have f4 := k23; have f5 := k26; have f6 := k28; have f7 := k31; have f8 := k34; have f9 := k37; have f10 := t64 (a := p2); have f11 := rg32 p2; have f12 := t64 (a := p5); have f13 := rg32 p5; have f14 := t41; have f15 := t64 (a := x40); have f16 := rg32 x40; have f17 := t64 (a := p4); have f18 := rg32 p4; have f19 := t48; have f20 := t64 (a := x47); have f21 := rg32 x47; have f22 := b6; have f23 := k11; have f24 := b15; have f25 := k19; have f26 := t39; have f27 := k44; have f28 := t46; have f29 := k100; have g4 := rg32 p1; have g5 := rg32 p2; have g7 := rg32 p3; have g8 := rg32 p4; have g10 := rg32 p5; have g12 := rg32 x20; have g13 := rg32 x24; have g14 := rg32 x40; have g16 := rg32 x47; have zm7 : ((-7) : Int32).toInt = (-7) := (by decide); have zm1 : ((-1) : Int32).toInt = (-1) := (by decide); have z0 : (0 : Int32).toInt = 0 := (by decide); have w42 := t64 (a := p2); have w43 := t64 (a := p4); have w44 := t64 (a := p5); have w45 := t64 (a := x40); have w46 := t64 (a := x47); exact (Or.inr (Or.inr (Or.inr (Or.inl (by omega))))))), trivial⟩, (show va_P D clz (WD9 cy g σ1) tS.heap by rw [ht]; exact hP)⟩, hS.F ht⟩) hS.2.2 dX9_paste_114
          ·
            have k101 := neq32 c27
            refine lv_bipush (v := (-8)) hx hb dX9_paste_60 (by decide) ?_
            exact W.iret (v := (-8)) hx hb hr (fun tS ht hW => ⟨⟨(-8), σ1, rfl, ⟨Fr.tr (Fr.rf) (sI_f eσ1) (fN_L rfl), hJ2, (show (¬ (0 ≤ p1.toInt ∧ p1.toInt ≤ 3 ∧ 0 ≤ p3.toInt ∧ p3.toInt ≤ 3) ∧ ((-8) : Int32).toInt = -2) ∨ (0 ≤ p1.toInt ∧ p1.toInt ≤ 3 ∧ 0 ≤ p3.toInt ∧ p3.toInt ≤ 3 ∧ ¬ (¬ ((σ 9).2.2.1 1 (p1.toInt.toNat)).toInt = -1 ∧ ¬ ((σ 9).2.2.1 1 (p3.toInt.toNat)).toInt = -1) ∧ ((-8) : Int32).toInt = -6) ∨ (0 ≤ p1.toInt ∧ p1.toInt ≤ 3 ∧ 0 ≤ p3.toInt ∧ p3.toInt ≤ 3 ∧ ¬ ((σ 9).2.2.1 1 (p1.toInt.toNat)).toInt = -1 ∧ ¬ ((σ 9).2.2.1 1 (p3.toInt.toNat)).toInt = -1 ∧ ¬ ((σ 9).2.2.1 1 (p1.toInt.toNat)).toInt = ((σ 9).2.2.1 1 (p3.toInt.toNat)).toInt ∧ ((-8) : Int32).toInt = -8) ∨ (0 ≤ p1.toInt ∧ p1.toInt ≤ 3 ∧ 0 ≤ p3.toInt ∧ p3.toInt ≤ 3 ∧ ¬ ((σ 9).2.2.1 1 (p1.toInt.toNat)).toInt = -1 ∧ ¬ ((σ 9).2.2.1 1 (p3.toInt.toNat)).toInt = -1 ∧ ((σ 9).2.2.1 1 (p1.toInt.toNat)).toInt = ((σ 9).2.2.1 1 (p3.toInt.toNat)).toInt ∧ ¬ (0 ≤ p2.toInt ∧ 0 ≤ p4.toInt ∧ 0 ≤ p5.toInt ∧ p2.toInt + p5.toInt ≤ ((σ 9).2.2.1 2 (p1.toInt.toNat)).toInt ∧ p4.toInt + p5.toInt ≤ ((σ 9).2.2.1 2 (p3.toInt.toNat)).toInt) ∧ ((-8) : Int32).toInt = -7) ∨ (0 ≤ p1.toInt ∧ p1.toInt ≤ 3 ∧ 0 ≤ p3.toInt ∧ p3.toInt ≤ 3 ∧ ¬ ((σ 9).2.2.1 1 (p1.toInt.toNat)).toInt = -1 ∧ ¬ ((σ 9).2.2.1 1 (p3.toInt.toNat)).toInt = -1 ∧ ((σ 9).2.2.1 1 (p1.toInt.toNat)).toInt = ((σ 9).2.2.1 1 (p3.toInt.toNat)).toInt ∧ 0 ≤ p2.toInt ∧ 0 ≤ p4.toInt ∧ 0 ≤ p5.toInt ∧ p2.toInt + p5.toInt ≤ ((σ 9).2.2.1 2 (p1.toInt.toNat)).toInt ∧ p4.toInt + p5.toInt ≤ ((σ 9).2.2.1 2 (p3.toInt.toNat)).toInt ∧ ((-8) : Int32).toInt = 0) from (by rw [ex20, ex24]; have f0 := b7; have f1 := b8; have f2 := b16; have f3 := b17; have f4 := k23; have f5 := k26; have f6 := k101; have f7 := b6; have f8 := k11; have f9 := b15; have f10 := k19; have g4 := rg32 p1; have g5 := rg32 p2; have g6 := rg32 p3; have g7 := rg32 p4; have g8 := rg32 p5; have g9 := rg32 x20; have g10 := rg32 x24; have zm8 : ((-8) : Int32).toInt = (-8) := (by decide); have zm1 : ((-1) : Int32).toInt = (-1) := (by decide); have z0 : (0 : Int32).toInt = 0 := (by decide); exact (Or.inr (Or.inr (Or.inl (by omega)))))), trivial⟩, (show va_P D clz (WD9 cy g σ1) tS.heap by rw [ht]; exact hP)⟩, hS.F ht⟩) hS.2.2 dX9_paste_62
        ·
          have k102 := peq32 c25
          refine lv_bipush (v := (-6)) hx hb dX9_paste_42 (by decide) ?_
          exact W.iret (v := (-6)) hx hb hr (fun tS ht hW => ⟨⟨(-6), σ1, rfl, ⟨Fr.tr (Fr.rf) (sI_f eσ1) (fN_L rfl), hJ2, (show (¬ (0 ≤ p1.toInt ∧ p1.toInt ≤ 3 ∧ 0 ≤ p3.toInt ∧ p3.toInt ≤ 3) ∧ ((-6) : Int32).toInt = -2) ∨ (0 ≤ p1.toInt ∧ p1.toInt ≤ 3 ∧ 0 ≤ p3.toInt ∧ p3.toInt ≤ 3 ∧ ¬ (¬ ((σ 9).2.2.1 1 (p1.toInt.toNat)).toInt = -1 ∧ ¬ ((σ 9).2.2.1 1 (p3.toInt.toNat)).toInt = -1) ∧ ((-6) : Int32).toInt = -6) ∨ (0 ≤ p1.toInt ∧ p1.toInt ≤ 3 ∧ 0 ≤ p3.toInt ∧ p3.toInt ≤ 3 ∧ ¬ ((σ 9).2.2.1 1 (p1.toInt.toNat)).toInt = -1 ∧ ¬ ((σ 9).2.2.1 1 (p3.toInt.toNat)).toInt = -1 ∧ ¬ ((σ 9).2.2.1 1 (p1.toInt.toNat)).toInt = ((σ 9).2.2.1 1 (p3.toInt.toNat)).toInt ∧ ((-6) : Int32).toInt = -8) ∨ (0 ≤ p1.toInt ∧ p1.toInt ≤ 3 ∧ 0 ≤ p3.toInt ∧ p3.toInt ≤ 3 ∧ ¬ ((σ 9).2.2.1 1 (p1.toInt.toNat)).toInt = -1 ∧ ¬ ((σ 9).2.2.1 1 (p3.toInt.toNat)).toInt = -1 ∧ ((σ 9).2.2.1 1 (p1.toInt.toNat)).toInt = ((σ 9).2.2.1 1 (p3.toInt.toNat)).toInt ∧ ¬ (0 ≤ p2.toInt ∧ 0 ≤ p4.toInt ∧ 0 ≤ p5.toInt ∧ p2.toInt + p5.toInt ≤ ((σ 9).2.2.1 2 (p1.toInt.toNat)).toInt ∧ p4.toInt + p5.toInt ≤ ((σ 9).2.2.1 2 (p3.toInt.toNat)).toInt) ∧ ((-6) : Int32).toInt = -7) ∨ (0 ≤ p1.toInt ∧ p1.toInt ≤ 3 ∧ 0 ≤ p3.toInt ∧ p3.toInt ≤ 3 ∧ ¬ ((σ 9).2.2.1 1 (p1.toInt.toNat)).toInt = -1 ∧ ¬ ((σ 9).2.2.1 1 (p3.toInt.toNat)).toInt = -1 ∧ ((σ 9).2.2.1 1 (p1.toInt.toNat)).toInt = ((σ 9).2.2.1 1 (p3.toInt.toNat)).toInt ∧ 0 ≤ p2.toInt ∧ 0 ≤ p4.toInt ∧ 0 ≤ p5.toInt ∧ p2.toInt + p5.toInt ≤ ((σ 9).2.2.1 2 (p1.toInt.toNat)).toInt ∧ p4.toInt + p5.toInt ≤ ((σ 9).2.2.1 2 (p3.toInt.toNat)).toInt ∧ ((-6) : Int32).toInt = 0) from (by rw [ex20, ex24]; have f0 := b7; have f1 := b8; have f2 := b16; have f3 := b17; have f4 := k23; have f5 := k102; have f6 := b6; have f7 := k11; have f8 := b15; have f9 := k19; have g4 := rg32 p1; have g5 := rg32 p2; have g6 := rg32 p3; have g7 := rg32 p4; have g8 := rg32 p5; have g9 := rg32 x20; have g10 := rg32 x24; have zm6 : ((-6) : Int32).toInt = (-6) := (by decide); have zm1 : ((-1) : Int32).toInt = (-1) := (by decide); have z0 : (0 : Int32).toInt = 0 := (by decide); exact (Or.inr (Or.inl (by omega))))), trivial⟩, (show va_P D clz (WD9 cy g σ1) tS.heap by rw [ht]; exact hP)⟩, hS.F ht⟩) hS.2.2 dX9_paste_44
    ·
      have k103 := peq32 c18
      refine lv_bipush (v := (-2)) hx hb dX9_paste_19 (by decide) ?_
      exact W.iret (v := (-2)) hx hb hr (fun tS ht hW => ⟨⟨(-2), σ1, rfl, ⟨Fr.tr (Fr.rf) (sI_f eσ1) (fN_L rfl), hJ2, (show (¬ (0 ≤ p1.toInt ∧ p1.toInt ≤ 3 ∧ 0 ≤ p3.toInt ∧ p3.toInt ≤ 3) ∧ ((-2) : Int32).toInt = -2) ∨ (0 ≤ p1.toInt ∧ p1.toInt ≤ 3 ∧ 0 ≤ p3.toInt ∧ p3.toInt ≤ 3 ∧ ¬ (¬ ((σ 9).2.2.1 1 (p1.toInt.toNat)).toInt = -1 ∧ ¬ ((σ 9).2.2.1 1 (p3.toInt.toNat)).toInt = -1) ∧ ((-2) : Int32).toInt = -6) ∨ (0 ≤ p1.toInt ∧ p1.toInt ≤ 3 ∧ 0 ≤ p3.toInt ∧ p3.toInt ≤ 3 ∧ ¬ ((σ 9).2.2.1 1 (p1.toInt.toNat)).toInt = -1 ∧ ¬ ((σ 9).2.2.1 1 (p3.toInt.toNat)).toInt = -1 ∧ ¬ ((σ 9).2.2.1 1 (p1.toInt.toNat)).toInt = ((σ 9).2.2.1 1 (p3.toInt.toNat)).toInt ∧ ((-2) : Int32).toInt = -8) ∨ (0 ≤ p1.toInt ∧ p1.toInt ≤ 3 ∧ 0 ≤ p3.toInt ∧ p3.toInt ≤ 3 ∧ ¬ ((σ 9).2.2.1 1 (p1.toInt.toNat)).toInt = -1 ∧ ¬ ((σ 9).2.2.1 1 (p3.toInt.toNat)).toInt = -1 ∧ ((σ 9).2.2.1 1 (p1.toInt.toNat)).toInt = ((σ 9).2.2.1 1 (p3.toInt.toNat)).toInt ∧ ¬ (0 ≤ p2.toInt ∧ 0 ≤ p4.toInt ∧ 0 ≤ p5.toInt ∧ p2.toInt + p5.toInt ≤ ((σ 9).2.2.1 2 (p1.toInt.toNat)).toInt ∧ p4.toInt + p5.toInt ≤ ((σ 9).2.2.1 2 (p3.toInt.toNat)).toInt) ∧ ((-2) : Int32).toInt = -7) ∨ (0 ≤ p1.toInt ∧ p1.toInt ≤ 3 ∧ 0 ≤ p3.toInt ∧ p3.toInt ≤ 3 ∧ ¬ ((σ 9).2.2.1 1 (p1.toInt.toNat)).toInt = -1 ∧ ¬ ((σ 9).2.2.1 1 (p3.toInt.toNat)).toInt = -1 ∧ ((σ 9).2.2.1 1 (p1.toInt.toNat)).toInt = ((σ 9).2.2.1 1 (p3.toInt.toNat)).toInt ∧ 0 ≤ p2.toInt ∧ 0 ≤ p4.toInt ∧ 0 ≤ p5.toInt ∧ p2.toInt + p5.toInt ≤ ((σ 9).2.2.1 2 (p1.toInt.toNat)).toInt ∧ p4.toInt + p5.toInt ≤ ((σ 9).2.2.1 2 (p3.toInt.toNat)).toInt ∧ ((-2) : Int32).toInt = 0) from (by have f0 := b7; have f1 := b8; have f2 := b16; have f3 := b17; have f4 := b6; have f5 := k11; have f6 := b15; have f7 := k103; have g4 := rg32 p1; have g5 := rg32 p2; have g6 := rg32 p3; have g7 := rg32 p4; have g8 := rg32 p5; have zm2 : ((-2) : Int32).toInt = (-2) := (by decide); have z0 : (0 : Int32).toInt = 0 := (by decide); exact (Or.inl (by omega)))), trivial⟩, (show va_P D clz (WD9 cy g σ1) tS.heap by rw [ht]; exact hP)⟩, hS.F ht⟩) hS.2.2 dX9_paste_21

theorem q1567 : Cond.code yX9_feed cX9_feed 6 (some .int) ∈ lw_g := lw_gm (List.mem_of_getElem? (i := 1567) (by decide +kernel)) rfl
theorem q1568 : Cond.methodLink RX9 149 yX9_four ∈ lw_g := lw_gm (List.mem_of_getElem? (i := 1568) (by decide +kernel)) rfl
theorem q1570 : Cond.instanceMethod yX9_four ∈ lw_g := lw_gm (List.mem_of_getElem? (i := 1570) (by decide +kernel)) rfl
theorem q49 : Cond.selects RX9 yX9_four yX9_four ∈ lw_g := lw_gm (List.mem_of_getElem? (i := 49) (by decide +kernel)) rfl
theorem dX9_feed_0 : decode cX9_feed 0 = .ok (.aload_n 0, 1) := by decide +kernel
theorem dX9_feed_1 : decode cX9_feed 1 = .ok (.iconst 0, 1) := by decide +kernel
theorem dX9_feed_2 : decode cX9_feed 2 = .ok (.putfield 129, 3) := by decide +kernel
theorem dX9_feed_5 : decode cX9_feed 5 = .ok (.aload_n 0, 1) := by decide +kernel
theorem dX9_feed_6 : decode cX9_feed 6 = .ok (.getfield 146, 3) := by decide +kernel
theorem dX9_feed_9 : decode cX9_feed 9 = .ok (.bipush 20, 2) := by decide +kernel
theorem dX9_feed_11 : decode cX9_feed 11 = .ok (.iadd, 1) := by decide +kernel
theorem dX9_feed_12 : decode cX9_feed 12 = .ok (.sipush 2000, 3) := by decide +kernel
theorem dX9_feed_15 : decode cX9_feed 15 = .ok (.if_icmp .le 5, 3) := by decide +kernel
theorem dX9_feed_18 : decode cX9_feed 18 = .ok (.iconst (-1), 1) := by decide +kernel
theorem dX9_feed_19 : decode cX9_feed 19 = .ok (.ireturn, 1) := by decide +kernel
theorem dX9_feed_20 : decode cX9_feed 20 = .ok (.aload_n 0, 1) := by decide +kernel
theorem dX9_feed_21 : decode cX9_feed 21 = .ok (.iload_n 1, 1) := by decide +kernel
theorem dX9_feed_22 : decode cX9_feed 22 = .ok (.invokevirtual 149, 3) := by decide +kernel
theorem dX9_feed_25 : decode cX9_feed 25 = .ok (.aload_n 0, 1) := by decide +kernel
theorem dX9_feed_26 : decode cX9_feed 26 = .ok (.iload_n 2, 1) := by decide +kernel
theorem dX9_feed_27 : decode cX9_feed 27 = .ok (.invokevirtual 149, 3) := by decide +kernel
theorem dX9_feed_30 : decode cX9_feed 30 = .ok (.aload_n 0, 1) := by decide +kernel
theorem dX9_feed_31 : decode cX9_feed 31 = .ok (.iload_n 3, 1) := by decide +kernel
theorem dX9_feed_32 : decode cX9_feed 32 = .ok (.invokevirtual 149, 3) := by decide +kernel
theorem dX9_feed_35 : decode cX9_feed 35 = .ok (.aload_n 0, 1) := by decide +kernel
theorem dX9_feed_36 : decode cX9_feed 36 = .ok (.iload 4, 2) := by decide +kernel
theorem dX9_feed_38 : decode cX9_feed 38 = .ok (.invokevirtual 149, 3) := by decide +kernel
theorem dX9_feed_41 : decode cX9_feed 41 = .ok (.aload_n 0, 1) := by decide +kernel
theorem dX9_feed_42 : decode cX9_feed 42 = .ok (.iload 5, 2) := by decide +kernel
theorem dX9_feed_44 : decode cX9_feed 44 = .ok (.invokevirtual 149, 3) := by decide +kernel
theorem dX9_feed_47 : decode cX9_feed 47 = .ok (.aload_n 0, 1) := by decide +kernel
theorem dX9_feed_48 : decode cX9_feed 48 = .ok (.getfield 146, 3) := by decide +kernel
theorem dX9_feed_51 : decode cX9_feed 51 = .ok (.ireturn, 1) := by decide +kernel
set_option maxHeartbeats 4000000 in
set_option maxRecDepth 100000 in
theorem m_X9_feed (l : Launch) (D : va_G) (cy : Nat → ClassId) (g : Nat → Nat) (σ : ST) (p1 : Int32) (p2 : Int32) (p3 : Int32) (p4 : Int32) (p5 : Int32) (sz : Nat) (hJ : J9 (σ 9))  : Met l yX9_feed (ww yX9_feed cX9_feed 6 (some .int)) ({ frames := 2, cells := 0, slots := 0, locals := 128 }) (va_Pc [.ref (g 60), .int p1, .int p2, .int p3, .int p4, .int p5] (pr9 D cy g σ sz)) (qi9 D cy g sz (fun r τ => Fr (fL [0, 5, 6]) σ τ ∧ J9 (τ 9) ∧ True)) 0 0 (A9 cy g sz) := by
  refine Met.ofW (cc := cX9_feed) (maxL := 6) (ret := (some .int)) (by decide) rfl ?_
  intro p e s m args below meth c s₁ B hml hv
  obtain ⟨rfl, hsz, hP, hK, hD0, hC⟩ := hv
  have hx := B.exec
  have hb := B.bytes
  have hr := B.returns
  have hts := hts_g (atoms_spec (ws := ww yX9_feed cX9_feed 6 (some .int)) B.pre)
  have hown : s.vm.findClass RX9 = some m.cls := findClass_of_methodNamed B.named
  have hlocks := B.notSynchronized
  clear B
  subst hsz
  have hD := fun τ => A9_D (sz := s.heap.size) hD0 τ
  clear hD0
  have hS : va_S (A9 cy g s.heap.size) s.heap s.heap [] := va_S.rf
  have hl := lv_entry ([.ref (g 60), .int p1, .int p2, .int p3, .int p4, .int p5]) (n := 6) (Nat.le_of_ble_eq_true rfl)
  rw [lg_entry_eq]
  generalize (lg_sl ([.ref (g 60), .int p1, .int p2, .int p3, .int p4, .int p5]) ++ List.replicate (6 - (lg_sl ([.ref (g 60), .int p1, .int p2, .int p3, .int p4, .int p5])).length) Slot.unset).toArray = ls at hl ⊢
  have hl : lv_has ls 6 [(0, .ref (g 60)), (1, .int p1), (2, .int p2), (3, .int p3), (4, .int p4), (5, .int p5)] := hl
  refine lv_aload_n hx hb dX9_feed_0 rfl (lv_at hl 0 rfl) ?_
  refine lv_iconst (v := 0) hx hb dX9_feed_1 (by decide) ?_
  refine p9_0 hx hb hts hown hK hP hD hS (hts _ q1360) dX9_feed_2 (fun H locs σ1 eσ1 hP hS => ?_)
  have hJ2 : J9 (σ1 9) := hJ.I eσ1 (show JI9 0 (0 : Int32) from trivial)
  refine lv_aload_n hx hb dX9_feed_5 rfl (lv_at hl 0 rfl) ?_
  refine g9_6 (x := ((σ 9).1 6)) hx hb hts hown hK hP (((sI_f eσ1) 9 6 rfl).1) (hts _ q1366) dX9_feed_6 ?_
  refine lv_bipush (v := 20) hx hb dX9_feed_9 (by decide) ?_
  refine lv_iadd hx hb dX9_feed_11 ?_
  refine lv_topi (fun x3 ex3 => ?_)
  have t4 := addO ex3 (by have f0 := j9_6 hJ rfl; have z20 : (20 : Int32).toInt = 20 := (by decide); omega)
  refine lv_sipush (v := 2000) hx hb dX9_feed_12 (by decide) ?_
  refine lv_icmp_le (tgt := 20) hx hb dX9_feed_15 (by decide) (fun c5 => ?_) (fun c5 => ?_)
  ·
    have k6 := ple32 c5
    refine lv_aload_n hx hb dX9_feed_20 rfl (lv_at hl 0 rfl) ?_
    refine lv_iload_n hx hb dX9_feed_21 rfl (lv_at hl 1 rfl) ?_
    refine va_callv (va_runV (As := [.int p1]) (rest := []) ⟨hx, hb, hml, hown, hts⟩ (m_X9_four l D cy g σ1 p1 _ hJ2 (show ((σ1 9).1 6).toInt ≤ 1996 from (by have f0 := j9_6 hJ2 rfl; have f1 := congrArg Int32.toInt (show ((σ1 9).1 6) = ((σ 9).1 6) from ((sI_f eσ1) 9 6 rfl).1); have f2 := j9_6 hJ rfl; have f3 := t4; have f4 := k6; have z20 : (20 : Int32).toInt = 20 := (by decide); have z2000 : (2000 : Int32).toInt = 2000 := (by decide); omega))) (cwV 1 hts (gd_V q1568 q1570 q49 q134 q1571) rfl rfl rfl (by decide +kernel) ⟨Nat.le_of_ble_eq_true rfl, Nat.le_of_ble_eq_true rfl⟩) (pv9 hP hK hD hC hS (va_recv hK hP (ci := 9) (q0 := 0) rfl rfl)) rfl rfl hl.1 rfl (lv_room (Nat.le_of_ble_eq_true rfl)) dX9_feed_22 ⟨Nat.le_of_ble_eq_true rfl, Nat.le_of_ble_eq_true rfl⟩) hS (fun q _ h => up9 hS q h) (up9 hS) (fun σ8 tS H1 locs ht hvm hw9 hB hz1 hk1 hS => ?_)
    have hP : va_P D clz (WD9 cy g σ8) H1 := by rw [← ht]; exact hB
    clear hB hz1 hk1 hvm ht
    generalize H1 = H at hP hS ⊢
    have hF10 : Fr (fL [5, 6]) σ1 σ8 := hw9.1
    have hJ11 : J9 (σ8 9) := hw9.2.1
    have b12 : ((σ8 9).1 6).toInt = ((σ1 9).1 6).toInt + 4 := hw9.2.2.1
    refine lv_aload_n hx hb dX9_feed_25 rfl (lv_at hl 0 rfl) ?_
    refine lv_iload_n hx hb dX9_feed_26 rfl (lv_at hl 2 rfl) ?_
    refine va_callv (va_runV (As := [.int p2]) (rest := []) ⟨hx, hb, hml, hown, hts⟩ (m_X9_four l D cy g σ8 p2 _ hJ11 (show ((σ8 9).1 6).toInt ≤ 1996 from (by have f0 := j9_6 hJ11 rfl; have f1 := b12; have f2 := j9_6 hJ2 rfl; have f3 := congrArg Int32.toInt (show ((σ1 9).1 6) = ((σ 9).1 6) from ((sI_f eσ1) 9 6 rfl).1); have f4 := j9_6 hJ rfl; have f5 := t4; have f6 := k6; have z20 : (20 : Int32).toInt = 20 := (by decide); have z2000 : (2000 : Int32).toInt = 2000 := (by decide); omega))) (cwV 1 hts (gd_V q1568 q1570 q49 q134 q1571) rfl rfl rfl (by decide +kernel) ⟨Nat.le_of_ble_eq_true rfl, Nat.le_of_ble_eq_true rfl⟩) (pv9 hP hK hD hC hS (va_recv hK hP (ci := 9) (q0 := 0) rfl rfl)) rfl rfl hl.1 rfl (lv_room (Nat.le_of_ble_eq_true rfl)) dX9_feed_27 ⟨Nat.le_of_ble_eq_true rfl, Nat.le_of_ble_eq_true rfl⟩) hS (fun q _ h => up9 hS q h) (up9 hS) (fun σ14 tS H1 locs ht hvm hw15 hB hz1 hk1 hS => ?_)
    have hP : va_P D clz (WD9 cy g σ14) H1 := by rw [← ht]; exact hB
    clear hB hz1 hk1 hvm ht
    generalize H1 = H at hP hS ⊢
    have hF16 : Fr (fL [5, 6]) σ8 σ14 := hw15.1
    have hJ17 : J9 (σ14 9) := hw15.2.1
    have b18 : ((σ14 9).1 6).toInt = ((σ8 9).1 6).toInt + 4 := hw15.2.2.1
    refine lv_aload_n hx hb dX9_feed_30 rfl (lv_at hl 0 rfl) ?_
    refine lv_iload_n hx hb dX9_feed_31 rfl (lv_at hl 3 rfl) ?_
    refine va_callv (va_runV (As := [.int p3]) (rest := []) ⟨hx, hb, hml, hown, hts⟩ (m_X9_four l D cy g σ14 p3 _ hJ17 (show ((σ14 9).1 6).toInt ≤ 1996 from (by have f0 := j9_6 hJ17 rfl; have f1 := b18; have f2 := j9_6 hJ11 rfl; have f3 := b12; have f4 := j9_6 hJ2 rfl; have f5 := congrArg Int32.toInt (show ((σ1 9).1 6) = ((σ 9).1 6) from ((sI_f eσ1) 9 6 rfl).1); have f6 := j9_6 hJ rfl; have f7 := t4; have f8 := k6; have z20 : (20 : Int32).toInt = 20 := (by decide); have z2000 : (2000 : Int32).toInt = 2000 := (by decide); omega))) (cwV 1 hts (gd_V q1568 q1570 q49 q134 q1571) rfl rfl rfl (by decide +kernel) ⟨Nat.le_of_ble_eq_true rfl, Nat.le_of_ble_eq_true rfl⟩) (pv9 hP hK hD hC hS (va_recv hK hP (ci := 9) (q0 := 0) rfl rfl)) rfl rfl hl.1 rfl (lv_room (Nat.le_of_ble_eq_true rfl)) dX9_feed_32 ⟨Nat.le_of_ble_eq_true rfl, Nat.le_of_ble_eq_true rfl⟩) hS (fun q _ h => up9 hS q h) (up9 hS) (fun σ20 tS H1 locs ht hvm hw21 hB hz1 hk1 hS => ?_)
    have hP : va_P D clz (WD9 cy g σ20) H1 := by rw [← ht]; exact hB
    clear hB hz1 hk1 hvm ht
    generalize H1 = H at hP hS ⊢
    have hF22 : Fr (fL [5, 6]) σ14 σ20 := hw21.1
    have hJ23 : J9 (σ20 9) := hw21.2.1
    have b24 : ((σ20 9).1 6).toInt = ((σ14 9).1 6).toInt + 4 := hw21.2.2.1
    refine lv_aload_n hx hb dX9_feed_35 rfl (lv_at hl 0 rfl) ?_
    refine lv_iload hx hb dX9_feed_36 (lv_at hl 4 rfl) ?_
    refine va_callv (va_runV (As := [.int p4]) (rest := []) ⟨hx, hb, hml, hown, hts⟩ (m_X9_four l D cy g σ20 p4 _ hJ23 (show ((σ20 9).1 6).toInt ≤ 1996 from (by have f0 := j9_6 hJ23 rfl; have f1 := b24; have f2 := j9_6 hJ17 rfl; have f3 := b18; have f4 := j9_6 hJ11 rfl; have f5 := b12; have f6 := j9_6 hJ2 rfl; have f7 := congrArg Int32.toInt (show ((σ1 9).1 6) = ((σ 9).1 6) from ((sI_f eσ1) 9 6 rfl).1); have f8 := j9_6 hJ rfl; have f9 := t4; have f10 := k6; have z20 : (20 : Int32).toInt = 20 := (by decide); have z2000 : (2000 : Int32).toInt = 2000 := (by decide); omega))) (cwV 1 hts (gd_V q1568 q1570 q49 q134 q1571) rfl rfl rfl (by decide +kernel) ⟨Nat.le_of_ble_eq_true rfl, Nat.le_of_ble_eq_true rfl⟩) (pv9 hP hK hD hC hS (va_recv hK hP (ci := 9) (q0 := 0) rfl rfl)) rfl rfl hl.1 rfl (lv_room (Nat.le_of_ble_eq_true rfl)) dX9_feed_38 ⟨Nat.le_of_ble_eq_true rfl, Nat.le_of_ble_eq_true rfl⟩) hS (fun q _ h => up9 hS q h) (up9 hS) (fun σ26 tS H1 locs ht hvm hw27 hB hz1 hk1 hS => ?_)
    have hP : va_P D clz (WD9 cy g σ26) H1 := by rw [← ht]; exact hB
    clear hB hz1 hk1 hvm ht
    generalize H1 = H at hP hS ⊢
    have hF28 : Fr (fL [5, 6]) σ20 σ26 := hw27.1
    have hJ29 : J9 (σ26 9) := hw27.2.1
    have b30 : ((σ26 9).1 6).toInt = ((σ20 9).1 6).toInt + 4 := hw27.2.2.1
    refine lv_aload_n hx hb dX9_feed_41 rfl (lv_at hl 0 rfl) ?_
    refine lv_iload hx hb dX9_feed_42 (lv_at hl 5 rfl) ?_
    refine va_callv (va_runV (As := [.int p5]) (rest := []) ⟨hx, hb, hml, hown, hts⟩ (m_X9_four l D cy g σ26 p5 _ hJ29 (show ((σ26 9).1 6).toInt ≤ 1996 from (by have f0 := j9_6 hJ29 rfl; have f1 := b30; have f2 := j9_6 hJ23 rfl; have f3 := b24; have f4 := j9_6 hJ17 rfl; have f5 := b18; have f6 := j9_6 hJ11 rfl; have f7 := b12; have f8 := j9_6 hJ2 rfl; have f9 := congrArg Int32.toInt (show ((σ1 9).1 6) = ((σ 9).1 6) from ((sI_f eσ1) 9 6 rfl).1); have f10 := j9_6 hJ rfl; have f11 := t4; have f12 := k6; have z20 : (20 : Int32).toInt = 20 := (by decide); have z2000 : (2000 : Int32).toInt = 2000 := (by decide); omega))) (cwV 1 hts (gd_V q1568 q1570 q49 q134 q1571) rfl rfl rfl (by decide +kernel) ⟨Nat.le_of_ble_eq_true rfl, Nat.le_of_ble_eq_true rfl⟩) (pv9 hP hK hD hC hS (va_recv hK hP (ci := 9) (q0 := 0) rfl rfl)) rfl rfl hl.1 rfl (lv_room (Nat.le_of_ble_eq_true rfl)) dX9_feed_44 ⟨Nat.le_of_ble_eq_true rfl, Nat.le_of_ble_eq_true rfl⟩) hS (fun q _ h => up9 hS q h) (up9 hS) (fun σ32 tS H1 locs ht hvm hw33 hB hz1 hk1 hS => ?_)
    have hP : va_P D clz (WD9 cy g σ32) H1 := by rw [← ht]; exact hB
    clear hB hz1 hk1 hvm ht
    generalize H1 = H at hP hS ⊢
    have hF34 : Fr (fL [5, 6]) σ26 σ32 := hw33.1
    have hJ35 : J9 (σ32 9) := hw33.2.1
    have b36 : ((σ32 9).1 6).toInt = ((σ26 9).1 6).toInt + 4 := hw33.2.2.1
    refine lv_aload_n hx hb dX9_feed_47 rfl (lv_at hl 0 rfl) ?_
    refine g9_6 (x := ((σ32 9).1 6)) hx hb hts hown hK hP (rfl) (hts _ q1366) dX9_feed_48 ?_
    exact W.iret (v := ((σ32 9).1 6)) hx hb hr (fun tS ht hW => ⟨⟨((σ32 9).1 6), σ32, rfl, ⟨Fr.tr (Fr.tr (Fr.tr (Fr.tr (Fr.tr (Fr.tr (Fr.rf) (sI_f eσ1) (fN_L rfl)) hF10 (fL_sub rfl)) hF16 (fL_sub rfl)) hF22 (fL_sub rfl)) hF28 (fL_sub rfl)) hF34 (fL_sub rfl), hJ35, trivial⟩, (show va_P D clz (WD9 cy g σ32) tS.heap by rw [ht]; exact hP)⟩, hS.F ht⟩) hS.2.2 dX9_feed_51
  ·
    have k37 := nle32 c5
    refine lv_iconst (v := (-1)) hx hb dX9_feed_18 (by decide) ?_
    exact W.iret (v := (-1)) hx hb hr (fun tS ht hW => ⟨⟨(-1), σ1, rfl, ⟨Fr.tr (Fr.rf) (sI_f eσ1) (fN_L rfl), hJ2, trivial⟩, (show va_P D clz (WD9 cy g σ1) tS.heap by rw [ht]; exact hP)⟩, hS.F ht⟩) hS.2.2 dX9_feed_19

theorem q1575 : Cond.code yX9_end cX9_end 2 (some .int) ∈ lw_g := lw_gm (List.mem_of_getElem? (i := 1575) (by decide +kernel)) rfl
theorem dX9_end_0 : decode cX9_end 0 = .ok (.aload_n 0, 1) := by decide +kernel
theorem dX9_end_1 : decode cX9_end 1 = .ok (.iconst 0, 1) := by decide +kernel
theorem dX9_end_2 : decode cX9_end 2 = .ok (.putfield 129, 3) := by decide +kernel
theorem dX9_end_5 : decode cX9_end 5 = .ok (.iload_n 1, 1) := by decide +kernel
theorem dX9_end_6 : decode cX9_end 6 = .ok (.i2l, 1) := by decide +kernel
theorem dX9_end_7 : decode cX9_end 7 = .ok (.lconst 0, 1) := by decide +kernel
theorem dX9_end_8 : decode cX9_end 8 = .ok (.aload_n 0, 1) := by decide +kernel
theorem dX9_end_9 : decode cX9_end 9 = .ok (.getfield 146, 3) := by decide +kernel
theorem dX9_end_12 : decode cX9_end 12 = .ok (.i2l, 1) := by decide +kernel
theorem dX9_end_13 : decode cX9_end 13 = .ok (.invokestatic 134, 3) := by decide +kernel
theorem dX9_end_16 : decode cX9_end 16 = .ok (.ifCond .ne 5, 3) := by decide +kernel
theorem dX9_end_19 : decode cX9_end 19 = .ok (.iconst (-1), 1) := by decide +kernel
theorem dX9_end_20 : decode cX9_end 20 = .ok (.ireturn, 1) := by decide +kernel
theorem dX9_end_21 : decode cX9_end 21 = .ok (.aload_n 0, 1) := by decide +kernel
theorem dX9_end_22 : decode cX9_end 22 = .ok (.iload_n 1, 1) := by decide +kernel
theorem dX9_end_23 : decode cX9_end 23 = .ok (.putfield 146, 3) := by decide +kernel
theorem dX9_end_26 : decode cX9_end 26 = .ok (.iload_n 1, 1) := by decide +kernel
theorem dX9_end_27 : decode cX9_end 27 = .ok (.ireturn, 1) := by decide +kernel
set_option maxHeartbeats 4000000 in
set_option maxRecDepth 100000 in
theorem m_X9_end (l : Launch) (D : va_G) (cy : Nat → ClassId) (g : Nat → Nat) (σ : ST) (p1 : Int32) (sz : Nat) (hJ : J9 (σ 9))  : Met l yX9_end (ww yX9_end cX9_end 2 (some .int)) ({ frames := 2, cells := 0, slots := 0, locals := 128 }) (va_Pc [.ref (g 60), .int p1] (pr9 D cy g σ sz)) (qi9 D cy g sz (fun r τ => Fr (fL [0, 6]) σ τ ∧ J9 (τ 9) ∧ True)) 0 0 (A9 cy g sz) := by
  refine Met.ofW (cc := cX9_end) (maxL := 2) (ret := (some .int)) (by decide) rfl ?_
  intro p e s m args below meth c s₁ B hml hv
  obtain ⟨rfl, hsz, hP, hK, hD0, hC⟩ := hv
  have hx := B.exec
  have hb := B.bytes
  have hr := B.returns
  have hts := hts_g (atoms_spec (ws := ww yX9_end cX9_end 2 (some .int)) B.pre)
  have hown : s.vm.findClass RX9 = some m.cls := findClass_of_methodNamed B.named
  have hlocks := B.notSynchronized
  clear B
  subst hsz
  have hD := fun τ => A9_D (sz := s.heap.size) hD0 τ
  clear hD0
  have hS : va_S (A9 cy g s.heap.size) s.heap s.heap [] := va_S.rf
  have hl := lv_entry ([.ref (g 60), .int p1]) (n := 2) (Nat.le_of_ble_eq_true rfl)
  rw [lg_entry_eq]
  generalize (lg_sl ([.ref (g 60), .int p1]) ++ List.replicate (2 - (lg_sl ([.ref (g 60), .int p1])).length) Slot.unset).toArray = ls at hl ⊢
  have hl : lv_has ls 2 [(0, .ref (g 60)), (1, .int p1)] := hl
  refine lv_aload_n hx hb dX9_end_0 rfl (lv_at hl 0 rfl) ?_
  refine lv_iconst (v := 0) hx hb dX9_end_1 (by decide) ?_
  refine p9_0 hx hb hts hown hK hP hD hS (hts _ q1360) dX9_end_2 (fun H locs σ1 eσ1 hP hS => ?_)
  have hJ2 : J9 (σ1 9) := hJ.I eσ1 (show JI9 0 (0 : Int32) from trivial)
  refine lv_iload_n hx hb dX9_end_5 rfl (lv_at hl 1 rfl) ?_
  refine lv_i2l (v := p1.toInt64) hx hb dX9_end_6 rfl ?_
  refine lv_lconst (v := 0) hx hb dX9_end_7 (by decide) ?_
  refine lv_aload_n hx hb dX9_end_8 rfl (lv_at hl 0 rfl) ?_
  refine g9_6 (x := ((σ 9).1 6)) hx hb hts hown hK hP (((sI_f eσ1) 9 6 rfl).1) (hts _ q1366) dX9_end_9 ?_
  refine lv_i2l (v := ((σ 9).1 6).toInt64) hx hb dX9_end_12 rfl ?_
  refine va_calli (va_runS (As := [.long p1.toInt64, .long 0, .long ((σ 9).1 6).toInt64]) (rest := []) ⟨hx, hb, hml, hown, hts⟩ (m_X9_in l D cy g σ1 p1.toInt64 (0) ((σ 9).1 6).toInt64 _ hJ2 ) (va_cwS 3 hts (gd_S q1550 q1551 q134 q1552) rfl rfl rfl (by decide +kernel) ⟨Nat.le_of_ble_eq_true rfl, Nat.le_of_ble_eq_true rfl⟩) (ps9 hP hK hD hC hS) rfl rfl hl.1 rfl (lv_room (Nat.le_of_ble_eq_true rfl)) dX9_end_13 ⟨Nat.le_of_ble_eq_true rfl, Nat.le_of_ble_eq_true rfl⟩) hS (fun q _ h => up9 hS q h) (up9 hS) (fun r3 σ4 tS H1 locs ht hvm hw5 hB hz1 hk1 hS => ?_)
  have hP : va_P D clz (WD9 cy g σ4) H1 := by rw [← ht]; exact hB
  clear hB hz1 hk1 hvm ht
  generalize H1 = H at hP hS ⊢
  have hw5E : σ1 = σ4 := (hw5.1).symm
  subst hw5E
  have b6 : (0 : Int) ≤ r3.toInt ∧ r3.toInt ≤ 1 := hw5.2.1
  have b7 : (r3.toInt = 1 ∧ (0 : Int64).toInt ≤ p1.toInt64.toInt ∧ p1.toInt64.toInt ≤ ((σ 9).1 6).toInt64.toInt) ∨ (r3.toInt = 0 ∧ ¬ ((0 : Int64).toInt ≤ p1.toInt64.toInt ∧ p1.toInt64.toInt ≤ ((σ 9).1 6).toInt64.toInt)) := hw5.2.2.1
  refine lv_if_ne (tgt := 21) hx hb dX9_end_16 (by decide) (fun c8 => ?_) (fun c8 => ?_)
  ·
    have k9 := neq32 c8
    refine lv_aload_n hx hb dX9_end_21 rfl (lv_at hl 0 rfl) ?_
    refine lv_iload_n hx hb dX9_end_22 rfl (lv_at hl 1 rfl) ?_
    refine p9_6 hx hb hts hown hK hP hD hS (hts _ q1366) dX9_end_23 (fun H locs σ10 eσ10 hP hS => ?_)
    have hJ11 : J9 (σ10 9) := hJ2.I eσ10 (show JI9 6 p1 from (by have f0 := t64 (a := p1); have f1 := rg32 p1; have f2 := b7; have f3 := t64 (a := ((σ 9).1 6)); have f4 := b6; have f5 := k9; have f6 := j9_6 hJ rfl; have f7 := rg32 ((σ 9).1 6); have g2 := rg32 p1; have z0 : (0 : Int32).toInt = 0 := (by decide); have zl0 : (0 : Int64).toInt = 0 := (by decide); have w11 := t64 (a := ((σ 9).1 6)); have w12 := t64 (a := p1); exact ⟨by omega, by omega⟩))
    refine lv_iload_n hx hb dX9_end_26 rfl (lv_at hl 1 rfl) ?_
    exact W.iret (v := p1) hx hb hr (fun tS ht hW => ⟨⟨p1, σ10, rfl, ⟨Fr.tr (Fr.tr (Fr.rf) (sI_f eσ1) (fN_L rfl)) (sI_f eσ10) (fN_L rfl), hJ11, trivial⟩, (show va_P D clz (WD9 cy g σ10) tS.heap by rw [ht]; exact hP)⟩, hS.F ht⟩) hS.2.2 dX9_end_27
  ·
    have k12 := peq32 c8
    refine lv_iconst (v := (-1)) hx hb dX9_end_19 (by decide) ?_
    exact W.iret (v := (-1)) hx hb hr (fun tS ht hW => ⟨⟨(-1), σ1, rfl, ⟨Fr.tr (Fr.rf) (sI_f eσ1) (fN_L rfl), hJ2, trivial⟩, (show va_P D clz (WD9 cy g σ1) tS.heap by rw [ht]; exact hP)⟩, hS.F ht⟩) hS.2.2 dX9_end_20

theorem q1621 : Cond.code yX9_is cX9_is 3 (some .boolean) ∈ lw_g := lw_gm (List.mem_of_getElem? (i := 1621) (by decide +kernel)) rfl
theorem dX9_is_0 : decode cX9_is 0 = .ok (.aload_n 0, 1) := by decide +kernel
theorem dX9_is_1 : decode cX9_is 1 = .ok (.getfield 181, 3) := by decide +kernel
theorem dX9_is_4 : decode cX9_is 4 = .ok (.ifCond .ne 24, 3) := by decide +kernel
theorem dX9_is_7 : decode cX9_is 7 = .ok (.aload_n 0, 1) := by decide +kernel
theorem dX9_is_8 : decode cX9_is 8 = .ok (.getfield 170, 3) := by decide +kernel
theorem dX9_is_11 : decode cX9_is 11 = .ok (.iconst 1, 1) := by decide +kernel
theorem dX9_is_12 : decode cX9_is 12 = .ok (.if_icmp .ne 16, 3) := by decide +kernel
theorem dX9_is_15 : decode cX9_is 15 = .ok (.aload_n 0, 1) := by decide +kernel
theorem dX9_is_16 : decode cX9_is 16 = .ok (.getfield 166, 3) := by decide +kernel
theorem dX9_is_19 : decode cX9_is 19 = .ok (.lload_n 1, 1) := by decide +kernel
theorem dX9_is_20 : decode cX9_is 20 = .ok (.lcmp, 1) := by decide +kernel
theorem dX9_is_21 : decode cX9_is 21 = .ok (.ifCond .ne 7, 3) := by decide +kernel
theorem dX9_is_24 : decode cX9_is 24 = .ok (.iconst 1, 1) := by decide +kernel
theorem dX9_is_25 : decode cX9_is 25 = .ok (.goto 4, 3) := by decide +kernel
theorem dX9_is_28 : decode cX9_is 28 = .ok (.iconst 0, 1) := by decide +kernel
theorem dX9_is_29 : decode cX9_is 29 = .ok (.ireturn, 1) := by decide +kernel
set_option maxHeartbeats 4000000 in
set_option maxRecDepth 100000 in
theorem m_X9_is (l : Launch) (D : va_G) (cy : Nat → ClassId) (g : Nat → Nat) (σ : ST) (p1 : Int64) (sz : Nat) (hJ : J9 (σ 9))  : Met l yX9_is (ww yX9_is cX9_is 3 (some .boolean)) ({ frames := 1, cells := 0, slots := 0, locals := 64 }) (va_Pc [.ref (g 60), .long p1] (pr9 D cy g σ sz)) (qi9 D cy g sz (fun r τ => τ = σ ∧ ((0 : Int) ≤ r.toInt ∧ r.toInt ≤ 1) ∧ True)) 0 0 (A9 cy g sz) := by
  refine Met.ofW (cc := cX9_is) (maxL := 3) (ret := (some .boolean)) (by decide) rfl ?_
  intro p e s m args below meth c s₁ B hml hv
  obtain ⟨rfl, hsz, hP, hK, hD0, hC⟩ := hv
  have hx := B.exec
  have hb := B.bytes
  have hr := B.returns
  have hts := hts_g (atoms_spec (ws := ww yX9_is cX9_is 3 (some .boolean)) B.pre)
  have hown : s.vm.findClass RX9 = some m.cls := findClass_of_methodNamed B.named
  have hlocks := B.notSynchronized
  clear B
  subst hsz
  have hD := fun τ => A9_D (sz := s.heap.size) hD0 τ
  clear hD0
  have hS : va_S (A9 cy g s.heap.size) s.heap s.heap [] := va_S.rf
  have hl := lv_entry ([.ref (g 60), .long p1]) (n := 3) (Nat.le_of_ble_eq_true rfl)
  rw [lg_entry_eq]
  generalize (lg_sl ([.ref (g 60), .long p1]) ++ List.replicate (3 - (lg_sl ([.ref (g 60), .long p1])).length) Slot.unset).toArray = ls at hl ⊢
  have hl : lv_has ls 3 [(0, .ref (g 60)), (1, .long p1)] := hl
  refine lv_aload_n hx hb dX9_is_0 rfl (lv_at hl 0 rfl) ?_
  refine g9_12 (x := ((σ 9).1 12)) hx hb hts hown hK hP (rfl) (hts _ q1372) dX9_is_1 ?_
  refine lv_if_ne (tgt := 28) hx hb dX9_is_4 (by decide) (fun c1 => ?_) (fun c1 => ?_)
  ·
    have k2 := neq32 c1
    refine lv_iconst (v := 0) hx hb dX9_is_28 (by decide) ?_
    exact W.zret (v := 0) hx hb hr rfl (fun tS ht hW => ⟨⟨0, σ, rfl, ⟨rfl, (show (0 : Int) ≤ (0 : Int32).toInt ∧ (0 : Int32).toInt ≤ 1 from (by have z0 : (0 : Int32).toInt = 0 := (by decide); omega)), trivial⟩, (show va_P D clz (WD9 cy g σ) tS.heap by rw [ht]; exact hP)⟩, hS.F ht⟩) hS.2.2 dX9_is_29
  ·
    have k3 := peq32 c1
    refine lv_aload_n hx hb dX9_is_7 rfl (lv_at hl 0 rfl) ?_
    refine g9_8 (x := ((σ 9).1 8)) hx hb hts hown hK hP (rfl) (hts _ q1368) dX9_is_8 ?_
    refine lv_iconst (v := 1) hx hb dX9_is_11 (by decide) ?_
    refine lv_icmp_ne (tgt := 28) hx hb dX9_is_12 (by decide) (fun c4 => ?_) (fun c4 => ?_)
    ·
      have k5 := neq32 c4
      refine lv_iconst (v := 0) hx hb dX9_is_28 (by decide) ?_
      exact W.zret (v := 0) hx hb hr rfl (fun tS ht hW => ⟨⟨0, σ, rfl, ⟨rfl, (show (0 : Int) ≤ (0 : Int32).toInt ∧ (0 : Int32).toInt ≤ 1 from (by have z0 : (0 : Int32).toInt = 0 := (by decide); omega)), trivial⟩, (show va_P D clz (WD9 cy g σ) tS.heap by rw [ht]; exact hP)⟩, hS.F ht⟩) hS.2.2 dX9_is_29
    ·
      have k6 := peq32 c4
      refine lv_aload_n hx hb dX9_is_15 rfl (lv_at hl 0 rfl) ?_
      refine g9_11 (x := ((σ 9).2.1 11)) hx hb hts hown hK hP (rfl) (hts _ q1371) dX9_is_16 ?_
      refine lv_lload_n hx hb dX9_is_19 rfl (lv_at hl 1 rfl) ?_
      refine W.lcmp hx hb dX9_is_20 ?_
      refine lv_if_ne (tgt := 28) hx hb dX9_is_21 (by decide) (fun c7 => ?_) (fun c7 => ?_)
      ·
        have k8 := neq64 (fun q => c7 ((lg_cmp_eq ((σ 9).2.1 11) p1).mpr q))
        refine lv_iconst (v := 0) hx hb dX9_is_28 (by decide) ?_
        exact W.zret (v := 0) hx hb hr rfl (fun tS ht hW => ⟨⟨0, σ, rfl, ⟨rfl, (show (0 : Int) ≤ (0 : Int32).toInt ∧ (0 : Int32).toInt ≤ 1 from (by have z0 : (0 : Int32).toInt = 0 := (by decide); omega)), trivial⟩, (show va_P D clz (WD9 cy g σ) tS.heap by rw [ht]; exact hP)⟩, hS.F ht⟩) hS.2.2 dX9_is_29
      ·
        have k9 := peq64 ((lg_cmp_eq ((σ 9).2.1 11) p1).mp c7)
        refine lv_iconst (v := 1) hx hb dX9_is_24 (by decide) ?_
        refine lv_goto (tgt := 29) hx hb dX9_is_25 (by decide) ?_
        exact W.zret (v := 1) hx hb hr rfl (fun tS ht hW => ⟨⟨1, σ, rfl, ⟨rfl, (show (0 : Int) ≤ (1 : Int32).toInt ∧ (1 : Int32).toInt ≤ 1 from (by have z1 : (1 : Int32).toInt = 1 := (by decide); omega)), trivial⟩, (show va_P D clz (WD9 cy g σ) tS.heap by rw [ht]; exact hP)⟩, hS.F ht⟩) hS.2.2 dX9_is_29

theorem q1617 : Cond.code yX9_takes cX9_takes 3 (some .boolean) ∈ lw_g := lw_gm (List.mem_of_getElem? (i := 1617) (by decide +kernel)) rfl
theorem q1618 : Cond.methodLink RX9 187 yX9_is ∈ lw_g := lw_gm (List.mem_of_getElem? (i := 1618) (by decide +kernel)) rfl
theorem q1620 : Cond.instanceMethod yX9_is ∈ lw_g := lw_gm (List.mem_of_getElem? (i := 1620) (by decide +kernel)) rfl
theorem q57 : Cond.selects RX9 yX9_is yX9_is ∈ lw_g := lw_gm (List.mem_of_getElem? (i := 57) (by decide +kernel)) rfl
theorem q1592 : Cond.methodLink RX9 191 yX9_next ∈ lw_g := lw_gm (List.mem_of_getElem? (i := 1592) (by decide +kernel)) rfl
theorem q1594 : Cond.instanceMethod yX9_next ∈ lw_g := lw_gm (List.mem_of_getElem? (i := 1594) (by decide +kernel)) rfl
theorem q52 : Cond.selects RX9 yX9_next yX9_next ∈ lw_g := lw_gm (List.mem_of_getElem? (i := 52) (by decide +kernel)) rfl
theorem dX9_takes_0 : decode cX9_takes 0 = .ok (.aload_n 0, 1) := by decide +kernel
theorem dX9_takes_1 : decode cX9_takes 1 = .ok (.lload_n 1, 1) := by decide +kernel
theorem dX9_takes_2 : decode cX9_takes 2 = .ok (.invokevirtual 187, 3) := by decide +kernel
theorem dX9_takes_5 : decode cX9_takes 5 = .ok (.ifCond .ne 5, 3) := by decide +kernel
theorem dX9_takes_8 : decode cX9_takes 8 = .ok (.iconst 0, 1) := by decide +kernel
theorem dX9_takes_9 : decode cX9_takes 9 = .ok (.ireturn, 1) := by decide +kernel
theorem dX9_takes_10 : decode cX9_takes 10 = .ok (.aload_n 0, 1) := by decide +kernel
theorem dX9_takes_11 : decode cX9_takes 11 = .ok (.invokevirtual 191, 3) := by decide +kernel
theorem dX9_takes_14 : decode cX9_takes 14 = .ok (.iconst 1, 1) := by decide +kernel
theorem dX9_takes_15 : decode cX9_takes 15 = .ok (.ireturn, 1) := by decide +kernel
set_option maxHeartbeats 4000000 in
set_option maxRecDepth 100000 in
theorem m_X9_takes (l : Launch) (D : va_G) (cy : Nat → ClassId) (g : Nat → Nat) (σ : ST) (p1 : Int64) (sz : Nat) (hJ : J9 (σ 9)) (h0 : ((σ 9).1 7).toInt ≤ ((σ 9).1 6).toInt) : Met l yX9_takes (ww yX9_takes cX9_takes 3 (some .boolean)) ({ frames := 3, cells := 0, slots := 0, locals := 192 }) (va_Pc [.ref (g 60), .long p1] (pr9 D cy g σ sz)) (qi9 D cy g sz (fun r τ => Fr (fL [7, 8, 9, 10, 11]) σ τ ∧ J9 (τ 9) ∧ ((0 : Int) ≤ r.toInt ∧ r.toInt ≤ 1) ∧ (((σ 9).1 7).toInt ≤ ((τ 9).1 7).toInt ∧ ((τ 9).1 7).toInt ≤ ((τ 9).1 6).toInt) ∧ (ph ((σ 9).1 7) ((σ 9).1 8) ≤ ph ((τ 9).1 7) ((τ 9).1 8)) ∧ True)) 0 0 (A9 cy g sz) := by
  refine Met.ofW (cc := cX9_takes) (maxL := 3) (ret := (some .boolean)) (by decide) rfl ?_
  intro p e s m args below meth c s₁ B hml hv
  obtain ⟨rfl, hsz, hP, hK, hD0, hC⟩ := hv
  have hx := B.exec
  have hb := B.bytes
  have hr := B.returns
  have hts := hts_g (atoms_spec (ws := ww yX9_takes cX9_takes 3 (some .boolean)) B.pre)
  have hown : s.vm.findClass RX9 = some m.cls := findClass_of_methodNamed B.named
  have hlocks := B.notSynchronized
  clear B
  subst hsz
  have hD := fun τ => A9_D (sz := s.heap.size) hD0 τ
  clear hD0
  have hS : va_S (A9 cy g s.heap.size) s.heap s.heap [] := va_S.rf
  have hl := lv_entry ([.ref (g 60), .long p1]) (n := 3) (Nat.le_of_ble_eq_true rfl)
  rw [lg_entry_eq]
  generalize (lg_sl ([.ref (g 60), .long p1]) ++ List.replicate (3 - (lg_sl ([.ref (g 60), .long p1])).length) Slot.unset).toArray = ls at hl ⊢
  have hl : lv_has ls 3 [(0, .ref (g 60)), (1, .long p1)] := hl
  refine lv_aload_n hx hb dX9_takes_0 rfl (lv_at hl 0 rfl) ?_
  refine lv_lload_n hx hb dX9_takes_1 rfl (lv_at hl 1 rfl) ?_
  refine va_calli (va_runV (As := [.long p1]) (rest := []) ⟨hx, hb, hml, hown, hts⟩ (m_X9_is l D cy g σ p1 _ hJ ) (cwV 1 hts (gd_V q1618 q1620 q57 q134 q1621) rfl rfl rfl (by decide +kernel) ⟨Nat.le_of_ble_eq_true rfl, Nat.le_of_ble_eq_true rfl⟩) (pv9 hP hK hD hC hS (va_recv hK hP (ci := 9) (q0 := 0) rfl rfl)) rfl rfl hl.1 rfl (lv_room (Nat.le_of_ble_eq_true rfl)) dX9_takes_2 ⟨Nat.le_of_ble_eq_true rfl, Nat.le_of_ble_eq_true rfl⟩) hS (fun q _ h => up9 hS q h) (up9 hS) (fun r1 σ2 tS H1 locs ht hvm hw3 hB hz1 hk1 hS => ?_)
  have hP : va_P D clz (WD9 cy g σ2) H1 := by rw [← ht]; exact hB
  clear hB hz1 hk1 hvm ht
  generalize H1 = H at hP hS ⊢
  have hw3E : σ = σ2 := (hw3.1).symm
  subst hw3E
  have b4 : (0 : Int) ≤ r1.toInt ∧ r1.toInt ≤ 1 := hw3.2.1
  refine lv_if_ne (tgt := 10) hx hb dX9_takes_5 (by decide) (fun c5 => ?_) (fun c5 => ?_)
  ·
    have k6 := neq32 c5
    refine lv_aload_n hx hb dX9_takes_10 rfl (lv_at hl 0 rfl) ?_
    refine va_callv (va_runV (As := []) (rest := []) ⟨hx, hb, hml, hown, hts⟩ (m_X9_next l D cy g σ  _ hJ (show ((σ 9).1 7).toInt ≤ ((σ 9).1 6).toInt from (by have f0 := j9_6 hJ rfl; have f1 := j9_7 hJ rfl; have f2 := h0; omega))) (cwV 0 hts (gd_V q1592 q1594 q52 q134 q1595) rfl rfl rfl (by decide +kernel) ⟨Nat.le_of_ble_eq_true rfl, Nat.le_of_ble_eq_true rfl⟩) (pv9 hP hK hD hC hS (va_recv hK hP (ci := 9) (q0 := 0) rfl rfl)) rfl rfl hl.1 rfl (lv_room (Nat.le_of_ble_eq_true rfl)) dX9_takes_11 ⟨Nat.le_of_ble_eq_true rfl, Nat.le_of_ble_eq_true rfl⟩) hS (fun q _ h => up9 hS q h) (up9 hS) (fun σ8 tS H1 locs ht hvm hw9 hB hz1 hk1 hS => ?_)
    have hP : va_P D clz (WD9 cy g σ8) H1 := by rw [← ht]; exact hB
    clear hB hz1 hk1 hvm ht
    generalize H1 = H at hP hS ⊢
    have hF10 : Fr (fL [7, 8, 9, 10, 11]) σ σ8 := hw9.1
    have hJ11 : J9 (σ8 9) := hw9.2.1
    have b12 : ((σ 9).1 7).toInt ≤ ((σ8 9).1 7).toInt ∧ ((σ8 9).1 7).toInt ≤ ((σ8 9).1 6).toInt ∧ ((σ8 9).1 6).toInt = ((σ 9).1 6).toInt := hw9.2.2.1
    have b13 : ph ((σ 9).1 7) ((σ 9).1 8) ≤ ph ((σ8 9).1 7) ((σ8 9).1 8) ∧ ((σ 9).1 7).toInt ≤ ph ((σ8 9).1 7) ((σ8 9).1 8) := hw9.2.2.2.1
    refine lv_iconst (v := 1) hx hb dX9_takes_14 (by decide) ?_
    exact W.zret (v := 1) hx hb hr rfl (fun tS ht hW => ⟨⟨1, σ8, rfl, ⟨Fr.tr (Fr.rf) hF10 (fL_sub rfl), hJ11, (show (0 : Int) ≤ (1 : Int32).toInt ∧ (1 : Int32).toInt ≤ 1 from (by have z1 : (1 : Int32).toInt = 1 := (by decide); omega)), (show ((σ 9).1 7).toInt ≤ ((σ8 9).1 7).toInt ∧ ((σ8 9).1 7).toInt ≤ ((σ8 9).1 6).toInt from (by have f0 := j9_6 hJ11 rfl; have f1 := congrArg Int32.toInt (show ((σ8 9).1 6) = ((σ 9).1 6) from (hF10 9 6 rfl).1); have f2 := j9_7 hJ rfl; have f3 := j9_7 hJ11 rfl; have f4 := h0; have f5 := b12; have f6 := b13; have f7 := j9_6 hJ rfl; omega)), (show ph ((σ 9).1 7) ((σ 9).1 8) ≤ ph ((σ8 9).1 7) ((σ8 9).1 8) from (by have f0 := b13; have f1 := j9_7 hJ rfl; have f2 := h0; have f3 := b12; have f4 := j9_6 hJ rfl; have f5 := j9_6 hJ11 rfl; have f6 := congrArg Int32.toInt (show ((σ8 9).1 6) = ((σ 9).1 6) from (hF10 9 6 rfl).1); have f7 := j9_7 hJ11 rfl; omega)), trivial⟩, (show va_P D clz (WD9 cy g σ8) tS.heap by rw [ht]; exact hP)⟩, hS.F ht⟩) hS.2.2 dX9_takes_15
  ·
    have k14 := peq32 c5
    refine lv_iconst (v := 0) hx hb dX9_takes_8 (by decide) ?_
    exact W.zret (v := 0) hx hb hr rfl (fun tS ht hW => ⟨⟨0, σ, rfl, ⟨Fr.rf, hJ, (show (0 : Int) ≤ (0 : Int32).toInt ∧ (0 : Int32).toInt ≤ 1 from (by have z0 : (0 : Int32).toInt = 0 := (by decide); omega)), (show ((σ 9).1 7).toInt ≤ ((σ 9).1 7).toInt ∧ ((σ 9).1 7).toInt ≤ ((σ 9).1 6).toInt from (by have f0 := j9_6 hJ rfl; have f1 := j9_7 hJ rfl; have f2 := h0; omega)), (show ph ((σ 9).1 7) ((σ 9).1 8) ≤ ph ((σ 9).1 7) ((σ 9).1 8) from (by omega)), trivial⟩, (show va_P D clz (WD9 cy g σ) tS.heap by rw [ht]; exact hP)⟩, hS.F ht⟩) hS.2.2 dX9_takes_9

theorem q1613 : Cond.code yX9_asks cX9_asks 3 none ∈ lw_g := lw_gm (List.mem_of_getElem? (i := 1613) (by decide +kernel)) rfl
theorem q1614 : Cond.methodLink RX9 194 yX9_takes ∈ lw_g := lw_gm (List.mem_of_getElem? (i := 1614) (by decide +kernel)) rfl
theorem q1616 : Cond.instanceMethod yX9_takes ∈ lw_g := lw_gm (List.mem_of_getElem? (i := 1616) (by decide +kernel)) rfl
theorem q56 : Cond.selects RX9 yX9_takes yX9_takes ∈ lw_g := lw_gm (List.mem_of_getElem? (i := 56) (by decide +kernel)) rfl
theorem q1622 : Cond.methodLink RX9 197 yX9_fails ∈ lw_g := lw_gm (List.mem_of_getElem? (i := 1622) (by decide +kernel)) rfl
theorem q1624 : Cond.instanceMethod yX9_fails ∈ lw_g := lw_gm (List.mem_of_getElem? (i := 1624) (by decide +kernel)) rfl
theorem q58 : Cond.selects RX9 yX9_fails yX9_fails ∈ lw_g := lw_gm (List.mem_of_getElem? (i := 58) (by decide +kernel)) rfl
theorem dX9_asks_0 : decode cX9_asks 0 = .ok (.aload_n 0, 1) := by decide +kernel
theorem dX9_asks_1 : decode cX9_asks 1 = .ok (.lload_n 1, 1) := by decide +kernel
theorem dX9_asks_2 : decode cX9_asks 2 = .ok (.invokevirtual 194, 3) := by decide +kernel
theorem dX9_asks_5 : decode cX9_asks 5 = .ok (.ifCond .ne 8, 3) := by decide +kernel
theorem dX9_asks_8 : decode cX9_asks 8 = .ok (.aload_n 0, 1) := by decide +kernel
theorem dX9_asks_9 : decode cX9_asks 9 = .ok (.iconst 1, 1) := by decide +kernel
theorem dX9_asks_10 : decode cX9_asks 10 = .ok (.invokevirtual 197, 3) := by decide +kernel
theorem dX9_asks_13 : decode cX9_asks 13 = .ok (.return_, 1) := by decide +kernel
set_option maxHeartbeats 4000000 in
set_option maxRecDepth 100000 in
theorem m_X9_asks (l : Launch) (D : va_G) (cy : Nat → ClassId) (g : Nat → Nat) (σ : ST) (p1 : Int64) (sz : Nat) (hJ : J9 (σ 9)) (h0 : ((σ 9).1 7).toInt ≤ ((σ 9).1 6).toInt) : Met l yX9_asks (ww yX9_asks cX9_asks 3 none) ({ frames := 4, cells := 0, slots := 0, locals := 256 }) (va_Pc [.ref (g 60), .long p1] (pr9 D cy g σ sz)) (qv9 D cy g sz (fun τ => Fr (fL [7, 8, 9, 10, 11, 12, 13]) σ τ ∧ J9 (τ 9) ∧ (((σ 9).1 7).toInt ≤ ((τ 9).1 7).toInt ∧ ((τ 9).1 7).toInt ≤ ((τ 9).1 6).toInt) ∧ (ph ((σ 9).1 7) ((σ 9).1 8) ≤ ph ((τ 9).1 7) ((τ 9).1 8)) ∧ (¬ ((τ 9).1 12).toInt = 0 ∨ ((σ 9).1 12).toInt = 0) ∧ True)) 0 0 (A9 cy g sz) := by
  refine Met.ofW (cc := cX9_asks) (maxL := 3) (ret := none) (by decide) rfl ?_
  intro p e s m args below meth c s₁ B hml hv
  obtain ⟨rfl, hsz, hP, hK, hD0, hC⟩ := hv
  have hx := B.exec
  have hb := B.bytes
  have hr := B.returns
  have hts := hts_g (atoms_spec (ws := ww yX9_asks cX9_asks 3 none) B.pre)
  have hown : s.vm.findClass RX9 = some m.cls := findClass_of_methodNamed B.named
  have hlocks := B.notSynchronized
  clear B
  subst hsz
  have hD := fun τ => A9_D (sz := s.heap.size) hD0 τ
  clear hD0
  have hS : va_S (A9 cy g s.heap.size) s.heap s.heap [] := va_S.rf
  have hl := lv_entry ([.ref (g 60), .long p1]) (n := 3) (Nat.le_of_ble_eq_true rfl)
  rw [lg_entry_eq]
  generalize (lg_sl ([.ref (g 60), .long p1]) ++ List.replicate (3 - (lg_sl ([.ref (g 60), .long p1])).length) Slot.unset).toArray = ls at hl ⊢
  have hl : lv_has ls 3 [(0, .ref (g 60)), (1, .long p1)] := hl
  refine lv_aload_n hx hb dX9_asks_0 rfl (lv_at hl 0 rfl) ?_
  refine lv_lload_n hx hb dX9_asks_1 rfl (lv_at hl 1 rfl) ?_
  refine va_calli (va_runV (As := [.long p1]) (rest := []) ⟨hx, hb, hml, hown, hts⟩ (m_X9_takes l D cy g σ p1 _ hJ (show ((σ 9).1 7).toInt ≤ ((σ 9).1 6).toInt from (by have f0 := j9_6 hJ rfl; have f1 := j9_7 hJ rfl; have f2 := h0; omega))) (cwV 1 hts (gd_V q1614 q1616 q56 q134 q1617) rfl rfl rfl (by decide +kernel) ⟨Nat.le_of_ble_eq_true rfl, Nat.le_of_ble_eq_true rfl⟩) (pv9 hP hK hD hC hS (va_recv hK hP (ci := 9) (q0 := 0) rfl rfl)) rfl rfl hl.1 rfl (lv_room (Nat.le_of_ble_eq_true rfl)) dX9_asks_2 ⟨Nat.le_of_ble_eq_true rfl, Nat.le_of_ble_eq_true rfl⟩) hS (fun q _ h => up9 hS q h) (up9 hS) (fun r1 σ2 tS H1 locs ht hvm hw3 hB hz1 hk1 hS => ?_)
  have hP : va_P D clz (WD9 cy g σ2) H1 := by rw [← ht]; exact hB
  clear hB hz1 hk1 hvm ht
  generalize H1 = H at hP hS ⊢
  have hF4 : Fr (fL [7, 8, 9, 10, 11]) σ σ2 := hw3.1
  have hJ5 : J9 (σ2 9) := hw3.2.1
  have b6 : (0 : Int) ≤ r1.toInt ∧ r1.toInt ≤ 1 := hw3.2.2.1
  have b7 : ((σ 9).1 7).toInt ≤ ((σ2 9).1 7).toInt ∧ ((σ2 9).1 7).toInt ≤ ((σ2 9).1 6).toInt := hw3.2.2.2.1
  have b8 : ph ((σ 9).1 7) ((σ 9).1 8) ≤ ph ((σ2 9).1 7) ((σ2 9).1 8) := hw3.2.2.2.2.1
  refine lv_if_ne (tgt := 13) hx hb dX9_asks_5 (by decide) (fun c9 => ?_) (fun c9 => ?_)
  ·
    have k10 := neq32 c9
    exact W.vret hx hb hr (fun tS ht hW => ⟨⟨σ2, rfl, ⟨Fr.tr (Fr.rf) hF4 (fL_sub rfl), hJ5, (show ((σ 9).1 7).toInt ≤ ((σ2 9).1 7).toInt ∧ ((σ2 9).1 7).toInt ≤ ((σ2 9).1 6).toInt from (by have f0 := j9_6 hJ5 rfl; have f1 := congrArg Int32.toInt (show ((σ2 9).1 6) = ((σ 9).1 6) from (hF4 9 6 rfl).1); have f2 := j9_7 hJ5 rfl; have f3 := j9_7 hJ rfl; have f4 := h0; have f5 := b7; have f6 := j9_6 hJ rfl; omega)), (show ph ((σ 9).1 7) ((σ 9).1 8) ≤ ph ((σ2 9).1 7) ((σ2 9).1 8) from (by have f0 := b8; omega)), (show ¬ ((σ2 9).1 12).toInt = 0 ∨ ((σ 9).1 12).toInt = 0 from (by have f0 := congrArg Int32.toInt (show ((σ2 9).1 12) = ((σ 9).1 12) from (hF4 9 12 rfl).1); omega)), trivial⟩, (show va_P D clz (WD9 cy g σ2) tS.heap by rw [ht]; exact hP)⟩, hS.F ht⟩) hS.2.2 dX9_asks_13
  ·
    have k11 := peq32 c9
    refine lv_aload_n hx hb dX9_asks_8 rfl (lv_at hl 0 rfl) ?_
    refine lv_iconst (v := 1) hx hb dX9_asks_9 (by decide) ?_
    refine va_callv (va_runV (As := [.int 1]) (rest := []) ⟨hx, hb, hml, hown, hts⟩ (m_X9_fails l D cy g σ2 (1) _ hJ5 (show (1 : Int) ≤ (1 : Int32).toInt ∧ (1 : Int32).toInt ≤ 3 from (by have z1 : (1 : Int32).toInt = 1 := (by decide); omega))) (cwV 1 hts (gd_V q1622 q1624 q58 q134 q1625) rfl rfl rfl (by decide +kernel) ⟨Nat.le_of_ble_eq_true rfl, Nat.le_of_ble_eq_true rfl⟩) (pv9 hP hK hD hC hS (va_recv hK hP (ci := 9) (q0 := 0) rfl rfl)) rfl rfl hl.1 rfl (lv_room (Nat.le_of_ble_eq_true rfl)) dX9_asks_10 ⟨Nat.le_of_ble_eq_true rfl, Nat.le_of_ble_eq_true rfl⟩) hS (fun q _ h => up9 hS q h) (up9 hS) (fun σ13 tS H1 locs ht hvm hw14 hB hz1 hk1 hS => ?_)
    have hP : va_P D clz (WD9 cy g σ13) H1 := by rw [← ht]; exact hB
    clear hB hz1 hk1 hvm ht
    generalize H1 = H at hP hS ⊢
    have hF15 : Fr (fL [12, 13]) σ2 σ13 := hw14.1
    have hJ16 : J9 (σ13 9) := hw14.2.1
    have b17 : ¬ ((σ13 9).1 12).toInt = 0 := hw14.2.2.1
    exact W.vret hx hb hr (fun tS ht hW => ⟨⟨σ13, rfl, ⟨Fr.tr (Fr.tr (Fr.rf) hF4 (fL_sub rfl)) hF15 (fL_sub rfl), hJ16, (show ((σ 9).1 7).toInt ≤ ((σ13 9).1 7).toInt ∧ ((σ13 9).1 7).toInt ≤ ((σ13 9).1 6).toInt from (by have f0 := j9_7 hJ16 rfl; have f1 := congrArg Int32.toInt (show ((σ13 9).1 7) = ((σ2 9).1 7) from (hF15 9 7 rfl).1); have f2 := j9_6 hJ16 rfl; have f3 := congrArg Int32.toInt (show ((σ13 9).1 6) = ((σ 9).1 6) from ((hF15 9 6 rfl).1).trans ((hF4 9 6 rfl).1)); have f4 := j9_7 hJ rfl; have f5 := h0; have f6 := b7; have f7 := j9_6 hJ5 rfl; have f8 := congrArg Int32.toInt (show ((σ2 9).1 6) = ((σ 9).1 6) from (hF4 9 6 rfl).1); have f9 := j9_6 hJ rfl; have f10 := j9_7 hJ5 rfl; omega)), (show ph ((σ 9).1 7) ((σ 9).1 8) ≤ ph ((σ13 9).1 7) ((σ13 9).1 8) from (by have f0 := (show ph ((σ13 9).1 7) ((σ13 9).1 8) = ph ((σ2 9).1 7) ((σ2 9).1 8) from by rw [(hF15 9 7 rfl).1, (hF15 9 8 rfl).1]); have f1 := b8; omega)), (show ¬ ((σ13 9).1 12).toInt = 0 ∨ ((σ 9).1 12).toInt = 0 from (by have f0 := b17; omega)), trivial⟩, (show va_P D clz (WD9 cy g σ13) tS.heap by rw [ht]; exact hP)⟩, hS.F ht⟩) hS.2.2 dX9_asks_13

theorem q1634 : Cond.code yX9_number cX9_number 4 (some .int) ∈ lw_g := lw_gm (List.mem_of_getElem? (i := 1634) (by decide +kernel)) rfl
theorem dX9_number_0 : decode cX9_number 0 = .ok (.aload_n 0, 1) := by decide +kernel
theorem dX9_number_1 : decode cX9_number 1 = .ok (.getfield 181, 3) := by decide +kernel
theorem dX9_number_4 : decode cX9_number 4 = .ok (.ifCond .eq 5, 3) := by decide +kernel
theorem dX9_number_7 : decode cX9_number 7 = .ok (.iload_n 1, 1) := by decide +kernel
theorem dX9_number_8 : decode cX9_number 8 = .ok (.ireturn, 1) := by decide +kernel
theorem dX9_number_9 : decode cX9_number 9 = .ok (.aload_n 0, 1) := by decide +kernel
theorem dX9_number_10 : decode cX9_number 10 = .ok (.getfield 170, 3) := by decide +kernel
theorem dX9_number_13 : decode cX9_number 13 = .ok (.iconst 2, 1) := by decide +kernel
theorem dX9_number_14 : decode cX9_number 14 = .ok (.if_icmp .eq 10, 3) := by decide +kernel
theorem dX9_number_17 : decode cX9_number 17 = .ok (.aload_n 0, 1) := by decide +kernel
theorem dX9_number_18 : decode cX9_number 18 = .ok (.iconst 1, 1) := by decide +kernel
theorem dX9_number_19 : decode cX9_number 19 = .ok (.invokevirtual 197, 3) := by decide +kernel
theorem dX9_number_22 : decode cX9_number 22 = .ok (.iload_n 1, 1) := by decide +kernel
theorem dX9_number_23 : decode cX9_number 23 = .ok (.ireturn, 1) := by decide +kernel
theorem dX9_number_24 : decode cX9_number 24 = .ok (.aload_n 0, 1) := by decide +kernel
theorem dX9_number_25 : decode cX9_number 25 = .ok (.getfield 163, 3) := by decide +kernel
theorem dX9_number_28 : decode cX9_number 28 = .ok (.i2l, 1) := by decide +kernel
theorem dX9_number_29 : decode cX9_number 29 = .ok (.iload_n 1, 1) := by decide +kernel
theorem dX9_number_30 : decode cX9_number 30 = .ok (.i2l, 1) := by decide +kernel
theorem dX9_number_31 : decode cX9_number 31 = .ok (.iload_n 2, 1) := by decide +kernel
theorem dX9_number_32 : decode cX9_number 32 = .ok (.i2l, 1) := by decide +kernel
theorem dX9_number_33 : decode cX9_number 33 = .ok (.invokestatic 134, 3) := by decide +kernel
theorem dX9_number_36 : decode cX9_number 36 = .ok (.ifCond .ne 10, 3) := by decide +kernel
theorem dX9_number_39 : decode cX9_number 39 = .ok (.aload_n 0, 1) := by decide +kernel
theorem dX9_number_40 : decode cX9_number 40 = .ok (.iconst 2, 1) := by decide +kernel
theorem dX9_number_41 : decode cX9_number 41 = .ok (.invokevirtual 197, 3) := by decide +kernel
theorem dX9_number_44 : decode cX9_number 44 = .ok (.iload_n 1, 1) := by decide +kernel
theorem dX9_number_45 : decode cX9_number 45 = .ok (.ireturn, 1) := by decide +kernel
theorem dX9_number_46 : decode cX9_number 46 = .ok (.aload_n 0, 1) := by decide +kernel
theorem dX9_number_47 : decode cX9_number 47 = .ok (.getfield 163, 3) := by decide +kernel
theorem dX9_number_50 : decode cX9_number 50 = .ok (.istore_n 3, 1) := by decide +kernel
theorem dX9_number_51 : decode cX9_number 51 = .ok (.aload_n 0, 1) := by decide +kernel
theorem dX9_number_52 : decode cX9_number 52 = .ok (.invokevirtual 191, 3) := by decide +kernel
theorem dX9_number_55 : decode cX9_number 55 = .ok (.iload_n 3, 1) := by decide +kernel
theorem dX9_number_56 : decode cX9_number 56 = .ok (.ireturn, 1) := by decide +kernel
set_option maxHeartbeats 4000000 in
set_option maxRecDepth 100000 in
theorem m_X9_number (l : Launch) (D : va_G) (cy : Nat → ClassId) (g : Nat → Nat) (σ : ST) (p1 : Int32) (p2 : Int32) (sz : Nat) (hJ : J9 (σ 9)) (h0 : ((σ 9).1 7).toInt ≤ ((σ 9).1 6).toInt) : Met l yX9_number (ww yX9_number cX9_number 4 (some .int)) ({ frames := 3, cells := 0, slots := 0, locals := 192 }) (va_Pc [.ref (g 60), .int p1, .int p2] (pr9 D cy g σ sz)) (qi9 D cy g sz (fun r τ => Fr (fL [7, 8, 9, 10, 11, 12, 13]) σ τ ∧ J9 (τ 9) ∧ (((σ 9).1 7).toInt ≤ ((τ 9).1 7).toInt ∧ ((τ 9).1 7).toInt ≤ ((τ 9).1 6).toInt) ∧ (ph ((σ 9).1 7) ((σ 9).1 8) ≤ ph ((τ 9).1 7) ((τ 9).1 8)) ∧ (p1.toInt ≤ r.toInt ∧ (r.toInt ≤ p2.toInt ∨ r.toInt = p1.toInt)) ∧ (¬ ((τ 9).1 12).toInt = 0 ∨ (((σ 9).1 12).toInt = 0 ∧ r.toInt ≤ p2.toInt)) ∧ True)) 0 0 (A9 cy g sz) := by
  refine Met.ofW (cc := cX9_number) (maxL := 4) (ret := (some .int)) (by decide) rfl ?_
  intro p e s m args below meth c s₁ B hml hv
  obtain ⟨rfl, hsz, hP, hK, hD0, hC⟩ := hv
  have hx := B.exec
  have hb := B.bytes
  have hr := B.returns
  have hts := hts_g (atoms_spec (ws := ww yX9_number cX9_number 4 (some .int)) B.pre)
  have hown : s.vm.findClass RX9 = some m.cls := findClass_of_methodNamed B.named
  have hlocks := B.notSynchronized
  clear B
  subst hsz
  have hD := fun τ => A9_D (sz := s.heap.size) hD0 τ
  clear hD0
  have hS : va_S (A9 cy g s.heap.size) s.heap s.heap [] := va_S.rf
  have hl := lv_entry ([.ref (g 60), .int p1, .int p2]) (n := 4) (Nat.le_of_ble_eq_true rfl)
  rw [lg_entry_eq]
  generalize (lg_sl ([.ref (g 60), .int p1, .int p2]) ++ List.replicate (4 - (lg_sl ([.ref (g 60), .int p1, .int p2])).length) Slot.unset).toArray = ls at hl ⊢
  have hl : lv_has ls 4 [(0, .ref (g 60)), (1, .int p1), (2, .int p2)] := hl
  refine lv_aload_n hx hb dX9_number_0 rfl (lv_at hl 0 rfl) ?_
  refine g9_12 (x := ((σ 9).1 12)) hx hb hts hown hK hP (rfl) (hts _ q1372) dX9_number_1 ?_
  refine lv_if_eq (tgt := 9) hx hb dX9_number_4 (by decide) (fun c1 => ?_) (fun c1 => ?_)
  ·
    have k2 := peq32 c1
    refine lv_aload_n hx hb dX9_number_9 rfl (lv_at hl 0 rfl) ?_
    refine g9_8 (x := ((σ 9).1 8)) hx hb hts hown hK hP (rfl) (hts _ q1368) dX9_number_10 ?_
    refine lv_iconst (v := 2) hx hb dX9_number_13 (by decide) ?_
    refine lv_icmp_eq (tgt := 24) hx hb dX9_number_14 (by decide) (fun c3 => ?_) (fun c3 => ?_)
    ·
      have k4 := peq32 c3
      refine lv_aload_n hx hb dX9_number_24 rfl (lv_at hl 0 rfl) ?_
      refine g9_10 (x := ((σ 9).1 10)) hx hb hts hown hK hP (rfl) (hts _ q1370) dX9_number_25 ?_
      refine lv_i2l (v := ((σ 9).1 10).toInt64) hx hb dX9_number_28 rfl ?_
      refine lv_iload_n hx hb dX9_number_29 rfl (lv_at hl 1 rfl) ?_
      refine lv_i2l (v := p1.toInt64) hx hb dX9_number_30 rfl ?_
      refine lv_iload_n hx hb dX9_number_31 rfl (lv_at hl 2 rfl) ?_
      refine lv_i2l (v := p2.toInt64) hx hb dX9_number_32 rfl ?_
      refine va_calli (va_runS (As := [.long ((σ 9).1 10).toInt64, .long p1.toInt64, .long p2.toInt64]) (rest := []) ⟨hx, hb, hml, hown, hts⟩ (m_X9_in l D cy g σ ((σ 9).1 10).toInt64 p1.toInt64 p2.toInt64 _ hJ ) (va_cwS 3 hts (gd_S q1550 q1551 q134 q1552) rfl rfl rfl (by decide +kernel) ⟨Nat.le_of_ble_eq_true rfl, Nat.le_of_ble_eq_true rfl⟩) (ps9 hP hK hD hC hS) rfl rfl hl.1 rfl (lv_room (Nat.le_of_ble_eq_true rfl)) dX9_number_33 ⟨Nat.le_of_ble_eq_true rfl, Nat.le_of_ble_eq_true rfl⟩) hS (fun q _ h => up9 hS q h) (up9 hS) (fun r5 σ6 tS H1 locs ht hvm hw7 hB hz1 hk1 hS => ?_)
      have hP : va_P D clz (WD9 cy g σ6) H1 := by rw [← ht]; exact hB
      clear hB hz1 hk1 hvm ht
      generalize H1 = H at hP hS ⊢
      have hw7E : σ = σ6 := (hw7.1).symm
      subst hw7E
      have b8 : (0 : Int) ≤ r5.toInt ∧ r5.toInt ≤ 1 := hw7.2.1
      have b9 : (r5.toInt = 1 ∧ p1.toInt64.toInt ≤ ((σ 9).1 10).toInt64.toInt ∧ ((σ 9).1 10).toInt64.toInt ≤ p2.toInt64.toInt) ∨ (r5.toInt = 0 ∧ ¬ (p1.toInt64.toInt ≤ ((σ 9).1 10).toInt64.toInt ∧ ((σ 9).1 10).toInt64.toInt ≤ p2.toInt64.toInt)) := hw7.2.2.1
      refine lv_if_ne (tgt := 46) hx hb dX9_number_36 (by decide) (fun c10 => ?_) (fun c10 => ?_)
      ·
        have k11 := neq32 c10
        refine lv_aload_n hx hb dX9_number_46 rfl (lv_at hl 0 rfl) ?_
        refine g9_10 (x := ((σ 9).1 10)) hx hb hts hown hK hP (rfl) (hts _ q1370) dX9_number_47 ?_
        refine lv_istore_n (lv' := [(3, .int ((σ 9).1 10)), (0, .ref (g 60)), (1, .int p1), (2, .int p2)]) hx hb dX9_number_50 rfl hl (by decide) rfl (fun ls hl => ?_)
        refine lv_aload_n hx hb dX9_number_51 rfl (lv_at hl 1 rfl) ?_
        refine va_callv (va_runV (As := []) (rest := []) ⟨hx, hb, hml, hown, hts⟩ (m_X9_next l D cy g σ  _ hJ (show ((σ 9).1 7).toInt ≤ ((σ 9).1 6).toInt from (by have f0 := j9_6 hJ rfl; have f1 := j9_7 hJ rfl; have f2 := h0; omega))) (cwV 0 hts (gd_V q1592 q1594 q52 q134 q1595) rfl rfl rfl (by decide +kernel) ⟨Nat.le_of_ble_eq_true rfl, Nat.le_of_ble_eq_true rfl⟩) (pv9 hP hK hD hC hS (va_recv hK hP (ci := 9) (q0 := 0) rfl rfl)) rfl rfl hl.1 rfl (lv_room (Nat.le_of_ble_eq_true rfl)) dX9_number_52 ⟨Nat.le_of_ble_eq_true rfl, Nat.le_of_ble_eq_true rfl⟩) hS (fun q _ h => up9 hS q h) (up9 hS) (fun σ13 tS H1 locs ht hvm hw14 hB hz1 hk1 hS => ?_)
        have hP : va_P D clz (WD9 cy g σ13) H1 := by rw [← ht]; exact hB
        clear hB hz1 hk1 hvm ht
        generalize H1 = H at hP hS ⊢
        have hF15 : Fr (fL [7, 8, 9, 10, 11]) σ σ13 := hw14.1
        have hJ16 : J9 (σ13 9) := hw14.2.1
        have b17 : ((σ 9).1 7).toInt ≤ ((σ13 9).1 7).toInt ∧ ((σ13 9).1 7).toInt ≤ ((σ13 9).1 6).toInt ∧ ((σ13 9).1 6).toInt = ((σ 9).1 6).toInt := hw14.2.2.1
        have b18 : ph ((σ 9).1 7) ((σ 9).1 8) ≤ ph ((σ13 9).1 7) ((σ13 9).1 8) ∧ ((σ 9).1 7).toInt ≤ ph ((σ13 9).1 7) ((σ13 9).1 8) := hw14.2.2.2.1
        refine lv_iload_n hx hb dX9_number_55 rfl (lv_at hl 0 rfl) ?_
        exact W.iret (v := ((σ 9).1 10)) hx hb hr (fun tS ht hW => ⟨⟨((σ 9).1 10), σ13, rfl, ⟨Fr.tr (Fr.rf) hF15 (fL_sub rfl), hJ16, (show ((σ 9).1 7).toInt ≤ ((σ13 9).1 7).toInt ∧ ((σ13 9).1 7).toInt ≤ ((σ13 9).1 6).toInt from (by have f0 := j9_7 hJ16 rfl; have f1 := j9_6 hJ16 rfl; have f2 := congrArg Int32.toInt (show ((σ13 9).1 6) = ((σ 9).1 6) from (hF15 9 6 rfl).1); have f3 := j9_7 hJ rfl; have f4 := h0; have f5 := b17; have f6 := b18; have f7 := j9_6 hJ rfl; omega)), (show ph ((σ 9).1 7) ((σ 9).1 8) ≤ ph ((σ13 9).1 7) ((σ13 9).1 8) from (by have f0 := b18; have f1 := j9_7 hJ rfl; have f2 := h0; have f3 := b17; have f4 := j9_6 hJ rfl; have f5 := j9_6 hJ16 rfl; have f6 := congrArg Int32.toInt (show ((σ13 9).1 6) = ((σ 9).1 6) from (hF15 9 6 rfl).1); have f7 := j9_7 hJ16 rfl; omega)), (show p1.toInt ≤ ((σ 9).1 10).toInt ∧ (((σ 9).1 10).toInt ≤ p2.toInt ∨ ((σ 9).1 10).toInt = p1.toInt) from (by have f0 := t64 (a := ((σ 9).1 10)); have f1 := rg32 ((σ 9).1 10); have f2 := t64 (a := p1); have f3 := rg32 p1; have f4 := t64 (a := p2); have f5 := rg32 p2; have f6 := b9; have f7 := b8; have f8 := k11; have g2 := rg32 p1; have g4 := rg32 p2; have z0 : (0 : Int32).toInt = 0 := (by decide); have w12 := t64 (a := ((σ 9).1 10)); have w13 := t64 (a := p1); have w14 := t64 (a := p2); omega)), (show ¬ ((σ13 9).1 12).toInt = 0 ∨ (((σ 9).1 12).toInt = 0 ∧ ((σ 9).1 10).toInt ≤ p2.toInt) from (by have f0 := congrArg Int32.toInt (show ((σ13 9).1 12) = ((σ 9).1 12) from (hF15 9 12 rfl).1); have f1 := k2; have f2 := t64 (a := ((σ 9).1 10)); have f3 := rg32 ((σ 9).1 10); have f4 := t64 (a := p2); have f5 := rg32 p2; have f6 := b9; have f7 := t64 (a := p1); have f8 := b8; have f9 := k11; have f10 := rg32 p1; have g4 := rg32 p1; have g6 := rg32 p2; have z0 : (0 : Int32).toInt = 0 := (by decide); have w14 := t64 (a := ((σ 9).1 10)); have w15 := t64 (a := p1); have w16 := t64 (a := p2); omega)), trivial⟩, (show va_P D clz (WD9 cy g σ13) tS.heap by rw [ht]; exact hP)⟩, hS.F ht⟩) hS.2.2 dX9_number_56
      ·
        have k19 := peq32 c10
        refine lv_aload_n hx hb dX9_number_39 rfl (lv_at hl 0 rfl) ?_
        refine lv_iconst (v := 2) hx hb dX9_number_40 (by decide) ?_
        refine va_callv (va_runV (As := [.int 2]) (rest := []) ⟨hx, hb, hml, hown, hts⟩ (m_X9_fails l D cy g σ (2) _ hJ (show (1 : Int) ≤ (2 : Int32).toInt ∧ (2 : Int32).toInt ≤ 3 from (by have z2 : (2 : Int32).toInt = 2 := (by decide); omega))) (cwV 1 hts (gd_V q1622 q1624 q58 q134 q1625) rfl rfl rfl (by decide +kernel) ⟨Nat.le_of_ble_eq_true rfl, Nat.le_of_ble_eq_true rfl⟩) (pv9 hP hK hD hC hS (va_recv hK hP (ci := 9) (q0 := 0) rfl rfl)) rfl rfl hl.1 rfl (lv_room (Nat.le_of_ble_eq_true rfl)) dX9_number_41 ⟨Nat.le_of_ble_eq_true rfl, Nat.le_of_ble_eq_true rfl⟩) hS (fun q _ h => up9 hS q h) (up9 hS) (fun σ21 tS H1 locs ht hvm hw22 hB hz1 hk1 hS => ?_)
        have hP : va_P D clz (WD9 cy g σ21) H1 := by rw [← ht]; exact hB
        clear hB hz1 hk1 hvm ht
        generalize H1 = H at hP hS ⊢
        have hF23 : Fr (fL [12, 13]) σ σ21 := hw22.1
        have hJ24 : J9 (σ21 9) := hw22.2.1
        have b25 : ¬ ((σ21 9).1 12).toInt = 0 := hw22.2.2.1
        refine lv_iload_n hx hb dX9_number_44 rfl (lv_at hl 1 rfl) ?_
        exact W.iret (v := p1) hx hb hr (fun tS ht hW => ⟨⟨p1, σ21, rfl, ⟨Fr.tr (Fr.rf) hF23 (fL_sub rfl), hJ24, (show ((σ 9).1 7).toInt ≤ ((σ21 9).1 7).toInt ∧ ((σ21 9).1 7).toInt ≤ ((σ21 9).1 6).toInt from (by have f0 := j9_7 hJ24 rfl; have f1 := congrArg Int32.toInt (show ((σ21 9).1 7) = ((σ 9).1 7) from (hF23 9 7 rfl).1); have f2 := j9_7 hJ rfl; have f3 := j9_6 hJ24 rfl; have f4 := congrArg Int32.toInt (show ((σ21 9).1 6) = ((σ 9).1 6) from (hF23 9 6 rfl).1); have f5 := h0; have f6 := j9_6 hJ rfl; omega)), (show ph ((σ 9).1 7) ((σ 9).1 8) ≤ ph ((σ21 9).1 7) ((σ21 9).1 8) from (by have f0 := (show ph ((σ21 9).1 7) ((σ21 9).1 8) = ph ((σ 9).1 7) ((σ 9).1 8) from by rw [(hF23 9 7 rfl).1, (hF23 9 8 rfl).1]); omega)), (show p1.toInt ≤ p1.toInt ∧ (p1.toInt ≤ p2.toInt ∨ p1.toInt = p1.toInt) from (by have f0 := t64 (a := p1); have f1 := rg32 p1; have f2 := t64 (a := p2); have f3 := rg32 p2; have f4 := b9; have f5 := t64 (a := ((σ 9).1 10)); have f6 := b8; have f7 := k19; have f8 := rg32 ((σ 9).1 10); have g2 := rg32 p1; have g4 := rg32 p2; have z0 : (0 : Int32).toInt = 0 := (by decide); have w12 := t64 (a := ((σ 9).1 10)); have w13 := t64 (a := p1); have w14 := t64 (a := p2); omega)), (show ¬ ((σ21 9).1 12).toInt = 0 ∨ (((σ 9).1 12).toInt = 0 ∧ p1.toInt ≤ p2.toInt) from (by have f0 := k2; have f1 := t64 (a := p1); have f2 := rg32 p1; have f3 := t64 (a := p2); have f4 := rg32 p2; have f5 := b25; have f6 := b9; have f7 := t64 (a := ((σ 9).1 10)); have f8 := b8; have f9 := k19; have f10 := rg32 ((σ 9).1 10); have g4 := rg32 p1; have g6 := rg32 p2; have z0 : (0 : Int32).toInt = 0 := (by decide); have w14 := t64 (a := ((σ 9).1 10)); have w15 := t64 (a := p1); have w16 := t64 (a := p2); omega)), trivial⟩, (show va_P D clz (WD9 cy g σ21) tS.heap by rw [ht]; exact hP)⟩, hS.F ht⟩) hS.2.2 dX9_number_45
    ·
      have k26 := neq32 c3
      refine lv_aload_n hx hb dX9_number_17 rfl (lv_at hl 0 rfl) ?_
      refine lv_iconst (v := 1) hx hb dX9_number_18 (by decide) ?_
      refine va_callv (va_runV (As := [.int 1]) (rest := []) ⟨hx, hb, hml, hown, hts⟩ (m_X9_fails l D cy g σ (1) _ hJ (show (1 : Int) ≤ (1 : Int32).toInt ∧ (1 : Int32).toInt ≤ 3 from (by have z1 : (1 : Int32).toInt = 1 := (by decide); omega))) (cwV 1 hts (gd_V q1622 q1624 q58 q134 q1625) rfl rfl rfl (by decide +kernel) ⟨Nat.le_of_ble_eq_true rfl, Nat.le_of_ble_eq_true rfl⟩) (pv9 hP hK hD hC hS (va_recv hK hP (ci := 9) (q0 := 0) rfl rfl)) rfl rfl hl.1 rfl (lv_room (Nat.le_of_ble_eq_true rfl)) dX9_number_19 ⟨Nat.le_of_ble_eq_true rfl, Nat.le_of_ble_eq_true rfl⟩) hS (fun q _ h => up9 hS q h) (up9 hS) (fun σ28 tS H1 locs ht hvm hw29 hB hz1 hk1 hS => ?_)
      have hP : va_P D clz (WD9 cy g σ28) H1 := by rw [← ht]; exact hB
      clear hB hz1 hk1 hvm ht
      generalize H1 = H at hP hS ⊢
      have hF30 : Fr (fL [12, 13]) σ σ28 := hw29.1
      have hJ31 : J9 (σ28 9) := hw29.2.1
      have b32 : ¬ ((σ28 9).1 12).toInt = 0 := hw29.2.2.1
      refine lv_iload_n hx hb dX9_number_22 rfl (lv_at hl 1 rfl) ?_
      exact W.iret (v := p1) hx hb hr (fun tS ht hW => ⟨⟨p1, σ28, rfl, ⟨Fr.tr (Fr.rf) hF30 (fL_sub rfl), hJ31, (show ((σ 9).1 7).toInt ≤ ((σ28 9).1 7).toInt ∧ ((σ28 9).1 7).toInt ≤ ((σ28 9).1 6).toInt from (by have f0 := j9_7 hJ31 rfl; have f1 := congrArg Int32.toInt (show ((σ28 9).1 7) = ((σ 9).1 7) from (hF30 9 7 rfl).1); have f2 := j9_7 hJ rfl; have f3 := j9_6 hJ31 rfl; have f4 := congrArg Int32.toInt (show ((σ28 9).1 6) = ((σ 9).1 6) from (hF30 9 6 rfl).1); have f5 := h0; have f6 := j9_6 hJ rfl; omega)), (show ph ((σ 9).1 7) ((σ 9).1 8) ≤ ph ((σ28 9).1 7) ((σ28 9).1 8) from (by have f0 := (show ph ((σ28 9).1 7) ((σ28 9).1 8) = ph ((σ 9).1 7) ((σ 9).1 8) from by rw [(hF30 9 7 rfl).1, (hF30 9 8 rfl).1]); omega)), (show p1.toInt ≤ p1.toInt ∧ (p1.toInt ≤ p2.toInt ∨ p1.toInt = p1.toInt) from (by have g0 := rg32 p1; have g1 := rg32 p2; omega)), (show ¬ ((σ28 9).1 12).toInt = 0 ∨ (((σ 9).1 12).toInt = 0 ∧ p1.toInt ≤ p2.toInt) from (by have f0 := k2; have f1 := b32; have g2 := rg32 p1; have g3 := rg32 p2; have z0 : (0 : Int32).toInt = 0 := (by decide); omega)), trivial⟩, (show va_P D clz (WD9 cy g σ28) tS.heap by rw [ht]; exact hP)⟩, hS.F ht⟩) hS.2.2 dX9_number_23
  ·
    have k33 := neq32 c1
    refine lv_iload_n hx hb dX9_number_7 rfl (lv_at hl 1 rfl) ?_
    exact W.iret (v := p1) hx hb hr (fun tS ht hW => ⟨⟨p1, σ, rfl, ⟨Fr.rf, hJ, (show ((σ 9).1 7).toInt ≤ ((σ 9).1 7).toInt ∧ ((σ 9).1 7).toInt ≤ ((σ 9).1 6).toInt from (by have f0 := j9_6 hJ rfl; have f1 := j9_7 hJ rfl; have f2 := h0; omega)), (show ph ((σ 9).1 7) ((σ 9).1 8) ≤ ph ((σ 9).1 7) ((σ 9).1 8) from (by omega)), (show p1.toInt ≤ p1.toInt ∧ (p1.toInt ≤ p2.toInt ∨ p1.toInt = p1.toInt) from (by have g0 := rg32 p1; have g1 := rg32 p2; omega)), (show ¬ ((σ 9).1 12).toInt = 0 ∨ (((σ 9).1 12).toInt = 0 ∧ p1.toInt ≤ p2.toInt) from (by have f0 := k33; have g1 := rg32 p1; have g2 := rg32 p2; have z0 : (0 : Int32).toInt = 0 := (by decide); omega)), trivial⟩, (show va_P D clz (WD9 cy g σ) tS.heap by rw [ht]; exact hP)⟩, hS.F ht⟩) hS.2.2 dX9_number_8

theorem q1630 : Cond.code yX9_number_ cX9_number_ 5 (some .int) ∈ lw_g := lw_gm (List.mem_of_getElem? (i := 1630) (by decide +kernel)) rfl
theorem q1610 : Cond.methodLink RX9 200 yX9_asks ∈ lw_g := lw_gm (List.mem_of_getElem? (i := 1610) (by decide +kernel)) rfl
theorem q1612 : Cond.instanceMethod yX9_asks ∈ lw_g := lw_gm (List.mem_of_getElem? (i := 1612) (by decide +kernel)) rfl
theorem q55 : Cond.selects RX9 yX9_asks yX9_asks ∈ lw_g := lw_gm (List.mem_of_getElem? (i := 55) (by decide +kernel)) rfl
theorem q1631 : Cond.methodLink RX9 204 yX9_number ∈ lw_g := lw_gm (List.mem_of_getElem? (i := 1631) (by decide +kernel)) rfl
theorem q1633 : Cond.instanceMethod yX9_number ∈ lw_g := lw_gm (List.mem_of_getElem? (i := 1633) (by decide +kernel)) rfl
theorem q60 : Cond.selects RX9 yX9_number yX9_number ∈ lw_g := lw_gm (List.mem_of_getElem? (i := 60) (by decide +kernel)) rfl
theorem dX9_number__0 : decode cX9_number_ 0 = .ok (.aload_n 0, 1) := by decide +kernel
theorem dX9_number__1 : decode cX9_number_ 1 = .ok (.lload_n 1, 1) := by decide +kernel
theorem dX9_number__2 : decode cX9_number_ 2 = .ok (.invokevirtual 200, 3) := by decide +kernel
theorem dX9_number__5 : decode cX9_number_ 5 = .ok (.aload_n 0, 1) := by decide +kernel
theorem dX9_number__6 : decode cX9_number_ 6 = .ok (.iload_n 3, 1) := by decide +kernel
theorem dX9_number__7 : decode cX9_number_ 7 = .ok (.iload 4, 2) := by decide +kernel
theorem dX9_number__9 : decode cX9_number_ 9 = .ok (.invokevirtual 204, 3) := by decide +kernel
theorem dX9_number__12 : decode cX9_number_ 12 = .ok (.ireturn, 1) := by decide +kernel
set_option maxHeartbeats 4000000 in
set_option maxRecDepth 100000 in
theorem m_X9_number_ (l : Launch) (D : va_G) (cy : Nat → ClassId) (g : Nat → Nat) (σ : ST) (p1 : Int64) (p3 : Int32) (p4 : Int32) (sz : Nat) (hJ : J9 (σ 9)) (h0 : ((σ 9).1 7).toInt ≤ ((σ 9).1 6).toInt) : Met l yX9_number_ (ww yX9_number_ cX9_number_ 5 (some .int)) ({ frames := 5, cells := 0, slots := 0, locals := 320 }) (va_Pc [.ref (g 60), .long p1, .int p3, .int p4] (pr9 D cy g σ sz)) (qi9 D cy g sz (fun r τ => Fr (fL [7, 8, 9, 10, 11, 12, 13]) σ τ ∧ J9 (τ 9) ∧ (((σ 9).1 7).toInt ≤ ((τ 9).1 7).toInt ∧ ((τ 9).1 7).toInt ≤ ((τ 9).1 6).toInt) ∧ (ph ((σ 9).1 7) ((σ 9).1 8) ≤ ph ((τ 9).1 7) ((τ 9).1 8)) ∧ (p3.toInt ≤ r.toInt ∧ (r.toInt ≤ p4.toInt ∨ r.toInt = p3.toInt)) ∧ (¬ ((τ 9).1 12).toInt = 0 ∨ (((σ 9).1 12).toInt = 0 ∧ r.toInt ≤ p4.toInt)) ∧ True)) 0 0 (A9 cy g sz) := by
  refine Met.ofW (cc := cX9_number_) (maxL := 5) (ret := (some .int)) (by decide) rfl ?_
  intro p e s m args below meth c s₁ B hml hv
  obtain ⟨rfl, hsz, hP, hK, hD0, hC⟩ := hv
  have hx := B.exec
  have hb := B.bytes
  have hr := B.returns
  have hts := hts_g (atoms_spec (ws := ww yX9_number_ cX9_number_ 5 (some .int)) B.pre)
  have hown : s.vm.findClass RX9 = some m.cls := findClass_of_methodNamed B.named
  have hlocks := B.notSynchronized
  clear B
  subst hsz
  have hD := fun τ => A9_D (sz := s.heap.size) hD0 τ
  clear hD0
  have hS : va_S (A9 cy g s.heap.size) s.heap s.heap [] := va_S.rf
  have hl := lv_entry ([.ref (g 60), .long p1, .int p3, .int p4]) (n := 5) (Nat.le_of_ble_eq_true rfl)
  rw [lg_entry_eq]
  generalize (lg_sl ([.ref (g 60), .long p1, .int p3, .int p4]) ++ List.replicate (5 - (lg_sl ([.ref (g 60), .long p1, .int p3, .int p4])).length) Slot.unset).toArray = ls at hl ⊢
  have hl : lv_has ls 5 [(0, .ref (g 60)), (1, .long p1), (3, .int p3), (4, .int p4)] := hl
  refine lv_aload_n hx hb dX9_number__0 rfl (lv_at hl 0 rfl) ?_
  refine lv_lload_n hx hb dX9_number__1 rfl (lv_at hl 1 rfl) ?_
  refine va_callv (va_runV (As := [.long p1]) (rest := []) ⟨hx, hb, hml, hown, hts⟩ (m_X9_asks l D cy g σ p1 _ hJ (show ((σ 9).1 7).toInt ≤ ((σ 9).1 6).toInt from (by have f0 := j9_6 hJ rfl; have f1 := j9_7 hJ rfl; have f2 := h0; omega))) (cwV 1 hts (gd_V q1610 q1612 q55 q134 q1613) rfl rfl rfl (by decide +kernel) ⟨Nat.le_of_ble_eq_true rfl, Nat.le_of_ble_eq_true rfl⟩) (pv9 hP hK hD hC hS (va_recv hK hP (ci := 9) (q0 := 0) rfl rfl)) rfl rfl hl.1 rfl (lv_room (Nat.le_of_ble_eq_true rfl)) dX9_number__2 ⟨Nat.le_of_ble_eq_true rfl, Nat.le_of_ble_eq_true rfl⟩) hS (fun q _ h => up9 hS q h) (up9 hS) (fun σ2 tS H1 locs ht hvm hw3 hB hz1 hk1 hS => ?_)
  have hP : va_P D clz (WD9 cy g σ2) H1 := by rw [← ht]; exact hB
  clear hB hz1 hk1 hvm ht
  generalize H1 = H at hP hS ⊢
  have hF4 : Fr (fL [7, 8, 9, 10, 11, 12, 13]) σ σ2 := hw3.1
  have hJ5 : J9 (σ2 9) := hw3.2.1
  have b6 : ((σ 9).1 7).toInt ≤ ((σ2 9).1 7).toInt ∧ ((σ2 9).1 7).toInt ≤ ((σ2 9).1 6).toInt := hw3.2.2.1
  have b7 : ph ((σ 9).1 7) ((σ 9).1 8) ≤ ph ((σ2 9).1 7) ((σ2 9).1 8) := hw3.2.2.2.1
  have b8 : ¬ ((σ2 9).1 12).toInt = 0 ∨ ((σ 9).1 12).toInt = 0 := hw3.2.2.2.2.1
  refine lv_aload_n hx hb dX9_number__5 rfl (lv_at hl 0 rfl) ?_
  refine lv_iload_n hx hb dX9_number__6 rfl (lv_at hl 2 rfl) ?_
  refine lv_iload hx hb dX9_number__7 (lv_at hl 3 rfl) ?_
  refine va_calli (va_runV (As := [.int p3, .int p4]) (rest := []) ⟨hx, hb, hml, hown, hts⟩ (m_X9_number l D cy g σ2 p3 p4 _ hJ5 (show ((σ2 9).1 7).toInt ≤ ((σ2 9).1 6).toInt from (by have f0 := j9_6 hJ5 rfl; have f1 := congrArg Int32.toInt (show ((σ2 9).1 6) = ((σ 9).1 6) from (hF4 9 6 rfl).1); have f2 := j9_7 hJ5 rfl; have f3 := b6; have f4 := j9_6 hJ rfl; have f5 := j9_7 hJ rfl; have f6 := h0; omega))) (cwV 2 hts (gd_V q1631 q1633 q60 q134 q1634) rfl rfl rfl (by decide +kernel) ⟨Nat.le_of_ble_eq_true rfl, Nat.le_of_ble_eq_true rfl⟩) (pv9 hP hK hD hC hS (va_recv hK hP (ci := 9) (q0 := 0) rfl rfl)) rfl rfl hl.1 rfl (lv_room (Nat.le_of_ble_eq_true rfl)) dX9_number__9 ⟨Nat.le_of_ble_eq_true rfl, Nat.le_of_ble_eq_true rfl⟩) hS (fun q _ h => up9 hS q h) (up9 hS) (fun r9 σ10 tS H1 locs ht hvm hw11 hB hz1 hk1 hS => ?_)
  have hP : va_P D clz (WD9 cy g σ10) H1 := by rw [← ht]; exact hB
  clear hB hz1 hk1 hvm ht
  generalize H1 = H at hP hS ⊢
  have hF12 : Fr (fL [7, 8, 9, 10, 11, 12, 13]) σ2 σ10 := hw11.1
  have hJ13 : J9 (σ10 9) := hw11.2.1
  have b14 : ((σ2 9).1 7).toInt ≤ ((σ10 9).1 7).toInt ∧ ((σ10 9).1 7).toInt ≤ ((σ10 9).1 6).toInt := hw11.2.2.1
  have b15 : ph ((σ2 9).1 7) ((σ2 9).1 8) ≤ ph ((σ10 9).1 7) ((σ10 9).1 8) := hw11.2.2.2.1
  have b16 : p3.toInt ≤ r9.toInt ∧ (r9.toInt ≤ p4.toInt ∨ r9.toInt = p3.toInt) := hw11.2.2.2.2.1
  have b17 : ¬ ((σ10 9).1 12).toInt = 0 ∨ (((σ2 9).1 12).toInt = 0 ∧ r9.toInt ≤ p4.toInt) := hw11.2.2.2.2.2.1
  exact W.iret (v := r9) hx hb hr (fun tS ht hW => ⟨⟨r9, σ10, rfl, ⟨Fr.tr (Fr.tr (Fr.rf) hF4 (fL_sub rfl)) hF12 (fL_sub rfl), hJ13, (show ((σ 9).1 7).toInt ≤ ((σ10 9).1 7).toInt ∧ ((σ10 9).1 7).toInt ≤ ((σ10 9).1 6).toInt from (by have f0 := j9_7 hJ13 rfl; have f1 := j9_7 hJ rfl; have f2 := j9_6 hJ13 rfl; have f3 := congrArg Int32.toInt (show ((σ10 9).1 6) = ((σ 9).1 6) from ((hF12 9 6 rfl).1).trans ((hF4 9 6 rfl).1)); have f4 := h0; have f5 := b6; have f6 := b14; have f7 := j9_6 hJ5 rfl; have f8 := congrArg Int32.toInt (show ((σ2 9).1 6) = ((σ 9).1 6) from (hF4 9 6 rfl).1); have f9 := j9_6 hJ rfl; have f10 := j9_7 hJ5 rfl; omega)), (show ph ((σ 9).1 7) ((σ 9).1 8) ≤ ph ((σ10 9).1 7) ((σ10 9).1 8) from (by have f0 := b7; have f1 := b15; omega)), (show p3.toInt ≤ r9.toInt ∧ (r9.toInt ≤ p4.toInt ∨ r9.toInt = p3.toInt) from (by have f0 := b16; have f1 := b17; have f2 := b8; have g3 := rg32 p3; have g4 := rg32 p4; have g5 := rg32 r9; omega)), (show ¬ ((σ10 9).1 12).toInt = 0 ∨ (((σ 9).1 12).toInt = 0 ∧ r9.toInt ≤ p4.toInt) from (by have f0 := b8; have f1 := b16; have f2 := b17; have g3 := rg32 p3; have g4 := rg32 p4; have g5 := rg32 r9; omega)), trivial⟩, (show va_P D clz (WD9 cy g σ10) tS.heap by rw [ht]; exact hP)⟩, hS.F ht⟩) hS.2.2 dX9_number__12

theorem q1685 : Cond.code yX9_ends cX9_ends 1 none ∈ lw_g := lw_gm (List.mem_of_getElem? (i := 1685) (by decide +kernel)) rfl
theorem dX9_ends_0 : decode cX9_ends 0 = .ok (.aload_n 0, 1) := by decide +kernel
theorem dX9_ends_1 : decode cX9_ends 1 = .ok (.getfield 170, 3) := by decide +kernel
theorem dX9_ends_4 : decode cX9_ends 4 = .ok (.iconst 3, 1) := by decide +kernel
theorem dX9_ends_5 : decode cX9_ends 5 = .ok (.if_icmp .eq 8, 3) := by decide +kernel
theorem dX9_ends_8 : decode cX9_ends 8 = .ok (.aload_n 0, 1) := by decide +kernel
theorem dX9_ends_9 : decode cX9_ends 9 = .ok (.iconst 1, 1) := by decide +kernel
theorem dX9_ends_10 : decode cX9_ends 10 = .ok (.invokevirtual 197, 3) := by decide +kernel
theorem dX9_ends_13 : decode cX9_ends 13 = .ok (.aload_n 0, 1) := by decide +kernel
theorem dX9_ends_14 : decode cX9_ends 14 = .ok (.getfield 181, 3) := by decide +kernel
theorem dX9_ends_17 : decode cX9_ends 17 = .ok (.ifCond .ne 7, 3) := by decide +kernel
theorem dX9_ends_20 : decode cX9_ends 20 = .ok (.aload_n 0, 1) := by decide +kernel
theorem dX9_ends_21 : decode cX9_ends 21 = .ok (.invokevirtual 191, 3) := by decide +kernel
theorem dX9_ends_24 : decode cX9_ends 24 = .ok (.return_, 1) := by decide +kernel
set_option maxHeartbeats 4000000 in
set_option maxRecDepth 100000 in
theorem m_X9_ends (l : Launch) (D : va_G) (cy : Nat → ClassId) (g : Nat → Nat) (σ : ST)  (sz : Nat) (hJ : J9 (σ 9)) (h0 : ((σ 9).1 7).toInt ≤ ((σ 9).1 6).toInt) : Met l yX9_ends (ww yX9_ends cX9_ends 1 none) ({ frames := 3, cells := 0, slots := 0, locals := 192 }) (va_Pc [.ref (g 60)] (pr9 D cy g σ sz)) (qv9 D cy g sz (fun τ => Fr (fL [7, 8, 9, 10, 11, 12, 13]) σ τ ∧ J9 (τ 9) ∧ (((σ 9).1 7).toInt ≤ ((τ 9).1 7).toInt ∧ ((τ 9).1 7).toInt ≤ ((τ 9).1 6).toInt) ∧ (ph ((σ 9).1 7) ((σ 9).1 8) ≤ ph ((τ 9).1 7) ((τ 9).1 8)) ∧ (¬ ((τ 9).1 12).toInt = 0 ∨ ph ((σ 9).1 7) ((σ 9).1 8) + 1 ≤ ph ((τ 9).1 7) ((τ 9).1 8)) ∧ (¬ ((τ 9).1 12).toInt = 0 ∨ ((σ 9).1 12).toInt = 0) ∧ True)) 0 0 (A9 cy g sz) := by
  refine Met.ofW (cc := cX9_ends) (maxL := 1) (ret := none) (by decide) rfl ?_
  intro p e s m args below meth c s₁ B hml hv
  obtain ⟨rfl, hsz, hP, hK, hD0, hC⟩ := hv
  have hx := B.exec
  have hb := B.bytes
  have hr := B.returns
  have hts := hts_g (atoms_spec (ws := ww yX9_ends cX9_ends 1 none) B.pre)
  have hown : s.vm.findClass RX9 = some m.cls := findClass_of_methodNamed B.named
  have hlocks := B.notSynchronized
  clear B
  subst hsz
  have hD := fun τ => A9_D (sz := s.heap.size) hD0 τ
  clear hD0
  have hS : va_S (A9 cy g s.heap.size) s.heap s.heap [] := va_S.rf
  have hl := lv_entry ([.ref (g 60)]) (n := 1) (Nat.le_of_ble_eq_true rfl)
  rw [lg_entry_eq]
  generalize (lg_sl ([.ref (g 60)]) ++ List.replicate (1 - (lg_sl ([.ref (g 60)])).length) Slot.unset).toArray = ls at hl ⊢
  have hl : lv_has ls 1 [(0, .ref (g 60))] := hl
  refine lv_aload_n hx hb dX9_ends_0 rfl (lv_at hl 0 rfl) ?_
  refine g9_8 (x := ((σ 9).1 8)) hx hb hts hown hK hP (rfl) (hts _ q1368) dX9_ends_1 ?_
  refine lv_iconst (v := 3) hx hb dX9_ends_4 (by decide) ?_
  refine lv_icmp_eq (tgt := 13) hx hb dX9_ends_5 (by decide) (fun c1 => ?_) (fun c1 => ?_)
  ·
    have k2 := peq32 c1
    refine lv_aload_n hx hb dX9_ends_13 rfl (lv_at hl 0 rfl) ?_
    refine g9_12 (x := ((σ 9).1 12)) hx hb hts hown hK hP (rfl) (hts _ q1372) dX9_ends_14 ?_
    refine lv_if_ne (tgt := 24) hx hb dX9_ends_17 (by decide) (fun c3 => ?_) (fun c3 => ?_)
    ·
      have k4 := neq32 c3
      exact W.vret hx hb hr (fun tS ht hW => ⟨⟨σ, rfl, ⟨Fr.rf, hJ, (show ((σ 9).1 7).toInt ≤ ((σ 9).1 7).toInt ∧ ((σ 9).1 7).toInt ≤ ((σ 9).1 6).toInt from (by have f0 := j9_6 hJ rfl; have f1 := j9_7 hJ rfl; have f2 := h0; omega)), (show ph ((σ 9).1 7) ((σ 9).1 8) ≤ ph ((σ 9).1 7) ((σ 9).1 8) from (by omega)), (show ¬ ((σ 9).1 12).toInt = 0 ∨ ph ((σ 9).1 7) ((σ 9).1 8) + 1 ≤ ph ((σ 9).1 7) ((σ 9).1 8) from (by have f0 := j9_7 hJ rfl; have f1 := h0; have f2 := k2; have f3 := k4; have f4 := j9_6 hJ rfl; have z0 : (0 : Int32).toInt = 0 := (by decide); have z3 : (3 : Int32).toInt = 3 := (by decide); by_cases h3 : ((σ 9).1 8).toInt = 3; (have h4 := ph3 (a := ((σ 9).1 7)) h3; omega); omega)), (show ¬ ((σ 9).1 12).toInt = 0 ∨ ((σ 9).1 12).toInt = 0 from (by have f0 := k4; have z0 : (0 : Int32).toInt = 0 := (by decide); omega)), trivial⟩, (show va_P D clz (WD9 cy g σ) tS.heap by rw [ht]; exact hP)⟩, hS.F ht⟩) hS.2.2 dX9_ends_24
    ·
      have k5 := peq32 c3
      refine lv_aload_n hx hb dX9_ends_20 rfl (lv_at hl 0 rfl) ?_
      refine va_callv (va_runV (As := []) (rest := []) ⟨hx, hb, hml, hown, hts⟩ (m_X9_next l D cy g σ  _ hJ (show ((σ 9).1 7).toInt ≤ ((σ 9).1 6).toInt from (by have f0 := j9_6 hJ rfl; have f1 := j9_7 hJ rfl; have f2 := h0; omega))) (cwV 0 hts (gd_V q1592 q1594 q52 q134 q1595) rfl rfl rfl (by decide +kernel) ⟨Nat.le_of_ble_eq_true rfl, Nat.le_of_ble_eq_true rfl⟩) (pv9 hP hK hD hC hS (va_recv hK hP (ci := 9) (q0 := 0) rfl rfl)) rfl rfl hl.1 rfl (lv_room (Nat.le_of_ble_eq_true rfl)) dX9_ends_21 ⟨Nat.le_of_ble_eq_true rfl, Nat.le_of_ble_eq_true rfl⟩) hS (fun q _ h => up9 hS q h) (up9 hS) (fun σ7 tS H1 locs ht hvm hw8 hB hz1 hk1 hS => ?_)
      have hP : va_P D clz (WD9 cy g σ7) H1 := by rw [← ht]; exact hB
      clear hB hz1 hk1 hvm ht
      generalize H1 = H at hP hS ⊢
      have hF9 : Fr (fL [7, 8, 9, 10, 11]) σ σ7 := hw8.1
      have hJ10 : J9 (σ7 9) := hw8.2.1
      have b11 : ((σ 9).1 7).toInt ≤ ((σ7 9).1 7).toInt ∧ ((σ7 9).1 7).toInt ≤ ((σ7 9).1 6).toInt ∧ ((σ7 9).1 6).toInt = ((σ 9).1 6).toInt := hw8.2.2.1
      have b12 : ph ((σ 9).1 7) ((σ 9).1 8) ≤ ph ((σ7 9).1 7) ((σ7 9).1 8) ∧ ((σ 9).1 7).toInt ≤ ph ((σ7 9).1 7) ((σ7 9).1 8) := hw8.2.2.2.1
      exact W.vret hx hb hr (fun tS ht hW => ⟨⟨σ7, rfl, ⟨Fr.tr (Fr.rf) hF9 (fL_sub rfl), hJ10, (show ((σ 9).1 7).toInt ≤ ((σ7 9).1 7).toInt ∧ ((σ7 9).1 7).toInt ≤ ((σ7 9).1 6).toInt from (by have f0 := j9_7 hJ10 rfl; have f1 := j9_7 hJ rfl; have f2 := j9_6 hJ10 rfl; have f3 := congrArg Int32.toInt (show ((σ7 9).1 6) = ((σ 9).1 6) from (hF9 9 6 rfl).1); have f4 := h0; have f5 := b11; have f6 := b12; have f7 := j9_6 hJ rfl; omega)), (show ph ((σ 9).1 7) ((σ 9).1 8) ≤ ph ((σ7 9).1 7) ((σ7 9).1 8) from (by have f0 := b12; have f1 := j9_7 hJ rfl; have f2 := h0; have f3 := b11; have f4 := j9_7 hJ10 rfl; have f5 := j9_6 hJ rfl; have f6 := j9_6 hJ10 rfl; have f7 := congrArg Int32.toInt (show ((σ7 9).1 6) = ((σ 9).1 6) from (hF9 9 6 rfl).1); omega)), (show ¬ ((σ7 9).1 12).toInt = 0 ∨ ph ((σ 9).1 7) ((σ 9).1 8) + 1 ≤ ph ((σ7 9).1 7) ((σ7 9).1 8) from (by have f0 := j9_7 hJ rfl; have f1 := congrArg Int32.toInt (show ((σ7 9).1 12) = ((σ 9).1 12) from (hF9 9 12 rfl).1); have f2 := h0; have f3 := k2; have f4 := b11; have f5 := b12; have f6 := j9_7 hJ10 rfl; have f7 := j9_6 hJ rfl; have f8 := j9_6 hJ10 rfl; have f9 := congrArg Int32.toInt (show ((σ7 9).1 6) = ((σ 9).1 6) from (hF9 9 6 rfl).1); have f10 := k5; have z0 : (0 : Int32).toInt = 0 := (by decide); have z3 : (3 : Int32).toInt = 3 := (by decide); by_cases h3 : ((σ 9).1 8).toInt = 3; (have h4 := ph3 (a := ((σ 9).1 7)) h3; omega); omega)), (show ¬ ((σ7 9).1 12).toInt = 0 ∨ ((σ 9).1 12).toInt = 0 from (by have f0 := congrArg Int32.toInt (show ((σ7 9).1 12) = ((σ 9).1 12) from (hF9 9 12 rfl).1); have f1 := k5; have z0 : (0 : Int32).toInt = 0 := (by decide); omega)), trivial⟩, (show va_P D clz (WD9 cy g σ7) tS.heap by rw [ht]; exact hP)⟩, hS.F ht⟩) hS.2.2 dX9_ends_24
  ·
    have k13 := neq32 c1
    refine lv_aload_n hx hb dX9_ends_8 rfl (lv_at hl 0 rfl) ?_
    refine lv_iconst (v := 1) hx hb dX9_ends_9 (by decide) ?_
    refine va_callv (va_runV (As := [.int 1]) (rest := []) ⟨hx, hb, hml, hown, hts⟩ (m_X9_fails l D cy g σ (1) _ hJ (show (1 : Int) ≤ (1 : Int32).toInt ∧ (1 : Int32).toInt ≤ 3 from (by have z1 : (1 : Int32).toInt = 1 := (by decide); omega))) (cwV 1 hts (gd_V q1622 q1624 q58 q134 q1625) rfl rfl rfl (by decide +kernel) ⟨Nat.le_of_ble_eq_true rfl, Nat.le_of_ble_eq_true rfl⟩) (pv9 hP hK hD hC hS (va_recv hK hP (ci := 9) (q0 := 0) rfl rfl)) rfl rfl hl.1 rfl (lv_room (Nat.le_of_ble_eq_true rfl)) dX9_ends_10 ⟨Nat.le_of_ble_eq_true rfl, Nat.le_of_ble_eq_true rfl⟩) hS (fun q _ h => up9 hS q h) (up9 hS) (fun σ15 tS H1 locs ht hvm hw16 hB hz1 hk1 hS => ?_)
    have hP : va_P D clz (WD9 cy g σ15) H1 := by rw [← ht]; exact hB
    clear hB hz1 hk1 hvm ht
    generalize H1 = H at hP hS ⊢
    have hF17 : Fr (fL [12, 13]) σ σ15 := hw16.1
    have hJ18 : J9 (σ15 9) := hw16.2.1
    have b19 : ¬ ((σ15 9).1 12).toInt = 0 := hw16.2.2.1
    refine lv_aload_n hx hb dX9_ends_13 rfl (lv_at hl 0 rfl) ?_
    refine g9_12 (x := ((σ15 9).1 12)) hx hb hts hown hK hP (rfl) (hts _ q1372) dX9_ends_14 ?_
    refine lv_if_ne (tgt := 24) hx hb dX9_ends_17 (by decide) (fun c20 => ?_) (fun c20 => ?_)
    ·
      have k21 := neq32 c20
      exact W.vret hx hb hr (fun tS ht hW => ⟨⟨σ15, rfl, ⟨Fr.tr (Fr.rf) hF17 (fL_sub rfl), hJ18, (show ((σ 9).1 7).toInt ≤ ((σ15 9).1 7).toInt ∧ ((σ15 9).1 7).toInt ≤ ((σ15 9).1 6).toInt from (by have f0 := j9_7 hJ18 rfl; have f1 := congrArg Int32.toInt (show ((σ15 9).1 7) = ((σ 9).1 7) from (hF17 9 7 rfl).1); have f2 := j9_7 hJ rfl; have f3 := j9_6 hJ18 rfl; have f4 := congrArg Int32.toInt (show ((σ15 9).1 6) = ((σ 9).1 6) from (hF17 9 6 rfl).1); have f5 := h0; have f6 := j9_6 hJ rfl; omega)), (show ph ((σ 9).1 7) ((σ 9).1 8) ≤ ph ((σ15 9).1 7) ((σ15 9).1 8) from (by have f0 := (show ph ((σ15 9).1 7) ((σ15 9).1 8) = ph ((σ 9).1 7) ((σ 9).1 8) from by rw [(hF17 9 7 rfl).1, (hF17 9 8 rfl).1]); omega)), (show ¬ ((σ15 9).1 12).toInt = 0 ∨ ph ((σ 9).1 7) ((σ 9).1 8) + 1 ≤ ph ((σ15 9).1 7) ((σ15 9).1 8) from (by have f0 := (show ph ((σ15 9).1 7) ((σ15 9).1 8) = ph ((σ 9).1 7) ((σ 9).1 8) from by rw [(hF17 9 7 rfl).1, (hF17 9 8 rfl).1]); have f1 := j9_7 hJ rfl; have f2 := h0; have f3 := k13; have f4 := b19; have f5 := k21; have f6 := j9_6 hJ rfl; have z0 : (0 : Int32).toInt = 0 := (by decide); have z3 : (3 : Int32).toInt = 3 := (by decide); by_cases h3 : ((σ 9).1 8).toInt = 3; (have h4 := ph3 (a := ((σ 9).1 7)) h3; omega); omega)), (show ¬ ((σ15 9).1 12).toInt = 0 ∨ ((σ 9).1 12).toInt = 0 from (by have f0 := b19; have f1 := k21; have z0 : (0 : Int32).toInt = 0 := (by decide); omega)), trivial⟩, (show va_P D clz (WD9 cy g σ15) tS.heap by rw [ht]; exact hP)⟩, hS.F ht⟩) hS.2.2 dX9_ends_24
    ·
      have k22 := peq32 c20
      refine lv_aload_n hx hb dX9_ends_20 rfl (lv_at hl 0 rfl) ?_
      refine va_callv (va_runV (As := []) (rest := []) ⟨hx, hb, hml, hown, hts⟩ (m_X9_next l D cy g σ15  _ hJ18 (show ((σ15 9).1 7).toInt ≤ ((σ15 9).1 6).toInt from (by have f0 := j9_7 hJ18 rfl; have f1 := congrArg Int32.toInt (show ((σ15 9).1 7) = ((σ 9).1 7) from (hF17 9 7 rfl).1); have f2 := j9_6 hJ18 rfl; have f3 := congrArg Int32.toInt (show ((σ15 9).1 6) = ((σ 9).1 6) from (hF17 9 6 rfl).1); have f4 := j9_6 hJ rfl; have f5 := j9_7 hJ rfl; have f6 := h0; omega))) (cwV 0 hts (gd_V q1592 q1594 q52 q134 q1595) rfl rfl rfl (by decide +kernel) ⟨Nat.le_of_ble_eq_true rfl, Nat.le_of_ble_eq_true rfl⟩) (pv9 hP hK hD hC hS (va_recv hK hP (ci := 9) (q0 := 0) rfl rfl)) rfl rfl hl.1 rfl (lv_room (Nat.le_of_ble_eq_true rfl)) dX9_ends_21 ⟨Nat.le_of_ble_eq_true rfl, Nat.le_of_ble_eq_true rfl⟩) hS (fun q _ h => up9 hS q h) (up9 hS) (fun σ24 tS H1 locs ht hvm hw25 hB hz1 hk1 hS => ?_)
      have hP : va_P D clz (WD9 cy g σ24) H1 := by rw [← ht]; exact hB
      clear hB hz1 hk1 hvm ht
      generalize H1 = H at hP hS ⊢
      have hF26 : Fr (fL [7, 8, 9, 10, 11]) σ15 σ24 := hw25.1
      have hJ27 : J9 (σ24 9) := hw25.2.1
      have b28 : ((σ15 9).1 7).toInt ≤ ((σ24 9).1 7).toInt ∧ ((σ24 9).1 7).toInt ≤ ((σ24 9).1 6).toInt ∧ ((σ24 9).1 6).toInt = ((σ15 9).1 6).toInt := hw25.2.2.1
      have b29 : ph ((σ15 9).1 7) ((σ15 9).1 8) ≤ ph ((σ24 9).1 7) ((σ24 9).1 8) ∧ ((σ15 9).1 7).toInt ≤ ph ((σ24 9).1 7) ((σ24 9).1 8) := hw25.2.2.2.1
      exact W.vret hx hb hr (fun tS ht hW => ⟨⟨σ24, rfl, ⟨Fr.tr (Fr.tr (Fr.rf) hF17 (fL_sub rfl)) hF26 (fL_sub rfl), hJ27, (show ((σ 9).1 7).toInt ≤ ((σ24 9).1 7).toInt ∧ ((σ24 9).1 7).toInt ≤ ((σ24 9).1 6).toInt from (by have f0 := j9_6 hJ27 rfl; have f1 := congrArg Int32.toInt (show ((σ24 9).1 6) = ((σ 9).1 6) from ((hF26 9 6 rfl).1).trans ((hF17 9 6 rfl).1)); have f2 := j9_7 hJ27 rfl; have f3 := j9_7 hJ rfl; have f4 := h0; have f5 := b28; have f6 := j9_6 hJ rfl; have f7 := j9_7 hJ18 rfl; have f8 := congrArg Int32.toInt (show ((σ15 9).1 7) = ((σ 9).1 7) from (hF17 9 7 rfl).1); have f9 := j9_6 hJ18 rfl; have f10 := congrArg Int32.toInt (show ((σ15 9).1 6) = ((σ 9).1 6) from (hF17 9 6 rfl).1); have f11 := b29; have f12 := (show ph ((σ15 9).1 7) ((σ15 9).1 8) = ph ((σ 9).1 7) ((σ 9).1 8) from by rw [(hF17 9 7 rfl).1, (hF17 9 8 rfl).1]); omega)), (show ph ((σ 9).1 7) ((σ 9).1 8) ≤ ph ((σ24 9).1 7) ((σ24 9).1 8) from (by have f0 := b29; have f1 := (show ph ((σ15 9).1 7) ((σ15 9).1 8) = ph ((σ 9).1 7) ((σ 9).1 8) from by rw [(hF17 9 7 rfl).1, (hF17 9 8 rfl).1]); have f2 := j9_7 hJ18 rfl; have f3 := congrArg Int32.toInt (show ((σ15 9).1 7) = ((σ 9).1 7) from (hF17 9 7 rfl).1); have f4 := b28; have f5 := j9_7 hJ27 rfl; have f6 := j9_6 hJ27 rfl; have f7 := congrArg Int32.toInt (show ((σ24 9).1 6) = ((σ 9).1 6) from ((hF26 9 6 rfl).1).trans ((hF17 9 6 rfl).1)); have f8 := j9_7 hJ rfl; have f9 := j9_6 hJ18 rfl; have f10 := congrArg Int32.toInt (show ((σ15 9).1 6) = ((σ 9).1 6) from (hF17 9 6 rfl).1); have f11 := h0; have f12 := j9_6 hJ rfl; omega)), (show ¬ ((σ24 9).1 12).toInt = 0 ∨ ph ((σ 9).1 7) ((σ 9).1 8) + 1 ≤ ph ((σ24 9).1 7) ((σ24 9).1 8) from (by have f0 := congrArg Int32.toInt (show ((σ24 9).1 12) = ((σ15 9).1 12) from (hF26 9 12 rfl).1); have f1 := j9_7 hJ rfl; have f2 := h0; have f3 := k13; have f4 := b29; have f5 := j9_6 hJ rfl; have f6 := (show ph ((σ15 9).1 7) ((σ15 9).1 8) = ph ((σ 9).1 7) ((σ 9).1 8) from by rw [(hF17 9 7 rfl).1, (hF17 9 8 rfl).1]); have f7 := j9_7 hJ18 rfl; have f8 := congrArg Int32.toInt (show ((σ15 9).1 7) = ((σ 9).1 7) from (hF17 9 7 rfl).1); have f9 := b19; have f10 := k22; have f11 := b28; have f12 := j9_6 hJ27 rfl; have f13 := congrArg Int32.toInt (show ((σ24 9).1 6) = ((σ 9).1 6) from ((hF26 9 6 rfl).1).trans ((hF17 9 6 rfl).1)); have f14 := j9_7 hJ27 rfl; have f15 := j9_6 hJ18 rfl; have f16 := congrArg Int32.toInt (show ((σ15 9).1 6) = ((σ 9).1 6) from (hF17 9 6 rfl).1); have z0 : (0 : Int32).toInt = 0 := (by decide); have z3 : (3 : Int32).toInt = 3 := (by decide); by_cases h3 : ((σ 9).1 8).toInt = 3; (have h4 := ph3 (a := ((σ 9).1 7)) h3; omega); omega)), (show ¬ ((σ24 9).1 12).toInt = 0 ∨ ((σ 9).1 12).toInt = 0 from (by have f0 := congrArg Int32.toInt (show ((σ24 9).1 12) = ((σ15 9).1 12) from (hF26 9 12 rfl).1); have f1 := b19; have f2 := k22; have z0 : (0 : Int32).toInt = 0 := (by decide); omega)), trivial⟩, (show va_P D clz (WD9 cy g σ24) tS.heap by rw [ht]; exact hP)⟩, hS.F ht⟩) hS.2.2 dX9_ends_24

theorem q1591 : Cond.code yX9_begins cX9_begins 1 none ∈ lw_g := lw_gm (List.mem_of_getElem? (i := 1591) (by decide +kernel)) rfl
theorem dX9_begins_0 : decode cX9_begins 0 = .ok (.aload_n 0, 1) := by decide +kernel
theorem dX9_begins_1 : decode cX9_begins 1 = .ok (.iconst 0, 1) := by decide +kernel
theorem dX9_begins_2 : decode cX9_begins 2 = .ok (.putfield 181, 3) := by decide +kernel
theorem dX9_begins_5 : decode cX9_begins 5 = .ok (.aload_n 0, 1) := by decide +kernel
theorem dX9_begins_6 : decode cX9_begins 6 = .ok (.iconst (-1), 1) := by decide +kernel
theorem dX9_begins_7 : decode cX9_begins 7 = .ok (.putfield 184, 3) := by decide +kernel
theorem dX9_begins_10 : decode cX9_begins 10 = .ok (.aload_n 0, 1) := by decide +kernel
theorem dX9_begins_11 : decode cX9_begins 11 = .ok (.iconst 0, 1) := by decide +kernel
theorem dX9_begins_12 : decode cX9_begins 12 = .ok (.putfield 153, 3) := by decide +kernel
theorem dX9_begins_15 : decode cX9_begins 15 = .ok (.aload_n 0, 1) := by decide +kernel
theorem dX9_begins_16 : decode cX9_begins 16 = .ok (.invokevirtual 191, 3) := by decide +kernel
theorem dX9_begins_19 : decode cX9_begins 19 = .ok (.return_, 1) := by decide +kernel
set_option maxHeartbeats 4000000 in
set_option maxRecDepth 100000 in
theorem m_X9_begins (l : Launch) (D : va_G) (cy : Nat → ClassId) (g : Nat → Nat) (σ : ST)  (sz : Nat) (hJ : J9 (σ 9))  : Met l yX9_begins (ww yX9_begins cX9_begins 1 none) ({ frames := 3, cells := 0, slots := 0, locals := 192 }) (va_Pc [.ref (g 60)] (pr9 D cy g σ sz)) (qv9 D cy g sz (fun τ => Fr (fL [7, 8, 9, 10, 11, 12, 13]) σ τ ∧ J9 (τ 9) ∧ (((τ 9).1 7).toInt ≤ ((τ 9).1 6).toInt ∧ ((τ 9).1 12).toInt = 0) ∧ True)) 0 0 (A9 cy g sz) := by
  refine Met.ofW (cc := cX9_begins) (maxL := 1) (ret := none) (by decide) rfl ?_
  intro p e s m args below meth c s₁ B hml hv
  obtain ⟨rfl, hsz, hP, hK, hD0, hC⟩ := hv
  have hx := B.exec
  have hb := B.bytes
  have hr := B.returns
  have hts := hts_g (atoms_spec (ws := ww yX9_begins cX9_begins 1 none) B.pre)
  have hown : s.vm.findClass RX9 = some m.cls := findClass_of_methodNamed B.named
  have hlocks := B.notSynchronized
  clear B
  subst hsz
  have hD := fun τ => A9_D (sz := s.heap.size) hD0 τ
  clear hD0
  have hS : va_S (A9 cy g s.heap.size) s.heap s.heap [] := va_S.rf
  have hl := lv_entry ([.ref (g 60)]) (n := 1) (Nat.le_of_ble_eq_true rfl)
  rw [lg_entry_eq]
  generalize (lg_sl ([.ref (g 60)]) ++ List.replicate (1 - (lg_sl ([.ref (g 60)])).length) Slot.unset).toArray = ls at hl ⊢
  have hl : lv_has ls 1 [(0, .ref (g 60))] := hl
  refine lv_aload_n hx hb dX9_begins_0 rfl (lv_at hl 0 rfl) ?_
  refine lv_iconst (v := 0) hx hb dX9_begins_1 (by decide) ?_
  refine p9_12 hx hb hts hown hK hP hD hS (hts _ q1372) dX9_begins_2 (fun H locs σ1 eσ1 hP hS => ?_)
  have hJ2 : J9 (σ1 9) := hJ.I eσ1 (show JI9 12 (0 : Int32) from trivial)
  refine lv_aload_n hx hb dX9_begins_5 rfl (lv_at hl 0 rfl) ?_
  refine lv_iconst (v := (-1)) hx hb dX9_begins_6 (by decide) ?_
  refine p9_13 hx hb hts hown hK hP hD hS (hts _ q1373) dX9_begins_7 (fun H locs σ3 eσ3 hP hS => ?_)
  have hJ4 : J9 (σ3 9) := hJ2.I eσ3 (show JI9 13 ((-1) : Int32) from trivial)
  refine lv_aload_n hx hb dX9_begins_10 rfl (lv_at hl 0 rfl) ?_
  refine lv_iconst (v := 0) hx hb dX9_begins_11 (by decide) ?_
  refine p9_7 hx hb hts hown hK hP hD hS (hts _ q1367) dX9_begins_12 (fun H locs σ5 eσ5 hP hS => ?_)
  have hJ6 : J9 (σ5 9) := hJ4.I eσ5 (show JI9 7 (0 : Int32) from (by constructor <;> decide))
  refine lv_aload_n hx hb dX9_begins_15 rfl (lv_at hl 0 rfl) ?_
  refine va_callv (va_runV (As := []) (rest := []) ⟨hx, hb, hml, hown, hts⟩ (m_X9_next l D cy g σ5  _ hJ6 (show ((σ5 9).1 7).toInt ≤ ((σ5 9).1 6).toInt from (by have f0 := j9_6 hJ6 rfl; have f1 := congrArg Int32.toInt (show ((σ5 9).1 6) = ((σ 9).1 6) from (((sI_f eσ5) 9 6 rfl).1).trans ((((sI_f eσ3) 9 6 rfl).1).trans (((sI_f eσ1) 9 6 rfl).1))); have f2 := j9_7 hJ6 rfl; have f3 := congrArg Int32.toInt (show ((σ5 9).1 7) = (0 : Int32) from sI_s eσ5); have f4 := j9_6 hJ rfl; have z0 : (0 : Int32).toInt = 0 := (by decide); omega))) (cwV 0 hts (gd_V q1592 q1594 q52 q134 q1595) rfl rfl rfl (by decide +kernel) ⟨Nat.le_of_ble_eq_true rfl, Nat.le_of_ble_eq_true rfl⟩) (pv9 hP hK hD hC hS (va_recv hK hP (ci := 9) (q0 := 0) rfl rfl)) rfl rfl hl.1 rfl (lv_room (Nat.le_of_ble_eq_true rfl)) dX9_begins_16 ⟨Nat.le_of_ble_eq_true rfl, Nat.le_of_ble_eq_true rfl⟩) hS (fun q _ h => up9 hS q h) (up9 hS) (fun σ8 tS H1 locs ht hvm hw9 hB hz1 hk1 hS => ?_)
  have hP : va_P D clz (WD9 cy g σ8) H1 := by rw [← ht]; exact hB
  clear hB hz1 hk1 hvm ht
  generalize H1 = H at hP hS ⊢
  have hF10 : Fr (fL [7, 8, 9, 10, 11]) σ5 σ8 := hw9.1
  have hJ11 : J9 (σ8 9) := hw9.2.1
  have b12 : ((σ5 9).1 7).toInt ≤ ((σ8 9).1 7).toInt ∧ ((σ8 9).1 7).toInt ≤ ((σ8 9).1 6).toInt ∧ ((σ8 9).1 6).toInt = ((σ5 9).1 6).toInt := hw9.2.2.1
  have b13 : ph ((σ5 9).1 7) ((σ5 9).1 8) ≤ ph ((σ8 9).1 7) ((σ8 9).1 8) ∧ ((σ5 9).1 7).toInt ≤ ph ((σ8 9).1 7) ((σ8 9).1 8) := hw9.2.2.2.1
  exact W.vret hx hb hr (fun tS ht hW => ⟨⟨σ8, rfl, ⟨Fr.tr (Fr.tr (Fr.tr (Fr.tr (Fr.rf) (sI_f eσ1) (fN_L rfl)) (sI_f eσ3) (fN_L rfl)) (sI_f eσ5) (fN_L rfl)) hF10 (fL_sub rfl), hJ11, (show ((σ8 9).1 7).toInt ≤ ((σ8 9).1 6).toInt ∧ ((σ8 9).1 12).toInt = 0 from (by have f0 := congrArg Int32.toInt (show ((σ8 9).1 12) = (0 : Int32) from (((hF10 9 12 rfl).1).trans ((((sI_f eσ5) 9 12 rfl).1).trans (((sI_f eσ3) 9 12 rfl).1))).trans (sI_s eσ1)); have f1 := j9_6 hJ11 rfl; have f2 := congrArg Int32.toInt (show ((σ8 9).1 6) = ((σ 9).1 6) from ((hF10 9 6 rfl).1).trans ((((sI_f eσ5) 9 6 rfl).1).trans ((((sI_f eσ3) 9 6 rfl).1).trans (((sI_f eσ1) 9 6 rfl).1)))); have f3 := j9_7 hJ11 rfl; have f4 := b12; have f5 := j9_6 hJ rfl; have f6 := j9_6 hJ6 rfl; have f7 := congrArg Int32.toInt (show ((σ5 9).1 6) = ((σ 9).1 6) from (((sI_f eσ5) 9 6 rfl).1).trans ((((sI_f eσ3) 9 6 rfl).1).trans (((sI_f eσ1) 9 6 rfl).1))); have f8 := j9_7 hJ6 rfl; have f9 := congrArg Int32.toInt (show ((σ5 9).1 7) = (0 : Int32) from sI_s eσ5); have f10 := b13; have z0 : (0 : Int32).toInt = 0 := (by decide); omega)), trivial⟩, (show va_P D clz (WD9 cy g σ8) tS.heap by rw [ht]; exact hP)⟩, hS.F ht⟩) hS.2.2 dX9_begins_19

theorem q1689 : Cond.code yX9_isOver cX9_isOver 1 none ∈ lw_g := lw_gm (List.mem_of_getElem? (i := 1689) (by decide +kernel)) rfl
theorem q1374 : Cond.fieldLink RX9 208 "LipsAndSlidesModel" "fault" "I" ∈ lw_g := lw_gm (List.mem_of_getElem? (i := 1374) (by decide +kernel)) rfl
theorem q1375 : Cond.fieldLink RX9 27 "LipsAndSlidesModel" "faultPlace" "I" ∈ lw_g := lw_gm (List.mem_of_getElem? (i := 1375) (by decide +kernel)) rfl
theorem dX9_isOver_0 : decode cX9_isOver 0 = .ok (.aload_n 0, 1) := by decide +kernel
theorem dX9_isOver_1 : decode cX9_isOver 1 = .ok (.iconst 0, 1) := by decide +kernel
theorem dX9_isOver_2 : decode cX9_isOver 2 = .ok (.putfield 146, 3) := by decide +kernel
theorem dX9_isOver_5 : decode cX9_isOver 5 = .ok (.aload_n 0, 1) := by decide +kernel
theorem dX9_isOver_6 : decode cX9_isOver 6 = .ok (.aload_n 0, 1) := by decide +kernel
theorem dX9_isOver_7 : decode cX9_isOver 7 = .ok (.getfield 181, 3) := by decide +kernel
theorem dX9_isOver_10 : decode cX9_isOver 10 = .ok (.putfield 208, 3) := by decide +kernel
theorem dX9_isOver_13 : decode cX9_isOver 13 = .ok (.aload_n 0, 1) := by decide +kernel
theorem dX9_isOver_14 : decode cX9_isOver 14 = .ok (.aload_n 0, 1) := by decide +kernel
theorem dX9_isOver_15 : decode cX9_isOver 15 = .ok (.getfield 181, 3) := by decide +kernel
theorem dX9_isOver_18 : decode cX9_isOver 18 = .ok (.ifCond .ne 7, 3) := by decide +kernel
theorem dX9_isOver_21 : decode cX9_isOver 21 = .ok (.iconst (-1), 1) := by decide +kernel
theorem dX9_isOver_22 : decode cX9_isOver 22 = .ok (.goto 7, 3) := by decide +kernel
theorem dX9_isOver_25 : decode cX9_isOver 25 = .ok (.aload_n 0, 1) := by decide +kernel
theorem dX9_isOver_26 : decode cX9_isOver 26 = .ok (.getfield 184, 3) := by decide +kernel
theorem dX9_isOver_29 : decode cX9_isOver 29 = .ok (.putfield 27, 3) := by decide +kernel
theorem dX9_isOver_32 : decode cX9_isOver 32 = .ok (.return_, 1) := by decide +kernel
set_option maxHeartbeats 4000000 in
set_option maxRecDepth 100000 in
theorem m_X9_isOver (l : Launch) (D : va_G) (cy : Nat → ClassId) (g : Nat → Nat) (σ : ST)  (sz : Nat) (hJ : J9 (σ 9))  : Met l yX9_isOver (ww yX9_isOver cX9_isOver 1 none) ({ frames := 1, cells := 0, slots := 0, locals := 64 }) (va_Pc [.ref (g 60)] (pr9 D cy g σ sz)) (qv9 D cy g sz (fun τ => Fr (fL [6, 14, 15]) σ τ ∧ J9 (τ 9) ∧ True)) 0 0 (A9 cy g sz) := by
  refine Met.ofW (cc := cX9_isOver) (maxL := 1) (ret := none) (by decide) rfl ?_
  intro p e s m args below meth c s₁ B hml hv
  obtain ⟨rfl, hsz, hP, hK, hD0, hC⟩ := hv
  have hx := B.exec
  have hb := B.bytes
  have hr := B.returns
  have hts := hts_g (atoms_spec (ws := ww yX9_isOver cX9_isOver 1 none) B.pre)
  have hown : s.vm.findClass RX9 = some m.cls := findClass_of_methodNamed B.named
  have hlocks := B.notSynchronized
  clear B
  subst hsz
  have hD := fun τ => A9_D (sz := s.heap.size) hD0 τ
  clear hD0
  have hS : va_S (A9 cy g s.heap.size) s.heap s.heap [] := va_S.rf
  have hl := lv_entry ([.ref (g 60)]) (n := 1) (Nat.le_of_ble_eq_true rfl)
  rw [lg_entry_eq]
  generalize (lg_sl ([.ref (g 60)]) ++ List.replicate (1 - (lg_sl ([.ref (g 60)])).length) Slot.unset).toArray = ls at hl ⊢
  have hl : lv_has ls 1 [(0, .ref (g 60))] := hl
  refine lv_aload_n hx hb dX9_isOver_0 rfl (lv_at hl 0 rfl) ?_
  refine lv_iconst (v := 0) hx hb dX9_isOver_1 (by decide) ?_
  refine p9_6 hx hb hts hown hK hP hD hS (hts _ q1366) dX9_isOver_2 (fun H locs σ1 eσ1 hP hS => ?_)
  have hJ2 : J9 (σ1 9) := hJ.I eσ1 (show JI9 6 (0 : Int32) from (by constructor <;> decide))
  refine lv_aload_n hx hb dX9_isOver_5 rfl (lv_at hl 0 rfl) ?_
  refine lv_aload_n hx hb dX9_isOver_6 rfl (lv_at hl 0 rfl) ?_
  refine g9_12 (x := ((σ 9).1 12)) hx hb hts hown hK hP (((sI_f eσ1) 9 12 rfl).1) (hts _ q1372) dX9_isOver_7 ?_
  refine p9_14 hx hb hts hown hK hP hD hS (hts _ q1374) dX9_isOver_10 (fun H locs σ3 eσ3 hP hS => ?_)
  have hJ4 : J9 (σ3 9) := hJ2.I eσ3 (show JI9 14 ((σ 9).1 12) from trivial)
  refine lv_aload_n hx hb dX9_isOver_13 rfl (lv_at hl 0 rfl) ?_
  refine lv_aload_n hx hb dX9_isOver_14 rfl (lv_at hl 0 rfl) ?_
  refine g9_12 (x := ((σ 9).1 12)) hx hb hts hown hK hP ((((sI_f eσ3) 9 12 rfl).1).trans (((sI_f eσ1) 9 12 rfl).1)) (hts _ q1372) dX9_isOver_15 ?_
  refine lv_if_ne (tgt := 25) hx hb dX9_isOver_18 (by decide) (fun c5 => ?_) (fun c5 => ?_)
  ·
    have k6 := neq32 c5
    refine lv_aload_n hx hb dX9_isOver_25 rfl (lv_at hl 0 rfl) ?_
    refine g9_13 (x := ((σ 9).1 13)) hx hb hts hown hK hP ((((sI_f eσ3) 9 13 rfl).1).trans (((sI_f eσ1) 9 13 rfl).1)) (hts _ q1373) dX9_isOver_26 ?_
    refine p9_15 hx hb hts hown hK hP hD hS (hts _ q1375) dX9_isOver_29 (fun H locs σ7 eσ7 hP hS => ?_)
    have hJ8 : J9 (σ7 9) := hJ4.I eσ7 (show JI9 15 ((σ 9).1 13) from trivial)
    exact W.vret hx hb hr (fun tS ht hW => ⟨⟨σ7, rfl, ⟨Fr.tr (Fr.tr (Fr.tr (Fr.rf) (sI_f eσ1) (fN_L rfl)) (sI_f eσ3) (fN_L rfl)) (sI_f eσ7) (fN_L rfl), hJ8, trivial⟩, (show va_P D clz (WD9 cy g σ7) tS.heap by rw [ht]; exact hP)⟩, hS.F ht⟩) hS.2.2 dX9_isOver_32
  ·
    have k9 := peq32 c5
    refine lv_iconst (v := (-1)) hx hb dX9_isOver_21 (by decide) ?_
    refine lv_goto (tgt := 29) hx hb dX9_isOver_22 (by decide) ?_
    refine p9_15 hx hb hts hown hK hP hD hS (hts _ q1375) dX9_isOver_29 (fun H locs σ10 eσ10 hP hS => ?_)
    have hJ11 : J9 (σ10 9) := hJ4.I eσ10 (show JI9 15 ((-1) : Int32) from trivial)
    exact W.vret hx hb hr (fun tS ht hW => ⟨⟨σ10, rfl, ⟨Fr.tr (Fr.tr (Fr.tr (Fr.rf) (sI_f eσ1) (fN_L rfl)) (sI_f eσ3) (fN_L rfl)) (sI_f eσ10) (fN_L rfl), hJ11, trivial⟩, (show va_P D clz (WD9 cy g σ10) tS.heap by rw [ht]; exact hP)⟩, hS.F ht⟩) hS.2.2 dX9_isOver_32

theorem q1579 : Cond.code yX9_fault cX9_fault 2 (some .int) ∈ lw_g := lw_gm (List.mem_of_getElem? (i := 1579) (by decide +kernel)) rfl
theorem dX9_fault_0 : decode cX9_fault 0 = .ok (.aload_n 0, 1) := by decide +kernel
theorem dX9_fault_1 : decode cX9_fault 1 = .ok (.iconst 0, 1) := by decide +kernel
theorem dX9_fault_2 : decode cX9_fault 2 = .ok (.putfield 129, 3) := by decide +kernel
theorem dX9_fault_5 : decode cX9_fault 5 = .ok (.iload_n 1, 1) := by decide +kernel
theorem dX9_fault_6 : decode cX9_fault 6 = .ok (.ifCond .ne 10, 3) := by decide +kernel
theorem dX9_fault_9 : decode cX9_fault 9 = .ok (.aload_n 0, 1) := by decide +kernel
theorem dX9_fault_10 : decode cX9_fault 10 = .ok (.getfield 208, 3) := by decide +kernel
theorem dX9_fault_13 : decode cX9_fault 13 = .ok (.goto 16, 3) := by decide +kernel
theorem dX9_fault_16 : decode cX9_fault 16 = .ok (.iload_n 1, 1) := by decide +kernel
theorem dX9_fault_17 : decode cX9_fault 17 = .ok (.iconst 1, 1) := by decide +kernel
theorem dX9_fault_18 : decode cX9_fault 18 = .ok (.if_icmp .ne 10, 3) := by decide +kernel
theorem dX9_fault_21 : decode cX9_fault 21 = .ok (.aload_n 0, 1) := by decide +kernel
theorem dX9_fault_22 : decode cX9_fault 22 = .ok (.getfield 27, 3) := by decide +kernel
theorem dX9_fault_25 : decode cX9_fault 25 = .ok (.goto 4, 3) := by decide +kernel
theorem dX9_fault_28 : decode cX9_fault 28 = .ok (.iconst (-1), 1) := by decide +kernel
theorem dX9_fault_29 : decode cX9_fault 29 = .ok (.ireturn, 1) := by decide +kernel
set_option maxHeartbeats 4000000 in
set_option maxRecDepth 100000 in
theorem m_X9_fault (l : Launch) (D : va_G) (cy : Nat → ClassId) (g : Nat → Nat) (σ : ST) (p1 : Int32) (sz : Nat) (hJ : J9 (σ 9))  : Met l yX9_fault (ww yX9_fault cX9_fault 2 (some .int)) ({ frames := 1, cells := 0, slots := 0, locals := 64 }) (va_Pc [.ref (g 60), .int p1] (pr9 D cy g σ sz)) (qi9 D cy g sz (fun r τ => Fr (fL [0]) σ τ ∧ J9 (τ 9) ∧ True)) 0 0 (A9 cy g sz) := by
  refine Met.ofW (cc := cX9_fault) (maxL := 2) (ret := (some .int)) (by decide) rfl ?_
  intro p e s m args below meth c s₁ B hml hv
  obtain ⟨rfl, hsz, hP, hK, hD0, hC⟩ := hv
  have hx := B.exec
  have hb := B.bytes
  have hr := B.returns
  have hts := hts_g (atoms_spec (ws := ww yX9_fault cX9_fault 2 (some .int)) B.pre)
  have hown : s.vm.findClass RX9 = some m.cls := findClass_of_methodNamed B.named
  have hlocks := B.notSynchronized
  clear B
  subst hsz
  have hD := fun τ => A9_D (sz := s.heap.size) hD0 τ
  clear hD0
  have hS : va_S (A9 cy g s.heap.size) s.heap s.heap [] := va_S.rf
  have hl := lv_entry ([.ref (g 60), .int p1]) (n := 2) (Nat.le_of_ble_eq_true rfl)
  rw [lg_entry_eq]
  generalize (lg_sl ([.ref (g 60), .int p1]) ++ List.replicate (2 - (lg_sl ([.ref (g 60), .int p1])).length) Slot.unset).toArray = ls at hl ⊢
  have hl : lv_has ls 2 [(0, .ref (g 60)), (1, .int p1)] := hl
  refine lv_aload_n hx hb dX9_fault_0 rfl (lv_at hl 0 rfl) ?_
  refine lv_iconst (v := 0) hx hb dX9_fault_1 (by decide) ?_
  refine p9_0 hx hb hts hown hK hP hD hS (hts _ q1360) dX9_fault_2 (fun H locs σ1 eσ1 hP hS => ?_)
  have hJ2 : J9 (σ1 9) := hJ.I eσ1 (show JI9 0 (0 : Int32) from trivial)
  refine lv_iload_n hx hb dX9_fault_5 rfl (lv_at hl 1 rfl) ?_
  refine lv_if_ne (tgt := 16) hx hb dX9_fault_6 (by decide) (fun c3 => ?_) (fun c3 => ?_)
  ·
    have k4 := neq32 c3
    refine lv_iload_n hx hb dX9_fault_16 rfl (lv_at hl 1 rfl) ?_
    refine lv_iconst (v := 1) hx hb dX9_fault_17 (by decide) ?_
    refine lv_icmp_ne (tgt := 28) hx hb dX9_fault_18 (by decide) (fun c5 => ?_) (fun c5 => ?_)
    ·
      have k6 := neq32 c5
      refine lv_iconst (v := (-1)) hx hb dX9_fault_28 (by decide) ?_
      exact W.iret (v := (-1)) hx hb hr (fun tS ht hW => ⟨⟨(-1), σ1, rfl, ⟨Fr.tr (Fr.rf) (sI_f eσ1) (fN_L rfl), hJ2, trivial⟩, (show va_P D clz (WD9 cy g σ1) tS.heap by rw [ht]; exact hP)⟩, hS.F ht⟩) hS.2.2 dX9_fault_29
    ·
      have k7 := peq32 c5
      refine lv_aload_n hx hb dX9_fault_21 rfl (lv_at hl 0 rfl) ?_
      refine g9_15 (x := ((σ 9).1 15)) hx hb hts hown hK hP (((sI_f eσ1) 9 15 rfl).1) (hts _ q1375) dX9_fault_22 ?_
      refine lv_goto (tgt := 29) hx hb dX9_fault_25 (by decide) ?_
      exact W.iret (v := ((σ 9).1 15)) hx hb hr (fun tS ht hW => ⟨⟨((σ 9).1 15), σ1, rfl, ⟨Fr.tr (Fr.rf) (sI_f eσ1) (fN_L rfl), hJ2, trivial⟩, (show va_P D clz (WD9 cy g σ1) tS.heap by rw [ht]; exact hP)⟩, hS.F ht⟩) hS.2.2 dX9_fault_29
  ·
    have k8 := peq32 c3
    refine lv_aload_n hx hb dX9_fault_9 rfl (lv_at hl 0 rfl) ?_
    refine g9_14 (x := ((σ 9).1 14)) hx hb hts hown hK hP (((sI_f eσ1) 9 14 rfl).1) (hts _ q1374) dX9_fault_10 ?_
    refine lv_goto (tgt := 29) hx hb dX9_fault_13 (by decide) ?_
    exact W.iret (v := ((σ 9).1 14)) hx hb hr (fun tS ht hW => ⟨⟨((σ 9).1 14), σ1, rfl, ⟨Fr.tr (Fr.rf) (sI_f eσ1) (fN_L rfl), hJ2, trivial⟩, (show va_P D clz (WD9 cy g σ1) tS.heap by rw [ht]; exact hP)⟩, hS.F ht⟩) hS.2.2 dX9_fault_29

theorem q1650 : Cond.code yX9_hasRead cX9_hasRead 2 (some .int) ∈ lw_g := lw_gm (List.mem_of_getElem? (i := 1650) (by decide +kernel)) rfl
theorem q1377 : Cond.fieldLink RX9 34 "LipsAndSlidesModel" "has" "[I" ∈ lw_g := lw_gm (List.mem_of_getElem? (i := 1377) (by decide +kernel)) rfl
theorem dX9_hasRead_0 : decode cX9_hasRead 0 = .ok (.aload_n 0, 1) := by decide +kernel
theorem dX9_hasRead_1 : decode cX9_hasRead 1 = .ok (.getfield 34, 3) := by decide +kernel
theorem dX9_hasRead_4 : decode cX9_hasRead 4 = .ok (.bipush 20, 2) := by decide +kernel
theorem dX9_hasRead_6 : decode cX9_hasRead 6 = .ok (.iload_n 1, 1) := by decide +kernel
theorem dX9_hasRead_7 : decode cX9_hasRead 7 = .ok (.iadd, 1) := by decide +kernel
theorem dX9_hasRead_8 : decode cX9_hasRead 8 = .ok (.iaload, 1) := by decide +kernel
theorem dX9_hasRead_9 : decode cX9_hasRead 9 = .ok (.ireturn, 1) := by decide +kernel
set_option maxHeartbeats 4000000 in
set_option maxRecDepth 100000 in
theorem m_X9_hasRead (l : Launch) (D : va_G) (cy : Nat → ClassId) (g : Nat → Nat) (σ : ST) (p1 : Int32) (sz : Nat) (hJ : J9 (σ 9)) (h0 : (0 : Int) ≤ p1.toInt ∧ p1.toInt ≤ 4) : Met l yX9_hasRead (ww yX9_hasRead cX9_hasRead 2 (some .int)) ({ frames := 1, cells := 0, slots := 0, locals := 64 }) (va_Pc [.ref (g 60), .int p1] (pr9 D cy g σ sz)) (qi9 D cy g sz (fun r τ => τ = σ ∧ ((0 : Int) ≤ r.toInt ∧ r.toInt ≤ 60) ∧ ((p1.toInt = 2 → r.toInt = ((σ 9).2.2.1 17 22).toInt) ∧ (p1.toInt = 3 → r.toInt = ((σ 9).2.2.1 17 23).toInt) ∧ (p1.toInt = 4 → r.toInt = ((σ 9).2.2.1 17 24).toInt)) ∧ True)) 0 0 (A9 cy g sz) := by
  refine Met.ofW (cc := cX9_hasRead) (maxL := 2) (ret := (some .int)) (by decide) rfl ?_
  intro p e s m args below meth c s₁ B hml hv
  obtain ⟨rfl, hsz, hP, hK, hD0, hC⟩ := hv
  have hx := B.exec
  have hb := B.bytes
  have hr := B.returns
  have hts := hts_g (atoms_spec (ws := ww yX9_hasRead cX9_hasRead 2 (some .int)) B.pre)
  have hown : s.vm.findClass RX9 = some m.cls := findClass_of_methodNamed B.named
  have hlocks := B.notSynchronized
  clear B
  subst hsz
  have hD := fun τ => A9_D (sz := s.heap.size) hD0 τ
  clear hD0
  have hS : va_S (A9 cy g s.heap.size) s.heap s.heap [] := va_S.rf
  have hl := lv_entry ([.ref (g 60), .int p1]) (n := 2) (Nat.le_of_ble_eq_true rfl)
  rw [lg_entry_eq]
  generalize (lg_sl ([.ref (g 60), .int p1]) ++ List.replicate (2 - (lg_sl ([.ref (g 60), .int p1])).length) Slot.unset).toArray = ls at hl ⊢
  have hl : lv_has ls 2 [(0, .ref (g 60)), (1, .int p1)] := hl
  refine lv_aload_n hx hb dX9_hasRead_0 rfl (lv_at hl 0 rfl) ?_
  refine g9_17 hx hb hts hown hK hP (hts _ q1377) dX9_hasRead_1 ?_
  refine lv_bipush (v := 20) hx hb dX9_hasRead_4 (by decide) ?_
  refine lv_iload_n hx hb dX9_hasRead_6 rfl (lv_at hl 1 rfl) ?_
  refine lv_iadd hx hb dX9_hasRead_7 ?_
  refine lv_topi (fun x1 ex1 => ?_)
  have t2 := addO ex1 (by have f0 := h0; have g0 := rg32 p1; have z20 : (20 : Int32).toInt = 20 := (by decide); omega)
  obtain ⟨x3, ex3⟩ : ∃ z, (σ 9).2.2.1 17 x1.toInt.toNat = z := ⟨_, rfl⟩
  refine l9_17 (x := x3) hx hb hK hP (vpo (by have f0 := t2; have f1 := h0; have g0 := rg32 x1; have z20 : (20 : Int32).toInt = 20 := (by decide); omega)) ex3 dX9_hasRead_8 ?_
  have t4 := a9_17 hJ ex3
  exact W.iret (v := x3) hx hb hr (fun tS ht hW => ⟨⟨x3, σ, rfl, ⟨rfl, (show (0 : Int) ≤ x3.toInt ∧ x3.toInt ≤ 60 from (by have f0 := t4; have f1 := t2; have f2 := h0; have g0 := rg32 x3; have z20 : (20 : Int32).toInt = 20 := (by decide); omega)), (show (p1.toInt = 2 → x3.toInt = ((σ 9).2.2.1 17 22).toInt) ∧ (p1.toInt = 3 → x3.toInt = ((σ 9).2.2.1 17 23).toInt) ∧ (p1.toInt = 4 → x3.toInt = ((σ 9).2.2.1 17 24).toInt) from ⟨(fun h => by rw [← ex3, show x1.toInt.toNat = 22 from (by have f0 := h0; have f1 := t2; have f2 := t4; have g0 := rg32 p1; have g1 := rg32 x1; have z20 : (20 : Int32).toInt = 20 := (by decide); omega)]), (fun h => by rw [← ex3, show x1.toInt.toNat = 23 from (by have f0 := h0; have f1 := t2; have f2 := t4; have g0 := rg32 p1; have g1 := rg32 x1; have z20 : (20 : Int32).toInt = 20 := (by decide); omega)]), (fun h => by rw [← ex3, show x1.toInt.toNat = 24 from (by have f0 := h0; have f1 := t2; have f2 := t4; have g0 := rg32 p1; have g1 := rg32 x1; have z20 : (20 : Int32).toInt = 20 := (by decide); omega)])⟩), trivial⟩, (show va_P D clz (WD9 cy g σ) tS.heap by rw [ht]; exact hP)⟩, hS.F ht⟩) hS.2.2 dX9_hasRead_9

