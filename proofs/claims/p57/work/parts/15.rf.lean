theorem q1738 : Cond.code yX9_flat cX9_flat 3 (some .int) ∈ lw_g := lw_gm (List.mem_of_getElem? (i := 1738) (by decide +kernel)) rfl
theorem q1739 : Cond.methodLink RX9 332 yX9_isSetting ∈ lw_g := lw_gm (List.mem_of_getElem? (i := 1739) (by decide +kernel)) rfl
theorem q1741 : Cond.instanceMethod yX9_isSetting ∈ lw_g := lw_gm (List.mem_of_getElem? (i := 1741) (by decide +kernel)) rfl
theorem q77 : Cond.selects RX9 yX9_isSetting yX9_isSetting ∈ lw_g := lw_gm (List.mem_of_getElem? (i := 77) (by decide +kernel)) rfl
theorem q1747 : Cond.methodLink RX9 336 yX9_longer ∈ lw_g := lw_gm (List.mem_of_getElem? (i := 1747) (by decide +kernel)) rfl
theorem q1749 : Cond.instanceMethod yX9_longer ∈ lw_g := lw_gm (List.mem_of_getElem? (i := 1749) (by decide +kernel)) rfl
theorem q79 : Cond.selects RX9 yX9_longer yX9_longer ∈ lw_g := lw_gm (List.mem_of_getElem? (i := 79) (by decide +kernel)) rfl
theorem q1751 : Cond.methodLink RX9 339 yX9_flatBy ∈ lw_g := lw_gm (List.mem_of_getElem? (i := 1751) (by decide +kernel)) rfl
theorem q1753 : Cond.instanceMethod yX9_flatBy ∈ lw_g := lw_gm (List.mem_of_getElem? (i := 1753) (by decide +kernel)) rfl
theorem q80 : Cond.selects RX9 yX9_flatBy yX9_flatBy ∈ lw_g := lw_gm (List.mem_of_getElem? (i := 80) (by decide +kernel)) rfl
theorem dX9_flat_0 : decode cX9_flat 0 = .ok (.aload_n 0, 1) := by decide +kernel
theorem dX9_flat_1 : decode cX9_flat 1 = .ok (.iconst 0, 1) := by decide +kernel
theorem dX9_flat_2 : decode cX9_flat 2 = .ok (.putfield 129, 3) := by decide +kernel
theorem dX9_flat_5 : decode cX9_flat 5 = .ok (.aload_n 0, 1) := by decide +kernel
theorem dX9_flat_6 : decode cX9_flat 6 = .ok (.iload_n 1, 1) := by decide +kernel
theorem dX9_flat_7 : decode cX9_flat 7 = .ok (.invokevirtual 312, 3) := by decide +kernel
theorem dX9_flat_10 : decode cX9_flat 10 = .ok (.ifCond .eq 27, 3) := by decide +kernel
theorem dX9_flat_13 : decode cX9_flat 13 = .ok (.aload_n 0, 1) := by decide +kernel
theorem dX9_flat_14 : decode cX9_flat 14 = .ok (.iload_n 1, 1) := by decide +kernel
theorem dX9_flat_15 : decode cX9_flat 15 = .ok (.iload_n 2, 1) := by decide +kernel
theorem dX9_flat_16 : decode cX9_flat 16 = .ok (.i2l, 1) := by decide +kernel
theorem dX9_flat_17 : decode cX9_flat 17 = .ok (.invokevirtual 332, 3) := by decide +kernel
theorem dX9_flat_20 : decode cX9_flat 20 = .ok (.ifCond .eq 17, 3) := by decide +kernel
theorem dX9_flat_23 : decode cX9_flat 23 = .ok (.aload_n 0, 1) := by decide +kernel
theorem dX9_flat_24 : decode cX9_flat 24 = .ok (.iload_n 1, 1) := by decide +kernel
theorem dX9_flat_25 : decode cX9_flat 25 = .ok (.aload_n 0, 1) := by decide +kernel
theorem dX9_flat_26 : decode cX9_flat 26 = .ok (.iload_n 1, 1) := by decide +kernel
theorem dX9_flat_27 : decode cX9_flat 27 = .ok (.iload_n 2, 1) := by decide +kernel
theorem dX9_flat_28 : decode cX9_flat 28 = .ok (.invokevirtual 336, 3) := by decide +kernel
theorem dX9_flat_31 : decode cX9_flat 31 = .ok (.invokevirtual 339, 3) := by decide +kernel
theorem dX9_flat_34 : decode cX9_flat 34 = .ok (.goto 5, 3) := by decide +kernel
theorem dX9_flat_37 : decode cX9_flat 37 = .ok (.bipush (-2), 2) := by decide +kernel
theorem dX9_flat_39 : decode cX9_flat 39 = .ok (.ireturn, 1) := by decide +kernel
set_option maxHeartbeats 4000000 in
set_option maxRecDepth 100000 in
theorem m_X9_flat (l : Launch) (D : va_G) (cy : Nat → ClassId) (g : Nat → Nat) (σ : ST) (p1 : Int32) (p2 : Int32) (sz : Nat) (hJ : J9 (σ 9)) (kDK0 : DK0 (σ 9)) : Met l yX9_flat (ww yX9_flat cX9_flat 3 (some .int)) ({ frames := 3, cells := 0, slots := 0, locals := 192 }) (va_Pc [.ref (g 60), .int p1, .int p2] (pr9 D cy g σ sz)) (qi9 D cy g sz (fun r τ => Fr (fL [0]) σ τ ∧ J9 (τ 9) ∧ True)) 0 0 (A9 cy g sz) := by
  refine Met.ofW (cc := cX9_flat) (maxL := 3) (ret := (some .int)) (by decide) rfl ?_
  intro p e s m args below meth c s₁ B hml hv
  obtain ⟨rfl, hsz, hP, hK, hD0, hC⟩ := hv
  have hx := B.exec
  have hb := B.bytes
  have hr := B.returns
  have hts := hts_g (atoms_spec (ws := ww yX9_flat cX9_flat 3 (some .int)) B.pre)
  have hown : s.vm.findClass RX9 = some m.cls := findClass_of_methodNamed B.named
  have hlocks := B.notSynchronized
  clear B
  subst hsz
  have hD := fun τ => A9_D (sz := s.heap.size) hD0 τ
  clear hD0
  have hS : va_S (A9 cy g s.heap.size) s.heap s.heap [] := va_S.rf
  have hl := lv_entry ([.ref (g 60), .int p1, .int p2]) (n := 3) (Nat.le_of_ble_eq_true rfl)
  rw [lg_entry_eq]
  generalize (lg_sl ([.ref (g 60), .int p1, .int p2]) ++ List.replicate (3 - (lg_sl ([.ref (g 60), .int p1, .int p2])).length) Slot.unset).toArray = ls at hl ⊢
  have hl : lv_has ls 3 [(0, .ref (g 60)), (1, .int p1), (2, .int p2)] := hl
  refine lv_aload_n hx hb dX9_flat_0 rfl (lv_at hl 0 rfl) ?_
  refine lv_iconst (v := 0) hx hb dX9_flat_1 (by decide) ?_
  refine p9_0 hx hb hts hown hK hP hD hS (hts _ q1360) dX9_flat_2 (fun H locs σ1 eσ1 hP hS => ?_)
  have hJ2 : J9 (σ1 9) := hJ.I eσ1 (show JI9 0 (0 : Int32) from trivial)
  have T3 : DK0 (σ1 9) := DK0.mv kDK0 ((sI_f eσ1) 9 17 rfl).2.2.1 ((sI_f eσ1) 9 18 rfl).2.2.1 ((sI_f eσ1) 9 19 rfl).2.2.1
  refine lv_aload_n hx hb dX9_flat_5 rfl (lv_at hl 0 rfl) ?_
  refine lv_iload_n hx hb dX9_flat_6 rfl (lv_at hl 1 rfl) ?_
  refine va_calli (va_runV (As := [.int p1]) (rest := []) ⟨hx, hb, hml, hown, hts⟩ (m_X9_isBrass l D cy g σ1 p1 _ hJ2 ) (cwV 1 hts (gd_V q1701 q1703 q71 q134 q1704) rfl rfl rfl (by decide +kernel) ⟨Nat.le_of_ble_eq_true rfl, Nat.le_of_ble_eq_true rfl⟩) (pv9 hP hK hD hC hS (va_recv hK hP (ci := 9) (q0 := 0) rfl rfl)) rfl rfl hl.1 rfl (lv_room (Nat.le_of_ble_eq_true rfl)) dX9_flat_7 ⟨Nat.le_of_ble_eq_true rfl, Nat.le_of_ble_eq_true rfl⟩) hS (fun q _ h => up9 hS q h) (up9 hS) (fun r4 σ5 tS H1 locs ht hvm hw6 hB hz1 hk1 hS => ?_)
  have hP : va_P D clz (WD9 cy g σ5) H1 := by rw [← ht]; exact hB
  clear hB hz1 hk1 hvm ht
  generalize H1 = H at hP hS ⊢
  have hw6E : σ1 = σ5 := (hw6.1).symm
  subst hw6E
  have b7 : (0 : Int) ≤ r4.toInt ∧ r4.toInt ≤ 1 := hw6.2.1
  have b8 : (r4.toInt = 0) ∨ ((0 : Int) ≤ p1.toInt ∧ p1.toInt ≤ 3) := hw6.2.2.1
  have b9 : (r4.toInt = 0) ∨ (0 ≤ p1.toInt ∧ p1.toInt < ((σ1 9).2.2.1 17 2).toInt) := hw6.2.2.2.1
  refine lv_if_eq (tgt := 37) hx hb dX9_flat_10 (by decide) (fun c10 => ?_) (fun c10 => ?_)
  ·
    have k11 := peq32 c10
    refine lv_bipush (v := (-2)) hx hb dX9_flat_37 (by decide) ?_
    exact W.iret (v := (-2)) hx hb hr (fun tS ht hW => ⟨⟨(-2), σ1, rfl, ⟨Fr.tr (Fr.rf) (sI_f eσ1) (fN_L rfl), hJ2, trivial⟩, (show va_P D clz (WD9 cy g σ1) tS.heap by rw [ht]; exact hP)⟩, hS.F ht⟩) hS.2.2 dX9_flat_39
  ·
    have k12 := neq32 c10
    refine lv_aload_n hx hb dX9_flat_13 rfl (lv_at hl 0 rfl) ?_
    refine lv_iload_n hx hb dX9_flat_14 rfl (lv_at hl 1 rfl) ?_
    refine lv_iload_n hx hb dX9_flat_15 rfl (lv_at hl 2 rfl) ?_
    refine lv_i2l (v := p2.toInt64) hx hb dX9_flat_16 rfl ?_
    refine va_calli (va_runV (As := [.int p1, .long p2.toInt64]) (rest := []) ⟨hx, hb, hml, hown, hts⟩ (m_X9_isSetting l D cy g σ1 p1 p2.toInt64 _ hJ2 (show (0 : Int) ≤ p1.toInt ∧ p1.toInt ≤ 3 from (by have f0 := b8; have f1 := b9; have f2 := a9_17 hJ2 (j := 2) rfl; have f3 := congrArg Int32.toInt (show ((σ1 9).2.2.1 17 2) = ((σ 9).2.2.1 17 2) from congrFun (((sI_f eσ1) 9 17 rfl).2.2.1) _); have f4 := b7; have f5 := k12; have f6 := a9_17 hJ (j := 2) rfl; have g2 := rg32 p1; have z0 : (0 : Int32).toInt = 0 := (by decide); omega))) (cwV 2 hts (gd_V q1739 q1741 q77 q134 q1742) rfl rfl rfl (by decide +kernel) ⟨Nat.le_of_ble_eq_true rfl, Nat.le_of_ble_eq_true rfl⟩) (pv9 hP hK hD hC hS (va_recv hK hP (ci := 9) (q0 := 0) rfl rfl)) rfl rfl hl.1 rfl (lv_room (Nat.le_of_ble_eq_true rfl)) dX9_flat_17 ⟨Nat.le_of_ble_eq_true rfl, Nat.le_of_ble_eq_true rfl⟩) hS (fun q _ h => up9 hS q h) (up9 hS) (fun r13 σ14 tS H1 locs ht hvm hw15 hB hz1 hk1 hS => ?_)
    have hP : va_P D clz (WD9 cy g σ14) H1 := by rw [← ht]; exact hB
    clear hB hz1 hk1 hvm ht
    generalize H1 = H at hP hS ⊢
    have hw15E : σ1 = σ14 := (hw15.1).symm
    subst hw15E
    have b16 : (0 : Int) ≤ r13.toInt ∧ r13.toInt ≤ 1 := hw15.2.1
    have b17 : (r13.toInt = 0) ∨ (0 ≤ p2.toInt64.toInt ∧ p2.toInt64.toInt ≤ 7) := hw15.2.2.1
    refine lv_if_eq (tgt := 37) hx hb dX9_flat_20 (by decide) (fun c18 => ?_) (fun c18 => ?_)
    ·
      have k19 := peq32 c18
      refine lv_bipush (v := (-2)) hx hb dX9_flat_37 (by decide) ?_
      exact W.iret (v := (-2)) hx hb hr (fun tS ht hW => ⟨⟨(-2), σ1, rfl, ⟨Fr.tr (Fr.rf) (sI_f eσ1) (fN_L rfl), hJ2, trivial⟩, (show va_P D clz (WD9 cy g σ1) tS.heap by rw [ht]; exact hP)⟩, hS.F ht⟩) hS.2.2 dX9_flat_39
    ·
      have k20 := neq32 c18
      refine lv_aload_n hx hb dX9_flat_23 rfl (lv_at hl 0 rfl) ?_
      refine lv_iload_n hx hb dX9_flat_24 rfl (lv_at hl 1 rfl) ?_
      refine lv_aload_n hx hb dX9_flat_25 rfl (lv_at hl 0 rfl) ?_
      refine lv_iload_n hx hb dX9_flat_26 rfl (lv_at hl 1 rfl) ?_
      refine lv_iload_n hx hb dX9_flat_27 rfl (lv_at hl 2 rfl) ?_
      refine va_calli (va_runV (As := [.int p1, .int p2]) (rest := [.int p1, .ref (g 60)]) ⟨hx, hb, hml, hown, hts⟩ (m_X9_longer l D cy g σ1 p1 p2 _ hJ2 (show (0 : Int) ≤ p1.toInt ∧ p1.toInt ≤ 3 from (by have f0 := b8; have f1 := b9; have f2 := a9_17 hJ2 (j := 2) rfl; have f3 := congrArg Int32.toInt (show ((σ1 9).2.2.1 17 2) = ((σ 9).2.2.1 17 2) from congrFun (((sI_f eσ1) 9 17 rfl).2.2.1) _); have f4 := b7; have f5 := k12; have f6 := a9_17 hJ (j := 2) rfl; have g2 := rg32 p1; have z0 : (0 : Int32).toInt = 0 := (by decide); omega)) (show (0 : Int) ≤ p2.toInt ∧ p2.toInt ≤ 7 from (by have f0 := b8; have f1 := b9; have f2 := t64 (a := p2); have f3 := rg32 p2; have f4 := a9_17 hJ2 (j := 2) rfl; have f5 := congrArg Int32.toInt (show ((σ1 9).2.2.1 17 2) = ((σ 9).2.2.1 17 2) from congrFun (((sI_f eσ1) 9 17 rfl).2.2.1) _); have f6 := b7; have f7 := k12; have f8 := b17; have f9 := a9_17 hJ (j := 2) rfl; have f10 := b16; have f11 := k20; have g2 := rg32 p1; have g3 := rg32 p2; have z0 : (0 : Int32).toInt = 0 := (by decide); have w15 := t64 (a := p2); omega))) (cwV 2 hts (gd_V q1747 q1749 q79 q134 q1750) rfl rfl rfl (by decide +kernel) ⟨Nat.le_of_ble_eq_true rfl, Nat.le_of_ble_eq_true rfl⟩) (pv9 hP hK hD hC hS (va_recv hK hP (ci := 9) (q0 := 0) rfl rfl)) rfl rfl hl.1 rfl (lv_room (Nat.le_of_ble_eq_true rfl)) dX9_flat_28 ⟨Nat.le_of_ble_eq_true rfl, Nat.le_of_ble_eq_true rfl⟩) hS (fun q _ h => up9 hS q h) (up9 hS) (fun r21 σ22 tS H1 locs ht hvm hw23 hB hz1 hk1 hS => ?_)
      have hP : va_P D clz (WD9 cy g σ22) H1 := by rw [← ht]; exact hB
      clear hB hz1 hk1 hvm ht
      generalize H1 = H at hP hS ⊢
      have hw23E : σ1 = σ22 := (hw23.1).symm
      subst hw23E
      have b24 : (0 : Int) ≤ r21.toInt ∧ r21.toInt ≤ 6993 := hw23.2.1
      refine va_calli (va_runV (As := [.int p1, .int r21]) (rest := []) ⟨hx, hb, hml, hown, hts⟩ (m_X9_flatBy l D cy g σ1 p1 r21 _ hJ2 (show (0 : Int) ≤ p1.toInt ∧ p1.toInt ≤ 3 from (by have f0 := b8; have f1 := b9; have f2 := a9_17 hJ2 (j := 2) rfl; have f3 := congrArg Int32.toInt (show ((σ1 9).2.2.1 17 2) = ((σ 9).2.2.1 17 2) from congrFun (((sI_f eσ1) 9 17 rfl).2.2.1) _); have f4 := b7; have f5 := k12; have f6 := a9_17 hJ (j := 2) rfl; have g2 := rg32 p1; have z0 : (0 : Int32).toInt = 0 := (by decide); omega)) (show (0 : Int) ≤ r21.toInt ∧ r21.toInt ≤ 9999 from (by have f0 := b8; have f1 := b9; have f2 := b24; have f3 := a9_17 hJ2 (j := 2) rfl; have f4 := congrArg Int32.toInt (show ((σ1 9).2.2.1 17 2) = ((σ 9).2.2.1 17 2) from congrFun (((sI_f eσ1) 9 17 rfl).2.2.1) _); have f5 := b7; have f6 := k12; have f7 := a9_17 hJ (j := 2) rfl; have g2 := rg32 p1; have g3 := rg32 r21; have z0 : (0 : Int32).toInt = 0 := (by decide); omega)) (show 100 ≤ ((σ1 9).2.2.1 18 (7 * p1.toInt.toNat + 2)).toInt from (T3.1 _ (by have f0 := a9_17 hJ2 (j := 2) rfl; have f1 := congrArg Int32.toInt (show ((σ1 9).2.2.1 17 2) = ((σ 9).2.2.1 17 2) from congrFun (((sI_f eσ1) 9 17 rfl).2.2.1) _); have f2 := b8; have f3 := b9; have f4 := a9_17 hJ (j := 2) rfl; have f5 := b7; have f6 := k12; have g2 := rg32 p1; have z0 : (0 : Int32).toInt = 0 := (by decide); omega)))) (cwV 2 hts (gd_V q1751 q1753 q80 q134 q1754) rfl rfl rfl (by decide +kernel) ⟨Nat.le_of_ble_eq_true rfl, Nat.le_of_ble_eq_true rfl⟩) (pv9 hP hK hD hC hS (va_recv hK hP (ci := 9) (q0 := 0) rfl rfl)) rfl rfl hl.1 rfl (lv_room (Nat.le_of_ble_eq_true rfl)) dX9_flat_31 ⟨Nat.le_of_ble_eq_true rfl, Nat.le_of_ble_eq_true rfl⟩) hS (fun q _ h => up9 hS q h) (up9 hS) (fun r25 σ26 tS H1 locs ht hvm hw27 hB hz1 hk1 hS => ?_)
      have hP : va_P D clz (WD9 cy g σ26) H1 := by rw [← ht]; exact hB
      clear hB hz1 hk1 hvm ht
      generalize H1 = H at hP hS ⊢
      have hw27E : σ1 = σ26 := (hw27.1).symm
      subst hw27E
      refine lv_goto (tgt := 39) hx hb dX9_flat_34 (by decide) ?_
      exact W.iret (v := r25) hx hb hr (fun tS ht hW => ⟨⟨r25, σ1, rfl, ⟨Fr.tr (Fr.rf) (sI_f eσ1) (fN_L rfl), hJ2, trivial⟩, (show va_P D clz (WD9 cy g σ1) tS.heap by rw [ht]; exact hP)⟩, hS.F ht⟩) hS.2.2 dX9_flat_39

theorem q1775 : Cond.code yX9_offOf cX9_offOf 10 (some .int) ∈ lw_g := lw_gm (List.mem_of_getElem? (i := 1775) (by decide +kernel)) rfl
theorem q1776 : Cond.fieldLink RX9 342 "LipsAndSlidesModel" "CENTS" "[I" ∈ lw_g := lw_gm (List.mem_of_getElem? (i := 1776) (by decide +kernel)) rfl
theorem q1383 : Cond.fieldLink RX9 345 "LipsAndSlidesModel" "drawn" "I" ∈ lw_g := lw_gm (List.mem_of_getElem? (i := 1383) (by decide +kernel)) rfl
theorem dX9_offOf_0 : decode cX9_offOf 0 = .ok (.aload_n 0, 1) := by decide +kernel
theorem dX9_offOf_1 : decode cX9_offOf 1 = .ok (.getfield 37, 3) := by decide +kernel
theorem dX9_offOf_4 : decode cX9_offOf 4 = .ok (.bipush 7, 2) := by decide +kernel
theorem dX9_offOf_6 : decode cX9_offOf 6 = .ok (.iload_n 1, 1) := by decide +kernel
theorem dX9_offOf_7 : decode cX9_offOf 7 = .ok (.imul, 1) := by decide +kernel
theorem dX9_offOf_8 : decode cX9_offOf 8 = .ok (.iaload, 1) := by decide +kernel
theorem dX9_offOf_9 : decode cX9_offOf 9 = .ok (.iconst 1, 1) := by decide +kernel
theorem dX9_offOf_10 : decode cX9_offOf 10 = .ok (.if_icmp .ne 25, 3) := by decide +kernel
theorem dX9_offOf_13 : decode cX9_offOf 13 = .ok (.iload 4, 2) := by decide +kernel
theorem dX9_offOf_15 : decode cX9_offOf 15 = .ok (.iconst 4, 1) := by decide +kernel
theorem dX9_offOf_16 : decode cX9_offOf 16 = .ok (.iand, 1) := by decide +kernel
theorem dX9_offOf_17 : decode cX9_offOf 17 = .ok (.ifCond .eq 18, 3) := by decide +kernel
theorem dX9_offOf_20 : decode cX9_offOf 20 = .ok (.aload_n 0, 1) := by decide +kernel
theorem dX9_offOf_21 : decode cX9_offOf 21 = .ok (.getfield 37, 3) := by decide +kernel
theorem dX9_offOf_24 : decode cX9_offOf 24 = .ok (.bipush 7, 2) := by decide +kernel
theorem dX9_offOf_26 : decode cX9_offOf 26 = .ok (.iload_n 1, 1) := by decide +kernel
theorem dX9_offOf_27 : decode cX9_offOf 27 = .ok (.imul, 1) := by decide +kernel
theorem dX9_offOf_28 : decode cX9_offOf 28 = .ok (.bipush 6, 2) := by decide +kernel
theorem dX9_offOf_30 : decode cX9_offOf 30 = .ok (.iadd, 1) := by decide +kernel
theorem dX9_offOf_31 : decode cX9_offOf 31 = .ok (.iaload, 1) := by decide +kernel
theorem dX9_offOf_32 : decode cX9_offOf 32 = .ok (.goto 4, 3) := by decide +kernel
theorem dX9_offOf_35 : decode cX9_offOf 35 = .ok (.iconst 0, 1) := by decide +kernel
theorem dX9_offOf_36 : decode cX9_offOf 36 = .ok (.istore 5, 2) := by decide +kernel
theorem dX9_offOf_38 : decode cX9_offOf 38 = .ok (.bipush 100, 2) := by decide +kernel
theorem dX9_offOf_40 : decode cX9_offOf 40 = .ok (.aload_n 0, 1) := by decide +kernel
theorem dX9_offOf_41 : decode cX9_offOf 41 = .ok (.getfield 37, 3) := by decide +kernel
theorem dX9_offOf_44 : decode cX9_offOf 44 = .ok (.bipush 7, 2) := by decide +kernel
theorem dX9_offOf_46 : decode cX9_offOf 46 = .ok (.iload_n 1, 1) := by decide +kernel
theorem dX9_offOf_47 : decode cX9_offOf 47 = .ok (.imul, 1) := by decide +kernel
theorem dX9_offOf_48 : decode cX9_offOf 48 = .ok (.iconst 1, 1) := by decide +kernel
theorem dX9_offOf_49 : decode cX9_offOf 49 = .ok (.iadd, 1) := by decide +kernel
theorem dX9_offOf_50 : decode cX9_offOf 50 = .ok (.iaload, 1) := by decide +kernel
theorem dX9_offOf_51 : decode cX9_offOf 51 = .ok (.imul, 1) := by decide +kernel
theorem dX9_offOf_52 : decode cX9_offOf 52 = .ok (.getstatic 342, 3) := by decide +kernel
theorem dX9_offOf_55 : decode cX9_offOf 55 = .ok (.iload_n 3, 1) := by decide +kernel
theorem dX9_offOf_56 : decode cX9_offOf 56 = .ok (.iaload, 1) := by decide +kernel
theorem dX9_offOf_57 : decode cX9_offOf 57 = .ok (.iadd, 1) := by decide +kernel
theorem dX9_offOf_58 : decode cX9_offOf 58 = .ok (.bipush 100, 2) := by decide +kernel
theorem dX9_offOf_60 : decode cX9_offOf 60 = .ok (.iload_n 2, 1) := by decide +kernel
theorem dX9_offOf_61 : decode cX9_offOf 61 = .ok (.imul, 1) := by decide +kernel
theorem dX9_offOf_62 : decode cX9_offOf 62 = .ok (.isub, 1) := by decide +kernel
theorem dX9_offOf_63 : decode cX9_offOf 63 = .ok (.istore 6, 2) := by decide +kernel
theorem dX9_offOf_65 : decode cX9_offOf 65 = .ok (.iload 6, 2) := by decide +kernel
theorem dX9_offOf_67 : decode cX9_offOf 67 = .ok (.aload_n 0, 1) := by decide +kernel
theorem dX9_offOf_68 : decode cX9_offOf 68 = .ok (.iload_n 1, 1) := by decide +kernel
theorem dX9_offOf_69 : decode cX9_offOf 69 = .ok (.aload_n 0, 1) := by decide +kernel
theorem dX9_offOf_70 : decode cX9_offOf 70 = .ok (.iload_n 1, 1) := by decide +kernel
theorem dX9_offOf_71 : decode cX9_offOf 71 = .ok (.iload 4, 2) := by decide +kernel
theorem dX9_offOf_73 : decode cX9_offOf 73 = .ok (.invokevirtual 336, 3) := by decide +kernel
theorem dX9_offOf_76 : decode cX9_offOf 76 = .ok (.invokevirtual 339, 3) := by decide +kernel
theorem dX9_offOf_79 : decode cX9_offOf 79 = .ok (.isub, 1) := by decide +kernel
theorem dX9_offOf_80 : decode cX9_offOf 80 = .ok (.istore 7, 2) := by decide +kernel
theorem dX9_offOf_82 : decode cX9_offOf 82 = .ok (.aload_n 0, 1) := by decide +kernel
theorem dX9_offOf_83 : decode cX9_offOf 83 = .ok (.iconst 0, 1) := by decide +kernel
theorem dX9_offOf_84 : decode cX9_offOf 84 = .ok (.putfield 345, 3) := by decide +kernel
theorem dX9_offOf_87 : decode cX9_offOf 87 = .ok (.iconst 1, 1) := by decide +kernel
theorem dX9_offOf_88 : decode cX9_offOf 88 = .ok (.istore 8, 2) := by decide +kernel
theorem dX9_offOf_90 : decode cX9_offOf 90 = .ok (.iload 8, 2) := by decide +kernel
theorem dX9_offOf_92 : decode cX9_offOf 92 = .ok (.iload 5, 2) := by decide +kernel
theorem dX9_offOf_94 : decode cX9_offOf 94 = .ok (.if_icmp .gt 55, 3) := by decide +kernel
theorem dX9_offOf_97 : decode cX9_offOf 97 = .ok (.iload 6, 2) := by decide +kernel
theorem dX9_offOf_99 : decode cX9_offOf 99 = .ok (.aload_n 0, 1) := by decide +kernel
theorem dX9_offOf_100 : decode cX9_offOf 100 = .ok (.iload_n 1, 1) := by decide +kernel
theorem dX9_offOf_101 : decode cX9_offOf 101 = .ok (.aload_n 0, 1) := by decide +kernel
theorem dX9_offOf_102 : decode cX9_offOf 102 = .ok (.iload_n 1, 1) := by decide +kernel
theorem dX9_offOf_103 : decode cX9_offOf 103 = .ok (.iload 4, 2) := by decide +kernel
theorem dX9_offOf_105 : decode cX9_offOf 105 = .ok (.invokevirtual 336, 3) := by decide +kernel
theorem dX9_offOf_108 : decode cX9_offOf 108 = .ok (.iload 8, 2) := by decide +kernel
theorem dX9_offOf_110 : decode cX9_offOf 110 = .ok (.iadd, 1) := by decide +kernel
theorem dX9_offOf_111 : decode cX9_offOf 111 = .ok (.invokevirtual 339, 3) := by decide +kernel
theorem dX9_offOf_114 : decode cX9_offOf 114 = .ok (.isub, 1) := by decide +kernel
theorem dX9_offOf_115 : decode cX9_offOf 115 = .ok (.istore 9, 2) := by decide +kernel
theorem dX9_offOf_117 : decode cX9_offOf 117 = .ok (.iload 9, 2) := by decide +kernel
theorem dX9_offOf_119 : decode cX9_offOf 119 = .ok (.invokestatic 348, 3) := by decide +kernel
theorem dX9_offOf_122 : decode cX9_offOf 122 = .ok (.iload 7, 2) := by decide +kernel
theorem dX9_offOf_124 : decode cX9_offOf 124 = .ok (.invokestatic 348, 3) := by decide +kernel
theorem dX9_offOf_127 : decode cX9_offOf 127 = .ok (.if_icmp .lt 6, 3) := by decide +kernel
theorem dX9_offOf_130 : decode cX9_offOf 130 = .ok (.goto 13, 3) := by decide +kernel
theorem dX9_offOf_133 : decode cX9_offOf 133 = .ok (.iload 9, 2) := by decide +kernel
theorem dX9_offOf_135 : decode cX9_offOf 135 = .ok (.istore 7, 2) := by decide +kernel
theorem dX9_offOf_137 : decode cX9_offOf 137 = .ok (.aload_n 0, 1) := by decide +kernel
theorem dX9_offOf_138 : decode cX9_offOf 138 = .ok (.iload 8, 2) := by decide +kernel
theorem dX9_offOf_140 : decode cX9_offOf 140 = .ok (.putfield 345, 3) := by decide +kernel
theorem dX9_offOf_143 : decode cX9_offOf 143 = .ok (.iinc 8 1, 3) := by decide +kernel
theorem dX9_offOf_146 : decode cX9_offOf 146 = .ok (.goto (-56), 3) := by decide +kernel
theorem dX9_offOf_149 : decode cX9_offOf 149 = .ok (.iload 7, 2) := by decide +kernel
theorem dX9_offOf_151 : decode cX9_offOf 151 = .ok (.ireturn, 1) := by decide +kernel
set_option maxHeartbeats 4000000 in
set_option maxRecDepth 100000 in
theorem m_X9_offOf (l : Launch) (D : va_G) (cy : Nat → ClassId) (g : Nat → Nat) (σ : ST) (p1 : Int32) (p2 : Int32) (p3 : Int32) (p4 : Int32) (sz : Nat) (hJ : J9 (σ 9)) (h0 : (0 : Int) ≤ p1.toInt ∧ p1.toInt ≤ 3) (h1 : (0 : Int) ≤ p3.toInt ∧ p3.toInt ≤ 12) (h2 : (0 : Int) ≤ p4.toInt ∧ p4.toInt ≤ 7) (h3 : 100 ≤ ((σ 9).2.2.1 18 (7 * p1.toInt.toNat + 2)).toInt) : Met l yX9_offOf (ww yX9_offOf cX9_offOf 10 (some .int)) ({ frames := 2, cells := 0, slots := 0, locals := 128 }) (va_Pc [.ref (g 60), .int p1, .int p2, .int p3, .int p4] (pr9 D cy g σ sz)) (qi9 D cy g sz (fun r τ => Fr (fL [23]) σ τ ∧ J9 (τ 9) ∧ True)) 0 0 (A9 cy g sz) := by
  refine Met.ofW (cc := cX9_offOf) (maxL := 10) (ret := (some .int)) (by decide) rfl ?_
  intro p e s m args below meth c s₁ B hml hv
  obtain ⟨rfl, hsz, hP, hK, hD0, hC⟩ := hv
  have hx := B.exec
  have hb := B.bytes
  have hr := B.returns
  have hts := hts_g (atoms_spec (ws := ww yX9_offOf cX9_offOf 10 (some .int)) B.pre)
  have hown : s.vm.findClass RX9 = some m.cls := findClass_of_methodNamed B.named
  have hlocks := B.notSynchronized
  clear B
  subst hsz
  have hD := fun τ => A9_D (sz := s.heap.size) hD0 τ
  clear hD0
  have hS : va_S (A9 cy g s.heap.size) s.heap s.heap [] := va_S.rf
  have hl := lv_entry ([.ref (g 60), .int p1, .int p2, .int p3, .int p4]) (n := 10) (Nat.le_of_ble_eq_true rfl)
  rw [lg_entry_eq]
  generalize (lg_sl ([.ref (g 60), .int p1, .int p2, .int p3, .int p4]) ++ List.replicate (10 - (lg_sl ([.ref (g 60), .int p1, .int p2, .int p3, .int p4])).length) Slot.unset).toArray = ls at hl ⊢
  have hl : lv_has ls 10 [(0, .ref (g 60)), (1, .int p1), (2, .int p2), (3, .int p3), (4, .int p4)] := hl
  refine lv_aload_n hx hb dX9_offOf_0 rfl (lv_at hl 0 rfl) ?_
  refine g9_18 hx hb hts hown hK hP (hts _ q1378) dX9_offOf_1 ?_
  refine lv_bipush (v := 7) hx hb dX9_offOf_4 (by decide) ?_
  refine lv_iload_n hx hb dX9_offOf_6 rfl (lv_at hl 1 rfl) ?_
  refine lv_imul hx hb dX9_offOf_7 ?_
  refine lv_topi (fun x1 ex1 => ?_)
  have t2 := mulC' (n := 7) ex1 (by decide) (by have f0 := h0; have f1 := h3; have g1 := rg32 p1; omega)
  obtain ⟨x3, ex3⟩ : ∃ z, (σ 9).2.2.1 18 x1.toInt.toNat = z := ⟨_, rfl⟩
  refine l9_18 (x := x3) hx hb hK hP (vpo (by have f0 := t2; have f1 := h0; have f2 := h3; have g1 := rg32 x1; omega)) ex3 dX9_offOf_8 ?_
  have t4 := a9_18 hJ ex3
  refine lv_iconst (v := 1) hx hb dX9_offOf_9 (by decide) ?_
  refine cut9 (D := D) (cy := cy) (g := g) (A := A9 cy g s.heap.size) (H0 := s.heap) 10 36 (fun x : LZ => [(0, .ref (g 60)), (1, .int p1), (2, .int p2), (3, .int p3), (4, .int p4)]) (fun x : LZ => [.int (x.2.1 0)]) (fun x : LZ => (x.1 = σ) ∧ ((0 : Int) ≤ (x.2.1 0).toInt ∧ (x.2.1 0).toInt ≤ 999) ∧ True) ?_ ?_
  ·
    intro y7 hI6 H locs ls hP hS hl
    rw [show y7.1 = σ from hI6.1] at hP
    have b8 : (0 : Int) ≤ (y7.2.1 0).toInt ∧ (y7.2.1 0).toInt ≤ 999 := hI6.2.1
    have hl : lv_has ls 10 [(0, .ref (g 60)), (1, .int p1), (2, .int p2), (3, .int p3), (4, .int p4)] := hl
    refine W.eq (g2 := F0 m 36 ls [.int (y7.2.1 0)]) rfl ?_
    refine lv_istore (lv' := [(5, .int (y7.2.1 0)), (0, .ref (g 60)), (1, .int p1), (2, .int p2), (3, .int p3), (4, .int p4)]) hx hb dX9_offOf_36 hl (by decide) rfl (fun ls hl => ?_)
    refine lv_bipush (v := 100) hx hb dX9_offOf_38 (by decide) ?_
    refine lv_aload_n hx hb dX9_offOf_40 rfl (lv_at hl 1 rfl) ?_
    refine g9_18 hx hb hts hown hK hP (hts _ q1378) dX9_offOf_41 ?_
    refine lv_bipush (v := 7) hx hb dX9_offOf_44 (by decide) ?_
    refine lv_iload_n hx hb dX9_offOf_46 rfl (lv_at hl 2 rfl) ?_
    refine lv_imul hx hb dX9_offOf_47 ?_
    refine lv_topi (fun x9 ex9 => ?_)
    have t10 := mulC' (n := 7) ex9 (by decide) (by have f0 := h0; have f1 := h3; have f2 := t2; have f3 := t4; have g1 := rg32 p1; omega)
    refine lv_iconst (v := 1) hx hb dX9_offOf_48 (by decide) ?_
    refine lv_iadd hx hb dX9_offOf_49 ?_
    refine lv_topi (fun x11 ex11 => ?_)
    have t12 := addO ex11 (by have f0 := t10; have f1 := h0; have f2 := h3; have f3 := t2; have f4 := t4; have g1 := rg32 x9; have z1 : (1 : Int32).toInt = 1 := (by decide); omega)
    obtain ⟨x13, ex13⟩ : ∃ z, (σ 9).2.2.1 18 x11.toInt.toNat = z := ⟨_, rfl⟩
    refine l9_18 (x := x13) hx hb hK hP (vpo (by have f0 := t12; have f1 := t10; have f2 := h0; have f3 := h3; have f4 := t2; have f5 := t4; have g1 := rg32 x11; have z1 : (1 : Int32).toInt = 1 := (by decide); omega)) ex13 dX9_offOf_50 ?_
    have t14 := a9_18 hJ ex13
    refine lv_imul hx hb dX9_offOf_51 ?_
    refine lv_topi (fun x15 ex15 => ?_)
    have t16 := mulC' (n := 100) ex15 (by decide) (by have f0 := t14; have f1 := t12; have f2 := t10; have f3 := h0; have f4 := h3; have f5 := t2; have f6 := t4; have g1 := rg32 x13; have z1 : (1 : Int32).toInt = 1 := (by decide); omega)
    obtain ⟨tC17, hZtC17, hTtC17⟩ := hC.1
    refine va_gets (own := RX9) (ref := RX9) hx hb hZtC17 hS hown (hts _ q1776) (fun _ h9 => h9) dX9_offOf_52 ?_
    refine lv_iload_n hx hb dX9_offOf_55 rfl (lv_at hl 4 rfl) ?_
    refine va_ti hx hb hTtC17 hS (vpo (by have f0 := h1; have g0 := rg32 p3; omega)) rfl dX9_offOf_56 ?_
    refine lv_topi (fun x18 ex18 => ?_)
    refine lv_iadd hx hb dX9_offOf_57 ?_
    refine lv_topi (fun x19 ex19 => ?_)
    refine lv_bipush (v := 100) hx hb dX9_offOf_58 (by decide) ?_
    refine lv_iload_n hx hb dX9_offOf_60 rfl (lv_at hl 3 rfl) ?_
    refine lv_imul hx hb dX9_offOf_61 ?_
    refine lv_topi (fun x20 ex20 => ?_)
    refine lv_isub hx hb dX9_offOf_62 ?_
    refine lv_topi (fun x21 ex21 => ?_)
    refine lv_istore (lv' := [(6, .int x21), (5, .int (y7.2.1 0)), (0, .ref (g 60)), (1, .int p1), (2, .int p2), (3, .int p3), (4, .int p4)]) hx hb dX9_offOf_63 hl (by decide) rfl (fun ls hl => ?_)
    refine lv_iload hx hb dX9_offOf_65 (lv_at hl 0 rfl) ?_
    refine lv_aload_n hx hb dX9_offOf_67 rfl (lv_at hl 2 rfl) ?_
    refine lv_iload_n hx hb dX9_offOf_68 rfl (lv_at hl 3 rfl) ?_
    refine lv_aload_n hx hb dX9_offOf_69 rfl (lv_at hl 2 rfl) ?_
    refine lv_iload_n hx hb dX9_offOf_70 rfl (lv_at hl 3 rfl) ?_
    refine lv_iload hx hb dX9_offOf_71 (lv_at hl 6 rfl) ?_
    refine va_calli (va_runV (As := [.int p1, .int p4]) (rest := [.int p1, .ref (g 60), .int x21]) ⟨hx, hb, hml, hown, hts⟩ (m_X9_longer l D cy g σ p1 p4 _ hJ (show (0 : Int) ≤ p1.toInt ∧ p1.toInt ≤ 3 from (by have f0 := h0; have f1 := h3; have f2 := t2; have f3 := t10; have f4 := t4; have f5 := t12; have f6 := t14; have f7 := t16; have g1 := rg32 p1; have z1 : (1 : Int32).toInt = 1 := (by decide); omega)) (show (0 : Int) ≤ p4.toInt ∧ p4.toInt ≤ 7 from (by have f0 := h0; have f1 := h2; have f2 := h3; have f3 := t2; have f4 := t10; have f5 := t4; have f6 := t12; have f7 := t14; have f8 := t16; have g1 := rg32 p1; have g2 := rg32 p4; have z1 : (1 : Int32).toInt = 1 := (by decide); omega))) (cwV 2 hts (gd_V q1747 q1749 q79 q134 q1750) rfl rfl rfl (by decide +kernel) ⟨Nat.le_of_ble_eq_true rfl, Nat.le_of_ble_eq_true rfl⟩) (pv9 hP hK hD hC hS (va_recv hK hP (ci := 9) (q0 := 0) rfl rfl)) rfl rfl hl.1 rfl (lv_room (Nat.le_of_ble_eq_true rfl)) dX9_offOf_73 ⟨Nat.le_of_ble_eq_true rfl, Nat.le_of_ble_eq_true rfl⟩) hS (fun q _ h => up9 hS q h) (up9 hS) (fun r22 σ23 tS H1 locs ht hvm hw24 hB hz1 hk1 hS => ?_)
    have hP : va_P D clz (WD9 cy g σ23) H1 := by rw [← ht]; exact hB
    clear hB hz1 hk1 hvm ht
    generalize H1 = H at hP hS ⊢
    have hw24E : σ = σ23 := (hw24.1).symm
    subst hw24E
    have b25 : (0 : Int) ≤ r22.toInt ∧ r22.toInt ≤ 6993 := hw24.2.1
    refine va_calli (va_runV (As := [.int p1, .int r22]) (rest := [.int x21]) ⟨hx, hb, hml, hown, hts⟩ (m_X9_flatBy l D cy g σ p1 r22 _ hJ (show (0 : Int) ≤ p1.toInt ∧ p1.toInt ≤ 3 from (by have f0 := h0; have f1 := h3; have f2 := t2; have f3 := t10; have f4 := t4; have f5 := t12; have f6 := t14; have f7 := t16; have g1 := rg32 p1; have z1 : (1 : Int32).toInt = 1 := (by decide); omega)) (show (0 : Int) ≤ r22.toInt ∧ r22.toInt ≤ 9999 from (by have f0 := h0; have f1 := h3; have f2 := t2; have f3 := t10; have f4 := b25; have f5 := t4; have f6 := t12; have f7 := t14; have f8 := t16; have g1 := rg32 p1; have g2 := rg32 r22; have z1 : (1 : Int32).toInt = 1 := (by decide); omega)) (show 100 ≤ ((σ 9).2.2.1 18 (7 * p1.toInt.toNat + 2)).toInt from (by have f0 := h0; have f1 := h3; have f2 := t2; have f3 := t10; have f4 := t4; have f5 := t12; have f6 := t14; have f7 := t16; have g1 := rg32 p1; have z1 : (1 : Int32).toInt = 1 := (by decide); omega))) (cwV 2 hts (gd_V q1751 q1753 q80 q134 q1754) rfl rfl rfl (by decide +kernel) ⟨Nat.le_of_ble_eq_true rfl, Nat.le_of_ble_eq_true rfl⟩) (pv9 hP hK hD hC hS (va_recv hK hP (ci := 9) (q0 := 0) rfl rfl)) rfl rfl hl.1 rfl (lv_room (Nat.le_of_ble_eq_true rfl)) dX9_offOf_76 ⟨Nat.le_of_ble_eq_true rfl, Nat.le_of_ble_eq_true rfl⟩) hS (fun q _ h => up9 hS q h) (up9 hS) (fun r26 σ27 tS H1 locs ht hvm hw28 hB hz1 hk1 hS => ?_)
    have hP : va_P D clz (WD9 cy g σ27) H1 := by rw [← ht]; exact hB
    clear hB hz1 hk1 hvm ht
    generalize H1 = H at hP hS ⊢
    have hw28E : σ = σ27 := (hw28.1).symm
    subst hw28E
    refine lv_isub hx hb dX9_offOf_79 ?_
    refine lv_topi (fun x29 ex29 => ?_)
    refine lv_istore (lv' := [(7, .int x29), (6, .int x21), (5, .int (y7.2.1 0)), (0, .ref (g 60)), (1, .int p1), (2, .int p2), (3, .int p3), (4, .int p4)]) hx hb dX9_offOf_80 hl (by decide) rfl (fun ls hl => ?_)
    refine lv_aload_n hx hb dX9_offOf_82 rfl (lv_at hl 3 rfl) ?_
    refine lv_iconst (v := 0) hx hb dX9_offOf_83 (by decide) ?_
    refine p9_23 hx hb hts hown hK hP hD hS (hts _ q1383) dX9_offOf_84 (fun H locs σ30 eσ30 hP hS => ?_)
    have hJ31 : J9 (σ30 9) := hJ.I eσ30 (show JI9 23 (0 : Int32) from trivial)
    refine lv_iconst (v := 1) hx hb dX9_offOf_87 (by decide) ?_
    refine lv_istore (lv' := [(8, .int 1), (7, .int x29), (6, .int x21), (5, .int (y7.2.1 0)), (0, .ref (g 60)), (1, .int p1), (2, .int p2), (3, .int p3), (4, .int p4)]) hx hb dX9_offOf_88 hl (by decide) rfl (fun ls hl => ?_)
    refine loop9 10 90 (fun x : LZ => [(8, .int (x.2.1 0)), (7, .int (x.2.1 1)), (6, .int x21), (5, .int (y7.2.1 0)), (0, .ref (g 60)), (1, .int p1), (2, .int p2), (3, .int p3), (4, .int p4)]) (fun x : LZ => (Fr (fL [23]) σ30 x.1) ∧ (J9 (x.1 9)) ∧ ((1 : Int) ≤ (x.2.1 0).toInt ∧ (x.2.1 0).toInt ≤ 1000) ∧ True) (fun x : LZ => ((1001 : Int) - (x.2.1 0).toInt).toNat) ?_ (σ30, lf [1, x29], lg []) ⟨Fr.rf, hJ31, (show (1 : Int) ≤ (1 : Int32).toInt ∧ (1 : Int32).toInt ≤ 1000 from (by have z1 : (1 : Int32).toInt = 1 := (by decide); omega)), trivial⟩ _ _ _ hP hS (lv_sub hl [0, 1, 2, 3, 4, 5, 6, 7, 8] rfl)
    intro y34 hI33 nl32 H locs ls hP hS hl
    obtain ⟨σ35, eσ35⟩ : ∃ z, z = y34.1 := ⟨_, rfl⟩
    rw [← eσ35] at hP hI33
    have hF36 : Fr (fL [23]) σ30 σ35 := hI33.1
    have hJ37 : J9 (σ35 9) := hI33.2.1
    have b38 : (1 : Int) ≤ (y34.2.1 0).toInt ∧ (y34.2.1 0).toInt ≤ 1000 := hI33.2.2.1
    have hl : lv_has ls 10 [(8, .int (y34.2.1 0)), (7, .int (y34.2.1 1)), (6, .int x21), (5, .int (y7.2.1 0)), (0, .ref (g 60)), (1, .int p1), (2, .int p2), (3, .int p3), (4, .int p4)] := hl
    refine lv_iload hx hb dX9_offOf_90 (lv_at hl 0 rfl) ?_
    refine lv_iload hx hb dX9_offOf_92 (lv_at hl 3 rfl) ?_
    refine lv_icmp_gt (tgt := 149) hx hb dX9_offOf_94 (by decide) (fun c39 => ?_) (fun c39 => ?_)
    ·
      have k40 := plt32 c39
      refine lv_iload hx hb dX9_offOf_149 (lv_at hl 1 rfl) ?_
      exact W.iret (v := (y34.2.1 1)) hx hb hr (fun tS ht hW => ⟨⟨(y34.2.1 1), σ35, rfl, ⟨Fr.tr (Fr.tr (Fr.rf) (sI_f eσ30) (fN_L rfl)) hF36 (fL_sub rfl), hJ37, trivial⟩, (show va_P D clz (WD9 cy g σ35) tS.heap by rw [ht]; exact hP)⟩, hS.F ht⟩) hS.2.2 dX9_offOf_151
    ·
      have k41 := nlt32 c39
      refine lv_iload hx hb dX9_offOf_97 (lv_at hl 2 rfl) ?_
      refine lv_aload_n hx hb dX9_offOf_99 rfl (lv_at hl 4 rfl) ?_
      refine lv_iload_n hx hb dX9_offOf_100 rfl (lv_at hl 5 rfl) ?_
      refine lv_aload_n hx hb dX9_offOf_101 rfl (lv_at hl 4 rfl) ?_
      refine lv_iload_n hx hb dX9_offOf_102 rfl (lv_at hl 5 rfl) ?_
      refine lv_iload hx hb dX9_offOf_103 (lv_at hl 8 rfl) ?_
      refine va_calli (va_runV (As := [.int p1, .int p4]) (rest := [.int p1, .ref (g 60), .int x21]) ⟨hx, hb, hml, hown, hts⟩ (m_X9_longer l D cy g σ35 p1 p4 _ hJ37 (show (0 : Int) ≤ p1.toInt ∧ p1.toInt ≤ 3 from (by have f0 := h0; have f1 := h3; have f2 := t2; have f3 := t10; have f4 := t4; have f5 := t12; have f6 := t14; have f7 := t16; have g1 := rg32 p1; have z1 : (1 : Int32).toInt = 1 := (by decide); omega)) (show (0 : Int) ≤ p4.toInt ∧ p4.toInt ≤ 7 from (by have f0 := h0; have f1 := h2; have f2 := h3; have f3 := t2; have f4 := t10; have f5 := t4; have f6 := t12; have f7 := t14; have f8 := t16; have g1 := rg32 p1; have g2 := rg32 p4; have z1 : (1 : Int32).toInt = 1 := (by decide); omega))) (cwV 2 hts (gd_V q1747 q1749 q79 q134 q1750) rfl rfl rfl (by decide +kernel) ⟨Nat.le_of_ble_eq_true rfl, Nat.le_of_ble_eq_true rfl⟩) (pv9 hP hK hD hC hS (va_recv hK hP (ci := 9) (q0 := 0) rfl rfl)) rfl rfl hl.1 rfl (lv_room (Nat.le_of_ble_eq_true rfl)) dX9_offOf_105 ⟨Nat.le_of_ble_eq_true rfl, Nat.le_of_ble_eq_true rfl⟩) hS (fun q _ h => up9 hS q h) (up9 hS) (fun r42 σ43 tS H1 locs ht hvm hw44 hB hz1 hk1 hS => ?_)
      have hP : va_P D clz (WD9 cy g σ43) H1 := by rw [← ht]; exact hB
      clear hB hz1 hk1 hvm ht
      generalize H1 = H at hP hS ⊢
      have hw44E : σ35 = σ43 := (hw44.1).symm
      subst hw44E
      have b45 : (0 : Int) ≤ r42.toInt ∧ r42.toInt ≤ 6993 := hw44.2.1
      refine lv_iload hx hb dX9_offOf_108 (lv_at hl 0 rfl) ?_
      refine lv_iadd hx hb dX9_offOf_110 ?_
      refine lv_topi (fun x46 ex46 => ?_)
      have t47 := addO ex46 (by have f0 := b38; have f1 := k41; have f2 := b45; have f3 := b8; have g0 := rg32 (y34.2.1 0); have g1 := rg32 r42; omega)
      refine va_calli (va_runV (As := [.int p1, .int x46]) (rest := [.int x21]) ⟨hx, hb, hml, hown, hts⟩ (m_X9_flatBy l D cy g σ35 p1 x46 _ hJ37 (show (0 : Int) ≤ p1.toInt ∧ p1.toInt ≤ 3 from (by have f0 := h0; have f1 := h3; have f2 := t2; have f3 := t10; have f4 := t4; have f5 := t12; have f6 := t14; have f7 := t16; have g1 := rg32 p1; have z1 : (1 : Int32).toInt = 1 := (by decide); omega)) (show (0 : Int) ≤ x46.toInt ∧ x46.toInt ≤ 9999 from (by have f0 := h0; have f1 := h3; have f2 := t2; have f3 := t10; have f4 := t47; have f5 := t4; have f6 := t12; have f7 := b38; have f8 := k41; have f9 := b45; have f10 := b8; have f11 := t14; have f12 := t16; have g1 := rg32 p1; have g2 := rg32 x46; have z1 : (1 : Int32).toInt = 1 := (by decide); omega)) (show 100 ≤ ((σ35 9).2.2.1 18 (7 * p1.toInt.toNat + 2)).toInt from (by have f0 := congrArg Int32.toInt (show ((σ35 9).2.2.1 18 (7 * p1.toInt.toNat + 2)) = ((σ 9).2.2.1 18 (7 * p1.toInt.toNat + 2)) from congrFun (((hF36 9 18 rfl).2.2.1).trans (((sI_f eσ30) 9 18 rfl).2.2.1)) _); have f1 := h0; have f2 := h3; have f3 := t2; have f4 := t10; have f5 := t4; have f6 := t12; have f7 := t14; have f8 := t16; have g2 := rg32 p1; have z1 : (1 : Int32).toInt = 1 := (by decide); omega))) (cwV 2 hts (gd_V q1751 q1753 q80 q134 q1754) rfl rfl rfl (by decide +kernel) ⟨Nat.le_of_ble_eq_true rfl, Nat.le_of_ble_eq_true rfl⟩) (pv9 hP hK hD hC hS (va_recv hK hP (ci := 9) (q0 := 0) rfl rfl)) rfl rfl hl.1 rfl (lv_room (Nat.le_of_ble_eq_true rfl)) dX9_offOf_111 ⟨Nat.le_of_ble_eq_true rfl, Nat.le_of_ble_eq_true rfl⟩) hS (fun q _ h => up9 hS q h) (up9 hS) (fun r48 σ49 tS H1 locs ht hvm hw50 hB hz1 hk1 hS => ?_)
      have hP : va_P D clz (WD9 cy g σ49) H1 := by rw [← ht]; exact hB
      clear hB hz1 hk1 hvm ht
      generalize H1 = H at hP hS ⊢
      have hw50E : σ35 = σ49 := (hw50.1).symm
      subst hw50E
      refine lv_isub hx hb dX9_offOf_114 ?_
      refine lv_topi (fun x51 ex51 => ?_)
      refine lv_istore (lv' := [(9, .int x51), (8, .int (y34.2.1 0)), (7, .int (y34.2.1 1)), (6, .int x21), (5, .int (y7.2.1 0)), (0, .ref (g 60)), (1, .int p1), (2, .int p2), (3, .int p3), (4, .int p4)]) hx hb dX9_offOf_115 hl (by decide) rfl (fun ls hl => ?_)
      refine lv_iload hx hb dX9_offOf_117 (lv_at hl 0 rfl) ?_
      refine va_calli (va_runS (As := [.int x51]) (rest := []) ⟨hx, hb, hml, hown, hts⟩ (m_X9_size l D cy g σ35 x51 _ hJ37 ) (va_cwS 1 hts (gd_S q1778 q1779 q134 q1780) rfl rfl rfl (by decide +kernel) ⟨Nat.le_of_ble_eq_true rfl, Nat.le_of_ble_eq_true rfl⟩) (ps9 hP hK hD hC hS) rfl rfl hl.1 rfl (lv_room (Nat.le_of_ble_eq_true rfl)) dX9_offOf_119 ⟨Nat.le_of_ble_eq_true rfl, Nat.le_of_ble_eq_true rfl⟩) hS (fun q _ h => up9 hS q h) (up9 hS) (fun r52 σ53 tS H1 locs ht hvm hw54 hB hz1 hk1 hS => ?_)
      have hP : va_P D clz (WD9 cy g σ53) H1 := by rw [← ht]; exact hB
      clear hB hz1 hk1 hvm ht
      generalize H1 = H at hP hS ⊢
      have hw54E : σ35 = σ53 := (hw54.1).symm
      subst hw54E
      have b55 : r52 = sizeF x51 := hw54.2.1
      refine lv_iload hx hb dX9_offOf_122 (lv_at hl 2 rfl) ?_
      refine va_calli (va_runS (As := [.int (y34.2.1 1)]) (rest := [.int r52]) ⟨hx, hb, hml, hown, hts⟩ (m_X9_size l D cy g σ35 (y34.2.1 1) _ hJ37 ) (va_cwS 1 hts (gd_S q1778 q1779 q134 q1780) rfl rfl rfl (by decide +kernel) ⟨Nat.le_of_ble_eq_true rfl, Nat.le_of_ble_eq_true rfl⟩) (ps9 hP hK hD hC hS) rfl rfl hl.1 rfl (lv_room (Nat.le_of_ble_eq_true rfl)) dX9_offOf_124 ⟨Nat.le_of_ble_eq_true rfl, Nat.le_of_ble_eq_true rfl⟩) hS (fun q _ h => up9 hS q h) (up9 hS) (fun r56 σ57 tS H1 locs ht hvm hw58 hB hz1 hk1 hS => ?_)
      have hP : va_P D clz (WD9 cy g σ57) H1 := by rw [← ht]; exact hB
      clear hB hz1 hk1 hvm ht
      generalize H1 = H at hP hS ⊢
      have hw58E : σ35 = σ57 := (hw58.1).symm
      subst hw58E
      have b59 : r56 = sizeF (y34.2.1 1) := hw58.2.1
      refine cut9 (D := D) (cy := cy) (g := g) (A := A9 cy g s.heap.size) (H0 := s.heap) 10 143 (fun x : LZ => [(9, .int x51), (8, .int (y34.2.1 0)), (7, .int (x.2.1 0)), (6, .int x21), (5, .int (y7.2.1 0)), (0, .ref (g 60)), (1, .int p1), (2, .int p2), (3, .int p3), (4, .int p4)]) (fun x : LZ => []) (fun x : LZ => (Fr (fL [23]) σ35 x.1) ∧ (J9 (x.1 9)) ∧ True) ?_ ?_
      ·
        intro y62 hI61 H locs ls hP hS hl
        obtain ⟨σ63, eσ63⟩ : ∃ z, z = y62.1 := ⟨_, rfl⟩
        rw [← eσ63] at hP hI61
        have hF64 : Fr (fL [23]) σ35 σ63 := hI61.1
        have hJ65 : J9 (σ63 9) := hI61.2.1
        have hl : lv_has ls 10 [(9, .int x51), (8, .int (y34.2.1 0)), (7, .int (y62.2.1 0)), (6, .int x21), (5, .int (y7.2.1 0)), (0, .ref (g 60)), (1, .int p1), (2, .int p2), (3, .int p3), (4, .int p4)] := hl
        obtain ⟨x66, ex66⟩ : ∃ y : Int32, y = (y34.2.1 0) + 1 := ⟨_, rfl⟩
        have t67 := addO ex66 (by have f0 := b38; have f1 := k41; have f2 := t47; have f3 := b8; have f4 := b45; have g0 := rg32 (y34.2.1 0); have z1 : (1 : Int32).toInt = 1 := (by decide); omega)
        refine lv_iinc (v := x66) (lv' := [(8, .int x66), (9, .int x51), (7, .int (y62.2.1 0)), (6, .int x21), (5, .int (y7.2.1 0)), (0, .ref (g 60)), (1, .int p1), (2, .int p2), (3, .int p3), (4, .int p4)]) hx hb dX9_offOf_143 hl (k := 1) rfl (by rw [ex66]; rfl) (by decide) rfl (fun ls hl => ?_)
        refine lv_goto (tgt := 90) hx hb dX9_offOf_146 (by decide) ?_
        have t68 : ((1001 : Int) - x66.toInt).toNat < ((1001 : Int) - (y34.2.1 0).toInt).toNat := (by have f0 := b38; have f1 := k41; have f2 := t47; have f3 := t67; have f4 := b8; have f5 := b45; have g0 := rg32 (y34.2.1 0); have g1 := rg32 x66; have z1 : (1 : Int32).toInt = 1 := (by decide); omega)
        exact nl32 (σ63, lf [x66, (y62.2.1 0)], lg []) ⟨Fr.tr (Fr.tr (Fr.rf) hF36 (fL_sub rfl)) hF64 (fL_sub rfl), hJ65, (show (1 : Int) ≤ (x66 : Int32).toInt ∧ (x66 : Int32).toInt ≤ 1000 from (by have f0 := t67; have f1 := b38; have f2 := k41; have f3 := t47; have f4 := b8; have f5 := b45; have g0 := rg32 x66; have z1 : (1 : Int32).toInt = 1 := (by decide); omega)), trivial⟩ (show ((1001 : Int) - x66.toInt).toNat < _ from by first | exact t68 | (rw [← eσ35]; exact t68)) _ _ _ hP hS (lv_sub hl [0, 2, 3, 4, 5, 6, 7, 8, 9] rfl)
      ·
        intro nj60
        refine lv_icmp_lt (tgt := 133) hx hb dX9_offOf_127 (by decide) (fun c69 => ?_) (fun c69 => ?_)
        ·
          have k70 := plt32 c69
          refine lv_iload hx hb dX9_offOf_133 (lv_at hl 0 rfl) ?_
          refine lv_istore (lv' := [(7, .int x51), (9, .int x51), (8, .int (y34.2.1 0)), (6, .int x21), (5, .int (y7.2.1 0)), (0, .ref (g 60)), (1, .int p1), (2, .int p2), (3, .int p3), (4, .int p4)]) hx hb dX9_offOf_135 hl (by decide) rfl (fun ls hl => ?_)
          refine lv_aload_n hx hb dX9_offOf_137 rfl (lv_at hl 5 rfl) ?_
          refine lv_iload hx hb dX9_offOf_138 (lv_at hl 2 rfl) ?_
          refine p9_23 hx hb hts hown hK hP hD hS (hts _ q1383) dX9_offOf_140 (fun H locs σ71 eσ71 hP hS => ?_)
          have hJ72 : J9 (σ71 9) := hJ37.I eσ71 (show JI9 23 (y34.2.1 0) from trivial)
          exact nj60 (σ71, lf [x51], lg []) ⟨Fr.tr (Fr.rf) (sI_f eσ71) (fN_L rfl), hJ72, trivial⟩ _ _ _ hP hS (lv_sub hl [1, 2, 0, 3, 4, 5, 6, 7, 8, 9] rfl)
        ·
          have k73 := nlt32 c69
          refine lv_goto (tgt := 143) hx hb dX9_offOf_130 (by decide) ?_
          exact nj60 (σ35, lf [(y34.2.1 1)], lg []) ⟨Fr.rf, hJ37, trivial⟩ _ _ _ hP hS (lv_sub hl [0, 1, 2, 3, 4, 5, 6, 7, 8, 9] rfl)
  ·
    intro nj5
    refine cut9 (D := D) (cy := cy) (g := g) (A := A9 cy g s.heap.size) (H0 := s.heap) 10 35 (fun x : LZ => [(0, .ref (g 60)), (1, .int p1), (2, .int p2), (3, .int p3), (4, .int p4)]) (fun x : LZ => []) (fun x : LZ => (x.1 = σ) ∧ True) ?_ ?_
    ·
      intro y76 hI75 H locs ls hP hS hl
      rw [show y76.1 = σ from hI75.1] at hP
      have hl : lv_has ls 10 [(0, .ref (g 60)), (1, .int p1), (2, .int p2), (3, .int p3), (4, .int p4)] := hl
      refine lv_iconst (v := 0) hx hb dX9_offOf_35 (by decide) ?_
      exact nj5 (σ, lf [0], lg []) ⟨rfl, (show (0 : Int) ≤ (0 : Int32).toInt ∧ (0 : Int32).toInt ≤ 999 from (by have z0 : (0 : Int32).toInt = 0 := (by decide); omega)), trivial⟩ _ _ _ hP hS (lv_sub hl [0, 1, 2, 3, 4] rfl)
    ·
      intro nj74
      refine lv_icmp_ne (tgt := 35) hx hb dX9_offOf_10 (by decide) (fun c77 => ?_) (fun c77 => ?_)
      ·
        have k78 := neq32 c77
        exact nj74 (σ, lf [], lg []) ⟨rfl, trivial⟩ _ _ _ hP hS (lv_sub hl [0, 1, 2, 3, 4] rfl)
      ·
        have k79 := peq32 c77
        refine lv_iload hx hb dX9_offOf_13 (lv_at hl 4 rfl) ?_
        refine lv_iconst (v := 4) hx hb dX9_offOf_15 (by decide) ?_
        refine lv_iand hx hb dX9_offOf_16 ?_
        refine lv_topi (fun x80 ex80 => ?_)
        refine lv_if_eq (tgt := 35) hx hb dX9_offOf_17 (by decide) (fun c81 => ?_) (fun c81 => ?_)
        ·
          have k82 := peq32 c81
          exact nj74 (σ, lf [], lg []) ⟨rfl, trivial⟩ _ _ _ hP hS (lv_sub hl [0, 1, 2, 3, 4] rfl)
        ·
          have k83 := neq32 c81
          refine lv_aload_n hx hb dX9_offOf_20 rfl (lv_at hl 0 rfl) ?_
          refine g9_18 hx hb hts hown hK hP (hts _ q1378) dX9_offOf_21 ?_
          refine lv_bipush (v := 7) hx hb dX9_offOf_24 (by decide) ?_
          refine lv_iload_n hx hb dX9_offOf_26 rfl (lv_at hl 1 rfl) ?_
          refine lv_imul hx hb dX9_offOf_27 ?_
          refine lv_topi (fun x84 ex84 => ?_)
          have t85 := mulC' (n := 7) ex84 (by decide) (by have f0 := h0; have f1 := h3; have f2 := t2; have f3 := t4; have f4 := k79; have g1 := rg32 p1; have z1 : (1 : Int32).toInt = 1 := (by decide); omega)
          refine lv_bipush (v := 6) hx hb dX9_offOf_28 (by decide) ?_
          refine lv_iadd hx hb dX9_offOf_30 ?_
          refine lv_topi (fun x86 ex86 => ?_)
          have t87 := addO ex86 (by have f0 := t85; have f1 := h0; have f2 := h3; have f3 := t2; have f4 := t4; have f5 := k79; have g1 := rg32 x84; have z1 : (1 : Int32).toInt = 1 := (by decide); have z6 : (6 : Int32).toInt = 6 := (by decide); omega)
          obtain ⟨x88, ex88⟩ : ∃ z, (σ 9).2.2.1 18 x86.toInt.toNat = z := ⟨_, rfl⟩
          refine l9_18 (x := x88) hx hb hK hP (vpo (by have f0 := t87; have f1 := t85; have f2 := h0; have f3 := h3; have f4 := t2; have f5 := t4; have f6 := k79; have g1 := rg32 x86; have z1 : (1 : Int32).toInt = 1 := (by decide); have z6 : (6 : Int32).toInt = 6 := (by decide); omega)) ex88 dX9_offOf_31 ?_
          have t89 := a9_18 hJ ex88
          refine lv_goto (tgt := 36) hx hb dX9_offOf_32 (by decide) ?_
          exact nj5 (σ, lf [x88], lg []) ⟨rfl, (show (0 : Int) ≤ (x88 : Int32).toInt ∧ (x88 : Int32).toInt ≤ 999 from (by have f0 := t89; have f1 := t87; have f2 := t85; have f3 := h0; have f4 := h3; have f5 := t2; have f6 := t4; have f7 := k79; have g1 := rg32 x88; have z1 : (1 : Int32).toInt = 1 := (by decide); have z6 : (6 : Int32).toInt = 6 := (by decide); omega)), trivial⟩ _ _ _ hP hS (lv_sub hl [0, 1, 2, 3, 4] rfl)

theorem q1770 : Cond.code yX9_isPartial cX9_isPartial 2 (some .boolean) ∈ lw_g := lw_gm (List.mem_of_getElem? (i := 1770) (by decide +kernel)) rfl
theorem q1771 : Cond.constantLong RX9 351 (2) ∈ lw_g := lw_gm (List.mem_of_getElem? (i := 1771) (by decide +kernel)) rfl
theorem dX9_isPartial_0 : decode cX9_isPartial 0 = .ok (.iload_n 1, 1) := by decide +kernel
theorem dX9_isPartial_1 : decode cX9_isPartial 1 = .ok (.i2l, 1) := by decide +kernel
theorem dX9_isPartial_2 : decode cX9_isPartial 2 = .ok (.ldc2_w 351, 3) := by decide +kernel
theorem dX9_isPartial_5 : decode cX9_isPartial 5 = .ok (.aload_n 0, 1) := by decide +kernel
theorem dX9_isPartial_6 : decode cX9_isPartial 6 = .ok (.getfield 34, 3) := by decide +kernel
theorem dX9_isPartial_9 : decode cX9_isPartial 9 = .ok (.iconst 1, 1) := by decide +kernel
theorem dX9_isPartial_10 : decode cX9_isPartial 10 = .ok (.iaload, 1) := by decide +kernel
theorem dX9_isPartial_11 : decode cX9_isPartial 11 = .ok (.i2l, 1) := by decide +kernel
theorem dX9_isPartial_12 : decode cX9_isPartial 12 = .ok (.invokestatic 134, 3) := by decide +kernel
theorem dX9_isPartial_15 : decode cX9_isPartial 15 = .ok (.ireturn, 1) := by decide +kernel
set_option maxHeartbeats 4000000 in
set_option maxRecDepth 100000 in
theorem m_X9_isPartial (l : Launch) (D : va_G) (cy : Nat → ClassId) (g : Nat → Nat) (σ : ST) (p1 : Int32) (sz : Nat) (hJ : J9 (σ 9))  : Met l yX9_isPartial (ww yX9_isPartial cX9_isPartial 2 (some .boolean)) ({ frames := 2, cells := 0, slots := 0, locals := 128 }) (va_Pc [.ref (g 60), .int p1] (pr9 D cy g σ sz)) (qi9 D cy g sz (fun r τ => τ = σ ∧ ((0 : Int) ≤ r.toInt ∧ r.toInt ≤ 1) ∧ ((r.toInt = 0) ∨ ((2 : Int) ≤ p1.toInt ∧ p1.toInt ≤ 12)) ∧ True)) 0 0 (A9 cy g sz) := by
  refine Met.ofW (cc := cX9_isPartial) (maxL := 2) (ret := (some .boolean)) (by decide) rfl ?_
  intro p e s m args below meth c s₁ B hml hv
  obtain ⟨rfl, hsz, hP, hK, hD0, hC⟩ := hv
  have hx := B.exec
  have hb := B.bytes
  have hr := B.returns
  have hts := hts_g (atoms_spec (ws := ww yX9_isPartial cX9_isPartial 2 (some .boolean)) B.pre)
  have hown : s.vm.findClass RX9 = some m.cls := findClass_of_methodNamed B.named
  have hlocks := B.notSynchronized
  clear B
  subst hsz
  have hD := fun τ => A9_D (sz := s.heap.size) hD0 τ
  clear hD0
  have hS : va_S (A9 cy g s.heap.size) s.heap s.heap [] := va_S.rf
  have hl := lv_entry ([.ref (g 60), .int p1]) (n := 2) (Nat.le_of_ble_eq_true rfl)
  rw [lg_entry_eq]
  generalize (lg_sl ([.ref (g 60), .int p1]) ++ List.replicate (2 - (lg_sl ([.ref (g 60), .int p1])).length) Slot.unset).toArray = ls at hl ⊢
  have hl : lv_has ls 2 [(0, .ref (g 60)), (1, .int p1)] := hl
  refine lv_iload_n hx hb dX9_isPartial_0 rfl (lv_at hl 1 rfl) ?_
  refine lv_i2l (v := p1.toInt64) hx hb dX9_isPartial_1 rfl ?_
  refine lv_ldc2 (v := 2) hx hb hown (hts _ q1771) dX9_isPartial_2 ?_
  refine lv_aload_n hx hb dX9_isPartial_5 rfl (lv_at hl 0 rfl) ?_
  refine g9_17 hx hb hts hown hK hP (hts _ q1377) dX9_isPartial_6 ?_
  refine lv_iconst (v := 1) hx hb dX9_isPartial_9 (by decide) ?_
  refine l9_17 (x := ((σ 9).2.2.1 17 1)) hx hb hK hP (vpi (by decide)) (congrArg ((σ 9).2.2.1 17) (show (1 : Int32).toInt.toNat = 1 by decide)) dX9_isPartial_10 ?_
  refine lv_i2l (v := ((σ 9).2.2.1 17 1).toInt64) hx hb dX9_isPartial_11 rfl ?_
  refine va_calli (va_runS (As := [.long p1.toInt64, .long 2, .long ((σ 9).2.2.1 17 1).toInt64]) (rest := []) ⟨hx, hb, hml, hown, hts⟩ (m_X9_in l D cy g σ p1.toInt64 (2) ((σ 9).2.2.1 17 1).toInt64 _ hJ ) (va_cwS 3 hts (gd_S q1550 q1551 q134 q1552) rfl rfl rfl (by decide +kernel) ⟨Nat.le_of_ble_eq_true rfl, Nat.le_of_ble_eq_true rfl⟩) (ps9 hP hK hD hC hS) rfl rfl hl.1 rfl (lv_room (Nat.le_of_ble_eq_true rfl)) dX9_isPartial_12 ⟨Nat.le_of_ble_eq_true rfl, Nat.le_of_ble_eq_true rfl⟩) hS (fun q _ h => up9 hS q h) (up9 hS) (fun r1 σ2 tS H1 locs ht hvm hw3 hB hz1 hk1 hS => ?_)
  have hP : va_P D clz (WD9 cy g σ2) H1 := by rw [← ht]; exact hB
  clear hB hz1 hk1 hvm ht
  generalize H1 = H at hP hS ⊢
  have hw3E : σ = σ2 := (hw3.1).symm
  subst hw3E
  have b4 : (0 : Int) ≤ r1.toInt ∧ r1.toInt ≤ 1 := hw3.2.1
  have b5 : (r1.toInt = 1 ∧ (2 : Int64).toInt ≤ p1.toInt64.toInt ∧ p1.toInt64.toInt ≤ ((σ 9).2.2.1 17 1).toInt64.toInt) ∨ (r1.toInt = 0 ∧ ¬ ((2 : Int64).toInt ≤ p1.toInt64.toInt ∧ p1.toInt64.toInt ≤ ((σ 9).2.2.1 17 1).toInt64.toInt)) := hw3.2.2.1
  exact W.zret (v := r1) hx hb hr (nrZ (by have f0 := b4; have f1 := b5; have f2 := t64 (a := p1); have f3 := t64 (a := ((σ 9).2.2.1 17 1)); have f4 := a9_17 hJ (j := 1) rfl; have f5 := rg32 p1; have f6 := rg32 ((σ 9).2.2.1 17 1); have g1 := rg32 p1; have g3 := rg32 r1; have zl2 : (2 : Int64).toInt = 2 := (by decide); have w10 := t64 (a := ((σ 9).2.2.1 17 1)); have w11 := t64 (a := p1); omega)) (fun tS ht hW => ⟨⟨r1, σ, rfl, ⟨rfl, (show (0 : Int) ≤ r1.toInt ∧ r1.toInt ≤ 1 from (by have f0 := b4; have f1 := b5; have f2 := t64 (a := p1); have f3 := t64 (a := ((σ 9).2.2.1 17 1)); have f4 := a9_17 hJ (j := 1) rfl; have f5 := rg32 p1; have f6 := rg32 ((σ 9).2.2.1 17 1); have g1 := rg32 p1; have g3 := rg32 r1; have zl2 : (2 : Int64).toInt = 2 := (by decide); have w10 := t64 (a := ((σ 9).2.2.1 17 1)); have w11 := t64 (a := p1); omega)), (show (r1.toInt = 0) ∨ ((2 : Int) ≤ p1.toInt ∧ p1.toInt ≤ 12) from (by have f0 := t64 (a := p1); have f1 := rg32 p1; have f2 := b4; have f3 := b5; have f4 := t64 (a := ((σ 9).2.2.1 17 1)); have f5 := a9_17 hJ (j := 1) rfl; have f6 := rg32 ((σ 9).2.2.1 17 1); have g1 := rg32 p1; have g3 := rg32 r1; have zl2 : (2 : Int64).toInt = 2 := (by decide); have w10 := t64 (a := ((σ 9).2.2.1 17 1)); have w11 := t64 (a := p1); omega)), trivial⟩, (show va_P D clz (WD9 cy g σ) tS.heap by rw [ht]; exact hP)⟩, hS.F ht⟩) hS.2.2 dX9_isPartial_15

theorem q1762 : Cond.code yX9_isAsked cX9_isAsked 5 (some .boolean) ∈ lw_g := lw_gm (List.mem_of_getElem? (i := 1762) (by decide +kernel)) rfl
theorem q1763 : Cond.methodLink RX9 353 yX9_isPitch ∈ lw_g := lw_gm (List.mem_of_getElem? (i := 1763) (by decide +kernel)) rfl
theorem q1764 : Cond.static yX9_isPitch ∈ lw_g := lw_gm (List.mem_of_getElem? (i := 1764) (by decide +kernel)) rfl
theorem q1767 : Cond.methodLink RX9 356 yX9_isPartial ∈ lw_g := lw_gm (List.mem_of_getElem? (i := 1767) (by decide +kernel)) rfl
theorem q1769 : Cond.instanceMethod yX9_isPartial ∈ lw_g := lw_gm (List.mem_of_getElem? (i := 1769) (by decide +kernel)) rfl
theorem q82 : Cond.selects RX9 yX9_isPartial yX9_isPartial ∈ lw_g := lw_gm (List.mem_of_getElem? (i := 82) (by decide +kernel)) rfl
theorem dX9_isAsked_0 : decode cX9_isAsked 0 = .ok (.aload_n 0, 1) := by decide +kernel
theorem dX9_isAsked_1 : decode cX9_isAsked 1 = .ok (.iload_n 1, 1) := by decide +kernel
theorem dX9_isAsked_2 : decode cX9_isAsked 2 = .ok (.invokevirtual 312, 3) := by decide +kernel
theorem dX9_isAsked_5 : decode cX9_isAsked 5 = .ok (.ifCond .eq 34, 3) := by decide +kernel
theorem dX9_isAsked_8 : decode cX9_isAsked 8 = .ok (.iload_n 2, 1) := by decide +kernel
theorem dX9_isAsked_9 : decode cX9_isAsked 9 = .ok (.i2l, 1) := by decide +kernel
theorem dX9_isAsked_10 : decode cX9_isAsked 10 = .ok (.invokestatic 353, 3) := by decide +kernel
theorem dX9_isAsked_13 : decode cX9_isAsked 13 = .ok (.ifCond .eq 26, 3) := by decide +kernel
theorem dX9_isAsked_16 : decode cX9_isAsked 16 = .ok (.aload_n 0, 1) := by decide +kernel
theorem dX9_isAsked_17 : decode cX9_isAsked 17 = .ok (.iload_n 3, 1) := by decide +kernel
theorem dX9_isAsked_18 : decode cX9_isAsked 18 = .ok (.invokevirtual 356, 3) := by decide +kernel
theorem dX9_isAsked_21 : decode cX9_isAsked 21 = .ok (.ifCond .eq 18, 3) := by decide +kernel
theorem dX9_isAsked_24 : decode cX9_isAsked 24 = .ok (.aload_n 0, 1) := by decide +kernel
theorem dX9_isAsked_25 : decode cX9_isAsked 25 = .ok (.iload_n 1, 1) := by decide +kernel
theorem dX9_isAsked_26 : decode cX9_isAsked 26 = .ok (.iload 4, 2) := by decide +kernel
theorem dX9_isAsked_28 : decode cX9_isAsked 28 = .ok (.i2l, 1) := by decide +kernel
theorem dX9_isAsked_29 : decode cX9_isAsked 29 = .ok (.invokevirtual 332, 3) := by decide +kernel
theorem dX9_isAsked_32 : decode cX9_isAsked 32 = .ok (.ifCond .eq 7, 3) := by decide +kernel
theorem dX9_isAsked_35 : decode cX9_isAsked 35 = .ok (.iconst 1, 1) := by decide +kernel
theorem dX9_isAsked_36 : decode cX9_isAsked 36 = .ok (.goto 4, 3) := by decide +kernel
theorem dX9_isAsked_39 : decode cX9_isAsked 39 = .ok (.iconst 0, 1) := by decide +kernel
theorem dX9_isAsked_40 : decode cX9_isAsked 40 = .ok (.ireturn, 1) := by decide +kernel
set_option maxHeartbeats 4000000 in
set_option maxRecDepth 100000 in
theorem m_X9_isAsked (l : Launch) (D : va_G) (cy : Nat → ClassId) (g : Nat → Nat) (σ : ST) (p1 : Int32) (p2 : Int32) (p3 : Int32) (p4 : Int32) (sz : Nat) (hJ : J9 (σ 9))  : Met l yX9_isAsked (ww yX9_isAsked cX9_isAsked 5 (some .boolean)) ({ frames := 3, cells := 0, slots := 0, locals := 192 }) (va_Pc [.ref (g 60), .int p1, .int p2, .int p3, .int p4] (pr9 D cy g σ sz)) (qi9 D cy g sz (fun r τ => τ = σ ∧ ((0 : Int) ≤ r.toInt ∧ r.toInt ≤ 1) ∧ ((r.toInt = 0) ∨ ((0 : Int) ≤ p1.toInt ∧ p1.toInt ≤ 3 ∧ (2 : Int) ≤ p3.toInt ∧ p3.toInt ≤ 12 ∧ (0 : Int) ≤ p4.toInt ∧ p4.toInt ≤ 7)) ∧ ((r.toInt = 0) ∨ (p1.toInt < ((σ 9).2.2.1 17 2).toInt)) ∧ True)) 0 0 (A9 cy g sz) := by
  refine Met.ofW (cc := cX9_isAsked) (maxL := 5) (ret := (some .boolean)) (by decide) rfl ?_
  intro p e s m args below meth c s₁ B hml hv
  obtain ⟨rfl, hsz, hP, hK, hD0, hC⟩ := hv
  have hx := B.exec
  have hb := B.bytes
  have hr := B.returns
  have hts := hts_g (atoms_spec (ws := ww yX9_isAsked cX9_isAsked 5 (some .boolean)) B.pre)
  have hown : s.vm.findClass RX9 = some m.cls := findClass_of_methodNamed B.named
  have hlocks := B.notSynchronized
  clear B
  subst hsz
  have hD := fun τ => A9_D (sz := s.heap.size) hD0 τ
  clear hD0
  have hS : va_S (A9 cy g s.heap.size) s.heap s.heap [] := va_S.rf
  have hl := lv_entry ([.ref (g 60), .int p1, .int p2, .int p3, .int p4]) (n := 5) (Nat.le_of_ble_eq_true rfl)
  rw [lg_entry_eq]
  generalize (lg_sl ([.ref (g 60), .int p1, .int p2, .int p3, .int p4]) ++ List.replicate (5 - (lg_sl ([.ref (g 60), .int p1, .int p2, .int p3, .int p4])).length) Slot.unset).toArray = ls at hl ⊢
  have hl : lv_has ls 5 [(0, .ref (g 60)), (1, .int p1), (2, .int p2), (3, .int p3), (4, .int p4)] := hl
  refine lv_aload_n hx hb dX9_isAsked_0 rfl (lv_at hl 0 rfl) ?_
  refine lv_iload_n hx hb dX9_isAsked_1 rfl (lv_at hl 1 rfl) ?_
  refine va_calli (va_runV (As := [.int p1]) (rest := []) ⟨hx, hb, hml, hown, hts⟩ (m_X9_isBrass l D cy g σ p1 _ hJ ) (cwV 1 hts (gd_V q1701 q1703 q71 q134 q1704) rfl rfl rfl (by decide +kernel) ⟨Nat.le_of_ble_eq_true rfl, Nat.le_of_ble_eq_true rfl⟩) (pv9 hP hK hD hC hS (va_recv hK hP (ci := 9) (q0 := 0) rfl rfl)) rfl rfl hl.1 rfl (lv_room (Nat.le_of_ble_eq_true rfl)) dX9_isAsked_2 ⟨Nat.le_of_ble_eq_true rfl, Nat.le_of_ble_eq_true rfl⟩) hS (fun q _ h => up9 hS q h) (up9 hS) (fun r1 σ2 tS H1 locs ht hvm hw3 hB hz1 hk1 hS => ?_)
  have hP : va_P D clz (WD9 cy g σ2) H1 := by rw [← ht]; exact hB
  clear hB hz1 hk1 hvm ht
  generalize H1 = H at hP hS ⊢
  have hw3E : σ = σ2 := (hw3.1).symm
  subst hw3E
  have b4 : (0 : Int) ≤ r1.toInt ∧ r1.toInt ≤ 1 := hw3.2.1
  have b5 : (r1.toInt = 0) ∨ ((0 : Int) ≤ p1.toInt ∧ p1.toInt ≤ 3) := hw3.2.2.1
  have b6 : (r1.toInt = 0) ∨ (0 ≤ p1.toInt ∧ p1.toInt < ((σ 9).2.2.1 17 2).toInt) := hw3.2.2.2.1
  refine lv_if_eq (tgt := 39) hx hb dX9_isAsked_5 (by decide) (fun c7 => ?_) (fun c7 => ?_)
  ·
    have k8 := peq32 c7
    refine lv_iconst (v := 0) hx hb dX9_isAsked_39 (by decide) ?_
    exact W.zret (v := 0) hx hb hr rfl (fun tS ht hW => ⟨⟨0, σ, rfl, ⟨rfl, (show (0 : Int) ≤ (0 : Int32).toInt ∧ (0 : Int32).toInt ≤ 1 from (by have z0 : (0 : Int32).toInt = 0 := (by decide); omega)), (show ((0 : Int32).toInt = 0) ∨ ((0 : Int) ≤ p1.toInt ∧ p1.toInt ≤ 3 ∧ (2 : Int) ≤ p3.toInt ∧ p3.toInt ≤ 12 ∧ (0 : Int) ≤ p4.toInt ∧ p4.toInt ≤ 7) from (by have f0 := b5; have f1 := b6; have f2 := a9_17 hJ (j := 2) rfl; have f3 := b4; have f4 := k8; have g1 := rg32 p1; have g2 := rg32 p3; have g3 := rg32 p4; have z0 : (0 : Int32).toInt = 0 := (by decide); omega)), (show ((0 : Int32).toInt = 0) ∨ (p1.toInt < ((σ 9).2.2.1 17 2).toInt) from (by have f0 := a9_17 hJ (j := 2) rfl; have f1 := b5; have f2 := b6; have f3 := b4; have f4 := k8; have g1 := rg32 p1; have z0 : (0 : Int32).toInt = 0 := (by decide); omega)), trivial⟩, (show va_P D clz (WD9 cy g σ) tS.heap by rw [ht]; exact hP)⟩, hS.F ht⟩) hS.2.2 dX9_isAsked_40
  ·
    have k9 := neq32 c7
    refine lv_iload_n hx hb dX9_isAsked_8 rfl (lv_at hl 2 rfl) ?_
    refine lv_i2l (v := p2.toInt64) hx hb dX9_isAsked_9 rfl ?_
    refine va_calli (va_runS (As := [.long p2.toInt64]) (rest := []) ⟨hx, hb, hml, hown, hts⟩ (m_X9_isPitch l D cy g σ p2.toInt64 _ hJ ) (va_cwS 1 hts (gd_S q1763 q1764 q134 q1765) rfl rfl rfl (by decide +kernel) ⟨Nat.le_of_ble_eq_true rfl, Nat.le_of_ble_eq_true rfl⟩) (ps9 hP hK hD hC hS) rfl rfl hl.1 rfl (lv_room (Nat.le_of_ble_eq_true rfl)) dX9_isAsked_10 ⟨Nat.le_of_ble_eq_true rfl, Nat.le_of_ble_eq_true rfl⟩) hS (fun q _ h => up9 hS q h) (up9 hS) (fun r10 σ11 tS H1 locs ht hvm hw12 hB hz1 hk1 hS => ?_)
    have hP : va_P D clz (WD9 cy g σ11) H1 := by rw [← ht]; exact hB
    clear hB hz1 hk1 hvm ht
    generalize H1 = H at hP hS ⊢
    have hw12E : σ = σ11 := (hw12.1).symm
    subst hw12E
    have b13 : (0 : Int) ≤ r10.toInt ∧ r10.toInt ≤ 1 := hw12.2.1
    have b14 : (r10.toInt = 1 ∧ 0 ≤ p2.toInt64.toInt ∧ p2.toInt64.toInt ≤ 60) ∨ (r10.toInt = 0 ∧ ¬ (0 ≤ p2.toInt64.toInt ∧ p2.toInt64.toInt ≤ 60)) := hw12.2.2.1
    refine lv_if_eq (tgt := 39) hx hb dX9_isAsked_13 (by decide) (fun c15 => ?_) (fun c15 => ?_)
    ·
      have k16 := peq32 c15
      refine lv_iconst (v := 0) hx hb dX9_isAsked_39 (by decide) ?_
      exact W.zret (v := 0) hx hb hr rfl (fun tS ht hW => ⟨⟨0, σ, rfl, ⟨rfl, (show (0 : Int) ≤ (0 : Int32).toInt ∧ (0 : Int32).toInt ≤ 1 from (by have z0 : (0 : Int32).toInt = 0 := (by decide); omega)), (show ((0 : Int32).toInt = 0) ∨ ((0 : Int) ≤ p1.toInt ∧ p1.toInt ≤ 3 ∧ (2 : Int) ≤ p3.toInt ∧ p3.toInt ≤ 12 ∧ (0 : Int) ≤ p4.toInt ∧ p4.toInt ≤ 7) from (by have f0 := b5; have f1 := b6; have f2 := a9_17 hJ (j := 2) rfl; have f3 := b4; have f4 := k9; have g1 := rg32 p1; have g2 := rg32 p3; have g3 := rg32 p4; have z0 : (0 : Int32).toInt = 0 := (by decide); omega)), (show ((0 : Int32).toInt = 0) ∨ (p1.toInt < ((σ 9).2.2.1 17 2).toInt) from (by have f0 := a9_17 hJ (j := 2) rfl; have f1 := b5; have f2 := b6; have f3 := b4; have f4 := k9; have g1 := rg32 p1; have z0 : (0 : Int32).toInt = 0 := (by decide); omega)), trivial⟩, (show va_P D clz (WD9 cy g σ) tS.heap by rw [ht]; exact hP)⟩, hS.F ht⟩) hS.2.2 dX9_isAsked_40
    ·
      have k17 := neq32 c15
      refine lv_aload_n hx hb dX9_isAsked_16 rfl (lv_at hl 0 rfl) ?_
      refine lv_iload_n hx hb dX9_isAsked_17 rfl (lv_at hl 3 rfl) ?_
      refine va_calli (va_runV (As := [.int p3]) (rest := []) ⟨hx, hb, hml, hown, hts⟩ (m_X9_isPartial l D cy g σ p3 _ hJ ) (cwV 1 hts (gd_V q1767 q1769 q82 q134 q1770) rfl rfl rfl (by decide +kernel) ⟨Nat.le_of_ble_eq_true rfl, Nat.le_of_ble_eq_true rfl⟩) (pv9 hP hK hD hC hS (va_recv hK hP (ci := 9) (q0 := 0) rfl rfl)) rfl rfl hl.1 rfl (lv_room (Nat.le_of_ble_eq_true rfl)) dX9_isAsked_18 ⟨Nat.le_of_ble_eq_true rfl, Nat.le_of_ble_eq_true rfl⟩) hS (fun q _ h => up9 hS q h) (up9 hS) (fun r18 σ19 tS H1 locs ht hvm hw20 hB hz1 hk1 hS => ?_)
      have hP : va_P D clz (WD9 cy g σ19) H1 := by rw [← ht]; exact hB
      clear hB hz1 hk1 hvm ht
      generalize H1 = H at hP hS ⊢
      have hw20E : σ = σ19 := (hw20.1).symm
      subst hw20E
      have b21 : (0 : Int) ≤ r18.toInt ∧ r18.toInt ≤ 1 := hw20.2.1
      have b22 : (r18.toInt = 0) ∨ ((2 : Int) ≤ p3.toInt ∧ p3.toInt ≤ 12) := hw20.2.2.1
      refine lv_if_eq (tgt := 39) hx hb dX9_isAsked_21 (by decide) (fun c23 => ?_) (fun c23 => ?_)
      ·
        have k24 := peq32 c23
        refine lv_iconst (v := 0) hx hb dX9_isAsked_39 (by decide) ?_
        exact W.zret (v := 0) hx hb hr rfl (fun tS ht hW => ⟨⟨0, σ, rfl, ⟨rfl, (show (0 : Int) ≤ (0 : Int32).toInt ∧ (0 : Int32).toInt ≤ 1 from (by have z0 : (0 : Int32).toInt = 0 := (by decide); omega)), (show ((0 : Int32).toInt = 0) ∨ ((0 : Int) ≤ p1.toInt ∧ p1.toInt ≤ 3 ∧ (2 : Int) ≤ p3.toInt ∧ p3.toInt ≤ 12 ∧ (0 : Int) ≤ p4.toInt ∧ p4.toInt ≤ 7) from (by have f0 := b5; have f1 := b6; have f2 := b22; have f3 := a9_17 hJ (j := 2) rfl; have f4 := b4; have f5 := k9; have f6 := b21; have f7 := k24; have g1 := rg32 p1; have g2 := rg32 p3; have g3 := rg32 p4; have z0 : (0 : Int32).toInt = 0 := (by decide); omega)), (show ((0 : Int32).toInt = 0) ∨ (p1.toInt < ((σ 9).2.2.1 17 2).toInt) from (by have f0 := a9_17 hJ (j := 2) rfl; have f1 := b5; have f2 := b6; have f3 := b4; have f4 := k9; have g1 := rg32 p1; have z0 : (0 : Int32).toInt = 0 := (by decide); omega)), trivial⟩, (show va_P D clz (WD9 cy g σ) tS.heap by rw [ht]; exact hP)⟩, hS.F ht⟩) hS.2.2 dX9_isAsked_40
      ·
        have k25 := neq32 c23
        refine lv_aload_n hx hb dX9_isAsked_24 rfl (lv_at hl 0 rfl) ?_
        refine lv_iload_n hx hb dX9_isAsked_25 rfl (lv_at hl 1 rfl) ?_
        refine lv_iload hx hb dX9_isAsked_26 (lv_at hl 4 rfl) ?_
        refine lv_i2l (v := p4.toInt64) hx hb dX9_isAsked_28 rfl ?_
        refine va_calli (va_runV (As := [.int p1, .long p4.toInt64]) (rest := []) ⟨hx, hb, hml, hown, hts⟩ (m_X9_isSetting l D cy g σ p1 p4.toInt64 _ hJ (show (0 : Int) ≤ p1.toInt ∧ p1.toInt ≤ 3 from (by have f0 := b5; have f1 := b6; have f2 := a9_17 hJ (j := 2) rfl; have f3 := b4; have f4 := k9; have g1 := rg32 p1; have z0 : (0 : Int32).toInt = 0 := (by decide); omega))) (cwV 2 hts (gd_V q1739 q1741 q77 q134 q1742) rfl rfl rfl (by decide +kernel) ⟨Nat.le_of_ble_eq_true rfl, Nat.le_of_ble_eq_true rfl⟩) (pv9 hP hK hD hC hS (va_recv hK hP (ci := 9) (q0 := 0) rfl rfl)) rfl rfl hl.1 rfl (lv_room (Nat.le_of_ble_eq_true rfl)) dX9_isAsked_29 ⟨Nat.le_of_ble_eq_true rfl, Nat.le_of_ble_eq_true rfl⟩) hS (fun q _ h => up9 hS q h) (up9 hS) (fun r26 σ27 tS H1 locs ht hvm hw28 hB hz1 hk1 hS => ?_)
        have hP : va_P D clz (WD9 cy g σ27) H1 := by rw [← ht]; exact hB
        clear hB hz1 hk1 hvm ht
        generalize H1 = H at hP hS ⊢
        have hw28E : σ = σ27 := (hw28.1).symm
        subst hw28E
        have b29 : (0 : Int) ≤ r26.toInt ∧ r26.toInt ≤ 1 := hw28.2.1
        have b30 : (r26.toInt = 0) ∨ (0 ≤ p4.toInt64.toInt ∧ p4.toInt64.toInt ≤ 7) := hw28.2.2.1
        refine lv_if_eq (tgt := 39) hx hb dX9_isAsked_32 (by decide) (fun c31 => ?_) (fun c31 => ?_)
        ·
          have k32 := peq32 c31
          refine lv_iconst (v := 0) hx hb dX9_isAsked_39 (by decide) ?_
          exact W.zret (v := 0) hx hb hr rfl (fun tS ht hW => ⟨⟨0, σ, rfl, ⟨rfl, (show (0 : Int) ≤ (0 : Int32).toInt ∧ (0 : Int32).toInt ≤ 1 from (by have z0 : (0 : Int32).toInt = 0 := (by decide); omega)), (show ((0 : Int32).toInt = 0) ∨ ((0 : Int) ≤ p1.toInt ∧ p1.toInt ≤ 3 ∧ (2 : Int) ≤ p3.toInt ∧ p3.toInt ≤ 12 ∧ (0 : Int) ≤ p4.toInt ∧ p4.toInt ≤ 7) from (by have f0 := b5; have f1 := b6; have f2 := b22; have f3 := t64 (a := p4); have f4 := rg32 p4; have f5 := a9_17 hJ (j := 2) rfl; have f6 := b4; have f7 := k9; have f8 := b21; have f9 := k25; have f10 := b30; have f11 := b29; have f12 := k32; have g1 := rg32 p1; have g2 := rg32 p3; have g3 := rg32 p4; have z0 : (0 : Int32).toInt = 0 := (by decide); have w17 := t64 (a := p4); omega)), (show ((0 : Int32).toInt = 0) ∨ (p1.toInt < ((σ 9).2.2.1 17 2).toInt) from (by have f0 := a9_17 hJ (j := 2) rfl; have f1 := b5; have f2 := b6; have f3 := b4; have f4 := k9; have g1 := rg32 p1; have z0 : (0 : Int32).toInt = 0 := (by decide); omega)), trivial⟩, (show va_P D clz (WD9 cy g σ) tS.heap by rw [ht]; exact hP)⟩, hS.F ht⟩) hS.2.2 dX9_isAsked_40
        ·
          have k33 := neq32 c31
          refine lv_iconst (v := 1) hx hb dX9_isAsked_35 (by decide) ?_
          refine lv_goto (tgt := 40) hx hb dX9_isAsked_36 (by decide) ?_
          exact W.zret (v := 1) hx hb hr rfl (fun tS ht hW => ⟨⟨1, σ, rfl, ⟨rfl, (show (0 : Int) ≤ (1 : Int32).toInt ∧ (1 : Int32).toInt ≤ 1 from (by have z1 : (1 : Int32).toInt = 1 := (by decide); omega)), (show ((1 : Int32).toInt = 0) ∨ ((0 : Int) ≤ p1.toInt ∧ p1.toInt ≤ 3 ∧ (2 : Int) ≤ p3.toInt ∧ p3.toInt ≤ 12 ∧ (0 : Int) ≤ p4.toInt ∧ p4.toInt ≤ 7) from (by have f0 := b5; have f1 := b6; have f2 := b22; have f3 := t64 (a := p4); have f4 := rg32 p4; have f5 := a9_17 hJ (j := 2) rfl; have f6 := b4; have f7 := k9; have f8 := b21; have f9 := k25; have f10 := b30; have f11 := b29; have f12 := k33; have g1 := rg32 p1; have g2 := rg32 p3; have g3 := rg32 p4; have z0 : (0 : Int32).toInt = 0 := (by decide); have z1 : (1 : Int32).toInt = 1 := (by decide); have w18 := t64 (a := p4); omega)), (show ((1 : Int32).toInt = 0) ∨ (p1.toInt < ((σ 9).2.2.1 17 2).toInt) from (by have f0 := a9_17 hJ (j := 2) rfl; have f1 := b5; have f2 := b6; have f3 := b4; have f4 := k9; have g1 := rg32 p1; have z0 : (0 : Int32).toInt = 0 := (by decide); have z1 : (1 : Int32).toInt = 1 := (by decide); omega)), trivial⟩, (show va_P D clz (WD9 cy g σ) tS.heap by rw [ht]; exact hP)⟩, hS.F ht⟩) hS.2.2 dX9_isAsked_40

theorem q1758 : Cond.code yX9_off cX9_off 5 (some .int) ∈ lw_g := lw_gm (List.mem_of_getElem? (i := 1758) (by decide +kernel)) rfl
theorem q1759 : Cond.methodLink RX9 359 yX9_isAsked ∈ lw_g := lw_gm (List.mem_of_getElem? (i := 1759) (by decide +kernel)) rfl
theorem q1761 : Cond.instanceMethod yX9_isAsked ∈ lw_g := lw_gm (List.mem_of_getElem? (i := 1761) (by decide +kernel)) rfl
theorem q81 : Cond.selects RX9 yX9_isAsked yX9_isAsked ∈ lw_g := lw_gm (List.mem_of_getElem? (i := 81) (by decide +kernel)) rfl
theorem q1781 : Cond.constant RX9 367 (-100000) ∈ lw_g := lw_gm (List.mem_of_getElem? (i := 1781) (by decide +kernel)) rfl
theorem q1772 : Cond.methodLink RX9 363 yX9_offOf ∈ lw_g := lw_gm (List.mem_of_getElem? (i := 1772) (by decide +kernel)) rfl
theorem q1774 : Cond.instanceMethod yX9_offOf ∈ lw_g := lw_gm (List.mem_of_getElem? (i := 1774) (by decide +kernel)) rfl
theorem q83 : Cond.selects RX9 yX9_offOf yX9_offOf ∈ lw_g := lw_gm (List.mem_of_getElem? (i := 83) (by decide +kernel)) rfl
theorem dX9_off_0 : decode cX9_off 0 = .ok (.aload_n 0, 1) := by decide +kernel
theorem dX9_off_1 : decode cX9_off 1 = .ok (.iconst 0, 1) := by decide +kernel
theorem dX9_off_2 : decode cX9_off 2 = .ok (.putfield 129, 3) := by decide +kernel
theorem dX9_off_5 : decode cX9_off 5 = .ok (.aload_n 0, 1) := by decide +kernel
theorem dX9_off_6 : decode cX9_off 6 = .ok (.iload_n 1, 1) := by decide +kernel
theorem dX9_off_7 : decode cX9_off 7 = .ok (.iload_n 2, 1) := by decide +kernel
theorem dX9_off_8 : decode cX9_off 8 = .ok (.iload_n 3, 1) := by decide +kernel
theorem dX9_off_9 : decode cX9_off 9 = .ok (.iload 4, 2) := by decide +kernel
theorem dX9_off_11 : decode cX9_off 11 = .ok (.invokevirtual 359, 3) := by decide +kernel
theorem dX9_off_14 : decode cX9_off 14 = .ok (.ifCond .eq 15, 3) := by decide +kernel
theorem dX9_off_17 : decode cX9_off 17 = .ok (.aload_n 0, 1) := by decide +kernel
theorem dX9_off_18 : decode cX9_off 18 = .ok (.iload_n 1, 1) := by decide +kernel
theorem dX9_off_19 : decode cX9_off 19 = .ok (.iload_n 2, 1) := by decide +kernel
theorem dX9_off_20 : decode cX9_off 20 = .ok (.iload_n 3, 1) := by decide +kernel
theorem dX9_off_21 : decode cX9_off 21 = .ok (.iload 4, 2) := by decide +kernel
theorem dX9_off_23 : decode cX9_off 23 = .ok (.invokevirtual 363, 3) := by decide +kernel
theorem dX9_off_26 : decode cX9_off 26 = .ok (.goto 6, 3) := by decide +kernel
theorem dX9_off_29 : decode cX9_off 29 = .ok (.ldc_w 367, 3) := by decide +kernel
theorem dX9_off_32 : decode cX9_off 32 = .ok (.ireturn, 1) := by decide +kernel
set_option maxHeartbeats 4000000 in
set_option maxRecDepth 100000 in
theorem m_X9_off (l : Launch) (D : va_G) (cy : Nat → ClassId) (g : Nat → Nat) (σ : ST) (p1 : Int32) (p2 : Int32) (p3 : Int32) (p4 : Int32) (sz : Nat) (hJ : J9 (σ 9)) (kDK0 : DK0 (σ 9)) : Met l yX9_off (ww yX9_off cX9_off 5 (some .int)) ({ frames := 4, cells := 0, slots := 0, locals := 256 }) (va_Pc [.ref (g 60), .int p1, .int p2, .int p3, .int p4] (pr9 D cy g σ sz)) (qi9 D cy g sz (fun r τ => Fr (fL [0, 23]) σ τ ∧ J9 (τ 9) ∧ True)) 0 0 (A9 cy g sz) := by
  refine Met.ofW (cc := cX9_off) (maxL := 5) (ret := (some .int)) (by decide) rfl ?_
  intro p e s m args below meth c s₁ B hml hv
  obtain ⟨rfl, hsz, hP, hK, hD0, hC⟩ := hv
  have hx := B.exec
  have hb := B.bytes
  have hr := B.returns
  have hts := hts_g (atoms_spec (ws := ww yX9_off cX9_off 5 (some .int)) B.pre)
  have hown : s.vm.findClass RX9 = some m.cls := findClass_of_methodNamed B.named
  have hlocks := B.notSynchronized
  clear B
  subst hsz
  have hD := fun τ => A9_D (sz := s.heap.size) hD0 τ
  clear hD0
  have hS : va_S (A9 cy g s.heap.size) s.heap s.heap [] := va_S.rf
  have hl := lv_entry ([.ref (g 60), .int p1, .int p2, .int p3, .int p4]) (n := 5) (Nat.le_of_ble_eq_true rfl)
  rw [lg_entry_eq]
  generalize (lg_sl ([.ref (g 60), .int p1, .int p2, .int p3, .int p4]) ++ List.replicate (5 - (lg_sl ([.ref (g 60), .int p1, .int p2, .int p3, .int p4])).length) Slot.unset).toArray = ls at hl ⊢
  have hl : lv_has ls 5 [(0, .ref (g 60)), (1, .int p1), (2, .int p2), (3, .int p3), (4, .int p4)] := hl
  refine lv_aload_n hx hb dX9_off_0 rfl (lv_at hl 0 rfl) ?_
  refine lv_iconst (v := 0) hx hb dX9_off_1 (by decide) ?_
  refine p9_0 hx hb hts hown hK hP hD hS (hts _ q1360) dX9_off_2 (fun H locs σ1 eσ1 hP hS => ?_)
  have hJ2 : J9 (σ1 9) := hJ.I eσ1 (show JI9 0 (0 : Int32) from trivial)
  have T3 : DK0 (σ1 9) := DK0.mv kDK0 ((sI_f eσ1) 9 17 rfl).2.2.1 ((sI_f eσ1) 9 18 rfl).2.2.1 ((sI_f eσ1) 9 19 rfl).2.2.1
  refine lv_aload_n hx hb dX9_off_5 rfl (lv_at hl 0 rfl) ?_
  refine lv_iload_n hx hb dX9_off_6 rfl (lv_at hl 1 rfl) ?_
  refine lv_iload_n hx hb dX9_off_7 rfl (lv_at hl 2 rfl) ?_
  refine lv_iload_n hx hb dX9_off_8 rfl (lv_at hl 3 rfl) ?_
  refine lv_iload hx hb dX9_off_9 (lv_at hl 4 rfl) ?_
  refine va_calli (va_runV (As := [.int p1, .int p2, .int p3, .int p4]) (rest := []) ⟨hx, hb, hml, hown, hts⟩ (m_X9_isAsked l D cy g σ1 p1 p2 p3 p4 _ hJ2 ) (cwV 4 hts (gd_V q1759 q1761 q81 q134 q1762) rfl rfl rfl (by decide +kernel) ⟨Nat.le_of_ble_eq_true rfl, Nat.le_of_ble_eq_true rfl⟩) (pv9 hP hK hD hC hS (va_recv hK hP (ci := 9) (q0 := 0) rfl rfl)) rfl rfl hl.1 rfl (lv_room (Nat.le_of_ble_eq_true rfl)) dX9_off_11 ⟨Nat.le_of_ble_eq_true rfl, Nat.le_of_ble_eq_true rfl⟩) hS (fun q _ h => up9 hS q h) (up9 hS) (fun r4 σ5 tS H1 locs ht hvm hw6 hB hz1 hk1 hS => ?_)
  have hP : va_P D clz (WD9 cy g σ5) H1 := by rw [← ht]; exact hB
  clear hB hz1 hk1 hvm ht
  generalize H1 = H at hP hS ⊢
  have hw6E : σ1 = σ5 := (hw6.1).symm
  subst hw6E
  have b7 : (0 : Int) ≤ r4.toInt ∧ r4.toInt ≤ 1 := hw6.2.1
  have b8 : (r4.toInt = 0) ∨ ((0 : Int) ≤ p1.toInt ∧ p1.toInt ≤ 3 ∧ (2 : Int) ≤ p3.toInt ∧ p3.toInt ≤ 12 ∧ (0 : Int) ≤ p4.toInt ∧ p4.toInt ≤ 7) := hw6.2.2.1
  have b9 : (r4.toInt = 0) ∨ (p1.toInt < ((σ1 9).2.2.1 17 2).toInt) := hw6.2.2.2.1
  refine lv_if_eq (tgt := 29) hx hb dX9_off_14 (by decide) (fun c10 => ?_) (fun c10 => ?_)
  ·
    have k11 := peq32 c10
    refine lv_ldcw (v := (-100000)) hx hb hown (hts _ q1781) dX9_off_29 ?_
    exact W.iret (v := (-100000)) hx hb hr (fun tS ht hW => ⟨⟨(-100000), σ1, rfl, ⟨Fr.tr (Fr.rf) (sI_f eσ1) (fN_L rfl), hJ2, trivial⟩, (show va_P D clz (WD9 cy g σ1) tS.heap by rw [ht]; exact hP)⟩, hS.F ht⟩) hS.2.2 dX9_off_32
  ·
    have k12 := neq32 c10
    refine lv_aload_n hx hb dX9_off_17 rfl (lv_at hl 0 rfl) ?_
    refine lv_iload_n hx hb dX9_off_18 rfl (lv_at hl 1 rfl) ?_
    refine lv_iload_n hx hb dX9_off_19 rfl (lv_at hl 2 rfl) ?_
    refine lv_iload_n hx hb dX9_off_20 rfl (lv_at hl 3 rfl) ?_
    refine lv_iload hx hb dX9_off_21 (lv_at hl 4 rfl) ?_
    refine va_calli (va_runV (As := [.int p1, .int p2, .int p3, .int p4]) (rest := []) ⟨hx, hb, hml, hown, hts⟩ (m_X9_offOf l D cy g σ1 p1 p2 p3 p4 _ hJ2 (show (0 : Int) ≤ p1.toInt ∧ p1.toInt ≤ 3 from (by have f0 := b8; have f1 := b9; have f2 := a9_17 hJ2 (j := 2) rfl; have f3 := congrArg Int32.toInt (show ((σ1 9).2.2.1 17 2) = ((σ 9).2.2.1 17 2) from congrFun (((sI_f eσ1) 9 17 rfl).2.2.1) _); have f4 := b7; have f5 := k12; have f6 := a9_17 hJ (j := 2) rfl; have g2 := rg32 p1; have z0 : (0 : Int32).toInt = 0 := (by decide); omega)) (show (0 : Int) ≤ p3.toInt ∧ p3.toInt ≤ 12 from (by have f0 := b8; have f1 := b9; have f2 := a9_17 hJ2 (j := 2) rfl; have f3 := congrArg Int32.toInt (show ((σ1 9).2.2.1 17 2) = ((σ 9).2.2.1 17 2) from congrFun (((sI_f eσ1) 9 17 rfl).2.2.1) _); have f4 := b7; have f5 := k12; have f6 := a9_17 hJ (j := 2) rfl; have g2 := rg32 p1; have g3 := rg32 p3; have z0 : (0 : Int32).toInt = 0 := (by decide); omega)) (show (0 : Int) ≤ p4.toInt ∧ p4.toInt ≤ 7 from (by have f0 := b8; have f1 := b9; have f2 := a9_17 hJ2 (j := 2) rfl; have f3 := congrArg Int32.toInt (show ((σ1 9).2.2.1 17 2) = ((σ 9).2.2.1 17 2) from congrFun (((sI_f eσ1) 9 17 rfl).2.2.1) _); have f4 := b7; have f5 := k12; have f6 := a9_17 hJ (j := 2) rfl; have g2 := rg32 p1; have g3 := rg32 p3; have g4 := rg32 p4; have z0 : (0 : Int32).toInt = 0 := (by decide); omega)) (show 100 ≤ ((σ1 9).2.2.1 18 (7 * p1.toInt.toNat + 2)).toInt from (T3.1 _ (by have f0 := a9_17 hJ2 (j := 2) rfl; have f1 := congrArg Int32.toInt (show ((σ1 9).2.2.1 17 2) = ((σ 9).2.2.1 17 2) from congrFun (((sI_f eσ1) 9 17 rfl).2.2.1) _); have f2 := b8; have f3 := b9; have f4 := a9_17 hJ (j := 2) rfl; have f5 := b7; have f6 := k12; have g2 := rg32 p1; have z0 : (0 : Int32).toInt = 0 := (by decide); omega)))) (cwV 4 hts (gd_V q1772 q1774 q83 q134 q1775) rfl rfl rfl (by decide +kernel) ⟨Nat.le_of_ble_eq_true rfl, Nat.le_of_ble_eq_true rfl⟩) (pv9 hP hK hD hC hS (va_recv hK hP (ci := 9) (q0 := 0) rfl rfl)) rfl rfl hl.1 rfl (lv_room (Nat.le_of_ble_eq_true rfl)) dX9_off_23 ⟨Nat.le_of_ble_eq_true rfl, Nat.le_of_ble_eq_true rfl⟩) hS (fun q _ h => up9 hS q h) (up9 hS) (fun r13 σ14 tS H1 locs ht hvm hw15 hB hz1 hk1 hS => ?_)
    have hP : va_P D clz (WD9 cy g σ14) H1 := by rw [← ht]; exact hB
    clear hB hz1 hk1 hvm ht
    generalize H1 = H at hP hS ⊢
    have hF16 : Fr (fL [23]) σ1 σ14 := hw15.1
    have hJ17 : J9 (σ14 9) := hw15.2.1
    have T18 : DK0 (σ14 9) := DK0.mv T3 (hF16 9 17 rfl).2.2.1 (hF16 9 18 rfl).2.2.1 (hF16 9 19 rfl).2.2.1
    refine lv_goto (tgt := 32) hx hb dX9_off_26 (by decide) ?_
    exact W.iret (v := r13) hx hb hr (fun tS ht hW => ⟨⟨r13, σ14, rfl, ⟨Fr.tr (Fr.tr (Fr.rf) (sI_f eσ1) (fN_L rfl)) hF16 (fL_sub rfl), hJ17, trivial⟩, (show va_P D clz (WD9 cy g σ14) tS.heap by rw [ht]; exact hP)⟩, hS.F ht⟩) hS.2.2 dX9_off_32

theorem q1785 : Cond.code yX9_drawnOut cX9_drawnOut 5 (some .int) ∈ lw_g := lw_gm (List.mem_of_getElem? (i := 1785) (by decide +kernel)) rfl
theorem dX9_drawnOut_0 : decode cX9_drawnOut 0 = .ok (.aload_n 0, 1) := by decide +kernel
theorem dX9_drawnOut_1 : decode cX9_drawnOut 1 = .ok (.iconst 0, 1) := by decide +kernel
theorem dX9_drawnOut_2 : decode cX9_drawnOut 2 = .ok (.putfield 129, 3) := by decide +kernel
theorem dX9_drawnOut_5 : decode cX9_drawnOut 5 = .ok (.aload_n 0, 1) := by decide +kernel
theorem dX9_drawnOut_6 : decode cX9_drawnOut 6 = .ok (.iload_n 1, 1) := by decide +kernel
theorem dX9_drawnOut_7 : decode cX9_drawnOut 7 = .ok (.iload_n 2, 1) := by decide +kernel
theorem dX9_drawnOut_8 : decode cX9_drawnOut 8 = .ok (.iload_n 3, 1) := by decide +kernel
theorem dX9_drawnOut_9 : decode cX9_drawnOut 9 = .ok (.iload 4, 2) := by decide +kernel
theorem dX9_drawnOut_11 : decode cX9_drawnOut 11 = .ok (.invokevirtual 359, 3) := by decide +kernel
theorem dX9_drawnOut_14 : decode cX9_drawnOut 14 = .ok (.ifCond .ne 6, 3) := by decide +kernel
theorem dX9_drawnOut_17 : decode cX9_drawnOut 17 = .ok (.bipush (-2), 2) := by decide +kernel
theorem dX9_drawnOut_19 : decode cX9_drawnOut 19 = .ok (.ireturn, 1) := by decide +kernel
theorem dX9_drawnOut_20 : decode cX9_drawnOut 20 = .ok (.aload_n 0, 1) := by decide +kernel
theorem dX9_drawnOut_21 : decode cX9_drawnOut 21 = .ok (.iload_n 1, 1) := by decide +kernel
theorem dX9_drawnOut_22 : decode cX9_drawnOut 22 = .ok (.iload_n 2, 1) := by decide +kernel
theorem dX9_drawnOut_23 : decode cX9_drawnOut 23 = .ok (.iload_n 3, 1) := by decide +kernel
theorem dX9_drawnOut_24 : decode cX9_drawnOut 24 = .ok (.iload 4, 2) := by decide +kernel
theorem dX9_drawnOut_26 : decode cX9_drawnOut 26 = .ok (.invokevirtual 363, 3) := by decide +kernel
theorem dX9_drawnOut_29 : decode cX9_drawnOut 29 = .ok (.pop, 1) := by decide +kernel
theorem dX9_drawnOut_30 : decode cX9_drawnOut 30 = .ok (.aload_n 0, 1) := by decide +kernel
theorem dX9_drawnOut_31 : decode cX9_drawnOut 31 = .ok (.getfield 345, 3) := by decide +kernel
theorem dX9_drawnOut_34 : decode cX9_drawnOut 34 = .ok (.ireturn, 1) := by decide +kernel
set_option maxHeartbeats 4000000 in
set_option maxRecDepth 100000 in
theorem m_X9_drawnOut (l : Launch) (D : va_G) (cy : Nat → ClassId) (g : Nat → Nat) (σ : ST) (p1 : Int32) (p2 : Int32) (p3 : Int32) (p4 : Int32) (sz : Nat) (hJ : J9 (σ 9)) (kDK0 : DK0 (σ 9)) : Met l yX9_drawnOut (ww yX9_drawnOut cX9_drawnOut 5 (some .int)) ({ frames := 4, cells := 0, slots := 0, locals := 256 }) (va_Pc [.ref (g 60), .int p1, .int p2, .int p3, .int p4] (pr9 D cy g σ sz)) (qi9 D cy g sz (fun r τ => Fr (fL [0, 23]) σ τ ∧ J9 (τ 9) ∧ True)) 0 0 (A9 cy g sz) := by
  refine Met.ofW (cc := cX9_drawnOut) (maxL := 5) (ret := (some .int)) (by decide) rfl ?_
  intro p e s m args below meth c s₁ B hml hv
  obtain ⟨rfl, hsz, hP, hK, hD0, hC⟩ := hv
  have hx := B.exec
  have hb := B.bytes
  have hr := B.returns
  have hts := hts_g (atoms_spec (ws := ww yX9_drawnOut cX9_drawnOut 5 (some .int)) B.pre)
  have hown : s.vm.findClass RX9 = some m.cls := findClass_of_methodNamed B.named
  have hlocks := B.notSynchronized
  clear B
  subst hsz
  have hD := fun τ => A9_D (sz := s.heap.size) hD0 τ
  clear hD0
  have hS : va_S (A9 cy g s.heap.size) s.heap s.heap [] := va_S.rf
  have hl := lv_entry ([.ref (g 60), .int p1, .int p2, .int p3, .int p4]) (n := 5) (Nat.le_of_ble_eq_true rfl)
  rw [lg_entry_eq]
  generalize (lg_sl ([.ref (g 60), .int p1, .int p2, .int p3, .int p4]) ++ List.replicate (5 - (lg_sl ([.ref (g 60), .int p1, .int p2, .int p3, .int p4])).length) Slot.unset).toArray = ls at hl ⊢
  have hl : lv_has ls 5 [(0, .ref (g 60)), (1, .int p1), (2, .int p2), (3, .int p3), (4, .int p4)] := hl
  refine lv_aload_n hx hb dX9_drawnOut_0 rfl (lv_at hl 0 rfl) ?_
  refine lv_iconst (v := 0) hx hb dX9_drawnOut_1 (by decide) ?_
  refine p9_0 hx hb hts hown hK hP hD hS (hts _ q1360) dX9_drawnOut_2 (fun H locs σ1 eσ1 hP hS => ?_)
  have hJ2 : J9 (σ1 9) := hJ.I eσ1 (show JI9 0 (0 : Int32) from trivial)
  have T3 : DK0 (σ1 9) := DK0.mv kDK0 ((sI_f eσ1) 9 17 rfl).2.2.1 ((sI_f eσ1) 9 18 rfl).2.2.1 ((sI_f eσ1) 9 19 rfl).2.2.1
  refine lv_aload_n hx hb dX9_drawnOut_5 rfl (lv_at hl 0 rfl) ?_
  refine lv_iload_n hx hb dX9_drawnOut_6 rfl (lv_at hl 1 rfl) ?_
  refine lv_iload_n hx hb dX9_drawnOut_7 rfl (lv_at hl 2 rfl) ?_
  refine lv_iload_n hx hb dX9_drawnOut_8 rfl (lv_at hl 3 rfl) ?_
  refine lv_iload hx hb dX9_drawnOut_9 (lv_at hl 4 rfl) ?_
  refine va_calli (va_runV (As := [.int p1, .int p2, .int p3, .int p4]) (rest := []) ⟨hx, hb, hml, hown, hts⟩ (m_X9_isAsked l D cy g σ1 p1 p2 p3 p4 _ hJ2 ) (cwV 4 hts (gd_V q1759 q1761 q81 q134 q1762) rfl rfl rfl (by decide +kernel) ⟨Nat.le_of_ble_eq_true rfl, Nat.le_of_ble_eq_true rfl⟩) (pv9 hP hK hD hC hS (va_recv hK hP (ci := 9) (q0 := 0) rfl rfl)) rfl rfl hl.1 rfl (lv_room (Nat.le_of_ble_eq_true rfl)) dX9_drawnOut_11 ⟨Nat.le_of_ble_eq_true rfl, Nat.le_of_ble_eq_true rfl⟩) hS (fun q _ h => up9 hS q h) (up9 hS) (fun r4 σ5 tS H1 locs ht hvm hw6 hB hz1 hk1 hS => ?_)
  have hP : va_P D clz (WD9 cy g σ5) H1 := by rw [← ht]; exact hB
  clear hB hz1 hk1 hvm ht
  generalize H1 = H at hP hS ⊢
  have hw6E : σ1 = σ5 := (hw6.1).symm
  subst hw6E
  have b7 : (0 : Int) ≤ r4.toInt ∧ r4.toInt ≤ 1 := hw6.2.1
  have b8 : (r4.toInt = 0) ∨ ((0 : Int) ≤ p1.toInt ∧ p1.toInt ≤ 3 ∧ (2 : Int) ≤ p3.toInt ∧ p3.toInt ≤ 12 ∧ (0 : Int) ≤ p4.toInt ∧ p4.toInt ≤ 7) := hw6.2.2.1
  have b9 : (r4.toInt = 0) ∨ (p1.toInt < ((σ1 9).2.2.1 17 2).toInt) := hw6.2.2.2.1
  refine lv_if_ne (tgt := 20) hx hb dX9_drawnOut_14 (by decide) (fun c10 => ?_) (fun c10 => ?_)
  ·
    have k11 := neq32 c10
    refine lv_aload_n hx hb dX9_drawnOut_20 rfl (lv_at hl 0 rfl) ?_
    refine lv_iload_n hx hb dX9_drawnOut_21 rfl (lv_at hl 1 rfl) ?_
    refine lv_iload_n hx hb dX9_drawnOut_22 rfl (lv_at hl 2 rfl) ?_
    refine lv_iload_n hx hb dX9_drawnOut_23 rfl (lv_at hl 3 rfl) ?_
    refine lv_iload hx hb dX9_drawnOut_24 (lv_at hl 4 rfl) ?_
    refine va_calli (va_runV (As := [.int p1, .int p2, .int p3, .int p4]) (rest := []) ⟨hx, hb, hml, hown, hts⟩ (m_X9_offOf l D cy g σ1 p1 p2 p3 p4 _ hJ2 (show (0 : Int) ≤ p1.toInt ∧ p1.toInt ≤ 3 from (by have f0 := b8; have f1 := b9; have f2 := a9_17 hJ2 (j := 2) rfl; have f3 := congrArg Int32.toInt (show ((σ1 9).2.2.1 17 2) = ((σ 9).2.2.1 17 2) from congrFun (((sI_f eσ1) 9 17 rfl).2.2.1) _); have f4 := b7; have f5 := k11; have f6 := a9_17 hJ (j := 2) rfl; have g2 := rg32 p1; have z0 : (0 : Int32).toInt = 0 := (by decide); omega)) (show (0 : Int) ≤ p3.toInt ∧ p3.toInt ≤ 12 from (by have f0 := b8; have f1 := b9; have f2 := a9_17 hJ2 (j := 2) rfl; have f3 := congrArg Int32.toInt (show ((σ1 9).2.2.1 17 2) = ((σ 9).2.2.1 17 2) from congrFun (((sI_f eσ1) 9 17 rfl).2.2.1) _); have f4 := b7; have f5 := k11; have f6 := a9_17 hJ (j := 2) rfl; have g2 := rg32 p1; have g3 := rg32 p3; have z0 : (0 : Int32).toInt = 0 := (by decide); omega)) (show (0 : Int) ≤ p4.toInt ∧ p4.toInt ≤ 7 from (by have f0 := b8; have f1 := b9; have f2 := a9_17 hJ2 (j := 2) rfl; have f3 := congrArg Int32.toInt (show ((σ1 9).2.2.1 17 2) = ((σ 9).2.2.1 17 2) from congrFun (((sI_f eσ1) 9 17 rfl).2.2.1) _); have f4 := b7; have f5 := k11; have f6 := a9_17 hJ (j := 2) rfl; have g2 := rg32 p1; have g3 := rg32 p3; have g4 := rg32 p4; have z0 : (0 : Int32).toInt = 0 := (by decide); omega)) (show 100 ≤ ((σ1 9).2.2.1 18 (7 * p1.toInt.toNat + 2)).toInt from (T3.1 _ (by have f0 := a9_17 hJ2 (j := 2) rfl; have f1 := congrArg Int32.toInt (show ((σ1 9).2.2.1 17 2) = ((σ 9).2.2.1 17 2) from congrFun (((sI_f eσ1) 9 17 rfl).2.2.1) _); have f2 := b8; have f3 := b9; have f4 := a9_17 hJ (j := 2) rfl; have f5 := b7; have f6 := k11; have g2 := rg32 p1; have z0 : (0 : Int32).toInt = 0 := (by decide); omega)))) (cwV 4 hts (gd_V q1772 q1774 q83 q134 q1775) rfl rfl rfl (by decide +kernel) ⟨Nat.le_of_ble_eq_true rfl, Nat.le_of_ble_eq_true rfl⟩) (pv9 hP hK hD hC hS (va_recv hK hP (ci := 9) (q0 := 0) rfl rfl)) rfl rfl hl.1 rfl (lv_room (Nat.le_of_ble_eq_true rfl)) dX9_drawnOut_26 ⟨Nat.le_of_ble_eq_true rfl, Nat.le_of_ble_eq_true rfl⟩) hS (fun q _ h => up9 hS q h) (up9 hS) (fun r12 σ13 tS H1 locs ht hvm hw14 hB hz1 hk1 hS => ?_)
    have hP : va_P D clz (WD9 cy g σ13) H1 := by rw [← ht]; exact hB
    clear hB hz1 hk1 hvm ht
    generalize H1 = H at hP hS ⊢
    have hF15 : Fr (fL [23]) σ1 σ13 := hw14.1
    have hJ16 : J9 (σ13 9) := hw14.2.1
    have T17 : DK0 (σ13 9) := DK0.mv T3 (hF15 9 17 rfl).2.2.1 (hF15 9 18 rfl).2.2.1 (hF15 9 19 rfl).2.2.1
    refine lv_pop hx hb dX9_drawnOut_29 rfl ?_
    refine lv_aload_n hx hb dX9_drawnOut_30 rfl (lv_at hl 0 rfl) ?_
    refine g9_23 (x := ((σ13 9).1 23)) hx hb hts hown hK hP (rfl) (hts _ q1383) dX9_drawnOut_31 ?_
    exact W.iret (v := ((σ13 9).1 23)) hx hb hr (fun tS ht hW => ⟨⟨((σ13 9).1 23), σ13, rfl, ⟨Fr.tr (Fr.tr (Fr.rf) (sI_f eσ1) (fN_L rfl)) hF15 (fL_sub rfl), hJ16, trivial⟩, (show va_P D clz (WD9 cy g σ13) tS.heap by rw [ht]; exact hP)⟩, hS.F ht⟩) hS.2.2 dX9_drawnOut_34
  ·
    have k18 := peq32 c10
    refine lv_bipush (v := (-2)) hx hb dX9_drawnOut_17 (by decide) ?_
    exact W.iret (v := (-2)) hx hb hr (fun tS ht hW => ⟨⟨(-2), σ1, rfl, ⟨Fr.tr (Fr.rf) (sI_f eσ1) (fN_L rfl), hJ2, trivial⟩, (show va_P D clz (WD9 cy g σ1) tS.heap by rw [ht]; exact hP)⟩, hS.F ht⟩) hS.2.2 dX9_drawnOut_19

theorem q1789 : Cond.code yX9_move cX9_move 4 (some .int) ∈ lw_g := lw_gm (List.mem_of_getElem? (i := 1789) (by decide +kernel)) rfl
theorem dX9_move_0 : decode cX9_move 0 = .ok (.aload_n 0, 1) := by decide +kernel
theorem dX9_move_1 : decode cX9_move 1 = .ok (.iconst 0, 1) := by decide +kernel
theorem dX9_move_2 : decode cX9_move 2 = .ok (.putfield 129, 3) := by decide +kernel
theorem dX9_move_5 : decode cX9_move 5 = .ok (.aload_n 0, 1) := by decide +kernel
theorem dX9_move_6 : decode cX9_move 6 = .ok (.iload_n 1, 1) := by decide +kernel
theorem dX9_move_7 : decode cX9_move 7 = .ok (.invokevirtual 312, 3) := by decide +kernel
theorem dX9_move_10 : decode cX9_move 10 = .ok (.ifCond .eq 33, 3) := by decide +kernel
theorem dX9_move_13 : decode cX9_move 13 = .ok (.aload_n 0, 1) := by decide +kernel
theorem dX9_move_14 : decode cX9_move 14 = .ok (.iload_n 1, 1) := by decide +kernel
theorem dX9_move_15 : decode cX9_move 15 = .ok (.iload_n 2, 1) := by decide +kernel
theorem dX9_move_16 : decode cX9_move 16 = .ok (.i2l, 1) := by decide +kernel
theorem dX9_move_17 : decode cX9_move 17 = .ok (.invokevirtual 332, 3) := by decide +kernel
theorem dX9_move_20 : decode cX9_move 20 = .ok (.ifCond .eq 23, 3) := by decide +kernel
theorem dX9_move_23 : decode cX9_move 23 = .ok (.aload_n 0, 1) := by decide +kernel
theorem dX9_move_24 : decode cX9_move 24 = .ok (.iload_n 1, 1) := by decide +kernel
theorem dX9_move_25 : decode cX9_move 25 = .ok (.iload_n 3, 1) := by decide +kernel
theorem dX9_move_26 : decode cX9_move 26 = .ok (.i2l, 1) := by decide +kernel
theorem dX9_move_27 : decode cX9_move 27 = .ok (.invokevirtual 332, 3) := by decide +kernel
theorem dX9_move_30 : decode cX9_move 30 = .ok (.ifCond .eq 13, 3) := by decide +kernel
theorem dX9_move_33 : decode cX9_move 33 = .ok (.aload_n 0, 1) := by decide +kernel
theorem dX9_move_34 : decode cX9_move 34 = .ok (.iload_n 1, 1) := by decide +kernel
theorem dX9_move_35 : decode cX9_move 35 = .ok (.iload_n 2, 1) := by decide +kernel
theorem dX9_move_36 : decode cX9_move 36 = .ok (.iload_n 3, 1) := by decide +kernel
theorem dX9_move_37 : decode cX9_move 37 = .ok (.invokevirtual 368, 3) := by decide +kernel
theorem dX9_move_40 : decode cX9_move 40 = .ok (.goto 5, 3) := by decide +kernel
theorem dX9_move_43 : decode cX9_move 43 = .ok (.bipush (-2), 2) := by decide +kernel
theorem dX9_move_45 : decode cX9_move 45 = .ok (.ireturn, 1) := by decide +kernel
set_option maxHeartbeats 4000000 in
set_option maxRecDepth 100000 in
theorem m_X9_move (l : Launch) (D : va_G) (cy : Nat → ClassId) (g : Nat → Nat) (σ : ST) (p1 : Int32) (p2 : Int32) (p3 : Int32) (sz : Nat) (hJ : J9 (σ 9))  : Met l yX9_move (ww yX9_move cX9_move 4 (some .int)) ({ frames := 3, cells := 0, slots := 0, locals := 192 }) (va_Pc [.ref (g 60), .int p1, .int p2, .int p3] (pr9 D cy g σ sz)) (qi9 D cy g sz (fun r τ => Fr (fL [0]) σ τ ∧ J9 (τ 9) ∧ True)) 0 0 (A9 cy g sz) := by
  refine Met.ofW (cc := cX9_move) (maxL := 4) (ret := (some .int)) (by decide) rfl ?_
  intro p e s m args below meth c s₁ B hml hv
  obtain ⟨rfl, hsz, hP, hK, hD0, hC⟩ := hv
  have hx := B.exec
  have hb := B.bytes
  have hr := B.returns
  have hts := hts_g (atoms_spec (ws := ww yX9_move cX9_move 4 (some .int)) B.pre)
  have hown : s.vm.findClass RX9 = some m.cls := findClass_of_methodNamed B.named
  have hlocks := B.notSynchronized
  clear B
  subst hsz
  have hD := fun τ => A9_D (sz := s.heap.size) hD0 τ
  clear hD0
  have hS : va_S (A9 cy g s.heap.size) s.heap s.heap [] := va_S.rf
  have hl := lv_entry ([.ref (g 60), .int p1, .int p2, .int p3]) (n := 4) (Nat.le_of_ble_eq_true rfl)
  rw [lg_entry_eq]
  generalize (lg_sl ([.ref (g 60), .int p1, .int p2, .int p3]) ++ List.replicate (4 - (lg_sl ([.ref (g 60), .int p1, .int p2, .int p3])).length) Slot.unset).toArray = ls at hl ⊢
  have hl : lv_has ls 4 [(0, .ref (g 60)), (1, .int p1), (2, .int p2), (3, .int p3)] := hl
  refine lv_aload_n hx hb dX9_move_0 rfl (lv_at hl 0 rfl) ?_
  refine lv_iconst (v := 0) hx hb dX9_move_1 (by decide) ?_
  refine p9_0 hx hb hts hown hK hP hD hS (hts _ q1360) dX9_move_2 (fun H locs σ1 eσ1 hP hS => ?_)
  have hJ2 : J9 (σ1 9) := hJ.I eσ1 (show JI9 0 (0 : Int32) from trivial)
  refine lv_aload_n hx hb dX9_move_5 rfl (lv_at hl 0 rfl) ?_
  refine lv_iload_n hx hb dX9_move_6 rfl (lv_at hl 1 rfl) ?_
  refine va_calli (va_runV (As := [.int p1]) (rest := []) ⟨hx, hb, hml, hown, hts⟩ (m_X9_isBrass l D cy g σ1 p1 _ hJ2 ) (cwV 1 hts (gd_V q1701 q1703 q71 q134 q1704) rfl rfl rfl (by decide +kernel) ⟨Nat.le_of_ble_eq_true rfl, Nat.le_of_ble_eq_true rfl⟩) (pv9 hP hK hD hC hS (va_recv hK hP (ci := 9) (q0 := 0) rfl rfl)) rfl rfl hl.1 rfl (lv_room (Nat.le_of_ble_eq_true rfl)) dX9_move_7 ⟨Nat.le_of_ble_eq_true rfl, Nat.le_of_ble_eq_true rfl⟩) hS (fun q _ h => up9 hS q h) (up9 hS) (fun r3 σ4 tS H1 locs ht hvm hw5 hB hz1 hk1 hS => ?_)
  have hP : va_P D clz (WD9 cy g σ4) H1 := by rw [← ht]; exact hB
  clear hB hz1 hk1 hvm ht
  generalize H1 = H at hP hS ⊢
  have hw5E : σ1 = σ4 := (hw5.1).symm
  subst hw5E
  have b6 : (0 : Int) ≤ r3.toInt ∧ r3.toInt ≤ 1 := hw5.2.1
  have b7 : (r3.toInt = 0) ∨ ((0 : Int) ≤ p1.toInt ∧ p1.toInt ≤ 3) := hw5.2.2.1
  have b8 : (r3.toInt = 0) ∨ (0 ≤ p1.toInt ∧ p1.toInt < ((σ1 9).2.2.1 17 2).toInt) := hw5.2.2.2.1
  refine lv_if_eq (tgt := 43) hx hb dX9_move_10 (by decide) (fun c9 => ?_) (fun c9 => ?_)
  ·
    have k10 := peq32 c9
    refine lv_bipush (v := (-2)) hx hb dX9_move_43 (by decide) ?_
    exact W.iret (v := (-2)) hx hb hr (fun tS ht hW => ⟨⟨(-2), σ1, rfl, ⟨Fr.tr (Fr.rf) (sI_f eσ1) (fN_L rfl), hJ2, trivial⟩, (show va_P D clz (WD9 cy g σ1) tS.heap by rw [ht]; exact hP)⟩, hS.F ht⟩) hS.2.2 dX9_move_45
  ·
    have k11 := neq32 c9
    refine lv_aload_n hx hb dX9_move_13 rfl (lv_at hl 0 rfl) ?_
    refine lv_iload_n hx hb dX9_move_14 rfl (lv_at hl 1 rfl) ?_
    refine lv_iload_n hx hb dX9_move_15 rfl (lv_at hl 2 rfl) ?_
    refine lv_i2l (v := p2.toInt64) hx hb dX9_move_16 rfl ?_
    refine va_calli (va_runV (As := [.int p1, .long p2.toInt64]) (rest := []) ⟨hx, hb, hml, hown, hts⟩ (m_X9_isSetting l D cy g σ1 p1 p2.toInt64 _ hJ2 (show (0 : Int) ≤ p1.toInt ∧ p1.toInt ≤ 3 from (by have f0 := b7; have f1 := b8; have f2 := a9_17 hJ2 (j := 2) rfl; have f3 := congrArg Int32.toInt (show ((σ1 9).2.2.1 17 2) = ((σ 9).2.2.1 17 2) from congrFun (((sI_f eσ1) 9 17 rfl).2.2.1) _); have f4 := b6; have f5 := k11; have f6 := a9_17 hJ (j := 2) rfl; have g2 := rg32 p1; have z0 : (0 : Int32).toInt = 0 := (by decide); omega))) (cwV 2 hts (gd_V q1739 q1741 q77 q134 q1742) rfl rfl rfl (by decide +kernel) ⟨Nat.le_of_ble_eq_true rfl, Nat.le_of_ble_eq_true rfl⟩) (pv9 hP hK hD hC hS (va_recv hK hP (ci := 9) (q0 := 0) rfl rfl)) rfl rfl hl.1 rfl (lv_room (Nat.le_of_ble_eq_true rfl)) dX9_move_17 ⟨Nat.le_of_ble_eq_true rfl, Nat.le_of_ble_eq_true rfl⟩) hS (fun q _ h => up9 hS q h) (up9 hS) (fun r12 σ13 tS H1 locs ht hvm hw14 hB hz1 hk1 hS => ?_)
    have hP : va_P D clz (WD9 cy g σ13) H1 := by rw [← ht]; exact hB
    clear hB hz1 hk1 hvm ht
    generalize H1 = H at hP hS ⊢
    have hw14E : σ1 = σ13 := (hw14.1).symm
    subst hw14E
    have b15 : (0 : Int) ≤ r12.toInt ∧ r12.toInt ≤ 1 := hw14.2.1
    have b16 : (r12.toInt = 0) ∨ (0 ≤ p2.toInt64.toInt ∧ p2.toInt64.toInt ≤ 7) := hw14.2.2.1
    refine lv_if_eq (tgt := 43) hx hb dX9_move_20 (by decide) (fun c17 => ?_) (fun c17 => ?_)
    ·
      have k18 := peq32 c17
      refine lv_bipush (v := (-2)) hx hb dX9_move_43 (by decide) ?_
      exact W.iret (v := (-2)) hx hb hr (fun tS ht hW => ⟨⟨(-2), σ1, rfl, ⟨Fr.tr (Fr.rf) (sI_f eσ1) (fN_L rfl), hJ2, trivial⟩, (show va_P D clz (WD9 cy g σ1) tS.heap by rw [ht]; exact hP)⟩, hS.F ht⟩) hS.2.2 dX9_move_45
    ·
      have k19 := neq32 c17
      refine lv_aload_n hx hb dX9_move_23 rfl (lv_at hl 0 rfl) ?_
      refine lv_iload_n hx hb dX9_move_24 rfl (lv_at hl 1 rfl) ?_
      refine lv_iload_n hx hb dX9_move_25 rfl (lv_at hl 3 rfl) ?_
      refine lv_i2l (v := p3.toInt64) hx hb dX9_move_26 rfl ?_
      refine va_calli (va_runV (As := [.int p1, .long p3.toInt64]) (rest := []) ⟨hx, hb, hml, hown, hts⟩ (m_X9_isSetting l D cy g σ1 p1 p3.toInt64 _ hJ2 (show (0 : Int) ≤ p1.toInt ∧ p1.toInt ≤ 3 from (by have f0 := b7; have f1 := b8; have f2 := a9_17 hJ2 (j := 2) rfl; have f3 := congrArg Int32.toInt (show ((σ1 9).2.2.1 17 2) = ((σ 9).2.2.1 17 2) from congrFun (((sI_f eσ1) 9 17 rfl).2.2.1) _); have f4 := b6; have f5 := k11; have f6 := a9_17 hJ (j := 2) rfl; have g2 := rg32 p1; have z0 : (0 : Int32).toInt = 0 := (by decide); omega))) (cwV 2 hts (gd_V q1739 q1741 q77 q134 q1742) rfl rfl rfl (by decide +kernel) ⟨Nat.le_of_ble_eq_true rfl, Nat.le_of_ble_eq_true rfl⟩) (pv9 hP hK hD hC hS (va_recv hK hP (ci := 9) (q0 := 0) rfl rfl)) rfl rfl hl.1 rfl (lv_room (Nat.le_of_ble_eq_true rfl)) dX9_move_27 ⟨Nat.le_of_ble_eq_true rfl, Nat.le_of_ble_eq_true rfl⟩) hS (fun q _ h => up9 hS q h) (up9 hS) (fun r20 σ21 tS H1 locs ht hvm hw22 hB hz1 hk1 hS => ?_)
      have hP : va_P D clz (WD9 cy g σ21) H1 := by rw [← ht]; exact hB
      clear hB hz1 hk1 hvm ht
      generalize H1 = H at hP hS ⊢
      have hw22E : σ1 = σ21 := (hw22.1).symm
      subst hw22E
      have b23 : (0 : Int) ≤ r20.toInt ∧ r20.toInt ≤ 1 := hw22.2.1
      have b24 : (r20.toInt = 0) ∨ (0 ≤ p3.toInt64.toInt ∧ p3.toInt64.toInt ≤ 7) := hw22.2.2.1
      refine lv_if_eq (tgt := 43) hx hb dX9_move_30 (by decide) (fun c25 => ?_) (fun c25 => ?_)
      ·
        have k26 := peq32 c25
        refine lv_bipush (v := (-2)) hx hb dX9_move_43 (by decide) ?_
        exact W.iret (v := (-2)) hx hb hr (fun tS ht hW => ⟨⟨(-2), σ1, rfl, ⟨Fr.tr (Fr.rf) (sI_f eσ1) (fN_L rfl), hJ2, trivial⟩, (show va_P D clz (WD9 cy g σ1) tS.heap by rw [ht]; exact hP)⟩, hS.F ht⟩) hS.2.2 dX9_move_45
      ·
        have k27 := neq32 c25
        refine lv_aload_n hx hb dX9_move_33 rfl (lv_at hl 0 rfl) ?_
        refine lv_iload_n hx hb dX9_move_34 rfl (lv_at hl 1 rfl) ?_
        refine lv_iload_n hx hb dX9_move_35 rfl (lv_at hl 2 rfl) ?_
        refine lv_iload_n hx hb dX9_move_36 rfl (lv_at hl 3 rfl) ?_
        refine va_calli (va_runV (As := [.int p1, .int p2, .int p3]) (rest := []) ⟨hx, hb, hml, hown, hts⟩ (m_X9_moveOf l D cy g σ1 p1 p2 p3 _ hJ2 (show (0 : Int) ≤ p1.toInt ∧ p1.toInt ≤ 3 from (by have f0 := b7; have f1 := b8; have f2 := a9_17 hJ2 (j := 2) rfl; have f3 := congrArg Int32.toInt (show ((σ1 9).2.2.1 17 2) = ((σ 9).2.2.1 17 2) from congrFun (((sI_f eσ1) 9 17 rfl).2.2.1) _); have f4 := b6; have f5 := k11; have f6 := a9_17 hJ (j := 2) rfl; have g2 := rg32 p1; have z0 : (0 : Int32).toInt = 0 := (by decide); omega))) (cwV 3 hts (gd_V q1790 q1792 q84 q134 q1793) rfl rfl rfl (by decide +kernel) ⟨Nat.le_of_ble_eq_true rfl, Nat.le_of_ble_eq_true rfl⟩) (pv9 hP hK hD hC hS (va_recv hK hP (ci := 9) (q0 := 0) rfl rfl)) rfl rfl hl.1 rfl (lv_room (Nat.le_of_ble_eq_true rfl)) dX9_move_37 ⟨Nat.le_of_ble_eq_true rfl, Nat.le_of_ble_eq_true rfl⟩) hS (fun q _ h => up9 hS q h) (up9 hS) (fun r28 σ29 tS H1 locs ht hvm hw30 hB hz1 hk1 hS => ?_)
        have hP : va_P D clz (WD9 cy g σ29) H1 := by rw [← ht]; exact hB
        clear hB hz1 hk1 hvm ht
        generalize H1 = H at hP hS ⊢
        have hw30E : σ1 = σ29 := (hw30.1).symm
        subst hw30E
        have b31 : r28 = moveF (((σ1 9)).2.2.1 18 (7 * p1.toInt.toNat)) p2 p3 := hw30.2.1
        refine lv_goto (tgt := 45) hx hb dX9_move_40 (by decide) ?_
        exact W.iret (v := r28) hx hb hr (fun tS ht hW => ⟨⟨r28, σ1, rfl, ⟨Fr.tr (Fr.rf) (sI_f eσ1) (fN_L rfl), hJ2, trivial⟩, (show va_P D clz (WD9 cy g σ1) tS.heap by rw [ht]; exact hP)⟩, hS.F ht⟩) hS.2.2 dX9_move_45

theorem q1805 : Cond.code yX9_laysWays cX9_laysWays 9 none ∈ lw_g := lw_gm (List.mem_of_getElem? (i := 1805) (by decide +kernel)) rfl
theorem q1384 : Cond.fieldLink RX9 53 "LipsAndSlidesModel" "wayMany" "[I" ∈ lw_g := lw_gm (List.mem_of_getElem? (i := 1384) (by decide +kernel)) rfl
theorem q1387 : Cond.fieldLink RX9 62 "LipsAndSlidesModel" "wayOff" "[I" ∈ lw_g := lw_gm (List.mem_of_getElem? (i := 1387) (by decide +kernel)) rfl
theorem dX9_laysWays_0 : decode cX9_laysWays 0 = .ok (.iconst 0, 1) := by decide +kernel
theorem dX9_laysWays_1 : decode cX9_laysWays 1 = .ok (.istore 5, 2) := by decide +kernel
theorem dX9_laysWays_3 : decode cX9_laysWays 3 = .ok (.iconst 2, 1) := by decide +kernel
theorem dX9_laysWays_4 : decode cX9_laysWays 4 = .ok (.istore 6, 2) := by decide +kernel
theorem dX9_laysWays_6 : decode cX9_laysWays 6 = .ok (.iload_n 3, 1) := by decide +kernel
theorem dX9_laysWays_7 : decode cX9_laysWays 7 = .ok (.i2l, 1) := by decide +kernel
theorem dX9_laysWays_8 : decode cX9_laysWays 8 = .ok (.invokestatic 353, 3) := by decide +kernel
theorem dX9_laysWays_11 : decode cX9_laysWays 11 = .ok (.ifCond .eq 112, 3) := by decide +kernel
theorem dX9_laysWays_14 : decode cX9_laysWays 14 = .ok (.iload 6, 2) := by decide +kernel
theorem dX9_laysWays_16 : decode cX9_laysWays 16 = .ok (.aload_n 0, 1) := by decide +kernel
theorem dX9_laysWays_17 : decode cX9_laysWays 17 = .ok (.getfield 34, 3) := by decide +kernel
theorem dX9_laysWays_20 : decode cX9_laysWays 20 = .ok (.iconst 1, 1) := by decide +kernel
theorem dX9_laysWays_21 : decode cX9_laysWays 21 = .ok (.iaload, 1) := by decide +kernel
theorem dX9_laysWays_22 : decode cX9_laysWays 22 = .ok (.if_icmp .gt 101, 3) := by decide +kernel
theorem dX9_laysWays_25 : decode cX9_laysWays 25 = .ok (.iconst 0, 1) := by decide +kernel
theorem dX9_laysWays_26 : decode cX9_laysWays 26 = .ok (.istore 7, 2) := by decide +kernel
theorem dX9_laysWays_28 : decode cX9_laysWays 28 = .ok (.iload 7, 2) := by decide +kernel
theorem dX9_laysWays_30 : decode cX9_laysWays 30 = .ok (.aload_n 0, 1) := by decide +kernel
theorem dX9_laysWays_31 : decode cX9_laysWays 31 = .ok (.iload_n 2, 1) := by decide +kernel
theorem dX9_laysWays_32 : decode cX9_laysWays 32 = .ok (.invokevirtual 329, 3) := by decide +kernel
theorem dX9_laysWays_35 : decode cX9_laysWays 35 = .ok (.if_icmp .ge 82, 3) := by decide +kernel
theorem dX9_laysWays_38 : decode cX9_laysWays 38 = .ok (.aload_n 0, 1) := by decide +kernel
theorem dX9_laysWays_39 : decode cX9_laysWays 39 = .ok (.iload_n 2, 1) := by decide +kernel
theorem dX9_laysWays_40 : decode cX9_laysWays 40 = .ok (.iload_n 3, 1) := by decide +kernel
theorem dX9_laysWays_41 : decode cX9_laysWays 41 = .ok (.iload 6, 2) := by decide +kernel
theorem dX9_laysWays_43 : decode cX9_laysWays 43 = .ok (.iload 7, 2) := by decide +kernel
theorem dX9_laysWays_45 : decode cX9_laysWays 45 = .ok (.invokevirtual 363, 3) := by decide +kernel
theorem dX9_laysWays_48 : decode cX9_laysWays 48 = .ok (.istore 8, 2) := by decide +kernel
theorem dX9_laysWays_50 : decode cX9_laysWays 50 = .ok (.iload 8, 2) := by decide +kernel
theorem dX9_laysWays_52 : decode cX9_laysWays 52 = .ok (.invokestatic 348, 3) := by decide +kernel
theorem dX9_laysWays_55 : decode cX9_laysWays 55 = .ok (.iload 4, 2) := by decide +kernel
theorem dX9_laysWays_57 : decode cX9_laysWays 57 = .ok (.if_icmp .le 6, 3) := by decide +kernel
theorem dX9_laysWays_60 : decode cX9_laysWays 60 = .ok (.goto 51, 3) := by decide +kernel
theorem dX9_laysWays_63 : decode cX9_laysWays 63 = .ok (.aload_n 0, 1) := by decide +kernel
theorem dX9_laysWays_64 : decode cX9_laysWays 64 = .ok (.getfield 56, 3) := by decide +kernel
theorem dX9_laysWays_67 : decode cX9_laysWays 67 = .ok (.bipush 88, 2) := by decide +kernel
theorem dX9_laysWays_69 : decode cX9_laysWays 69 = .ok (.iload_n 1, 1) := by decide +kernel
theorem dX9_laysWays_70 : decode cX9_laysWays 70 = .ok (.imul, 1) := by decide +kernel
theorem dX9_laysWays_71 : decode cX9_laysWays 71 = .ok (.iload 5, 2) := by decide +kernel
theorem dX9_laysWays_73 : decode cX9_laysWays 73 = .ok (.iadd, 1) := by decide +kernel
theorem dX9_laysWays_74 : decode cX9_laysWays 74 = .ok (.iload 6, 2) := by decide +kernel
theorem dX9_laysWays_76 : decode cX9_laysWays 76 = .ok (.iastore, 1) := by decide +kernel
theorem dX9_laysWays_77 : decode cX9_laysWays 77 = .ok (.aload_n 0, 1) := by decide +kernel
theorem dX9_laysWays_78 : decode cX9_laysWays 78 = .ok (.getfield 59, 3) := by decide +kernel
theorem dX9_laysWays_81 : decode cX9_laysWays 81 = .ok (.bipush 88, 2) := by decide +kernel
theorem dX9_laysWays_83 : decode cX9_laysWays 83 = .ok (.iload_n 1, 1) := by decide +kernel
theorem dX9_laysWays_84 : decode cX9_laysWays 84 = .ok (.imul, 1) := by decide +kernel
theorem dX9_laysWays_85 : decode cX9_laysWays 85 = .ok (.iload 5, 2) := by decide +kernel
theorem dX9_laysWays_87 : decode cX9_laysWays 87 = .ok (.iadd, 1) := by decide +kernel
theorem dX9_laysWays_88 : decode cX9_laysWays 88 = .ok (.iload 7, 2) := by decide +kernel
theorem dX9_laysWays_90 : decode cX9_laysWays 90 = .ok (.iastore, 1) := by decide +kernel
theorem dX9_laysWays_91 : decode cX9_laysWays 91 = .ok (.aload_n 0, 1) := by decide +kernel
theorem dX9_laysWays_92 : decode cX9_laysWays 92 = .ok (.getfield 62, 3) := by decide +kernel
theorem dX9_laysWays_95 : decode cX9_laysWays 95 = .ok (.bipush 88, 2) := by decide +kernel
theorem dX9_laysWays_97 : decode cX9_laysWays 97 = .ok (.iload_n 1, 1) := by decide +kernel
theorem dX9_laysWays_98 : decode cX9_laysWays 98 = .ok (.imul, 1) := by decide +kernel
theorem dX9_laysWays_99 : decode cX9_laysWays 99 = .ok (.iload 5, 2) := by decide +kernel
theorem dX9_laysWays_101 : decode cX9_laysWays 101 = .ok (.iadd, 1) := by decide +kernel
theorem dX9_laysWays_102 : decode cX9_laysWays 102 = .ok (.iload 8, 2) := by decide +kernel
theorem dX9_laysWays_104 : decode cX9_laysWays 104 = .ok (.invokestatic 348, 3) := by decide +kernel
theorem dX9_laysWays_107 : decode cX9_laysWays 107 = .ok (.iastore, 1) := by decide +kernel
theorem dX9_laysWays_108 : decode cX9_laysWays 108 = .ok (.iinc 5 1, 3) := by decide +kernel
theorem dX9_laysWays_111 : decode cX9_laysWays 111 = .ok (.iinc 7 1, 3) := by decide +kernel
theorem dX9_laysWays_114 : decode cX9_laysWays 114 = .ok (.goto (-86), 3) := by decide +kernel
theorem dX9_laysWays_117 : decode cX9_laysWays 117 = .ok (.iinc 6 1, 3) := by decide +kernel
theorem dX9_laysWays_120 : decode cX9_laysWays 120 = .ok (.goto (-114), 3) := by decide +kernel
theorem dX9_laysWays_123 : decode cX9_laysWays 123 = .ok (.aload_n 0, 1) := by decide +kernel
theorem dX9_laysWays_124 : decode cX9_laysWays 124 = .ok (.getfield 53, 3) := by decide +kernel
theorem dX9_laysWays_127 : decode cX9_laysWays 127 = .ok (.iload_n 1, 1) := by decide +kernel
theorem dX9_laysWays_128 : decode cX9_laysWays 128 = .ok (.iload 5, 2) := by decide +kernel
theorem dX9_laysWays_130 : decode cX9_laysWays 130 = .ok (.iastore, 1) := by decide +kernel
theorem dX9_laysWays_131 : decode cX9_laysWays 131 = .ok (.return_, 1) := by decide +kernel
set_option maxHeartbeats 4000000 in
set_option maxRecDepth 100000 in
theorem m_X9_laysWays (l : Launch) (D : va_G) (cy : Nat → ClassId) (g : Nat → Nat) (σ : ST) (p1 : Int32) (p2 : Int32) (p3 : Int32) (p4 : Int32) (sz : Nat) (hJ : J9 (σ 9)) (h0 : (0 : Int) ≤ p1.toInt ∧ p1.toInt ≤ 16) (h1 : (0 : Int) ≤ p2.toInt ∧ p2.toInt ≤ 3) (h2 : 100 ≤ ((σ 9).2.2.1 18 (7 * p2.toInt.toNat + 2)).toInt) : Met l yX9_laysWays (ww yX9_laysWays cX9_laysWays 9 none) ({ frames := 3, cells := 0, slots := 0, locals := 192 }) (va_Pc [.ref (g 60), .int p1, .int p2, .int p3, .int p4] (pr9 D cy g σ sz)) (qv9 D cy g sz (fun τ => Fr (fL [23, 24, 25, 26, 27]) σ τ ∧ J9 (τ 9) ∧ True)) 0 0 (A9 cy g sz) := by
  refine Met.ofW (cc := cX9_laysWays) (maxL := 9) (ret := none) (by decide) rfl ?_
  intro p e s m args below meth c s₁ B hml hv
  obtain ⟨rfl, hsz, hP, hK, hD0, hC⟩ := hv
  have hx := B.exec
  have hb := B.bytes
  have hr := B.returns
  have hts := hts_g (atoms_spec (ws := ww yX9_laysWays cX9_laysWays 9 none) B.pre)
  have hown : s.vm.findClass RX9 = some m.cls := findClass_of_methodNamed B.named
  have hlocks := B.notSynchronized
  clear B
  subst hsz
  have hD := fun τ => A9_D (sz := s.heap.size) hD0 τ
  clear hD0
  have hS : va_S (A9 cy g s.heap.size) s.heap s.heap [] := va_S.rf
  have hl := lv_entry ([.ref (g 60), .int p1, .int p2, .int p3, .int p4]) (n := 9) (Nat.le_of_ble_eq_true rfl)
  rw [lg_entry_eq]
  generalize (lg_sl ([.ref (g 60), .int p1, .int p2, .int p3, .int p4]) ++ List.replicate (9 - (lg_sl ([.ref (g 60), .int p1, .int p2, .int p3, .int p4])).length) Slot.unset).toArray = ls at hl ⊢
  have hl : lv_has ls 9 [(0, .ref (g 60)), (1, .int p1), (2, .int p2), (3, .int p3), (4, .int p4)] := hl
  refine lv_iconst (v := 0) hx hb dX9_laysWays_0 (by decide) ?_
  refine lv_istore (lv' := [(5, .int 0), (0, .ref (g 60)), (1, .int p1), (2, .int p2), (3, .int p3), (4, .int p4)]) hx hb dX9_laysWays_1 hl (by decide) rfl (fun ls hl => ?_)
  refine lv_iconst (v := 2) hx hb dX9_laysWays_3 (by decide) ?_
  refine lv_istore (lv' := [(6, .int 2), (5, .int 0), (0, .ref (g 60)), (1, .int p1), (2, .int p2), (3, .int p3), (4, .int p4)]) hx hb dX9_laysWays_4 hl (by decide) rfl (fun ls hl => ?_)
  refine loop9 9 6 (fun x : LZ => [(6, .int (x.2.1 0)), (5, .int (x.2.1 1)), (0, .ref (g 60)), (1, .int p1), (2, .int p2), (3, .int p3), (4, .int p4)]) (fun x : LZ => (Fr (fL [23, 25, 26, 27]) σ x.1) ∧ (J9 (x.1 9)) ∧ ((2 : Int) ≤ (x.2.1 0).toInt ∧ (x.2.1 0).toInt ≤ 13) ∧ ((0 : Int) ≤ (x.2.1 1).toInt ∧ (x.2.1 1).toInt ≤ 88) ∧ ((x.2.1 1).toInt ≤ 8 * ((x.2.1 0).toInt - 2)) ∧ True) (fun x : LZ => ((14 : Int) - (x.2.1 0).toInt).toNat) ?_ (σ, lf [2, 0], lg []) ⟨Fr.rf, hJ, (show (2 : Int) ≤ (2 : Int32).toInt ∧ (2 : Int32).toInt ≤ 13 from (by have z2 : (2 : Int32).toInt = 2 := (by decide); omega)), (show (0 : Int) ≤ (0 : Int32).toInt ∧ (0 : Int32).toInt ≤ 88 from (by have z0 : (0 : Int32).toInt = 0 := (by decide); omega)), (show (0 : Int32).toInt ≤ 8 * ((2 : Int32).toInt - 2) from (by have z0 : (0 : Int32).toInt = 0 := (by decide); have z2 : (2 : Int32).toInt = 2 := (by decide); omega)), trivial⟩ _ _ _ hP hS (lv_sub hl [0, 1, 2, 3, 4, 5, 6] rfl)
  intro y3 hI2 nl1 H locs ls hP hS hl
  obtain ⟨σ4, eσ4⟩ : ∃ z, z = y3.1 := ⟨_, rfl⟩
  rw [← eσ4] at hP hI2
  have hF5 : Fr (fL [23, 25, 26, 27]) σ σ4 := hI2.1
  have hJ6 : J9 (σ4 9) := hI2.2.1
  have b7 : (2 : Int) ≤ (y3.2.1 0).toInt ∧ (y3.2.1 0).toInt ≤ 13 := hI2.2.2.1
  have b8 : (0 : Int) ≤ (y3.2.1 1).toInt ∧ (y3.2.1 1).toInt ≤ 88 := hI2.2.2.2.1
  have b9 : (y3.2.1 1).toInt ≤ 8 * ((y3.2.1 0).toInt - 2) := hI2.2.2.2.2.1
  have hl : lv_has ls 9 [(6, .int (y3.2.1 0)), (5, .int (y3.2.1 1)), (0, .ref (g 60)), (1, .int p1), (2, .int p2), (3, .int p3), (4, .int p4)] := hl
  refine lv_iload_n hx hb dX9_laysWays_6 rfl (lv_at hl 5 rfl) ?_
  refine lv_i2l (v := p3.toInt64) hx hb dX9_laysWays_7 rfl ?_
  refine va_calli (va_runS (As := [.long p3.toInt64]) (rest := []) ⟨hx, hb, hml, hown, hts⟩ (m_X9_isPitch l D cy g σ4 p3.toInt64 _ hJ6 ) (va_cwS 1 hts (gd_S q1763 q1764 q134 q1765) rfl rfl rfl (by decide +kernel) ⟨Nat.le_of_ble_eq_true rfl, Nat.le_of_ble_eq_true rfl⟩) (ps9 hP hK hD hC hS) rfl rfl hl.1 rfl (lv_room (Nat.le_of_ble_eq_true rfl)) dX9_laysWays_8 ⟨Nat.le_of_ble_eq_true rfl, Nat.le_of_ble_eq_true rfl⟩) hS (fun q _ h => up9 hS q h) (up9 hS) (fun r10 σ11 tS H1 locs ht hvm hw12 hB hz1 hk1 hS => ?_)
  have hP : va_P D clz (WD9 cy g σ11) H1 := by rw [← ht]; exact hB
  clear hB hz1 hk1 hvm ht
  generalize H1 = H at hP hS ⊢
  have hw12E : σ4 = σ11 := (hw12.1).symm
  subst hw12E
  have b13 : (0 : Int) ≤ r10.toInt ∧ r10.toInt ≤ 1 := hw12.2.1
  have b14 : (r10.toInt = 1 ∧ 0 ≤ p3.toInt64.toInt ∧ p3.toInt64.toInt ≤ 60) ∨ (r10.toInt = 0 ∧ ¬ (0 ≤ p3.toInt64.toInt ∧ p3.toInt64.toInt ≤ 60)) := hw12.2.2.1
  refine cut9 (D := D) (cy := cy) (g := g) (A := A9 cy g s.heap.size) (H0 := s.heap) 9 123 (fun x : LZ => [(6, .int (y3.2.1 0)), (5, .int (y3.2.1 1)), (0, .ref (g 60)), (1, .int p1), (2, .int p2), (3, .int p3), (4, .int p4)]) (fun x : LZ => []) (fun x : LZ => (x.1 = σ4) ∧ True) ?_ ?_
  ·
    intro y17 hI16 H locs ls hP hS hl
    rw [show y17.1 = σ4 from hI16.1] at hP
    have hl : lv_has ls 9 [(6, .int (y3.2.1 0)), (5, .int (y3.2.1 1)), (0, .ref (g 60)), (1, .int p1), (2, .int p2), (3, .int p3), (4, .int p4)] := hl
    refine lv_aload_n hx hb dX9_laysWays_123 rfl (lv_at hl 2 rfl) ?_
    refine g9_24 hx hb hts hown hK hP (hts _ q1384) dX9_laysWays_124 ?_
    refine lv_iload_n hx hb dX9_laysWays_127 rfl (lv_at hl 3 rfl) ?_
    refine lv_iload hx hb dX9_laysWays_128 (lv_at hl 1 rfl) ?_
    refine t9_24 hx hb hK hP hD hS (vpo (by have f0 := h0; have g0 := rg32 p1; omega)) dX9_laysWays_130 (fun H locs σ18 eσ18 hP hS => ?_)
    have hJ19 : J9 (σ18 9) := hJ6.A eσ18 (show PA9 24 p1.toInt.toNat (y3.2.1 1) from (by have f0 := h0; have f1 := b8; have f2 := b9; have f3 := b7; have g0 := rg32 (y3.2.1 1); have g1 := rg32 p1; exact ⟨by omega, by omega⟩))
    exact W.vret hx hb hr (fun tS ht hW => ⟨⟨σ18, rfl, ⟨Fr.tr (Fr.tr (Fr.rf) hF5 (fL_sub rfl)) (sA_f eσ18) (fN_L rfl), hJ19, trivial⟩, (show va_P D clz (WD9 cy g σ18) tS.heap by rw [ht]; exact hP)⟩, hS.F ht⟩) hS.2.2 dX9_laysWays_131
  ·
    intro nj15
    refine lv_if_eq (tgt := 123) hx hb dX9_laysWays_11 (by decide) (fun c20 => ?_) (fun c20 => ?_)
    ·
      have k21 := peq32 c20
      exact nj15 (σ4, lf [], lg []) ⟨rfl, trivial⟩ _ _ _ hP hS (lv_sub hl [0, 1, 2, 3, 4, 5, 6] rfl)
    ·
      have k22 := neq32 c20
      refine lv_iload hx hb dX9_laysWays_14 (lv_at hl 0 rfl) ?_
      refine lv_aload_n hx hb dX9_laysWays_16 rfl (lv_at hl 2 rfl) ?_
      refine g9_17 hx hb hts hown hK hP (hts _ q1377) dX9_laysWays_17 ?_
      refine lv_iconst (v := 1) hx hb dX9_laysWays_20 (by decide) ?_
      refine l9_17 (x := ((σ 9).2.2.1 17 1)) hx hb hK hP (vpi (by decide)) ((congrFun ((hF5 9 17 rfl).2.2.1) _).trans (congrArg ((σ 9).2.2.1 17) (show (1 : Int32).toInt.toNat = 1 by decide))) dX9_laysWays_21 ?_
      refine lv_icmp_gt (tgt := 123) hx hb dX9_laysWays_22 (by decide) (fun c23 => ?_) (fun c23 => ?_)
      ·
        have k24 := plt32 c23
        exact nj15 (σ4, lf [], lg []) ⟨rfl, trivial⟩ _ _ _ hP hS (lv_sub hl [0, 1, 2, 3, 4, 5, 6] rfl)
      ·
        have k25 := nlt32 c23
        refine lv_iconst (v := 0) hx hb dX9_laysWays_25 (by decide) ?_
        refine lv_istore (lv' := [(7, .int 0), (6, .int (y3.2.1 0)), (5, .int (y3.2.1 1)), (0, .ref (g 60)), (1, .int p1), (2, .int p2), (3, .int p3), (4, .int p4)]) hx hb dX9_laysWays_26 hl (by decide) rfl (fun ls hl => ?_)
        refine loop9 9 28 (fun x : LZ => [(7, .int (x.2.1 0)), (6, .int (y3.2.1 0)), (5, .int (x.2.1 1)), (0, .ref (g 60)), (1, .int p1), (2, .int p2), (3, .int p3), (4, .int p4)]) (fun x : LZ => (Fr (fL [23, 25, 26, 27]) σ4 x.1) ∧ (J9 (x.1 9)) ∧ ((0 : Int) ≤ (x.2.1 0).toInt ∧ (x.2.1 0).toInt ≤ 8) ∧ ((0 : Int) ≤ (x.2.1 1).toInt ∧ (x.2.1 1).toInt ≤ 88) ∧ ((x.2.1 1).toInt ≤ 8 * ((y3.2.1 0).toInt - 2) + (x.2.1 0).toInt) ∧ True) (fun x : LZ => ((9 : Int) - (x.2.1 0).toInt).toNat) ?_ (σ4, lf [0, (y3.2.1 1)], lg []) ⟨Fr.rf, hJ6, (show (0 : Int) ≤ (0 : Int32).toInt ∧ (0 : Int32).toInt ≤ 8 from (by have z0 : (0 : Int32).toInt = 0 := (by decide); omega)), (show (0 : Int) ≤ ((y3.2.1 1) : Int32).toInt ∧ ((y3.2.1 1) : Int32).toInt ≤ 88 from (by have f0 := b8; have f1 := b9; have f2 := b7; have f3 := k25; have f4 := a9_17 hJ (j := 1) rfl; have g0 := rg32 (y3.2.1 1); omega)), (show (y3.2.1 1).toInt ≤ 8 * ((y3.2.1 0).toInt - 2) + (0 : Int32).toInt from (by have f0 := b7; have f1 := b8; have f2 := b9; have f3 := k25; have f4 := a9_17 hJ (j := 1) rfl; have g0 := rg32 (y3.2.1 0); have g1 := rg32 (y3.2.1 1); have z0 : (0 : Int32).toInt = 0 := (by decide); omega)), trivial⟩ _ _ _ hP hS (lv_sub hl [0, 1, 2, 3, 4, 5, 6, 7] rfl)
        intro y28 hI27 nl26 H locs ls hP hS hl
        obtain ⟨σ29, eσ29⟩ : ∃ z, z = y28.1 := ⟨_, rfl⟩
        rw [← eσ29] at hP hI27
        have hF30 : Fr (fL [23, 25, 26, 27]) σ4 σ29 := hI27.1
        have hJ31 : J9 (σ29 9) := hI27.2.1
        have b32 : (0 : Int) ≤ (y28.2.1 0).toInt ∧ (y28.2.1 0).toInt ≤ 8 := hI27.2.2.1
        have b33 : (0 : Int) ≤ (y28.2.1 1).toInt ∧ (y28.2.1 1).toInt ≤ 88 := hI27.2.2.2.1
        have b34 : (y28.2.1 1).toInt ≤ 8 * ((y3.2.1 0).toInt - 2) + (y28.2.1 0).toInt := hI27.2.2.2.2.1
        have hl : lv_has ls 9 [(7, .int (y28.2.1 0)), (6, .int (y3.2.1 0)), (5, .int (y28.2.1 1)), (0, .ref (g 60)), (1, .int p1), (2, .int p2), (3, .int p3), (4, .int p4)] := hl
        refine lv_iload hx hb dX9_laysWays_28 (lv_at hl 0 rfl) ?_
        refine lv_aload_n hx hb dX9_laysWays_30 rfl (lv_at hl 3 rfl) ?_
        refine lv_iload_n hx hb dX9_laysWays_31 rfl (lv_at hl 5 rfl) ?_
        refine va_calli (va_runV (As := [.int p2]) (rest := [.int (y28.2.1 0)]) ⟨hx, hb, hml, hown, hts⟩ (m_X9_settings l D cy g σ29 p2 _ hJ31 (show (0 : Int) ≤ p2.toInt ∧ p2.toInt ≤ 3 from (by have f0 := h1; have f1 := h2; have g1 := rg32 p2; omega))) (cwV 1 hts (gd_V q1743 q1745 q78 q134 q1746) rfl rfl rfl (by decide +kernel) ⟨Nat.le_of_ble_eq_true rfl, Nat.le_of_ble_eq_true rfl⟩) (pv9 hP hK hD hC hS (va_recv hK hP (ci := 9) (q0 := 0) rfl rfl)) rfl rfl hl.1 rfl (lv_room (Nat.le_of_ble_eq_true rfl)) dX9_laysWays_32 ⟨Nat.le_of_ble_eq_true rfl, Nat.le_of_ble_eq_true rfl⟩) hS (fun q _ h => up9 hS q h) (up9 hS) (fun r35 σ36 tS H1 locs ht hvm hw37 hB hz1 hk1 hS => ?_)
        have hP : va_P D clz (WD9 cy g σ36) H1 := by rw [← ht]; exact hB
        clear hB hz1 hk1 hvm ht
        generalize H1 = H at hP hS ⊢
        have hw37E : σ29 = σ36 := (hw37.1).symm
        subst hw37E
        have b38 : (1 : Int) ≤ r35.toInt ∧ r35.toInt ≤ 8 := hw37.2.1
        refine lv_icmp_ge (tgt := 117) hx hb dX9_laysWays_35 (by decide) (fun c39 => ?_) (fun c39 => ?_)
        ·
          have k40 := ple32 c39
          obtain ⟨x41, ex41⟩ : ∃ y : Int32, y = (y3.2.1 0) + 1 := ⟨_, rfl⟩
          have t42 := addO ex41 (by have f0 := b7; have f1 := b9; have f2 := k25; have f3 := b34; have f4 := a9_17 hJ (j := 1) rfl; have f5 := b8; have f6 := b32; have f7 := b33; have f8 := k40; have f9 := b38; have g0 := rg32 (y3.2.1 0); have z1 : (1 : Int32).toInt = 1 := (by decide); omega)
          refine lv_iinc (v := x41) (lv' := [(6, .int x41), (7, .int (y28.2.1 0)), (5, .int (y28.2.1 1)), (0, .ref (g 60)), (1, .int p1), (2, .int p2), (3, .int p3), (4, .int p4)]) hx hb dX9_laysWays_117 hl (k := 1) rfl (by rw [ex41]; rfl) (by decide) rfl (fun ls hl => ?_)
          refine lv_goto (tgt := 6) hx hb dX9_laysWays_120 (by decide) ?_
          have t43 : ((14 : Int) - x41.toInt).toNat < ((14 : Int) - (y3.2.1 0).toInt).toNat := (by have f0 := b7; have f1 := b9; have f2 := k25; have f3 := b34; have f4 := t42; have f5 := a9_17 hJ (j := 1) rfl; have f6 := b8; have f7 := b32; have f8 := b33; have f9 := k40; have f10 := b38; have g0 := rg32 (y3.2.1 0); have g1 := rg32 x41; have z1 : (1 : Int32).toInt = 1 := (by decide); omega)
          exact nl1 (σ29, lf [x41, (y28.2.1 1)], lg []) ⟨Fr.tr (Fr.tr (Fr.rf) hF5 (fL_sub rfl)) hF30 (fL_sub rfl), hJ31, (show (2 : Int) ≤ (x41 : Int32).toInt ∧ (x41 : Int32).toInt ≤ 13 from (by have f0 := t42; have f1 := b7; have f2 := b9; have f3 := k25; have f4 := b34; have f5 := a9_17 hJ (j := 1) rfl; have f6 := b8; have f7 := b32; have f8 := b33; have f9 := k40; have f10 := b38; have g0 := rg32 x41; have z1 : (1 : Int32).toInt = 1 := (by decide); omega)), (show (0 : Int) ≤ ((y28.2.1 1) : Int32).toInt ∧ ((y28.2.1 1) : Int32).toInt ≤ 88 from (by have f0 := b33; have f1 := b34; have f2 := b7; have f3 := b9; have f4 := k25; have f5 := b32; have f6 := k40; have f7 := t42; have f8 := a9_17 hJ (j := 1) rfl; have f9 := b8; have f10 := b38; have g0 := rg32 (y28.2.1 1); have z1 : (1 : Int32).toInt = 1 := (by decide); omega)), (show (y28.2.1 1).toInt ≤ 8 * (x41.toInt - 2) from (by have f0 := b33; have f1 := b34; have f2 := t42; have f3 := b7; have f4 := b9; have f5 := k25; have f6 := b32; have f7 := k40; have f8 := a9_17 hJ (j := 1) rfl; have f9 := b8; have f10 := b38; have g0 := rg32 (y28.2.1 1); have g1 := rg32 x41; have z1 : (1 : Int32).toInt = 1 := (by decide); omega)), trivial⟩ (show ((14 : Int) - x41.toInt).toNat < _ from by first | exact t43 | (rw [← eσ4]; exact t43)) _ _ _ hP hS (lv_sub hl [0, 2, 3, 4, 5, 6, 7] rfl)
        ·
          have k44 := nle32 c39
          refine lv_aload_n hx hb dX9_laysWays_38 rfl (lv_at hl 3 rfl) ?_
          refine lv_iload_n hx hb dX9_laysWays_39 rfl (lv_at hl 5 rfl) ?_
          refine lv_iload_n hx hb dX9_laysWays_40 rfl (lv_at hl 6 rfl) ?_
          refine lv_iload hx hb dX9_laysWays_41 (lv_at hl 1 rfl) ?_
          refine lv_iload hx hb dX9_laysWays_43 (lv_at hl 0 rfl) ?_
          refine va_calli (va_runV (As := [.int p2, .int p3, .int (y3.2.1 0), .int (y28.2.1 0)]) (rest := []) ⟨hx, hb, hml, hown, hts⟩ (m_X9_offOf l D cy g σ29 p2 p3 (y3.2.1 0) (y28.2.1 0) _ hJ31 (show (0 : Int) ≤ p2.toInt ∧ p2.toInt ≤ 3 from (by have f0 := h1; have f1 := h2; have g1 := rg32 p2; omega)) (show (0 : Int) ≤ (y3.2.1 0).toInt ∧ (y3.2.1 0).toInt ≤ 12 from (by have f0 := h1; have f1 := h2; have f2 := b7; have f3 := b9; have f4 := k25; have f5 := b34; have f6 := a9_17 hJ (j := 1) rfl; have f7 := b8; have f8 := b32; have f9 := b33; have f10 := k44; have f11 := b38; have g1 := rg32 (y3.2.1 0); have g2 := rg32 p2; omega)) (show (0 : Int) ≤ (y28.2.1 0).toInt ∧ (y28.2.1 0).toInt ≤ 7 from (by have f0 := h1; have f1 := h2; have f2 := b7; have f3 := b9; have f4 := k25; have f5 := b32; have f6 := b34; have f7 := k44; have f8 := a9_17 hJ (j := 1) rfl; have f9 := b8; have f10 := b33; have f11 := b38; have g1 := rg32 (y28.2.1 0); have g2 := rg32 (y3.2.1 0); have g3 := rg32 p2; omega)) (show 100 ≤ ((σ29 9).2.2.1 18 (7 * p2.toInt.toNat + 2)).toInt from (by have f0 := congrArg Int32.toInt (show ((σ29 9).2.2.1 18 (7 * p2.toInt.toNat + 2)) = ((σ 9).2.2.1 18 (7 * p2.toInt.toNat + 2)) from congrFun (((hF30 9 18 rfl).2.2.1).trans ((hF5 9 18 rfl).2.2.1)) _); have f1 := h1; have f2 := h2; have g2 := rg32 p2; omega))) (cwV 4 hts (gd_V q1772 q1774 q83 q134 q1775) rfl rfl rfl (by decide +kernel) ⟨Nat.le_of_ble_eq_true rfl, Nat.le_of_ble_eq_true rfl⟩) (pv9 hP hK hD hC hS (va_recv hK hP (ci := 9) (q0 := 0) rfl rfl)) rfl rfl hl.1 rfl (lv_room (Nat.le_of_ble_eq_true rfl)) dX9_laysWays_45 ⟨Nat.le_of_ble_eq_true rfl, Nat.le_of_ble_eq_true rfl⟩) hS (fun q _ h => up9 hS q h) (up9 hS) (fun r45 σ46 tS H1 locs ht hvm hw47 hB hz1 hk1 hS => ?_)
          have hP : va_P D clz (WD9 cy g σ46) H1 := by rw [← ht]; exact hB
          clear hB hz1 hk1 hvm ht
          generalize H1 = H at hP hS ⊢
          have hF48 : Fr (fL [23]) σ29 σ46 := hw47.1
          have hJ49 : J9 (σ46 9) := hw47.2.1
          refine lv_istore (lv' := [(8, .int r45), (7, .int (y28.2.1 0)), (6, .int (y3.2.1 0)), (5, .int (y28.2.1 1)), (0, .ref (g 60)), (1, .int p1), (2, .int p2), (3, .int p3), (4, .int p4)]) hx hb dX9_laysWays_48 hl (by decide) rfl (fun ls hl => ?_)
          refine lv_iload hx hb dX9_laysWays_50 (lv_at hl 0 rfl) ?_
          refine va_calli (va_runS (As := [.int r45]) (rest := []) ⟨hx, hb, hml, hown, hts⟩ (m_X9_size l D cy g σ46 r45 _ hJ49 ) (va_cwS 1 hts (gd_S q1778 q1779 q134 q1780) rfl rfl rfl (by decide +kernel) ⟨Nat.le_of_ble_eq_true rfl, Nat.le_of_ble_eq_true rfl⟩) (ps9 hP hK hD hC hS) rfl rfl hl.1 rfl (lv_room (Nat.le_of_ble_eq_true rfl)) dX9_laysWays_52 ⟨Nat.le_of_ble_eq_true rfl, Nat.le_of_ble_eq_true rfl⟩) hS (fun q _ h => up9 hS q h) (up9 hS) (fun r50 σ51 tS H1 locs ht hvm hw52 hB hz1 hk1 hS => ?_)
          have hP : va_P D clz (WD9 cy g σ51) H1 := by rw [← ht]; exact hB
          clear hB hz1 hk1 hvm ht
          generalize H1 = H at hP hS ⊢
          have hw52E : σ46 = σ51 := (hw52.1).symm
          subst hw52E
          have b53 : r50 = sizeF r45 := hw52.2.1
          refine lv_iload hx hb dX9_laysWays_55 (lv_at hl 8 rfl) ?_
          refine cut9 (D := D) (cy := cy) (g := g) (A := A9 cy g s.heap.size) (H0 := s.heap) 9 111 (fun x : LZ => [(8, .int r45), (7, .int (y28.2.1 0)), (6, .int (y3.2.1 0)), (5, .int (x.2.1 0)), (0, .ref (g 60)), (1, .int p1), (2, .int p2), (3, .int p3), (4, .int p4)]) (fun x : LZ => []) (fun x : LZ => (Fr (fL [25, 26, 27]) σ46 x.1) ∧ (J9 (x.1 9)) ∧ ((0 : Int) ≤ (x.2.1 0).toInt ∧ (x.2.1 0).toInt ≤ 88) ∧ ((x.2.1 0).toInt ≤ 8 * ((y3.2.1 0).toInt - 2) + (y28.2.1 0).toInt + 1) ∧ True) ?_ ?_
          ·
            intro y56 hI55 H locs ls hP hS hl
            obtain ⟨σ57, eσ57⟩ : ∃ z, z = y56.1 := ⟨_, rfl⟩
            rw [← eσ57] at hP hI55
            have hF58 : Fr (fL [25, 26, 27]) σ46 σ57 := hI55.1
            have hJ59 : J9 (σ57 9) := hI55.2.1
            have b60 : (0 : Int) ≤ (y56.2.1 0).toInt ∧ (y56.2.1 0).toInt ≤ 88 := hI55.2.2.1
            have b61 : (y56.2.1 0).toInt ≤ 8 * ((y3.2.1 0).toInt - 2) + (y28.2.1 0).toInt + 1 := hI55.2.2.2.1
            have hl : lv_has ls 9 [(8, .int r45), (7, .int (y28.2.1 0)), (6, .int (y3.2.1 0)), (5, .int (y56.2.1 0)), (0, .ref (g 60)), (1, .int p1), (2, .int p2), (3, .int p3), (4, .int p4)] := hl
            obtain ⟨x62, ex62⟩ : ∃ y : Int32, y = (y28.2.1 0) + 1 := ⟨_, rfl⟩
            have t63 := addO ex62 (by have f0 := b32; have f1 := b34; have f2 := k44; have f3 := b61; have f4 := b7; have f5 := b9; have f6 := k25; have f7 := b33; have f8 := b38; have f9 := b60; have f10 := a9_17 hJ (j := 1) rfl; have f11 := b8; have g0 := rg32 (y28.2.1 0); have z1 : (1 : Int32).toInt = 1 := (by decide); omega)
            refine lv_iinc (v := x62) (lv' := [(7, .int x62), (8, .int r45), (6, .int (y3.2.1 0)), (5, .int (y56.2.1 0)), (0, .ref (g 60)), (1, .int p1), (2, .int p2), (3, .int p3), (4, .int p4)]) hx hb dX9_laysWays_111 hl (k := 1) rfl (by rw [ex62]; rfl) (by decide) rfl (fun ls hl => ?_)
            refine lv_goto (tgt := 28) hx hb dX9_laysWays_114 (by decide) ?_
            have t64 : ((9 : Int) - x62.toInt).toNat < ((9 : Int) - (y28.2.1 0).toInt).toNat := (by have f0 := b32; have f1 := b34; have f2 := k44; have f3 := b61; have f4 := t63; have f5 := b7; have f6 := b9; have f7 := k25; have f8 := b33; have f9 := b38; have f10 := b60; have f11 := a9_17 hJ (j := 1) rfl; have f12 := b8; have g0 := rg32 (y28.2.1 0); have g1 := rg32 x62; have z1 : (1 : Int32).toInt = 1 := (by decide); omega)
            exact nl26 (σ57, lf [x62, (y56.2.1 0)], lg []) ⟨Fr.tr (Fr.tr (Fr.tr (Fr.rf) hF30 (fL_sub rfl)) hF48 (fL_sub rfl)) hF58 (fL_sub rfl), hJ59, (show (0 : Int) ≤ (x62 : Int32).toInt ∧ (x62 : Int32).toInt ≤ 8 from (by have f0 := t63; have f1 := b32; have f2 := b34; have f3 := k44; have f4 := b61; have f5 := b7; have f6 := b9; have f7 := k25; have f8 := b33; have f9 := b38; have f10 := b60; have f11 := a9_17 hJ (j := 1) rfl; have f12 := b8; have g0 := rg32 x62; have z1 : (1 : Int32).toInt = 1 := (by decide); omega)), (show (0 : Int) ≤ ((y56.2.1 0) : Int32).toInt ∧ ((y56.2.1 0) : Int32).toInt ≤ 88 from (by have f0 := b60; have f1 := b61; have f2 := b7; have f3 := b9; have f4 := k25; have f5 := b32; have f6 := b34; have f7 := k44; have f8 := t63; have f9 := a9_17 hJ (j := 1) rfl; have f10 := b8; have f11 := b33; have f12 := b38; have g0 := rg32 (y56.2.1 0); have z1 : (1 : Int32).toInt = 1 := (by decide); omega)), (show (y56.2.1 0).toInt ≤ 8 * ((y3.2.1 0).toInt - 2) + x62.toInt from (by have f0 := b7; have f1 := b9; have f2 := k25; have f3 := b34; have f4 := b60; have f5 := b61; have f6 := t63; have f7 := a9_17 hJ (j := 1) rfl; have f8 := b8; have f9 := b32; have f10 := b33; have f11 := k44; have f12 := b38; have g0 := rg32 (y3.2.1 0); have g1 := rg32 (y56.2.1 0); have g2 := rg32 x62; have z1 : (1 : Int32).toInt = 1 := (by decide); omega)), trivial⟩ (show ((9 : Int) - x62.toInt).toNat < _ from by first | exact t64 | (rw [← eσ29]; exact t64)) _ _ _ hP hS (lv_sub hl [0, 2, 3, 4, 5, 6, 7, 8] rfl)
          ·
            intro nj54
            refine lv_icmp_le (tgt := 63) hx hb dX9_laysWays_57 (by decide) (fun c65 => ?_) (fun c65 => ?_)
            ·
              have k66 := ple32 c65
              refine lv_aload_n hx hb dX9_laysWays_63 rfl (lv_at hl 4 rfl) ?_
              refine g9_25 hx hb hts hown hK hP (hts _ q1385) dX9_laysWays_64 ?_
              refine lv_bipush (v := 88) hx hb dX9_laysWays_67 (by decide) ?_
              refine lv_iload_n hx hb dX9_laysWays_69 rfl (lv_at hl 5 rfl) ?_
              refine lv_imul hx hb dX9_laysWays_70 ?_
              refine lv_topi (fun x67 ex67 => ?_)
              have t68 := mulC' (n := 88) ex67 (by decide) (by have f0 := h0; have g0 := rg32 p1; omega)
              refine lv_iload hx hb dX9_laysWays_71 (lv_at hl 3 rfl) ?_
              refine lv_iadd hx hb dX9_laysWays_73 ?_
              refine lv_topi (fun x69 ex69 => ?_)
              have t70 := addO ex69 (by have f0 := b33; have f1 := b34; have f2 := t68; have f3 := h0; have f4 := b7; have f5 := b9; have f6 := k25; have f7 := b32; have f8 := k44; have f9 := a9_17 hJ (j := 1) rfl; have f10 := b8; have f11 := b38; have g0 := rg32 (y28.2.1 1); have g1 := rg32 x67; omega)
              refine lv_iload hx hb dX9_laysWays_74 (lv_at hl 2 rfl) ?_
              refine t9_25 hx hb hK hP hD hS (vpo (by have f0 := t70; have f1 := b33; have f2 := b34; have f3 := t68; have f4 := h0; have f5 := b7; have f6 := b9; have f7 := k25; have f8 := b32; have f9 := k44; have f10 := a9_17 hJ (j := 1) rfl; have f11 := b8; have f12 := b38; have g0 := rg32 x69; omega)) dX9_laysWays_76 (fun H locs σ71 eσ71 hP hS => ?_)
              have hJ72 : J9 (σ71 9) := hJ49.A eσ71 trivial
              refine lv_aload_n hx hb dX9_laysWays_77 rfl (lv_at hl 4 rfl) ?_
              refine g9_26 hx hb hts hown hK hP (hts _ q1386) dX9_laysWays_78 ?_
              refine lv_bipush (v := 88) hx hb dX9_laysWays_81 (by decide) ?_
              refine lv_iload_n hx hb dX9_laysWays_83 rfl (lv_at hl 5 rfl) ?_
              refine lv_imul hx hb dX9_laysWays_84 ?_
              refine lv_topi (fun x73 ex73 => ?_)
              have t74 := mulC' (n := 88) ex73 (by decide) (by have f0 := h0; have f1 := t68; have f2 := t70; have f3 := b33; have f4 := b34; have f5 := b7; have f6 := b9; have f7 := k25; have f8 := b32; have f9 := k44; have f10 := a9_17 hJ (j := 1) rfl; have f11 := b8; have f12 := b38; have g0 := rg32 p1; omega)
              refine lv_iload hx hb dX9_laysWays_85 (lv_at hl 3 rfl) ?_
              refine lv_iadd hx hb dX9_laysWays_87 ?_
              refine lv_topi (fun x75 ex75 => ?_)
              have t76 := addO ex75 (by have f0 := b33; have f1 := b34; have f2 := t70; have f3 := t74; have f4 := h0; have f5 := b7; have f6 := b9; have f7 := k25; have f8 := b32; have f9 := k44; have f10 := t68; have f11 := a9_17 hJ (j := 1) rfl; have f12 := b8; have f13 := b38; have g0 := rg32 (y28.2.1 1); have g1 := rg32 x73; omega)
              refine lv_iload hx hb dX9_laysWays_88 (lv_at hl 1 rfl) ?_
              refine t9_26 hx hb hK hP hD hS (vpo (by have f0 := t76; have f1 := b33; have f2 := b34; have f3 := t70; have f4 := t74; have f5 := h0; have f6 := b7; have f7 := b9; have f8 := k25; have f9 := b32; have f10 := k44; have f11 := t68; have f12 := a9_17 hJ (j := 1) rfl; have f13 := b8; have f14 := b38; have g0 := rg32 x75; omega)) dX9_laysWays_90 (fun H locs σ77 eσ77 hP hS => ?_)
              have hJ78 : J9 (σ77 9) := hJ72.A eσ77 (show PA9 26 x75.toInt.toNat (y28.2.1 0) from (by have f0 := b32; have f1 := b34; have f2 := k44; have f3 := t76; have f4 := b7; have f5 := b9; have f6 := k25; have f7 := b33; have f8 := b38; have f9 := t70; have f10 := t74; have f11 := a9_17 hJ (j := 1) rfl; have f12 := h0; have f13 := b8; have f14 := t68; have g0 := rg32 (y28.2.1 0); have g1 := rg32 x75; exact ⟨by omega, by omega⟩))
              refine lv_aload_n hx hb dX9_laysWays_91 rfl (lv_at hl 4 rfl) ?_
              refine g9_27 hx hb hts hown hK hP (hts _ q1387) dX9_laysWays_92 ?_
              refine lv_bipush (v := 88) hx hb dX9_laysWays_95 (by decide) ?_
              refine lv_iload_n hx hb dX9_laysWays_97 rfl (lv_at hl 5 rfl) ?_
              refine lv_imul hx hb dX9_laysWays_98 ?_
              refine lv_topi (fun x79 ex79 => ?_)
              have t80 := mulC' (n := 88) ex79 (by decide) (by have f0 := h0; have f1 := t68; have f2 := t74; have f3 := t70; have f4 := t76; have f5 := b33; have f6 := b34; have f7 := b7; have f8 := b9; have f9 := k25; have f10 := b32; have f11 := k44; have f12 := a9_17 hJ (j := 1) rfl; have f13 := b8; have f14 := b38; have g0 := rg32 p1; omega)
              refine lv_iload hx hb dX9_laysWays_99 (lv_at hl 3 rfl) ?_
              refine lv_iadd hx hb dX9_laysWays_101 ?_
              refine lv_topi (fun x81 ex81 => ?_)
              have t82 := addO ex81 (by have f0 := b33; have f1 := b34; have f2 := t70; have f3 := t76; have f4 := t80; have f5 := h0; have f6 := b7; have f7 := b9; have f8 := k25; have f9 := b32; have f10 := k44; have f11 := t68; have f12 := t74; have f13 := a9_17 hJ (j := 1) rfl; have f14 := b8; have f15 := b38; have g0 := rg32 (y28.2.1 1); have g1 := rg32 x79; omega)
              refine lv_iload hx hb dX9_laysWays_102 (lv_at hl 0 rfl) ?_
              refine va_calli (va_runS (As := [.int r45]) (rest := [.int x81, .ref (g 27)]) ⟨hx, hb, hml, hown, hts⟩ (m_X9_size l D cy g σ77 r45 _ hJ78 ) (va_cwS 1 hts (gd_S q1778 q1779 q134 q1780) rfl rfl rfl (by decide +kernel) ⟨Nat.le_of_ble_eq_true rfl, Nat.le_of_ble_eq_true rfl⟩) (ps9 hP hK hD hC hS) rfl rfl hl.1 rfl (lv_room (Nat.le_of_ble_eq_true rfl)) dX9_laysWays_104 ⟨Nat.le_of_ble_eq_true rfl, Nat.le_of_ble_eq_true rfl⟩) hS (fun q _ h => up9 hS q h) (up9 hS) (fun r83 σ84 tS H1 locs ht hvm hw85 hB hz1 hk1 hS => ?_)
              have hP : va_P D clz (WD9 cy g σ84) H1 := by rw [← ht]; exact hB
              clear hB hz1 hk1 hvm ht
              generalize H1 = H at hP hS ⊢
              have hw85E : σ77 = σ84 := (hw85.1).symm
              subst hw85E
              have b86 : r83 = sizeF r45 := hw85.2.1
              refine t9_27 hx hb hK hP hD hS (vpo (by have f0 := t82; have f1 := b33; have f2 := b34; have f3 := t70; have f4 := t76; have f5 := t80; have f6 := h0; have f7 := b7; have f8 := b9; have f9 := k25; have f10 := b32; have f11 := k44; have f12 := t68; have f13 := t74; have f14 := a9_17 hJ (j := 1) rfl; have f15 := b8; have f16 := b38; have g0 := rg32 x81; omega)) dX9_laysWays_107 (fun H locs σ87 eσ87 hP hS => ?_)
              have hJ88 : J9 (σ87 9) := hJ78.A eσ87 trivial
              obtain ⟨x89, ex89⟩ : ∃ y : Int32, y = (y28.2.1 1) + 1 := ⟨_, rfl⟩
              have t90 := addO ex89 (by have f0 := b33; have f1 := b34; have f2 := t70; have f3 := t76; have f4 := t82; have f5 := b7; have f6 := b9; have f7 := k25; have f8 := b32; have f9 := k44; have f10 := t68; have f11 := t74; have f12 := t80; have f13 := a9_17 hJ (j := 1) rfl; have f14 := h0; have f15 := b8; have f16 := b38; have g0 := rg32 (y28.2.1 1); have z1 : (1 : Int32).toInt = 1 := (by decide); omega)
              refine lv_iinc (v := x89) (lv' := [(5, .int x89), (8, .int r45), (7, .int (y28.2.1 0)), (6, .int (y3.2.1 0)), (0, .ref (g 60)), (1, .int p1), (2, .int p2), (3, .int p3), (4, .int p4)]) hx hb dX9_laysWays_108 hl (k := 3) rfl (by rw [ex89]; rfl) (by decide) rfl (fun ls hl => ?_)
              exact nj54 (σ87, lf [x89], lg []) ⟨Fr.tr (Fr.tr (Fr.tr (Fr.rf) (sA_f eσ71) (fN_L rfl)) (sA_f eσ77) (fN_L rfl)) (sA_f eσ87) (fN_L rfl), hJ88, (show (0 : Int) ≤ (x89 : Int32).toInt ∧ (x89 : Int32).toInt ≤ 88 from (by have f0 := t90; have f1 := b33; have f2 := b34; have f3 := t70; have f4 := t76; have f5 := t82; have f6 := b7; have f7 := b9; have f8 := k25; have f9 := b32; have f10 := k44; have f11 := t68; have f12 := t74; have f13 := t80; have f14 := a9_17 hJ (j := 1) rfl; have f15 := h0; have f16 := b8; have f17 := b38; have g0 := rg32 x89; have z1 : (1 : Int32).toInt = 1 := (by decide); omega)), (show x89.toInt ≤ 8 * ((y3.2.1 0).toInt - 2) + (y28.2.1 0).toInt + 1 from (by have f0 := b7; have f1 := b9; have f2 := k25; have f3 := b32; have f4 := b34; have f5 := k44; have f6 := t90; have f7 := a9_17 hJ (j := 1) rfl; have f8 := b8; have f9 := b33; have f10 := b38; have f11 := t70; have f12 := t76; have f13 := t82; have f14 := t68; have f15 := t74; have f16 := t80; have f17 := h0; have g0 := rg32 (y28.2.1 0); have g1 := rg32 (y3.2.1 0); have g2 := rg32 x89; have z1 : (1 : Int32).toInt = 1 := (by decide); omega)), trivial⟩ _ _ _ hP hS (lv_sub hl [1, 2, 3, 0, 4, 5, 6, 7, 8] rfl)
            ·
              have k91 := nle32 c65
              refine lv_goto (tgt := 111) hx hb dX9_laysWays_60 (by decide) ?_
              exact nj54 (σ46, lf [(y28.2.1 1)], lg []) ⟨Fr.rf, hJ49, (show (0 : Int) ≤ ((y28.2.1 1) : Int32).toInt ∧ ((y28.2.1 1) : Int32).toInt ≤ 88 from (by have f0 := b33; have f1 := b34; have f2 := b7; have f3 := b9; have f4 := k25; have f5 := b32; have f6 := k44; have f7 := a9_17 hJ (j := 1) rfl; have f8 := b8; have f9 := b38; have g0 := rg32 (y28.2.1 1); omega)), (show (y28.2.1 1).toInt ≤ 8 * ((y3.2.1 0).toInt - 2) + (y28.2.1 0).toInt + 1 from (by have f0 := b7; have f1 := b9; have f2 := k25; have f3 := b32; have f4 := b33; have f5 := b34; have f6 := k44; have f7 := a9_17 hJ (j := 1) rfl; have f8 := b8; have f9 := b38; have g0 := rg32 (y28.2.1 0); have g1 := rg32 (y28.2.1 1); have g2 := rg32 (y3.2.1 0); omega)), trivial⟩ _ _ _ hP hS (lv_sub hl [0, 1, 2, 3, 4, 5, 6, 7, 8] rfl)

theorem q1801 : Cond.code yX9_waysOf cX9_waysOf 3 (some .int) ∈ lw_g := lw_gm (List.mem_of_getElem? (i := 1801) (by decide +kernel)) rfl
theorem q1802 : Cond.methodLink RX9 371 yX9_laysWays ∈ lw_g := lw_gm (List.mem_of_getElem? (i := 1802) (by decide +kernel)) rfl
theorem q1804 : Cond.instanceMethod yX9_laysWays ∈ lw_g := lw_gm (List.mem_of_getElem? (i := 1804) (by decide +kernel)) rfl
theorem q86 : Cond.selects RX9 yX9_laysWays yX9_laysWays ∈ lw_g := lw_gm (List.mem_of_getElem? (i := 86) (by decide +kernel)) rfl
theorem dX9_waysOf_0 : decode cX9_waysOf 0 = .ok (.aload_n 0, 1) := by decide +kernel
theorem dX9_waysOf_1 : decode cX9_waysOf 1 = .ok (.bipush 16, 2) := by decide +kernel
theorem dX9_waysOf_3 : decode cX9_waysOf 3 = .ok (.iload_n 1, 1) := by decide +kernel
theorem dX9_waysOf_4 : decode cX9_waysOf 4 = .ok (.iload_n 2, 1) := by decide +kernel
theorem dX9_waysOf_5 : decode cX9_waysOf 5 = .ok (.aload_n 0, 1) := by decide +kernel
theorem dX9_waysOf_6 : decode cX9_waysOf 6 = .ok (.getfield 34, 3) := by decide +kernel
theorem dX9_waysOf_9 : decode cX9_waysOf 9 = .ok (.iconst 0, 1) := by decide +kernel
theorem dX9_waysOf_10 : decode cX9_waysOf 10 = .ok (.iaload, 1) := by decide +kernel
theorem dX9_waysOf_11 : decode cX9_waysOf 11 = .ok (.invokevirtual 371, 3) := by decide +kernel
theorem dX9_waysOf_14 : decode cX9_waysOf 14 = .ok (.aload_n 0, 1) := by decide +kernel
theorem dX9_waysOf_15 : decode cX9_waysOf 15 = .ok (.getfield 53, 3) := by decide +kernel
theorem dX9_waysOf_18 : decode cX9_waysOf 18 = .ok (.bipush 16, 2) := by decide +kernel
theorem dX9_waysOf_20 : decode cX9_waysOf 20 = .ok (.iaload, 1) := by decide +kernel
theorem dX9_waysOf_21 : decode cX9_waysOf 21 = .ok (.ireturn, 1) := by decide +kernel
set_option maxHeartbeats 4000000 in
set_option maxRecDepth 100000 in
theorem m_X9_waysOf (l : Launch) (D : va_G) (cy : Nat → ClassId) (g : Nat → Nat) (σ : ST) (p1 : Int32) (p2 : Int32) (sz : Nat) (hJ : J9 (σ 9)) (h0 : (0 : Int) ≤ p1.toInt ∧ p1.toInt ≤ 3) (h1 : 100 ≤ ((σ 9).2.2.1 18 (7 * p1.toInt.toNat + 2)).toInt) : Met l yX9_waysOf (ww yX9_waysOf cX9_waysOf 3 (some .int)) ({ frames := 4, cells := 0, slots := 0, locals := 256 }) (va_Pc [.ref (g 60), .int p1, .int p2] (pr9 D cy g σ sz)) (qi9 D cy g sz (fun r τ => Fr (fL [23, 24, 25, 26, 27]) σ τ ∧ J9 (τ 9) ∧ ((0 : Int) ≤ r.toInt ∧ r.toInt ≤ 88) ∧ True)) 0 0 (A9 cy g sz) := by
  refine Met.ofW (cc := cX9_waysOf) (maxL := 3) (ret := (some .int)) (by decide) rfl ?_
  intro p e s m args below meth c s₁ B hml hv
  obtain ⟨rfl, hsz, hP, hK, hD0, hC⟩ := hv
  have hx := B.exec
  have hb := B.bytes
  have hr := B.returns
  have hts := hts_g (atoms_spec (ws := ww yX9_waysOf cX9_waysOf 3 (some .int)) B.pre)
  have hown : s.vm.findClass RX9 = some m.cls := findClass_of_methodNamed B.named
  have hlocks := B.notSynchronized
  clear B
  subst hsz
  have hD := fun τ => A9_D (sz := s.heap.size) hD0 τ
  clear hD0
  have hS : va_S (A9 cy g s.heap.size) s.heap s.heap [] := va_S.rf
  have hl := lv_entry ([.ref (g 60), .int p1, .int p2]) (n := 3) (Nat.le_of_ble_eq_true rfl)
  rw [lg_entry_eq]
  generalize (lg_sl ([.ref (g 60), .int p1, .int p2]) ++ List.replicate (3 - (lg_sl ([.ref (g 60), .int p1, .int p2])).length) Slot.unset).toArray = ls at hl ⊢
  have hl : lv_has ls 3 [(0, .ref (g 60)), (1, .int p1), (2, .int p2)] := hl
  refine lv_aload_n hx hb dX9_waysOf_0 rfl (lv_at hl 0 rfl) ?_
  refine lv_bipush (v := 16) hx hb dX9_waysOf_1 (by decide) ?_
  refine lv_iload_n hx hb dX9_waysOf_3 rfl (lv_at hl 1 rfl) ?_
  refine lv_iload_n hx hb dX9_waysOf_4 rfl (lv_at hl 2 rfl) ?_
  refine lv_aload_n hx hb dX9_waysOf_5 rfl (lv_at hl 0 rfl) ?_
  refine g9_17 hx hb hts hown hK hP (hts _ q1377) dX9_waysOf_6 ?_
  refine lv_iconst (v := 0) hx hb dX9_waysOf_9 (by decide) ?_
  refine l9_17 (x := ((σ 9).2.2.1 17 0)) hx hb hK hP (vpi (by decide)) (congrArg ((σ 9).2.2.1 17) (show (0 : Int32).toInt.toNat = 0 by decide)) dX9_waysOf_10 ?_
  refine va_callv (va_runV (As := [.int 16, .int p1, .int p2, .int ((σ 9).2.2.1 17 0)]) (rest := []) ⟨hx, hb, hml, hown, hts⟩ (m_X9_laysWays l D cy g σ (16) p1 p2 ((σ 9).2.2.1 17 0) _ hJ (show (0 : Int) ≤ (16 : Int32).toInt ∧ (16 : Int32).toInt ≤ 16 from (by have z16 : (16 : Int32).toInt = 16 := (by decide); omega)) (show (0 : Int) ≤ p1.toInt ∧ p1.toInt ≤ 3 from (by have f0 := h0; have f1 := h1; have g1 := rg32 p1; have z16 : (16 : Int32).toInt = 16 := (by decide); omega)) (show 100 ≤ ((σ 9).2.2.1 18 (7 * p1.toInt.toNat + 2)).toInt from (by have f0 := h0; have f1 := h1; have g1 := rg32 p1; omega))) (cwV 4 hts (gd_V q1802 q1804 q86 q134 q1805) rfl rfl rfl (by decide +kernel) ⟨Nat.le_of_ble_eq_true rfl, Nat.le_of_ble_eq_true rfl⟩) (pv9 hP hK hD hC hS (va_recv hK hP (ci := 9) (q0 := 0) rfl rfl)) rfl rfl hl.1 rfl (lv_room (Nat.le_of_ble_eq_true rfl)) dX9_waysOf_11 ⟨Nat.le_of_ble_eq_true rfl, Nat.le_of_ble_eq_true rfl⟩) hS (fun q _ h => up9 hS q h) (up9 hS) (fun σ2 tS H1 locs ht hvm hw3 hB hz1 hk1 hS => ?_)
  have hP : va_P D clz (WD9 cy g σ2) H1 := by rw [← ht]; exact hB
  clear hB hz1 hk1 hvm ht
  generalize H1 = H at hP hS ⊢
  have hF4 : Fr (fL [23, 24, 25, 26, 27]) σ σ2 := hw3.1
  have hJ5 : J9 (σ2 9) := hw3.2.1
  refine lv_aload_n hx hb dX9_waysOf_14 rfl (lv_at hl 0 rfl) ?_
  refine g9_24 hx hb hts hown hK hP (hts _ q1384) dX9_waysOf_15 ?_
  refine lv_bipush (v := 16) hx hb dX9_waysOf_18 (by decide) ?_
  refine l9_24 (x := ((σ2 9).2.2.1 24 16)) hx hb hK hP (vpi (by decide)) (congrArg ((σ2 9).2.2.1 24) (show (16 : Int32).toInt.toNat = 16 by decide)) dX9_waysOf_20 ?_
  exact W.iret (v := ((σ2 9).2.2.1 24 16)) hx hb hr (fun tS ht hW => ⟨⟨((σ2 9).2.2.1 24 16), σ2, rfl, ⟨Fr.tr (Fr.rf) hF4 (fL_sub rfl), hJ5, (show (0 : Int) ≤ ((σ2 9).2.2.1 24 16).toInt ∧ ((σ2 9).2.2.1 24 16).toInt ≤ 88 from (by have f0 := a9_24 hJ5 (j := 16) rfl; omega)), trivial⟩, (show va_P D clz (WD9 cy g σ2) tS.heap by rw [ht]; exact hP)⟩, hS.F ht⟩) hS.2.2 dX9_waysOf_21

theorem q1797 : Cond.code yX9_ways cX9_ways 3 (some .int) ∈ lw_g := lw_gm (List.mem_of_getElem? (i := 1797) (by decide +kernel)) rfl
theorem q1798 : Cond.methodLink RX9 375 yX9_waysOf ∈ lw_g := lw_gm (List.mem_of_getElem? (i := 1798) (by decide +kernel)) rfl
theorem q1800 : Cond.instanceMethod yX9_waysOf ∈ lw_g := lw_gm (List.mem_of_getElem? (i := 1800) (by decide +kernel)) rfl
theorem q85 : Cond.selects RX9 yX9_waysOf yX9_waysOf ∈ lw_g := lw_gm (List.mem_of_getElem? (i := 85) (by decide +kernel)) rfl
theorem dX9_ways_0 : decode cX9_ways 0 = .ok (.aload_n 0, 1) := by decide +kernel
theorem dX9_ways_1 : decode cX9_ways 1 = .ok (.iconst 0, 1) := by decide +kernel
theorem dX9_ways_2 : decode cX9_ways 2 = .ok (.putfield 129, 3) := by decide +kernel
theorem dX9_ways_5 : decode cX9_ways 5 = .ok (.aload_n 0, 1) := by decide +kernel
theorem dX9_ways_6 : decode cX9_ways 6 = .ok (.iload_n 1, 1) := by decide +kernel
theorem dX9_ways_7 : decode cX9_ways 7 = .ok (.invokevirtual 312, 3) := by decide +kernel
theorem dX9_ways_10 : decode cX9_ways 10 = .ok (.ifCond .eq 20, 3) := by decide +kernel
theorem dX9_ways_13 : decode cX9_ways 13 = .ok (.iload_n 2, 1) := by decide +kernel
theorem dX9_ways_14 : decode cX9_ways 14 = .ok (.i2l, 1) := by decide +kernel
theorem dX9_ways_15 : decode cX9_ways 15 = .ok (.invokestatic 353, 3) := by decide +kernel
theorem dX9_ways_18 : decode cX9_ways 18 = .ok (.ifCond .eq 12, 3) := by decide +kernel
theorem dX9_ways_21 : decode cX9_ways 21 = .ok (.aload_n 0, 1) := by decide +kernel
theorem dX9_ways_22 : decode cX9_ways 22 = .ok (.iload_n 1, 1) := by decide +kernel
theorem dX9_ways_23 : decode cX9_ways 23 = .ok (.iload_n 2, 1) := by decide +kernel
theorem dX9_ways_24 : decode cX9_ways 24 = .ok (.invokevirtual 375, 3) := by decide +kernel
theorem dX9_ways_27 : decode cX9_ways 27 = .ok (.goto 5, 3) := by decide +kernel
theorem dX9_ways_30 : decode cX9_ways 30 = .ok (.bipush (-2), 2) := by decide +kernel
theorem dX9_ways_32 : decode cX9_ways 32 = .ok (.ireturn, 1) := by decide +kernel
set_option maxHeartbeats 4000000 in
set_option maxRecDepth 100000 in
theorem m_X9_ways (l : Launch) (D : va_G) (cy : Nat → ClassId) (g : Nat → Nat) (σ : ST) (p1 : Int32) (p2 : Int32) (sz : Nat) (hJ : J9 (σ 9)) (kDK0 : DK0 (σ 9)) : Met l yX9_ways (ww yX9_ways cX9_ways 3 (some .int)) ({ frames := 5, cells := 0, slots := 0, locals := 320 }) (va_Pc [.ref (g 60), .int p1, .int p2] (pr9 D cy g σ sz)) (qi9 D cy g sz (fun r τ => Fr (fL [0, 23, 24, 25, 26, 27]) σ τ ∧ J9 (τ 9) ∧ True)) 0 0 (A9 cy g sz) := by
  refine Met.ofW (cc := cX9_ways) (maxL := 3) (ret := (some .int)) (by decide) rfl ?_
  intro p e s m args below meth c s₁ B hml hv
  obtain ⟨rfl, hsz, hP, hK, hD0, hC⟩ := hv
  have hx := B.exec
  have hb := B.bytes
  have hr := B.returns
  have hts := hts_g (atoms_spec (ws := ww yX9_ways cX9_ways 3 (some .int)) B.pre)
  have hown : s.vm.findClass RX9 = some m.cls := findClass_of_methodNamed B.named
  have hlocks := B.notSynchronized
  clear B
  subst hsz
  have hD := fun τ => A9_D (sz := s.heap.size) hD0 τ
  clear hD0
  have hS : va_S (A9 cy g s.heap.size) s.heap s.heap [] := va_S.rf
  have hl := lv_entry ([.ref (g 60), .int p1, .int p2]) (n := 3) (Nat.le_of_ble_eq_true rfl)
  rw [lg_entry_eq]
  generalize (lg_sl ([.ref (g 60), .int p1, .int p2]) ++ List.replicate (3 - (lg_sl ([.ref (g 60), .int p1, .int p2])).length) Slot.unset).toArray = ls at hl ⊢
  have hl : lv_has ls 3 [(0, .ref (g 60)), (1, .int p1), (2, .int p2)] := hl
  refine lv_aload_n hx hb dX9_ways_0 rfl (lv_at hl 0 rfl) ?_
  refine lv_iconst (v := 0) hx hb dX9_ways_1 (by decide) ?_
  refine p9_0 hx hb hts hown hK hP hD hS (hts _ q1360) dX9_ways_2 (fun H locs σ1 eσ1 hP hS => ?_)
  have hJ2 : J9 (σ1 9) := hJ.I eσ1 (show JI9 0 (0 : Int32) from trivial)
  have T3 : DK0 (σ1 9) := DK0.mv kDK0 ((sI_f eσ1) 9 17 rfl).2.2.1 ((sI_f eσ1) 9 18 rfl).2.2.1 ((sI_f eσ1) 9 19 rfl).2.2.1
  refine lv_aload_n hx hb dX9_ways_5 rfl (lv_at hl 0 rfl) ?_
  refine lv_iload_n hx hb dX9_ways_6 rfl (lv_at hl 1 rfl) ?_
  refine va_calli (va_runV (As := [.int p1]) (rest := []) ⟨hx, hb, hml, hown, hts⟩ (m_X9_isBrass l D cy g σ1 p1 _ hJ2 ) (cwV 1 hts (gd_V q1701 q1703 q71 q134 q1704) rfl rfl rfl (by decide +kernel) ⟨Nat.le_of_ble_eq_true rfl, Nat.le_of_ble_eq_true rfl⟩) (pv9 hP hK hD hC hS (va_recv hK hP (ci := 9) (q0 := 0) rfl rfl)) rfl rfl hl.1 rfl (lv_room (Nat.le_of_ble_eq_true rfl)) dX9_ways_7 ⟨Nat.le_of_ble_eq_true rfl, Nat.le_of_ble_eq_true rfl⟩) hS (fun q _ h => up9 hS q h) (up9 hS) (fun r4 σ5 tS H1 locs ht hvm hw6 hB hz1 hk1 hS => ?_)
  have hP : va_P D clz (WD9 cy g σ5) H1 := by rw [← ht]; exact hB
  clear hB hz1 hk1 hvm ht
  generalize H1 = H at hP hS ⊢
  have hw6E : σ1 = σ5 := (hw6.1).symm
  subst hw6E
  have b7 : (0 : Int) ≤ r4.toInt ∧ r4.toInt ≤ 1 := hw6.2.1
  have b8 : (r4.toInt = 0) ∨ ((0 : Int) ≤ p1.toInt ∧ p1.toInt ≤ 3) := hw6.2.2.1
  have b9 : (r4.toInt = 0) ∨ (0 ≤ p1.toInt ∧ p1.toInt < ((σ1 9).2.2.1 17 2).toInt) := hw6.2.2.2.1
  refine lv_if_eq (tgt := 30) hx hb dX9_ways_10 (by decide) (fun c10 => ?_) (fun c10 => ?_)
  ·
    have k11 := peq32 c10
    refine lv_bipush (v := (-2)) hx hb dX9_ways_30 (by decide) ?_
    exact W.iret (v := (-2)) hx hb hr (fun tS ht hW => ⟨⟨(-2), σ1, rfl, ⟨Fr.tr (Fr.rf) (sI_f eσ1) (fN_L rfl), hJ2, trivial⟩, (show va_P D clz (WD9 cy g σ1) tS.heap by rw [ht]; exact hP)⟩, hS.F ht⟩) hS.2.2 dX9_ways_32
  ·
    have k12 := neq32 c10
    refine lv_iload_n hx hb dX9_ways_13 rfl (lv_at hl 2 rfl) ?_
    refine lv_i2l (v := p2.toInt64) hx hb dX9_ways_14 rfl ?_
    refine va_calli (va_runS (As := [.long p2.toInt64]) (rest := []) ⟨hx, hb, hml, hown, hts⟩ (m_X9_isPitch l D cy g σ1 p2.toInt64 _ hJ2 ) (va_cwS 1 hts (gd_S q1763 q1764 q134 q1765) rfl rfl rfl (by decide +kernel) ⟨Nat.le_of_ble_eq_true rfl, Nat.le_of_ble_eq_true rfl⟩) (ps9 hP hK hD hC hS) rfl rfl hl.1 rfl (lv_room (Nat.le_of_ble_eq_true rfl)) dX9_ways_15 ⟨Nat.le_of_ble_eq_true rfl, Nat.le_of_ble_eq_true rfl⟩) hS (fun q _ h => up9 hS q h) (up9 hS) (fun r13 σ14 tS H1 locs ht hvm hw15 hB hz1 hk1 hS => ?_)
    have hP : va_P D clz (WD9 cy g σ14) H1 := by rw [← ht]; exact hB
    clear hB hz1 hk1 hvm ht
    generalize H1 = H at hP hS ⊢
    have hw15E : σ1 = σ14 := (hw15.1).symm
    subst hw15E
    have b16 : (0 : Int) ≤ r13.toInt ∧ r13.toInt ≤ 1 := hw15.2.1
    have b17 : (r13.toInt = 1 ∧ 0 ≤ p2.toInt64.toInt ∧ p2.toInt64.toInt ≤ 60) ∨ (r13.toInt = 0 ∧ ¬ (0 ≤ p2.toInt64.toInt ∧ p2.toInt64.toInt ≤ 60)) := hw15.2.2.1
    refine lv_if_eq (tgt := 30) hx hb dX9_ways_18 (by decide) (fun c18 => ?_) (fun c18 => ?_)
    ·
      have k19 := peq32 c18
      refine lv_bipush (v := (-2)) hx hb dX9_ways_30 (by decide) ?_
      exact W.iret (v := (-2)) hx hb hr (fun tS ht hW => ⟨⟨(-2), σ1, rfl, ⟨Fr.tr (Fr.rf) (sI_f eσ1) (fN_L rfl), hJ2, trivial⟩, (show va_P D clz (WD9 cy g σ1) tS.heap by rw [ht]; exact hP)⟩, hS.F ht⟩) hS.2.2 dX9_ways_32
    ·
      have k20 := neq32 c18
      refine lv_aload_n hx hb dX9_ways_21 rfl (lv_at hl 0 rfl) ?_
      refine lv_iload_n hx hb dX9_ways_22 rfl (lv_at hl 1 rfl) ?_
      refine lv_iload_n hx hb dX9_ways_23 rfl (lv_at hl 2 rfl) ?_
      refine va_calli (va_runV (As := [.int p1, .int p2]) (rest := []) ⟨hx, hb, hml, hown, hts⟩ (m_X9_waysOf l D cy g σ1 p1 p2 _ hJ2 (show (0 : Int) ≤ p1.toInt ∧ p1.toInt ≤ 3 from (by have f0 := b8; have f1 := b9; have f2 := a9_17 hJ2 (j := 2) rfl; have f3 := congrArg Int32.toInt (show ((σ1 9).2.2.1 17 2) = ((σ 9).2.2.1 17 2) from congrFun (((sI_f eσ1) 9 17 rfl).2.2.1) _); have f4 := b7; have f5 := k12; have f6 := a9_17 hJ (j := 2) rfl; have g2 := rg32 p1; have z0 : (0 : Int32).toInt = 0 := (by decide); omega)) (show 100 ≤ ((σ1 9).2.2.1 18 (7 * p1.toInt.toNat + 2)).toInt from (T3.1 _ (by have f0 := a9_17 hJ2 (j := 2) rfl; have f1 := congrArg Int32.toInt (show ((σ1 9).2.2.1 17 2) = ((σ 9).2.2.1 17 2) from congrFun (((sI_f eσ1) 9 17 rfl).2.2.1) _); have f2 := b8; have f3 := b9; have f4 := a9_17 hJ (j := 2) rfl; have f5 := b7; have f6 := k12; have g2 := rg32 p1; have z0 : (0 : Int32).toInt = 0 := (by decide); omega)))) (cwV 2 hts (gd_V q1798 q1800 q85 q134 q1801) rfl rfl rfl (by decide +kernel) ⟨Nat.le_of_ble_eq_true rfl, Nat.le_of_ble_eq_true rfl⟩) (pv9 hP hK hD hC hS (va_recv hK hP (ci := 9) (q0 := 0) rfl rfl)) rfl rfl hl.1 rfl (lv_room (Nat.le_of_ble_eq_true rfl)) dX9_ways_24 ⟨Nat.le_of_ble_eq_true rfl, Nat.le_of_ble_eq_true rfl⟩) hS (fun q _ h => up9 hS q h) (up9 hS) (fun r21 σ22 tS H1 locs ht hvm hw23 hB hz1 hk1 hS => ?_)
      have hP : va_P D clz (WD9 cy g σ22) H1 := by rw [← ht]; exact hB
      clear hB hz1 hk1 hvm ht
      generalize H1 = H at hP hS ⊢
      have hF24 : Fr (fL [23, 24, 25, 26, 27]) σ1 σ22 := hw23.1
      have hJ25 : J9 (σ22 9) := hw23.2.1
      have b26 : (0 : Int) ≤ r21.toInt ∧ r21.toInt ≤ 88 := hw23.2.2.1
      have T27 : DK0 (σ22 9) := DK0.mv T3 (hF24 9 17 rfl).2.2.1 (hF24 9 18 rfl).2.2.1 (hF24 9 19 rfl).2.2.1
      refine lv_goto (tgt := 32) hx hb dX9_ways_27 (by decide) ?_
      exact W.iret (v := r21) hx hb hr (fun tS ht hW => ⟨⟨r21, σ22, rfl, ⟨Fr.tr (Fr.tr (Fr.rf) (sI_f eσ1) (fN_L rfl)) hF24 (fL_sub rfl), hJ25, trivial⟩, (show va_P D clz (WD9 cy g σ22) tS.heap by rw [ht]; exact hP)⟩, hS.F ht⟩) hS.2.2 dX9_ways_32

theorem q1809 : Cond.code yX9_way cX9_way 5 (some .int) ∈ lw_g := lw_gm (List.mem_of_getElem? (i := 1809) (by decide +kernel)) rfl
theorem dX9_way_0 : decode cX9_way 0 = .ok (.aload_n 0, 1) := by decide +kernel
theorem dX9_way_1 : decode cX9_way 1 = .ok (.iconst 0, 1) := by decide +kernel
theorem dX9_way_2 : decode cX9_way 2 = .ok (.putfield 129, 3) := by decide +kernel
theorem dX9_way_5 : decode cX9_way 5 = .ok (.aload_n 0, 1) := by decide +kernel
theorem dX9_way_6 : decode cX9_way 6 = .ok (.iload_n 1, 1) := by decide +kernel
theorem dX9_way_7 : decode cX9_way 7 = .ok (.invokevirtual 312, 3) := by decide +kernel
theorem dX9_way_10 : decode cX9_way 10 = .ok (.ifCond .eq 22, 3) := by decide +kernel
theorem dX9_way_13 : decode cX9_way 13 = .ok (.iload_n 2, 1) := by decide +kernel
theorem dX9_way_14 : decode cX9_way 14 = .ok (.i2l, 1) := by decide +kernel
theorem dX9_way_15 : decode cX9_way 15 = .ok (.invokestatic 353, 3) := by decide +kernel
theorem dX9_way_18 : decode cX9_way 18 = .ok (.ifCond .eq 14, 3) := by decide +kernel
theorem dX9_way_21 : decode cX9_way 21 = .ok (.iload 4, 2) := by decide +kernel
theorem dX9_way_23 : decode cX9_way 23 = .ok (.i2l, 1) := by decide +kernel
theorem dX9_way_24 : decode cX9_way 24 = .ok (.lconst 0, 1) := by decide +kernel
theorem dX9_way_25 : decode cX9_way 25 = .ok (.lconst 1, 1) := by decide +kernel
theorem dX9_way_26 : decode cX9_way 26 = .ok (.invokestatic 134, 3) := by decide +kernel
theorem dX9_way_29 : decode cX9_way 29 = .ok (.ifCond .ne 6, 3) := by decide +kernel
theorem dX9_way_32 : decode cX9_way 32 = .ok (.bipush (-2), 2) := by decide +kernel
theorem dX9_way_34 : decode cX9_way 34 = .ok (.ireturn, 1) := by decide +kernel
theorem dX9_way_35 : decode cX9_way 35 = .ok (.iload_n 3, 1) := by decide +kernel
theorem dX9_way_36 : decode cX9_way 36 = .ok (.i2l, 1) := by decide +kernel
theorem dX9_way_37 : decode cX9_way 37 = .ok (.lconst 0, 1) := by decide +kernel
theorem dX9_way_38 : decode cX9_way 38 = .ok (.aload_n 0, 1) := by decide +kernel
theorem dX9_way_39 : decode cX9_way 39 = .ok (.iload_n 1, 1) := by decide +kernel
theorem dX9_way_40 : decode cX9_way 40 = .ok (.iload_n 2, 1) := by decide +kernel
theorem dX9_way_41 : decode cX9_way 41 = .ok (.invokevirtual 375, 3) := by decide +kernel
theorem dX9_way_44 : decode cX9_way 44 = .ok (.iconst 1, 1) := by decide +kernel
theorem dX9_way_45 : decode cX9_way 45 = .ok (.isub, 1) := by decide +kernel
theorem dX9_way_46 : decode cX9_way 46 = .ok (.i2l, 1) := by decide +kernel
theorem dX9_way_47 : decode cX9_way 47 = .ok (.invokestatic 134, 3) := by decide +kernel
theorem dX9_way_50 : decode cX9_way 50 = .ok (.ifCond .ne 5, 3) := by decide +kernel
theorem dX9_way_53 : decode cX9_way 53 = .ok (.iconst (-1), 1) := by decide +kernel
theorem dX9_way_54 : decode cX9_way 54 = .ok (.ireturn, 1) := by decide +kernel
theorem dX9_way_55 : decode cX9_way 55 = .ok (.iload 4, 2) := by decide +kernel
theorem dX9_way_57 : decode cX9_way 57 = .ok (.ifCond .ne 16, 3) := by decide +kernel
theorem dX9_way_60 : decode cX9_way 60 = .ok (.aload_n 0, 1) := by decide +kernel
theorem dX9_way_61 : decode cX9_way 61 = .ok (.getfield 56, 3) := by decide +kernel
theorem dX9_way_64 : decode cX9_way 64 = .ok (.sipush 1408, 3) := by decide +kernel
theorem dX9_way_67 : decode cX9_way 67 = .ok (.iload_n 3, 1) := by decide +kernel
theorem dX9_way_68 : decode cX9_way 68 = .ok (.iadd, 1) := by decide +kernel
theorem dX9_way_69 : decode cX9_way 69 = .ok (.iaload, 1) := by decide +kernel
theorem dX9_way_70 : decode cX9_way 70 = .ok (.goto 13, 3) := by decide +kernel
theorem dX9_way_73 : decode cX9_way 73 = .ok (.aload_n 0, 1) := by decide +kernel
theorem dX9_way_74 : decode cX9_way 74 = .ok (.getfield 59, 3) := by decide +kernel
theorem dX9_way_77 : decode cX9_way 77 = .ok (.sipush 1408, 3) := by decide +kernel
theorem dX9_way_80 : decode cX9_way 80 = .ok (.iload_n 3, 1) := by decide +kernel
theorem dX9_way_81 : decode cX9_way 81 = .ok (.iadd, 1) := by decide +kernel
theorem dX9_way_82 : decode cX9_way 82 = .ok (.iaload, 1) := by decide +kernel
theorem dX9_way_83 : decode cX9_way 83 = .ok (.ireturn, 1) := by decide +kernel
set_option maxHeartbeats 4000000 in
set_option maxRecDepth 100000 in
theorem m_X9_way (l : Launch) (D : va_G) (cy : Nat → ClassId) (g : Nat → Nat) (σ : ST) (p1 : Int32) (p2 : Int32) (p3 : Int32) (p4 : Int32) (sz : Nat) (hJ : J9 (σ 9)) (kDK0 : DK0 (σ 9)) : Met l yX9_way (ww yX9_way cX9_way 5 (some .int)) ({ frames := 5, cells := 0, slots := 0, locals := 320 }) (va_Pc [.ref (g 60), .int p1, .int p2, .int p3, .int p4] (pr9 D cy g σ sz)) (qi9 D cy g sz (fun r τ => Fr (fL [0, 23, 24, 25, 26, 27]) σ τ ∧ J9 (τ 9) ∧ True)) 0 0 (A9 cy g sz) := by
  refine Met.ofW (cc := cX9_way) (maxL := 5) (ret := (some .int)) (by decide) rfl ?_
  intro p e s m args below meth c s₁ B hml hv
  obtain ⟨rfl, hsz, hP, hK, hD0, hC⟩ := hv
  have hx := B.exec
  have hb := B.bytes
  have hr := B.returns
  have hts := hts_g (atoms_spec (ws := ww yX9_way cX9_way 5 (some .int)) B.pre)
  have hown : s.vm.findClass RX9 = some m.cls := findClass_of_methodNamed B.named
  have hlocks := B.notSynchronized
  clear B
  subst hsz
  have hD := fun τ => A9_D (sz := s.heap.size) hD0 τ
  clear hD0
  have hS : va_S (A9 cy g s.heap.size) s.heap s.heap [] := va_S.rf
  have hl := lv_entry ([.ref (g 60), .int p1, .int p2, .int p3, .int p4]) (n := 5) (Nat.le_of_ble_eq_true rfl)
  rw [lg_entry_eq]
  generalize (lg_sl ([.ref (g 60), .int p1, .int p2, .int p3, .int p4]) ++ List.replicate (5 - (lg_sl ([.ref (g 60), .int p1, .int p2, .int p3, .int p4])).length) Slot.unset).toArray = ls at hl ⊢
  have hl : lv_has ls 5 [(0, .ref (g 60)), (1, .int p1), (2, .int p2), (3, .int p3), (4, .int p4)] := hl
  refine lv_aload_n hx hb dX9_way_0 rfl (lv_at hl 0 rfl) ?_
  refine lv_iconst (v := 0) hx hb dX9_way_1 (by decide) ?_
  refine p9_0 hx hb hts hown hK hP hD hS (hts _ q1360) dX9_way_2 (fun H locs σ1 eσ1 hP hS => ?_)
  have hJ2 : J9 (σ1 9) := hJ.I eσ1 (show JI9 0 (0 : Int32) from trivial)
  have T3 : DK0 (σ1 9) := DK0.mv kDK0 ((sI_f eσ1) 9 17 rfl).2.2.1 ((sI_f eσ1) 9 18 rfl).2.2.1 ((sI_f eσ1) 9 19 rfl).2.2.1
  refine lv_aload_n hx hb dX9_way_5 rfl (lv_at hl 0 rfl) ?_
  refine lv_iload_n hx hb dX9_way_6 rfl (lv_at hl 1 rfl) ?_
  refine va_calli (va_runV (As := [.int p1]) (rest := []) ⟨hx, hb, hml, hown, hts⟩ (m_X9_isBrass l D cy g σ1 p1 _ hJ2 ) (cwV 1 hts (gd_V q1701 q1703 q71 q134 q1704) rfl rfl rfl (by decide +kernel) ⟨Nat.le_of_ble_eq_true rfl, Nat.le_of_ble_eq_true rfl⟩) (pv9 hP hK hD hC hS (va_recv hK hP (ci := 9) (q0 := 0) rfl rfl)) rfl rfl hl.1 rfl (lv_room (Nat.le_of_ble_eq_true rfl)) dX9_way_7 ⟨Nat.le_of_ble_eq_true rfl, Nat.le_of_ble_eq_true rfl⟩) hS (fun q _ h => up9 hS q h) (up9 hS) (fun r4 σ5 tS H1 locs ht hvm hw6 hB hz1 hk1 hS => ?_)
  have hP : va_P D clz (WD9 cy g σ5) H1 := by rw [← ht]; exact hB
  clear hB hz1 hk1 hvm ht
  generalize H1 = H at hP hS ⊢
  have hw6E : σ1 = σ5 := (hw6.1).symm
  subst hw6E
  have b7 : (0 : Int) ≤ r4.toInt ∧ r4.toInt ≤ 1 := hw6.2.1
  have b8 : (r4.toInt = 0) ∨ ((0 : Int) ≤ p1.toInt ∧ p1.toInt ≤ 3) := hw6.2.2.1
  have b9 : (r4.toInt = 0) ∨ (0 ≤ p1.toInt ∧ p1.toInt < ((σ1 9).2.2.1 17 2).toInt) := hw6.2.2.2.1
  refine lv_if_eq (tgt := 32) hx hb dX9_way_10 (by decide) (fun c10 => ?_) (fun c10 => ?_)
  ·
    have k11 := peq32 c10
    refine lv_bipush (v := (-2)) hx hb dX9_way_32 (by decide) ?_
    exact W.iret (v := (-2)) hx hb hr (fun tS ht hW => ⟨⟨(-2), σ1, rfl, ⟨Fr.tr (Fr.rf) (sI_f eσ1) (fN_L rfl), hJ2, trivial⟩, (show va_P D clz (WD9 cy g σ1) tS.heap by rw [ht]; exact hP)⟩, hS.F ht⟩) hS.2.2 dX9_way_34
  ·
    have k12 := neq32 c10
    refine lv_iload_n hx hb dX9_way_13 rfl (lv_at hl 2 rfl) ?_
    refine lv_i2l (v := p2.toInt64) hx hb dX9_way_14 rfl ?_
    refine va_calli (va_runS (As := [.long p2.toInt64]) (rest := []) ⟨hx, hb, hml, hown, hts⟩ (m_X9_isPitch l D cy g σ1 p2.toInt64 _ hJ2 ) (va_cwS 1 hts (gd_S q1763 q1764 q134 q1765) rfl rfl rfl (by decide +kernel) ⟨Nat.le_of_ble_eq_true rfl, Nat.le_of_ble_eq_true rfl⟩) (ps9 hP hK hD hC hS) rfl rfl hl.1 rfl (lv_room (Nat.le_of_ble_eq_true rfl)) dX9_way_15 ⟨Nat.le_of_ble_eq_true rfl, Nat.le_of_ble_eq_true rfl⟩) hS (fun q _ h => up9 hS q h) (up9 hS) (fun r13 σ14 tS H1 locs ht hvm hw15 hB hz1 hk1 hS => ?_)
    have hP : va_P D clz (WD9 cy g σ14) H1 := by rw [← ht]; exact hB
    clear hB hz1 hk1 hvm ht
    generalize H1 = H at hP hS ⊢
    have hw15E : σ1 = σ14 := (hw15.1).symm
    subst hw15E
    have b16 : (0 : Int) ≤ r13.toInt ∧ r13.toInt ≤ 1 := hw15.2.1
    have b17 : (r13.toInt = 1 ∧ 0 ≤ p2.toInt64.toInt ∧ p2.toInt64.toInt ≤ 60) ∨ (r13.toInt = 0 ∧ ¬ (0 ≤ p2.toInt64.toInt ∧ p2.toInt64.toInt ≤ 60)) := hw15.2.2.1
    refine lv_if_eq (tgt := 32) hx hb dX9_way_18 (by decide) (fun c18 => ?_) (fun c18 => ?_)
    ·
      have k19 := peq32 c18
      refine lv_bipush (v := (-2)) hx hb dX9_way_32 (by decide) ?_
      exact W.iret (v := (-2)) hx hb hr (fun tS ht hW => ⟨⟨(-2), σ1, rfl, ⟨Fr.tr (Fr.rf) (sI_f eσ1) (fN_L rfl), hJ2, trivial⟩, (show va_P D clz (WD9 cy g σ1) tS.heap by rw [ht]; exact hP)⟩, hS.F ht⟩) hS.2.2 dX9_way_34
    ·
      have k20 := neq32 c18
      refine lv_iload hx hb dX9_way_21 (lv_at hl 4 rfl) ?_
      refine lv_i2l (v := p4.toInt64) hx hb dX9_way_23 rfl ?_
      refine lv_lconst (v := 0) hx hb dX9_way_24 (by decide) ?_
      refine lv_lconst (v := 1) hx hb dX9_way_25 (by decide) ?_
      refine va_calli (va_runS (As := [.long p4.toInt64, .long 0, .long 1]) (rest := []) ⟨hx, hb, hml, hown, hts⟩ (m_X9_in l D cy g σ1 p4.toInt64 (0) (1) _ hJ2 ) (va_cwS 3 hts (gd_S q1550 q1551 q134 q1552) rfl rfl rfl (by decide +kernel) ⟨Nat.le_of_ble_eq_true rfl, Nat.le_of_ble_eq_true rfl⟩) (ps9 hP hK hD hC hS) rfl rfl hl.1 rfl (lv_room (Nat.le_of_ble_eq_true rfl)) dX9_way_26 ⟨Nat.le_of_ble_eq_true rfl, Nat.le_of_ble_eq_true rfl⟩) hS (fun q _ h => up9 hS q h) (up9 hS) (fun r21 σ22 tS H1 locs ht hvm hw23 hB hz1 hk1 hS => ?_)
      have hP : va_P D clz (WD9 cy g σ22) H1 := by rw [← ht]; exact hB
      clear hB hz1 hk1 hvm ht
      generalize H1 = H at hP hS ⊢
      have hw23E : σ1 = σ22 := (hw23.1).symm
      subst hw23E
      have b24 : (0 : Int) ≤ r21.toInt ∧ r21.toInt ≤ 1 := hw23.2.1
      have b25 : (r21.toInt = 1 ∧ (0 : Int64).toInt ≤ p4.toInt64.toInt ∧ p4.toInt64.toInt ≤ (1 : Int64).toInt) ∨ (r21.toInt = 0 ∧ ¬ ((0 : Int64).toInt ≤ p4.toInt64.toInt ∧ p4.toInt64.toInt ≤ (1 : Int64).toInt)) := hw23.2.2.1
      refine lv_if_ne (tgt := 35) hx hb dX9_way_29 (by decide) (fun c26 => ?_) (fun c26 => ?_)
      ·
        have k27 := neq32 c26
        refine lv_iload_n hx hb dX9_way_35 rfl (lv_at hl 3 rfl) ?_
        refine lv_i2l (v := p3.toInt64) hx hb dX9_way_36 rfl ?_
        refine lv_lconst (v := 0) hx hb dX9_way_37 (by decide) ?_
        refine lv_aload_n hx hb dX9_way_38 rfl (lv_at hl 0 rfl) ?_
        refine lv_iload_n hx hb dX9_way_39 rfl (lv_at hl 1 rfl) ?_
        refine lv_iload_n hx hb dX9_way_40 rfl (lv_at hl 2 rfl) ?_
        refine va_calli (va_runV (As := [.int p1, .int p2]) (rest := [.long 0, .long p3.toInt64]) ⟨hx, hb, hml, hown, hts⟩ (m_X9_waysOf l D cy g σ1 p1 p2 _ hJ2 (show (0 : Int) ≤ p1.toInt ∧ p1.toInt ≤ 3 from (by have f0 := b8; have f1 := b9; have f2 := a9_17 hJ2 (j := 2) rfl; have f3 := congrArg Int32.toInt (show ((σ1 9).2.2.1 17 2) = ((σ 9).2.2.1 17 2) from congrFun (((sI_f eσ1) 9 17 rfl).2.2.1) _); have f4 := b7; have f5 := k12; have f6 := a9_17 hJ (j := 2) rfl; have g2 := rg32 p1; have z0 : (0 : Int32).toInt = 0 := (by decide); omega)) (show 100 ≤ ((σ1 9).2.2.1 18 (7 * p1.toInt.toNat + 2)).toInt from (T3.1 _ (by have f0 := a9_17 hJ2 (j := 2) rfl; have f1 := congrArg Int32.toInt (show ((σ1 9).2.2.1 17 2) = ((σ 9).2.2.1 17 2) from congrFun (((sI_f eσ1) 9 17 rfl).2.2.1) _); have f2 := b8; have f3 := b9; have f4 := a9_17 hJ (j := 2) rfl; have f5 := b7; have f6 := k12; have g2 := rg32 p1; have z0 : (0 : Int32).toInt = 0 := (by decide); omega)))) (cwV 2 hts (gd_V q1798 q1800 q85 q134 q1801) rfl rfl rfl (by decide +kernel) ⟨Nat.le_of_ble_eq_true rfl, Nat.le_of_ble_eq_true rfl⟩) (pv9 hP hK hD hC hS (va_recv hK hP (ci := 9) (q0 := 0) rfl rfl)) rfl rfl hl.1 rfl (lv_room (Nat.le_of_ble_eq_true rfl)) dX9_way_41 ⟨Nat.le_of_ble_eq_true rfl, Nat.le_of_ble_eq_true rfl⟩) hS (fun q _ h => up9 hS q h) (up9 hS) (fun r28 σ29 tS H1 locs ht hvm hw30 hB hz1 hk1 hS => ?_)
        have hP : va_P D clz (WD9 cy g σ29) H1 := by rw [← ht]; exact hB
        clear hB hz1 hk1 hvm ht
        generalize H1 = H at hP hS ⊢
        have hF31 : Fr (fL [23, 24, 25, 26, 27]) σ1 σ29 := hw30.1
        have hJ32 : J9 (σ29 9) := hw30.2.1
        have b33 : (0 : Int) ≤ r28.toInt ∧ r28.toInt ≤ 88 := hw30.2.2.1
        have T34 : DK0 (σ29 9) := DK0.mv T3 (hF31 9 17 rfl).2.2.1 (hF31 9 18 rfl).2.2.1 (hF31 9 19 rfl).2.2.1
        refine lv_iconst (v := 1) hx hb dX9_way_44 (by decide) ?_
        refine lv_isub hx hb dX9_way_45 ?_
        refine lv_topi (fun x35 ex35 => ?_)
        have t36 := subO ex35 (by have f0 := b33; have g0 := rg32 r28; have z1 : (1 : Int32).toInt = 1 := (by decide); omega)
        refine lv_i2l (v := x35.toInt64) hx hb dX9_way_46 rfl ?_
        refine va_calli (va_runS (As := [.long p3.toInt64, .long 0, .long x35.toInt64]) (rest := []) ⟨hx, hb, hml, hown, hts⟩ (m_X9_in l D cy g σ29 p3.toInt64 (0) x35.toInt64 _ hJ32 ) (va_cwS 3 hts (gd_S q1550 q1551 q134 q1552) rfl rfl rfl (by decide +kernel) ⟨Nat.le_of_ble_eq_true rfl, Nat.le_of_ble_eq_true rfl⟩) (ps9 hP hK hD hC hS) rfl rfl hl.1 rfl (lv_room (Nat.le_of_ble_eq_true rfl)) dX9_way_47 ⟨Nat.le_of_ble_eq_true rfl, Nat.le_of_ble_eq_true rfl⟩) hS (fun q _ h => up9 hS q h) (up9 hS) (fun r37 σ38 tS H1 locs ht hvm hw39 hB hz1 hk1 hS => ?_)
        have hP : va_P D clz (WD9 cy g σ38) H1 := by rw [← ht]; exact hB
        clear hB hz1 hk1 hvm ht
        generalize H1 = H at hP hS ⊢
        have hw39E : σ29 = σ38 := (hw39.1).symm
        subst hw39E
        have b40 : (0 : Int) ≤ r37.toInt ∧ r37.toInt ≤ 1 := hw39.2.1
        have b41 : (r37.toInt = 1 ∧ (0 : Int64).toInt ≤ p3.toInt64.toInt ∧ p3.toInt64.toInt ≤ x35.toInt64.toInt) ∨ (r37.toInt = 0 ∧ ¬ ((0 : Int64).toInt ≤ p3.toInt64.toInt ∧ p3.toInt64.toInt ≤ x35.toInt64.toInt)) := hw39.2.2.1
        refine lv_if_ne (tgt := 55) hx hb dX9_way_50 (by decide) (fun c42 => ?_) (fun c42 => ?_)
        ·
          have k43 := neq32 c42
          refine lv_iload hx hb dX9_way_55 (lv_at hl 4 rfl) ?_
          refine lv_if_ne (tgt := 73) hx hb dX9_way_57 (by decide) (fun c44 => ?_) (fun c44 => ?_)
          ·
            have k45 := neq32 c44
            refine lv_aload_n hx hb dX9_way_73 rfl (lv_at hl 0 rfl) ?_
            refine g9_26 hx hb hts hown hK hP (hts _ q1386) dX9_way_74 ?_
            refine lv_sipush (v := 1408) hx hb dX9_way_77 (by decide) ?_
            refine lv_iload_n hx hb dX9_way_80 rfl (lv_at hl 3 rfl) ?_
            refine lv_iadd hx hb dX9_way_81 ?_
            refine lv_topi (fun x46 ex46 => ?_)
            have t47 := addO ex46 (by have f0 := t64 (a := p3); have f1 := rg32 p3; have f2 := b41; have f3 := t64 (a := x35); have f4 := b40; have f5 := k43; have f6 := t36; have f7 := rg32 x35; have f8 := b33; have g0 := rg32 p3; have z0 : (0 : Int32).toInt = 0 := (by decide); have zl0 : (0 : Int64).toInt = 0 := (by decide); have z1 : (1 : Int32).toInt = 1 := (by decide); have z1408 : (1408 : Int32).toInt = 1408 := (by decide); have w14 := t64 (a := p3); have w15 := t64 (a := x35); omega)
            obtain ⟨x48, ex48⟩ : ∃ z, (σ29 9).2.2.1 26 x46.toInt.toNat = z := ⟨_, rfl⟩
            refine l9_26 (x := x48) hx hb hK hP (vpo (by have f0 := t47; have f1 := t64 (a := p3); have f2 := rg32 p3; have f3 := b41; have f4 := t64 (a := x35); have f5 := b40; have f6 := k43; have f7 := t36; have f8 := rg32 x35; have f9 := b33; have g1 := rg32 x46; have z0 : (0 : Int32).toInt = 0 := (by decide); have zl0 : (0 : Int64).toInt = 0 := (by decide); have z1 : (1 : Int32).toInt = 1 := (by decide); have z1408 : (1408 : Int32).toInt = 1408 := (by decide); have w15 := t64 (a := p3); have w16 := t64 (a := x35); omega)) ex48 dX9_way_82 ?_
            have t49 := a9_26 hJ32 ex48
            exact W.iret (v := x48) hx hb hr (fun tS ht hW => ⟨⟨x48, σ29, rfl, ⟨Fr.tr (Fr.tr (Fr.rf) (sI_f eσ1) (fN_L rfl)) hF31 (fL_sub rfl), hJ32, trivial⟩, (show va_P D clz (WD9 cy g σ29) tS.heap by rw [ht]; exact hP)⟩, hS.F ht⟩) hS.2.2 dX9_way_83
          ·
            have k50 := peq32 c44
            refine lv_aload_n hx hb dX9_way_60 rfl (lv_at hl 0 rfl) ?_
            refine g9_25 hx hb hts hown hK hP (hts _ q1385) dX9_way_61 ?_
            refine lv_sipush (v := 1408) hx hb dX9_way_64 (by decide) ?_
            refine lv_iload_n hx hb dX9_way_67 rfl (lv_at hl 3 rfl) ?_
            refine lv_iadd hx hb dX9_way_68 ?_
            refine lv_topi (fun x51 ex51 => ?_)
            have t52 := addO ex51 (by have f0 := t64 (a := p3); have f1 := rg32 p3; have f2 := b41; have f3 := t64 (a := x35); have f4 := b40; have f5 := k43; have f6 := t36; have f7 := rg32 x35; have f8 := b33; have g0 := rg32 p3; have z0 : (0 : Int32).toInt = 0 := (by decide); have zl0 : (0 : Int64).toInt = 0 := (by decide); have z1 : (1 : Int32).toInt = 1 := (by decide); have z1408 : (1408 : Int32).toInt = 1408 := (by decide); have w14 := t64 (a := p3); have w15 := t64 (a := x35); omega)
            obtain ⟨x53, ex53⟩ : ∃ z, (σ29 9).2.2.1 25 x51.toInt.toNat = z := ⟨_, rfl⟩
            refine l9_25 (x := x53) hx hb hK hP (vpo (by have f0 := t52; have f1 := t64 (a := p3); have f2 := rg32 p3; have f3 := b41; have f4 := t64 (a := x35); have f5 := b40; have f6 := k43; have f7 := t36; have f8 := rg32 x35; have f9 := b33; have g1 := rg32 x51; have z0 : (0 : Int32).toInt = 0 := (by decide); have zl0 : (0 : Int64).toInt = 0 := (by decide); have z1 : (1 : Int32).toInt = 1 := (by decide); have z1408 : (1408 : Int32).toInt = 1408 := (by decide); have w15 := t64 (a := p3); have w16 := t64 (a := x35); omega)) ex53 dX9_way_69 ?_
            refine lv_goto (tgt := 83) hx hb dX9_way_70 (by decide) ?_
            exact W.iret (v := x53) hx hb hr (fun tS ht hW => ⟨⟨x53, σ29, rfl, ⟨Fr.tr (Fr.tr (Fr.rf) (sI_f eσ1) (fN_L rfl)) hF31 (fL_sub rfl), hJ32, trivial⟩, (show va_P D clz (WD9 cy g σ29) tS.heap by rw [ht]; exact hP)⟩, hS.F ht⟩) hS.2.2 dX9_way_83
        ·
          have k54 := peq32 c42
          refine lv_iconst (v := (-1)) hx hb dX9_way_53 (by decide) ?_
          exact W.iret (v := (-1)) hx hb hr (fun tS ht hW => ⟨⟨(-1), σ29, rfl, ⟨Fr.tr (Fr.tr (Fr.rf) (sI_f eσ1) (fN_L rfl)) hF31 (fL_sub rfl), hJ32, trivial⟩, (show va_P D clz (WD9 cy g σ29) tS.heap by rw [ht]; exact hP)⟩, hS.F ht⟩) hS.2.2 dX9_way_54
      ·
        have k55 := peq32 c26
        refine lv_bipush (v := (-2)) hx hb dX9_way_32 (by decide) ?_
        exact W.iret (v := (-2)) hx hb hr (fun tS ht hW => ⟨⟨(-2), σ1, rfl, ⟨Fr.tr (Fr.rf) (sI_f eσ1) (fN_L rfl), hJ2, trivial⟩, (show va_P D clz (WD9 cy g σ1) tS.heap by rw [ht]; exact hP)⟩, hS.F ht⟩) hS.2.2 dX9_way_34

theorem q1813 : Cond.code yX9_range cX9_range 7 (some .int) ∈ lw_g := lw_gm (List.mem_of_getElem? (i := 1813) (by decide +kernel)) rfl
theorem dX9_range_0 : decode cX9_range 0 = .ok (.aload_n 0, 1) := by decide +kernel
theorem dX9_range_1 : decode cX9_range 1 = .ok (.iconst 0, 1) := by decide +kernel
theorem dX9_range_2 : decode cX9_range 2 = .ok (.putfield 129, 3) := by decide +kernel
theorem dX9_range_5 : decode cX9_range 5 = .ok (.aload_n 0, 1) := by decide +kernel
theorem dX9_range_6 : decode cX9_range 6 = .ok (.iload_n 1, 1) := by decide +kernel
theorem dX9_range_7 : decode cX9_range 7 = .ok (.invokevirtual 312, 3) := by decide +kernel
theorem dX9_range_10 : decode cX9_range 10 = .ok (.ifCond .eq 15, 3) := by decide +kernel
theorem dX9_range_13 : decode cX9_range 13 = .ok (.iload_n 2, 1) := by decide +kernel
theorem dX9_range_14 : decode cX9_range 14 = .ok (.i2l, 1) := by decide +kernel
theorem dX9_range_15 : decode cX9_range 15 = .ok (.lconst 0, 1) := by decide +kernel
theorem dX9_range_16 : decode cX9_range 16 = .ok (.ldc2_w 351, 3) := by decide +kernel
theorem dX9_range_19 : decode cX9_range 19 = .ok (.invokestatic 134, 3) := by decide +kernel
theorem dX9_range_22 : decode cX9_range 22 = .ok (.ifCond .ne 6, 3) := by decide +kernel
theorem dX9_range_25 : decode cX9_range 25 = .ok (.bipush (-2), 2) := by decide +kernel
theorem dX9_range_27 : decode cX9_range 27 = .ok (.ireturn, 1) := by decide +kernel
theorem dX9_range_28 : decode cX9_range 28 = .ok (.iconst (-1), 1) := by decide +kernel
theorem dX9_range_29 : decode cX9_range 29 = .ok (.istore_n 3, 1) := by decide +kernel
theorem dX9_range_30 : decode cX9_range 30 = .ok (.iconst (-1), 1) := by decide +kernel
theorem dX9_range_31 : decode cX9_range 31 = .ok (.istore 4, 2) := by decide +kernel
theorem dX9_range_33 : decode cX9_range 33 = .ok (.iconst 0, 1) := by decide +kernel
theorem dX9_range_34 : decode cX9_range 34 = .ok (.istore 5, 2) := by decide +kernel
theorem dX9_range_36 : decode cX9_range 36 = .ok (.iconst 0, 1) := by decide +kernel
theorem dX9_range_37 : decode cX9_range 37 = .ok (.istore 6, 2) := by decide +kernel
theorem dX9_range_39 : decode cX9_range 39 = .ok (.iload 6, 2) := by decide +kernel
theorem dX9_range_41 : decode cX9_range 41 = .ok (.bipush 60, 2) := by decide +kernel
theorem dX9_range_43 : decode cX9_range 43 = .ok (.if_icmp .gt 41, 3) := by decide +kernel
theorem dX9_range_46 : decode cX9_range 46 = .ok (.aload_n 0, 1) := by decide +kernel
theorem dX9_range_47 : decode cX9_range 47 = .ok (.iload_n 1, 1) := by decide +kernel
theorem dX9_range_48 : decode cX9_range 48 = .ok (.iload 6, 2) := by decide +kernel
theorem dX9_range_50 : decode cX9_range 50 = .ok (.invokevirtual 375, 3) := by decide +kernel
theorem dX9_range_53 : decode cX9_range 53 = .ok (.ifCond .ne 6, 3) := by decide +kernel
theorem dX9_range_56 : decode cX9_range 56 = .ok (.goto 22, 3) := by decide +kernel
theorem dX9_range_59 : decode cX9_range 59 = .ok (.iload_n 3, 1) := by decide +kernel
theorem dX9_range_60 : decode cX9_range 60 = .ok (.iconst (-1), 1) := by decide +kernel
theorem dX9_range_61 : decode cX9_range 61 = .ok (.if_icmp .ne 8, 3) := by decide +kernel
theorem dX9_range_64 : decode cX9_range 64 = .ok (.iload 6, 2) := by decide +kernel
theorem dX9_range_66 : decode cX9_range 66 = .ok (.goto 4, 3) := by decide +kernel
theorem dX9_range_69 : decode cX9_range 69 = .ok (.iload_n 3, 1) := by decide +kernel
theorem dX9_range_70 : decode cX9_range 70 = .ok (.istore_n 3, 1) := by decide +kernel
theorem dX9_range_71 : decode cX9_range 71 = .ok (.iload 6, 2) := by decide +kernel
theorem dX9_range_73 : decode cX9_range 73 = .ok (.istore 4, 2) := by decide +kernel
theorem dX9_range_75 : decode cX9_range 75 = .ok (.iinc 5 1, 3) := by decide +kernel
theorem dX9_range_78 : decode cX9_range 78 = .ok (.iinc 6 1, 3) := by decide +kernel
theorem dX9_range_81 : decode cX9_range 81 = .ok (.goto (-42), 3) := by decide +kernel
theorem dX9_range_84 : decode cX9_range 84 = .ok (.iload_n 3, 1) := by decide +kernel
theorem dX9_range_85 : decode cX9_range 85 = .ok (.iconst (-1), 1) := by decide +kernel
theorem dX9_range_86 : decode cX9_range 86 = .ok (.if_icmp .ne 7, 3) := by decide +kernel
theorem dX9_range_89 : decode cX9_range 89 = .ok (.iconst (-1), 1) := by decide +kernel
theorem dX9_range_90 : decode cX9_range 90 = .ok (.goto 30, 3) := by decide +kernel
theorem dX9_range_93 : decode cX9_range 93 = .ok (.iload_n 2, 1) := by decide +kernel
theorem dX9_range_94 : decode cX9_range 94 = .ok (.ifCond .ne 7, 3) := by decide +kernel
theorem dX9_range_97 : decode cX9_range 97 = .ok (.iload_n 3, 1) := by decide +kernel
theorem dX9_range_98 : decode cX9_range 98 = .ok (.goto 22, 3) := by decide +kernel
theorem dX9_range_101 : decode cX9_range 101 = .ok (.iload_n 2, 1) := by decide +kernel
theorem dX9_range_102 : decode cX9_range 102 = .ok (.iconst 1, 1) := by decide +kernel
theorem dX9_range_103 : decode cX9_range 103 = .ok (.if_icmp .ne 8, 3) := by decide +kernel
theorem dX9_range_106 : decode cX9_range 106 = .ok (.iload 4, 2) := by decide +kernel
theorem dX9_range_108 : decode cX9_range 108 = .ok (.goto 12, 3) := by decide +kernel
theorem dX9_range_111 : decode cX9_range 111 = .ok (.iload 4, 2) := by decide +kernel
theorem dX9_range_113 : decode cX9_range 113 = .ok (.iload_n 3, 1) := by decide +kernel
theorem dX9_range_114 : decode cX9_range 114 = .ok (.isub, 1) := by decide +kernel
theorem dX9_range_115 : decode cX9_range 115 = .ok (.iconst 1, 1) := by decide +kernel
theorem dX9_range_116 : decode cX9_range 116 = .ok (.iadd, 1) := by decide +kernel
theorem dX9_range_117 : decode cX9_range 117 = .ok (.iload 5, 2) := by decide +kernel
theorem dX9_range_119 : decode cX9_range 119 = .ok (.isub, 1) := by decide +kernel
theorem dX9_range_120 : decode cX9_range 120 = .ok (.ireturn, 1) := by decide +kernel
set_option maxHeartbeats 4000000 in
set_option maxRecDepth 100000 in
theorem m_X9_range (l : Launch) (D : va_G) (cy : Nat → ClassId) (g : Nat → Nat) (σ : ST) (p1 : Int32) (p2 : Int32) (sz : Nat) (hJ : J9 (σ 9)) (kDK0 : DK0 (σ 9)) : Met l yX9_range (ww yX9_range cX9_range 7 (some .int)) ({ frames := 5, cells := 0, slots := 0, locals := 320 }) (va_Pc [.ref (g 60), .int p1, .int p2] (pr9 D cy g σ sz)) (qi9 D cy g sz (fun r τ => Fr (fL [0, 23, 24, 25, 26, 27]) σ τ ∧ J9 (τ 9) ∧ True)) 0 0 (A9 cy g sz) := by
  refine Met.ofW (cc := cX9_range) (maxL := 7) (ret := (some .int)) (by decide) rfl ?_
  intro p e s m args below meth c s₁ B hml hv
  obtain ⟨rfl, hsz, hP, hK, hD0, hC⟩ := hv
  have hx := B.exec
  have hb := B.bytes
  have hr := B.returns
  have hts := hts_g (atoms_spec (ws := ww yX9_range cX9_range 7 (some .int)) B.pre)
  have hown : s.vm.findClass RX9 = some m.cls := findClass_of_methodNamed B.named
  have hlocks := B.notSynchronized
  clear B
  subst hsz
  have hD := fun τ => A9_D (sz := s.heap.size) hD0 τ
  clear hD0
  have hS : va_S (A9 cy g s.heap.size) s.heap s.heap [] := va_S.rf
  have hl := lv_entry ([.ref (g 60), .int p1, .int p2]) (n := 7) (Nat.le_of_ble_eq_true rfl)
  rw [lg_entry_eq]
  generalize (lg_sl ([.ref (g 60), .int p1, .int p2]) ++ List.replicate (7 - (lg_sl ([.ref (g 60), .int p1, .int p2])).length) Slot.unset).toArray = ls at hl ⊢
  have hl : lv_has ls 7 [(0, .ref (g 60)), (1, .int p1), (2, .int p2)] := hl
  refine lv_aload_n hx hb dX9_range_0 rfl (lv_at hl 0 rfl) ?_
  refine lv_iconst (v := 0) hx hb dX9_range_1 (by decide) ?_
  refine p9_0 hx hb hts hown hK hP hD hS (hts _ q1360) dX9_range_2 (fun H locs σ1 eσ1 hP hS => ?_)
  have hJ2 : J9 (σ1 9) := hJ.I eσ1 (show JI9 0 (0 : Int32) from trivial)
  have T3 : DK0 (σ1 9) := DK0.mv kDK0 ((sI_f eσ1) 9 17 rfl).2.2.1 ((sI_f eσ1) 9 18 rfl).2.2.1 ((sI_f eσ1) 9 19 rfl).2.2.1
  refine lv_aload_n hx hb dX9_range_5 rfl (lv_at hl 0 rfl) ?_
  refine lv_iload_n hx hb dX9_range_6 rfl (lv_at hl 1 rfl) ?_
  refine va_calli (va_runV (As := [.int p1]) (rest := []) ⟨hx, hb, hml, hown, hts⟩ (m_X9_isBrass l D cy g σ1 p1 _ hJ2 ) (cwV 1 hts (gd_V q1701 q1703 q71 q134 q1704) rfl rfl rfl (by decide +kernel) ⟨Nat.le_of_ble_eq_true rfl, Nat.le_of_ble_eq_true rfl⟩) (pv9 hP hK hD hC hS (va_recv hK hP (ci := 9) (q0 := 0) rfl rfl)) rfl rfl hl.1 rfl (lv_room (Nat.le_of_ble_eq_true rfl)) dX9_range_7 ⟨Nat.le_of_ble_eq_true rfl, Nat.le_of_ble_eq_true rfl⟩) hS (fun q _ h => up9 hS q h) (up9 hS) (fun r4 σ5 tS H1 locs ht hvm hw6 hB hz1 hk1 hS => ?_)
  have hP : va_P D clz (WD9 cy g σ5) H1 := by rw [← ht]; exact hB
  clear hB hz1 hk1 hvm ht
  generalize H1 = H at hP hS ⊢
  have hw6E : σ1 = σ5 := (hw6.1).symm
  subst hw6E
  have b7 : (0 : Int) ≤ r4.toInt ∧ r4.toInt ≤ 1 := hw6.2.1
  have b8 : (r4.toInt = 0) ∨ ((0 : Int) ≤ p1.toInt ∧ p1.toInt ≤ 3) := hw6.2.2.1
  have b9 : (r4.toInt = 0) ∨ (0 ≤ p1.toInt ∧ p1.toInt < ((σ1 9).2.2.1 17 2).toInt) := hw6.2.2.2.1
  refine lv_if_eq (tgt := 25) hx hb dX9_range_10 (by decide) (fun c10 => ?_) (fun c10 => ?_)
  ·
    have k11 := peq32 c10
    refine lv_bipush (v := (-2)) hx hb dX9_range_25 (by decide) ?_
    exact W.iret (v := (-2)) hx hb hr (fun tS ht hW => ⟨⟨(-2), σ1, rfl, ⟨Fr.tr (Fr.rf) (sI_f eσ1) (fN_L rfl), hJ2, trivial⟩, (show va_P D clz (WD9 cy g σ1) tS.heap by rw [ht]; exact hP)⟩, hS.F ht⟩) hS.2.2 dX9_range_27
  ·
    have k12 := neq32 c10
    refine lv_iload_n hx hb dX9_range_13 rfl (lv_at hl 2 rfl) ?_
    refine lv_i2l (v := p2.toInt64) hx hb dX9_range_14 rfl ?_
    refine lv_lconst (v := 0) hx hb dX9_range_15 (by decide) ?_
    refine lv_ldc2 (v := 2) hx hb hown (hts _ q1771) dX9_range_16 ?_
    refine va_calli (va_runS (As := [.long p2.toInt64, .long 0, .long 2]) (rest := []) ⟨hx, hb, hml, hown, hts⟩ (m_X9_in l D cy g σ1 p2.toInt64 (0) (2) _ hJ2 ) (va_cwS 3 hts (gd_S q1550 q1551 q134 q1552) rfl rfl rfl (by decide +kernel) ⟨Nat.le_of_ble_eq_true rfl, Nat.le_of_ble_eq_true rfl⟩) (ps9 hP hK hD hC hS) rfl rfl hl.1 rfl (lv_room (Nat.le_of_ble_eq_true rfl)) dX9_range_19 ⟨Nat.le_of_ble_eq_true rfl, Nat.le_of_ble_eq_true rfl⟩) hS (fun q _ h => up9 hS q h) (up9 hS) (fun r13 σ14 tS H1 locs ht hvm hw15 hB hz1 hk1 hS => ?_)
    have hP : va_P D clz (WD9 cy g σ14) H1 := by rw [← ht]; exact hB
    clear hB hz1 hk1 hvm ht
    generalize H1 = H at hP hS ⊢
    have hw15E : σ1 = σ14 := (hw15.1).symm
    subst hw15E
    have b16 : (0 : Int) ≤ r13.toInt ∧ r13.toInt ≤ 1 := hw15.2.1
    have b17 : (r13.toInt = 1 ∧ (0 : Int64).toInt ≤ p2.toInt64.toInt ∧ p2.toInt64.toInt ≤ (2 : Int64).toInt) ∨ (r13.toInt = 0 ∧ ¬ ((0 : Int64).toInt ≤ p2.toInt64.toInt ∧ p2.toInt64.toInt ≤ (2 : Int64).toInt)) := hw15.2.2.1
    refine lv_if_ne (tgt := 28) hx hb dX9_range_22 (by decide) (fun c18 => ?_) (fun c18 => ?_)
    ·
      have k19 := neq32 c18
      refine lv_iconst (v := (-1)) hx hb dX9_range_28 (by decide) ?_
      refine lv_istore_n (lv' := [(3, .int (-1)), (0, .ref (g 60)), (1, .int p1), (2, .int p2)]) hx hb dX9_range_29 rfl hl (by decide) rfl (fun ls hl => ?_)
      refine lv_iconst (v := (-1)) hx hb dX9_range_30 (by decide) ?_
      refine lv_istore (lv' := [(4, .int (-1)), (3, .int (-1)), (0, .ref (g 60)), (1, .int p1), (2, .int p2)]) hx hb dX9_range_31 hl (by decide) rfl (fun ls hl => ?_)
      refine lv_iconst (v := 0) hx hb dX9_range_33 (by decide) ?_
      refine lv_istore (lv' := [(5, .int 0), (4, .int (-1)), (3, .int (-1)), (0, .ref (g 60)), (1, .int p1), (2, .int p2)]) hx hb dX9_range_34 hl (by decide) rfl (fun ls hl => ?_)
      refine lv_iconst (v := 0) hx hb dX9_range_36 (by decide) ?_
      refine lv_istore (lv' := [(6, .int 0), (5, .int 0), (4, .int (-1)), (3, .int (-1)), (0, .ref (g 60)), (1, .int p1), (2, .int p2)]) hx hb dX9_range_37 hl (by decide) rfl (fun ls hl => ?_)
      refine loop9 7 39 (fun x : LZ => [(6, .int (x.2.1 0)), (5, .int (x.2.1 1)), (4, .int (x.2.1 2)), (3, .int (x.2.1 3)), (0, .ref (g 60)), (1, .int p1), (2, .int p2)]) (fun x : LZ => (Fr (fL [23, 24, 25, 26, 27]) σ1 x.1) ∧ (J9 (x.1 9)) ∧ ((0 : Int) ≤ (x.2.1 0).toInt ∧ (x.2.1 0).toInt ≤ 61) ∧ ((-1 : Int) ≤ (x.2.1 2).toInt ∧ (x.2.1 2).toInt ≤ 60) ∧ ((-1 : Int) ≤ (x.2.1 3).toInt ∧ (x.2.1 3).toInt ≤ 60) ∧ (DK0 (x.1 9)) ∧ True) (fun x : LZ => ((62 : Int) - (x.2.1 0).toInt).toNat) ?_ (σ1, lf [0, 0, (-1), (-1)], lg []) ⟨Fr.rf, hJ2, (show (0 : Int) ≤ (0 : Int32).toInt ∧ (0 : Int32).toInt ≤ 61 from (by have z0 : (0 : Int32).toInt = 0 := (by decide); omega)), (show (-1 : Int) ≤ ((-1) : Int32).toInt ∧ ((-1) : Int32).toInt ≤ 60 from (by have zm1 : ((-1) : Int32).toInt = (-1) := (by decide); omega)), (show (-1 : Int) ≤ ((-1) : Int32).toInt ∧ ((-1) : Int32).toInt ≤ 60 from (by have zm1 : ((-1) : Int32).toInt = (-1) := (by decide); omega)), (show DK0 (σ1 9) from T3), trivial⟩ _ _ _ hP hS (lv_sub hl [0, 1, 2, 3, 4, 5, 6] rfl)
      intro y22 hI21 nl20 H locs ls hP hS hl
      obtain ⟨σ23, eσ23⟩ : ∃ z, z = y22.1 := ⟨_, rfl⟩
      rw [← eσ23] at hP hI21
      have hF24 : Fr (fL [23, 24, 25, 26, 27]) σ1 σ23 := hI21.1
      have hJ25 : J9 (σ23 9) := hI21.2.1
      have b26 : (0 : Int) ≤ (y22.2.1 0).toInt ∧ (y22.2.1 0).toInt ≤ 61 := hI21.2.2.1
      have b27 : (-1 : Int) ≤ (y22.2.1 2).toInt ∧ (y22.2.1 2).toInt ≤ 60 := hI21.2.2.2.1
      have b28 : (-1 : Int) ≤ (y22.2.1 3).toInt ∧ (y22.2.1 3).toInt ≤ 60 := hI21.2.2.2.2.1
      have b29 : DK0 (σ23 9) := hI21.2.2.2.2.2.1
      have hl : lv_has ls 7 [(6, .int (y22.2.1 0)), (5, .int (y22.2.1 1)), (4, .int (y22.2.1 2)), (3, .int (y22.2.1 3)), (0, .ref (g 60)), (1, .int p1), (2, .int p2)] := hl
      refine lv_iload hx hb dX9_range_39 (lv_at hl 0 rfl) ?_
      refine lv_bipush (v := 60) hx hb dX9_range_41 (by decide) ?_
      refine lv_icmp_gt (tgt := 84) hx hb dX9_range_43 (by decide) (fun c30 => ?_) (fun c30 => ?_)
      ·
        have k31 := plt32 c30
        refine lv_iload_n hx hb dX9_range_84 rfl (lv_at hl 3 rfl) ?_
        refine lv_iconst (v := (-1)) hx hb dX9_range_85 (by decide) ?_
        refine lv_icmp_ne (tgt := 93) hx hb dX9_range_86 (by decide) (fun c32 => ?_) (fun c32 => ?_)
        ·
          have k33 := neq32 c32
          refine lv_iload_n hx hb dX9_range_93 rfl (lv_at hl 6 rfl) ?_
          refine lv_if_ne (tgt := 101) hx hb dX9_range_94 (by decide) (fun c34 => ?_) (fun c34 => ?_)
          ·
            have k35 := neq32 c34
            refine lv_iload_n hx hb dX9_range_101 rfl (lv_at hl 6 rfl) ?_
            refine lv_iconst (v := 1) hx hb dX9_range_102 (by decide) ?_
            refine lv_icmp_ne (tgt := 111) hx hb dX9_range_103 (by decide) (fun c36 => ?_) (fun c36 => ?_)
            ·
              have k37 := neq32 c36
              refine lv_iload hx hb dX9_range_111 (lv_at hl 2 rfl) ?_
              refine lv_iload_n hx hb dX9_range_113 rfl (lv_at hl 3 rfl) ?_
              refine lv_isub hx hb dX9_range_114 ?_
              refine lv_topi (fun x38 ex38 => ?_)
              have t39 := subO ex38 (by have f0 := b27; have f1 := b28; have f2 := k33; have g0 := rg32 (y22.2.1 2); have g1 := rg32 (y22.2.1 3); have zm1 : ((-1) : Int32).toInt = (-1) := (by decide); omega)
              refine lv_iconst (v := 1) hx hb dX9_range_115 (by decide) ?_
              refine lv_iadd hx hb dX9_range_116 ?_
              refine lv_topi (fun x40 ex40 => ?_)
              have t41 := addO ex40 (by have f0 := t39; have f1 := b27; have f2 := b28; have f3 := k33; have g0 := rg32 x38; have zm1 : ((-1) : Int32).toInt = (-1) := (by decide); have z1 : (1 : Int32).toInt = 1 := (by decide); omega)
              refine lv_iload hx hb dX9_range_117 (lv_at hl 1 rfl) ?_
              refine lv_isub hx hb dX9_range_119 ?_
              refine lv_topi (fun x42 ex42 => ?_)
              exact W.iret (v := x42) hx hb hr (fun tS ht hW => ⟨⟨x42, σ23, rfl, ⟨Fr.tr (Fr.tr (Fr.rf) (sI_f eσ1) (fN_L rfl)) hF24 (fL_sub rfl), hJ25, trivial⟩, (show va_P D clz (WD9 cy g σ23) tS.heap by rw [ht]; exact hP)⟩, hS.F ht⟩) hS.2.2 dX9_range_120
            ·
              have k43 := peq32 c36
              refine lv_iload hx hb dX9_range_106 (lv_at hl 2 rfl) ?_
              refine lv_goto (tgt := 120) hx hb dX9_range_108 (by decide) ?_
              exact W.iret (v := (y22.2.1 2)) hx hb hr (fun tS ht hW => ⟨⟨(y22.2.1 2), σ23, rfl, ⟨Fr.tr (Fr.tr (Fr.rf) (sI_f eσ1) (fN_L rfl)) hF24 (fL_sub rfl), hJ25, trivial⟩, (show va_P D clz (WD9 cy g σ23) tS.heap by rw [ht]; exact hP)⟩, hS.F ht⟩) hS.2.2 dX9_range_120
          ·
            have k44 := peq32 c34
            refine lv_iload_n hx hb dX9_range_97 rfl (lv_at hl 3 rfl) ?_
            refine lv_goto (tgt := 120) hx hb dX9_range_98 (by decide) ?_
            exact W.iret (v := (y22.2.1 3)) hx hb hr (fun tS ht hW => ⟨⟨(y22.2.1 3), σ23, rfl, ⟨Fr.tr (Fr.tr (Fr.rf) (sI_f eσ1) (fN_L rfl)) hF24 (fL_sub rfl), hJ25, trivial⟩, (show va_P D clz (WD9 cy g σ23) tS.heap by rw [ht]; exact hP)⟩, hS.F ht⟩) hS.2.2 dX9_range_120
        ·
          have k45 := peq32 c32
          refine lv_iconst (v := (-1)) hx hb dX9_range_89 (by decide) ?_
          refine lv_goto (tgt := 120) hx hb dX9_range_90 (by decide) ?_
          exact W.iret (v := (-1)) hx hb hr (fun tS ht hW => ⟨⟨(-1), σ23, rfl, ⟨Fr.tr (Fr.tr (Fr.rf) (sI_f eσ1) (fN_L rfl)) hF24 (fL_sub rfl), hJ25, trivial⟩, (show va_P D clz (WD9 cy g σ23) tS.heap by rw [ht]; exact hP)⟩, hS.F ht⟩) hS.2.2 dX9_range_120
      ·
        have k46 := nlt32 c30
        refine lv_aload_n hx hb dX9_range_46 rfl (lv_at hl 4 rfl) ?_
        refine lv_iload_n hx hb dX9_range_47 rfl (lv_at hl 5 rfl) ?_
        refine lv_iload hx hb dX9_range_48 (lv_at hl 0 rfl) ?_
        refine va_calli (va_runV (As := [.int p1, .int (y22.2.1 0)]) (rest := []) ⟨hx, hb, hml, hown, hts⟩ (m_X9_waysOf l D cy g σ23 p1 (y22.2.1 0) _ hJ25 (show (0 : Int) ≤ p1.toInt ∧ p1.toInt ≤ 3 from (by have f0 := b8; have f1 := b9; have f2 := a9_17 hJ2 (j := 2) rfl; have f3 := congrArg Int32.toInt (show ((σ1 9).2.2.1 17 2) = ((σ 9).2.2.1 17 2) from congrFun (((sI_f eσ1) 9 17 rfl).2.2.1) _); have f4 := b7; have f5 := k12; have f6 := a9_17 hJ (j := 2) rfl; have g2 := rg32 p1; have z0 : (0 : Int32).toInt = 0 := (by decide); omega)) (show 100 ≤ ((σ23 9).2.2.1 18 (7 * p1.toInt.toNat + 2)).toInt from (b29.1 _ (by have f0 := a9_17 hJ25 (j := 2) rfl; have f1 := congrArg Int32.toInt (show ((σ23 9).2.2.1 17 2) = ((σ 9).2.2.1 17 2) from congrFun (((hF24 9 17 rfl).2.2.1).trans (((sI_f eσ1) 9 17 rfl).2.2.1)) _); have f2 := b8; have f3 := b9; have f4 := a9_17 hJ (j := 2) rfl; have f5 := a9_17 hJ2 (j := 2) rfl; have f6 := congrArg Int32.toInt (show ((σ1 9).2.2.1 17 2) = ((σ 9).2.2.1 17 2) from congrFun (((sI_f eσ1) 9 17 rfl).2.2.1) _); have f7 := b7; have f8 := k12; have g3 := rg32 p1; have z0 : (0 : Int32).toInt = 0 := (by decide); omega)))) (cwV 2 hts (gd_V q1798 q1800 q85 q134 q1801) rfl rfl rfl (by decide +kernel) ⟨Nat.le_of_ble_eq_true rfl, Nat.le_of_ble_eq_true rfl⟩) (pv9 hP hK hD hC hS (va_recv hK hP (ci := 9) (q0 := 0) rfl rfl)) rfl rfl hl.1 rfl (lv_room (Nat.le_of_ble_eq_true rfl)) dX9_range_50 ⟨Nat.le_of_ble_eq_true rfl, Nat.le_of_ble_eq_true rfl⟩) hS (fun q _ h => up9 hS q h) (up9 hS) (fun r47 σ48 tS H1 locs ht hvm hw49 hB hz1 hk1 hS => ?_)
        have hP : va_P D clz (WD9 cy g σ48) H1 := by rw [← ht]; exact hB
        clear hB hz1 hk1 hvm ht
        generalize H1 = H at hP hS ⊢
        have hF50 : Fr (fL [23, 24, 25, 26, 27]) σ23 σ48 := hw49.1
        have hJ51 : J9 (σ48 9) := hw49.2.1
        have b52 : (0 : Int) ≤ r47.toInt ∧ r47.toInt ≤ 88 := hw49.2.2.1
        have T53 : DK0 (σ48 9) := DK0.mv b29 (hF50 9 17 rfl).2.2.1 (hF50 9 18 rfl).2.2.1 (hF50 9 19 rfl).2.2.1
        refine cut9 (D := D) (cy := cy) (g := g) (A := A9 cy g s.heap.size) (H0 := s.heap) 7 78 (fun x : LZ => [(6, .int (y22.2.1 0)), (5, .int (x.2.1 0)), (4, .int (x.2.1 1)), (3, .int (x.2.1 2)), (0, .ref (g 60)), (1, .int p1), (2, .int p2)]) (fun x : LZ => []) (fun x : LZ => (x.1 = σ48) ∧ ((-1 : Int) ≤ (x.2.1 1).toInt ∧ (x.2.1 1).toInt ≤ 60) ∧ ((-1 : Int) ≤ (x.2.1 2).toInt ∧ (x.2.1 2).toInt ≤ 60) ∧ (DK0 (σ48 9)) ∧ True) ?_ ?_
        ·
          intro y56 hI55 H locs ls hP hS hl
          rw [show y56.1 = σ48 from hI55.1] at hP
          have b57 : (-1 : Int) ≤ (y56.2.1 1).toInt ∧ (y56.2.1 1).toInt ≤ 60 := hI55.2.1
          have b58 : (-1 : Int) ≤ (y56.2.1 2).toInt ∧ (y56.2.1 2).toInt ≤ 60 := hI55.2.2.1
          have b59 : DK0 (σ48 9) := hI55.2.2.2.1
          have hl : lv_has ls 7 [(6, .int (y22.2.1 0)), (5, .int (y56.2.1 0)), (4, .int (y56.2.1 1)), (3, .int (y56.2.1 2)), (0, .ref (g 60)), (1, .int p1), (2, .int p2)] := hl
          obtain ⟨x60, ex60⟩ : ∃ y : Int32, y = (y22.2.1 0) + 1 := ⟨_, rfl⟩
          have t61 := addO ex60 (by have f0 := b26; have f1 := k46; have g0 := rg32 (y22.2.1 0); have z1 : (1 : Int32).toInt = 1 := (by decide); have z60 : (60 : Int32).toInt = 60 := (by decide); omega)
          refine lv_iinc (v := x60) (lv' := [(6, .int x60), (5, .int (y56.2.1 0)), (4, .int (y56.2.1 1)), (3, .int (y56.2.1 2)), (0, .ref (g 60)), (1, .int p1), (2, .int p2)]) hx hb dX9_range_78 hl (k := 0) rfl (by rw [ex60]; rfl) (by decide) rfl (fun ls hl => ?_)
          refine lv_goto (tgt := 39) hx hb dX9_range_81 (by decide) ?_
          have t62 : ((62 : Int) - x60.toInt).toNat < ((62 : Int) - (y22.2.1 0).toInt).toNat := (by have f0 := b26; have f1 := k46; have f2 := t61; have g0 := rg32 (y22.2.1 0); have g1 := rg32 x60; have z1 : (1 : Int32).toInt = 1 := (by decide); have z60 : (60 : Int32).toInt = 60 := (by decide); omega)
          exact nl20 (σ48, lf [x60, (y56.2.1 0), (y56.2.1 1), (y56.2.1 2)], lg []) ⟨Fr.tr (Fr.tr (Fr.rf) hF24 (fL_sub rfl)) hF50 (fL_sub rfl), hJ51, (show (0 : Int) ≤ (x60 : Int32).toInt ∧ (x60 : Int32).toInt ≤ 61 from (by have f0 := t61; have f1 := b26; have f2 := k46; have g0 := rg32 x60; have z1 : (1 : Int32).toInt = 1 := (by decide); have z60 : (60 : Int32).toInt = 60 := (by decide); omega)), (show (-1 : Int) ≤ ((y56.2.1 1) : Int32).toInt ∧ ((y56.2.1 1) : Int32).toInt ≤ 60 from (by have f0 := b57; have g0 := rg32 (y56.2.1 1); omega)), (show (-1 : Int) ≤ ((y56.2.1 2) : Int32).toInt ∧ ((y56.2.1 2) : Int32).toInt ≤ 60 from (by have f0 := b58; have g0 := rg32 (y56.2.1 2); omega)), (show DK0 (σ48 9) from b59), trivial⟩ (show ((62 : Int) - x60.toInt).toNat < _ from by first | exact t62 | (rw [← eσ23]; exact t62)) _ _ _ hP hS (lv_sub hl [0, 1, 2, 3, 4, 5, 6] rfl)
        ·
          intro nj54
          refine lv_if_ne (tgt := 59) hx hb dX9_range_53 (by decide) (fun c63 => ?_) (fun c63 => ?_)
          ·
            have k64 := neq32 c63
            refine lv_iload_n hx hb dX9_range_59 rfl (lv_at hl 3 rfl) ?_
            refine lv_iconst (v := (-1)) hx hb dX9_range_60 (by decide) ?_
            refine cut9 (D := D) (cy := cy) (g := g) (A := A9 cy g s.heap.size) (H0 := s.heap) 7 70 (fun x : LZ => [(6, .int (y22.2.1 0)), (5, .int (y22.2.1 1)), (4, .int (y22.2.1 2)), (3, .int (y22.2.1 3)), (0, .ref (g 60)), (1, .int p1), (2, .int p2)]) (fun x : LZ => [.int (x.2.1 0)]) (fun x : LZ => (x.1 = σ48) ∧ ((0 : Int) ≤ (x.2.1 0).toInt ∧ (x.2.1 0).toInt ≤ 60) ∧ (DK0 (σ48 9)) ∧ True) ?_ ?_
            ·
              intro y67 hI66 H locs ls hP hS hl
              rw [show y67.1 = σ48 from hI66.1] at hP
              have b68 : (0 : Int) ≤ (y67.2.1 0).toInt ∧ (y67.2.1 0).toInt ≤ 60 := hI66.2.1
              have b69 : DK0 (σ48 9) := hI66.2.2.1
              have hl : lv_has ls 7 [(6, .int (y22.2.1 0)), (5, .int (y22.2.1 1)), (4, .int (y22.2.1 2)), (3, .int (y22.2.1 3)), (0, .ref (g 60)), (1, .int p1), (2, .int p2)] := hl
              refine W.eq (g2 := F0 m 70 ls [.int (y67.2.1 0)]) rfl ?_
              refine lv_istore_n (lv' := [(3, .int (y67.2.1 0)), (6, .int (y22.2.1 0)), (5, .int (y22.2.1 1)), (4, .int (y22.2.1 2)), (0, .ref (g 60)), (1, .int p1), (2, .int p2)]) hx hb dX9_range_70 rfl hl (by decide) rfl (fun ls hl => ?_)
              refine lv_iload hx hb dX9_range_71 (lv_at hl 1 rfl) ?_
              refine lv_istore (lv' := [(4, .int (y22.2.1 0)), (3, .int (y67.2.1 0)), (6, .int (y22.2.1 0)), (5, .int (y22.2.1 1)), (0, .ref (g 60)), (1, .int p1), (2, .int p2)]) hx hb dX9_range_73 hl (by decide) rfl (fun ls hl => ?_)
              obtain ⟨x70, ex70⟩ : ∃ y : Int32, y = (y22.2.1 1) + 1 := ⟨_, rfl⟩
              refine lv_iinc (v := x70) (lv' := [(5, .int x70), (4, .int (y22.2.1 0)), (3, .int (y67.2.1 0)), (6, .int (y22.2.1 0)), (0, .ref (g 60)), (1, .int p1), (2, .int p2)]) hx hb dX9_range_75 hl (k := 3) rfl (by rw [ex70]; rfl) (by decide) rfl (fun ls hl => ?_)
              exact nj54 (σ48, lf [x70, (y22.2.1 0), (y67.2.1 0)], lg []) ⟨rfl, (show (-1 : Int) ≤ ((y22.2.1 0) : Int32).toInt ∧ ((y22.2.1 0) : Int32).toInt ≤ 60 from (by have f0 := b26; have f1 := k46; have g0 := rg32 (y22.2.1 0); have z60 : (60 : Int32).toInt = 60 := (by decide); omega)), (show (-1 : Int) ≤ ((y67.2.1 0) : Int32).toInt ∧ ((y67.2.1 0) : Int32).toInt ≤ 60 from (by have f0 := b68; have g0 := rg32 (y67.2.1 0); omega)), (show DK0 (σ48 9) from b69), trivial⟩ _ _ _ hP hS (lv_sub hl [3, 0, 1, 2, 4, 5, 6] rfl)
            ·
              intro nj65
              refine lv_icmp_ne (tgt := 69) hx hb dX9_range_61 (by decide) (fun c71 => ?_) (fun c71 => ?_)
              ·
                have k72 := neq32 c71
                refine lv_iload_n hx hb dX9_range_69 rfl (lv_at hl 3 rfl) ?_
                exact nj65 (σ48, lf [(y22.2.1 3)], lg []) ⟨rfl, (show (0 : Int) ≤ ((y22.2.1 3) : Int32).toInt ∧ ((y22.2.1 3) : Int32).toInt ≤ 60 from (by have f0 := b28; have f1 := k72; have g0 := rg32 (y22.2.1 3); have zm1 : ((-1) : Int32).toInt = (-1) := (by decide); omega)), (show DK0 (σ48 9) from T53), trivial⟩ _ _ _ hP hS (lv_sub hl [0, 1, 2, 3, 4, 5, 6] rfl)
              ·
                have k73 := peq32 c71
                refine lv_iload hx hb dX9_range_64 (lv_at hl 0 rfl) ?_
                refine lv_goto (tgt := 70) hx hb dX9_range_66 (by decide) ?_
                exact nj65 (σ48, lf [(y22.2.1 0)], lg []) ⟨rfl, (show (0 : Int) ≤ ((y22.2.1 0) : Int32).toInt ∧ ((y22.2.1 0) : Int32).toInt ≤ 60 from (by have f0 := b26; have f1 := k46; have g0 := rg32 (y22.2.1 0); have z60 : (60 : Int32).toInt = 60 := (by decide); omega)), (show DK0 (σ48 9) from T53), trivial⟩ _ _ _ hP hS (lv_sub hl [0, 1, 2, 3, 4, 5, 6] rfl)
          ·
            have k74 := peq32 c63
            refine lv_goto (tgt := 78) hx hb dX9_range_56 (by decide) ?_
            exact nj54 (σ48, lf [(y22.2.1 1), (y22.2.1 2), (y22.2.1 3)], lg []) ⟨rfl, (show (-1 : Int) ≤ ((y22.2.1 2) : Int32).toInt ∧ ((y22.2.1 2) : Int32).toInt ≤ 60 from (by have f0 := b27; have g0 := rg32 (y22.2.1 2); omega)), (show (-1 : Int) ≤ ((y22.2.1 3) : Int32).toInt ∧ ((y22.2.1 3) : Int32).toInt ≤ 60 from (by have f0 := b28; have g0 := rg32 (y22.2.1 3); omega)), (show DK0 (σ48 9) from T53), trivial⟩ _ _ _ hP hS (lv_sub hl [0, 1, 2, 3, 4, 5, 6] rfl)
    ·
      have k75 := peq32 c18
      refine lv_bipush (v := (-2)) hx hb dX9_range_25 (by decide) ?_
      exact W.iret (v := (-2)) hx hb hr (fun tS ht hW => ⟨⟨(-2), σ1, rfl, ⟨Fr.tr (Fr.rf) (sI_f eσ1) (fN_L rfl), hJ2, trivial⟩, (show va_P D clz (WD9 cy g σ1) tS.heap by rw [ht]; exact hP)⟩, hS.F ht⟩) hS.2.2 dX9_range_27

theorem q1817 : Cond.code yX9_common cX9_common 5 (some .int) ∈ lw_g := lw_gm (List.mem_of_getElem? (i := 1817) (by decide +kernel)) rfl
theorem dX9_common_0 : decode cX9_common 0 = .ok (.aload_n 0, 1) := by decide +kernel
theorem dX9_common_1 : decode cX9_common 1 = .ok (.iconst 0, 1) := by decide +kernel
theorem dX9_common_2 : decode cX9_common 2 = .ok (.putfield 129, 3) := by decide +kernel
theorem dX9_common_5 : decode cX9_common 5 = .ok (.aload_n 0, 1) := by decide +kernel
theorem dX9_common_6 : decode cX9_common 6 = .ok (.iload_n 1, 1) := by decide +kernel
theorem dX9_common_7 : decode cX9_common 7 = .ok (.invokevirtual 312, 3) := by decide +kernel
theorem dX9_common_10 : decode cX9_common 10 = .ok (.ifCond .eq 16, 3) := by decide +kernel
theorem dX9_common_13 : decode cX9_common 13 = .ok (.aload_n 0, 1) := by decide +kernel
theorem dX9_common_14 : decode cX9_common 14 = .ok (.iload_n 2, 1) := by decide +kernel
theorem dX9_common_15 : decode cX9_common 15 = .ok (.invokevirtual 312, 3) := by decide +kernel
theorem dX9_common_18 : decode cX9_common 18 = .ok (.ifCond .eq 8, 3) := by decide +kernel
theorem dX9_common_21 : decode cX9_common 21 = .ok (.iload_n 1, 1) := by decide +kernel
theorem dX9_common_22 : decode cX9_common 22 = .ok (.iload_n 2, 1) := by decide +kernel
theorem dX9_common_23 : decode cX9_common 23 = .ok (.if_icmp .ne 6, 3) := by decide +kernel
theorem dX9_common_26 : decode cX9_common 26 = .ok (.bipush (-2), 2) := by decide +kernel
theorem dX9_common_28 : decode cX9_common 28 = .ok (.ireturn, 1) := by decide +kernel
theorem dX9_common_29 : decode cX9_common 29 = .ok (.iconst 0, 1) := by decide +kernel
theorem dX9_common_30 : decode cX9_common 30 = .ok (.istore_n 3, 1) := by decide +kernel
theorem dX9_common_31 : decode cX9_common 31 = .ok (.iconst 0, 1) := by decide +kernel
theorem dX9_common_32 : decode cX9_common 32 = .ok (.istore 4, 2) := by decide +kernel
theorem dX9_common_34 : decode cX9_common 34 = .ok (.iload 4, 2) := by decide +kernel
theorem dX9_common_36 : decode cX9_common 36 = .ok (.bipush 60, 2) := by decide +kernel
theorem dX9_common_38 : decode cX9_common 38 = .ok (.if_icmp .gt 37, 3) := by decide +kernel
theorem dX9_common_41 : decode cX9_common 41 = .ok (.iload_n 3, 1) := by decide +kernel
theorem dX9_common_42 : decode cX9_common 42 = .ok (.aload_n 0, 1) := by decide +kernel
theorem dX9_common_43 : decode cX9_common 43 = .ok (.iload_n 1, 1) := by decide +kernel
theorem dX9_common_44 : decode cX9_common 44 = .ok (.iload 4, 2) := by decide +kernel
theorem dX9_common_46 : decode cX9_common 46 = .ok (.invokevirtual 375, 3) := by decide +kernel
theorem dX9_common_49 : decode cX9_common 49 = .ok (.ifCond .le 17, 3) := by decide +kernel
theorem dX9_common_52 : decode cX9_common 52 = .ok (.aload_n 0, 1) := by decide +kernel
theorem dX9_common_53 : decode cX9_common 53 = .ok (.iload_n 2, 1) := by decide +kernel
theorem dX9_common_54 : decode cX9_common 54 = .ok (.iload 4, 2) := by decide +kernel
theorem dX9_common_56 : decode cX9_common 56 = .ok (.invokevirtual 375, 3) := by decide +kernel
theorem dX9_common_59 : decode cX9_common 59 = .ok (.ifCond .le 7, 3) := by decide +kernel
theorem dX9_common_62 : decode cX9_common 62 = .ok (.iconst 1, 1) := by decide +kernel
theorem dX9_common_63 : decode cX9_common 63 = .ok (.goto 4, 3) := by decide +kernel
theorem dX9_common_66 : decode cX9_common 66 = .ok (.iconst 0, 1) := by decide +kernel
theorem dX9_common_67 : decode cX9_common 67 = .ok (.iadd, 1) := by decide +kernel
theorem dX9_common_68 : decode cX9_common 68 = .ok (.istore_n 3, 1) := by decide +kernel
theorem dX9_common_69 : decode cX9_common 69 = .ok (.iinc 4 1, 3) := by decide +kernel
theorem dX9_common_72 : decode cX9_common 72 = .ok (.goto (-38), 3) := by decide +kernel
theorem dX9_common_75 : decode cX9_common 75 = .ok (.iload_n 3, 1) := by decide +kernel
theorem dX9_common_76 : decode cX9_common 76 = .ok (.ireturn, 1) := by decide +kernel
set_option maxHeartbeats 4000000 in
set_option maxRecDepth 100000 in
theorem m_X9_common (l : Launch) (D : va_G) (cy : Nat → ClassId) (g : Nat → Nat) (σ : ST) (p1 : Int32) (p2 : Int32) (sz : Nat) (hJ : J9 (σ 9)) (kDK0 : DK0 (σ 9)) : Met l yX9_common (ww yX9_common cX9_common 5 (some .int)) ({ frames := 5, cells := 0, slots := 0, locals := 320 }) (va_Pc [.ref (g 60), .int p1, .int p2] (pr9 D cy g σ sz)) (qi9 D cy g sz (fun r τ => Fr (fL [0, 23, 24, 25, 26, 27]) σ τ ∧ J9 (τ 9) ∧ True)) 0 0 (A9 cy g sz) := by
  refine Met.ofW (cc := cX9_common) (maxL := 5) (ret := (some .int)) (by decide) rfl ?_
  intro p e s m args below meth c s₁ B hml hv
  obtain ⟨rfl, hsz, hP, hK, hD0, hC⟩ := hv
  have hx := B.exec
  have hb := B.bytes
  have hr := B.returns
  have hts := hts_g (atoms_spec (ws := ww yX9_common cX9_common 5 (some .int)) B.pre)
  have hown : s.vm.findClass RX9 = some m.cls := findClass_of_methodNamed B.named
  have hlocks := B.notSynchronized
  clear B
  subst hsz
  have hD := fun τ => A9_D (sz := s.heap.size) hD0 τ
  clear hD0
  have hS : va_S (A9 cy g s.heap.size) s.heap s.heap [] := va_S.rf
  have hl := lv_entry ([.ref (g 60), .int p1, .int p2]) (n := 5) (Nat.le_of_ble_eq_true rfl)
  rw [lg_entry_eq]
  generalize (lg_sl ([.ref (g 60), .int p1, .int p2]) ++ List.replicate (5 - (lg_sl ([.ref (g 60), .int p1, .int p2])).length) Slot.unset).toArray = ls at hl ⊢
  have hl : lv_has ls 5 [(0, .ref (g 60)), (1, .int p1), (2, .int p2)] := hl
  refine lv_aload_n hx hb dX9_common_0 rfl (lv_at hl 0 rfl) ?_
  refine lv_iconst (v := 0) hx hb dX9_common_1 (by decide) ?_
  refine p9_0 hx hb hts hown hK hP hD hS (hts _ q1360) dX9_common_2 (fun H locs σ1 eσ1 hP hS => ?_)
  have hJ2 : J9 (σ1 9) := hJ.I eσ1 (show JI9 0 (0 : Int32) from trivial)
  have T3 : DK0 (σ1 9) := DK0.mv kDK0 ((sI_f eσ1) 9 17 rfl).2.2.1 ((sI_f eσ1) 9 18 rfl).2.2.1 ((sI_f eσ1) 9 19 rfl).2.2.1
  refine lv_aload_n hx hb dX9_common_5 rfl (lv_at hl 0 rfl) ?_
  refine lv_iload_n hx hb dX9_common_6 rfl (lv_at hl 1 rfl) ?_
  refine va_calli (va_runV (As := [.int p1]) (rest := []) ⟨hx, hb, hml, hown, hts⟩ (m_X9_isBrass l D cy g σ1 p1 _ hJ2 ) (cwV 1 hts (gd_V q1701 q1703 q71 q134 q1704) rfl rfl rfl (by decide +kernel) ⟨Nat.le_of_ble_eq_true rfl, Nat.le_of_ble_eq_true rfl⟩) (pv9 hP hK hD hC hS (va_recv hK hP (ci := 9) (q0 := 0) rfl rfl)) rfl rfl hl.1 rfl (lv_room (Nat.le_of_ble_eq_true rfl)) dX9_common_7 ⟨Nat.le_of_ble_eq_true rfl, Nat.le_of_ble_eq_true rfl⟩) hS (fun q _ h => up9 hS q h) (up9 hS) (fun r4 σ5 tS H1 locs ht hvm hw6 hB hz1 hk1 hS => ?_)
  have hP : va_P D clz (WD9 cy g σ5) H1 := by rw [← ht]; exact hB
  clear hB hz1 hk1 hvm ht
  generalize H1 = H at hP hS ⊢
  have hw6E : σ1 = σ5 := (hw6.1).symm
  subst hw6E
  have b7 : (0 : Int) ≤ r4.toInt ∧ r4.toInt ≤ 1 := hw6.2.1
  have b8 : (r4.toInt = 0) ∨ ((0 : Int) ≤ p1.toInt ∧ p1.toInt ≤ 3) := hw6.2.2.1
  have b9 : (r4.toInt = 0) ∨ (0 ≤ p1.toInt ∧ p1.toInt < ((σ1 9).2.2.1 17 2).toInt) := hw6.2.2.2.1
  refine lv_if_eq (tgt := 26) hx hb dX9_common_10 (by decide) (fun c10 => ?_) (fun c10 => ?_)
  ·
    have k11 := peq32 c10
    refine lv_bipush (v := (-2)) hx hb dX9_common_26 (by decide) ?_
    exact W.iret (v := (-2)) hx hb hr (fun tS ht hW => ⟨⟨(-2), σ1, rfl, ⟨Fr.tr (Fr.rf) (sI_f eσ1) (fN_L rfl), hJ2, trivial⟩, (show va_P D clz (WD9 cy g σ1) tS.heap by rw [ht]; exact hP)⟩, hS.F ht⟩) hS.2.2 dX9_common_28
  ·
    have k12 := neq32 c10
    refine lv_aload_n hx hb dX9_common_13 rfl (lv_at hl 0 rfl) ?_
    refine lv_iload_n hx hb dX9_common_14 rfl (lv_at hl 2 rfl) ?_
    refine va_calli (va_runV (As := [.int p2]) (rest := []) ⟨hx, hb, hml, hown, hts⟩ (m_X9_isBrass l D cy g σ1 p2 _ hJ2 ) (cwV 1 hts (gd_V q1701 q1703 q71 q134 q1704) rfl rfl rfl (by decide +kernel) ⟨Nat.le_of_ble_eq_true rfl, Nat.le_of_ble_eq_true rfl⟩) (pv9 hP hK hD hC hS (va_recv hK hP (ci := 9) (q0 := 0) rfl rfl)) rfl rfl hl.1 rfl (lv_room (Nat.le_of_ble_eq_true rfl)) dX9_common_15 ⟨Nat.le_of_ble_eq_true rfl, Nat.le_of_ble_eq_true rfl⟩) hS (fun q _ h => up9 hS q h) (up9 hS) (fun r13 σ14 tS H1 locs ht hvm hw15 hB hz1 hk1 hS => ?_)
    have hP : va_P D clz (WD9 cy g σ14) H1 := by rw [← ht]; exact hB
    clear hB hz1 hk1 hvm ht
    generalize H1 = H at hP hS ⊢
    have hw15E : σ1 = σ14 := (hw15.1).symm
    subst hw15E
    have b16 : (0 : Int) ≤ r13.toInt ∧ r13.toInt ≤ 1 := hw15.2.1
    have b17 : (r13.toInt = 0) ∨ ((0 : Int) ≤ p2.toInt ∧ p2.toInt ≤ 3) := hw15.2.2.1
    have b18 : (r13.toInt = 0) ∨ (0 ≤ p2.toInt ∧ p2.toInt < ((σ1 9).2.2.1 17 2).toInt) := hw15.2.2.2.1
    refine lv_if_eq (tgt := 26) hx hb dX9_common_18 (by decide) (fun c19 => ?_) (fun c19 => ?_)
    ·
      have k20 := peq32 c19
      refine lv_bipush (v := (-2)) hx hb dX9_common_26 (by decide) ?_
      exact W.iret (v := (-2)) hx hb hr (fun tS ht hW => ⟨⟨(-2), σ1, rfl, ⟨Fr.tr (Fr.rf) (sI_f eσ1) (fN_L rfl), hJ2, trivial⟩, (show va_P D clz (WD9 cy g σ1) tS.heap by rw [ht]; exact hP)⟩, hS.F ht⟩) hS.2.2 dX9_common_28
    ·
      have k21 := neq32 c19
      refine lv_iload_n hx hb dX9_common_21 rfl (lv_at hl 1 rfl) ?_
      refine lv_iload_n hx hb dX9_common_22 rfl (lv_at hl 2 rfl) ?_
      refine lv_icmp_ne (tgt := 29) hx hb dX9_common_23 (by decide) (fun c22 => ?_) (fun c22 => ?_)
      ·
        have k23 := neq32 c22
        refine lv_iconst (v := 0) hx hb dX9_common_29 (by decide) ?_
        refine lv_istore_n (lv' := [(3, .int 0), (0, .ref (g 60)), (1, .int p1), (2, .int p2)]) hx hb dX9_common_30 rfl hl (by decide) rfl (fun ls hl => ?_)
        refine lv_iconst (v := 0) hx hb dX9_common_31 (by decide) ?_
        refine lv_istore (lv' := [(4, .int 0), (3, .int 0), (0, .ref (g 60)), (1, .int p1), (2, .int p2)]) hx hb dX9_common_32 hl (by decide) rfl (fun ls hl => ?_)
        refine loop9 5 34 (fun x : LZ => [(4, .int (x.2.1 0)), (3, .int (x.2.1 1)), (0, .ref (g 60)), (1, .int p1), (2, .int p2)]) (fun x : LZ => (Fr (fL [23, 24, 25, 26, 27]) σ1 x.1) ∧ (J9 (x.1 9)) ∧ ((0 : Int) ≤ (x.2.1 0).toInt ∧ (x.2.1 0).toInt ≤ 61) ∧ (DK0 (x.1 9)) ∧ True) (fun x : LZ => ((62 : Int) - (x.2.1 0).toInt).toNat) ?_ (σ1, lf [0, 0], lg []) ⟨Fr.rf, hJ2, (show (0 : Int) ≤ (0 : Int32).toInt ∧ (0 : Int32).toInt ≤ 61 from (by have z0 : (0 : Int32).toInt = 0 := (by decide); omega)), (show DK0 (σ1 9) from T3), trivial⟩ _ _ _ hP hS (lv_sub hl [0, 1, 2, 3, 4] rfl)
        intro y26 hI25 nl24 H locs ls hP hS hl
        obtain ⟨σ27, eσ27⟩ : ∃ z, z = y26.1 := ⟨_, rfl⟩
        rw [← eσ27] at hP hI25
        have hF28 : Fr (fL [23, 24, 25, 26, 27]) σ1 σ27 := hI25.1
        have hJ29 : J9 (σ27 9) := hI25.2.1
        have b30 : (0 : Int) ≤ (y26.2.1 0).toInt ∧ (y26.2.1 0).toInt ≤ 61 := hI25.2.2.1
        have b31 : DK0 (σ27 9) := hI25.2.2.2.1
        have hl : lv_has ls 5 [(4, .int (y26.2.1 0)), (3, .int (y26.2.1 1)), (0, .ref (g 60)), (1, .int p1), (2, .int p2)] := hl
        refine lv_iload hx hb dX9_common_34 (lv_at hl 0 rfl) ?_
        refine lv_bipush (v := 60) hx hb dX9_common_36 (by decide) ?_
        refine lv_icmp_gt (tgt := 75) hx hb dX9_common_38 (by decide) (fun c32 => ?_) (fun c32 => ?_)
        ·
          have k33 := plt32 c32
          refine lv_iload_n hx hb dX9_common_75 rfl (lv_at hl 1 rfl) ?_
          exact W.iret (v := (y26.2.1 1)) hx hb hr (fun tS ht hW => ⟨⟨(y26.2.1 1), σ27, rfl, ⟨Fr.tr (Fr.tr (Fr.rf) (sI_f eσ1) (fN_L rfl)) hF28 (fL_sub rfl), hJ29, trivial⟩, (show va_P D clz (WD9 cy g σ27) tS.heap by rw [ht]; exact hP)⟩, hS.F ht⟩) hS.2.2 dX9_common_76
        ·
          have k34 := nlt32 c32
          refine lv_iload_n hx hb dX9_common_41 rfl (lv_at hl 1 rfl) ?_
          refine lv_aload_n hx hb dX9_common_42 rfl (lv_at hl 2 rfl) ?_
          refine lv_iload_n hx hb dX9_common_43 rfl (lv_at hl 3 rfl) ?_
          refine lv_iload hx hb dX9_common_44 (lv_at hl 0 rfl) ?_
          refine va_calli (va_runV (As := [.int p1, .int (y26.2.1 0)]) (rest := [.int (y26.2.1 1)]) ⟨hx, hb, hml, hown, hts⟩ (m_X9_waysOf l D cy g σ27 p1 (y26.2.1 0) _ hJ29 (show (0 : Int) ≤ p1.toInt ∧ p1.toInt ≤ 3 from (by have f0 := b8; have f1 := b9; have f2 := k23; have f3 := a9_17 hJ2 (j := 2) rfl; have f4 := congrArg Int32.toInt (show ((σ1 9).2.2.1 17 2) = ((σ 9).2.2.1 17 2) from congrFun (((sI_f eσ1) 9 17 rfl).2.2.1) _); have f5 := b7; have f6 := k12; have f7 := b17; have f8 := b18; have f9 := a9_17 hJ (j := 2) rfl; have f10 := b16; have f11 := k21; have g2 := rg32 p1; have z0 : (0 : Int32).toInt = 0 := (by decide); omega)) (show 100 ≤ ((σ27 9).2.2.1 18 (7 * p1.toInt.toNat + 2)).toInt from (b31.1 _ (by have f0 := a9_17 hJ29 (j := 2) rfl; have f1 := congrArg Int32.toInt (show ((σ27 9).2.2.1 17 2) = ((σ 9).2.2.1 17 2) from congrFun (((hF28 9 17 rfl).2.2.1).trans (((sI_f eσ1) 9 17 rfl).2.2.1)) _); have f2 := b8; have f3 := b9; have f4 := k23; have f5 := a9_17 hJ (j := 2) rfl; have f6 := a9_17 hJ2 (j := 2) rfl; have f7 := congrArg Int32.toInt (show ((σ1 9).2.2.1 17 2) = ((σ 9).2.2.1 17 2) from congrFun (((sI_f eσ1) 9 17 rfl).2.2.1) _); have f8 := b7; have f9 := k12; have f10 := b17; have f11 := b18; have f12 := b16; have f13 := k21; have g3 := rg32 p1; have z0 : (0 : Int32).toInt = 0 := (by decide); omega)))) (cwV 2 hts (gd_V q1798 q1800 q85 q134 q1801) rfl rfl rfl (by decide +kernel) ⟨Nat.le_of_ble_eq_true rfl, Nat.le_of_ble_eq_true rfl⟩) (pv9 hP hK hD hC hS (va_recv hK hP (ci := 9) (q0 := 0) rfl rfl)) rfl rfl hl.1 rfl (lv_room (Nat.le_of_ble_eq_true rfl)) dX9_common_46 ⟨Nat.le_of_ble_eq_true rfl, Nat.le_of_ble_eq_true rfl⟩) hS (fun q _ h => up9 hS q h) (up9 hS) (fun r35 σ36 tS H1 locs ht hvm hw37 hB hz1 hk1 hS => ?_)
          have hP : va_P D clz (WD9 cy g σ36) H1 := by rw [← ht]; exact hB
          clear hB hz1 hk1 hvm ht
          generalize H1 = H at hP hS ⊢
          have hF38 : Fr (fL [23, 24, 25, 26, 27]) σ27 σ36 := hw37.1
          have hJ39 : J9 (σ36 9) := hw37.2.1
          have b40 : (0 : Int) ≤ r35.toInt ∧ r35.toInt ≤ 88 := hw37.2.2.1
          have T41 : DK0 (σ36 9) := DK0.mv b31 (hF38 9 17 rfl).2.2.1 (hF38 9 18 rfl).2.2.1 (hF38 9 19 rfl).2.2.1
          refine cut9 (D := D) (cy := cy) (g := g) (A := A9 cy g s.heap.size) (H0 := s.heap) 5 67 (fun x : LZ => [(4, .int (y26.2.1 0)), (3, .int (y26.2.1 1)), (0, .ref (g 60)), (1, .int p1), (2, .int p2)]) (fun x : LZ => [.int (x.2.1 0), .int (y26.2.1 1)]) (fun x : LZ => (Fr (fL [23, 24, 25, 26, 27]) σ36 x.1) ∧ (J9 (x.1 9)) ∧ ((0 : Int) ≤ (x.2.1 0).toInt ∧ (x.2.1 0).toInt ≤ 1) ∧ (DK0 (x.1 9)) ∧ True) ?_ ?_
          ·
            intro y44 hI43 H locs ls hP hS hl
            obtain ⟨σ45, eσ45⟩ : ∃ z, z = y44.1 := ⟨_, rfl⟩
            rw [← eσ45] at hP hI43
            have hF46 : Fr (fL [23, 24, 25, 26, 27]) σ36 σ45 := hI43.1
            have hJ47 : J9 (σ45 9) := hI43.2.1
            have b48 : (0 : Int) ≤ (y44.2.1 0).toInt ∧ (y44.2.1 0).toInt ≤ 1 := hI43.2.2.1
            have b49 : DK0 (σ45 9) := hI43.2.2.2.1
            have hl : lv_has ls 5 [(4, .int (y26.2.1 0)), (3, .int (y26.2.1 1)), (0, .ref (g 60)), (1, .int p1), (2, .int p2)] := hl
            refine W.eq (g2 := F0 m 67 ls [.int (y44.2.1 0), .int (y26.2.1 1)]) rfl ?_
            refine lv_iadd hx hb dX9_common_67 ?_
            refine lv_topi (fun x50 ex50 => ?_)
            refine lv_istore_n (lv' := [(3, .int x50), (4, .int (y26.2.1 0)), (0, .ref (g 60)), (1, .int p1), (2, .int p2)]) hx hb dX9_common_68 rfl hl (by decide) rfl (fun ls hl => ?_)
            obtain ⟨x51, ex51⟩ : ∃ y : Int32, y = (y26.2.1 0) + 1 := ⟨_, rfl⟩
            have t52 := addO ex51 (by have f0 := b30; have f1 := k34; have g0 := rg32 (y26.2.1 0); have z1 : (1 : Int32).toInt = 1 := (by decide); have z60 : (60 : Int32).toInt = 60 := (by decide); omega)
            refine lv_iinc (v := x51) (lv' := [(4, .int x51), (3, .int x50), (0, .ref (g 60)), (1, .int p1), (2, .int p2)]) hx hb dX9_common_69 hl (k := 1) rfl (by rw [ex51]; rfl) (by decide) rfl (fun ls hl => ?_)
            refine lv_goto (tgt := 34) hx hb dX9_common_72 (by decide) ?_
            have t53 : ((62 : Int) - x51.toInt).toNat < ((62 : Int) - (y26.2.1 0).toInt).toNat := (by have f0 := b30; have f1 := k34; have f2 := t52; have g0 := rg32 (y26.2.1 0); have g1 := rg32 x51; have z1 : (1 : Int32).toInt = 1 := (by decide); have z60 : (60 : Int32).toInt = 60 := (by decide); omega)
            exact nl24 (σ45, lf [x51, x50], lg []) ⟨Fr.tr (Fr.tr (Fr.tr (Fr.rf) hF28 (fL_sub rfl)) hF38 (fL_sub rfl)) hF46 (fL_sub rfl), hJ47, (show (0 : Int) ≤ (x51 : Int32).toInt ∧ (x51 : Int32).toInt ≤ 61 from (by have f0 := t52; have f1 := b30; have f2 := k34; have g0 := rg32 x51; have z1 : (1 : Int32).toInt = 1 := (by decide); have z60 : (60 : Int32).toInt = 60 := (by decide); omega)), (show DK0 (σ45 9) from b49), trivial⟩ (show ((62 : Int) - x51.toInt).toNat < _ from by first | exact t53 | (rw [← eσ27]; exact t53)) _ _ _ hP hS (lv_sub hl [0, 1, 2, 3, 4] rfl)
          ·
            intro nj42
            refine cut9 (D := D) (cy := cy) (g := g) (A := A9 cy g s.heap.size) (H0 := s.heap) 5 66 (fun x : LZ => [(4, .int (y26.2.1 0)), (3, .int (y26.2.1 1)), (0, .ref (g 60)), (1, .int p1), (2, .int p2)]) (fun x : LZ => [.int (y26.2.1 1)]) (fun x : LZ => (Fr (fL [23, 24, 25, 26, 27]) σ36 x.1) ∧ (J9 (x.1 9)) ∧ (DK0 (x.1 9)) ∧ True) ?_ ?_
            ·
              intro y56 hI55 H locs ls hP hS hl
              obtain ⟨σ57, eσ57⟩ : ∃ z, z = y56.1 := ⟨_, rfl⟩
              rw [← eσ57] at hP hI55
              have hF58 : Fr (fL [23, 24, 25, 26, 27]) σ36 σ57 := hI55.1
              have hJ59 : J9 (σ57 9) := hI55.2.1
              have b60 : DK0 (σ57 9) := hI55.2.2.1
              have hl : lv_has ls 5 [(4, .int (y26.2.1 0)), (3, .int (y26.2.1 1)), (0, .ref (g 60)), (1, .int p1), (2, .int p2)] := hl
              refine W.eq (g2 := F0 m 66 ls [.int (y26.2.1 1)]) rfl ?_
              refine lv_iconst (v := 0) hx hb dX9_common_66 (by decide) ?_
              exact nj42 (σ57, lf [0], lg []) ⟨Fr.tr (Fr.rf) hF58 (fL_sub rfl), hJ59, (show (0 : Int) ≤ (0 : Int32).toInt ∧ (0 : Int32).toInt ≤ 1 from (by have z0 : (0 : Int32).toInt = 0 := (by decide); omega)), (show DK0 (σ57 9) from b60), trivial⟩ _ _ _ hP hS (lv_sub hl [0, 1, 2, 3, 4] rfl)
            ·
              intro nj54
              refine lv_if_le (tgt := 66) hx hb dX9_common_49 (by decide) (fun c61 => ?_) (fun c61 => ?_)
              ·
                have k62 := ple32 c61
                exact nj54 (σ36, lf [], lg []) ⟨Fr.rf, hJ39, (show DK0 (σ36 9) from T41), trivial⟩ _ _ _ hP hS (lv_sub hl [0, 1, 2, 3, 4] rfl)
              ·
                have k63 := nle32 c61
                refine lv_aload_n hx hb dX9_common_52 rfl (lv_at hl 2 rfl) ?_
                refine lv_iload_n hx hb dX9_common_53 rfl (lv_at hl 4 rfl) ?_
                refine lv_iload hx hb dX9_common_54 (lv_at hl 0 rfl) ?_
                refine va_calli (va_runV (As := [.int p2, .int (y26.2.1 0)]) (rest := [.int (y26.2.1 1)]) ⟨hx, hb, hml, hown, hts⟩ (m_X9_waysOf l D cy g σ36 p2 (y26.2.1 0) _ hJ39 (show (0 : Int) ≤ p2.toInt ∧ p2.toInt ≤ 3 from (by have f0 := b17; have f1 := b18; have f2 := k23; have f3 := a9_17 hJ2 (j := 2) rfl; have f4 := congrArg Int32.toInt (show ((σ1 9).2.2.1 17 2) = ((σ 9).2.2.1 17 2) from congrFun (((sI_f eσ1) 9 17 rfl).2.2.1) _); have f5 := b8; have f6 := b9; have f7 := b16; have f8 := k21; have f9 := a9_17 hJ (j := 2) rfl; have f10 := b7; have f11 := k12; have g2 := rg32 p2; have z0 : (0 : Int32).toInt = 0 := (by decide); omega)) (show 100 ≤ ((σ36 9).2.2.1 18 (7 * p2.toInt.toNat + 2)).toInt from (T41.1 _ (by have f0 := a9_17 hJ39 (j := 2) rfl; have f1 := congrArg Int32.toInt (show ((σ36 9).2.2.1 17 2) = ((σ 9).2.2.1 17 2) from congrFun (((hF38 9 17 rfl).2.2.1).trans (((hF28 9 17 rfl).2.2.1).trans (((sI_f eσ1) 9 17 rfl).2.2.1))) _); have f2 := b17; have f3 := b18; have f4 := k23; have f5 := a9_17 hJ (j := 2) rfl; have f6 := a9_17 hJ2 (j := 2) rfl; have f7 := congrArg Int32.toInt (show ((σ1 9).2.2.1 17 2) = ((σ 9).2.2.1 17 2) from congrFun (((sI_f eσ1) 9 17 rfl).2.2.1) _); have f8 := b8; have f9 := b9; have f10 := b16; have f11 := k21; have f12 := b7; have f13 := k12; have g3 := rg32 p2; have z0 : (0 : Int32).toInt = 0 := (by decide); omega)))) (cwV 2 hts (gd_V q1798 q1800 q85 q134 q1801) rfl rfl rfl (by decide +kernel) ⟨Nat.le_of_ble_eq_true rfl, Nat.le_of_ble_eq_true rfl⟩) (pv9 hP hK hD hC hS (va_recv hK hP (ci := 9) (q0 := 0) rfl rfl)) rfl rfl hl.1 rfl (lv_room (Nat.le_of_ble_eq_true rfl)) dX9_common_56 ⟨Nat.le_of_ble_eq_true rfl, Nat.le_of_ble_eq_true rfl⟩) hS (fun q _ h => up9 hS q h) (up9 hS) (fun r64 σ65 tS H1 locs ht hvm hw66 hB hz1 hk1 hS => ?_)
                have hP : va_P D clz (WD9 cy g σ65) H1 := by rw [← ht]; exact hB
                clear hB hz1 hk1 hvm ht
                generalize H1 = H at hP hS ⊢
                have hF67 : Fr (fL [23, 24, 25, 26, 27]) σ36 σ65 := hw66.1
                have hJ68 : J9 (σ65 9) := hw66.2.1
                have b69 : (0 : Int) ≤ r64.toInt ∧ r64.toInt ≤ 88 := hw66.2.2.1
                have T70 : DK0 (σ65 9) := DK0.mv T41 (hF67 9 17 rfl).2.2.1 (hF67 9 18 rfl).2.2.1 (hF67 9 19 rfl).2.2.1
                refine lv_if_le (tgt := 66) hx hb dX9_common_59 (by decide) (fun c71 => ?_) (fun c71 => ?_)
                ·
                  have k72 := ple32 c71
                  exact nj54 (σ65, lf [], lg []) ⟨Fr.tr (Fr.rf) hF67 (fL_sub rfl), hJ68, (show DK0 (σ65 9) from T70), trivial⟩ _ _ _ hP hS (lv_sub hl [0, 1, 2, 3, 4] rfl)
                ·
                  have k73 := nle32 c71
                  refine lv_iconst (v := 1) hx hb dX9_common_62 (by decide) ?_
                  refine lv_goto (tgt := 67) hx hb dX9_common_63 (by decide) ?_
                  exact nj42 (σ65, lf [1], lg []) ⟨Fr.tr (Fr.rf) hF67 (fL_sub rfl), hJ68, (show (0 : Int) ≤ (1 : Int32).toInt ∧ (1 : Int32).toInt ≤ 1 from (by have z1 : (1 : Int32).toInt = 1 := (by decide); omega)), (show DK0 (σ65 9) from T70), trivial⟩ _ _ _ hP hS (lv_sub hl [0, 1, 2, 3, 4] rfl)
      ·
        have k74 := peq32 c22
        refine lv_bipush (v := (-2)) hx hb dX9_common_26 (by decide) ?_
        exact W.iret (v := (-2)) hx hb hr (fun tS ht hW => ⟨⟨(-2), σ1, rfl, ⟨Fr.tr (Fr.rf) (sI_f eσ1) (fN_L rfl), hJ2, trivial⟩, (show va_P D clz (WD9 cy g σ1) tS.heap by rw [ht]; exact hP)⟩, hS.F ht⟩) hS.2.2 dX9_common_28

