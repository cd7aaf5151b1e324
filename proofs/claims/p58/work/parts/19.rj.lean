theorem q2055 : Cond.code yX9_whyNot cX9_whyNot 4 (some .int) ∈ lw_g := lw_gm (List.mem_of_getElem? (i := 2055) (by decide +kernel)) rfl
theorem dX9_whyNot_0 : decode cX9_whyNot 0 = .ok (.iload_n 1, 1) := by decide +kernel
theorem dX9_whyNot_1 : decode cX9_whyNot 1 = .ok (.invokestatic 138, 3) := by decide +kernel
theorem dX9_whyNot_4 : decode cX9_whyNot 4 = .ok (.ifCond .eq 12, 3) := by decide +kernel
theorem dX9_whyNot_7 : decode cX9_whyNot 7 = .ok (.aload_n 0, 1) := by decide +kernel
theorem dX9_whyNot_8 : decode cX9_whyNot 8 = .ok (.iload_n 2, 1) := by decide +kernel
theorem dX9_whyNot_9 : decode cX9_whyNot 9 = .ok (.iload_n 3, 1) := by decide +kernel
theorem dX9_whyNot_10 : decode cX9_whyNot 10 = .ok (.invokevirtual 433, 3) := by decide +kernel
theorem dX9_whyNot_13 : decode cX9_whyNot 13 = .ok (.ifCond .ne 6, 3) := by decide +kernel
theorem dX9_whyNot_16 : decode cX9_whyNot 16 = .ok (.bipush (-2), 2) := by decide +kernel
theorem dX9_whyNot_18 : decode cX9_whyNot 18 = .ok (.ireturn, 1) := by decide +kernel
theorem dX9_whyNot_19 : decode cX9_whyNot 19 = .ok (.aload_n 0, 1) := by decide +kernel
theorem dX9_whyNot_20 : decode cX9_whyNot 20 = .ok (.getfield 7, 3) := by decide +kernel
theorem dX9_whyNot_23 : decode cX9_whyNot 23 = .ok (.iload_n 1, 1) := by decide +kernel
theorem dX9_whyNot_24 : decode cX9_whyNot 24 = .ok (.iaload, 1) := by decide +kernel
theorem dX9_whyNot_25 : decode cX9_whyNot 25 = .ok (.iconst (-1), 1) := by decide +kernel
theorem dX9_whyNot_26 : decode cX9_whyNot 26 = .ok (.if_icmp .ne 6, 3) := by decide +kernel
theorem dX9_whyNot_29 : decode cX9_whyNot 29 = .ok (.bipush (-6), 2) := by decide +kernel
theorem dX9_whyNot_31 : decode cX9_whyNot 31 = .ok (.ireturn, 1) := by decide +kernel
theorem dX9_whyNot_32 : decode cX9_whyNot 32 = .ok (.aload_n 0, 1) := by decide +kernel
theorem dX9_whyNot_33 : decode cX9_whyNot 33 = .ok (.iload_n 2, 1) := by decide +kernel
theorem dX9_whyNot_34 : decode cX9_whyNot 34 = .ok (.iload_n 3, 1) := by decide +kernel
theorem dX9_whyNot_35 : decode cX9_whyNot 35 = .ok (.invokevirtual 427, 3) := by decide +kernel
theorem dX9_whyNot_38 : decode cX9_whyNot 38 = .ok (.aload_n 0, 1) := by decide +kernel
theorem dX9_whyNot_39 : decode cX9_whyNot 39 = .ok (.getfield 13, 3) := by decide +kernel
theorem dX9_whyNot_42 : decode cX9_whyNot 42 = .ok (.iload_n 1, 1) := by decide +kernel
theorem dX9_whyNot_43 : decode cX9_whyNot 43 = .ok (.iaload, 1) := by decide +kernel
theorem dX9_whyNot_44 : decode cX9_whyNot 44 = .ok (.aload_n 0, 1) := by decide +kernel
theorem dX9_whyNot_45 : decode cX9_whyNot 45 = .ok (.getfield 387, 3) := by decide +kernel
theorem dX9_whyNot_48 : decode cX9_whyNot 48 = .ok (.if_icmp .ne 7, 3) := by decide +kernel
theorem dX9_whyNot_51 : decode cX9_whyNot 51 = .ok (.iconst 0, 1) := by decide +kernel
theorem dX9_whyNot_52 : decode cX9_whyNot 52 = .ok (.goto 5, 3) := by decide +kernel
theorem dX9_whyNot_55 : decode cX9_whyNot 55 = .ok (.bipush (-7), 2) := by decide +kernel
theorem dX9_whyNot_57 : decode cX9_whyNot 57 = .ok (.ireturn, 1) := by decide +kernel
set_option maxHeartbeats 4000000 in
set_option maxRecDepth 100000 in
theorem m_X9_whyNot (l : Launch) (D : va_G) (cy : Nat → ClassId) (g : Nat → Nat) (σ : ST) (p1 : Int32) (p2 : Int32) (p3 : Int32) (sz : Nat) (hJ : J9 (σ 9)) (kDK0 : DK0 (σ 9)) : Met l yX9_whyNot (ww yX9_whyNot cX9_whyNot 4 (some .int)) ({ frames := 6, cells := 0, slots := 0, locals := 384 }) (va_Pc [.ref (g 60), .int p1, .int p2, .int p3] (pr9 D cy g σ sz)) (qi9 D cy g sz (fun r τ => Fr (fL [23, 24, 25, 26, 27, 28, 29, 30, 31, 32, 33, 34]) σ τ ∧ J9 (τ 9) ∧ ((¬ r.toInt = 0) ∨ ((0 : Int) ≤ p1.toInt ∧ p1.toInt ≤ 3 ∧ (0 : Int) ≤ p2.toInt ∧ p2.toInt ≤ 8 ∧ (0 : Int) ≤ p3.toInt ∧ p3.toInt ≤ 2)) ∧ True)) 0 0 (A9 cy g sz) := by
  refine Met.ofW (cc := cX9_whyNot) (maxL := 4) (ret := (some .int)) (by decide) rfl ?_
  intro p e s m args below meth c s₁ B hml hv
  obtain ⟨rfl, hsz, hP, hK, hD0, hC⟩ := hv
  have hx := B.exec
  have hb := B.bytes
  have hr := B.returns
  have hts := hts_g (atoms_spec (ws := ww yX9_whyNot cX9_whyNot 4 (some .int)) B.pre)
  have hown : s.vm.findClass RX9 = some m.cls := findClass_of_methodNamed B.named
  have hlocks := B.notSynchronized
  clear B
  subst hsz
  have hD := fun τ => A9_D (sz := s.heap.size) hD0 τ
  clear hD0
  have hS : va_S (A9 cy g s.heap.size) s.heap s.heap [] := va_S.rf
  have hl := lv_entry ([.ref (g 60), .int p1, .int p2, .int p3]) (n := 4) (Nat.le_of_ble_eq_true rfl)
  rw [lg_entry_eq]
  generalize (lg_sl ([.ref (g 60), .int p1, .int p2, .int p3]) ++ List.replicate (4 - (lg_sl ([.ref (g 60), .int p1, .int p2, .int p3])).length) Slot.unset).toArray = ls at hl ⊢
  have hl : lv_has ls 4 [(0, .ref (g 60)), (1, .int p1), (2, .int p2), (3, .int p3)] := hl
  refine lv_iload_n hx hb dX9_whyNot_0 rfl (lv_at hl 1 rfl) ?_
  refine va_calli (va_runS (As := [.int p1]) (rest := []) ⟨hx, hb, hml, hown, hts⟩ (m_X9_isSlot l D cy g σ p1 _ hJ ) (va_cwS 1 hts (gd_S q1546 q1547 q134 q1548) rfl rfl rfl (by decide +kernel) ⟨Nat.le_of_ble_eq_true rfl, Nat.le_of_ble_eq_true rfl⟩) (ps9 hP hK hD hC hS) rfl rfl hl.1 rfl (lv_room (Nat.le_of_ble_eq_true rfl)) dX9_whyNot_1 ⟨Nat.le_of_ble_eq_true rfl, Nat.le_of_ble_eq_true rfl⟩) hS (fun q _ h => up9 hS q h) (up9 hS) (fun r1 σ2 tS H1 locs ht hvm hw3 hB hz1 hk1 hS => ?_)
  have hP : va_P D clz (WD9 cy g σ2) H1 := by rw [← ht]; exact hB
  clear hB hz1 hk1 hvm ht
  generalize H1 = H at hP hS ⊢
  have hw3E : σ = σ2 := (hw3.1).symm
  subst hw3E
  have b4 : (0 : Int) ≤ r1.toInt ∧ r1.toInt ≤ 1 := hw3.2.1
  have b5 : (r1.toInt = 0) ∨ ((0 : Int) ≤ p1.toInt ∧ p1.toInt ≤ 3) := hw3.2.2.1
  have b6 : r1.toInt = 1 ∨ p1.toInt < 0 ∨ 3 < p1.toInt := hw3.2.2.2.1
  refine lv_if_eq (tgt := 16) hx hb dX9_whyNot_4 (by decide) (fun c7 => ?_) (fun c7 => ?_)
  ·
    have k8 := peq32 c7
    refine lv_bipush (v := (-2)) hx hb dX9_whyNot_16 (by decide) ?_
    exact W.iret (v := (-2)) hx hb hr (fun tS ht hW => ⟨⟨(-2), σ, rfl, ⟨Fr.rf, hJ, (show (¬ ((-2) : Int32).toInt = 0) ∨ ((0 : Int) ≤ p1.toInt ∧ p1.toInt ≤ 3 ∧ (0 : Int) ≤ p2.toInt ∧ p2.toInt ≤ 8 ∧ (0 : Int) ≤ p3.toInt ∧ p3.toInt ≤ 2) from (by have f0 := b5; have f1 := b6; have f2 := b4; have f3 := k8; have zm2 : ((-2) : Int32).toInt = (-2) := (by decide); have z0 : (0 : Int32).toInt = 0 := (by decide); omega)), trivial⟩, (show va_P D clz (WD9 cy g σ) tS.heap by rw [ht]; exact hP)⟩, hS.F ht⟩) hS.2.2 dX9_whyNot_18
  ·
    have k9 := neq32 c7
    refine lv_aload_n hx hb dX9_whyNot_7 rfl (lv_at hl 0 rfl) ?_
    refine lv_iload_n hx hb dX9_whyNot_8 rfl (lv_at hl 2 rfl) ?_
    refine lv_iload_n hx hb dX9_whyNot_9 rfl (lv_at hl 3 rfl) ?_
    refine va_calli (va_runV (As := [.int p2, .int p3]) (rest := []) ⟨hx, hb, hml, hown, hts⟩ (m_X9_isPlaying l D cy g σ p2 p3 _ hJ ) (cwV 2 hts (gd_V q1822 q1824 q87 q134 q1825) rfl rfl rfl (by decide +kernel) ⟨Nat.le_of_ble_eq_true rfl, Nat.le_of_ble_eq_true rfl⟩) (pv9 hP hK hD hC hS (va_recv hK hP (ci := 9) (q0 := 0) rfl rfl)) rfl rfl hl.1 rfl (lv_room (Nat.le_of_ble_eq_true rfl)) dX9_whyNot_10 ⟨Nat.le_of_ble_eq_true rfl, Nat.le_of_ble_eq_true rfl⟩) hS (fun q _ h => up9 hS q h) (up9 hS) (fun r10 σ11 tS H1 locs ht hvm hw12 hB hz1 hk1 hS => ?_)
    have hP : va_P D clz (WD9 cy g σ11) H1 := by rw [← ht]; exact hB
    clear hB hz1 hk1 hvm ht
    generalize H1 = H at hP hS ⊢
    have hw12E : σ = σ11 := (hw12.1).symm
    subst hw12E
    have b13 : (0 : Int) ≤ r10.toInt ∧ r10.toInt ≤ 1 := hw12.2.1
    have b14 : (r10.toInt = 0) ∨ ((0 : Int) ≤ p2.toInt ∧ p2.toInt ≤ 8 ∧ (0 : Int) ≤ p3.toInt ∧ p3.toInt ≤ 2) := hw12.2.2.1
    have b15 : (r10.toInt = 0) ∨ (p2.toInt < ((σ 9).2.2.1 17 3).toInt) := hw12.2.2.2.1
    refine lv_if_ne (tgt := 19) hx hb dX9_whyNot_13 (by decide) (fun c16 => ?_) (fun c16 => ?_)
    ·
      have k17 := neq32 c16
      refine lv_aload_n hx hb dX9_whyNot_19 rfl (lv_at hl 0 rfl) ?_
      refine g9_1 hx hb hts hown hK hP (hts _ q1361) dX9_whyNot_20 ?_
      refine lv_iload_n hx hb dX9_whyNot_23 rfl (lv_at hl 1 rfl) ?_
      obtain ⟨x18, ex18⟩ : ∃ z, (σ 9).2.2.1 1 p1.toInt.toNat = z := ⟨_, rfl⟩
      refine l9_1 (x := x18) hx hb hK hP (vpo (by have f0 := b5; have f1 := b6; have f2 := b4; have f3 := k9; have z0 : (0 : Int32).toInt = 0 := (by decide); omega)) ex18 dX9_whyNot_24 ?_
      refine lv_iconst (v := (-1)) hx hb dX9_whyNot_25 (by decide) ?_
      refine lv_icmp_ne (tgt := 32) hx hb dX9_whyNot_26 (by decide) (fun c19 => ?_) (fun c19 => ?_)
      ·
        have k20 := neq32 c19
        refine lv_aload_n hx hb dX9_whyNot_32 rfl (lv_at hl 0 rfl) ?_
        refine lv_iload_n hx hb dX9_whyNot_33 rfl (lv_at hl 2 rfl) ?_
        refine lv_iload_n hx hb dX9_whyNot_34 rfl (lv_at hl 3 rfl) ?_
        refine va_callv (va_runV (As := [.int p2, .int p3]) (rest := []) ⟨hx, hb, hml, hown, hts⟩ (m_X9_lays l D cy g σ p2 p3 _ hJ kDK0 (show (0 : Int) ≤ p2.toInt ∧ p2.toInt ≤ 8 from (by have f0 := b14; have f1 := b15; have f2 := a9_17 hJ (j := 3) rfl; have f3 := b13; have f4 := k17; have z0 : (0 : Int32).toInt = 0 := (by decide); omega)) (show (0 : Int) ≤ p3.toInt ∧ p3.toInt ≤ 2 from (by have f0 := b14; have f1 := b15; have f2 := a9_17 hJ (j := 3) rfl; have f3 := b13; have f4 := k17; have z0 : (0 : Int32).toInt = 0 := (by decide); omega)) (show p2.toInt < ((σ 9).2.2.1 17 3).toInt from (by have f0 := a9_17 hJ (j := 3) rfl; have f1 := b14; have f2 := b15; have f3 := b13; have f4 := k17; have z0 : (0 : Int32).toInt = 0 := (by decide); omega))) (cwV 2 hts (gd_V q1830 q1832 q89 q134 q1833) rfl rfl rfl (by decide +kernel) ⟨Nat.le_of_ble_eq_true rfl, Nat.le_of_ble_eq_true rfl⟩) (pv9 hP hK hD hC hS (va_recv hK hP (ci := 9) (q0 := 0) rfl rfl)) rfl rfl hl.1 rfl (lv_room (Nat.le_of_ble_eq_true rfl)) dX9_whyNot_35 ⟨Nat.le_of_ble_eq_true rfl, Nat.le_of_ble_eq_true rfl⟩) hS (fun q _ h => up9 hS q h) (up9 hS) (fun σ22 tS H1 locs ht hvm hw23 hB hz1 hk1 hS => ?_)
        have hP : va_P D clz (WD9 cy g σ22) H1 := by rw [← ht]; exact hB
        clear hB hz1 hk1 hvm ht
        generalize H1 = H at hP hS ⊢
        have hF24 : Fr (fL [23, 24, 25, 26, 27, 28, 29, 30, 31, 32, 33, 34]) σ σ22 := hw23.1
        have hJ25 : J9 (σ22 9) := hw23.2.1
        have T26 : DK0 (σ22 9) := DK0.mv kDK0 (hF24 9 17 rfl).2.2.1 (hF24 9 18 rfl).2.2.1 (hF24 9 19 rfl).2.2.1
        refine lv_aload_n hx hb dX9_whyNot_38 rfl (lv_at hl 0 rfl) ?_
        refine g9_2 hx hb hts hown hK hP (hts _ q1362) dX9_whyNot_39 ?_
        refine lv_iload_n hx hb dX9_whyNot_42 rfl (lv_at hl 1 rfl) ?_
        obtain ⟨x27, ex27⟩ : ∃ z, (σ 9).2.2.1 2 p1.toInt.toNat = z := ⟨_, rfl⟩
        refine l9_2 (x := x27) hx hb hK hP (vpo (by have f0 := b5; have f1 := b6; have f2 := b4; have f3 := k9; have z0 : (0 : Int32).toInt = 0 := (by decide); omega)) ((congrFun ((hF24 9 2 rfl).2.2.1) _).trans ex27) dX9_whyNot_43 ?_
        have t28 := a9_2 hJ ex27
        refine lv_aload_n hx hb dX9_whyNot_44 rfl (lv_at hl 0 rfl) ?_
        refine g9_31 (x := ((σ22 9).1 31)) hx hb hts hown hK hP (rfl) (hts _ q1391) dX9_whyNot_45 ?_
        refine lv_icmp_ne (tgt := 55) hx hb dX9_whyNot_48 (by decide) (fun c29 => ?_) (fun c29 => ?_)
        ·
          have k30 := neq32 c29
          refine lv_bipush (v := (-7)) hx hb dX9_whyNot_55 (by decide) ?_
          exact W.iret (v := (-7)) hx hb hr (fun tS ht hW => ⟨⟨(-7), σ22, rfl, ⟨Fr.tr (Fr.rf) hF24 (fL_sub rfl), hJ25, (show (¬ ((-7) : Int32).toInt = 0) ∨ ((0 : Int) ≤ p1.toInt ∧ p1.toInt ≤ 3 ∧ (0 : Int) ≤ p2.toInt ∧ p2.toInt ≤ 8 ∧ (0 : Int) ≤ p3.toInt ∧ p3.toInt ≤ 2) from (by have f0 := b5; have f1 := b6; have f2 := b14; have f3 := b15; have f4 := t28; have f5 := a9_17 hJ (j := 3) rfl; have f6 := b4; have f7 := k9; have f8 := b13; have f9 := k17; have f10 := k30; have f11 := j9_31 hJ25 rfl; have zm7 : ((-7) : Int32).toInt = (-7) := (by decide); have z0 : (0 : Int32).toInt = 0 := (by decide); omega)), trivial⟩, (show va_P D clz (WD9 cy g σ22) tS.heap by rw [ht]; exact hP)⟩, hS.F ht⟩) hS.2.2 dX9_whyNot_57
        ·
          have k31 := peq32 c29
          refine lv_iconst (v := 0) hx hb dX9_whyNot_51 (by decide) ?_
          refine lv_goto (tgt := 57) hx hb dX9_whyNot_52 (by decide) ?_
          exact W.iret (v := 0) hx hb hr (fun tS ht hW => ⟨⟨0, σ22, rfl, ⟨Fr.tr (Fr.rf) hF24 (fL_sub rfl), hJ25, (show (¬ (0 : Int32).toInt = 0) ∨ ((0 : Int) ≤ p1.toInt ∧ p1.toInt ≤ 3 ∧ (0 : Int) ≤ p2.toInt ∧ p2.toInt ≤ 8 ∧ (0 : Int) ≤ p3.toInt ∧ p3.toInt ≤ 2) from (by have f0 := b5; have f1 := b6; have f2 := b14; have f3 := b15; have f4 := t28; have f5 := a9_17 hJ (j := 3) rfl; have f6 := b4; have f7 := k9; have f8 := b13; have f9 := k17; have f10 := k31; have f11 := j9_31 hJ25 rfl; have z0 : (0 : Int32).toInt = 0 := (by decide); omega)), trivial⟩, (show va_P D clz (WD9 cy g σ22) tS.heap by rw [ht]; exact hP)⟩, hS.F ht⟩) hS.2.2 dX9_whyNot_57
      ·
        have k32 := peq32 c19
        refine lv_bipush (v := (-6)) hx hb dX9_whyNot_29 (by decide) ?_
        exact W.iret (v := (-6)) hx hb hr (fun tS ht hW => ⟨⟨(-6), σ, rfl, ⟨Fr.rf, hJ, (show (¬ ((-6) : Int32).toInt = 0) ∨ ((0 : Int) ≤ p1.toInt ∧ p1.toInt ≤ 3 ∧ (0 : Int) ≤ p2.toInt ∧ p2.toInt ≤ 8 ∧ (0 : Int) ≤ p3.toInt ∧ p3.toInt ≤ 2) from (by have f0 := b5; have f1 := b6; have f2 := b14; have f3 := b15; have f4 := a9_17 hJ (j := 3) rfl; have f5 := b4; have f6 := k9; have f7 := b13; have f8 := k17; have zm6 : ((-6) : Int32).toInt = (-6) := (by decide); have z0 : (0 : Int32).toInt = 0 := (by decide); omega)), trivial⟩, (show va_P D clz (WD9 cy g σ) tS.heap by rw [ht]; exact hP)⟩, hS.F ht⟩) hS.2.2 dX9_whyNot_31
    ·
      have k33 := peq32 c16
      refine lv_bipush (v := (-2)) hx hb dX9_whyNot_16 (by decide) ?_
      exact W.iret (v := (-2)) hx hb hr (fun tS ht hW => ⟨⟨(-2), σ, rfl, ⟨Fr.rf, hJ, (show (¬ ((-2) : Int32).toInt = 0) ∨ ((0 : Int) ≤ p1.toInt ∧ p1.toInt ≤ 3 ∧ (0 : Int) ≤ p2.toInt ∧ p2.toInt ≤ 8 ∧ (0 : Int) ≤ p3.toInt ∧ p3.toInt ≤ 2) from (by have f0 := b5; have f1 := b6; have f2 := b14; have f3 := b15; have f4 := a9_17 hJ (j := 3) rfl; have f5 := b4; have f6 := k9; have f7 := b13; have f8 := k33; have zm2 : ((-2) : Int32).toInt = (-2) := (by decide); have z0 : (0 : Int32).toInt = 0 := (by decide); omega)), trivial⟩, (show va_P D clz (WD9 cy g σ) tS.heap by rw [ht]; exact hP)⟩, hS.F ht⟩) hS.2.2 dX9_whyNot_18

theorem q1999 : Cond.code yX9_areDoubles cX9_areDoubles 3 (some .boolean) ∈ lw_g := lw_gm (List.mem_of_getElem? (i := 1999) (by decide +kernel)) rfl
theorem dX9_areDoubles_0 : decode cX9_areDoubles 0 = .ok (.aload_n 0, 1) := by decide +kernel
theorem dX9_areDoubles_1 : decode cX9_areDoubles 1 = .ok (.iload_n 2, 1) := by decide +kernel
theorem dX9_areDoubles_2 : decode cX9_areDoubles 2 = .ok (.invokevirtual 303, 3) := by decide +kernel
theorem dX9_areDoubles_5 : decode cX9_areDoubles 5 = .ok (.ifCond .eq 31, 3) := by decide +kernel
theorem dX9_areDoubles_8 : decode cX9_areDoubles 8 = .ok (.iload_n 1, 1) := by decide +kernel
theorem dX9_areDoubles_9 : decode cX9_areDoubles 9 = .ok (.ifCond .le 27, 3) := by decide +kernel
theorem dX9_areDoubles_12 : decode cX9_areDoubles 12 = .ok (.iload_n 1, 1) := by decide +kernel
theorem dX9_areDoubles_13 : decode cX9_areDoubles 13 = .ok (.iconst 1, 1) := by decide +kernel
theorem dX9_areDoubles_14 : decode cX9_areDoubles 14 = .ok (.aload_n 0, 1) := by decide +kernel
theorem dX9_areDoubles_15 : decode cX9_areDoubles 15 = .ok (.getfield 34, 3) := by decide +kernel
theorem dX9_areDoubles_18 : decode cX9_areDoubles 18 = .ok (.iconst 3, 1) := by decide +kernel
theorem dX9_areDoubles_19 : decode cX9_areDoubles 19 = .ok (.iaload, 1) := by decide +kernel
theorem dX9_areDoubles_20 : decode cX9_areDoubles 20 = .ok (.ishl, 1) := by decide +kernel
theorem dX9_areDoubles_21 : decode cX9_areDoubles 21 = .ok (.if_icmp .ge 15, 3) := by decide +kernel
theorem dX9_areDoubles_24 : decode cX9_areDoubles 24 = .ok (.iload_n 1, 1) := by decide +kernel
theorem dX9_areDoubles_25 : decode cX9_areDoubles 25 = .ok (.invokestatic 464, 3) := by decide +kernel
theorem dX9_areDoubles_28 : decode cX9_areDoubles 28 = .ok (.iconst 3, 1) := by decide +kernel
theorem dX9_areDoubles_29 : decode cX9_areDoubles 29 = .ok (.if_icmp .gt 7, 3) := by decide +kernel
theorem dX9_areDoubles_32 : decode cX9_areDoubles 32 = .ok (.iconst 1, 1) := by decide +kernel
theorem dX9_areDoubles_33 : decode cX9_areDoubles 33 = .ok (.goto 4, 3) := by decide +kernel
theorem dX9_areDoubles_36 : decode cX9_areDoubles 36 = .ok (.iconst 0, 1) := by decide +kernel
theorem dX9_areDoubles_37 : decode cX9_areDoubles 37 = .ok (.ireturn, 1) := by decide +kernel
set_option maxHeartbeats 4000000 in
set_option maxRecDepth 100000 in
theorem m_X9_areDoubles (l : Launch) (D : va_G) (cy : Nat → ClassId) (g : Nat → Nat) (σ : ST) (p1 : Int32) (p2 : Int32) (sz : Nat) (hJ : J9 (σ 9))  : Met l yX9_areDoubles (ww yX9_areDoubles cX9_areDoubles 3 (some .boolean)) ({ frames := 3, cells := 0, slots := 0, locals := 192 }) (va_Pc [.ref (g 60), .int p1, .int p2] (pr9 D cy g σ sz)) (qi9 D cy g sz (fun r τ => τ = σ ∧ ((0 : Int) ≤ r.toInt ∧ r.toInt ≤ 1) ∧ ((r.toInt = 0) ∨ ((1 : Int) ≤ p1.toInt ∧ p1.toInt ≤ 511 ∧ (0 : Int) ≤ p2.toInt ∧ p2.toInt ≤ 2)) ∧ True)) 0 0 (A9 cy g sz) := by
  refine Met.ofW (cc := cX9_areDoubles) (maxL := 3) (ret := (some .boolean)) (by decide) rfl ?_
  intro p e s m args below meth c s₁ B hml hv
  obtain ⟨rfl, hsz, hP, hK, hD0, hC⟩ := hv
  have hx := B.exec
  have hb := B.bytes
  have hr := B.returns
  have hts := hts_g (atoms_spec (ws := ww yX9_areDoubles cX9_areDoubles 3 (some .boolean)) B.pre)
  have hown : s.vm.findClass RX9 = some m.cls := findClass_of_methodNamed B.named
  have hlocks := B.notSynchronized
  clear B
  subst hsz
  have hD := fun τ => A9_D (sz := s.heap.size) hD0 τ
  clear hD0
  have hS : va_S (A9 cy g s.heap.size) s.heap s.heap [] := va_S.rf
  have hl := lv_entry ([.ref (g 60), .int p1, .int p2]) (n := 3) (Nat.le_of_ble_eq_true rfl)
  rw [lg_entry_eq]
  generalize (lg_sl ([.ref (g 60), .int p1, .int p2]) ++ List.replicate (3 - (lg_sl ([.ref (g 60), .int p1, .int p2])).length) Slot.unset).toArray = ls at hl ⊢
  have hl : lv_has ls 3 [(0, .ref (g 60)), (1, .int p1), (2, .int p2)] := hl
  refine lv_aload_n hx hb dX9_areDoubles_0 rfl (lv_at hl 0 rfl) ?_
  refine lv_iload_n hx hb dX9_areDoubles_1 rfl (lv_at hl 2 rfl) ?_
  refine va_calli (va_runV (As := [.int p2]) (rest := []) ⟨hx, hb, hml, hown, hts⟩ (m_X9_isPart l D cy g σ p2 _ hJ ) (cwV 1 hts (gd_V q1722 q1724 q74 q134 q1725) rfl rfl rfl (by decide +kernel) ⟨Nat.le_of_ble_eq_true rfl, Nat.le_of_ble_eq_true rfl⟩) (pv9 hP hK hD hC hS (va_recv hK hP (ci := 9) (q0 := 0) rfl rfl)) rfl rfl hl.1 rfl (lv_room (Nat.le_of_ble_eq_true rfl)) dX9_areDoubles_2 ⟨Nat.le_of_ble_eq_true rfl, Nat.le_of_ble_eq_true rfl⟩) hS (fun q _ h => up9 hS q h) (up9 hS) (fun r1 σ2 tS H1 locs ht hvm hw3 hB hz1 hk1 hS => ?_)
  have hP : va_P D clz (WD9 cy g σ2) H1 := by rw [← ht]; exact hB
  clear hB hz1 hk1 hvm ht
  generalize H1 = H at hP hS ⊢
  have hw3E : σ = σ2 := (hw3.1).symm
  subst hw3E
  have b4 : (0 : Int) ≤ r1.toInt ∧ r1.toInt ≤ 1 := hw3.2.1
  have b5 : (r1.toInt = 0) ∨ ((0 : Int) ≤ p2.toInt ∧ p2.toInt ≤ 2) := hw3.2.2.1
  have b6 : (r1.toInt = 0) ∨ (0 ≤ p2.toInt ∧ p2.toInt < ((σ 9).2.2.1 17 4).toInt) := hw3.2.2.2.1
  refine lv_if_eq (tgt := 36) hx hb dX9_areDoubles_5 (by decide) (fun c7 => ?_) (fun c7 => ?_)
  ·
    have k8 := peq32 c7
    refine lv_iconst (v := 0) hx hb dX9_areDoubles_36 (by decide) ?_
    exact W.zret (v := 0) hx hb hr rfl (fun tS ht hW => ⟨⟨0, σ, rfl, ⟨rfl, (show (0 : Int) ≤ (0 : Int32).toInt ∧ (0 : Int32).toInt ≤ 1 from (by have z0 : (0 : Int32).toInt = 0 := (by decide); omega)), (show ((0 : Int32).toInt = 0) ∨ ((1 : Int) ≤ p1.toInt ∧ p1.toInt ≤ 511 ∧ (0 : Int) ≤ p2.toInt ∧ p2.toInt ≤ 2) from (by have f0 := b5; have f1 := b6; have f2 := a9_17 hJ (j := 4) rfl; have f3 := b4; have f4 := k8; have z0 : (0 : Int32).toInt = 0 := (by decide); omega)), trivial⟩, (show va_P D clz (WD9 cy g σ) tS.heap by rw [ht]; exact hP)⟩, hS.F ht⟩) hS.2.2 dX9_areDoubles_37
  ·
    have k9 := neq32 c7
    refine lv_iload_n hx hb dX9_areDoubles_8 rfl (lv_at hl 1 rfl) ?_
    refine lv_if_le (tgt := 36) hx hb dX9_areDoubles_9 (by decide) (fun c10 => ?_) (fun c10 => ?_)
    ·
      have k11 := ple32 c10
      refine lv_iconst (v := 0) hx hb dX9_areDoubles_36 (by decide) ?_
      exact W.zret (v := 0) hx hb hr rfl (fun tS ht hW => ⟨⟨0, σ, rfl, ⟨rfl, (show (0 : Int) ≤ (0 : Int32).toInt ∧ (0 : Int32).toInt ≤ 1 from (by have z0 : (0 : Int32).toInt = 0 := (by decide); omega)), (show ((0 : Int32).toInt = 0) ∨ ((1 : Int) ≤ p1.toInt ∧ p1.toInt ≤ 511 ∧ (0 : Int) ≤ p2.toInt ∧ p2.toInt ≤ 2) from (by have f0 := b5; have f1 := b6; have f2 := k11; have f3 := a9_17 hJ (j := 4) rfl; have f4 := b4; have f5 := k9; have z0 : (0 : Int32).toInt = 0 := (by decide); omega)), trivial⟩, (show va_P D clz (WD9 cy g σ) tS.heap by rw [ht]; exact hP)⟩, hS.F ht⟩) hS.2.2 dX9_areDoubles_37
    ·
      have k12 := nle32 c10
      refine lv_iload_n hx hb dX9_areDoubles_12 rfl (lv_at hl 1 rfl) ?_
      refine lv_iconst (v := 1) hx hb dX9_areDoubles_13 (by decide) ?_
      refine lv_aload_n hx hb dX9_areDoubles_14 rfl (lv_at hl 0 rfl) ?_
      refine g9_17 hx hb hts hown hK hP (hts _ q1377) dX9_areDoubles_15 ?_
      refine lv_iconst (v := 3) hx hb dX9_areDoubles_18 (by decide) ?_
      refine l9_17 (x := ((σ 9).2.2.1 17 3)) hx hb hK hP (vpi (by decide)) (congrArg ((σ 9).2.2.1 17) (show (3 : Int32).toInt.toNat = 3 by decide)) dX9_areDoubles_19 ?_
      refine lv_ishl hx hb dX9_areDoubles_20 ?_
      refine lv_topi (fun x13 ex13 => ?_)
      have t14 := shl9 ex13 (by have f0 := a9_17 hJ (j := 3) rfl; omega)
      refine lv_icmp_ge (tgt := 36) hx hb dX9_areDoubles_21 (by decide) (fun c15 => ?_) (fun c15 => ?_)
      ·
        have k16 := ple32 c15
        refine lv_iconst (v := 0) hx hb dX9_areDoubles_36 (by decide) ?_
        exact W.zret (v := 0) hx hb hr rfl (fun tS ht hW => ⟨⟨0, σ, rfl, ⟨rfl, (show (0 : Int) ≤ (0 : Int32).toInt ∧ (0 : Int32).toInt ≤ 1 from (by have z0 : (0 : Int32).toInt = 0 := (by decide); omega)), (show ((0 : Int32).toInt = 0) ∨ ((1 : Int) ≤ p1.toInt ∧ p1.toInt ≤ 511 ∧ (0 : Int) ≤ p2.toInt ∧ p2.toInt ≤ 2) from (by have f0 := b5; have f1 := b6; have f2 := k12; have f3 := k16; have f4 := a9_17 hJ (j := 4) rfl; have f5 := b4; have f6 := k9; have f7 := t14; have z0 : (0 : Int32).toInt = 0 := (by decide); omega)), trivial⟩, (show va_P D clz (WD9 cy g σ) tS.heap by rw [ht]; exact hP)⟩, hS.F ht⟩) hS.2.2 dX9_areDoubles_37
      ·
        have k17 := nle32 c15
        refine lv_iload_n hx hb dX9_areDoubles_24 rfl (lv_at hl 1 rfl) ?_
        refine va_calli (va_runS (As := [.int p1]) (rest := []) ⟨hx, hb, hml, hown, hts⟩ (m_X9_bits l D cy g σ p1 _ hJ ) (va_cwS 1 hts (gd_S q1957 q1958 q134 q1959) rfl rfl rfl (by decide +kernel) ⟨Nat.le_of_ble_eq_true rfl, Nat.le_of_ble_eq_true rfl⟩) (ps9 hP hK hD hC hS) rfl rfl hl.1 rfl (lv_room (Nat.le_of_ble_eq_true rfl)) dX9_areDoubles_25 ⟨Nat.le_of_ble_eq_true rfl, Nat.le_of_ble_eq_true rfl⟩) hS (fun q _ h => up9 hS q h) (up9 hS) (fun r18 σ19 tS H1 locs ht hvm hw20 hB hz1 hk1 hS => ?_)
        have hP : va_P D clz (WD9 cy g σ19) H1 := by rw [← ht]; exact hB
        clear hB hz1 hk1 hvm ht
        generalize H1 = H at hP hS ⊢
        have hw20E : σ = σ19 := (hw20.1).symm
        subst hw20E
        have b21 : r18 = bitT p1 := hw20.2.1
        refine lv_iconst (v := 3) hx hb dX9_areDoubles_28 (by decide) ?_
        refine lv_icmp_gt (tgt := 36) hx hb dX9_areDoubles_29 (by decide) (fun c22 => ?_) (fun c22 => ?_)
        ·
          have k23 := plt32 c22
          refine lv_iconst (v := 0) hx hb dX9_areDoubles_36 (by decide) ?_
          exact W.zret (v := 0) hx hb hr rfl (fun tS ht hW => ⟨⟨0, σ, rfl, ⟨rfl, (show (0 : Int) ≤ (0 : Int32).toInt ∧ (0 : Int32).toInt ≤ 1 from (by have z0 : (0 : Int32).toInt = 0 := (by decide); omega)), (show ((0 : Int32).toInt = 0) ∨ ((1 : Int) ≤ p1.toInt ∧ p1.toInt ≤ 511 ∧ (0 : Int) ≤ p2.toInt ∧ p2.toInt ≤ 2) from (by have f0 := b5; have f1 := b6; have f2 := k12; have f3 := k17; have f4 := a9_17 hJ (j := 4) rfl; have f5 := b4; have f6 := k9; have f7 := t14; have z0 : (0 : Int32).toInt = 0 := (by decide); omega)), trivial⟩, (show va_P D clz (WD9 cy g σ) tS.heap by rw [ht]; exact hP)⟩, hS.F ht⟩) hS.2.2 dX9_areDoubles_37
        ·
          have k24 := nlt32 c22
          refine lv_iconst (v := 1) hx hb dX9_areDoubles_32 (by decide) ?_
          refine lv_goto (tgt := 37) hx hb dX9_areDoubles_33 (by decide) ?_
          exact W.zret (v := 1) hx hb hr rfl (fun tS ht hW => ⟨⟨1, σ, rfl, ⟨rfl, (show (0 : Int) ≤ (1 : Int32).toInt ∧ (1 : Int32).toInt ≤ 1 from (by have z1 : (1 : Int32).toInt = 1 := (by decide); omega)), (show ((1 : Int32).toInt = 0) ∨ ((1 : Int) ≤ p1.toInt ∧ p1.toInt ≤ 511 ∧ (0 : Int) ≤ p2.toInt ∧ p2.toInt ≤ 2) from (by have f0 := b5; have f1 := b6; have f2 := k12; have f3 := k17; have f4 := a9_17 hJ (j := 4) rfl; have f5 := b4; have f6 := k9; have f7 := t14; have z0 : (0 : Int32).toInt = 0 := (by decide); have z1 : (1 : Int32).toInt = 1 := (by decide); omega)), trivial⟩, (show va_P D clz (WD9 cy g σ) tS.heap by rw [ht]; exact hP)⟩, hS.F ht⟩) hS.2.2 dX9_areDoubles_37

theorem q2003 : Cond.code yX9_doublesBy cX9_doublesBy 6 (some .int) ∈ lw_g := lw_gm (List.mem_of_getElem? (i := 2003) (by decide +kernel)) rfl
theorem q2004 : Cond.methodLink RX9 488 yX9_states ∈ lw_g := lw_gm (List.mem_of_getElem? (i := 2004) (by decide +kernel)) rfl
theorem q2006 : Cond.instanceMethod yX9_states ∈ lw_g := lw_gm (List.mem_of_getElem? (i := 2006) (by decide +kernel)) rfl
theorem q113 : Cond.selects RX9 yX9_states yX9_states ∈ lw_g := lw_gm (List.mem_of_getElem? (i := 113) (by decide +kernel)) rfl
theorem q2008 : Cond.methodLink RX9 491 yX9_leftFrom ∈ lw_g := lw_gm (List.mem_of_getElem? (i := 2008) (by decide +kernel)) rfl
theorem q2010 : Cond.instanceMethod yX9_leftFrom ∈ lw_g := lw_gm (List.mem_of_getElem? (i := 2010) (by decide +kernel)) rfl
theorem q114 : Cond.selects RX9 yX9_leftFrom yX9_leftFrom ∈ lw_g := lw_gm (List.mem_of_getElem? (i := 114) (by decide +kernel)) rfl
theorem q1413 : Cond.fieldLink RX9 114 "LipsAndSlidesModel" "doubleWho" "[I" ∈ lw_g := lw_gm (List.mem_of_getElem? (i := 1413) (by decide +kernel)) rfl
theorem dX9_doublesBy_0 : decode cX9_doublesBy 0 = .ok (.aload_n 0, 1) := by decide +kernel
theorem dX9_doublesBy_1 : decode cX9_doublesBy 1 = .ok (.iconst 0, 1) := by decide +kernel
theorem dX9_doublesBy_2 : decode cX9_doublesBy 2 = .ok (.putfield 479, 3) := by decide +kernel
theorem dX9_doublesBy_5 : decode cX9_doublesBy 5 = .ok (.aload_n 0, 1) := by decide +kernel
theorem dX9_doublesBy_6 : decode cX9_doublesBy 6 = .ok (.iload_n 2, 1) := by decide +kernel
theorem dX9_doublesBy_7 : decode cX9_doublesBy 7 = .ok (.putfield 482, 3) := by decide +kernel
theorem dX9_doublesBy_10 : decode cX9_doublesBy 10 = .ok (.iconst 0, 1) := by decide +kernel
theorem dX9_doublesBy_11 : decode cX9_doublesBy 11 = .ok (.istore_n 3, 1) := by decide +kernel
theorem dX9_doublesBy_12 : decode cX9_doublesBy 12 = .ok (.iload_n 3, 1) := by decide +kernel
theorem dX9_doublesBy_13 : decode cX9_doublesBy 13 = .ok (.aload_n 0, 1) := by decide +kernel
theorem dX9_doublesBy_14 : decode cX9_doublesBy 14 = .ok (.getfield 34, 3) := by decide +kernel
theorem dX9_doublesBy_17 : decode cX9_doublesBy 17 = .ok (.iconst 3, 1) := by decide +kernel
theorem dX9_doublesBy_18 : decode cX9_doublesBy 18 = .ok (.iaload, 1) := by decide +kernel
theorem dX9_doublesBy_19 : decode cX9_doublesBy 19 = .ok (.if_icmp .ge 59, 3) := by decide +kernel
theorem dX9_doublesBy_22 : decode cX9_doublesBy 22 = .ok (.iload_n 1, 1) := by decide +kernel
theorem dX9_doublesBy_23 : decode cX9_doublesBy 23 = .ok (.iload_n 3, 1) := by decide +kernel
theorem dX9_doublesBy_24 : decode cX9_doublesBy 24 = .ok (.ishr, 1) := by decide +kernel
theorem dX9_doublesBy_25 : decode cX9_doublesBy 25 = .ok (.iconst 1, 1) := by decide +kernel
theorem dX9_doublesBy_26 : decode cX9_doublesBy 26 = .ok (.iand, 1) := by decide +kernel
theorem dX9_doublesBy_27 : decode cX9_doublesBy 27 = .ok (.ifCond .ne 6, 3) := by decide +kernel
theorem dX9_doublesBy_30 : decode cX9_doublesBy 30 = .ok (.goto 42, 3) := by decide +kernel
theorem dX9_doublesBy_33 : decode cX9_doublesBy 33 = .ok (.aload_n 0, 1) := by decide +kernel
theorem dX9_doublesBy_34 : decode cX9_doublesBy 34 = .ok (.getfield 114, 3) := by decide +kernel
theorem dX9_doublesBy_37 : decode cX9_doublesBy 37 = .ok (.aload_n 0, 1) := by decide +kernel
theorem dX9_doublesBy_38 : decode cX9_doublesBy 38 = .ok (.getfield 479, 3) := by decide +kernel
theorem dX9_doublesBy_41 : decode cX9_doublesBy 41 = .ok (.iload_n 3, 1) := by decide +kernel
theorem dX9_doublesBy_42 : decode cX9_doublesBy 42 = .ok (.iastore, 1) := by decide +kernel
theorem dX9_doublesBy_43 : decode cX9_doublesBy 43 = .ok (.aload_n 0, 1) := by decide +kernel
theorem dX9_doublesBy_44 : decode cX9_doublesBy 44 = .ok (.getfield 117, 3) := by decide +kernel
theorem dX9_doublesBy_47 : decode cX9_doublesBy 47 = .ok (.aload_n 0, 1) := by decide +kernel
theorem dX9_doublesBy_48 : decode cX9_doublesBy 48 = .ok (.getfield 479, 3) := by decide +kernel
theorem dX9_doublesBy_51 : decode cX9_doublesBy 51 = .ok (.aload_n 0, 1) := by decide +kernel
theorem dX9_doublesBy_52 : decode cX9_doublesBy 52 = .ok (.getfield 40, 3) := by decide +kernel
theorem dX9_doublesBy_55 : decode cX9_doublesBy 55 = .ok (.iconst 4, 1) := by decide +kernel
theorem dX9_doublesBy_56 : decode cX9_doublesBy 56 = .ok (.iload_n 3, 1) := by decide +kernel
theorem dX9_doublesBy_57 : decode cX9_doublesBy 57 = .ok (.imul, 1) := by decide +kernel
theorem dX9_doublesBy_58 : decode cX9_doublesBy 58 = .ok (.iconst 2, 1) := by decide +kernel
theorem dX9_doublesBy_59 : decode cX9_doublesBy 59 = .ok (.iadd, 1) := by decide +kernel
theorem dX9_doublesBy_60 : decode cX9_doublesBy 60 = .ok (.iaload, 1) := by decide +kernel
theorem dX9_doublesBy_61 : decode cX9_doublesBy 61 = .ok (.iastore, 1) := by decide +kernel
theorem dX9_doublesBy_62 : decode cX9_doublesBy 62 = .ok (.aload_n 0, 1) := by decide +kernel
theorem dX9_doublesBy_63 : decode cX9_doublesBy 63 = .ok (.dup, 1) := by decide +kernel
theorem dX9_doublesBy_64 : decode cX9_doublesBy 64 = .ok (.getfield 479, 3) := by decide +kernel
theorem dX9_doublesBy_67 : decode cX9_doublesBy 67 = .ok (.iconst 1, 1) := by decide +kernel
theorem dX9_doublesBy_68 : decode cX9_doublesBy 68 = .ok (.iadd, 1) := by decide +kernel
theorem dX9_doublesBy_69 : decode cX9_doublesBy 69 = .ok (.putfield 479, 3) := by decide +kernel
theorem dX9_doublesBy_72 : decode cX9_doublesBy 72 = .ok (.iinc 3 1, 3) := by decide +kernel
theorem dX9_doublesBy_75 : decode cX9_doublesBy 75 = .ok (.goto (-63), 3) := by decide +kernel
theorem dX9_doublesBy_78 : decode cX9_doublesBy 78 = .ok (.aload_n 0, 1) := by decide +kernel
theorem dX9_doublesBy_79 : decode cX9_doublesBy 79 = .ok (.invokevirtual 488, 3) := by decide +kernel
theorem dX9_doublesBy_82 : decode cX9_doublesBy 82 = .ok (.istore_n 3, 1) := by decide +kernel
theorem dX9_doublesBy_83 : decode cX9_doublesBy 83 = .ok (.iconst 0, 1) := by decide +kernel
theorem dX9_doublesBy_84 : decode cX9_doublesBy 84 = .ok (.istore 4, 2) := by decide +kernel
theorem dX9_doublesBy_86 : decode cX9_doublesBy 86 = .ok (.iload 4, 2) := by decide +kernel
theorem dX9_doublesBy_88 : decode cX9_doublesBy 88 = .ok (.iload_n 3, 1) := by decide +kernel
theorem dX9_doublesBy_89 : decode cX9_doublesBy 89 = .ok (.if_icmp .ge 28, 3) := by decide +kernel
theorem dX9_doublesBy_92 : decode cX9_doublesBy 92 = .ok (.aload_n 0, 1) := by decide +kernel
theorem dX9_doublesBy_93 : decode cX9_doublesBy 93 = .ok (.getfield 111, 3) := by decide +kernel
theorem dX9_doublesBy_96 : decode cX9_doublesBy 96 = .ok (.sipush 29791, 3) := by decide +kernel
theorem dX9_doublesBy_99 : decode cX9_doublesBy 99 = .ok (.aload_n 0, 1) := by decide +kernel
theorem dX9_doublesBy_100 : decode cX9_doublesBy 100 = .ok (.getfield 43, 3) := by decide +kernel
theorem dX9_doublesBy_103 : decode cX9_doublesBy 103 = .ok (.iload_n 2, 1) := by decide +kernel
theorem dX9_doublesBy_104 : decode cX9_doublesBy 104 = .ok (.iaload, 1) := by decide +kernel
theorem dX9_doublesBy_105 : decode cX9_doublesBy 105 = .ok (.imul, 1) := by decide +kernel
theorem dX9_doublesBy_106 : decode cX9_doublesBy 106 = .ok (.iload 4, 2) := by decide +kernel
theorem dX9_doublesBy_108 : decode cX9_doublesBy 108 = .ok (.iadd, 1) := by decide +kernel
theorem dX9_doublesBy_109 : decode cX9_doublesBy 109 = .ok (.iconst 0, 1) := by decide +kernel
theorem dX9_doublesBy_110 : decode cX9_doublesBy 110 = .ok (.bastore, 1) := by decide +kernel
theorem dX9_doublesBy_111 : decode cX9_doublesBy 111 = .ok (.iinc 4 1, 3) := by decide +kernel
theorem dX9_doublesBy_114 : decode cX9_doublesBy 114 = .ok (.goto (-28), 3) := by decide +kernel
theorem dX9_doublesBy_117 : decode cX9_doublesBy 117 = .ok (.aload_n 0, 1) := by decide +kernel
theorem dX9_doublesBy_118 : decode cX9_doublesBy 118 = .ok (.getfield 43, 3) := by decide +kernel
theorem dX9_doublesBy_121 : decode cX9_doublesBy 121 = .ok (.iload_n 2, 1) := by decide +kernel
theorem dX9_doublesBy_122 : decode cX9_doublesBy 122 = .ok (.iaload, 1) := by decide +kernel
theorem dX9_doublesBy_123 : decode cX9_doublesBy 123 = .ok (.iconst 1, 1) := by decide +kernel
theorem dX9_doublesBy_124 : decode cX9_doublesBy 124 = .ok (.isub, 1) := by decide +kernel
theorem dX9_doublesBy_125 : decode cX9_doublesBy 125 = .ok (.istore 4, 2) := by decide +kernel
theorem dX9_doublesBy_127 : decode cX9_doublesBy 127 = .ok (.iload 4, 2) := by decide +kernel
theorem dX9_doublesBy_129 : decode cX9_doublesBy 129 = .ok (.ifCond .lt 47, 3) := by decide +kernel
theorem dX9_doublesBy_132 : decode cX9_doublesBy 132 = .ok (.iconst 0, 1) := by decide +kernel
theorem dX9_doublesBy_133 : decode cX9_doublesBy 133 = .ok (.istore 5, 2) := by decide +kernel
theorem dX9_doublesBy_135 : decode cX9_doublesBy 135 = .ok (.iload 5, 2) := by decide +kernel
theorem dX9_doublesBy_137 : decode cX9_doublesBy 137 = .ok (.iload_n 3, 1) := by decide +kernel
theorem dX9_doublesBy_138 : decode cX9_doublesBy 138 = .ok (.if_icmp .ge 32, 3) := by decide +kernel
theorem dX9_doublesBy_141 : decode cX9_doublesBy 141 = .ok (.aload_n 0, 1) := by decide +kernel
theorem dX9_doublesBy_142 : decode cX9_doublesBy 142 = .ok (.getfield 111, 3) := by decide +kernel
theorem dX9_doublesBy_145 : decode cX9_doublesBy 145 = .ok (.sipush 29791, 3) := by decide +kernel
theorem dX9_doublesBy_148 : decode cX9_doublesBy 148 = .ok (.iload 4, 2) := by decide +kernel
theorem dX9_doublesBy_150 : decode cX9_doublesBy 150 = .ok (.imul, 1) := by decide +kernel
theorem dX9_doublesBy_151 : decode cX9_doublesBy 151 = .ok (.iload 5, 2) := by decide +kernel
theorem dX9_doublesBy_153 : decode cX9_doublesBy 153 = .ok (.iadd, 1) := by decide +kernel
theorem dX9_doublesBy_154 : decode cX9_doublesBy 154 = .ok (.aload_n 0, 1) := by decide +kernel
theorem dX9_doublesBy_155 : decode cX9_doublesBy 155 = .ok (.iload 4, 2) := by decide +kernel
theorem dX9_doublesBy_157 : decode cX9_doublesBy 157 = .ok (.iload 5, 2) := by decide +kernel
theorem dX9_doublesBy_159 : decode cX9_doublesBy 159 = .ok (.invokevirtual 491, 3) := by decide +kernel
theorem dX9_doublesBy_162 : decode cX9_doublesBy 162 = .ok (.i2b, 1) := by decide +kernel
theorem dX9_doublesBy_163 : decode cX9_doublesBy 163 = .ok (.bastore, 1) := by decide +kernel
theorem dX9_doublesBy_164 : decode cX9_doublesBy 164 = .ok (.iinc 5 1, 3) := by decide +kernel
theorem dX9_doublesBy_167 : decode cX9_doublesBy 167 = .ok (.goto (-32), 3) := by decide +kernel
theorem dX9_doublesBy_170 : decode cX9_doublesBy 170 = .ok (.iinc 4 (-1), 3) := by decide +kernel
theorem dX9_doublesBy_173 : decode cX9_doublesBy 173 = .ok (.goto (-46), 3) := by decide +kernel
theorem dX9_doublesBy_176 : decode cX9_doublesBy 176 = .ok (.aload_n 0, 1) := by decide +kernel
theorem dX9_doublesBy_177 : decode cX9_doublesBy 177 = .ok (.getfield 111, 3) := by decide +kernel
theorem dX9_doublesBy_180 : decode cX9_doublesBy 180 = .ok (.iconst 0, 1) := by decide +kernel
theorem dX9_doublesBy_181 : decode cX9_doublesBy 181 = .ok (.baload, 1) := by decide +kernel
theorem dX9_doublesBy_182 : decode cX9_doublesBy 182 = .ok (.ireturn, 1) := by decide +kernel
set_option maxHeartbeats 4000000 in
set_option maxRecDepth 100000 in
theorem m_X9_doublesBy (l : Launch) (D : va_G) (cy : Nat → ClassId) (g : Nat → Nat) (σ : ST) (p1 : Int32) (p2 : Int32) (sz : Nat) (hJ : J9 (σ 9)) (h0 : (0 : Int) ≤ p2.toInt ∧ p2.toInt ≤ 2) : Met l yX9_doublesBy (ww yX9_doublesBy cX9_doublesBy 6 (some .int)) ({ frames := 4, cells := 0, slots := 0, locals := 256 }) (va_Pc [.ref (g 60), .int p1, .int p2] (pr9 D cy g σ sz)) (qi9 D cy g sz (fun r τ => Fr (fL [50, 51, 52, 53, 54]) σ τ ∧ J9 (τ 9) ∧ True)) 0 0 (A9 cy g sz) := by
  refine Met.ofW (cc := cX9_doublesBy) (maxL := 6) (ret := (some .int)) (by decide) rfl ?_
  intro p e s m args below meth c s₁ B hml hv
  obtain ⟨rfl, hsz, hP, hK, hD0, hC⟩ := hv
  have hx := B.exec
  have hb := B.bytes
  have hr := B.returns
  have hts := hts_g (atoms_spec (ws := ww yX9_doublesBy cX9_doublesBy 6 (some .int)) B.pre)
  have hown : s.vm.findClass RX9 = some m.cls := findClass_of_methodNamed B.named
  have hlocks := B.notSynchronized
  clear B
  subst hsz
  have hD := fun τ => A9_D (sz := s.heap.size) hD0 τ
  clear hD0
  have hS : va_S (A9 cy g s.heap.size) s.heap s.heap [] := va_S.rf
  have hl := lv_entry ([.ref (g 60), .int p1, .int p2]) (n := 6) (Nat.le_of_ble_eq_true rfl)
  rw [lg_entry_eq]
  generalize (lg_sl ([.ref (g 60), .int p1, .int p2]) ++ List.replicate (6 - (lg_sl ([.ref (g 60), .int p1, .int p2])).length) Slot.unset).toArray = ls at hl ⊢
  have hl : lv_has ls 6 [(0, .ref (g 60)), (1, .int p1), (2, .int p2)] := hl
  refine lv_aload_n hx hb dX9_doublesBy_0 rfl (lv_at hl 0 rfl) ?_
  refine lv_iconst (v := 0) hx hb dX9_doublesBy_1 (by decide) ?_
  refine p9_51 hx hb hts hown hK hP hD hS (hts _ q1411) dX9_doublesBy_2 (fun H locs σ1 eσ1 hP hS => ?_)
  have hJ2 : J9 (σ1 9) := hJ.I eσ1 (show JI9 51 (0 : Int32) from (by constructor <;> decide))
  refine lv_aload_n hx hb dX9_doublesBy_5 rfl (lv_at hl 0 rfl) ?_
  refine lv_iload_n hx hb dX9_doublesBy_6 rfl (lv_at hl 2 rfl) ?_
  refine p9_52 hx hb hts hown hK hP hD hS (hts _ q1412) dX9_doublesBy_7 (fun H locs σ3 eσ3 hP hS => ?_)
  have hJ4 : J9 (σ3 9) := hJ2.I eσ3 (show JI9 52 p2 from (by have f0 := h0; exact ⟨by omega, by omega⟩))
  refine lv_iconst (v := 0) hx hb dX9_doublesBy_10 (by decide) ?_
  refine lv_istore_n (lv' := [(3, .int 0), (0, .ref (g 60)), (1, .int p1), (2, .int p2)]) hx hb dX9_doublesBy_11 rfl hl (by decide) rfl (fun ls hl => ?_)
  refine loop9 6 12 (fun x : LZ => [(3, .int (x.2.1 0)), (0, .ref (g 60)), (1, .int p1), (2, .int p2)]) (fun x : LZ => (Fr (fL [51, 53, 54]) σ3 x.1) ∧ (J9 (x.1 9)) ∧ ((0 : Int) ≤ (x.2.1 0).toInt ∧ (x.2.1 0).toInt ≤ 60) ∧ True) (fun x : LZ => ((61 : Int) - (x.2.1 0).toInt).toNat) ?_ (σ3, lf [0], lg []) ⟨Fr.rf, hJ4, (show (0 : Int) ≤ (0 : Int32).toInt ∧ (0 : Int32).toInt ≤ 60 from (by have z0 : (0 : Int32).toInt = 0 := (by decide); omega)), trivial⟩ _ _ _ hP hS (lv_sub hl [0, 1, 2, 3] rfl)
  intro y7 hI6 nl5 H locs ls hP hS hl
  obtain ⟨σ8, eσ8⟩ : ∃ z, z = y7.1 := ⟨_, rfl⟩
  rw [← eσ8] at hP hI6
  have hF9 : Fr (fL [51, 53, 54]) σ3 σ8 := hI6.1
  have hJ10 : J9 (σ8 9) := hI6.2.1
  have b11 : (0 : Int) ≤ (y7.2.1 0).toInt ∧ (y7.2.1 0).toInt ≤ 60 := hI6.2.2.1
  have hl : lv_has ls 6 [(3, .int (y7.2.1 0)), (0, .ref (g 60)), (1, .int p1), (2, .int p2)] := hl
  refine lv_iload_n hx hb dX9_doublesBy_12 rfl (lv_at hl 0 rfl) ?_
  refine lv_aload_n hx hb dX9_doublesBy_13 rfl (lv_at hl 1 rfl) ?_
  refine g9_17 hx hb hts hown hK hP (hts _ q1377) dX9_doublesBy_14 ?_
  refine lv_iconst (v := 3) hx hb dX9_doublesBy_17 (by decide) ?_
  refine l9_17 (x := ((σ 9).2.2.1 17 3)) hx hb hK hP (vpi (by decide)) ((congrFun (((hF9 9 17 rfl).2.2.1).trans ((((sI_f eσ3) 9 17 rfl).2.2.1).trans (((sI_f eσ1) 9 17 rfl).2.2.1))) _).trans (congrArg ((σ 9).2.2.1 17) (show (3 : Int32).toInt.toNat = 3 by decide))) dX9_doublesBy_18 ?_
  refine lv_icmp_ge (tgt := 78) hx hb dX9_doublesBy_19 (by decide) (fun c12 => ?_) (fun c12 => ?_)
  ·
    have k13 := ple32 c12
    refine lv_aload_n hx hb dX9_doublesBy_78 rfl (lv_at hl 1 rfl) ?_
    refine va_calli (va_runV (As := []) (rest := []) ⟨hx, hb, hml, hown, hts⟩ (m_X9_states l D cy g σ8  _ hJ10 ) (cwV 0 hts (gd_V q2004 q2006 q113 q134 q2007) rfl rfl rfl (by decide +kernel) ⟨Nat.le_of_ble_eq_true rfl, Nat.le_of_ble_eq_true rfl⟩) (pv9 hP hK hD hC hS (va_recv hK hP (ci := 9) (q0 := 0) rfl rfl)) rfl rfl hl.1 rfl (lv_room (Nat.le_of_ble_eq_true rfl)) dX9_doublesBy_79 ⟨Nat.le_of_ble_eq_true rfl, Nat.le_of_ble_eq_true rfl⟩) hS (fun q _ h => up9 hS q h) (up9 hS) (fun r14 σ15 tS H1 locs ht hvm hw16 hB hz1 hk1 hS => ?_)
    have hP : va_P D clz (WD9 cy g σ15) H1 := by rw [← ht]; exact hB
    clear hB hz1 hk1 hvm ht
    generalize H1 = H at hP hS ⊢
    have hw16E : σ8 = σ15 := (hw16.1).symm
    subst hw16E
    have b17 : (31 : Int) ≤ r14.toInt ∧ r14.toInt ≤ 29791 := hw16.2.1
    refine lv_istore_n (lv' := [(3, .int r14), (0, .ref (g 60)), (1, .int p1), (2, .int p2)]) hx hb dX9_doublesBy_82 rfl hl (by decide) rfl (fun ls hl => ?_)
    refine lv_iconst (v := 0) hx hb dX9_doublesBy_83 (by decide) ?_
    refine lv_istore (lv' := [(4, .int 0), (3, .int r14), (0, .ref (g 60)), (1, .int p1), (2, .int p2)]) hx hb dX9_doublesBy_84 hl (by decide) rfl (fun ls hl => ?_)
    refine loop9 6 86 (fun x : LZ => [(4, .int (x.2.1 0)), (3, .int r14), (0, .ref (g 60)), (1, .int p1), (2, .int p2)]) (fun x : LZ => (Fr (fL [50]) σ8 x.1) ∧ (J9 (x.1 9)) ∧ ((0 : Int) ≤ (x.2.1 0).toInt ∧ (x.2.1 0).toInt ≤ 100000) ∧ True) (fun x : LZ => ((100001 : Int) - (x.2.1 0).toInt).toNat) ?_ (σ8, lf [0], lg []) ⟨Fr.rf, hJ10, (show (0 : Int) ≤ (0 : Int32).toInt ∧ (0 : Int32).toInt ≤ 100000 from (by have z0 : (0 : Int32).toInt = 0 := (by decide); omega)), trivial⟩ _ _ _ hP hS (lv_sub hl [0, 1, 2, 3, 4] rfl)
    intro y20 hI19 nl18 H locs ls hP hS hl
    obtain ⟨σ21, eσ21⟩ : ∃ z, z = y20.1 := ⟨_, rfl⟩
    rw [← eσ21] at hP hI19
    have hF22 : Fr (fL [50]) σ8 σ21 := hI19.1
    have hJ23 : J9 (σ21 9) := hI19.2.1
    have b24 : (0 : Int) ≤ (y20.2.1 0).toInt ∧ (y20.2.1 0).toInt ≤ 100000 := hI19.2.2.1
    have hl : lv_has ls 6 [(4, .int (y20.2.1 0)), (3, .int r14), (0, .ref (g 60)), (1, .int p1), (2, .int p2)] := hl
    refine lv_iload hx hb dX9_doublesBy_86 (lv_at hl 0 rfl) ?_
    refine lv_iload_n hx hb dX9_doublesBy_88 rfl (lv_at hl 1 rfl) ?_
    refine lv_icmp_ge (tgt := 117) hx hb dX9_doublesBy_89 (by decide) (fun c25 => ?_) (fun c25 => ?_)
    ·
      have k26 := ple32 c25
      refine lv_aload_n hx hb dX9_doublesBy_117 rfl (lv_at hl 2 rfl) ?_
      refine g9_20 hx hb hts hown hK hP (hts _ q1380) dX9_doublesBy_118 ?_
      refine lv_iload_n hx hb dX9_doublesBy_121 rfl (lv_at hl 4 rfl) ?_
      obtain ⟨x27, ex27⟩ : ∃ z, (σ 9).2.2.1 20 p2.toInt.toNat = z := ⟨_, rfl⟩
      refine l9_20 (x := x27) hx hb hK hP (vpo (by have f0 := h0; omega)) ((congrFun (((hF22 9 20 rfl).2.2.1).trans (((hF9 9 20 rfl).2.2.1).trans ((((sI_f eσ3) 9 20 rfl).2.2.1).trans (((sI_f eσ1) 9 20 rfl).2.2.1)))) _).trans ex27) dX9_doublesBy_122 ?_
      have t28 := a9_20 hJ ex27
      refine lv_iconst (v := 1) hx hb dX9_doublesBy_123 (by decide) ?_
      refine lv_isub hx hb dX9_doublesBy_124 ?_
      refine lv_topi (fun x29 ex29 => ?_)
      have t30 := subO ex29 (by have f0 := t28; have f1 := h0; have z1 : (1 : Int32).toInt = 1 := (by decide); omega)
      refine lv_istore (lv' := [(4, .int x29), (3, .int r14), (0, .ref (g 60)), (1, .int p1), (2, .int p2)]) hx hb dX9_doublesBy_125 hl (by decide) rfl (fun ls hl => ?_)
      refine loop9 6 127 (fun x : LZ => [(4, .int (x.2.1 0)), (3, .int r14), (0, .ref (g 60)), (1, .int p1), (2, .int p2)]) (fun x : LZ => (Fr (fL [50]) σ21 x.1) ∧ (J9 (x.1 9)) ∧ ((-1 : Int) ≤ (x.2.1 0).toInt ∧ (x.2.1 0).toInt ≤ 15) ∧ True) (fun x : LZ => ((x.2.1 0).toInt - (-2 : Int)).toNat) ?_ (σ21, lf [x29], lg []) ⟨Fr.rf, hJ23, (show (-1 : Int) ≤ (x29 : Int32).toInt ∧ (x29 : Int32).toInt ≤ 15 from (by have f0 := t30; have f1 := t28; have f2 := h0; have z1 : (1 : Int32).toInt = 1 := (by decide); omega)), trivial⟩ _ _ _ hP hS (lv_sub hl [0, 1, 2, 3, 4] rfl)
      intro y33 hI32 nl31 H locs ls hP hS hl
      obtain ⟨σ34, eσ34⟩ : ∃ z, z = y33.1 := ⟨_, rfl⟩
      rw [← eσ34] at hP hI32
      have hF35 : Fr (fL [50]) σ21 σ34 := hI32.1
      have hJ36 : J9 (σ34 9) := hI32.2.1
      have b37 : (-1 : Int) ≤ (y33.2.1 0).toInt ∧ (y33.2.1 0).toInt ≤ 15 := hI32.2.2.1
      have hl : lv_has ls 6 [(4, .int (y33.2.1 0)), (3, .int r14), (0, .ref (g 60)), (1, .int p1), (2, .int p2)] := hl
      refine lv_iload hx hb dX9_doublesBy_127 (lv_at hl 0 rfl) ?_
      refine lv_if_lt (tgt := 176) hx hb dX9_doublesBy_129 (by decide) (fun c38 => ?_) (fun c38 => ?_)
      ·
        have k39 := plt32 c38
        refine lv_aload_n hx hb dX9_doublesBy_176 rfl (lv_at hl 2 rfl) ?_
        refine g9_50 hx hb hts hown hK hP (hts _ q1410) dX9_doublesBy_177 ?_
        refine lv_iconst (v := 0) hx hb dX9_doublesBy_180 (by decide) ?_
        refine l9_50 (x := ((σ34 9).2.2.1 50 0)) hx hb hK hP (vpi (by decide)) (congrArg ((σ34 9).2.2.1 50) (show (0 : Int32).toInt.toNat = 0 by decide)) dX9_doublesBy_181 ?_
        exact W.iret (v := ((σ34 9).2.2.1 50 0)) hx hb hr (fun tS ht hW => ⟨⟨((σ34 9).2.2.1 50 0), σ34, rfl, ⟨Fr.tr (Fr.tr (Fr.tr (Fr.tr (Fr.tr (Fr.rf) (sI_f eσ1) (fN_L rfl)) (sI_f eσ3) (fN_L rfl)) hF9 (fL_sub rfl)) hF22 (fL_sub rfl)) hF35 (fL_sub rfl), hJ36, trivial⟩, (show va_P D clz (WD9 cy g σ34) tS.heap by rw [ht]; exact hP)⟩, hS.F ht⟩) hS.2.2 dX9_doublesBy_182
      ·
        have k40 := nlt32 c38
        refine lv_iconst (v := 0) hx hb dX9_doublesBy_132 (by decide) ?_
        refine lv_istore (lv' := [(5, .int 0), (4, .int (y33.2.1 0)), (3, .int r14), (0, .ref (g 60)), (1, .int p1), (2, .int p2)]) hx hb dX9_doublesBy_133 hl (by decide) rfl (fun ls hl => ?_)
        refine loop9 6 135 (fun x : LZ => [(5, .int (x.2.1 0)), (4, .int (y33.2.1 0)), (3, .int r14), (0, .ref (g 60)), (1, .int p1), (2, .int p2)]) (fun x : LZ => (Fr (fL [50]) σ34 x.1) ∧ (J9 (x.1 9)) ∧ ((0 : Int) ≤ (x.2.1 0).toInt ∧ (x.2.1 0).toInt ≤ 100000) ∧ True) (fun x : LZ => ((100001 : Int) - (x.2.1 0).toInt).toNat) ?_ (σ34, lf [0], lg []) ⟨Fr.rf, hJ36, (show (0 : Int) ≤ (0 : Int32).toInt ∧ (0 : Int32).toInt ≤ 100000 from (by have z0 : (0 : Int32).toInt = 0 := (by decide); omega)), trivial⟩ _ _ _ hP hS (lv_sub hl [0, 1, 2, 3, 4, 5] rfl)
        intro y43 hI42 nl41 H locs ls hP hS hl
        obtain ⟨σ44, eσ44⟩ : ∃ z, z = y43.1 := ⟨_, rfl⟩
        rw [← eσ44] at hP hI42
        have hF45 : Fr (fL [50]) σ34 σ44 := hI42.1
        have hJ46 : J9 (σ44 9) := hI42.2.1
        have b47 : (0 : Int) ≤ (y43.2.1 0).toInt ∧ (y43.2.1 0).toInt ≤ 100000 := hI42.2.2.1
        have hl : lv_has ls 6 [(5, .int (y43.2.1 0)), (4, .int (y33.2.1 0)), (3, .int r14), (0, .ref (g 60)), (1, .int p1), (2, .int p2)] := hl
        refine lv_iload hx hb dX9_doublesBy_135 (lv_at hl 0 rfl) ?_
        refine lv_iload_n hx hb dX9_doublesBy_137 rfl (lv_at hl 2 rfl) ?_
        refine lv_icmp_ge (tgt := 170) hx hb dX9_doublesBy_138 (by decide) (fun c48 => ?_) (fun c48 => ?_)
        ·
          have k49 := ple32 c48
          obtain ⟨x50, ex50⟩ : ∃ y : Int32, y = (y33.2.1 0) + (-1) := ⟨_, rfl⟩
          have t51 := addO ex50 (by have f0 := b37; have f1 := k40; have zm1 : ((-1) : Int32).toInt = (-1) := (by decide); have z0 : (0 : Int32).toInt = 0 := (by decide); omega)
          refine lv_iinc (v := x50) (lv' := [(4, .int x50), (5, .int (y43.2.1 0)), (3, .int r14), (0, .ref (g 60)), (1, .int p1), (2, .int p2)]) hx hb dX9_doublesBy_170 hl (k := 1) rfl (by rw [ex50]; rfl) (by decide) rfl (fun ls hl => ?_)
          refine lv_goto (tgt := 127) hx hb dX9_doublesBy_173 (by decide) ?_
          have t52 : (x50.toInt - (-2 : Int)).toNat < ((y33.2.1 0).toInt - (-2 : Int)).toNat := (by have f0 := b37; have f1 := k40; have f2 := t51; have zm1 : ((-1) : Int32).toInt = (-1) := (by decide); have z0 : (0 : Int32).toInt = 0 := (by decide); omega)
          exact nl31 (σ44, lf [x50], lg []) ⟨Fr.tr (Fr.tr (Fr.rf) hF35 (fL_sub rfl)) hF45 (fL_sub rfl), hJ46, (show (-1 : Int) ≤ (x50 : Int32).toInt ∧ (x50 : Int32).toInt ≤ 15 from (by have f0 := t51; have f1 := b37; have f2 := k40; have zm1 : ((-1) : Int32).toInt = (-1) := (by decide); have z0 : (0 : Int32).toInt = 0 := (by decide); omega)), trivial⟩ (show (x50.toInt - (-2 : Int)).toNat < _ from by first | exact t52 | (rw [← eσ34]; exact t52)) _ _ _ hP hS (lv_sub hl [0, 2, 3, 4, 5] rfl)
        ·
          have k53 := nle32 c48
          refine lv_aload_n hx hb dX9_doublesBy_141 rfl (lv_at hl 3 rfl) ?_
          refine g9_50 hx hb hts hown hK hP (hts _ q1410) dX9_doublesBy_142 ?_
          refine lv_sipush (v := 29791) hx hb dX9_doublesBy_145 (by decide) ?_
          refine lv_iload hx hb dX9_doublesBy_148 (lv_at hl 1 rfl) ?_
          refine lv_imul hx hb dX9_doublesBy_150 ?_
          refine lv_topi (fun x54 ex54 => ?_)
          have t55 := mulC' (n := 29791) ex54 (by decide) (by have f0 := b37; have f1 := k40; have z0 : (0 : Int32).toInt = 0 := (by decide); omega)
          refine lv_iload hx hb dX9_doublesBy_151 (lv_at hl 0 rfl) ?_
          refine lv_iadd hx hb dX9_doublesBy_153 ?_
          refine lv_topi (fun x56 ex56 => ?_)
          have t57 := addO ex56 (by have f0 := b47; have f1 := k53; have f2 := t55; have f3 := b17; have f4 := k26; have f5 := b37; have f6 := k40; have f7 := b24; have z0 : (0 : Int32).toInt = 0 := (by decide); omega)
          refine lv_aload_n hx hb dX9_doublesBy_154 rfl (lv_at hl 3 rfl) ?_
          refine lv_iload hx hb dX9_doublesBy_155 (lv_at hl 1 rfl) ?_
          refine lv_iload hx hb dX9_doublesBy_157 (lv_at hl 0 rfl) ?_
          refine va_calli (va_runV (As := [.int (y33.2.1 0), .int (y43.2.1 0)]) (rest := [.int x56, .ref (g 50)]) ⟨hx, hb, hml, hown, hts⟩ (m_X9_leftFrom l D cy g σ44 (y33.2.1 0) (y43.2.1 0) _ hJ46 (show (0 : Int) ≤ (y33.2.1 0).toInt ∧ (y33.2.1 0).toInt ≤ 15 from (by have f0 := b37; have f1 := k40; have f2 := t55; have f3 := t57; have f4 := b47; have f5 := k53; have f6 := b17; have f7 := k26; have f8 := b24; have z0 : (0 : Int32).toInt = 0 := (by decide); omega)) (show (0 : Int) ≤ (y43.2.1 0).toInt ∧ (y43.2.1 0).toInt ≤ 29790 from (by have f0 := b37; have f1 := k40; have f2 := b47; have f3 := k53; have f4 := t55; have f5 := t57; have f6 := b17; have f7 := k26; have f8 := b24; have z0 : (0 : Int32).toInt = 0 := (by decide); omega))) (cwV 2 hts (gd_V q2008 q2010 q114 q134 q2011) rfl rfl rfl (by decide +kernel) ⟨Nat.le_of_ble_eq_true rfl, Nat.le_of_ble_eq_true rfl⟩) (pv9 hP hK hD hC hS (va_recv hK hP (ci := 9) (q0 := 0) rfl rfl)) rfl rfl hl.1 rfl (lv_room (Nat.le_of_ble_eq_true rfl)) dX9_doublesBy_159 ⟨Nat.le_of_ble_eq_true rfl, Nat.le_of_ble_eq_true rfl⟩) hS (fun q _ h => up9 hS q h) (up9 hS) (fun r58 σ59 tS H1 locs ht hvm hw60 hB hz1 hk1 hS => ?_)
          have hP : va_P D clz (WD9 cy g σ59) H1 := by rw [← ht]; exact hB
          clear hB hz1 hk1 hvm ht
          generalize H1 = H at hP hS ⊢
          have hw60E : σ44 = σ59 := (hw60.1).symm
          subst hw60E
          refine lv_i2b hx hb dX9_doublesBy_162 rfl ?_
          refine lv_topi (fun x61 ex61 => ?_)
          refine t9_50 hx hb hK hP hD hS (vpo (by have f0 := t57; have f1 := b47; have f2 := k53; have f3 := t55; have f4 := b17; have f5 := k26; have f6 := b37; have f7 := k40; have f8 := b24; have z0 : (0 : Int32).toInt = 0 := (by decide); omega)) dX9_doublesBy_163 (fun H locs σ62 eσ62 hP hS => ?_)
          have hJ63 : J9 (σ62 9) := hJ46.A eσ62 trivial
          obtain ⟨x64, ex64⟩ : ∃ y : Int32, y = (y43.2.1 0) + 1 := ⟨_, rfl⟩
          have t65 := addO ex64 (by have f0 := b47; have f1 := k53; have f2 := t57; have f3 := b17; have f4 := k26; have f5 := t55; have f6 := b24; have f7 := b37; have f8 := k40; have z0 : (0 : Int32).toInt = 0 := (by decide); have z1 : (1 : Int32).toInt = 1 := (by decide); omega)
          refine lv_iinc (v := x64) (lv' := [(5, .int x64), (4, .int (y33.2.1 0)), (3, .int r14), (0, .ref (g 60)), (1, .int p1), (2, .int p2)]) hx hb dX9_doublesBy_164 hl (k := 0) rfl (by rw [ex64]; rfl) (by decide) rfl (fun ls hl => ?_)
          refine lv_goto (tgt := 135) hx hb dX9_doublesBy_167 (by decide) ?_
          have t66 : ((100001 : Int) - x64.toInt).toNat < ((100001 : Int) - (y43.2.1 0).toInt).toNat := (by have f0 := b47; have f1 := k53; have f2 := t57; have f3 := t65; have f4 := b17; have f5 := k26; have f6 := t55; have f7 := b24; have f8 := b37; have f9 := k40; have z0 : (0 : Int32).toInt = 0 := (by decide); have z1 : (1 : Int32).toInt = 1 := (by decide); omega)
          exact nl41 (σ62, lf [x64], lg []) ⟨Fr.tr (Fr.tr (Fr.rf) hF45 (fL_sub rfl)) (sA_f eσ62) (fN_L rfl), hJ63, (show (0 : Int) ≤ (x64 : Int32).toInt ∧ (x64 : Int32).toInt ≤ 100000 from (by have f0 := t65; have f1 := b47; have f2 := k53; have f3 := t57; have f4 := b17; have f5 := k26; have f6 := t55; have f7 := b24; have f8 := b37; have f9 := k40; have z0 : (0 : Int32).toInt = 0 := (by decide); have z1 : (1 : Int32).toInt = 1 := (by decide); omega)), trivial⟩ (show ((100001 : Int) - x64.toInt).toNat < _ from by first | exact t66 | (rw [← eσ44]; exact t66)) _ _ _ hP hS (lv_sub hl [0, 1, 2, 3, 4, 5] rfl)
    ·
      have k67 := nle32 c25
      refine lv_aload_n hx hb dX9_doublesBy_92 rfl (lv_at hl 2 rfl) ?_
      refine g9_50 hx hb hts hown hK hP (hts _ q1410) dX9_doublesBy_93 ?_
      refine lv_sipush (v := 29791) hx hb dX9_doublesBy_96 (by decide) ?_
      refine lv_aload_n hx hb dX9_doublesBy_99 rfl (lv_at hl 2 rfl) ?_
      refine g9_20 hx hb hts hown hK hP (hts _ q1380) dX9_doublesBy_100 ?_
      refine lv_iload_n hx hb dX9_doublesBy_103 rfl (lv_at hl 4 rfl) ?_
      obtain ⟨x68, ex68⟩ : ∃ z, (σ 9).2.2.1 20 p2.toInt.toNat = z := ⟨_, rfl⟩
      refine l9_20 (x := x68) hx hb hK hP (vpo (by have f0 := h0; omega)) ((congrFun (((hF22 9 20 rfl).2.2.1).trans (((hF9 9 20 rfl).2.2.1).trans ((((sI_f eσ3) 9 20 rfl).2.2.1).trans (((sI_f eσ1) 9 20 rfl).2.2.1)))) _).trans ex68) dX9_doublesBy_104 ?_
      have t69 := a9_20 hJ ex68
      refine lv_imul hx hb dX9_doublesBy_105 ?_
      refine lv_topi (fun x70 ex70 => ?_)
      have t71 := mulC' (n := 29791) ex70 (by decide) (by have f0 := t69; have f1 := h0; omega)
      refine lv_iload hx hb dX9_doublesBy_106 (lv_at hl 0 rfl) ?_
      refine lv_iadd hx hb dX9_doublesBy_108 ?_
      refine lv_topi (fun x72 ex72 => ?_)
      have t73 := addO ex72 (by have f0 := b24; have f1 := k67; have f2 := t71; have f3 := b17; have f4 := t69; have f5 := h0; omega)
      refine lv_iconst (v := 0) hx hb dX9_doublesBy_109 (by decide) ?_
      refine t9_50 hx hb hK hP hD hS (vpo (by have f0 := t73; have f1 := b24; have f2 := k67; have f3 := t71; have f4 := b17; have f5 := t69; have f6 := h0; omega)) dX9_doublesBy_110 (fun H locs σ74 eσ74 hP hS => ?_)
      have hJ75 : J9 (σ74 9) := hJ23.A eσ74 trivial
      obtain ⟨x76, ex76⟩ : ∃ y : Int32, y = (y20.2.1 0) + 1 := ⟨_, rfl⟩
      have t77 := addO ex76 (by have f0 := b24; have f1 := k67; have f2 := t73; have f3 := b17; have f4 := t71; have f5 := t69; have f6 := h0; have z1 : (1 : Int32).toInt = 1 := (by decide); omega)
      refine lv_iinc (v := x76) (lv' := [(4, .int x76), (3, .int r14), (0, .ref (g 60)), (1, .int p1), (2, .int p2)]) hx hb dX9_doublesBy_111 hl (k := 0) rfl (by rw [ex76]; rfl) (by decide) rfl (fun ls hl => ?_)
      refine lv_goto (tgt := 86) hx hb dX9_doublesBy_114 (by decide) ?_
      have t78 : ((100001 : Int) - x76.toInt).toNat < ((100001 : Int) - (y20.2.1 0).toInt).toNat := (by have f0 := b24; have f1 := k67; have f2 := t73; have f3 := t77; have f4 := b17; have f5 := t71; have f6 := t69; have f7 := h0; have z1 : (1 : Int32).toInt = 1 := (by decide); omega)
      exact nl18 (σ74, lf [x76], lg []) ⟨Fr.tr (Fr.tr (Fr.rf) hF22 (fL_sub rfl)) (sA_f eσ74) (fN_L rfl), hJ75, (show (0 : Int) ≤ (x76 : Int32).toInt ∧ (x76 : Int32).toInt ≤ 100000 from (by have f0 := t77; have f1 := b24; have f2 := k67; have f3 := t73; have f4 := b17; have f5 := t71; have f6 := t69; have f7 := h0; have z1 : (1 : Int32).toInt = 1 := (by decide); omega)), trivial⟩ (show ((100001 : Int) - x76.toInt).toNat < _ from by first | exact t78 | (rw [← eσ21]; exact t78)) _ _ _ hP hS (lv_sub hl [0, 1, 2, 3, 4] rfl)
  ·
    have k79 := nle32 c12
    refine lv_iload_n hx hb dX9_doublesBy_22 rfl (lv_at hl 2 rfl) ?_
    refine lv_iload_n hx hb dX9_doublesBy_23 rfl (lv_at hl 0 rfl) ?_
    refine lv_ishr hx hb dX9_doublesBy_24 ?_
    refine lv_topi (fun x80 ex80 => ?_)
    refine lv_iconst (v := 1) hx hb dX9_doublesBy_25 (by decide) ?_
    refine lv_iand hx hb dX9_doublesBy_26 ?_
    refine lv_topi (fun x81 ex81 => ?_)
    have t82 := andM 1 ex81 (by decide) (by decide)
    refine cut9 (D := D) (cy := cy) (g := g) (A := A9 cy g s.heap.size) (H0 := s.heap) 6 72 (fun x : LZ => [(3, .int (y7.2.1 0)), (0, .ref (g 60)), (1, .int p1), (2, .int p2)]) (fun x : LZ => []) (fun x : LZ => (Fr (fL [51, 53, 54]) σ8 x.1) ∧ (J9 (x.1 9)) ∧ True) ?_ ?_
    ·
      intro y85 hI84 H locs ls hP hS hl
      obtain ⟨σ86, eσ86⟩ : ∃ z, z = y85.1 := ⟨_, rfl⟩
      rw [← eσ86] at hP hI84
      have hF87 : Fr (fL [51, 53, 54]) σ8 σ86 := hI84.1
      have hJ88 : J9 (σ86 9) := hI84.2.1
      have hl : lv_has ls 6 [(3, .int (y7.2.1 0)), (0, .ref (g 60)), (1, .int p1), (2, .int p2)] := hl
      obtain ⟨x89, ex89⟩ : ∃ y : Int32, y = (y7.2.1 0) + 1 := ⟨_, rfl⟩
      have t90 := addO ex89 (by have f0 := b11; have f1 := k79; have f2 := a9_17 hJ (j := 3) rfl; have z1 : (1 : Int32).toInt = 1 := (by decide); omega)
      refine lv_iinc (v := x89) (lv' := [(3, .int x89), (0, .ref (g 60)), (1, .int p1), (2, .int p2)]) hx hb dX9_doublesBy_72 hl (k := 0) rfl (by rw [ex89]; rfl) (by decide) rfl (fun ls hl => ?_)
      refine lv_goto (tgt := 12) hx hb dX9_doublesBy_75 (by decide) ?_
      have t91 : ((61 : Int) - x89.toInt).toNat < ((61 : Int) - (y7.2.1 0).toInt).toNat := (by have f0 := b11; have f1 := k79; have f2 := t90; have f3 := a9_17 hJ (j := 3) rfl; have z1 : (1 : Int32).toInt = 1 := (by decide); omega)
      exact nl5 (σ86, lf [x89], lg []) ⟨Fr.tr (Fr.tr (Fr.rf) hF9 (fL_sub rfl)) hF87 (fL_sub rfl), hJ88, (show (0 : Int) ≤ (x89 : Int32).toInt ∧ (x89 : Int32).toInt ≤ 60 from (by have f0 := t90; have f1 := b11; have f2 := k79; have f3 := a9_17 hJ (j := 3) rfl; have z1 : (1 : Int32).toInt = 1 := (by decide); omega)), trivial⟩ (show ((61 : Int) - x89.toInt).toNat < _ from by first | exact t91 | (rw [← eσ8]; exact t91)) _ _ _ hP hS (lv_sub hl [0, 1, 2, 3] rfl)
    ·
      intro nj83
      refine lv_if_ne (tgt := 33) hx hb dX9_doublesBy_27 (by decide) (fun c92 => ?_) (fun c92 => ?_)
      ·
        have k93 := neq32 c92
        refine lv_aload_n hx hb dX9_doublesBy_33 rfl (lv_at hl 1 rfl) ?_
        refine g9_53 hx hb hts hown hK hP (hts _ q1413) dX9_doublesBy_34 ?_
        refine lv_aload_n hx hb dX9_doublesBy_37 rfl (lv_at hl 1 rfl) ?_
        refine g9_51 (x := ((σ8 9).1 51)) hx hb hts hown hK hP (rfl) (hts _ q1411) dX9_doublesBy_38 ?_
        refine lv_iload_n hx hb dX9_doublesBy_41 rfl (lv_at hl 0 rfl) ?_
        refine t9_53 hx hb hK hP hD hS (vpo (by have f0 := j9_51 hJ10 rfl; omega)) dX9_doublesBy_42 (fun H locs σ94 eσ94 hP hS => ?_)
        have hJ95 : J9 (σ94 9) := hJ10.A eσ94 (show PA9 53 ((σ8 9).1 51).toInt.toNat (y7.2.1 0) from (by have f0 := j9_51 hJ10 rfl; have f1 := b11; have f2 := k79; have f3 := a9_17 hJ (j := 3) rfl; exact ⟨by omega, by omega⟩))
        refine lv_aload_n hx hb dX9_doublesBy_43 rfl (lv_at hl 1 rfl) ?_
        refine g9_54 hx hb hts hown hK hP (hts _ q1414) dX9_doublesBy_44 ?_
        refine lv_aload_n hx hb dX9_doublesBy_47 rfl (lv_at hl 1 rfl) ?_
        refine g9_51 (x := ((σ8 9).1 51)) hx hb hts hown hK hP (((sA_f eσ94) 9 51 rfl).1) (hts _ q1411) dX9_doublesBy_48 ?_
        refine lv_aload_n hx hb dX9_doublesBy_51 rfl (lv_at hl 1 rfl) ?_
        refine g9_19 hx hb hts hown hK hP (hts _ q1379) dX9_doublesBy_52 ?_
        refine lv_iconst (v := 4) hx hb dX9_doublesBy_55 (by decide) ?_
        refine lv_iload_n hx hb dX9_doublesBy_56 rfl (lv_at hl 0 rfl) ?_
        refine lv_imul hx hb dX9_doublesBy_57 ?_
        refine lv_topi (fun x96 ex96 => ?_)
        have t97 := mulC' (n := 4) ex96 (by decide) (by have f0 := b11; have f1 := k79; have f2 := a9_17 hJ (j := 3) rfl; omega)
        refine lv_iconst (v := 2) hx hb dX9_doublesBy_58 (by decide) ?_
        refine lv_iadd hx hb dX9_doublesBy_59 ?_
        refine lv_topi (fun x98 ex98 => ?_)
        have t99 := addO ex98 (by have f0 := t97; have f1 := b11; have f2 := k79; have f3 := a9_17 hJ (j := 3) rfl; have z2 : (2 : Int32).toInt = 2 := (by decide); omega)
        obtain ⟨x100, ex100⟩ : ∃ z, (σ 9).2.2.1 19 x98.toInt.toNat = z := ⟨_, rfl⟩
        refine l9_19 (x := x100) hx hb hK hP (vpo (by have f0 := t99; have f1 := t97; have f2 := b11; have f3 := k79; have f4 := a9_17 hJ (j := 3) rfl; have z2 : (2 : Int32).toInt = 2 := (by decide); omega)) ((congrFun ((((sA_f eσ94) 9 19 rfl).2.2.1).trans (((hF9 9 19 rfl).2.2.1).trans ((((sI_f eσ3) 9 19 rfl).2.2.1).trans (((sI_f eσ1) 9 19 rfl).2.2.1)))) _).trans ex100) dX9_doublesBy_60 ?_
        have t101 := a9_19 hJ ex100
        refine t9_54 hx hb hK hP hD hS (vpo (by have f0 := j9_51 hJ10 rfl; omega)) dX9_doublesBy_61 (fun H locs σ102 eσ102 hP hS => ?_)
        have hJ103 : J9 (σ102 9) := hJ95.A eσ102 (show PA9 54 ((σ8 9).1 51).toInt.toNat x100 from (by have f0 := j9_51 hJ10 rfl; have f1 := t101; have f2 := t99; have f3 := t97; have f4 := b11; have f5 := k79; have f6 := a9_17 hJ (j := 3) rfl; have z2 : (2 : Int32).toInt = 2 := (by decide); exact ⟨by omega, by omega⟩))
        refine lv_aload_n hx hb dX9_doublesBy_62 rfl (lv_at hl 1 rfl) ?_
        refine lv_dup hx hb dX9_doublesBy_63 rfl ?_
        refine g9_51 (x := ((σ8 9).1 51)) hx hb hts hown hK hP ((((sA_f eσ102) 9 51 rfl).1).trans (((sA_f eσ94) 9 51 rfl).1)) (hts _ q1411) dX9_doublesBy_64 ?_
        refine lv_iconst (v := 1) hx hb dX9_doublesBy_67 (by decide) ?_
        refine lv_iadd hx hb dX9_doublesBy_68 ?_
        refine lv_topi (fun x104 ex104 => ?_)
        have t105 := addO ex104 (by have f0 := j9_51 hJ10 rfl; have z1 : (1 : Int32).toInt = 1 := (by decide); omega)
        refine p9_51 hx hb hts hown hK hP hD hS (hts _ q1411) dX9_doublesBy_69 (fun H locs σ106 eσ106 hP hS => ?_)
        have hJ107 : J9 (σ106 9) := hJ103.I eσ106 (show JI9 51 x104 from (by have f0 := t105; have f1 := j9_51 hJ10 rfl; have z1 : (1 : Int32).toInt = 1 := (by decide); exact ⟨by omega, by omega⟩))
        exact nj83 (σ106, lf [], lg []) ⟨Fr.tr (Fr.tr (Fr.tr (Fr.rf) (sA_f eσ94) (fN_L rfl)) (sA_f eσ102) (fN_L rfl)) (sI_f eσ106) (fN_L rfl), hJ107, trivial⟩ _ _ _ hP hS (lv_sub hl [0, 1, 2, 3] rfl)
      ·
        have k108 := peq32 c92
        refine lv_goto (tgt := 72) hx hb dX9_doublesBy_30 (by decide) ?_
        exact nj83 (σ8, lf [], lg []) ⟨Fr.rf, hJ10, trivial⟩ _ _ _ hP hS (lv_sub hl [0, 1, 2, 3] rfl)

theorem q1995 : Cond.code yX9_doubles cX9_doubles 4 (some .int) ∈ lw_g := lw_gm (List.mem_of_getElem? (i := 1995) (by decide +kernel)) rfl
theorem q1996 : Cond.methodLink RX9 494 yX9_areDoubles ∈ lw_g := lw_gm (List.mem_of_getElem? (i := 1996) (by decide +kernel)) rfl
theorem q1998 : Cond.instanceMethod yX9_areDoubles ∈ lw_g := lw_gm (List.mem_of_getElem? (i := 1998) (by decide +kernel)) rfl
theorem q111 : Cond.selects RX9 yX9_areDoubles yX9_areDoubles ∈ lw_g := lw_gm (List.mem_of_getElem? (i := 111) (by decide +kernel)) rfl
theorem q2000 : Cond.methodLink RX9 497 yX9_doublesBy ∈ lw_g := lw_gm (List.mem_of_getElem? (i := 2000) (by decide +kernel)) rfl
theorem q2002 : Cond.instanceMethod yX9_doublesBy ∈ lw_g := lw_gm (List.mem_of_getElem? (i := 2002) (by decide +kernel)) rfl
theorem q112 : Cond.selects RX9 yX9_doublesBy yX9_doublesBy ∈ lw_g := lw_gm (List.mem_of_getElem? (i := 112) (by decide +kernel)) rfl
theorem dX9_doubles_0 : decode cX9_doubles 0 = .ok (.aload_n 0, 1) := by decide +kernel
theorem dX9_doubles_1 : decode cX9_doubles 1 = .ok (.iconst 0, 1) := by decide +kernel
theorem dX9_doubles_2 : decode cX9_doubles 2 = .ok (.putfield 129, 3) := by decide +kernel
theorem dX9_doubles_5 : decode cX9_doubles 5 = .ok (.aload_n 0, 1) := by decide +kernel
theorem dX9_doubles_6 : decode cX9_doubles 6 = .ok (.iload_n 1, 1) := by decide +kernel
theorem dX9_doubles_7 : decode cX9_doubles 7 = .ok (.iload_n 2, 1) := by decide +kernel
theorem dX9_doubles_8 : decode cX9_doubles 8 = .ok (.invokevirtual 494, 3) := by decide +kernel
theorem dX9_doubles_11 : decode cX9_doubles 11 = .ok (.ifCond .ne 6, 3) := by decide +kernel
theorem dX9_doubles_14 : decode cX9_doubles 14 = .ok (.bipush (-2), 2) := by decide +kernel
theorem dX9_doubles_16 : decode cX9_doubles 16 = .ok (.ireturn, 1) := by decide +kernel
theorem dX9_doubles_17 : decode cX9_doubles 17 = .ok (.aload_n 0, 1) := by decide +kernel
theorem dX9_doubles_18 : decode cX9_doubles 18 = .ok (.iload_n 1, 1) := by decide +kernel
theorem dX9_doubles_19 : decode cX9_doubles 19 = .ok (.iload_n 2, 1) := by decide +kernel
theorem dX9_doubles_20 : decode cX9_doubles 20 = .ok (.invokevirtual 497, 3) := by decide +kernel
theorem dX9_doubles_23 : decode cX9_doubles 23 = .ok (.istore_n 3, 1) := by decide +kernel
theorem dX9_doubles_24 : decode cX9_doubles 24 = .ok (.iload_n 3, 1) := by decide +kernel
theorem dX9_doubles_25 : decode cX9_doubles 25 = .ok (.bipush 99, 2) := by decide +kernel
theorem dX9_doubles_27 : decode cX9_doubles 27 = .ok (.if_icmp .lt 7, 3) := by decide +kernel
theorem dX9_doubles_30 : decode cX9_doubles 30 = .ok (.iconst (-1), 1) := by decide +kernel
theorem dX9_doubles_31 : decode cX9_doubles 31 = .ok (.goto 4, 3) := by decide +kernel
theorem dX9_doubles_34 : decode cX9_doubles 34 = .ok (.iload_n 3, 1) := by decide +kernel
theorem dX9_doubles_35 : decode cX9_doubles 35 = .ok (.ireturn, 1) := by decide +kernel
set_option maxHeartbeats 4000000 in
set_option maxRecDepth 100000 in
theorem m_X9_doubles (l : Launch) (D : va_G) (cy : Nat → ClassId) (g : Nat → Nat) (σ : ST) (p1 : Int32) (p2 : Int32) (sz : Nat) (hJ : J9 (σ 9))  : Met l yX9_doubles (ww yX9_doubles cX9_doubles 4 (some .int)) ({ frames := 5, cells := 0, slots := 0, locals := 320 }) (va_Pc [.ref (g 60), .int p1, .int p2] (pr9 D cy g σ sz)) (qi9 D cy g sz (fun r τ => Fr (fL [0, 50, 51, 52, 53, 54]) σ τ ∧ J9 (τ 9) ∧ True)) 0 0 (A9 cy g sz) := by
  refine Met.ofW (cc := cX9_doubles) (maxL := 4) (ret := (some .int)) (by decide) rfl ?_
  intro p e s m args below meth c s₁ B hml hv
  obtain ⟨rfl, hsz, hP, hK, hD0, hC⟩ := hv
  have hx := B.exec
  have hb := B.bytes
  have hr := B.returns
  have hts := hts_g (atoms_spec (ws := ww yX9_doubles cX9_doubles 4 (some .int)) B.pre)
  have hown : s.vm.findClass RX9 = some m.cls := findClass_of_methodNamed B.named
  have hlocks := B.notSynchronized
  clear B
  subst hsz
  have hD := fun τ => A9_D (sz := s.heap.size) hD0 τ
  clear hD0
  have hS : va_S (A9 cy g s.heap.size) s.heap s.heap [] := va_S.rf
  have hl := lv_entry ([.ref (g 60), .int p1, .int p2]) (n := 4) (Nat.le_of_ble_eq_true rfl)
  rw [lg_entry_eq]
  generalize (lg_sl ([.ref (g 60), .int p1, .int p2]) ++ List.replicate (4 - (lg_sl ([.ref (g 60), .int p1, .int p2])).length) Slot.unset).toArray = ls at hl ⊢
  have hl : lv_has ls 4 [(0, .ref (g 60)), (1, .int p1), (2, .int p2)] := hl
  refine lv_aload_n hx hb dX9_doubles_0 rfl (lv_at hl 0 rfl) ?_
  refine lv_iconst (v := 0) hx hb dX9_doubles_1 (by decide) ?_
  refine p9_0 hx hb hts hown hK hP hD hS (hts _ q1360) dX9_doubles_2 (fun H locs σ1 eσ1 hP hS => ?_)
  have hJ2 : J9 (σ1 9) := hJ.I eσ1 (show JI9 0 (0 : Int32) from trivial)
  refine lv_aload_n hx hb dX9_doubles_5 rfl (lv_at hl 0 rfl) ?_
  refine lv_iload_n hx hb dX9_doubles_6 rfl (lv_at hl 1 rfl) ?_
  refine lv_iload_n hx hb dX9_doubles_7 rfl (lv_at hl 2 rfl) ?_
  refine va_calli (va_runV (As := [.int p1, .int p2]) (rest := []) ⟨hx, hb, hml, hown, hts⟩ (m_X9_areDoubles l D cy g σ1 p1 p2 _ hJ2 ) (cwV 2 hts (gd_V q1996 q1998 q111 q134 q1999) rfl rfl rfl (by decide +kernel) ⟨Nat.le_of_ble_eq_true rfl, Nat.le_of_ble_eq_true rfl⟩) (pv9 hP hK hD hC hS (va_recv hK hP (ci := 9) (q0 := 0) rfl rfl)) rfl rfl hl.1 rfl (lv_room (Nat.le_of_ble_eq_true rfl)) dX9_doubles_8 ⟨Nat.le_of_ble_eq_true rfl, Nat.le_of_ble_eq_true rfl⟩) hS (fun q _ h => up9 hS q h) (up9 hS) (fun r3 σ4 tS H1 locs ht hvm hw5 hB hz1 hk1 hS => ?_)
  have hP : va_P D clz (WD9 cy g σ4) H1 := by rw [← ht]; exact hB
  clear hB hz1 hk1 hvm ht
  generalize H1 = H at hP hS ⊢
  have hw5E : σ1 = σ4 := (hw5.1).symm
  subst hw5E
  have b6 : (0 : Int) ≤ r3.toInt ∧ r3.toInt ≤ 1 := hw5.2.1
  have b7 : (r3.toInt = 0) ∨ ((1 : Int) ≤ p1.toInt ∧ p1.toInt ≤ 511 ∧ (0 : Int) ≤ p2.toInt ∧ p2.toInt ≤ 2) := hw5.2.2.1
  refine lv_if_ne (tgt := 17) hx hb dX9_doubles_11 (by decide) (fun c8 => ?_) (fun c8 => ?_)
  ·
    have k9 := neq32 c8
    refine lv_aload_n hx hb dX9_doubles_17 rfl (lv_at hl 0 rfl) ?_
    refine lv_iload_n hx hb dX9_doubles_18 rfl (lv_at hl 1 rfl) ?_
    refine lv_iload_n hx hb dX9_doubles_19 rfl (lv_at hl 2 rfl) ?_
    refine va_calli (va_runV (As := [.int p1, .int p2]) (rest := []) ⟨hx, hb, hml, hown, hts⟩ (m_X9_doublesBy l D cy g σ1 p1 p2 _ hJ2 (show (0 : Int) ≤ p2.toInt ∧ p2.toInt ≤ 2 from (by have f0 := b7; have f1 := b6; have f2 := k9; have z0 : (0 : Int32).toInt = 0 := (by decide); omega))) (cwV 2 hts (gd_V q2000 q2002 q112 q134 q2003) rfl rfl rfl (by decide +kernel) ⟨Nat.le_of_ble_eq_true rfl, Nat.le_of_ble_eq_true rfl⟩) (pv9 hP hK hD hC hS (va_recv hK hP (ci := 9) (q0 := 0) rfl rfl)) rfl rfl hl.1 rfl (lv_room (Nat.le_of_ble_eq_true rfl)) dX9_doubles_20 ⟨Nat.le_of_ble_eq_true rfl, Nat.le_of_ble_eq_true rfl⟩) hS (fun q _ h => up9 hS q h) (up9 hS) (fun r10 σ11 tS H1 locs ht hvm hw12 hB hz1 hk1 hS => ?_)
    have hP : va_P D clz (WD9 cy g σ11) H1 := by rw [← ht]; exact hB
    clear hB hz1 hk1 hvm ht
    generalize H1 = H at hP hS ⊢
    have hF13 : Fr (fL [50, 51, 52, 53, 54]) σ1 σ11 := hw12.1
    have hJ14 : J9 (σ11 9) := hw12.2.1
    refine lv_istore_n (lv' := [(3, .int r10), (0, .ref (g 60)), (1, .int p1), (2, .int p2)]) hx hb dX9_doubles_23 rfl hl (by decide) rfl (fun ls hl => ?_)
    refine lv_iload_n hx hb dX9_doubles_24 rfl (lv_at hl 0 rfl) ?_
    refine lv_bipush (v := 99) hx hb dX9_doubles_25 (by decide) ?_
    refine lv_icmp_lt (tgt := 34) hx hb dX9_doubles_27 (by decide) (fun c15 => ?_) (fun c15 => ?_)
    ·
      have k16 := plt32 c15
      refine lv_iload_n hx hb dX9_doubles_34 rfl (lv_at hl 0 rfl) ?_
      exact W.iret (v := r10) hx hb hr (fun tS ht hW => ⟨⟨r10, σ11, rfl, ⟨Fr.tr (Fr.tr (Fr.rf) (sI_f eσ1) (fN_L rfl)) hF13 (fL_sub rfl), hJ14, trivial⟩, (show va_P D clz (WD9 cy g σ11) tS.heap by rw [ht]; exact hP)⟩, hS.F ht⟩) hS.2.2 dX9_doubles_35
    ·
      have k17 := nlt32 c15
      refine lv_iconst (v := (-1)) hx hb dX9_doubles_30 (by decide) ?_
      refine lv_goto (tgt := 35) hx hb dX9_doubles_31 (by decide) ?_
      exact W.iret (v := (-1)) hx hb hr (fun tS ht hW => ⟨⟨(-1), σ11, rfl, ⟨Fr.tr (Fr.tr (Fr.rf) (sI_f eσ1) (fN_L rfl)) hF13 (fL_sub rfl), hJ14, trivial⟩, (show va_P D clz (WD9 cy g σ11) tS.heap by rw [ht]; exact hP)⟩, hS.F ht⟩) hS.2.2 dX9_doubles_35
  ·
    have k18 := peq32 c8
    refine lv_bipush (v := (-2)) hx hb dX9_doubles_14 (by decide) ?_
    exact W.iret (v := (-2)) hx hb hr (fun tS ht hW => ⟨⟨(-2), σ1, rfl, ⟨Fr.tr (Fr.rf) (sI_f eσ1) (fN_L rfl), hJ2, trivial⟩, (show va_P D clz (WD9 cy g σ1) tS.heap by rw [ht]; exact hP)⟩, hS.F ht⟩) hS.2.2 dX9_doubles_16

