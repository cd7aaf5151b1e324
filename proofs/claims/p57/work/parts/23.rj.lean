theorem q2055 : Cond.code yX9_whyNot cX9_whyNot 4 (some .int) ∈ lw_g := lw_gm (List.mem_of_getElem? (i := 2055) (by decide +kernel)) rfl
theorem dX9_whyNot_0 : decode cX9_whyNot 0 = .ok (.iload_n 1, 1) := by decide +kernel
theorem dX9_whyNot_1 : decode cX9_whyNot 1 = .ok (.invokestatic 138, 3) := by decide +kernel
theorem dX9_whyNot_4 : decode cX9_whyNot 4 = .ok (.ifCond .eq 12, 3) := by decide +kernel
theorem dX9_whyNot_7 : decode cX9_whyNot 7 = .ok (.aload_n 0, 1) := by decide +kernel
theorem dX9_whyNot_8 : decode cX9_whyNot 8 = .ok (.iload_n 2, 1) := by decide +kernel
theorem dX9_whyNot_9 : decode cX9_whyNot 9 = .ok (.iload_n 3, 1) := by decide +kernel
theorem dX9_whyNot_10 : decode cX9_whyNot 10 = .ok (.invokevirtual 433, 3) := by decide +kernel
theorem dX9_whyNot_13 : decode cX9_whyNot 13 = .ok (.ifCond .ne 6, 3) := by decide +kernel
theorem dX9_whyNot_16 : decode cX9_whyNot 16 = .ok (.bipush (-2), 2) := by decide +kernel
theorem dX9_whyNot_18 : decode cX9_whyNot 18 = .ok (.ireturn, 1) := by decide +kernel
theorem dX9_whyNot_19 : decode cX9_whyNot 19 = .ok (.aload_n 0, 1) := by decide +kernel
theorem dX9_whyNot_20 : decode cX9_whyNot 20 = .ok (.getfield 7, 3) := by decide +kernel
theorem dX9_whyNot_23 : decode cX9_whyNot 23 = .ok (.iload_n 1, 1) := by decide +kernel
theorem dX9_whyNot_24 : decode cX9_whyNot 24 = .ok (.iaload, 1) := by decide +kernel
theorem dX9_whyNot_25 : decode cX9_whyNot 25 = .ok (.iconst (-1), 1) := by decide +kernel
theorem dX9_whyNot_26 : decode cX9_whyNot 26 = .ok (.if_icmp .ne 6, 3) := by decide +kernel
theorem dX9_whyNot_29 : decode cX9_whyNot 29 = .ok (.bipush (-6), 2) := by decide +kernel
theorem dX9_whyNot_31 : decode cX9_whyNot 31 = .ok (.ireturn, 1) := by decide +kernel
theorem dX9_whyNot_32 : decode cX9_whyNot 32 = .ok (.aload_n 0, 1) := by decide +kernel
theorem dX9_whyNot_33 : decode cX9_whyNot 33 = .ok (.iload_n 2, 1) := by decide +kernel
theorem dX9_whyNot_34 : decode cX9_whyNot 34 = .ok (.iload_n 3, 1) := by decide +kernel
theorem dX9_whyNot_35 : decode cX9_whyNot 35 = .ok (.invokevirtual 427, 3) := by decide +kernel
theorem dX9_whyNot_38 : decode cX9_whyNot 38 = .ok (.aload_n 0, 1) := by decide +kernel
theorem dX9_whyNot_39 : decode cX9_whyNot 39 = .ok (.getfield 13, 3) := by decide +kernel
theorem dX9_whyNot_42 : decode cX9_whyNot 42 = .ok (.iload_n 1, 1) := by decide +kernel
theorem dX9_whyNot_43 : decode cX9_whyNot 43 = .ok (.iaload, 1) := by decide +kernel
theorem dX9_whyNot_44 : decode cX9_whyNot 44 = .ok (.aload_n 0, 1) := by decide +kernel
theorem dX9_whyNot_45 : decode cX9_whyNot 45 = .ok (.getfield 387, 3) := by decide +kernel
theorem dX9_whyNot_48 : decode cX9_whyNot 48 = .ok (.if_icmp .ne 7, 3) := by decide +kernel
theorem dX9_whyNot_51 : decode cX9_whyNot 51 = .ok (.iconst 0, 1) := by decide +kernel
theorem dX9_whyNot_52 : decode cX9_whyNot 52 = .ok (.goto 5, 3) := by decide +kernel
theorem dX9_whyNot_55 : decode cX9_whyNot 55 = .ok (.bipush (-7), 2) := by decide +kernel
theorem dX9_whyNot_57 : decode cX9_whyNot 57 = .ok (.ireturn, 1) := by decide +kernel
set_option maxHeartbeats 4000000 in
set_option maxRecDepth 100000 in
theorem m_X9_whyNot (l : Launch) (D : va_G) (cy : Nat → ClassId) (g : Nat → Nat) (σ : ST) (p1 : Int32) (p2 : Int32) (p3 : Int32) (sz : Nat) (hJ : J9 (σ 9)) (kDK0 : DK0 (σ 9)) : Met l yX9_whyNot (ww yX9_whyNot cX9_whyNot 4 (some .int)) ({ frames := 6, cells := 0, slots := 0, locals := 384 }) (va_Pc [.ref (g 60), .int p1, .int p2, .int p3] (pr9 D cy g σ sz)) (qi9 D cy g sz (fun r τ => Fr (fL [23, 24, 25, 26, 27, 28, 29, 30, 31, 32, 33, 34]) σ τ ∧ J9 (τ 9) ∧ ((¬ r.toInt = 0) ∨ ((0 : Int) ≤ p1.toInt ∧ p1.toInt ≤ 3 ∧ (0 : Int) ≤ p2.toInt ∧ p2.toInt ≤ 8 ∧ (0 : Int) ≤ p3.toInt ∧ p3.toInt ≤ 2)) ∧ True)) 0 0 (A9 cy g sz) := by
  refine Met.ofW (cc := cX9_whyNot) (maxL := 4) (ret := (some .int)) (by decide) rfl ?_
  intro p e s m args below meth c s₁ B hml hv
  obtain ⟨rfl, hsz, hP, hK, hD0, hC⟩ := hv
  have hx := B.exec
  have hb := B.bytes
  have hr := B.returns
  have hts := hts_g (atoms_spec (ws := ww yX9_whyNot cX9_whyNot 4 (some .int)) B.pre)
  have hown : s.vm.findClass RX9 = some m.cls := findClass_of_methodNamed B.named
  have hlocks := B.notSynchronized
  clear B
  subst hsz
  have hD := fun τ => A9_D (sz := s.heap.size) hD0 τ
  clear hD0
  have hS : va_S (A9 cy g s.heap.size) s.heap s.heap [] := va_S.rf
  have hl := lv_entry ([.ref (g 60), .int p1, .int p2, .int p3]) (n := 4) (Nat.le_of_ble_eq_true rfl)
  rw [lg_entry_eq]
  generalize (lg_sl ([.ref (g 60), .int p1, .int p2, .int p3]) ++ List.replicate (4 - (lg_sl ([.ref (g 60), .int p1, .int p2, .int p3])).length) Slot.unset).toArray = ls at hl ⊢
  have hl : lv_has ls 4 [(0, .ref (g 60)), (1, .int p1), (2, .int p2), (3, .int p3)] := hl
  refine lv_iload_n hx hb dX9_whyNot_0 rfl (lv_at hl 1 rfl) ?_
  refine va_calli (va_runS (As := [.int p1]) (rest := []) ⟨hx, hb, hml, hown, hts⟩ (m_X9_isSlot l D cy g σ p1 _ hJ ) (va_cwS 1 hts (gd_S q1546 q1547 q134 q1548) rfl rfl rfl (by decide +kernel) ⟨Nat.le_of_ble_eq_true rfl, Nat.le_of_ble_eq_true rfl⟩) (ps9 hP hK hD hC hS) rfl rfl hl.1 rfl (lv_room (Nat.le_of_ble_eq_true rfl)) dX9_whyNot_1 ⟨Nat.le_of_ble_eq_true rfl, Nat.le_of_ble_eq_true rfl⟩) hS (fun q _ h => up9 hS q h) (up9 hS) (fun r1 σ2 tS H1 locs ht hvm hw3 hB hz1 hk1 hS => ?_)
  have hP : va_P D clz (WD9 cy g σ2) H1 := by rw [← ht]; exact hB
  clear hB hz1 hk1 hvm ht
  generalize H1 = H at hP hS ⊢
  have hw3E : σ = σ2 := (hw3.1).symm
  subst hw3E
  have b4 : (0 : Int) ≤ r1.toInt ∧ r1.toInt ≤ 1 := hw3.2.1
  have b5 : (r1.toInt = 0) ∨ ((0 : Int) ≤ p1.toInt ∧ p1.toInt ≤ 3) := hw3.2.2.1
  have b6 : r1.toInt = 1 ∨ p1.toInt < 0 ∨ 3 < p1.toInt := hw3.2.2.2.1
  refine lv_if_eq (tgt := 16) hx hb dX9_whyNot_4 (by decide) (fun c7 => ?_) (fun c7 => ?_)
  ·
    have k8 := peq32 c7
    refine lv_bipush (v := (-2)) hx hb dX9_whyNot_16 (by decide) ?_
    exact W.iret (v := (-2)) hx hb hr (fun tS ht hW => ⟨⟨(-2), σ, rfl, ⟨Fr.rf, hJ, (show (¬ ((-2) : Int32).toInt = 0) ∨ ((0 : Int) ≤ p1.toInt ∧ p1.toInt ≤ 3 ∧ (0 : Int) ≤ p2.toInt ∧ p2.toInt ≤ 8 ∧ (0 : Int) ≤ p3.toInt ∧ p3.toInt ≤ 2) from (by have f0 := b5; have f1 := b6; have f2 := b4; have f3 := k8; have g0 := rg32 p1; have g1 := rg32 p2; have g2 := rg32 p3; have zm2 : ((-2) : Int32).toInt = (-2) := (by decide); have z0 : (0 : Int32).toInt = 0 := (by decide); omega)), trivial⟩, (show va_P D clz (WD9 cy g σ) tS.heap by rw [ht]; exact hP)⟩, hS.F ht⟩) hS.2.2 dX9_whyNot_18
  ·
    have k9 := neq32 c7
    refine lv_aload_n hx hb dX9_whyNot_7 rfl (lv_at hl 0 rfl) ?_
    refine lv_iload_n hx hb dX9_whyNot_8 rfl (lv_at hl 2 rfl) ?_
    refine lv_iload_n hx hb dX9_whyNot_9 rfl (lv_at hl 3 rfl) ?_
    refine va_calli (va_runV (As := [.int p2, .int p3]) (rest := []) ⟨hx, hb, hml, hown, hts⟩ (m_X9_isPlaying l D cy g σ p2 p3 _ hJ ) (cwV 2 hts (gd_V q1822 q1824 q87 q134 q1825) rfl rfl rfl (by decide +kernel) ⟨Nat.le_of_ble_eq_true rfl, Nat.le_of_ble_eq_true rfl⟩) (pv9 hP hK hD hC hS (va_recv hK hP (ci := 9) (q0 := 0) rfl rfl)) rfl rfl hl.1 rfl (lv_room (Nat.le_of_ble_eq_true rfl)) dX9_whyNot_10 ⟨Nat.le_of_ble_eq_true rfl, Nat.le_of_ble_eq_true rfl⟩) hS (fun q _ h => up9 hS q h) (up9 hS) (fun r10 σ11 tS H1 locs ht hvm hw12 hB hz1 hk1 hS => ?_)
    have hP : va_P D clz (WD9 cy g σ11) H1 := by rw [← ht]; exact hB
    clear hB hz1 hk1 hvm ht
    generalize H1 = H at hP hS ⊢
    have hw12E : σ = σ11 := (hw12.1).symm
    subst hw12E
    have b13 : (0 : Int) ≤ r10.toInt ∧ r10.toInt ≤ 1 := hw12.2.1
    have b14 : (r10.toInt = 0) ∨ ((0 : Int) ≤ p2.toInt ∧ p2.toInt ≤ 8 ∧ (0 : Int) ≤ p3.toInt ∧ p3.toInt ≤ 2) := hw12.2.2.1
    have b15 : (r10.toInt = 0) ∨ (p2.toInt < ((σ 9).2.2.1 17 3).toInt) := hw12.2.2.2.1
    refine lv_if_ne (tgt := 19) hx hb dX9_whyNot_13 (by decide) (fun c16 => ?_) (fun c16 => ?_)
    ·
      have k17 := neq32 c16
      refine lv_aload_n hx hb dX9_whyNot_19 rfl (lv_at hl 0 rfl) ?_
      refine g9_1 hx hb hts hown hK hP (hts _ q1361) dX9_whyNot_20 ?_
      refine lv_iload_n hx hb dX9_whyNot_23 rfl (lv_at hl 1 rfl) ?_
      obtain ⟨x18, ex18⟩ : ∃ z, (σ 9).2.2.1 1 p1.toInt.toNat = z := ⟨_, rfl⟩
      refine l9_1 (x := x18) hx hb hK hP (vpo (by have f0 := b5; have f1 := b6; have f2 := b4; have f3 := k9; have g0 := rg32 p1; have z0 : (0 : Int32).toInt = 0 := (by decide); omega)) ex18 dX9_whyNot_24 ?_
      refine lv_iconst (v := (-1)) hx hb dX9_whyNot_25 (by decide) ?_
      refine lv_icmp_ne (tgt := 32) hx hb dX9_whyNot_26 (by decide) (fun c19 => ?_) (fun c19 => ?_)
      ·
        have k20 := neq32 c19
        refine lv_aload_n hx hb dX9_whyNot_32 rfl (lv_at hl 0 rfl) ?_
        refine lv_iload_n hx hb dX9_whyNot_33 rfl (lv_at hl 2 rfl) ?_
        refine lv_iload_n hx hb dX9_whyNot_34 rfl (lv_at hl 3 rfl) ?_
        refine va_callv (va_runV (As := [.int p2, .int p3]) (rest := []) ⟨hx, hb, hml, hown, hts⟩ (m_X9_lays l D cy g σ p2 p3 _ hJ kDK0 (show (0 : Int) ≤ p2.toInt ∧ p2.toInt ≤ 8 from (by have f0 := b14; have f1 := b15; have f2 := a9_17 hJ (j := 3) rfl; have f3 := b13; have f4 := k17; have g1 := rg32 p2; have z0 : (0 : Int32).toInt = 0 := (by decide); omega)) (show (0 : Int) ≤ p3.toInt ∧ p3.toInt ≤ 2 from (by have f0 := b14; have f1 := b15; have f2 := a9_17 hJ (j := 3) rfl; have f3 := b13; have f4 := k17; have g1 := rg32 p2; have g2 := rg32 p3; have z0 : (0 : Int32).toInt = 0 := (by decide); omega)) (show p2.toInt < ((σ 9).2.2.1 17 3).toInt from (by have f0 := a9_17 hJ (j := 3) rfl; have f1 := b14; have f2 := b15; have f3 := b13; have f4 := k17; have g1 := rg32 p2; have z0 : (0 : Int32).toInt = 0 := (by decide); omega))) (cwV 2 hts (gd_V q1830 q1832 q89 q134 q1833) rfl rfl rfl (by decide +kernel) ⟨Nat.le_of_ble_eq_true rfl, Nat.le_of_ble_eq_true rfl⟩) (pv9 hP hK hD hC hS (va_recv hK hP (ci := 9) (q0 := 0) rfl rfl)) rfl rfl hl.1 rfl (lv_room (Nat.le_of_ble_eq_true rfl)) dX9_whyNot_35 ⟨Nat.le_of_ble_eq_true rfl, Nat.le_of_ble_eq_true rfl⟩) hS (fun q _ h => up9 hS q h) (up9 hS) (fun σ22 tS H1 locs ht hvm hw23 hB hz1 hk1 hS => ?_)
        have hP : va_P D clz (WD9 cy g σ22) H1 := by rw [← ht]; exact hB
        clear hB hz1 hk1 hvm ht
        generalize H1 = H at hP hS ⊢
        have hF24 : Fr (fL [23, 24, 25, 26, 27, 28, 29, 30, 31, 32, 33, 34]) σ σ22 := hw23.1
        have hJ25 : J9 (σ22 9) := hw23.2.1
        have T26 : DK0 (σ22 9) := DK0.mv kDK0 (hF24 9 17 rfl).2.2.1 (hF24 9 18 rfl).2.2.1 (hF24 9 19 rfl).2.2.1
        refine lv_aload_n hx hb dX9_whyNot_38 rfl (lv_at hl 0 rfl) ?_
        refine g9_2 hx hb hts hown hK hP (hts _ q1362) dX9_whyNot_39 ?_
        refine lv_iload_n hx hb dX9_whyNot_42 rfl (lv_at hl 1 rfl) ?_
        obtain ⟨x27, ex27⟩ : ∃ z, (σ 9).2.2.1 2 p1.toInt.toNat = z := ⟨_, rfl⟩
        refine l9_2 (x := x27) hx hb hK hP (vpo (by have f0 := b5; have f1 := b6; have f2 := b4; have f3 := k9; have g0 := rg32 p1; have z0 : (0 : Int32).toInt = 0 := (by decide); omega)) ((congrFun ((hF24 9 2 rfl).2.2.1) _).trans ex27) dX9_whyNot_43 ?_
        have t28 := a9_2 hJ ex27
        refine lv_aload_n hx hb dX9_whyNot_44 rfl (lv_at hl 0 rfl) ?_
        refine g9_31 (x := ((σ22 9).1 31)) hx hb hts hown hK hP (rfl) (hts _ q1391) dX9_whyNot_45 ?_
        refine lv_icmp_ne (tgt := 55) hx hb dX9_whyNot_48 (by decide) (fun c29 => ?_) (fun c29 => ?_)
        ·
          have k30 := neq32 c29
          refine lv_bipush (v := (-7)) hx hb dX9_whyNot_55 (by decide) ?_
          exact W.iret (v := (-7)) hx hb hr (fun tS ht hW => ⟨⟨(-7), σ22, rfl, ⟨Fr.tr (Fr.rf) hF24 (fL_sub rfl), hJ25, (show (¬ ((-7) : Int32).toInt = 0) ∨ ((0 : Int) ≤ p1.toInt ∧ p1.toInt ≤ 3 ∧ (0 : Int) ≤ p2.toInt ∧ p2.toInt ≤ 8 ∧ (0 : Int) ≤ p3.toInt ∧ p3.toInt ≤ 2) from (by have f0 := b5; have f1 := b6; have f2 := b14; have f3 := b15; have f4 := t28; have f5 := a9_17 hJ (j := 3) rfl; have f6 := b4; have f7 := k9; have f8 := b13; have f9 := k17; have f10 := k30; have f11 := j9_31 hJ25 rfl; have g1 := rg32 p1; have g2 := rg32 p2; have g3 := rg32 p3; have zm7 : ((-7) : Int32).toInt = (-7) := (by decide); have z0 : (0 : Int32).toInt = 0 := (by decide); omega)), trivial⟩, (show va_P D clz (WD9 cy g σ22) tS.heap by rw [ht]; exact hP)⟩, hS.F ht⟩) hS.2.2 dX9_whyNot_57
        ·
          have k31 := peq32 c29
          refine lv_iconst (v := 0) hx hb dX9_whyNot_51 (by decide) ?_
          refine lv_goto (tgt := 57) hx hb dX9_whyNot_52 (by decide) ?_
          exact W.iret (v := 0) hx hb hr (fun tS ht hW => ⟨⟨0, σ22, rfl, ⟨Fr.tr (Fr.rf) hF24 (fL_sub rfl), hJ25, (show (¬ (0 : Int32).toInt = 0) ∨ ((0 : Int) ≤ p1.toInt ∧ p1.toInt ≤ 3 ∧ (0 : Int) ≤ p2.toInt ∧ p2.toInt ≤ 8 ∧ (0 : Int) ≤ p3.toInt ∧ p3.toInt ≤ 2) from (by have f0 := b5; have f1 := b6; have f2 := b14; have f3 := b15; have f4 := t28; have f5 := a9_17 hJ (j := 3) rfl; have f6 := b4; have f7 := k9; have f8 := b13; have f9 := k17; have f10 := k31; have f11 := j9_31 hJ25 rfl; have g1 := rg32 p1; have g2 := rg32 p2; have g3 := rg32 p3; have z0 : (0 : Int32).toInt = 0 := (by decide); omega)), trivial⟩, (show va_P D clz (WD9 cy g σ22) tS.heap by rw [ht]; exact hP)⟩, hS.F ht⟩) hS.2.2 dX9_whyNot_57
      ·
        have k32 := peq32 c19
        refine lv_bipush (v := (-6)) hx hb dX9_whyNot_29 (by decide) ?_
        exact W.iret (v := (-6)) hx hb hr (fun tS ht hW => ⟨⟨(-6), σ, rfl, ⟨Fr.rf, hJ, (show (¬ ((-6) : Int32).toInt = 0) ∨ ((0 : Int) ≤ p1.toInt ∧ p1.toInt ≤ 3 ∧ (0 : Int) ≤ p2.toInt ∧ p2.toInt ≤ 8 ∧ (0 : Int) ≤ p3.toInt ∧ p3.toInt ≤ 2) from (by have f0 := b5; have f1 := b6; have f2 := b14; have f3 := b15; have f4 := a9_17 hJ (j := 3) rfl; have f5 := b4; have f6 := k9; have f7 := b13; have f8 := k17; have g1 := rg32 p1; have g2 := rg32 p2; have g3 := rg32 p3; have zm6 : ((-6) : Int32).toInt = (-6) := (by decide); have z0 : (0 : Int32).toInt = 0 := (by decide); omega)), trivial⟩, (show va_P D clz (WD9 cy g σ) tS.heap by rw [ht]; exact hP)⟩, hS.F ht⟩) hS.2.2 dX9_whyNot_31
    ·
      have k33 := peq32 c16
      refine lv_bipush (v := (-2)) hx hb dX9_whyNot_16 (by decide) ?_
      exact W.iret (v := (-2)) hx hb hr (fun tS ht hW => ⟨⟨(-2), σ, rfl, ⟨Fr.rf, hJ, (show (¬ ((-2) : Int32).toInt = 0) ∨ ((0 : Int) ≤ p1.toInt ∧ p1.toInt ≤ 3 ∧ (0 : Int) ≤ p2.toInt ∧ p2.toInt ≤ 8 ∧ (0 : Int) ≤ p3.toInt ∧ p3.toInt ≤ 2) from (by have f0 := b5; have f1 := b6; have f2 := b14; have f3 := b15; have f4 := a9_17 hJ (j := 3) rfl; have f5 := b4; have f6 := k9; have f7 := b13; have f8 := k33; have g1 := rg32 p1; have g2 := rg32 p2; have g3 := rg32 p3; have zm2 : ((-2) : Int32).toInt = (-2) := (by decide); have z0 : (0 : Int32).toInt = 0 := (by decide); omega)), trivial⟩, (show va_P D clz (WD9 cy g σ) tS.heap by rw [ht]; exact hP)⟩, hS.F ht⟩) hS.2.2 dX9_whyNot_18

theorem q1999 : Cond.code yX9_areDoubles cX9_areDoubles 3 (some .boolean) ∈ lw_g := lw_gm (List.mem_of_getElem? (i := 1999) (by decide +kernel)) rfl
theorem dX9_areDoubles_0 : decode cX9_areDoubles 0 = .ok (.aload_n 0, 1) := by decide +kernel
theorem dX9_areDoubles_1 : decode cX9_areDoubles 1 = .ok (.iload_n 2, 1) := by decide +kernel
theorem dX9_areDoubles_2 : decode cX9_areDoubles 2 = .ok (.invokevirtual 303, 3) := by decide +kernel
theorem dX9_areDoubles_5 : decode cX9_areDoubles 5 = .ok (.ifCond .eq 31, 3) := by decide +kernel
theorem dX9_areDoubles_8 : decode cX9_areDoubles 8 = .ok (.iload_n 1, 1) := by decide +kernel
theorem dX9_areDoubles_9 : decode cX9_areDoubles 9 = .ok (.ifCond .le 27, 3) := by decide +kernel
theorem dX9_areDoubles_12 : decode cX9_areDoubles 12 = .ok (.iload_n 1, 1) := by decide +kernel
theorem dX9_areDoubles_13 : decode cX9_areDoubles 13 = .ok (.iconst 1, 1) := by decide +kernel
theorem dX9_areDoubles_14 : decode cX9_areDoubles 14 = .ok (.aload_n 0, 1) := by decide +kernel
theorem dX9_areDoubles_15 : decode cX9_areDoubles 15 = .ok (.getfield 34, 3) := by decide +kernel
theorem dX9_areDoubles_18 : decode cX9_areDoubles 18 = .ok (.iconst 3, 1) := by decide +kernel
theorem dX9_areDoubles_19 : decode cX9_areDoubles 19 = .ok (.iaload, 1) := by decide +kernel
theorem dX9_areDoubles_20 : decode cX9_areDoubles 20 = .ok (.ishl, 1) := by decide +kernel
theorem dX9_areDoubles_21 : decode cX9_areDoubles 21 = .ok (.if_icmp .ge 15, 3) := by decide +kernel
theorem dX9_areDoubles_24 : decode cX9_areDoubles 24 = .ok (.iload_n 1, 1) := by decide +kernel
theorem dX9_areDoubles_25 : decode cX9_areDoubles 25 = .ok (.invokestatic 464, 3) := by decide +kernel
theorem dX9_areDoubles_28 : decode cX9_areDoubles 28 = .ok (.iconst 3, 1) := by decide +kernel
theorem dX9_areDoubles_29 : decode cX9_areDoubles 29 = .ok (.if_icmp .gt 7, 3) := by decide +kernel
theorem dX9_areDoubles_32 : decode cX9_areDoubles 32 = .ok (.iconst 1, 1) := by decide +kernel
theorem dX9_areDoubles_33 : decode cX9_areDoubles 33 = .ok (.goto 4, 3) := by decide +kernel
theorem dX9_areDoubles_36 : decode cX9_areDoubles 36 = .ok (.iconst 0, 1) := by decide +kernel
theorem dX9_areDoubles_37 : decode cX9_areDoubles 37 = .ok (.ireturn, 1) := by decide +kernel
set_option maxHeartbeats 4000000 in
set_option maxRecDepth 100000 in
theorem m_X9_areDoubles (l : Launch) (D : va_G) (cy : Nat → ClassId) (g : Nat → Nat) (σ : ST) (p1 : Int32) (p2 : Int32) (sz : Nat) (hJ : J9 (σ 9))  : Met l yX9_areDoubles (ww yX9_areDoubles cX9_areDoubles 3 (some .boolean)) ({ frames := 3, cells := 0, slots := 0, locals := 192 }) (va_Pc [.ref (g 60), .int p1, .int p2] (pr9 D cy g σ sz)) (qi9 D cy g sz (fun r τ => τ = σ ∧ ((0 : Int) ≤ r.toInt ∧ r.toInt ≤ 1) ∧ ((r.toInt = 0) ∨ ((1 : Int) ≤ p1.toInt ∧ p1.toInt ≤ 511 ∧ (0 : Int) ≤ p2.toInt ∧ p2.toInt ≤ 2)) ∧ ((r.toInt = 0) ∨ ((bitT p1).toInt ≤ 3)) ∧ True)) 0 0 (A9 cy g sz) := by
  refine Met.ofW (cc := cX9_areDoubles) (maxL := 3) (ret := (some .boolean)) (by decide) rfl ?_
  intro p e s m args below meth c s₁ B hml hv
  obtain ⟨rfl, hsz, hP, hK, hD0, hC⟩ := hv
  have hx := B.exec
  have hb := B.bytes
  have hr := B.returns
  have hts := hts_g (atoms_spec (ws := ww yX9_areDoubles cX9_areDoubles 3 (some .boolean)) B.pre)
  have hown : s.vm.findClass RX9 = some m.cls := findClass_of_methodNamed B.named
  have hlocks := B.notSynchronized
  clear B
  subst hsz
  have hD := fun τ => A9_D (sz := s.heap.size) hD0 τ
  clear hD0
  have hS : va_S (A9 cy g s.heap.size) s.heap s.heap [] := va_S.rf
  have hl := lv_entry ([.ref (g 60), .int p1, .int p2]) (n := 3) (Nat.le_of_ble_eq_true rfl)
  rw [lg_entry_eq]
  generalize (lg_sl ([.ref (g 60), .int p1, .int p2]) ++ List.replicate (3 - (lg_sl ([.ref (g 60), .int p1, .int p2])).length) Slot.unset).toArray = ls at hl ⊢
  have hl : lv_has ls 3 [(0, .ref (g 60)), (1, .int p1), (2, .int p2)] := hl
  refine lv_aload_n hx hb dX9_areDoubles_0 rfl (lv_at hl 0 rfl) ?_
  refine lv_iload_n hx hb dX9_areDoubles_1 rfl (lv_at hl 2 rfl) ?_
  refine va_calli (va_runV (As := [.int p2]) (rest := []) ⟨hx, hb, hml, hown, hts⟩ (m_X9_isPart l D cy g σ p2 _ hJ ) (cwV 1 hts (gd_V q1722 q1724 q74 q134 q1725) rfl rfl rfl (by decide +kernel) ⟨Nat.le_of_ble_eq_true rfl, Nat.le_of_ble_eq_true rfl⟩) (pv9 hP hK hD hC hS (va_recv hK hP (ci := 9) (q0 := 0) rfl rfl)) rfl rfl hl.1 rfl (lv_room (Nat.le_of_ble_eq_true rfl)) dX9_areDoubles_2 ⟨Nat.le_of_ble_eq_true rfl, Nat.le_of_ble_eq_true rfl⟩) hS (fun q _ h => up9 hS q h) (up9 hS) (fun r1 σ2 tS H1 locs ht hvm hw3 hB hz1 hk1 hS => ?_)
  have hP : va_P D clz (WD9 cy g σ2) H1 := by rw [← ht]; exact hB
  clear hB hz1 hk1 hvm ht
  generalize H1 = H at hP hS ⊢
  have hw3E : σ = σ2 := (hw3.1).symm
  subst hw3E
  have b4 : (0 : Int) ≤ r1.toInt ∧ r1.toInt ≤ 1 := hw3.2.1
  have b5 : (r1.toInt = 0) ∨ ((0 : Int) ≤ p2.toInt ∧ p2.toInt ≤ 2) := hw3.2.2.1
  have b6 : (r1.toInt = 0) ∨ (0 ≤ p2.toInt ∧ p2.toInt < ((σ 9).2.2.1 17 4).toInt) := hw3.2.2.2.1
  refine lv_if_eq (tgt := 36) hx hb dX9_areDoubles_5 (by decide) (fun c7 => ?_) (fun c7 => ?_)
  ·
    have k8 := peq32 c7
    refine lv_iconst (v := 0) hx hb dX9_areDoubles_36 (by decide) ?_
    exact W.zret (v := 0) hx hb hr rfl (fun tS ht hW => ⟨⟨0, σ, rfl, ⟨rfl, (show (0 : Int) ≤ (0 : Int32).toInt ∧ (0 : Int32).toInt ≤ 1 from (by have z0 : (0 : Int32).toInt = 0 := (by decide); omega)), (show ((0 : Int32).toInt = 0) ∨ ((1 : Int) ≤ p1.toInt ∧ p1.toInt ≤ 511 ∧ (0 : Int) ≤ p2.toInt ∧ p2.toInt ≤ 2) from (by have f0 := b5; have f1 := b6; have f2 := a9_17 hJ (j := 4) rfl; have f3 := b4; have f4 := k8; have g1 := rg32 p1; have g2 := rg32 p2; have z0 : (0 : Int32).toInt = 0 := (by decide); omega)), (show ((0 : Int32).toInt = 0) ∨ ((bitT p1).toInt ≤ 3) from (by have g1 := rg32 p1; have z0 : (0 : Int32).toInt = 0 := (by decide); omega)), trivial⟩, (show va_P D clz (WD9 cy g σ) tS.heap by rw [ht]; exact hP)⟩, hS.F ht⟩) hS.2.2 dX9_areDoubles_37
  ·
    have k9 := neq32 c7
    refine lv_iload_n hx hb dX9_areDoubles_8 rfl (lv_at hl 1 rfl) ?_
    refine lv_if_le (tgt := 36) hx hb dX9_areDoubles_9 (by decide) (fun c10 => ?_) (fun c10 => ?_)
    ·
      have k11 := ple32 c10
      refine lv_iconst (v := 0) hx hb dX9_areDoubles_36 (by decide) ?_
      exact W.zret (v := 0) hx hb hr rfl (fun tS ht hW => ⟨⟨0, σ, rfl, ⟨rfl, (show (0 : Int) ≤ (0 : Int32).toInt ∧ (0 : Int32).toInt ≤ 1 from (by have z0 : (0 : Int32).toInt = 0 := (by decide); omega)), (show ((0 : Int32).toInt = 0) ∨ ((1 : Int) ≤ p1.toInt ∧ p1.toInt ≤ 511 ∧ (0 : Int) ≤ p2.toInt ∧ p2.toInt ≤ 2) from (by have f0 := b5; have f1 := b6; have f2 := k11; have f3 := a9_17 hJ (j := 4) rfl; have f4 := b4; have f5 := k9; have g1 := rg32 p1; have g2 := rg32 p2; have z0 : (0 : Int32).toInt = 0 := (by decide); omega)), (show ((0 : Int32).toInt = 0) ∨ ((bitT p1).toInt ≤ 3) from (by have f0 := k11; have g1 := rg32 p1; have z0 : (0 : Int32).toInt = 0 := (by decide); omega)), trivial⟩, (show va_P D clz (WD9 cy g σ) tS.heap by rw [ht]; exact hP)⟩, hS.F ht⟩) hS.2.2 dX9_areDoubles_37
    ·
      have k12 := nle32 c10
      refine lv_iload_n hx hb dX9_areDoubles_12 rfl (lv_at hl 1 rfl) ?_
      refine lv_iconst (v := 1) hx hb dX9_areDoubles_13 (by decide) ?_
      refine lv_aload_n hx hb dX9_areDoubles_14 rfl (lv_at hl 0 rfl) ?_
      refine g9_17 hx hb hts hown hK hP (hts _ q1377) dX9_areDoubles_15 ?_
      refine lv_iconst (v := 3) hx hb dX9_areDoubles_18 (by decide) ?_
      refine l9_17 (x := ((σ 9).2.2.1 17 3)) hx hb hK hP (vpi (by decide)) (congrArg ((σ 9).2.2.1 17) (show (3 : Int32).toInt.toNat = 3 by decide)) dX9_areDoubles_19 ?_
      refine lv_ishl hx hb dX9_areDoubles_20 ?_
      refine lv_topi (fun x13 ex13 => ?_)
      have t14 := shl9 ex13 (by have f0 := a9_17 hJ (j := 3) rfl; omega)
      refine lv_icmp_ge (tgt := 36) hx hb dX9_areDoubles_21 (by decide) (fun c15 => ?_) (fun c15 => ?_)
      ·
        have k16 := ple32 c15
        refine lv_iconst (v := 0) hx hb dX9_areDoubles_36 (by decide) ?_
        exact W.zret (v := 0) hx hb hr rfl (fun tS ht hW => ⟨⟨0, σ, rfl, ⟨rfl, (show (0 : Int) ≤ (0 : Int32).toInt ∧ (0 : Int32).toInt ≤ 1 from (by have z0 : (0 : Int32).toInt = 0 := (by decide); omega)), (show ((0 : Int32).toInt = 0) ∨ ((1 : Int) ≤ p1.toInt ∧ p1.toInt ≤ 511 ∧ (0 : Int) ≤ p2.toInt ∧ p2.toInt ≤ 2) from (by have f0 := b5; have f1 := b6; have f2 := k12; have f3 := k16; have f4 := a9_17 hJ (j := 4) rfl; have f5 := b4; have f6 := k9; have f7 := t14; have g1 := rg32 p1; have g2 := rg32 p2; have z0 : (0 : Int32).toInt = 0 := (by decide); omega)), (show ((0 : Int32).toInt = 0) ∨ ((bitT p1).toInt ≤ 3) from (by have f0 := k12; have f1 := k16; have f2 := t14; have g1 := rg32 p1; have z0 : (0 : Int32).toInt = 0 := (by decide); omega)), trivial⟩, (show va_P D clz (WD9 cy g σ) tS.heap by rw [ht]; exact hP)⟩, hS.F ht⟩) hS.2.2 dX9_areDoubles_37
      ·
        have k17 := nle32 c15
        refine lv_iload_n hx hb dX9_areDoubles_24 rfl (lv_at hl 1 rfl) ?_
        refine va_calli (va_runS (As := [.int p1]) (rest := []) ⟨hx, hb, hml, hown, hts⟩ (m_X9_bits l D cy g σ p1 _ hJ ) (va_cwS 1 hts (gd_S q1957 q1958 q134 q1959) rfl rfl rfl (by decide +kernel) ⟨Nat.le_of_ble_eq_true rfl, Nat.le_of_ble_eq_true rfl⟩) (ps9 hP hK hD hC hS) rfl rfl hl.1 rfl (lv_room (Nat.le_of_ble_eq_true rfl)) dX9_areDoubles_25 ⟨Nat.le_of_ble_eq_true rfl, Nat.le_of_ble_eq_true rfl⟩) hS (fun q _ h => up9 hS q h) (up9 hS) (fun r18 σ19 tS H1 locs ht hvm hw20 hB hz1 hk1 hS => ?_)
        have hP : va_P D clz (WD9 cy g σ19) H1 := by rw [← ht]; exact hB
        clear hB hz1 hk1 hvm ht
        generalize H1 = H at hP hS ⊢
        have hw20E : σ = σ19 := (hw20.1).symm
        subst hw20E
        have b21 : r18.toInt = (bitT p1).toInt := hw20.2.1
        refine lv_iconst (v := 3) hx hb dX9_areDoubles_28 (by decide) ?_
        refine lv_icmp_gt (tgt := 36) hx hb dX9_areDoubles_29 (by decide) (fun c22 => ?_) (fun c22 => ?_)
        ·
          have k23 := plt32 c22
          refine lv_iconst (v := 0) hx hb dX9_areDoubles_36 (by decide) ?_
          exact W.zret (v := 0) hx hb hr rfl (fun tS ht hW => ⟨⟨0, σ, rfl, ⟨rfl, (show (0 : Int) ≤ (0 : Int32).toInt ∧ (0 : Int32).toInt ≤ 1 from (by have z0 : (0 : Int32).toInt = 0 := (by decide); omega)), (show ((0 : Int32).toInt = 0) ∨ ((1 : Int) ≤ p1.toInt ∧ p1.toInt ≤ 511 ∧ (0 : Int) ≤ p2.toInt ∧ p2.toInt ≤ 2) from (by have f0 := b5; have f1 := b6; have f2 := k12; have f3 := k17; have f4 := b21; have f5 := a9_17 hJ (j := 4) rfl; have f6 := b4; have f7 := k9; have f8 := t14; have f9 := k23; have g2 := rg32 p1; have g3 := rg32 p2; have g4 := rg32 r18; have z0 : (0 : Int32).toInt = 0 := (by decide); have z3 : (3 : Int32).toInt = 3 := (by decide); omega)), (show ((0 : Int32).toInt = 0) ∨ ((bitT p1).toInt ≤ 3) from (by have f0 := k12; have f1 := k17; have f2 := b21; have f3 := t14; have f4 := k23; have g1 := rg32 p1; have g2 := rg32 r18; have z0 : (0 : Int32).toInt = 0 := (by decide); have z3 : (3 : Int32).toInt = 3 := (by decide); omega)), trivial⟩, (show va_P D clz (WD9 cy g σ) tS.heap by rw [ht]; exact hP)⟩, hS.F ht⟩) hS.2.2 dX9_areDoubles_37
        ·
          have k24 := nlt32 c22
          refine lv_iconst (v := 1) hx hb dX9_areDoubles_32 (by decide) ?_
          refine lv_goto (tgt := 37) hx hb dX9_areDoubles_33 (by decide) ?_
          exact W.zret (v := 1) hx hb hr rfl (fun tS ht hW => ⟨⟨1, σ, rfl, ⟨rfl, (show (0 : Int) ≤ (1 : Int32).toInt ∧ (1 : Int32).toInt ≤ 1 from (by have z1 : (1 : Int32).toInt = 1 := (by decide); omega)), (show ((1 : Int32).toInt = 0) ∨ ((1 : Int) ≤ p1.toInt ∧ p1.toInt ≤ 511 ∧ (0 : Int) ≤ p2.toInt ∧ p2.toInt ≤ 2) from (by have f0 := b5; have f1 := b6; have f2 := k12; have f3 := k17; have f4 := b21; have f5 := a9_17 hJ (j := 4) rfl; have f6 := b4; have f7 := k9; have f8 := t14; have f9 := k24; have g2 := rg32 p1; have g3 := rg32 p2; have g4 := rg32 r18; have z0 : (0 : Int32).toInt = 0 := (by decide); have z1 : (1 : Int32).toInt = 1 := (by decide); have z3 : (3 : Int32).toInt = 3 := (by decide); omega)), (show ((1 : Int32).toInt = 0) ∨ ((bitT p1).toInt ≤ 3) from (by have f0 := k12; have f1 := k17; have f2 := b21; have f3 := t14; have f4 := k24; have g1 := rg32 p1; have g2 := rg32 r18; have z0 : (0 : Int32).toInt = 0 := (by decide); have z1 : (1 : Int32).toInt = 1 := (by decide); have z3 : (3 : Int32).toInt = 3 := (by decide); omega)), trivial⟩, (show va_P D clz (WD9 cy g σ) tS.heap by rw [ht]; exact hP)⟩, hS.F ht⟩) hS.2.2 dX9_areDoubles_37

theorem q2003 : Cond.code yX9_doublesBy cX9_doublesBy 6 (some .int) ∈ lw_g := lw_gm (List.mem_of_getElem? (i := 2003) (by decide +kernel)) rfl
theorem q2004 : Cond.methodLink RX9 488 yX9_states ∈ lw_g := lw_gm (List.mem_of_getElem? (i := 2004) (by decide +kernel)) rfl
theorem q2006 : Cond.instanceMethod yX9_states ∈ lw_g := lw_gm (List.mem_of_getElem? (i := 2006) (by decide +kernel)) rfl
theorem q113 : Cond.selects RX9 yX9_states yX9_states ∈ lw_g := lw_gm (List.mem_of_getElem? (i := 113) (by decide +kernel)) rfl
theorem q2008 : Cond.methodLink RX9 491 yX9_leftFrom ∈ lw_g := lw_gm (List.mem_of_getElem? (i := 2008) (by decide +kernel)) rfl
theorem q2010 : Cond.instanceMethod yX9_leftFrom ∈ lw_g := lw_gm (List.mem_of_getElem? (i := 2010) (by decide +kernel)) rfl
theorem q114 : Cond.selects RX9 yX9_leftFrom yX9_leftFrom ∈ lw_g := lw_gm (List.mem_of_getElem? (i := 114) (by decide +kernel)) rfl
theorem q1413 : Cond.fieldLink RX9 114 "LipsAndSlidesModel" "doubleWho" "[I" ∈ lw_g := lw_gm (List.mem_of_getElem? (i := 1413) (by decide +kernel)) rfl
theorem dX9_doublesBy_0 : decode cX9_doublesBy 0 = .ok (.aload_n 0, 1) := by decide +kernel
theorem dX9_doublesBy_1 : decode cX9_doublesBy 1 = .ok (.iconst 0, 1) := by decide +kernel
theorem dX9_doublesBy_2 : decode cX9_doublesBy 2 = .ok (.putfield 479, 3) := by decide +kernel
theorem dX9_doublesBy_5 : decode cX9_doublesBy 5 = .ok (.aload_n 0, 1) := by decide +kernel
theorem dX9_doublesBy_6 : decode cX9_doublesBy 6 = .ok (.iload_n 2, 1) := by decide +kernel
theorem dX9_doublesBy_7 : decode cX9_doublesBy 7 = .ok (.putfield 482, 3) := by decide +kernel
theorem dX9_doublesBy_10 : decode cX9_doublesBy 10 = .ok (.iconst 0, 1) := by decide +kernel
theorem dX9_doublesBy_11 : decode cX9_doublesBy 11 = .ok (.istore_n 3, 1) := by decide +kernel
theorem dX9_doublesBy_12 : decode cX9_doublesBy 12 = .ok (.iload_n 3, 1) := by decide +kernel
theorem dX9_doublesBy_13 : decode cX9_doublesBy 13 = .ok (.aload_n 0, 1) := by decide +kernel
theorem dX9_doublesBy_14 : decode cX9_doublesBy 14 = .ok (.getfield 34, 3) := by decide +kernel
theorem dX9_doublesBy_17 : decode cX9_doublesBy 17 = .ok (.iconst 3, 1) := by decide +kernel
theorem dX9_doublesBy_18 : decode cX9_doublesBy 18 = .ok (.iaload, 1) := by decide +kernel
theorem dX9_doublesBy_19 : decode cX9_doublesBy 19 = .ok (.if_icmp .ge 59, 3) := by decide +kernel
theorem dX9_doublesBy_22 : decode cX9_doublesBy 22 = .ok (.iload_n 1, 1) := by decide +kernel
theorem dX9_doublesBy_23 : decode cX9_doublesBy 23 = .ok (.iload_n 3, 1) := by decide +kernel
theorem dX9_doublesBy_24 : decode cX9_doublesBy 24 = .ok (.ishr, 1) := by decide +kernel
theorem dX9_doublesBy_25 : decode cX9_doublesBy 25 = .ok (.iconst 1, 1) := by decide +kernel
theorem dX9_doublesBy_26 : decode cX9_doublesBy 26 = .ok (.iand, 1) := by decide +kernel
theorem dX9_doublesBy_27 : decode cX9_doublesBy 27 = .ok (.ifCond .ne 6, 3) := by decide +kernel
theorem dX9_doublesBy_30 : decode cX9_doublesBy 30 = .ok (.goto 42, 3) := by decide +kernel
theorem dX9_doublesBy_33 : decode cX9_doublesBy 33 = .ok (.aload_n 0, 1) := by decide +kernel
theorem dX9_doublesBy_34 : decode cX9_doublesBy 34 = .ok (.getfield 114, 3) := by decide +kernel
theorem dX9_doublesBy_37 : decode cX9_doublesBy 37 = .ok (.aload_n 0, 1) := by decide +kernel
theorem dX9_doublesBy_38 : decode cX9_doublesBy 38 = .ok (.getfield 479, 3) := by decide +kernel
theorem dX9_doublesBy_41 : decode cX9_doublesBy 41 = .ok (.iload_n 3, 1) := by decide +kernel
theorem dX9_doublesBy_42 : decode cX9_doublesBy 42 = .ok (.iastore, 1) := by decide +kernel
theorem dX9_doublesBy_43 : decode cX9_doublesBy 43 = .ok (.aload_n 0, 1) := by decide +kernel
theorem dX9_doublesBy_44 : decode cX9_doublesBy 44 = .ok (.getfield 117, 3) := by decide +kernel
theorem dX9_doublesBy_47 : decode cX9_doublesBy 47 = .ok (.aload_n 0, 1) := by decide +kernel
theorem dX9_doublesBy_48 : decode cX9_doublesBy 48 = .ok (.getfield 479, 3) := by decide +kernel
theorem dX9_doublesBy_51 : decode cX9_doublesBy 51 = .ok (.aload_n 0, 1) := by decide +kernel
theorem dX9_doublesBy_52 : decode cX9_doublesBy 52 = .ok (.getfield 40, 3) := by decide +kernel
theorem dX9_doublesBy_55 : decode cX9_doublesBy 55 = .ok (.iconst 4, 1) := by decide +kernel
theorem dX9_doublesBy_56 : decode cX9_doublesBy 56 = .ok (.iload_n 3, 1) := by decide +kernel
theorem dX9_doublesBy_57 : decode cX9_doublesBy 57 = .ok (.imul, 1) := by decide +kernel
theorem dX9_doublesBy_58 : decode cX9_doublesBy 58 = .ok (.iconst 2, 1) := by decide +kernel
theorem dX9_doublesBy_59 : decode cX9_doublesBy 59 = .ok (.iadd, 1) := by decide +kernel
theorem dX9_doublesBy_60 : decode cX9_doublesBy 60 = .ok (.iaload, 1) := by decide +kernel
theorem dX9_doublesBy_61 : decode cX9_doublesBy 61 = .ok (.iastore, 1) := by decide +kernel
theorem dX9_doublesBy_62 : decode cX9_doublesBy 62 = .ok (.aload_n 0, 1) := by decide +kernel
theorem dX9_doublesBy_63 : decode cX9_doublesBy 63 = .ok (.dup, 1) := by decide +kernel
theorem dX9_doublesBy_64 : decode cX9_doublesBy 64 = .ok (.getfield 479, 3) := by decide +kernel
theorem dX9_doublesBy_67 : decode cX9_doublesBy 67 = .ok (.iconst 1, 1) := by decide +kernel
theorem dX9_doublesBy_68 : decode cX9_doublesBy 68 = .ok (.iadd, 1) := by decide +kernel
theorem dX9_doublesBy_69 : decode cX9_doublesBy 69 = .ok (.putfield 479, 3) := by decide +kernel
theorem dX9_doublesBy_72 : decode cX9_doublesBy 72 = .ok (.iinc 3 1, 3) := by decide +kernel
theorem dX9_doublesBy_75 : decode cX9_doublesBy 75 = .ok (.goto (-63), 3) := by decide +kernel
theorem dX9_doublesBy_78 : decode cX9_doublesBy 78 = .ok (.aload_n 0, 1) := by decide +kernel
theorem dX9_doublesBy_79 : decode cX9_doublesBy 79 = .ok (.invokevirtual 488, 3) := by decide +kernel
theorem dX9_doublesBy_82 : decode cX9_doublesBy 82 = .ok (.istore_n 3, 1) := by decide +kernel
theorem dX9_doublesBy_83 : decode cX9_doublesBy 83 = .ok (.iconst 0, 1) := by decide +kernel
theorem dX9_doublesBy_84 : decode cX9_doublesBy 84 = .ok (.istore 4, 2) := by decide +kernel
theorem dX9_doublesBy_86 : decode cX9_doublesBy 86 = .ok (.iload 4, 2) := by decide +kernel
theorem dX9_doublesBy_88 : decode cX9_doublesBy 88 = .ok (.iload_n 3, 1) := by decide +kernel
theorem dX9_doublesBy_89 : decode cX9_doublesBy 89 = .ok (.if_icmp .ge 28, 3) := by decide +kernel
theorem dX9_doublesBy_92 : decode cX9_doublesBy 92 = .ok (.aload_n 0, 1) := by decide +kernel
theorem dX9_doublesBy_93 : decode cX9_doublesBy 93 = .ok (.getfield 111, 3) := by decide +kernel
theorem dX9_doublesBy_96 : decode cX9_doublesBy 96 = .ok (.sipush 29791, 3) := by decide +kernel
theorem dX9_doublesBy_99 : decode cX9_doublesBy 99 = .ok (.aload_n 0, 1) := by decide +kernel
theorem dX9_doublesBy_100 : decode cX9_doublesBy 100 = .ok (.getfield 43, 3) := by decide +kernel
theorem dX9_doublesBy_103 : decode cX9_doublesBy 103 = .ok (.iload_n 2, 1) := by decide +kernel
theorem dX9_doublesBy_104 : decode cX9_doublesBy 104 = .ok (.iaload, 1) := by decide +kernel
theorem dX9_doublesBy_105 : decode cX9_doublesBy 105 = .ok (.imul, 1) := by decide +kernel
theorem dX9_doublesBy_106 : decode cX9_doublesBy 106 = .ok (.iload 4, 2) := by decide +kernel
theorem dX9_doublesBy_108 : decode cX9_doublesBy 108 = .ok (.iadd, 1) := by decide +kernel
theorem dX9_doublesBy_109 : decode cX9_doublesBy 109 = .ok (.iconst 0, 1) := by decide +kernel
theorem dX9_doublesBy_110 : decode cX9_doublesBy 110 = .ok (.bastore, 1) := by decide +kernel
theorem dX9_doublesBy_111 : decode cX9_doublesBy 111 = .ok (.iinc 4 1, 3) := by decide +kernel
theorem dX9_doublesBy_114 : decode cX9_doublesBy 114 = .ok (.goto (-28), 3) := by decide +kernel
theorem dX9_doublesBy_117 : decode cX9_doublesBy 117 = .ok (.aload_n 0, 1) := by decide +kernel
theorem dX9_doublesBy_118 : decode cX9_doublesBy 118 = .ok (.getfield 43, 3) := by decide +kernel
theorem dX9_doublesBy_121 : decode cX9_doublesBy 121 = .ok (.iload_n 2, 1) := by decide +kernel
theorem dX9_doublesBy_122 : decode cX9_doublesBy 122 = .ok (.iaload, 1) := by decide +kernel
theorem dX9_doublesBy_123 : decode cX9_doublesBy 123 = .ok (.iconst 1, 1) := by decide +kernel
theorem dX9_doublesBy_124 : decode cX9_doublesBy 124 = .ok (.isub, 1) := by decide +kernel
theorem dX9_doublesBy_125 : decode cX9_doublesBy 125 = .ok (.istore 4, 2) := by decide +kernel
theorem dX9_doublesBy_127 : decode cX9_doublesBy 127 = .ok (.iload 4, 2) := by decide +kernel
theorem dX9_doublesBy_129 : decode cX9_doublesBy 129 = .ok (.ifCond .lt 47, 3) := by decide +kernel
theorem dX9_doublesBy_132 : decode cX9_doublesBy 132 = .ok (.iconst 0, 1) := by decide +kernel
theorem dX9_doublesBy_133 : decode cX9_doublesBy 133 = .ok (.istore 5, 2) := by decide +kernel
theorem dX9_doublesBy_135 : decode cX9_doublesBy 135 = .ok (.iload 5, 2) := by decide +kernel
theorem dX9_doublesBy_137 : decode cX9_doublesBy 137 = .ok (.iload_n 3, 1) := by decide +kernel
theorem dX9_doublesBy_138 : decode cX9_doublesBy 138 = .ok (.if_icmp .ge 32, 3) := by decide +kernel
theorem dX9_doublesBy_141 : decode cX9_doublesBy 141 = .ok (.aload_n 0, 1) := by decide +kernel
theorem dX9_doublesBy_142 : decode cX9_doublesBy 142 = .ok (.getfield 111, 3) := by decide +kernel
theorem dX9_doublesBy_145 : decode cX9_doublesBy 145 = .ok (.sipush 29791, 3) := by decide +kernel
theorem dX9_doublesBy_148 : decode cX9_doublesBy 148 = .ok (.iload 4, 2) := by decide +kernel
theorem dX9_doublesBy_150 : decode cX9_doublesBy 150 = .ok (.imul, 1) := by decide +kernel
theorem dX9_doublesBy_151 : decode cX9_doublesBy 151 = .ok (.iload 5, 2) := by decide +kernel
theorem dX9_doublesBy_153 : decode cX9_doublesBy 153 = .ok (.iadd, 1) := by decide +kernel
theorem dX9_doublesBy_154 : decode cX9_doublesBy 154 = .ok (.aload_n 0, 1) := by decide +kernel
theorem dX9_doublesBy_155 : decode cX9_doublesBy 155 = .ok (.iload 4, 2) := by decide +kernel
theorem dX9_doublesBy_157 : decode cX9_doublesBy 157 = .ok (.iload 5, 2) := by decide +kernel
theorem dX9_doublesBy_159 : decode cX9_doublesBy 159 = .ok (.invokevirtual 491, 3) := by decide +kernel
theorem dX9_doublesBy_162 : decode cX9_doublesBy 162 = .ok (.i2b, 1) := by decide +kernel
theorem dX9_doublesBy_163 : decode cX9_doublesBy 163 = .ok (.bastore, 1) := by decide +kernel
theorem dX9_doublesBy_164 : decode cX9_doublesBy 164 = .ok (.iinc 5 1, 3) := by decide +kernel
theorem dX9_doublesBy_167 : decode cX9_doublesBy 167 = .ok (.goto (-32), 3) := by decide +kernel
theorem dX9_doublesBy_170 : decode cX9_doublesBy 170 = .ok (.iinc 4 (-1), 3) := by decide +kernel
theorem dX9_doublesBy_173 : decode cX9_doublesBy 173 = .ok (.goto (-46), 3) := by decide +kernel
theorem dX9_doublesBy_176 : decode cX9_doublesBy 176 = .ok (.aload_n 0, 1) := by decide +kernel
theorem dX9_doublesBy_177 : decode cX9_doublesBy 177 = .ok (.getfield 111, 3) := by decide +kernel
theorem dX9_doublesBy_180 : decode cX9_doublesBy 180 = .ok (.iconst 0, 1) := by decide +kernel
theorem dX9_doublesBy_181 : decode cX9_doublesBy 181 = .ok (.baload, 1) := by decide +kernel
theorem dX9_doublesBy_182 : decode cX9_doublesBy 182 = .ok (.ireturn, 1) := by decide +kernel
set_option maxHeartbeats 4000000 in
set_option maxRecDepth 100000 in
theorem m_X9_doublesBy (l : Launch) (D : va_G) (cy : Nat → ClassId) (g : Nat → Nat) (σ : ST) (p1 : Int32) (p2 : Int32) (sz : Nat) (hJ : J9 (σ 9)) (h0 : (1 : Int) ≤ p1.toInt ∧ p1.toInt ≤ 511) (h1 : (0 : Int) ≤ p2.toInt ∧ p2.toInt ≤ 2) (h2 : (bitT p1).toInt ≤ 3) : Met l yX9_doublesBy (ww yX9_doublesBy cX9_doublesBy 6 (some .int)) ({ frames := 4, cells := 0, slots := 0, locals := 256 }) (va_Pc [.ref (g 60), .int p1, .int p2] (pr9 D cy g σ sz)) (qi9 D cy g sz (fun r τ => Fr (fL [50, 51, 52, 53, 54]) σ τ ∧ J9 (τ 9) ∧ True)) 0 0 (A9 cy g sz) := by
  refine Met.ofW (cc := cX9_doublesBy) (maxL := 6) (ret := (some .int)) (by decide) rfl ?_
  intro p e s m args below meth c s₁ B hml hv
  obtain ⟨rfl, hsz, hP, hK, hD0, hC⟩ := hv
  have hx := B.exec
  have hb := B.bytes
  have hr := B.returns
  have hts := hts_g (atoms_spec (ws := ww yX9_doublesBy cX9_doublesBy 6 (some .int)) B.pre)
  have hown : s.vm.findClass RX9 = some m.cls := findClass_of_methodNamed B.named
  have hlocks := B.notSynchronized
  clear B
  subst hsz
  have hD := fun τ => A9_D (sz := s.heap.size) hD0 τ
  clear hD0
  have hS : va_S (A9 cy g s.heap.size) s.heap s.heap [] := va_S.rf
  have hl := lv_entry ([.ref (g 60), .int p1, .int p2]) (n := 6) (Nat.le_of_ble_eq_true rfl)
  rw [lg_entry_eq]
  generalize (lg_sl ([.ref (g 60), .int p1, .int p2]) ++ List.replicate (6 - (lg_sl ([.ref (g 60), .int p1, .int p2])).length) Slot.unset).toArray = ls at hl ⊢
  have hl : lv_has ls 6 [(0, .ref (g 60)), (1, .int p1), (2, .int p2)] := hl
  refine lv_aload_n hx hb dX9_doublesBy_0 rfl (lv_at hl 0 rfl) ?_
  refine lv_iconst (v := 0) hx hb dX9_doublesBy_1 (by decide) ?_
  refine p9_51 hx hb hts hown hK hP hD hS (hts _ q1411) dX9_doublesBy_2 (fun H locs σ1 eσ1 hP hS => ?_)
  have hJ2 : J9 (σ1 9) := hJ.I eσ1 (show JI9 51 (0 : Int32) from (by constructor <;> decide))
  refine lv_aload_n hx hb dX9_doublesBy_5 rfl (lv_at hl 0 rfl) ?_
  refine lv_iload_n hx hb dX9_doublesBy_6 rfl (lv_at hl 2 rfl) ?_
  refine p9_52 hx hb hts hown hK hP hD hS (hts _ q1412) dX9_doublesBy_7 (fun H locs σ3 eσ3 hP hS => ?_)
  have hJ4 : J9 (σ3 9) := hJ2.I eσ3 (show JI9 52 p2 from (by have f0 := h1; have g0 := rg32 p2; exact ⟨by omega, by omega⟩))
  refine lv_iconst (v := 0) hx hb dX9_doublesBy_10 (by decide) ?_
  refine lv_istore_n (lv' := [(3, .int 0), (0, .ref (g 60)), (1, .int p1), (2, .int p2)]) hx hb dX9_doublesBy_11 rfl hl (by decide) rfl (fun ls hl => ?_)
  refine loop9 6 12 (fun x : LZ => [(3, .int (x.2.1 0)), (0, .ref (g 60)), (1, .int p1), (2, .int p2)]) (fun x : LZ => (Fr (fL [51, 53, 54]) σ3 x.1) ∧ (J9 (x.1 9)) ∧ ((0 : Int) ≤ (x.2.1 0).toInt ∧ (x.2.1 0).toInt ≤ 9) ∧ (((x.1 9).1 51).toInt = cl p1.toInt.toNat (x.2.1 0).toInt.toNat) ∧ True) (fun x : LZ => ((10 : Int) - (x.2.1 0).toInt).toNat) ?_ (σ3, lf [0], lg []) ⟨Fr.rf, hJ4, (show (0 : Int) ≤ (0 : Int32).toInt ∧ (0 : Int32).toInt ≤ 9 from (by have z0 : (0 : Int32).toInt = 0 := (by decide); omega)), (show ((σ3 9).1 51).toInt = cl p1.toInt.toNat (0 : Int32).toInt.toNat from (by have f0 := j9_51 hJ4 rfl; have f1 := congrArg Int32.toInt (show ((σ3 9).1 51) = (0 : Int32) from (((sI_f eσ3) 9 51 rfl).1).trans (sI_s eσ1)); have z0 : (0 : Int32).toInt = 0 := (by decide); exact (by rw [show (0 : Int32).toInt.toNat = 0 from by decide]; show _ = (0 : Int); omega))), trivial⟩ _ _ _ hP hS (lv_sub hl [0, 1, 2, 3] rfl)
  intro y7 hI6 nl5 H locs ls hP hS hl
  obtain ⟨σ8, eσ8⟩ : ∃ z, z = y7.1 := ⟨_, rfl⟩
  rw [← eσ8] at hP hI6
  have hF9 : Fr (fL [51, 53, 54]) σ3 σ8 := hI6.1
  have hJ10 : J9 (σ8 9) := hI6.2.1
  have b11 : (0 : Int) ≤ (y7.2.1 0).toInt ∧ (y7.2.1 0).toInt ≤ 9 := hI6.2.2.1
  have b12 : ((σ8 9).1 51).toInt = cl p1.toInt.toNat (y7.2.1 0).toInt.toNat := hI6.2.2.2.1
  have hl : lv_has ls 6 [(3, .int (y7.2.1 0)), (0, .ref (g 60)), (1, .int p1), (2, .int p2)] := hl
  refine lv_iload_n hx hb dX9_doublesBy_12 rfl (lv_at hl 0 rfl) ?_
  refine lv_aload_n hx hb dX9_doublesBy_13 rfl (lv_at hl 1 rfl) ?_
  refine g9_17 hx hb hts hown hK hP (hts _ q1377) dX9_doublesBy_14 ?_
  refine lv_iconst (v := 3) hx hb dX9_doublesBy_17 (by decide) ?_
  refine l9_17 (x := ((σ 9).2.2.1 17 3)) hx hb hK hP (vpi (by decide)) ((congrFun (((hF9 9 17 rfl).2.2.1).trans ((((sI_f eσ3) 9 17 rfl).2.2.1).trans (((sI_f eσ1) 9 17 rfl).2.2.1))) _).trans (congrArg ((σ 9).2.2.1 17) (show (3 : Int32).toInt.toNat = 3 by decide))) dX9_doublesBy_18 ?_
  refine lv_icmp_ge (tgt := 78) hx hb dX9_doublesBy_19 (by decide) (fun c13 => ?_) (fun c13 => ?_)
  ·
    have k14 := ple32 c13
    refine lv_aload_n hx hb dX9_doublesBy_78 rfl (lv_at hl 1 rfl) ?_
    refine va_calli (va_runV (As := []) (rest := []) ⟨hx, hb, hml, hown, hts⟩ (m_X9_states l D cy g σ8  _ hJ10 ) (cwV 0 hts (gd_V q2004 q2006 q113 q134 q2007) rfl rfl rfl (by decide +kernel) ⟨Nat.le_of_ble_eq_true rfl, Nat.le_of_ble_eq_true rfl⟩) (pv9 hP hK hD hC hS (va_recv hK hP (ci := 9) (q0 := 0) rfl rfl)) rfl rfl hl.1 rfl (lv_room (Nat.le_of_ble_eq_true rfl)) dX9_doublesBy_79 ⟨Nat.le_of_ble_eq_true rfl, Nat.le_of_ble_eq_true rfl⟩) hS (fun q _ h => up9 hS q h) (up9 hS) (fun r15 σ16 tS H1 locs ht hvm hw17 hB hz1 hk1 hS => ?_)
    have hP : va_P D clz (WD9 cy g σ16) H1 := by rw [← ht]; exact hB
    clear hB hz1 hk1 hvm ht
    generalize H1 = H at hP hS ⊢
    have hw17E : σ8 = σ16 := (hw17.1).symm
    subst hw17E
    have b18 : (31 : Int) ≤ r15.toInt ∧ r15.toInt ≤ 29791 := hw17.2.1
    refine lv_istore_n (lv' := [(3, .int r15), (0, .ref (g 60)), (1, .int p1), (2, .int p2)]) hx hb dX9_doublesBy_82 rfl hl (by decide) rfl (fun ls hl => ?_)
    refine lv_iconst (v := 0) hx hb dX9_doublesBy_83 (by decide) ?_
    refine lv_istore (lv' := [(4, .int 0), (3, .int r15), (0, .ref (g 60)), (1, .int p1), (2, .int p2)]) hx hb dX9_doublesBy_84 hl (by decide) rfl (fun ls hl => ?_)
    refine loop9 6 86 (fun x : LZ => [(4, .int (x.2.1 0)), (3, .int r15), (0, .ref (g 60)), (1, .int p1), (2, .int p2)]) (fun x : LZ => (Fr (fL [50]) σ8 x.1) ∧ (J9 (x.1 9)) ∧ ((0 : Int) ≤ (x.2.1 0).toInt ∧ (x.2.1 0).toInt ≤ 29791) ∧ True) (fun x : LZ => ((29792 : Int) - (x.2.1 0).toInt).toNat) ?_ (σ8, lf [0], lg []) ⟨Fr.rf, hJ10, (show (0 : Int) ≤ (0 : Int32).toInt ∧ (0 : Int32).toInt ≤ 29791 from (by have z0 : (0 : Int32).toInt = 0 := (by decide); omega)), trivial⟩ _ _ _ hP hS (lv_sub hl [0, 1, 2, 3, 4] rfl)
    intro y21 hI20 nl19 H locs ls hP hS hl
    obtain ⟨σ22, eσ22⟩ : ∃ z, z = y21.1 := ⟨_, rfl⟩
    rw [← eσ22] at hP hI20
    have hF23 : Fr (fL [50]) σ8 σ22 := hI20.1
    have hJ24 : J9 (σ22 9) := hI20.2.1
    have b25 : (0 : Int) ≤ (y21.2.1 0).toInt ∧ (y21.2.1 0).toInt ≤ 29791 := hI20.2.2.1
    have hl : lv_has ls 6 [(4, .int (y21.2.1 0)), (3, .int r15), (0, .ref (g 60)), (1, .int p1), (2, .int p2)] := hl
    refine lv_iload hx hb dX9_doublesBy_86 (lv_at hl 0 rfl) ?_
    refine lv_iload_n hx hb dX9_doublesBy_88 rfl (lv_at hl 1 rfl) ?_
    refine lv_icmp_ge (tgt := 117) hx hb dX9_doublesBy_89 (by decide) (fun c26 => ?_) (fun c26 => ?_)
    ·
      have k27 := ple32 c26
      refine lv_aload_n hx hb dX9_doublesBy_117 rfl (lv_at hl 2 rfl) ?_
      refine g9_20 hx hb hts hown hK hP (hts _ q1380) dX9_doublesBy_118 ?_
      refine lv_iload_n hx hb dX9_doublesBy_121 rfl (lv_at hl 4 rfl) ?_
      obtain ⟨x28, ex28⟩ : ∃ z, (σ 9).2.2.1 20 p2.toInt.toNat = z := ⟨_, rfl⟩
      refine l9_20 (x := x28) hx hb hK hP (vpo (by have f0 := h1; have g0 := rg32 p2; omega)) ((congrFun (((hF23 9 20 rfl).2.2.1).trans (((hF9 9 20 rfl).2.2.1).trans ((((sI_f eσ3) 9 20 rfl).2.2.1).trans (((sI_f eσ1) 9 20 rfl).2.2.1)))) _).trans ex28) dX9_doublesBy_122 ?_
      have t29 := a9_20 hJ ex28
      refine lv_iconst (v := 1) hx hb dX9_doublesBy_123 (by decide) ?_
      refine lv_isub hx hb dX9_doublesBy_124 ?_
      refine lv_topi (fun x30 ex30 => ?_)
      have t31 := subO ex30 (by have f0 := t29; have f1 := h1; have g0 := rg32 x28; have z1 : (1 : Int32).toInt = 1 := (by decide); omega)
      refine lv_istore (lv' := [(4, .int x30), (3, .int r15), (0, .ref (g 60)), (1, .int p1), (2, .int p2)]) hx hb dX9_doublesBy_125 hl (by decide) rfl (fun ls hl => ?_)
      refine loop9 6 127 (fun x : LZ => [(4, .int (x.2.1 0)), (3, .int r15), (0, .ref (g 60)), (1, .int p1), (2, .int p2)]) (fun x : LZ => (Fr (fL [50]) σ22 x.1) ∧ (J9 (x.1 9)) ∧ ((-1 : Int) ≤ (x.2.1 0).toInt ∧ (x.2.1 0).toInt ≤ 15) ∧ True) (fun x : LZ => ((x.2.1 0).toInt - (-2 : Int)).toNat) ?_ (σ22, lf [x30], lg []) ⟨Fr.rf, hJ24, (show (-1 : Int) ≤ (x30 : Int32).toInt ∧ (x30 : Int32).toInt ≤ 15 from (by have f0 := t31; have f1 := t29; have f2 := h1; have g0 := rg32 x30; have z1 : (1 : Int32).toInt = 1 := (by decide); omega)), trivial⟩ _ _ _ hP hS (lv_sub hl [0, 1, 2, 3, 4] rfl)
      intro y34 hI33 nl32 H locs ls hP hS hl
      obtain ⟨σ35, eσ35⟩ : ∃ z, z = y34.1 := ⟨_, rfl⟩
      rw [← eσ35] at hP hI33
      have hF36 : Fr (fL [50]) σ22 σ35 := hI33.1
      have hJ37 : J9 (σ35 9) := hI33.2.1
      have b38 : (-1 : Int) ≤ (y34.2.1 0).toInt ∧ (y34.2.1 0).toInt ≤ 15 := hI33.2.2.1
      have hl : lv_has ls 6 [(4, .int (y34.2.1 0)), (3, .int r15), (0, .ref (g 60)), (1, .int p1), (2, .int p2)] := hl
      refine lv_iload hx hb dX9_doublesBy_127 (lv_at hl 0 rfl) ?_
      refine lv_if_lt (tgt := 176) hx hb dX9_doublesBy_129 (by decide) (fun c39 => ?_) (fun c39 => ?_)
      ·
        have k40 := plt32 c39
        refine lv_aload_n hx hb dX9_doublesBy_176 rfl (lv_at hl 2 rfl) ?_
        refine g9_50 hx hb hts hown hK hP (hts _ q1410) dX9_doublesBy_177 ?_
        refine lv_iconst (v := 0) hx hb dX9_doublesBy_180 (by decide) ?_
        refine l9_50 (x := ((σ35 9).2.2.1 50 0)) hx hb hK hP (vpi (by decide)) (congrArg ((σ35 9).2.2.1 50) (show (0 : Int32).toInt.toNat = 0 by decide)) dX9_doublesBy_181 ?_
        exact W.iret (v := ((σ35 9).2.2.1 50 0)) hx hb hr (fun tS ht hW => ⟨⟨((σ35 9).2.2.1 50 0), σ35, rfl, ⟨Fr.tr (Fr.tr (Fr.tr (Fr.tr (Fr.tr (Fr.rf) (sI_f eσ1) (fN_L rfl)) (sI_f eσ3) (fN_L rfl)) hF9 (fL_sub rfl)) hF23 (fL_sub rfl)) hF36 (fL_sub rfl), hJ37, trivial⟩, (show va_P D clz (WD9 cy g σ35) tS.heap by rw [ht]; exact hP)⟩, hS.F ht⟩) hS.2.2 dX9_doublesBy_182
      ·
        have k41 := nlt32 c39
        refine lv_iconst (v := 0) hx hb dX9_doublesBy_132 (by decide) ?_
        refine lv_istore (lv' := [(5, .int 0), (4, .int (y34.2.1 0)), (3, .int r15), (0, .ref (g 60)), (1, .int p1), (2, .int p2)]) hx hb dX9_doublesBy_133 hl (by decide) rfl (fun ls hl => ?_)
        refine loop9 6 135 (fun x : LZ => [(5, .int (x.2.1 0)), (4, .int (y34.2.1 0)), (3, .int r15), (0, .ref (g 60)), (1, .int p1), (2, .int p2)]) (fun x : LZ => (Fr (fL [50]) σ35 x.1) ∧ (J9 (x.1 9)) ∧ ((0 : Int) ≤ (x.2.1 0).toInt ∧ (x.2.1 0).toInt ≤ 29791) ∧ True) (fun x : LZ => ((29792 : Int) - (x.2.1 0).toInt).toNat) ?_ (σ35, lf [0], lg []) ⟨Fr.rf, hJ37, (show (0 : Int) ≤ (0 : Int32).toInt ∧ (0 : Int32).toInt ≤ 29791 from (by have z0 : (0 : Int32).toInt = 0 := (by decide); omega)), trivial⟩ _ _ _ hP hS (lv_sub hl [0, 1, 2, 3, 4, 5] rfl)
        intro y44 hI43 nl42 H locs ls hP hS hl
        obtain ⟨σ45, eσ45⟩ : ∃ z, z = y44.1 := ⟨_, rfl⟩
        rw [← eσ45] at hP hI43
        have hF46 : Fr (fL [50]) σ35 σ45 := hI43.1
        have hJ47 : J9 (σ45 9) := hI43.2.1
        have b48 : (0 : Int) ≤ (y44.2.1 0).toInt ∧ (y44.2.1 0).toInt ≤ 29791 := hI43.2.2.1
        have hl : lv_has ls 6 [(5, .int (y44.2.1 0)), (4, .int (y34.2.1 0)), (3, .int r15), (0, .ref (g 60)), (1, .int p1), (2, .int p2)] := hl
        refine lv_iload hx hb dX9_doublesBy_135 (lv_at hl 0 rfl) ?_
        refine lv_iload_n hx hb dX9_doublesBy_137 rfl (lv_at hl 2 rfl) ?_
        refine lv_icmp_ge (tgt := 170) hx hb dX9_doublesBy_138 (by decide) (fun c49 => ?_) (fun c49 => ?_)
        ·
          have k50 := ple32 c49
          obtain ⟨x51, ex51⟩ : ∃ y : Int32, y = (y34.2.1 0) + (-1) := ⟨_, rfl⟩
          have t52 := addO ex51 (by have f0 := b38; have f1 := k41; have g0 := rg32 (y34.2.1 0); have zm1 : ((-1) : Int32).toInt = (-1) := (by decide); have z0 : (0 : Int32).toInt = 0 := (by decide); omega)
          refine lv_iinc (v := x51) (lv' := [(4, .int x51), (5, .int (y44.2.1 0)), (3, .int r15), (0, .ref (g 60)), (1, .int p1), (2, .int p2)]) hx hb dX9_doublesBy_170 hl (k := 1) rfl (by rw [ex51]; rfl) (by decide) rfl (fun ls hl => ?_)
          refine lv_goto (tgt := 127) hx hb dX9_doublesBy_173 (by decide) ?_
          have t53 : (x51.toInt - (-2 : Int)).toNat < ((y34.2.1 0).toInt - (-2 : Int)).toNat := (by have f0 := b38; have f1 := k41; have f2 := t52; have g0 := rg32 (y34.2.1 0); have g1 := rg32 x51; have zm1 : ((-1) : Int32).toInt = (-1) := (by decide); have z0 : (0 : Int32).toInt = 0 := (by decide); omega)
          exact nl32 (σ45, lf [x51], lg []) ⟨Fr.tr (Fr.tr (Fr.rf) hF36 (fL_sub rfl)) hF46 (fL_sub rfl), hJ47, (show (-1 : Int) ≤ (x51 : Int32).toInt ∧ (x51 : Int32).toInt ≤ 15 from (by have f0 := t52; have f1 := b38; have f2 := k41; have g0 := rg32 x51; have zm1 : ((-1) : Int32).toInt = (-1) := (by decide); have z0 : (0 : Int32).toInt = 0 := (by decide); omega)), trivial⟩ (show (x51.toInt - (-2 : Int)).toNat < _ from by first | exact t53 | (rw [← eσ35]; exact t53)) _ _ _ hP hS (lv_sub hl [0, 2, 3, 4, 5] rfl)
        ·
          have k54 := nle32 c49
          refine lv_aload_n hx hb dX9_doublesBy_141 rfl (lv_at hl 3 rfl) ?_
          refine g9_50 hx hb hts hown hK hP (hts _ q1410) dX9_doublesBy_142 ?_
          refine lv_sipush (v := 29791) hx hb dX9_doublesBy_145 (by decide) ?_
          refine lv_iload hx hb dX9_doublesBy_148 (lv_at hl 1 rfl) ?_
          refine lv_imul hx hb dX9_doublesBy_150 ?_
          refine lv_topi (fun x55 ex55 => ?_)
          have t56 := mulC' (n := 29791) ex55 (by decide) (by have f0 := b38; have f1 := k41; have g0 := rg32 (y34.2.1 0); have z0 : (0 : Int32).toInt = 0 := (by decide); omega)
          refine lv_iload hx hb dX9_doublesBy_151 (lv_at hl 0 rfl) ?_
          refine lv_iadd hx hb dX9_doublesBy_153 ?_
          refine lv_topi (fun x57 ex57 => ?_)
          have t58 := addO ex57 (by have f0 := b48; have f1 := k54; have f2 := t56; have f3 := b18; have f4 := k27; have f5 := b38; have f6 := k41; have f7 := b25; have g0 := rg32 (y44.2.1 0); have g1 := rg32 x55; have z0 : (0 : Int32).toInt = 0 := (by decide); omega)
          refine lv_aload_n hx hb dX9_doublesBy_154 rfl (lv_at hl 3 rfl) ?_
          refine lv_iload hx hb dX9_doublesBy_155 (lv_at hl 1 rfl) ?_
          refine lv_iload hx hb dX9_doublesBy_157 (lv_at hl 0 rfl) ?_
          refine va_calli (va_runV (As := [.int (y34.2.1 0), .int (y44.2.1 0)]) (rest := [.int x57, .ref (g 50)]) ⟨hx, hb, hml, hown, hts⟩ (m_X9_leftFrom l D cy g σ45 (y34.2.1 0) (y44.2.1 0) _ hJ47 (show (0 : Int) ≤ (y34.2.1 0).toInt ∧ (y34.2.1 0).toInt ≤ 15 from (by have f0 := b38; have f1 := k41; have f2 := t56; have f3 := t58; have f4 := b48; have f5 := k54; have f6 := b18; have f7 := k27; have f8 := b25; have g0 := rg32 (y34.2.1 0); have z0 : (0 : Int32).toInt = 0 := (by decide); omega)) (show (0 : Int) ≤ (y44.2.1 0).toInt ∧ (y44.2.1 0).toInt ≤ 29790 from (by have f0 := b38; have f1 := k41; have f2 := b48; have f3 := k54; have f4 := t56; have f5 := t58; have f6 := b18; have f7 := k27; have f8 := b25; have g0 := rg32 (y34.2.1 0); have g1 := rg32 (y44.2.1 0); have z0 : (0 : Int32).toInt = 0 := (by decide); omega))) (cwV 2 hts (gd_V q2008 q2010 q114 q134 q2011) rfl rfl rfl (by decide +kernel) ⟨Nat.le_of_ble_eq_true rfl, Nat.le_of_ble_eq_true rfl⟩) (pv9 hP hK hD hC hS (va_recv hK hP (ci := 9) (q0 := 0) rfl rfl)) rfl rfl hl.1 rfl (lv_room (Nat.le_of_ble_eq_true rfl)) dX9_doublesBy_159 ⟨Nat.le_of_ble_eq_true rfl, Nat.le_of_ble_eq_true rfl⟩) hS (fun q _ h => up9 hS q h) (up9 hS) (fun r59 σ60 tS H1 locs ht hvm hw61 hB hz1 hk1 hS => ?_)
          have hP : va_P D clz (WD9 cy g σ60) H1 := by rw [← ht]; exact hB
          clear hB hz1 hk1 hvm ht
          generalize H1 = H at hP hS ⊢
          have hw61E : σ45 = σ60 := (hw61.1).symm
          subst hw61E
          refine lv_i2b hx hb dX9_doublesBy_162 rfl ?_
          refine lv_topi (fun x62 ex62 => ?_)
          refine t9_50 hx hb hK hP hD hS (vpo (by have f0 := t58; have f1 := b48; have f2 := k54; have f3 := t56; have f4 := b18; have f5 := k27; have f6 := b38; have f7 := k41; have f8 := b25; have g0 := rg32 x57; have z0 : (0 : Int32).toInt = 0 := (by decide); omega)) dX9_doublesBy_163 (fun H locs σ63 eσ63 hP hS => ?_)
          have hJ64 : J9 (σ63 9) := hJ47.A eσ63 trivial
          obtain ⟨x65, ex65⟩ : ∃ y : Int32, y = (y44.2.1 0) + 1 := ⟨_, rfl⟩
          have t66 := addO ex65 (by have f0 := b48; have f1 := k54; have f2 := t58; have f3 := b18; have f4 := k27; have f5 := t56; have f6 := b25; have f7 := b38; have f8 := k41; have g0 := rg32 (y44.2.1 0); have z0 : (0 : Int32).toInt = 0 := (by decide); have z1 : (1 : Int32).toInt = 1 := (by decide); omega)
          refine lv_iinc (v := x65) (lv' := [(5, .int x65), (4, .int (y34.2.1 0)), (3, .int r15), (0, .ref (g 60)), (1, .int p1), (2, .int p2)]) hx hb dX9_doublesBy_164 hl (k := 0) rfl (by rw [ex65]; rfl) (by decide) rfl (fun ls hl => ?_)
          refine lv_goto (tgt := 135) hx hb dX9_doublesBy_167 (by decide) ?_
          have t67 : ((29792 : Int) - x65.toInt).toNat < ((29792 : Int) - (y44.2.1 0).toInt).toNat := (by have f0 := b48; have f1 := k54; have f2 := t58; have f3 := t66; have f4 := b18; have f5 := k27; have f6 := t56; have f7 := b25; have f8 := b38; have f9 := k41; have g0 := rg32 (y44.2.1 0); have g1 := rg32 x65; have z0 : (0 : Int32).toInt = 0 := (by decide); have z1 : (1 : Int32).toInt = 1 := (by decide); omega)
          exact nl42 (σ63, lf [x65], lg []) ⟨Fr.tr (Fr.tr (Fr.rf) hF46 (fL_sub rfl)) (sA_f eσ63) (fN_L rfl), hJ64, (show (0 : Int) ≤ (x65 : Int32).toInt ∧ (x65 : Int32).toInt ≤ 29791 from (by have f0 := t66; have f1 := b48; have f2 := k54; have f3 := t58; have f4 := b18; have f5 := k27; have f6 := t56; have f7 := b25; have f8 := b38; have f9 := k41; have g0 := rg32 x65; have z0 : (0 : Int32).toInt = 0 := (by decide); have z1 : (1 : Int32).toInt = 1 := (by decide); omega)), trivial⟩ (show ((29792 : Int) - x65.toInt).toNat < _ from by first | exact t67 | (rw [← eσ45]; exact t67)) _ _ _ hP hS (lv_sub hl [0, 1, 2, 3, 4, 5] rfl)
    ·
      have k68 := nle32 c26
      refine lv_aload_n hx hb dX9_doublesBy_92 rfl (lv_at hl 2 rfl) ?_
      refine g9_50 hx hb hts hown hK hP (hts _ q1410) dX9_doublesBy_93 ?_
      refine lv_sipush (v := 29791) hx hb dX9_doublesBy_96 (by decide) ?_
      refine lv_aload_n hx hb dX9_doublesBy_99 rfl (lv_at hl 2 rfl) ?_
      refine g9_20 hx hb hts hown hK hP (hts _ q1380) dX9_doublesBy_100 ?_
      refine lv_iload_n hx hb dX9_doublesBy_103 rfl (lv_at hl 4 rfl) ?_
      obtain ⟨x69, ex69⟩ : ∃ z, (σ 9).2.2.1 20 p2.toInt.toNat = z := ⟨_, rfl⟩
      refine l9_20 (x := x69) hx hb hK hP (vpo (by have f0 := h1; have g0 := rg32 p2; omega)) ((congrFun (((hF23 9 20 rfl).2.2.1).trans (((hF9 9 20 rfl).2.2.1).trans ((((sI_f eσ3) 9 20 rfl).2.2.1).trans (((sI_f eσ1) 9 20 rfl).2.2.1)))) _).trans ex69) dX9_doublesBy_104 ?_
      have t70 := a9_20 hJ ex69
      refine lv_imul hx hb dX9_doublesBy_105 ?_
      refine lv_topi (fun x71 ex71 => ?_)
      have t72 := mulC' (n := 29791) ex71 (by decide) (by have f0 := t70; have f1 := h1; have g0 := rg32 x69; omega)
      refine lv_iload hx hb dX9_doublesBy_106 (lv_at hl 0 rfl) ?_
      refine lv_iadd hx hb dX9_doublesBy_108 ?_
      refine lv_topi (fun x73 ex73 => ?_)
      have t74 := addO ex73 (by have f0 := b25; have f1 := k68; have f2 := t72; have f3 := b18; have f4 := t70; have f5 := h1; have g0 := rg32 (y21.2.1 0); have g1 := rg32 x71; omega)
      refine lv_iconst (v := 0) hx hb dX9_doublesBy_109 (by decide) ?_
      refine t9_50 hx hb hK hP hD hS (vpo (by have f0 := t74; have f1 := b25; have f2 := k68; have f3 := t72; have f4 := b18; have f5 := t70; have f6 := h1; have g0 := rg32 x73; omega)) dX9_doublesBy_110 (fun H locs σ75 eσ75 hP hS => ?_)
      have hJ76 : J9 (σ75 9) := hJ24.A eσ75 trivial
      obtain ⟨x77, ex77⟩ : ∃ y : Int32, y = (y21.2.1 0) + 1 := ⟨_, rfl⟩
      have t78 := addO ex77 (by have f0 := b25; have f1 := k68; have f2 := t74; have f3 := b18; have f4 := t72; have f5 := t70; have f6 := h1; have g0 := rg32 (y21.2.1 0); have z1 : (1 : Int32).toInt = 1 := (by decide); omega)
      refine lv_iinc (v := x77) (lv' := [(4, .int x77), (3, .int r15), (0, .ref (g 60)), (1, .int p1), (2, .int p2)]) hx hb dX9_doublesBy_111 hl (k := 0) rfl (by rw [ex77]; rfl) (by decide) rfl (fun ls hl => ?_)
      refine lv_goto (tgt := 86) hx hb dX9_doublesBy_114 (by decide) ?_
      have t79 : ((29792 : Int) - x77.toInt).toNat < ((29792 : Int) - (y21.2.1 0).toInt).toNat := (by have f0 := b25; have f1 := k68; have f2 := t74; have f3 := t78; have f4 := b18; have f5 := t72; have f6 := t70; have f7 := h1; have g0 := rg32 (y21.2.1 0); have g1 := rg32 x77; have z1 : (1 : Int32).toInt = 1 := (by decide); omega)
      exact nl19 (σ75, lf [x77], lg []) ⟨Fr.tr (Fr.tr (Fr.rf) hF23 (fL_sub rfl)) (sA_f eσ75) (fN_L rfl), hJ76, (show (0 : Int) ≤ (x77 : Int32).toInt ∧ (x77 : Int32).toInt ≤ 29791 from (by have f0 := t78; have f1 := b25; have f2 := k68; have f3 := t74; have f4 := b18; have f5 := t72; have f6 := t70; have f7 := h1; have g0 := rg32 x77; have z1 : (1 : Int32).toInt = 1 := (by decide); omega)), trivial⟩ (show ((29792 : Int) - x77.toInt).toNat < _ from by first | exact t79 | (rw [← eσ22]; exact t79)) _ _ _ hP hS (lv_sub hl [0, 1, 2, 3, 4] rfl)
  ·
    have k80 := nle32 c13
    refine lv_iload_n hx hb dX9_doublesBy_22 rfl (lv_at hl 2 rfl) ?_
    refine lv_iload_n hx hb dX9_doublesBy_23 rfl (lv_at hl 0 rfl) ?_
    refine lv_ishr hx hb dX9_doublesBy_24 ?_
    refine lv_topi (fun x81 ex81 => ?_)
    refine lv_iconst (v := 1) hx hb dX9_doublesBy_25 (by decide) ?_
    refine lv_iand hx hb dX9_doublesBy_26 ?_
    refine lv_topi (fun x82 ex82 => ?_)
    have t83 := andM 1 ex82 (by decide) (by decide)
    have t84 := cl_step (st := p1) (p := (y7.2.1 0)) (by have f0 := h0; have f1 := h2; have g1 := rg32 p1; omega) (by have f0 := b11; have f1 := b12; have f2 := k80; have f3 := j9_51 hJ10 rfl; have f4 := a9_17 hJ (j := 3) rfl; have g1 := rg32 (y7.2.1 0); omega) ex81 ex82
    have t85 : cl p1.toInt.toNat ((y7.2.1 0).toInt.toNat + 1) ≤ 3 := cl_le (by have f0 := h0; have f1 := h2; have g1 := rg32 p1; omega) h2 (by have f0 := b11; have f1 := b12; have f2 := k80; have f3 := j9_51 hJ10 rfl; have f4 := a9_17 hJ (j := 3) rfl; have f5 := t84; have f6 := t83; have g1 := rg32 (y7.2.1 0); omega)
    refine lv_if_ne (tgt := 33) hx hb dX9_doublesBy_27 (by decide) (fun c86 => ?_) (fun c86 => ?_)
    ·
      have k87 := neq32 c86
      refine lv_aload_n hx hb dX9_doublesBy_33 rfl (lv_at hl 1 rfl) ?_
      refine g9_53 hx hb hts hown hK hP (hts _ q1413) dX9_doublesBy_34 ?_
      refine lv_aload_n hx hb dX9_doublesBy_37 rfl (lv_at hl 1 rfl) ?_
      refine g9_51 (x := ((σ8 9).1 51)) hx hb hts hown hK hP (rfl) (hts _ q1411) dX9_doublesBy_38 ?_
      refine lv_iload_n hx hb dX9_doublesBy_41 rfl (lv_at hl 0 rfl) ?_
      refine t9_53 hx hb hK hP hD hS (vpo (by have f0 := j9_51 hJ10 rfl; have f1 := b12; have f2 := b11; have f3 := k80; have f4 := t84; have f5 := t85; have f6 := a9_17 hJ (j := 3) rfl; have f7 := t83; have f8 := k87; have z0 : (0 : Int32).toInt = 0 := (by decide); omega)) dX9_doublesBy_42 (fun H locs σ88 eσ88 hP hS => ?_)
      have hJ89 : J9 (σ88 9) := hJ10.A eσ88 (show PA9 53 ((σ8 9).1 51).toInt.toNat (y7.2.1 0) from (by have f0 := j9_51 hJ10 rfl; have f1 := b11; have f2 := b12; have f3 := k80; have f4 := a9_17 hJ (j := 3) rfl; have f5 := t84; have f6 := t85; have f7 := t83; have f8 := k87; have g1 := rg32 (y7.2.1 0); have z0 : (0 : Int32).toInt = 0 := (by decide); exact ⟨by omega, by omega⟩))
      refine lv_aload_n hx hb dX9_doublesBy_43 rfl (lv_at hl 1 rfl) ?_
      refine g9_54 hx hb hts hown hK hP (hts _ q1414) dX9_doublesBy_44 ?_
      refine lv_aload_n hx hb dX9_doublesBy_47 rfl (lv_at hl 1 rfl) ?_
      refine g9_51 (x := ((σ8 9).1 51)) hx hb hts hown hK hP (((sA_f eσ88) 9 51 rfl).1) (hts _ q1411) dX9_doublesBy_48 ?_
      refine lv_aload_n hx hb dX9_doublesBy_51 rfl (lv_at hl 1 rfl) ?_
      refine g9_19 hx hb hts hown hK hP (hts _ q1379) dX9_doublesBy_52 ?_
      refine lv_iconst (v := 4) hx hb dX9_doublesBy_55 (by decide) ?_
      refine lv_iload_n hx hb dX9_doublesBy_56 rfl (lv_at hl 0 rfl) ?_
      refine lv_imul hx hb dX9_doublesBy_57 ?_
      refine lv_topi (fun x90 ex90 => ?_)
      have t91 := mulC' (n := 4) ex90 (by decide) (by have f0 := b11; have f1 := b12; have f2 := k80; have f3 := j9_51 hJ10 rfl; have f4 := a9_17 hJ (j := 3) rfl; have f5 := t84; have f6 := t85; have f7 := t83; have f8 := k87; have g1 := rg32 (y7.2.1 0); have z0 : (0 : Int32).toInt = 0 := (by decide); omega)
      refine lv_iconst (v := 2) hx hb dX9_doublesBy_58 (by decide) ?_
      refine lv_iadd hx hb dX9_doublesBy_59 ?_
      refine lv_topi (fun x92 ex92 => ?_)
      have t93 := addO ex92 (by have f0 := t91; have f1 := b11; have f2 := b12; have f3 := k80; have f4 := j9_51 hJ10 rfl; have f5 := a9_17 hJ (j := 3) rfl; have f6 := t84; have f7 := t85; have f8 := t83; have f9 := k87; have g2 := rg32 x90; have z0 : (0 : Int32).toInt = 0 := (by decide); have z2 : (2 : Int32).toInt = 2 := (by decide); omega)
      obtain ⟨x94, ex94⟩ : ∃ z, (σ 9).2.2.1 19 x92.toInt.toNat = z := ⟨_, rfl⟩
      refine l9_19 (x := x94) hx hb hK hP (vpo (by have f0 := t93; have f1 := t91; have f2 := b11; have f3 := b12; have f4 := k80; have f5 := j9_51 hJ10 rfl; have f6 := a9_17 hJ (j := 3) rfl; have f7 := t84; have f8 := t85; have f9 := t83; have f10 := k87; have g2 := rg32 x92; have z0 : (0 : Int32).toInt = 0 := (by decide); have z2 : (2 : Int32).toInt = 2 := (by decide); omega)) ((congrFun ((((sA_f eσ88) 9 19 rfl).2.2.1).trans (((hF9 9 19 rfl).2.2.1).trans ((((sI_f eσ3) 9 19 rfl).2.2.1).trans (((sI_f eσ1) 9 19 rfl).2.2.1)))) _).trans ex94) dX9_doublesBy_60 ?_
      have t95 := a9_19 hJ ex94
      refine t9_54 hx hb hK hP hD hS (vpo (by have f0 := j9_51 hJ10 rfl; have f1 := b12; have f2 := b11; have f3 := k80; have f4 := t84; have f5 := t85; have f6 := t91; have f7 := a9_17 hJ (j := 3) rfl; have f8 := t83; have f9 := k87; have f10 := t93; have f11 := t95; have z0 : (0 : Int32).toInt = 0 := (by decide); have z2 : (2 : Int32).toInt = 2 := (by decide); omega)) dX9_doublesBy_61 (fun H locs σ96 eσ96 hP hS => ?_)
      have hJ97 : J9 (σ96 9) := hJ89.A eσ96 (show PA9 54 ((σ8 9).1 51).toInt.toNat x94 from (by have f0 := j9_51 hJ10 rfl; have f1 := b12; have f2 := t95; have f3 := b11; have f4 := k80; have f5 := t84; have f6 := t85; have f7 := t91; have f8 := t93; have f9 := a9_17 hJ (j := 3) rfl; have f10 := t83; have f11 := k87; have g2 := rg32 x94; have z0 : (0 : Int32).toInt = 0 := (by decide); have z2 : (2 : Int32).toInt = 2 := (by decide); exact ⟨by omega, by omega⟩))
      refine lv_aload_n hx hb dX9_doublesBy_62 rfl (lv_at hl 1 rfl) ?_
      refine lv_dup hx hb dX9_doublesBy_63 rfl ?_
      refine g9_51 (x := ((σ8 9).1 51)) hx hb hts hown hK hP ((((sA_f eσ96) 9 51 rfl).1).trans (((sA_f eσ88) 9 51 rfl).1)) (hts _ q1411) dX9_doublesBy_64 ?_
      refine lv_iconst (v := 1) hx hb dX9_doublesBy_67 (by decide) ?_
      refine lv_iadd hx hb dX9_doublesBy_68 ?_
      refine lv_topi (fun x98 ex98 => ?_)
      have t99 := addO ex98 (by have f0 := j9_51 hJ10 rfl; have f1 := b12; have f2 := b11; have f3 := k80; have f4 := t84; have f5 := t85; have f6 := t91; have f7 := a9_17 hJ (j := 3) rfl; have f8 := t83; have f9 := k87; have f10 := t93; have f11 := t95; have z0 : (0 : Int32).toInt = 0 := (by decide); have z1 : (1 : Int32).toInt = 1 := (by decide); have z2 : (2 : Int32).toInt = 2 := (by decide); omega)
      refine p9_51 hx hb hts hown hK hP hD hS (hts _ q1411) dX9_doublesBy_69 (fun H locs σ100 eσ100 hP hS => ?_)
      have hJ101 : J9 (σ100 9) := hJ97.I eσ100 (show JI9 51 x98 from (by have f0 := t99; have f1 := j9_51 hJ10 rfl; have f2 := b12; have f3 := b11; have f4 := k80; have f5 := t84; have f6 := t85; have f7 := t91; have f8 := a9_17 hJ (j := 3) rfl; have f9 := t83; have f10 := k87; have f11 := t93; have f12 := t95; have g2 := rg32 x98; have z0 : (0 : Int32).toInt = 0 := (by decide); have z1 : (1 : Int32).toInt = 1 := (by decide); have z2 : (2 : Int32).toInt = 2 := (by decide); exact ⟨by omega, by omega⟩))
      obtain ⟨x102, ex102⟩ : ∃ y : Int32, y = (y7.2.1 0) + 1 := ⟨_, rfl⟩
      have t103 := addO ex102 (by have f0 := b11; have f1 := b12; have f2 := k80; have f3 := t91; have f4 := j9_51 hJ10 rfl; have f5 := a9_17 hJ (j := 3) rfl; have f6 := t84; have f7 := t85; have f8 := t93; have f9 := t99; have f10 := t83; have f11 := k87; have f12 := t95; have g1 := rg32 (y7.2.1 0); have z0 : (0 : Int32).toInt = 0 := (by decide); have z1 : (1 : Int32).toInt = 1 := (by decide); have z2 : (2 : Int32).toInt = 2 := (by decide); omega)
      refine lv_iinc (v := x102) (lv' := [(3, .int x102), (0, .ref (g 60)), (1, .int p1), (2, .int p2)]) hx hb dX9_doublesBy_72 hl (k := 0) rfl (by rw [ex102]; rfl) (by decide) rfl (fun ls hl => ?_)
      refine lv_goto (tgt := 12) hx hb dX9_doublesBy_75 (by decide) ?_
      have t104 : ((10 : Int) - x102.toInt).toNat < ((10 : Int) - (y7.2.1 0).toInt).toNat := (by have f0 := b11; have f1 := b12; have f2 := k80; have f3 := t91; have f4 := t103; have f5 := j9_51 hJ10 rfl; have f6 := a9_17 hJ (j := 3) rfl; have f7 := t84; have f8 := t85; have f9 := t93; have f10 := t99; have f11 := t83; have f12 := k87; have f13 := t95; have g1 := rg32 (y7.2.1 0); have g3 := rg32 x102; have z0 : (0 : Int32).toInt = 0 := (by decide); have z1 : (1 : Int32).toInt = 1 := (by decide); have z2 : (2 : Int32).toInt = 2 := (by decide); omega)
      exact nl5 (σ100, lf [x102], lg []) ⟨Fr.tr (Fr.tr (Fr.tr (Fr.tr (Fr.rf) hF9 (fL_sub rfl)) (sA_f eσ88) (fN_L rfl)) (sA_f eσ96) (fN_L rfl)) (sI_f eσ100) (fN_L rfl), hJ101, (show (0 : Int) ≤ (x102 : Int32).toInt ∧ (x102 : Int32).toInt ≤ 9 from (by have f0 := t103; have f1 := b11; have f2 := b12; have f3 := k80; have f4 := t91; have f5 := j9_51 hJ10 rfl; have f6 := a9_17 hJ (j := 3) rfl; have f7 := t84; have f8 := t85; have f9 := t93; have f10 := t99; have f11 := t83; have f12 := k87; have f13 := t95; have g2 := rg32 x102; have z0 : (0 : Int32).toInt = 0 := (by decide); have z1 : (1 : Int32).toInt = 1 := (by decide); have z2 : (2 : Int32).toInt = 2 := (by decide); omega)), (show ((σ100 9).1 51).toInt = cl p1.toInt.toNat x102.toInt.toNat from (by have f0 := j9_51 hJ101 rfl; have f1 := congrArg Int32.toInt (show ((σ100 9).1 51) = x98 from sI_s eσ100); have f2 := b12; have f3 := t84; have f4 := t85; have f5 := t103; have f6 := j9_51 hJ10 rfl; have f7 := b11; have f8 := k80; have f9 := t83; have f10 := k87; have f11 := t91; have f12 := t99; have f13 := a9_17 hJ (j := 3) rfl; have f14 := t93; have f15 := t95; have g4 := rg32 x102; have z0 : (0 : Int32).toInt = 0 := (by decide); have z1 : (1 : Int32).toInt = 1 := (by decide); have z2 : (2 : Int32).toInt = 2 := (by decide); exact (by rw [show x102.toInt.toNat = (y7.2.1 0).toInt.toNat + 1 from by omega]; omega))), trivial⟩ (show ((10 : Int) - x102.toInt).toNat < _ from by first | exact t104 | (rw [← eσ8]; exact t104)) _ _ _ hP hS (lv_sub hl [0, 1, 2, 3] rfl)
    ·
      have k105 := peq32 c86
      refine lv_goto (tgt := 72) hx hb dX9_doublesBy_30 (by decide) ?_
      obtain ⟨x106, ex106⟩ : ∃ y : Int32, y = (y7.2.1 0) + 1 := ⟨_, rfl⟩
      have t107 := addO ex106 (by have f0 := b11; have f1 := b12; have f2 := k80; have f3 := j9_51 hJ10 rfl; have f4 := a9_17 hJ (j := 3) rfl; have f5 := t84; have f6 := t85; have f7 := t83; have f8 := k105; have g1 := rg32 (y7.2.1 0); have z0 : (0 : Int32).toInt = 0 := (by decide); have z1 : (1 : Int32).toInt = 1 := (by decide); omega)
      refine lv_iinc (v := x106) (lv' := [(3, .int x106), (0, .ref (g 60)), (1, .int p1), (2, .int p2)]) hx hb dX9_doublesBy_72 hl (k := 0) rfl (by rw [ex106]; rfl) (by decide) rfl (fun ls hl => ?_)
      refine lv_goto (tgt := 12) hx hb dX9_doublesBy_75 (by decide) ?_
      have t108 : ((10 : Int) - x106.toInt).toNat < ((10 : Int) - (y7.2.1 0).toInt).toNat := (by have f0 := b11; have f1 := b12; have f2 := k80; have f3 := t107; have f4 := j9_51 hJ10 rfl; have f5 := a9_17 hJ (j := 3) rfl; have f6 := t84; have f7 := t85; have f8 := t83; have f9 := k105; have g1 := rg32 (y7.2.1 0); have g3 := rg32 x106; have z0 : (0 : Int32).toInt = 0 := (by decide); have z1 : (1 : Int32).toInt = 1 := (by decide); omega)
      exact nl5 (σ8, lf [x106], lg []) ⟨Fr.tr (Fr.rf) hF9 (fL_sub rfl), hJ10, (show (0 : Int) ≤ (x106 : Int32).toInt ∧ (x106 : Int32).toInt ≤ 9 from (by have f0 := t107; have f1 := b11; have f2 := b12; have f3 := k80; have f4 := j9_51 hJ10 rfl; have f5 := a9_17 hJ (j := 3) rfl; have f6 := t84; have f7 := t85; have f8 := t83; have f9 := k105; have g2 := rg32 x106; have z0 : (0 : Int32).toInt = 0 := (by decide); have z1 : (1 : Int32).toInt = 1 := (by decide); omega)), (show ((σ8 9).1 51).toInt = cl p1.toInt.toNat x106.toInt.toNat from (by have f0 := j9_51 hJ10 rfl; have f1 := b12; have f2 := t84; have f3 := t85; have f4 := t107; have f5 := b11; have f6 := k80; have f7 := t83; have f8 := k105; have f9 := a9_17 hJ (j := 3) rfl; have g3 := rg32 x106; have z0 : (0 : Int32).toInt = 0 := (by decide); have z1 : (1 : Int32).toInt = 1 := (by decide); exact (by rw [show x106.toInt.toNat = (y7.2.1 0).toInt.toNat + 1 from by omega]; omega))), trivial⟩ (show ((10 : Int) - x106.toInt).toNat < _ from by first | exact t108 | (rw [← eσ8]; exact t108)) _ _ _ hP hS (lv_sub hl [0, 1, 2, 3] rfl)

theorem q1995 : Cond.code yX9_doubles cX9_doubles 4 (some .int) ∈ lw_g := lw_gm (List.mem_of_getElem? (i := 1995) (by decide +kernel)) rfl
theorem q1996 : Cond.methodLink RX9 494 yX9_areDoubles ∈ lw_g := lw_gm (List.mem_of_getElem? (i := 1996) (by decide +kernel)) rfl
theorem q1998 : Cond.instanceMethod yX9_areDoubles ∈ lw_g := lw_gm (List.mem_of_getElem? (i := 1998) (by decide +kernel)) rfl
theorem q111 : Cond.selects RX9 yX9_areDoubles yX9_areDoubles ∈ lw_g := lw_gm (List.mem_of_getElem? (i := 111) (by decide +kernel)) rfl
theorem q2000 : Cond.methodLink RX9 497 yX9_doublesBy ∈ lw_g := lw_gm (List.mem_of_getElem? (i := 2000) (by decide +kernel)) rfl
theorem q2002 : Cond.instanceMethod yX9_doublesBy ∈ lw_g := lw_gm (List.mem_of_getElem? (i := 2002) (by decide +kernel)) rfl
theorem q112 : Cond.selects RX9 yX9_doublesBy yX9_doublesBy ∈ lw_g := lw_gm (List.mem_of_getElem? (i := 112) (by decide +kernel)) rfl
theorem dX9_doubles_0 : decode cX9_doubles 0 = .ok (.aload_n 0, 1) := by decide +kernel
theorem dX9_doubles_1 : decode cX9_doubles 1 = .ok (.iconst 0, 1) := by decide +kernel
theorem dX9_doubles_2 : decode cX9_doubles 2 = .ok (.putfield 129, 3) := by decide +kernel
theorem dX9_doubles_5 : decode cX9_doubles 5 = .ok (.aload_n 0, 1) := by decide +kernel
theorem dX9_doubles_6 : decode cX9_doubles 6 = .ok (.iload_n 1, 1) := by decide +kernel
theorem dX9_doubles_7 : decode cX9_doubles 7 = .ok (.iload_n 2, 1) := by decide +kernel
theorem dX9_doubles_8 : decode cX9_doubles 8 = .ok (.invokevirtual 494, 3) := by decide +kernel
theorem dX9_doubles_11 : decode cX9_doubles 11 = .ok (.ifCond .ne 6, 3) := by decide +kernel
theorem dX9_doubles_14 : decode cX9_doubles 14 = .ok (.bipush (-2), 2) := by decide +kernel
theorem dX9_doubles_16 : decode cX9_doubles 16 = .ok (.ireturn, 1) := by decide +kernel
theorem dX9_doubles_17 : decode cX9_doubles 17 = .ok (.aload_n 0, 1) := by decide +kernel
theorem dX9_doubles_18 : decode cX9_doubles 18 = .ok (.iload_n 1, 1) := by decide +kernel
theorem dX9_doubles_19 : decode cX9_doubles 19 = .ok (.iload_n 2, 1) := by decide +kernel
theorem dX9_doubles_20 : decode cX9_doubles 20 = .ok (.invokevirtual 497, 3) := by decide +kernel
theorem dX9_doubles_23 : decode cX9_doubles 23 = .ok (.istore_n 3, 1) := by decide +kernel
theorem dX9_doubles_24 : decode cX9_doubles 24 = .ok (.iload_n 3, 1) := by decide +kernel
theorem dX9_doubles_25 : decode cX9_doubles 25 = .ok (.bipush 99, 2) := by decide +kernel
theorem dX9_doubles_27 : decode cX9_doubles 27 = .ok (.if_icmp .lt 7, 3) := by decide +kernel
theorem dX9_doubles_30 : decode cX9_doubles 30 = .ok (.iconst (-1), 1) := by decide +kernel
theorem dX9_doubles_31 : decode cX9_doubles 31 = .ok (.goto 4, 3) := by decide +kernel
theorem dX9_doubles_34 : decode cX9_doubles 34 = .ok (.iload_n 3, 1) := by decide +kernel
theorem dX9_doubles_35 : decode cX9_doubles 35 = .ok (.ireturn, 1) := by decide +kernel
set_option maxHeartbeats 4000000 in
set_option maxRecDepth 100000 in
theorem m_X9_doubles (l : Launch) (D : va_G) (cy : Nat → ClassId) (g : Nat → Nat) (σ : ST) (p1 : Int32) (p2 : Int32) (sz : Nat) (hJ : J9 (σ 9))  : Met l yX9_doubles (ww yX9_doubles cX9_doubles 4 (some .int)) ({ frames := 5, cells := 0, slots := 0, locals := 320 }) (va_Pc [.ref (g 60), .int p1, .int p2] (pr9 D cy g σ sz)) (qi9 D cy g sz (fun r τ => Fr (fL [0, 50, 51, 52, 53, 54]) σ τ ∧ J9 (τ 9) ∧ True)) 0 0 (A9 cy g sz) := by
  refine Met.ofW (cc := cX9_doubles) (maxL := 4) (ret := (some .int)) (by decide) rfl ?_
  intro p e s m args below meth c s₁ B hml hv
  obtain ⟨rfl, hsz, hP, hK, hD0, hC⟩ := hv
  have hx := B.exec
  have hb := B.bytes
  have hr := B.returns
  have hts := hts_g (atoms_spec (ws := ww yX9_doubles cX9_doubles 4 (some .int)) B.pre)
  have hown : s.vm.findClass RX9 = some m.cls := findClass_of_methodNamed B.named
  have hlocks := B.notSynchronized
  clear B
  subst hsz
  have hD := fun τ => A9_D (sz := s.heap.size) hD0 τ
  clear hD0
  have hS : va_S (A9 cy g s.heap.size) s.heap s.heap [] := va_S.rf
  have hl := lv_entry ([.ref (g 60), .int p1, .int p2]) (n := 4) (Nat.le_of_ble_eq_true rfl)
  rw [lg_entry_eq]
  generalize (lg_sl ([.ref (g 60), .int p1, .int p2]) ++ List.replicate (4 - (lg_sl ([.ref (g 60), .int p1, .int p2])).length) Slot.unset).toArray = ls at hl ⊢
  have hl : lv_has ls 4 [(0, .ref (g 60)), (1, .int p1), (2, .int p2)] := hl
  refine lv_aload_n hx hb dX9_doubles_0 rfl (lv_at hl 0 rfl) ?_
  refine lv_iconst (v := 0) hx hb dX9_doubles_1 (by decide) ?_
  refine p9_0 hx hb hts hown hK hP hD hS (hts _ q1360) dX9_doubles_2 (fun H locs σ1 eσ1 hP hS => ?_)
  have hJ2 : J9 (σ1 9) := hJ.I eσ1 (show JI9 0 (0 : Int32) from trivial)
  refine lv_aload_n hx hb dX9_doubles_5 rfl (lv_at hl 0 rfl) ?_
  refine lv_iload_n hx hb dX9_doubles_6 rfl (lv_at hl 1 rfl) ?_
  refine lv_iload_n hx hb dX9_doubles_7 rfl (lv_at hl 2 rfl) ?_
  refine va_calli (va_runV (As := [.int p1, .int p2]) (rest := []) ⟨hx, hb, hml, hown, hts⟩ (m_X9_areDoubles l D cy g σ1 p1 p2 _ hJ2 ) (cwV 2 hts (gd_V q1996 q1998 q111 q134 q1999) rfl rfl rfl (by decide +kernel) ⟨Nat.le_of_ble_eq_true rfl, Nat.le_of_ble_eq_true rfl⟩) (pv9 hP hK hD hC hS (va_recv hK hP (ci := 9) (q0 := 0) rfl rfl)) rfl rfl hl.1 rfl (lv_room (Nat.le_of_ble_eq_true rfl)) dX9_doubles_8 ⟨Nat.le_of_ble_eq_true rfl, Nat.le_of_ble_eq_true rfl⟩) hS (fun q _ h => up9 hS q h) (up9 hS) (fun r3 σ4 tS H1 locs ht hvm hw5 hB hz1 hk1 hS => ?_)
  have hP : va_P D clz (WD9 cy g σ4) H1 := by rw [← ht]; exact hB
  clear hB hz1 hk1 hvm ht
  generalize H1 = H at hP hS ⊢
  have hw5E : σ1 = σ4 := (hw5.1).symm
  subst hw5E
  have b6 : (0 : Int) ≤ r3.toInt ∧ r3.toInt ≤ 1 := hw5.2.1
  have b7 : (r3.toInt = 0) ∨ ((1 : Int) ≤ p1.toInt ∧ p1.toInt ≤ 511 ∧ (0 : Int) ≤ p2.toInt ∧ p2.toInt ≤ 2) := hw5.2.2.1
  have b8 : (r3.toInt = 0) ∨ ((bitT p1).toInt ≤ 3) := hw5.2.2.2.1
  refine lv_if_ne (tgt := 17) hx hb dX9_doubles_11 (by decide) (fun c9 => ?_) (fun c9 => ?_)
  ·
    have k10 := neq32 c9
    refine lv_aload_n hx hb dX9_doubles_17 rfl (lv_at hl 0 rfl) ?_
    refine lv_iload_n hx hb dX9_doubles_18 rfl (lv_at hl 1 rfl) ?_
    refine lv_iload_n hx hb dX9_doubles_19 rfl (lv_at hl 2 rfl) ?_
    refine va_calli (va_runV (As := [.int p1, .int p2]) (rest := []) ⟨hx, hb, hml, hown, hts⟩ (m_X9_doublesBy l D cy g σ1 p1 p2 _ hJ2 (show (1 : Int) ≤ p1.toInt ∧ p1.toInt ≤ 511 from (by have f0 := b7; have f1 := b8; have f2 := b6; have f3 := k10; have g1 := rg32 p1; have z0 : (0 : Int32).toInt = 0 := (by decide); omega)) (show (0 : Int) ≤ p2.toInt ∧ p2.toInt ≤ 2 from (by have f0 := b7; have f1 := b8; have f2 := b6; have f3 := k10; have g1 := rg32 p1; have g2 := rg32 p2; have z0 : (0 : Int32).toInt = 0 := (by decide); omega)) (show (bitT p1).toInt ≤ 3 from (by have f0 := b7; have f1 := b8; have f2 := b6; have f3 := k10; have g1 := rg32 p1; have z0 : (0 : Int32).toInt = 0 := (by decide); omega))) (cwV 2 hts (gd_V q2000 q2002 q112 q134 q2003) rfl rfl rfl (by decide +kernel) ⟨Nat.le_of_ble_eq_true rfl, Nat.le_of_ble_eq_true rfl⟩) (pv9 hP hK hD hC hS (va_recv hK hP (ci := 9) (q0 := 0) rfl rfl)) rfl rfl hl.1 rfl (lv_room (Nat.le_of_ble_eq_true rfl)) dX9_doubles_20 ⟨Nat.le_of_ble_eq_true rfl, Nat.le_of_ble_eq_true rfl⟩) hS (fun q _ h => up9 hS q h) (up9 hS) (fun r11 σ12 tS H1 locs ht hvm hw13 hB hz1 hk1 hS => ?_)
    have hP : va_P D clz (WD9 cy g σ12) H1 := by rw [← ht]; exact hB
    clear hB hz1 hk1 hvm ht
    generalize H1 = H at hP hS ⊢
    have hF14 : Fr (fL [50, 51, 52, 53, 54]) σ1 σ12 := hw13.1
    have hJ15 : J9 (σ12 9) := hw13.2.1
    refine lv_istore_n (lv' := [(3, .int r11), (0, .ref (g 60)), (1, .int p1), (2, .int p2)]) hx hb dX9_doubles_23 rfl hl (by decide) rfl (fun ls hl => ?_)
    refine lv_iload_n hx hb dX9_doubles_24 rfl (lv_at hl 0 rfl) ?_
    refine lv_bipush (v := 99) hx hb dX9_doubles_25 (by decide) ?_
    refine lv_icmp_lt (tgt := 34) hx hb dX9_doubles_27 (by decide) (fun c16 => ?_) (fun c16 => ?_)
    ·
      have k17 := plt32 c16
      refine lv_iload_n hx hb dX9_doubles_34 rfl (lv_at hl 0 rfl) ?_
      exact W.iret (v := r11) hx hb hr (fun tS ht hW => ⟨⟨r11, σ12, rfl, ⟨Fr.tr (Fr.tr (Fr.rf) (sI_f eσ1) (fN_L rfl)) hF14 (fL_sub rfl), hJ15, trivial⟩, (show va_P D clz (WD9 cy g σ12) tS.heap by rw [ht]; exact hP)⟩, hS.F ht⟩) hS.2.2 dX9_doubles_35
    ·
      have k18 := nlt32 c16
      refine lv_iconst (v := (-1)) hx hb dX9_doubles_30 (by decide) ?_
      refine lv_goto (tgt := 35) hx hb dX9_doubles_31 (by decide) ?_
      exact W.iret (v := (-1)) hx hb hr (fun tS ht hW => ⟨⟨(-1), σ12, rfl, ⟨Fr.tr (Fr.tr (Fr.rf) (sI_f eσ1) (fN_L rfl)) hF14 (fL_sub rfl), hJ15, trivial⟩, (show va_P D clz (WD9 cy g σ12) tS.heap by rw [ht]; exact hP)⟩, hS.F ht⟩) hS.2.2 dX9_doubles_35
  ·
    have k19 := peq32 c9
    refine lv_bipush (v := (-2)) hx hb dX9_doubles_14 (by decide) ?_
    exact W.iret (v := (-2)) hx hb hr (fun tS ht hW => ⟨⟨(-2), σ1, rfl, ⟨Fr.tr (Fr.rf) (sI_f eσ1) (fN_L rfl), hJ2, trivial⟩, (show va_P D clz (WD9 cy g σ1) tS.heap by rw [ht]; exact hP)⟩, hS.F ht⟩) hS.2.2 dX9_doubles_16

theorem q2019 : Cond.code yX9_leaves cX9_leaves 10 (some .int) ∈ lw_g := lw_gm (List.mem_of_getElem? (i := 2019) (by decide +kernel)) rfl
theorem dX9_leaves_0 : decode cX9_leaves 0 = .ok (.aload_n 0, 1) := by decide +kernel
theorem dX9_leaves_1 : decode cX9_leaves 1 = .ok (.iconst 0, 1) := by decide +kernel
theorem dX9_leaves_2 : decode cX9_leaves 2 = .ok (.putfield 129, 3) := by decide +kernel
theorem dX9_leaves_5 : decode cX9_leaves 5 = .ok (.aload_n 0, 1) := by decide +kernel
theorem dX9_leaves_6 : decode cX9_leaves 6 = .ok (.iload_n 1, 1) := by decide +kernel
theorem dX9_leaves_7 : decode cX9_leaves 7 = .ok (.iload_n 2, 1) := by decide +kernel
theorem dX9_leaves_8 : decode cX9_leaves 8 = .ok (.invokevirtual 494, 3) := by decide +kernel
theorem dX9_leaves_11 : decode cX9_leaves 11 = .ok (.ifCond .ne 6, 3) := by decide +kernel
theorem dX9_leaves_14 : decode cX9_leaves 14 = .ok (.bipush (-2), 2) := by decide +kernel
theorem dX9_leaves_16 : decode cX9_leaves 16 = .ok (.ireturn, 1) := by decide +kernel
theorem dX9_leaves_17 : decode cX9_leaves 17 = .ok (.aload_n 0, 1) := by decide +kernel
theorem dX9_leaves_18 : decode cX9_leaves 18 = .ok (.iload_n 1, 1) := by decide +kernel
theorem dX9_leaves_19 : decode cX9_leaves 19 = .ok (.iload_n 2, 1) := by decide +kernel
theorem dX9_leaves_20 : decode cX9_leaves 20 = .ok (.invokevirtual 497, 3) := by decide +kernel
theorem dX9_leaves_23 : decode cX9_leaves 23 = .ok (.bipush 99, 2) := by decide +kernel
theorem dX9_leaves_25 : decode cX9_leaves 25 = .ok (.if_icmp .ge 21, 3) := by decide +kernel
theorem dX9_leaves_28 : decode cX9_leaves 28 = .ok (.iload_n 3, 1) := by decide +kernel
theorem dX9_leaves_29 : decode cX9_leaves 29 = .ok (.i2l, 1) := by decide +kernel
theorem dX9_leaves_30 : decode cX9_leaves 30 = .ok (.lconst 0, 1) := by decide +kernel
theorem dX9_leaves_31 : decode cX9_leaves 31 = .ok (.aload_n 0, 1) := by decide +kernel
theorem dX9_leaves_32 : decode cX9_leaves 32 = .ok (.getfield 43, 3) := by decide +kernel
theorem dX9_leaves_35 : decode cX9_leaves 35 = .ok (.iload_n 2, 1) := by decide +kernel
theorem dX9_leaves_36 : decode cX9_leaves 36 = .ok (.iaload, 1) := by decide +kernel
theorem dX9_leaves_37 : decode cX9_leaves 37 = .ok (.iconst 1, 1) := by decide +kernel
theorem dX9_leaves_38 : decode cX9_leaves 38 = .ok (.isub, 1) := by decide +kernel
theorem dX9_leaves_39 : decode cX9_leaves 39 = .ok (.i2l, 1) := by decide +kernel
theorem dX9_leaves_40 : decode cX9_leaves 40 = .ok (.invokestatic 134, 3) := by decide +kernel
theorem dX9_leaves_43 : decode cX9_leaves 43 = .ok (.ifCond .ne 5, 3) := by decide +kernel
theorem dX9_leaves_46 : decode cX9_leaves 46 = .ok (.iconst (-1), 1) := by decide +kernel
theorem dX9_leaves_47 : decode cX9_leaves 47 = .ok (.ireturn, 1) := by decide +kernel
theorem dX9_leaves_48 : decode cX9_leaves 48 = .ok (.iconst 0, 1) := by decide +kernel
theorem dX9_leaves_49 : decode cX9_leaves 49 = .ok (.istore 4, 2) := by decide +kernel
theorem dX9_leaves_51 : decode cX9_leaves 51 = .ok (.iconst (-1), 1) := by decide +kernel
theorem dX9_leaves_52 : decode cX9_leaves 52 = .ok (.istore 5, 2) := by decide +kernel
theorem dX9_leaves_54 : decode cX9_leaves 54 = .ok (.iconst 0, 1) := by decide +kernel
theorem dX9_leaves_55 : decode cX9_leaves 55 = .ok (.istore 6, 2) := by decide +kernel
theorem dX9_leaves_57 : decode cX9_leaves 57 = .ok (.iload 6, 2) := by decide +kernel
theorem dX9_leaves_59 : decode cX9_leaves 59 = .ok (.iload_n 3, 1) := by decide +kernel
theorem dX9_leaves_60 : decode cX9_leaves 60 = .ok (.if_icmp .gt 162, 3) := by decide +kernel
theorem dX9_leaves_63 : decode cX9_leaves 63 = .ok (.iconst (-1), 1) := by decide +kernel
theorem dX9_leaves_64 : decode cX9_leaves 64 = .ok (.istore 5, 2) := by decide +kernel
theorem dX9_leaves_66 : decode cX9_leaves 66 = .ok (.aload_n 0, 1) := by decide +kernel
theorem dX9_leaves_67 : decode cX9_leaves 67 = .ok (.iload_n 2, 1) := by decide +kernel
theorem dX9_leaves_68 : decode cX9_leaves 68 = .ok (.iload 6, 2) := by decide +kernel
theorem dX9_leaves_70 : decode cX9_leaves 70 = .ok (.invokevirtual 390, 3) := by decide +kernel
theorem dX9_leaves_73 : decode cX9_leaves 73 = .ok (.ifCond .eq 9, 3) := by decide +kernel
theorem dX9_leaves_76 : decode cX9_leaves 76 = .ok (.iconst 0, 1) := by decide +kernel
theorem dX9_leaves_77 : decode cX9_leaves 77 = .ok (.istore 4, 2) := by decide +kernel
theorem dX9_leaves_79 : decode cX9_leaves 79 = .ok (.goto 137, 3) := by decide +kernel
theorem dX9_leaves_82 : decode cX9_leaves 82 = .ok (.iconst 0, 1) := by decide +kernel
theorem dX9_leaves_83 : decode cX9_leaves 83 = .ok (.istore 7, 2) := by decide +kernel
theorem dX9_leaves_85 : decode cX9_leaves 85 = .ok (.iconst (-1), 1) := by decide +kernel
theorem dX9_leaves_86 : decode cX9_leaves 86 = .ok (.istore 8, 2) := by decide +kernel
theorem dX9_leaves_88 : decode cX9_leaves 88 = .ok (.iload 8, 2) := by decide +kernel
theorem dX9_leaves_90 : decode cX9_leaves 90 = .ok (.aload_n 0, 1) := by decide +kernel
theorem dX9_leaves_91 : decode cX9_leaves 91 = .ok (.getfield 479, 3) := by decide +kernel
theorem dX9_leaves_94 : decode cX9_leaves 94 = .ok (.if_icmp .ge 104, 3) := by decide +kernel
theorem dX9_leaves_97 : decode cX9_leaves 97 = .ok (.iload 7, 2) := by decide +kernel
theorem dX9_leaves_99 : decode cX9_leaves 99 = .ok (.ifCond .ne 99, 3) := by decide +kernel
theorem dX9_leaves_102 : decode cX9_leaves 102 = .ok (.aload_n 0, 1) := by decide +kernel
theorem dX9_leaves_103 : decode cX9_leaves 103 = .ok (.iload 4, 2) := by decide +kernel
theorem dX9_leaves_105 : decode cX9_leaves 105 = .ok (.aload_n 0, 1) := by decide +kernel
theorem dX9_leaves_106 : decode cX9_leaves 106 = .ok (.iload_n 2, 1) := by decide +kernel
theorem dX9_leaves_107 : decode cX9_leaves 107 = .ok (.iload 6, 2) := by decide +kernel
theorem dX9_leaves_109 : decode cX9_leaves 109 = .ok (.iconst 1, 1) := by decide +kernel
theorem dX9_leaves_110 : decode cX9_leaves 110 = .ok (.invokevirtual 308, 3) := by decide +kernel
theorem dX9_leaves_113 : decode cX9_leaves 113 = .ok (.iload 8, 2) := by decide +kernel
theorem dX9_leaves_115 : decode cX9_leaves 115 = .ok (.invokevirtual 485, 3) := by decide +kernel
theorem dX9_leaves_118 : decode cX9_leaves 118 = .ok (.istore 9, 2) := by decide +kernel
theorem dX9_leaves_120 : decode cX9_leaves 120 = .ok (.iload 9, 2) := by decide +kernel
theorem dX9_leaves_122 : decode cX9_leaves 122 = .ok (.iconst (-1), 1) := by decide +kernel
theorem dX9_leaves_123 : decode cX9_leaves 123 = .ok (.if_icmp .eq 52, 3) := by decide +kernel
theorem dX9_leaves_126 : decode cX9_leaves 126 = .ok (.aload_n 0, 1) := by decide +kernel
theorem dX9_leaves_127 : decode cX9_leaves 127 = .ok (.getfield 111, 3) := by decide +kernel
theorem dX9_leaves_130 : decode cX9_leaves 130 = .ok (.sipush 29791, 3) := by decide +kernel
theorem dX9_leaves_133 : decode cX9_leaves 133 = .ok (.iload 6, 2) := by decide +kernel
theorem dX9_leaves_135 : decode cX9_leaves 135 = .ok (.iconst 1, 1) := by decide +kernel
theorem dX9_leaves_136 : decode cX9_leaves 136 = .ok (.iadd, 1) := by decide +kernel
theorem dX9_leaves_137 : decode cX9_leaves 137 = .ok (.imul, 1) := by decide +kernel
theorem dX9_leaves_138 : decode cX9_leaves 138 = .ok (.iload 9, 2) := by decide +kernel
theorem dX9_leaves_140 : decode cX9_leaves 140 = .ok (.iadd, 1) := by decide +kernel
theorem dX9_leaves_141 : decode cX9_leaves 141 = .ok (.baload, 1) := by decide +kernel
theorem dX9_leaves_142 : decode cX9_leaves 142 = .ok (.iload 8, 2) := by decide +kernel
theorem dX9_leaves_144 : decode cX9_leaves 144 = .ok (.iconst (-1), 1) := by decide +kernel
theorem dX9_leaves_145 : decode cX9_leaves 145 = .ok (.if_icmp .ne 7, 3) := by decide +kernel
theorem dX9_leaves_148 : decode cX9_leaves 148 = .ok (.iconst 0, 1) := by decide +kernel
theorem dX9_leaves_149 : decode cX9_leaves 149 = .ok (.goto 4, 3) := by decide +kernel
theorem dX9_leaves_152 : decode cX9_leaves 152 = .ok (.iconst 1, 1) := by decide +kernel
theorem dX9_leaves_153 : decode cX9_leaves 153 = .ok (.iadd, 1) := by decide +kernel
theorem dX9_leaves_154 : decode cX9_leaves 154 = .ok (.aload_n 0, 1) := by decide +kernel
theorem dX9_leaves_155 : decode cX9_leaves 155 = .ok (.getfield 111, 3) := by decide +kernel
theorem dX9_leaves_158 : decode cX9_leaves 158 = .ok (.sipush 29791, 3) := by decide +kernel
theorem dX9_leaves_161 : decode cX9_leaves 161 = .ok (.iload 6, 2) := by decide +kernel
theorem dX9_leaves_163 : decode cX9_leaves 163 = .ok (.imul, 1) := by decide +kernel
theorem dX9_leaves_164 : decode cX9_leaves 164 = .ok (.iload 4, 2) := by decide +kernel
theorem dX9_leaves_166 : decode cX9_leaves 166 = .ok (.iadd, 1) := by decide +kernel
theorem dX9_leaves_167 : decode cX9_leaves 167 = .ok (.baload, 1) := by decide +kernel
theorem dX9_leaves_168 : decode cX9_leaves 168 = .ok (.if_icmp .ne 7, 3) := by decide +kernel
theorem dX9_leaves_171 : decode cX9_leaves 171 = .ok (.iconst 1, 1) := by decide +kernel
theorem dX9_leaves_172 : decode cX9_leaves 172 = .ok (.goto 4, 3) := by decide +kernel
theorem dX9_leaves_175 : decode cX9_leaves 175 = .ok (.iconst 0, 1) := by decide +kernel
theorem dX9_leaves_176 : decode cX9_leaves 176 = .ok (.istore 7, 2) := by decide +kernel
theorem dX9_leaves_178 : decode cX9_leaves 178 = .ok (.iload 7, 2) := by decide +kernel
theorem dX9_leaves_180 : decode cX9_leaves 180 = .ok (.ifCond .eq 8, 3) := by decide +kernel
theorem dX9_leaves_183 : decode cX9_leaves 183 = .ok (.iload 8, 2) := by decide +kernel
theorem dX9_leaves_185 : decode cX9_leaves 185 = .ok (.goto 5, 3) := by decide +kernel
theorem dX9_leaves_188 : decode cX9_leaves 188 = .ok (.iload 5, 2) := by decide +kernel
theorem dX9_leaves_190 : decode cX9_leaves 190 = .ok (.istore 5, 2) := by decide +kernel
theorem dX9_leaves_192 : decode cX9_leaves 192 = .ok (.iinc 8 1, 3) := by decide +kernel
theorem dX9_leaves_195 : decode cX9_leaves 195 = .ok (.goto (-107), 3) := by decide +kernel
theorem dX9_leaves_198 : decode cX9_leaves 198 = .ok (.aload_n 0, 1) := by decide +kernel
theorem dX9_leaves_199 : decode cX9_leaves 199 = .ok (.iload 4, 2) := by decide +kernel
theorem dX9_leaves_201 : decode cX9_leaves 201 = .ok (.aload_n 0, 1) := by decide +kernel
theorem dX9_leaves_202 : decode cX9_leaves 202 = .ok (.iload_n 2, 1) := by decide +kernel
theorem dX9_leaves_203 : decode cX9_leaves 203 = .ok (.iload 6, 2) := by decide +kernel
theorem dX9_leaves_205 : decode cX9_leaves 205 = .ok (.iconst 1, 1) := by decide +kernel
theorem dX9_leaves_206 : decode cX9_leaves 206 = .ok (.invokevirtual 308, 3) := by decide +kernel
theorem dX9_leaves_209 : decode cX9_leaves 209 = .ok (.iload 5, 2) := by decide +kernel
theorem dX9_leaves_211 : decode cX9_leaves 211 = .ok (.invokevirtual 485, 3) := by decide +kernel
theorem dX9_leaves_214 : decode cX9_leaves 214 = .ok (.istore 4, 2) := by decide +kernel
theorem dX9_leaves_216 : decode cX9_leaves 216 = .ok (.iinc 6 1, 3) := by decide +kernel
theorem dX9_leaves_219 : decode cX9_leaves 219 = .ok (.goto (-162), 3) := by decide +kernel
theorem dX9_leaves_222 : decode cX9_leaves 222 = .ok (.iload 5, 2) := by decide +kernel
theorem dX9_leaves_224 : decode cX9_leaves 224 = .ok (.iconst (-1), 1) := by decide +kernel
theorem dX9_leaves_225 : decode cX9_leaves 225 = .ok (.if_icmp .ne 7, 3) := by decide +kernel
theorem dX9_leaves_228 : decode cX9_leaves 228 = .ok (.iconst (-1), 1) := by decide +kernel
theorem dX9_leaves_229 : decode cX9_leaves 229 = .ok (.goto 10, 3) := by decide +kernel
theorem dX9_leaves_232 : decode cX9_leaves 232 = .ok (.aload_n 0, 1) := by decide +kernel
theorem dX9_leaves_233 : decode cX9_leaves 233 = .ok (.getfield 114, 3) := by decide +kernel
theorem dX9_leaves_236 : decode cX9_leaves 236 = .ok (.iload 5, 2) := by decide +kernel
theorem dX9_leaves_238 : decode cX9_leaves 238 = .ok (.iaload, 1) := by decide +kernel
theorem dX9_leaves_239 : decode cX9_leaves 239 = .ok (.ireturn, 1) := by decide +kernel
set_option maxHeartbeats 4000000 in
set_option maxRecDepth 100000 in
theorem m_X9_leaves (l : Launch) (D : va_G) (cy : Nat → ClassId) (g : Nat → Nat) (σ : ST) (p1 : Int32) (p2 : Int32) (p3 : Int32) (sz : Nat) (hJ : J9 (σ 9))  : Met l yX9_leaves (ww yX9_leaves cX9_leaves 10 (some .int)) ({ frames := 5, cells := 0, slots := 0, locals := 320 }) (va_Pc [.ref (g 60), .int p1, .int p2, .int p3] (pr9 D cy g σ sz)) (qi9 D cy g sz (fun r τ => Fr (fL [0, 50, 51, 52, 53, 54]) σ τ ∧ J9 (τ 9) ∧ True)) 0 0 (A9 cy g sz) := by
  refine Met.ofW (cc := cX9_leaves) (maxL := 10) (ret := (some .int)) (by decide) rfl ?_
  intro p e s m args below meth c s₁ B hml hv
  obtain ⟨rfl, hsz, hP, hK, hD0, hC⟩ := hv
  have hx := B.exec
  have hb := B.bytes
  have hr := B.returns
  have hts := hts_g (atoms_spec (ws := ww yX9_leaves cX9_leaves 10 (some .int)) B.pre)
  have hown : s.vm.findClass RX9 = some m.cls := findClass_of_methodNamed B.named
  have hlocks := B.notSynchronized
  clear B
  subst hsz
  have hD := fun τ => A9_D (sz := s.heap.size) hD0 τ
  clear hD0
  have hS : va_S (A9 cy g s.heap.size) s.heap s.heap [] := va_S.rf
  have hl := lv_entry ([.ref (g 60), .int p1, .int p2, .int p3]) (n := 10) (Nat.le_of_ble_eq_true rfl)
  rw [lg_entry_eq]
  generalize (lg_sl ([.ref (g 60), .int p1, .int p2, .int p3]) ++ List.replicate (10 - (lg_sl ([.ref (g 60), .int p1, .int p2, .int p3])).length) Slot.unset).toArray = ls at hl ⊢
  have hl : lv_has ls 10 [(0, .ref (g 60)), (1, .int p1), (2, .int p2), (3, .int p3)] := hl
  refine lv_aload_n hx hb dX9_leaves_0 rfl (lv_at hl 0 rfl) ?_
  refine lv_iconst (v := 0) hx hb dX9_leaves_1 (by decide) ?_
  refine p9_0 hx hb hts hown hK hP hD hS (hts _ q1360) dX9_leaves_2 (fun H locs σ1 eσ1 hP hS => ?_)
  have hJ2 : J9 (σ1 9) := hJ.I eσ1 (show JI9 0 (0 : Int32) from trivial)
  refine lv_aload_n hx hb dX9_leaves_5 rfl (lv_at hl 0 rfl) ?_
  refine lv_iload_n hx hb dX9_leaves_6 rfl (lv_at hl 1 rfl) ?_
  refine lv_iload_n hx hb dX9_leaves_7 rfl (lv_at hl 2 rfl) ?_
  refine va_calli (va_runV (As := [.int p1, .int p2]) (rest := []) ⟨hx, hb, hml, hown, hts⟩ (m_X9_areDoubles l D cy g σ1 p1 p2 _ hJ2 ) (cwV 2 hts (gd_V q1996 q1998 q111 q134 q1999) rfl rfl rfl (by decide +kernel) ⟨Nat.le_of_ble_eq_true rfl, Nat.le_of_ble_eq_true rfl⟩) (pv9 hP hK hD hC hS (va_recv hK hP (ci := 9) (q0 := 0) rfl rfl)) rfl rfl hl.1 rfl (lv_room (Nat.le_of_ble_eq_true rfl)) dX9_leaves_8 ⟨Nat.le_of_ble_eq_true rfl, Nat.le_of_ble_eq_true rfl⟩) hS (fun q _ h => up9 hS q h) (up9 hS) (fun r3 σ4 tS H1 locs ht hvm hw5 hB hz1 hk1 hS => ?_)
  have hP : va_P D clz (WD9 cy g σ4) H1 := by rw [← ht]; exact hB
  clear hB hz1 hk1 hvm ht
  generalize H1 = H at hP hS ⊢
  have hw5E : σ1 = σ4 := (hw5.1).symm
  subst hw5E
  have b6 : (0 : Int) ≤ r3.toInt ∧ r3.toInt ≤ 1 := hw5.2.1
  have b7 : (r3.toInt = 0) ∨ ((1 : Int) ≤ p1.toInt ∧ p1.toInt ≤ 511 ∧ (0 : Int) ≤ p2.toInt ∧ p2.toInt ≤ 2) := hw5.2.2.1
  have b8 : (r3.toInt = 0) ∨ ((bitT p1).toInt ≤ 3) := hw5.2.2.2.1
  refine lv_if_ne (tgt := 17) hx hb dX9_leaves_11 (by decide) (fun c9 => ?_) (fun c9 => ?_)
  ·
    have k10 := neq32 c9
    refine lv_aload_n hx hb dX9_leaves_17 rfl (lv_at hl 0 rfl) ?_
    refine lv_iload_n hx hb dX9_leaves_18 rfl (lv_at hl 1 rfl) ?_
    refine lv_iload_n hx hb dX9_leaves_19 rfl (lv_at hl 2 rfl) ?_
    refine va_calli (va_runV (As := [.int p1, .int p2]) (rest := []) ⟨hx, hb, hml, hown, hts⟩ (m_X9_doublesBy l D cy g σ1 p1 p2 _ hJ2 (show (1 : Int) ≤ p1.toInt ∧ p1.toInt ≤ 511 from (by have f0 := b7; have f1 := b8; have f2 := b6; have f3 := k10; have g1 := rg32 p1; have z0 : (0 : Int32).toInt = 0 := (by decide); omega)) (show (0 : Int) ≤ p2.toInt ∧ p2.toInt ≤ 2 from (by have f0 := b7; have f1 := b8; have f2 := b6; have f3 := k10; have g1 := rg32 p1; have g2 := rg32 p2; have z0 : (0 : Int32).toInt = 0 := (by decide); omega)) (show (bitT p1).toInt ≤ 3 from (by have f0 := b7; have f1 := b8; have f2 := b6; have f3 := k10; have g1 := rg32 p1; have z0 : (0 : Int32).toInt = 0 := (by decide); omega))) (cwV 2 hts (gd_V q2000 q2002 q112 q134 q2003) rfl rfl rfl (by decide +kernel) ⟨Nat.le_of_ble_eq_true rfl, Nat.le_of_ble_eq_true rfl⟩) (pv9 hP hK hD hC hS (va_recv hK hP (ci := 9) (q0 := 0) rfl rfl)) rfl rfl hl.1 rfl (lv_room (Nat.le_of_ble_eq_true rfl)) dX9_leaves_20 ⟨Nat.le_of_ble_eq_true rfl, Nat.le_of_ble_eq_true rfl⟩) hS (fun q _ h => up9 hS q h) (up9 hS) (fun r11 σ12 tS H1 locs ht hvm hw13 hB hz1 hk1 hS => ?_)
    have hP : va_P D clz (WD9 cy g σ12) H1 := by rw [← ht]; exact hB
    clear hB hz1 hk1 hvm ht
    generalize H1 = H at hP hS ⊢
    have hF14 : Fr (fL [50, 51, 52, 53, 54]) σ1 σ12 := hw13.1
    have hJ15 : J9 (σ12 9) := hw13.2.1
    refine lv_bipush (v := 99) hx hb dX9_leaves_23 (by decide) ?_
    refine lv_icmp_ge (tgt := 46) hx hb dX9_leaves_25 (by decide) (fun c16 => ?_) (fun c16 => ?_)
    ·
      have k17 := ple32 c16
      refine lv_iconst (v := (-1)) hx hb dX9_leaves_46 (by decide) ?_
      exact W.iret (v := (-1)) hx hb hr (fun tS ht hW => ⟨⟨(-1), σ12, rfl, ⟨Fr.tr (Fr.tr (Fr.rf) (sI_f eσ1) (fN_L rfl)) hF14 (fL_sub rfl), hJ15, trivial⟩, (show va_P D clz (WD9 cy g σ12) tS.heap by rw [ht]; exact hP)⟩, hS.F ht⟩) hS.2.2 dX9_leaves_47
    ·
      have k18 := nle32 c16
      refine lv_iload_n hx hb dX9_leaves_28 rfl (lv_at hl 3 rfl) ?_
      refine lv_i2l (v := p3.toInt64) hx hb dX9_leaves_29 rfl ?_
      refine lv_lconst (v := 0) hx hb dX9_leaves_30 (by decide) ?_
      refine lv_aload_n hx hb dX9_leaves_31 rfl (lv_at hl 0 rfl) ?_
      refine g9_20 hx hb hts hown hK hP (hts _ q1380) dX9_leaves_32 ?_
      refine lv_iload_n hx hb dX9_leaves_35 rfl (lv_at hl 2 rfl) ?_
      obtain ⟨x19, ex19⟩ : ∃ z, (σ 9).2.2.1 20 p2.toInt.toNat = z := ⟨_, rfl⟩
      refine l9_20 (x := x19) hx hb hK hP (vpo (by have f0 := b7; have f1 := b6; have f2 := b8; have f3 := k10; have g1 := rg32 p2; have z0 : (0 : Int32).toInt = 0 := (by decide); omega)) ((congrFun (((hF14 9 20 rfl).2.2.1).trans (((sI_f eσ1) 9 20 rfl).2.2.1)) _).trans ex19) dX9_leaves_36 ?_
      have t20 := a9_20 hJ ex19
      refine lv_iconst (v := 1) hx hb dX9_leaves_37 (by decide) ?_
      refine lv_isub hx hb dX9_leaves_38 ?_
      refine lv_topi (fun x21 ex21 => ?_)
      have t22 := subO ex21 (by have f0 := t20; have f1 := b7; have f2 := b6; have f3 := b8; have f4 := k10; have g1 := rg32 x19; have z0 : (0 : Int32).toInt = 0 := (by decide); have z1 : (1 : Int32).toInt = 1 := (by decide); omega)
      refine lv_i2l (v := x21.toInt64) hx hb dX9_leaves_39 rfl ?_
      refine va_calli (va_runS (As := [.long p3.toInt64, .long 0, .long x21.toInt64]) (rest := []) ⟨hx, hb, hml, hown, hts⟩ (m_X9_in l D cy g σ12 p3.toInt64 (0) x21.toInt64 _ hJ15 ) (va_cwS 3 hts (gd_S q1550 q1551 q134 q1552) rfl rfl rfl (by decide +kernel) ⟨Nat.le_of_ble_eq_true rfl, Nat.le_of_ble_eq_true rfl⟩) (ps9 hP hK hD hC hS) rfl rfl hl.1 rfl (lv_room (Nat.le_of_ble_eq_true rfl)) dX9_leaves_40 ⟨Nat.le_of_ble_eq_true rfl, Nat.le_of_ble_eq_true rfl⟩) hS (fun q _ h => up9 hS q h) (up9 hS) (fun r23 σ24 tS H1 locs ht hvm hw25 hB hz1 hk1 hS => ?_)
      have hP : va_P D clz (WD9 cy g σ24) H1 := by rw [← ht]; exact hB
      clear hB hz1 hk1 hvm ht
      generalize H1 = H at hP hS ⊢
      have hw25E : σ12 = σ24 := (hw25.1).symm
      subst hw25E
      have b26 : (0 : Int) ≤ r23.toInt ∧ r23.toInt ≤ 1 := hw25.2.1
      have b27 : (r23.toInt = 1 ∧ (0 : Int64).toInt ≤ p3.toInt64.toInt ∧ p3.toInt64.toInt ≤ x21.toInt64.toInt) ∨ (r23.toInt = 0 ∧ ¬ ((0 : Int64).toInt ≤ p3.toInt64.toInt ∧ p3.toInt64.toInt ≤ x21.toInt64.toInt)) := hw25.2.2.1
      refine lv_if_ne (tgt := 48) hx hb dX9_leaves_43 (by decide) (fun c28 => ?_) (fun c28 => ?_)
      ·
        have k29 := neq32 c28
        refine lv_iconst (v := 0) hx hb dX9_leaves_48 (by decide) ?_
        refine lv_istore (lv' := [(4, .int 0), (0, .ref (g 60)), (1, .int p1), (2, .int p2), (3, .int p3)]) hx hb dX9_leaves_49 hl (by decide) rfl (fun ls hl => ?_)
        refine lv_iconst (v := (-1)) hx hb dX9_leaves_51 (by decide) ?_
        refine lv_istore (lv' := [(5, .int (-1)), (4, .int 0), (0, .ref (g 60)), (1, .int p1), (2, .int p2), (3, .int p3)]) hx hb dX9_leaves_52 hl (by decide) rfl (fun ls hl => ?_)
        refine lv_iconst (v := 0) hx hb dX9_leaves_54 (by decide) ?_
        refine lv_istore (lv' := [(6, .int 0), (5, .int (-1)), (4, .int 0), (0, .ref (g 60)), (1, .int p1), (2, .int p2), (3, .int p3)]) hx hb dX9_leaves_55 hl (by decide) rfl (fun ls hl => ?_)
        refine loop9 10 57 (fun x : LZ => [(6, .int (x.2.1 0)), (5, .int (x.2.1 1)), (4, .int (x.2.1 2)), (0, .ref (g 60)), (1, .int p1), (2, .int p2), (3, .int p3)]) (fun x : LZ => (x.1 = σ12) ∧ ((0 : Int) ≤ (x.2.1 0).toInt ∧ (x.2.1 0).toInt ≤ 16) ∧ ((-1 : Int) ≤ (x.2.1 1).toInt ∧ (x.2.1 1).toInt ≤ 2) ∧ ((-1 : Int) ≤ (x.2.1 2).toInt ∧ (x.2.1 2).toInt ≤ 29790) ∧ (0 ≤ (x.2.1 2).toInt ∨ 1 ≤ (x.2.1 0).toInt) ∧ True) (fun x : LZ => ((17 : Int) - (x.2.1 0).toInt).toNat) ?_ (σ12, lf [0, (-1), 0], lg []) ⟨rfl, (show (0 : Int) ≤ (0 : Int32).toInt ∧ (0 : Int32).toInt ≤ 16 from (by have z0 : (0 : Int32).toInt = 0 := (by decide); omega)), (show (-1 : Int) ≤ ((-1) : Int32).toInt ∧ ((-1) : Int32).toInt ≤ 2 from (by have zm1 : ((-1) : Int32).toInt = (-1) := (by decide); omega)), (show (-1 : Int) ≤ (0 : Int32).toInt ∧ (0 : Int32).toInt ≤ 29790 from (by have z0 : (0 : Int32).toInt = 0 := (by decide); omega)), (show 0 ≤ (0 : Int32).toInt ∨ 1 ≤ (0 : Int32).toInt from (by have z0 : (0 : Int32).toInt = 0 := (by decide); omega)), trivial⟩ _ _ _ hP hS (lv_sub hl [0, 1, 2, 3, 4, 5, 6] rfl)
        intro y32 hI31 nl30 H locs ls hP hS hl
        rw [show y32.1 = σ12 from hI31.1] at hP
        have b33 : (0 : Int) ≤ (y32.2.1 0).toInt ∧ (y32.2.1 0).toInt ≤ 16 := hI31.2.1
        have b34 : (-1 : Int) ≤ (y32.2.1 1).toInt ∧ (y32.2.1 1).toInt ≤ 2 := hI31.2.2.1
        have b35 : (-1 : Int) ≤ (y32.2.1 2).toInt ∧ (y32.2.1 2).toInt ≤ 29790 := hI31.2.2.2.1
        have b36 : 0 ≤ (y32.2.1 2).toInt ∨ 1 ≤ (y32.2.1 0).toInt := hI31.2.2.2.2.1
        have hl : lv_has ls 10 [(6, .int (y32.2.1 0)), (5, .int (y32.2.1 1)), (4, .int (y32.2.1 2)), (0, .ref (g 60)), (1, .int p1), (2, .int p2), (3, .int p3)] := hl
        refine lv_iload hx hb dX9_leaves_57 (lv_at hl 0 rfl) ?_
        refine lv_iload_n hx hb dX9_leaves_59 rfl (lv_at hl 6 rfl) ?_
        refine lv_icmp_gt (tgt := 222) hx hb dX9_leaves_60 (by decide) (fun c37 => ?_) (fun c37 => ?_)
        ·
          have k38 := plt32 c37
          refine lv_iload hx hb dX9_leaves_222 (lv_at hl 1 rfl) ?_
          refine lv_iconst (v := (-1)) hx hb dX9_leaves_224 (by decide) ?_
          refine lv_icmp_ne (tgt := 232) hx hb dX9_leaves_225 (by decide) (fun c39 => ?_) (fun c39 => ?_)
          ·
            have k40 := neq32 c39
            refine lv_aload_n hx hb dX9_leaves_232 rfl (lv_at hl 3 rfl) ?_
            refine g9_53 hx hb hts hown hK hP (hts _ q1413) dX9_leaves_233 ?_
            refine lv_iload hx hb dX9_leaves_236 (lv_at hl 1 rfl) ?_
            obtain ⟨x41, ex41⟩ : ∃ z, (σ12 9).2.2.1 53 (y32.2.1 1).toInt.toNat = z := ⟨_, rfl⟩
            refine l9_53 (x := x41) hx hb hK hP (vpo (by have f0 := b34; have f1 := k40; have g0 := rg32 (y32.2.1 1); have zm1 : ((-1) : Int32).toInt = (-1) := (by decide); omega)) ex41 dX9_leaves_238 ?_
            have t42 := a9_53 hJ15 ex41
            exact W.iret (v := x41) hx hb hr (fun tS ht hW => ⟨⟨x41, σ12, rfl, ⟨Fr.tr (Fr.tr (Fr.rf) (sI_f eσ1) (fN_L rfl)) hF14 (fL_sub rfl), hJ15, trivial⟩, (show va_P D clz (WD9 cy g σ12) tS.heap by rw [ht]; exact hP)⟩, hS.F ht⟩) hS.2.2 dX9_leaves_239
          ·
            have k43 := peq32 c39
            refine lv_iconst (v := (-1)) hx hb dX9_leaves_228 (by decide) ?_
            refine lv_goto (tgt := 239) hx hb dX9_leaves_229 (by decide) ?_
            exact W.iret (v := (-1)) hx hb hr (fun tS ht hW => ⟨⟨(-1), σ12, rfl, ⟨Fr.tr (Fr.tr (Fr.rf) (sI_f eσ1) (fN_L rfl)) hF14 (fL_sub rfl), hJ15, trivial⟩, (show va_P D clz (WD9 cy g σ12) tS.heap by rw [ht]; exact hP)⟩, hS.F ht⟩) hS.2.2 dX9_leaves_239
        ·
          have k44 := nlt32 c37
          refine lv_iconst (v := (-1)) hx hb dX9_leaves_63 (by decide) ?_
          refine lv_istore (lv' := [(5, .int (-1)), (6, .int (y32.2.1 0)), (4, .int (y32.2.1 2)), (0, .ref (g 60)), (1, .int p1), (2, .int p2), (3, .int p3)]) hx hb dX9_leaves_64 hl (by decide) rfl (fun ls hl => ?_)
          refine lv_aload_n hx hb dX9_leaves_66 rfl (lv_at hl 3 rfl) ?_
          refine lv_iload_n hx hb dX9_leaves_67 rfl (lv_at hl 5 rfl) ?_
          refine lv_iload hx hb dX9_leaves_68 (lv_at hl 1 rfl) ?_
          refine va_calli (va_runV (As := [.int p2, .int (y32.2.1 0)]) (rest := []) ⟨hx, hb, hml, hown, hts⟩ (m_X9_isRest l D cy g σ12 p2 (y32.2.1 0) _ hJ15 (show (0 : Int) ≤ p2.toInt ∧ p2.toInt ≤ 2 from (by have f0 := b7; have f1 := t20; have f2 := b6; have f3 := b8; have f4 := k10; have f5 := t22; have f6 := t64 (a := x21); have f7 := rg32 x21; have f8 := b27; have f9 := t64 (a := p3); have f10 := b26; have f11 := k29; have f12 := rg32 p3; have f13 := k44; have f14 := b33; have f15 := b36; have f16 := b35; have g1 := rg32 p2; have z0 : (0 : Int32).toInt = 0 := (by decide); have zl0 : (0 : Int64).toInt = 0 := (by decide); have z1 : (1 : Int32).toInt = 1 := (by decide); have w21 := t64 (a := p3); have w22 := t64 (a := x21); omega)) (show (0 : Int) ≤ (y32.2.1 0).toInt ∧ (y32.2.1 0).toInt ≤ 15 from (by have f0 := b7; have f1 := t20; have f2 := b33; have f3 := b36; have f4 := k44; have f5 := b6; have f6 := b8; have f7 := k10; have f8 := t64 (a := p3); have f9 := rg32 p3; have f10 := t22; have f11 := b35; have f12 := t64 (a := x21); have f13 := rg32 x21; have f14 := b27; have f15 := b26; have f16 := k29; have g1 := rg32 (y32.2.1 0); have g2 := rg32 p2; have z0 : (0 : Int32).toInt = 0 := (by decide); have zl0 : (0 : Int64).toInt = 0 := (by decide); have z1 : (1 : Int32).toInt = 1 := (by decide); have w22 := t64 (a := p3); have w23 := t64 (a := x21); omega))) (cwV 2 hts (gd_V q1838 q1840 q91 q134 q1841) rfl rfl rfl (by decide +kernel) ⟨Nat.le_of_ble_eq_true rfl, Nat.le_of_ble_eq_true rfl⟩) (pv9 hP hK hD hC hS (va_recv hK hP (ci := 9) (q0 := 0) rfl rfl)) rfl rfl hl.1 rfl (lv_room (Nat.le_of_ble_eq_true rfl)) dX9_leaves_70 ⟨Nat.le_of_ble_eq_true rfl, Nat.le_of_ble_eq_true rfl⟩) hS (fun q _ h => up9 hS q h) (up9 hS) (fun r45 σ46 tS H1 locs ht hvm hw47 hB hz1 hk1 hS => ?_)
          have hP : va_P D clz (WD9 cy g σ46) H1 := by rw [← ht]; exact hB
          clear hB hz1 hk1 hvm ht
          generalize H1 = H at hP hS ⊢
          have hw47E : σ12 = σ46 := (hw47.1).symm
          subst hw47E
          have b48 : (0 : Int) ≤ r45.toInt ∧ r45.toInt ≤ 1 := hw47.2.1
          refine cut9 (D := D) (cy := cy) (g := g) (A := A9 cy g s.heap.size) (H0 := s.heap) 10 216 (fun x : LZ => [(5, .int (x.2.1 0)), (6, .int (y32.2.1 0)), (4, .int (x.2.1 1)), (0, .ref (g 60)), (1, .int p1), (2, .int p2), (3, .int p3)]) (fun x : LZ => []) (fun x : LZ => (x.1 = σ12) ∧ ((-1 : Int) ≤ (x.2.1 0).toInt ∧ (x.2.1 0).toInt ≤ 2) ∧ ((-1 : Int) ≤ (x.2.1 1).toInt ∧ (x.2.1 1).toInt ≤ 29790) ∧ True) ?_ ?_
          ·
            intro y51 hI50 H locs ls hP hS hl
            rw [show y51.1 = σ12 from hI50.1] at hP
            have b52 : (-1 : Int) ≤ (y51.2.1 0).toInt ∧ (y51.2.1 0).toInt ≤ 2 := hI50.2.1
            have b53 : (-1 : Int) ≤ (y51.2.1 1).toInt ∧ (y51.2.1 1).toInt ≤ 29790 := hI50.2.2.1
            have hl : lv_has ls 10 [(5, .int (y51.2.1 0)), (6, .int (y32.2.1 0)), (4, .int (y51.2.1 1)), (0, .ref (g 60)), (1, .int p1), (2, .int p2), (3, .int p3)] := hl
            obtain ⟨x54, ex54⟩ : ∃ y : Int32, y = (y32.2.1 0) + 1 := ⟨_, rfl⟩
            have t55 := addO ex54 (by have f0 := b33; have f1 := b36; have f2 := k44; have f3 := t64 (a := p3); have f4 := rg32 p3; have f5 := b35; have f6 := b27; have f7 := t64 (a := x21); have f8 := b26; have f9 := k29; have f10 := t22; have f11 := rg32 x21; have f12 := t20; have f13 := b7; have f14 := b6; have f15 := b8; have f16 := k10; have g1 := rg32 (y32.2.1 0); have z0 : (0 : Int32).toInt = 0 := (by decide); have zl0 : (0 : Int64).toInt = 0 := (by decide); have z1 : (1 : Int32).toInt = 1 := (by decide); have w21 := t64 (a := p3); have w22 := t64 (a := x21); omega)
            refine lv_iinc (v := x54) (lv' := [(6, .int x54), (5, .int (y51.2.1 0)), (4, .int (y51.2.1 1)), (0, .ref (g 60)), (1, .int p1), (2, .int p2), (3, .int p3)]) hx hb dX9_leaves_216 hl (k := 1) rfl (by rw [ex54]; rfl) (by decide) rfl (fun ls hl => ?_)
            refine lv_goto (tgt := 57) hx hb dX9_leaves_219 (by decide) ?_
            have t56 : ((17 : Int) - x54.toInt).toNat < ((17 : Int) - (y32.2.1 0).toInt).toNat := (by have f0 := b33; have f1 := b36; have f2 := k44; have f3 := t55; have f4 := t64 (a := p3); have f5 := rg32 p3; have f6 := b35; have f7 := b27; have f8 := t64 (a := x21); have f9 := b26; have f10 := k29; have f11 := t22; have f12 := rg32 x21; have f13 := t20; have f14 := b7; have f15 := b6; have f16 := b8; have f17 := k10; have g1 := rg32 (y32.2.1 0); have g3 := rg32 x54; have z0 : (0 : Int32).toInt = 0 := (by decide); have zl0 : (0 : Int64).toInt = 0 := (by decide); have z1 : (1 : Int32).toInt = 1 := (by decide); have w23 := t64 (a := p3); have w24 := t64 (a := x21); omega)
            exact nl30 (σ12, lf [x54, (y51.2.1 0), (y51.2.1 1)], lg []) ⟨rfl, (show (0 : Int) ≤ (x54 : Int32).toInt ∧ (x54 : Int32).toInt ≤ 16 from (by have f0 := t55; have f1 := b33; have f2 := b36; have f3 := k44; have f4 := t64 (a := p3); have f5 := rg32 p3; have f6 := b35; have f7 := b27; have f8 := t64 (a := x21); have f9 := b26; have f10 := k29; have f11 := t22; have f12 := rg32 x21; have f13 := t20; have f14 := b7; have f15 := b6; have f16 := b8; have f17 := k10; have g2 := rg32 x54; have z0 : (0 : Int32).toInt = 0 := (by decide); have zl0 : (0 : Int64).toInt = 0 := (by decide); have z1 : (1 : Int32).toInt = 1 := (by decide); have w22 := t64 (a := p3); have w23 := t64 (a := x21); omega)), (show (-1 : Int) ≤ ((y51.2.1 0) : Int32).toInt ∧ ((y51.2.1 0) : Int32).toInt ≤ 2 from (by have f0 := b52; have g0 := rg32 (y51.2.1 0); omega)), (show (-1 : Int) ≤ ((y51.2.1 1) : Int32).toInt ∧ ((y51.2.1 1) : Int32).toInt ≤ 29790 from (by have f0 := b53; have g0 := rg32 (y51.2.1 1); omega)), (show 0 ≤ (y51.2.1 1).toInt ∨ 1 ≤ x54.toInt from (by have f0 := b53; have f1 := t55; have f2 := b33; have f3 := b36; have f4 := k44; have f5 := t64 (a := p3); have f6 := rg32 p3; have f7 := b35; have f8 := b27; have f9 := t64 (a := x21); have f10 := b26; have f11 := k29; have f12 := t22; have f13 := rg32 x21; have f14 := t20; have f15 := b7; have f16 := b6; have f17 := b8; have f18 := k10; have g1 := rg32 (y51.2.1 1); have g3 := rg32 x54; have z0 : (0 : Int32).toInt = 0 := (by decide); have zl0 : (0 : Int64).toInt = 0 := (by decide); have z1 : (1 : Int32).toInt = 1 := (by decide); have w24 := t64 (a := p3); have w25 := t64 (a := x21); omega)), trivial⟩ (show ((17 : Int) - x54.toInt).toNat < _ from t56) _ _ _ hP hS (lv_sub hl [0, 1, 2, 3, 4, 5, 6] rfl)
          ·
            intro nj49
            refine lv_if_eq (tgt := 82) hx hb dX9_leaves_73 (by decide) (fun c57 => ?_) (fun c57 => ?_)
            ·
              have k58 := peq32 c57
              refine lv_iconst (v := 0) hx hb dX9_leaves_82 (by decide) ?_
              refine lv_istore (lv' := [(7, .int 0), (5, .int (-1)), (6, .int (y32.2.1 0)), (4, .int (y32.2.1 2)), (0, .ref (g 60)), (1, .int p1), (2, .int p2), (3, .int p3)]) hx hb dX9_leaves_83 hl (by decide) rfl (fun ls hl => ?_)
              refine lv_iconst (v := (-1)) hx hb dX9_leaves_85 (by decide) ?_
              refine lv_istore (lv' := [(8, .int (-1)), (7, .int 0), (5, .int (-1)), (6, .int (y32.2.1 0)), (4, .int (y32.2.1 2)), (0, .ref (g 60)), (1, .int p1), (2, .int p2), (3, .int p3)]) hx hb dX9_leaves_86 hl (by decide) rfl (fun ls hl => ?_)
              refine loop9 10 88 (fun x : LZ => [(8, .int (x.2.1 0)), (7, .int (x.2.1 1)), (5, .int (x.2.1 2)), (6, .int (y32.2.1 0)), (4, .int (y32.2.1 2)), (0, .ref (g 60)), (1, .int p1), (2, .int p2), (3, .int p3)]) (fun x : LZ => (x.1 = σ12) ∧ ((-1 : Int) ≤ (x.2.1 0).toInt ∧ (x.2.1 0).toInt ≤ 3) ∧ ((0 : Int) ≤ (x.2.1 1).toInt ∧ (x.2.1 1).toInt ≤ 1) ∧ ((-1 : Int) ≤ (x.2.1 2).toInt ∧ (x.2.1 2).toInt ≤ 2) ∧ True) (fun x : LZ => ((4 : Int) - (x.2.1 0).toInt).toNat) ?_ (σ12, lf [(-1), 0, (-1)], lg []) ⟨rfl, (show (-1 : Int) ≤ ((-1) : Int32).toInt ∧ ((-1) : Int32).toInt ≤ 3 from (by have zm1 : ((-1) : Int32).toInt = (-1) := (by decide); omega)), (show (0 : Int) ≤ (0 : Int32).toInt ∧ (0 : Int32).toInt ≤ 1 from (by have z0 : (0 : Int32).toInt = 0 := (by decide); omega)), (show (-1 : Int) ≤ ((-1) : Int32).toInt ∧ ((-1) : Int32).toInt ≤ 2 from (by have zm1 : ((-1) : Int32).toInt = (-1) := (by decide); omega)), trivial⟩ _ _ _ hP hS (lv_sub hl [0, 1, 2, 3, 4, 5, 6, 7, 8] rfl)
              intro y61 hI60 nl59 H locs ls hP hS hl
              rw [show y61.1 = σ12 from hI60.1] at hP
              have b62 : (-1 : Int) ≤ (y61.2.1 0).toInt ∧ (y61.2.1 0).toInt ≤ 3 := hI60.2.1
              have b63 : (0 : Int) ≤ (y61.2.1 1).toInt ∧ (y61.2.1 1).toInt ≤ 1 := hI60.2.2.1
              have b64 : (-1 : Int) ≤ (y61.2.1 2).toInt ∧ (y61.2.1 2).toInt ≤ 2 := hI60.2.2.2.1
              have hl : lv_has ls 10 [(8, .int (y61.2.1 0)), (7, .int (y61.2.1 1)), (5, .int (y61.2.1 2)), (6, .int (y32.2.1 0)), (4, .int (y32.2.1 2)), (0, .ref (g 60)), (1, .int p1), (2, .int p2), (3, .int p3)] := hl
              refine lv_iload hx hb dX9_leaves_88 (lv_at hl 0 rfl) ?_
              refine lv_aload_n hx hb dX9_leaves_90 rfl (lv_at hl 5 rfl) ?_
              refine g9_51 (x := ((σ12 9).1 51)) hx hb hts hown hK hP (rfl) (hts _ q1411) dX9_leaves_91 ?_
              refine cut9 (D := D) (cy := cy) (g := g) (A := A9 cy g s.heap.size) (H0 := s.heap) 10 198 (fun x : LZ => [(8, .int (y61.2.1 0)), (7, .int (y61.2.1 1)), (5, .int (y61.2.1 2)), (6, .int (y32.2.1 0)), (4, .int (y32.2.1 2)), (0, .ref (g 60)), (1, .int p1), (2, .int p2), (3, .int p3)]) (fun x : LZ => []) (fun x : LZ => (x.1 = σ12) ∧ True) ?_ ?_
              ·
                intro y67 hI66 H locs ls hP hS hl
                rw [show y67.1 = σ12 from hI66.1] at hP
                have hl : lv_has ls 10 [(8, .int (y61.2.1 0)), (7, .int (y61.2.1 1)), (5, .int (y61.2.1 2)), (6, .int (y32.2.1 0)), (4, .int (y32.2.1 2)), (0, .ref (g 60)), (1, .int p1), (2, .int p2), (3, .int p3)] := hl
                refine lv_aload_n hx hb dX9_leaves_198 rfl (lv_at hl 5 rfl) ?_
                refine lv_iload hx hb dX9_leaves_199 (lv_at hl 4 rfl) ?_
                refine lv_aload_n hx hb dX9_leaves_201 rfl (lv_at hl 5 rfl) ?_
                refine lv_iload_n hx hb dX9_leaves_202 rfl (lv_at hl 7 rfl) ?_
                refine lv_iload hx hb dX9_leaves_203 (lv_at hl 3 rfl) ?_
                refine lv_iconst (v := 1) hx hb dX9_leaves_205 (by decide) ?_
                refine va_calli (va_runV (As := [.int p2, .int (y32.2.1 0), .int 1]) (rest := [.int (y32.2.1 2), .ref (g 60)]) ⟨hx, hb, hml, hown, hts⟩ (m_X9_toneOf l D cy g σ12 p2 (y32.2.1 0) (1) _ hJ15 (show (0 : Int) ≤ p2.toInt ∧ p2.toInt ≤ 2 from (by have f0 := b7; have f1 := t20; have f2 := b6; have f3 := b8; have f4 := k10; have f5 := t22; have f6 := t64 (a := x21); have f7 := rg32 x21; have f8 := b27; have f9 := t64 (a := p3); have f10 := b26; have f11 := k29; have f12 := rg32 p3; have f13 := k44; have f14 := b33; have f15 := b36; have f16 := b35; have g1 := rg32 p2; have z0 : (0 : Int32).toInt = 0 := (by decide); have zl0 : (0 : Int64).toInt = 0 := (by decide); have z1 : (1 : Int32).toInt = 1 := (by decide); have w21 := t64 (a := p3); have w22 := t64 (a := x21); omega)) (show (0 : Int) ≤ (y32.2.1 0).toInt ∧ (y32.2.1 0).toInt ≤ 15 from (by have f0 := b7; have f1 := t20; have f2 := b33; have f3 := b36; have f4 := k44; have f5 := b6; have f6 := b8; have f7 := k10; have f8 := t64 (a := p3); have f9 := rg32 p3; have f10 := t22; have f11 := b35; have f12 := t64 (a := x21); have f13 := rg32 x21; have f14 := b27; have f15 := b26; have f16 := k29; have g1 := rg32 (y32.2.1 0); have g2 := rg32 p2; have z0 : (0 : Int32).toInt = 0 := (by decide); have zl0 : (0 : Int64).toInt = 0 := (by decide); have z1 : (1 : Int32).toInt = 1 := (by decide); have w22 := t64 (a := p3); have w23 := t64 (a := x21); omega)) (show (0 : Int) ≤ (1 : Int32).toInt ∧ (1 : Int32).toInt ≤ 3 from (by have f0 := b7; have f1 := t20; have f2 := b33; have f3 := b36; have f4 := k44; have f5 := b6; have f6 := b8; have f7 := k10; have f8 := t64 (a := p3); have f9 := rg32 p3; have f10 := t22; have f11 := b35; have f12 := t64 (a := x21); have f13 := rg32 x21; have f14 := b27; have f15 := b26; have f16 := k29; have g1 := rg32 (y32.2.1 0); have g2 := rg32 p2; have z0 : (0 : Int32).toInt = 0 := (by decide); have zl0 : (0 : Int64).toInt = 0 := (by decide); have z1 : (1 : Int32).toInt = 1 := (by decide); have w22 := t64 (a := p3); have w23 := t64 (a := x21); omega))) (cwV 3 hts (gd_V q1727 q1729 q75 q134 q1730) rfl rfl rfl (by decide +kernel) ⟨Nat.le_of_ble_eq_true rfl, Nat.le_of_ble_eq_true rfl⟩) (pv9 hP hK hD hC hS (va_recv hK hP (ci := 9) (q0 := 0) rfl rfl)) rfl rfl hl.1 rfl (lv_room (Nat.le_of_ble_eq_true rfl)) dX9_leaves_206 ⟨Nat.le_of_ble_eq_true rfl, Nat.le_of_ble_eq_true rfl⟩) hS (fun q _ h => up9 hS q h) (up9 hS) (fun r68 σ69 tS H1 locs ht hvm hw70 hB hz1 hk1 hS => ?_)
                have hP : va_P D clz (WD9 cy g σ69) H1 := by rw [← ht]; exact hB
                clear hB hz1 hk1 hvm ht
                generalize H1 = H at hP hS ⊢
                have hw70E : σ12 = σ69 := (hw70.1).symm
                subst hw70E
                have b71 : (-1 : Int) ≤ r68.toInt ∧ r68.toInt ≤ 60 := hw70.2.1
                have b72 : ¬ (1 : Int32).toInt = 1 ∨ 0 ≤ r68.toInt := hw70.2.2.1
                refine lv_iload hx hb dX9_leaves_209 (lv_at hl 2 rfl) ?_
                refine va_calli (va_runV (As := [.int (y32.2.1 2), .int r68, .int (y61.2.1 2)]) (rest := []) ⟨hx, hb, hml, hown, hts⟩ (m_X9_behind l D cy g σ12 (y32.2.1 2) r68 (y61.2.1 2) _ hJ15 (show (-1 : Int) ≤ (y32.2.1 2).toInt ∧ (y32.2.1 2).toInt ≤ 29790 from (by have f0 := b35; have f1 := b36; have f2 := b33; have f3 := k44; have f4 := t64 (a := p3); have f5 := rg32 p3; have f6 := b27; have f7 := t64 (a := x21); have f8 := b26; have f9 := k29; have f10 := t22; have f11 := rg32 x21; have f12 := t20; have f13 := b7; have f14 := b6; have f15 := b8; have f16 := k10; have g1 := rg32 (y32.2.1 2); have z0 : (0 : Int32).toInt = 0 := (by decide); have zl0 : (0 : Int64).toInt = 0 := (by decide); have z1 : (1 : Int32).toInt = 1 := (by decide); have w21 := t64 (a := p3); have w22 := t64 (a := x21); omega)) (show (0 : Int) ≤ r68.toInt ∧ r68.toInt ≤ 60 from (by have f0 := b35; have f1 := b36; have f2 := b71; have f3 := b72; have f4 := b33; have f5 := k44; have f6 := t64 (a := p3); have f7 := rg32 p3; have f8 := b27; have f9 := t64 (a := x21); have f10 := b26; have f11 := k29; have f12 := t22; have f13 := rg32 x21; have f14 := t20; have f15 := b7; have f16 := b6; have f17 := b8; have f18 := k10; have g1 := rg32 (y32.2.1 2); have g2 := rg32 r68; have z0 : (0 : Int32).toInt = 0 := (by decide); have zl0 : (0 : Int64).toInt = 0 := (by decide); have z1 : (1 : Int32).toInt = 1 := (by decide); have w24 := t64 (a := p3); have w25 := t64 (a := x21); omega))) (cwV 3 hts (gd_V q2012 q2014 q115 q134 q2015) rfl rfl rfl (by decide +kernel) ⟨Nat.le_of_ble_eq_true rfl, Nat.le_of_ble_eq_true rfl⟩) (pv9 hP hK hD hC hS (va_recv hK hP (ci := 9) (q0 := 0) rfl rfl)) rfl rfl hl.1 rfl (lv_room (Nat.le_of_ble_eq_true rfl)) dX9_leaves_211 ⟨Nat.le_of_ble_eq_true rfl, Nat.le_of_ble_eq_true rfl⟩) hS (fun q _ h => up9 hS q h) (up9 hS) (fun r73 σ74 tS H1 locs ht hvm hw75 hB hz1 hk1 hS => ?_)
                have hP : va_P D clz (WD9 cy g σ74) H1 := by rw [← ht]; exact hB
                clear hB hz1 hk1 hvm ht
                generalize H1 = H at hP hS ⊢
                have hw75E : σ12 = σ74 := (hw75.1).symm
                subst hw75E
                have b76 : (-1 : Int) ≤ r73.toInt ∧ r73.toInt ≤ 29790 := hw75.2.1
                refine lv_istore (lv' := [(4, .int r73), (8, .int (y61.2.1 0)), (7, .int (y61.2.1 1)), (5, .int (y61.2.1 2)), (6, .int (y32.2.1 0)), (0, .ref (g 60)), (1, .int p1), (2, .int p2), (3, .int p3)]) hx hb dX9_leaves_214 hl (by decide) rfl (fun ls hl => ?_)
                exact nj49 (σ12, lf [(y61.2.1 2), r73], lg []) ⟨rfl, (show (-1 : Int) ≤ ((y61.2.1 2) : Int32).toInt ∧ ((y61.2.1 2) : Int32).toInt ≤ 2 from (by have f0 := b64; have g0 := rg32 (y61.2.1 2); omega)), (show (-1 : Int) ≤ (r73 : Int32).toInt ∧ (r73 : Int32).toInt ≤ 29790 from (by have f0 := b76; have g0 := rg32 r73; omega)), trivial⟩ _ _ _ hP hS (lv_sub hl [3, 4, 0, 5, 6, 7, 8] rfl)
              ·
                intro nj65
                refine lv_icmp_ge (tgt := 198) hx hb dX9_leaves_94 (by decide) (fun c77 => ?_) (fun c77 => ?_)
                ·
                  have k78 := ple32 c77
                  exact nj65 (σ12, lf [], lg []) ⟨rfl, trivial⟩ _ _ _ hP hS (lv_sub hl [0, 1, 2, 3, 4, 5, 6, 7, 8] rfl)
                ·
                  have k79 := nle32 c77
                  refine lv_iload hx hb dX9_leaves_97 (lv_at hl 1 rfl) ?_
                  refine lv_if_ne (tgt := 198) hx hb dX9_leaves_99 (by decide) (fun c80 => ?_) (fun c80 => ?_)
                  ·
                    have k81 := neq32 c80
                    exact nj65 (σ12, lf [], lg []) ⟨rfl, trivial⟩ _ _ _ hP hS (lv_sub hl [0, 1, 2, 3, 4, 5, 6, 7, 8] rfl)
                  ·
                    have k82 := peq32 c80
                    refine lv_aload_n hx hb dX9_leaves_102 rfl (lv_at hl 5 rfl) ?_
                    refine lv_iload hx hb dX9_leaves_103 (lv_at hl 4 rfl) ?_
                    refine lv_aload_n hx hb dX9_leaves_105 rfl (lv_at hl 5 rfl) ?_
                    refine lv_iload_n hx hb dX9_leaves_106 rfl (lv_at hl 7 rfl) ?_
                    refine lv_iload hx hb dX9_leaves_107 (lv_at hl 3 rfl) ?_
                    refine lv_iconst (v := 1) hx hb dX9_leaves_109 (by decide) ?_
                    refine va_calli (va_runV (As := [.int p2, .int (y32.2.1 0), .int 1]) (rest := [.int (y32.2.1 2), .ref (g 60)]) ⟨hx, hb, hml, hown, hts⟩ (m_X9_toneOf l D cy g σ12 p2 (y32.2.1 0) (1) _ hJ15 (show (0 : Int) ≤ p2.toInt ∧ p2.toInt ≤ 2 from (by have f0 := b7; have f1 := t20; have f2 := b6; have f3 := b8; have f4 := k10; have f5 := t22; have f6 := t64 (a := x21); have f7 := rg32 x21; have f8 := b27; have f9 := t64 (a := p3); have f10 := b26; have f11 := k29; have f12 := rg32 p3; have f13 := k44; have f14 := b33; have f15 := b36; have f16 := b35; have g1 := rg32 p2; have z0 : (0 : Int32).toInt = 0 := (by decide); have zl0 : (0 : Int64).toInt = 0 := (by decide); have z1 : (1 : Int32).toInt = 1 := (by decide); have w21 := t64 (a := p3); have w22 := t64 (a := x21); omega)) (show (0 : Int) ≤ (y32.2.1 0).toInt ∧ (y32.2.1 0).toInt ≤ 15 from (by have f0 := b7; have f1 := t20; have f2 := b33; have f3 := b36; have f4 := k44; have f5 := b6; have f6 := b8; have f7 := k10; have f8 := t64 (a := p3); have f9 := rg32 p3; have f10 := t22; have f11 := b35; have f12 := t64 (a := x21); have f13 := rg32 x21; have f14 := b27; have f15 := b26; have f16 := k29; have g1 := rg32 (y32.2.1 0); have g2 := rg32 p2; have z0 : (0 : Int32).toInt = 0 := (by decide); have zl0 : (0 : Int64).toInt = 0 := (by decide); have z1 : (1 : Int32).toInt = 1 := (by decide); have w22 := t64 (a := p3); have w23 := t64 (a := x21); omega)) (show (0 : Int) ≤ (1 : Int32).toInt ∧ (1 : Int32).toInt ≤ 3 from (by have f0 := b7; have f1 := t20; have f2 := b33; have f3 := b36; have f4 := k44; have f5 := b6; have f6 := b8; have f7 := k10; have f8 := t64 (a := p3); have f9 := rg32 p3; have f10 := t22; have f11 := b35; have f12 := t64 (a := x21); have f13 := rg32 x21; have f14 := b27; have f15 := b26; have f16 := k29; have g1 := rg32 (y32.2.1 0); have g2 := rg32 p2; have z0 : (0 : Int32).toInt = 0 := (by decide); have zl0 : (0 : Int64).toInt = 0 := (by decide); have z1 : (1 : Int32).toInt = 1 := (by decide); have w22 := t64 (a := p3); have w23 := t64 (a := x21); omega))) (cwV 3 hts (gd_V q1727 q1729 q75 q134 q1730) rfl rfl rfl (by decide +kernel) ⟨Nat.le_of_ble_eq_true rfl, Nat.le_of_ble_eq_true rfl⟩) (pv9 hP hK hD hC hS (va_recv hK hP (ci := 9) (q0 := 0) rfl rfl)) rfl rfl hl.1 rfl (lv_room (Nat.le_of_ble_eq_true rfl)) dX9_leaves_110 ⟨Nat.le_of_ble_eq_true rfl, Nat.le_of_ble_eq_true rfl⟩) hS (fun q _ h => up9 hS q h) (up9 hS) (fun r83 σ84 tS H1 locs ht hvm hw85 hB hz1 hk1 hS => ?_)
                    have hP : va_P D clz (WD9 cy g σ84) H1 := by rw [← ht]; exact hB
                    clear hB hz1 hk1 hvm ht
                    generalize H1 = H at hP hS ⊢
                    have hw85E : σ12 = σ84 := (hw85.1).symm
                    subst hw85E
                    have b86 : (-1 : Int) ≤ r83.toInt ∧ r83.toInt ≤ 60 := hw85.2.1
                    have b87 : ¬ (1 : Int32).toInt = 1 ∨ 0 ≤ r83.toInt := hw85.2.2.1
                    refine lv_iload hx hb dX9_leaves_113 (lv_at hl 0 rfl) ?_
                    refine va_calli (va_runV (As := [.int (y32.2.1 2), .int r83, .int (y61.2.1 0)]) (rest := []) ⟨hx, hb, hml, hown, hts⟩ (m_X9_behind l D cy g σ12 (y32.2.1 2) r83 (y61.2.1 0) _ hJ15 (show (-1 : Int) ≤ (y32.2.1 2).toInt ∧ (y32.2.1 2).toInt ≤ 29790 from (by have f0 := b35; have f1 := b36; have f2 := b33; have f3 := k44; have f4 := t64 (a := p3); have f5 := rg32 p3; have f6 := b27; have f7 := t64 (a := x21); have f8 := b26; have f9 := k29; have f10 := t22; have f11 := rg32 x21; have f12 := t20; have f13 := b7; have f14 := b6; have f15 := b8; have f16 := k10; have g1 := rg32 (y32.2.1 2); have z0 : (0 : Int32).toInt = 0 := (by decide); have zl0 : (0 : Int64).toInt = 0 := (by decide); have z1 : (1 : Int32).toInt = 1 := (by decide); have w21 := t64 (a := p3); have w22 := t64 (a := x21); omega)) (show (0 : Int) ≤ r83.toInt ∧ r83.toInt ≤ 60 from (by have f0 := b35; have f1 := b36; have f2 := b86; have f3 := b87; have f4 := b33; have f5 := k44; have f6 := t64 (a := p3); have f7 := rg32 p3; have f8 := b27; have f9 := t64 (a := x21); have f10 := b26; have f11 := k29; have f12 := t22; have f13 := rg32 x21; have f14 := t20; have f15 := b7; have f16 := b6; have f17 := b8; have f18 := k10; have g1 := rg32 (y32.2.1 2); have g2 := rg32 r83; have z0 : (0 : Int32).toInt = 0 := (by decide); have zl0 : (0 : Int64).toInt = 0 := (by decide); have z1 : (1 : Int32).toInt = 1 := (by decide); have w24 := t64 (a := p3); have w25 := t64 (a := x21); omega))) (cwV 3 hts (gd_V q2012 q2014 q115 q134 q2015) rfl rfl rfl (by decide +kernel) ⟨Nat.le_of_ble_eq_true rfl, Nat.le_of_ble_eq_true rfl⟩) (pv9 hP hK hD hC hS (va_recv hK hP (ci := 9) (q0 := 0) rfl rfl)) rfl rfl hl.1 rfl (lv_room (Nat.le_of_ble_eq_true rfl)) dX9_leaves_115 ⟨Nat.le_of_ble_eq_true rfl, Nat.le_of_ble_eq_true rfl⟩) hS (fun q _ h => up9 hS q h) (up9 hS) (fun r88 σ89 tS H1 locs ht hvm hw90 hB hz1 hk1 hS => ?_)
                    have hP : va_P D clz (WD9 cy g σ89) H1 := by rw [← ht]; exact hB
                    clear hB hz1 hk1 hvm ht
                    generalize H1 = H at hP hS ⊢
                    have hw90E : σ12 = σ89 := (hw90.1).symm
                    subst hw90E
                    have b91 : (-1 : Int) ≤ r88.toInt ∧ r88.toInt ≤ 29790 := hw90.2.1
                    refine lv_istore (lv' := [(9, .int r88), (8, .int (y61.2.1 0)), (7, .int (y61.2.1 1)), (5, .int (y61.2.1 2)), (6, .int (y32.2.1 0)), (4, .int (y32.2.1 2)), (0, .ref (g 60)), (1, .int p1), (2, .int p2), (3, .int p3)]) hx hb dX9_leaves_118 hl (by decide) rfl (fun ls hl => ?_)
                    refine lv_iload hx hb dX9_leaves_120 (lv_at hl 0 rfl) ?_
                    refine lv_iconst (v := (-1)) hx hb dX9_leaves_122 (by decide) ?_
                    refine cut9 (D := D) (cy := cy) (g := g) (A := A9 cy g s.heap.size) (H0 := s.heap) 10 176 (fun x : LZ => [(9, .int r88), (8, .int (y61.2.1 0)), (7, .int (y61.2.1 1)), (5, .int (y61.2.1 2)), (6, .int (y32.2.1 0)), (4, .int (y32.2.1 2)), (0, .ref (g 60)), (1, .int p1), (2, .int p2), (3, .int p3)]) (fun x : LZ => [.int (x.2.1 0)]) (fun x : LZ => (x.1 = σ12) ∧ ((0 : Int) ≤ (x.2.1 0).toInt ∧ (x.2.1 0).toInt ≤ 1) ∧ True) ?_ ?_
                    ·
                      intro y94 hI93 H locs ls hP hS hl
                      rw [show y94.1 = σ12 from hI93.1] at hP
                      have b95 : (0 : Int) ≤ (y94.2.1 0).toInt ∧ (y94.2.1 0).toInt ≤ 1 := hI93.2.1
                      have hl : lv_has ls 10 [(9, .int r88), (8, .int (y61.2.1 0)), (7, .int (y61.2.1 1)), (5, .int (y61.2.1 2)), (6, .int (y32.2.1 0)), (4, .int (y32.2.1 2)), (0, .ref (g 60)), (1, .int p1), (2, .int p2), (3, .int p3)] := hl
                      refine W.eq (g2 := F0 m 176 ls [.int (y94.2.1 0)]) rfl ?_
                      refine lv_istore (lv' := [(7, .int (y94.2.1 0)), (9, .int r88), (8, .int (y61.2.1 0)), (5, .int (y61.2.1 2)), (6, .int (y32.2.1 0)), (4, .int (y32.2.1 2)), (0, .ref (g 60)), (1, .int p1), (2, .int p2), (3, .int p3)]) hx hb dX9_leaves_176 hl (by decide) rfl (fun ls hl => ?_)
                      refine lv_iload hx hb dX9_leaves_178 (lv_at hl 0 rfl) ?_
                      refine cut9 (D := D) (cy := cy) (g := g) (A := A9 cy g s.heap.size) (H0 := s.heap) 10 190 (fun x : LZ => [(7, .int (y94.2.1 0)), (9, .int r88), (8, .int (y61.2.1 0)), (5, .int (y61.2.1 2)), (6, .int (y32.2.1 0)), (4, .int (y32.2.1 2)), (0, .ref (g 60)), (1, .int p1), (2, .int p2), (3, .int p3)]) (fun x : LZ => [.int (x.2.1 0)]) (fun x : LZ => (x.1 = σ12) ∧ ((-1 : Int) ≤ (x.2.1 0).toInt ∧ (x.2.1 0).toInt ≤ 2) ∧ True) ?_ ?_
                      ·
                        intro y98 hI97 H locs ls hP hS hl
                        rw [show y98.1 = σ12 from hI97.1] at hP
                        have b99 : (-1 : Int) ≤ (y98.2.1 0).toInt ∧ (y98.2.1 0).toInt ≤ 2 := hI97.2.1
                        have hl : lv_has ls 10 [(7, .int (y94.2.1 0)), (9, .int r88), (8, .int (y61.2.1 0)), (5, .int (y61.2.1 2)), (6, .int (y32.2.1 0)), (4, .int (y32.2.1 2)), (0, .ref (g 60)), (1, .int p1), (2, .int p2), (3, .int p3)] := hl
                        refine W.eq (g2 := F0 m 190 ls [.int (y98.2.1 0)]) rfl ?_
                        refine lv_istore (lv' := [(5, .int (y98.2.1 0)), (7, .int (y94.2.1 0)), (9, .int r88), (8, .int (y61.2.1 0)), (6, .int (y32.2.1 0)), (4, .int (y32.2.1 2)), (0, .ref (g 60)), (1, .int p1), (2, .int p2), (3, .int p3)]) hx hb dX9_leaves_190 hl (by decide) rfl (fun ls hl => ?_)
                        obtain ⟨x100, ex100⟩ : ∃ y : Int32, y = (y61.2.1 0) + 1 := ⟨_, rfl⟩
                        have t101 := addO ex100 (by have f0 := b62; have f1 := k79; have f2 := j9_51 hJ15 rfl; have g0 := rg32 (y61.2.1 0); have z1 : (1 : Int32).toInt = 1 := (by decide); omega)
                        refine lv_iinc (v := x100) (lv' := [(8, .int x100), (5, .int (y98.2.1 0)), (7, .int (y94.2.1 0)), (9, .int r88), (6, .int (y32.2.1 0)), (4, .int (y32.2.1 2)), (0, .ref (g 60)), (1, .int p1), (2, .int p2), (3, .int p3)]) hx hb dX9_leaves_192 hl (k := 3) rfl (by rw [ex100]; rfl) (by decide) rfl (fun ls hl => ?_)
                        refine lv_goto (tgt := 88) hx hb dX9_leaves_195 (by decide) ?_
                        have t102 : ((4 : Int) - x100.toInt).toNat < ((4 : Int) - (y61.2.1 0).toInt).toNat := (by have f0 := b62; have f1 := k79; have f2 := t101; have f3 := j9_51 hJ15 rfl; have g0 := rg32 (y61.2.1 0); have g1 := rg32 x100; have z1 : (1 : Int32).toInt = 1 := (by decide); omega)
                        exact nl59 (σ12, lf [x100, (y94.2.1 0), (y98.2.1 0)], lg []) ⟨rfl, (show (-1 : Int) ≤ (x100 : Int32).toInt ∧ (x100 : Int32).toInt ≤ 3 from (by have f0 := t101; have f1 := b62; have f2 := k79; have f3 := j9_51 hJ15 rfl; have g0 := rg32 x100; have z1 : (1 : Int32).toInt = 1 := (by decide); omega)), (show (0 : Int) ≤ ((y94.2.1 0) : Int32).toInt ∧ ((y94.2.1 0) : Int32).toInt ≤ 1 from (by have f0 := b95; have g0 := rg32 (y94.2.1 0); omega)), (show (-1 : Int) ≤ ((y98.2.1 0) : Int32).toInt ∧ ((y98.2.1 0) : Int32).toInt ≤ 2 from (by have f0 := b99; have g0 := rg32 (y98.2.1 0); omega)), trivial⟩ (show ((4 : Int) - x100.toInt).toNat < _ from t102) _ _ _ hP hS (lv_sub hl [0, 2, 1, 4, 5, 6, 7, 8, 9] rfl)
                      ·
                        intro nj96
                        refine lv_if_eq (tgt := 188) hx hb dX9_leaves_180 (by decide) (fun c103 => ?_) (fun c103 => ?_)
                        ·
                          have k104 := peq32 c103
                          refine lv_iload hx hb dX9_leaves_188 (lv_at hl 3 rfl) ?_
                          exact nj96 (σ12, lf [(y61.2.1 2)], lg []) ⟨rfl, (show (-1 : Int) ≤ ((y61.2.1 2) : Int32).toInt ∧ ((y61.2.1 2) : Int32).toInt ≤ 2 from (by have f0 := b64; have g0 := rg32 (y61.2.1 2); omega)), trivial⟩ _ _ _ hP hS (lv_sub hl [0, 1, 2, 3, 4, 5, 6, 7, 8, 9] rfl)
                        ·
                          have k105 := neq32 c103
                          refine lv_iload hx hb dX9_leaves_183 (lv_at hl 2 rfl) ?_
                          refine lv_goto (tgt := 190) hx hb dX9_leaves_185 (by decide) ?_
                          exact nj96 (σ12, lf [(y61.2.1 0)], lg []) ⟨rfl, (show (-1 : Int) ≤ ((y61.2.1 0) : Int32).toInt ∧ ((y61.2.1 0) : Int32).toInt ≤ 2 from (by have f0 := b62; have f1 := k79; have f2 := j9_51 hJ15 rfl; have g0 := rg32 (y61.2.1 0); omega)), trivial⟩ _ _ _ hP hS (lv_sub hl [0, 1, 2, 3, 4, 5, 6, 7, 8, 9] rfl)
                    ·
                      intro nj92
                      refine cut9 (D := D) (cy := cy) (g := g) (A := A9 cy g s.heap.size) (H0 := s.heap) 10 175 (fun x : LZ => [(9, .int r88), (8, .int (y61.2.1 0)), (7, .int (y61.2.1 1)), (5, .int (y61.2.1 2)), (6, .int (y32.2.1 0)), (4, .int (y32.2.1 2)), (0, .ref (g 60)), (1, .int p1), (2, .int p2), (3, .int p3)]) (fun x : LZ => []) (fun x : LZ => (x.1 = σ12) ∧ True) ?_ ?_
                      ·
                        intro y108 hI107 H locs ls hP hS hl
                        rw [show y108.1 = σ12 from hI107.1] at hP
                        have hl : lv_has ls 10 [(9, .int r88), (8, .int (y61.2.1 0)), (7, .int (y61.2.1 1)), (5, .int (y61.2.1 2)), (6, .int (y32.2.1 0)), (4, .int (y32.2.1 2)), (0, .ref (g 60)), (1, .int p1), (2, .int p2), (3, .int p3)] := hl
                        refine lv_iconst (v := 0) hx hb dX9_leaves_175 (by decide) ?_
                        exact nj92 (σ12, lf [0], lg []) ⟨rfl, (show (0 : Int) ≤ (0 : Int32).toInt ∧ (0 : Int32).toInt ≤ 1 from (by have z0 : (0 : Int32).toInt = 0 := (by decide); omega)), trivial⟩ _ _ _ hP hS (lv_sub hl [0, 1, 2, 3, 4, 5, 6, 7, 8, 9] rfl)
                      ·
                        intro nj106
                        refine lv_icmp_eq (tgt := 175) hx hb dX9_leaves_123 (by decide) (fun c109 => ?_) (fun c109 => ?_)
                        ·
                          have k110 := peq32 c109
                          exact nj106 (σ12, lf [], lg []) ⟨rfl, trivial⟩ _ _ _ hP hS (lv_sub hl [0, 1, 2, 3, 4, 5, 6, 7, 8, 9] rfl)
                        ·
                          have k111 := neq32 c109
                          refine lv_aload_n hx hb dX9_leaves_126 rfl (lv_at hl 6 rfl) ?_
                          refine g9_50 hx hb hts hown hK hP (hts _ q1410) dX9_leaves_127 ?_
                          refine lv_sipush (v := 29791) hx hb dX9_leaves_130 (by decide) ?_
                          refine lv_iload hx hb dX9_leaves_133 (lv_at hl 4 rfl) ?_
                          refine lv_iconst (v := 1) hx hb dX9_leaves_135 (by decide) ?_
                          refine lv_iadd hx hb dX9_leaves_136 ?_
                          refine lv_topi (fun x112 ex112 => ?_)
                          have t113 := addO ex112 (by have f0 := b33; have f1 := b36; have f2 := k44; have f3 := t64 (a := p3); have f4 := rg32 p3; have f5 := b35; have f6 := b27; have f7 := t64 (a := x21); have f8 := b26; have f9 := k29; have f10 := t22; have f11 := rg32 x21; have f12 := t20; have f13 := b7; have f14 := b6; have f15 := b8; have f16 := k10; have g1 := rg32 (y32.2.1 0); have z0 : (0 : Int32).toInt = 0 := (by decide); have zl0 : (0 : Int64).toInt = 0 := (by decide); have z1 : (1 : Int32).toInt = 1 := (by decide); have w21 := t64 (a := p3); have w22 := t64 (a := x21); omega)
                          refine lv_imul hx hb dX9_leaves_137 ?_
                          refine lv_topi (fun x114 ex114 => ?_)
                          have t115 := mulC' (n := 29791) ex114 (by decide) (by have f0 := t113; have f1 := b33; have f2 := b36; have f3 := k44; have f4 := t64 (a := p3); have f5 := rg32 p3; have f6 := b35; have f7 := b27; have f8 := t64 (a := x21); have f9 := b26; have f10 := k29; have f11 := t22; have f12 := rg32 x21; have f13 := t20; have f14 := b7; have f15 := b6; have f16 := b8; have f17 := k10; have g1 := rg32 x112; have z0 : (0 : Int32).toInt = 0 := (by decide); have zl0 : (0 : Int64).toInt = 0 := (by decide); have z1 : (1 : Int32).toInt = 1 := (by decide); have w22 := t64 (a := p3); have w23 := t64 (a := x21); omega)
                          refine lv_iload hx hb dX9_leaves_138 (lv_at hl 0 rfl) ?_
                          refine lv_iadd hx hb dX9_leaves_140 ?_
                          refine lv_topi (fun x116 ex116 => ?_)
                          have t117 := addO ex116 (by have f0 := b91; have f1 := k111; have f2 := t115; have f3 := t113; have f4 := b33; have f5 := b36; have f6 := k44; have f7 := t64 (a := p3); have f8 := rg32 p3; have f9 := b35; have f10 := b27; have f11 := t64 (a := x21); have f12 := b26; have f13 := k29; have f14 := t22; have f15 := rg32 x21; have f16 := t20; have f17 := b7; have f18 := b6; have f19 := b8; have f20 := k10; have g1 := rg32 r88; have g2 := rg32 x114; have zm1 : ((-1) : Int32).toInt = (-1) := (by decide); have z0 : (0 : Int32).toInt = 0 := (by decide); have zl0 : (0 : Int64).toInt = 0 := (by decide); have z1 : (1 : Int32).toInt = 1 := (by decide); have w27 := t64 (a := p3); have w28 := t64 (a := x21); omega)
                          obtain ⟨x118, ex118⟩ : ∃ z, (σ12 9).2.2.1 50 x116.toInt.toNat = z := ⟨_, rfl⟩
                          refine l9_50 (x := x118) hx hb hK hP (vpo (by have f0 := t117; have f1 := b91; have f2 := k111; have f3 := t115; have f4 := t113; have f5 := b33; have f6 := b36; have f7 := k44; have f8 := t64 (a := p3); have f9 := rg32 p3; have f10 := b35; have f11 := b27; have f12 := t64 (a := x21); have f13 := b26; have f14 := k29; have f15 := t22; have f16 := rg32 x21; have f17 := t20; have f18 := b7; have f19 := b6; have f20 := b8; have f21 := k10; have g1 := rg32 x116; have zm1 : ((-1) : Int32).toInt = (-1) := (by decide); have z0 : (0 : Int32).toInt = 0 := (by decide); have zl0 : (0 : Int64).toInt = 0 := (by decide); have z1 : (1 : Int32).toInt = 1 := (by decide); have w27 := t64 (a := p3); have w28 := t64 (a := x21); omega)) ex118 dX9_leaves_141 ?_
                          refine lv_iload hx hb dX9_leaves_142 (lv_at hl 1 rfl) ?_
                          refine lv_iconst (v := (-1)) hx hb dX9_leaves_144 (by decide) ?_
                          refine cut9 (D := D) (cy := cy) (g := g) (A := A9 cy g s.heap.size) (H0 := s.heap) 10 153 (fun x : LZ => [(9, .int r88), (8, .int (y61.2.1 0)), (7, .int (y61.2.1 1)), (5, .int (y61.2.1 2)), (6, .int (y32.2.1 0)), (4, .int (y32.2.1 2)), (0, .ref (g 60)), (1, .int p1), (2, .int p2), (3, .int p3)]) (fun x : LZ => [.int (x.2.1 0), .int x118]) (fun x : LZ => (x.1 = σ12) ∧ ((0 : Int) ≤ (x.2.1 0).toInt ∧ (x.2.1 0).toInt ≤ 1) ∧ True) ?_ ?_
                          ·
                            intro y121 hI120 H locs ls hP hS hl
                            rw [show y121.1 = σ12 from hI120.1] at hP
                            have b122 : (0 : Int) ≤ (y121.2.1 0).toInt ∧ (y121.2.1 0).toInt ≤ 1 := hI120.2.1
                            have hl : lv_has ls 10 [(9, .int r88), (8, .int (y61.2.1 0)), (7, .int (y61.2.1 1)), (5, .int (y61.2.1 2)), (6, .int (y32.2.1 0)), (4, .int (y32.2.1 2)), (0, .ref (g 60)), (1, .int p1), (2, .int p2), (3, .int p3)] := hl
                            refine W.eq (g2 := F0 m 153 ls [.int (y121.2.1 0), .int x118]) rfl ?_
                            refine lv_iadd hx hb dX9_leaves_153 ?_
                            refine lv_topi (fun x123 ex123 => ?_)
                            refine lv_aload_n hx hb dX9_leaves_154 rfl (lv_at hl 6 rfl) ?_
                            refine g9_50 hx hb hts hown hK hP (hts _ q1410) dX9_leaves_155 ?_
                            refine lv_sipush (v := 29791) hx hb dX9_leaves_158 (by decide) ?_
                            refine lv_iload hx hb dX9_leaves_161 (lv_at hl 4 rfl) ?_
                            refine lv_imul hx hb dX9_leaves_163 ?_
                            refine lv_topi (fun x124 ex124 => ?_)
                            have t125 := mulC' (n := 29791) ex124 (by decide) (by have f0 := b33; have f1 := b36; have f2 := k44; have f3 := t113; have f4 := t64 (a := p3); have f5 := rg32 p3; have f6 := b35; have f7 := t115; have f8 := b27; have f9 := t117; have f10 := t64 (a := x21); have f11 := b26; have f12 := k29; have f13 := b91; have f14 := k111; have f15 := t22; have f16 := rg32 x21; have f17 := t20; have f18 := b7; have f19 := b6; have f20 := b8; have f21 := k10; have g1 := rg32 (y32.2.1 0); have zm1 : ((-1) : Int32).toInt = (-1) := (by decide); have z0 : (0 : Int32).toInt = 0 := (by decide); have zl0 : (0 : Int64).toInt = 0 := (by decide); have z1 : (1 : Int32).toInt = 1 := (by decide); have w27 := t64 (a := p3); have w28 := t64 (a := x21); omega)
                            refine lv_iload hx hb dX9_leaves_164 (lv_at hl 5 rfl) ?_
                            refine lv_iadd hx hb dX9_leaves_166 ?_
                            refine lv_topi (fun x126 ex126 => ?_)
                            have t127 := addO ex126 (by have f0 := b35; have f1 := b36; have f2 := t125; have f3 := b33; have f4 := k44; have f5 := t113; have f6 := t64 (a := p3); have f7 := rg32 p3; have f8 := t115; have f9 := b27; have f10 := t117; have f11 := t64 (a := x21); have f12 := b26; have f13 := k29; have f14 := b91; have f15 := k111; have f16 := t22; have f17 := rg32 x21; have f18 := t20; have f19 := b7; have f20 := b6; have f21 := b8; have f22 := k10; have g1 := rg32 (y32.2.1 2); have g2 := rg32 x124; have zm1 : ((-1) : Int32).toInt = (-1) := (by decide); have z0 : (0 : Int32).toInt = 0 := (by decide); have zl0 : (0 : Int64).toInt = 0 := (by decide); have z1 : (1 : Int32).toInt = 1 := (by decide); have w29 := t64 (a := p3); have w30 := t64 (a := x21); omega)
                            obtain ⟨x128, ex128⟩ : ∃ z, (σ12 9).2.2.1 50 x126.toInt.toNat = z := ⟨_, rfl⟩
                            refine l9_50 (x := x128) hx hb hK hP (vpo (by have f0 := t127; have f1 := b35; have f2 := b36; have f3 := t125; have f4 := b33; have f5 := k44; have f6 := t113; have f7 := t64 (a := p3); have f8 := rg32 p3; have f9 := t115; have f10 := b27; have f11 := t117; have f12 := t64 (a := x21); have f13 := b26; have f14 := k29; have f15 := b91; have f16 := k111; have f17 := t22; have f18 := rg32 x21; have f19 := t20; have f20 := b7; have f21 := b6; have f22 := b8; have f23 := k10; have g1 := rg32 x126; have zm1 : ((-1) : Int32).toInt = (-1) := (by decide); have z0 : (0 : Int32).toInt = 0 := (by decide); have zl0 : (0 : Int64).toInt = 0 := (by decide); have z1 : (1 : Int32).toInt = 1 := (by decide); have w29 := t64 (a := p3); have w30 := t64 (a := x21); omega)) ex128 dX9_leaves_167 ?_
                            refine lv_icmp_ne (tgt := 175) hx hb dX9_leaves_168 (by decide) (fun c129 => ?_) (fun c129 => ?_)
                            ·
                              have k130 := neq32 c129
                              exact nj106 (σ12, lf [], lg []) ⟨rfl, trivial⟩ _ _ _ hP hS (lv_sub hl [0, 1, 2, 3, 4, 5, 6, 7, 8, 9] rfl)
                            ·
                              have k131 := peq32 c129
                              refine lv_iconst (v := 1) hx hb dX9_leaves_171 (by decide) ?_
                              refine lv_goto (tgt := 176) hx hb dX9_leaves_172 (by decide) ?_
                              exact nj92 (σ12, lf [1], lg []) ⟨rfl, (show (0 : Int) ≤ (1 : Int32).toInt ∧ (1 : Int32).toInt ≤ 1 from (by have z1 : (1 : Int32).toInt = 1 := (by decide); omega)), trivial⟩ _ _ _ hP hS (lv_sub hl [0, 1, 2, 3, 4, 5, 6, 7, 8, 9] rfl)
                          ·
                            intro nj119
                            refine lv_icmp_ne (tgt := 152) hx hb dX9_leaves_145 (by decide) (fun c132 => ?_) (fun c132 => ?_)
                            ·
                              have k133 := neq32 c132
                              refine lv_iconst (v := 1) hx hb dX9_leaves_152 (by decide) ?_
                              exact nj119 (σ12, lf [1], lg []) ⟨rfl, (show (0 : Int) ≤ (1 : Int32).toInt ∧ (1 : Int32).toInt ≤ 1 from (by have z1 : (1 : Int32).toInt = 1 := (by decide); omega)), trivial⟩ _ _ _ hP hS (lv_sub hl [0, 1, 2, 3, 4, 5, 6, 7, 8, 9] rfl)
                            ·
                              have k134 := peq32 c132
                              refine lv_iconst (v := 0) hx hb dX9_leaves_148 (by decide) ?_
                              refine lv_goto (tgt := 153) hx hb dX9_leaves_149 (by decide) ?_
                              exact nj119 (σ12, lf [0], lg []) ⟨rfl, (show (0 : Int) ≤ (0 : Int32).toInt ∧ (0 : Int32).toInt ≤ 1 from (by have z0 : (0 : Int32).toInt = 0 := (by decide); omega)), trivial⟩ _ _ _ hP hS (lv_sub hl [0, 1, 2, 3, 4, 5, 6, 7, 8, 9] rfl)
            ·
              have k135 := neq32 c57
              refine lv_iconst (v := 0) hx hb dX9_leaves_76 (by decide) ?_
              refine lv_istore (lv' := [(4, .int 0), (5, .int (-1)), (6, .int (y32.2.1 0)), (0, .ref (g 60)), (1, .int p1), (2, .int p2), (3, .int p3)]) hx hb dX9_leaves_77 hl (by decide) rfl (fun ls hl => ?_)
              refine lv_goto (tgt := 216) hx hb dX9_leaves_79 (by decide) ?_
              exact nj49 (σ12, lf [(-1), 0], lg []) ⟨rfl, (show (-1 : Int) ≤ ((-1) : Int32).toInt ∧ ((-1) : Int32).toInt ≤ 2 from (by have zm1 : ((-1) : Int32).toInt = (-1) := (by decide); omega)), (show (-1 : Int) ≤ (0 : Int32).toInt ∧ (0 : Int32).toInt ≤ 29790 from (by have z0 : (0 : Int32).toInt = 0 := (by decide); omega)), trivial⟩ _ _ _ hP hS (lv_sub hl [1, 2, 0, 3, 4, 5, 6] rfl)
      ·
        have k136 := peq32 c28
        refine lv_iconst (v := (-1)) hx hb dX9_leaves_46 (by decide) ?_
        exact W.iret (v := (-1)) hx hb hr (fun tS ht hW => ⟨⟨(-1), σ12, rfl, ⟨Fr.tr (Fr.tr (Fr.rf) (sI_f eσ1) (fN_L rfl)) hF14 (fL_sub rfl), hJ15, trivial⟩, (show va_P D clz (WD9 cy g σ12) tS.heap by rw [ht]; exact hP)⟩, hS.F ht⟩) hS.2.2 dX9_leaves_47
  ·
    have k137 := peq32 c9
    refine lv_bipush (v := (-2)) hx hb dX9_leaves_14 (by decide) ?_
    exact W.iret (v := (-2)) hx hb hr (fun tS ht hW => ⟨⟨(-2), σ1, rfl, ⟨Fr.tr (Fr.rf) (sI_f eσ1) (fN_L rfl), hJ2, trivial⟩, (show va_P D clz (WD9 cy g σ1) tS.heap by rw [ht]; exact hP)⟩, hS.F ht⟩) hS.2.2 dX9_leaves_16

theorem q2023 : Cond.code yX9_line_ cX9_line_ 4 (some .int) ∈ lw_g := lw_gm (List.mem_of_getElem? (i := 2023) (by decide +kernel)) rfl
theorem dX9_line__0 : decode cX9_line_ 0 = .ok (.aload_n 0, 1) := by decide +kernel
theorem dX9_line__1 : decode cX9_line_ 1 = .ok (.iconst 0, 1) := by decide +kernel
theorem dX9_line__2 : decode cX9_line_ 2 = .ok (.putfield 129, 3) := by decide +kernel
theorem dX9_line__5 : decode cX9_line_ 5 = .ok (.aload_n 0, 1) := by decide +kernel
theorem dX9_line__6 : decode cX9_line_ 6 = .ok (.iload_n 1, 1) := by decide +kernel
theorem dX9_line__7 : decode cX9_line_ 7 = .ok (.invokevirtual 303, 3) := by decide +kernel
theorem dX9_line__10 : decode cX9_line_ 10 = .ok (.ifCond .ne 6, 3) := by decide +kernel
theorem dX9_line__13 : decode cX9_line_ 13 = .ok (.bipush (-2), 2) := by decide +kernel
theorem dX9_line__15 : decode cX9_line_ 15 = .ok (.ireturn, 1) := by decide +kernel
theorem dX9_line__16 : decode cX9_line_ 16 = .ok (.iconst 1, 1) := by decide +kernel
theorem dX9_line__17 : decode cX9_line_ 17 = .ok (.istore_n 2, 1) := by decide +kernel
theorem dX9_line__18 : decode cX9_line_ 18 = .ok (.iload_n 2, 1) := by decide +kernel
theorem dX9_line__19 : decode cX9_line_ 19 = .ok (.iconst 3, 1) := by decide +kernel
theorem dX9_line__20 : decode cX9_line_ 20 = .ok (.if_icmp .gt 50, 3) := by decide +kernel
theorem dX9_line__23 : decode cX9_line_ 23 = .ok (.iconst 1, 1) := by decide +kernel
theorem dX9_line__24 : decode cX9_line_ 24 = .ok (.istore_n 3, 1) := by decide +kernel
theorem dX9_line__25 : decode cX9_line_ 25 = .ok (.iload_n 3, 1) := by decide +kernel
theorem dX9_line__26 : decode cX9_line_ 26 = .ok (.iconst 1, 1) := by decide +kernel
theorem dX9_line__27 : decode cX9_line_ 27 = .ok (.aload_n 0, 1) := by decide +kernel
theorem dX9_line__28 : decode cX9_line_ 28 = .ok (.getfield 34, 3) := by decide +kernel
theorem dX9_line__31 : decode cX9_line_ 31 = .ok (.iconst 3, 1) := by decide +kernel
theorem dX9_line__32 : decode cX9_line_ 32 = .ok (.iaload, 1) := by decide +kernel
theorem dX9_line__33 : decode cX9_line_ 33 = .ok (.ishl, 1) := by decide +kernel
theorem dX9_line__34 : decode cX9_line_ 34 = .ok (.if_icmp .ge 30, 3) := by decide +kernel
theorem dX9_line__37 : decode cX9_line_ 37 = .ok (.iload_n 3, 1) := by decide +kernel
theorem dX9_line__38 : decode cX9_line_ 38 = .ok (.invokestatic 464, 3) := by decide +kernel
theorem dX9_line__41 : decode cX9_line_ 41 = .ok (.iload_n 2, 1) := by decide +kernel
theorem dX9_line__42 : decode cX9_line_ 42 = .ok (.if_icmp .ne 16, 3) := by decide +kernel
theorem dX9_line__45 : decode cX9_line_ 45 = .ok (.aload_n 0, 1) := by decide +kernel
theorem dX9_line__46 : decode cX9_line_ 46 = .ok (.iload_n 3, 1) := by decide +kernel
theorem dX9_line__47 : decode cX9_line_ 47 = .ok (.iload_n 1, 1) := by decide +kernel
theorem dX9_line__48 : decode cX9_line_ 48 = .ok (.invokevirtual 497, 3) := by decide +kernel
theorem dX9_line__51 : decode cX9_line_ 51 = .ok (.bipush 99, 2) := by decide +kernel
theorem dX9_line__53 : decode cX9_line_ 53 = .ok (.if_icmp .ge 5, 3) := by decide +kernel
theorem dX9_line__56 : decode cX9_line_ 56 = .ok (.iload_n 3, 1) := by decide +kernel
theorem dX9_line__57 : decode cX9_line_ 57 = .ok (.ireturn, 1) := by decide +kernel
theorem dX9_line__58 : decode cX9_line_ 58 = .ok (.iinc 3 1, 3) := by decide +kernel
theorem dX9_line__61 : decode cX9_line_ 61 = .ok (.goto (-36), 3) := by decide +kernel
theorem dX9_line__64 : decode cX9_line_ 64 = .ok (.iinc 2 1, 3) := by decide +kernel
theorem dX9_line__67 : decode cX9_line_ 67 = .ok (.goto (-49), 3) := by decide +kernel
theorem dX9_line__70 : decode cX9_line_ 70 = .ok (.iconst (-1), 1) := by decide +kernel
theorem dX9_line__71 : decode cX9_line_ 71 = .ok (.ireturn, 1) := by decide +kernel
set_option maxHeartbeats 4000000 in
set_option maxRecDepth 100000 in
theorem m_X9_line_ (l : Launch) (D : va_G) (cy : Nat → ClassId) (g : Nat → Nat) (σ : ST) (p1 : Int32) (sz : Nat) (hJ : J9 (σ 9))  : Met l yX9_line_ (ww yX9_line_ cX9_line_ 4 (some .int)) ({ frames := 5, cells := 0, slots := 0, locals := 320 }) (va_Pc [.ref (g 60), .int p1] (pr9 D cy g σ sz)) (qi9 D cy g sz (fun r τ => Fr (fL [0, 50, 51, 52, 53, 54]) σ τ ∧ J9 (τ 9) ∧ True)) 0 0 (A9 cy g sz) := by
  refine Met.ofW (cc := cX9_line_) (maxL := 4) (ret := (some .int)) (by decide) rfl ?_
  intro p e s m args below meth c s₁ B hml hv
  obtain ⟨rfl, hsz, hP, hK, hD0, hC⟩ := hv
  have hx := B.exec
  have hb := B.bytes
  have hr := B.returns
  have hts := hts_g (atoms_spec (ws := ww yX9_line_ cX9_line_ 4 (some .int)) B.pre)
  have hown : s.vm.findClass RX9 = some m.cls := findClass_of_methodNamed B.named
  have hlocks := B.notSynchronized
  clear B
  subst hsz
  have hD := fun τ => A9_D (sz := s.heap.size) hD0 τ
  clear hD0
  have hS : va_S (A9 cy g s.heap.size) s.heap s.heap [] := va_S.rf
  have hl := lv_entry ([.ref (g 60), .int p1]) (n := 4) (Nat.le_of_ble_eq_true rfl)
  rw [lg_entry_eq]
  generalize (lg_sl ([.ref (g 60), .int p1]) ++ List.replicate (4 - (lg_sl ([.ref (g 60), .int p1])).length) Slot.unset).toArray = ls at hl ⊢
  have hl : lv_has ls 4 [(0, .ref (g 60)), (1, .int p1)] := hl
  refine lv_aload_n hx hb dX9_line__0 rfl (lv_at hl 0 rfl) ?_
  refine lv_iconst (v := 0) hx hb dX9_line__1 (by decide) ?_
  refine p9_0 hx hb hts hown hK hP hD hS (hts _ q1360) dX9_line__2 (fun H locs σ1 eσ1 hP hS => ?_)
  have hJ2 : J9 (σ1 9) := hJ.I eσ1 (show JI9 0 (0 : Int32) from trivial)
  refine lv_aload_n hx hb dX9_line__5 rfl (lv_at hl 0 rfl) ?_
  refine lv_iload_n hx hb dX9_line__6 rfl (lv_at hl 1 rfl) ?_
  refine va_calli (va_runV (As := [.int p1]) (rest := []) ⟨hx, hb, hml, hown, hts⟩ (m_X9_isPart l D cy g σ1 p1 _ hJ2 ) (cwV 1 hts (gd_V q1722 q1724 q74 q134 q1725) rfl rfl rfl (by decide +kernel) ⟨Nat.le_of_ble_eq_true rfl, Nat.le_of_ble_eq_true rfl⟩) (pv9 hP hK hD hC hS (va_recv hK hP (ci := 9) (q0 := 0) rfl rfl)) rfl rfl hl.1 rfl (lv_room (Nat.le_of_ble_eq_true rfl)) dX9_line__7 ⟨Nat.le_of_ble_eq_true rfl, Nat.le_of_ble_eq_true rfl⟩) hS (fun q _ h => up9 hS q h) (up9 hS) (fun r3 σ4 tS H1 locs ht hvm hw5 hB hz1 hk1 hS => ?_)
  have hP : va_P D clz (WD9 cy g σ4) H1 := by rw [← ht]; exact hB
  clear hB hz1 hk1 hvm ht
  generalize H1 = H at hP hS ⊢
  have hw5E : σ1 = σ4 := (hw5.1).symm
  subst hw5E
  have b6 : (0 : Int) ≤ r3.toInt ∧ r3.toInt ≤ 1 := hw5.2.1
  have b7 : (r3.toInt = 0) ∨ ((0 : Int) ≤ p1.toInt ∧ p1.toInt ≤ 2) := hw5.2.2.1
  have b8 : (r3.toInt = 0) ∨ (0 ≤ p1.toInt ∧ p1.toInt < ((σ1 9).2.2.1 17 4).toInt) := hw5.2.2.2.1
  refine lv_if_ne (tgt := 16) hx hb dX9_line__10 (by decide) (fun c9 => ?_) (fun c9 => ?_)
  ·
    have k10 := neq32 c9
    refine lv_iconst (v := 1) hx hb dX9_line__16 (by decide) ?_
    refine lv_istore_n (lv' := [(2, .int 1), (0, .ref (g 60)), (1, .int p1)]) hx hb dX9_line__17 rfl hl (by decide) rfl (fun ls hl => ?_)
    refine loop9 4 18 (fun x : LZ => [(2, .int (x.2.1 0)), (0, .ref (g 60)), (1, .int p1)]) (fun x : LZ => (Fr (fL [50, 51, 52, 53, 54]) σ1 x.1) ∧ (J9 (x.1 9)) ∧ ((1 : Int) ≤ (x.2.1 0).toInt ∧ (x.2.1 0).toInt ≤ 4) ∧ True) (fun x : LZ => ((5 : Int) - (x.2.1 0).toInt).toNat) ?_ (σ1, lf [1], lg []) ⟨Fr.rf, hJ2, (show (1 : Int) ≤ (1 : Int32).toInt ∧ (1 : Int32).toInt ≤ 4 from (by have z1 : (1 : Int32).toInt = 1 := (by decide); omega)), trivial⟩ _ _ _ hP hS (lv_sub hl [0, 1, 2] rfl)
    intro y13 hI12 nl11 H locs ls hP hS hl
    obtain ⟨σ14, eσ14⟩ : ∃ z, z = y13.1 := ⟨_, rfl⟩
    rw [← eσ14] at hP hI12
    have hF15 : Fr (fL [50, 51, 52, 53, 54]) σ1 σ14 := hI12.1
    have hJ16 : J9 (σ14 9) := hI12.2.1
    have b17 : (1 : Int) ≤ (y13.2.1 0).toInt ∧ (y13.2.1 0).toInt ≤ 4 := hI12.2.2.1
    have hl : lv_has ls 4 [(2, .int (y13.2.1 0)), (0, .ref (g 60)), (1, .int p1)] := hl
    refine lv_iload_n hx hb dX9_line__18 rfl (lv_at hl 0 rfl) ?_
    refine lv_iconst (v := 3) hx hb dX9_line__19 (by decide) ?_
    refine lv_icmp_gt (tgt := 70) hx hb dX9_line__20 (by decide) (fun c18 => ?_) (fun c18 => ?_)
    ·
      have k19 := plt32 c18
      refine lv_iconst (v := (-1)) hx hb dX9_line__70 (by decide) ?_
      exact W.iret (v := (-1)) hx hb hr (fun tS ht hW => ⟨⟨(-1), σ14, rfl, ⟨Fr.tr (Fr.tr (Fr.rf) (sI_f eσ1) (fN_L rfl)) hF15 (fL_sub rfl), hJ16, trivial⟩, (show va_P D clz (WD9 cy g σ14) tS.heap by rw [ht]; exact hP)⟩, hS.F ht⟩) hS.2.2 dX9_line__71
    ·
      have k20 := nlt32 c18
      refine lv_iconst (v := 1) hx hb dX9_line__23 (by decide) ?_
      refine lv_istore_n (lv' := [(3, .int 1), (2, .int (y13.2.1 0)), (0, .ref (g 60)), (1, .int p1)]) hx hb dX9_line__24 rfl hl (by decide) rfl (fun ls hl => ?_)
      refine loop9 4 25 (fun x : LZ => [(3, .int (x.2.1 0)), (2, .int (y13.2.1 0)), (0, .ref (g 60)), (1, .int p1)]) (fun x : LZ => (Fr (fL [50, 51, 52, 53, 54]) σ14 x.1) ∧ (J9 (x.1 9)) ∧ ((1 : Int) ≤ (x.2.1 0).toInt ∧ (x.2.1 0).toInt ≤ 512) ∧ True) (fun x : LZ => ((513 : Int) - (x.2.1 0).toInt).toNat) ?_ (σ14, lf [1], lg []) ⟨Fr.rf, hJ16, (show (1 : Int) ≤ (1 : Int32).toInt ∧ (1 : Int32).toInt ≤ 512 from (by have z1 : (1 : Int32).toInt = 1 := (by decide); omega)), trivial⟩ _ _ _ hP hS (lv_sub hl [0, 1, 2, 3] rfl)
      intro y23 hI22 nl21 H locs ls hP hS hl
      obtain ⟨σ24, eσ24⟩ : ∃ z, z = y23.1 := ⟨_, rfl⟩
      rw [← eσ24] at hP hI22
      have hF25 : Fr (fL [50, 51, 52, 53, 54]) σ14 σ24 := hI22.1
      have hJ26 : J9 (σ24 9) := hI22.2.1
      have b27 : (1 : Int) ≤ (y23.2.1 0).toInt ∧ (y23.2.1 0).toInt ≤ 512 := hI22.2.2.1
      have hl : lv_has ls 4 [(3, .int (y23.2.1 0)), (2, .int (y13.2.1 0)), (0, .ref (g 60)), (1, .int p1)] := hl
      refine lv_iload_n hx hb dX9_line__25 rfl (lv_at hl 0 rfl) ?_
      refine lv_iconst (v := 1) hx hb dX9_line__26 (by decide) ?_
      refine lv_aload_n hx hb dX9_line__27 rfl (lv_at hl 2 rfl) ?_
      refine g9_17 hx hb hts hown hK hP (hts _ q1377) dX9_line__28 ?_
      refine lv_iconst (v := 3) hx hb dX9_line__31 (by decide) ?_
      refine l9_17 (x := ((σ 9).2.2.1 17 3)) hx hb hK hP (vpi (by decide)) ((congrFun (((hF25 9 17 rfl).2.2.1).trans (((hF15 9 17 rfl).2.2.1).trans (((sI_f eσ1) 9 17 rfl).2.2.1))) _).trans (congrArg ((σ 9).2.2.1 17) (show (3 : Int32).toInt.toNat = 3 by decide))) dX9_line__32 ?_
      refine lv_ishl hx hb dX9_line__33 ?_
      refine lv_topi (fun x28 ex28 => ?_)
      have t29 := shl9 ex28 (by have f0 := a9_17 hJ (j := 3) rfl; omega)
      refine lv_icmp_ge (tgt := 64) hx hb dX9_line__34 (by decide) (fun c30 => ?_) (fun c30 => ?_)
      ·
        have k31 := ple32 c30
        obtain ⟨x32, ex32⟩ : ∃ y : Int32, y = (y13.2.1 0) + 1 := ⟨_, rfl⟩
        have t33 := addO ex32 (by have f0 := b17; have f1 := k20; have g0 := rg32 (y13.2.1 0); have z1 : (1 : Int32).toInt = 1 := (by decide); have z3 : (3 : Int32).toInt = 3 := (by decide); omega)
        refine lv_iinc (v := x32) (lv' := [(2, .int x32), (3, .int (y23.2.1 0)), (0, .ref (g 60)), (1, .int p1)]) hx hb dX9_line__64 hl (k := 1) rfl (by rw [ex32]; rfl) (by decide) rfl (fun ls hl => ?_)
        refine lv_goto (tgt := 18) hx hb dX9_line__67 (by decide) ?_
        have t34 : ((5 : Int) - x32.toInt).toNat < ((5 : Int) - (y13.2.1 0).toInt).toNat := (by have f0 := b17; have f1 := k20; have f2 := t33; have g0 := rg32 (y13.2.1 0); have g1 := rg32 x32; have z1 : (1 : Int32).toInt = 1 := (by decide); have z3 : (3 : Int32).toInt = 3 := (by decide); omega)
        exact nl11 (σ24, lf [x32], lg []) ⟨Fr.tr (Fr.tr (Fr.rf) hF15 (fL_sub rfl)) hF25 (fL_sub rfl), hJ26, (show (1 : Int) ≤ (x32 : Int32).toInt ∧ (x32 : Int32).toInt ≤ 4 from (by have f0 := t33; have f1 := b17; have f2 := k20; have g0 := rg32 x32; have z1 : (1 : Int32).toInt = 1 := (by decide); have z3 : (3 : Int32).toInt = 3 := (by decide); omega)), trivial⟩ (show ((5 : Int) - x32.toInt).toNat < _ from by first | exact t34 | (rw [← eσ14]; exact t34)) _ _ _ hP hS (lv_sub hl [0, 2, 3] rfl)
      ·
        have k35 := nle32 c30
        refine lv_iload_n hx hb dX9_line__37 rfl (lv_at hl 0 rfl) ?_
        refine va_calli (va_runS (As := [.int (y23.2.1 0)]) (rest := []) ⟨hx, hb, hml, hown, hts⟩ (m_X9_bits l D cy g σ24 (y23.2.1 0) _ hJ26 ) (va_cwS 1 hts (gd_S q1957 q1958 q134 q1959) rfl rfl rfl (by decide +kernel) ⟨Nat.le_of_ble_eq_true rfl, Nat.le_of_ble_eq_true rfl⟩) (ps9 hP hK hD hC hS) rfl rfl hl.1 rfl (lv_room (Nat.le_of_ble_eq_true rfl)) dX9_line__38 ⟨Nat.le_of_ble_eq_true rfl, Nat.le_of_ble_eq_true rfl⟩) hS (fun q _ h => up9 hS q h) (up9 hS) (fun r36 σ37 tS H1 locs ht hvm hw38 hB hz1 hk1 hS => ?_)
        have hP : va_P D clz (WD9 cy g σ37) H1 := by rw [← ht]; exact hB
        clear hB hz1 hk1 hvm ht
        generalize H1 = H at hP hS ⊢
        have hw38E : σ24 = σ37 := (hw38.1).symm
        subst hw38E
        have b39 : r36.toInt = (bitT (y23.2.1 0)).toInt := hw38.2.1
        refine lv_iload_n hx hb dX9_line__41 rfl (lv_at hl 1 rfl) ?_
        refine cut9 (D := D) (cy := cy) (g := g) (A := A9 cy g s.heap.size) (H0 := s.heap) 4 58 (fun x : LZ => [(3, .int (y23.2.1 0)), (2, .int (y13.2.1 0)), (0, .ref (g 60)), (1, .int p1)]) (fun x : LZ => []) (fun x : LZ => (Fr (fL [50, 51, 52, 53, 54]) σ24 x.1) ∧ (J9 (x.1 9)) ∧ True) ?_ ?_
        ·
          intro y42 hI41 H locs ls hP hS hl
          obtain ⟨σ43, eσ43⟩ : ∃ z, z = y42.1 := ⟨_, rfl⟩
          rw [← eσ43] at hP hI41
          have hF44 : Fr (fL [50, 51, 52, 53, 54]) σ24 σ43 := hI41.1
          have hJ45 : J9 (σ43 9) := hI41.2.1
          have hl : lv_has ls 4 [(3, .int (y23.2.1 0)), (2, .int (y13.2.1 0)), (0, .ref (g 60)), (1, .int p1)] := hl
          obtain ⟨x46, ex46⟩ : ∃ y : Int32, y = (y23.2.1 0) + 1 := ⟨_, rfl⟩
          have t47 := addO ex46 (by have f0 := b27; have f1 := k35; have f2 := b39; have f3 := t29; have g1 := rg32 (y23.2.1 0); have g2 := rg32 r36; have z1 : (1 : Int32).toInt = 1 := (by decide); omega)
          refine lv_iinc (v := x46) (lv' := [(3, .int x46), (2, .int (y13.2.1 0)), (0, .ref (g 60)), (1, .int p1)]) hx hb dX9_line__58 hl (k := 0) rfl (by rw [ex46]; rfl) (by decide) rfl (fun ls hl => ?_)
          refine lv_goto (tgt := 25) hx hb dX9_line__61 (by decide) ?_
          have t48 : ((513 : Int) - x46.toInt).toNat < ((513 : Int) - (y23.2.1 0).toInt).toNat := (by have f0 := b27; have f1 := k35; have f2 := b39; have f3 := t47; have f4 := t29; have g1 := rg32 (y23.2.1 0); have g2 := rg32 r36; have g3 := rg32 x46; have z1 : (1 : Int32).toInt = 1 := (by decide); omega)
          exact nl21 (σ43, lf [x46], lg []) ⟨Fr.tr (Fr.tr (Fr.rf) hF25 (fL_sub rfl)) hF44 (fL_sub rfl), hJ45, (show (1 : Int) ≤ (x46 : Int32).toInt ∧ (x46 : Int32).toInt ≤ 512 from (by have f0 := t47; have f1 := b27; have f2 := k35; have f3 := b39; have f4 := t29; have g1 := rg32 r36; have g2 := rg32 x46; have z1 : (1 : Int32).toInt = 1 := (by decide); omega)), trivial⟩ (show ((513 : Int) - x46.toInt).toNat < _ from by first | exact t48 | (rw [← eσ24]; exact t48)) _ _ _ hP hS (lv_sub hl [0, 1, 2, 3] rfl)
        ·
          intro nj40
          refine lv_icmp_ne (tgt := 58) hx hb dX9_line__42 (by decide) (fun c49 => ?_) (fun c49 => ?_)
          ·
            have k50 := neq32 c49
            exact nj40 (σ24, lf [], lg []) ⟨Fr.rf, hJ26, trivial⟩ _ _ _ hP hS (lv_sub hl [0, 1, 2, 3] rfl)
          ·
            have k51 := peq32 c49
            refine lv_aload_n hx hb dX9_line__45 rfl (lv_at hl 2 rfl) ?_
            refine lv_iload_n hx hb dX9_line__46 rfl (lv_at hl 0 rfl) ?_
            refine lv_iload_n hx hb dX9_line__47 rfl (lv_at hl 3 rfl) ?_
            refine va_calli (va_runV (As := [.int (y23.2.1 0), .int p1]) (rest := []) ⟨hx, hb, hml, hown, hts⟩ (m_X9_doublesBy l D cy g σ24 (y23.2.1 0) p1 _ hJ26 (show (1 : Int) ≤ (y23.2.1 0).toInt ∧ (y23.2.1 0).toInt ≤ 511 from (by have f0 := b27; have f1 := k35; have f2 := b39; have f3 := t29; have f4 := k51; have f5 := b17; have f6 := k20; have g1 := rg32 (y23.2.1 0); have z3 : (3 : Int32).toInt = 3 := (by decide); omega)) (show (0 : Int) ≤ p1.toInt ∧ p1.toInt ≤ 2 from (by have f0 := b7; have f1 := b8; have f2 := b27; have f3 := k35; have f4 := b39; have f5 := a9_17 hJ2 (j := 4) rfl; have f6 := congrArg Int32.toInt (show ((σ1 9).2.2.1 17 4) = ((σ 9).2.2.1 17 4) from congrFun (((sI_f eσ1) 9 17 rfl).2.2.1) _); have f7 := b6; have f8 := k10; have f9 := t29; have f10 := k51; have f11 := a9_17 hJ (j := 4) rfl; have f12 := b17; have f13 := k20; have g3 := rg32 (y23.2.1 0); have g4 := rg32 p1; have z0 : (0 : Int32).toInt = 0 := (by decide); have z3 : (3 : Int32).toInt = 3 := (by decide); omega)) (show (bitT (y23.2.1 0)).toInt ≤ 3 from (by have f0 := b27; have f1 := k35; have f2 := b39; have f3 := t29; have f4 := k51; have f5 := b17; have f6 := k20; have g1 := rg32 (y23.2.1 0); have z3 : (3 : Int32).toInt = 3 := (by decide); omega))) (cwV 2 hts (gd_V q2000 q2002 q112 q134 q2003) rfl rfl rfl (by decide +kernel) ⟨Nat.le_of_ble_eq_true rfl, Nat.le_of_ble_eq_true rfl⟩) (pv9 hP hK hD hC hS (va_recv hK hP (ci := 9) (q0 := 0) rfl rfl)) rfl rfl hl.1 rfl (lv_room (Nat.le_of_ble_eq_true rfl)) dX9_line__48 ⟨Nat.le_of_ble_eq_true rfl, Nat.le_of_ble_eq_true rfl⟩) hS (fun q _ h => up9 hS q h) (up9 hS) (fun r52 σ53 tS H1 locs ht hvm hw54 hB hz1 hk1 hS => ?_)
            have hP : va_P D clz (WD9 cy g σ53) H1 := by rw [← ht]; exact hB
            clear hB hz1 hk1 hvm ht
            generalize H1 = H at hP hS ⊢
            have hF55 : Fr (fL [50, 51, 52, 53, 54]) σ24 σ53 := hw54.1
            have hJ56 : J9 (σ53 9) := hw54.2.1
            refine lv_bipush (v := 99) hx hb dX9_line__51 (by decide) ?_
            refine lv_icmp_ge (tgt := 58) hx hb dX9_line__53 (by decide) (fun c57 => ?_) (fun c57 => ?_)
            ·
              have k58 := ple32 c57
              exact nj40 (σ53, lf [], lg []) ⟨Fr.tr (Fr.rf) hF55 (fL_sub rfl), hJ56, trivial⟩ _ _ _ hP hS (lv_sub hl [0, 1, 2, 3] rfl)
            ·
              have k59 := nle32 c57
              refine lv_iload_n hx hb dX9_line__56 rfl (lv_at hl 0 rfl) ?_
              exact W.iret (v := (y23.2.1 0)) hx hb hr (fun tS ht hW => ⟨⟨(y23.2.1 0), σ53, rfl, ⟨Fr.tr (Fr.tr (Fr.tr (Fr.tr (Fr.rf) (sI_f eσ1) (fN_L rfl)) hF15 (fL_sub rfl)) hF25 (fL_sub rfl)) hF55 (fL_sub rfl), hJ56, trivial⟩, (show va_P D clz (WD9 cy g σ53) tS.heap by rw [ht]; exact hP)⟩, hS.F ht⟩) hS.2.2 dX9_line__57
  ·
    have k60 := peq32 c9
    refine lv_bipush (v := (-2)) hx hb dX9_line__13 (by decide) ?_
    exact W.iret (v := (-2)) hx hb hr (fun tS ht hW => ⟨⟨(-2), σ1, rfl, ⟨Fr.tr (Fr.rf) (sI_f eσ1) (fN_L rfl), hJ2, trivial⟩, (show va_P D clz (WD9 cy g σ1) tS.heap by rw [ht]; exact hP)⟩, hS.F ht⟩) hS.2.2 dX9_line__15

