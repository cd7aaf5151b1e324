theorem q679 : Cond.code yX4_takeIfWord cX4_takeIfWord 2 (some .int) ∈ lw_g := lw_gm (List.mem_of_getElem? (i := 679) (by decide +kernel)) rfl
theorem dX4_takeIfWord_0 : decode cX4_takeIfWord 0 = .ok (.aload_n 0, 1) := by decide +kernel
theorem dX4_takeIfWord_1 : decode cX4_takeIfWord 1 = .ok (.aload_n 1, 1) := by decide +kernel
theorem dX4_takeIfWord_2 : decode cX4_takeIfWord 2 = .ok (.invokevirtual 48, 3) := by decide +kernel
theorem dX4_takeIfWord_5 : decode cX4_takeIfWord 5 = .ok (.ifCond .ne 5, 3) := by decide +kernel
theorem dX4_takeIfWord_8 : decode cX4_takeIfWord 8 = .ok (.iconst 0, 1) := by decide +kernel
theorem dX4_takeIfWord_9 : decode cX4_takeIfWord 9 = .ok (.ireturn, 1) := by decide +kernel
theorem dX4_takeIfWord_10 : decode cX4_takeIfWord 10 = .ok (.aload_n 0, 1) := by decide +kernel
theorem dX4_takeIfWord_11 : decode cX4_takeIfWord 11 = .ok (.invokevirtual 33, 3) := by decide +kernel
theorem dX4_takeIfWord_14 : decode cX4_takeIfWord 14 = .ok (.iconst 1, 1) := by decide +kernel
theorem dX4_takeIfWord_15 : decode cX4_takeIfWord 15 = .ok (.ireturn, 1) := by decide +kernel
set_option maxHeartbeats 4000000 in
set_option maxRecDepth 100000 in
theorem m_X4_takeIfWord (l : Launch) (D : va_G) (cy : Nat → ClassId) (g : Nat → Nat) (σ : ST) (i1 : Nat) (sz : Nat) (hJ : J8 σ) (hi1 : i1 < 21) : Met l yX4_takeIfWord (ww yX4_takeIfWord cX4_takeIfWord 2 (some .int)) ({ frames := 6, cells := 0, slots := 0, locals := 384 }) (va_Pc [.ref (gO g 12), .ref (gS g i1)] (pr8 D cy g σ sz)) (qi8 D cy g sz (fun r τ => Fr (fO [12]) σ τ ∧ J8 τ ∧ ((0 : Int) ≤ r.toInt ∧ r.toInt ≤ 1) ∧ True)) 0 0 (A8 cy g sz) := by
  refine Met.ofW (cc := cX4_takeIfWord) (maxL := 2) (ret := (some .int)) (by decide) rfl ?_
  intro p e s m args below meth c s₁ B hml hv
  obtain ⟨rfl, hsz, hP, hK, hD0, hC⟩ := hv
  have hx := B.exec
  have hb := B.bytes
  have hr := B.returns
  have hts := hts_g (atoms_spec (ws := ww yX4_takeIfWord cX4_takeIfWord 2 (some .int)) B.pre)
  have hown : s.vm.findClass RX4 = some m.cls := findClass_of_methodNamed B.named
  have hlocks := B.notSynchronized
  clear B
  subst hsz
  have hD := fun τ => A8_D (sz := s.heap.size) hD0 τ
  clear hD0
  have hS : va_S (A8 cy g s.heap.size) s.heap s.heap [] := va_S.rf
  have hl := lv_entry ([.ref (gO g 12), .ref (gS g i1)]) (n := 2) (Nat.le_of_ble_eq_true rfl)
  rw [lg_entry_eq]
  generalize (lg_sl ([.ref (gO g 12), .ref (gS g i1)]) ++ List.replicate (2 - (lg_sl ([.ref (gO g 12), .ref (gS g i1)])).length) Slot.unset).toArray = ls at hl ⊢
  have hl : lv_has ls 2 [(0, .ref (gO g 12)), (1, .ref (gS g i1))] := hl
  refine lv_aload_n hx hb dX4_takeIfWord_0 rfl (lv_at hl 0 rfl) ?_
  refine lv_aload_n hx hb dX4_takeIfWord_1 rfl (lv_at hl 1 rfl) ?_
  refine va_calli (va_runV (As := [.ref (gS g i1)]) (rest := []) ⟨hx, hb, hml, hown, hts⟩ (m_X4_isWord l D cy g σ  i1 _ hJ hi1) (cwV 1 hts (gd_V q519 q521 q3 q126 q522) rfl rfl rfl (by decide +kernel) ⟨(Nat.le_of_ble_eq_true rfl), (Nat.le_of_ble_eq_true rfl)⟩) (pv8 hP hK hD hC hS (rv8_4 hK hP)) rfl rfl hl.1 rfl (lv_room (Nat.le_of_ble_eq_true rfl)) dX4_takeIfWord_2 ⟨Nat.le_of_ble_eq_true rfl, Nat.le_of_ble_eq_true rfl⟩) hS (fun q _ h => up8 hS q h) (up8 hS) (fun r1 σ2 tS H1 locs ht hvm hw3 hB hz1 hk1 hS => ?_)
  have hP : va_P D clz (WD8 cy g σ2) H1 := by rw [← ht]; exact hB
  clear hB hz1 hk1 hvm ht
  generalize H1 = H at hP hS ⊢
  have hw3E : σ = σ2 := (hw3.1).symm
  subst hw3E
  have b4 : (0 : Int) ≤ r1.toInt ∧ r1.toInt ≤ 1 := hw3.2.1
  refine lv_if_ne (tgt := 10) hx hb dX4_takeIfWord_5 (by decide) (fun c5 => ?_) (fun c5 => ?_)
  ·
    have k6 := neq32 c5
    refine lv_aload_n hx hb dX4_takeIfWord_10 rfl (lv_at hl 0 rfl) ?_
    refine va_callv (va_runV (As := []) (rest := []) ⟨hx, hb, hml, hown, hts⟩ (m_X4_takeToken l D cy g σ   _ hJ ) (cwV 0 hts (gd_V q499 q501 q0 q126 q502) rfl rfl rfl (by decide +kernel) ⟨(Nat.le_of_ble_eq_true rfl), (Nat.le_of_ble_eq_true rfl)⟩) (pv8 hP hK hD hC hS (rv8_4 hK hP)) rfl rfl hl.1 rfl (lv_room (Nat.le_of_ble_eq_true rfl)) dX4_takeIfWord_11 ⟨Nat.le_of_ble_eq_true rfl, Nat.le_of_ble_eq_true rfl⟩) hS (fun q _ h => up8 hS q h) (up8 hS) (fun σ8 tS H1 locs ht hvm hw9 hB hz1 hk1 hS => ?_)
    have hP : va_P D clz (WD8 cy g σ8) H1 := by rw [← ht]; exact hB
    clear hB hz1 hk1 hvm ht
    generalize H1 = H at hP hS ⊢
    have hF10 : Fr (fO [12]) σ σ8 := hw9.1
    have hJ11 : J8 σ8 := hw9.2.1
    refine lv_iconst (v := 1) hx hb dX4_takeIfWord_14 (by decide) ?_
    exact W.iret (v := 1) hx hb hr (fun tS ht hW => ⟨⟨1, σ8, rfl, ⟨Fr.tr (Fr.rf) hF10 (fO_sub (fun _ q => q)), hJ11, (show (0 : Int) ≤ (1 : Int32).toInt ∧ (1 : Int32).toInt ≤ 1 from (by have z1 : (1 : Int32).toInt = 1 := (by decide); omega)), trivial⟩, (show va_P D clz (WD8 cy g σ8) tS.heap by rw [ht]; exact hP)⟩, hS.F ht⟩) hS.2.2 dX4_takeIfWord_15
  ·
    have k12 := peq32 c5
    refine lv_iconst (v := 0) hx hb dX4_takeIfWord_8 (by decide) ?_
    exact W.iret (v := 0) hx hb hr (fun tS ht hW => ⟨⟨0, σ, rfl, ⟨Fr.rf, hJ, (show (0 : Int) ≤ (0 : Int32).toInt ∧ (0 : Int32).toInt ≤ 1 from (by have z0 : (0 : Int32).toInt = 0 := (by decide); omega)), trivial⟩, (show va_P D clz (WD8 cy g σ) tS.heap by rw [ht]; exact hP)⟩, hS.F ht⟩) hS.2.2 dX4_takeIfWord_9

theorem q643 : Cond.code yX4_readTone cX4_readTone 4 none ∈ lw_g := lw_gm (List.mem_of_getElem? (i := 643) (by decide +kernel)) rfl
theorem q644 : Cond.methodLink RX4 105 yX0_addTone ∈ lw_g := lw_gm (List.mem_of_getElem? (i := 644) (by decide +kernel)) rfl
theorem q645 : Cond.instanceMethod yX0_addTone ∈ lw_g := lw_gm (List.mem_of_getElem? (i := 645) (by decide +kernel)) rfl
theorem q646 : Cond.selects RX0 yX0_addTone yX0_addTone ∈ lw_g := lw_gm (List.mem_of_getElem? (i := 646) (by decide +kernel)) rfl
theorem q210 : Cond.fieldLink RX4 97 "LipsAndSlides$Desk" "parts" "I" ∈ lw_g := lw_gm (List.mem_of_getElem? (i := 210) (by decide +kernel)) rfl
theorem q672 : Cond.methodLink RX4 108 yX0_tonesOf ∈ lw_g := lw_gm (List.mem_of_getElem? (i := 672) (by decide +kernel)) rfl
theorem q673 : Cond.methodLink RX4 116 yX0_setTone ∈ lw_g := lw_gm (List.mem_of_getElem? (i := 673) (by decide +kernel)) rfl
theorem q676 : Cond.methodLink RX4 163 yX4_takeIfWord ∈ lw_g := lw_gm (List.mem_of_getElem? (i := 676) (by decide +kernel)) rfl
theorem q678 : Cond.instanceMethod yX4_takeIfWord ∈ lw_g := lw_gm (List.mem_of_getElem? (i := 678) (by decide +kernel)) rfl
theorem q11 : Cond.selects RX4 yX4_takeIfWord yX4_takeIfWord ∈ lw_g := lw_gm (List.mem_of_getElem? (i := 11) (by decide +kernel)) rfl
theorem dX4_readTone_0 : decode cX4_readTone 0 = .ok (.aload_n 0, 1) := by decide +kernel
theorem dX4_readTone_1 : decode cX4_readTone 1 = .ok (.aload_n 1, 1) := by decide +kernel
theorem dX4_readTone_2 : decode cX4_readTone 2 = .ok (.invokevirtual 105, 3) := by decide +kernel
theorem dX4_readTone_5 : decode cX4_readTone 5 = .ok (.invokevirtual 91, 3) := by decide +kernel
theorem dX4_readTone_8 : decode cX4_readTone 8 = .ok (.aload_n 1, 1) := by decide +kernel
theorem dX4_readTone_9 : decode cX4_readTone 9 = .ok (.getfield 97, 3) := by decide +kernel
theorem dX4_readTone_12 : decode cX4_readTone 12 = .ok (.iconst 1, 1) := by decide +kernel
theorem dX4_readTone_13 : decode cX4_readTone 13 = .ok (.isub, 1) := by decide +kernel
theorem dX4_readTone_14 : decode cX4_readTone 14 = .ok (.istore_n 2, 1) := by decide +kernel
theorem dX4_readTone_15 : decode cX4_readTone 15 = .ok (.aload_n 1, 1) := by decide +kernel
theorem dX4_readTone_16 : decode cX4_readTone 16 = .ok (.iload_n 2, 1) := by decide +kernel
theorem dX4_readTone_17 : decode cX4_readTone 17 = .ok (.invokevirtual 108, 3) := by decide +kernel
theorem dX4_readTone_20 : decode cX4_readTone 20 = .ok (.iconst 1, 1) := by decide +kernel
theorem dX4_readTone_21 : decode cX4_readTone 21 = .ok (.isub, 1) := by decide +kernel
theorem dX4_readTone_22 : decode cX4_readTone 22 = .ok (.istore_n 3, 1) := by decide +kernel
theorem dX4_readTone_23 : decode cX4_readTone 23 = .ok (.aload_n 1, 1) := by decide +kernel
theorem dX4_readTone_24 : decode cX4_readTone 24 = .ok (.iload_n 2, 1) := by decide +kernel
theorem dX4_readTone_25 : decode cX4_readTone 25 = .ok (.iload_n 3, 1) := by decide +kernel
theorem dX4_readTone_26 : decode cX4_readTone 26 = .ok (.iconst 0, 1) := by decide +kernel
theorem dX4_readTone_27 : decode cX4_readTone 27 = .ok (.aload_n 0, 1) := by decide +kernel
theorem dX4_readTone_28 : decode cX4_readTone 28 = .ok (.iconst 0, 1) := by decide +kernel
theorem dX4_readTone_29 : decode cX4_readTone 29 = .ok (.bipush 60, 2) := by decide +kernel
theorem dX4_readTone_31 : decode cX4_readTone 31 = .ok (.invokevirtual 112, 3) := by decide +kernel
theorem dX4_readTone_34 : decode cX4_readTone 34 = .ok (.invokevirtual 116, 3) := by decide +kernel
theorem dX4_readTone_37 : decode cX4_readTone 37 = .ok (.aload_n 1, 1) := by decide +kernel
theorem dX4_readTone_38 : decode cX4_readTone 38 = .ok (.iload_n 2, 1) := by decide +kernel
theorem dX4_readTone_39 : decode cX4_readTone 39 = .ok (.iload_n 3, 1) := by decide +kernel
theorem dX4_readTone_40 : decode cX4_readTone 40 = .ok (.iconst 1, 1) := by decide +kernel
theorem dX4_readTone_41 : decode cX4_readTone 41 = .ok (.aload_n 0, 1) := by decide +kernel
theorem dX4_readTone_42 : decode cX4_readTone 42 = .ok (.ldc 159, 2) := by decide +kernel
theorem dX4_readTone_44 : decode cX4_readTone 44 = .ok (.iconst 1, 1) := by decide +kernel
theorem dX4_readTone_45 : decode cX4_readTone 45 = .ok (.bipush 9, 2) := by decide +kernel
theorem dX4_readTone_47 : decode cX4_readTone 47 = .ok (.invokevirtual 58, 3) := by decide +kernel
theorem dX4_readTone_50 : decode cX4_readTone 50 = .ok (.invokevirtual 116, 3) := by decide +kernel
theorem dX4_readTone_53 : decode cX4_readTone 53 = .ok (.aload_n 1, 1) := by decide +kernel
theorem dX4_readTone_54 : decode cX4_readTone 54 = .ok (.iload_n 2, 1) := by decide +kernel
theorem dX4_readTone_55 : decode cX4_readTone 55 = .ok (.iload_n 3, 1) := by decide +kernel
theorem dX4_readTone_56 : decode cX4_readTone 56 = .ok (.iconst 2, 1) := by decide +kernel
theorem dX4_readTone_57 : decode cX4_readTone 57 = .ok (.aload_n 0, 1) := by decide +kernel
theorem dX4_readTone_58 : decode cX4_readTone 58 = .ok (.ldc 161, 2) := by decide +kernel
theorem dX4_readTone_60 : decode cX4_readTone 60 = .ok (.invokevirtual 163, 3) := by decide +kernel
theorem dX4_readTone_63 : decode cX4_readTone 63 = .ok (.invokevirtual 116, 3) := by decide +kernel
theorem dX4_readTone_66 : decode cX4_readTone 66 = .ok (.aload_n 1, 1) := by decide +kernel
theorem dX4_readTone_67 : decode cX4_readTone 67 = .ok (.iload_n 2, 1) := by decide +kernel
theorem dX4_readTone_68 : decode cX4_readTone 68 = .ok (.iload_n 3, 1) := by decide +kernel
theorem dX4_readTone_69 : decode cX4_readTone 69 = .ok (.iconst 3, 1) := by decide +kernel
theorem dX4_readTone_70 : decode cX4_readTone 70 = .ok (.aload_n 0, 1) := by decide +kernel
theorem dX4_readTone_71 : decode cX4_readTone 71 = .ok (.ldc 167, 2) := by decide +kernel
theorem dX4_readTone_73 : decode cX4_readTone 73 = .ok (.invokevirtual 163, 3) := by decide +kernel
theorem dX4_readTone_76 : decode cX4_readTone 76 = .ok (.invokevirtual 116, 3) := by decide +kernel
theorem dX4_readTone_79 : decode cX4_readTone 79 = .ok (.return_, 1) := by decide +kernel
set_option maxHeartbeats 4000000 in
set_option maxRecDepth 100000 in
theorem m_X4_readTone (l : Launch) (D : va_G) (cy : Nat → ClassId) (g : Nat → Nat) (σ : ST) (d1 : Nat) (sz : Nat) (hJ : J8 σ) (hd1 : 0 ≤ d1 ∧ d1 < 5) : Met l yX4_readTone (ww yX4_readTone cX4_readTone 4 none) ({ frames := 7, cells := 0, slots := 0, locals := 448 }) (va_Pc [.ref (gO g 12), .ref (gO g d1)] (pr8 D cy g σ sz)) (qv8 D cy g sz (fun τ => Fr (fO [12, d1]) σ τ ∧ J8 τ ∧ True)) 0 0 (A8 cy g sz) := by
  refine Met.ofW (cc := cX4_readTone) (maxL := 4) (ret := none) (by decide) rfl ?_
  intro p e s m args below meth c s₁ B hml hv
  obtain ⟨rfl, hsz, hP, hK, hD0, hC⟩ := hv
  have hx := B.exec
  have hb := B.bytes
  have hr := B.returns
  have hts := hts_g (atoms_spec (ws := ww yX4_readTone cX4_readTone 4 none) B.pre)
  have hown : s.vm.findClass RX4 = some m.cls := findClass_of_methodNamed B.named
  have hlocks := B.notSynchronized
  clear B
  subst hsz
  have hD := fun τ => A8_D (sz := s.heap.size) hD0 τ
  clear hD0
  have hS : va_S (A8 cy g s.heap.size) s.heap s.heap [] := va_S.rf
  have hl := lv_entry ([.ref (gO g 12), .ref (gO g d1)]) (n := 4) (Nat.le_of_ble_eq_true rfl)
  rw [lg_entry_eq]
  generalize (lg_sl ([.ref (gO g 12), .ref (gO g d1)]) ++ List.replicate (4 - (lg_sl ([.ref (gO g 12), .ref (gO g d1)])).length) Slot.unset).toArray = ls at hl ⊢
  have hl : lv_has ls 4 [(0, .ref (gO g 12)), (1, .ref (gO g d1))] := hl
  refine lv_aload_n hx hb dX4_readTone_0 rfl (lv_at hl 0 rfl) ?_
  refine lv_aload_n hx hb dX4_readTone_1 rfl (lv_at hl 1 rfl) ?_
  refine va_calli (va_runV (As := []) (rest := [.ref (gO g 12)]) ⟨hx, hb, hml, hown, hts⟩ (m_X0_addTone l D cy g σ  d1 _ hJ (show 0 ≤ d1 ∧ d1 < 5 from hd1)) (cwV 0 hts (gd_V q644 q645 q646 q127 q647) rfl rfl rfl (by decide +kernel) ⟨(Nat.le_of_ble_eq_true rfl), (Nat.le_of_ble_eq_true rfl)⟩) (pv8 hP hK hD hC hS (rv8_0 hK hP hd1)) rfl rfl hl.1 rfl (lv_room (Nat.le_of_ble_eq_true rfl)) dX4_readTone_2 ⟨Nat.le_of_ble_eq_true rfl, Nat.le_of_ble_eq_true rfl⟩) hS (fun q _ h => up8 hS q h) (up8 hS) (fun r1 σ2 tS H1 locs ht hvm hw3 hB hz1 hk1 hS => ?_)
  have hP : va_P D clz (WD8 cy g σ2) H1 := by rw [← ht]; exact hB
  clear hB hz1 hk1 hvm ht
  generalize H1 = H at hP hS ⊢
  have hF4 : Fr (fO [d1]) σ σ2 := hw3.1
  have hJ5 : J8 σ2 := hw3.2.1
  have b6 : (0 : Int) ≤ r1.toInt ∧ r1.toInt ≤ 1 := hw3.2.2.1
  refine va_callv (va_runV (As := [.int r1]) (rest := []) ⟨hx, hb, hml, hown, hts⟩ (m_X4_takeCounted l D cy g σ2  r1 _ hJ5 (show (0 : Int) ≤ r1.toInt ∧ r1.toInt ≤ 1 from (by have f0 := b6; have g0 := rg32 r1; omega))) (cwV 1 hts (gd_V q602 q604 q8 q126 q605) rfl rfl rfl (by decide +kernel) ⟨(Nat.le_of_ble_eq_true rfl), (Nat.le_of_ble_eq_true rfl)⟩) (pv8 hP hK hD hC hS (rv8_4 hK hP)) rfl rfl hl.1 rfl (lv_room (Nat.le_of_ble_eq_true rfl)) dX4_readTone_5 ⟨Nat.le_of_ble_eq_true rfl, Nat.le_of_ble_eq_true rfl⟩) hS (fun q _ h => up8 hS q h) (up8 hS) (fun σ8 tS H1 locs ht hvm hw9 hB hz1 hk1 hS => ?_)
  have hP : va_P D clz (WD8 cy g σ8) H1 := by rw [← ht]; exact hB
  clear hB hz1 hk1 hvm ht
  generalize H1 = H at hP hS ⊢
  have hF10 : Fr (fO [12]) σ2 σ8 := hw9.1
  have hJ11 : J8 σ8 := hw9.2.1
  refine lv_aload_n hx hb dX4_readTone_8 rfl (lv_at hl 1 rfl) ?_
  refine g8_0_5 (x := ((σ2 d1).1 5)) hx hb hts hown hK hP hd1 ((hF10 d1 5 (fO_n (nmc (nel hd1 (by decide)) nm0))).1) (hts _ q210) dX4_readTone_9 ?_
  refine lv_iconst (v := 1) hx hb dX4_readTone_12 (by decide) ?_
  refine lv_isub hx hb dX4_readTone_13 ?_
  refine lv_topi (fun x12 ex12 => ?_)
  have t13 := subO ex12 (by have f0 := j8_0_5 hJ5 hd1 rfl; have z1 : (1 : Int32).toInt = 1 := (by decide); omega)
  refine lv_istore_n (lv' := [(2, .int x12), (0, .ref (gO g 12)), (1, .ref (gO g d1))]) hx hb dX4_readTone_14 rfl hl (by decide) rfl (fun ls hl => ?_)
  refine lv_aload_n hx hb dX4_readTone_15 rfl (lv_at hl 2 rfl) ?_
  refine lv_iload_n hx hb dX4_readTone_16 rfl (lv_at hl 0 rfl) ?_
  refine va_calli (va_runV (As := [.int x12]) (rest := []) ⟨hx, hb, hml, hown, hts⟩ (m_X0_tonesOf l D cy g σ8  d1 x12 _ hJ11 (show 0 ≤ d1 ∧ d1 < 5 from hd1)) (cwV 1 hts (gd_V q672 q657 q658 q127 q659) rfl rfl rfl (by decide +kernel) ⟨(Nat.le_of_ble_eq_true rfl), (Nat.le_of_ble_eq_true rfl)⟩) (pv8 hP hK hD hC hS (rv8_0 hK hP hd1)) rfl rfl hl.1 rfl (lv_room (Nat.le_of_ble_eq_true rfl)) dX4_readTone_17 ⟨Nat.le_of_ble_eq_true rfl, Nat.le_of_ble_eq_true rfl⟩) hS (fun q _ h => up8 hS q h) (up8 hS) (fun r14 σ15 tS H1 locs ht hvm hw16 hB hz1 hk1 hS => ?_)
  have hP : va_P D clz (WD8 cy g σ15) H1 := by rw [← ht]; exact hB
  clear hB hz1 hk1 hvm ht
  generalize H1 = H at hP hS ⊢
  have hw16E : σ8 = σ15 := (hw16.1).symm
  subst hw16E
  have b17 : (0 : Int) ≤ r14.toInt ∧ r14.toInt ≤ 16 := hw16.2.1
  refine lv_iconst (v := 1) hx hb dX4_readTone_20 (by decide) ?_
  refine lv_isub hx hb dX4_readTone_21 ?_
  refine lv_topi (fun x18 ex18 => ?_)
  have t19 := subO ex18 (by have f0 := b17; have g0 := rg32 r14; have z1 : (1 : Int32).toInt = 1 := (by decide); omega)
  refine lv_istore_n (lv' := [(3, .int x18), (2, .int x12), (0, .ref (gO g 12)), (1, .ref (gO g d1))]) hx hb dX4_readTone_22 rfl hl (by decide) rfl (fun ls hl => ?_)
  refine lv_aload_n hx hb dX4_readTone_23 rfl (lv_at hl 3 rfl) ?_
  refine lv_iload_n hx hb dX4_readTone_24 rfl (lv_at hl 1 rfl) ?_
  refine lv_iload_n hx hb dX4_readTone_25 rfl (lv_at hl 0 rfl) ?_
  refine lv_iconst (v := 0) hx hb dX4_readTone_26 (by decide) ?_
  refine lv_aload_n hx hb dX4_readTone_27 rfl (lv_at hl 2 rfl) ?_
  refine lv_iconst (v := 0) hx hb dX4_readTone_28 (by decide) ?_
  refine lv_bipush (v := 60) hx hb dX4_readTone_29 (by decide) ?_
  refine va_calli (va_runV (As := [.int 0, .int 60]) (rest := [.int 0, .int x18, .int x12, .ref (gO g d1)]) ⟨hx, hb, hml, hown, hts⟩ (m_X4_numberWithin l D cy g σ8  (0) (60) _ hJ11 (show (0 : Int) ≤ (0 : Int32).toInt ∧ (0 : Int32).toInt ≤ 100 from (by have z0 : (0 : Int32).toInt = 0 := (by decide); omega)) (show (-1 : Int) ≤ (60 : Int32).toInt ∧ (60 : Int32).toInt ≤ 999 from (by have z0 : (0 : Int32).toInt = 0 := (by decide); have z60 : (60 : Int32).toInt = 60 := (by decide); omega))) (cwV 2 hts (gd_V q580 q582 q6 q126 q583) rfl rfl rfl (by decide +kernel) ⟨(Nat.le_of_ble_eq_true rfl), (Nat.le_of_ble_eq_true rfl)⟩) (pv8 hP hK hD hC hS (rv8_4 hK hP)) rfl rfl hl.1 rfl (lv_room (Nat.le_of_ble_eq_true rfl)) dX4_readTone_31 ⟨Nat.le_of_ble_eq_true rfl, Nat.le_of_ble_eq_true rfl⟩) hS (fun q _ h => up8 hS q h) (up8 hS) (fun r20 σ21 tS H1 locs ht hvm hw22 hB hz1 hk1 hS => ?_)
  have hP : va_P D clz (WD8 cy g σ21) H1 := by rw [← ht]; exact hB
  clear hB hz1 hk1 hvm ht
  generalize H1 = H at hP hS ⊢
  have hF23 : Fr (fO [12]) σ8 σ21 := hw22.1
  have hJ24 : J8 σ21 := hw22.2.1
  have b25 : (-2147483648 : Int) ≤ r20.toInt ∧ r20.toInt ≤ 1000000 := hw22.2.2.1
  refine va_callv (va_runV (As := [.int x12, .int x18, .int 0, .int r20]) (rest := []) ⟨hx, hb, hml, hown, hts⟩ (m_X0_setTone l D cy g σ21  d1 x12 x18 (0) r20 _ hJ24 (show 0 ≤ d1 ∧ d1 < 5 from hd1) (show (-1 : Int) ≤ x12.toInt ∧ x12.toInt ≤ 2 from (by have f0 := t13; have f1 := j8_0_5 hJ5 hd1 rfl; have g1 := rg32 x12; have z1 : (1 : Int32).toInt = 1 := (by decide); omega)) (show (-1 : Int) ≤ x18.toInt ∧ x18.toInt ≤ 15 from (by have f0 := t13; have f1 := t19; have f2 := j8_0_5 hJ5 hd1 rfl; have f3 := b17; have g1 := rg32 x12; have g2 := rg32 x18; have z1 : (1 : Int32).toInt = 1 := (by decide); omega)) (show (0 : Int) ≤ (0 : Int32).toInt ∧ (0 : Int32).toInt ≤ 4 from (by have f0 := t13; have f1 := t19; have f2 := j8_0_5 hJ5 hd1 rfl; have f3 := b17; have g1 := rg32 x12; have g2 := rg32 x18; have z0 : (0 : Int32).toInt = 0 := (by decide); have z1 : (1 : Int32).toInt = 1 := (by decide); omega))) (cwV 4 hts (gd_V q673 q669 q670 q127 q671) rfl rfl rfl (by decide +kernel) ⟨(Nat.le_of_ble_eq_true rfl), (Nat.le_of_ble_eq_true rfl)⟩) (pv8 hP hK hD hC hS (rv8_0 hK hP hd1)) rfl rfl hl.1 rfl (lv_room (Nat.le_of_ble_eq_true rfl)) dX4_readTone_34 ⟨Nat.le_of_ble_eq_true rfl, Nat.le_of_ble_eq_true rfl⟩) hS (fun q _ h => up8 hS q h) (up8 hS) (fun σ27 tS H1 locs ht hvm hw28 hB hz1 hk1 hS => ?_)
  have hP : va_P D clz (WD8 cy g σ27) H1 := by rw [← ht]; exact hB
  clear hB hz1 hk1 hvm ht
  generalize H1 = H at hP hS ⊢
  have hF29 : Fr (fO [d1]) σ21 σ27 := hw28.1
  have hJ30 : J8 σ27 := hw28.2.1
  refine lv_aload_n hx hb dX4_readTone_37 rfl (lv_at hl 3 rfl) ?_
  refine lv_iload_n hx hb dX4_readTone_38 rfl (lv_at hl 1 rfl) ?_
  refine lv_iload_n hx hb dX4_readTone_39 rfl (lv_at hl 0 rfl) ?_
  refine lv_iconst (v := 1) hx hb dX4_readTone_40 (by decide) ?_
  refine lv_aload_n hx hb dX4_readTone_41 rfl (lv_at hl 2 rfl) ?_
  refine va_ldcS (q := gS g 18) (tx := "for") hx hb hown (show vk_R RX4 159 "for" (gS g 18) s from hC.2.2.1 18 (by decide)) dX4_readTone_42 ?_
  refine lv_iconst (v := 1) hx hb dX4_readTone_44 (by decide) ?_
  refine lv_bipush (v := 9) hx hb dX4_readTone_45 (by decide) ?_
  refine va_calli (va_runV (As := [.ref (gS g 18), .int 1, .int 9]) (rest := [.int 1, .int x18, .int x12, .ref (gO g d1)]) ⟨hx, hb, hml, hown, hts⟩ (m_X4_numberBehind l D cy g σ27  18 (1) (9) _ hJ30 (by decide : 18 < 21) (show (0 : Int) ≤ (1 : Int32).toInt ∧ (1 : Int32).toInt ≤ 100 from (by have z1 : (1 : Int32).toInt = 1 := (by decide); omega)) (show (9 : Int) ≤ (9 : Int32).toInt ∧ (9 : Int32).toInt ≤ 999 from (by have z1 : (1 : Int32).toInt = 1 := (by decide); have z9 : (9 : Int32).toInt = 9 := (by decide); omega))) (cwV 3 hts (gd_V q576 q578 q5 q126 q579) rfl rfl rfl (by decide +kernel) ⟨(Nat.le_of_ble_eq_true rfl), (Nat.le_of_ble_eq_true rfl)⟩) (pv8 hP hK hD hC hS (rv8_4 hK hP)) rfl rfl hl.1 rfl (lv_room (Nat.le_of_ble_eq_true rfl)) dX4_readTone_47 ⟨Nat.le_of_ble_eq_true rfl, Nat.le_of_ble_eq_true rfl⟩) hS (fun q _ h => up8 hS q h) (up8 hS) (fun r31 σ32 tS H1 locs ht hvm hw33 hB hz1 hk1 hS => ?_)
  have hP : va_P D clz (WD8 cy g σ32) H1 := by rw [← ht]; exact hB
  clear hB hz1 hk1 hvm ht
  generalize H1 = H at hP hS ⊢
  have hF34 : Fr (fO [12]) σ27 σ32 := hw33.1
  have hJ35 : J8 σ32 := hw33.2.1
  have b36 : (-2147483648 : Int) ≤ r31.toInt ∧ r31.toInt ≤ 1000000 := hw33.2.2.1
  refine va_callv (va_runV (As := [.int x12, .int x18, .int 1, .int r31]) (rest := []) ⟨hx, hb, hml, hown, hts⟩ (m_X0_setTone l D cy g σ32  d1 x12 x18 (1) r31 _ hJ35 (show 0 ≤ d1 ∧ d1 < 5 from hd1) (show (-1 : Int) ≤ x12.toInt ∧ x12.toInt ≤ 2 from (by have f0 := t13; have f1 := j8_0_5 hJ5 hd1 rfl; have g1 := rg32 x12; have z1 : (1 : Int32).toInt = 1 := (by decide); omega)) (show (-1 : Int) ≤ x18.toInt ∧ x18.toInt ≤ 15 from (by have f0 := t13; have f1 := t19; have f2 := j8_0_5 hJ5 hd1 rfl; have f3 := b17; have g1 := rg32 x12; have g2 := rg32 x18; have z1 : (1 : Int32).toInt = 1 := (by decide); omega)) (show (0 : Int) ≤ (1 : Int32).toInt ∧ (1 : Int32).toInt ≤ 4 from (by have f0 := t13; have f1 := t19; have f2 := j8_0_5 hJ5 hd1 rfl; have f3 := b17; have g1 := rg32 x12; have g2 := rg32 x18; have z1 : (1 : Int32).toInt = 1 := (by decide); omega))) (cwV 4 hts (gd_V q673 q669 q670 q127 q671) rfl rfl rfl (by decide +kernel) ⟨(Nat.le_of_ble_eq_true rfl), (Nat.le_of_ble_eq_true rfl)⟩) (pv8 hP hK hD hC hS (rv8_0 hK hP hd1)) rfl rfl hl.1 rfl (lv_room (Nat.le_of_ble_eq_true rfl)) dX4_readTone_50 ⟨Nat.le_of_ble_eq_true rfl, Nat.le_of_ble_eq_true rfl⟩) hS (fun q _ h => up8 hS q h) (up8 hS) (fun σ38 tS H1 locs ht hvm hw39 hB hz1 hk1 hS => ?_)
  have hP : va_P D clz (WD8 cy g σ38) H1 := by rw [← ht]; exact hB
  clear hB hz1 hk1 hvm ht
  generalize H1 = H at hP hS ⊢
  have hF40 : Fr (fO [d1]) σ32 σ38 := hw39.1
  have hJ41 : J8 σ38 := hw39.2.1
  refine lv_aload_n hx hb dX4_readTone_53 rfl (lv_at hl 3 rfl) ?_
  refine lv_iload_n hx hb dX4_readTone_54 rfl (lv_at hl 1 rfl) ?_
  refine lv_iload_n hx hb dX4_readTone_55 rfl (lv_at hl 0 rfl) ?_
  refine lv_iconst (v := 2) hx hb dX4_readTone_56 (by decide) ?_
  refine lv_aload_n hx hb dX4_readTone_57 rfl (lv_at hl 2 rfl) ?_
  refine va_ldcS (q := gS g 19) (tx := "slurred") hx hb hown (show vk_R RX4 161 "slurred" (gS g 19) s from hC.2.2.1 19 (by decide)) dX4_readTone_58 ?_
  refine va_calli (va_runV (As := [.ref (gS g 19)]) (rest := [.int 2, .int x18, .int x12, .ref (gO g d1)]) ⟨hx, hb, hml, hown, hts⟩ (m_X4_takeIfWord l D cy g σ38  19 _ hJ41 (by decide : 19 < 21)) (cwV 1 hts (gd_V q676 q678 q11 q126 q679) rfl rfl rfl (by decide +kernel) ⟨(Nat.le_of_ble_eq_true rfl), (Nat.le_of_ble_eq_true rfl)⟩) (pv8 hP hK hD hC hS (rv8_4 hK hP)) rfl rfl hl.1 rfl (lv_room (Nat.le_of_ble_eq_true rfl)) dX4_readTone_60 ⟨Nat.le_of_ble_eq_true rfl, Nat.le_of_ble_eq_true rfl⟩) hS (fun q _ h => up8 hS q h) (up8 hS) (fun r42 σ43 tS H1 locs ht hvm hw44 hB hz1 hk1 hS => ?_)
  have hP : va_P D clz (WD8 cy g σ43) H1 := by rw [← ht]; exact hB
  clear hB hz1 hk1 hvm ht
  generalize H1 = H at hP hS ⊢
  have hF45 : Fr (fO [12]) σ38 σ43 := hw44.1
  have hJ46 : J8 σ43 := hw44.2.1
  have b47 : (0 : Int) ≤ r42.toInt ∧ r42.toInt ≤ 1 := hw44.2.2.1
  refine va_callv (va_runV (As := [.int x12, .int x18, .int 2, .int r42]) (rest := []) ⟨hx, hb, hml, hown, hts⟩ (m_X0_setTone l D cy g σ43  d1 x12 x18 (2) r42 _ hJ46 (show 0 ≤ d1 ∧ d1 < 5 from hd1) (show (-1 : Int) ≤ x12.toInt ∧ x12.toInt ≤ 2 from (by have f0 := t13; have f1 := j8_0_5 hJ5 hd1 rfl; have g1 := rg32 x12; have z1 : (1 : Int32).toInt = 1 := (by decide); omega)) (show (-1 : Int) ≤ x18.toInt ∧ x18.toInt ≤ 15 from (by have f0 := t13; have f1 := t19; have f2 := j8_0_5 hJ5 hd1 rfl; have f3 := b17; have g1 := rg32 x12; have g2 := rg32 x18; have z1 : (1 : Int32).toInt = 1 := (by decide); omega)) (show (0 : Int) ≤ (2 : Int32).toInt ∧ (2 : Int32).toInt ≤ 4 from (by have f0 := t13; have f1 := t19; have f2 := j8_0_5 hJ5 hd1 rfl; have f3 := b17; have g1 := rg32 x12; have g2 := rg32 x18; have z1 : (1 : Int32).toInt = 1 := (by decide); have z2 : (2 : Int32).toInt = 2 := (by decide); omega))) (cwV 4 hts (gd_V q673 q669 q670 q127 q671) rfl rfl rfl (by decide +kernel) ⟨(Nat.le_of_ble_eq_true rfl), (Nat.le_of_ble_eq_true rfl)⟩) (pv8 hP hK hD hC hS (rv8_0 hK hP hd1)) rfl rfl hl.1 rfl (lv_room (Nat.le_of_ble_eq_true rfl)) dX4_readTone_63 ⟨Nat.le_of_ble_eq_true rfl, Nat.le_of_ble_eq_true rfl⟩) hS (fun q _ h => up8 hS q h) (up8 hS) (fun σ49 tS H1 locs ht hvm hw50 hB hz1 hk1 hS => ?_)
  have hP : va_P D clz (WD8 cy g σ49) H1 := by rw [← ht]; exact hB
  clear hB hz1 hk1 hvm ht
  generalize H1 = H at hP hS ⊢
  have hF51 : Fr (fO [d1]) σ43 σ49 := hw50.1
  have hJ52 : J8 σ49 := hw50.2.1
  refine lv_aload_n hx hb dX4_readTone_66 rfl (lv_at hl 3 rfl) ?_
  refine lv_iload_n hx hb dX4_readTone_67 rfl (lv_at hl 1 rfl) ?_
  refine lv_iload_n hx hb dX4_readTone_68 rfl (lv_at hl 0 rfl) ?_
  refine lv_iconst (v := 3) hx hb dX4_readTone_69 (by decide) ?_
  refine lv_aload_n hx hb dX4_readTone_70 rfl (lv_at hl 2 rfl) ?_
  refine va_ldcS (q := gS g 20) (tx := "breath") hx hb hown (show vk_R RX4 167 "breath" (gS g 20) s from hC.2.2.1 20 (by decide)) dX4_readTone_71 ?_
  refine va_calli (va_runV (As := [.ref (gS g 20)]) (rest := [.int 3, .int x18, .int x12, .ref (gO g d1)]) ⟨hx, hb, hml, hown, hts⟩ (m_X4_takeIfWord l D cy g σ49  20 _ hJ52 (by decide : 20 < 21)) (cwV 1 hts (gd_V q676 q678 q11 q126 q679) rfl rfl rfl (by decide +kernel) ⟨(Nat.le_of_ble_eq_true rfl), (Nat.le_of_ble_eq_true rfl)⟩) (pv8 hP hK hD hC hS (rv8_4 hK hP)) rfl rfl hl.1 rfl (lv_room (Nat.le_of_ble_eq_true rfl)) dX4_readTone_73 ⟨Nat.le_of_ble_eq_true rfl, Nat.le_of_ble_eq_true rfl⟩) hS (fun q _ h => up8 hS q h) (up8 hS) (fun r53 σ54 tS H1 locs ht hvm hw55 hB hz1 hk1 hS => ?_)
  have hP : va_P D clz (WD8 cy g σ54) H1 := by rw [← ht]; exact hB
  clear hB hz1 hk1 hvm ht
  generalize H1 = H at hP hS ⊢
  have hF56 : Fr (fO [12]) σ49 σ54 := hw55.1
  have hJ57 : J8 σ54 := hw55.2.1
  have b58 : (0 : Int) ≤ r53.toInt ∧ r53.toInt ≤ 1 := hw55.2.2.1
  refine va_callv (va_runV (As := [.int x12, .int x18, .int 3, .int r53]) (rest := []) ⟨hx, hb, hml, hown, hts⟩ (m_X0_setTone l D cy g σ54  d1 x12 x18 (3) r53 _ hJ57 (show 0 ≤ d1 ∧ d1 < 5 from hd1) (show (-1 : Int) ≤ x12.toInt ∧ x12.toInt ≤ 2 from (by have f0 := t13; have f1 := j8_0_5 hJ5 hd1 rfl; have g1 := rg32 x12; have z1 : (1 : Int32).toInt = 1 := (by decide); omega)) (show (-1 : Int) ≤ x18.toInt ∧ x18.toInt ≤ 15 from (by have f0 := t13; have f1 := t19; have f2 := j8_0_5 hJ5 hd1 rfl; have f3 := b17; have g1 := rg32 x12; have g2 := rg32 x18; have z1 : (1 : Int32).toInt = 1 := (by decide); omega)) (show (0 : Int) ≤ (3 : Int32).toInt ∧ (3 : Int32).toInt ≤ 4 from (by have f0 := t13; have f1 := t19; have f2 := j8_0_5 hJ5 hd1 rfl; have f3 := b17; have g1 := rg32 x12; have g2 := rg32 x18; have z1 : (1 : Int32).toInt = 1 := (by decide); have z3 : (3 : Int32).toInt = 3 := (by decide); omega))) (cwV 4 hts (gd_V q673 q669 q670 q127 q671) rfl rfl rfl (by decide +kernel) ⟨(Nat.le_of_ble_eq_true rfl), (Nat.le_of_ble_eq_true rfl)⟩) (pv8 hP hK hD hC hS (rv8_0 hK hP hd1)) rfl rfl hl.1 rfl (lv_room (Nat.le_of_ble_eq_true rfl)) dX4_readTone_76 ⟨Nat.le_of_ble_eq_true rfl, Nat.le_of_ble_eq_true rfl⟩) hS (fun q _ h => up8 hS q h) (up8 hS) (fun σ60 tS H1 locs ht hvm hw61 hB hz1 hk1 hS => ?_)
  have hP : va_P D clz (WD8 cy g σ60) H1 := by rw [← ht]; exact hB
  clear hB hz1 hk1 hvm ht
  generalize H1 = H at hP hS ⊢
  have hF62 : Fr (fO [d1]) σ54 σ60 := hw61.1
  have hJ63 : J8 σ60 := hw61.2.1
  exact W.vret hx hb hr (fun tS ht hW => ⟨⟨σ60, rfl, ⟨Fr.tr (Fr.tr (Fr.tr (Fr.tr (Fr.tr (Fr.tr (Fr.tr (Fr.tr (Fr.tr (Fr.tr (Fr.rf) hF4 (fO_sub (by simp))) hF10 (fO_sub (by simp))) hF23 (fO_sub (by simp))) hF29 (fO_sub (by simp))) hF34 (fO_sub (by simp))) hF40 (fO_sub (by simp))) hF45 (fO_sub (by simp))) hF51 (fO_sub (by simp))) hF56 (fO_sub (by simp))) hF62 (fO_sub (by simp)), hJ63, trivial⟩, (show va_P D clz (WD8 cy g σ60) tS.heap by rw [ht]; exact hP)⟩, hS.F ht⟩) hS.2.2 dX4_readTone_79

theorem q685 : Cond.code yX4_takeSign cX4_takeSign 1 none ∈ lw_g := lw_gm (List.mem_of_getElem? (i := 685) (by decide +kernel)) rfl
theorem dX4_takeSign_0 : decode cX4_takeSign 0 = .ok (.aload_n 0, 1) := by decide +kernel
theorem dX4_takeSign_1 : decode cX4_takeSign 1 = .ok (.getfield 36, 3) := by decide +kernel
theorem dX4_takeSign_4 : decode cX4_takeSign 4 = .ok (.iconst 3, 1) := by decide +kernel
theorem dX4_takeSign_5 : decode cX4_takeSign 5 = .ok (.if_icmp .eq 8, 3) := by decide +kernel
theorem dX4_takeSign_8 : decode cX4_takeSign 8 = .ok (.aload_n 0, 1) := by decide +kernel
theorem dX4_takeSign_9 : decode cX4_takeSign 9 = .ok (.iconst 1, 1) := by decide +kernel
theorem dX4_takeSign_10 : decode cX4_takeSign 10 = .ok (.invokevirtual 52, 3) := by decide +kernel
theorem dX4_takeSign_13 : decode cX4_takeSign 13 = .ok (.aload_n 0, 1) := by decide +kernel
theorem dX4_takeSign_14 : decode cX4_takeSign 14 = .ok (.invokevirtual 33, 3) := by decide +kernel
theorem dX4_takeSign_17 : decode cX4_takeSign 17 = .ok (.return_, 1) := by decide +kernel
set_option maxHeartbeats 4000000 in
set_option maxRecDepth 100000 in
theorem m_X4_takeSign (l : Launch) (D : va_G) (cy : Nat → ClassId) (g : Nat → Nat) (σ : ST)  (sz : Nat) (hJ : J8 σ)  : Met l yX4_takeSign (ww yX4_takeSign cX4_takeSign 1 none) ({ frames := 3, cells := 0, slots := 0, locals := 192 }) (va_Pc [.ref (gO g 12)] (pr8 D cy g σ sz)) (qv8 D cy g sz (fun τ => Fr (fO [12]) σ τ ∧ J8 τ ∧ True)) 0 0 (A8 cy g sz) := by
  refine Met.ofW (cc := cX4_takeSign) (maxL := 1) (ret := none) (by decide) rfl ?_
  intro p e s m args below meth c s₁ B hml hv
  obtain ⟨rfl, hsz, hP, hK, hD0, hC⟩ := hv
  have hx := B.exec
  have hb := B.bytes
  have hr := B.returns
  have hts := hts_g (atoms_spec (ws := ww yX4_takeSign cX4_takeSign 1 none) B.pre)
  have hown : s.vm.findClass RX4 = some m.cls := findClass_of_methodNamed B.named
  have hlocks := B.notSynchronized
  clear B
  subst hsz
  have hD := fun τ => A8_D (sz := s.heap.size) hD0 τ
  clear hD0
  have hS : va_S (A8 cy g s.heap.size) s.heap s.heap [] := va_S.rf
  have hl := lv_entry ([.ref (gO g 12)]) (n := 1) (Nat.le_of_ble_eq_true rfl)
  rw [lg_entry_eq]
  generalize (lg_sl ([.ref (gO g 12)]) ++ List.replicate (1 - (lg_sl ([.ref (gO g 12)])).length) Slot.unset).toArray = ls at hl ⊢
  have hl : lv_has ls 1 [(0, .ref (gO g 12))] := hl
  refine lv_aload_n hx hb dX4_takeSign_0 rfl (lv_at hl 0 rfl) ?_
  refine g8_4_6 (x := ((σ 12).1 6)) hx hb hts hown hK hP (rfl) (hts _ q166) dX4_takeSign_1 ?_
  refine lv_iconst (v := 3) hx hb dX4_takeSign_4 (by decide) ?_
  refine lv_icmp_eq (tgt := 13) hx hb dX4_takeSign_5 (by decide) (fun c1 => ?_) (fun c1 => ?_)
  ·
    have k2 := peq32 c1
    refine lv_aload_n hx hb dX4_takeSign_13 rfl (lv_at hl 0 rfl) ?_
    refine va_callv (va_runV (As := []) (rest := []) ⟨hx, hb, hml, hown, hts⟩ (m_X4_takeToken l D cy g σ   _ hJ ) (cwV 0 hts (gd_V q499 q501 q0 q126 q502) rfl rfl rfl (by decide +kernel) ⟨(Nat.le_of_ble_eq_true rfl), (Nat.le_of_ble_eq_true rfl)⟩) (pv8 hP hK hD hC hS (rv8_4 hK hP)) rfl rfl hl.1 rfl (lv_room (Nat.le_of_ble_eq_true rfl)) dX4_takeSign_14 ⟨Nat.le_of_ble_eq_true rfl, Nat.le_of_ble_eq_true rfl⟩) hS (fun q _ h => up8 hS q h) (up8 hS) (fun σ4 tS H1 locs ht hvm hw5 hB hz1 hk1 hS => ?_)
    have hP : va_P D clz (WD8 cy g σ4) H1 := by rw [← ht]; exact hB
    clear hB hz1 hk1 hvm ht
    generalize H1 = H at hP hS ⊢
    have hF6 : Fr (fO [12]) σ σ4 := hw5.1
    have hJ7 : J8 σ4 := hw5.2.1
    exact W.vret hx hb hr (fun tS ht hW => ⟨⟨σ4, rfl, ⟨Fr.tr (Fr.rf) hF6 (fO_sub (fun _ q => q)), hJ7, trivial⟩, (show va_P D clz (WD8 cy g σ4) tS.heap by rw [ht]; exact hP)⟩, hS.F ht⟩) hS.2.2 dX4_takeSign_17
  ·
    have k8 := neq32 c1
    refine lv_aload_n hx hb dX4_takeSign_8 rfl (lv_at hl 0 rfl) ?_
    refine lv_iconst (v := 1) hx hb dX4_takeSign_9 (by decide) ?_
    refine va_callv (va_runV (As := [.int 1]) (rest := []) ⟨hx, hb, hml, hown, hts⟩ (m_X4_refuse l D cy g σ  (1) _ hJ (show (1 : Int) ≤ (1 : Int32).toInt ∧ (1 : Int32).toInt ≤ 3 from (by have z1 : (1 : Int32).toInt = 1 := (by decide); omega))) (cwV 1 hts (gd_V q571 q573 q4 q126 q574) rfl rfl rfl (by decide +kernel) ⟨(Nat.le_of_ble_eq_true rfl), (Nat.le_of_ble_eq_true rfl)⟩) (pv8 hP hK hD hC hS (rv8_4 hK hP)) rfl rfl hl.1 rfl (lv_room (Nat.le_of_ble_eq_true rfl)) dX4_takeSign_10 ⟨Nat.le_of_ble_eq_true rfl, Nat.le_of_ble_eq_true rfl⟩) hS (fun q _ h => up8 hS q h) (up8 hS) (fun σ10 tS H1 locs ht hvm hw11 hB hz1 hk1 hS => ?_)
    have hP : va_P D clz (WD8 cy g σ10) H1 := by rw [← ht]; exact hB
    clear hB hz1 hk1 hvm ht
    generalize H1 = H at hP hS ⊢
    have hF12 : Fr (fO [12]) σ σ10 := hw11.1
    have hJ13 : J8 σ10 := hw11.2.1
    refine lv_aload_n hx hb dX4_takeSign_13 rfl (lv_at hl 0 rfl) ?_
    refine va_callv (va_runV (As := []) (rest := []) ⟨hx, hb, hml, hown, hts⟩ (m_X4_takeToken l D cy g σ10   _ hJ13 ) (cwV 0 hts (gd_V q499 q501 q0 q126 q502) rfl rfl rfl (by decide +kernel) ⟨(Nat.le_of_ble_eq_true rfl), (Nat.le_of_ble_eq_true rfl)⟩) (pv8 hP hK hD hC hS (rv8_4 hK hP)) rfl rfl hl.1 rfl (lv_room (Nat.le_of_ble_eq_true rfl)) dX4_takeSign_14 ⟨Nat.le_of_ble_eq_true rfl, Nat.le_of_ble_eq_true rfl⟩) hS (fun q _ h => up8 hS q h) (up8 hS) (fun σ15 tS H1 locs ht hvm hw16 hB hz1 hk1 hS => ?_)
    have hP : va_P D clz (WD8 cy g σ15) H1 := by rw [← ht]; exact hB
    clear hB hz1 hk1 hvm ht
    generalize H1 = H at hP hS ⊢
    have hF17 : Fr (fO [12]) σ10 σ15 := hw16.1
    have hJ18 : J8 σ15 := hw16.2.1
    exact W.vret hx hb hr (fun tS ht hW => ⟨⟨σ15, rfl, ⟨Fr.tr (Fr.tr (Fr.rf) hF12 (fO_sub (fun _ q => q))) hF17 (fO_sub (fun _ q => q)), hJ18, trivial⟩, (show va_P D clz (WD8 cy g σ15) tS.heap by rw [ht]; exact hP)⟩, hS.F ht⟩) hS.2.2 dX4_takeSign_17

theorem q517 : Cond.code yX4_readLine cX4_readLine 2 none ∈ lw_g := lw_gm (List.mem_of_getElem? (i := 517) (by decide +kernel)) rfl
theorem q201 : Cond.fieldLink RX4 43 "LipsAndSlides$Desk" "lines" "I" ∈ lw_g := lw_gm (List.mem_of_getElem? (i := 201) (by decide +kernel)) rfl
theorem q682 : Cond.methodLink RX4 120 yX4_takeSign ∈ lw_g := lw_gm (List.mem_of_getElem? (i := 682) (by decide +kernel)) rfl
theorem q684 : Cond.instanceMethod yX4_takeSign ∈ lw_g := lw_gm (List.mem_of_getElem? (i := 684) (by decide +kernel)) rfl
theorem q12 : Cond.selects RX4 yX4_takeSign yX4_takeSign ∈ lw_g := lw_gm (List.mem_of_getElem? (i := 12) (by decide +kernel)) rfl
theorem q640 : Cond.methodLink RX4 100 yX4_readTone ∈ lw_g := lw_gm (List.mem_of_getElem? (i := 640) (by decide +kernel)) rfl
theorem q642 : Cond.instanceMethod yX4_readTone ∈ lw_g := lw_gm (List.mem_of_getElem? (i := 642) (by decide +kernel)) rfl
theorem q10 : Cond.selects RX4 yX4_readTone yX4_readTone ∈ lw_g := lw_gm (List.mem_of_getElem? (i := 10) (by decide +kernel)) rfl
theorem q635 : Cond.methodLink RX4 87 yX0_addPart ∈ lw_g := lw_gm (List.mem_of_getElem? (i := 635) (by decide +kernel)) rfl
theorem q636 : Cond.instanceMethod yX0_addPart ∈ lw_g := lw_gm (List.mem_of_getElem? (i := 636) (by decide +kernel)) rfl
theorem q637 : Cond.selects RX0 yX0_addPart yX0_addPart ∈ lw_g := lw_gm (List.mem_of_getElem? (i := 637) (by decide +kernel)) rfl
theorem q615 : Cond.methodLink RX4 82 yX4_readPlayer ∈ lw_g := lw_gm (List.mem_of_getElem? (i := 615) (by decide +kernel)) rfl
theorem q617 : Cond.instanceMethod yX4_readPlayer ∈ lw_g := lw_gm (List.mem_of_getElem? (i := 617) (by decide +kernel)) rfl
theorem q9 : Cond.selects RX4 yX4_readPlayer yX4_readPlayer ∈ lw_g := lw_gm (List.mem_of_getElem? (i := 9) (by decide +kernel)) rfl
theorem q586 : Cond.methodLink RX4 72 yX4_readBrass ∈ lw_g := lw_gm (List.mem_of_getElem? (i := 586) (by decide +kernel)) rfl
theorem q588 : Cond.instanceMethod yX4_readBrass ∈ lw_g := lw_gm (List.mem_of_getElem? (i := 588) (by decide +kernel)) rfl
theorem q7 : Cond.selects RX4 yX4_readBrass yX4_readBrass ∈ lw_g := lw_gm (List.mem_of_getElem? (i := 7) (by decide +kernel)) rfl
theorem q193 : Cond.fieldLink RX4 62 "LipsAndSlides$Desk" "cents" "I" ∈ lw_g := lw_gm (List.mem_of_getElem? (i := 193) (by decide +kernel)) rfl
theorem q197 : Cond.fieldLink RX4 68 "LipsAndSlides$Desk" "highest" "I" ∈ lw_g := lw_gm (List.mem_of_getElem? (i := 197) (by decide +kernel)) rfl
theorem dX4_readLine_0 : decode cX4_readLine 0 = .ok (.aload_n 0, 1) := by decide +kernel
theorem dX4_readLine_1 : decode cX4_readLine 1 = .ok (.ldc 46, 2) := by decide +kernel
theorem dX4_readLine_3 : decode cX4_readLine 3 = .ok (.invokevirtual 48, 3) := by decide +kernel
theorem dX4_readLine_6 : decode cX4_readLine 6 = .ok (.aload_n 1, 1) := by decide +kernel
theorem dX4_readLine_7 : decode cX4_readLine 7 = .ok (.getfield 43, 3) := by decide +kernel
theorem dX4_readLine_10 : decode cX4_readLine 10 = .ok (.ifCond .ne 7, 3) := by decide +kernel
theorem dX4_readLine_13 : decode cX4_readLine 13 = .ok (.iconst 1, 1) := by decide +kernel
theorem dX4_readLine_14 : decode cX4_readLine 14 = .ok (.goto 4, 3) := by decide +kernel
theorem dX4_readLine_17 : decode cX4_readLine 17 = .ok (.iconst 0, 1) := by decide +kernel
theorem dX4_readLine_18 : decode cX4_readLine 18 = .ok (.if_icmp .eq 11, 3) := by decide +kernel
theorem dX4_readLine_21 : decode cX4_readLine 21 = .ok (.aload_n 0, 1) := by decide +kernel
theorem dX4_readLine_22 : decode cX4_readLine 22 = .ok (.iconst 1, 1) := by decide +kernel
theorem dX4_readLine_23 : decode cX4_readLine 23 = .ok (.invokevirtual 52, 3) := by decide +kernel
theorem dX4_readLine_26 : decode cX4_readLine 26 = .ok (.goto 222, 3) := by decide +kernel
theorem dX4_readLine_29 : decode cX4_readLine 29 = .ok (.aload_n 0, 1) := by decide +kernel
theorem dX4_readLine_30 : decode cX4_readLine 30 = .ok (.ldc 46, 2) := by decide +kernel
theorem dX4_readLine_32 : decode cX4_readLine 32 = .ok (.invokevirtual 48, 3) := by decide +kernel
theorem dX4_readLine_35 : decode cX4_readLine 35 = .ok (.ifCond .eq 36, 3) := by decide +kernel
theorem dX4_readLine_38 : decode cX4_readLine 38 = .ok (.aload_n 0, 1) := by decide +kernel
theorem dX4_readLine_39 : decode cX4_readLine 39 = .ok (.invokevirtual 33, 3) := by decide +kernel
theorem dX4_readLine_42 : decode cX4_readLine 42 = .ok (.aload_n 1, 1) := by decide +kernel
theorem dX4_readLine_43 : decode cX4_readLine 43 = .ok (.aload_n 0, 1) := by decide +kernel
theorem dX4_readLine_44 : decode cX4_readLine 44 = .ok (.ldc 56, 2) := by decide +kernel
theorem dX4_readLine_46 : decode cX4_readLine 46 = .ok (.iconst 1, 1) := by decide +kernel
theorem dX4_readLine_47 : decode cX4_readLine 47 = .ok (.bipush 60, 2) := by decide +kernel
theorem dX4_readLine_49 : decode cX4_readLine 49 = .ok (.invokevirtual 58, 3) := by decide +kernel
theorem dX4_readLine_52 : decode cX4_readLine 52 = .ok (.putfield 62, 3) := by decide +kernel
theorem dX4_readLine_55 : decode cX4_readLine 55 = .ok (.aload_n 1, 1) := by decide +kernel
theorem dX4_readLine_56 : decode cX4_readLine 56 = .ok (.aload_n 0, 1) := by decide +kernel
theorem dX4_readLine_57 : decode cX4_readLine 57 = .ok (.ldc 64, 2) := by decide +kernel
theorem dX4_readLine_59 : decode cX4_readLine 59 = .ok (.iconst 2, 1) := by decide +kernel
theorem dX4_readLine_60 : decode cX4_readLine 60 = .ok (.bipush 12, 2) := by decide +kernel
theorem dX4_readLine_62 : decode cX4_readLine 62 = .ok (.invokevirtual 58, 3) := by decide +kernel
theorem dX4_readLine_65 : decode cX4_readLine 65 = .ok (.putfield 68, 3) := by decide +kernel
theorem dX4_readLine_68 : decode cX4_readLine 68 = .ok (.goto 180, 3) := by decide +kernel
theorem dX4_readLine_71 : decode cX4_readLine 71 = .ok (.aload_n 0, 1) := by decide +kernel
theorem dX4_readLine_72 : decode cX4_readLine 72 = .ok (.ldc 70, 2) := by decide +kernel
theorem dX4_readLine_74 : decode cX4_readLine 74 = .ok (.invokevirtual 48, 3) := by decide +kernel
theorem dX4_readLine_77 : decode cX4_readLine 77 = .ok (.ifCond .eq 12, 3) := by decide +kernel
theorem dX4_readLine_80 : decode cX4_readLine 80 = .ok (.aload_n 0, 1) := by decide +kernel
theorem dX4_readLine_81 : decode cX4_readLine 81 = .ok (.aload_n 1, 1) := by decide +kernel
theorem dX4_readLine_82 : decode cX4_readLine 82 = .ok (.iconst 0, 1) := by decide +kernel
theorem dX4_readLine_83 : decode cX4_readLine 83 = .ok (.invokevirtual 72, 3) := by decide +kernel
theorem dX4_readLine_86 : decode cX4_readLine 86 = .ok (.goto 162, 3) := by decide +kernel
theorem dX4_readLine_89 : decode cX4_readLine 89 = .ok (.aload_n 0, 1) := by decide +kernel
theorem dX4_readLine_90 : decode cX4_readLine 90 = .ok (.ldc 76, 2) := by decide +kernel
theorem dX4_readLine_92 : decode cX4_readLine 92 = .ok (.invokevirtual 48, 3) := by decide +kernel
theorem dX4_readLine_95 : decode cX4_readLine 95 = .ok (.ifCond .eq 12, 3) := by decide +kernel
theorem dX4_readLine_98 : decode cX4_readLine 98 = .ok (.aload_n 0, 1) := by decide +kernel
theorem dX4_readLine_99 : decode cX4_readLine 99 = .ok (.aload_n 1, 1) := by decide +kernel
theorem dX4_readLine_100 : decode cX4_readLine 100 = .ok (.iconst 1, 1) := by decide +kernel
theorem dX4_readLine_101 : decode cX4_readLine 101 = .ok (.invokevirtual 72, 3) := by decide +kernel
theorem dX4_readLine_104 : decode cX4_readLine 104 = .ok (.goto 144, 3) := by decide +kernel
theorem dX4_readLine_107 : decode cX4_readLine 107 = .ok (.aload_n 0, 1) := by decide +kernel
theorem dX4_readLine_108 : decode cX4_readLine 108 = .ok (.ldc 78, 2) := by decide +kernel
theorem dX4_readLine_110 : decode cX4_readLine 110 = .ok (.invokevirtual 48, 3) := by decide +kernel
theorem dX4_readLine_113 : decode cX4_readLine 113 = .ok (.ifCond .eq 12, 3) := by decide +kernel
theorem dX4_readLine_116 : decode cX4_readLine 116 = .ok (.aload_n 0, 1) := by decide +kernel
theorem dX4_readLine_117 : decode cX4_readLine 117 = .ok (.aload_n 1, 1) := by decide +kernel
theorem dX4_readLine_118 : decode cX4_readLine 118 = .ok (.iconst 2, 1) := by decide +kernel
theorem dX4_readLine_119 : decode cX4_readLine 119 = .ok (.invokevirtual 72, 3) := by decide +kernel
theorem dX4_readLine_122 : decode cX4_readLine 122 = .ok (.goto 126, 3) := by decide +kernel
theorem dX4_readLine_125 : decode cX4_readLine 125 = .ok (.aload_n 0, 1) := by decide +kernel
theorem dX4_readLine_126 : decode cX4_readLine 126 = .ok (.ldc 80, 2) := by decide +kernel
theorem dX4_readLine_128 : decode cX4_readLine 128 = .ok (.invokevirtual 48, 3) := by decide +kernel
theorem dX4_readLine_131 : decode cX4_readLine 131 = .ok (.ifCond .eq 11, 3) := by decide +kernel
theorem dX4_readLine_134 : decode cX4_readLine 134 = .ok (.aload_n 0, 1) := by decide +kernel
theorem dX4_readLine_135 : decode cX4_readLine 135 = .ok (.aload_n 1, 1) := by decide +kernel
theorem dX4_readLine_136 : decode cX4_readLine 136 = .ok (.invokevirtual 82, 3) := by decide +kernel
theorem dX4_readLine_139 : decode cX4_readLine 139 = .ok (.goto 109, 3) := by decide +kernel
theorem dX4_readLine_142 : decode cX4_readLine 142 = .ok (.aload_n 0, 1) := by decide +kernel
theorem dX4_readLine_143 : decode cX4_readLine 143 = .ok (.ldc 85, 2) := by decide +kernel
theorem dX4_readLine_145 : decode cX4_readLine 145 = .ok (.invokevirtual 48, 3) := by decide +kernel
theorem dX4_readLine_148 : decode cX4_readLine 148 = .ok (.ifCond .eq 14, 3) := by decide +kernel
theorem dX4_readLine_151 : decode cX4_readLine 151 = .ok (.aload_n 0, 1) := by decide +kernel
theorem dX4_readLine_152 : decode cX4_readLine 152 = .ok (.aload_n 1, 1) := by decide +kernel
theorem dX4_readLine_153 : decode cX4_readLine 153 = .ok (.invokevirtual 87, 3) := by decide +kernel
theorem dX4_readLine_156 : decode cX4_readLine 156 = .ok (.invokevirtual 91, 3) := by decide +kernel
theorem dX4_readLine_159 : decode cX4_readLine 159 = .ok (.goto 89, 3) := by decide +kernel
theorem dX4_readLine_162 : decode cX4_readLine 162 = .ok (.aload_n 0, 1) := by decide +kernel
theorem dX4_readLine_163 : decode cX4_readLine 163 = .ok (.ldc 95, 2) := by decide +kernel
theorem dX4_readLine_165 : decode cX4_readLine 165 = .ok (.invokevirtual 48, 3) := by decide +kernel
theorem dX4_readLine_168 : decode cX4_readLine 168 = .ok (.ifCond .eq 18, 3) := by decide +kernel
theorem dX4_readLine_171 : decode cX4_readLine 171 = .ok (.aload_n 1, 1) := by decide +kernel
theorem dX4_readLine_172 : decode cX4_readLine 172 = .ok (.getfield 97, 3) := by decide +kernel
theorem dX4_readLine_175 : decode cX4_readLine 175 = .ok (.ifCond .le 11, 3) := by decide +kernel
theorem dX4_readLine_178 : decode cX4_readLine 178 = .ok (.aload_n 0, 1) := by decide +kernel
theorem dX4_readLine_179 : decode cX4_readLine 179 = .ok (.aload_n 1, 1) := by decide +kernel
theorem dX4_readLine_180 : decode cX4_readLine 180 = .ok (.invokevirtual 100, 3) := by decide +kernel
theorem dX4_readLine_183 : decode cX4_readLine 183 = .ok (.goto 65, 3) := by decide +kernel
theorem dX4_readLine_186 : decode cX4_readLine 186 = .ok (.aload_n 0, 1) := by decide +kernel
theorem dX4_readLine_187 : decode cX4_readLine 187 = .ok (.ldc 103, 2) := by decide +kernel
theorem dX4_readLine_189 : decode cX4_readLine 189 = .ok (.invokevirtual 48, 3) := by decide +kernel
theorem dX4_readLine_192 : decode cX4_readLine 192 = .ok (.ifCond .eq 51, 3) := by decide +kernel
theorem dX4_readLine_195 : decode cX4_readLine 195 = .ok (.aload_n 1, 1) := by decide +kernel
theorem dX4_readLine_196 : decode cX4_readLine 196 = .ok (.getfield 97, 3) := by decide +kernel
theorem dX4_readLine_199 : decode cX4_readLine 199 = .ok (.ifCond .le 44, 3) := by decide +kernel
theorem dX4_readLine_202 : decode cX4_readLine 202 = .ok (.aload_n 0, 1) := by decide +kernel
theorem dX4_readLine_203 : decode cX4_readLine 203 = .ok (.aload_n 1, 1) := by decide +kernel
theorem dX4_readLine_204 : decode cX4_readLine 204 = .ok (.invokevirtual 105, 3) := by decide +kernel
theorem dX4_readLine_207 : decode cX4_readLine 207 = .ok (.invokevirtual 91, 3) := by decide +kernel
theorem dX4_readLine_210 : decode cX4_readLine 210 = .ok (.aload_n 1, 1) := by decide +kernel
theorem dX4_readLine_211 : decode cX4_readLine 211 = .ok (.aload_n 1, 1) := by decide +kernel
theorem dX4_readLine_212 : decode cX4_readLine 212 = .ok (.getfield 97, 3) := by decide +kernel
theorem dX4_readLine_215 : decode cX4_readLine 215 = .ok (.iconst 1, 1) := by decide +kernel
theorem dX4_readLine_216 : decode cX4_readLine 216 = .ok (.isub, 1) := by decide +kernel
theorem dX4_readLine_217 : decode cX4_readLine 217 = .ok (.aload_n 1, 1) := by decide +kernel
theorem dX4_readLine_218 : decode cX4_readLine 218 = .ok (.aload_n 1, 1) := by decide +kernel
theorem dX4_readLine_219 : decode cX4_readLine 219 = .ok (.getfield 97, 3) := by decide +kernel
theorem dX4_readLine_222 : decode cX4_readLine 222 = .ok (.iconst 1, 1) := by decide +kernel
theorem dX4_readLine_223 : decode cX4_readLine 223 = .ok (.isub, 1) := by decide +kernel
theorem dX4_readLine_224 : decode cX4_readLine 224 = .ok (.invokevirtual 108, 3) := by decide +kernel
theorem dX4_readLine_227 : decode cX4_readLine 227 = .ok (.iconst 1, 1) := by decide +kernel
theorem dX4_readLine_228 : decode cX4_readLine 228 = .ok (.isub, 1) := by decide +kernel
theorem dX4_readLine_229 : decode cX4_readLine 229 = .ok (.iconst 1, 1) := by decide +kernel
theorem dX4_readLine_230 : decode cX4_readLine 230 = .ok (.aload_n 0, 1) := by decide +kernel
theorem dX4_readLine_231 : decode cX4_readLine 231 = .ok (.iconst 1, 1) := by decide +kernel
theorem dX4_readLine_232 : decode cX4_readLine 232 = .ok (.bipush 9, 2) := by decide +kernel
theorem dX4_readLine_234 : decode cX4_readLine 234 = .ok (.invokevirtual 112, 3) := by decide +kernel
theorem dX4_readLine_237 : decode cX4_readLine 237 = .ok (.invokevirtual 116, 3) := by decide +kernel
theorem dX4_readLine_240 : decode cX4_readLine 240 = .ok (.goto 8, 3) := by decide +kernel
theorem dX4_readLine_243 : decode cX4_readLine 243 = .ok (.aload_n 0, 1) := by decide +kernel
theorem dX4_readLine_244 : decode cX4_readLine 244 = .ok (.iconst 1, 1) := by decide +kernel
theorem dX4_readLine_245 : decode cX4_readLine 245 = .ok (.invokevirtual 52, 3) := by decide +kernel
theorem dX4_readLine_248 : decode cX4_readLine 248 = .ok (.aload_n 0, 1) := by decide +kernel
theorem dX4_readLine_249 : decode cX4_readLine 249 = .ok (.invokevirtual 120, 3) := by decide +kernel
theorem dX4_readLine_252 : decode cX4_readLine 252 = .ok (.return_, 1) := by decide +kernel
set_option maxHeartbeats 4000000 in
set_option maxRecDepth 100000 in
theorem m_X4_readLine (l : Launch) (D : va_G) (cy : Nat → ClassId) (g : Nat → Nat) (σ : ST) (d1 : Nat) (sz : Nat) (hJ : J8 σ) (hd1 : 0 ≤ d1 ∧ d1 < 5) : Met l yX4_readLine (ww yX4_readLine cX4_readLine 2 none) ({ frames := 8, cells := 0, slots := 0, locals := 512 }) (va_Pc [.ref (gO g 12), .ref (gO g d1)] (pr8 D cy g σ sz)) (qv8 D cy g sz (fun τ => Fr (fO [12, d1]) σ τ ∧ J8 τ ∧ True)) 0 0 (A8 cy g sz) := by
  refine Met.ofW (cc := cX4_readLine) (maxL := 2) (ret := none) (by decide) rfl ?_
  intro p e s m args below meth c s₁ B hml hv
  obtain ⟨rfl, hsz, hP, hK, hD0, hC⟩ := hv
  have hx := B.exec
  have hb := B.bytes
  have hr := B.returns
  have hts := hts_g (atoms_spec (ws := ww yX4_readLine cX4_readLine 2 none) B.pre)
  have hown : s.vm.findClass RX4 = some m.cls := findClass_of_methodNamed B.named
  have hlocks := B.notSynchronized
  clear B
  subst hsz
  have hD := fun τ => A8_D (sz := s.heap.size) hD0 τ
  clear hD0
  have hS : va_S (A8 cy g s.heap.size) s.heap s.heap [] := va_S.rf
  have hl := lv_entry ([.ref (gO g 12), .ref (gO g d1)]) (n := 2) (Nat.le_of_ble_eq_true rfl)
  rw [lg_entry_eq]
  generalize (lg_sl ([.ref (gO g 12), .ref (gO g d1)]) ++ List.replicate (2 - (lg_sl ([.ref (gO g 12), .ref (gO g d1)])).length) Slot.unset).toArray = ls at hl ⊢
  have hl : lv_has ls 2 [(0, .ref (gO g 12)), (1, .ref (gO g d1))] := hl
  refine lv_aload_n hx hb dX4_readLine_0 rfl (lv_at hl 0 rfl) ?_
  refine va_ldcS (q := gS g 0) (tx := "desk") hx hb hown (show vk_R RX4 46 "desk" (gS g 0) s from hC.2.2.1 0 (by decide)) dX4_readLine_1 ?_
  refine va_calli (va_runV (As := [.ref (gS g 0)]) (rest := []) ⟨hx, hb, hml, hown, hts⟩ (m_X4_isWord l D cy g σ  0 _ hJ (by decide : 0 < 21)) (cwV 1 hts (gd_V q519 q521 q3 q126 q522) rfl rfl rfl (by decide +kernel) ⟨(Nat.le_of_ble_eq_true rfl), (Nat.le_of_ble_eq_true rfl)⟩) (pv8 hP hK hD hC hS (rv8_4 hK hP)) rfl rfl hl.1 rfl (lv_room (Nat.le_of_ble_eq_true rfl)) dX4_readLine_3 ⟨Nat.le_of_ble_eq_true rfl, Nat.le_of_ble_eq_true rfl⟩) hS (fun q _ h => up8 hS q h) (up8 hS) (fun r1 σ2 tS H1 locs ht hvm hw3 hB hz1 hk1 hS => ?_)
  have hP : va_P D clz (WD8 cy g σ2) H1 := by rw [← ht]; exact hB
  clear hB hz1 hk1 hvm ht
  generalize H1 = H at hP hS ⊢
  have hw3E : σ = σ2 := (hw3.1).symm
  subst hw3E
  have b4 : (0 : Int) ≤ r1.toInt ∧ r1.toInt ≤ 1 := hw3.2.1
  refine lv_aload_n hx hb dX4_readLine_6 rfl (lv_at hl 1 rfl) ?_
  refine g8_0_2 (x := ((σ d1).1 2)) hx hb hts hown hK hP hd1 (rfl) (hts _ q201) dX4_readLine_7 ?_
  refine cut8 (D := D) (cy := cy) (g := g) (A := A8 cy g s.heap.size) (H0 := s.heap) 2 18 (fun x : LZ => [(0, .ref (gO g 12)), (1, .ref (gO g d1))]) (fun x : LZ => [.int (x.2.1 0), .int r1]) (fun x : LZ => (x.1 = σ) ∧ ((0 : Int) ≤ (x.2.1 0).toInt ∧ (x.2.1 0).toInt ≤ 1) ∧ True) ?_ ?_
  ·
    intro y7 hI6 H locs ls hP hS hl
    rw [show y7.1 = σ from hI6.1] at hP
    have b8 : (0 : Int) ≤ (y7.2.1 0).toInt ∧ (y7.2.1 0).toInt ≤ 1 := hI6.2.1
    have hl : lv_has ls 2 [(0, .ref (gO g 12)), (1, .ref (gO g d1))] := hl
    refine W.eq (g2 := F0 m 18 ls [.int (y7.2.1 0), .int r1]) rfl ?_
    refine lv_icmp_eq (tgt := 29) hx hb dX4_readLine_18 (by decide) (fun c9 => ?_) (fun c9 => ?_)
    ·
      have k10 := peq32 c9
      refine lv_aload_n hx hb dX4_readLine_29 rfl (lv_at hl 0 rfl) ?_
      refine va_ldcS (q := gS g 0) (tx := "desk") hx hb hown (show vk_R RX4 46 "desk" (gS g 0) s from hC.2.2.1 0 (by decide)) dX4_readLine_30 ?_
      refine va_calli (va_runV (As := [.ref (gS g 0)]) (rest := []) ⟨hx, hb, hml, hown, hts⟩ (m_X4_isWord l D cy g σ  0 _ hJ (by decide : 0 < 21)) (cwV 1 hts (gd_V q519 q521 q3 q126 q522) rfl rfl rfl (by decide +kernel) ⟨(Nat.le_of_ble_eq_true rfl), (Nat.le_of_ble_eq_true rfl)⟩) (pv8 hP hK hD hC hS (rv8_4 hK hP)) rfl rfl hl.1 rfl (lv_room (Nat.le_of_ble_eq_true rfl)) dX4_readLine_32 ⟨Nat.le_of_ble_eq_true rfl, Nat.le_of_ble_eq_true rfl⟩) hS (fun q _ h => up8 hS q h) (up8 hS) (fun r11 σ12 tS H1 locs ht hvm hw13 hB hz1 hk1 hS => ?_)
      have hP : va_P D clz (WD8 cy g σ12) H1 := by rw [← ht]; exact hB
      clear hB hz1 hk1 hvm ht
      generalize H1 = H at hP hS ⊢
      have hw13E : σ = σ12 := (hw13.1).symm
      subst hw13E
      have b14 : (0 : Int) ≤ r11.toInt ∧ r11.toInt ≤ 1 := hw13.2.1
      refine lv_if_eq (tgt := 71) hx hb dX4_readLine_35 (by decide) (fun c15 => ?_) (fun c15 => ?_)
      ·
        have k16 := peq32 c15
        refine lv_aload_n hx hb dX4_readLine_71 rfl (lv_at hl 0 rfl) ?_
        refine va_ldcS (q := gS g 3) (tx := "bugle") hx hb hown (show vk_R RX4 70 "bugle" (gS g 3) s from hC.2.2.1 3 (by decide)) dX4_readLine_72 ?_
        refine va_calli (va_runV (As := [.ref (gS g 3)]) (rest := []) ⟨hx, hb, hml, hown, hts⟩ (m_X4_isWord l D cy g σ  3 _ hJ (by decide : 3 < 21)) (cwV 1 hts (gd_V q519 q521 q3 q126 q522) rfl rfl rfl (by decide +kernel) ⟨(Nat.le_of_ble_eq_true rfl), (Nat.le_of_ble_eq_true rfl)⟩) (pv8 hP hK hD hC hS (rv8_4 hK hP)) rfl rfl hl.1 rfl (lv_room (Nat.le_of_ble_eq_true rfl)) dX4_readLine_74 ⟨Nat.le_of_ble_eq_true rfl, Nat.le_of_ble_eq_true rfl⟩) hS (fun q _ h => up8 hS q h) (up8 hS) (fun r17 σ18 tS H1 locs ht hvm hw19 hB hz1 hk1 hS => ?_)
        have hP : va_P D clz (WD8 cy g σ18) H1 := by rw [← ht]; exact hB
        clear hB hz1 hk1 hvm ht
        generalize H1 = H at hP hS ⊢
        have hw19E : σ = σ18 := (hw19.1).symm
        subst hw19E
        have b20 : (0 : Int) ≤ r17.toInt ∧ r17.toInt ≤ 1 := hw19.2.1
        refine lv_if_eq (tgt := 89) hx hb dX4_readLine_77 (by decide) (fun c21 => ?_) (fun c21 => ?_)
        ·
          have k22 := peq32 c21
          refine lv_aload_n hx hb dX4_readLine_89 rfl (lv_at hl 0 rfl) ?_
          refine va_ldcS (q := gS g 4) (tx := "horn") hx hb hown (show vk_R RX4 76 "horn" (gS g 4) s from hC.2.2.1 4 (by decide)) dX4_readLine_90 ?_
          refine va_calli (va_runV (As := [.ref (gS g 4)]) (rest := []) ⟨hx, hb, hml, hown, hts⟩ (m_X4_isWord l D cy g σ  4 _ hJ (by decide : 4 < 21)) (cwV 1 hts (gd_V q519 q521 q3 q126 q522) rfl rfl rfl (by decide +kernel) ⟨(Nat.le_of_ble_eq_true rfl), (Nat.le_of_ble_eq_true rfl)⟩) (pv8 hP hK hD hC hS (rv8_4 hK hP)) rfl rfl hl.1 rfl (lv_room (Nat.le_of_ble_eq_true rfl)) dX4_readLine_92 ⟨Nat.le_of_ble_eq_true rfl, Nat.le_of_ble_eq_true rfl⟩) hS (fun q _ h => up8 hS q h) (up8 hS) (fun r23 σ24 tS H1 locs ht hvm hw25 hB hz1 hk1 hS => ?_)
          have hP : va_P D clz (WD8 cy g σ24) H1 := by rw [← ht]; exact hB
          clear hB hz1 hk1 hvm ht
          generalize H1 = H at hP hS ⊢
          have hw25E : σ = σ24 := (hw25.1).symm
          subst hw25E
          have b26 : (0 : Int) ≤ r23.toInt ∧ r23.toInt ≤ 1 := hw25.2.1
          refine lv_if_eq (tgt := 107) hx hb dX4_readLine_95 (by decide) (fun c27 => ?_) (fun c27 => ?_)
          ·
            have k28 := peq32 c27
            refine lv_aload_n hx hb dX4_readLine_107 rfl (lv_at hl 0 rfl) ?_
            refine va_ldcS (q := gS g 5) (tx := "slide") hx hb hown (show vk_R RX4 78 "slide" (gS g 5) s from hC.2.2.1 5 (by decide)) dX4_readLine_108 ?_
            refine va_calli (va_runV (As := [.ref (gS g 5)]) (rest := []) ⟨hx, hb, hml, hown, hts⟩ (m_X4_isWord l D cy g σ  5 _ hJ (by decide : 5 < 21)) (cwV 1 hts (gd_V q519 q521 q3 q126 q522) rfl rfl rfl (by decide +kernel) ⟨(Nat.le_of_ble_eq_true rfl), (Nat.le_of_ble_eq_true rfl)⟩) (pv8 hP hK hD hC hS (rv8_4 hK hP)) rfl rfl hl.1 rfl (lv_room (Nat.le_of_ble_eq_true rfl)) dX4_readLine_110 ⟨Nat.le_of_ble_eq_true rfl, Nat.le_of_ble_eq_true rfl⟩) hS (fun q _ h => up8 hS q h) (up8 hS) (fun r29 σ30 tS H1 locs ht hvm hw31 hB hz1 hk1 hS => ?_)
            have hP : va_P D clz (WD8 cy g σ30) H1 := by rw [← ht]; exact hB
            clear hB hz1 hk1 hvm ht
            generalize H1 = H at hP hS ⊢
            have hw31E : σ = σ30 := (hw31.1).symm
            subst hw31E
            have b32 : (0 : Int) ≤ r29.toInt ∧ r29.toInt ≤ 1 := hw31.2.1
            refine lv_if_eq (tgt := 125) hx hb dX4_readLine_113 (by decide) (fun c33 => ?_) (fun c33 => ?_)
            ·
              have k34 := peq32 c33
              refine lv_aload_n hx hb dX4_readLine_125 rfl (lv_at hl 0 rfl) ?_
              refine va_ldcS (q := gS g 6) (tx := "player") hx hb hown (show vk_R RX4 80 "player" (gS g 6) s from hC.2.2.1 6 (by decide)) dX4_readLine_126 ?_
              refine va_calli (va_runV (As := [.ref (gS g 6)]) (rest := []) ⟨hx, hb, hml, hown, hts⟩ (m_X4_isWord l D cy g σ  6 _ hJ (by decide : 6 < 21)) (cwV 1 hts (gd_V q519 q521 q3 q126 q522) rfl rfl rfl (by decide +kernel) ⟨(Nat.le_of_ble_eq_true rfl), (Nat.le_of_ble_eq_true rfl)⟩) (pv8 hP hK hD hC hS (rv8_4 hK hP)) rfl rfl hl.1 rfl (lv_room (Nat.le_of_ble_eq_true rfl)) dX4_readLine_128 ⟨Nat.le_of_ble_eq_true rfl, Nat.le_of_ble_eq_true rfl⟩) hS (fun q _ h => up8 hS q h) (up8 hS) (fun r35 σ36 tS H1 locs ht hvm hw37 hB hz1 hk1 hS => ?_)
              have hP : va_P D clz (WD8 cy g σ36) H1 := by rw [← ht]; exact hB
              clear hB hz1 hk1 hvm ht
              generalize H1 = H at hP hS ⊢
              have hw37E : σ = σ36 := (hw37.1).symm
              subst hw37E
              have b38 : (0 : Int) ≤ r35.toInt ∧ r35.toInt ≤ 1 := hw37.2.1
              refine lv_if_eq (tgt := 142) hx hb dX4_readLine_131 (by decide) (fun c39 => ?_) (fun c39 => ?_)
              ·
                have k40 := peq32 c39
                refine lv_aload_n hx hb dX4_readLine_142 rfl (lv_at hl 0 rfl) ?_
                refine va_ldcS (q := gS g 7) (tx := "part") hx hb hown (show vk_R RX4 85 "part" (gS g 7) s from hC.2.2.1 7 (by decide)) dX4_readLine_143 ?_
                refine va_calli (va_runV (As := [.ref (gS g 7)]) (rest := []) ⟨hx, hb, hml, hown, hts⟩ (m_X4_isWord l D cy g σ  7 _ hJ (by decide : 7 < 21)) (cwV 1 hts (gd_V q519 q521 q3 q126 q522) rfl rfl rfl (by decide +kernel) ⟨(Nat.le_of_ble_eq_true rfl), (Nat.le_of_ble_eq_true rfl)⟩) (pv8 hP hK hD hC hS (rv8_4 hK hP)) rfl rfl hl.1 rfl (lv_room (Nat.le_of_ble_eq_true rfl)) dX4_readLine_145 ⟨Nat.le_of_ble_eq_true rfl, Nat.le_of_ble_eq_true rfl⟩) hS (fun q _ h => up8 hS q h) (up8 hS) (fun r41 σ42 tS H1 locs ht hvm hw43 hB hz1 hk1 hS => ?_)
                have hP : va_P D clz (WD8 cy g σ42) H1 := by rw [← ht]; exact hB
                clear hB hz1 hk1 hvm ht
                generalize H1 = H at hP hS ⊢
                have hw43E : σ = σ42 := (hw43.1).symm
                subst hw43E
                have b44 : (0 : Int) ≤ r41.toInt ∧ r41.toInt ≤ 1 := hw43.2.1
                refine lv_if_eq (tgt := 162) hx hb dX4_readLine_148 (by decide) (fun c45 => ?_) (fun c45 => ?_)
                ·
                  have k46 := peq32 c45
                  refine lv_aload_n hx hb dX4_readLine_162 rfl (lv_at hl 0 rfl) ?_
                  refine va_ldcS (q := gS g 8) (tx := "tone") hx hb hown (show vk_R RX4 95 "tone" (gS g 8) s from hC.2.2.1 8 (by decide)) dX4_readLine_163 ?_
                  refine va_calli (va_runV (As := [.ref (gS g 8)]) (rest := []) ⟨hx, hb, hml, hown, hts⟩ (m_X4_isWord l D cy g σ  8 _ hJ (by decide : 8 < 21)) (cwV 1 hts (gd_V q519 q521 q3 q126 q522) rfl rfl rfl (by decide +kernel) ⟨(Nat.le_of_ble_eq_true rfl), (Nat.le_of_ble_eq_true rfl)⟩) (pv8 hP hK hD hC hS (rv8_4 hK hP)) rfl rfl hl.1 rfl (lv_room (Nat.le_of_ble_eq_true rfl)) dX4_readLine_165 ⟨Nat.le_of_ble_eq_true rfl, Nat.le_of_ble_eq_true rfl⟩) hS (fun q _ h => up8 hS q h) (up8 hS) (fun r47 σ48 tS H1 locs ht hvm hw49 hB hz1 hk1 hS => ?_)
                  have hP : va_P D clz (WD8 cy g σ48) H1 := by rw [← ht]; exact hB
                  clear hB hz1 hk1 hvm ht
                  generalize H1 = H at hP hS ⊢
                  have hw49E : σ = σ48 := (hw49.1).symm
                  subst hw49E
                  have b50 : (0 : Int) ≤ r47.toInt ∧ r47.toInt ≤ 1 := hw49.2.1
                  refine cut8 (D := D) (cy := cy) (g := g) (A := A8 cy g s.heap.size) (H0 := s.heap) 2 186 (fun x : LZ => [(0, .ref (gO g 12)), (1, .ref (gO g d1))]) (fun x : LZ => []) (fun x : LZ => (x.1 = σ) ∧ True) ?_ ?_
                  ·
                    intro y53 hI52 H locs ls hP hS hl
                    rw [show y53.1 = σ from hI52.1] at hP
                    have hl : lv_has ls 2 [(0, .ref (gO g 12)), (1, .ref (gO g d1))] := hl
                    refine lv_aload_n hx hb dX4_readLine_186 rfl (lv_at hl 0 rfl) ?_
                    refine va_ldcS (q := gS g 9) (tx := "rest") hx hb hown (show vk_R RX4 103 "rest" (gS g 9) s from hC.2.2.1 9 (by decide)) dX4_readLine_187 ?_
                    refine va_calli (va_runV (As := [.ref (gS g 9)]) (rest := []) ⟨hx, hb, hml, hown, hts⟩ (m_X4_isWord l D cy g σ  9 _ hJ (by decide : 9 < 21)) (cwV 1 hts (gd_V q519 q521 q3 q126 q522) rfl rfl rfl (by decide +kernel) ⟨(Nat.le_of_ble_eq_true rfl), (Nat.le_of_ble_eq_true rfl)⟩) (pv8 hP hK hD hC hS (rv8_4 hK hP)) rfl rfl hl.1 rfl (lv_room (Nat.le_of_ble_eq_true rfl)) dX4_readLine_189 ⟨Nat.le_of_ble_eq_true rfl, Nat.le_of_ble_eq_true rfl⟩) hS (fun q _ h => up8 hS q h) (up8 hS) (fun r54 σ55 tS H1 locs ht hvm hw56 hB hz1 hk1 hS => ?_)
                    have hP : va_P D clz (WD8 cy g σ55) H1 := by rw [← ht]; exact hB
                    clear hB hz1 hk1 hvm ht
                    generalize H1 = H at hP hS ⊢
                    have hw56E : σ = σ55 := (hw56.1).symm
                    subst hw56E
                    have b57 : (0 : Int) ≤ r54.toInt ∧ r54.toInt ≤ 1 := hw56.2.1
                    refine cut8 (D := D) (cy := cy) (g := g) (A := A8 cy g s.heap.size) (H0 := s.heap) 2 243 (fun x : LZ => [(0, .ref (gO g 12)), (1, .ref (gO g d1))]) (fun x : LZ => []) (fun x : LZ => (x.1 = σ) ∧ True) ?_ ?_
                    ·
                      intro y60 hI59 H locs ls hP hS hl
                      rw [show y60.1 = σ from hI59.1] at hP
                      have hl : lv_has ls 2 [(0, .ref (gO g 12)), (1, .ref (gO g d1))] := hl
                      refine lv_aload_n hx hb dX4_readLine_243 rfl (lv_at hl 0 rfl) ?_
                      refine lv_iconst (v := 1) hx hb dX4_readLine_244 (by decide) ?_
                      refine va_callv (va_runV (As := [.int 1]) (rest := []) ⟨hx, hb, hml, hown, hts⟩ (m_X4_refuse l D cy g σ  (1) _ hJ (show (1 : Int) ≤ (1 : Int32).toInt ∧ (1 : Int32).toInt ≤ 3 from (by have z1 : (1 : Int32).toInt = 1 := (by decide); omega))) (cwV 1 hts (gd_V q571 q573 q4 q126 q574) rfl rfl rfl (by decide +kernel) ⟨(Nat.le_of_ble_eq_true rfl), (Nat.le_of_ble_eq_true rfl)⟩) (pv8 hP hK hD hC hS (rv8_4 hK hP)) rfl rfl hl.1 rfl (lv_room (Nat.le_of_ble_eq_true rfl)) dX4_readLine_245 ⟨Nat.le_of_ble_eq_true rfl, Nat.le_of_ble_eq_true rfl⟩) hS (fun q _ h => up8 hS q h) (up8 hS) (fun σ62 tS H1 locs ht hvm hw63 hB hz1 hk1 hS => ?_)
                      have hP : va_P D clz (WD8 cy g σ62) H1 := by rw [← ht]; exact hB
                      clear hB hz1 hk1 hvm ht
                      generalize H1 = H at hP hS ⊢
                      have hF64 : Fr (fO [12]) σ σ62 := hw63.1
                      have hJ65 : J8 σ62 := hw63.2.1
                      refine lv_aload_n hx hb dX4_readLine_248 rfl (lv_at hl 0 rfl) ?_
                      refine va_callv (va_runV (As := []) (rest := []) ⟨hx, hb, hml, hown, hts⟩ (m_X4_takeSign l D cy g σ62   _ hJ65 ) (cwV 0 hts (gd_V q682 q684 q12 q126 q685) rfl rfl rfl (by decide +kernel) ⟨(Nat.le_of_ble_eq_true rfl), (Nat.le_of_ble_eq_true rfl)⟩) (pv8 hP hK hD hC hS (rv8_4 hK hP)) rfl rfl hl.1 rfl (lv_room (Nat.le_of_ble_eq_true rfl)) dX4_readLine_249 ⟨Nat.le_of_ble_eq_true rfl, Nat.le_of_ble_eq_true rfl⟩) hS (fun q _ h => up8 hS q h) (up8 hS) (fun σ67 tS H1 locs ht hvm hw68 hB hz1 hk1 hS => ?_)
                      have hP : va_P D clz (WD8 cy g σ67) H1 := by rw [← ht]; exact hB
                      clear hB hz1 hk1 hvm ht
                      generalize H1 = H at hP hS ⊢
                      have hF69 : Fr (fO [12]) σ62 σ67 := hw68.1
                      have hJ70 : J8 σ67 := hw68.2.1
                      exact W.vret hx hb hr (fun tS ht hW => ⟨⟨σ67, rfl, ⟨Fr.tr (Fr.tr (Fr.rf) hF64 (fO_sub (by simp))) hF69 (fO_sub (by simp)), hJ70, trivial⟩, (show va_P D clz (WD8 cy g σ67) tS.heap by rw [ht]; exact hP)⟩, hS.F ht⟩) hS.2.2 dX4_readLine_252
                    ·
                      intro nj58
                      refine lv_if_eq (tgt := 243) hx hb dX4_readLine_192 (by decide) (fun c71 => ?_) (fun c71 => ?_)
                      ·
                        have k72 := peq32 c71
                        exact nj58 (σ, lf [], lg []) ⟨rfl, trivial⟩ _ _ _ hP hS (lv_sub hl [0, 1] rfl)
                      ·
                        have k73 := neq32 c71
                        refine lv_aload_n hx hb dX4_readLine_195 rfl (lv_at hl 1 rfl) ?_
                        refine g8_0_5 (x := ((σ d1).1 5)) hx hb hts hown hK hP hd1 (rfl) (hts _ q210) dX4_readLine_196 ?_
                        refine lv_if_le (tgt := 243) hx hb dX4_readLine_199 (by decide) (fun c74 => ?_) (fun c74 => ?_)
                        ·
                          have k75 := ple32 c74
                          exact nj58 (σ, lf [], lg []) ⟨rfl, trivial⟩ _ _ _ hP hS (lv_sub hl [0, 1] rfl)
                        ·
                          have k76 := nle32 c74
                          refine lv_aload_n hx hb dX4_readLine_202 rfl (lv_at hl 0 rfl) ?_
                          refine lv_aload_n hx hb dX4_readLine_203 rfl (lv_at hl 1 rfl) ?_
                          refine va_calli (va_runV (As := []) (rest := [.ref (gO g 12)]) ⟨hx, hb, hml, hown, hts⟩ (m_X0_addTone l D cy g σ  d1 _ hJ (show 0 ≤ d1 ∧ d1 < 5 from hd1)) (cwV 0 hts (gd_V q644 q645 q646 q127 q647) rfl rfl rfl (by decide +kernel) ⟨(Nat.le_of_ble_eq_true rfl), (Nat.le_of_ble_eq_true rfl)⟩) (pv8 hP hK hD hC hS (rv8_0 hK hP hd1)) rfl rfl hl.1 rfl (lv_room (Nat.le_of_ble_eq_true rfl)) dX4_readLine_204 ⟨Nat.le_of_ble_eq_true rfl, Nat.le_of_ble_eq_true rfl⟩) hS (fun q _ h => up8 hS q h) (up8 hS) (fun r77 σ78 tS H1 locs ht hvm hw79 hB hz1 hk1 hS => ?_)
                          have hP : va_P D clz (WD8 cy g σ78) H1 := by rw [← ht]; exact hB
                          clear hB hz1 hk1 hvm ht
                          generalize H1 = H at hP hS ⊢
                          have hF80 : Fr (fO [d1]) σ σ78 := hw79.1
                          have hJ81 : J8 σ78 := hw79.2.1
                          have b82 : (0 : Int) ≤ r77.toInt ∧ r77.toInt ≤ 1 := hw79.2.2.1
                          refine va_callv (va_runV (As := [.int r77]) (rest := []) ⟨hx, hb, hml, hown, hts⟩ (m_X4_takeCounted l D cy g σ78  r77 _ hJ81 (show (0 : Int) ≤ r77.toInt ∧ r77.toInt ≤ 1 from (by have f0 := b82; have g0 := rg32 r77; omega))) (cwV 1 hts (gd_V q602 q604 q8 q126 q605) rfl rfl rfl (by decide +kernel) ⟨(Nat.le_of_ble_eq_true rfl), (Nat.le_of_ble_eq_true rfl)⟩) (pv8 hP hK hD hC hS (rv8_4 hK hP)) rfl rfl hl.1 rfl (lv_room (Nat.le_of_ble_eq_true rfl)) dX4_readLine_207 ⟨Nat.le_of_ble_eq_true rfl, Nat.le_of_ble_eq_true rfl⟩) hS (fun q _ h => up8 hS q h) (up8 hS) (fun σ84 tS H1 locs ht hvm hw85 hB hz1 hk1 hS => ?_)
                          have hP : va_P D clz (WD8 cy g σ84) H1 := by rw [← ht]; exact hB
                          clear hB hz1 hk1 hvm ht
                          generalize H1 = H at hP hS ⊢
                          have hF86 : Fr (fO [12]) σ78 σ84 := hw85.1
                          have hJ87 : J8 σ84 := hw85.2.1
                          refine lv_aload_n hx hb dX4_readLine_210 rfl (lv_at hl 1 rfl) ?_
                          refine lv_aload_n hx hb dX4_readLine_211 rfl (lv_at hl 1 rfl) ?_
                          refine g8_0_5 (x := ((σ78 d1).1 5)) hx hb hts hown hK hP hd1 ((hF86 d1 5 (fO_n (nmc (nel hd1 (by decide)) nm0))).1) (hts _ q210) dX4_readLine_212 ?_
                          refine lv_iconst (v := 1) hx hb dX4_readLine_215 (by decide) ?_
                          refine lv_isub hx hb dX4_readLine_216 ?_
                          refine lv_topi (fun x88 ex88 => ?_)
                          have t89 := subO ex88 (by have f0 := j8_0_5 hJ81 hd1 rfl; have z1 : (1 : Int32).toInt = 1 := (by decide); omega)
                          refine lv_aload_n hx hb dX4_readLine_217 rfl (lv_at hl 1 rfl) ?_
                          refine lv_aload_n hx hb dX4_readLine_218 rfl (lv_at hl 1 rfl) ?_
                          refine g8_0_5 (x := ((σ78 d1).1 5)) hx hb hts hown hK hP hd1 ((hF86 d1 5 (fO_n (nmc (nel hd1 (by decide)) nm0))).1) (hts _ q210) dX4_readLine_219 ?_
                          refine lv_iconst (v := 1) hx hb dX4_readLine_222 (by decide) ?_
                          refine lv_isub hx hb dX4_readLine_223 ?_
                          refine lv_topi (fun x90 ex90 => ?_)
                          have t91 := subO ex90 (by have f0 := j8_0_5 hJ81 hd1 rfl; have f1 := t89; have z1 : (1 : Int32).toInt = 1 := (by decide); omega)
                          refine va_calli (va_runV (As := [.int x90]) (rest := [.int x88, .ref (gO g d1)]) ⟨hx, hb, hml, hown, hts⟩ (m_X0_tonesOf l D cy g σ84  d1 x90 _ hJ87 (show 0 ≤ d1 ∧ d1 < 5 from hd1)) (cwV 1 hts (gd_V q672 q657 q658 q127 q659) rfl rfl rfl (by decide +kernel) ⟨(Nat.le_of_ble_eq_true rfl), (Nat.le_of_ble_eq_true rfl)⟩) (pv8 hP hK hD hC hS (rv8_0 hK hP hd1)) rfl rfl hl.1 rfl (lv_room (Nat.le_of_ble_eq_true rfl)) dX4_readLine_224 ⟨Nat.le_of_ble_eq_true rfl, Nat.le_of_ble_eq_true rfl⟩) hS (fun q _ h => up8 hS q h) (up8 hS) (fun r92 σ93 tS H1 locs ht hvm hw94 hB hz1 hk1 hS => ?_)
                          have hP : va_P D clz (WD8 cy g σ93) H1 := by rw [← ht]; exact hB
                          clear hB hz1 hk1 hvm ht
                          generalize H1 = H at hP hS ⊢
                          have hw94E : σ84 = σ93 := (hw94.1).symm
                          subst hw94E
                          have b95 : (0 : Int) ≤ r92.toInt ∧ r92.toInt ≤ 16 := hw94.2.1
                          refine lv_iconst (v := 1) hx hb dX4_readLine_227 (by decide) ?_
                          refine lv_isub hx hb dX4_readLine_228 ?_
                          refine lv_topi (fun x96 ex96 => ?_)
                          have t97 := subO ex96 (by have f0 := b95; have g0 := rg32 r92; have z1 : (1 : Int32).toInt = 1 := (by decide); omega)
                          refine lv_iconst (v := 1) hx hb dX4_readLine_229 (by decide) ?_
                          refine lv_aload_n hx hb dX4_readLine_230 rfl (lv_at hl 0 rfl) ?_
                          refine lv_iconst (v := 1) hx hb dX4_readLine_231 (by decide) ?_
                          refine lv_bipush (v := 9) hx hb dX4_readLine_232 (by decide) ?_
                          refine va_calli (va_runV (As := [.int 1, .int 9]) (rest := [.int 1, .int x96, .int x88, .ref (gO g d1)]) ⟨hx, hb, hml, hown, hts⟩ (m_X4_numberWithin l D cy g σ84  (1) (9) _ hJ87 (show (0 : Int) ≤ (1 : Int32).toInt ∧ (1 : Int32).toInt ≤ 100 from (by have z1 : (1 : Int32).toInt = 1 := (by decide); omega)) (show (-1 : Int) ≤ (9 : Int32).toInt ∧ (9 : Int32).toInt ≤ 999 from (by have z1 : (1 : Int32).toInt = 1 := (by decide); have z9 : (9 : Int32).toInt = 9 := (by decide); omega))) (cwV 2 hts (gd_V q580 q582 q6 q126 q583) rfl rfl rfl (by decide +kernel) ⟨(Nat.le_of_ble_eq_true rfl), (Nat.le_of_ble_eq_true rfl)⟩) (pv8 hP hK hD hC hS (rv8_4 hK hP)) rfl rfl hl.1 rfl (lv_room (Nat.le_of_ble_eq_true rfl)) dX4_readLine_234 ⟨Nat.le_of_ble_eq_true rfl, Nat.le_of_ble_eq_true rfl⟩) hS (fun q _ h => up8 hS q h) (up8 hS) (fun r98 σ99 tS H1 locs ht hvm hw100 hB hz1 hk1 hS => ?_)
                          have hP : va_P D clz (WD8 cy g σ99) H1 := by rw [← ht]; exact hB
                          clear hB hz1 hk1 hvm ht
                          generalize H1 = H at hP hS ⊢
                          have hF101 : Fr (fO [12]) σ84 σ99 := hw100.1
                          have hJ102 : J8 σ99 := hw100.2.1
                          have b103 : (-2147483648 : Int) ≤ r98.toInt ∧ r98.toInt ≤ 1000000 := hw100.2.2.1
                          refine va_callv (va_runV (As := [.int x88, .int x96, .int 1, .int r98]) (rest := []) ⟨hx, hb, hml, hown, hts⟩ (m_X0_setTone l D cy g σ99  d1 x88 x96 (1) r98 _ hJ102 (show 0 ≤ d1 ∧ d1 < 5 from hd1) (show (-1 : Int) ≤ x88.toInt ∧ x88.toInt ≤ 2 from (by have f0 := t89; have f1 := j8_0_5 hJ81 hd1 rfl; have f2 := t91; have g1 := rg32 x88; have z1 : (1 : Int32).toInt = 1 := (by decide); omega)) (show (-1 : Int) ≤ x96.toInt ∧ x96.toInt ≤ 15 from (by have f0 := t89; have f1 := t97; have f2 := j8_0_5 hJ81 hd1 rfl; have f3 := t91; have f4 := b95; have g1 := rg32 x88; have g2 := rg32 x96; have z1 : (1 : Int32).toInt = 1 := (by decide); omega)) (show (0 : Int) ≤ (1 : Int32).toInt ∧ (1 : Int32).toInt ≤ 4 from (by have f0 := t89; have f1 := t97; have f2 := j8_0_5 hJ81 hd1 rfl; have f3 := t91; have f4 := b95; have g1 := rg32 x88; have g2 := rg32 x96; have z1 : (1 : Int32).toInt = 1 := (by decide); omega))) (cwV 4 hts (gd_V q673 q669 q670 q127 q671) rfl rfl rfl (by decide +kernel) ⟨(Nat.le_of_ble_eq_true rfl), (Nat.le_of_ble_eq_true rfl)⟩) (pv8 hP hK hD hC hS (rv8_0 hK hP hd1)) rfl rfl hl.1 rfl (lv_room (Nat.le_of_ble_eq_true rfl)) dX4_readLine_237 ⟨Nat.le_of_ble_eq_true rfl, Nat.le_of_ble_eq_true rfl⟩) hS (fun q _ h => up8 hS q h) (up8 hS) (fun σ105 tS H1 locs ht hvm hw106 hB hz1 hk1 hS => ?_)
                          have hP : va_P D clz (WD8 cy g σ105) H1 := by rw [← ht]; exact hB
                          clear hB hz1 hk1 hvm ht
                          generalize H1 = H at hP hS ⊢
                          have hF107 : Fr (fO [d1]) σ99 σ105 := hw106.1
                          have hJ108 : J8 σ105 := hw106.2.1
                          refine lv_goto (tgt := 248) hx hb dX4_readLine_240 (by decide) ?_
                          refine lv_aload_n hx hb dX4_readLine_248 rfl (lv_at hl 0 rfl) ?_
                          refine va_callv (va_runV (As := []) (rest := []) ⟨hx, hb, hml, hown, hts⟩ (m_X4_takeSign l D cy g σ105   _ hJ108 ) (cwV 0 hts (gd_V q682 q684 q12 q126 q685) rfl rfl rfl (by decide +kernel) ⟨(Nat.le_of_ble_eq_true rfl), (Nat.le_of_ble_eq_true rfl)⟩) (pv8 hP hK hD hC hS (rv8_4 hK hP)) rfl rfl hl.1 rfl (lv_room (Nat.le_of_ble_eq_true rfl)) dX4_readLine_249 ⟨Nat.le_of_ble_eq_true rfl, Nat.le_of_ble_eq_true rfl⟩) hS (fun q _ h => up8 hS q h) (up8 hS) (fun σ110 tS H1 locs ht hvm hw111 hB hz1 hk1 hS => ?_)
                          have hP : va_P D clz (WD8 cy g σ110) H1 := by rw [← ht]; exact hB
                          clear hB hz1 hk1 hvm ht
                          generalize H1 = H at hP hS ⊢
                          have hF112 : Fr (fO [12]) σ105 σ110 := hw111.1
                          have hJ113 : J8 σ110 := hw111.2.1
                          exact W.vret hx hb hr (fun tS ht hW => ⟨⟨σ110, rfl, ⟨Fr.tr (Fr.tr (Fr.tr (Fr.tr (Fr.tr (Fr.rf) hF80 (fO_sub (by simp))) hF86 (fO_sub (by simp))) hF101 (fO_sub (by simp))) hF107 (fO_sub (by simp))) hF112 (fO_sub (by simp)), hJ113, trivial⟩, (show va_P D clz (WD8 cy g σ110) tS.heap by rw [ht]; exact hP)⟩, hS.F ht⟩) hS.2.2 dX4_readLine_252
                  ·
                    intro nj51
                    refine lv_if_eq (tgt := 186) hx hb dX4_readLine_168 (by decide) (fun c114 => ?_) (fun c114 => ?_)
                    ·
                      have k115 := peq32 c114
                      exact nj51 (σ, lf [], lg []) ⟨rfl, trivial⟩ _ _ _ hP hS (lv_sub hl [0, 1] rfl)
                    ·
                      have k116 := neq32 c114
                      refine lv_aload_n hx hb dX4_readLine_171 rfl (lv_at hl 1 rfl) ?_
                      refine g8_0_5 (x := ((σ d1).1 5)) hx hb hts hown hK hP hd1 (rfl) (hts _ q210) dX4_readLine_172 ?_
                      refine lv_if_le (tgt := 186) hx hb dX4_readLine_175 (by decide) (fun c117 => ?_) (fun c117 => ?_)
                      ·
                        have k118 := ple32 c117
                        exact nj51 (σ, lf [], lg []) ⟨rfl, trivial⟩ _ _ _ hP hS (lv_sub hl [0, 1] rfl)
                      ·
                        have k119 := nle32 c117
                        refine lv_aload_n hx hb dX4_readLine_178 rfl (lv_at hl 0 rfl) ?_
                        refine lv_aload_n hx hb dX4_readLine_179 rfl (lv_at hl 1 rfl) ?_
                        refine va_callv (va_runV (As := [.ref (gO g d1)]) (rest := []) ⟨hx, hb, hml, hown, hts⟩ (m_X4_readTone l D cy g σ  d1 _ hJ (show 0 ≤ d1 ∧ d1 < 5 from hd1)) (cwV 1 hts (gd_V q640 q642 q10 q126 q643) rfl rfl rfl (by decide +kernel) ⟨(Nat.le_of_ble_eq_true rfl), (Nat.le_of_ble_eq_true rfl)⟩) (pv8 hP hK hD hC hS (rv8_4 hK hP)) rfl rfl hl.1 rfl (lv_room (Nat.le_of_ble_eq_true rfl)) dX4_readLine_180 ⟨Nat.le_of_ble_eq_true rfl, Nat.le_of_ble_eq_true rfl⟩) hS (fun q _ h => up8 hS q h) (up8 hS) (fun σ121 tS H1 locs ht hvm hw122 hB hz1 hk1 hS => ?_)
                        have hP : va_P D clz (WD8 cy g σ121) H1 := by rw [← ht]; exact hB
                        clear hB hz1 hk1 hvm ht
                        generalize H1 = H at hP hS ⊢
                        have hF123 : Fr (fO [12, d1]) σ σ121 := hw122.1
                        have hJ124 : J8 σ121 := hw122.2.1
                        refine lv_goto (tgt := 248) hx hb dX4_readLine_183 (by decide) ?_
                        refine lv_aload_n hx hb dX4_readLine_248 rfl (lv_at hl 0 rfl) ?_
                        refine va_callv (va_runV (As := []) (rest := []) ⟨hx, hb, hml, hown, hts⟩ (m_X4_takeSign l D cy g σ121   _ hJ124 ) (cwV 0 hts (gd_V q682 q684 q12 q126 q685) rfl rfl rfl (by decide +kernel) ⟨(Nat.le_of_ble_eq_true rfl), (Nat.le_of_ble_eq_true rfl)⟩) (pv8 hP hK hD hC hS (rv8_4 hK hP)) rfl rfl hl.1 rfl (lv_room (Nat.le_of_ble_eq_true rfl)) dX4_readLine_249 ⟨Nat.le_of_ble_eq_true rfl, Nat.le_of_ble_eq_true rfl⟩) hS (fun q _ h => up8 hS q h) (up8 hS) (fun σ126 tS H1 locs ht hvm hw127 hB hz1 hk1 hS => ?_)
                        have hP : va_P D clz (WD8 cy g σ126) H1 := by rw [← ht]; exact hB
                        clear hB hz1 hk1 hvm ht
                        generalize H1 = H at hP hS ⊢
                        have hF128 : Fr (fO [12]) σ121 σ126 := hw127.1
                        have hJ129 : J8 σ126 := hw127.2.1
                        exact W.vret hx hb hr (fun tS ht hW => ⟨⟨σ126, rfl, ⟨Fr.tr (Fr.tr (Fr.rf) hF123 (fO_sub (fun _ q => q))) hF128 (fO_sub (by simp)), hJ129, trivial⟩, (show va_P D clz (WD8 cy g σ126) tS.heap by rw [ht]; exact hP)⟩, hS.F ht⟩) hS.2.2 dX4_readLine_252
                ·
                  have k130 := neq32 c45
                  refine lv_aload_n hx hb dX4_readLine_151 rfl (lv_at hl 0 rfl) ?_
                  refine lv_aload_n hx hb dX4_readLine_152 rfl (lv_at hl 1 rfl) ?_
                  refine va_calli (va_runV (As := []) (rest := [.ref (gO g 12)]) ⟨hx, hb, hml, hown, hts⟩ (m_X0_addPart l D cy g σ  d1 _ hJ (show 0 ≤ d1 ∧ d1 < 5 from hd1)) (cwV 0 hts (gd_V q635 q636 q637 q127 q638) rfl rfl rfl (by decide +kernel) ⟨(Nat.le_of_ble_eq_true rfl), (Nat.le_of_ble_eq_true rfl)⟩) (pv8 hP hK hD hC hS (rv8_0 hK hP hd1)) rfl rfl hl.1 rfl (lv_room (Nat.le_of_ble_eq_true rfl)) dX4_readLine_153 ⟨Nat.le_of_ble_eq_true rfl, Nat.le_of_ble_eq_true rfl⟩) hS (fun q _ h => up8 hS q h) (up8 hS) (fun r131 σ132 tS H1 locs ht hvm hw133 hB hz1 hk1 hS => ?_)
                  have hP : va_P D clz (WD8 cy g σ132) H1 := by rw [← ht]; exact hB
                  clear hB hz1 hk1 hvm ht
                  generalize H1 = H at hP hS ⊢
                  have hF134 : Fr (fO [d1]) σ σ132 := hw133.1
                  have hJ135 : J8 σ132 := hw133.2.1
                  have b136 : (0 : Int) ≤ r131.toInt ∧ r131.toInt ≤ 1 := hw133.2.2.1
                  refine va_callv (va_runV (As := [.int r131]) (rest := []) ⟨hx, hb, hml, hown, hts⟩ (m_X4_takeCounted l D cy g σ132  r131 _ hJ135 (show (0 : Int) ≤ r131.toInt ∧ r131.toInt ≤ 1 from (by have f0 := b136; have g0 := rg32 r131; omega))) (cwV 1 hts (gd_V q602 q604 q8 q126 q605) rfl rfl rfl (by decide +kernel) ⟨(Nat.le_of_ble_eq_true rfl), (Nat.le_of_ble_eq_true rfl)⟩) (pv8 hP hK hD hC hS (rv8_4 hK hP)) rfl rfl hl.1 rfl (lv_room (Nat.le_of_ble_eq_true rfl)) dX4_readLine_156 ⟨Nat.le_of_ble_eq_true rfl, Nat.le_of_ble_eq_true rfl⟩) hS (fun q _ h => up8 hS q h) (up8 hS) (fun σ138 tS H1 locs ht hvm hw139 hB hz1 hk1 hS => ?_)
                  have hP : va_P D clz (WD8 cy g σ138) H1 := by rw [← ht]; exact hB
                  clear hB hz1 hk1 hvm ht
                  generalize H1 = H at hP hS ⊢
                  have hF140 : Fr (fO [12]) σ132 σ138 := hw139.1
                  have hJ141 : J8 σ138 := hw139.2.1
                  refine lv_goto (tgt := 248) hx hb dX4_readLine_159 (by decide) ?_
                  refine lv_aload_n hx hb dX4_readLine_248 rfl (lv_at hl 0 rfl) ?_
                  refine va_callv (va_runV (As := []) (rest := []) ⟨hx, hb, hml, hown, hts⟩ (m_X4_takeSign l D cy g σ138   _ hJ141 ) (cwV 0 hts (gd_V q682 q684 q12 q126 q685) rfl rfl rfl (by decide +kernel) ⟨(Nat.le_of_ble_eq_true rfl), (Nat.le_of_ble_eq_true rfl)⟩) (pv8 hP hK hD hC hS (rv8_4 hK hP)) rfl rfl hl.1 rfl (lv_room (Nat.le_of_ble_eq_true rfl)) dX4_readLine_249 ⟨Nat.le_of_ble_eq_true rfl, Nat.le_of_ble_eq_true rfl⟩) hS (fun q _ h => up8 hS q h) (up8 hS) (fun σ143 tS H1 locs ht hvm hw144 hB hz1 hk1 hS => ?_)
                  have hP : va_P D clz (WD8 cy g σ143) H1 := by rw [← ht]; exact hB
                  clear hB hz1 hk1 hvm ht
                  generalize H1 = H at hP hS ⊢
                  have hF145 : Fr (fO [12]) σ138 σ143 := hw144.1
                  have hJ146 : J8 σ143 := hw144.2.1
                  exact W.vret hx hb hr (fun tS ht hW => ⟨⟨σ143, rfl, ⟨Fr.tr (Fr.tr (Fr.tr (Fr.rf) hF134 (fO_sub (by simp))) hF140 (fO_sub (by simp))) hF145 (fO_sub (by simp)), hJ146, trivial⟩, (show va_P D clz (WD8 cy g σ143) tS.heap by rw [ht]; exact hP)⟩, hS.F ht⟩) hS.2.2 dX4_readLine_252
              ·
                have k147 := neq32 c39
                refine lv_aload_n hx hb dX4_readLine_134 rfl (lv_at hl 0 rfl) ?_
                refine lv_aload_n hx hb dX4_readLine_135 rfl (lv_at hl 1 rfl) ?_
                refine va_callv (va_runV (As := [.ref (gO g d1)]) (rest := []) ⟨hx, hb, hml, hown, hts⟩ (m_X4_readPlayer l D cy g σ  d1 _ hJ (show 0 ≤ d1 ∧ d1 < 5 from hd1)) (cwV 1 hts (gd_V q615 q617 q9 q126 q618) rfl rfl rfl (by decide +kernel) ⟨(Nat.le_of_ble_eq_true rfl), (Nat.le_of_ble_eq_true rfl)⟩) (pv8 hP hK hD hC hS (rv8_4 hK hP)) rfl rfl hl.1 rfl (lv_room (Nat.le_of_ble_eq_true rfl)) dX4_readLine_136 ⟨Nat.le_of_ble_eq_true rfl, Nat.le_of_ble_eq_true rfl⟩) hS (fun q _ h => up8 hS q h) (up8 hS) (fun σ149 tS H1 locs ht hvm hw150 hB hz1 hk1 hS => ?_)
                have hP : va_P D clz (WD8 cy g σ149) H1 := by rw [← ht]; exact hB
                clear hB hz1 hk1 hvm ht
                generalize H1 = H at hP hS ⊢
                have hF151 : Fr (fO [12, d1]) σ σ149 := hw150.1
                have hJ152 : J8 σ149 := hw150.2.1
                refine lv_goto (tgt := 248) hx hb dX4_readLine_139 (by decide) ?_
                refine lv_aload_n hx hb dX4_readLine_248 rfl (lv_at hl 0 rfl) ?_
                refine va_callv (va_runV (As := []) (rest := []) ⟨hx, hb, hml, hown, hts⟩ (m_X4_takeSign l D cy g σ149   _ hJ152 ) (cwV 0 hts (gd_V q682 q684 q12 q126 q685) rfl rfl rfl (by decide +kernel) ⟨(Nat.le_of_ble_eq_true rfl), (Nat.le_of_ble_eq_true rfl)⟩) (pv8 hP hK hD hC hS (rv8_4 hK hP)) rfl rfl hl.1 rfl (lv_room (Nat.le_of_ble_eq_true rfl)) dX4_readLine_249 ⟨Nat.le_of_ble_eq_true rfl, Nat.le_of_ble_eq_true rfl⟩) hS (fun q _ h => up8 hS q h) (up8 hS) (fun σ154 tS H1 locs ht hvm hw155 hB hz1 hk1 hS => ?_)
                have hP : va_P D clz (WD8 cy g σ154) H1 := by rw [← ht]; exact hB
                clear hB hz1 hk1 hvm ht
                generalize H1 = H at hP hS ⊢
                have hF156 : Fr (fO [12]) σ149 σ154 := hw155.1
                have hJ157 : J8 σ154 := hw155.2.1
                exact W.vret hx hb hr (fun tS ht hW => ⟨⟨σ154, rfl, ⟨Fr.tr (Fr.tr (Fr.rf) hF151 (fO_sub (fun _ q => q))) hF156 (fO_sub (by simp)), hJ157, trivial⟩, (show va_P D clz (WD8 cy g σ154) tS.heap by rw [ht]; exact hP)⟩, hS.F ht⟩) hS.2.2 dX4_readLine_252
            ·
              have k158 := neq32 c33
              refine lv_aload_n hx hb dX4_readLine_116 rfl (lv_at hl 0 rfl) ?_
              refine lv_aload_n hx hb dX4_readLine_117 rfl (lv_at hl 1 rfl) ?_
              refine lv_iconst (v := 2) hx hb dX4_readLine_118 (by decide) ?_
              refine va_callv (va_runV (As := [.ref (gO g d1), .int 2]) (rest := []) ⟨hx, hb, hml, hown, hts⟩ (m_X4_readBrass l D cy g σ  d1 (2) _ hJ (show 0 ≤ d1 ∧ d1 < 5 from hd1) (show (0 : Int) ≤ (2 : Int32).toInt ∧ (2 : Int32).toInt ≤ 2 from (by have z2 : (2 : Int32).toInt = 2 := (by decide); omega))) (cwV 2 hts (gd_V q586 q588 q7 q126 q589) rfl rfl rfl (by decide +kernel) ⟨(Nat.le_of_ble_eq_true rfl), (Nat.le_of_ble_eq_true rfl)⟩) (pv8 hP hK hD hC hS (rv8_4 hK hP)) rfl rfl hl.1 rfl (lv_room (Nat.le_of_ble_eq_true rfl)) dX4_readLine_119 ⟨Nat.le_of_ble_eq_true rfl, Nat.le_of_ble_eq_true rfl⟩) hS (fun q _ h => up8 hS q h) (up8 hS) (fun σ160 tS H1 locs ht hvm hw161 hB hz1 hk1 hS => ?_)
              have hP : va_P D clz (WD8 cy g σ160) H1 := by rw [← ht]; exact hB
              clear hB hz1 hk1 hvm ht
              generalize H1 = H at hP hS ⊢
              have hF162 : Fr (fO [12, d1]) σ σ160 := hw161.1
              have hJ163 : J8 σ160 := hw161.2.1
              refine lv_goto (tgt := 248) hx hb dX4_readLine_122 (by decide) ?_
              refine lv_aload_n hx hb dX4_readLine_248 rfl (lv_at hl 0 rfl) ?_
              refine va_callv (va_runV (As := []) (rest := []) ⟨hx, hb, hml, hown, hts⟩ (m_X4_takeSign l D cy g σ160   _ hJ163 ) (cwV 0 hts (gd_V q682 q684 q12 q126 q685) rfl rfl rfl (by decide +kernel) ⟨(Nat.le_of_ble_eq_true rfl), (Nat.le_of_ble_eq_true rfl)⟩) (pv8 hP hK hD hC hS (rv8_4 hK hP)) rfl rfl hl.1 rfl (lv_room (Nat.le_of_ble_eq_true rfl)) dX4_readLine_249 ⟨Nat.le_of_ble_eq_true rfl, Nat.le_of_ble_eq_true rfl⟩) hS (fun q _ h => up8 hS q h) (up8 hS) (fun σ165 tS H1 locs ht hvm hw166 hB hz1 hk1 hS => ?_)
              have hP : va_P D clz (WD8 cy g σ165) H1 := by rw [← ht]; exact hB
              clear hB hz1 hk1 hvm ht
              generalize H1 = H at hP hS ⊢
              have hF167 : Fr (fO [12]) σ160 σ165 := hw166.1
              have hJ168 : J8 σ165 := hw166.2.1
              exact W.vret hx hb hr (fun tS ht hW => ⟨⟨σ165, rfl, ⟨Fr.tr (Fr.tr (Fr.rf) hF162 (fO_sub (fun _ q => q))) hF167 (fO_sub (by simp)), hJ168, trivial⟩, (show va_P D clz (WD8 cy g σ165) tS.heap by rw [ht]; exact hP)⟩, hS.F ht⟩) hS.2.2 dX4_readLine_252
          ·
            have k169 := neq32 c27
            refine lv_aload_n hx hb dX4_readLine_98 rfl (lv_at hl 0 rfl) ?_
            refine lv_aload_n hx hb dX4_readLine_99 rfl (lv_at hl 1 rfl) ?_
            refine lv_iconst (v := 1) hx hb dX4_readLine_100 (by decide) ?_
            refine va_callv (va_runV (As := [.ref (gO g d1), .int 1]) (rest := []) ⟨hx, hb, hml, hown, hts⟩ (m_X4_readBrass l D cy g σ  d1 (1) _ hJ (show 0 ≤ d1 ∧ d1 < 5 from hd1) (show (0 : Int) ≤ (1 : Int32).toInt ∧ (1 : Int32).toInt ≤ 2 from (by have z1 : (1 : Int32).toInt = 1 := (by decide); omega))) (cwV 2 hts (gd_V q586 q588 q7 q126 q589) rfl rfl rfl (by decide +kernel) ⟨(Nat.le_of_ble_eq_true rfl), (Nat.le_of_ble_eq_true rfl)⟩) (pv8 hP hK hD hC hS (rv8_4 hK hP)) rfl rfl hl.1 rfl (lv_room (Nat.le_of_ble_eq_true rfl)) dX4_readLine_101 ⟨Nat.le_of_ble_eq_true rfl, Nat.le_of_ble_eq_true rfl⟩) hS (fun q _ h => up8 hS q h) (up8 hS) (fun σ171 tS H1 locs ht hvm hw172 hB hz1 hk1 hS => ?_)
            have hP : va_P D clz (WD8 cy g σ171) H1 := by rw [← ht]; exact hB
            clear hB hz1 hk1 hvm ht
            generalize H1 = H at hP hS ⊢
            have hF173 : Fr (fO [12, d1]) σ σ171 := hw172.1
            have hJ174 : J8 σ171 := hw172.2.1
            refine lv_goto (tgt := 248) hx hb dX4_readLine_104 (by decide) ?_
            refine lv_aload_n hx hb dX4_readLine_248 rfl (lv_at hl 0 rfl) ?_
            refine va_callv (va_runV (As := []) (rest := []) ⟨hx, hb, hml, hown, hts⟩ (m_X4_takeSign l D cy g σ171   _ hJ174 ) (cwV 0 hts (gd_V q682 q684 q12 q126 q685) rfl rfl rfl (by decide +kernel) ⟨(Nat.le_of_ble_eq_true rfl), (Nat.le_of_ble_eq_true rfl)⟩) (pv8 hP hK hD hC hS (rv8_4 hK hP)) rfl rfl hl.1 rfl (lv_room (Nat.le_of_ble_eq_true rfl)) dX4_readLine_249 ⟨Nat.le_of_ble_eq_true rfl, Nat.le_of_ble_eq_true rfl⟩) hS (fun q _ h => up8 hS q h) (up8 hS) (fun σ176 tS H1 locs ht hvm hw177 hB hz1 hk1 hS => ?_)
            have hP : va_P D clz (WD8 cy g σ176) H1 := by rw [← ht]; exact hB
            clear hB hz1 hk1 hvm ht
            generalize H1 = H at hP hS ⊢
            have hF178 : Fr (fO [12]) σ171 σ176 := hw177.1
            have hJ179 : J8 σ176 := hw177.2.1
            exact W.vret hx hb hr (fun tS ht hW => ⟨⟨σ176, rfl, ⟨Fr.tr (Fr.tr (Fr.rf) hF173 (fO_sub (fun _ q => q))) hF178 (fO_sub (by simp)), hJ179, trivial⟩, (show va_P D clz (WD8 cy g σ176) tS.heap by rw [ht]; exact hP)⟩, hS.F ht⟩) hS.2.2 dX4_readLine_252
        ·
          have k180 := neq32 c21
          refine lv_aload_n hx hb dX4_readLine_80 rfl (lv_at hl 0 rfl) ?_
          refine lv_aload_n hx hb dX4_readLine_81 rfl (lv_at hl 1 rfl) ?_
          refine lv_iconst (v := 0) hx hb dX4_readLine_82 (by decide) ?_
          refine va_callv (va_runV (As := [.ref (gO g d1), .int 0]) (rest := []) ⟨hx, hb, hml, hown, hts⟩ (m_X4_readBrass l D cy g σ  d1 (0) _ hJ (show 0 ≤ d1 ∧ d1 < 5 from hd1) (show (0 : Int) ≤ (0 : Int32).toInt ∧ (0 : Int32).toInt ≤ 2 from (by have z0 : (0 : Int32).toInt = 0 := (by decide); omega))) (cwV 2 hts (gd_V q586 q588 q7 q126 q589) rfl rfl rfl (by decide +kernel) ⟨(Nat.le_of_ble_eq_true rfl), (Nat.le_of_ble_eq_true rfl)⟩) (pv8 hP hK hD hC hS (rv8_4 hK hP)) rfl rfl hl.1 rfl (lv_room (Nat.le_of_ble_eq_true rfl)) dX4_readLine_83 ⟨Nat.le_of_ble_eq_true rfl, Nat.le_of_ble_eq_true rfl⟩) hS (fun q _ h => up8 hS q h) (up8 hS) (fun σ182 tS H1 locs ht hvm hw183 hB hz1 hk1 hS => ?_)
          have hP : va_P D clz (WD8 cy g σ182) H1 := by rw [← ht]; exact hB
          clear hB hz1 hk1 hvm ht
          generalize H1 = H at hP hS ⊢
          have hF184 : Fr (fO [12, d1]) σ σ182 := hw183.1
          have hJ185 : J8 σ182 := hw183.2.1
          refine lv_goto (tgt := 248) hx hb dX4_readLine_86 (by decide) ?_
          refine lv_aload_n hx hb dX4_readLine_248 rfl (lv_at hl 0 rfl) ?_
          refine va_callv (va_runV (As := []) (rest := []) ⟨hx, hb, hml, hown, hts⟩ (m_X4_takeSign l D cy g σ182   _ hJ185 ) (cwV 0 hts (gd_V q682 q684 q12 q126 q685) rfl rfl rfl (by decide +kernel) ⟨(Nat.le_of_ble_eq_true rfl), (Nat.le_of_ble_eq_true rfl)⟩) (pv8 hP hK hD hC hS (rv8_4 hK hP)) rfl rfl hl.1 rfl (lv_room (Nat.le_of_ble_eq_true rfl)) dX4_readLine_249 ⟨Nat.le_of_ble_eq_true rfl, Nat.le_of_ble_eq_true rfl⟩) hS (fun q _ h => up8 hS q h) (up8 hS) (fun σ187 tS H1 locs ht hvm hw188 hB hz1 hk1 hS => ?_)
          have hP : va_P D clz (WD8 cy g σ187) H1 := by rw [← ht]; exact hB
          clear hB hz1 hk1 hvm ht
          generalize H1 = H at hP hS ⊢
          have hF189 : Fr (fO [12]) σ182 σ187 := hw188.1
          have hJ190 : J8 σ187 := hw188.2.1
          exact W.vret hx hb hr (fun tS ht hW => ⟨⟨σ187, rfl, ⟨Fr.tr (Fr.tr (Fr.rf) hF184 (fO_sub (fun _ q => q))) hF189 (fO_sub (by simp)), hJ190, trivial⟩, (show va_P D clz (WD8 cy g σ187) tS.heap by rw [ht]; exact hP)⟩, hS.F ht⟩) hS.2.2 dX4_readLine_252
      ·
        have k191 := neq32 c15
        refine lv_aload_n hx hb dX4_readLine_38 rfl (lv_at hl 0 rfl) ?_
        refine va_callv (va_runV (As := []) (rest := []) ⟨hx, hb, hml, hown, hts⟩ (m_X4_takeToken l D cy g σ   _ hJ ) (cwV 0 hts (gd_V q499 q501 q0 q126 q502) rfl rfl rfl (by decide +kernel) ⟨(Nat.le_of_ble_eq_true rfl), (Nat.le_of_ble_eq_true rfl)⟩) (pv8 hP hK hD hC hS (rv8_4 hK hP)) rfl rfl hl.1 rfl (lv_room (Nat.le_of_ble_eq_true rfl)) dX4_readLine_39 ⟨Nat.le_of_ble_eq_true rfl, Nat.le_of_ble_eq_true rfl⟩) hS (fun q _ h => up8 hS q h) (up8 hS) (fun σ193 tS H1 locs ht hvm hw194 hB hz1 hk1 hS => ?_)
        have hP : va_P D clz (WD8 cy g σ193) H1 := by rw [← ht]; exact hB
        clear hB hz1 hk1 hvm ht
        generalize H1 = H at hP hS ⊢
        have hF195 : Fr (fO [12]) σ σ193 := hw194.1
        have hJ196 : J8 σ193 := hw194.2.1
        refine lv_aload_n hx hb dX4_readLine_42 rfl (lv_at hl 1 rfl) ?_
        refine lv_aload_n hx hb dX4_readLine_43 rfl (lv_at hl 0 rfl) ?_
        refine va_ldcS (q := gS g 1) (tx := "cents") hx hb hown (show vk_R RX4 56 "cents" (gS g 1) s from hC.2.2.1 1 (by decide)) dX4_readLine_44 ?_
        refine lv_iconst (v := 1) hx hb dX4_readLine_46 (by decide) ?_
        refine lv_bipush (v := 60) hx hb dX4_readLine_47 (by decide) ?_
        refine va_calli (va_runV (As := [.ref (gS g 1), .int 1, .int 60]) (rest := [.ref (gO g d1)]) ⟨hx, hb, hml, hown, hts⟩ (m_X4_numberBehind l D cy g σ193  1 (1) (60) _ hJ196 (by decide : 1 < 21) (show (0 : Int) ≤ (1 : Int32).toInt ∧ (1 : Int32).toInt ≤ 100 from (by have z1 : (1 : Int32).toInt = 1 := (by decide); omega)) (show (9 : Int) ≤ (60 : Int32).toInt ∧ (60 : Int32).toInt ≤ 999 from (by have z1 : (1 : Int32).toInt = 1 := (by decide); have z60 : (60 : Int32).toInt = 60 := (by decide); omega))) (cwV 3 hts (gd_V q576 q578 q5 q126 q579) rfl rfl rfl (by decide +kernel) ⟨(Nat.le_of_ble_eq_true rfl), (Nat.le_of_ble_eq_true rfl)⟩) (pv8 hP hK hD hC hS (rv8_4 hK hP)) rfl rfl hl.1 rfl (lv_room (Nat.le_of_ble_eq_true rfl)) dX4_readLine_49 ⟨Nat.le_of_ble_eq_true rfl, Nat.le_of_ble_eq_true rfl⟩) hS (fun q _ h => up8 hS q h) (up8 hS) (fun r197 σ198 tS H1 locs ht hvm hw199 hB hz1 hk1 hS => ?_)
        have hP : va_P D clz (WD8 cy g σ198) H1 := by rw [← ht]; exact hB
        clear hB hz1 hk1 hvm ht
        generalize H1 = H at hP hS ⊢
        have hF200 : Fr (fO [12]) σ193 σ198 := hw199.1
        have hJ201 : J8 σ198 := hw199.2.1
        have b202 : (-2147483648 : Int) ≤ r197.toInt ∧ r197.toInt ≤ 1000000 := hw199.2.2.1
        refine p8_0_0 hx hb hts hown hK hP hd1 hD hS (hts _ q193) dX4_readLine_52 (fun H locs σ203 eσ203 hP hS => ?_)
        have hJ204 : J8 σ203 := hJ201.I eσ203 (clO_0 hd1) (show JI8 0 0 r197 from trivial)
        refine lv_aload_n hx hb dX4_readLine_55 rfl (lv_at hl 1 rfl) ?_
        refine lv_aload_n hx hb dX4_readLine_56 rfl (lv_at hl 0 rfl) ?_
        refine va_ldcS (q := gS g 2) (tx := "highest") hx hb hown (show vk_R RX4 64 "highest" (gS g 2) s from hC.2.2.1 2 (by decide)) dX4_readLine_57 ?_
        refine lv_iconst (v := 2) hx hb dX4_readLine_59 (by decide) ?_
        refine lv_bipush (v := 12) hx hb dX4_readLine_60 (by decide) ?_
        refine va_calli (va_runV (As := [.ref (gS g 2), .int 2, .int 12]) (rest := [.ref (gO g d1)]) ⟨hx, hb, hml, hown, hts⟩ (m_X4_numberBehind l D cy g σ203  2 (2) (12) _ hJ204 (by decide : 2 < 21) (show (0 : Int) ≤ (2 : Int32).toInt ∧ (2 : Int32).toInt ≤ 100 from (by have z2 : (2 : Int32).toInt = 2 := (by decide); omega)) (show (9 : Int) ≤ (12 : Int32).toInt ∧ (12 : Int32).toInt ≤ 999 from (by have z2 : (2 : Int32).toInt = 2 := (by decide); have z12 : (12 : Int32).toInt = 12 := (by decide); omega))) (cwV 3 hts (gd_V q576 q578 q5 q126 q579) rfl rfl rfl (by decide +kernel) ⟨(Nat.le_of_ble_eq_true rfl), (Nat.le_of_ble_eq_true rfl)⟩) (pv8 hP hK hD hC hS (rv8_4 hK hP)) rfl rfl hl.1 rfl (lv_room (Nat.le_of_ble_eq_true rfl)) dX4_readLine_62 ⟨Nat.le_of_ble_eq_true rfl, Nat.le_of_ble_eq_true rfl⟩) hS (fun q _ h => up8 hS q h) (up8 hS) (fun r205 σ206 tS H1 locs ht hvm hw207 hB hz1 hk1 hS => ?_)
        have hP : va_P D clz (WD8 cy g σ206) H1 := by rw [← ht]; exact hB
        clear hB hz1 hk1 hvm ht
        generalize H1 = H at hP hS ⊢
        have hF208 : Fr (fO [12]) σ203 σ206 := hw207.1
        have hJ209 : J8 σ206 := hw207.2.1
        have b210 : (-2147483648 : Int) ≤ r205.toInt ∧ r205.toInt ≤ 1000000 := hw207.2.2.1
        refine p8_0_1 hx hb hts hown hK hP hd1 hD hS (hts _ q197) dX4_readLine_65 (fun H locs σ211 eσ211 hP hS => ?_)
        have hJ212 : J8 σ211 := hJ209.I eσ211 (clO_0 hd1) (show JI8 0 1 r205 from (by have f0 := b210; have g0 := rg32 r205; exact ⟨by omega, by omega⟩))
        refine lv_goto (tgt := 248) hx hb dX4_readLine_68 (by decide) ?_
        refine lv_aload_n hx hb dX4_readLine_248 rfl (lv_at hl 0 rfl) ?_
        refine va_callv (va_runV (As := []) (rest := []) ⟨hx, hb, hml, hown, hts⟩ (m_X4_takeSign l D cy g σ211   _ hJ212 ) (cwV 0 hts (gd_V q682 q684 q12 q126 q685) rfl rfl rfl (by decide +kernel) ⟨(Nat.le_of_ble_eq_true rfl), (Nat.le_of_ble_eq_true rfl)⟩) (pv8 hP hK hD hC hS (rv8_4 hK hP)) rfl rfl hl.1 rfl (lv_room (Nat.le_of_ble_eq_true rfl)) dX4_readLine_249 ⟨Nat.le_of_ble_eq_true rfl, Nat.le_of_ble_eq_true rfl⟩) hS (fun q _ h => up8 hS q h) (up8 hS) (fun σ214 tS H1 locs ht hvm hw215 hB hz1 hk1 hS => ?_)
        have hP : va_P D clz (WD8 cy g σ214) H1 := by rw [← ht]; exact hB
        clear hB hz1 hk1 hvm ht
        generalize H1 = H at hP hS ⊢
        have hF216 : Fr (fO [12]) σ211 σ214 := hw215.1
        have hJ217 : J8 σ214 := hw215.2.1
        exact W.vret hx hb hr (fun tS ht hW => ⟨⟨σ214, rfl, ⟨Fr.tr (Fr.tr (Fr.tr (Fr.tr (Fr.tr (Fr.tr (Fr.rf) hF195 (fO_sub (by simp))) hF200 (fO_sub (by simp))) (sI_f eσ203) (fN_O (mne mem0))) hF208 (fO_sub (by simp))) (sI_f eσ211) (fN_O (mne mem0))) hF216 (fO_sub (by simp)), hJ217, trivial⟩, (show va_P D clz (WD8 cy g σ214) tS.heap by rw [ht]; exact hP)⟩, hS.F ht⟩) hS.2.2 dX4_readLine_252
    ·
      have k218 := neq32 c9
      refine lv_aload_n hx hb dX4_readLine_21 rfl (lv_at hl 0 rfl) ?_
      refine lv_iconst (v := 1) hx hb dX4_readLine_22 (by decide) ?_
      refine va_callv (va_runV (As := [.int 1]) (rest := []) ⟨hx, hb, hml, hown, hts⟩ (m_X4_refuse l D cy g σ  (1) _ hJ (show (1 : Int) ≤ (1 : Int32).toInt ∧ (1 : Int32).toInt ≤ 3 from (by have z1 : (1 : Int32).toInt = 1 := (by decide); omega))) (cwV 1 hts (gd_V q571 q573 q4 q126 q574) rfl rfl rfl (by decide +kernel) ⟨(Nat.le_of_ble_eq_true rfl), (Nat.le_of_ble_eq_true rfl)⟩) (pv8 hP hK hD hC hS (rv8_4 hK hP)) rfl rfl hl.1 rfl (lv_room (Nat.le_of_ble_eq_true rfl)) dX4_readLine_23 ⟨Nat.le_of_ble_eq_true rfl, Nat.le_of_ble_eq_true rfl⟩) hS (fun q _ h => up8 hS q h) (up8 hS) (fun σ220 tS H1 locs ht hvm hw221 hB hz1 hk1 hS => ?_)
      have hP : va_P D clz (WD8 cy g σ220) H1 := by rw [← ht]; exact hB
      clear hB hz1 hk1 hvm ht
      generalize H1 = H at hP hS ⊢
      have hF222 : Fr (fO [12]) σ σ220 := hw221.1
      have hJ223 : J8 σ220 := hw221.2.1
      refine lv_goto (tgt := 248) hx hb dX4_readLine_26 (by decide) ?_
      refine lv_aload_n hx hb dX4_readLine_248 rfl (lv_at hl 0 rfl) ?_
      refine va_callv (va_runV (As := []) (rest := []) ⟨hx, hb, hml, hown, hts⟩ (m_X4_takeSign l D cy g σ220   _ hJ223 ) (cwV 0 hts (gd_V q682 q684 q12 q126 q685) rfl rfl rfl (by decide +kernel) ⟨(Nat.le_of_ble_eq_true rfl), (Nat.le_of_ble_eq_true rfl)⟩) (pv8 hP hK hD hC hS (rv8_4 hK hP)) rfl rfl hl.1 rfl (lv_room (Nat.le_of_ble_eq_true rfl)) dX4_readLine_249 ⟨Nat.le_of_ble_eq_true rfl, Nat.le_of_ble_eq_true rfl⟩) hS (fun q _ h => up8 hS q h) (up8 hS) (fun σ225 tS H1 locs ht hvm hw226 hB hz1 hk1 hS => ?_)
      have hP : va_P D clz (WD8 cy g σ225) H1 := by rw [← ht]; exact hB
      clear hB hz1 hk1 hvm ht
      generalize H1 = H at hP hS ⊢
      have hF227 : Fr (fO [12]) σ220 σ225 := hw226.1
      have hJ228 : J8 σ225 := hw226.2.1
      exact W.vret hx hb hr (fun tS ht hW => ⟨⟨σ225, rfl, ⟨Fr.tr (Fr.tr (Fr.rf) hF222 (fO_sub (by simp))) hF227 (fO_sub (by simp)), hJ228, trivial⟩, (show va_P D clz (WD8 cy g σ225) tS.heap by rw [ht]; exact hP)⟩, hS.F ht⟩) hS.2.2 dX4_readLine_252
  ·
    intro nj5
    refine lv_if_ne (tgt := 17) hx hb dX4_readLine_10 (by decide) (fun c229 => ?_) (fun c229 => ?_)
    ·
      have k230 := neq32 c229
      refine lv_iconst (v := 0) hx hb dX4_readLine_17 (by decide) ?_
      exact nj5 (σ, lf [0], lg []) ⟨rfl, (show (0 : Int) ≤ (0 : Int32).toInt ∧ (0 : Int32).toInt ≤ 1 from (by have z0 : (0 : Int32).toInt = 0 := (by decide); omega)), trivial⟩ _ _ _ hP hS (lv_sub hl [0, 1] rfl)
    ·
      have k231 := peq32 c229
      refine lv_iconst (v := 1) hx hb dX4_readLine_13 (by decide) ?_
      refine lv_goto (tgt := 18) hx hb dX4_readLine_14 (by decide) ?_
      exact nj5 (σ, lf [1], lg []) ⟨rfl, (show (0 : Int) ≤ (1 : Int32).toInt ∧ (1 : Int32).toInt ≤ 1 from (by have z1 : (1 : Int32).toInt = 1 := (by decide); omega)), trivial⟩ _ _ _ hP hS (lv_sub hl [0, 1] rfl)

theorem q494 : Cond.code yX4_readInto cX4_readInto 3 (some .boolean) ∈ lw_g := lw_gm (List.mem_of_getElem? (i := 494) (by decide +kernel)) rfl
theorem q495 : Cond.methodLink RX4 22 yX0_clear ∈ lw_g := lw_gm (List.mem_of_getElem? (i := 495) (by decide +kernel)) rfl
theorem q496 : Cond.instanceMethod yX0_clear ∈ lw_g := lw_gm (List.mem_of_getElem? (i := 496) (by decide +kernel)) rfl
theorem q497 : Cond.selects RX0 yX0_clear yX0_clear ∈ lw_g := lw_gm (List.mem_of_getElem? (i := 497) (by decide +kernel)) rfl
theorem q514 : Cond.methodLink RX4 39 yX4_readLine ∈ lw_g := lw_gm (List.mem_of_getElem? (i := 514) (by decide +kernel)) rfl
theorem q516 : Cond.instanceMethod yX4_readLine ∈ lw_g := lw_gm (List.mem_of_getElem? (i := 516) (by decide +kernel)) rfl
theorem q2 : Cond.selects RX4 yX4_readLine yX4_readLine ∈ lw_g := lw_gm (List.mem_of_getElem? (i := 2) (by decide +kernel)) rfl
theorem dX4_readInto_0 : decode cX4_readInto 0 = .ok (.aload_n 1, 1) := by decide +kernel
theorem dX4_readInto_1 : decode cX4_readInto 1 = .ok (.invokevirtual 22, 3) := by decide +kernel
theorem dX4_readInto_4 : decode cX4_readInto 4 = .ok (.aload_n 0, 1) := by decide +kernel
theorem dX4_readInto_5 : decode cX4_readInto 5 = .ok (.iconst 0, 1) := by decide +kernel
theorem dX4_readInto_6 : decode cX4_readInto 6 = .ok (.putfield 27, 3) := by decide +kernel
theorem dX4_readInto_9 : decode cX4_readInto 9 = .ok (.aload_n 0, 1) := by decide +kernel
theorem dX4_readInto_10 : decode cX4_readInto 10 = .ok (.iconst (-1), 1) := by decide +kernel
theorem dX4_readInto_11 : decode cX4_readInto 11 = .ok (.putfield 15, 3) := by decide +kernel
theorem dX4_readInto_14 : decode cX4_readInto 14 = .ok (.aload_n 0, 1) := by decide +kernel
theorem dX4_readInto_15 : decode cX4_readInto 15 = .ok (.iconst 0, 1) := by decide +kernel
theorem dX4_readInto_16 : decode cX4_readInto 16 = .ok (.putfield 30, 3) := by decide +kernel
theorem dX4_readInto_19 : decode cX4_readInto 19 = .ok (.aload_n 0, 1) := by decide +kernel
theorem dX4_readInto_20 : decode cX4_readInto 20 = .ok (.invokevirtual 33, 3) := by decide +kernel
theorem dX4_readInto_23 : decode cX4_readInto 23 = .ok (.iconst 0, 1) := by decide +kernel
theorem dX4_readInto_24 : decode cX4_readInto 24 = .ok (.istore_n 2, 1) := by decide +kernel
theorem dX4_readInto_25 : decode cX4_readInto 25 = .ok (.iload_n 2, 1) := by decide +kernel
theorem dX4_readInto_26 : decode cX4_readInto 26 = .ok (.sipush 2000, 3) := by decide +kernel
theorem dX4_readInto_29 : decode cX4_readInto 29 = .ok (.if_icmp .ge 38, 3) := by decide +kernel
theorem dX4_readInto_32 : decode cX4_readInto 32 = .ok (.aload_n 0, 1) := by decide +kernel
theorem dX4_readInto_33 : decode cX4_readInto 33 = .ok (.getfield 36, 3) := by decide +kernel
theorem dX4_readInto_36 : decode cX4_readInto 36 = .ok (.ifCond .eq 31, 3) := by decide +kernel
theorem dX4_readInto_39 : decode cX4_readInto 39 = .ok (.aload_n 0, 1) := by decide +kernel
theorem dX4_readInto_40 : decode cX4_readInto 40 = .ok (.getfield 27, 3) := by decide +kernel
theorem dX4_readInto_43 : decode cX4_readInto 43 = .ok (.ifCond .ne 24, 3) := by decide +kernel
theorem dX4_readInto_46 : decode cX4_readInto 46 = .ok (.aload_n 0, 1) := by decide +kernel
theorem dX4_readInto_47 : decode cX4_readInto 47 = .ok (.aload_n 1, 1) := by decide +kernel
theorem dX4_readInto_48 : decode cX4_readInto 48 = .ok (.invokevirtual 39, 3) := by decide +kernel
theorem dX4_readInto_51 : decode cX4_readInto 51 = .ok (.aload_n 1, 1) := by decide +kernel
theorem dX4_readInto_52 : decode cX4_readInto 52 = .ok (.dup, 1) := by decide +kernel
theorem dX4_readInto_53 : decode cX4_readInto 53 = .ok (.getfield 43, 3) := by decide +kernel
theorem dX4_readInto_56 : decode cX4_readInto 56 = .ok (.iconst 1, 1) := by decide +kernel
theorem dX4_readInto_57 : decode cX4_readInto 57 = .ok (.iadd, 1) := by decide +kernel
theorem dX4_readInto_58 : decode cX4_readInto 58 = .ok (.putfield 43, 3) := by decide +kernel
theorem dX4_readInto_61 : decode cX4_readInto 61 = .ok (.iinc 2 1, 3) := by decide +kernel
theorem dX4_readInto_64 : decode cX4_readInto 64 = .ok (.goto (-39), 3) := by decide +kernel
theorem dX4_readInto_67 : decode cX4_readInto 67 = .ok (.aload_n 0, 1) := by decide +kernel
theorem dX4_readInto_68 : decode cX4_readInto 68 = .ok (.getfield 27, 3) := by decide +kernel
theorem dX4_readInto_71 : decode cX4_readInto 71 = .ok (.ifCond .ne 7, 3) := by decide +kernel
theorem dX4_readInto_74 : decode cX4_readInto 74 = .ok (.iconst 1, 1) := by decide +kernel
theorem dX4_readInto_75 : decode cX4_readInto 75 = .ok (.goto 4, 3) := by decide +kernel
theorem dX4_readInto_78 : decode cX4_readInto 78 = .ok (.iconst 0, 1) := by decide +kernel
theorem dX4_readInto_79 : decode cX4_readInto 79 = .ok (.ireturn, 1) := by decide +kernel
set_option maxHeartbeats 4000000 in
set_option maxRecDepth 100000 in
theorem m_X4_readInto (l : Launch) (D : va_G) (cy : Nat → ClassId) (g : Nat → Nat) (σ : ST) (d1 : Nat) (sz : Nat) (hJ : J8 σ) (hd1 : 0 ≤ d1 ∧ d1 < 5) : Met l yX4_readInto (ww yX4_readInto cX4_readInto 3 (some .boolean)) ({ frames := 9, cells := 0, slots := 0, locals := 576 }) (va_Pc [.ref (gO g 12), .ref (gO g d1)] (pr8 D cy g σ sz)) (qi8 D cy g sz (fun r τ => Fr (fO [12, d1]) σ τ ∧ J8 τ ∧ ((0 : Int) ≤ r.toInt ∧ r.toInt ≤ 1) ∧ True)) 0 0 (A8 cy g sz) := by
  refine Met.ofW (cc := cX4_readInto) (maxL := 3) (ret := (some .boolean)) (by decide) rfl ?_
  intro p e s m args below meth c s₁ B hml hv
  obtain ⟨rfl, hsz, hP, hK, hD0, hC⟩ := hv
  have hx := B.exec
  have hb := B.bytes
  have hr := B.returns
  have hts := hts_g (atoms_spec (ws := ww yX4_readInto cX4_readInto 3 (some .boolean)) B.pre)
  have hown : s.vm.findClass RX4 = some m.cls := findClass_of_methodNamed B.named
  have hlocks := B.notSynchronized
  clear B
  subst hsz
  have hD := fun τ => A8_D (sz := s.heap.size) hD0 τ
  clear hD0
  have hS : va_S (A8 cy g s.heap.size) s.heap s.heap [] := va_S.rf
  have hl := lv_entry ([.ref (gO g 12), .ref (gO g d1)]) (n := 3) (Nat.le_of_ble_eq_true rfl)
  rw [lg_entry_eq]
  generalize (lg_sl ([.ref (gO g 12), .ref (gO g d1)]) ++ List.replicate (3 - (lg_sl ([.ref (gO g 12), .ref (gO g d1)])).length) Slot.unset).toArray = ls at hl ⊢
  have hl : lv_has ls 3 [(0, .ref (gO g 12)), (1, .ref (gO g d1))] := hl
  refine lv_aload_n hx hb dX4_readInto_0 rfl (lv_at hl 1 rfl) ?_
  refine va_callv (va_runV (As := []) (rest := []) ⟨hx, hb, hml, hown, hts⟩ (m_X0_clear l D cy g σ  d1 _ hJ (show 0 ≤ d1 ∧ d1 < 5 from hd1)) (cwV 0 hts (gd_V q495 q496 q497 q127 q498) rfl rfl rfl (by decide +kernel) ⟨(Nat.le_of_ble_eq_true rfl), (Nat.le_of_ble_eq_true rfl)⟩) (pv8 hP hK hD hC hS (rv8_0 hK hP hd1)) rfl rfl hl.1 rfl (lv_room (Nat.le_of_ble_eq_true rfl)) dX4_readInto_1 ⟨Nat.le_of_ble_eq_true rfl, Nat.le_of_ble_eq_true rfl⟩) hS (fun q _ h => up8 hS q h) (up8 hS) (fun σ2 tS H1 locs ht hvm hw3 hB hz1 hk1 hS => ?_)
  have hP : va_P D clz (WD8 cy g σ2) H1 := by rw [← ht]; exact hB
  clear hB hz1 hk1 hvm ht
  generalize H1 = H at hP hS ⊢
  have hF4 : Fr (fO [d1]) σ σ2 := hw3.1
  have hJ5 : J8 σ2 := hw3.2.1
  refine lv_aload_n hx hb dX4_readInto_4 rfl (lv_at hl 0 rfl) ?_
  refine lv_iconst (v := 0) hx hb dX4_readInto_5 (by decide) ?_
  refine p8_4_2 hx hb hts hown hK hP hD hS (hts _ q160) dX4_readInto_6 (fun H locs σ6 eσ6 hP hS => ?_)
  have hJ7 : J8 σ6 := hJ5.I eσ6 rfl (show JI8 4 2 (0 : Int32) from (by constructor <;> decide))
  refine lv_aload_n hx hb dX4_readInto_9 rfl (lv_at hl 0 rfl) ?_
  refine lv_iconst (v := (-1)) hx hb dX4_readInto_10 (by decide) ?_
  refine p8_4_3 hx hb hts hown hK hP hD hS (hts _ q162) dX4_readInto_11 (fun H locs σ8 eσ8 hP hS => ?_)
  have hJ9 : J8 σ8 := hJ7.I eσ8 rfl (show JI8 4 3 ((-1) : Int32) from trivial)
  refine lv_aload_n hx hb dX4_readInto_14 rfl (lv_at hl 0 rfl) ?_
  refine lv_iconst (v := 0) hx hb dX4_readInto_15 (by decide) ?_
  refine p8_4_4 hx hb hts hown hK hP hD hS (hts _ q164) dX4_readInto_16 (fun H locs σ10 eσ10 hP hS => ?_)
  have hJ11 : J8 σ10 := hJ9.I eσ10 rfl (show JI8 4 4 (0 : Int32) from trivial)
  refine lv_aload_n hx hb dX4_readInto_19 rfl (lv_at hl 0 rfl) ?_
  refine va_callv (va_runV (As := []) (rest := []) ⟨hx, hb, hml, hown, hts⟩ (m_X4_takeToken l D cy g σ10   _ hJ11 ) (cwV 0 hts (gd_V q499 q501 q0 q126 q502) rfl rfl rfl (by decide +kernel) ⟨(Nat.le_of_ble_eq_true rfl), (Nat.le_of_ble_eq_true rfl)⟩) (pv8 hP hK hD hC hS (rv8_4 hK hP)) rfl rfl hl.1 rfl (lv_room (Nat.le_of_ble_eq_true rfl)) dX4_readInto_20 ⟨Nat.le_of_ble_eq_true rfl, Nat.le_of_ble_eq_true rfl⟩) hS (fun q _ h => up8 hS q h) (up8 hS) (fun σ13 tS H1 locs ht hvm hw14 hB hz1 hk1 hS => ?_)
  have hP : va_P D clz (WD8 cy g σ13) H1 := by rw [← ht]; exact hB
  clear hB hz1 hk1 hvm ht
  generalize H1 = H at hP hS ⊢
  have hF15 : Fr (fO [12]) σ10 σ13 := hw14.1
  have hJ16 : J8 σ13 := hw14.2.1
  refine lv_iconst (v := 0) hx hb dX4_readInto_23 (by decide) ?_
  refine lv_istore_n (lv' := [(2, .int 0), (0, .ref (gO g 12)), (1, .ref (gO g d1))]) hx hb dX4_readInto_24 rfl hl (by decide) rfl (fun ls hl => ?_)
  refine loop8 3 25 (fun x : LZ => [(2, .int (x.2.1 0)), (0, .ref (gO g 12)), (1, .ref (gO g d1))]) (fun x : LZ => (Fr (fO [12, d1]) σ13 x.1) ∧ (J8 x.1) ∧ ((0 : Int) ≤ (x.2.1 0).toInt ∧ (x.2.1 0).toInt ≤ 2000) ∧ True) (fun x : LZ => ((2001 : Int) - (x.2.1 0).toInt).toNat) ?_ (σ13, lf [0], lg []) ⟨Fr.rf, hJ16, (show (0 : Int) ≤ (0 : Int32).toInt ∧ (0 : Int32).toInt ≤ 2000 from (by have z0 : (0 : Int32).toInt = 0 := (by decide); omega)), trivial⟩ _ _ _ hP hS (lv_sub hl [0, 1, 2] rfl)
  intro y19 hI18 nl17 H locs ls hP hS hl
  obtain ⟨σ20, eσ20⟩ : ∃ z, z = y19.1 := ⟨_, rfl⟩
  rw [← eσ20] at hP hI18
  have hF21 : Fr (fO [12, d1]) σ13 σ20 := hI18.1
  have hJ22 : J8 σ20 := hI18.2.1
  have b23 : (0 : Int) ≤ (y19.2.1 0).toInt ∧ (y19.2.1 0).toInt ≤ 2000 := hI18.2.2.1
  have hl : lv_has ls 3 [(2, .int (y19.2.1 0)), (0, .ref (gO g 12)), (1, .ref (gO g d1))] := hl
  refine lv_iload_n hx hb dX4_readInto_25 rfl (lv_at hl 0 rfl) ?_
  refine lv_sipush (v := 2000) hx hb dX4_readInto_26 (by decide) ?_
  refine cut8 (D := D) (cy := cy) (g := g) (A := A8 cy g s.heap.size) (H0 := s.heap) 3 67 (fun x : LZ => [(2, .int (y19.2.1 0)), (0, .ref (gO g 12)), (1, .ref (gO g d1))]) (fun x : LZ => []) (fun x : LZ => (x.1 = σ20) ∧ True) ?_ ?_
  ·
    intro y26 hI25 H locs ls hP hS hl
    rw [show y26.1 = σ20 from hI25.1] at hP
    have hl : lv_has ls 3 [(2, .int (y19.2.1 0)), (0, .ref (gO g 12)), (1, .ref (gO g d1))] := hl
    refine lv_aload_n hx hb dX4_readInto_67 rfl (lv_at hl 1 rfl) ?_
    refine g8_4_2 (x := ((σ20 12).1 2)) hx hb hts hown hK hP (rfl) (hts _ q160) dX4_readInto_68 ?_
    refine lv_if_ne (tgt := 78) hx hb dX4_readInto_71 (by decide) (fun c27 => ?_) (fun c27 => ?_)
    ·
      have k28 := neq32 c27
      refine lv_iconst (v := 0) hx hb dX4_readInto_78 (by decide) ?_
      exact W.zret (v := 0) hx hb hr rfl (fun tS ht hW => ⟨⟨0, σ20, rfl, ⟨Fr.tr (Fr.tr (Fr.tr (Fr.tr (Fr.tr (Fr.tr (Fr.rf) hF4 (fO_sub (by simp))) (sI_f eσ6) (fN_O mem0)) (sI_f eσ8) (fN_O mem0)) (sI_f eσ10) (fN_O mem0)) hF15 (fO_sub (by simp))) hF21 (fO_sub (fun _ q => q)), hJ22, (show (0 : Int) ≤ (0 : Int32).toInt ∧ (0 : Int32).toInt ≤ 1 from (by have z0 : (0 : Int32).toInt = 0 := (by decide); omega)), trivial⟩, (show va_P D clz (WD8 cy g σ20) tS.heap by rw [ht]; exact hP)⟩, hS.F ht⟩) hS.2.2 dX4_readInto_79
    ·
      have k29 := peq32 c27
      refine lv_iconst (v := 1) hx hb dX4_readInto_74 (by decide) ?_
      refine lv_goto (tgt := 79) hx hb dX4_readInto_75 (by decide) ?_
      exact W.zret (v := 1) hx hb hr rfl (fun tS ht hW => ⟨⟨1, σ20, rfl, ⟨Fr.tr (Fr.tr (Fr.tr (Fr.tr (Fr.tr (Fr.tr (Fr.rf) hF4 (fO_sub (by simp))) (sI_f eσ6) (fN_O mem0)) (sI_f eσ8) (fN_O mem0)) (sI_f eσ10) (fN_O mem0)) hF15 (fO_sub (by simp))) hF21 (fO_sub (fun _ q => q)), hJ22, (show (0 : Int) ≤ (1 : Int32).toInt ∧ (1 : Int32).toInt ≤ 1 from (by have z1 : (1 : Int32).toInt = 1 := (by decide); omega)), trivial⟩, (show va_P D clz (WD8 cy g σ20) tS.heap by rw [ht]; exact hP)⟩, hS.F ht⟩) hS.2.2 dX4_readInto_79
  ·
    intro nj24
    refine lv_icmp_ge (tgt := 67) hx hb dX4_readInto_29 (by decide) (fun c30 => ?_) (fun c30 => ?_)
    ·
      have k31 := ple32 c30
      exact nj24 (σ20, lf [], lg []) ⟨rfl, trivial⟩ _ _ _ hP hS (lv_sub hl [0, 1, 2] rfl)
    ·
      have k32 := nle32 c30
      refine lv_aload_n hx hb dX4_readInto_32 rfl (lv_at hl 1 rfl) ?_
      refine g8_4_6 (x := ((σ20 12).1 6)) hx hb hts hown hK hP (rfl) (hts _ q166) dX4_readInto_33 ?_
      refine lv_if_eq (tgt := 67) hx hb dX4_readInto_36 (by decide) (fun c33 => ?_) (fun c33 => ?_)
      ·
        have k34 := peq32 c33
        exact nj24 (σ20, lf [], lg []) ⟨rfl, trivial⟩ _ _ _ hP hS (lv_sub hl [0, 1, 2] rfl)
      ·
        have k35 := neq32 c33
        refine lv_aload_n hx hb dX4_readInto_39 rfl (lv_at hl 1 rfl) ?_
        refine g8_4_2 (x := ((σ20 12).1 2)) hx hb hts hown hK hP (rfl) (hts _ q160) dX4_readInto_40 ?_
        refine lv_if_ne (tgt := 67) hx hb dX4_readInto_43 (by decide) (fun c36 => ?_) (fun c36 => ?_)
        ·
          have k37 := neq32 c36
          exact nj24 (σ20, lf [], lg []) ⟨rfl, trivial⟩ _ _ _ hP hS (lv_sub hl [0, 1, 2] rfl)
        ·
          have k38 := peq32 c36
          refine lv_aload_n hx hb dX4_readInto_46 rfl (lv_at hl 1 rfl) ?_
          refine lv_aload_n hx hb dX4_readInto_47 rfl (lv_at hl 2 rfl) ?_
          refine va_callv (va_runV (As := [.ref (gO g d1)]) (rest := []) ⟨hx, hb, hml, hown, hts⟩ (m_X4_readLine l D cy g σ20  d1 _ hJ22 (show 0 ≤ d1 ∧ d1 < 5 from hd1)) (cwV 1 hts (gd_V q514 q516 q2 q126 q517) rfl rfl rfl (by decide +kernel) ⟨(Nat.le_of_ble_eq_true rfl), (Nat.le_of_ble_eq_true rfl)⟩) (pv8 hP hK hD hC hS (rv8_4 hK hP)) rfl rfl hl.1 rfl (lv_room (Nat.le_of_ble_eq_true rfl)) dX4_readInto_48 ⟨Nat.le_of_ble_eq_true rfl, Nat.le_of_ble_eq_true rfl⟩) hS (fun q _ h => up8 hS q h) (up8 hS) (fun σ40 tS H1 locs ht hvm hw41 hB hz1 hk1 hS => ?_)
          have hP : va_P D clz (WD8 cy g σ40) H1 := by rw [← ht]; exact hB
          clear hB hz1 hk1 hvm ht
          generalize H1 = H at hP hS ⊢
          have hF42 : Fr (fO [12, d1]) σ20 σ40 := hw41.1
          have hJ43 : J8 σ40 := hw41.2.1
          refine lv_aload_n hx hb dX4_readInto_51 rfl (lv_at hl 2 rfl) ?_
          refine lv_dup hx hb dX4_readInto_52 rfl ?_
          refine g8_0_2 (x := ((σ40 d1).1 2)) hx hb hts hown hK hP hd1 (rfl) (hts _ q201) dX4_readInto_53 ?_
          refine lv_iconst (v := 1) hx hb dX4_readInto_56 (by decide) ?_
          refine lv_iadd hx hb dX4_readInto_57 ?_
          refine lv_topi (fun x44 ex44 => ?_)
          refine p8_0_2 hx hb hts hown hK hP hd1 hD hS (hts _ q201) dX4_readInto_58 (fun H locs σ45 eσ45 hP hS => ?_)
          have hJ46 : J8 σ45 := hJ43.I eσ45 (clO_0 hd1) (show JI8 0 2 x44 from trivial)
          obtain ⟨x47, ex47⟩ : ∃ y : Int32, y = (y19.2.1 0) + 1 := ⟨_, rfl⟩
          have t48 := addO ex47 (by have f0 := b23; have f1 := k32; have g0 := rg32 (y19.2.1 0); have z1 : (1 : Int32).toInt = 1 := (by decide); have z2000 : (2000 : Int32).toInt = 2000 := (by decide); omega)
          refine lv_iinc (v := x47) (lv' := [(2, .int x47), (0, .ref (gO g 12)), (1, .ref (gO g d1))]) hx hb dX4_readInto_61 hl (k := 0) rfl (by rw [ex47]; rfl) (by decide) rfl (fun ls hl => ?_)
          refine lv_goto (tgt := 25) hx hb dX4_readInto_64 (by decide) ?_
          have t49 : ((2001 : Int) - x47.toInt).toNat < ((2001 : Int) - (y19.2.1 0).toInt).toNat := (by have f0 := b23; have f1 := k32; have f2 := t48; have g0 := rg32 (y19.2.1 0); have g1 := rg32 x47; have z1 : (1 : Int32).toInt = 1 := (by decide); have z2000 : (2000 : Int32).toInt = 2000 := (by decide); omega)
          exact nl17 (σ45, lf [x47], lg []) ⟨Fr.tr (Fr.tr (Fr.tr (Fr.rf) hF21 (fO_sub (fun _ q => q))) hF42 (fO_sub (fun _ q => q))) (sI_f eσ45) (fN_O (mne mem0)), hJ46, (show (0 : Int) ≤ (x47 : Int32).toInt ∧ (x47 : Int32).toInt ≤ 2000 from (by have f0 := t48; have f1 := b23; have f2 := k32; have g0 := rg32 x47; have z1 : (1 : Int32).toInt = 1 := (by decide); have z2000 : (2000 : Int32).toInt = 2000 := (by decide); omega)), trivial⟩ (show ((2001 : Int) - x47.toInt).toNat < _ from by first | exact t49 | (rw [← eσ20]; exact t49)) _ _ _ hP hS (lv_sub hl [0, 1, 2] rfl)

