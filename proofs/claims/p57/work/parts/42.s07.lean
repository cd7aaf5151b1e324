theorem q841 : Cond.code yX7_offOf cX7_offOf 5 (some .int) ∈ lw_g := lw_gm (List.mem_of_getElem? (i := 841) (by decide +kernel)) rfl
theorem q842 : Cond.methodLink RX7 67 yX7_wantedFlat ∈ lw_g := lw_gm (List.mem_of_getElem? (i := 842) (by decide +kernel)) rfl
theorem q843 : Cond.instanceMethod yX7_wantedFlat ∈ lw_g := lw_gm (List.mem_of_getElem? (i := 843) (by decide +kernel)) rfl
theorem q844 : Cond.selects RX7 yX7_wantedFlat yX7_wantedFlat ∈ lw_g := lw_gm (List.mem_of_getElem? (i := 844) (by decide +kernel)) rfl
theorem q850 : Cond.methodLink RX7 70 yX7_drawFor ∈ lw_g := lw_gm (List.mem_of_getElem? (i := 850) (by decide +kernel)) rfl
theorem q851 : Cond.instanceMethod yX7_drawFor ∈ lw_g := lw_gm (List.mem_of_getElem? (i := 851) (by decide +kernel)) rfl
theorem q852 : Cond.selects RX7 yX7_drawFor yX7_drawFor ∈ lw_g := lw_gm (List.mem_of_getElem? (i := 852) (by decide +kernel)) rfl
theorem dX7_offOf_0 : decode cX7_offOf 0 = .ok (.aload_n 0, 1) := by decide +kernel
theorem dX7_offOf_1 : decode cX7_offOf 1 = .ok (.iload_n 1, 1) := by decide +kernel
theorem dX7_offOf_2 : decode cX7_offOf 2 = .ok (.iload_n 2, 1) := by decide +kernel
theorem dX7_offOf_3 : decode cX7_offOf 3 = .ok (.invokevirtual 67, 3) := by decide +kernel
theorem dX7_offOf_6 : decode cX7_offOf 6 = .ok (.istore 4, 2) := by decide +kernel
theorem dX7_offOf_8 : decode cX7_offOf 8 = .ok (.iload 4, 2) := by decide +kernel
theorem dX7_offOf_10 : decode cX7_offOf 10 = .ok (.aload_n 0, 1) := by decide +kernel
theorem dX7_offOf_11 : decode cX7_offOf 11 = .ok (.aload_n 0, 1) := by decide +kernel
theorem dX7_offOf_12 : decode cX7_offOf 12 = .ok (.iload_n 3, 1) := by decide +kernel
theorem dX7_offOf_13 : decode cX7_offOf 13 = .ok (.invokevirtual 56, 3) := by decide +kernel
theorem dX7_offOf_16 : decode cX7_offOf 16 = .ok (.aload_n 0, 1) := by decide +kernel
theorem dX7_offOf_17 : decode cX7_offOf 17 = .ok (.iload_n 3, 1) := by decide +kernel
theorem dX7_offOf_18 : decode cX7_offOf 18 = .ok (.iload 4, 2) := by decide +kernel
theorem dX7_offOf_20 : decode cX7_offOf 20 = .ok (.invokevirtual 70, 3) := by decide +kernel
theorem dX7_offOf_23 : decode cX7_offOf 23 = .ok (.iadd, 1) := by decide +kernel
theorem dX7_offOf_24 : decode cX7_offOf 24 = .ok (.invokevirtual 59, 3) := by decide +kernel
theorem dX7_offOf_27 : decode cX7_offOf 27 = .ok (.isub, 1) := by decide +kernel
theorem dX7_offOf_28 : decode cX7_offOf 28 = .ok (.ireturn, 1) := by decide +kernel
set_option maxHeartbeats 4000000 in
set_option maxRecDepth 100000 in
theorem m_X7_offOf (l : Launch) (D : va_G) (cy : Nat → ClassId) (g : Nat → Nat) (σ : ST) (d0 : Nat) (p1 : Int32) (p2 : Int32) (p3 : Int32) (sz : Nat) (hJ : J8 σ) (hd0 : 9 ≤ d0 ∧ d0 < 12) : Met l yX7_offOf (ww yX7_offOf cX7_offOf 5 (some .int)) ({ frames := 3, cells := 0, slots := 0, locals := 192 }) (va_Pc [.ref (gO g d0), .int p1, .int p2, .int p3] (pr8 D cy g σ sz)) (qi8 D cy g sz (fun r τ => τ = σ ∧ True)) 0 0 (A8 cy g sz) := by
  refine Met.ofW (cc := cX7_offOf) (maxL := 5) (ret := (some .int)) (by decide) rfl ?_
  intro p e s m args below meth c s₁ B hml hv
  obtain ⟨rfl, hsz, hP, hK, hD0, hC⟩ := hv
  have hx := B.exec
  have hb := B.bytes
  have hr := B.returns
  have hts := hts_g (atoms_spec (ws := ww yX7_offOf cX7_offOf 5 (some .int)) B.pre)
  have hown : s.vm.findClass RX7 = some m.cls := findClass_of_methodNamed B.named
  have hlocks := B.notSynchronized
  clear B
  subst hsz
  have hD := fun τ => A8_D (sz := s.heap.size) hD0 τ
  clear hD0
  have hS : va_S (A8 cy g s.heap.size) s.heap s.heap [] := va_S.rf
  have hl := lv_entry ([.ref (gO g d0), .int p1, .int p2, .int p3]) (n := 5) (Nat.le_of_ble_eq_true rfl)
  rw [lg_entry_eq]
  generalize (lg_sl ([.ref (gO g d0), .int p1, .int p2, .int p3]) ++ List.replicate (5 - (lg_sl ([.ref (gO g d0), .int p1, .int p2, .int p3])).length) Slot.unset).toArray = ls at hl ⊢
  have hl : lv_has ls 5 [(0, .ref (gO g d0)), (1, .int p1), (2, .int p2), (3, .int p3)] := hl
  refine lv_aload_n hx hb dX7_offOf_0 rfl (lv_at hl 0 rfl) ?_
  refine lv_iload_n hx hb dX7_offOf_1 rfl (lv_at hl 1 rfl) ?_
  refine lv_iload_n hx hb dX7_offOf_2 rfl (lv_at hl 2 rfl) ?_
  refine va_calli (va_runV (As := [.int p1, .int p2]) (rest := []) ⟨hx, hb, hml, hown, hts⟩ (m_X7_wantedFlat l D cy g σ  d0 p1 p2 _ hJ (show 9 ≤ d0 ∧ d0 < 12 from hd0)) (cwV 2 hts (gd_V q842 q843 q844 q128 q845) rfl rfl rfl (by decide +kernel) ⟨(Nat.le_of_ble_eq_true rfl), (Nat.le_of_ble_eq_true rfl)⟩) (pv8 hP hK hD hC hS (rv8_7 hK hP hd0)) rfl rfl hl.1 rfl (lv_room (Nat.le_of_ble_eq_true rfl)) dX7_offOf_3 ⟨Nat.le_of_ble_eq_true rfl, Nat.le_of_ble_eq_true rfl⟩) hS (fun q _ h => up8 hS q h) (up8 hS) (fun r1 σ2 tS H1 locs ht hvm hw3 hB hz1 hk1 hS => ?_)
  have hP : va_P D clz (WD8 cy g σ2) H1 := by rw [← ht]; exact hB
  clear hB hz1 hk1 hvm ht
  generalize H1 = H at hP hS ⊢
  have hw3E : σ = σ2 := (hw3.1).symm
  subst hw3E
  refine lv_istore (lv' := [(4, .int r1), (0, .ref (gO g d0)), (1, .int p1), (2, .int p2), (3, .int p3)]) hx hb dX7_offOf_6 hl (by decide) rfl (fun ls hl => ?_)
  refine lv_iload hx hb dX7_offOf_8 (lv_at hl 0 rfl) ?_
  refine lv_aload_n hx hb dX7_offOf_10 rfl (lv_at hl 1 rfl) ?_
  refine lv_aload_n hx hb dX7_offOf_11 rfl (lv_at hl 1 rfl) ?_
  refine lv_iload_n hx hb dX7_offOf_12 rfl (lv_at hl 4 rfl) ?_
  refine va_calli (va_runV (As := [.int p3]) (rest := [.ref (gO g d0), .int r1]) ⟨hx, hb, hml, hown, hts⟩ (m_X7_longerBy l D cy g σ  d0 p3 _ hJ (show 9 ≤ d0 ∧ d0 < 12 from hd0)) (cwV 1 hts (gd_V q849 q814 q815 q128 q816) rfl rfl rfl (by decide +kernel) ⟨(Nat.le_of_ble_eq_true rfl), (Nat.le_of_ble_eq_true rfl)⟩) (pv8 hP hK hD hC hS (rv8_7 hK hP hd0)) rfl rfl hl.1 rfl (lv_room (Nat.le_of_ble_eq_true rfl)) dX7_offOf_13 ⟨Nat.le_of_ble_eq_true rfl, Nat.le_of_ble_eq_true rfl⟩) hS (fun q _ h => up8 hS q h) (up8 hS) (fun r4 σ5 tS H1 locs ht hvm hw6 hB hz1 hk1 hS => ?_)
  have hP : va_P D clz (WD8 cy g σ5) H1 := by rw [← ht]; exact hB
  clear hB hz1 hk1 hvm ht
  generalize H1 = H at hP hS ⊢
  have hw6E : σ = σ5 := (hw6.1).symm
  subst hw6E
  refine lv_aload_n hx hb dX7_offOf_16 rfl (lv_at hl 1 rfl) ?_
  refine lv_iload_n hx hb dX7_offOf_17 rfl (lv_at hl 4 rfl) ?_
  refine lv_iload hx hb dX7_offOf_18 (lv_at hl 0 rfl) ?_
  refine va_calli (va_runV (As := [.int p3, .int r1]) (rest := [.int r4, .ref (gO g d0), .int r1]) ⟨hx, hb, hml, hown, hts⟩ (m_X7_drawFor l D cy g σ  d0 p3 r1 _ hJ (show 9 ≤ d0 ∧ d0 < 12 from hd0)) (cwV 2 hts (gd_V q850 q851 q852 q128 q853) rfl rfl rfl (by decide +kernel) ⟨(Nat.le_of_ble_eq_true rfl), (Nat.le_of_ble_eq_true rfl)⟩) (pv8 hP hK hD hC hS (rv8_7 hK hP hd0)) rfl rfl hl.1 rfl (lv_room (Nat.le_of_ble_eq_true rfl)) dX7_offOf_20 ⟨Nat.le_of_ble_eq_true rfl, Nat.le_of_ble_eq_true rfl⟩) hS (fun q _ h => up8 hS q h) (up8 hS) (fun r7 σ8 tS H1 locs ht hvm hw9 hB hz1 hk1 hS => ?_)
  have hP : va_P D clz (WD8 cy g σ8) H1 := by rw [← ht]; exact hB
  clear hB hz1 hk1 hvm ht
  generalize H1 = H at hP hS ⊢
  have hw9E : σ = σ8 := (hw9.1).symm
  subst hw9E
  have b10 : (0 : Int) ≤ r7.toInt ∧ r7.toInt ≤ 1000000 := hw9.2.1
  refine lv_iadd hx hb dX7_offOf_23 ?_
  refine lv_topi (fun x11 ex11 => ?_)
  refine va_calli (va_runV (As := [.int x11]) (rest := [.int r1]) ⟨hx, hb, hml, hown, hts⟩ (m_X7_flatBy l D cy g σ  d0 x11 _ hJ (show 9 ≤ d0 ∧ d0 < 12 from hd0)) (cwV 1 hts (gd_V q858 q818 q819 q128 q820) rfl rfl rfl (by decide +kernel) ⟨(Nat.le_of_ble_eq_true rfl), (Nat.le_of_ble_eq_true rfl)⟩) (pv8 hP hK hD hC hS (rv8_7 hK hP hd0)) rfl rfl hl.1 rfl (lv_room (Nat.le_of_ble_eq_true rfl)) dX7_offOf_24 ⟨Nat.le_of_ble_eq_true rfl, Nat.le_of_ble_eq_true rfl⟩) hS (fun q _ h => up8 hS q h) (up8 hS) (fun r12 σ13 tS H1 locs ht hvm hw14 hB hz1 hk1 hS => ?_)
  have hP : va_P D clz (WD8 cy g σ13) H1 := by rw [← ht]; exact hB
  clear hB hz1 hk1 hvm ht
  generalize H1 = H at hP hS ⊢
  have hw14E : σ = σ13 := (hw14.1).symm
  subst hw14E
  refine lv_isub hx hb dX7_offOf_27 ?_
  refine lv_topi (fun x15 ex15 => ?_)
  exact W.iret (v := x15) hx hb hr (fun tS ht hW => ⟨⟨x15, σ, rfl, ⟨rfl, trivial⟩, (show va_P D clz (WD8 cy g σ) tS.heap by rw [ht]; exact hP)⟩, hS.F ht⟩) hS.2.2 dX7_offOf_28

theorem q824 : Cond.code yX8_off cX8_off 5 (some .int) ∈ lw_g := lw_gm (List.mem_of_getElem? (i := 824) (by decide +kernel)) rfl
theorem q825 : Cond.methodLink RX8 199 yX8_canBeTried ∈ lw_g := lw_gm (List.mem_of_getElem? (i := 825) (by decide +kernel)) rfl
theorem q827 : Cond.instanceMethod yX8_canBeTried ∈ lw_g := lw_gm (List.mem_of_getElem? (i := 827) (by decide +kernel)) rfl
theorem q16 : Cond.selects RX8 yX8_canBeTried yX8_canBeTried ∈ lw_g := lw_gm (List.mem_of_getElem? (i := 16) (by decide +kernel)) rfl
theorem q838 : Cond.methodLink RX8 204 yX7_offOf ∈ lw_g := lw_gm (List.mem_of_getElem? (i := 838) (by decide +kernel)) rfl
theorem q839 : Cond.instanceMethod yX7_offOf ∈ lw_g := lw_gm (List.mem_of_getElem? (i := 839) (by decide +kernel)) rfl
theorem q840 : Cond.selects RX7 yX7_offOf yX7_offOf ∈ lw_g := lw_gm (List.mem_of_getElem? (i := 840) (by decide +kernel)) rfl
theorem q837 : Cond.constant RX8 203 (-100000) ∈ lw_g := lw_gm (List.mem_of_getElem? (i := 837) (by decide +kernel)) rfl
theorem dX8_off_0 : decode cX8_off 0 = .ok (.aload_n 0, 1) := by decide +kernel
theorem dX8_off_1 : decode cX8_off 1 = .ok (.iload_n 1, 1) := by decide +kernel
theorem dX8_off_2 : decode cX8_off 2 = .ok (.iload_n 2, 1) := by decide +kernel
theorem dX8_off_3 : decode cX8_off 3 = .ok (.iload_n 3, 1) := by decide +kernel
theorem dX8_off_4 : decode cX8_off 4 = .ok (.iload 4, 2) := by decide +kernel
theorem dX8_off_6 : decode cX8_off 6 = .ok (.invokevirtual 199, 3) := by decide +kernel
theorem dX8_off_9 : decode cX8_off 9 = .ok (.ifCond .ne 6, 3) := by decide +kernel
theorem dX8_off_12 : decode cX8_off 12 = .ok (.ldc 203, 2) := by decide +kernel
theorem dX8_off_14 : decode cX8_off 14 = .ok (.ireturn, 1) := by decide +kernel
theorem dX8_off_15 : decode cX8_off 15 = .ok (.aload_n 0, 1) := by decide +kernel
theorem dX8_off_16 : decode cX8_off 16 = .ok (.getfield 43, 3) := by decide +kernel
theorem dX8_off_19 : decode cX8_off 19 = .ok (.iload_n 2, 1) := by decide +kernel
theorem dX8_off_20 : decode cX8_off 20 = .ok (.iload_n 3, 1) := by decide +kernel
theorem dX8_off_21 : decode cX8_off 21 = .ok (.iload 4, 2) := by decide +kernel
theorem dX8_off_23 : decode cX8_off 23 = .ok (.invokevirtual 204, 3) := by decide +kernel
theorem dX8_off_26 : decode cX8_off 26 = .ok (.ireturn, 1) := by decide +kernel
set_option maxHeartbeats 4000000 in
set_option maxRecDepth 100000 in
theorem m_X8_off (l : Launch) (D : va_G) (cy : Nat → ClassId) (g : Nat → Nat) (σ : ST) (p1 : Int32) (p2 : Int32) (p3 : Int32) (p4 : Int32) (sz : Nat) (hJ : J8 σ)  : Met l yX8_off (ww yX8_off cX8_off 5 (some .int)) ({ frames := 7, cells := 0, slots := 0, locals := 448 }) (va_Pc [.ref (gO g 17), .int p1, .int p2, .int p3, .int p4] (pr8 D cy g σ sz)) (qi8 D cy g sz (fun r τ => Fr (fO [9]) σ τ ∧ J8 τ ∧ True)) 0 0 (A8 cy g sz) := by
  refine Met.ofW (cc := cX8_off) (maxL := 5) (ret := (some .int)) (by decide) rfl ?_
  intro p e s m args below meth c s₁ B hml hv
  obtain ⟨rfl, hsz, hP, hK, hD0, hC⟩ := hv
  have hx := B.exec
  have hb := B.bytes
  have hr := B.returns
  have hts := hts_g (atoms_spec (ws := ww yX8_off cX8_off 5 (some .int)) B.pre)
  have hown : s.vm.findClass RX8 = some m.cls := findClass_of_methodNamed B.named
  have hlocks := B.notSynchronized
  clear B
  subst hsz
  have hD := fun τ => A8_D (sz := s.heap.size) hD0 τ
  clear hD0
  have hS : va_S (A8 cy g s.heap.size) s.heap s.heap [] := va_S.rf
  have hl := lv_entry ([.ref (gO g 17), .int p1, .int p2, .int p3, .int p4]) (n := 5) (Nat.le_of_ble_eq_true rfl)
  rw [lg_entry_eq]
  generalize (lg_sl ([.ref (gO g 17), .int p1, .int p2, .int p3, .int p4]) ++ List.replicate (5 - (lg_sl ([.ref (gO g 17), .int p1, .int p2, .int p3, .int p4])).length) Slot.unset).toArray = ls at hl ⊢
  have hl : lv_has ls 5 [(0, .ref (gO g 17)), (1, .int p1), (2, .int p2), (3, .int p3), (4, .int p4)] := hl
  refine lv_aload_n hx hb dX8_off_0 rfl (lv_at hl 0 rfl) ?_
  refine lv_iload_n hx hb dX8_off_1 rfl (lv_at hl 1 rfl) ?_
  refine lv_iload_n hx hb dX8_off_2 rfl (lv_at hl 2 rfl) ?_
  refine lv_iload_n hx hb dX8_off_3 rfl (lv_at hl 3 rfl) ?_
  refine lv_iload hx hb dX8_off_4 (lv_at hl 4 rfl) ?_
  refine va_calli (va_runV (As := [.int p1, .int p2, .int p3, .int p4]) (rest := []) ⟨hx, hb, hml, hown, hts⟩ (m_X8_canBeTried l D cy g σ  p1 p2 p3 p4 _ hJ ) (cwV 4 hts (gd_V q825 q827 q16 q125 q828) rfl rfl rfl (by decide +kernel) ⟨(Nat.le_of_ble_eq_true rfl), (Nat.le_of_ble_eq_true rfl)⟩) (pv8 hP hK hD hC hS (rv8_8 hK hP)) rfl rfl hl.1 rfl (lv_room (Nat.le_of_ble_eq_true rfl)) dX8_off_6 ⟨Nat.le_of_ble_eq_true rfl, Nat.le_of_ble_eq_true rfl⟩) hS (fun q _ h => up8 hS q h) (up8 hS) (fun r1 σ2 tS H1 locs ht hvm hw3 hB hz1 hk1 hS => ?_)
  have hP : va_P D clz (WD8 cy g σ2) H1 := by rw [← ht]; exact hB
  clear hB hz1 hk1 hvm ht
  generalize H1 = H at hP hS ⊢
  have hF4 : Fr (fO [9]) σ σ2 := hw3.1
  have hJ5 : J8 σ2 := hw3.2.1
  have b6 : (0 : Int) ≤ r1.toInt ∧ r1.toInt ≤ 1 := hw3.2.2.1
  refine lv_if_ne (tgt := 15) hx hb dX8_off_9 (by decide) (fun c7 => ?_) (fun c7 => ?_)
  ·
    have k8 := neq32 c7
    refine lv_aload_n hx hb dX8_off_15 rfl (lv_at hl 0 rfl) ?_
    refine g8_8_6 hx hb hts hown hK hP (hts _ q440) dX8_off_16 ?_
    refine lv_iload_n hx hb dX8_off_19 rfl (lv_at hl 2 rfl) ?_
    refine lv_iload_n hx hb dX8_off_20 rfl (lv_at hl 3 rfl) ?_
    refine lv_iload hx hb dX8_off_21 (lv_at hl 4 rfl) ?_
    refine va_calli (va_runV (As := [.int p2, .int p3, .int p4]) (rest := []) ⟨hx, hb, hml, hown, hts⟩ (m_X7_offOf l D cy g σ2  9 p2 p3 p4 _ hJ5 (show 9 ≤ 9 ∧ 9 < 12 from ⟨by decide, by decide⟩)) (cwV 3 hts (gd_V q838 q839 q840 q128 q841) rfl rfl rfl (by decide +kernel) ⟨(Nat.le_of_ble_eq_true rfl), (Nat.le_of_ble_eq_true rfl)⟩) (pv8 hP hK hD hC hS (rv8_7 hK hP (by decide : 9 ≤ 9 ∧ 9 < 12))) rfl rfl hl.1 rfl (lv_room (Nat.le_of_ble_eq_true rfl)) dX8_off_23 ⟨Nat.le_of_ble_eq_true rfl, Nat.le_of_ble_eq_true rfl⟩) hS (fun q _ h => up8 hS q h) (up8 hS) (fun r9 σ10 tS H1 locs ht hvm hw11 hB hz1 hk1 hS => ?_)
    have hP : va_P D clz (WD8 cy g σ10) H1 := by rw [← ht]; exact hB
    clear hB hz1 hk1 hvm ht
    generalize H1 = H at hP hS ⊢
    have hw11E : σ2 = σ10 := (hw11.1).symm
    subst hw11E
    exact W.iret (v := r9) hx hb hr (fun tS ht hW => ⟨⟨r9, σ2, rfl, ⟨Fr.tr (Fr.rf) hF4 (fO_sub (fun _ q => q)), hJ5, trivial⟩, (show va_P D clz (WD8 cy g σ2) tS.heap by rw [ht]; exact hP)⟩, hS.F ht⟩) hS.2.2 dX8_off_26
  ·
    have k12 := peq32 c7
    refine lv_ldc (v := (-100000)) hx hb hown (hts _ q837) dX8_off_12 ?_
    exact W.iret (v := (-100000)) hx hb hr (fun tS ht hW => ⟨⟨(-100000), σ2, rfl, ⟨Fr.tr (Fr.rf) hF4 (fO_sub (fun _ q => q)), hJ5, trivial⟩, (show va_P D clz (WD8 cy g σ2) tS.heap by rw [ht]; exact hP)⟩, hS.F ht⟩) hS.2.2 dX8_off_14

theorem q865 : Cond.code yX8_drawnOut cX8_drawnOut 5 (some .int) ∈ lw_g := lw_gm (List.mem_of_getElem? (i := 865) (by decide +kernel)) rfl
theorem q866 : Cond.methodLink RX8 207 yX7_wantedFlat ∈ lw_g := lw_gm (List.mem_of_getElem? (i := 866) (by decide +kernel)) rfl
theorem q867 : Cond.methodLink RX8 210 yX7_drawFor ∈ lw_g := lw_gm (List.mem_of_getElem? (i := 867) (by decide +kernel)) rfl
theorem dX8_drawnOut_0 : decode cX8_drawnOut 0 = .ok (.aload_n 0, 1) := by decide +kernel
theorem dX8_drawnOut_1 : decode cX8_drawnOut 1 = .ok (.iload_n 1, 1) := by decide +kernel
theorem dX8_drawnOut_2 : decode cX8_drawnOut 2 = .ok (.iload_n 2, 1) := by decide +kernel
theorem dX8_drawnOut_3 : decode cX8_drawnOut 3 = .ok (.iload_n 3, 1) := by decide +kernel
theorem dX8_drawnOut_4 : decode cX8_drawnOut 4 = .ok (.iload 4, 2) := by decide +kernel
theorem dX8_drawnOut_6 : decode cX8_drawnOut 6 = .ok (.invokevirtual 199, 3) := by decide +kernel
theorem dX8_drawnOut_9 : decode cX8_drawnOut 9 = .ok (.ifCond .ne 6, 3) := by decide +kernel
theorem dX8_drawnOut_12 : decode cX8_drawnOut 12 = .ok (.bipush (-2), 2) := by decide +kernel
theorem dX8_drawnOut_14 : decode cX8_drawnOut 14 = .ok (.ireturn, 1) := by decide +kernel
theorem dX8_drawnOut_15 : decode cX8_drawnOut 15 = .ok (.aload_n 0, 1) := by decide +kernel
theorem dX8_drawnOut_16 : decode cX8_drawnOut 16 = .ok (.getfield 43, 3) := by decide +kernel
theorem dX8_drawnOut_19 : decode cX8_drawnOut 19 = .ok (.iload 4, 2) := by decide +kernel
theorem dX8_drawnOut_21 : decode cX8_drawnOut 21 = .ok (.aload_n 0, 1) := by decide +kernel
theorem dX8_drawnOut_22 : decode cX8_drawnOut 22 = .ok (.getfield 43, 3) := by decide +kernel
theorem dX8_drawnOut_25 : decode cX8_drawnOut 25 = .ok (.iload_n 2, 1) := by decide +kernel
theorem dX8_drawnOut_26 : decode cX8_drawnOut 26 = .ok (.iload_n 3, 1) := by decide +kernel
theorem dX8_drawnOut_27 : decode cX8_drawnOut 27 = .ok (.invokevirtual 207, 3) := by decide +kernel
theorem dX8_drawnOut_30 : decode cX8_drawnOut 30 = .ok (.invokevirtual 210, 3) := by decide +kernel
theorem dX8_drawnOut_33 : decode cX8_drawnOut 33 = .ok (.ireturn, 1) := by decide +kernel
set_option maxHeartbeats 4000000 in
set_option maxRecDepth 100000 in
theorem m_X8_drawnOut (l : Launch) (D : va_G) (cy : Nat → ClassId) (g : Nat → Nat) (σ : ST) (p1 : Int32) (p2 : Int32) (p3 : Int32) (p4 : Int32) (sz : Nat) (hJ : J8 σ)  : Met l yX8_drawnOut (ww yX8_drawnOut cX8_drawnOut 5 (some .int)) ({ frames := 7, cells := 0, slots := 0, locals := 448 }) (va_Pc [.ref (gO g 17), .int p1, .int p2, .int p3, .int p4] (pr8 D cy g σ sz)) (qi8 D cy g sz (fun r τ => Fr (fO [9]) σ τ ∧ J8 τ ∧ ((-2 : Int) ≤ r.toInt ∧ r.toInt ≤ 1000000) ∧ True)) 0 0 (A8 cy g sz) := by
  refine Met.ofW (cc := cX8_drawnOut) (maxL := 5) (ret := (some .int)) (by decide) rfl ?_
  intro p e s m args below meth c s₁ B hml hv
  obtain ⟨rfl, hsz, hP, hK, hD0, hC⟩ := hv
  have hx := B.exec
  have hb := B.bytes
  have hr := B.returns
  have hts := hts_g (atoms_spec (ws := ww yX8_drawnOut cX8_drawnOut 5 (some .int)) B.pre)
  have hown : s.vm.findClass RX8 = some m.cls := findClass_of_methodNamed B.named
  have hlocks := B.notSynchronized
  clear B
  subst hsz
  have hD := fun τ => A8_D (sz := s.heap.size) hD0 τ
  clear hD0
  have hS : va_S (A8 cy g s.heap.size) s.heap s.heap [] := va_S.rf
  have hl := lv_entry ([.ref (gO g 17), .int p1, .int p2, .int p3, .int p4]) (n := 5) (Nat.le_of_ble_eq_true rfl)
  rw [lg_entry_eq]
  generalize (lg_sl ([.ref (gO g 17), .int p1, .int p2, .int p3, .int p4]) ++ List.replicate (5 - (lg_sl ([.ref (gO g 17), .int p1, .int p2, .int p3, .int p4])).length) Slot.unset).toArray = ls at hl ⊢
  have hl : lv_has ls 5 [(0, .ref (gO g 17)), (1, .int p1), (2, .int p2), (3, .int p3), (4, .int p4)] := hl
  refine lv_aload_n hx hb dX8_drawnOut_0 rfl (lv_at hl 0 rfl) ?_
  refine lv_iload_n hx hb dX8_drawnOut_1 rfl (lv_at hl 1 rfl) ?_
  refine lv_iload_n hx hb dX8_drawnOut_2 rfl (lv_at hl 2 rfl) ?_
  refine lv_iload_n hx hb dX8_drawnOut_3 rfl (lv_at hl 3 rfl) ?_
  refine lv_iload hx hb dX8_drawnOut_4 (lv_at hl 4 rfl) ?_
  refine va_calli (va_runV (As := [.int p1, .int p2, .int p3, .int p4]) (rest := []) ⟨hx, hb, hml, hown, hts⟩ (m_X8_canBeTried l D cy g σ  p1 p2 p3 p4 _ hJ ) (cwV 4 hts (gd_V q825 q827 q16 q125 q828) rfl rfl rfl (by decide +kernel) ⟨(Nat.le_of_ble_eq_true rfl), (Nat.le_of_ble_eq_true rfl)⟩) (pv8 hP hK hD hC hS (rv8_8 hK hP)) rfl rfl hl.1 rfl (lv_room (Nat.le_of_ble_eq_true rfl)) dX8_drawnOut_6 ⟨Nat.le_of_ble_eq_true rfl, Nat.le_of_ble_eq_true rfl⟩) hS (fun q _ h => up8 hS q h) (up8 hS) (fun r1 σ2 tS H1 locs ht hvm hw3 hB hz1 hk1 hS => ?_)
  have hP : va_P D clz (WD8 cy g σ2) H1 := by rw [← ht]; exact hB
  clear hB hz1 hk1 hvm ht
  generalize H1 = H at hP hS ⊢
  have hF4 : Fr (fO [9]) σ σ2 := hw3.1
  have hJ5 : J8 σ2 := hw3.2.1
  have b6 : (0 : Int) ≤ r1.toInt ∧ r1.toInt ≤ 1 := hw3.2.2.1
  refine lv_if_ne (tgt := 15) hx hb dX8_drawnOut_9 (by decide) (fun c7 => ?_) (fun c7 => ?_)
  ·
    have k8 := neq32 c7
    refine lv_aload_n hx hb dX8_drawnOut_15 rfl (lv_at hl 0 rfl) ?_
    refine g8_8_6 hx hb hts hown hK hP (hts _ q440) dX8_drawnOut_16 ?_
    refine lv_iload hx hb dX8_drawnOut_19 (lv_at hl 4 rfl) ?_
    refine lv_aload_n hx hb dX8_drawnOut_21 rfl (lv_at hl 0 rfl) ?_
    refine g8_8_6 hx hb hts hown hK hP (hts _ q440) dX8_drawnOut_22 ?_
    refine lv_iload_n hx hb dX8_drawnOut_25 rfl (lv_at hl 2 rfl) ?_
    refine lv_iload_n hx hb dX8_drawnOut_26 rfl (lv_at hl 3 rfl) ?_
    refine va_calli (va_runV (As := [.int p2, .int p3]) (rest := [.int p4, .ref (gO g 9)]) ⟨hx, hb, hml, hown, hts⟩ (m_X7_wantedFlat l D cy g σ2  9 p2 p3 _ hJ5 (show 9 ≤ 9 ∧ 9 < 12 from ⟨by decide, by decide⟩)) (cwV 2 hts (gd_V q866 q843 q844 q128 q845) rfl rfl rfl (by decide +kernel) ⟨(Nat.le_of_ble_eq_true rfl), (Nat.le_of_ble_eq_true rfl)⟩) (pv8 hP hK hD hC hS (rv8_7 hK hP (by decide : 9 ≤ 9 ∧ 9 < 12))) rfl rfl hl.1 rfl (lv_room (Nat.le_of_ble_eq_true rfl)) dX8_drawnOut_27 ⟨Nat.le_of_ble_eq_true rfl, Nat.le_of_ble_eq_true rfl⟩) hS (fun q _ h => up8 hS q h) (up8 hS) (fun r9 σ10 tS H1 locs ht hvm hw11 hB hz1 hk1 hS => ?_)
    have hP : va_P D clz (WD8 cy g σ10) H1 := by rw [← ht]; exact hB
    clear hB hz1 hk1 hvm ht
    generalize H1 = H at hP hS ⊢
    have hw11E : σ2 = σ10 := (hw11.1).symm
    subst hw11E
    refine va_calli (va_runV (As := [.int p4, .int r9]) (rest := []) ⟨hx, hb, hml, hown, hts⟩ (m_X7_drawFor l D cy g σ2  9 p4 r9 _ hJ5 (show 9 ≤ 9 ∧ 9 < 12 from ⟨by decide, by decide⟩)) (cwV 2 hts (gd_V q867 q851 q852 q128 q853) rfl rfl rfl (by decide +kernel) ⟨(Nat.le_of_ble_eq_true rfl), (Nat.le_of_ble_eq_true rfl)⟩) (pv8 hP hK hD hC hS (rv8_7 hK hP (by decide : 9 ≤ 9 ∧ 9 < 12))) rfl rfl hl.1 rfl (lv_room (Nat.le_of_ble_eq_true rfl)) dX8_drawnOut_30 ⟨Nat.le_of_ble_eq_true rfl, Nat.le_of_ble_eq_true rfl⟩) hS (fun q _ h => up8 hS q h) (up8 hS) (fun r12 σ13 tS H1 locs ht hvm hw14 hB hz1 hk1 hS => ?_)
    have hP : va_P D clz (WD8 cy g σ13) H1 := by rw [← ht]; exact hB
    clear hB hz1 hk1 hvm ht
    generalize H1 = H at hP hS ⊢
    have hw14E : σ2 = σ13 := (hw14.1).symm
    subst hw14E
    have b15 : (0 : Int) ≤ r12.toInt ∧ r12.toInt ≤ 1000000 := hw14.2.1
    exact W.iret (v := r12) hx hb hr (fun tS ht hW => ⟨⟨r12, σ2, rfl, ⟨Fr.tr (Fr.rf) hF4 (fO_sub (fun _ q => q)), hJ5, (show (-2 : Int) ≤ r12.toInt ∧ r12.toInt ≤ 1000000 from (by have f0 := b15; have g0 := rg32 r12; omega)), trivial⟩, (show va_P D clz (WD8 cy g σ2) tS.heap by rw [ht]; exact hP)⟩, hS.F ht⟩) hS.2.2 dX8_drawnOut_33
  ·
    have k16 := peq32 c7
    refine lv_bipush (v := (-2)) hx hb dX8_drawnOut_12 (by decide) ?_
    exact W.iret (v := (-2)) hx hb hr (fun tS ht hW => ⟨⟨(-2), σ2, rfl, ⟨Fr.tr (Fr.rf) hF4 (fO_sub (fun _ q => q)), hJ5, (show (-2 : Int) ≤ ((-2) : Int32).toInt ∧ ((-2) : Int32).toInt ≤ 1000000 from (by have zm2 : ((-2) : Int32).toInt = (-2) := (by decide); omega)), trivial⟩, (show va_P D clz (WD8 cy g σ2) tS.heap by rw [ht]; exact hP)⟩, hS.F ht⟩) hS.2.2 dX8_drawnOut_14

theorem q879 : Cond.code yX7_awayOf cX7_awayOf 9 (some .int) ∈ lw_g := lw_gm (List.mem_of_getElem? (i := 879) (by decide +kernel)) rfl
theorem dX7_awayOf_0 : decode cX7_awayOf 0 = .ok (.aload_n 0, 1) := by decide +kernel
theorem dX7_awayOf_1 : decode cX7_awayOf 1 = .ok (.iload_n 1, 1) := by decide +kernel
theorem dX7_awayOf_2 : decode cX7_awayOf 2 = .ok (.iload_n 2, 1) := by decide +kernel
theorem dX7_awayOf_3 : decode cX7_awayOf 3 = .ok (.invokevirtual 67, 3) := by decide +kernel
theorem dX7_awayOf_6 : decode cX7_awayOf 6 = .ok (.istore 5, 2) := by decide +kernel
theorem dX7_awayOf_8 : decode cX7_awayOf 8 = .ok (.aload_n 0, 1) := by decide +kernel
theorem dX7_awayOf_9 : decode cX7_awayOf 9 = .ok (.aload_n 0, 1) := by decide +kernel
theorem dX7_awayOf_10 : decode cX7_awayOf 10 = .ok (.iload_n 3, 1) := by decide +kernel
theorem dX7_awayOf_11 : decode cX7_awayOf 11 = .ok (.invokevirtual 56, 3) := by decide +kernel
theorem dX7_awayOf_14 : decode cX7_awayOf 14 = .ok (.invokevirtual 59, 3) := by decide +kernel
theorem dX7_awayOf_17 : decode cX7_awayOf 17 = .ok (.istore 6, 2) := by decide +kernel
theorem dX7_awayOf_19 : decode cX7_awayOf 19 = .ok (.aload_n 0, 1) := by decide +kernel
theorem dX7_awayOf_20 : decode cX7_awayOf 20 = .ok (.aload_n 0, 1) := by decide +kernel
theorem dX7_awayOf_21 : decode cX7_awayOf 21 = .ok (.iload_n 3, 1) := by decide +kernel
theorem dX7_awayOf_22 : decode cX7_awayOf 22 = .ok (.invokevirtual 56, 3) := by decide +kernel
theorem dX7_awayOf_25 : decode cX7_awayOf 25 = .ok (.aload_n 0, 1) := by decide +kernel
theorem dX7_awayOf_26 : decode cX7_awayOf 26 = .ok (.iload_n 3, 1) := by decide +kernel
theorem dX7_awayOf_27 : decode cX7_awayOf 27 = .ok (.invokevirtual 52, 3) := by decide +kernel
theorem dX7_awayOf_30 : decode cX7_awayOf 30 = .ok (.iadd, 1) := by decide +kernel
theorem dX7_awayOf_31 : decode cX7_awayOf 31 = .ok (.invokevirtual 59, 3) := by decide +kernel
theorem dX7_awayOf_34 : decode cX7_awayOf 34 = .ok (.istore 7, 2) := by decide +kernel
theorem dX7_awayOf_36 : decode cX7_awayOf 36 = .ok (.iload 5, 2) := by decide +kernel
theorem dX7_awayOf_38 : decode cX7_awayOf 38 = .ok (.iload 6, 2) := by decide +kernel
theorem dX7_awayOf_40 : decode cX7_awayOf 40 = .ok (.iload 4, 2) := by decide +kernel
theorem dX7_awayOf_42 : decode cX7_awayOf 42 = .ok (.isub, 1) := by decide +kernel
theorem dX7_awayOf_43 : decode cX7_awayOf 43 = .ok (.if_icmp .lt 13, 3) := by decide +kernel
theorem dX7_awayOf_46 : decode cX7_awayOf 46 = .ok (.iload 5, 2) := by decide +kernel
theorem dX7_awayOf_48 : decode cX7_awayOf 48 = .ok (.iload 7, 2) := by decide +kernel
theorem dX7_awayOf_50 : decode cX7_awayOf 50 = .ok (.iload 4, 2) := by decide +kernel
theorem dX7_awayOf_52 : decode cX7_awayOf 52 = .ok (.iadd, 1) := by decide +kernel
theorem dX7_awayOf_53 : decode cX7_awayOf 53 = .ok (.if_icmp .le 5, 3) := by decide +kernel
theorem dX7_awayOf_56 : decode cX7_awayOf 56 = .ok (.iconst (-1), 1) := by decide +kernel
theorem dX7_awayOf_57 : decode cX7_awayOf 57 = .ok (.ireturn, 1) := by decide +kernel
theorem dX7_awayOf_58 : decode cX7_awayOf 58 = .ok (.iload 5, 2) := by decide +kernel
theorem dX7_awayOf_60 : decode cX7_awayOf 60 = .ok (.aload_n 0, 1) := by decide +kernel
theorem dX7_awayOf_61 : decode cX7_awayOf 61 = .ok (.aload_n 0, 1) := by decide +kernel
theorem dX7_awayOf_62 : decode cX7_awayOf 62 = .ok (.iload_n 3, 1) := by decide +kernel
theorem dX7_awayOf_63 : decode cX7_awayOf 63 = .ok (.invokevirtual 56, 3) := by decide +kernel
theorem dX7_awayOf_66 : decode cX7_awayOf 66 = .ok (.aload_n 0, 1) := by decide +kernel
theorem dX7_awayOf_67 : decode cX7_awayOf 67 = .ok (.iload_n 3, 1) := by decide +kernel
theorem dX7_awayOf_68 : decode cX7_awayOf 68 = .ok (.iload 5, 2) := by decide +kernel
theorem dX7_awayOf_70 : decode cX7_awayOf 70 = .ok (.invokevirtual 70, 3) := by decide +kernel
theorem dX7_awayOf_73 : decode cX7_awayOf 73 = .ok (.iadd, 1) := by decide +kernel
theorem dX7_awayOf_74 : decode cX7_awayOf 74 = .ok (.invokevirtual 59, 3) := by decide +kernel
theorem dX7_awayOf_77 : decode cX7_awayOf 77 = .ok (.isub, 1) := by decide +kernel
theorem dX7_awayOf_78 : decode cX7_awayOf 78 = .ok (.invokestatic 62, 3) := by decide +kernel
theorem dX7_awayOf_81 : decode cX7_awayOf 81 = .ok (.istore 8, 2) := by decide +kernel
theorem dX7_awayOf_83 : decode cX7_awayOf 83 = .ok (.iload 8, 2) := by decide +kernel
theorem dX7_awayOf_85 : decode cX7_awayOf 85 = .ok (.iload 4, 2) := by decide +kernel
theorem dX7_awayOf_87 : decode cX7_awayOf 87 = .ok (.if_icmp .gt 8, 3) := by decide +kernel
theorem dX7_awayOf_90 : decode cX7_awayOf 90 = .ok (.iload 8, 2) := by decide +kernel
theorem dX7_awayOf_92 : decode cX7_awayOf 92 = .ok (.goto 4, 3) := by decide +kernel
theorem dX7_awayOf_95 : decode cX7_awayOf 95 = .ok (.iconst (-1), 1) := by decide +kernel
theorem dX7_awayOf_96 : decode cX7_awayOf 96 = .ok (.ireturn, 1) := by decide +kernel
set_option maxHeartbeats 4000000 in
set_option maxRecDepth 100000 in
theorem m_X7_awayOf (l : Launch) (D : va_G) (cy : Nat → ClassId) (g : Nat → Nat) (σ : ST) (d0 : Nat) (p1 : Int32) (p2 : Int32) (p3 : Int32) (p4 : Int32) (sz : Nat) (hJ : J8 σ) (hd0 : 9 ≤ d0 ∧ d0 < 12) (h0 : (2 : Int) ≤ p2.toInt ∧ p2.toInt ≤ 1000000) : Met l yX7_awayOf (ww yX7_awayOf cX7_awayOf 9 (some .int)) ({ frames := 3, cells := 0, slots := 0, locals := 192 }) (va_Pc [.ref (gO g d0), .int p1, .int p2, .int p3, .int p4] (pr8 D cy g σ sz)) (qi8 D cy g sz (fun r τ => τ = σ ∧ True)) 0 0 (A8 cy g sz) := by
  refine Met.ofW (cc := cX7_awayOf) (maxL := 9) (ret := (some .int)) (by decide) rfl ?_
  intro p e s m args below meth c s₁ B hml hv
  obtain ⟨rfl, hsz, hP, hK, hD0, hC⟩ := hv
  have hx := B.exec
  have hb := B.bytes
  have hr := B.returns
  have hts := hts_g (atoms_spec (ws := ww yX7_awayOf cX7_awayOf 9 (some .int)) B.pre)
  have hown : s.vm.findClass RX7 = some m.cls := findClass_of_methodNamed B.named
  have hlocks := B.notSynchronized
  clear B
  subst hsz
  have hD := fun τ => A8_D (sz := s.heap.size) hD0 τ
  clear hD0
  have hS : va_S (A8 cy g s.heap.size) s.heap s.heap [] := va_S.rf
  have hl := lv_entry ([.ref (gO g d0), .int p1, .int p2, .int p3, .int p4]) (n := 9) (Nat.le_of_ble_eq_true rfl)
  rw [lg_entry_eq]
  generalize (lg_sl ([.ref (gO g d0), .int p1, .int p2, .int p3, .int p4]) ++ List.replicate (9 - (lg_sl ([.ref (gO g d0), .int p1, .int p2, .int p3, .int p4])).length) Slot.unset).toArray = ls at hl ⊢
  have hl : lv_has ls 9 [(0, .ref (gO g d0)), (1, .int p1), (2, .int p2), (3, .int p3), (4, .int p4)] := hl
  refine lv_aload_n hx hb dX7_awayOf_0 rfl (lv_at hl 0 rfl) ?_
  refine lv_iload_n hx hb dX7_awayOf_1 rfl (lv_at hl 1 rfl) ?_
  refine lv_iload_n hx hb dX7_awayOf_2 rfl (lv_at hl 2 rfl) ?_
  refine va_calli (va_runV (As := [.int p1, .int p2]) (rest := []) ⟨hx, hb, hml, hown, hts⟩ (m_X7_wantedFlat l D cy g σ  d0 p1 p2 _ hJ (show 9 ≤ d0 ∧ d0 < 12 from hd0)) (cwV 2 hts (gd_V q842 q843 q844 q128 q845) rfl rfl rfl (by decide +kernel) ⟨(Nat.le_of_ble_eq_true rfl), (Nat.le_of_ble_eq_true rfl)⟩) (pv8 hP hK hD hC hS (rv8_7 hK hP hd0)) rfl rfl hl.1 rfl (lv_room (Nat.le_of_ble_eq_true rfl)) dX7_awayOf_3 ⟨Nat.le_of_ble_eq_true rfl, Nat.le_of_ble_eq_true rfl⟩) hS (fun q _ h => up8 hS q h) (up8 hS) (fun r1 σ2 tS H1 locs ht hvm hw3 hB hz1 hk1 hS => ?_)
  have hP : va_P D clz (WD8 cy g σ2) H1 := by rw [← ht]; exact hB
  clear hB hz1 hk1 hvm ht
  generalize H1 = H at hP hS ⊢
  have hw3E : σ = σ2 := (hw3.1).symm
  subst hw3E
  refine lv_istore (lv' := [(5, .int r1), (0, .ref (gO g d0)), (1, .int p1), (2, .int p2), (3, .int p3), (4, .int p4)]) hx hb dX7_awayOf_6 hl (by decide) rfl (fun ls hl => ?_)
  refine lv_aload_n hx hb dX7_awayOf_8 rfl (lv_at hl 1 rfl) ?_
  refine lv_aload_n hx hb dX7_awayOf_9 rfl (lv_at hl 1 rfl) ?_
  refine lv_iload_n hx hb dX7_awayOf_10 rfl (lv_at hl 4 rfl) ?_
  refine va_calli (va_runV (As := [.int p3]) (rest := [.ref (gO g d0)]) ⟨hx, hb, hml, hown, hts⟩ (m_X7_longerBy l D cy g σ  d0 p3 _ hJ (show 9 ≤ d0 ∧ d0 < 12 from hd0)) (cwV 1 hts (gd_V q849 q814 q815 q128 q816) rfl rfl rfl (by decide +kernel) ⟨(Nat.le_of_ble_eq_true rfl), (Nat.le_of_ble_eq_true rfl)⟩) (pv8 hP hK hD hC hS (rv8_7 hK hP hd0)) rfl rfl hl.1 rfl (lv_room (Nat.le_of_ble_eq_true rfl)) dX7_awayOf_11 ⟨Nat.le_of_ble_eq_true rfl, Nat.le_of_ble_eq_true rfl⟩) hS (fun q _ h => up8 hS q h) (up8 hS) (fun r4 σ5 tS H1 locs ht hvm hw6 hB hz1 hk1 hS => ?_)
  have hP : va_P D clz (WD8 cy g σ5) H1 := by rw [← ht]; exact hB
  clear hB hz1 hk1 hvm ht
  generalize H1 = H at hP hS ⊢
  have hw6E : σ = σ5 := (hw6.1).symm
  subst hw6E
  refine va_calli (va_runV (As := [.int r4]) (rest := []) ⟨hx, hb, hml, hown, hts⟩ (m_X7_flatBy l D cy g σ  d0 r4 _ hJ (show 9 ≤ d0 ∧ d0 < 12 from hd0)) (cwV 1 hts (gd_V q858 q818 q819 q128 q820) rfl rfl rfl (by decide +kernel) ⟨(Nat.le_of_ble_eq_true rfl), (Nat.le_of_ble_eq_true rfl)⟩) (pv8 hP hK hD hC hS (rv8_7 hK hP hd0)) rfl rfl hl.1 rfl (lv_room (Nat.le_of_ble_eq_true rfl)) dX7_awayOf_14 ⟨Nat.le_of_ble_eq_true rfl, Nat.le_of_ble_eq_true rfl⟩) hS (fun q _ h => up8 hS q h) (up8 hS) (fun r7 σ8 tS H1 locs ht hvm hw9 hB hz1 hk1 hS => ?_)
  have hP : va_P D clz (WD8 cy g σ8) H1 := by rw [← ht]; exact hB
  clear hB hz1 hk1 hvm ht
  generalize H1 = H at hP hS ⊢
  have hw9E : σ = σ8 := (hw9.1).symm
  subst hw9E
  refine lv_istore (lv' := [(6, .int r7), (5, .int r1), (0, .ref (gO g d0)), (1, .int p1), (2, .int p2), (3, .int p3), (4, .int p4)]) hx hb dX7_awayOf_17 hl (by decide) rfl (fun ls hl => ?_)
  refine lv_aload_n hx hb dX7_awayOf_19 rfl (lv_at hl 2 rfl) ?_
  refine lv_aload_n hx hb dX7_awayOf_20 rfl (lv_at hl 2 rfl) ?_
  refine lv_iload_n hx hb dX7_awayOf_21 rfl (lv_at hl 5 rfl) ?_
  refine va_calli (va_runV (As := [.int p3]) (rest := [.ref (gO g d0)]) ⟨hx, hb, hml, hown, hts⟩ (m_X7_longerBy l D cy g σ  d0 p3 _ hJ (show 9 ≤ d0 ∧ d0 < 12 from hd0)) (cwV 1 hts (gd_V q849 q814 q815 q128 q816) rfl rfl rfl (by decide +kernel) ⟨(Nat.le_of_ble_eq_true rfl), (Nat.le_of_ble_eq_true rfl)⟩) (pv8 hP hK hD hC hS (rv8_7 hK hP hd0)) rfl rfl hl.1 rfl (lv_room (Nat.le_of_ble_eq_true rfl)) dX7_awayOf_22 ⟨Nat.le_of_ble_eq_true rfl, Nat.le_of_ble_eq_true rfl⟩) hS (fun q _ h => up8 hS q h) (up8 hS) (fun r10 σ11 tS H1 locs ht hvm hw12 hB hz1 hk1 hS => ?_)
  have hP : va_P D clz (WD8 cy g σ11) H1 := by rw [← ht]; exact hB
  clear hB hz1 hk1 hvm ht
  generalize H1 = H at hP hS ⊢
  have hw12E : σ = σ11 := (hw12.1).symm
  subst hw12E
  refine lv_aload_n hx hb dX7_awayOf_25 rfl (lv_at hl 2 rfl) ?_
  refine lv_iload_n hx hb dX7_awayOf_26 rfl (lv_at hl 5 rfl) ?_
  refine va_calli (va_runV (As := [.int p3]) (rest := [.int r10, .ref (gO g d0)]) ⟨hx, hb, hml, hown, hts⟩ (m_X7_drawsOf l D cy g σ  d0 p3 _ hJ (show 9 ≤ d0 ∧ d0 < 12 from hd0)) (cwV 1 hts (gd_V q854 q856 q17 q128 q857) rfl rfl rfl (by decide +kernel) ⟨(Nat.le_of_ble_eq_true rfl), (Nat.le_of_ble_eq_true rfl)⟩) (pv8 hP hK hD hC hS (rv8_7 hK hP hd0)) rfl rfl hl.1 rfl (lv_room (Nat.le_of_ble_eq_true rfl)) dX7_awayOf_27 ⟨Nat.le_of_ble_eq_true rfl, Nat.le_of_ble_eq_true rfl⟩) hS (fun q _ h => up8 hS q h) (up8 hS) (fun r13 σ14 tS H1 locs ht hvm hw15 hB hz1 hk1 hS => ?_)
  have hP : va_P D clz (WD8 cy g σ14) H1 := by rw [← ht]; exact hB
  clear hB hz1 hk1 hvm ht
  generalize H1 = H at hP hS ⊢
  have hw15E : σ = σ14 := (hw15.1).symm
  subst hw15E
  have b16 : (-2147483648 : Int) ≤ r13.toInt ∧ r13.toInt ≤ 1000000 := hw15.2.1
  refine lv_iadd hx hb dX7_awayOf_30 ?_
  refine lv_topi (fun x17 ex17 => ?_)
  refine va_calli (va_runV (As := [.int x17]) (rest := []) ⟨hx, hb, hml, hown, hts⟩ (m_X7_flatBy l D cy g σ  d0 x17 _ hJ (show 9 ≤ d0 ∧ d0 < 12 from hd0)) (cwV 1 hts (gd_V q858 q818 q819 q128 q820) rfl rfl rfl (by decide +kernel) ⟨(Nat.le_of_ble_eq_true rfl), (Nat.le_of_ble_eq_true rfl)⟩) (pv8 hP hK hD hC hS (rv8_7 hK hP hd0)) rfl rfl hl.1 rfl (lv_room (Nat.le_of_ble_eq_true rfl)) dX7_awayOf_31 ⟨Nat.le_of_ble_eq_true rfl, Nat.le_of_ble_eq_true rfl⟩) hS (fun q _ h => up8 hS q h) (up8 hS) (fun r18 σ19 tS H1 locs ht hvm hw20 hB hz1 hk1 hS => ?_)
  have hP : va_P D clz (WD8 cy g σ19) H1 := by rw [← ht]; exact hB
  clear hB hz1 hk1 hvm ht
  generalize H1 = H at hP hS ⊢
  have hw20E : σ = σ19 := (hw20.1).symm
  subst hw20E
  refine lv_istore (lv' := [(7, .int r18), (6, .int r7), (5, .int r1), (0, .ref (gO g d0)), (1, .int p1), (2, .int p2), (3, .int p3), (4, .int p4)]) hx hb dX7_awayOf_34 hl (by decide) rfl (fun ls hl => ?_)
  refine lv_iload hx hb dX7_awayOf_36 (lv_at hl 2 rfl) ?_
  refine lv_iload hx hb dX7_awayOf_38 (lv_at hl 1 rfl) ?_
  refine lv_iload hx hb dX7_awayOf_40 (lv_at hl 7 rfl) ?_
  refine lv_isub hx hb dX7_awayOf_42 ?_
  refine lv_topi (fun x21 ex21 => ?_)
  refine lv_icmp_lt (tgt := 56) hx hb dX7_awayOf_43 (by decide) (fun c22 => ?_) (fun c22 => ?_)
  ·
    have k23 := plt32 c22
    refine lv_iconst (v := (-1)) hx hb dX7_awayOf_56 (by decide) ?_
    exact W.iret (v := (-1)) hx hb hr (fun tS ht hW => ⟨⟨(-1), σ, rfl, ⟨rfl, trivial⟩, (show va_P D clz (WD8 cy g σ) tS.heap by rw [ht]; exact hP)⟩, hS.F ht⟩) hS.2.2 dX7_awayOf_57
  ·
    have k24 := nlt32 c22
    refine lv_iload hx hb dX7_awayOf_46 (lv_at hl 2 rfl) ?_
    refine lv_iload hx hb dX7_awayOf_48 (lv_at hl 0 rfl) ?_
    refine lv_iload hx hb dX7_awayOf_50 (lv_at hl 7 rfl) ?_
    refine lv_iadd hx hb dX7_awayOf_52 ?_
    refine lv_topi (fun x25 ex25 => ?_)
    refine lv_icmp_le (tgt := 58) hx hb dX7_awayOf_53 (by decide) (fun c26 => ?_) (fun c26 => ?_)
    ·
      have k27 := ple32 c26
      refine lv_iload hx hb dX7_awayOf_58 (lv_at hl 2 rfl) ?_
      refine lv_aload_n hx hb dX7_awayOf_60 rfl (lv_at hl 3 rfl) ?_
      refine lv_aload_n hx hb dX7_awayOf_61 rfl (lv_at hl 3 rfl) ?_
      refine lv_iload_n hx hb dX7_awayOf_62 rfl (lv_at hl 6 rfl) ?_
      refine va_calli (va_runV (As := [.int p3]) (rest := [.ref (gO g d0), .int r1]) ⟨hx, hb, hml, hown, hts⟩ (m_X7_longerBy l D cy g σ  d0 p3 _ hJ (show 9 ≤ d0 ∧ d0 < 12 from hd0)) (cwV 1 hts (gd_V q849 q814 q815 q128 q816) rfl rfl rfl (by decide +kernel) ⟨(Nat.le_of_ble_eq_true rfl), (Nat.le_of_ble_eq_true rfl)⟩) (pv8 hP hK hD hC hS (rv8_7 hK hP hd0)) rfl rfl hl.1 rfl (lv_room (Nat.le_of_ble_eq_true rfl)) dX7_awayOf_63 ⟨Nat.le_of_ble_eq_true rfl, Nat.le_of_ble_eq_true rfl⟩) hS (fun q _ h => up8 hS q h) (up8 hS) (fun r28 σ29 tS H1 locs ht hvm hw30 hB hz1 hk1 hS => ?_)
      have hP : va_P D clz (WD8 cy g σ29) H1 := by rw [← ht]; exact hB
      clear hB hz1 hk1 hvm ht
      generalize H1 = H at hP hS ⊢
      have hw30E : σ = σ29 := (hw30.1).symm
      subst hw30E
      refine lv_aload_n hx hb dX7_awayOf_66 rfl (lv_at hl 3 rfl) ?_
      refine lv_iload_n hx hb dX7_awayOf_67 rfl (lv_at hl 6 rfl) ?_
      refine lv_iload hx hb dX7_awayOf_68 (lv_at hl 2 rfl) ?_
      refine va_calli (va_runV (As := [.int p3, .int r1]) (rest := [.int r28, .ref (gO g d0), .int r1]) ⟨hx, hb, hml, hown, hts⟩ (m_X7_drawFor l D cy g σ  d0 p3 r1 _ hJ (show 9 ≤ d0 ∧ d0 < 12 from hd0)) (cwV 2 hts (gd_V q850 q851 q852 q128 q853) rfl rfl rfl (by decide +kernel) ⟨(Nat.le_of_ble_eq_true rfl), (Nat.le_of_ble_eq_true rfl)⟩) (pv8 hP hK hD hC hS (rv8_7 hK hP hd0)) rfl rfl hl.1 rfl (lv_room (Nat.le_of_ble_eq_true rfl)) dX7_awayOf_70 ⟨Nat.le_of_ble_eq_true rfl, Nat.le_of_ble_eq_true rfl⟩) hS (fun q _ h => up8 hS q h) (up8 hS) (fun r31 σ32 tS H1 locs ht hvm hw33 hB hz1 hk1 hS => ?_)
      have hP : va_P D clz (WD8 cy g σ32) H1 := by rw [← ht]; exact hB
      clear hB hz1 hk1 hvm ht
      generalize H1 = H at hP hS ⊢
      have hw33E : σ = σ32 := (hw33.1).symm
      subst hw33E
      have b34 : (0 : Int) ≤ r31.toInt ∧ r31.toInt ≤ 1000000 := hw33.2.1
      refine lv_iadd hx hb dX7_awayOf_73 ?_
      refine lv_topi (fun x35 ex35 => ?_)
      refine va_calli (va_runV (As := [.int x35]) (rest := [.int r1]) ⟨hx, hb, hml, hown, hts⟩ (m_X7_flatBy l D cy g σ  d0 x35 _ hJ (show 9 ≤ d0 ∧ d0 < 12 from hd0)) (cwV 1 hts (gd_V q858 q818 q819 q128 q820) rfl rfl rfl (by decide +kernel) ⟨(Nat.le_of_ble_eq_true rfl), (Nat.le_of_ble_eq_true rfl)⟩) (pv8 hP hK hD hC hS (rv8_7 hK hP hd0)) rfl rfl hl.1 rfl (lv_room (Nat.le_of_ble_eq_true rfl)) dX7_awayOf_74 ⟨Nat.le_of_ble_eq_true rfl, Nat.le_of_ble_eq_true rfl⟩) hS (fun q _ h => up8 hS q h) (up8 hS) (fun r36 σ37 tS H1 locs ht hvm hw38 hB hz1 hk1 hS => ?_)
      have hP : va_P D clz (WD8 cy g σ37) H1 := by rw [← ht]; exact hB
      clear hB hz1 hk1 hvm ht
      generalize H1 = H at hP hS ⊢
      have hw38E : σ = σ37 := (hw38.1).symm
      subst hw38E
      refine lv_isub hx hb dX7_awayOf_77 ?_
      refine lv_topi (fun x39 ex39 => ?_)
      refine va_mabs hx hb (hml.trans hl.1.symm) hown (hts _ q859) (hts _ q860) (hts _ q135) (hts _ q861) (Nat.le_of_ble_eq_true rfl) (Nat.le_of_ble_eq_true rfl) (Nat.le_refl _) (Nat.le_refl _) dX7_awayOf_78 ?_
      refine lv_topi (fun x40 ex40 => ?_)
      refine lv_istore (lv' := [(8, .int x40), (7, .int r18), (6, .int r7), (5, .int r1), (0, .ref (gO g d0)), (1, .int p1), (2, .int p2), (3, .int p3), (4, .int p4)]) hx hb dX7_awayOf_81 hl (by decide) rfl (fun ls hl => ?_)
      refine lv_iload hx hb dX7_awayOf_83 (lv_at hl 0 rfl) ?_
      refine lv_iload hx hb dX7_awayOf_85 (lv_at hl 8 rfl) ?_
      refine lv_icmp_gt (tgt := 95) hx hb dX7_awayOf_87 (by decide) (fun c42 => ?_) (fun c42 => ?_)
      ·
        have k43 := plt32 c42
        refine lv_iconst (v := (-1)) hx hb dX7_awayOf_95 (by decide) ?_
        exact W.iret (v := (-1)) hx hb hr (fun tS ht hW => ⟨⟨(-1), σ, rfl, ⟨rfl, trivial⟩, (show va_P D clz (WD8 cy g σ) tS.heap by rw [ht]; exact hP)⟩, hS.F ht⟩) hS.2.2 dX7_awayOf_96
      ·
        have k44 := nlt32 c42
        refine lv_iload hx hb dX7_awayOf_90 (lv_at hl 0 rfl) ?_
        refine lv_goto (tgt := 96) hx hb dX7_awayOf_92 (by decide) ?_
        exact W.iret (v := x40) hx hb hr (fun tS ht hW => ⟨⟨x40, σ, rfl, ⟨rfl, trivial⟩, (show va_P D clz (WD8 cy g σ) tS.heap by rw [ht]; exact hP)⟩, hS.F ht⟩) hS.2.2 dX7_awayOf_96
    ·
      have k45 := nle32 c26
      refine lv_iconst (v := (-1)) hx hb dX7_awayOf_56 (by decide) ?_
      exact W.iret (v := (-1)) hx hb hr (fun tS ht hW => ⟨⟨(-1), σ, rfl, ⟨rfl, trivial⟩, (show va_P D clz (WD8 cy g σ) tS.heap by rw [ht]; exact hP)⟩, hS.F ht⟩) hS.2.2 dX7_awayOf_57

theorem q875 : Cond.code yX7_countWays cX7_countWays 6 (some .int) ∈ lw_g := lw_gm (List.mem_of_getElem? (i := 875) (by decide +kernel)) rfl
theorem q876 : Cond.methodLink RX7 73 yX7_awayOf ∈ lw_g := lw_gm (List.mem_of_getElem? (i := 876) (by decide +kernel)) rfl
theorem q877 : Cond.instanceMethod yX7_awayOf ∈ lw_g := lw_gm (List.mem_of_getElem? (i := 877) (by decide +kernel)) rfl
theorem q878 : Cond.selects RX7 yX7_awayOf yX7_awayOf ∈ lw_g := lw_gm (List.mem_of_getElem? (i := 878) (by decide +kernel)) rfl
theorem dX7_countWays_0 : decode cX7_countWays 0 = .ok (.iconst 0, 1) := by decide +kernel
theorem dX7_countWays_1 : decode cX7_countWays 1 = .ok (.istore_n 3, 1) := by decide +kernel
theorem dX7_countWays_2 : decode cX7_countWays 2 = .ok (.iconst 0, 1) := by decide +kernel
theorem dX7_countWays_3 : decode cX7_countWays 3 = .ok (.istore 4, 2) := by decide +kernel
theorem dX7_countWays_5 : decode cX7_countWays 5 = .ok (.iload 4, 2) := by decide +kernel
theorem dX7_countWays_7 : decode cX7_countWays 7 = .ok (.aload_n 0, 1) := by decide +kernel
theorem dX7_countWays_8 : decode cX7_countWays 8 = .ok (.getfield 38, 3) := by decide +kernel
theorem dX7_countWays_11 : decode cX7_countWays 11 = .ok (.if_icmp .ge 44, 3) := by decide +kernel
theorem dX7_countWays_14 : decode cX7_countWays 14 = .ok (.iconst 2, 1) := by decide +kernel
theorem dX7_countWays_15 : decode cX7_countWays 15 = .ok (.istore 5, 2) := by decide +kernel
theorem dX7_countWays_17 : decode cX7_countWays 17 = .ok (.iload 5, 2) := by decide +kernel
theorem dX7_countWays_19 : decode cX7_countWays 19 = .ok (.aload_n 0, 1) := by decide +kernel
theorem dX7_countWays_20 : decode cX7_countWays 20 = .ok (.getfield 37, 3) := by decide +kernel
theorem dX7_countWays_23 : decode cX7_countWays 23 = .ok (.if_icmp .gt 26, 3) := by decide +kernel
theorem dX7_countWays_26 : decode cX7_countWays 26 = .ok (.aload_n 0, 1) := by decide +kernel
theorem dX7_countWays_27 : decode cX7_countWays 27 = .ok (.iload_n 1, 1) := by decide +kernel
theorem dX7_countWays_28 : decode cX7_countWays 28 = .ok (.iload 5, 2) := by decide +kernel
theorem dX7_countWays_30 : decode cX7_countWays 30 = .ok (.iload 4, 2) := by decide +kernel
theorem dX7_countWays_32 : decode cX7_countWays 32 = .ok (.iload_n 2, 1) := by decide +kernel
theorem dX7_countWays_33 : decode cX7_countWays 33 = .ok (.invokevirtual 73, 3) := by decide +kernel
theorem dX7_countWays_36 : decode cX7_countWays 36 = .ok (.iconst (-1), 1) := by decide +kernel
theorem dX7_countWays_37 : decode cX7_countWays 37 = .ok (.if_icmp .eq 6, 3) := by decide +kernel
theorem dX7_countWays_40 : decode cX7_countWays 40 = .ok (.iinc 3 1, 3) := by decide +kernel
theorem dX7_countWays_43 : decode cX7_countWays 43 = .ok (.iinc 5 1, 3) := by decide +kernel
theorem dX7_countWays_46 : decode cX7_countWays 46 = .ok (.goto (-29), 3) := by decide +kernel
theorem dX7_countWays_49 : decode cX7_countWays 49 = .ok (.iinc 4 1, 3) := by decide +kernel
theorem dX7_countWays_52 : decode cX7_countWays 52 = .ok (.goto (-47), 3) := by decide +kernel
theorem dX7_countWays_55 : decode cX7_countWays 55 = .ok (.iload_n 3, 1) := by decide +kernel
theorem dX7_countWays_56 : decode cX7_countWays 56 = .ok (.ireturn, 1) := by decide +kernel
set_option maxHeartbeats 4000000 in
set_option maxRecDepth 100000 in
theorem m_X7_countWays (l : Launch) (D : va_G) (cy : Nat → ClassId) (g : Nat → Nat) (σ : ST) (d0 : Nat) (p1 : Int32) (p2 : Int32) (sz : Nat) (hJ : J8 σ) (hd0 : 9 ≤ d0 ∧ d0 < 12) : Met l yX7_countWays (ww yX7_countWays cX7_countWays 6 (some .int)) ({ frames := 4, cells := 0, slots := 0, locals := 256 }) (va_Pc [.ref (gO g d0), .int p1, .int p2] (pr8 D cy g σ sz)) (qi8 D cy g sz (fun r τ => τ = σ ∧ True)) 0 0 (A8 cy g sz) := by
  refine Met.ofW (cc := cX7_countWays) (maxL := 6) (ret := (some .int)) (by decide) rfl ?_
  intro p e s m args below meth c s₁ B hml hv
  obtain ⟨rfl, hsz, hP, hK, hD0, hC⟩ := hv
  have hx := B.exec
  have hb := B.bytes
  have hr := B.returns
  have hts := hts_g (atoms_spec (ws := ww yX7_countWays cX7_countWays 6 (some .int)) B.pre)
  have hown : s.vm.findClass RX7 = some m.cls := findClass_of_methodNamed B.named
  have hlocks := B.notSynchronized
  clear B
  subst hsz
  have hD := fun τ => A8_D (sz := s.heap.size) hD0 τ
  clear hD0
  have hS : va_S (A8 cy g s.heap.size) s.heap s.heap [] := va_S.rf
  have hl := lv_entry ([.ref (gO g d0), .int p1, .int p2]) (n := 6) (Nat.le_of_ble_eq_true rfl)
  rw [lg_entry_eq]
  generalize (lg_sl ([.ref (gO g d0), .int p1, .int p2]) ++ List.replicate (6 - (lg_sl ([.ref (gO g d0), .int p1, .int p2])).length) Slot.unset).toArray = ls at hl ⊢
  have hl : lv_has ls 6 [(0, .ref (gO g d0)), (1, .int p1), (2, .int p2)] := hl
  refine lv_iconst (v := 0) hx hb dX7_countWays_0 (by decide) ?_
  refine lv_istore_n (lv' := [(3, .int 0), (0, .ref (gO g d0)), (1, .int p1), (2, .int p2)]) hx hb dX7_countWays_1 rfl hl (by decide) rfl (fun ls hl => ?_)
  refine lv_iconst (v := 0) hx hb dX7_countWays_2 (by decide) ?_
  refine lv_istore (lv' := [(4, .int 0), (3, .int 0), (0, .ref (gO g d0)), (1, .int p1), (2, .int p2)]) hx hb dX7_countWays_3 hl (by decide) rfl (fun ls hl => ?_)
  refine loop8 6 5 (fun x : LZ => [(4, .int (x.2.1 0)), (3, .int (x.2.1 1)), (0, .ref (gO g d0)), (1, .int p1), (2, .int p2)]) (fun x : LZ => (x.1 = σ) ∧ ((0 : Int) ≤ (x.2.1 0).toInt ∧ (x.2.1 0).toInt ≤ 8) ∧ True) (fun x : LZ => ((9 : Int) - (x.2.1 0).toInt).toNat) ?_ (σ, lf [0, 0], lg []) ⟨rfl, (show (0 : Int) ≤ (0 : Int32).toInt ∧ (0 : Int32).toInt ≤ 8 from (by have z0 : (0 : Int32).toInt = 0 := (by decide); omega)), trivial⟩ _ _ _ hP hS (lv_sub hl [0, 1, 2, 3, 4] rfl)
  intro y3 hI2 nl1 H locs ls hP hS hl
  rw [show y3.1 = σ from hI2.1] at hP
  have b4 : (0 : Int) ≤ (y3.2.1 0).toInt ∧ (y3.2.1 0).toInt ≤ 8 := hI2.2.1
  have hl : lv_has ls 6 [(4, .int (y3.2.1 0)), (3, .int (y3.2.1 1)), (0, .ref (gO g d0)), (1, .int p1), (2, .int p2)] := hl
  refine lv_iload hx hb dX7_countWays_5 (lv_at hl 0 rfl) ?_
  refine lv_aload_n hx hb dX7_countWays_7 rfl (lv_at hl 2 rfl) ?_
  refine g8_7_0 (x := ((σ d0).1 0)) hx hb hts hown hK hP hd0 (rfl) (hts _ q247) dX7_countWays_8 ?_
  refine lv_icmp_ge (tgt := 55) hx hb dX7_countWays_11 (by decide) (fun c5 => ?_) (fun c5 => ?_)
  ·
    have k6 := ple32 c5
    refine lv_iload_n hx hb dX7_countWays_55 rfl (lv_at hl 1 rfl) ?_
    exact W.iret (v := (y3.2.1 1)) hx hb hr (fun tS ht hW => ⟨⟨(y3.2.1 1), σ, rfl, ⟨rfl, trivial⟩, (show va_P D clz (WD8 cy g σ) tS.heap by rw [ht]; exact hP)⟩, hS.F ht⟩) hS.2.2 dX7_countWays_56
  ·
    have k7 := nle32 c5
    refine lv_iconst (v := 2) hx hb dX7_countWays_14 (by decide) ?_
    refine lv_istore (lv' := [(5, .int 2), (4, .int (y3.2.1 0)), (3, .int (y3.2.1 1)), (0, .ref (gO g d0)), (1, .int p1), (2, .int p2)]) hx hb dX7_countWays_15 hl (by decide) rfl (fun ls hl => ?_)
    refine loop8 6 17 (fun x : LZ => [(5, .int (x.2.1 0)), (4, .int (y3.2.1 0)), (3, .int (x.2.1 1)), (0, .ref (gO g d0)), (1, .int p1), (2, .int p2)]) (fun x : LZ => (x.1 = σ) ∧ ((2 : Int) ≤ (x.2.1 0).toInt ∧ (x.2.1 0).toInt ≤ 10000000) ∧ True) (fun x : LZ => ((10000001 : Int) - (x.2.1 0).toInt).toNat) ?_ (σ, lf [2, (y3.2.1 1)], lg []) ⟨rfl, (show (2 : Int) ≤ (2 : Int32).toInt ∧ (2 : Int32).toInt ≤ 10000000 from (by have z2 : (2 : Int32).toInt = 2 := (by decide); omega)), trivial⟩ _ _ _ hP hS (lv_sub hl [0, 1, 2, 3, 4, 5] rfl)
    intro y10 hI9 nl8 H locs ls hP hS hl
    rw [show y10.1 = σ from hI9.1] at hP
    have b11 : (2 : Int) ≤ (y10.2.1 0).toInt ∧ (y10.2.1 0).toInt ≤ 10000000 := hI9.2.1
    have hl : lv_has ls 6 [(5, .int (y10.2.1 0)), (4, .int (y3.2.1 0)), (3, .int (y10.2.1 1)), (0, .ref (gO g d0)), (1, .int p1), (2, .int p2)] := hl
    refine lv_iload hx hb dX7_countWays_17 (lv_at hl 0 rfl) ?_
    refine lv_aload_n hx hb dX7_countWays_19 rfl (lv_at hl 3 rfl) ?_
    refine g8_7_1 (x := ((σ d0).1 1)) hx hb hts hown hK hP hd0 (rfl) (hts _ q250) dX7_countWays_20 ?_
    refine lv_icmp_gt (tgt := 49) hx hb dX7_countWays_23 (by decide) (fun c12 => ?_) (fun c12 => ?_)
    ·
      have k13 := plt32 c12
      obtain ⟨x14, ex14⟩ : ∃ y : Int32, y = (y3.2.1 0) + 1 := ⟨_, rfl⟩
      have t15 := addO ex14 (by have f0 := b4; have f1 := k7; have f2 := j8_7_0 hJ hd0 rfl; have g0 := rg32 (y3.2.1 0); have z1 : (1 : Int32).toInt = 1 := (by decide); omega)
      refine lv_iinc (v := x14) (lv' := [(4, .int x14), (5, .int (y10.2.1 0)), (3, .int (y10.2.1 1)), (0, .ref (gO g d0)), (1, .int p1), (2, .int p2)]) hx hb dX7_countWays_49 hl (k := 1) rfl (by rw [ex14]; rfl) (by decide) rfl (fun ls hl => ?_)
      refine lv_goto (tgt := 5) hx hb dX7_countWays_52 (by decide) ?_
      have t16 : ((9 : Int) - x14.toInt).toNat < ((9 : Int) - (y3.2.1 0).toInt).toNat := (by have f0 := b4; have f1 := k7; have f2 := t15; have f3 := j8_7_0 hJ hd0 rfl; have g0 := rg32 (y3.2.1 0); have g1 := rg32 x14; have z1 : (1 : Int32).toInt = 1 := (by decide); omega)
      exact nl1 (σ, lf [x14, (y10.2.1 1)], lg []) ⟨rfl, (show (0 : Int) ≤ (x14 : Int32).toInt ∧ (x14 : Int32).toInt ≤ 8 from (by have f0 := t15; have f1 := b4; have f2 := k7; have f3 := j8_7_0 hJ hd0 rfl; have g0 := rg32 x14; have z1 : (1 : Int32).toInt = 1 := (by decide); omega)), trivial⟩ (show ((9 : Int) - x14.toInt).toNat < _ from t16) _ _ _ hP hS (lv_sub hl [0, 2, 3, 4, 5] rfl)
    ·
      have k17 := nlt32 c12
      refine lv_aload_n hx hb dX7_countWays_26 rfl (lv_at hl 3 rfl) ?_
      refine lv_iload_n hx hb dX7_countWays_27 rfl (lv_at hl 4 rfl) ?_
      refine lv_iload hx hb dX7_countWays_28 (lv_at hl 0 rfl) ?_
      refine lv_iload hx hb dX7_countWays_30 (lv_at hl 1 rfl) ?_
      refine lv_iload_n hx hb dX7_countWays_32 rfl (lv_at hl 5 rfl) ?_
      refine va_calli (va_runV (As := [.int p1, .int (y10.2.1 0), .int (y3.2.1 0), .int p2]) (rest := []) ⟨hx, hb, hml, hown, hts⟩ (m_X7_awayOf l D cy g σ  d0 p1 (y10.2.1 0) (y3.2.1 0) p2 _ hJ (show 9 ≤ d0 ∧ d0 < 12 from hd0) (show (2 : Int) ≤ (y10.2.1 0).toInt ∧ (y10.2.1 0).toInt ≤ 1000000 from (by have f0 := b11; have f1 := k17; have f2 := j8_7_1 hJ hd0 rfl; have g0 := rg32 (y10.2.1 0); omega))) (cwV 4 hts (gd_V q876 q877 q878 q128 q879) rfl rfl rfl (by decide +kernel) ⟨(Nat.le_of_ble_eq_true rfl), (Nat.le_of_ble_eq_true rfl)⟩) (pv8 hP hK hD hC hS (rv8_7 hK hP hd0)) rfl rfl hl.1 rfl (lv_room (Nat.le_of_ble_eq_true rfl)) dX7_countWays_33 ⟨Nat.le_of_ble_eq_true rfl, Nat.le_of_ble_eq_true rfl⟩) hS (fun q _ h => up8 hS q h) (up8 hS) (fun r18 σ19 tS H1 locs ht hvm hw20 hB hz1 hk1 hS => ?_)
      have hP : va_P D clz (WD8 cy g σ19) H1 := by rw [← ht]; exact hB
      clear hB hz1 hk1 hvm ht
      generalize H1 = H at hP hS ⊢
      have hw20E : σ = σ19 := (hw20.1).symm
      subst hw20E
      refine lv_iconst (v := (-1)) hx hb dX7_countWays_36 (by decide) ?_
      refine cut8 (D := D) (cy := cy) (g := g) (A := A8 cy g s.heap.size) (H0 := s.heap) 6 43 (fun x : LZ => [(5, .int (y10.2.1 0)), (4, .int (y3.2.1 0)), (3, .int (x.2.1 0)), (0, .ref (gO g d0)), (1, .int p1), (2, .int p2)]) (fun x : LZ => []) (fun x : LZ => (x.1 = σ) ∧ True) ?_ ?_
      ·
        intro y23 hI22 H locs ls hP hS hl
        rw [show y23.1 = σ from hI22.1] at hP
        have hl : lv_has ls 6 [(5, .int (y10.2.1 0)), (4, .int (y3.2.1 0)), (3, .int (y23.2.1 0)), (0, .ref (gO g d0)), (1, .int p1), (2, .int p2)] := hl
        obtain ⟨x24, ex24⟩ : ∃ y : Int32, y = (y10.2.1 0) + 1 := ⟨_, rfl⟩
        have t25 := addO ex24 (by have f0 := b11; have f1 := k17; have f2 := j8_7_1 hJ hd0 rfl; have g0 := rg32 (y10.2.1 0); have z1 : (1 : Int32).toInt = 1 := (by decide); omega)
        refine lv_iinc (v := x24) (lv' := [(5, .int x24), (4, .int (y3.2.1 0)), (3, .int (y23.2.1 0)), (0, .ref (gO g d0)), (1, .int p1), (2, .int p2)]) hx hb dX7_countWays_43 hl (k := 0) rfl (by rw [ex24]; rfl) (by decide) rfl (fun ls hl => ?_)
        refine lv_goto (tgt := 17) hx hb dX7_countWays_46 (by decide) ?_
        have t26 : ((10000001 : Int) - x24.toInt).toNat < ((10000001 : Int) - (y10.2.1 0).toInt).toNat := (by have f0 := b11; have f1 := k17; have f2 := t25; have f3 := j8_7_1 hJ hd0 rfl; have g0 := rg32 (y10.2.1 0); have g1 := rg32 x24; have z1 : (1 : Int32).toInt = 1 := (by decide); omega)
        exact nl8 (σ, lf [x24, (y23.2.1 0)], lg []) ⟨rfl, (show (2 : Int) ≤ (x24 : Int32).toInt ∧ (x24 : Int32).toInt ≤ 10000000 from (by have f0 := t25; have f1 := b11; have f2 := k17; have f3 := j8_7_1 hJ hd0 rfl; have g0 := rg32 x24; have z1 : (1 : Int32).toInt = 1 := (by decide); omega)), trivial⟩ (show ((10000001 : Int) - x24.toInt).toNat < _ from t26) _ _ _ hP hS (lv_sub hl [0, 1, 2, 3, 4, 5] rfl)
      ·
        intro nj21
        refine lv_icmp_eq (tgt := 43) hx hb dX7_countWays_37 (by decide) (fun c27 => ?_) (fun c27 => ?_)
        ·
          have k28 := peq32 c27
          exact nj21 (σ, lf [(y10.2.1 1)], lg []) ⟨rfl, trivial⟩ _ _ _ hP hS (lv_sub hl [0, 1, 2, 3, 4, 5] rfl)
        ·
          have k29 := neq32 c27
          obtain ⟨x30, ex30⟩ : ∃ y : Int32, y = (y10.2.1 1) + 1 := ⟨_, rfl⟩
          refine lv_iinc (v := x30) (lv' := [(3, .int x30), (5, .int (y10.2.1 0)), (4, .int (y3.2.1 0)), (0, .ref (gO g d0)), (1, .int p1), (2, .int p2)]) hx hb dX7_countWays_40 hl (k := 2) rfl (by rw [ex30]; rfl) (by decide) rfl (fun ls hl => ?_)
          exact nj21 (σ, lf [x30], lg []) ⟨rfl, trivial⟩ _ _ _ hP hS (lv_sub hl [1, 2, 0, 3, 4, 5] rfl)

theorem q871 : Cond.code yX8_ways cX8_ways 3 (some .int) ∈ lw_g := lw_gm (List.mem_of_getElem? (i := 871) (by decide +kernel)) rfl
theorem q872 : Cond.methodLink RX8 217 yX7_countWays ∈ lw_g := lw_gm (List.mem_of_getElem? (i := 872) (by decide +kernel)) rfl
theorem q873 : Cond.instanceMethod yX7_countWays ∈ lw_g := lw_gm (List.mem_of_getElem? (i := 873) (by decide +kernel)) rfl
theorem q874 : Cond.selects RX7 yX7_countWays yX7_countWays ∈ lw_g := lw_gm (List.mem_of_getElem? (i := 874) (by decide +kernel)) rfl
theorem dX8_ways_0 : decode cX8_ways 0 = .ok (.aload_n 0, 1) := by decide +kernel
theorem dX8_ways_1 : decode cX8_ways 1 = .ok (.aload_n 0, 1) := by decide +kernel
theorem dX8_ways_2 : decode cX8_ways 2 = .ok (.getfield 43, 3) := by decide +kernel
theorem dX8_ways_5 : decode cX8_ways 5 = .ok (.iload_n 1, 1) := by decide +kernel
theorem dX8_ways_6 : decode cX8_ways 6 = .ok (.invokevirtual 186, 3) := by decide +kernel
theorem dX8_ways_9 : decode cX8_ways 9 = .ok (.ifCond .eq 11, 3) := by decide +kernel
theorem dX8_ways_12 : decode cX8_ways 12 = .ok (.iload_n 2, 1) := by decide +kernel
theorem dX8_ways_13 : decode cX8_ways 13 = .ok (.i2l, 1) := by decide +kernel
theorem dX8_ways_14 : decode cX8_ways 14 = .ok (.invokestatic 213, 3) := by decide +kernel
theorem dX8_ways_17 : decode cX8_ways 17 = .ok (.ifCond .ne 6, 3) := by decide +kernel
theorem dX8_ways_20 : decode cX8_ways 20 = .ok (.bipush (-2), 2) := by decide +kernel
theorem dX8_ways_22 : decode cX8_ways 22 = .ok (.ireturn, 1) := by decide +kernel
theorem dX8_ways_23 : decode cX8_ways 23 = .ok (.aload_n 0, 1) := by decide +kernel
theorem dX8_ways_24 : decode cX8_ways 24 = .ok (.getfield 43, 3) := by decide +kernel
theorem dX8_ways_27 : decode cX8_ways 27 = .ok (.iload_n 2, 1) := by decide +kernel
theorem dX8_ways_28 : decode cX8_ways 28 = .ok (.aload_n 0, 1) := by decide +kernel
theorem dX8_ways_29 : decode cX8_ways 29 = .ok (.getfield 19, 3) := by decide +kernel
theorem dX8_ways_32 : decode cX8_ways 32 = .ok (.getfield 104, 3) := by decide +kernel
theorem dX8_ways_35 : decode cX8_ways 35 = .ok (.invokevirtual 217, 3) := by decide +kernel
theorem dX8_ways_38 : decode cX8_ways 38 = .ok (.ireturn, 1) := by decide +kernel
set_option maxHeartbeats 4000000 in
set_option maxRecDepth 100000 in
theorem m_X8_ways (l : Launch) (D : va_G) (cy : Nat → ClassId) (g : Nat → Nat) (σ : ST) (p1 : Int32) (p2 : Int32) (sz : Nat) (hJ : J8 σ)  : Met l yX8_ways (ww yX8_ways cX8_ways 3 (some .int)) ({ frames := 6, cells := 0, slots := 0, locals := 384 }) (va_Pc [.ref (gO g 17), .int p1, .int p2] (pr8 D cy g σ sz)) (qi8 D cy g sz (fun r τ => Fr (fO [9]) σ τ ∧ J8 τ ∧ True)) 0 0 (A8 cy g sz) := by
  refine Met.ofW (cc := cX8_ways) (maxL := 3) (ret := (some .int)) (by decide) rfl ?_
  intro p e s m args below meth c s₁ B hml hv
  obtain ⟨rfl, hsz, hP, hK, hD0, hC⟩ := hv
  have hx := B.exec
  have hb := B.bytes
  have hr := B.returns
  have hts := hts_g (atoms_spec (ws := ww yX8_ways cX8_ways 3 (some .int)) B.pre)
  have hown : s.vm.findClass RX8 = some m.cls := findClass_of_methodNamed B.named
  have hlocks := B.notSynchronized
  clear B
  subst hsz
  have hD := fun τ => A8_D (sz := s.heap.size) hD0 τ
  clear hD0
  have hS : va_S (A8 cy g s.heap.size) s.heap s.heap [] := va_S.rf
  have hl := lv_entry ([.ref (gO g 17), .int p1, .int p2]) (n := 3) (Nat.le_of_ble_eq_true rfl)
  rw [lg_entry_eq]
  generalize (lg_sl ([.ref (gO g 17), .int p1, .int p2]) ++ List.replicate (3 - (lg_sl ([.ref (gO g 17), .int p1, .int p2])).length) Slot.unset).toArray = ls at hl ⊢
  have hl : lv_has ls 3 [(0, .ref (gO g 17)), (1, .int p1), (2, .int p2)] := hl
  refine lv_aload_n hx hb dX8_ways_0 rfl (lv_at hl 0 rfl) ?_
  refine lv_aload_n hx hb dX8_ways_1 rfl (lv_at hl 0 rfl) ?_
  refine g8_8_6 hx hb hts hown hK hP (hts _ q440) dX8_ways_2 ?_
  refine lv_iload_n hx hb dX8_ways_5 rfl (lv_at hl 1 rfl) ?_
  refine va_calli (va_runV (As := [.ref (gO g 9), .int p1]) (rest := []) ⟨hx, hb, hml, hown, hts⟩ (m_X8_aimTube l D cy g σ  9 p1 _ hJ (show 9 ≤ 9 ∧ 9 < 12 from ⟨by decide, by decide⟩)) (cwV 2 hts (gd_V q796 q798 q14 q125 q799) rfl rfl rfl (by decide +kernel) ⟨(Nat.le_of_ble_eq_true rfl), (Nat.le_of_ble_eq_true rfl)⟩) (pv8 hP hK hD hC hS (rv8_8 hK hP)) rfl rfl hl.1 rfl (lv_room (Nat.le_of_ble_eq_true rfl)) dX8_ways_6 ⟨Nat.le_of_ble_eq_true rfl, Nat.le_of_ble_eq_true rfl⟩) hS (fun q _ h => up8 hS q h) (up8 hS) (fun r1 σ2 tS H1 locs ht hvm hw3 hB hz1 hk1 hS => ?_)
  have hP : va_P D clz (WD8 cy g σ2) H1 := by rw [← ht]; exact hB
  clear hB hz1 hk1 hvm ht
  generalize H1 = H at hP hS ⊢
  have hF4 : Fr (fO [9]) σ σ2 := hw3.1
  have hJ5 : J8 σ2 := hw3.2.1
  have b6 : (0 : Int) ≤ r1.toInt ∧ r1.toInt ≤ 1 := hw3.2.2.1
  refine lv_if_eq (tgt := 20) hx hb dX8_ways_9 (by decide) (fun c7 => ?_) (fun c7 => ?_)
  ·
    have k8 := peq32 c7
    refine lv_bipush (v := (-2)) hx hb dX8_ways_20 (by decide) ?_
    exact W.iret (v := (-2)) hx hb hr (fun tS ht hW => ⟨⟨(-2), σ2, rfl, ⟨Fr.tr (Fr.rf) hF4 (fO_sub (fun _ q => q)), hJ5, trivial⟩, (show va_P D clz (WD8 cy g σ2) tS.heap by rw [ht]; exact hP)⟩, hS.F ht⟩) hS.2.2 dX8_ways_22
  ·
    have k9 := neq32 c7
    refine lv_iload_n hx hb dX8_ways_12 rfl (lv_at hl 2 rfl) ?_
    refine lv_i2l (v := p2.toInt64) hx hb dX8_ways_13 rfl ?_
    refine va_calli (va_runS (As := [.long p2.toInt64]) (rest := []) ⟨hx, hb, hml, hown, hts⟩ (m_X8_isPitch l D cy g σ2  p2.toInt64 _ hJ5 ) (va_cwS 1 hts (gd_S q829 q830 q125 q831) rfl rfl rfl (by decide +kernel) ⟨(Nat.le_of_ble_eq_true rfl), (Nat.le_of_ble_eq_true rfl)⟩) (ps8 hP hK hD hC hS) rfl rfl hl.1 rfl (lv_room (Nat.le_of_ble_eq_true rfl)) dX8_ways_14 ⟨Nat.le_of_ble_eq_true rfl, Nat.le_of_ble_eq_true rfl⟩) hS (fun q _ h => up8 hS q h) (up8 hS) (fun r10 σ11 tS H1 locs ht hvm hw12 hB hz1 hk1 hS => ?_)
    have hP : va_P D clz (WD8 cy g σ11) H1 := by rw [← ht]; exact hB
    clear hB hz1 hk1 hvm ht
    generalize H1 = H at hP hS ⊢
    have hw12E : σ2 = σ11 := (hw12.1).symm
    subst hw12E
    have b13 : (0 : Int) ≤ r10.toInt ∧ r10.toInt ≤ 1 := hw12.2.1
    refine lv_if_ne (tgt := 23) hx hb dX8_ways_17 (by decide) (fun c14 => ?_) (fun c14 => ?_)
    ·
      have k15 := neq32 c14
      refine lv_aload_n hx hb dX8_ways_23 rfl (lv_at hl 0 rfl) ?_
      refine g8_8_6 hx hb hts hown hK hP (hts _ q440) dX8_ways_24 ?_
      refine lv_iload_n hx hb dX8_ways_27 rfl (lv_at hl 2 rfl) ?_
      refine lv_aload_n hx hb dX8_ways_28 rfl (lv_at hl 0 rfl) ?_
      obtain ⟨dx16, edx16⟩ : ∃ z : Nat, ((σ 17).1 1).toInt.toNat = z := ⟨_, rfl⟩
      have hdx16 : 0 ≤ dx16 ∧ dx16 < 5 := mnow (by have f0 := j8_8_1 hJ rfl; omega) edx16
      refine g8_8_1 (o := dx16) hx hb hts hown hK hP ((congrArg (fun z : Int32 => z.toInt.toNat) ((hF4 17 1 (fO_n (nmc (by decide) nm0))).1)).trans edx16) (hts _ q435) dX8_ways_29 ?_
      refine g8_0_0 (x := ((σ dx16).1 0)) hx hb hts hown hK hP hdx16 ((hF4 dx16 0 (fO_n (nmc (nel hdx16 (by decide)) nm0))).1) (hts _ q194) dX8_ways_32 ?_
      refine va_calli (va_runV (As := [.int p2, .int ((σ dx16).1 0)]) (rest := []) ⟨hx, hb, hml, hown, hts⟩ (m_X7_countWays l D cy g σ2  9 p2 ((σ dx16).1 0) _ hJ5 (show 9 ≤ 9 ∧ 9 < 12 from ⟨by decide, by decide⟩)) (cwV 2 hts (gd_V q872 q873 q874 q128 q875) rfl rfl rfl (by decide +kernel) ⟨(Nat.le_of_ble_eq_true rfl), (Nat.le_of_ble_eq_true rfl)⟩) (pv8 hP hK hD hC hS (rv8_7 hK hP (by decide : 9 ≤ 9 ∧ 9 < 12))) rfl rfl hl.1 rfl (lv_room (Nat.le_of_ble_eq_true rfl)) dX8_ways_35 ⟨Nat.le_of_ble_eq_true rfl, Nat.le_of_ble_eq_true rfl⟩) hS (fun q _ h => up8 hS q h) (up8 hS) (fun r17 σ18 tS H1 locs ht hvm hw19 hB hz1 hk1 hS => ?_)
      have hP : va_P D clz (WD8 cy g σ18) H1 := by rw [← ht]; exact hB
      clear hB hz1 hk1 hvm ht
      generalize H1 = H at hP hS ⊢
      have hw19E : σ2 = σ18 := (hw19.1).symm
      subst hw19E
      exact W.iret (v := r17) hx hb hr (fun tS ht hW => ⟨⟨r17, σ2, rfl, ⟨Fr.tr (Fr.rf) hF4 (fO_sub (fun _ q => q)), hJ5, trivial⟩, (show va_P D clz (WD8 cy g σ2) tS.heap by rw [ht]; exact hP)⟩, hS.F ht⟩) hS.2.2 dX8_ways_38
    ·
      have k20 := peq32 c14
      refine lv_bipush (v := (-2)) hx hb dX8_ways_20 (by decide) ?_
      exact W.iret (v := (-2)) hx hb hr (fun tS ht hW => ⟨⟨(-2), σ2, rfl, ⟨Fr.tr (Fr.rf) hF4 (fO_sub (fun _ q => q)), hJ5, trivial⟩, (show va_P D clz (WD8 cy g σ2) tS.heap by rw [ht]; exact hP)⟩, hS.F ht⟩) hS.2.2 dX8_ways_22

theorem q887 : Cond.code yX7_nthWay cX7_nthWay 7 (some .int) ∈ lw_g := lw_gm (List.mem_of_getElem? (i := 887) (by decide +kernel)) rfl
theorem dX7_nthWay_0 : decode cX7_nthWay 0 = .ok (.iconst 0, 1) := by decide +kernel
theorem dX7_nthWay_1 : decode cX7_nthWay 1 = .ok (.istore 4, 2) := by decide +kernel
theorem dX7_nthWay_3 : decode cX7_nthWay 3 = .ok (.iconst 2, 1) := by decide +kernel
theorem dX7_nthWay_4 : decode cX7_nthWay 4 = .ok (.istore 5, 2) := by decide +kernel
theorem dX7_nthWay_6 : decode cX7_nthWay 6 = .ok (.iload 5, 2) := by decide +kernel
theorem dX7_nthWay_8 : decode cX7_nthWay 8 = .ok (.aload_n 0, 1) := by decide +kernel
theorem dX7_nthWay_9 : decode cX7_nthWay 9 = .ok (.getfield 37, 3) := by decide +kernel
theorem dX7_nthWay_12 : decode cX7_nthWay 12 = .ok (.if_icmp .gt 62, 3) := by decide +kernel
theorem dX7_nthWay_15 : decode cX7_nthWay 15 = .ok (.iconst 0, 1) := by decide +kernel
theorem dX7_nthWay_16 : decode cX7_nthWay 16 = .ok (.istore 6, 2) := by decide +kernel
theorem dX7_nthWay_18 : decode cX7_nthWay 18 = .ok (.iload 6, 2) := by decide +kernel
theorem dX7_nthWay_20 : decode cX7_nthWay 20 = .ok (.aload_n 0, 1) := by decide +kernel
theorem dX7_nthWay_21 : decode cX7_nthWay 21 = .ok (.getfield 38, 3) := by decide +kernel
theorem dX7_nthWay_24 : decode cX7_nthWay 24 = .ok (.if_icmp .ge 44, 3) := by decide +kernel
theorem dX7_nthWay_27 : decode cX7_nthWay 27 = .ok (.aload_n 0, 1) := by decide +kernel
theorem dX7_nthWay_28 : decode cX7_nthWay 28 = .ok (.iload_n 1, 1) := by decide +kernel
theorem dX7_nthWay_29 : decode cX7_nthWay 29 = .ok (.iload 5, 2) := by decide +kernel
theorem dX7_nthWay_31 : decode cX7_nthWay 31 = .ok (.iload 6, 2) := by decide +kernel
theorem dX7_nthWay_33 : decode cX7_nthWay 33 = .ok (.iload_n 2, 1) := by decide +kernel
theorem dX7_nthWay_34 : decode cX7_nthWay 34 = .ok (.invokevirtual 73, 3) := by decide +kernel
theorem dX7_nthWay_37 : decode cX7_nthWay 37 = .ok (.iconst (-1), 1) := by decide +kernel
theorem dX7_nthWay_38 : decode cX7_nthWay 38 = .ok (.if_icmp .ne 6, 3) := by decide +kernel
theorem dX7_nthWay_41 : decode cX7_nthWay 41 = .ok (.goto 21, 3) := by decide +kernel
theorem dX7_nthWay_44 : decode cX7_nthWay 44 = .ok (.iload 4, 2) := by decide +kernel
theorem dX7_nthWay_46 : decode cX7_nthWay 46 = .ok (.iload_n 3, 1) := by decide +kernel
theorem dX7_nthWay_47 : decode cX7_nthWay 47 = .ok (.if_icmp .ne 12, 3) := by decide +kernel
theorem dX7_nthWay_50 : decode cX7_nthWay 50 = .ok (.iload 5, 2) := by decide +kernel
theorem dX7_nthWay_52 : decode cX7_nthWay 52 = .ok (.bipush 8, 2) := by decide +kernel
theorem dX7_nthWay_54 : decode cX7_nthWay 54 = .ok (.imul, 1) := by decide +kernel
theorem dX7_nthWay_55 : decode cX7_nthWay 55 = .ok (.iload 6, 2) := by decide +kernel
theorem dX7_nthWay_57 : decode cX7_nthWay 57 = .ok (.iadd, 1) := by decide +kernel
theorem dX7_nthWay_58 : decode cX7_nthWay 58 = .ok (.ireturn, 1) := by decide +kernel
theorem dX7_nthWay_59 : decode cX7_nthWay 59 = .ok (.iinc 4 1, 3) := by decide +kernel
theorem dX7_nthWay_62 : decode cX7_nthWay 62 = .ok (.iinc 6 1, 3) := by decide +kernel
theorem dX7_nthWay_65 : decode cX7_nthWay 65 = .ok (.goto (-47), 3) := by decide +kernel
theorem dX7_nthWay_68 : decode cX7_nthWay 68 = .ok (.iinc 5 1, 3) := by decide +kernel
theorem dX7_nthWay_71 : decode cX7_nthWay 71 = .ok (.goto (-65), 3) := by decide +kernel
theorem dX7_nthWay_74 : decode cX7_nthWay 74 = .ok (.iconst (-1), 1) := by decide +kernel
theorem dX7_nthWay_75 : decode cX7_nthWay 75 = .ok (.ireturn, 1) := by decide +kernel
set_option maxHeartbeats 4000000 in
set_option maxRecDepth 100000 in
theorem m_X7_nthWay (l : Launch) (D : va_G) (cy : Nat → ClassId) (g : Nat → Nat) (σ : ST) (d0 : Nat) (p1 : Int32) (p2 : Int32) (p3 : Int32) (sz : Nat) (hJ : J8 σ) (hd0 : 9 ≤ d0 ∧ d0 < 12) : Met l yX7_nthWay (ww yX7_nthWay cX7_nthWay 7 (some .int)) ({ frames := 4, cells := 0, slots := 0, locals := 256 }) (va_Pc [.ref (gO g d0), .int p1, .int p2, .int p3] (pr8 D cy g σ sz)) (qi8 D cy g sz (fun r τ => τ = σ ∧ ((-1 : Int) ≤ r.toInt ∧ r.toInt ≤ 8000007) ∧ True)) 0 0 (A8 cy g sz) := by
  refine Met.ofW (cc := cX7_nthWay) (maxL := 7) (ret := (some .int)) (by decide) rfl ?_
  intro p e s m args below meth c s₁ B hml hv
  obtain ⟨rfl, hsz, hP, hK, hD0, hC⟩ := hv
  have hx := B.exec
  have hb := B.bytes
  have hr := B.returns
  have hts := hts_g (atoms_spec (ws := ww yX7_nthWay cX7_nthWay 7 (some .int)) B.pre)
  have hown : s.vm.findClass RX7 = some m.cls := findClass_of_methodNamed B.named
  have hlocks := B.notSynchronized
  clear B
  subst hsz
  have hD := fun τ => A8_D (sz := s.heap.size) hD0 τ
  clear hD0
  have hS : va_S (A8 cy g s.heap.size) s.heap s.heap [] := va_S.rf
  have hl := lv_entry ([.ref (gO g d0), .int p1, .int p2, .int p3]) (n := 7) (Nat.le_of_ble_eq_true rfl)
  rw [lg_entry_eq]
  generalize (lg_sl ([.ref (gO g d0), .int p1, .int p2, .int p3]) ++ List.replicate (7 - (lg_sl ([.ref (gO g d0), .int p1, .int p2, .int p3])).length) Slot.unset).toArray = ls at hl ⊢
  have hl : lv_has ls 7 [(0, .ref (gO g d0)), (1, .int p1), (2, .int p2), (3, .int p3)] := hl
  refine lv_iconst (v := 0) hx hb dX7_nthWay_0 (by decide) ?_
  refine lv_istore (lv' := [(4, .int 0), (0, .ref (gO g d0)), (1, .int p1), (2, .int p2), (3, .int p3)]) hx hb dX7_nthWay_1 hl (by decide) rfl (fun ls hl => ?_)
  refine lv_iconst (v := 2) hx hb dX7_nthWay_3 (by decide) ?_
  refine lv_istore (lv' := [(5, .int 2), (4, .int 0), (0, .ref (gO g d0)), (1, .int p1), (2, .int p2), (3, .int p3)]) hx hb dX7_nthWay_4 hl (by decide) rfl (fun ls hl => ?_)
  refine loop8 7 6 (fun x : LZ => [(5, .int (x.2.1 0)), (4, .int (x.2.1 1)), (0, .ref (gO g d0)), (1, .int p1), (2, .int p2), (3, .int p3)]) (fun x : LZ => (x.1 = σ) ∧ ((2 : Int) ≤ (x.2.1 0).toInt ∧ (x.2.1 0).toInt ≤ 10000000) ∧ True) (fun x : LZ => ((10000001 : Int) - (x.2.1 0).toInt).toNat) ?_ (σ, lf [2, 0], lg []) ⟨rfl, (show (2 : Int) ≤ (2 : Int32).toInt ∧ (2 : Int32).toInt ≤ 10000000 from (by have z2 : (2 : Int32).toInt = 2 := (by decide); omega)), trivial⟩ _ _ _ hP hS (lv_sub hl [0, 1, 2, 3, 4, 5] rfl)
  intro y3 hI2 nl1 H locs ls hP hS hl
  rw [show y3.1 = σ from hI2.1] at hP
  have b4 : (2 : Int) ≤ (y3.2.1 0).toInt ∧ (y3.2.1 0).toInt ≤ 10000000 := hI2.2.1
  have hl : lv_has ls 7 [(5, .int (y3.2.1 0)), (4, .int (y3.2.1 1)), (0, .ref (gO g d0)), (1, .int p1), (2, .int p2), (3, .int p3)] := hl
  refine lv_iload hx hb dX7_nthWay_6 (lv_at hl 0 rfl) ?_
  refine lv_aload_n hx hb dX7_nthWay_8 rfl (lv_at hl 2 rfl) ?_
  refine g8_7_1 (x := ((σ d0).1 1)) hx hb hts hown hK hP hd0 (rfl) (hts _ q250) dX7_nthWay_9 ?_
  refine lv_icmp_gt (tgt := 74) hx hb dX7_nthWay_12 (by decide) (fun c5 => ?_) (fun c5 => ?_)
  ·
    have k6 := plt32 c5
    refine lv_iconst (v := (-1)) hx hb dX7_nthWay_74 (by decide) ?_
    exact W.iret (v := (-1)) hx hb hr (fun tS ht hW => ⟨⟨(-1), σ, rfl, ⟨rfl, (show (-1 : Int) ≤ ((-1) : Int32).toInt ∧ ((-1) : Int32).toInt ≤ 8000007 from (by have zm1 : ((-1) : Int32).toInt = (-1) := (by decide); omega)), trivial⟩, (show va_P D clz (WD8 cy g σ) tS.heap by rw [ht]; exact hP)⟩, hS.F ht⟩) hS.2.2 dX7_nthWay_75
  ·
    have k7 := nlt32 c5
    refine lv_iconst (v := 0) hx hb dX7_nthWay_15 (by decide) ?_
    refine lv_istore (lv' := [(6, .int 0), (5, .int (y3.2.1 0)), (4, .int (y3.2.1 1)), (0, .ref (gO g d0)), (1, .int p1), (2, .int p2), (3, .int p3)]) hx hb dX7_nthWay_16 hl (by decide) rfl (fun ls hl => ?_)
    refine loop8 7 18 (fun x : LZ => [(6, .int (x.2.1 0)), (5, .int (y3.2.1 0)), (4, .int (x.2.1 1)), (0, .ref (gO g d0)), (1, .int p1), (2, .int p2), (3, .int p3)]) (fun x : LZ => (x.1 = σ) ∧ ((0 : Int) ≤ (x.2.1 0).toInt ∧ (x.2.1 0).toInt ≤ 8) ∧ True) (fun x : LZ => ((9 : Int) - (x.2.1 0).toInt).toNat) ?_ (σ, lf [0, (y3.2.1 1)], lg []) ⟨rfl, (show (0 : Int) ≤ (0 : Int32).toInt ∧ (0 : Int32).toInt ≤ 8 from (by have z0 : (0 : Int32).toInt = 0 := (by decide); omega)), trivial⟩ _ _ _ hP hS (lv_sub hl [0, 1, 2, 3, 4, 5, 6] rfl)
    intro y10 hI9 nl8 H locs ls hP hS hl
    rw [show y10.1 = σ from hI9.1] at hP
    have b11 : (0 : Int) ≤ (y10.2.1 0).toInt ∧ (y10.2.1 0).toInt ≤ 8 := hI9.2.1
    have hl : lv_has ls 7 [(6, .int (y10.2.1 0)), (5, .int (y3.2.1 0)), (4, .int (y10.2.1 1)), (0, .ref (gO g d0)), (1, .int p1), (2, .int p2), (3, .int p3)] := hl
    refine lv_iload hx hb dX7_nthWay_18 (lv_at hl 0 rfl) ?_
    refine lv_aload_n hx hb dX7_nthWay_20 rfl (lv_at hl 3 rfl) ?_
    refine g8_7_0 (x := ((σ d0).1 0)) hx hb hts hown hK hP hd0 (rfl) (hts _ q247) dX7_nthWay_21 ?_
    refine lv_icmp_ge (tgt := 68) hx hb dX7_nthWay_24 (by decide) (fun c12 => ?_) (fun c12 => ?_)
    ·
      have k13 := ple32 c12
      obtain ⟨x14, ex14⟩ : ∃ y : Int32, y = (y3.2.1 0) + 1 := ⟨_, rfl⟩
      have t15 := addO ex14 (by have f0 := b4; have f1 := k7; have f2 := j8_7_1 hJ hd0 rfl; have g0 := rg32 (y3.2.1 0); have z1 : (1 : Int32).toInt = 1 := (by decide); omega)
      refine lv_iinc (v := x14) (lv' := [(5, .int x14), (6, .int (y10.2.1 0)), (4, .int (y10.2.1 1)), (0, .ref (gO g d0)), (1, .int p1), (2, .int p2), (3, .int p3)]) hx hb dX7_nthWay_68 hl (k := 1) rfl (by rw [ex14]; rfl) (by decide) rfl (fun ls hl => ?_)
      refine lv_goto (tgt := 6) hx hb dX7_nthWay_71 (by decide) ?_
      have t16 : ((10000001 : Int) - x14.toInt).toNat < ((10000001 : Int) - (y3.2.1 0).toInt).toNat := (by have f0 := b4; have f1 := k7; have f2 := t15; have f3 := j8_7_1 hJ hd0 rfl; have g0 := rg32 (y3.2.1 0); have g1 := rg32 x14; have z1 : (1 : Int32).toInt = 1 := (by decide); omega)
      exact nl1 (σ, lf [x14, (y10.2.1 1)], lg []) ⟨rfl, (show (2 : Int) ≤ (x14 : Int32).toInt ∧ (x14 : Int32).toInt ≤ 10000000 from (by have f0 := t15; have f1 := b4; have f2 := k7; have f3 := j8_7_1 hJ hd0 rfl; have g0 := rg32 x14; have z1 : (1 : Int32).toInt = 1 := (by decide); omega)), trivial⟩ (show ((10000001 : Int) - x14.toInt).toNat < _ from t16) _ _ _ hP hS (lv_sub hl [0, 2, 3, 4, 5, 6] rfl)
    ·
      have k17 := nle32 c12
      refine lv_aload_n hx hb dX7_nthWay_27 rfl (lv_at hl 3 rfl) ?_
      refine lv_iload_n hx hb dX7_nthWay_28 rfl (lv_at hl 4 rfl) ?_
      refine lv_iload hx hb dX7_nthWay_29 (lv_at hl 1 rfl) ?_
      refine lv_iload hx hb dX7_nthWay_31 (lv_at hl 0 rfl) ?_
      refine lv_iload_n hx hb dX7_nthWay_33 rfl (lv_at hl 5 rfl) ?_
      refine va_calli (va_runV (As := [.int p1, .int (y3.2.1 0), .int (y10.2.1 0), .int p2]) (rest := []) ⟨hx, hb, hml, hown, hts⟩ (m_X7_awayOf l D cy g σ  d0 p1 (y3.2.1 0) (y10.2.1 0) p2 _ hJ (show 9 ≤ d0 ∧ d0 < 12 from hd0) (show (2 : Int) ≤ (y3.2.1 0).toInt ∧ (y3.2.1 0).toInt ≤ 1000000 from (by have f0 := b4; have f1 := k7; have f2 := j8_7_1 hJ hd0 rfl; have g0 := rg32 (y3.2.1 0); omega))) (cwV 4 hts (gd_V q876 q877 q878 q128 q879) rfl rfl rfl (by decide +kernel) ⟨(Nat.le_of_ble_eq_true rfl), (Nat.le_of_ble_eq_true rfl)⟩) (pv8 hP hK hD hC hS (rv8_7 hK hP hd0)) rfl rfl hl.1 rfl (lv_room (Nat.le_of_ble_eq_true rfl)) dX7_nthWay_34 ⟨Nat.le_of_ble_eq_true rfl, Nat.le_of_ble_eq_true rfl⟩) hS (fun q _ h => up8 hS q h) (up8 hS) (fun r18 σ19 tS H1 locs ht hvm hw20 hB hz1 hk1 hS => ?_)
      have hP : va_P D clz (WD8 cy g σ19) H1 := by rw [← ht]; exact hB
      clear hB hz1 hk1 hvm ht
      generalize H1 = H at hP hS ⊢
      have hw20E : σ = σ19 := (hw20.1).symm
      subst hw20E
      refine lv_iconst (v := (-1)) hx hb dX7_nthWay_37 (by decide) ?_
      refine cut8 (D := D) (cy := cy) (g := g) (A := A8 cy g s.heap.size) (H0 := s.heap) 7 62 (fun x : LZ => [(6, .int (y10.2.1 0)), (5, .int (y3.2.1 0)), (4, .int (x.2.1 0)), (0, .ref (gO g d0)), (1, .int p1), (2, .int p2), (3, .int p3)]) (fun x : LZ => []) (fun x : LZ => (x.1 = σ) ∧ True) ?_ ?_
      ·
        intro y23 hI22 H locs ls hP hS hl
        rw [show y23.1 = σ from hI22.1] at hP
        have hl : lv_has ls 7 [(6, .int (y10.2.1 0)), (5, .int (y3.2.1 0)), (4, .int (y23.2.1 0)), (0, .ref (gO g d0)), (1, .int p1), (2, .int p2), (3, .int p3)] := hl
        obtain ⟨x24, ex24⟩ : ∃ y : Int32, y = (y10.2.1 0) + 1 := ⟨_, rfl⟩
        have t25 := addO ex24 (by have f0 := b11; have f1 := k17; have f2 := j8_7_0 hJ hd0 rfl; have g0 := rg32 (y10.2.1 0); have z1 : (1 : Int32).toInt = 1 := (by decide); omega)
        refine lv_iinc (v := x24) (lv' := [(6, .int x24), (5, .int (y3.2.1 0)), (4, .int (y23.2.1 0)), (0, .ref (gO g d0)), (1, .int p1), (2, .int p2), (3, .int p3)]) hx hb dX7_nthWay_62 hl (k := 0) rfl (by rw [ex24]; rfl) (by decide) rfl (fun ls hl => ?_)
        refine lv_goto (tgt := 18) hx hb dX7_nthWay_65 (by decide) ?_
        have t26 : ((9 : Int) - x24.toInt).toNat < ((9 : Int) - (y10.2.1 0).toInt).toNat := (by have f0 := b11; have f1 := k17; have f2 := t25; have f3 := j8_7_0 hJ hd0 rfl; have g0 := rg32 (y10.2.1 0); have g1 := rg32 x24; have z1 : (1 : Int32).toInt = 1 := (by decide); omega)
        exact nl8 (σ, lf [x24, (y23.2.1 0)], lg []) ⟨rfl, (show (0 : Int) ≤ (x24 : Int32).toInt ∧ (x24 : Int32).toInt ≤ 8 from (by have f0 := t25; have f1 := b11; have f2 := k17; have f3 := j8_7_0 hJ hd0 rfl; have g0 := rg32 x24; have z1 : (1 : Int32).toInt = 1 := (by decide); omega)), trivial⟩ (show ((9 : Int) - x24.toInt).toNat < _ from t26) _ _ _ hP hS (lv_sub hl [0, 1, 2, 3, 4, 5, 6] rfl)
      ·
        intro nj21
        refine lv_icmp_ne (tgt := 44) hx hb dX7_nthWay_38 (by decide) (fun c27 => ?_) (fun c27 => ?_)
        ·
          have k28 := neq32 c27
          refine lv_iload hx hb dX7_nthWay_44 (lv_at hl 2 rfl) ?_
          refine lv_iload_n hx hb dX7_nthWay_46 rfl (lv_at hl 6 rfl) ?_
          refine lv_icmp_ne (tgt := 59) hx hb dX7_nthWay_47 (by decide) (fun c29 => ?_) (fun c29 => ?_)
          ·
            have k30 := neq32 c29
            obtain ⟨x31, ex31⟩ : ∃ y : Int32, y = (y10.2.1 1) + 1 := ⟨_, rfl⟩
            refine lv_iinc (v := x31) (lv' := [(4, .int x31), (6, .int (y10.2.1 0)), (5, .int (y3.2.1 0)), (0, .ref (gO g d0)), (1, .int p1), (2, .int p2), (3, .int p3)]) hx hb dX7_nthWay_59 hl (k := 2) rfl (by rw [ex31]; rfl) (by decide) rfl (fun ls hl => ?_)
            exact nj21 (σ, lf [x31], lg []) ⟨rfl, trivial⟩ _ _ _ hP hS (lv_sub hl [1, 2, 0, 3, 4, 5, 6] rfl)
          ·
            have k32 := peq32 c29
            refine lv_iload hx hb dX7_nthWay_50 (lv_at hl 1 rfl) ?_
            refine lv_bipush (v := 8) hx hb dX7_nthWay_52 (by decide) ?_
            refine lv_imul hx hb dX7_nthWay_54 ?_
            refine lv_topi (fun x33 ex33 => ?_)
            have t34 := mulC (n := 8) ex33 (by decide) (by have f0 := b4; have f1 := k7; have f2 := j8_7_1 hJ hd0 rfl; have g0 := rg32 (y3.2.1 0); omega)
            refine lv_iload hx hb dX7_nthWay_55 (lv_at hl 0 rfl) ?_
            refine lv_iadd hx hb dX7_nthWay_57 ?_
            refine lv_topi (fun x35 ex35 => ?_)
            have t36 := addO ex35 (by have f0 := b11; have f1 := k17; have f2 := t34; have f3 := j8_7_0 hJ hd0 rfl; have f4 := b4; have f5 := k7; have f6 := j8_7_1 hJ hd0 rfl; have g0 := rg32 (y10.2.1 0); have g1 := rg32 x33; omega)
            exact W.iret (v := x35) hx hb hr (fun tS ht hW => ⟨⟨x35, σ, rfl, ⟨rfl, (show (-1 : Int) ≤ x35.toInt ∧ x35.toInt ≤ 8000007 from (by have f0 := t36; have f1 := b11; have f2 := k17; have f3 := t34; have f4 := j8_7_0 hJ hd0 rfl; have f5 := b4; have f6 := k7; have f7 := j8_7_1 hJ hd0 rfl; have g0 := rg32 x35; omega)), trivial⟩, (show va_P D clz (WD8 cy g σ) tS.heap by rw [ht]; exact hP)⟩, hS.F ht⟩) hS.2.2 dX7_nthWay_58
        ·
          have k37 := peq32 c27
          refine lv_goto (tgt := 62) hx hb dX7_nthWay_41 (by decide) ?_
          exact nj21 (σ, lf [(y10.2.1 1)], lg []) ⟨rfl, trivial⟩ _ _ _ hP hS (lv_sub hl [0, 1, 2, 3, 4, 5, 6] rfl)

theorem q883 : Cond.code yX8_way cX8_way 6 (some .int) ∈ lw_g := lw_gm (List.mem_of_getElem? (i := 883) (by decide +kernel)) rfl
theorem q884 : Cond.methodLink RX8 220 yX7_nthWay ∈ lw_g := lw_gm (List.mem_of_getElem? (i := 884) (by decide +kernel)) rfl
theorem q885 : Cond.instanceMethod yX7_nthWay ∈ lw_g := lw_gm (List.mem_of_getElem? (i := 885) (by decide +kernel)) rfl
theorem q886 : Cond.selects RX7 yX7_nthWay yX7_nthWay ∈ lw_g := lw_gm (List.mem_of_getElem? (i := 886) (by decide +kernel)) rfl
theorem dX8_way_0 : decode cX8_way 0 = .ok (.aload_n 0, 1) := by decide +kernel
theorem dX8_way_1 : decode cX8_way 1 = .ok (.aload_n 0, 1) := by decide +kernel
theorem dX8_way_2 : decode cX8_way 2 = .ok (.getfield 43, 3) := by decide +kernel
theorem dX8_way_5 : decode cX8_way 5 = .ok (.iload_n 1, 1) := by decide +kernel
theorem dX8_way_6 : decode cX8_way 6 = .ok (.invokevirtual 186, 3) := by decide +kernel
theorem dX8_way_9 : decode cX8_way 9 = .ok (.ifCond .eq 22, 3) := by decide +kernel
theorem dX8_way_12 : decode cX8_way 12 = .ok (.iload_n 2, 1) := by decide +kernel
theorem dX8_way_13 : decode cX8_way 13 = .ok (.i2l, 1) := by decide +kernel
theorem dX8_way_14 : decode cX8_way 14 = .ok (.invokestatic 213, 3) := by decide +kernel
theorem dX8_way_17 : decode cX8_way 17 = .ok (.ifCond .eq 14, 3) := by decide +kernel
theorem dX8_way_20 : decode cX8_way 20 = .ok (.iload 4, 2) := by decide +kernel
theorem dX8_way_22 : decode cX8_way 22 = .ok (.ifCond .lt 9, 3) := by decide +kernel
theorem dX8_way_25 : decode cX8_way 25 = .ok (.iload 4, 2) := by decide +kernel
theorem dX8_way_27 : decode cX8_way 27 = .ok (.iconst 1, 1) := by decide +kernel
theorem dX8_way_28 : decode cX8_way 28 = .ok (.if_icmp .le 6, 3) := by decide +kernel
theorem dX8_way_31 : decode cX8_way 31 = .ok (.bipush (-2), 2) := by decide +kernel
theorem dX8_way_33 : decode cX8_way 33 = .ok (.ireturn, 1) := by decide +kernel
theorem dX8_way_34 : decode cX8_way 34 = .ok (.aload_n 0, 1) := by decide +kernel
theorem dX8_way_35 : decode cX8_way 35 = .ok (.getfield 43, 3) := by decide +kernel
theorem dX8_way_38 : decode cX8_way 38 = .ok (.iload_n 2, 1) := by decide +kernel
theorem dX8_way_39 : decode cX8_way 39 = .ok (.aload_n 0, 1) := by decide +kernel
theorem dX8_way_40 : decode cX8_way 40 = .ok (.getfield 19, 3) := by decide +kernel
theorem dX8_way_43 : decode cX8_way 43 = .ok (.getfield 104, 3) := by decide +kernel
theorem dX8_way_46 : decode cX8_way 46 = .ok (.iload_n 3, 1) := by decide +kernel
theorem dX8_way_47 : decode cX8_way 47 = .ok (.invokevirtual 220, 3) := by decide +kernel
theorem dX8_way_50 : decode cX8_way 50 = .ok (.istore 5, 2) := by decide +kernel
theorem dX8_way_52 : decode cX8_way 52 = .ok (.iload 5, 2) := by decide +kernel
theorem dX8_way_54 : decode cX8_way 54 = .ok (.ifCond .ge 5, 3) := by decide +kernel
theorem dX8_way_57 : decode cX8_way 57 = .ok (.iconst (-1), 1) := by decide +kernel
theorem dX8_way_58 : decode cX8_way 58 = .ok (.ireturn, 1) := by decide +kernel
theorem dX8_way_59 : decode cX8_way 59 = .ok (.iload 4, 2) := by decide +kernel
theorem dX8_way_61 : decode cX8_way 61 = .ok (.ifCond .ne 11, 3) := by decide +kernel
theorem dX8_way_64 : decode cX8_way 64 = .ok (.iload 5, 2) := by decide +kernel
theorem dX8_way_66 : decode cX8_way 66 = .ok (.bipush 8, 2) := by decide +kernel
theorem dX8_way_68 : decode cX8_way 68 = .ok (.idiv, 1) := by decide +kernel
theorem dX8_way_69 : decode cX8_way 69 = .ok (.goto 8, 3) := by decide +kernel
theorem dX8_way_72 : decode cX8_way 72 = .ok (.iload 5, 2) := by decide +kernel
theorem dX8_way_74 : decode cX8_way 74 = .ok (.bipush 8, 2) := by decide +kernel
theorem dX8_way_76 : decode cX8_way 76 = .ok (.irem, 1) := by decide +kernel
theorem dX8_way_77 : decode cX8_way 77 = .ok (.ireturn, 1) := by decide +kernel
set_option maxHeartbeats 4000000 in
set_option maxRecDepth 100000 in
theorem m_X8_way (l : Launch) (D : va_G) (cy : Nat → ClassId) (g : Nat → Nat) (σ : ST) (p1 : Int32) (p2 : Int32) (p3 : Int32) (p4 : Int32) (sz : Nat) (hJ : J8 σ)  : Met l yX8_way (ww yX8_way cX8_way 6 (some .int)) ({ frames := 6, cells := 0, slots := 0, locals := 384 }) (va_Pc [.ref (gO g 17), .int p1, .int p2, .int p3, .int p4] (pr8 D cy g σ sz)) (qi8 D cy g sz (fun r τ => Fr (fO [9]) σ τ ∧ J8 τ ∧ ((-2 : Int) ≤ r.toInt ∧ r.toInt ≤ 8000007) ∧ True)) 0 0 (A8 cy g sz) := by
  refine Met.ofW (cc := cX8_way) (maxL := 6) (ret := (some .int)) (by decide) rfl ?_
  intro p e s m args below meth c s₁ B hml hv
  obtain ⟨rfl, hsz, hP, hK, hD0, hC⟩ := hv
  have hx := B.exec
  have hb := B.bytes
  have hr := B.returns
  have hts := hts_g (atoms_spec (ws := ww yX8_way cX8_way 6 (some .int)) B.pre)
  have hown : s.vm.findClass RX8 = some m.cls := findClass_of_methodNamed B.named
  have hlocks := B.notSynchronized
  clear B
  subst hsz
  have hD := fun τ => A8_D (sz := s.heap.size) hD0 τ
  clear hD0
  have hS : va_S (A8 cy g s.heap.size) s.heap s.heap [] := va_S.rf
  have hl := lv_entry ([.ref (gO g 17), .int p1, .int p2, .int p3, .int p4]) (n := 6) (Nat.le_of_ble_eq_true rfl)
  rw [lg_entry_eq]
  generalize (lg_sl ([.ref (gO g 17), .int p1, .int p2, .int p3, .int p4]) ++ List.replicate (6 - (lg_sl ([.ref (gO g 17), .int p1, .int p2, .int p3, .int p4])).length) Slot.unset).toArray = ls at hl ⊢
  have hl : lv_has ls 6 [(0, .ref (gO g 17)), (1, .int p1), (2, .int p2), (3, .int p3), (4, .int p4)] := hl
  refine lv_aload_n hx hb dX8_way_0 rfl (lv_at hl 0 rfl) ?_
  refine lv_aload_n hx hb dX8_way_1 rfl (lv_at hl 0 rfl) ?_
  refine g8_8_6 hx hb hts hown hK hP (hts _ q440) dX8_way_2 ?_
  refine lv_iload_n hx hb dX8_way_5 rfl (lv_at hl 1 rfl) ?_
  refine va_calli (va_runV (As := [.ref (gO g 9), .int p1]) (rest := []) ⟨hx, hb, hml, hown, hts⟩ (m_X8_aimTube l D cy g σ  9 p1 _ hJ (show 9 ≤ 9 ∧ 9 < 12 from ⟨by decide, by decide⟩)) (cwV 2 hts (gd_V q796 q798 q14 q125 q799) rfl rfl rfl (by decide +kernel) ⟨(Nat.le_of_ble_eq_true rfl), (Nat.le_of_ble_eq_true rfl)⟩) (pv8 hP hK hD hC hS (rv8_8 hK hP)) rfl rfl hl.1 rfl (lv_room (Nat.le_of_ble_eq_true rfl)) dX8_way_6 ⟨Nat.le_of_ble_eq_true rfl, Nat.le_of_ble_eq_true rfl⟩) hS (fun q _ h => up8 hS q h) (up8 hS) (fun r1 σ2 tS H1 locs ht hvm hw3 hB hz1 hk1 hS => ?_)
  have hP : va_P D clz (WD8 cy g σ2) H1 := by rw [← ht]; exact hB
  clear hB hz1 hk1 hvm ht
  generalize H1 = H at hP hS ⊢
  have hF4 : Fr (fO [9]) σ σ2 := hw3.1
  have hJ5 : J8 σ2 := hw3.2.1
  have b6 : (0 : Int) ≤ r1.toInt ∧ r1.toInt ≤ 1 := hw3.2.2.1
  refine lv_if_eq (tgt := 31) hx hb dX8_way_9 (by decide) (fun c7 => ?_) (fun c7 => ?_)
  ·
    have k8 := peq32 c7
    refine lv_bipush (v := (-2)) hx hb dX8_way_31 (by decide) ?_
    exact W.iret (v := (-2)) hx hb hr (fun tS ht hW => ⟨⟨(-2), σ2, rfl, ⟨Fr.tr (Fr.rf) hF4 (fO_sub (fun _ q => q)), hJ5, (show (-2 : Int) ≤ ((-2) : Int32).toInt ∧ ((-2) : Int32).toInt ≤ 8000007 from (by have zm2 : ((-2) : Int32).toInt = (-2) := (by decide); omega)), trivial⟩, (show va_P D clz (WD8 cy g σ2) tS.heap by rw [ht]; exact hP)⟩, hS.F ht⟩) hS.2.2 dX8_way_33
  ·
    have k9 := neq32 c7
    refine lv_iload_n hx hb dX8_way_12 rfl (lv_at hl 2 rfl) ?_
    refine lv_i2l (v := p2.toInt64) hx hb dX8_way_13 rfl ?_
    refine va_calli (va_runS (As := [.long p2.toInt64]) (rest := []) ⟨hx, hb, hml, hown, hts⟩ (m_X8_isPitch l D cy g σ2  p2.toInt64 _ hJ5 ) (va_cwS 1 hts (gd_S q829 q830 q125 q831) rfl rfl rfl (by decide +kernel) ⟨(Nat.le_of_ble_eq_true rfl), (Nat.le_of_ble_eq_true rfl)⟩) (ps8 hP hK hD hC hS) rfl rfl hl.1 rfl (lv_room (Nat.le_of_ble_eq_true rfl)) dX8_way_14 ⟨Nat.le_of_ble_eq_true rfl, Nat.le_of_ble_eq_true rfl⟩) hS (fun q _ h => up8 hS q h) (up8 hS) (fun r10 σ11 tS H1 locs ht hvm hw12 hB hz1 hk1 hS => ?_)
    have hP : va_P D clz (WD8 cy g σ11) H1 := by rw [← ht]; exact hB
    clear hB hz1 hk1 hvm ht
    generalize H1 = H at hP hS ⊢
    have hw12E : σ2 = σ11 := (hw12.1).symm
    subst hw12E
    have b13 : (0 : Int) ≤ r10.toInt ∧ r10.toInt ≤ 1 := hw12.2.1
    refine lv_if_eq (tgt := 31) hx hb dX8_way_17 (by decide) (fun c14 => ?_) (fun c14 => ?_)
    ·
      have k15 := peq32 c14
      refine lv_bipush (v := (-2)) hx hb dX8_way_31 (by decide) ?_
      exact W.iret (v := (-2)) hx hb hr (fun tS ht hW => ⟨⟨(-2), σ2, rfl, ⟨Fr.tr (Fr.rf) hF4 (fO_sub (fun _ q => q)), hJ5, (show (-2 : Int) ≤ ((-2) : Int32).toInt ∧ ((-2) : Int32).toInt ≤ 8000007 from (by have zm2 : ((-2) : Int32).toInt = (-2) := (by decide); omega)), trivial⟩, (show va_P D clz (WD8 cy g σ2) tS.heap by rw [ht]; exact hP)⟩, hS.F ht⟩) hS.2.2 dX8_way_33
    ·
      have k16 := neq32 c14
      refine lv_iload hx hb dX8_way_20 (lv_at hl 4 rfl) ?_
      refine lv_if_lt (tgt := 31) hx hb dX8_way_22 (by decide) (fun c17 => ?_) (fun c17 => ?_)
      ·
        have k18 := plt32 c17
        refine lv_bipush (v := (-2)) hx hb dX8_way_31 (by decide) ?_
        exact W.iret (v := (-2)) hx hb hr (fun tS ht hW => ⟨⟨(-2), σ2, rfl, ⟨Fr.tr (Fr.rf) hF4 (fO_sub (fun _ q => q)), hJ5, (show (-2 : Int) ≤ ((-2) : Int32).toInt ∧ ((-2) : Int32).toInt ≤ 8000007 from (by have zm2 : ((-2) : Int32).toInt = (-2) := (by decide); omega)), trivial⟩, (show va_P D clz (WD8 cy g σ2) tS.heap by rw [ht]; exact hP)⟩, hS.F ht⟩) hS.2.2 dX8_way_33
      ·
        have k19 := nlt32 c17
        refine lv_iload hx hb dX8_way_25 (lv_at hl 4 rfl) ?_
        refine lv_iconst (v := 1) hx hb dX8_way_27 (by decide) ?_
        refine lv_icmp_le (tgt := 34) hx hb dX8_way_28 (by decide) (fun c20 => ?_) (fun c20 => ?_)
        ·
          have k21 := ple32 c20
          refine lv_aload_n hx hb dX8_way_34 rfl (lv_at hl 0 rfl) ?_
          refine g8_8_6 hx hb hts hown hK hP (hts _ q440) dX8_way_35 ?_
          refine lv_iload_n hx hb dX8_way_38 rfl (lv_at hl 2 rfl) ?_
          refine lv_aload_n hx hb dX8_way_39 rfl (lv_at hl 0 rfl) ?_
          obtain ⟨dx22, edx22⟩ : ∃ z : Nat, ((σ 17).1 1).toInt.toNat = z := ⟨_, rfl⟩
          have hdx22 : 0 ≤ dx22 ∧ dx22 < 5 := mnow (by have f0 := j8_8_1 hJ rfl; omega) edx22
          refine g8_8_1 (o := dx22) hx hb hts hown hK hP ((congrArg (fun z : Int32 => z.toInt.toNat) ((hF4 17 1 (fO_n (nmc (by decide) nm0))).1)).trans edx22) (hts _ q435) dX8_way_40 ?_
          refine g8_0_0 (x := ((σ dx22).1 0)) hx hb hts hown hK hP hdx22 ((hF4 dx22 0 (fO_n (nmc (nel hdx22 (by decide)) nm0))).1) (hts _ q194) dX8_way_43 ?_
          refine lv_iload_n hx hb dX8_way_46 rfl (lv_at hl 3 rfl) ?_
          refine va_calli (va_runV (As := [.int p2, .int ((σ dx22).1 0), .int p3]) (rest := []) ⟨hx, hb, hml, hown, hts⟩ (m_X7_nthWay l D cy g σ2  9 p2 ((σ dx22).1 0) p3 _ hJ5 (show 9 ≤ 9 ∧ 9 < 12 from ⟨by decide, by decide⟩)) (cwV 3 hts (gd_V q884 q885 q886 q128 q887) rfl rfl rfl (by decide +kernel) ⟨(Nat.le_of_ble_eq_true rfl), (Nat.le_of_ble_eq_true rfl)⟩) (pv8 hP hK hD hC hS (rv8_7 hK hP (by decide : 9 ≤ 9 ∧ 9 < 12))) rfl rfl hl.1 rfl (lv_room (Nat.le_of_ble_eq_true rfl)) dX8_way_47 ⟨Nat.le_of_ble_eq_true rfl, Nat.le_of_ble_eq_true rfl⟩) hS (fun q _ h => up8 hS q h) (up8 hS) (fun r23 σ24 tS H1 locs ht hvm hw25 hB hz1 hk1 hS => ?_)
          have hP : va_P D clz (WD8 cy g σ24) H1 := by rw [← ht]; exact hB
          clear hB hz1 hk1 hvm ht
          generalize H1 = H at hP hS ⊢
          have hw25E : σ2 = σ24 := (hw25.1).symm
          subst hw25E
          have b26 : (-1 : Int) ≤ r23.toInt ∧ r23.toInt ≤ 8000007 := hw25.2.1
          refine lv_istore (lv' := [(5, .int r23), (0, .ref (gO g 17)), (1, .int p1), (2, .int p2), (3, .int p3), (4, .int p4)]) hx hb dX8_way_50 hl (by decide) rfl (fun ls hl => ?_)
          refine lv_iload hx hb dX8_way_52 (lv_at hl 0 rfl) ?_
          refine lv_if_ge (tgt := 59) hx hb dX8_way_54 (by decide) (fun c27 => ?_) (fun c27 => ?_)
          ·
            have k28 := ple32 c27
            refine lv_iload hx hb dX8_way_59 (lv_at hl 5 rfl) ?_
            refine lv_if_ne (tgt := 72) hx hb dX8_way_61 (by decide) (fun c29 => ?_) (fun c29 => ?_)
            ·
              have k30 := neq32 c29
              refine lv_iload hx hb dX8_way_72 (lv_at hl 0 rfl) ?_
              refine lv_bipush (v := 8) hx hb dX8_way_74 (by decide) ?_
              refine lv_irem hx hb dX8_way_76 (by decide) ?_
              refine lv_topi (fun x31 ex31 => ?_)
              have t32 := remC (n := 8) ex31 (by decide) (by have f0 := b26; have f1 := k28; have g0 := rg32 r23; have z0 : (0 : Int32).toInt = 0 := (by decide); omega)
              exact W.iret (v := x31) hx hb hr (fun tS ht hW => ⟨⟨x31, σ2, rfl, ⟨Fr.tr (Fr.rf) hF4 (fO_sub (fun _ q => q)), hJ5, (show (-2 : Int) ≤ x31.toInt ∧ x31.toInt ≤ 8000007 from (by have f0 := t32; have f1 := b26; have f2 := k28; have g0 := rg32 x31; have z0 : (0 : Int32).toInt = 0 := (by decide); omega)), trivial⟩, (show va_P D clz (WD8 cy g σ2) tS.heap by rw [ht]; exact hP)⟩, hS.F ht⟩) hS.2.2 dX8_way_77
            ·
              have k33 := peq32 c29
              refine lv_iload hx hb dX8_way_64 (lv_at hl 0 rfl) ?_
              refine lv_bipush (v := 8) hx hb dX8_way_66 (by decide) ?_
              refine lv_idiv hx hb dX8_way_68 (by decide) ?_
              refine lv_topi (fun x34 ex34 => ?_)
              have t35 := divC (n := 8) ex34 (by decide) (by have f0 := b26; have f1 := k28; have g0 := rg32 r23; have z0 : (0 : Int32).toInt = 0 := (by decide); omega)
              refine lv_goto (tgt := 77) hx hb dX8_way_69 (by decide) ?_
              exact W.iret (v := x34) hx hb hr (fun tS ht hW => ⟨⟨x34, σ2, rfl, ⟨Fr.tr (Fr.rf) hF4 (fO_sub (fun _ q => q)), hJ5, (show (-2 : Int) ≤ x34.toInt ∧ x34.toInt ≤ 8000007 from (by have f0 := t35; have f1 := b26; have f2 := k28; have g0 := rg32 x34; have z0 : (0 : Int32).toInt = 0 := (by decide); omega)), trivial⟩, (show va_P D clz (WD8 cy g σ2) tS.heap by rw [ht]; exact hP)⟩, hS.F ht⟩) hS.2.2 dX8_way_77
          ·
            have k36 := nle32 c27
            refine lv_iconst (v := (-1)) hx hb dX8_way_57 (by decide) ?_
            exact W.iret (v := (-1)) hx hb hr (fun tS ht hW => ⟨⟨(-1), σ2, rfl, ⟨Fr.tr (Fr.rf) hF4 (fO_sub (fun _ q => q)), hJ5, (show (-2 : Int) ≤ ((-1) : Int32).toInt ∧ ((-1) : Int32).toInt ≤ 8000007 from (by have zm1 : ((-1) : Int32).toInt = (-1) := (by decide); omega)), trivial⟩, (show va_P D clz (WD8 cy g σ2) tS.heap by rw [ht]; exact hP)⟩, hS.F ht⟩) hS.2.2 dX8_way_58
        ·
          have k37 := nle32 c20
          refine lv_bipush (v := (-2)) hx hb dX8_way_31 (by decide) ?_
          exact W.iret (v := (-2)) hx hb hr (fun tS ht hW => ⟨⟨(-2), σ2, rfl, ⟨Fr.tr (Fr.rf) hF4 (fO_sub (fun _ q => q)), hJ5, (show (-2 : Int) ≤ ((-2) : Int32).toInt ∧ ((-2) : Int32).toInt ≤ 8000007 from (by have zm2 : ((-2) : Int32).toInt = (-2) := (by decide); omega)), trivial⟩, (show va_P D clz (WD8 cy g σ2) tS.heap by rw [ht]; exact hP)⟩, hS.F ht⟩) hS.2.2 dX8_way_33

theorem q891 : Cond.code yX8_range cX8_range 7 (some .int) ∈ lw_g := lw_gm (List.mem_of_getElem? (i := 891) (by decide +kernel)) rfl
theorem dX8_range_0 : decode cX8_range 0 = .ok (.aload_n 0, 1) := by decide +kernel
theorem dX8_range_1 : decode cX8_range 1 = .ok (.aload_n 0, 1) := by decide +kernel
theorem dX8_range_2 : decode cX8_range 2 = .ok (.getfield 43, 3) := by decide +kernel
theorem dX8_range_5 : decode cX8_range 5 = .ok (.iload_n 1, 1) := by decide +kernel
theorem dX8_range_6 : decode cX8_range 6 = .ok (.invokevirtual 186, 3) := by decide +kernel
theorem dX8_range_9 : decode cX8_range 9 = .ok (.ifCond .eq 12, 3) := by decide +kernel
theorem dX8_range_12 : decode cX8_range 12 = .ok (.iload_n 2, 1) := by decide +kernel
theorem dX8_range_13 : decode cX8_range 13 = .ok (.ifCond .lt 8, 3) := by decide +kernel
theorem dX8_range_16 : decode cX8_range 16 = .ok (.iload_n 2, 1) := by decide +kernel
theorem dX8_range_17 : decode cX8_range 17 = .ok (.iconst 2, 1) := by decide +kernel
theorem dX8_range_18 : decode cX8_range 18 = .ok (.if_icmp .le 6, 3) := by decide +kernel
theorem dX8_range_21 : decode cX8_range 21 = .ok (.bipush (-2), 2) := by decide +kernel
theorem dX8_range_23 : decode cX8_range 23 = .ok (.ireturn, 1) := by decide +kernel
theorem dX8_range_24 : decode cX8_range 24 = .ok (.iconst (-1), 1) := by decide +kernel
theorem dX8_range_25 : decode cX8_range 25 = .ok (.istore_n 3, 1) := by decide +kernel
theorem dX8_range_26 : decode cX8_range 26 = .ok (.iconst (-1), 1) := by decide +kernel
theorem dX8_range_27 : decode cX8_range 27 = .ok (.istore 4, 2) := by decide +kernel
theorem dX8_range_29 : decode cX8_range 29 = .ok (.iconst 0, 1) := by decide +kernel
theorem dX8_range_30 : decode cX8_range 30 = .ok (.istore 5, 2) := by decide +kernel
theorem dX8_range_32 : decode cX8_range 32 = .ok (.iconst 0, 1) := by decide +kernel
theorem dX8_range_33 : decode cX8_range 33 = .ok (.istore 6, 2) := by decide +kernel
theorem dX8_range_35 : decode cX8_range 35 = .ok (.iload 6, 2) := by decide +kernel
theorem dX8_range_37 : decode cX8_range 37 = .ok (.bipush 60, 2) := by decide +kernel
theorem dX8_range_39 : decode cX8_range 39 = .ok (.if_icmp .gt 47, 3) := by decide +kernel
theorem dX8_range_42 : decode cX8_range 42 = .ok (.aload_n 0, 1) := by decide +kernel
theorem dX8_range_43 : decode cX8_range 43 = .ok (.getfield 43, 3) := by decide +kernel
theorem dX8_range_46 : decode cX8_range 46 = .ok (.iload 6, 2) := by decide +kernel
theorem dX8_range_48 : decode cX8_range 48 = .ok (.aload_n 0, 1) := by decide +kernel
theorem dX8_range_49 : decode cX8_range 49 = .ok (.getfield 19, 3) := by decide +kernel
theorem dX8_range_52 : decode cX8_range 52 = .ok (.getfield 104, 3) := by decide +kernel
theorem dX8_range_55 : decode cX8_range 55 = .ok (.invokevirtual 217, 3) := by decide +kernel
theorem dX8_range_58 : decode cX8_range 58 = .ok (.ifCond .le 22, 3) := by decide +kernel
theorem dX8_range_61 : decode cX8_range 61 = .ok (.iload_n 3, 1) := by decide +kernel
theorem dX8_range_62 : decode cX8_range 62 = .ok (.iconst (-1), 1) := by decide +kernel
theorem dX8_range_63 : decode cX8_range 63 = .ok (.if_icmp .ne 8, 3) := by decide +kernel
theorem dX8_range_66 : decode cX8_range 66 = .ok (.iload 6, 2) := by decide +kernel
theorem dX8_range_68 : decode cX8_range 68 = .ok (.goto 4, 3) := by decide +kernel
theorem dX8_range_71 : decode cX8_range 71 = .ok (.iload_n 3, 1) := by decide +kernel
theorem dX8_range_72 : decode cX8_range 72 = .ok (.istore_n 3, 1) := by decide +kernel
theorem dX8_range_73 : decode cX8_range 73 = .ok (.iload 6, 2) := by decide +kernel
theorem dX8_range_75 : decode cX8_range 75 = .ok (.istore 4, 2) := by decide +kernel
theorem dX8_range_77 : decode cX8_range 77 = .ok (.iinc 5 1, 3) := by decide +kernel
theorem dX8_range_80 : decode cX8_range 80 = .ok (.iinc 6 1, 3) := by decide +kernel
theorem dX8_range_83 : decode cX8_range 83 = .ok (.goto (-48), 3) := by decide +kernel
theorem dX8_range_86 : decode cX8_range 86 = .ok (.iload_n 2, 1) := by decide +kernel
theorem dX8_range_87 : decode cX8_range 87 = .ok (.ifCond .eq 8, 3) := by decide +kernel
theorem dX8_range_90 : decode cX8_range 90 = .ok (.iload_n 3, 1) := by decide +kernel
theorem dX8_range_91 : decode cX8_range 91 = .ok (.iconst (-1), 1) := by decide +kernel
theorem dX8_range_92 : decode cX8_range 92 = .ok (.if_icmp .ne 5, 3) := by decide +kernel
theorem dX8_range_95 : decode cX8_range 95 = .ok (.iload_n 3, 1) := by decide +kernel
theorem dX8_range_96 : decode cX8_range 96 = .ok (.ireturn, 1) := by decide +kernel
theorem dX8_range_97 : decode cX8_range 97 = .ok (.iload_n 2, 1) := by decide +kernel
theorem dX8_range_98 : decode cX8_range 98 = .ok (.iconst 1, 1) := by decide +kernel
theorem dX8_range_99 : decode cX8_range 99 = .ok (.if_icmp .ne 8, 3) := by decide +kernel
theorem dX8_range_102 : decode cX8_range 102 = .ok (.iload 4, 2) := by decide +kernel
theorem dX8_range_104 : decode cX8_range 104 = .ok (.goto 12, 3) := by decide +kernel
theorem dX8_range_107 : decode cX8_range 107 = .ok (.iload 4, 2) := by decide +kernel
theorem dX8_range_109 : decode cX8_range 109 = .ok (.iload_n 3, 1) := by decide +kernel
theorem dX8_range_110 : decode cX8_range 110 = .ok (.isub, 1) := by decide +kernel
theorem dX8_range_111 : decode cX8_range 111 = .ok (.iconst 1, 1) := by decide +kernel
theorem dX8_range_112 : decode cX8_range 112 = .ok (.iadd, 1) := by decide +kernel
theorem dX8_range_113 : decode cX8_range 113 = .ok (.iload 5, 2) := by decide +kernel
theorem dX8_range_115 : decode cX8_range 115 = .ok (.isub, 1) := by decide +kernel
theorem dX8_range_116 : decode cX8_range 116 = .ok (.ireturn, 1) := by decide +kernel
set_option maxHeartbeats 4000000 in
set_option maxRecDepth 100000 in
theorem m_X8_range (l : Launch) (D : va_G) (cy : Nat → ClassId) (g : Nat → Nat) (σ : ST) (p1 : Int32) (p2 : Int32) (sz : Nat) (hJ : J8 σ)  : Met l yX8_range (ww yX8_range cX8_range 7 (some .int)) ({ frames := 6, cells := 0, slots := 0, locals := 384 }) (va_Pc [.ref (gO g 17), .int p1, .int p2] (pr8 D cy g σ sz)) (qi8 D cy g sz (fun r τ => Fr (fO [9]) σ τ ∧ J8 τ ∧ True)) 0 0 (A8 cy g sz) := by
  refine Met.ofW (cc := cX8_range) (maxL := 7) (ret := (some .int)) (by decide) rfl ?_
  intro p e s m args below meth c s₁ B hml hv
  obtain ⟨rfl, hsz, hP, hK, hD0, hC⟩ := hv
  have hx := B.exec
  have hb := B.bytes
  have hr := B.returns
  have hts := hts_g (atoms_spec (ws := ww yX8_range cX8_range 7 (some .int)) B.pre)
  have hown : s.vm.findClass RX8 = some m.cls := findClass_of_methodNamed B.named
  have hlocks := B.notSynchronized
  clear B
  subst hsz
  have hD := fun τ => A8_D (sz := s.heap.size) hD0 τ
  clear hD0
  have hS : va_S (A8 cy g s.heap.size) s.heap s.heap [] := va_S.rf
  have hl := lv_entry ([.ref (gO g 17), .int p1, .int p2]) (n := 7) (Nat.le_of_ble_eq_true rfl)
  rw [lg_entry_eq]
  generalize (lg_sl ([.ref (gO g 17), .int p1, .int p2]) ++ List.replicate (7 - (lg_sl ([.ref (gO g 17), .int p1, .int p2])).length) Slot.unset).toArray = ls at hl ⊢
  have hl : lv_has ls 7 [(0, .ref (gO g 17)), (1, .int p1), (2, .int p2)] := hl
  refine lv_aload_n hx hb dX8_range_0 rfl (lv_at hl 0 rfl) ?_
  refine lv_aload_n hx hb dX8_range_1 rfl (lv_at hl 0 rfl) ?_
  refine g8_8_6 hx hb hts hown hK hP (hts _ q440) dX8_range_2 ?_
  refine lv_iload_n hx hb dX8_range_5 rfl (lv_at hl 1 rfl) ?_
  refine va_calli (va_runV (As := [.ref (gO g 9), .int p1]) (rest := []) ⟨hx, hb, hml, hown, hts⟩ (m_X8_aimTube l D cy g σ  9 p1 _ hJ (show 9 ≤ 9 ∧ 9 < 12 from ⟨by decide, by decide⟩)) (cwV 2 hts (gd_V q796 q798 q14 q125 q799) rfl rfl rfl (by decide +kernel) ⟨(Nat.le_of_ble_eq_true rfl), (Nat.le_of_ble_eq_true rfl)⟩) (pv8 hP hK hD hC hS (rv8_8 hK hP)) rfl rfl hl.1 rfl (lv_room (Nat.le_of_ble_eq_true rfl)) dX8_range_6 ⟨Nat.le_of_ble_eq_true rfl, Nat.le_of_ble_eq_true rfl⟩) hS (fun q _ h => up8 hS q h) (up8 hS) (fun r1 σ2 tS H1 locs ht hvm hw3 hB hz1 hk1 hS => ?_)
  have hP : va_P D clz (WD8 cy g σ2) H1 := by rw [← ht]; exact hB
  clear hB hz1 hk1 hvm ht
  generalize H1 = H at hP hS ⊢
  have hF4 : Fr (fO [9]) σ σ2 := hw3.1
  have hJ5 : J8 σ2 := hw3.2.1
  have b6 : (0 : Int) ≤ r1.toInt ∧ r1.toInt ≤ 1 := hw3.2.2.1
  refine lv_if_eq (tgt := 21) hx hb dX8_range_9 (by decide) (fun c7 => ?_) (fun c7 => ?_)
  ·
    have k8 := peq32 c7
    refine lv_bipush (v := (-2)) hx hb dX8_range_21 (by decide) ?_
    exact W.iret (v := (-2)) hx hb hr (fun tS ht hW => ⟨⟨(-2), σ2, rfl, ⟨Fr.tr (Fr.rf) hF4 (fO_sub (fun _ q => q)), hJ5, trivial⟩, (show va_P D clz (WD8 cy g σ2) tS.heap by rw [ht]; exact hP)⟩, hS.F ht⟩) hS.2.2 dX8_range_23
  ·
    have k9 := neq32 c7
    refine lv_iload_n hx hb dX8_range_12 rfl (lv_at hl 2 rfl) ?_
    refine lv_if_lt (tgt := 21) hx hb dX8_range_13 (by decide) (fun c10 => ?_) (fun c10 => ?_)
    ·
      have k11 := plt32 c10
      refine lv_bipush (v := (-2)) hx hb dX8_range_21 (by decide) ?_
      exact W.iret (v := (-2)) hx hb hr (fun tS ht hW => ⟨⟨(-2), σ2, rfl, ⟨Fr.tr (Fr.rf) hF4 (fO_sub (fun _ q => q)), hJ5, trivial⟩, (show va_P D clz (WD8 cy g σ2) tS.heap by rw [ht]; exact hP)⟩, hS.F ht⟩) hS.2.2 dX8_range_23
    ·
      have k12 := nlt32 c10
      refine lv_iload_n hx hb dX8_range_16 rfl (lv_at hl 2 rfl) ?_
      refine lv_iconst (v := 2) hx hb dX8_range_17 (by decide) ?_
      refine lv_icmp_le (tgt := 24) hx hb dX8_range_18 (by decide) (fun c13 => ?_) (fun c13 => ?_)
      ·
        have k14 := ple32 c13
        refine lv_iconst (v := (-1)) hx hb dX8_range_24 (by decide) ?_
        refine lv_istore_n (lv' := [(3, .int (-1)), (0, .ref (gO g 17)), (1, .int p1), (2, .int p2)]) hx hb dX8_range_25 rfl hl (by decide) rfl (fun ls hl => ?_)
        refine lv_iconst (v := (-1)) hx hb dX8_range_26 (by decide) ?_
        refine lv_istore (lv' := [(4, .int (-1)), (3, .int (-1)), (0, .ref (gO g 17)), (1, .int p1), (2, .int p2)]) hx hb dX8_range_27 hl (by decide) rfl (fun ls hl => ?_)
        refine lv_iconst (v := 0) hx hb dX8_range_29 (by decide) ?_
        refine lv_istore (lv' := [(5, .int 0), (4, .int (-1)), (3, .int (-1)), (0, .ref (gO g 17)), (1, .int p1), (2, .int p2)]) hx hb dX8_range_30 hl (by decide) rfl (fun ls hl => ?_)
        refine lv_iconst (v := 0) hx hb dX8_range_32 (by decide) ?_
        refine lv_istore (lv' := [(6, .int 0), (5, .int 0), (4, .int (-1)), (3, .int (-1)), (0, .ref (gO g 17)), (1, .int p1), (2, .int p2)]) hx hb dX8_range_33 hl (by decide) rfl (fun ls hl => ?_)
        refine loop8 7 35 (fun x : LZ => [(6, .int (x.2.1 0)), (5, .int (x.2.1 1)), (4, .int (x.2.1 2)), (3, .int (x.2.1 3)), (0, .ref (gO g 17)), (1, .int p1), (2, .int p2)]) (fun x : LZ => (x.1 = σ2) ∧ ((0 : Int) ≤ (x.2.1 0).toInt ∧ (x.2.1 0).toInt ≤ 61) ∧ ((-1 : Int) ≤ (x.2.1 2).toInt ∧ (x.2.1 2).toInt ≤ 60) ∧ ((-1 : Int) ≤ (x.2.1 3).toInt ∧ (x.2.1 3).toInt ≤ 60) ∧ True) (fun x : LZ => ((62 : Int) - (x.2.1 0).toInt).toNat) ?_ (σ2, lf [0, 0, (-1), (-1)], lg []) ⟨rfl, (show (0 : Int) ≤ (0 : Int32).toInt ∧ (0 : Int32).toInt ≤ 61 from (by have z0 : (0 : Int32).toInt = 0 := (by decide); omega)), (show (-1 : Int) ≤ ((-1) : Int32).toInt ∧ ((-1) : Int32).toInt ≤ 60 from (by have zm1 : ((-1) : Int32).toInt = (-1) := (by decide); omega)), (show (-1 : Int) ≤ ((-1) : Int32).toInt ∧ ((-1) : Int32).toInt ≤ 60 from (by have zm1 : ((-1) : Int32).toInt = (-1) := (by decide); omega)), trivial⟩ _ _ _ hP hS (lv_sub hl [0, 1, 2, 3, 4, 5, 6] rfl)
        intro y17 hI16 nl15 H locs ls hP hS hl
        rw [show y17.1 = σ2 from hI16.1] at hP
        have b18 : (0 : Int) ≤ (y17.2.1 0).toInt ∧ (y17.2.1 0).toInt ≤ 61 := hI16.2.1
        have b19 : (-1 : Int) ≤ (y17.2.1 2).toInt ∧ (y17.2.1 2).toInt ≤ 60 := hI16.2.2.1
        have b20 : (-1 : Int) ≤ (y17.2.1 3).toInt ∧ (y17.2.1 3).toInt ≤ 60 := hI16.2.2.2.1
        have hl : lv_has ls 7 [(6, .int (y17.2.1 0)), (5, .int (y17.2.1 1)), (4, .int (y17.2.1 2)), (3, .int (y17.2.1 3)), (0, .ref (gO g 17)), (1, .int p1), (2, .int p2)] := hl
        refine lv_iload hx hb dX8_range_35 (lv_at hl 0 rfl) ?_
        refine lv_bipush (v := 60) hx hb dX8_range_37 (by decide) ?_
        refine lv_icmp_gt (tgt := 86) hx hb dX8_range_39 (by decide) (fun c21 => ?_) (fun c21 => ?_)
        ·
          have k22 := plt32 c21
          refine lv_iload_n hx hb dX8_range_86 rfl (lv_at hl 6 rfl) ?_
          refine lv_if_eq (tgt := 95) hx hb dX8_range_87 (by decide) (fun c23 => ?_) (fun c23 => ?_)
          ·
            have k24 := peq32 c23
            refine lv_iload_n hx hb dX8_range_95 rfl (lv_at hl 3 rfl) ?_
            exact W.iret (v := (y17.2.1 3)) hx hb hr (fun tS ht hW => ⟨⟨(y17.2.1 3), σ2, rfl, ⟨Fr.tr (Fr.rf) hF4 (fO_sub (fun _ q => q)), hJ5, trivial⟩, (show va_P D clz (WD8 cy g σ2) tS.heap by rw [ht]; exact hP)⟩, hS.F ht⟩) hS.2.2 dX8_range_96
          ·
            have k25 := neq32 c23
            refine lv_iload_n hx hb dX8_range_90 rfl (lv_at hl 3 rfl) ?_
            refine lv_iconst (v := (-1)) hx hb dX8_range_91 (by decide) ?_
            refine lv_icmp_ne (tgt := 97) hx hb dX8_range_92 (by decide) (fun c26 => ?_) (fun c26 => ?_)
            ·
              have k27 := neq32 c26
              refine lv_iload_n hx hb dX8_range_97 rfl (lv_at hl 6 rfl) ?_
              refine lv_iconst (v := 1) hx hb dX8_range_98 (by decide) ?_
              refine lv_icmp_ne (tgt := 107) hx hb dX8_range_99 (by decide) (fun c28 => ?_) (fun c28 => ?_)
              ·
                have k29 := neq32 c28
                refine lv_iload hx hb dX8_range_107 (lv_at hl 2 rfl) ?_
                refine lv_iload_n hx hb dX8_range_109 rfl (lv_at hl 3 rfl) ?_
                refine lv_isub hx hb dX8_range_110 ?_
                refine lv_topi (fun x30 ex30 => ?_)
                have t31 := subO ex30 (by have f0 := b19; have f1 := b20; have f2 := k27; have g0 := rg32 (y17.2.1 2); have g1 := rg32 (y17.2.1 3); have zm1 : ((-1) : Int32).toInt = (-1) := (by decide); omega)
                refine lv_iconst (v := 1) hx hb dX8_range_111 (by decide) ?_
                refine lv_iadd hx hb dX8_range_112 ?_
                refine lv_topi (fun x32 ex32 => ?_)
                have t33 := addO ex32 (by have f0 := t31; have f1 := b19; have f2 := b20; have f3 := k27; have g0 := rg32 x30; have zm1 : ((-1) : Int32).toInt = (-1) := (by decide); have z1 : (1 : Int32).toInt = 1 := (by decide); omega)
                refine lv_iload hx hb dX8_range_113 (lv_at hl 1 rfl) ?_
                refine lv_isub hx hb dX8_range_115 ?_
                refine lv_topi (fun x34 ex34 => ?_)
                exact W.iret (v := x34) hx hb hr (fun tS ht hW => ⟨⟨x34, σ2, rfl, ⟨Fr.tr (Fr.rf) hF4 (fO_sub (fun _ q => q)), hJ5, trivial⟩, (show va_P D clz (WD8 cy g σ2) tS.heap by rw [ht]; exact hP)⟩, hS.F ht⟩) hS.2.2 dX8_range_116
              ·
                have k35 := peq32 c28
                refine lv_iload hx hb dX8_range_102 (lv_at hl 2 rfl) ?_
                refine lv_goto (tgt := 116) hx hb dX8_range_104 (by decide) ?_
                exact W.iret (v := (y17.2.1 2)) hx hb hr (fun tS ht hW => ⟨⟨(y17.2.1 2), σ2, rfl, ⟨Fr.tr (Fr.rf) hF4 (fO_sub (fun _ q => q)), hJ5, trivial⟩, (show va_P D clz (WD8 cy g σ2) tS.heap by rw [ht]; exact hP)⟩, hS.F ht⟩) hS.2.2 dX8_range_116
            ·
              have k36 := peq32 c26
              refine lv_iload_n hx hb dX8_range_95 rfl (lv_at hl 3 rfl) ?_
              exact W.iret (v := (y17.2.1 3)) hx hb hr (fun tS ht hW => ⟨⟨(y17.2.1 3), σ2, rfl, ⟨Fr.tr (Fr.rf) hF4 (fO_sub (fun _ q => q)), hJ5, trivial⟩, (show va_P D clz (WD8 cy g σ2) tS.heap by rw [ht]; exact hP)⟩, hS.F ht⟩) hS.2.2 dX8_range_96
        ·
          have k37 := nlt32 c21
          refine lv_aload_n hx hb dX8_range_42 rfl (lv_at hl 4 rfl) ?_
          refine g8_8_6 hx hb hts hown hK hP (hts _ q440) dX8_range_43 ?_
          refine lv_iload hx hb dX8_range_46 (lv_at hl 0 rfl) ?_
          refine lv_aload_n hx hb dX8_range_48 rfl (lv_at hl 4 rfl) ?_
          obtain ⟨dx38, edx38⟩ : ∃ z : Nat, ((σ 17).1 1).toInt.toNat = z := ⟨_, rfl⟩
          have hdx38 : 0 ≤ dx38 ∧ dx38 < 5 := mnow (by have f0 := j8_8_1 hJ rfl; omega) edx38
          refine g8_8_1 (o := dx38) hx hb hts hown hK hP ((congrArg (fun z : Int32 => z.toInt.toNat) ((hF4 17 1 (fO_n (nmc (by decide) nm0))).1)).trans edx38) (hts _ q435) dX8_range_49 ?_
          refine g8_0_0 (x := ((σ dx38).1 0)) hx hb hts hown hK hP hdx38 ((hF4 dx38 0 (fO_n (nmc (nel hdx38 (by decide)) nm0))).1) (hts _ q194) dX8_range_52 ?_
          refine va_calli (va_runV (As := [.int (y17.2.1 0), .int ((σ dx38).1 0)]) (rest := []) ⟨hx, hb, hml, hown, hts⟩ (m_X7_countWays l D cy g σ2  9 (y17.2.1 0) ((σ dx38).1 0) _ hJ5 (show 9 ≤ 9 ∧ 9 < 12 from ⟨by decide, by decide⟩)) (cwV 2 hts (gd_V q872 q873 q874 q128 q875) rfl rfl rfl (by decide +kernel) ⟨(Nat.le_of_ble_eq_true rfl), (Nat.le_of_ble_eq_true rfl)⟩) (pv8 hP hK hD hC hS (rv8_7 hK hP (by decide : 9 ≤ 9 ∧ 9 < 12))) rfl rfl hl.1 rfl (lv_room (Nat.le_of_ble_eq_true rfl)) dX8_range_55 ⟨Nat.le_of_ble_eq_true rfl, Nat.le_of_ble_eq_true rfl⟩) hS (fun q _ h => up8 hS q h) (up8 hS) (fun r39 σ40 tS H1 locs ht hvm hw41 hB hz1 hk1 hS => ?_)
          have hP : va_P D clz (WD8 cy g σ40) H1 := by rw [← ht]; exact hB
          clear hB hz1 hk1 hvm ht
          generalize H1 = H at hP hS ⊢
          have hw41E : σ2 = σ40 := (hw41.1).symm
          subst hw41E
          refine cut8 (D := D) (cy := cy) (g := g) (A := A8 cy g s.heap.size) (H0 := s.heap) 7 80 (fun x : LZ => [(6, .int (y17.2.1 0)), (5, .int (x.2.1 0)), (4, .int (x.2.1 1)), (3, .int (x.2.1 2)), (0, .ref (gO g 17)), (1, .int p1), (2, .int p2)]) (fun x : LZ => []) (fun x : LZ => (x.1 = σ2) ∧ ((-1 : Int) ≤ (x.2.1 1).toInt ∧ (x.2.1 1).toInt ≤ 60) ∧ ((-1 : Int) ≤ (x.2.1 2).toInt ∧ (x.2.1 2).toInt ≤ 60) ∧ True) ?_ ?_
          ·
            intro y44 hI43 H locs ls hP hS hl
            rw [show y44.1 = σ2 from hI43.1] at hP
            have b45 : (-1 : Int) ≤ (y44.2.1 1).toInt ∧ (y44.2.1 1).toInt ≤ 60 := hI43.2.1
            have b46 : (-1 : Int) ≤ (y44.2.1 2).toInt ∧ (y44.2.1 2).toInt ≤ 60 := hI43.2.2.1
            have hl : lv_has ls 7 [(6, .int (y17.2.1 0)), (5, .int (y44.2.1 0)), (4, .int (y44.2.1 1)), (3, .int (y44.2.1 2)), (0, .ref (gO g 17)), (1, .int p1), (2, .int p2)] := hl
            obtain ⟨x47, ex47⟩ : ∃ y : Int32, y = (y17.2.1 0) + 1 := ⟨_, rfl⟩
            have t48 := addO ex47 (by have f0 := b18; have f1 := k37; have g0 := rg32 (y17.2.1 0); have z1 : (1 : Int32).toInt = 1 := (by decide); have z60 : (60 : Int32).toInt = 60 := (by decide); omega)
            refine lv_iinc (v := x47) (lv' := [(6, .int x47), (5, .int (y44.2.1 0)), (4, .int (y44.2.1 1)), (3, .int (y44.2.1 2)), (0, .ref (gO g 17)), (1, .int p1), (2, .int p2)]) hx hb dX8_range_80 hl (k := 0) rfl (by rw [ex47]; rfl) (by decide) rfl (fun ls hl => ?_)
            refine lv_goto (tgt := 35) hx hb dX8_range_83 (by decide) ?_
            have t49 : ((62 : Int) - x47.toInt).toNat < ((62 : Int) - (y17.2.1 0).toInt).toNat := (by have f0 := b18; have f1 := k37; have f2 := t48; have g0 := rg32 (y17.2.1 0); have g1 := rg32 x47; have z1 : (1 : Int32).toInt = 1 := (by decide); have z60 : (60 : Int32).toInt = 60 := (by decide); omega)
            exact nl15 (σ2, lf [x47, (y44.2.1 0), (y44.2.1 1), (y44.2.1 2)], lg []) ⟨rfl, (show (0 : Int) ≤ (x47 : Int32).toInt ∧ (x47 : Int32).toInt ≤ 61 from (by have f0 := t48; have f1 := b18; have f2 := k37; have g0 := rg32 x47; have z1 : (1 : Int32).toInt = 1 := (by decide); have z60 : (60 : Int32).toInt = 60 := (by decide); omega)), (show (-1 : Int) ≤ ((y44.2.1 1) : Int32).toInt ∧ ((y44.2.1 1) : Int32).toInt ≤ 60 from (by have f0 := b45; have g0 := rg32 (y44.2.1 1); omega)), (show (-1 : Int) ≤ ((y44.2.1 2) : Int32).toInt ∧ ((y44.2.1 2) : Int32).toInt ≤ 60 from (by have f0 := b46; have g0 := rg32 (y44.2.1 2); omega)), trivial⟩ (show ((62 : Int) - x47.toInt).toNat < _ from t49) _ _ _ hP hS (lv_sub hl [0, 1, 2, 3, 4, 5, 6] rfl)
          ·
            intro nj42
            refine lv_if_le (tgt := 80) hx hb dX8_range_58 (by decide) (fun c50 => ?_) (fun c50 => ?_)
            ·
              have k51 := ple32 c50
              exact nj42 (σ2, lf [(y17.2.1 1), (y17.2.1 2), (y17.2.1 3)], lg []) ⟨rfl, (show (-1 : Int) ≤ ((y17.2.1 2) : Int32).toInt ∧ ((y17.2.1 2) : Int32).toInt ≤ 60 from (by have f0 := b19; have g0 := rg32 (y17.2.1 2); omega)), (show (-1 : Int) ≤ ((y17.2.1 3) : Int32).toInt ∧ ((y17.2.1 3) : Int32).toInt ≤ 60 from (by have f0 := b20; have g0 := rg32 (y17.2.1 3); omega)), trivial⟩ _ _ _ hP hS (lv_sub hl [0, 1, 2, 3, 4, 5, 6] rfl)
            ·
              have k52 := nle32 c50
              refine lv_iload_n hx hb dX8_range_61 rfl (lv_at hl 3 rfl) ?_
              refine lv_iconst (v := (-1)) hx hb dX8_range_62 (by decide) ?_
              refine cut8 (D := D) (cy := cy) (g := g) (A := A8 cy g s.heap.size) (H0 := s.heap) 7 72 (fun x : LZ => [(6, .int (y17.2.1 0)), (5, .int (y17.2.1 1)), (4, .int (y17.2.1 2)), (3, .int (y17.2.1 3)), (0, .ref (gO g 17)), (1, .int p1), (2, .int p2)]) (fun x : LZ => [.int (x.2.1 0)]) (fun x : LZ => (x.1 = σ2) ∧ ((0 : Int) ≤ (x.2.1 0).toInt ∧ (x.2.1 0).toInt ≤ 60) ∧ True) ?_ ?_
              ·
                intro y55 hI54 H locs ls hP hS hl
                rw [show y55.1 = σ2 from hI54.1] at hP
                have b56 : (0 : Int) ≤ (y55.2.1 0).toInt ∧ (y55.2.1 0).toInt ≤ 60 := hI54.2.1
                have hl : lv_has ls 7 [(6, .int (y17.2.1 0)), (5, .int (y17.2.1 1)), (4, .int (y17.2.1 2)), (3, .int (y17.2.1 3)), (0, .ref (gO g 17)), (1, .int p1), (2, .int p2)] := hl
                refine W.eq (g2 := F0 m 72 ls [.int (y55.2.1 0)]) rfl ?_
                refine lv_istore_n (lv' := [(3, .int (y55.2.1 0)), (6, .int (y17.2.1 0)), (5, .int (y17.2.1 1)), (4, .int (y17.2.1 2)), (0, .ref (gO g 17)), (1, .int p1), (2, .int p2)]) hx hb dX8_range_72 rfl hl (by decide) rfl (fun ls hl => ?_)
                refine lv_iload hx hb dX8_range_73 (lv_at hl 1 rfl) ?_
                refine lv_istore (lv' := [(4, .int (y17.2.1 0)), (3, .int (y55.2.1 0)), (6, .int (y17.2.1 0)), (5, .int (y17.2.1 1)), (0, .ref (gO g 17)), (1, .int p1), (2, .int p2)]) hx hb dX8_range_75 hl (by decide) rfl (fun ls hl => ?_)
                obtain ⟨x57, ex57⟩ : ∃ y : Int32, y = (y17.2.1 1) + 1 := ⟨_, rfl⟩
                refine lv_iinc (v := x57) (lv' := [(5, .int x57), (4, .int (y17.2.1 0)), (3, .int (y55.2.1 0)), (6, .int (y17.2.1 0)), (0, .ref (gO g 17)), (1, .int p1), (2, .int p2)]) hx hb dX8_range_77 hl (k := 3) rfl (by rw [ex57]; rfl) (by decide) rfl (fun ls hl => ?_)
                exact nj42 (σ2, lf [x57, (y17.2.1 0), (y55.2.1 0)], lg []) ⟨rfl, (show (-1 : Int) ≤ ((y17.2.1 0) : Int32).toInt ∧ ((y17.2.1 0) : Int32).toInt ≤ 60 from (by have f0 := b18; have f1 := k37; have g0 := rg32 (y17.2.1 0); have z60 : (60 : Int32).toInt = 60 := (by decide); omega)), (show (-1 : Int) ≤ ((y55.2.1 0) : Int32).toInt ∧ ((y55.2.1 0) : Int32).toInt ≤ 60 from (by have f0 := b56; have g0 := rg32 (y55.2.1 0); omega)), trivial⟩ _ _ _ hP hS (lv_sub hl [3, 0, 1, 2, 4, 5, 6] rfl)
              ·
                intro nj53
                refine lv_icmp_ne (tgt := 71) hx hb dX8_range_63 (by decide) (fun c58 => ?_) (fun c58 => ?_)
                ·
                  have k59 := neq32 c58
                  refine lv_iload_n hx hb dX8_range_71 rfl (lv_at hl 3 rfl) ?_
                  exact nj53 (σ2, lf [(y17.2.1 3)], lg []) ⟨rfl, (show (0 : Int) ≤ ((y17.2.1 3) : Int32).toInt ∧ ((y17.2.1 3) : Int32).toInt ≤ 60 from (by have f0 := b20; have f1 := k59; have g0 := rg32 (y17.2.1 3); have zm1 : ((-1) : Int32).toInt = (-1) := (by decide); omega)), trivial⟩ _ _ _ hP hS (lv_sub hl [0, 1, 2, 3, 4, 5, 6] rfl)
                ·
                  have k60 := peq32 c58
                  refine lv_iload hx hb dX8_range_66 (lv_at hl 0 rfl) ?_
                  refine lv_goto (tgt := 72) hx hb dX8_range_68 (by decide) ?_
                  exact nj53 (σ2, lf [(y17.2.1 0)], lg []) ⟨rfl, (show (0 : Int) ≤ ((y17.2.1 0) : Int32).toInt ∧ ((y17.2.1 0) : Int32).toInt ≤ 60 from (by have f0 := b18; have f1 := k37; have g0 := rg32 (y17.2.1 0); have z60 : (60 : Int32).toInt = 60 := (by decide); omega)), trivial⟩ _ _ _ hP hS (lv_sub hl [0, 1, 2, 3, 4, 5, 6] rfl)
      ·
        have k61 := nle32 c13
        refine lv_bipush (v := (-2)) hx hb dX8_range_21 (by decide) ?_
        exact W.iret (v := (-2)) hx hb hr (fun tS ht hW => ⟨⟨(-2), σ2, rfl, ⟨Fr.tr (Fr.rf) hF4 (fO_sub (fun _ q => q)), hJ5, trivial⟩, (show va_P D clz (WD8 cy g σ2) tS.heap by rw [ht]; exact hP)⟩, hS.F ht⟩) hS.2.2 dX8_range_23

