theorem q1216 : Cond.code yX1_leaverOf cX1_leaverOf 2 (some .int) ∈ lw_g := lw_gm (List.mem_of_getElem? (i := 1216) (by decide +kernel)) rfl
theorem dX1_leaverOf_0 : decode cX1_leaverOf 0 = .ok (.iload_n 1, 1) := by decide +kernel
theorem dX1_leaverOf_1 : decode cX1_leaverOf 1 = .ok (.ifCond .lt 26, 3) := by decide +kernel
theorem dX1_leaverOf_4 : decode cX1_leaverOf 4 = .ok (.iload_n 1, 1) := by decide +kernel
theorem dX1_leaverOf_5 : decode cX1_leaverOf 5 = .ok (.aload_n 0, 1) := by decide +kernel
theorem dX1_leaverOf_6 : decode cX1_leaverOf 6 = .ok (.getfield 47, 3) := by decide +kernel
theorem dX1_leaverOf_9 : decode cX1_leaverOf 9 = .ok (.if_icmp .ge 18, 3) := by decide +kernel
theorem dX1_leaverOf_12 : decode cX1_leaverOf 12 = .ok (.iload_n 1, 1) := by decide +kernel
theorem dX1_leaverOf_13 : decode cX1_leaverOf 13 = .ok (.bipush 16, 2) := by decide +kernel
theorem dX1_leaverOf_15 : decode cX1_leaverOf 15 = .ok (.if_icmp .ge 12, 3) := by decide +kernel
theorem dX1_leaverOf_18 : decode cX1_leaverOf 18 = .ok (.aload_n 0, 1) := by decide +kernel
theorem dX1_leaverOf_19 : decode cX1_leaverOf 19 = .ok (.getfield 24, 3) := by decide +kernel
theorem dX1_leaverOf_22 : decode cX1_leaverOf 22 = .ok (.iload_n 1, 1) := by decide +kernel
theorem dX1_leaverOf_23 : decode cX1_leaverOf 23 = .ok (.iaload, 1) := by decide +kernel
theorem dX1_leaverOf_24 : decode cX1_leaverOf 24 = .ok (.goto 4, 3) := by decide +kernel
theorem dX1_leaverOf_27 : decode cX1_leaverOf 27 = .ok (.iconst (-1), 1) := by decide +kernel
theorem dX1_leaverOf_28 : decode cX1_leaverOf 28 = .ok (.ireturn, 1) := by decide +kernel
set_option maxHeartbeats 4000000 in
set_option maxRecDepth 100000 in
theorem m_X1_leaverOf (l : Launch) (D : va_G) (cy : Nat → ClassId) (g : Nat → Nat) (σ : ST) (p1 : Int32) (sz : Nat) (hJ : J8 σ) (h0 : (0 : Int) ≤ p1.toInt ∧ p1.toInt ≤ 15) : Met l yX1_leaverOf (ww yX1_leaverOf cX1_leaverOf 2 (some .int)) ({ frames := 1, cells := 0, slots := 0, locals := 64 }) (va_Pc [.ref (gO g 15), .int p1] (pr8 D cy g σ sz)) (qi8 D cy g sz (fun r τ => τ = σ ∧ True)) 0 0 (A8 cy g sz) := by
  refine Met.ofW (cc := cX1_leaverOf) (maxL := 2) (ret := (some .int)) (by decide) rfl ?_
  intro p e s m args below meth c s₁ B hml hv
  obtain ⟨rfl, hsz, hP, hK, hD0, hC⟩ := hv
  have hx := B.exec
  have hb := B.bytes
  have hr := B.returns
  have hts := hts_g (atoms_spec (ws := ww yX1_leaverOf cX1_leaverOf 2 (some .int)) B.pre)
  have hown : s.vm.findClass RX1 = some m.cls := findClass_of_methodNamed B.named
  have hlocks := B.notSynchronized
  clear B
  subst hsz
  have hD := fun τ => A8_D (sz := s.heap.size) hD0 τ
  clear hD0
  have hS : va_S (A8 cy g s.heap.size) s.heap s.heap [] := va_S.rf
  have hl := lv_entry ([.ref (gO g 15), .int p1]) (n := 2) (Nat.le_of_ble_eq_true rfl)
  rw [lg_entry_eq]
  generalize (lg_sl ([.ref (gO g 15), .int p1]) ++ List.replicate (2 - (lg_sl ([.ref (gO g 15), .int p1])).length) Slot.unset).toArray = ls at hl ⊢
  have hl : lv_has ls 2 [(0, .ref (gO g 15)), (1, .int p1)] := hl
  refine lv_iload_n hx hb dX1_leaverOf_0 rfl (lv_at hl 1 rfl) ?_
  refine lv_if_lt (tgt := 27) hx hb dX1_leaverOf_1 (by decide) (fun c1 => ?_) (fun c1 => ?_)
  ·
    have k2 := plt32 c1
    exact False.elim (by have f0 := h0; have f1 := k2; have g0 := rg32 p1; have z0 : (0 : Int32).toInt = 0 := (by decide); omega)
  ·
    have k3 := nlt32 c1
    refine lv_iload_n hx hb dX1_leaverOf_4 rfl (lv_at hl 1 rfl) ?_
    refine lv_aload_n hx hb dX1_leaverOf_5 rfl (lv_at hl 0 rfl) ?_
    refine g8_1_1 (x := ((σ 15).1 1)) hx hb hts hown hK hP (rfl) (hts _ q368) dX1_leaverOf_6 ?_
    refine lv_icmp_ge (tgt := 27) hx hb dX1_leaverOf_9 (by decide) (fun c4 => ?_) (fun c4 => ?_)
    ·
      have k5 := ple32 c4
      refine lv_iconst (v := (-1)) hx hb dX1_leaverOf_27 (by decide) ?_
      exact W.iret (v := (-1)) hx hb hr (fun tS ht hW => ⟨⟨(-1), σ, rfl, ⟨rfl, trivial⟩, (show va_P D clz (WD8 cy g σ) tS.heap by rw [ht]; exact hP)⟩, hS.F ht⟩) hS.2.2 dX1_leaverOf_28
    ·
      have k6 := nle32 c4
      refine lv_iload_n hx hb dX1_leaverOf_12 rfl (lv_at hl 1 rfl) ?_
      refine lv_bipush (v := 16) hx hb dX1_leaverOf_13 (by decide) ?_
      refine lv_icmp_ge (tgt := 27) hx hb dX1_leaverOf_15 (by decide) (fun c7 => ?_) (fun c7 => ?_)
      ·
        have k8 := ple32 c7
        exact False.elim (by have f0 := h0; have f1 := k3; have f2 := k6; have f3 := k8; have f4 := j8_1_1 hJ rfl; have g0 := rg32 p1; have z0 : (0 : Int32).toInt = 0 := (by decide); have z16 : (16 : Int32).toInt = 16 := (by decide); omega)
      ·
        have k9 := nle32 c7
        refine lv_aload_n hx hb dX1_leaverOf_18 rfl (lv_at hl 0 rfl) ?_
        refine g8_1_7 hx hb hts hown hK hP (hts _ q374) dX1_leaverOf_19 ?_
        refine lv_iload_n hx hb dX1_leaverOf_22 rfl (lv_at hl 1 rfl) ?_
        obtain ⟨x10, ex10⟩ : ∃ z, (σ 15).2.2.1 7 p1.toInt.toNat = z := ⟨_, rfl⟩
        refine l8_1_7 (x := x10) hx hb hK hP (vpo (by have f0 := h0; have f1 := k3; have f2 := k6; have f3 := k9; have f4 := j8_1_1 hJ rfl; have g0 := rg32 p1; have z0 : (0 : Int32).toInt = 0 := (by decide); have z16 : (16 : Int32).toInt = 16 := (by decide); omega)) ex10 dX1_leaverOf_23 ?_
        refine lv_goto (tgt := 28) hx hb dX1_leaverOf_24 (by decide) ?_
        exact W.iret (v := x10) hx hb hr (fun tS ht hW => ⟨⟨x10, σ, rfl, ⟨rfl, trivial⟩, (show va_P D clz (WD8 cy g σ) tS.heap by rw [ht]; exact hP)⟩, hS.F ht⟩) hS.2.2 dX1_leaverOf_28

theorem q1204 : Cond.code yX8_leaves cX8_leaves 4 (some .int) ∈ lw_g := lw_gm (List.mem_of_getElem? (i := 1204) (by decide +kernel)) rfl
theorem q1205 : Cond.methodLink RX8 339 yX1_findOrder ∈ lw_g := lw_gm (List.mem_of_getElem? (i := 1205) (by decide +kernel)) rfl
theorem q1206 : Cond.instanceMethod yX1_findOrder ∈ lw_g := lw_gm (List.mem_of_getElem? (i := 1206) (by decide +kernel)) rfl
theorem q1207 : Cond.selects RX1 yX1_findOrder yX1_findOrder ∈ lw_g := lw_gm (List.mem_of_getElem? (i := 1207) (by decide +kernel)) rfl
theorem q1213 : Cond.methodLink RX8 342 yX1_leaverOf ∈ lw_g := lw_gm (List.mem_of_getElem? (i := 1213) (by decide +kernel)) rfl
theorem q1214 : Cond.instanceMethod yX1_leaverOf ∈ lw_g := lw_gm (List.mem_of_getElem? (i := 1214) (by decide +kernel)) rfl
theorem q1215 : Cond.selects RX1 yX1_leaverOf yX1_leaverOf ∈ lw_g := lw_gm (List.mem_of_getElem? (i := 1215) (by decide +kernel)) rfl
theorem dX8_leaves_0 : decode cX8_leaves 0 = .ok (.aload_n 0, 1) := by decide +kernel
theorem dX8_leaves_1 : decode cX8_leaves 1 = .ok (.iload_n 1, 1) := by decide +kernel
theorem dX8_leaves_2 : decode cX8_leaves 2 = .ok (.invokevirtual 332, 3) := by decide +kernel
theorem dX8_leaves_5 : decode cX8_leaves 5 = .ok (.ifCond .eq 14, 3) := by decide +kernel
theorem dX8_leaves_8 : decode cX8_leaves 8 = .ok (.aload_n 0, 1) := by decide +kernel
theorem dX8_leaves_9 : decode cX8_leaves 9 = .ok (.getfield 19, 3) := by decide +kernel
theorem dX8_leaves_12 : decode cX8_leaves 12 = .ok (.iload_n 2, 1) := by decide +kernel
theorem dX8_leaves_13 : decode cX8_leaves 13 = .ok (.invokevirtual 142, 3) := by decide +kernel
theorem dX8_leaves_16 : decode cX8_leaves 16 = .ok (.ifCond .ne 6, 3) := by decide +kernel
theorem dX8_leaves_19 : decode cX8_leaves 19 = .ok (.bipush (-2), 2) := by decide +kernel
theorem dX8_leaves_21 : decode cX8_leaves 21 = .ok (.ireturn, 1) := by decide +kernel
theorem dX8_leaves_22 : decode cX8_leaves 22 = .ok (.aload_n 0, 1) := by decide +kernel
theorem dX8_leaves_23 : decode cX8_leaves 23 = .ok (.getfield 19, 3) := by decide +kernel
theorem dX8_leaves_26 : decode cX8_leaves 26 = .ok (.iload_n 2, 1) := by decide +kernel
theorem dX8_leaves_27 : decode cX8_leaves 27 = .ok (.iload_n 3, 1) := by decide +kernel
theorem dX8_leaves_28 : decode cX8_leaves 28 = .ok (.invokevirtual 308, 3) := by decide +kernel
theorem dX8_leaves_31 : decode cX8_leaves 31 = .ok (.ifCond .ne 5, 3) := by decide +kernel
theorem dX8_leaves_34 : decode cX8_leaves 34 = .ok (.iconst (-1), 1) := by decide +kernel
theorem dX8_leaves_35 : decode cX8_leaves 35 = .ok (.ireturn, 1) := by decide +kernel
theorem dX8_leaves_36 : decode cX8_leaves 36 = .ok (.aload_n 0, 1) := by decide +kernel
theorem dX8_leaves_37 : decode cX8_leaves 37 = .ok (.getfield 67, 3) := by decide +kernel
theorem dX8_leaves_40 : decode cX8_leaves 40 = .ok (.aload_n 0, 1) := by decide +kernel
theorem dX8_leaves_41 : decode cX8_leaves 41 = .ok (.getfield 19, 3) := by decide +kernel
theorem dX8_leaves_44 : decode cX8_leaves 44 = .ok (.iload_n 1, 1) := by decide +kernel
theorem dX8_leaves_45 : decode cX8_leaves 45 = .ok (.iload_n 2, 1) := by decide +kernel
theorem dX8_leaves_46 : decode cX8_leaves 46 = .ok (.invokevirtual 335, 3) := by decide +kernel
theorem dX8_leaves_49 : decode cX8_leaves 49 = .ok (.aload_n 0, 1) := by decide +kernel
theorem dX8_leaves_50 : decode cX8_leaves 50 = .ok (.getfield 67, 3) := by decide +kernel
theorem dX8_leaves_53 : decode cX8_leaves 53 = .ok (.invokevirtual 339, 3) := by decide +kernel
theorem dX8_leaves_56 : decode cX8_leaves 56 = .ok (.ifCond .eq 14, 3) := by decide +kernel
theorem dX8_leaves_59 : decode cX8_leaves 59 = .ok (.aload_n 0, 1) := by decide +kernel
theorem dX8_leaves_60 : decode cX8_leaves 60 = .ok (.getfield 67, 3) := by decide +kernel
theorem dX8_leaves_63 : decode cX8_leaves 63 = .ok (.iload_n 3, 1) := by decide +kernel
theorem dX8_leaves_64 : decode cX8_leaves 64 = .ok (.invokevirtual 342, 3) := by decide +kernel
theorem dX8_leaves_67 : decode cX8_leaves 67 = .ok (.goto 4, 3) := by decide +kernel
theorem dX8_leaves_70 : decode cX8_leaves 70 = .ok (.iconst (-1), 1) := by decide +kernel
theorem dX8_leaves_71 : decode cX8_leaves 71 = .ok (.ireturn, 1) := by decide +kernel
set_option maxHeartbeats 4000000 in
set_option maxRecDepth 100000 in
theorem m_X8_leaves (l : Launch) (D : va_G) (cy : Nat → ClassId) (g : Nat → Nat) (σ : ST) (p1 : Int32) (p2 : Int32) (p3 : Int32) (sz : Nat) (hJ : J8 σ)  : Met l yX8_leaves (ww yX8_leaves cX8_leaves 4 (some .int)) ({ frames := 38, cells := 0, slots := 0, locals := 2432 }) (va_Pc [.ref (gO g 17), .int p1, .int p2, .int p3] (pr8 D cy g σ sz)) (qi8 D cy g sz (fun r τ => Fr (fO [15]) σ τ ∧ J8 τ ∧ True)) 0 0 (A8 cy g sz) := by
  refine Met.ofW (cc := cX8_leaves) (maxL := 4) (ret := (some .int)) (by decide) rfl ?_
  intro p e s m args below meth c s₁ B hml hv
  obtain ⟨rfl, hsz, hP, hK, hD0, hC⟩ := hv
  have hx := B.exec
  have hb := B.bytes
  have hr := B.returns
  have hts := hts_g (atoms_spec (ws := ww yX8_leaves cX8_leaves 4 (some .int)) B.pre)
  have hown : s.vm.findClass RX8 = some m.cls := findClass_of_methodNamed B.named
  have hlocks := B.notSynchronized
  clear B
  subst hsz
  have hD := fun τ => A8_D (sz := s.heap.size) hD0 τ
  clear hD0
  have hS : va_S (A8 cy g s.heap.size) s.heap s.heap [] := va_S.rf
  have hl := lv_entry ([.ref (gO g 17), .int p1, .int p2, .int p3]) (n := 4) (Nat.le_of_ble_eq_true rfl)
  rw [lg_entry_eq]
  generalize (lg_sl ([.ref (gO g 17), .int p1, .int p2, .int p3]) ++ List.replicate (4 - (lg_sl ([.ref (gO g 17), .int p1, .int p2, .int p3])).length) Slot.unset).toArray = ls at hl ⊢
  have hl : lv_has ls 4 [(0, .ref (gO g 17)), (1, .int p1), (2, .int p2), (3, .int p3)] := hl
  refine lv_aload_n hx hb dX8_leaves_0 rfl (lv_at hl 0 rfl) ?_
  refine lv_iload_n hx hb dX8_leaves_1 rfl (lv_at hl 1 rfl) ?_
  refine va_calli (va_runV (As := [.int p1]) (rest := []) ⟨hx, hb, hml, hown, hts⟩ (m_X8_isDouble l D cy g σ  p1 _ hJ ) (cwV 1 hts (gd_V q1164 q1166 q38 q125 q1167) rfl rfl rfl (by decide +kernel) ⟨(Nat.le_of_ble_eq_true rfl), (Nat.le_of_ble_eq_true rfl)⟩) (pv8 hP hK hD hC hS (rv8_8 hK hP)) rfl rfl hl.1 rfl (lv_room (Nat.le_of_ble_eq_true rfl)) dX8_leaves_2 ⟨Nat.le_of_ble_eq_true rfl, Nat.le_of_ble_eq_true rfl⟩) hS (fun q _ h => up8 hS q h) (up8 hS) (fun r1 σ2 tS H1 locs ht hvm hw3 hB hz1 hk1 hS => ?_)
  have hP : va_P D clz (WD8 cy g σ2) H1 := by rw [← ht]; exact hB
  clear hB hz1 hk1 hvm ht
  generalize H1 = H at hP hS ⊢
  have hw3E : σ = σ2 := (hw3.1).symm
  subst hw3E
  have b4 : (0 : Int) ≤ r1.toInt ∧ r1.toInt ≤ 1 := hw3.2.1
  refine lv_if_eq (tgt := 19) hx hb dX8_leaves_5 (by decide) (fun c5 => ?_) (fun c5 => ?_)
  ·
    have k6 := peq32 c5
    refine lv_bipush (v := (-2)) hx hb dX8_leaves_19 (by decide) ?_
    exact W.iret (v := (-2)) hx hb hr (fun tS ht hW => ⟨⟨(-2), σ, rfl, ⟨Fr.rf, hJ, trivial⟩, (show va_P D clz (WD8 cy g σ) tS.heap by rw [ht]; exact hP)⟩, hS.F ht⟩) hS.2.2 dX8_leaves_21
  ·
    have k7 := neq32 c5
    refine lv_aload_n hx hb dX8_leaves_8 rfl (lv_at hl 0 rfl) ?_
    obtain ⟨dx8, edx8⟩ : ∃ z : Nat, ((σ 17).1 1).toInt.toNat = z := ⟨_, rfl⟩
    have hdx8 : 0 ≤ dx8 ∧ dx8 < 5 := mnow (by have f0 := j8_8_1 hJ rfl; omega) edx8
    refine g8_8_1 (o := dx8) hx hb hts hown hK hP edx8 (hts _ q435) dX8_leaves_9 ?_
    refine lv_iload_n hx hb dX8_leaves_12 rfl (lv_at hl 2 rfl) ?_
    refine va_calli (va_runV (As := [.int p2]) (rest := []) ⟨hx, hb, hml, hown, hts⟩ (m_X0_hasPart l D cy g σ  dx8 p2 _ hJ (show 0 ≤ dx8 ∧ dx8 < 5 from hdx8)) (cwV 1 hts (gd_V q738 q649 q650 q127 q651) rfl rfl rfl (by decide +kernel) ⟨(Nat.le_of_ble_eq_true rfl), (Nat.le_of_ble_eq_true rfl)⟩) (pv8 hP hK hD hC hS (rv8_0 hK hP hdx8)) rfl rfl hl.1 rfl (lv_room (Nat.le_of_ble_eq_true rfl)) dX8_leaves_13 ⟨Nat.le_of_ble_eq_true rfl, Nat.le_of_ble_eq_true rfl⟩) hS (fun q _ h => up8 hS q h) (up8 hS) (fun r9 σ10 tS H1 locs ht hvm hw11 hB hz1 hk1 hS => ?_)
    have hP : va_P D clz (WD8 cy g σ10) H1 := by rw [← ht]; exact hB
    clear hB hz1 hk1 hvm ht
    generalize H1 = H at hP hS ⊢
    have hw11E : σ = σ10 := (hw11.1).symm
    subst hw11E
    have b12 : (0 : Int) ≤ r9.toInt ∧ r9.toInt ≤ 1 := hw11.2.1
    have b13 : (r9.toInt = 0) ∨ ((0 : Int) ≤ p2.toInt ∧ p2.toInt ≤ 2) := hw11.2.2.1
    refine lv_if_ne (tgt := 22) hx hb dX8_leaves_16 (by decide) (fun c14 => ?_) (fun c14 => ?_)
    ·
      have k15 := neq32 c14
      refine lv_aload_n hx hb dX8_leaves_22 rfl (lv_at hl 0 rfl) ?_
      refine g8_8_1 (o := dx8) hx hb hts hown hK hP edx8 (hts _ q435) dX8_leaves_23 ?_
      refine lv_iload_n hx hb dX8_leaves_26 rfl (lv_at hl 2 rfl) ?_
      refine lv_iload_n hx hb dX8_leaves_27 rfl (lv_at hl 3 rfl) ?_
      refine va_calli (va_runV (As := [.int p2, .int p3]) (rest := []) ⟨hx, hb, hml, hown, hts⟩ (m_X0_hasTone l D cy g σ  dx8 p2 p3 _ hJ (show 0 ≤ dx8 ∧ dx8 < 5 from hdx8)) (cwV 2 hts (gd_V q1133 q665 q666 q127 q667) rfl rfl rfl (by decide +kernel) ⟨(Nat.le_of_ble_eq_true rfl), (Nat.le_of_ble_eq_true rfl)⟩) (pv8 hP hK hD hC hS (rv8_0 hK hP hdx8)) rfl rfl hl.1 rfl (lv_room (Nat.le_of_ble_eq_true rfl)) dX8_leaves_28 ⟨Nat.le_of_ble_eq_true rfl, Nat.le_of_ble_eq_true rfl⟩) hS (fun q _ h => up8 hS q h) (up8 hS) (fun r16 σ17 tS H1 locs ht hvm hw18 hB hz1 hk1 hS => ?_)
      have hP : va_P D clz (WD8 cy g σ17) H1 := by rw [← ht]; exact hB
      clear hB hz1 hk1 hvm ht
      generalize H1 = H at hP hS ⊢
      have hw18E : σ = σ17 := (hw18.1).symm
      subst hw18E
      have b19 : (0 : Int) ≤ r16.toInt ∧ r16.toInt ≤ 1 := hw18.2.1
      have b20 : (r16.toInt = 0) ∨ ((0 : Int) ≤ p2.toInt ∧ p2.toInt ≤ 2 ∧ (0 : Int) ≤ p3.toInt ∧ p3.toInt ≤ 15) := hw18.2.2.1
      refine lv_if_ne (tgt := 36) hx hb dX8_leaves_31 (by decide) (fun c21 => ?_) (fun c21 => ?_)
      ·
        have k22 := neq32 c21
        refine lv_aload_n hx hb dX8_leaves_36 rfl (lv_at hl 0 rfl) ?_
        refine g8_8_10 hx hb hts hown hK hP (hts _ q444) dX8_leaves_37 ?_
        refine lv_aload_n hx hb dX8_leaves_40 rfl (lv_at hl 0 rfl) ?_
        refine g8_8_1 (o := dx8) hx hb hts hown hK hP edx8 (hts _ q435) dX8_leaves_41 ?_
        refine lv_iload_n hx hb dX8_leaves_44 rfl (lv_at hl 1 rfl) ?_
        refine lv_iload_n hx hb dX8_leaves_45 rfl (lv_at hl 2 rfl) ?_
        refine va_callv (va_runV (As := [.ref (gO g dx8), .int p1, .int p2]) (rest := []) ⟨hx, hb, hml, hown, hts⟩ (m_X1_aim l D cy g σ  dx8 p1 p2 _ hJ (show 0 ≤ dx8 ∧ dx8 < 5 from hdx8) (show (0 : Int) ≤ p2.toInt ∧ p2.toInt ≤ 2 from (by have f0 := b13; have f1 := b20; have f2 := b12; have f3 := k15; have f4 := b19; have f5 := k22; have g0 := rg32 p2; have z0 : (0 : Int32).toInt = 0 := (by decide); omega))) (cwV 3 hts (gd_V q1169 q1170 q1171 q131 q1172) rfl rfl rfl (by decide +kernel) ⟨(Nat.le_of_ble_eq_true rfl), (Nat.le_of_ble_eq_true rfl)⟩) (pv8 hP hK hD hC hS (rv8_1 hK hP)) rfl rfl hl.1 rfl (lv_room (Nat.le_of_ble_eq_true rfl)) dX8_leaves_46 ⟨Nat.le_of_ble_eq_true rfl, Nat.le_of_ble_eq_true rfl⟩) hS (fun q _ h => up8 hS q h) (up8 hS) (fun σ24 tS H1 locs ht hvm hw25 hB hz1 hk1 hS => ?_)
        have hP : va_P D clz (WD8 cy g σ24) H1 := by rw [← ht]; exact hB
        clear hB hz1 hk1 hvm ht
        generalize H1 = H at hP hS ⊢
        have hF26 : Fr (fO [15]) σ σ24 := hw25.1
        have hJ27 : J8 σ24 := hw25.2.1
        refine lv_aload_n hx hb dX8_leaves_49 rfl (lv_at hl 0 rfl) ?_
        refine g8_8_10 hx hb hts hown hK hP (hts _ q444) dX8_leaves_50 ?_
        refine va_calli (va_runV (As := []) (rest := []) ⟨hx, hb, hml, hown, hts⟩ (m_X1_findOrder l D cy g σ24   _ hJ27 ) (cwV 0 hts (gd_V q1205 q1206 q1207 q131 q1208) rfl rfl rfl (by decide +kernel) ⟨(Nat.le_of_ble_eq_true rfl), (Nat.le_of_ble_eq_true rfl)⟩) (pv8 hP hK hD hC hS (rv8_1 hK hP)) rfl rfl hl.1 rfl (lv_room (Nat.le_of_ble_eq_true rfl)) dX8_leaves_53 ⟨Nat.le_of_ble_eq_true rfl, Nat.le_of_ble_eq_true rfl⟩) hS (fun q _ h => up8 hS q h) (up8 hS) (fun r28 σ29 tS H1 locs ht hvm hw30 hB hz1 hk1 hS => ?_)
        have hP : va_P D clz (WD8 cy g σ29) H1 := by rw [← ht]; exact hB
        clear hB hz1 hk1 hvm ht
        generalize H1 = H at hP hS ⊢
        have hF31 : Fr (fO [15]) σ24 σ29 := hw30.1
        have hJ32 : J8 σ29 := hw30.2.1
        have b33 : (0 : Int) ≤ r28.toInt ∧ r28.toInt ≤ 1 := hw30.2.2.1
        refine lv_if_eq (tgt := 70) hx hb dX8_leaves_56 (by decide) (fun c34 => ?_) (fun c34 => ?_)
        ·
          have k35 := peq32 c34
          refine lv_iconst (v := (-1)) hx hb dX8_leaves_70 (by decide) ?_
          exact W.iret (v := (-1)) hx hb hr (fun tS ht hW => ⟨⟨(-1), σ29, rfl, ⟨Fr.tr (Fr.tr (Fr.rf) hF26 (fO_sub (fun _ q => q))) hF31 (fO_sub (fun _ q => q)), hJ32, trivial⟩, (show va_P D clz (WD8 cy g σ29) tS.heap by rw [ht]; exact hP)⟩, hS.F ht⟩) hS.2.2 dX8_leaves_71
        ·
          have k36 := neq32 c34
          refine lv_aload_n hx hb dX8_leaves_59 rfl (lv_at hl 0 rfl) ?_
          refine g8_8_10 hx hb hts hown hK hP (hts _ q444) dX8_leaves_60 ?_
          refine lv_iload_n hx hb dX8_leaves_63 rfl (lv_at hl 3 rfl) ?_
          refine va_calli (va_runV (As := [.int p3]) (rest := []) ⟨hx, hb, hml, hown, hts⟩ (m_X1_leaverOf l D cy g σ29  p3 _ hJ32 (show (0 : Int) ≤ p3.toInt ∧ p3.toInt ≤ 15 from (by have f0 := b20; have f1 := b13; have f2 := b19; have f3 := k22; have f4 := b12; have f5 := k15; have g0 := rg32 p3; have z0 : (0 : Int32).toInt = 0 := (by decide); omega))) (cwV 1 hts (gd_V q1213 q1214 q1215 q131 q1216) rfl rfl rfl (by decide +kernel) ⟨(Nat.le_of_ble_eq_true rfl), (Nat.le_of_ble_eq_true rfl)⟩) (pv8 hP hK hD hC hS (rv8_1 hK hP)) rfl rfl hl.1 rfl (lv_room (Nat.le_of_ble_eq_true rfl)) dX8_leaves_64 ⟨Nat.le_of_ble_eq_true rfl, Nat.le_of_ble_eq_true rfl⟩) hS (fun q _ h => up8 hS q h) (up8 hS) (fun r37 σ38 tS H1 locs ht hvm hw39 hB hz1 hk1 hS => ?_)
          have hP : va_P D clz (WD8 cy g σ38) H1 := by rw [← ht]; exact hB
          clear hB hz1 hk1 hvm ht
          generalize H1 = H at hP hS ⊢
          have hw39E : σ29 = σ38 := (hw39.1).symm
          subst hw39E
          refine lv_goto (tgt := 71) hx hb dX8_leaves_67 (by decide) ?_
          exact W.iret (v := r37) hx hb hr (fun tS ht hW => ⟨⟨r37, σ29, rfl, ⟨Fr.tr (Fr.tr (Fr.rf) hF26 (fO_sub (fun _ q => q))) hF31 (fO_sub (fun _ q => q)), hJ32, trivial⟩, (show va_P D clz (WD8 cy g σ29) tS.heap by rw [ht]; exact hP)⟩, hS.F ht⟩) hS.2.2 dX8_leaves_71
      ·
        have k40 := peq32 c21
        refine lv_iconst (v := (-1)) hx hb dX8_leaves_34 (by decide) ?_
        exact W.iret (v := (-1)) hx hb hr (fun tS ht hW => ⟨⟨(-1), σ, rfl, ⟨Fr.rf, hJ, trivial⟩, (show va_P D clz (WD8 cy g σ) tS.heap by rw [ht]; exact hP)⟩, hS.F ht⟩) hS.2.2 dX8_leaves_35
    ·
      have k41 := peq32 c14
      refine lv_bipush (v := (-2)) hx hb dX8_leaves_19 (by decide) ?_
      exact W.iret (v := (-2)) hx hb hr (fun tS ht hW => ⟨⟨(-2), σ, rfl, ⟨Fr.rf, hJ, trivial⟩, (show va_P D clz (WD8 cy g σ) tS.heap by rw [ht]; exact hP)⟩, hS.F ht⟩) hS.2.2 dX8_leaves_21

theorem q1224 : Cond.code yX8_leastLine cX8_leastLine 4 (some .int) ∈ lw_g := lw_gm (List.mem_of_getElem? (i := 1224) (by decide +kernel)) rfl
theorem dX8_leastLine_0 : decode cX8_leastLine 0 = .ok (.iconst 1, 1) := by decide +kernel
theorem dX8_leastLine_1 : decode cX8_leastLine 1 = .ok (.istore_n 3, 1) := by decide +kernel
theorem dX8_leastLine_2 : decode cX8_leastLine 2 = .ok (.iload_n 3, 1) := by decide +kernel
theorem dX8_leastLine_3 : decode cX8_leastLine 3 = .ok (.iconst 1, 1) := by decide +kernel
theorem dX8_leastLine_4 : decode cX8_leastLine 4 = .ok (.aload_n 0, 1) := by decide +kernel
theorem dX8_leastLine_5 : decode cX8_leastLine 5 = .ok (.getfield 19, 3) := by decide +kernel
theorem dX8_leastLine_8 : decode cX8_leastLine 8 = .ok (.getfield 113, 3) := by decide +kernel
theorem dX8_leastLine_11 : decode cX8_leastLine 11 = .ok (.ishl, 1) := by decide +kernel
theorem dX8_leastLine_12 : decode cX8_leastLine 12 = .ok (.if_icmp .ge 46, 3) := by decide +kernel
theorem dX8_leastLine_15 : decode cX8_leastLine 15 = .ok (.iload_n 3, 1) := by decide +kernel
theorem dX8_leastLine_16 : decode cX8_leastLine 16 = .ok (.invokestatic 328, 3) := by decide +kernel
theorem dX8_leastLine_19 : decode cX8_leastLine 19 = .ok (.iload_n 2, 1) := by decide +kernel
theorem dX8_leastLine_20 : decode cX8_leastLine 20 = .ok (.if_icmp .eq 6, 3) := by decide +kernel
theorem dX8_leastLine_23 : decode cX8_leastLine 23 = .ok (.goto 29, 3) := by decide +kernel
theorem dX8_leastLine_26 : decode cX8_leastLine 26 = .ok (.aload_n 0, 1) := by decide +kernel
theorem dX8_leastLine_27 : decode cX8_leastLine 27 = .ok (.getfield 67, 3) := by decide +kernel
theorem dX8_leastLine_30 : decode cX8_leastLine 30 = .ok (.aload_n 0, 1) := by decide +kernel
theorem dX8_leastLine_31 : decode cX8_leastLine 31 = .ok (.getfield 19, 3) := by decide +kernel
theorem dX8_leastLine_34 : decode cX8_leastLine 34 = .ok (.iload_n 3, 1) := by decide +kernel
theorem dX8_leastLine_35 : decode cX8_leastLine 35 = .ok (.iload_n 1, 1) := by decide +kernel
theorem dX8_leastLine_36 : decode cX8_leastLine 36 = .ok (.invokevirtual 335, 3) := by decide +kernel
theorem dX8_leastLine_39 : decode cX8_leastLine 39 = .ok (.aload_n 0, 1) := by decide +kernel
theorem dX8_leastLine_40 : decode cX8_leastLine 40 = .ok (.getfield 67, 3) := by decide +kernel
theorem dX8_leastLine_43 : decode cX8_leastLine 43 = .ok (.invokevirtual 336, 3) := by decide +kernel
theorem dX8_leastLine_46 : decode cX8_leastLine 46 = .ok (.iconst (-1), 1) := by decide +kernel
theorem dX8_leastLine_47 : decode cX8_leastLine 47 = .ok (.if_icmp .eq 5, 3) := by decide +kernel
theorem dX8_leastLine_50 : decode cX8_leastLine 50 = .ok (.iload_n 3, 1) := by decide +kernel
theorem dX8_leastLine_51 : decode cX8_leastLine 51 = .ok (.ireturn, 1) := by decide +kernel
theorem dX8_leastLine_52 : decode cX8_leastLine 52 = .ok (.iinc 3 1, 3) := by decide +kernel
theorem dX8_leastLine_55 : decode cX8_leastLine 55 = .ok (.goto (-53), 3) := by decide +kernel
theorem dX8_leastLine_58 : decode cX8_leastLine 58 = .ok (.iconst (-1), 1) := by decide +kernel
theorem dX8_leastLine_59 : decode cX8_leastLine 59 = .ok (.ireturn, 1) := by decide +kernel
set_option maxHeartbeats 4000000 in
set_option maxRecDepth 100000 in
theorem m_X8_leastLine (l : Launch) (D : va_G) (cy : Nat → ClassId) (g : Nat → Nat) (σ : ST) (p1 : Int32) (p2 : Int32) (sz : Nat) (hJ : J8 σ) (h0 : (0 : Int) ≤ p1.toInt ∧ p1.toInt ≤ 2) (h1 : (1 : Int) ≤ p2.toInt ∧ p2.toInt ≤ 2) : Met l yX8_leastLine (ww yX8_leastLine cX8_leastLine 4 (some .int)) ({ frames := 36, cells := 0, slots := 0, locals := 2304 }) (va_Pc [.ref (gO g 17), .int p1, .int p2] (pr8 D cy g σ sz)) (qi8 D cy g sz (fun r τ => Fr (fO [15]) σ τ ∧ J8 τ ∧ ((-1 : Int) ≤ r.toInt ∧ r.toInt ≤ 511) ∧ True)) 0 0 (A8 cy g sz) := by
  refine Met.ofW (cc := cX8_leastLine) (maxL := 4) (ret := (some .int)) (by decide) rfl ?_
  intro p e s m args below meth c s₁ B hml hv
  obtain ⟨rfl, hsz, hP, hK, hD0, hC⟩ := hv
  have hx := B.exec
  have hb := B.bytes
  have hr := B.returns
  have hts := hts_g (atoms_spec (ws := ww yX8_leastLine cX8_leastLine 4 (some .int)) B.pre)
  have hown : s.vm.findClass RX8 = some m.cls := findClass_of_methodNamed B.named
  have hlocks := B.notSynchronized
  clear B
  subst hsz
  have hD := fun τ => A8_D (sz := s.heap.size) hD0 τ
  clear hD0
  have hS : va_S (A8 cy g s.heap.size) s.heap s.heap [] := va_S.rf
  have hl := lv_entry ([.ref (gO g 17), .int p1, .int p2]) (n := 4) (Nat.le_of_ble_eq_true rfl)
  rw [lg_entry_eq]
  generalize (lg_sl ([.ref (gO g 17), .int p1, .int p2]) ++ List.replicate (4 - (lg_sl ([.ref (gO g 17), .int p1, .int p2])).length) Slot.unset).toArray = ls at hl ⊢
  have hl : lv_has ls 4 [(0, .ref (gO g 17)), (1, .int p1), (2, .int p2)] := hl
  refine lv_iconst (v := 1) hx hb dX8_leastLine_0 (by decide) ?_
  refine lv_istore_n (lv' := [(3, .int 1), (0, .ref (gO g 17)), (1, .int p1), (2, .int p2)]) hx hb dX8_leastLine_1 rfl hl (by decide) rfl (fun ls hl => ?_)
  refine loop8 4 2 (fun x : LZ => [(3, .int (x.2.1 0)), (0, .ref (gO g 17)), (1, .int p1), (2, .int p2)]) (fun x : LZ => (Fr (fO [15]) σ x.1) ∧ (J8 x.1) ∧ ((1 : Int) ≤ (x.2.1 0).toInt ∧ (x.2.1 0).toInt ≤ 512) ∧ True) (fun x : LZ => ((513 : Int) - (x.2.1 0).toInt).toNat) ?_ (σ, lf [1], lg []) ⟨Fr.rf, hJ, (show (1 : Int) ≤ (1 : Int32).toInt ∧ (1 : Int32).toInt ≤ 512 from (by have z1 : (1 : Int32).toInt = 1 := (by decide); omega)), trivial⟩ _ _ _ hP hS (lv_sub hl [0, 1, 2, 3] rfl)
  intro y3 hI2 nl1 H locs ls hP hS hl
  obtain ⟨σ4, eσ4⟩ : ∃ z, z = y3.1 := ⟨_, rfl⟩
  rw [← eσ4] at hP hI2
  have hF5 : Fr (fO [15]) σ σ4 := hI2.1
  have hJ6 : J8 σ4 := hI2.2.1
  have b7 : (1 : Int) ≤ (y3.2.1 0).toInt ∧ (y3.2.1 0).toInt ≤ 512 := hI2.2.2.1
  have hl : lv_has ls 4 [(3, .int (y3.2.1 0)), (0, .ref (gO g 17)), (1, .int p1), (2, .int p2)] := hl
  refine lv_iload_n hx hb dX8_leastLine_2 rfl (lv_at hl 0 rfl) ?_
  refine lv_iconst (v := 1) hx hb dX8_leastLine_3 (by decide) ?_
  refine lv_aload_n hx hb dX8_leastLine_4 rfl (lv_at hl 1 rfl) ?_
  obtain ⟨dx8, edx8⟩ : ∃ z : Nat, ((σ 17).1 1).toInt.toNat = z := ⟨_, rfl⟩
  have hdx8 : 0 ≤ dx8 ∧ dx8 < 5 := mnow (by have f0 := j8_8_1 hJ rfl; omega) edx8
  refine g8_8_1 (o := dx8) hx hb hts hown hK hP ((congrArg (fun z : Int32 => z.toInt.toNat) ((hF5 17 1 (fO_n (nmc (by decide) nm0))).1)).trans edx8) (hts _ q435) dX8_leastLine_5 ?_
  refine g8_0_4 (x := ((σ dx8).1 4)) hx hb hts hown hK hP hdx8 ((hF5 dx8 4 (fO_n (nmc (nel hdx8 (by decide)) nm0))).1) (hts _ q207) dX8_leastLine_8 ?_
  refine lv_ishl hx hb dX8_leastLine_11 ?_
  refine lv_topi (fun x9 ex9 => ?_)
  have t10 := shl9 ex9 (by have f0 := j8_0_4 hJ hdx8 rfl; omega)
  refine lv_icmp_ge (tgt := 58) hx hb dX8_leastLine_12 (by decide) (fun c11 => ?_) (fun c11 => ?_)
  ·
    have k12 := ple32 c11
    refine lv_iconst (v := (-1)) hx hb dX8_leastLine_58 (by decide) ?_
    exact W.iret (v := (-1)) hx hb hr (fun tS ht hW => ⟨⟨(-1), σ4, rfl, ⟨Fr.tr (Fr.rf) hF5 (fO_sub (fun _ q => q)), hJ6, (show (-1 : Int) ≤ ((-1) : Int32).toInt ∧ ((-1) : Int32).toInt ≤ 511 from (by have zm1 : ((-1) : Int32).toInt = (-1) := (by decide); omega)), trivial⟩, (show va_P D clz (WD8 cy g σ4) tS.heap by rw [ht]; exact hP)⟩, hS.F ht⟩) hS.2.2 dX8_leastLine_59
  ·
    have k13 := nle32 c11
    refine lv_iload_n hx hb dX8_leastLine_15 rfl (lv_at hl 0 rfl) ?_
    refine va_calli (va_runS (As := [.int (y3.2.1 0)]) (rest := []) ⟨hx, hb, hml, hown, hts⟩ (m_J6_bitCount_0f7a4 l D cy g σ4  (y3.2.1 0) _ hJ6 ) (va_cwS 1 hts (gd_S q1168 q905 q140 q906) rfl rfl rfl (by decide +kernel) ⟨(Nat.le_of_ble_eq_true rfl), (Nat.le_of_ble_eq_true rfl)⟩) (ps8 hP hK hD hC hS) rfl rfl hl.1 rfl (lv_room (Nat.le_of_ble_eq_true rfl)) dX8_leastLine_16 ⟨Nat.le_of_ble_eq_true rfl, Nat.le_of_ble_eq_true rfl⟩) hS (fun q _ h => up8 hS q h) (up8 hS) (fun r14 σ15 tS H1 locs ht hvm hw16 hB hz1 hk1 hS => ?_)
    have hP : va_P D clz (WD8 cy g σ15) H1 := by rw [← ht]; exact hB
    clear hB hz1 hk1 hvm ht
    generalize H1 = H at hP hS ⊢
    have hw16E : σ4 = σ15 := (hw16.1).symm
    subst hw16E
    have b17 : (0 : Int) ≤ r14.toInt ∧ r14.toInt ≤ 63 := hw16.2.1
    refine lv_iload_n hx hb dX8_leastLine_19 rfl (lv_at hl 3 rfl) ?_
    refine cut8 (D := D) (cy := cy) (g := g) (A := A8 cy g s.heap.size) (H0 := s.heap) 4 52 (fun x : LZ => [(3, .int (y3.2.1 0)), (0, .ref (gO g 17)), (1, .int p1), (2, .int p2)]) (fun x : LZ => []) (fun x : LZ => (Fr (fO [15]) σ4 x.1) ∧ (J8 x.1) ∧ True) ?_ ?_
    ·
      intro y20 hI19 H locs ls hP hS hl
      obtain ⟨σ21, eσ21⟩ : ∃ z, z = y20.1 := ⟨_, rfl⟩
      rw [← eσ21] at hP hI19
      have hF22 : Fr (fO [15]) σ4 σ21 := hI19.1
      have hJ23 : J8 σ21 := hI19.2.1
      have hl : lv_has ls 4 [(3, .int (y3.2.1 0)), (0, .ref (gO g 17)), (1, .int p1), (2, .int p2)] := hl
      obtain ⟨x24, ex24⟩ : ∃ y : Int32, y = (y3.2.1 0) + 1 := ⟨_, rfl⟩
      have t25 := addO ex24 (by have f0 := b7; have f1 := k13; have f2 := t10; have g0 := rg32 (y3.2.1 0); have z1 : (1 : Int32).toInt = 1 := (by decide); omega)
      refine lv_iinc (v := x24) (lv' := [(3, .int x24), (0, .ref (gO g 17)), (1, .int p1), (2, .int p2)]) hx hb dX8_leastLine_52 hl (k := 0) rfl (by rw [ex24]; rfl) (by decide) rfl (fun ls hl => ?_)
      refine lv_goto (tgt := 2) hx hb dX8_leastLine_55 (by decide) ?_
      have t26 : ((513 : Int) - x24.toInt).toNat < ((513 : Int) - (y3.2.1 0).toInt).toNat := (by have f0 := b7; have f1 := k13; have f2 := t25; have f3 := t10; have g0 := rg32 (y3.2.1 0); have g1 := rg32 x24; have z1 : (1 : Int32).toInt = 1 := (by decide); omega)
      exact nl1 (σ21, lf [x24], lg []) ⟨Fr.tr (Fr.tr (Fr.rf) hF5 (fO_sub (fun _ q => q))) hF22 (fO_sub (fun _ q => q)), hJ23, (show (1 : Int) ≤ (x24 : Int32).toInt ∧ (x24 : Int32).toInt ≤ 512 from (by have f0 := t25; have f1 := b7; have f2 := k13; have f3 := t10; have g0 := rg32 x24; have z1 : (1 : Int32).toInt = 1 := (by decide); omega)), trivial⟩ (show ((513 : Int) - x24.toInt).toNat < _ from by first | exact t26 | (rw [← eσ4]; exact t26)) _ _ _ hP hS (lv_sub hl [0, 1, 2, 3] rfl)
    ·
      intro nj18
      refine lv_icmp_eq (tgt := 26) hx hb dX8_leastLine_20 (by decide) (fun c27 => ?_) (fun c27 => ?_)
      ·
        have k28 := peq32 c27
        refine lv_aload_n hx hb dX8_leastLine_26 rfl (lv_at hl 1 rfl) ?_
        refine g8_8_10 hx hb hts hown hK hP (hts _ q444) dX8_leastLine_27 ?_
        refine lv_aload_n hx hb dX8_leastLine_30 rfl (lv_at hl 1 rfl) ?_
        refine g8_8_1 (o := dx8) hx hb hts hown hK hP ((congrArg (fun z : Int32 => z.toInt.toNat) ((hF5 17 1 (fO_n (nmc (by decide) nm0))).1)).trans edx8) (hts _ q435) dX8_leastLine_31 ?_
        refine lv_iload_n hx hb dX8_leastLine_34 rfl (lv_at hl 0 rfl) ?_
        refine lv_iload_n hx hb dX8_leastLine_35 rfl (lv_at hl 2 rfl) ?_
        refine va_callv (va_runV (As := [.ref (gO g dx8), .int (y3.2.1 0), .int p1]) (rest := []) ⟨hx, hb, hml, hown, hts⟩ (m_X1_aim l D cy g σ4  dx8 (y3.2.1 0) p1 _ hJ6 (show 0 ≤ dx8 ∧ dx8 < 5 from hdx8) (show (0 : Int) ≤ p1.toInt ∧ p1.toInt ≤ 2 from (by have f0 := h0; have g0 := rg32 p1; omega))) (cwV 3 hts (gd_V q1169 q1170 q1171 q131 q1172) rfl rfl rfl (by decide +kernel) ⟨(Nat.le_of_ble_eq_true rfl), (Nat.le_of_ble_eq_true rfl)⟩) (pv8 hP hK hD hC hS (rv8_1 hK hP)) rfl rfl hl.1 rfl (lv_room (Nat.le_of_ble_eq_true rfl)) dX8_leastLine_36 ⟨Nat.le_of_ble_eq_true rfl, Nat.le_of_ble_eq_true rfl⟩) hS (fun q _ h => up8 hS q h) (up8 hS) (fun σ30 tS H1 locs ht hvm hw31 hB hz1 hk1 hS => ?_)
        have hP : va_P D clz (WD8 cy g σ30) H1 := by rw [← ht]; exact hB
        clear hB hz1 hk1 hvm ht
        generalize H1 = H at hP hS ⊢
        have hF32 : Fr (fO [15]) σ4 σ30 := hw31.1
        have hJ33 : J8 σ30 := hw31.2.1
        refine lv_aload_n hx hb dX8_leastLine_39 rfl (lv_at hl 1 rfl) ?_
        refine g8_8_10 hx hb hts hown hK hP (hts _ q444) dX8_leastLine_40 ?_
        refine va_calli (va_runV (As := []) (rest := []) ⟨hx, hb, hml, hown, hts⟩ (m_X1_fewestLeft l D cy g σ30   _ hJ33 ) (cwV 0 hts (gd_V q1177 q1178 q1179 q131 q1180) rfl rfl rfl (by decide +kernel) ⟨(Nat.le_of_ble_eq_true rfl), (Nat.le_of_ble_eq_true rfl)⟩) (pv8 hP hK hD hC hS (rv8_1 hK hP)) rfl rfl hl.1 rfl (lv_room (Nat.le_of_ble_eq_true rfl)) dX8_leastLine_43 ⟨Nat.le_of_ble_eq_true rfl, Nat.le_of_ble_eq_true rfl⟩) hS (fun q _ h => up8 hS q h) (up8 hS) (fun r34 σ35 tS H1 locs ht hvm hw36 hB hz1 hk1 hS => ?_)
        have hP : va_P D clz (WD8 cy g σ35) H1 := by rw [← ht]; exact hB
        clear hB hz1 hk1 hvm ht
        generalize H1 = H at hP hS ⊢
        have hF37 : Fr (fO [15]) σ30 σ35 := hw36.1
        have hJ38 : J8 σ35 := hw36.2.1
        have b39 : (-2147483648 : Int) ≤ r34.toInt ∧ r34.toInt ≤ 62 := hw36.2.2.1
        refine lv_iconst (v := (-1)) hx hb dX8_leastLine_46 (by decide) ?_
        refine lv_icmp_eq (tgt := 52) hx hb dX8_leastLine_47 (by decide) (fun c40 => ?_) (fun c40 => ?_)
        ·
          have k41 := peq32 c40
          exact nj18 (σ35, lf [], lg []) ⟨Fr.tr (Fr.tr (Fr.rf) hF32 (fO_sub (fun _ q => q))) hF37 (fO_sub (fun _ q => q)), hJ38, trivial⟩ _ _ _ hP hS (lv_sub hl [0, 1, 2, 3] rfl)
        ·
          have k42 := neq32 c40
          refine lv_iload_n hx hb dX8_leastLine_50 rfl (lv_at hl 0 rfl) ?_
          exact W.iret (v := (y3.2.1 0)) hx hb hr (fun tS ht hW => ⟨⟨(y3.2.1 0), σ35, rfl, ⟨Fr.tr (Fr.tr (Fr.tr (Fr.rf) hF5 (fO_sub (fun _ q => q))) hF32 (fO_sub (fun _ q => q))) hF37 (fO_sub (fun _ q => q)), hJ38, (show (-1 : Int) ≤ (y3.2.1 0).toInt ∧ (y3.2.1 0).toInt ≤ 511 from (by have f0 := b7; have f1 := k13; have f2 := t10; have g0 := rg32 (y3.2.1 0); omega)), trivial⟩, (show va_P D clz (WD8 cy g σ35) tS.heap by rw [ht]; exact hP)⟩, hS.F ht⟩) hS.2.2 dX8_leastLine_51
      ·
        have k43 := neq32 c27
        refine lv_goto (tgt := 52) hx hb dX8_leastLine_23 (by decide) ?_
        exact nj18 (σ4, lf [], lg []) ⟨Fr.rf, hJ6, trivial⟩ _ _ _ hP hS (lv_sub hl [0, 1, 2, 3] rfl)

theorem q1220 : Cond.code yX8_line cX8_line 4 (some .int) ∈ lw_g := lw_gm (List.mem_of_getElem? (i := 1220) (by decide +kernel)) rfl
theorem q1221 : Cond.methodLink RX8 345 yX8_leastLine ∈ lw_g := lw_gm (List.mem_of_getElem? (i := 1221) (by decide +kernel)) rfl
theorem q1223 : Cond.instanceMethod yX8_leastLine ∈ lw_g := lw_gm (List.mem_of_getElem? (i := 1223) (by decide +kernel)) rfl
theorem q44 : Cond.selects RX8 yX8_leastLine yX8_leastLine ∈ lw_g := lw_gm (List.mem_of_getElem? (i := 44) (by decide +kernel)) rfl
theorem dX8_line_0 : decode cX8_line 0 = .ok (.aload_n 0, 1) := by decide +kernel
theorem dX8_line_1 : decode cX8_line 1 = .ok (.getfield 19, 3) := by decide +kernel
theorem dX8_line_4 : decode cX8_line 4 = .ok (.iload_n 1, 1) := by decide +kernel
theorem dX8_line_5 : decode cX8_line 5 = .ok (.invokevirtual 142, 3) := by decide +kernel
theorem dX8_line_8 : decode cX8_line 8 = .ok (.ifCond .ne 6, 3) := by decide +kernel
theorem dX8_line_11 : decode cX8_line 11 = .ok (.bipush (-2), 2) := by decide +kernel
theorem dX8_line_13 : decode cX8_line 13 = .ok (.ireturn, 1) := by decide +kernel
theorem dX8_line_14 : decode cX8_line 14 = .ok (.iconst 1, 1) := by decide +kernel
theorem dX8_line_15 : decode cX8_line 15 = .ok (.istore_n 2, 1) := by decide +kernel
theorem dX8_line_16 : decode cX8_line 16 = .ok (.iload_n 2, 1) := by decide +kernel
theorem dX8_line_17 : decode cX8_line 17 = .ok (.iconst 2, 1) := by decide +kernel
theorem dX8_line_18 : decode cX8_line 18 = .ok (.if_icmp .gt 23, 3) := by decide +kernel
theorem dX8_line_21 : decode cX8_line 21 = .ok (.aload_n 0, 1) := by decide +kernel
theorem dX8_line_22 : decode cX8_line 22 = .ok (.iload_n 1, 1) := by decide +kernel
theorem dX8_line_23 : decode cX8_line 23 = .ok (.iload_n 2, 1) := by decide +kernel
theorem dX8_line_24 : decode cX8_line 24 = .ok (.invokevirtual 345, 3) := by decide +kernel
theorem dX8_line_27 : decode cX8_line 27 = .ok (.istore_n 3, 1) := by decide +kernel
theorem dX8_line_28 : decode cX8_line 28 = .ok (.iload_n 3, 1) := by decide +kernel
theorem dX8_line_29 : decode cX8_line 29 = .ok (.iconst (-1), 1) := by decide +kernel
theorem dX8_line_30 : decode cX8_line 30 = .ok (.if_icmp .eq 5, 3) := by decide +kernel
theorem dX8_line_33 : decode cX8_line 33 = .ok (.iload_n 3, 1) := by decide +kernel
theorem dX8_line_34 : decode cX8_line 34 = .ok (.ireturn, 1) := by decide +kernel
theorem dX8_line_35 : decode cX8_line 35 = .ok (.iinc 2 1, 3) := by decide +kernel
theorem dX8_line_38 : decode cX8_line 38 = .ok (.goto (-22), 3) := by decide +kernel
theorem dX8_line_41 : decode cX8_line 41 = .ok (.iconst (-1), 1) := by decide +kernel
theorem dX8_line_42 : decode cX8_line 42 = .ok (.ireturn, 1) := by decide +kernel
set_option maxHeartbeats 4000000 in
set_option maxRecDepth 100000 in
theorem m_X8_line (l : Launch) (D : va_G) (cy : Nat → ClassId) (g : Nat → Nat) (σ : ST) (p1 : Int32) (sz : Nat) (hJ : J8 σ)  : Met l yX8_line (ww yX8_line cX8_line 4 (some .int)) ({ frames := 37, cells := 0, slots := 0, locals := 2368 }) (va_Pc [.ref (gO g 17), .int p1] (pr8 D cy g σ sz)) (qi8 D cy g sz (fun r τ => Fr (fO [15]) σ τ ∧ J8 τ ∧ ((-2 : Int) ≤ r.toInt ∧ r.toInt ≤ 511) ∧ True)) 0 0 (A8 cy g sz) := by
  refine Met.ofW (cc := cX8_line) (maxL := 4) (ret := (some .int)) (by decide) rfl ?_
  intro p e s m args below meth c s₁ B hml hv
  obtain ⟨rfl, hsz, hP, hK, hD0, hC⟩ := hv
  have hx := B.exec
  have hb := B.bytes
  have hr := B.returns
  have hts := hts_g (atoms_spec (ws := ww yX8_line cX8_line 4 (some .int)) B.pre)
  have hown : s.vm.findClass RX8 = some m.cls := findClass_of_methodNamed B.named
  have hlocks := B.notSynchronized
  clear B
  subst hsz
  have hD := fun τ => A8_D (sz := s.heap.size) hD0 τ
  clear hD0
  have hS : va_S (A8 cy g s.heap.size) s.heap s.heap [] := va_S.rf
  have hl := lv_entry ([.ref (gO g 17), .int p1]) (n := 4) (Nat.le_of_ble_eq_true rfl)
  rw [lg_entry_eq]
  generalize (lg_sl ([.ref (gO g 17), .int p1]) ++ List.replicate (4 - (lg_sl ([.ref (gO g 17), .int p1])).length) Slot.unset).toArray = ls at hl ⊢
  have hl : lv_has ls 4 [(0, .ref (gO g 17)), (1, .int p1)] := hl
  refine lv_aload_n hx hb dX8_line_0 rfl (lv_at hl 0 rfl) ?_
  obtain ⟨dx1, edx1⟩ : ∃ z : Nat, ((σ 17).1 1).toInt.toNat = z := ⟨_, rfl⟩
  have hdx1 : 0 ≤ dx1 ∧ dx1 < 5 := mnow (by have f0 := j8_8_1 hJ rfl; omega) edx1
  refine g8_8_1 (o := dx1) hx hb hts hown hK hP edx1 (hts _ q435) dX8_line_1 ?_
  refine lv_iload_n hx hb dX8_line_4 rfl (lv_at hl 1 rfl) ?_
  refine va_calli (va_runV (As := [.int p1]) (rest := []) ⟨hx, hb, hml, hown, hts⟩ (m_X0_hasPart l D cy g σ  dx1 p1 _ hJ (show 0 ≤ dx1 ∧ dx1 < 5 from hdx1)) (cwV 1 hts (gd_V q738 q649 q650 q127 q651) rfl rfl rfl (by decide +kernel) ⟨(Nat.le_of_ble_eq_true rfl), (Nat.le_of_ble_eq_true rfl)⟩) (pv8 hP hK hD hC hS (rv8_0 hK hP hdx1)) rfl rfl hl.1 rfl (lv_room (Nat.le_of_ble_eq_true rfl)) dX8_line_5 ⟨Nat.le_of_ble_eq_true rfl, Nat.le_of_ble_eq_true rfl⟩) hS (fun q _ h => up8 hS q h) (up8 hS) (fun r2 σ3 tS H1 locs ht hvm hw4 hB hz1 hk1 hS => ?_)
  have hP : va_P D clz (WD8 cy g σ3) H1 := by rw [← ht]; exact hB
  clear hB hz1 hk1 hvm ht
  generalize H1 = H at hP hS ⊢
  have hw4E : σ = σ3 := (hw4.1).symm
  subst hw4E
  have b5 : (0 : Int) ≤ r2.toInt ∧ r2.toInt ≤ 1 := hw4.2.1
  have b6 : (r2.toInt = 0) ∨ ((0 : Int) ≤ p1.toInt ∧ p1.toInt ≤ 2) := hw4.2.2.1
  refine lv_if_ne (tgt := 14) hx hb dX8_line_8 (by decide) (fun c7 => ?_) (fun c7 => ?_)
  ·
    have k8 := neq32 c7
    refine lv_iconst (v := 1) hx hb dX8_line_14 (by decide) ?_
    refine lv_istore_n (lv' := [(2, .int 1), (0, .ref (gO g 17)), (1, .int p1)]) hx hb dX8_line_15 rfl hl (by decide) rfl (fun ls hl => ?_)
    refine loop8 4 16 (fun x : LZ => [(2, .int (x.2.1 0)), (0, .ref (gO g 17)), (1, .int p1)]) (fun x : LZ => (Fr (fO [15]) σ x.1) ∧ (J8 x.1) ∧ ((1 : Int) ≤ (x.2.1 0).toInt ∧ (x.2.1 0).toInt ≤ 3) ∧ True) (fun x : LZ => ((4 : Int) - (x.2.1 0).toInt).toNat) ?_ (σ, lf [1], lg []) ⟨Fr.rf, hJ, (show (1 : Int) ≤ (1 : Int32).toInt ∧ (1 : Int32).toInt ≤ 3 from (by have z1 : (1 : Int32).toInt = 1 := (by decide); omega)), trivial⟩ _ _ _ hP hS (lv_sub hl [0, 1, 2] rfl)
    intro y11 hI10 nl9 H locs ls hP hS hl
    obtain ⟨σ12, eσ12⟩ : ∃ z, z = y11.1 := ⟨_, rfl⟩
    rw [← eσ12] at hP hI10
    have hF13 : Fr (fO [15]) σ σ12 := hI10.1
    have hJ14 : J8 σ12 := hI10.2.1
    have b15 : (1 : Int) ≤ (y11.2.1 0).toInt ∧ (y11.2.1 0).toInt ≤ 3 := hI10.2.2.1
    have hl : lv_has ls 4 [(2, .int (y11.2.1 0)), (0, .ref (gO g 17)), (1, .int p1)] := hl
    refine lv_iload_n hx hb dX8_line_16 rfl (lv_at hl 0 rfl) ?_
    refine lv_iconst (v := 2) hx hb dX8_line_17 (by decide) ?_
    refine lv_icmp_gt (tgt := 41) hx hb dX8_line_18 (by decide) (fun c16 => ?_) (fun c16 => ?_)
    ·
      have k17 := plt32 c16
      refine lv_iconst (v := (-1)) hx hb dX8_line_41 (by decide) ?_
      exact W.iret (v := (-1)) hx hb hr (fun tS ht hW => ⟨⟨(-1), σ12, rfl, ⟨Fr.tr (Fr.rf) hF13 (fO_sub (fun _ q => q)), hJ14, (show (-2 : Int) ≤ ((-1) : Int32).toInt ∧ ((-1) : Int32).toInt ≤ 511 from (by have zm1 : ((-1) : Int32).toInt = (-1) := (by decide); omega)), trivial⟩, (show va_P D clz (WD8 cy g σ12) tS.heap by rw [ht]; exact hP)⟩, hS.F ht⟩) hS.2.2 dX8_line_42
    ·
      have k18 := nlt32 c16
      refine lv_aload_n hx hb dX8_line_21 rfl (lv_at hl 1 rfl) ?_
      refine lv_iload_n hx hb dX8_line_22 rfl (lv_at hl 2 rfl) ?_
      refine lv_iload_n hx hb dX8_line_23 rfl (lv_at hl 0 rfl) ?_
      refine va_calli (va_runV (As := [.int p1, .int (y11.2.1 0)]) (rest := []) ⟨hx, hb, hml, hown, hts⟩ (m_X8_leastLine l D cy g σ12  p1 (y11.2.1 0) _ hJ14 (show (0 : Int) ≤ p1.toInt ∧ p1.toInt ≤ 2 from (by have f0 := b6; have f1 := b5; have f2 := k8; have g0 := rg32 p1; have z0 : (0 : Int32).toInt = 0 := (by decide); omega)) (show (1 : Int) ≤ (y11.2.1 0).toInt ∧ (y11.2.1 0).toInt ≤ 2 from (by have f0 := b6; have f1 := b15; have f2 := k18; have f3 := b5; have f4 := k8; have g0 := rg32 (y11.2.1 0); have g1 := rg32 p1; have z0 : (0 : Int32).toInt = 0 := (by decide); have z2 : (2 : Int32).toInt = 2 := (by decide); omega))) (cwV 2 hts (gd_V q1221 q1223 q44 q125 q1224) rfl rfl rfl (by decide +kernel) ⟨(Nat.le_of_ble_eq_true rfl), (Nat.le_of_ble_eq_true rfl)⟩) (pv8 hP hK hD hC hS (rv8_8 hK hP)) rfl rfl hl.1 rfl (lv_room (Nat.le_of_ble_eq_true rfl)) dX8_line_24 ⟨Nat.le_of_ble_eq_true rfl, Nat.le_of_ble_eq_true rfl⟩) hS (fun q _ h => up8 hS q h) (up8 hS) (fun r19 σ20 tS H1 locs ht hvm hw21 hB hz1 hk1 hS => ?_)
      have hP : va_P D clz (WD8 cy g σ20) H1 := by rw [← ht]; exact hB
      clear hB hz1 hk1 hvm ht
      generalize H1 = H at hP hS ⊢
      have hF22 : Fr (fO [15]) σ12 σ20 := hw21.1
      have hJ23 : J8 σ20 := hw21.2.1
      have b24 : (-1 : Int) ≤ r19.toInt ∧ r19.toInt ≤ 511 := hw21.2.2.1
      refine lv_istore_n (lv' := [(3, .int r19), (2, .int (y11.2.1 0)), (0, .ref (gO g 17)), (1, .int p1)]) hx hb dX8_line_27 rfl hl (by decide) rfl (fun ls hl => ?_)
      refine lv_iload_n hx hb dX8_line_28 rfl (lv_at hl 0 rfl) ?_
      refine lv_iconst (v := (-1)) hx hb dX8_line_29 (by decide) ?_
      refine lv_icmp_eq (tgt := 35) hx hb dX8_line_30 (by decide) (fun c25 => ?_) (fun c25 => ?_)
      ·
        have k26 := peq32 c25
        obtain ⟨x27, ex27⟩ : ∃ y : Int32, y = (y11.2.1 0) + 1 := ⟨_, rfl⟩
        have t28 := addO ex27 (by have f0 := b15; have f1 := k18; have g0 := rg32 (y11.2.1 0); have z1 : (1 : Int32).toInt = 1 := (by decide); have z2 : (2 : Int32).toInt = 2 := (by decide); omega)
        refine lv_iinc (v := x27) (lv' := [(2, .int x27), (3, .int r19), (0, .ref (gO g 17)), (1, .int p1)]) hx hb dX8_line_35 hl (k := 1) rfl (by rw [ex27]; rfl) (by decide) rfl (fun ls hl => ?_)
        refine lv_goto (tgt := 16) hx hb dX8_line_38 (by decide) ?_
        have t29 : ((4 : Int) - x27.toInt).toNat < ((4 : Int) - (y11.2.1 0).toInt).toNat := (by have f0 := b15; have f1 := k18; have f2 := t28; have g0 := rg32 (y11.2.1 0); have g1 := rg32 x27; have z1 : (1 : Int32).toInt = 1 := (by decide); have z2 : (2 : Int32).toInt = 2 := (by decide); omega)
        exact nl9 (σ20, lf [x27], lg []) ⟨Fr.tr (Fr.tr (Fr.rf) hF13 (fO_sub (fun _ q => q))) hF22 (fO_sub (fun _ q => q)), hJ23, (show (1 : Int) ≤ (x27 : Int32).toInt ∧ (x27 : Int32).toInt ≤ 3 from (by have f0 := t28; have f1 := b15; have f2 := k18; have g0 := rg32 x27; have z1 : (1 : Int32).toInt = 1 := (by decide); have z2 : (2 : Int32).toInt = 2 := (by decide); omega)), trivial⟩ (show ((4 : Int) - x27.toInt).toNat < _ from by first | exact t29 | (rw [← eσ12]; exact t29)) _ _ _ hP hS (lv_sub hl [0, 2, 3] rfl)
      ·
        have k30 := neq32 c25
        refine lv_iload_n hx hb dX8_line_33 rfl (lv_at hl 0 rfl) ?_
        exact W.iret (v := r19) hx hb hr (fun tS ht hW => ⟨⟨r19, σ20, rfl, ⟨Fr.tr (Fr.tr (Fr.rf) hF13 (fO_sub (fun _ q => q))) hF22 (fO_sub (fun _ q => q)), hJ23, (show (-2 : Int) ≤ r19.toInt ∧ r19.toInt ≤ 511 from (by have f0 := b24; have f1 := k30; have g0 := rg32 r19; have zm1 : ((-1) : Int32).toInt = (-1) := (by decide); omega)), trivial⟩, (show va_P D clz (WD8 cy g σ20) tS.heap by rw [ht]; exact hP)⟩, hS.F ht⟩) hS.2.2 dX8_line_34
  ·
    have k31 := peq32 c7
    refine lv_bipush (v := (-2)) hx hb dX8_line_11 (by decide) ?_
    exact W.iret (v := (-2)) hx hb hr (fun tS ht hW => ⟨⟨(-2), σ, rfl, ⟨Fr.rf, hJ, (show (-2 : Int) ≤ ((-2) : Int32).toInt ∧ ((-2) : Int32).toInt ≤ 511 from (by have zm2 : ((-2) : Int32).toInt = (-2) := (by decide); omega)), trivial⟩, (show va_P D clz (WD8 cy g σ) tS.heap by rw [ht]; exact hP)⟩, hS.F ht⟩) hS.2.2 dX8_line_13

theorem q1228 : Cond.code yX8_best cX8_best 7 (some .int) ∈ lw_g := lw_gm (List.mem_of_getElem? (i := 1228) (by decide +kernel)) rfl
theorem dX8_best_0 : decode cX8_best 0 = .ok (.aload_n 0, 1) := by decide +kernel
theorem dX8_best_1 : decode cX8_best 1 = .ok (.getfield 19, 3) := by decide +kernel
theorem dX8_best_4 : decode cX8_best 4 = .ok (.iload_n 1, 1) := by decide +kernel
theorem dX8_best_5 : decode cX8_best 5 = .ok (.invokevirtual 142, 3) := by decide +kernel
theorem dX8_best_8 : decode cX8_best 8 = .ok (.ifCond .ne 6, 3) := by decide +kernel
theorem dX8_best_11 : decode cX8_best 11 = .ok (.bipush (-2), 2) := by decide +kernel
theorem dX8_best_13 : decode cX8_best 13 = .ok (.ireturn, 1) := by decide +kernel
theorem dX8_best_14 : decode cX8_best 14 = .ok (.iconst (-1), 1) := by decide +kernel
theorem dX8_best_15 : decode cX8_best 15 = .ok (.istore_n 2, 1) := by decide +kernel
theorem dX8_best_16 : decode cX8_best 16 = .ok (.iconst 0, 1) := by decide +kernel
theorem dX8_best_17 : decode cX8_best 17 = .ok (.istore_n 3, 1) := by decide +kernel
theorem dX8_best_18 : decode cX8_best 18 = .ok (.iconst 0, 1) := by decide +kernel
theorem dX8_best_19 : decode cX8_best 19 = .ok (.istore 4, 2) := by decide +kernel
theorem dX8_best_21 : decode cX8_best 21 = .ok (.iconst 0, 1) := by decide +kernel
theorem dX8_best_22 : decode cX8_best 22 = .ok (.istore 5, 2) := by decide +kernel
theorem dX8_best_24 : decode cX8_best 24 = .ok (.iload 5, 2) := by decide +kernel
theorem dX8_best_26 : decode cX8_best 26 = .ok (.aload_n 0, 1) := by decide +kernel
theorem dX8_best_27 : decode cX8_best 27 = .ok (.getfield 19, 3) := by decide +kernel
theorem dX8_best_30 : decode cX8_best 30 = .ok (.getfield 113, 3) := by decide +kernel
theorem dX8_best_33 : decode cX8_best 33 = .ok (.if_icmp .ge 93, 3) := by decide +kernel
theorem dX8_best_36 : decode cX8_best 36 = .ok (.aload_n 0, 1) := by decide +kernel
theorem dX8_best_37 : decode cX8_best 37 = .ok (.iload 5, 2) := by decide +kernel
theorem dX8_best_39 : decode cX8_best 39 = .ok (.iload_n 1, 1) := by decide +kernel
theorem dX8_best_40 : decode cX8_best 40 = .ok (.invokevirtual 248, 3) := by decide +kernel
theorem dX8_best_43 : decode cX8_best 43 = .ok (.ifCond .eq 6, 3) := by decide +kernel
theorem dX8_best_46 : decode cX8_best 46 = .ok (.goto 74, 3) := by decide +kernel
theorem dX8_best_49 : decode cX8_best 49 = .ok (.aload_n 0, 1) := by decide +kernel
theorem dX8_best_50 : decode cX8_best 50 = .ok (.getfield 53, 3) := by decide +kernel
theorem dX8_best_53 : decode cX8_best 53 = .ok (.getfield 251, 3) := by decide +kernel
theorem dX8_best_56 : decode cX8_best 56 = .ok (.iload_n 3, 1) := by decide +kernel
theorem dX8_best_57 : decode cX8_best 57 = .ok (.if_icmp .lt 26, 3) := by decide +kernel
theorem dX8_best_60 : decode cX8_best 60 = .ok (.aload_n 0, 1) := by decide +kernel
theorem dX8_best_61 : decode cX8_best 61 = .ok (.getfield 53, 3) := by decide +kernel
theorem dX8_best_64 : decode cX8_best 64 = .ok (.getfield 251, 3) := by decide +kernel
theorem dX8_best_67 : decode cX8_best 67 = .ok (.iload_n 3, 1) := by decide +kernel
theorem dX8_best_68 : decode cX8_best 68 = .ok (.if_icmp .ne 19, 3) := by decide +kernel
theorem dX8_best_71 : decode cX8_best 71 = .ok (.aload_n 0, 1) := by decide +kernel
theorem dX8_best_72 : decode cX8_best 72 = .ok (.getfield 53, 3) := by decide +kernel
theorem dX8_best_75 : decode cX8_best 75 = .ok (.getfield 254, 3) := by decide +kernel
theorem dX8_best_78 : decode cX8_best 78 = .ok (.iload 4, 2) := by decide +kernel
theorem dX8_best_80 : decode cX8_best 80 = .ok (.if_icmp .ge 7, 3) := by decide +kernel
theorem dX8_best_83 : decode cX8_best 83 = .ok (.iconst 1, 1) := by decide +kernel
theorem dX8_best_84 : decode cX8_best 84 = .ok (.goto 4, 3) := by decide +kernel
theorem dX8_best_87 : decode cX8_best 87 = .ok (.iconst 0, 1) := by decide +kernel
theorem dX8_best_88 : decode cX8_best 88 = .ok (.istore 6, 2) := by decide +kernel
theorem dX8_best_90 : decode cX8_best 90 = .ok (.iload_n 2, 1) := by decide +kernel
theorem dX8_best_91 : decode cX8_best 91 = .ok (.iconst (-1), 1) := by decide +kernel
theorem dX8_best_92 : decode cX8_best 92 = .ok (.if_icmp .eq 8, 3) := by decide +kernel
theorem dX8_best_95 : decode cX8_best 95 = .ok (.iload 6, 2) := by decide +kernel
theorem dX8_best_97 : decode cX8_best 97 = .ok (.ifCond .eq 23, 3) := by decide +kernel
theorem dX8_best_100 : decode cX8_best 100 = .ok (.iload 5, 2) := by decide +kernel
theorem dX8_best_102 : decode cX8_best 102 = .ok (.istore_n 2, 1) := by decide +kernel
theorem dX8_best_103 : decode cX8_best 103 = .ok (.aload_n 0, 1) := by decide +kernel
theorem dX8_best_104 : decode cX8_best 104 = .ok (.getfield 53, 3) := by decide +kernel
theorem dX8_best_107 : decode cX8_best 107 = .ok (.getfield 251, 3) := by decide +kernel
theorem dX8_best_110 : decode cX8_best 110 = .ok (.istore_n 3, 1) := by decide +kernel
theorem dX8_best_111 : decode cX8_best 111 = .ok (.aload_n 0, 1) := by decide +kernel
theorem dX8_best_112 : decode cX8_best 112 = .ok (.getfield 53, 3) := by decide +kernel
theorem dX8_best_115 : decode cX8_best 115 = .ok (.getfield 254, 3) := by decide +kernel
theorem dX8_best_118 : decode cX8_best 118 = .ok (.istore 4, 2) := by decide +kernel
theorem dX8_best_120 : decode cX8_best 120 = .ok (.iinc 5 1, 3) := by decide +kernel
theorem dX8_best_123 : decode cX8_best 123 = .ok (.goto (-99), 3) := by decide +kernel
theorem dX8_best_126 : decode cX8_best 126 = .ok (.iload_n 2, 1) := by decide +kernel
theorem dX8_best_127 : decode cX8_best 127 = .ok (.ireturn, 1) := by decide +kernel
set_option maxHeartbeats 4000000 in
set_option maxRecDepth 100000 in
theorem m_X8_best (l : Launch) (D : va_G) (cy : Nat → ClassId) (g : Nat → Nat) (σ : ST) (p1 : Int32) (sz : Nat) (hJ : J8 σ)  : Met l yX8_best (ww yX8_best cX8_best 7 (some .int)) ({ frames := 7, cells := 0, slots := 0, locals := 448 }) (va_Pc [.ref (gO g 17), .int p1] (pr8 D cy g σ sz)) (qi8 D cy g sz (fun r τ => Fr (fO [11, 13]) σ τ ∧ J8 τ ∧ ((-2 : Int) ≤ r.toInt ∧ r.toInt ≤ 8) ∧ True)) 0 0 (A8 cy g sz) := by
  refine Met.ofW (cc := cX8_best) (maxL := 7) (ret := (some .int)) (by decide) rfl ?_
  intro p e s m args below meth c s₁ B hml hv
  obtain ⟨rfl, hsz, hP, hK, hD0, hC⟩ := hv
  have hx := B.exec
  have hb := B.bytes
  have hr := B.returns
  have hts := hts_g (atoms_spec (ws := ww yX8_best cX8_best 7 (some .int)) B.pre)
  have hown : s.vm.findClass RX8 = some m.cls := findClass_of_methodNamed B.named
  have hlocks := B.notSynchronized
  clear B
  subst hsz
  have hD := fun τ => A8_D (sz := s.heap.size) hD0 τ
  clear hD0
  have hS : va_S (A8 cy g s.heap.size) s.heap s.heap [] := va_S.rf
  have hl := lv_entry ([.ref (gO g 17), .int p1]) (n := 7) (Nat.le_of_ble_eq_true rfl)
  rw [lg_entry_eq]
  generalize (lg_sl ([.ref (gO g 17), .int p1]) ++ List.replicate (7 - (lg_sl ([.ref (gO g 17), .int p1])).length) Slot.unset).toArray = ls at hl ⊢
  have hl : lv_has ls 7 [(0, .ref (gO g 17)), (1, .int p1)] := hl
  refine lv_aload_n hx hb dX8_best_0 rfl (lv_at hl 0 rfl) ?_
  obtain ⟨dx1, edx1⟩ : ∃ z : Nat, ((σ 17).1 1).toInt.toNat = z := ⟨_, rfl⟩
  have hdx1 : 0 ≤ dx1 ∧ dx1 < 5 := mnow (by have f0 := j8_8_1 hJ rfl; omega) edx1
  refine g8_8_1 (o := dx1) hx hb hts hown hK hP edx1 (hts _ q435) dX8_best_1 ?_
  refine lv_iload_n hx hb dX8_best_4 rfl (lv_at hl 1 rfl) ?_
  refine va_calli (va_runV (As := [.int p1]) (rest := []) ⟨hx, hb, hml, hown, hts⟩ (m_X0_hasPart l D cy g σ  dx1 p1 _ hJ (show 0 ≤ dx1 ∧ dx1 < 5 from hdx1)) (cwV 1 hts (gd_V q738 q649 q650 q127 q651) rfl rfl rfl (by decide +kernel) ⟨(Nat.le_of_ble_eq_true rfl), (Nat.le_of_ble_eq_true rfl)⟩) (pv8 hP hK hD hC hS (rv8_0 hK hP hdx1)) rfl rfl hl.1 rfl (lv_room (Nat.le_of_ble_eq_true rfl)) dX8_best_5 ⟨Nat.le_of_ble_eq_true rfl, Nat.le_of_ble_eq_true rfl⟩) hS (fun q _ h => up8 hS q h) (up8 hS) (fun r2 σ3 tS H1 locs ht hvm hw4 hB hz1 hk1 hS => ?_)
  have hP : va_P D clz (WD8 cy g σ3) H1 := by rw [← ht]; exact hB
  clear hB hz1 hk1 hvm ht
  generalize H1 = H at hP hS ⊢
  have hw4E : σ = σ3 := (hw4.1).symm
  subst hw4E
  have b5 : (0 : Int) ≤ r2.toInt ∧ r2.toInt ≤ 1 := hw4.2.1
  have b6 : (r2.toInt = 0) ∨ ((0 : Int) ≤ p1.toInt ∧ p1.toInt ≤ 2) := hw4.2.2.1
  refine lv_if_ne (tgt := 14) hx hb dX8_best_8 (by decide) (fun c7 => ?_) (fun c7 => ?_)
  ·
    have k8 := neq32 c7
    refine lv_iconst (v := (-1)) hx hb dX8_best_14 (by decide) ?_
    refine lv_istore_n (lv' := [(2, .int (-1)), (0, .ref (gO g 17)), (1, .int p1)]) hx hb dX8_best_15 rfl hl (by decide) rfl (fun ls hl => ?_)
    refine lv_iconst (v := 0) hx hb dX8_best_16 (by decide) ?_
    refine lv_istore_n (lv' := [(3, .int 0), (2, .int (-1)), (0, .ref (gO g 17)), (1, .int p1)]) hx hb dX8_best_17 rfl hl (by decide) rfl (fun ls hl => ?_)
    refine lv_iconst (v := 0) hx hb dX8_best_18 (by decide) ?_
    refine lv_istore (lv' := [(4, .int 0), (3, .int 0), (2, .int (-1)), (0, .ref (gO g 17)), (1, .int p1)]) hx hb dX8_best_19 hl (by decide) rfl (fun ls hl => ?_)
    refine lv_iconst (v := 0) hx hb dX8_best_21 (by decide) ?_
    refine lv_istore (lv' := [(5, .int 0), (4, .int 0), (3, .int 0), (2, .int (-1)), (0, .ref (gO g 17)), (1, .int p1)]) hx hb dX8_best_22 hl (by decide) rfl (fun ls hl => ?_)
    refine loop8 7 24 (fun x : LZ => [(5, .int (x.2.1 0)), (4, .int (x.2.1 1)), (3, .int (x.2.1 2)), (2, .int (x.2.1 3)), (0, .ref (gO g 17)), (1, .int p1)]) (fun x : LZ => (Fr (fO [11, 13]) σ x.1) ∧ (J8 x.1) ∧ ((0 : Int) ≤ (x.2.1 0).toInt ∧ (x.2.1 0).toInt ≤ 9) ∧ ((-1 : Int) ≤ (x.2.1 3).toInt ∧ (x.2.1 3).toInt ≤ 8) ∧ True) (fun x : LZ => ((10 : Int) - (x.2.1 0).toInt).toNat) ?_ (σ, lf [0, 0, 0, (-1)], lg []) ⟨Fr.rf, hJ, (show (0 : Int) ≤ (0 : Int32).toInt ∧ (0 : Int32).toInt ≤ 9 from (by have z0 : (0 : Int32).toInt = 0 := (by decide); omega)), (show (-1 : Int) ≤ ((-1) : Int32).toInt ∧ ((-1) : Int32).toInt ≤ 8 from (by have zm1 : ((-1) : Int32).toInt = (-1) := (by decide); omega)), trivial⟩ _ _ _ hP hS (lv_sub hl [0, 1, 2, 3, 4, 5] rfl)
    intro y11 hI10 nl9 H locs ls hP hS hl
    obtain ⟨σ12, eσ12⟩ : ∃ z, z = y11.1 := ⟨_, rfl⟩
    rw [← eσ12] at hP hI10
    have hF13 : Fr (fO [11, 13]) σ σ12 := hI10.1
    have hJ14 : J8 σ12 := hI10.2.1
    have b15 : (0 : Int) ≤ (y11.2.1 0).toInt ∧ (y11.2.1 0).toInt ≤ 9 := hI10.2.2.1
    have b16 : (-1 : Int) ≤ (y11.2.1 3).toInt ∧ (y11.2.1 3).toInt ≤ 8 := hI10.2.2.2.1
    have hl : lv_has ls 7 [(5, .int (y11.2.1 0)), (4, .int (y11.2.1 1)), (3, .int (y11.2.1 2)), (2, .int (y11.2.1 3)), (0, .ref (gO g 17)), (1, .int p1)] := hl
    refine lv_iload hx hb dX8_best_24 (lv_at hl 0 rfl) ?_
    refine lv_aload_n hx hb dX8_best_26 rfl (lv_at hl 4 rfl) ?_
    refine g8_8_1 (o := dx1) hx hb hts hown hK hP ((congrArg (fun z : Int32 => z.toInt.toNat) ((hF13 17 1 (fO_n (nmc (by decide) (nmc (by decide) nm0)))).1)).trans edx1) (hts _ q435) dX8_best_27 ?_
    refine g8_0_4 (x := ((σ dx1).1 4)) hx hb hts hown hK hP hdx1 ((hF13 dx1 4 (fO_n (nmc (nel hdx1 (by decide)) (nmc (nel hdx1 (by decide)) nm0)))).1) (hts _ q207) dX8_best_30 ?_
    refine lv_icmp_ge (tgt := 126) hx hb dX8_best_33 (by decide) (fun c17 => ?_) (fun c17 => ?_)
    ·
      have k18 := ple32 c17
      refine lv_iload_n hx hb dX8_best_126 rfl (lv_at hl 3 rfl) ?_
      exact W.iret (v := (y11.2.1 3)) hx hb hr (fun tS ht hW => ⟨⟨(y11.2.1 3), σ12, rfl, ⟨Fr.tr (Fr.rf) hF13 (fO_sub (fun _ q => q)), hJ14, (show (-2 : Int) ≤ (y11.2.1 3).toInt ∧ (y11.2.1 3).toInt ≤ 8 from (by have f0 := b16; have g0 := rg32 (y11.2.1 3); omega)), trivial⟩, (show va_P D clz (WD8 cy g σ12) tS.heap by rw [ht]; exact hP)⟩, hS.F ht⟩) hS.2.2 dX8_best_127
    ·
      have k19 := nle32 c17
      refine lv_aload_n hx hb dX8_best_36 rfl (lv_at hl 4 rfl) ?_
      refine lv_iload hx hb dX8_best_37 (lv_at hl 0 rfl) ?_
      refine lv_iload_n hx hb dX8_best_39 rfl (lv_at hl 5 rfl) ?_
      refine va_calli (va_runV (As := [.int (y11.2.1 0), .int p1]) (rest := []) ⟨hx, hb, hml, hown, hts⟩ (m_X8_layBest l D cy g σ12  (y11.2.1 0) p1 _ hJ14 ) (cwV 2 hts (gd_V q914 q916 q18 q125 q917) rfl rfl rfl (by decide +kernel) ⟨(Nat.le_of_ble_eq_true rfl), (Nat.le_of_ble_eq_true rfl)⟩) (pv8 hP hK hD hC hS (rv8_8 hK hP)) rfl rfl hl.1 rfl (lv_room (Nat.le_of_ble_eq_true rfl)) dX8_best_40 ⟨Nat.le_of_ble_eq_true rfl, Nat.le_of_ble_eq_true rfl⟩) hS (fun q _ h => up8 hS q h) (up8 hS) (fun r20 σ21 tS H1 locs ht hvm hw22 hB hz1 hk1 hS => ?_)
      have hP : va_P D clz (WD8 cy g σ21) H1 := by rw [← ht]; exact hB
      clear hB hz1 hk1 hvm ht
      generalize H1 = H at hP hS ⊢
      have hF23 : Fr (fO [11, 13]) σ12 σ21 := hw22.1
      have hJ24 : J8 σ21 := hw22.2.1
      have b25 : (-2 : Int) ≤ r20.toInt ∧ r20.toInt ≤ 0 := hw22.2.2.1
      refine cut8 (D := D) (cy := cy) (g := g) (A := A8 cy g s.heap.size) (H0 := s.heap) 7 120 (fun x : LZ => [(5, .int (y11.2.1 0)), (4, .int (x.2.1 0)), (3, .int (x.2.1 1)), (2, .int (x.2.1 2)), (0, .ref (gO g 17)), (1, .int p1)]) (fun x : LZ => []) (fun x : LZ => (x.1 = σ21) ∧ ((-1 : Int) ≤ (x.2.1 2).toInt ∧ (x.2.1 2).toInt ≤ 8) ∧ True) ?_ ?_
      ·
        intro y28 hI27 H locs ls hP hS hl
        rw [show y28.1 = σ21 from hI27.1] at hP
        have b29 : (-1 : Int) ≤ (y28.2.1 2).toInt ∧ (y28.2.1 2).toInt ≤ 8 := hI27.2.1
        have hl : lv_has ls 7 [(5, .int (y11.2.1 0)), (4, .int (y28.2.1 0)), (3, .int (y28.2.1 1)), (2, .int (y28.2.1 2)), (0, .ref (gO g 17)), (1, .int p1)] := hl
        obtain ⟨x30, ex30⟩ : ∃ y : Int32, y = (y11.2.1 0) + 1 := ⟨_, rfl⟩
        have t31 := addO ex30 (by have f0 := b15; have f1 := k19; have f2 := j8_0_4 hJ hdx1 rfl; have g0 := rg32 (y11.2.1 0); have z1 : (1 : Int32).toInt = 1 := (by decide); omega)
        refine lv_iinc (v := x30) (lv' := [(5, .int x30), (4, .int (y28.2.1 0)), (3, .int (y28.2.1 1)), (2, .int (y28.2.1 2)), (0, .ref (gO g 17)), (1, .int p1)]) hx hb dX8_best_120 hl (k := 0) rfl (by rw [ex30]; rfl) (by decide) rfl (fun ls hl => ?_)
        refine lv_goto (tgt := 24) hx hb dX8_best_123 (by decide) ?_
        have t32 : ((10 : Int) - x30.toInt).toNat < ((10 : Int) - (y11.2.1 0).toInt).toNat := (by have f0 := b15; have f1 := k19; have f2 := t31; have f3 := j8_0_4 hJ hdx1 rfl; have g0 := rg32 (y11.2.1 0); have g1 := rg32 x30; have z1 : (1 : Int32).toInt = 1 := (by decide); omega)
        exact nl9 (σ21, lf [x30, (y28.2.1 0), (y28.2.1 1), (y28.2.1 2)], lg []) ⟨Fr.tr (Fr.tr (Fr.rf) hF13 (fO_sub (fun _ q => q))) hF23 (fO_sub (fun _ q => q)), hJ24, (show (0 : Int) ≤ (x30 : Int32).toInt ∧ (x30 : Int32).toInt ≤ 9 from (by have f0 := t31; have f1 := b15; have f2 := k19; have f3 := j8_0_4 hJ hdx1 rfl; have g0 := rg32 x30; have z1 : (1 : Int32).toInt = 1 := (by decide); omega)), (show (-1 : Int) ≤ ((y28.2.1 2) : Int32).toInt ∧ ((y28.2.1 2) : Int32).toInt ≤ 8 from (by have f0 := b29; have g0 := rg32 (y28.2.1 2); omega)), trivial⟩ (show ((10 : Int) - x30.toInt).toNat < _ from by first | exact t32 | (rw [← eσ12]; exact t32)) _ _ _ hP hS (lv_sub hl [0, 1, 2, 3, 4, 5] rfl)
      ·
        intro nj26
        refine lv_if_eq (tgt := 49) hx hb dX8_best_43 (by decide) (fun c33 => ?_) (fun c33 => ?_)
        ·
          have k34 := peq32 c33
          refine lv_aload_n hx hb dX8_best_49 rfl (lv_at hl 4 rfl) ?_
          refine g8_8_8 hx hb hts hown hK hP (hts _ q442) dX8_best_50 ?_
          refine g8_3_1 (x := ((σ21 13).1 1)) hx hb hts hown hK hP (rfl) (hts _ q283) dX8_best_53 ?_
          refine lv_iload_n hx hb dX8_best_56 rfl (lv_at hl 2 rfl) ?_
          refine cut8 (D := D) (cy := cy) (g := g) (A := A8 cy g s.heap.size) (H0 := s.heap) 7 88 (fun x : LZ => [(5, .int (y11.2.1 0)), (4, .int (y11.2.1 1)), (3, .int (y11.2.1 2)), (2, .int (y11.2.1 3)), (0, .ref (gO g 17)), (1, .int p1)]) (fun x : LZ => [.int (x.2.1 0)]) (fun x : LZ => (x.1 = σ21) ∧ ((0 : Int) ≤ (x.2.1 0).toInt ∧ (x.2.1 0).toInt ≤ 1) ∧ True) ?_ ?_
          ·
            intro y37 hI36 H locs ls hP hS hl
            rw [show y37.1 = σ21 from hI36.1] at hP
            have b38 : (0 : Int) ≤ (y37.2.1 0).toInt ∧ (y37.2.1 0).toInt ≤ 1 := hI36.2.1
            have hl : lv_has ls 7 [(5, .int (y11.2.1 0)), (4, .int (y11.2.1 1)), (3, .int (y11.2.1 2)), (2, .int (y11.2.1 3)), (0, .ref (gO g 17)), (1, .int p1)] := hl
            refine W.eq (g2 := F0 m 88 ls [.int (y37.2.1 0)]) rfl ?_
            refine lv_istore (lv' := [(6, .int (y37.2.1 0)), (5, .int (y11.2.1 0)), (4, .int (y11.2.1 1)), (3, .int (y11.2.1 2)), (2, .int (y11.2.1 3)), (0, .ref (gO g 17)), (1, .int p1)]) hx hb dX8_best_88 hl (by decide) rfl (fun ls hl => ?_)
            refine lv_iload_n hx hb dX8_best_90 rfl (lv_at hl 4 rfl) ?_
            refine lv_iconst (v := (-1)) hx hb dX8_best_91 (by decide) ?_
            refine cut8 (D := D) (cy := cy) (g := g) (A := A8 cy g s.heap.size) (H0 := s.heap) 7 100 (fun x : LZ => [(6, .int (y37.2.1 0)), (5, .int (y11.2.1 0)), (4, .int (y11.2.1 1)), (3, .int (y11.2.1 2)), (2, .int (y11.2.1 3)), (0, .ref (gO g 17)), (1, .int p1)]) (fun x : LZ => []) (fun x : LZ => (x.1 = σ21) ∧ True) ?_ ?_
            ·
              intro y41 hI40 H locs ls hP hS hl
              rw [show y41.1 = σ21 from hI40.1] at hP
              have hl : lv_has ls 7 [(6, .int (y37.2.1 0)), (5, .int (y11.2.1 0)), (4, .int (y11.2.1 1)), (3, .int (y11.2.1 2)), (2, .int (y11.2.1 3)), (0, .ref (gO g 17)), (1, .int p1)] := hl
              refine lv_iload hx hb dX8_best_100 (lv_at hl 1 rfl) ?_
              refine lv_istore_n (lv' := [(2, .int (y11.2.1 0)), (6, .int (y37.2.1 0)), (5, .int (y11.2.1 0)), (4, .int (y11.2.1 1)), (3, .int (y11.2.1 2)), (0, .ref (gO g 17)), (1, .int p1)]) hx hb dX8_best_102 rfl hl (by decide) rfl (fun ls hl => ?_)
              refine lv_aload_n hx hb dX8_best_103 rfl (lv_at hl 5 rfl) ?_
              refine g8_8_8 hx hb hts hown hK hP (hts _ q442) dX8_best_104 ?_
              refine g8_3_1 (x := ((σ21 13).1 1)) hx hb hts hown hK hP (rfl) (hts _ q283) dX8_best_107 ?_
              refine lv_istore_n (lv' := [(3, .int ((σ21 13).1 1)), (2, .int (y11.2.1 0)), (6, .int (y37.2.1 0)), (5, .int (y11.2.1 0)), (4, .int (y11.2.1 1)), (0, .ref (gO g 17)), (1, .int p1)]) hx hb dX8_best_110 rfl hl (by decide) rfl (fun ls hl => ?_)
              refine lv_aload_n hx hb dX8_best_111 rfl (lv_at hl 5 rfl) ?_
              refine g8_8_8 hx hb hts hown hK hP (hts _ q442) dX8_best_112 ?_
              refine g8_3_2 (x := ((σ21 13).1 2)) hx hb hts hown hK hP (rfl) (hts _ q285) dX8_best_115 ?_
              refine lv_istore (lv' := [(4, .int ((σ21 13).1 2)), (3, .int ((σ21 13).1 1)), (2, .int (y11.2.1 0)), (6, .int (y37.2.1 0)), (5, .int (y11.2.1 0)), (0, .ref (gO g 17)), (1, .int p1)]) hx hb dX8_best_118 hl (by decide) rfl (fun ls hl => ?_)
              exact nj26 (σ21, lf [((σ21 13).1 2), ((σ21 13).1 1), (y11.2.1 0)], lg []) ⟨rfl, (show (-1 : Int) ≤ ((y11.2.1 0) : Int32).toInt ∧ ((y11.2.1 0) : Int32).toInt ≤ 8 from (by have f0 := b15; have f1 := k19; have f2 := j8_0_4 hJ hdx1 rfl; have g0 := rg32 (y11.2.1 0); omega)), trivial⟩ _ _ _ hP hS (lv_sub hl [4, 0, 1, 2, 5, 6] rfl)
            ·
              intro nj39
              refine lv_icmp_eq (tgt := 100) hx hb dX8_best_92 (by decide) (fun c42 => ?_) (fun c42 => ?_)
              ·
                have k43 := peq32 c42
                exact nj39 (σ21, lf [], lg []) ⟨rfl, trivial⟩ _ _ _ hP hS (lv_sub hl [0, 1, 2, 3, 4, 5, 6] rfl)
              ·
                have k44 := neq32 c42
                refine lv_iload hx hb dX8_best_95 (lv_at hl 0 rfl) ?_
                refine lv_if_eq (tgt := 120) hx hb dX8_best_97 (by decide) (fun c45 => ?_) (fun c45 => ?_)
                ·
                  have k46 := peq32 c45
                  exact nj26 (σ21, lf [(y11.2.1 1), (y11.2.1 2), (y11.2.1 3)], lg []) ⟨rfl, (show (-1 : Int) ≤ ((y11.2.1 3) : Int32).toInt ∧ ((y11.2.1 3) : Int32).toInt ≤ 8 from (by have f0 := b16; have f1 := k44; have g0 := rg32 (y11.2.1 3); have zm1 : ((-1) : Int32).toInt = (-1) := (by decide); omega)), trivial⟩ _ _ _ hP hS (lv_sub hl [1, 2, 3, 4, 5, 6] rfl)
                ·
                  have k47 := neq32 c45
                  exact nj39 (σ21, lf [], lg []) ⟨rfl, trivial⟩ _ _ _ hP hS (lv_sub hl [0, 1, 2, 3, 4, 5, 6] rfl)
          ·
            intro nj35
            refine cut8 (D := D) (cy := cy) (g := g) (A := A8 cy g s.heap.size) (H0 := s.heap) 7 83 (fun x : LZ => [(5, .int (y11.2.1 0)), (4, .int (y11.2.1 1)), (3, .int (y11.2.1 2)), (2, .int (y11.2.1 3)), (0, .ref (gO g 17)), (1, .int p1)]) (fun x : LZ => []) (fun x : LZ => (x.1 = σ21) ∧ True) ?_ ?_
            ·
              intro y50 hI49 H locs ls hP hS hl
              rw [show y50.1 = σ21 from hI49.1] at hP
              have hl : lv_has ls 7 [(5, .int (y11.2.1 0)), (4, .int (y11.2.1 1)), (3, .int (y11.2.1 2)), (2, .int (y11.2.1 3)), (0, .ref (gO g 17)), (1, .int p1)] := hl
              refine lv_iconst (v := 1) hx hb dX8_best_83 (by decide) ?_
              refine lv_goto (tgt := 88) hx hb dX8_best_84 (by decide) ?_
              exact nj35 (σ21, lf [1], lg []) ⟨rfl, (show (0 : Int) ≤ (1 : Int32).toInt ∧ (1 : Int32).toInt ≤ 1 from (by have z1 : (1 : Int32).toInt = 1 := (by decide); omega)), trivial⟩ _ _ _ hP hS (lv_sub hl [0, 1, 2, 3, 4, 5] rfl)
            ·
              intro nj48
              refine lv_icmp_lt (tgt := 83) hx hb dX8_best_57 (by decide) (fun c51 => ?_) (fun c51 => ?_)
              ·
                have k52 := plt32 c51
                exact nj48 (σ21, lf [], lg []) ⟨rfl, trivial⟩ _ _ _ hP hS (lv_sub hl [0, 1, 2, 3, 4, 5] rfl)
              ·
                have k53 := nlt32 c51
                refine lv_aload_n hx hb dX8_best_60 rfl (lv_at hl 4 rfl) ?_
                refine g8_8_8 hx hb hts hown hK hP (hts _ q442) dX8_best_61 ?_
                refine g8_3_1 (x := ((σ21 13).1 1)) hx hb hts hown hK hP (rfl) (hts _ q283) dX8_best_64 ?_
                refine lv_iload_n hx hb dX8_best_67 rfl (lv_at hl 2 rfl) ?_
                refine cut8 (D := D) (cy := cy) (g := g) (A := A8 cy g s.heap.size) (H0 := s.heap) 7 87 (fun x : LZ => [(5, .int (y11.2.1 0)), (4, .int (y11.2.1 1)), (3, .int (y11.2.1 2)), (2, .int (y11.2.1 3)), (0, .ref (gO g 17)), (1, .int p1)]) (fun x : LZ => []) (fun x : LZ => (x.1 = σ21) ∧ True) ?_ ?_
                ·
                  intro y56 hI55 H locs ls hP hS hl
                  rw [show y56.1 = σ21 from hI55.1] at hP
                  have hl : lv_has ls 7 [(5, .int (y11.2.1 0)), (4, .int (y11.2.1 1)), (3, .int (y11.2.1 2)), (2, .int (y11.2.1 3)), (0, .ref (gO g 17)), (1, .int p1)] := hl
                  refine lv_iconst (v := 0) hx hb dX8_best_87 (by decide) ?_
                  exact nj35 (σ21, lf [0], lg []) ⟨rfl, (show (0 : Int) ≤ (0 : Int32).toInt ∧ (0 : Int32).toInt ≤ 1 from (by have z0 : (0 : Int32).toInt = 0 := (by decide); omega)), trivial⟩ _ _ _ hP hS (lv_sub hl [0, 1, 2, 3, 4, 5] rfl)
                ·
                  intro nj54
                  refine lv_icmp_ne (tgt := 87) hx hb dX8_best_68 (by decide) (fun c57 => ?_) (fun c57 => ?_)
                  ·
                    have k58 := neq32 c57
                    exact nj54 (σ21, lf [], lg []) ⟨rfl, trivial⟩ _ _ _ hP hS (lv_sub hl [0, 1, 2, 3, 4, 5] rfl)
                  ·
                    have k59 := peq32 c57
                    refine lv_aload_n hx hb dX8_best_71 rfl (lv_at hl 4 rfl) ?_
                    refine g8_8_8 hx hb hts hown hK hP (hts _ q442) dX8_best_72 ?_
                    refine g8_3_2 (x := ((σ21 13).1 2)) hx hb hts hown hK hP (rfl) (hts _ q285) dX8_best_75 ?_
                    refine lv_iload hx hb dX8_best_78 (lv_at hl 1 rfl) ?_
                    refine lv_icmp_ge (tgt := 87) hx hb dX8_best_80 (by decide) (fun c60 => ?_) (fun c60 => ?_)
                    ·
                      have k61 := ple32 c60
                      exact nj54 (σ21, lf [], lg []) ⟨rfl, trivial⟩ _ _ _ hP hS (lv_sub hl [0, 1, 2, 3, 4, 5] rfl)
                    ·
                      have k62 := nle32 c60
                      exact nj48 (σ21, lf [], lg []) ⟨rfl, trivial⟩ _ _ _ hP hS (lv_sub hl [0, 1, 2, 3, 4, 5] rfl)
        ·
          have k63 := neq32 c33
          refine lv_goto (tgt := 120) hx hb dX8_best_46 (by decide) ?_
          exact nj26 (σ21, lf [(y11.2.1 1), (y11.2.1 2), (y11.2.1 3)], lg []) ⟨rfl, (show (-1 : Int) ≤ ((y11.2.1 3) : Int32).toInt ∧ ((y11.2.1 3) : Int32).toInt ≤ 8 from (by have f0 := b16; have g0 := rg32 (y11.2.1 3); omega)), trivial⟩ _ _ _ hP hS (lv_sub hl [0, 1, 2, 3, 4, 5] rfl)
  ·
    have k64 := peq32 c7
    refine lv_bipush (v := (-2)) hx hb dX8_best_11 (by decide) ?_
    exact W.iret (v := (-2)) hx hb hr (fun tS ht hW => ⟨⟨(-2), σ, rfl, ⟨Fr.rf, hJ, (show (-2 : Int) ≤ ((-2) : Int32).toInt ∧ ((-2) : Int32).toInt ≤ 8 from (by have zm2 : ((-2) : Int32).toInt = (-2) := (by decide); omega)), trivial⟩, (show va_P D clz (WD8 cy g σ) tS.heap by rw [ht]; exact hP)⟩, hS.F ht⟩) hS.2.2 dX8_best_13

theorem q1240 : Cond.code yX6_setCost cX6_setCost 4 none ∈ lw_g := lw_gm (List.mem_of_getElem? (i := 1240) (by decide +kernel)) rfl
theorem q401 : Cond.fieldLink RX6 9 "LipsAndSlides$Sharing" "costs" "[I" ∈ lw_g := lw_gm (List.mem_of_getElem? (i := 401) (by decide +kernel)) rfl
theorem dX6_setCost_0 : decode cX6_setCost 0 = .ok (.iload_n 1, 1) := by decide +kernel
theorem dX6_setCost_1 : decode cX6_setCost 1 = .ok (.ifCond .lt 29, 3) := by decide +kernel
theorem dX6_setCost_4 : decode cX6_setCost 4 = .ok (.iload_n 1, 1) := by decide +kernel
theorem dX6_setCost_5 : decode cX6_setCost 5 = .ok (.bipush 9, 2) := by decide +kernel
theorem dX6_setCost_7 : decode cX6_setCost 7 = .ok (.if_icmp .ge 23, 3) := by decide +kernel
theorem dX6_setCost_10 : decode cX6_setCost 10 = .ok (.iload_n 2, 1) := by decide +kernel
theorem dX6_setCost_11 : decode cX6_setCost 11 = .ok (.ifCond .lt 19, 3) := by decide +kernel
theorem dX6_setCost_14 : decode cX6_setCost 14 = .ok (.iload_n 2, 1) := by decide +kernel
theorem dX6_setCost_15 : decode cX6_setCost 15 = .ok (.iconst 3, 1) := by decide +kernel
theorem dX6_setCost_16 : decode cX6_setCost 16 = .ok (.if_icmp .ge 14, 3) := by decide +kernel
theorem dX6_setCost_19 : decode cX6_setCost 19 = .ok (.aload_n 0, 1) := by decide +kernel
theorem dX6_setCost_20 : decode cX6_setCost 20 = .ok (.getfield 9, 3) := by decide +kernel
theorem dX6_setCost_23 : decode cX6_setCost 23 = .ok (.iload_n 1, 1) := by decide +kernel
theorem dX6_setCost_24 : decode cX6_setCost 24 = .ok (.iconst 3, 1) := by decide +kernel
theorem dX6_setCost_25 : decode cX6_setCost 25 = .ok (.imul, 1) := by decide +kernel
theorem dX6_setCost_26 : decode cX6_setCost 26 = .ok (.iload_n 2, 1) := by decide +kernel
theorem dX6_setCost_27 : decode cX6_setCost 27 = .ok (.iadd, 1) := by decide +kernel
theorem dX6_setCost_28 : decode cX6_setCost 28 = .ok (.iload_n 3, 1) := by decide +kernel
theorem dX6_setCost_29 : decode cX6_setCost 29 = .ok (.iastore, 1) := by decide +kernel
theorem dX6_setCost_30 : decode cX6_setCost 30 = .ok (.return_, 1) := by decide +kernel
set_option maxHeartbeats 4000000 in
set_option maxRecDepth 100000 in
theorem m_X6_setCost (l : Launch) (D : va_G) (cy : Nat → ClassId) (g : Nat → Nat) (σ : ST) (p1 : Int32) (p2 : Int32) (p3 : Int32) (sz : Nat) (hJ : J8 σ) (h0 : (0 : Int) ≤ p1.toInt ∧ p1.toInt ≤ 8) (h1 : (0 : Int) ≤ p2.toInt ∧ p2.toInt ≤ 2) : Met l yX6_setCost (ww yX6_setCost cX6_setCost 4 none) ({ frames := 1, cells := 0, slots := 0, locals := 64 }) (va_Pc [.ref (gO g 16), .int p1, .int p2, .int p3] (pr8 D cy g σ sz)) (qv8 D cy g sz (fun τ => Fr (fO [16]) σ τ ∧ J8 τ ∧ True)) 0 0 (A8 cy g sz) := by
  refine Met.ofW (cc := cX6_setCost) (maxL := 4) (ret := none) (by decide) rfl ?_
  intro p e s m args below meth c s₁ B hml hv
  obtain ⟨rfl, hsz, hP, hK, hD0, hC⟩ := hv
  have hx := B.exec
  have hb := B.bytes
  have hr := B.returns
  have hts := hts_g (atoms_spec (ws := ww yX6_setCost cX6_setCost 4 none) B.pre)
  have hown : s.vm.findClass RX6 = some m.cls := findClass_of_methodNamed B.named
  have hlocks := B.notSynchronized
  clear B
  subst hsz
  have hD := fun τ => A8_D (sz := s.heap.size) hD0 τ
  clear hD0
  have hS : va_S (A8 cy g s.heap.size) s.heap s.heap [] := va_S.rf
  have hl := lv_entry ([.ref (gO g 16), .int p1, .int p2, .int p3]) (n := 4) (Nat.le_of_ble_eq_true rfl)
  rw [lg_entry_eq]
  generalize (lg_sl ([.ref (gO g 16), .int p1, .int p2, .int p3]) ++ List.replicate (4 - (lg_sl ([.ref (gO g 16), .int p1, .int p2, .int p3])).length) Slot.unset).toArray = ls at hl ⊢
  have hl : lv_has ls 4 [(0, .ref (gO g 16)), (1, .int p1), (2, .int p2), (3, .int p3)] := hl
  refine lv_iload_n hx hb dX6_setCost_0 rfl (lv_at hl 1 rfl) ?_
  refine lv_if_lt (tgt := 30) hx hb dX6_setCost_1 (by decide) (fun c1 => ?_) (fun c1 => ?_)
  ·
    have k2 := plt32 c1
    exact False.elim (by have f0 := h0; have f1 := k2; have g0 := rg32 p1; have z0 : (0 : Int32).toInt = 0 := (by decide); omega)
  ·
    have k3 := nlt32 c1
    refine lv_iload_n hx hb dX6_setCost_4 rfl (lv_at hl 1 rfl) ?_
    refine lv_bipush (v := 9) hx hb dX6_setCost_5 (by decide) ?_
    refine lv_icmp_ge (tgt := 30) hx hb dX6_setCost_7 (by decide) (fun c4 => ?_) (fun c4 => ?_)
    ·
      have k5 := ple32 c4
      exact False.elim (by have f0 := h0; have f1 := k3; have f2 := k5; have g0 := rg32 p1; have z0 : (0 : Int32).toInt = 0 := (by decide); have z9 : (9 : Int32).toInt = 9 := (by decide); omega)
    ·
      have k6 := nle32 c4
      refine lv_iload_n hx hb dX6_setCost_10 rfl (lv_at hl 2 rfl) ?_
      refine lv_if_lt (tgt := 30) hx hb dX6_setCost_11 (by decide) (fun c7 => ?_) (fun c7 => ?_)
      ·
        have k8 := plt32 c7
        exact False.elim (by have f0 := h1; have f1 := k8; have g0 := rg32 p2; have z0 : (0 : Int32).toInt = 0 := (by decide); omega)
      ·
        have k9 := nlt32 c7
        refine lv_iload_n hx hb dX6_setCost_14 rfl (lv_at hl 2 rfl) ?_
        refine lv_iconst (v := 3) hx hb dX6_setCost_15 (by decide) ?_
        refine lv_icmp_ge (tgt := 30) hx hb dX6_setCost_16 (by decide) (fun c10 => ?_) (fun c10 => ?_)
        ·
          have k11 := ple32 c10
          exact False.elim (by have f0 := h1; have f1 := k9; have f2 := k11; have g0 := rg32 p2; have z0 : (0 : Int32).toInt = 0 := (by decide); have z3 : (3 : Int32).toInt = 3 := (by decide); omega)
        ·
          have k12 := nle32 c10
          refine lv_aload_n hx hb dX6_setCost_19 rfl (lv_at hl 0 rfl) ?_
          refine g8_6_0 hx hb hts hown hK hP (hts _ q401) dX6_setCost_20 ?_
          refine lv_iload_n hx hb dX6_setCost_23 rfl (lv_at hl 1 rfl) ?_
          refine lv_iconst (v := 3) hx hb dX6_setCost_24 (by decide) ?_
          refine lv_imul hx hb dX6_setCost_25 ?_
          refine lv_topi (fun x13 ex13 => ?_)
          have t14 := mulC (n := 3) ex13 (by decide) (by have f0 := h0; have f1 := k3; have f2 := k6; have g0 := rg32 p1; have z0 : (0 : Int32).toInt = 0 := (by decide); have z9 : (9 : Int32).toInt = 9 := (by decide); omega)
          refine lv_iload_n hx hb dX6_setCost_26 rfl (lv_at hl 2 rfl) ?_
          refine lv_iadd hx hb dX6_setCost_27 ?_
          refine lv_topi (fun x15 ex15 => ?_)
          have t16 := addO ex15 (by have f0 := h1; have f1 := k9; have f2 := k12; have f3 := t14; have f4 := h0; have f5 := k3; have f6 := k6; have g0 := rg32 p2; have g1 := rg32 x13; have z0 : (0 : Int32).toInt = 0 := (by decide); have z3 : (3 : Int32).toInt = 3 := (by decide); have z9 : (9 : Int32).toInt = 9 := (by decide); omega)
          refine lv_iload_n hx hb dX6_setCost_28 rfl (lv_at hl 3 rfl) ?_
          refine t8_6_0 hx hb hK hP hD hS (vpo (by have f0 := t16; have f1 := h1; have f2 := k9; have f3 := k12; have f4 := t14; have f5 := h0; have f6 := k3; have f7 := k6; have g0 := rg32 x15; have z0 : (0 : Int32).toInt = 0 := (by decide); have z3 : (3 : Int32).toInt = 3 := (by decide); have z9 : (9 : Int32).toInt = 9 := (by decide); omega)) dX6_setCost_29 (fun H locs σ17 eσ17 hP hS => ?_)
          have hJ18 : J8 σ17 := hJ.A eσ17 rfl (show PA8 6 0 p3 from trivial)
          exact W.vret hx hb hr (fun tS ht hW => ⟨⟨σ17, rfl, ⟨Fr.tr (Fr.rf) (sA_f eσ17) (fN_O mem0), hJ18, trivial⟩, (show va_P D clz (WD8 cy g σ17) tS.heap by rw [ht]; exact hP)⟩, hS.F ht⟩) hS.2.2 dX6_setCost_30

theorem q1248 : Cond.code yX6_costOfRow cX6_costOfRow 9 (some .int) ∈ lw_g := lw_gm (List.mem_of_getElem? (i := 1248) (by decide +kernel)) rfl
theorem q1249 : Cond.methodLink RX6 31 Lib.Math.min.name ∈ lw_g := lw_gm (List.mem_of_getElem? (i := 1249) (by decide +kernel)) rfl
theorem q402 : Cond.fieldLink RX6 15 "LipsAndSlides$Sharing" "now" "[I" ∈ lw_g := lw_gm (List.mem_of_getElem? (i := 402) (by decide +kernel)) rfl
theorem dX6_costOfRow_0 : decode cX6_costOfRow 0 = .ok (.iload_n 1, 1) := by decide +kernel
theorem dX6_costOfRow_1 : decode cX6_costOfRow 1 = .ok (.istore 4, 2) := by decide +kernel
theorem dX6_costOfRow_3 : decode cX6_costOfRow 3 = .ok (.iconst 0, 1) := by decide +kernel
theorem dX6_costOfRow_4 : decode cX6_costOfRow 4 = .ok (.istore 5, 2) := by decide +kernel
theorem dX6_costOfRow_6 : decode cX6_costOfRow 6 = .ok (.iconst 0, 1) := by decide +kernel
theorem dX6_costOfRow_7 : decode cX6_costOfRow 7 = .ok (.istore 6, 2) := by decide +kernel
theorem dX6_costOfRow_9 : decode cX6_costOfRow 9 = .ok (.iload_n 3, 1) := by decide +kernel
theorem dX6_costOfRow_10 : decode cX6_costOfRow 10 = .ok (.iconst 3, 1) := by decide +kernel
theorem dX6_costOfRow_11 : decode cX6_costOfRow 11 = .ok (.invokestatic 31, 3) := by decide +kernel
theorem dX6_costOfRow_14 : decode cX6_costOfRow 14 = .ok (.iconst 1, 1) := by decide +kernel
theorem dX6_costOfRow_15 : decode cX6_costOfRow 15 = .ok (.isub, 1) := by decide +kernel
theorem dX6_costOfRow_16 : decode cX6_costOfRow 16 = .ok (.istore 7, 2) := by decide +kernel
theorem dX6_costOfRow_18 : decode cX6_costOfRow 18 = .ok (.iload 7, 2) := by decide +kernel
theorem dX6_costOfRow_20 : decode cX6_costOfRow 20 = .ok (.ifCond .lt 94, 3) := by decide +kernel
theorem dX6_costOfRow_23 : decode cX6_costOfRow 23 = .ok (.iload_n 2, 1) := by decide +kernel
theorem dX6_costOfRow_24 : decode cX6_costOfRow 24 = .ok (.ifCond .le 90, 3) := by decide +kernel
theorem dX6_costOfRow_27 : decode cX6_costOfRow 27 = .ok (.aload_n 0, 1) := by decide +kernel
theorem dX6_costOfRow_28 : decode cX6_costOfRow 28 = .ok (.getfield 15, 3) := by decide +kernel
theorem dX6_costOfRow_31 : decode cX6_costOfRow 31 = .ok (.iload 7, 2) := by decide +kernel
theorem dX6_costOfRow_33 : decode cX6_costOfRow 33 = .ok (.iload 4, 2) := by decide +kernel
theorem dX6_costOfRow_35 : decode cX6_costOfRow 35 = .ok (.iload_n 2, 1) := by decide +kernel
theorem dX6_costOfRow_36 : decode cX6_costOfRow 36 = .ok (.irem, 1) := by decide +kernel
theorem dX6_costOfRow_37 : decode cX6_costOfRow 37 = .ok (.iastore, 1) := by decide +kernel
theorem dX6_costOfRow_38 : decode cX6_costOfRow 38 = .ok (.iload 4, 2) := by decide +kernel
theorem dX6_costOfRow_40 : decode cX6_costOfRow 40 = .ok (.iload_n 2, 1) := by decide +kernel
theorem dX6_costOfRow_41 : decode cX6_costOfRow 41 = .ok (.idiv, 1) := by decide +kernel
theorem dX6_costOfRow_42 : decode cX6_costOfRow 42 = .ok (.istore 4, 2) := by decide +kernel
theorem dX6_costOfRow_44 : decode cX6_costOfRow 44 = .ok (.aload_n 0, 1) := by decide +kernel
theorem dX6_costOfRow_45 : decode cX6_costOfRow 45 = .ok (.getfield 9, 3) := by decide +kernel
theorem dX6_costOfRow_48 : decode cX6_costOfRow 48 = .ok (.aload_n 0, 1) := by decide +kernel
theorem dX6_costOfRow_49 : decode cX6_costOfRow 49 = .ok (.getfield 15, 3) := by decide +kernel
theorem dX6_costOfRow_52 : decode cX6_costOfRow 52 = .ok (.iload 7, 2) := by decide +kernel
theorem dX6_costOfRow_54 : decode cX6_costOfRow 54 = .ok (.iaload, 1) := by decide +kernel
theorem dX6_costOfRow_55 : decode cX6_costOfRow 55 = .ok (.iconst 3, 1) := by decide +kernel
theorem dX6_costOfRow_56 : decode cX6_costOfRow 56 = .ok (.imul, 1) := by decide +kernel
theorem dX6_costOfRow_57 : decode cX6_costOfRow 57 = .ok (.iload 7, 2) := by decide +kernel
theorem dX6_costOfRow_59 : decode cX6_costOfRow 59 = .ok (.iadd, 1) := by decide +kernel
theorem dX6_costOfRow_60 : decode cX6_costOfRow 60 = .ok (.iaload, 1) := by decide +kernel
theorem dX6_costOfRow_61 : decode cX6_costOfRow 61 = .ok (.istore 8, 2) := by decide +kernel
theorem dX6_costOfRow_63 : decode cX6_costOfRow 63 = .ok (.iload 8, 2) := by decide +kernel
theorem dX6_costOfRow_65 : decode cX6_costOfRow 65 = .ok (.iconst (-1), 1) := by decide +kernel
theorem dX6_costOfRow_66 : decode cX6_costOfRow 66 = .ok (.if_icmp .eq 19, 3) := by decide +kernel
theorem dX6_costOfRow_69 : decode cX6_costOfRow 69 = .ok (.iload 6, 2) := by decide +kernel
theorem dX6_costOfRow_71 : decode cX6_costOfRow 71 = .ok (.aload_n 0, 1) := by decide +kernel
theorem dX6_costOfRow_72 : decode cX6_costOfRow 72 = .ok (.getfield 15, 3) := by decide +kernel
theorem dX6_costOfRow_75 : decode cX6_costOfRow 75 = .ok (.iload 7, 2) := by decide +kernel
theorem dX6_costOfRow_77 : decode cX6_costOfRow 77 = .ok (.iaload, 1) := by decide +kernel
theorem dX6_costOfRow_78 : decode cX6_costOfRow 78 = .ok (.ishr, 1) := by decide +kernel
theorem dX6_costOfRow_79 : decode cX6_costOfRow 79 = .ok (.iconst 1, 1) := by decide +kernel
theorem dX6_costOfRow_80 : decode cX6_costOfRow 80 = .ok (.iand, 1) := by decide +kernel
theorem dX6_costOfRow_81 : decode cX6_costOfRow 81 = .ok (.iconst 1, 1) := by decide +kernel
theorem dX6_costOfRow_82 : decode cX6_costOfRow 82 = .ok (.if_icmp .ne 5, 3) := by decide +kernel
theorem dX6_costOfRow_85 : decode cX6_costOfRow 85 = .ok (.iconst (-1), 1) := by decide +kernel
theorem dX6_costOfRow_86 : decode cX6_costOfRow 86 = .ok (.ireturn, 1) := by decide +kernel
theorem dX6_costOfRow_87 : decode cX6_costOfRow 87 = .ok (.iload 6, 2) := by decide +kernel
theorem dX6_costOfRow_89 : decode cX6_costOfRow 89 = .ok (.iconst 1, 1) := by decide +kernel
theorem dX6_costOfRow_90 : decode cX6_costOfRow 90 = .ok (.aload_n 0, 1) := by decide +kernel
theorem dX6_costOfRow_91 : decode cX6_costOfRow 91 = .ok (.getfield 15, 3) := by decide +kernel
theorem dX6_costOfRow_94 : decode cX6_costOfRow 94 = .ok (.iload 7, 2) := by decide +kernel
theorem dX6_costOfRow_96 : decode cX6_costOfRow 96 = .ok (.iaload, 1) := by decide +kernel
theorem dX6_costOfRow_97 : decode cX6_costOfRow 97 = .ok (.ishl, 1) := by decide +kernel
theorem dX6_costOfRow_98 : decode cX6_costOfRow 98 = .ok (.ior, 1) := by decide +kernel
theorem dX6_costOfRow_99 : decode cX6_costOfRow 99 = .ok (.istore 6, 2) := by decide +kernel
theorem dX6_costOfRow_101 : decode cX6_costOfRow 101 = .ok (.iload 5, 2) := by decide +kernel
theorem dX6_costOfRow_103 : decode cX6_costOfRow 103 = .ok (.iload 8, 2) := by decide +kernel
theorem dX6_costOfRow_105 : decode cX6_costOfRow 105 = .ok (.iadd, 1) := by decide +kernel
theorem dX6_costOfRow_106 : decode cX6_costOfRow 106 = .ok (.istore 5, 2) := by decide +kernel
theorem dX6_costOfRow_108 : decode cX6_costOfRow 108 = .ok (.iinc 7 (-1), 3) := by decide +kernel
theorem dX6_costOfRow_111 : decode cX6_costOfRow 111 = .ok (.goto (-93), 3) := by decide +kernel
theorem dX6_costOfRow_114 : decode cX6_costOfRow 114 = .ok (.iload 5, 2) := by decide +kernel
theorem dX6_costOfRow_116 : decode cX6_costOfRow 116 = .ok (.ireturn, 1) := by decide +kernel
set_option maxHeartbeats 4000000 in
set_option maxRecDepth 100000 in
theorem m_X6_costOfRow (l : Launch) (D : va_G) (cy : Nat → ClassId) (g : Nat → Nat) (σ : ST) (p1 : Int32) (p2 : Int32) (p3 : Int32) (sz : Nat) (hJ : J8 σ) (h0 : (0 : Int) ≤ p1.toInt ∧ p1.toInt ≤ 2147483646) (h1 : (0 : Int) ≤ p2.toInt ∧ p2.toInt ≤ 9) (h2 : (0 : Int) ≤ p3.toInt ∧ p3.toInt ≤ 3) : Met l yX6_costOfRow (ww yX6_costOfRow cX6_costOfRow 9 (some .int)) ({ frames := 2, cells := 0, slots := 0, locals := 128 }) (va_Pc [.ref (gO g 16), .int p1, .int p2, .int p3] (pr8 D cy g σ sz)) (qi8 D cy g sz (fun r τ => Fr (fO [16]) σ τ ∧ J8 τ ∧ True)) 0 0 (A8 cy g sz) := by
  refine Met.ofW (cc := cX6_costOfRow) (maxL := 9) (ret := (some .int)) (by decide) rfl ?_
  intro p e s m args below meth c s₁ B hml hv
  obtain ⟨rfl, hsz, hP, hK, hD0, hC⟩ := hv
  have hx := B.exec
  have hb := B.bytes
  have hr := B.returns
  have hts := hts_g (atoms_spec (ws := ww yX6_costOfRow cX6_costOfRow 9 (some .int)) B.pre)
  have hown : s.vm.findClass RX6 = some m.cls := findClass_of_methodNamed B.named
  have hlocks := B.notSynchronized
  clear B
  subst hsz
  have hD := fun τ => A8_D (sz := s.heap.size) hD0 τ
  clear hD0
  have hS : va_S (A8 cy g s.heap.size) s.heap s.heap [] := va_S.rf
  have hl := lv_entry ([.ref (gO g 16), .int p1, .int p2, .int p3]) (n := 9) (Nat.le_of_ble_eq_true rfl)
  rw [lg_entry_eq]
  generalize (lg_sl ([.ref (gO g 16), .int p1, .int p2, .int p3]) ++ List.replicate (9 - (lg_sl ([.ref (gO g 16), .int p1, .int p2, .int p3])).length) Slot.unset).toArray = ls at hl ⊢
  have hl : lv_has ls 9 [(0, .ref (gO g 16)), (1, .int p1), (2, .int p2), (3, .int p3)] := hl
  refine lv_iload_n hx hb dX6_costOfRow_0 rfl (lv_at hl 1 rfl) ?_
  refine lv_istore (lv' := [(4, .int p1), (0, .ref (gO g 16)), (1, .int p1), (2, .int p2), (3, .int p3)]) hx hb dX6_costOfRow_1 hl (by decide) rfl (fun ls hl => ?_)
  refine lv_iconst (v := 0) hx hb dX6_costOfRow_3 (by decide) ?_
  refine lv_istore (lv' := [(5, .int 0), (4, .int p1), (0, .ref (gO g 16)), (1, .int p1), (2, .int p2), (3, .int p3)]) hx hb dX6_costOfRow_4 hl (by decide) rfl (fun ls hl => ?_)
  refine lv_iconst (v := 0) hx hb dX6_costOfRow_6 (by decide) ?_
  refine lv_istore (lv' := [(6, .int 0), (5, .int 0), (4, .int p1), (0, .ref (gO g 16)), (1, .int p1), (2, .int p2), (3, .int p3)]) hx hb dX6_costOfRow_7 hl (by decide) rfl (fun ls hl => ?_)
  refine lv_iload_n hx hb dX6_costOfRow_9 rfl (lv_at hl 6 rfl) ?_
  refine lv_iconst (v := 3) hx hb dX6_costOfRow_10 (by decide) ?_
  refine va_mmin hx hb (hml.trans hl.1.symm) hown (hts _ q1249) (hts _ q512) (hts _ q135) (hts _ q513) (Nat.le_of_ble_eq_true rfl) (Nat.le_of_ble_eq_true rfl) (Nat.le_refl _) (Nat.le_refl _) dX6_costOfRow_11 ?_
  refine lv_topi (fun x1 ex1 => ?_)
  have t2 := minO ex1
  refine lv_iconst (v := 1) hx hb dX6_costOfRow_14 (by decide) ?_
  refine lv_isub hx hb dX6_costOfRow_15 ?_
  refine lv_topi (fun x3 ex3 => ?_)
  have t4 := subO ex3 (by have f0 := t2; have f1 := h2; have g0 := rg32 x1; have z1 : (1 : Int32).toInt = 1 := (by decide); have z3 : (3 : Int32).toInt = 3 := (by decide); omega)
  refine lv_istore (lv' := [(7, .int x3), (6, .int 0), (5, .int 0), (4, .int p1), (0, .ref (gO g 16)), (1, .int p1), (2, .int p2), (3, .int p3)]) hx hb dX6_costOfRow_16 hl (by decide) rfl (fun ls hl => ?_)
  refine loop8 9 18 (fun x : LZ => [(7, .int (x.2.1 0)), (6, .int (x.2.1 1)), (5, .int (x.2.1 2)), (4, .int (x.2.1 3)), (0, .ref (gO g 16)), (1, .int p1), (2, .int p2), (3, .int p3)]) (fun x : LZ => (Fr (fO [16]) σ x.1) ∧ (J8 x.1) ∧ ((-1 : Int) ≤ (x.2.1 0).toInt ∧ (x.2.1 0).toInt ≤ 2) ∧ ((0 : Int) ≤ (x.2.1 3).toInt ∧ (x.2.1 3).toInt ≤ 2147483646) ∧ True) (fun x : LZ => ((x.2.1 0).toInt - (-2 : Int)).toNat) ?_ (σ, lf [x3, 0, 0, p1], lg []) ⟨Fr.rf, hJ, (show (-1 : Int) ≤ (x3 : Int32).toInt ∧ (x3 : Int32).toInt ≤ 2 from (by have f0 := t4; have f1 := t2; have f2 := h2; have g0 := rg32 x3; have z1 : (1 : Int32).toInt = 1 := (by decide); have z3 : (3 : Int32).toInt = 3 := (by decide); omega)), (show (0 : Int) ≤ (p1 : Int32).toInt ∧ (p1 : Int32).toInt ≤ 2147483646 from (by have f0 := h0; have g0 := rg32 p1; omega)), trivial⟩ _ _ _ hP hS (lv_sub hl [0, 1, 2, 3, 4, 5, 6, 7] rfl)
  intro y7 hI6 nl5 H locs ls hP hS hl
  obtain ⟨σ8, eσ8⟩ : ∃ z, z = y7.1 := ⟨_, rfl⟩
  rw [← eσ8] at hP hI6
  have hF9 : Fr (fO [16]) σ σ8 := hI6.1
  have hJ10 : J8 σ8 := hI6.2.1
  have b11 : (-1 : Int) ≤ (y7.2.1 0).toInt ∧ (y7.2.1 0).toInt ≤ 2 := hI6.2.2.1
  have b12 : (0 : Int) ≤ (y7.2.1 3).toInt ∧ (y7.2.1 3).toInt ≤ 2147483646 := hI6.2.2.2.1
  have hl : lv_has ls 9 [(7, .int (y7.2.1 0)), (6, .int (y7.2.1 1)), (5, .int (y7.2.1 2)), (4, .int (y7.2.1 3)), (0, .ref (gO g 16)), (1, .int p1), (2, .int p2), (3, .int p3)] := hl
  refine lv_iload hx hb dX6_costOfRow_18 (lv_at hl 0 rfl) ?_
  refine lv_if_lt (tgt := 114) hx hb dX6_costOfRow_20 (by decide) (fun c13 => ?_) (fun c13 => ?_)
  ·
    have k14 := plt32 c13
    refine lv_iload hx hb dX6_costOfRow_114 (lv_at hl 2 rfl) ?_
    exact W.iret (v := (y7.2.1 2)) hx hb hr (fun tS ht hW => ⟨⟨(y7.2.1 2), σ8, rfl, ⟨Fr.tr (Fr.rf) hF9 (fO_sub (fun _ q => q)), hJ10, trivial⟩, (show va_P D clz (WD8 cy g σ8) tS.heap by rw [ht]; exact hP)⟩, hS.F ht⟩) hS.2.2 dX6_costOfRow_116
  ·
    have k15 := nlt32 c13
    refine lv_iload_n hx hb dX6_costOfRow_23 rfl (lv_at hl 6 rfl) ?_
    refine lv_if_le (tgt := 114) hx hb dX6_costOfRow_24 (by decide) (fun c16 => ?_) (fun c16 => ?_)
    ·
      have k17 := ple32 c16
      refine lv_iload hx hb dX6_costOfRow_114 (lv_at hl 2 rfl) ?_
      exact W.iret (v := (y7.2.1 2)) hx hb hr (fun tS ht hW => ⟨⟨(y7.2.1 2), σ8, rfl, ⟨Fr.tr (Fr.rf) hF9 (fO_sub (fun _ q => q)), hJ10, trivial⟩, (show va_P D clz (WD8 cy g σ8) tS.heap by rw [ht]; exact hP)⟩, hS.F ht⟩) hS.2.2 dX6_costOfRow_116
    ·
      have k18 := nle32 c16
      refine lv_aload_n hx hb dX6_costOfRow_27 rfl (lv_at hl 4 rfl) ?_
      refine g8_6_1 hx hb hts hown hK hP (hts _ q402) dX6_costOfRow_28 ?_
      refine lv_iload hx hb dX6_costOfRow_31 (lv_at hl 0 rfl) ?_
      refine lv_iload hx hb dX6_costOfRow_33 (lv_at hl 3 rfl) ?_
      refine lv_iload_n hx hb dX6_costOfRow_35 rfl (lv_at hl 6 rfl) ?_
      refine lv_irem hx hb dX6_costOfRow_36 (ne0 (by have f0 := h1; have f1 := k18; have g0 := rg32 p2; have z0 : (0 : Int32).toInt = 0 := (by decide); omega)) ?_
      refine lv_topi (fun x19 ex19 => ?_)
      have t20 := remP ex19 (by have f0 := h1; have f1 := b12; have f2 := k18; have g0 := rg32 (y7.2.1 3); have g1 := rg32 p2; have z0 : (0 : Int32).toInt = 0 := (by decide); omega)
      refine t8_6_1 hx hb hK hP hD hS (vpo (by have f0 := b11; have f1 := k15; have g0 := rg32 (y7.2.1 0); have z0 : (0 : Int32).toInt = 0 := (by decide); omega)) dX6_costOfRow_37 (fun H locs σ21 eσ21 hP hS => ?_)
      have hJ22 : J8 σ21 := hJ10.A eσ21 rfl (show PA8 6 1 x19 from (by have f0 := t20; have f1 := h1; have f2 := b12; have f3 := k18; have g0 := rg32 (y7.2.1 3); have g1 := rg32 x19; have z0 : (0 : Int32).toInt = 0 := (by decide); exact ⟨by omega, by omega⟩))
      refine lv_iload hx hb dX6_costOfRow_38 (lv_at hl 3 rfl) ?_
      refine lv_iload_n hx hb dX6_costOfRow_40 rfl (lv_at hl 6 rfl) ?_
      refine lv_idiv hx hb dX6_costOfRow_41 (ne0 (by have f0 := h1; have f1 := k18; have f2 := t20; have f3 := b12; have g0 := rg32 (y7.2.1 3); have g1 := rg32 p2; have z0 : (0 : Int32).toInt = 0 := (by decide); omega)) ?_
      refine lv_topi (fun x23 ex23 => ?_)
      have t24 := divP ex23 (by have f0 := h1; have f1 := b12; have f2 := k18; have f3 := t20; have g0 := rg32 (y7.2.1 3); have g1 := rg32 p2; have z0 : (0 : Int32).toInt = 0 := (by decide); omega)
      refine lv_istore (lv' := [(4, .int x23), (7, .int (y7.2.1 0)), (6, .int (y7.2.1 1)), (5, .int (y7.2.1 2)), (0, .ref (gO g 16)), (1, .int p1), (2, .int p2), (3, .int p3)]) hx hb dX6_costOfRow_42 hl (by decide) rfl (fun ls hl => ?_)
      refine lv_aload_n hx hb dX6_costOfRow_44 rfl (lv_at hl 4 rfl) ?_
      refine g8_6_0 hx hb hts hown hK hP (hts _ q401) dX6_costOfRow_45 ?_
      refine lv_aload_n hx hb dX6_costOfRow_48 rfl (lv_at hl 4 rfl) ?_
      refine g8_6_1 hx hb hts hown hK hP (hts _ q402) dX6_costOfRow_49 ?_
      refine lv_iload hx hb dX6_costOfRow_52 (lv_at hl 1 rfl) ?_
      obtain ⟨x25, ex25⟩ : ∃ z, (σ21 16).2.2.1 1 (y7.2.1 0).toInt.toNat = z := ⟨_, rfl⟩
      refine l8_6_1 (x := x25) hx hb hK hP (vpo (by have f0 := b11; have f1 := k15; have g0 := rg32 (y7.2.1 0); have z0 : (0 : Int32).toInt = 0 := (by decide); omega)) ex25 dX6_costOfRow_54 ?_
      have t26 := a8_6_1 hJ22 ex25
      refine lv_iconst (v := 3) hx hb dX6_costOfRow_55 (by decide) ?_
      refine lv_imul hx hb dX6_costOfRow_56 ?_
      refine lv_topi (fun x27 ex27 => ?_)
      have t28 := mulC (n := 3) ex27 (by decide) (by have f0 := t26; have g0 := rg32 x25; omega)
      refine lv_iload hx hb dX6_costOfRow_57 (lv_at hl 1 rfl) ?_
      refine lv_iadd hx hb dX6_costOfRow_59 ?_
      refine lv_topi (fun x29 ex29 => ?_)
      have t30 := addO ex29 (by have f0 := b11; have f1 := k15; have f2 := t28; have f3 := t26; have g0 := rg32 (y7.2.1 0); have g1 := rg32 x27; have z0 : (0 : Int32).toInt = 0 := (by decide); omega)
      obtain ⟨x31, ex31⟩ : ∃ z, (σ8 16).2.2.1 0 x29.toInt.toNat = z := ⟨_, rfl⟩
      refine l8_6_0 (x := x31) hx hb hK hP (vpo (by have f0 := t30; have f1 := b11; have f2 := k15; have f3 := t28; have f4 := t26; have g0 := rg32 x29; have z0 : (0 : Int32).toInt = 0 := (by decide); omega)) ((congrFun (((sA_f eσ21) 16 0 (fN_k rfl)).2.2.1) _).trans ex31) dX6_costOfRow_60 ?_
      refine lv_istore (lv' := [(8, .int x31), (4, .int x23), (7, .int (y7.2.1 0)), (6, .int (y7.2.1 1)), (5, .int (y7.2.1 2)), (0, .ref (gO g 16)), (1, .int p1), (2, .int p2), (3, .int p3)]) hx hb dX6_costOfRow_61 hl (by decide) rfl (fun ls hl => ?_)
      refine lv_iload hx hb dX6_costOfRow_63 (lv_at hl 0 rfl) ?_
      refine lv_iconst (v := (-1)) hx hb dX6_costOfRow_65 (by decide) ?_
      refine lv_icmp_eq (tgt := 85) hx hb dX6_costOfRow_66 (by decide) (fun c32 => ?_) (fun c32 => ?_)
      ·
        have k33 := peq32 c32
        refine lv_iconst (v := (-1)) hx hb dX6_costOfRow_85 (by decide) ?_
        exact W.iret (v := (-1)) hx hb hr (fun tS ht hW => ⟨⟨(-1), σ21, rfl, ⟨Fr.tr (Fr.tr (Fr.rf) hF9 (fO_sub (fun _ q => q))) (sA_f eσ21) (fN_O mem0), hJ22, trivial⟩, (show va_P D clz (WD8 cy g σ21) tS.heap by rw [ht]; exact hP)⟩, hS.F ht⟩) hS.2.2 dX6_costOfRow_86
      ·
        have k34 := neq32 c32
        refine lv_iload hx hb dX6_costOfRow_69 (lv_at hl 3 rfl) ?_
        refine lv_aload_n hx hb dX6_costOfRow_71 rfl (lv_at hl 5 rfl) ?_
        refine g8_6_1 hx hb hts hown hK hP (hts _ q402) dX6_costOfRow_72 ?_
        refine lv_iload hx hb dX6_costOfRow_75 (lv_at hl 2 rfl) ?_
        refine l8_6_1 (x := x25) hx hb hK hP (vpo (by have f0 := b11; have f1 := k15; have f2 := t30; have f3 := t28; have f4 := t26; have g0 := rg32 (y7.2.1 0); have z0 : (0 : Int32).toInt = 0 := (by decide); omega)) ex25 dX6_costOfRow_77 ?_
        refine lv_ishr hx hb dX6_costOfRow_78 ?_
        refine lv_topi (fun x35 ex35 => ?_)
        refine lv_iconst (v := 1) hx hb dX6_costOfRow_79 (by decide) ?_
        refine lv_iand hx hb dX6_costOfRow_80 ?_
        refine lv_topi (fun x36 ex36 => ?_)
        have t37 := andM 1 ex36 (by decide) (by decide)
        refine lv_iconst (v := 1) hx hb dX6_costOfRow_81 (by decide) ?_
        refine lv_icmp_ne (tgt := 87) hx hb dX6_costOfRow_82 (by decide) (fun c38 => ?_) (fun c38 => ?_)
        ·
          have k39 := neq32 c38
          refine lv_iload hx hb dX6_costOfRow_87 (lv_at hl 3 rfl) ?_
          refine lv_iconst (v := 1) hx hb dX6_costOfRow_89 (by decide) ?_
          refine lv_aload_n hx hb dX6_costOfRow_90 rfl (lv_at hl 5 rfl) ?_
          refine g8_6_1 hx hb hts hown hK hP (hts _ q402) dX6_costOfRow_91 ?_
          refine lv_iload hx hb dX6_costOfRow_94 (lv_at hl 2 rfl) ?_
          refine l8_6_1 (x := x25) hx hb hK hP (vpo (by have f0 := b11; have f1 := k15; have f2 := t30; have f3 := t28; have f4 := t26; have g0 := rg32 (y7.2.1 0); have z0 : (0 : Int32).toInt = 0 := (by decide); omega)) ex25 dX6_costOfRow_96 ?_
          refine lv_ishl hx hb dX6_costOfRow_97 ?_
          refine lv_topi (fun x40 ex40 => ?_)
          have t41 := shl9 ex40 (by have f0 := t26; have f1 := t28; have f2 := t30; have f3 := b11; have f4 := k15; have g0 := rg32 x25; have z0 : (0 : Int32).toInt = 0 := (by decide); omega)
          refine lv_ior hx hb dX6_costOfRow_98 ?_
          refine lv_topi (fun x42 ex42 => ?_)
          refine lv_istore (lv' := [(6, .int x42), (8, .int x31), (4, .int x23), (7, .int (y7.2.1 0)), (5, .int (y7.2.1 2)), (0, .ref (gO g 16)), (1, .int p1), (2, .int p2), (3, .int p3)]) hx hb dX6_costOfRow_99 hl (by decide) rfl (fun ls hl => ?_)
          refine lv_iload hx hb dX6_costOfRow_101 (lv_at hl 4 rfl) ?_
          refine lv_iload hx hb dX6_costOfRow_103 (lv_at hl 1 rfl) ?_
          refine lv_iadd hx hb dX6_costOfRow_105 ?_
          refine lv_topi (fun x43 ex43 => ?_)
          refine lv_istore (lv' := [(5, .int x43), (6, .int x42), (8, .int x31), (4, .int x23), (7, .int (y7.2.1 0)), (0, .ref (gO g 16)), (1, .int p1), (2, .int p2), (3, .int p3)]) hx hb dX6_costOfRow_106 hl (by decide) rfl (fun ls hl => ?_)
          obtain ⟨x44, ex44⟩ : ∃ y : Int32, y = (y7.2.1 0) + (-1) := ⟨_, rfl⟩
          have t45 := addO ex44 (by have f0 := b11; have f1 := k15; have f2 := t30; have f3 := t28; have f4 := t26; have g0 := rg32 (y7.2.1 0); have zm1 : ((-1) : Int32).toInt = (-1) := (by decide); have z0 : (0 : Int32).toInt = 0 := (by decide); omega)
          refine lv_iinc (v := x44) (lv' := [(7, .int x44), (5, .int x43), (6, .int x42), (8, .int x31), (4, .int x23), (0, .ref (gO g 16)), (1, .int p1), (2, .int p2), (3, .int p3)]) hx hb dX6_costOfRow_108 hl (k := 4) rfl (by rw [ex44]; rfl) (by decide) rfl (fun ls hl => ?_)
          refine lv_goto (tgt := 18) hx hb dX6_costOfRow_111 (by decide) ?_
          have t46 : (x44.toInt - (-2 : Int)).toNat < ((y7.2.1 0).toInt - (-2 : Int)).toNat := (by have f0 := b11; have f1 := k15; have f2 := t30; have f3 := t45; have f4 := t28; have f5 := t26; have g0 := rg32 (y7.2.1 0); have g1 := rg32 x44; have zm1 : ((-1) : Int32).toInt = (-1) := (by decide); have z0 : (0 : Int32).toInt = 0 := (by decide); omega)
          exact nl5 (σ21, lf [x44, x42, x43, x23], lg []) ⟨Fr.tr (Fr.tr (Fr.rf) hF9 (fO_sub (fun _ q => q))) (sA_f eσ21) (fN_O mem0), hJ22, (show (-1 : Int) ≤ (x44 : Int32).toInt ∧ (x44 : Int32).toInt ≤ 2 from (by have f0 := t45; have f1 := b11; have f2 := k15; have f3 := t30; have f4 := t28; have f5 := t26; have g0 := rg32 x44; have zm1 : ((-1) : Int32).toInt = (-1) := (by decide); have z0 : (0 : Int32).toInt = 0 := (by decide); omega)), (show (0 : Int) ≤ (x23 : Int32).toInt ∧ (x23 : Int32).toInt ≤ 2147483646 from (by have f0 := t24; have f1 := h1; have f2 := b12; have f3 := k18; have f4 := t20; have g0 := rg32 (y7.2.1 3); have g1 := rg32 x23; have z0 : (0 : Int32).toInt = 0 := (by decide); omega)), trivial⟩ (show (x44.toInt - (-2 : Int)).toNat < _ from by first | exact t46 | (rw [← eσ8]; exact t46)) _ _ _ hP hS (lv_sub hl [0, 2, 1, 4, 5, 6, 7, 8] rfl)
        ·
          have k47 := peq32 c38
          refine lv_iconst (v := (-1)) hx hb dX6_costOfRow_85 (by decide) ?_
          exact W.iret (v := (-1)) hx hb hr (fun tS ht hW => ⟨⟨(-1), σ21, rfl, ⟨Fr.tr (Fr.tr (Fr.rf) hF9 (fO_sub (fun _ q => q))) (sA_f eσ21) (fN_O mem0), hJ22, trivial⟩, (show va_P D clz (WD8 cy g σ21) tS.heap by rw [ht]; exact hP)⟩, hS.F ht⟩) hS.2.2 dX6_costOfRow_86

theorem q1244 : Cond.code yX6_findLeast cX6_findLeast 7 (some .int) ∈ lw_g := lw_gm (List.mem_of_getElem? (i := 1244) (by decide +kernel)) rfl
theorem q1245 : Cond.methodLink RX6 21 yX6_costOfRow ∈ lw_g := lw_gm (List.mem_of_getElem? (i := 1245) (by decide +kernel)) rfl
theorem q1247 : Cond.instanceMethod yX6_costOfRow ∈ lw_g := lw_gm (List.mem_of_getElem? (i := 1247) (by decide +kernel)) rfl
theorem q46 : Cond.selects RX6 yX6_costOfRow yX6_costOfRow ∈ lw_g := lw_gm (List.mem_of_getElem? (i := 46) (by decide +kernel)) rfl
theorem q132 : Cond.initialized RX6 ∈ lw_g := lw_gm (List.mem_of_getElem? (i := 132) (by decide +kernel)) rfl
theorem q403 : Cond.fieldLink RX6 18 "LipsAndSlides$Sharing" "chosenRow" "[I" ∈ lw_g := lw_gm (List.mem_of_getElem? (i := 403) (by decide +kernel)) rfl
theorem q1250 : Cond.methodLink RX6 25 arraycopyName ∈ lw_g := lw_gm (List.mem_of_getElem? (i := 1250) (by decide +kernel)) rfl
theorem dX6_findLeast_0 : decode cX6_findLeast 0 = .ok (.iconst 1, 1) := by decide +kernel
theorem dX6_findLeast_1 : decode cX6_findLeast 1 = .ok (.istore_n 3, 1) := by decide +kernel
theorem dX6_findLeast_2 : decode cX6_findLeast 2 = .ok (.iconst 0, 1) := by decide +kernel
theorem dX6_findLeast_3 : decode cX6_findLeast 3 = .ok (.istore 4, 2) := by decide +kernel
theorem dX6_findLeast_5 : decode cX6_findLeast 5 = .ok (.iload 4, 2) := by decide +kernel
theorem dX6_findLeast_7 : decode cX6_findLeast 7 = .ok (.iload_n 2, 1) := by decide +kernel
theorem dX6_findLeast_8 : decode cX6_findLeast 8 = .ok (.if_icmp .ge 13, 3) := by decide +kernel
theorem dX6_findLeast_11 : decode cX6_findLeast 11 = .ok (.iload_n 3, 1) := by decide +kernel
theorem dX6_findLeast_12 : decode cX6_findLeast 12 = .ok (.iload_n 1, 1) := by decide +kernel
theorem dX6_findLeast_13 : decode cX6_findLeast 13 = .ok (.imul, 1) := by decide +kernel
theorem dX6_findLeast_14 : decode cX6_findLeast 14 = .ok (.istore_n 3, 1) := by decide +kernel
theorem dX6_findLeast_15 : decode cX6_findLeast 15 = .ok (.iinc 4 1, 3) := by decide +kernel
theorem dX6_findLeast_18 : decode cX6_findLeast 18 = .ok (.goto (-13), 3) := by decide +kernel
theorem dX6_findLeast_21 : decode cX6_findLeast 21 = .ok (.iconst (-1), 1) := by decide +kernel
theorem dX6_findLeast_22 : decode cX6_findLeast 22 = .ok (.istore 4, 2) := by decide +kernel
theorem dX6_findLeast_24 : decode cX6_findLeast 24 = .ok (.iconst 0, 1) := by decide +kernel
theorem dX6_findLeast_25 : decode cX6_findLeast 25 = .ok (.istore 5, 2) := by decide +kernel
theorem dX6_findLeast_27 : decode cX6_findLeast 27 = .ok (.iload 5, 2) := by decide +kernel
theorem dX6_findLeast_29 : decode cX6_findLeast 29 = .ok (.iload_n 3, 1) := by decide +kernel
theorem dX6_findLeast_30 : decode cX6_findLeast 30 = .ok (.if_icmp .ge 56, 3) := by decide +kernel
theorem dX6_findLeast_33 : decode cX6_findLeast 33 = .ok (.aload_n 0, 1) := by decide +kernel
theorem dX6_findLeast_34 : decode cX6_findLeast 34 = .ok (.iload 5, 2) := by decide +kernel
theorem dX6_findLeast_36 : decode cX6_findLeast 36 = .ok (.iload_n 1, 1) := by decide +kernel
theorem dX6_findLeast_37 : decode cX6_findLeast 37 = .ok (.iload_n 2, 1) := by decide +kernel
theorem dX6_findLeast_38 : decode cX6_findLeast 38 = .ok (.invokevirtual 21, 3) := by decide +kernel
theorem dX6_findLeast_41 : decode cX6_findLeast 41 = .ok (.istore 6, 2) := by decide +kernel
theorem dX6_findLeast_43 : decode cX6_findLeast 43 = .ok (.iload 6, 2) := by decide +kernel
theorem dX6_findLeast_45 : decode cX6_findLeast 45 = .ok (.iconst (-1), 1) := by decide +kernel
theorem dX6_findLeast_46 : decode cX6_findLeast 46 = .ok (.if_icmp .eq 34, 3) := by decide +kernel
theorem dX6_findLeast_49 : decode cX6_findLeast 49 = .ok (.iload 4, 2) := by decide +kernel
theorem dX6_findLeast_51 : decode cX6_findLeast 51 = .ok (.iconst (-1), 1) := by decide +kernel
theorem dX6_findLeast_52 : decode cX6_findLeast 52 = .ok (.if_icmp .eq 10, 3) := by decide +kernel
theorem dX6_findLeast_55 : decode cX6_findLeast 55 = .ok (.iload 6, 2) := by decide +kernel
theorem dX6_findLeast_57 : decode cX6_findLeast 57 = .ok (.iload 4, 2) := by decide +kernel
theorem dX6_findLeast_59 : decode cX6_findLeast 59 = .ok (.if_icmp .ge 21, 3) := by decide +kernel
theorem dX6_findLeast_62 : decode cX6_findLeast 62 = .ok (.iload 6, 2) := by decide +kernel
theorem dX6_findLeast_64 : decode cX6_findLeast 64 = .ok (.istore 4, 2) := by decide +kernel
theorem dX6_findLeast_66 : decode cX6_findLeast 66 = .ok (.aload_n 0, 1) := by decide +kernel
theorem dX6_findLeast_67 : decode cX6_findLeast 67 = .ok (.getfield 15, 3) := by decide +kernel
theorem dX6_findLeast_70 : decode cX6_findLeast 70 = .ok (.iconst 0, 1) := by decide +kernel
theorem dX6_findLeast_71 : decode cX6_findLeast 71 = .ok (.aload_n 0, 1) := by decide +kernel
theorem dX6_findLeast_72 : decode cX6_findLeast 72 = .ok (.getfield 18, 3) := by decide +kernel
theorem dX6_findLeast_75 : decode cX6_findLeast 75 = .ok (.iconst 0, 1) := by decide +kernel
theorem dX6_findLeast_76 : decode cX6_findLeast 76 = .ok (.iconst 3, 1) := by decide +kernel
theorem dX6_findLeast_77 : decode cX6_findLeast 77 = .ok (.invokestatic 25, 3) := by decide +kernel
theorem dX6_findLeast_80 : decode cX6_findLeast 80 = .ok (.iinc 5 1, 3) := by decide +kernel
theorem dX6_findLeast_83 : decode cX6_findLeast 83 = .ok (.goto (-56), 3) := by decide +kernel
theorem dX6_findLeast_86 : decode cX6_findLeast 86 = .ok (.iload 4, 2) := by decide +kernel
theorem dX6_findLeast_88 : decode cX6_findLeast 88 = .ok (.ireturn, 1) := by decide +kernel
set_option maxHeartbeats 4000000 in
set_option maxRecDepth 100000 in
theorem m_X6_findLeast (l : Launch) (D : va_G) (cy : Nat → ClassId) (g : Nat → Nat) (σ : ST) (p1 : Int32) (p2 : Int32) (sz : Nat) (hJ : J8 σ) (h0 : (0 : Int) ≤ p1.toInt ∧ p1.toInt ≤ 9) (h1 : (0 : Int) ≤ p2.toInt ∧ p2.toInt ≤ 3) : Met l yX6_findLeast (ww yX6_findLeast cX6_findLeast 7 (some .int)) ({ frames := 3, cells := 0, slots := 0, locals := 192 }) (va_Pc [.ref (gO g 16), .int p1, .int p2] (pr8 D cy g σ sz)) (qi8 D cy g sz (fun r τ => Fr (fO [16]) σ τ ∧ J8 τ ∧ True)) 0 0 (A8 cy g sz) := by
  refine Met.ofW (cc := cX6_findLeast) (maxL := 7) (ret := (some .int)) (by decide) rfl ?_
  intro p e s m args below meth c s₁ B hml hv
  obtain ⟨rfl, hsz, hP, hK, hD0, hC⟩ := hv
  have hx := B.exec
  have hb := B.bytes
  have hr := B.returns
  have hts := hts_g (atoms_spec (ws := ww yX6_findLeast cX6_findLeast 7 (some .int)) B.pre)
  have hown : s.vm.findClass RX6 = some m.cls := findClass_of_methodNamed B.named
  have hlocks := B.notSynchronized
  clear B
  subst hsz
  have hD := fun τ => A8_D (sz := s.heap.size) hD0 τ
  clear hD0
  have hS : va_S (A8 cy g s.heap.size) s.heap s.heap [] := va_S.rf
  have hl := lv_entry ([.ref (gO g 16), .int p1, .int p2]) (n := 7) (Nat.le_of_ble_eq_true rfl)
  rw [lg_entry_eq]
  generalize (lg_sl ([.ref (gO g 16), .int p1, .int p2]) ++ List.replicate (7 - (lg_sl ([.ref (gO g 16), .int p1, .int p2])).length) Slot.unset).toArray = ls at hl ⊢
  have hl : lv_has ls 7 [(0, .ref (gO g 16)), (1, .int p1), (2, .int p2)] := hl
  refine lv_iconst (v := 1) hx hb dX6_findLeast_0 (by decide) ?_
  refine lv_istore_n (lv' := [(3, .int 1), (0, .ref (gO g 16)), (1, .int p1), (2, .int p2)]) hx hb dX6_findLeast_1 rfl hl (by decide) rfl (fun ls hl => ?_)
  refine lv_iconst (v := 0) hx hb dX6_findLeast_2 (by decide) ?_
  refine lv_istore (lv' := [(4, .int 0), (3, .int 1), (0, .ref (gO g 16)), (1, .int p1), (2, .int p2)]) hx hb dX6_findLeast_3 hl (by decide) rfl (fun ls hl => ?_)
  refine loop8 7 5 (fun x : LZ => [(4, .int (x.2.1 0)), (3, .int (x.2.1 1)), (0, .ref (gO g 16)), (1, .int p1), (2, .int p2)]) (fun x : LZ => (x.1 = σ) ∧ ((0 : Int) ≤ (x.2.1 0).toInt ∧ (x.2.1 0).toInt ≤ 3) ∧ True) (fun x : LZ => ((4 : Int) - (x.2.1 0).toInt).toNat) ?_ (σ, lf [0, 1], lg []) ⟨rfl, (show (0 : Int) ≤ (0 : Int32).toInt ∧ (0 : Int32).toInt ≤ 3 from (by have z0 : (0 : Int32).toInt = 0 := (by decide); omega)), trivial⟩ _ _ _ hP hS (lv_sub hl [0, 1, 2, 3, 4] rfl)
  intro y3 hI2 nl1 H locs ls hP hS hl
  rw [show y3.1 = σ from hI2.1] at hP
  have b4 : (0 : Int) ≤ (y3.2.1 0).toInt ∧ (y3.2.1 0).toInt ≤ 3 := hI2.2.1
  have hl : lv_has ls 7 [(4, .int (y3.2.1 0)), (3, .int (y3.2.1 1)), (0, .ref (gO g 16)), (1, .int p1), (2, .int p2)] := hl
  refine lv_iload hx hb dX6_findLeast_5 (lv_at hl 0 rfl) ?_
  refine lv_iload_n hx hb dX6_findLeast_7 rfl (lv_at hl 4 rfl) ?_
  refine lv_icmp_ge (tgt := 21) hx hb dX6_findLeast_8 (by decide) (fun c5 => ?_) (fun c5 => ?_)
  ·
    have k6 := ple32 c5
    refine lv_iconst (v := (-1)) hx hb dX6_findLeast_21 (by decide) ?_
    refine lv_istore (lv' := [(4, .int (-1)), (3, .int (y3.2.1 1)), (0, .ref (gO g 16)), (1, .int p1), (2, .int p2)]) hx hb dX6_findLeast_22 hl (by decide) rfl (fun ls hl => ?_)
    refine lv_iconst (v := 0) hx hb dX6_findLeast_24 (by decide) ?_
    refine lv_istore (lv' := [(5, .int 0), (4, .int (-1)), (3, .int (y3.2.1 1)), (0, .ref (gO g 16)), (1, .int p1), (2, .int p2)]) hx hb dX6_findLeast_25 hl (by decide) rfl (fun ls hl => ?_)
    refine loop8 7 27 (fun x : LZ => [(5, .int (x.2.1 0)), (4, .int (x.2.1 1)), (3, .int (y3.2.1 1)), (0, .ref (gO g 16)), (1, .int p1), (2, .int p2)]) (fun x : LZ => (Fr (fO [16]) σ x.1) ∧ (J8 x.1) ∧ ((0 : Int) ≤ (x.2.1 0).toInt ∧ (x.2.1 0).toInt ≤ 2147483647) ∧ True) (fun x : LZ => ((2147483648 : Int) - (x.2.1 0).toInt).toNat) ?_ (σ, lf [0, (-1)], lg []) ⟨Fr.rf, hJ, (show (0 : Int) ≤ (0 : Int32).toInt ∧ (0 : Int32).toInt ≤ 2147483647 from (by have z0 : (0 : Int32).toInt = 0 := (by decide); omega)), trivial⟩ _ _ _ hP hS (lv_sub hl [0, 1, 2, 3, 4, 5] rfl)
    intro y9 hI8 nl7 H locs ls hP hS hl
    obtain ⟨σ10, eσ10⟩ : ∃ z, z = y9.1 := ⟨_, rfl⟩
    rw [← eσ10] at hP hI8
    have hF11 : Fr (fO [16]) σ σ10 := hI8.1
    have hJ12 : J8 σ10 := hI8.2.1
    have b13 : (0 : Int) ≤ (y9.2.1 0).toInt ∧ (y9.2.1 0).toInt ≤ 2147483647 := hI8.2.2.1
    have hl : lv_has ls 7 [(5, .int (y9.2.1 0)), (4, .int (y9.2.1 1)), (3, .int (y3.2.1 1)), (0, .ref (gO g 16)), (1, .int p1), (2, .int p2)] := hl
    refine lv_iload hx hb dX6_findLeast_27 (lv_at hl 0 rfl) ?_
    refine lv_iload_n hx hb dX6_findLeast_29 rfl (lv_at hl 2 rfl) ?_
    refine lv_icmp_ge (tgt := 86) hx hb dX6_findLeast_30 (by decide) (fun c14 => ?_) (fun c14 => ?_)
    ·
      have k15 := ple32 c14
      refine lv_iload hx hb dX6_findLeast_86 (lv_at hl 1 rfl) ?_
      exact W.iret (v := (y9.2.1 1)) hx hb hr (fun tS ht hW => ⟨⟨(y9.2.1 1), σ10, rfl, ⟨Fr.tr (Fr.rf) hF11 (fO_sub (fun _ q => q)), hJ12, trivial⟩, (show va_P D clz (WD8 cy g σ10) tS.heap by rw [ht]; exact hP)⟩, hS.F ht⟩) hS.2.2 dX6_findLeast_88
    ·
      have k16 := nle32 c14
      refine lv_aload_n hx hb dX6_findLeast_33 rfl (lv_at hl 3 rfl) ?_
      refine lv_iload hx hb dX6_findLeast_34 (lv_at hl 0 rfl) ?_
      refine lv_iload_n hx hb dX6_findLeast_36 rfl (lv_at hl 4 rfl) ?_
      refine lv_iload_n hx hb dX6_findLeast_37 rfl (lv_at hl 5 rfl) ?_
      refine va_calli (va_runV (As := [.int (y9.2.1 0), .int p1, .int p2]) (rest := []) ⟨hx, hb, hml, hown, hts⟩ (m_X6_costOfRow l D cy g σ10  (y9.2.1 0) p1 p2 _ hJ12 (show (0 : Int) ≤ (y9.2.1 0).toInt ∧ (y9.2.1 0).toInt ≤ 2147483646 from (by have f0 := b13; have f1 := k16; have g0 := rg32 (y3.2.1 1); have g1 := rg32 (y9.2.1 0); omega)) (show (0 : Int) ≤ p1.toInt ∧ p1.toInt ≤ 9 from (by have f0 := h0; have f1 := b13; have f2 := k16; have g0 := rg32 (y3.2.1 1); have g1 := rg32 (y9.2.1 0); have g2 := rg32 p1; omega)) (show (0 : Int) ≤ p2.toInt ∧ p2.toInt ≤ 3 from (by have f0 := h0; have f1 := h1; have f2 := k6; have f3 := b13; have f4 := k16; have f5 := b4; have g0 := rg32 (y3.2.1 1); have g1 := rg32 (y9.2.1 0); have g2 := rg32 p1; have g3 := rg32 p2; omega))) (cwV 3 hts (gd_V q1245 q1247 q46 q132 q1248) rfl rfl rfl (by decide +kernel) ⟨(Nat.le_of_ble_eq_true rfl), (Nat.le_of_ble_eq_true rfl)⟩) (pv8 hP hK hD hC hS (rv8_6 hK hP)) rfl rfl hl.1 rfl (lv_room (Nat.le_of_ble_eq_true rfl)) dX6_findLeast_38 ⟨Nat.le_of_ble_eq_true rfl, Nat.le_of_ble_eq_true rfl⟩) hS (fun q _ h => up8 hS q h) (up8 hS) (fun r17 σ18 tS H1 locs ht hvm hw19 hB hz1 hk1 hS => ?_)
      have hP : va_P D clz (WD8 cy g σ18) H1 := by rw [← ht]; exact hB
      clear hB hz1 hk1 hvm ht
      generalize H1 = H at hP hS ⊢
      have hF20 : Fr (fO [16]) σ10 σ18 := hw19.1
      have hJ21 : J8 σ18 := hw19.2.1
      refine lv_istore (lv' := [(6, .int r17), (5, .int (y9.2.1 0)), (4, .int (y9.2.1 1)), (3, .int (y3.2.1 1)), (0, .ref (gO g 16)), (1, .int p1), (2, .int p2)]) hx hb dX6_findLeast_41 hl (by decide) rfl (fun ls hl => ?_)
      refine lv_iload hx hb dX6_findLeast_43 (lv_at hl 0 rfl) ?_
      refine lv_iconst (v := (-1)) hx hb dX6_findLeast_45 (by decide) ?_
      refine cut8 (D := D) (cy := cy) (g := g) (A := A8 cy g s.heap.size) (H0 := s.heap) 7 80 (fun x : LZ => [(6, .int r17), (5, .int (y9.2.1 0)), (4, .int (x.2.1 0)), (3, .int (y3.2.1 1)), (0, .ref (gO g 16)), (1, .int p1), (2, .int p2)]) (fun x : LZ => []) (fun x : LZ => (Fr (fO [16]) σ18 x.1) ∧ (J8 x.1) ∧ True) ?_ ?_
      ·
        intro y24 hI23 H locs ls hP hS hl
        obtain ⟨σ25, eσ25⟩ : ∃ z, z = y24.1 := ⟨_, rfl⟩
        rw [← eσ25] at hP hI23
        have hF26 : Fr (fO [16]) σ18 σ25 := hI23.1
        have hJ27 : J8 σ25 := hI23.2.1
        have hl : lv_has ls 7 [(6, .int r17), (5, .int (y9.2.1 0)), (4, .int (y24.2.1 0)), (3, .int (y3.2.1 1)), (0, .ref (gO g 16)), (1, .int p1), (2, .int p2)] := hl
        obtain ⟨x28, ex28⟩ : ∃ y : Int32, y = (y9.2.1 0) + 1 := ⟨_, rfl⟩
        have t29 := addO ex28 (by have f0 := b13; have f1 := k16; have g0 := rg32 (y3.2.1 1); have g1 := rg32 (y9.2.1 0); have z1 : (1 : Int32).toInt = 1 := (by decide); omega)
        refine lv_iinc (v := x28) (lv' := [(5, .int x28), (6, .int r17), (4, .int (y24.2.1 0)), (3, .int (y3.2.1 1)), (0, .ref (gO g 16)), (1, .int p1), (2, .int p2)]) hx hb dX6_findLeast_80 hl (k := 1) rfl (by rw [ex28]; rfl) (by decide) rfl (fun ls hl => ?_)
        refine lv_goto (tgt := 27) hx hb dX6_findLeast_83 (by decide) ?_
        have t30 : ((2147483648 : Int) - x28.toInt).toNat < ((2147483648 : Int) - (y9.2.1 0).toInt).toNat := (by have f0 := b13; have f1 := k16; have f2 := t29; have g0 := rg32 (y3.2.1 1); have g1 := rg32 (y9.2.1 0); have g2 := rg32 x28; have z1 : (1 : Int32).toInt = 1 := (by decide); omega)
        exact nl7 (σ25, lf [x28, (y24.2.1 0)], lg []) ⟨Fr.tr (Fr.tr (Fr.tr (Fr.rf) hF11 (fO_sub (fun _ q => q))) hF20 (fO_sub (fun _ q => q))) hF26 (fO_sub (fun _ q => q)), hJ27, (show (0 : Int) ≤ (x28 : Int32).toInt ∧ (x28 : Int32).toInt ≤ 2147483647 from (by have f0 := t29; have f1 := b13; have f2 := k16; have g0 := rg32 (y3.2.1 1); have g1 := rg32 (y9.2.1 0); have g2 := rg32 x28; have z1 : (1 : Int32).toInt = 1 := (by decide); omega)), trivial⟩ (show ((2147483648 : Int) - x28.toInt).toNat < _ from by first | exact t30 | (rw [← eσ10]; exact t30)) _ _ _ hP hS (lv_sub hl [0, 2, 3, 4, 5, 6] rfl)
      ·
        intro nj22
        refine lv_icmp_eq (tgt := 80) hx hb dX6_findLeast_46 (by decide) (fun c31 => ?_) (fun c31 => ?_)
        ·
          have k32 := peq32 c31
          exact nj22 (σ18, lf [(y9.2.1 1)], lg []) ⟨Fr.rf, hJ21, trivial⟩ _ _ _ hP hS (lv_sub hl [0, 1, 2, 3, 4, 5, 6] rfl)
        ·
          have k33 := neq32 c31
          refine lv_iload hx hb dX6_findLeast_49 (lv_at hl 2 rfl) ?_
          refine lv_iconst (v := (-1)) hx hb dX6_findLeast_51 (by decide) ?_
          refine cut8 (D := D) (cy := cy) (g := g) (A := A8 cy g s.heap.size) (H0 := s.heap) 7 62 (fun x : LZ => [(6, .int r17), (5, .int (y9.2.1 0)), (4, .int (y9.2.1 1)), (3, .int (y3.2.1 1)), (0, .ref (gO g 16)), (1, .int p1), (2, .int p2)]) (fun x : LZ => []) (fun x : LZ => (x.1 = σ18) ∧ True) ?_ ?_
          ·
            intro y36 hI35 H locs ls hP hS hl
            rw [show y36.1 = σ18 from hI35.1] at hP
            have hl : lv_has ls 7 [(6, .int r17), (5, .int (y9.2.1 0)), (4, .int (y9.2.1 1)), (3, .int (y3.2.1 1)), (0, .ref (gO g 16)), (1, .int p1), (2, .int p2)] := hl
            refine lv_iload hx hb dX6_findLeast_62 (lv_at hl 0 rfl) ?_
            refine lv_istore (lv' := [(4, .int r17), (6, .int r17), (5, .int (y9.2.1 0)), (3, .int (y3.2.1 1)), (0, .ref (gO g 16)), (1, .int p1), (2, .int p2)]) hx hb dX6_findLeast_64 hl (by decide) rfl (fun ls hl => ?_)
            refine lv_aload_n hx hb dX6_findLeast_66 rfl (lv_at hl 4 rfl) ?_
            refine g8_6_1 hx hb hts hown hK hP (hts _ q402) dX6_findLeast_67 ?_
            refine lv_iconst (v := 0) hx hb dX6_findLeast_70 (by decide) ?_
            refine lv_aload_n hx hb dX6_findLeast_71 rfl (lv_at hl 4 rfl) ?_
            refine g8_6_2 hx hb hts hown hK hP (hts _ q403) dX6_findLeast_72 ?_
            refine lv_iconst (v := 0) hx hb dX6_findLeast_75 (by decide) ?_
            refine lv_iconst (v := 3) hx hb dX6_findLeast_76 (by decide) ?_
            refine va_copyi (ty := .int) hx hb (hml.trans hl.1.symm) hown (hts _ q1250) (hts _ q708) (hts _ q707) (hts _ q141) hK hP (hD σ18) hS 65 66 0 0 (at8_6_1) (at8_6_2) rfl rfl rfl (by decide) (by decide) (by decide) (by decide) (by decide) (fun _ _ => rfl) (Nat.le_of_ble_eq_true rfl) (Nat.le_of_ble_eq_true rfl) dX6_findLeast_77 (fun H locs hP hDx hS => ?_)
            clear hDx
            have hP := vpe (set8_6_2 (cy := cy) (g := g) (σ := σ18) (f := va_cpy ((σ18 16).2.2.1 1) ((σ18 16).2.2.1 2) (0 : Int32).toNatClampNeg (0 : Int32).toNatClampNeg (3 : Int32).toNatClampNeg)) hP
            obtain ⟨σ37, eσ37⟩ : ∃ z, z = sA σ18 16 2 (va_cpy ((σ18 16).2.2.1 1) ((σ18 16).2.2.1 2) (0 : Int32).toNatClampNeg (0 : Int32).toNatClampNeg (3 : Int32).toNatClampNeg) := ⟨_, rfl⟩
            rw [← eσ37] at hP
            have hJ38 : J8 σ37 := hJ21.C eσ37 rfl (show ∀ j : Nat, PA8 6 2 _ from (fun _ => trivial))
            exact nj22 (σ37, lf [r17], lg []) ⟨Fr.tr (Fr.rf) (sA_f eσ37) (fN_O mem0), hJ38, trivial⟩ _ _ _ hP hS (lv_sub hl [1, 2, 0, 3, 4, 5, 6] rfl)
          ·
            intro nj34
            refine lv_icmp_eq (tgt := 62) hx hb dX6_findLeast_52 (by decide) (fun c39 => ?_) (fun c39 => ?_)
            ·
              have k40 := peq32 c39
              exact nj34 (σ18, lf [], lg []) ⟨rfl, trivial⟩ _ _ _ hP hS (lv_sub hl [0, 1, 2, 3, 4, 5, 6] rfl)
            ·
              have k41 := neq32 c39
              refine lv_iload hx hb dX6_findLeast_55 (lv_at hl 0 rfl) ?_
              refine lv_iload hx hb dX6_findLeast_57 (lv_at hl 2 rfl) ?_
              refine lv_icmp_ge (tgt := 80) hx hb dX6_findLeast_59 (by decide) (fun c42 => ?_) (fun c42 => ?_)
              ·
                have k43 := ple32 c42
                exact nj22 (σ18, lf [(y9.2.1 1)], lg []) ⟨Fr.rf, hJ21, trivial⟩ _ _ _ hP hS (lv_sub hl [0, 1, 2, 3, 4, 5, 6] rfl)
              ·
                have k44 := nle32 c42
                exact nj34 (σ18, lf [], lg []) ⟨rfl, trivial⟩ _ _ _ hP hS (lv_sub hl [0, 1, 2, 3, 4, 5, 6] rfl)
  ·
    have k45 := nle32 c5
    refine lv_iload_n hx hb dX6_findLeast_11 rfl (lv_at hl 1 rfl) ?_
    refine lv_iload_n hx hb dX6_findLeast_12 rfl (lv_at hl 3 rfl) ?_
    refine lv_imul hx hb dX6_findLeast_13 ?_
    refine lv_topi (fun x46 ex46 => ?_)
    refine lv_istore_n (lv' := [(3, .int x46), (4, .int (y3.2.1 0)), (0, .ref (gO g 16)), (1, .int p1), (2, .int p2)]) hx hb dX6_findLeast_14 rfl hl (by decide) rfl (fun ls hl => ?_)
    obtain ⟨x47, ex47⟩ : ∃ y : Int32, y = (y3.2.1 0) + 1 := ⟨_, rfl⟩
    have t48 := addO ex47 (by have f0 := b4; have f1 := k45; have f2 := h1; have g0 := rg32 (y3.2.1 0); have z1 : (1 : Int32).toInt = 1 := (by decide); omega)
    refine lv_iinc (v := x47) (lv' := [(4, .int x47), (3, .int x46), (0, .ref (gO g 16)), (1, .int p1), (2, .int p2)]) hx hb dX6_findLeast_15 hl (k := 1) rfl (by rw [ex47]; rfl) (by decide) rfl (fun ls hl => ?_)
    refine lv_goto (tgt := 5) hx hb dX6_findLeast_18 (by decide) ?_
    have t49 : ((4 : Int) - x47.toInt).toNat < ((4 : Int) - (y3.2.1 0).toInt).toNat := (by have f0 := b4; have f1 := k45; have f2 := t48; have f3 := h1; have g0 := rg32 (y3.2.1 0); have g1 := rg32 x47; have z1 : (1 : Int32).toInt = 1 := (by decide); omega)
    exact nl1 (σ, lf [x47, x46], lg []) ⟨rfl, (show (0 : Int) ≤ (x47 : Int32).toInt ∧ (x47 : Int32).toInt ≤ 3 from (by have f0 := t48; have f1 := b4; have f2 := k45; have f3 := h1; have g0 := rg32 x47; have z1 : (1 : Int32).toInt = 1 := (by decide); omega)), trivial⟩ (show ((4 : Int) - x47.toInt).toNat < _ from t49) _ _ _ hP hS (lv_sub hl [0, 1, 2, 3, 4] rfl)

