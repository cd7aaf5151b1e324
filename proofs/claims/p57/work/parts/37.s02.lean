theorem q622 : Cond.code yX0_addPlayer cX0_addPlayer 1 (some .boolean) ∈ lw_g := lw_gm (List.mem_of_getElem? (i := 622) (by decide +kernel)) rfl
theorem dX0_addPlayer_0 : decode cX0_addPlayer 0 = .ok (.aload_n 0, 1) := by decide +kernel
theorem dX0_addPlayer_1 : decode cX0_addPlayer 1 = .ok (.getfield 37, 3) := by decide +kernel
theorem dX0_addPlayer_4 : decode cX0_addPlayer 4 = .ok (.bipush 9, 2) := by decide +kernel
theorem dX0_addPlayer_6 : decode cX0_addPlayer 6 = .ok (.if_icmp .lt 5, 3) := by decide +kernel
theorem dX0_addPlayer_9 : decode cX0_addPlayer 9 = .ok (.iconst 0, 1) := by decide +kernel
theorem dX0_addPlayer_10 : decode cX0_addPlayer 10 = .ok (.ireturn, 1) := by decide +kernel
theorem dX0_addPlayer_11 : decode cX0_addPlayer 11 = .ok (.aload_n 0, 1) := by decide +kernel
theorem dX0_addPlayer_12 : decode cX0_addPlayer 12 = .ok (.dup, 1) := by decide +kernel
theorem dX0_addPlayer_13 : decode cX0_addPlayer 13 = .ok (.getfield 37, 3) := by decide +kernel
theorem dX0_addPlayer_16 : decode cX0_addPlayer 16 = .ok (.iconst 1, 1) := by decide +kernel
theorem dX0_addPlayer_17 : decode cX0_addPlayer 17 = .ok (.iadd, 1) := by decide +kernel
theorem dX0_addPlayer_18 : decode cX0_addPlayer 18 = .ok (.putfield 37, 3) := by decide +kernel
theorem dX0_addPlayer_21 : decode cX0_addPlayer 21 = .ok (.iconst 1, 1) := by decide +kernel
theorem dX0_addPlayer_22 : decode cX0_addPlayer 22 = .ok (.ireturn, 1) := by decide +kernel
set_option maxHeartbeats 4000000 in
set_option maxRecDepth 100000 in
theorem m_X0_addPlayer (l : Launch) (D : va_G) (cy : Nat → ClassId) (g : Nat → Nat) (σ : ST) (d0 : Nat) (sz : Nat) (hJ : J8 σ) (hd0 : 0 ≤ d0 ∧ d0 < 5) : Met l yX0_addPlayer (ww yX0_addPlayer cX0_addPlayer 1 (some .boolean)) ({ frames := 1, cells := 0, slots := 0, locals := 64 }) (va_Pc [.ref (gO g d0)] (pr8 D cy g σ sz)) (qi8 D cy g sz (fun r τ => Fr (fO [d0]) σ τ ∧ J8 τ ∧ ((0 : Int) ≤ r.toInt ∧ r.toInt ≤ 1) ∧ True)) 0 0 (A8 cy g sz) := by
  refine Met.ofW (cc := cX0_addPlayer) (maxL := 1) (ret := (some .boolean)) (by decide) rfl ?_
  intro p e s m args below meth c s₁ B hml hv
  obtain ⟨rfl, hsz, hP, hK, hD0, hC⟩ := hv
  have hx := B.exec
  have hb := B.bytes
  have hr := B.returns
  have hts := hts_g (atoms_spec (ws := ww yX0_addPlayer cX0_addPlayer 1 (some .boolean)) B.pre)
  have hown : s.vm.findClass RX0 = some m.cls := findClass_of_methodNamed B.named
  have hlocks := B.notSynchronized
  clear B
  subst hsz
  have hD := fun τ => A8_D (sz := s.heap.size) hD0 τ
  clear hD0
  have hS : va_S (A8 cy g s.heap.size) s.heap s.heap [] := va_S.rf
  have hl := lv_entry ([.ref (gO g d0)]) (n := 1) (Nat.le_of_ble_eq_true rfl)
  rw [lg_entry_eq]
  generalize (lg_sl ([.ref (gO g d0)]) ++ List.replicate (1 - (lg_sl ([.ref (gO g d0)])).length) Slot.unset).toArray = ls at hl ⊢
  have hl : lv_has ls 1 [(0, .ref (gO g d0))] := hl
  refine lv_aload_n hx hb dX0_addPlayer_0 rfl (lv_at hl 0 rfl) ?_
  refine g8_0_4 (x := ((σ d0).1 4)) hx hb hts hown hK hP hd0 (rfl) (hts _ q206) dX0_addPlayer_1 ?_
  refine lv_bipush (v := 9) hx hb dX0_addPlayer_4 (by decide) ?_
  refine lv_icmp_lt (tgt := 11) hx hb dX0_addPlayer_6 (by decide) (fun c1 => ?_) (fun c1 => ?_)
  ·
    have k2 := plt32 c1
    refine lv_aload_n hx hb dX0_addPlayer_11 rfl (lv_at hl 0 rfl) ?_
    refine lv_dup hx hb dX0_addPlayer_12 rfl ?_
    refine g8_0_4 (x := ((σ d0).1 4)) hx hb hts hown hK hP hd0 (rfl) (hts _ q206) dX0_addPlayer_13 ?_
    refine lv_iconst (v := 1) hx hb dX0_addPlayer_16 (by decide) ?_
    refine lv_iadd hx hb dX0_addPlayer_17 ?_
    refine lv_topi (fun x3 ex3 => ?_)
    have t4 := addO ex3 (by have f0 := j8_0_4 hJ hd0 rfl; have f1 := k2; have z1 : (1 : Int32).toInt = 1 := (by decide); have z9 : (9 : Int32).toInt = 9 := (by decide); omega)
    refine p8_0_4 hx hb hts hown hK hP hd0 hD hS (hts _ q206) dX0_addPlayer_18 (fun H locs σ5 eσ5 hP hS => ?_)
    have hJ6 : J8 σ5 := hJ.I eσ5 (clO_0 hd0) (show JI8 0 4 x3 from (by have f0 := t4; have f1 := j8_0_4 hJ hd0 rfl; have f2 := k2; have g0 := rg32 x3; have z1 : (1 : Int32).toInt = 1 := (by decide); have z9 : (9 : Int32).toInt = 9 := (by decide); exact ⟨by omega, by omega⟩))
    refine lv_iconst (v := 1) hx hb dX0_addPlayer_21 (by decide) ?_
    exact W.zret (v := 1) hx hb hr rfl (fun tS ht hW => ⟨⟨1, σ5, rfl, ⟨Fr.tr (Fr.rf) (sI_f eσ5) (fN_O mem0), hJ6, (show (0 : Int) ≤ (1 : Int32).toInt ∧ (1 : Int32).toInt ≤ 1 from (by have z1 : (1 : Int32).toInt = 1 := (by decide); omega)), trivial⟩, (show va_P D clz (WD8 cy g σ5) tS.heap by rw [ht]; exact hP)⟩, hS.F ht⟩) hS.2.2 dX0_addPlayer_22
  ·
    have k7 := nlt32 c1
    refine lv_iconst (v := 0) hx hb dX0_addPlayer_9 (by decide) ?_
    exact W.zret (v := 0) hx hb hr rfl (fun tS ht hW => ⟨⟨0, σ, rfl, ⟨Fr.rf, hJ, (show (0 : Int) ≤ (0 : Int32).toInt ∧ (0 : Int32).toInt ≤ 1 from (by have z0 : (0 : Int32).toInt = 0 := (by decide); omega)), trivial⟩, (show va_P D clz (WD8 cy g σ) tS.heap by rw [ht]; exact hP)⟩, hS.F ht⟩) hS.2.2 dX0_addPlayer_10

theorem q630 : Cond.code yX0_hasPlayer cX0_hasPlayer 2 (some .boolean) ∈ lw_g := lw_gm (List.mem_of_getElem? (i := 630) (by decide +kernel)) rfl
theorem dX0_hasPlayer_0 : decode cX0_hasPlayer 0 = .ok (.iload_n 1, 1) := by decide +kernel
theorem dX0_hasPlayer_1 : decode cX0_hasPlayer 1 = .ok (.ifCond .lt 15, 3) := by decide +kernel
theorem dX0_hasPlayer_4 : decode cX0_hasPlayer 4 = .ok (.iload_n 1, 1) := by decide +kernel
theorem dX0_hasPlayer_5 : decode cX0_hasPlayer 5 = .ok (.aload_n 0, 1) := by decide +kernel
theorem dX0_hasPlayer_6 : decode cX0_hasPlayer 6 = .ok (.getfield 37, 3) := by decide +kernel
theorem dX0_hasPlayer_9 : decode cX0_hasPlayer 9 = .ok (.if_icmp .ge 7, 3) := by decide +kernel
theorem dX0_hasPlayer_12 : decode cX0_hasPlayer 12 = .ok (.iconst 1, 1) := by decide +kernel
theorem dX0_hasPlayer_13 : decode cX0_hasPlayer 13 = .ok (.goto 4, 3) := by decide +kernel
theorem dX0_hasPlayer_16 : decode cX0_hasPlayer 16 = .ok (.iconst 0, 1) := by decide +kernel
theorem dX0_hasPlayer_17 : decode cX0_hasPlayer 17 = .ok (.ireturn, 1) := by decide +kernel
set_option maxHeartbeats 4000000 in
set_option maxRecDepth 100000 in
theorem m_X0_hasPlayer (l : Launch) (D : va_G) (cy : Nat → ClassId) (g : Nat → Nat) (σ : ST) (d0 : Nat) (p1 : Int32) (sz : Nat) (hJ : J8 σ) (hd0 : 0 ≤ d0 ∧ d0 < 5) : Met l yX0_hasPlayer (ww yX0_hasPlayer cX0_hasPlayer 2 (some .boolean)) ({ frames := 1, cells := 0, slots := 0, locals := 64 }) (va_Pc [.ref (gO g d0), .int p1] (pr8 D cy g σ sz)) (qi8 D cy g sz (fun r τ => τ = σ ∧ ((0 : Int) ≤ r.toInt ∧ r.toInt ≤ 1) ∧ ((r.toInt = 0) ∨ ((0 : Int) ≤ p1.toInt ∧ p1.toInt ≤ 8)) ∧ True)) 0 0 (A8 cy g sz) := by
  refine Met.ofW (cc := cX0_hasPlayer) (maxL := 2) (ret := (some .boolean)) (by decide) rfl ?_
  intro p e s m args below meth c s₁ B hml hv
  obtain ⟨rfl, hsz, hP, hK, hD0, hC⟩ := hv
  have hx := B.exec
  have hb := B.bytes
  have hr := B.returns
  have hts := hts_g (atoms_spec (ws := ww yX0_hasPlayer cX0_hasPlayer 2 (some .boolean)) B.pre)
  have hown : s.vm.findClass RX0 = some m.cls := findClass_of_methodNamed B.named
  have hlocks := B.notSynchronized
  clear B
  subst hsz
  have hD := fun τ => A8_D (sz := s.heap.size) hD0 τ
  clear hD0
  have hS : va_S (A8 cy g s.heap.size) s.heap s.heap [] := va_S.rf
  have hl := lv_entry ([.ref (gO g d0), .int p1]) (n := 2) (Nat.le_of_ble_eq_true rfl)
  rw [lg_entry_eq]
  generalize (lg_sl ([.ref (gO g d0), .int p1]) ++ List.replicate (2 - (lg_sl ([.ref (gO g d0), .int p1])).length) Slot.unset).toArray = ls at hl ⊢
  have hl : lv_has ls 2 [(0, .ref (gO g d0)), (1, .int p1)] := hl
  refine lv_iload_n hx hb dX0_hasPlayer_0 rfl (lv_at hl 1 rfl) ?_
  refine lv_if_lt (tgt := 16) hx hb dX0_hasPlayer_1 (by decide) (fun c1 => ?_) (fun c1 => ?_)
  ·
    have k2 := plt32 c1
    refine lv_iconst (v := 0) hx hb dX0_hasPlayer_16 (by decide) ?_
    exact W.zret (v := 0) hx hb hr rfl (fun tS ht hW => ⟨⟨0, σ, rfl, ⟨rfl, (show (0 : Int) ≤ (0 : Int32).toInt ∧ (0 : Int32).toInt ≤ 1 from (by have z0 : (0 : Int32).toInt = 0 := (by decide); omega)), (show ((0 : Int32).toInt = 0) ∨ ((0 : Int) ≤ p1.toInt ∧ p1.toInt ≤ 8) from (by have f0 := k2; have g0 := rg32 p1; have z0 : (0 : Int32).toInt = 0 := (by decide); omega)), trivial⟩, (show va_P D clz (WD8 cy g σ) tS.heap by rw [ht]; exact hP)⟩, hS.F ht⟩) hS.2.2 dX0_hasPlayer_17
  ·
    have k3 := nlt32 c1
    refine lv_iload_n hx hb dX0_hasPlayer_4 rfl (lv_at hl 1 rfl) ?_
    refine lv_aload_n hx hb dX0_hasPlayer_5 rfl (lv_at hl 0 rfl) ?_
    refine g8_0_4 (x := ((σ d0).1 4)) hx hb hts hown hK hP hd0 (rfl) (hts _ q206) dX0_hasPlayer_6 ?_
    refine lv_icmp_ge (tgt := 16) hx hb dX0_hasPlayer_9 (by decide) (fun c4 => ?_) (fun c4 => ?_)
    ·
      have k5 := ple32 c4
      refine lv_iconst (v := 0) hx hb dX0_hasPlayer_16 (by decide) ?_
      exact W.zret (v := 0) hx hb hr rfl (fun tS ht hW => ⟨⟨0, σ, rfl, ⟨rfl, (show (0 : Int) ≤ (0 : Int32).toInt ∧ (0 : Int32).toInt ≤ 1 from (by have z0 : (0 : Int32).toInt = 0 := (by decide); omega)), (show ((0 : Int32).toInt = 0) ∨ ((0 : Int) ≤ p1.toInt ∧ p1.toInt ≤ 8) from (by have f0 := k3; have f1 := k5; have f2 := j8_0_4 hJ hd0 rfl; have g0 := rg32 p1; have z0 : (0 : Int32).toInt = 0 := (by decide); omega)), trivial⟩, (show va_P D clz (WD8 cy g σ) tS.heap by rw [ht]; exact hP)⟩, hS.F ht⟩) hS.2.2 dX0_hasPlayer_17
    ·
      have k6 := nle32 c4
      refine lv_iconst (v := 1) hx hb dX0_hasPlayer_12 (by decide) ?_
      refine lv_goto (tgt := 17) hx hb dX0_hasPlayer_13 (by decide) ?_
      exact W.zret (v := 1) hx hb hr rfl (fun tS ht hW => ⟨⟨1, σ, rfl, ⟨rfl, (show (0 : Int) ≤ (1 : Int32).toInt ∧ (1 : Int32).toInt ≤ 1 from (by have z1 : (1 : Int32).toInt = 1 := (by decide); omega)), (show ((1 : Int32).toInt = 0) ∨ ((0 : Int) ≤ p1.toInt ∧ p1.toInt ≤ 8) from (by have f0 := k3; have f1 := k6; have f2 := j8_0_4 hJ hd0 rfl; have g0 := rg32 p1; have z0 : (0 : Int32).toInt = 0 := (by decide); have z1 : (1 : Int32).toInt = 1 := (by decide); omega)), trivial⟩, (show va_P D clz (WD8 cy g σ) tS.heap by rw [ht]; exact hP)⟩, hS.F ht⟩) hS.2.2 dX0_hasPlayer_17

theorem q626 : Cond.code yX0_setPlayer cX0_setPlayer 4 none ∈ lw_g := lw_gm (List.mem_of_getElem? (i := 626) (by decide +kernel)) rfl
theorem q627 : Cond.methodLink RX0 67 yX0_hasPlayer ∈ lw_g := lw_gm (List.mem_of_getElem? (i := 627) (by decide +kernel)) rfl
theorem q628 : Cond.instanceMethod yX0_hasPlayer ∈ lw_g := lw_gm (List.mem_of_getElem? (i := 628) (by decide +kernel)) rfl
theorem q629 : Cond.selects RX0 yX0_hasPlayer yX0_hasPlayer ∈ lw_g := lw_gm (List.mem_of_getElem? (i := 629) (by decide +kernel)) rfl
theorem q213 : Cond.fieldLink RX0 15 "LipsAndSlides$Desk" "playerRows" "[I" ∈ lw_g := lw_gm (List.mem_of_getElem? (i := 213) (by decide +kernel)) rfl
theorem dX0_setPlayer_0 : decode cX0_setPlayer 0 = .ok (.aload_n 0, 1) := by decide +kernel
theorem dX0_setPlayer_1 : decode cX0_setPlayer 1 = .ok (.iload_n 1, 1) := by decide +kernel
theorem dX0_setPlayer_2 : decode cX0_setPlayer 2 = .ok (.invokevirtual 67, 3) := by decide +kernel
theorem dX0_setPlayer_5 : decode cX0_setPlayer 5 = .ok (.ifCond .eq 23, 3) := by decide +kernel
theorem dX0_setPlayer_8 : decode cX0_setPlayer 8 = .ok (.iload_n 2, 1) := by decide +kernel
theorem dX0_setPlayer_9 : decode cX0_setPlayer 9 = .ok (.ifCond .lt 19, 3) := by decide +kernel
theorem dX0_setPlayer_12 : decode cX0_setPlayer 12 = .ok (.iload_n 2, 1) := by decide +kernel
theorem dX0_setPlayer_13 : decode cX0_setPlayer 13 = .ok (.iconst 4, 1) := by decide +kernel
theorem dX0_setPlayer_14 : decode cX0_setPlayer 14 = .ok (.if_icmp .ge 14, 3) := by decide +kernel
theorem dX0_setPlayer_17 : decode cX0_setPlayer 17 = .ok (.aload_n 0, 1) := by decide +kernel
theorem dX0_setPlayer_18 : decode cX0_setPlayer 18 = .ok (.getfield 15, 3) := by decide +kernel
theorem dX0_setPlayer_21 : decode cX0_setPlayer 21 = .ok (.iload_n 1, 1) := by decide +kernel
theorem dX0_setPlayer_22 : decode cX0_setPlayer 22 = .ok (.iconst 4, 1) := by decide +kernel
theorem dX0_setPlayer_23 : decode cX0_setPlayer 23 = .ok (.imul, 1) := by decide +kernel
theorem dX0_setPlayer_24 : decode cX0_setPlayer 24 = .ok (.iload_n 2, 1) := by decide +kernel
theorem dX0_setPlayer_25 : decode cX0_setPlayer 25 = .ok (.iadd, 1) := by decide +kernel
theorem dX0_setPlayer_26 : decode cX0_setPlayer 26 = .ok (.iload_n 3, 1) := by decide +kernel
theorem dX0_setPlayer_27 : decode cX0_setPlayer 27 = .ok (.iastore, 1) := by decide +kernel
theorem dX0_setPlayer_28 : decode cX0_setPlayer 28 = .ok (.return_, 1) := by decide +kernel
set_option maxHeartbeats 4000000 in
set_option maxRecDepth 100000 in
theorem m_X0_setPlayer (l : Launch) (D : va_G) (cy : Nat → ClassId) (g : Nat → Nat) (σ : ST) (d0 : Nat) (p1 : Int32) (p2 : Int32) (p3 : Int32) (sz : Nat) (hJ : J8 σ) (hd0 : 0 ≤ d0 ∧ d0 < 5) (h0 : (-1 : Int) ≤ p1.toInt ∧ p1.toInt ≤ 8) (h1 : (-2147483648 : Int) ≤ p3.toInt ∧ p3.toInt ≤ 1000000) : Met l yX0_setPlayer (ww yX0_setPlayer cX0_setPlayer 4 none) ({ frames := 2, cells := 0, slots := 0, locals := 128 }) (va_Pc [.ref (gO g d0), .int p1, .int p2, .int p3] (pr8 D cy g σ sz)) (qv8 D cy g sz (fun τ => Fr (fO [d0]) σ τ ∧ J8 τ ∧ True)) 0 0 (A8 cy g sz) := by
  refine Met.ofW (cc := cX0_setPlayer) (maxL := 4) (ret := none) (by decide) rfl ?_
  intro p e s m args below meth c s₁ B hml hv
  obtain ⟨rfl, hsz, hP, hK, hD0, hC⟩ := hv
  have hx := B.exec
  have hb := B.bytes
  have hr := B.returns
  have hts := hts_g (atoms_spec (ws := ww yX0_setPlayer cX0_setPlayer 4 none) B.pre)
  have hown : s.vm.findClass RX0 = some m.cls := findClass_of_methodNamed B.named
  have hlocks := B.notSynchronized
  clear B
  subst hsz
  have hD := fun τ => A8_D (sz := s.heap.size) hD0 τ
  clear hD0
  have hS : va_S (A8 cy g s.heap.size) s.heap s.heap [] := va_S.rf
  have hl := lv_entry ([.ref (gO g d0), .int p1, .int p2, .int p3]) (n := 4) (Nat.le_of_ble_eq_true rfl)
  rw [lg_entry_eq]
  generalize (lg_sl ([.ref (gO g d0), .int p1, .int p2, .int p3]) ++ List.replicate (4 - (lg_sl ([.ref (gO g d0), .int p1, .int p2, .int p3])).length) Slot.unset).toArray = ls at hl ⊢
  have hl : lv_has ls 4 [(0, .ref (gO g d0)), (1, .int p1), (2, .int p2), (3, .int p3)] := hl
  refine lv_aload_n hx hb dX0_setPlayer_0 rfl (lv_at hl 0 rfl) ?_
  refine lv_iload_n hx hb dX0_setPlayer_1 rfl (lv_at hl 1 rfl) ?_
  refine va_calli (va_runV (As := [.int p1]) (rest := []) ⟨hx, hb, hml, hown, hts⟩ (m_X0_hasPlayer l D cy g σ  d0 p1 _ hJ (show 0 ≤ d0 ∧ d0 < 5 from hd0)) (cwV 1 hts (gd_V q627 q628 q629 q127 q630) rfl rfl rfl (by decide +kernel) ⟨(Nat.le_of_ble_eq_true rfl), (Nat.le_of_ble_eq_true rfl)⟩) (pv8 hP hK hD hC hS (rv8_0 hK hP hd0)) rfl rfl hl.1 rfl (lv_room (Nat.le_of_ble_eq_true rfl)) dX0_setPlayer_2 ⟨Nat.le_of_ble_eq_true rfl, Nat.le_of_ble_eq_true rfl⟩) hS (fun q _ h => up8 hS q h) (up8 hS) (fun r1 σ2 tS H1 locs ht hvm hw3 hB hz1 hk1 hS => ?_)
  have hP : va_P D clz (WD8 cy g σ2) H1 := by rw [← ht]; exact hB
  clear hB hz1 hk1 hvm ht
  generalize H1 = H at hP hS ⊢
  have hw3E : σ = σ2 := (hw3.1).symm
  subst hw3E
  have b4 : (0 : Int) ≤ r1.toInt ∧ r1.toInt ≤ 1 := hw3.2.1
  have b5 : (r1.toInt = 0) ∨ ((0 : Int) ≤ p1.toInt ∧ p1.toInt ≤ 8) := hw3.2.2.1
  refine lv_if_eq (tgt := 28) hx hb dX0_setPlayer_5 (by decide) (fun c6 => ?_) (fun c6 => ?_)
  ·
    have k7 := peq32 c6
    exact W.vret hx hb hr (fun tS ht hW => ⟨⟨σ, rfl, ⟨Fr.rf, hJ, trivial⟩, (show va_P D clz (WD8 cy g σ) tS.heap by rw [ht]; exact hP)⟩, hS.F ht⟩) hS.2.2 dX0_setPlayer_28
  ·
    have k8 := neq32 c6
    refine lv_iload_n hx hb dX0_setPlayer_8 rfl (lv_at hl 2 rfl) ?_
    refine lv_if_lt (tgt := 28) hx hb dX0_setPlayer_9 (by decide) (fun c9 => ?_) (fun c9 => ?_)
    ·
      have k10 := plt32 c9
      exact W.vret hx hb hr (fun tS ht hW => ⟨⟨σ, rfl, ⟨Fr.rf, hJ, trivial⟩, (show va_P D clz (WD8 cy g σ) tS.heap by rw [ht]; exact hP)⟩, hS.F ht⟩) hS.2.2 dX0_setPlayer_28
    ·
      have k11 := nlt32 c9
      refine lv_iload_n hx hb dX0_setPlayer_12 rfl (lv_at hl 2 rfl) ?_
      refine lv_iconst (v := 4) hx hb dX0_setPlayer_13 (by decide) ?_
      refine lv_icmp_ge (tgt := 28) hx hb dX0_setPlayer_14 (by decide) (fun c12 => ?_) (fun c12 => ?_)
      ·
        have k13 := ple32 c12
        exact W.vret hx hb hr (fun tS ht hW => ⟨⟨σ, rfl, ⟨Fr.rf, hJ, trivial⟩, (show va_P D clz (WD8 cy g σ) tS.heap by rw [ht]; exact hP)⟩, hS.F ht⟩) hS.2.2 dX0_setPlayer_28
      ·
        have k14 := nle32 c12
        refine lv_aload_n hx hb dX0_setPlayer_17 rfl (lv_at hl 0 rfl) ?_
        refine g8_0_7 hx hb hts hown hK hP hd0 (hts _ q213) dX0_setPlayer_18 ?_
        refine lv_iload_n hx hb dX0_setPlayer_21 rfl (lv_at hl 1 rfl) ?_
        refine lv_iconst (v := 4) hx hb dX0_setPlayer_22 (by decide) ?_
        refine lv_imul hx hb dX0_setPlayer_23 ?_
        refine lv_topi (fun x15 ex15 => ?_)
        have t16 := mulC (n := 4) ex15 (by decide) (by have f0 := h0; have f1 := b5; have f2 := b4; have f3 := k8; have g0 := rg32 p1; have z0 : (0 : Int32).toInt = 0 := (by decide); omega)
        refine lv_iload_n hx hb dX0_setPlayer_24 rfl (lv_at hl 2 rfl) ?_
        refine lv_iadd hx hb dX0_setPlayer_25 ?_
        refine lv_topi (fun x17 ex17 => ?_)
        have t18 := addO ex17 (by have f0 := k11; have f1 := k14; have f2 := t16; have f3 := h0; have f4 := b5; have f5 := b4; have f6 := k8; have g0 := rg32 p2; have g1 := rg32 x15; have z0 : (0 : Int32).toInt = 0 := (by decide); have z4 : (4 : Int32).toInt = 4 := (by decide); omega)
        refine lv_iload_n hx hb dX0_setPlayer_26 rfl (lv_at hl 3 rfl) ?_
        refine t8_0_7 hx hb hK hP hd0 hD hS (vpo (by have f0 := t18; have f1 := k11; have f2 := k14; have f3 := t16; have f4 := h0; have f5 := b5; have f6 := b4; have f7 := k8; have g0 := rg32 x17; have z0 : (0 : Int32).toInt = 0 := (by decide); have z4 : (4 : Int32).toInt = 4 := (by decide); omega)) dX0_setPlayer_27 (fun H locs σ19 eσ19 hP hS => ?_)
        have hJ20 : J8 σ19 := hJ.A eσ19 (clO_0 hd0) (show PA8 0 7 p3 from trivial)
        exact W.vret hx hb hr (fun tS ht hW => ⟨⟨σ19, rfl, ⟨Fr.tr (Fr.rf) (sA_f eσ19) (fN_O mem0), hJ20, trivial⟩, (show va_P D clz (WD8 cy g σ19) tS.heap by rw [ht]; exact hP)⟩, hS.F ht⟩) hS.2.2 dX0_setPlayer_28

theorem q618 : Cond.code yX4_readPlayer cX4_readPlayer 3 none ∈ lw_g := lw_gm (List.mem_of_getElem? (i := 618) (by decide +kernel)) rfl
theorem q619 : Cond.methodLink RX4 144 yX0_addPlayer ∈ lw_g := lw_gm (List.mem_of_getElem? (i := 619) (by decide +kernel)) rfl
theorem q620 : Cond.instanceMethod yX0_addPlayer ∈ lw_g := lw_gm (List.mem_of_getElem? (i := 620) (by decide +kernel)) rfl
theorem q621 : Cond.selects RX0 yX0_addPlayer yX0_addPlayer ∈ lw_g := lw_gm (List.mem_of_getElem? (i := 621) (by decide +kernel)) rfl
theorem q208 : Cond.fieldLink RX4 147 "LipsAndSlides$Desk" "players" "I" ∈ lw_g := lw_gm (List.mem_of_getElem? (i := 208) (by decide +kernel)) rfl
theorem q623 : Cond.methodLink RX4 150 yX0_setPlayer ∈ lw_g := lw_gm (List.mem_of_getElem? (i := 623) (by decide +kernel)) rfl
theorem q624 : Cond.instanceMethod yX0_setPlayer ∈ lw_g := lw_gm (List.mem_of_getElem? (i := 624) (by decide +kernel)) rfl
theorem q625 : Cond.selects RX0 yX0_setPlayer yX0_setPlayer ∈ lw_g := lw_gm (List.mem_of_getElem? (i := 625) (by decide +kernel)) rfl
theorem dX4_readPlayer_0 : decode cX4_readPlayer 0 = .ok (.aload_n 0, 1) := by decide +kernel
theorem dX4_readPlayer_1 : decode cX4_readPlayer 1 = .ok (.aload_n 1, 1) := by decide +kernel
theorem dX4_readPlayer_2 : decode cX4_readPlayer 2 = .ok (.invokevirtual 144, 3) := by decide +kernel
theorem dX4_readPlayer_5 : decode cX4_readPlayer 5 = .ok (.invokevirtual 91, 3) := by decide +kernel
theorem dX4_readPlayer_8 : decode cX4_readPlayer 8 = .ok (.aload_n 1, 1) := by decide +kernel
theorem dX4_readPlayer_9 : decode cX4_readPlayer 9 = .ok (.getfield 147, 3) := by decide +kernel
theorem dX4_readPlayer_12 : decode cX4_readPlayer 12 = .ok (.iconst 1, 1) := by decide +kernel
theorem dX4_readPlayer_13 : decode cX4_readPlayer 13 = .ok (.isub, 1) := by decide +kernel
theorem dX4_readPlayer_14 : decode cX4_readPlayer 14 = .ok (.istore_n 2, 1) := by decide +kernel
theorem dX4_readPlayer_15 : decode cX4_readPlayer 15 = .ok (.aload_n 1, 1) := by decide +kernel
theorem dX4_readPlayer_16 : decode cX4_readPlayer 16 = .ok (.iload_n 2, 1) := by decide +kernel
theorem dX4_readPlayer_17 : decode cX4_readPlayer 17 = .ok (.iconst 0, 1) := by decide +kernel
theorem dX4_readPlayer_18 : decode cX4_readPlayer 18 = .ok (.aload_n 0, 1) := by decide +kernel
theorem dX4_readPlayer_19 : decode cX4_readPlayer 19 = .ok (.iconst 0, 1) := by decide +kernel
theorem dX4_readPlayer_20 : decode cX4_readPlayer 20 = .ok (.aload_n 1, 1) := by decide +kernel
theorem dX4_readPlayer_21 : decode cX4_readPlayer 21 = .ok (.getfield 127, 3) := by decide +kernel
theorem dX4_readPlayer_24 : decode cX4_readPlayer 24 = .ok (.iconst 1, 1) := by decide +kernel
theorem dX4_readPlayer_25 : decode cX4_readPlayer 25 = .ok (.isub, 1) := by decide +kernel
theorem dX4_readPlayer_26 : decode cX4_readPlayer 26 = .ok (.invokevirtual 112, 3) := by decide +kernel
theorem dX4_readPlayer_29 : decode cX4_readPlayer 29 = .ok (.invokevirtual 150, 3) := by decide +kernel
theorem dX4_readPlayer_32 : decode cX4_readPlayer 32 = .ok (.aload_n 1, 1) := by decide +kernel
theorem dX4_readPlayer_33 : decode cX4_readPlayer 33 = .ok (.iload_n 2, 1) := by decide +kernel
theorem dX4_readPlayer_34 : decode cX4_readPlayer 34 = .ok (.iconst 1, 1) := by decide +kernel
theorem dX4_readPlayer_35 : decode cX4_readPlayer 35 = .ok (.aload_n 0, 1) := by decide +kernel
theorem dX4_readPlayer_36 : decode cX4_readPlayer 36 = .ok (.ldc 153, 2) := by decide +kernel
theorem dX4_readPlayer_38 : decode cX4_readPlayer 38 = .ok (.iconst 0, 1) := by decide +kernel
theorem dX4_readPlayer_39 : decode cX4_readPlayer 39 = .ok (.bipush 9, 2) := by decide +kernel
theorem dX4_readPlayer_41 : decode cX4_readPlayer 41 = .ok (.invokevirtual 58, 3) := by decide +kernel
theorem dX4_readPlayer_44 : decode cX4_readPlayer 44 = .ok (.invokevirtual 150, 3) := by decide +kernel
theorem dX4_readPlayer_47 : decode cX4_readPlayer 47 = .ok (.aload_n 1, 1) := by decide +kernel
theorem dX4_readPlayer_48 : decode cX4_readPlayer 48 = .ok (.iload_n 2, 1) := by decide +kernel
theorem dX4_readPlayer_49 : decode cX4_readPlayer 49 = .ok (.iconst 2, 1) := by decide +kernel
theorem dX4_readPlayer_50 : decode cX4_readPlayer 50 = .ok (.aload_n 0, 1) := by decide +kernel
theorem dX4_readPlayer_51 : decode cX4_readPlayer 51 = .ok (.ldc 155, 2) := by decide +kernel
theorem dX4_readPlayer_53 : decode cX4_readPlayer 53 = .ok (.iconst 1, 1) := by decide +kernel
theorem dX4_readPlayer_54 : decode cX4_readPlayer 54 = .ok (.bipush 30, 2) := by decide +kernel
theorem dX4_readPlayer_56 : decode cX4_readPlayer 56 = .ok (.invokevirtual 58, 3) := by decide +kernel
theorem dX4_readPlayer_59 : decode cX4_readPlayer 59 = .ok (.invokevirtual 150, 3) := by decide +kernel
theorem dX4_readPlayer_62 : decode cX4_readPlayer 62 = .ok (.aload_n 1, 1) := by decide +kernel
theorem dX4_readPlayer_63 : decode cX4_readPlayer 63 = .ok (.iload_n 2, 1) := by decide +kernel
theorem dX4_readPlayer_64 : decode cX4_readPlayer 64 = .ok (.iconst 3, 1) := by decide +kernel
theorem dX4_readPlayer_65 : decode cX4_readPlayer 65 = .ok (.aload_n 0, 1) := by decide +kernel
theorem dX4_readPlayer_66 : decode cX4_readPlayer 66 = .ok (.ldc 157, 2) := by decide +kernel
theorem dX4_readPlayer_68 : decode cX4_readPlayer 68 = .ok (.iconst 0, 1) := by decide +kernel
theorem dX4_readPlayer_69 : decode cX4_readPlayer 69 = .ok (.sipush 999, 3) := by decide +kernel
theorem dX4_readPlayer_72 : decode cX4_readPlayer 72 = .ok (.invokevirtual 58, 3) := by decide +kernel
theorem dX4_readPlayer_75 : decode cX4_readPlayer 75 = .ok (.invokevirtual 150, 3) := by decide +kernel
theorem dX4_readPlayer_78 : decode cX4_readPlayer 78 = .ok (.return_, 1) := by decide +kernel
set_option maxHeartbeats 4000000 in
set_option maxRecDepth 100000 in
theorem m_X4_readPlayer (l : Launch) (D : va_G) (cy : Nat → ClassId) (g : Nat → Nat) (σ : ST) (d1 : Nat) (sz : Nat) (hJ : J8 σ) (hd1 : 0 ≤ d1 ∧ d1 < 5) : Met l yX4_readPlayer (ww yX4_readPlayer cX4_readPlayer 3 none) ({ frames := 7, cells := 0, slots := 0, locals := 448 }) (va_Pc [.ref (gO g 12), .ref (gO g d1)] (pr8 D cy g σ sz)) (qv8 D cy g sz (fun τ => Fr (fO [12, d1]) σ τ ∧ J8 τ ∧ True)) 0 0 (A8 cy g sz) := by
  refine Met.ofW (cc := cX4_readPlayer) (maxL := 3) (ret := none) (by decide) rfl ?_
  intro p e s m args below meth c s₁ B hml hv
  obtain ⟨rfl, hsz, hP, hK, hD0, hC⟩ := hv
  have hx := B.exec
  have hb := B.bytes
  have hr := B.returns
  have hts := hts_g (atoms_spec (ws := ww yX4_readPlayer cX4_readPlayer 3 none) B.pre)
  have hown : s.vm.findClass RX4 = some m.cls := findClass_of_methodNamed B.named
  have hlocks := B.notSynchronized
  clear B
  subst hsz
  have hD := fun τ => A8_D (sz := s.heap.size) hD0 τ
  clear hD0
  have hS : va_S (A8 cy g s.heap.size) s.heap s.heap [] := va_S.rf
  have hl := lv_entry ([.ref (gO g 12), .ref (gO g d1)]) (n := 3) (Nat.le_of_ble_eq_true rfl)
  rw [lg_entry_eq]
  generalize (lg_sl ([.ref (gO g 12), .ref (gO g d1)]) ++ List.replicate (3 - (lg_sl ([.ref (gO g 12), .ref (gO g d1)])).length) Slot.unset).toArray = ls at hl ⊢
  have hl : lv_has ls 3 [(0, .ref (gO g 12)), (1, .ref (gO g d1))] := hl
  refine lv_aload_n hx hb dX4_readPlayer_0 rfl (lv_at hl 0 rfl) ?_
  refine lv_aload_n hx hb dX4_readPlayer_1 rfl (lv_at hl 1 rfl) ?_
  refine va_calli (va_runV (As := []) (rest := [.ref (gO g 12)]) ⟨hx, hb, hml, hown, hts⟩ (m_X0_addPlayer l D cy g σ  d1 _ hJ (show 0 ≤ d1 ∧ d1 < 5 from hd1)) (cwV 0 hts (gd_V q619 q620 q621 q127 q622) rfl rfl rfl (by decide +kernel) ⟨(Nat.le_of_ble_eq_true rfl), (Nat.le_of_ble_eq_true rfl)⟩) (pv8 hP hK hD hC hS (rv8_0 hK hP hd1)) rfl rfl hl.1 rfl (lv_room (Nat.le_of_ble_eq_true rfl)) dX4_readPlayer_2 ⟨Nat.le_of_ble_eq_true rfl, Nat.le_of_ble_eq_true rfl⟩) hS (fun q _ h => up8 hS q h) (up8 hS) (fun r1 σ2 tS H1 locs ht hvm hw3 hB hz1 hk1 hS => ?_)
  have hP : va_P D clz (WD8 cy g σ2) H1 := by rw [← ht]; exact hB
  clear hB hz1 hk1 hvm ht
  generalize H1 = H at hP hS ⊢
  have hF4 : Fr (fO [d1]) σ σ2 := hw3.1
  have hJ5 : J8 σ2 := hw3.2.1
  have b6 : (0 : Int) ≤ r1.toInt ∧ r1.toInt ≤ 1 := hw3.2.2.1
  refine va_callv (va_runV (As := [.int r1]) (rest := []) ⟨hx, hb, hml, hown, hts⟩ (m_X4_takeCounted l D cy g σ2  r1 _ hJ5 (show (0 : Int) ≤ r1.toInt ∧ r1.toInt ≤ 1 from (by have f0 := b6; have g0 := rg32 r1; omega))) (cwV 1 hts (gd_V q602 q604 q8 q126 q605) rfl rfl rfl (by decide +kernel) ⟨(Nat.le_of_ble_eq_true rfl), (Nat.le_of_ble_eq_true rfl)⟩) (pv8 hP hK hD hC hS (rv8_4 hK hP)) rfl rfl hl.1 rfl (lv_room (Nat.le_of_ble_eq_true rfl)) dX4_readPlayer_5 ⟨Nat.le_of_ble_eq_true rfl, Nat.le_of_ble_eq_true rfl⟩) hS (fun q _ h => up8 hS q h) (up8 hS) (fun σ8 tS H1 locs ht hvm hw9 hB hz1 hk1 hS => ?_)
  have hP : va_P D clz (WD8 cy g σ8) H1 := by rw [← ht]; exact hB
  clear hB hz1 hk1 hvm ht
  generalize H1 = H at hP hS ⊢
  have hF10 : Fr (fO [12]) σ2 σ8 := hw9.1
  have hJ11 : J8 σ8 := hw9.2.1
  refine lv_aload_n hx hb dX4_readPlayer_8 rfl (lv_at hl 1 rfl) ?_
  refine g8_0_4 (x := ((σ2 d1).1 4)) hx hb hts hown hK hP hd1 ((hF10 d1 4 (fO_n (nmc (nel hd1 (by decide)) nm0))).1) (hts _ q208) dX4_readPlayer_9 ?_
  refine lv_iconst (v := 1) hx hb dX4_readPlayer_12 (by decide) ?_
  refine lv_isub hx hb dX4_readPlayer_13 ?_
  refine lv_topi (fun x12 ex12 => ?_)
  have t13 := subO ex12 (by have f0 := j8_0_4 hJ5 hd1 rfl; have z1 : (1 : Int32).toInt = 1 := (by decide); omega)
  refine lv_istore_n (lv' := [(2, .int x12), (0, .ref (gO g 12)), (1, .ref (gO g d1))]) hx hb dX4_readPlayer_14 rfl hl (by decide) rfl (fun ls hl => ?_)
  refine lv_aload_n hx hb dX4_readPlayer_15 rfl (lv_at hl 2 rfl) ?_
  refine lv_iload_n hx hb dX4_readPlayer_16 rfl (lv_at hl 0 rfl) ?_
  refine lv_iconst (v := 0) hx hb dX4_readPlayer_17 (by decide) ?_
  refine lv_aload_n hx hb dX4_readPlayer_18 rfl (lv_at hl 1 rfl) ?_
  refine lv_iconst (v := 0) hx hb dX4_readPlayer_19 (by decide) ?_
  refine lv_aload_n hx hb dX4_readPlayer_20 rfl (lv_at hl 2 rfl) ?_
  refine g8_0_3 (x := ((σ2 d1).1 3)) hx hb hts hown hK hP hd1 ((hF10 d1 3 (fO_n (nmc (nel hd1 (by decide)) nm0))).1) (hts _ q203) dX4_readPlayer_21 ?_
  refine lv_iconst (v := 1) hx hb dX4_readPlayer_24 (by decide) ?_
  refine lv_isub hx hb dX4_readPlayer_25 ?_
  refine lv_topi (fun x14 ex14 => ?_)
  have t15 := subO ex14 (by have f0 := j8_0_3 hJ5 hd1 rfl; have z1 : (1 : Int32).toInt = 1 := (by decide); omega)
  refine va_calli (va_runV (As := [.int 0, .int x14]) (rest := [.int 0, .int x12, .ref (gO g d1)]) ⟨hx, hb, hml, hown, hts⟩ (m_X4_numberWithin l D cy g σ8  (0) x14 _ hJ11 (show (0 : Int) ≤ (0 : Int32).toInt ∧ (0 : Int32).toInt ≤ 100 from (by have z0 : (0 : Int32).toInt = 0 := (by decide); omega)) (show (-1 : Int) ≤ x14.toInt ∧ x14.toInt ≤ 999 from (by have f0 := t15; have f1 := j8_0_3 hJ5 hd1 rfl; have g1 := rg32 x14; have z0 : (0 : Int32).toInt = 0 := (by decide); have z1 : (1 : Int32).toInt = 1 := (by decide); omega))) (cwV 2 hts (gd_V q580 q582 q6 q126 q583) rfl rfl rfl (by decide +kernel) ⟨(Nat.le_of_ble_eq_true rfl), (Nat.le_of_ble_eq_true rfl)⟩) (pv8 hP hK hD hC hS (rv8_4 hK hP)) rfl rfl hl.1 rfl (lv_room (Nat.le_of_ble_eq_true rfl)) dX4_readPlayer_26 ⟨Nat.le_of_ble_eq_true rfl, Nat.le_of_ble_eq_true rfl⟩) hS (fun q _ h => up8 hS q h) (up8 hS) (fun r16 σ17 tS H1 locs ht hvm hw18 hB hz1 hk1 hS => ?_)
  have hP : va_P D clz (WD8 cy g σ17) H1 := by rw [← ht]; exact hB
  clear hB hz1 hk1 hvm ht
  generalize H1 = H at hP hS ⊢
  have hF19 : Fr (fO [12]) σ8 σ17 := hw18.1
  have hJ20 : J8 σ17 := hw18.2.1
  have b21 : (-2147483648 : Int) ≤ r16.toInt ∧ r16.toInt ≤ 1000000 := hw18.2.2.1
  refine va_callv (va_runV (As := [.int x12, .int 0, .int r16]) (rest := []) ⟨hx, hb, hml, hown, hts⟩ (m_X0_setPlayer l D cy g σ17  d1 x12 (0) r16 _ hJ20 (show 0 ≤ d1 ∧ d1 < 5 from hd1) (show (-1 : Int) ≤ x12.toInt ∧ x12.toInt ≤ 8 from (by have f0 := t13; have f1 := j8_0_4 hJ5 hd1 rfl; have g1 := rg32 x12; have z1 : (1 : Int32).toInt = 1 := (by decide); omega)) (show (-2147483648 : Int) ≤ r16.toInt ∧ r16.toInt ≤ 1000000 from (by have f0 := t13; have f1 := b21; have f2 := j8_0_4 hJ5 hd1 rfl; have g1 := rg32 r16; have g2 := rg32 x12; have z1 : (1 : Int32).toInt = 1 := (by decide); omega))) (cwV 3 hts (gd_V q623 q624 q625 q127 q626) rfl rfl rfl (by decide +kernel) ⟨(Nat.le_of_ble_eq_true rfl), (Nat.le_of_ble_eq_true rfl)⟩) (pv8 hP hK hD hC hS (rv8_0 hK hP hd1)) rfl rfl hl.1 rfl (lv_room (Nat.le_of_ble_eq_true rfl)) dX4_readPlayer_29 ⟨Nat.le_of_ble_eq_true rfl, Nat.le_of_ble_eq_true rfl⟩) hS (fun q _ h => up8 hS q h) (up8 hS) (fun σ23 tS H1 locs ht hvm hw24 hB hz1 hk1 hS => ?_)
  have hP : va_P D clz (WD8 cy g σ23) H1 := by rw [← ht]; exact hB
  clear hB hz1 hk1 hvm ht
  generalize H1 = H at hP hS ⊢
  have hF25 : Fr (fO [d1]) σ17 σ23 := hw24.1
  have hJ26 : J8 σ23 := hw24.2.1
  refine lv_aload_n hx hb dX4_readPlayer_32 rfl (lv_at hl 2 rfl) ?_
  refine lv_iload_n hx hb dX4_readPlayer_33 rfl (lv_at hl 0 rfl) ?_
  refine lv_iconst (v := 1) hx hb dX4_readPlayer_34 (by decide) ?_
  refine lv_aload_n hx hb dX4_readPlayer_35 rfl (lv_at hl 1 rfl) ?_
  refine va_ldcS (q := gS g 15) (tx := "quick") hx hb hown (show vk_R RX4 153 "quick" (gS g 15) s from hC.2.2.1 15 (by decide)) dX4_readPlayer_36 ?_
  refine lv_iconst (v := 0) hx hb dX4_readPlayer_38 (by decide) ?_
  refine lv_bipush (v := 9) hx hb dX4_readPlayer_39 (by decide) ?_
  refine va_calli (va_runV (As := [.ref (gS g 15), .int 0, .int 9]) (rest := [.int 1, .int x12, .ref (gO g d1)]) ⟨hx, hb, hml, hown, hts⟩ (m_X4_numberBehind l D cy g σ23  15 (0) (9) _ hJ26 (by decide : 15 < 21) (show (0 : Int) ≤ (0 : Int32).toInt ∧ (0 : Int32).toInt ≤ 100 from (by have z0 : (0 : Int32).toInt = 0 := (by decide); omega)) (show (9 : Int) ≤ (9 : Int32).toInt ∧ (9 : Int32).toInt ≤ 999 from (by have z0 : (0 : Int32).toInt = 0 := (by decide); have z9 : (9 : Int32).toInt = 9 := (by decide); omega))) (cwV 3 hts (gd_V q576 q578 q5 q126 q579) rfl rfl rfl (by decide +kernel) ⟨(Nat.le_of_ble_eq_true rfl), (Nat.le_of_ble_eq_true rfl)⟩) (pv8 hP hK hD hC hS (rv8_4 hK hP)) rfl rfl hl.1 rfl (lv_room (Nat.le_of_ble_eq_true rfl)) dX4_readPlayer_41 ⟨Nat.le_of_ble_eq_true rfl, Nat.le_of_ble_eq_true rfl⟩) hS (fun q _ h => up8 hS q h) (up8 hS) (fun r27 σ28 tS H1 locs ht hvm hw29 hB hz1 hk1 hS => ?_)
  have hP : va_P D clz (WD8 cy g σ28) H1 := by rw [← ht]; exact hB
  clear hB hz1 hk1 hvm ht
  generalize H1 = H at hP hS ⊢
  have hF30 : Fr (fO [12]) σ23 σ28 := hw29.1
  have hJ31 : J8 σ28 := hw29.2.1
  have b32 : (-2147483648 : Int) ≤ r27.toInt ∧ r27.toInt ≤ 1000000 := hw29.2.2.1
  refine va_callv (va_runV (As := [.int x12, .int 1, .int r27]) (rest := []) ⟨hx, hb, hml, hown, hts⟩ (m_X0_setPlayer l D cy g σ28  d1 x12 (1) r27 _ hJ31 (show 0 ≤ d1 ∧ d1 < 5 from hd1) (show (-1 : Int) ≤ x12.toInt ∧ x12.toInt ≤ 8 from (by have f0 := t13; have f1 := j8_0_4 hJ5 hd1 rfl; have g1 := rg32 x12; have z1 : (1 : Int32).toInt = 1 := (by decide); omega)) (show (-2147483648 : Int) ≤ r27.toInt ∧ r27.toInt ≤ 1000000 from (by have f0 := t13; have f1 := b32; have f2 := j8_0_4 hJ5 hd1 rfl; have g1 := rg32 r27; have g2 := rg32 x12; have z1 : (1 : Int32).toInt = 1 := (by decide); omega))) (cwV 3 hts (gd_V q623 q624 q625 q127 q626) rfl rfl rfl (by decide +kernel) ⟨(Nat.le_of_ble_eq_true rfl), (Nat.le_of_ble_eq_true rfl)⟩) (pv8 hP hK hD hC hS (rv8_0 hK hP hd1)) rfl rfl hl.1 rfl (lv_room (Nat.le_of_ble_eq_true rfl)) dX4_readPlayer_44 ⟨Nat.le_of_ble_eq_true rfl, Nat.le_of_ble_eq_true rfl⟩) hS (fun q _ h => up8 hS q h) (up8 hS) (fun σ34 tS H1 locs ht hvm hw35 hB hz1 hk1 hS => ?_)
  have hP : va_P D clz (WD8 cy g σ34) H1 := by rw [← ht]; exact hB
  clear hB hz1 hk1 hvm ht
  generalize H1 = H at hP hS ⊢
  have hF36 : Fr (fO [d1]) σ28 σ34 := hw35.1
  have hJ37 : J8 σ34 := hw35.2.1
  refine lv_aload_n hx hb dX4_readPlayer_47 rfl (lv_at hl 2 rfl) ?_
  refine lv_iload_n hx hb dX4_readPlayer_48 rfl (lv_at hl 0 rfl) ?_
  refine lv_iconst (v := 2) hx hb dX4_readPlayer_49 (by decide) ?_
  refine lv_aload_n hx hb dX4_readPlayer_50 rfl (lv_at hl 1 rfl) ?_
  refine va_ldcS (q := gS g 16) (tx := "air") hx hb hown (show vk_R RX4 155 "air" (gS g 16) s from hC.2.2.1 16 (by decide)) dX4_readPlayer_51 ?_
  refine lv_iconst (v := 1) hx hb dX4_readPlayer_53 (by decide) ?_
  refine lv_bipush (v := 30) hx hb dX4_readPlayer_54 (by decide) ?_
  refine va_calli (va_runV (As := [.ref (gS g 16), .int 1, .int 30]) (rest := [.int 2, .int x12, .ref (gO g d1)]) ⟨hx, hb, hml, hown, hts⟩ (m_X4_numberBehind l D cy g σ34  16 (1) (30) _ hJ37 (by decide : 16 < 21) (show (0 : Int) ≤ (1 : Int32).toInt ∧ (1 : Int32).toInt ≤ 100 from (by have z1 : (1 : Int32).toInt = 1 := (by decide); omega)) (show (9 : Int) ≤ (30 : Int32).toInt ∧ (30 : Int32).toInt ≤ 999 from (by have z1 : (1 : Int32).toInt = 1 := (by decide); have z30 : (30 : Int32).toInt = 30 := (by decide); omega))) (cwV 3 hts (gd_V q576 q578 q5 q126 q579) rfl rfl rfl (by decide +kernel) ⟨(Nat.le_of_ble_eq_true rfl), (Nat.le_of_ble_eq_true rfl)⟩) (pv8 hP hK hD hC hS (rv8_4 hK hP)) rfl rfl hl.1 rfl (lv_room (Nat.le_of_ble_eq_true rfl)) dX4_readPlayer_56 ⟨Nat.le_of_ble_eq_true rfl, Nat.le_of_ble_eq_true rfl⟩) hS (fun q _ h => up8 hS q h) (up8 hS) (fun r38 σ39 tS H1 locs ht hvm hw40 hB hz1 hk1 hS => ?_)
  have hP : va_P D clz (WD8 cy g σ39) H1 := by rw [← ht]; exact hB
  clear hB hz1 hk1 hvm ht
  generalize H1 = H at hP hS ⊢
  have hF41 : Fr (fO [12]) σ34 σ39 := hw40.1
  have hJ42 : J8 σ39 := hw40.2.1
  have b43 : (-2147483648 : Int) ≤ r38.toInt ∧ r38.toInt ≤ 1000000 := hw40.2.2.1
  refine va_callv (va_runV (As := [.int x12, .int 2, .int r38]) (rest := []) ⟨hx, hb, hml, hown, hts⟩ (m_X0_setPlayer l D cy g σ39  d1 x12 (2) r38 _ hJ42 (show 0 ≤ d1 ∧ d1 < 5 from hd1) (show (-1 : Int) ≤ x12.toInt ∧ x12.toInt ≤ 8 from (by have f0 := t13; have f1 := j8_0_4 hJ5 hd1 rfl; have g1 := rg32 x12; have z1 : (1 : Int32).toInt = 1 := (by decide); omega)) (show (-2147483648 : Int) ≤ r38.toInt ∧ r38.toInt ≤ 1000000 from (by have f0 := t13; have f1 := b43; have f2 := j8_0_4 hJ5 hd1 rfl; have g1 := rg32 r38; have g2 := rg32 x12; have z1 : (1 : Int32).toInt = 1 := (by decide); omega))) (cwV 3 hts (gd_V q623 q624 q625 q127 q626) rfl rfl rfl (by decide +kernel) ⟨(Nat.le_of_ble_eq_true rfl), (Nat.le_of_ble_eq_true rfl)⟩) (pv8 hP hK hD hC hS (rv8_0 hK hP hd1)) rfl rfl hl.1 rfl (lv_room (Nat.le_of_ble_eq_true rfl)) dX4_readPlayer_59 ⟨Nat.le_of_ble_eq_true rfl, Nat.le_of_ble_eq_true rfl⟩) hS (fun q _ h => up8 hS q h) (up8 hS) (fun σ45 tS H1 locs ht hvm hw46 hB hz1 hk1 hS => ?_)
  have hP : va_P D clz (WD8 cy g σ45) H1 := by rw [← ht]; exact hB
  clear hB hz1 hk1 hvm ht
  generalize H1 = H at hP hS ⊢
  have hF47 : Fr (fO [d1]) σ39 σ45 := hw46.1
  have hJ48 : J8 σ45 := hw46.2.1
  refine lv_aload_n hx hb dX4_readPlayer_62 rfl (lv_at hl 2 rfl) ?_
  refine lv_iload_n hx hb dX4_readPlayer_63 rfl (lv_at hl 0 rfl) ?_
  refine lv_iconst (v := 3) hx hb dX4_readPlayer_64 (by decide) ?_
  refine lv_aload_n hx hb dX4_readPlayer_65 rfl (lv_at hl 1 rfl) ?_
  refine va_ldcS (q := gS g 17) (tx := "lips") hx hb hown (show vk_R RX4 157 "lips" (gS g 17) s from hC.2.2.1 17 (by decide)) dX4_readPlayer_66 ?_
  refine lv_iconst (v := 0) hx hb dX4_readPlayer_68 (by decide) ?_
  refine lv_sipush (v := 999) hx hb dX4_readPlayer_69 (by decide) ?_
  refine va_calli (va_runV (As := [.ref (gS g 17), .int 0, .int 999]) (rest := [.int 3, .int x12, .ref (gO g d1)]) ⟨hx, hb, hml, hown, hts⟩ (m_X4_numberBehind l D cy g σ45  17 (0) (999) _ hJ48 (by decide : 17 < 21) (show (0 : Int) ≤ (0 : Int32).toInt ∧ (0 : Int32).toInt ≤ 100 from (by have z0 : (0 : Int32).toInt = 0 := (by decide); omega)) (show (9 : Int) ≤ (999 : Int32).toInt ∧ (999 : Int32).toInt ≤ 999 from (by have z0 : (0 : Int32).toInt = 0 := (by decide); have z999 : (999 : Int32).toInt = 999 := (by decide); omega))) (cwV 3 hts (gd_V q576 q578 q5 q126 q579) rfl rfl rfl (by decide +kernel) ⟨(Nat.le_of_ble_eq_true rfl), (Nat.le_of_ble_eq_true rfl)⟩) (pv8 hP hK hD hC hS (rv8_4 hK hP)) rfl rfl hl.1 rfl (lv_room (Nat.le_of_ble_eq_true rfl)) dX4_readPlayer_72 ⟨Nat.le_of_ble_eq_true rfl, Nat.le_of_ble_eq_true rfl⟩) hS (fun q _ h => up8 hS q h) (up8 hS) (fun r49 σ50 tS H1 locs ht hvm hw51 hB hz1 hk1 hS => ?_)
  have hP : va_P D clz (WD8 cy g σ50) H1 := by rw [← ht]; exact hB
  clear hB hz1 hk1 hvm ht
  generalize H1 = H at hP hS ⊢
  have hF52 : Fr (fO [12]) σ45 σ50 := hw51.1
  have hJ53 : J8 σ50 := hw51.2.1
  have b54 : (-2147483648 : Int) ≤ r49.toInt ∧ r49.toInt ≤ 1000000 := hw51.2.2.1
  refine va_callv (va_runV (As := [.int x12, .int 3, .int r49]) (rest := []) ⟨hx, hb, hml, hown, hts⟩ (m_X0_setPlayer l D cy g σ50  d1 x12 (3) r49 _ hJ53 (show 0 ≤ d1 ∧ d1 < 5 from hd1) (show (-1 : Int) ≤ x12.toInt ∧ x12.toInt ≤ 8 from (by have f0 := t13; have f1 := j8_0_4 hJ5 hd1 rfl; have g1 := rg32 x12; have z1 : (1 : Int32).toInt = 1 := (by decide); omega)) (show (-2147483648 : Int) ≤ r49.toInt ∧ r49.toInt ≤ 1000000 from (by have f0 := t13; have f1 := b54; have f2 := j8_0_4 hJ5 hd1 rfl; have g1 := rg32 r49; have g2 := rg32 x12; have z1 : (1 : Int32).toInt = 1 := (by decide); omega))) (cwV 3 hts (gd_V q623 q624 q625 q127 q626) rfl rfl rfl (by decide +kernel) ⟨(Nat.le_of_ble_eq_true rfl), (Nat.le_of_ble_eq_true rfl)⟩) (pv8 hP hK hD hC hS (rv8_0 hK hP hd1)) rfl rfl hl.1 rfl (lv_room (Nat.le_of_ble_eq_true rfl)) dX4_readPlayer_75 ⟨Nat.le_of_ble_eq_true rfl, Nat.le_of_ble_eq_true rfl⟩) hS (fun q _ h => up8 hS q h) (up8 hS) (fun σ56 tS H1 locs ht hvm hw57 hB hz1 hk1 hS => ?_)
  have hP : va_P D clz (WD8 cy g σ56) H1 := by rw [← ht]; exact hB
  clear hB hz1 hk1 hvm ht
  generalize H1 = H at hP hS ⊢
  have hF58 : Fr (fO [d1]) σ50 σ56 := hw57.1
  have hJ59 : J8 σ56 := hw57.2.1
  exact W.vret hx hb hr (fun tS ht hW => ⟨⟨σ56, rfl, ⟨Fr.tr (Fr.tr (Fr.tr (Fr.tr (Fr.tr (Fr.tr (Fr.tr (Fr.tr (Fr.tr (Fr.tr (Fr.rf) hF4 (fO_sub (by simp))) hF10 (fO_sub (by simp))) hF19 (fO_sub (by simp))) hF25 (fO_sub (by simp))) hF30 (fO_sub (by simp))) hF36 (fO_sub (by simp))) hF41 (fO_sub (by simp))) hF47 (fO_sub (by simp))) hF52 (fO_sub (by simp))) hF58 (fO_sub (by simp)), hJ59, trivial⟩, (show va_P D clz (WD8 cy g σ56) tS.heap by rw [ht]; exact hP)⟩, hS.F ht⟩) hS.2.2 dX4_readPlayer_78

theorem q638 : Cond.code yX0_addPart cX0_addPart 1 (some .boolean) ∈ lw_g := lw_gm (List.mem_of_getElem? (i := 638) (by decide +kernel)) rfl
theorem q215 : Cond.fieldLink RX0 21 "LipsAndSlides$Desk" "toneCounts" "[I" ∈ lw_g := lw_gm (List.mem_of_getElem? (i := 215) (by decide +kernel)) rfl
theorem dX0_addPart_0 : decode cX0_addPart 0 = .ok (.aload_n 0, 1) := by decide +kernel
theorem dX0_addPart_1 : decode cX0_addPart 1 = .ok (.getfield 40, 3) := by decide +kernel
theorem dX0_addPart_4 : decode cX0_addPart 4 = .ok (.iconst 3, 1) := by decide +kernel
theorem dX0_addPart_5 : decode cX0_addPart 5 = .ok (.if_icmp .lt 5, 3) := by decide +kernel
theorem dX0_addPart_8 : decode cX0_addPart 8 = .ok (.iconst 0, 1) := by decide +kernel
theorem dX0_addPart_9 : decode cX0_addPart 9 = .ok (.ireturn, 1) := by decide +kernel
theorem dX0_addPart_10 : decode cX0_addPart 10 = .ok (.aload_n 0, 1) := by decide +kernel
theorem dX0_addPart_11 : decode cX0_addPart 11 = .ok (.getfield 21, 3) := by decide +kernel
theorem dX0_addPart_14 : decode cX0_addPart 14 = .ok (.aload_n 0, 1) := by decide +kernel
theorem dX0_addPart_15 : decode cX0_addPart 15 = .ok (.getfield 40, 3) := by decide +kernel
theorem dX0_addPart_18 : decode cX0_addPart 18 = .ok (.iconst 0, 1) := by decide +kernel
theorem dX0_addPart_19 : decode cX0_addPart 19 = .ok (.iastore, 1) := by decide +kernel
theorem dX0_addPart_20 : decode cX0_addPart 20 = .ok (.aload_n 0, 1) := by decide +kernel
theorem dX0_addPart_21 : decode cX0_addPart 21 = .ok (.dup, 1) := by decide +kernel
theorem dX0_addPart_22 : decode cX0_addPart 22 = .ok (.getfield 40, 3) := by decide +kernel
theorem dX0_addPart_25 : decode cX0_addPart 25 = .ok (.iconst 1, 1) := by decide +kernel
theorem dX0_addPart_26 : decode cX0_addPart 26 = .ok (.iadd, 1) := by decide +kernel
theorem dX0_addPart_27 : decode cX0_addPart 27 = .ok (.putfield 40, 3) := by decide +kernel
theorem dX0_addPart_30 : decode cX0_addPart 30 = .ok (.iconst 1, 1) := by decide +kernel
theorem dX0_addPart_31 : decode cX0_addPart 31 = .ok (.ireturn, 1) := by decide +kernel
set_option maxHeartbeats 4000000 in
set_option maxRecDepth 100000 in
theorem m_X0_addPart (l : Launch) (D : va_G) (cy : Nat → ClassId) (g : Nat → Nat) (σ : ST) (d0 : Nat) (sz : Nat) (hJ : J8 σ) (hd0 : 0 ≤ d0 ∧ d0 < 5) : Met l yX0_addPart (ww yX0_addPart cX0_addPart 1 (some .boolean)) ({ frames := 1, cells := 0, slots := 0, locals := 64 }) (va_Pc [.ref (gO g d0)] (pr8 D cy g σ sz)) (qi8 D cy g sz (fun r τ => Fr (fO [d0]) σ τ ∧ J8 τ ∧ ((0 : Int) ≤ r.toInt ∧ r.toInt ≤ 1) ∧ True)) 0 0 (A8 cy g sz) := by
  refine Met.ofW (cc := cX0_addPart) (maxL := 1) (ret := (some .boolean)) (by decide) rfl ?_
  intro p e s m args below meth c s₁ B hml hv
  obtain ⟨rfl, hsz, hP, hK, hD0, hC⟩ := hv
  have hx := B.exec
  have hb := B.bytes
  have hr := B.returns
  have hts := hts_g (atoms_spec (ws := ww yX0_addPart cX0_addPart 1 (some .boolean)) B.pre)
  have hown : s.vm.findClass RX0 = some m.cls := findClass_of_methodNamed B.named
  have hlocks := B.notSynchronized
  clear B
  subst hsz
  have hD := fun τ => A8_D (sz := s.heap.size) hD0 τ
  clear hD0
  have hS : va_S (A8 cy g s.heap.size) s.heap s.heap [] := va_S.rf
  have hl := lv_entry ([.ref (gO g d0)]) (n := 1) (Nat.le_of_ble_eq_true rfl)
  rw [lg_entry_eq]
  generalize (lg_sl ([.ref (gO g d0)]) ++ List.replicate (1 - (lg_sl ([.ref (gO g d0)])).length) Slot.unset).toArray = ls at hl ⊢
  have hl : lv_has ls 1 [(0, .ref (gO g d0))] := hl
  refine lv_aload_n hx hb dX0_addPart_0 rfl (lv_at hl 0 rfl) ?_
  refine g8_0_5 (x := ((σ d0).1 5)) hx hb hts hown hK hP hd0 (rfl) (hts _ q209) dX0_addPart_1 ?_
  refine lv_iconst (v := 3) hx hb dX0_addPart_4 (by decide) ?_
  refine lv_icmp_lt (tgt := 10) hx hb dX0_addPart_5 (by decide) (fun c1 => ?_) (fun c1 => ?_)
  ·
    have k2 := plt32 c1
    refine lv_aload_n hx hb dX0_addPart_10 rfl (lv_at hl 0 rfl) ?_
    refine g8_0_9 hx hb hts hown hK hP hd0 (hts _ q215) dX0_addPart_11 ?_
    refine lv_aload_n hx hb dX0_addPart_14 rfl (lv_at hl 0 rfl) ?_
    refine g8_0_5 (x := ((σ d0).1 5)) hx hb hts hown hK hP hd0 (rfl) (hts _ q209) dX0_addPart_15 ?_
    refine lv_iconst (v := 0) hx hb dX0_addPart_18 (by decide) ?_
    refine t8_0_9 hx hb hK hP hd0 hD hS (vpo (by have f0 := j8_0_5 hJ hd0 rfl; have f1 := k2; have z3 : (3 : Int32).toInt = 3 := (by decide); omega)) dX0_addPart_19 (fun H locs σ3 eσ3 hP hS => ?_)
    have hJ4 : J8 σ3 := hJ.A eσ3 (clO_0 hd0) (show PA8 0 9 (0 : Int32) from (by have z0 : (0 : Int32).toInt = 0 := (by decide); exact ⟨by omega, by omega⟩))
    refine lv_aload_n hx hb dX0_addPart_20 rfl (lv_at hl 0 rfl) ?_
    refine lv_dup hx hb dX0_addPart_21 rfl ?_
    refine g8_0_5 (x := ((σ d0).1 5)) hx hb hts hown hK hP hd0 (((sA_f eσ3) d0 5 (fN_k rfl)).1) (hts _ q209) dX0_addPart_22 ?_
    refine lv_iconst (v := 1) hx hb dX0_addPart_25 (by decide) ?_
    refine lv_iadd hx hb dX0_addPart_26 ?_
    refine lv_topi (fun x5 ex5 => ?_)
    have t6 := addO ex5 (by have f0 := j8_0_5 hJ hd0 rfl; have f1 := k2; have z1 : (1 : Int32).toInt = 1 := (by decide); have z3 : (3 : Int32).toInt = 3 := (by decide); omega)
    refine p8_0_5 hx hb hts hown hK hP hd0 hD hS (hts _ q209) dX0_addPart_27 (fun H locs σ7 eσ7 hP hS => ?_)
    have hJ8 : J8 σ7 := hJ4.I eσ7 (clO_0 hd0) (show JI8 0 5 x5 from (by have f0 := t6; have f1 := j8_0_5 hJ hd0 rfl; have f2 := k2; have g0 := rg32 x5; have z1 : (1 : Int32).toInt = 1 := (by decide); have z3 : (3 : Int32).toInt = 3 := (by decide); exact ⟨by omega, by omega⟩))
    refine lv_iconst (v := 1) hx hb dX0_addPart_30 (by decide) ?_
    exact W.zret (v := 1) hx hb hr rfl (fun tS ht hW => ⟨⟨1, σ7, rfl, ⟨Fr.tr (Fr.tr (Fr.rf) (sA_f eσ3) (fN_O mem0)) (sI_f eσ7) (fN_O mem0), hJ8, (show (0 : Int) ≤ (1 : Int32).toInt ∧ (1 : Int32).toInt ≤ 1 from (by have z1 : (1 : Int32).toInt = 1 := (by decide); omega)), trivial⟩, (show va_P D clz (WD8 cy g σ7) tS.heap by rw [ht]; exact hP)⟩, hS.F ht⟩) hS.2.2 dX0_addPart_31
  ·
    have k9 := nlt32 c1
    refine lv_iconst (v := 0) hx hb dX0_addPart_8 (by decide) ?_
    exact W.zret (v := 0) hx hb hr rfl (fun tS ht hW => ⟨⟨0, σ, rfl, ⟨Fr.rf, hJ, (show (0 : Int) ≤ (0 : Int32).toInt ∧ (0 : Int32).toInt ≤ 1 from (by have z0 : (0 : Int32).toInt = 0 := (by decide); omega)), trivial⟩, (show va_P D clz (WD8 cy g σ) tS.heap by rw [ht]; exact hP)⟩, hS.F ht⟩) hS.2.2 dX0_addPart_9

theorem q651 : Cond.code yX0_hasPart cX0_hasPart 2 (some .boolean) ∈ lw_g := lw_gm (List.mem_of_getElem? (i := 651) (by decide +kernel)) rfl
theorem dX0_hasPart_0 : decode cX0_hasPart 0 = .ok (.iload_n 1, 1) := by decide +kernel
theorem dX0_hasPart_1 : decode cX0_hasPart 1 = .ok (.ifCond .lt 15, 3) := by decide +kernel
theorem dX0_hasPart_4 : decode cX0_hasPart 4 = .ok (.iload_n 1, 1) := by decide +kernel
theorem dX0_hasPart_5 : decode cX0_hasPart 5 = .ok (.aload_n 0, 1) := by decide +kernel
theorem dX0_hasPart_6 : decode cX0_hasPart 6 = .ok (.getfield 40, 3) := by decide +kernel
theorem dX0_hasPart_9 : decode cX0_hasPart 9 = .ok (.if_icmp .ge 7, 3) := by decide +kernel
theorem dX0_hasPart_12 : decode cX0_hasPart 12 = .ok (.iconst 1, 1) := by decide +kernel
theorem dX0_hasPart_13 : decode cX0_hasPart 13 = .ok (.goto 4, 3) := by decide +kernel
theorem dX0_hasPart_16 : decode cX0_hasPart 16 = .ok (.iconst 0, 1) := by decide +kernel
theorem dX0_hasPart_17 : decode cX0_hasPart 17 = .ok (.ireturn, 1) := by decide +kernel
set_option maxHeartbeats 4000000 in
set_option maxRecDepth 100000 in
theorem m_X0_hasPart (l : Launch) (D : va_G) (cy : Nat → ClassId) (g : Nat → Nat) (σ : ST) (d0 : Nat) (p1 : Int32) (sz : Nat) (hJ : J8 σ) (hd0 : 0 ≤ d0 ∧ d0 < 5) : Met l yX0_hasPart (ww yX0_hasPart cX0_hasPart 2 (some .boolean)) ({ frames := 1, cells := 0, slots := 0, locals := 64 }) (va_Pc [.ref (gO g d0), .int p1] (pr8 D cy g σ sz)) (qi8 D cy g sz (fun r τ => τ = σ ∧ ((0 : Int) ≤ r.toInt ∧ r.toInt ≤ 1) ∧ ((r.toInt = 0) ∨ ((0 : Int) ≤ p1.toInt ∧ p1.toInt ≤ 2)) ∧ True)) 0 0 (A8 cy g sz) := by
  refine Met.ofW (cc := cX0_hasPart) (maxL := 2) (ret := (some .boolean)) (by decide) rfl ?_
  intro p e s m args below meth c s₁ B hml hv
  obtain ⟨rfl, hsz, hP, hK, hD0, hC⟩ := hv
  have hx := B.exec
  have hb := B.bytes
  have hr := B.returns
  have hts := hts_g (atoms_spec (ws := ww yX0_hasPart cX0_hasPart 2 (some .boolean)) B.pre)
  have hown : s.vm.findClass RX0 = some m.cls := findClass_of_methodNamed B.named
  have hlocks := B.notSynchronized
  clear B
  subst hsz
  have hD := fun τ => A8_D (sz := s.heap.size) hD0 τ
  clear hD0
  have hS : va_S (A8 cy g s.heap.size) s.heap s.heap [] := va_S.rf
  have hl := lv_entry ([.ref (gO g d0), .int p1]) (n := 2) (Nat.le_of_ble_eq_true rfl)
  rw [lg_entry_eq]
  generalize (lg_sl ([.ref (gO g d0), .int p1]) ++ List.replicate (2 - (lg_sl ([.ref (gO g d0), .int p1])).length) Slot.unset).toArray = ls at hl ⊢
  have hl : lv_has ls 2 [(0, .ref (gO g d0)), (1, .int p1)] := hl
  refine lv_iload_n hx hb dX0_hasPart_0 rfl (lv_at hl 1 rfl) ?_
  refine lv_if_lt (tgt := 16) hx hb dX0_hasPart_1 (by decide) (fun c1 => ?_) (fun c1 => ?_)
  ·
    have k2 := plt32 c1
    refine lv_iconst (v := 0) hx hb dX0_hasPart_16 (by decide) ?_
    exact W.zret (v := 0) hx hb hr rfl (fun tS ht hW => ⟨⟨0, σ, rfl, ⟨rfl, (show (0 : Int) ≤ (0 : Int32).toInt ∧ (0 : Int32).toInt ≤ 1 from (by have z0 : (0 : Int32).toInt = 0 := (by decide); omega)), (show ((0 : Int32).toInt = 0) ∨ ((0 : Int) ≤ p1.toInt ∧ p1.toInt ≤ 2) from (by have f0 := k2; have g0 := rg32 p1; have z0 : (0 : Int32).toInt = 0 := (by decide); omega)), trivial⟩, (show va_P D clz (WD8 cy g σ) tS.heap by rw [ht]; exact hP)⟩, hS.F ht⟩) hS.2.2 dX0_hasPart_17
  ·
    have k3 := nlt32 c1
    refine lv_iload_n hx hb dX0_hasPart_4 rfl (lv_at hl 1 rfl) ?_
    refine lv_aload_n hx hb dX0_hasPart_5 rfl (lv_at hl 0 rfl) ?_
    refine g8_0_5 (x := ((σ d0).1 5)) hx hb hts hown hK hP hd0 (rfl) (hts _ q209) dX0_hasPart_6 ?_
    refine lv_icmp_ge (tgt := 16) hx hb dX0_hasPart_9 (by decide) (fun c4 => ?_) (fun c4 => ?_)
    ·
      have k5 := ple32 c4
      refine lv_iconst (v := 0) hx hb dX0_hasPart_16 (by decide) ?_
      exact W.zret (v := 0) hx hb hr rfl (fun tS ht hW => ⟨⟨0, σ, rfl, ⟨rfl, (show (0 : Int) ≤ (0 : Int32).toInt ∧ (0 : Int32).toInt ≤ 1 from (by have z0 : (0 : Int32).toInt = 0 := (by decide); omega)), (show ((0 : Int32).toInt = 0) ∨ ((0 : Int) ≤ p1.toInt ∧ p1.toInt ≤ 2) from (by have f0 := k3; have f1 := k5; have f2 := j8_0_5 hJ hd0 rfl; have g0 := rg32 p1; have z0 : (0 : Int32).toInt = 0 := (by decide); omega)), trivial⟩, (show va_P D clz (WD8 cy g σ) tS.heap by rw [ht]; exact hP)⟩, hS.F ht⟩) hS.2.2 dX0_hasPart_17
    ·
      have k6 := nle32 c4
      refine lv_iconst (v := 1) hx hb dX0_hasPart_12 (by decide) ?_
      refine lv_goto (tgt := 17) hx hb dX0_hasPart_13 (by decide) ?_
      exact W.zret (v := 1) hx hb hr rfl (fun tS ht hW => ⟨⟨1, σ, rfl, ⟨rfl, (show (0 : Int) ≤ (1 : Int32).toInt ∧ (1 : Int32).toInt ≤ 1 from (by have z1 : (1 : Int32).toInt = 1 := (by decide); omega)), (show ((1 : Int32).toInt = 0) ∨ ((0 : Int) ≤ p1.toInt ∧ p1.toInt ≤ 2) from (by have f0 := k3; have f1 := k6; have f2 := j8_0_5 hJ hd0 rfl; have g0 := rg32 p1; have z0 : (0 : Int32).toInt = 0 := (by decide); have z1 : (1 : Int32).toInt = 1 := (by decide); omega)), trivial⟩, (show va_P D clz (WD8 cy g σ) tS.heap by rw [ht]; exact hP)⟩, hS.F ht⟩) hS.2.2 dX0_hasPart_17

theorem q659 : Cond.code yX0_tonesOf cX0_tonesOf 2 (some .int) ∈ lw_g := lw_gm (List.mem_of_getElem? (i := 659) (by decide +kernel)) rfl
theorem q648 : Cond.methodLink RX0 60 yX0_hasPart ∈ lw_g := lw_gm (List.mem_of_getElem? (i := 648) (by decide +kernel)) rfl
theorem q649 : Cond.instanceMethod yX0_hasPart ∈ lw_g := lw_gm (List.mem_of_getElem? (i := 649) (by decide +kernel)) rfl
theorem q650 : Cond.selects RX0 yX0_hasPart yX0_hasPart ∈ lw_g := lw_gm (List.mem_of_getElem? (i := 650) (by decide +kernel)) rfl
theorem dX0_tonesOf_0 : decode cX0_tonesOf 0 = .ok (.aload_n 0, 1) := by decide +kernel
theorem dX0_tonesOf_1 : decode cX0_tonesOf 1 = .ok (.iload_n 1, 1) := by decide +kernel
theorem dX0_tonesOf_2 : decode cX0_tonesOf 2 = .ok (.invokevirtual 60, 3) := by decide +kernel
theorem dX0_tonesOf_5 : decode cX0_tonesOf 5 = .ok (.ifCond .eq 12, 3) := by decide +kernel
theorem dX0_tonesOf_8 : decode cX0_tonesOf 8 = .ok (.aload_n 0, 1) := by decide +kernel
theorem dX0_tonesOf_9 : decode cX0_tonesOf 9 = .ok (.getfield 21, 3) := by decide +kernel
theorem dX0_tonesOf_12 : decode cX0_tonesOf 12 = .ok (.iload_n 1, 1) := by decide +kernel
theorem dX0_tonesOf_13 : decode cX0_tonesOf 13 = .ok (.iaload, 1) := by decide +kernel
theorem dX0_tonesOf_14 : decode cX0_tonesOf 14 = .ok (.goto 4, 3) := by decide +kernel
theorem dX0_tonesOf_17 : decode cX0_tonesOf 17 = .ok (.iconst 0, 1) := by decide +kernel
theorem dX0_tonesOf_18 : decode cX0_tonesOf 18 = .ok (.ireturn, 1) := by decide +kernel
set_option maxHeartbeats 4000000 in
set_option maxRecDepth 100000 in
theorem m_X0_tonesOf (l : Launch) (D : va_G) (cy : Nat → ClassId) (g : Nat → Nat) (σ : ST) (d0 : Nat) (p1 : Int32) (sz : Nat) (hJ : J8 σ) (hd0 : 0 ≤ d0 ∧ d0 < 5) : Met l yX0_tonesOf (ww yX0_tonesOf cX0_tonesOf 2 (some .int)) ({ frames := 2, cells := 0, slots := 0, locals := 128 }) (va_Pc [.ref (gO g d0), .int p1] (pr8 D cy g σ sz)) (qi8 D cy g sz (fun r τ => τ = σ ∧ ((0 : Int) ≤ r.toInt ∧ r.toInt ≤ 16) ∧ True)) 0 0 (A8 cy g sz) := by
  refine Met.ofW (cc := cX0_tonesOf) (maxL := 2) (ret := (some .int)) (by decide) rfl ?_
  intro p e s m args below meth c s₁ B hml hv
  obtain ⟨rfl, hsz, hP, hK, hD0, hC⟩ := hv
  have hx := B.exec
  have hb := B.bytes
  have hr := B.returns
  have hts := hts_g (atoms_spec (ws := ww yX0_tonesOf cX0_tonesOf 2 (some .int)) B.pre)
  have hown : s.vm.findClass RX0 = some m.cls := findClass_of_methodNamed B.named
  have hlocks := B.notSynchronized
  clear B
  subst hsz
  have hD := fun τ => A8_D (sz := s.heap.size) hD0 τ
  clear hD0
  have hS : va_S (A8 cy g s.heap.size) s.heap s.heap [] := va_S.rf
  have hl := lv_entry ([.ref (gO g d0), .int p1]) (n := 2) (Nat.le_of_ble_eq_true rfl)
  rw [lg_entry_eq]
  generalize (lg_sl ([.ref (gO g d0), .int p1]) ++ List.replicate (2 - (lg_sl ([.ref (gO g d0), .int p1])).length) Slot.unset).toArray = ls at hl ⊢
  have hl : lv_has ls 2 [(0, .ref (gO g d0)), (1, .int p1)] := hl
  refine lv_aload_n hx hb dX0_tonesOf_0 rfl (lv_at hl 0 rfl) ?_
  refine lv_iload_n hx hb dX0_tonesOf_1 rfl (lv_at hl 1 rfl) ?_
  refine va_calli (va_runV (As := [.int p1]) (rest := []) ⟨hx, hb, hml, hown, hts⟩ (m_X0_hasPart l D cy g σ  d0 p1 _ hJ (show 0 ≤ d0 ∧ d0 < 5 from hd0)) (cwV 1 hts (gd_V q648 q649 q650 q127 q651) rfl rfl rfl (by decide +kernel) ⟨(Nat.le_of_ble_eq_true rfl), (Nat.le_of_ble_eq_true rfl)⟩) (pv8 hP hK hD hC hS (rv8_0 hK hP hd0)) rfl rfl hl.1 rfl (lv_room (Nat.le_of_ble_eq_true rfl)) dX0_tonesOf_2 ⟨Nat.le_of_ble_eq_true rfl, Nat.le_of_ble_eq_true rfl⟩) hS (fun q _ h => up8 hS q h) (up8 hS) (fun r1 σ2 tS H1 locs ht hvm hw3 hB hz1 hk1 hS => ?_)
  have hP : va_P D clz (WD8 cy g σ2) H1 := by rw [← ht]; exact hB
  clear hB hz1 hk1 hvm ht
  generalize H1 = H at hP hS ⊢
  have hw3E : σ = σ2 := (hw3.1).symm
  subst hw3E
  have b4 : (0 : Int) ≤ r1.toInt ∧ r1.toInt ≤ 1 := hw3.2.1
  have b5 : (r1.toInt = 0) ∨ ((0 : Int) ≤ p1.toInt ∧ p1.toInt ≤ 2) := hw3.2.2.1
  refine lv_if_eq (tgt := 17) hx hb dX0_tonesOf_5 (by decide) (fun c6 => ?_) (fun c6 => ?_)
  ·
    have k7 := peq32 c6
    refine lv_iconst (v := 0) hx hb dX0_tonesOf_17 (by decide) ?_
    exact W.iret (v := 0) hx hb hr (fun tS ht hW => ⟨⟨0, σ, rfl, ⟨rfl, (show (0 : Int) ≤ (0 : Int32).toInt ∧ (0 : Int32).toInt ≤ 16 from (by have z0 : (0 : Int32).toInt = 0 := (by decide); omega)), trivial⟩, (show va_P D clz (WD8 cy g σ) tS.heap by rw [ht]; exact hP)⟩, hS.F ht⟩) hS.2.2 dX0_tonesOf_18
  ·
    have k8 := neq32 c6
    refine lv_aload_n hx hb dX0_tonesOf_8 rfl (lv_at hl 0 rfl) ?_
    refine g8_0_9 hx hb hts hown hK hP hd0 (hts _ q215) dX0_tonesOf_9 ?_
    refine lv_iload_n hx hb dX0_tonesOf_12 rfl (lv_at hl 1 rfl) ?_
    obtain ⟨x9, ex9⟩ : ∃ z, (σ d0).2.2.1 9 p1.toInt.toNat = z := ⟨_, rfl⟩
    refine l8_0_9 (x := x9) hx hb hK hP hd0 (vpo (by have f0 := b5; have f1 := b4; have f2 := k8; have g0 := rg32 p1; have z0 : (0 : Int32).toInt = 0 := (by decide); omega)) ex9 dX0_tonesOf_13 ?_
    have t10 := a8_0_9 hJ hd0 ex9
    refine lv_goto (tgt := 18) hx hb dX0_tonesOf_14 (by decide) ?_
    exact W.iret (v := x9) hx hb hr (fun tS ht hW => ⟨⟨x9, σ, rfl, ⟨rfl, (show (0 : Int) ≤ x9.toInt ∧ x9.toInt ≤ 16 from (by have f0 := t10; have g0 := rg32 x9; omega)), trivial⟩, (show va_P D clz (WD8 cy g σ) tS.heap by rw [ht]; exact hP)⟩, hS.F ht⟩) hS.2.2 dX0_tonesOf_18

theorem q667 : Cond.code yX0_hasTone cX0_hasTone 3 (some .boolean) ∈ lw_g := lw_gm (List.mem_of_getElem? (i := 667) (by decide +kernel)) rfl
theorem dX0_hasTone_0 : decode cX0_hasTone 0 = .ok (.iload_n 1, 1) := by decide +kernel
theorem dX0_hasTone_1 : decode cX0_hasTone 1 = .ok (.ifCond .lt 29, 3) := by decide +kernel
theorem dX0_hasTone_4 : decode cX0_hasTone 4 = .ok (.iload_n 1, 1) := by decide +kernel
theorem dX0_hasTone_5 : decode cX0_hasTone 5 = .ok (.aload_n 0, 1) := by decide +kernel
theorem dX0_hasTone_6 : decode cX0_hasTone 6 = .ok (.getfield 40, 3) := by decide +kernel
theorem dX0_hasTone_9 : decode cX0_hasTone 9 = .ok (.if_icmp .ge 21, 3) := by decide +kernel
theorem dX0_hasTone_12 : decode cX0_hasTone 12 = .ok (.iload_n 2, 1) := by decide +kernel
theorem dX0_hasTone_13 : decode cX0_hasTone 13 = .ok (.ifCond .lt 17, 3) := by decide +kernel
theorem dX0_hasTone_16 : decode cX0_hasTone 16 = .ok (.iload_n 2, 1) := by decide +kernel
theorem dX0_hasTone_17 : decode cX0_hasTone 17 = .ok (.aload_n 0, 1) := by decide +kernel
theorem dX0_hasTone_18 : decode cX0_hasTone 18 = .ok (.getfield 21, 3) := by decide +kernel
theorem dX0_hasTone_21 : decode cX0_hasTone 21 = .ok (.iload_n 1, 1) := by decide +kernel
theorem dX0_hasTone_22 : decode cX0_hasTone 22 = .ok (.iaload, 1) := by decide +kernel
theorem dX0_hasTone_23 : decode cX0_hasTone 23 = .ok (.if_icmp .ge 7, 3) := by decide +kernel
theorem dX0_hasTone_26 : decode cX0_hasTone 26 = .ok (.iconst 1, 1) := by decide +kernel
theorem dX0_hasTone_27 : decode cX0_hasTone 27 = .ok (.goto 4, 3) := by decide +kernel
theorem dX0_hasTone_30 : decode cX0_hasTone 30 = .ok (.iconst 0, 1) := by decide +kernel
theorem dX0_hasTone_31 : decode cX0_hasTone 31 = .ok (.ireturn, 1) := by decide +kernel
set_option maxHeartbeats 4000000 in
set_option maxRecDepth 100000 in
theorem m_X0_hasTone (l : Launch) (D : va_G) (cy : Nat → ClassId) (g : Nat → Nat) (σ : ST) (d0 : Nat) (p1 : Int32) (p2 : Int32) (sz : Nat) (hJ : J8 σ) (hd0 : 0 ≤ d0 ∧ d0 < 5) : Met l yX0_hasTone (ww yX0_hasTone cX0_hasTone 3 (some .boolean)) ({ frames := 1, cells := 0, slots := 0, locals := 64 }) (va_Pc [.ref (gO g d0), .int p1, .int p2] (pr8 D cy g σ sz)) (qi8 D cy g sz (fun r τ => τ = σ ∧ ((0 : Int) ≤ r.toInt ∧ r.toInt ≤ 1) ∧ ((r.toInt = 0) ∨ ((0 : Int) ≤ p1.toInt ∧ p1.toInt ≤ 2 ∧ (0 : Int) ≤ p2.toInt ∧ p2.toInt ≤ 15)) ∧ True)) 0 0 (A8 cy g sz) := by
  refine Met.ofW (cc := cX0_hasTone) (maxL := 3) (ret := (some .boolean)) (by decide) rfl ?_
  intro p e s m args below meth c s₁ B hml hv
  obtain ⟨rfl, hsz, hP, hK, hD0, hC⟩ := hv
  have hx := B.exec
  have hb := B.bytes
  have hr := B.returns
  have hts := hts_g (atoms_spec (ws := ww yX0_hasTone cX0_hasTone 3 (some .boolean)) B.pre)
  have hown : s.vm.findClass RX0 = some m.cls := findClass_of_methodNamed B.named
  have hlocks := B.notSynchronized
  clear B
  subst hsz
  have hD := fun τ => A8_D (sz := s.heap.size) hD0 τ
  clear hD0
  have hS : va_S (A8 cy g s.heap.size) s.heap s.heap [] := va_S.rf
  have hl := lv_entry ([.ref (gO g d0), .int p1, .int p2]) (n := 3) (Nat.le_of_ble_eq_true rfl)
  rw [lg_entry_eq]
  generalize (lg_sl ([.ref (gO g d0), .int p1, .int p2]) ++ List.replicate (3 - (lg_sl ([.ref (gO g d0), .int p1, .int p2])).length) Slot.unset).toArray = ls at hl ⊢
  have hl : lv_has ls 3 [(0, .ref (gO g d0)), (1, .int p1), (2, .int p2)] := hl
  refine lv_iload_n hx hb dX0_hasTone_0 rfl (lv_at hl 1 rfl) ?_
  refine lv_if_lt (tgt := 30) hx hb dX0_hasTone_1 (by decide) (fun c1 => ?_) (fun c1 => ?_)
  ·
    have k2 := plt32 c1
    refine lv_iconst (v := 0) hx hb dX0_hasTone_30 (by decide) ?_
    exact W.zret (v := 0) hx hb hr rfl (fun tS ht hW => ⟨⟨0, σ, rfl, ⟨rfl, (show (0 : Int) ≤ (0 : Int32).toInt ∧ (0 : Int32).toInt ≤ 1 from (by have z0 : (0 : Int32).toInt = 0 := (by decide); omega)), (show ((0 : Int32).toInt = 0) ∨ ((0 : Int) ≤ p1.toInt ∧ p1.toInt ≤ 2 ∧ (0 : Int) ≤ p2.toInt ∧ p2.toInt ≤ 15) from (by have f0 := k2; have g0 := rg32 p1; have g1 := rg32 p2; have z0 : (0 : Int32).toInt = 0 := (by decide); omega)), trivial⟩, (show va_P D clz (WD8 cy g σ) tS.heap by rw [ht]; exact hP)⟩, hS.F ht⟩) hS.2.2 dX0_hasTone_31
  ·
    have k3 := nlt32 c1
    refine lv_iload_n hx hb dX0_hasTone_4 rfl (lv_at hl 1 rfl) ?_
    refine lv_aload_n hx hb dX0_hasTone_5 rfl (lv_at hl 0 rfl) ?_
    refine g8_0_5 (x := ((σ d0).1 5)) hx hb hts hown hK hP hd0 (rfl) (hts _ q209) dX0_hasTone_6 ?_
    refine lv_icmp_ge (tgt := 30) hx hb dX0_hasTone_9 (by decide) (fun c4 => ?_) (fun c4 => ?_)
    ·
      have k5 := ple32 c4
      refine lv_iconst (v := 0) hx hb dX0_hasTone_30 (by decide) ?_
      exact W.zret (v := 0) hx hb hr rfl (fun tS ht hW => ⟨⟨0, σ, rfl, ⟨rfl, (show (0 : Int) ≤ (0 : Int32).toInt ∧ (0 : Int32).toInt ≤ 1 from (by have z0 : (0 : Int32).toInt = 0 := (by decide); omega)), (show ((0 : Int32).toInt = 0) ∨ ((0 : Int) ≤ p1.toInt ∧ p1.toInt ≤ 2 ∧ (0 : Int) ≤ p2.toInt ∧ p2.toInt ≤ 15) from (by have f0 := k3; have f1 := k5; have f2 := j8_0_5 hJ hd0 rfl; have g0 := rg32 p1; have g1 := rg32 p2; have z0 : (0 : Int32).toInt = 0 := (by decide); omega)), trivial⟩, (show va_P D clz (WD8 cy g σ) tS.heap by rw [ht]; exact hP)⟩, hS.F ht⟩) hS.2.2 dX0_hasTone_31
    ·
      have k6 := nle32 c4
      refine lv_iload_n hx hb dX0_hasTone_12 rfl (lv_at hl 2 rfl) ?_
      refine lv_if_lt (tgt := 30) hx hb dX0_hasTone_13 (by decide) (fun c7 => ?_) (fun c7 => ?_)
      ·
        have k8 := plt32 c7
        refine lv_iconst (v := 0) hx hb dX0_hasTone_30 (by decide) ?_
        exact W.zret (v := 0) hx hb hr rfl (fun tS ht hW => ⟨⟨0, σ, rfl, ⟨rfl, (show (0 : Int) ≤ (0 : Int32).toInt ∧ (0 : Int32).toInt ≤ 1 from (by have z0 : (0 : Int32).toInt = 0 := (by decide); omega)), (show ((0 : Int32).toInt = 0) ∨ ((0 : Int) ≤ p1.toInt ∧ p1.toInt ≤ 2 ∧ (0 : Int) ≤ p2.toInt ∧ p2.toInt ≤ 15) from (by have f0 := k3; have f1 := k6; have f2 := k8; have f3 := j8_0_5 hJ hd0 rfl; have g0 := rg32 p1; have g1 := rg32 p2; have z0 : (0 : Int32).toInt = 0 := (by decide); omega)), trivial⟩, (show va_P D clz (WD8 cy g σ) tS.heap by rw [ht]; exact hP)⟩, hS.F ht⟩) hS.2.2 dX0_hasTone_31
      ·
        have k9 := nlt32 c7
        refine lv_iload_n hx hb dX0_hasTone_16 rfl (lv_at hl 2 rfl) ?_
        refine lv_aload_n hx hb dX0_hasTone_17 rfl (lv_at hl 0 rfl) ?_
        refine g8_0_9 hx hb hts hown hK hP hd0 (hts _ q215) dX0_hasTone_18 ?_
        refine lv_iload_n hx hb dX0_hasTone_21 rfl (lv_at hl 1 rfl) ?_
        obtain ⟨x10, ex10⟩ : ∃ z, (σ d0).2.2.1 9 p1.toInt.toNat = z := ⟨_, rfl⟩
        refine l8_0_9 (x := x10) hx hb hK hP hd0 (vpo (by have f0 := k3; have f1 := k6; have f2 := j8_0_5 hJ hd0 rfl; have g0 := rg32 p1; have z0 : (0 : Int32).toInt = 0 := (by decide); omega)) ex10 dX0_hasTone_22 ?_
        have t11 := a8_0_9 hJ hd0 ex10
        refine lv_icmp_ge (tgt := 30) hx hb dX0_hasTone_23 (by decide) (fun c12 => ?_) (fun c12 => ?_)
        ·
          have k13 := ple32 c12
          refine lv_iconst (v := 0) hx hb dX0_hasTone_30 (by decide) ?_
          exact W.zret (v := 0) hx hb hr rfl (fun tS ht hW => ⟨⟨0, σ, rfl, ⟨rfl, (show (0 : Int) ≤ (0 : Int32).toInt ∧ (0 : Int32).toInt ≤ 1 from (by have z0 : (0 : Int32).toInt = 0 := (by decide); omega)), (show ((0 : Int32).toInt = 0) ∨ ((0 : Int) ≤ p1.toInt ∧ p1.toInt ≤ 2 ∧ (0 : Int) ≤ p2.toInt ∧ p2.toInt ≤ 15) from (by have f0 := k3; have f1 := k6; have f2 := k9; have f3 := k13; have f4 := j8_0_5 hJ hd0 rfl; have f5 := t11; have g0 := rg32 p1; have g1 := rg32 p2; have z0 : (0 : Int32).toInt = 0 := (by decide); omega)), trivial⟩, (show va_P D clz (WD8 cy g σ) tS.heap by rw [ht]; exact hP)⟩, hS.F ht⟩) hS.2.2 dX0_hasTone_31
        ·
          have k14 := nle32 c12
          refine lv_iconst (v := 1) hx hb dX0_hasTone_26 (by decide) ?_
          refine lv_goto (tgt := 31) hx hb dX0_hasTone_27 (by decide) ?_
          exact W.zret (v := 1) hx hb hr rfl (fun tS ht hW => ⟨⟨1, σ, rfl, ⟨rfl, (show (0 : Int) ≤ (1 : Int32).toInt ∧ (1 : Int32).toInt ≤ 1 from (by have z1 : (1 : Int32).toInt = 1 := (by decide); omega)), (show ((1 : Int32).toInt = 0) ∨ ((0 : Int) ≤ p1.toInt ∧ p1.toInt ≤ 2 ∧ (0 : Int) ≤ p2.toInt ∧ p2.toInt ≤ 15) from (by have f0 := k3; have f1 := k6; have f2 := k9; have f3 := k14; have f4 := j8_0_5 hJ hd0 rfl; have f5 := t11; have g0 := rg32 p1; have g1 := rg32 p2; have z0 : (0 : Int32).toInt = 0 := (by decide); have z1 : (1 : Int32).toInt = 1 := (by decide); omega)), trivial⟩, (show va_P D clz (WD8 cy g σ) tS.heap by rw [ht]; exact hP)⟩, hS.F ht⟩) hS.2.2 dX0_hasTone_31

theorem q663 : Cond.code yX0_toneField cX0_toneField 4 (some .int) ∈ lw_g := lw_gm (List.mem_of_getElem? (i := 663) (by decide +kernel)) rfl
theorem q664 : Cond.methodLink RX0 53 yX0_hasTone ∈ lw_g := lw_gm (List.mem_of_getElem? (i := 664) (by decide +kernel)) rfl
theorem q665 : Cond.instanceMethod yX0_hasTone ∈ lw_g := lw_gm (List.mem_of_getElem? (i := 665) (by decide +kernel)) rfl
theorem q666 : Cond.selects RX0 yX0_hasTone yX0_hasTone ∈ lw_g := lw_gm (List.mem_of_getElem? (i := 666) (by decide +kernel)) rfl
theorem q214 : Cond.fieldLink RX0 18 "LipsAndSlides$Desk" "toneRows" "[I" ∈ lw_g := lw_gm (List.mem_of_getElem? (i := 214) (by decide +kernel)) rfl
theorem dX0_toneField_0 : decode cX0_toneField 0 = .ok (.aload_n 0, 1) := by decide +kernel
theorem dX0_toneField_1 : decode cX0_toneField 1 = .ok (.iload_n 1, 1) := by decide +kernel
theorem dX0_toneField_2 : decode cX0_toneField 2 = .ok (.iload_n 2, 1) := by decide +kernel
theorem dX0_toneField_3 : decode cX0_toneField 3 = .ok (.invokevirtual 53, 3) := by decide +kernel
theorem dX0_toneField_6 : decode cX0_toneField 6 = .ok (.ifCond .eq 12, 3) := by decide +kernel
theorem dX0_toneField_9 : decode cX0_toneField 9 = .ok (.iload_n 3, 1) := by decide +kernel
theorem dX0_toneField_10 : decode cX0_toneField 10 = .ok (.ifCond .lt 8, 3) := by decide +kernel
theorem dX0_toneField_13 : decode cX0_toneField 13 = .ok (.iload_n 3, 1) := by decide +kernel
theorem dX0_toneField_14 : decode cX0_toneField 14 = .ok (.iconst 5, 1) := by decide +kernel
theorem dX0_toneField_15 : decode cX0_toneField 15 = .ok (.if_icmp .lt 6, 3) := by decide +kernel
theorem dX0_toneField_18 : decode cX0_toneField 18 = .ok (.bipush (-2), 2) := by decide +kernel
theorem dX0_toneField_20 : decode cX0_toneField 20 = .ok (.ireturn, 1) := by decide +kernel
theorem dX0_toneField_21 : decode cX0_toneField 21 = .ok (.aload_n 0, 1) := by decide +kernel
theorem dX0_toneField_22 : decode cX0_toneField 22 = .ok (.getfield 18, 3) := by decide +kernel
theorem dX0_toneField_25 : decode cX0_toneField 25 = .ok (.iload_n 1, 1) := by decide +kernel
theorem dX0_toneField_26 : decode cX0_toneField 26 = .ok (.bipush 16, 2) := by decide +kernel
theorem dX0_toneField_28 : decode cX0_toneField 28 = .ok (.imul, 1) := by decide +kernel
theorem dX0_toneField_29 : decode cX0_toneField 29 = .ok (.iload_n 2, 1) := by decide +kernel
theorem dX0_toneField_30 : decode cX0_toneField 30 = .ok (.iadd, 1) := by decide +kernel
theorem dX0_toneField_31 : decode cX0_toneField 31 = .ok (.iconst 5, 1) := by decide +kernel
theorem dX0_toneField_32 : decode cX0_toneField 32 = .ok (.imul, 1) := by decide +kernel
theorem dX0_toneField_33 : decode cX0_toneField 33 = .ok (.iload_n 3, 1) := by decide +kernel
theorem dX0_toneField_34 : decode cX0_toneField 34 = .ok (.iadd, 1) := by decide +kernel
theorem dX0_toneField_35 : decode cX0_toneField 35 = .ok (.iaload, 1) := by decide +kernel
theorem dX0_toneField_36 : decode cX0_toneField 36 = .ok (.ireturn, 1) := by decide +kernel
set_option maxHeartbeats 4000000 in
set_option maxRecDepth 100000 in
theorem m_X0_toneField (l : Launch) (D : va_G) (cy : Nat → ClassId) (g : Nat → Nat) (σ : ST) (d0 : Nat) (p1 : Int32) (p2 : Int32) (p3 : Int32) (sz : Nat) (hJ : J8 σ) (hd0 : 0 ≤ d0 ∧ d0 < 5) : Met l yX0_toneField (ww yX0_toneField cX0_toneField 4 (some .int)) ({ frames := 2, cells := 0, slots := 0, locals := 128 }) (va_Pc [.ref (gO g d0), .int p1, .int p2, .int p3] (pr8 D cy g σ sz)) (qi8 D cy g sz (fun r τ => τ = σ ∧ True)) 0 0 (A8 cy g sz) := by
  refine Met.ofW (cc := cX0_toneField) (maxL := 4) (ret := (some .int)) (by decide) rfl ?_
  intro p e s m args below meth c s₁ B hml hv
  obtain ⟨rfl, hsz, hP, hK, hD0, hC⟩ := hv
  have hx := B.exec
  have hb := B.bytes
  have hr := B.returns
  have hts := hts_g (atoms_spec (ws := ww yX0_toneField cX0_toneField 4 (some .int)) B.pre)
  have hown : s.vm.findClass RX0 = some m.cls := findClass_of_methodNamed B.named
  have hlocks := B.notSynchronized
  clear B
  subst hsz
  have hD := fun τ => A8_D (sz := s.heap.size) hD0 τ
  clear hD0
  have hS : va_S (A8 cy g s.heap.size) s.heap s.heap [] := va_S.rf
  have hl := lv_entry ([.ref (gO g d0), .int p1, .int p2, .int p3]) (n := 4) (Nat.le_of_ble_eq_true rfl)
  rw [lg_entry_eq]
  generalize (lg_sl ([.ref (gO g d0), .int p1, .int p2, .int p3]) ++ List.replicate (4 - (lg_sl ([.ref (gO g d0), .int p1, .int p2, .int p3])).length) Slot.unset).toArray = ls at hl ⊢
  have hl : lv_has ls 4 [(0, .ref (gO g d0)), (1, .int p1), (2, .int p2), (3, .int p3)] := hl
  refine lv_aload_n hx hb dX0_toneField_0 rfl (lv_at hl 0 rfl) ?_
  refine lv_iload_n hx hb dX0_toneField_1 rfl (lv_at hl 1 rfl) ?_
  refine lv_iload_n hx hb dX0_toneField_2 rfl (lv_at hl 2 rfl) ?_
  refine va_calli (va_runV (As := [.int p1, .int p2]) (rest := []) ⟨hx, hb, hml, hown, hts⟩ (m_X0_hasTone l D cy g σ  d0 p1 p2 _ hJ (show 0 ≤ d0 ∧ d0 < 5 from hd0)) (cwV 2 hts (gd_V q664 q665 q666 q127 q667) rfl rfl rfl (by decide +kernel) ⟨(Nat.le_of_ble_eq_true rfl), (Nat.le_of_ble_eq_true rfl)⟩) (pv8 hP hK hD hC hS (rv8_0 hK hP hd0)) rfl rfl hl.1 rfl (lv_room (Nat.le_of_ble_eq_true rfl)) dX0_toneField_3 ⟨Nat.le_of_ble_eq_true rfl, Nat.le_of_ble_eq_true rfl⟩) hS (fun q _ h => up8 hS q h) (up8 hS) (fun r1 σ2 tS H1 locs ht hvm hw3 hB hz1 hk1 hS => ?_)
  have hP : va_P D clz (WD8 cy g σ2) H1 := by rw [← ht]; exact hB
  clear hB hz1 hk1 hvm ht
  generalize H1 = H at hP hS ⊢
  have hw3E : σ = σ2 := (hw3.1).symm
  subst hw3E
  have b4 : (0 : Int) ≤ r1.toInt ∧ r1.toInt ≤ 1 := hw3.2.1
  have b5 : (r1.toInt = 0) ∨ ((0 : Int) ≤ p1.toInt ∧ p1.toInt ≤ 2 ∧ (0 : Int) ≤ p2.toInt ∧ p2.toInt ≤ 15) := hw3.2.2.1
  refine lv_if_eq (tgt := 18) hx hb dX0_toneField_6 (by decide) (fun c6 => ?_) (fun c6 => ?_)
  ·
    have k7 := peq32 c6
    refine lv_bipush (v := (-2)) hx hb dX0_toneField_18 (by decide) ?_
    exact W.iret (v := (-2)) hx hb hr (fun tS ht hW => ⟨⟨(-2), σ, rfl, ⟨rfl, trivial⟩, (show va_P D clz (WD8 cy g σ) tS.heap by rw [ht]; exact hP)⟩, hS.F ht⟩) hS.2.2 dX0_toneField_20
  ·
    have k8 := neq32 c6
    refine lv_iload_n hx hb dX0_toneField_9 rfl (lv_at hl 3 rfl) ?_
    refine lv_if_lt (tgt := 18) hx hb dX0_toneField_10 (by decide) (fun c9 => ?_) (fun c9 => ?_)
    ·
      have k10 := plt32 c9
      refine lv_bipush (v := (-2)) hx hb dX0_toneField_18 (by decide) ?_
      exact W.iret (v := (-2)) hx hb hr (fun tS ht hW => ⟨⟨(-2), σ, rfl, ⟨rfl, trivial⟩, (show va_P D clz (WD8 cy g σ) tS.heap by rw [ht]; exact hP)⟩, hS.F ht⟩) hS.2.2 dX0_toneField_20
    ·
      have k11 := nlt32 c9
      refine lv_iload_n hx hb dX0_toneField_13 rfl (lv_at hl 3 rfl) ?_
      refine lv_iconst (v := 5) hx hb dX0_toneField_14 (by decide) ?_
      refine lv_icmp_lt (tgt := 21) hx hb dX0_toneField_15 (by decide) (fun c12 => ?_) (fun c12 => ?_)
      ·
        have k13 := plt32 c12
        refine lv_aload_n hx hb dX0_toneField_21 rfl (lv_at hl 0 rfl) ?_
        refine g8_0_8 hx hb hts hown hK hP hd0 (hts _ q214) dX0_toneField_22 ?_
        refine lv_iload_n hx hb dX0_toneField_25 rfl (lv_at hl 1 rfl) ?_
        refine lv_bipush (v := 16) hx hb dX0_toneField_26 (by decide) ?_
        refine lv_imul hx hb dX0_toneField_28 ?_
        refine lv_topi (fun x14 ex14 => ?_)
        have t15 := mulC (n := 16) ex14 (by decide) (by have f0 := b5; have f1 := b4; have f2 := k8; have g0 := rg32 p1; have z0 : (0 : Int32).toInt = 0 := (by decide); omega)
        refine lv_iload_n hx hb dX0_toneField_29 rfl (lv_at hl 2 rfl) ?_
        refine lv_iadd hx hb dX0_toneField_30 ?_
        refine lv_topi (fun x16 ex16 => ?_)
        have t17 := addO ex16 (by have f0 := b5; have f1 := t15; have f2 := b4; have f3 := k8; have g0 := rg32 p2; have g1 := rg32 x14; have z0 : (0 : Int32).toInt = 0 := (by decide); omega)
        refine lv_iconst (v := 5) hx hb dX0_toneField_31 (by decide) ?_
        refine lv_imul hx hb dX0_toneField_32 ?_
        refine lv_topi (fun x18 ex18 => ?_)
        have t19 := mulC (n := 5) ex18 (by decide) (by have f0 := t17; have f1 := b5; have f2 := t15; have f3 := b4; have f4 := k8; have g0 := rg32 x16; have z0 : (0 : Int32).toInt = 0 := (by decide); omega)
        refine lv_iload_n hx hb dX0_toneField_33 rfl (lv_at hl 3 rfl) ?_
        refine lv_iadd hx hb dX0_toneField_34 ?_
        refine lv_topi (fun x20 ex20 => ?_)
        have t21 := addO ex20 (by have f0 := k11; have f1 := k13; have f2 := t19; have f3 := t17; have f4 := b5; have f5 := t15; have f6 := b4; have f7 := k8; have g0 := rg32 p3; have g1 := rg32 x18; have z0 : (0 : Int32).toInt = 0 := (by decide); have z5 : (5 : Int32).toInt = 5 := (by decide); omega)
        obtain ⟨x22, ex22⟩ : ∃ z, (σ d0).2.2.1 8 x20.toInt.toNat = z := ⟨_, rfl⟩
        refine l8_0_8 (x := x22) hx hb hK hP hd0 (vpo (by have f0 := t21; have f1 := k11; have f2 := k13; have f3 := t19; have f4 := t17; have f5 := b5; have f6 := t15; have g0 := rg32 x20; have z0 : (0 : Int32).toInt = 0 := (by decide); have z5 : (5 : Int32).toInt = 5 := (by decide); omega)) ex22 dX0_toneField_35 ?_
        exact W.iret (v := x22) hx hb hr (fun tS ht hW => ⟨⟨x22, σ, rfl, ⟨rfl, trivial⟩, (show va_P D clz (WD8 cy g σ) tS.heap by rw [ht]; exact hP)⟩, hS.F ht⟩) hS.2.2 dX0_toneField_36
      ·
        have k23 := nlt32 c12
        refine lv_bipush (v := (-2)) hx hb dX0_toneField_18 (by decide) ?_
        exact W.iret (v := (-2)) hx hb hr (fun tS ht hW => ⟨⟨(-2), σ, rfl, ⟨rfl, trivial⟩, (show va_P D clz (WD8 cy g σ) tS.heap by rw [ht]; exact hP)⟩, hS.F ht⟩) hS.2.2 dX0_toneField_20

theorem q655 : Cond.code yX0_beatsBefore cX0_beatsBefore 5 (some .int) ∈ lw_g := lw_gm (List.mem_of_getElem? (i := 655) (by decide +kernel)) rfl
theorem q656 : Cond.methodLink RX0 82 yX0_tonesOf ∈ lw_g := lw_gm (List.mem_of_getElem? (i := 656) (by decide +kernel)) rfl
theorem q657 : Cond.instanceMethod yX0_tonesOf ∈ lw_g := lw_gm (List.mem_of_getElem? (i := 657) (by decide +kernel)) rfl
theorem q658 : Cond.selects RX0 yX0_tonesOf yX0_tonesOf ∈ lw_g := lw_gm (List.mem_of_getElem? (i := 658) (by decide +kernel)) rfl
theorem q660 : Cond.methodLink RX0 49 yX0_toneField ∈ lw_g := lw_gm (List.mem_of_getElem? (i := 660) (by decide +kernel)) rfl
theorem q661 : Cond.instanceMethod yX0_toneField ∈ lw_g := lw_gm (List.mem_of_getElem? (i := 661) (by decide +kernel)) rfl
theorem q662 : Cond.selects RX0 yX0_toneField yX0_toneField ∈ lw_g := lw_gm (List.mem_of_getElem? (i := 662) (by decide +kernel)) rfl
theorem dX0_beatsBefore_0 : decode cX0_beatsBefore 0 = .ok (.iconst 0, 1) := by decide +kernel
theorem dX0_beatsBefore_1 : decode cX0_beatsBefore 1 = .ok (.istore_n 3, 1) := by decide +kernel
theorem dX0_beatsBefore_2 : decode cX0_beatsBefore 2 = .ok (.iconst 0, 1) := by decide +kernel
theorem dX0_beatsBefore_3 : decode cX0_beatsBefore 3 = .ok (.istore 4, 2) := by decide +kernel
theorem dX0_beatsBefore_5 : decode cX0_beatsBefore 5 = .ok (.iload 4, 2) := by decide +kernel
theorem dX0_beatsBefore_7 : decode cX0_beatsBefore 7 = .ok (.iload_n 2, 1) := by decide +kernel
theorem dX0_beatsBefore_8 : decode cX0_beatsBefore 8 = .ok (.if_icmp .ge 30, 3) := by decide +kernel
theorem dX0_beatsBefore_11 : decode cX0_beatsBefore 11 = .ok (.iload 4, 2) := by decide +kernel
theorem dX0_beatsBefore_13 : decode cX0_beatsBefore 13 = .ok (.aload_n 0, 1) := by decide +kernel
theorem dX0_beatsBefore_14 : decode cX0_beatsBefore 14 = .ok (.iload_n 1, 1) := by decide +kernel
theorem dX0_beatsBefore_15 : decode cX0_beatsBefore 15 = .ok (.invokevirtual 82, 3) := by decide +kernel
theorem dX0_beatsBefore_18 : decode cX0_beatsBefore 18 = .ok (.if_icmp .ge 20, 3) := by decide +kernel
theorem dX0_beatsBefore_21 : decode cX0_beatsBefore 21 = .ok (.iload_n 3, 1) := by decide +kernel
theorem dX0_beatsBefore_22 : decode cX0_beatsBefore 22 = .ok (.aload_n 0, 1) := by decide +kernel
theorem dX0_beatsBefore_23 : decode cX0_beatsBefore 23 = .ok (.iload_n 1, 1) := by decide +kernel
theorem dX0_beatsBefore_24 : decode cX0_beatsBefore 24 = .ok (.iload 4, 2) := by decide +kernel
theorem dX0_beatsBefore_26 : decode cX0_beatsBefore 26 = .ok (.iconst 1, 1) := by decide +kernel
theorem dX0_beatsBefore_27 : decode cX0_beatsBefore 27 = .ok (.invokevirtual 49, 3) := by decide +kernel
theorem dX0_beatsBefore_30 : decode cX0_beatsBefore 30 = .ok (.iadd, 1) := by decide +kernel
theorem dX0_beatsBefore_31 : decode cX0_beatsBefore 31 = .ok (.istore_n 3, 1) := by decide +kernel
theorem dX0_beatsBefore_32 : decode cX0_beatsBefore 32 = .ok (.iinc 4 1, 3) := by decide +kernel
theorem dX0_beatsBefore_35 : decode cX0_beatsBefore 35 = .ok (.goto (-30), 3) := by decide +kernel
theorem dX0_beatsBefore_38 : decode cX0_beatsBefore 38 = .ok (.iload_n 3, 1) := by decide +kernel
theorem dX0_beatsBefore_39 : decode cX0_beatsBefore 39 = .ok (.ireturn, 1) := by decide +kernel
set_option maxHeartbeats 4000000 in
set_option maxRecDepth 100000 in
theorem m_X0_beatsBefore (l : Launch) (D : va_G) (cy : Nat → ClassId) (g : Nat → Nat) (σ : ST) (d0 : Nat) (p1 : Int32) (p2 : Int32) (sz : Nat) (hJ : J8 σ) (hd0 : 0 ≤ d0 ∧ d0 < 5) (h0 : (0 : Int) ≤ p1.toInt ∧ p1.toInt ≤ 2) (h1 : (0 : Int) ≤ p2.toInt ∧ p2.toInt ≤ 16) : Met l yX0_beatsBefore (ww yX0_beatsBefore cX0_beatsBefore 5 (some .int)) ({ frames := 3, cells := 0, slots := 0, locals := 192 }) (va_Pc [.ref (gO g d0), .int p1, .int p2] (pr8 D cy g σ sz)) (qi8 D cy g sz (fun r τ => τ = σ ∧ True)) 0 0 (A8 cy g sz) := by
  refine Met.ofW (cc := cX0_beatsBefore) (maxL := 5) (ret := (some .int)) (by decide) rfl ?_
  intro p e s m args below meth c s₁ B hml hv
  obtain ⟨rfl, hsz, hP, hK, hD0, hC⟩ := hv
  have hx := B.exec
  have hb := B.bytes
  have hr := B.returns
  have hts := hts_g (atoms_spec (ws := ww yX0_beatsBefore cX0_beatsBefore 5 (some .int)) B.pre)
  have hown : s.vm.findClass RX0 = some m.cls := findClass_of_methodNamed B.named
  have hlocks := B.notSynchronized
  clear B
  subst hsz
  have hD := fun τ => A8_D (sz := s.heap.size) hD0 τ
  clear hD0
  have hS : va_S (A8 cy g s.heap.size) s.heap s.heap [] := va_S.rf
  have hl := lv_entry ([.ref (gO g d0), .int p1, .int p2]) (n := 5) (Nat.le_of_ble_eq_true rfl)
  rw [lg_entry_eq]
  generalize (lg_sl ([.ref (gO g d0), .int p1, .int p2]) ++ List.replicate (5 - (lg_sl ([.ref (gO g d0), .int p1, .int p2])).length) Slot.unset).toArray = ls at hl ⊢
  have hl : lv_has ls 5 [(0, .ref (gO g d0)), (1, .int p1), (2, .int p2)] := hl
  refine lv_iconst (v := 0) hx hb dX0_beatsBefore_0 (by decide) ?_
  refine lv_istore_n (lv' := [(3, .int 0), (0, .ref (gO g d0)), (1, .int p1), (2, .int p2)]) hx hb dX0_beatsBefore_1 rfl hl (by decide) rfl (fun ls hl => ?_)
  refine lv_iconst (v := 0) hx hb dX0_beatsBefore_2 (by decide) ?_
  refine lv_istore (lv' := [(4, .int 0), (3, .int 0), (0, .ref (gO g d0)), (1, .int p1), (2, .int p2)]) hx hb dX0_beatsBefore_3 hl (by decide) rfl (fun ls hl => ?_)
  refine loop8 5 5 (fun x : LZ => [(4, .int (x.2.1 0)), (3, .int (x.2.1 1)), (0, .ref (gO g d0)), (1, .int p1), (2, .int p2)]) (fun x : LZ => (x.1 = σ) ∧ ((0 : Int) ≤ (x.2.1 0).toInt ∧ (x.2.1 0).toInt ≤ 16) ∧ True) (fun x : LZ => ((17 : Int) - (x.2.1 0).toInt).toNat) ?_ (σ, lf [0, 0], lg []) ⟨rfl, (show (0 : Int) ≤ (0 : Int32).toInt ∧ (0 : Int32).toInt ≤ 16 from (by have z0 : (0 : Int32).toInt = 0 := (by decide); omega)), trivial⟩ _ _ _ hP hS (lv_sub hl [0, 1, 2, 3, 4] rfl)
  intro y3 hI2 nl1 H locs ls hP hS hl
  rw [show y3.1 = σ from hI2.1] at hP
  have b4 : (0 : Int) ≤ (y3.2.1 0).toInt ∧ (y3.2.1 0).toInt ≤ 16 := hI2.2.1
  have hl : lv_has ls 5 [(4, .int (y3.2.1 0)), (3, .int (y3.2.1 1)), (0, .ref (gO g d0)), (1, .int p1), (2, .int p2)] := hl
  refine lv_iload hx hb dX0_beatsBefore_5 (lv_at hl 0 rfl) ?_
  refine lv_iload_n hx hb dX0_beatsBefore_7 rfl (lv_at hl 4 rfl) ?_
  refine lv_icmp_ge (tgt := 38) hx hb dX0_beatsBefore_8 (by decide) (fun c5 => ?_) (fun c5 => ?_)
  ·
    have k6 := ple32 c5
    refine lv_iload_n hx hb dX0_beatsBefore_38 rfl (lv_at hl 1 rfl) ?_
    exact W.iret (v := (y3.2.1 1)) hx hb hr (fun tS ht hW => ⟨⟨(y3.2.1 1), σ, rfl, ⟨rfl, trivial⟩, (show va_P D clz (WD8 cy g σ) tS.heap by rw [ht]; exact hP)⟩, hS.F ht⟩) hS.2.2 dX0_beatsBefore_39
  ·
    have k7 := nle32 c5
    refine lv_iload hx hb dX0_beatsBefore_11 (lv_at hl 0 rfl) ?_
    refine lv_aload_n hx hb dX0_beatsBefore_13 rfl (lv_at hl 2 rfl) ?_
    refine lv_iload_n hx hb dX0_beatsBefore_14 rfl (lv_at hl 3 rfl) ?_
    refine va_calli (va_runV (As := [.int p1]) (rest := [.int (y3.2.1 0)]) ⟨hx, hb, hml, hown, hts⟩ (m_X0_tonesOf l D cy g σ  d0 p1 _ hJ (show 0 ≤ d0 ∧ d0 < 5 from hd0)) (cwV 1 hts (gd_V q656 q657 q658 q127 q659) rfl rfl rfl (by decide +kernel) ⟨(Nat.le_of_ble_eq_true rfl), (Nat.le_of_ble_eq_true rfl)⟩) (pv8 hP hK hD hC hS (rv8_0 hK hP hd0)) rfl rfl hl.1 rfl (lv_room (Nat.le_of_ble_eq_true rfl)) dX0_beatsBefore_15 ⟨Nat.le_of_ble_eq_true rfl, Nat.le_of_ble_eq_true rfl⟩) hS (fun q _ h => up8 hS q h) (up8 hS) (fun r8 σ9 tS H1 locs ht hvm hw10 hB hz1 hk1 hS => ?_)
    have hP : va_P D clz (WD8 cy g σ9) H1 := by rw [← ht]; exact hB
    clear hB hz1 hk1 hvm ht
    generalize H1 = H at hP hS ⊢
    have hw10E : σ = σ9 := (hw10.1).symm
    subst hw10E
    have b11 : (0 : Int) ≤ r8.toInt ∧ r8.toInt ≤ 16 := hw10.2.1
    refine lv_icmp_ge (tgt := 38) hx hb dX0_beatsBefore_18 (by decide) (fun c12 => ?_) (fun c12 => ?_)
    ·
      have k13 := ple32 c12
      refine lv_iload_n hx hb dX0_beatsBefore_38 rfl (lv_at hl 1 rfl) ?_
      exact W.iret (v := (y3.2.1 1)) hx hb hr (fun tS ht hW => ⟨⟨(y3.2.1 1), σ, rfl, ⟨rfl, trivial⟩, (show va_P D clz (WD8 cy g σ) tS.heap by rw [ht]; exact hP)⟩, hS.F ht⟩) hS.2.2 dX0_beatsBefore_39
    ·
      have k14 := nle32 c12
      refine lv_iload_n hx hb dX0_beatsBefore_21 rfl (lv_at hl 1 rfl) ?_
      refine lv_aload_n hx hb dX0_beatsBefore_22 rfl (lv_at hl 2 rfl) ?_
      refine lv_iload_n hx hb dX0_beatsBefore_23 rfl (lv_at hl 3 rfl) ?_
      refine lv_iload hx hb dX0_beatsBefore_24 (lv_at hl 0 rfl) ?_
      refine lv_iconst (v := 1) hx hb dX0_beatsBefore_26 (by decide) ?_
      refine va_calli (va_runV (As := [.int p1, .int (y3.2.1 0), .int 1]) (rest := [.int (y3.2.1 1)]) ⟨hx, hb, hml, hown, hts⟩ (m_X0_toneField l D cy g σ  d0 p1 (y3.2.1 0) (1) _ hJ (show 0 ≤ d0 ∧ d0 < 5 from hd0)) (cwV 3 hts (gd_V q660 q661 q662 q127 q663) rfl rfl rfl (by decide +kernel) ⟨(Nat.le_of_ble_eq_true rfl), (Nat.le_of_ble_eq_true rfl)⟩) (pv8 hP hK hD hC hS (rv8_0 hK hP hd0)) rfl rfl hl.1 rfl (lv_room (Nat.le_of_ble_eq_true rfl)) dX0_beatsBefore_27 ⟨Nat.le_of_ble_eq_true rfl, Nat.le_of_ble_eq_true rfl⟩) hS (fun q _ h => up8 hS q h) (up8 hS) (fun r15 σ16 tS H1 locs ht hvm hw17 hB hz1 hk1 hS => ?_)
      have hP : va_P D clz (WD8 cy g σ16) H1 := by rw [← ht]; exact hB
      clear hB hz1 hk1 hvm ht
      generalize H1 = H at hP hS ⊢
      have hw17E : σ = σ16 := (hw17.1).symm
      subst hw17E
      refine lv_iadd hx hb dX0_beatsBefore_30 ?_
      refine lv_topi (fun x18 ex18 => ?_)
      refine lv_istore_n (lv' := [(3, .int x18), (4, .int (y3.2.1 0)), (0, .ref (gO g d0)), (1, .int p1), (2, .int p2)]) hx hb dX0_beatsBefore_31 rfl hl (by decide) rfl (fun ls hl => ?_)
      obtain ⟨x19, ex19⟩ : ∃ y : Int32, y = (y3.2.1 0) + 1 := ⟨_, rfl⟩
      have t20 := addO ex19 (by have f0 := b4; have f1 := k7; have f2 := k14; have f3 := h1; have f4 := b11; have g0 := rg32 (y3.2.1 0); have z1 : (1 : Int32).toInt = 1 := (by decide); omega)
      refine lv_iinc (v := x19) (lv' := [(4, .int x19), (3, .int x18), (0, .ref (gO g d0)), (1, .int p1), (2, .int p2)]) hx hb dX0_beatsBefore_32 hl (k := 1) rfl (by rw [ex19]; rfl) (by decide) rfl (fun ls hl => ?_)
      refine lv_goto (tgt := 5) hx hb dX0_beatsBefore_35 (by decide) ?_
      have t21 : ((17 : Int) - x19.toInt).toNat < ((17 : Int) - (y3.2.1 0).toInt).toNat := (by have f0 := b4; have f1 := k7; have f2 := k14; have f3 := t20; have f4 := h1; have f5 := b11; have g0 := rg32 (y3.2.1 0); have g1 := rg32 x19; have z1 : (1 : Int32).toInt = 1 := (by decide); omega)
      exact nl1 (σ, lf [x19, x18], lg []) ⟨rfl, (show (0 : Int) ≤ (x19 : Int32).toInt ∧ (x19 : Int32).toInt ≤ 16 from (by have f0 := t20; have f1 := b4; have f2 := k7; have f3 := k14; have f4 := h1; have f5 := b11; have g0 := rg32 x19; have z1 : (1 : Int32).toInt = 1 := (by decide); omega)), trivial⟩ (show ((17 : Int) - x19.toInt).toNat < _ from t21) _ _ _ hP hS (lv_sub hl [0, 1, 2, 3, 4] rfl)

theorem q671 : Cond.code yX0_setTone cX0_setTone 5 none ∈ lw_g := lw_gm (List.mem_of_getElem? (i := 671) (by decide +kernel)) rfl
theorem dX0_setTone_0 : decode cX0_setTone 0 = .ok (.aload_n 0, 1) := by decide +kernel
theorem dX0_setTone_1 : decode cX0_setTone 1 = .ok (.iload_n 1, 1) := by decide +kernel
theorem dX0_setTone_2 : decode cX0_setTone 2 = .ok (.iload_n 2, 1) := by decide +kernel
theorem dX0_setTone_3 : decode cX0_setTone 3 = .ok (.invokevirtual 53, 3) := by decide +kernel
theorem dX0_setTone_6 : decode cX0_setTone 6 = .ok (.ifCond .eq 29, 3) := by decide +kernel
theorem dX0_setTone_9 : decode cX0_setTone 9 = .ok (.iload_n 3, 1) := by decide +kernel
theorem dX0_setTone_10 : decode cX0_setTone 10 = .ok (.ifCond .lt 25, 3) := by decide +kernel
theorem dX0_setTone_13 : decode cX0_setTone 13 = .ok (.iload_n 3, 1) := by decide +kernel
theorem dX0_setTone_14 : decode cX0_setTone 14 = .ok (.iconst 5, 1) := by decide +kernel
theorem dX0_setTone_15 : decode cX0_setTone 15 = .ok (.if_icmp .ge 20, 3) := by decide +kernel
theorem dX0_setTone_18 : decode cX0_setTone 18 = .ok (.aload_n 0, 1) := by decide +kernel
theorem dX0_setTone_19 : decode cX0_setTone 19 = .ok (.getfield 18, 3) := by decide +kernel
theorem dX0_setTone_22 : decode cX0_setTone 22 = .ok (.iload_n 1, 1) := by decide +kernel
theorem dX0_setTone_23 : decode cX0_setTone 23 = .ok (.bipush 16, 2) := by decide +kernel
theorem dX0_setTone_25 : decode cX0_setTone 25 = .ok (.imul, 1) := by decide +kernel
theorem dX0_setTone_26 : decode cX0_setTone 26 = .ok (.iload_n 2, 1) := by decide +kernel
theorem dX0_setTone_27 : decode cX0_setTone 27 = .ok (.iadd, 1) := by decide +kernel
theorem dX0_setTone_28 : decode cX0_setTone 28 = .ok (.iconst 5, 1) := by decide +kernel
theorem dX0_setTone_29 : decode cX0_setTone 29 = .ok (.imul, 1) := by decide +kernel
theorem dX0_setTone_30 : decode cX0_setTone 30 = .ok (.iload_n 3, 1) := by decide +kernel
theorem dX0_setTone_31 : decode cX0_setTone 31 = .ok (.iadd, 1) := by decide +kernel
theorem dX0_setTone_32 : decode cX0_setTone 32 = .ok (.iload 4, 2) := by decide +kernel
theorem dX0_setTone_34 : decode cX0_setTone 34 = .ok (.iastore, 1) := by decide +kernel
theorem dX0_setTone_35 : decode cX0_setTone 35 = .ok (.return_, 1) := by decide +kernel
set_option maxHeartbeats 4000000 in
set_option maxRecDepth 100000 in
theorem m_X0_setTone (l : Launch) (D : va_G) (cy : Nat → ClassId) (g : Nat → Nat) (σ : ST) (d0 : Nat) (p1 : Int32) (p2 : Int32) (p3 : Int32) (p4 : Int32) (sz : Nat) (hJ : J8 σ) (hd0 : 0 ≤ d0 ∧ d0 < 5) (h0 : (-1 : Int) ≤ p1.toInt ∧ p1.toInt ≤ 2) (h1 : (-1 : Int) ≤ p2.toInt ∧ p2.toInt ≤ 15) (h2 : (0 : Int) ≤ p3.toInt ∧ p3.toInt ≤ 4) : Met l yX0_setTone (ww yX0_setTone cX0_setTone 5 none) ({ frames := 2, cells := 0, slots := 0, locals := 128 }) (va_Pc [.ref (gO g d0), .int p1, .int p2, .int p3, .int p4] (pr8 D cy g σ sz)) (qv8 D cy g sz (fun τ => Fr (fO [d0]) σ τ ∧ J8 τ ∧ True)) 0 0 (A8 cy g sz) := by
  refine Met.ofW (cc := cX0_setTone) (maxL := 5) (ret := none) (by decide) rfl ?_
  intro p e s m args below meth c s₁ B hml hv
  obtain ⟨rfl, hsz, hP, hK, hD0, hC⟩ := hv
  have hx := B.exec
  have hb := B.bytes
  have hr := B.returns
  have hts := hts_g (atoms_spec (ws := ww yX0_setTone cX0_setTone 5 none) B.pre)
  have hown : s.vm.findClass RX0 = some m.cls := findClass_of_methodNamed B.named
  have hlocks := B.notSynchronized
  clear B
  subst hsz
  have hD := fun τ => A8_D (sz := s.heap.size) hD0 τ
  clear hD0
  have hS : va_S (A8 cy g s.heap.size) s.heap s.heap [] := va_S.rf
  have hl := lv_entry ([.ref (gO g d0), .int p1, .int p2, .int p3, .int p4]) (n := 5) (Nat.le_of_ble_eq_true rfl)
  rw [lg_entry_eq]
  generalize (lg_sl ([.ref (gO g d0), .int p1, .int p2, .int p3, .int p4]) ++ List.replicate (5 - (lg_sl ([.ref (gO g d0), .int p1, .int p2, .int p3, .int p4])).length) Slot.unset).toArray = ls at hl ⊢
  have hl : lv_has ls 5 [(0, .ref (gO g d0)), (1, .int p1), (2, .int p2), (3, .int p3), (4, .int p4)] := hl
  refine lv_aload_n hx hb dX0_setTone_0 rfl (lv_at hl 0 rfl) ?_
  refine lv_iload_n hx hb dX0_setTone_1 rfl (lv_at hl 1 rfl) ?_
  refine lv_iload_n hx hb dX0_setTone_2 rfl (lv_at hl 2 rfl) ?_
  refine va_calli (va_runV (As := [.int p1, .int p2]) (rest := []) ⟨hx, hb, hml, hown, hts⟩ (m_X0_hasTone l D cy g σ  d0 p1 p2 _ hJ (show 0 ≤ d0 ∧ d0 < 5 from hd0)) (cwV 2 hts (gd_V q664 q665 q666 q127 q667) rfl rfl rfl (by decide +kernel) ⟨(Nat.le_of_ble_eq_true rfl), (Nat.le_of_ble_eq_true rfl)⟩) (pv8 hP hK hD hC hS (rv8_0 hK hP hd0)) rfl rfl hl.1 rfl (lv_room (Nat.le_of_ble_eq_true rfl)) dX0_setTone_3 ⟨Nat.le_of_ble_eq_true rfl, Nat.le_of_ble_eq_true rfl⟩) hS (fun q _ h => up8 hS q h) (up8 hS) (fun r1 σ2 tS H1 locs ht hvm hw3 hB hz1 hk1 hS => ?_)
  have hP : va_P D clz (WD8 cy g σ2) H1 := by rw [← ht]; exact hB
  clear hB hz1 hk1 hvm ht
  generalize H1 = H at hP hS ⊢
  have hw3E : σ = σ2 := (hw3.1).symm
  subst hw3E
  have b4 : (0 : Int) ≤ r1.toInt ∧ r1.toInt ≤ 1 := hw3.2.1
  have b5 : (r1.toInt = 0) ∨ ((0 : Int) ≤ p1.toInt ∧ p1.toInt ≤ 2 ∧ (0 : Int) ≤ p2.toInt ∧ p2.toInt ≤ 15) := hw3.2.2.1
  refine lv_if_eq (tgt := 35) hx hb dX0_setTone_6 (by decide) (fun c6 => ?_) (fun c6 => ?_)
  ·
    have k7 := peq32 c6
    exact W.vret hx hb hr (fun tS ht hW => ⟨⟨σ, rfl, ⟨Fr.rf, hJ, trivial⟩, (show va_P D clz (WD8 cy g σ) tS.heap by rw [ht]; exact hP)⟩, hS.F ht⟩) hS.2.2 dX0_setTone_35
  ·
    have k8 := neq32 c6
    refine lv_iload_n hx hb dX0_setTone_9 rfl (lv_at hl 3 rfl) ?_
    refine lv_if_lt (tgt := 35) hx hb dX0_setTone_10 (by decide) (fun c9 => ?_) (fun c9 => ?_)
    ·
      have k10 := plt32 c9
      exact False.elim (by have f0 := h2; have f1 := k10; have g0 := rg32 p3; have z0 : (0 : Int32).toInt = 0 := (by decide); omega)
    ·
      have k11 := nlt32 c9
      refine lv_iload_n hx hb dX0_setTone_13 rfl (lv_at hl 3 rfl) ?_
      refine lv_iconst (v := 5) hx hb dX0_setTone_14 (by decide) ?_
      refine lv_icmp_ge (tgt := 35) hx hb dX0_setTone_15 (by decide) (fun c12 => ?_) (fun c12 => ?_)
      ·
        have k13 := ple32 c12
        exact False.elim (by have f0 := h2; have f1 := k11; have f2 := k13; have g0 := rg32 p3; have z0 : (0 : Int32).toInt = 0 := (by decide); have z5 : (5 : Int32).toInt = 5 := (by decide); omega)
      ·
        have k14 := nle32 c12
        refine lv_aload_n hx hb dX0_setTone_18 rfl (lv_at hl 0 rfl) ?_
        refine g8_0_8 hx hb hts hown hK hP hd0 (hts _ q214) dX0_setTone_19 ?_
        refine lv_iload_n hx hb dX0_setTone_22 rfl (lv_at hl 1 rfl) ?_
        refine lv_bipush (v := 16) hx hb dX0_setTone_23 (by decide) ?_
        refine lv_imul hx hb dX0_setTone_25 ?_
        refine lv_topi (fun x15 ex15 => ?_)
        have t16 := mulC (n := 16) ex15 (by decide) (by have f0 := h0; have f1 := b5; have f2 := h1; have f3 := b4; have f4 := k8; have g0 := rg32 p1; have z0 : (0 : Int32).toInt = 0 := (by decide); omega)
        refine lv_iload_n hx hb dX0_setTone_26 rfl (lv_at hl 2 rfl) ?_
        refine lv_iadd hx hb dX0_setTone_27 ?_
        refine lv_topi (fun x17 ex17 => ?_)
        have t18 := addO ex17 (by have f0 := h1; have f1 := b5; have f2 := t16; have f3 := h0; have f4 := b4; have f5 := k8; have g0 := rg32 p2; have g1 := rg32 x15; have z0 : (0 : Int32).toInt = 0 := (by decide); omega)
        refine lv_iconst (v := 5) hx hb dX0_setTone_28 (by decide) ?_
        refine lv_imul hx hb dX0_setTone_29 ?_
        refine lv_topi (fun x19 ex19 => ?_)
        have t20 := mulC (n := 5) ex19 (by decide) (by have f0 := t18; have f1 := h1; have f2 := b5; have f3 := t16; have f4 := h0; have f5 := b4; have f6 := k8; have g0 := rg32 x17; have z0 : (0 : Int32).toInt = 0 := (by decide); omega)
        refine lv_iload_n hx hb dX0_setTone_30 rfl (lv_at hl 3 rfl) ?_
        refine lv_iadd hx hb dX0_setTone_31 ?_
        refine lv_topi (fun x21 ex21 => ?_)
        have t22 := addO ex21 (by have f0 := h2; have f1 := k11; have f2 := k14; have f3 := t20; have f4 := t18; have f5 := h1; have f6 := b5; have f7 := t16; have f8 := h0; have f9 := b4; have f10 := k8; have g0 := rg32 p3; have g1 := rg32 x19; have z0 : (0 : Int32).toInt = 0 := (by decide); have z5 : (5 : Int32).toInt = 5 := (by decide); omega)
        refine lv_iload hx hb dX0_setTone_32 (lv_at hl 4 rfl) ?_
        refine t8_0_8 hx hb hK hP hd0 hD hS (vpo (by have f0 := t22; have f1 := h2; have f2 := k11; have f3 := k14; have f4 := t20; have f5 := t18; have f6 := h1; have f7 := b5; have f8 := t16; have g0 := rg32 x21; have z0 : (0 : Int32).toInt = 0 := (by decide); have z5 : (5 : Int32).toInt = 5 := (by decide); omega)) dX0_setTone_34 (fun H locs σ23 eσ23 hP hS => ?_)
        have hJ24 : J8 σ23 := hJ.A eσ23 (clO_0 hd0) (show PA8 0 8 p4 from trivial)
        exact W.vret hx hb hr (fun tS ht hW => ⟨⟨σ23, rfl, ⟨Fr.tr (Fr.rf) (sA_f eσ23) (fN_O mem0), hJ24, trivial⟩, (show va_P D clz (WD8 cy g σ23) tS.heap by rw [ht]; exact hP)⟩, hS.F ht⟩) hS.2.2 dX0_setTone_35

theorem q647 : Cond.code yX0_addTone cX0_addTone 4 (some .boolean) ∈ lw_g := lw_gm (List.mem_of_getElem? (i := 647) (by decide +kernel)) rfl
theorem q652 : Cond.methodLink RX0 74 yX0_beatsBefore ∈ lw_g := lw_gm (List.mem_of_getElem? (i := 652) (by decide +kernel)) rfl
theorem q653 : Cond.instanceMethod yX0_beatsBefore ∈ lw_g := lw_gm (List.mem_of_getElem? (i := 653) (by decide +kernel)) rfl
theorem q654 : Cond.selects RX0 yX0_beatsBefore yX0_beatsBefore ∈ lw_g := lw_gm (List.mem_of_getElem? (i := 654) (by decide +kernel)) rfl
theorem q668 : Cond.methodLink RX0 78 yX0_setTone ∈ lw_g := lw_gm (List.mem_of_getElem? (i := 668) (by decide +kernel)) rfl
theorem q669 : Cond.instanceMethod yX0_setTone ∈ lw_g := lw_gm (List.mem_of_getElem? (i := 669) (by decide +kernel)) rfl
theorem q670 : Cond.selects RX0 yX0_setTone yX0_setTone ∈ lw_g := lw_gm (List.mem_of_getElem? (i := 670) (by decide +kernel)) rfl
theorem dX0_addTone_0 : decode cX0_addTone 0 = .ok (.aload_n 0, 1) := by decide +kernel
theorem dX0_addTone_1 : decode cX0_addTone 1 = .ok (.getfield 40, 3) := by decide +kernel
theorem dX0_addTone_4 : decode cX0_addTone 4 = .ok (.iconst 1, 1) := by decide +kernel
theorem dX0_addTone_5 : decode cX0_addTone 5 = .ok (.isub, 1) := by decide +kernel
theorem dX0_addTone_6 : decode cX0_addTone 6 = .ok (.istore_n 1, 1) := by decide +kernel
theorem dX0_addTone_7 : decode cX0_addTone 7 = .ok (.aload_n 0, 1) := by decide +kernel
theorem dX0_addTone_8 : decode cX0_addTone 8 = .ok (.iload_n 1, 1) := by decide +kernel
theorem dX0_addTone_9 : decode cX0_addTone 9 = .ok (.invokevirtual 60, 3) := by decide +kernel
theorem dX0_addTone_12 : decode cX0_addTone 12 = .ok (.ifCond .eq 14, 3) := by decide +kernel
theorem dX0_addTone_15 : decode cX0_addTone 15 = .ok (.aload_n 0, 1) := by decide +kernel
theorem dX0_addTone_16 : decode cX0_addTone 16 = .ok (.getfield 21, 3) := by decide +kernel
theorem dX0_addTone_19 : decode cX0_addTone 19 = .ok (.iload_n 1, 1) := by decide +kernel
theorem dX0_addTone_20 : decode cX0_addTone 20 = .ok (.iaload, 1) := by decide +kernel
theorem dX0_addTone_21 : decode cX0_addTone 21 = .ok (.bipush 16, 2) := by decide +kernel
theorem dX0_addTone_23 : decode cX0_addTone 23 = .ok (.if_icmp .lt 5, 3) := by decide +kernel
theorem dX0_addTone_26 : decode cX0_addTone 26 = .ok (.iconst 0, 1) := by decide +kernel
theorem dX0_addTone_27 : decode cX0_addTone 27 = .ok (.ireturn, 1) := by decide +kernel
theorem dX0_addTone_28 : decode cX0_addTone 28 = .ok (.aload_n 0, 1) := by decide +kernel
theorem dX0_addTone_29 : decode cX0_addTone 29 = .ok (.getfield 21, 3) := by decide +kernel
theorem dX0_addTone_32 : decode cX0_addTone 32 = .ok (.iload_n 1, 1) := by decide +kernel
theorem dX0_addTone_33 : decode cX0_addTone 33 = .ok (.iaload, 1) := by decide +kernel
theorem dX0_addTone_34 : decode cX0_addTone 34 = .ok (.istore_n 2, 1) := by decide +kernel
theorem dX0_addTone_35 : decode cX0_addTone 35 = .ok (.aload_n 0, 1) := by decide +kernel
theorem dX0_addTone_36 : decode cX0_addTone 36 = .ok (.iload_n 1, 1) := by decide +kernel
theorem dX0_addTone_37 : decode cX0_addTone 37 = .ok (.iload_n 2, 1) := by decide +kernel
theorem dX0_addTone_38 : decode cX0_addTone 38 = .ok (.invokevirtual 74, 3) := by decide +kernel
theorem dX0_addTone_41 : decode cX0_addTone 41 = .ok (.istore_n 3, 1) := by decide +kernel
theorem dX0_addTone_42 : decode cX0_addTone 42 = .ok (.aload_n 0, 1) := by decide +kernel
theorem dX0_addTone_43 : decode cX0_addTone 43 = .ok (.getfield 21, 3) := by decide +kernel
theorem dX0_addTone_46 : decode cX0_addTone 46 = .ok (.iload_n 1, 1) := by decide +kernel
theorem dX0_addTone_47 : decode cX0_addTone 47 = .ok (.dup2, 1) := by decide +kernel
theorem dX0_addTone_48 : decode cX0_addTone 48 = .ok (.iaload, 1) := by decide +kernel
theorem dX0_addTone_49 : decode cX0_addTone 49 = .ok (.iconst 1, 1) := by decide +kernel
theorem dX0_addTone_50 : decode cX0_addTone 50 = .ok (.iadd, 1) := by decide +kernel
theorem dX0_addTone_51 : decode cX0_addTone 51 = .ok (.iastore, 1) := by decide +kernel
theorem dX0_addTone_52 : decode cX0_addTone 52 = .ok (.aload_n 0, 1) := by decide +kernel
theorem dX0_addTone_53 : decode cX0_addTone 53 = .ok (.iload_n 1, 1) := by decide +kernel
theorem dX0_addTone_54 : decode cX0_addTone 54 = .ok (.iload_n 2, 1) := by decide +kernel
theorem dX0_addTone_55 : decode cX0_addTone 55 = .ok (.iconst 0, 1) := by decide +kernel
theorem dX0_addTone_56 : decode cX0_addTone 56 = .ok (.iconst (-1), 1) := by decide +kernel
theorem dX0_addTone_57 : decode cX0_addTone 57 = .ok (.invokevirtual 78, 3) := by decide +kernel
theorem dX0_addTone_60 : decode cX0_addTone 60 = .ok (.aload_n 0, 1) := by decide +kernel
theorem dX0_addTone_61 : decode cX0_addTone 61 = .ok (.iload_n 1, 1) := by decide +kernel
theorem dX0_addTone_62 : decode cX0_addTone 62 = .ok (.iload_n 2, 1) := by decide +kernel
theorem dX0_addTone_63 : decode cX0_addTone 63 = .ok (.iconst 1, 1) := by decide +kernel
theorem dX0_addTone_64 : decode cX0_addTone 64 = .ok (.iconst 0, 1) := by decide +kernel
theorem dX0_addTone_65 : decode cX0_addTone 65 = .ok (.invokevirtual 78, 3) := by decide +kernel
theorem dX0_addTone_68 : decode cX0_addTone 68 = .ok (.aload_n 0, 1) := by decide +kernel
theorem dX0_addTone_69 : decode cX0_addTone 69 = .ok (.iload_n 1, 1) := by decide +kernel
theorem dX0_addTone_70 : decode cX0_addTone 70 = .ok (.iload_n 2, 1) := by decide +kernel
theorem dX0_addTone_71 : decode cX0_addTone 71 = .ok (.iconst 2, 1) := by decide +kernel
theorem dX0_addTone_72 : decode cX0_addTone 72 = .ok (.iconst 0, 1) := by decide +kernel
theorem dX0_addTone_73 : decode cX0_addTone 73 = .ok (.invokevirtual 78, 3) := by decide +kernel
theorem dX0_addTone_76 : decode cX0_addTone 76 = .ok (.aload_n 0, 1) := by decide +kernel
theorem dX0_addTone_77 : decode cX0_addTone 77 = .ok (.iload_n 1, 1) := by decide +kernel
theorem dX0_addTone_78 : decode cX0_addTone 78 = .ok (.iload_n 2, 1) := by decide +kernel
theorem dX0_addTone_79 : decode cX0_addTone 79 = .ok (.iconst 3, 1) := by decide +kernel
theorem dX0_addTone_80 : decode cX0_addTone 80 = .ok (.iconst 0, 1) := by decide +kernel
theorem dX0_addTone_81 : decode cX0_addTone 81 = .ok (.invokevirtual 78, 3) := by decide +kernel
theorem dX0_addTone_84 : decode cX0_addTone 84 = .ok (.aload_n 0, 1) := by decide +kernel
theorem dX0_addTone_85 : decode cX0_addTone 85 = .ok (.iload_n 1, 1) := by decide +kernel
theorem dX0_addTone_86 : decode cX0_addTone 86 = .ok (.iload_n 2, 1) := by decide +kernel
theorem dX0_addTone_87 : decode cX0_addTone 87 = .ok (.iconst 4, 1) := by decide +kernel
theorem dX0_addTone_88 : decode cX0_addTone 88 = .ok (.iload_n 3, 1) := by decide +kernel
theorem dX0_addTone_89 : decode cX0_addTone 89 = .ok (.invokevirtual 78, 3) := by decide +kernel
theorem dX0_addTone_92 : decode cX0_addTone 92 = .ok (.iconst 1, 1) := by decide +kernel
theorem dX0_addTone_93 : decode cX0_addTone 93 = .ok (.ireturn, 1) := by decide +kernel
set_option maxHeartbeats 4000000 in
set_option maxRecDepth 100000 in
theorem m_X0_addTone (l : Launch) (D : va_G) (cy : Nat → ClassId) (g : Nat → Nat) (σ : ST) (d0 : Nat) (sz : Nat) (hJ : J8 σ) (hd0 : 0 ≤ d0 ∧ d0 < 5) : Met l yX0_addTone (ww yX0_addTone cX0_addTone 4 (some .boolean)) ({ frames := 4, cells := 0, slots := 0, locals := 256 }) (va_Pc [.ref (gO g d0)] (pr8 D cy g σ sz)) (qi8 D cy g sz (fun r τ => Fr (fO [d0]) σ τ ∧ J8 τ ∧ ((0 : Int) ≤ r.toInt ∧ r.toInt ≤ 1) ∧ True)) 0 0 (A8 cy g sz) := by
  refine Met.ofW (cc := cX0_addTone) (maxL := 4) (ret := (some .boolean)) (by decide) rfl ?_
  intro p e s m args below meth c s₁ B hml hv
  obtain ⟨rfl, hsz, hP, hK, hD0, hC⟩ := hv
  have hx := B.exec
  have hb := B.bytes
  have hr := B.returns
  have hts := hts_g (atoms_spec (ws := ww yX0_addTone cX0_addTone 4 (some .boolean)) B.pre)
  have hown : s.vm.findClass RX0 = some m.cls := findClass_of_methodNamed B.named
  have hlocks := B.notSynchronized
  clear B
  subst hsz
  have hD := fun τ => A8_D (sz := s.heap.size) hD0 τ
  clear hD0
  have hS : va_S (A8 cy g s.heap.size) s.heap s.heap [] := va_S.rf
  have hl := lv_entry ([.ref (gO g d0)]) (n := 4) (Nat.le_of_ble_eq_true rfl)
  rw [lg_entry_eq]
  generalize (lg_sl ([.ref (gO g d0)]) ++ List.replicate (4 - (lg_sl ([.ref (gO g d0)])).length) Slot.unset).toArray = ls at hl ⊢
  have hl : lv_has ls 4 [(0, .ref (gO g d0))] := hl
  refine lv_aload_n hx hb dX0_addTone_0 rfl (lv_at hl 0 rfl) ?_
  refine g8_0_5 (x := ((σ d0).1 5)) hx hb hts hown hK hP hd0 (rfl) (hts _ q209) dX0_addTone_1 ?_
  refine lv_iconst (v := 1) hx hb dX0_addTone_4 (by decide) ?_
  refine lv_isub hx hb dX0_addTone_5 ?_
  refine lv_topi (fun x1 ex1 => ?_)
  have t2 := subO ex1 (by have f0 := j8_0_5 hJ hd0 rfl; have z1 : (1 : Int32).toInt = 1 := (by decide); omega)
  refine lv_istore_n (lv' := [(1, .int x1), (0, .ref (gO g d0))]) hx hb dX0_addTone_6 rfl hl (by decide) rfl (fun ls hl => ?_)
  refine lv_aload_n hx hb dX0_addTone_7 rfl (lv_at hl 1 rfl) ?_
  refine lv_iload_n hx hb dX0_addTone_8 rfl (lv_at hl 0 rfl) ?_
  refine va_calli (va_runV (As := [.int x1]) (rest := []) ⟨hx, hb, hml, hown, hts⟩ (m_X0_hasPart l D cy g σ  d0 x1 _ hJ (show 0 ≤ d0 ∧ d0 < 5 from hd0)) (cwV 1 hts (gd_V q648 q649 q650 q127 q651) rfl rfl rfl (by decide +kernel) ⟨(Nat.le_of_ble_eq_true rfl), (Nat.le_of_ble_eq_true rfl)⟩) (pv8 hP hK hD hC hS (rv8_0 hK hP hd0)) rfl rfl hl.1 rfl (lv_room (Nat.le_of_ble_eq_true rfl)) dX0_addTone_9 ⟨Nat.le_of_ble_eq_true rfl, Nat.le_of_ble_eq_true rfl⟩) hS (fun q _ h => up8 hS q h) (up8 hS) (fun r3 σ4 tS H1 locs ht hvm hw5 hB hz1 hk1 hS => ?_)
  have hP : va_P D clz (WD8 cy g σ4) H1 := by rw [← ht]; exact hB
  clear hB hz1 hk1 hvm ht
  generalize H1 = H at hP hS ⊢
  have hw5E : σ = σ4 := (hw5.1).symm
  subst hw5E
  have b6 : (0 : Int) ≤ r3.toInt ∧ r3.toInt ≤ 1 := hw5.2.1
  have b7 : (r3.toInt = 0) ∨ ((0 : Int) ≤ x1.toInt ∧ x1.toInt ≤ 2) := hw5.2.2.1
  refine lv_if_eq (tgt := 26) hx hb dX0_addTone_12 (by decide) (fun c8 => ?_) (fun c8 => ?_)
  ·
    have k9 := peq32 c8
    refine lv_iconst (v := 0) hx hb dX0_addTone_26 (by decide) ?_
    exact W.zret (v := 0) hx hb hr rfl (fun tS ht hW => ⟨⟨0, σ, rfl, ⟨Fr.rf, hJ, (show (0 : Int) ≤ (0 : Int32).toInt ∧ (0 : Int32).toInt ≤ 1 from (by have z0 : (0 : Int32).toInt = 0 := (by decide); omega)), trivial⟩, (show va_P D clz (WD8 cy g σ) tS.heap by rw [ht]; exact hP)⟩, hS.F ht⟩) hS.2.2 dX0_addTone_27
  ·
    have k10 := neq32 c8
    refine lv_aload_n hx hb dX0_addTone_15 rfl (lv_at hl 1 rfl) ?_
    refine g8_0_9 hx hb hts hown hK hP hd0 (hts _ q215) dX0_addTone_16 ?_
    refine lv_iload_n hx hb dX0_addTone_19 rfl (lv_at hl 0 rfl) ?_
    obtain ⟨x11, ex11⟩ : ∃ z, (σ d0).2.2.1 9 x1.toInt.toNat = z := ⟨_, rfl⟩
    refine l8_0_9 (x := x11) hx hb hK hP hd0 (vpo (by have f0 := t2; have f1 := b7; have f2 := j8_0_5 hJ hd0 rfl; have f3 := b6; have f4 := k10; have g1 := rg32 x1; have z0 : (0 : Int32).toInt = 0 := (by decide); have z1 : (1 : Int32).toInt = 1 := (by decide); omega)) ex11 dX0_addTone_20 ?_
    have t12 := a8_0_9 hJ hd0 ex11
    refine lv_bipush (v := 16) hx hb dX0_addTone_21 (by decide) ?_
    refine lv_icmp_lt (tgt := 28) hx hb dX0_addTone_23 (by decide) (fun c13 => ?_) (fun c13 => ?_)
    ·
      have k14 := plt32 c13
      refine lv_aload_n hx hb dX0_addTone_28 rfl (lv_at hl 1 rfl) ?_
      refine g8_0_9 hx hb hts hown hK hP hd0 (hts _ q215) dX0_addTone_29 ?_
      refine lv_iload_n hx hb dX0_addTone_32 rfl (lv_at hl 0 rfl) ?_
      refine l8_0_9 (x := x11) hx hb hK hP hd0 (vpo (by have f0 := t2; have f1 := b7; have f2 := j8_0_5 hJ hd0 rfl; have f3 := b6; have f4 := k10; have g1 := rg32 x1; have z0 : (0 : Int32).toInt = 0 := (by decide); have z1 : (1 : Int32).toInt = 1 := (by decide); omega)) ex11 dX0_addTone_33 ?_
      refine lv_istore_n (lv' := [(2, .int x11), (1, .int x1), (0, .ref (gO g d0))]) hx hb dX0_addTone_34 rfl hl (by decide) rfl (fun ls hl => ?_)
      refine lv_aload_n hx hb dX0_addTone_35 rfl (lv_at hl 2 rfl) ?_
      refine lv_iload_n hx hb dX0_addTone_36 rfl (lv_at hl 1 rfl) ?_
      refine lv_iload_n hx hb dX0_addTone_37 rfl (lv_at hl 0 rfl) ?_
      refine va_calli (va_runV (As := [.int x1, .int x11]) (rest := []) ⟨hx, hb, hml, hown, hts⟩ (m_X0_beatsBefore l D cy g σ  d0 x1 x11 _ hJ (show 0 ≤ d0 ∧ d0 < 5 from hd0) (show (0 : Int) ≤ x1.toInt ∧ x1.toInt ≤ 2 from (by have f0 := t2; have f1 := b7; have f2 := j8_0_5 hJ hd0 rfl; have f3 := b6; have f4 := k10; have g1 := rg32 x1; have z0 : (0 : Int32).toInt = 0 := (by decide); have z1 : (1 : Int32).toInt = 1 := (by decide); omega)) (show (0 : Int) ≤ x11.toInt ∧ x11.toInt ≤ 16 from (by have f0 := t2; have f1 := b7; have f2 := t12; have f3 := k14; have f4 := j8_0_5 hJ hd0 rfl; have f5 := b6; have f6 := k10; have g1 := rg32 x1; have g2 := rg32 x11; have z0 : (0 : Int32).toInt = 0 := (by decide); have z1 : (1 : Int32).toInt = 1 := (by decide); have z16 : (16 : Int32).toInt = 16 := (by decide); omega))) (cwV 2 hts (gd_V q652 q653 q654 q127 q655) rfl rfl rfl (by decide +kernel) ⟨(Nat.le_of_ble_eq_true rfl), (Nat.le_of_ble_eq_true rfl)⟩) (pv8 hP hK hD hC hS (rv8_0 hK hP hd0)) rfl rfl hl.1 rfl (lv_room (Nat.le_of_ble_eq_true rfl)) dX0_addTone_38 ⟨Nat.le_of_ble_eq_true rfl, Nat.le_of_ble_eq_true rfl⟩) hS (fun q _ h => up8 hS q h) (up8 hS) (fun r15 σ16 tS H1 locs ht hvm hw17 hB hz1 hk1 hS => ?_)
      have hP : va_P D clz (WD8 cy g σ16) H1 := by rw [← ht]; exact hB
      clear hB hz1 hk1 hvm ht
      generalize H1 = H at hP hS ⊢
      have hw17E : σ = σ16 := (hw17.1).symm
      subst hw17E
      refine lv_istore_n (lv' := [(3, .int r15), (2, .int x11), (1, .int x1), (0, .ref (gO g d0))]) hx hb dX0_addTone_41 rfl hl (by decide) rfl (fun ls hl => ?_)
      refine lv_aload_n hx hb dX0_addTone_42 rfl (lv_at hl 3 rfl) ?_
      refine g8_0_9 hx hb hts hown hK hP hd0 (hts _ q215) dX0_addTone_43 ?_
      refine lv_iload_n hx hb dX0_addTone_46 rfl (lv_at hl 2 rfl) ?_
      refine lv_dup2_11 hx hb dX0_addTone_47 rfl rfl ?_
      refine l8_0_9 (x := x11) hx hb hK hP hd0 (vpo (by have f0 := t2; have f1 := b7; have f2 := j8_0_5 hJ hd0 rfl; have f3 := b6; have f4 := k10; have g1 := rg32 x1; have z0 : (0 : Int32).toInt = 0 := (by decide); have z1 : (1 : Int32).toInt = 1 := (by decide); omega)) ex11 dX0_addTone_48 ?_
      refine lv_iconst (v := 1) hx hb dX0_addTone_49 (by decide) ?_
      refine lv_iadd hx hb dX0_addTone_50 ?_
      refine lv_topi (fun x18 ex18 => ?_)
      have t19 := addO ex18 (by have f0 := t12; have f1 := k14; have g0 := rg32 x11; have z1 : (1 : Int32).toInt = 1 := (by decide); have z16 : (16 : Int32).toInt = 16 := (by decide); omega)
      refine t8_0_9 hx hb hK hP hd0 hD hS (vpo (by have f0 := t2; have f1 := b7; have f2 := j8_0_5 hJ hd0 rfl; have f3 := b6; have f4 := k10; have g1 := rg32 x1; have z0 : (0 : Int32).toInt = 0 := (by decide); have z1 : (1 : Int32).toInt = 1 := (by decide); omega)) dX0_addTone_51 (fun H locs σ20 eσ20 hP hS => ?_)
      have hJ21 : J8 σ20 := hJ.A eσ20 (clO_0 hd0) (show PA8 0 9 x18 from (by have f0 := t19; have f1 := t12; have f2 := k14; have g0 := rg32 x18; have z1 : (1 : Int32).toInt = 1 := (by decide); have z16 : (16 : Int32).toInt = 16 := (by decide); exact ⟨by omega, by omega⟩))
      refine lv_aload_n hx hb dX0_addTone_52 rfl (lv_at hl 3 rfl) ?_
      refine lv_iload_n hx hb dX0_addTone_53 rfl (lv_at hl 2 rfl) ?_
      refine lv_iload_n hx hb dX0_addTone_54 rfl (lv_at hl 1 rfl) ?_
      refine lv_iconst (v := 0) hx hb dX0_addTone_55 (by decide) ?_
      refine lv_iconst (v := (-1)) hx hb dX0_addTone_56 (by decide) ?_
      refine va_callv (va_runV (As := [.int x1, .int x11, .int 0, .int (-1)]) (rest := []) ⟨hx, hb, hml, hown, hts⟩ (m_X0_setTone l D cy g σ20  d0 x1 x11 (0) ((-1)) _ hJ21 (show 0 ≤ d0 ∧ d0 < 5 from hd0) (show (-1 : Int) ≤ x1.toInt ∧ x1.toInt ≤ 2 from (by have f0 := t2; have f1 := b7; have f2 := j8_0_5 hJ hd0 rfl; have f3 := b6; have f4 := k10; have g1 := rg32 x1; have z0 : (0 : Int32).toInt = 0 := (by decide); have z1 : (1 : Int32).toInt = 1 := (by decide); omega)) (show (-1 : Int) ≤ x11.toInt ∧ x11.toInt ≤ 15 from (by have f0 := t2; have f1 := b7; have f2 := t12; have f3 := k14; have f4 := t19; have f5 := j8_0_5 hJ hd0 rfl; have f6 := b6; have f7 := k10; have g1 := rg32 x1; have g2 := rg32 x11; have z0 : (0 : Int32).toInt = 0 := (by decide); have z1 : (1 : Int32).toInt = 1 := (by decide); have z16 : (16 : Int32).toInt = 16 := (by decide); omega)) (show (0 : Int) ≤ (0 : Int32).toInt ∧ (0 : Int32).toInt ≤ 4 from (by have f0 := t2; have f1 := b7; have f2 := t12; have f3 := k14; have f4 := t19; have f5 := j8_0_5 hJ hd0 rfl; have f6 := b6; have f7 := k10; have g1 := rg32 x1; have g2 := rg32 x11; have z0 : (0 : Int32).toInt = 0 := (by decide); have z1 : (1 : Int32).toInt = 1 := (by decide); have z16 : (16 : Int32).toInt = 16 := (by decide); omega))) (cwV 4 hts (gd_V q668 q669 q670 q127 q671) rfl rfl rfl (by decide +kernel) ⟨(Nat.le_of_ble_eq_true rfl), (Nat.le_of_ble_eq_true rfl)⟩) (pv8 hP hK hD hC hS (rv8_0 hK hP hd0)) rfl rfl hl.1 rfl (lv_room (Nat.le_of_ble_eq_true rfl)) dX0_addTone_57 ⟨Nat.le_of_ble_eq_true rfl, Nat.le_of_ble_eq_true rfl⟩) hS (fun q _ h => up8 hS q h) (up8 hS) (fun σ23 tS H1 locs ht hvm hw24 hB hz1 hk1 hS => ?_)
      have hP : va_P D clz (WD8 cy g σ23) H1 := by rw [← ht]; exact hB
      clear hB hz1 hk1 hvm ht
      generalize H1 = H at hP hS ⊢
      have hF25 : Fr (fO [d0]) σ20 σ23 := hw24.1
      have hJ26 : J8 σ23 := hw24.2.1
      refine lv_aload_n hx hb dX0_addTone_60 rfl (lv_at hl 3 rfl) ?_
      refine lv_iload_n hx hb dX0_addTone_61 rfl (lv_at hl 2 rfl) ?_
      refine lv_iload_n hx hb dX0_addTone_62 rfl (lv_at hl 1 rfl) ?_
      refine lv_iconst (v := 1) hx hb dX0_addTone_63 (by decide) ?_
      refine lv_iconst (v := 0) hx hb dX0_addTone_64 (by decide) ?_
      refine va_callv (va_runV (As := [.int x1, .int x11, .int 1, .int 0]) (rest := []) ⟨hx, hb, hml, hown, hts⟩ (m_X0_setTone l D cy g σ23  d0 x1 x11 (1) (0) _ hJ26 (show 0 ≤ d0 ∧ d0 < 5 from hd0) (show (-1 : Int) ≤ x1.toInt ∧ x1.toInt ≤ 2 from (by have f0 := t2; have f1 := b7; have f2 := j8_0_5 hJ hd0 rfl; have f3 := b6; have f4 := k10; have g1 := rg32 x1; have z0 : (0 : Int32).toInt = 0 := (by decide); have z1 : (1 : Int32).toInt = 1 := (by decide); omega)) (show (-1 : Int) ≤ x11.toInt ∧ x11.toInt ≤ 15 from (by have f0 := t2; have f1 := b7; have f2 := t12; have f3 := k14; have f4 := t19; have f5 := j8_0_5 hJ hd0 rfl; have f6 := b6; have f7 := k10; have g1 := rg32 x1; have g2 := rg32 x11; have z0 : (0 : Int32).toInt = 0 := (by decide); have z1 : (1 : Int32).toInt = 1 := (by decide); have z16 : (16 : Int32).toInt = 16 := (by decide); omega)) (show (0 : Int) ≤ (1 : Int32).toInt ∧ (1 : Int32).toInt ≤ 4 from (by have f0 := t2; have f1 := b7; have f2 := t12; have f3 := k14; have f4 := t19; have f5 := j8_0_5 hJ hd0 rfl; have f6 := b6; have f7 := k10; have g1 := rg32 x1; have g2 := rg32 x11; have z0 : (0 : Int32).toInt = 0 := (by decide); have z1 : (1 : Int32).toInt = 1 := (by decide); have z16 : (16 : Int32).toInt = 16 := (by decide); omega))) (cwV 4 hts (gd_V q668 q669 q670 q127 q671) rfl rfl rfl (by decide +kernel) ⟨(Nat.le_of_ble_eq_true rfl), (Nat.le_of_ble_eq_true rfl)⟩) (pv8 hP hK hD hC hS (rv8_0 hK hP hd0)) rfl rfl hl.1 rfl (lv_room (Nat.le_of_ble_eq_true rfl)) dX0_addTone_65 ⟨Nat.le_of_ble_eq_true rfl, Nat.le_of_ble_eq_true rfl⟩) hS (fun q _ h => up8 hS q h) (up8 hS) (fun σ28 tS H1 locs ht hvm hw29 hB hz1 hk1 hS => ?_)
      have hP : va_P D clz (WD8 cy g σ28) H1 := by rw [← ht]; exact hB
      clear hB hz1 hk1 hvm ht
      generalize H1 = H at hP hS ⊢
      have hF30 : Fr (fO [d0]) σ23 σ28 := hw29.1
      have hJ31 : J8 σ28 := hw29.2.1
      refine lv_aload_n hx hb dX0_addTone_68 rfl (lv_at hl 3 rfl) ?_
      refine lv_iload_n hx hb dX0_addTone_69 rfl (lv_at hl 2 rfl) ?_
      refine lv_iload_n hx hb dX0_addTone_70 rfl (lv_at hl 1 rfl) ?_
      refine lv_iconst (v := 2) hx hb dX0_addTone_71 (by decide) ?_
      refine lv_iconst (v := 0) hx hb dX0_addTone_72 (by decide) ?_
      refine va_callv (va_runV (As := [.int x1, .int x11, .int 2, .int 0]) (rest := []) ⟨hx, hb, hml, hown, hts⟩ (m_X0_setTone l D cy g σ28  d0 x1 x11 (2) (0) _ hJ31 (show 0 ≤ d0 ∧ d0 < 5 from hd0) (show (-1 : Int) ≤ x1.toInt ∧ x1.toInt ≤ 2 from (by have f0 := t2; have f1 := b7; have f2 := j8_0_5 hJ hd0 rfl; have f3 := b6; have f4 := k10; have g1 := rg32 x1; have z0 : (0 : Int32).toInt = 0 := (by decide); have z1 : (1 : Int32).toInt = 1 := (by decide); omega)) (show (-1 : Int) ≤ x11.toInt ∧ x11.toInt ≤ 15 from (by have f0 := t2; have f1 := b7; have f2 := t12; have f3 := k14; have f4 := t19; have f5 := j8_0_5 hJ hd0 rfl; have f6 := b6; have f7 := k10; have g1 := rg32 x1; have g2 := rg32 x11; have z0 : (0 : Int32).toInt = 0 := (by decide); have z1 : (1 : Int32).toInt = 1 := (by decide); have z16 : (16 : Int32).toInt = 16 := (by decide); omega)) (show (0 : Int) ≤ (2 : Int32).toInt ∧ (2 : Int32).toInt ≤ 4 from (by have f0 := t2; have f1 := b7; have f2 := t12; have f3 := k14; have f4 := t19; have f5 := j8_0_5 hJ hd0 rfl; have f6 := b6; have f7 := k10; have g1 := rg32 x1; have g2 := rg32 x11; have z0 : (0 : Int32).toInt = 0 := (by decide); have z1 : (1 : Int32).toInt = 1 := (by decide); have z2 : (2 : Int32).toInt = 2 := (by decide); have z16 : (16 : Int32).toInt = 16 := (by decide); omega))) (cwV 4 hts (gd_V q668 q669 q670 q127 q671) rfl rfl rfl (by decide +kernel) ⟨(Nat.le_of_ble_eq_true rfl), (Nat.le_of_ble_eq_true rfl)⟩) (pv8 hP hK hD hC hS (rv8_0 hK hP hd0)) rfl rfl hl.1 rfl (lv_room (Nat.le_of_ble_eq_true rfl)) dX0_addTone_73 ⟨Nat.le_of_ble_eq_true rfl, Nat.le_of_ble_eq_true rfl⟩) hS (fun q _ h => up8 hS q h) (up8 hS) (fun σ33 tS H1 locs ht hvm hw34 hB hz1 hk1 hS => ?_)
      have hP : va_P D clz (WD8 cy g σ33) H1 := by rw [← ht]; exact hB
      clear hB hz1 hk1 hvm ht
      generalize H1 = H at hP hS ⊢
      have hF35 : Fr (fO [d0]) σ28 σ33 := hw34.1
      have hJ36 : J8 σ33 := hw34.2.1
      refine lv_aload_n hx hb dX0_addTone_76 rfl (lv_at hl 3 rfl) ?_
      refine lv_iload_n hx hb dX0_addTone_77 rfl (lv_at hl 2 rfl) ?_
      refine lv_iload_n hx hb dX0_addTone_78 rfl (lv_at hl 1 rfl) ?_
      refine lv_iconst (v := 3) hx hb dX0_addTone_79 (by decide) ?_
      refine lv_iconst (v := 0) hx hb dX0_addTone_80 (by decide) ?_
      refine va_callv (va_runV (As := [.int x1, .int x11, .int 3, .int 0]) (rest := []) ⟨hx, hb, hml, hown, hts⟩ (m_X0_setTone l D cy g σ33  d0 x1 x11 (3) (0) _ hJ36 (show 0 ≤ d0 ∧ d0 < 5 from hd0) (show (-1 : Int) ≤ x1.toInt ∧ x1.toInt ≤ 2 from (by have f0 := t2; have f1 := b7; have f2 := j8_0_5 hJ hd0 rfl; have f3 := b6; have f4 := k10; have g1 := rg32 x1; have z0 : (0 : Int32).toInt = 0 := (by decide); have z1 : (1 : Int32).toInt = 1 := (by decide); omega)) (show (-1 : Int) ≤ x11.toInt ∧ x11.toInt ≤ 15 from (by have f0 := t2; have f1 := b7; have f2 := t12; have f3 := k14; have f4 := t19; have f5 := j8_0_5 hJ hd0 rfl; have f6 := b6; have f7 := k10; have g1 := rg32 x1; have g2 := rg32 x11; have z0 : (0 : Int32).toInt = 0 := (by decide); have z1 : (1 : Int32).toInt = 1 := (by decide); have z16 : (16 : Int32).toInt = 16 := (by decide); omega)) (show (0 : Int) ≤ (3 : Int32).toInt ∧ (3 : Int32).toInt ≤ 4 from (by have f0 := t2; have f1 := b7; have f2 := t12; have f3 := k14; have f4 := t19; have f5 := j8_0_5 hJ hd0 rfl; have f6 := b6; have f7 := k10; have g1 := rg32 x1; have g2 := rg32 x11; have z0 : (0 : Int32).toInt = 0 := (by decide); have z1 : (1 : Int32).toInt = 1 := (by decide); have z3 : (3 : Int32).toInt = 3 := (by decide); have z16 : (16 : Int32).toInt = 16 := (by decide); omega))) (cwV 4 hts (gd_V q668 q669 q670 q127 q671) rfl rfl rfl (by decide +kernel) ⟨(Nat.le_of_ble_eq_true rfl), (Nat.le_of_ble_eq_true rfl)⟩) (pv8 hP hK hD hC hS (rv8_0 hK hP hd0)) rfl rfl hl.1 rfl (lv_room (Nat.le_of_ble_eq_true rfl)) dX0_addTone_81 ⟨Nat.le_of_ble_eq_true rfl, Nat.le_of_ble_eq_true rfl⟩) hS (fun q _ h => up8 hS q h) (up8 hS) (fun σ38 tS H1 locs ht hvm hw39 hB hz1 hk1 hS => ?_)
      have hP : va_P D clz (WD8 cy g σ38) H1 := by rw [← ht]; exact hB
      clear hB hz1 hk1 hvm ht
      generalize H1 = H at hP hS ⊢
      have hF40 : Fr (fO [d0]) σ33 σ38 := hw39.1
      have hJ41 : J8 σ38 := hw39.2.1
      refine lv_aload_n hx hb dX0_addTone_84 rfl (lv_at hl 3 rfl) ?_
      refine lv_iload_n hx hb dX0_addTone_85 rfl (lv_at hl 2 rfl) ?_
      refine lv_iload_n hx hb dX0_addTone_86 rfl (lv_at hl 1 rfl) ?_
      refine lv_iconst (v := 4) hx hb dX0_addTone_87 (by decide) ?_
      refine lv_iload_n hx hb dX0_addTone_88 rfl (lv_at hl 0 rfl) ?_
      refine va_callv (va_runV (As := [.int x1, .int x11, .int 4, .int r15]) (rest := []) ⟨hx, hb, hml, hown, hts⟩ (m_X0_setTone l D cy g σ38  d0 x1 x11 (4) r15 _ hJ41 (show 0 ≤ d0 ∧ d0 < 5 from hd0) (show (-1 : Int) ≤ x1.toInt ∧ x1.toInt ≤ 2 from (by have f0 := t2; have f1 := b7; have f2 := j8_0_5 hJ hd0 rfl; have f3 := b6; have f4 := k10; have g1 := rg32 x1; have z0 : (0 : Int32).toInt = 0 := (by decide); have z1 : (1 : Int32).toInt = 1 := (by decide); omega)) (show (-1 : Int) ≤ x11.toInt ∧ x11.toInt ≤ 15 from (by have f0 := t2; have f1 := b7; have f2 := t12; have f3 := k14; have f4 := t19; have f5 := j8_0_5 hJ hd0 rfl; have f6 := b6; have f7 := k10; have g1 := rg32 x1; have g2 := rg32 x11; have z0 : (0 : Int32).toInt = 0 := (by decide); have z1 : (1 : Int32).toInt = 1 := (by decide); have z16 : (16 : Int32).toInt = 16 := (by decide); omega)) (show (0 : Int) ≤ (4 : Int32).toInt ∧ (4 : Int32).toInt ≤ 4 from (by have f0 := t2; have f1 := b7; have f2 := t12; have f3 := k14; have f4 := t19; have f5 := j8_0_5 hJ hd0 rfl; have f6 := b6; have f7 := k10; have g1 := rg32 x1; have g2 := rg32 x11; have z0 : (0 : Int32).toInt = 0 := (by decide); have z1 : (1 : Int32).toInt = 1 := (by decide); have z4 : (4 : Int32).toInt = 4 := (by decide); have z16 : (16 : Int32).toInt = 16 := (by decide); omega))) (cwV 4 hts (gd_V q668 q669 q670 q127 q671) rfl rfl rfl (by decide +kernel) ⟨(Nat.le_of_ble_eq_true rfl), (Nat.le_of_ble_eq_true rfl)⟩) (pv8 hP hK hD hC hS (rv8_0 hK hP hd0)) rfl rfl hl.1 rfl (lv_room (Nat.le_of_ble_eq_true rfl)) dX0_addTone_89 ⟨Nat.le_of_ble_eq_true rfl, Nat.le_of_ble_eq_true rfl⟩) hS (fun q _ h => up8 hS q h) (up8 hS) (fun σ43 tS H1 locs ht hvm hw44 hB hz1 hk1 hS => ?_)
      have hP : va_P D clz (WD8 cy g σ43) H1 := by rw [← ht]; exact hB
      clear hB hz1 hk1 hvm ht
      generalize H1 = H at hP hS ⊢
      have hF45 : Fr (fO [d0]) σ38 σ43 := hw44.1
      have hJ46 : J8 σ43 := hw44.2.1
      refine lv_iconst (v := 1) hx hb dX0_addTone_92 (by decide) ?_
      exact W.zret (v := 1) hx hb hr rfl (fun tS ht hW => ⟨⟨1, σ43, rfl, ⟨Fr.tr (Fr.tr (Fr.tr (Fr.tr (Fr.tr (Fr.tr (Fr.rf) (sA_f eσ20) (fN_O mem0)) hF25 (fO_sub (fun _ q => q))) hF30 (fO_sub (fun _ q => q))) hF35 (fO_sub (fun _ q => q))) hF40 (fO_sub (fun _ q => q))) hF45 (fO_sub (fun _ q => q)), hJ46, (show (0 : Int) ≤ (1 : Int32).toInt ∧ (1 : Int32).toInt ≤ 1 from (by have z1 : (1 : Int32).toInt = 1 := (by decide); omega)), trivial⟩, (show va_P D clz (WD8 cy g σ43) tS.heap by rw [ht]; exact hP)⟩, hS.F ht⟩) hS.2.2 dX0_addTone_93
    ·
      have k47 := nlt32 c13
      refine lv_iconst (v := 0) hx hb dX0_addTone_26 (by decide) ?_
      exact W.zret (v := 0) hx hb hr rfl (fun tS ht hW => ⟨⟨0, σ, rfl, ⟨Fr.rf, hJ, (show (0 : Int) ≤ (0 : Int32).toInt ∧ (0 : Int32).toInt ≤ 1 from (by have z0 : (0 : Int32).toInt = 0 := (by decide); omega)), trivial⟩, (show va_P D clz (WD8 cy g σ) tS.heap by rw [ht]; exact hP)⟩, hS.F ht⟩) hS.2.2 dX0_addTone_27

