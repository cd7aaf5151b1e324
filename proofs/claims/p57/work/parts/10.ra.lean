theorem q1552 : Cond.code yX9_in cX9_in 6 (some .boolean) ∈ lw_g := lw_gm (List.mem_of_getElem? (i := 1552) (by decide +kernel)) rfl
theorem dX9_in_0 : decode cX9_in 0 = .ok (.lload_n 0, 1) := by decide +kernel
theorem dX9_in_1 : decode cX9_in 1 = .ok (.lload_n 2, 1) := by decide +kernel
theorem dX9_in_2 : decode cX9_in 2 = .ok (.lcmp, 1) := by decide +kernel
theorem dX9_in_3 : decode cX9_in 3 = .ok (.ifCond .lt 14, 3) := by decide +kernel
theorem dX9_in_6 : decode cX9_in 6 = .ok (.lload_n 0, 1) := by decide +kernel
theorem dX9_in_7 : decode cX9_in 7 = .ok (.lload 4, 2) := by decide +kernel
theorem dX9_in_9 : decode cX9_in 9 = .ok (.lcmp, 1) := by decide +kernel
theorem dX9_in_10 : decode cX9_in 10 = .ok (.ifCond .gt 7, 3) := by decide +kernel
theorem dX9_in_13 : decode cX9_in 13 = .ok (.iconst 1, 1) := by decide +kernel
theorem dX9_in_14 : decode cX9_in 14 = .ok (.goto 4, 3) := by decide +kernel
theorem dX9_in_17 : decode cX9_in 17 = .ok (.iconst 0, 1) := by decide +kernel
theorem dX9_in_18 : decode cX9_in 18 = .ok (.ireturn, 1) := by decide +kernel
set_option maxHeartbeats 4000000 in
set_option maxRecDepth 100000 in
theorem m_X9_in (l : Launch) (D : va_G) (cy : Nat → ClassId) (g : Nat → Nat) (σ : ST) (p0 : Int64) (p2 : Int64) (p4 : Int64) (sz : Nat) (hJ : J9 (σ 9))  : Met l yX9_in (ww yX9_in cX9_in 6 (some .boolean)) ({ frames := 1, cells := 0, slots := 0, locals := 64 }) (va_Pc [.long p0, .long p2, .long p4] (pr9 D cy g σ sz)) (qi9 D cy g sz (fun r τ => τ = σ ∧ ((0 : Int) ≤ r.toInt ∧ r.toInt ≤ 1) ∧ ((r.toInt = 1 ∧ p2.toInt ≤ p0.toInt ∧ p0.toInt ≤ p4.toInt) ∨ (r.toInt = 0 ∧ ¬ (p2.toInt ≤ p0.toInt ∧ p0.toInt ≤ p4.toInt))) ∧ True)) 0 0 (A9 cy g sz) := by
  refine Met.ofW (cc := cX9_in) (maxL := 6) (ret := (some .boolean)) (by decide) rfl ?_
  intro p e s m args below meth c s₁ B hml hv
  obtain ⟨rfl, hsz, hP, hK, hD0, hC⟩ := hv
  have hx := B.exec
  have hb := B.bytes
  have hr := B.returns
  have hts := hts_g (atoms_spec (ws := ww yX9_in cX9_in 6 (some .boolean)) B.pre)
  have hown : s.vm.findClass RX9 = some m.cls := findClass_of_methodNamed B.named
  have hlocks := B.notSynchronized
  clear B
  subst hsz
  have hD := fun τ => A9_D (sz := s.heap.size) hD0 τ
  clear hD0
  have hS : va_S (A9 cy g s.heap.size) s.heap s.heap [] := va_S.rf
  have hl := lv_entry ([.long p0, .long p2, .long p4]) (n := 6) (Nat.le_of_ble_eq_true rfl)
  rw [lg_entry_eq]
  generalize (lg_sl ([.long p0, .long p2, .long p4]) ++ List.replicate (6 - (lg_sl ([.long p0, .long p2, .long p4])).length) Slot.unset).toArray = ls at hl ⊢
  have hl : lv_has ls 6 [(0, .long p0), (2, .long p2), (4, .long p4)] := hl
  refine lv_lload_n hx hb dX9_in_0 rfl (lv_at hl 0 rfl) ?_
  refine lv_lload_n hx hb dX9_in_1 rfl (lv_at hl 1 rfl) ?_
  refine W.lcmp hx hb dX9_in_2 ?_
  refine lv_if_lt (tgt := 17) hx hb dX9_in_3 (by decide) (fun c1 => ?_) (fun c1 => ?_)
  ·
    have k2 := plt64 ((lg_cmp_lt p0 p2).mp c1)
    refine lv_iconst (v := 0) hx hb dX9_in_17 (by decide) ?_
    exact W.zret (v := 0) hx hb hr rfl (fun tS ht hW => ⟨⟨0, σ, rfl, ⟨rfl, (show (0 : Int) ≤ (0 : Int32).toInt ∧ (0 : Int32).toInt ≤ 1 from (by have z0 : (0 : Int32).toInt = 0 := (by decide); omega)), (show ((0 : Int32).toInt = 1 ∧ p2.toInt ≤ p0.toInt ∧ p0.toInt ≤ p4.toInt) ∨ ((0 : Int32).toInt = 0 ∧ ¬ (p2.toInt ≤ p0.toInt ∧ p0.toInt ≤ p4.toInt)) from (by have f0 := k2; have z0 : (0 : Int32).toInt = 0 := (by decide); omega)), trivial⟩, (show va_P D clz (WD9 cy g σ) tS.heap by rw [ht]; exact hP)⟩, hS.F ht⟩) hS.2.2 dX9_in_18
  ·
    have k3 := nlt64 (fun q => c1 ((lg_cmp_lt p0 p2).mpr q))
    refine lv_lload_n hx hb dX9_in_6 rfl (lv_at hl 0 rfl) ?_
    refine lv_lload hx hb dX9_in_7 (lv_at hl 2 rfl) ?_
    refine W.lcmp hx hb dX9_in_9 ?_
    refine lv_if_gt (tgt := 17) hx hb dX9_in_10 (by decide) (fun c4 => ?_) (fun c4 => ?_)
    ·
      have k5 := plt64 ((lg_cmp_gt p0 p4).mp c4)
      refine lv_iconst (v := 0) hx hb dX9_in_17 (by decide) ?_
      exact W.zret (v := 0) hx hb hr rfl (fun tS ht hW => ⟨⟨0, σ, rfl, ⟨rfl, (show (0 : Int) ≤ (0 : Int32).toInt ∧ (0 : Int32).toInt ≤ 1 from (by have z0 : (0 : Int32).toInt = 0 := (by decide); omega)), (show ((0 : Int32).toInt = 1 ∧ p2.toInt ≤ p0.toInt ∧ p0.toInt ≤ p4.toInt) ∨ ((0 : Int32).toInt = 0 ∧ ¬ (p2.toInt ≤ p0.toInt ∧ p0.toInt ≤ p4.toInt)) from (by have f0 := k3; have f1 := k5; have z0 : (0 : Int32).toInt = 0 := (by decide); omega)), trivial⟩, (show va_P D clz (WD9 cy g σ) tS.heap by rw [ht]; exact hP)⟩, hS.F ht⟩) hS.2.2 dX9_in_18
    ·
      have k6 := nlt64 (fun q => c4 ((lg_cmp_gt p0 p4).mpr q))
      refine lv_iconst (v := 1) hx hb dX9_in_13 (by decide) ?_
      refine lv_goto (tgt := 18) hx hb dX9_in_14 (by decide) ?_
      exact W.zret (v := 1) hx hb hr rfl (fun tS ht hW => ⟨⟨1, σ, rfl, ⟨rfl, (show (0 : Int) ≤ (1 : Int32).toInt ∧ (1 : Int32).toInt ≤ 1 from (by have z1 : (1 : Int32).toInt = 1 := (by decide); omega)), (show ((1 : Int32).toInt = 1 ∧ p2.toInt ≤ p0.toInt ∧ p0.toInt ≤ p4.toInt) ∨ ((1 : Int32).toInt = 0 ∧ ¬ (p2.toInt ≤ p0.toInt ∧ p0.toInt ≤ p4.toInt)) from (by have f0 := k3; have f1 := k6; have z1 : (1 : Int32).toInt = 1 := (by decide); omega)), trivial⟩, (show va_P D clz (WD9 cy g σ) tS.heap by rw [ht]; exact hP)⟩, hS.F ht⟩) hS.2.2 dX9_in_18

theorem q1548 : Cond.code yX9_isSlot cX9_isSlot 1 (some .boolean) ∈ lw_g := lw_gm (List.mem_of_getElem? (i := 1548) (by decide +kernel)) rfl
theorem q1549 : Cond.constantLong RX9 132 (3) ∈ lw_g := lw_gm (List.mem_of_getElem? (i := 1549) (by decide +kernel)) rfl
theorem q1550 : Cond.methodLink RX9 134 yX9_in ∈ lw_g := lw_gm (List.mem_of_getElem? (i := 1550) (by decide +kernel)) rfl
theorem q1551 : Cond.static yX9_in ∈ lw_g := lw_gm (List.mem_of_getElem? (i := 1551) (by decide +kernel)) rfl
theorem q134 : Cond.initialized RX9 ∈ lw_g := lw_gm (List.mem_of_getElem? (i := 134) (by decide +kernel)) rfl
theorem dX9_isSlot_0 : decode cX9_isSlot 0 = .ok (.iload_n 0, 1) := by decide +kernel
theorem dX9_isSlot_1 : decode cX9_isSlot 1 = .ok (.i2l, 1) := by decide +kernel
theorem dX9_isSlot_2 : decode cX9_isSlot 2 = .ok (.lconst 0, 1) := by decide +kernel
theorem dX9_isSlot_3 : decode cX9_isSlot 3 = .ok (.ldc2_w 132, 3) := by decide +kernel
theorem dX9_isSlot_6 : decode cX9_isSlot 6 = .ok (.invokestatic 134, 3) := by decide +kernel
theorem dX9_isSlot_9 : decode cX9_isSlot 9 = .ok (.ireturn, 1) := by decide +kernel
set_option maxHeartbeats 4000000 in
set_option maxRecDepth 100000 in
theorem m_X9_isSlot (l : Launch) (D : va_G) (cy : Nat → ClassId) (g : Nat → Nat) (σ : ST) (p0 : Int32) (sz : Nat) (hJ : J9 (σ 9))  : Met l yX9_isSlot (ww yX9_isSlot cX9_isSlot 1 (some .boolean)) ({ frames := 2, cells := 0, slots := 0, locals := 128 }) (va_Pc [.int p0] (pr9 D cy g σ sz)) (qi9 D cy g sz (fun r τ => τ = σ ∧ ((0 : Int) ≤ r.toInt ∧ r.toInt ≤ 1) ∧ ((r.toInt = 0) ∨ ((0 : Int) ≤ p0.toInt ∧ p0.toInt ≤ 3)) ∧ (r.toInt = 1 ∨ p0.toInt < 0 ∨ 3 < p0.toInt) ∧ True)) 0 0 (A9 cy g sz) := by
  refine Met.ofW (cc := cX9_isSlot) (maxL := 1) (ret := (some .boolean)) (by decide) rfl ?_
  intro p e s m args below meth c s₁ B hml hv
  obtain ⟨rfl, hsz, hP, hK, hD0, hC⟩ := hv
  have hx := B.exec
  have hb := B.bytes
  have hr := B.returns
  have hts := hts_g (atoms_spec (ws := ww yX9_isSlot cX9_isSlot 1 (some .boolean)) B.pre)
  have hown : s.vm.findClass RX9 = some m.cls := findClass_of_methodNamed B.named
  have hlocks := B.notSynchronized
  clear B
  subst hsz
  have hD := fun τ => A9_D (sz := s.heap.size) hD0 τ
  clear hD0
  have hS : va_S (A9 cy g s.heap.size) s.heap s.heap [] := va_S.rf
  have hl := lv_entry ([.int p0]) (n := 1) (Nat.le_of_ble_eq_true rfl)
  rw [lg_entry_eq]
  generalize (lg_sl ([.int p0]) ++ List.replicate (1 - (lg_sl ([.int p0])).length) Slot.unset).toArray = ls at hl ⊢
  have hl : lv_has ls 1 [(0, .int p0)] := hl
  refine lv_iload_n hx hb dX9_isSlot_0 rfl (lv_at hl 0 rfl) ?_
  refine lv_i2l (v := p0.toInt64) hx hb dX9_isSlot_1 rfl ?_
  refine lv_lconst (v := 0) hx hb dX9_isSlot_2 (by decide) ?_
  refine lv_ldc2 (v := 3) hx hb hown (hts _ q1549) dX9_isSlot_3 ?_
  refine va_calli (va_runS (As := [.long p0.toInt64, .long 0, .long 3]) (rest := []) ⟨hx, hb, hml, hown, hts⟩ (m_X9_in l D cy g σ p0.toInt64 (0) (3) _ hJ ) (va_cwS 3 hts (gd_S q1550 q1551 q134 q1552) rfl rfl rfl (by decide +kernel) ⟨Nat.le_of_ble_eq_true rfl, Nat.le_of_ble_eq_true rfl⟩) (ps9 hP hK hD hC hS) rfl rfl hl.1 rfl (lv_room (Nat.le_of_ble_eq_true rfl)) dX9_isSlot_6 ⟨Nat.le_of_ble_eq_true rfl, Nat.le_of_ble_eq_true rfl⟩) hS (fun q _ h => up9 hS q h) (up9 hS) (fun r1 σ2 tS H1 locs ht hvm hw3 hB hz1 hk1 hS => ?_)
  have hP : va_P D clz (WD9 cy g σ2) H1 := by rw [← ht]; exact hB
  clear hB hz1 hk1 hvm ht
  generalize H1 = H at hP hS ⊢
  have hw3E : σ = σ2 := (hw3.1).symm
  subst hw3E
  have b4 : (0 : Int) ≤ r1.toInt ∧ r1.toInt ≤ 1 := hw3.2.1
  have b5 : (r1.toInt = 1 ∧ (0 : Int64).toInt ≤ p0.toInt64.toInt ∧ p0.toInt64.toInt ≤ (3 : Int64).toInt) ∨ (r1.toInt = 0 ∧ ¬ ((0 : Int64).toInt ≤ p0.toInt64.toInt ∧ p0.toInt64.toInt ≤ (3 : Int64).toInt)) := hw3.2.2.1
  exact W.zret (v := r1) hx hb hr (nrZ (by have f0 := b4; have f1 := b5; have f2 := t64 (a := p0); have f3 := rg32 p0; have g0 := rg32 p0; have g2 := rg32 r1; have zl0 : (0 : Int64).toInt = 0 := (by decide); have zl3 : (3 : Int64).toInt = 3 := (by decide); have w8 := t64 (a := p0); omega)) (fun tS ht hW => ⟨⟨r1, σ, rfl, ⟨rfl, (show (0 : Int) ≤ r1.toInt ∧ r1.toInt ≤ 1 from (by have f0 := b4; have f1 := b5; have f2 := t64 (a := p0); have f3 := rg32 p0; have g0 := rg32 p0; have g2 := rg32 r1; have zl0 : (0 : Int64).toInt = 0 := (by decide); have zl3 : (3 : Int64).toInt = 3 := (by decide); have w8 := t64 (a := p0); omega)), (show (r1.toInt = 0) ∨ ((0 : Int) ≤ p0.toInt ∧ p0.toInt ≤ 3) from (by have f0 := t64 (a := p0); have f1 := rg32 p0; have f2 := b4; have f3 := b5; have g0 := rg32 p0; have g2 := rg32 r1; have zl0 : (0 : Int64).toInt = 0 := (by decide); have zl3 : (3 : Int64).toInt = 3 := (by decide); have w8 := t64 (a := p0); omega)), (show r1.toInt = 1 ∨ p0.toInt < 0 ∨ 3 < p0.toInt from (by have f0 := t64 (a := p0); have f1 := rg32 p0; have f2 := b4; have f3 := b5; have g0 := rg32 p0; have g2 := rg32 r1; have zl0 : (0 : Int64).toInt = 0 := (by decide); have zl3 : (3 : Int64).toInt = 3 := (by decide); have w8 := t64 (a := p0); omega)), trivial⟩, (show va_P D clz (WD9 cy g σ) tS.heap by rw [ht]; exact hP)⟩, hS.F ht⟩) hS.2.2 dX9_isSlot_9

theorem q1599 : Cond.code yX9_isByte cX9_isByte 4 (some .boolean) ∈ lw_g := lw_gm (List.mem_of_getElem? (i := 1599) (by decide +kernel)) rfl
theorem q1366 : Cond.fieldLink RX9 146 "LipsAndSlidesModel" "taped" "I" ∈ lw_g := lw_gm (List.mem_of_getElem? (i := 1366) (by decide +kernel)) rfl
theorem q1365 : Cond.fieldLink RX9 23 "LipsAndSlidesModel" "tape" "[B" ∈ lw_g := lw_gm (List.mem_of_getElem? (i := 1365) (by decide +kernel)) rfl
theorem dX9_isByte_0 : decode cX9_isByte 0 = .ok (.iload_n 1, 1) := by decide +kernel
theorem dX9_isByte_1 : decode cX9_isByte 1 = .ok (.aload_n 0, 1) := by decide +kernel
theorem dX9_isByte_2 : decode cX9_isByte 2 = .ok (.getfield 146, 3) := by decide +kernel
theorem dX9_isByte_5 : decode cX9_isByte 5 = .ok (.if_icmp .ge 27, 3) := by decide +kernel
theorem dX9_isByte_8 : decode cX9_isByte 8 = .ok (.aload_n 0, 1) := by decide +kernel
theorem dX9_isByte_9 : decode cX9_isByte 9 = .ok (.getfield 23, 3) := by decide +kernel
theorem dX9_isByte_12 : decode cX9_isByte 12 = .ok (.iload_n 1, 1) := by decide +kernel
theorem dX9_isByte_13 : decode cX9_isByte 13 = .ok (.baload, 1) := by decide +kernel
theorem dX9_isByte_14 : decode cX9_isByte 14 = .ok (.iload_n 2, 1) := by decide +kernel
theorem dX9_isByte_15 : decode cX9_isByte 15 = .ok (.if_icmp .lt 17, 3) := by decide +kernel
theorem dX9_isByte_18 : decode cX9_isByte 18 = .ok (.aload_n 0, 1) := by decide +kernel
theorem dX9_isByte_19 : decode cX9_isByte 19 = .ok (.getfield 23, 3) := by decide +kernel
theorem dX9_isByte_22 : decode cX9_isByte 22 = .ok (.iload_n 1, 1) := by decide +kernel
theorem dX9_isByte_23 : decode cX9_isByte 23 = .ok (.baload, 1) := by decide +kernel
theorem dX9_isByte_24 : decode cX9_isByte 24 = .ok (.iload_n 3, 1) := by decide +kernel
theorem dX9_isByte_25 : decode cX9_isByte 25 = .ok (.if_icmp .gt 7, 3) := by decide +kernel
theorem dX9_isByte_28 : decode cX9_isByte 28 = .ok (.iconst 1, 1) := by decide +kernel
theorem dX9_isByte_29 : decode cX9_isByte 29 = .ok (.goto 4, 3) := by decide +kernel
theorem dX9_isByte_32 : decode cX9_isByte 32 = .ok (.iconst 0, 1) := by decide +kernel
theorem dX9_isByte_33 : decode cX9_isByte 33 = .ok (.ireturn, 1) := by decide +kernel
set_option maxHeartbeats 4000000 in
set_option maxRecDepth 100000 in
theorem m_X9_isByte (l : Launch) (D : va_G) (cy : Nat → ClassId) (g : Nat → Nat) (σ : ST) (p1 : Int32) (p2 : Int32) (p3 : Int32) (sz : Nat) (hJ : J9 (σ 9)) (h0 : (0 : Int) ≤ p1.toInt ∧ p1.toInt ≤ 2000) : Met l yX9_isByte (ww yX9_isByte cX9_isByte 4 (some .boolean)) ({ frames := 1, cells := 0, slots := 0, locals := 64 }) (va_Pc [.ref (g 60), .int p1, .int p2, .int p3] (pr9 D cy g σ sz)) (qi9 D cy g sz (fun r τ => τ = σ ∧ ((0 : Int) ≤ r.toInt ∧ r.toInt ≤ 1) ∧ ((r.toInt = 0) ∨ (p1.toInt < ((σ 9).1 6).toInt)) ∧ True)) 0 0 (A9 cy g sz) := by
  refine Met.ofW (cc := cX9_isByte) (maxL := 4) (ret := (some .boolean)) (by decide) rfl ?_
  intro p e s m args below meth c s₁ B hml hv
  obtain ⟨rfl, hsz, hP, hK, hD0, hC⟩ := hv
  have hx := B.exec
  have hb := B.bytes
  have hr := B.returns
  have hts := hts_g (atoms_spec (ws := ww yX9_isByte cX9_isByte 4 (some .boolean)) B.pre)
  have hown : s.vm.findClass RX9 = some m.cls := findClass_of_methodNamed B.named
  have hlocks := B.notSynchronized
  clear B
  subst hsz
  have hD := fun τ => A9_D (sz := s.heap.size) hD0 τ
  clear hD0
  have hS : va_S (A9 cy g s.heap.size) s.heap s.heap [] := va_S.rf
  have hl := lv_entry ([.ref (g 60), .int p1, .int p2, .int p3]) (n := 4) (Nat.le_of_ble_eq_true rfl)
  rw [lg_entry_eq]
  generalize (lg_sl ([.ref (g 60), .int p1, .int p2, .int p3]) ++ List.replicate (4 - (lg_sl ([.ref (g 60), .int p1, .int p2, .int p3])).length) Slot.unset).toArray = ls at hl ⊢
  have hl : lv_has ls 4 [(0, .ref (g 60)), (1, .int p1), (2, .int p2), (3, .int p3)] := hl
  refine lv_iload_n hx hb dX9_isByte_0 rfl (lv_at hl 1 rfl) ?_
  refine lv_aload_n hx hb dX9_isByte_1 rfl (lv_at hl 0 rfl) ?_
  refine g9_6 (x := ((σ 9).1 6)) hx hb hts hown hK hP (rfl) (hts _ q1366) dX9_isByte_2 ?_
  refine lv_icmp_ge (tgt := 32) hx hb dX9_isByte_5 (by decide) (fun c1 => ?_) (fun c1 => ?_)
  ·
    have k2 := ple32 c1
    refine lv_iconst (v := 0) hx hb dX9_isByte_32 (by decide) ?_
    exact W.zret (v := 0) hx hb hr rfl (fun tS ht hW => ⟨⟨0, σ, rfl, ⟨rfl, (show (0 : Int) ≤ (0 : Int32).toInt ∧ (0 : Int32).toInt ≤ 1 from (by have z0 : (0 : Int32).toInt = 0 := (by decide); omega)), (show ((0 : Int32).toInt = 0) ∨ (p1.toInt < ((σ 9).1 6).toInt) from (by have f0 := j9_6 hJ rfl; have f1 := h0; have f2 := k2; have g1 := rg32 p1; have z0 : (0 : Int32).toInt = 0 := (by decide); omega)), trivial⟩, (show va_P D clz (WD9 cy g σ) tS.heap by rw [ht]; exact hP)⟩, hS.F ht⟩) hS.2.2 dX9_isByte_33
  ·
    have k3 := nle32 c1
    refine lv_aload_n hx hb dX9_isByte_8 rfl (lv_at hl 0 rfl) ?_
    refine g9_5 hx hb hts hown hK hP (hts _ q1365) dX9_isByte_9 ?_
    refine lv_iload_n hx hb dX9_isByte_12 rfl (lv_at hl 1 rfl) ?_
    obtain ⟨x4, ex4⟩ : ∃ z, (σ 9).2.2.1 5 p1.toInt.toNat = z := ⟨_, rfl⟩
    refine l9_5 (x := x4) hx hb hK hP (vpo (by have f0 := h0; have f1 := k3; have f2 := j9_6 hJ rfl; have g0 := rg32 p1; omega)) ex4 dX9_isByte_13 ?_
    refine lv_iload_n hx hb dX9_isByte_14 rfl (lv_at hl 2 rfl) ?_
    refine lv_icmp_lt (tgt := 32) hx hb dX9_isByte_15 (by decide) (fun c5 => ?_) (fun c5 => ?_)
    ·
      have k6 := plt32 c5
      refine lv_iconst (v := 0) hx hb dX9_isByte_32 (by decide) ?_
      exact W.zret (v := 0) hx hb hr rfl (fun tS ht hW => ⟨⟨0, σ, rfl, ⟨rfl, (show (0 : Int) ≤ (0 : Int32).toInt ∧ (0 : Int32).toInt ≤ 1 from (by have z0 : (0 : Int32).toInt = 0 := (by decide); omega)), (show ((0 : Int32).toInt = 0) ∨ (p1.toInt < ((σ 9).1 6).toInt) from (by have f0 := j9_6 hJ rfl; have f1 := h0; have f2 := k3; have g1 := rg32 p1; have z0 : (0 : Int32).toInt = 0 := (by decide); omega)), trivial⟩, (show va_P D clz (WD9 cy g σ) tS.heap by rw [ht]; exact hP)⟩, hS.F ht⟩) hS.2.2 dX9_isByte_33
    ·
      have k7 := nlt32 c5
      refine lv_aload_n hx hb dX9_isByte_18 rfl (lv_at hl 0 rfl) ?_
      refine g9_5 hx hb hts hown hK hP (hts _ q1365) dX9_isByte_19 ?_
      refine lv_iload_n hx hb dX9_isByte_22 rfl (lv_at hl 1 rfl) ?_
      refine l9_5 (x := x4) hx hb hK hP (vpo (by have f0 := h0; have f1 := k3; have f2 := j9_6 hJ rfl; have g0 := rg32 p1; omega)) ex4 dX9_isByte_23 ?_
      refine lv_iload_n hx hb dX9_isByte_24 rfl (lv_at hl 3 rfl) ?_
      refine lv_icmp_gt (tgt := 32) hx hb dX9_isByte_25 (by decide) (fun c8 => ?_) (fun c8 => ?_)
      ·
        have k9 := plt32 c8
        refine lv_iconst (v := 0) hx hb dX9_isByte_32 (by decide) ?_
        exact W.zret (v := 0) hx hb hr rfl (fun tS ht hW => ⟨⟨0, σ, rfl, ⟨rfl, (show (0 : Int) ≤ (0 : Int32).toInt ∧ (0 : Int32).toInt ≤ 1 from (by have z0 : (0 : Int32).toInt = 0 := (by decide); omega)), (show ((0 : Int32).toInt = 0) ∨ (p1.toInt < ((σ 9).1 6).toInt) from (by have f0 := j9_6 hJ rfl; have f1 := h0; have f2 := k3; have g1 := rg32 p1; have z0 : (0 : Int32).toInt = 0 := (by decide); omega)), trivial⟩, (show va_P D clz (WD9 cy g σ) tS.heap by rw [ht]; exact hP)⟩, hS.F ht⟩) hS.2.2 dX9_isByte_33
      ·
        have k10 := nlt32 c8
        refine lv_iconst (v := 1) hx hb dX9_isByte_28 (by decide) ?_
        refine lv_goto (tgt := 33) hx hb dX9_isByte_29 (by decide) ?_
        exact W.zret (v := 1) hx hb hr rfl (fun tS ht hW => ⟨⟨1, σ, rfl, ⟨rfl, (show (0 : Int) ≤ (1 : Int32).toInt ∧ (1 : Int32).toInt ≤ 1 from (by have z1 : (1 : Int32).toInt = 1 := (by decide); omega)), (show ((1 : Int32).toInt = 0) ∨ (p1.toInt < ((σ 9).1 6).toInt) from (by have f0 := j9_6 hJ rfl; have f1 := h0; have f2 := k3; have g1 := rg32 p1; have z1 : (1 : Int32).toInt = 1 := (by decide); omega)), trivial⟩, (show va_P D clz (WD9 cy g σ) tS.heap by rw [ht]; exact hP)⟩, hS.F ht⟩) hS.2.2 dX9_isByte_33

theorem q1571 : Cond.code yX9_four cX9_four 3 none ∈ lw_g := lw_gm (List.mem_of_getElem? (i := 1571) (by decide +kernel)) rfl
theorem dX9_four_0 : decode cX9_four 0 = .ok (.bipush 24, 2) := by decide +kernel
theorem dX9_four_2 : decode cX9_four 2 = .ok (.istore_n 2, 1) := by decide +kernel
theorem dX9_four_3 : decode cX9_four 3 = .ok (.iload_n 2, 1) := by decide +kernel
theorem dX9_four_4 : decode cX9_four 4 = .ok (.ifCond .lt 32, 3) := by decide +kernel
theorem dX9_four_7 : decode cX9_four 7 = .ok (.aload_n 0, 1) := by decide +kernel
theorem dX9_four_8 : decode cX9_four 8 = .ok (.getfield 23, 3) := by decide +kernel
theorem dX9_four_11 : decode cX9_four 11 = .ok (.aload_n 0, 1) := by decide +kernel
theorem dX9_four_12 : decode cX9_four 12 = .ok (.getfield 146, 3) := by decide +kernel
theorem dX9_four_15 : decode cX9_four 15 = .ok (.iload_n 1, 1) := by decide +kernel
theorem dX9_four_16 : decode cX9_four 16 = .ok (.iload_n 2, 1) := by decide +kernel
theorem dX9_four_17 : decode cX9_four 17 = .ok (.ishr, 1) := by decide +kernel
theorem dX9_four_18 : decode cX9_four 18 = .ok (.i2b, 1) := by decide +kernel
theorem dX9_four_19 : decode cX9_four 19 = .ok (.bastore, 1) := by decide +kernel
theorem dX9_four_20 : decode cX9_four 20 = .ok (.aload_n 0, 1) := by decide +kernel
theorem dX9_four_21 : decode cX9_four 21 = .ok (.dup, 1) := by decide +kernel
theorem dX9_four_22 : decode cX9_four 22 = .ok (.getfield 146, 3) := by decide +kernel
theorem dX9_four_25 : decode cX9_four 25 = .ok (.iconst 1, 1) := by decide +kernel
theorem dX9_four_26 : decode cX9_four 26 = .ok (.iadd, 1) := by decide +kernel
theorem dX9_four_27 : decode cX9_four 27 = .ok (.putfield 146, 3) := by decide +kernel
theorem dX9_four_30 : decode cX9_four 30 = .ok (.iinc 2 (-8), 3) := by decide +kernel
theorem dX9_four_33 : decode cX9_four 33 = .ok (.goto (-30), 3) := by decide +kernel
theorem dX9_four_36 : decode cX9_four 36 = .ok (.return_, 1) := by decide +kernel
set_option maxHeartbeats 4000000 in
set_option maxRecDepth 100000 in
theorem m_X9_four (l : Launch) (D : va_G) (cy : Nat → ClassId) (g : Nat → Nat) (σ : ST) (p1 : Int32) (sz : Nat) (hJ : J9 (σ 9)) (h0 : ((σ 9).1 6).toInt ≤ 1996) : Met l yX9_four (ww yX9_four cX9_four 3 none) ({ frames := 1, cells := 0, slots := 0, locals := 64 }) (va_Pc [.ref (g 60), .int p1] (pr9 D cy g σ sz)) (qv9 D cy g sz (fun τ => Fr (fL [5, 6]) σ τ ∧ J9 (τ 9) ∧ (((τ 9).1 6).toInt = ((σ 9).1 6).toInt + 4) ∧ True)) 0 0 (A9 cy g sz) := by
  refine Met.ofW (cc := cX9_four) (maxL := 3) (ret := none) (by decide) rfl ?_
  intro p e s m args below meth c s₁ B hml hv
  obtain ⟨rfl, hsz, hP, hK, hD0, hC⟩ := hv
  have hx := B.exec
  have hb := B.bytes
  have hr := B.returns
  have hts := hts_g (atoms_spec (ws := ww yX9_four cX9_four 3 none) B.pre)
  have hown : s.vm.findClass RX9 = some m.cls := findClass_of_methodNamed B.named
  have hlocks := B.notSynchronized
  clear B
  subst hsz
  have hD := fun τ => A9_D (sz := s.heap.size) hD0 τ
  clear hD0
  have hS : va_S (A9 cy g s.heap.size) s.heap s.heap [] := va_S.rf
  have hl := lv_entry ([.ref (g 60), .int p1]) (n := 3) (Nat.le_of_ble_eq_true rfl)
  rw [lg_entry_eq]
  generalize (lg_sl ([.ref (g 60), .int p1]) ++ List.replicate (3 - (lg_sl ([.ref (g 60), .int p1])).length) Slot.unset).toArray = ls at hl ⊢
  have hl : lv_has ls 3 [(0, .ref (g 60)), (1, .int p1)] := hl
  refine lv_bipush (v := 24) hx hb dX9_four_0 (by decide) ?_
  refine lv_istore_n (lv' := [(2, .int 24), (0, .ref (g 60)), (1, .int p1)]) hx hb dX9_four_2 rfl hl (by decide) rfl (fun ls hl => ?_)
  refine loop9 3 3 (fun x : LZ => [(2, .int (x.2.1 0)), (0, .ref (g 60)), (1, .int p1)]) (fun x : LZ => (Fr (fL [5, 6]) σ x.1) ∧ (J9 (x.1 9)) ∧ ((-8 : Int) ≤ (x.2.1 0).toInt ∧ (x.2.1 0).toInt ≤ 24) ∧ (8 * ((x.1 9).1 6).toInt + (x.2.1 0).toInt = 8 * ((σ 9).1 6).toInt + 24) ∧ True) (fun x : LZ => ((x.2.1 0).toInt - (-9 : Int)).toNat) ?_ (σ, lf [24], lg []) ⟨Fr.rf, hJ, (show (-8 : Int) ≤ (24 : Int32).toInt ∧ (24 : Int32).toInt ≤ 24 from (by have z24 : (24 : Int32).toInt = 24 := (by decide); omega)), (show 8 * ((σ 9).1 6).toInt + (24 : Int32).toInt = 8 * ((σ 9).1 6).toInt + 24 from (by have f0 := j9_6 hJ rfl; have f1 := h0; have z24 : (24 : Int32).toInt = 24 := (by decide); omega)), trivial⟩ _ _ _ hP hS (lv_sub hl [0, 1, 2] rfl)
  intro y3 hI2 nl1 H locs ls hP hS hl
  obtain ⟨σ4, eσ4⟩ : ∃ z, z = y3.1 := ⟨_, rfl⟩
  rw [← eσ4] at hP hI2
  have hF5 : Fr (fL [5, 6]) σ σ4 := hI2.1
  have hJ6 : J9 (σ4 9) := hI2.2.1
  have b7 : (-8 : Int) ≤ (y3.2.1 0).toInt ∧ (y3.2.1 0).toInt ≤ 24 := hI2.2.2.1
  have b8 : 8 * ((σ4 9).1 6).toInt + (y3.2.1 0).toInt = 8 * ((σ 9).1 6).toInt + 24 := hI2.2.2.2.1
  have hl : lv_has ls 3 [(2, .int (y3.2.1 0)), (0, .ref (g 60)), (1, .int p1)] := hl
  refine lv_iload_n hx hb dX9_four_3 rfl (lv_at hl 0 rfl) ?_
  refine lv_if_lt (tgt := 36) hx hb dX9_four_4 (by decide) (fun c9 => ?_) (fun c9 => ?_)
  ·
    have k10 := plt32 c9
    exact W.vret hx hb hr (fun tS ht hW => ⟨⟨σ4, rfl, ⟨Fr.tr (Fr.rf) hF5 (fL_sub rfl), hJ6, (show ((σ4 9).1 6).toInt = ((σ 9).1 6).toInt + 4 from (by have f0 := j9_6 hJ6 rfl; have f1 := j9_6 hJ rfl; have f2 := h0; have f3 := b8; have f4 := b7; have f5 := k10; have z0 : (0 : Int32).toInt = 0 := (by decide); omega)), trivial⟩, (show va_P D clz (WD9 cy g σ4) tS.heap by rw [ht]; exact hP)⟩, hS.F ht⟩) hS.2.2 dX9_four_36
  ·
    have k11 := nlt32 c9
    refine lv_aload_n hx hb dX9_four_7 rfl (lv_at hl 1 rfl) ?_
    refine g9_5 hx hb hts hown hK hP (hts _ q1365) dX9_four_8 ?_
    refine lv_aload_n hx hb dX9_four_11 rfl (lv_at hl 1 rfl) ?_
    refine g9_6 (x := ((σ4 9).1 6)) hx hb hts hown hK hP (rfl) (hts _ q1366) dX9_four_12 ?_
    refine lv_iload_n hx hb dX9_four_15 rfl (lv_at hl 2 rfl) ?_
    refine lv_iload_n hx hb dX9_four_16 rfl (lv_at hl 0 rfl) ?_
    refine lv_ishr hx hb dX9_four_17 ?_
    refine lv_topi (fun x12 ex12 => ?_)
    refine lv_i2b hx hb dX9_four_18 rfl ?_
    refine lv_topi (fun x13 ex13 => ?_)
    refine t9_5 hx hb hK hP hD hS (vpo (by have f0 := j9_6 hJ6 rfl; have f1 := b8; have f2 := j9_6 hJ rfl; have f3 := h0; have f4 := b7; have f5 := k11; have z0 : (0 : Int32).toInt = 0 := (by decide); omega)) dX9_four_19 (fun H locs σ14 eσ14 hP hS => ?_)
    have hJ15 : J9 (σ14 9) := hJ6.A eσ14 trivial
    refine lv_aload_n hx hb dX9_four_20 rfl (lv_at hl 1 rfl) ?_
    refine lv_dup hx hb dX9_four_21 rfl ?_
    refine g9_6 (x := ((σ4 9).1 6)) hx hb hts hown hK hP (((sA_f eσ14) 9 6 rfl).1) (hts _ q1366) dX9_four_22 ?_
    refine lv_iconst (v := 1) hx hb dX9_four_25 (by decide) ?_
    refine lv_iadd hx hb dX9_four_26 ?_
    refine lv_topi (fun x16 ex16 => ?_)
    have t17 := addO ex16 (by have f0 := j9_6 hJ6 rfl; have f1 := b8; have f2 := j9_6 hJ rfl; have f3 := h0; have f4 := b7; have f5 := k11; have z0 : (0 : Int32).toInt = 0 := (by decide); have z1 : (1 : Int32).toInt = 1 := (by decide); omega)
    refine p9_6 hx hb hts hown hK hP hD hS (hts _ q1366) dX9_four_27 (fun H locs σ18 eσ18 hP hS => ?_)
    have hJ19 : J9 (σ18 9) := hJ15.I eσ18 (show JI9 6 x16 from (by have f0 := t17; have f1 := j9_6 hJ6 rfl; have f2 := b8; have f3 := j9_6 hJ rfl; have f4 := h0; have f5 := b7; have f6 := k11; have g2 := rg32 x16; have z0 : (0 : Int32).toInt = 0 := (by decide); have z1 : (1 : Int32).toInt = 1 := (by decide); exact ⟨by omega, by omega⟩))
    obtain ⟨x20, ex20⟩ : ∃ y : Int32, y = (y3.2.1 0) + (-8) := ⟨_, rfl⟩
    have t21 := addO ex20 (by have f0 := b7; have f1 := b8; have f2 := k11; have f3 := j9_6 hJ6 rfl; have f4 := j9_6 hJ rfl; have f5 := h0; have f6 := t17; have g2 := rg32 (y3.2.1 0); have zm8 : ((-8) : Int32).toInt = (-8) := (by decide); have z0 : (0 : Int32).toInt = 0 := (by decide); have z1 : (1 : Int32).toInt = 1 := (by decide); omega)
    refine lv_iinc (v := x20) (lv' := [(2, .int x20), (0, .ref (g 60)), (1, .int p1)]) hx hb dX9_four_30 hl (k := 0) rfl (by rw [ex20]; rfl) (by decide) rfl (fun ls hl => ?_)
    refine lv_goto (tgt := 3) hx hb dX9_four_33 (by decide) ?_
    have t22 : (x20.toInt - (-9 : Int)).toNat < ((y3.2.1 0).toInt - (-9 : Int)).toNat := (by have f0 := b7; have f1 := b8; have f2 := k11; have f3 := t21; have f4 := j9_6 hJ6 rfl; have f5 := j9_6 hJ rfl; have f6 := h0; have f7 := t17; have g2 := rg32 (y3.2.1 0); have g3 := rg32 x20; have zm8 : ((-8) : Int32).toInt = (-8) := (by decide); have z0 : (0 : Int32).toInt = 0 := (by decide); have z1 : (1 : Int32).toInt = 1 := (by decide); omega)
    exact nl1 (σ18, lf [x20], lg []) ⟨Fr.tr (Fr.tr (Fr.tr (Fr.rf) hF5 (fL_sub rfl)) (sA_f eσ14) (fN_L rfl)) (sI_f eσ18) (fN_L rfl), hJ19, (show (-8 : Int) ≤ (x20 : Int32).toInt ∧ (x20 : Int32).toInt ≤ 24 from (by have f0 := t21; have f1 := b7; have f2 := b8; have f3 := k11; have f4 := j9_6 hJ6 rfl; have f5 := j9_6 hJ rfl; have f6 := h0; have f7 := t17; have g2 := rg32 x20; have zm8 : ((-8) : Int32).toInt = (-8) := (by decide); have z0 : (0 : Int32).toInt = 0 := (by decide); have z1 : (1 : Int32).toInt = 1 := (by decide); omega)), (show 8 * ((σ18 9).1 6).toInt + x20.toInt = 8 * ((σ 9).1 6).toInt + 24 from (by have f0 := j9_6 hJ rfl; have f1 := j9_6 hJ19 rfl; have f2 := congrArg Int32.toInt (show ((σ18 9).1 6) = x16 from sI_s eσ18); have f3 := h0; have f4 := b8; have f5 := t21; have f6 := j9_6 hJ6 rfl; have f7 := b7; have f8 := k11; have f9 := t17; have g3 := rg32 x20; have zm8 : ((-8) : Int32).toInt = (-8) := (by decide); have z0 : (0 : Int32).toInt = 0 := (by decide); have z1 : (1 : Int32).toInt = 1 := (by decide); omega)), trivial⟩ (show (x20.toInt - (-9 : Int)).toNat < _ from by first | exact t22 | (rw [← eσ4]; exact t22)) _ _ _ hP hS (lv_sub hl [0, 1, 2] rfl)

theorem q1608 : Cond.code yX9_isGood cX9_isGood 1 (some .boolean) ∈ lw_g := lw_gm (List.mem_of_getElem? (i := 1608) (by decide +kernel)) rfl
theorem q1372 : Cond.fieldLink RX9 181 "LipsAndSlidesModel" "bad" "I" ∈ lw_g := lw_gm (List.mem_of_getElem? (i := 1372) (by decide +kernel)) rfl
theorem dX9_isGood_0 : decode cX9_isGood 0 = .ok (.aload_n 0, 1) := by decide +kernel
theorem dX9_isGood_1 : decode cX9_isGood 1 = .ok (.getfield 181, 3) := by decide +kernel
theorem dX9_isGood_4 : decode cX9_isGood 4 = .ok (.ifCond .ne 7, 3) := by decide +kernel
theorem dX9_isGood_7 : decode cX9_isGood 7 = .ok (.iconst 1, 1) := by decide +kernel
theorem dX9_isGood_8 : decode cX9_isGood 8 = .ok (.goto 4, 3) := by decide +kernel
theorem dX9_isGood_11 : decode cX9_isGood 11 = .ok (.iconst 0, 1) := by decide +kernel
theorem dX9_isGood_12 : decode cX9_isGood 12 = .ok (.ireturn, 1) := by decide +kernel
set_option maxHeartbeats 4000000 in
set_option maxRecDepth 100000 in
theorem m_X9_isGood (l : Launch) (D : va_G) (cy : Nat → ClassId) (g : Nat → Nat) (σ : ST)  (sz : Nat) (hJ : J9 (σ 9))  : Met l yX9_isGood (ww yX9_isGood cX9_isGood 1 (some .boolean)) ({ frames := 1, cells := 0, slots := 0, locals := 64 }) (va_Pc [.ref (g 60)] (pr9 D cy g σ sz)) (qi9 D cy g sz (fun r τ => τ = σ ∧ ((0 : Int) ≤ r.toInt ∧ r.toInt ≤ 1) ∧ ((r.toInt = 1 ∧ ((σ 9).1 12).toInt = 0) ∨ (r.toInt = 0 ∧ ¬ ((σ 9).1 12).toInt = 0)) ∧ True)) 0 0 (A9 cy g sz) := by
  refine Met.ofW (cc := cX9_isGood) (maxL := 1) (ret := (some .boolean)) (by decide) rfl ?_
  intro p e s m args below meth c s₁ B hml hv
  obtain ⟨rfl, hsz, hP, hK, hD0, hC⟩ := hv
  have hx := B.exec
  have hb := B.bytes
  have hr := B.returns
  have hts := hts_g (atoms_spec (ws := ww yX9_isGood cX9_isGood 1 (some .boolean)) B.pre)
  have hown : s.vm.findClass RX9 = some m.cls := findClass_of_methodNamed B.named
  have hlocks := B.notSynchronized
  clear B
  subst hsz
  have hD := fun τ => A9_D (sz := s.heap.size) hD0 τ
  clear hD0
  have hS : va_S (A9 cy g s.heap.size) s.heap s.heap [] := va_S.rf
  have hl := lv_entry ([.ref (g 60)]) (n := 1) (Nat.le_of_ble_eq_true rfl)
  rw [lg_entry_eq]
  generalize (lg_sl ([.ref (g 60)]) ++ List.replicate (1 - (lg_sl ([.ref (g 60)])).length) Slot.unset).toArray = ls at hl ⊢
  have hl : lv_has ls 1 [(0, .ref (g 60))] := hl
  refine lv_aload_n hx hb dX9_isGood_0 rfl (lv_at hl 0 rfl) ?_
  refine g9_12 (x := ((σ 9).1 12)) hx hb hts hown hK hP (rfl) (hts _ q1372) dX9_isGood_1 ?_
  refine lv_if_ne (tgt := 11) hx hb dX9_isGood_4 (by decide) (fun c1 => ?_) (fun c1 => ?_)
  ·
    have k2 := neq32 c1
    refine lv_iconst (v := 0) hx hb dX9_isGood_11 (by decide) ?_
    exact W.zret (v := 0) hx hb hr rfl (fun tS ht hW => ⟨⟨0, σ, rfl, ⟨rfl, (show (0 : Int) ≤ (0 : Int32).toInt ∧ (0 : Int32).toInt ≤ 1 from (by have z0 : (0 : Int32).toInt = 0 := (by decide); omega)), (show ((0 : Int32).toInt = 1 ∧ ((σ 9).1 12).toInt = 0) ∨ ((0 : Int32).toInt = 0 ∧ ¬ ((σ 9).1 12).toInt = 0) from (by have f0 := k2; have z0 : (0 : Int32).toInt = 0 := (by decide); omega)), trivial⟩, (show va_P D clz (WD9 cy g σ) tS.heap by rw [ht]; exact hP)⟩, hS.F ht⟩) hS.2.2 dX9_isGood_12
  ·
    have k3 := peq32 c1
    refine lv_iconst (v := 1) hx hb dX9_isGood_7 (by decide) ?_
    refine lv_goto (tgt := 12) hx hb dX9_isGood_8 (by decide) ?_
    exact W.zret (v := 1) hx hb hr rfl (fun tS ht hW => ⟨⟨1, σ, rfl, ⟨rfl, (show (0 : Int) ≤ (1 : Int32).toInt ∧ (1 : Int32).toInt ≤ 1 from (by have z1 : (1 : Int32).toInt = 1 := (by decide); omega)), (show ((1 : Int32).toInt = 1 ∧ ((σ 9).1 12).toInt = 0) ∨ ((1 : Int32).toInt = 0 ∧ ¬ ((σ 9).1 12).toInt = 0) from (by have f0 := k3; have z0 : (0 : Int32).toInt = 0 := (by decide); have z1 : (1 : Int32).toInt = 1 := (by decide); omega)), trivial⟩, (show va_P D clz (WD9 cy g σ) tS.heap by rw [ht]; exact hP)⟩, hS.F ht⟩) hS.2.2 dX9_isGood_12

theorem q1625 : Cond.code yX9_fails cX9_fails 2 none ∈ lw_g := lw_gm (List.mem_of_getElem? (i := 1625) (by decide +kernel)) rfl
theorem q1369 : Cond.fieldLink RX9 160 "LipsAndSlidesModel" "place" "I" ∈ lw_g := lw_gm (List.mem_of_getElem? (i := 1369) (by decide +kernel)) rfl
theorem q1373 : Cond.fieldLink RX9 184 "LipsAndSlidesModel" "badPlace" "I" ∈ lw_g := lw_gm (List.mem_of_getElem? (i := 1373) (by decide +kernel)) rfl
theorem dX9_fails_0 : decode cX9_fails 0 = .ok (.aload_n 0, 1) := by decide +kernel
theorem dX9_fails_1 : decode cX9_fails 1 = .ok (.getfield 181, 3) := by decide +kernel
theorem dX9_fails_4 : decode cX9_fails 4 = .ok (.ifCond .eq 4, 3) := by decide +kernel
theorem dX9_fails_7 : decode cX9_fails 7 = .ok (.return_, 1) := by decide +kernel
theorem dX9_fails_8 : decode cX9_fails 8 = .ok (.aload_n 0, 1) := by decide +kernel
theorem dX9_fails_9 : decode cX9_fails 9 = .ok (.iload_n 1, 1) := by decide +kernel
theorem dX9_fails_10 : decode cX9_fails 10 = .ok (.putfield 181, 3) := by decide +kernel
theorem dX9_fails_13 : decode cX9_fails 13 = .ok (.aload_n 0, 1) := by decide +kernel
theorem dX9_fails_14 : decode cX9_fails 14 = .ok (.aload_n 0, 1) := by decide +kernel
theorem dX9_fails_15 : decode cX9_fails 15 = .ok (.getfield 160, 3) := by decide +kernel
theorem dX9_fails_18 : decode cX9_fails 18 = .ok (.putfield 184, 3) := by decide +kernel
theorem dX9_fails_21 : decode cX9_fails 21 = .ok (.return_, 1) := by decide +kernel
set_option maxHeartbeats 4000000 in
set_option maxRecDepth 100000 in
theorem m_X9_fails (l : Launch) (D : va_G) (cy : Nat → ClassId) (g : Nat → Nat) (σ : ST) (p1 : Int32) (sz : Nat) (hJ : J9 (σ 9)) (h0 : (1 : Int) ≤ p1.toInt ∧ p1.toInt ≤ 3) : Met l yX9_fails (ww yX9_fails cX9_fails 2 none) ({ frames := 1, cells := 0, slots := 0, locals := 64 }) (va_Pc [.ref (g 60), .int p1] (pr9 D cy g σ sz)) (qv9 D cy g sz (fun τ => Fr (fL [12, 13]) σ τ ∧ J9 (τ 9) ∧ (¬ ((τ 9).1 12).toInt = 0) ∧ True)) 0 0 (A9 cy g sz) := by
  refine Met.ofW (cc := cX9_fails) (maxL := 2) (ret := none) (by decide) rfl ?_
  intro p e s m args below meth c s₁ B hml hv
  obtain ⟨rfl, hsz, hP, hK, hD0, hC⟩ := hv
  have hx := B.exec
  have hb := B.bytes
  have hr := B.returns
  have hts := hts_g (atoms_spec (ws := ww yX9_fails cX9_fails 2 none) B.pre)
  have hown : s.vm.findClass RX9 = some m.cls := findClass_of_methodNamed B.named
  have hlocks := B.notSynchronized
  clear B
  subst hsz
  have hD := fun τ => A9_D (sz := s.heap.size) hD0 τ
  clear hD0
  have hS : va_S (A9 cy g s.heap.size) s.heap s.heap [] := va_S.rf
  have hl := lv_entry ([.ref (g 60), .int p1]) (n := 2) (Nat.le_of_ble_eq_true rfl)
  rw [lg_entry_eq]
  generalize (lg_sl ([.ref (g 60), .int p1]) ++ List.replicate (2 - (lg_sl ([.ref (g 60), .int p1])).length) Slot.unset).toArray = ls at hl ⊢
  have hl : lv_has ls 2 [(0, .ref (g 60)), (1, .int p1)] := hl
  refine lv_aload_n hx hb dX9_fails_0 rfl (lv_at hl 0 rfl) ?_
  refine g9_12 (x := ((σ 9).1 12)) hx hb hts hown hK hP (rfl) (hts _ q1372) dX9_fails_1 ?_
  refine lv_if_eq (tgt := 8) hx hb dX9_fails_4 (by decide) (fun c1 => ?_) (fun c1 => ?_)
  ·
    have k2 := peq32 c1
    refine lv_aload_n hx hb dX9_fails_8 rfl (lv_at hl 0 rfl) ?_
    refine lv_iload_n hx hb dX9_fails_9 rfl (lv_at hl 1 rfl) ?_
    refine p9_12 hx hb hts hown hK hP hD hS (hts _ q1372) dX9_fails_10 (fun H locs σ3 eσ3 hP hS => ?_)
    have hJ4 : J9 (σ3 9) := hJ.I eσ3 (show JI9 12 p1 from trivial)
    refine lv_aload_n hx hb dX9_fails_13 rfl (lv_at hl 0 rfl) ?_
    refine lv_aload_n hx hb dX9_fails_14 rfl (lv_at hl 0 rfl) ?_
    refine g9_9 (x := ((σ 9).1 9)) hx hb hts hown hK hP (((sI_f eσ3) 9 9 rfl).1) (hts _ q1369) dX9_fails_15 ?_
    refine p9_13 hx hb hts hown hK hP hD hS (hts _ q1373) dX9_fails_18 (fun H locs σ5 eσ5 hP hS => ?_)
    have hJ6 : J9 (σ5 9) := hJ4.I eσ5 (show JI9 13 ((σ 9).1 9) from trivial)
    exact W.vret hx hb hr (fun tS ht hW => ⟨⟨σ5, rfl, ⟨Fr.tr (Fr.tr (Fr.rf) (sI_f eσ3) (fN_L rfl)) (sI_f eσ5) (fN_L rfl), hJ6, (show ¬ ((σ5 9).1 12).toInt = 0 from (by have f0 := congrArg Int32.toInt (show ((σ5 9).1 12) = p1 from (((sI_f eσ5) 9 12 rfl).1).trans (sI_s eσ3)); have f1 := h0; omega)), trivial⟩, (show va_P D clz (WD9 cy g σ5) tS.heap by rw [ht]; exact hP)⟩, hS.F ht⟩) hS.2.2 dX9_fails_21
  ·
    have k7 := neq32 c1
    exact W.vret hx hb hr (fun tS ht hW => ⟨⟨σ, rfl, ⟨Fr.rf, hJ, (show ¬ ((σ 9).1 12).toInt = 0 from (by have f0 := k7; have z0 : (0 : Int32).toInt = 0 := (by decide); omega)), trivial⟩, (show va_P D clz (WD9 cy g σ) tS.heap by rw [ht]; exact hP)⟩, hS.F ht⟩) hS.2.2 dX9_fails_7

theorem q1780 : Cond.code yX9_size cX9_size 1 (some .int) ∈ lw_g := lw_gm (List.mem_of_getElem? (i := 1780) (by decide +kernel)) rfl
theorem dX9_size_0 : decode cX9_size 0 = .ok (.iload_n 0, 1) := by decide +kernel
theorem dX9_size_1 : decode cX9_size 1 = .ok (.ifCond .ge 8, 3) := by decide +kernel
theorem dX9_size_4 : decode cX9_size 4 = .ok (.iload_n 0, 1) := by decide +kernel
theorem dX9_size_5 : decode cX9_size 5 = .ok (.ineg, 1) := by decide +kernel
theorem dX9_size_6 : decode cX9_size 6 = .ok (.goto 4, 3) := by decide +kernel
theorem dX9_size_9 : decode cX9_size 9 = .ok (.iload_n 0, 1) := by decide +kernel
theorem dX9_size_10 : decode cX9_size 10 = .ok (.ireturn, 1) := by decide +kernel
set_option maxHeartbeats 4000000 in
set_option maxRecDepth 100000 in
theorem m_X9_size (l : Launch) (D : va_G) (cy : Nat → ClassId) (g : Nat → Nat) (σ : ST) (p0 : Int32) (sz : Nat) (hJ : J9 (σ 9))  : Met l yX9_size (ww yX9_size cX9_size 1 (some .int)) ({ frames := 1, cells := 0, slots := 0, locals := 64 }) (va_Pc [.int p0] (pr9 D cy g σ sz)) (qi9 D cy g sz (fun r τ => τ = σ ∧ (r = sizeF p0) ∧ True)) 0 0 (A9 cy g sz) := by
  refine Met.ofW (cc := cX9_size) (maxL := 1) (ret := (some .int)) (by decide) rfl ?_
  intro p e s m args below meth c s₁ B hml hv
  obtain ⟨rfl, hsz, hP, hK, hD0, hC⟩ := hv
  have hx := B.exec
  have hb := B.bytes
  have hr := B.returns
  have hts := hts_g (atoms_spec (ws := ww yX9_size cX9_size 1 (some .int)) B.pre)
  have hown : s.vm.findClass RX9 = some m.cls := findClass_of_methodNamed B.named
  have hlocks := B.notSynchronized
  clear B
  subst hsz
  have hD := fun τ => A9_D (sz := s.heap.size) hD0 τ
  clear hD0
  have hS : va_S (A9 cy g s.heap.size) s.heap s.heap [] := va_S.rf
  have hl := lv_entry ([.int p0]) (n := 1) (Nat.le_of_ble_eq_true rfl)
  rw [lg_entry_eq]
  generalize (lg_sl ([.int p0]) ++ List.replicate (1 - (lg_sl ([.int p0])).length) Slot.unset).toArray = ls at hl ⊢
  have hl : lv_has ls 1 [(0, .int p0)] := hl
  refine lv_iload_n hx hb dX9_size_0 rfl (lv_at hl 0 rfl) ?_
  refine lv_if_ge (tgt := 9) hx hb dX9_size_1 (by decide) (fun c1 => ?_) (fun c1 => ?_)
  ·
    have k2 := ple32 c1
    refine lv_iload_n hx hb dX9_size_9 rfl (lv_at hl 0 rfl) ?_
    exact W.iret (v := p0) hx hb hr (fun tS ht hW => ⟨⟨p0, σ, rfl, ⟨rfl, (show p0 = sizeF p0 from (by unfold sizeF; rw [if_neg (fun q => by have q2 := plt32 q; have f0 := k2; have g0 := rg32 p0; have z0 : (0 : Int32).toInt = 0 := (by decide); omega)])), trivial⟩, (show va_P D clz (WD9 cy g σ) tS.heap by rw [ht]; exact hP)⟩, hS.F ht⟩) hS.2.2 dX9_size_10
  ·
    have k3 := nle32 c1
    refine lv_iload_n hx hb dX9_size_4 rfl (lv_at hl 0 rfl) ?_
    refine lv_ineg hx hb dX9_size_5 ?_
    refine lv_topi (fun x4 ex4 => ?_)
    refine lv_goto (tgt := 10) hx hb dX9_size_6 (by decide) ?_
    exact W.iret (v := x4) hx hb hr (fun tS ht hW => ⟨⟨x4, σ, rfl, ⟨rfl, (show x4 = sizeF p0 from (by unfold sizeF; rw [if_pos (Int32.lt_iff_toInt_lt.mpr (by have f0 := k3; have g0 := rg32 p0; have z0 : (0 : Int32).toInt = 0 := (by decide); omega))]; exact ex4)), trivial⟩, (show va_P D clz (WD9 cy g σ) tS.heap by rw [ht]; exact hP)⟩, hS.F ht⟩) hS.2.2 dX9_size_10

theorem q2082 : Cond.code yX9_isSeed cX9_isSeed 1 (some .boolean) ∈ lw_g := lw_gm (List.mem_of_getElem? (i := 2082) (by decide +kernel)) rfl
theorem q2083 : Cond.constantLong RX9 539 (2000000000) ∈ lw_g := lw_gm (List.mem_of_getElem? (i := 2083) (by decide +kernel)) rfl
theorem dX9_isSeed_0 : decode cX9_isSeed 0 = .ok (.iload_n 0, 1) := by decide +kernel
theorem dX9_isSeed_1 : decode cX9_isSeed 1 = .ok (.i2l, 1) := by decide +kernel
theorem dX9_isSeed_2 : decode cX9_isSeed 2 = .ok (.lconst 0, 1) := by decide +kernel
theorem dX9_isSeed_3 : decode cX9_isSeed 3 = .ok (.ldc2_w 539, 3) := by decide +kernel
theorem dX9_isSeed_6 : decode cX9_isSeed 6 = .ok (.invokestatic 134, 3) := by decide +kernel
theorem dX9_isSeed_9 : decode cX9_isSeed 9 = .ok (.ireturn, 1) := by decide +kernel
set_option maxHeartbeats 4000000 in
set_option maxRecDepth 100000 in
theorem m_X9_isSeed (l : Launch) (D : va_G) (cy : Nat → ClassId) (g : Nat → Nat) (σ : ST) (p0 : Int32) (sz : Nat) (hJ : J9 (σ 9))  : Met l yX9_isSeed (ww yX9_isSeed cX9_isSeed 1 (some .boolean)) ({ frames := 2, cells := 0, slots := 0, locals := 128 }) (va_Pc [.int p0] (pr9 D cy g σ sz)) (qi9 D cy g sz (fun r τ => τ = σ ∧ ((0 : Int) ≤ r.toInt ∧ r.toInt ≤ 1) ∧ True)) 0 0 (A9 cy g sz) := by
  refine Met.ofW (cc := cX9_isSeed) (maxL := 1) (ret := (some .boolean)) (by decide) rfl ?_
  intro p e s m args below meth c s₁ B hml hv
  obtain ⟨rfl, hsz, hP, hK, hD0, hC⟩ := hv
  have hx := B.exec
  have hb := B.bytes
  have hr := B.returns
  have hts := hts_g (atoms_spec (ws := ww yX9_isSeed cX9_isSeed 1 (some .boolean)) B.pre)
  have hown : s.vm.findClass RX9 = some m.cls := findClass_of_methodNamed B.named
  have hlocks := B.notSynchronized
  clear B
  subst hsz
  have hD := fun τ => A9_D (sz := s.heap.size) hD0 τ
  clear hD0
  have hS : va_S (A9 cy g s.heap.size) s.heap s.heap [] := va_S.rf
  have hl := lv_entry ([.int p0]) (n := 1) (Nat.le_of_ble_eq_true rfl)
  rw [lg_entry_eq]
  generalize (lg_sl ([.int p0]) ++ List.replicate (1 - (lg_sl ([.int p0])).length) Slot.unset).toArray = ls at hl ⊢
  have hl : lv_has ls 1 [(0, .int p0)] := hl
  refine lv_iload_n hx hb dX9_isSeed_0 rfl (lv_at hl 0 rfl) ?_
  refine lv_i2l (v := p0.toInt64) hx hb dX9_isSeed_1 rfl ?_
  refine lv_lconst (v := 0) hx hb dX9_isSeed_2 (by decide) ?_
  refine lv_ldc2 (v := 2000000000) hx hb hown (hts _ q2083) dX9_isSeed_3 ?_
  refine va_calli (va_runS (As := [.long p0.toInt64, .long 0, .long 2000000000]) (rest := []) ⟨hx, hb, hml, hown, hts⟩ (m_X9_in l D cy g σ p0.toInt64 (0) (2000000000) _ hJ ) (va_cwS 3 hts (gd_S q1550 q1551 q134 q1552) rfl rfl rfl (by decide +kernel) ⟨Nat.le_of_ble_eq_true rfl, Nat.le_of_ble_eq_true rfl⟩) (ps9 hP hK hD hC hS) rfl rfl hl.1 rfl (lv_room (Nat.le_of_ble_eq_true rfl)) dX9_isSeed_6 ⟨Nat.le_of_ble_eq_true rfl, Nat.le_of_ble_eq_true rfl⟩) hS (fun q _ h => up9 hS q h) (up9 hS) (fun r1 σ2 tS H1 locs ht hvm hw3 hB hz1 hk1 hS => ?_)
  have hP : va_P D clz (WD9 cy g σ2) H1 := by rw [← ht]; exact hB
  clear hB hz1 hk1 hvm ht
  generalize H1 = H at hP hS ⊢
  have hw3E : σ = σ2 := (hw3.1).symm
  subst hw3E
  have b4 : (0 : Int) ≤ r1.toInt ∧ r1.toInt ≤ 1 := hw3.2.1
  have b5 : (r1.toInt = 1 ∧ (0 : Int64).toInt ≤ p0.toInt64.toInt ∧ p0.toInt64.toInt ≤ (2000000000 : Int64).toInt) ∨ (r1.toInt = 0 ∧ ¬ ((0 : Int64).toInt ≤ p0.toInt64.toInt ∧ p0.toInt64.toInt ≤ (2000000000 : Int64).toInt)) := hw3.2.2.1
  exact W.zret (v := r1) hx hb hr (nrZ (by have f0 := b4; have f1 := b5; have f2 := t64 (a := p0); have f3 := rg32 p0; have g0 := rg32 p0; have g2 := rg32 r1; have zl0 : (0 : Int64).toInt = 0 := (by decide); have zl2000000000 : (2000000000 : Int64).toInt = 2000000000 := (by decide); have w8 := t64 (a := p0); omega)) (fun tS ht hW => ⟨⟨r1, σ, rfl, ⟨rfl, (show (0 : Int) ≤ r1.toInt ∧ r1.toInt ≤ 1 from (by have f0 := b4; have f1 := b5; have f2 := t64 (a := p0); have f3 := rg32 p0; have g0 := rg32 p0; have g2 := rg32 r1; have zl0 : (0 : Int64).toInt = 0 := (by decide); have zl2000000000 : (2000000000 : Int64).toInt = 2000000000 := (by decide); have w8 := t64 (a := p0); omega)), trivial⟩, (show va_P D clz (WD9 cy g σ) tS.heap by rw [ht]; exact hP)⟩, hS.F ht⟩) hS.2.2 dX9_isSeed_9

theorem q1765 : Cond.code yX9_isPitch cX9_isPitch 2 (some .boolean) ∈ lw_g := lw_gm (List.mem_of_getElem? (i := 1765) (by decide +kernel)) rfl
theorem q1766 : Cond.constantLong RX9 306 (60) ∈ lw_g := lw_gm (List.mem_of_getElem? (i := 1766) (by decide +kernel)) rfl
theorem dX9_isPitch_0 : decode cX9_isPitch 0 = .ok (.lload_n 0, 1) := by decide +kernel
theorem dX9_isPitch_1 : decode cX9_isPitch 1 = .ok (.lconst 0, 1) := by decide +kernel
theorem dX9_isPitch_2 : decode cX9_isPitch 2 = .ok (.ldc2_w 306, 3) := by decide +kernel
theorem dX9_isPitch_5 : decode cX9_isPitch 5 = .ok (.invokestatic 134, 3) := by decide +kernel
theorem dX9_isPitch_8 : decode cX9_isPitch 8 = .ok (.ireturn, 1) := by decide +kernel
set_option maxHeartbeats 4000000 in
set_option maxRecDepth 100000 in
theorem m_X9_isPitch (l : Launch) (D : va_G) (cy : Nat → ClassId) (g : Nat → Nat) (σ : ST) (p0 : Int64) (sz : Nat) (hJ : J9 (σ 9))  : Met l yX9_isPitch (ww yX9_isPitch cX9_isPitch 2 (some .boolean)) ({ frames := 2, cells := 0, slots := 0, locals := 128 }) (va_Pc [.long p0] (pr9 D cy g σ sz)) (qi9 D cy g sz (fun r τ => τ = σ ∧ ((0 : Int) ≤ r.toInt ∧ r.toInt ≤ 1) ∧ ((r.toInt = 1 ∧ 0 ≤ p0.toInt ∧ p0.toInt ≤ 60) ∨ (r.toInt = 0 ∧ ¬ (0 ≤ p0.toInt ∧ p0.toInt ≤ 60))) ∧ True)) 0 0 (A9 cy g sz) := by
  refine Met.ofW (cc := cX9_isPitch) (maxL := 2) (ret := (some .boolean)) (by decide) rfl ?_
  intro p e s m args below meth c s₁ B hml hv
  obtain ⟨rfl, hsz, hP, hK, hD0, hC⟩ := hv
  have hx := B.exec
  have hb := B.bytes
  have hr := B.returns
  have hts := hts_g (atoms_spec (ws := ww yX9_isPitch cX9_isPitch 2 (some .boolean)) B.pre)
  have hown : s.vm.findClass RX9 = some m.cls := findClass_of_methodNamed B.named
  have hlocks := B.notSynchronized
  clear B
  subst hsz
  have hD := fun τ => A9_D (sz := s.heap.size) hD0 τ
  clear hD0
  have hS : va_S (A9 cy g s.heap.size) s.heap s.heap [] := va_S.rf
  have hl := lv_entry ([.long p0]) (n := 2) (Nat.le_of_ble_eq_true rfl)
  rw [lg_entry_eq]
  generalize (lg_sl ([.long p0]) ++ List.replicate (2 - (lg_sl ([.long p0])).length) Slot.unset).toArray = ls at hl ⊢
  have hl : lv_has ls 2 [(0, .long p0)] := hl
  refine lv_lload_n hx hb dX9_isPitch_0 rfl (lv_at hl 0 rfl) ?_
  refine lv_lconst (v := 0) hx hb dX9_isPitch_1 (by decide) ?_
  refine lv_ldc2 (v := 60) hx hb hown (hts _ q1766) dX9_isPitch_2 ?_
  refine va_calli (va_runS (As := [.long p0, .long 0, .long 60]) (rest := []) ⟨hx, hb, hml, hown, hts⟩ (m_X9_in l D cy g σ p0 (0) (60) _ hJ ) (va_cwS 3 hts (gd_S q1550 q1551 q134 q1552) rfl rfl rfl (by decide +kernel) ⟨Nat.le_of_ble_eq_true rfl, Nat.le_of_ble_eq_true rfl⟩) (ps9 hP hK hD hC hS) rfl rfl hl.1 rfl (lv_room (Nat.le_of_ble_eq_true rfl)) dX9_isPitch_5 ⟨Nat.le_of_ble_eq_true rfl, Nat.le_of_ble_eq_true rfl⟩) hS (fun q _ h => up9 hS q h) (up9 hS) (fun r1 σ2 tS H1 locs ht hvm hw3 hB hz1 hk1 hS => ?_)
  have hP : va_P D clz (WD9 cy g σ2) H1 := by rw [← ht]; exact hB
  clear hB hz1 hk1 hvm ht
  generalize H1 = H at hP hS ⊢
  have hw3E : σ = σ2 := (hw3.1).symm
  subst hw3E
  have b4 : (0 : Int) ≤ r1.toInt ∧ r1.toInt ≤ 1 := hw3.2.1
  have b5 : (r1.toInt = 1 ∧ (0 : Int64).toInt ≤ p0.toInt ∧ p0.toInt ≤ (60 : Int64).toInt) ∨ (r1.toInt = 0 ∧ ¬ ((0 : Int64).toInt ≤ p0.toInt ∧ p0.toInt ≤ (60 : Int64).toInt)) := hw3.2.2.1
  exact W.zret (v := r1) hx hb hr (nrZ (by have f0 := b4; have f1 := b5; have g1 := rg32 r1; have zl0 : (0 : Int64).toInt = 0 := (by decide); have zl60 : (60 : Int64).toInt = 60 := (by decide); omega)) (fun tS ht hW => ⟨⟨r1, σ, rfl, ⟨rfl, (show (0 : Int) ≤ r1.toInt ∧ r1.toInt ≤ 1 from (by have f0 := b4; have f1 := b5; have g1 := rg32 r1; have zl0 : (0 : Int64).toInt = 0 := (by decide); have zl60 : (60 : Int64).toInt = 60 := (by decide); omega)), (show (r1.toInt = 1 ∧ 0 ≤ p0.toInt ∧ p0.toInt ≤ 60) ∨ (r1.toInt = 0 ∧ ¬ (0 ≤ p0.toInt ∧ p0.toInt ≤ 60)) from (by have f0 := b4; have f1 := b5; have g1 := rg32 r1; have zl0 : (0 : Int64).toInt = 0 := (by decide); have zl60 : (60 : Int64).toInt = 60 := (by decide); omega)), trivial⟩, (show va_P D clz (WD9 cy g σ) tS.heap by rw [ht]; exact hP)⟩, hS.F ht⟩) hS.2.2 dX9_isPitch_8

