theorem q2035 : Cond.code yX9_isDesk cX9_isDesk 1 (some .boolean) ∈ lw_g := lw_gm (List.mem_of_getElem? (i := 2035) (by decide +kernel)) rfl
theorem q1376 : Cond.fieldLink RX9 31 "LipsAndSlidesModel" "lines" "[I" ∈ lw_g := lw_gm (List.mem_of_getElem? (i := 1376) (by decide +kernel)) rfl
theorem dX9_isDesk_0 : decode cX9_isDesk 0 = .ok (.aload_n 0, 1) := by decide +kernel
theorem dX9_isDesk_1 : decode cX9_isDesk 1 = .ok (.getfield 31, 3) := by decide +kernel
theorem dX9_isDesk_4 : decode cX9_isDesk 4 = .ok (.iconst 0, 1) := by decide +kernel
theorem dX9_isDesk_5 : decode cX9_isDesk 5 = .ok (.iaload, 1) := by decide +kernel
theorem dX9_isDesk_6 : decode cX9_isDesk 6 = .ok (.ifCond .le 7, 3) := by decide +kernel
theorem dX9_isDesk_9 : decode cX9_isDesk 9 = .ok (.iconst 1, 1) := by decide +kernel
theorem dX9_isDesk_10 : decode cX9_isDesk 10 = .ok (.goto 4, 3) := by decide +kernel
theorem dX9_isDesk_13 : decode cX9_isDesk 13 = .ok (.iconst 0, 1) := by decide +kernel
theorem dX9_isDesk_14 : decode cX9_isDesk 14 = .ok (.ireturn, 1) := by decide +kernel
set_option maxHeartbeats 4000000 in
set_option maxRecDepth 100000 in
theorem m_X9_isDesk (l : Launch) (D : va_G) (cy : Nat → ClassId) (g : Nat → Nat) (σ : ST)  (sz : Nat) (hJ : J9 (σ 9))  : Met l yX9_isDesk (ww yX9_isDesk cX9_isDesk 1 (some .boolean)) ({ frames := 1, cells := 0, slots := 0, locals := 64 }) (va_Pc [.ref (g 60)] (pr9 D cy g σ sz)) (qi9 D cy g sz (fun r τ => τ = σ ∧ ((0 : Int) ≤ r.toInt ∧ r.toInt ≤ 1) ∧ True)) 0 0 (A9 cy g sz) := by
  refine Met.ofW (cc := cX9_isDesk) (maxL := 1) (ret := (some .boolean)) (by decide) rfl ?_
  intro p e s m args below meth c s₁ B hml hv
  obtain ⟨rfl, hsz, hP, hK, hD0, hC⟩ := hv
  have hx := B.exec
  have hb := B.bytes
  have hr := B.returns
  have hts := hts_g (atoms_spec (ws := ww yX9_isDesk cX9_isDesk 1 (some .boolean)) B.pre)
  have hown : s.vm.findClass RX9 = some m.cls := findClass_of_methodNamed B.named
  have hlocks := B.notSynchronized
  clear B
  subst hsz
  have hD := fun τ => A9_D (sz := s.heap.size) hD0 τ
  clear hD0
  have hS : va_S (A9 cy g s.heap.size) s.heap s.heap [] := va_S.rf
  have hl := lv_entry ([.ref (g 60)]) (n := 1) (Nat.le_of_ble_eq_true rfl)
  rw [lg_entry_eq]
  generalize (lg_sl ([.ref (g 60)]) ++ List.replicate (1 - (lg_sl ([.ref (g 60)])).length) Slot.unset).toArray = ls at hl ⊢
  have hl : lv_has ls 1 [(0, .ref (g 60))] := hl
  refine lv_aload_n hx hb dX9_isDesk_0 rfl (lv_at hl 0 rfl) ?_
  refine g9_16 hx hb hts hown hK hP (hts _ q1376) dX9_isDesk_1 ?_
  refine lv_iconst (v := 0) hx hb dX9_isDesk_4 (by decide) ?_
  refine l9_16 (x := ((σ 9).2.2.1 16 0)) hx hb hK hP (vpi (by decide)) (congrArg ((σ 9).2.2.1 16) (show (0 : Int32).toInt.toNat = 0 by decide)) dX9_isDesk_5 ?_
  refine lv_if_le (tgt := 13) hx hb dX9_isDesk_6 (by decide) (fun c1 => ?_) (fun c1 => ?_)
  ·
    have k2 := ple32 c1
    refine lv_iconst (v := 0) hx hb dX9_isDesk_13 (by decide) ?_
    exact W.zret (v := 0) hx hb hr rfl (fun tS ht hW => ⟨⟨0, σ, rfl, ⟨rfl, (show (0 : Int) ≤ (0 : Int32).toInt ∧ (0 : Int32).toInt ≤ 1 from (by have z0 : (0 : Int32).toInt = 0 := (by decide); omega)), trivial⟩, (show va_P D clz (WD9 cy g σ) tS.heap by rw [ht]; exact hP)⟩, hS.F ht⟩) hS.2.2 dX9_isDesk_14
  ·
    have k3 := nle32 c1
    refine lv_iconst (v := 1) hx hb dX9_isDesk_9 (by decide) ?_
    refine lv_goto (tgt := 14) hx hb dX9_isDesk_10 (by decide) ?_
    exact W.zret (v := 1) hx hb hr rfl (fun tS ht hW => ⟨⟨1, σ, rfl, ⟨rfl, (show (0 : Int) ≤ (1 : Int32).toInt ∧ (1 : Int32).toInt ≤ 1 from (by have z1 : (1 : Int32).toInt = 1 := (by decide); omega)), trivial⟩, (show va_P D clz (WD9 cy g σ) tS.heap by rw [ht]; exact hP)⟩, hS.F ht⟩) hS.2.2 dX9_isDesk_14

theorem q1704 : Cond.code yX9_isBrass cX9_isBrass 2 (some .boolean) ∈ lw_g := lw_gm (List.mem_of_getElem? (i := 1704) (by decide +kernel)) rfl
theorem dX9_isBrass_0 : decode cX9_isBrass 0 = .ok (.iload_n 1, 1) := by decide +kernel
theorem dX9_isBrass_1 : decode cX9_isBrass 1 = .ok (.i2l, 1) := by decide +kernel
theorem dX9_isBrass_2 : decode cX9_isBrass 2 = .ok (.lconst 0, 1) := by decide +kernel
theorem dX9_isBrass_3 : decode cX9_isBrass 3 = .ok (.aload_n 0, 1) := by decide +kernel
theorem dX9_isBrass_4 : decode cX9_isBrass 4 = .ok (.getfield 34, 3) := by decide +kernel
theorem dX9_isBrass_7 : decode cX9_isBrass 7 = .ok (.iconst 2, 1) := by decide +kernel
theorem dX9_isBrass_8 : decode cX9_isBrass 8 = .ok (.iaload, 1) := by decide +kernel
theorem dX9_isBrass_9 : decode cX9_isBrass 9 = .ok (.iconst 1, 1) := by decide +kernel
theorem dX9_isBrass_10 : decode cX9_isBrass 10 = .ok (.isub, 1) := by decide +kernel
theorem dX9_isBrass_11 : decode cX9_isBrass 11 = .ok (.i2l, 1) := by decide +kernel
theorem dX9_isBrass_12 : decode cX9_isBrass 12 = .ok (.invokestatic 134, 3) := by decide +kernel
theorem dX9_isBrass_15 : decode cX9_isBrass 15 = .ok (.ireturn, 1) := by decide +kernel
set_option maxHeartbeats 4000000 in
set_option maxRecDepth 100000 in
theorem m_X9_isBrass (l : Launch) (D : va_G) (cy : Nat → ClassId) (g : Nat → Nat) (σ : ST) (p1 : Int32) (sz : Nat) (hJ : J9 (σ 9))  : Met l yX9_isBrass (ww yX9_isBrass cX9_isBrass 2 (some .boolean)) ({ frames := 2, cells := 0, slots := 0, locals := 128 }) (va_Pc [.ref (g 60), .int p1] (pr9 D cy g σ sz)) (qi9 D cy g sz (fun r τ => τ = σ ∧ ((0 : Int) ≤ r.toInt ∧ r.toInt ≤ 1) ∧ ((r.toInt = 0) ∨ ((0 : Int) ≤ p1.toInt ∧ p1.toInt ≤ 3)) ∧ ((r.toInt = 0) ∨ (0 ≤ p1.toInt ∧ p1.toInt < ((σ 9).2.2.1 17 2).toInt)) ∧ True)) 0 0 (A9 cy g sz) := by
  refine Met.ofW (cc := cX9_isBrass) (maxL := 2) (ret := (some .boolean)) (by decide) rfl ?_
  intro p e s m args below meth c s₁ B hml hv
  obtain ⟨rfl, hsz, hP, hK, hD0, hC⟩ := hv
  have hx := B.exec
  have hb := B.bytes
  have hr := B.returns
  have hts := hts_g (atoms_spec (ws := ww yX9_isBrass cX9_isBrass 2 (some .boolean)) B.pre)
  have hown : s.vm.findClass RX9 = some m.cls := findClass_of_methodNamed B.named
  have hlocks := B.notSynchronized
  clear B
  subst hsz
  have hD := fun τ => A9_D (sz := s.heap.size) hD0 τ
  clear hD0
  have hS : va_S (A9 cy g s.heap.size) s.heap s.heap [] := va_S.rf
  have hl := lv_entry ([.ref (g 60), .int p1]) (n := 2) (Nat.le_of_ble_eq_true rfl)
  rw [lg_entry_eq]
  generalize (lg_sl ([.ref (g 60), .int p1]) ++ List.replicate (2 - (lg_sl ([.ref (g 60), .int p1])).length) Slot.unset).toArray = ls at hl ⊢
  have hl : lv_has ls 2 [(0, .ref (g 60)), (1, .int p1)] := hl
  refine lv_iload_n hx hb dX9_isBrass_0 rfl (lv_at hl 1 rfl) ?_
  refine lv_i2l (v := p1.toInt64) hx hb dX9_isBrass_1 rfl ?_
  refine lv_lconst (v := 0) hx hb dX9_isBrass_2 (by decide) ?_
  refine lv_aload_n hx hb dX9_isBrass_3 rfl (lv_at hl 0 rfl) ?_
  refine g9_17 hx hb hts hown hK hP (hts _ q1377) dX9_isBrass_4 ?_
  refine lv_iconst (v := 2) hx hb dX9_isBrass_7 (by decide) ?_
  refine l9_17 (x := ((σ 9).2.2.1 17 2)) hx hb hK hP (vpi (by decide)) (congrArg ((σ 9).2.2.1 17) (show (2 : Int32).toInt.toNat = 2 by decide)) dX9_isBrass_8 ?_
  refine lv_iconst (v := 1) hx hb dX9_isBrass_9 (by decide) ?_
  refine lv_isub hx hb dX9_isBrass_10 ?_
  refine lv_topi (fun x1 ex1 => ?_)
  have t2 := subO ex1 (by have f0 := a9_17 hJ (j := 2) rfl; have z1 : (1 : Int32).toInt = 1 := (by decide); omega)
  refine lv_i2l (v := x1.toInt64) hx hb dX9_isBrass_11 rfl ?_
  refine va_calli (va_runS (As := [.long p1.toInt64, .long 0, .long x1.toInt64]) (rest := []) ⟨hx, hb, hml, hown, hts⟩ (m_X9_in l D cy g σ p1.toInt64 (0) x1.toInt64 _ hJ ) (va_cwS 3 hts (gd_S q1550 q1551 q134 q1552) rfl rfl rfl (by decide +kernel) ⟨Nat.le_of_ble_eq_true rfl, Nat.le_of_ble_eq_true rfl⟩) (ps9 hP hK hD hC hS) rfl rfl hl.1 rfl (lv_room (Nat.le_of_ble_eq_true rfl)) dX9_isBrass_12 ⟨Nat.le_of_ble_eq_true rfl, Nat.le_of_ble_eq_true rfl⟩) hS (fun q _ h => up9 hS q h) (up9 hS) (fun r3 σ4 tS H1 locs ht hvm hw5 hB hz1 hk1 hS => ?_)
  have hP : va_P D clz (WD9 cy g σ4) H1 := by rw [← ht]; exact hB
  clear hB hz1 hk1 hvm ht
  generalize H1 = H at hP hS ⊢
  have hw5E : σ = σ4 := (hw5.1).symm
  subst hw5E
  have b6 : (0 : Int) ≤ r3.toInt ∧ r3.toInt ≤ 1 := hw5.2.1
  have b7 : (r3.toInt = 1 ∧ (0 : Int64).toInt ≤ p1.toInt64.toInt ∧ p1.toInt64.toInt ≤ x1.toInt64.toInt) ∨ (r3.toInt = 0 ∧ ¬ ((0 : Int64).toInt ≤ p1.toInt64.toInt ∧ p1.toInt64.toInt ≤ x1.toInt64.toInt)) := hw5.2.2.1
  exact W.zret (v := r3) hx hb hr (nrZ (by have f0 := b6; have f1 := b7; have f2 := t64 (a := p1); have f3 := t64 (a := x1); have f4 := rg32 p1; have f5 := t2; have f6 := rg32 x1; have f7 := a9_17 hJ (j := 2) rfl; have g0 := rg32 p1; have g2 := rg32 r3; have zl0 : (0 : Int64).toInt = 0 := (by decide); have z1 : (1 : Int32).toInt = 1 := (by decide); have w12 := t64 (a := p1); have w13 := t64 (a := x1); omega)) (fun tS ht hW => ⟨⟨r3, σ, rfl, ⟨rfl, (show (0 : Int) ≤ r3.toInt ∧ r3.toInt ≤ 1 from (by have f0 := b6; have f1 := b7; have f2 := t64 (a := p1); have f3 := t64 (a := x1); have f4 := rg32 p1; have f5 := t2; have f6 := rg32 x1; have f7 := a9_17 hJ (j := 2) rfl; have g0 := rg32 p1; have g2 := rg32 r3; have zl0 : (0 : Int64).toInt = 0 := (by decide); have z1 : (1 : Int32).toInt = 1 := (by decide); have w12 := t64 (a := p1); have w13 := t64 (a := x1); omega)), (show (r3.toInt = 0) ∨ ((0 : Int) ≤ p1.toInt ∧ p1.toInt ≤ 3) from (by have f0 := t64 (a := p1); have f1 := rg32 p1; have f2 := b6; have f3 := b7; have f4 := t64 (a := x1); have f5 := t2; have f6 := rg32 x1; have f7 := a9_17 hJ (j := 2) rfl; have g0 := rg32 p1; have g2 := rg32 r3; have zl0 : (0 : Int64).toInt = 0 := (by decide); have z1 : (1 : Int32).toInt = 1 := (by decide); have w12 := t64 (a := p1); have w13 := t64 (a := x1); omega)), (show (r3.toInt = 0) ∨ (0 ≤ p1.toInt ∧ p1.toInt < ((σ 9).2.2.1 17 2).toInt) from (by have f0 := a9_17 hJ (j := 2) rfl; have f1 := t64 (a := p1); have f2 := rg32 p1; have f3 := t2; have f4 := b6; have f5 := b7; have f6 := t64 (a := x1); have f7 := rg32 x1; have g1 := rg32 p1; have g3 := rg32 r3; have zl0 : (0 : Int64).toInt = 0 := (by decide); have z1 : (1 : Int32).toInt = 1 := (by decide); have w12 := t64 (a := p1); have w13 := t64 (a := x1); omega)), trivial⟩, (show va_P D clz (WD9 cy g σ) tS.heap by rw [ht]; exact hP)⟩, hS.F ht⟩) hS.2.2 dX9_isBrass_15

theorem q1713 : Cond.code yX9_isPlayer cX9_isPlayer 2 (some .boolean) ∈ lw_g := lw_gm (List.mem_of_getElem? (i := 1713) (by decide +kernel)) rfl
theorem dX9_isPlayer_0 : decode cX9_isPlayer 0 = .ok (.iload_n 1, 1) := by decide +kernel
theorem dX9_isPlayer_1 : decode cX9_isPlayer 1 = .ok (.i2l, 1) := by decide +kernel
theorem dX9_isPlayer_2 : decode cX9_isPlayer 2 = .ok (.lconst 0, 1) := by decide +kernel
theorem dX9_isPlayer_3 : decode cX9_isPlayer 3 = .ok (.aload_n 0, 1) := by decide +kernel
theorem dX9_isPlayer_4 : decode cX9_isPlayer 4 = .ok (.getfield 34, 3) := by decide +kernel
theorem dX9_isPlayer_7 : decode cX9_isPlayer 7 = .ok (.iconst 3, 1) := by decide +kernel
theorem dX9_isPlayer_8 : decode cX9_isPlayer 8 = .ok (.iaload, 1) := by decide +kernel
theorem dX9_isPlayer_9 : decode cX9_isPlayer 9 = .ok (.iconst 1, 1) := by decide +kernel
theorem dX9_isPlayer_10 : decode cX9_isPlayer 10 = .ok (.isub, 1) := by decide +kernel
theorem dX9_isPlayer_11 : decode cX9_isPlayer 11 = .ok (.i2l, 1) := by decide +kernel
theorem dX9_isPlayer_12 : decode cX9_isPlayer 12 = .ok (.invokestatic 134, 3) := by decide +kernel
theorem dX9_isPlayer_15 : decode cX9_isPlayer 15 = .ok (.ireturn, 1) := by decide +kernel
set_option maxHeartbeats 4000000 in
set_option maxRecDepth 100000 in
theorem m_X9_isPlayer (l : Launch) (D : va_G) (cy : Nat → ClassId) (g : Nat → Nat) (σ : ST) (p1 : Int32) (sz : Nat) (hJ : J9 (σ 9))  : Met l yX9_isPlayer (ww yX9_isPlayer cX9_isPlayer 2 (some .boolean)) ({ frames := 2, cells := 0, slots := 0, locals := 128 }) (va_Pc [.ref (g 60), .int p1] (pr9 D cy g σ sz)) (qi9 D cy g sz (fun r τ => τ = σ ∧ ((0 : Int) ≤ r.toInt ∧ r.toInt ≤ 1) ∧ ((r.toInt = 0) ∨ ((0 : Int) ≤ p1.toInt ∧ p1.toInt ≤ 8)) ∧ ((r.toInt = 0) ∨ (0 ≤ p1.toInt ∧ p1.toInt < ((σ 9).2.2.1 17 3).toInt)) ∧ True)) 0 0 (A9 cy g sz) := by
  refine Met.ofW (cc := cX9_isPlayer) (maxL := 2) (ret := (some .boolean)) (by decide) rfl ?_
  intro p e s m args below meth c s₁ B hml hv
  obtain ⟨rfl, hsz, hP, hK, hD0, hC⟩ := hv
  have hx := B.exec
  have hb := B.bytes
  have hr := B.returns
  have hts := hts_g (atoms_spec (ws := ww yX9_isPlayer cX9_isPlayer 2 (some .boolean)) B.pre)
  have hown : s.vm.findClass RX9 = some m.cls := findClass_of_methodNamed B.named
  have hlocks := B.notSynchronized
  clear B
  subst hsz
  have hD := fun τ => A9_D (sz := s.heap.size) hD0 τ
  clear hD0
  have hS : va_S (A9 cy g s.heap.size) s.heap s.heap [] := va_S.rf
  have hl := lv_entry ([.ref (g 60), .int p1]) (n := 2) (Nat.le_of_ble_eq_true rfl)
  rw [lg_entry_eq]
  generalize (lg_sl ([.ref (g 60), .int p1]) ++ List.replicate (2 - (lg_sl ([.ref (g 60), .int p1])).length) Slot.unset).toArray = ls at hl ⊢
  have hl : lv_has ls 2 [(0, .ref (g 60)), (1, .int p1)] := hl
  refine lv_iload_n hx hb dX9_isPlayer_0 rfl (lv_at hl 1 rfl) ?_
  refine lv_i2l (v := p1.toInt64) hx hb dX9_isPlayer_1 rfl ?_
  refine lv_lconst (v := 0) hx hb dX9_isPlayer_2 (by decide) ?_
  refine lv_aload_n hx hb dX9_isPlayer_3 rfl (lv_at hl 0 rfl) ?_
  refine g9_17 hx hb hts hown hK hP (hts _ q1377) dX9_isPlayer_4 ?_
  refine lv_iconst (v := 3) hx hb dX9_isPlayer_7 (by decide) ?_
  refine l9_17 (x := ((σ 9).2.2.1 17 3)) hx hb hK hP (vpi (by decide)) (congrArg ((σ 9).2.2.1 17) (show (3 : Int32).toInt.toNat = 3 by decide)) dX9_isPlayer_8 ?_
  refine lv_iconst (v := 1) hx hb dX9_isPlayer_9 (by decide) ?_
  refine lv_isub hx hb dX9_isPlayer_10 ?_
  refine lv_topi (fun x1 ex1 => ?_)
  have t2 := subO ex1 (by have f0 := a9_17 hJ (j := 3) rfl; have z1 : (1 : Int32).toInt = 1 := (by decide); omega)
  refine lv_i2l (v := x1.toInt64) hx hb dX9_isPlayer_11 rfl ?_
  refine va_calli (va_runS (As := [.long p1.toInt64, .long 0, .long x1.toInt64]) (rest := []) ⟨hx, hb, hml, hown, hts⟩ (m_X9_in l D cy g σ p1.toInt64 (0) x1.toInt64 _ hJ ) (va_cwS 3 hts (gd_S q1550 q1551 q134 q1552) rfl rfl rfl (by decide +kernel) ⟨Nat.le_of_ble_eq_true rfl, Nat.le_of_ble_eq_true rfl⟩) (ps9 hP hK hD hC hS) rfl rfl hl.1 rfl (lv_room (Nat.le_of_ble_eq_true rfl)) dX9_isPlayer_12 ⟨Nat.le_of_ble_eq_true rfl, Nat.le_of_ble_eq_true rfl⟩) hS (fun q _ h => up9 hS q h) (up9 hS) (fun r3 σ4 tS H1 locs ht hvm hw5 hB hz1 hk1 hS => ?_)
  have hP : va_P D clz (WD9 cy g σ4) H1 := by rw [← ht]; exact hB
  clear hB hz1 hk1 hvm ht
  generalize H1 = H at hP hS ⊢
  have hw5E : σ = σ4 := (hw5.1).symm
  subst hw5E
  have b6 : (0 : Int) ≤ r3.toInt ∧ r3.toInt ≤ 1 := hw5.2.1
  have b7 : (r3.toInt = 1 ∧ (0 : Int64).toInt ≤ p1.toInt64.toInt ∧ p1.toInt64.toInt ≤ x1.toInt64.toInt) ∨ (r3.toInt = 0 ∧ ¬ ((0 : Int64).toInt ≤ p1.toInt64.toInt ∧ p1.toInt64.toInt ≤ x1.toInt64.toInt)) := hw5.2.2.1
  exact W.zret (v := r3) hx hb hr (nrZ (by have f0 := b6; have f1 := b7; have f2 := t64 (a := p1); have f3 := t64 (a := x1); have f4 := rg32 p1; have f5 := t2; have f6 := rg32 x1; have f7 := a9_17 hJ (j := 3) rfl; have g0 := rg32 p1; have g2 := rg32 r3; have zl0 : (0 : Int64).toInt = 0 := (by decide); have z1 : (1 : Int32).toInt = 1 := (by decide); have w12 := t64 (a := p1); have w13 := t64 (a := x1); omega)) (fun tS ht hW => ⟨⟨r3, σ, rfl, ⟨rfl, (show (0 : Int) ≤ r3.toInt ∧ r3.toInt ≤ 1 from (by have f0 := b6; have f1 := b7; have f2 := t64 (a := p1); have f3 := t64 (a := x1); have f4 := rg32 p1; have f5 := t2; have f6 := rg32 x1; have f7 := a9_17 hJ (j := 3) rfl; have g0 := rg32 p1; have g2 := rg32 r3; have zl0 : (0 : Int64).toInt = 0 := (by decide); have z1 : (1 : Int32).toInt = 1 := (by decide); have w12 := t64 (a := p1); have w13 := t64 (a := x1); omega)), (show (r3.toInt = 0) ∨ ((0 : Int) ≤ p1.toInt ∧ p1.toInt ≤ 8) from (by have f0 := t64 (a := p1); have f1 := rg32 p1; have f2 := b6; have f3 := b7; have f4 := t64 (a := x1); have f5 := t2; have f6 := rg32 x1; have f7 := a9_17 hJ (j := 3) rfl; have g0 := rg32 p1; have g2 := rg32 r3; have zl0 : (0 : Int64).toInt = 0 := (by decide); have z1 : (1 : Int32).toInt = 1 := (by decide); have w12 := t64 (a := p1); have w13 := t64 (a := x1); omega)), (show (r3.toInt = 0) ∨ (0 ≤ p1.toInt ∧ p1.toInt < ((σ 9).2.2.1 17 3).toInt) from (by have f0 := a9_17 hJ (j := 3) rfl; have f1 := t64 (a := p1); have f2 := rg32 p1; have f3 := t2; have f4 := b6; have f5 := b7; have f6 := t64 (a := x1); have f7 := rg32 x1; have g1 := rg32 p1; have g3 := rg32 r3; have zl0 : (0 : Int64).toInt = 0 := (by decide); have z1 : (1 : Int32).toInt = 1 := (by decide); have w12 := t64 (a := p1); have w13 := t64 (a := x1); omega)), trivial⟩, (show va_P D clz (WD9 cy g σ) tS.heap by rw [ht]; exact hP)⟩, hS.F ht⟩) hS.2.2 dX9_isPlayer_15

theorem q1725 : Cond.code yX9_isPart cX9_isPart 2 (some .boolean) ∈ lw_g := lw_gm (List.mem_of_getElem? (i := 1725) (by decide +kernel)) rfl
theorem dX9_isPart_0 : decode cX9_isPart 0 = .ok (.iload_n 1, 1) := by decide +kernel
theorem dX9_isPart_1 : decode cX9_isPart 1 = .ok (.i2l, 1) := by decide +kernel
theorem dX9_isPart_2 : decode cX9_isPart 2 = .ok (.lconst 0, 1) := by decide +kernel
theorem dX9_isPart_3 : decode cX9_isPart 3 = .ok (.aload_n 0, 1) := by decide +kernel
theorem dX9_isPart_4 : decode cX9_isPart 4 = .ok (.getfield 34, 3) := by decide +kernel
theorem dX9_isPart_7 : decode cX9_isPart 7 = .ok (.iconst 4, 1) := by decide +kernel
theorem dX9_isPart_8 : decode cX9_isPart 8 = .ok (.iaload, 1) := by decide +kernel
theorem dX9_isPart_9 : decode cX9_isPart 9 = .ok (.iconst 1, 1) := by decide +kernel
theorem dX9_isPart_10 : decode cX9_isPart 10 = .ok (.isub, 1) := by decide +kernel
theorem dX9_isPart_11 : decode cX9_isPart 11 = .ok (.i2l, 1) := by decide +kernel
theorem dX9_isPart_12 : decode cX9_isPart 12 = .ok (.invokestatic 134, 3) := by decide +kernel
theorem dX9_isPart_15 : decode cX9_isPart 15 = .ok (.ireturn, 1) := by decide +kernel
set_option maxHeartbeats 4000000 in
set_option maxRecDepth 100000 in
theorem m_X9_isPart (l : Launch) (D : va_G) (cy : Nat → ClassId) (g : Nat → Nat) (σ : ST) (p1 : Int32) (sz : Nat) (hJ : J9 (σ 9))  : Met l yX9_isPart (ww yX9_isPart cX9_isPart 2 (some .boolean)) ({ frames := 2, cells := 0, slots := 0, locals := 128 }) (va_Pc [.ref (g 60), .int p1] (pr9 D cy g σ sz)) (qi9 D cy g sz (fun r τ => τ = σ ∧ ((0 : Int) ≤ r.toInt ∧ r.toInt ≤ 1) ∧ ((r.toInt = 0) ∨ ((0 : Int) ≤ p1.toInt ∧ p1.toInt ≤ 2)) ∧ ((r.toInt = 0) ∨ (0 ≤ p1.toInt ∧ p1.toInt < ((σ 9).2.2.1 17 4).toInt)) ∧ True)) 0 0 (A9 cy g sz) := by
  refine Met.ofW (cc := cX9_isPart) (maxL := 2) (ret := (some .boolean)) (by decide) rfl ?_
  intro p e s m args below meth c s₁ B hml hv
  obtain ⟨rfl, hsz, hP, hK, hD0, hC⟩ := hv
  have hx := B.exec
  have hb := B.bytes
  have hr := B.returns
  have hts := hts_g (atoms_spec (ws := ww yX9_isPart cX9_isPart 2 (some .boolean)) B.pre)
  have hown : s.vm.findClass RX9 = some m.cls := findClass_of_methodNamed B.named
  have hlocks := B.notSynchronized
  clear B
  subst hsz
  have hD := fun τ => A9_D (sz := s.heap.size) hD0 τ
  clear hD0
  have hS : va_S (A9 cy g s.heap.size) s.heap s.heap [] := va_S.rf
  have hl := lv_entry ([.ref (g 60), .int p1]) (n := 2) (Nat.le_of_ble_eq_true rfl)
  rw [lg_entry_eq]
  generalize (lg_sl ([.ref (g 60), .int p1]) ++ List.replicate (2 - (lg_sl ([.ref (g 60), .int p1])).length) Slot.unset).toArray = ls at hl ⊢
  have hl : lv_has ls 2 [(0, .ref (g 60)), (1, .int p1)] := hl
  refine lv_iload_n hx hb dX9_isPart_0 rfl (lv_at hl 1 rfl) ?_
  refine lv_i2l (v := p1.toInt64) hx hb dX9_isPart_1 rfl ?_
  refine lv_lconst (v := 0) hx hb dX9_isPart_2 (by decide) ?_
  refine lv_aload_n hx hb dX9_isPart_3 rfl (lv_at hl 0 rfl) ?_
  refine g9_17 hx hb hts hown hK hP (hts _ q1377) dX9_isPart_4 ?_
  refine lv_iconst (v := 4) hx hb dX9_isPart_7 (by decide) ?_
  refine l9_17 (x := ((σ 9).2.2.1 17 4)) hx hb hK hP (vpi (by decide)) (congrArg ((σ 9).2.2.1 17) (show (4 : Int32).toInt.toNat = 4 by decide)) dX9_isPart_8 ?_
  refine lv_iconst (v := 1) hx hb dX9_isPart_9 (by decide) ?_
  refine lv_isub hx hb dX9_isPart_10 ?_
  refine lv_topi (fun x1 ex1 => ?_)
  have t2 := subO ex1 (by have f0 := a9_17 hJ (j := 4) rfl; have z1 : (1 : Int32).toInt = 1 := (by decide); omega)
  refine lv_i2l (v := x1.toInt64) hx hb dX9_isPart_11 rfl ?_
  refine va_calli (va_runS (As := [.long p1.toInt64, .long 0, .long x1.toInt64]) (rest := []) ⟨hx, hb, hml, hown, hts⟩ (m_X9_in l D cy g σ p1.toInt64 (0) x1.toInt64 _ hJ ) (va_cwS 3 hts (gd_S q1550 q1551 q134 q1552) rfl rfl rfl (by decide +kernel) ⟨Nat.le_of_ble_eq_true rfl, Nat.le_of_ble_eq_true rfl⟩) (ps9 hP hK hD hC hS) rfl rfl hl.1 rfl (lv_room (Nat.le_of_ble_eq_true rfl)) dX9_isPart_12 ⟨Nat.le_of_ble_eq_true rfl, Nat.le_of_ble_eq_true rfl⟩) hS (fun q _ h => up9 hS q h) (up9 hS) (fun r3 σ4 tS H1 locs ht hvm hw5 hB hz1 hk1 hS => ?_)
  have hP : va_P D clz (WD9 cy g σ4) H1 := by rw [← ht]; exact hB
  clear hB hz1 hk1 hvm ht
  generalize H1 = H at hP hS ⊢
  have hw5E : σ = σ4 := (hw5.1).symm
  subst hw5E
  have b6 : (0 : Int) ≤ r3.toInt ∧ r3.toInt ≤ 1 := hw5.2.1
  have b7 : (r3.toInt = 1 ∧ (0 : Int64).toInt ≤ p1.toInt64.toInt ∧ p1.toInt64.toInt ≤ x1.toInt64.toInt) ∨ (r3.toInt = 0 ∧ ¬ ((0 : Int64).toInt ≤ p1.toInt64.toInt ∧ p1.toInt64.toInt ≤ x1.toInt64.toInt)) := hw5.2.2.1
  exact W.zret (v := r3) hx hb hr (nrZ (by have f0 := b6; have f1 := b7; have f2 := t64 (a := p1); have f3 := t64 (a := x1); have f4 := rg32 p1; have f5 := t2; have f6 := rg32 x1; have f7 := a9_17 hJ (j := 4) rfl; have g0 := rg32 p1; have g2 := rg32 r3; have zl0 : (0 : Int64).toInt = 0 := (by decide); have z1 : (1 : Int32).toInt = 1 := (by decide); have w12 := t64 (a := p1); have w13 := t64 (a := x1); omega)) (fun tS ht hW => ⟨⟨r3, σ, rfl, ⟨rfl, (show (0 : Int) ≤ r3.toInt ∧ r3.toInt ≤ 1 from (by have f0 := b6; have f1 := b7; have f2 := t64 (a := p1); have f3 := t64 (a := x1); have f4 := rg32 p1; have f5 := t2; have f6 := rg32 x1; have f7 := a9_17 hJ (j := 4) rfl; have g0 := rg32 p1; have g2 := rg32 r3; have zl0 : (0 : Int64).toInt = 0 := (by decide); have z1 : (1 : Int32).toInt = 1 := (by decide); have w12 := t64 (a := p1); have w13 := t64 (a := x1); omega)), (show (r3.toInt = 0) ∨ ((0 : Int) ≤ p1.toInt ∧ p1.toInt ≤ 2) from (by have f0 := t64 (a := p1); have f1 := rg32 p1; have f2 := b6; have f3 := b7; have f4 := t64 (a := x1); have f5 := t2; have f6 := rg32 x1; have f7 := a9_17 hJ (j := 4) rfl; have g0 := rg32 p1; have g2 := rg32 r3; have zl0 : (0 : Int64).toInt = 0 := (by decide); have z1 : (1 : Int32).toInt = 1 := (by decide); have w12 := t64 (a := p1); have w13 := t64 (a := x1); omega)), (show (r3.toInt = 0) ∨ (0 ≤ p1.toInt ∧ p1.toInt < ((σ 9).2.2.1 17 4).toInt) from (by have f0 := a9_17 hJ (j := 4) rfl; have f1 := t64 (a := p1); have f2 := rg32 p1; have f3 := t2; have f4 := b6; have f5 := b7; have f6 := t64 (a := x1); have f7 := rg32 x1; have g1 := rg32 p1; have g3 := rg32 r3; have zl0 : (0 : Int64).toInt = 0 := (by decide); have z1 : (1 : Int32).toInt = 1 := (by decide); have w12 := t64 (a := p1); have w13 := t64 (a := x1); omega)), trivial⟩, (show va_P D clz (WD9 cy g σ) tS.heap by rw [ht]; exact hP)⟩, hS.F ht⟩) hS.2.2 dX9_isPart_15

theorem q1721 : Cond.code yX9_isTone cX9_isTone 3 (some .boolean) ∈ lw_g := lw_gm (List.mem_of_getElem? (i := 1721) (by decide +kernel)) rfl
theorem q1722 : Cond.methodLink RX9 303 yX9_isPart ∈ lw_g := lw_gm (List.mem_of_getElem? (i := 1722) (by decide +kernel)) rfl
theorem q1724 : Cond.instanceMethod yX9_isPart ∈ lw_g := lw_gm (List.mem_of_getElem? (i := 1724) (by decide +kernel)) rfl
theorem q74 : Cond.selects RX9 yX9_isPart yX9_isPart ∈ lw_g := lw_gm (List.mem_of_getElem? (i := 74) (by decide +kernel)) rfl
theorem q1380 : Cond.fieldLink RX9 43 "LipsAndSlidesModel" "tones" "[I" ∈ lw_g := lw_gm (List.mem_of_getElem? (i := 1380) (by decide +kernel)) rfl
theorem dX9_isTone_0 : decode cX9_isTone 0 = .ok (.aload_n 0, 1) := by decide +kernel
theorem dX9_isTone_1 : decode cX9_isTone 1 = .ok (.iload_n 1, 1) := by decide +kernel
theorem dX9_isTone_2 : decode cX9_isTone 2 = .ok (.invokevirtual 303, 3) := by decide +kernel
theorem dX9_isTone_5 : decode cX9_isTone 5 = .ok (.ifCond .eq 25, 3) := by decide +kernel
theorem dX9_isTone_8 : decode cX9_isTone 8 = .ok (.iload_n 2, 1) := by decide +kernel
theorem dX9_isTone_9 : decode cX9_isTone 9 = .ok (.i2l, 1) := by decide +kernel
theorem dX9_isTone_10 : decode cX9_isTone 10 = .ok (.lconst 0, 1) := by decide +kernel
theorem dX9_isTone_11 : decode cX9_isTone 11 = .ok (.aload_n 0, 1) := by decide +kernel
theorem dX9_isTone_12 : decode cX9_isTone 12 = .ok (.getfield 43, 3) := by decide +kernel
theorem dX9_isTone_15 : decode cX9_isTone 15 = .ok (.iload_n 1, 1) := by decide +kernel
theorem dX9_isTone_16 : decode cX9_isTone 16 = .ok (.iaload, 1) := by decide +kernel
theorem dX9_isTone_17 : decode cX9_isTone 17 = .ok (.iconst 1, 1) := by decide +kernel
theorem dX9_isTone_18 : decode cX9_isTone 18 = .ok (.isub, 1) := by decide +kernel
theorem dX9_isTone_19 : decode cX9_isTone 19 = .ok (.i2l, 1) := by decide +kernel
theorem dX9_isTone_20 : decode cX9_isTone 20 = .ok (.invokestatic 134, 3) := by decide +kernel
theorem dX9_isTone_23 : decode cX9_isTone 23 = .ok (.ifCond .eq 7, 3) := by decide +kernel
theorem dX9_isTone_26 : decode cX9_isTone 26 = .ok (.iconst 1, 1) := by decide +kernel
theorem dX9_isTone_27 : decode cX9_isTone 27 = .ok (.goto 4, 3) := by decide +kernel
theorem dX9_isTone_30 : decode cX9_isTone 30 = .ok (.iconst 0, 1) := by decide +kernel
theorem dX9_isTone_31 : decode cX9_isTone 31 = .ok (.ireturn, 1) := by decide +kernel
set_option maxHeartbeats 4000000 in
set_option maxRecDepth 100000 in
theorem m_X9_isTone (l : Launch) (D : va_G) (cy : Nat → ClassId) (g : Nat → Nat) (σ : ST) (p1 : Int32) (p2 : Int32) (sz : Nat) (hJ : J9 (σ 9))  : Met l yX9_isTone (ww yX9_isTone cX9_isTone 3 (some .boolean)) ({ frames := 3, cells := 0, slots := 0, locals := 192 }) (va_Pc [.ref (g 60), .int p1, .int p2] (pr9 D cy g σ sz)) (qi9 D cy g sz (fun r τ => τ = σ ∧ ((0 : Int) ≤ r.toInt ∧ r.toInt ≤ 1) ∧ ((r.toInt = 0) ∨ ((0 : Int) ≤ p1.toInt ∧ p1.toInt ≤ 2 ∧ (0 : Int) ≤ p2.toInt ∧ p2.toInt ≤ 15)) ∧ True)) 0 0 (A9 cy g sz) := by
  refine Met.ofW (cc := cX9_isTone) (maxL := 3) (ret := (some .boolean)) (by decide) rfl ?_
  intro p e s m args below meth c s₁ B hml hv
  obtain ⟨rfl, hsz, hP, hK, hD0, hC⟩ := hv
  have hx := B.exec
  have hb := B.bytes
  have hr := B.returns
  have hts := hts_g (atoms_spec (ws := ww yX9_isTone cX9_isTone 3 (some .boolean)) B.pre)
  have hown : s.vm.findClass RX9 = some m.cls := findClass_of_methodNamed B.named
  have hlocks := B.notSynchronized
  clear B
  subst hsz
  have hD := fun τ => A9_D (sz := s.heap.size) hD0 τ
  clear hD0
  have hS : va_S (A9 cy g s.heap.size) s.heap s.heap [] := va_S.rf
  have hl := lv_entry ([.ref (g 60), .int p1, .int p2]) (n := 3) (Nat.le_of_ble_eq_true rfl)
  rw [lg_entry_eq]
  generalize (lg_sl ([.ref (g 60), .int p1, .int p2]) ++ List.replicate (3 - (lg_sl ([.ref (g 60), .int p1, .int p2])).length) Slot.unset).toArray = ls at hl ⊢
  have hl : lv_has ls 3 [(0, .ref (g 60)), (1, .int p1), (2, .int p2)] := hl
  refine lv_aload_n hx hb dX9_isTone_0 rfl (lv_at hl 0 rfl) ?_
  refine lv_iload_n hx hb dX9_isTone_1 rfl (lv_at hl 1 rfl) ?_
  refine va_calli (va_runV (As := [.int p1]) (rest := []) ⟨hx, hb, hml, hown, hts⟩ (m_X9_isPart l D cy g σ p1 _ hJ ) (cwV 1 hts (gd_V q1722 q1724 q74 q134 q1725) rfl rfl rfl (by decide +kernel) ⟨Nat.le_of_ble_eq_true rfl, Nat.le_of_ble_eq_true rfl⟩) (pv9 hP hK hD hC hS (va_recv hK hP (ci := 9) (q0 := 0) rfl rfl)) rfl rfl hl.1 rfl (lv_room (Nat.le_of_ble_eq_true rfl)) dX9_isTone_2 ⟨Nat.le_of_ble_eq_true rfl, Nat.le_of_ble_eq_true rfl⟩) hS (fun q _ h => up9 hS q h) (up9 hS) (fun r1 σ2 tS H1 locs ht hvm hw3 hB hz1 hk1 hS => ?_)
  have hP : va_P D clz (WD9 cy g σ2) H1 := by rw [← ht]; exact hB
  clear hB hz1 hk1 hvm ht
  generalize H1 = H at hP hS ⊢
  have hw3E : σ = σ2 := (hw3.1).symm
  subst hw3E
  have b4 : (0 : Int) ≤ r1.toInt ∧ r1.toInt ≤ 1 := hw3.2.1
  have b5 : (r1.toInt = 0) ∨ ((0 : Int) ≤ p1.toInt ∧ p1.toInt ≤ 2) := hw3.2.2.1
  have b6 : (r1.toInt = 0) ∨ (0 ≤ p1.toInt ∧ p1.toInt < ((σ 9).2.2.1 17 4).toInt) := hw3.2.2.2.1
  refine lv_if_eq (tgt := 30) hx hb dX9_isTone_5 (by decide) (fun c7 => ?_) (fun c7 => ?_)
  ·
    have k8 := peq32 c7
    refine lv_iconst (v := 0) hx hb dX9_isTone_30 (by decide) ?_
    exact W.zret (v := 0) hx hb hr rfl (fun tS ht hW => ⟨⟨0, σ, rfl, ⟨rfl, (show (0 : Int) ≤ (0 : Int32).toInt ∧ (0 : Int32).toInt ≤ 1 from (by have z0 : (0 : Int32).toInt = 0 := (by decide); omega)), (show ((0 : Int32).toInt = 0) ∨ ((0 : Int) ≤ p1.toInt ∧ p1.toInt ≤ 2 ∧ (0 : Int) ≤ p2.toInt ∧ p2.toInt ≤ 15) from (by have f0 := b5; have f1 := b6; have f2 := a9_17 hJ (j := 4) rfl; have f3 := b4; have f4 := k8; have g1 := rg32 p1; have g2 := rg32 p2; have z0 : (0 : Int32).toInt = 0 := (by decide); omega)), trivial⟩, (show va_P D clz (WD9 cy g σ) tS.heap by rw [ht]; exact hP)⟩, hS.F ht⟩) hS.2.2 dX9_isTone_31
  ·
    have k9 := neq32 c7
    refine lv_iload_n hx hb dX9_isTone_8 rfl (lv_at hl 2 rfl) ?_
    refine lv_i2l (v := p2.toInt64) hx hb dX9_isTone_9 rfl ?_
    refine lv_lconst (v := 0) hx hb dX9_isTone_10 (by decide) ?_
    refine lv_aload_n hx hb dX9_isTone_11 rfl (lv_at hl 0 rfl) ?_
    refine g9_20 hx hb hts hown hK hP (hts _ q1380) dX9_isTone_12 ?_
    refine lv_iload_n hx hb dX9_isTone_15 rfl (lv_at hl 1 rfl) ?_
    obtain ⟨x10, ex10⟩ : ∃ z, (σ 9).2.2.1 20 p1.toInt.toNat = z := ⟨_, rfl⟩
    refine l9_20 (x := x10) hx hb hK hP (vpo (by have f0 := b5; have f1 := b6; have f2 := a9_17 hJ (j := 4) rfl; have f3 := b4; have f4 := k9; have g1 := rg32 p1; have z0 : (0 : Int32).toInt = 0 := (by decide); omega)) ex10 dX9_isTone_16 ?_
    have t11 := a9_20 hJ ex10
    refine lv_iconst (v := 1) hx hb dX9_isTone_17 (by decide) ?_
    refine lv_isub hx hb dX9_isTone_18 ?_
    refine lv_topi (fun x12 ex12 => ?_)
    have t13 := subO ex12 (by have f0 := t11; have f1 := b5; have f2 := b6; have f3 := a9_17 hJ (j := 4) rfl; have f4 := b4; have f5 := k9; have g1 := rg32 x10; have z0 : (0 : Int32).toInt = 0 := (by decide); have z1 : (1 : Int32).toInt = 1 := (by decide); omega)
    refine lv_i2l (v := x12.toInt64) hx hb dX9_isTone_19 rfl ?_
    refine va_calli (va_runS (As := [.long p2.toInt64, .long 0, .long x12.toInt64]) (rest := []) ⟨hx, hb, hml, hown, hts⟩ (m_X9_in l D cy g σ p2.toInt64 (0) x12.toInt64 _ hJ ) (va_cwS 3 hts (gd_S q1550 q1551 q134 q1552) rfl rfl rfl (by decide +kernel) ⟨Nat.le_of_ble_eq_true rfl, Nat.le_of_ble_eq_true rfl⟩) (ps9 hP hK hD hC hS) rfl rfl hl.1 rfl (lv_room (Nat.le_of_ble_eq_true rfl)) dX9_isTone_20 ⟨Nat.le_of_ble_eq_true rfl, Nat.le_of_ble_eq_true rfl⟩) hS (fun q _ h => up9 hS q h) (up9 hS) (fun r14 σ15 tS H1 locs ht hvm hw16 hB hz1 hk1 hS => ?_)
    have hP : va_P D clz (WD9 cy g σ15) H1 := by rw [← ht]; exact hB
    clear hB hz1 hk1 hvm ht
    generalize H1 = H at hP hS ⊢
    have hw16E : σ = σ15 := (hw16.1).symm
    subst hw16E
    have b17 : (0 : Int) ≤ r14.toInt ∧ r14.toInt ≤ 1 := hw16.2.1
    have b18 : (r14.toInt = 1 ∧ (0 : Int64).toInt ≤ p2.toInt64.toInt ∧ p2.toInt64.toInt ≤ x12.toInt64.toInt) ∨ (r14.toInt = 0 ∧ ¬ ((0 : Int64).toInt ≤ p2.toInt64.toInt ∧ p2.toInt64.toInt ≤ x12.toInt64.toInt)) := hw16.2.2.1
    refine lv_if_eq (tgt := 30) hx hb dX9_isTone_23 (by decide) (fun c19 => ?_) (fun c19 => ?_)
    ·
      have k20 := peq32 c19
      refine lv_iconst (v := 0) hx hb dX9_isTone_30 (by decide) ?_
      exact W.zret (v := 0) hx hb hr rfl (fun tS ht hW => ⟨⟨0, σ, rfl, ⟨rfl, (show (0 : Int) ≤ (0 : Int32).toInt ∧ (0 : Int32).toInt ≤ 1 from (by have z0 : (0 : Int32).toInt = 0 := (by decide); omega)), (show ((0 : Int32).toInt = 0) ∨ ((0 : Int) ≤ p1.toInt ∧ p1.toInt ≤ 2 ∧ (0 : Int) ≤ p2.toInt ∧ p2.toInt ≤ 15) from (by have f0 := b5; have f1 := b6; have f2 := t64 (a := p2); have f3 := rg32 p2; have f4 := t11; have f5 := a9_17 hJ (j := 4) rfl; have f6 := b4; have f7 := k9; have f8 := t13; have f9 := b18; have f10 := t64 (a := x12); have f11 := rg32 x12; have f12 := b17; have f13 := k20; have g1 := rg32 p1; have g2 := rg32 p2; have z0 : (0 : Int32).toInt = 0 := (by decide); have zl0 : (0 : Int64).toInt = 0 := (by decide); have z1 : (1 : Int32).toInt = 1 := (by decide); have w19 := t64 (a := p2); have w20 := t64 (a := x12); omega)), trivial⟩, (show va_P D clz (WD9 cy g σ) tS.heap by rw [ht]; exact hP)⟩, hS.F ht⟩) hS.2.2 dX9_isTone_31
    ·
      have k21 := neq32 c19
      refine lv_iconst (v := 1) hx hb dX9_isTone_26 (by decide) ?_
      refine lv_goto (tgt := 31) hx hb dX9_isTone_27 (by decide) ?_
      exact W.zret (v := 1) hx hb hr rfl (fun tS ht hW => ⟨⟨1, σ, rfl, ⟨rfl, (show (0 : Int) ≤ (1 : Int32).toInt ∧ (1 : Int32).toInt ≤ 1 from (by have z1 : (1 : Int32).toInt = 1 := (by decide); omega)), (show ((1 : Int32).toInt = 0) ∨ ((0 : Int) ≤ p1.toInt ∧ p1.toInt ≤ 2 ∧ (0 : Int) ≤ p2.toInt ∧ p2.toInt ≤ 15) from (by have f0 := b5; have f1 := b6; have f2 := t64 (a := p2); have f3 := rg32 p2; have f4 := t11; have f5 := a9_17 hJ (j := 4) rfl; have f6 := b4; have f7 := k9; have f8 := t13; have f9 := b18; have f10 := t64 (a := x12); have f11 := rg32 x12; have f12 := b17; have f13 := k21; have g1 := rg32 p1; have g2 := rg32 p2; have z0 : (0 : Int32).toInt = 0 := (by decide); have zl0 : (0 : Int64).toInt = 0 := (by decide); have z1 : (1 : Int32).toInt = 1 := (by decide); have w19 := t64 (a := p2); have w20 := t64 (a := x12); omega)), trivial⟩, (show va_P D clz (WD9 cy g σ) tS.heap by rw [ht]; exact hP)⟩, hS.F ht⟩) hS.2.2 dX9_isTone_31

theorem q1730 : Cond.code yX9_toneOf cX9_toneOf 4 (some .int) ∈ lw_g := lw_gm (List.mem_of_getElem? (i := 1730) (by decide +kernel)) rfl
theorem q1381 : Cond.fieldLink RX9 46 "LipsAndSlidesModel" "tone" "[I" ∈ lw_g := lw_gm (List.mem_of_getElem? (i := 1381) (by decide +kernel)) rfl
theorem dX9_toneOf_0 : decode cX9_toneOf 0 = .ok (.aload_n 0, 1) := by decide +kernel
theorem dX9_toneOf_1 : decode cX9_toneOf 1 = .ok (.getfield 46, 3) := by decide +kernel
theorem dX9_toneOf_4 : decode cX9_toneOf 4 = .ok (.iconst 4, 1) := by decide +kernel
theorem dX9_toneOf_5 : decode cX9_toneOf 5 = .ok (.bipush 16, 2) := by decide +kernel
theorem dX9_toneOf_7 : decode cX9_toneOf 7 = .ok (.iload_n 1, 1) := by decide +kernel
theorem dX9_toneOf_8 : decode cX9_toneOf 8 = .ok (.imul, 1) := by decide +kernel
theorem dX9_toneOf_9 : decode cX9_toneOf 9 = .ok (.iload_n 2, 1) := by decide +kernel
theorem dX9_toneOf_10 : decode cX9_toneOf 10 = .ok (.iadd, 1) := by decide +kernel
theorem dX9_toneOf_11 : decode cX9_toneOf 11 = .ok (.imul, 1) := by decide +kernel
theorem dX9_toneOf_12 : decode cX9_toneOf 12 = .ok (.iload_n 3, 1) := by decide +kernel
theorem dX9_toneOf_13 : decode cX9_toneOf 13 = .ok (.iadd, 1) := by decide +kernel
theorem dX9_toneOf_14 : decode cX9_toneOf 14 = .ok (.iaload, 1) := by decide +kernel
theorem dX9_toneOf_15 : decode cX9_toneOf 15 = .ok (.ireturn, 1) := by decide +kernel
set_option maxHeartbeats 4000000 in
set_option maxRecDepth 100000 in
theorem m_X9_toneOf (l : Launch) (D : va_G) (cy : Nat → ClassId) (g : Nat → Nat) (σ : ST) (p1 : Int32) (p2 : Int32) (p3 : Int32) (sz : Nat) (hJ : J9 (σ 9)) (h0 : (0 : Int) ≤ p1.toInt ∧ p1.toInt ≤ 2) (h1 : (0 : Int) ≤ p2.toInt ∧ p2.toInt ≤ 15) (h2 : (0 : Int) ≤ p3.toInt ∧ p3.toInt ≤ 3) : Met l yX9_toneOf (ww yX9_toneOf cX9_toneOf 4 (some .int)) ({ frames := 1, cells := 0, slots := 0, locals := 64 }) (va_Pc [.ref (g 60), .int p1, .int p2, .int p3] (pr9 D cy g σ sz)) (qi9 D cy g sz (fun r τ => τ = σ ∧ ((-1 : Int) ≤ r.toInt ∧ r.toInt ≤ 60) ∧ (¬ p3.toInt = 1 ∨ 0 ≤ r.toInt) ∧ True)) 0 0 (A9 cy g sz) := by
  refine Met.ofW (cc := cX9_toneOf) (maxL := 4) (ret := (some .int)) (by decide) rfl ?_
  intro p e s m args below meth c s₁ B hml hv
  obtain ⟨rfl, hsz, hP, hK, hD0, hC⟩ := hv
  have hx := B.exec
  have hb := B.bytes
  have hr := B.returns
  have hts := hts_g (atoms_spec (ws := ww yX9_toneOf cX9_toneOf 4 (some .int)) B.pre)
  have hown : s.vm.findClass RX9 = some m.cls := findClass_of_methodNamed B.named
  have hlocks := B.notSynchronized
  clear B
  subst hsz
  have hD := fun τ => A9_D (sz := s.heap.size) hD0 τ
  clear hD0
  have hS : va_S (A9 cy g s.heap.size) s.heap s.heap [] := va_S.rf
  have hl := lv_entry ([.ref (g 60), .int p1, .int p2, .int p3]) (n := 4) (Nat.le_of_ble_eq_true rfl)
  rw [lg_entry_eq]
  generalize (lg_sl ([.ref (g 60), .int p1, .int p2, .int p3]) ++ List.replicate (4 - (lg_sl ([.ref (g 60), .int p1, .int p2, .int p3])).length) Slot.unset).toArray = ls at hl ⊢
  have hl : lv_has ls 4 [(0, .ref (g 60)), (1, .int p1), (2, .int p2), (3, .int p3)] := hl
  refine lv_aload_n hx hb dX9_toneOf_0 rfl (lv_at hl 0 rfl) ?_
  refine g9_21 hx hb hts hown hK hP (hts _ q1381) dX9_toneOf_1 ?_
  refine lv_iconst (v := 4) hx hb dX9_toneOf_4 (by decide) ?_
  refine lv_bipush (v := 16) hx hb dX9_toneOf_5 (by decide) ?_
  refine lv_iload_n hx hb dX9_toneOf_7 rfl (lv_at hl 1 rfl) ?_
  refine lv_imul hx hb dX9_toneOf_8 ?_
  refine lv_topi (fun x1 ex1 => ?_)
  have t2 := mulC' (n := 16) ex1 (by decide) (by have f0 := h0; have g0 := rg32 p1; omega)
  refine lv_iload_n hx hb dX9_toneOf_9 rfl (lv_at hl 2 rfl) ?_
  refine lv_iadd hx hb dX9_toneOf_10 ?_
  refine lv_topi (fun x3 ex3 => ?_)
  have t4 := addO ex3 (by have f0 := h1; have f1 := t2; have f2 := h0; have g0 := rg32 p2; have g1 := rg32 x1; omega)
  refine lv_imul hx hb dX9_toneOf_11 ?_
  refine lv_topi (fun x5 ex5 => ?_)
  have t6 := mulC' (n := 4) ex5 (by decide) (by have f0 := t4; have f1 := h1; have f2 := t2; have f3 := h0; have g0 := rg32 x3; omega)
  refine lv_iload_n hx hb dX9_toneOf_12 rfl (lv_at hl 3 rfl) ?_
  refine lv_iadd hx hb dX9_toneOf_13 ?_
  refine lv_topi (fun x7 ex7 => ?_)
  have t8 := addO ex7 (by have f0 := h2; have f1 := t6; have f2 := t4; have f3 := h1; have f4 := t2; have f5 := h0; have g0 := rg32 p3; have g1 := rg32 x5; omega)
  obtain ⟨x9, ex9⟩ : ∃ z, (σ 9).2.2.1 21 x7.toInt.toNat = z := ⟨_, rfl⟩
  refine l9_21 (x := x9) hx hb hK hP (vpo (by have f0 := t8; have f1 := h2; have f2 := t6; have f3 := t4; have f4 := h1; have f5 := t2; have f6 := h0; have g0 := rg32 x7; omega)) ex9 dX9_toneOf_14 ?_
  have t10 := a9_21 hJ ex9
  exact W.iret (v := x9) hx hb hr (fun tS ht hW => ⟨⟨x9, σ, rfl, ⟨rfl, (show (-1 : Int) ≤ x9.toInt ∧ x9.toInt ≤ 60 from (by have f0 := t10; have f1 := t8; have f2 := h2; have f3 := t6; have f4 := t4; have f5 := h1; have f6 := t2; have f7 := h0; have g0 := rg32 x9; omega)), (show ¬ p3.toInt = 1 ∨ 0 ≤ x9.toInt from (by have f0 := h2; have f1 := t8; have f2 := t10; have f3 := t6; have f4 := t4; have f5 := h1; have f6 := t2; have f7 := h0; have g0 := rg32 p3; have g1 := rg32 x9; omega)), trivial⟩, (show va_P D clz (WD9 cy g σ) tS.heap by rw [ht]; exact hP)⟩, hS.F ht⟩) hS.2.2 dX9_toneOf_15

theorem q1841 : Cond.code yX9_isRest cX9_isRest 3 (some .boolean) ∈ lw_g := lw_gm (List.mem_of_getElem? (i := 1841) (by decide +kernel)) rfl
theorem q1727 : Cond.methodLink RX9 308 yX9_toneOf ∈ lw_g := lw_gm (List.mem_of_getElem? (i := 1727) (by decide +kernel)) rfl
theorem q1729 : Cond.instanceMethod yX9_toneOf ∈ lw_g := lw_gm (List.mem_of_getElem? (i := 1729) (by decide +kernel)) rfl
theorem q75 : Cond.selects RX9 yX9_toneOf yX9_toneOf ∈ lw_g := lw_gm (List.mem_of_getElem? (i := 75) (by decide +kernel)) rfl
theorem dX9_isRest_0 : decode cX9_isRest 0 = .ok (.aload_n 0, 1) := by decide +kernel
theorem dX9_isRest_1 : decode cX9_isRest 1 = .ok (.iload_n 1, 1) := by decide +kernel
theorem dX9_isRest_2 : decode cX9_isRest 2 = .ok (.iload_n 2, 1) := by decide +kernel
theorem dX9_isRest_3 : decode cX9_isRest 3 = .ok (.iconst 0, 1) := by decide +kernel
theorem dX9_isRest_4 : decode cX9_isRest 4 = .ok (.invokevirtual 308, 3) := by decide +kernel
theorem dX9_isRest_7 : decode cX9_isRest 7 = .ok (.iconst (-1), 1) := by decide +kernel
theorem dX9_isRest_8 : decode cX9_isRest 8 = .ok (.if_icmp .ne 7, 3) := by decide +kernel
theorem dX9_isRest_11 : decode cX9_isRest 11 = .ok (.iconst 1, 1) := by decide +kernel
theorem dX9_isRest_12 : decode cX9_isRest 12 = .ok (.goto 4, 3) := by decide +kernel
theorem dX9_isRest_15 : decode cX9_isRest 15 = .ok (.iconst 0, 1) := by decide +kernel
theorem dX9_isRest_16 : decode cX9_isRest 16 = .ok (.ireturn, 1) := by decide +kernel
set_option maxHeartbeats 4000000 in
set_option maxRecDepth 100000 in
theorem m_X9_isRest (l : Launch) (D : va_G) (cy : Nat → ClassId) (g : Nat → Nat) (σ : ST) (p1 : Int32) (p2 : Int32) (sz : Nat) (hJ : J9 (σ 9)) (h0 : (0 : Int) ≤ p1.toInt ∧ p1.toInt ≤ 2) (h1 : (0 : Int) ≤ p2.toInt ∧ p2.toInt ≤ 15) : Met l yX9_isRest (ww yX9_isRest cX9_isRest 3 (some .boolean)) ({ frames := 2, cells := 0, slots := 0, locals := 128 }) (va_Pc [.ref (g 60), .int p1, .int p2] (pr9 D cy g σ sz)) (qi9 D cy g sz (fun r τ => τ = σ ∧ ((0 : Int) ≤ r.toInt ∧ r.toInt ≤ 1) ∧ True)) 0 0 (A9 cy g sz) := by
  refine Met.ofW (cc := cX9_isRest) (maxL := 3) (ret := (some .boolean)) (by decide) rfl ?_
  intro p e s m args below meth c s₁ B hml hv
  obtain ⟨rfl, hsz, hP, hK, hD0, hC⟩ := hv
  have hx := B.exec
  have hb := B.bytes
  have hr := B.returns
  have hts := hts_g (atoms_spec (ws := ww yX9_isRest cX9_isRest 3 (some .boolean)) B.pre)
  have hown : s.vm.findClass RX9 = some m.cls := findClass_of_methodNamed B.named
  have hlocks := B.notSynchronized
  clear B
  subst hsz
  have hD := fun τ => A9_D (sz := s.heap.size) hD0 τ
  clear hD0
  have hS : va_S (A9 cy g s.heap.size) s.heap s.heap [] := va_S.rf
  have hl := lv_entry ([.ref (g 60), .int p1, .int p2]) (n := 3) (Nat.le_of_ble_eq_true rfl)
  rw [lg_entry_eq]
  generalize (lg_sl ([.ref (g 60), .int p1, .int p2]) ++ List.replicate (3 - (lg_sl ([.ref (g 60), .int p1, .int p2])).length) Slot.unset).toArray = ls at hl ⊢
  have hl : lv_has ls 3 [(0, .ref (g 60)), (1, .int p1), (2, .int p2)] := hl
  refine lv_aload_n hx hb dX9_isRest_0 rfl (lv_at hl 0 rfl) ?_
  refine lv_iload_n hx hb dX9_isRest_1 rfl (lv_at hl 1 rfl) ?_
  refine lv_iload_n hx hb dX9_isRest_2 rfl (lv_at hl 2 rfl) ?_
  refine lv_iconst (v := 0) hx hb dX9_isRest_3 (by decide) ?_
  refine va_calli (va_runV (As := [.int p1, .int p2, .int 0]) (rest := []) ⟨hx, hb, hml, hown, hts⟩ (m_X9_toneOf l D cy g σ p1 p2 (0) _ hJ (show (0 : Int) ≤ p1.toInt ∧ p1.toInt ≤ 2 from (by have f0 := h0; have g0 := rg32 p1; omega)) (show (0 : Int) ≤ p2.toInt ∧ p2.toInt ≤ 15 from (by have f0 := h0; have f1 := h1; have g0 := rg32 p1; have g1 := rg32 p2; omega)) (show (0 : Int) ≤ (0 : Int32).toInt ∧ (0 : Int32).toInt ≤ 3 from (by have f0 := h0; have f1 := h1; have g0 := rg32 p1; have g1 := rg32 p2; have z0 : (0 : Int32).toInt = 0 := (by decide); omega))) (cwV 3 hts (gd_V q1727 q1729 q75 q134 q1730) rfl rfl rfl (by decide +kernel) ⟨Nat.le_of_ble_eq_true rfl, Nat.le_of_ble_eq_true rfl⟩) (pv9 hP hK hD hC hS (va_recv hK hP (ci := 9) (q0 := 0) rfl rfl)) rfl rfl hl.1 rfl (lv_room (Nat.le_of_ble_eq_true rfl)) dX9_isRest_4 ⟨Nat.le_of_ble_eq_true rfl, Nat.le_of_ble_eq_true rfl⟩) hS (fun q _ h => up9 hS q h) (up9 hS) (fun r1 σ2 tS H1 locs ht hvm hw3 hB hz1 hk1 hS => ?_)
  have hP : va_P D clz (WD9 cy g σ2) H1 := by rw [← ht]; exact hB
  clear hB hz1 hk1 hvm ht
  generalize H1 = H at hP hS ⊢
  have hw3E : σ = σ2 := (hw3.1).symm
  subst hw3E
  have b4 : (-1 : Int) ≤ r1.toInt ∧ r1.toInt ≤ 60 := hw3.2.1
  have b5 : ¬ (0 : Int32).toInt = 1 ∨ 0 ≤ r1.toInt := hw3.2.2.1
  refine lv_iconst (v := (-1)) hx hb dX9_isRest_7 (by decide) ?_
  refine lv_icmp_ne (tgt := 15) hx hb dX9_isRest_8 (by decide) (fun c6 => ?_) (fun c6 => ?_)
  ·
    have k7 := neq32 c6
    refine lv_iconst (v := 0) hx hb dX9_isRest_15 (by decide) ?_
    exact W.zret (v := 0) hx hb hr rfl (fun tS ht hW => ⟨⟨0, σ, rfl, ⟨rfl, (show (0 : Int) ≤ (0 : Int32).toInt ∧ (0 : Int32).toInt ≤ 1 from (by have z0 : (0 : Int32).toInt = 0 := (by decide); omega)), trivial⟩, (show va_P D clz (WD9 cy g σ) tS.heap by rw [ht]; exact hP)⟩, hS.F ht⟩) hS.2.2 dX9_isRest_16
  ·
    have k8 := peq32 c6
    refine lv_iconst (v := 1) hx hb dX9_isRest_11 (by decide) ?_
    refine lv_goto (tgt := 16) hx hb dX9_isRest_12 (by decide) ?_
    exact W.zret (v := 1) hx hb hr rfl (fun tS ht hW => ⟨⟨1, σ, rfl, ⟨rfl, (show (0 : Int) ≤ (1 : Int32).toInt ∧ (1 : Int32).toInt ≤ 1 from (by have z1 : (1 : Int32).toInt = 1 := (by decide); omega)), trivial⟩, (show va_P D clz (WD9 cy g σ) tS.heap by rw [ht]; exact hP)⟩, hS.F ht⟩) hS.2.2 dX9_isRest_16

theorem q1700 : Cond.code yX9_brass cX9_brass 3 (some .int) ∈ lw_g := lw_gm (List.mem_of_getElem? (i := 1700) (by decide +kernel)) rfl
theorem q1701 : Cond.methodLink RX9 312 yX9_isBrass ∈ lw_g := lw_gm (List.mem_of_getElem? (i := 1701) (by decide +kernel)) rfl
theorem q1703 : Cond.instanceMethod yX9_isBrass ∈ lw_g := lw_gm (List.mem_of_getElem? (i := 1703) (by decide +kernel)) rfl
theorem q71 : Cond.selects RX9 yX9_isBrass yX9_isBrass ∈ lw_g := lw_gm (List.mem_of_getElem? (i := 71) (by decide +kernel)) rfl
theorem q1705 : Cond.constantLong RX9 315 (6) ∈ lw_g := lw_gm (List.mem_of_getElem? (i := 1705) (by decide +kernel)) rfl
theorem q1378 : Cond.fieldLink RX9 37 "LipsAndSlidesModel" "brass" "[I" ∈ lw_g := lw_gm (List.mem_of_getElem? (i := 1378) (by decide +kernel)) rfl
theorem dX9_brass_0 : decode cX9_brass 0 = .ok (.aload_n 0, 1) := by decide +kernel
theorem dX9_brass_1 : decode cX9_brass 1 = .ok (.iconst 0, 1) := by decide +kernel
theorem dX9_brass_2 : decode cX9_brass 2 = .ok (.putfield 129, 3) := by decide +kernel
theorem dX9_brass_5 : decode cX9_brass 5 = .ok (.aload_n 0, 1) := by decide +kernel
theorem dX9_brass_6 : decode cX9_brass 6 = .ok (.iload_n 1, 1) := by decide +kernel
theorem dX9_brass_7 : decode cX9_brass 7 = .ok (.invokevirtual 312, 3) := by decide +kernel
theorem dX9_brass_10 : decode cX9_brass 10 = .ok (.ifCond .eq 29, 3) := by decide +kernel
theorem dX9_brass_13 : decode cX9_brass 13 = .ok (.iload_n 2, 1) := by decide +kernel
theorem dX9_brass_14 : decode cX9_brass 14 = .ok (.i2l, 1) := by decide +kernel
theorem dX9_brass_15 : decode cX9_brass 15 = .ok (.lconst 0, 1) := by decide +kernel
theorem dX9_brass_16 : decode cX9_brass 16 = .ok (.ldc2_w 315, 3) := by decide +kernel
theorem dX9_brass_19 : decode cX9_brass 19 = .ok (.invokestatic 134, 3) := by decide +kernel
theorem dX9_brass_22 : decode cX9_brass 22 = .ok (.ifCond .eq 17, 3) := by decide +kernel
theorem dX9_brass_25 : decode cX9_brass 25 = .ok (.aload_n 0, 1) := by decide +kernel
theorem dX9_brass_26 : decode cX9_brass 26 = .ok (.getfield 37, 3) := by decide +kernel
theorem dX9_brass_29 : decode cX9_brass 29 = .ok (.bipush 7, 2) := by decide +kernel
theorem dX9_brass_31 : decode cX9_brass 31 = .ok (.iload_n 1, 1) := by decide +kernel
theorem dX9_brass_32 : decode cX9_brass 32 = .ok (.imul, 1) := by decide +kernel
theorem dX9_brass_33 : decode cX9_brass 33 = .ok (.iload_n 2, 1) := by decide +kernel
theorem dX9_brass_34 : decode cX9_brass 34 = .ok (.iadd, 1) := by decide +kernel
theorem dX9_brass_35 : decode cX9_brass 35 = .ok (.iaload, 1) := by decide +kernel
theorem dX9_brass_36 : decode cX9_brass 36 = .ok (.goto 5, 3) := by decide +kernel
theorem dX9_brass_39 : decode cX9_brass 39 = .ok (.bipush (-2), 2) := by decide +kernel
theorem dX9_brass_41 : decode cX9_brass 41 = .ok (.ireturn, 1) := by decide +kernel
set_option maxHeartbeats 4000000 in
set_option maxRecDepth 100000 in
theorem m_X9_brass (l : Launch) (D : va_G) (cy : Nat → ClassId) (g : Nat → Nat) (σ : ST) (p1 : Int32) (p2 : Int32) (sz : Nat) (hJ : J9 (σ 9))  : Met l yX9_brass (ww yX9_brass cX9_brass 3 (some .int)) ({ frames := 3, cells := 0, slots := 0, locals := 192 }) (va_Pc [.ref (g 60), .int p1, .int p2] (pr9 D cy g σ sz)) (qi9 D cy g sz (fun r τ => Fr (fL [0]) σ τ ∧ J9 (τ 9) ∧ True)) 0 0 (A9 cy g sz) := by
  refine Met.ofW (cc := cX9_brass) (maxL := 3) (ret := (some .int)) (by decide) rfl ?_
  intro p e s m args below meth c s₁ B hml hv
  obtain ⟨rfl, hsz, hP, hK, hD0, hC⟩ := hv
  have hx := B.exec
  have hb := B.bytes
  have hr := B.returns
  have hts := hts_g (atoms_spec (ws := ww yX9_brass cX9_brass 3 (some .int)) B.pre)
  have hown : s.vm.findClass RX9 = some m.cls := findClass_of_methodNamed B.named
  have hlocks := B.notSynchronized
  clear B
  subst hsz
  have hD := fun τ => A9_D (sz := s.heap.size) hD0 τ
  clear hD0
  have hS : va_S (A9 cy g s.heap.size) s.heap s.heap [] := va_S.rf
  have hl := lv_entry ([.ref (g 60), .int p1, .int p2]) (n := 3) (Nat.le_of_ble_eq_true rfl)
  rw [lg_entry_eq]
  generalize (lg_sl ([.ref (g 60), .int p1, .int p2]) ++ List.replicate (3 - (lg_sl ([.ref (g 60), .int p1, .int p2])).length) Slot.unset).toArray = ls at hl ⊢
  have hl : lv_has ls 3 [(0, .ref (g 60)), (1, .int p1), (2, .int p2)] := hl
  refine lv_aload_n hx hb dX9_brass_0 rfl (lv_at hl 0 rfl) ?_
  refine lv_iconst (v := 0) hx hb dX9_brass_1 (by decide) ?_
  refine p9_0 hx hb hts hown hK hP hD hS (hts _ q1360) dX9_brass_2 (fun H locs σ1 eσ1 hP hS => ?_)
  have hJ2 : J9 (σ1 9) := hJ.I eσ1 (show JI9 0 (0 : Int32) from trivial)
  refine lv_aload_n hx hb dX9_brass_5 rfl (lv_at hl 0 rfl) ?_
  refine lv_iload_n hx hb dX9_brass_6 rfl (lv_at hl 1 rfl) ?_
  refine va_calli (va_runV (As := [.int p1]) (rest := []) ⟨hx, hb, hml, hown, hts⟩ (m_X9_isBrass l D cy g σ1 p1 _ hJ2 ) (cwV 1 hts (gd_V q1701 q1703 q71 q134 q1704) rfl rfl rfl (by decide +kernel) ⟨Nat.le_of_ble_eq_true rfl, Nat.le_of_ble_eq_true rfl⟩) (pv9 hP hK hD hC hS (va_recv hK hP (ci := 9) (q0 := 0) rfl rfl)) rfl rfl hl.1 rfl (lv_room (Nat.le_of_ble_eq_true rfl)) dX9_brass_7 ⟨Nat.le_of_ble_eq_true rfl, Nat.le_of_ble_eq_true rfl⟩) hS (fun q _ h => up9 hS q h) (up9 hS) (fun r3 σ4 tS H1 locs ht hvm hw5 hB hz1 hk1 hS => ?_)
  have hP : va_P D clz (WD9 cy g σ4) H1 := by rw [← ht]; exact hB
  clear hB hz1 hk1 hvm ht
  generalize H1 = H at hP hS ⊢
  have hw5E : σ1 = σ4 := (hw5.1).symm
  subst hw5E
  have b6 : (0 : Int) ≤ r3.toInt ∧ r3.toInt ≤ 1 := hw5.2.1
  have b7 : (r3.toInt = 0) ∨ ((0 : Int) ≤ p1.toInt ∧ p1.toInt ≤ 3) := hw5.2.2.1
  have b8 : (r3.toInt = 0) ∨ (0 ≤ p1.toInt ∧ p1.toInt < ((σ1 9).2.2.1 17 2).toInt) := hw5.2.2.2.1
  refine lv_if_eq (tgt := 39) hx hb dX9_brass_10 (by decide) (fun c9 => ?_) (fun c9 => ?_)
  ·
    have k10 := peq32 c9
    refine lv_bipush (v := (-2)) hx hb dX9_brass_39 (by decide) ?_
    exact W.iret (v := (-2)) hx hb hr (fun tS ht hW => ⟨⟨(-2), σ1, rfl, ⟨Fr.tr (Fr.rf) (sI_f eσ1) (fN_L rfl), hJ2, trivial⟩, (show va_P D clz (WD9 cy g σ1) tS.heap by rw [ht]; exact hP)⟩, hS.F ht⟩) hS.2.2 dX9_brass_41
  ·
    have k11 := neq32 c9
    refine lv_iload_n hx hb dX9_brass_13 rfl (lv_at hl 2 rfl) ?_
    refine lv_i2l (v := p2.toInt64) hx hb dX9_brass_14 rfl ?_
    refine lv_lconst (v := 0) hx hb dX9_brass_15 (by decide) ?_
    refine lv_ldc2 (v := 6) hx hb hown (hts _ q1705) dX9_brass_16 ?_
    refine va_calli (va_runS (As := [.long p2.toInt64, .long 0, .long 6]) (rest := []) ⟨hx, hb, hml, hown, hts⟩ (m_X9_in l D cy g σ1 p2.toInt64 (0) (6) _ hJ2 ) (va_cwS 3 hts (gd_S q1550 q1551 q134 q1552) rfl rfl rfl (by decide +kernel) ⟨Nat.le_of_ble_eq_true rfl, Nat.le_of_ble_eq_true rfl⟩) (ps9 hP hK hD hC hS) rfl rfl hl.1 rfl (lv_room (Nat.le_of_ble_eq_true rfl)) dX9_brass_19 ⟨Nat.le_of_ble_eq_true rfl, Nat.le_of_ble_eq_true rfl⟩) hS (fun q _ h => up9 hS q h) (up9 hS) (fun r12 σ13 tS H1 locs ht hvm hw14 hB hz1 hk1 hS => ?_)
    have hP : va_P D clz (WD9 cy g σ13) H1 := by rw [← ht]; exact hB
    clear hB hz1 hk1 hvm ht
    generalize H1 = H at hP hS ⊢
    have hw14E : σ1 = σ13 := (hw14.1).symm
    subst hw14E
    have b15 : (0 : Int) ≤ r12.toInt ∧ r12.toInt ≤ 1 := hw14.2.1
    have b16 : (r12.toInt = 1 ∧ (0 : Int64).toInt ≤ p2.toInt64.toInt ∧ p2.toInt64.toInt ≤ (6 : Int64).toInt) ∨ (r12.toInt = 0 ∧ ¬ ((0 : Int64).toInt ≤ p2.toInt64.toInt ∧ p2.toInt64.toInt ≤ (6 : Int64).toInt)) := hw14.2.2.1
    refine lv_if_eq (tgt := 39) hx hb dX9_brass_22 (by decide) (fun c17 => ?_) (fun c17 => ?_)
    ·
      have k18 := peq32 c17
      refine lv_bipush (v := (-2)) hx hb dX9_brass_39 (by decide) ?_
      exact W.iret (v := (-2)) hx hb hr (fun tS ht hW => ⟨⟨(-2), σ1, rfl, ⟨Fr.tr (Fr.rf) (sI_f eσ1) (fN_L rfl), hJ2, trivial⟩, (show va_P D clz (WD9 cy g σ1) tS.heap by rw [ht]; exact hP)⟩, hS.F ht⟩) hS.2.2 dX9_brass_41
    ·
      have k19 := neq32 c17
      refine lv_aload_n hx hb dX9_brass_25 rfl (lv_at hl 0 rfl) ?_
      refine g9_18 hx hb hts hown hK hP (hts _ q1378) dX9_brass_26 ?_
      refine lv_bipush (v := 7) hx hb dX9_brass_29 (by decide) ?_
      refine lv_iload_n hx hb dX9_brass_31 rfl (lv_at hl 1 rfl) ?_
      refine lv_imul hx hb dX9_brass_32 ?_
      refine lv_topi (fun x20 ex20 => ?_)
      have t21 := mulC' (n := 7) ex20 (by decide) (by have f0 := b7; have f1 := b8; have f2 := a9_17 hJ2 (j := 2) rfl; have f3 := congrArg Int32.toInt (show ((σ1 9).2.2.1 17 2) = ((σ 9).2.2.1 17 2) from congrFun (((sI_f eσ1) 9 17 rfl).2.2.1) _); have f4 := b6; have f5 := k11; have f6 := a9_17 hJ (j := 2) rfl; have g2 := rg32 p1; have z0 : (0 : Int32).toInt = 0 := (by decide); omega)
      refine lv_iload_n hx hb dX9_brass_33 rfl (lv_at hl 2 rfl) ?_
      refine lv_iadd hx hb dX9_brass_34 ?_
      refine lv_topi (fun x22 ex22 => ?_)
      have t23 := addO ex22 (by have f0 := t64 (a := p2); have f1 := rg32 p2; have f2 := t21; have f3 := b7; have f4 := b8; have f5 := b16; have f6 := a9_17 hJ2 (j := 2) rfl; have f7 := congrArg Int32.toInt (show ((σ1 9).2.2.1 17 2) = ((σ 9).2.2.1 17 2) from congrFun (((sI_f eσ1) 9 17 rfl).2.2.1) _); have f8 := b6; have f9 := k11; have f10 := b15; have f11 := k19; have f12 := a9_17 hJ (j := 2) rfl; have g2 := rg32 p2; have g3 := rg32 x20; have z0 : (0 : Int32).toInt = 0 := (by decide); have zl0 : (0 : Int64).toInt = 0 := (by decide); have zl6 : (6 : Int64).toInt = 6 := (by decide); have w18 := t64 (a := p2); omega)
      obtain ⟨x24, ex24⟩ : ∃ z, (σ 9).2.2.1 18 x22.toInt.toNat = z := ⟨_, rfl⟩
      refine l9_18 (x := x24) hx hb hK hP (vpo (by have f0 := t23; have f1 := t64 (a := p2); have f2 := rg32 p2; have f3 := t21; have f4 := b7; have f5 := b8; have f6 := b16; have f7 := a9_17 hJ2 (j := 2) rfl; have f8 := congrArg Int32.toInt (show ((σ1 9).2.2.1 17 2) = ((σ 9).2.2.1 17 2) from congrFun (((sI_f eσ1) 9 17 rfl).2.2.1) _); have f9 := b6; have f10 := k11; have f11 := b15; have f12 := k19; have f13 := a9_17 hJ (j := 2) rfl; have g2 := rg32 x22; have z0 : (0 : Int32).toInt = 0 := (by decide); have zl0 : (0 : Int64).toInt = 0 := (by decide); have zl6 : (6 : Int64).toInt = 6 := (by decide); have w18 := t64 (a := p2); omega)) ((congrFun (((sI_f eσ1) 9 18 rfl).2.2.1) _).trans ex24) dX9_brass_35 ?_
      have t25 := a9_18 hJ ex24
      refine lv_goto (tgt := 41) hx hb dX9_brass_36 (by decide) ?_
      exact W.iret (v := x24) hx hb hr (fun tS ht hW => ⟨⟨x24, σ1, rfl, ⟨Fr.tr (Fr.rf) (sI_f eσ1) (fN_L rfl), hJ2, trivial⟩, (show va_P D clz (WD9 cy g σ1) tS.heap by rw [ht]; exact hP)⟩, hS.F ht⟩) hS.2.2 dX9_brass_41

theorem q1709 : Cond.code yX9_player cX9_player 3 (some .int) ∈ lw_g := lw_gm (List.mem_of_getElem? (i := 1709) (by decide +kernel)) rfl
theorem q1710 : Cond.methodLink RX9 317 yX9_isPlayer ∈ lw_g := lw_gm (List.mem_of_getElem? (i := 1710) (by decide +kernel)) rfl
theorem q1712 : Cond.instanceMethod yX9_isPlayer ∈ lw_g := lw_gm (List.mem_of_getElem? (i := 1712) (by decide +kernel)) rfl
theorem q72 : Cond.selects RX9 yX9_isPlayer yX9_isPlayer ∈ lw_g := lw_gm (List.mem_of_getElem? (i := 72) (by decide +kernel)) rfl
theorem q1379 : Cond.fieldLink RX9 40 "LipsAndSlidesModel" "player" "[I" ∈ lw_g := lw_gm (List.mem_of_getElem? (i := 1379) (by decide +kernel)) rfl
theorem dX9_player_0 : decode cX9_player 0 = .ok (.aload_n 0, 1) := by decide +kernel
theorem dX9_player_1 : decode cX9_player 1 = .ok (.iconst 0, 1) := by decide +kernel
theorem dX9_player_2 : decode cX9_player 2 = .ok (.putfield 129, 3) := by decide +kernel
theorem dX9_player_5 : decode cX9_player 5 = .ok (.aload_n 0, 1) := by decide +kernel
theorem dX9_player_6 : decode cX9_player 6 = .ok (.iload_n 1, 1) := by decide +kernel
theorem dX9_player_7 : decode cX9_player 7 = .ok (.invokevirtual 317, 3) := by decide +kernel
theorem dX9_player_10 : decode cX9_player 10 = .ok (.ifCond .eq 28, 3) := by decide +kernel
theorem dX9_player_13 : decode cX9_player 13 = .ok (.iload_n 2, 1) := by decide +kernel
theorem dX9_player_14 : decode cX9_player 14 = .ok (.i2l, 1) := by decide +kernel
theorem dX9_player_15 : decode cX9_player 15 = .ok (.lconst 0, 1) := by decide +kernel
theorem dX9_player_16 : decode cX9_player 16 = .ok (.ldc2_w 132, 3) := by decide +kernel
theorem dX9_player_19 : decode cX9_player 19 = .ok (.invokestatic 134, 3) := by decide +kernel
theorem dX9_player_22 : decode cX9_player 22 = .ok (.ifCond .eq 16, 3) := by decide +kernel
theorem dX9_player_25 : decode cX9_player 25 = .ok (.aload_n 0, 1) := by decide +kernel
theorem dX9_player_26 : decode cX9_player 26 = .ok (.getfield 40, 3) := by decide +kernel
theorem dX9_player_29 : decode cX9_player 29 = .ok (.iconst 4, 1) := by decide +kernel
theorem dX9_player_30 : decode cX9_player 30 = .ok (.iload_n 1, 1) := by decide +kernel
theorem dX9_player_31 : decode cX9_player 31 = .ok (.imul, 1) := by decide +kernel
theorem dX9_player_32 : decode cX9_player 32 = .ok (.iload_n 2, 1) := by decide +kernel
theorem dX9_player_33 : decode cX9_player 33 = .ok (.iadd, 1) := by decide +kernel
theorem dX9_player_34 : decode cX9_player 34 = .ok (.iaload, 1) := by decide +kernel
theorem dX9_player_35 : decode cX9_player 35 = .ok (.goto 5, 3) := by decide +kernel
theorem dX9_player_38 : decode cX9_player 38 = .ok (.bipush (-2), 2) := by decide +kernel
theorem dX9_player_40 : decode cX9_player 40 = .ok (.ireturn, 1) := by decide +kernel
set_option maxHeartbeats 4000000 in
set_option maxRecDepth 100000 in
theorem m_X9_player (l : Launch) (D : va_G) (cy : Nat → ClassId) (g : Nat → Nat) (σ : ST) (p1 : Int32) (p2 : Int32) (sz : Nat) (hJ : J9 (σ 9))  : Met l yX9_player (ww yX9_player cX9_player 3 (some .int)) ({ frames := 3, cells := 0, slots := 0, locals := 192 }) (va_Pc [.ref (g 60), .int p1, .int p2] (pr9 D cy g σ sz)) (qi9 D cy g sz (fun r τ => Fr (fL [0]) σ τ ∧ J9 (τ 9) ∧ True)) 0 0 (A9 cy g sz) := by
  refine Met.ofW (cc := cX9_player) (maxL := 3) (ret := (some .int)) (by decide) rfl ?_
  intro p e s m args below meth c s₁ B hml hv
  obtain ⟨rfl, hsz, hP, hK, hD0, hC⟩ := hv
  have hx := B.exec
  have hb := B.bytes
  have hr := B.returns
  have hts := hts_g (atoms_spec (ws := ww yX9_player cX9_player 3 (some .int)) B.pre)
  have hown : s.vm.findClass RX9 = some m.cls := findClass_of_methodNamed B.named
  have hlocks := B.notSynchronized
  clear B
  subst hsz
  have hD := fun τ => A9_D (sz := s.heap.size) hD0 τ
  clear hD0
  have hS : va_S (A9 cy g s.heap.size) s.heap s.heap [] := va_S.rf
  have hl := lv_entry ([.ref (g 60), .int p1, .int p2]) (n := 3) (Nat.le_of_ble_eq_true rfl)
  rw [lg_entry_eq]
  generalize (lg_sl ([.ref (g 60), .int p1, .int p2]) ++ List.replicate (3 - (lg_sl ([.ref (g 60), .int p1, .int p2])).length) Slot.unset).toArray = ls at hl ⊢
  have hl : lv_has ls 3 [(0, .ref (g 60)), (1, .int p1), (2, .int p2)] := hl
  refine lv_aload_n hx hb dX9_player_0 rfl (lv_at hl 0 rfl) ?_
  refine lv_iconst (v := 0) hx hb dX9_player_1 (by decide) ?_
  refine p9_0 hx hb hts hown hK hP hD hS (hts _ q1360) dX9_player_2 (fun H locs σ1 eσ1 hP hS => ?_)
  have hJ2 : J9 (σ1 9) := hJ.I eσ1 (show JI9 0 (0 : Int32) from trivial)
  refine lv_aload_n hx hb dX9_player_5 rfl (lv_at hl 0 rfl) ?_
  refine lv_iload_n hx hb dX9_player_6 rfl (lv_at hl 1 rfl) ?_
  refine va_calli (va_runV (As := [.int p1]) (rest := []) ⟨hx, hb, hml, hown, hts⟩ (m_X9_isPlayer l D cy g σ1 p1 _ hJ2 ) (cwV 1 hts (gd_V q1710 q1712 q72 q134 q1713) rfl rfl rfl (by decide +kernel) ⟨Nat.le_of_ble_eq_true rfl, Nat.le_of_ble_eq_true rfl⟩) (pv9 hP hK hD hC hS (va_recv hK hP (ci := 9) (q0 := 0) rfl rfl)) rfl rfl hl.1 rfl (lv_room (Nat.le_of_ble_eq_true rfl)) dX9_player_7 ⟨Nat.le_of_ble_eq_true rfl, Nat.le_of_ble_eq_true rfl⟩) hS (fun q _ h => up9 hS q h) (up9 hS) (fun r3 σ4 tS H1 locs ht hvm hw5 hB hz1 hk1 hS => ?_)
  have hP : va_P D clz (WD9 cy g σ4) H1 := by rw [← ht]; exact hB
  clear hB hz1 hk1 hvm ht
  generalize H1 = H at hP hS ⊢
  have hw5E : σ1 = σ4 := (hw5.1).symm
  subst hw5E
  have b6 : (0 : Int) ≤ r3.toInt ∧ r3.toInt ≤ 1 := hw5.2.1
  have b7 : (r3.toInt = 0) ∨ ((0 : Int) ≤ p1.toInt ∧ p1.toInt ≤ 8) := hw5.2.2.1
  have b8 : (r3.toInt = 0) ∨ (0 ≤ p1.toInt ∧ p1.toInt < ((σ1 9).2.2.1 17 3).toInt) := hw5.2.2.2.1
  refine lv_if_eq (tgt := 38) hx hb dX9_player_10 (by decide) (fun c9 => ?_) (fun c9 => ?_)
  ·
    have k10 := peq32 c9
    refine lv_bipush (v := (-2)) hx hb dX9_player_38 (by decide) ?_
    exact W.iret (v := (-2)) hx hb hr (fun tS ht hW => ⟨⟨(-2), σ1, rfl, ⟨Fr.tr (Fr.rf) (sI_f eσ1) (fN_L rfl), hJ2, trivial⟩, (show va_P D clz (WD9 cy g σ1) tS.heap by rw [ht]; exact hP)⟩, hS.F ht⟩) hS.2.2 dX9_player_40
  ·
    have k11 := neq32 c9
    refine lv_iload_n hx hb dX9_player_13 rfl (lv_at hl 2 rfl) ?_
    refine lv_i2l (v := p2.toInt64) hx hb dX9_player_14 rfl ?_
    refine lv_lconst (v := 0) hx hb dX9_player_15 (by decide) ?_
    refine lv_ldc2 (v := 3) hx hb hown (hts _ q1549) dX9_player_16 ?_
    refine va_calli (va_runS (As := [.long p2.toInt64, .long 0, .long 3]) (rest := []) ⟨hx, hb, hml, hown, hts⟩ (m_X9_in l D cy g σ1 p2.toInt64 (0) (3) _ hJ2 ) (va_cwS 3 hts (gd_S q1550 q1551 q134 q1552) rfl rfl rfl (by decide +kernel) ⟨Nat.le_of_ble_eq_true rfl, Nat.le_of_ble_eq_true rfl⟩) (ps9 hP hK hD hC hS) rfl rfl hl.1 rfl (lv_room (Nat.le_of_ble_eq_true rfl)) dX9_player_19 ⟨Nat.le_of_ble_eq_true rfl, Nat.le_of_ble_eq_true rfl⟩) hS (fun q _ h => up9 hS q h) (up9 hS) (fun r12 σ13 tS H1 locs ht hvm hw14 hB hz1 hk1 hS => ?_)
    have hP : va_P D clz (WD9 cy g σ13) H1 := by rw [← ht]; exact hB
    clear hB hz1 hk1 hvm ht
    generalize H1 = H at hP hS ⊢
    have hw14E : σ1 = σ13 := (hw14.1).symm
    subst hw14E
    have b15 : (0 : Int) ≤ r12.toInt ∧ r12.toInt ≤ 1 := hw14.2.1
    have b16 : (r12.toInt = 1 ∧ (0 : Int64).toInt ≤ p2.toInt64.toInt ∧ p2.toInt64.toInt ≤ (3 : Int64).toInt) ∨ (r12.toInt = 0 ∧ ¬ ((0 : Int64).toInt ≤ p2.toInt64.toInt ∧ p2.toInt64.toInt ≤ (3 : Int64).toInt)) := hw14.2.2.1
    refine lv_if_eq (tgt := 38) hx hb dX9_player_22 (by decide) (fun c17 => ?_) (fun c17 => ?_)
    ·
      have k18 := peq32 c17
      refine lv_bipush (v := (-2)) hx hb dX9_player_38 (by decide) ?_
      exact W.iret (v := (-2)) hx hb hr (fun tS ht hW => ⟨⟨(-2), σ1, rfl, ⟨Fr.tr (Fr.rf) (sI_f eσ1) (fN_L rfl), hJ2, trivial⟩, (show va_P D clz (WD9 cy g σ1) tS.heap by rw [ht]; exact hP)⟩, hS.F ht⟩) hS.2.2 dX9_player_40
    ·
      have k19 := neq32 c17
      refine lv_aload_n hx hb dX9_player_25 rfl (lv_at hl 0 rfl) ?_
      refine g9_19 hx hb hts hown hK hP (hts _ q1379) dX9_player_26 ?_
      refine lv_iconst (v := 4) hx hb dX9_player_29 (by decide) ?_
      refine lv_iload_n hx hb dX9_player_30 rfl (lv_at hl 1 rfl) ?_
      refine lv_imul hx hb dX9_player_31 ?_
      refine lv_topi (fun x20 ex20 => ?_)
      have t21 := mulC' (n := 4) ex20 (by decide) (by have f0 := b7; have f1 := b8; have f2 := a9_17 hJ2 (j := 3) rfl; have f3 := congrArg Int32.toInt (show ((σ1 9).2.2.1 17 3) = ((σ 9).2.2.1 17 3) from congrFun (((sI_f eσ1) 9 17 rfl).2.2.1) _); have f4 := b6; have f5 := k11; have f6 := a9_17 hJ (j := 3) rfl; have g2 := rg32 p1; have z0 : (0 : Int32).toInt = 0 := (by decide); omega)
      refine lv_iload_n hx hb dX9_player_32 rfl (lv_at hl 2 rfl) ?_
      refine lv_iadd hx hb dX9_player_33 ?_
      refine lv_topi (fun x22 ex22 => ?_)
      have t23 := addO ex22 (by have f0 := t64 (a := p2); have f1 := rg32 p2; have f2 := t21; have f3 := b7; have f4 := b8; have f5 := b16; have f6 := a9_17 hJ2 (j := 3) rfl; have f7 := congrArg Int32.toInt (show ((σ1 9).2.2.1 17 3) = ((σ 9).2.2.1 17 3) from congrFun (((sI_f eσ1) 9 17 rfl).2.2.1) _); have f8 := b6; have f9 := k11; have f10 := b15; have f11 := k19; have f12 := a9_17 hJ (j := 3) rfl; have g2 := rg32 p2; have g3 := rg32 x20; have z0 : (0 : Int32).toInt = 0 := (by decide); have zl0 : (0 : Int64).toInt = 0 := (by decide); have zl3 : (3 : Int64).toInt = 3 := (by decide); have w18 := t64 (a := p2); omega)
      obtain ⟨x24, ex24⟩ : ∃ z, (σ 9).2.2.1 19 x22.toInt.toNat = z := ⟨_, rfl⟩
      refine l9_19 (x := x24) hx hb hK hP (vpo (by have f0 := t23; have f1 := t64 (a := p2); have f2 := rg32 p2; have f3 := t21; have f4 := b7; have f5 := b8; have f6 := b16; have f7 := a9_17 hJ2 (j := 3) rfl; have f8 := congrArg Int32.toInt (show ((σ1 9).2.2.1 17 3) = ((σ 9).2.2.1 17 3) from congrFun (((sI_f eσ1) 9 17 rfl).2.2.1) _); have f9 := b6; have f10 := k11; have f11 := b15; have f12 := k19; have f13 := a9_17 hJ (j := 3) rfl; have g2 := rg32 x22; have z0 : (0 : Int32).toInt = 0 := (by decide); have zl0 : (0 : Int64).toInt = 0 := (by decide); have zl3 : (3 : Int64).toInt = 3 := (by decide); have w18 := t64 (a := p2); omega)) ((congrFun (((sI_f eσ1) 9 19 rfl).2.2.1) _).trans ex24) dX9_player_34 ?_
      have t25 := a9_19 hJ ex24
      refine lv_goto (tgt := 40) hx hb dX9_player_35 (by decide) ?_
      exact W.iret (v := x24) hx hb hr (fun tS ht hW => ⟨⟨x24, σ1, rfl, ⟨Fr.tr (Fr.rf) (sI_f eσ1) (fN_L rfl), hJ2, trivial⟩, (show va_P D clz (WD9 cy g σ1) tS.heap by rw [ht]; exact hP)⟩, hS.F ht⟩) hS.2.2 dX9_player_40

theorem q1734 : Cond.code yX9_beginOf cX9_beginOf 5 (some .int) ∈ lw_g := lw_gm (List.mem_of_getElem? (i := 1734) (by decide +kernel)) rfl
theorem dX9_beginOf_0 : decode cX9_beginOf 0 = .ok (.iconst 0, 1) := by decide +kernel
theorem dX9_beginOf_1 : decode cX9_beginOf 1 = .ok (.istore_n 3, 1) := by decide +kernel
theorem dX9_beginOf_2 : decode cX9_beginOf 2 = .ok (.iconst 0, 1) := by decide +kernel
theorem dX9_beginOf_3 : decode cX9_beginOf 3 = .ok (.istore 4, 2) := by decide +kernel
theorem dX9_beginOf_5 : decode cX9_beginOf 5 = .ok (.iload 4, 2) := by decide +kernel
theorem dX9_beginOf_7 : decode cX9_beginOf 7 = .ok (.iload_n 2, 1) := by decide +kernel
theorem dX9_beginOf_8 : decode cX9_beginOf 8 = .ok (.if_icmp .ge 20, 3) := by decide +kernel
theorem dX9_beginOf_11 : decode cX9_beginOf 11 = .ok (.iload_n 3, 1) := by decide +kernel
theorem dX9_beginOf_12 : decode cX9_beginOf 12 = .ok (.aload_n 0, 1) := by decide +kernel
theorem dX9_beginOf_13 : decode cX9_beginOf 13 = .ok (.iload_n 1, 1) := by decide +kernel
theorem dX9_beginOf_14 : decode cX9_beginOf 14 = .ok (.iload 4, 2) := by decide +kernel
theorem dX9_beginOf_16 : decode cX9_beginOf 16 = .ok (.iconst 1, 1) := by decide +kernel
theorem dX9_beginOf_17 : decode cX9_beginOf 17 = .ok (.invokevirtual 308, 3) := by decide +kernel
theorem dX9_beginOf_20 : decode cX9_beginOf 20 = .ok (.iadd, 1) := by decide +kernel
theorem dX9_beginOf_21 : decode cX9_beginOf 21 = .ok (.istore_n 3, 1) := by decide +kernel
theorem dX9_beginOf_22 : decode cX9_beginOf 22 = .ok (.iinc 4 1, 3) := by decide +kernel
theorem dX9_beginOf_25 : decode cX9_beginOf 25 = .ok (.goto (-20), 3) := by decide +kernel
theorem dX9_beginOf_28 : decode cX9_beginOf 28 = .ok (.iload_n 3, 1) := by decide +kernel
theorem dX9_beginOf_29 : decode cX9_beginOf 29 = .ok (.ireturn, 1) := by decide +kernel
set_option maxHeartbeats 4000000 in
set_option maxRecDepth 100000 in
theorem m_X9_beginOf (l : Launch) (D : va_G) (cy : Nat → ClassId) (g : Nat → Nat) (σ : ST) (p1 : Int32) (p2 : Int32) (sz : Nat) (hJ : J9 (σ 9)) (h0 : (0 : Int) ≤ p1.toInt ∧ p1.toInt ≤ 2) (h1 : (0 : Int) ≤ p2.toInt ∧ p2.toInt ≤ 16) : Met l yX9_beginOf (ww yX9_beginOf cX9_beginOf 5 (some .int)) ({ frames := 2, cells := 0, slots := 0, locals := 128 }) (va_Pc [.ref (g 60), .int p1, .int p2] (pr9 D cy g σ sz)) (qi9 D cy g sz (fun r τ => τ = σ ∧ True)) 0 0 (A9 cy g sz) := by
  refine Met.ofW (cc := cX9_beginOf) (maxL := 5) (ret := (some .int)) (by decide) rfl ?_
  intro p e s m args below meth c s₁ B hml hv
  obtain ⟨rfl, hsz, hP, hK, hD0, hC⟩ := hv
  have hx := B.exec
  have hb := B.bytes
  have hr := B.returns
  have hts := hts_g (atoms_spec (ws := ww yX9_beginOf cX9_beginOf 5 (some .int)) B.pre)
  have hown : s.vm.findClass RX9 = some m.cls := findClass_of_methodNamed B.named
  have hlocks := B.notSynchronized
  clear B
  subst hsz
  have hD := fun τ => A9_D (sz := s.heap.size) hD0 τ
  clear hD0
  have hS : va_S (A9 cy g s.heap.size) s.heap s.heap [] := va_S.rf
  have hl := lv_entry ([.ref (g 60), .int p1, .int p2]) (n := 5) (Nat.le_of_ble_eq_true rfl)
  rw [lg_entry_eq]
  generalize (lg_sl ([.ref (g 60), .int p1, .int p2]) ++ List.replicate (5 - (lg_sl ([.ref (g 60), .int p1, .int p2])).length) Slot.unset).toArray = ls at hl ⊢
  have hl : lv_has ls 5 [(0, .ref (g 60)), (1, .int p1), (2, .int p2)] := hl
  refine lv_iconst (v := 0) hx hb dX9_beginOf_0 (by decide) ?_
  refine lv_istore_n (lv' := [(3, .int 0), (0, .ref (g 60)), (1, .int p1), (2, .int p2)]) hx hb dX9_beginOf_1 rfl hl (by decide) rfl (fun ls hl => ?_)
  refine lv_iconst (v := 0) hx hb dX9_beginOf_2 (by decide) ?_
  refine lv_istore (lv' := [(4, .int 0), (3, .int 0), (0, .ref (g 60)), (1, .int p1), (2, .int p2)]) hx hb dX9_beginOf_3 hl (by decide) rfl (fun ls hl => ?_)
  refine loop9 5 5 (fun x : LZ => [(4, .int (x.2.1 0)), (3, .int (x.2.1 1)), (0, .ref (g 60)), (1, .int p1), (2, .int p2)]) (fun x : LZ => (x.1 = σ) ∧ ((0 : Int) ≤ (x.2.1 0).toInt ∧ (x.2.1 0).toInt ≤ 16) ∧ True) (fun x : LZ => ((17 : Int) - (x.2.1 0).toInt).toNat) ?_ (σ, lf [0, 0], lg []) ⟨rfl, (show (0 : Int) ≤ (0 : Int32).toInt ∧ (0 : Int32).toInt ≤ 16 from (by have z0 : (0 : Int32).toInt = 0 := (by decide); omega)), trivial⟩ _ _ _ hP hS (lv_sub hl [0, 1, 2, 3, 4] rfl)
  intro y3 hI2 nl1 H locs ls hP hS hl
  rw [show y3.1 = σ from hI2.1] at hP
  have b4 : (0 : Int) ≤ (y3.2.1 0).toInt ∧ (y3.2.1 0).toInt ≤ 16 := hI2.2.1
  have hl : lv_has ls 5 [(4, .int (y3.2.1 0)), (3, .int (y3.2.1 1)), (0, .ref (g 60)), (1, .int p1), (2, .int p2)] := hl
  refine lv_iload hx hb dX9_beginOf_5 (lv_at hl 0 rfl) ?_
  refine lv_iload_n hx hb dX9_beginOf_7 rfl (lv_at hl 4 rfl) ?_
  refine lv_icmp_ge (tgt := 28) hx hb dX9_beginOf_8 (by decide) (fun c5 => ?_) (fun c5 => ?_)
  ·
    have k6 := ple32 c5
    refine lv_iload_n hx hb dX9_beginOf_28 rfl (lv_at hl 1 rfl) ?_
    exact W.iret (v := (y3.2.1 1)) hx hb hr (fun tS ht hW => ⟨⟨(y3.2.1 1), σ, rfl, ⟨rfl, trivial⟩, (show va_P D clz (WD9 cy g σ) tS.heap by rw [ht]; exact hP)⟩, hS.F ht⟩) hS.2.2 dX9_beginOf_29
  ·
    have k7 := nle32 c5
    refine lv_iload_n hx hb dX9_beginOf_11 rfl (lv_at hl 1 rfl) ?_
    refine lv_aload_n hx hb dX9_beginOf_12 rfl (lv_at hl 2 rfl) ?_
    refine lv_iload_n hx hb dX9_beginOf_13 rfl (lv_at hl 3 rfl) ?_
    refine lv_iload hx hb dX9_beginOf_14 (lv_at hl 0 rfl) ?_
    refine lv_iconst (v := 1) hx hb dX9_beginOf_16 (by decide) ?_
    refine va_calli (va_runV (As := [.int p1, .int (y3.2.1 0), .int 1]) (rest := [.int (y3.2.1 1)]) ⟨hx, hb, hml, hown, hts⟩ (m_X9_toneOf l D cy g σ p1 (y3.2.1 0) (1) _ hJ (show (0 : Int) ≤ p1.toInt ∧ p1.toInt ≤ 2 from (by have f0 := h0; have g0 := rg32 p1; omega)) (show (0 : Int) ≤ (y3.2.1 0).toInt ∧ (y3.2.1 0).toInt ≤ 15 from (by have f0 := h0; have f1 := b4; have f2 := k7; have f3 := h1; have g0 := rg32 (y3.2.1 0); have g1 := rg32 p1; omega)) (show (0 : Int) ≤ (1 : Int32).toInt ∧ (1 : Int32).toInt ≤ 3 from (by have f0 := h0; have f1 := b4; have f2 := k7; have f3 := h1; have g0 := rg32 (y3.2.1 0); have g1 := rg32 p1; have z1 : (1 : Int32).toInt = 1 := (by decide); omega))) (cwV 3 hts (gd_V q1727 q1729 q75 q134 q1730) rfl rfl rfl (by decide +kernel) ⟨Nat.le_of_ble_eq_true rfl, Nat.le_of_ble_eq_true rfl⟩) (pv9 hP hK hD hC hS (va_recv hK hP (ci := 9) (q0 := 0) rfl rfl)) rfl rfl hl.1 rfl (lv_room (Nat.le_of_ble_eq_true rfl)) dX9_beginOf_17 ⟨Nat.le_of_ble_eq_true rfl, Nat.le_of_ble_eq_true rfl⟩) hS (fun q _ h => up9 hS q h) (up9 hS) (fun r8 σ9 tS H1 locs ht hvm hw10 hB hz1 hk1 hS => ?_)
    have hP : va_P D clz (WD9 cy g σ9) H1 := by rw [← ht]; exact hB
    clear hB hz1 hk1 hvm ht
    generalize H1 = H at hP hS ⊢
    have hw10E : σ = σ9 := (hw10.1).symm
    subst hw10E
    have b11 : (-1 : Int) ≤ r8.toInt ∧ r8.toInt ≤ 60 := hw10.2.1
    have b12 : ¬ (1 : Int32).toInt = 1 ∨ 0 ≤ r8.toInt := hw10.2.2.1
    refine lv_iadd hx hb dX9_beginOf_20 ?_
    refine lv_topi (fun x13 ex13 => ?_)
    refine lv_istore_n (lv' := [(3, .int x13), (4, .int (y3.2.1 0)), (0, .ref (g 60)), (1, .int p1), (2, .int p2)]) hx hb dX9_beginOf_21 rfl hl (by decide) rfl (fun ls hl => ?_)
    obtain ⟨x14, ex14⟩ : ∃ y : Int32, y = (y3.2.1 0) + 1 := ⟨_, rfl⟩
    have t15 := addO ex14 (by have f0 := b4; have f1 := k7; have f2 := h1; have g0 := rg32 (y3.2.1 0); have z1 : (1 : Int32).toInt = 1 := (by decide); omega)
    refine lv_iinc (v := x14) (lv' := [(4, .int x14), (3, .int x13), (0, .ref (g 60)), (1, .int p1), (2, .int p2)]) hx hb dX9_beginOf_22 hl (k := 1) rfl (by rw [ex14]; rfl) (by decide) rfl (fun ls hl => ?_)
    refine lv_goto (tgt := 5) hx hb dX9_beginOf_25 (by decide) ?_
    have t16 : ((17 : Int) - x14.toInt).toNat < ((17 : Int) - (y3.2.1 0).toInt).toNat := (by have f0 := b4; have f1 := k7; have f2 := t15; have f3 := h1; have g0 := rg32 (y3.2.1 0); have g1 := rg32 x14; have z1 : (1 : Int32).toInt = 1 := (by decide); omega)
    exact nl1 (σ, lf [x14, x13], lg []) ⟨rfl, (show (0 : Int) ≤ (x14 : Int32).toInt ∧ (x14 : Int32).toInt ≤ 16 from (by have f0 := t15; have f1 := b4; have f2 := k7; have f3 := h1; have g0 := rg32 x14; have z1 : (1 : Int32).toInt = 1 := (by decide); omega)), trivial⟩ (show ((17 : Int) - x14.toInt).toNat < _ from t16) _ _ _ hP hS (lv_sub hl [0, 1, 2, 3, 4] rfl)

theorem q1717 : Cond.code yX9_tone cX9_tone 4 (some .int) ∈ lw_g := lw_gm (List.mem_of_getElem? (i := 1717) (by decide +kernel)) rfl
theorem q1718 : Cond.methodLink RX9 320 yX9_isTone ∈ lw_g := lw_gm (List.mem_of_getElem? (i := 1718) (by decide +kernel)) rfl
theorem q1720 : Cond.instanceMethod yX9_isTone ∈ lw_g := lw_gm (List.mem_of_getElem? (i := 1720) (by decide +kernel)) rfl
theorem q73 : Cond.selects RX9 yX9_isTone yX9_isTone ∈ lw_g := lw_gm (List.mem_of_getElem? (i := 73) (by decide +kernel)) rfl
theorem q1726 : Cond.constantLong RX9 324 (4) ∈ lw_g := lw_gm (List.mem_of_getElem? (i := 1726) (by decide +kernel)) rfl
theorem q1731 : Cond.methodLink RX9 326 yX9_beginOf ∈ lw_g := lw_gm (List.mem_of_getElem? (i := 1731) (by decide +kernel)) rfl
theorem q1733 : Cond.instanceMethod yX9_beginOf ∈ lw_g := lw_gm (List.mem_of_getElem? (i := 1733) (by decide +kernel)) rfl
theorem q76 : Cond.selects RX9 yX9_beginOf yX9_beginOf ∈ lw_g := lw_gm (List.mem_of_getElem? (i := 76) (by decide +kernel)) rfl
theorem dX9_tone_0 : decode cX9_tone 0 = .ok (.aload_n 0, 1) := by decide +kernel
theorem dX9_tone_1 : decode cX9_tone 1 = .ok (.iconst 0, 1) := by decide +kernel
theorem dX9_tone_2 : decode cX9_tone 2 = .ok (.putfield 129, 3) := by decide +kernel
theorem dX9_tone_5 : decode cX9_tone 5 = .ok (.aload_n 0, 1) := by decide +kernel
theorem dX9_tone_6 : decode cX9_tone 6 = .ok (.iload_n 1, 1) := by decide +kernel
theorem dX9_tone_7 : decode cX9_tone 7 = .ok (.iload_n 2, 1) := by decide +kernel
theorem dX9_tone_8 : decode cX9_tone 8 = .ok (.invokevirtual 320, 3) := by decide +kernel
theorem dX9_tone_11 : decode cX9_tone 11 = .ok (.ifCond .eq 15, 3) := by decide +kernel
theorem dX9_tone_14 : decode cX9_tone 14 = .ok (.iload_n 3, 1) := by decide +kernel
theorem dX9_tone_15 : decode cX9_tone 15 = .ok (.i2l, 1) := by decide +kernel
theorem dX9_tone_16 : decode cX9_tone 16 = .ok (.lconst 0, 1) := by decide +kernel
theorem dX9_tone_17 : decode cX9_tone 17 = .ok (.ldc2_w 324, 3) := by decide +kernel
theorem dX9_tone_20 : decode cX9_tone 20 = .ok (.invokestatic 134, 3) := by decide +kernel
theorem dX9_tone_23 : decode cX9_tone 23 = .ok (.ifCond .ne 6, 3) := by decide +kernel
theorem dX9_tone_26 : decode cX9_tone 26 = .ok (.bipush (-2), 2) := by decide +kernel
theorem dX9_tone_28 : decode cX9_tone 28 = .ok (.ireturn, 1) := by decide +kernel
theorem dX9_tone_29 : decode cX9_tone 29 = .ok (.iload_n 3, 1) := by decide +kernel
theorem dX9_tone_30 : decode cX9_tone 30 = .ok (.iconst 4, 1) := by decide +kernel
theorem dX9_tone_31 : decode cX9_tone 31 = .ok (.if_icmp .ge 13, 3) := by decide +kernel
theorem dX9_tone_34 : decode cX9_tone 34 = .ok (.aload_n 0, 1) := by decide +kernel
theorem dX9_tone_35 : decode cX9_tone 35 = .ok (.iload_n 1, 1) := by decide +kernel
theorem dX9_tone_36 : decode cX9_tone 36 = .ok (.iload_n 2, 1) := by decide +kernel
theorem dX9_tone_37 : decode cX9_tone 37 = .ok (.iload_n 3, 1) := by decide +kernel
theorem dX9_tone_38 : decode cX9_tone 38 = .ok (.invokevirtual 308, 3) := by decide +kernel
theorem dX9_tone_41 : decode cX9_tone 41 = .ok (.goto 9, 3) := by decide +kernel
theorem dX9_tone_44 : decode cX9_tone 44 = .ok (.aload_n 0, 1) := by decide +kernel
theorem dX9_tone_45 : decode cX9_tone 45 = .ok (.iload_n 1, 1) := by decide +kernel
theorem dX9_tone_46 : decode cX9_tone 46 = .ok (.iload_n 2, 1) := by decide +kernel
theorem dX9_tone_47 : decode cX9_tone 47 = .ok (.invokevirtual 326, 3) := by decide +kernel
theorem dX9_tone_50 : decode cX9_tone 50 = .ok (.ireturn, 1) := by decide +kernel
set_option maxHeartbeats 4000000 in
set_option maxRecDepth 100000 in
theorem m_X9_tone (l : Launch) (D : va_G) (cy : Nat → ClassId) (g : Nat → Nat) (σ : ST) (p1 : Int32) (p2 : Int32) (p3 : Int32) (sz : Nat) (hJ : J9 (σ 9))  : Met l yX9_tone (ww yX9_tone cX9_tone 4 (some .int)) ({ frames := 4, cells := 0, slots := 0, locals := 256 }) (va_Pc [.ref (g 60), .int p1, .int p2, .int p3] (pr9 D cy g σ sz)) (qi9 D cy g sz (fun r τ => Fr (fL [0]) σ τ ∧ J9 (τ 9) ∧ True)) 0 0 (A9 cy g sz) := by
  refine Met.ofW (cc := cX9_tone) (maxL := 4) (ret := (some .int)) (by decide) rfl ?_
  intro p e s m args below meth c s₁ B hml hv
  obtain ⟨rfl, hsz, hP, hK, hD0, hC⟩ := hv
  have hx := B.exec
  have hb := B.bytes
  have hr := B.returns
  have hts := hts_g (atoms_spec (ws := ww yX9_tone cX9_tone 4 (some .int)) B.pre)
  have hown : s.vm.findClass RX9 = some m.cls := findClass_of_methodNamed B.named
  have hlocks := B.notSynchronized
  clear B
  subst hsz
  have hD := fun τ => A9_D (sz := s.heap.size) hD0 τ
  clear hD0
  have hS : va_S (A9 cy g s.heap.size) s.heap s.heap [] := va_S.rf
  have hl := lv_entry ([.ref (g 60), .int p1, .int p2, .int p3]) (n := 4) (Nat.le_of_ble_eq_true rfl)
  rw [lg_entry_eq]
  generalize (lg_sl ([.ref (g 60), .int p1, .int p2, .int p3]) ++ List.replicate (4 - (lg_sl ([.ref (g 60), .int p1, .int p2, .int p3])).length) Slot.unset).toArray = ls at hl ⊢
  have hl : lv_has ls 4 [(0, .ref (g 60)), (1, .int p1), (2, .int p2), (3, .int p3)] := hl
  refine lv_aload_n hx hb dX9_tone_0 rfl (lv_at hl 0 rfl) ?_
  refine lv_iconst (v := 0) hx hb dX9_tone_1 (by decide) ?_
  refine p9_0 hx hb hts hown hK hP hD hS (hts _ q1360) dX9_tone_2 (fun H locs σ1 eσ1 hP hS => ?_)
  have hJ2 : J9 (σ1 9) := hJ.I eσ1 (show JI9 0 (0 : Int32) from trivial)
  refine lv_aload_n hx hb dX9_tone_5 rfl (lv_at hl 0 rfl) ?_
  refine lv_iload_n hx hb dX9_tone_6 rfl (lv_at hl 1 rfl) ?_
  refine lv_iload_n hx hb dX9_tone_7 rfl (lv_at hl 2 rfl) ?_
  refine va_calli (va_runV (As := [.int p1, .int p2]) (rest := []) ⟨hx, hb, hml, hown, hts⟩ (m_X9_isTone l D cy g σ1 p1 p2 _ hJ2 ) (cwV 2 hts (gd_V q1718 q1720 q73 q134 q1721) rfl rfl rfl (by decide +kernel) ⟨Nat.le_of_ble_eq_true rfl, Nat.le_of_ble_eq_true rfl⟩) (pv9 hP hK hD hC hS (va_recv hK hP (ci := 9) (q0 := 0) rfl rfl)) rfl rfl hl.1 rfl (lv_room (Nat.le_of_ble_eq_true rfl)) dX9_tone_8 ⟨Nat.le_of_ble_eq_true rfl, Nat.le_of_ble_eq_true rfl⟩) hS (fun q _ h => up9 hS q h) (up9 hS) (fun r3 σ4 tS H1 locs ht hvm hw5 hB hz1 hk1 hS => ?_)
  have hP : va_P D clz (WD9 cy g σ4) H1 := by rw [← ht]; exact hB
  clear hB hz1 hk1 hvm ht
  generalize H1 = H at hP hS ⊢
  have hw5E : σ1 = σ4 := (hw5.1).symm
  subst hw5E
  have b6 : (0 : Int) ≤ r3.toInt ∧ r3.toInt ≤ 1 := hw5.2.1
  have b7 : (r3.toInt = 0) ∨ ((0 : Int) ≤ p1.toInt ∧ p1.toInt ≤ 2 ∧ (0 : Int) ≤ p2.toInt ∧ p2.toInt ≤ 15) := hw5.2.2.1
  refine lv_if_eq (tgt := 26) hx hb dX9_tone_11 (by decide) (fun c8 => ?_) (fun c8 => ?_)
  ·
    have k9 := peq32 c8
    refine lv_bipush (v := (-2)) hx hb dX9_tone_26 (by decide) ?_
    exact W.iret (v := (-2)) hx hb hr (fun tS ht hW => ⟨⟨(-2), σ1, rfl, ⟨Fr.tr (Fr.rf) (sI_f eσ1) (fN_L rfl), hJ2, trivial⟩, (show va_P D clz (WD9 cy g σ1) tS.heap by rw [ht]; exact hP)⟩, hS.F ht⟩) hS.2.2 dX9_tone_28
  ·
    have k10 := neq32 c8
    refine lv_iload_n hx hb dX9_tone_14 rfl (lv_at hl 3 rfl) ?_
    refine lv_i2l (v := p3.toInt64) hx hb dX9_tone_15 rfl ?_
    refine lv_lconst (v := 0) hx hb dX9_tone_16 (by decide) ?_
    refine lv_ldc2 (v := 4) hx hb hown (hts _ q1726) dX9_tone_17 ?_
    refine va_calli (va_runS (As := [.long p3.toInt64, .long 0, .long 4]) (rest := []) ⟨hx, hb, hml, hown, hts⟩ (m_X9_in l D cy g σ1 p3.toInt64 (0) (4) _ hJ2 ) (va_cwS 3 hts (gd_S q1550 q1551 q134 q1552) rfl rfl rfl (by decide +kernel) ⟨Nat.le_of_ble_eq_true rfl, Nat.le_of_ble_eq_true rfl⟩) (ps9 hP hK hD hC hS) rfl rfl hl.1 rfl (lv_room (Nat.le_of_ble_eq_true rfl)) dX9_tone_20 ⟨Nat.le_of_ble_eq_true rfl, Nat.le_of_ble_eq_true rfl⟩) hS (fun q _ h => up9 hS q h) (up9 hS) (fun r11 σ12 tS H1 locs ht hvm hw13 hB hz1 hk1 hS => ?_)
    have hP : va_P D clz (WD9 cy g σ12) H1 := by rw [← ht]; exact hB
    clear hB hz1 hk1 hvm ht
    generalize H1 = H at hP hS ⊢
    have hw13E : σ1 = σ12 := (hw13.1).symm
    subst hw13E
    have b14 : (0 : Int) ≤ r11.toInt ∧ r11.toInt ≤ 1 := hw13.2.1
    have b15 : (r11.toInt = 1 ∧ (0 : Int64).toInt ≤ p3.toInt64.toInt ∧ p3.toInt64.toInt ≤ (4 : Int64).toInt) ∨ (r11.toInt = 0 ∧ ¬ ((0 : Int64).toInt ≤ p3.toInt64.toInt ∧ p3.toInt64.toInt ≤ (4 : Int64).toInt)) := hw13.2.2.1
    refine lv_if_ne (tgt := 29) hx hb dX9_tone_23 (by decide) (fun c16 => ?_) (fun c16 => ?_)
    ·
      have k17 := neq32 c16
      refine lv_iload_n hx hb dX9_tone_29 rfl (lv_at hl 3 rfl) ?_
      refine lv_iconst (v := 4) hx hb dX9_tone_30 (by decide) ?_
      refine lv_icmp_ge (tgt := 44) hx hb dX9_tone_31 (by decide) (fun c18 => ?_) (fun c18 => ?_)
      ·
        have k19 := ple32 c18
        refine lv_aload_n hx hb dX9_tone_44 rfl (lv_at hl 0 rfl) ?_
        refine lv_iload_n hx hb dX9_tone_45 rfl (lv_at hl 1 rfl) ?_
        refine lv_iload_n hx hb dX9_tone_46 rfl (lv_at hl 2 rfl) ?_
        refine va_calli (va_runV (As := [.int p1, .int p2]) (rest := []) ⟨hx, hb, hml, hown, hts⟩ (m_X9_beginOf l D cy g σ1 p1 p2 _ hJ2 (show (0 : Int) ≤ p1.toInt ∧ p1.toInt ≤ 2 from (by have f0 := b7; have f1 := b6; have f2 := k10; have g0 := rg32 p1; have z0 : (0 : Int32).toInt = 0 := (by decide); omega)) (show (0 : Int) ≤ p2.toInt ∧ p2.toInt ≤ 16 from (by have f0 := b7; have f1 := b6; have f2 := k10; have g0 := rg32 p1; have g1 := rg32 p2; have z0 : (0 : Int32).toInt = 0 := (by decide); omega))) (cwV 2 hts (gd_V q1731 q1733 q76 q134 q1734) rfl rfl rfl (by decide +kernel) ⟨Nat.le_of_ble_eq_true rfl, Nat.le_of_ble_eq_true rfl⟩) (pv9 hP hK hD hC hS (va_recv hK hP (ci := 9) (q0 := 0) rfl rfl)) rfl rfl hl.1 rfl (lv_room (Nat.le_of_ble_eq_true rfl)) dX9_tone_47 ⟨Nat.le_of_ble_eq_true rfl, Nat.le_of_ble_eq_true rfl⟩) hS (fun q _ h => up9 hS q h) (up9 hS) (fun r20 σ21 tS H1 locs ht hvm hw22 hB hz1 hk1 hS => ?_)
        have hP : va_P D clz (WD9 cy g σ21) H1 := by rw [← ht]; exact hB
        clear hB hz1 hk1 hvm ht
        generalize H1 = H at hP hS ⊢
        have hw22E : σ1 = σ21 := (hw22.1).symm
        subst hw22E
        exact W.iret (v := r20) hx hb hr (fun tS ht hW => ⟨⟨r20, σ1, rfl, ⟨Fr.tr (Fr.rf) (sI_f eσ1) (fN_L rfl), hJ2, trivial⟩, (show va_P D clz (WD9 cy g σ1) tS.heap by rw [ht]; exact hP)⟩, hS.F ht⟩) hS.2.2 dX9_tone_50
      ·
        have k23 := nle32 c18
        refine lv_aload_n hx hb dX9_tone_34 rfl (lv_at hl 0 rfl) ?_
        refine lv_iload_n hx hb dX9_tone_35 rfl (lv_at hl 1 rfl) ?_
        refine lv_iload_n hx hb dX9_tone_36 rfl (lv_at hl 2 rfl) ?_
        refine lv_iload_n hx hb dX9_tone_37 rfl (lv_at hl 3 rfl) ?_
        refine va_calli (va_runV (As := [.int p1, .int p2, .int p3]) (rest := []) ⟨hx, hb, hml, hown, hts⟩ (m_X9_toneOf l D cy g σ1 p1 p2 p3 _ hJ2 (show (0 : Int) ≤ p1.toInt ∧ p1.toInt ≤ 2 from (by have f0 := b7; have f1 := b6; have f2 := k10; have g0 := rg32 p1; have z0 : (0 : Int32).toInt = 0 := (by decide); omega)) (show (0 : Int) ≤ p2.toInt ∧ p2.toInt ≤ 15 from (by have f0 := b7; have f1 := b6; have f2 := k10; have g0 := rg32 p1; have g1 := rg32 p2; have z0 : (0 : Int32).toInt = 0 := (by decide); omega)) (show (0 : Int) ≤ p3.toInt ∧ p3.toInt ≤ 3 from (by have f0 := b7; have f1 := t64 (a := p3); have f2 := rg32 p3; have f3 := k23; have f4 := b6; have f5 := k10; have f6 := b15; have f7 := b14; have f8 := k17; have g0 := rg32 p1; have g1 := rg32 p2; have g2 := rg32 p3; have z0 : (0 : Int32).toInt = 0 := (by decide); have zl0 : (0 : Int64).toInt = 0 := (by decide); have z4 : (4 : Int32).toInt = 4 := (by decide); have zl4 : (4 : Int64).toInt = 4 := (by decide); have w16 := t64 (a := p3); omega))) (cwV 3 hts (gd_V q1727 q1729 q75 q134 q1730) rfl rfl rfl (by decide +kernel) ⟨Nat.le_of_ble_eq_true rfl, Nat.le_of_ble_eq_true rfl⟩) (pv9 hP hK hD hC hS (va_recv hK hP (ci := 9) (q0 := 0) rfl rfl)) rfl rfl hl.1 rfl (lv_room (Nat.le_of_ble_eq_true rfl)) dX9_tone_38 ⟨Nat.le_of_ble_eq_true rfl, Nat.le_of_ble_eq_true rfl⟩) hS (fun q _ h => up9 hS q h) (up9 hS) (fun r24 σ25 tS H1 locs ht hvm hw26 hB hz1 hk1 hS => ?_)
        have hP : va_P D clz (WD9 cy g σ25) H1 := by rw [← ht]; exact hB
        clear hB hz1 hk1 hvm ht
        generalize H1 = H at hP hS ⊢
        have hw26E : σ1 = σ25 := (hw26.1).symm
        subst hw26E
        have b27 : (-1 : Int) ≤ r24.toInt ∧ r24.toInt ≤ 60 := hw26.2.1
        have b28 : ¬ p3.toInt = 1 ∨ 0 ≤ r24.toInt := hw26.2.2.1
        refine lv_goto (tgt := 50) hx hb dX9_tone_41 (by decide) ?_
        exact W.iret (v := r24) hx hb hr (fun tS ht hW => ⟨⟨r24, σ1, rfl, ⟨Fr.tr (Fr.rf) (sI_f eσ1) (fN_L rfl), hJ2, trivial⟩, (show va_P D clz (WD9 cy g σ1) tS.heap by rw [ht]; exact hP)⟩, hS.F ht⟩) hS.2.2 dX9_tone_50
    ·
      have k29 := peq32 c16
      refine lv_bipush (v := (-2)) hx hb dX9_tone_26 (by decide) ?_
      exact W.iret (v := (-2)) hx hb hr (fun tS ht hW => ⟨⟨(-2), σ1, rfl, ⟨Fr.tr (Fr.rf) (sI_f eσ1) (fN_L rfl), hJ2, trivial⟩, (show va_P D clz (WD9 cy g σ1) tS.heap by rw [ht]; exact hP)⟩, hS.F ht⟩) hS.2.2 dX9_tone_28

theorem q1746 : Cond.code yX9_settings cX9_settings 2 (some .int) ∈ lw_g := lw_gm (List.mem_of_getElem? (i := 1746) (by decide +kernel)) rfl
theorem dX9_settings_0 : decode cX9_settings 0 = .ok (.aload_n 0, 1) := by decide +kernel
theorem dX9_settings_1 : decode cX9_settings 1 = .ok (.getfield 37, 3) := by decide +kernel
theorem dX9_settings_4 : decode cX9_settings 4 = .ok (.bipush 7, 2) := by decide +kernel
theorem dX9_settings_6 : decode cX9_settings 6 = .ok (.iload_n 1, 1) := by decide +kernel
theorem dX9_settings_7 : decode cX9_settings 7 = .ok (.imul, 1) := by decide +kernel
theorem dX9_settings_8 : decode cX9_settings 8 = .ok (.iaload, 1) := by decide +kernel
theorem dX9_settings_9 : decode cX9_settings 9 = .ok (.iconst 1, 1) := by decide +kernel
theorem dX9_settings_10 : decode cX9_settings 10 = .ok (.if_icmp .ne 8, 3) := by decide +kernel
theorem dX9_settings_13 : decode cX9_settings 13 = .ok (.bipush 8, 2) := by decide +kernel
theorem dX9_settings_15 : decode cX9_settings 15 = .ok (.goto 22, 3) := by decide +kernel
theorem dX9_settings_18 : decode cX9_settings 18 = .ok (.aload_n 0, 1) := by decide +kernel
theorem dX9_settings_19 : decode cX9_settings 19 = .ok (.getfield 37, 3) := by decide +kernel
theorem dX9_settings_22 : decode cX9_settings 22 = .ok (.bipush 7, 2) := by decide +kernel
theorem dX9_settings_24 : decode cX9_settings 24 = .ok (.iload_n 1, 1) := by decide +kernel
theorem dX9_settings_25 : decode cX9_settings 25 = .ok (.imul, 1) := by decide +kernel
theorem dX9_settings_26 : decode cX9_settings 26 = .ok (.iaload, 1) := by decide +kernel
theorem dX9_settings_27 : decode cX9_settings 27 = .ok (.iconst 2, 1) := by decide +kernel
theorem dX9_settings_28 : decode cX9_settings 28 = .ok (.if_icmp .ne 8, 3) := by decide +kernel
theorem dX9_settings_31 : decode cX9_settings 31 = .ok (.bipush 7, 2) := by decide +kernel
theorem dX9_settings_33 : decode cX9_settings 33 = .ok (.goto 4, 3) := by decide +kernel
theorem dX9_settings_36 : decode cX9_settings 36 = .ok (.iconst 1, 1) := by decide +kernel
theorem dX9_settings_37 : decode cX9_settings 37 = .ok (.ireturn, 1) := by decide +kernel
set_option maxHeartbeats 4000000 in
set_option maxRecDepth 100000 in
theorem m_X9_settings (l : Launch) (D : va_G) (cy : Nat → ClassId) (g : Nat → Nat) (σ : ST) (p1 : Int32) (sz : Nat) (hJ : J9 (σ 9)) (h0 : (0 : Int) ≤ p1.toInt ∧ p1.toInt ≤ 3) : Met l yX9_settings (ww yX9_settings cX9_settings 2 (some .int)) ({ frames := 1, cells := 0, slots := 0, locals := 64 }) (va_Pc [.ref (g 60), .int p1] (pr9 D cy g σ sz)) (qi9 D cy g sz (fun r τ => τ = σ ∧ ((1 : Int) ≤ r.toInt ∧ r.toInt ≤ 8) ∧ True)) 0 0 (A9 cy g sz) := by
  refine Met.ofW (cc := cX9_settings) (maxL := 2) (ret := (some .int)) (by decide) rfl ?_
  intro p e s m args below meth c s₁ B hml hv
  obtain ⟨rfl, hsz, hP, hK, hD0, hC⟩ := hv
  have hx := B.exec
  have hb := B.bytes
  have hr := B.returns
  have hts := hts_g (atoms_spec (ws := ww yX9_settings cX9_settings 2 (some .int)) B.pre)
  have hown : s.vm.findClass RX9 = some m.cls := findClass_of_methodNamed B.named
  have hlocks := B.notSynchronized
  clear B
  subst hsz
  have hD := fun τ => A9_D (sz := s.heap.size) hD0 τ
  clear hD0
  have hS : va_S (A9 cy g s.heap.size) s.heap s.heap [] := va_S.rf
  have hl := lv_entry ([.ref (g 60), .int p1]) (n := 2) (Nat.le_of_ble_eq_true rfl)
  rw [lg_entry_eq]
  generalize (lg_sl ([.ref (g 60), .int p1]) ++ List.replicate (2 - (lg_sl ([.ref (g 60), .int p1])).length) Slot.unset).toArray = ls at hl ⊢
  have hl : lv_has ls 2 [(0, .ref (g 60)), (1, .int p1)] := hl
  refine lv_aload_n hx hb dX9_settings_0 rfl (lv_at hl 0 rfl) ?_
  refine g9_18 hx hb hts hown hK hP (hts _ q1378) dX9_settings_1 ?_
  refine lv_bipush (v := 7) hx hb dX9_settings_4 (by decide) ?_
  refine lv_iload_n hx hb dX9_settings_6 rfl (lv_at hl 1 rfl) ?_
  refine lv_imul hx hb dX9_settings_7 ?_
  refine lv_topi (fun x1 ex1 => ?_)
  have t2 := mulC' (n := 7) ex1 (by decide) (by have f0 := h0; have g0 := rg32 p1; omega)
  obtain ⟨x3, ex3⟩ : ∃ z, (σ 9).2.2.1 18 x1.toInt.toNat = z := ⟨_, rfl⟩
  refine l9_18 (x := x3) hx hb hK hP (vpo (by have f0 := t2; have f1 := h0; have g0 := rg32 x1; omega)) ex3 dX9_settings_8 ?_
  have t4 := a9_18 hJ ex3
  refine lv_iconst (v := 1) hx hb dX9_settings_9 (by decide) ?_
  refine lv_icmp_ne (tgt := 18) hx hb dX9_settings_10 (by decide) (fun c5 => ?_) (fun c5 => ?_)
  ·
    have k6 := neq32 c5
    refine lv_aload_n hx hb dX9_settings_18 rfl (lv_at hl 0 rfl) ?_
    refine g9_18 hx hb hts hown hK hP (hts _ q1378) dX9_settings_19 ?_
    refine lv_bipush (v := 7) hx hb dX9_settings_22 (by decide) ?_
    refine lv_iload_n hx hb dX9_settings_24 rfl (lv_at hl 1 rfl) ?_
    refine lv_imul hx hb dX9_settings_25 ?_
    refine lv_topi (fun x7 ex7 => ?_)
    have t8 := mulC' (n := 7) ex7 (by decide) (by have f0 := h0; have f1 := t2; have f2 := t4; have f3 := k6; have g0 := rg32 p1; have z1 : (1 : Int32).toInt = 1 := (by decide); omega)
    obtain ⟨x9, ex9⟩ : ∃ z, (σ 9).2.2.1 18 x7.toInt.toNat = z := ⟨_, rfl⟩
    refine l9_18 (x := x9) hx hb hK hP (vpo (by have f0 := t8; have f1 := h0; have f2 := t2; have f3 := t4; have f4 := k6; have g0 := rg32 x7; have z1 : (1 : Int32).toInt = 1 := (by decide); omega)) ex9 dX9_settings_26 ?_
    have t10 := a9_18 hJ ex9
    refine lv_iconst (v := 2) hx hb dX9_settings_27 (by decide) ?_
    refine lv_icmp_ne (tgt := 36) hx hb dX9_settings_28 (by decide) (fun c11 => ?_) (fun c11 => ?_)
    ·
      have k12 := neq32 c11
      refine lv_iconst (v := 1) hx hb dX9_settings_36 (by decide) ?_
      exact W.iret (v := 1) hx hb hr (fun tS ht hW => ⟨⟨1, σ, rfl, ⟨rfl, (show (1 : Int) ≤ (1 : Int32).toInt ∧ (1 : Int32).toInt ≤ 8 from (by have z1 : (1 : Int32).toInt = 1 := (by decide); omega)), trivial⟩, (show va_P D clz (WD9 cy g σ) tS.heap by rw [ht]; exact hP)⟩, hS.F ht⟩) hS.2.2 dX9_settings_37
    ·
      have k13 := peq32 c11
      refine lv_bipush (v := 7) hx hb dX9_settings_31 (by decide) ?_
      refine lv_goto (tgt := 37) hx hb dX9_settings_33 (by decide) ?_
      exact W.iret (v := 7) hx hb hr (fun tS ht hW => ⟨⟨7, σ, rfl, ⟨rfl, (show (1 : Int) ≤ (7 : Int32).toInt ∧ (7 : Int32).toInt ≤ 8 from (by have z7 : (7 : Int32).toInt = 7 := (by decide); omega)), trivial⟩, (show va_P D clz (WD9 cy g σ) tS.heap by rw [ht]; exact hP)⟩, hS.F ht⟩) hS.2.2 dX9_settings_37
  ·
    have k14 := peq32 c5
    refine lv_bipush (v := 8) hx hb dX9_settings_13 (by decide) ?_
    refine lv_goto (tgt := 37) hx hb dX9_settings_15 (by decide) ?_
    exact W.iret (v := 8) hx hb hr (fun tS ht hW => ⟨⟨8, σ, rfl, ⟨rfl, (show (1 : Int) ≤ (8 : Int32).toInt ∧ (8 : Int32).toInt ≤ 8 from (by have z8 : (8 : Int32).toInt = 8 := (by decide); omega)), trivial⟩, (show va_P D clz (WD9 cy g σ) tS.heap by rw [ht]; exact hP)⟩, hS.F ht⟩) hS.2.2 dX9_settings_37

theorem q1742 : Cond.code yX9_isSetting cX9_isSetting 4 (some .boolean) ∈ lw_g := lw_gm (List.mem_of_getElem? (i := 1742) (by decide +kernel)) rfl
theorem q1743 : Cond.methodLink RX9 329 yX9_settings ∈ lw_g := lw_gm (List.mem_of_getElem? (i := 1743) (by decide +kernel)) rfl
theorem q1745 : Cond.instanceMethod yX9_settings ∈ lw_g := lw_gm (List.mem_of_getElem? (i := 1745) (by decide +kernel)) rfl
theorem q78 : Cond.selects RX9 yX9_settings yX9_settings ∈ lw_g := lw_gm (List.mem_of_getElem? (i := 78) (by decide +kernel)) rfl
theorem dX9_isSetting_0 : decode cX9_isSetting 0 = .ok (.lload_n 2, 1) := by decide +kernel
theorem dX9_isSetting_1 : decode cX9_isSetting 1 = .ok (.lconst 0, 1) := by decide +kernel
theorem dX9_isSetting_2 : decode cX9_isSetting 2 = .ok (.aload_n 0, 1) := by decide +kernel
theorem dX9_isSetting_3 : decode cX9_isSetting 3 = .ok (.iload_n 1, 1) := by decide +kernel
theorem dX9_isSetting_4 : decode cX9_isSetting 4 = .ok (.invokevirtual 329, 3) := by decide +kernel
theorem dX9_isSetting_7 : decode cX9_isSetting 7 = .ok (.i2l, 1) := by decide +kernel
theorem dX9_isSetting_8 : decode cX9_isSetting 8 = .ok (.lconst 1, 1) := by decide +kernel
theorem dX9_isSetting_9 : decode cX9_isSetting 9 = .ok (.lsub, 1) := by decide +kernel
theorem dX9_isSetting_10 : decode cX9_isSetting 10 = .ok (.invokestatic 134, 3) := by decide +kernel
theorem dX9_isSetting_13 : decode cX9_isSetting 13 = .ok (.ireturn, 1) := by decide +kernel
set_option maxHeartbeats 4000000 in
set_option maxRecDepth 100000 in
theorem m_X9_isSetting (l : Launch) (D : va_G) (cy : Nat → ClassId) (g : Nat → Nat) (σ : ST) (p1 : Int32) (p2 : Int64) (sz : Nat) (hJ : J9 (σ 9)) (h0 : (0 : Int) ≤ p1.toInt ∧ p1.toInt ≤ 3) : Met l yX9_isSetting (ww yX9_isSetting cX9_isSetting 4 (some .boolean)) ({ frames := 2, cells := 0, slots := 0, locals := 128 }) (va_Pc [.ref (g 60), .int p1, .long p2] (pr9 D cy g σ sz)) (qi9 D cy g sz (fun r τ => τ = σ ∧ ((0 : Int) ≤ r.toInt ∧ r.toInt ≤ 1) ∧ ((r.toInt = 0) ∨ (0 ≤ p2.toInt ∧ p2.toInt ≤ 7)) ∧ True)) 0 0 (A9 cy g sz) := by
  refine Met.ofW (cc := cX9_isSetting) (maxL := 4) (ret := (some .boolean)) (by decide) rfl ?_
  intro p e s m args below meth c s₁ B hml hv
  obtain ⟨rfl, hsz, hP, hK, hD0, hC⟩ := hv
  have hx := B.exec
  have hb := B.bytes
  have hr := B.returns
  have hts := hts_g (atoms_spec (ws := ww yX9_isSetting cX9_isSetting 4 (some .boolean)) B.pre)
  have hown : s.vm.findClass RX9 = some m.cls := findClass_of_methodNamed B.named
  have hlocks := B.notSynchronized
  clear B
  subst hsz
  have hD := fun τ => A9_D (sz := s.heap.size) hD0 τ
  clear hD0
  have hS : va_S (A9 cy g s.heap.size) s.heap s.heap [] := va_S.rf
  have hl := lv_entry ([.ref (g 60), .int p1, .long p2]) (n := 4) (Nat.le_of_ble_eq_true rfl)
  rw [lg_entry_eq]
  generalize (lg_sl ([.ref (g 60), .int p1, .long p2]) ++ List.replicate (4 - (lg_sl ([.ref (g 60), .int p1, .long p2])).length) Slot.unset).toArray = ls at hl ⊢
  have hl : lv_has ls 4 [(0, .ref (g 60)), (1, .int p1), (2, .long p2)] := hl
  refine lv_lload_n hx hb dX9_isSetting_0 rfl (lv_at hl 2 rfl) ?_
  refine lv_lconst (v := 0) hx hb dX9_isSetting_1 (by decide) ?_
  refine lv_aload_n hx hb dX9_isSetting_2 rfl (lv_at hl 0 rfl) ?_
  refine lv_iload_n hx hb dX9_isSetting_3 rfl (lv_at hl 1 rfl) ?_
  refine va_calli (va_runV (As := [.int p1]) (rest := [.long 0, .long p2]) ⟨hx, hb, hml, hown, hts⟩ (m_X9_settings l D cy g σ p1 _ hJ (show (0 : Int) ≤ p1.toInt ∧ p1.toInt ≤ 3 from (by have f0 := h0; have g0 := rg32 p1; omega))) (cwV 1 hts (gd_V q1743 q1745 q78 q134 q1746) rfl rfl rfl (by decide +kernel) ⟨Nat.le_of_ble_eq_true rfl, Nat.le_of_ble_eq_true rfl⟩) (pv9 hP hK hD hC hS (va_recv hK hP (ci := 9) (q0 := 0) rfl rfl)) rfl rfl hl.1 rfl (lv_room (Nat.le_of_ble_eq_true rfl)) dX9_isSetting_4 ⟨Nat.le_of_ble_eq_true rfl, Nat.le_of_ble_eq_true rfl⟩) hS (fun q _ h => up9 hS q h) (up9 hS) (fun r1 σ2 tS H1 locs ht hvm hw3 hB hz1 hk1 hS => ?_)
  have hP : va_P D clz (WD9 cy g σ2) H1 := by rw [← ht]; exact hB
  clear hB hz1 hk1 hvm ht
  generalize H1 = H at hP hS ⊢
  have hw3E : σ = σ2 := (hw3.1).symm
  subst hw3E
  have b4 : (1 : Int) ≤ r1.toInt ∧ r1.toInt ≤ 8 := hw3.2.1
  refine lv_i2l (v := r1.toInt64) hx hb dX9_isSetting_7 rfl ?_
  refine lv_lconst (v := 1) hx hb dX9_isSetting_8 (by decide) ?_
  refine lv_lsub hx hb dX9_isSetting_9 ?_
  refine lv_topl (fun x5 ex5 => ?_)
  have t6 := subL ex5 (by have f0 := t64 (a := r1); have f1 := b4; have f2 := rg32 r1; have zl1 : (1 : Int64).toInt = 1 := (by decide); have w4 := t64 (a := r1); omega)
  refine va_calli (va_runS (As := [.long p2, .long 0, .long x5]) (rest := []) ⟨hx, hb, hml, hown, hts⟩ (m_X9_in l D cy g σ p2 (0) x5 _ hJ ) (va_cwS 3 hts (gd_S q1550 q1551 q134 q1552) rfl rfl rfl (by decide +kernel) ⟨Nat.le_of_ble_eq_true rfl, Nat.le_of_ble_eq_true rfl⟩) (ps9 hP hK hD hC hS) rfl rfl hl.1 rfl (lv_room (Nat.le_of_ble_eq_true rfl)) dX9_isSetting_10 ⟨Nat.le_of_ble_eq_true rfl, Nat.le_of_ble_eq_true rfl⟩) hS (fun q _ h => up9 hS q h) (up9 hS) (fun r7 σ8 tS H1 locs ht hvm hw9 hB hz1 hk1 hS => ?_)
  have hP : va_P D clz (WD9 cy g σ8) H1 := by rw [← ht]; exact hB
  clear hB hz1 hk1 hvm ht
  generalize H1 = H at hP hS ⊢
  have hw9E : σ = σ8 := (hw9.1).symm
  subst hw9E
  have b10 : (0 : Int) ≤ r7.toInt ∧ r7.toInt ≤ 1 := hw9.2.1
  have b11 : (r7.toInt = 1 ∧ (0 : Int64).toInt ≤ p2.toInt ∧ p2.toInt ≤ x5.toInt) ∨ (r7.toInt = 0 ∧ ¬ ((0 : Int64).toInt ≤ p2.toInt ∧ p2.toInt ≤ x5.toInt)) := hw9.2.2.1
  exact W.zret (v := r7) hx hb hr (nrZ (by have f0 := b10; have f1 := b11; have f2 := t6; have f3 := t64 (a := r1); have f4 := b4; have f5 := rg32 r1; have g2 := rg32 r7; have zl0 : (0 : Int64).toInt = 0 := (by decide); have zl1 : (1 : Int64).toInt = 1 := (by decide); have w9 := t64 (a := r1); omega)) (fun tS ht hW => ⟨⟨r7, σ, rfl, ⟨rfl, (show (0 : Int) ≤ r7.toInt ∧ r7.toInt ≤ 1 from (by have f0 := b10; have f1 := b11; have f2 := t6; have f3 := t64 (a := r1); have f4 := b4; have f5 := rg32 r1; have g2 := rg32 r7; have zl0 : (0 : Int64).toInt = 0 := (by decide); have zl1 : (1 : Int64).toInt = 1 := (by decide); have w9 := t64 (a := r1); omega)), (show (r7.toInt = 0) ∨ (0 ≤ p2.toInt ∧ p2.toInt ≤ 7) from (by have f0 := b10; have f1 := b11; have f2 := t6; have f3 := t64 (a := r1); have f4 := b4; have f5 := rg32 r1; have g2 := rg32 r7; have zl0 : (0 : Int64).toInt = 0 := (by decide); have zl1 : (1 : Int64).toInt = 1 := (by decide); have w9 := t64 (a := r1); omega)), trivial⟩, (show va_P D clz (WD9 cy g σ) tS.heap by rw [ht]; exact hP)⟩, hS.F ht⟩) hS.2.2 dX9_isSetting_13

theorem q1750 : Cond.code yX9_longer cX9_longer 5 (some .int) ∈ lw_g := lw_gm (List.mem_of_getElem? (i := 1750) (by decide +kernel)) rfl
theorem dX9_longer_0 : decode cX9_longer 0 = .ok (.aload_n 0, 1) := by decide +kernel
theorem dX9_longer_1 : decode cX9_longer 1 = .ok (.getfield 37, 3) := by decide +kernel
theorem dX9_longer_4 : decode cX9_longer 4 = .ok (.bipush 7, 2) := by decide +kernel
theorem dX9_longer_6 : decode cX9_longer 6 = .ok (.iload_n 1, 1) := by decide +kernel
theorem dX9_longer_7 : decode cX9_longer 7 = .ok (.imul, 1) := by decide +kernel
theorem dX9_longer_8 : decode cX9_longer 8 = .ok (.iaload, 1) := by decide +kernel
theorem dX9_longer_9 : decode cX9_longer 9 = .ok (.iconst 2, 1) := by decide +kernel
theorem dX9_longer_10 : decode cX9_longer 10 = .ok (.if_icmp .ne 17, 3) := by decide +kernel
theorem dX9_longer_13 : decode cX9_longer 13 = .ok (.iload_n 2, 1) := by decide +kernel
theorem dX9_longer_14 : decode cX9_longer 14 = .ok (.aload_n 0, 1) := by decide +kernel
theorem dX9_longer_15 : decode cX9_longer 15 = .ok (.getfield 37, 3) := by decide +kernel
theorem dX9_longer_18 : decode cX9_longer 18 = .ok (.bipush 7, 2) := by decide +kernel
theorem dX9_longer_20 : decode cX9_longer 20 = .ok (.iload_n 1, 1) := by decide +kernel
theorem dX9_longer_21 : decode cX9_longer 21 = .ok (.imul, 1) := by decide +kernel
theorem dX9_longer_22 : decode cX9_longer 22 = .ok (.iconst 3, 1) := by decide +kernel
theorem dX9_longer_23 : decode cX9_longer 23 = .ok (.iadd, 1) := by decide +kernel
theorem dX9_longer_24 : decode cX9_longer 24 = .ok (.iaload, 1) := by decide +kernel
theorem dX9_longer_25 : decode cX9_longer 25 = .ok (.imul, 1) := by decide +kernel
theorem dX9_longer_26 : decode cX9_longer 26 = .ok (.ireturn, 1) := by decide +kernel
theorem dX9_longer_27 : decode cX9_longer 27 = .ok (.iconst 0, 1) := by decide +kernel
theorem dX9_longer_28 : decode cX9_longer 28 = .ok (.istore_n 3, 1) := by decide +kernel
theorem dX9_longer_29 : decode cX9_longer 29 = .ok (.iconst 0, 1) := by decide +kernel
theorem dX9_longer_30 : decode cX9_longer 30 = .ok (.istore 4, 2) := by decide +kernel
theorem dX9_longer_32 : decode cX9_longer 32 = .ok (.iload 4, 2) := by decide +kernel
theorem dX9_longer_34 : decode cX9_longer 34 = .ok (.iconst 3, 1) := by decide +kernel
theorem dX9_longer_35 : decode cX9_longer 35 = .ok (.if_icmp .ge 40, 3) := by decide +kernel
theorem dX9_longer_38 : decode cX9_longer 38 = .ok (.iload_n 3, 1) := by decide +kernel
theorem dX9_longer_39 : decode cX9_longer 39 = .ok (.iload_n 2, 1) := by decide +kernel
theorem dX9_longer_40 : decode cX9_longer 40 = .ok (.iload 4, 2) := by decide +kernel
theorem dX9_longer_42 : decode cX9_longer 42 = .ok (.ishr, 1) := by decide +kernel
theorem dX9_longer_43 : decode cX9_longer 43 = .ok (.iconst 1, 1) := by decide +kernel
theorem dX9_longer_44 : decode cX9_longer 44 = .ok (.iand, 1) := by decide +kernel
theorem dX9_longer_45 : decode cX9_longer 45 = .ok (.iconst 1, 1) := by decide +kernel
theorem dX9_longer_46 : decode cX9_longer 46 = .ok (.if_icmp .ne 20, 3) := by decide +kernel
theorem dX9_longer_49 : decode cX9_longer 49 = .ok (.aload_n 0, 1) := by decide +kernel
theorem dX9_longer_50 : decode cX9_longer 50 = .ok (.getfield 37, 3) := by decide +kernel
theorem dX9_longer_53 : decode cX9_longer 53 = .ok (.bipush 7, 2) := by decide +kernel
theorem dX9_longer_55 : decode cX9_longer 55 = .ok (.iload_n 1, 1) := by decide +kernel
theorem dX9_longer_56 : decode cX9_longer 56 = .ok (.imul, 1) := by decide +kernel
theorem dX9_longer_57 : decode cX9_longer 57 = .ok (.iconst 3, 1) := by decide +kernel
theorem dX9_longer_58 : decode cX9_longer 58 = .ok (.iadd, 1) := by decide +kernel
theorem dX9_longer_59 : decode cX9_longer 59 = .ok (.iload 4, 2) := by decide +kernel
theorem dX9_longer_61 : decode cX9_longer 61 = .ok (.iadd, 1) := by decide +kernel
theorem dX9_longer_62 : decode cX9_longer 62 = .ok (.iaload, 1) := by decide +kernel
theorem dX9_longer_63 : decode cX9_longer 63 = .ok (.goto 4, 3) := by decide +kernel
theorem dX9_longer_66 : decode cX9_longer 66 = .ok (.iconst 0, 1) := by decide +kernel
theorem dX9_longer_67 : decode cX9_longer 67 = .ok (.iadd, 1) := by decide +kernel
theorem dX9_longer_68 : decode cX9_longer 68 = .ok (.istore_n 3, 1) := by decide +kernel
theorem dX9_longer_69 : decode cX9_longer 69 = .ok (.iinc 4 1, 3) := by decide +kernel
theorem dX9_longer_72 : decode cX9_longer 72 = .ok (.goto (-40), 3) := by decide +kernel
theorem dX9_longer_75 : decode cX9_longer 75 = .ok (.iload_n 3, 1) := by decide +kernel
theorem dX9_longer_76 : decode cX9_longer 76 = .ok (.ireturn, 1) := by decide +kernel
set_option maxHeartbeats 4000000 in
set_option maxRecDepth 100000 in
theorem m_X9_longer (l : Launch) (D : va_G) (cy : Nat → ClassId) (g : Nat → Nat) (σ : ST) (p1 : Int32) (p2 : Int32) (sz : Nat) (hJ : J9 (σ 9)) (h0 : (0 : Int) ≤ p1.toInt ∧ p1.toInt ≤ 3) (h1 : (0 : Int) ≤ p2.toInt ∧ p2.toInt ≤ 7) : Met l yX9_longer (ww yX9_longer cX9_longer 5 (some .int)) ({ frames := 1, cells := 0, slots := 0, locals := 64 }) (va_Pc [.ref (g 60), .int p1, .int p2] (pr9 D cy g σ sz)) (qi9 D cy g sz (fun r τ => τ = σ ∧ ((0 : Int) ≤ r.toInt ∧ r.toInt ≤ 6993) ∧ True)) 0 0 (A9 cy g sz) := by
  refine Met.ofW (cc := cX9_longer) (maxL := 5) (ret := (some .int)) (by decide) rfl ?_
  intro p e s m args below meth c s₁ B hml hv
  obtain ⟨rfl, hsz, hP, hK, hD0, hC⟩ := hv
  have hx := B.exec
  have hb := B.bytes
  have hr := B.returns
  have hts := hts_g (atoms_spec (ws := ww yX9_longer cX9_longer 5 (some .int)) B.pre)
  have hown : s.vm.findClass RX9 = some m.cls := findClass_of_methodNamed B.named
  have hlocks := B.notSynchronized
  clear B
  subst hsz
  have hD := fun τ => A9_D (sz := s.heap.size) hD0 τ
  clear hD0
  have hS : va_S (A9 cy g s.heap.size) s.heap s.heap [] := va_S.rf
  have hl := lv_entry ([.ref (g 60), .int p1, .int p2]) (n := 5) (Nat.le_of_ble_eq_true rfl)
  rw [lg_entry_eq]
  generalize (lg_sl ([.ref (g 60), .int p1, .int p2]) ++ List.replicate (5 - (lg_sl ([.ref (g 60), .int p1, .int p2])).length) Slot.unset).toArray = ls at hl ⊢
  have hl : lv_has ls 5 [(0, .ref (g 60)), (1, .int p1), (2, .int p2)] := hl
  refine lv_aload_n hx hb dX9_longer_0 rfl (lv_at hl 0 rfl) ?_
  refine g9_18 hx hb hts hown hK hP (hts _ q1378) dX9_longer_1 ?_
  refine lv_bipush (v := 7) hx hb dX9_longer_4 (by decide) ?_
  refine lv_iload_n hx hb dX9_longer_6 rfl (lv_at hl 1 rfl) ?_
  refine lv_imul hx hb dX9_longer_7 ?_
  refine lv_topi (fun x1 ex1 => ?_)
  have t2 := mulC' (n := 7) ex1 (by decide) (by have f0 := h0; have g0 := rg32 p1; omega)
  obtain ⟨x3, ex3⟩ : ∃ z, (σ 9).2.2.1 18 x1.toInt.toNat = z := ⟨_, rfl⟩
  refine l9_18 (x := x3) hx hb hK hP (vpo (by have f0 := t2; have f1 := h0; have g0 := rg32 x1; omega)) ex3 dX9_longer_8 ?_
  have t4 := a9_18 hJ ex3
  refine lv_iconst (v := 2) hx hb dX9_longer_9 (by decide) ?_
  refine lv_icmp_ne (tgt := 27) hx hb dX9_longer_10 (by decide) (fun c5 => ?_) (fun c5 => ?_)
  ·
    have k6 := neq32 c5
    refine lv_iconst (v := 0) hx hb dX9_longer_27 (by decide) ?_
    refine lv_istore_n (lv' := [(3, .int 0), (0, .ref (g 60)), (1, .int p1), (2, .int p2)]) hx hb dX9_longer_28 rfl hl (by decide) rfl (fun ls hl => ?_)
    refine lv_iconst (v := 0) hx hb dX9_longer_29 (by decide) ?_
    refine lv_istore (lv' := [(4, .int 0), (3, .int 0), (0, .ref (g 60)), (1, .int p1), (2, .int p2)]) hx hb dX9_longer_30 hl (by decide) rfl (fun ls hl => ?_)
    refine loop9 5 32 (fun x : LZ => [(4, .int (x.2.1 0)), (3, .int (x.2.1 1)), (0, .ref (g 60)), (1, .int p1), (2, .int p2)]) (fun x : LZ => (x.1 = σ) ∧ ((0 : Int) ≤ (x.2.1 0).toInt ∧ (x.2.1 0).toInt ≤ 3) ∧ ((0 : Int) ≤ (x.2.1 1).toInt ∧ (x.2.1 1).toInt ≤ 2997) ∧ ((x.2.1 1).toInt ≤ 999 * (x.2.1 0).toInt) ∧ True) (fun x : LZ => ((4 : Int) - (x.2.1 0).toInt).toNat) ?_ (σ, lf [0, 0], lg []) ⟨rfl, (show (0 : Int) ≤ (0 : Int32).toInt ∧ (0 : Int32).toInt ≤ 3 from (by have z0 : (0 : Int32).toInt = 0 := (by decide); omega)), (show (0 : Int) ≤ (0 : Int32).toInt ∧ (0 : Int32).toInt ≤ 2997 from (by have z0 : (0 : Int32).toInt = 0 := (by decide); omega)), (show (0 : Int32).toInt ≤ 999 * (0 : Int32).toInt from (by have z0 : (0 : Int32).toInt = 0 := (by decide); omega)), trivial⟩ _ _ _ hP hS (lv_sub hl [0, 1, 2, 3, 4] rfl)
    intro y9 hI8 nl7 H locs ls hP hS hl
    rw [show y9.1 = σ from hI8.1] at hP
    have b10 : (0 : Int) ≤ (y9.2.1 0).toInt ∧ (y9.2.1 0).toInt ≤ 3 := hI8.2.1
    have b11 : (0 : Int) ≤ (y9.2.1 1).toInt ∧ (y9.2.1 1).toInt ≤ 2997 := hI8.2.2.1
    have b12 : (y9.2.1 1).toInt ≤ 999 * (y9.2.1 0).toInt := hI8.2.2.2.1
    have hl : lv_has ls 5 [(4, .int (y9.2.1 0)), (3, .int (y9.2.1 1)), (0, .ref (g 60)), (1, .int p1), (2, .int p2)] := hl
    refine lv_iload hx hb dX9_longer_32 (lv_at hl 0 rfl) ?_
    refine lv_iconst (v := 3) hx hb dX9_longer_34 (by decide) ?_
    refine lv_icmp_ge (tgt := 75) hx hb dX9_longer_35 (by decide) (fun c13 => ?_) (fun c13 => ?_)
    ·
      have k14 := ple32 c13
      refine lv_iload_n hx hb dX9_longer_75 rfl (lv_at hl 1 rfl) ?_
      exact W.iret (v := (y9.2.1 1)) hx hb hr (fun tS ht hW => ⟨⟨(y9.2.1 1), σ, rfl, ⟨rfl, (show (0 : Int) ≤ (y9.2.1 1).toInt ∧ (y9.2.1 1).toInt ≤ 6993 from (by have f0 := b11; have f1 := b12; have f2 := b10; have f3 := k14; have g0 := rg32 (y9.2.1 1); have z3 : (3 : Int32).toInt = 3 := (by decide); omega)), trivial⟩, (show va_P D clz (WD9 cy g σ) tS.heap by rw [ht]; exact hP)⟩, hS.F ht⟩) hS.2.2 dX9_longer_76
    ·
      have k15 := nle32 c13
      refine lv_iload_n hx hb dX9_longer_38 rfl (lv_at hl 1 rfl) ?_
      refine lv_iload_n hx hb dX9_longer_39 rfl (lv_at hl 4 rfl) ?_
      refine lv_iload hx hb dX9_longer_40 (lv_at hl 0 rfl) ?_
      refine lv_ishr hx hb dX9_longer_42 ?_
      refine lv_topi (fun x16 ex16 => ?_)
      refine lv_iconst (v := 1) hx hb dX9_longer_43 (by decide) ?_
      refine lv_iand hx hb dX9_longer_44 ?_
      refine lv_topi (fun x17 ex17 => ?_)
      have t18 := andM 1 ex17 (by decide) (by decide)
      refine lv_iconst (v := 1) hx hb dX9_longer_45 (by decide) ?_
      refine cut9 (D := D) (cy := cy) (g := g) (A := A9 cy g s.heap.size) (H0 := s.heap) 5 67 (fun x : LZ => [(4, .int (y9.2.1 0)), (3, .int (y9.2.1 1)), (0, .ref (g 60)), (1, .int p1), (2, .int p2)]) (fun x : LZ => [.int (x.2.1 0), .int (y9.2.1 1)]) (fun x : LZ => (x.1 = σ) ∧ ((0 : Int) ≤ (x.2.1 0).toInt ∧ (x.2.1 0).toInt ≤ 999) ∧ True) ?_ ?_
      ·
        intro y21 hI20 H locs ls hP hS hl
        rw [show y21.1 = σ from hI20.1] at hP
        have b22 : (0 : Int) ≤ (y21.2.1 0).toInt ∧ (y21.2.1 0).toInt ≤ 999 := hI20.2.1
        have hl : lv_has ls 5 [(4, .int (y9.2.1 0)), (3, .int (y9.2.1 1)), (0, .ref (g 60)), (1, .int p1), (2, .int p2)] := hl
        refine W.eq (g2 := F0 m 67 ls [.int (y21.2.1 0), .int (y9.2.1 1)]) rfl ?_
        refine lv_iadd hx hb dX9_longer_67 ?_
        refine lv_topi (fun x23 ex23 => ?_)
        have t24 := addO ex23 (by have f0 := b11; have f1 := b12; have f2 := b22; have f3 := b10; have f4 := k15; have g0 := rg32 (y21.2.1 0); have g1 := rg32 (y9.2.1 1); have z3 : (3 : Int32).toInt = 3 := (by decide); omega)
        refine lv_istore_n (lv' := [(3, .int x23), (4, .int (y9.2.1 0)), (0, .ref (g 60)), (1, .int p1), (2, .int p2)]) hx hb dX9_longer_68 rfl hl (by decide) rfl (fun ls hl => ?_)
        obtain ⟨x25, ex25⟩ : ∃ y : Int32, y = (y9.2.1 0) + 1 := ⟨_, rfl⟩
        have t26 := addO ex25 (by have f0 := b10; have f1 := b12; have f2 := k15; have f3 := b11; have f4 := t24; have f5 := b22; have g0 := rg32 (y9.2.1 0); have z1 : (1 : Int32).toInt = 1 := (by decide); have z3 : (3 : Int32).toInt = 3 := (by decide); omega)
        refine lv_iinc (v := x25) (lv' := [(4, .int x25), (3, .int x23), (0, .ref (g 60)), (1, .int p1), (2, .int p2)]) hx hb dX9_longer_69 hl (k := 1) rfl (by rw [ex25]; rfl) (by decide) rfl (fun ls hl => ?_)
        refine lv_goto (tgt := 32) hx hb dX9_longer_72 (by decide) ?_
        have t27 : ((4 : Int) - x25.toInt).toNat < ((4 : Int) - (y9.2.1 0).toInt).toNat := (by have f0 := b10; have f1 := b12; have f2 := k15; have f3 := t26; have f4 := b11; have f5 := t24; have f6 := b22; have g0 := rg32 (y9.2.1 0); have g1 := rg32 x25; have z1 : (1 : Int32).toInt = 1 := (by decide); have z3 : (3 : Int32).toInt = 3 := (by decide); omega)
        exact nl7 (σ, lf [x25, x23], lg []) ⟨rfl, (show (0 : Int) ≤ (x25 : Int32).toInt ∧ (x25 : Int32).toInt ≤ 3 from (by have f0 := t26; have f1 := b10; have f2 := b12; have f3 := k15; have f4 := b11; have f5 := t24; have f6 := b22; have g0 := rg32 x25; have z1 : (1 : Int32).toInt = 1 := (by decide); have z3 : (3 : Int32).toInt = 3 := (by decide); omega)), (show (0 : Int) ≤ (x23 : Int32).toInt ∧ (x23 : Int32).toInt ≤ 2997 from (by have f0 := t24; have f1 := b11; have f2 := b12; have f3 := b22; have f4 := b10; have f5 := k15; have f6 := t26; have g0 := rg32 x23; have z1 : (1 : Int32).toInt = 1 := (by decide); have z3 : (3 : Int32).toInt = 3 := (by decide); omega)), (show x23.toInt ≤ 999 * x25.toInt from (by have f0 := t24; have f1 := t26; have f2 := b10; have f3 := b11; have f4 := b12; have f5 := k15; have f6 := b22; have g0 := rg32 x23; have g1 := rg32 x25; have z1 : (1 : Int32).toInt = 1 := (by decide); have z3 : (3 : Int32).toInt = 3 := (by decide); omega)), trivial⟩ (show ((4 : Int) - x25.toInt).toNat < _ from t27) _ _ _ hP hS (lv_sub hl [0, 1, 2, 3, 4] rfl)
      ·
        intro nj19
        refine lv_icmp_ne (tgt := 66) hx hb dX9_longer_46 (by decide) (fun c28 => ?_) (fun c28 => ?_)
        ·
          have k29 := neq32 c28
          refine lv_iconst (v := 0) hx hb dX9_longer_66 (by decide) ?_
          exact nj19 (σ, lf [0], lg []) ⟨rfl, (show (0 : Int) ≤ (0 : Int32).toInt ∧ (0 : Int32).toInt ≤ 999 from (by have z0 : (0 : Int32).toInt = 0 := (by decide); omega)), trivial⟩ _ _ _ hP hS (lv_sub hl [0, 1, 2, 3, 4] rfl)
        ·
          have k30 := peq32 c28
          refine lv_aload_n hx hb dX9_longer_49 rfl (lv_at hl 2 rfl) ?_
          refine g9_18 hx hb hts hown hK hP (hts _ q1378) dX9_longer_50 ?_
          refine lv_bipush (v := 7) hx hb dX9_longer_53 (by decide) ?_
          refine lv_iload_n hx hb dX9_longer_55 rfl (lv_at hl 3 rfl) ?_
          refine lv_imul hx hb dX9_longer_56 ?_
          refine lv_topi (fun x31 ex31 => ?_)
          have t32 := mulC' (n := 7) ex31 (by decide) (by have f0 := h0; have f1 := t2; have f2 := t4; have f3 := k6; have g0 := rg32 p1; have z2 : (2 : Int32).toInt = 2 := (by decide); omega)
          refine lv_iconst (v := 3) hx hb dX9_longer_57 (by decide) ?_
          refine lv_iadd hx hb dX9_longer_58 ?_
          refine lv_topi (fun x33 ex33 => ?_)
          have t34 := addO ex33 (by have f0 := t32; have f1 := h0; have f2 := t2; have f3 := t4; have f4 := k6; have g0 := rg32 x31; have z2 : (2 : Int32).toInt = 2 := (by decide); have z3 : (3 : Int32).toInt = 3 := (by decide); omega)
          refine lv_iload hx hb dX9_longer_59 (lv_at hl 0 rfl) ?_
          refine lv_iadd hx hb dX9_longer_61 ?_
          refine lv_topi (fun x35 ex35 => ?_)
          have t36 := addO ex35 (by have f0 := b10; have f1 := b12; have f2 := k15; have f3 := t34; have f4 := b11; have f5 := t32; have f6 := h0; have f7 := t2; have f8 := t4; have f9 := k6; have g0 := rg32 (y9.2.1 0); have g1 := rg32 x33; have z2 : (2 : Int32).toInt = 2 := (by decide); have z3 : (3 : Int32).toInt = 3 := (by decide); omega)
          obtain ⟨x37, ex37⟩ : ∃ z, (σ 9).2.2.1 18 x35.toInt.toNat = z := ⟨_, rfl⟩
          refine l9_18 (x := x37) hx hb hK hP (vpo (by have f0 := t36; have f1 := b10; have f2 := b12; have f3 := k15; have f4 := t34; have f5 := b11; have f6 := t32; have f7 := h0; have f8 := t2; have f9 := t4; have f10 := k6; have g0 := rg32 x35; have z2 : (2 : Int32).toInt = 2 := (by decide); have z3 : (3 : Int32).toInt = 3 := (by decide); omega)) ex37 dX9_longer_62 ?_
          have t38 := a9_18 hJ ex37
          refine lv_goto (tgt := 67) hx hb dX9_longer_63 (by decide) ?_
          exact nj19 (σ, lf [x37], lg []) ⟨rfl, (show (0 : Int) ≤ (x37 : Int32).toInt ∧ (x37 : Int32).toInt ≤ 999 from (by have f0 := t38; have f1 := t36; have f2 := b10; have f3 := b12; have f4 := k15; have f5 := t34; have f6 := b11; have f7 := t32; have f8 := h0; have f9 := t2; have f10 := t4; have f11 := k6; have g0 := rg32 x37; have z2 : (2 : Int32).toInt = 2 := (by decide); have z3 : (3 : Int32).toInt = 3 := (by decide); omega)), trivial⟩ _ _ _ hP hS (lv_sub hl [0, 1, 2, 3, 4] rfl)
  ·
    have k39 := peq32 c5
    refine lv_iload_n hx hb dX9_longer_13 rfl (lv_at hl 2 rfl) ?_
    refine lv_aload_n hx hb dX9_longer_14 rfl (lv_at hl 0 rfl) ?_
    refine g9_18 hx hb hts hown hK hP (hts _ q1378) dX9_longer_15 ?_
    refine lv_bipush (v := 7) hx hb dX9_longer_18 (by decide) ?_
    refine lv_iload_n hx hb dX9_longer_20 rfl (lv_at hl 1 rfl) ?_
    refine lv_imul hx hb dX9_longer_21 ?_
    refine lv_topi (fun x40 ex40 => ?_)
    have t41 := mulC' (n := 7) ex40 (by decide) (by have f0 := h0; have f1 := t2; have f2 := t4; have f3 := k39; have g0 := rg32 p1; have z2 : (2 : Int32).toInt = 2 := (by decide); omega)
    refine lv_iconst (v := 3) hx hb dX9_longer_22 (by decide) ?_
    refine lv_iadd hx hb dX9_longer_23 ?_
    refine lv_topi (fun x42 ex42 => ?_)
    have t43 := addO ex42 (by have f0 := t41; have f1 := h0; have f2 := t2; have f3 := t4; have f4 := k39; have g0 := rg32 x40; have z2 : (2 : Int32).toInt = 2 := (by decide); have z3 : (3 : Int32).toInt = 3 := (by decide); omega)
    obtain ⟨x44, ex44⟩ : ∃ z, (σ 9).2.2.1 18 x42.toInt.toNat = z := ⟨_, rfl⟩
    refine l9_18 (x := x44) hx hb hK hP (vpo (by have f0 := t43; have f1 := t41; have f2 := h0; have f3 := t2; have f4 := t4; have f5 := k39; have g0 := rg32 x42; have z2 : (2 : Int32).toInt = 2 := (by decide); have z3 : (3 : Int32).toInt = 3 := (by decide); omega)) ex44 dX9_longer_24 ?_
    have t45 := a9_18 hJ ex44
    refine lv_imul hx hb dX9_longer_25 ?_
    refine lv_topi (fun x46 ex46 => ?_)
    have t47 := mulP ex46 (show (0 : Int) ≤ p2.toInt ∧ p2.toInt ≤ 7 from (by have f0 := h1; have g0 := rg32 p2; omega)) (show (0 : Int) ≤ x44.toInt ∧ x44.toInt ≤ 999 from (by have f0 := t45; have f1 := t43; have f2 := t41; have f3 := h0; have f4 := t2; have f5 := t4; have f6 := k39; have g0 := rg32 x44; have z2 : (2 : Int32).toInt = 2 := (by decide); have z3 : (3 : Int32).toInt = 3 := (by decide); omega)) (by decide) (by decide) (by decide)
    exact W.iret (v := x46) hx hb hr (fun tS ht hW => ⟨⟨x46, σ, rfl, ⟨rfl, (show (0 : Int) ≤ x46.toInt ∧ x46.toInt ≤ 6993 from (by have f0 := t47; have g0 := rg32 x46; omega)), trivial⟩, (show va_P D clz (WD9 cy g σ) tS.heap by rw [ht]; exact hP)⟩, hS.F ht⟩) hS.2.2 dX9_longer_26

theorem q1754 : Cond.code yX9_flatBy cX9_flatBy 3 (some .int) ∈ lw_g := lw_gm (List.mem_of_getElem? (i := 1754) (by decide +kernel)) rfl
theorem dX9_flatBy_0 : decode cX9_flatBy 0 = .ok (.sipush 3462, 3) := by decide +kernel
theorem dX9_flatBy_3 : decode cX9_flatBy 3 = .ok (.iload_n 2, 1) := by decide +kernel
theorem dX9_flatBy_4 : decode cX9_flatBy 4 = .ok (.imul, 1) := by decide +kernel
theorem dX9_flatBy_5 : decode cX9_flatBy 5 = .ok (.iconst 2, 1) := by decide +kernel
theorem dX9_flatBy_6 : decode cX9_flatBy 6 = .ok (.aload_n 0, 1) := by decide +kernel
theorem dX9_flatBy_7 : decode cX9_flatBy 7 = .ok (.getfield 37, 3) := by decide +kernel
theorem dX9_flatBy_10 : decode cX9_flatBy 10 = .ok (.bipush 7, 2) := by decide +kernel
theorem dX9_flatBy_12 : decode cX9_flatBy 12 = .ok (.iload_n 1, 1) := by decide +kernel
theorem dX9_flatBy_13 : decode cX9_flatBy 13 = .ok (.imul, 1) := by decide +kernel
theorem dX9_flatBy_14 : decode cX9_flatBy 14 = .ok (.iconst 2, 1) := by decide +kernel
theorem dX9_flatBy_15 : decode cX9_flatBy 15 = .ok (.iadd, 1) := by decide +kernel
theorem dX9_flatBy_16 : decode cX9_flatBy 16 = .ok (.iaload, 1) := by decide +kernel
theorem dX9_flatBy_17 : decode cX9_flatBy 17 = .ok (.imul, 1) := by decide +kernel
theorem dX9_flatBy_18 : decode cX9_flatBy 18 = .ok (.iload_n 2, 1) := by decide +kernel
theorem dX9_flatBy_19 : decode cX9_flatBy 19 = .ok (.iadd, 1) := by decide +kernel
theorem dX9_flatBy_20 : decode cX9_flatBy 20 = .ok (.idiv, 1) := by decide +kernel
theorem dX9_flatBy_21 : decode cX9_flatBy 21 = .ok (.ireturn, 1) := by decide +kernel
set_option maxHeartbeats 4000000 in
set_option maxRecDepth 100000 in
theorem m_X9_flatBy (l : Launch) (D : va_G) (cy : Nat → ClassId) (g : Nat → Nat) (σ : ST) (p1 : Int32) (p2 : Int32) (sz : Nat) (hJ : J9 (σ 9)) (h0 : (0 : Int) ≤ p1.toInt ∧ p1.toInt ≤ 3) (h1 : (0 : Int) ≤ p2.toInt ∧ p2.toInt ≤ 9999) (h2 : 100 ≤ ((σ 9).2.2.1 18 (7 * p1.toInt.toNat + 2)).toInt) : Met l yX9_flatBy (ww yX9_flatBy cX9_flatBy 3 (some .int)) ({ frames := 1, cells := 0, slots := 0, locals := 64 }) (va_Pc [.ref (g 60), .int p1, .int p2] (pr9 D cy g σ sz)) (qi9 D cy g sz (fun r τ => τ = σ ∧ True)) 0 0 (A9 cy g sz) := by
  refine Met.ofW (cc := cX9_flatBy) (maxL := 3) (ret := (some .int)) (by decide) rfl ?_
  intro p e s m args below meth c s₁ B hml hv
  obtain ⟨rfl, hsz, hP, hK, hD0, hC⟩ := hv
  have hx := B.exec
  have hb := B.bytes
  have hr := B.returns
  have hts := hts_g (atoms_spec (ws := ww yX9_flatBy cX9_flatBy 3 (some .int)) B.pre)
  have hown : s.vm.findClass RX9 = some m.cls := findClass_of_methodNamed B.named
  have hlocks := B.notSynchronized
  clear B
  subst hsz
  have hD := fun τ => A9_D (sz := s.heap.size) hD0 τ
  clear hD0
  have hS : va_S (A9 cy g s.heap.size) s.heap s.heap [] := va_S.rf
  have hl := lv_entry ([.ref (g 60), .int p1, .int p2]) (n := 3) (Nat.le_of_ble_eq_true rfl)
  rw [lg_entry_eq]
  generalize (lg_sl ([.ref (g 60), .int p1, .int p2]) ++ List.replicate (3 - (lg_sl ([.ref (g 60), .int p1, .int p2])).length) Slot.unset).toArray = ls at hl ⊢
  have hl : lv_has ls 3 [(0, .ref (g 60)), (1, .int p1), (2, .int p2)] := hl
  refine lv_sipush (v := 3462) hx hb dX9_flatBy_0 (by decide) ?_
  refine lv_iload_n hx hb dX9_flatBy_3 rfl (lv_at hl 2 rfl) ?_
  refine lv_imul hx hb dX9_flatBy_4 ?_
  refine lv_topi (fun x1 ex1 => ?_)
  have t2 := mulC' (n := 3462) ex1 (by decide) (by have f0 := h1; have g0 := rg32 p2; omega)
  refine lv_iconst (v := 2) hx hb dX9_flatBy_5 (by decide) ?_
  refine lv_aload_n hx hb dX9_flatBy_6 rfl (lv_at hl 0 rfl) ?_
  refine g9_18 hx hb hts hown hK hP (hts _ q1378) dX9_flatBy_7 ?_
  refine lv_bipush (v := 7) hx hb dX9_flatBy_10 (by decide) ?_
  refine lv_iload_n hx hb dX9_flatBy_12 rfl (lv_at hl 1 rfl) ?_
  refine lv_imul hx hb dX9_flatBy_13 ?_
  refine lv_topi (fun x3 ex3 => ?_)
  have t4 := mulC' (n := 7) ex3 (by decide) (by have f0 := h0; have f1 := h2; have g1 := rg32 p1; omega)
  refine lv_iconst (v := 2) hx hb dX9_flatBy_14 (by decide) ?_
  refine lv_iadd hx hb dX9_flatBy_15 ?_
  refine lv_topi (fun x5 ex5 => ?_)
  have t6 := addO ex5 (by have f0 := t4; have f1 := h0; have f2 := h2; have g1 := rg32 x3; have z2 : (2 : Int32).toInt = 2 := (by decide); omega)
  obtain ⟨x7, ex7⟩ : ∃ z, (σ 9).2.2.1 18 x5.toInt.toNat = z := ⟨_, rfl⟩
  refine l9_18 (x := x7) hx hb hK hP (vpo (by have f0 := t6; have f1 := t4; have f2 := h0; have f3 := h2; have g1 := rg32 x5; have z2 : (2 : Int32).toInt = 2 := (by decide); omega)) ex7 dX9_flatBy_16 ?_
  have t8 := a9_18 hJ ex7
  have t9 : 100 ≤ x7.toInt := by rw [← ex7, show x5.toInt.toNat = 7 * p1.toInt.toNat + 2 from (by have f0 := h0; have f1 := h2; have f2 := t4; have f3 := t6; have f4 := t8; have g1 := rg32 p1; have g2 := rg32 x5; have z2 : (2 : Int32).toInt = 2 := (by decide); omega)]; exact h2
  refine lv_imul hx hb dX9_flatBy_17 ?_
  refine lv_topi (fun x10 ex10 => ?_)
  have t11 := mulC' (n := 2) ex10 (by decide) (by have f0 := t8; have f1 := t9; have f2 := t6; have f3 := t4; have f4 := h0; have f5 := h2; have g1 := rg32 x7; have z2 : (2 : Int32).toInt = 2 := (by decide); omega)
  refine lv_iload_n hx hb dX9_flatBy_18 rfl (lv_at hl 2 rfl) ?_
  refine lv_iadd hx hb dX9_flatBy_19 ?_
  refine lv_topi (fun x12 ex12 => ?_)
  have t13 := addO ex12 (by have f0 := h1; have f1 := t2; have f2 := t11; have f3 := t8; have f4 := t9; have f5 := t6; have f6 := t4; have f7 := h0; have f8 := h2; have g1 := rg32 p2; have g2 := rg32 x10; have z2 : (2 : Int32).toInt = 2 := (by decide); omega)
  refine lv_idiv hx hb dX9_flatBy_20 (ne0 (by have f0 := t13; have f1 := h1; have f2 := t2; have f3 := t11; have f4 := t8; have f5 := t9; have f6 := t6; have f7 := t4; have f8 := h0; have f9 := h2; have g1 := rg32 x12; have z2 : (2 : Int32).toInt = 2 := (by decide); omega)) ?_
  refine lv_topi (fun x14 ex14 => ?_)
  have t15 := divP ex14 (by have f0 := t2; have f1 := t13; have f2 := h1; have f3 := t11; have f4 := t8; have f5 := t9; have f6 := t6; have f7 := t4; have f8 := h0; have f9 := h2; have g1 := rg32 x1; have g2 := rg32 x12; have z2 : (2 : Int32).toInt = 2 := (by decide); omega)
  exact W.iret (v := x14) hx hb hr (fun tS ht hW => ⟨⟨x14, σ, rfl, ⟨rfl, trivial⟩, (show va_P D clz (WD9 cy g σ) tS.heap by rw [ht]; exact hP)⟩, hS.F ht⟩) hS.2.2 dX9_flatBy_21

