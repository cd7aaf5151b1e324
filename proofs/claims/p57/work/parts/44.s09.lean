theorem q939 : Cond.code yX3_layWays cX3_layWays 4 none ∈ lw_g := lw_gm (List.mem_of_getElem? (i := 939) (by decide +kernel)) rfl
theorem q297 : Cond.fieldLink RX3 34 "LipsAndSlides$Plays" "from" "[I" ∈ lw_g := lw_gm (List.mem_of_getElem? (i := 297) (by decide +kernel)) rfl
theorem q940 : Cond.methodLink RX3 90 yX3_layPitch ∈ lw_g := lw_gm (List.mem_of_getElem? (i := 940) (by decide +kernel)) rfl
theorem q942 : Cond.instanceMethod yX3_layPitch ∈ lw_g := lw_gm (List.mem_of_getElem? (i := 942) (by decide +kernel)) rfl
theorem q21 : Cond.selects RX3 yX3_layPitch yX3_layPitch ∈ lw_g := lw_gm (List.mem_of_getElem? (i := 21) (by decide +kernel)) rfl
theorem dX3_layWays_0 : decode cX3_layWays 0 = .ok (.aload_n 0, 1) := by decide +kernel
theorem dX3_layWays_1 : decode cX3_layWays 1 = .ok (.getfield 34, 3) := by decide +kernel
theorem dX3_layWays_4 : decode cX3_layWays 4 = .ok (.iconst 0, 1) := by decide +kernel
theorem dX3_layWays_5 : decode cX3_layWays 5 = .ok (.iconst 0, 1) := by decide +kernel
theorem dX3_layWays_6 : decode cX3_layWays 6 = .ok (.iastore, 1) := by decide +kernel
theorem dX3_layWays_7 : decode cX3_layWays 7 = .ok (.iconst 0, 1) := by decide +kernel
theorem dX3_layWays_8 : decode cX3_layWays 8 = .ok (.istore_n 3, 1) := by decide +kernel
theorem dX3_layWays_9 : decode cX3_layWays 9 = .ok (.iload_n 3, 1) := by decide +kernel
theorem dX3_layWays_10 : decode cX3_layWays 10 = .ok (.aload_n 0, 1) := by decide +kernel
theorem dX3_layWays_11 : decode cX3_layWays 11 = .ok (.getfield 75, 3) := by decide +kernel
theorem dX3_layWays_14 : decode cX3_layWays 14 = .ok (.if_icmp .ge 37, 3) := by decide +kernel
theorem dX3_layWays_17 : decode cX3_layWays 17 = .ok (.aload_n 0, 1) := by decide +kernel
theorem dX3_layWays_18 : decode cX3_layWays 18 = .ok (.getfield 34, 3) := by decide +kernel
theorem dX3_layWays_21 : decode cX3_layWays 21 = .ok (.iload_n 3, 1) := by decide +kernel
theorem dX3_layWays_22 : decode cX3_layWays 22 = .ok (.iconst 1, 1) := by decide +kernel
theorem dX3_layWays_23 : decode cX3_layWays 23 = .ok (.iadd, 1) := by decide +kernel
theorem dX3_layWays_24 : decode cX3_layWays 24 = .ok (.aload_n 0, 1) := by decide +kernel
theorem dX3_layWays_25 : decode cX3_layWays 25 = .ok (.aload_n 0, 1) := by decide +kernel
theorem dX3_layWays_26 : decode cX3_layWays 26 = .ok (.getfield 34, 3) := by decide +kernel
theorem dX3_layWays_29 : decode cX3_layWays 29 = .ok (.iload_n 3, 1) := by decide +kernel
theorem dX3_layWays_30 : decode cX3_layWays 30 = .ok (.iaload, 1) := by decide +kernel
theorem dX3_layWays_31 : decode cX3_layWays 31 = .ok (.aload_n 0, 1) := by decide +kernel
theorem dX3_layWays_32 : decode cX3_layWays 32 = .ok (.getfield 25, 3) := by decide +kernel
theorem dX3_layWays_35 : decode cX3_layWays 35 = .ok (.iload_n 3, 1) := by decide +kernel
theorem dX3_layWays_36 : decode cX3_layWays 36 = .ok (.iaload, 1) := by decide +kernel
theorem dX3_layWays_37 : decode cX3_layWays 37 = .ok (.iload_n 2, 1) := by decide +kernel
theorem dX3_layWays_38 : decode cX3_layWays 38 = .ok (.iadd, 1) := by decide +kernel
theorem dX3_layWays_39 : decode cX3_layWays 39 = .ok (.iload_n 1, 1) := by decide +kernel
theorem dX3_layWays_40 : decode cX3_layWays 40 = .ok (.iconst 0, 1) := by decide +kernel
theorem dX3_layWays_41 : decode cX3_layWays 41 = .ok (.invokevirtual 90, 3) := by decide +kernel
theorem dX3_layWays_44 : decode cX3_layWays 44 = .ok (.iastore, 1) := by decide +kernel
theorem dX3_layWays_45 : decode cX3_layWays 45 = .ok (.iinc 3 1, 3) := by decide +kernel
theorem dX3_layWays_48 : decode cX3_layWays 48 = .ok (.goto (-39), 3) := by decide +kernel
theorem dX3_layWays_51 : decode cX3_layWays 51 = .ok (.return_, 1) := by decide +kernel
set_option maxHeartbeats 4000000 in
set_option maxRecDepth 100000 in
theorem m_X3_layWays (l : Launch) (D : va_G) (cy : Nat → ClassId) (g : Nat → Nat) (σ : ST) (p1 : Int32) (p2 : Int32) (sz : Nat) (hJ : J8 σ)  : Met l yX3_layWays (ww yX3_layWays cX3_layWays 4 none) ({ frames := 5, cells := 0, slots := 0, locals := 320 }) (va_Pc [.ref (gO g 13), .int p1, .int p2] (pr8 D cy g σ sz)) (qv8 D cy g sz (fun τ => Fr (fO [13]) σ τ ∧ J8 τ ∧ True)) 0 0 (A8 cy g sz) := by
  refine Met.ofW (cc := cX3_layWays) (maxL := 4) (ret := none) (by decide) rfl ?_
  intro p e s m args below meth c s₁ B hml hv
  obtain ⟨rfl, hsz, hP, hK, hD0, hC⟩ := hv
  have hx := B.exec
  have hb := B.bytes
  have hr := B.returns
  have hts := hts_g (atoms_spec (ws := ww yX3_layWays cX3_layWays 4 none) B.pre)
  have hown : s.vm.findClass RX3 = some m.cls := findClass_of_methodNamed B.named
  have hlocks := B.notSynchronized
  clear B
  subst hsz
  have hD := fun τ => A8_D (sz := s.heap.size) hD0 τ
  clear hD0
  have hS : va_S (A8 cy g s.heap.size) s.heap s.heap [] := va_S.rf
  have hl := lv_entry ([.ref (gO g 13), .int p1, .int p2]) (n := 4) (Nat.le_of_ble_eq_true rfl)
  rw [lg_entry_eq]
  generalize (lg_sl ([.ref (gO g 13), .int p1, .int p2]) ++ List.replicate (4 - (lg_sl ([.ref (gO g 13), .int p1, .int p2])).length) Slot.unset).toArray = ls at hl ⊢
  have hl : lv_has ls 4 [(0, .ref (gO g 13)), (1, .int p1), (2, .int p2)] := hl
  refine lv_aload_n hx hb dX3_layWays_0 rfl (lv_at hl 0 rfl) ?_
  refine g8_3_12 hx hb hts hown hK hP (hts _ q297) dX3_layWays_1 ?_
  refine lv_iconst (v := 0) hx hb dX3_layWays_4 (by decide) ?_
  refine lv_iconst (v := 0) hx hb dX3_layWays_5 (by decide) ?_
  refine t8_3_12 hx hb hK hP hD hS (vpi (by decide)) dX3_layWays_6 (fun H locs σ1 eσ1 hP hS => ?_)
  have hJ2 : J8 σ1 := hJ.A eσ1 rfl (show PA8 3 12 (0 : Int32) from (by have z0 : (0 : Int32).toInt = 0 := (by decide); exact ⟨by omega, by omega⟩))
  refine lv_iconst (v := 0) hx hb dX3_layWays_7 (by decide) ?_
  refine lv_istore_n (lv' := [(3, .int 0), (0, .ref (gO g 13)), (1, .int p1), (2, .int p2)]) hx hb dX3_layWays_8 rfl hl (by decide) rfl (fun ls hl => ?_)
  refine loop8 4 9 (fun x : LZ => [(3, .int (x.2.1 0)), (0, .ref (gO g 13)), (1, .int p1), (2, .int p2)]) (fun x : LZ => (Fr (fO [13]) σ1 x.1) ∧ (J8 x.1) ∧ ((0 : Int) ≤ (x.2.1 0).toInt ∧ (x.2.1 0).toInt ≤ 16) ∧ True) (fun x : LZ => ((17 : Int) - (x.2.1 0).toInt).toNat) ?_ (σ1, lf [0], lg []) ⟨Fr.rf, hJ2, (show (0 : Int) ≤ (0 : Int32).toInt ∧ (0 : Int32).toInt ≤ 16 from (by have z0 : (0 : Int32).toInt = 0 := (by decide); omega)), trivial⟩ _ _ _ hP hS (lv_sub hl [0, 1, 2, 3] rfl)
  intro y5 hI4 nl3 H locs ls hP hS hl
  obtain ⟨σ6, eσ6⟩ : ∃ z, z = y5.1 := ⟨_, rfl⟩
  rw [← eσ6] at hP hI4
  have hF7 : Fr (fO [13]) σ1 σ6 := hI4.1
  have hJ8 : J8 σ6 := hI4.2.1
  have b9 : (0 : Int) ≤ (y5.2.1 0).toInt ∧ (y5.2.1 0).toInt ≤ 16 := hI4.2.2.1
  have hl : lv_has ls 4 [(3, .int (y5.2.1 0)), (0, .ref (gO g 13)), (1, .int p1), (2, .int p2)] := hl
  refine lv_iload_n hx hb dX3_layWays_9 rfl (lv_at hl 0 rfl) ?_
  refine lv_aload_n hx hb dX3_layWays_10 rfl (lv_at hl 1 rfl) ?_
  refine g8_3_0 (x := ((σ6 13).1 0)) hx hb hts hown hK hP (rfl) (hts _ q280) dX3_layWays_11 ?_
  refine lv_icmp_ge (tgt := 51) hx hb dX3_layWays_14 (by decide) (fun c10 => ?_) (fun c10 => ?_)
  ·
    have k11 := ple32 c10
    exact W.vret hx hb hr (fun tS ht hW => ⟨⟨σ6, rfl, ⟨Fr.tr (Fr.tr (Fr.rf) (sA_f eσ1) (fN_O mem0)) hF7 (fO_sub (fun _ q => q)), hJ8, trivial⟩, (show va_P D clz (WD8 cy g σ6) tS.heap by rw [ht]; exact hP)⟩, hS.F ht⟩) hS.2.2 dX3_layWays_51
  ·
    have k12 := nle32 c10
    refine lv_aload_n hx hb dX3_layWays_17 rfl (lv_at hl 1 rfl) ?_
    refine g8_3_12 hx hb hts hown hK hP (hts _ q297) dX3_layWays_18 ?_
    refine lv_iload_n hx hb dX3_layWays_21 rfl (lv_at hl 0 rfl) ?_
    refine lv_iconst (v := 1) hx hb dX3_layWays_22 (by decide) ?_
    refine lv_iadd hx hb dX3_layWays_23 ?_
    refine lv_topi (fun x13 ex13 => ?_)
    have t14 := addO ex13 (by have f0 := b9; have f1 := k12; have f2 := j8_3_0 hJ8 rfl; have g0 := rg32 (y5.2.1 0); have z1 : (1 : Int32).toInt = 1 := (by decide); omega)
    refine lv_aload_n hx hb dX3_layWays_24 rfl (lv_at hl 1 rfl) ?_
    refine lv_aload_n hx hb dX3_layWays_25 rfl (lv_at hl 1 rfl) ?_
    refine g8_3_12 hx hb hts hown hK hP (hts _ q297) dX3_layWays_26 ?_
    refine lv_iload_n hx hb dX3_layWays_29 rfl (lv_at hl 0 rfl) ?_
    obtain ⟨x15, ex15⟩ : ∃ z, (σ6 13).2.2.1 12 (y5.2.1 0).toInt.toNat = z := ⟨_, rfl⟩
    refine l8_3_12 (x := x15) hx hb hK hP (vpo (by have f0 := b9; have f1 := k12; have f2 := t14; have f3 := j8_3_0 hJ8 rfl; have g0 := rg32 (y5.2.1 0); have z1 : (1 : Int32).toInt = 1 := (by decide); omega)) ex15 dX3_layWays_30 ?_
    have t16 := a8_3_12 hJ8 ex15
    refine lv_aload_n hx hb dX3_layWays_31 rfl (lv_at hl 1 rfl) ?_
    refine g8_3_9 hx hb hts hown hK hP (hts _ q294) dX3_layWays_32 ?_
    refine lv_iload_n hx hb dX3_layWays_35 rfl (lv_at hl 0 rfl) ?_
    obtain ⟨x17, ex17⟩ : ∃ z, (σ6 13).2.2.1 9 (y5.2.1 0).toInt.toNat = z := ⟨_, rfl⟩
    refine l8_3_9 (x := x17) hx hb hK hP (vpo (by have f0 := b9; have f1 := k12; have f2 := t14; have f3 := j8_3_0 hJ8 rfl; have g0 := rg32 (y5.2.1 0); have z1 : (1 : Int32).toInt = 1 := (by decide); omega)) ex17 dX3_layWays_36 ?_
    refine lv_iload_n hx hb dX3_layWays_37 rfl (lv_at hl 3 rfl) ?_
    refine lv_iadd hx hb dX3_layWays_38 ?_
    refine lv_topi (fun x18 ex18 => ?_)
    refine lv_iload_n hx hb dX3_layWays_39 rfl (lv_at hl 2 rfl) ?_
    refine lv_iconst (v := 0) hx hb dX3_layWays_40 (by decide) ?_
    refine va_calli (va_runV (As := [.int x15, .int x18, .int p1, .int 0]) (rest := [.int x13, .ref (gR g 13 12)]) ⟨hx, hb, hml, hown, hts⟩ (m_X3_layPitch l D cy g σ6  x15 x18 p1 (0) _ hJ8 (show (0 : Int) ≤ x15.toInt ∧ x15.toInt ≤ 1408 from (by have f0 := t16; have g0 := rg32 x15; omega)) (show (-12 : Int) ≤ (0 : Int32).toInt ∧ (0 : Int32).toInt ≤ 12 from (by have f0 := t16; have g0 := rg32 x15; have z0 : (0 : Int32).toInt = 0 := (by decide); omega))) (cwV 4 hts (gd_V q940 q942 q21 q129 q943) rfl rfl rfl (by decide +kernel) ⟨(Nat.le_of_ble_eq_true rfl), (Nat.le_of_ble_eq_true rfl)⟩) (pv8 hP hK hD hC hS (rv8_3 hK hP)) rfl rfl hl.1 rfl (lv_room (Nat.le_of_ble_eq_true rfl)) dX3_layWays_41 ⟨Nat.le_of_ble_eq_true rfl, Nat.le_of_ble_eq_true rfl⟩) hS (fun q _ h => up8 hS q h) (up8 hS) (fun r19 σ20 tS H1 locs ht hvm hw21 hB hz1 hk1 hS => ?_)
    have hP : va_P D clz (WD8 cy g σ20) H1 := by rw [← ht]; exact hB
    clear hB hz1 hk1 hvm ht
    generalize H1 = H at hP hS ⊢
    have hF22 : Fr (fO [13]) σ6 σ20 := hw21.1
    have hJ23 : J8 σ20 := hw21.2.1
    have b24 : (0 : Int) ≤ r19.toInt ∧ r19.toInt ≤ 1408 := hw21.2.2.1
    refine t8_3_12 hx hb hK hP hD hS (vpo (by have f0 := t14; have f1 := b9; have f2 := k12; have f3 := j8_3_0 hJ8 rfl; have g0 := rg32 x13; have z1 : (1 : Int32).toInt = 1 := (by decide); omega)) dX3_layWays_44 (fun H locs σ25 eσ25 hP hS => ?_)
    have hJ26 : J8 σ25 := hJ23.A eσ25 rfl (show PA8 3 12 r19 from (by have f0 := b24; have g0 := rg32 r19; exact ⟨by omega, by omega⟩))
    obtain ⟨x27, ex27⟩ : ∃ y : Int32, y = (y5.2.1 0) + 1 := ⟨_, rfl⟩
    have t28 := addO ex27 (by have f0 := b9; have f1 := k12; have f2 := t14; have f3 := j8_3_0 hJ8 rfl; have g0 := rg32 (y5.2.1 0); have z1 : (1 : Int32).toInt = 1 := (by decide); omega)
    refine lv_iinc (v := x27) (lv' := [(3, .int x27), (0, .ref (gO g 13)), (1, .int p1), (2, .int p2)]) hx hb dX3_layWays_45 hl (k := 0) rfl (by rw [ex27]; rfl) (by decide) rfl (fun ls hl => ?_)
    refine lv_goto (tgt := 9) hx hb dX3_layWays_48 (by decide) ?_
    have t29 : ((17 : Int) - x27.toInt).toNat < ((17 : Int) - (y5.2.1 0).toInt).toNat := (by have f0 := b9; have f1 := k12; have f2 := t14; have f3 := t28; have f4 := j8_3_0 hJ8 rfl; have g0 := rg32 (y5.2.1 0); have g1 := rg32 x27; have z1 : (1 : Int32).toInt = 1 := (by decide); omega)
    exact nl3 (σ25, lf [x27], lg []) ⟨Fr.tr (Fr.tr (Fr.tr (Fr.rf) hF7 (fO_sub (fun _ q => q))) hF22 (fO_sub (fun _ q => q))) (sA_f eσ25) (fN_O mem0), hJ26, (show (0 : Int) ≤ (x27 : Int32).toInt ∧ (x27 : Int32).toInt ≤ 16 from (by have f0 := t28; have f1 := b9; have f2 := k12; have f3 := t14; have f4 := j8_3_0 hJ8 rfl; have g0 := rg32 x27; have z1 : (1 : Int32).toInt = 1 := (by decide); omega)), trivial⟩ (show ((17 : Int) - x27.toInt).toNat < _ from by first | exact t29 | (rw [← eσ6]; exact t29)) _ _ _ hP hS (lv_sub hl [0, 1, 2, 3] rfl)

theorem q966 : Cond.code yX3_moveFrom cX3_moveFrom 3 (some .int) ∈ lw_g := lw_gm (List.mem_of_getElem? (i := 966) (by decide +kernel)) rfl
theorem dX3_moveFrom_0 : decode cX3_moveFrom 0 = .ok (.aload_n 0, 1) := by decide +kernel
theorem dX3_moveFrom_1 : decode cX3_moveFrom 1 = .ok (.getfield 18, 3) := by decide +kernel
theorem dX3_moveFrom_4 : decode cX3_moveFrom 4 = .ok (.aload_n 0, 1) := by decide +kernel
theorem dX3_moveFrom_5 : decode cX3_moveFrom 5 = .ok (.getfield 43, 3) := by decide +kernel
theorem dX3_moveFrom_8 : decode cX3_moveFrom 8 = .ok (.iload_n 1, 1) := by decide +kernel
theorem dX3_moveFrom_9 : decode cX3_moveFrom 9 = .ok (.iaload, 1) := by decide +kernel
theorem dX3_moveFrom_10 : decode cX3_moveFrom 10 = .ok (.bipush 8, 2) := by decide +kernel
theorem dX3_moveFrom_12 : decode cX3_moveFrom 12 = .ok (.imul, 1) := by decide +kernel
theorem dX3_moveFrom_13 : decode cX3_moveFrom 13 = .ok (.aload_n 0, 1) := by decide +kernel
theorem dX3_moveFrom_14 : decode cX3_moveFrom 14 = .ok (.getfield 43, 3) := by decide +kernel
theorem dX3_moveFrom_17 : decode cX3_moveFrom 17 = .ok (.iload_n 2, 1) := by decide +kernel
theorem dX3_moveFrom_18 : decode cX3_moveFrom 18 = .ok (.iaload, 1) := by decide +kernel
theorem dX3_moveFrom_19 : decode cX3_moveFrom 19 = .ok (.iadd, 1) := by decide +kernel
theorem dX3_moveFrom_20 : decode cX3_moveFrom 20 = .ok (.iaload, 1) := by decide +kernel
theorem dX3_moveFrom_21 : decode cX3_moveFrom 21 = .ok (.ireturn, 1) := by decide +kernel
set_option maxHeartbeats 4000000 in
set_option maxRecDepth 100000 in
theorem m_X3_moveFrom (l : Launch) (D : va_G) (cy : Nat → ClassId) (g : Nat → Nat) (σ : ST) (p1 : Int32) (p2 : Int32) (sz : Nat) (hJ : J8 σ) (h0 : (0 : Int) ≤ p1.toInt ∧ p1.toInt ≤ 1407) (h1 : (0 : Int) ≤ p2.toInt ∧ p2.toInt ≤ 1407) : Met l yX3_moveFrom (ww yX3_moveFrom cX3_moveFrom 3 (some .int)) ({ frames := 1, cells := 0, slots := 0, locals := 64 }) (va_Pc [.ref (gO g 13), .int p1, .int p2] (pr8 D cy g σ sz)) (qi8 D cy g sz (fun r τ => τ = σ ∧ True)) 0 0 (A8 cy g sz) := by
  refine Met.ofW (cc := cX3_moveFrom) (maxL := 3) (ret := (some .int)) (by decide) rfl ?_
  intro p e s m args below meth c s₁ B hml hv
  obtain ⟨rfl, hsz, hP, hK, hD0, hC⟩ := hv
  have hx := B.exec
  have hb := B.bytes
  have hr := B.returns
  have hts := hts_g (atoms_spec (ws := ww yX3_moveFrom cX3_moveFrom 3 (some .int)) B.pre)
  have hown : s.vm.findClass RX3 = some m.cls := findClass_of_methodNamed B.named
  have hlocks := B.notSynchronized
  clear B
  subst hsz
  have hD := fun τ => A8_D (sz := s.heap.size) hD0 τ
  clear hD0
  have hS : va_S (A8 cy g s.heap.size) s.heap s.heap [] := va_S.rf
  have hl := lv_entry ([.ref (gO g 13), .int p1, .int p2]) (n := 3) (Nat.le_of_ble_eq_true rfl)
  rw [lg_entry_eq]
  generalize (lg_sl ([.ref (gO g 13), .int p1, .int p2]) ++ List.replicate (3 - (lg_sl ([.ref (gO g 13), .int p1, .int p2])).length) Slot.unset).toArray = ls at hl ⊢
  have hl : lv_has ls 3 [(0, .ref (gO g 13)), (1, .int p1), (2, .int p2)] := hl
  refine lv_aload_n hx hb dX3_moveFrom_0 rfl (lv_at hl 0 rfl) ?_
  refine g8_3_7 hx hb hts hown hK hP (hts _ q292) dX3_moveFrom_1 ?_
  refine lv_aload_n hx hb dX3_moveFrom_4 rfl (lv_at hl 0 rfl) ?_
  refine g8_3_15 hx hb hts hown hK hP (hts _ q300) dX3_moveFrom_5 ?_
  refine lv_iload_n hx hb dX3_moveFrom_8 rfl (lv_at hl 1 rfl) ?_
  obtain ⟨x1, ex1⟩ : ∃ z, (σ 13).2.2.1 15 p1.toInt.toNat = z := ⟨_, rfl⟩
  refine l8_3_15 (x := x1) hx hb hK hP (vpo (by have f0 := h0; have g0 := rg32 p1; omega)) ex1 dX3_moveFrom_9 ?_
  have t2 := a8_3_15 hJ ex1
  refine lv_bipush (v := 8) hx hb dX3_moveFrom_10 (by decide) ?_
  refine lv_imul hx hb dX3_moveFrom_12 ?_
  refine lv_topi (fun x3 ex3 => ?_)
  have t4 := mulC (n := 8) ex3 (by decide) (by have f0 := t2; have g0 := rg32 x1; omega)
  refine lv_aload_n hx hb dX3_moveFrom_13 rfl (lv_at hl 0 rfl) ?_
  refine g8_3_15 hx hb hts hown hK hP (hts _ q300) dX3_moveFrom_14 ?_
  refine lv_iload_n hx hb dX3_moveFrom_17 rfl (lv_at hl 2 rfl) ?_
  obtain ⟨x5, ex5⟩ : ∃ z, (σ 13).2.2.1 15 p2.toInt.toNat = z := ⟨_, rfl⟩
  refine l8_3_15 (x := x5) hx hb hK hP (vpo (by have f0 := h1; have g0 := rg32 p2; omega)) ex5 dX3_moveFrom_18 ?_
  have t6 := a8_3_15 hJ ex5
  refine lv_iadd hx hb dX3_moveFrom_19 ?_
  refine lv_topi (fun x7 ex7 => ?_)
  have t8 := addO ex7 (by have f0 := t4; have f1 := t6; have f2 := t2; have g0 := rg32 x3; have g1 := rg32 x5; omega)
  obtain ⟨x9, ex9⟩ : ∃ z, (σ 13).2.2.1 7 x7.toInt.toNat = z := ⟨_, rfl⟩
  refine l8_3_7 (x := x9) hx hb hK hP (vpo (by have f0 := t8; have f1 := t4; have f2 := t6; have f3 := t2; have g0 := rg32 x7; omega)) ex9 dX3_moveFrom_20 ?_
  exact W.iret (v := x9) hx hb hr (fun tS ht hW => ⟨⟨x9, σ, rfl, ⟨rfl, trivial⟩, (show va_P D clz (WD8 cy g σ) tS.heap by rw [ht]; exact hP)⟩, hS.F ht⟩) hS.2.2 dX3_moveFrom_21

theorem q971 : Cond.code yX7_isSlide cX7_isSlide 1 (some .boolean) ∈ lw_g := lw_gm (List.mem_of_getElem? (i := 971) (by decide +kernel)) rfl
theorem dX7_isSlide_0 : decode cX7_isSlide 0 = .ok (.aload_n 0, 1) := by decide +kernel
theorem dX7_isSlide_1 : decode cX7_isSlide 1 = .ok (.getfield 21, 3) := by decide +kernel
theorem dX7_isSlide_4 : decode cX7_isSlide 4 = .ok (.iconst 2, 1) := by decide +kernel
theorem dX7_isSlide_5 : decode cX7_isSlide 5 = .ok (.if_icmp .ne 7, 3) := by decide +kernel
theorem dX7_isSlide_8 : decode cX7_isSlide 8 = .ok (.iconst 1, 1) := by decide +kernel
theorem dX7_isSlide_9 : decode cX7_isSlide 9 = .ok (.goto 4, 3) := by decide +kernel
theorem dX7_isSlide_12 : decode cX7_isSlide 12 = .ok (.iconst 0, 1) := by decide +kernel
theorem dX7_isSlide_13 : decode cX7_isSlide 13 = .ok (.ireturn, 1) := by decide +kernel
set_option maxHeartbeats 4000000 in
set_option maxRecDepth 100000 in
theorem m_X7_isSlide (l : Launch) (D : va_G) (cy : Nat → ClassId) (g : Nat → Nat) (σ : ST) (d0 : Nat) (sz : Nat) (hJ : J8 σ) (hd0 : 9 ≤ d0 ∧ d0 < 12) : Met l yX7_isSlide (ww yX7_isSlide cX7_isSlide 1 (some .boolean)) ({ frames := 1, cells := 0, slots := 0, locals := 64 }) (va_Pc [.ref (gO g d0)] (pr8 D cy g σ sz)) (qi8 D cy g sz (fun r τ => τ = σ ∧ ((0 : Int) ≤ r.toInt ∧ r.toInt ≤ 1) ∧ True)) 0 0 (A8 cy g sz) := by
  refine Met.ofW (cc := cX7_isSlide) (maxL := 1) (ret := (some .boolean)) (by decide) rfl ?_
  intro p e s m args below meth c s₁ B hml hv
  obtain ⟨rfl, hsz, hP, hK, hD0, hC⟩ := hv
  have hx := B.exec
  have hb := B.bytes
  have hr := B.returns
  have hts := hts_g (atoms_spec (ws := ww yX7_isSlide cX7_isSlide 1 (some .boolean)) B.pre)
  have hown : s.vm.findClass RX7 = some m.cls := findClass_of_methodNamed B.named
  have hlocks := B.notSynchronized
  clear B
  subst hsz
  have hD := fun τ => A8_D (sz := s.heap.size) hD0 τ
  clear hD0
  have hS : va_S (A8 cy g s.heap.size) s.heap s.heap [] := va_S.rf
  have hl := lv_entry ([.ref (gO g d0)]) (n := 1) (Nat.le_of_ble_eq_true rfl)
  rw [lg_entry_eq]
  generalize (lg_sl ([.ref (gO g d0)]) ++ List.replicate (1 - (lg_sl ([.ref (gO g d0)])).length) Slot.unset).toArray = ls at hl ⊢
  have hl : lv_has ls 1 [(0, .ref (gO g d0))] := hl
  refine lv_aload_n hx hb dX7_isSlide_0 rfl (lv_at hl 0 rfl) ?_
  refine g8_7_2 (x := ((σ d0).1 2)) hx hb hts hown hK hP hd0 (rfl) (hts _ q252) dX7_isSlide_1 ?_
  refine lv_iconst (v := 2) hx hb dX7_isSlide_4 (by decide) ?_
  refine lv_icmp_ne (tgt := 12) hx hb dX7_isSlide_5 (by decide) (fun c1 => ?_) (fun c1 => ?_)
  ·
    have k2 := neq32 c1
    refine lv_iconst (v := 0) hx hb dX7_isSlide_12 (by decide) ?_
    exact W.zret (v := 0) hx hb hr rfl (fun tS ht hW => ⟨⟨0, σ, rfl, ⟨rfl, (show (0 : Int) ≤ (0 : Int32).toInt ∧ (0 : Int32).toInt ≤ 1 from (by have z0 : (0 : Int32).toInt = 0 := (by decide); omega)), trivial⟩, (show va_P D clz (WD8 cy g σ) tS.heap by rw [ht]; exact hP)⟩, hS.F ht⟩) hS.2.2 dX7_isSlide_13
  ·
    have k3 := peq32 c1
    refine lv_iconst (v := 1) hx hb dX7_isSlide_8 (by decide) ?_
    refine lv_goto (tgt := 13) hx hb dX7_isSlide_9 (by decide) ?_
    exact W.zret (v := 1) hx hb hr rfl (fun tS ht hW => ⟨⟨1, σ, rfl, ⟨rfl, (show (0 : Int) ≤ (1 : Int32).toInt ∧ (1 : Int32).toInt ≤ 1 from (by have z1 : (1 : Int32).toInt = 1 := (by decide); omega)), trivial⟩, (show va_P D clz (WD8 cy g σ) tS.heap by rw [ht]; exact hP)⟩, hS.F ht⟩) hS.2.2 dX7_isSlide_13

theorem q962 : Cond.code yX3_goes cX3_goes 6 (some .boolean) ∈ lw_g := lw_gm (List.mem_of_getElem? (i := 962) (by decide +kernel)) rfl
theorem q963 : Cond.methodLink RX3 110 yX3_moveFrom ∈ lw_g := lw_gm (List.mem_of_getElem? (i := 963) (by decide +kernel)) rfl
theorem q965 : Cond.instanceMethod yX3_moveFrom ∈ lw_g := lw_gm (List.mem_of_getElem? (i := 965) (by decide +kernel)) rfl
theorem q25 : Cond.selects RX3 yX3_moveFrom yX3_moveFrom ∈ lw_g := lw_gm (List.mem_of_getElem? (i := 25) (by decide +kernel)) rfl
theorem q967 : Cond.methodLink RX3 113 Lib.Math.abs.name ∈ lw_g := lw_gm (List.mem_of_getElem? (i := 967) (by decide +kernel)) rfl
theorem q968 : Cond.methodLink RX3 118 yX7_isSlide ∈ lw_g := lw_gm (List.mem_of_getElem? (i := 968) (by decide +kernel)) rfl
theorem q969 : Cond.instanceMethod yX7_isSlide ∈ lw_g := lw_gm (List.mem_of_getElem? (i := 969) (by decide +kernel)) rfl
theorem q970 : Cond.selects RX7 yX7_isSlide yX7_isSlide ∈ lw_g := lw_gm (List.mem_of_getElem? (i := 970) (by decide +kernel)) rfl
theorem dX3_goes_0 : decode cX3_goes 0 = .ok (.aload_n 0, 1) := by decide +kernel
theorem dX3_goes_1 : decode cX3_goes 1 = .ok (.iload_n 2, 1) := by decide +kernel
theorem dX3_goes_2 : decode cX3_goes 2 = .ok (.iload_n 3, 1) := by decide +kernel
theorem dX3_goes_3 : decode cX3_goes 3 = .ok (.invokevirtual 110, 3) := by decide +kernel
theorem dX3_goes_6 : decode cX3_goes 6 = .ok (.istore 4, 2) := by decide +kernel
theorem dX3_goes_8 : decode cX3_goes 8 = .ok (.iload 4, 2) := by decide +kernel
theorem dX3_goes_10 : decode cX3_goes 10 = .ok (.aload_n 0, 1) := by decide +kernel
theorem dX3_goes_11 : decode cX3_goes 11 = .ok (.getfield 71, 3) := by decide +kernel
theorem dX3_goes_14 : decode cX3_goes 14 = .ok (.aload_n 0, 1) := by decide +kernel
theorem dX3_goes_15 : decode cX3_goes 15 = .ok (.getfield 28, 3) := by decide +kernel
theorem dX3_goes_18 : decode cX3_goes 18 = .ok (.iload_n 1, 1) := by decide +kernel
theorem dX3_goes_19 : decode cX3_goes 19 = .ok (.iaload, 1) := by decide +kernel
theorem dX3_goes_20 : decode cX3_goes 20 = .ok (.imul, 1) := by decide +kernel
theorem dX3_goes_21 : decode cX3_goes 21 = .ok (.if_icmp .le 5, 3) := by decide +kernel
theorem dX3_goes_24 : decode cX3_goes 24 = .ok (.iconst 0, 1) := by decide +kernel
theorem dX3_goes_25 : decode cX3_goes 25 = .ok (.ireturn, 1) := by decide +kernel
theorem dX3_goes_26 : decode cX3_goes 26 = .ok (.aload_n 0, 1) := by decide +kernel
theorem dX3_goes_27 : decode cX3_goes 27 = .ok (.getfield 31, 3) := by decide +kernel
theorem dX3_goes_30 : decode cX3_goes 30 = .ok (.iload_n 1, 1) := by decide +kernel
theorem dX3_goes_31 : decode cX3_goes 31 = .ok (.iaload, 1) := by decide +kernel
theorem dX3_goes_32 : decode cX3_goes 32 = .ok (.ifCond .ne 5, 3) := by decide +kernel
theorem dX3_goes_35 : decode cX3_goes 35 = .ok (.iconst 1, 1) := by decide +kernel
theorem dX3_goes_36 : decode cX3_goes 36 = .ok (.ireturn, 1) := by decide +kernel
theorem dX3_goes_37 : decode cX3_goes 37 = .ok (.aload_n 0, 1) := by decide +kernel
theorem dX3_goes_38 : decode cX3_goes 38 = .ok (.getfield 40, 3) := by decide +kernel
theorem dX3_goes_41 : decode cX3_goes 41 = .ok (.iload_n 2, 1) := by decide +kernel
theorem dX3_goes_42 : decode cX3_goes 42 = .ok (.iaload, 1) := by decide +kernel
theorem dX3_goes_43 : decode cX3_goes 43 = .ok (.aload_n 0, 1) := by decide +kernel
theorem dX3_goes_44 : decode cX3_goes 44 = .ok (.getfield 40, 3) := by decide +kernel
theorem dX3_goes_47 : decode cX3_goes 47 = .ok (.iload_n 3, 1) := by decide +kernel
theorem dX3_goes_48 : decode cX3_goes 48 = .ok (.iaload, 1) := by decide +kernel
theorem dX3_goes_49 : decode cX3_goes 49 = .ok (.isub, 1) := by decide +kernel
theorem dX3_goes_50 : decode cX3_goes 50 = .ok (.invokestatic 113, 3) := by decide +kernel
theorem dX3_goes_53 : decode cX3_goes 53 = .ok (.istore 5, 2) := by decide +kernel
theorem dX3_goes_55 : decode cX3_goes 55 = .ok (.iload 5, 2) := by decide +kernel
theorem dX3_goes_57 : decode cX3_goes 57 = .ok (.iconst 1, 1) := by decide +kernel
theorem dX3_goes_58 : decode cX3_goes 58 = .ok (.if_icmp .gt 28, 3) := by decide +kernel
theorem dX3_goes_61 : decode cX3_goes 61 = .ok (.iload 5, 2) := by decide +kernel
theorem dX3_goes_63 : decode cX3_goes 63 = .ok (.ifCond .eq 19, 3) := by decide +kernel
theorem dX3_goes_66 : decode cX3_goes 66 = .ok (.iload 4, 2) := by decide +kernel
theorem dX3_goes_68 : decode cX3_goes 68 = .ok (.iconst 1, 1) := by decide +kernel
theorem dX3_goes_69 : decode cX3_goes 69 = .ok (.if_icmp .le 13, 3) := by decide +kernel
theorem dX3_goes_72 : decode cX3_goes 72 = .ok (.aload_n 0, 1) := by decide +kernel
theorem dX3_goes_73 : decode cX3_goes 73 = .ok (.getfield 14, 3) := by decide +kernel
theorem dX3_goes_76 : decode cX3_goes 76 = .ok (.invokevirtual 118, 3) := by decide +kernel
theorem dX3_goes_79 : decode cX3_goes 79 = .ok (.ifCond .ne 7, 3) := by decide +kernel
theorem dX3_goes_82 : decode cX3_goes 82 = .ok (.iconst 1, 1) := by decide +kernel
theorem dX3_goes_83 : decode cX3_goes 83 = .ok (.goto 4, 3) := by decide +kernel
theorem dX3_goes_86 : decode cX3_goes 86 = .ok (.iconst 0, 1) := by decide +kernel
theorem dX3_goes_87 : decode cX3_goes 87 = .ok (.ireturn, 1) := by decide +kernel
set_option maxHeartbeats 4000000 in
set_option maxRecDepth 100000 in
theorem m_X3_goes (l : Launch) (D : va_G) (cy : Nat → ClassId) (g : Nat → Nat) (σ : ST) (p1 : Int32) (p2 : Int32) (p3 : Int32) (sz : Nat) (hJ : J8 σ) (h0 : (0 : Int) ≤ p1.toInt ∧ p1.toInt ≤ 14) (h1 : (0 : Int) ≤ p2.toInt ∧ p2.toInt ≤ 1407) (h2 : (0 : Int) ≤ p3.toInt ∧ p3.toInt ≤ 1407) : Met l yX3_goes (ww yX3_goes cX3_goes 6 (some .boolean)) ({ frames := 2, cells := 0, slots := 0, locals := 128 }) (va_Pc [.ref (gO g 13), .int p1, .int p2, .int p3] (pr8 D cy g σ sz)) (qi8 D cy g sz (fun r τ => τ = σ ∧ ((0 : Int) ≤ r.toInt ∧ r.toInt ≤ 1) ∧ True)) 0 0 (A8 cy g sz) := by
  refine Met.ofW (cc := cX3_goes) (maxL := 6) (ret := (some .boolean)) (by decide) rfl ?_
  intro p e s m args below meth c s₁ B hml hv
  obtain ⟨rfl, hsz, hP, hK, hD0, hC⟩ := hv
  have hx := B.exec
  have hb := B.bytes
  have hr := B.returns
  have hts := hts_g (atoms_spec (ws := ww yX3_goes cX3_goes 6 (some .boolean)) B.pre)
  have hown : s.vm.findClass RX3 = some m.cls := findClass_of_methodNamed B.named
  have hlocks := B.notSynchronized
  clear B
  subst hsz
  have hD := fun τ => A8_D (sz := s.heap.size) hD0 τ
  clear hD0
  have hS : va_S (A8 cy g s.heap.size) s.heap s.heap [] := va_S.rf
  have hl := lv_entry ([.ref (gO g 13), .int p1, .int p2, .int p3]) (n := 6) (Nat.le_of_ble_eq_true rfl)
  rw [lg_entry_eq]
  generalize (lg_sl ([.ref (gO g 13), .int p1, .int p2, .int p3]) ++ List.replicate (6 - (lg_sl ([.ref (gO g 13), .int p1, .int p2, .int p3])).length) Slot.unset).toArray = ls at hl ⊢
  have hl : lv_has ls 6 [(0, .ref (gO g 13)), (1, .int p1), (2, .int p2), (3, .int p3)] := hl
  refine lv_aload_n hx hb dX3_goes_0 rfl (lv_at hl 0 rfl) ?_
  refine lv_iload_n hx hb dX3_goes_1 rfl (lv_at hl 2 rfl) ?_
  refine lv_iload_n hx hb dX3_goes_2 rfl (lv_at hl 3 rfl) ?_
  refine va_calli (va_runV (As := [.int p2, .int p3]) (rest := []) ⟨hx, hb, hml, hown, hts⟩ (m_X3_moveFrom l D cy g σ  p2 p3 _ hJ (show (0 : Int) ≤ p2.toInt ∧ p2.toInt ≤ 1407 from (by have f0 := h1; have g0 := rg32 p2; omega)) (show (0 : Int) ≤ p3.toInt ∧ p3.toInt ≤ 1407 from (by have f0 := h1; have f1 := h2; have g0 := rg32 p2; have g1 := rg32 p3; omega))) (cwV 2 hts (gd_V q963 q965 q25 q129 q966) rfl rfl rfl (by decide +kernel) ⟨(Nat.le_of_ble_eq_true rfl), (Nat.le_of_ble_eq_true rfl)⟩) (pv8 hP hK hD hC hS (rv8_3 hK hP)) rfl rfl hl.1 rfl (lv_room (Nat.le_of_ble_eq_true rfl)) dX3_goes_3 ⟨Nat.le_of_ble_eq_true rfl, Nat.le_of_ble_eq_true rfl⟩) hS (fun q _ h => up8 hS q h) (up8 hS) (fun r1 σ2 tS H1 locs ht hvm hw3 hB hz1 hk1 hS => ?_)
  have hP : va_P D clz (WD8 cy g σ2) H1 := by rw [← ht]; exact hB
  clear hB hz1 hk1 hvm ht
  generalize H1 = H at hP hS ⊢
  have hw3E : σ = σ2 := (hw3.1).symm
  subst hw3E
  refine lv_istore (lv' := [(4, .int r1), (0, .ref (gO g 13)), (1, .int p1), (2, .int p2), (3, .int p3)]) hx hb dX3_goes_6 hl (by decide) rfl (fun ls hl => ?_)
  refine lv_iload hx hb dX3_goes_8 (lv_at hl 0 rfl) ?_
  refine lv_aload_n hx hb dX3_goes_10 rfl (lv_at hl 1 rfl) ?_
  refine g8_3_5 (x := ((σ 13).1 5)) hx hb hts hown hK hP (rfl) (hts _ q290) dX3_goes_11 ?_
  refine lv_aload_n hx hb dX3_goes_14 rfl (lv_at hl 1 rfl) ?_
  refine g8_3_10 hx hb hts hown hK hP (hts _ q295) dX3_goes_15 ?_
  refine lv_iload_n hx hb dX3_goes_18 rfl (lv_at hl 2 rfl) ?_
  obtain ⟨x4, ex4⟩ : ∃ z, (σ 13).2.2.1 10 p1.toInt.toNat = z := ⟨_, rfl⟩
  refine l8_3_10 (x := x4) hx hb hK hP (vpo (by have f0 := h0; have g0 := rg32 p1; omega)) ex4 dX3_goes_19 ?_
  refine lv_imul hx hb dX3_goes_20 ?_
  refine lv_topi (fun x5 ex5 => ?_)
  refine lv_icmp_le (tgt := 26) hx hb dX3_goes_21 (by decide) (fun c6 => ?_) (fun c6 => ?_)
  ·
    have k7 := ple32 c6
    refine lv_aload_n hx hb dX3_goes_26 rfl (lv_at hl 1 rfl) ?_
    refine g8_3_11 hx hb hts hown hK hP (hts _ q296) dX3_goes_27 ?_
    refine lv_iload_n hx hb dX3_goes_30 rfl (lv_at hl 2 rfl) ?_
    obtain ⟨x8, ex8⟩ : ∃ z, (σ 13).2.2.1 11 p1.toInt.toNat = z := ⟨_, rfl⟩
    refine l8_3_11 (x := x8) hx hb hK hP (vpo (by have f0 := h0; have g0 := rg32 p1; omega)) ex8 dX3_goes_31 ?_
    refine lv_if_ne (tgt := 37) hx hb dX3_goes_32 (by decide) (fun c9 => ?_) (fun c9 => ?_)
    ·
      have k10 := neq32 c9
      refine lv_aload_n hx hb dX3_goes_37 rfl (lv_at hl 1 rfl) ?_
      refine g8_3_14 hx hb hts hown hK hP (hts _ q299) dX3_goes_38 ?_
      refine lv_iload_n hx hb dX3_goes_41 rfl (lv_at hl 3 rfl) ?_
      obtain ⟨x11, ex11⟩ : ∃ z, (σ 13).2.2.1 14 p2.toInt.toNat = z := ⟨_, rfl⟩
      refine l8_3_14 (x := x11) hx hb hK hP (vpo (by have f0 := h1; have g0 := rg32 p2; omega)) ex11 dX3_goes_42 ?_
      refine lv_aload_n hx hb dX3_goes_43 rfl (lv_at hl 1 rfl) ?_
      refine g8_3_14 hx hb hts hown hK hP (hts _ q299) dX3_goes_44 ?_
      refine lv_iload_n hx hb dX3_goes_47 rfl (lv_at hl 4 rfl) ?_
      obtain ⟨x12, ex12⟩ : ∃ z, (σ 13).2.2.1 14 p3.toInt.toNat = z := ⟨_, rfl⟩
      refine l8_3_14 (x := x12) hx hb hK hP (vpo (by have f0 := h2; have g0 := rg32 p3; omega)) ex12 dX3_goes_48 ?_
      refine lv_isub hx hb dX3_goes_49 ?_
      refine lv_topi (fun x13 ex13 => ?_)
      refine va_mabs hx hb (hml.trans hl.1.symm) hown (hts _ q967) (hts _ q860) (hts _ q135) (hts _ q861) (Nat.le_of_ble_eq_true rfl) (Nat.le_of_ble_eq_true rfl) (Nat.le_refl _) (Nat.le_refl _) dX3_goes_50 ?_
      refine lv_topi (fun x14 ex14 => ?_)
      refine lv_istore (lv' := [(5, .int x14), (4, .int r1), (0, .ref (gO g 13)), (1, .int p1), (2, .int p2), (3, .int p3)]) hx hb dX3_goes_53 hl (by decide) rfl (fun ls hl => ?_)
      refine lv_iload hx hb dX3_goes_55 (lv_at hl 0 rfl) ?_
      refine lv_iconst (v := 1) hx hb dX3_goes_57 (by decide) ?_
      refine lv_icmp_gt (tgt := 86) hx hb dX3_goes_58 (by decide) (fun c16 => ?_) (fun c16 => ?_)
      ·
        have k17 := plt32 c16
        refine lv_iconst (v := 0) hx hb dX3_goes_86 (by decide) ?_
        exact W.zret (v := 0) hx hb hr rfl (fun tS ht hW => ⟨⟨0, σ, rfl, ⟨rfl, (show (0 : Int) ≤ (0 : Int32).toInt ∧ (0 : Int32).toInt ≤ 1 from (by have z0 : (0 : Int32).toInt = 0 := (by decide); omega)), trivial⟩, (show va_P D clz (WD8 cy g σ) tS.heap by rw [ht]; exact hP)⟩, hS.F ht⟩) hS.2.2 dX3_goes_87
      ·
        have k18 := nlt32 c16
        refine lv_iload hx hb dX3_goes_61 (lv_at hl 0 rfl) ?_
        refine lv_if_eq (tgt := 82) hx hb dX3_goes_63 (by decide) (fun c19 => ?_) (fun c19 => ?_)
        ·
          have k20 := peq32 c19
          refine lv_iconst (v := 1) hx hb dX3_goes_82 (by decide) ?_
          refine lv_goto (tgt := 87) hx hb dX3_goes_83 (by decide) ?_
          exact W.zret (v := 1) hx hb hr rfl (fun tS ht hW => ⟨⟨1, σ, rfl, ⟨rfl, (show (0 : Int) ≤ (1 : Int32).toInt ∧ (1 : Int32).toInt ≤ 1 from (by have z1 : (1 : Int32).toInt = 1 := (by decide); omega)), trivial⟩, (show va_P D clz (WD8 cy g σ) tS.heap by rw [ht]; exact hP)⟩, hS.F ht⟩) hS.2.2 dX3_goes_87
        ·
          have k21 := neq32 c19
          refine lv_iload hx hb dX3_goes_66 (lv_at hl 1 rfl) ?_
          refine lv_iconst (v := 1) hx hb dX3_goes_68 (by decide) ?_
          refine lv_icmp_le (tgt := 82) hx hb dX3_goes_69 (by decide) (fun c22 => ?_) (fun c22 => ?_)
          ·
            have k23 := ple32 c22
            refine lv_iconst (v := 1) hx hb dX3_goes_82 (by decide) ?_
            refine lv_goto (tgt := 87) hx hb dX3_goes_83 (by decide) ?_
            exact W.zret (v := 1) hx hb hr rfl (fun tS ht hW => ⟨⟨1, σ, rfl, ⟨rfl, (show (0 : Int) ≤ (1 : Int32).toInt ∧ (1 : Int32).toInt ≤ 1 from (by have z1 : (1 : Int32).toInt = 1 := (by decide); omega)), trivial⟩, (show va_P D clz (WD8 cy g σ) tS.heap by rw [ht]; exact hP)⟩, hS.F ht⟩) hS.2.2 dX3_goes_87
          ·
            have k24 := nle32 c22
            refine lv_aload_n hx hb dX3_goes_72 rfl (lv_at hl 2 rfl) ?_
            refine g8_3_6 hx hb hts hown hK hP (hts _ q291) dX3_goes_73 ?_
            refine va_calli (va_runV (As := []) (rest := []) ⟨hx, hb, hml, hown, hts⟩ (m_X7_isSlide l D cy g σ  11 _ hJ (show 9 ≤ 11 ∧ 11 < 12 from ⟨by decide, by decide⟩)) (cwV 0 hts (gd_V q968 q969 q970 q128 q971) rfl rfl rfl (by decide +kernel) ⟨(Nat.le_of_ble_eq_true rfl), (Nat.le_of_ble_eq_true rfl)⟩) (pv8 hP hK hD hC hS (rv8_7 hK hP (by decide : 9 ≤ 11 ∧ 11 < 12))) rfl rfl hl.1 rfl (lv_room (Nat.le_of_ble_eq_true rfl)) dX3_goes_76 ⟨Nat.le_of_ble_eq_true rfl, Nat.le_of_ble_eq_true rfl⟩) hS (fun q _ h => up8 hS q h) (up8 hS) (fun r25 σ26 tS H1 locs ht hvm hw27 hB hz1 hk1 hS => ?_)
            have hP : va_P D clz (WD8 cy g σ26) H1 := by rw [← ht]; exact hB
            clear hB hz1 hk1 hvm ht
            generalize H1 = H at hP hS ⊢
            have hw27E : σ = σ26 := (hw27.1).symm
            subst hw27E
            have b28 : (0 : Int) ≤ r25.toInt ∧ r25.toInt ≤ 1 := hw27.2.1
            refine lv_if_ne (tgt := 86) hx hb dX3_goes_79 (by decide) (fun c29 => ?_) (fun c29 => ?_)
            ·
              have k30 := neq32 c29
              refine lv_iconst (v := 0) hx hb dX3_goes_86 (by decide) ?_
              exact W.zret (v := 0) hx hb hr rfl (fun tS ht hW => ⟨⟨0, σ, rfl, ⟨rfl, (show (0 : Int) ≤ (0 : Int32).toInt ∧ (0 : Int32).toInt ≤ 1 from (by have z0 : (0 : Int32).toInt = 0 := (by decide); omega)), trivial⟩, (show va_P D clz (WD8 cy g σ) tS.heap by rw [ht]; exact hP)⟩, hS.F ht⟩) hS.2.2 dX3_goes_87
            ·
              have k31 := peq32 c29
              refine lv_iconst (v := 1) hx hb dX3_goes_82 (by decide) ?_
              refine lv_goto (tgt := 87) hx hb dX3_goes_83 (by decide) ?_
              exact W.zret (v := 1) hx hb hr rfl (fun tS ht hW => ⟨⟨1, σ, rfl, ⟨rfl, (show (0 : Int) ≤ (1 : Int32).toInt ∧ (1 : Int32).toInt ≤ 1 from (by have z1 : (1 : Int32).toInt = 1 := (by decide); omega)), trivial⟩, (show va_P D clz (WD8 cy g σ) tS.heap by rw [ht]; exact hP)⟩, hS.F ht⟩) hS.2.2 dX3_goes_87
    ·
      have k32 := peq32 c9
      refine lv_iconst (v := 1) hx hb dX3_goes_35 (by decide) ?_
      exact W.zret (v := 1) hx hb hr rfl (fun tS ht hW => ⟨⟨1, σ, rfl, ⟨rfl, (show (0 : Int) ≤ (1 : Int32).toInt ∧ (1 : Int32).toInt ≤ 1 from (by have z1 : (1 : Int32).toInt = 1 := (by decide); omega)), trivial⟩, (show va_P D clz (WD8 cy g σ) tS.heap by rw [ht]; exact hP)⟩, hS.F ht⟩) hS.2.2 dX3_goes_36
  ·
    have k33 := nle32 c6
    refine lv_iconst (v := 0) hx hb dX3_goes_24 (by decide) ?_
    exact W.zret (v := 0) hx hb hr rfl (fun tS ht hW => ⟨⟨0, σ, rfl, ⟨rfl, (show (0 : Int) ≤ (0 : Int32).toInt ∧ (0 : Int32).toInt ≤ 1 from (by have z0 : (0 : Int32).toInt = 0 := (by decide); omega)), trivial⟩, (show va_P D clz (WD8 cy g σ) tS.heap by rw [ht]; exact hP)⟩, hS.F ht⟩) hS.2.2 dX3_goes_25

theorem q975 : Cond.code yX3_through cX3_through 6 (some .int) ∈ lw_g := lw_gm (List.mem_of_getElem? (i := 975) (by decide +kernel)) rfl
theorem q303 : Cond.fieldLink RX3 52 "LipsAndSlides$Plays" "value" "[I" ∈ lw_g := lw_gm (List.mem_of_getElem? (i := 303) (by decide +kernel)) rfl
theorem q976 : Cond.methodLink RX3 129 Lib.Math.max.name ∈ lw_g := lw_gm (List.mem_of_getElem? (i := 976) (by decide +kernel)) rfl
theorem q977 : Cond.static Lib.Math.max.name ∈ lw_g := lw_gm (List.mem_of_getElem? (i := 977) (by decide +kernel)) rfl
theorem q978 : Cond.code Lib.Math.max.name Lib.Math.max.code 2 (some .int) ∈ lw_g := lw_gm (List.mem_of_getElem? (i := 978) (by decide +kernel)) rfl
theorem dX3_through_0 : decode cX3_through 0 = .ok (.aload_n 0, 1) := by decide +kernel
theorem dX3_through_1 : decode cX3_through 1 = .ok (.iload_n 2, 1) := by decide +kernel
theorem dX3_through_2 : decode cX3_through 2 = .ok (.iload_n 3, 1) := by decide +kernel
theorem dX3_through_3 : decode cX3_through 3 = .ok (.invokevirtual 110, 3) := by decide +kernel
theorem dX3_through_6 : decode cX3_through 6 = .ok (.istore 5, 2) := by decide +kernel
theorem dX3_through_8 : decode cX3_through 8 = .ok (.iload 4, 2) := by decide +kernel
theorem dX3_through_10 : decode cX3_through 10 = .ok (.ifCond .ne 17, 3) := by decide +kernel
theorem dX3_through_13 : decode cX3_through 13 = .ok (.aload_n 0, 1) := by decide +kernel
theorem dX3_through_14 : decode cX3_through 14 = .ok (.getfield 52, 3) := by decide +kernel
theorem dX3_through_17 : decode cX3_through 17 = .ok (.iload_n 3, 1) := by decide +kernel
theorem dX3_through_18 : decode cX3_through 18 = .ok (.iaload, 1) := by decide +kernel
theorem dX3_through_19 : decode cX3_through 19 = .ok (.iload 5, 2) := by decide +kernel
theorem dX3_through_21 : decode cX3_through 21 = .ok (.sipush 10000, 3) := by decide +kernel
theorem dX3_through_24 : decode cX3_through 24 = .ok (.imul, 1) := by decide +kernel
theorem dX3_through_25 : decode cX3_through 25 = .ok (.iadd, 1) := by decide +kernel
theorem dX3_through_26 : decode cX3_through 26 = .ok (.ireturn, 1) := by decide +kernel
theorem dX3_through_27 : decode cX3_through 27 = .ok (.iload 4, 2) := by decide +kernel
theorem dX3_through_29 : decode cX3_through 29 = .ok (.iconst 2, 1) := by decide +kernel
theorem dX3_through_30 : decode cX3_through 30 = .ok (.if_icmp .ne 40, 3) := by decide +kernel
theorem dX3_through_33 : decode cX3_through 33 = .ok (.aload_n 0, 1) := by decide +kernel
theorem dX3_through_34 : decode cX3_through 34 = .ok (.getfield 28, 3) := by decide +kernel
theorem dX3_through_37 : decode cX3_through 37 = .ok (.iload_n 1, 1) := by decide +kernel
theorem dX3_through_38 : decode cX3_through 38 = .ok (.iaload, 1) := by decide +kernel
theorem dX3_through_39 : decode cX3_through 39 = .ok (.ifCond .le 31, 3) := by decide +kernel
theorem dX3_through_42 : decode cX3_through 42 = .ok (.aload_n 0, 1) := by decide +kernel
theorem dX3_through_43 : decode cX3_through 43 = .ok (.getfield 52, 3) := by decide +kernel
theorem dX3_through_46 : decode cX3_through 46 = .ok (.iload_n 3, 1) := by decide +kernel
theorem dX3_through_47 : decode cX3_through 47 = .ok (.iaload, 1) := by decide +kernel
theorem dX3_through_48 : decode cX3_through 48 = .ok (.iload 5, 2) := by decide +kernel
theorem dX3_through_50 : decode cX3_through 50 = .ok (.aload_n 0, 1) := by decide +kernel
theorem dX3_through_51 : decode cX3_through 51 = .ok (.getfield 28, 3) := by decide +kernel
theorem dX3_through_54 : decode cX3_through 54 = .ok (.iload_n 1, 1) := by decide +kernel
theorem dX3_through_55 : decode cX3_through 55 = .ok (.iaload, 1) := by decide +kernel
theorem dX3_through_56 : decode cX3_through 56 = .ok (.iadd, 1) := by decide +kernel
theorem dX3_through_57 : decode cX3_through 57 = .ok (.iconst 1, 1) := by decide +kernel
theorem dX3_through_58 : decode cX3_through 58 = .ok (.isub, 1) := by decide +kernel
theorem dX3_through_59 : decode cX3_through 59 = .ok (.aload_n 0, 1) := by decide +kernel
theorem dX3_through_60 : decode cX3_through 60 = .ok (.getfield 28, 3) := by decide +kernel
theorem dX3_through_63 : decode cX3_through 63 = .ok (.iload_n 1, 1) := by decide +kernel
theorem dX3_through_64 : decode cX3_through 64 = .ok (.iaload, 1) := by decide +kernel
theorem dX3_through_65 : decode cX3_through 65 = .ok (.idiv, 1) := by decide +kernel
theorem dX3_through_66 : decode cX3_through 66 = .ok (.invokestatic 129, 3) := by decide +kernel
theorem dX3_through_69 : decode cX3_through 69 = .ok (.ireturn, 1) := by decide +kernel
theorem dX3_through_70 : decode cX3_through 70 = .ok (.aload_n 0, 1) := by decide +kernel
theorem dX3_through_71 : decode cX3_through 71 = .ok (.getfield 52, 3) := by decide +kernel
theorem dX3_through_74 : decode cX3_through 74 = .ok (.iload_n 3, 1) := by decide +kernel
theorem dX3_through_75 : decode cX3_through 75 = .ok (.iaload, 1) := by decide +kernel
theorem dX3_through_76 : decode cX3_through 76 = .ok (.ireturn, 1) := by decide +kernel
set_option maxHeartbeats 4000000 in
set_option maxRecDepth 100000 in
theorem m_X3_through (l : Launch) (D : va_G) (cy : Nat → ClassId) (g : Nat → Nat) (σ : ST) (p1 : Int32) (p2 : Int32) (p3 : Int32) (p4 : Int32) (sz : Nat) (hJ : J8 σ) (h0 : (0 : Int) ≤ p1.toInt ∧ p1.toInt ≤ 14) (h1 : (0 : Int) ≤ p2.toInt ∧ p2.toInt ≤ 1407) (h2 : (0 : Int) ≤ p3.toInt ∧ p3.toInt ≤ 1407) (h3 : (0 : Int) ≤ p4.toInt ∧ p4.toInt ≤ 3) : Met l yX3_through (ww yX3_through cX3_through 6 (some .int)) ({ frames := 2, cells := 0, slots := 0, locals := 128 }) (va_Pc [.ref (gO g 13), .int p1, .int p2, .int p3, .int p4] (pr8 D cy g σ sz)) (qi8 D cy g sz (fun r τ => τ = σ ∧ True)) 0 0 (A8 cy g sz) := by
  refine Met.ofW (cc := cX3_through) (maxL := 6) (ret := (some .int)) (by decide) rfl ?_
  intro p e s m args below meth c s₁ B hml hv
  obtain ⟨rfl, hsz, hP, hK, hD0, hC⟩ := hv
  have hx := B.exec
  have hb := B.bytes
  have hr := B.returns
  have hts := hts_g (atoms_spec (ws := ww yX3_through cX3_through 6 (some .int)) B.pre)
  have hown : s.vm.findClass RX3 = some m.cls := findClass_of_methodNamed B.named
  have hlocks := B.notSynchronized
  clear B
  subst hsz
  have hD := fun τ => A8_D (sz := s.heap.size) hD0 τ
  clear hD0
  have hS : va_S (A8 cy g s.heap.size) s.heap s.heap [] := va_S.rf
  have hl := lv_entry ([.ref (gO g 13), .int p1, .int p2, .int p3, .int p4]) (n := 6) (Nat.le_of_ble_eq_true rfl)
  rw [lg_entry_eq]
  generalize (lg_sl ([.ref (gO g 13), .int p1, .int p2, .int p3, .int p4]) ++ List.replicate (6 - (lg_sl ([.ref (gO g 13), .int p1, .int p2, .int p3, .int p4])).length) Slot.unset).toArray = ls at hl ⊢
  have hl : lv_has ls 6 [(0, .ref (gO g 13)), (1, .int p1), (2, .int p2), (3, .int p3), (4, .int p4)] := hl
  refine lv_aload_n hx hb dX3_through_0 rfl (lv_at hl 0 rfl) ?_
  refine lv_iload_n hx hb dX3_through_1 rfl (lv_at hl 2 rfl) ?_
  refine lv_iload_n hx hb dX3_through_2 rfl (lv_at hl 3 rfl) ?_
  refine va_calli (va_runV (As := [.int p2, .int p3]) (rest := []) ⟨hx, hb, hml, hown, hts⟩ (m_X3_moveFrom l D cy g σ  p2 p3 _ hJ (show (0 : Int) ≤ p2.toInt ∧ p2.toInt ≤ 1407 from (by have f0 := h1; have g0 := rg32 p2; omega)) (show (0 : Int) ≤ p3.toInt ∧ p3.toInt ≤ 1407 from (by have f0 := h1; have f1 := h2; have g0 := rg32 p2; have g1 := rg32 p3; omega))) (cwV 2 hts (gd_V q963 q965 q25 q129 q966) rfl rfl rfl (by decide +kernel) ⟨(Nat.le_of_ble_eq_true rfl), (Nat.le_of_ble_eq_true rfl)⟩) (pv8 hP hK hD hC hS (rv8_3 hK hP)) rfl rfl hl.1 rfl (lv_room (Nat.le_of_ble_eq_true rfl)) dX3_through_3 ⟨Nat.le_of_ble_eq_true rfl, Nat.le_of_ble_eq_true rfl⟩) hS (fun q _ h => up8 hS q h) (up8 hS) (fun r1 σ2 tS H1 locs ht hvm hw3 hB hz1 hk1 hS => ?_)
  have hP : va_P D clz (WD8 cy g σ2) H1 := by rw [← ht]; exact hB
  clear hB hz1 hk1 hvm ht
  generalize H1 = H at hP hS ⊢
  have hw3E : σ = σ2 := (hw3.1).symm
  subst hw3E
  refine lv_istore (lv' := [(5, .int r1), (0, .ref (gO g 13)), (1, .int p1), (2, .int p2), (3, .int p3), (4, .int p4)]) hx hb dX3_through_6 hl (by decide) rfl (fun ls hl => ?_)
  refine lv_iload hx hb dX3_through_8 (lv_at hl 5 rfl) ?_
  refine lv_if_ne (tgt := 27) hx hb dX3_through_10 (by decide) (fun c4 => ?_) (fun c4 => ?_)
  ·
    have k5 := neq32 c4
    refine lv_iload hx hb dX3_through_27 (lv_at hl 5 rfl) ?_
    refine lv_iconst (v := 2) hx hb dX3_through_29 (by decide) ?_
    refine cut8 (D := D) (cy := cy) (g := g) (A := A8 cy g s.heap.size) (H0 := s.heap) 6 70 (fun x : LZ => [(5, .int r1), (0, .ref (gO g 13)), (1, .int p1), (2, .int p2), (3, .int p3), (4, .int p4)]) (fun x : LZ => []) (fun x : LZ => (x.1 = σ) ∧ True) ?_ ?_
    ·
      intro y8 hI7 H locs ls hP hS hl
      rw [show y8.1 = σ from hI7.1] at hP
      have hl : lv_has ls 6 [(5, .int r1), (0, .ref (gO g 13)), (1, .int p1), (2, .int p2), (3, .int p3), (4, .int p4)] := hl
      refine lv_aload_n hx hb dX3_through_70 rfl (lv_at hl 1 rfl) ?_
      refine g8_3_18 hx hb hts hown hK hP (hts _ q303) dX3_through_71 ?_
      refine lv_iload_n hx hb dX3_through_74 rfl (lv_at hl 4 rfl) ?_
      obtain ⟨x9, ex9⟩ : ∃ z, (σ 13).2.2.1 18 p3.toInt.toNat = z := ⟨_, rfl⟩
      refine l8_3_18 (x := x9) hx hb hK hP (vpo (by have f0 := h2; have g0 := rg32 p3; omega)) ex9 dX3_through_75 ?_
      exact W.iret (v := x9) hx hb hr (fun tS ht hW => ⟨⟨x9, σ, rfl, ⟨rfl, trivial⟩, (show va_P D clz (WD8 cy g σ) tS.heap by rw [ht]; exact hP)⟩, hS.F ht⟩) hS.2.2 dX3_through_76
    ·
      intro nj6
      refine lv_icmp_ne (tgt := 70) hx hb dX3_through_30 (by decide) (fun c10 => ?_) (fun c10 => ?_)
      ·
        have k11 := neq32 c10
        exact nj6 (σ, lf [], lg []) ⟨rfl, trivial⟩ _ _ _ hP hS (lv_sub hl [0, 1, 2, 3, 4, 5] rfl)
      ·
        have k12 := peq32 c10
        refine lv_aload_n hx hb dX3_through_33 rfl (lv_at hl 1 rfl) ?_
        refine g8_3_10 hx hb hts hown hK hP (hts _ q295) dX3_through_34 ?_
        refine lv_iload_n hx hb dX3_through_37 rfl (lv_at hl 2 rfl) ?_
        obtain ⟨x13, ex13⟩ : ∃ z, (σ 13).2.2.1 10 p1.toInt.toNat = z := ⟨_, rfl⟩
        refine l8_3_10 (x := x13) hx hb hK hP (vpo (by have f0 := h0; have g0 := rg32 p1; omega)) ex13 dX3_through_38 ?_
        refine lv_if_le (tgt := 70) hx hb dX3_through_39 (by decide) (fun c14 => ?_) (fun c14 => ?_)
        ·
          have k15 := ple32 c14
          exact nj6 (σ, lf [], lg []) ⟨rfl, trivial⟩ _ _ _ hP hS (lv_sub hl [0, 1, 2, 3, 4, 5] rfl)
        ·
          have k16 := nle32 c14
          refine lv_aload_n hx hb dX3_through_42 rfl (lv_at hl 1 rfl) ?_
          refine g8_3_18 hx hb hts hown hK hP (hts _ q303) dX3_through_43 ?_
          refine lv_iload_n hx hb dX3_through_46 rfl (lv_at hl 4 rfl) ?_
          obtain ⟨x17, ex17⟩ : ∃ z, (σ 13).2.2.1 18 p3.toInt.toNat = z := ⟨_, rfl⟩
          refine l8_3_18 (x := x17) hx hb hK hP (vpo (by have f0 := h2; have g0 := rg32 p3; omega)) ex17 dX3_through_47 ?_
          refine lv_iload hx hb dX3_through_48 (lv_at hl 0 rfl) ?_
          refine lv_aload_n hx hb dX3_through_50 rfl (lv_at hl 1 rfl) ?_
          refine g8_3_10 hx hb hts hown hK hP (hts _ q295) dX3_through_51 ?_
          refine lv_iload_n hx hb dX3_through_54 rfl (lv_at hl 2 rfl) ?_
          refine l8_3_10 (x := x13) hx hb hK hP (vpo (by have f0 := h0; have g0 := rg32 p1; omega)) ex13 dX3_through_55 ?_
          refine lv_iadd hx hb dX3_through_56 ?_
          refine lv_topi (fun x18 ex18 => ?_)
          refine lv_iconst (v := 1) hx hb dX3_through_57 (by decide) ?_
          refine lv_isub hx hb dX3_through_58 ?_
          refine lv_topi (fun x19 ex19 => ?_)
          refine lv_aload_n hx hb dX3_through_59 rfl (lv_at hl 1 rfl) ?_
          refine g8_3_10 hx hb hts hown hK hP (hts _ q295) dX3_through_60 ?_
          refine lv_iload_n hx hb dX3_through_63 rfl (lv_at hl 2 rfl) ?_
          refine l8_3_10 (x := x13) hx hb hK hP (vpo (by have f0 := h0; have g0 := rg32 p1; omega)) ex13 dX3_through_64 ?_
          refine lv_idiv hx hb dX3_through_65 (ne0 (by have f0 := k16; have g0 := rg32 x13; have z0 : (0 : Int32).toInt = 0 := (by decide); omega)) ?_
          refine lv_topi (fun x20 ex20 => ?_)
          refine va_mmax hx hb (hml.trans hl.1.symm) hown (hts _ q976) (hts _ q977) (hts _ q135) (hts _ q978) (Nat.le_of_ble_eq_true rfl) (Nat.le_of_ble_eq_true rfl) (Nat.le_refl _) (Nat.le_refl _) dX3_through_66 ?_
          refine lv_topi (fun x21 ex21 => ?_)
          have t22 := maxO ex21
          exact W.iret (v := x21) hx hb hr (fun tS ht hW => ⟨⟨x21, σ, rfl, ⟨rfl, trivial⟩, (show va_P D clz (WD8 cy g σ) tS.heap by rw [ht]; exact hP)⟩, hS.F ht⟩) hS.2.2 dX3_through_69
  ·
    have k23 := peq32 c4
    refine lv_aload_n hx hb dX3_through_13 rfl (lv_at hl 1 rfl) ?_
    refine g8_3_18 hx hb hts hown hK hP (hts _ q303) dX3_through_14 ?_
    refine lv_iload_n hx hb dX3_through_17 rfl (lv_at hl 4 rfl) ?_
    obtain ⟨x24, ex24⟩ : ∃ z, (σ 13).2.2.1 18 p3.toInt.toNat = z := ⟨_, rfl⟩
    refine l8_3_18 (x := x24) hx hb hK hP (vpo (by have f0 := h2; have g0 := rg32 p3; omega)) ex24 dX3_through_18 ?_
    refine lv_iload hx hb dX3_through_19 (lv_at hl 0 rfl) ?_
    refine lv_sipush (v := 10000) hx hb dX3_through_21 (by decide) ?_
    refine lv_imul hx hb dX3_through_24 ?_
    refine lv_topi (fun x25 ex25 => ?_)
    refine lv_iadd hx hb dX3_through_25 ?_
    refine lv_topi (fun x26 ex26 => ?_)
    exact W.iret (v := x26) hx hb hr (fun tS ht hW => ⟨⟨x26, σ, rfl, ⟨rfl, trivial⟩, (show va_P D clz (WD8 cy g σ) tS.heap by rw [ht]; exact hP)⟩, hS.F ht⟩) hS.2.2 dX3_through_26

theorem q957 : Cond.code yX3_leastBehind cX3_leastBehind 6 (some .int) ∈ lw_g := lw_gm (List.mem_of_getElem? (i := 957) (by decide +kernel)) rfl
theorem q958 : Cond.constant RX3 125 (1000000000) ∈ lw_g := lw_gm (List.mem_of_getElem? (i := 958) (by decide +kernel)) rfl
theorem q959 : Cond.methodLink RX3 132 yX3_goes ∈ lw_g := lw_gm (List.mem_of_getElem? (i := 959) (by decide +kernel)) rfl
theorem q961 : Cond.instanceMethod yX3_goes ∈ lw_g := lw_gm (List.mem_of_getElem? (i := 961) (by decide +kernel)) rfl
theorem q24 : Cond.selects RX3 yX3_goes yX3_goes ∈ lw_g := lw_gm (List.mem_of_getElem? (i := 24) (by decide +kernel)) rfl
theorem q972 : Cond.methodLink RX3 136 yX3_through ∈ lw_g := lw_gm (List.mem_of_getElem? (i := 972) (by decide +kernel)) rfl
theorem q974 : Cond.instanceMethod yX3_through ∈ lw_g := lw_gm (List.mem_of_getElem? (i := 974) (by decide +kernel)) rfl
theorem q26 : Cond.selects RX3 yX3_through yX3_through ∈ lw_g := lw_gm (List.mem_of_getElem? (i := 26) (by decide +kernel)) rfl
theorem q979 : Cond.methodLink RX3 139 Lib.Math.min.name ∈ lw_g := lw_gm (List.mem_of_getElem? (i := 979) (by decide +kernel)) rfl
theorem dX3_leastBehind_0 : decode cX3_leastBehind 0 = .ok (.iload_n 1, 1) := by decide +kernel
theorem dX3_leastBehind_1 : decode cX3_leastBehind 1 = .ok (.iconst 1, 1) := by decide +kernel
theorem dX3_leastBehind_2 : decode cX3_leastBehind 2 = .ok (.iadd, 1) := by decide +kernel
theorem dX3_leastBehind_3 : decode cX3_leastBehind 3 = .ok (.aload_n 0, 1) := by decide +kernel
theorem dX3_leastBehind_4 : decode cX3_leastBehind 4 = .ok (.getfield 75, 3) := by decide +kernel
theorem dX3_leastBehind_7 : decode cX3_leastBehind 7 = .ok (.if_icmp .lt 5, 3) := by decide +kernel
theorem dX3_leastBehind_10 : decode cX3_leastBehind 10 = .ok (.iconst 0, 1) := by decide +kernel
theorem dX3_leastBehind_11 : decode cX3_leastBehind 11 = .ok (.ireturn, 1) := by decide +kernel
theorem dX3_leastBehind_12 : decode cX3_leastBehind 12 = .ok (.ldc 125, 2) := by decide +kernel
theorem dX3_leastBehind_14 : decode cX3_leastBehind 14 = .ok (.istore 4, 2) := by decide +kernel
theorem dX3_leastBehind_16 : decode cX3_leastBehind 16 = .ok (.aload_n 0, 1) := by decide +kernel
theorem dX3_leastBehind_17 : decode cX3_leastBehind 17 = .ok (.getfield 34, 3) := by decide +kernel
theorem dX3_leastBehind_20 : decode cX3_leastBehind 20 = .ok (.iload_n 1, 1) := by decide +kernel
theorem dX3_leastBehind_21 : decode cX3_leastBehind 21 = .ok (.iconst 1, 1) := by decide +kernel
theorem dX3_leastBehind_22 : decode cX3_leastBehind 22 = .ok (.iadd, 1) := by decide +kernel
theorem dX3_leastBehind_23 : decode cX3_leastBehind 23 = .ok (.iaload, 1) := by decide +kernel
theorem dX3_leastBehind_24 : decode cX3_leastBehind 24 = .ok (.istore 5, 2) := by decide +kernel
theorem dX3_leastBehind_26 : decode cX3_leastBehind 26 = .ok (.iload 5, 2) := by decide +kernel
theorem dX3_leastBehind_28 : decode cX3_leastBehind 28 = .ok (.aload_n 0, 1) := by decide +kernel
theorem dX3_leastBehind_29 : decode cX3_leastBehind 29 = .ok (.getfield 34, 3) := by decide +kernel
theorem dX3_leastBehind_32 : decode cX3_leastBehind 32 = .ok (.iload_n 1, 1) := by decide +kernel
theorem dX3_leastBehind_33 : decode cX3_leastBehind 33 = .ok (.iconst 2, 1) := by decide +kernel
theorem dX3_leastBehind_34 : decode cX3_leastBehind 34 = .ok (.iadd, 1) := by decide +kernel
theorem dX3_leastBehind_35 : decode cX3_leastBehind 35 = .ok (.iaload, 1) := by decide +kernel
theorem dX3_leastBehind_36 : decode cX3_leastBehind 36 = .ok (.if_icmp .ge 48, 3) := by decide +kernel
theorem dX3_leastBehind_39 : decode cX3_leastBehind 39 = .ok (.aload_n 0, 1) := by decide +kernel
theorem dX3_leastBehind_40 : decode cX3_leastBehind 40 = .ok (.getfield 52, 3) := by decide +kernel
theorem dX3_leastBehind_43 : decode cX3_leastBehind 43 = .ok (.iload 5, 2) := by decide +kernel
theorem dX3_leastBehind_45 : decode cX3_leastBehind 45 = .ok (.iaload, 1) := by decide +kernel
theorem dX3_leastBehind_46 : decode cX3_leastBehind 46 = .ok (.ldc 125, 2) := by decide +kernel
theorem dX3_leastBehind_48 : decode cX3_leastBehind 48 = .ok (.if_icmp .ge 30, 3) := by decide +kernel
theorem dX3_leastBehind_51 : decode cX3_leastBehind 51 = .ok (.aload_n 0, 1) := by decide +kernel
theorem dX3_leastBehind_52 : decode cX3_leastBehind 52 = .ok (.iload_n 1, 1) := by decide +kernel
theorem dX3_leastBehind_53 : decode cX3_leastBehind 53 = .ok (.iload_n 2, 1) := by decide +kernel
theorem dX3_leastBehind_54 : decode cX3_leastBehind 54 = .ok (.iload 5, 2) := by decide +kernel
theorem dX3_leastBehind_56 : decode cX3_leastBehind 56 = .ok (.invokevirtual 132, 3) := by decide +kernel
theorem dX3_leastBehind_59 : decode cX3_leastBehind 59 = .ok (.ifCond .eq 19, 3) := by decide +kernel
theorem dX3_leastBehind_62 : decode cX3_leastBehind 62 = .ok (.iload 4, 2) := by decide +kernel
theorem dX3_leastBehind_64 : decode cX3_leastBehind 64 = .ok (.aload_n 0, 1) := by decide +kernel
theorem dX3_leastBehind_65 : decode cX3_leastBehind 65 = .ok (.iload_n 1, 1) := by decide +kernel
theorem dX3_leastBehind_66 : decode cX3_leastBehind 66 = .ok (.iload_n 2, 1) := by decide +kernel
theorem dX3_leastBehind_67 : decode cX3_leastBehind 67 = .ok (.iload 5, 2) := by decide +kernel
theorem dX3_leastBehind_69 : decode cX3_leastBehind 69 = .ok (.iload_n 3, 1) := by decide +kernel
theorem dX3_leastBehind_70 : decode cX3_leastBehind 70 = .ok (.invokevirtual 136, 3) := by decide +kernel
theorem dX3_leastBehind_73 : decode cX3_leastBehind 73 = .ok (.invokestatic 139, 3) := by decide +kernel
theorem dX3_leastBehind_76 : decode cX3_leastBehind 76 = .ok (.istore 4, 2) := by decide +kernel
theorem dX3_leastBehind_78 : decode cX3_leastBehind 78 = .ok (.iinc 5 1, 3) := by decide +kernel
theorem dX3_leastBehind_81 : decode cX3_leastBehind 81 = .ok (.goto (-55), 3) := by decide +kernel
theorem dX3_leastBehind_84 : decode cX3_leastBehind 84 = .ok (.iload 4, 2) := by decide +kernel
theorem dX3_leastBehind_86 : decode cX3_leastBehind 86 = .ok (.ireturn, 1) := by decide +kernel
set_option maxHeartbeats 4000000 in
set_option maxRecDepth 100000 in
theorem m_X3_leastBehind (l : Launch) (D : va_G) (cy : Nat → ClassId) (g : Nat → Nat) (σ : ST) (p1 : Int32) (p2 : Int32) (p3 : Int32) (sz : Nat) (hJ : J8 σ) (h0 : (0 : Int) ≤ p1.toInt ∧ p1.toInt ≤ 15) (h1 : (0 : Int) ≤ p2.toInt ∧ p2.toInt ≤ 1407) (h2 : (0 : Int) ≤ p3.toInt ∧ p3.toInt ≤ 3) : Met l yX3_leastBehind (ww yX3_leastBehind cX3_leastBehind 6 (some .int)) ({ frames := 3, cells := 0, slots := 0, locals := 192 }) (va_Pc [.ref (gO g 13), .int p1, .int p2, .int p3] (pr8 D cy g σ sz)) (qi8 D cy g sz (fun r τ => τ = σ ∧ ((-2147483648 : Int) ≤ r.toInt ∧ r.toInt ≤ 1000000000) ∧ True)) 0 0 (A8 cy g sz) := by
  refine Met.ofW (cc := cX3_leastBehind) (maxL := 6) (ret := (some .int)) (by decide) rfl ?_
  intro p e s m args below meth c s₁ B hml hv
  obtain ⟨rfl, hsz, hP, hK, hD0, hC⟩ := hv
  have hx := B.exec
  have hb := B.bytes
  have hr := B.returns
  have hts := hts_g (atoms_spec (ws := ww yX3_leastBehind cX3_leastBehind 6 (some .int)) B.pre)
  have hown : s.vm.findClass RX3 = some m.cls := findClass_of_methodNamed B.named
  have hlocks := B.notSynchronized
  clear B
  subst hsz
  have hD := fun τ => A8_D (sz := s.heap.size) hD0 τ
  clear hD0
  have hS : va_S (A8 cy g s.heap.size) s.heap s.heap [] := va_S.rf
  have hl := lv_entry ([.ref (gO g 13), .int p1, .int p2, .int p3]) (n := 6) (Nat.le_of_ble_eq_true rfl)
  rw [lg_entry_eq]
  generalize (lg_sl ([.ref (gO g 13), .int p1, .int p2, .int p3]) ++ List.replicate (6 - (lg_sl ([.ref (gO g 13), .int p1, .int p2, .int p3])).length) Slot.unset).toArray = ls at hl ⊢
  have hl : lv_has ls 6 [(0, .ref (gO g 13)), (1, .int p1), (2, .int p2), (3, .int p3)] := hl
  refine lv_iload_n hx hb dX3_leastBehind_0 rfl (lv_at hl 1 rfl) ?_
  refine lv_iconst (v := 1) hx hb dX3_leastBehind_1 (by decide) ?_
  refine lv_iadd hx hb dX3_leastBehind_2 ?_
  refine lv_topi (fun x1 ex1 => ?_)
  have t2 := addO ex1 (by have f0 := h0; have g0 := rg32 p1; have z1 : (1 : Int32).toInt = 1 := (by decide); omega)
  refine lv_aload_n hx hb dX3_leastBehind_3 rfl (lv_at hl 0 rfl) ?_
  refine g8_3_0 (x := ((σ 13).1 0)) hx hb hts hown hK hP (rfl) (hts _ q280) dX3_leastBehind_4 ?_
  refine lv_icmp_lt (tgt := 12) hx hb dX3_leastBehind_7 (by decide) (fun c3 => ?_) (fun c3 => ?_)
  ·
    have k4 := plt32 c3
    refine lv_ldc (v := 1000000000) hx hb hown (hts _ q958) dX3_leastBehind_12 ?_
    refine lv_istore (lv' := [(4, .int 1000000000), (0, .ref (gO g 13)), (1, .int p1), (2, .int p2), (3, .int p3)]) hx hb dX3_leastBehind_14 hl (by decide) rfl (fun ls hl => ?_)
    refine lv_aload_n hx hb dX3_leastBehind_16 rfl (lv_at hl 1 rfl) ?_
    refine g8_3_12 hx hb hts hown hK hP (hts _ q297) dX3_leastBehind_17 ?_
    refine lv_iload_n hx hb dX3_leastBehind_20 rfl (lv_at hl 2 rfl) ?_
    refine lv_iconst (v := 1) hx hb dX3_leastBehind_21 (by decide) ?_
    refine lv_iadd hx hb dX3_leastBehind_22 ?_
    refine lv_topi (fun x5 ex5 => ?_)
    have t6 := addO ex5 (by have f0 := h0; have f1 := t2; have f2 := k4; have f3 := j8_3_0 hJ rfl; have g0 := rg32 p1; have z1 : (1 : Int32).toInt = 1 := (by decide); omega)
    obtain ⟨x7, ex7⟩ : ∃ z, (σ 13).2.2.1 12 x5.toInt.toNat = z := ⟨_, rfl⟩
    refine l8_3_12 (x := x7) hx hb hK hP (vpo (by have f0 := t6; have f1 := h0; have f2 := t2; have f3 := k4; have f4 := j8_3_0 hJ rfl; have g0 := rg32 x5; have z1 : (1 : Int32).toInt = 1 := (by decide); omega)) ex7 dX3_leastBehind_23 ?_
    have t8 := a8_3_12 hJ ex7
    refine lv_istore (lv' := [(5, .int x7), (4, .int 1000000000), (0, .ref (gO g 13)), (1, .int p1), (2, .int p2), (3, .int p3)]) hx hb dX3_leastBehind_24 hl (by decide) rfl (fun ls hl => ?_)
    refine loop8 6 26 (fun x : LZ => [(5, .int (x.2.1 0)), (4, .int (x.2.1 1)), (0, .ref (gO g 13)), (1, .int p1), (2, .int p2), (3, .int p3)]) (fun x : LZ => (x.1 = σ) ∧ ((0 : Int) ≤ (x.2.1 0).toInt ∧ (x.2.1 0).toInt ≤ 1408) ∧ ((-2147483648 : Int) ≤ (x.2.1 1).toInt ∧ (x.2.1 1).toInt ≤ 1000000000) ∧ True) (fun x : LZ => ((1409 : Int) - (x.2.1 0).toInt).toNat) ?_ (σ, lf [x7, 1000000000], lg []) ⟨rfl, (show (0 : Int) ≤ (x7 : Int32).toInt ∧ (x7 : Int32).toInt ≤ 1408 from (by have f0 := t8; have g0 := rg32 x7; omega)), (show (-2147483648 : Int) ≤ (1000000000 : Int32).toInt ∧ (1000000000 : Int32).toInt ≤ 1000000000 from (by have z1000000000 : (1000000000 : Int32).toInt = 1000000000 := (by decide); omega)), trivial⟩ _ _ _ hP hS (lv_sub hl [0, 1, 2, 3, 4, 5] rfl)
    intro y11 hI10 nl9 H locs ls hP hS hl
    rw [show y11.1 = σ from hI10.1] at hP
    have b12 : (0 : Int) ≤ (y11.2.1 0).toInt ∧ (y11.2.1 0).toInt ≤ 1408 := hI10.2.1
    have b13 : (-2147483648 : Int) ≤ (y11.2.1 1).toInt ∧ (y11.2.1 1).toInt ≤ 1000000000 := hI10.2.2.1
    have hl : lv_has ls 6 [(5, .int (y11.2.1 0)), (4, .int (y11.2.1 1)), (0, .ref (gO g 13)), (1, .int p1), (2, .int p2), (3, .int p3)] := hl
    refine lv_iload hx hb dX3_leastBehind_26 (lv_at hl 0 rfl) ?_
    refine lv_aload_n hx hb dX3_leastBehind_28 rfl (lv_at hl 2 rfl) ?_
    refine g8_3_12 hx hb hts hown hK hP (hts _ q297) dX3_leastBehind_29 ?_
    refine lv_iload_n hx hb dX3_leastBehind_32 rfl (lv_at hl 3 rfl) ?_
    refine lv_iconst (v := 2) hx hb dX3_leastBehind_33 (by decide) ?_
    refine lv_iadd hx hb dX3_leastBehind_34 ?_
    refine lv_topi (fun x14 ex14 => ?_)
    have t15 := addO ex14 (by have f0 := h0; have f1 := t2; have f2 := t6; have f3 := k4; have f4 := j8_3_0 hJ rfl; have g0 := rg32 p1; have z1 : (1 : Int32).toInt = 1 := (by decide); have z2 : (2 : Int32).toInt = 2 := (by decide); omega)
    obtain ⟨x16, ex16⟩ : ∃ z, (σ 13).2.2.1 12 x14.toInt.toNat = z := ⟨_, rfl⟩
    refine l8_3_12 (x := x16) hx hb hK hP (vpo (by have f0 := t15; have f1 := h0; have f2 := t2; have f3 := t6; have f4 := k4; have f5 := j8_3_0 hJ rfl; have g0 := rg32 x14; have z1 : (1 : Int32).toInt = 1 := (by decide); have z2 : (2 : Int32).toInt = 2 := (by decide); omega)) ex16 dX3_leastBehind_35 ?_
    have t17 := a8_3_12 hJ ex16
    refine lv_icmp_ge (tgt := 84) hx hb dX3_leastBehind_36 (by decide) (fun c18 => ?_) (fun c18 => ?_)
    ·
      have k19 := ple32 c18
      refine lv_iload hx hb dX3_leastBehind_84 (lv_at hl 1 rfl) ?_
      exact W.iret (v := (y11.2.1 1)) hx hb hr (fun tS ht hW => ⟨⟨(y11.2.1 1), σ, rfl, ⟨rfl, (show (-2147483648 : Int) ≤ (y11.2.1 1).toInt ∧ (y11.2.1 1).toInt ≤ 1000000000 from (by have f0 := b13; have g0 := rg32 (y11.2.1 1); omega)), trivial⟩, (show va_P D clz (WD8 cy g σ) tS.heap by rw [ht]; exact hP)⟩, hS.F ht⟩) hS.2.2 dX3_leastBehind_86
    ·
      have k20 := nle32 c18
      refine lv_aload_n hx hb dX3_leastBehind_39 rfl (lv_at hl 2 rfl) ?_
      refine g8_3_18 hx hb hts hown hK hP (hts _ q303) dX3_leastBehind_40 ?_
      refine lv_iload hx hb dX3_leastBehind_43 (lv_at hl 0 rfl) ?_
      obtain ⟨x21, ex21⟩ : ∃ z, (σ 13).2.2.1 18 (y11.2.1 0).toInt.toNat = z := ⟨_, rfl⟩
      refine l8_3_18 (x := x21) hx hb hK hP (vpo (by have f0 := b12; have f1 := k20; have f2 := t17; have g0 := rg32 (y11.2.1 0); omega)) ex21 dX3_leastBehind_45 ?_
      refine lv_ldc (v := 1000000000) hx hb hown (hts _ q958) dX3_leastBehind_46 ?_
      refine cut8 (D := D) (cy := cy) (g := g) (A := A8 cy g s.heap.size) (H0 := s.heap) 6 78 (fun x : LZ => [(5, .int (y11.2.1 0)), (4, .int (x.2.1 0)), (0, .ref (gO g 13)), (1, .int p1), (2, .int p2), (3, .int p3)]) (fun x : LZ => []) (fun x : LZ => (x.1 = σ) ∧ ((-2147483648 : Int) ≤ (x.2.1 0).toInt ∧ (x.2.1 0).toInt ≤ 1000000000) ∧ True) ?_ ?_
      ·
        intro y24 hI23 H locs ls hP hS hl
        rw [show y24.1 = σ from hI23.1] at hP
        have b25 : (-2147483648 : Int) ≤ (y24.2.1 0).toInt ∧ (y24.2.1 0).toInt ≤ 1000000000 := hI23.2.1
        have hl : lv_has ls 6 [(5, .int (y11.2.1 0)), (4, .int (y24.2.1 0)), (0, .ref (gO g 13)), (1, .int p1), (2, .int p2), (3, .int p3)] := hl
        obtain ⟨x26, ex26⟩ : ∃ y : Int32, y = (y11.2.1 0) + 1 := ⟨_, rfl⟩
        have t27 := addO ex26 (by have f0 := b12; have f1 := k20; have f2 := t17; have g0 := rg32 (y11.2.1 0); have z1 : (1 : Int32).toInt = 1 := (by decide); omega)
        refine lv_iinc (v := x26) (lv' := [(5, .int x26), (4, .int (y24.2.1 0)), (0, .ref (gO g 13)), (1, .int p1), (2, .int p2), (3, .int p3)]) hx hb dX3_leastBehind_78 hl (k := 0) rfl (by rw [ex26]; rfl) (by decide) rfl (fun ls hl => ?_)
        refine lv_goto (tgt := 26) hx hb dX3_leastBehind_81 (by decide) ?_
        have t28 : ((1409 : Int) - x26.toInt).toNat < ((1409 : Int) - (y11.2.1 0).toInt).toNat := (by have f0 := b12; have f1 := k20; have f2 := t27; have f3 := t17; have g0 := rg32 (y11.2.1 0); have g1 := rg32 x26; have z1 : (1 : Int32).toInt = 1 := (by decide); omega)
        exact nl9 (σ, lf [x26, (y24.2.1 0)], lg []) ⟨rfl, (show (0 : Int) ≤ (x26 : Int32).toInt ∧ (x26 : Int32).toInt ≤ 1408 from (by have f0 := t27; have f1 := b12; have f2 := k20; have f3 := t17; have g0 := rg32 x26; have z1 : (1 : Int32).toInt = 1 := (by decide); omega)), (show (-2147483648 : Int) ≤ ((y24.2.1 0) : Int32).toInt ∧ ((y24.2.1 0) : Int32).toInt ≤ 1000000000 from (by have f0 := b25; have g0 := rg32 (y24.2.1 0); omega)), trivial⟩ (show ((1409 : Int) - x26.toInt).toNat < _ from t28) _ _ _ hP hS (lv_sub hl [0, 1, 2, 3, 4, 5] rfl)
      ·
        intro nj22
        refine lv_icmp_ge (tgt := 78) hx hb dX3_leastBehind_48 (by decide) (fun c29 => ?_) (fun c29 => ?_)
        ·
          have k30 := ple32 c29
          exact nj22 (σ, lf [(y11.2.1 1)], lg []) ⟨rfl, (show (-2147483648 : Int) ≤ ((y11.2.1 1) : Int32).toInt ∧ ((y11.2.1 1) : Int32).toInt ≤ 1000000000 from (by have f0 := b13; have g0 := rg32 (y11.2.1 1); omega)), trivial⟩ _ _ _ hP hS (lv_sub hl [0, 1, 2, 3, 4, 5] rfl)
        ·
          have k31 := nle32 c29
          refine lv_aload_n hx hb dX3_leastBehind_51 rfl (lv_at hl 2 rfl) ?_
          refine lv_iload_n hx hb dX3_leastBehind_52 rfl (lv_at hl 3 rfl) ?_
          refine lv_iload_n hx hb dX3_leastBehind_53 rfl (lv_at hl 4 rfl) ?_
          refine lv_iload hx hb dX3_leastBehind_54 (lv_at hl 0 rfl) ?_
          refine va_calli (va_runV (As := [.int p1, .int p2, .int (y11.2.1 0)]) (rest := []) ⟨hx, hb, hml, hown, hts⟩ (m_X3_goes l D cy g σ  p1 p2 (y11.2.1 0) _ hJ (show (0 : Int) ≤ p1.toInt ∧ p1.toInt ≤ 14 from (by have f0 := h0; have f1 := t2; have f2 := t6; have f3 := t15; have f4 := k4; have f5 := j8_3_0 hJ rfl; have g0 := rg32 p1; have z1 : (1 : Int32).toInt = 1 := (by decide); have z2 : (2 : Int32).toInt = 2 := (by decide); omega)) (show (0 : Int) ≤ p2.toInt ∧ p2.toInt ≤ 1407 from (by have f0 := h0; have f1 := h1; have f2 := t2; have f3 := t6; have f4 := t15; have f5 := k4; have f6 := j8_3_0 hJ rfl; have g0 := rg32 p1; have g1 := rg32 p2; have z1 : (1 : Int32).toInt = 1 := (by decide); have z2 : (2 : Int32).toInt = 2 := (by decide); omega)) (show (0 : Int) ≤ (y11.2.1 0).toInt ∧ (y11.2.1 0).toInt ≤ 1407 from (by have f0 := h0; have f1 := h1; have f2 := t2; have f3 := t6; have f4 := b12; have f5 := t15; have f6 := k20; have f7 := k4; have f8 := t17; have f9 := j8_3_0 hJ rfl; have g0 := rg32 (y11.2.1 0); have g1 := rg32 p1; have g2 := rg32 p2; have z1 : (1 : Int32).toInt = 1 := (by decide); have z2 : (2 : Int32).toInt = 2 := (by decide); omega))) (cwV 3 hts (gd_V q959 q961 q24 q129 q962) rfl rfl rfl (by decide +kernel) ⟨(Nat.le_of_ble_eq_true rfl), (Nat.le_of_ble_eq_true rfl)⟩) (pv8 hP hK hD hC hS (rv8_3 hK hP)) rfl rfl hl.1 rfl (lv_room (Nat.le_of_ble_eq_true rfl)) dX3_leastBehind_56 ⟨Nat.le_of_ble_eq_true rfl, Nat.le_of_ble_eq_true rfl⟩) hS (fun q _ h => up8 hS q h) (up8 hS) (fun r32 σ33 tS H1 locs ht hvm hw34 hB hz1 hk1 hS => ?_)
          have hP : va_P D clz (WD8 cy g σ33) H1 := by rw [← ht]; exact hB
          clear hB hz1 hk1 hvm ht
          generalize H1 = H at hP hS ⊢
          have hw34E : σ = σ33 := (hw34.1).symm
          subst hw34E
          have b35 : (0 : Int) ≤ r32.toInt ∧ r32.toInt ≤ 1 := hw34.2.1
          refine lv_if_eq (tgt := 78) hx hb dX3_leastBehind_59 (by decide) (fun c36 => ?_) (fun c36 => ?_)
          ·
            have k37 := peq32 c36
            exact nj22 (σ, lf [(y11.2.1 1)], lg []) ⟨rfl, (show (-2147483648 : Int) ≤ ((y11.2.1 1) : Int32).toInt ∧ ((y11.2.1 1) : Int32).toInt ≤ 1000000000 from (by have f0 := b13; have g0 := rg32 (y11.2.1 1); omega)), trivial⟩ _ _ _ hP hS (lv_sub hl [0, 1, 2, 3, 4, 5] rfl)
          ·
            have k38 := neq32 c36
            refine lv_iload hx hb dX3_leastBehind_62 (lv_at hl 1 rfl) ?_
            refine lv_aload_n hx hb dX3_leastBehind_64 rfl (lv_at hl 2 rfl) ?_
            refine lv_iload_n hx hb dX3_leastBehind_65 rfl (lv_at hl 3 rfl) ?_
            refine lv_iload_n hx hb dX3_leastBehind_66 rfl (lv_at hl 4 rfl) ?_
            refine lv_iload hx hb dX3_leastBehind_67 (lv_at hl 0 rfl) ?_
            refine lv_iload_n hx hb dX3_leastBehind_69 rfl (lv_at hl 5 rfl) ?_
            refine va_calli (va_runV (As := [.int p1, .int p2, .int (y11.2.1 0), .int p3]) (rest := [.int (y11.2.1 1)]) ⟨hx, hb, hml, hown, hts⟩ (m_X3_through l D cy g σ  p1 p2 (y11.2.1 0) p3 _ hJ (show (0 : Int) ≤ p1.toInt ∧ p1.toInt ≤ 14 from (by have f0 := h0; have f1 := t2; have f2 := t6; have f3 := t15; have f4 := k4; have f5 := j8_3_0 hJ rfl; have g0 := rg32 p1; have z1 : (1 : Int32).toInt = 1 := (by decide); have z2 : (2 : Int32).toInt = 2 := (by decide); omega)) (show (0 : Int) ≤ p2.toInt ∧ p2.toInt ≤ 1407 from (by have f0 := h0; have f1 := h1; have f2 := t2; have f3 := t6; have f4 := t15; have f5 := k4; have f6 := j8_3_0 hJ rfl; have g0 := rg32 p1; have g1 := rg32 p2; have z1 : (1 : Int32).toInt = 1 := (by decide); have z2 : (2 : Int32).toInt = 2 := (by decide); omega)) (show (0 : Int) ≤ (y11.2.1 0).toInt ∧ (y11.2.1 0).toInt ≤ 1407 from (by have f0 := h0; have f1 := h1; have f2 := t2; have f3 := t6; have f4 := b12; have f5 := t15; have f6 := k20; have f7 := k4; have f8 := t17; have f9 := j8_3_0 hJ rfl; have g0 := rg32 (y11.2.1 0); have g1 := rg32 p1; have g2 := rg32 p2; have z1 : (1 : Int32).toInt = 1 := (by decide); have z2 : (2 : Int32).toInt = 2 := (by decide); omega)) (show (0 : Int) ≤ p3.toInt ∧ p3.toInt ≤ 3 from (by have f0 := h0; have f1 := h1; have f2 := h2; have f3 := t2; have f4 := t6; have f5 := b12; have f6 := t15; have f7 := k20; have f8 := k4; have f9 := t17; have f10 := j8_3_0 hJ rfl; have g0 := rg32 (y11.2.1 0); have g1 := rg32 p1; have g2 := rg32 p2; have g3 := rg32 p3; have z1 : (1 : Int32).toInt = 1 := (by decide); have z2 : (2 : Int32).toInt = 2 := (by decide); omega))) (cwV 4 hts (gd_V q972 q974 q26 q129 q975) rfl rfl rfl (by decide +kernel) ⟨(Nat.le_of_ble_eq_true rfl), (Nat.le_of_ble_eq_true rfl)⟩) (pv8 hP hK hD hC hS (rv8_3 hK hP)) rfl rfl hl.1 rfl (lv_room (Nat.le_of_ble_eq_true rfl)) dX3_leastBehind_70 ⟨Nat.le_of_ble_eq_true rfl, Nat.le_of_ble_eq_true rfl⟩) hS (fun q _ h => up8 hS q h) (up8 hS) (fun r39 σ40 tS H1 locs ht hvm hw41 hB hz1 hk1 hS => ?_)
            have hP : va_P D clz (WD8 cy g σ40) H1 := by rw [← ht]; exact hB
            clear hB hz1 hk1 hvm ht
            generalize H1 = H at hP hS ⊢
            have hw41E : σ = σ40 := (hw41.1).symm
            subst hw41E
            refine va_mmin hx hb (hml.trans hl.1.symm) hown (hts _ q979) (hts _ q512) (hts _ q135) (hts _ q513) (Nat.le_of_ble_eq_true rfl) (Nat.le_of_ble_eq_true rfl) (Nat.le_refl _) (Nat.le_refl _) dX3_leastBehind_73 ?_
            refine lv_topi (fun x42 ex42 => ?_)
            have t43 := minO ex42
            refine lv_istore (lv' := [(4, .int x42), (5, .int (y11.2.1 0)), (0, .ref (gO g 13)), (1, .int p1), (2, .int p2), (3, .int p3)]) hx hb dX3_leastBehind_76 hl (by decide) rfl (fun ls hl => ?_)
            exact nj22 (σ, lf [x42], lg []) ⟨rfl, (show (-2147483648 : Int) ≤ (x42 : Int32).toInt ∧ (x42 : Int32).toInt ≤ 1000000000 from (by have f0 := t43; have f1 := b13; have g0 := rg32 (y11.2.1 1); have g1 := rg32 r39; have g2 := rg32 x42; omega)), trivial⟩ _ _ _ hP hS (lv_sub hl [1, 0, 2, 3, 4, 5] rfl)
  ·
    have k44 := nlt32 c3
    refine lv_iconst (v := 0) hx hb dX3_leastBehind_10 (by decide) ?_
    exact W.iret (v := 0) hx hb hr (fun tS ht hW => ⟨⟨0, σ, rfl, ⟨rfl, (show (-2147483648 : Int) ≤ (0 : Int32).toInt ∧ (0 : Int32).toInt ≤ 1000000000 from (by have z0 : (0 : Int32).toInt = 0 := (by decide); omega)), trivial⟩, (show va_P D clz (WD8 cy g σ) tS.heap by rw [ht]; exact hP)⟩, hS.F ht⟩) hS.2.2 dX3_leastBehind_11

theorem q983 : Cond.code yX3_withOwn cX3_withOwn 4 (some .int) ∈ lw_g := lw_gm (List.mem_of_getElem? (i := 983) (by decide +kernel)) rfl
theorem dX3_withOwn_0 : decode cX3_withOwn 0 = .ok (.iload_n 3, 1) := by decide +kernel
theorem dX3_withOwn_1 : decode cX3_withOwn 1 = .ok (.tableswitch 68 0 3 #[31, 40, 68, 57], 31) := by decide +kernel
theorem dX3_withOwn_32 : decode cX3_withOwn 32 = .ok (.iload_n 1, 1) := by decide +kernel
theorem dX3_withOwn_33 : decode cX3_withOwn 33 = .ok (.aload_n 0, 1) := by decide +kernel
theorem dX3_withOwn_34 : decode cX3_withOwn 34 = .ok (.getfield 46, 3) := by decide +kernel
theorem dX3_withOwn_37 : decode cX3_withOwn 37 = .ok (.iload_n 2, 1) := by decide +kernel
theorem dX3_withOwn_38 : decode cX3_withOwn 38 = .ok (.iaload, 1) := by decide +kernel
theorem dX3_withOwn_39 : decode cX3_withOwn 39 = .ok (.iadd, 1) := by decide +kernel
theorem dX3_withOwn_40 : decode cX3_withOwn 40 = .ok (.ireturn, 1) := by decide +kernel
theorem dX3_withOwn_41 : decode cX3_withOwn 41 = .ok (.aload_n 0, 1) := by decide +kernel
theorem dX3_withOwn_42 : decode cX3_withOwn 42 = .ok (.getfield 49, 3) := by decide +kernel
theorem dX3_withOwn_45 : decode cX3_withOwn 45 = .ok (.iload_n 2, 1) := by decide +kernel
theorem dX3_withOwn_46 : decode cX3_withOwn 46 = .ok (.iaload, 1) := by decide +kernel
theorem dX3_withOwn_47 : decode cX3_withOwn 47 = .ok (.ifCond .ne 7, 3) := by decide +kernel
theorem dX3_withOwn_50 : decode cX3_withOwn 50 = .ok (.iload_n 1, 1) := by decide +kernel
theorem dX3_withOwn_51 : decode cX3_withOwn 51 = .ok (.goto 6, 3) := by decide +kernel
theorem dX3_withOwn_54 : decode cX3_withOwn 54 = .ok (.iload_n 1, 1) := by decide +kernel
theorem dX3_withOwn_55 : decode cX3_withOwn 55 = .ok (.iconst 1, 1) := by decide +kernel
theorem dX3_withOwn_56 : decode cX3_withOwn 56 = .ok (.iadd, 1) := by decide +kernel
theorem dX3_withOwn_57 : decode cX3_withOwn 57 = .ok (.ireturn, 1) := by decide +kernel
theorem dX3_withOwn_58 : decode cX3_withOwn 58 = .ok (.iload_n 1, 1) := by decide +kernel
theorem dX3_withOwn_59 : decode cX3_withOwn 59 = .ok (.aload_n 0, 1) := by decide +kernel
theorem dX3_withOwn_60 : decode cX3_withOwn 60 = .ok (.getfield 46, 3) := by decide +kernel
theorem dX3_withOwn_63 : decode cX3_withOwn 63 = .ok (.iload_n 2, 1) := by decide +kernel
theorem dX3_withOwn_64 : decode cX3_withOwn 64 = .ok (.iaload, 1) := by decide +kernel
theorem dX3_withOwn_65 : decode cX3_withOwn 65 = .ok (.invokestatic 129, 3) := by decide +kernel
theorem dX3_withOwn_68 : decode cX3_withOwn 68 = .ok (.ireturn, 1) := by decide +kernel
theorem dX3_withOwn_69 : decode cX3_withOwn 69 = .ok (.iload_n 1, 1) := by decide +kernel
theorem dX3_withOwn_70 : decode cX3_withOwn 70 = .ok (.ireturn, 1) := by decide +kernel
set_option maxHeartbeats 4000000 in
set_option maxRecDepth 100000 in
theorem m_X3_withOwn (l : Launch) (D : va_G) (cy : Nat → ClassId) (g : Nat → Nat) (σ : ST) (p1 : Int32) (p2 : Int32) (p3 : Int32) (sz : Nat) (hJ : J8 σ) (h0 : (-2147483648 : Int) ≤ p1.toInt ∧ p1.toInt ≤ 999999999) (h1 : (0 : Int) ≤ p2.toInt ∧ p2.toInt ≤ 1407) (h2 : (0 : Int) ≤ p3.toInt ∧ p3.toInt ≤ 3) : Met l yX3_withOwn (ww yX3_withOwn cX3_withOwn 4 (some .int)) ({ frames := 2, cells := 0, slots := 0, locals := 128 }) (va_Pc [.ref (gO g 13), .int p1, .int p2, .int p3] (pr8 D cy g σ sz)) (qi8 D cy g sz (fun r τ => τ = σ ∧ True)) 0 0 (A8 cy g sz) := by
  refine Met.ofW (cc := cX3_withOwn) (maxL := 4) (ret := (some .int)) (by decide) rfl ?_
  intro p e s m args below meth c s₁ B hml hv
  obtain ⟨rfl, hsz, hP, hK, hD0, hC⟩ := hv
  have hx := B.exec
  have hb := B.bytes
  have hr := B.returns
  have hts := hts_g (atoms_spec (ws := ww yX3_withOwn cX3_withOwn 4 (some .int)) B.pre)
  have hown : s.vm.findClass RX3 = some m.cls := findClass_of_methodNamed B.named
  have hlocks := B.notSynchronized
  clear B
  subst hsz
  have hD := fun τ => A8_D (sz := s.heap.size) hD0 τ
  clear hD0
  have hS : va_S (A8 cy g s.heap.size) s.heap s.heap [] := va_S.rf
  have hl := lv_entry ([.ref (gO g 13), .int p1, .int p2, .int p3]) (n := 4) (Nat.le_of_ble_eq_true rfl)
  rw [lg_entry_eq]
  generalize (lg_sl ([.ref (gO g 13), .int p1, .int p2, .int p3]) ++ List.replicate (4 - (lg_sl ([.ref (gO g 13), .int p1, .int p2, .int p3])).length) Slot.unset).toArray = ls at hl ⊢
  have hl : lv_has ls 4 [(0, .ref (gO g 13)), (1, .int p1), (2, .int p2), (3, .int p3)] := hl
  refine lv_iload_n hx hb dX3_withOwn_0 rfl (lv_at hl 3 rfl) ?_
  by_cases hk1 : p3 = 0
  ·
    refine lv_tableIn (off := 31) (tgt := 32) hx hb dX3_withOwn_1 (by rw [hk1]; decide) (by rw [hk1]; decide) (by rw [hk1]; decide) (by decide) ?_
    refine lv_iload_n hx hb dX3_withOwn_32 rfl (lv_at hl 1 rfl) ?_
    refine lv_aload_n hx hb dX3_withOwn_33 rfl (lv_at hl 0 rfl) ?_
    refine g8_3_16 hx hb hts hown hK hP (hts _ q301) dX3_withOwn_34 ?_
    refine lv_iload_n hx hb dX3_withOwn_37 rfl (lv_at hl 2 rfl) ?_
    obtain ⟨x2, ex2⟩ : ∃ z, (σ 13).2.2.1 16 p2.toInt.toNat = z := ⟨_, rfl⟩
    refine l8_3_16 (x := x2) hx hb hK hP (vpo (by have f0 := h1; have g0 := rg32 p2; omega)) ex2 dX3_withOwn_38 ?_
    refine lv_iadd hx hb dX3_withOwn_39 ?_
    refine lv_topi (fun x3 ex3 => ?_)
    exact W.iret (v := x3) hx hb hr (fun tS ht hW => ⟨⟨x3, σ, rfl, ⟨rfl, trivial⟩, (show va_P D clz (WD8 cy g σ) tS.heap by rw [ht]; exact hP)⟩, hS.F ht⟩) hS.2.2 dX3_withOwn_40
  by_cases hk4 : p3 = 1
  ·
    refine lv_tableIn (off := 40) (tgt := 41) hx hb dX3_withOwn_1 (by rw [hk4]; decide) (by rw [hk4]; decide) (by rw [hk4]; decide) (by decide) ?_
    refine lv_aload_n hx hb dX3_withOwn_41 rfl (lv_at hl 0 rfl) ?_
    refine g8_3_17 hx hb hts hown hK hP (hts _ q302) dX3_withOwn_42 ?_
    refine lv_iload_n hx hb dX3_withOwn_45 rfl (lv_at hl 2 rfl) ?_
    obtain ⟨x5, ex5⟩ : ∃ z, (σ 13).2.2.1 17 p2.toInt.toNat = z := ⟨_, rfl⟩
    refine l8_3_17 (x := x5) hx hb hK hP (vpo (by have f0 := h1; have g0 := rg32 p2; omega)) ex5 dX3_withOwn_46 ?_
    refine lv_if_ne (tgt := 54) hx hb dX3_withOwn_47 (by decide) (fun c6 => ?_) (fun c6 => ?_)
    ·
      have k7 := neq32 c6
      refine lv_iload_n hx hb dX3_withOwn_54 rfl (lv_at hl 1 rfl) ?_
      refine lv_iconst (v := 1) hx hb dX3_withOwn_55 (by decide) ?_
      refine lv_iadd hx hb dX3_withOwn_56 ?_
      refine lv_topi (fun x8 ex8 => ?_)
      have t9 := addO ex8 (by have f0 := h0; have g0 := rg32 p1; have z1 : (1 : Int32).toInt = 1 := (by decide); omega)
      exact W.iret (v := x8) hx hb hr (fun tS ht hW => ⟨⟨x8, σ, rfl, ⟨rfl, trivial⟩, (show va_P D clz (WD8 cy g σ) tS.heap by rw [ht]; exact hP)⟩, hS.F ht⟩) hS.2.2 dX3_withOwn_57
    ·
      have k10 := peq32 c6
      refine lv_iload_n hx hb dX3_withOwn_50 rfl (lv_at hl 1 rfl) ?_
      refine lv_goto (tgt := 57) hx hb dX3_withOwn_51 (by decide) ?_
      exact W.iret (v := p1) hx hb hr (fun tS ht hW => ⟨⟨p1, σ, rfl, ⟨rfl, trivial⟩, (show va_P D clz (WD8 cy g σ) tS.heap by rw [ht]; exact hP)⟩, hS.F ht⟩) hS.2.2 dX3_withOwn_57
  by_cases hk11 : p3 = 2
  ·
    refine lv_tableIn (off := 68) (tgt := 69) hx hb dX3_withOwn_1 (by rw [hk11]; decide) (by rw [hk11]; decide) (by rw [hk11]; decide) (by decide) ?_
    refine lv_iload_n hx hb dX3_withOwn_69 rfl (lv_at hl 1 rfl) ?_
    exact W.iret (v := p1) hx hb hr (fun tS ht hW => ⟨⟨p1, σ, rfl, ⟨rfl, trivial⟩, (show va_P D clz (WD8 cy g σ) tS.heap by rw [ht]; exact hP)⟩, hS.F ht⟩) hS.2.2 dX3_withOwn_70
  by_cases hk12 : p3 = 3
  ·
    refine lv_tableIn (off := 57) (tgt := 58) hx hb dX3_withOwn_1 (by rw [hk12]; decide) (by rw [hk12]; decide) (by rw [hk12]; decide) (by decide) ?_
    refine lv_iload_n hx hb dX3_withOwn_58 rfl (lv_at hl 1 rfl) ?_
    refine lv_aload_n hx hb dX3_withOwn_59 rfl (lv_at hl 0 rfl) ?_
    refine g8_3_16 hx hb hts hown hK hP (hts _ q301) dX3_withOwn_60 ?_
    refine lv_iload_n hx hb dX3_withOwn_63 rfl (lv_at hl 2 rfl) ?_
    obtain ⟨x13, ex13⟩ : ∃ z, (σ 13).2.2.1 16 p2.toInt.toNat = z := ⟨_, rfl⟩
    refine l8_3_16 (x := x13) hx hb hK hP (vpo (by have f0 := h1; have g0 := rg32 p2; omega)) ex13 dX3_withOwn_64 ?_
    refine va_mmax hx hb (hml.trans hl.1.symm) hown (hts _ q976) (hts _ q977) (hts _ q135) (hts _ q978) (Nat.le_of_ble_eq_true rfl) (Nat.le_of_ble_eq_true rfl) (Nat.le_refl _) (Nat.le_refl _) dX3_withOwn_65 ?_
    refine lv_topi (fun x14 ex14 => ?_)
    have t15 := maxO ex14
    exact W.iret (v := x14) hx hb hr (fun tS ht hW => ⟨⟨x14, σ, rfl, ⟨rfl, trivial⟩, (show va_P D clz (WD8 cy g σ) tS.heap by rw [ht]; exact hP)⟩, hS.F ht⟩) hS.2.2 dX3_withOwn_68
  exact False.elim (by have f0 := h2; have f1 := neq32 hk1; have f2 := neq32 hk4; have f3 := neq32 hk11; have f4 := neq32 hk12; have g0 := rg32 p3; have z0 : (0 : Int32).toInt = 0 := (by decide); have z1 : (1 : Int32).toInt = 1 := (by decide); have z2 : (2 : Int32).toInt = 2 := (by decide); have z3 : (3 : Int32).toInt = 3 := (by decide); omega)

theorem q953 : Cond.code yX3_weigh cX3_weigh 5 none ∈ lw_g := lw_gm (List.mem_of_getElem? (i := 953) (by decide +kernel)) rfl
theorem q954 : Cond.methodLink RX3 122 yX3_leastBehind ∈ lw_g := lw_gm (List.mem_of_getElem? (i := 954) (by decide +kernel)) rfl
theorem q956 : Cond.instanceMethod yX3_leastBehind ∈ lw_g := lw_gm (List.mem_of_getElem? (i := 956) (by decide +kernel)) rfl
theorem q23 : Cond.selects RX3 yX3_leastBehind yX3_leastBehind ∈ lw_g := lw_gm (List.mem_of_getElem? (i := 23) (by decide +kernel)) rfl
theorem q980 : Cond.methodLink RX3 126 yX3_withOwn ∈ lw_g := lw_gm (List.mem_of_getElem? (i := 980) (by decide +kernel)) rfl
theorem q982 : Cond.instanceMethod yX3_withOwn ∈ lw_g := lw_gm (List.mem_of_getElem? (i := 982) (by decide +kernel)) rfl
theorem q27 : Cond.selects RX3 yX3_withOwn yX3_withOwn ∈ lw_g := lw_gm (List.mem_of_getElem? (i := 27) (by decide +kernel)) rfl
theorem dX3_weigh_0 : decode cX3_weigh 0 = .ok (.aload_n 0, 1) := by decide +kernel
theorem dX3_weigh_1 : decode cX3_weigh 1 = .ok (.getfield 75, 3) := by decide +kernel
theorem dX3_weigh_4 : decode cX3_weigh 4 = .ok (.iconst 1, 1) := by decide +kernel
theorem dX3_weigh_5 : decode cX3_weigh 5 = .ok (.isub, 1) := by decide +kernel
theorem dX3_weigh_6 : decode cX3_weigh 6 = .ok (.istore_n 2, 1) := by decide +kernel
theorem dX3_weigh_7 : decode cX3_weigh 7 = .ok (.iload_n 2, 1) := by decide +kernel
theorem dX3_weigh_8 : decode cX3_weigh 8 = .ok (.ifCond .lt 69, 3) := by decide +kernel
theorem dX3_weigh_11 : decode cX3_weigh 11 = .ok (.aload_n 0, 1) := by decide +kernel
theorem dX3_weigh_12 : decode cX3_weigh 12 = .ok (.getfield 34, 3) := by decide +kernel
theorem dX3_weigh_15 : decode cX3_weigh 15 = .ok (.iload_n 2, 1) := by decide +kernel
theorem dX3_weigh_16 : decode cX3_weigh 16 = .ok (.iaload, 1) := by decide +kernel
theorem dX3_weigh_17 : decode cX3_weigh 17 = .ok (.istore_n 3, 1) := by decide +kernel
theorem dX3_weigh_18 : decode cX3_weigh 18 = .ok (.iload_n 3, 1) := by decide +kernel
theorem dX3_weigh_19 : decode cX3_weigh 19 = .ok (.aload_n 0, 1) := by decide +kernel
theorem dX3_weigh_20 : decode cX3_weigh 20 = .ok (.getfield 34, 3) := by decide +kernel
theorem dX3_weigh_23 : decode cX3_weigh 23 = .ok (.iload_n 2, 1) := by decide +kernel
theorem dX3_weigh_24 : decode cX3_weigh 24 = .ok (.iconst 1, 1) := by decide +kernel
theorem dX3_weigh_25 : decode cX3_weigh 25 = .ok (.iadd, 1) := by decide +kernel
theorem dX3_weigh_26 : decode cX3_weigh 26 = .ok (.iaload, 1) := by decide +kernel
theorem dX3_weigh_27 : decode cX3_weigh 27 = .ok (.if_icmp .ge 44, 3) := by decide +kernel
theorem dX3_weigh_30 : decode cX3_weigh 30 = .ok (.aload_n 0, 1) := by decide +kernel
theorem dX3_weigh_31 : decode cX3_weigh 31 = .ok (.iload_n 2, 1) := by decide +kernel
theorem dX3_weigh_32 : decode cX3_weigh 32 = .ok (.iload_n 3, 1) := by decide +kernel
theorem dX3_weigh_33 : decode cX3_weigh 33 = .ok (.iload_n 1, 1) := by decide +kernel
theorem dX3_weigh_34 : decode cX3_weigh 34 = .ok (.invokevirtual 122, 3) := by decide +kernel
theorem dX3_weigh_37 : decode cX3_weigh 37 = .ok (.istore 4, 2) := by decide +kernel
theorem dX3_weigh_39 : decode cX3_weigh 39 = .ok (.aload_n 0, 1) := by decide +kernel
theorem dX3_weigh_40 : decode cX3_weigh 40 = .ok (.getfield 52, 3) := by decide +kernel
theorem dX3_weigh_43 : decode cX3_weigh 43 = .ok (.iload_n 3, 1) := by decide +kernel
theorem dX3_weigh_44 : decode cX3_weigh 44 = .ok (.iload 4, 2) := by decide +kernel
theorem dX3_weigh_46 : decode cX3_weigh 46 = .ok (.ldc 125, 2) := by decide +kernel
theorem dX3_weigh_48 : decode cX3_weigh 48 = .ok (.if_icmp .ne 8, 3) := by decide +kernel
theorem dX3_weigh_51 : decode cX3_weigh 51 = .ok (.ldc 125, 2) := by decide +kernel
theorem dX3_weigh_53 : decode cX3_weigh 53 = .ok (.goto 11, 3) := by decide +kernel
theorem dX3_weigh_56 : decode cX3_weigh 56 = .ok (.aload_n 0, 1) := by decide +kernel
theorem dX3_weigh_57 : decode cX3_weigh 57 = .ok (.iload 4, 2) := by decide +kernel
theorem dX3_weigh_59 : decode cX3_weigh 59 = .ok (.iload_n 3, 1) := by decide +kernel
theorem dX3_weigh_60 : decode cX3_weigh 60 = .ok (.iload_n 1, 1) := by decide +kernel
theorem dX3_weigh_61 : decode cX3_weigh 61 = .ok (.invokevirtual 126, 3) := by decide +kernel
theorem dX3_weigh_64 : decode cX3_weigh 64 = .ok (.iastore, 1) := by decide +kernel
theorem dX3_weigh_65 : decode cX3_weigh 65 = .ok (.iinc 3 1, 3) := by decide +kernel
theorem dX3_weigh_68 : decode cX3_weigh 68 = .ok (.goto (-50), 3) := by decide +kernel
theorem dX3_weigh_71 : decode cX3_weigh 71 = .ok (.iinc 2 (-1), 3) := by decide +kernel
theorem dX3_weigh_74 : decode cX3_weigh 74 = .ok (.goto (-67), 3) := by decide +kernel
theorem dX3_weigh_77 : decode cX3_weigh 77 = .ok (.return_, 1) := by decide +kernel
set_option maxHeartbeats 4000000 in
set_option maxRecDepth 100000 in
theorem m_X3_weigh (l : Launch) (D : va_G) (cy : Nat → ClassId) (g : Nat → Nat) (σ : ST) (p1 : Int32) (sz : Nat) (hJ : J8 σ) (h0 : (0 : Int) ≤ p1.toInt ∧ p1.toInt ≤ 3) : Met l yX3_weigh (ww yX3_weigh cX3_weigh 5 none) ({ frames := 4, cells := 0, slots := 0, locals := 256 }) (va_Pc [.ref (gO g 13), .int p1] (pr8 D cy g σ sz)) (qv8 D cy g sz (fun τ => Fr (fO [13]) σ τ ∧ J8 τ ∧ True)) 0 0 (A8 cy g sz) := by
  refine Met.ofW (cc := cX3_weigh) (maxL := 5) (ret := none) (by decide) rfl ?_
  intro p e s m args below meth c s₁ B hml hv
  obtain ⟨rfl, hsz, hP, hK, hD0, hC⟩ := hv
  have hx := B.exec
  have hb := B.bytes
  have hr := B.returns
  have hts := hts_g (atoms_spec (ws := ww yX3_weigh cX3_weigh 5 none) B.pre)
  have hown : s.vm.findClass RX3 = some m.cls := findClass_of_methodNamed B.named
  have hlocks := B.notSynchronized
  clear B
  subst hsz
  have hD := fun τ => A8_D (sz := s.heap.size) hD0 τ
  clear hD0
  have hS : va_S (A8 cy g s.heap.size) s.heap s.heap [] := va_S.rf
  have hl := lv_entry ([.ref (gO g 13), .int p1]) (n := 5) (Nat.le_of_ble_eq_true rfl)
  rw [lg_entry_eq]
  generalize (lg_sl ([.ref (gO g 13), .int p1]) ++ List.replicate (5 - (lg_sl ([.ref (gO g 13), .int p1])).length) Slot.unset).toArray = ls at hl ⊢
  have hl : lv_has ls 5 [(0, .ref (gO g 13)), (1, .int p1)] := hl
  refine lv_aload_n hx hb dX3_weigh_0 rfl (lv_at hl 0 rfl) ?_
  refine g8_3_0 (x := ((σ 13).1 0)) hx hb hts hown hK hP (rfl) (hts _ q280) dX3_weigh_1 ?_
  refine lv_iconst (v := 1) hx hb dX3_weigh_4 (by decide) ?_
  refine lv_isub hx hb dX3_weigh_5 ?_
  refine lv_topi (fun x1 ex1 => ?_)
  have t2 := subO ex1 (by have f0 := j8_3_0 hJ rfl; have z1 : (1 : Int32).toInt = 1 := (by decide); omega)
  refine lv_istore_n (lv' := [(2, .int x1), (0, .ref (gO g 13)), (1, .int p1)]) hx hb dX3_weigh_6 rfl hl (by decide) rfl (fun ls hl => ?_)
  refine loop8 5 7 (fun x : LZ => [(2, .int (x.2.1 0)), (0, .ref (gO g 13)), (1, .int p1)]) (fun x : LZ => (Fr (fO [13]) σ x.1) ∧ (J8 x.1) ∧ ((-1 : Int) ≤ (x.2.1 0).toInt ∧ (x.2.1 0).toInt ≤ 15) ∧ True) (fun x : LZ => ((x.2.1 0).toInt - (-2 : Int)).toNat) ?_ (σ, lf [x1], lg []) ⟨Fr.rf, hJ, (show (-1 : Int) ≤ (x1 : Int32).toInt ∧ (x1 : Int32).toInt ≤ 15 from (by have f0 := t2; have f1 := j8_3_0 hJ rfl; have g1 := rg32 x1; have z1 : (1 : Int32).toInt = 1 := (by decide); omega)), trivial⟩ _ _ _ hP hS (lv_sub hl [0, 1, 2] rfl)
  intro y5 hI4 nl3 H locs ls hP hS hl
  obtain ⟨σ6, eσ6⟩ : ∃ z, z = y5.1 := ⟨_, rfl⟩
  rw [← eσ6] at hP hI4
  have hF7 : Fr (fO [13]) σ σ6 := hI4.1
  have hJ8 : J8 σ6 := hI4.2.1
  have b9 : (-1 : Int) ≤ (y5.2.1 0).toInt ∧ (y5.2.1 0).toInt ≤ 15 := hI4.2.2.1
  have hl : lv_has ls 5 [(2, .int (y5.2.1 0)), (0, .ref (gO g 13)), (1, .int p1)] := hl
  refine lv_iload_n hx hb dX3_weigh_7 rfl (lv_at hl 0 rfl) ?_
  refine lv_if_lt (tgt := 77) hx hb dX3_weigh_8 (by decide) (fun c10 => ?_) (fun c10 => ?_)
  ·
    have k11 := plt32 c10
    exact W.vret hx hb hr (fun tS ht hW => ⟨⟨σ6, rfl, ⟨Fr.tr (Fr.rf) hF7 (fO_sub (fun _ q => q)), hJ8, trivial⟩, (show va_P D clz (WD8 cy g σ6) tS.heap by rw [ht]; exact hP)⟩, hS.F ht⟩) hS.2.2 dX3_weigh_77
  ·
    have k12 := nlt32 c10
    refine lv_aload_n hx hb dX3_weigh_11 rfl (lv_at hl 1 rfl) ?_
    refine g8_3_12 hx hb hts hown hK hP (hts _ q297) dX3_weigh_12 ?_
    refine lv_iload_n hx hb dX3_weigh_15 rfl (lv_at hl 0 rfl) ?_
    obtain ⟨x13, ex13⟩ : ∃ z, (σ6 13).2.2.1 12 (y5.2.1 0).toInt.toNat = z := ⟨_, rfl⟩
    refine l8_3_12 (x := x13) hx hb hK hP (vpo (by have f0 := b9; have f1 := k12; have g0 := rg32 (y5.2.1 0); have z0 : (0 : Int32).toInt = 0 := (by decide); omega)) ex13 dX3_weigh_16 ?_
    have t14 := a8_3_12 hJ8 ex13
    refine lv_istore_n (lv' := [(3, .int x13), (2, .int (y5.2.1 0)), (0, .ref (gO g 13)), (1, .int p1)]) hx hb dX3_weigh_17 rfl hl (by decide) rfl (fun ls hl => ?_)
    refine loop8 5 18 (fun x : LZ => [(3, .int (x.2.1 0)), (2, .int (y5.2.1 0)), (0, .ref (gO g 13)), (1, .int p1)]) (fun x : LZ => (Fr (fO [13]) σ6 x.1) ∧ (J8 x.1) ∧ ((0 : Int) ≤ (x.2.1 0).toInt ∧ (x.2.1 0).toInt ≤ 1408) ∧ True) (fun x : LZ => ((1409 : Int) - (x.2.1 0).toInt).toNat) ?_ (σ6, lf [x13], lg []) ⟨Fr.rf, hJ8, (show (0 : Int) ≤ (x13 : Int32).toInt ∧ (x13 : Int32).toInt ≤ 1408 from (by have f0 := t14; have g0 := rg32 x13; omega)), trivial⟩ _ _ _ hP hS (lv_sub hl [0, 1, 2, 3] rfl)
    intro y17 hI16 nl15 H locs ls hP hS hl
    obtain ⟨σ18, eσ18⟩ : ∃ z, z = y17.1 := ⟨_, rfl⟩
    rw [← eσ18] at hP hI16
    have hF19 : Fr (fO [13]) σ6 σ18 := hI16.1
    have hJ20 : J8 σ18 := hI16.2.1
    have b21 : (0 : Int) ≤ (y17.2.1 0).toInt ∧ (y17.2.1 0).toInt ≤ 1408 := hI16.2.2.1
    have hl : lv_has ls 5 [(3, .int (y17.2.1 0)), (2, .int (y5.2.1 0)), (0, .ref (gO g 13)), (1, .int p1)] := hl
    refine lv_iload_n hx hb dX3_weigh_18 rfl (lv_at hl 0 rfl) ?_
    refine lv_aload_n hx hb dX3_weigh_19 rfl (lv_at hl 2 rfl) ?_
    refine g8_3_12 hx hb hts hown hK hP (hts _ q297) dX3_weigh_20 ?_
    refine lv_iload_n hx hb dX3_weigh_23 rfl (lv_at hl 1 rfl) ?_
    refine lv_iconst (v := 1) hx hb dX3_weigh_24 (by decide) ?_
    refine lv_iadd hx hb dX3_weigh_25 ?_
    refine lv_topi (fun x22 ex22 => ?_)
    have t23 := addO ex22 (by have f0 := b9; have f1 := k12; have g0 := rg32 (y5.2.1 0); have z0 : (0 : Int32).toInt = 0 := (by decide); have z1 : (1 : Int32).toInt = 1 := (by decide); omega)
    obtain ⟨x24, ex24⟩ : ∃ z, (σ18 13).2.2.1 12 x22.toInt.toNat = z := ⟨_, rfl⟩
    refine l8_3_12 (x := x24) hx hb hK hP (vpo (by have f0 := t23; have f1 := b9; have f2 := k12; have g0 := rg32 x22; have z0 : (0 : Int32).toInt = 0 := (by decide); have z1 : (1 : Int32).toInt = 1 := (by decide); omega)) ex24 dX3_weigh_26 ?_
    have t25 := a8_3_12 hJ20 ex24
    refine lv_icmp_ge (tgt := 71) hx hb dX3_weigh_27 (by decide) (fun c26 => ?_) (fun c26 => ?_)
    ·
      have k27 := ple32 c26
      obtain ⟨x28, ex28⟩ : ∃ y : Int32, y = (y5.2.1 0) + (-1) := ⟨_, rfl⟩
      have t29 := addO ex28 (by have f0 := b9; have f1 := k12; have f2 := t23; have g0 := rg32 (y5.2.1 0); have zm1 : ((-1) : Int32).toInt = (-1) := (by decide); have z0 : (0 : Int32).toInt = 0 := (by decide); have z1 : (1 : Int32).toInt = 1 := (by decide); omega)
      refine lv_iinc (v := x28) (lv' := [(2, .int x28), (3, .int (y17.2.1 0)), (0, .ref (gO g 13)), (1, .int p1)]) hx hb dX3_weigh_71 hl (k := 1) rfl (by rw [ex28]; rfl) (by decide) rfl (fun ls hl => ?_)
      refine lv_goto (tgt := 7) hx hb dX3_weigh_74 (by decide) ?_
      have t30 : (x28.toInt - (-2 : Int)).toNat < ((y5.2.1 0).toInt - (-2 : Int)).toNat := (by have f0 := b9; have f1 := k12; have f2 := t23; have f3 := t29; have g0 := rg32 (y5.2.1 0); have g1 := rg32 x28; have zm1 : ((-1) : Int32).toInt = (-1) := (by decide); have z0 : (0 : Int32).toInt = 0 := (by decide); have z1 : (1 : Int32).toInt = 1 := (by decide); omega)
      exact nl3 (σ18, lf [x28], lg []) ⟨Fr.tr (Fr.tr (Fr.rf) hF7 (fO_sub (fun _ q => q))) hF19 (fO_sub (fun _ q => q)), hJ20, (show (-1 : Int) ≤ (x28 : Int32).toInt ∧ (x28 : Int32).toInt ≤ 15 from (by have f0 := t29; have f1 := b9; have f2 := k12; have f3 := t23; have g0 := rg32 x28; have zm1 : ((-1) : Int32).toInt = (-1) := (by decide); have z0 : (0 : Int32).toInt = 0 := (by decide); have z1 : (1 : Int32).toInt = 1 := (by decide); omega)), trivial⟩ (show (x28.toInt - (-2 : Int)).toNat < _ from by first | exact t30 | (rw [← eσ6]; exact t30)) _ _ _ hP hS (lv_sub hl [0, 2, 3] rfl)
    ·
      have k31 := nle32 c26
      refine lv_aload_n hx hb dX3_weigh_30 rfl (lv_at hl 2 rfl) ?_
      refine lv_iload_n hx hb dX3_weigh_31 rfl (lv_at hl 1 rfl) ?_
      refine lv_iload_n hx hb dX3_weigh_32 rfl (lv_at hl 0 rfl) ?_
      refine lv_iload_n hx hb dX3_weigh_33 rfl (lv_at hl 3 rfl) ?_
      refine va_calli (va_runV (As := [.int (y5.2.1 0), .int (y17.2.1 0), .int p1]) (rest := []) ⟨hx, hb, hml, hown, hts⟩ (m_X3_leastBehind l D cy g σ18  (y5.2.1 0) (y17.2.1 0) p1 _ hJ20 (show (0 : Int) ≤ (y5.2.1 0).toInt ∧ (y5.2.1 0).toInt ≤ 15 from (by have f0 := b9; have f1 := k12; have f2 := t23; have g0 := rg32 (y5.2.1 0); have z0 : (0 : Int32).toInt = 0 := (by decide); have z1 : (1 : Int32).toInt = 1 := (by decide); omega)) (show (0 : Int) ≤ (y17.2.1 0).toInt ∧ (y17.2.1 0).toInt ≤ 1407 from (by have f0 := b9; have f1 := k12; have f2 := b21; have f3 := t23; have f4 := k31; have f5 := t25; have g0 := rg32 (y17.2.1 0); have g1 := rg32 (y5.2.1 0); have z0 : (0 : Int32).toInt = 0 := (by decide); have z1 : (1 : Int32).toInt = 1 := (by decide); omega)) (show (0 : Int) ≤ p1.toInt ∧ p1.toInt ≤ 3 from (by have f0 := h0; have f1 := b9; have f2 := k12; have f3 := b21; have f4 := t23; have f5 := k31; have f6 := t25; have g0 := rg32 (y17.2.1 0); have g1 := rg32 (y5.2.1 0); have g2 := rg32 p1; have z0 : (0 : Int32).toInt = 0 := (by decide); have z1 : (1 : Int32).toInt = 1 := (by decide); omega))) (cwV 3 hts (gd_V q954 q956 q23 q129 q957) rfl rfl rfl (by decide +kernel) ⟨(Nat.le_of_ble_eq_true rfl), (Nat.le_of_ble_eq_true rfl)⟩) (pv8 hP hK hD hC hS (rv8_3 hK hP)) rfl rfl hl.1 rfl (lv_room (Nat.le_of_ble_eq_true rfl)) dX3_weigh_34 ⟨Nat.le_of_ble_eq_true rfl, Nat.le_of_ble_eq_true rfl⟩) hS (fun q _ h => up8 hS q h) (up8 hS) (fun r32 σ33 tS H1 locs ht hvm hw34 hB hz1 hk1 hS => ?_)
      have hP : va_P D clz (WD8 cy g σ33) H1 := by rw [← ht]; exact hB
      clear hB hz1 hk1 hvm ht
      generalize H1 = H at hP hS ⊢
      have hw34E : σ18 = σ33 := (hw34.1).symm
      subst hw34E
      have b35 : (-2147483648 : Int) ≤ r32.toInt ∧ r32.toInt ≤ 1000000000 := hw34.2.1
      refine lv_istore (lv' := [(4, .int r32), (3, .int (y17.2.1 0)), (2, .int (y5.2.1 0)), (0, .ref (gO g 13)), (1, .int p1)]) hx hb dX3_weigh_37 hl (by decide) rfl (fun ls hl => ?_)
      refine lv_aload_n hx hb dX3_weigh_39 rfl (lv_at hl 3 rfl) ?_
      refine g8_3_18 hx hb hts hown hK hP (hts _ q303) dX3_weigh_40 ?_
      refine lv_iload_n hx hb dX3_weigh_43 rfl (lv_at hl 1 rfl) ?_
      refine lv_iload hx hb dX3_weigh_44 (lv_at hl 0 rfl) ?_
      refine lv_ldc (v := 1000000000) hx hb hown (hts _ q958) dX3_weigh_46 ?_
      refine cut8 (D := D) (cy := cy) (g := g) (A := A8 cy g s.heap.size) (H0 := s.heap) 5 64 (fun x : LZ => [(4, .int r32), (3, .int (y17.2.1 0)), (2, .int (y5.2.1 0)), (0, .ref (gO g 13)), (1, .int p1)]) (fun x : LZ => [.int (x.2.1 0), .int (y17.2.1 0), .ref (gR g 13 18)]) (fun x : LZ => (x.1 = σ18) ∧ True) ?_ ?_
      ·
        intro y38 hI37 H locs ls hP hS hl
        rw [show y38.1 = σ18 from hI37.1] at hP
        have hl : lv_has ls 5 [(4, .int r32), (3, .int (y17.2.1 0)), (2, .int (y5.2.1 0)), (0, .ref (gO g 13)), (1, .int p1)] := hl
        refine W.eq (g2 := F0 m 64 ls [.int (y38.2.1 0), .int (y17.2.1 0), .ref (gR g 13 18)]) rfl ?_
        refine t8_3_18 hx hb hK hP hD hS (vpo (by have f0 := b21; have f1 := k31; have f2 := t25; have g0 := rg32 (y17.2.1 0); omega)) dX3_weigh_64 (fun H locs σ39 eσ39 hP hS => ?_)
        have hJ40 : J8 σ39 := hJ20.A eσ39 rfl (show PA8 3 18 (y38.2.1 0) from trivial)
        obtain ⟨x41, ex41⟩ : ∃ y : Int32, y = (y17.2.1 0) + 1 := ⟨_, rfl⟩
        have t42 := addO ex41 (by have f0 := b21; have f1 := k31; have f2 := t25; have g0 := rg32 (y17.2.1 0); have z1 : (1 : Int32).toInt = 1 := (by decide); omega)
        refine lv_iinc (v := x41) (lv' := [(3, .int x41), (4, .int r32), (2, .int (y5.2.1 0)), (0, .ref (gO g 13)), (1, .int p1)]) hx hb dX3_weigh_65 hl (k := 1) rfl (by rw [ex41]; rfl) (by decide) rfl (fun ls hl => ?_)
        refine lv_goto (tgt := 18) hx hb dX3_weigh_68 (by decide) ?_
        have t43 : ((1409 : Int) - x41.toInt).toNat < ((1409 : Int) - (y17.2.1 0).toInt).toNat := (by have f0 := b21; have f1 := k31; have f2 := t42; have f3 := t25; have g0 := rg32 (y17.2.1 0); have g1 := rg32 x41; have z1 : (1 : Int32).toInt = 1 := (by decide); omega)
        exact nl15 (σ39, lf [x41], lg []) ⟨Fr.tr (Fr.tr (Fr.rf) hF19 (fO_sub (fun _ q => q))) (sA_f eσ39) (fN_O mem0), hJ40, (show (0 : Int) ≤ (x41 : Int32).toInt ∧ (x41 : Int32).toInt ≤ 1408 from (by have f0 := t42; have f1 := b21; have f2 := k31; have f3 := t25; have g0 := rg32 x41; have z1 : (1 : Int32).toInt = 1 := (by decide); omega)), trivial⟩ (show ((1409 : Int) - x41.toInt).toNat < _ from by first | exact t43 | (rw [← eσ18]; exact t43)) _ _ _ hP hS (lv_sub hl [0, 2, 3, 4] rfl)
      ·
        intro nj36
        refine lv_icmp_ne (tgt := 56) hx hb dX3_weigh_48 (by decide) (fun c44 => ?_) (fun c44 => ?_)
        ·
          have k45 := neq32 c44
          refine lv_aload_n hx hb dX3_weigh_56 rfl (lv_at hl 3 rfl) ?_
          refine lv_iload hx hb dX3_weigh_57 (lv_at hl 0 rfl) ?_
          refine lv_iload_n hx hb dX3_weigh_59 rfl (lv_at hl 1 rfl) ?_
          refine lv_iload_n hx hb dX3_weigh_60 rfl (lv_at hl 4 rfl) ?_
          refine va_calli (va_runV (As := [.int r32, .int (y17.2.1 0), .int p1]) (rest := [.int (y17.2.1 0), .ref (gR g 13 18)]) ⟨hx, hb, hml, hown, hts⟩ (m_X3_withOwn l D cy g σ18  r32 (y17.2.1 0) p1 _ hJ20 (show (-2147483648 : Int) ≤ r32.toInt ∧ r32.toInt ≤ 999999999 from (by have f0 := b35; have f1 := k45; have g0 := rg32 r32; have z1000000000 : (1000000000 : Int32).toInt = 1000000000 := (by decide); omega)) (show (0 : Int) ≤ (y17.2.1 0).toInt ∧ (y17.2.1 0).toInt ≤ 1407 from (by have f0 := b21; have f1 := k31; have f2 := b35; have f3 := k45; have f4 := t25; have g0 := rg32 (y17.2.1 0); have g1 := rg32 r32; have z1000000000 : (1000000000 : Int32).toInt = 1000000000 := (by decide); omega)) (show (0 : Int) ≤ p1.toInt ∧ p1.toInt ≤ 3 from (by have f0 := h0; have f1 := b21; have f2 := k31; have f3 := b35; have f4 := k45; have f5 := t25; have g0 := rg32 (y17.2.1 0); have g1 := rg32 p1; have g2 := rg32 r32; have z1000000000 : (1000000000 : Int32).toInt = 1000000000 := (by decide); omega))) (cwV 3 hts (gd_V q980 q982 q27 q129 q983) rfl rfl rfl (by decide +kernel) ⟨(Nat.le_of_ble_eq_true rfl), (Nat.le_of_ble_eq_true rfl)⟩) (pv8 hP hK hD hC hS (rv8_3 hK hP)) rfl rfl hl.1 rfl (lv_room (Nat.le_of_ble_eq_true rfl)) dX3_weigh_61 ⟨Nat.le_of_ble_eq_true rfl, Nat.le_of_ble_eq_true rfl⟩) hS (fun q _ h => up8 hS q h) (up8 hS) (fun r46 σ47 tS H1 locs ht hvm hw48 hB hz1 hk1 hS => ?_)
          have hP : va_P D clz (WD8 cy g σ47) H1 := by rw [← ht]; exact hB
          clear hB hz1 hk1 hvm ht
          generalize H1 = H at hP hS ⊢
          have hw48E : σ18 = σ47 := (hw48.1).symm
          subst hw48E
          exact nj36 (σ18, lf [r46], lg []) ⟨rfl, trivial⟩ _ _ _ hP hS (lv_sub hl [0, 1, 2, 3, 4] rfl)
        ·
          have k49 := peq32 c44
          refine lv_ldc (v := 1000000000) hx hb hown (hts _ q958) dX3_weigh_51 ?_
          refine lv_goto (tgt := 64) hx hb dX3_weigh_53 (by decide) ?_
          exact nj36 (σ18, lf [1000000000], lg []) ⟨rfl, trivial⟩ _ _ _ hP hS (lv_sub hl [0, 1, 2, 3, 4] rfl)

theorem q987 : Cond.code yX3_leastAtFirst cX3_leastAtFirst 3 (some .int) ∈ lw_g := lw_gm (List.mem_of_getElem? (i := 987) (by decide +kernel)) rfl
theorem dX3_leastAtFirst_0 : decode cX3_leastAtFirst 0 = .ok (.aload_n 0, 1) := by decide +kernel
theorem dX3_leastAtFirst_1 : decode cX3_leastAtFirst 1 = .ok (.getfield 75, 3) := by decide +kernel
theorem dX3_leastAtFirst_4 : decode cX3_leastAtFirst 4 = .ok (.ifCond .ne 5, 3) := by decide +kernel
theorem dX3_leastAtFirst_7 : decode cX3_leastAtFirst 7 = .ok (.iconst 0, 1) := by decide +kernel
theorem dX3_leastAtFirst_8 : decode cX3_leastAtFirst 8 = .ok (.ireturn, 1) := by decide +kernel
theorem dX3_leastAtFirst_9 : decode cX3_leastAtFirst 9 = .ok (.ldc 125, 2) := by decide +kernel
theorem dX3_leastAtFirst_11 : decode cX3_leastAtFirst 11 = .ok (.istore_n 1, 1) := by decide +kernel
theorem dX3_leastAtFirst_12 : decode cX3_leastAtFirst 12 = .ok (.aload_n 0, 1) := by decide +kernel
theorem dX3_leastAtFirst_13 : decode cX3_leastAtFirst 13 = .ok (.getfield 34, 3) := by decide +kernel
theorem dX3_leastAtFirst_16 : decode cX3_leastAtFirst 16 = .ok (.iconst 0, 1) := by decide +kernel
theorem dX3_leastAtFirst_17 : decode cX3_leastAtFirst 17 = .ok (.iaload, 1) := by decide +kernel
theorem dX3_leastAtFirst_18 : decode cX3_leastAtFirst 18 = .ok (.istore_n 2, 1) := by decide +kernel
theorem dX3_leastAtFirst_19 : decode cX3_leastAtFirst 19 = .ok (.iload_n 2, 1) := by decide +kernel
theorem dX3_leastAtFirst_20 : decode cX3_leastAtFirst 20 = .ok (.aload_n 0, 1) := by decide +kernel
theorem dX3_leastAtFirst_21 : decode cX3_leastAtFirst 21 = .ok (.getfield 34, 3) := by decide +kernel
theorem dX3_leastAtFirst_24 : decode cX3_leastAtFirst 24 = .ok (.iconst 1, 1) := by decide +kernel
theorem dX3_leastAtFirst_25 : decode cX3_leastAtFirst 25 = .ok (.iaload, 1) := by decide +kernel
theorem dX3_leastAtFirst_26 : decode cX3_leastAtFirst 26 = .ok (.if_icmp .ge 20, 3) := by decide +kernel
theorem dX3_leastAtFirst_29 : decode cX3_leastAtFirst 29 = .ok (.iload_n 1, 1) := by decide +kernel
theorem dX3_leastAtFirst_30 : decode cX3_leastAtFirst 30 = .ok (.aload_n 0, 1) := by decide +kernel
theorem dX3_leastAtFirst_31 : decode cX3_leastAtFirst 31 = .ok (.getfield 52, 3) := by decide +kernel
theorem dX3_leastAtFirst_34 : decode cX3_leastAtFirst 34 = .ok (.iload_n 2, 1) := by decide +kernel
theorem dX3_leastAtFirst_35 : decode cX3_leastAtFirst 35 = .ok (.iaload, 1) := by decide +kernel
theorem dX3_leastAtFirst_36 : decode cX3_leastAtFirst 36 = .ok (.invokestatic 139, 3) := by decide +kernel
theorem dX3_leastAtFirst_39 : decode cX3_leastAtFirst 39 = .ok (.istore_n 1, 1) := by decide +kernel
theorem dX3_leastAtFirst_40 : decode cX3_leastAtFirst 40 = .ok (.iinc 2 1, 3) := by decide +kernel
theorem dX3_leastAtFirst_43 : decode cX3_leastAtFirst 43 = .ok (.goto (-24), 3) := by decide +kernel
theorem dX3_leastAtFirst_46 : decode cX3_leastAtFirst 46 = .ok (.iload_n 1, 1) := by decide +kernel
theorem dX3_leastAtFirst_47 : decode cX3_leastAtFirst 47 = .ok (.ireturn, 1) := by decide +kernel
set_option maxHeartbeats 4000000 in
set_option maxRecDepth 100000 in
theorem m_X3_leastAtFirst (l : Launch) (D : va_G) (cy : Nat → ClassId) (g : Nat → Nat) (σ : ST)  (sz : Nat) (hJ : J8 σ)  : Met l yX3_leastAtFirst (ww yX3_leastAtFirst cX3_leastAtFirst 3 (some .int)) ({ frames := 2, cells := 0, slots := 0, locals := 128 }) (va_Pc [.ref (gO g 13)] (pr8 D cy g σ sz)) (qi8 D cy g sz (fun r τ => τ = σ ∧ ((-2147483648 : Int) ≤ r.toInt ∧ r.toInt ≤ 1000000000) ∧ True)) 0 0 (A8 cy g sz) := by
  refine Met.ofW (cc := cX3_leastAtFirst) (maxL := 3) (ret := (some .int)) (by decide) rfl ?_
  intro p e s m args below meth c s₁ B hml hv
  obtain ⟨rfl, hsz, hP, hK, hD0, hC⟩ := hv
  have hx := B.exec
  have hb := B.bytes
  have hr := B.returns
  have hts := hts_g (atoms_spec (ws := ww yX3_leastAtFirst cX3_leastAtFirst 3 (some .int)) B.pre)
  have hown : s.vm.findClass RX3 = some m.cls := findClass_of_methodNamed B.named
  have hlocks := B.notSynchronized
  clear B
  subst hsz
  have hD := fun τ => A8_D (sz := s.heap.size) hD0 τ
  clear hD0
  have hS : va_S (A8 cy g s.heap.size) s.heap s.heap [] := va_S.rf
  have hl := lv_entry ([.ref (gO g 13)]) (n := 3) (Nat.le_of_ble_eq_true rfl)
  rw [lg_entry_eq]
  generalize (lg_sl ([.ref (gO g 13)]) ++ List.replicate (3 - (lg_sl ([.ref (gO g 13)])).length) Slot.unset).toArray = ls at hl ⊢
  have hl : lv_has ls 3 [(0, .ref (gO g 13))] := hl
  refine lv_aload_n hx hb dX3_leastAtFirst_0 rfl (lv_at hl 0 rfl) ?_
  refine g8_3_0 (x := ((σ 13).1 0)) hx hb hts hown hK hP (rfl) (hts _ q280) dX3_leastAtFirst_1 ?_
  refine lv_if_ne (tgt := 9) hx hb dX3_leastAtFirst_4 (by decide) (fun c1 => ?_) (fun c1 => ?_)
  ·
    have k2 := neq32 c1
    refine lv_ldc (v := 1000000000) hx hb hown (hts _ q958) dX3_leastAtFirst_9 ?_
    refine lv_istore_n (lv' := [(1, .int 1000000000), (0, .ref (gO g 13))]) hx hb dX3_leastAtFirst_11 rfl hl (by decide) rfl (fun ls hl => ?_)
    refine lv_aload_n hx hb dX3_leastAtFirst_12 rfl (lv_at hl 1 rfl) ?_
    refine g8_3_12 hx hb hts hown hK hP (hts _ q297) dX3_leastAtFirst_13 ?_
    refine lv_iconst (v := 0) hx hb dX3_leastAtFirst_16 (by decide) ?_
    obtain ⟨x3, ex3⟩ : ∃ z, (σ 13).2.2.1 12 (0 : Int32).toInt.toNat = z := ⟨_, rfl⟩
    refine l8_3_12 (x := x3) hx hb hK hP (vpi (by decide)) ex3 dX3_leastAtFirst_17 ?_
    have t4 := a8_3_12 hJ ex3
    refine lv_istore_n (lv' := [(2, .int x3), (1, .int 1000000000), (0, .ref (gO g 13))]) hx hb dX3_leastAtFirst_18 rfl hl (by decide) rfl (fun ls hl => ?_)
    refine loop8 3 19 (fun x : LZ => [(2, .int (x.2.1 0)), (1, .int (x.2.1 1)), (0, .ref (gO g 13))]) (fun x : LZ => (x.1 = σ) ∧ ((0 : Int) ≤ (x.2.1 0).toInt ∧ (x.2.1 0).toInt ≤ 1408) ∧ ((-2147483648 : Int) ≤ (x.2.1 1).toInt ∧ (x.2.1 1).toInt ≤ 1000000000) ∧ True) (fun x : LZ => ((1409 : Int) - (x.2.1 0).toInt).toNat) ?_ (σ, lf [x3, 1000000000], lg []) ⟨rfl, (show (0 : Int) ≤ (x3 : Int32).toInt ∧ (x3 : Int32).toInt ≤ 1408 from (by have f0 := t4; have g0 := rg32 x3; omega)), (show (-2147483648 : Int) ≤ (1000000000 : Int32).toInt ∧ (1000000000 : Int32).toInt ≤ 1000000000 from (by have z1000000000 : (1000000000 : Int32).toInt = 1000000000 := (by decide); omega)), trivial⟩ _ _ _ hP hS (lv_sub hl [0, 1, 2] rfl)
    intro y7 hI6 nl5 H locs ls hP hS hl
    rw [show y7.1 = σ from hI6.1] at hP
    have b8 : (0 : Int) ≤ (y7.2.1 0).toInt ∧ (y7.2.1 0).toInt ≤ 1408 := hI6.2.1
    have b9 : (-2147483648 : Int) ≤ (y7.2.1 1).toInt ∧ (y7.2.1 1).toInt ≤ 1000000000 := hI6.2.2.1
    have hl : lv_has ls 3 [(2, .int (y7.2.1 0)), (1, .int (y7.2.1 1)), (0, .ref (gO g 13))] := hl
    refine lv_iload_n hx hb dX3_leastAtFirst_19 rfl (lv_at hl 0 rfl) ?_
    refine lv_aload_n hx hb dX3_leastAtFirst_20 rfl (lv_at hl 2 rfl) ?_
    refine g8_3_12 hx hb hts hown hK hP (hts _ q297) dX3_leastAtFirst_21 ?_
    refine lv_iconst (v := 1) hx hb dX3_leastAtFirst_24 (by decide) ?_
    obtain ⟨x10, ex10⟩ : ∃ z, (σ 13).2.2.1 12 (1 : Int32).toInt.toNat = z := ⟨_, rfl⟩
    refine l8_3_12 (x := x10) hx hb hK hP (vpi (by decide)) ex10 dX3_leastAtFirst_25 ?_
    have t11 := a8_3_12 hJ ex10
    refine lv_icmp_ge (tgt := 46) hx hb dX3_leastAtFirst_26 (by decide) (fun c12 => ?_) (fun c12 => ?_)
    ·
      have k13 := ple32 c12
      refine lv_iload_n hx hb dX3_leastAtFirst_46 rfl (lv_at hl 1 rfl) ?_
      exact W.iret (v := (y7.2.1 1)) hx hb hr (fun tS ht hW => ⟨⟨(y7.2.1 1), σ, rfl, ⟨rfl, (show (-2147483648 : Int) ≤ (y7.2.1 1).toInt ∧ (y7.2.1 1).toInt ≤ 1000000000 from (by have f0 := b9; have g0 := rg32 (y7.2.1 1); omega)), trivial⟩, (show va_P D clz (WD8 cy g σ) tS.heap by rw [ht]; exact hP)⟩, hS.F ht⟩) hS.2.2 dX3_leastAtFirst_47
    ·
      have k14 := nle32 c12
      refine lv_iload_n hx hb dX3_leastAtFirst_29 rfl (lv_at hl 1 rfl) ?_
      refine lv_aload_n hx hb dX3_leastAtFirst_30 rfl (lv_at hl 2 rfl) ?_
      refine g8_3_18 hx hb hts hown hK hP (hts _ q303) dX3_leastAtFirst_31 ?_
      refine lv_iload_n hx hb dX3_leastAtFirst_34 rfl (lv_at hl 0 rfl) ?_
      obtain ⟨x15, ex15⟩ : ∃ z, (σ 13).2.2.1 18 (y7.2.1 0).toInt.toNat = z := ⟨_, rfl⟩
      refine l8_3_18 (x := x15) hx hb hK hP (vpo (by have f0 := b8; have f1 := k14; have f2 := t11; have g0 := rg32 (y7.2.1 0); omega)) ex15 dX3_leastAtFirst_35 ?_
      refine va_mmin hx hb (hml.trans hl.1.symm) hown (hts _ q979) (hts _ q512) (hts _ q135) (hts _ q513) (Nat.le_of_ble_eq_true rfl) (Nat.le_of_ble_eq_true rfl) (Nat.le_refl _) (Nat.le_refl _) dX3_leastAtFirst_36 ?_
      refine lv_topi (fun x16 ex16 => ?_)
      have t17 := minO ex16
      refine lv_istore_n (lv' := [(1, .int x16), (2, .int (y7.2.1 0)), (0, .ref (gO g 13))]) hx hb dX3_leastAtFirst_39 rfl hl (by decide) rfl (fun ls hl => ?_)
      obtain ⟨x18, ex18⟩ : ∃ y : Int32, y = (y7.2.1 0) + 1 := ⟨_, rfl⟩
      have t19 := addO ex18 (by have f0 := b8; have f1 := k14; have f2 := t11; have g0 := rg32 (y7.2.1 0); have z1 : (1 : Int32).toInt = 1 := (by decide); omega)
      refine lv_iinc (v := x18) (lv' := [(2, .int x18), (1, .int x16), (0, .ref (gO g 13))]) hx hb dX3_leastAtFirst_40 hl (k := 1) rfl (by rw [ex18]; rfl) (by decide) rfl (fun ls hl => ?_)
      refine lv_goto (tgt := 19) hx hb dX3_leastAtFirst_43 (by decide) ?_
      have t20 : ((1409 : Int) - x18.toInt).toNat < ((1409 : Int) - (y7.2.1 0).toInt).toNat := (by have f0 := b8; have f1 := k14; have f2 := t19; have f3 := t11; have g0 := rg32 (y7.2.1 0); have g1 := rg32 x18; have z1 : (1 : Int32).toInt = 1 := (by decide); omega)
      exact nl5 (σ, lf [x18, x16], lg []) ⟨rfl, (show (0 : Int) ≤ (x18 : Int32).toInt ∧ (x18 : Int32).toInt ≤ 1408 from (by have f0 := t19; have f1 := b8; have f2 := k14; have f3 := t11; have g0 := rg32 x18; have z1 : (1 : Int32).toInt = 1 := (by decide); omega)), (show (-2147483648 : Int) ≤ (x16 : Int32).toInt ∧ (x16 : Int32).toInt ≤ 1000000000 from (by have f0 := t17; have f1 := b9; have g0 := rg32 (y7.2.1 1); have g1 := rg32 x15; have g2 := rg32 x16; omega)), trivial⟩ (show ((1409 : Int) - x18.toInt).toNat < _ from t20) _ _ _ hP hS (lv_sub hl [0, 1, 2] rfl)
  ·
    have k21 := peq32 c1
    refine lv_iconst (v := 0) hx hb dX3_leastAtFirst_7 (by decide) ?_
    exact W.iret (v := 0) hx hb hr (fun tS ht hW => ⟨⟨0, σ, rfl, ⟨rfl, (show (-2147483648 : Int) ≤ (0 : Int32).toInt ∧ (0 : Int32).toInt ≤ 1000000000 from (by have z0 : (0 : Int32).toInt = 0 := (by decide); omega)), trivial⟩, (show va_P D clz (WD8 cy g σ) tS.heap by rw [ht]; exact hP)⟩, hS.F ht⟩) hS.2.2 dX3_leastAtFirst_8

theorem q991 : Cond.code yX3_firstWayWith cX3_firstWayWith 4 (some .int) ∈ lw_g := lw_gm (List.mem_of_getElem? (i := 991) (by decide +kernel)) rfl
theorem q298 : Cond.fieldLink RX3 37 "LipsAndSlides$Plays" "picked" "[I" ∈ lw_g := lw_gm (List.mem_of_getElem? (i := 298) (by decide +kernel)) rfl
theorem dX3_firstWayWith_0 : decode cX3_firstWayWith 0 = .ok (.aload_n 0, 1) := by decide +kernel
theorem dX3_firstWayWith_1 : decode cX3_firstWayWith 1 = .ok (.getfield 34, 3) := by decide +kernel
theorem dX3_firstWayWith_4 : decode cX3_firstWayWith 4 = .ok (.iload_n 1, 1) := by decide +kernel
theorem dX3_firstWayWith_5 : decode cX3_firstWayWith 5 = .ok (.iaload, 1) := by decide +kernel
theorem dX3_firstWayWith_6 : decode cX3_firstWayWith 6 = .ok (.istore_n 3, 1) := by decide +kernel
theorem dX3_firstWayWith_7 : decode cX3_firstWayWith 7 = .ok (.iload_n 3, 1) := by decide +kernel
theorem dX3_firstWayWith_8 : decode cX3_firstWayWith 8 = .ok (.aload_n 0, 1) := by decide +kernel
theorem dX3_firstWayWith_9 : decode cX3_firstWayWith 9 = .ok (.getfield 34, 3) := by decide +kernel
theorem dX3_firstWayWith_12 : decode cX3_firstWayWith 12 = .ok (.iload_n 1, 1) := by decide +kernel
theorem dX3_firstWayWith_13 : decode cX3_firstWayWith 13 = .ok (.iconst 1, 1) := by decide +kernel
theorem dX3_firstWayWith_14 : decode cX3_firstWayWith 14 = .ok (.iadd, 1) := by decide +kernel
theorem dX3_firstWayWith_15 : decode cX3_firstWayWith 15 = .ok (.iaload, 1) := by decide +kernel
theorem dX3_firstWayWith_16 : decode cX3_firstWayWith 16 = .ok (.if_icmp .ge 71, 3) := by decide +kernel
theorem dX3_firstWayWith_19 : decode cX3_firstWayWith 19 = .ok (.iload_n 1, 1) := by decide +kernel
theorem dX3_firstWayWith_20 : decode cX3_firstWayWith 20 = .ok (.ifCond .ne 15, 3) := by decide +kernel
theorem dX3_firstWayWith_23 : decode cX3_firstWayWith 23 = .ok (.aload_n 0, 1) := by decide +kernel
theorem dX3_firstWayWith_24 : decode cX3_firstWayWith 24 = .ok (.getfield 52, 3) := by decide +kernel
theorem dX3_firstWayWith_27 : decode cX3_firstWayWith 27 = .ok (.iload_n 3, 1) := by decide +kernel
theorem dX3_firstWayWith_28 : decode cX3_firstWayWith 28 = .ok (.iaload, 1) := by decide +kernel
theorem dX3_firstWayWith_29 : decode cX3_firstWayWith 29 = .ok (.iload_n 2, 1) := by decide +kernel
theorem dX3_firstWayWith_30 : decode cX3_firstWayWith 30 = .ok (.if_icmp .ne 5, 3) := by decide +kernel
theorem dX3_firstWayWith_33 : decode cX3_firstWayWith 33 = .ok (.iload_n 3, 1) := by decide +kernel
theorem dX3_firstWayWith_34 : decode cX3_firstWayWith 34 = .ok (.ireturn, 1) := by decide +kernel
theorem dX3_firstWayWith_35 : decode cX3_firstWayWith 35 = .ok (.iload_n 1, 1) := by decide +kernel
theorem dX3_firstWayWith_36 : decode cX3_firstWayWith 36 = .ok (.ifCond .le 45, 3) := by decide +kernel
theorem dX3_firstWayWith_39 : decode cX3_firstWayWith 39 = .ok (.aload_n 0, 1) := by decide +kernel
theorem dX3_firstWayWith_40 : decode cX3_firstWayWith 40 = .ok (.iload_n 1, 1) := by decide +kernel
theorem dX3_firstWayWith_41 : decode cX3_firstWayWith 41 = .ok (.iconst 1, 1) := by decide +kernel
theorem dX3_firstWayWith_42 : decode cX3_firstWayWith 42 = .ok (.isub, 1) := by decide +kernel
theorem dX3_firstWayWith_43 : decode cX3_firstWayWith 43 = .ok (.aload_n 0, 1) := by decide +kernel
theorem dX3_firstWayWith_44 : decode cX3_firstWayWith 44 = .ok (.getfield 37, 3) := by decide +kernel
theorem dX3_firstWayWith_47 : decode cX3_firstWayWith 47 = .ok (.iload_n 1, 1) := by decide +kernel
theorem dX3_firstWayWith_48 : decode cX3_firstWayWith 48 = .ok (.iconst 1, 1) := by decide +kernel
theorem dX3_firstWayWith_49 : decode cX3_firstWayWith 49 = .ok (.isub, 1) := by decide +kernel
theorem dX3_firstWayWith_50 : decode cX3_firstWayWith 50 = .ok (.iaload, 1) := by decide +kernel
theorem dX3_firstWayWith_51 : decode cX3_firstWayWith 51 = .ok (.iload_n 3, 1) := by decide +kernel
theorem dX3_firstWayWith_52 : decode cX3_firstWayWith 52 = .ok (.invokevirtual 132, 3) := by decide +kernel
theorem dX3_firstWayWith_55 : decode cX3_firstWayWith 55 = .ok (.ifCond .eq 26, 3) := by decide +kernel
theorem dX3_firstWayWith_58 : decode cX3_firstWayWith 58 = .ok (.aload_n 0, 1) := by decide +kernel
theorem dX3_firstWayWith_59 : decode cX3_firstWayWith 59 = .ok (.iload_n 1, 1) := by decide +kernel
theorem dX3_firstWayWith_60 : decode cX3_firstWayWith 60 = .ok (.iconst 1, 1) := by decide +kernel
theorem dX3_firstWayWith_61 : decode cX3_firstWayWith 61 = .ok (.isub, 1) := by decide +kernel
theorem dX3_firstWayWith_62 : decode cX3_firstWayWith 62 = .ok (.aload_n 0, 1) := by decide +kernel
theorem dX3_firstWayWith_63 : decode cX3_firstWayWith 63 = .ok (.getfield 37, 3) := by decide +kernel
theorem dX3_firstWayWith_66 : decode cX3_firstWayWith 66 = .ok (.iload_n 1, 1) := by decide +kernel
theorem dX3_firstWayWith_67 : decode cX3_firstWayWith 67 = .ok (.iconst 1, 1) := by decide +kernel
theorem dX3_firstWayWith_68 : decode cX3_firstWayWith 68 = .ok (.isub, 1) := by decide +kernel
theorem dX3_firstWayWith_69 : decode cX3_firstWayWith 69 = .ok (.iaload, 1) := by decide +kernel
theorem dX3_firstWayWith_70 : decode cX3_firstWayWith 70 = .ok (.iload_n 3, 1) := by decide +kernel
theorem dX3_firstWayWith_71 : decode cX3_firstWayWith 71 = .ok (.iconst 0, 1) := by decide +kernel
theorem dX3_firstWayWith_72 : decode cX3_firstWayWith 72 = .ok (.invokevirtual 136, 3) := by decide +kernel
theorem dX3_firstWayWith_75 : decode cX3_firstWayWith 75 = .ok (.iload_n 2, 1) := by decide +kernel
theorem dX3_firstWayWith_76 : decode cX3_firstWayWith 76 = .ok (.if_icmp .ne 5, 3) := by decide +kernel
theorem dX3_firstWayWith_79 : decode cX3_firstWayWith 79 = .ok (.iload_n 3, 1) := by decide +kernel
theorem dX3_firstWayWith_80 : decode cX3_firstWayWith 80 = .ok (.ireturn, 1) := by decide +kernel
theorem dX3_firstWayWith_81 : decode cX3_firstWayWith 81 = .ok (.iinc 3 1, 3) := by decide +kernel
theorem dX3_firstWayWith_84 : decode cX3_firstWayWith 84 = .ok (.goto (-77), 3) := by decide +kernel
theorem dX3_firstWayWith_87 : decode cX3_firstWayWith 87 = .ok (.aload_n 0, 1) := by decide +kernel
theorem dX3_firstWayWith_88 : decode cX3_firstWayWith 88 = .ok (.getfield 34, 3) := by decide +kernel
theorem dX3_firstWayWith_91 : decode cX3_firstWayWith 91 = .ok (.iload_n 1, 1) := by decide +kernel
theorem dX3_firstWayWith_92 : decode cX3_firstWayWith 92 = .ok (.iaload, 1) := by decide +kernel
theorem dX3_firstWayWith_93 : decode cX3_firstWayWith 93 = .ok (.sipush 1407, 3) := by decide +kernel
theorem dX3_firstWayWith_96 : decode cX3_firstWayWith 96 = .ok (.invokestatic 139, 3) := by decide +kernel
theorem dX3_firstWayWith_99 : decode cX3_firstWayWith 99 = .ok (.ireturn, 1) := by decide +kernel
set_option maxHeartbeats 4000000 in
set_option maxRecDepth 100000 in
theorem m_X3_firstWayWith (l : Launch) (D : va_G) (cy : Nat → ClassId) (g : Nat → Nat) (σ : ST) (p1 : Int32) (p2 : Int32) (sz : Nat) (hJ : J8 σ) (h0 : (0 : Int) ≤ p1.toInt ∧ p1.toInt ≤ 15) : Met l yX3_firstWayWith (ww yX3_firstWayWith cX3_firstWayWith 4 (some .int)) ({ frames := 3, cells := 0, slots := 0, locals := 192 }) (va_Pc [.ref (gO g 13), .int p1, .int p2] (pr8 D cy g σ sz)) (qi8 D cy g sz (fun r τ => τ = σ ∧ ((0 : Int) ≤ r.toInt ∧ r.toInt ≤ 1407) ∧ True)) 0 0 (A8 cy g sz) := by
  refine Met.ofW (cc := cX3_firstWayWith) (maxL := 4) (ret := (some .int)) (by decide) rfl ?_
  intro p e s m args below meth c s₁ B hml hv
  obtain ⟨rfl, hsz, hP, hK, hD0, hC⟩ := hv
  have hx := B.exec
  have hb := B.bytes
  have hr := B.returns
  have hts := hts_g (atoms_spec (ws := ww yX3_firstWayWith cX3_firstWayWith 4 (some .int)) B.pre)
  have hown : s.vm.findClass RX3 = some m.cls := findClass_of_methodNamed B.named
  have hlocks := B.notSynchronized
  clear B
  subst hsz
  have hD := fun τ => A8_D (sz := s.heap.size) hD0 τ
  clear hD0
  have hS : va_S (A8 cy g s.heap.size) s.heap s.heap [] := va_S.rf
  have hl := lv_entry ([.ref (gO g 13), .int p1, .int p2]) (n := 4) (Nat.le_of_ble_eq_true rfl)
  rw [lg_entry_eq]
  generalize (lg_sl ([.ref (gO g 13), .int p1, .int p2]) ++ List.replicate (4 - (lg_sl ([.ref (gO g 13), .int p1, .int p2])).length) Slot.unset).toArray = ls at hl ⊢
  have hl : lv_has ls 4 [(0, .ref (gO g 13)), (1, .int p1), (2, .int p2)] := hl
  refine lv_aload_n hx hb dX3_firstWayWith_0 rfl (lv_at hl 0 rfl) ?_
  refine g8_3_12 hx hb hts hown hK hP (hts _ q297) dX3_firstWayWith_1 ?_
  refine lv_iload_n hx hb dX3_firstWayWith_4 rfl (lv_at hl 1 rfl) ?_
  obtain ⟨x1, ex1⟩ : ∃ z, (σ 13).2.2.1 12 p1.toInt.toNat = z := ⟨_, rfl⟩
  refine l8_3_12 (x := x1) hx hb hK hP (vpo (by have f0 := h0; have g0 := rg32 p1; omega)) ex1 dX3_firstWayWith_5 ?_
  have t2 := a8_3_12 hJ ex1
  refine lv_istore_n (lv' := [(3, .int x1), (0, .ref (gO g 13)), (1, .int p1), (2, .int p2)]) hx hb dX3_firstWayWith_6 rfl hl (by decide) rfl (fun ls hl => ?_)
  refine loop8 4 7 (fun x : LZ => [(3, .int (x.2.1 0)), (0, .ref (gO g 13)), (1, .int p1), (2, .int p2)]) (fun x : LZ => (x.1 = σ) ∧ ((0 : Int) ≤ (x.2.1 0).toInt ∧ (x.2.1 0).toInt ≤ 1408) ∧ True) (fun x : LZ => ((1409 : Int) - (x.2.1 0).toInt).toNat) ?_ (σ, lf [x1], lg []) ⟨rfl, (show (0 : Int) ≤ (x1 : Int32).toInt ∧ (x1 : Int32).toInt ≤ 1408 from (by have f0 := t2; have g0 := rg32 x1; omega)), trivial⟩ _ _ _ hP hS (lv_sub hl [0, 1, 2, 3] rfl)
  intro y5 hI4 nl3 H locs ls hP hS hl
  rw [show y5.1 = σ from hI4.1] at hP
  have b6 : (0 : Int) ≤ (y5.2.1 0).toInt ∧ (y5.2.1 0).toInt ≤ 1408 := hI4.2.1
  have hl : lv_has ls 4 [(3, .int (y5.2.1 0)), (0, .ref (gO g 13)), (1, .int p1), (2, .int p2)] := hl
  refine lv_iload_n hx hb dX3_firstWayWith_7 rfl (lv_at hl 0 rfl) ?_
  refine lv_aload_n hx hb dX3_firstWayWith_8 rfl (lv_at hl 1 rfl) ?_
  refine g8_3_12 hx hb hts hown hK hP (hts _ q297) dX3_firstWayWith_9 ?_
  refine lv_iload_n hx hb dX3_firstWayWith_12 rfl (lv_at hl 2 rfl) ?_
  refine lv_iconst (v := 1) hx hb dX3_firstWayWith_13 (by decide) ?_
  refine lv_iadd hx hb dX3_firstWayWith_14 ?_
  refine lv_topi (fun x7 ex7 => ?_)
  have t8 := addO ex7 (by have f0 := h0; have g0 := rg32 p1; have z1 : (1 : Int32).toInt = 1 := (by decide); omega)
  obtain ⟨x9, ex9⟩ : ∃ z, (σ 13).2.2.1 12 x7.toInt.toNat = z := ⟨_, rfl⟩
  refine l8_3_12 (x := x9) hx hb hK hP (vpo (by have f0 := t8; have f1 := h0; have g0 := rg32 x7; have z1 : (1 : Int32).toInt = 1 := (by decide); omega)) ex9 dX3_firstWayWith_15 ?_
  have t10 := a8_3_12 hJ ex9
  refine lv_icmp_ge (tgt := 87) hx hb dX3_firstWayWith_16 (by decide) (fun c11 => ?_) (fun c11 => ?_)
  ·
    have k12 := ple32 c11
    refine lv_aload_n hx hb dX3_firstWayWith_87 rfl (lv_at hl 1 rfl) ?_
    refine g8_3_12 hx hb hts hown hK hP (hts _ q297) dX3_firstWayWith_88 ?_
    refine lv_iload_n hx hb dX3_firstWayWith_91 rfl (lv_at hl 2 rfl) ?_
    refine l8_3_12 (x := x1) hx hb hK hP (vpo (by have f0 := h0; have f1 := t8; have g0 := rg32 p1; have z1 : (1 : Int32).toInt = 1 := (by decide); omega)) ex1 dX3_firstWayWith_92 ?_
    refine lv_sipush (v := 1407) hx hb dX3_firstWayWith_93 (by decide) ?_
    refine va_mmin hx hb (hml.trans hl.1.symm) hown (hts _ q979) (hts _ q512) (hts _ q135) (hts _ q513) (Nat.le_of_ble_eq_true rfl) (Nat.le_of_ble_eq_true rfl) (Nat.le_refl _) (Nat.le_refl _) dX3_firstWayWith_96 ?_
    refine lv_topi (fun x13 ex13 => ?_)
    have t14 := minO ex13
    exact W.iret (v := x13) hx hb hr (fun tS ht hW => ⟨⟨x13, σ, rfl, ⟨rfl, (show (0 : Int) ≤ x13.toInt ∧ x13.toInt ≤ 1407 from (by have f0 := t14; have f1 := t2; have g0 := rg32 x13; have z1407 : (1407 : Int32).toInt = 1407 := (by decide); omega)), trivial⟩, (show va_P D clz (WD8 cy g σ) tS.heap by rw [ht]; exact hP)⟩, hS.F ht⟩) hS.2.2 dX3_firstWayWith_99
  ·
    have k15 := nle32 c11
    refine lv_iload_n hx hb dX3_firstWayWith_19 rfl (lv_at hl 2 rfl) ?_
    refine cut8 (D := D) (cy := cy) (g := g) (A := A8 cy g s.heap.size) (H0 := s.heap) 4 35 (fun x : LZ => [(3, .int (y5.2.1 0)), (0, .ref (gO g 13)), (1, .int p1), (2, .int p2)]) (fun x : LZ => []) (fun x : LZ => (x.1 = σ) ∧ True) ?_ ?_
    ·
      intro y18 hI17 H locs ls hP hS hl
      rw [show y18.1 = σ from hI17.1] at hP
      have hl : lv_has ls 4 [(3, .int (y5.2.1 0)), (0, .ref (gO g 13)), (1, .int p1), (2, .int p2)] := hl
      refine lv_iload_n hx hb dX3_firstWayWith_35 rfl (lv_at hl 2 rfl) ?_
      refine cut8 (D := D) (cy := cy) (g := g) (A := A8 cy g s.heap.size) (H0 := s.heap) 4 81 (fun x : LZ => [(3, .int (y5.2.1 0)), (0, .ref (gO g 13)), (1, .int p1), (2, .int p2)]) (fun x : LZ => []) (fun x : LZ => (x.1 = σ) ∧ True) ?_ ?_
      ·
        intro y21 hI20 H locs ls hP hS hl
        rw [show y21.1 = σ from hI20.1] at hP
        have hl : lv_has ls 4 [(3, .int (y5.2.1 0)), (0, .ref (gO g 13)), (1, .int p1), (2, .int p2)] := hl
        obtain ⟨x22, ex22⟩ : ∃ y : Int32, y = (y5.2.1 0) + 1 := ⟨_, rfl⟩
        have t23 := addO ex22 (by have f0 := b6; have f1 := k15; have f2 := t10; have g0 := rg32 (y5.2.1 0); have z1 : (1 : Int32).toInt = 1 := (by decide); omega)
        refine lv_iinc (v := x22) (lv' := [(3, .int x22), (0, .ref (gO g 13)), (1, .int p1), (2, .int p2)]) hx hb dX3_firstWayWith_81 hl (k := 0) rfl (by rw [ex22]; rfl) (by decide) rfl (fun ls hl => ?_)
        refine lv_goto (tgt := 7) hx hb dX3_firstWayWith_84 (by decide) ?_
        have t24 : ((1409 : Int) - x22.toInt).toNat < ((1409 : Int) - (y5.2.1 0).toInt).toNat := (by have f0 := b6; have f1 := k15; have f2 := t23; have f3 := t10; have g0 := rg32 (y5.2.1 0); have g1 := rg32 x22; have z1 : (1 : Int32).toInt = 1 := (by decide); omega)
        exact nl3 (σ, lf [x22], lg []) ⟨rfl, (show (0 : Int) ≤ (x22 : Int32).toInt ∧ (x22 : Int32).toInt ≤ 1408 from (by have f0 := t23; have f1 := b6; have f2 := k15; have f3 := t10; have g0 := rg32 x22; have z1 : (1 : Int32).toInt = 1 := (by decide); omega)), trivial⟩ (show ((1409 : Int) - x22.toInt).toNat < _ from t24) _ _ _ hP hS (lv_sub hl [0, 1, 2, 3] rfl)
      ·
        intro nj19
        refine lv_if_le (tgt := 81) hx hb dX3_firstWayWith_36 (by decide) (fun c25 => ?_) (fun c25 => ?_)
        ·
          have k26 := ple32 c25
          exact nj19 (σ, lf [], lg []) ⟨rfl, trivial⟩ _ _ _ hP hS (lv_sub hl [0, 1, 2, 3] rfl)
        ·
          have k27 := nle32 c25
          refine lv_aload_n hx hb dX3_firstWayWith_39 rfl (lv_at hl 1 rfl) ?_
          refine lv_iload_n hx hb dX3_firstWayWith_40 rfl (lv_at hl 2 rfl) ?_
          refine lv_iconst (v := 1) hx hb dX3_firstWayWith_41 (by decide) ?_
          refine lv_isub hx hb dX3_firstWayWith_42 ?_
          refine lv_topi (fun x28 ex28 => ?_)
          have t29 := subO ex28 (by have f0 := h0; have f1 := t8; have f2 := k27; have g0 := rg32 p1; have z0 : (0 : Int32).toInt = 0 := (by decide); have z1 : (1 : Int32).toInt = 1 := (by decide); omega)
          refine lv_aload_n hx hb dX3_firstWayWith_43 rfl (lv_at hl 1 rfl) ?_
          refine g8_3_13 hx hb hts hown hK hP (hts _ q298) dX3_firstWayWith_44 ?_
          refine lv_iload_n hx hb dX3_firstWayWith_47 rfl (lv_at hl 2 rfl) ?_
          refine lv_iconst (v := 1) hx hb dX3_firstWayWith_48 (by decide) ?_
          refine lv_isub hx hb dX3_firstWayWith_49 ?_
          refine lv_topi (fun x30 ex30 => ?_)
          have t31 := subO ex30 (by have f0 := h0; have f1 := t8; have f2 := k27; have f3 := t29; have g0 := rg32 p1; have z0 : (0 : Int32).toInt = 0 := (by decide); have z1 : (1 : Int32).toInt = 1 := (by decide); omega)
          obtain ⟨x32, ex32⟩ : ∃ z, (σ 13).2.2.1 13 x30.toInt.toNat = z := ⟨_, rfl⟩
          refine l8_3_13 (x := x32) hx hb hK hP (vpo (by have f0 := t31; have f1 := h0; have f2 := t8; have f3 := k27; have f4 := t29; have g0 := rg32 x30; have z0 : (0 : Int32).toInt = 0 := (by decide); have z1 : (1 : Int32).toInt = 1 := (by decide); omega)) ex32 dX3_firstWayWith_50 ?_
          have t33 := a8_3_13 hJ ex32
          refine lv_iload_n hx hb dX3_firstWayWith_51 rfl (lv_at hl 0 rfl) ?_
          refine va_calli (va_runV (As := [.int x28, .int x32, .int (y5.2.1 0)]) (rest := []) ⟨hx, hb, hml, hown, hts⟩ (m_X3_goes l D cy g σ  x28 x32 (y5.2.1 0) _ hJ (show (0 : Int) ≤ x28.toInt ∧ x28.toInt ≤ 14 from (by have f0 := t29; have f1 := h0; have f2 := t8; have f3 := k27; have f4 := t31; have g0 := rg32 x28; have z0 : (0 : Int32).toInt = 0 := (by decide); have z1 : (1 : Int32).toInt = 1 := (by decide); omega)) (show (0 : Int) ≤ x32.toInt ∧ x32.toInt ≤ 1407 from (by have f0 := t29; have f1 := t33; have f2 := h0; have f3 := t8; have f4 := k27; have f5 := t31; have g0 := rg32 x28; have g1 := rg32 x32; have z0 : (0 : Int32).toInt = 0 := (by decide); have z1 : (1 : Int32).toInt = 1 := (by decide); omega)) (show (0 : Int) ≤ (y5.2.1 0).toInt ∧ (y5.2.1 0).toInt ≤ 1407 from (by have f0 := b6; have f1 := k15; have f2 := t29; have f3 := t33; have f4 := h0; have f5 := t8; have f6 := t10; have f7 := k27; have f8 := t31; have g0 := rg32 (y5.2.1 0); have g1 := rg32 x28; have g2 := rg32 x32; have z0 : (0 : Int32).toInt = 0 := (by decide); have z1 : (1 : Int32).toInt = 1 := (by decide); omega))) (cwV 3 hts (gd_V q959 q961 q24 q129 q962) rfl rfl rfl (by decide +kernel) ⟨(Nat.le_of_ble_eq_true rfl), (Nat.le_of_ble_eq_true rfl)⟩) (pv8 hP hK hD hC hS (rv8_3 hK hP)) rfl rfl hl.1 rfl (lv_room (Nat.le_of_ble_eq_true rfl)) dX3_firstWayWith_52 ⟨Nat.le_of_ble_eq_true rfl, Nat.le_of_ble_eq_true rfl⟩) hS (fun q _ h => up8 hS q h) (up8 hS) (fun r34 σ35 tS H1 locs ht hvm hw36 hB hz1 hk1 hS => ?_)
          have hP : va_P D clz (WD8 cy g σ35) H1 := by rw [← ht]; exact hB
          clear hB hz1 hk1 hvm ht
          generalize H1 = H at hP hS ⊢
          have hw36E : σ = σ35 := (hw36.1).symm
          subst hw36E
          have b37 : (0 : Int) ≤ r34.toInt ∧ r34.toInt ≤ 1 := hw36.2.1
          refine lv_if_eq (tgt := 81) hx hb dX3_firstWayWith_55 (by decide) (fun c38 => ?_) (fun c38 => ?_)
          ·
            have k39 := peq32 c38
            exact nj19 (σ, lf [], lg []) ⟨rfl, trivial⟩ _ _ _ hP hS (lv_sub hl [0, 1, 2, 3] rfl)
          ·
            have k40 := neq32 c38
            refine lv_aload_n hx hb dX3_firstWayWith_58 rfl (lv_at hl 1 rfl) ?_
            refine lv_iload_n hx hb dX3_firstWayWith_59 rfl (lv_at hl 2 rfl) ?_
            refine lv_iconst (v := 1) hx hb dX3_firstWayWith_60 (by decide) ?_
            refine lv_isub hx hb dX3_firstWayWith_61 ?_
            refine lv_topi (fun x41 ex41 => ?_)
            have t42 := subO ex41 (by have f0 := h0; have f1 := t8; have f2 := k27; have f3 := t29; have f4 := t31; have g0 := rg32 p1; have z0 : (0 : Int32).toInt = 0 := (by decide); have z1 : (1 : Int32).toInt = 1 := (by decide); omega)
            refine lv_aload_n hx hb dX3_firstWayWith_62 rfl (lv_at hl 1 rfl) ?_
            refine g8_3_13 hx hb hts hown hK hP (hts _ q298) dX3_firstWayWith_63 ?_
            refine lv_iload_n hx hb dX3_firstWayWith_66 rfl (lv_at hl 2 rfl) ?_
            refine lv_iconst (v := 1) hx hb dX3_firstWayWith_67 (by decide) ?_
            refine lv_isub hx hb dX3_firstWayWith_68 ?_
            refine lv_topi (fun x43 ex43 => ?_)
            have t44 := subO ex43 (by have f0 := h0; have f1 := t8; have f2 := k27; have f3 := t29; have f4 := t31; have f5 := t42; have g0 := rg32 p1; have z0 : (0 : Int32).toInt = 0 := (by decide); have z1 : (1 : Int32).toInt = 1 := (by decide); omega)
            obtain ⟨x45, ex45⟩ : ∃ z, (σ 13).2.2.1 13 x43.toInt.toNat = z := ⟨_, rfl⟩
            refine l8_3_13 (x := x45) hx hb hK hP (vpo (by have f0 := t44; have f1 := h0; have f2 := t8; have f3 := k27; have f4 := t29; have f5 := t31; have f6 := t42; have g0 := rg32 x43; have z0 : (0 : Int32).toInt = 0 := (by decide); have z1 : (1 : Int32).toInt = 1 := (by decide); omega)) ex45 dX3_firstWayWith_69 ?_
            have t46 := a8_3_13 hJ ex45
            refine lv_iload_n hx hb dX3_firstWayWith_70 rfl (lv_at hl 0 rfl) ?_
            refine lv_iconst (v := 0) hx hb dX3_firstWayWith_71 (by decide) ?_
            refine va_calli (va_runV (As := [.int x41, .int x45, .int (y5.2.1 0), .int 0]) (rest := []) ⟨hx, hb, hml, hown, hts⟩ (m_X3_through l D cy g σ  x41 x45 (y5.2.1 0) (0) _ hJ (show (0 : Int) ≤ x41.toInt ∧ x41.toInt ≤ 14 from (by have f0 := t42; have f1 := h0; have f2 := t8; have f3 := k27; have f4 := t29; have f5 := t31; have f6 := t44; have g0 := rg32 x41; have z0 : (0 : Int32).toInt = 0 := (by decide); have z1 : (1 : Int32).toInt = 1 := (by decide); omega)) (show (0 : Int) ≤ x45.toInt ∧ x45.toInt ≤ 1407 from (by have f0 := t42; have f1 := t46; have f2 := h0; have f3 := t8; have f4 := k27; have f5 := t29; have f6 := t31; have f7 := t44; have g0 := rg32 x41; have g1 := rg32 x45; have z0 : (0 : Int32).toInt = 0 := (by decide); have z1 : (1 : Int32).toInt = 1 := (by decide); omega)) (show (0 : Int) ≤ (y5.2.1 0).toInt ∧ (y5.2.1 0).toInt ≤ 1407 from (by have f0 := b6; have f1 := k15; have f2 := t42; have f3 := t46; have f4 := h0; have f5 := t8; have f6 := t10; have f7 := k27; have f8 := t29; have f9 := t31; have f10 := t44; have g0 := rg32 (y5.2.1 0); have g1 := rg32 x41; have g2 := rg32 x45; have z0 : (0 : Int32).toInt = 0 := (by decide); have z1 : (1 : Int32).toInt = 1 := (by decide); omega)) (show (0 : Int) ≤ (0 : Int32).toInt ∧ (0 : Int32).toInt ≤ 3 from (by have f0 := b6; have f1 := k15; have f2 := t42; have f3 := t46; have f4 := h0; have f5 := t8; have f6 := t10; have f7 := k27; have f8 := t29; have f9 := t31; have f10 := t44; have g0 := rg32 (y5.2.1 0); have g1 := rg32 x41; have g2 := rg32 x45; have z0 : (0 : Int32).toInt = 0 := (by decide); have z1 : (1 : Int32).toInt = 1 := (by decide); omega))) (cwV 4 hts (gd_V q972 q974 q26 q129 q975) rfl rfl rfl (by decide +kernel) ⟨(Nat.le_of_ble_eq_true rfl), (Nat.le_of_ble_eq_true rfl)⟩) (pv8 hP hK hD hC hS (rv8_3 hK hP)) rfl rfl hl.1 rfl (lv_room (Nat.le_of_ble_eq_true rfl)) dX3_firstWayWith_72 ⟨Nat.le_of_ble_eq_true rfl, Nat.le_of_ble_eq_true rfl⟩) hS (fun q _ h => up8 hS q h) (up8 hS) (fun r47 σ48 tS H1 locs ht hvm hw49 hB hz1 hk1 hS => ?_)
            have hP : va_P D clz (WD8 cy g σ48) H1 := by rw [← ht]; exact hB
            clear hB hz1 hk1 hvm ht
            generalize H1 = H at hP hS ⊢
            have hw49E : σ = σ48 := (hw49.1).symm
            subst hw49E
            refine lv_iload_n hx hb dX3_firstWayWith_75 rfl (lv_at hl 3 rfl) ?_
            refine lv_icmp_ne (tgt := 81) hx hb dX3_firstWayWith_76 (by decide) (fun c50 => ?_) (fun c50 => ?_)
            ·
              have k51 := neq32 c50
              exact nj19 (σ, lf [], lg []) ⟨rfl, trivial⟩ _ _ _ hP hS (lv_sub hl [0, 1, 2, 3] rfl)
            ·
              have k52 := peq32 c50
              refine lv_iload_n hx hb dX3_firstWayWith_79 rfl (lv_at hl 0 rfl) ?_
              exact W.iret (v := (y5.2.1 0)) hx hb hr (fun tS ht hW => ⟨⟨(y5.2.1 0), σ, rfl, ⟨rfl, (show (0 : Int) ≤ (y5.2.1 0).toInt ∧ (y5.2.1 0).toInt ≤ 1407 from (by have f0 := b6; have f1 := k15; have f2 := t10; have g0 := rg32 (y5.2.1 0); omega)), trivial⟩, (show va_P D clz (WD8 cy g σ) tS.heap by rw [ht]; exact hP)⟩, hS.F ht⟩) hS.2.2 dX3_firstWayWith_80
    ·
      intro nj16
      refine lv_if_ne (tgt := 35) hx hb dX3_firstWayWith_20 (by decide) (fun c53 => ?_) (fun c53 => ?_)
      ·
        have k54 := neq32 c53
        exact nj16 (σ, lf [], lg []) ⟨rfl, trivial⟩ _ _ _ hP hS (lv_sub hl [0, 1, 2, 3] rfl)
      ·
        have k55 := peq32 c53
        refine lv_aload_n hx hb dX3_firstWayWith_23 rfl (lv_at hl 1 rfl) ?_
        refine g8_3_18 hx hb hts hown hK hP (hts _ q303) dX3_firstWayWith_24 ?_
        refine lv_iload_n hx hb dX3_firstWayWith_27 rfl (lv_at hl 0 rfl) ?_
        obtain ⟨x56, ex56⟩ : ∃ z, (σ 13).2.2.1 18 (y5.2.1 0).toInt.toNat = z := ⟨_, rfl⟩
        refine l8_3_18 (x := x56) hx hb hK hP (vpo (by have f0 := b6; have f1 := k15; have f2 := t10; have g0 := rg32 (y5.2.1 0); omega)) ex56 dX3_firstWayWith_28 ?_
        refine lv_iload_n hx hb dX3_firstWayWith_29 rfl (lv_at hl 3 rfl) ?_
        refine lv_icmp_ne (tgt := 35) hx hb dX3_firstWayWith_30 (by decide) (fun c57 => ?_) (fun c57 => ?_)
        ·
          have k58 := neq32 c57
          exact nj16 (σ, lf [], lg []) ⟨rfl, trivial⟩ _ _ _ hP hS (lv_sub hl [0, 1, 2, 3] rfl)
        ·
          have k59 := peq32 c57
          refine lv_iload_n hx hb dX3_firstWayWith_33 rfl (lv_at hl 0 rfl) ?_
          exact W.iret (v := (y5.2.1 0)) hx hb hr (fun tS ht hW => ⟨⟨(y5.2.1 0), σ, rfl, ⟨rfl, (show (0 : Int) ≤ (y5.2.1 0).toInt ∧ (y5.2.1 0).toInt ≤ 1407 from (by have f0 := b6; have f1 := k15; have f2 := t10; have g0 := rg32 (y5.2.1 0); omega)), trivial⟩, (show va_P D clz (WD8 cy g σ) tS.heap by rw [ht]; exact hP)⟩, hS.F ht⟩) hS.2.2 dX3_firstWayWith_34

