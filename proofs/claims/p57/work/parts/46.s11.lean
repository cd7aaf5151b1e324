theorem q1015 : Cond.code yX8_slurs cX8_slurs 5 (some .int) ∈ lw_g := lw_gm (List.mem_of_getElem? (i := 1015) (by decide +kernel)) rfl
theorem q1016 : Cond.methodLink RX8 263 yX3_countSlurs ∈ lw_g := lw_gm (List.mem_of_getElem? (i := 1016) (by decide +kernel)) rfl
theorem q1017 : Cond.instanceMethod yX3_countSlurs ∈ lw_g := lw_gm (List.mem_of_getElem? (i := 1017) (by decide +kernel)) rfl
theorem q1018 : Cond.selects RX3 yX3_countSlurs yX3_countSlurs ∈ lw_g := lw_gm (List.mem_of_getElem? (i := 1018) (by decide +kernel)) rfl
theorem dX8_slurs_0 : decode cX8_slurs 0 = .ok (.iload_n 3, 1) := by decide +kernel
theorem dX8_slurs_1 : decode cX8_slurs 1 = .ok (.ifCond .lt 8, 3) := by decide +kernel
theorem dX8_slurs_4 : decode cX8_slurs 4 = .ok (.iload_n 3, 1) := by decide +kernel
theorem dX8_slurs_5 : decode cX8_slurs 5 = .ok (.iconst 2, 1) := by decide +kernel
theorem dX8_slurs_6 : decode cX8_slurs 6 = .ok (.if_icmp .le 6, 3) := by decide +kernel
theorem dX8_slurs_9 : decode cX8_slurs 9 = .ok (.bipush (-2), 2) := by decide +kernel
theorem dX8_slurs_11 : decode cX8_slurs 11 = .ok (.ireturn, 1) := by decide +kernel
theorem dX8_slurs_12 : decode cX8_slurs 12 = .ok (.aload_n 0, 1) := by decide +kernel
theorem dX8_slurs_13 : decode cX8_slurs 13 = .ok (.iload_n 1, 1) := by decide +kernel
theorem dX8_slurs_14 : decode cX8_slurs 14 = .ok (.iload_n 2, 1) := by decide +kernel
theorem dX8_slurs_15 : decode cX8_slurs 15 = .ok (.invokevirtual 248, 3) := by decide +kernel
theorem dX8_slurs_18 : decode cX8_slurs 18 = .ok (.istore 4, 2) := by decide +kernel
theorem dX8_slurs_20 : decode cX8_slurs 20 = .ok (.iload 4, 2) := by decide +kernel
theorem dX8_slurs_22 : decode cX8_slurs 22 = .ok (.ifCond .ne 14, 3) := by decide +kernel
theorem dX8_slurs_25 : decode cX8_slurs 25 = .ok (.aload_n 0, 1) := by decide +kernel
theorem dX8_slurs_26 : decode cX8_slurs 26 = .ok (.getfield 53, 3) := by decide +kernel
theorem dX8_slurs_29 : decode cX8_slurs 29 = .ok (.iload_n 3, 1) := by decide +kernel
theorem dX8_slurs_30 : decode cX8_slurs 30 = .ok (.invokevirtual 263, 3) := by decide +kernel
theorem dX8_slurs_33 : decode cX8_slurs 33 = .ok (.goto 5, 3) := by decide +kernel
theorem dX8_slurs_36 : decode cX8_slurs 36 = .ok (.iload 4, 2) := by decide +kernel
theorem dX8_slurs_38 : decode cX8_slurs 38 = .ok (.ireturn, 1) := by decide +kernel
set_option maxHeartbeats 4000000 in
set_option maxRecDepth 100000 in
theorem m_X8_slurs (l : Launch) (D : va_G) (cy : Nat → ClassId) (g : Nat → Nat) (σ : ST) (p1 : Int32) (p2 : Int32) (p3 : Int32) (sz : Nat) (hJ : J8 σ)  : Met l yX8_slurs (ww yX8_slurs cX8_slurs 5 (some .int)) ({ frames := 7, cells := 0, slots := 0, locals := 448 }) (va_Pc [.ref (gO g 17), .int p1, .int p2, .int p3] (pr8 D cy g σ sz)) (qi8 D cy g sz (fun r τ => Fr (fO [11, 13]) σ τ ∧ J8 τ ∧ True)) 0 0 (A8 cy g sz) := by
  refine Met.ofW (cc := cX8_slurs) (maxL := 5) (ret := (some .int)) (by decide) rfl ?_
  intro p e s m args below meth c s₁ B hml hv
  obtain ⟨rfl, hsz, hP, hK, hD0, hC⟩ := hv
  have hx := B.exec
  have hb := B.bytes
  have hr := B.returns
  have hts := hts_g (atoms_spec (ws := ww yX8_slurs cX8_slurs 5 (some .int)) B.pre)
  have hown : s.vm.findClass RX8 = some m.cls := findClass_of_methodNamed B.named
  have hlocks := B.notSynchronized
  clear B
  subst hsz
  have hD := fun τ => A8_D (sz := s.heap.size) hD0 τ
  clear hD0
  have hS : va_S (A8 cy g s.heap.size) s.heap s.heap [] := va_S.rf
  have hl := lv_entry ([.ref (gO g 17), .int p1, .int p2, .int p3]) (n := 5) (Nat.le_of_ble_eq_true rfl)
  rw [lg_entry_eq]
  generalize (lg_sl ([.ref (gO g 17), .int p1, .int p2, .int p3]) ++ List.replicate (5 - (lg_sl ([.ref (gO g 17), .int p1, .int p2, .int p3])).length) Slot.unset).toArray = ls at hl ⊢
  have hl : lv_has ls 5 [(0, .ref (gO g 17)), (1, .int p1), (2, .int p2), (3, .int p3)] := hl
  refine lv_iload_n hx hb dX8_slurs_0 rfl (lv_at hl 3 rfl) ?_
  refine lv_if_lt (tgt := 9) hx hb dX8_slurs_1 (by decide) (fun c1 => ?_) (fun c1 => ?_)
  ·
    have k2 := plt32 c1
    refine lv_bipush (v := (-2)) hx hb dX8_slurs_9 (by decide) ?_
    exact W.iret (v := (-2)) hx hb hr (fun tS ht hW => ⟨⟨(-2), σ, rfl, ⟨Fr.rf, hJ, trivial⟩, (show va_P D clz (WD8 cy g σ) tS.heap by rw [ht]; exact hP)⟩, hS.F ht⟩) hS.2.2 dX8_slurs_11
  ·
    have k3 := nlt32 c1
    refine lv_iload_n hx hb dX8_slurs_4 rfl (lv_at hl 3 rfl) ?_
    refine lv_iconst (v := 2) hx hb dX8_slurs_5 (by decide) ?_
    refine lv_icmp_le (tgt := 12) hx hb dX8_slurs_6 (by decide) (fun c4 => ?_) (fun c4 => ?_)
    ·
      have k5 := ple32 c4
      refine lv_aload_n hx hb dX8_slurs_12 rfl (lv_at hl 0 rfl) ?_
      refine lv_iload_n hx hb dX8_slurs_13 rfl (lv_at hl 1 rfl) ?_
      refine lv_iload_n hx hb dX8_slurs_14 rfl (lv_at hl 2 rfl) ?_
      refine va_calli (va_runV (As := [.int p1, .int p2]) (rest := []) ⟨hx, hb, hml, hown, hts⟩ (m_X8_layBest l D cy g σ  p1 p2 _ hJ ) (cwV 2 hts (gd_V q914 q916 q18 q125 q917) rfl rfl rfl (by decide +kernel) ⟨(Nat.le_of_ble_eq_true rfl), (Nat.le_of_ble_eq_true rfl)⟩) (pv8 hP hK hD hC hS (rv8_8 hK hP)) rfl rfl hl.1 rfl (lv_room (Nat.le_of_ble_eq_true rfl)) dX8_slurs_15 ⟨Nat.le_of_ble_eq_true rfl, Nat.le_of_ble_eq_true rfl⟩) hS (fun q _ h => up8 hS q h) (up8 hS) (fun r6 σ7 tS H1 locs ht hvm hw8 hB hz1 hk1 hS => ?_)
      have hP : va_P D clz (WD8 cy g σ7) H1 := by rw [← ht]; exact hB
      clear hB hz1 hk1 hvm ht
      generalize H1 = H at hP hS ⊢
      have hF9 : Fr (fO [11, 13]) σ σ7 := hw8.1
      have hJ10 : J8 σ7 := hw8.2.1
      have b11 : (-2 : Int) ≤ r6.toInt ∧ r6.toInt ≤ 0 := hw8.2.2.1
      refine lv_istore (lv' := [(4, .int r6), (0, .ref (gO g 17)), (1, .int p1), (2, .int p2), (3, .int p3)]) hx hb dX8_slurs_18 hl (by decide) rfl (fun ls hl => ?_)
      refine lv_iload hx hb dX8_slurs_20 (lv_at hl 0 rfl) ?_
      refine lv_if_ne (tgt := 36) hx hb dX8_slurs_22 (by decide) (fun c12 => ?_) (fun c12 => ?_)
      ·
        have k13 := neq32 c12
        refine lv_iload hx hb dX8_slurs_36 (lv_at hl 0 rfl) ?_
        exact W.iret (v := r6) hx hb hr (fun tS ht hW => ⟨⟨r6, σ7, rfl, ⟨Fr.tr (Fr.rf) hF9 (fO_sub (fun _ q => q)), hJ10, trivial⟩, (show va_P D clz (WD8 cy g σ7) tS.heap by rw [ht]; exact hP)⟩, hS.F ht⟩) hS.2.2 dX8_slurs_38
      ·
        have k14 := peq32 c12
        refine lv_aload_n hx hb dX8_slurs_25 rfl (lv_at hl 1 rfl) ?_
        refine g8_8_8 hx hb hts hown hK hP (hts _ q442) dX8_slurs_26 ?_
        refine lv_iload_n hx hb dX8_slurs_29 rfl (lv_at hl 4 rfl) ?_
        refine va_calli (va_runV (As := [.int p3]) (rest := []) ⟨hx, hb, hml, hown, hts⟩ (m_X3_countSlurs l D cy g σ7  p3 _ hJ10 (show (0 : Int) ≤ p3.toInt ∧ p3.toInt ≤ 2 from (by have f0 := k3; have f1 := k5; have g0 := rg32 p3; have z0 : (0 : Int32).toInt = 0 := (by decide); have z2 : (2 : Int32).toInt = 2 := (by decide); omega))) (cwV 1 hts (gd_V q1016 q1017 q1018 q129 q1019) rfl rfl rfl (by decide +kernel) ⟨(Nat.le_of_ble_eq_true rfl), (Nat.le_of_ble_eq_true rfl)⟩) (pv8 hP hK hD hC hS (rv8_3 hK hP)) rfl rfl hl.1 rfl (lv_room (Nat.le_of_ble_eq_true rfl)) dX8_slurs_30 ⟨Nat.le_of_ble_eq_true rfl, Nat.le_of_ble_eq_true rfl⟩) hS (fun q _ h => up8 hS q h) (up8 hS) (fun r15 σ16 tS H1 locs ht hvm hw17 hB hz1 hk1 hS => ?_)
        have hP : va_P D clz (WD8 cy g σ16) H1 := by rw [← ht]; exact hB
        clear hB hz1 hk1 hvm ht
        generalize H1 = H at hP hS ⊢
        have hw17E : σ7 = σ16 := (hw17.1).symm
        subst hw17E
        refine lv_goto (tgt := 38) hx hb dX8_slurs_33 (by decide) ?_
        exact W.iret (v := r15) hx hb hr (fun tS ht hW => ⟨⟨r15, σ7, rfl, ⟨Fr.tr (Fr.rf) hF9 (fO_sub (fun _ q => q)), hJ10, trivial⟩, (show va_P D clz (WD8 cy g σ7) tS.heap by rw [ht]; exact hP)⟩, hS.F ht⟩) hS.2.2 dX8_slurs_38
    ·
      have k18 := nle32 c4
      refine lv_bipush (v := (-2)) hx hb dX8_slurs_9 (by decide) ?_
      exact W.iret (v := (-2)) hx hb hr (fun tS ht hW => ⟨⟨(-2), σ, rfl, ⟨Fr.rf, hJ, trivial⟩, (show va_P D clz (WD8 cy g σ) tS.heap by rw [ht]; exact hP)⟩, hS.F ht⟩) hS.2.2 dX8_slurs_11

theorem q1031 : Cond.code yX3_comesTo cX3_comesTo 4 (some .boolean) ∈ lw_g := lw_gm (List.mem_of_getElem? (i := 1031) (by decide +kernel)) rfl
theorem q304 : Cond.fieldLink RX3 55 "LipsAndSlides$Plays" "live" "[I" ∈ lw_g := lw_gm (List.mem_of_getElem? (i := 304) (by decide +kernel)) rfl
theorem dX3_comesTo_0 : decode cX3_comesTo 0 = .ok (.iload_n 1, 1) := by decide +kernel
theorem dX3_comesTo_1 : decode cX3_comesTo 1 = .ok (.ifCond .ne 5, 3) := by decide +kernel
theorem dX3_comesTo_4 : decode cX3_comesTo 4 = .ok (.iconst 1, 1) := by decide +kernel
theorem dX3_comesTo_5 : decode cX3_comesTo 5 = .ok (.ireturn, 1) := by decide +kernel
theorem dX3_comesTo_6 : decode cX3_comesTo 6 = .ok (.aload_n 0, 1) := by decide +kernel
theorem dX3_comesTo_7 : decode cX3_comesTo 7 = .ok (.getfield 34, 3) := by decide +kernel
theorem dX3_comesTo_10 : decode cX3_comesTo 10 = .ok (.iload_n 1, 1) := by decide +kernel
theorem dX3_comesTo_11 : decode cX3_comesTo 11 = .ok (.iconst 1, 1) := by decide +kernel
theorem dX3_comesTo_12 : decode cX3_comesTo 12 = .ok (.isub, 1) := by decide +kernel
theorem dX3_comesTo_13 : decode cX3_comesTo 13 = .ok (.iaload, 1) := by decide +kernel
theorem dX3_comesTo_14 : decode cX3_comesTo 14 = .ok (.istore_n 3, 1) := by decide +kernel
theorem dX3_comesTo_15 : decode cX3_comesTo 15 = .ok (.iload_n 3, 1) := by decide +kernel
theorem dX3_comesTo_16 : decode cX3_comesTo 16 = .ok (.aload_n 0, 1) := by decide +kernel
theorem dX3_comesTo_17 : decode cX3_comesTo 17 = .ok (.getfield 34, 3) := by decide +kernel
theorem dX3_comesTo_20 : decode cX3_comesTo 20 = .ok (.iload_n 1, 1) := by decide +kernel
theorem dX3_comesTo_21 : decode cX3_comesTo 21 = .ok (.iaload, 1) := by decide +kernel
theorem dX3_comesTo_22 : decode cX3_comesTo 22 = .ok (.if_icmp .ge 33, 3) := by decide +kernel
theorem dX3_comesTo_25 : decode cX3_comesTo 25 = .ok (.aload_n 0, 1) := by decide +kernel
theorem dX3_comesTo_26 : decode cX3_comesTo 26 = .ok (.getfield 55, 3) := by decide +kernel
theorem dX3_comesTo_29 : decode cX3_comesTo 29 = .ok (.iload_n 3, 1) := by decide +kernel
theorem dX3_comesTo_30 : decode cX3_comesTo 30 = .ok (.iaload, 1) := by decide +kernel
theorem dX3_comesTo_31 : decode cX3_comesTo 31 = .ok (.iconst 1, 1) := by decide +kernel
theorem dX3_comesTo_32 : decode cX3_comesTo 32 = .ok (.if_icmp .ne 17, 3) := by decide +kernel
theorem dX3_comesTo_35 : decode cX3_comesTo 35 = .ok (.aload_n 0, 1) := by decide +kernel
theorem dX3_comesTo_36 : decode cX3_comesTo 36 = .ok (.iload_n 1, 1) := by decide +kernel
theorem dX3_comesTo_37 : decode cX3_comesTo 37 = .ok (.iconst 1, 1) := by decide +kernel
theorem dX3_comesTo_38 : decode cX3_comesTo 38 = .ok (.isub, 1) := by decide +kernel
theorem dX3_comesTo_39 : decode cX3_comesTo 39 = .ok (.iload_n 3, 1) := by decide +kernel
theorem dX3_comesTo_40 : decode cX3_comesTo 40 = .ok (.iload_n 2, 1) := by decide +kernel
theorem dX3_comesTo_41 : decode cX3_comesTo 41 = .ok (.invokevirtual 132, 3) := by decide +kernel
theorem dX3_comesTo_44 : decode cX3_comesTo 44 = .ok (.ifCond .eq 5, 3) := by decide +kernel
theorem dX3_comesTo_47 : decode cX3_comesTo 47 = .ok (.iconst 1, 1) := by decide +kernel
theorem dX3_comesTo_48 : decode cX3_comesTo 48 = .ok (.ireturn, 1) := by decide +kernel
theorem dX3_comesTo_49 : decode cX3_comesTo 49 = .ok (.iinc 3 1, 3) := by decide +kernel
theorem dX3_comesTo_52 : decode cX3_comesTo 52 = .ok (.goto (-37), 3) := by decide +kernel
theorem dX3_comesTo_55 : decode cX3_comesTo 55 = .ok (.iconst 0, 1) := by decide +kernel
theorem dX3_comesTo_56 : decode cX3_comesTo 56 = .ok (.ireturn, 1) := by decide +kernel
set_option maxHeartbeats 4000000 in
set_option maxRecDepth 100000 in
theorem m_X3_comesTo (l : Launch) (D : va_G) (cy : Nat → ClassId) (g : Nat → Nat) (σ : ST) (p1 : Int32) (p2 : Int32) (sz : Nat) (hJ : J8 σ) (h0 : (0 : Int) ≤ p1.toInt ∧ p1.toInt ≤ 15) (h1 : (0 : Int) ≤ p2.toInt ∧ p2.toInt ≤ 1407) : Met l yX3_comesTo (ww yX3_comesTo cX3_comesTo 4 (some .boolean)) ({ frames := 3, cells := 0, slots := 0, locals := 192 }) (va_Pc [.ref (gO g 13), .int p1, .int p2] (pr8 D cy g σ sz)) (qi8 D cy g sz (fun r τ => τ = σ ∧ ((0 : Int) ≤ r.toInt ∧ r.toInt ≤ 1) ∧ True)) 0 0 (A8 cy g sz) := by
  refine Met.ofW (cc := cX3_comesTo) (maxL := 4) (ret := (some .boolean)) (by decide) rfl ?_
  intro p e s m args below meth c s₁ B hml hv
  obtain ⟨rfl, hsz, hP, hK, hD0, hC⟩ := hv
  have hx := B.exec
  have hb := B.bytes
  have hr := B.returns
  have hts := hts_g (atoms_spec (ws := ww yX3_comesTo cX3_comesTo 4 (some .boolean)) B.pre)
  have hown : s.vm.findClass RX3 = some m.cls := findClass_of_methodNamed B.named
  have hlocks := B.notSynchronized
  clear B
  subst hsz
  have hD := fun τ => A8_D (sz := s.heap.size) hD0 τ
  clear hD0
  have hS : va_S (A8 cy g s.heap.size) s.heap s.heap [] := va_S.rf
  have hl := lv_entry ([.ref (gO g 13), .int p1, .int p2]) (n := 4) (Nat.le_of_ble_eq_true rfl)
  rw [lg_entry_eq]
  generalize (lg_sl ([.ref (gO g 13), .int p1, .int p2]) ++ List.replicate (4 - (lg_sl ([.ref (gO g 13), .int p1, .int p2])).length) Slot.unset).toArray = ls at hl ⊢
  have hl : lv_has ls 4 [(0, .ref (gO g 13)), (1, .int p1), (2, .int p2)] := hl
  refine lv_iload_n hx hb dX3_comesTo_0 rfl (lv_at hl 1 rfl) ?_
  refine lv_if_ne (tgt := 6) hx hb dX3_comesTo_1 (by decide) (fun c1 => ?_) (fun c1 => ?_)
  ·
    have k2 := neq32 c1
    refine lv_aload_n hx hb dX3_comesTo_6 rfl (lv_at hl 0 rfl) ?_
    refine g8_3_12 hx hb hts hown hK hP (hts _ q297) dX3_comesTo_7 ?_
    refine lv_iload_n hx hb dX3_comesTo_10 rfl (lv_at hl 1 rfl) ?_
    refine lv_iconst (v := 1) hx hb dX3_comesTo_11 (by decide) ?_
    refine lv_isub hx hb dX3_comesTo_12 ?_
    refine lv_topi (fun x3 ex3 => ?_)
    have t4 := subO ex3 (by have f0 := h0; have f1 := k2; have g0 := rg32 p1; have z0 : (0 : Int32).toInt = 0 := (by decide); have z1 : (1 : Int32).toInt = 1 := (by decide); omega)
    obtain ⟨x5, ex5⟩ : ∃ z, (σ 13).2.2.1 12 x3.toInt.toNat = z := ⟨_, rfl⟩
    refine l8_3_12 (x := x5) hx hb hK hP (vpo (by have f0 := t4; have f1 := h0; have f2 := k2; have g0 := rg32 x3; have z0 : (0 : Int32).toInt = 0 := (by decide); have z1 : (1 : Int32).toInt = 1 := (by decide); omega)) ex5 dX3_comesTo_13 ?_
    have t6 := a8_3_12 hJ ex5
    refine lv_istore_n (lv' := [(3, .int x5), (0, .ref (gO g 13)), (1, .int p1), (2, .int p2)]) hx hb dX3_comesTo_14 rfl hl (by decide) rfl (fun ls hl => ?_)
    refine loop8 4 15 (fun x : LZ => [(3, .int (x.2.1 0)), (0, .ref (gO g 13)), (1, .int p1), (2, .int p2)]) (fun x : LZ => (x.1 = σ) ∧ ((0 : Int) ≤ (x.2.1 0).toInt ∧ (x.2.1 0).toInt ≤ 1408) ∧ True) (fun x : LZ => ((1409 : Int) - (x.2.1 0).toInt).toNat) ?_ (σ, lf [x5], lg []) ⟨rfl, (show (0 : Int) ≤ (x5 : Int32).toInt ∧ (x5 : Int32).toInt ≤ 1408 from (by have f0 := t6; have g0 := rg32 x5; omega)), trivial⟩ _ _ _ hP hS (lv_sub hl [0, 1, 2, 3] rfl)
    intro y9 hI8 nl7 H locs ls hP hS hl
    rw [show y9.1 = σ from hI8.1] at hP
    have b10 : (0 : Int) ≤ (y9.2.1 0).toInt ∧ (y9.2.1 0).toInt ≤ 1408 := hI8.2.1
    have hl : lv_has ls 4 [(3, .int (y9.2.1 0)), (0, .ref (gO g 13)), (1, .int p1), (2, .int p2)] := hl
    refine lv_iload_n hx hb dX3_comesTo_15 rfl (lv_at hl 0 rfl) ?_
    refine lv_aload_n hx hb dX3_comesTo_16 rfl (lv_at hl 1 rfl) ?_
    refine g8_3_12 hx hb hts hown hK hP (hts _ q297) dX3_comesTo_17 ?_
    refine lv_iload_n hx hb dX3_comesTo_20 rfl (lv_at hl 2 rfl) ?_
    obtain ⟨x11, ex11⟩ : ∃ z, (σ 13).2.2.1 12 p1.toInt.toNat = z := ⟨_, rfl⟩
    refine l8_3_12 (x := x11) hx hb hK hP (vpo (by have f0 := h0; have f1 := k2; have f2 := t4; have g0 := rg32 p1; have z0 : (0 : Int32).toInt = 0 := (by decide); have z1 : (1 : Int32).toInt = 1 := (by decide); omega)) ex11 dX3_comesTo_21 ?_
    have t12 := a8_3_12 hJ ex11
    refine lv_icmp_ge (tgt := 55) hx hb dX3_comesTo_22 (by decide) (fun c13 => ?_) (fun c13 => ?_)
    ·
      have k14 := ple32 c13
      refine lv_iconst (v := 0) hx hb dX3_comesTo_55 (by decide) ?_
      exact W.zret (v := 0) hx hb hr rfl (fun tS ht hW => ⟨⟨0, σ, rfl, ⟨rfl, (show (0 : Int) ≤ (0 : Int32).toInt ∧ (0 : Int32).toInt ≤ 1 from (by have z0 : (0 : Int32).toInt = 0 := (by decide); omega)), trivial⟩, (show va_P D clz (WD8 cy g σ) tS.heap by rw [ht]; exact hP)⟩, hS.F ht⟩) hS.2.2 dX3_comesTo_56
    ·
      have k15 := nle32 c13
      refine lv_aload_n hx hb dX3_comesTo_25 rfl (lv_at hl 1 rfl) ?_
      refine g8_3_19 hx hb hts hown hK hP (hts _ q304) dX3_comesTo_26 ?_
      refine lv_iload_n hx hb dX3_comesTo_29 rfl (lv_at hl 0 rfl) ?_
      obtain ⟨x16, ex16⟩ : ∃ z, (σ 13).2.2.1 19 (y9.2.1 0).toInt.toNat = z := ⟨_, rfl⟩
      refine l8_3_19 (x := x16) hx hb hK hP (vpo (by have f0 := b10; have f1 := k15; have f2 := t12; have g0 := rg32 (y9.2.1 0); omega)) ex16 dX3_comesTo_30 ?_
      refine lv_iconst (v := 1) hx hb dX3_comesTo_31 (by decide) ?_
      refine cut8 (D := D) (cy := cy) (g := g) (A := A8 cy g s.heap.size) (H0 := s.heap) 4 49 (fun x : LZ => [(3, .int (y9.2.1 0)), (0, .ref (gO g 13)), (1, .int p1), (2, .int p2)]) (fun x : LZ => []) (fun x : LZ => (x.1 = σ) ∧ True) ?_ ?_
      ·
        intro y19 hI18 H locs ls hP hS hl
        rw [show y19.1 = σ from hI18.1] at hP
        have hl : lv_has ls 4 [(3, .int (y9.2.1 0)), (0, .ref (gO g 13)), (1, .int p1), (2, .int p2)] := hl
        obtain ⟨x20, ex20⟩ : ∃ y : Int32, y = (y9.2.1 0) + 1 := ⟨_, rfl⟩
        have t21 := addO ex20 (by have f0 := b10; have f1 := k15; have f2 := t12; have g0 := rg32 (y9.2.1 0); have z1 : (1 : Int32).toInt = 1 := (by decide); omega)
        refine lv_iinc (v := x20) (lv' := [(3, .int x20), (0, .ref (gO g 13)), (1, .int p1), (2, .int p2)]) hx hb dX3_comesTo_49 hl (k := 0) rfl (by rw [ex20]; rfl) (by decide) rfl (fun ls hl => ?_)
        refine lv_goto (tgt := 15) hx hb dX3_comesTo_52 (by decide) ?_
        have t22 : ((1409 : Int) - x20.toInt).toNat < ((1409 : Int) - (y9.2.1 0).toInt).toNat := (by have f0 := b10; have f1 := k15; have f2 := t21; have f3 := t12; have g0 := rg32 (y9.2.1 0); have g1 := rg32 x20; have z1 : (1 : Int32).toInt = 1 := (by decide); omega)
        exact nl7 (σ, lf [x20], lg []) ⟨rfl, (show (0 : Int) ≤ (x20 : Int32).toInt ∧ (x20 : Int32).toInt ≤ 1408 from (by have f0 := t21; have f1 := b10; have f2 := k15; have f3 := t12; have g0 := rg32 x20; have z1 : (1 : Int32).toInt = 1 := (by decide); omega)), trivial⟩ (show ((1409 : Int) - x20.toInt).toNat < _ from t22) _ _ _ hP hS (lv_sub hl [0, 1, 2, 3] rfl)
      ·
        intro nj17
        refine lv_icmp_ne (tgt := 49) hx hb dX3_comesTo_32 (by decide) (fun c23 => ?_) (fun c23 => ?_)
        ·
          have k24 := neq32 c23
          exact nj17 (σ, lf [], lg []) ⟨rfl, trivial⟩ _ _ _ hP hS (lv_sub hl [0, 1, 2, 3] rfl)
        ·
          have k25 := peq32 c23
          refine lv_aload_n hx hb dX3_comesTo_35 rfl (lv_at hl 1 rfl) ?_
          refine lv_iload_n hx hb dX3_comesTo_36 rfl (lv_at hl 2 rfl) ?_
          refine lv_iconst (v := 1) hx hb dX3_comesTo_37 (by decide) ?_
          refine lv_isub hx hb dX3_comesTo_38 ?_
          refine lv_topi (fun x26 ex26 => ?_)
          have t27 := subO ex26 (by have f0 := h0; have f1 := k2; have f2 := t4; have g0 := rg32 p1; have z0 : (0 : Int32).toInt = 0 := (by decide); have z1 : (1 : Int32).toInt = 1 := (by decide); omega)
          refine lv_iload_n hx hb dX3_comesTo_39 rfl (lv_at hl 0 rfl) ?_
          refine lv_iload_n hx hb dX3_comesTo_40 rfl (lv_at hl 3 rfl) ?_
          refine va_calli (va_runV (As := [.int x26, .int (y9.2.1 0), .int p2]) (rest := []) ⟨hx, hb, hml, hown, hts⟩ (m_X3_goes l D cy g σ  x26 (y9.2.1 0) p2 _ hJ (show (0 : Int) ≤ x26.toInt ∧ x26.toInt ≤ 14 from (by have f0 := t27; have f1 := h0; have f2 := k2; have f3 := t4; have g0 := rg32 x26; have z0 : (0 : Int32).toInt = 0 := (by decide); have z1 : (1 : Int32).toInt = 1 := (by decide); omega)) (show (0 : Int) ≤ (y9.2.1 0).toInt ∧ (y9.2.1 0).toInt ≤ 1407 from (by have f0 := b10; have f1 := k15; have f2 := t27; have f3 := h0; have f4 := k2; have f5 := t4; have f6 := t12; have g0 := rg32 (y9.2.1 0); have g1 := rg32 x26; have z0 : (0 : Int32).toInt = 0 := (by decide); have z1 : (1 : Int32).toInt = 1 := (by decide); omega)) (show (0 : Int) ≤ p2.toInt ∧ p2.toInt ≤ 1407 from (by have f0 := h1; have f1 := b10; have f2 := k15; have f3 := t27; have f4 := h0; have f5 := k2; have f6 := t4; have f7 := t12; have g0 := rg32 (y9.2.1 0); have g1 := rg32 p2; have g2 := rg32 x26; have z0 : (0 : Int32).toInt = 0 := (by decide); have z1 : (1 : Int32).toInt = 1 := (by decide); omega))) (cwV 3 hts (gd_V q959 q961 q24 q129 q962) rfl rfl rfl (by decide +kernel) ⟨(Nat.le_of_ble_eq_true rfl), (Nat.le_of_ble_eq_true rfl)⟩) (pv8 hP hK hD hC hS (rv8_3 hK hP)) rfl rfl hl.1 rfl (lv_room (Nat.le_of_ble_eq_true rfl)) dX3_comesTo_41 ⟨Nat.le_of_ble_eq_true rfl, Nat.le_of_ble_eq_true rfl⟩) hS (fun q _ h => up8 hS q h) (up8 hS) (fun r28 σ29 tS H1 locs ht hvm hw30 hB hz1 hk1 hS => ?_)
          have hP : va_P D clz (WD8 cy g σ29) H1 := by rw [← ht]; exact hB
          clear hB hz1 hk1 hvm ht
          generalize H1 = H at hP hS ⊢
          have hw30E : σ = σ29 := (hw30.1).symm
          subst hw30E
          have b31 : (0 : Int) ≤ r28.toInt ∧ r28.toInt ≤ 1 := hw30.2.1
          refine lv_if_eq (tgt := 49) hx hb dX3_comesTo_44 (by decide) (fun c32 => ?_) (fun c32 => ?_)
          ·
            have k33 := peq32 c32
            exact nj17 (σ, lf [], lg []) ⟨rfl, trivial⟩ _ _ _ hP hS (lv_sub hl [0, 1, 2, 3] rfl)
          ·
            have k34 := neq32 c32
            refine lv_iconst (v := 1) hx hb dX3_comesTo_47 (by decide) ?_
            exact W.zret (v := 1) hx hb hr rfl (fun tS ht hW => ⟨⟨1, σ, rfl, ⟨rfl, (show (0 : Int) ≤ (1 : Int32).toInt ∧ (1 : Int32).toInt ≤ 1 from (by have z1 : (1 : Int32).toInt = 1 := (by decide); omega)), trivial⟩, (show va_P D clz (WD8 cy g σ) tS.heap by rw [ht]; exact hP)⟩, hS.F ht⟩) hS.2.2 dX3_comesTo_48
  ·
    have k35 := peq32 c1
    refine lv_iconst (v := 1) hx hb dX3_comesTo_4 (by decide) ?_
    exact W.zret (v := 1) hx hb hr rfl (fun tS ht hW => ⟨⟨1, σ, rfl, ⟨rfl, (show (0 : Int) ≤ (1 : Int32).toInt ∧ (1 : Int32).toInt ≤ 1 from (by have z1 : (1 : Int32).toInt = 1 := (by decide); omega)), trivial⟩, (show va_P D clz (WD8 cy g σ) tS.heap by rw [ht]; exact hP)⟩, hS.F ht⟩) hS.2.2 dX3_comesTo_5

theorem q1027 : Cond.code yX3_firstUnreached cX3_firstUnreached 4 (some .int) ∈ lw_g := lw_gm (List.mem_of_getElem? (i := 1027) (by decide +kernel)) rfl
theorem q1028 : Cond.methodLink RX3 163 yX3_comesTo ∈ lw_g := lw_gm (List.mem_of_getElem? (i := 1028) (by decide +kernel)) rfl
theorem q1030 : Cond.instanceMethod yX3_comesTo ∈ lw_g := lw_gm (List.mem_of_getElem? (i := 1030) (by decide +kernel)) rfl
theorem q30 : Cond.selects RX3 yX3_comesTo yX3_comesTo ∈ lw_g := lw_gm (List.mem_of_getElem? (i := 30) (by decide +kernel)) rfl
theorem dX3_firstUnreached_0 : decode cX3_firstUnreached 0 = .ok (.iconst 0, 1) := by decide +kernel
theorem dX3_firstUnreached_1 : decode cX3_firstUnreached 1 = .ok (.istore_n 1, 1) := by decide +kernel
theorem dX3_firstUnreached_2 : decode cX3_firstUnreached 2 = .ok (.iload_n 1, 1) := by decide +kernel
theorem dX3_firstUnreached_3 : decode cX3_firstUnreached 3 = .ok (.aload_n 0, 1) := by decide +kernel
theorem dX3_firstUnreached_4 : decode cX3_firstUnreached 4 = .ok (.getfield 75, 3) := by decide +kernel
theorem dX3_firstUnreached_7 : decode cX3_firstUnreached 7 = .ok (.if_icmp .ge 85, 3) := by decide +kernel
theorem dX3_firstUnreached_10 : decode cX3_firstUnreached 10 = .ok (.iconst 0, 1) := by decide +kernel
theorem dX3_firstUnreached_11 : decode cX3_firstUnreached 11 = .ok (.istore_n 2, 1) := by decide +kernel
theorem dX3_firstUnreached_12 : decode cX3_firstUnreached 12 = .ok (.aload_n 0, 1) := by decide +kernel
theorem dX3_firstUnreached_13 : decode cX3_firstUnreached 13 = .ok (.getfield 34, 3) := by decide +kernel
theorem dX3_firstUnreached_16 : decode cX3_firstUnreached 16 = .ok (.iload_n 1, 1) := by decide +kernel
theorem dX3_firstUnreached_17 : decode cX3_firstUnreached 17 = .ok (.iaload, 1) := by decide +kernel
theorem dX3_firstUnreached_18 : decode cX3_firstUnreached 18 = .ok (.istore_n 3, 1) := by decide +kernel
theorem dX3_firstUnreached_19 : decode cX3_firstUnreached 19 = .ok (.iload_n 3, 1) := by decide +kernel
theorem dX3_firstUnreached_20 : decode cX3_firstUnreached 20 = .ok (.aload_n 0, 1) := by decide +kernel
theorem dX3_firstUnreached_21 : decode cX3_firstUnreached 21 = .ok (.getfield 34, 3) := by decide +kernel
theorem dX3_firstUnreached_24 : decode cX3_firstUnreached 24 = .ok (.iload_n 1, 1) := by decide +kernel
theorem dX3_firstUnreached_25 : decode cX3_firstUnreached 25 = .ok (.iconst 1, 1) := by decide +kernel
theorem dX3_firstUnreached_26 : decode cX3_firstUnreached 26 = .ok (.iadd, 1) := by decide +kernel
theorem dX3_firstUnreached_27 : decode cX3_firstUnreached 27 = .ok (.iaload, 1) := by decide +kernel
theorem dX3_firstUnreached_28 : decode cX3_firstUnreached 28 = .ok (.if_icmp .ge 47, 3) := by decide +kernel
theorem dX3_firstUnreached_31 : decode cX3_firstUnreached 31 = .ok (.aload_n 0, 1) := by decide +kernel
theorem dX3_firstUnreached_32 : decode cX3_firstUnreached 32 = .ok (.getfield 55, 3) := by decide +kernel
theorem dX3_firstUnreached_35 : decode cX3_firstUnreached 35 = .ok (.iload_n 3, 1) := by decide +kernel
theorem dX3_firstUnreached_36 : decode cX3_firstUnreached 36 = .ok (.aload_n 0, 1) := by decide +kernel
theorem dX3_firstUnreached_37 : decode cX3_firstUnreached 37 = .ok (.iload_n 1, 1) := by decide +kernel
theorem dX3_firstUnreached_38 : decode cX3_firstUnreached 38 = .ok (.iload_n 3, 1) := by decide +kernel
theorem dX3_firstUnreached_39 : decode cX3_firstUnreached 39 = .ok (.invokevirtual 163, 3) := by decide +kernel
theorem dX3_firstUnreached_42 : decode cX3_firstUnreached 42 = .ok (.ifCond .eq 7, 3) := by decide +kernel
theorem dX3_firstUnreached_45 : decode cX3_firstUnreached 45 = .ok (.iconst 1, 1) := by decide +kernel
theorem dX3_firstUnreached_46 : decode cX3_firstUnreached 46 = .ok (.goto 4, 3) := by decide +kernel
theorem dX3_firstUnreached_49 : decode cX3_firstUnreached 49 = .ok (.iconst 0, 1) := by decide +kernel
theorem dX3_firstUnreached_50 : decode cX3_firstUnreached 50 = .ok (.iastore, 1) := by decide +kernel
theorem dX3_firstUnreached_51 : decode cX3_firstUnreached 51 = .ok (.iload_n 2, 1) := by decide +kernel
theorem dX3_firstUnreached_52 : decode cX3_firstUnreached 52 = .ok (.aload_n 0, 1) := by decide +kernel
theorem dX3_firstUnreached_53 : decode cX3_firstUnreached 53 = .ok (.getfield 55, 3) := by decide +kernel
theorem dX3_firstUnreached_56 : decode cX3_firstUnreached 56 = .ok (.iload_n 3, 1) := by decide +kernel
theorem dX3_firstUnreached_57 : decode cX3_firstUnreached 57 = .ok (.iaload, 1) := by decide +kernel
theorem dX3_firstUnreached_58 : decode cX3_firstUnreached 58 = .ok (.iconst 1, 1) := by decide +kernel
theorem dX3_firstUnreached_59 : decode cX3_firstUnreached 59 = .ok (.if_icmp .ne 7, 3) := by decide +kernel
theorem dX3_firstUnreached_62 : decode cX3_firstUnreached 62 = .ok (.iconst 1, 1) := by decide +kernel
theorem dX3_firstUnreached_63 : decode cX3_firstUnreached 63 = .ok (.goto 4, 3) := by decide +kernel
theorem dX3_firstUnreached_66 : decode cX3_firstUnreached 66 = .ok (.iconst 0, 1) := by decide +kernel
theorem dX3_firstUnreached_67 : decode cX3_firstUnreached 67 = .ok (.ior, 1) := by decide +kernel
theorem dX3_firstUnreached_68 : decode cX3_firstUnreached 68 = .ok (.istore_n 2, 1) := by decide +kernel
theorem dX3_firstUnreached_69 : decode cX3_firstUnreached 69 = .ok (.iinc 3 1, 3) := by decide +kernel
theorem dX3_firstUnreached_72 : decode cX3_firstUnreached 72 = .ok (.goto (-53), 3) := by decide +kernel
theorem dX3_firstUnreached_75 : decode cX3_firstUnreached 75 = .ok (.iload_n 2, 1) := by decide +kernel
theorem dX3_firstUnreached_76 : decode cX3_firstUnreached 76 = .ok (.ifCond .ne 10, 3) := by decide +kernel
theorem dX3_firstUnreached_79 : decode cX3_firstUnreached 79 = .ok (.aload_n 0, 1) := by decide +kernel
theorem dX3_firstUnreached_80 : decode cX3_firstUnreached 80 = .ok (.getfield 22, 3) := by decide +kernel
theorem dX3_firstUnreached_83 : decode cX3_firstUnreached 83 = .ok (.iload_n 1, 1) := by decide +kernel
theorem dX3_firstUnreached_84 : decode cX3_firstUnreached 84 = .ok (.iaload, 1) := by decide +kernel
theorem dX3_firstUnreached_85 : decode cX3_firstUnreached 85 = .ok (.ireturn, 1) := by decide +kernel
theorem dX3_firstUnreached_86 : decode cX3_firstUnreached 86 = .ok (.iinc 1 1, 3) := by decide +kernel
theorem dX3_firstUnreached_89 : decode cX3_firstUnreached 89 = .ok (.goto (-87), 3) := by decide +kernel
theorem dX3_firstUnreached_92 : decode cX3_firstUnreached 92 = .ok (.iconst (-1), 1) := by decide +kernel
theorem dX3_firstUnreached_93 : decode cX3_firstUnreached 93 = .ok (.ireturn, 1) := by decide +kernel
set_option maxHeartbeats 4000000 in
set_option maxRecDepth 100000 in
theorem m_X3_firstUnreached (l : Launch) (D : va_G) (cy : Nat → ClassId) (g : Nat → Nat) (σ : ST)  (sz : Nat) (hJ : J8 σ)  : Met l yX3_firstUnreached (ww yX3_firstUnreached cX3_firstUnreached 4 (some .int)) ({ frames := 4, cells := 0, slots := 0, locals := 256 }) (va_Pc [.ref (gO g 13)] (pr8 D cy g σ sz)) (qi8 D cy g sz (fun r τ => Fr (fO [13]) σ τ ∧ J8 τ ∧ ((-1 : Int) ≤ r.toInt ∧ r.toInt ≤ 15) ∧ True)) 0 0 (A8 cy g sz) := by
  refine Met.ofW (cc := cX3_firstUnreached) (maxL := 4) (ret := (some .int)) (by decide) rfl ?_
  intro p e s m args below meth c s₁ B hml hv
  obtain ⟨rfl, hsz, hP, hK, hD0, hC⟩ := hv
  have hx := B.exec
  have hb := B.bytes
  have hr := B.returns
  have hts := hts_g (atoms_spec (ws := ww yX3_firstUnreached cX3_firstUnreached 4 (some .int)) B.pre)
  have hown : s.vm.findClass RX3 = some m.cls := findClass_of_methodNamed B.named
  have hlocks := B.notSynchronized
  clear B
  subst hsz
  have hD := fun τ => A8_D (sz := s.heap.size) hD0 τ
  clear hD0
  have hS : va_S (A8 cy g s.heap.size) s.heap s.heap [] := va_S.rf
  have hl := lv_entry ([.ref (gO g 13)]) (n := 4) (Nat.le_of_ble_eq_true rfl)
  rw [lg_entry_eq]
  generalize (lg_sl ([.ref (gO g 13)]) ++ List.replicate (4 - (lg_sl ([.ref (gO g 13)])).length) Slot.unset).toArray = ls at hl ⊢
  have hl : lv_has ls 4 [(0, .ref (gO g 13))] := hl
  refine lv_iconst (v := 0) hx hb dX3_firstUnreached_0 (by decide) ?_
  refine lv_istore_n (lv' := [(1, .int 0), (0, .ref (gO g 13))]) hx hb dX3_firstUnreached_1 rfl hl (by decide) rfl (fun ls hl => ?_)
  refine loop8 4 2 (fun x : LZ => [(1, .int (x.2.1 0)), (0, .ref (gO g 13))]) (fun x : LZ => (Fr (fO [13]) σ x.1) ∧ (J8 x.1) ∧ ((0 : Int) ≤ (x.2.1 0).toInt ∧ (x.2.1 0).toInt ≤ 16) ∧ True) (fun x : LZ => ((17 : Int) - (x.2.1 0).toInt).toNat) ?_ (σ, lf [0], lg []) ⟨Fr.rf, hJ, (show (0 : Int) ≤ (0 : Int32).toInt ∧ (0 : Int32).toInt ≤ 16 from (by have z0 : (0 : Int32).toInt = 0 := (by decide); omega)), trivial⟩ _ _ _ hP hS (lv_sub hl [0, 1] rfl)
  intro y3 hI2 nl1 H locs ls hP hS hl
  obtain ⟨σ4, eσ4⟩ : ∃ z, z = y3.1 := ⟨_, rfl⟩
  rw [← eσ4] at hP hI2
  have hF5 : Fr (fO [13]) σ σ4 := hI2.1
  have hJ6 : J8 σ4 := hI2.2.1
  have b7 : (0 : Int) ≤ (y3.2.1 0).toInt ∧ (y3.2.1 0).toInt ≤ 16 := hI2.2.2.1
  have hl : lv_has ls 4 [(1, .int (y3.2.1 0)), (0, .ref (gO g 13))] := hl
  refine lv_iload_n hx hb dX3_firstUnreached_2 rfl (lv_at hl 0 rfl) ?_
  refine lv_aload_n hx hb dX3_firstUnreached_3 rfl (lv_at hl 1 rfl) ?_
  refine g8_3_0 (x := ((σ4 13).1 0)) hx hb hts hown hK hP (rfl) (hts _ q280) dX3_firstUnreached_4 ?_
  refine lv_icmp_ge (tgt := 92) hx hb dX3_firstUnreached_7 (by decide) (fun c8 => ?_) (fun c8 => ?_)
  ·
    have k9 := ple32 c8
    refine lv_iconst (v := (-1)) hx hb dX3_firstUnreached_92 (by decide) ?_
    exact W.iret (v := (-1)) hx hb hr (fun tS ht hW => ⟨⟨(-1), σ4, rfl, ⟨Fr.tr (Fr.rf) hF5 (fO_sub (fun _ q => q)), hJ6, (show (-1 : Int) ≤ ((-1) : Int32).toInt ∧ ((-1) : Int32).toInt ≤ 15 from (by have zm1 : ((-1) : Int32).toInt = (-1) := (by decide); omega)), trivial⟩, (show va_P D clz (WD8 cy g σ4) tS.heap by rw [ht]; exact hP)⟩, hS.F ht⟩) hS.2.2 dX3_firstUnreached_93
  ·
    have k10 := nle32 c8
    refine lv_iconst (v := 0) hx hb dX3_firstUnreached_10 (by decide) ?_
    refine lv_istore_n (lv' := [(2, .int 0), (1, .int (y3.2.1 0)), (0, .ref (gO g 13))]) hx hb dX3_firstUnreached_11 rfl hl (by decide) rfl (fun ls hl => ?_)
    refine lv_aload_n hx hb dX3_firstUnreached_12 rfl (lv_at hl 2 rfl) ?_
    refine g8_3_12 hx hb hts hown hK hP (hts _ q297) dX3_firstUnreached_13 ?_
    refine lv_iload_n hx hb dX3_firstUnreached_16 rfl (lv_at hl 1 rfl) ?_
    obtain ⟨x11, ex11⟩ : ∃ z, (σ4 13).2.2.1 12 (y3.2.1 0).toInt.toNat = z := ⟨_, rfl⟩
    refine l8_3_12 (x := x11) hx hb hK hP (vpo (by have f0 := b7; have f1 := k10; have f2 := j8_3_0 hJ6 rfl; have g0 := rg32 (y3.2.1 0); omega)) ex11 dX3_firstUnreached_17 ?_
    have t12 := a8_3_12 hJ6 ex11
    refine lv_istore_n (lv' := [(3, .int x11), (2, .int 0), (1, .int (y3.2.1 0)), (0, .ref (gO g 13))]) hx hb dX3_firstUnreached_18 rfl hl (by decide) rfl (fun ls hl => ?_)
    refine loop8 4 19 (fun x : LZ => [(3, .int (x.2.1 0)), (2, .int (x.2.1 1)), (1, .int (y3.2.1 0)), (0, .ref (gO g 13))]) (fun x : LZ => (Fr (fO [13]) σ4 x.1) ∧ (J8 x.1) ∧ ((0 : Int) ≤ (x.2.1 0).toInt ∧ (x.2.1 0).toInt ≤ 1408) ∧ True) (fun x : LZ => ((1409 : Int) - (x.2.1 0).toInt).toNat) ?_ (σ4, lf [x11, 0], lg []) ⟨Fr.rf, hJ6, (show (0 : Int) ≤ (x11 : Int32).toInt ∧ (x11 : Int32).toInt ≤ 1408 from (by have f0 := t12; have g0 := rg32 x11; omega)), trivial⟩ _ _ _ hP hS (lv_sub hl [0, 1, 2, 3] rfl)
    intro y15 hI14 nl13 H locs ls hP hS hl
    obtain ⟨σ16, eσ16⟩ : ∃ z, z = y15.1 := ⟨_, rfl⟩
    rw [← eσ16] at hP hI14
    have hF17 : Fr (fO [13]) σ4 σ16 := hI14.1
    have hJ18 : J8 σ16 := hI14.2.1
    have b19 : (0 : Int) ≤ (y15.2.1 0).toInt ∧ (y15.2.1 0).toInt ≤ 1408 := hI14.2.2.1
    have hl : lv_has ls 4 [(3, .int (y15.2.1 0)), (2, .int (y15.2.1 1)), (1, .int (y3.2.1 0)), (0, .ref (gO g 13))] := hl
    refine lv_iload_n hx hb dX3_firstUnreached_19 rfl (lv_at hl 0 rfl) ?_
    refine lv_aload_n hx hb dX3_firstUnreached_20 rfl (lv_at hl 3 rfl) ?_
    refine g8_3_12 hx hb hts hown hK hP (hts _ q297) dX3_firstUnreached_21 ?_
    refine lv_iload_n hx hb dX3_firstUnreached_24 rfl (lv_at hl 2 rfl) ?_
    refine lv_iconst (v := 1) hx hb dX3_firstUnreached_25 (by decide) ?_
    refine lv_iadd hx hb dX3_firstUnreached_26 ?_
    refine lv_topi (fun x20 ex20 => ?_)
    have t21 := addO ex20 (by have f0 := b7; have f1 := k10; have f2 := j8_3_0 hJ6 rfl; have g0 := rg32 (y3.2.1 0); have z1 : (1 : Int32).toInt = 1 := (by decide); omega)
    obtain ⟨x22, ex22⟩ : ∃ z, (σ16 13).2.2.1 12 x20.toInt.toNat = z := ⟨_, rfl⟩
    refine l8_3_12 (x := x22) hx hb hK hP (vpo (by have f0 := t21; have f1 := b7; have f2 := k10; have f3 := j8_3_0 hJ6 rfl; have g0 := rg32 x20; have z1 : (1 : Int32).toInt = 1 := (by decide); omega)) ex22 dX3_firstUnreached_27 ?_
    have t23 := a8_3_12 hJ18 ex22
    refine lv_icmp_ge (tgt := 75) hx hb dX3_firstUnreached_28 (by decide) (fun c24 => ?_) (fun c24 => ?_)
    ·
      have k25 := ple32 c24
      refine lv_iload_n hx hb dX3_firstUnreached_75 rfl (lv_at hl 1 rfl) ?_
      refine lv_if_ne (tgt := 86) hx hb dX3_firstUnreached_76 (by decide) (fun c26 => ?_) (fun c26 => ?_)
      ·
        have k27 := neq32 c26
        obtain ⟨x28, ex28⟩ : ∃ y : Int32, y = (y3.2.1 0) + 1 := ⟨_, rfl⟩
        have t29 := addO ex28 (by have f0 := b7; have f1 := k10; have f2 := t21; have f3 := j8_3_0 hJ6 rfl; have g0 := rg32 (y3.2.1 0); have z1 : (1 : Int32).toInt = 1 := (by decide); omega)
        refine lv_iinc (v := x28) (lv' := [(1, .int x28), (3, .int (y15.2.1 0)), (2, .int (y15.2.1 1)), (0, .ref (gO g 13))]) hx hb dX3_firstUnreached_86 hl (k := 2) rfl (by rw [ex28]; rfl) (by decide) rfl (fun ls hl => ?_)
        refine lv_goto (tgt := 2) hx hb dX3_firstUnreached_89 (by decide) ?_
        have t30 : ((17 : Int) - x28.toInt).toNat < ((17 : Int) - (y3.2.1 0).toInt).toNat := (by have f0 := b7; have f1 := k10; have f2 := t21; have f3 := t29; have f4 := j8_3_0 hJ6 rfl; have g0 := rg32 (y3.2.1 0); have g1 := rg32 x28; have z1 : (1 : Int32).toInt = 1 := (by decide); omega)
        exact nl1 (σ16, lf [x28], lg []) ⟨Fr.tr (Fr.tr (Fr.rf) hF5 (fO_sub (fun _ q => q))) hF17 (fO_sub (fun _ q => q)), hJ18, (show (0 : Int) ≤ (x28 : Int32).toInt ∧ (x28 : Int32).toInt ≤ 16 from (by have f0 := t29; have f1 := b7; have f2 := k10; have f3 := t21; have f4 := j8_3_0 hJ6 rfl; have g0 := rg32 x28; have z1 : (1 : Int32).toInt = 1 := (by decide); omega)), trivial⟩ (show ((17 : Int) - x28.toInt).toNat < _ from by first | exact t30 | (rw [← eσ4]; exact t30)) _ _ _ hP hS (lv_sub hl [0, 3] rfl)
      ·
        have k31 := peq32 c26
        refine lv_aload_n hx hb dX3_firstUnreached_79 rfl (lv_at hl 3 rfl) ?_
        refine g8_3_8 hx hb hts hown hK hP (hts _ q293) dX3_firstUnreached_80 ?_
        refine lv_iload_n hx hb dX3_firstUnreached_83 rfl (lv_at hl 2 rfl) ?_
        obtain ⟨x32, ex32⟩ : ∃ z, (σ16 13).2.2.1 8 (y3.2.1 0).toInt.toNat = z := ⟨_, rfl⟩
        refine l8_3_8 (x := x32) hx hb hK hP (vpo (by have f0 := b7; have f1 := k10; have f2 := t21; have f3 := j8_3_0 hJ6 rfl; have g0 := rg32 (y3.2.1 0); have z1 : (1 : Int32).toInt = 1 := (by decide); omega)) ex32 dX3_firstUnreached_84 ?_
        have t33 := a8_3_8 hJ18 ex32
        exact W.iret (v := x32) hx hb hr (fun tS ht hW => ⟨⟨x32, σ16, rfl, ⟨Fr.tr (Fr.tr (Fr.rf) hF5 (fO_sub (fun _ q => q))) hF17 (fO_sub (fun _ q => q)), hJ18, (show (-1 : Int) ≤ x32.toInt ∧ x32.toInt ≤ 15 from (by have f0 := t33; have g0 := rg32 x32; omega)), trivial⟩, (show va_P D clz (WD8 cy g σ16) tS.heap by rw [ht]; exact hP)⟩, hS.F ht⟩) hS.2.2 dX3_firstUnreached_85
    ·
      have k34 := nle32 c24
      refine lv_aload_n hx hb dX3_firstUnreached_31 rfl (lv_at hl 3 rfl) ?_
      refine g8_3_19 hx hb hts hown hK hP (hts _ q304) dX3_firstUnreached_32 ?_
      refine lv_iload_n hx hb dX3_firstUnreached_35 rfl (lv_at hl 0 rfl) ?_
      refine lv_aload_n hx hb dX3_firstUnreached_36 rfl (lv_at hl 3 rfl) ?_
      refine lv_iload_n hx hb dX3_firstUnreached_37 rfl (lv_at hl 2 rfl) ?_
      refine lv_iload_n hx hb dX3_firstUnreached_38 rfl (lv_at hl 0 rfl) ?_
      refine va_calli (va_runV (As := [.int (y3.2.1 0), .int (y15.2.1 0)]) (rest := [.int (y15.2.1 0), .ref (gR g 13 19)]) ⟨hx, hb, hml, hown, hts⟩ (m_X3_comesTo l D cy g σ16  (y3.2.1 0) (y15.2.1 0) _ hJ18 (show (0 : Int) ≤ (y3.2.1 0).toInt ∧ (y3.2.1 0).toInt ≤ 15 from (by have f0 := b7; have f1 := k10; have f2 := t21; have f3 := j8_3_0 hJ6 rfl; have g0 := rg32 (y3.2.1 0); have z1 : (1 : Int32).toInt = 1 := (by decide); omega)) (show (0 : Int) ≤ (y15.2.1 0).toInt ∧ (y15.2.1 0).toInt ≤ 1407 from (by have f0 := b7; have f1 := k10; have f2 := b19; have f3 := t21; have f4 := k34; have f5 := j8_3_0 hJ6 rfl; have f6 := t23; have g0 := rg32 (y15.2.1 0); have g1 := rg32 (y3.2.1 0); have z1 : (1 : Int32).toInt = 1 := (by decide); omega))) (cwV 2 hts (gd_V q1028 q1030 q30 q129 q1031) rfl rfl rfl (by decide +kernel) ⟨(Nat.le_of_ble_eq_true rfl), (Nat.le_of_ble_eq_true rfl)⟩) (pv8 hP hK hD hC hS (rv8_3 hK hP)) rfl rfl hl.1 rfl (lv_room (Nat.le_of_ble_eq_true rfl)) dX3_firstUnreached_39 ⟨Nat.le_of_ble_eq_true rfl, Nat.le_of_ble_eq_true rfl⟩) hS (fun q _ h => up8 hS q h) (up8 hS) (fun r35 σ36 tS H1 locs ht hvm hw37 hB hz1 hk1 hS => ?_)
      have hP : va_P D clz (WD8 cy g σ36) H1 := by rw [← ht]; exact hB
      clear hB hz1 hk1 hvm ht
      generalize H1 = H at hP hS ⊢
      have hw37E : σ16 = σ36 := (hw37.1).symm
      subst hw37E
      have b38 : (0 : Int) ≤ r35.toInt ∧ r35.toInt ≤ 1 := hw37.2.1
      refine cut8 (D := D) (cy := cy) (g := g) (A := A8 cy g s.heap.size) (H0 := s.heap) 4 50 (fun x : LZ => [(3, .int (y15.2.1 0)), (2, .int (y15.2.1 1)), (1, .int (y3.2.1 0)), (0, .ref (gO g 13))]) (fun x : LZ => [.int (x.2.1 0), .int (y15.2.1 0), .ref (gR g 13 19)]) (fun x : LZ => (x.1 = σ16) ∧ ((0 : Int) ≤ (x.2.1 0).toInt ∧ (x.2.1 0).toInt ≤ 1) ∧ True) ?_ ?_
      ·
        intro y41 hI40 H locs ls hP hS hl
        rw [show y41.1 = σ16 from hI40.1] at hP
        have b42 : (0 : Int) ≤ (y41.2.1 0).toInt ∧ (y41.2.1 0).toInt ≤ 1 := hI40.2.1
        have hl : lv_has ls 4 [(3, .int (y15.2.1 0)), (2, .int (y15.2.1 1)), (1, .int (y3.2.1 0)), (0, .ref (gO g 13))] := hl
        refine W.eq (g2 := F0 m 50 ls [.int (y41.2.1 0), .int (y15.2.1 0), .ref (gR g 13 19)]) rfl ?_
        refine t8_3_19 hx hb hK hP hD hS (vpo (by have f0 := b19; have f1 := k34; have f2 := t23; have g0 := rg32 (y15.2.1 0); omega)) dX3_firstUnreached_50 (fun H locs σ43 eσ43 hP hS => ?_)
        have hJ44 : J8 σ43 := hJ18.A eσ43 rfl (show PA8 3 19 (y41.2.1 0) from trivial)
        refine lv_iload_n hx hb dX3_firstUnreached_51 rfl (lv_at hl 1 rfl) ?_
        refine lv_aload_n hx hb dX3_firstUnreached_52 rfl (lv_at hl 3 rfl) ?_
        refine g8_3_19 hx hb hts hown hK hP (hts _ q304) dX3_firstUnreached_53 ?_
        refine lv_iload_n hx hb dX3_firstUnreached_56 rfl (lv_at hl 0 rfl) ?_
        obtain ⟨x45, ex45⟩ : ∃ z, (σ43 13).2.2.1 19 (y15.2.1 0).toInt.toNat = z := ⟨_, rfl⟩
        refine l8_3_19 (x := x45) hx hb hK hP (vpo (by have f0 := b19; have f1 := k34; have f2 := t23; have g0 := rg32 (y15.2.1 0); omega)) ex45 dX3_firstUnreached_57 ?_
        refine lv_iconst (v := 1) hx hb dX3_firstUnreached_58 (by decide) ?_
        refine cut8 (D := D) (cy := cy) (g := g) (A := A8 cy g s.heap.size) (H0 := s.heap) 4 67 (fun x : LZ => [(3, .int (y15.2.1 0)), (2, .int (y15.2.1 1)), (1, .int (y3.2.1 0)), (0, .ref (gO g 13))]) (fun x : LZ => [.int (x.2.1 0), .int (y15.2.1 1)]) (fun x : LZ => (x.1 = σ43) ∧ ((0 : Int) ≤ (x.2.1 0).toInt ∧ (x.2.1 0).toInt ≤ 1) ∧ True) ?_ ?_
        ·
          intro y48 hI47 H locs ls hP hS hl
          rw [show y48.1 = σ43 from hI47.1] at hP
          have b49 : (0 : Int) ≤ (y48.2.1 0).toInt ∧ (y48.2.1 0).toInt ≤ 1 := hI47.2.1
          have hl : lv_has ls 4 [(3, .int (y15.2.1 0)), (2, .int (y15.2.1 1)), (1, .int (y3.2.1 0)), (0, .ref (gO g 13))] := hl
          refine W.eq (g2 := F0 m 67 ls [.int (y48.2.1 0), .int (y15.2.1 1)]) rfl ?_
          refine lv_ior hx hb dX3_firstUnreached_67 ?_
          refine lv_topi (fun x50 ex50 => ?_)
          refine lv_istore_n (lv' := [(2, .int x50), (3, .int (y15.2.1 0)), (1, .int (y3.2.1 0)), (0, .ref (gO g 13))]) hx hb dX3_firstUnreached_68 rfl hl (by decide) rfl (fun ls hl => ?_)
          obtain ⟨x51, ex51⟩ : ∃ y : Int32, y = (y15.2.1 0) + 1 := ⟨_, rfl⟩
          have t52 := addO ex51 (by have f0 := b19; have f1 := k34; have f2 := t23; have g0 := rg32 (y15.2.1 0); have z1 : (1 : Int32).toInt = 1 := (by decide); omega)
          refine lv_iinc (v := x51) (lv' := [(3, .int x51), (2, .int x50), (1, .int (y3.2.1 0)), (0, .ref (gO g 13))]) hx hb dX3_firstUnreached_69 hl (k := 1) rfl (by rw [ex51]; rfl) (by decide) rfl (fun ls hl => ?_)
          refine lv_goto (tgt := 19) hx hb dX3_firstUnreached_72 (by decide) ?_
          have t53 : ((1409 : Int) - x51.toInt).toNat < ((1409 : Int) - (y15.2.1 0).toInt).toNat := (by have f0 := b19; have f1 := k34; have f2 := t52; have f3 := t23; have g0 := rg32 (y15.2.1 0); have g1 := rg32 x51; have z1 : (1 : Int32).toInt = 1 := (by decide); omega)
          exact nl13 (σ43, lf [x51, x50], lg []) ⟨Fr.tr (Fr.tr (Fr.rf) hF17 (fO_sub (fun _ q => q))) (sA_f eσ43) (fN_O mem0), hJ44, (show (0 : Int) ≤ (x51 : Int32).toInt ∧ (x51 : Int32).toInt ≤ 1408 from (by have f0 := t52; have f1 := b19; have f2 := k34; have f3 := t23; have g0 := rg32 x51; have z1 : (1 : Int32).toInt = 1 := (by decide); omega)), trivial⟩ (show ((1409 : Int) - x51.toInt).toNat < _ from by first | exact t53 | (rw [← eσ16]; exact t53)) _ _ _ hP hS (lv_sub hl [0, 1, 2, 3] rfl)
        ·
          intro nj46
          refine lv_icmp_ne (tgt := 66) hx hb dX3_firstUnreached_59 (by decide) (fun c54 => ?_) (fun c54 => ?_)
          ·
            have k55 := neq32 c54
            refine lv_iconst (v := 0) hx hb dX3_firstUnreached_66 (by decide) ?_
            exact nj46 (σ43, lf [0], lg []) ⟨rfl, (show (0 : Int) ≤ (0 : Int32).toInt ∧ (0 : Int32).toInt ≤ 1 from (by have z0 : (0 : Int32).toInt = 0 := (by decide); omega)), trivial⟩ _ _ _ hP hS (lv_sub hl [0, 1, 2, 3] rfl)
          ·
            have k56 := peq32 c54
            refine lv_iconst (v := 1) hx hb dX3_firstUnreached_62 (by decide) ?_
            refine lv_goto (tgt := 67) hx hb dX3_firstUnreached_63 (by decide) ?_
            exact nj46 (σ43, lf [1], lg []) ⟨rfl, (show (0 : Int) ≤ (1 : Int32).toInt ∧ (1 : Int32).toInt ≤ 1 from (by have z1 : (1 : Int32).toInt = 1 := (by decide); omega)), trivial⟩ _ _ _ hP hS (lv_sub hl [0, 1, 2, 3] rfl)
      ·
        intro nj39
        refine lv_if_eq (tgt := 49) hx hb dX3_firstUnreached_42 (by decide) (fun c57 => ?_) (fun c57 => ?_)
        ·
          have k58 := peq32 c57
          refine lv_iconst (v := 0) hx hb dX3_firstUnreached_49 (by decide) ?_
          exact nj39 (σ16, lf [0], lg []) ⟨rfl, (show (0 : Int) ≤ (0 : Int32).toInt ∧ (0 : Int32).toInt ≤ 1 from (by have z0 : (0 : Int32).toInt = 0 := (by decide); omega)), trivial⟩ _ _ _ hP hS (lv_sub hl [0, 1, 2, 3] rfl)
        ·
          have k59 := neq32 c57
          refine lv_iconst (v := 1) hx hb dX3_firstUnreached_45 (by decide) ?_
          refine lv_goto (tgt := 50) hx hb dX3_firstUnreached_46 (by decide) ?_
          exact nj39 (σ16, lf [1], lg []) ⟨rfl, (show (0 : Int) ≤ (1 : Int32).toInt ∧ (1 : Int32).toInt ≤ 1 from (by have z1 : (1 : Int32).toInt = 1 := (by decide); omega)), trivial⟩ _ _ _ hP hS (lv_sub hl [0, 1, 2, 3] rfl)

theorem q1023 : Cond.code yX8_stuck cX8_stuck 3 (some .int) ∈ lw_g := lw_gm (List.mem_of_getElem? (i := 1023) (by decide +kernel)) rfl
theorem q1024 : Cond.methodLink RX8 266 yX3_firstUnreached ∈ lw_g := lw_gm (List.mem_of_getElem? (i := 1024) (by decide +kernel)) rfl
theorem q1025 : Cond.instanceMethod yX3_firstUnreached ∈ lw_g := lw_gm (List.mem_of_getElem? (i := 1025) (by decide +kernel)) rfl
theorem q1026 : Cond.selects RX3 yX3_firstUnreached yX3_firstUnreached ∈ lw_g := lw_gm (List.mem_of_getElem? (i := 1026) (by decide +kernel)) rfl
theorem dX8_stuck_0 : decode cX8_stuck 0 = .ok (.aload_n 0, 1) := by decide +kernel
theorem dX8_stuck_1 : decode cX8_stuck 1 = .ok (.iload_n 1, 1) := by decide +kernel
theorem dX8_stuck_2 : decode cX8_stuck 2 = .ok (.iload_n 2, 1) := by decide +kernel
theorem dX8_stuck_3 : decode cX8_stuck 3 = .ok (.invokevirtual 235, 3) := by decide +kernel
theorem dX8_stuck_6 : decode cX8_stuck 6 = .ok (.ifCond .ne 6, 3) := by decide +kernel
theorem dX8_stuck_9 : decode cX8_stuck 9 = .ok (.bipush (-2), 2) := by decide +kernel
theorem dX8_stuck_11 : decode cX8_stuck 11 = .ok (.ireturn, 1) := by decide +kernel
theorem dX8_stuck_12 : decode cX8_stuck 12 = .ok (.aload_n 0, 1) := by decide +kernel
theorem dX8_stuck_13 : decode cX8_stuck 13 = .ok (.getfield 53, 3) := by decide +kernel
theorem dX8_stuck_16 : decode cX8_stuck 16 = .ok (.aload_n 0, 1) := by decide +kernel
theorem dX8_stuck_17 : decode cX8_stuck 17 = .ok (.getfield 19, 3) := by decide +kernel
theorem dX8_stuck_20 : decode cX8_stuck 20 = .ok (.iload_n 1, 1) := by decide +kernel
theorem dX8_stuck_21 : decode cX8_stuck 21 = .ok (.iload_n 2, 1) := by decide +kernel
theorem dX8_stuck_22 : decode cX8_stuck 22 = .ok (.invokevirtual 238, 3) := by decide +kernel
theorem dX8_stuck_25 : decode cX8_stuck 25 = .ok (.aload_n 0, 1) := by decide +kernel
theorem dX8_stuck_26 : decode cX8_stuck 26 = .ok (.getfield 53, 3) := by decide +kernel
theorem dX8_stuck_29 : decode cX8_stuck 29 = .ok (.aload_n 0, 1) := by decide +kernel
theorem dX8_stuck_30 : decode cX8_stuck 30 = .ok (.getfield 19, 3) := by decide +kernel
theorem dX8_stuck_33 : decode cX8_stuck 33 = .ok (.getfield 104, 3) := by decide +kernel
theorem dX8_stuck_36 : decode cX8_stuck 36 = .ok (.iconst 0, 1) := by decide +kernel
theorem dX8_stuck_37 : decode cX8_stuck 37 = .ok (.invokevirtual 241, 3) := by decide +kernel
theorem dX8_stuck_40 : decode cX8_stuck 40 = .ok (.aload_n 0, 1) := by decide +kernel
theorem dX8_stuck_41 : decode cX8_stuck 41 = .ok (.getfield 53, 3) := by decide +kernel
theorem dX8_stuck_44 : decode cX8_stuck 44 = .ok (.invokevirtual 266, 3) := by decide +kernel
theorem dX8_stuck_47 : decode cX8_stuck 47 = .ok (.ireturn, 1) := by decide +kernel
set_option maxHeartbeats 4000000 in
set_option maxRecDepth 100000 in
theorem m_X8_stuck (l : Launch) (D : va_G) (cy : Nat → ClassId) (g : Nat → Nat) (σ : ST) (p1 : Int32) (p2 : Int32) (sz : Nat) (hJ : J8 σ)  : Met l yX8_stuck (ww yX8_stuck cX8_stuck 3 (some .int)) ({ frames := 6, cells := 0, slots := 0, locals := 384 }) (va_Pc [.ref (gO g 17), .int p1, .int p2] (pr8 D cy g σ sz)) (qi8 D cy g sz (fun r τ => Fr (fO [11, 13]) σ τ ∧ J8 τ ∧ ((-2 : Int) ≤ r.toInt ∧ r.toInt ≤ 15) ∧ True)) 0 0 (A8 cy g sz) := by
  refine Met.ofW (cc := cX8_stuck) (maxL := 3) (ret := (some .int)) (by decide) rfl ?_
  intro p e s m args below meth c s₁ B hml hv
  obtain ⟨rfl, hsz, hP, hK, hD0, hC⟩ := hv
  have hx := B.exec
  have hb := B.bytes
  have hr := B.returns
  have hts := hts_g (atoms_spec (ws := ww yX8_stuck cX8_stuck 3 (some .int)) B.pre)
  have hown : s.vm.findClass RX8 = some m.cls := findClass_of_methodNamed B.named
  have hlocks := B.notSynchronized
  clear B
  subst hsz
  have hD := fun τ => A8_D (sz := s.heap.size) hD0 τ
  clear hD0
  have hS : va_S (A8 cy g s.heap.size) s.heap s.heap [] := va_S.rf
  have hl := lv_entry ([.ref (gO g 17), .int p1, .int p2]) (n := 3) (Nat.le_of_ble_eq_true rfl)
  rw [lg_entry_eq]
  generalize (lg_sl ([.ref (gO g 17), .int p1, .int p2]) ++ List.replicate (3 - (lg_sl ([.ref (gO g 17), .int p1, .int p2])).length) Slot.unset).toArray = ls at hl ⊢
  have hl : lv_has ls 3 [(0, .ref (gO g 17)), (1, .int p1), (2, .int p2)] := hl
  refine lv_aload_n hx hb dX8_stuck_0 rfl (lv_at hl 0 rfl) ?_
  refine lv_iload_n hx hb dX8_stuck_1 rfl (lv_at hl 1 rfl) ?_
  refine lv_iload_n hx hb dX8_stuck_2 rfl (lv_at hl 2 rfl) ?_
  refine va_calli (va_runV (As := [.int p1, .int p2]) (rest := []) ⟨hx, hb, hml, hown, hts⟩ (m_X8_hasPair l D cy g σ  p1 p2 _ hJ ) (cwV 2 hts (gd_V q918 q920 q19 q125 q921) rfl rfl rfl (by decide +kernel) ⟨(Nat.le_of_ble_eq_true rfl), (Nat.le_of_ble_eq_true rfl)⟩) (pv8 hP hK hD hC hS (rv8_8 hK hP)) rfl rfl hl.1 rfl (lv_room (Nat.le_of_ble_eq_true rfl)) dX8_stuck_3 ⟨Nat.le_of_ble_eq_true rfl, Nat.le_of_ble_eq_true rfl⟩) hS (fun q _ h => up8 hS q h) (up8 hS) (fun r1 σ2 tS H1 locs ht hvm hw3 hB hz1 hk1 hS => ?_)
  have hP : va_P D clz (WD8 cy g σ2) H1 := by rw [← ht]; exact hB
  clear hB hz1 hk1 hvm ht
  generalize H1 = H at hP hS ⊢
  have hw3E : σ = σ2 := (hw3.1).symm
  subst hw3E
  have b4 : (0 : Int) ≤ r1.toInt ∧ r1.toInt ≤ 1 := hw3.2.1
  refine lv_if_ne (tgt := 12) hx hb dX8_stuck_6 (by decide) (fun c5 => ?_) (fun c5 => ?_)
  ·
    have k6 := neq32 c5
    refine lv_aload_n hx hb dX8_stuck_12 rfl (lv_at hl 0 rfl) ?_
    refine g8_8_8 hx hb hts hown hK hP (hts _ q442) dX8_stuck_13 ?_
    refine lv_aload_n hx hb dX8_stuck_16 rfl (lv_at hl 0 rfl) ?_
    obtain ⟨dx7, edx7⟩ : ∃ z : Nat, ((σ 17).1 1).toInt.toNat = z := ⟨_, rfl⟩
    have hdx7 : 0 ≤ dx7 ∧ dx7 < 5 := mnow (by have f0 := j8_8_1 hJ rfl; omega) edx7
    refine g8_8_1 (o := dx7) hx hb hts hown hK hP edx7 (hts _ q435) dX8_stuck_17 ?_
    refine lv_iload_n hx hb dX8_stuck_20 rfl (lv_at hl 1 rfl) ?_
    refine lv_iload_n hx hb dX8_stuck_21 rfl (lv_at hl 2 rfl) ?_
    refine va_callv (va_runV (As := [.ref (gO g dx7), .int p1, .int p2]) (rest := []) ⟨hx, hb, hml, hown, hts⟩ (m_X3_aim l D cy g σ  dx7 p1 p2 _ hJ (show 0 ≤ dx7 ∧ dx7 < 5 from hdx7)) (cwV 3 hts (gd_V q922 q923 q924 q129 q925) rfl rfl rfl (by decide +kernel) ⟨(Nat.le_of_ble_eq_true rfl), (Nat.le_of_ble_eq_true rfl)⟩) (pv8 hP hK hD hC hS (rv8_3 hK hP)) rfl rfl hl.1 rfl (lv_room (Nat.le_of_ble_eq_true rfl)) dX8_stuck_22 ⟨Nat.le_of_ble_eq_true rfl, Nat.le_of_ble_eq_true rfl⟩) hS (fun q _ h => up8 hS q h) (up8 hS) (fun σ9 tS H1 locs ht hvm hw10 hB hz1 hk1 hS => ?_)
    have hP : va_P D clz (WD8 cy g σ9) H1 := by rw [← ht]; exact hB
    clear hB hz1 hk1 hvm ht
    generalize H1 = H at hP hS ⊢
    have hF11 : Fr (fO [11, 13]) σ σ9 := hw10.1
    have hJ12 : J8 σ9 := hw10.2.1
    refine lv_aload_n hx hb dX8_stuck_25 rfl (lv_at hl 0 rfl) ?_
    refine g8_8_8 hx hb hts hown hK hP (hts _ q442) dX8_stuck_26 ?_
    refine lv_aload_n hx hb dX8_stuck_29 rfl (lv_at hl 0 rfl) ?_
    refine g8_8_1 (o := dx7) hx hb hts hown hK hP ((congrArg (fun z : Int32 => z.toInt.toNat) ((hF11 17 1 (fO_n (nmc (by decide) (nmc (by decide) nm0)))).1)).trans edx7) (hts _ q435) dX8_stuck_30 ?_
    refine g8_0_0 (x := ((σ dx7).1 0)) hx hb hts hown hK hP hdx7 ((hF11 dx7 0 (fO_n (nmc (nel hdx7 (by decide)) (nmc (nel hdx7 (by decide)) nm0)))).1) (hts _ q194) dX8_stuck_33 ?_
    refine lv_iconst (v := 0) hx hb dX8_stuck_36 (by decide) ?_
    refine va_callv (va_runV (As := [.int ((σ dx7).1 0), .int 0]) (rest := []) ⟨hx, hb, hml, hown, hts⟩ (m_X3_layWays l D cy g σ9  ((σ dx7).1 0) (0) _ hJ12 ) (cwV 2 hts (gd_V q936 q937 q938 q129 q939) rfl rfl rfl (by decide +kernel) ⟨(Nat.le_of_ble_eq_true rfl), (Nat.le_of_ble_eq_true rfl)⟩) (pv8 hP hK hD hC hS (rv8_3 hK hP)) rfl rfl hl.1 rfl (lv_room (Nat.le_of_ble_eq_true rfl)) dX8_stuck_37 ⟨Nat.le_of_ble_eq_true rfl, Nat.le_of_ble_eq_true rfl⟩) hS (fun q _ h => up8 hS q h) (up8 hS) (fun σ14 tS H1 locs ht hvm hw15 hB hz1 hk1 hS => ?_)
    have hP : va_P D clz (WD8 cy g σ14) H1 := by rw [← ht]; exact hB
    clear hB hz1 hk1 hvm ht
    generalize H1 = H at hP hS ⊢
    have hF16 : Fr (fO [13]) σ9 σ14 := hw15.1
    have hJ17 : J8 σ14 := hw15.2.1
    refine lv_aload_n hx hb dX8_stuck_40 rfl (lv_at hl 0 rfl) ?_
    refine g8_8_8 hx hb hts hown hK hP (hts _ q442) dX8_stuck_41 ?_
    refine va_calli (va_runV (As := []) (rest := []) ⟨hx, hb, hml, hown, hts⟩ (m_X3_firstUnreached l D cy g σ14   _ hJ17 ) (cwV 0 hts (gd_V q1024 q1025 q1026 q129 q1027) rfl rfl rfl (by decide +kernel) ⟨(Nat.le_of_ble_eq_true rfl), (Nat.le_of_ble_eq_true rfl)⟩) (pv8 hP hK hD hC hS (rv8_3 hK hP)) rfl rfl hl.1 rfl (lv_room (Nat.le_of_ble_eq_true rfl)) dX8_stuck_44 ⟨Nat.le_of_ble_eq_true rfl, Nat.le_of_ble_eq_true rfl⟩) hS (fun q _ h => up8 hS q h) (up8 hS) (fun r18 σ19 tS H1 locs ht hvm hw20 hB hz1 hk1 hS => ?_)
    have hP : va_P D clz (WD8 cy g σ19) H1 := by rw [← ht]; exact hB
    clear hB hz1 hk1 hvm ht
    generalize H1 = H at hP hS ⊢
    have hF21 : Fr (fO [13]) σ14 σ19 := hw20.1
    have hJ22 : J8 σ19 := hw20.2.1
    have b23 : (-1 : Int) ≤ r18.toInt ∧ r18.toInt ≤ 15 := hw20.2.2.1
    exact W.iret (v := r18) hx hb hr (fun tS ht hW => ⟨⟨r18, σ19, rfl, ⟨Fr.tr (Fr.tr (Fr.tr (Fr.rf) hF11 (fO_sub (fun _ q => q))) hF16 (fO_sub (by simp))) hF21 (fO_sub (by simp)), hJ22, (show (-2 : Int) ≤ r18.toInt ∧ r18.toInt ≤ 15 from (by have f0 := b23; have g0 := rg32 r18; omega)), trivial⟩, (show va_P D clz (WD8 cy g σ19) tS.heap by rw [ht]; exact hP)⟩, hS.F ht⟩) hS.2.2 dX8_stuck_47
  ·
    have k24 := peq32 c5
    refine lv_bipush (v := (-2)) hx hb dX8_stuck_9 (by decide) ?_
    exact W.iret (v := (-2)) hx hb hr (fun tS ht hW => ⟨⟨(-2), σ, rfl, ⟨Fr.rf, hJ, (show (-2 : Int) ≤ ((-2) : Int32).toInt ∧ ((-2) : Int32).toInt ≤ 15 from (by have zm2 : ((-2) : Int32).toInt = (-2) := (by decide); omega)), trivial⟩, (show va_P D clz (WD8 cy g σ) tS.heap by rw [ht]; exact hP)⟩, hS.F ht⟩) hS.2.2 dX8_stuck_11

theorem q1039 : Cond.code yX3_leastQuick cX3_leastQuick 3 (some .int) ∈ lw_g := lw_gm (List.mem_of_getElem? (i := 1039) (by decide +kernel)) rfl
theorem dX3_leastQuick_0 : decode cX3_leastQuick 0 = .ok (.aload_n 0, 1) := by decide +kernel
theorem dX3_leastQuick_1 : decode cX3_leastQuick 1 = .ok (.getfield 71, 3) := by decide +kernel
theorem dX3_leastQuick_4 : decode cX3_leastQuick 4 = .ok (.istore_n 1, 1) := by decide +kernel
theorem dX3_leastQuick_5 : decode cX3_leastQuick 5 = .ok (.aload_n 0, 1) := by decide +kernel
theorem dX3_leastQuick_6 : decode cX3_leastQuick 6 = .ok (.bipush 9, 2) := by decide +kernel
theorem dX3_leastQuick_8 : decode cX3_leastQuick 8 = .ok (.putfield 71, 3) := by decide +kernel
theorem dX3_leastQuick_11 : decode cX3_leastQuick 11 = .ok (.aload_n 0, 1) := by decide +kernel
theorem dX3_leastQuick_12 : decode cX3_leastQuick 12 = .ok (.iconst 2, 1) := by decide +kernel
theorem dX3_leastQuick_13 : decode cX3_leastQuick 13 = .ok (.invokevirtual 142, 3) := by decide +kernel
theorem dX3_leastQuick_16 : decode cX3_leastQuick 16 = .ok (.aload_n 0, 1) := by decide +kernel
theorem dX3_leastQuick_17 : decode cX3_leastQuick 17 = .ok (.iload_n 1, 1) := by decide +kernel
theorem dX3_leastQuick_18 : decode cX3_leastQuick 18 = .ok (.putfield 71, 3) := by decide +kernel
theorem dX3_leastQuick_21 : decode cX3_leastQuick 21 = .ok (.aload_n 0, 1) := by decide +kernel
theorem dX3_leastQuick_22 : decode cX3_leastQuick 22 = .ok (.invokevirtual 146, 3) := by decide +kernel
theorem dX3_leastQuick_25 : decode cX3_leastQuick 25 = .ok (.istore_n 2, 1) := by decide +kernel
theorem dX3_leastQuick_26 : decode cX3_leastQuick 26 = .ok (.iload_n 2, 1) := by decide +kernel
theorem dX3_leastQuick_27 : decode cX3_leastQuick 27 = .ok (.ldc 125, 2) := by decide +kernel
theorem dX3_leastQuick_29 : decode cX3_leastQuick 29 = .ok (.if_icmp .ne 7, 3) := by decide +kernel
theorem dX3_leastQuick_32 : decode cX3_leastQuick 32 = .ok (.iconst (-1), 1) := by decide +kernel
theorem dX3_leastQuick_33 : decode cX3_leastQuick 33 = .ok (.goto 4, 3) := by decide +kernel
theorem dX3_leastQuick_36 : decode cX3_leastQuick 36 = .ok (.iload_n 2, 1) := by decide +kernel
theorem dX3_leastQuick_37 : decode cX3_leastQuick 37 = .ok (.ireturn, 1) := by decide +kernel
set_option maxHeartbeats 4000000 in
set_option maxRecDepth 100000 in
theorem m_X3_leastQuick (l : Launch) (D : va_G) (cy : Nat → ClassId) (g : Nat → Nat) (σ : ST)  (sz : Nat) (hJ : J8 σ)  : Met l yX3_leastQuick (ww yX3_leastQuick cX3_leastQuick 3 (some .int)) ({ frames := 5, cells := 0, slots := 0, locals := 320 }) (va_Pc [.ref (gO g 13)] (pr8 D cy g σ sz)) (qi8 D cy g sz (fun r τ => Fr (fO [13]) σ τ ∧ J8 τ ∧ ((-2147483648 : Int) ≤ r.toInt ∧ r.toInt ≤ 999999999) ∧ True)) 0 0 (A8 cy g sz) := by
  refine Met.ofW (cc := cX3_leastQuick) (maxL := 3) (ret := (some .int)) (by decide) rfl ?_
  intro p e s m args below meth c s₁ B hml hv
  obtain ⟨rfl, hsz, hP, hK, hD0, hC⟩ := hv
  have hx := B.exec
  have hb := B.bytes
  have hr := B.returns
  have hts := hts_g (atoms_spec (ws := ww yX3_leastQuick cX3_leastQuick 3 (some .int)) B.pre)
  have hown : s.vm.findClass RX3 = some m.cls := findClass_of_methodNamed B.named
  have hlocks := B.notSynchronized
  clear B
  subst hsz
  have hD := fun τ => A8_D (sz := s.heap.size) hD0 τ
  clear hD0
  have hS : va_S (A8 cy g s.heap.size) s.heap s.heap [] := va_S.rf
  have hl := lv_entry ([.ref (gO g 13)]) (n := 3) (Nat.le_of_ble_eq_true rfl)
  rw [lg_entry_eq]
  generalize (lg_sl ([.ref (gO g 13)]) ++ List.replicate (3 - (lg_sl ([.ref (gO g 13)])).length) Slot.unset).toArray = ls at hl ⊢
  have hl : lv_has ls 3 [(0, .ref (gO g 13))] := hl
  refine lv_aload_n hx hb dX3_leastQuick_0 rfl (lv_at hl 0 rfl) ?_
  refine g8_3_5 (x := ((σ 13).1 5)) hx hb hts hown hK hP (rfl) (hts _ q290) dX3_leastQuick_1 ?_
  refine lv_istore_n (lv' := [(1, .int ((σ 13).1 5)), (0, .ref (gO g 13))]) hx hb dX3_leastQuick_4 rfl hl (by decide) rfl (fun ls hl => ?_)
  refine lv_aload_n hx hb dX3_leastQuick_5 rfl (lv_at hl 1 rfl) ?_
  refine lv_bipush (v := 9) hx hb dX3_leastQuick_6 (by decide) ?_
  refine p8_3_5 hx hb hts hown hK hP hD hS (hts _ q290) dX3_leastQuick_8 (fun H locs σ1 eσ1 hP hS => ?_)
  have hJ2 : J8 σ1 := hJ.I eσ1 rfl (show JI8 3 5 (9 : Int32) from trivial)
  refine lv_aload_n hx hb dX3_leastQuick_11 rfl (lv_at hl 1 rfl) ?_
  refine lv_iconst (v := 2) hx hb dX3_leastQuick_12 (by decide) ?_
  refine va_callv (va_runV (As := [.int 2]) (rest := []) ⟨hx, hb, hml, hown, hts⟩ (m_X3_weigh l D cy g σ1  (2) _ hJ2 (show (0 : Int) ≤ (2 : Int32).toInt ∧ (2 : Int32).toInt ≤ 3 from (by have z2 : (2 : Int32).toInt = 2 := (by decide); omega))) (cwV 1 hts (gd_V q950 q952 q22 q129 q953) rfl rfl rfl (by decide +kernel) ⟨(Nat.le_of_ble_eq_true rfl), (Nat.le_of_ble_eq_true rfl)⟩) (pv8 hP hK hD hC hS (rv8_3 hK hP)) rfl rfl hl.1 rfl (lv_room (Nat.le_of_ble_eq_true rfl)) dX3_leastQuick_13 ⟨Nat.le_of_ble_eq_true rfl, Nat.le_of_ble_eq_true rfl⟩) hS (fun q _ h => up8 hS q h) (up8 hS) (fun σ4 tS H1 locs ht hvm hw5 hB hz1 hk1 hS => ?_)
  have hP : va_P D clz (WD8 cy g σ4) H1 := by rw [← ht]; exact hB
  clear hB hz1 hk1 hvm ht
  generalize H1 = H at hP hS ⊢
  have hF6 : Fr (fO [13]) σ1 σ4 := hw5.1
  have hJ7 : J8 σ4 := hw5.2.1
  refine lv_aload_n hx hb dX3_leastQuick_16 rfl (lv_at hl 1 rfl) ?_
  refine lv_iload_n hx hb dX3_leastQuick_17 rfl (lv_at hl 0 rfl) ?_
  refine p8_3_5 hx hb hts hown hK hP hD hS (hts _ q290) dX3_leastQuick_18 (fun H locs σ8 eσ8 hP hS => ?_)
  have hJ9 : J8 σ8 := hJ7.I eσ8 rfl (show JI8 3 5 ((σ 13).1 5) from trivial)
  refine lv_aload_n hx hb dX3_leastQuick_21 rfl (lv_at hl 1 rfl) ?_
  refine va_calli (va_runV (As := []) (rest := []) ⟨hx, hb, hml, hown, hts⟩ (m_X3_leastAtFirst l D cy g σ8   _ hJ9 ) (cwV 0 hts (gd_V q984 q986 q28 q129 q987) rfl rfl rfl (by decide +kernel) ⟨(Nat.le_of_ble_eq_true rfl), (Nat.le_of_ble_eq_true rfl)⟩) (pv8 hP hK hD hC hS (rv8_3 hK hP)) rfl rfl hl.1 rfl (lv_room (Nat.le_of_ble_eq_true rfl)) dX3_leastQuick_22 ⟨Nat.le_of_ble_eq_true rfl, Nat.le_of_ble_eq_true rfl⟩) hS (fun q _ h => up8 hS q h) (up8 hS) (fun r10 σ11 tS H1 locs ht hvm hw12 hB hz1 hk1 hS => ?_)
  have hP : va_P D clz (WD8 cy g σ11) H1 := by rw [← ht]; exact hB
  clear hB hz1 hk1 hvm ht
  generalize H1 = H at hP hS ⊢
  have hw12E : σ8 = σ11 := (hw12.1).symm
  subst hw12E
  have b13 : (-2147483648 : Int) ≤ r10.toInt ∧ r10.toInt ≤ 1000000000 := hw12.2.1
  refine lv_istore_n (lv' := [(2, .int r10), (1, .int ((σ 13).1 5)), (0, .ref (gO g 13))]) hx hb dX3_leastQuick_25 rfl hl (by decide) rfl (fun ls hl => ?_)
  refine lv_iload_n hx hb dX3_leastQuick_26 rfl (lv_at hl 0 rfl) ?_
  refine lv_ldc (v := 1000000000) hx hb hown (hts _ q958) dX3_leastQuick_27 ?_
  refine lv_icmp_ne (tgt := 36) hx hb dX3_leastQuick_29 (by decide) (fun c14 => ?_) (fun c14 => ?_)
  ·
    have k15 := neq32 c14
    refine lv_iload_n hx hb dX3_leastQuick_36 rfl (lv_at hl 0 rfl) ?_
    exact W.iret (v := r10) hx hb hr (fun tS ht hW => ⟨⟨r10, σ8, rfl, ⟨Fr.tr (Fr.tr (Fr.tr (Fr.rf) (sI_f eσ1) (fN_O mem0)) hF6 (fO_sub (fun _ q => q))) (sI_f eσ8) (fN_O mem0), hJ9, (show (-2147483648 : Int) ≤ r10.toInt ∧ r10.toInt ≤ 999999999 from (by have f0 := b13; have f1 := k15; have g0 := rg32 r10; have z1000000000 : (1000000000 : Int32).toInt = 1000000000 := (by decide); omega)), trivial⟩, (show va_P D clz (WD8 cy g σ8) tS.heap by rw [ht]; exact hP)⟩, hS.F ht⟩) hS.2.2 dX3_leastQuick_37
  ·
    have k16 := peq32 c14
    refine lv_iconst (v := (-1)) hx hb dX3_leastQuick_32 (by decide) ?_
    refine lv_goto (tgt := 37) hx hb dX3_leastQuick_33 (by decide) ?_
    exact W.iret (v := (-1)) hx hb hr (fun tS ht hW => ⟨⟨(-1), σ8, rfl, ⟨Fr.tr (Fr.tr (Fr.tr (Fr.rf) (sI_f eσ1) (fN_O mem0)) hF6 (fO_sub (fun _ q => q))) (sI_f eσ8) (fN_O mem0), hJ9, (show (-2147483648 : Int) ≤ ((-1) : Int32).toInt ∧ ((-1) : Int32).toInt ≤ 999999999 from (by have zm1 : ((-1) : Int32).toInt = (-1) := (by decide); omega)), trivial⟩, (show va_P D clz (WD8 cy g σ8) tS.heap by rw [ht]; exact hP)⟩, hS.F ht⟩) hS.2.2 dX3_leastQuick_37

theorem q1035 : Cond.code yX8_quick cX8_quick 3 (some .int) ∈ lw_g := lw_gm (List.mem_of_getElem? (i := 1035) (by decide +kernel)) rfl
theorem q1036 : Cond.methodLink RX8 269 yX3_leastQuick ∈ lw_g := lw_gm (List.mem_of_getElem? (i := 1036) (by decide +kernel)) rfl
theorem q1037 : Cond.instanceMethod yX3_leastQuick ∈ lw_g := lw_gm (List.mem_of_getElem? (i := 1037) (by decide +kernel)) rfl
theorem q1038 : Cond.selects RX3 yX3_leastQuick yX3_leastQuick ∈ lw_g := lw_gm (List.mem_of_getElem? (i := 1038) (by decide +kernel)) rfl
theorem dX8_quick_0 : decode cX8_quick 0 = .ok (.aload_n 0, 1) := by decide +kernel
theorem dX8_quick_1 : decode cX8_quick 1 = .ok (.iload_n 1, 1) := by decide +kernel
theorem dX8_quick_2 : decode cX8_quick 2 = .ok (.iload_n 2, 1) := by decide +kernel
theorem dX8_quick_3 : decode cX8_quick 3 = .ok (.invokevirtual 235, 3) := by decide +kernel
theorem dX8_quick_6 : decode cX8_quick 6 = .ok (.ifCond .ne 6, 3) := by decide +kernel
theorem dX8_quick_9 : decode cX8_quick 9 = .ok (.bipush (-2), 2) := by decide +kernel
theorem dX8_quick_11 : decode cX8_quick 11 = .ok (.ireturn, 1) := by decide +kernel
theorem dX8_quick_12 : decode cX8_quick 12 = .ok (.aload_n 0, 1) := by decide +kernel
theorem dX8_quick_13 : decode cX8_quick 13 = .ok (.getfield 53, 3) := by decide +kernel
theorem dX8_quick_16 : decode cX8_quick 16 = .ok (.aload_n 0, 1) := by decide +kernel
theorem dX8_quick_17 : decode cX8_quick 17 = .ok (.getfield 19, 3) := by decide +kernel
theorem dX8_quick_20 : decode cX8_quick 20 = .ok (.iload_n 1, 1) := by decide +kernel
theorem dX8_quick_21 : decode cX8_quick 21 = .ok (.iload_n 2, 1) := by decide +kernel
theorem dX8_quick_22 : decode cX8_quick 22 = .ok (.invokevirtual 238, 3) := by decide +kernel
theorem dX8_quick_25 : decode cX8_quick 25 = .ok (.aload_n 0, 1) := by decide +kernel
theorem dX8_quick_26 : decode cX8_quick 26 = .ok (.getfield 53, 3) := by decide +kernel
theorem dX8_quick_29 : decode cX8_quick 29 = .ok (.aload_n 0, 1) := by decide +kernel
theorem dX8_quick_30 : decode cX8_quick 30 = .ok (.getfield 19, 3) := by decide +kernel
theorem dX8_quick_33 : decode cX8_quick 33 = .ok (.getfield 104, 3) := by decide +kernel
theorem dX8_quick_36 : decode cX8_quick 36 = .ok (.iconst 0, 1) := by decide +kernel
theorem dX8_quick_37 : decode cX8_quick 37 = .ok (.invokevirtual 241, 3) := by decide +kernel
theorem dX8_quick_40 : decode cX8_quick 40 = .ok (.aload_n 0, 1) := by decide +kernel
theorem dX8_quick_41 : decode cX8_quick 41 = .ok (.getfield 53, 3) := by decide +kernel
theorem dX8_quick_44 : decode cX8_quick 44 = .ok (.invokevirtual 269, 3) := by decide +kernel
theorem dX8_quick_47 : decode cX8_quick 47 = .ok (.ireturn, 1) := by decide +kernel
set_option maxHeartbeats 4000000 in
set_option maxRecDepth 100000 in
theorem m_X8_quick (l : Launch) (D : va_G) (cy : Nat → ClassId) (g : Nat → Nat) (σ : ST) (p1 : Int32) (p2 : Int32) (sz : Nat) (hJ : J8 σ)  : Met l yX8_quick (ww yX8_quick cX8_quick 3 (some .int)) ({ frames := 6, cells := 0, slots := 0, locals := 384 }) (va_Pc [.ref (gO g 17), .int p1, .int p2] (pr8 D cy g σ sz)) (qi8 D cy g sz (fun r τ => Fr (fO [11, 13]) σ τ ∧ J8 τ ∧ ((-2147483648 : Int) ≤ r.toInt ∧ r.toInt ≤ 999999999) ∧ True)) 0 0 (A8 cy g sz) := by
  refine Met.ofW (cc := cX8_quick) (maxL := 3) (ret := (some .int)) (by decide) rfl ?_
  intro p e s m args below meth c s₁ B hml hv
  obtain ⟨rfl, hsz, hP, hK, hD0, hC⟩ := hv
  have hx := B.exec
  have hb := B.bytes
  have hr := B.returns
  have hts := hts_g (atoms_spec (ws := ww yX8_quick cX8_quick 3 (some .int)) B.pre)
  have hown : s.vm.findClass RX8 = some m.cls := findClass_of_methodNamed B.named
  have hlocks := B.notSynchronized
  clear B
  subst hsz
  have hD := fun τ => A8_D (sz := s.heap.size) hD0 τ
  clear hD0
  have hS : va_S (A8 cy g s.heap.size) s.heap s.heap [] := va_S.rf
  have hl := lv_entry ([.ref (gO g 17), .int p1, .int p2]) (n := 3) (Nat.le_of_ble_eq_true rfl)
  rw [lg_entry_eq]
  generalize (lg_sl ([.ref (gO g 17), .int p1, .int p2]) ++ List.replicate (3 - (lg_sl ([.ref (gO g 17), .int p1, .int p2])).length) Slot.unset).toArray = ls at hl ⊢
  have hl : lv_has ls 3 [(0, .ref (gO g 17)), (1, .int p1), (2, .int p2)] := hl
  refine lv_aload_n hx hb dX8_quick_0 rfl (lv_at hl 0 rfl) ?_
  refine lv_iload_n hx hb dX8_quick_1 rfl (lv_at hl 1 rfl) ?_
  refine lv_iload_n hx hb dX8_quick_2 rfl (lv_at hl 2 rfl) ?_
  refine va_calli (va_runV (As := [.int p1, .int p2]) (rest := []) ⟨hx, hb, hml, hown, hts⟩ (m_X8_hasPair l D cy g σ  p1 p2 _ hJ ) (cwV 2 hts (gd_V q918 q920 q19 q125 q921) rfl rfl rfl (by decide +kernel) ⟨(Nat.le_of_ble_eq_true rfl), (Nat.le_of_ble_eq_true rfl)⟩) (pv8 hP hK hD hC hS (rv8_8 hK hP)) rfl rfl hl.1 rfl (lv_room (Nat.le_of_ble_eq_true rfl)) dX8_quick_3 ⟨Nat.le_of_ble_eq_true rfl, Nat.le_of_ble_eq_true rfl⟩) hS (fun q _ h => up8 hS q h) (up8 hS) (fun r1 σ2 tS H1 locs ht hvm hw3 hB hz1 hk1 hS => ?_)
  have hP : va_P D clz (WD8 cy g σ2) H1 := by rw [← ht]; exact hB
  clear hB hz1 hk1 hvm ht
  generalize H1 = H at hP hS ⊢
  have hw3E : σ = σ2 := (hw3.1).symm
  subst hw3E
  have b4 : (0 : Int) ≤ r1.toInt ∧ r1.toInt ≤ 1 := hw3.2.1
  refine lv_if_ne (tgt := 12) hx hb dX8_quick_6 (by decide) (fun c5 => ?_) (fun c5 => ?_)
  ·
    have k6 := neq32 c5
    refine lv_aload_n hx hb dX8_quick_12 rfl (lv_at hl 0 rfl) ?_
    refine g8_8_8 hx hb hts hown hK hP (hts _ q442) dX8_quick_13 ?_
    refine lv_aload_n hx hb dX8_quick_16 rfl (lv_at hl 0 rfl) ?_
    obtain ⟨dx7, edx7⟩ : ∃ z : Nat, ((σ 17).1 1).toInt.toNat = z := ⟨_, rfl⟩
    have hdx7 : 0 ≤ dx7 ∧ dx7 < 5 := mnow (by have f0 := j8_8_1 hJ rfl; omega) edx7
    refine g8_8_1 (o := dx7) hx hb hts hown hK hP edx7 (hts _ q435) dX8_quick_17 ?_
    refine lv_iload_n hx hb dX8_quick_20 rfl (lv_at hl 1 rfl) ?_
    refine lv_iload_n hx hb dX8_quick_21 rfl (lv_at hl 2 rfl) ?_
    refine va_callv (va_runV (As := [.ref (gO g dx7), .int p1, .int p2]) (rest := []) ⟨hx, hb, hml, hown, hts⟩ (m_X3_aim l D cy g σ  dx7 p1 p2 _ hJ (show 0 ≤ dx7 ∧ dx7 < 5 from hdx7)) (cwV 3 hts (gd_V q922 q923 q924 q129 q925) rfl rfl rfl (by decide +kernel) ⟨(Nat.le_of_ble_eq_true rfl), (Nat.le_of_ble_eq_true rfl)⟩) (pv8 hP hK hD hC hS (rv8_3 hK hP)) rfl rfl hl.1 rfl (lv_room (Nat.le_of_ble_eq_true rfl)) dX8_quick_22 ⟨Nat.le_of_ble_eq_true rfl, Nat.le_of_ble_eq_true rfl⟩) hS (fun q _ h => up8 hS q h) (up8 hS) (fun σ9 tS H1 locs ht hvm hw10 hB hz1 hk1 hS => ?_)
    have hP : va_P D clz (WD8 cy g σ9) H1 := by rw [← ht]; exact hB
    clear hB hz1 hk1 hvm ht
    generalize H1 = H at hP hS ⊢
    have hF11 : Fr (fO [11, 13]) σ σ9 := hw10.1
    have hJ12 : J8 σ9 := hw10.2.1
    refine lv_aload_n hx hb dX8_quick_25 rfl (lv_at hl 0 rfl) ?_
    refine g8_8_8 hx hb hts hown hK hP (hts _ q442) dX8_quick_26 ?_
    refine lv_aload_n hx hb dX8_quick_29 rfl (lv_at hl 0 rfl) ?_
    refine g8_8_1 (o := dx7) hx hb hts hown hK hP ((congrArg (fun z : Int32 => z.toInt.toNat) ((hF11 17 1 (fO_n (nmc (by decide) (nmc (by decide) nm0)))).1)).trans edx7) (hts _ q435) dX8_quick_30 ?_
    refine g8_0_0 (x := ((σ dx7).1 0)) hx hb hts hown hK hP hdx7 ((hF11 dx7 0 (fO_n (nmc (nel hdx7 (by decide)) (nmc (nel hdx7 (by decide)) nm0)))).1) (hts _ q194) dX8_quick_33 ?_
    refine lv_iconst (v := 0) hx hb dX8_quick_36 (by decide) ?_
    refine va_callv (va_runV (As := [.int ((σ dx7).1 0), .int 0]) (rest := []) ⟨hx, hb, hml, hown, hts⟩ (m_X3_layWays l D cy g σ9  ((σ dx7).1 0) (0) _ hJ12 ) (cwV 2 hts (gd_V q936 q937 q938 q129 q939) rfl rfl rfl (by decide +kernel) ⟨(Nat.le_of_ble_eq_true rfl), (Nat.le_of_ble_eq_true rfl)⟩) (pv8 hP hK hD hC hS (rv8_3 hK hP)) rfl rfl hl.1 rfl (lv_room (Nat.le_of_ble_eq_true rfl)) dX8_quick_37 ⟨Nat.le_of_ble_eq_true rfl, Nat.le_of_ble_eq_true rfl⟩) hS (fun q _ h => up8 hS q h) (up8 hS) (fun σ14 tS H1 locs ht hvm hw15 hB hz1 hk1 hS => ?_)
    have hP : va_P D clz (WD8 cy g σ14) H1 := by rw [← ht]; exact hB
    clear hB hz1 hk1 hvm ht
    generalize H1 = H at hP hS ⊢
    have hF16 : Fr (fO [13]) σ9 σ14 := hw15.1
    have hJ17 : J8 σ14 := hw15.2.1
    refine lv_aload_n hx hb dX8_quick_40 rfl (lv_at hl 0 rfl) ?_
    refine g8_8_8 hx hb hts hown hK hP (hts _ q442) dX8_quick_41 ?_
    refine va_calli (va_runV (As := []) (rest := []) ⟨hx, hb, hml, hown, hts⟩ (m_X3_leastQuick l D cy g σ14   _ hJ17 ) (cwV 0 hts (gd_V q1036 q1037 q1038 q129 q1039) rfl rfl rfl (by decide +kernel) ⟨(Nat.le_of_ble_eq_true rfl), (Nat.le_of_ble_eq_true rfl)⟩) (pv8 hP hK hD hC hS (rv8_3 hK hP)) rfl rfl hl.1 rfl (lv_room (Nat.le_of_ble_eq_true rfl)) dX8_quick_44 ⟨Nat.le_of_ble_eq_true rfl, Nat.le_of_ble_eq_true rfl⟩) hS (fun q _ h => up8 hS q h) (up8 hS) (fun r18 σ19 tS H1 locs ht hvm hw20 hB hz1 hk1 hS => ?_)
    have hP : va_P D clz (WD8 cy g σ19) H1 := by rw [← ht]; exact hB
    clear hB hz1 hk1 hvm ht
    generalize H1 = H at hP hS ⊢
    have hF21 : Fr (fO [13]) σ14 σ19 := hw20.1
    have hJ22 : J8 σ19 := hw20.2.1
    have b23 : (-2147483648 : Int) ≤ r18.toInt ∧ r18.toInt ≤ 999999999 := hw20.2.2.1
    exact W.iret (v := r18) hx hb hr (fun tS ht hW => ⟨⟨r18, σ19, rfl, ⟨Fr.tr (Fr.tr (Fr.tr (Fr.rf) hF11 (fO_sub (fun _ q => q))) hF16 (fO_sub (by simp))) hF21 (fO_sub (by simp)), hJ22, (show (-2147483648 : Int) ≤ r18.toInt ∧ r18.toInt ≤ 999999999 from (by have f0 := b23; have g0 := rg32 r18; omega)), trivial⟩, (show va_P D clz (WD8 cy g σ19) tS.heap by rw [ht]; exact hP)⟩, hS.F ht⟩) hS.2.2 dX8_quick_47
  ·
    have k24 := peq32 c5
    refine lv_bipush (v := (-2)) hx hb dX8_quick_9 (by decide) ?_
    exact W.iret (v := (-2)) hx hb hr (fun tS ht hW => ⟨⟨(-2), σ, rfl, ⟨Fr.rf, hJ, (show (-2147483648 : Int) ≤ ((-2) : Int32).toInt ∧ ((-2) : Int32).toInt ≤ 999999999 from (by have zm2 : ((-2) : Int32).toInt = (-2) := (by decide); omega)), trivial⟩, (show va_P D clz (WD8 cy g σ) tS.heap by rw [ht]; exact hP)⟩, hS.F ht⟩) hS.2.2 dX8_quick_11

theorem q1047 : Cond.code yX3_leastCents cX3_leastCents 2 (some .int) ∈ lw_g := lw_gm (List.mem_of_getElem? (i := 1047) (by decide +kernel)) rfl
theorem dX3_leastCents_0 : decode cX3_leastCents 0 = .ok (.aload_n 0, 1) := by decide +kernel
theorem dX3_leastCents_1 : decode cX3_leastCents 1 = .ok (.iconst 3, 1) := by decide +kernel
theorem dX3_leastCents_2 : decode cX3_leastCents 2 = .ok (.invokevirtual 142, 3) := by decide +kernel
theorem dX3_leastCents_5 : decode cX3_leastCents 5 = .ok (.aload_n 0, 1) := by decide +kernel
theorem dX3_leastCents_6 : decode cX3_leastCents 6 = .ok (.invokevirtual 146, 3) := by decide +kernel
theorem dX3_leastCents_9 : decode cX3_leastCents 9 = .ok (.istore_n 1, 1) := by decide +kernel
theorem dX3_leastCents_10 : decode cX3_leastCents 10 = .ok (.iload_n 1, 1) := by decide +kernel
theorem dX3_leastCents_11 : decode cX3_leastCents 11 = .ok (.ldc 125, 2) := by decide +kernel
theorem dX3_leastCents_13 : decode cX3_leastCents 13 = .ok (.if_icmp .ne 7, 3) := by decide +kernel
theorem dX3_leastCents_16 : decode cX3_leastCents 16 = .ok (.iconst (-1), 1) := by decide +kernel
theorem dX3_leastCents_17 : decode cX3_leastCents 17 = .ok (.goto 8, 3) := by decide +kernel
theorem dX3_leastCents_20 : decode cX3_leastCents 20 = .ok (.iconst 1, 1) := by decide +kernel
theorem dX3_leastCents_21 : decode cX3_leastCents 21 = .ok (.iload_n 1, 1) := by decide +kernel
theorem dX3_leastCents_22 : decode cX3_leastCents 22 = .ok (.invokestatic 129, 3) := by decide +kernel
theorem dX3_leastCents_25 : decode cX3_leastCents 25 = .ok (.ireturn, 1) := by decide +kernel
set_option maxHeartbeats 4000000 in
set_option maxRecDepth 100000 in
theorem m_X3_leastCents (l : Launch) (D : va_G) (cy : Nat → ClassId) (g : Nat → Nat) (σ : ST)  (sz : Nat) (hJ : J8 σ)  : Met l yX3_leastCents (ww yX3_leastCents cX3_leastCents 2 (some .int)) ({ frames := 5, cells := 0, slots := 0, locals := 320 }) (va_Pc [.ref (gO g 13)] (pr8 D cy g σ sz)) (qi8 D cy g sz (fun r τ => Fr (fO [13]) σ τ ∧ J8 τ ∧ ((-1 : Int) ≤ r.toInt ∧ r.toInt ≤ 999999999) ∧ True)) 0 0 (A8 cy g sz) := by
  refine Met.ofW (cc := cX3_leastCents) (maxL := 2) (ret := (some .int)) (by decide) rfl ?_
  intro p e s m args below meth c s₁ B hml hv
  obtain ⟨rfl, hsz, hP, hK, hD0, hC⟩ := hv
  have hx := B.exec
  have hb := B.bytes
  have hr := B.returns
  have hts := hts_g (atoms_spec (ws := ww yX3_leastCents cX3_leastCents 2 (some .int)) B.pre)
  have hown : s.vm.findClass RX3 = some m.cls := findClass_of_methodNamed B.named
  have hlocks := B.notSynchronized
  clear B
  subst hsz
  have hD := fun τ => A8_D (sz := s.heap.size) hD0 τ
  clear hD0
  have hS : va_S (A8 cy g s.heap.size) s.heap s.heap [] := va_S.rf
  have hl := lv_entry ([.ref (gO g 13)]) (n := 2) (Nat.le_of_ble_eq_true rfl)
  rw [lg_entry_eq]
  generalize (lg_sl ([.ref (gO g 13)]) ++ List.replicate (2 - (lg_sl ([.ref (gO g 13)])).length) Slot.unset).toArray = ls at hl ⊢
  have hl : lv_has ls 2 [(0, .ref (gO g 13))] := hl
  refine lv_aload_n hx hb dX3_leastCents_0 rfl (lv_at hl 0 rfl) ?_
  refine lv_iconst (v := 3) hx hb dX3_leastCents_1 (by decide) ?_
  refine va_callv (va_runV (As := [.int 3]) (rest := []) ⟨hx, hb, hml, hown, hts⟩ (m_X3_weigh l D cy g σ  (3) _ hJ (show (0 : Int) ≤ (3 : Int32).toInt ∧ (3 : Int32).toInt ≤ 3 from (by have z3 : (3 : Int32).toInt = 3 := (by decide); omega))) (cwV 1 hts (gd_V q950 q952 q22 q129 q953) rfl rfl rfl (by decide +kernel) ⟨(Nat.le_of_ble_eq_true rfl), (Nat.le_of_ble_eq_true rfl)⟩) (pv8 hP hK hD hC hS (rv8_3 hK hP)) rfl rfl hl.1 rfl (lv_room (Nat.le_of_ble_eq_true rfl)) dX3_leastCents_2 ⟨Nat.le_of_ble_eq_true rfl, Nat.le_of_ble_eq_true rfl⟩) hS (fun q _ h => up8 hS q h) (up8 hS) (fun σ2 tS H1 locs ht hvm hw3 hB hz1 hk1 hS => ?_)
  have hP : va_P D clz (WD8 cy g σ2) H1 := by rw [← ht]; exact hB
  clear hB hz1 hk1 hvm ht
  generalize H1 = H at hP hS ⊢
  have hF4 : Fr (fO [13]) σ σ2 := hw3.1
  have hJ5 : J8 σ2 := hw3.2.1
  refine lv_aload_n hx hb dX3_leastCents_5 rfl (lv_at hl 0 rfl) ?_
  refine va_calli (va_runV (As := []) (rest := []) ⟨hx, hb, hml, hown, hts⟩ (m_X3_leastAtFirst l D cy g σ2   _ hJ5 ) (cwV 0 hts (gd_V q984 q986 q28 q129 q987) rfl rfl rfl (by decide +kernel) ⟨(Nat.le_of_ble_eq_true rfl), (Nat.le_of_ble_eq_true rfl)⟩) (pv8 hP hK hD hC hS (rv8_3 hK hP)) rfl rfl hl.1 rfl (lv_room (Nat.le_of_ble_eq_true rfl)) dX3_leastCents_6 ⟨Nat.le_of_ble_eq_true rfl, Nat.le_of_ble_eq_true rfl⟩) hS (fun q _ h => up8 hS q h) (up8 hS) (fun r6 σ7 tS H1 locs ht hvm hw8 hB hz1 hk1 hS => ?_)
  have hP : va_P D clz (WD8 cy g σ7) H1 := by rw [← ht]; exact hB
  clear hB hz1 hk1 hvm ht
  generalize H1 = H at hP hS ⊢
  have hw8E : σ2 = σ7 := (hw8.1).symm
  subst hw8E
  have b9 : (-2147483648 : Int) ≤ r6.toInt ∧ r6.toInt ≤ 1000000000 := hw8.2.1
  refine lv_istore_n (lv' := [(1, .int r6), (0, .ref (gO g 13))]) hx hb dX3_leastCents_9 rfl hl (by decide) rfl (fun ls hl => ?_)
  refine lv_iload_n hx hb dX3_leastCents_10 rfl (lv_at hl 0 rfl) ?_
  refine lv_ldc (v := 1000000000) hx hb hown (hts _ q958) dX3_leastCents_11 ?_
  refine lv_icmp_ne (tgt := 20) hx hb dX3_leastCents_13 (by decide) (fun c10 => ?_) (fun c10 => ?_)
  ·
    have k11 := neq32 c10
    refine lv_iconst (v := 1) hx hb dX3_leastCents_20 (by decide) ?_
    refine lv_iload_n hx hb dX3_leastCents_21 rfl (lv_at hl 0 rfl) ?_
    refine va_mmax hx hb (hml.trans hl.1.symm) hown (hts _ q976) (hts _ q977) (hts _ q135) (hts _ q978) (Nat.le_of_ble_eq_true rfl) (Nat.le_of_ble_eq_true rfl) (Nat.le_refl _) (Nat.le_refl _) dX3_leastCents_22 ?_
    refine lv_topi (fun x12 ex12 => ?_)
    have t13 := maxO ex12
    exact W.iret (v := x12) hx hb hr (fun tS ht hW => ⟨⟨x12, σ2, rfl, ⟨Fr.tr (Fr.rf) hF4 (fO_sub (fun _ q => q)), hJ5, (show (-1 : Int) ≤ x12.toInt ∧ x12.toInt ≤ 999999999 from (by have f0 := t13; have f1 := b9; have f2 := k11; have g0 := rg32 r6; have g1 := rg32 x12; have z1 : (1 : Int32).toInt = 1 := (by decide); have z1000000000 : (1000000000 : Int32).toInt = 1000000000 := (by decide); omega)), trivial⟩, (show va_P D clz (WD8 cy g σ2) tS.heap by rw [ht]; exact hP)⟩, hS.F ht⟩) hS.2.2 dX3_leastCents_25
  ·
    have k14 := peq32 c10
    refine lv_iconst (v := (-1)) hx hb dX3_leastCents_16 (by decide) ?_
    refine lv_goto (tgt := 25) hx hb dX3_leastCents_17 (by decide) ?_
    exact W.iret (v := (-1)) hx hb hr (fun tS ht hW => ⟨⟨(-1), σ2, rfl, ⟨Fr.tr (Fr.rf) hF4 (fO_sub (fun _ q => q)), hJ5, (show (-1 : Int) ≤ ((-1) : Int32).toInt ∧ ((-1) : Int32).toInt ≤ 999999999 from (by have zm1 : ((-1) : Int32).toInt = (-1) := (by decide); omega)), trivial⟩, (show va_P D clz (WD8 cy g σ2) tS.heap by rw [ht]; exact hP)⟩, hS.F ht⟩) hS.2.2 dX3_leastCents_25

theorem q1043 : Cond.code yX8_cents cX8_cents 3 (some .int) ∈ lw_g := lw_gm (List.mem_of_getElem? (i := 1043) (by decide +kernel)) rfl
theorem q1044 : Cond.methodLink RX8 272 yX3_leastCents ∈ lw_g := lw_gm (List.mem_of_getElem? (i := 1044) (by decide +kernel)) rfl
theorem q1045 : Cond.instanceMethod yX3_leastCents ∈ lw_g := lw_gm (List.mem_of_getElem? (i := 1045) (by decide +kernel)) rfl
theorem q1046 : Cond.selects RX3 yX3_leastCents yX3_leastCents ∈ lw_g := lw_gm (List.mem_of_getElem? (i := 1046) (by decide +kernel)) rfl
theorem dX8_cents_0 : decode cX8_cents 0 = .ok (.aload_n 0, 1) := by decide +kernel
theorem dX8_cents_1 : decode cX8_cents 1 = .ok (.iload_n 1, 1) := by decide +kernel
theorem dX8_cents_2 : decode cX8_cents 2 = .ok (.iload_n 2, 1) := by decide +kernel
theorem dX8_cents_3 : decode cX8_cents 3 = .ok (.invokevirtual 235, 3) := by decide +kernel
theorem dX8_cents_6 : decode cX8_cents 6 = .ok (.ifCond .ne 6, 3) := by decide +kernel
theorem dX8_cents_9 : decode cX8_cents 9 = .ok (.bipush (-2), 2) := by decide +kernel
theorem dX8_cents_11 : decode cX8_cents 11 = .ok (.ireturn, 1) := by decide +kernel
theorem dX8_cents_12 : decode cX8_cents 12 = .ok (.aload_n 0, 1) := by decide +kernel
theorem dX8_cents_13 : decode cX8_cents 13 = .ok (.getfield 53, 3) := by decide +kernel
theorem dX8_cents_16 : decode cX8_cents 16 = .ok (.aload_n 0, 1) := by decide +kernel
theorem dX8_cents_17 : decode cX8_cents 17 = .ok (.getfield 19, 3) := by decide +kernel
theorem dX8_cents_20 : decode cX8_cents 20 = .ok (.iload_n 1, 1) := by decide +kernel
theorem dX8_cents_21 : decode cX8_cents 21 = .ok (.iload_n 2, 1) := by decide +kernel
theorem dX8_cents_22 : decode cX8_cents 22 = .ok (.invokevirtual 238, 3) := by decide +kernel
theorem dX8_cents_25 : decode cX8_cents 25 = .ok (.aload_n 0, 1) := by decide +kernel
theorem dX8_cents_26 : decode cX8_cents 26 = .ok (.getfield 53, 3) := by decide +kernel
theorem dX8_cents_29 : decode cX8_cents 29 = .ok (.bipush 60, 2) := by decide +kernel
theorem dX8_cents_31 : decode cX8_cents 31 = .ok (.iconst 0, 1) := by decide +kernel
theorem dX8_cents_32 : decode cX8_cents 32 = .ok (.invokevirtual 241, 3) := by decide +kernel
theorem dX8_cents_35 : decode cX8_cents 35 = .ok (.aload_n 0, 1) := by decide +kernel
theorem dX8_cents_36 : decode cX8_cents 36 = .ok (.getfield 53, 3) := by decide +kernel
theorem dX8_cents_39 : decode cX8_cents 39 = .ok (.invokevirtual 272, 3) := by decide +kernel
theorem dX8_cents_42 : decode cX8_cents 42 = .ok (.ireturn, 1) := by decide +kernel
set_option maxHeartbeats 4000000 in
set_option maxRecDepth 100000 in
theorem m_X8_cents (l : Launch) (D : va_G) (cy : Nat → ClassId) (g : Nat → Nat) (σ : ST) (p1 : Int32) (p2 : Int32) (sz : Nat) (hJ : J8 σ)  : Met l yX8_cents (ww yX8_cents cX8_cents 3 (some .int)) ({ frames := 6, cells := 0, slots := 0, locals := 384 }) (va_Pc [.ref (gO g 17), .int p1, .int p2] (pr8 D cy g σ sz)) (qi8 D cy g sz (fun r τ => Fr (fO [11, 13]) σ τ ∧ J8 τ ∧ ((-2 : Int) ≤ r.toInt ∧ r.toInt ≤ 999999999) ∧ True)) 0 0 (A8 cy g sz) := by
  refine Met.ofW (cc := cX8_cents) (maxL := 3) (ret := (some .int)) (by decide) rfl ?_
  intro p e s m args below meth c s₁ B hml hv
  obtain ⟨rfl, hsz, hP, hK, hD0, hC⟩ := hv
  have hx := B.exec
  have hb := B.bytes
  have hr := B.returns
  have hts := hts_g (atoms_spec (ws := ww yX8_cents cX8_cents 3 (some .int)) B.pre)
  have hown : s.vm.findClass RX8 = some m.cls := findClass_of_methodNamed B.named
  have hlocks := B.notSynchronized
  clear B
  subst hsz
  have hD := fun τ => A8_D (sz := s.heap.size) hD0 τ
  clear hD0
  have hS : va_S (A8 cy g s.heap.size) s.heap s.heap [] := va_S.rf
  have hl := lv_entry ([.ref (gO g 17), .int p1, .int p2]) (n := 3) (Nat.le_of_ble_eq_true rfl)
  rw [lg_entry_eq]
  generalize (lg_sl ([.ref (gO g 17), .int p1, .int p2]) ++ List.replicate (3 - (lg_sl ([.ref (gO g 17), .int p1, .int p2])).length) Slot.unset).toArray = ls at hl ⊢
  have hl : lv_has ls 3 [(0, .ref (gO g 17)), (1, .int p1), (2, .int p2)] := hl
  refine lv_aload_n hx hb dX8_cents_0 rfl (lv_at hl 0 rfl) ?_
  refine lv_iload_n hx hb dX8_cents_1 rfl (lv_at hl 1 rfl) ?_
  refine lv_iload_n hx hb dX8_cents_2 rfl (lv_at hl 2 rfl) ?_
  refine va_calli (va_runV (As := [.int p1, .int p2]) (rest := []) ⟨hx, hb, hml, hown, hts⟩ (m_X8_hasPair l D cy g σ  p1 p2 _ hJ ) (cwV 2 hts (gd_V q918 q920 q19 q125 q921) rfl rfl rfl (by decide +kernel) ⟨(Nat.le_of_ble_eq_true rfl), (Nat.le_of_ble_eq_true rfl)⟩) (pv8 hP hK hD hC hS (rv8_8 hK hP)) rfl rfl hl.1 rfl (lv_room (Nat.le_of_ble_eq_true rfl)) dX8_cents_3 ⟨Nat.le_of_ble_eq_true rfl, Nat.le_of_ble_eq_true rfl⟩) hS (fun q _ h => up8 hS q h) (up8 hS) (fun r1 σ2 tS H1 locs ht hvm hw3 hB hz1 hk1 hS => ?_)
  have hP : va_P D clz (WD8 cy g σ2) H1 := by rw [← ht]; exact hB
  clear hB hz1 hk1 hvm ht
  generalize H1 = H at hP hS ⊢
  have hw3E : σ = σ2 := (hw3.1).symm
  subst hw3E
  have b4 : (0 : Int) ≤ r1.toInt ∧ r1.toInt ≤ 1 := hw3.2.1
  refine lv_if_ne (tgt := 12) hx hb dX8_cents_6 (by decide) (fun c5 => ?_) (fun c5 => ?_)
  ·
    have k6 := neq32 c5
    refine lv_aload_n hx hb dX8_cents_12 rfl (lv_at hl 0 rfl) ?_
    refine g8_8_8 hx hb hts hown hK hP (hts _ q442) dX8_cents_13 ?_
    refine lv_aload_n hx hb dX8_cents_16 rfl (lv_at hl 0 rfl) ?_
    obtain ⟨dx7, edx7⟩ : ∃ z : Nat, ((σ 17).1 1).toInt.toNat = z := ⟨_, rfl⟩
    have hdx7 : 0 ≤ dx7 ∧ dx7 < 5 := mnow (by have f0 := j8_8_1 hJ rfl; omega) edx7
    refine g8_8_1 (o := dx7) hx hb hts hown hK hP edx7 (hts _ q435) dX8_cents_17 ?_
    refine lv_iload_n hx hb dX8_cents_20 rfl (lv_at hl 1 rfl) ?_
    refine lv_iload_n hx hb dX8_cents_21 rfl (lv_at hl 2 rfl) ?_
    refine va_callv (va_runV (As := [.ref (gO g dx7), .int p1, .int p2]) (rest := []) ⟨hx, hb, hml, hown, hts⟩ (m_X3_aim l D cy g σ  dx7 p1 p2 _ hJ (show 0 ≤ dx7 ∧ dx7 < 5 from hdx7)) (cwV 3 hts (gd_V q922 q923 q924 q129 q925) rfl rfl rfl (by decide +kernel) ⟨(Nat.le_of_ble_eq_true rfl), (Nat.le_of_ble_eq_true rfl)⟩) (pv8 hP hK hD hC hS (rv8_3 hK hP)) rfl rfl hl.1 rfl (lv_room (Nat.le_of_ble_eq_true rfl)) dX8_cents_22 ⟨Nat.le_of_ble_eq_true rfl, Nat.le_of_ble_eq_true rfl⟩) hS (fun q _ h => up8 hS q h) (up8 hS) (fun σ9 tS H1 locs ht hvm hw10 hB hz1 hk1 hS => ?_)
    have hP : va_P D clz (WD8 cy g σ9) H1 := by rw [← ht]; exact hB
    clear hB hz1 hk1 hvm ht
    generalize H1 = H at hP hS ⊢
    have hF11 : Fr (fO [11, 13]) σ σ9 := hw10.1
    have hJ12 : J8 σ9 := hw10.2.1
    refine lv_aload_n hx hb dX8_cents_25 rfl (lv_at hl 0 rfl) ?_
    refine g8_8_8 hx hb hts hown hK hP (hts _ q442) dX8_cents_26 ?_
    refine lv_bipush (v := 60) hx hb dX8_cents_29 (by decide) ?_
    refine lv_iconst (v := 0) hx hb dX8_cents_31 (by decide) ?_
    refine va_callv (va_runV (As := [.int 60, .int 0]) (rest := []) ⟨hx, hb, hml, hown, hts⟩ (m_X3_layWays l D cy g σ9  (60) (0) _ hJ12 ) (cwV 2 hts (gd_V q936 q937 q938 q129 q939) rfl rfl rfl (by decide +kernel) ⟨(Nat.le_of_ble_eq_true rfl), (Nat.le_of_ble_eq_true rfl)⟩) (pv8 hP hK hD hC hS (rv8_3 hK hP)) rfl rfl hl.1 rfl (lv_room (Nat.le_of_ble_eq_true rfl)) dX8_cents_32 ⟨Nat.le_of_ble_eq_true rfl, Nat.le_of_ble_eq_true rfl⟩) hS (fun q _ h => up8 hS q h) (up8 hS) (fun σ14 tS H1 locs ht hvm hw15 hB hz1 hk1 hS => ?_)
    have hP : va_P D clz (WD8 cy g σ14) H1 := by rw [← ht]; exact hB
    clear hB hz1 hk1 hvm ht
    generalize H1 = H at hP hS ⊢
    have hF16 : Fr (fO [13]) σ9 σ14 := hw15.1
    have hJ17 : J8 σ14 := hw15.2.1
    refine lv_aload_n hx hb dX8_cents_35 rfl (lv_at hl 0 rfl) ?_
    refine g8_8_8 hx hb hts hown hK hP (hts _ q442) dX8_cents_36 ?_
    refine va_calli (va_runV (As := []) (rest := []) ⟨hx, hb, hml, hown, hts⟩ (m_X3_leastCents l D cy g σ14   _ hJ17 ) (cwV 0 hts (gd_V q1044 q1045 q1046 q129 q1047) rfl rfl rfl (by decide +kernel) ⟨(Nat.le_of_ble_eq_true rfl), (Nat.le_of_ble_eq_true rfl)⟩) (pv8 hP hK hD hC hS (rv8_3 hK hP)) rfl rfl hl.1 rfl (lv_room (Nat.le_of_ble_eq_true rfl)) dX8_cents_39 ⟨Nat.le_of_ble_eq_true rfl, Nat.le_of_ble_eq_true rfl⟩) hS (fun q _ h => up8 hS q h) (up8 hS) (fun r18 σ19 tS H1 locs ht hvm hw20 hB hz1 hk1 hS => ?_)
    have hP : va_P D clz (WD8 cy g σ19) H1 := by rw [← ht]; exact hB
    clear hB hz1 hk1 hvm ht
    generalize H1 = H at hP hS ⊢
    have hF21 : Fr (fO [13]) σ14 σ19 := hw20.1
    have hJ22 : J8 σ19 := hw20.2.1
    have b23 : (-1 : Int) ≤ r18.toInt ∧ r18.toInt ≤ 999999999 := hw20.2.2.1
    exact W.iret (v := r18) hx hb hr (fun tS ht hW => ⟨⟨r18, σ19, rfl, ⟨Fr.tr (Fr.tr (Fr.tr (Fr.rf) hF11 (fO_sub (fun _ q => q))) hF16 (fO_sub (by simp))) hF21 (fO_sub (by simp)), hJ22, (show (-2 : Int) ≤ r18.toInt ∧ r18.toInt ≤ 999999999 from (by have f0 := b23; have g0 := rg32 r18; omega)), trivial⟩, (show va_P D clz (WD8 cy g σ19) tS.heap by rw [ht]; exact hP)⟩, hS.F ht⟩) hS.2.2 dX8_cents_42
  ·
    have k24 := peq32 c5
    refine lv_bipush (v := (-2)) hx hb dX8_cents_9 (by decide) ?_
    exact W.iret (v := (-2)) hx hb hr (fun tS ht hW => ⟨⟨(-2), σ, rfl, ⟨Fr.rf, hJ, (show (-2 : Int) ≤ ((-2) : Int32).toInt ∧ ((-2) : Int32).toInt ≤ 999999999 from (by have zm2 : ((-2) : Int32).toInt = (-2) := (by decide); omega)), trivial⟩, (show va_P D clz (WD8 cy g σ) tS.heap by rw [ht]; exact hP)⟩, hS.F ht⟩) hS.2.2 dX8_cents_11

theorem q1059 : Cond.code yX3_sumBehind cX3_sumBehind 5 (some .int) ∈ lw_g := lw_gm (List.mem_of_getElem? (i := 1059) (by decide +kernel)) rfl
theorem q1060 : Cond.constant RX3 162 (1000000001) ∈ lw_g := lw_gm (List.mem_of_getElem? (i := 1060) (by decide +kernel)) rfl
theorem dX3_sumBehind_0 : decode cX3_sumBehind 0 = .ok (.iconst 0, 1) := by decide +kernel
theorem dX3_sumBehind_1 : decode cX3_sumBehind 1 = .ok (.istore_n 3, 1) := by decide +kernel
theorem dX3_sumBehind_2 : decode cX3_sumBehind 2 = .ok (.aload_n 0, 1) := by decide +kernel
theorem dX3_sumBehind_3 : decode cX3_sumBehind 3 = .ok (.getfield 34, 3) := by decide +kernel
theorem dX3_sumBehind_6 : decode cX3_sumBehind 6 = .ok (.iload_n 1, 1) := by decide +kernel
theorem dX3_sumBehind_7 : decode cX3_sumBehind 7 = .ok (.iconst 1, 1) := by decide +kernel
theorem dX3_sumBehind_8 : decode cX3_sumBehind 8 = .ok (.iadd, 1) := by decide +kernel
theorem dX3_sumBehind_9 : decode cX3_sumBehind 9 = .ok (.iaload, 1) := by decide +kernel
theorem dX3_sumBehind_10 : decode cX3_sumBehind 10 = .ok (.istore 4, 2) := by decide +kernel
theorem dX3_sumBehind_12 : decode cX3_sumBehind 12 = .ok (.iload 4, 2) := by decide +kernel
theorem dX3_sumBehind_14 : decode cX3_sumBehind 14 = .ok (.aload_n 0, 1) := by decide +kernel
theorem dX3_sumBehind_15 : decode cX3_sumBehind 15 = .ok (.getfield 34, 3) := by decide +kernel
theorem dX3_sumBehind_18 : decode cX3_sumBehind 18 = .ok (.iload_n 1, 1) := by decide +kernel
theorem dX3_sumBehind_19 : decode cX3_sumBehind 19 = .ok (.iconst 2, 1) := by decide +kernel
theorem dX3_sumBehind_20 : decode cX3_sumBehind 20 = .ok (.iadd, 1) := by decide +kernel
theorem dX3_sumBehind_21 : decode cX3_sumBehind 21 = .ok (.iaload, 1) := by decide +kernel
theorem dX3_sumBehind_22 : decode cX3_sumBehind 22 = .ok (.if_icmp .ge 35, 3) := by decide +kernel
theorem dX3_sumBehind_25 : decode cX3_sumBehind 25 = .ok (.aload_n 0, 1) := by decide +kernel
theorem dX3_sumBehind_26 : decode cX3_sumBehind 26 = .ok (.iload_n 1, 1) := by decide +kernel
theorem dX3_sumBehind_27 : decode cX3_sumBehind 27 = .ok (.iload_n 2, 1) := by decide +kernel
theorem dX3_sumBehind_28 : decode cX3_sumBehind 28 = .ok (.iload 4, 2) := by decide +kernel
theorem dX3_sumBehind_30 : decode cX3_sumBehind 30 = .ok (.invokevirtual 132, 3) := by decide +kernel
theorem dX3_sumBehind_33 : decode cX3_sumBehind 33 = .ok (.ifCond .eq 18, 3) := by decide +kernel
theorem dX3_sumBehind_36 : decode cX3_sumBehind 36 = .ok (.ldc 162, 2) := by decide +kernel
theorem dX3_sumBehind_38 : decode cX3_sumBehind 38 = .ok (.iload_n 3, 1) := by decide +kernel
theorem dX3_sumBehind_39 : decode cX3_sumBehind 39 = .ok (.aload_n 0, 1) := by decide +kernel
theorem dX3_sumBehind_40 : decode cX3_sumBehind 40 = .ok (.getfield 52, 3) := by decide +kernel
theorem dX3_sumBehind_43 : decode cX3_sumBehind 43 = .ok (.iload 4, 2) := by decide +kernel
theorem dX3_sumBehind_45 : decode cX3_sumBehind 45 = .ok (.iaload, 1) := by decide +kernel
theorem dX3_sumBehind_46 : decode cX3_sumBehind 46 = .ok (.iadd, 1) := by decide +kernel
theorem dX3_sumBehind_47 : decode cX3_sumBehind 47 = .ok (.invokestatic 139, 3) := by decide +kernel
theorem dX3_sumBehind_50 : decode cX3_sumBehind 50 = .ok (.istore_n 3, 1) := by decide +kernel
theorem dX3_sumBehind_51 : decode cX3_sumBehind 51 = .ok (.iinc 4 1, 3) := by decide +kernel
theorem dX3_sumBehind_54 : decode cX3_sumBehind 54 = .ok (.goto (-42), 3) := by decide +kernel
theorem dX3_sumBehind_57 : decode cX3_sumBehind 57 = .ok (.iload_n 3, 1) := by decide +kernel
theorem dX3_sumBehind_58 : decode cX3_sumBehind 58 = .ok (.ireturn, 1) := by decide +kernel
set_option maxHeartbeats 4000000 in
set_option maxRecDepth 100000 in
theorem m_X3_sumBehind (l : Launch) (D : va_G) (cy : Nat → ClassId) (g : Nat → Nat) (σ : ST) (p1 : Int32) (p2 : Int32) (sz : Nat) (hJ : J8 σ) (h0 : (0 : Int) ≤ p1.toInt ∧ p1.toInt ≤ 14) (h1 : (0 : Int) ≤ p2.toInt ∧ p2.toInt ≤ 1407) : Met l yX3_sumBehind (ww yX3_sumBehind cX3_sumBehind 5 (some .int)) ({ frames := 3, cells := 0, slots := 0, locals := 192 }) (va_Pc [.ref (gO g 13), .int p1, .int p2] (pr8 D cy g σ sz)) (qi8 D cy g sz (fun r τ => τ = σ ∧ ((-2147483648 : Int) ≤ r.toInt ∧ r.toInt ≤ 1000000001) ∧ True)) 0 0 (A8 cy g sz) := by
  refine Met.ofW (cc := cX3_sumBehind) (maxL := 5) (ret := (some .int)) (by decide) rfl ?_
  intro p e s m args below meth c s₁ B hml hv
  obtain ⟨rfl, hsz, hP, hK, hD0, hC⟩ := hv
  have hx := B.exec
  have hb := B.bytes
  have hr := B.returns
  have hts := hts_g (atoms_spec (ws := ww yX3_sumBehind cX3_sumBehind 5 (some .int)) B.pre)
  have hown : s.vm.findClass RX3 = some m.cls := findClass_of_methodNamed B.named
  have hlocks := B.notSynchronized
  clear B
  subst hsz
  have hD := fun τ => A8_D (sz := s.heap.size) hD0 τ
  clear hD0
  have hS : va_S (A8 cy g s.heap.size) s.heap s.heap [] := va_S.rf
  have hl := lv_entry ([.ref (gO g 13), .int p1, .int p2]) (n := 5) (Nat.le_of_ble_eq_true rfl)
  rw [lg_entry_eq]
  generalize (lg_sl ([.ref (gO g 13), .int p1, .int p2]) ++ List.replicate (5 - (lg_sl ([.ref (gO g 13), .int p1, .int p2])).length) Slot.unset).toArray = ls at hl ⊢
  have hl : lv_has ls 5 [(0, .ref (gO g 13)), (1, .int p1), (2, .int p2)] := hl
  refine lv_iconst (v := 0) hx hb dX3_sumBehind_0 (by decide) ?_
  refine lv_istore_n (lv' := [(3, .int 0), (0, .ref (gO g 13)), (1, .int p1), (2, .int p2)]) hx hb dX3_sumBehind_1 rfl hl (by decide) rfl (fun ls hl => ?_)
  refine lv_aload_n hx hb dX3_sumBehind_2 rfl (lv_at hl 1 rfl) ?_
  refine g8_3_12 hx hb hts hown hK hP (hts _ q297) dX3_sumBehind_3 ?_
  refine lv_iload_n hx hb dX3_sumBehind_6 rfl (lv_at hl 2 rfl) ?_
  refine lv_iconst (v := 1) hx hb dX3_sumBehind_7 (by decide) ?_
  refine lv_iadd hx hb dX3_sumBehind_8 ?_
  refine lv_topi (fun x1 ex1 => ?_)
  have t2 := addO ex1 (by have f0 := h0; have g0 := rg32 p1; have z1 : (1 : Int32).toInt = 1 := (by decide); omega)
  obtain ⟨x3, ex3⟩ : ∃ z, (σ 13).2.2.1 12 x1.toInt.toNat = z := ⟨_, rfl⟩
  refine l8_3_12 (x := x3) hx hb hK hP (vpo (by have f0 := t2; have f1 := h0; have g0 := rg32 x1; have z1 : (1 : Int32).toInt = 1 := (by decide); omega)) ex3 dX3_sumBehind_9 ?_
  have t4 := a8_3_12 hJ ex3
  refine lv_istore (lv' := [(4, .int x3), (3, .int 0), (0, .ref (gO g 13)), (1, .int p1), (2, .int p2)]) hx hb dX3_sumBehind_10 hl (by decide) rfl (fun ls hl => ?_)
  refine loop8 5 12 (fun x : LZ => [(4, .int (x.2.1 0)), (3, .int (x.2.1 1)), (0, .ref (gO g 13)), (1, .int p1), (2, .int p2)]) (fun x : LZ => (x.1 = σ) ∧ ((0 : Int) ≤ (x.2.1 0).toInt ∧ (x.2.1 0).toInt ≤ 1408) ∧ ((-2147483648 : Int) ≤ (x.2.1 1).toInt ∧ (x.2.1 1).toInt ≤ 1000000001) ∧ True) (fun x : LZ => ((1409 : Int) - (x.2.1 0).toInt).toNat) ?_ (σ, lf [x3, 0], lg []) ⟨rfl, (show (0 : Int) ≤ (x3 : Int32).toInt ∧ (x3 : Int32).toInt ≤ 1408 from (by have f0 := t4; have g0 := rg32 x3; omega)), (show (-2147483648 : Int) ≤ (0 : Int32).toInt ∧ (0 : Int32).toInt ≤ 1000000001 from (by have z0 : (0 : Int32).toInt = 0 := (by decide); omega)), trivial⟩ _ _ _ hP hS (lv_sub hl [0, 1, 2, 3, 4] rfl)
  intro y7 hI6 nl5 H locs ls hP hS hl
  rw [show y7.1 = σ from hI6.1] at hP
  have b8 : (0 : Int) ≤ (y7.2.1 0).toInt ∧ (y7.2.1 0).toInt ≤ 1408 := hI6.2.1
  have b9 : (-2147483648 : Int) ≤ (y7.2.1 1).toInt ∧ (y7.2.1 1).toInt ≤ 1000000001 := hI6.2.2.1
  have hl : lv_has ls 5 [(4, .int (y7.2.1 0)), (3, .int (y7.2.1 1)), (0, .ref (gO g 13)), (1, .int p1), (2, .int p2)] := hl
  refine lv_iload hx hb dX3_sumBehind_12 (lv_at hl 0 rfl) ?_
  refine lv_aload_n hx hb dX3_sumBehind_14 rfl (lv_at hl 2 rfl) ?_
  refine g8_3_12 hx hb hts hown hK hP (hts _ q297) dX3_sumBehind_15 ?_
  refine lv_iload_n hx hb dX3_sumBehind_18 rfl (lv_at hl 3 rfl) ?_
  refine lv_iconst (v := 2) hx hb dX3_sumBehind_19 (by decide) ?_
  refine lv_iadd hx hb dX3_sumBehind_20 ?_
  refine lv_topi (fun x10 ex10 => ?_)
  have t11 := addO ex10 (by have f0 := h0; have f1 := t2; have g0 := rg32 p1; have z1 : (1 : Int32).toInt = 1 := (by decide); have z2 : (2 : Int32).toInt = 2 := (by decide); omega)
  obtain ⟨x12, ex12⟩ : ∃ z, (σ 13).2.2.1 12 x10.toInt.toNat = z := ⟨_, rfl⟩
  refine l8_3_12 (x := x12) hx hb hK hP (vpo (by have f0 := t11; have f1 := h0; have f2 := t2; have g0 := rg32 x10; have z1 : (1 : Int32).toInt = 1 := (by decide); have z2 : (2 : Int32).toInt = 2 := (by decide); omega)) ex12 dX3_sumBehind_21 ?_
  have t13 := a8_3_12 hJ ex12
  refine lv_icmp_ge (tgt := 57) hx hb dX3_sumBehind_22 (by decide) (fun c14 => ?_) (fun c14 => ?_)
  ·
    have k15 := ple32 c14
    refine lv_iload_n hx hb dX3_sumBehind_57 rfl (lv_at hl 1 rfl) ?_
    exact W.iret (v := (y7.2.1 1)) hx hb hr (fun tS ht hW => ⟨⟨(y7.2.1 1), σ, rfl, ⟨rfl, (show (-2147483648 : Int) ≤ (y7.2.1 1).toInt ∧ (y7.2.1 1).toInt ≤ 1000000001 from (by have f0 := b9; have g0 := rg32 (y7.2.1 1); omega)), trivial⟩, (show va_P D clz (WD8 cy g σ) tS.heap by rw [ht]; exact hP)⟩, hS.F ht⟩) hS.2.2 dX3_sumBehind_58
  ·
    have k16 := nle32 c14
    refine lv_aload_n hx hb dX3_sumBehind_25 rfl (lv_at hl 2 rfl) ?_
    refine lv_iload_n hx hb dX3_sumBehind_26 rfl (lv_at hl 3 rfl) ?_
    refine lv_iload_n hx hb dX3_sumBehind_27 rfl (lv_at hl 4 rfl) ?_
    refine lv_iload hx hb dX3_sumBehind_28 (lv_at hl 0 rfl) ?_
    refine va_calli (va_runV (As := [.int p1, .int p2, .int (y7.2.1 0)]) (rest := []) ⟨hx, hb, hml, hown, hts⟩ (m_X3_goes l D cy g σ  p1 p2 (y7.2.1 0) _ hJ (show (0 : Int) ≤ p1.toInt ∧ p1.toInt ≤ 14 from (by have f0 := h0; have f1 := t2; have f2 := t11; have g0 := rg32 p1; have z1 : (1 : Int32).toInt = 1 := (by decide); have z2 : (2 : Int32).toInt = 2 := (by decide); omega)) (show (0 : Int) ≤ p2.toInt ∧ p2.toInt ≤ 1407 from (by have f0 := h0; have f1 := h1; have f2 := t2; have f3 := t11; have g0 := rg32 p1; have g1 := rg32 p2; have z1 : (1 : Int32).toInt = 1 := (by decide); have z2 : (2 : Int32).toInt = 2 := (by decide); omega)) (show (0 : Int) ≤ (y7.2.1 0).toInt ∧ (y7.2.1 0).toInt ≤ 1407 from (by have f0 := h0; have f1 := h1; have f2 := t2; have f3 := b8; have f4 := t11; have f5 := k16; have f6 := t13; have g0 := rg32 (y7.2.1 0); have g1 := rg32 p1; have g2 := rg32 p2; have z1 : (1 : Int32).toInt = 1 := (by decide); have z2 : (2 : Int32).toInt = 2 := (by decide); omega))) (cwV 3 hts (gd_V q959 q961 q24 q129 q962) rfl rfl rfl (by decide +kernel) ⟨(Nat.le_of_ble_eq_true rfl), (Nat.le_of_ble_eq_true rfl)⟩) (pv8 hP hK hD hC hS (rv8_3 hK hP)) rfl rfl hl.1 rfl (lv_room (Nat.le_of_ble_eq_true rfl)) dX3_sumBehind_30 ⟨Nat.le_of_ble_eq_true rfl, Nat.le_of_ble_eq_true rfl⟩) hS (fun q _ h => up8 hS q h) (up8 hS) (fun r17 σ18 tS H1 locs ht hvm hw19 hB hz1 hk1 hS => ?_)
    have hP : va_P D clz (WD8 cy g σ18) H1 := by rw [← ht]; exact hB
    clear hB hz1 hk1 hvm ht
    generalize H1 = H at hP hS ⊢
    have hw19E : σ = σ18 := (hw19.1).symm
    subst hw19E
    have b20 : (0 : Int) ≤ r17.toInt ∧ r17.toInt ≤ 1 := hw19.2.1
    refine cut8 (D := D) (cy := cy) (g := g) (A := A8 cy g s.heap.size) (H0 := s.heap) 5 51 (fun x : LZ => [(4, .int (y7.2.1 0)), (3, .int (x.2.1 0)), (0, .ref (gO g 13)), (1, .int p1), (2, .int p2)]) (fun x : LZ => []) (fun x : LZ => (x.1 = σ) ∧ ((-2147483648 : Int) ≤ (x.2.1 0).toInt ∧ (x.2.1 0).toInt ≤ 1000000001) ∧ True) ?_ ?_
    ·
      intro y23 hI22 H locs ls hP hS hl
      rw [show y23.1 = σ from hI22.1] at hP
      have b24 : (-2147483648 : Int) ≤ (y23.2.1 0).toInt ∧ (y23.2.1 0).toInt ≤ 1000000001 := hI22.2.1
      have hl : lv_has ls 5 [(4, .int (y7.2.1 0)), (3, .int (y23.2.1 0)), (0, .ref (gO g 13)), (1, .int p1), (2, .int p2)] := hl
      obtain ⟨x25, ex25⟩ : ∃ y : Int32, y = (y7.2.1 0) + 1 := ⟨_, rfl⟩
      have t26 := addO ex25 (by have f0 := b8; have f1 := k16; have f2 := t13; have g0 := rg32 (y7.2.1 0); have z1 : (1 : Int32).toInt = 1 := (by decide); omega)
      refine lv_iinc (v := x25) (lv' := [(4, .int x25), (3, .int (y23.2.1 0)), (0, .ref (gO g 13)), (1, .int p1), (2, .int p2)]) hx hb dX3_sumBehind_51 hl (k := 0) rfl (by rw [ex25]; rfl) (by decide) rfl (fun ls hl => ?_)
      refine lv_goto (tgt := 12) hx hb dX3_sumBehind_54 (by decide) ?_
      have t27 : ((1409 : Int) - x25.toInt).toNat < ((1409 : Int) - (y7.2.1 0).toInt).toNat := (by have f0 := b8; have f1 := k16; have f2 := t26; have f3 := t13; have g0 := rg32 (y7.2.1 0); have g1 := rg32 x25; have z1 : (1 : Int32).toInt = 1 := (by decide); omega)
      exact nl5 (σ, lf [x25, (y23.2.1 0)], lg []) ⟨rfl, (show (0 : Int) ≤ (x25 : Int32).toInt ∧ (x25 : Int32).toInt ≤ 1408 from (by have f0 := t26; have f1 := b8; have f2 := k16; have f3 := t13; have g0 := rg32 x25; have z1 : (1 : Int32).toInt = 1 := (by decide); omega)), (show (-2147483648 : Int) ≤ ((y23.2.1 0) : Int32).toInt ∧ ((y23.2.1 0) : Int32).toInt ≤ 1000000001 from (by have f0 := b24; have g0 := rg32 (y23.2.1 0); omega)), trivial⟩ (show ((1409 : Int) - x25.toInt).toNat < _ from t27) _ _ _ hP hS (lv_sub hl [0, 1, 2, 3, 4] rfl)
    ·
      intro nj21
      refine lv_if_eq (tgt := 51) hx hb dX3_sumBehind_33 (by decide) (fun c28 => ?_) (fun c28 => ?_)
      ·
        have k29 := peq32 c28
        exact nj21 (σ, lf [(y7.2.1 1)], lg []) ⟨rfl, (show (-2147483648 : Int) ≤ ((y7.2.1 1) : Int32).toInt ∧ ((y7.2.1 1) : Int32).toInt ≤ 1000000001 from (by have f0 := b9; have g0 := rg32 (y7.2.1 1); omega)), trivial⟩ _ _ _ hP hS (lv_sub hl [0, 1, 2, 3, 4] rfl)
      ·
        have k30 := neq32 c28
        refine lv_ldc (v := 1000000001) hx hb hown (hts _ q1060) dX3_sumBehind_36 ?_
        refine lv_iload_n hx hb dX3_sumBehind_38 rfl (lv_at hl 1 rfl) ?_
        refine lv_aload_n hx hb dX3_sumBehind_39 rfl (lv_at hl 2 rfl) ?_
        refine g8_3_18 hx hb hts hown hK hP (hts _ q303) dX3_sumBehind_40 ?_
        refine lv_iload hx hb dX3_sumBehind_43 (lv_at hl 0 rfl) ?_
        obtain ⟨x31, ex31⟩ : ∃ z, (σ 13).2.2.1 18 (y7.2.1 0).toInt.toNat = z := ⟨_, rfl⟩
        refine l8_3_18 (x := x31) hx hb hK hP (vpo (by have f0 := b8; have f1 := k16; have f2 := t13; have g0 := rg32 (y7.2.1 0); omega)) ex31 dX3_sumBehind_45 ?_
        refine lv_iadd hx hb dX3_sumBehind_46 ?_
        refine lv_topi (fun x32 ex32 => ?_)
        refine va_mmin hx hb (hml.trans hl.1.symm) hown (hts _ q979) (hts _ q512) (hts _ q135) (hts _ q513) (Nat.le_of_ble_eq_true rfl) (Nat.le_of_ble_eq_true rfl) (Nat.le_refl _) (Nat.le_refl _) dX3_sumBehind_47 ?_
        refine lv_topi (fun x33 ex33 => ?_)
        have t34 := minO ex33
        refine lv_istore_n (lv' := [(3, .int x33), (4, .int (y7.2.1 0)), (0, .ref (gO g 13)), (1, .int p1), (2, .int p2)]) hx hb dX3_sumBehind_50 rfl hl (by decide) rfl (fun ls hl => ?_)
        exact nj21 (σ, lf [x33], lg []) ⟨rfl, (show (-2147483648 : Int) ≤ (x33 : Int32).toInt ∧ (x33 : Int32).toInt ≤ 1000000001 from (by have f0 := t34; have g0 := rg32 x32; have g1 := rg32 x33; have z1000000001 : (1000000001 : Int32).toInt = 1000000001 := (by decide); omega)), trivial⟩ _ _ _ hP hS (lv_sub hl [1, 0, 2, 3, 4] rfl)

theorem q1055 : Cond.code yX3_countPlays cX3_countPlays 3 (some .int) ∈ lw_g := lw_gm (List.mem_of_getElem? (i := 1055) (by decide +kernel)) rfl
theorem q1056 : Cond.methodLink RX3 159 yX3_sumBehind ∈ lw_g := lw_gm (List.mem_of_getElem? (i := 1056) (by decide +kernel)) rfl
theorem q1058 : Cond.instanceMethod yX3_sumBehind ∈ lw_g := lw_gm (List.mem_of_getElem? (i := 1058) (by decide +kernel)) rfl
theorem q31 : Cond.selects RX3 yX3_sumBehind yX3_sumBehind ∈ lw_g := lw_gm (List.mem_of_getElem? (i := 31) (by decide +kernel)) rfl
theorem dX3_countPlays_0 : decode cX3_countPlays 0 = .ok (.aload_n 0, 1) := by decide +kernel
theorem dX3_countPlays_1 : decode cX3_countPlays 1 = .ok (.getfield 75, 3) := by decide +kernel
theorem dX3_countPlays_4 : decode cX3_countPlays 4 = .ok (.iconst 1, 1) := by decide +kernel
theorem dX3_countPlays_5 : decode cX3_countPlays 5 = .ok (.isub, 1) := by decide +kernel
theorem dX3_countPlays_6 : decode cX3_countPlays 6 = .ok (.istore_n 1, 1) := by decide +kernel
theorem dX3_countPlays_7 : decode cX3_countPlays 7 = .ok (.iload_n 1, 1) := by decide +kernel
theorem dX3_countPlays_8 : decode cX3_countPlays 8 = .ok (.ifCond .lt 60, 3) := by decide +kernel
theorem dX3_countPlays_11 : decode cX3_countPlays 11 = .ok (.aload_n 0, 1) := by decide +kernel
theorem dX3_countPlays_12 : decode cX3_countPlays 12 = .ok (.getfield 34, 3) := by decide +kernel
theorem dX3_countPlays_15 : decode cX3_countPlays 15 = .ok (.iload_n 1, 1) := by decide +kernel
theorem dX3_countPlays_16 : decode cX3_countPlays 16 = .ok (.iaload, 1) := by decide +kernel
theorem dX3_countPlays_17 : decode cX3_countPlays 17 = .ok (.istore_n 2, 1) := by decide +kernel
theorem dX3_countPlays_18 : decode cX3_countPlays 18 = .ok (.iload_n 2, 1) := by decide +kernel
theorem dX3_countPlays_19 : decode cX3_countPlays 19 = .ok (.aload_n 0, 1) := by decide +kernel
theorem dX3_countPlays_20 : decode cX3_countPlays 20 = .ok (.getfield 34, 3) := by decide +kernel
theorem dX3_countPlays_23 : decode cX3_countPlays 23 = .ok (.iload_n 1, 1) := by decide +kernel
theorem dX3_countPlays_24 : decode cX3_countPlays 24 = .ok (.iconst 1, 1) := by decide +kernel
theorem dX3_countPlays_25 : decode cX3_countPlays 25 = .ok (.iadd, 1) := by decide +kernel
theorem dX3_countPlays_26 : decode cX3_countPlays 26 = .ok (.iaload, 1) := by decide +kernel
theorem dX3_countPlays_27 : decode cX3_countPlays 27 = .ok (.if_icmp .ge 35, 3) := by decide +kernel
theorem dX3_countPlays_30 : decode cX3_countPlays 30 = .ok (.aload_n 0, 1) := by decide +kernel
theorem dX3_countPlays_31 : decode cX3_countPlays 31 = .ok (.getfield 52, 3) := by decide +kernel
theorem dX3_countPlays_34 : decode cX3_countPlays 34 = .ok (.iload_n 2, 1) := by decide +kernel
theorem dX3_countPlays_35 : decode cX3_countPlays 35 = .ok (.iload_n 1, 1) := by decide +kernel
theorem dX3_countPlays_36 : decode cX3_countPlays 36 = .ok (.iconst 1, 1) := by decide +kernel
theorem dX3_countPlays_37 : decode cX3_countPlays 37 = .ok (.iadd, 1) := by decide +kernel
theorem dX3_countPlays_38 : decode cX3_countPlays 38 = .ok (.aload_n 0, 1) := by decide +kernel
theorem dX3_countPlays_39 : decode cX3_countPlays 39 = .ok (.getfield 75, 3) := by decide +kernel
theorem dX3_countPlays_42 : decode cX3_countPlays 42 = .ok (.if_icmp .ge 12, 3) := by decide +kernel
theorem dX3_countPlays_45 : decode cX3_countPlays 45 = .ok (.aload_n 0, 1) := by decide +kernel
theorem dX3_countPlays_46 : decode cX3_countPlays 46 = .ok (.iload_n 1, 1) := by decide +kernel
theorem dX3_countPlays_47 : decode cX3_countPlays 47 = .ok (.iload_n 2, 1) := by decide +kernel
theorem dX3_countPlays_48 : decode cX3_countPlays 48 = .ok (.invokevirtual 159, 3) := by decide +kernel
theorem dX3_countPlays_51 : decode cX3_countPlays 51 = .ok (.goto 4, 3) := by decide +kernel
theorem dX3_countPlays_54 : decode cX3_countPlays 54 = .ok (.iconst 1, 1) := by decide +kernel
theorem dX3_countPlays_55 : decode cX3_countPlays 55 = .ok (.iastore, 1) := by decide +kernel
theorem dX3_countPlays_56 : decode cX3_countPlays 56 = .ok (.iinc 2 1, 3) := by decide +kernel
theorem dX3_countPlays_59 : decode cX3_countPlays 59 = .ok (.goto (-41), 3) := by decide +kernel
theorem dX3_countPlays_62 : decode cX3_countPlays 62 = .ok (.iinc 1 (-1), 3) := by decide +kernel
theorem dX3_countPlays_65 : decode cX3_countPlays 65 = .ok (.goto (-58), 3) := by decide +kernel
theorem dX3_countPlays_68 : decode cX3_countPlays 68 = .ok (.aload_n 0, 1) := by decide +kernel
theorem dX3_countPlays_69 : decode cX3_countPlays 69 = .ok (.getfield 75, 3) := by decide +kernel
theorem dX3_countPlays_72 : decode cX3_countPlays 72 = .ok (.ifCond .ne 5, 3) := by decide +kernel
theorem dX3_countPlays_75 : decode cX3_countPlays 75 = .ok (.iconst 1, 1) := by decide +kernel
theorem dX3_countPlays_76 : decode cX3_countPlays 76 = .ok (.ireturn, 1) := by decide +kernel
theorem dX3_countPlays_77 : decode cX3_countPlays 77 = .ok (.iconst 0, 1) := by decide +kernel
theorem dX3_countPlays_78 : decode cX3_countPlays 78 = .ok (.istore_n 1, 1) := by decide +kernel
theorem dX3_countPlays_79 : decode cX3_countPlays 79 = .ok (.aload_n 0, 1) := by decide +kernel
theorem dX3_countPlays_80 : decode cX3_countPlays 80 = .ok (.getfield 34, 3) := by decide +kernel
theorem dX3_countPlays_83 : decode cX3_countPlays 83 = .ok (.iconst 0, 1) := by decide +kernel
theorem dX3_countPlays_84 : decode cX3_countPlays 84 = .ok (.iaload, 1) := by decide +kernel
theorem dX3_countPlays_85 : decode cX3_countPlays 85 = .ok (.istore_n 2, 1) := by decide +kernel
theorem dX3_countPlays_86 : decode cX3_countPlays 86 = .ok (.iload_n 2, 1) := by decide +kernel
theorem dX3_countPlays_87 : decode cX3_countPlays 87 = .ok (.aload_n 0, 1) := by decide +kernel
theorem dX3_countPlays_88 : decode cX3_countPlays 88 = .ok (.getfield 34, 3) := by decide +kernel
theorem dX3_countPlays_91 : decode cX3_countPlays 91 = .ok (.iconst 1, 1) := by decide +kernel
theorem dX3_countPlays_92 : decode cX3_countPlays 92 = .ok (.iaload, 1) := by decide +kernel
theorem dX3_countPlays_93 : decode cX3_countPlays 93 = .ok (.if_icmp .ge 23, 3) := by decide +kernel
theorem dX3_countPlays_96 : decode cX3_countPlays 96 = .ok (.ldc 162, 2) := by decide +kernel
theorem dX3_countPlays_98 : decode cX3_countPlays 98 = .ok (.iload_n 1, 1) := by decide +kernel
theorem dX3_countPlays_99 : decode cX3_countPlays 99 = .ok (.aload_n 0, 1) := by decide +kernel
theorem dX3_countPlays_100 : decode cX3_countPlays 100 = .ok (.getfield 52, 3) := by decide +kernel
theorem dX3_countPlays_103 : decode cX3_countPlays 103 = .ok (.iload_n 2, 1) := by decide +kernel
theorem dX3_countPlays_104 : decode cX3_countPlays 104 = .ok (.iaload, 1) := by decide +kernel
theorem dX3_countPlays_105 : decode cX3_countPlays 105 = .ok (.iadd, 1) := by decide +kernel
theorem dX3_countPlays_106 : decode cX3_countPlays 106 = .ok (.invokestatic 139, 3) := by decide +kernel
theorem dX3_countPlays_109 : decode cX3_countPlays 109 = .ok (.istore_n 1, 1) := by decide +kernel
theorem dX3_countPlays_110 : decode cX3_countPlays 110 = .ok (.iinc 2 1, 3) := by decide +kernel
theorem dX3_countPlays_113 : decode cX3_countPlays 113 = .ok (.goto (-27), 3) := by decide +kernel
theorem dX3_countPlays_116 : decode cX3_countPlays 116 = .ok (.iload_n 1, 1) := by decide +kernel
theorem dX3_countPlays_117 : decode cX3_countPlays 117 = .ok (.ireturn, 1) := by decide +kernel
set_option maxHeartbeats 4000000 in
set_option maxRecDepth 100000 in
theorem m_X3_countPlays (l : Launch) (D : va_G) (cy : Nat → ClassId) (g : Nat → Nat) (σ : ST)  (sz : Nat) (hJ : J8 σ)  : Met l yX3_countPlays (ww yX3_countPlays cX3_countPlays 3 (some .int)) ({ frames := 4, cells := 0, slots := 0, locals := 256 }) (va_Pc [.ref (gO g 13)] (pr8 D cy g σ sz)) (qi8 D cy g sz (fun r τ => Fr (fO [13]) σ τ ∧ J8 τ ∧ ((-2147483648 : Int) ≤ r.toInt ∧ r.toInt ≤ 1000000001) ∧ True)) 0 0 (A8 cy g sz) := by
  refine Met.ofW (cc := cX3_countPlays) (maxL := 3) (ret := (some .int)) (by decide) rfl ?_
  intro p e s m args below meth c s₁ B hml hv
  obtain ⟨rfl, hsz, hP, hK, hD0, hC⟩ := hv
  have hx := B.exec
  have hb := B.bytes
  have hr := B.returns
  have hts := hts_g (atoms_spec (ws := ww yX3_countPlays cX3_countPlays 3 (some .int)) B.pre)
  have hown : s.vm.findClass RX3 = some m.cls := findClass_of_methodNamed B.named
  have hlocks := B.notSynchronized
  clear B
  subst hsz
  have hD := fun τ => A8_D (sz := s.heap.size) hD0 τ
  clear hD0
  have hS : va_S (A8 cy g s.heap.size) s.heap s.heap [] := va_S.rf
  have hl := lv_entry ([.ref (gO g 13)]) (n := 3) (Nat.le_of_ble_eq_true rfl)
  rw [lg_entry_eq]
  generalize (lg_sl ([.ref (gO g 13)]) ++ List.replicate (3 - (lg_sl ([.ref (gO g 13)])).length) Slot.unset).toArray = ls at hl ⊢
  have hl : lv_has ls 3 [(0, .ref (gO g 13))] := hl
  refine lv_aload_n hx hb dX3_countPlays_0 rfl (lv_at hl 0 rfl) ?_
  refine g8_3_0 (x := ((σ 13).1 0)) hx hb hts hown hK hP (rfl) (hts _ q280) dX3_countPlays_1 ?_
  refine lv_iconst (v := 1) hx hb dX3_countPlays_4 (by decide) ?_
  refine lv_isub hx hb dX3_countPlays_5 ?_
  refine lv_topi (fun x1 ex1 => ?_)
  have t2 := subO ex1 (by have f0 := j8_3_0 hJ rfl; have z1 : (1 : Int32).toInt = 1 := (by decide); omega)
  refine lv_istore_n (lv' := [(1, .int x1), (0, .ref (gO g 13))]) hx hb dX3_countPlays_6 rfl hl (by decide) rfl (fun ls hl => ?_)
  refine loop8 3 7 (fun x : LZ => [(1, .int (x.2.1 0)), (0, .ref (gO g 13))]) (fun x : LZ => (Fr (fO [13]) σ x.1) ∧ (J8 x.1) ∧ ((-1 : Int) ≤ (x.2.1 0).toInt ∧ (x.2.1 0).toInt ≤ 15) ∧ True) (fun x : LZ => ((x.2.1 0).toInt - (-2 : Int)).toNat) ?_ (σ, lf [x1], lg []) ⟨Fr.rf, hJ, (show (-1 : Int) ≤ (x1 : Int32).toInt ∧ (x1 : Int32).toInt ≤ 15 from (by have f0 := t2; have f1 := j8_3_0 hJ rfl; have g1 := rg32 x1; have z1 : (1 : Int32).toInt = 1 := (by decide); omega)), trivial⟩ _ _ _ hP hS (lv_sub hl [0, 1] rfl)
  intro y5 hI4 nl3 H locs ls hP hS hl
  obtain ⟨σ6, eσ6⟩ : ∃ z, z = y5.1 := ⟨_, rfl⟩
  rw [← eσ6] at hP hI4
  have hF7 : Fr (fO [13]) σ σ6 := hI4.1
  have hJ8 : J8 σ6 := hI4.2.1
  have b9 : (-1 : Int) ≤ (y5.2.1 0).toInt ∧ (y5.2.1 0).toInt ≤ 15 := hI4.2.2.1
  have hl : lv_has ls 3 [(1, .int (y5.2.1 0)), (0, .ref (gO g 13))] := hl
  refine lv_iload_n hx hb dX3_countPlays_7 rfl (lv_at hl 0 rfl) ?_
  refine lv_if_lt (tgt := 68) hx hb dX3_countPlays_8 (by decide) (fun c10 => ?_) (fun c10 => ?_)
  ·
    have k11 := plt32 c10
    refine lv_aload_n hx hb dX3_countPlays_68 rfl (lv_at hl 1 rfl) ?_
    refine g8_3_0 (x := ((σ6 13).1 0)) hx hb hts hown hK hP (rfl) (hts _ q280) dX3_countPlays_69 ?_
    refine lv_if_ne (tgt := 77) hx hb dX3_countPlays_72 (by decide) (fun c12 => ?_) (fun c12 => ?_)
    ·
      have k13 := neq32 c12
      refine lv_iconst (v := 0) hx hb dX3_countPlays_77 (by decide) ?_
      refine lv_istore_n (lv' := [(1, .int 0), (0, .ref (gO g 13))]) hx hb dX3_countPlays_78 rfl hl (by decide) rfl (fun ls hl => ?_)
      refine lv_aload_n hx hb dX3_countPlays_79 rfl (lv_at hl 1 rfl) ?_
      refine g8_3_12 hx hb hts hown hK hP (hts _ q297) dX3_countPlays_80 ?_
      refine lv_iconst (v := 0) hx hb dX3_countPlays_83 (by decide) ?_
      obtain ⟨x14, ex14⟩ : ∃ z, (σ6 13).2.2.1 12 (0 : Int32).toInt.toNat = z := ⟨_, rfl⟩
      refine l8_3_12 (x := x14) hx hb hK hP (vpi (by decide)) ex14 dX3_countPlays_84 ?_
      have t15 := a8_3_12 hJ8 ex14
      refine lv_istore_n (lv' := [(2, .int x14), (1, .int 0), (0, .ref (gO g 13))]) hx hb dX3_countPlays_85 rfl hl (by decide) rfl (fun ls hl => ?_)
      refine loop8 3 86 (fun x : LZ => [(2, .int (x.2.1 0)), (1, .int (x.2.1 1)), (0, .ref (gO g 13))]) (fun x : LZ => (x.1 = σ6) ∧ ((0 : Int) ≤ (x.2.1 0).toInt ∧ (x.2.1 0).toInt ≤ 1408) ∧ ((-2147483648 : Int) ≤ (x.2.1 1).toInt ∧ (x.2.1 1).toInt ≤ 1000000001) ∧ True) (fun x : LZ => ((1409 : Int) - (x.2.1 0).toInt).toNat) ?_ (σ6, lf [x14, 0], lg []) ⟨rfl, (show (0 : Int) ≤ (x14 : Int32).toInt ∧ (x14 : Int32).toInt ≤ 1408 from (by have f0 := t15; have g0 := rg32 x14; omega)), (show (-2147483648 : Int) ≤ (0 : Int32).toInt ∧ (0 : Int32).toInt ≤ 1000000001 from (by have z0 : (0 : Int32).toInt = 0 := (by decide); omega)), trivial⟩ _ _ _ hP hS (lv_sub hl [0, 1, 2] rfl)
      intro y18 hI17 nl16 H locs ls hP hS hl
      rw [show y18.1 = σ6 from hI17.1] at hP
      have b19 : (0 : Int) ≤ (y18.2.1 0).toInt ∧ (y18.2.1 0).toInt ≤ 1408 := hI17.2.1
      have b20 : (-2147483648 : Int) ≤ (y18.2.1 1).toInt ∧ (y18.2.1 1).toInt ≤ 1000000001 := hI17.2.2.1
      have hl : lv_has ls 3 [(2, .int (y18.2.1 0)), (1, .int (y18.2.1 1)), (0, .ref (gO g 13))] := hl
      refine lv_iload_n hx hb dX3_countPlays_86 rfl (lv_at hl 0 rfl) ?_
      refine lv_aload_n hx hb dX3_countPlays_87 rfl (lv_at hl 2 rfl) ?_
      refine g8_3_12 hx hb hts hown hK hP (hts _ q297) dX3_countPlays_88 ?_
      refine lv_iconst (v := 1) hx hb dX3_countPlays_91 (by decide) ?_
      obtain ⟨x21, ex21⟩ : ∃ z, (σ6 13).2.2.1 12 (1 : Int32).toInt.toNat = z := ⟨_, rfl⟩
      refine l8_3_12 (x := x21) hx hb hK hP (vpi (by decide)) ex21 dX3_countPlays_92 ?_
      have t22 := a8_3_12 hJ8 ex21
      refine lv_icmp_ge (tgt := 116) hx hb dX3_countPlays_93 (by decide) (fun c23 => ?_) (fun c23 => ?_)
      ·
        have k24 := ple32 c23
        refine lv_iload_n hx hb dX3_countPlays_116 rfl (lv_at hl 1 rfl) ?_
        exact W.iret (v := (y18.2.1 1)) hx hb hr (fun tS ht hW => ⟨⟨(y18.2.1 1), σ6, rfl, ⟨Fr.tr (Fr.rf) hF7 (fO_sub (fun _ q => q)), hJ8, (show (-2147483648 : Int) ≤ (y18.2.1 1).toInt ∧ (y18.2.1 1).toInt ≤ 1000000001 from (by have f0 := b20; have g0 := rg32 (y18.2.1 1); omega)), trivial⟩, (show va_P D clz (WD8 cy g σ6) tS.heap by rw [ht]; exact hP)⟩, hS.F ht⟩) hS.2.2 dX3_countPlays_117
      ·
        have k25 := nle32 c23
        refine lv_ldc (v := 1000000001) hx hb hown (hts _ q1060) dX3_countPlays_96 ?_
        refine lv_iload_n hx hb dX3_countPlays_98 rfl (lv_at hl 1 rfl) ?_
        refine lv_aload_n hx hb dX3_countPlays_99 rfl (lv_at hl 2 rfl) ?_
        refine g8_3_18 hx hb hts hown hK hP (hts _ q303) dX3_countPlays_100 ?_
        refine lv_iload_n hx hb dX3_countPlays_103 rfl (lv_at hl 0 rfl) ?_
        obtain ⟨x26, ex26⟩ : ∃ z, (σ6 13).2.2.1 18 (y18.2.1 0).toInt.toNat = z := ⟨_, rfl⟩
        refine l8_3_18 (x := x26) hx hb hK hP (vpo (by have f0 := b19; have f1 := k25; have f2 := t22; have g0 := rg32 (y18.2.1 0); omega)) ex26 dX3_countPlays_104 ?_
        refine lv_iadd hx hb dX3_countPlays_105 ?_
        refine lv_topi (fun x27 ex27 => ?_)
        refine va_mmin hx hb (hml.trans hl.1.symm) hown (hts _ q979) (hts _ q512) (hts _ q135) (hts _ q513) (Nat.le_of_ble_eq_true rfl) (Nat.le_of_ble_eq_true rfl) (Nat.le_refl _) (Nat.le_refl _) dX3_countPlays_106 ?_
        refine lv_topi (fun x28 ex28 => ?_)
        have t29 := minO ex28
        refine lv_istore_n (lv' := [(1, .int x28), (2, .int (y18.2.1 0)), (0, .ref (gO g 13))]) hx hb dX3_countPlays_109 rfl hl (by decide) rfl (fun ls hl => ?_)
        obtain ⟨x30, ex30⟩ : ∃ y : Int32, y = (y18.2.1 0) + 1 := ⟨_, rfl⟩
        have t31 := addO ex30 (by have f0 := b19; have f1 := k25; have f2 := t22; have g0 := rg32 (y18.2.1 0); have z1 : (1 : Int32).toInt = 1 := (by decide); omega)
        refine lv_iinc (v := x30) (lv' := [(2, .int x30), (1, .int x28), (0, .ref (gO g 13))]) hx hb dX3_countPlays_110 hl (k := 1) rfl (by rw [ex30]; rfl) (by decide) rfl (fun ls hl => ?_)
        refine lv_goto (tgt := 86) hx hb dX3_countPlays_113 (by decide) ?_
        have t32 : ((1409 : Int) - x30.toInt).toNat < ((1409 : Int) - (y18.2.1 0).toInt).toNat := (by have f0 := b19; have f1 := k25; have f2 := t31; have f3 := t22; have g0 := rg32 (y18.2.1 0); have g1 := rg32 x30; have z1 : (1 : Int32).toInt = 1 := (by decide); omega)
        exact nl16 (σ6, lf [x30, x28], lg []) ⟨rfl, (show (0 : Int) ≤ (x30 : Int32).toInt ∧ (x30 : Int32).toInt ≤ 1408 from (by have f0 := t31; have f1 := b19; have f2 := k25; have f3 := t22; have g0 := rg32 x30; have z1 : (1 : Int32).toInt = 1 := (by decide); omega)), (show (-2147483648 : Int) ≤ (x28 : Int32).toInt ∧ (x28 : Int32).toInt ≤ 1000000001 from (by have f0 := t29; have g0 := rg32 x27; have g1 := rg32 x28; have z1000000001 : (1000000001 : Int32).toInt = 1000000001 := (by decide); omega)), trivial⟩ (show ((1409 : Int) - x30.toInt).toNat < _ from t32) _ _ _ hP hS (lv_sub hl [0, 1, 2] rfl)
    ·
      have k33 := peq32 c12
      refine lv_iconst (v := 1) hx hb dX3_countPlays_75 (by decide) ?_
      exact W.iret (v := 1) hx hb hr (fun tS ht hW => ⟨⟨1, σ6, rfl, ⟨Fr.tr (Fr.rf) hF7 (fO_sub (fun _ q => q)), hJ8, (show (-2147483648 : Int) ≤ (1 : Int32).toInt ∧ (1 : Int32).toInt ≤ 1000000001 from (by have z1 : (1 : Int32).toInt = 1 := (by decide); omega)), trivial⟩, (show va_P D clz (WD8 cy g σ6) tS.heap by rw [ht]; exact hP)⟩, hS.F ht⟩) hS.2.2 dX3_countPlays_76
  ·
    have k34 := nlt32 c10
    refine lv_aload_n hx hb dX3_countPlays_11 rfl (lv_at hl 1 rfl) ?_
    refine g8_3_12 hx hb hts hown hK hP (hts _ q297) dX3_countPlays_12 ?_
    refine lv_iload_n hx hb dX3_countPlays_15 rfl (lv_at hl 0 rfl) ?_
    obtain ⟨x35, ex35⟩ : ∃ z, (σ6 13).2.2.1 12 (y5.2.1 0).toInt.toNat = z := ⟨_, rfl⟩
    refine l8_3_12 (x := x35) hx hb hK hP (vpo (by have f0 := b9; have f1 := k34; have g0 := rg32 (y5.2.1 0); have z0 : (0 : Int32).toInt = 0 := (by decide); omega)) ex35 dX3_countPlays_16 ?_
    have t36 := a8_3_12 hJ8 ex35
    refine lv_istore_n (lv' := [(2, .int x35), (1, .int (y5.2.1 0)), (0, .ref (gO g 13))]) hx hb dX3_countPlays_17 rfl hl (by decide) rfl (fun ls hl => ?_)
    refine loop8 3 18 (fun x : LZ => [(2, .int (x.2.1 0)), (1, .int (y5.2.1 0)), (0, .ref (gO g 13))]) (fun x : LZ => (Fr (fO [13]) σ6 x.1) ∧ (J8 x.1) ∧ ((0 : Int) ≤ (x.2.1 0).toInt ∧ (x.2.1 0).toInt ≤ 1408) ∧ True) (fun x : LZ => ((1409 : Int) - (x.2.1 0).toInt).toNat) ?_ (σ6, lf [x35], lg []) ⟨Fr.rf, hJ8, (show (0 : Int) ≤ (x35 : Int32).toInt ∧ (x35 : Int32).toInt ≤ 1408 from (by have f0 := t36; have g0 := rg32 x35; omega)), trivial⟩ _ _ _ hP hS (lv_sub hl [0, 1, 2] rfl)
    intro y39 hI38 nl37 H locs ls hP hS hl
    obtain ⟨σ40, eσ40⟩ : ∃ z, z = y39.1 := ⟨_, rfl⟩
    rw [← eσ40] at hP hI38
    have hF41 : Fr (fO [13]) σ6 σ40 := hI38.1
    have hJ42 : J8 σ40 := hI38.2.1
    have b43 : (0 : Int) ≤ (y39.2.1 0).toInt ∧ (y39.2.1 0).toInt ≤ 1408 := hI38.2.2.1
    have hl : lv_has ls 3 [(2, .int (y39.2.1 0)), (1, .int (y5.2.1 0)), (0, .ref (gO g 13))] := hl
    refine lv_iload_n hx hb dX3_countPlays_18 rfl (lv_at hl 0 rfl) ?_
    refine lv_aload_n hx hb dX3_countPlays_19 rfl (lv_at hl 2 rfl) ?_
    refine g8_3_12 hx hb hts hown hK hP (hts _ q297) dX3_countPlays_20 ?_
    refine lv_iload_n hx hb dX3_countPlays_23 rfl (lv_at hl 1 rfl) ?_
    refine lv_iconst (v := 1) hx hb dX3_countPlays_24 (by decide) ?_
    refine lv_iadd hx hb dX3_countPlays_25 ?_
    refine lv_topi (fun x44 ex44 => ?_)
    have t45 := addO ex44 (by have f0 := b9; have f1 := k34; have g0 := rg32 (y5.2.1 0); have z0 : (0 : Int32).toInt = 0 := (by decide); have z1 : (1 : Int32).toInt = 1 := (by decide); omega)
    obtain ⟨x46, ex46⟩ : ∃ z, (σ40 13).2.2.1 12 x44.toInt.toNat = z := ⟨_, rfl⟩
    refine l8_3_12 (x := x46) hx hb hK hP (vpo (by have f0 := t45; have f1 := b9; have f2 := k34; have g0 := rg32 x44; have z0 : (0 : Int32).toInt = 0 := (by decide); have z1 : (1 : Int32).toInt = 1 := (by decide); omega)) ex46 dX3_countPlays_26 ?_
    have t47 := a8_3_12 hJ42 ex46
    refine lv_icmp_ge (tgt := 62) hx hb dX3_countPlays_27 (by decide) (fun c48 => ?_) (fun c48 => ?_)
    ·
      have k49 := ple32 c48
      obtain ⟨x50, ex50⟩ : ∃ y : Int32, y = (y5.2.1 0) + (-1) := ⟨_, rfl⟩
      have t51 := addO ex50 (by have f0 := b9; have f1 := k34; have f2 := t45; have g0 := rg32 (y5.2.1 0); have zm1 : ((-1) : Int32).toInt = (-1) := (by decide); have z0 : (0 : Int32).toInt = 0 := (by decide); have z1 : (1 : Int32).toInt = 1 := (by decide); omega)
      refine lv_iinc (v := x50) (lv' := [(1, .int x50), (2, .int (y39.2.1 0)), (0, .ref (gO g 13))]) hx hb dX3_countPlays_62 hl (k := 1) rfl (by rw [ex50]; rfl) (by decide) rfl (fun ls hl => ?_)
      refine lv_goto (tgt := 7) hx hb dX3_countPlays_65 (by decide) ?_
      have t52 : (x50.toInt - (-2 : Int)).toNat < ((y5.2.1 0).toInt - (-2 : Int)).toNat := (by have f0 := b9; have f1 := k34; have f2 := t45; have f3 := t51; have g0 := rg32 (y5.2.1 0); have g1 := rg32 x50; have zm1 : ((-1) : Int32).toInt = (-1) := (by decide); have z0 : (0 : Int32).toInt = 0 := (by decide); have z1 : (1 : Int32).toInt = 1 := (by decide); omega)
      exact nl3 (σ40, lf [x50], lg []) ⟨Fr.tr (Fr.tr (Fr.rf) hF7 (fO_sub (fun _ q => q))) hF41 (fO_sub (fun _ q => q)), hJ42, (show (-1 : Int) ≤ (x50 : Int32).toInt ∧ (x50 : Int32).toInt ≤ 15 from (by have f0 := t51; have f1 := b9; have f2 := k34; have f3 := t45; have g0 := rg32 x50; have zm1 : ((-1) : Int32).toInt = (-1) := (by decide); have z0 : (0 : Int32).toInt = 0 := (by decide); have z1 : (1 : Int32).toInt = 1 := (by decide); omega)), trivial⟩ (show (x50.toInt - (-2 : Int)).toNat < _ from by first | exact t52 | (rw [← eσ6]; exact t52)) _ _ _ hP hS (lv_sub hl [0, 2] rfl)
    ·
      have k53 := nle32 c48
      refine lv_aload_n hx hb dX3_countPlays_30 rfl (lv_at hl 2 rfl) ?_
      refine g8_3_18 hx hb hts hown hK hP (hts _ q303) dX3_countPlays_31 ?_
      refine lv_iload_n hx hb dX3_countPlays_34 rfl (lv_at hl 0 rfl) ?_
      refine lv_iload_n hx hb dX3_countPlays_35 rfl (lv_at hl 1 rfl) ?_
      refine lv_iconst (v := 1) hx hb dX3_countPlays_36 (by decide) ?_
      refine lv_iadd hx hb dX3_countPlays_37 ?_
      refine lv_topi (fun x54 ex54 => ?_)
      have t55 := addO ex54 (by have f0 := b9; have f1 := k34; have f2 := t45; have g0 := rg32 (y5.2.1 0); have z0 : (0 : Int32).toInt = 0 := (by decide); have z1 : (1 : Int32).toInt = 1 := (by decide); omega)
      refine lv_aload_n hx hb dX3_countPlays_38 rfl (lv_at hl 2 rfl) ?_
      refine g8_3_0 (x := ((σ40 13).1 0)) hx hb hts hown hK hP (rfl) (hts _ q280) dX3_countPlays_39 ?_
      refine cut8 (D := D) (cy := cy) (g := g) (A := A8 cy g s.heap.size) (H0 := s.heap) 3 55 (fun x : LZ => [(2, .int (y39.2.1 0)), (1, .int (y5.2.1 0)), (0, .ref (gO g 13))]) (fun x : LZ => [.int (x.2.1 0), .int (y39.2.1 0), .ref (gR g 13 18)]) (fun x : LZ => (x.1 = σ40) ∧ ((-2147483648 : Int) ≤ (x.2.1 0).toInt ∧ (x.2.1 0).toInt ≤ 1000000001) ∧ True) ?_ ?_
      ·
        intro y58 hI57 H locs ls hP hS hl
        rw [show y58.1 = σ40 from hI57.1] at hP
        have b59 : (-2147483648 : Int) ≤ (y58.2.1 0).toInt ∧ (y58.2.1 0).toInt ≤ 1000000001 := hI57.2.1
        have hl : lv_has ls 3 [(2, .int (y39.2.1 0)), (1, .int (y5.2.1 0)), (0, .ref (gO g 13))] := hl
        refine W.eq (g2 := F0 m 55 ls [.int (y58.2.1 0), .int (y39.2.1 0), .ref (gR g 13 18)]) rfl ?_
        refine t8_3_18 hx hb hK hP hD hS (vpo (by have f0 := b43; have f1 := k53; have f2 := t47; have g0 := rg32 (y39.2.1 0); omega)) dX3_countPlays_55 (fun H locs σ60 eσ60 hP hS => ?_)
        have hJ61 : J8 σ60 := hJ42.A eσ60 rfl (show PA8 3 18 (y58.2.1 0) from trivial)
        obtain ⟨x62, ex62⟩ : ∃ y : Int32, y = (y39.2.1 0) + 1 := ⟨_, rfl⟩
        have t63 := addO ex62 (by have f0 := b43; have f1 := k53; have f2 := t47; have g0 := rg32 (y39.2.1 0); have z1 : (1 : Int32).toInt = 1 := (by decide); omega)
        refine lv_iinc (v := x62) (lv' := [(2, .int x62), (1, .int (y5.2.1 0)), (0, .ref (gO g 13))]) hx hb dX3_countPlays_56 hl (k := 0) rfl (by rw [ex62]; rfl) (by decide) rfl (fun ls hl => ?_)
        refine lv_goto (tgt := 18) hx hb dX3_countPlays_59 (by decide) ?_
        have t64 : ((1409 : Int) - x62.toInt).toNat < ((1409 : Int) - (y39.2.1 0).toInt).toNat := (by have f0 := b43; have f1 := k53; have f2 := t63; have f3 := t47; have g0 := rg32 (y39.2.1 0); have g1 := rg32 x62; have z1 : (1 : Int32).toInt = 1 := (by decide); omega)
        exact nl37 (σ60, lf [x62], lg []) ⟨Fr.tr (Fr.tr (Fr.rf) hF41 (fO_sub (fun _ q => q))) (sA_f eσ60) (fN_O mem0), hJ61, (show (0 : Int) ≤ (x62 : Int32).toInt ∧ (x62 : Int32).toInt ≤ 1408 from (by have f0 := t63; have f1 := b43; have f2 := k53; have f3 := t47; have g0 := rg32 x62; have z1 : (1 : Int32).toInt = 1 := (by decide); omega)), trivial⟩ (show ((1409 : Int) - x62.toInt).toNat < _ from by first | exact t64 | (rw [← eσ40]; exact t64)) _ _ _ hP hS (lv_sub hl [0, 1, 2] rfl)
      ·
        intro nj56
        refine lv_icmp_ge (tgt := 54) hx hb dX3_countPlays_42 (by decide) (fun c65 => ?_) (fun c65 => ?_)
        ·
          have k66 := ple32 c65
          refine lv_iconst (v := 1) hx hb dX3_countPlays_54 (by decide) ?_
          exact nj56 (σ40, lf [1], lg []) ⟨rfl, (show (-2147483648 : Int) ≤ (1 : Int32).toInt ∧ (1 : Int32).toInt ≤ 1000000001 from (by have z1 : (1 : Int32).toInt = 1 := (by decide); omega)), trivial⟩ _ _ _ hP hS (lv_sub hl [0, 1, 2] rfl)
        ·
          have k67 := nle32 c65
          refine lv_aload_n hx hb dX3_countPlays_45 rfl (lv_at hl 2 rfl) ?_
          refine lv_iload_n hx hb dX3_countPlays_46 rfl (lv_at hl 1 rfl) ?_
          refine lv_iload_n hx hb dX3_countPlays_47 rfl (lv_at hl 0 rfl) ?_
          refine va_calli (va_runV (As := [.int (y5.2.1 0), .int (y39.2.1 0)]) (rest := [.int (y39.2.1 0), .ref (gR g 13 18)]) ⟨hx, hb, hml, hown, hts⟩ (m_X3_sumBehind l D cy g σ40  (y5.2.1 0) (y39.2.1 0) _ hJ42 (show (0 : Int) ≤ (y5.2.1 0).toInt ∧ (y5.2.1 0).toInt ≤ 14 from (by have f0 := b9; have f1 := k34; have f2 := t45; have f3 := t55; have f4 := k67; have f5 := j8_3_0 hJ42 rfl; have g0 := rg32 (y5.2.1 0); have z0 : (0 : Int32).toInt = 0 := (by decide); have z1 : (1 : Int32).toInt = 1 := (by decide); omega)) (show (0 : Int) ≤ (y39.2.1 0).toInt ∧ (y39.2.1 0).toInt ≤ 1407 from (by have f0 := b9; have f1 := k34; have f2 := b43; have f3 := t45; have f4 := k53; have f5 := t55; have f6 := t47; have f7 := k67; have f8 := j8_3_0 hJ42 rfl; have g0 := rg32 (y39.2.1 0); have g1 := rg32 (y5.2.1 0); have z0 : (0 : Int32).toInt = 0 := (by decide); have z1 : (1 : Int32).toInt = 1 := (by decide); omega))) (cwV 2 hts (gd_V q1056 q1058 q31 q129 q1059) rfl rfl rfl (by decide +kernel) ⟨(Nat.le_of_ble_eq_true rfl), (Nat.le_of_ble_eq_true rfl)⟩) (pv8 hP hK hD hC hS (rv8_3 hK hP)) rfl rfl hl.1 rfl (lv_room (Nat.le_of_ble_eq_true rfl)) dX3_countPlays_48 ⟨Nat.le_of_ble_eq_true rfl, Nat.le_of_ble_eq_true rfl⟩) hS (fun q _ h => up8 hS q h) (up8 hS) (fun r68 σ69 tS H1 locs ht hvm hw70 hB hz1 hk1 hS => ?_)
          have hP : va_P D clz (WD8 cy g σ69) H1 := by rw [← ht]; exact hB
          clear hB hz1 hk1 hvm ht
          generalize H1 = H at hP hS ⊢
          have hw70E : σ40 = σ69 := (hw70.1).symm
          subst hw70E
          have b71 : (-2147483648 : Int) ≤ r68.toInt ∧ r68.toInt ≤ 1000000001 := hw70.2.1
          refine lv_goto (tgt := 55) hx hb dX3_countPlays_51 (by decide) ?_
          exact nj56 (σ40, lf [r68], lg []) ⟨rfl, (show (-2147483648 : Int) ≤ (r68 : Int32).toInt ∧ (r68 : Int32).toInt ≤ 1000000001 from (by have f0 := b71; have g0 := rg32 r68; omega)), trivial⟩ _ _ _ hP hS (lv_sub hl [0, 1, 2] rfl)

