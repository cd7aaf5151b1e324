theorem q2075 : Cond.code yX9_isHeard cX9_isHeard 7 (some .boolean) ∈ lw_g := lw_gm (List.mem_of_getElem? (i := 2075) (by decide +kernel)) rfl
theorem dX9_isHeard_0 : decode cX9_isHeard 0 = .ok (.aload_n 0, 1) := by decide +kernel
theorem dX9_isHeard_1 : decode cX9_isHeard 1 = .ok (.iload_n 1, 1) := by decide +kernel
theorem dX9_isHeard_2 : decode cX9_isHeard 2 = .ok (.lload 4, 2) := by decide +kernel
theorem dX9_isHeard_4 : decode cX9_isHeard 4 = .ok (.invokevirtual 332, 3) := by decide +kernel
theorem dX9_isHeard_7 : decode cX9_isHeard 7 = .ok (.ifCond .ne 5, 3) := by decide +kernel
theorem dX9_isHeard_10 : decode cX9_isHeard 10 = .ok (.iconst 0, 1) := by decide +kernel
theorem dX9_isHeard_11 : decode cX9_isHeard 11 = .ok (.ireturn, 1) := by decide +kernel
theorem dX9_isHeard_12 : decode cX9_isHeard 12 = .ok (.iconst 2, 1) := by decide +kernel
theorem dX9_isHeard_13 : decode cX9_isHeard 13 = .ok (.istore 6, 2) := by decide +kernel
theorem dX9_isHeard_15 : decode cX9_isHeard 15 = .ok (.iload 6, 2) := by decide +kernel
theorem dX9_isHeard_17 : decode cX9_isHeard 17 = .ok (.aload_n 0, 1) := by decide +kernel
theorem dX9_isHeard_18 : decode cX9_isHeard 18 = .ok (.getfield 34, 3) := by decide +kernel
theorem dX9_isHeard_21 : decode cX9_isHeard 21 = .ok (.iconst 1, 1) := by decide +kernel
theorem dX9_isHeard_22 : decode cX9_isHeard 22 = .ok (.iaload, 1) := by decide +kernel
theorem dX9_isHeard_23 : decode cX9_isHeard 23 = .ok (.if_icmp .gt 35, 3) := by decide +kernel
theorem dX9_isHeard_26 : decode cX9_isHeard 26 = .ok (.aload_n 0, 1) := by decide +kernel
theorem dX9_isHeard_27 : decode cX9_isHeard 27 = .ok (.iload_n 1, 1) := by decide +kernel
theorem dX9_isHeard_28 : decode cX9_isHeard 28 = .ok (.lload_n 2, 1) := by decide +kernel
theorem dX9_isHeard_29 : decode cX9_isHeard 29 = .ok (.l2i, 1) := by decide +kernel
theorem dX9_isHeard_30 : decode cX9_isHeard 30 = .ok (.iload 6, 2) := by decide +kernel
theorem dX9_isHeard_32 : decode cX9_isHeard 32 = .ok (.lload 4, 2) := by decide +kernel
theorem dX9_isHeard_34 : decode cX9_isHeard 34 = .ok (.l2i, 1) := by decide +kernel
theorem dX9_isHeard_35 : decode cX9_isHeard 35 = .ok (.invokevirtual 363, 3) := by decide +kernel
theorem dX9_isHeard_38 : decode cX9_isHeard 38 = .ok (.invokestatic 348, 3) := by decide +kernel
theorem dX9_isHeard_41 : decode cX9_isHeard 41 = .ok (.aload_n 0, 1) := by decide +kernel
theorem dX9_isHeard_42 : decode cX9_isHeard 42 = .ok (.getfield 34, 3) := by decide +kernel
theorem dX9_isHeard_45 : decode cX9_isHeard 45 = .ok (.iconst 0, 1) := by decide +kernel
theorem dX9_isHeard_46 : decode cX9_isHeard 46 = .ok (.iaload, 1) := by decide +kernel
theorem dX9_isHeard_47 : decode cX9_isHeard 47 = .ok (.if_icmp .gt 5, 3) := by decide +kernel
theorem dX9_isHeard_50 : decode cX9_isHeard 50 = .ok (.iconst 1, 1) := by decide +kernel
theorem dX9_isHeard_51 : decode cX9_isHeard 51 = .ok (.ireturn, 1) := by decide +kernel
theorem dX9_isHeard_52 : decode cX9_isHeard 52 = .ok (.iinc 6 1, 3) := by decide +kernel
theorem dX9_isHeard_55 : decode cX9_isHeard 55 = .ok (.goto (-40), 3) := by decide +kernel
theorem dX9_isHeard_58 : decode cX9_isHeard 58 = .ok (.iconst 0, 1) := by decide +kernel
theorem dX9_isHeard_59 : decode cX9_isHeard 59 = .ok (.ireturn, 1) := by decide +kernel
set_option maxHeartbeats 4000000 in
set_option maxRecDepth 100000 in
theorem m_X9_isHeard (l : Launch) (D : va_G) (cy : Nat → ClassId) (g : Nat → Nat) (σ : ST) (p1 : Int32) (p2 : Int64) (p4 : Int64) (sz : Nat) (hJ : J9 (σ 9)) (h0 : (0 : Int) ≤ p1.toInt ∧ p1.toInt ≤ 3) (h1 : 100 ≤ ((σ 9).2.2.1 18 (7 * p1.toInt.toNat + 2)).toInt) : Met l yX9_isHeard (ww yX9_isHeard cX9_isHeard 7 (some .boolean)) ({ frames := 3, cells := 0, slots := 0, locals := 192 }) (va_Pc [.ref (g 60), .int p1, .long p2, .long p4] (pr9 D cy g σ sz)) (qi9 D cy g sz (fun r τ => Fr (fL [23]) σ τ ∧ J9 (τ 9) ∧ ((0 : Int) ≤ r.toInt ∧ r.toInt ≤ 1) ∧ True)) 0 0 (A9 cy g sz) := by
  refine Met.ofW (cc := cX9_isHeard) (maxL := 7) (ret := (some .boolean)) (by decide) rfl ?_
  intro p e s m args below meth c s₁ B hml hv
  obtain ⟨rfl, hsz, hP, hK, hD0, hC⟩ := hv
  have hx := B.exec
  have hb := B.bytes
  have hr := B.returns
  have hts := hts_g (atoms_spec (ws := ww yX9_isHeard cX9_isHeard 7 (some .boolean)) B.pre)
  have hown : s.vm.findClass RX9 = some m.cls := findClass_of_methodNamed B.named
  have hlocks := B.notSynchronized
  clear B
  subst hsz
  have hD := fun τ => A9_D (sz := s.heap.size) hD0 τ
  clear hD0
  have hS : va_S (A9 cy g s.heap.size) s.heap s.heap [] := va_S.rf
  have hl := lv_entry ([.ref (g 60), .int p1, .long p2, .long p4]) (n := 7) (Nat.le_of_ble_eq_true rfl)
  rw [lg_entry_eq]
  generalize (lg_sl ([.ref (g 60), .int p1, .long p2, .long p4]) ++ List.replicate (7 - (lg_sl ([.ref (g 60), .int p1, .long p2, .long p4])).length) Slot.unset).toArray = ls at hl ⊢
  have hl : lv_has ls 7 [(0, .ref (g 60)), (1, .int p1), (2, .long p2), (4, .long p4)] := hl
  refine lv_aload_n hx hb dX9_isHeard_0 rfl (lv_at hl 0 rfl) ?_
  refine lv_iload_n hx hb dX9_isHeard_1 rfl (lv_at hl 1 rfl) ?_
  refine lv_lload hx hb dX9_isHeard_2 (lv_at hl 3 rfl) ?_
  refine va_calli (va_runV (As := [.int p1, .long p4]) (rest := []) ⟨hx, hb, hml, hown, hts⟩ (m_X9_isSetting l D cy g σ p1 p4 _ hJ (show (0 : Int) ≤ p1.toInt ∧ p1.toInt ≤ 3 from (by have f0 := h0; have f1 := h1; have g1 := rg32 p1; omega))) (cwV 2 hts (gd_V q1739 q1741 q77 q134 q1742) rfl rfl rfl (by decide +kernel) ⟨Nat.le_of_ble_eq_true rfl, Nat.le_of_ble_eq_true rfl⟩) (pv9 hP hK hD hC hS (va_recv hK hP (ci := 9) (q0 := 0) rfl rfl)) rfl rfl hl.1 rfl (lv_room (Nat.le_of_ble_eq_true rfl)) dX9_isHeard_4 ⟨Nat.le_of_ble_eq_true rfl, Nat.le_of_ble_eq_true rfl⟩) hS (fun q _ h => up9 hS q h) (up9 hS) (fun r1 σ2 tS H1 locs ht hvm hw3 hB hz1 hk1 hS => ?_)
  have hP : va_P D clz (WD9 cy g σ2) H1 := by rw [← ht]; exact hB
  clear hB hz1 hk1 hvm ht
  generalize H1 = H at hP hS ⊢
  have hw3E : σ = σ2 := (hw3.1).symm
  subst hw3E
  have b4 : (0 : Int) ≤ r1.toInt ∧ r1.toInt ≤ 1 := hw3.2.1
  have b5 : (r1.toInt = 0) ∨ (0 ≤ p4.toInt ∧ p4.toInt ≤ 7) := hw3.2.2.1
  refine lv_if_ne (tgt := 12) hx hb dX9_isHeard_7 (by decide) (fun c6 => ?_) (fun c6 => ?_)
  ·
    have k7 := neq32 c6
    refine lv_iconst (v := 2) hx hb dX9_isHeard_12 (by decide) ?_
    refine lv_istore (lv' := [(6, .int 2), (0, .ref (g 60)), (1, .int p1), (2, .long p2), (4, .long p4)]) hx hb dX9_isHeard_13 hl (by decide) rfl (fun ls hl => ?_)
    refine loop9 7 15 (fun x : LZ => [(6, .int (x.2.1 0)), (0, .ref (g 60)), (1, .int p1), (2, .long p2), (4, .long p4)]) (fun x : LZ => (Fr (fL [23]) σ x.1) ∧ (J9 (x.1 9)) ∧ ((2 : Int) ≤ (x.2.1 0).toInt ∧ (x.2.1 0).toInt ≤ 61) ∧ True) (fun x : LZ => ((62 : Int) - (x.2.1 0).toInt).toNat) ?_ (σ, lf [2], lg []) ⟨Fr.rf, hJ, (show (2 : Int) ≤ (2 : Int32).toInt ∧ (2 : Int32).toInt ≤ 61 from (by have z2 : (2 : Int32).toInt = 2 := (by decide); omega)), trivial⟩ _ _ _ hP hS (lv_sub hl [0, 1, 2, 3, 4] rfl)
    intro y10 hI9 nl8 H locs ls hP hS hl
    obtain ⟨σ11, eσ11⟩ : ∃ z, z = y10.1 := ⟨_, rfl⟩
    rw [← eσ11] at hP hI9
    have hF12 : Fr (fL [23]) σ σ11 := hI9.1
    have hJ13 : J9 (σ11 9) := hI9.2.1
    have b14 : (2 : Int) ≤ (y10.2.1 0).toInt ∧ (y10.2.1 0).toInt ≤ 61 := hI9.2.2.1
    have hl : lv_has ls 7 [(6, .int (y10.2.1 0)), (0, .ref (g 60)), (1, .int p1), (2, .long p2), (4, .long p4)] := hl
    refine lv_iload hx hb dX9_isHeard_15 (lv_at hl 0 rfl) ?_
    refine lv_aload_n hx hb dX9_isHeard_17 rfl (lv_at hl 1 rfl) ?_
    refine g9_17 hx hb hts hown hK hP (hts _ q1377) dX9_isHeard_18 ?_
    refine lv_iconst (v := 1) hx hb dX9_isHeard_21 (by decide) ?_
    refine l9_17 (x := ((σ 9).2.2.1 17 1)) hx hb hK hP (vpi (by decide)) ((congrFun ((hF12 9 17 rfl).2.2.1) _).trans (congrArg ((σ 9).2.2.1 17) (show (1 : Int32).toInt.toNat = 1 by decide))) dX9_isHeard_22 ?_
    refine lv_icmp_gt (tgt := 58) hx hb dX9_isHeard_23 (by decide) (fun c15 => ?_) (fun c15 => ?_)
    ·
      have k16 := plt32 c15
      refine lv_iconst (v := 0) hx hb dX9_isHeard_58 (by decide) ?_
      exact W.zret (v := 0) hx hb hr rfl (fun tS ht hW => ⟨⟨0, σ11, rfl, ⟨Fr.tr (Fr.rf) hF12 (fL_sub rfl), hJ13, (show (0 : Int) ≤ (0 : Int32).toInt ∧ (0 : Int32).toInt ≤ 1 from (by have z0 : (0 : Int32).toInt = 0 := (by decide); omega)), trivial⟩, (show va_P D clz (WD9 cy g σ11) tS.heap by rw [ht]; exact hP)⟩, hS.F ht⟩) hS.2.2 dX9_isHeard_59
    ·
      have k17 := nlt32 c15
      refine lv_aload_n hx hb dX9_isHeard_26 rfl (lv_at hl 1 rfl) ?_
      refine lv_iload_n hx hb dX9_isHeard_27 rfl (lv_at hl 2 rfl) ?_
      refine lv_lload_n hx hb dX9_isHeard_28 rfl (lv_at hl 3 rfl) ?_
      refine lv_l2i hx hb dX9_isHeard_29 rfl ?_
      refine lv_topi (fun x18 ex18 => ?_)
      refine lv_iload hx hb dX9_isHeard_30 (lv_at hl 0 rfl) ?_
      refine lv_lload hx hb dX9_isHeard_32 (lv_at hl 4 rfl) ?_
      refine lv_l2i hx hb dX9_isHeard_34 rfl ?_
      refine lv_topi (fun x19 ex19 => ?_)
      have t20 := l2iO ex19 (by have f0 := b5; have f1 := b4; have f2 := k7; have z0 : (0 : Int32).toInt = 0 := (by decide); omega)
      refine va_calli (va_runV (As := [.int p1, .int x18, .int (y10.2.1 0), .int x19]) (rest := []) ⟨hx, hb, hml, hown, hts⟩ (m_X9_offOf l D cy g σ11 p1 x18 (y10.2.1 0) x19 _ hJ13 (show (0 : Int) ≤ p1.toInt ∧ p1.toInt ≤ 3 from (by have f0 := h0; have f1 := h1; have g1 := rg32 p1; omega)) (show (0 : Int) ≤ (y10.2.1 0).toInt ∧ (y10.2.1 0).toInt ≤ 12 from (by have f0 := h0; have f1 := h1; have f2 := b14; have f3 := k17; have f4 := a9_17 hJ (j := 1) rfl; have g1 := rg32 (y10.2.1 0); have g2 := rg32 p1; omega)) (show (0 : Int) ≤ x19.toInt ∧ x19.toInt ≤ 7 from (by have f0 := h0; have f1 := h1; have f2 := b14; have f3 := k17; have f4 := t20; have f5 := a9_17 hJ (j := 1) rfl; have f6 := b5; have f7 := b4; have f8 := k7; have g1 := rg32 (y10.2.1 0); have g2 := rg32 p1; have g3 := rg32 x19; have z0 : (0 : Int32).toInt = 0 := (by decide); omega)) (show 100 ≤ ((σ11 9).2.2.1 18 (7 * p1.toInt.toNat + 2)).toInt from (by have f0 := congrArg Int32.toInt (show ((σ11 9).2.2.1 18 (7 * p1.toInt.toNat + 2)) = ((σ 9).2.2.1 18 (7 * p1.toInt.toNat + 2)) from congrFun ((hF12 9 18 rfl).2.2.1) _); have f1 := h0; have f2 := h1; have g2 := rg32 p1; omega))) (cwV 4 hts (gd_V q1772 q1774 q83 q134 q1775) rfl rfl rfl (by decide +kernel) ⟨Nat.le_of_ble_eq_true rfl, Nat.le_of_ble_eq_true rfl⟩) (pv9 hP hK hD hC hS (va_recv hK hP (ci := 9) (q0 := 0) rfl rfl)) rfl rfl hl.1 rfl (lv_room (Nat.le_of_ble_eq_true rfl)) dX9_isHeard_35 ⟨Nat.le_of_ble_eq_true rfl, Nat.le_of_ble_eq_true rfl⟩) hS (fun q _ h => up9 hS q h) (up9 hS) (fun r21 σ22 tS H1 locs ht hvm hw23 hB hz1 hk1 hS => ?_)
      have hP : va_P D clz (WD9 cy g σ22) H1 := by rw [← ht]; exact hB
      clear hB hz1 hk1 hvm ht
      generalize H1 = H at hP hS ⊢
      have hF24 : Fr (fL [23]) σ11 σ22 := hw23.1
      have hJ25 : J9 (σ22 9) := hw23.2.1
      refine va_calli (va_runS (As := [.int r21]) (rest := []) ⟨hx, hb, hml, hown, hts⟩ (m_X9_size l D cy g σ22 r21 _ hJ25 ) (va_cwS 1 hts (gd_S q1778 q1779 q134 q1780) rfl rfl rfl (by decide +kernel) ⟨Nat.le_of_ble_eq_true rfl, Nat.le_of_ble_eq_true rfl⟩) (ps9 hP hK hD hC hS) rfl rfl hl.1 rfl (lv_room (Nat.le_of_ble_eq_true rfl)) dX9_isHeard_38 ⟨Nat.le_of_ble_eq_true rfl, Nat.le_of_ble_eq_true rfl⟩) hS (fun q _ h => up9 hS q h) (up9 hS) (fun r26 σ27 tS H1 locs ht hvm hw28 hB hz1 hk1 hS => ?_)
      have hP : va_P D clz (WD9 cy g σ27) H1 := by rw [← ht]; exact hB
      clear hB hz1 hk1 hvm ht
      generalize H1 = H at hP hS ⊢
      have hw28E : σ22 = σ27 := (hw28.1).symm
      subst hw28E
      have b29 : r26 = sizeF r21 := hw28.2.1
      refine lv_aload_n hx hb dX9_isHeard_41 rfl (lv_at hl 1 rfl) ?_
      refine g9_17 hx hb hts hown hK hP (hts _ q1377) dX9_isHeard_42 ?_
      refine lv_iconst (v := 0) hx hb dX9_isHeard_45 (by decide) ?_
      refine l9_17 (x := ((σ 9).2.2.1 17 0)) hx hb hK hP (vpi (by decide)) ((congrFun (((hF24 9 17 rfl).2.2.1).trans ((hF12 9 17 rfl).2.2.1)) _).trans (congrArg ((σ 9).2.2.1 17) (show (0 : Int32).toInt.toNat = 0 by decide))) dX9_isHeard_46 ?_
      refine lv_icmp_gt (tgt := 52) hx hb dX9_isHeard_47 (by decide) (fun c30 => ?_) (fun c30 => ?_)
      ·
        have k31 := plt32 c30
        obtain ⟨x32, ex32⟩ : ∃ y : Int32, y = (y10.2.1 0) + 1 := ⟨_, rfl⟩
        have t33 := addO ex32 (by have f0 := b14; have f1 := k17; have f2 := a9_17 hJ (j := 1) rfl; have g0 := rg32 (y10.2.1 0); have z1 : (1 : Int32).toInt = 1 := (by decide); omega)
        refine lv_iinc (v := x32) (lv' := [(6, .int x32), (0, .ref (g 60)), (1, .int p1), (2, .long p2), (4, .long p4)]) hx hb dX9_isHeard_52 hl (k := 0) rfl (by rw [ex32]; rfl) (by decide) rfl (fun ls hl => ?_)
        refine lv_goto (tgt := 15) hx hb dX9_isHeard_55 (by decide) ?_
        have t34 : ((62 : Int) - x32.toInt).toNat < ((62 : Int) - (y10.2.1 0).toInt).toNat := (by have f0 := b14; have f1 := k17; have f2 := t33; have f3 := a9_17 hJ (j := 1) rfl; have g0 := rg32 (y10.2.1 0); have g1 := rg32 x32; have z1 : (1 : Int32).toInt = 1 := (by decide); omega)
        exact nl8 (σ22, lf [x32], lg []) ⟨Fr.tr (Fr.tr (Fr.rf) hF12 (fL_sub rfl)) hF24 (fL_sub rfl), hJ25, (show (2 : Int) ≤ (x32 : Int32).toInt ∧ (x32 : Int32).toInt ≤ 61 from (by have f0 := t33; have f1 := b14; have f2 := k17; have f3 := a9_17 hJ (j := 1) rfl; have g0 := rg32 x32; have z1 : (1 : Int32).toInt = 1 := (by decide); omega)), trivial⟩ (show ((62 : Int) - x32.toInt).toNat < _ from by first | exact t34 | (rw [← eσ11]; exact t34)) _ _ _ hP hS (lv_sub hl [0, 1, 2, 3, 4] rfl)
      ·
        have k35 := nlt32 c30
        refine lv_iconst (v := 1) hx hb dX9_isHeard_50 (by decide) ?_
        exact W.zret (v := 1) hx hb hr rfl (fun tS ht hW => ⟨⟨1, σ22, rfl, ⟨Fr.tr (Fr.tr (Fr.rf) hF12 (fL_sub rfl)) hF24 (fL_sub rfl), hJ25, (show (0 : Int) ≤ (1 : Int32).toInt ∧ (1 : Int32).toInt ≤ 1 from (by have z1 : (1 : Int32).toInt = 1 := (by decide); omega)), trivial⟩, (show va_P D clz (WD9 cy g σ22) tS.heap by rw [ht]; exact hP)⟩, hS.F ht⟩) hS.2.2 dX9_isHeard_51
  ·
    have k36 := peq32 c6
    refine lv_iconst (v := 0) hx hb dX9_isHeard_10 (by decide) ?_
    exact W.zret (v := 0) hx hb hr rfl (fun tS ht hW => ⟨⟨0, σ, rfl, ⟨Fr.rf, hJ, (show (0 : Int) ≤ (0 : Int32).toInt ∧ (0 : Int32).toInt ≤ 1 from (by have z0 : (0 : Int32).toInt = 0 := (by decide); omega)), trivial⟩, (show va_P D clz (WD9 cy g σ) tS.heap by rw [ht]; exact hP)⟩, hS.F ht⟩) hS.2.2 dX9_isHeard_11

theorem q2071 : Cond.code yX9_heard cX9_heard 6 (some .int) ∈ lw_g := lw_gm (List.mem_of_getElem? (i := 2071) (by decide +kernel)) rfl
theorem q2032 : Cond.methodLink RX9 507 yX9_isDesk ∈ lw_g := lw_gm (List.mem_of_getElem? (i := 2032) (by decide +kernel)) rfl
theorem q2034 : Cond.instanceMethod yX9_isDesk ∈ lw_g := lw_gm (List.mem_of_getElem? (i := 2034) (by decide +kernel)) rfl
theorem q116 : Cond.selects RX9 yX9_isDesk yX9_isDesk ∈ lw_g := lw_gm (List.mem_of_getElem? (i := 116) (by decide +kernel)) rfl
theorem q2072 : Cond.methodLink RX9 522 yX9_isHeard ∈ lw_g := lw_gm (List.mem_of_getElem? (i := 2072) (by decide +kernel)) rfl
theorem q2074 : Cond.instanceMethod yX9_isHeard ∈ lw_g := lw_gm (List.mem_of_getElem? (i := 2074) (by decide +kernel)) rfl
theorem q122 : Cond.selects RX9 yX9_isHeard yX9_isHeard ∈ lw_g := lw_gm (List.mem_of_getElem? (i := 122) (by decide +kernel)) rfl
theorem dX9_heard_0 : decode cX9_heard 0 = .ok (.aload_n 0, 1) := by decide +kernel
theorem dX9_heard_1 : decode cX9_heard 1 = .ok (.iconst 0, 1) := by decide +kernel
theorem dX9_heard_2 : decode cX9_heard 2 = .ok (.putfield 129, 3) := by decide +kernel
theorem dX9_heard_5 : decode cX9_heard 5 = .ok (.iload_n 1, 1) := by decide +kernel
theorem dX9_heard_6 : decode cX9_heard 6 = .ok (.invokestatic 138, 3) := by decide +kernel
theorem dX9_heard_9 : decode cX9_heard 9 = .ok (.ifCond .eq 10, 3) := by decide +kernel
theorem dX9_heard_12 : decode cX9_heard 12 = .ok (.aload_n 0, 1) := by decide +kernel
theorem dX9_heard_13 : decode cX9_heard 13 = .ok (.invokevirtual 507, 3) := by decide +kernel
theorem dX9_heard_16 : decode cX9_heard 16 = .ok (.ifCond .ne 6, 3) := by decide +kernel
theorem dX9_heard_19 : decode cX9_heard 19 = .ok (.bipush (-2), 2) := by decide +kernel
theorem dX9_heard_21 : decode cX9_heard 21 = .ok (.ireturn, 1) := by decide +kernel
theorem dX9_heard_22 : decode cX9_heard 22 = .ok (.aload_n 0, 1) := by decide +kernel
theorem dX9_heard_23 : decode cX9_heard 23 = .ok (.getfield 7, 3) := by decide +kernel
theorem dX9_heard_26 : decode cX9_heard 26 = .ok (.iload_n 1, 1) := by decide +kernel
theorem dX9_heard_27 : decode cX9_heard 27 = .ok (.iaload, 1) := by decide +kernel
theorem dX9_heard_28 : decode cX9_heard 28 = .ok (.iconst (-1), 1) := by decide +kernel
theorem dX9_heard_29 : decode cX9_heard 29 = .ok (.if_icmp .ne 6, 3) := by decide +kernel
theorem dX9_heard_32 : decode cX9_heard 32 = .ok (.bipush (-6), 2) := by decide +kernel
theorem dX9_heard_34 : decode cX9_heard 34 = .ok (.ireturn, 1) := by decide +kernel
theorem dX9_heard_35 : decode cX9_heard 35 = .ok (.aload_n 0, 1) := by decide +kernel
theorem dX9_heard_36 : decode cX9_heard 36 = .ok (.getfield 13, 3) := by decide +kernel
theorem dX9_heard_39 : decode cX9_heard 39 = .ok (.iload_n 1, 1) := by decide +kernel
theorem dX9_heard_40 : decode cX9_heard 40 = .ok (.iaload, 1) := by decide +kernel
theorem dX9_heard_41 : decode cX9_heard 41 = .ok (.iconst 2, 1) := by decide +kernel
theorem dX9_heard_42 : decode cX9_heard 42 = .ok (.irem, 1) := by decide +kernel
theorem dX9_heard_43 : decode cX9_heard 43 = .ok (.ifCond .eq 6, 3) := by decide +kernel
theorem dX9_heard_46 : decode cX9_heard 46 = .ok (.bipush (-2), 2) := by decide +kernel
theorem dX9_heard_48 : decode cX9_heard 48 = .ok (.ireturn, 1) := by decide +kernel
theorem dX9_heard_49 : decode cX9_heard 49 = .ok (.iconst 0, 1) := by decide +kernel
theorem dX9_heard_50 : decode cX9_heard 50 = .ok (.istore_n 2, 1) := by decide +kernel
theorem dX9_heard_51 : decode cX9_heard 51 = .ok (.iload_n 2, 1) := by decide +kernel
theorem dX9_heard_52 : decode cX9_heard 52 = .ok (.aload_n 0, 1) := by decide +kernel
theorem dX9_heard_53 : decode cX9_heard 53 = .ok (.getfield 13, 3) := by decide +kernel
theorem dX9_heard_56 : decode cX9_heard 56 = .ok (.iload_n 1, 1) := by decide +kernel
theorem dX9_heard_57 : decode cX9_heard 57 = .ok (.iaload, 1) := by decide +kernel
theorem dX9_heard_58 : decode cX9_heard 58 = .ok (.if_icmp .ge 29, 3) := by decide +kernel
theorem dX9_heard_61 : decode cX9_heard 61 = .ok (.aload_n 0, 1) := by decide +kernel
theorem dX9_heard_62 : decode cX9_heard 62 = .ok (.getfield 16, 3) := by decide +kernel
theorem dX9_heard_65 : decode cX9_heard 65 = .ok (.bipush 60, 2) := by decide +kernel
theorem dX9_heard_67 : decode cX9_heard 67 = .ok (.iload_n 1, 1) := by decide +kernel
theorem dX9_heard_68 : decode cX9_heard 68 = .ok (.imul, 1) := by decide +kernel
theorem dX9_heard_69 : decode cX9_heard 69 = .ok (.iload_n 2, 1) := by decide +kernel
theorem dX9_heard_70 : decode cX9_heard 70 = .ok (.iadd, 1) := by decide +kernel
theorem dX9_heard_71 : decode cX9_heard 71 = .ok (.laload, 1) := by decide +kernel
theorem dX9_heard_72 : decode cX9_heard 72 = .ok (.invokestatic 353, 3) := by decide +kernel
theorem dX9_heard_75 : decode cX9_heard 75 = .ok (.ifCond .ne 6, 3) := by decide +kernel
theorem dX9_heard_78 : decode cX9_heard 78 = .ok (.bipush (-2), 2) := by decide +kernel
theorem dX9_heard_80 : decode cX9_heard 80 = .ok (.ireturn, 1) := by decide +kernel
theorem dX9_heard_81 : decode cX9_heard 81 = .ok (.iinc 2 2, 3) := by decide +kernel
theorem dX9_heard_84 : decode cX9_heard 84 = .ok (.goto (-33), 3) := by decide +kernel
theorem dX9_heard_87 : decode cX9_heard 87 = .ok (.iconst 0, 1) := by decide +kernel
theorem dX9_heard_88 : decode cX9_heard 88 = .ok (.istore_n 2, 1) := by decide +kernel
theorem dX9_heard_89 : decode cX9_heard 89 = .ok (.iconst 0, 1) := by decide +kernel
theorem dX9_heard_90 : decode cX9_heard 90 = .ok (.istore_n 3, 1) := by decide +kernel
theorem dX9_heard_91 : decode cX9_heard 91 = .ok (.iload_n 3, 1) := by decide +kernel
theorem dX9_heard_92 : decode cX9_heard 92 = .ok (.aload_n 0, 1) := by decide +kernel
theorem dX9_heard_93 : decode cX9_heard 93 = .ok (.getfield 34, 3) := by decide +kernel
theorem dX9_heard_96 : decode cX9_heard 96 = .ok (.iconst 2, 1) := by decide +kernel
theorem dX9_heard_97 : decode cX9_heard 97 = .ok (.iaload, 1) := by decide +kernel
theorem dX9_heard_98 : decode cX9_heard 98 = .ok (.if_icmp .ge 85, 3) := by decide +kernel
theorem dX9_heard_101 : decode cX9_heard 101 = .ok (.iconst 1, 1) := by decide +kernel
theorem dX9_heard_102 : decode cX9_heard 102 = .ok (.istore 4, 2) := by decide +kernel
theorem dX9_heard_104 : decode cX9_heard 104 = .ok (.iconst 0, 1) := by decide +kernel
theorem dX9_heard_105 : decode cX9_heard 105 = .ok (.istore 5, 2) := by decide +kernel
theorem dX9_heard_107 : decode cX9_heard 107 = .ok (.iload 5, 2) := by decide +kernel
theorem dX9_heard_109 : decode cX9_heard 109 = .ok (.aload_n 0, 1) := by decide +kernel
theorem dX9_heard_110 : decode cX9_heard 110 = .ok (.getfield 13, 3) := by decide +kernel
theorem dX9_heard_113 : decode cX9_heard 113 = .ok (.iload_n 1, 1) := by decide +kernel
theorem dX9_heard_114 : decode cX9_heard 114 = .ok (.iaload, 1) := by decide +kernel
theorem dX9_heard_115 : decode cX9_heard 115 = .ok (.if_icmp .ge 47, 3) := by decide +kernel
theorem dX9_heard_118 : decode cX9_heard 118 = .ok (.iload 4, 2) := by decide +kernel
theorem dX9_heard_120 : decode cX9_heard 120 = .ok (.ifCond .eq 42, 3) := by decide +kernel
theorem dX9_heard_123 : decode cX9_heard 123 = .ok (.aload_n 0, 1) := by decide +kernel
theorem dX9_heard_124 : decode cX9_heard 124 = .ok (.iload_n 3, 1) := by decide +kernel
theorem dX9_heard_125 : decode cX9_heard 125 = .ok (.aload_n 0, 1) := by decide +kernel
theorem dX9_heard_126 : decode cX9_heard 126 = .ok (.getfield 16, 3) := by decide +kernel
theorem dX9_heard_129 : decode cX9_heard 129 = .ok (.bipush 60, 2) := by decide +kernel
theorem dX9_heard_131 : decode cX9_heard 131 = .ok (.iload_n 1, 1) := by decide +kernel
theorem dX9_heard_132 : decode cX9_heard 132 = .ok (.imul, 1) := by decide +kernel
theorem dX9_heard_133 : decode cX9_heard 133 = .ok (.iload 5, 2) := by decide +kernel
theorem dX9_heard_135 : decode cX9_heard 135 = .ok (.iadd, 1) := by decide +kernel
theorem dX9_heard_136 : decode cX9_heard 136 = .ok (.laload, 1) := by decide +kernel
theorem dX9_heard_137 : decode cX9_heard 137 = .ok (.aload_n 0, 1) := by decide +kernel
theorem dX9_heard_138 : decode cX9_heard 138 = .ok (.getfield 16, 3) := by decide +kernel
theorem dX9_heard_141 : decode cX9_heard 141 = .ok (.bipush 60, 2) := by decide +kernel
theorem dX9_heard_143 : decode cX9_heard 143 = .ok (.iload_n 1, 1) := by decide +kernel
theorem dX9_heard_144 : decode cX9_heard 144 = .ok (.imul, 1) := by decide +kernel
theorem dX9_heard_145 : decode cX9_heard 145 = .ok (.iload 5, 2) := by decide +kernel
theorem dX9_heard_147 : decode cX9_heard 147 = .ok (.iadd, 1) := by decide +kernel
theorem dX9_heard_148 : decode cX9_heard 148 = .ok (.iconst 1, 1) := by decide +kernel
theorem dX9_heard_149 : decode cX9_heard 149 = .ok (.iadd, 1) := by decide +kernel
theorem dX9_heard_150 : decode cX9_heard 150 = .ok (.laload, 1) := by decide +kernel
theorem dX9_heard_151 : decode cX9_heard 151 = .ok (.invokevirtual 522, 3) := by decide +kernel
theorem dX9_heard_154 : decode cX9_heard 154 = .ok (.istore 4, 2) := by decide +kernel
theorem dX9_heard_156 : decode cX9_heard 156 = .ok (.iinc 5 2, 3) := by decide +kernel
theorem dX9_heard_159 : decode cX9_heard 159 = .ok (.goto (-52), 3) := by decide +kernel
theorem dX9_heard_162 : decode cX9_heard 162 = .ok (.iload_n 2, 1) := by decide +kernel
theorem dX9_heard_163 : decode cX9_heard 163 = .ok (.iload 4, 2) := by decide +kernel
theorem dX9_heard_165 : decode cX9_heard 165 = .ok (.ifCond .eq 9, 3) := by decide +kernel
theorem dX9_heard_168 : decode cX9_heard 168 = .ok (.iconst 1, 1) := by decide +kernel
theorem dX9_heard_169 : decode cX9_heard 169 = .ok (.iload_n 3, 1) := by decide +kernel
theorem dX9_heard_170 : decode cX9_heard 170 = .ok (.ishl, 1) := by decide +kernel
theorem dX9_heard_171 : decode cX9_heard 171 = .ok (.goto 4, 3) := by decide +kernel
theorem dX9_heard_174 : decode cX9_heard 174 = .ok (.iconst 0, 1) := by decide +kernel
theorem dX9_heard_175 : decode cX9_heard 175 = .ok (.ior, 1) := by decide +kernel
theorem dX9_heard_176 : decode cX9_heard 176 = .ok (.istore_n 2, 1) := by decide +kernel
theorem dX9_heard_177 : decode cX9_heard 177 = .ok (.iinc 3 1, 3) := by decide +kernel
theorem dX9_heard_180 : decode cX9_heard 180 = .ok (.goto (-89), 3) := by decide +kernel
theorem dX9_heard_183 : decode cX9_heard 183 = .ok (.iload_n 2, 1) := by decide +kernel
theorem dX9_heard_184 : decode cX9_heard 184 = .ok (.ireturn, 1) := by decide +kernel
set_option maxHeartbeats 4000000 in
set_option maxRecDepth 100000 in
theorem m_X9_heard (l : Launch) (D : va_G) (cy : Nat → ClassId) (g : Nat → Nat) (σ : ST) (p1 : Int32) (sz : Nat) (hJ : J9 (σ 9)) (kDK0 : DK0 (σ 9)) : Met l yX9_heard (ww yX9_heard cX9_heard 6 (some .int)) ({ frames := 4, cells := 0, slots := 0, locals := 256 }) (va_Pc [.ref (g 60), .int p1] (pr9 D cy g σ sz)) (qi9 D cy g sz (fun r τ => Fr (fL [0, 23]) σ τ ∧ J9 (τ 9) ∧ True)) 0 0 (A9 cy g sz) := by
  refine Met.ofW (cc := cX9_heard) (maxL := 6) (ret := (some .int)) (by decide) rfl ?_
  intro p e s m args below meth c s₁ B hml hv
  obtain ⟨rfl, hsz, hP, hK, hD0, hC⟩ := hv
  have hx := B.exec
  have hb := B.bytes
  have hr := B.returns
  have hts := hts_g (atoms_spec (ws := ww yX9_heard cX9_heard 6 (some .int)) B.pre)
  have hown : s.vm.findClass RX9 = some m.cls := findClass_of_methodNamed B.named
  have hlocks := B.notSynchronized
  clear B
  subst hsz
  have hD := fun τ => A9_D (sz := s.heap.size) hD0 τ
  clear hD0
  have hS : va_S (A9 cy g s.heap.size) s.heap s.heap [] := va_S.rf
  have hl := lv_entry ([.ref (g 60), .int p1]) (n := 6) (Nat.le_of_ble_eq_true rfl)
  rw [lg_entry_eq]
  generalize (lg_sl ([.ref (g 60), .int p1]) ++ List.replicate (6 - (lg_sl ([.ref (g 60), .int p1])).length) Slot.unset).toArray = ls at hl ⊢
  have hl : lv_has ls 6 [(0, .ref (g 60)), (1, .int p1)] := hl
  refine lv_aload_n hx hb dX9_heard_0 rfl (lv_at hl 0 rfl) ?_
  refine lv_iconst (v := 0) hx hb dX9_heard_1 (by decide) ?_
  refine p9_0 hx hb hts hown hK hP hD hS (hts _ q1360) dX9_heard_2 (fun H locs σ1 eσ1 hP hS => ?_)
  have hJ2 : J9 (σ1 9) := hJ.I eσ1 (show JI9 0 (0 : Int32) from trivial)
  have T3 : DK0 (σ1 9) := DK0.mv kDK0 ((sI_f eσ1) 9 17 rfl).2.2.1 ((sI_f eσ1) 9 18 rfl).2.2.1 ((sI_f eσ1) 9 19 rfl).2.2.1
  refine lv_iload_n hx hb dX9_heard_5 rfl (lv_at hl 1 rfl) ?_
  refine va_calli (va_runS (As := [.int p1]) (rest := []) ⟨hx, hb, hml, hown, hts⟩ (m_X9_isSlot l D cy g σ1 p1 _ hJ2 ) (va_cwS 1 hts (gd_S q1546 q1547 q134 q1548) rfl rfl rfl (by decide +kernel) ⟨Nat.le_of_ble_eq_true rfl, Nat.le_of_ble_eq_true rfl⟩) (ps9 hP hK hD hC hS) rfl rfl hl.1 rfl (lv_room (Nat.le_of_ble_eq_true rfl)) dX9_heard_6 ⟨Nat.le_of_ble_eq_true rfl, Nat.le_of_ble_eq_true rfl⟩) hS (fun q _ h => up9 hS q h) (up9 hS) (fun r4 σ5 tS H1 locs ht hvm hw6 hB hz1 hk1 hS => ?_)
  have hP : va_P D clz (WD9 cy g σ5) H1 := by rw [← ht]; exact hB
  clear hB hz1 hk1 hvm ht
  generalize H1 = H at hP hS ⊢
  have hw6E : σ1 = σ5 := (hw6.1).symm
  subst hw6E
  have b7 : (0 : Int) ≤ r4.toInt ∧ r4.toInt ≤ 1 := hw6.2.1
  have b8 : (r4.toInt = 0) ∨ ((0 : Int) ≤ p1.toInt ∧ p1.toInt ≤ 3) := hw6.2.2.1
  have b9 : r4.toInt = 1 ∨ p1.toInt < 0 ∨ 3 < p1.toInt := hw6.2.2.2.1
  refine lv_if_eq (tgt := 19) hx hb dX9_heard_9 (by decide) (fun c10 => ?_) (fun c10 => ?_)
  ·
    have k11 := peq32 c10
    refine lv_bipush (v := (-2)) hx hb dX9_heard_19 (by decide) ?_
    exact W.iret (v := (-2)) hx hb hr (fun tS ht hW => ⟨⟨(-2), σ1, rfl, ⟨Fr.tr (Fr.rf) (sI_f eσ1) (fN_L rfl), hJ2, trivial⟩, (show va_P D clz (WD9 cy g σ1) tS.heap by rw [ht]; exact hP)⟩, hS.F ht⟩) hS.2.2 dX9_heard_21
  ·
    have k12 := neq32 c10
    refine lv_aload_n hx hb dX9_heard_12 rfl (lv_at hl 0 rfl) ?_
    refine va_calli (va_runV (As := []) (rest := []) ⟨hx, hb, hml, hown, hts⟩ (m_X9_isDesk l D cy g σ1  _ hJ2 ) (cwV 0 hts (gd_V q2032 q2034 q116 q134 q2035) rfl rfl rfl (by decide +kernel) ⟨Nat.le_of_ble_eq_true rfl, Nat.le_of_ble_eq_true rfl⟩) (pv9 hP hK hD hC hS (va_recv hK hP (ci := 9) (q0 := 0) rfl rfl)) rfl rfl hl.1 rfl (lv_room (Nat.le_of_ble_eq_true rfl)) dX9_heard_13 ⟨Nat.le_of_ble_eq_true rfl, Nat.le_of_ble_eq_true rfl⟩) hS (fun q _ h => up9 hS q h) (up9 hS) (fun r13 σ14 tS H1 locs ht hvm hw15 hB hz1 hk1 hS => ?_)
    have hP : va_P D clz (WD9 cy g σ14) H1 := by rw [← ht]; exact hB
    clear hB hz1 hk1 hvm ht
    generalize H1 = H at hP hS ⊢
    have hw15E : σ1 = σ14 := (hw15.1).symm
    subst hw15E
    have b16 : (0 : Int) ≤ r13.toInt ∧ r13.toInt ≤ 1 := hw15.2.1
    refine lv_if_ne (tgt := 22) hx hb dX9_heard_16 (by decide) (fun c17 => ?_) (fun c17 => ?_)
    ·
      have k18 := neq32 c17
      refine lv_aload_n hx hb dX9_heard_22 rfl (lv_at hl 0 rfl) ?_
      refine g9_1 hx hb hts hown hK hP (hts _ q1361) dX9_heard_23 ?_
      refine lv_iload_n hx hb dX9_heard_26 rfl (lv_at hl 1 rfl) ?_
      obtain ⟨x19, ex19⟩ : ∃ z, (σ 9).2.2.1 1 p1.toInt.toNat = z := ⟨_, rfl⟩
      refine l9_1 (x := x19) hx hb hK hP (vpo (by have f0 := b8; have f1 := b9; have f2 := b7; have f3 := k12; have g0 := rg32 p1; have z0 : (0 : Int32).toInt = 0 := (by decide); omega)) ((congrFun (((sI_f eσ1) 9 1 rfl).2.2.1) _).trans ex19) dX9_heard_27 ?_
      refine lv_iconst (v := (-1)) hx hb dX9_heard_28 (by decide) ?_
      refine lv_icmp_ne (tgt := 35) hx hb dX9_heard_29 (by decide) (fun c20 => ?_) (fun c20 => ?_)
      ·
        have k21 := neq32 c20
        refine lv_aload_n hx hb dX9_heard_35 rfl (lv_at hl 0 rfl) ?_
        refine g9_2 hx hb hts hown hK hP (hts _ q1362) dX9_heard_36 ?_
        refine lv_iload_n hx hb dX9_heard_39 rfl (lv_at hl 1 rfl) ?_
        obtain ⟨x22, ex22⟩ : ∃ z, (σ 9).2.2.1 2 p1.toInt.toNat = z := ⟨_, rfl⟩
        refine l9_2 (x := x22) hx hb hK hP (vpo (by have f0 := b8; have f1 := b9; have f2 := b7; have f3 := k12; have g0 := rg32 p1; have z0 : (0 : Int32).toInt = 0 := (by decide); omega)) ((congrFun (((sI_f eσ1) 9 2 rfl).2.2.1) _).trans ex22) dX9_heard_40 ?_
        have t23 := a9_2 hJ ex22
        refine lv_iconst (v := 2) hx hb dX9_heard_41 (by decide) ?_
        refine lv_irem hx hb dX9_heard_42 (by decide) ?_
        refine lv_topi (fun x24 ex24 => ?_)
        have t25 := remC (n := 2) ex24 (by decide) (by have f0 := t23; have f1 := b8; have f2 := b9; have f3 := b7; have f4 := k12; have g0 := rg32 x22; have z0 : (0 : Int32).toInt = 0 := (by decide); omega)
        refine lv_if_eq (tgt := 49) hx hb dX9_heard_43 (by decide) (fun c26 => ?_) (fun c26 => ?_)
        ·
          have k27 := peq32 c26
          refine lv_iconst (v := 0) hx hb dX9_heard_49 (by decide) ?_
          refine lv_istore_n (lv' := [(2, .int 0), (0, .ref (g 60)), (1, .int p1)]) hx hb dX9_heard_50 rfl hl (by decide) rfl (fun ls hl => ?_)
          refine loop9 6 51 (fun x : LZ => [(2, .int (x.2.1 0)), (0, .ref (g 60)), (1, .int p1)]) (fun x : LZ => (x.1 = σ1) ∧ ((0 : Int) ≤ (x.2.1 0).toInt ∧ (x.2.1 0).toInt ≤ 61) ∧ (DK0 (σ1 9)) ∧ True) (fun x : LZ => ((62 : Int) - (x.2.1 0).toInt).toNat) ?_ (σ1, lf [0], lg []) ⟨rfl, (show (0 : Int) ≤ (0 : Int32).toInt ∧ (0 : Int32).toInt ≤ 61 from (by have z0 : (0 : Int32).toInt = 0 := (by decide); omega)), (show DK0 (σ1 9) from T3), trivial⟩ _ _ _ hP hS (lv_sub hl [0, 1, 2] rfl)
          intro y30 hI29 nl28 H locs ls hP hS hl
          rw [show y30.1 = σ1 from hI29.1] at hP
          have b31 : (0 : Int) ≤ (y30.2.1 0).toInt ∧ (y30.2.1 0).toInt ≤ 61 := hI29.2.1
          have b32 : DK0 (σ1 9) := hI29.2.2.1
          have hl : lv_has ls 6 [(2, .int (y30.2.1 0)), (0, .ref (g 60)), (1, .int p1)] := hl
          refine lv_iload_n hx hb dX9_heard_51 rfl (lv_at hl 0 rfl) ?_
          refine lv_aload_n hx hb dX9_heard_52 rfl (lv_at hl 1 rfl) ?_
          refine g9_2 hx hb hts hown hK hP (hts _ q1362) dX9_heard_53 ?_
          refine lv_iload_n hx hb dX9_heard_56 rfl (lv_at hl 2 rfl) ?_
          refine l9_2 (x := x22) hx hb hK hP (vpo (by have f0 := b8; have f1 := b9; have f2 := t23; have f3 := b7; have f4 := k12; have f5 := t25; have f6 := k27; have g0 := rg32 p1; have z0 : (0 : Int32).toInt = 0 := (by decide); omega)) ((congrFun (((sI_f eσ1) 9 2 rfl).2.2.1) _).trans ex22) dX9_heard_57 ?_
          refine lv_icmp_ge (tgt := 87) hx hb dX9_heard_58 (by decide) (fun c33 => ?_) (fun c33 => ?_)
          ·
            have k34 := ple32 c33
            refine lv_iconst (v := 0) hx hb dX9_heard_87 (by decide) ?_
            refine lv_istore_n (lv' := [(2, .int 0), (0, .ref (g 60)), (1, .int p1)]) hx hb dX9_heard_88 rfl hl (by decide) rfl (fun ls hl => ?_)
            refine lv_iconst (v := 0) hx hb dX9_heard_89 (by decide) ?_
            refine lv_istore_n (lv' := [(3, .int 0), (2, .int 0), (0, .ref (g 60)), (1, .int p1)]) hx hb dX9_heard_90 rfl hl (by decide) rfl (fun ls hl => ?_)
            refine loop9 6 91 (fun x : LZ => [(3, .int (x.2.1 0)), (2, .int (x.2.1 1)), (0, .ref (g 60)), (1, .int p1)]) (fun x : LZ => (Fr (fL [23]) σ1 x.1) ∧ (J9 (x.1 9)) ∧ ((0 : Int) ≤ (x.2.1 0).toInt ∧ (x.2.1 0).toInt ≤ 60) ∧ (DK0 (x.1 9)) ∧ True) (fun x : LZ => ((61 : Int) - (x.2.1 0).toInt).toNat) ?_ (σ1, lf [0, 0], lg []) ⟨Fr.rf, hJ2, (show (0 : Int) ≤ (0 : Int32).toInt ∧ (0 : Int32).toInt ≤ 60 from (by have z0 : (0 : Int32).toInt = 0 := (by decide); omega)), (show DK0 (σ1 9) from b32), trivial⟩ _ _ _ hP hS (lv_sub hl [0, 1, 2, 3] rfl)
            intro y37 hI36 nl35 H locs ls hP hS hl
            obtain ⟨σ38, eσ38⟩ : ∃ z, z = y37.1 := ⟨_, rfl⟩
            rw [← eσ38] at hP hI36
            have hF39 : Fr (fL [23]) σ1 σ38 := hI36.1
            have hJ40 : J9 (σ38 9) := hI36.2.1
            have b41 : (0 : Int) ≤ (y37.2.1 0).toInt ∧ (y37.2.1 0).toInt ≤ 60 := hI36.2.2.1
            have b42 : DK0 (σ38 9) := hI36.2.2.2.1
            have hl : lv_has ls 6 [(3, .int (y37.2.1 0)), (2, .int (y37.2.1 1)), (0, .ref (g 60)), (1, .int p1)] := hl
            refine lv_iload_n hx hb dX9_heard_91 rfl (lv_at hl 0 rfl) ?_
            refine lv_aload_n hx hb dX9_heard_92 rfl (lv_at hl 2 rfl) ?_
            refine g9_17 hx hb hts hown hK hP (hts _ q1377) dX9_heard_93 ?_
            refine lv_iconst (v := 2) hx hb dX9_heard_96 (by decide) ?_
            refine l9_17 (x := ((σ 9).2.2.1 17 2)) hx hb hK hP (vpi (by decide)) ((congrFun (((hF39 9 17 rfl).2.2.1).trans (((sI_f eσ1) 9 17 rfl).2.2.1)) _).trans (congrArg ((σ 9).2.2.1 17) (show (2 : Int32).toInt.toNat = 2 by decide))) dX9_heard_97 ?_
            refine lv_icmp_ge (tgt := 183) hx hb dX9_heard_98 (by decide) (fun c43 => ?_) (fun c43 => ?_)
            ·
              have k44 := ple32 c43
              refine lv_iload_n hx hb dX9_heard_183 rfl (lv_at hl 1 rfl) ?_
              exact W.iret (v := (y37.2.1 1)) hx hb hr (fun tS ht hW => ⟨⟨(y37.2.1 1), σ38, rfl, ⟨Fr.tr (Fr.tr (Fr.rf) (sI_f eσ1) (fN_L rfl)) hF39 (fL_sub rfl), hJ40, trivial⟩, (show va_P D clz (WD9 cy g σ38) tS.heap by rw [ht]; exact hP)⟩, hS.F ht⟩) hS.2.2 dX9_heard_184
            ·
              have k45 := nle32 c43
              refine lv_iconst (v := 1) hx hb dX9_heard_101 (by decide) ?_
              refine lv_istore (lv' := [(4, .int 1), (3, .int (y37.2.1 0)), (2, .int (y37.2.1 1)), (0, .ref (g 60)), (1, .int p1)]) hx hb dX9_heard_102 hl (by decide) rfl (fun ls hl => ?_)
              refine lv_iconst (v := 0) hx hb dX9_heard_104 (by decide) ?_
              refine lv_istore (lv' := [(5, .int 0), (4, .int 1), (3, .int (y37.2.1 0)), (2, .int (y37.2.1 1)), (0, .ref (g 60)), (1, .int p1)]) hx hb dX9_heard_105 hl (by decide) rfl (fun ls hl => ?_)
              refine loop9 6 107 (fun x : LZ => [(5, .int (x.2.1 0)), (4, .int (x.2.1 1)), (3, .int (y37.2.1 0)), (2, .int (y37.2.1 1)), (0, .ref (g 60)), (1, .int p1)]) (fun x : LZ => (Fr (fL [23]) σ38 x.1) ∧ (J9 (x.1 9)) ∧ ((0 : Int) ≤ (x.2.1 0).toInt ∧ (x.2.1 0).toInt ≤ 60) ∧ ((0 : Int) ≤ (x.2.1 1).toInt ∧ (x.2.1 1).toInt ≤ 1) ∧ ((x.2.1 0).toInt % 2 = 0) ∧ (DK0 (x.1 9)) ∧ True) (fun x : LZ => ((61 : Int) - (x.2.1 0).toInt).toNat) ?_ (σ38, lf [0, 1], lg []) ⟨Fr.rf, hJ40, (show (0 : Int) ≤ (0 : Int32).toInt ∧ (0 : Int32).toInt ≤ 60 from (by have z0 : (0 : Int32).toInt = 0 := (by decide); omega)), (show (0 : Int) ≤ (1 : Int32).toInt ∧ (1 : Int32).toInt ≤ 1 from (by have z1 : (1 : Int32).toInt = 1 := (by decide); omega)), (show (0 : Int32).toInt % 2 = 0 from (by have z0 : (0 : Int32).toInt = 0 := (by decide); omega)), (show DK0 (σ38 9) from b42), trivial⟩ _ _ _ hP hS (lv_sub hl [0, 1, 2, 3, 4, 5] rfl)
              intro y48 hI47 nl46 H locs ls hP hS hl
              obtain ⟨σ49, eσ49⟩ : ∃ z, z = y48.1 := ⟨_, rfl⟩
              rw [← eσ49] at hP hI47
              have hF50 : Fr (fL [23]) σ38 σ49 := hI47.1
              have hJ51 : J9 (σ49 9) := hI47.2.1
              have b52 : (0 : Int) ≤ (y48.2.1 0).toInt ∧ (y48.2.1 0).toInt ≤ 60 := hI47.2.2.1
              have b53 : (0 : Int) ≤ (y48.2.1 1).toInt ∧ (y48.2.1 1).toInt ≤ 1 := hI47.2.2.2.1
              have b54 : (y48.2.1 0).toInt % 2 = 0 := hI47.2.2.2.2.1
              have b55 : DK0 (σ49 9) := hI47.2.2.2.2.2.1
              have hl : lv_has ls 6 [(5, .int (y48.2.1 0)), (4, .int (y48.2.1 1)), (3, .int (y37.2.1 0)), (2, .int (y37.2.1 1)), (0, .ref (g 60)), (1, .int p1)] := hl
              refine lv_iload hx hb dX9_heard_107 (lv_at hl 0 rfl) ?_
              refine lv_aload_n hx hb dX9_heard_109 rfl (lv_at hl 4 rfl) ?_
              refine g9_2 hx hb hts hown hK hP (hts _ q1362) dX9_heard_110 ?_
              refine lv_iload_n hx hb dX9_heard_113 rfl (lv_at hl 5 rfl) ?_
              refine l9_2 (x := x22) hx hb hK hP (vpo (by have f0 := b8; have f1 := b9; have f2 := t23; have f3 := b7; have f4 := k12; have f5 := t25; have f6 := k34; have f7 := k27; have f8 := b31; have g0 := rg32 p1; have z0 : (0 : Int32).toInt = 0 := (by decide); omega)) ((congrFun (((hF50 9 2 rfl).2.2.1).trans (((hF39 9 2 rfl).2.2.1).trans (((sI_f eσ1) 9 2 rfl).2.2.1))) _).trans ex22) dX9_heard_114 ?_
              refine cut9 (D := D) (cy := cy) (g := g) (A := A9 cy g s.heap.size) (H0 := s.heap) 6 162 (fun x : LZ => [(5, .int (y48.2.1 0)), (4, .int (y48.2.1 1)), (3, .int (y37.2.1 0)), (2, .int (y37.2.1 1)), (0, .ref (g 60)), (1, .int p1)]) (fun x : LZ => []) (fun x : LZ => (x.1 = σ49) ∧ (DK0 (σ49 9)) ∧ True) ?_ ?_
              ·
                intro y58 hI57 H locs ls hP hS hl
                rw [show y58.1 = σ49 from hI57.1] at hP
                have b59 : DK0 (σ49 9) := hI57.2.1
                have hl : lv_has ls 6 [(5, .int (y48.2.1 0)), (4, .int (y48.2.1 1)), (3, .int (y37.2.1 0)), (2, .int (y37.2.1 1)), (0, .ref (g 60)), (1, .int p1)] := hl
                refine lv_iload_n hx hb dX9_heard_162 rfl (lv_at hl 3 rfl) ?_
                refine lv_iload hx hb dX9_heard_163 (lv_at hl 1 rfl) ?_
                refine cut9 (D := D) (cy := cy) (g := g) (A := A9 cy g s.heap.size) (H0 := s.heap) 6 175 (fun x : LZ => [(5, .int (y48.2.1 0)), (4, .int (y48.2.1 1)), (3, .int (y37.2.1 0)), (2, .int (y37.2.1 1)), (0, .ref (g 60)), (1, .int p1)]) (fun x : LZ => [.int (x.2.1 0), .int (y37.2.1 1)]) (fun x : LZ => (x.1 = σ49) ∧ (DK0 (σ49 9)) ∧ True) ?_ ?_
                ·
                  intro y62 hI61 H locs ls hP hS hl
                  rw [show y62.1 = σ49 from hI61.1] at hP
                  have b63 : DK0 (σ49 9) := hI61.2.1
                  have hl : lv_has ls 6 [(5, .int (y48.2.1 0)), (4, .int (y48.2.1 1)), (3, .int (y37.2.1 0)), (2, .int (y37.2.1 1)), (0, .ref (g 60)), (1, .int p1)] := hl
                  refine W.eq (g2 := F0 m 175 ls [.int (y62.2.1 0), .int (y37.2.1 1)]) rfl ?_
                  refine lv_ior hx hb dX9_heard_175 ?_
                  refine lv_topi (fun x64 ex64 => ?_)
                  refine lv_istore_n (lv' := [(2, .int x64), (5, .int (y48.2.1 0)), (4, .int (y48.2.1 1)), (3, .int (y37.2.1 0)), (0, .ref (g 60)), (1, .int p1)]) hx hb dX9_heard_176 rfl hl (by decide) rfl (fun ls hl => ?_)
                  obtain ⟨x65, ex65⟩ : ∃ y : Int32, y = (y37.2.1 0) + 1 := ⟨_, rfl⟩
                  have t66 := addO ex65 (by have f0 := b41; have f1 := k45; have f2 := a9_17 hJ (j := 2) rfl; have g0 := rg32 (y37.2.1 0); have z1 : (1 : Int32).toInt = 1 := (by decide); omega)
                  refine lv_iinc (v := x65) (lv' := [(3, .int x65), (2, .int x64), (5, .int (y48.2.1 0)), (4, .int (y48.2.1 1)), (0, .ref (g 60)), (1, .int p1)]) hx hb dX9_heard_177 hl (k := 3) rfl (by rw [ex65]; rfl) (by decide) rfl (fun ls hl => ?_)
                  refine lv_goto (tgt := 91) hx hb dX9_heard_180 (by decide) ?_
                  have t67 : ((61 : Int) - x65.toInt).toNat < ((61 : Int) - (y37.2.1 0).toInt).toNat := (by have f0 := b41; have f1 := k45; have f2 := t66; have f3 := a9_17 hJ (j := 2) rfl; have g0 := rg32 (y37.2.1 0); have g1 := rg32 x65; have z1 : (1 : Int32).toInt = 1 := (by decide); omega)
                  exact nl35 (σ49, lf [x65, x64], lg []) ⟨Fr.tr (Fr.tr (Fr.rf) hF39 (fL_sub rfl)) hF50 (fL_sub rfl), hJ51, (show (0 : Int) ≤ (x65 : Int32).toInt ∧ (x65 : Int32).toInt ≤ 60 from (by have f0 := t66; have f1 := b41; have f2 := k45; have f3 := a9_17 hJ (j := 2) rfl; have g0 := rg32 x65; have z1 : (1 : Int32).toInt = 1 := (by decide); omega)), (show DK0 (σ49 9) from b63), trivial⟩ (show ((61 : Int) - x65.toInt).toNat < _ from by first | exact t67 | (rw [← eσ38]; exact t67)) _ _ _ hP hS (lv_sub hl [0, 1, 4, 5] rfl)
                ·
                  intro nj60
                  refine lv_if_eq (tgt := 174) hx hb dX9_heard_165 (by decide) (fun c68 => ?_) (fun c68 => ?_)
                  ·
                    have k69 := peq32 c68
                    refine lv_iconst (v := 0) hx hb dX9_heard_174 (by decide) ?_
                    exact nj60 (σ49, lf [0], lg []) ⟨rfl, (show DK0 (σ49 9) from b59), trivial⟩ _ _ _ hP hS (lv_sub hl [0, 1, 2, 3, 4, 5] rfl)
                  ·
                    have k70 := neq32 c68
                    refine lv_iconst (v := 1) hx hb dX9_heard_168 (by decide) ?_
                    refine lv_iload_n hx hb dX9_heard_169 rfl (lv_at hl 2 rfl) ?_
                    refine lv_ishl hx hb dX9_heard_170 ?_
                    refine lv_topi (fun x71 ex71 => ?_)
                    have t72 := shl9 ex71 (by have f0 := b41; have f1 := k45; have f2 := a9_17 hJ (j := 2) rfl; have g0 := rg32 (y37.2.1 0); omega)
                    refine lv_goto (tgt := 175) hx hb dX9_heard_171 (by decide) ?_
                    exact nj60 (σ49, lf [x71], lg []) ⟨rfl, (show DK0 (σ49 9) from b59), trivial⟩ _ _ _ hP hS (lv_sub hl [0, 1, 2, 3, 4, 5] rfl)
              ·
                intro nj56
                refine lv_icmp_ge (tgt := 162) hx hb dX9_heard_115 (by decide) (fun c73 => ?_) (fun c73 => ?_)
                ·
                  have k74 := ple32 c73
                  exact nj56 (σ49, lf [], lg []) ⟨rfl, (show DK0 (σ49 9) from b55), trivial⟩ _ _ _ hP hS (lv_sub hl [0, 1, 2, 3, 4, 5] rfl)
                ·
                  have k75 := nle32 c73
                  refine lv_iload hx hb dX9_heard_118 (lv_at hl 1 rfl) ?_
                  refine lv_if_eq (tgt := 162) hx hb dX9_heard_120 (by decide) (fun c76 => ?_) (fun c76 => ?_)
                  ·
                    have k77 := peq32 c76
                    exact nj56 (σ49, lf [], lg []) ⟨rfl, (show DK0 (σ49 9) from b55), trivial⟩ _ _ _ hP hS (lv_sub hl [0, 1, 2, 3, 4, 5] rfl)
                  ·
                    have k78 := neq32 c76
                    refine lv_aload_n hx hb dX9_heard_123 rfl (lv_at hl 4 rfl) ?_
                    refine lv_iload_n hx hb dX9_heard_124 rfl (lv_at hl 2 rfl) ?_
                    refine lv_aload_n hx hb dX9_heard_125 rfl (lv_at hl 4 rfl) ?_
                    refine g9_3 hx hb hts hown hK hP (hts _ q1363) dX9_heard_126 ?_
                    refine lv_bipush (v := 60) hx hb dX9_heard_129 (by decide) ?_
                    refine lv_iload_n hx hb dX9_heard_131 rfl (lv_at hl 5 rfl) ?_
                    refine lv_imul hx hb dX9_heard_132 ?_
                    refine lv_topi (fun x79 ex79 => ?_)
                    have t80 := mulC' (n := 60) ex79 (by decide) (by have f0 := b8; have f1 := b9; have f2 := t23; have f3 := b7; have f4 := k12; have f5 := t25; have f6 := k34; have f7 := k75; have f8 := k27; have f9 := b31; have f10 := b52; have f11 := b54; have g0 := rg32 p1; have z0 : (0 : Int32).toInt = 0 := (by decide); omega)
                    refine lv_iload hx hb dX9_heard_133 (lv_at hl 0 rfl) ?_
                    refine lv_iadd hx hb dX9_heard_135 ?_
                    refine lv_topi (fun x81 ex81 => ?_)
                    have t82 := addO ex81 (by have f0 := b52; have f1 := b54; have f2 := k75; have f3 := t80; have f4 := b8; have f5 := b9; have f6 := t23; have f7 := t25; have f8 := k34; have f9 := b7; have f10 := k12; have f11 := k27; have f12 := b31; have g0 := rg32 (y48.2.1 0); have g1 := rg32 x79; have z0 : (0 : Int32).toInt = 0 := (by decide); omega)
                    obtain ⟨x83, ex83⟩ : ∃ z, (σ 9).2.2.2 3 x81.toInt.toNat = z := ⟨_, rfl⟩
                    refine l9_3 (x := x83) hx hb hK hP (vpo (by have f0 := t82; have f1 := b52; have f2 := b54; have f3 := k75; have f4 := t80; have f5 := b8; have f6 := b9; have f7 := t23; have f8 := t25; have f9 := k34; have f10 := b7; have f11 := k12; have f12 := k27; have f13 := b31; have g0 := rg32 x81; have z0 : (0 : Int32).toInt = 0 := (by decide); omega)) ((congrFun (((hF50 9 3 rfl).2.2.2).trans (((hF39 9 3 rfl).2.2.2).trans (((sI_f eσ1) 9 3 rfl).2.2.2))) _).trans ex83) dX9_heard_136 ?_
                    refine lv_aload_n hx hb dX9_heard_137 rfl (lv_at hl 4 rfl) ?_
                    refine g9_3 hx hb hts hown hK hP (hts _ q1363) dX9_heard_138 ?_
                    refine lv_bipush (v := 60) hx hb dX9_heard_141 (by decide) ?_
                    refine lv_iload_n hx hb dX9_heard_143 rfl (lv_at hl 5 rfl) ?_
                    refine lv_imul hx hb dX9_heard_144 ?_
                    refine lv_topi (fun x84 ex84 => ?_)
                    have t85 := mulC' (n := 60) ex84 (by decide) (by have f0 := b8; have f1 := b9; have f2 := t23; have f3 := t80; have f4 := b7; have f5 := k12; have f6 := t25; have f7 := k34; have f8 := k75; have f9 := t82; have f10 := k27; have f11 := b31; have f12 := b52; have f13 := b54; have g0 := rg32 p1; have z0 : (0 : Int32).toInt = 0 := (by decide); omega)
                    refine lv_iload hx hb dX9_heard_145 (lv_at hl 0 rfl) ?_
                    refine lv_iadd hx hb dX9_heard_147 ?_
                    refine lv_topi (fun x86 ex86 => ?_)
                    have t87 := addO ex86 (by have f0 := b52; have f1 := b54; have f2 := k75; have f3 := t82; have f4 := t85; have f5 := b8; have f6 := b9; have f7 := t23; have f8 := t25; have f9 := k34; have f10 := t80; have f11 := b7; have f12 := k12; have f13 := k27; have f14 := b31; have g0 := rg32 (y48.2.1 0); have g1 := rg32 x84; have z0 : (0 : Int32).toInt = 0 := (by decide); omega)
                    refine lv_iconst (v := 1) hx hb dX9_heard_148 (by decide) ?_
                    refine lv_iadd hx hb dX9_heard_149 ?_
                    refine lv_topi (fun x88 ex88 => ?_)
                    have t89 := addO ex88 (by have f0 := t87; have f1 := b52; have f2 := b54; have f3 := k75; have f4 := t82; have f5 := t85; have f6 := b8; have f7 := b9; have f8 := t23; have f9 := t25; have f10 := k34; have f11 := t80; have f12 := b7; have f13 := k12; have f14 := k27; have f15 := b31; have g0 := rg32 x86; have z0 : (0 : Int32).toInt = 0 := (by decide); have z1 : (1 : Int32).toInt = 1 := (by decide); omega)
                    obtain ⟨x90, ex90⟩ : ∃ z, (σ 9).2.2.2 3 x88.toInt.toNat = z := ⟨_, rfl⟩
                    refine l9_3 (x := x90) hx hb hK hP (vpo (by have f0 := t89; have f1 := t87; have f2 := b52; have f3 := b54; have f4 := k75; have f5 := t82; have f6 := t85; have f7 := b8; have f8 := b9; have f9 := t23; have f10 := t25; have f11 := k34; have f12 := t80; have f13 := b7; have f14 := k12; have f15 := k27; have f16 := b31; have g0 := rg32 x88; have z0 : (0 : Int32).toInt = 0 := (by decide); have z1 : (1 : Int32).toInt = 1 := (by decide); omega)) ((congrFun (((hF50 9 3 rfl).2.2.2).trans (((hF39 9 3 rfl).2.2.2).trans (((sI_f eσ1) 9 3 rfl).2.2.2))) _).trans ex90) dX9_heard_150 ?_
                    refine va_calli (va_runV (As := [.int (y37.2.1 0), .long x83, .long x90]) (rest := []) ⟨hx, hb, hml, hown, hts⟩ (m_X9_isHeard l D cy g σ49 (y37.2.1 0) x83 x90 _ hJ51 (show (0 : Int) ≤ (y37.2.1 0).toInt ∧ (y37.2.1 0).toInt ≤ 3 from (by have f0 := b41; have f1 := k45; have f2 := a9_17 hJ (j := 2) rfl; have g0 := rg32 (y37.2.1 0); omega)) (show 100 ≤ ((σ49 9).2.2.1 18 (7 * (y37.2.1 0).toInt.toNat + 2)).toInt from (b55.1 _ (by have f0 := a9_17 hJ51 (j := 2) rfl; have f1 := congrArg Int32.toInt (show ((σ49 9).2.2.1 17 2) = ((σ 9).2.2.1 17 2) from congrFun (((hF50 9 17 rfl).2.2.1).trans (((hF39 9 17 rfl).2.2.1).trans (((sI_f eσ1) 9 17 rfl).2.2.1))) _); have f2 := b41; have f3 := k45; have f4 := a9_17 hJ (j := 2) rfl; have g1 := rg32 (y37.2.1 0); omega)))) (cwV 3 hts (gd_V q2072 q2074 q122 q134 q2075) rfl rfl rfl (by decide +kernel) ⟨Nat.le_of_ble_eq_true rfl, Nat.le_of_ble_eq_true rfl⟩) (pv9 hP hK hD hC hS (va_recv hK hP (ci := 9) (q0 := 0) rfl rfl)) rfl rfl hl.1 rfl (lv_room (Nat.le_of_ble_eq_true rfl)) dX9_heard_151 ⟨Nat.le_of_ble_eq_true rfl, Nat.le_of_ble_eq_true rfl⟩) hS (fun q _ h => up9 hS q h) (up9 hS) (fun r91 σ92 tS H1 locs ht hvm hw93 hB hz1 hk1 hS => ?_)
                    have hP : va_P D clz (WD9 cy g σ92) H1 := by rw [← ht]; exact hB
                    clear hB hz1 hk1 hvm ht
                    generalize H1 = H at hP hS ⊢
                    have hF94 : Fr (fL [23]) σ49 σ92 := hw93.1
                    have hJ95 : J9 (σ92 9) := hw93.2.1
                    have b96 : (0 : Int) ≤ r91.toInt ∧ r91.toInt ≤ 1 := hw93.2.2.1
                    have T97 : DK0 (σ92 9) := DK0.mv b55 (hF94 9 17 rfl).2.2.1 (hF94 9 18 rfl).2.2.1 (hF94 9 19 rfl).2.2.1
                    refine lv_istore (lv' := [(4, .int r91), (5, .int (y48.2.1 0)), (3, .int (y37.2.1 0)), (2, .int (y37.2.1 1)), (0, .ref (g 60)), (1, .int p1)]) hx hb dX9_heard_154 hl (by decide) rfl (fun ls hl => ?_)
                    obtain ⟨x98, ex98⟩ : ∃ y : Int32, y = (y48.2.1 0) + 2 := ⟨_, rfl⟩
                    have t99 := addO ex98 (by have f0 := b52; have f1 := b54; have f2 := k75; have f3 := t82; have f4 := t87; have f5 := t23; have f6 := t25; have f7 := k34; have f8 := t80; have f9 := t85; have f10 := t89; have f11 := b8; have f12 := b9; have f13 := k27; have f14 := b31; have f15 := b7; have f16 := k12; have g0 := rg32 (y48.2.1 0); have z0 : (0 : Int32).toInt = 0 := (by decide); have z1 : (1 : Int32).toInt = 1 := (by decide); have z2 : (2 : Int32).toInt = 2 := (by decide); omega)
                    refine lv_iinc (v := x98) (lv' := [(5, .int x98), (4, .int r91), (3, .int (y37.2.1 0)), (2, .int (y37.2.1 1)), (0, .ref (g 60)), (1, .int p1)]) hx hb dX9_heard_156 hl (k := 1) rfl (by rw [ex98]; rfl) (by decide) rfl (fun ls hl => ?_)
                    refine lv_goto (tgt := 107) hx hb dX9_heard_159 (by decide) ?_
                    have t100 : ((61 : Int) - x98.toInt).toNat < ((61 : Int) - (y48.2.1 0).toInt).toNat := (by have f0 := b52; have f1 := b54; have f2 := k75; have f3 := t82; have f4 := t87; have f5 := t99; have f6 := t23; have f7 := t25; have f8 := k34; have f9 := t80; have f10 := t85; have f11 := t89; have f12 := b8; have f13 := b9; have f14 := k27; have f15 := b31; have f16 := b7; have f17 := k12; have g0 := rg32 (y48.2.1 0); have g1 := rg32 x98; have z0 : (0 : Int32).toInt = 0 := (by decide); have z1 : (1 : Int32).toInt = 1 := (by decide); have z2 : (2 : Int32).toInt = 2 := (by decide); omega)
                    exact nl46 (σ92, lf [x98, r91], lg []) ⟨Fr.tr (Fr.tr (Fr.rf) hF50 (fL_sub rfl)) hF94 (fL_sub rfl), hJ95, (show (0 : Int) ≤ (x98 : Int32).toInt ∧ (x98 : Int32).toInt ≤ 60 from (by have f0 := t99; have f1 := b52; have f2 := b54; have f3 := k75; have f4 := t82; have f5 := t87; have f6 := t23; have f7 := t25; have f8 := k34; have f9 := t80; have f10 := t85; have f11 := t89; have f12 := b8; have f13 := b9; have f14 := k27; have f15 := b31; have f16 := b7; have f17 := k12; have g0 := rg32 x98; have z0 : (0 : Int32).toInt = 0 := (by decide); have z1 : (1 : Int32).toInt = 1 := (by decide); have z2 : (2 : Int32).toInt = 2 := (by decide); omega)), (show (0 : Int) ≤ (r91 : Int32).toInt ∧ (r91 : Int32).toInt ≤ 1 from (by have f0 := b96; have g0 := rg32 r91; omega)), (show x98.toInt % 2 = 0 from (by have f0 := t99; have f1 := b52; have f2 := b54; have f3 := k75; have f4 := t82; have f5 := t87; have f6 := t23; have f7 := t25; have f8 := k34; have f9 := t80; have f10 := t85; have f11 := t89; have f12 := b8; have f13 := b9; have f14 := k27; have f15 := b31; have f16 := b7; have f17 := k12; have g0 := rg32 x98; have z0 : (0 : Int32).toInt = 0 := (by decide); have z1 : (1 : Int32).toInt = 1 := (by decide); have z2 : (2 : Int32).toInt = 2 := (by decide); omega)), (show DK0 (σ92 9) from T97), trivial⟩ (show ((61 : Int) - x98.toInt).toNat < _ from by first | exact t100 | (rw [← eσ49]; exact t100)) _ _ _ hP hS (lv_sub hl [0, 1, 2, 3, 4, 5] rfl)
          ·
            have k101 := nle32 c33
            refine lv_aload_n hx hb dX9_heard_61 rfl (lv_at hl 1 rfl) ?_
            refine g9_3 hx hb hts hown hK hP (hts _ q1363) dX9_heard_62 ?_
            refine lv_bipush (v := 60) hx hb dX9_heard_65 (by decide) ?_
            refine lv_iload_n hx hb dX9_heard_67 rfl (lv_at hl 2 rfl) ?_
            refine lv_imul hx hb dX9_heard_68 ?_
            refine lv_topi (fun x102 ex102 => ?_)
            have t103 := mulC' (n := 60) ex102 (by decide) (by have f0 := b8; have f1 := b9; have f2 := t23; have f3 := b7; have f4 := k12; have f5 := t25; have f6 := k101; have f7 := k27; have f8 := b31; have g0 := rg32 p1; have z0 : (0 : Int32).toInt = 0 := (by decide); omega)
            refine lv_iload_n hx hb dX9_heard_69 rfl (lv_at hl 0 rfl) ?_
            refine lv_iadd hx hb dX9_heard_70 ?_
            refine lv_topi (fun x104 ex104 => ?_)
            have t105 := addO ex104 (by have f0 := b31; have f1 := k101; have f2 := t103; have f3 := b8; have f4 := b9; have f5 := t23; have f6 := t25; have f7 := b7; have f8 := k12; have f9 := k27; have g0 := rg32 (y30.2.1 0); have g1 := rg32 x102; have z0 : (0 : Int32).toInt = 0 := (by decide); omega)
            obtain ⟨x106, ex106⟩ : ∃ z, (σ 9).2.2.2 3 x104.toInt.toNat = z := ⟨_, rfl⟩
            refine l9_3 (x := x106) hx hb hK hP (vpo (by have f0 := t105; have f1 := b31; have f2 := k101; have f3 := t103; have f4 := b8; have f5 := b9; have f6 := t23; have f7 := t25; have f8 := b7; have f9 := k12; have f10 := k27; have g0 := rg32 x104; have z0 : (0 : Int32).toInt = 0 := (by decide); omega)) ((congrFun (((sI_f eσ1) 9 3 rfl).2.2.2) _).trans ex106) dX9_heard_71 ?_
            refine va_calli (va_runS (As := [.long x106]) (rest := []) ⟨hx, hb, hml, hown, hts⟩ (m_X9_isPitch l D cy g σ1 x106 _ hJ2 ) (va_cwS 1 hts (gd_S q1763 q1764 q134 q1765) rfl rfl rfl (by decide +kernel) ⟨Nat.le_of_ble_eq_true rfl, Nat.le_of_ble_eq_true rfl⟩) (ps9 hP hK hD hC hS) rfl rfl hl.1 rfl (lv_room (Nat.le_of_ble_eq_true rfl)) dX9_heard_72 ⟨Nat.le_of_ble_eq_true rfl, Nat.le_of_ble_eq_true rfl⟩) hS (fun q _ h => up9 hS q h) (up9 hS) (fun r107 σ108 tS H1 locs ht hvm hw109 hB hz1 hk1 hS => ?_)
            have hP : va_P D clz (WD9 cy g σ108) H1 := by rw [← ht]; exact hB
            clear hB hz1 hk1 hvm ht
            generalize H1 = H at hP hS ⊢
            have hw109E : σ1 = σ108 := (hw109.1).symm
            subst hw109E
            have b110 : (0 : Int) ≤ r107.toInt ∧ r107.toInt ≤ 1 := hw109.2.1
            have b111 : (r107.toInt = 1 ∧ 0 ≤ x106.toInt ∧ x106.toInt ≤ 60) ∨ (r107.toInt = 0 ∧ ¬ (0 ≤ x106.toInt ∧ x106.toInt ≤ 60)) := hw109.2.2.1
            refine lv_if_ne (tgt := 81) hx hb dX9_heard_75 (by decide) (fun c112 => ?_) (fun c112 => ?_)
            ·
              have k113 := neq32 c112
              obtain ⟨x114, ex114⟩ : ∃ y : Int32, y = (y30.2.1 0) + 2 := ⟨_, rfl⟩
              have t115 := addO ex114 (by have f0 := b31; have f1 := k101; have f2 := t105; have f3 := t23; have f4 := t25; have f5 := t103; have f6 := b8; have f7 := b9; have f8 := k27; have f9 := b7; have f10 := k12; have g0 := rg32 (y30.2.1 0); have z0 : (0 : Int32).toInt = 0 := (by decide); have z2 : (2 : Int32).toInt = 2 := (by decide); omega)
              refine lv_iinc (v := x114) (lv' := [(2, .int x114), (0, .ref (g 60)), (1, .int p1)]) hx hb dX9_heard_81 hl (k := 0) rfl (by rw [ex114]; rfl) (by decide) rfl (fun ls hl => ?_)
              refine lv_goto (tgt := 51) hx hb dX9_heard_84 (by decide) ?_
              have t116 : ((62 : Int) - x114.toInt).toNat < ((62 : Int) - (y30.2.1 0).toInt).toNat := (by have f0 := b31; have f1 := k101; have f2 := t105; have f3 := t115; have f4 := t23; have f5 := t25; have f6 := t103; have f7 := b8; have f8 := b9; have f9 := k27; have f10 := b7; have f11 := k12; have g0 := rg32 (y30.2.1 0); have g1 := rg32 x114; have z0 : (0 : Int32).toInt = 0 := (by decide); have z2 : (2 : Int32).toInt = 2 := (by decide); omega)
              exact nl28 (σ1, lf [x114], lg []) ⟨rfl, (show (0 : Int) ≤ (x114 : Int32).toInt ∧ (x114 : Int32).toInt ≤ 61 from (by have f0 := t115; have f1 := b31; have f2 := k101; have f3 := t105; have f4 := t23; have f5 := t25; have f6 := t103; have f7 := b8; have f8 := b9; have f9 := k27; have f10 := b7; have f11 := k12; have g0 := rg32 x114; have z0 : (0 : Int32).toInt = 0 := (by decide); have z2 : (2 : Int32).toInt = 2 := (by decide); omega)), (show DK0 (σ1 9) from b32), trivial⟩ (show ((62 : Int) - x114.toInt).toNat < _ from t116) _ _ _ hP hS (lv_sub hl [0, 1, 2] rfl)
            ·
              have k117 := peq32 c112
              refine lv_bipush (v := (-2)) hx hb dX9_heard_78 (by decide) ?_
              exact W.iret (v := (-2)) hx hb hr (fun tS ht hW => ⟨⟨(-2), σ1, rfl, ⟨Fr.tr (Fr.rf) (sI_f eσ1) (fN_L rfl), hJ2, trivial⟩, (show va_P D clz (WD9 cy g σ1) tS.heap by rw [ht]; exact hP)⟩, hS.F ht⟩) hS.2.2 dX9_heard_80
        ·
          have k118 := neq32 c26
          refine lv_bipush (v := (-2)) hx hb dX9_heard_46 (by decide) ?_
          exact W.iret (v := (-2)) hx hb hr (fun tS ht hW => ⟨⟨(-2), σ1, rfl, ⟨Fr.tr (Fr.rf) (sI_f eσ1) (fN_L rfl), hJ2, trivial⟩, (show va_P D clz (WD9 cy g σ1) tS.heap by rw [ht]; exact hP)⟩, hS.F ht⟩) hS.2.2 dX9_heard_48
      ·
        have k119 := peq32 c20
        refine lv_bipush (v := (-6)) hx hb dX9_heard_32 (by decide) ?_
        exact W.iret (v := (-6)) hx hb hr (fun tS ht hW => ⟨⟨(-6), σ1, rfl, ⟨Fr.tr (Fr.rf) (sI_f eσ1) (fN_L rfl), hJ2, trivial⟩, (show va_P D clz (WD9 cy g σ1) tS.heap by rw [ht]; exact hP)⟩, hS.F ht⟩) hS.2.2 dX9_heard_34
    ·
      have k120 := peq32 c17
      refine lv_bipush (v := (-2)) hx hb dX9_heard_19 (by decide) ?_
      exact W.iret (v := (-2)) hx hb hr (fun tS ht hW => ⟨⟨(-2), σ1, rfl, ⟨Fr.tr (Fr.rf) (sI_f eσ1) (fN_L rfl), hJ2, trivial⟩, (show va_P D clz (WD9 cy g σ1) tS.heap by rw [ht]; exact hP)⟩, hS.F ht⟩) hS.2.2 dX9_heard_21

theorem q2087 : Cond.code yX9_cracksBy cX9_cracksBy 8 (some .int) ∈ lw_g := lw_gm (List.mem_of_getElem? (i := 2087) (by decide +kernel)) rfl
theorem q1419 : Cond.fieldLink RX9 526 "LipsAndSlidesModel" "firstCrack" "I" ∈ lw_g := lw_gm (List.mem_of_getElem? (i := 1419) (by decide +kernel)) rfl
theorem q2088 : Cond.constantLong RX9 529 (1103515245) ∈ lw_g := lw_gm (List.mem_of_getElem? (i := 2088) (by decide +kernel)) rfl
theorem q2089 : Cond.constantLong RX9 531 (12345) ∈ lw_g := lw_gm (List.mem_of_getElem? (i := 2089) (by decide +kernel)) rfl
theorem q2090 : Cond.constantLong RX9 533 (2147483648) ∈ lw_g := lw_gm (List.mem_of_getElem? (i := 2090) (by decide +kernel)) rfl
theorem q2091 : Cond.constantLong RX9 535 (65536) ∈ lw_g := lw_gm (List.mem_of_getElem? (i := 2091) (by decide +kernel)) rfl
theorem q2092 : Cond.constantLong RX9 537 (100) ∈ lw_g := lw_gm (List.mem_of_getElem? (i := 2092) (by decide +kernel)) rfl
theorem dX9_cracksBy_0 : decode cX9_cracksBy 0 = .ok (.lload_n 1, 1) := by decide +kernel
theorem dX9_cracksBy_1 : decode cX9_cracksBy 1 = .ok (.lstore_n 3, 1) := by decide +kernel
theorem dX9_cracksBy_2 : decode cX9_cracksBy 2 = .ok (.iconst 0, 1) := by decide +kernel
theorem dX9_cracksBy_3 : decode cX9_cracksBy 3 = .ok (.istore 5, 2) := by decide +kernel
theorem dX9_cracksBy_5 : decode cX9_cracksBy 5 = .ok (.aload_n 0, 1) := by decide +kernel
theorem dX9_cracksBy_6 : decode cX9_cracksBy 6 = .ok (.iconst (-1), 1) := by decide +kernel
theorem dX9_cracksBy_7 : decode cX9_cracksBy 7 = .ok (.putfield 526, 3) := by decide +kernel
theorem dX9_cracksBy_10 : decode cX9_cracksBy 10 = .ok (.iconst 0, 1) := by decide +kernel
theorem dX9_cracksBy_11 : decode cX9_cracksBy 11 = .ok (.istore 6, 2) := by decide +kernel
theorem dX9_cracksBy_13 : decode cX9_cracksBy 13 = .ok (.iload 6, 2) := by decide +kernel
theorem dX9_cracksBy_15 : decode cX9_cracksBy 15 = .ok (.aload_n 0, 1) := by decide +kernel
theorem dX9_cracksBy_16 : decode cX9_cracksBy 16 = .ok (.getfield 387, 3) := by decide +kernel
theorem dX9_cracksBy_19 : decode cX9_cracksBy 19 = .ok (.if_icmp .ge 101, 3) := by decide +kernel
theorem dX9_cracksBy_22 : decode cX9_cracksBy 22 = .ok (.ldc2_w 529, 3) := by decide +kernel
theorem dX9_cracksBy_25 : decode cX9_cracksBy 25 = .ok (.lload_n 3, 1) := by decide +kernel
theorem dX9_cracksBy_26 : decode cX9_cracksBy 26 = .ok (.lmul, 1) := by decide +kernel
theorem dX9_cracksBy_27 : decode cX9_cracksBy 27 = .ok (.ldc2_w 531, 3) := by decide +kernel
theorem dX9_cracksBy_30 : decode cX9_cracksBy 30 = .ok (.ladd, 1) := by decide +kernel
theorem dX9_cracksBy_31 : decode cX9_cracksBy 31 = .ok (.ldc2_w 533, 3) := by decide +kernel
theorem dX9_cracksBy_34 : decode cX9_cracksBy 34 = .ok (.lrem, 1) := by decide +kernel
theorem dX9_cracksBy_35 : decode cX9_cracksBy 35 = .ok (.lstore_n 3, 1) := by decide +kernel
theorem dX9_cracksBy_36 : decode cX9_cracksBy 36 = .ok (.bipush 88, 2) := by decide +kernel
theorem dX9_cracksBy_38 : decode cX9_cracksBy 38 = .ok (.iload 6, 2) := by decide +kernel
theorem dX9_cracksBy_40 : decode cX9_cracksBy 40 = .ok (.imul, 1) := by decide +kernel
theorem dX9_cracksBy_41 : decode cX9_cracksBy 41 = .ok (.aload_n 0, 1) := by decide +kernel
theorem dX9_cracksBy_42 : decode cX9_cracksBy 42 = .ok (.getfield 83, 3) := by decide +kernel
theorem dX9_cracksBy_45 : decode cX9_cracksBy 45 = .ok (.iload 6, 2) := by decide +kernel
theorem dX9_cracksBy_47 : decode cX9_cracksBy 47 = .ok (.iaload, 1) := by decide +kernel
theorem dX9_cracksBy_48 : decode cX9_cracksBy 48 = .ok (.iadd, 1) := by decide +kernel
theorem dX9_cracksBy_49 : decode cX9_cracksBy 49 = .ok (.istore 7, 2) := by decide +kernel
theorem dX9_cracksBy_51 : decode cX9_cracksBy 51 = .ok (.lload_n 3, 1) := by decide +kernel
theorem dX9_cracksBy_52 : decode cX9_cracksBy 52 = .ok (.ldc2_w 535, 3) := by decide +kernel
theorem dX9_cracksBy_55 : decode cX9_cracksBy 55 = .ok (.ldiv, 1) := by decide +kernel
theorem dX9_cracksBy_56 : decode cX9_cracksBy 56 = .ok (.ldc2_w 537, 3) := by decide +kernel
theorem dX9_cracksBy_59 : decode cX9_cracksBy 59 = .ok (.lrem, 1) := by decide +kernel
theorem dX9_cracksBy_60 : decode cX9_cracksBy 60 = .ok (.aload_n 0, 1) := by decide +kernel
theorem dX9_cracksBy_61 : decode cX9_cracksBy 61 = .ok (.getfield 62, 3) := by decide +kernel
theorem dX9_cracksBy_64 : decode cX9_cracksBy 64 = .ok (.iload 7, 2) := by decide +kernel
theorem dX9_cracksBy_66 : decode cX9_cracksBy 66 = .ok (.iaload, 1) := by decide +kernel
theorem dX9_cracksBy_67 : decode cX9_cracksBy 67 = .ok (.iconst 2, 1) := by decide +kernel
theorem dX9_cracksBy_68 : decode cX9_cracksBy 68 = .ok (.aload_n 0, 1) := by decide +kernel
theorem dX9_cracksBy_69 : decode cX9_cracksBy 69 = .ok (.getfield 56, 3) := by decide +kernel
theorem dX9_cracksBy_72 : decode cX9_cracksBy 72 = .ok (.iload 7, 2) := by decide +kernel
theorem dX9_cracksBy_74 : decode cX9_cracksBy 74 = .ok (.iaload, 1) := by decide +kernel
theorem dX9_cracksBy_75 : decode cX9_cracksBy 75 = .ok (.imul, 1) := by decide +kernel
theorem dX9_cracksBy_76 : decode cX9_cracksBy 76 = .ok (.iadd, 1) := by decide +kernel
theorem dX9_cracksBy_77 : decode cX9_cracksBy 77 = .ok (.i2l, 1) := by decide +kernel
theorem dX9_cracksBy_78 : decode cX9_cracksBy 78 = .ok (.lcmp, 1) := by decide +kernel
theorem dX9_cracksBy_79 : decode cX9_cracksBy 79 = .ok (.ifCond .lt 6, 3) := by decide +kernel
theorem dX9_cracksBy_82 : decode cX9_cracksBy 82 = .ok (.goto 32, 3) := by decide +kernel
theorem dX9_cracksBy_85 : decode cX9_cracksBy 85 = .ok (.iinc 5 1, 3) := by decide +kernel
theorem dX9_cracksBy_88 : decode cX9_cracksBy 88 = .ok (.aload_n 0, 1) := by decide +kernel
theorem dX9_cracksBy_89 : decode cX9_cracksBy 89 = .ok (.aload_n 0, 1) := by decide +kernel
theorem dX9_cracksBy_90 : decode cX9_cracksBy 90 = .ok (.getfield 526, 3) := by decide +kernel
theorem dX9_cracksBy_93 : decode cX9_cracksBy 93 = .ok (.iconst (-1), 1) := by decide +kernel
theorem dX9_cracksBy_94 : decode cX9_cracksBy 94 = .ok (.if_icmp .ne 13, 3) := by decide +kernel
theorem dX9_cracksBy_97 : decode cX9_cracksBy 97 = .ok (.aload_n 0, 1) := by decide +kernel
theorem dX9_cracksBy_98 : decode cX9_cracksBy 98 = .ok (.getfield 65, 3) := by decide +kernel
theorem dX9_cracksBy_101 : decode cX9_cracksBy 101 = .ok (.iload 6, 2) := by decide +kernel
theorem dX9_cracksBy_103 : decode cX9_cracksBy 103 = .ok (.iaload, 1) := by decide +kernel
theorem dX9_cracksBy_104 : decode cX9_cracksBy 104 = .ok (.goto 7, 3) := by decide +kernel
theorem dX9_cracksBy_107 : decode cX9_cracksBy 107 = .ok (.aload_n 0, 1) := by decide +kernel
theorem dX9_cracksBy_108 : decode cX9_cracksBy 108 = .ok (.getfield 526, 3) := by decide +kernel
theorem dX9_cracksBy_111 : decode cX9_cracksBy 111 = .ok (.putfield 526, 3) := by decide +kernel
theorem dX9_cracksBy_114 : decode cX9_cracksBy 114 = .ok (.iinc 6 1, 3) := by decide +kernel
theorem dX9_cracksBy_117 : decode cX9_cracksBy 117 = .ok (.goto (-104), 3) := by decide +kernel
theorem dX9_cracksBy_120 : decode cX9_cracksBy 120 = .ok (.iload 5, 2) := by decide +kernel
theorem dX9_cracksBy_122 : decode cX9_cracksBy 122 = .ok (.ireturn, 1) := by decide +kernel
set_option maxHeartbeats 4000000 in
set_option maxRecDepth 100000 in
theorem m_X9_cracksBy (l : Launch) (D : va_G) (cy : Nat → ClassId) (g : Nat → Nat) (σ : ST) (p1 : Int64) (sz : Nat) (hJ : J9 (σ 9))  : Met l yX9_cracksBy (ww yX9_cracksBy cX9_cracksBy 8 (some .int)) ({ frames := 1, cells := 0, slots := 0, locals := 64 }) (va_Pc [.ref (g 60), .long p1] (pr9 D cy g σ sz)) (qi9 D cy g sz (fun r τ => Fr (fL [59]) σ τ ∧ J9 (τ 9) ∧ True)) 0 0 (A9 cy g sz) := by
  refine Met.ofW (cc := cX9_cracksBy) (maxL := 8) (ret := (some .int)) (by decide) rfl ?_
  intro p e s m args below meth c s₁ B hml hv
  obtain ⟨rfl, hsz, hP, hK, hD0, hC⟩ := hv
  have hx := B.exec
  have hb := B.bytes
  have hr := B.returns
  have hts := hts_g (atoms_spec (ws := ww yX9_cracksBy cX9_cracksBy 8 (some .int)) B.pre)
  have hown : s.vm.findClass RX9 = some m.cls := findClass_of_methodNamed B.named
  have hlocks := B.notSynchronized
  clear B
  subst hsz
  have hD := fun τ => A9_D (sz := s.heap.size) hD0 τ
  clear hD0
  have hS : va_S (A9 cy g s.heap.size) s.heap s.heap [] := va_S.rf
  have hl := lv_entry ([.ref (g 60), .long p1]) (n := 8) (Nat.le_of_ble_eq_true rfl)
  rw [lg_entry_eq]
  generalize (lg_sl ([.ref (g 60), .long p1]) ++ List.replicate (8 - (lg_sl ([.ref (g 60), .long p1])).length) Slot.unset).toArray = ls at hl ⊢
  have hl : lv_has ls 8 [(0, .ref (g 60)), (1, .long p1)] := hl
  refine lv_lload_n hx hb dX9_cracksBy_0 rfl (lv_at hl 1 rfl) ?_
  refine lv_lstore_n (lv' := [(3, .long p1), (0, .ref (g 60)), (1, .long p1)]) hx hb dX9_cracksBy_1 rfl hl (by decide) rfl (fun ls hl => ?_)
  refine lv_iconst (v := 0) hx hb dX9_cracksBy_2 (by decide) ?_
  refine lv_istore (lv' := [(5, .int 0), (3, .long p1), (0, .ref (g 60)), (1, .long p1)]) hx hb dX9_cracksBy_3 hl (by decide) rfl (fun ls hl => ?_)
  refine lv_aload_n hx hb dX9_cracksBy_5 rfl (lv_at hl 2 rfl) ?_
  refine lv_iconst (v := (-1)) hx hb dX9_cracksBy_6 (by decide) ?_
  refine p9_59 hx hb hts hown hK hP hD hS (hts _ q1419) dX9_cracksBy_7 (fun H locs σ1 eσ1 hP hS => ?_)
  have hJ2 : J9 (σ1 9) := hJ.I eσ1 (show JI9 59 ((-1) : Int32) from trivial)
  refine lv_iconst (v := 0) hx hb dX9_cracksBy_10 (by decide) ?_
  refine lv_istore (lv' := [(6, .int 0), (5, .int 0), (3, .long p1), (0, .ref (g 60)), (1, .long p1)]) hx hb dX9_cracksBy_11 hl (by decide) rfl (fun ls hl => ?_)
  refine loop9 8 13 (fun x : LZ => [(6, .int (x.2.1 0)), (5, .int (x.2.1 1)), (3, .long (x.2.2 0)), (0, .ref (g 60)), (1, .long p1)]) (fun x : LZ => (Fr (fL [59]) σ1 x.1) ∧ (J9 (x.1 9)) ∧ ((0 : Int) ≤ (x.2.1 0).toInt ∧ (x.2.1 0).toInt ≤ 16) ∧ True) (fun x : LZ => ((17 : Int) - (x.2.1 0).toInt).toNat) ?_ (σ1, lf [0, 0], lg [p1]) ⟨Fr.rf, hJ2, (show (0 : Int) ≤ (0 : Int32).toInt ∧ (0 : Int32).toInt ≤ 16 from (by have z0 : (0 : Int32).toInt = 0 := (by decide); omega)), trivial⟩ _ _ _ hP hS (lv_sub hl [0, 1, 2, 3, 4] rfl)
  intro y5 hI4 nl3 H locs ls hP hS hl
  obtain ⟨σ6, eσ6⟩ : ∃ z, z = y5.1 := ⟨_, rfl⟩
  rw [← eσ6] at hP hI4
  have hF7 : Fr (fL [59]) σ1 σ6 := hI4.1
  have hJ8 : J9 (σ6 9) := hI4.2.1
  have b9 : (0 : Int) ≤ (y5.2.1 0).toInt ∧ (y5.2.1 0).toInt ≤ 16 := hI4.2.2.1
  have hl : lv_has ls 8 [(6, .int (y5.2.1 0)), (5, .int (y5.2.1 1)), (3, .long (y5.2.2 0)), (0, .ref (g 60)), (1, .long p1)] := hl
  refine lv_iload hx hb dX9_cracksBy_13 (lv_at hl 0 rfl) ?_
  refine lv_aload_n hx hb dX9_cracksBy_15 rfl (lv_at hl 3 rfl) ?_
  refine g9_31 (x := ((σ 9).1 31)) hx hb hts hown hK hP (((hF7 9 31 rfl).1).trans (((sI_f eσ1) 9 31 rfl).1)) (hts _ q1391) dX9_cracksBy_16 ?_
  refine lv_icmp_ge (tgt := 120) hx hb dX9_cracksBy_19 (by decide) (fun c10 => ?_) (fun c10 => ?_)
  ·
    have k11 := ple32 c10
    refine lv_iload hx hb dX9_cracksBy_120 (lv_at hl 1 rfl) ?_
    exact W.iret (v := (y5.2.1 1)) hx hb hr (fun tS ht hW => ⟨⟨(y5.2.1 1), σ6, rfl, ⟨Fr.tr (Fr.tr (Fr.rf) (sI_f eσ1) (fN_L rfl)) hF7 (fL_sub rfl), hJ8, trivial⟩, (show va_P D clz (WD9 cy g σ6) tS.heap by rw [ht]; exact hP)⟩, hS.F ht⟩) hS.2.2 dX9_cracksBy_122
  ·
    have k12 := nle32 c10
    refine lv_ldc2 (v := 1103515245) hx hb hown (hts _ q2088) dX9_cracksBy_22 ?_
    refine lv_lload_n hx hb dX9_cracksBy_25 rfl (lv_at hl 2 rfl) ?_
    refine lv_lmul hx hb dX9_cracksBy_26 ?_
    refine lv_topl (fun x13 ex13 => ?_)
    refine lv_ldc2 (v := 12345) hx hb hown (hts _ q2089) dX9_cracksBy_27 ?_
    refine lv_ladd hx hb dX9_cracksBy_30 ?_
    refine lv_topl (fun x14 ex14 => ?_)
    refine lv_ldc2 (v := 2147483648) hx hb hown (hts _ q2090) dX9_cracksBy_31 ?_
    refine lv_lrem hx hb dX9_cracksBy_34 (by decide) ?_
    refine lv_topl (fun x15 ex15 => ?_)
    refine lv_lstore_n (lv' := [(3, .long x15), (6, .int (y5.2.1 0)), (5, .int (y5.2.1 1)), (0, .ref (g 60)), (1, .long p1)]) hx hb dX9_cracksBy_35 rfl hl (by decide) rfl (fun ls hl => ?_)
    refine lv_bipush (v := 88) hx hb dX9_cracksBy_36 (by decide) ?_
    refine lv_iload hx hb dX9_cracksBy_38 (lv_at hl 1 rfl) ?_
    refine lv_imul hx hb dX9_cracksBy_40 ?_
    refine lv_topi (fun x16 ex16 => ?_)
    have t17 := mulC' (n := 88) ex16 (by decide) (by have f0 := b9; have f1 := k12; have f2 := j9_31 hJ rfl; have g0 := rg32 (y5.2.1 0); omega)
    refine lv_aload_n hx hb dX9_cracksBy_41 rfl (lv_at hl 3 rfl) ?_
    refine g9_38 hx hb hts hown hK hP (hts _ q1398) dX9_cracksBy_42 ?_
    refine lv_iload hx hb dX9_cracksBy_45 (lv_at hl 1 rfl) ?_
    obtain ⟨x18, ex18⟩ : ∃ z, (σ 9).2.2.1 38 (y5.2.1 0).toInt.toNat = z := ⟨_, rfl⟩
    refine l9_38 (x := x18) hx hb hK hP (vpo (by have f0 := b9; have f1 := k12; have f2 := t17; have f3 := j9_31 hJ rfl; have g0 := rg32 (y5.2.1 0); omega)) ((congrFun (((hF7 9 38 rfl).2.2.1).trans (((sI_f eσ1) 9 38 rfl).2.2.1)) _).trans ex18) dX9_cracksBy_47 ?_
    have t19 := a9_38 hJ ex18
    refine lv_iadd hx hb dX9_cracksBy_48 ?_
    refine lv_topi (fun x20 ex20 => ?_)
    have t21 := addO ex20 (by have f0 := t17; have f1 := t19; have f2 := b9; have f3 := k12; have f4 := j9_31 hJ rfl; have g0 := rg32 x16; have g1 := rg32 x18; omega)
    refine lv_istore (lv' := [(7, .int x20), (3, .long x15), (6, .int (y5.2.1 0)), (5, .int (y5.2.1 1)), (0, .ref (g 60)), (1, .long p1)]) hx hb dX9_cracksBy_49 hl (by decide) rfl (fun ls hl => ?_)
    refine lv_lload_n hx hb dX9_cracksBy_51 rfl (lv_at hl 1 rfl) ?_
    refine lv_ldc2 (v := 65536) hx hb hown (hts _ q2091) dX9_cracksBy_52 ?_
    refine lv_ldiv hx hb dX9_cracksBy_55 (by decide) ?_
    refine lv_topl (fun x22 ex22 => ?_)
    refine lv_ldc2 (v := 100) hx hb hown (hts _ q2092) dX9_cracksBy_56 ?_
    refine lv_lrem hx hb dX9_cracksBy_59 (by decide) ?_
    refine lv_topl (fun x23 ex23 => ?_)
    refine lv_aload_n hx hb dX9_cracksBy_60 rfl (lv_at hl 4 rfl) ?_
    refine g9_27 hx hb hts hown hK hP (hts _ q1387) dX9_cracksBy_61 ?_
    refine lv_iload hx hb dX9_cracksBy_64 (lv_at hl 0 rfl) ?_
    obtain ⟨x24, ex24⟩ : ∃ z, (σ 9).2.2.1 27 x20.toInt.toNat = z := ⟨_, rfl⟩
    refine l9_27 (x := x24) hx hb hK hP (vpo (by have f0 := t21; have f1 := t17; have f2 := t19; have f3 := b9; have f4 := k12; have f5 := j9_31 hJ rfl; have g0 := rg32 x20; omega)) ((congrFun (((hF7 9 27 rfl).2.2.1).trans (((sI_f eσ1) 9 27 rfl).2.2.1)) _).trans ex24) dX9_cracksBy_66 ?_
    refine lv_iconst (v := 2) hx hb dX9_cracksBy_67 (by decide) ?_
    refine lv_aload_n hx hb dX9_cracksBy_68 rfl (lv_at hl 4 rfl) ?_
    refine g9_25 hx hb hts hown hK hP (hts _ q1385) dX9_cracksBy_69 ?_
    refine lv_iload hx hb dX9_cracksBy_72 (lv_at hl 0 rfl) ?_
    obtain ⟨x25, ex25⟩ : ∃ z, (σ 9).2.2.1 25 x20.toInt.toNat = z := ⟨_, rfl⟩
    refine l9_25 (x := x25) hx hb hK hP (vpo (by have f0 := t21; have f1 := t17; have f2 := t19; have f3 := b9; have f4 := k12; have f5 := j9_31 hJ rfl; have g0 := rg32 x20; omega)) ((congrFun (((hF7 9 25 rfl).2.2.1).trans (((sI_f eσ1) 9 25 rfl).2.2.1)) _).trans ex25) dX9_cracksBy_74 ?_
    refine lv_imul hx hb dX9_cracksBy_75 ?_
    refine lv_topi (fun x26 ex26 => ?_)
    refine lv_iadd hx hb dX9_cracksBy_76 ?_
    refine lv_topi (fun x27 ex27 => ?_)
    refine lv_i2l (v := x27.toInt64) hx hb dX9_cracksBy_77 rfl ?_
    refine W.lcmp hx hb dX9_cracksBy_78 ?_
    refine cut9 (D := D) (cy := cy) (g := g) (A := A9 cy g s.heap.size) (H0 := s.heap) 8 114 (fun x : LZ => [(7, .int x20), (3, .long x15), (6, .int (y5.2.1 0)), (5, .int (x.2.1 0)), (0, .ref (g 60)), (1, .long p1)]) (fun x : LZ => []) (fun x : LZ => (Fr (fL [59]) σ6 x.1) ∧ (J9 (x.1 9)) ∧ True) ?_ ?_
    ·
      intro y30 hI29 H locs ls hP hS hl
      obtain ⟨σ31, eσ31⟩ : ∃ z, z = y30.1 := ⟨_, rfl⟩
      rw [← eσ31] at hP hI29
      have hF32 : Fr (fL [59]) σ6 σ31 := hI29.1
      have hJ33 : J9 (σ31 9) := hI29.2.1
      have hl : lv_has ls 8 [(7, .int x20), (3, .long x15), (6, .int (y5.2.1 0)), (5, .int (y30.2.1 0)), (0, .ref (g 60)), (1, .long p1)] := hl
      obtain ⟨x34, ex34⟩ : ∃ y : Int32, y = (y5.2.1 0) + 1 := ⟨_, rfl⟩
      have t35 := addO ex34 (by have f0 := b9; have f1 := k12; have f2 := t17; have f3 := t19; have f4 := j9_31 hJ rfl; have f5 := t21; have g0 := rg32 (y5.2.1 0); have z1 : (1 : Int32).toInt = 1 := (by decide); omega)
      refine lv_iinc (v := x34) (lv' := [(6, .int x34), (7, .int x20), (3, .long x15), (5, .int (y30.2.1 0)), (0, .ref (g 60)), (1, .long p1)]) hx hb dX9_cracksBy_114 hl (k := 2) rfl (by rw [ex34]; rfl) (by decide) rfl (fun ls hl => ?_)
      refine lv_goto (tgt := 13) hx hb dX9_cracksBy_117 (by decide) ?_
      have t36 : ((17 : Int) - x34.toInt).toNat < ((17 : Int) - (y5.2.1 0).toInt).toNat := (by have f0 := b9; have f1 := k12; have f2 := t17; have f3 := t19; have f4 := t35; have f5 := j9_31 hJ rfl; have f6 := t21; have g0 := rg32 (y5.2.1 0); have g1 := rg32 x34; have z1 : (1 : Int32).toInt = 1 := (by decide); omega)
      exact nl3 (σ31, lf [x34, (y30.2.1 0)], lg [x15]) ⟨Fr.tr (Fr.tr (Fr.rf) hF7 (fL_sub rfl)) hF32 (fL_sub rfl), hJ33, (show (0 : Int) ≤ (x34 : Int32).toInt ∧ (x34 : Int32).toInt ≤ 16 from (by have f0 := t35; have f1 := b9; have f2 := k12; have f3 := t17; have f4 := t19; have f5 := j9_31 hJ rfl; have f6 := t21; have g0 := rg32 x34; have z1 : (1 : Int32).toInt = 1 := (by decide); omega)), trivial⟩ (show ((17 : Int) - x34.toInt).toNat < _ from by first | exact t36 | (rw [← eσ6]; exact t36)) _ _ _ hP hS (lv_sub hl [0, 3, 2, 4, 5] rfl)
    ·
      intro nj28
      refine lv_if_lt (tgt := 85) hx hb dX9_cracksBy_79 (by decide) (fun c37 => ?_) (fun c37 => ?_)
      ·
        have k38 := plt64 ((lg_cmp_lt x23 x27.toInt64).mp c37)
        obtain ⟨x39, ex39⟩ : ∃ y : Int32, y = (y5.2.1 1) + 1 := ⟨_, rfl⟩
        refine lv_iinc (v := x39) (lv' := [(5, .int x39), (7, .int x20), (3, .long x15), (6, .int (y5.2.1 0)), (0, .ref (g 60)), (1, .long p1)]) hx hb dX9_cracksBy_85 hl (k := 3) rfl (by rw [ex39]; rfl) (by decide) rfl (fun ls hl => ?_)
        refine lv_aload_n hx hb dX9_cracksBy_88 rfl (lv_at hl 4 rfl) ?_
        refine lv_aload_n hx hb dX9_cracksBy_89 rfl (lv_at hl 4 rfl) ?_
        refine g9_59 (x := ((σ6 9).1 59)) hx hb hts hown hK hP (rfl) (hts _ q1419) dX9_cracksBy_90 ?_
        refine lv_iconst (v := (-1)) hx hb dX9_cracksBy_93 (by decide) ?_
        refine cut9 (D := D) (cy := cy) (g := g) (A := A9 cy g s.heap.size) (H0 := s.heap) 8 111 (fun x : LZ => [(5, .int x39), (7, .int x20), (3, .long x15), (6, .int (y5.2.1 0)), (0, .ref (g 60)), (1, .long p1)]) (fun x : LZ => [.int (x.2.1 0), .ref (g 60)]) (fun x : LZ => (x.1 = σ6) ∧ True) ?_ ?_
        ·
          intro y42 hI41 H locs ls hP hS hl
          rw [show y42.1 = σ6 from hI41.1] at hP
          have hl : lv_has ls 8 [(5, .int x39), (7, .int x20), (3, .long x15), (6, .int (y5.2.1 0)), (0, .ref (g 60)), (1, .long p1)] := hl
          refine W.eq (g2 := F0 m 111 ls [.int (y42.2.1 0), .ref (g 60)]) rfl ?_
          refine p9_59 hx hb hts hown hK hP hD hS (hts _ q1419) dX9_cracksBy_111 (fun H locs σ43 eσ43 hP hS => ?_)
          have hJ44 : J9 (σ43 9) := hJ8.I eσ43 (show JI9 59 (y42.2.1 0) from trivial)
          exact nj28 (σ43, lf [x39], lg []) ⟨Fr.tr (Fr.rf) (sI_f eσ43) (fN_L rfl), hJ44, trivial⟩ _ _ _ hP hS (lv_sub hl [1, 2, 3, 0, 4, 5] rfl)
        ·
          intro nj40
          refine lv_icmp_ne (tgt := 107) hx hb dX9_cracksBy_94 (by decide) (fun c45 => ?_) (fun c45 => ?_)
          ·
            have k46 := neq32 c45
            refine lv_aload_n hx hb dX9_cracksBy_107 rfl (lv_at hl 4 rfl) ?_
            refine g9_59 (x := ((σ6 9).1 59)) hx hb hts hown hK hP (rfl) (hts _ q1419) dX9_cracksBy_108 ?_
            exact nj40 (σ6, lf [((σ6 9).1 59)], lg []) ⟨rfl, trivial⟩ _ _ _ hP hS (lv_sub hl [0, 1, 2, 3, 4, 5] rfl)
          ·
            have k47 := peq32 c45
            refine lv_aload_n hx hb dX9_cracksBy_97 rfl (lv_at hl 4 rfl) ?_
            refine g9_32 hx hb hts hown hK hP (hts _ q1392) dX9_cracksBy_98 ?_
            refine lv_iload hx hb dX9_cracksBy_101 (lv_at hl 3 rfl) ?_
            obtain ⟨x48, ex48⟩ : ∃ z, (σ 9).2.2.1 32 (y5.2.1 0).toInt.toNat = z := ⟨_, rfl⟩
            refine l9_32 (x := x48) hx hb hK hP (vpo (by have f0 := b9; have f1 := k12; have f2 := t17; have f3 := t19; have f4 := j9_31 hJ rfl; have f5 := t21; have g0 := rg32 (y5.2.1 0); omega)) ((congrFun (((hF7 9 32 rfl).2.2.1).trans (((sI_f eσ1) 9 32 rfl).2.2.1)) _).trans ex48) dX9_cracksBy_103 ?_
            have t49 := a9_32 hJ ex48
            refine lv_goto (tgt := 111) hx hb dX9_cracksBy_104 (by decide) ?_
            exact nj40 (σ6, lf [x48], lg []) ⟨rfl, trivial⟩ _ _ _ hP hS (lv_sub hl [0, 1, 2, 3, 4, 5] rfl)
      ·
        have k50 := nlt64 (fun q => c37 ((lg_cmp_lt x23 x27.toInt64).mpr q))
        refine lv_goto (tgt := 114) hx hb dX9_cracksBy_82 (by decide) ?_
        exact nj28 (σ6, lf [(y5.2.1 1)], lg []) ⟨Fr.rf, hJ8, trivial⟩ _ _ _ hP hS (lv_sub hl [0, 1, 2, 3, 4, 5] rfl)

theorem q2079 : Cond.code yX9_cracks cX9_cracks 4 (some .int) ∈ lw_g := lw_gm (List.mem_of_getElem? (i := 2079) (by decide +kernel)) rfl
theorem q2080 : Cond.methodLink RX9 541 yX9_isSeed ∈ lw_g := lw_gm (List.mem_of_getElem? (i := 2080) (by decide +kernel)) rfl
theorem q2081 : Cond.static yX9_isSeed ∈ lw_g := lw_gm (List.mem_of_getElem? (i := 2081) (by decide +kernel)) rfl
theorem q2084 : Cond.methodLink RX9 544 yX9_cracksBy ∈ lw_g := lw_gm (List.mem_of_getElem? (i := 2084) (by decide +kernel)) rfl
theorem q2086 : Cond.instanceMethod yX9_cracksBy ∈ lw_g := lw_gm (List.mem_of_getElem? (i := 2086) (by decide +kernel)) rfl
theorem q123 : Cond.selects RX9 yX9_cracksBy yX9_cracksBy ∈ lw_g := lw_gm (List.mem_of_getElem? (i := 123) (by decide +kernel)) rfl
theorem dX9_cracks_0 : decode cX9_cracks 0 = .ok (.aload_n 0, 1) := by decide +kernel
theorem dX9_cracks_1 : decode cX9_cracks 1 = .ok (.iconst 0, 1) := by decide +kernel
theorem dX9_cracks_2 : decode cX9_cracks 2 = .ok (.putfield 129, 3) := by decide +kernel
theorem dX9_cracks_5 : decode cX9_cracks 5 = .ok (.iload_n 1, 1) := by decide +kernel
theorem dX9_cracks_6 : decode cX9_cracks 6 = .ok (.invokestatic 541, 3) := by decide +kernel
theorem dX9_cracks_9 : decode cX9_cracks 9 = .ok (.ifCond .eq 12, 3) := by decide +kernel
theorem dX9_cracks_12 : decode cX9_cracks 12 = .ok (.aload_n 0, 1) := by decide +kernel
theorem dX9_cracks_13 : decode cX9_cracks 13 = .ok (.iload_n 2, 1) := by decide +kernel
theorem dX9_cracks_14 : decode cX9_cracks 14 = .ok (.iload_n 3, 1) := by decide +kernel
theorem dX9_cracks_15 : decode cX9_cracks 15 = .ok (.invokevirtual 433, 3) := by decide +kernel
theorem dX9_cracks_18 : decode cX9_cracks 18 = .ok (.ifCond .ne 8, 3) := by decide +kernel
theorem dX9_cracks_21 : decode cX9_cracks 21 = .ok (.bipush (-2), 2) := by decide +kernel
theorem dX9_cracks_23 : decode cX9_cracks 23 = .ok (.goto 22, 3) := by decide +kernel
theorem dX9_cracks_26 : decode cX9_cracks 26 = .ok (.aload_n 0, 1) := by decide +kernel
theorem dX9_cracks_27 : decode cX9_cracks 27 = .ok (.iload_n 2, 1) := by decide +kernel
theorem dX9_cracks_28 : decode cX9_cracks 28 = .ok (.iload_n 3, 1) := by decide +kernel
theorem dX9_cracks_29 : decode cX9_cracks 29 = .ok (.invokevirtual 436, 3) := by decide +kernel
theorem dX9_cracks_32 : decode cX9_cracks 32 = .ok (.ifCond .eq 12, 3) := by decide +kernel
theorem dX9_cracks_35 : decode cX9_cracks 35 = .ok (.aload_n 0, 1) := by decide +kernel
theorem dX9_cracks_36 : decode cX9_cracks 36 = .ok (.iload_n 1, 1) := by decide +kernel
theorem dX9_cracks_37 : decode cX9_cracks 37 = .ok (.i2l, 1) := by decide +kernel
theorem dX9_cracks_38 : decode cX9_cracks 38 = .ok (.invokevirtual 544, 3) := by decide +kernel
theorem dX9_cracks_41 : decode cX9_cracks 41 = .ok (.goto 4, 3) := by decide +kernel
theorem dX9_cracks_44 : decode cX9_cracks 44 = .ok (.iconst (-1), 1) := by decide +kernel
theorem dX9_cracks_45 : decode cX9_cracks 45 = .ok (.ireturn, 1) := by decide +kernel
set_option maxHeartbeats 4000000 in
set_option maxRecDepth 100000 in
theorem m_X9_cracks (l : Launch) (D : va_G) (cy : Nat → ClassId) (g : Nat → Nat) (σ : ST) (p1 : Int32) (p2 : Int32) (p3 : Int32) (sz : Nat) (hJ : J9 (σ 9)) (kDK0 : DK0 (σ 9)) : Met l yX9_cracks (ww yX9_cracks cX9_cracks 4 (some .int)) ({ frames := 8, cells := 0, slots := 0, locals := 512 }) (va_Pc [.ref (g 60), .int p1, .int p2, .int p3] (pr9 D cy g σ sz)) (qi9 D cy g sz (fun r τ => Fr (fL [0, 23, 24, 25, 26, 27, 28, 29, 30, 31, 32, 33, 34, 35, 36, 37, 38, 39, 40, 41, 59]) σ τ ∧ J9 (τ 9) ∧ True)) 0 0 (A9 cy g sz) := by
  refine Met.ofW (cc := cX9_cracks) (maxL := 4) (ret := (some .int)) (by decide) rfl ?_
  intro p e s m args below meth c s₁ B hml hv
  obtain ⟨rfl, hsz, hP, hK, hD0, hC⟩ := hv
  have hx := B.exec
  have hb := B.bytes
  have hr := B.returns
  have hts := hts_g (atoms_spec (ws := ww yX9_cracks cX9_cracks 4 (some .int)) B.pre)
  have hown : s.vm.findClass RX9 = some m.cls := findClass_of_methodNamed B.named
  have hlocks := B.notSynchronized
  clear B
  subst hsz
  have hD := fun τ => A9_D (sz := s.heap.size) hD0 τ
  clear hD0
  have hS : va_S (A9 cy g s.heap.size) s.heap s.heap [] := va_S.rf
  have hl := lv_entry ([.ref (g 60), .int p1, .int p2, .int p3]) (n := 4) (Nat.le_of_ble_eq_true rfl)
  rw [lg_entry_eq]
  generalize (lg_sl ([.ref (g 60), .int p1, .int p2, .int p3]) ++ List.replicate (4 - (lg_sl ([.ref (g 60), .int p1, .int p2, .int p3])).length) Slot.unset).toArray = ls at hl ⊢
  have hl : lv_has ls 4 [(0, .ref (g 60)), (1, .int p1), (2, .int p2), (3, .int p3)] := hl
  refine lv_aload_n hx hb dX9_cracks_0 rfl (lv_at hl 0 rfl) ?_
  refine lv_iconst (v := 0) hx hb dX9_cracks_1 (by decide) ?_
  refine p9_0 hx hb hts hown hK hP hD hS (hts _ q1360) dX9_cracks_2 (fun H locs σ1 eσ1 hP hS => ?_)
  have hJ2 : J9 (σ1 9) := hJ.I eσ1 (show JI9 0 (0 : Int32) from trivial)
  have T3 : DK0 (σ1 9) := DK0.mv kDK0 ((sI_f eσ1) 9 17 rfl).2.2.1 ((sI_f eσ1) 9 18 rfl).2.2.1 ((sI_f eσ1) 9 19 rfl).2.2.1
  refine lv_iload_n hx hb dX9_cracks_5 rfl (lv_at hl 1 rfl) ?_
  refine va_calli (va_runS (As := [.int p1]) (rest := []) ⟨hx, hb, hml, hown, hts⟩ (m_X9_isSeed l D cy g σ1 p1 _ hJ2 ) (va_cwS 1 hts (gd_S q2080 q2081 q134 q2082) rfl rfl rfl (by decide +kernel) ⟨Nat.le_of_ble_eq_true rfl, Nat.le_of_ble_eq_true rfl⟩) (ps9 hP hK hD hC hS) rfl rfl hl.1 rfl (lv_room (Nat.le_of_ble_eq_true rfl)) dX9_cracks_6 ⟨Nat.le_of_ble_eq_true rfl, Nat.le_of_ble_eq_true rfl⟩) hS (fun q _ h => up9 hS q h) (up9 hS) (fun r4 σ5 tS H1 locs ht hvm hw6 hB hz1 hk1 hS => ?_)
  have hP : va_P D clz (WD9 cy g σ5) H1 := by rw [← ht]; exact hB
  clear hB hz1 hk1 hvm ht
  generalize H1 = H at hP hS ⊢
  have hw6E : σ1 = σ5 := (hw6.1).symm
  subst hw6E
  have b7 : (0 : Int) ≤ r4.toInt ∧ r4.toInt ≤ 1 := hw6.2.1
  refine lv_if_eq (tgt := 21) hx hb dX9_cracks_9 (by decide) (fun c8 => ?_) (fun c8 => ?_)
  ·
    have k9 := peq32 c8
    refine lv_bipush (v := (-2)) hx hb dX9_cracks_21 (by decide) ?_
    refine lv_goto (tgt := 45) hx hb dX9_cracks_23 (by decide) ?_
    exact W.iret (v := (-2)) hx hb hr (fun tS ht hW => ⟨⟨(-2), σ1, rfl, ⟨Fr.tr (Fr.rf) (sI_f eσ1) (fN_L rfl), hJ2, trivial⟩, (show va_P D clz (WD9 cy g σ1) tS.heap by rw [ht]; exact hP)⟩, hS.F ht⟩) hS.2.2 dX9_cracks_45
  ·
    have k10 := neq32 c8
    refine lv_aload_n hx hb dX9_cracks_12 rfl (lv_at hl 0 rfl) ?_
    refine lv_iload_n hx hb dX9_cracks_13 rfl (lv_at hl 2 rfl) ?_
    refine lv_iload_n hx hb dX9_cracks_14 rfl (lv_at hl 3 rfl) ?_
    refine va_calli (va_runV (As := [.int p2, .int p3]) (rest := []) ⟨hx, hb, hml, hown, hts⟩ (m_X9_isPlaying l D cy g σ1 p2 p3 _ hJ2 ) (cwV 2 hts (gd_V q1822 q1824 q87 q134 q1825) rfl rfl rfl (by decide +kernel) ⟨Nat.le_of_ble_eq_true rfl, Nat.le_of_ble_eq_true rfl⟩) (pv9 hP hK hD hC hS (va_recv hK hP (ci := 9) (q0 := 0) rfl rfl)) rfl rfl hl.1 rfl (lv_room (Nat.le_of_ble_eq_true rfl)) dX9_cracks_15 ⟨Nat.le_of_ble_eq_true rfl, Nat.le_of_ble_eq_true rfl⟩) hS (fun q _ h => up9 hS q h) (up9 hS) (fun r11 σ12 tS H1 locs ht hvm hw13 hB hz1 hk1 hS => ?_)
    have hP : va_P D clz (WD9 cy g σ12) H1 := by rw [← ht]; exact hB
    clear hB hz1 hk1 hvm ht
    generalize H1 = H at hP hS ⊢
    have hw13E : σ1 = σ12 := (hw13.1).symm
    subst hw13E
    have b14 : (0 : Int) ≤ r11.toInt ∧ r11.toInt ≤ 1 := hw13.2.1
    have b15 : (r11.toInt = 0) ∨ ((0 : Int) ≤ p2.toInt ∧ p2.toInt ≤ 8 ∧ (0 : Int) ≤ p3.toInt ∧ p3.toInt ≤ 2) := hw13.2.2.1
    have b16 : (r11.toInt = 0) ∨ (p2.toInt < ((σ1 9).2.2.1 17 3).toInt) := hw13.2.2.2.1
    refine lv_if_ne (tgt := 26) hx hb dX9_cracks_18 (by decide) (fun c17 => ?_) (fun c17 => ?_)
    ·
      have k18 := neq32 c17
      refine lv_aload_n hx hb dX9_cracks_26 rfl (lv_at hl 0 rfl) ?_
      refine lv_iload_n hx hb dX9_cracks_27 rfl (lv_at hl 2 rfl) ?_
      refine lv_iload_n hx hb dX9_cracks_28 rfl (lv_at hl 3 rfl) ?_
      refine va_calli (va_runV (As := [.int p2, .int p3]) (rest := []) ⟨hx, hb, hml, hown, hts⟩ (m_X9_isBest l D cy g σ1 p2 p3 _ hJ2 T3 (show (0 : Int) ≤ p2.toInt ∧ p2.toInt ≤ 8 from (by have f0 := b15; have f1 := b16; have f2 := a9_17 hJ2 (j := 3) rfl; have f3 := congrArg Int32.toInt (show ((σ1 9).2.2.1 17 3) = ((σ 9).2.2.1 17 3) from congrFun (((sI_f eσ1) 9 17 rfl).2.2.1) _); have f4 := b14; have f5 := k18; have f6 := a9_17 hJ (j := 3) rfl; have g2 := rg32 p2; have z0 : (0 : Int32).toInt = 0 := (by decide); omega)) (show (0 : Int) ≤ p3.toInt ∧ p3.toInt ≤ 2 from (by have f0 := b15; have f1 := b16; have f2 := a9_17 hJ2 (j := 3) rfl; have f3 := congrArg Int32.toInt (show ((σ1 9).2.2.1 17 3) = ((σ 9).2.2.1 17 3) from congrFun (((sI_f eσ1) 9 17 rfl).2.2.1) _); have f4 := b14; have f5 := k18; have f6 := a9_17 hJ (j := 3) rfl; have g2 := rg32 p2; have g3 := rg32 p3; have z0 : (0 : Int32).toInt = 0 := (by decide); omega)) (show p2.toInt < ((σ1 9).2.2.1 17 3).toInt from (by have f0 := a9_17 hJ2 (j := 3) rfl; have f1 := congrArg Int32.toInt (show ((σ1 9).2.2.1 17 3) = ((σ 9).2.2.1 17 3) from congrFun (((sI_f eσ1) 9 17 rfl).2.2.1) _); have f2 := b15; have f3 := b16; have f4 := a9_17 hJ (j := 3) rfl; have f5 := b14; have f6 := k18; have g2 := rg32 p2; have z0 : (0 : Int32).toInt = 0 := (by decide); omega))) (cwV 2 hts (gd_V q1826 q1828 q88 q134 q1829) rfl rfl rfl (by decide +kernel) ⟨Nat.le_of_ble_eq_true rfl, Nat.le_of_ble_eq_true rfl⟩) (pv9 hP hK hD hC hS (va_recv hK hP (ci := 9) (q0 := 0) rfl rfl)) rfl rfl hl.1 rfl (lv_room (Nat.le_of_ble_eq_true rfl)) dX9_cracks_29 ⟨Nat.le_of_ble_eq_true rfl, Nat.le_of_ble_eq_true rfl⟩) hS (fun q _ h => up9 hS q h) (up9 hS) (fun r19 σ20 tS H1 locs ht hvm hw21 hB hz1 hk1 hS => ?_)
      have hP : va_P D clz (WD9 cy g σ20) H1 := by rw [← ht]; exact hB
      clear hB hz1 hk1 hvm ht
      generalize H1 = H at hP hS ⊢
      have hF22 : Fr (fL [23, 24, 25, 26, 27, 28, 29, 30, 31, 32, 33, 34, 35, 36, 37, 38, 39, 40, 41]) σ1 σ20 := hw21.1
      have hJ23 : J9 (σ20 9) := hw21.2.1
      have b24 : (0 : Int) ≤ r19.toInt ∧ r19.toInt ≤ 1 := hw21.2.2.1
      have T25 : DK0 (σ20 9) := DK0.mv T3 (hF22 9 17 rfl).2.2.1 (hF22 9 18 rfl).2.2.1 (hF22 9 19 rfl).2.2.1
      refine lv_if_eq (tgt := 44) hx hb dX9_cracks_32 (by decide) (fun c26 => ?_) (fun c26 => ?_)
      ·
        have k27 := peq32 c26
        refine lv_iconst (v := (-1)) hx hb dX9_cracks_44 (by decide) ?_
        exact W.iret (v := (-1)) hx hb hr (fun tS ht hW => ⟨⟨(-1), σ20, rfl, ⟨Fr.tr (Fr.tr (Fr.rf) (sI_f eσ1) (fN_L rfl)) hF22 (fL_sub rfl), hJ23, trivial⟩, (show va_P D clz (WD9 cy g σ20) tS.heap by rw [ht]; exact hP)⟩, hS.F ht⟩) hS.2.2 dX9_cracks_45
      ·
        have k28 := neq32 c26
        refine lv_aload_n hx hb dX9_cracks_35 rfl (lv_at hl 0 rfl) ?_
        refine lv_iload_n hx hb dX9_cracks_36 rfl (lv_at hl 1 rfl) ?_
        refine lv_i2l (v := p1.toInt64) hx hb dX9_cracks_37 rfl ?_
        refine va_calli (va_runV (As := [.long p1.toInt64]) (rest := []) ⟨hx, hb, hml, hown, hts⟩ (m_X9_cracksBy l D cy g σ20 p1.toInt64 _ hJ23 ) (cwV 1 hts (gd_V q2084 q2086 q123 q134 q2087) rfl rfl rfl (by decide +kernel) ⟨Nat.le_of_ble_eq_true rfl, Nat.le_of_ble_eq_true rfl⟩) (pv9 hP hK hD hC hS (va_recv hK hP (ci := 9) (q0 := 0) rfl rfl)) rfl rfl hl.1 rfl (lv_room (Nat.le_of_ble_eq_true rfl)) dX9_cracks_38 ⟨Nat.le_of_ble_eq_true rfl, Nat.le_of_ble_eq_true rfl⟩) hS (fun q _ h => up9 hS q h) (up9 hS) (fun r29 σ30 tS H1 locs ht hvm hw31 hB hz1 hk1 hS => ?_)
        have hP : va_P D clz (WD9 cy g σ30) H1 := by rw [← ht]; exact hB
        clear hB hz1 hk1 hvm ht
        generalize H1 = H at hP hS ⊢
        have hF32 : Fr (fL [59]) σ20 σ30 := hw31.1
        have hJ33 : J9 (σ30 9) := hw31.2.1
        have T34 : DK0 (σ30 9) := DK0.mv T25 (hF32 9 17 rfl).2.2.1 (hF32 9 18 rfl).2.2.1 (hF32 9 19 rfl).2.2.1
        refine lv_goto (tgt := 45) hx hb dX9_cracks_41 (by decide) ?_
        exact W.iret (v := r29) hx hb hr (fun tS ht hW => ⟨⟨r29, σ30, rfl, ⟨Fr.tr (Fr.tr (Fr.tr (Fr.rf) (sI_f eσ1) (fN_L rfl)) hF22 (fL_sub rfl)) hF32 (fL_sub rfl), hJ33, trivial⟩, (show va_P D clz (WD9 cy g σ30) tS.heap by rw [ht]; exact hP)⟩, hS.F ht⟩) hS.2.2 dX9_cracks_45
    ·
      have k35 := peq32 c17
      refine lv_bipush (v := (-2)) hx hb dX9_cracks_21 (by decide) ?_
      refine lv_goto (tgt := 45) hx hb dX9_cracks_23 (by decide) ?_
      exact W.iret (v := (-2)) hx hb hr (fun tS ht hW => ⟨⟨(-2), σ1, rfl, ⟨Fr.tr (Fr.rf) (sI_f eσ1) (fN_L rfl), hJ2, trivial⟩, (show va_P D clz (WD9 cy g σ1) tS.heap by rw [ht]; exact hP)⟩, hS.F ht⟩) hS.2.2 dX9_cracks_45

theorem q2096 : Cond.code yX9_cracked cX9_cracked 4 (some .int) ∈ lw_g := lw_gm (List.mem_of_getElem? (i := 2096) (by decide +kernel)) rfl
theorem dX9_cracked_0 : decode cX9_cracked 0 = .ok (.aload_n 0, 1) := by decide +kernel
theorem dX9_cracked_1 : decode cX9_cracked 1 = .ok (.iconst 0, 1) := by decide +kernel
theorem dX9_cracked_2 : decode cX9_cracked 2 = .ok (.putfield 129, 3) := by decide +kernel
theorem dX9_cracked_5 : decode cX9_cracked 5 = .ok (.iload_n 1, 1) := by decide +kernel
theorem dX9_cracked_6 : decode cX9_cracked 6 = .ok (.invokestatic 541, 3) := by decide +kernel
theorem dX9_cracked_9 : decode cX9_cracked 9 = .ok (.ifCond .eq 12, 3) := by decide +kernel
theorem dX9_cracked_12 : decode cX9_cracked 12 = .ok (.aload_n 0, 1) := by decide +kernel
theorem dX9_cracked_13 : decode cX9_cracked 13 = .ok (.iload_n 2, 1) := by decide +kernel
theorem dX9_cracked_14 : decode cX9_cracked 14 = .ok (.iload_n 3, 1) := by decide +kernel
theorem dX9_cracked_15 : decode cX9_cracked 15 = .ok (.invokevirtual 433, 3) := by decide +kernel
theorem dX9_cracked_18 : decode cX9_cracked 18 = .ok (.ifCond .ne 6, 3) := by decide +kernel
theorem dX9_cracked_21 : decode cX9_cracked 21 = .ok (.bipush (-2), 2) := by decide +kernel
theorem dX9_cracked_23 : decode cX9_cracked 23 = .ok (.ireturn, 1) := by decide +kernel
theorem dX9_cracked_24 : decode cX9_cracked 24 = .ok (.aload_n 0, 1) := by decide +kernel
theorem dX9_cracked_25 : decode cX9_cracked 25 = .ok (.iload_n 2, 1) := by decide +kernel
theorem dX9_cracked_26 : decode cX9_cracked 26 = .ok (.iload_n 3, 1) := by decide +kernel
theorem dX9_cracked_27 : decode cX9_cracked 27 = .ok (.invokevirtual 436, 3) := by decide +kernel
theorem dX9_cracked_30 : decode cX9_cracked 30 = .ok (.ifCond .ne 5, 3) := by decide +kernel
theorem dX9_cracked_33 : decode cX9_cracked 33 = .ok (.iconst (-1), 1) := by decide +kernel
theorem dX9_cracked_34 : decode cX9_cracked 34 = .ok (.ireturn, 1) := by decide +kernel
theorem dX9_cracked_35 : decode cX9_cracked 35 = .ok (.aload_n 0, 1) := by decide +kernel
theorem dX9_cracked_36 : decode cX9_cracked 36 = .ok (.iload_n 1, 1) := by decide +kernel
theorem dX9_cracked_37 : decode cX9_cracked 37 = .ok (.i2l, 1) := by decide +kernel
theorem dX9_cracked_38 : decode cX9_cracked 38 = .ok (.invokevirtual 544, 3) := by decide +kernel
theorem dX9_cracked_41 : decode cX9_cracked 41 = .ok (.pop, 1) := by decide +kernel
theorem dX9_cracked_42 : decode cX9_cracked 42 = .ok (.aload_n 0, 1) := by decide +kernel
theorem dX9_cracked_43 : decode cX9_cracked 43 = .ok (.getfield 526, 3) := by decide +kernel
theorem dX9_cracked_46 : decode cX9_cracked 46 = .ok (.ireturn, 1) := by decide +kernel
set_option maxHeartbeats 4000000 in
set_option maxRecDepth 100000 in
theorem m_X9_cracked (l : Launch) (D : va_G) (cy : Nat → ClassId) (g : Nat → Nat) (σ : ST) (p1 : Int32) (p2 : Int32) (p3 : Int32) (sz : Nat) (hJ : J9 (σ 9)) (kDK0 : DK0 (σ 9)) : Met l yX9_cracked (ww yX9_cracked cX9_cracked 4 (some .int)) ({ frames := 8, cells := 0, slots := 0, locals := 512 }) (va_Pc [.ref (g 60), .int p1, .int p2, .int p3] (pr9 D cy g σ sz)) (qi9 D cy g sz (fun r τ => Fr (fL [0, 23, 24, 25, 26, 27, 28, 29, 30, 31, 32, 33, 34, 35, 36, 37, 38, 39, 40, 41, 59]) σ τ ∧ J9 (τ 9) ∧ True)) 0 0 (A9 cy g sz) := by
  refine Met.ofW (cc := cX9_cracked) (maxL := 4) (ret := (some .int)) (by decide) rfl ?_
  intro p e s m args below meth c s₁ B hml hv
  obtain ⟨rfl, hsz, hP, hK, hD0, hC⟩ := hv
  have hx := B.exec
  have hb := B.bytes
  have hr := B.returns
  have hts := hts_g (atoms_spec (ws := ww yX9_cracked cX9_cracked 4 (some .int)) B.pre)
  have hown : s.vm.findClass RX9 = some m.cls := findClass_of_methodNamed B.named
  have hlocks := B.notSynchronized
  clear B
  subst hsz
  have hD := fun τ => A9_D (sz := s.heap.size) hD0 τ
  clear hD0
  have hS : va_S (A9 cy g s.heap.size) s.heap s.heap [] := va_S.rf
  have hl := lv_entry ([.ref (g 60), .int p1, .int p2, .int p3]) (n := 4) (Nat.le_of_ble_eq_true rfl)
  rw [lg_entry_eq]
  generalize (lg_sl ([.ref (g 60), .int p1, .int p2, .int p3]) ++ List.replicate (4 - (lg_sl ([.ref (g 60), .int p1, .int p2, .int p3])).length) Slot.unset).toArray = ls at hl ⊢
  have hl : lv_has ls 4 [(0, .ref (g 60)), (1, .int p1), (2, .int p2), (3, .int p3)] := hl
  refine lv_aload_n hx hb dX9_cracked_0 rfl (lv_at hl 0 rfl) ?_
  refine lv_iconst (v := 0) hx hb dX9_cracked_1 (by decide) ?_
  refine p9_0 hx hb hts hown hK hP hD hS (hts _ q1360) dX9_cracked_2 (fun H locs σ1 eσ1 hP hS => ?_)
  have hJ2 : J9 (σ1 9) := hJ.I eσ1 (show JI9 0 (0 : Int32) from trivial)
  have T3 : DK0 (σ1 9) := DK0.mv kDK0 ((sI_f eσ1) 9 17 rfl).2.2.1 ((sI_f eσ1) 9 18 rfl).2.2.1 ((sI_f eσ1) 9 19 rfl).2.2.1
  refine lv_iload_n hx hb dX9_cracked_5 rfl (lv_at hl 1 rfl) ?_
  refine va_calli (va_runS (As := [.int p1]) (rest := []) ⟨hx, hb, hml, hown, hts⟩ (m_X9_isSeed l D cy g σ1 p1 _ hJ2 ) (va_cwS 1 hts (gd_S q2080 q2081 q134 q2082) rfl rfl rfl (by decide +kernel) ⟨Nat.le_of_ble_eq_true rfl, Nat.le_of_ble_eq_true rfl⟩) (ps9 hP hK hD hC hS) rfl rfl hl.1 rfl (lv_room (Nat.le_of_ble_eq_true rfl)) dX9_cracked_6 ⟨Nat.le_of_ble_eq_true rfl, Nat.le_of_ble_eq_true rfl⟩) hS (fun q _ h => up9 hS q h) (up9 hS) (fun r4 σ5 tS H1 locs ht hvm hw6 hB hz1 hk1 hS => ?_)
  have hP : va_P D clz (WD9 cy g σ5) H1 := by rw [← ht]; exact hB
  clear hB hz1 hk1 hvm ht
  generalize H1 = H at hP hS ⊢
  have hw6E : σ1 = σ5 := (hw6.1).symm
  subst hw6E
  have b7 : (0 : Int) ≤ r4.toInt ∧ r4.toInt ≤ 1 := hw6.2.1
  refine lv_if_eq (tgt := 21) hx hb dX9_cracked_9 (by decide) (fun c8 => ?_) (fun c8 => ?_)
  ·
    have k9 := peq32 c8
    refine lv_bipush (v := (-2)) hx hb dX9_cracked_21 (by decide) ?_
    exact W.iret (v := (-2)) hx hb hr (fun tS ht hW => ⟨⟨(-2), σ1, rfl, ⟨Fr.tr (Fr.rf) (sI_f eσ1) (fN_L rfl), hJ2, trivial⟩, (show va_P D clz (WD9 cy g σ1) tS.heap by rw [ht]; exact hP)⟩, hS.F ht⟩) hS.2.2 dX9_cracked_23
  ·
    have k10 := neq32 c8
    refine lv_aload_n hx hb dX9_cracked_12 rfl (lv_at hl 0 rfl) ?_
    refine lv_iload_n hx hb dX9_cracked_13 rfl (lv_at hl 2 rfl) ?_
    refine lv_iload_n hx hb dX9_cracked_14 rfl (lv_at hl 3 rfl) ?_
    refine va_calli (va_runV (As := [.int p2, .int p3]) (rest := []) ⟨hx, hb, hml, hown, hts⟩ (m_X9_isPlaying l D cy g σ1 p2 p3 _ hJ2 ) (cwV 2 hts (gd_V q1822 q1824 q87 q134 q1825) rfl rfl rfl (by decide +kernel) ⟨Nat.le_of_ble_eq_true rfl, Nat.le_of_ble_eq_true rfl⟩) (pv9 hP hK hD hC hS (va_recv hK hP (ci := 9) (q0 := 0) rfl rfl)) rfl rfl hl.1 rfl (lv_room (Nat.le_of_ble_eq_true rfl)) dX9_cracked_15 ⟨Nat.le_of_ble_eq_true rfl, Nat.le_of_ble_eq_true rfl⟩) hS (fun q _ h => up9 hS q h) (up9 hS) (fun r11 σ12 tS H1 locs ht hvm hw13 hB hz1 hk1 hS => ?_)
    have hP : va_P D clz (WD9 cy g σ12) H1 := by rw [← ht]; exact hB
    clear hB hz1 hk1 hvm ht
    generalize H1 = H at hP hS ⊢
    have hw13E : σ1 = σ12 := (hw13.1).symm
    subst hw13E
    have b14 : (0 : Int) ≤ r11.toInt ∧ r11.toInt ≤ 1 := hw13.2.1
    have b15 : (r11.toInt = 0) ∨ ((0 : Int) ≤ p2.toInt ∧ p2.toInt ≤ 8 ∧ (0 : Int) ≤ p3.toInt ∧ p3.toInt ≤ 2) := hw13.2.2.1
    have b16 : (r11.toInt = 0) ∨ (p2.toInt < ((σ1 9).2.2.1 17 3).toInt) := hw13.2.2.2.1
    refine lv_if_ne (tgt := 24) hx hb dX9_cracked_18 (by decide) (fun c17 => ?_) (fun c17 => ?_)
    ·
      have k18 := neq32 c17
      refine lv_aload_n hx hb dX9_cracked_24 rfl (lv_at hl 0 rfl) ?_
      refine lv_iload_n hx hb dX9_cracked_25 rfl (lv_at hl 2 rfl) ?_
      refine lv_iload_n hx hb dX9_cracked_26 rfl (lv_at hl 3 rfl) ?_
      refine va_calli (va_runV (As := [.int p2, .int p3]) (rest := []) ⟨hx, hb, hml, hown, hts⟩ (m_X9_isBest l D cy g σ1 p2 p3 _ hJ2 T3 (show (0 : Int) ≤ p2.toInt ∧ p2.toInt ≤ 8 from (by have f0 := b15; have f1 := b16; have f2 := a9_17 hJ2 (j := 3) rfl; have f3 := congrArg Int32.toInt (show ((σ1 9).2.2.1 17 3) = ((σ 9).2.2.1 17 3) from congrFun (((sI_f eσ1) 9 17 rfl).2.2.1) _); have f4 := b14; have f5 := k18; have f6 := a9_17 hJ (j := 3) rfl; have g2 := rg32 p2; have z0 : (0 : Int32).toInt = 0 := (by decide); omega)) (show (0 : Int) ≤ p3.toInt ∧ p3.toInt ≤ 2 from (by have f0 := b15; have f1 := b16; have f2 := a9_17 hJ2 (j := 3) rfl; have f3 := congrArg Int32.toInt (show ((σ1 9).2.2.1 17 3) = ((σ 9).2.2.1 17 3) from congrFun (((sI_f eσ1) 9 17 rfl).2.2.1) _); have f4 := b14; have f5 := k18; have f6 := a9_17 hJ (j := 3) rfl; have g2 := rg32 p2; have g3 := rg32 p3; have z0 : (0 : Int32).toInt = 0 := (by decide); omega)) (show p2.toInt < ((σ1 9).2.2.1 17 3).toInt from (by have f0 := a9_17 hJ2 (j := 3) rfl; have f1 := congrArg Int32.toInt (show ((σ1 9).2.2.1 17 3) = ((σ 9).2.2.1 17 3) from congrFun (((sI_f eσ1) 9 17 rfl).2.2.1) _); have f2 := b15; have f3 := b16; have f4 := a9_17 hJ (j := 3) rfl; have f5 := b14; have f6 := k18; have g2 := rg32 p2; have z0 : (0 : Int32).toInt = 0 := (by decide); omega))) (cwV 2 hts (gd_V q1826 q1828 q88 q134 q1829) rfl rfl rfl (by decide +kernel) ⟨Nat.le_of_ble_eq_true rfl, Nat.le_of_ble_eq_true rfl⟩) (pv9 hP hK hD hC hS (va_recv hK hP (ci := 9) (q0 := 0) rfl rfl)) rfl rfl hl.1 rfl (lv_room (Nat.le_of_ble_eq_true rfl)) dX9_cracked_27 ⟨Nat.le_of_ble_eq_true rfl, Nat.le_of_ble_eq_true rfl⟩) hS (fun q _ h => up9 hS q h) (up9 hS) (fun r19 σ20 tS H1 locs ht hvm hw21 hB hz1 hk1 hS => ?_)
      have hP : va_P D clz (WD9 cy g σ20) H1 := by rw [← ht]; exact hB
      clear hB hz1 hk1 hvm ht
      generalize H1 = H at hP hS ⊢
      have hF22 : Fr (fL [23, 24, 25, 26, 27, 28, 29, 30, 31, 32, 33, 34, 35, 36, 37, 38, 39, 40, 41]) σ1 σ20 := hw21.1
      have hJ23 : J9 (σ20 9) := hw21.2.1
      have b24 : (0 : Int) ≤ r19.toInt ∧ r19.toInt ≤ 1 := hw21.2.2.1
      have T25 : DK0 (σ20 9) := DK0.mv T3 (hF22 9 17 rfl).2.2.1 (hF22 9 18 rfl).2.2.1 (hF22 9 19 rfl).2.2.1
      refine lv_if_ne (tgt := 35) hx hb dX9_cracked_30 (by decide) (fun c26 => ?_) (fun c26 => ?_)
      ·
        have k27 := neq32 c26
        refine lv_aload_n hx hb dX9_cracked_35 rfl (lv_at hl 0 rfl) ?_
        refine lv_iload_n hx hb dX9_cracked_36 rfl (lv_at hl 1 rfl) ?_
        refine lv_i2l (v := p1.toInt64) hx hb dX9_cracked_37 rfl ?_
        refine va_calli (va_runV (As := [.long p1.toInt64]) (rest := []) ⟨hx, hb, hml, hown, hts⟩ (m_X9_cracksBy l D cy g σ20 p1.toInt64 _ hJ23 ) (cwV 1 hts (gd_V q2084 q2086 q123 q134 q2087) rfl rfl rfl (by decide +kernel) ⟨Nat.le_of_ble_eq_true rfl, Nat.le_of_ble_eq_true rfl⟩) (pv9 hP hK hD hC hS (va_recv hK hP (ci := 9) (q0 := 0) rfl rfl)) rfl rfl hl.1 rfl (lv_room (Nat.le_of_ble_eq_true rfl)) dX9_cracked_38 ⟨Nat.le_of_ble_eq_true rfl, Nat.le_of_ble_eq_true rfl⟩) hS (fun q _ h => up9 hS q h) (up9 hS) (fun r28 σ29 tS H1 locs ht hvm hw30 hB hz1 hk1 hS => ?_)
        have hP : va_P D clz (WD9 cy g σ29) H1 := by rw [← ht]; exact hB
        clear hB hz1 hk1 hvm ht
        generalize H1 = H at hP hS ⊢
        have hF31 : Fr (fL [59]) σ20 σ29 := hw30.1
        have hJ32 : J9 (σ29 9) := hw30.2.1
        have T33 : DK0 (σ29 9) := DK0.mv T25 (hF31 9 17 rfl).2.2.1 (hF31 9 18 rfl).2.2.1 (hF31 9 19 rfl).2.2.1
        refine lv_pop hx hb dX9_cracked_41 rfl ?_
        refine lv_aload_n hx hb dX9_cracked_42 rfl (lv_at hl 0 rfl) ?_
        refine g9_59 (x := ((σ29 9).1 59)) hx hb hts hown hK hP (rfl) (hts _ q1419) dX9_cracked_43 ?_
        exact W.iret (v := ((σ29 9).1 59)) hx hb hr (fun tS ht hW => ⟨⟨((σ29 9).1 59), σ29, rfl, ⟨Fr.tr (Fr.tr (Fr.tr (Fr.rf) (sI_f eσ1) (fN_L rfl)) hF22 (fL_sub rfl)) hF31 (fL_sub rfl), hJ32, trivial⟩, (show va_P D clz (WD9 cy g σ29) tS.heap by rw [ht]; exact hP)⟩, hS.F ht⟩) hS.2.2 dX9_cracked_46
      ·
        have k34 := peq32 c26
        refine lv_iconst (v := (-1)) hx hb dX9_cracked_33 (by decide) ?_
        exact W.iret (v := (-1)) hx hb hr (fun tS ht hW => ⟨⟨(-1), σ20, rfl, ⟨Fr.tr (Fr.tr (Fr.rf) (sI_f eσ1) (fN_L rfl)) hF22 (fL_sub rfl), hJ23, trivial⟩, (show va_P D clz (WD9 cy g σ20) tS.heap by rw [ht]; exact hP)⟩, hS.F ht⟩) hS.2.2 dX9_cracked_34
    ·
      have k35 := peq32 c17
      refine lv_bipush (v := (-2)) hx hb dX9_cracked_21 (by decide) ?_
      exact W.iret (v := (-2)) hx hb hr (fun tS ht hW => ⟨⟨(-2), σ1, rfl, ⟨Fr.tr (Fr.rf) (sI_f eσ1) (fN_L rfl), hJ2, trivial⟩, (show va_P D clz (WD9 cy g σ1) tS.heap by rw [ht]; exact hP)⟩, hS.F ht⟩) hS.2.2 dX9_cracked_23

theorem q2100 : Cond.code yX9_clean cX9_clean 7 (some .int) ∈ lw_g := lw_gm (List.mem_of_getElem? (i := 2100) (by decide +kernel)) rfl
theorem q2101 : Cond.constantLong RX9 548 (20) ∈ lw_g := lw_gm (List.mem_of_getElem? (i := 2101) (by decide +kernel)) rfl
theorem dX9_clean_0 : decode cX9_clean 0 = .ok (.aload_n 0, 1) := by decide +kernel
theorem dX9_clean_1 : decode cX9_clean 1 = .ok (.iconst 0, 1) := by decide +kernel
theorem dX9_clean_2 : decode cX9_clean 2 = .ok (.putfield 129, 3) := by decide +kernel
theorem dX9_clean_5 : decode cX9_clean 5 = .ok (.iload_n 1, 1) := by decide +kernel
theorem dX9_clean_6 : decode cX9_clean 6 = .ok (.invokestatic 541, 3) := by decide +kernel
theorem dX9_clean_9 : decode cX9_clean 9 = .ok (.ifCond .eq 25, 3) := by decide +kernel
theorem dX9_clean_12 : decode cX9_clean 12 = .ok (.iload_n 2, 1) := by decide +kernel
theorem dX9_clean_13 : decode cX9_clean 13 = .ok (.i2l, 1) := by decide +kernel
theorem dX9_clean_14 : decode cX9_clean 14 = .ok (.lconst 1, 1) := by decide +kernel
theorem dX9_clean_15 : decode cX9_clean 15 = .ok (.ldc2_w 548, 3) := by decide +kernel
theorem dX9_clean_18 : decode cX9_clean 18 = .ok (.invokestatic 134, 3) := by decide +kernel
theorem dX9_clean_21 : decode cX9_clean 21 = .ok (.ifCond .eq 13, 3) := by decide +kernel
theorem dX9_clean_24 : decode cX9_clean 24 = .ok (.aload_n 0, 1) := by decide +kernel
theorem dX9_clean_25 : decode cX9_clean 25 = .ok (.iload_n 3, 1) := by decide +kernel
theorem dX9_clean_26 : decode cX9_clean 26 = .ok (.iload 4, 2) := by decide +kernel
theorem dX9_clean_28 : decode cX9_clean 28 = .ok (.invokevirtual 433, 3) := by decide +kernel
theorem dX9_clean_31 : decode cX9_clean 31 = .ok (.ifCond .ne 6, 3) := by decide +kernel
theorem dX9_clean_34 : decode cX9_clean 34 = .ok (.bipush (-2), 2) := by decide +kernel
theorem dX9_clean_36 : decode cX9_clean 36 = .ok (.ireturn, 1) := by decide +kernel
theorem dX9_clean_37 : decode cX9_clean 37 = .ok (.aload_n 0, 1) := by decide +kernel
theorem dX9_clean_38 : decode cX9_clean 38 = .ok (.iload_n 3, 1) := by decide +kernel
theorem dX9_clean_39 : decode cX9_clean 39 = .ok (.iload 4, 2) := by decide +kernel
theorem dX9_clean_41 : decode cX9_clean 41 = .ok (.invokevirtual 436, 3) := by decide +kernel
theorem dX9_clean_44 : decode cX9_clean 44 = .ok (.ifCond .ne 5, 3) := by decide +kernel
theorem dX9_clean_47 : decode cX9_clean 47 = .ok (.iconst (-1), 1) := by decide +kernel
theorem dX9_clean_48 : decode cX9_clean 48 = .ok (.ireturn, 1) := by decide +kernel
theorem dX9_clean_49 : decode cX9_clean 49 = .ok (.iconst 0, 1) := by decide +kernel
theorem dX9_clean_50 : decode cX9_clean 50 = .ok (.istore 5, 2) := by decide +kernel
theorem dX9_clean_52 : decode cX9_clean 52 = .ok (.iconst 0, 1) := by decide +kernel
theorem dX9_clean_53 : decode cX9_clean 53 = .ok (.istore 6, 2) := by decide +kernel
theorem dX9_clean_55 : decode cX9_clean 55 = .ok (.iload 6, 2) := by decide +kernel
theorem dX9_clean_57 : decode cX9_clean 57 = .ok (.iload_n 2, 1) := by decide +kernel
theorem dX9_clean_58 : decode cX9_clean 58 = .ok (.if_icmp .ge 32, 3) := by decide +kernel
theorem dX9_clean_61 : decode cX9_clean 61 = .ok (.iload 5, 2) := by decide +kernel
theorem dX9_clean_63 : decode cX9_clean 63 = .ok (.aload_n 0, 1) := by decide +kernel
theorem dX9_clean_64 : decode cX9_clean 64 = .ok (.iload_n 1, 1) := by decide +kernel
theorem dX9_clean_65 : decode cX9_clean 65 = .ok (.i2l, 1) := by decide +kernel
theorem dX9_clean_66 : decode cX9_clean 66 = .ok (.iload 6, 2) := by decide +kernel
theorem dX9_clean_68 : decode cX9_clean 68 = .ok (.i2l, 1) := by decide +kernel
theorem dX9_clean_69 : decode cX9_clean 69 = .ok (.ladd, 1) := by decide +kernel
theorem dX9_clean_70 : decode cX9_clean 70 = .ok (.invokevirtual 544, 3) := by decide +kernel
theorem dX9_clean_73 : decode cX9_clean 73 = .ok (.ifCond .ne 7, 3) := by decide +kernel
theorem dX9_clean_76 : decode cX9_clean 76 = .ok (.iconst 1, 1) := by decide +kernel
theorem dX9_clean_77 : decode cX9_clean 77 = .ok (.goto 4, 3) := by decide +kernel
theorem dX9_clean_80 : decode cX9_clean 80 = .ok (.iconst 0, 1) := by decide +kernel
theorem dX9_clean_81 : decode cX9_clean 81 = .ok (.iadd, 1) := by decide +kernel
theorem dX9_clean_82 : decode cX9_clean 82 = .ok (.istore 5, 2) := by decide +kernel
theorem dX9_clean_84 : decode cX9_clean 84 = .ok (.iinc 6 1, 3) := by decide +kernel
theorem dX9_clean_87 : decode cX9_clean 87 = .ok (.goto (-32), 3) := by decide +kernel
theorem dX9_clean_90 : decode cX9_clean 90 = .ok (.iload 5, 2) := by decide +kernel
theorem dX9_clean_92 : decode cX9_clean 92 = .ok (.ireturn, 1) := by decide +kernel
set_option maxHeartbeats 4000000 in
set_option maxRecDepth 100000 in
theorem m_X9_clean (l : Launch) (D : va_G) (cy : Nat → ClassId) (g : Nat → Nat) (σ : ST) (p1 : Int32) (p2 : Int32) (p3 : Int32) (p4 : Int32) (sz : Nat) (hJ : J9 (σ 9)) (kDK0 : DK0 (σ 9)) : Met l yX9_clean (ww yX9_clean cX9_clean 7 (some .int)) ({ frames := 8, cells := 0, slots := 0, locals := 512 }) (va_Pc [.ref (g 60), .int p1, .int p2, .int p3, .int p4] (pr9 D cy g σ sz)) (qi9 D cy g sz (fun r τ => Fr (fL [0, 23, 24, 25, 26, 27, 28, 29, 30, 31, 32, 33, 34, 35, 36, 37, 38, 39, 40, 41, 59]) σ τ ∧ J9 (τ 9) ∧ True)) 0 0 (A9 cy g sz) := by
  refine Met.ofW (cc := cX9_clean) (maxL := 7) (ret := (some .int)) (by decide) rfl ?_
  intro p e s m args below meth c s₁ B hml hv
  obtain ⟨rfl, hsz, hP, hK, hD0, hC⟩ := hv
  have hx := B.exec
  have hb := B.bytes
  have hr := B.returns
  have hts := hts_g (atoms_spec (ws := ww yX9_clean cX9_clean 7 (some .int)) B.pre)
  have hown : s.vm.findClass RX9 = some m.cls := findClass_of_methodNamed B.named
  have hlocks := B.notSynchronized
  clear B
  subst hsz
  have hD := fun τ => A9_D (sz := s.heap.size) hD0 τ
  clear hD0
  have hS : va_S (A9 cy g s.heap.size) s.heap s.heap [] := va_S.rf
  have hl := lv_entry ([.ref (g 60), .int p1, .int p2, .int p3, .int p4]) (n := 7) (Nat.le_of_ble_eq_true rfl)
  rw [lg_entry_eq]
  generalize (lg_sl ([.ref (g 60), .int p1, .int p2, .int p3, .int p4]) ++ List.replicate (7 - (lg_sl ([.ref (g 60), .int p1, .int p2, .int p3, .int p4])).length) Slot.unset).toArray = ls at hl ⊢
  have hl : lv_has ls 7 [(0, .ref (g 60)), (1, .int p1), (2, .int p2), (3, .int p3), (4, .int p4)] := hl
  refine lv_aload_n hx hb dX9_clean_0 rfl (lv_at hl 0 rfl) ?_
  refine lv_iconst (v := 0) hx hb dX9_clean_1 (by decide) ?_
  refine p9_0 hx hb hts hown hK hP hD hS (hts _ q1360) dX9_clean_2 (fun H locs σ1 eσ1 hP hS => ?_)
  have hJ2 : J9 (σ1 9) := hJ.I eσ1 (show JI9 0 (0 : Int32) from trivial)
  have T3 : DK0 (σ1 9) := DK0.mv kDK0 ((sI_f eσ1) 9 17 rfl).2.2.1 ((sI_f eσ1) 9 18 rfl).2.2.1 ((sI_f eσ1) 9 19 rfl).2.2.1
  refine lv_iload_n hx hb dX9_clean_5 rfl (lv_at hl 1 rfl) ?_
  refine va_calli (va_runS (As := [.int p1]) (rest := []) ⟨hx, hb, hml, hown, hts⟩ (m_X9_isSeed l D cy g σ1 p1 _ hJ2 ) (va_cwS 1 hts (gd_S q2080 q2081 q134 q2082) rfl rfl rfl (by decide +kernel) ⟨Nat.le_of_ble_eq_true rfl, Nat.le_of_ble_eq_true rfl⟩) (ps9 hP hK hD hC hS) rfl rfl hl.1 rfl (lv_room (Nat.le_of_ble_eq_true rfl)) dX9_clean_6 ⟨Nat.le_of_ble_eq_true rfl, Nat.le_of_ble_eq_true rfl⟩) hS (fun q _ h => up9 hS q h) (up9 hS) (fun r4 σ5 tS H1 locs ht hvm hw6 hB hz1 hk1 hS => ?_)
  have hP : va_P D clz (WD9 cy g σ5) H1 := by rw [← ht]; exact hB
  clear hB hz1 hk1 hvm ht
  generalize H1 = H at hP hS ⊢
  have hw6E : σ1 = σ5 := (hw6.1).symm
  subst hw6E
  have b7 : (0 : Int) ≤ r4.toInt ∧ r4.toInt ≤ 1 := hw6.2.1
  refine lv_if_eq (tgt := 34) hx hb dX9_clean_9 (by decide) (fun c8 => ?_) (fun c8 => ?_)
  ·
    have k9 := peq32 c8
    refine lv_bipush (v := (-2)) hx hb dX9_clean_34 (by decide) ?_
    exact W.iret (v := (-2)) hx hb hr (fun tS ht hW => ⟨⟨(-2), σ1, rfl, ⟨Fr.tr (Fr.rf) (sI_f eσ1) (fN_L rfl), hJ2, trivial⟩, (show va_P D clz (WD9 cy g σ1) tS.heap by rw [ht]; exact hP)⟩, hS.F ht⟩) hS.2.2 dX9_clean_36
  ·
    have k10 := neq32 c8
    refine lv_iload_n hx hb dX9_clean_12 rfl (lv_at hl 2 rfl) ?_
    refine lv_i2l (v := p2.toInt64) hx hb dX9_clean_13 rfl ?_
    refine lv_lconst (v := 1) hx hb dX9_clean_14 (by decide) ?_
    refine lv_ldc2 (v := 20) hx hb hown (hts _ q2101) dX9_clean_15 ?_
    refine va_calli (va_runS (As := [.long p2.toInt64, .long 1, .long 20]) (rest := []) ⟨hx, hb, hml, hown, hts⟩ (m_X9_in l D cy g σ1 p2.toInt64 (1) (20) _ hJ2 ) (va_cwS 3 hts (gd_S q1550 q1551 q134 q1552) rfl rfl rfl (by decide +kernel) ⟨Nat.le_of_ble_eq_true rfl, Nat.le_of_ble_eq_true rfl⟩) (ps9 hP hK hD hC hS) rfl rfl hl.1 rfl (lv_room (Nat.le_of_ble_eq_true rfl)) dX9_clean_18 ⟨Nat.le_of_ble_eq_true rfl, Nat.le_of_ble_eq_true rfl⟩) hS (fun q _ h => up9 hS q h) (up9 hS) (fun r11 σ12 tS H1 locs ht hvm hw13 hB hz1 hk1 hS => ?_)
    have hP : va_P D clz (WD9 cy g σ12) H1 := by rw [← ht]; exact hB
    clear hB hz1 hk1 hvm ht
    generalize H1 = H at hP hS ⊢
    have hw13E : σ1 = σ12 := (hw13.1).symm
    subst hw13E
    have b14 : (0 : Int) ≤ r11.toInt ∧ r11.toInt ≤ 1 := hw13.2.1
    have b15 : (r11.toInt = 1 ∧ (1 : Int64).toInt ≤ p2.toInt64.toInt ∧ p2.toInt64.toInt ≤ (20 : Int64).toInt) ∨ (r11.toInt = 0 ∧ ¬ ((1 : Int64).toInt ≤ p2.toInt64.toInt ∧ p2.toInt64.toInt ≤ (20 : Int64).toInt)) := hw13.2.2.1
    refine lv_if_eq (tgt := 34) hx hb dX9_clean_21 (by decide) (fun c16 => ?_) (fun c16 => ?_)
    ·
      have k17 := peq32 c16
      refine lv_bipush (v := (-2)) hx hb dX9_clean_34 (by decide) ?_
      exact W.iret (v := (-2)) hx hb hr (fun tS ht hW => ⟨⟨(-2), σ1, rfl, ⟨Fr.tr (Fr.rf) (sI_f eσ1) (fN_L rfl), hJ2, trivial⟩, (show va_P D clz (WD9 cy g σ1) tS.heap by rw [ht]; exact hP)⟩, hS.F ht⟩) hS.2.2 dX9_clean_36
    ·
      have k18 := neq32 c16
      refine lv_aload_n hx hb dX9_clean_24 rfl (lv_at hl 0 rfl) ?_
      refine lv_iload_n hx hb dX9_clean_25 rfl (lv_at hl 3 rfl) ?_
      refine lv_iload hx hb dX9_clean_26 (lv_at hl 4 rfl) ?_
      refine va_calli (va_runV (As := [.int p3, .int p4]) (rest := []) ⟨hx, hb, hml, hown, hts⟩ (m_X9_isPlaying l D cy g σ1 p3 p4 _ hJ2 ) (cwV 2 hts (gd_V q1822 q1824 q87 q134 q1825) rfl rfl rfl (by decide +kernel) ⟨Nat.le_of_ble_eq_true rfl, Nat.le_of_ble_eq_true rfl⟩) (pv9 hP hK hD hC hS (va_recv hK hP (ci := 9) (q0 := 0) rfl rfl)) rfl rfl hl.1 rfl (lv_room (Nat.le_of_ble_eq_true rfl)) dX9_clean_28 ⟨Nat.le_of_ble_eq_true rfl, Nat.le_of_ble_eq_true rfl⟩) hS (fun q _ h => up9 hS q h) (up9 hS) (fun r19 σ20 tS H1 locs ht hvm hw21 hB hz1 hk1 hS => ?_)
      have hP : va_P D clz (WD9 cy g σ20) H1 := by rw [← ht]; exact hB
      clear hB hz1 hk1 hvm ht
      generalize H1 = H at hP hS ⊢
      have hw21E : σ1 = σ20 := (hw21.1).symm
      subst hw21E
      have b22 : (0 : Int) ≤ r19.toInt ∧ r19.toInt ≤ 1 := hw21.2.1
      have b23 : (r19.toInt = 0) ∨ ((0 : Int) ≤ p3.toInt ∧ p3.toInt ≤ 8 ∧ (0 : Int) ≤ p4.toInt ∧ p4.toInt ≤ 2) := hw21.2.2.1
      have b24 : (r19.toInt = 0) ∨ (p3.toInt < ((σ1 9).2.2.1 17 3).toInt) := hw21.2.2.2.1
      refine lv_if_ne (tgt := 37) hx hb dX9_clean_31 (by decide) (fun c25 => ?_) (fun c25 => ?_)
      ·
        have k26 := neq32 c25
        refine lv_aload_n hx hb dX9_clean_37 rfl (lv_at hl 0 rfl) ?_
        refine lv_iload_n hx hb dX9_clean_38 rfl (lv_at hl 3 rfl) ?_
        refine lv_iload hx hb dX9_clean_39 (lv_at hl 4 rfl) ?_
        refine va_calli (va_runV (As := [.int p3, .int p4]) (rest := []) ⟨hx, hb, hml, hown, hts⟩ (m_X9_isBest l D cy g σ1 p3 p4 _ hJ2 T3 (show (0 : Int) ≤ p3.toInt ∧ p3.toInt ≤ 8 from (by have f0 := b23; have f1 := b24; have f2 := a9_17 hJ2 (j := 3) rfl; have f3 := congrArg Int32.toInt (show ((σ1 9).2.2.1 17 3) = ((σ 9).2.2.1 17 3) from congrFun (((sI_f eσ1) 9 17 rfl).2.2.1) _); have f4 := b22; have f5 := k26; have f6 := a9_17 hJ (j := 3) rfl; have g2 := rg32 p3; have z0 : (0 : Int32).toInt = 0 := (by decide); omega)) (show (0 : Int) ≤ p4.toInt ∧ p4.toInt ≤ 2 from (by have f0 := b23; have f1 := b24; have f2 := a9_17 hJ2 (j := 3) rfl; have f3 := congrArg Int32.toInt (show ((σ1 9).2.2.1 17 3) = ((σ 9).2.2.1 17 3) from congrFun (((sI_f eσ1) 9 17 rfl).2.2.1) _); have f4 := b22; have f5 := k26; have f6 := a9_17 hJ (j := 3) rfl; have g2 := rg32 p3; have g3 := rg32 p4; have z0 : (0 : Int32).toInt = 0 := (by decide); omega)) (show p3.toInt < ((σ1 9).2.2.1 17 3).toInt from (by have f0 := a9_17 hJ2 (j := 3) rfl; have f1 := congrArg Int32.toInt (show ((σ1 9).2.2.1 17 3) = ((σ 9).2.2.1 17 3) from congrFun (((sI_f eσ1) 9 17 rfl).2.2.1) _); have f2 := b23; have f3 := b24; have f4 := a9_17 hJ (j := 3) rfl; have f5 := b22; have f6 := k26; have g2 := rg32 p3; have z0 : (0 : Int32).toInt = 0 := (by decide); omega))) (cwV 2 hts (gd_V q1826 q1828 q88 q134 q1829) rfl rfl rfl (by decide +kernel) ⟨Nat.le_of_ble_eq_true rfl, Nat.le_of_ble_eq_true rfl⟩) (pv9 hP hK hD hC hS (va_recv hK hP (ci := 9) (q0 := 0) rfl rfl)) rfl rfl hl.1 rfl (lv_room (Nat.le_of_ble_eq_true rfl)) dX9_clean_41 ⟨Nat.le_of_ble_eq_true rfl, Nat.le_of_ble_eq_true rfl⟩) hS (fun q _ h => up9 hS q h) (up9 hS) (fun r27 σ28 tS H1 locs ht hvm hw29 hB hz1 hk1 hS => ?_)
        have hP : va_P D clz (WD9 cy g σ28) H1 := by rw [← ht]; exact hB
        clear hB hz1 hk1 hvm ht
        generalize H1 = H at hP hS ⊢
        have hF30 : Fr (fL [23, 24, 25, 26, 27, 28, 29, 30, 31, 32, 33, 34, 35, 36, 37, 38, 39, 40, 41]) σ1 σ28 := hw29.1
        have hJ31 : J9 (σ28 9) := hw29.2.1
        have b32 : (0 : Int) ≤ r27.toInt ∧ r27.toInt ≤ 1 := hw29.2.2.1
        have T33 : DK0 (σ28 9) := DK0.mv T3 (hF30 9 17 rfl).2.2.1 (hF30 9 18 rfl).2.2.1 (hF30 9 19 rfl).2.2.1
        refine lv_if_ne (tgt := 49) hx hb dX9_clean_44 (by decide) (fun c34 => ?_) (fun c34 => ?_)
        ·
          have k35 := neq32 c34
          refine lv_iconst (v := 0) hx hb dX9_clean_49 (by decide) ?_
          refine lv_istore (lv' := [(5, .int 0), (0, .ref (g 60)), (1, .int p1), (2, .int p2), (3, .int p3), (4, .int p4)]) hx hb dX9_clean_50 hl (by decide) rfl (fun ls hl => ?_)
          refine lv_iconst (v := 0) hx hb dX9_clean_52 (by decide) ?_
          refine lv_istore (lv' := [(6, .int 0), (5, .int 0), (0, .ref (g 60)), (1, .int p1), (2, .int p2), (3, .int p3), (4, .int p4)]) hx hb dX9_clean_53 hl (by decide) rfl (fun ls hl => ?_)
          refine loop9 7 55 (fun x : LZ => [(6, .int (x.2.1 0)), (5, .int (x.2.1 1)), (0, .ref (g 60)), (1, .int p1), (2, .int p2), (3, .int p3), (4, .int p4)]) (fun x : LZ => (Fr (fL [59]) σ28 x.1) ∧ (J9 (x.1 9)) ∧ ((0 : Int) ≤ (x.2.1 0).toInt ∧ (x.2.1 0).toInt ≤ 20) ∧ (DK0 (x.1 9)) ∧ True) (fun x : LZ => ((21 : Int) - (x.2.1 0).toInt).toNat) ?_ (σ28, lf [0, 0], lg []) ⟨Fr.rf, hJ31, (show (0 : Int) ≤ (0 : Int32).toInt ∧ (0 : Int32).toInt ≤ 20 from (by have z0 : (0 : Int32).toInt = 0 := (by decide); omega)), (show DK0 (σ28 9) from T33), trivial⟩ _ _ _ hP hS (lv_sub hl [0, 1, 2, 3, 4, 5, 6] rfl)
          intro y38 hI37 nl36 H locs ls hP hS hl
          obtain ⟨σ39, eσ39⟩ : ∃ z, z = y38.1 := ⟨_, rfl⟩
          rw [← eσ39] at hP hI37
          have hF40 : Fr (fL [59]) σ28 σ39 := hI37.1
          have hJ41 : J9 (σ39 9) := hI37.2.1
          have b42 : (0 : Int) ≤ (y38.2.1 0).toInt ∧ (y38.2.1 0).toInt ≤ 20 := hI37.2.2.1
          have b43 : DK0 (σ39 9) := hI37.2.2.2.1
          have hl : lv_has ls 7 [(6, .int (y38.2.1 0)), (5, .int (y38.2.1 1)), (0, .ref (g 60)), (1, .int p1), (2, .int p2), (3, .int p3), (4, .int p4)] := hl
          refine lv_iload hx hb dX9_clean_55 (lv_at hl 0 rfl) ?_
          refine lv_iload_n hx hb dX9_clean_57 rfl (lv_at hl 4 rfl) ?_
          refine lv_icmp_ge (tgt := 90) hx hb dX9_clean_58 (by decide) (fun c44 => ?_) (fun c44 => ?_)
          ·
            have k45 := ple32 c44
            refine lv_iload hx hb dX9_clean_90 (lv_at hl 1 rfl) ?_
            exact W.iret (v := (y38.2.1 1)) hx hb hr (fun tS ht hW => ⟨⟨(y38.2.1 1), σ39, rfl, ⟨Fr.tr (Fr.tr (Fr.tr (Fr.rf) (sI_f eσ1) (fN_L rfl)) hF30 (fL_sub rfl)) hF40 (fL_sub rfl), hJ41, trivial⟩, (show va_P D clz (WD9 cy g σ39) tS.heap by rw [ht]; exact hP)⟩, hS.F ht⟩) hS.2.2 dX9_clean_92
          ·
            have k46 := nle32 c44
            refine lv_iload hx hb dX9_clean_61 (lv_at hl 1 rfl) ?_
            refine lv_aload_n hx hb dX9_clean_63 rfl (lv_at hl 2 rfl) ?_
            refine lv_iload_n hx hb dX9_clean_64 rfl (lv_at hl 3 rfl) ?_
            refine lv_i2l (v := p1.toInt64) hx hb dX9_clean_65 rfl ?_
            refine lv_iload hx hb dX9_clean_66 (lv_at hl 0 rfl) ?_
            refine lv_i2l (v := (y38.2.1 0).toInt64) hx hb dX9_clean_68 rfl ?_
            refine lv_ladd hx hb dX9_clean_69 ?_
            refine lv_topl (fun x47 ex47 => ?_)
            have t48 := addL ex47 (by have f0 := t64 (a := p1); have f1 := t64 (a := (y38.2.1 0)); have f2 := b42; have f3 := k46; have f4 := rg32 p1; have f5 := rg32 (y38.2.1 0); have f6 := t64 (a := p2); have f7 := rg32 p2; have f8 := b15; have f9 := b14; have f10 := k18; have g1 := rg32 p1; have z0 : (0 : Int32).toInt = 0 := (by decide); have zl1 : (1 : Int64).toInt = 1 := (by decide); have zl20 : (20 : Int64).toInt = 20 := (by decide); have w15 := t64 (a := (y38.2.1 0)); have w16 := t64 (a := p1); have w17 := t64 (a := p2); omega)
            refine va_calli (va_runV (As := [.long x47]) (rest := [.int (y38.2.1 1)]) ⟨hx, hb, hml, hown, hts⟩ (m_X9_cracksBy l D cy g σ39 x47 _ hJ41 ) (cwV 1 hts (gd_V q2084 q2086 q123 q134 q2087) rfl rfl rfl (by decide +kernel) ⟨Nat.le_of_ble_eq_true rfl, Nat.le_of_ble_eq_true rfl⟩) (pv9 hP hK hD hC hS (va_recv hK hP (ci := 9) (q0 := 0) rfl rfl)) rfl rfl hl.1 rfl (lv_room (Nat.le_of_ble_eq_true rfl)) dX9_clean_70 ⟨Nat.le_of_ble_eq_true rfl, Nat.le_of_ble_eq_true rfl⟩) hS (fun q _ h => up9 hS q h) (up9 hS) (fun r49 σ50 tS H1 locs ht hvm hw51 hB hz1 hk1 hS => ?_)
            have hP : va_P D clz (WD9 cy g σ50) H1 := by rw [← ht]; exact hB
            clear hB hz1 hk1 hvm ht
            generalize H1 = H at hP hS ⊢
            have hF52 : Fr (fL [59]) σ39 σ50 := hw51.1
            have hJ53 : J9 (σ50 9) := hw51.2.1
            have T54 : DK0 (σ50 9) := DK0.mv b43 (hF52 9 17 rfl).2.2.1 (hF52 9 18 rfl).2.2.1 (hF52 9 19 rfl).2.2.1
            refine cut9 (D := D) (cy := cy) (g := g) (A := A9 cy g s.heap.size) (H0 := s.heap) 7 81 (fun x : LZ => [(6, .int (y38.2.1 0)), (5, .int (y38.2.1 1)), (0, .ref (g 60)), (1, .int p1), (2, .int p2), (3, .int p3), (4, .int p4)]) (fun x : LZ => [.int (x.2.1 0), .int (y38.2.1 1)]) (fun x : LZ => (x.1 = σ50) ∧ ((0 : Int) ≤ (x.2.1 0).toInt ∧ (x.2.1 0).toInt ≤ 1) ∧ (DK0 (σ50 9)) ∧ True) ?_ ?_
            ·
              intro y57 hI56 H locs ls hP hS hl
              rw [show y57.1 = σ50 from hI56.1] at hP
              have b58 : (0 : Int) ≤ (y57.2.1 0).toInt ∧ (y57.2.1 0).toInt ≤ 1 := hI56.2.1
              have b59 : DK0 (σ50 9) := hI56.2.2.1
              have hl : lv_has ls 7 [(6, .int (y38.2.1 0)), (5, .int (y38.2.1 1)), (0, .ref (g 60)), (1, .int p1), (2, .int p2), (3, .int p3), (4, .int p4)] := hl
              refine W.eq (g2 := F0 m 81 ls [.int (y57.2.1 0), .int (y38.2.1 1)]) rfl ?_
              refine lv_iadd hx hb dX9_clean_81 ?_
              refine lv_topi (fun x60 ex60 => ?_)
              refine lv_istore (lv' := [(5, .int x60), (6, .int (y38.2.1 0)), (0, .ref (g 60)), (1, .int p1), (2, .int p2), (3, .int p3), (4, .int p4)]) hx hb dX9_clean_82 hl (by decide) rfl (fun ls hl => ?_)
              obtain ⟨x61, ex61⟩ : ∃ y : Int32, y = (y38.2.1 0) + 1 := ⟨_, rfl⟩
              have t62 := addO ex61 (by have f0 := b42; have f1 := k46; have f2 := t64 (a := (y38.2.1 0)); have f3 := rg32 (y38.2.1 0); have f4 := t64 (a := p2); have f5 := rg32 p2; have f6 := t48; have f7 := b15; have f8 := t64 (a := p1); have f9 := b14; have f10 := k18; have f11 := rg32 p1; have g0 := rg32 (y38.2.1 0); have g2 := rg32 p1; have z0 : (0 : Int32).toInt = 0 := (by decide); have z1 : (1 : Int32).toInt = 1 := (by decide); have zl1 : (1 : Int64).toInt = 1 := (by decide); have zl20 : (20 : Int64).toInt = 20 := (by decide); have w18 := t64 (a := (y38.2.1 0)); have w19 := t64 (a := p1); have w20 := t64 (a := p2); omega)
              refine lv_iinc (v := x61) (lv' := [(6, .int x61), (5, .int x60), (0, .ref (g 60)), (1, .int p1), (2, .int p2), (3, .int p3), (4, .int p4)]) hx hb dX9_clean_84 hl (k := 1) rfl (by rw [ex61]; rfl) (by decide) rfl (fun ls hl => ?_)
              refine lv_goto (tgt := 55) hx hb dX9_clean_87 (by decide) ?_
              have t63 : ((21 : Int) - x61.toInt).toNat < ((21 : Int) - (y38.2.1 0).toInt).toNat := (by have f0 := b42; have f1 := k46; have f2 := t64 (a := (y38.2.1 0)); have f3 := rg32 (y38.2.1 0); have f4 := t62; have f5 := t64 (a := p2); have f6 := rg32 p2; have f7 := t48; have f8 := b15; have f9 := t64 (a := p1); have f10 := b14; have f11 := k18; have f12 := rg32 p1; have g0 := rg32 (y38.2.1 0); have g2 := rg32 p1; have g5 := rg32 x61; have z0 : (0 : Int32).toInt = 0 := (by decide); have z1 : (1 : Int32).toInt = 1 := (by decide); have zl1 : (1 : Int64).toInt = 1 := (by decide); have zl20 : (20 : Int64).toInt = 20 := (by decide); have w20 := t64 (a := (y38.2.1 0)); have w21 := t64 (a := p1); have w22 := t64 (a := p2); omega)
              exact nl36 (σ50, lf [x61, x60], lg []) ⟨Fr.tr (Fr.tr (Fr.rf) hF40 (fL_sub rfl)) hF52 (fL_sub rfl), hJ53, (show (0 : Int) ≤ (x61 : Int32).toInt ∧ (x61 : Int32).toInt ≤ 20 from (by have f0 := t62; have f1 := b42; have f2 := k46; have f3 := t64 (a := (y38.2.1 0)); have f4 := rg32 (y38.2.1 0); have f5 := t64 (a := p2); have f6 := rg32 p2; have f7 := t48; have f8 := b15; have f9 := t64 (a := p1); have f10 := b14; have f11 := k18; have f12 := rg32 p1; have g1 := rg32 p1; have g4 := rg32 x61; have z0 : (0 : Int32).toInt = 0 := (by decide); have z1 : (1 : Int32).toInt = 1 := (by decide); have zl1 : (1 : Int64).toInt = 1 := (by decide); have zl20 : (20 : Int64).toInt = 20 := (by decide); have w19 := t64 (a := (y38.2.1 0)); have w20 := t64 (a := p1); have w21 := t64 (a := p2); omega)), (show DK0 (σ50 9) from b59), trivial⟩ (show ((21 : Int) - x61.toInt).toNat < _ from by first | exact t63 | (rw [← eσ39]; exact t63)) _ _ _ hP hS (lv_sub hl [0, 1, 2, 3, 4, 5, 6] rfl)
            ·
              intro nj55
              refine lv_if_ne (tgt := 80) hx hb dX9_clean_73 (by decide) (fun c64 => ?_) (fun c64 => ?_)
              ·
                have k65 := neq32 c64
                refine lv_iconst (v := 0) hx hb dX9_clean_80 (by decide) ?_
                exact nj55 (σ50, lf [0], lg []) ⟨rfl, (show (0 : Int) ≤ (0 : Int32).toInt ∧ (0 : Int32).toInt ≤ 1 from (by have z0 : (0 : Int32).toInt = 0 := (by decide); omega)), (show DK0 (σ50 9) from T54), trivial⟩ _ _ _ hP hS (lv_sub hl [0, 1, 2, 3, 4, 5, 6] rfl)
              ·
                have k66 := peq32 c64
                refine lv_iconst (v := 1) hx hb dX9_clean_76 (by decide) ?_
                refine lv_goto (tgt := 81) hx hb dX9_clean_77 (by decide) ?_
                exact nj55 (σ50, lf [1], lg []) ⟨rfl, (show (0 : Int) ≤ (1 : Int32).toInt ∧ (1 : Int32).toInt ≤ 1 from (by have z1 : (1 : Int32).toInt = 1 := (by decide); omega)), (show DK0 (σ50 9) from T54), trivial⟩ _ _ _ hP hS (lv_sub hl [0, 1, 2, 3, 4, 5, 6] rfl)
        ·
          have k67 := peq32 c34
          refine lv_iconst (v := (-1)) hx hb dX9_clean_47 (by decide) ?_
          exact W.iret (v := (-1)) hx hb hr (fun tS ht hW => ⟨⟨(-1), σ28, rfl, ⟨Fr.tr (Fr.tr (Fr.rf) (sI_f eσ1) (fN_L rfl)) hF30 (fL_sub rfl), hJ31, trivial⟩, (show va_P D clz (WD9 cy g σ28) tS.heap by rw [ht]; exact hP)⟩, hS.F ht⟩) hS.2.2 dX9_clean_48
      ·
        have k68 := peq32 c25
        refine lv_bipush (v := (-2)) hx hb dX9_clean_34 (by decide) ?_
        exact W.iret (v := (-2)) hx hb hr (fun tS ht hW => ⟨⟨(-2), σ1, rfl, ⟨Fr.tr (Fr.rf) (sI_f eσ1) (fN_L rfl), hJ2, trivial⟩, (show va_P D clz (WD9 cy g σ1) tS.heap by rw [ht]; exact hP)⟩, hS.F ht⟩) hS.2.2 dX9_clean_36

theorem q2127 : Cond.code yX9_beats cX9_beats 2 (some .int) ∈ lw_g := lw_gm (List.mem_of_getElem? (i := 2127) (by decide +kernel)) rfl
theorem dX9_beats_0 : decode cX9_beats 0 = .ok (.aload_n 0, 1) := by decide +kernel
theorem dX9_beats_1 : decode cX9_beats 1 = .ok (.iconst 0, 1) := by decide +kernel
theorem dX9_beats_2 : decode cX9_beats 2 = .ok (.putfield 129, 3) := by decide +kernel
theorem dX9_beats_5 : decode cX9_beats 5 = .ok (.aload_n 0, 1) := by decide +kernel
theorem dX9_beats_6 : decode cX9_beats 6 = .ok (.iload_n 1, 1) := by decide +kernel
theorem dX9_beats_7 : decode cX9_beats 7 = .ok (.invokevirtual 303, 3) := by decide +kernel
theorem dX9_beats_10 : decode cX9_beats 10 = .ok (.ifCond .eq 17, 3) := by decide +kernel
theorem dX9_beats_13 : decode cX9_beats 13 = .ok (.aload_n 0, 1) := by decide +kernel
theorem dX9_beats_14 : decode cX9_beats 14 = .ok (.iload_n 1, 1) := by decide +kernel
theorem dX9_beats_15 : decode cX9_beats 15 = .ok (.aload_n 0, 1) := by decide +kernel
theorem dX9_beats_16 : decode cX9_beats 16 = .ok (.getfield 43, 3) := by decide +kernel
theorem dX9_beats_19 : decode cX9_beats 19 = .ok (.iload_n 1, 1) := by decide +kernel
theorem dX9_beats_20 : decode cX9_beats 20 = .ok (.iaload, 1) := by decide +kernel
theorem dX9_beats_21 : decode cX9_beats 21 = .ok (.invokevirtual 326, 3) := by decide +kernel
theorem dX9_beats_24 : decode cX9_beats 24 = .ok (.goto 5, 3) := by decide +kernel
theorem dX9_beats_27 : decode cX9_beats 27 = .ok (.bipush (-2), 2) := by decide +kernel
theorem dX9_beats_29 : decode cX9_beats 29 = .ok (.ireturn, 1) := by decide +kernel
set_option maxHeartbeats 4000000 in
set_option maxRecDepth 100000 in
theorem m_X9_beats (l : Launch) (D : va_G) (cy : Nat → ClassId) (g : Nat → Nat) (σ : ST) (p1 : Int32) (sz : Nat) (hJ : J9 (σ 9))  : Met l yX9_beats (ww yX9_beats cX9_beats 2 (some .int)) ({ frames := 3, cells := 0, slots := 0, locals := 192 }) (va_Pc [.ref (g 60), .int p1] (pr9 D cy g σ sz)) (qi9 D cy g sz (fun r τ => Fr (fL [0]) σ τ ∧ J9 (τ 9) ∧ True)) 0 0 (A9 cy g sz) := by
  refine Met.ofW (cc := cX9_beats) (maxL := 2) (ret := (some .int)) (by decide) rfl ?_
  intro p e s m args below meth c s₁ B hml hv
  obtain ⟨rfl, hsz, hP, hK, hD0, hC⟩ := hv
  have hx := B.exec
  have hb := B.bytes
  have hr := B.returns
  have hts := hts_g (atoms_spec (ws := ww yX9_beats cX9_beats 2 (some .int)) B.pre)
  have hown : s.vm.findClass RX9 = some m.cls := findClass_of_methodNamed B.named
  have hlocks := B.notSynchronized
  clear B
  subst hsz
  have hD := fun τ => A9_D (sz := s.heap.size) hD0 τ
  clear hD0
  have hS : va_S (A9 cy g s.heap.size) s.heap s.heap [] := va_S.rf
  have hl := lv_entry ([.ref (g 60), .int p1]) (n := 2) (Nat.le_of_ble_eq_true rfl)
  rw [lg_entry_eq]
  generalize (lg_sl ([.ref (g 60), .int p1]) ++ List.replicate (2 - (lg_sl ([.ref (g 60), .int p1])).length) Slot.unset).toArray = ls at hl ⊢
  have hl : lv_has ls 2 [(0, .ref (g 60)), (1, .int p1)] := hl
  refine lv_aload_n hx hb dX9_beats_0 rfl (lv_at hl 0 rfl) ?_
  refine lv_iconst (v := 0) hx hb dX9_beats_1 (by decide) ?_
  refine p9_0 hx hb hts hown hK hP hD hS (hts _ q1360) dX9_beats_2 (fun H locs σ1 eσ1 hP hS => ?_)
  have hJ2 : J9 (σ1 9) := hJ.I eσ1 (show JI9 0 (0 : Int32) from trivial)
  refine lv_aload_n hx hb dX9_beats_5 rfl (lv_at hl 0 rfl) ?_
  refine lv_iload_n hx hb dX9_beats_6 rfl (lv_at hl 1 rfl) ?_
  refine va_calli (va_runV (As := [.int p1]) (rest := []) ⟨hx, hb, hml, hown, hts⟩ (m_X9_isPart l D cy g σ1 p1 _ hJ2 ) (cwV 1 hts (gd_V q1722 q1724 q74 q134 q1725) rfl rfl rfl (by decide +kernel) ⟨Nat.le_of_ble_eq_true rfl, Nat.le_of_ble_eq_true rfl⟩) (pv9 hP hK hD hC hS (va_recv hK hP (ci := 9) (q0 := 0) rfl rfl)) rfl rfl hl.1 rfl (lv_room (Nat.le_of_ble_eq_true rfl)) dX9_beats_7 ⟨Nat.le_of_ble_eq_true rfl, Nat.le_of_ble_eq_true rfl⟩) hS (fun q _ h => up9 hS q h) (up9 hS) (fun r3 σ4 tS H1 locs ht hvm hw5 hB hz1 hk1 hS => ?_)
  have hP : va_P D clz (WD9 cy g σ4) H1 := by rw [← ht]; exact hB
  clear hB hz1 hk1 hvm ht
  generalize H1 = H at hP hS ⊢
  have hw5E : σ1 = σ4 := (hw5.1).symm
  subst hw5E
  have b6 : (0 : Int) ≤ r3.toInt ∧ r3.toInt ≤ 1 := hw5.2.1
  have b7 : (r3.toInt = 0) ∨ ((0 : Int) ≤ p1.toInt ∧ p1.toInt ≤ 2) := hw5.2.2.1
  have b8 : (r3.toInt = 0) ∨ (0 ≤ p1.toInt ∧ p1.toInt < ((σ1 9).2.2.1 17 4).toInt) := hw5.2.2.2.1
  refine lv_if_eq (tgt := 27) hx hb dX9_beats_10 (by decide) (fun c9 => ?_) (fun c9 => ?_)
  ·
    have k10 := peq32 c9
    refine lv_bipush (v := (-2)) hx hb dX9_beats_27 (by decide) ?_
    exact W.iret (v := (-2)) hx hb hr (fun tS ht hW => ⟨⟨(-2), σ1, rfl, ⟨Fr.tr (Fr.rf) (sI_f eσ1) (fN_L rfl), hJ2, trivial⟩, (show va_P D clz (WD9 cy g σ1) tS.heap by rw [ht]; exact hP)⟩, hS.F ht⟩) hS.2.2 dX9_beats_29
  ·
    have k11 := neq32 c9
    refine lv_aload_n hx hb dX9_beats_13 rfl (lv_at hl 0 rfl) ?_
    refine lv_iload_n hx hb dX9_beats_14 rfl (lv_at hl 1 rfl) ?_
    refine lv_aload_n hx hb dX9_beats_15 rfl (lv_at hl 0 rfl) ?_
    refine g9_20 hx hb hts hown hK hP (hts _ q1380) dX9_beats_16 ?_
    refine lv_iload_n hx hb dX9_beats_19 rfl (lv_at hl 1 rfl) ?_
    obtain ⟨x12, ex12⟩ : ∃ z, (σ 9).2.2.1 20 p1.toInt.toNat = z := ⟨_, rfl⟩
    refine l9_20 (x := x12) hx hb hK hP (vpo (by have f0 := b7; have f1 := b8; have f2 := a9_17 hJ2 (j := 4) rfl; have f3 := congrArg Int32.toInt (show ((σ1 9).2.2.1 17 4) = ((σ 9).2.2.1 17 4) from congrFun (((sI_f eσ1) 9 17 rfl).2.2.1) _); have f4 := b6; have f5 := k11; have f6 := a9_17 hJ (j := 4) rfl; have g2 := rg32 p1; have z0 : (0 : Int32).toInt = 0 := (by decide); omega)) ((congrFun (((sI_f eσ1) 9 20 rfl).2.2.1) _).trans ex12) dX9_beats_20 ?_
    have t13 := a9_20 hJ ex12
    refine va_calli (va_runV (As := [.int p1, .int x12]) (rest := []) ⟨hx, hb, hml, hown, hts⟩ (m_X9_beginOf l D cy g σ1 p1 x12 _ hJ2 (show (0 : Int) ≤ p1.toInt ∧ p1.toInt ≤ 2 from (by have f0 := b7; have f1 := b8; have f2 := t13; have f3 := a9_17 hJ2 (j := 4) rfl; have f4 := congrArg Int32.toInt (show ((σ1 9).2.2.1 17 4) = ((σ 9).2.2.1 17 4) from congrFun (((sI_f eσ1) 9 17 rfl).2.2.1) _); have f5 := b6; have f6 := k11; have f7 := a9_17 hJ (j := 4) rfl; have g2 := rg32 p1; have z0 : (0 : Int32).toInt = 0 := (by decide); omega)) (show (0 : Int) ≤ x12.toInt ∧ x12.toInt ≤ 16 from (by have f0 := b7; have f1 := b8; have f2 := t13; have f3 := a9_17 hJ2 (j := 4) rfl; have f4 := congrArg Int32.toInt (show ((σ1 9).2.2.1 17 4) = ((σ 9).2.2.1 17 4) from congrFun (((sI_f eσ1) 9 17 rfl).2.2.1) _); have f5 := b6; have f6 := k11; have f7 := a9_17 hJ (j := 4) rfl; have g2 := rg32 p1; have g3 := rg32 x12; have z0 : (0 : Int32).toInt = 0 := (by decide); omega))) (cwV 2 hts (gd_V q1731 q1733 q76 q134 q1734) rfl rfl rfl (by decide +kernel) ⟨Nat.le_of_ble_eq_true rfl, Nat.le_of_ble_eq_true rfl⟩) (pv9 hP hK hD hC hS (va_recv hK hP (ci := 9) (q0 := 0) rfl rfl)) rfl rfl hl.1 rfl (lv_room (Nat.le_of_ble_eq_true rfl)) dX9_beats_21 ⟨Nat.le_of_ble_eq_true rfl, Nat.le_of_ble_eq_true rfl⟩) hS (fun q _ h => up9 hS q h) (up9 hS) (fun r14 σ15 tS H1 locs ht hvm hw16 hB hz1 hk1 hS => ?_)
    have hP : va_P D clz (WD9 cy g σ15) H1 := by rw [← ht]; exact hB
    clear hB hz1 hk1 hvm ht
    generalize H1 = H at hP hS ⊢
    have hw16E : σ1 = σ15 := (hw16.1).symm
    subst hw16E
    refine lv_goto (tgt := 29) hx hb dX9_beats_24 (by decide) ?_
    exact W.iret (v := r14) hx hb hr (fun tS ht hW => ⟨⟨r14, σ1, rfl, ⟨Fr.tr (Fr.rf) (sI_f eσ1) (fN_L rfl), hJ2, trivial⟩, (show va_P D clz (WD9 cy g σ1) tS.heap by rw [ht]; exact hP)⟩, hS.F ht⟩) hS.2.2 dX9_beats_29

theorem q2131 : Cond.code yX9_phrase cX9_phrase 8 (some .int) ∈ lw_g := lw_gm (List.mem_of_getElem? (i := 2131) (by decide +kernel)) rfl
theorem dX9_phrase_0 : decode cX9_phrase 0 = .ok (.aload_n 0, 1) := by decide +kernel
theorem dX9_phrase_1 : decode cX9_phrase 1 = .ok (.iconst 0, 1) := by decide +kernel
theorem dX9_phrase_2 : decode cX9_phrase 2 = .ok (.putfield 129, 3) := by decide +kernel
theorem dX9_phrase_5 : decode cX9_phrase 5 = .ok (.aload_n 0, 1) := by decide +kernel
theorem dX9_phrase_6 : decode cX9_phrase 6 = .ok (.iload_n 1, 1) := by decide +kernel
theorem dX9_phrase_7 : decode cX9_phrase 7 = .ok (.invokevirtual 303, 3) := by decide +kernel
theorem dX9_phrase_10 : decode cX9_phrase 10 = .ok (.ifCond .eq 13, 3) := by decide +kernel
theorem dX9_phrase_13 : decode cX9_phrase 13 = .ok (.iload_n 2, 1) := by decide +kernel
theorem dX9_phrase_14 : decode cX9_phrase 14 = .ok (.i2l, 1) := by decide +kernel
theorem dX9_phrase_15 : decode cX9_phrase 15 = .ok (.lconst 0, 1) := by decide +kernel
theorem dX9_phrase_16 : decode cX9_phrase 16 = .ok (.lconst 1, 1) := by decide +kernel
theorem dX9_phrase_17 : decode cX9_phrase 17 = .ok (.invokestatic 134, 3) := by decide +kernel
theorem dX9_phrase_20 : decode cX9_phrase 20 = .ok (.ifCond .ne 6, 3) := by decide +kernel
theorem dX9_phrase_23 : decode cX9_phrase 23 = .ok (.bipush (-2), 2) := by decide +kernel
theorem dX9_phrase_25 : decode cX9_phrase 25 = .ok (.ireturn, 1) := by decide +kernel
theorem dX9_phrase_26 : decode cX9_phrase 26 = .ok (.iconst 0, 1) := by decide +kernel
theorem dX9_phrase_27 : decode cX9_phrase 27 = .ok (.istore_n 3, 1) := by decide +kernel
theorem dX9_phrase_28 : decode cX9_phrase 28 = .ok (.iconst (-1), 1) := by decide +kernel
theorem dX9_phrase_29 : decode cX9_phrase 29 = .ok (.istore 4, 2) := by decide +kernel
theorem dX9_phrase_31 : decode cX9_phrase 31 = .ok (.iconst 0, 1) := by decide +kernel
theorem dX9_phrase_32 : decode cX9_phrase 32 = .ok (.istore 5, 2) := by decide +kernel
theorem dX9_phrase_34 : decode cX9_phrase 34 = .ok (.iconst 0, 1) := by decide +kernel
theorem dX9_phrase_35 : decode cX9_phrase 35 = .ok (.istore 6, 2) := by decide +kernel
theorem dX9_phrase_37 : decode cX9_phrase 37 = .ok (.iconst 0, 1) := by decide +kernel
theorem dX9_phrase_38 : decode cX9_phrase 38 = .ok (.istore 7, 2) := by decide +kernel
theorem dX9_phrase_40 : decode cX9_phrase 40 = .ok (.iload 7, 2) := by decide +kernel
theorem dX9_phrase_42 : decode cX9_phrase 42 = .ok (.aload_n 0, 1) := by decide +kernel
theorem dX9_phrase_43 : decode cX9_phrase 43 = .ok (.getfield 43, 3) := by decide +kernel
theorem dX9_phrase_46 : decode cX9_phrase 46 = .ok (.iload_n 1, 1) := by decide +kernel
theorem dX9_phrase_47 : decode cX9_phrase 47 = .ok (.iaload, 1) := by decide +kernel
theorem dX9_phrase_48 : decode cX9_phrase 48 = .ok (.if_icmp .ge 60, 3) := by decide +kernel
theorem dX9_phrase_51 : decode cX9_phrase 51 = .ok (.aload_n 0, 1) := by decide +kernel
theorem dX9_phrase_52 : decode cX9_phrase 52 = .ok (.iload_n 1, 1) := by decide +kernel
theorem dX9_phrase_53 : decode cX9_phrase 53 = .ok (.iload 7, 2) := by decide +kernel
theorem dX9_phrase_55 : decode cX9_phrase 55 = .ok (.invokevirtual 390, 3) := by decide +kernel
theorem dX9_phrase_58 : decode cX9_phrase 58 = .ok (.ifCond .eq 15, 3) := by decide +kernel
theorem dX9_phrase_61 : decode cX9_phrase 61 = .ok (.iconst 0, 1) := by decide +kernel
theorem dX9_phrase_62 : decode cX9_phrase 62 = .ok (.istore 5, 2) := by decide +kernel
theorem dX9_phrase_64 : decode cX9_phrase 64 = .ok (.iload 7, 2) := by decide +kernel
theorem dX9_phrase_66 : decode cX9_phrase 66 = .ok (.iconst 1, 1) := by decide +kernel
theorem dX9_phrase_67 : decode cX9_phrase 67 = .ok (.iadd, 1) := by decide +kernel
theorem dX9_phrase_68 : decode cX9_phrase 68 = .ok (.istore 6, 2) := by decide +kernel
theorem dX9_phrase_70 : decode cX9_phrase 70 = .ok (.goto 32, 3) := by decide +kernel
theorem dX9_phrase_73 : decode cX9_phrase 73 = .ok (.iload 5, 2) := by decide +kernel
theorem dX9_phrase_75 : decode cX9_phrase 75 = .ok (.aload_n 0, 1) := by decide +kernel
theorem dX9_phrase_76 : decode cX9_phrase 76 = .ok (.iload_n 1, 1) := by decide +kernel
theorem dX9_phrase_77 : decode cX9_phrase 77 = .ok (.iload 7, 2) := by decide +kernel
theorem dX9_phrase_79 : decode cX9_phrase 79 = .ok (.iconst 1, 1) := by decide +kernel
theorem dX9_phrase_80 : decode cX9_phrase 80 = .ok (.invokevirtual 308, 3) := by decide +kernel
theorem dX9_phrase_83 : decode cX9_phrase 83 = .ok (.iadd, 1) := by decide +kernel
theorem dX9_phrase_84 : decode cX9_phrase 84 = .ok (.istore 5, 2) := by decide +kernel
theorem dX9_phrase_86 : decode cX9_phrase 86 = .ok (.iload 5, 2) := by decide +kernel
theorem dX9_phrase_88 : decode cX9_phrase 88 = .ok (.iload_n 3, 1) := by decide +kernel
theorem dX9_phrase_89 : decode cX9_phrase 89 = .ok (.if_icmp .gt 6, 3) := by decide +kernel
theorem dX9_phrase_92 : decode cX9_phrase 92 = .ok (.goto 10, 3) := by decide +kernel
theorem dX9_phrase_95 : decode cX9_phrase 95 = .ok (.iload 5, 2) := by decide +kernel
theorem dX9_phrase_97 : decode cX9_phrase 97 = .ok (.istore_n 3, 1) := by decide +kernel
theorem dX9_phrase_98 : decode cX9_phrase 98 = .ok (.iload 6, 2) := by decide +kernel
theorem dX9_phrase_100 : decode cX9_phrase 100 = .ok (.istore 4, 2) := by decide +kernel
theorem dX9_phrase_102 : decode cX9_phrase 102 = .ok (.iinc 7 1, 3) := by decide +kernel
theorem dX9_phrase_105 : decode cX9_phrase 105 = .ok (.goto (-65), 3) := by decide +kernel
theorem dX9_phrase_108 : decode cX9_phrase 108 = .ok (.iload_n 2, 1) := by decide +kernel
theorem dX9_phrase_109 : decode cX9_phrase 109 = .ok (.ifCond .ne 7, 3) := by decide +kernel
theorem dX9_phrase_112 : decode cX9_phrase 112 = .ok (.iload_n 3, 1) := by decide +kernel
theorem dX9_phrase_113 : decode cX9_phrase 113 = .ok (.goto 5, 3) := by decide +kernel
theorem dX9_phrase_116 : decode cX9_phrase 116 = .ok (.iload 4, 2) := by decide +kernel
theorem dX9_phrase_118 : decode cX9_phrase 118 = .ok (.ireturn, 1) := by decide +kernel
set_option maxHeartbeats 4000000 in
set_option maxRecDepth 100000 in
theorem m_X9_phrase (l : Launch) (D : va_G) (cy : Nat → ClassId) (g : Nat → Nat) (σ : ST) (p1 : Int32) (p2 : Int32) (sz : Nat) (hJ : J9 (σ 9))  : Met l yX9_phrase (ww yX9_phrase cX9_phrase 8 (some .int)) ({ frames := 3, cells := 0, slots := 0, locals := 192 }) (va_Pc [.ref (g 60), .int p1, .int p2] (pr9 D cy g σ sz)) (qi9 D cy g sz (fun r τ => Fr (fL [0]) σ τ ∧ J9 (τ 9) ∧ True)) 0 0 (A9 cy g sz) := by
  refine Met.ofW (cc := cX9_phrase) (maxL := 8) (ret := (some .int)) (by decide) rfl ?_
  intro p e s m args below meth c s₁ B hml hv
  obtain ⟨rfl, hsz, hP, hK, hD0, hC⟩ := hv
  have hx := B.exec
  have hb := B.bytes
  have hr := B.returns
  have hts := hts_g (atoms_spec (ws := ww yX9_phrase cX9_phrase 8 (some .int)) B.pre)
  have hown : s.vm.findClass RX9 = some m.cls := findClass_of_methodNamed B.named
  have hlocks := B.notSynchronized
  clear B
  subst hsz
  have hD := fun τ => A9_D (sz := s.heap.size) hD0 τ
  clear hD0
  have hS : va_S (A9 cy g s.heap.size) s.heap s.heap [] := va_S.rf
  have hl := lv_entry ([.ref (g 60), .int p1, .int p2]) (n := 8) (Nat.le_of_ble_eq_true rfl)
  rw [lg_entry_eq]
  generalize (lg_sl ([.ref (g 60), .int p1, .int p2]) ++ List.replicate (8 - (lg_sl ([.ref (g 60), .int p1, .int p2])).length) Slot.unset).toArray = ls at hl ⊢
  have hl : lv_has ls 8 [(0, .ref (g 60)), (1, .int p1), (2, .int p2)] := hl
  refine lv_aload_n hx hb dX9_phrase_0 rfl (lv_at hl 0 rfl) ?_
  refine lv_iconst (v := 0) hx hb dX9_phrase_1 (by decide) ?_
  refine p9_0 hx hb hts hown hK hP hD hS (hts _ q1360) dX9_phrase_2 (fun H locs σ1 eσ1 hP hS => ?_)
  have hJ2 : J9 (σ1 9) := hJ.I eσ1 (show JI9 0 (0 : Int32) from trivial)
  refine lv_aload_n hx hb dX9_phrase_5 rfl (lv_at hl 0 rfl) ?_
  refine lv_iload_n hx hb dX9_phrase_6 rfl (lv_at hl 1 rfl) ?_
  refine va_calli (va_runV (As := [.int p1]) (rest := []) ⟨hx, hb, hml, hown, hts⟩ (m_X9_isPart l D cy g σ1 p1 _ hJ2 ) (cwV 1 hts (gd_V q1722 q1724 q74 q134 q1725) rfl rfl rfl (by decide +kernel) ⟨Nat.le_of_ble_eq_true rfl, Nat.le_of_ble_eq_true rfl⟩) (pv9 hP hK hD hC hS (va_recv hK hP (ci := 9) (q0 := 0) rfl rfl)) rfl rfl hl.1 rfl (lv_room (Nat.le_of_ble_eq_true rfl)) dX9_phrase_7 ⟨Nat.le_of_ble_eq_true rfl, Nat.le_of_ble_eq_true rfl⟩) hS (fun q _ h => up9 hS q h) (up9 hS) (fun r3 σ4 tS H1 locs ht hvm hw5 hB hz1 hk1 hS => ?_)
  have hP : va_P D clz (WD9 cy g σ4) H1 := by rw [← ht]; exact hB
  clear hB hz1 hk1 hvm ht
  generalize H1 = H at hP hS ⊢
  have hw5E : σ1 = σ4 := (hw5.1).symm
  subst hw5E
  have b6 : (0 : Int) ≤ r3.toInt ∧ r3.toInt ≤ 1 := hw5.2.1
  have b7 : (r3.toInt = 0) ∨ ((0 : Int) ≤ p1.toInt ∧ p1.toInt ≤ 2) := hw5.2.2.1
  have b8 : (r3.toInt = 0) ∨ (0 ≤ p1.toInt ∧ p1.toInt < ((σ1 9).2.2.1 17 4).toInt) := hw5.2.2.2.1
  refine lv_if_eq (tgt := 23) hx hb dX9_phrase_10 (by decide) (fun c9 => ?_) (fun c9 => ?_)
  ·
    have k10 := peq32 c9
    refine lv_bipush (v := (-2)) hx hb dX9_phrase_23 (by decide) ?_
    exact W.iret (v := (-2)) hx hb hr (fun tS ht hW => ⟨⟨(-2), σ1, rfl, ⟨Fr.tr (Fr.rf) (sI_f eσ1) (fN_L rfl), hJ2, trivial⟩, (show va_P D clz (WD9 cy g σ1) tS.heap by rw [ht]; exact hP)⟩, hS.F ht⟩) hS.2.2 dX9_phrase_25
  ·
    have k11 := neq32 c9
    refine lv_iload_n hx hb dX9_phrase_13 rfl (lv_at hl 2 rfl) ?_
    refine lv_i2l (v := p2.toInt64) hx hb dX9_phrase_14 rfl ?_
    refine lv_lconst (v := 0) hx hb dX9_phrase_15 (by decide) ?_
    refine lv_lconst (v := 1) hx hb dX9_phrase_16 (by decide) ?_
    refine va_calli (va_runS (As := [.long p2.toInt64, .long 0, .long 1]) (rest := []) ⟨hx, hb, hml, hown, hts⟩ (m_X9_in l D cy g σ1 p2.toInt64 (0) (1) _ hJ2 ) (va_cwS 3 hts (gd_S q1550 q1551 q134 q1552) rfl rfl rfl (by decide +kernel) ⟨Nat.le_of_ble_eq_true rfl, Nat.le_of_ble_eq_true rfl⟩) (ps9 hP hK hD hC hS) rfl rfl hl.1 rfl (lv_room (Nat.le_of_ble_eq_true rfl)) dX9_phrase_17 ⟨Nat.le_of_ble_eq_true rfl, Nat.le_of_ble_eq_true rfl⟩) hS (fun q _ h => up9 hS q h) (up9 hS) (fun r12 σ13 tS H1 locs ht hvm hw14 hB hz1 hk1 hS => ?_)
    have hP : va_P D clz (WD9 cy g σ13) H1 := by rw [← ht]; exact hB
    clear hB hz1 hk1 hvm ht
    generalize H1 = H at hP hS ⊢
    have hw14E : σ1 = σ13 := (hw14.1).symm
    subst hw14E
    have b15 : (0 : Int) ≤ r12.toInt ∧ r12.toInt ≤ 1 := hw14.2.1
    have b16 : (r12.toInt = 1 ∧ (0 : Int64).toInt ≤ p2.toInt64.toInt ∧ p2.toInt64.toInt ≤ (1 : Int64).toInt) ∨ (r12.toInt = 0 ∧ ¬ ((0 : Int64).toInt ≤ p2.toInt64.toInt ∧ p2.toInt64.toInt ≤ (1 : Int64).toInt)) := hw14.2.2.1
    refine lv_if_ne (tgt := 26) hx hb dX9_phrase_20 (by decide) (fun c17 => ?_) (fun c17 => ?_)
    ·
      have k18 := neq32 c17
      refine lv_iconst (v := 0) hx hb dX9_phrase_26 (by decide) ?_
      refine lv_istore_n (lv' := [(3, .int 0), (0, .ref (g 60)), (1, .int p1), (2, .int p2)]) hx hb dX9_phrase_27 rfl hl (by decide) rfl (fun ls hl => ?_)
      refine lv_iconst (v := (-1)) hx hb dX9_phrase_28 (by decide) ?_
      refine lv_istore (lv' := [(4, .int (-1)), (3, .int 0), (0, .ref (g 60)), (1, .int p1), (2, .int p2)]) hx hb dX9_phrase_29 hl (by decide) rfl (fun ls hl => ?_)
      refine lv_iconst (v := 0) hx hb dX9_phrase_31 (by decide) ?_
      refine lv_istore (lv' := [(5, .int 0), (4, .int (-1)), (3, .int 0), (0, .ref (g 60)), (1, .int p1), (2, .int p2)]) hx hb dX9_phrase_32 hl (by decide) rfl (fun ls hl => ?_)
      refine lv_iconst (v := 0) hx hb dX9_phrase_34 (by decide) ?_
      refine lv_istore (lv' := [(6, .int 0), (5, .int 0), (4, .int (-1)), (3, .int 0), (0, .ref (g 60)), (1, .int p1), (2, .int p2)]) hx hb dX9_phrase_35 hl (by decide) rfl (fun ls hl => ?_)
      refine lv_iconst (v := 0) hx hb dX9_phrase_37 (by decide) ?_
      refine lv_istore (lv' := [(7, .int 0), (6, .int 0), (5, .int 0), (4, .int (-1)), (3, .int 0), (0, .ref (g 60)), (1, .int p1), (2, .int p2)]) hx hb dX9_phrase_38 hl (by decide) rfl (fun ls hl => ?_)
      refine loop9 8 40 (fun x : LZ => [(7, .int (x.2.1 0)), (6, .int (x.2.1 1)), (5, .int (x.2.1 2)), (4, .int (x.2.1 3)), (3, .int (x.2.1 4)), (0, .ref (g 60)), (1, .int p1), (2, .int p2)]) (fun x : LZ => (x.1 = σ1) ∧ ((0 : Int) ≤ (x.2.1 0).toInt ∧ (x.2.1 0).toInt ≤ 16) ∧ ((0 : Int) ≤ (x.2.1 1).toInt ∧ (x.2.1 1).toInt ≤ 16) ∧ ((-1 : Int) ≤ (x.2.1 3).toInt ∧ (x.2.1 3).toInt ≤ 16) ∧ ((0 : Int) ≤ (x.2.1 4).toInt ∧ (x.2.1 4).toInt ≤ 2147483647) ∧ True) (fun x : LZ => ((17 : Int) - (x.2.1 0).toInt).toNat) ?_ (σ1, lf [0, 0, 0, (-1), 0], lg []) ⟨rfl, (show (0 : Int) ≤ (0 : Int32).toInt ∧ (0 : Int32).toInt ≤ 16 from (by have z0 : (0 : Int32).toInt = 0 := (by decide); omega)), (show (0 : Int) ≤ (0 : Int32).toInt ∧ (0 : Int32).toInt ≤ 16 from (by have z0 : (0 : Int32).toInt = 0 := (by decide); omega)), (show (-1 : Int) ≤ ((-1) : Int32).toInt ∧ ((-1) : Int32).toInt ≤ 16 from (by have zm1 : ((-1) : Int32).toInt = (-1) := (by decide); omega)), (show (0 : Int) ≤ (0 : Int32).toInt ∧ (0 : Int32).toInt ≤ 2147483647 from (by have z0 : (0 : Int32).toInt = 0 := (by decide); omega)), trivial⟩ _ _ _ hP hS (lv_sub hl [0, 1, 2, 3, 4, 5, 6, 7] rfl)
      intro y21 hI20 nl19 H locs ls hP hS hl
      rw [show y21.1 = σ1 from hI20.1] at hP
      have b22 : (0 : Int) ≤ (y21.2.1 0).toInt ∧ (y21.2.1 0).toInt ≤ 16 := hI20.2.1
      have b23 : (0 : Int) ≤ (y21.2.1 1).toInt ∧ (y21.2.1 1).toInt ≤ 16 := hI20.2.2.1
      have b24 : (-1 : Int) ≤ (y21.2.1 3).toInt ∧ (y21.2.1 3).toInt ≤ 16 := hI20.2.2.2.1
      have b25 : (0 : Int) ≤ (y21.2.1 4).toInt ∧ (y21.2.1 4).toInt ≤ 2147483647 := hI20.2.2.2.2.1
      have hl : lv_has ls 8 [(7, .int (y21.2.1 0)), (6, .int (y21.2.1 1)), (5, .int (y21.2.1 2)), (4, .int (y21.2.1 3)), (3, .int (y21.2.1 4)), (0, .ref (g 60)), (1, .int p1), (2, .int p2)] := hl
      refine lv_iload hx hb dX9_phrase_40 (lv_at hl 0 rfl) ?_
      refine lv_aload_n hx hb dX9_phrase_42 rfl (lv_at hl 5 rfl) ?_
      refine g9_20 hx hb hts hown hK hP (hts _ q1380) dX9_phrase_43 ?_
      refine lv_iload_n hx hb dX9_phrase_46 rfl (lv_at hl 6 rfl) ?_
      obtain ⟨x26, ex26⟩ : ∃ z, (σ 9).2.2.1 20 p1.toInt.toNat = z := ⟨_, rfl⟩
      refine l9_20 (x := x26) hx hb hK hP (vpo (by have f0 := b7; have f1 := b8; have f2 := a9_17 hJ2 (j := 4) rfl; have f3 := congrArg Int32.toInt (show ((σ1 9).2.2.1 17 4) = ((σ 9).2.2.1 17 4) from congrFun (((sI_f eσ1) 9 17 rfl).2.2.1) _); have f4 := b6; have f5 := k11; have f6 := a9_17 hJ (j := 4) rfl; have g2 := rg32 p1; have z0 : (0 : Int32).toInt = 0 := (by decide); omega)) ((congrFun (((sI_f eσ1) 9 20 rfl).2.2.1) _).trans ex26) dX9_phrase_47 ?_
      have t27 := a9_20 hJ ex26
      refine lv_icmp_ge (tgt := 108) hx hb dX9_phrase_48 (by decide) (fun c28 => ?_) (fun c28 => ?_)
      ·
        have k29 := ple32 c28
        refine lv_iload_n hx hb dX9_phrase_108 rfl (lv_at hl 7 rfl) ?_
        refine lv_if_ne (tgt := 116) hx hb dX9_phrase_109 (by decide) (fun c30 => ?_) (fun c30 => ?_)
        ·
          have k31 := neq32 c30
          refine lv_iload hx hb dX9_phrase_116 (lv_at hl 3 rfl) ?_
          exact W.iret (v := (y21.2.1 3)) hx hb hr (fun tS ht hW => ⟨⟨(y21.2.1 3), σ1, rfl, ⟨Fr.tr (Fr.rf) (sI_f eσ1) (fN_L rfl), hJ2, trivial⟩, (show va_P D clz (WD9 cy g σ1) tS.heap by rw [ht]; exact hP)⟩, hS.F ht⟩) hS.2.2 dX9_phrase_118
        ·
          have k32 := peq32 c30
          refine lv_iload_n hx hb dX9_phrase_112 rfl (lv_at hl 4 rfl) ?_
          refine lv_goto (tgt := 118) hx hb dX9_phrase_113 (by decide) ?_
          exact W.iret (v := (y21.2.1 4)) hx hb hr (fun tS ht hW => ⟨⟨(y21.2.1 4), σ1, rfl, ⟨Fr.tr (Fr.rf) (sI_f eσ1) (fN_L rfl), hJ2, trivial⟩, (show va_P D clz (WD9 cy g σ1) tS.heap by rw [ht]; exact hP)⟩, hS.F ht⟩) hS.2.2 dX9_phrase_118
      ·
        have k33 := nle32 c28
        refine lv_aload_n hx hb dX9_phrase_51 rfl (lv_at hl 5 rfl) ?_
        refine lv_iload_n hx hb dX9_phrase_52 rfl (lv_at hl 6 rfl) ?_
        refine lv_iload hx hb dX9_phrase_53 (lv_at hl 0 rfl) ?_
        refine va_calli (va_runV (As := [.int p1, .int (y21.2.1 0)]) (rest := []) ⟨hx, hb, hml, hown, hts⟩ (m_X9_isRest l D cy g σ1 p1 (y21.2.1 0) _ hJ2 (show (0 : Int) ≤ p1.toInt ∧ p1.toInt ≤ 2 from (by have f0 := b7; have f1 := b8; have f2 := t27; have f3 := a9_17 hJ2 (j := 4) rfl; have f4 := congrArg Int32.toInt (show ((σ1 9).2.2.1 17 4) = ((σ 9).2.2.1 17 4) from congrFun (((sI_f eσ1) 9 17 rfl).2.2.1) _); have f5 := b6; have f6 := k11; have f7 := k33; have f8 := a9_17 hJ (j := 4) rfl; have f9 := b22; have g2 := rg32 p1; have z0 : (0 : Int32).toInt = 0 := (by decide); omega)) (show (0 : Int) ≤ (y21.2.1 0).toInt ∧ (y21.2.1 0).toInt ≤ 15 from (by have f0 := b7; have f1 := b8; have f2 := b22; have f3 := t27; have f4 := k33; have f5 := a9_17 hJ2 (j := 4) rfl; have f6 := congrArg Int32.toInt (show ((σ1 9).2.2.1 17 4) = ((σ 9).2.2.1 17 4) from congrFun (((sI_f eσ1) 9 17 rfl).2.2.1) _); have f7 := b6; have f8 := k11; have f9 := a9_17 hJ (j := 4) rfl; have g2 := rg32 (y21.2.1 0); have g3 := rg32 p1; have z0 : (0 : Int32).toInt = 0 := (by decide); omega))) (cwV 2 hts (gd_V q1838 q1840 q91 q134 q1841) rfl rfl rfl (by decide +kernel) ⟨Nat.le_of_ble_eq_true rfl, Nat.le_of_ble_eq_true rfl⟩) (pv9 hP hK hD hC hS (va_recv hK hP (ci := 9) (q0 := 0) rfl rfl)) rfl rfl hl.1 rfl (lv_room (Nat.le_of_ble_eq_true rfl)) dX9_phrase_55 ⟨Nat.le_of_ble_eq_true rfl, Nat.le_of_ble_eq_true rfl⟩) hS (fun q _ h => up9 hS q h) (up9 hS) (fun r34 σ35 tS H1 locs ht hvm hw36 hB hz1 hk1 hS => ?_)
        have hP : va_P D clz (WD9 cy g σ35) H1 := by rw [← ht]; exact hB
        clear hB hz1 hk1 hvm ht
        generalize H1 = H at hP hS ⊢
        have hw36E : σ1 = σ35 := (hw36.1).symm
        subst hw36E
        have b37 : (0 : Int) ≤ r34.toInt ∧ r34.toInt ≤ 1 := hw36.2.1
        refine cut9 (D := D) (cy := cy) (g := g) (A := A9 cy g s.heap.size) (H0 := s.heap) 8 102 (fun x : LZ => [(7, .int (y21.2.1 0)), (6, .int (x.2.1 0)), (5, .int (x.2.1 1)), (4, .int (x.2.1 2)), (3, .int (x.2.1 3)), (0, .ref (g 60)), (1, .int p1), (2, .int p2)]) (fun x : LZ => []) (fun x : LZ => (x.1 = σ1) ∧ ((0 : Int) ≤ (x.2.1 0).toInt ∧ (x.2.1 0).toInt ≤ 16) ∧ ((-1 : Int) ≤ (x.2.1 2).toInt ∧ (x.2.1 2).toInt ≤ 16) ∧ ((0 : Int) ≤ (x.2.1 3).toInt ∧ (x.2.1 3).toInt ≤ 2147483647) ∧ True) ?_ ?_
        ·
          intro y40 hI39 H locs ls hP hS hl
          rw [show y40.1 = σ1 from hI39.1] at hP
          have b41 : (0 : Int) ≤ (y40.2.1 0).toInt ∧ (y40.2.1 0).toInt ≤ 16 := hI39.2.1
          have b42 : (-1 : Int) ≤ (y40.2.1 2).toInt ∧ (y40.2.1 2).toInt ≤ 16 := hI39.2.2.1
          have b43 : (0 : Int) ≤ (y40.2.1 3).toInt ∧ (y40.2.1 3).toInt ≤ 2147483647 := hI39.2.2.2.1
          have hl : lv_has ls 8 [(7, .int (y21.2.1 0)), (6, .int (y40.2.1 0)), (5, .int (y40.2.1 1)), (4, .int (y40.2.1 2)), (3, .int (y40.2.1 3)), (0, .ref (g 60)), (1, .int p1), (2, .int p2)] := hl
          obtain ⟨x44, ex44⟩ : ∃ y : Int32, y = (y21.2.1 0) + 1 := ⟨_, rfl⟩
          have t45 := addO ex44 (by have f0 := b22; have f1 := k33; have f2 := t27; have f3 := b7; have f4 := b8; have f5 := a9_17 hJ2 (j := 4) rfl; have f6 := congrArg Int32.toInt (show ((σ1 9).2.2.1 17 4) = ((σ 9).2.2.1 17 4) from congrFun (((sI_f eσ1) 9 17 rfl).2.2.1) _); have f7 := b6; have f8 := k11; have f9 := a9_17 hJ (j := 4) rfl; have g2 := rg32 (y21.2.1 0); have z0 : (0 : Int32).toInt = 0 := (by decide); have z1 : (1 : Int32).toInt = 1 := (by decide); omega)
          refine lv_iinc (v := x44) (lv' := [(7, .int x44), (6, .int (y40.2.1 0)), (5, .int (y40.2.1 1)), (4, .int (y40.2.1 2)), (3, .int (y40.2.1 3)), (0, .ref (g 60)), (1, .int p1), (2, .int p2)]) hx hb dX9_phrase_102 hl (k := 0) rfl (by rw [ex44]; rfl) (by decide) rfl (fun ls hl => ?_)
          refine lv_goto (tgt := 40) hx hb dX9_phrase_105 (by decide) ?_
          have t46 : ((17 : Int) - x44.toInt).toNat < ((17 : Int) - (y21.2.1 0).toInt).toNat := (by have f0 := b22; have f1 := k33; have f2 := t45; have f3 := t27; have f4 := b7; have f5 := b8; have f6 := a9_17 hJ2 (j := 4) rfl; have f7 := congrArg Int32.toInt (show ((σ1 9).2.2.1 17 4) = ((σ 9).2.2.1 17 4) from congrFun (((sI_f eσ1) 9 17 rfl).2.2.1) _); have f8 := b6; have f9 := k11; have f10 := a9_17 hJ (j := 4) rfl; have g2 := rg32 (y21.2.1 0); have g3 := rg32 x44; have z0 : (0 : Int32).toInt = 0 := (by decide); have z1 : (1 : Int32).toInt = 1 := (by decide); omega)
          exact nl19 (σ1, lf [x44, (y40.2.1 0), (y40.2.1 1), (y40.2.1 2), (y40.2.1 3)], lg []) ⟨rfl, (show (0 : Int) ≤ (x44 : Int32).toInt ∧ (x44 : Int32).toInt ≤ 16 from (by have f0 := t45; have f1 := b22; have f2 := k33; have f3 := t27; have f4 := b7; have f5 := b8; have f6 := a9_17 hJ2 (j := 4) rfl; have f7 := congrArg Int32.toInt (show ((σ1 9).2.2.1 17 4) = ((σ 9).2.2.1 17 4) from congrFun (((sI_f eσ1) 9 17 rfl).2.2.1) _); have f8 := b6; have f9 := k11; have f10 := a9_17 hJ (j := 4) rfl; have g2 := rg32 x44; have z0 : (0 : Int32).toInt = 0 := (by decide); have z1 : (1 : Int32).toInt = 1 := (by decide); omega)), (show (0 : Int) ≤ ((y40.2.1 0) : Int32).toInt ∧ ((y40.2.1 0) : Int32).toInt ≤ 16 from (by have f0 := b41; have g0 := rg32 (y40.2.1 0); omega)), (show (-1 : Int) ≤ ((y40.2.1 2) : Int32).toInt ∧ ((y40.2.1 2) : Int32).toInt ≤ 16 from (by have f0 := b42; have g0 := rg32 (y40.2.1 2); omega)), (show (0 : Int) ≤ ((y40.2.1 3) : Int32).toInt ∧ ((y40.2.1 3) : Int32).toInt ≤ 2147483647 from (by have f0 := b43; have g0 := rg32 (y40.2.1 3); omega)), trivial⟩ (show ((17 : Int) - x44.toInt).toNat < _ from t46) _ _ _ hP hS (lv_sub hl [0, 1, 2, 3, 4, 5, 6, 7] rfl)
        ·
          intro nj38
          refine lv_if_eq (tgt := 73) hx hb dX9_phrase_58 (by decide) (fun c47 => ?_) (fun c47 => ?_)
          ·
            have k48 := peq32 c47
            refine lv_iload hx hb dX9_phrase_73 (lv_at hl 2 rfl) ?_
            refine lv_aload_n hx hb dX9_phrase_75 rfl (lv_at hl 5 rfl) ?_
            refine lv_iload_n hx hb dX9_phrase_76 rfl (lv_at hl 6 rfl) ?_
            refine lv_iload hx hb dX9_phrase_77 (lv_at hl 0 rfl) ?_
            refine lv_iconst (v := 1) hx hb dX9_phrase_79 (by decide) ?_
            refine va_calli (va_runV (As := [.int p1, .int (y21.2.1 0), .int 1]) (rest := [.int (y21.2.1 2)]) ⟨hx, hb, hml, hown, hts⟩ (m_X9_toneOf l D cy g σ1 p1 (y21.2.1 0) (1) _ hJ2 (show (0 : Int) ≤ p1.toInt ∧ p1.toInt ≤ 2 from (by have f0 := b7; have f1 := b8; have f2 := t27; have f3 := a9_17 hJ2 (j := 4) rfl; have f4 := congrArg Int32.toInt (show ((σ1 9).2.2.1 17 4) = ((σ 9).2.2.1 17 4) from congrFun (((sI_f eσ1) 9 17 rfl).2.2.1) _); have f5 := b6; have f6 := k11; have f7 := k33; have f8 := a9_17 hJ (j := 4) rfl; have f9 := b22; have g2 := rg32 p1; have z0 : (0 : Int32).toInt = 0 := (by decide); omega)) (show (0 : Int) ≤ (y21.2.1 0).toInt ∧ (y21.2.1 0).toInt ≤ 15 from (by have f0 := b7; have f1 := b8; have f2 := b22; have f3 := t27; have f4 := k33; have f5 := a9_17 hJ2 (j := 4) rfl; have f6 := congrArg Int32.toInt (show ((σ1 9).2.2.1 17 4) = ((σ 9).2.2.1 17 4) from congrFun (((sI_f eσ1) 9 17 rfl).2.2.1) _); have f7 := b6; have f8 := k11; have f9 := a9_17 hJ (j := 4) rfl; have g2 := rg32 (y21.2.1 0); have g3 := rg32 p1; have z0 : (0 : Int32).toInt = 0 := (by decide); omega)) (show (0 : Int) ≤ (1 : Int32).toInt ∧ (1 : Int32).toInt ≤ 3 from (by have f0 := b7; have f1 := b8; have f2 := b22; have f3 := t27; have f4 := k33; have f5 := a9_17 hJ2 (j := 4) rfl; have f6 := congrArg Int32.toInt (show ((σ1 9).2.2.1 17 4) = ((σ 9).2.2.1 17 4) from congrFun (((sI_f eσ1) 9 17 rfl).2.2.1) _); have f7 := b6; have f8 := k11; have f9 := a9_17 hJ (j := 4) rfl; have g2 := rg32 (y21.2.1 0); have g3 := rg32 p1; have z0 : (0 : Int32).toInt = 0 := (by decide); have z1 : (1 : Int32).toInt = 1 := (by decide); omega))) (cwV 3 hts (gd_V q1727 q1729 q75 q134 q1730) rfl rfl rfl (by decide +kernel) ⟨Nat.le_of_ble_eq_true rfl, Nat.le_of_ble_eq_true rfl⟩) (pv9 hP hK hD hC hS (va_recv hK hP (ci := 9) (q0 := 0) rfl rfl)) rfl rfl hl.1 rfl (lv_room (Nat.le_of_ble_eq_true rfl)) dX9_phrase_80 ⟨Nat.le_of_ble_eq_true rfl, Nat.le_of_ble_eq_true rfl⟩) hS (fun q _ h => up9 hS q h) (up9 hS) (fun r49 σ50 tS H1 locs ht hvm hw51 hB hz1 hk1 hS => ?_)
            have hP : va_P D clz (WD9 cy g σ50) H1 := by rw [← ht]; exact hB
            clear hB hz1 hk1 hvm ht
            generalize H1 = H at hP hS ⊢
            have hw51E : σ1 = σ50 := (hw51.1).symm
            subst hw51E
            have b52 : (-1 : Int) ≤ r49.toInt ∧ r49.toInt ≤ 60 := hw51.2.1
            have b53 : ¬ (1 : Int32).toInt = 1 ∨ 0 ≤ r49.toInt := hw51.2.2.1
            refine lv_iadd hx hb dX9_phrase_83 ?_
            refine lv_topi (fun x54 ex54 => ?_)
            refine lv_istore (lv' := [(5, .int x54), (7, .int (y21.2.1 0)), (6, .int (y21.2.1 1)), (4, .int (y21.2.1 3)), (3, .int (y21.2.1 4)), (0, .ref (g 60)), (1, .int p1), (2, .int p2)]) hx hb dX9_phrase_84 hl (by decide) rfl (fun ls hl => ?_)
            refine lv_iload hx hb dX9_phrase_86 (lv_at hl 0 rfl) ?_
            refine lv_iload_n hx hb dX9_phrase_88 rfl (lv_at hl 4 rfl) ?_
            refine lv_icmp_gt (tgt := 95) hx hb dX9_phrase_89 (by decide) (fun c55 => ?_) (fun c55 => ?_)
            ·
              have k56 := plt32 c55
              refine lv_iload hx hb dX9_phrase_95 (lv_at hl 0 rfl) ?_
              refine lv_istore_n (lv' := [(3, .int x54), (5, .int x54), (7, .int (y21.2.1 0)), (6, .int (y21.2.1 1)), (4, .int (y21.2.1 3)), (0, .ref (g 60)), (1, .int p1), (2, .int p2)]) hx hb dX9_phrase_97 rfl hl (by decide) rfl (fun ls hl => ?_)
              refine lv_iload hx hb dX9_phrase_98 (lv_at hl 3 rfl) ?_
              refine lv_istore (lv' := [(4, .int (y21.2.1 1)), (3, .int x54), (5, .int x54), (7, .int (y21.2.1 0)), (6, .int (y21.2.1 1)), (0, .ref (g 60)), (1, .int p1), (2, .int p2)]) hx hb dX9_phrase_100 hl (by decide) rfl (fun ls hl => ?_)
              exact nj38 (σ1, lf [(y21.2.1 1), x54, (y21.2.1 1), x54], lg []) ⟨rfl, (show (0 : Int) ≤ ((y21.2.1 1) : Int32).toInt ∧ ((y21.2.1 1) : Int32).toInt ≤ 16 from (by have f0 := b23; have g0 := rg32 (y21.2.1 1); omega)), (show (-1 : Int) ≤ ((y21.2.1 1) : Int32).toInt ∧ ((y21.2.1 1) : Int32).toInt ≤ 16 from (by have f0 := b23; have g0 := rg32 (y21.2.1 1); omega)), (show (0 : Int) ≤ (x54 : Int32).toInt ∧ (x54 : Int32).toInt ≤ 2147483647 from (by have f0 := k56; have f1 := b25; have g0 := rg32 (y21.2.1 4); have g1 := rg32 x54; omega)), trivial⟩ _ _ _ hP hS (lv_sub hl [3, 4, 2, 0, 1, 5, 6, 7] rfl)
            ·
              have k57 := nlt32 c55
              refine lv_goto (tgt := 102) hx hb dX9_phrase_92 (by decide) ?_
              exact nj38 (σ1, lf [(y21.2.1 1), x54, (y21.2.1 3), (y21.2.1 4)], lg []) ⟨rfl, (show (0 : Int) ≤ ((y21.2.1 1) : Int32).toInt ∧ ((y21.2.1 1) : Int32).toInt ≤ 16 from (by have f0 := b23; have g0 := rg32 (y21.2.1 1); omega)), (show (-1 : Int) ≤ ((y21.2.1 3) : Int32).toInt ∧ ((y21.2.1 3) : Int32).toInt ≤ 16 from (by have f0 := b24; have g0 := rg32 (y21.2.1 3); omega)), (show (0 : Int) ≤ ((y21.2.1 4) : Int32).toInt ∧ ((y21.2.1 4) : Int32).toInt ≤ 2147483647 from (by have f0 := b25; have f1 := k57; have g0 := rg32 (y21.2.1 4); have g1 := rg32 x54; omega)), trivial⟩ _ _ _ hP hS (lv_sub hl [1, 2, 0, 3, 4, 5, 6, 7] rfl)
          ·
            have k58 := neq32 c47
            refine lv_iconst (v := 0) hx hb dX9_phrase_61 (by decide) ?_
            refine lv_istore (lv' := [(5, .int 0), (7, .int (y21.2.1 0)), (6, .int (y21.2.1 1)), (4, .int (y21.2.1 3)), (3, .int (y21.2.1 4)), (0, .ref (g 60)), (1, .int p1), (2, .int p2)]) hx hb dX9_phrase_62 hl (by decide) rfl (fun ls hl => ?_)
            refine lv_iload hx hb dX9_phrase_64 (lv_at hl 1 rfl) ?_
            refine lv_iconst (v := 1) hx hb dX9_phrase_66 (by decide) ?_
            refine lv_iadd hx hb dX9_phrase_67 ?_
            refine lv_topi (fun x59 ex59 => ?_)
            have t60 := addO ex59 (by have f0 := b22; have f1 := k33; have f2 := t27; have f3 := b7; have f4 := b8; have f5 := a9_17 hJ2 (j := 4) rfl; have f6 := congrArg Int32.toInt (show ((σ1 9).2.2.1 17 4) = ((σ 9).2.2.1 17 4) from congrFun (((sI_f eσ1) 9 17 rfl).2.2.1) _); have f7 := b6; have f8 := k11; have f9 := a9_17 hJ (j := 4) rfl; have g2 := rg32 (y21.2.1 0); have z0 : (0 : Int32).toInt = 0 := (by decide); have z1 : (1 : Int32).toInt = 1 := (by decide); omega)
            refine lv_istore (lv' := [(6, .int x59), (5, .int 0), (7, .int (y21.2.1 0)), (4, .int (y21.2.1 3)), (3, .int (y21.2.1 4)), (0, .ref (g 60)), (1, .int p1), (2, .int p2)]) hx hb dX9_phrase_68 hl (by decide) rfl (fun ls hl => ?_)
            refine lv_goto (tgt := 102) hx hb dX9_phrase_70 (by decide) ?_
            exact nj38 (σ1, lf [x59, 0, (y21.2.1 3), (y21.2.1 4)], lg []) ⟨rfl, (show (0 : Int) ≤ (x59 : Int32).toInt ∧ (x59 : Int32).toInt ≤ 16 from (by have f0 := t60; have f1 := b22; have f2 := k33; have f3 := t27; have f4 := b7; have f5 := b8; have f6 := a9_17 hJ2 (j := 4) rfl; have f7 := congrArg Int32.toInt (show ((σ1 9).2.2.1 17 4) = ((σ 9).2.2.1 17 4) from congrFun (((sI_f eσ1) 9 17 rfl).2.2.1) _); have f8 := b6; have f9 := k11; have f10 := a9_17 hJ (j := 4) rfl; have g2 := rg32 x59; have z0 : (0 : Int32).toInt = 0 := (by decide); have z1 : (1 : Int32).toInt = 1 := (by decide); omega)), (show (-1 : Int) ≤ ((y21.2.1 3) : Int32).toInt ∧ ((y21.2.1 3) : Int32).toInt ≤ 16 from (by have f0 := b24; have g0 := rg32 (y21.2.1 3); omega)), (show (0 : Int) ≤ ((y21.2.1 4) : Int32).toInt ∧ ((y21.2.1 4) : Int32).toInt ≤ 2147483647 from (by have f0 := b25; have g0 := rg32 (y21.2.1 4); omega)), trivial⟩ _ _ _ hP hS (lv_sub hl [2, 0, 1, 3, 4, 5, 6, 7] rfl)
    ·
      have k61 := peq32 c17
      refine lv_bipush (v := (-2)) hx hb dX9_phrase_23 (by decide) ?_
      exact W.iret (v := (-2)) hx hb hr (fun tS ht hW => ⟨⟨(-2), σ1, rfl, ⟨Fr.tr (Fr.rf) (sI_f eσ1) (fN_L rfl), hJ2, trivial⟩, (show va_P D clz (WD9 cy g σ1) tS.heap by rw [ht]; exact hP)⟩, hS.F ht⟩) hS.2.2 dX9_phrase_25

theorem q2135 : Cond.code yX9_pitches cX9_pitches 6 (some .int) ∈ lw_g := lw_gm (List.mem_of_getElem? (i := 2135) (by decide +kernel)) rfl
theorem dX9_pitches_0 : decode cX9_pitches 0 = .ok (.aload_n 0, 1) := by decide +kernel
theorem dX9_pitches_1 : decode cX9_pitches 1 = .ok (.iconst 0, 1) := by decide +kernel
theorem dX9_pitches_2 : decode cX9_pitches 2 = .ok (.putfield 129, 3) := by decide +kernel
theorem dX9_pitches_5 : decode cX9_pitches 5 = .ok (.aload_n 0, 1) := by decide +kernel
theorem dX9_pitches_6 : decode cX9_pitches 6 = .ok (.iload_n 1, 1) := by decide +kernel
theorem dX9_pitches_7 : decode cX9_pitches 7 = .ok (.invokevirtual 303, 3) := by decide +kernel
theorem dX9_pitches_10 : decode cX9_pitches 10 = .ok (.ifCond .ne 6, 3) := by decide +kernel
theorem dX9_pitches_13 : decode cX9_pitches 13 = .ok (.bipush (-2), 2) := by decide +kernel
theorem dX9_pitches_15 : decode cX9_pitches 15 = .ok (.ireturn, 1) := by decide +kernel
theorem dX9_pitches_16 : decode cX9_pitches 16 = .ok (.iconst 0, 1) := by decide +kernel
theorem dX9_pitches_17 : decode cX9_pitches 17 = .ok (.istore_n 2, 1) := by decide +kernel
theorem dX9_pitches_18 : decode cX9_pitches 18 = .ok (.iconst 0, 1) := by decide +kernel
theorem dX9_pitches_19 : decode cX9_pitches 19 = .ok (.istore_n 3, 1) := by decide +kernel
theorem dX9_pitches_20 : decode cX9_pitches 20 = .ok (.iload_n 3, 1) := by decide +kernel
theorem dX9_pitches_21 : decode cX9_pitches 21 = .ok (.aload_n 0, 1) := by decide +kernel
theorem dX9_pitches_22 : decode cX9_pitches 22 = .ok (.getfield 43, 3) := by decide +kernel
theorem dX9_pitches_25 : decode cX9_pitches 25 = .ok (.iload_n 1, 1) := by decide +kernel
theorem dX9_pitches_26 : decode cX9_pitches 26 = .ok (.iaload, 1) := by decide +kernel
theorem dX9_pitches_27 : decode cX9_pitches 27 = .ok (.if_icmp .ge 83, 3) := by decide +kernel
theorem dX9_pitches_30 : decode cX9_pitches 30 = .ok (.aload_n 0, 1) := by decide +kernel
theorem dX9_pitches_31 : decode cX9_pitches 31 = .ok (.iload_n 1, 1) := by decide +kernel
theorem dX9_pitches_32 : decode cX9_pitches 32 = .ok (.iload_n 3, 1) := by decide +kernel
theorem dX9_pitches_33 : decode cX9_pitches 33 = .ok (.invokevirtual 390, 3) := by decide +kernel
theorem dX9_pitches_36 : decode cX9_pitches 36 = .ok (.ifCond .ne 7, 3) := by decide +kernel
theorem dX9_pitches_39 : decode cX9_pitches 39 = .ok (.iconst 1, 1) := by decide +kernel
theorem dX9_pitches_40 : decode cX9_pitches 40 = .ok (.goto 4, 3) := by decide +kernel
theorem dX9_pitches_43 : decode cX9_pitches 43 = .ok (.iconst 0, 1) := by decide +kernel
theorem dX9_pitches_44 : decode cX9_pitches 44 = .ok (.istore 4, 2) := by decide +kernel
theorem dX9_pitches_46 : decode cX9_pitches 46 = .ok (.iconst 0, 1) := by decide +kernel
theorem dX9_pitches_47 : decode cX9_pitches 47 = .ok (.istore 5, 2) := by decide +kernel
theorem dX9_pitches_49 : decode cX9_pitches 49 = .ok (.iload 5, 2) := by decide +kernel
theorem dX9_pitches_51 : decode cX9_pitches 51 = .ok (.iload_n 3, 1) := by decide +kernel
theorem dX9_pitches_52 : decode cX9_pitches 52 = .ok (.if_icmp .ge 39, 3) := by decide +kernel
theorem dX9_pitches_55 : decode cX9_pitches 55 = .ok (.iload 4, 2) := by decide +kernel
theorem dX9_pitches_57 : decode cX9_pitches 57 = .ok (.ifCond .eq 34, 3) := by decide +kernel
theorem dX9_pitches_60 : decode cX9_pitches 60 = .ok (.aload_n 0, 1) := by decide +kernel
theorem dX9_pitches_61 : decode cX9_pitches 61 = .ok (.iload_n 1, 1) := by decide +kernel
theorem dX9_pitches_62 : decode cX9_pitches 62 = .ok (.iload 5, 2) := by decide +kernel
theorem dX9_pitches_64 : decode cX9_pitches 64 = .ok (.iconst 0, 1) := by decide +kernel
theorem dX9_pitches_65 : decode cX9_pitches 65 = .ok (.invokevirtual 308, 3) := by decide +kernel
theorem dX9_pitches_68 : decode cX9_pitches 68 = .ok (.aload_n 0, 1) := by decide +kernel
theorem dX9_pitches_69 : decode cX9_pitches 69 = .ok (.iload_n 1, 1) := by decide +kernel
theorem dX9_pitches_70 : decode cX9_pitches 70 = .ok (.iload_n 3, 1) := by decide +kernel
theorem dX9_pitches_71 : decode cX9_pitches 71 = .ok (.iconst 0, 1) := by decide +kernel
theorem dX9_pitches_72 : decode cX9_pitches 72 = .ok (.invokevirtual 308, 3) := by decide +kernel
theorem dX9_pitches_75 : decode cX9_pitches 75 = .ok (.if_icmp .eq 7, 3) := by decide +kernel
theorem dX9_pitches_78 : decode cX9_pitches 78 = .ok (.iconst 1, 1) := by decide +kernel
theorem dX9_pitches_79 : decode cX9_pitches 79 = .ok (.goto 4, 3) := by decide +kernel
theorem dX9_pitches_82 : decode cX9_pitches 82 = .ok (.iconst 0, 1) := by decide +kernel
theorem dX9_pitches_83 : decode cX9_pitches 83 = .ok (.istore 4, 2) := by decide +kernel
theorem dX9_pitches_85 : decode cX9_pitches 85 = .ok (.iinc 5 1, 3) := by decide +kernel
theorem dX9_pitches_88 : decode cX9_pitches 88 = .ok (.goto (-39), 3) := by decide +kernel
theorem dX9_pitches_91 : decode cX9_pitches 91 = .ok (.iload_n 2, 1) := by decide +kernel
theorem dX9_pitches_92 : decode cX9_pitches 92 = .ok (.iload 4, 2) := by decide +kernel
theorem dX9_pitches_94 : decode cX9_pitches 94 = .ok (.ifCond .eq 7, 3) := by decide +kernel
theorem dX9_pitches_97 : decode cX9_pitches 97 = .ok (.iconst 1, 1) := by decide +kernel
theorem dX9_pitches_98 : decode cX9_pitches 98 = .ok (.goto 4, 3) := by decide +kernel
theorem dX9_pitches_101 : decode cX9_pitches 101 = .ok (.iconst 0, 1) := by decide +kernel
theorem dX9_pitches_102 : decode cX9_pitches 102 = .ok (.iadd, 1) := by decide +kernel
theorem dX9_pitches_103 : decode cX9_pitches 103 = .ok (.istore_n 2, 1) := by decide +kernel
theorem dX9_pitches_104 : decode cX9_pitches 104 = .ok (.iinc 3 1, 3) := by decide +kernel
theorem dX9_pitches_107 : decode cX9_pitches 107 = .ok (.goto (-87), 3) := by decide +kernel
theorem dX9_pitches_110 : decode cX9_pitches 110 = .ok (.iload_n 2, 1) := by decide +kernel
theorem dX9_pitches_111 : decode cX9_pitches 111 = .ok (.ireturn, 1) := by decide +kernel
set_option maxHeartbeats 4000000 in
set_option maxRecDepth 100000 in
theorem m_X9_pitches (l : Launch) (D : va_G) (cy : Nat → ClassId) (g : Nat → Nat) (σ : ST) (p1 : Int32) (sz : Nat) (hJ : J9 (σ 9))  : Met l yX9_pitches (ww yX9_pitches cX9_pitches 6 (some .int)) ({ frames := 3, cells := 0, slots := 0, locals := 192 }) (va_Pc [.ref (g 60), .int p1] (pr9 D cy g σ sz)) (qi9 D cy g sz (fun r τ => Fr (fL [0]) σ τ ∧ J9 (τ 9) ∧ True)) 0 0 (A9 cy g sz) := by
  refine Met.ofW (cc := cX9_pitches) (maxL := 6) (ret := (some .int)) (by decide) rfl ?_
  intro p e s m args below meth c s₁ B hml hv
  obtain ⟨rfl, hsz, hP, hK, hD0, hC⟩ := hv
  have hx := B.exec
  have hb := B.bytes
  have hr := B.returns
  have hts := hts_g (atoms_spec (ws := ww yX9_pitches cX9_pitches 6 (some .int)) B.pre)
  have hown : s.vm.findClass RX9 = some m.cls := findClass_of_methodNamed B.named
  have hlocks := B.notSynchronized
  clear B
  subst hsz
  have hD := fun τ => A9_D (sz := s.heap.size) hD0 τ
  clear hD0
  have hS : va_S (A9 cy g s.heap.size) s.heap s.heap [] := va_S.rf
  have hl := lv_entry ([.ref (g 60), .int p1]) (n := 6) (Nat.le_of_ble_eq_true rfl)
  rw [lg_entry_eq]
  generalize (lg_sl ([.ref (g 60), .int p1]) ++ List.replicate (6 - (lg_sl ([.ref (g 60), .int p1])).length) Slot.unset).toArray = ls at hl ⊢
  have hl : lv_has ls 6 [(0, .ref (g 60)), (1, .int p1)] := hl
  refine lv_aload_n hx hb dX9_pitches_0 rfl (lv_at hl 0 rfl) ?_
  refine lv_iconst (v := 0) hx hb dX9_pitches_1 (by decide) ?_
  refine p9_0 hx hb hts hown hK hP hD hS (hts _ q1360) dX9_pitches_2 (fun H locs σ1 eσ1 hP hS => ?_)
  have hJ2 : J9 (σ1 9) := hJ.I eσ1 (show JI9 0 (0 : Int32) from trivial)
  refine lv_aload_n hx hb dX9_pitches_5 rfl (lv_at hl 0 rfl) ?_
  refine lv_iload_n hx hb dX9_pitches_6 rfl (lv_at hl 1 rfl) ?_
  refine va_calli (va_runV (As := [.int p1]) (rest := []) ⟨hx, hb, hml, hown, hts⟩ (m_X9_isPart l D cy g σ1 p1 _ hJ2 ) (cwV 1 hts (gd_V q1722 q1724 q74 q134 q1725) rfl rfl rfl (by decide +kernel) ⟨Nat.le_of_ble_eq_true rfl, Nat.le_of_ble_eq_true rfl⟩) (pv9 hP hK hD hC hS (va_recv hK hP (ci := 9) (q0 := 0) rfl rfl)) rfl rfl hl.1 rfl (lv_room (Nat.le_of_ble_eq_true rfl)) dX9_pitches_7 ⟨Nat.le_of_ble_eq_true rfl, Nat.le_of_ble_eq_true rfl⟩) hS (fun q _ h => up9 hS q h) (up9 hS) (fun r3 σ4 tS H1 locs ht hvm hw5 hB hz1 hk1 hS => ?_)
  have hP : va_P D clz (WD9 cy g σ4) H1 := by rw [← ht]; exact hB
  clear hB hz1 hk1 hvm ht
  generalize H1 = H at hP hS ⊢
  have hw5E : σ1 = σ4 := (hw5.1).symm
  subst hw5E
  have b6 : (0 : Int) ≤ r3.toInt ∧ r3.toInt ≤ 1 := hw5.2.1
  have b7 : (r3.toInt = 0) ∨ ((0 : Int) ≤ p1.toInt ∧ p1.toInt ≤ 2) := hw5.2.2.1
  have b8 : (r3.toInt = 0) ∨ (0 ≤ p1.toInt ∧ p1.toInt < ((σ1 9).2.2.1 17 4).toInt) := hw5.2.2.2.1
  refine lv_if_ne (tgt := 16) hx hb dX9_pitches_10 (by decide) (fun c9 => ?_) (fun c9 => ?_)
  ·
    have k10 := neq32 c9
    refine lv_iconst (v := 0) hx hb dX9_pitches_16 (by decide) ?_
    refine lv_istore_n (lv' := [(2, .int 0), (0, .ref (g 60)), (1, .int p1)]) hx hb dX9_pitches_17 rfl hl (by decide) rfl (fun ls hl => ?_)
    refine lv_iconst (v := 0) hx hb dX9_pitches_18 (by decide) ?_
    refine lv_istore_n (lv' := [(3, .int 0), (2, .int 0), (0, .ref (g 60)), (1, .int p1)]) hx hb dX9_pitches_19 rfl hl (by decide) rfl (fun ls hl => ?_)
    refine loop9 6 20 (fun x : LZ => [(3, .int (x.2.1 0)), (2, .int (x.2.1 1)), (0, .ref (g 60)), (1, .int p1)]) (fun x : LZ => (x.1 = σ1) ∧ ((0 : Int) ≤ (x.2.1 0).toInt ∧ (x.2.1 0).toInt ≤ 16) ∧ True) (fun x : LZ => ((17 : Int) - (x.2.1 0).toInt).toNat) ?_ (σ1, lf [0, 0], lg []) ⟨rfl, (show (0 : Int) ≤ (0 : Int32).toInt ∧ (0 : Int32).toInt ≤ 16 from (by have z0 : (0 : Int32).toInt = 0 := (by decide); omega)), trivial⟩ _ _ _ hP hS (lv_sub hl [0, 1, 2, 3] rfl)
    intro y13 hI12 nl11 H locs ls hP hS hl
    rw [show y13.1 = σ1 from hI12.1] at hP
    have b14 : (0 : Int) ≤ (y13.2.1 0).toInt ∧ (y13.2.1 0).toInt ≤ 16 := hI12.2.1
    have hl : lv_has ls 6 [(3, .int (y13.2.1 0)), (2, .int (y13.2.1 1)), (0, .ref (g 60)), (1, .int p1)] := hl
    refine lv_iload_n hx hb dX9_pitches_20 rfl (lv_at hl 0 rfl) ?_
    refine lv_aload_n hx hb dX9_pitches_21 rfl (lv_at hl 2 rfl) ?_
    refine g9_20 hx hb hts hown hK hP (hts _ q1380) dX9_pitches_22 ?_
    refine lv_iload_n hx hb dX9_pitches_25 rfl (lv_at hl 3 rfl) ?_
    obtain ⟨x15, ex15⟩ : ∃ z, (σ 9).2.2.1 20 p1.toInt.toNat = z := ⟨_, rfl⟩
    refine l9_20 (x := x15) hx hb hK hP (vpo (by have f0 := b7; have f1 := b8; have f2 := a9_17 hJ2 (j := 4) rfl; have f3 := congrArg Int32.toInt (show ((σ1 9).2.2.1 17 4) = ((σ 9).2.2.1 17 4) from congrFun (((sI_f eσ1) 9 17 rfl).2.2.1) _); have f4 := b6; have f5 := k10; have f6 := a9_17 hJ (j := 4) rfl; have g2 := rg32 p1; have z0 : (0 : Int32).toInt = 0 := (by decide); omega)) ((congrFun (((sI_f eσ1) 9 20 rfl).2.2.1) _).trans ex15) dX9_pitches_26 ?_
    have t16 := a9_20 hJ ex15
    refine lv_icmp_ge (tgt := 110) hx hb dX9_pitches_27 (by decide) (fun c17 => ?_) (fun c17 => ?_)
    ·
      have k18 := ple32 c17
      refine lv_iload_n hx hb dX9_pitches_110 rfl (lv_at hl 1 rfl) ?_
      exact W.iret (v := (y13.2.1 1)) hx hb hr (fun tS ht hW => ⟨⟨(y13.2.1 1), σ1, rfl, ⟨Fr.tr (Fr.rf) (sI_f eσ1) (fN_L rfl), hJ2, trivial⟩, (show va_P D clz (WD9 cy g σ1) tS.heap by rw [ht]; exact hP)⟩, hS.F ht⟩) hS.2.2 dX9_pitches_111
    ·
      have k19 := nle32 c17
      refine lv_aload_n hx hb dX9_pitches_30 rfl (lv_at hl 2 rfl) ?_
      refine lv_iload_n hx hb dX9_pitches_31 rfl (lv_at hl 3 rfl) ?_
      refine lv_iload_n hx hb dX9_pitches_32 rfl (lv_at hl 0 rfl) ?_
      refine va_calli (va_runV (As := [.int p1, .int (y13.2.1 0)]) (rest := []) ⟨hx, hb, hml, hown, hts⟩ (m_X9_isRest l D cy g σ1 p1 (y13.2.1 0) _ hJ2 (show (0 : Int) ≤ p1.toInt ∧ p1.toInt ≤ 2 from (by have f0 := b7; have f1 := b8; have f2 := t16; have f3 := a9_17 hJ2 (j := 4) rfl; have f4 := congrArg Int32.toInt (show ((σ1 9).2.2.1 17 4) = ((σ 9).2.2.1 17 4) from congrFun (((sI_f eσ1) 9 17 rfl).2.2.1) _); have f5 := b6; have f6 := k10; have f7 := k19; have f8 := a9_17 hJ (j := 4) rfl; have f9 := b14; have g2 := rg32 p1; have z0 : (0 : Int32).toInt = 0 := (by decide); omega)) (show (0 : Int) ≤ (y13.2.1 0).toInt ∧ (y13.2.1 0).toInt ≤ 15 from (by have f0 := b7; have f1 := b8; have f2 := b14; have f3 := t16; have f4 := k19; have f5 := a9_17 hJ2 (j := 4) rfl; have f6 := congrArg Int32.toInt (show ((σ1 9).2.2.1 17 4) = ((σ 9).2.2.1 17 4) from congrFun (((sI_f eσ1) 9 17 rfl).2.2.1) _); have f7 := b6; have f8 := k10; have f9 := a9_17 hJ (j := 4) rfl; have g2 := rg32 (y13.2.1 0); have g3 := rg32 p1; have z0 : (0 : Int32).toInt = 0 := (by decide); omega))) (cwV 2 hts (gd_V q1838 q1840 q91 q134 q1841) rfl rfl rfl (by decide +kernel) ⟨Nat.le_of_ble_eq_true rfl, Nat.le_of_ble_eq_true rfl⟩) (pv9 hP hK hD hC hS (va_recv hK hP (ci := 9) (q0 := 0) rfl rfl)) rfl rfl hl.1 rfl (lv_room (Nat.le_of_ble_eq_true rfl)) dX9_pitches_33 ⟨Nat.le_of_ble_eq_true rfl, Nat.le_of_ble_eq_true rfl⟩) hS (fun q _ h => up9 hS q h) (up9 hS) (fun r20 σ21 tS H1 locs ht hvm hw22 hB hz1 hk1 hS => ?_)
      have hP : va_P D clz (WD9 cy g σ21) H1 := by rw [← ht]; exact hB
      clear hB hz1 hk1 hvm ht
      generalize H1 = H at hP hS ⊢
      have hw22E : σ1 = σ21 := (hw22.1).symm
      subst hw22E
      have b23 : (0 : Int) ≤ r20.toInt ∧ r20.toInt ≤ 1 := hw22.2.1
      refine cut9 (D := D) (cy := cy) (g := g) (A := A9 cy g s.heap.size) (H0 := s.heap) 6 44 (fun x : LZ => [(3, .int (y13.2.1 0)), (2, .int (y13.2.1 1)), (0, .ref (g 60)), (1, .int p1)]) (fun x : LZ => [.int (x.2.1 0)]) (fun x : LZ => (x.1 = σ1) ∧ ((0 : Int) ≤ (x.2.1 0).toInt ∧ (x.2.1 0).toInt ≤ 1) ∧ True) ?_ ?_
      ·
        intro y26 hI25 H locs ls hP hS hl
        rw [show y26.1 = σ1 from hI25.1] at hP
        have b27 : (0 : Int) ≤ (y26.2.1 0).toInt ∧ (y26.2.1 0).toInt ≤ 1 := hI25.2.1
        have hl : lv_has ls 6 [(3, .int (y13.2.1 0)), (2, .int (y13.2.1 1)), (0, .ref (g 60)), (1, .int p1)] := hl
        refine W.eq (g2 := F0 m 44 ls [.int (y26.2.1 0)]) rfl ?_
        refine lv_istore (lv' := [(4, .int (y26.2.1 0)), (3, .int (y13.2.1 0)), (2, .int (y13.2.1 1)), (0, .ref (g 60)), (1, .int p1)]) hx hb dX9_pitches_44 hl (by decide) rfl (fun ls hl => ?_)
        refine lv_iconst (v := 0) hx hb dX9_pitches_46 (by decide) ?_
        refine lv_istore (lv' := [(5, .int 0), (4, .int (y26.2.1 0)), (3, .int (y13.2.1 0)), (2, .int (y13.2.1 1)), (0, .ref (g 60)), (1, .int p1)]) hx hb dX9_pitches_47 hl (by decide) rfl (fun ls hl => ?_)
        refine loop9 6 49 (fun x : LZ => [(5, .int (x.2.1 0)), (4, .int (x.2.1 1)), (3, .int (y13.2.1 0)), (2, .int (y13.2.1 1)), (0, .ref (g 60)), (1, .int p1)]) (fun x : LZ => (x.1 = σ1) ∧ ((0 : Int) ≤ (x.2.1 0).toInt ∧ (x.2.1 0).toInt ≤ 15) ∧ ((0 : Int) ≤ (x.2.1 1).toInt ∧ (x.2.1 1).toInt ≤ 1) ∧ True) (fun x : LZ => ((16 : Int) - (x.2.1 0).toInt).toNat) ?_ (σ1, lf [0, (y26.2.1 0)], lg []) ⟨rfl, (show (0 : Int) ≤ (0 : Int32).toInt ∧ (0 : Int32).toInt ≤ 15 from (by have z0 : (0 : Int32).toInt = 0 := (by decide); omega)), (show (0 : Int) ≤ ((y26.2.1 0) : Int32).toInt ∧ ((y26.2.1 0) : Int32).toInt ≤ 1 from (by have f0 := b27; have g0 := rg32 (y26.2.1 0); omega)), trivial⟩ _ _ _ hP hS (lv_sub hl [0, 1, 2, 3, 4, 5] rfl)
        intro y30 hI29 nl28 H locs ls hP hS hl
        rw [show y30.1 = σ1 from hI29.1] at hP
        have b31 : (0 : Int) ≤ (y30.2.1 0).toInt ∧ (y30.2.1 0).toInt ≤ 15 := hI29.2.1
        have b32 : (0 : Int) ≤ (y30.2.1 1).toInt ∧ (y30.2.1 1).toInt ≤ 1 := hI29.2.2.1
        have hl : lv_has ls 6 [(5, .int (y30.2.1 0)), (4, .int (y30.2.1 1)), (3, .int (y13.2.1 0)), (2, .int (y13.2.1 1)), (0, .ref (g 60)), (1, .int p1)] := hl
        refine lv_iload hx hb dX9_pitches_49 (lv_at hl 0 rfl) ?_
        refine lv_iload_n hx hb dX9_pitches_51 rfl (lv_at hl 2 rfl) ?_
        refine cut9 (D := D) (cy := cy) (g := g) (A := A9 cy g s.heap.size) (H0 := s.heap) 6 91 (fun x : LZ => [(5, .int (y30.2.1 0)), (4, .int (y30.2.1 1)), (3, .int (y13.2.1 0)), (2, .int (y13.2.1 1)), (0, .ref (g 60)), (1, .int p1)]) (fun x : LZ => []) (fun x : LZ => (x.1 = σ1) ∧ True) ?_ ?_
        ·
          intro y35 hI34 H locs ls hP hS hl
          rw [show y35.1 = σ1 from hI34.1] at hP
          have hl : lv_has ls 6 [(5, .int (y30.2.1 0)), (4, .int (y30.2.1 1)), (3, .int (y13.2.1 0)), (2, .int (y13.2.1 1)), (0, .ref (g 60)), (1, .int p1)] := hl
          refine lv_iload_n hx hb dX9_pitches_91 rfl (lv_at hl 3 rfl) ?_
          refine lv_iload hx hb dX9_pitches_92 (lv_at hl 1 rfl) ?_
          refine cut9 (D := D) (cy := cy) (g := g) (A := A9 cy g s.heap.size) (H0 := s.heap) 6 102 (fun x : LZ => [(5, .int (y30.2.1 0)), (4, .int (y30.2.1 1)), (3, .int (y13.2.1 0)), (2, .int (y13.2.1 1)), (0, .ref (g 60)), (1, .int p1)]) (fun x : LZ => [.int (x.2.1 0), .int (y13.2.1 1)]) (fun x : LZ => (x.1 = σ1) ∧ ((0 : Int) ≤ (x.2.1 0).toInt ∧ (x.2.1 0).toInt ≤ 1) ∧ True) ?_ ?_
          ·
            intro y38 hI37 H locs ls hP hS hl
            rw [show y38.1 = σ1 from hI37.1] at hP
            have b39 : (0 : Int) ≤ (y38.2.1 0).toInt ∧ (y38.2.1 0).toInt ≤ 1 := hI37.2.1
            have hl : lv_has ls 6 [(5, .int (y30.2.1 0)), (4, .int (y30.2.1 1)), (3, .int (y13.2.1 0)), (2, .int (y13.2.1 1)), (0, .ref (g 60)), (1, .int p1)] := hl
            refine W.eq (g2 := F0 m 102 ls [.int (y38.2.1 0), .int (y13.2.1 1)]) rfl ?_
            refine lv_iadd hx hb dX9_pitches_102 ?_
            refine lv_topi (fun x40 ex40 => ?_)
            refine lv_istore_n (lv' := [(2, .int x40), (5, .int (y30.2.1 0)), (4, .int (y30.2.1 1)), (3, .int (y13.2.1 0)), (0, .ref (g 60)), (1, .int p1)]) hx hb dX9_pitches_103 rfl hl (by decide) rfl (fun ls hl => ?_)
            obtain ⟨x41, ex41⟩ : ∃ y : Int32, y = (y13.2.1 0) + 1 := ⟨_, rfl⟩
            have t42 := addO ex41 (by have f0 := b14; have f1 := k19; have f2 := t16; have f3 := b7; have f4 := b8; have f5 := a9_17 hJ2 (j := 4) rfl; have f6 := congrArg Int32.toInt (show ((σ1 9).2.2.1 17 4) = ((σ 9).2.2.1 17 4) from congrFun (((sI_f eσ1) 9 17 rfl).2.2.1) _); have f7 := b6; have f8 := k10; have f9 := a9_17 hJ (j := 4) rfl; have g2 := rg32 (y13.2.1 0); have z0 : (0 : Int32).toInt = 0 := (by decide); have z1 : (1 : Int32).toInt = 1 := (by decide); omega)
            refine lv_iinc (v := x41) (lv' := [(3, .int x41), (2, .int x40), (5, .int (y30.2.1 0)), (4, .int (y30.2.1 1)), (0, .ref (g 60)), (1, .int p1)]) hx hb dX9_pitches_104 hl (k := 3) rfl (by rw [ex41]; rfl) (by decide) rfl (fun ls hl => ?_)
            refine lv_goto (tgt := 20) hx hb dX9_pitches_107 (by decide) ?_
            have t43 : ((17 : Int) - x41.toInt).toNat < ((17 : Int) - (y13.2.1 0).toInt).toNat := (by have f0 := b14; have f1 := k19; have f2 := t42; have f3 := t16; have f4 := b7; have f5 := b8; have f6 := a9_17 hJ2 (j := 4) rfl; have f7 := congrArg Int32.toInt (show ((σ1 9).2.2.1 17 4) = ((σ 9).2.2.1 17 4) from congrFun (((sI_f eσ1) 9 17 rfl).2.2.1) _); have f8 := b6; have f9 := k10; have f10 := a9_17 hJ (j := 4) rfl; have g2 := rg32 (y13.2.1 0); have g3 := rg32 x41; have z0 : (0 : Int32).toInt = 0 := (by decide); have z1 : (1 : Int32).toInt = 1 := (by decide); omega)
            exact nl11 (σ1, lf [x41, x40], lg []) ⟨rfl, (show (0 : Int) ≤ (x41 : Int32).toInt ∧ (x41 : Int32).toInt ≤ 16 from (by have f0 := t42; have f1 := b14; have f2 := k19; have f3 := t16; have f4 := b7; have f5 := b8; have f6 := a9_17 hJ2 (j := 4) rfl; have f7 := congrArg Int32.toInt (show ((σ1 9).2.2.1 17 4) = ((σ 9).2.2.1 17 4) from congrFun (((sI_f eσ1) 9 17 rfl).2.2.1) _); have f8 := b6; have f9 := k10; have f10 := a9_17 hJ (j := 4) rfl; have g2 := rg32 x41; have z0 : (0 : Int32).toInt = 0 := (by decide); have z1 : (1 : Int32).toInt = 1 := (by decide); omega)), trivial⟩ (show ((17 : Int) - x41.toInt).toNat < _ from t43) _ _ _ hP hS (lv_sub hl [0, 1, 4, 5] rfl)
          ·
            intro nj36
            refine lv_if_eq (tgt := 101) hx hb dX9_pitches_94 (by decide) (fun c44 => ?_) (fun c44 => ?_)
            ·
              have k45 := peq32 c44
              refine lv_iconst (v := 0) hx hb dX9_pitches_101 (by decide) ?_
              exact nj36 (σ1, lf [0], lg []) ⟨rfl, (show (0 : Int) ≤ (0 : Int32).toInt ∧ (0 : Int32).toInt ≤ 1 from (by have z0 : (0 : Int32).toInt = 0 := (by decide); omega)), trivial⟩ _ _ _ hP hS (lv_sub hl [0, 1, 2, 3, 4, 5] rfl)
            ·
              have k46 := neq32 c44
              refine lv_iconst (v := 1) hx hb dX9_pitches_97 (by decide) ?_
              refine lv_goto (tgt := 102) hx hb dX9_pitches_98 (by decide) ?_
              exact nj36 (σ1, lf [1], lg []) ⟨rfl, (show (0 : Int) ≤ (1 : Int32).toInt ∧ (1 : Int32).toInt ≤ 1 from (by have z1 : (1 : Int32).toInt = 1 := (by decide); omega)), trivial⟩ _ _ _ hP hS (lv_sub hl [0, 1, 2, 3, 4, 5] rfl)
        ·
          intro nj33
          refine lv_icmp_ge (tgt := 91) hx hb dX9_pitches_52 (by decide) (fun c47 => ?_) (fun c47 => ?_)
          ·
            have k48 := ple32 c47
            exact nj33 (σ1, lf [], lg []) ⟨rfl, trivial⟩ _ _ _ hP hS (lv_sub hl [0, 1, 2, 3, 4, 5] rfl)
          ·
            have k49 := nle32 c47
            refine lv_iload hx hb dX9_pitches_55 (lv_at hl 1 rfl) ?_
            refine lv_if_eq (tgt := 91) hx hb dX9_pitches_57 (by decide) (fun c50 => ?_) (fun c50 => ?_)
            ·
              have k51 := peq32 c50
              exact nj33 (σ1, lf [], lg []) ⟨rfl, trivial⟩ _ _ _ hP hS (lv_sub hl [0, 1, 2, 3, 4, 5] rfl)
            ·
              have k52 := neq32 c50
              refine lv_aload_n hx hb dX9_pitches_60 rfl (lv_at hl 4 rfl) ?_
              refine lv_iload_n hx hb dX9_pitches_61 rfl (lv_at hl 5 rfl) ?_
              refine lv_iload hx hb dX9_pitches_62 (lv_at hl 0 rfl) ?_
              refine lv_iconst (v := 0) hx hb dX9_pitches_64 (by decide) ?_
              refine va_calli (va_runV (As := [.int p1, .int (y30.2.1 0), .int 0]) (rest := []) ⟨hx, hb, hml, hown, hts⟩ (m_X9_toneOf l D cy g σ1 p1 (y30.2.1 0) (0) _ hJ2 (show (0 : Int) ≤ p1.toInt ∧ p1.toInt ≤ 2 from (by have f0 := b7; have f1 := b8; have f2 := t16; have f3 := a9_17 hJ2 (j := 4) rfl; have f4 := congrArg Int32.toInt (show ((σ1 9).2.2.1 17 4) = ((σ 9).2.2.1 17 4) from congrFun (((sI_f eσ1) 9 17 rfl).2.2.1) _); have f5 := b6; have f6 := k10; have f7 := k19; have f8 := a9_17 hJ (j := 4) rfl; have f9 := b14; have f10 := k49; have f11 := b31; have g2 := rg32 p1; have z0 : (0 : Int32).toInt = 0 := (by decide); omega)) (show (0 : Int) ≤ (y30.2.1 0).toInt ∧ (y30.2.1 0).toInt ≤ 15 from (by have f0 := b7; have f1 := b8; have f2 := t16; have f3 := b31; have f4 := k49; have f5 := a9_17 hJ2 (j := 4) rfl; have f6 := congrArg Int32.toInt (show ((σ1 9).2.2.1 17 4) = ((σ 9).2.2.1 17 4) from congrFun (((sI_f eσ1) 9 17 rfl).2.2.1) _); have f7 := b6; have f8 := k10; have f9 := b14; have f10 := k19; have f11 := a9_17 hJ (j := 4) rfl; have g2 := rg32 (y30.2.1 0); have g3 := rg32 p1; have z0 : (0 : Int32).toInt = 0 := (by decide); omega)) (show (0 : Int) ≤ (0 : Int32).toInt ∧ (0 : Int32).toInt ≤ 3 from (by have f0 := b7; have f1 := b8; have f2 := t16; have f3 := b31; have f4 := k49; have f5 := a9_17 hJ2 (j := 4) rfl; have f6 := congrArg Int32.toInt (show ((σ1 9).2.2.1 17 4) = ((σ 9).2.2.1 17 4) from congrFun (((sI_f eσ1) 9 17 rfl).2.2.1) _); have f7 := b6; have f8 := k10; have f9 := b14; have f10 := k19; have f11 := a9_17 hJ (j := 4) rfl; have g2 := rg32 (y30.2.1 0); have g3 := rg32 p1; have z0 : (0 : Int32).toInt = 0 := (by decide); omega))) (cwV 3 hts (gd_V q1727 q1729 q75 q134 q1730) rfl rfl rfl (by decide +kernel) ⟨Nat.le_of_ble_eq_true rfl, Nat.le_of_ble_eq_true rfl⟩) (pv9 hP hK hD hC hS (va_recv hK hP (ci := 9) (q0 := 0) rfl rfl)) rfl rfl hl.1 rfl (lv_room (Nat.le_of_ble_eq_true rfl)) dX9_pitches_65 ⟨Nat.le_of_ble_eq_true rfl, Nat.le_of_ble_eq_true rfl⟩) hS (fun q _ h => up9 hS q h) (up9 hS) (fun r53 σ54 tS H1 locs ht hvm hw55 hB hz1 hk1 hS => ?_)
              have hP : va_P D clz (WD9 cy g σ54) H1 := by rw [← ht]; exact hB
              clear hB hz1 hk1 hvm ht
              generalize H1 = H at hP hS ⊢
              have hw55E : σ1 = σ54 := (hw55.1).symm
              subst hw55E
              have b56 : (-1 : Int) ≤ r53.toInt ∧ r53.toInt ≤ 60 := hw55.2.1
              have b57 : ¬ (0 : Int32).toInt = 1 ∨ 0 ≤ r53.toInt := hw55.2.2.1
              refine lv_aload_n hx hb dX9_pitches_68 rfl (lv_at hl 4 rfl) ?_
              refine lv_iload_n hx hb dX9_pitches_69 rfl (lv_at hl 5 rfl) ?_
              refine lv_iload_n hx hb dX9_pitches_70 rfl (lv_at hl 2 rfl) ?_
              refine lv_iconst (v := 0) hx hb dX9_pitches_71 (by decide) ?_
              refine va_calli (va_runV (As := [.int p1, .int (y13.2.1 0), .int 0]) (rest := [.int r53]) ⟨hx, hb, hml, hown, hts⟩ (m_X9_toneOf l D cy g σ1 p1 (y13.2.1 0) (0) _ hJ2 (show (0 : Int) ≤ p1.toInt ∧ p1.toInt ≤ 2 from (by have f0 := b7; have f1 := b8; have f2 := t16; have f3 := a9_17 hJ2 (j := 4) rfl; have f4 := congrArg Int32.toInt (show ((σ1 9).2.2.1 17 4) = ((σ 9).2.2.1 17 4) from congrFun (((sI_f eσ1) 9 17 rfl).2.2.1) _); have f5 := b6; have f6 := k10; have f7 := k19; have f8 := a9_17 hJ (j := 4) rfl; have f9 := b14; have f10 := k49; have f11 := b31; have g2 := rg32 p1; have z0 : (0 : Int32).toInt = 0 := (by decide); omega)) (show (0 : Int) ≤ (y13.2.1 0).toInt ∧ (y13.2.1 0).toInt ≤ 15 from (by have f0 := b7; have f1 := b8; have f2 := b14; have f3 := t16; have f4 := k19; have f5 := k49; have f6 := a9_17 hJ2 (j := 4) rfl; have f7 := congrArg Int32.toInt (show ((σ1 9).2.2.1 17 4) = ((σ 9).2.2.1 17 4) from congrFun (((sI_f eσ1) 9 17 rfl).2.2.1) _); have f8 := b6; have f9 := k10; have f10 := b31; have f11 := a9_17 hJ (j := 4) rfl; have g2 := rg32 (y13.2.1 0); have g3 := rg32 p1; have z0 : (0 : Int32).toInt = 0 := (by decide); omega)) (show (0 : Int) ≤ (0 : Int32).toInt ∧ (0 : Int32).toInt ≤ 3 from (by have f0 := b7; have f1 := b8; have f2 := b14; have f3 := t16; have f4 := k19; have f5 := k49; have f6 := a9_17 hJ2 (j := 4) rfl; have f7 := congrArg Int32.toInt (show ((σ1 9).2.2.1 17 4) = ((σ 9).2.2.1 17 4) from congrFun (((sI_f eσ1) 9 17 rfl).2.2.1) _); have f8 := b6; have f9 := k10; have f10 := b31; have f11 := a9_17 hJ (j := 4) rfl; have g2 := rg32 (y13.2.1 0); have g3 := rg32 p1; have z0 : (0 : Int32).toInt = 0 := (by decide); omega))) (cwV 3 hts (gd_V q1727 q1729 q75 q134 q1730) rfl rfl rfl (by decide +kernel) ⟨Nat.le_of_ble_eq_true rfl, Nat.le_of_ble_eq_true rfl⟩) (pv9 hP hK hD hC hS (va_recv hK hP (ci := 9) (q0 := 0) rfl rfl)) rfl rfl hl.1 rfl (lv_room (Nat.le_of_ble_eq_true rfl)) dX9_pitches_72 ⟨Nat.le_of_ble_eq_true rfl, Nat.le_of_ble_eq_true rfl⟩) hS (fun q _ h => up9 hS q h) (up9 hS) (fun r58 σ59 tS H1 locs ht hvm hw60 hB hz1 hk1 hS => ?_)
              have hP : va_P D clz (WD9 cy g σ59) H1 := by rw [← ht]; exact hB
              clear hB hz1 hk1 hvm ht
              generalize H1 = H at hP hS ⊢
              have hw60E : σ1 = σ59 := (hw60.1).symm
              subst hw60E
              have b61 : (-1 : Int) ≤ r58.toInt ∧ r58.toInt ≤ 60 := hw60.2.1
              have b62 : ¬ (0 : Int32).toInt = 1 ∨ 0 ≤ r58.toInt := hw60.2.2.1
              refine cut9 (D := D) (cy := cy) (g := g) (A := A9 cy g s.heap.size) (H0 := s.heap) 6 83 (fun x : LZ => [(5, .int (y30.2.1 0)), (4, .int (y30.2.1 1)), (3, .int (y13.2.1 0)), (2, .int (y13.2.1 1)), (0, .ref (g 60)), (1, .int p1)]) (fun x : LZ => [.int (x.2.1 0)]) (fun x : LZ => (x.1 = σ1) ∧ ((0 : Int) ≤ (x.2.1 0).toInt ∧ (x.2.1 0).toInt ≤ 1) ∧ True) ?_ ?_
              ·
                intro y65 hI64 H locs ls hP hS hl
                rw [show y65.1 = σ1 from hI64.1] at hP
                have b66 : (0 : Int) ≤ (y65.2.1 0).toInt ∧ (y65.2.1 0).toInt ≤ 1 := hI64.2.1
                have hl : lv_has ls 6 [(5, .int (y30.2.1 0)), (4, .int (y30.2.1 1)), (3, .int (y13.2.1 0)), (2, .int (y13.2.1 1)), (0, .ref (g 60)), (1, .int p1)] := hl
                refine W.eq (g2 := F0 m 83 ls [.int (y65.2.1 0)]) rfl ?_
                refine lv_istore (lv' := [(4, .int (y65.2.1 0)), (5, .int (y30.2.1 0)), (3, .int (y13.2.1 0)), (2, .int (y13.2.1 1)), (0, .ref (g 60)), (1, .int p1)]) hx hb dX9_pitches_83 hl (by decide) rfl (fun ls hl => ?_)
                obtain ⟨x67, ex67⟩ : ∃ y : Int32, y = (y30.2.1 0) + 1 := ⟨_, rfl⟩
                have t68 := addO ex67 (by have f0 := b31; have f1 := k49; have f2 := b14; have f3 := k19; have f4 := t16; have f5 := b7; have f6 := b8; have f7 := a9_17 hJ2 (j := 4) rfl; have f8 := congrArg Int32.toInt (show ((σ1 9).2.2.1 17 4) = ((σ 9).2.2.1 17 4) from congrFun (((sI_f eσ1) 9 17 rfl).2.2.1) _); have f9 := b6; have f10 := k10; have f11 := a9_17 hJ (j := 4) rfl; have g2 := rg32 (y30.2.1 0); have z0 : (0 : Int32).toInt = 0 := (by decide); have z1 : (1 : Int32).toInt = 1 := (by decide); omega)
                refine lv_iinc (v := x67) (lv' := [(5, .int x67), (4, .int (y65.2.1 0)), (3, .int (y13.2.1 0)), (2, .int (y13.2.1 1)), (0, .ref (g 60)), (1, .int p1)]) hx hb dX9_pitches_85 hl (k := 1) rfl (by rw [ex67]; rfl) (by decide) rfl (fun ls hl => ?_)
                refine lv_goto (tgt := 49) hx hb dX9_pitches_88 (by decide) ?_
                have t69 : ((16 : Int) - x67.toInt).toNat < ((16 : Int) - (y30.2.1 0).toInt).toNat := (by have f0 := b31; have f1 := k49; have f2 := t68; have f3 := b14; have f4 := k19; have f5 := t16; have f6 := b7; have f7 := b8; have f8 := a9_17 hJ2 (j := 4) rfl; have f9 := congrArg Int32.toInt (show ((σ1 9).2.2.1 17 4) = ((σ 9).2.2.1 17 4) from congrFun (((sI_f eσ1) 9 17 rfl).2.2.1) _); have f10 := b6; have f11 := k10; have f12 := a9_17 hJ (j := 4) rfl; have g2 := rg32 (y30.2.1 0); have g3 := rg32 x67; have z0 : (0 : Int32).toInt = 0 := (by decide); have z1 : (1 : Int32).toInt = 1 := (by decide); omega)
                exact nl28 (σ1, lf [x67, (y65.2.1 0)], lg []) ⟨rfl, (show (0 : Int) ≤ (x67 : Int32).toInt ∧ (x67 : Int32).toInt ≤ 15 from (by have f0 := t68; have f1 := b31; have f2 := k49; have f3 := b14; have f4 := k19; have f5 := t16; have f6 := b7; have f7 := b8; have f8 := a9_17 hJ2 (j := 4) rfl; have f9 := congrArg Int32.toInt (show ((σ1 9).2.2.1 17 4) = ((σ 9).2.2.1 17 4) from congrFun (((sI_f eσ1) 9 17 rfl).2.2.1) _); have f10 := b6; have f11 := k10; have f12 := a9_17 hJ (j := 4) rfl; have g2 := rg32 x67; have z0 : (0 : Int32).toInt = 0 := (by decide); have z1 : (1 : Int32).toInt = 1 := (by decide); omega)), (show (0 : Int) ≤ ((y65.2.1 0) : Int32).toInt ∧ ((y65.2.1 0) : Int32).toInt ≤ 1 from (by have f0 := b66; have g0 := rg32 (y65.2.1 0); omega)), trivial⟩ (show ((16 : Int) - x67.toInt).toNat < _ from t69) _ _ _ hP hS (lv_sub hl [0, 1, 2, 3, 4, 5] rfl)
              ·
                intro nj63
                refine lv_icmp_eq (tgt := 82) hx hb dX9_pitches_75 (by decide) (fun c70 => ?_) (fun c70 => ?_)
                ·
                  have k71 := peq32 c70
                  refine lv_iconst (v := 0) hx hb dX9_pitches_82 (by decide) ?_
                  exact nj63 (σ1, lf [0], lg []) ⟨rfl, (show (0 : Int) ≤ (0 : Int32).toInt ∧ (0 : Int32).toInt ≤ 1 from (by have z0 : (0 : Int32).toInt = 0 := (by decide); omega)), trivial⟩ _ _ _ hP hS (lv_sub hl [0, 1, 2, 3, 4, 5] rfl)
                ·
                  have k72 := neq32 c70
                  refine lv_iconst (v := 1) hx hb dX9_pitches_78 (by decide) ?_
                  refine lv_goto (tgt := 83) hx hb dX9_pitches_79 (by decide) ?_
                  exact nj63 (σ1, lf [1], lg []) ⟨rfl, (show (0 : Int) ≤ (1 : Int32).toInt ∧ (1 : Int32).toInt ≤ 1 from (by have z1 : (1 : Int32).toInt = 1 := (by decide); omega)), trivial⟩ _ _ _ hP hS (lv_sub hl [0, 1, 2, 3, 4, 5] rfl)
      ·
        intro nj24
        refine lv_if_ne (tgt := 43) hx hb dX9_pitches_36 (by decide) (fun c73 => ?_) (fun c73 => ?_)
        ·
          have k74 := neq32 c73
          refine lv_iconst (v := 0) hx hb dX9_pitches_43 (by decide) ?_
          exact nj24 (σ1, lf [0], lg []) ⟨rfl, (show (0 : Int) ≤ (0 : Int32).toInt ∧ (0 : Int32).toInt ≤ 1 from (by have z0 : (0 : Int32).toInt = 0 := (by decide); omega)), trivial⟩ _ _ _ hP hS (lv_sub hl [0, 1, 2, 3] rfl)
        ·
          have k75 := peq32 c73
          refine lv_iconst (v := 1) hx hb dX9_pitches_39 (by decide) ?_
          refine lv_goto (tgt := 44) hx hb dX9_pitches_40 (by decide) ?_
          exact nj24 (σ1, lf [1], lg []) ⟨rfl, (show (0 : Int) ≤ (1 : Int32).toInt ∧ (1 : Int32).toInt ≤ 1 from (by have z1 : (1 : Int32).toInt = 1 := (by decide); omega)), trivial⟩ _ _ _ hP hS (lv_sub hl [0, 1, 2, 3] rfl)
  ·
    have k76 := peq32 c9
    refine lv_bipush (v := (-2)) hx hb dX9_pitches_13 (by decide) ?_
    exact W.iret (v := (-2)) hx hb hr (fun tS ht hW => ⟨⟨(-2), σ1, rfl, ⟨Fr.tr (Fr.rf) (sI_f eσ1) (fN_L rfl), hJ2, trivial⟩, (show va_P D clz (WD9 cy g σ1) tS.heap by rw [ht]; exact hP)⟩, hS.F ht⟩) hS.2.2 dX9_pitches_15

theorem q2139 : Cond.code yX9_count cX9_count 4 (some .int) ∈ lw_g := lw_gm (List.mem_of_getElem? (i := 2139) (by decide +kernel)) rfl
theorem dX9_count_0 : decode cX9_count 0 = .ok (.aload_n 0, 1) := by decide +kernel
theorem dX9_count_1 : decode cX9_count 1 = .ok (.iconst 0, 1) := by decide +kernel
theorem dX9_count_2 : decode cX9_count 2 = .ok (.putfield 129, 3) := by decide +kernel
theorem dX9_count_5 : decode cX9_count 5 = .ok (.iload_n 1, 1) := by decide +kernel
theorem dX9_count_6 : decode cX9_count 6 = .ok (.i2l, 1) := by decide +kernel
theorem dX9_count_7 : decode cX9_count 7 = .ok (.lconst 0, 1) := by decide +kernel
theorem dX9_count_8 : decode cX9_count 8 = .ok (.ldc2_w 324, 3) := by decide +kernel
theorem dX9_count_11 : decode cX9_count 11 = .ok (.invokestatic 134, 3) := by decide +kernel
theorem dX9_count_14 : decode cX9_count 14 = .ok (.ifCond .eq 10, 3) := by decide +kernel
theorem dX9_count_17 : decode cX9_count 17 = .ok (.aload_n 0, 1) := by decide +kernel
theorem dX9_count_18 : decode cX9_count 18 = .ok (.getfield 34, 3) := by decide +kernel
theorem dX9_count_21 : decode cX9_count 21 = .ok (.iload_n 1, 1) := by decide +kernel
theorem dX9_count_22 : decode cX9_count 22 = .ok (.iaload, 1) := by decide +kernel
theorem dX9_count_23 : decode cX9_count 23 = .ok (.ireturn, 1) := by decide +kernel
theorem dX9_count_24 : decode cX9_count 24 = .ok (.iconst 0, 1) := by decide +kernel
theorem dX9_count_25 : decode cX9_count 25 = .ok (.istore_n 2, 1) := by decide +kernel
theorem dX9_count_26 : decode cX9_count 26 = .ok (.iload_n 1, 1) := by decide +kernel
theorem dX9_count_27 : decode cX9_count 27 = .ok (.tableswitch 70 5 7 #[25, 32, 37], 25) := by decide +kernel
theorem dX9_count_52 : decode cX9_count 52 = .ok (.aload_n 0, 1) := by decide +kernel
theorem dX9_count_53 : decode cX9_count 53 = .ok (.getfield 31, 3) := by decide +kernel
theorem dX9_count_56 : decode cX9_count 56 = .ok (.iconst 0, 1) := by decide +kernel
theorem dX9_count_57 : decode cX9_count 57 = .ok (.iaload, 1) := by decide +kernel
theorem dX9_count_58 : decode cX9_count 58 = .ok (.ireturn, 1) := by decide +kernel
theorem dX9_count_59 : decode cX9_count 59 = .ok (.aload_n 0, 1) := by decide +kernel
theorem dX9_count_60 : decode cX9_count 60 = .ok (.getfield 146, 3) := by decide +kernel
theorem dX9_count_63 : decode cX9_count 63 = .ok (.ireturn, 1) := by decide +kernel
theorem dX9_count_64 : decode cX9_count 64 = .ok (.iconst 0, 1) := by decide +kernel
theorem dX9_count_65 : decode cX9_count 65 = .ok (.istore_n 3, 1) := by decide +kernel
theorem dX9_count_66 : decode cX9_count 66 = .ok (.iload_n 3, 1) := by decide +kernel
theorem dX9_count_67 : decode cX9_count 67 = .ok (.iconst 4, 1) := by decide +kernel
theorem dX9_count_68 : decode cX9_count 68 = .ok (.if_icmp .ge 27, 3) := by decide +kernel
theorem dX9_count_71 : decode cX9_count 71 = .ok (.iload_n 2, 1) := by decide +kernel
theorem dX9_count_72 : decode cX9_count 72 = .ok (.aload_n 0, 1) := by decide +kernel
theorem dX9_count_73 : decode cX9_count 73 = .ok (.getfield 7, 3) := by decide +kernel
theorem dX9_count_76 : decode cX9_count 76 = .ok (.iload_n 3, 1) := by decide +kernel
theorem dX9_count_77 : decode cX9_count 77 = .ok (.iaload, 1) := by decide +kernel
theorem dX9_count_78 : decode cX9_count 78 = .ok (.iconst (-1), 1) := by decide +kernel
theorem dX9_count_79 : decode cX9_count 79 = .ok (.if_icmp .ne 7, 3) := by decide +kernel
theorem dX9_count_82 : decode cX9_count 82 = .ok (.iconst 0, 1) := by decide +kernel
theorem dX9_count_83 : decode cX9_count 83 = .ok (.goto 4, 3) := by decide +kernel
theorem dX9_count_86 : decode cX9_count 86 = .ok (.iconst 1, 1) := by decide +kernel
theorem dX9_count_87 : decode cX9_count 87 = .ok (.iadd, 1) := by decide +kernel
theorem dX9_count_88 : decode cX9_count 88 = .ok (.istore_n 2, 1) := by decide +kernel
theorem dX9_count_89 : decode cX9_count 89 = .ok (.iinc 3 1, 3) := by decide +kernel
theorem dX9_count_92 : decode cX9_count 92 = .ok (.goto (-26), 3) := by decide +kernel
theorem dX9_count_95 : decode cX9_count 95 = .ok (.iload_n 2, 1) := by decide +kernel
theorem dX9_count_96 : decode cX9_count 96 = .ok (.ireturn, 1) := by decide +kernel
theorem dX9_count_97 : decode cX9_count 97 = .ok (.iconst (-1), 1) := by decide +kernel
theorem dX9_count_98 : decode cX9_count 98 = .ok (.ireturn, 1) := by decide +kernel
set_option maxHeartbeats 4000000 in
set_option maxRecDepth 100000 in
theorem m_X9_count (l : Launch) (D : va_G) (cy : Nat → ClassId) (g : Nat → Nat) (σ : ST) (p1 : Int32) (sz : Nat) (hJ : J9 (σ 9))  : Met l yX9_count (ww yX9_count cX9_count 4 (some .int)) ({ frames := 2, cells := 0, slots := 0, locals := 128 }) (va_Pc [.ref (g 60), .int p1] (pr9 D cy g σ sz)) (qi9 D cy g sz (fun r τ => Fr (fL [0]) σ τ ∧ J9 (τ 9) ∧ True)) 0 0 (A9 cy g sz) := by
  refine Met.ofW (cc := cX9_count) (maxL := 4) (ret := (some .int)) (by decide) rfl ?_
  intro p e s m args below meth c s₁ B hml hv
  obtain ⟨rfl, hsz, hP, hK, hD0, hC⟩ := hv
  have hx := B.exec
  have hb := B.bytes
  have hr := B.returns
  have hts := hts_g (atoms_spec (ws := ww yX9_count cX9_count 4 (some .int)) B.pre)
  have hown : s.vm.findClass RX9 = some m.cls := findClass_of_methodNamed B.named
  have hlocks := B.notSynchronized
  clear B
  subst hsz
  have hD := fun τ => A9_D (sz := s.heap.size) hD0 τ
  clear hD0
  have hS : va_S (A9 cy g s.heap.size) s.heap s.heap [] := va_S.rf
  have hl := lv_entry ([.ref (g 60), .int p1]) (n := 4) (Nat.le_of_ble_eq_true rfl)
  rw [lg_entry_eq]
  generalize (lg_sl ([.ref (g 60), .int p1]) ++ List.replicate (4 - (lg_sl ([.ref (g 60), .int p1])).length) Slot.unset).toArray = ls at hl ⊢
  have hl : lv_has ls 4 [(0, .ref (g 60)), (1, .int p1)] := hl
  refine lv_aload_n hx hb dX9_count_0 rfl (lv_at hl 0 rfl) ?_
  refine lv_iconst (v := 0) hx hb dX9_count_1 (by decide) ?_
  refine p9_0 hx hb hts hown hK hP hD hS (hts _ q1360) dX9_count_2 (fun H locs σ1 eσ1 hP hS => ?_)
  have hJ2 : J9 (σ1 9) := hJ.I eσ1 (show JI9 0 (0 : Int32) from trivial)
  refine lv_iload_n hx hb dX9_count_5 rfl (lv_at hl 1 rfl) ?_
  refine lv_i2l (v := p1.toInt64) hx hb dX9_count_6 rfl ?_
  refine lv_lconst (v := 0) hx hb dX9_count_7 (by decide) ?_
  refine lv_ldc2 (v := 4) hx hb hown (hts _ q1726) dX9_count_8 ?_
  refine va_calli (va_runS (As := [.long p1.toInt64, .long 0, .long 4]) (rest := []) ⟨hx, hb, hml, hown, hts⟩ (m_X9_in l D cy g σ1 p1.toInt64 (0) (4) _ hJ2 ) (va_cwS 3 hts (gd_S q1550 q1551 q134 q1552) rfl rfl rfl (by decide +kernel) ⟨Nat.le_of_ble_eq_true rfl, Nat.le_of_ble_eq_true rfl⟩) (ps9 hP hK hD hC hS) rfl rfl hl.1 rfl (lv_room (Nat.le_of_ble_eq_true rfl)) dX9_count_11 ⟨Nat.le_of_ble_eq_true rfl, Nat.le_of_ble_eq_true rfl⟩) hS (fun q _ h => up9 hS q h) (up9 hS) (fun r3 σ4 tS H1 locs ht hvm hw5 hB hz1 hk1 hS => ?_)
  have hP : va_P D clz (WD9 cy g σ4) H1 := by rw [← ht]; exact hB
  clear hB hz1 hk1 hvm ht
  generalize H1 = H at hP hS ⊢
  have hw5E : σ1 = σ4 := (hw5.1).symm
  subst hw5E
  have b6 : (0 : Int) ≤ r3.toInt ∧ r3.toInt ≤ 1 := hw5.2.1
  have b7 : (r3.toInt = 1 ∧ (0 : Int64).toInt ≤ p1.toInt64.toInt ∧ p1.toInt64.toInt ≤ (4 : Int64).toInt) ∨ (r3.toInt = 0 ∧ ¬ ((0 : Int64).toInt ≤ p1.toInt64.toInt ∧ p1.toInt64.toInt ≤ (4 : Int64).toInt)) := hw5.2.2.1
  refine lv_if_eq (tgt := 24) hx hb dX9_count_14 (by decide) (fun c8 => ?_) (fun c8 => ?_)
  ·
    have k9 := peq32 c8
    refine lv_iconst (v := 0) hx hb dX9_count_24 (by decide) ?_
    refine lv_istore_n (lv' := [(2, .int 0), (0, .ref (g 60)), (1, .int p1)]) hx hb dX9_count_25 rfl hl (by decide) rfl (fun ls hl => ?_)
    refine lv_iload_n hx hb dX9_count_26 rfl (lv_at hl 2 rfl) ?_
    by_cases hk10 : p1 = 5
    ·
      refine lv_tableIn (off := 25) (tgt := 52) hx hb dX9_count_27 (by rw [hk10]; decide) (by rw [hk10]; decide) (by rw [hk10]; decide) (by decide) ?_
      refine lv_aload_n hx hb dX9_count_52 rfl (lv_at hl 1 rfl) ?_
      refine g9_16 hx hb hts hown hK hP (hts _ q1376) dX9_count_53 ?_
      refine lv_iconst (v := 0) hx hb dX9_count_56 (by decide) ?_
      refine l9_16 (x := ((σ 9).2.2.1 16 0)) hx hb hK hP (vpi (by decide)) ((congrFun (((sI_f eσ1) 9 16 rfl).2.2.1) _).trans (congrArg ((σ 9).2.2.1 16) (show (0 : Int32).toInt.toNat = 0 by decide))) dX9_count_57 ?_
      exact W.iret (v := ((σ 9).2.2.1 16 0)) hx hb hr (fun tS ht hW => ⟨⟨((σ 9).2.2.1 16 0), σ1, rfl, ⟨Fr.tr (Fr.rf) (sI_f eσ1) (fN_L rfl), hJ2, trivial⟩, (show va_P D clz (WD9 cy g σ1) tS.heap by rw [ht]; exact hP)⟩, hS.F ht⟩) hS.2.2 dX9_count_58
    by_cases hk11 : p1 = 6
    ·
      refine lv_tableIn (off := 32) (tgt := 59) hx hb dX9_count_27 (by rw [hk11]; decide) (by rw [hk11]; decide) (by rw [hk11]; decide) (by decide) ?_
      refine lv_aload_n hx hb dX9_count_59 rfl (lv_at hl 1 rfl) ?_
      refine g9_6 (x := ((σ 9).1 6)) hx hb hts hown hK hP (((sI_f eσ1) 9 6 rfl).1) (hts _ q1366) dX9_count_60 ?_
      exact W.iret (v := ((σ 9).1 6)) hx hb hr (fun tS ht hW => ⟨⟨((σ 9).1 6), σ1, rfl, ⟨Fr.tr (Fr.rf) (sI_f eσ1) (fN_L rfl), hJ2, trivial⟩, (show va_P D clz (WD9 cy g σ1) tS.heap by rw [ht]; exact hP)⟩, hS.F ht⟩) hS.2.2 dX9_count_63
    by_cases hk12 : p1 = 7
    ·
      refine lv_tableIn (off := 37) (tgt := 64) hx hb dX9_count_27 (by rw [hk12]; decide) (by rw [hk12]; decide) (by rw [hk12]; decide) (by decide) ?_
      refine lv_iconst (v := 0) hx hb dX9_count_64 (by decide) ?_
      refine lv_istore_n (lv' := [(3, .int 0), (2, .int 0), (0, .ref (g 60)), (1, .int p1)]) hx hb dX9_count_65 rfl hl (by decide) rfl (fun ls hl => ?_)
      refine loop9 4 66 (fun x : LZ => [(3, .int (x.2.1 0)), (2, .int (x.2.1 1)), (0, .ref (g 60)), (1, .int p1)]) (fun x : LZ => (x.1 = σ1) ∧ ((0 : Int) ≤ (x.2.1 0).toInt ∧ (x.2.1 0).toInt ≤ 4) ∧ True) (fun x : LZ => ((5 : Int) - (x.2.1 0).toInt).toNat) ?_ (σ1, lf [0, 0], lg []) ⟨rfl, (show (0 : Int) ≤ (0 : Int32).toInt ∧ (0 : Int32).toInt ≤ 4 from (by have z0 : (0 : Int32).toInt = 0 := (by decide); omega)), trivial⟩ _ _ _ hP hS (lv_sub hl [0, 1, 2, 3] rfl)
      intro y15 hI14 nl13 H locs ls hP hS hl
      rw [show y15.1 = σ1 from hI14.1] at hP
      have b16 : (0 : Int) ≤ (y15.2.1 0).toInt ∧ (y15.2.1 0).toInt ≤ 4 := hI14.2.1
      have hl : lv_has ls 4 [(3, .int (y15.2.1 0)), (2, .int (y15.2.1 1)), (0, .ref (g 60)), (1, .int p1)] := hl
      refine lv_iload_n hx hb dX9_count_66 rfl (lv_at hl 0 rfl) ?_
      refine lv_iconst (v := 4) hx hb dX9_count_67 (by decide) ?_
      refine lv_icmp_ge (tgt := 95) hx hb dX9_count_68 (by decide) (fun c17 => ?_) (fun c17 => ?_)
      ·
        have k18 := ple32 c17
        refine lv_iload_n hx hb dX9_count_95 rfl (lv_at hl 1 rfl) ?_
        exact W.iret (v := (y15.2.1 1)) hx hb hr (fun tS ht hW => ⟨⟨(y15.2.1 1), σ1, rfl, ⟨Fr.tr (Fr.rf) (sI_f eσ1) (fN_L rfl), hJ2, trivial⟩, (show va_P D clz (WD9 cy g σ1) tS.heap by rw [ht]; exact hP)⟩, hS.F ht⟩) hS.2.2 dX9_count_96
      ·
        have k19 := nle32 c17
        refine lv_iload_n hx hb dX9_count_71 rfl (lv_at hl 1 rfl) ?_
        refine lv_aload_n hx hb dX9_count_72 rfl (lv_at hl 2 rfl) ?_
        refine g9_1 hx hb hts hown hK hP (hts _ q1361) dX9_count_73 ?_
        refine lv_iload_n hx hb dX9_count_76 rfl (lv_at hl 0 rfl) ?_
        obtain ⟨x20, ex20⟩ : ∃ z, (σ 9).2.2.1 1 (y15.2.1 0).toInt.toNat = z := ⟨_, rfl⟩
        refine l9_1 (x := x20) hx hb hK hP (vpo (by have f0 := b16; have f1 := k19; have g0 := rg32 (y15.2.1 0); have z4 : (4 : Int32).toInt = 4 := (by decide); omega)) ((congrFun (((sI_f eσ1) 9 1 rfl).2.2.1) _).trans ex20) dX9_count_77 ?_
        refine lv_iconst (v := (-1)) hx hb dX9_count_78 (by decide) ?_
        refine cut9 (D := D) (cy := cy) (g := g) (A := A9 cy g s.heap.size) (H0 := s.heap) 4 87 (fun x : LZ => [(3, .int (y15.2.1 0)), (2, .int (y15.2.1 1)), (0, .ref (g 60)), (1, .int p1)]) (fun x : LZ => [.int (x.2.1 0), .int (y15.2.1 1)]) (fun x : LZ => (x.1 = σ1) ∧ ((0 : Int) ≤ (x.2.1 0).toInt ∧ (x.2.1 0).toInt ≤ 1) ∧ True) ?_ ?_
        ·
          intro y23 hI22 H locs ls hP hS hl
          rw [show y23.1 = σ1 from hI22.1] at hP
          have b24 : (0 : Int) ≤ (y23.2.1 0).toInt ∧ (y23.2.1 0).toInt ≤ 1 := hI22.2.1
          have hl : lv_has ls 4 [(3, .int (y15.2.1 0)), (2, .int (y15.2.1 1)), (0, .ref (g 60)), (1, .int p1)] := hl
          refine W.eq (g2 := F0 m 87 ls [.int (y23.2.1 0), .int (y15.2.1 1)]) rfl ?_
          refine lv_iadd hx hb dX9_count_87 ?_
          refine lv_topi (fun x25 ex25 => ?_)
          refine lv_istore_n (lv' := [(2, .int x25), (3, .int (y15.2.1 0)), (0, .ref (g 60)), (1, .int p1)]) hx hb dX9_count_88 rfl hl (by decide) rfl (fun ls hl => ?_)
          obtain ⟨x26, ex26⟩ : ∃ y : Int32, y = (y15.2.1 0) + 1 := ⟨_, rfl⟩
          have t27 := addO ex26 (by have f0 := b16; have f1 := k19; have g0 := rg32 (y15.2.1 0); have z1 : (1 : Int32).toInt = 1 := (by decide); have z4 : (4 : Int32).toInt = 4 := (by decide); omega)
          refine lv_iinc (v := x26) (lv' := [(3, .int x26), (2, .int x25), (0, .ref (g 60)), (1, .int p1)]) hx hb dX9_count_89 hl (k := 1) rfl (by rw [ex26]; rfl) (by decide) rfl (fun ls hl => ?_)
          refine lv_goto (tgt := 66) hx hb dX9_count_92 (by decide) ?_
          have t28 : ((5 : Int) - x26.toInt).toNat < ((5 : Int) - (y15.2.1 0).toInt).toNat := (by have f0 := b16; have f1 := k19; have f2 := t27; have g0 := rg32 (y15.2.1 0); have g1 := rg32 x26; have z1 : (1 : Int32).toInt = 1 := (by decide); have z4 : (4 : Int32).toInt = 4 := (by decide); omega)
          exact nl13 (σ1, lf [x26, x25], lg []) ⟨rfl, (show (0 : Int) ≤ (x26 : Int32).toInt ∧ (x26 : Int32).toInt ≤ 4 from (by have f0 := t27; have f1 := b16; have f2 := k19; have g0 := rg32 x26; have z1 : (1 : Int32).toInt = 1 := (by decide); have z4 : (4 : Int32).toInt = 4 := (by decide); omega)), trivial⟩ (show ((5 : Int) - x26.toInt).toNat < _ from t28) _ _ _ hP hS (lv_sub hl [0, 1, 2, 3] rfl)
        ·
          intro nj21
          refine lv_icmp_ne (tgt := 86) hx hb dX9_count_79 (by decide) (fun c29 => ?_) (fun c29 => ?_)
          ·
            have k30 := neq32 c29
            refine lv_iconst (v := 1) hx hb dX9_count_86 (by decide) ?_
            exact nj21 (σ1, lf [1], lg []) ⟨rfl, (show (0 : Int) ≤ (1 : Int32).toInt ∧ (1 : Int32).toInt ≤ 1 from (by have z1 : (1 : Int32).toInt = 1 := (by decide); omega)), trivial⟩ _ _ _ hP hS (lv_sub hl [0, 1, 2, 3] rfl)
          ·
            have k31 := peq32 c29
            refine lv_iconst (v := 0) hx hb dX9_count_82 (by decide) ?_
            refine lv_goto (tgt := 87) hx hb dX9_count_83 (by decide) ?_
            exact nj21 (σ1, lf [0], lg []) ⟨rfl, (show (0 : Int) ≤ (0 : Int32).toInt ∧ (0 : Int32).toInt ≤ 1 from (by have z0 : (0 : Int32).toInt = 0 := (by decide); omega)), trivial⟩ _ _ _ hP hS (lv_sub hl [0, 1, 2, 3] rfl)
    refine lv_tableOut (tgt := 97) hx hb dX9_count_27 (by have f0 := t64 (a := p1); have f1 := rg32 p1; have f2 := neq32 hk10; have f3 := neq32 hk11; have f4 := neq32 hk12; have f5 := b7; have f6 := b6; have f7 := k9; have g0 := rg32 p1; have z0 : (0 : Int32).toInt = 0 := (by decide); have zl0 : (0 : Int64).toInt = 0 := (by decide); have zl4 : (4 : Int64).toInt = 4 := (by decide); have z5 : (5 : Int32).toInt = 5 := (by decide); have z6 : (6 : Int32).toInt = 6 := (by decide); have z7 : (7 : Int32).toInt = 7 := (by decide); have w15 := t64 (a := p1); omega) (by decide) ?_
    refine lv_iconst (v := (-1)) hx hb dX9_count_97 (by decide) ?_
    exact W.iret (v := (-1)) hx hb hr (fun tS ht hW => ⟨⟨(-1), σ1, rfl, ⟨Fr.tr (Fr.rf) (sI_f eσ1) (fN_L rfl), hJ2, trivial⟩, (show va_P D clz (WD9 cy g σ1) tS.heap by rw [ht]; exact hP)⟩, hS.F ht⟩) hS.2.2 dX9_count_98
  ·
    have k32 := neq32 c8
    refine lv_aload_n hx hb dX9_count_17 rfl (lv_at hl 0 rfl) ?_
    refine g9_17 hx hb hts hown hK hP (hts _ q1377) dX9_count_18 ?_
    refine lv_iload_n hx hb dX9_count_21 rfl (lv_at hl 1 rfl) ?_
    obtain ⟨x33, ex33⟩ : ∃ z, (σ 9).2.2.1 17 p1.toInt.toNat = z := ⟨_, rfl⟩
    refine l9_17 (x := x33) hx hb hK hP (vpo (by have f0 := t64 (a := p1); have f1 := rg32 p1; have f2 := b7; have f3 := b6; have f4 := k32; have g0 := rg32 p1; have z0 : (0 : Int32).toInt = 0 := (by decide); have zl0 : (0 : Int64).toInt = 0 := (by decide); have zl4 : (4 : Int64).toInt = 4 := (by decide); have w9 := t64 (a := p1); omega)) ((congrFun (((sI_f eσ1) 9 17 rfl).2.2.1) _).trans ex33) dX9_count_22 ?_
    have t34 := a9_17 hJ ex33
    exact W.iret (v := x33) hx hb hr (fun tS ht hW => ⟨⟨x33, σ1, rfl, ⟨Fr.tr (Fr.rf) (sI_f eσ1) (fN_L rfl), hJ2, trivial⟩, (show va_P D clz (WD9 cy g σ1) tS.heap by rw [ht]; exact hP)⟩, hS.F ht⟩) hS.2.2 dX9_count_23

theorem q2143 : Cond.code yX9_tones cX9_tones 2 (some .int) ∈ lw_g := lw_gm (List.mem_of_getElem? (i := 2143) (by decide +kernel)) rfl
theorem dX9_tones_0 : decode cX9_tones 0 = .ok (.aload_n 0, 1) := by decide +kernel
theorem dX9_tones_1 : decode cX9_tones 1 = .ok (.iconst 0, 1) := by decide +kernel
theorem dX9_tones_2 : decode cX9_tones 2 = .ok (.putfield 129, 3) := by decide +kernel
theorem dX9_tones_5 : decode cX9_tones 5 = .ok (.aload_n 0, 1) := by decide +kernel
theorem dX9_tones_6 : decode cX9_tones 6 = .ok (.iload_n 1, 1) := by decide +kernel
theorem dX9_tones_7 : decode cX9_tones 7 = .ok (.invokevirtual 303, 3) := by decide +kernel
theorem dX9_tones_10 : decode cX9_tones 10 = .ok (.ifCond .eq 12, 3) := by decide +kernel
theorem dX9_tones_13 : decode cX9_tones 13 = .ok (.aload_n 0, 1) := by decide +kernel
theorem dX9_tones_14 : decode cX9_tones 14 = .ok (.getfield 43, 3) := by decide +kernel
theorem dX9_tones_17 : decode cX9_tones 17 = .ok (.iload_n 1, 1) := by decide +kernel
theorem dX9_tones_18 : decode cX9_tones 18 = .ok (.iaload, 1) := by decide +kernel
theorem dX9_tones_19 : decode cX9_tones 19 = .ok (.goto 5, 3) := by decide +kernel
theorem dX9_tones_22 : decode cX9_tones 22 = .ok (.bipush (-2), 2) := by decide +kernel
theorem dX9_tones_24 : decode cX9_tones 24 = .ok (.ireturn, 1) := by decide +kernel
set_option maxHeartbeats 4000000 in
set_option maxRecDepth 100000 in
theorem m_X9_tones (l : Launch) (D : va_G) (cy : Nat → ClassId) (g : Nat → Nat) (σ : ST) (p1 : Int32) (sz : Nat) (hJ : J9 (σ 9))  : Met l yX9_tones (ww yX9_tones cX9_tones 2 (some .int)) ({ frames := 3, cells := 0, slots := 0, locals := 192 }) (va_Pc [.ref (g 60), .int p1] (pr9 D cy g σ sz)) (qi9 D cy g sz (fun r τ => Fr (fL [0]) σ τ ∧ J9 (τ 9) ∧ True)) 0 0 (A9 cy g sz) := by
  refine Met.ofW (cc := cX9_tones) (maxL := 2) (ret := (some .int)) (by decide) rfl ?_
  intro p e s m args below meth c s₁ B hml hv
  obtain ⟨rfl, hsz, hP, hK, hD0, hC⟩ := hv
  have hx := B.exec
  have hb := B.bytes
  have hr := B.returns
  have hts := hts_g (atoms_spec (ws := ww yX9_tones cX9_tones 2 (some .int)) B.pre)
  have hown : s.vm.findClass RX9 = some m.cls := findClass_of_methodNamed B.named
  have hlocks := B.notSynchronized
  clear B
  subst hsz
  have hD := fun τ => A9_D (sz := s.heap.size) hD0 τ
  clear hD0
  have hS : va_S (A9 cy g s.heap.size) s.heap s.heap [] := va_S.rf
  have hl := lv_entry ([.ref (g 60), .int p1]) (n := 2) (Nat.le_of_ble_eq_true rfl)
  rw [lg_entry_eq]
  generalize (lg_sl ([.ref (g 60), .int p1]) ++ List.replicate (2 - (lg_sl ([.ref (g 60), .int p1])).length) Slot.unset).toArray = ls at hl ⊢
  have hl : lv_has ls 2 [(0, .ref (g 60)), (1, .int p1)] := hl
  refine lv_aload_n hx hb dX9_tones_0 rfl (lv_at hl 0 rfl) ?_
  refine lv_iconst (v := 0) hx hb dX9_tones_1 (by decide) ?_
  refine p9_0 hx hb hts hown hK hP hD hS (hts _ q1360) dX9_tones_2 (fun H locs σ1 eσ1 hP hS => ?_)
  have hJ2 : J9 (σ1 9) := hJ.I eσ1 (show JI9 0 (0 : Int32) from trivial)
  refine lv_aload_n hx hb dX9_tones_5 rfl (lv_at hl 0 rfl) ?_
  refine lv_iload_n hx hb dX9_tones_6 rfl (lv_at hl 1 rfl) ?_
  refine va_calli (va_runV (As := [.int p1]) (rest := []) ⟨hx, hb, hml, hown, hts⟩ (m_X9_isPart l D cy g σ1 p1 _ hJ2 ) (cwV 1 hts (gd_V q1722 q1724 q74 q134 q1725) rfl rfl rfl (by decide +kernel) ⟨Nat.le_of_ble_eq_true rfl, Nat.le_of_ble_eq_true rfl⟩) (pv9 hP hK hD hC hS (va_recv hK hP (ci := 9) (q0 := 0) rfl rfl)) rfl rfl hl.1 rfl (lv_room (Nat.le_of_ble_eq_true rfl)) dX9_tones_7 ⟨Nat.le_of_ble_eq_true rfl, Nat.le_of_ble_eq_true rfl⟩) hS (fun q _ h => up9 hS q h) (up9 hS) (fun r3 σ4 tS H1 locs ht hvm hw5 hB hz1 hk1 hS => ?_)
  have hP : va_P D clz (WD9 cy g σ4) H1 := by rw [← ht]; exact hB
  clear hB hz1 hk1 hvm ht
  generalize H1 = H at hP hS ⊢
  have hw5E : σ1 = σ4 := (hw5.1).symm
  subst hw5E
  have b6 : (0 : Int) ≤ r3.toInt ∧ r3.toInt ≤ 1 := hw5.2.1
  have b7 : (r3.toInt = 0) ∨ ((0 : Int) ≤ p1.toInt ∧ p1.toInt ≤ 2) := hw5.2.2.1
  have b8 : (r3.toInt = 0) ∨ (0 ≤ p1.toInt ∧ p1.toInt < ((σ1 9).2.2.1 17 4).toInt) := hw5.2.2.2.1
  refine lv_if_eq (tgt := 22) hx hb dX9_tones_10 (by decide) (fun c9 => ?_) (fun c9 => ?_)
  ·
    have k10 := peq32 c9
    refine lv_bipush (v := (-2)) hx hb dX9_tones_22 (by decide) ?_
    exact W.iret (v := (-2)) hx hb hr (fun tS ht hW => ⟨⟨(-2), σ1, rfl, ⟨Fr.tr (Fr.rf) (sI_f eσ1) (fN_L rfl), hJ2, trivial⟩, (show va_P D clz (WD9 cy g σ1) tS.heap by rw [ht]; exact hP)⟩, hS.F ht⟩) hS.2.2 dX9_tones_24
  ·
    have k11 := neq32 c9
    refine lv_aload_n hx hb dX9_tones_13 rfl (lv_at hl 0 rfl) ?_
    refine g9_20 hx hb hts hown hK hP (hts _ q1380) dX9_tones_14 ?_
    refine lv_iload_n hx hb dX9_tones_17 rfl (lv_at hl 1 rfl) ?_
    obtain ⟨x12, ex12⟩ : ∃ z, (σ 9).2.2.1 20 p1.toInt.toNat = z := ⟨_, rfl⟩
    refine l9_20 (x := x12) hx hb hK hP (vpo (by have f0 := b7; have f1 := b8; have f2 := a9_17 hJ2 (j := 4) rfl; have f3 := congrArg Int32.toInt (show ((σ1 9).2.2.1 17 4) = ((σ 9).2.2.1 17 4) from congrFun (((sI_f eσ1) 9 17 rfl).2.2.1) _); have f4 := b6; have f5 := k11; have f6 := a9_17 hJ (j := 4) rfl; have g2 := rg32 p1; have z0 : (0 : Int32).toInt = 0 := (by decide); omega)) ((congrFun (((sI_f eσ1) 9 20 rfl).2.2.1) _).trans ex12) dX9_tones_18 ?_
    have t13 := a9_20 hJ ex12
    refine lv_goto (tgt := 24) hx hb dX9_tones_19 (by decide) ?_
    exact W.iret (v := x12) hx hb hr (fun tS ht hW => ⟨⟨x12, σ1, rfl, ⟨Fr.tr (Fr.rf) (sI_f eσ1) (fN_L rfl), hJ2, trivial⟩, (show va_P D clz (WD9 cy g σ1) tS.heap by rw [ht]; exact hP)⟩, hS.F ht⟩) hS.2.2 dX9_tones_24

theorem q2027 : Cond.code yX9_best cX9_best 6 (some .int) ∈ lw_g := lw_gm (List.mem_of_getElem? (i := 2027) (by decide +kernel)) rfl
theorem dX9_best_0 : decode cX9_best 0 = .ok (.aload_n 0, 1) := by decide +kernel
theorem dX9_best_1 : decode cX9_best 1 = .ok (.iconst 0, 1) := by decide +kernel
theorem dX9_best_2 : decode cX9_best 2 = .ok (.putfield 129, 3) := by decide +kernel
theorem dX9_best_5 : decode cX9_best 5 = .ok (.aload_n 0, 1) := by decide +kernel
theorem dX9_best_6 : decode cX9_best 6 = .ok (.iload_n 1, 1) := by decide +kernel
theorem dX9_best_7 : decode cX9_best 7 = .ok (.invokevirtual 303, 3) := by decide +kernel
theorem dX9_best_10 : decode cX9_best 10 = .ok (.ifCond .ne 6, 3) := by decide +kernel
theorem dX9_best_13 : decode cX9_best 13 = .ok (.bipush (-2), 2) := by decide +kernel
theorem dX9_best_15 : decode cX9_best 15 = .ok (.ireturn, 1) := by decide +kernel
theorem dX9_best_16 : decode cX9_best 16 = .ok (.iconst (-1), 1) := by decide +kernel
theorem dX9_best_17 : decode cX9_best 17 = .ok (.istore_n 2, 1) := by decide +kernel
theorem dX9_best_18 : decode cX9_best 18 = .ok (.ldc 180, 2) := by decide +kernel
theorem dX9_best_20 : decode cX9_best 20 = .ok (.istore_n 3, 1) := by decide +kernel
theorem dX9_best_21 : decode cX9_best 21 = .ok (.ldc 180, 2) := by decide +kernel
theorem dX9_best_23 : decode cX9_best 23 = .ok (.istore 4, 2) := by decide +kernel
theorem dX9_best_25 : decode cX9_best 25 = .ok (.iconst 0, 1) := by decide +kernel
theorem dX9_best_26 : decode cX9_best 26 = .ok (.istore 5, 2) := by decide +kernel
theorem dX9_best_28 : decode cX9_best 28 = .ok (.iload 5, 2) := by decide +kernel
theorem dX9_best_30 : decode cX9_best 30 = .ok (.aload_n 0, 1) := by decide +kernel
theorem dX9_best_31 : decode cX9_best 31 = .ok (.getfield 34, 3) := by decide +kernel
theorem dX9_best_34 : decode cX9_best 34 = .ok (.iconst 3, 1) := by decide +kernel
theorem dX9_best_35 : decode cX9_best 35 = .ok (.iaload, 1) := by decide +kernel
theorem dX9_best_36 : decode cX9_best 36 = .ok (.if_icmp .ge 61, 3) := by decide +kernel
theorem dX9_best_39 : decode cX9_best 39 = .ok (.aload_n 0, 1) := by decide +kernel
theorem dX9_best_40 : decode cX9_best 40 = .ok (.iload 5, 2) := by decide +kernel
theorem dX9_best_42 : decode cX9_best 42 = .ok (.iload_n 1, 1) := by decide +kernel
theorem dX9_best_43 : decode cX9_best 43 = .ok (.invokevirtual 436, 3) := by decide +kernel
theorem dX9_best_46 : decode cX9_best 46 = .ok (.ifCond .eq 45, 3) := by decide +kernel
theorem dX9_best_49 : decode cX9_best 49 = .ok (.aload_n 0, 1) := by decide +kernel
theorem dX9_best_50 : decode cX9_best 50 = .ok (.getfield 415, 3) := by decide +kernel
theorem dX9_best_53 : decode cX9_best 53 = .ok (.iload_n 3, 1) := by decide +kernel
theorem dX9_best_54 : decode cX9_best 54 = .ok (.if_icmp .gt 37, 3) := by decide +kernel
theorem dX9_best_57 : decode cX9_best 57 = .ok (.aload_n 0, 1) := by decide +kernel
theorem dX9_best_58 : decode cX9_best 58 = .ok (.getfield 415, 3) := by decide +kernel
theorem dX9_best_61 : decode cX9_best 61 = .ok (.iload_n 3, 1) := by decide +kernel
theorem dX9_best_62 : decode cX9_best 62 = .ok (.if_icmp .ne 15, 3) := by decide +kernel
theorem dX9_best_65 : decode cX9_best 65 = .ok (.aload_n 0, 1) := by decide +kernel
theorem dX9_best_66 : decode cX9_best 66 = .ok (.getfield 418, 3) := by decide +kernel
theorem dX9_best_69 : decode cX9_best 69 = .ok (.iload 4, 2) := by decide +kernel
theorem dX9_best_71 : decode cX9_best 71 = .ok (.if_icmp .lt 6, 3) := by decide +kernel
theorem dX9_best_74 : decode cX9_best 74 = .ok (.goto 17, 3) := by decide +kernel
theorem dX9_best_77 : decode cX9_best 77 = .ok (.iload 5, 2) := by decide +kernel
theorem dX9_best_79 : decode cX9_best 79 = .ok (.istore_n 2, 1) := by decide +kernel
theorem dX9_best_80 : decode cX9_best 80 = .ok (.aload_n 0, 1) := by decide +kernel
theorem dX9_best_81 : decode cX9_best 81 = .ok (.getfield 415, 3) := by decide +kernel
theorem dX9_best_84 : decode cX9_best 84 = .ok (.istore_n 3, 1) := by decide +kernel
theorem dX9_best_85 : decode cX9_best 85 = .ok (.aload_n 0, 1) := by decide +kernel
theorem dX9_best_86 : decode cX9_best 86 = .ok (.getfield 418, 3) := by decide +kernel
theorem dX9_best_89 : decode cX9_best 89 = .ok (.istore 4, 2) := by decide +kernel
theorem dX9_best_91 : decode cX9_best 91 = .ok (.iinc 5 1, 3) := by decide +kernel
theorem dX9_best_94 : decode cX9_best 94 = .ok (.goto (-66), 3) := by decide +kernel
theorem dX9_best_97 : decode cX9_best 97 = .ok (.iload_n 2, 1) := by decide +kernel
theorem dX9_best_98 : decode cX9_best 98 = .ok (.ireturn, 1) := by decide +kernel
set_option maxHeartbeats 4000000 in
set_option maxRecDepth 100000 in
theorem m_X9_best (l : Launch) (D : va_G) (cy : Nat → ClassId) (g : Nat → Nat) (σ : ST) (p1 : Int32) (sz : Nat) (hJ : J9 (σ 9)) (kDK0 : DK0 (σ 9)) : Met l yX9_best (ww yX9_best cX9_best 6 (some .int)) ({ frames := 8, cells := 0, slots := 0, locals := 512 }) (va_Pc [.ref (g 60), .int p1] (pr9 D cy g σ sz)) (qi9 D cy g sz (fun r τ => Fr (fL [0, 23, 24, 25, 26, 27, 28, 29, 30, 31, 32, 33, 34, 35, 36, 37, 38, 39, 40, 41]) σ τ ∧ J9 (τ 9) ∧ True)) 0 0 (A9 cy g sz) := by
  refine Met.ofW (cc := cX9_best) (maxL := 6) (ret := (some .int)) (by decide) rfl ?_
  intro p e s m args below meth c s₁ B hml hv
  obtain ⟨rfl, hsz, hP, hK, hD0, hC⟩ := hv
  have hx := B.exec
  have hb := B.bytes
  have hr := B.returns
  have hts := hts_g (atoms_spec (ws := ww yX9_best cX9_best 6 (some .int)) B.pre)
  have hown : s.vm.findClass RX9 = some m.cls := findClass_of_methodNamed B.named
  have hlocks := B.notSynchronized
  clear B
  subst hsz
  have hD := fun τ => A9_D (sz := s.heap.size) hD0 τ
  clear hD0
  have hS : va_S (A9 cy g s.heap.size) s.heap s.heap [] := va_S.rf
  have hl := lv_entry ([.ref (g 60), .int p1]) (n := 6) (Nat.le_of_ble_eq_true rfl)
  rw [lg_entry_eq]
  generalize (lg_sl ([.ref (g 60), .int p1]) ++ List.replicate (6 - (lg_sl ([.ref (g 60), .int p1])).length) Slot.unset).toArray = ls at hl ⊢
  have hl : lv_has ls 6 [(0, .ref (g 60)), (1, .int p1)] := hl
  refine lv_aload_n hx hb dX9_best_0 rfl (lv_at hl 0 rfl) ?_
  refine lv_iconst (v := 0) hx hb dX9_best_1 (by decide) ?_
  refine p9_0 hx hb hts hown hK hP hD hS (hts _ q1360) dX9_best_2 (fun H locs σ1 eσ1 hP hS => ?_)
  have hJ2 : J9 (σ1 9) := hJ.I eσ1 (show JI9 0 (0 : Int32) from trivial)
  have T3 : DK0 (σ1 9) := DK0.mv kDK0 ((sI_f eσ1) 9 17 rfl).2.2.1 ((sI_f eσ1) 9 18 rfl).2.2.1 ((sI_f eσ1) 9 19 rfl).2.2.1
  refine lv_aload_n hx hb dX9_best_5 rfl (lv_at hl 0 rfl) ?_
  refine lv_iload_n hx hb dX9_best_6 rfl (lv_at hl 1 rfl) ?_
  refine va_calli (va_runV (As := [.int p1]) (rest := []) ⟨hx, hb, hml, hown, hts⟩ (m_X9_isPart l D cy g σ1 p1 _ hJ2 ) (cwV 1 hts (gd_V q1722 q1724 q74 q134 q1725) rfl rfl rfl (by decide +kernel) ⟨Nat.le_of_ble_eq_true rfl, Nat.le_of_ble_eq_true rfl⟩) (pv9 hP hK hD hC hS (va_recv hK hP (ci := 9) (q0 := 0) rfl rfl)) rfl rfl hl.1 rfl (lv_room (Nat.le_of_ble_eq_true rfl)) dX9_best_7 ⟨Nat.le_of_ble_eq_true rfl, Nat.le_of_ble_eq_true rfl⟩) hS (fun q _ h => up9 hS q h) (up9 hS) (fun r4 σ5 tS H1 locs ht hvm hw6 hB hz1 hk1 hS => ?_)
  have hP : va_P D clz (WD9 cy g σ5) H1 := by rw [← ht]; exact hB
  clear hB hz1 hk1 hvm ht
  generalize H1 = H at hP hS ⊢
  have hw6E : σ1 = σ5 := (hw6.1).symm
  subst hw6E
  have b7 : (0 : Int) ≤ r4.toInt ∧ r4.toInt ≤ 1 := hw6.2.1
  have b8 : (r4.toInt = 0) ∨ ((0 : Int) ≤ p1.toInt ∧ p1.toInt ≤ 2) := hw6.2.2.1
  have b9 : (r4.toInt = 0) ∨ (0 ≤ p1.toInt ∧ p1.toInt < ((σ1 9).2.2.1 17 4).toInt) := hw6.2.2.2.1
  refine lv_if_ne (tgt := 16) hx hb dX9_best_10 (by decide) (fun c10 => ?_) (fun c10 => ?_)
  ·
    have k11 := neq32 c10
    refine lv_iconst (v := (-1)) hx hb dX9_best_16 (by decide) ?_
    refine lv_istore_n (lv' := [(2, .int (-1)), (0, .ref (g 60)), (1, .int p1)]) hx hb dX9_best_17 rfl hl (by decide) rfl (fun ls hl => ?_)
    refine lv_ldc (v := 1000000) hx hb hown (hts _ q1604) dX9_best_18 ?_
    refine lv_istore_n (lv' := [(3, .int 1000000), (2, .int (-1)), (0, .ref (g 60)), (1, .int p1)]) hx hb dX9_best_20 rfl hl (by decide) rfl (fun ls hl => ?_)
    refine lv_ldc (v := 1000000) hx hb hown (hts _ q1604) dX9_best_21 ?_
    refine lv_istore (lv' := [(4, .int 1000000), (3, .int 1000000), (2, .int (-1)), (0, .ref (g 60)), (1, .int p1)]) hx hb dX9_best_23 hl (by decide) rfl (fun ls hl => ?_)
    refine lv_iconst (v := 0) hx hb dX9_best_25 (by decide) ?_
    refine lv_istore (lv' := [(5, .int 0), (4, .int 1000000), (3, .int 1000000), (2, .int (-1)), (0, .ref (g 60)), (1, .int p1)]) hx hb dX9_best_26 hl (by decide) rfl (fun ls hl => ?_)
    refine loop9 6 28 (fun x : LZ => [(5, .int (x.2.1 0)), (4, .int (x.2.1 1)), (3, .int (x.2.1 2)), (2, .int (x.2.1 3)), (0, .ref (g 60)), (1, .int p1)]) (fun x : LZ => (Fr (fL [23, 24, 25, 26, 27, 28, 29, 30, 31, 32, 33, 34, 35, 36, 37, 38, 39, 40, 41]) σ1 x.1) ∧ (J9 (x.1 9)) ∧ ((0 : Int) ≤ (x.2.1 0).toInt ∧ (x.2.1 0).toInt ≤ 9) ∧ ((-1 : Int) ≤ (x.2.1 3).toInt ∧ (x.2.1 3).toInt ≤ 8) ∧ (DK0 (x.1 9)) ∧ True) (fun x : LZ => ((10 : Int) - (x.2.1 0).toInt).toNat) ?_ (σ1, lf [0, 1000000, 1000000, (-1)], lg []) ⟨Fr.rf, hJ2, (show (0 : Int) ≤ (0 : Int32).toInt ∧ (0 : Int32).toInt ≤ 9 from (by have z0 : (0 : Int32).toInt = 0 := (by decide); omega)), (show (-1 : Int) ≤ ((-1) : Int32).toInt ∧ ((-1) : Int32).toInt ≤ 8 from (by have zm1 : ((-1) : Int32).toInt = (-1) := (by decide); omega)), (show DK0 (σ1 9) from T3), trivial⟩ _ _ _ hP hS (lv_sub hl [0, 1, 2, 3, 4, 5] rfl)
    intro y14 hI13 nl12 H locs ls hP hS hl
    obtain ⟨σ15, eσ15⟩ : ∃ z, z = y14.1 := ⟨_, rfl⟩
    rw [← eσ15] at hP hI13
    have hF16 : Fr (fL [23, 24, 25, 26, 27, 28, 29, 30, 31, 32, 33, 34, 35, 36, 37, 38, 39, 40, 41]) σ1 σ15 := hI13.1
    have hJ17 : J9 (σ15 9) := hI13.2.1
    have b18 : (0 : Int) ≤ (y14.2.1 0).toInt ∧ (y14.2.1 0).toInt ≤ 9 := hI13.2.2.1
    have b19 : (-1 : Int) ≤ (y14.2.1 3).toInt ∧ (y14.2.1 3).toInt ≤ 8 := hI13.2.2.2.1
    have b20 : DK0 (σ15 9) := hI13.2.2.2.2.1
    have hl : lv_has ls 6 [(5, .int (y14.2.1 0)), (4, .int (y14.2.1 1)), (3, .int (y14.2.1 2)), (2, .int (y14.2.1 3)), (0, .ref (g 60)), (1, .int p1)] := hl
    refine lv_iload hx hb dX9_best_28 (lv_at hl 0 rfl) ?_
    refine lv_aload_n hx hb dX9_best_30 rfl (lv_at hl 4 rfl) ?_
    refine g9_17 hx hb hts hown hK hP (hts _ q1377) dX9_best_31 ?_
    refine lv_iconst (v := 3) hx hb dX9_best_34 (by decide) ?_
    refine l9_17 (x := ((σ 9).2.2.1 17 3)) hx hb hK hP (vpi (by decide)) ((congrFun (((hF16 9 17 rfl).2.2.1).trans (((sI_f eσ1) 9 17 rfl).2.2.1)) _).trans (congrArg ((σ 9).2.2.1 17) (show (3 : Int32).toInt.toNat = 3 by decide))) dX9_best_35 ?_
    refine lv_icmp_ge (tgt := 97) hx hb dX9_best_36 (by decide) (fun c21 => ?_) (fun c21 => ?_)
    ·
      have k22 := ple32 c21
      refine lv_iload_n hx hb dX9_best_97 rfl (lv_at hl 3 rfl) ?_
      exact W.iret (v := (y14.2.1 3)) hx hb hr (fun tS ht hW => ⟨⟨(y14.2.1 3), σ15, rfl, ⟨Fr.tr (Fr.tr (Fr.rf) (sI_f eσ1) (fN_L rfl)) hF16 (fL_sub rfl), hJ17, trivial⟩, (show va_P D clz (WD9 cy g σ15) tS.heap by rw [ht]; exact hP)⟩, hS.F ht⟩) hS.2.2 dX9_best_98
    ·
      have k23 := nle32 c21
      refine lv_aload_n hx hb dX9_best_39 rfl (lv_at hl 4 rfl) ?_
      refine lv_iload hx hb dX9_best_40 (lv_at hl 0 rfl) ?_
      refine lv_iload_n hx hb dX9_best_42 rfl (lv_at hl 5 rfl) ?_
      refine va_calli (va_runV (As := [.int (y14.2.1 0), .int p1]) (rest := []) ⟨hx, hb, hml, hown, hts⟩ (m_X9_isBest l D cy g σ15 (y14.2.1 0) p1 _ hJ17 b20 (show (0 : Int) ≤ (y14.2.1 0).toInt ∧ (y14.2.1 0).toInt ≤ 8 from (by have f0 := b18; have f1 := k23; have f2 := a9_17 hJ (j := 3) rfl; have g0 := rg32 (y14.2.1 0); omega)) (show (0 : Int) ≤ p1.toInt ∧ p1.toInt ≤ 2 from (by have f0 := b8; have f1 := b9; have f2 := b18; have f3 := k23; have f4 := a9_17 hJ2 (j := 4) rfl; have f5 := congrArg Int32.toInt (show ((σ1 9).2.2.1 17 4) = ((σ 9).2.2.1 17 4) from congrFun (((sI_f eσ1) 9 17 rfl).2.2.1) _); have f6 := a9_17 hJ (j := 3) rfl; have f7 := b7; have f8 := k11; have f9 := a9_17 hJ (j := 4) rfl; have g2 := rg32 (y14.2.1 0); have g3 := rg32 p1; have z0 : (0 : Int32).toInt = 0 := (by decide); omega)) (show (y14.2.1 0).toInt < ((σ15 9).2.2.1 17 3).toInt from (by have f0 := a9_17 hJ17 (j := 3) rfl; have f1 := congrArg Int32.toInt (show ((σ15 9).2.2.1 17 3) = ((σ 9).2.2.1 17 3) from congrFun (((hF16 9 17 rfl).2.2.1).trans (((sI_f eσ1) 9 17 rfl).2.2.1)) _); have f2 := b18; have f3 := k23; have f4 := a9_17 hJ (j := 3) rfl; have g1 := rg32 (y14.2.1 0); omega))) (cwV 2 hts (gd_V q1826 q1828 q88 q134 q1829) rfl rfl rfl (by decide +kernel) ⟨Nat.le_of_ble_eq_true rfl, Nat.le_of_ble_eq_true rfl⟩) (pv9 hP hK hD hC hS (va_recv hK hP (ci := 9) (q0 := 0) rfl rfl)) rfl rfl hl.1 rfl (lv_room (Nat.le_of_ble_eq_true rfl)) dX9_best_43 ⟨Nat.le_of_ble_eq_true rfl, Nat.le_of_ble_eq_true rfl⟩) hS (fun q _ h => up9 hS q h) (up9 hS) (fun r24 σ25 tS H1 locs ht hvm hw26 hB hz1 hk1 hS => ?_)
      have hP : va_P D clz (WD9 cy g σ25) H1 := by rw [← ht]; exact hB
      clear hB hz1 hk1 hvm ht
      generalize H1 = H at hP hS ⊢
      have hF27 : Fr (fL [23, 24, 25, 26, 27, 28, 29, 30, 31, 32, 33, 34, 35, 36, 37, 38, 39, 40, 41]) σ15 σ25 := hw26.1
      have hJ28 : J9 (σ25 9) := hw26.2.1
      have b29 : (0 : Int) ≤ r24.toInt ∧ r24.toInt ≤ 1 := hw26.2.2.1
      have T30 : DK0 (σ25 9) := DK0.mv b20 (hF27 9 17 rfl).2.2.1 (hF27 9 18 rfl).2.2.1 (hF27 9 19 rfl).2.2.1
      refine cut9 (D := D) (cy := cy) (g := g) (A := A9 cy g s.heap.size) (H0 := s.heap) 6 91 (fun x : LZ => [(5, .int (y14.2.1 0)), (4, .int (x.2.1 0)), (3, .int (x.2.1 1)), (2, .int (x.2.1 2)), (0, .ref (g 60)), (1, .int p1)]) (fun x : LZ => []) (fun x : LZ => (x.1 = σ25) ∧ ((-1 : Int) ≤ (x.2.1 2).toInt ∧ (x.2.1 2).toInt ≤ 8) ∧ (DK0 (σ25 9)) ∧ True) ?_ ?_
      ·
        intro y33 hI32 H locs ls hP hS hl
        rw [show y33.1 = σ25 from hI32.1] at hP
        have b34 : (-1 : Int) ≤ (y33.2.1 2).toInt ∧ (y33.2.1 2).toInt ≤ 8 := hI32.2.1
        have b35 : DK0 (σ25 9) := hI32.2.2.1
        have hl : lv_has ls 6 [(5, .int (y14.2.1 0)), (4, .int (y33.2.1 0)), (3, .int (y33.2.1 1)), (2, .int (y33.2.1 2)), (0, .ref (g 60)), (1, .int p1)] := hl
        obtain ⟨x36, ex36⟩ : ∃ y : Int32, y = (y14.2.1 0) + 1 := ⟨_, rfl⟩
        have t37 := addO ex36 (by have f0 := b18; have f1 := k23; have f2 := a9_17 hJ (j := 3) rfl; have g0 := rg32 (y14.2.1 0); have z1 : (1 : Int32).toInt = 1 := (by decide); omega)
        refine lv_iinc (v := x36) (lv' := [(5, .int x36), (4, .int (y33.2.1 0)), (3, .int (y33.2.1 1)), (2, .int (y33.2.1 2)), (0, .ref (g 60)), (1, .int p1)]) hx hb dX9_best_91 hl (k := 0) rfl (by rw [ex36]; rfl) (by decide) rfl (fun ls hl => ?_)
        refine lv_goto (tgt := 28) hx hb dX9_best_94 (by decide) ?_
        have t38 : ((10 : Int) - x36.toInt).toNat < ((10 : Int) - (y14.2.1 0).toInt).toNat := (by have f0 := b18; have f1 := k23; have f2 := t37; have f3 := a9_17 hJ (j := 3) rfl; have g0 := rg32 (y14.2.1 0); have g1 := rg32 x36; have z1 : (1 : Int32).toInt = 1 := (by decide); omega)
        exact nl12 (σ25, lf [x36, (y33.2.1 0), (y33.2.1 1), (y33.2.1 2)], lg []) ⟨Fr.tr (Fr.tr (Fr.rf) hF16 (fL_sub rfl)) hF27 (fL_sub rfl), hJ28, (show (0 : Int) ≤ (x36 : Int32).toInt ∧ (x36 : Int32).toInt ≤ 9 from (by have f0 := t37; have f1 := b18; have f2 := k23; have f3 := a9_17 hJ (j := 3) rfl; have g0 := rg32 x36; have z1 : (1 : Int32).toInt = 1 := (by decide); omega)), (show (-1 : Int) ≤ ((y33.2.1 2) : Int32).toInt ∧ ((y33.2.1 2) : Int32).toInt ≤ 8 from (by have f0 := b34; have g0 := rg32 (y33.2.1 2); omega)), (show DK0 (σ25 9) from b35), trivial⟩ (show ((10 : Int) - x36.toInt).toNat < _ from by first | exact t38 | (rw [← eσ15]; exact t38)) _ _ _ hP hS (lv_sub hl [0, 1, 2, 3, 4, 5] rfl)
      ·
        intro nj31
        refine lv_if_eq (tgt := 91) hx hb dX9_best_46 (by decide) (fun c39 => ?_) (fun c39 => ?_)
        ·
          have k40 := peq32 c39
          exact nj31 (σ25, lf [(y14.2.1 1), (y14.2.1 2), (y14.2.1 3)], lg []) ⟨rfl, (show (-1 : Int) ≤ ((y14.2.1 3) : Int32).toInt ∧ ((y14.2.1 3) : Int32).toInt ≤ 8 from (by have f0 := b19; have g0 := rg32 (y14.2.1 3); omega)), (show DK0 (σ25 9) from T30), trivial⟩ _ _ _ hP hS (lv_sub hl [0, 1, 2, 3, 4, 5] rfl)
        ·
          have k41 := neq32 c39
          refine lv_aload_n hx hb dX9_best_49 rfl (lv_at hl 4 rfl) ?_
          refine g9_39 (x := ((σ25 9).1 39)) hx hb hts hown hK hP (rfl) (hts _ q1399) dX9_best_50 ?_
          refine lv_iload_n hx hb dX9_best_53 rfl (lv_at hl 2 rfl) ?_
          refine lv_icmp_gt (tgt := 91) hx hb dX9_best_54 (by decide) (fun c42 => ?_) (fun c42 => ?_)
          ·
            have k43 := plt32 c42
            exact nj31 (σ25, lf [(y14.2.1 1), (y14.2.1 2), (y14.2.1 3)], lg []) ⟨rfl, (show (-1 : Int) ≤ ((y14.2.1 3) : Int32).toInt ∧ ((y14.2.1 3) : Int32).toInt ≤ 8 from (by have f0 := b19; have g0 := rg32 (y14.2.1 3); omega)), (show DK0 (σ25 9) from T30), trivial⟩ _ _ _ hP hS (lv_sub hl [0, 1, 2, 3, 4, 5] rfl)
          ·
            have k44 := nlt32 c42
            refine lv_aload_n hx hb dX9_best_57 rfl (lv_at hl 4 rfl) ?_
            refine g9_39 (x := ((σ25 9).1 39)) hx hb hts hown hK hP (rfl) (hts _ q1399) dX9_best_58 ?_
            refine lv_iload_n hx hb dX9_best_61 rfl (lv_at hl 2 rfl) ?_
            refine cut9 (D := D) (cy := cy) (g := g) (A := A9 cy g s.heap.size) (H0 := s.heap) 6 77 (fun x : LZ => [(5, .int (y14.2.1 0)), (4, .int (y14.2.1 1)), (3, .int (y14.2.1 2)), (2, .int (y14.2.1 3)), (0, .ref (g 60)), (1, .int p1)]) (fun x : LZ => []) (fun x : LZ => (x.1 = σ25) ∧ (DK0 (σ25 9)) ∧ True) ?_ ?_
            ·
              intro y47 hI46 H locs ls hP hS hl
              rw [show y47.1 = σ25 from hI46.1] at hP
              have b48 : DK0 (σ25 9) := hI46.2.1
              have hl : lv_has ls 6 [(5, .int (y14.2.1 0)), (4, .int (y14.2.1 1)), (3, .int (y14.2.1 2)), (2, .int (y14.2.1 3)), (0, .ref (g 60)), (1, .int p1)] := hl
              refine lv_iload hx hb dX9_best_77 (lv_at hl 0 rfl) ?_
              refine lv_istore_n (lv' := [(2, .int (y14.2.1 0)), (5, .int (y14.2.1 0)), (4, .int (y14.2.1 1)), (3, .int (y14.2.1 2)), (0, .ref (g 60)), (1, .int p1)]) hx hb dX9_best_79 rfl hl (by decide) rfl (fun ls hl => ?_)
              refine lv_aload_n hx hb dX9_best_80 rfl (lv_at hl 4 rfl) ?_
              refine g9_39 (x := ((σ25 9).1 39)) hx hb hts hown hK hP (rfl) (hts _ q1399) dX9_best_81 ?_
              refine lv_istore_n (lv' := [(3, .int ((σ25 9).1 39)), (2, .int (y14.2.1 0)), (5, .int (y14.2.1 0)), (4, .int (y14.2.1 1)), (0, .ref (g 60)), (1, .int p1)]) hx hb dX9_best_84 rfl hl (by decide) rfl (fun ls hl => ?_)
              refine lv_aload_n hx hb dX9_best_85 rfl (lv_at hl 4 rfl) ?_
              refine g9_40 (x := ((σ25 9).1 40)) hx hb hts hown hK hP (rfl) (hts _ q1400) dX9_best_86 ?_
              refine lv_istore (lv' := [(4, .int ((σ25 9).1 40)), (3, .int ((σ25 9).1 39)), (2, .int (y14.2.1 0)), (5, .int (y14.2.1 0)), (0, .ref (g 60)), (1, .int p1)]) hx hb dX9_best_89 hl (by decide) rfl (fun ls hl => ?_)
              exact nj31 (σ25, lf [((σ25 9).1 40), ((σ25 9).1 39), (y14.2.1 0)], lg []) ⟨rfl, (show (-1 : Int) ≤ ((y14.2.1 0) : Int32).toInt ∧ ((y14.2.1 0) : Int32).toInt ≤ 8 from (by have f0 := b18; have f1 := k23; have f2 := a9_17 hJ (j := 3) rfl; have g0 := rg32 (y14.2.1 0); omega)), (show DK0 (σ25 9) from b48), trivial⟩ _ _ _ hP hS (lv_sub hl [3, 0, 1, 2, 4, 5] rfl)
            ·
              intro nj45
              refine lv_icmp_ne (tgt := 77) hx hb dX9_best_62 (by decide) (fun c49 => ?_) (fun c49 => ?_)
              ·
                have k50 := neq32 c49
                exact nj45 (σ25, lf [], lg []) ⟨rfl, (show DK0 (σ25 9) from T30), trivial⟩ _ _ _ hP hS (lv_sub hl [0, 1, 2, 3, 4, 5] rfl)
              ·
                have k51 := peq32 c49
                refine lv_aload_n hx hb dX9_best_65 rfl (lv_at hl 4 rfl) ?_
                refine g9_40 (x := ((σ25 9).1 40)) hx hb hts hown hK hP (rfl) (hts _ q1400) dX9_best_66 ?_
                refine lv_iload hx hb dX9_best_69 (lv_at hl 1 rfl) ?_
                refine lv_icmp_lt (tgt := 77) hx hb dX9_best_71 (by decide) (fun c52 => ?_) (fun c52 => ?_)
                ·
                  have k53 := plt32 c52
                  exact nj45 (σ25, lf [], lg []) ⟨rfl, (show DK0 (σ25 9) from T30), trivial⟩ _ _ _ hP hS (lv_sub hl [0, 1, 2, 3, 4, 5] rfl)
                ·
                  have k54 := nlt32 c52
                  refine lv_goto (tgt := 91) hx hb dX9_best_74 (by decide) ?_
                  exact nj31 (σ25, lf [(y14.2.1 1), (y14.2.1 2), (y14.2.1 3)], lg []) ⟨rfl, (show (-1 : Int) ≤ ((y14.2.1 3) : Int32).toInt ∧ ((y14.2.1 3) : Int32).toInt ≤ 8 from (by have f0 := b19; have g0 := rg32 (y14.2.1 3); omega)), (show DK0 (σ25 9) from T30), trivial⟩ _ _ _ hP hS (lv_sub hl [0, 1, 2, 3, 4, 5] rfl)
  ·
    have k55 := peq32 c10
    refine lv_bipush (v := (-2)) hx hb dX9_best_13 (by decide) ?_
    exact W.iret (v := (-2)) hx hb hr (fun tS ht hW => ⟨⟨(-2), σ1, rfl, ⟨Fr.tr (Fr.rf) (sI_f eσ1) (fN_L rfl), hJ2, trivial⟩, (show va_P D clz (WD9 cy g σ1) tS.heap by rw [ht]; exact hP)⟩, hS.F ht⟩) hS.2.2 dX9_best_15

