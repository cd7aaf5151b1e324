theorem q1829 : Cond.code yX9_isBest cX9_isBest 3 (some .boolean) ∈ lw_g := lw_gm (List.mem_of_getElem? (i := 1829) (by decide +kernel)) rfl
theorem q1830 : Cond.methodLink RX9 427 yX9_lays ∈ lw_g := lw_gm (List.mem_of_getElem? (i := 1830) (by decide +kernel)) rfl
theorem q1832 : Cond.instanceMethod yX9_lays ∈ lw_g := lw_gm (List.mem_of_getElem? (i := 1832) (by decide +kernel)) rfl
theorem q89 : Cond.selects RX9 yX9_lays yX9_lays ∈ lw_g := lw_gm (List.mem_of_getElem? (i := 89) (by decide +kernel)) rfl
theorem q1846 : Cond.methodLink RX9 430 yX9_isPlay ∈ lw_g := lw_gm (List.mem_of_getElem? (i := 1846) (by decide +kernel)) rfl
theorem q1848 : Cond.instanceMethod yX9_isPlay ∈ lw_g := lw_gm (List.mem_of_getElem? (i := 1848) (by decide +kernel)) rfl
theorem q93 : Cond.selects RX9 yX9_isPlay yX9_isPlay ∈ lw_g := lw_gm (List.mem_of_getElem? (i := 93) (by decide +kernel)) rfl
theorem dX9_isBest_0 : decode cX9_isBest 0 = .ok (.aload_n 0, 1) := by decide +kernel
theorem dX9_isBest_1 : decode cX9_isBest 1 = .ok (.iload_n 1, 1) := by decide +kernel
theorem dX9_isBest_2 : decode cX9_isBest 2 = .ok (.iload_n 2, 1) := by decide +kernel
theorem dX9_isBest_3 : decode cX9_isBest 3 = .ok (.invokevirtual 427, 3) := by decide +kernel
theorem dX9_isBest_6 : decode cX9_isBest 6 = .ok (.aload_n 0, 1) := by decide +kernel
theorem dX9_isBest_7 : decode cX9_isBest 7 = .ok (.invokevirtual 430, 3) := by decide +kernel
theorem dX9_isBest_10 : decode cX9_isBest 10 = .ok (.ireturn, 1) := by decide +kernel
set_option maxHeartbeats 4000000 in
set_option maxRecDepth 100000 in
theorem m_X9_isBest (l : Launch) (D : va_G) (cy : Nat → ClassId) (g : Nat → Nat) (σ : ST) (p1 : Int32) (p2 : Int32) (sz : Nat) (hJ : J9 (σ 9)) (kDK0 : DK0 (σ 9)) (h0 : (0 : Int) ≤ p1.toInt ∧ p1.toInt ≤ 8) (h1 : (0 : Int) ≤ p2.toInt ∧ p2.toInt ≤ 2) (h2 : p1.toInt < ((σ 9).2.2.1 17 3).toInt) : Met l yX9_isBest (ww yX9_isBest cX9_isBest 3 (some .boolean)) ({ frames := 7, cells := 0, slots := 0, locals := 448 }) (va_Pc [.ref (g 60), .int p1, .int p2] (pr9 D cy g σ sz)) (qi9 D cy g sz (fun r τ => Fr (fL [23, 24, 25, 26, 27, 28, 29, 30, 31, 32, 33, 34, 35, 36, 37, 38, 39, 40, 41]) σ τ ∧ J9 (τ 9) ∧ ((0 : Int) ≤ r.toInt ∧ r.toInt ≤ 1) ∧ True)) 0 0 (A9 cy g sz) := by
  refine Met.ofW (cc := cX9_isBest) (maxL := 3) (ret := (some .boolean)) (by decide) rfl ?_
  intro p e s m args below meth c s₁ B hml hv
  obtain ⟨rfl, hsz, hP, hK, hD0, hC⟩ := hv
  have hx := B.exec
  have hb := B.bytes
  have hr := B.returns
  have hts := hts_g (atoms_spec (ws := ww yX9_isBest cX9_isBest 3 (some .boolean)) B.pre)
  have hown : s.vm.findClass RX9 = some m.cls := findClass_of_methodNamed B.named
  have hlocks := B.notSynchronized
  clear B
  subst hsz
  have hD := fun τ => A9_D (sz := s.heap.size) hD0 τ
  clear hD0
  have hS : va_S (A9 cy g s.heap.size) s.heap s.heap [] := va_S.rf
  have hl := lv_entry ([.ref (g 60), .int p1, .int p2]) (n := 3) (Nat.le_of_ble_eq_true rfl)
  rw [lg_entry_eq]
  generalize (lg_sl ([.ref (g 60), .int p1, .int p2]) ++ List.replicate (3 - (lg_sl ([.ref (g 60), .int p1, .int p2])).length) Slot.unset).toArray = ls at hl ⊢
  have hl : lv_has ls 3 [(0, .ref (g 60)), (1, .int p1), (2, .int p2)] := hl
  refine lv_aload_n hx hb dX9_isBest_0 rfl (lv_at hl 0 rfl) ?_
  refine lv_iload_n hx hb dX9_isBest_1 rfl (lv_at hl 1 rfl) ?_
  refine lv_iload_n hx hb dX9_isBest_2 rfl (lv_at hl 2 rfl) ?_
  refine va_callv (va_runV (As := [.int p1, .int p2]) (rest := []) ⟨hx, hb, hml, hown, hts⟩ (m_X9_lays l D cy g σ p1 p2 _ hJ kDK0 (show (0 : Int) ≤ p1.toInt ∧ p1.toInt ≤ 8 from (by have f0 := h0; have f1 := h2; have f2 := a9_17 hJ (j := 3) rfl; have g1 := rg32 p1; omega)) (show (0 : Int) ≤ p2.toInt ∧ p2.toInt ≤ 2 from (by have f0 := h0; have f1 := h1; have f2 := h2; have f3 := a9_17 hJ (j := 3) rfl; have g1 := rg32 p1; have g2 := rg32 p2; omega)) (show p1.toInt < ((σ 9).2.2.1 17 3).toInt from (by have f0 := a9_17 hJ (j := 3) rfl; have f1 := h0; have f2 := h2; have g1 := rg32 p1; omega))) (cwV 2 hts (gd_V q1830 q1832 q89 q134 q1833) rfl rfl rfl (by decide +kernel) ⟨Nat.le_of_ble_eq_true rfl, Nat.le_of_ble_eq_true rfl⟩) (pv9 hP hK hD hC hS (va_recv hK hP (ci := 9) (q0 := 0) rfl rfl)) rfl rfl hl.1 rfl (lv_room (Nat.le_of_ble_eq_true rfl)) dX9_isBest_3 ⟨Nat.le_of_ble_eq_true rfl, Nat.le_of_ble_eq_true rfl⟩) hS (fun q _ h => up9 hS q h) (up9 hS) (fun σ2 tS H1 locs ht hvm hw3 hB hz1 hk1 hS => ?_)
  have hP : va_P D clz (WD9 cy g σ2) H1 := by rw [← ht]; exact hB
  clear hB hz1 hk1 hvm ht
  generalize H1 = H at hP hS ⊢
  have hF4 : Fr (fL [23, 24, 25, 26, 27, 28, 29, 30, 31, 32, 33, 34]) σ σ2 := hw3.1
  have hJ5 : J9 (σ2 9) := hw3.2.1
  have T6 : DK0 (σ2 9) := DK0.mv kDK0 (hF4 9 17 rfl).2.2.1 (hF4 9 18 rfl).2.2.1 (hF4 9 19 rfl).2.2.1
  refine lv_aload_n hx hb dX9_isBest_6 rfl (lv_at hl 0 rfl) ?_
  refine va_calli (va_runV (As := []) (rest := []) ⟨hx, hb, hml, hown, hts⟩ (m_X9_isPlay l D cy g σ2  _ hJ5 ) (cwV 0 hts (gd_V q1846 q1848 q93 q134 q1849) rfl rfl rfl (by decide +kernel) ⟨Nat.le_of_ble_eq_true rfl, Nat.le_of_ble_eq_true rfl⟩) (pv9 hP hK hD hC hS (va_recv hK hP (ci := 9) (q0 := 0) rfl rfl)) rfl rfl hl.1 rfl (lv_room (Nat.le_of_ble_eq_true rfl)) dX9_isBest_7 ⟨Nat.le_of_ble_eq_true rfl, Nat.le_of_ble_eq_true rfl⟩) hS (fun q _ h => up9 hS q h) (up9 hS) (fun r7 σ8 tS H1 locs ht hvm hw9 hB hz1 hk1 hS => ?_)
  have hP : va_P D clz (WD9 cy g σ8) H1 := by rw [← ht]; exact hB
  clear hB hz1 hk1 hvm ht
  generalize H1 = H at hP hS ⊢
  have hF10 : Fr (fL [35, 36, 37, 38, 39, 40, 41]) σ2 σ8 := hw9.1
  have hJ11 : J9 (σ8 9) := hw9.2.1
  have b12 : (0 : Int) ≤ r7.toInt ∧ r7.toInt ≤ 1 := hw9.2.2.1
  have T13 : DK0 (σ8 9) := DK0.mv T6 (hF10 9 17 rfl).2.2.1 (hF10 9 18 rfl).2.2.1 (hF10 9 19 rfl).2.2.1
  have T14 : HK (σ8 9) := HK.mv hw3.2.2.1 (hF10 9 18 rfl).2.2.1 (hF10 9 28 rfl).1
  exact W.zret (v := r7) hx hb hr (nrZ (by have f0 := b12; have g0 := rg32 r7; omega)) (fun tS ht hW => ⟨⟨r7, σ8, rfl, ⟨Fr.tr (Fr.tr (Fr.rf) hF4 (fL_sub rfl)) hF10 (fL_sub rfl), hJ11, (show (0 : Int) ≤ r7.toInt ∧ r7.toInt ≤ 1 from (by have f0 := b12; have g0 := rg32 r7; omega)), trivial⟩, (show va_P D clz (WD9 cy g σ8) tS.heap by rw [ht]; exact hP)⟩, hS.F ht⟩) hS.2.2 dX9_isBest_10

theorem q1825 : Cond.code yX9_isPlaying cX9_isPlaying 3 (some .boolean) ∈ lw_g := lw_gm (List.mem_of_getElem? (i := 1825) (by decide +kernel)) rfl
theorem dX9_isPlaying_0 : decode cX9_isPlaying 0 = .ok (.aload_n 0, 1) := by decide +kernel
theorem dX9_isPlaying_1 : decode cX9_isPlaying 1 = .ok (.iload_n 1, 1) := by decide +kernel
theorem dX9_isPlaying_2 : decode cX9_isPlaying 2 = .ok (.invokevirtual 317, 3) := by decide +kernel
theorem dX9_isPlaying_5 : decode cX9_isPlaying 5 = .ok (.ifCond .eq 15, 3) := by decide +kernel
theorem dX9_isPlaying_8 : decode cX9_isPlaying 8 = .ok (.aload_n 0, 1) := by decide +kernel
theorem dX9_isPlaying_9 : decode cX9_isPlaying 9 = .ok (.iload_n 2, 1) := by decide +kernel
theorem dX9_isPlaying_10 : decode cX9_isPlaying 10 = .ok (.invokevirtual 303, 3) := by decide +kernel
theorem dX9_isPlaying_13 : decode cX9_isPlaying 13 = .ok (.ifCond .eq 7, 3) := by decide +kernel
theorem dX9_isPlaying_16 : decode cX9_isPlaying 16 = .ok (.iconst 1, 1) := by decide +kernel
theorem dX9_isPlaying_17 : decode cX9_isPlaying 17 = .ok (.goto 4, 3) := by decide +kernel
theorem dX9_isPlaying_20 : decode cX9_isPlaying 20 = .ok (.iconst 0, 1) := by decide +kernel
theorem dX9_isPlaying_21 : decode cX9_isPlaying 21 = .ok (.ireturn, 1) := by decide +kernel
set_option maxHeartbeats 4000000 in
set_option maxRecDepth 100000 in
theorem m_X9_isPlaying (l : Launch) (D : va_G) (cy : Nat → ClassId) (g : Nat → Nat) (σ : ST) (p1 : Int32) (p2 : Int32) (sz : Nat) (hJ : J9 (σ 9))  : Met l yX9_isPlaying (ww yX9_isPlaying cX9_isPlaying 3 (some .boolean)) ({ frames := 3, cells := 0, slots := 0, locals := 192 }) (va_Pc [.ref (g 60), .int p1, .int p2] (pr9 D cy g σ sz)) (qi9 D cy g sz (fun r τ => τ = σ ∧ ((0 : Int) ≤ r.toInt ∧ r.toInt ≤ 1) ∧ ((r.toInt = 0) ∨ ((0 : Int) ≤ p1.toInt ∧ p1.toInt ≤ 8 ∧ (0 : Int) ≤ p2.toInt ∧ p2.toInt ≤ 2)) ∧ ((r.toInt = 0) ∨ (p1.toInt < ((σ 9).2.2.1 17 3).toInt)) ∧ True)) 0 0 (A9 cy g sz) := by
  refine Met.ofW (cc := cX9_isPlaying) (maxL := 3) (ret := (some .boolean)) (by decide) rfl ?_
  intro p e s m args below meth c s₁ B hml hv
  obtain ⟨rfl, hsz, hP, hK, hD0, hC⟩ := hv
  have hx := B.exec
  have hb := B.bytes
  have hr := B.returns
  have hts := hts_g (atoms_spec (ws := ww yX9_isPlaying cX9_isPlaying 3 (some .boolean)) B.pre)
  have hown : s.vm.findClass RX9 = some m.cls := findClass_of_methodNamed B.named
  have hlocks := B.notSynchronized
  clear B
  subst hsz
  have hD := fun τ => A9_D (sz := s.heap.size) hD0 τ
  clear hD0
  have hS : va_S (A9 cy g s.heap.size) s.heap s.heap [] := va_S.rf
  have hl := lv_entry ([.ref (g 60), .int p1, .int p2]) (n := 3) (Nat.le_of_ble_eq_true rfl)
  rw [lg_entry_eq]
  generalize (lg_sl ([.ref (g 60), .int p1, .int p2]) ++ List.replicate (3 - (lg_sl ([.ref (g 60), .int p1, .int p2])).length) Slot.unset).toArray = ls at hl ⊢
  have hl : lv_has ls 3 [(0, .ref (g 60)), (1, .int p1), (2, .int p2)] := hl
  refine lv_aload_n hx hb dX9_isPlaying_0 rfl (lv_at hl 0 rfl) ?_
  refine lv_iload_n hx hb dX9_isPlaying_1 rfl (lv_at hl 1 rfl) ?_
  refine va_calli (va_runV (As := [.int p1]) (rest := []) ⟨hx, hb, hml, hown, hts⟩ (m_X9_isPlayer l D cy g σ p1 _ hJ ) (cwV 1 hts (gd_V q1710 q1712 q72 q134 q1713) rfl rfl rfl (by decide +kernel) ⟨Nat.le_of_ble_eq_true rfl, Nat.le_of_ble_eq_true rfl⟩) (pv9 hP hK hD hC hS (va_recv hK hP (ci := 9) (q0 := 0) rfl rfl)) rfl rfl hl.1 rfl (lv_room (Nat.le_of_ble_eq_true rfl)) dX9_isPlaying_2 ⟨Nat.le_of_ble_eq_true rfl, Nat.le_of_ble_eq_true rfl⟩) hS (fun q _ h => up9 hS q h) (up9 hS) (fun r1 σ2 tS H1 locs ht hvm hw3 hB hz1 hk1 hS => ?_)
  have hP : va_P D clz (WD9 cy g σ2) H1 := by rw [← ht]; exact hB
  clear hB hz1 hk1 hvm ht
  generalize H1 = H at hP hS ⊢
  have hw3E : σ = σ2 := (hw3.1).symm
  subst hw3E
  have b4 : (0 : Int) ≤ r1.toInt ∧ r1.toInt ≤ 1 := hw3.2.1
  have b5 : (r1.toInt = 0) ∨ ((0 : Int) ≤ p1.toInt ∧ p1.toInt ≤ 8) := hw3.2.2.1
  have b6 : (r1.toInt = 0) ∨ (0 ≤ p1.toInt ∧ p1.toInt < ((σ 9).2.2.1 17 3).toInt) := hw3.2.2.2.1
  refine lv_if_eq (tgt := 20) hx hb dX9_isPlaying_5 (by decide) (fun c7 => ?_) (fun c7 => ?_)
  ·
    have k8 := peq32 c7
    refine lv_iconst (v := 0) hx hb dX9_isPlaying_20 (by decide) ?_
    exact W.zret (v := 0) hx hb hr rfl (fun tS ht hW => ⟨⟨0, σ, rfl, ⟨rfl, (show (0 : Int) ≤ (0 : Int32).toInt ∧ (0 : Int32).toInt ≤ 1 from (by have z0 : (0 : Int32).toInt = 0 := (by decide); omega)), (show ((0 : Int32).toInt = 0) ∨ ((0 : Int) ≤ p1.toInt ∧ p1.toInt ≤ 8 ∧ (0 : Int) ≤ p2.toInt ∧ p2.toInt ≤ 2) from (by have f0 := b5; have f1 := b6; have f2 := a9_17 hJ (j := 3) rfl; have f3 := b4; have f4 := k8; have g1 := rg32 p1; have g2 := rg32 p2; have z0 : (0 : Int32).toInt = 0 := (by decide); omega)), (show ((0 : Int32).toInt = 0) ∨ (p1.toInt < ((σ 9).2.2.1 17 3).toInt) from (by have f0 := a9_17 hJ (j := 3) rfl; have f1 := b5; have f2 := b6; have f3 := b4; have f4 := k8; have g1 := rg32 p1; have z0 : (0 : Int32).toInt = 0 := (by decide); omega)), trivial⟩, (show va_P D clz (WD9 cy g σ) tS.heap by rw [ht]; exact hP)⟩, hS.F ht⟩) hS.2.2 dX9_isPlaying_21
  ·
    have k9 := neq32 c7
    refine lv_aload_n hx hb dX9_isPlaying_8 rfl (lv_at hl 0 rfl) ?_
    refine lv_iload_n hx hb dX9_isPlaying_9 rfl (lv_at hl 2 rfl) ?_
    refine va_calli (va_runV (As := [.int p2]) (rest := []) ⟨hx, hb, hml, hown, hts⟩ (m_X9_isPart l D cy g σ p2 _ hJ ) (cwV 1 hts (gd_V q1722 q1724 q74 q134 q1725) rfl rfl rfl (by decide +kernel) ⟨Nat.le_of_ble_eq_true rfl, Nat.le_of_ble_eq_true rfl⟩) (pv9 hP hK hD hC hS (va_recv hK hP (ci := 9) (q0 := 0) rfl rfl)) rfl rfl hl.1 rfl (lv_room (Nat.le_of_ble_eq_true rfl)) dX9_isPlaying_10 ⟨Nat.le_of_ble_eq_true rfl, Nat.le_of_ble_eq_true rfl⟩) hS (fun q _ h => up9 hS q h) (up9 hS) (fun r10 σ11 tS H1 locs ht hvm hw12 hB hz1 hk1 hS => ?_)
    have hP : va_P D clz (WD9 cy g σ11) H1 := by rw [← ht]; exact hB
    clear hB hz1 hk1 hvm ht
    generalize H1 = H at hP hS ⊢
    have hw12E : σ = σ11 := (hw12.1).symm
    subst hw12E
    have b13 : (0 : Int) ≤ r10.toInt ∧ r10.toInt ≤ 1 := hw12.2.1
    have b14 : (r10.toInt = 0) ∨ ((0 : Int) ≤ p2.toInt ∧ p2.toInt ≤ 2) := hw12.2.2.1
    have b15 : (r10.toInt = 0) ∨ (0 ≤ p2.toInt ∧ p2.toInt < ((σ 9).2.2.1 17 4).toInt) := hw12.2.2.2.1
    refine lv_if_eq (tgt := 20) hx hb dX9_isPlaying_13 (by decide) (fun c16 => ?_) (fun c16 => ?_)
    ·
      have k17 := peq32 c16
      refine lv_iconst (v := 0) hx hb dX9_isPlaying_20 (by decide) ?_
      exact W.zret (v := 0) hx hb hr rfl (fun tS ht hW => ⟨⟨0, σ, rfl, ⟨rfl, (show (0 : Int) ≤ (0 : Int32).toInt ∧ (0 : Int32).toInt ≤ 1 from (by have z0 : (0 : Int32).toInt = 0 := (by decide); omega)), (show ((0 : Int32).toInt = 0) ∨ ((0 : Int) ≤ p1.toInt ∧ p1.toInt ≤ 8 ∧ (0 : Int) ≤ p2.toInt ∧ p2.toInt ≤ 2) from (by have f0 := b5; have f1 := b6; have f2 := b14; have f3 := b15; have f4 := a9_17 hJ (j := 3) rfl; have f5 := a9_17 hJ (j := 4) rfl; have f6 := b4; have f7 := k9; have f8 := b13; have f9 := k17; have g2 := rg32 p1; have g3 := rg32 p2; have z0 : (0 : Int32).toInt = 0 := (by decide); omega)), (show ((0 : Int32).toInt = 0) ∨ (p1.toInt < ((σ 9).2.2.1 17 3).toInt) from (by have f0 := a9_17 hJ (j := 3) rfl; have f1 := b5; have f2 := b6; have f3 := b4; have f4 := k9; have g1 := rg32 p1; have z0 : (0 : Int32).toInt = 0 := (by decide); omega)), trivial⟩, (show va_P D clz (WD9 cy g σ) tS.heap by rw [ht]; exact hP)⟩, hS.F ht⟩) hS.2.2 dX9_isPlaying_21
    ·
      have k18 := neq32 c16
      refine lv_iconst (v := 1) hx hb dX9_isPlaying_16 (by decide) ?_
      refine lv_goto (tgt := 21) hx hb dX9_isPlaying_17 (by decide) ?_
      exact W.zret (v := 1) hx hb hr rfl (fun tS ht hW => ⟨⟨1, σ, rfl, ⟨rfl, (show (0 : Int) ≤ (1 : Int32).toInt ∧ (1 : Int32).toInt ≤ 1 from (by have z1 : (1 : Int32).toInt = 1 := (by decide); omega)), (show ((1 : Int32).toInt = 0) ∨ ((0 : Int) ≤ p1.toInt ∧ p1.toInt ≤ 8 ∧ (0 : Int) ≤ p2.toInt ∧ p2.toInt ≤ 2) from (by have f0 := b5; have f1 := b6; have f2 := b14; have f3 := b15; have f4 := a9_17 hJ (j := 3) rfl; have f5 := a9_17 hJ (j := 4) rfl; have f6 := b4; have f7 := k9; have f8 := b13; have f9 := k18; have g2 := rg32 p1; have g3 := rg32 p2; have z0 : (0 : Int32).toInt = 0 := (by decide); have z1 : (1 : Int32).toInt = 1 := (by decide); omega)), (show ((1 : Int32).toInt = 0) ∨ (p1.toInt < ((σ 9).2.2.1 17 3).toInt) from (by have f0 := a9_17 hJ (j := 3) rfl; have f1 := b5; have f2 := b6; have f3 := b4; have f4 := k9; have g1 := rg32 p1; have z0 : (0 : Int32).toInt = 0 := (by decide); have z1 : (1 : Int32).toInt = 1 := (by decide); omega)), trivial⟩, (show va_P D clz (WD9 cy g σ) tS.heap by rw [ht]; exact hP)⟩, hS.F ht⟩) hS.2.2 dX9_isPlaying_21

theorem q1821 : Cond.code yX9_plays cX9_plays 3 (some .int) ∈ lw_g := lw_gm (List.mem_of_getElem? (i := 1821) (by decide +kernel)) rfl
theorem q1822 : Cond.methodLink RX9 433 yX9_isPlaying ∈ lw_g := lw_gm (List.mem_of_getElem? (i := 1822) (by decide +kernel)) rfl
theorem q1824 : Cond.instanceMethod yX9_isPlaying ∈ lw_g := lw_gm (List.mem_of_getElem? (i := 1824) (by decide +kernel)) rfl
theorem q87 : Cond.selects RX9 yX9_isPlaying yX9_isPlaying ∈ lw_g := lw_gm (List.mem_of_getElem? (i := 87) (by decide +kernel)) rfl
theorem q1826 : Cond.methodLink RX9 436 yX9_isBest ∈ lw_g := lw_gm (List.mem_of_getElem? (i := 1826) (by decide +kernel)) rfl
theorem q1828 : Cond.instanceMethod yX9_isBest ∈ lw_g := lw_gm (List.mem_of_getElem? (i := 1828) (by decide +kernel)) rfl
theorem q88 : Cond.selects RX9 yX9_isBest yX9_isBest ∈ lw_g := lw_gm (List.mem_of_getElem? (i := 88) (by decide +kernel)) rfl
theorem dX9_plays_0 : decode cX9_plays 0 = .ok (.aload_n 0, 1) := by decide +kernel
theorem dX9_plays_1 : decode cX9_plays 1 = .ok (.iconst 0, 1) := by decide +kernel
theorem dX9_plays_2 : decode cX9_plays 2 = .ok (.putfield 129, 3) := by decide +kernel
theorem dX9_plays_5 : decode cX9_plays 5 = .ok (.aload_n 0, 1) := by decide +kernel
theorem dX9_plays_6 : decode cX9_plays 6 = .ok (.iload_n 1, 1) := by decide +kernel
theorem dX9_plays_7 : decode cX9_plays 7 = .ok (.iload_n 2, 1) := by decide +kernel
theorem dX9_plays_8 : decode cX9_plays 8 = .ok (.invokevirtual 433, 3) := by decide +kernel
theorem dX9_plays_11 : decode cX9_plays 11 = .ok (.ifCond .eq 20, 3) := by decide +kernel
theorem dX9_plays_14 : decode cX9_plays 14 = .ok (.aload_n 0, 1) := by decide +kernel
theorem dX9_plays_15 : decode cX9_plays 15 = .ok (.iload_n 1, 1) := by decide +kernel
theorem dX9_plays_16 : decode cX9_plays 16 = .ok (.iload_n 2, 1) := by decide +kernel
theorem dX9_plays_17 : decode cX9_plays 17 = .ok (.invokevirtual 436, 3) := by decide +kernel
theorem dX9_plays_20 : decode cX9_plays 20 = .ok (.ifCond .eq 7, 3) := by decide +kernel
theorem dX9_plays_23 : decode cX9_plays 23 = .ok (.iconst 1, 1) := by decide +kernel
theorem dX9_plays_24 : decode cX9_plays 24 = .ok (.goto 9, 3) := by decide +kernel
theorem dX9_plays_27 : decode cX9_plays 27 = .ok (.iconst 0, 1) := by decide +kernel
theorem dX9_plays_28 : decode cX9_plays 28 = .ok (.goto 5, 3) := by decide +kernel
theorem dX9_plays_31 : decode cX9_plays 31 = .ok (.bipush (-2), 2) := by decide +kernel
theorem dX9_plays_33 : decode cX9_plays 33 = .ok (.ireturn, 1) := by decide +kernel
set_option maxHeartbeats 4000000 in
set_option maxRecDepth 100000 in
theorem m_X9_plays (l : Launch) (D : va_G) (cy : Nat → ClassId) (g : Nat → Nat) (σ : ST) (p1 : Int32) (p2 : Int32) (sz : Nat) (hJ : J9 (σ 9)) (kDK0 : DK0 (σ 9)) : Met l yX9_plays (ww yX9_plays cX9_plays 3 (some .int)) ({ frames := 8, cells := 0, slots := 0, locals := 512 }) (va_Pc [.ref (g 60), .int p1, .int p2] (pr9 D cy g σ sz)) (qi9 D cy g sz (fun r τ => Fr (fL [0, 23, 24, 25, 26, 27, 28, 29, 30, 31, 32, 33, 34, 35, 36, 37, 38, 39, 40, 41]) σ τ ∧ J9 (τ 9) ∧ True)) 0 0 (A9 cy g sz) := by
  refine Met.ofW (cc := cX9_plays) (maxL := 3) (ret := (some .int)) (by decide) rfl ?_
  intro p e s m args below meth c s₁ B hml hv
  obtain ⟨rfl, hsz, hP, hK, hD0, hC⟩ := hv
  have hx := B.exec
  have hb := B.bytes
  have hr := B.returns
  have hts := hts_g (atoms_spec (ws := ww yX9_plays cX9_plays 3 (some .int)) B.pre)
  have hown : s.vm.findClass RX9 = some m.cls := findClass_of_methodNamed B.named
  have hlocks := B.notSynchronized
  clear B
  subst hsz
  have hD := fun τ => A9_D (sz := s.heap.size) hD0 τ
  clear hD0
  have hS : va_S (A9 cy g s.heap.size) s.heap s.heap [] := va_S.rf
  have hl := lv_entry ([.ref (g 60), .int p1, .int p2]) (n := 3) (Nat.le_of_ble_eq_true rfl)
  rw [lg_entry_eq]
  generalize (lg_sl ([.ref (g 60), .int p1, .int p2]) ++ List.replicate (3 - (lg_sl ([.ref (g 60), .int p1, .int p2])).length) Slot.unset).toArray = ls at hl ⊢
  have hl : lv_has ls 3 [(0, .ref (g 60)), (1, .int p1), (2, .int p2)] := hl
  refine lv_aload_n hx hb dX9_plays_0 rfl (lv_at hl 0 rfl) ?_
  refine lv_iconst (v := 0) hx hb dX9_plays_1 (by decide) ?_
  refine p9_0 hx hb hts hown hK hP hD hS (hts _ q1360) dX9_plays_2 (fun H locs σ1 eσ1 hP hS => ?_)
  have hJ2 : J9 (σ1 9) := hJ.I eσ1 (show JI9 0 (0 : Int32) from trivial)
  have T3 : DK0 (σ1 9) := DK0.mv kDK0 ((sI_f eσ1) 9 17 rfl).2.2.1 ((sI_f eσ1) 9 18 rfl).2.2.1 ((sI_f eσ1) 9 19 rfl).2.2.1
  refine lv_aload_n hx hb dX9_plays_5 rfl (lv_at hl 0 rfl) ?_
  refine lv_iload_n hx hb dX9_plays_6 rfl (lv_at hl 1 rfl) ?_
  refine lv_iload_n hx hb dX9_plays_7 rfl (lv_at hl 2 rfl) ?_
  refine va_calli (va_runV (As := [.int p1, .int p2]) (rest := []) ⟨hx, hb, hml, hown, hts⟩ (m_X9_isPlaying l D cy g σ1 p1 p2 _ hJ2 ) (cwV 2 hts (gd_V q1822 q1824 q87 q134 q1825) rfl rfl rfl (by decide +kernel) ⟨Nat.le_of_ble_eq_true rfl, Nat.le_of_ble_eq_true rfl⟩) (pv9 hP hK hD hC hS (va_recv hK hP (ci := 9) (q0 := 0) rfl rfl)) rfl rfl hl.1 rfl (lv_room (Nat.le_of_ble_eq_true rfl)) dX9_plays_8 ⟨Nat.le_of_ble_eq_true rfl, Nat.le_of_ble_eq_true rfl⟩) hS (fun q _ h => up9 hS q h) (up9 hS) (fun r4 σ5 tS H1 locs ht hvm hw6 hB hz1 hk1 hS => ?_)
  have hP : va_P D clz (WD9 cy g σ5) H1 := by rw [← ht]; exact hB
  clear hB hz1 hk1 hvm ht
  generalize H1 = H at hP hS ⊢
  have hw6E : σ1 = σ5 := (hw6.1).symm
  subst hw6E
  have b7 : (0 : Int) ≤ r4.toInt ∧ r4.toInt ≤ 1 := hw6.2.1
  have b8 : (r4.toInt = 0) ∨ ((0 : Int) ≤ p1.toInt ∧ p1.toInt ≤ 8 ∧ (0 : Int) ≤ p2.toInt ∧ p2.toInt ≤ 2) := hw6.2.2.1
  have b9 : (r4.toInt = 0) ∨ (p1.toInt < ((σ1 9).2.2.1 17 3).toInt) := hw6.2.2.2.1
  refine lv_if_eq (tgt := 31) hx hb dX9_plays_11 (by decide) (fun c10 => ?_) (fun c10 => ?_)
  ·
    have k11 := peq32 c10
    refine lv_bipush (v := (-2)) hx hb dX9_plays_31 (by decide) ?_
    exact W.iret (v := (-2)) hx hb hr (fun tS ht hW => ⟨⟨(-2), σ1, rfl, ⟨Fr.tr (Fr.rf) (sI_f eσ1) (fN_L rfl), hJ2, trivial⟩, (show va_P D clz (WD9 cy g σ1) tS.heap by rw [ht]; exact hP)⟩, hS.F ht⟩) hS.2.2 dX9_plays_33
  ·
    have k12 := neq32 c10
    refine lv_aload_n hx hb dX9_plays_14 rfl (lv_at hl 0 rfl) ?_
    refine lv_iload_n hx hb dX9_plays_15 rfl (lv_at hl 1 rfl) ?_
    refine lv_iload_n hx hb dX9_plays_16 rfl (lv_at hl 2 rfl) ?_
    refine va_calli (va_runV (As := [.int p1, .int p2]) (rest := []) ⟨hx, hb, hml, hown, hts⟩ (m_X9_isBest l D cy g σ1 p1 p2 _ hJ2 T3 (show (0 : Int) ≤ p1.toInt ∧ p1.toInt ≤ 8 from (by have f0 := b8; have f1 := b9; have f2 := a9_17 hJ2 (j := 3) rfl; have f3 := congrArg Int32.toInt (show ((σ1 9).2.2.1 17 3) = ((σ 9).2.2.1 17 3) from congrFun (((sI_f eσ1) 9 17 rfl).2.2.1) _); have f4 := b7; have f5 := k12; have f6 := a9_17 hJ (j := 3) rfl; have g2 := rg32 p1; have z0 : (0 : Int32).toInt = 0 := (by decide); omega)) (show (0 : Int) ≤ p2.toInt ∧ p2.toInt ≤ 2 from (by have f0 := b8; have f1 := b9; have f2 := a9_17 hJ2 (j := 3) rfl; have f3 := congrArg Int32.toInt (show ((σ1 9).2.2.1 17 3) = ((σ 9).2.2.1 17 3) from congrFun (((sI_f eσ1) 9 17 rfl).2.2.1) _); have f4 := b7; have f5 := k12; have f6 := a9_17 hJ (j := 3) rfl; have g2 := rg32 p1; have g3 := rg32 p2; have z0 : (0 : Int32).toInt = 0 := (by decide); omega)) (show p1.toInt < ((σ1 9).2.2.1 17 3).toInt from (by have f0 := a9_17 hJ2 (j := 3) rfl; have f1 := congrArg Int32.toInt (show ((σ1 9).2.2.1 17 3) = ((σ 9).2.2.1 17 3) from congrFun (((sI_f eσ1) 9 17 rfl).2.2.1) _); have f2 := b8; have f3 := b9; have f4 := a9_17 hJ (j := 3) rfl; have f5 := b7; have f6 := k12; have g2 := rg32 p1; have z0 : (0 : Int32).toInt = 0 := (by decide); omega))) (cwV 2 hts (gd_V q1826 q1828 q88 q134 q1829) rfl rfl rfl (by decide +kernel) ⟨Nat.le_of_ble_eq_true rfl, Nat.le_of_ble_eq_true rfl⟩) (pv9 hP hK hD hC hS (va_recv hK hP (ci := 9) (q0 := 0) rfl rfl)) rfl rfl hl.1 rfl (lv_room (Nat.le_of_ble_eq_true rfl)) dX9_plays_17 ⟨Nat.le_of_ble_eq_true rfl, Nat.le_of_ble_eq_true rfl⟩) hS (fun q _ h => up9 hS q h) (up9 hS) (fun r13 σ14 tS H1 locs ht hvm hw15 hB hz1 hk1 hS => ?_)
    have hP : va_P D clz (WD9 cy g σ14) H1 := by rw [← ht]; exact hB
    clear hB hz1 hk1 hvm ht
    generalize H1 = H at hP hS ⊢
    have hF16 : Fr (fL [23, 24, 25, 26, 27, 28, 29, 30, 31, 32, 33, 34, 35, 36, 37, 38, 39, 40, 41]) σ1 σ14 := hw15.1
    have hJ17 : J9 (σ14 9) := hw15.2.1
    have b18 : (0 : Int) ≤ r13.toInt ∧ r13.toInt ≤ 1 := hw15.2.2.1
    have T19 : DK0 (σ14 9) := DK0.mv T3 (hF16 9 17 rfl).2.2.1 (hF16 9 18 rfl).2.2.1 (hF16 9 19 rfl).2.2.1
    refine lv_if_eq (tgt := 27) hx hb dX9_plays_20 (by decide) (fun c20 => ?_) (fun c20 => ?_)
    ·
      have k21 := peq32 c20
      refine lv_iconst (v := 0) hx hb dX9_plays_27 (by decide) ?_
      refine lv_goto (tgt := 33) hx hb dX9_plays_28 (by decide) ?_
      exact W.iret (v := 0) hx hb hr (fun tS ht hW => ⟨⟨0, σ14, rfl, ⟨Fr.tr (Fr.tr (Fr.rf) (sI_f eσ1) (fN_L rfl)) hF16 (fL_sub rfl), hJ17, trivial⟩, (show va_P D clz (WD9 cy g σ14) tS.heap by rw [ht]; exact hP)⟩, hS.F ht⟩) hS.2.2 dX9_plays_33
    ·
      have k22 := neq32 c20
      refine lv_iconst (v := 1) hx hb dX9_plays_23 (by decide) ?_
      refine lv_goto (tgt := 33) hx hb dX9_plays_24 (by decide) ?_
      exact W.iret (v := 1) hx hb hr (fun tS ht hW => ⟨⟨1, σ14, rfl, ⟨Fr.tr (Fr.tr (Fr.rf) (sI_f eσ1) (fN_L rfl)) hF16 (fL_sub rfl), hJ17, trivial⟩, (show va_P D clz (WD9 cy g σ14) tS.heap by rw [ht]; exact hP)⟩, hS.F ht⟩) hS.2.2 dX9_plays_33

theorem q1875 : Cond.code yX9_cost cX9_cost 3 (some .int) ∈ lw_g := lw_gm (List.mem_of_getElem? (i := 1875) (by decide +kernel)) rfl
theorem dX9_cost_0 : decode cX9_cost 0 = .ok (.aload_n 0, 1) := by decide +kernel
theorem dX9_cost_1 : decode cX9_cost 1 = .ok (.iconst 0, 1) := by decide +kernel
theorem dX9_cost_2 : decode cX9_cost 2 = .ok (.putfield 129, 3) := by decide +kernel
theorem dX9_cost_5 : decode cX9_cost 5 = .ok (.aload_n 0, 1) := by decide +kernel
theorem dX9_cost_6 : decode cX9_cost 6 = .ok (.iload_n 1, 1) := by decide +kernel
theorem dX9_cost_7 : decode cX9_cost 7 = .ok (.iload_n 2, 1) := by decide +kernel
theorem dX9_cost_8 : decode cX9_cost 8 = .ok (.invokevirtual 433, 3) := by decide +kernel
theorem dX9_cost_11 : decode cX9_cost 11 = .ok (.ifCond .ne 8, 3) := by decide +kernel
theorem dX9_cost_14 : decode cX9_cost 14 = .ok (.bipush (-2), 2) := by decide +kernel
theorem dX9_cost_16 : decode cX9_cost 16 = .ok (.goto 20, 3) := by decide +kernel
theorem dX9_cost_19 : decode cX9_cost 19 = .ok (.aload_n 0, 1) := by decide +kernel
theorem dX9_cost_20 : decode cX9_cost 20 = .ok (.iload_n 1, 1) := by decide +kernel
theorem dX9_cost_21 : decode cX9_cost 21 = .ok (.iload_n 2, 1) := by decide +kernel
theorem dX9_cost_22 : decode cX9_cost 22 = .ok (.invokevirtual 436, 3) := by decide +kernel
theorem dX9_cost_25 : decode cX9_cost 25 = .ok (.ifCond .eq 10, 3) := by decide +kernel
theorem dX9_cost_28 : decode cX9_cost 28 = .ok (.aload_n 0, 1) := by decide +kernel
theorem dX9_cost_29 : decode cX9_cost 29 = .ok (.getfield 415, 3) := by decide +kernel
theorem dX9_cost_32 : decode cX9_cost 32 = .ok (.goto 4, 3) := by decide +kernel
theorem dX9_cost_35 : decode cX9_cost 35 = .ok (.iconst (-1), 1) := by decide +kernel
theorem dX9_cost_36 : decode cX9_cost 36 = .ok (.ireturn, 1) := by decide +kernel
set_option maxHeartbeats 4000000 in
set_option maxRecDepth 100000 in
theorem m_X9_cost (l : Launch) (D : va_G) (cy : Nat → ClassId) (g : Nat → Nat) (σ : ST) (p1 : Int32) (p2 : Int32) (sz : Nat) (hJ : J9 (σ 9)) (kDK0 : DK0 (σ 9)) : Met l yX9_cost (ww yX9_cost cX9_cost 3 (some .int)) ({ frames := 8, cells := 0, slots := 0, locals := 512 }) (va_Pc [.ref (g 60), .int p1, .int p2] (pr9 D cy g σ sz)) (qi9 D cy g sz (fun r τ => Fr (fL [0, 23, 24, 25, 26, 27, 28, 29, 30, 31, 32, 33, 34, 35, 36, 37, 38, 39, 40, 41]) σ τ ∧ J9 (τ 9) ∧ True)) 0 0 (A9 cy g sz) := by
  refine Met.ofW (cc := cX9_cost) (maxL := 3) (ret := (some .int)) (by decide) rfl ?_
  intro p e s m args below meth c s₁ B hml hv
  obtain ⟨rfl, hsz, hP, hK, hD0, hC⟩ := hv
  have hx := B.exec
  have hb := B.bytes
  have hr := B.returns
  have hts := hts_g (atoms_spec (ws := ww yX9_cost cX9_cost 3 (some .int)) B.pre)
  have hown : s.vm.findClass RX9 = some m.cls := findClass_of_methodNamed B.named
  have hlocks := B.notSynchronized
  clear B
  subst hsz
  have hD := fun τ => A9_D (sz := s.heap.size) hD0 τ
  clear hD0
  have hS : va_S (A9 cy g s.heap.size) s.heap s.heap [] := va_S.rf
  have hl := lv_entry ([.ref (g 60), .int p1, .int p2]) (n := 3) (Nat.le_of_ble_eq_true rfl)
  rw [lg_entry_eq]
  generalize (lg_sl ([.ref (g 60), .int p1, .int p2]) ++ List.replicate (3 - (lg_sl ([.ref (g 60), .int p1, .int p2])).length) Slot.unset).toArray = ls at hl ⊢
  have hl : lv_has ls 3 [(0, .ref (g 60)), (1, .int p1), (2, .int p2)] := hl
  refine lv_aload_n hx hb dX9_cost_0 rfl (lv_at hl 0 rfl) ?_
  refine lv_iconst (v := 0) hx hb dX9_cost_1 (by decide) ?_
  refine p9_0 hx hb hts hown hK hP hD hS (hts _ q1360) dX9_cost_2 (fun H locs σ1 eσ1 hP hS => ?_)
  have hJ2 : J9 (σ1 9) := hJ.I eσ1 (show JI9 0 (0 : Int32) from trivial)
  have T3 : DK0 (σ1 9) := DK0.mv kDK0 ((sI_f eσ1) 9 17 rfl).2.2.1 ((sI_f eσ1) 9 18 rfl).2.2.1 ((sI_f eσ1) 9 19 rfl).2.2.1
  refine lv_aload_n hx hb dX9_cost_5 rfl (lv_at hl 0 rfl) ?_
  refine lv_iload_n hx hb dX9_cost_6 rfl (lv_at hl 1 rfl) ?_
  refine lv_iload_n hx hb dX9_cost_7 rfl (lv_at hl 2 rfl) ?_
  refine va_calli (va_runV (As := [.int p1, .int p2]) (rest := []) ⟨hx, hb, hml, hown, hts⟩ (m_X9_isPlaying l D cy g σ1 p1 p2 _ hJ2 ) (cwV 2 hts (gd_V q1822 q1824 q87 q134 q1825) rfl rfl rfl (by decide +kernel) ⟨Nat.le_of_ble_eq_true rfl, Nat.le_of_ble_eq_true rfl⟩) (pv9 hP hK hD hC hS (va_recv hK hP (ci := 9) (q0 := 0) rfl rfl)) rfl rfl hl.1 rfl (lv_room (Nat.le_of_ble_eq_true rfl)) dX9_cost_8 ⟨Nat.le_of_ble_eq_true rfl, Nat.le_of_ble_eq_true rfl⟩) hS (fun q _ h => up9 hS q h) (up9 hS) (fun r4 σ5 tS H1 locs ht hvm hw6 hB hz1 hk1 hS => ?_)
  have hP : va_P D clz (WD9 cy g σ5) H1 := by rw [← ht]; exact hB
  clear hB hz1 hk1 hvm ht
  generalize H1 = H at hP hS ⊢
  have hw6E : σ1 = σ5 := (hw6.1).symm
  subst hw6E
  have b7 : (0 : Int) ≤ r4.toInt ∧ r4.toInt ≤ 1 := hw6.2.1
  have b8 : (r4.toInt = 0) ∨ ((0 : Int) ≤ p1.toInt ∧ p1.toInt ≤ 8 ∧ (0 : Int) ≤ p2.toInt ∧ p2.toInt ≤ 2) := hw6.2.2.1
  have b9 : (r4.toInt = 0) ∨ (p1.toInt < ((σ1 9).2.2.1 17 3).toInt) := hw6.2.2.2.1
  refine lv_if_ne (tgt := 19) hx hb dX9_cost_11 (by decide) (fun c10 => ?_) (fun c10 => ?_)
  ·
    have k11 := neq32 c10
    refine lv_aload_n hx hb dX9_cost_19 rfl (lv_at hl 0 rfl) ?_
    refine lv_iload_n hx hb dX9_cost_20 rfl (lv_at hl 1 rfl) ?_
    refine lv_iload_n hx hb dX9_cost_21 rfl (lv_at hl 2 rfl) ?_
    refine va_calli (va_runV (As := [.int p1, .int p2]) (rest := []) ⟨hx, hb, hml, hown, hts⟩ (m_X9_isBest l D cy g σ1 p1 p2 _ hJ2 T3 (show (0 : Int) ≤ p1.toInt ∧ p1.toInt ≤ 8 from (by have f0 := b8; have f1 := b9; have f2 := a9_17 hJ2 (j := 3) rfl; have f3 := congrArg Int32.toInt (show ((σ1 9).2.2.1 17 3) = ((σ 9).2.2.1 17 3) from congrFun (((sI_f eσ1) 9 17 rfl).2.2.1) _); have f4 := b7; have f5 := k11; have f6 := a9_17 hJ (j := 3) rfl; have g2 := rg32 p1; have z0 : (0 : Int32).toInt = 0 := (by decide); omega)) (show (0 : Int) ≤ p2.toInt ∧ p2.toInt ≤ 2 from (by have f0 := b8; have f1 := b9; have f2 := a9_17 hJ2 (j := 3) rfl; have f3 := congrArg Int32.toInt (show ((σ1 9).2.2.1 17 3) = ((σ 9).2.2.1 17 3) from congrFun (((sI_f eσ1) 9 17 rfl).2.2.1) _); have f4 := b7; have f5 := k11; have f6 := a9_17 hJ (j := 3) rfl; have g2 := rg32 p1; have g3 := rg32 p2; have z0 : (0 : Int32).toInt = 0 := (by decide); omega)) (show p1.toInt < ((σ1 9).2.2.1 17 3).toInt from (by have f0 := a9_17 hJ2 (j := 3) rfl; have f1 := congrArg Int32.toInt (show ((σ1 9).2.2.1 17 3) = ((σ 9).2.2.1 17 3) from congrFun (((sI_f eσ1) 9 17 rfl).2.2.1) _); have f2 := b8; have f3 := b9; have f4 := a9_17 hJ (j := 3) rfl; have f5 := b7; have f6 := k11; have g2 := rg32 p1; have z0 : (0 : Int32).toInt = 0 := (by decide); omega))) (cwV 2 hts (gd_V q1826 q1828 q88 q134 q1829) rfl rfl rfl (by decide +kernel) ⟨Nat.le_of_ble_eq_true rfl, Nat.le_of_ble_eq_true rfl⟩) (pv9 hP hK hD hC hS (va_recv hK hP (ci := 9) (q0 := 0) rfl rfl)) rfl rfl hl.1 rfl (lv_room (Nat.le_of_ble_eq_true rfl)) dX9_cost_22 ⟨Nat.le_of_ble_eq_true rfl, Nat.le_of_ble_eq_true rfl⟩) hS (fun q _ h => up9 hS q h) (up9 hS) (fun r12 σ13 tS H1 locs ht hvm hw14 hB hz1 hk1 hS => ?_)
    have hP : va_P D clz (WD9 cy g σ13) H1 := by rw [← ht]; exact hB
    clear hB hz1 hk1 hvm ht
    generalize H1 = H at hP hS ⊢
    have hF15 : Fr (fL [23, 24, 25, 26, 27, 28, 29, 30, 31, 32, 33, 34, 35, 36, 37, 38, 39, 40, 41]) σ1 σ13 := hw14.1
    have hJ16 : J9 (σ13 9) := hw14.2.1
    have b17 : (0 : Int) ≤ r12.toInt ∧ r12.toInt ≤ 1 := hw14.2.2.1
    have T18 : DK0 (σ13 9) := DK0.mv T3 (hF15 9 17 rfl).2.2.1 (hF15 9 18 rfl).2.2.1 (hF15 9 19 rfl).2.2.1
    refine lv_if_eq (tgt := 35) hx hb dX9_cost_25 (by decide) (fun c19 => ?_) (fun c19 => ?_)
    ·
      have k20 := peq32 c19
      refine lv_iconst (v := (-1)) hx hb dX9_cost_35 (by decide) ?_
      exact W.iret (v := (-1)) hx hb hr (fun tS ht hW => ⟨⟨(-1), σ13, rfl, ⟨Fr.tr (Fr.tr (Fr.rf) (sI_f eσ1) (fN_L rfl)) hF15 (fL_sub rfl), hJ16, trivial⟩, (show va_P D clz (WD9 cy g σ13) tS.heap by rw [ht]; exact hP)⟩, hS.F ht⟩) hS.2.2 dX9_cost_36
    ·
      have k21 := neq32 c19
      refine lv_aload_n hx hb dX9_cost_28 rfl (lv_at hl 0 rfl) ?_
      refine g9_39 (x := ((σ13 9).1 39)) hx hb hts hown hK hP (rfl) (hts _ q1399) dX9_cost_29 ?_
      refine lv_goto (tgt := 36) hx hb dX9_cost_32 (by decide) ?_
      exact W.iret (v := ((σ13 9).1 39)) hx hb hr (fun tS ht hW => ⟨⟨((σ13 9).1 39), σ13, rfl, ⟨Fr.tr (Fr.tr (Fr.rf) (sI_f eσ1) (fN_L rfl)) hF15 (fL_sub rfl), hJ16, trivial⟩, (show va_P D clz (WD9 cy g σ13) tS.heap by rw [ht]; exact hP)⟩, hS.F ht⟩) hS.2.2 dX9_cost_36
  ·
    have k22 := peq32 c10
    refine lv_bipush (v := (-2)) hx hb dX9_cost_14 (by decide) ?_
    refine lv_goto (tgt := 36) hx hb dX9_cost_16 (by decide) ?_
    exact W.iret (v := (-2)) hx hb hr (fun tS ht hW => ⟨⟨(-2), σ1, rfl, ⟨Fr.tr (Fr.rf) (sI_f eσ1) (fN_L rfl), hJ2, trivial⟩, (show va_P D clz (WD9 cy g σ1) tS.heap by rw [ht]; exact hP)⟩, hS.F ht⟩) hS.2.2 dX9_cost_36

theorem q1879 : Cond.code yX9_sour cX9_sour 3 (some .int) ∈ lw_g := lw_gm (List.mem_of_getElem? (i := 1879) (by decide +kernel)) rfl
theorem dX9_sour_0 : decode cX9_sour 0 = .ok (.aload_n 0, 1) := by decide +kernel
theorem dX9_sour_1 : decode cX9_sour 1 = .ok (.iconst 0, 1) := by decide +kernel
theorem dX9_sour_2 : decode cX9_sour 2 = .ok (.putfield 129, 3) := by decide +kernel
theorem dX9_sour_5 : decode cX9_sour 5 = .ok (.aload_n 0, 1) := by decide +kernel
theorem dX9_sour_6 : decode cX9_sour 6 = .ok (.iload_n 1, 1) := by decide +kernel
theorem dX9_sour_7 : decode cX9_sour 7 = .ok (.iload_n 2, 1) := by decide +kernel
theorem dX9_sour_8 : decode cX9_sour 8 = .ok (.invokevirtual 433, 3) := by decide +kernel
theorem dX9_sour_11 : decode cX9_sour 11 = .ok (.ifCond .ne 8, 3) := by decide +kernel
theorem dX9_sour_14 : decode cX9_sour 14 = .ok (.bipush (-2), 2) := by decide +kernel
theorem dX9_sour_16 : decode cX9_sour 16 = .ok (.goto 20, 3) := by decide +kernel
theorem dX9_sour_19 : decode cX9_sour 19 = .ok (.aload_n 0, 1) := by decide +kernel
theorem dX9_sour_20 : decode cX9_sour 20 = .ok (.iload_n 1, 1) := by decide +kernel
theorem dX9_sour_21 : decode cX9_sour 21 = .ok (.iload_n 2, 1) := by decide +kernel
theorem dX9_sour_22 : decode cX9_sour 22 = .ok (.invokevirtual 436, 3) := by decide +kernel
theorem dX9_sour_25 : decode cX9_sour 25 = .ok (.ifCond .eq 10, 3) := by decide +kernel
theorem dX9_sour_28 : decode cX9_sour 28 = .ok (.aload_n 0, 1) := by decide +kernel
theorem dX9_sour_29 : decode cX9_sour 29 = .ok (.getfield 418, 3) := by decide +kernel
theorem dX9_sour_32 : decode cX9_sour 32 = .ok (.goto 4, 3) := by decide +kernel
theorem dX9_sour_35 : decode cX9_sour 35 = .ok (.iconst (-1), 1) := by decide +kernel
theorem dX9_sour_36 : decode cX9_sour 36 = .ok (.ireturn, 1) := by decide +kernel
set_option maxHeartbeats 4000000 in
set_option maxRecDepth 100000 in
theorem m_X9_sour (l : Launch) (D : va_G) (cy : Nat → ClassId) (g : Nat → Nat) (σ : ST) (p1 : Int32) (p2 : Int32) (sz : Nat) (hJ : J9 (σ 9)) (kDK0 : DK0 (σ 9)) : Met l yX9_sour (ww yX9_sour cX9_sour 3 (some .int)) ({ frames := 8, cells := 0, slots := 0, locals := 512 }) (va_Pc [.ref (g 60), .int p1, .int p2] (pr9 D cy g σ sz)) (qi9 D cy g sz (fun r τ => Fr (fL [0, 23, 24, 25, 26, 27, 28, 29, 30, 31, 32, 33, 34, 35, 36, 37, 38, 39, 40, 41]) σ τ ∧ J9 (τ 9) ∧ True)) 0 0 (A9 cy g sz) := by
  refine Met.ofW (cc := cX9_sour) (maxL := 3) (ret := (some .int)) (by decide) rfl ?_
  intro p e s m args below meth c s₁ B hml hv
  obtain ⟨rfl, hsz, hP, hK, hD0, hC⟩ := hv
  have hx := B.exec
  have hb := B.bytes
  have hr := B.returns
  have hts := hts_g (atoms_spec (ws := ww yX9_sour cX9_sour 3 (some .int)) B.pre)
  have hown : s.vm.findClass RX9 = some m.cls := findClass_of_methodNamed B.named
  have hlocks := B.notSynchronized
  clear B
  subst hsz
  have hD := fun τ => A9_D (sz := s.heap.size) hD0 τ
  clear hD0
  have hS : va_S (A9 cy g s.heap.size) s.heap s.heap [] := va_S.rf
  have hl := lv_entry ([.ref (g 60), .int p1, .int p2]) (n := 3) (Nat.le_of_ble_eq_true rfl)
  rw [lg_entry_eq]
  generalize (lg_sl ([.ref (g 60), .int p1, .int p2]) ++ List.replicate (3 - (lg_sl ([.ref (g 60), .int p1, .int p2])).length) Slot.unset).toArray = ls at hl ⊢
  have hl : lv_has ls 3 [(0, .ref (g 60)), (1, .int p1), (2, .int p2)] := hl
  refine lv_aload_n hx hb dX9_sour_0 rfl (lv_at hl 0 rfl) ?_
  refine lv_iconst (v := 0) hx hb dX9_sour_1 (by decide) ?_
  refine p9_0 hx hb hts hown hK hP hD hS (hts _ q1360) dX9_sour_2 (fun H locs σ1 eσ1 hP hS => ?_)
  have hJ2 : J9 (σ1 9) := hJ.I eσ1 (show JI9 0 (0 : Int32) from trivial)
  have T3 : DK0 (σ1 9) := DK0.mv kDK0 ((sI_f eσ1) 9 17 rfl).2.2.1 ((sI_f eσ1) 9 18 rfl).2.2.1 ((sI_f eσ1) 9 19 rfl).2.2.1
  refine lv_aload_n hx hb dX9_sour_5 rfl (lv_at hl 0 rfl) ?_
  refine lv_iload_n hx hb dX9_sour_6 rfl (lv_at hl 1 rfl) ?_
  refine lv_iload_n hx hb dX9_sour_7 rfl (lv_at hl 2 rfl) ?_
  refine va_calli (va_runV (As := [.int p1, .int p2]) (rest := []) ⟨hx, hb, hml, hown, hts⟩ (m_X9_isPlaying l D cy g σ1 p1 p2 _ hJ2 ) (cwV 2 hts (gd_V q1822 q1824 q87 q134 q1825) rfl rfl rfl (by decide +kernel) ⟨Nat.le_of_ble_eq_true rfl, Nat.le_of_ble_eq_true rfl⟩) (pv9 hP hK hD hC hS (va_recv hK hP (ci := 9) (q0 := 0) rfl rfl)) rfl rfl hl.1 rfl (lv_room (Nat.le_of_ble_eq_true rfl)) dX9_sour_8 ⟨Nat.le_of_ble_eq_true rfl, Nat.le_of_ble_eq_true rfl⟩) hS (fun q _ h => up9 hS q h) (up9 hS) (fun r4 σ5 tS H1 locs ht hvm hw6 hB hz1 hk1 hS => ?_)
  have hP : va_P D clz (WD9 cy g σ5) H1 := by rw [← ht]; exact hB
  clear hB hz1 hk1 hvm ht
  generalize H1 = H at hP hS ⊢
  have hw6E : σ1 = σ5 := (hw6.1).symm
  subst hw6E
  have b7 : (0 : Int) ≤ r4.toInt ∧ r4.toInt ≤ 1 := hw6.2.1
  have b8 : (r4.toInt = 0) ∨ ((0 : Int) ≤ p1.toInt ∧ p1.toInt ≤ 8 ∧ (0 : Int) ≤ p2.toInt ∧ p2.toInt ≤ 2) := hw6.2.2.1
  have b9 : (r4.toInt = 0) ∨ (p1.toInt < ((σ1 9).2.2.1 17 3).toInt) := hw6.2.2.2.1
  refine lv_if_ne (tgt := 19) hx hb dX9_sour_11 (by decide) (fun c10 => ?_) (fun c10 => ?_)
  ·
    have k11 := neq32 c10
    refine lv_aload_n hx hb dX9_sour_19 rfl (lv_at hl 0 rfl) ?_
    refine lv_iload_n hx hb dX9_sour_20 rfl (lv_at hl 1 rfl) ?_
    refine lv_iload_n hx hb dX9_sour_21 rfl (lv_at hl 2 rfl) ?_
    refine va_calli (va_runV (As := [.int p1, .int p2]) (rest := []) ⟨hx, hb, hml, hown, hts⟩ (m_X9_isBest l D cy g σ1 p1 p2 _ hJ2 T3 (show (0 : Int) ≤ p1.toInt ∧ p1.toInt ≤ 8 from (by have f0 := b8; have f1 := b9; have f2 := a9_17 hJ2 (j := 3) rfl; have f3 := congrArg Int32.toInt (show ((σ1 9).2.2.1 17 3) = ((σ 9).2.2.1 17 3) from congrFun (((sI_f eσ1) 9 17 rfl).2.2.1) _); have f4 := b7; have f5 := k11; have f6 := a9_17 hJ (j := 3) rfl; have g2 := rg32 p1; have z0 : (0 : Int32).toInt = 0 := (by decide); omega)) (show (0 : Int) ≤ p2.toInt ∧ p2.toInt ≤ 2 from (by have f0 := b8; have f1 := b9; have f2 := a9_17 hJ2 (j := 3) rfl; have f3 := congrArg Int32.toInt (show ((σ1 9).2.2.1 17 3) = ((σ 9).2.2.1 17 3) from congrFun (((sI_f eσ1) 9 17 rfl).2.2.1) _); have f4 := b7; have f5 := k11; have f6 := a9_17 hJ (j := 3) rfl; have g2 := rg32 p1; have g3 := rg32 p2; have z0 : (0 : Int32).toInt = 0 := (by decide); omega)) (show p1.toInt < ((σ1 9).2.2.1 17 3).toInt from (by have f0 := a9_17 hJ2 (j := 3) rfl; have f1 := congrArg Int32.toInt (show ((σ1 9).2.2.1 17 3) = ((σ 9).2.2.1 17 3) from congrFun (((sI_f eσ1) 9 17 rfl).2.2.1) _); have f2 := b8; have f3 := b9; have f4 := a9_17 hJ (j := 3) rfl; have f5 := b7; have f6 := k11; have g2 := rg32 p1; have z0 : (0 : Int32).toInt = 0 := (by decide); omega))) (cwV 2 hts (gd_V q1826 q1828 q88 q134 q1829) rfl rfl rfl (by decide +kernel) ⟨Nat.le_of_ble_eq_true rfl, Nat.le_of_ble_eq_true rfl⟩) (pv9 hP hK hD hC hS (va_recv hK hP (ci := 9) (q0 := 0) rfl rfl)) rfl rfl hl.1 rfl (lv_room (Nat.le_of_ble_eq_true rfl)) dX9_sour_22 ⟨Nat.le_of_ble_eq_true rfl, Nat.le_of_ble_eq_true rfl⟩) hS (fun q _ h => up9 hS q h) (up9 hS) (fun r12 σ13 tS H1 locs ht hvm hw14 hB hz1 hk1 hS => ?_)
    have hP : va_P D clz (WD9 cy g σ13) H1 := by rw [← ht]; exact hB
    clear hB hz1 hk1 hvm ht
    generalize H1 = H at hP hS ⊢
    have hF15 : Fr (fL [23, 24, 25, 26, 27, 28, 29, 30, 31, 32, 33, 34, 35, 36, 37, 38, 39, 40, 41]) σ1 σ13 := hw14.1
    have hJ16 : J9 (σ13 9) := hw14.2.1
    have b17 : (0 : Int) ≤ r12.toInt ∧ r12.toInt ≤ 1 := hw14.2.2.1
    have T18 : DK0 (σ13 9) := DK0.mv T3 (hF15 9 17 rfl).2.2.1 (hF15 9 18 rfl).2.2.1 (hF15 9 19 rfl).2.2.1
    refine lv_if_eq (tgt := 35) hx hb dX9_sour_25 (by decide) (fun c19 => ?_) (fun c19 => ?_)
    ·
      have k20 := peq32 c19
      refine lv_iconst (v := (-1)) hx hb dX9_sour_35 (by decide) ?_
      exact W.iret (v := (-1)) hx hb hr (fun tS ht hW => ⟨⟨(-1), σ13, rfl, ⟨Fr.tr (Fr.tr (Fr.rf) (sI_f eσ1) (fN_L rfl)) hF15 (fL_sub rfl), hJ16, trivial⟩, (show va_P D clz (WD9 cy g σ13) tS.heap by rw [ht]; exact hP)⟩, hS.F ht⟩) hS.2.2 dX9_sour_36
    ·
      have k21 := neq32 c19
      refine lv_aload_n hx hb dX9_sour_28 rfl (lv_at hl 0 rfl) ?_
      refine g9_40 (x := ((σ13 9).1 40)) hx hb hts hown hK hP (rfl) (hts _ q1400) dX9_sour_29 ?_
      refine lv_goto (tgt := 36) hx hb dX9_sour_32 (by decide) ?_
      exact W.iret (v := ((σ13 9).1 40)) hx hb hr (fun tS ht hW => ⟨⟨((σ13 9).1 40), σ13, rfl, ⟨Fr.tr (Fr.tr (Fr.rf) (sI_f eσ1) (fN_L rfl)) hF15 (fL_sub rfl), hJ16, trivial⟩, (show va_P D clz (WD9 cy g σ13) tS.heap by rw [ht]; exact hP)⟩, hS.F ht⟩) hS.2.2 dX9_sour_36
  ·
    have k22 := peq32 c10
    refine lv_bipush (v := (-2)) hx hb dX9_sour_14 (by decide) ?_
    refine lv_goto (tgt := 36) hx hb dX9_sour_16 (by decide) ?_
    exact W.iret (v := (-2)) hx hb hr (fun tS ht hW => ⟨⟨(-2), σ1, rfl, ⟨Fr.tr (Fr.rf) (sI_f eσ1) (fN_L rfl), hJ2, trivial⟩, (show va_P D clz (WD9 cy g σ1) tS.heap by rw [ht]; exact hP)⟩, hS.F ht⟩) hS.2.2 dX9_sour_36

theorem q1887 : Cond.code yX9_soundOf cX9_soundOf 3 (some .int) ∈ lw_g := lw_gm (List.mem_of_getElem? (i := 1887) (by decide +kernel)) rfl
theorem dX9_soundOf_0 : decode cX9_soundOf 0 = .ok (.iconst 0, 1) := by decide +kernel
theorem dX9_soundOf_1 : decode cX9_soundOf 1 = .ok (.istore_n 2, 1) := by decide +kernel
theorem dX9_soundOf_2 : decode cX9_soundOf 2 = .ok (.iload_n 2, 1) := by decide +kernel
theorem dX9_soundOf_3 : decode cX9_soundOf 3 = .ok (.aload_n 0, 1) := by decide +kernel
theorem dX9_soundOf_4 : decode cX9_soundOf 4 = .ok (.getfield 387, 3) := by decide +kernel
theorem dX9_soundOf_7 : decode cX9_soundOf 7 = .ok (.if_icmp .ge 21, 3) := by decide +kernel
theorem dX9_soundOf_10 : decode cX9_soundOf 10 = .ok (.aload_n 0, 1) := by decide +kernel
theorem dX9_soundOf_11 : decode cX9_soundOf 11 = .ok (.getfield 65, 3) := by decide +kernel
theorem dX9_soundOf_14 : decode cX9_soundOf 14 = .ok (.iload_n 2, 1) := by decide +kernel
theorem dX9_soundOf_15 : decode cX9_soundOf 15 = .ok (.iaload, 1) := by decide +kernel
theorem dX9_soundOf_16 : decode cX9_soundOf 16 = .ok (.iload_n 1, 1) := by decide +kernel
theorem dX9_soundOf_17 : decode cX9_soundOf 17 = .ok (.if_icmp .ne 5, 3) := by decide +kernel
theorem dX9_soundOf_20 : decode cX9_soundOf 20 = .ok (.iload_n 2, 1) := by decide +kernel
theorem dX9_soundOf_21 : decode cX9_soundOf 21 = .ok (.ireturn, 1) := by decide +kernel
theorem dX9_soundOf_22 : decode cX9_soundOf 22 = .ok (.iinc 2 1, 3) := by decide +kernel
theorem dX9_soundOf_25 : decode cX9_soundOf 25 = .ok (.goto (-23), 3) := by decide +kernel
theorem dX9_soundOf_28 : decode cX9_soundOf 28 = .ok (.iconst (-1), 1) := by decide +kernel
theorem dX9_soundOf_29 : decode cX9_soundOf 29 = .ok (.ireturn, 1) := by decide +kernel
set_option maxHeartbeats 4000000 in
set_option maxRecDepth 100000 in
theorem m_X9_soundOf (l : Launch) (D : va_G) (cy : Nat → ClassId) (g : Nat → Nat) (σ : ST) (p1 : Int32) (sz : Nat) (hJ : J9 (σ 9))  : Met l yX9_soundOf (ww yX9_soundOf cX9_soundOf 3 (some .int)) ({ frames := 1, cells := 0, slots := 0, locals := 64 }) (va_Pc [.ref (g 60), .int p1] (pr9 D cy g σ sz)) (qi9 D cy g sz (fun r τ => τ = σ ∧ ((-1 : Int) ≤ r.toInt ∧ r.toInt ≤ 15) ∧ True)) 0 0 (A9 cy g sz) := by
  refine Met.ofW (cc := cX9_soundOf) (maxL := 3) (ret := (some .int)) (by decide) rfl ?_
  intro p e s m args below meth c s₁ B hml hv
  obtain ⟨rfl, hsz, hP, hK, hD0, hC⟩ := hv
  have hx := B.exec
  have hb := B.bytes
  have hr := B.returns
  have hts := hts_g (atoms_spec (ws := ww yX9_soundOf cX9_soundOf 3 (some .int)) B.pre)
  have hown : s.vm.findClass RX9 = some m.cls := findClass_of_methodNamed B.named
  have hlocks := B.notSynchronized
  clear B
  subst hsz
  have hD := fun τ => A9_D (sz := s.heap.size) hD0 τ
  clear hD0
  have hS : va_S (A9 cy g s.heap.size) s.heap s.heap [] := va_S.rf
  have hl := lv_entry ([.ref (g 60), .int p1]) (n := 3) (Nat.le_of_ble_eq_true rfl)
  rw [lg_entry_eq]
  generalize (lg_sl ([.ref (g 60), .int p1]) ++ List.replicate (3 - (lg_sl ([.ref (g 60), .int p1])).length) Slot.unset).toArray = ls at hl ⊢
  have hl : lv_has ls 3 [(0, .ref (g 60)), (1, .int p1)] := hl
  refine lv_iconst (v := 0) hx hb dX9_soundOf_0 (by decide) ?_
  refine lv_istore_n (lv' := [(2, .int 0), (0, .ref (g 60)), (1, .int p1)]) hx hb dX9_soundOf_1 rfl hl (by decide) rfl (fun ls hl => ?_)
  refine loop9 3 2 (fun x : LZ => [(2, .int (x.2.1 0)), (0, .ref (g 60)), (1, .int p1)]) (fun x : LZ => (x.1 = σ) ∧ ((0 : Int) ≤ (x.2.1 0).toInt ∧ (x.2.1 0).toInt ≤ 16) ∧ True) (fun x : LZ => ((17 : Int) - (x.2.1 0).toInt).toNat) ?_ (σ, lf [0], lg []) ⟨rfl, (show (0 : Int) ≤ (0 : Int32).toInt ∧ (0 : Int32).toInt ≤ 16 from (by have z0 : (0 : Int32).toInt = 0 := (by decide); omega)), trivial⟩ _ _ _ hP hS (lv_sub hl [0, 1, 2] rfl)
  intro y3 hI2 nl1 H locs ls hP hS hl
  rw [show y3.1 = σ from hI2.1] at hP
  have b4 : (0 : Int) ≤ (y3.2.1 0).toInt ∧ (y3.2.1 0).toInt ≤ 16 := hI2.2.1
  have hl : lv_has ls 3 [(2, .int (y3.2.1 0)), (0, .ref (g 60)), (1, .int p1)] := hl
  refine lv_iload_n hx hb dX9_soundOf_2 rfl (lv_at hl 0 rfl) ?_
  refine lv_aload_n hx hb dX9_soundOf_3 rfl (lv_at hl 1 rfl) ?_
  refine g9_31 (x := ((σ 9).1 31)) hx hb hts hown hK hP (rfl) (hts _ q1391) dX9_soundOf_4 ?_
  refine lv_icmp_ge (tgt := 28) hx hb dX9_soundOf_7 (by decide) (fun c5 => ?_) (fun c5 => ?_)
  ·
    have k6 := ple32 c5
    refine lv_iconst (v := (-1)) hx hb dX9_soundOf_28 (by decide) ?_
    exact W.iret (v := (-1)) hx hb hr (fun tS ht hW => ⟨⟨(-1), σ, rfl, ⟨rfl, (show (-1 : Int) ≤ ((-1) : Int32).toInt ∧ ((-1) : Int32).toInt ≤ 15 from (by have zm1 : ((-1) : Int32).toInt = (-1) := (by decide); omega)), trivial⟩, (show va_P D clz (WD9 cy g σ) tS.heap by rw [ht]; exact hP)⟩, hS.F ht⟩) hS.2.2 dX9_soundOf_29
  ·
    have k7 := nle32 c5
    refine lv_aload_n hx hb dX9_soundOf_10 rfl (lv_at hl 1 rfl) ?_
    refine g9_32 hx hb hts hown hK hP (hts _ q1392) dX9_soundOf_11 ?_
    refine lv_iload_n hx hb dX9_soundOf_14 rfl (lv_at hl 0 rfl) ?_
    obtain ⟨x8, ex8⟩ : ∃ z, (σ 9).2.2.1 32 (y3.2.1 0).toInt.toNat = z := ⟨_, rfl⟩
    refine l9_32 (x := x8) hx hb hK hP (vpo (by have f0 := b4; have f1 := k7; have f2 := j9_31 hJ rfl; have g0 := rg32 (y3.2.1 0); omega)) ex8 dX9_soundOf_15 ?_
    have t9 := a9_32 hJ ex8
    refine lv_iload_n hx hb dX9_soundOf_16 rfl (lv_at hl 2 rfl) ?_
    refine lv_icmp_ne (tgt := 22) hx hb dX9_soundOf_17 (by decide) (fun c10 => ?_) (fun c10 => ?_)
    ·
      have k11 := neq32 c10
      obtain ⟨x12, ex12⟩ : ∃ y : Int32, y = (y3.2.1 0) + 1 := ⟨_, rfl⟩
      have t13 := addO ex12 (by have f0 := b4; have f1 := k7; have f2 := t9; have f3 := j9_31 hJ rfl; have f4 := k11; have g0 := rg32 (y3.2.1 0); have g1 := rg32 p1; have z1 : (1 : Int32).toInt = 1 := (by decide); omega)
      refine lv_iinc (v := x12) (lv' := [(2, .int x12), (0, .ref (g 60)), (1, .int p1)]) hx hb dX9_soundOf_22 hl (k := 0) rfl (by rw [ex12]; rfl) (by decide) rfl (fun ls hl => ?_)
      refine lv_goto (tgt := 2) hx hb dX9_soundOf_25 (by decide) ?_
      have t14 : ((17 : Int) - x12.toInt).toNat < ((17 : Int) - (y3.2.1 0).toInt).toNat := (by have f0 := b4; have f1 := k7; have f2 := t9; have f3 := t13; have f4 := j9_31 hJ rfl; have f5 := k11; have g0 := rg32 (y3.2.1 0); have g1 := rg32 p1; have g2 := rg32 x12; have z1 : (1 : Int32).toInt = 1 := (by decide); omega)
      exact nl1 (σ, lf [x12], lg []) ⟨rfl, (show (0 : Int) ≤ (x12 : Int32).toInt ∧ (x12 : Int32).toInt ≤ 16 from (by have f0 := t13; have f1 := b4; have f2 := k7; have f3 := t9; have f4 := j9_31 hJ rfl; have f5 := k11; have g0 := rg32 p1; have g1 := rg32 x12; have z1 : (1 : Int32).toInt = 1 := (by decide); omega)), trivial⟩ (show ((17 : Int) - x12.toInt).toNat < _ from t14) _ _ _ hP hS (lv_sub hl [0, 1, 2] rfl)
    ·
      have k15 := peq32 c10
      refine lv_iload_n hx hb dX9_soundOf_20 rfl (lv_at hl 0 rfl) ?_
      exact W.iret (v := (y3.2.1 0)) hx hb hr (fun tS ht hW => ⟨⟨(y3.2.1 0), σ, rfl, ⟨rfl, (show (-1 : Int) ≤ (y3.2.1 0).toInt ∧ (y3.2.1 0).toInt ≤ 15 from (by have f0 := b4; have f1 := k7; have f2 := t9; have f3 := j9_31 hJ rfl; have f4 := k15; have g0 := rg32 (y3.2.1 0); omega)), trivial⟩, (show va_P D clz (WD9 cy g σ) tS.heap by rw [ht]; exact hP)⟩, hS.F ht⟩) hS.2.2 dX9_soundOf_21

theorem q1883 : Cond.code yX9_chosen cX9_chosen 7 (some .int) ∈ lw_g := lw_gm (List.mem_of_getElem? (i := 1883) (by decide +kernel)) rfl
theorem q1884 : Cond.methodLink RX9 439 yX9_soundOf ∈ lw_g := lw_gm (List.mem_of_getElem? (i := 1884) (by decide +kernel)) rfl
theorem q1886 : Cond.instanceMethod yX9_soundOf ∈ lw_g := lw_gm (List.mem_of_getElem? (i := 1886) (by decide +kernel)) rfl
theorem q99 : Cond.selects RX9 yX9_soundOf yX9_soundOf ∈ lw_g := lw_gm (List.mem_of_getElem? (i := 99) (by decide +kernel)) rfl
theorem dX9_chosen_0 : decode cX9_chosen 0 = .ok (.aload_n 0, 1) := by decide +kernel
theorem dX9_chosen_1 : decode cX9_chosen 1 = .ok (.iconst 0, 1) := by decide +kernel
theorem dX9_chosen_2 : decode cX9_chosen 2 = .ok (.putfield 129, 3) := by decide +kernel
theorem dX9_chosen_5 : decode cX9_chosen 5 = .ok (.aload_n 0, 1) := by decide +kernel
theorem dX9_chosen_6 : decode cX9_chosen 6 = .ok (.iload_n 1, 1) := by decide +kernel
theorem dX9_chosen_7 : decode cX9_chosen 7 = .ok (.iload_n 2, 1) := by decide +kernel
theorem dX9_chosen_8 : decode cX9_chosen 8 = .ok (.invokevirtual 433, 3) := by decide +kernel
theorem dX9_chosen_11 : decode cX9_chosen 11 = .ok (.ifCond .eq 16, 3) := by decide +kernel
theorem dX9_chosen_14 : decode cX9_chosen 14 = .ok (.iload 4, 2) := by decide +kernel
theorem dX9_chosen_16 : decode cX9_chosen 16 = .ok (.i2l, 1) := by decide +kernel
theorem dX9_chosen_17 : decode cX9_chosen 17 = .ok (.lconst 0, 1) := by decide +kernel
theorem dX9_chosen_18 : decode cX9_chosen 18 = .ok (.ldc2_w 351, 3) := by decide +kernel
theorem dX9_chosen_21 : decode cX9_chosen 21 = .ok (.invokestatic 134, 3) := by decide +kernel
theorem dX9_chosen_24 : decode cX9_chosen 24 = .ok (.ifCond .ne 6, 3) := by decide +kernel
theorem dX9_chosen_27 : decode cX9_chosen 27 = .ok (.bipush (-2), 2) := by decide +kernel
theorem dX9_chosen_29 : decode cX9_chosen 29 = .ok (.ireturn, 1) := by decide +kernel
theorem dX9_chosen_30 : decode cX9_chosen 30 = .ok (.aload_n 0, 1) := by decide +kernel
theorem dX9_chosen_31 : decode cX9_chosen 31 = .ok (.iload_n 1, 1) := by decide +kernel
theorem dX9_chosen_32 : decode cX9_chosen 32 = .ok (.iload_n 2, 1) := by decide +kernel
theorem dX9_chosen_33 : decode cX9_chosen 33 = .ok (.invokevirtual 436, 3) := by decide +kernel
theorem dX9_chosen_36 : decode cX9_chosen 36 = .ok (.ifCond .ne 5, 3) := by decide +kernel
theorem dX9_chosen_39 : decode cX9_chosen 39 = .ok (.iconst (-1), 1) := by decide +kernel
theorem dX9_chosen_40 : decode cX9_chosen 40 = .ok (.ireturn, 1) := by decide +kernel
theorem dX9_chosen_41 : decode cX9_chosen 41 = .ok (.aload_n 0, 1) := by decide +kernel
theorem dX9_chosen_42 : decode cX9_chosen 42 = .ok (.iload_n 3, 1) := by decide +kernel
theorem dX9_chosen_43 : decode cX9_chosen 43 = .ok (.invokevirtual 439, 3) := by decide +kernel
theorem dX9_chosen_46 : decode cX9_chosen 46 = .ok (.istore 5, 2) := by decide +kernel
theorem dX9_chosen_48 : decode cX9_chosen 48 = .ok (.iload 5, 2) := by decide +kernel
theorem dX9_chosen_50 : decode cX9_chosen 50 = .ok (.iconst (-1), 1) := by decide +kernel
theorem dX9_chosen_51 : decode cX9_chosen 51 = .ok (.if_icmp .ne 5, 3) := by decide +kernel
theorem dX9_chosen_54 : decode cX9_chosen 54 = .ok (.iconst (-1), 1) := by decide +kernel
theorem dX9_chosen_55 : decode cX9_chosen 55 = .ok (.ireturn, 1) := by decide +kernel
theorem dX9_chosen_56 : decode cX9_chosen 56 = .ok (.bipush 88, 2) := by decide +kernel
theorem dX9_chosen_58 : decode cX9_chosen 58 = .ok (.iload 5, 2) := by decide +kernel
theorem dX9_chosen_60 : decode cX9_chosen 60 = .ok (.imul, 1) := by decide +kernel
theorem dX9_chosen_61 : decode cX9_chosen 61 = .ok (.aload_n 0, 1) := by decide +kernel
theorem dX9_chosen_62 : decode cX9_chosen 62 = .ok (.getfield 83, 3) := by decide +kernel
theorem dX9_chosen_65 : decode cX9_chosen 65 = .ok (.iload 5, 2) := by decide +kernel
theorem dX9_chosen_67 : decode cX9_chosen 67 = .ok (.iaload, 1) := by decide +kernel
theorem dX9_chosen_68 : decode cX9_chosen 68 = .ok (.iadd, 1) := by decide +kernel
theorem dX9_chosen_69 : decode cX9_chosen 69 = .ok (.istore 6, 2) := by decide +kernel
theorem dX9_chosen_71 : decode cX9_chosen 71 = .ok (.iload 4, 2) := by decide +kernel
theorem dX9_chosen_73 : decode cX9_chosen 73 = .ok (.ifCond .ne 13, 3) := by decide +kernel
theorem dX9_chosen_76 : decode cX9_chosen 76 = .ok (.aload_n 0, 1) := by decide +kernel
theorem dX9_chosen_77 : decode cX9_chosen 77 = .ok (.getfield 56, 3) := by decide +kernel
theorem dX9_chosen_80 : decode cX9_chosen 80 = .ok (.iload 6, 2) := by decide +kernel
theorem dX9_chosen_82 : decode cX9_chosen 82 = .ok (.iaload, 1) := by decide +kernel
theorem dX9_chosen_83 : decode cX9_chosen 83 = .ok (.goto 26, 3) := by decide +kernel
theorem dX9_chosen_86 : decode cX9_chosen 86 = .ok (.iload 4, 2) := by decide +kernel
theorem dX9_chosen_88 : decode cX9_chosen 88 = .ok (.iconst 1, 1) := by decide +kernel
theorem dX9_chosen_89 : decode cX9_chosen 89 = .ok (.if_icmp .ne 13, 3) := by decide +kernel
theorem dX9_chosen_92 : decode cX9_chosen 92 = .ok (.aload_n 0, 1) := by decide +kernel
theorem dX9_chosen_93 : decode cX9_chosen 93 = .ok (.getfield 59, 3) := by decide +kernel
theorem dX9_chosen_96 : decode cX9_chosen 96 = .ok (.iload 6, 2) := by decide +kernel
theorem dX9_chosen_98 : decode cX9_chosen 98 = .ok (.iaload, 1) := by decide +kernel
theorem dX9_chosen_99 : decode cX9_chosen 99 = .ok (.goto 10, 3) := by decide +kernel
theorem dX9_chosen_102 : decode cX9_chosen 102 = .ok (.aload_n 0, 1) := by decide +kernel
theorem dX9_chosen_103 : decode cX9_chosen 103 = .ok (.getfield 83, 3) := by decide +kernel
theorem dX9_chosen_106 : decode cX9_chosen 106 = .ok (.iload 5, 2) := by decide +kernel
theorem dX9_chosen_108 : decode cX9_chosen 108 = .ok (.iaload, 1) := by decide +kernel
theorem dX9_chosen_109 : decode cX9_chosen 109 = .ok (.ireturn, 1) := by decide +kernel
set_option maxHeartbeats 4000000 in
set_option maxRecDepth 100000 in
theorem m_X9_chosen (l : Launch) (D : va_G) (cy : Nat → ClassId) (g : Nat → Nat) (σ : ST) (p1 : Int32) (p2 : Int32) (p3 : Int32) (p4 : Int32) (sz : Nat) (hJ : J9 (σ 9)) (kDK0 : DK0 (σ 9)) : Met l yX9_chosen (ww yX9_chosen cX9_chosen 7 (some .int)) ({ frames := 8, cells := 0, slots := 0, locals := 512 }) (va_Pc [.ref (g 60), .int p1, .int p2, .int p3, .int p4] (pr9 D cy g σ sz)) (qi9 D cy g sz (fun r τ => Fr (fL [0, 23, 24, 25, 26, 27, 28, 29, 30, 31, 32, 33, 34, 35, 36, 37, 38, 39, 40, 41]) σ τ ∧ J9 (τ 9) ∧ True)) 0 0 (A9 cy g sz) := by
  refine Met.ofW (cc := cX9_chosen) (maxL := 7) (ret := (some .int)) (by decide) rfl ?_
  intro p e s m args below meth c s₁ B hml hv
  obtain ⟨rfl, hsz, hP, hK, hD0, hC⟩ := hv
  have hx := B.exec
  have hb := B.bytes
  have hr := B.returns
  have hts := hts_g (atoms_spec (ws := ww yX9_chosen cX9_chosen 7 (some .int)) B.pre)
  have hown : s.vm.findClass RX9 = some m.cls := findClass_of_methodNamed B.named
  have hlocks := B.notSynchronized
  clear B
  subst hsz
  have hD := fun τ => A9_D (sz := s.heap.size) hD0 τ
  clear hD0
  have hS : va_S (A9 cy g s.heap.size) s.heap s.heap [] := va_S.rf
  have hl := lv_entry ([.ref (g 60), .int p1, .int p2, .int p3, .int p4]) (n := 7) (Nat.le_of_ble_eq_true rfl)
  rw [lg_entry_eq]
  generalize (lg_sl ([.ref (g 60), .int p1, .int p2, .int p3, .int p4]) ++ List.replicate (7 - (lg_sl ([.ref (g 60), .int p1, .int p2, .int p3, .int p4])).length) Slot.unset).toArray = ls at hl ⊢
  have hl : lv_has ls 7 [(0, .ref (g 60)), (1, .int p1), (2, .int p2), (3, .int p3), (4, .int p4)] := hl
  refine lv_aload_n hx hb dX9_chosen_0 rfl (lv_at hl 0 rfl) ?_
  refine lv_iconst (v := 0) hx hb dX9_chosen_1 (by decide) ?_
  refine p9_0 hx hb hts hown hK hP hD hS (hts _ q1360) dX9_chosen_2 (fun H locs σ1 eσ1 hP hS => ?_)
  have hJ2 : J9 (σ1 9) := hJ.I eσ1 (show JI9 0 (0 : Int32) from trivial)
  have T3 : DK0 (σ1 9) := DK0.mv kDK0 ((sI_f eσ1) 9 17 rfl).2.2.1 ((sI_f eσ1) 9 18 rfl).2.2.1 ((sI_f eσ1) 9 19 rfl).2.2.1
  refine lv_aload_n hx hb dX9_chosen_5 rfl (lv_at hl 0 rfl) ?_
  refine lv_iload_n hx hb dX9_chosen_6 rfl (lv_at hl 1 rfl) ?_
  refine lv_iload_n hx hb dX9_chosen_7 rfl (lv_at hl 2 rfl) ?_
  refine va_calli (va_runV (As := [.int p1, .int p2]) (rest := []) ⟨hx, hb, hml, hown, hts⟩ (m_X9_isPlaying l D cy g σ1 p1 p2 _ hJ2 ) (cwV 2 hts (gd_V q1822 q1824 q87 q134 q1825) rfl rfl rfl (by decide +kernel) ⟨Nat.le_of_ble_eq_true rfl, Nat.le_of_ble_eq_true rfl⟩) (pv9 hP hK hD hC hS (va_recv hK hP (ci := 9) (q0 := 0) rfl rfl)) rfl rfl hl.1 rfl (lv_room (Nat.le_of_ble_eq_true rfl)) dX9_chosen_8 ⟨Nat.le_of_ble_eq_true rfl, Nat.le_of_ble_eq_true rfl⟩) hS (fun q _ h => up9 hS q h) (up9 hS) (fun r4 σ5 tS H1 locs ht hvm hw6 hB hz1 hk1 hS => ?_)
  have hP : va_P D clz (WD9 cy g σ5) H1 := by rw [← ht]; exact hB
  clear hB hz1 hk1 hvm ht
  generalize H1 = H at hP hS ⊢
  have hw6E : σ1 = σ5 := (hw6.1).symm
  subst hw6E
  have b7 : (0 : Int) ≤ r4.toInt ∧ r4.toInt ≤ 1 := hw6.2.1
  have b8 : (r4.toInt = 0) ∨ ((0 : Int) ≤ p1.toInt ∧ p1.toInt ≤ 8 ∧ (0 : Int) ≤ p2.toInt ∧ p2.toInt ≤ 2) := hw6.2.2.1
  have b9 : (r4.toInt = 0) ∨ (p1.toInt < ((σ1 9).2.2.1 17 3).toInt) := hw6.2.2.2.1
  refine lv_if_eq (tgt := 27) hx hb dX9_chosen_11 (by decide) (fun c10 => ?_) (fun c10 => ?_)
  ·
    have k11 := peq32 c10
    refine lv_bipush (v := (-2)) hx hb dX9_chosen_27 (by decide) ?_
    exact W.iret (v := (-2)) hx hb hr (fun tS ht hW => ⟨⟨(-2), σ1, rfl, ⟨Fr.tr (Fr.rf) (sI_f eσ1) (fN_L rfl), hJ2, trivial⟩, (show va_P D clz (WD9 cy g σ1) tS.heap by rw [ht]; exact hP)⟩, hS.F ht⟩) hS.2.2 dX9_chosen_29
  ·
    have k12 := neq32 c10
    refine lv_iload hx hb dX9_chosen_14 (lv_at hl 4 rfl) ?_
    refine lv_i2l (v := p4.toInt64) hx hb dX9_chosen_16 rfl ?_
    refine lv_lconst (v := 0) hx hb dX9_chosen_17 (by decide) ?_
    refine lv_ldc2 (v := 2) hx hb hown (hts _ q1771) dX9_chosen_18 ?_
    refine va_calli (va_runS (As := [.long p4.toInt64, .long 0, .long 2]) (rest := []) ⟨hx, hb, hml, hown, hts⟩ (m_X9_in l D cy g σ1 p4.toInt64 (0) (2) _ hJ2 ) (va_cwS 3 hts (gd_S q1550 q1551 q134 q1552) rfl rfl rfl (by decide +kernel) ⟨Nat.le_of_ble_eq_true rfl, Nat.le_of_ble_eq_true rfl⟩) (ps9 hP hK hD hC hS) rfl rfl hl.1 rfl (lv_room (Nat.le_of_ble_eq_true rfl)) dX9_chosen_21 ⟨Nat.le_of_ble_eq_true rfl, Nat.le_of_ble_eq_true rfl⟩) hS (fun q _ h => up9 hS q h) (up9 hS) (fun r13 σ14 tS H1 locs ht hvm hw15 hB hz1 hk1 hS => ?_)
    have hP : va_P D clz (WD9 cy g σ14) H1 := by rw [← ht]; exact hB
    clear hB hz1 hk1 hvm ht
    generalize H1 = H at hP hS ⊢
    have hw15E : σ1 = σ14 := (hw15.1).symm
    subst hw15E
    have b16 : (0 : Int) ≤ r13.toInt ∧ r13.toInt ≤ 1 := hw15.2.1
    have b17 : (r13.toInt = 1 ∧ (0 : Int64).toInt ≤ p4.toInt64.toInt ∧ p4.toInt64.toInt ≤ (2 : Int64).toInt) ∨ (r13.toInt = 0 ∧ ¬ ((0 : Int64).toInt ≤ p4.toInt64.toInt ∧ p4.toInt64.toInt ≤ (2 : Int64).toInt)) := hw15.2.2.1
    refine lv_if_ne (tgt := 30) hx hb dX9_chosen_24 (by decide) (fun c18 => ?_) (fun c18 => ?_)
    ·
      have k19 := neq32 c18
      refine lv_aload_n hx hb dX9_chosen_30 rfl (lv_at hl 0 rfl) ?_
      refine lv_iload_n hx hb dX9_chosen_31 rfl (lv_at hl 1 rfl) ?_
      refine lv_iload_n hx hb dX9_chosen_32 rfl (lv_at hl 2 rfl) ?_
      refine va_calli (va_runV (As := [.int p1, .int p2]) (rest := []) ⟨hx, hb, hml, hown, hts⟩ (m_X9_isBest l D cy g σ1 p1 p2 _ hJ2 T3 (show (0 : Int) ≤ p1.toInt ∧ p1.toInt ≤ 8 from (by have f0 := b8; have f1 := b9; have f2 := a9_17 hJ2 (j := 3) rfl; have f3 := congrArg Int32.toInt (show ((σ1 9).2.2.1 17 3) = ((σ 9).2.2.1 17 3) from congrFun (((sI_f eσ1) 9 17 rfl).2.2.1) _); have f4 := b7; have f5 := k12; have f6 := a9_17 hJ (j := 3) rfl; have g2 := rg32 p1; have z0 : (0 : Int32).toInt = 0 := (by decide); omega)) (show (0 : Int) ≤ p2.toInt ∧ p2.toInt ≤ 2 from (by have f0 := b8; have f1 := b9; have f2 := a9_17 hJ2 (j := 3) rfl; have f3 := congrArg Int32.toInt (show ((σ1 9).2.2.1 17 3) = ((σ 9).2.2.1 17 3) from congrFun (((sI_f eσ1) 9 17 rfl).2.2.1) _); have f4 := b7; have f5 := k12; have f6 := a9_17 hJ (j := 3) rfl; have g2 := rg32 p1; have g3 := rg32 p2; have z0 : (0 : Int32).toInt = 0 := (by decide); omega)) (show p1.toInt < ((σ1 9).2.2.1 17 3).toInt from (by have f0 := a9_17 hJ2 (j := 3) rfl; have f1 := congrArg Int32.toInt (show ((σ1 9).2.2.1 17 3) = ((σ 9).2.2.1 17 3) from congrFun (((sI_f eσ1) 9 17 rfl).2.2.1) _); have f2 := b8; have f3 := b9; have f4 := a9_17 hJ (j := 3) rfl; have f5 := b7; have f6 := k12; have g2 := rg32 p1; have z0 : (0 : Int32).toInt = 0 := (by decide); omega))) (cwV 2 hts (gd_V q1826 q1828 q88 q134 q1829) rfl rfl rfl (by decide +kernel) ⟨Nat.le_of_ble_eq_true rfl, Nat.le_of_ble_eq_true rfl⟩) (pv9 hP hK hD hC hS (va_recv hK hP (ci := 9) (q0 := 0) rfl rfl)) rfl rfl hl.1 rfl (lv_room (Nat.le_of_ble_eq_true rfl)) dX9_chosen_33 ⟨Nat.le_of_ble_eq_true rfl, Nat.le_of_ble_eq_true rfl⟩) hS (fun q _ h => up9 hS q h) (up9 hS) (fun r20 σ21 tS H1 locs ht hvm hw22 hB hz1 hk1 hS => ?_)
      have hP : va_P D clz (WD9 cy g σ21) H1 := by rw [← ht]; exact hB
      clear hB hz1 hk1 hvm ht
      generalize H1 = H at hP hS ⊢
      have hF23 : Fr (fL [23, 24, 25, 26, 27, 28, 29, 30, 31, 32, 33, 34, 35, 36, 37, 38, 39, 40, 41]) σ1 σ21 := hw22.1
      have hJ24 : J9 (σ21 9) := hw22.2.1
      have b25 : (0 : Int) ≤ r20.toInt ∧ r20.toInt ≤ 1 := hw22.2.2.1
      have T26 : DK0 (σ21 9) := DK0.mv T3 (hF23 9 17 rfl).2.2.1 (hF23 9 18 rfl).2.2.1 (hF23 9 19 rfl).2.2.1
      refine lv_if_ne (tgt := 41) hx hb dX9_chosen_36 (by decide) (fun c27 => ?_) (fun c27 => ?_)
      ·
        have k28 := neq32 c27
        refine lv_aload_n hx hb dX9_chosen_41 rfl (lv_at hl 0 rfl) ?_
        refine lv_iload_n hx hb dX9_chosen_42 rfl (lv_at hl 3 rfl) ?_
        refine va_calli (va_runV (As := [.int p3]) (rest := []) ⟨hx, hb, hml, hown, hts⟩ (m_X9_soundOf l D cy g σ21 p3 _ hJ24 ) (cwV 1 hts (gd_V q1884 q1886 q99 q134 q1887) rfl rfl rfl (by decide +kernel) ⟨Nat.le_of_ble_eq_true rfl, Nat.le_of_ble_eq_true rfl⟩) (pv9 hP hK hD hC hS (va_recv hK hP (ci := 9) (q0 := 0) rfl rfl)) rfl rfl hl.1 rfl (lv_room (Nat.le_of_ble_eq_true rfl)) dX9_chosen_43 ⟨Nat.le_of_ble_eq_true rfl, Nat.le_of_ble_eq_true rfl⟩) hS (fun q _ h => up9 hS q h) (up9 hS) (fun r29 σ30 tS H1 locs ht hvm hw31 hB hz1 hk1 hS => ?_)
        have hP : va_P D clz (WD9 cy g σ30) H1 := by rw [← ht]; exact hB
        clear hB hz1 hk1 hvm ht
        generalize H1 = H at hP hS ⊢
        have hw31E : σ21 = σ30 := (hw31.1).symm
        subst hw31E
        have b32 : (-1 : Int) ≤ r29.toInt ∧ r29.toInt ≤ 15 := hw31.2.1
        refine lv_istore (lv' := [(5, .int r29), (0, .ref (g 60)), (1, .int p1), (2, .int p2), (3, .int p3), (4, .int p4)]) hx hb dX9_chosen_46 hl (by decide) rfl (fun ls hl => ?_)
        refine lv_iload hx hb dX9_chosen_48 (lv_at hl 0 rfl) ?_
        refine lv_iconst (v := (-1)) hx hb dX9_chosen_50 (by decide) ?_
        refine lv_icmp_ne (tgt := 56) hx hb dX9_chosen_51 (by decide) (fun c33 => ?_) (fun c33 => ?_)
        ·
          have k34 := neq32 c33
          refine lv_bipush (v := 88) hx hb dX9_chosen_56 (by decide) ?_
          refine lv_iload hx hb dX9_chosen_58 (lv_at hl 0 rfl) ?_
          refine lv_imul hx hb dX9_chosen_60 ?_
          refine lv_topi (fun x35 ex35 => ?_)
          have t36 := mulC' (n := 88) ex35 (by decide) (by have f0 := b32; have f1 := k34; have g0 := rg32 r29; have zm1 : ((-1) : Int32).toInt = (-1) := (by decide); omega)
          refine lv_aload_n hx hb dX9_chosen_61 rfl (lv_at hl 1 rfl) ?_
          refine g9_38 hx hb hts hown hK hP (hts _ q1398) dX9_chosen_62 ?_
          refine lv_iload hx hb dX9_chosen_65 (lv_at hl 0 rfl) ?_
          obtain ⟨x37, ex37⟩ : ∃ z, (σ21 9).2.2.1 38 r29.toInt.toNat = z := ⟨_, rfl⟩
          refine l9_38 (x := x37) hx hb hK hP (vpo (by have f0 := b32; have f1 := k34; have f2 := t36; have g0 := rg32 r29; have zm1 : ((-1) : Int32).toInt = (-1) := (by decide); omega)) ex37 dX9_chosen_67 ?_
          have t38 := a9_38 hJ24 ex37
          refine lv_iadd hx hb dX9_chosen_68 ?_
          refine lv_topi (fun x39 ex39 => ?_)
          have t40 := addO ex39 (by have f0 := t36; have f1 := t38; have f2 := b32; have f3 := k34; have g0 := rg32 x35; have g1 := rg32 x37; have zm1 : ((-1) : Int32).toInt = (-1) := (by decide); omega)
          refine lv_istore (lv' := [(6, .int x39), (5, .int r29), (0, .ref (g 60)), (1, .int p1), (2, .int p2), (3, .int p3), (4, .int p4)]) hx hb dX9_chosen_69 hl (by decide) rfl (fun ls hl => ?_)
          refine lv_iload hx hb dX9_chosen_71 (lv_at hl 6 rfl) ?_
          refine lv_if_ne (tgt := 86) hx hb dX9_chosen_73 (by decide) (fun c41 => ?_) (fun c41 => ?_)
          ·
            have k42 := neq32 c41
            refine lv_iload hx hb dX9_chosen_86 (lv_at hl 6 rfl) ?_
            refine lv_iconst (v := 1) hx hb dX9_chosen_88 (by decide) ?_
            refine lv_icmp_ne (tgt := 102) hx hb dX9_chosen_89 (by decide) (fun c43 => ?_) (fun c43 => ?_)
            ·
              have k44 := neq32 c43
              refine lv_aload_n hx hb dX9_chosen_102 rfl (lv_at hl 2 rfl) ?_
              refine g9_38 hx hb hts hown hK hP (hts _ q1398) dX9_chosen_103 ?_
              refine lv_iload hx hb dX9_chosen_106 (lv_at hl 1 rfl) ?_
              refine l9_38 (x := x37) hx hb hK hP (vpo (by have f0 := b32; have f1 := k34; have f2 := t36; have f3 := t38; have f4 := t40; have g0 := rg32 r29; have zm1 : ((-1) : Int32).toInt = (-1) := (by decide); omega)) ex37 dX9_chosen_108 ?_
              exact W.iret (v := x37) hx hb hr (fun tS ht hW => ⟨⟨x37, σ21, rfl, ⟨Fr.tr (Fr.tr (Fr.rf) (sI_f eσ1) (fN_L rfl)) hF23 (fL_sub rfl), hJ24, trivial⟩, (show va_P D clz (WD9 cy g σ21) tS.heap by rw [ht]; exact hP)⟩, hS.F ht⟩) hS.2.2 dX9_chosen_109
            ·
              have k45 := peq32 c43
              refine lv_aload_n hx hb dX9_chosen_92 rfl (lv_at hl 2 rfl) ?_
              refine g9_26 hx hb hts hown hK hP (hts _ q1386) dX9_chosen_93 ?_
              refine lv_iload hx hb dX9_chosen_96 (lv_at hl 0 rfl) ?_
              obtain ⟨x46, ex46⟩ : ∃ z, (σ21 9).2.2.1 26 x39.toInt.toNat = z := ⟨_, rfl⟩
              refine l9_26 (x := x46) hx hb hK hP (vpo (by have f0 := t40; have f1 := t36; have f2 := t38; have f3 := b32; have f4 := k34; have g0 := rg32 x39; have zm1 : ((-1) : Int32).toInt = (-1) := (by decide); omega)) ex46 dX9_chosen_98 ?_
              have t47 := a9_26 hJ24 ex46
              refine lv_goto (tgt := 109) hx hb dX9_chosen_99 (by decide) ?_
              exact W.iret (v := x46) hx hb hr (fun tS ht hW => ⟨⟨x46, σ21, rfl, ⟨Fr.tr (Fr.tr (Fr.rf) (sI_f eσ1) (fN_L rfl)) hF23 (fL_sub rfl), hJ24, trivial⟩, (show va_P D clz (WD9 cy g σ21) tS.heap by rw [ht]; exact hP)⟩, hS.F ht⟩) hS.2.2 dX9_chosen_109
          ·
            have k48 := peq32 c41
            refine lv_aload_n hx hb dX9_chosen_76 rfl (lv_at hl 2 rfl) ?_
            refine g9_25 hx hb hts hown hK hP (hts _ q1385) dX9_chosen_77 ?_
            refine lv_iload hx hb dX9_chosen_80 (lv_at hl 0 rfl) ?_
            obtain ⟨x49, ex49⟩ : ∃ z, (σ21 9).2.2.1 25 x39.toInt.toNat = z := ⟨_, rfl⟩
            refine l9_25 (x := x49) hx hb hK hP (vpo (by have f0 := t40; have f1 := t36; have f2 := t38; have f3 := b32; have f4 := k34; have g0 := rg32 x39; have zm1 : ((-1) : Int32).toInt = (-1) := (by decide); omega)) ex49 dX9_chosen_82 ?_
            refine lv_goto (tgt := 109) hx hb dX9_chosen_83 (by decide) ?_
            exact W.iret (v := x49) hx hb hr (fun tS ht hW => ⟨⟨x49, σ21, rfl, ⟨Fr.tr (Fr.tr (Fr.rf) (sI_f eσ1) (fN_L rfl)) hF23 (fL_sub rfl), hJ24, trivial⟩, (show va_P D clz (WD9 cy g σ21) tS.heap by rw [ht]; exact hP)⟩, hS.F ht⟩) hS.2.2 dX9_chosen_109
        ·
          have k50 := peq32 c33
          refine lv_iconst (v := (-1)) hx hb dX9_chosen_54 (by decide) ?_
          exact W.iret (v := (-1)) hx hb hr (fun tS ht hW => ⟨⟨(-1), σ21, rfl, ⟨Fr.tr (Fr.tr (Fr.rf) (sI_f eσ1) (fN_L rfl)) hF23 (fL_sub rfl), hJ24, trivial⟩, (show va_P D clz (WD9 cy g σ21) tS.heap by rw [ht]; exact hP)⟩, hS.F ht⟩) hS.2.2 dX9_chosen_55
      ·
        have k51 := peq32 c27
        refine lv_iconst (v := (-1)) hx hb dX9_chosen_39 (by decide) ?_
        exact W.iret (v := (-1)) hx hb hr (fun tS ht hW => ⟨⟨(-1), σ21, rfl, ⟨Fr.tr (Fr.tr (Fr.rf) (sI_f eσ1) (fN_L rfl)) hF23 (fL_sub rfl), hJ24, trivial⟩, (show va_P D clz (WD9 cy g σ21) tS.heap by rw [ht]; exact hP)⟩, hS.F ht⟩) hS.2.2 dX9_chosen_40
    ·
      have k52 := peq32 c18
      refine lv_bipush (v := (-2)) hx hb dX9_chosen_27 (by decide) ?_
      exact W.iret (v := (-2)) hx hb hr (fun tS ht hW => ⟨⟨(-2), σ1, rfl, ⟨Fr.tr (Fr.rf) (sI_f eσ1) (fN_L rfl), hJ2, trivial⟩, (show va_P D clz (WD9 cy g σ1) tS.heap by rw [ht]; exact hP)⟩, hS.F ht⟩) hS.2.2 dX9_chosen_29

theorem q1891 : Cond.code yX9_slurs cX9_slurs 9 (some .int) ∈ lw_g := lw_gm (List.mem_of_getElem? (i := 1891) (by decide +kernel)) rfl
theorem dX9_slurs_0 : decode cX9_slurs 0 = .ok (.aload_n 0, 1) := by decide +kernel
theorem dX9_slurs_1 : decode cX9_slurs 1 = .ok (.iconst 0, 1) := by decide +kernel
theorem dX9_slurs_2 : decode cX9_slurs 2 = .ok (.putfield 129, 3) := by decide +kernel
theorem dX9_slurs_5 : decode cX9_slurs 5 = .ok (.aload_n 0, 1) := by decide +kernel
theorem dX9_slurs_6 : decode cX9_slurs 6 = .ok (.iload_n 1, 1) := by decide +kernel
theorem dX9_slurs_7 : decode cX9_slurs 7 = .ok (.iload_n 2, 1) := by decide +kernel
theorem dX9_slurs_8 : decode cX9_slurs 8 = .ok (.invokevirtual 433, 3) := by decide +kernel
theorem dX9_slurs_11 : decode cX9_slurs 11 = .ok (.ifCond .eq 15, 3) := by decide +kernel
theorem dX9_slurs_14 : decode cX9_slurs 14 = .ok (.iload_n 3, 1) := by decide +kernel
theorem dX9_slurs_15 : decode cX9_slurs 15 = .ok (.i2l, 1) := by decide +kernel
theorem dX9_slurs_16 : decode cX9_slurs 16 = .ok (.lconst 0, 1) := by decide +kernel
theorem dX9_slurs_17 : decode cX9_slurs 17 = .ok (.ldc2_w 351, 3) := by decide +kernel
theorem dX9_slurs_20 : decode cX9_slurs 20 = .ok (.invokestatic 134, 3) := by decide +kernel
theorem dX9_slurs_23 : decode cX9_slurs 23 = .ok (.ifCond .ne 6, 3) := by decide +kernel
theorem dX9_slurs_26 : decode cX9_slurs 26 = .ok (.bipush (-2), 2) := by decide +kernel
theorem dX9_slurs_28 : decode cX9_slurs 28 = .ok (.ireturn, 1) := by decide +kernel
theorem dX9_slurs_29 : decode cX9_slurs 29 = .ok (.aload_n 0, 1) := by decide +kernel
theorem dX9_slurs_30 : decode cX9_slurs 30 = .ok (.iload_n 1, 1) := by decide +kernel
theorem dX9_slurs_31 : decode cX9_slurs 31 = .ok (.iload_n 2, 1) := by decide +kernel
theorem dX9_slurs_32 : decode cX9_slurs 32 = .ok (.invokevirtual 436, 3) := by decide +kernel
theorem dX9_slurs_35 : decode cX9_slurs 35 = .ok (.ifCond .ne 5, 3) := by decide +kernel
theorem dX9_slurs_38 : decode cX9_slurs 38 = .ok (.iconst (-1), 1) := by decide +kernel
theorem dX9_slurs_39 : decode cX9_slurs 39 = .ok (.ireturn, 1) := by decide +kernel
theorem dX9_slurs_40 : decode cX9_slurs 40 = .ok (.iconst 0, 1) := by decide +kernel
theorem dX9_slurs_41 : decode cX9_slurs 41 = .ok (.istore 4, 2) := by decide +kernel
theorem dX9_slurs_43 : decode cX9_slurs 43 = .ok (.iconst 0, 1) := by decide +kernel
theorem dX9_slurs_44 : decode cX9_slurs 44 = .ok (.istore 5, 2) := by decide +kernel
theorem dX9_slurs_46 : decode cX9_slurs 46 = .ok (.iload 5, 2) := by decide +kernel
theorem dX9_slurs_48 : decode cX9_slurs 48 = .ok (.iconst 1, 1) := by decide +kernel
theorem dX9_slurs_49 : decode cX9_slurs 49 = .ok (.iadd, 1) := by decide +kernel
theorem dX9_slurs_50 : decode cX9_slurs 50 = .ok (.aload_n 0, 1) := by decide +kernel
theorem dX9_slurs_51 : decode cX9_slurs 51 = .ok (.getfield 387, 3) := by decide +kernel
theorem dX9_slurs_54 : decode cX9_slurs 54 = .ok (.if_icmp .ge 221, 3) := by decide +kernel
theorem dX9_slurs_57 : decode cX9_slurs 57 = .ok (.aload_n 0, 1) := by decide +kernel
theorem dX9_slurs_58 : decode cX9_slurs 58 = .ok (.iload 5, 2) := by decide +kernel
theorem dX9_slurs_60 : decode cX9_slurs 60 = .ok (.aload_n 0, 1) := by decide +kernel
theorem dX9_slurs_61 : decode cX9_slurs 61 = .ok (.getfield 83, 3) := by decide +kernel
theorem dX9_slurs_64 : decode cX9_slurs 64 = .ok (.iload 5, 2) := by decide +kernel
theorem dX9_slurs_66 : decode cX9_slurs 66 = .ok (.iaload, 1) := by decide +kernel
theorem dX9_slurs_67 : decode cX9_slurs 67 = .ok (.aload_n 0, 1) := by decide +kernel
theorem dX9_slurs_68 : decode cX9_slurs 68 = .ok (.getfield 83, 3) := by decide +kernel
theorem dX9_slurs_71 : decode cX9_slurs 71 = .ok (.iload 5, 2) := by decide +kernel
theorem dX9_slurs_73 : decode cX9_slurs 73 = .ok (.iconst 1, 1) := by decide +kernel
theorem dX9_slurs_74 : decode cX9_slurs 74 = .ok (.iadd, 1) := by decide +kernel
theorem dX9_slurs_75 : decode cX9_slurs 75 = .ok (.iaload, 1) := by decide +kernel
theorem dX9_slurs_76 : decode cX9_slurs 76 = .ok (.invokevirtual 405, 3) := by decide +kernel
theorem dX9_slurs_79 : decode cX9_slurs 79 = .ok (.ifCond .le 7, 3) := by decide +kernel
theorem dX9_slurs_82 : decode cX9_slurs 82 = .ok (.iconst 1, 1) := by decide +kernel
theorem dX9_slurs_83 : decode cX9_slurs 83 = .ok (.goto 4, 3) := by decide +kernel
theorem dX9_slurs_86 : decode cX9_slurs 86 = .ok (.iconst 0, 1) := by decide +kernel
theorem dX9_slurs_87 : decode cX9_slurs 87 = .ok (.istore 6, 2) := by decide +kernel
theorem dX9_slurs_89 : decode cX9_slurs 89 = .ok (.aload_n 0, 1) := by decide +kernel
theorem dX9_slurs_90 : decode cX9_slurs 90 = .ok (.getfield 56, 3) := by decide +kernel
theorem dX9_slurs_93 : decode cX9_slurs 93 = .ok (.bipush 88, 2) := by decide +kernel
theorem dX9_slurs_95 : decode cX9_slurs 95 = .ok (.iload 5, 2) := by decide +kernel
theorem dX9_slurs_97 : decode cX9_slurs 97 = .ok (.imul, 1) := by decide +kernel
theorem dX9_slurs_98 : decode cX9_slurs 98 = .ok (.aload_n 0, 1) := by decide +kernel
theorem dX9_slurs_99 : decode cX9_slurs 99 = .ok (.getfield 83, 3) := by decide +kernel
theorem dX9_slurs_102 : decode cX9_slurs 102 = .ok (.iload 5, 2) := by decide +kernel
theorem dX9_slurs_104 : decode cX9_slurs 104 = .ok (.iaload, 1) := by decide +kernel
theorem dX9_slurs_105 : decode cX9_slurs 105 = .ok (.iadd, 1) := by decide +kernel
theorem dX9_slurs_106 : decode cX9_slurs 106 = .ok (.iaload, 1) := by decide +kernel
theorem dX9_slurs_107 : decode cX9_slurs 107 = .ok (.aload_n 0, 1) := by decide +kernel
theorem dX9_slurs_108 : decode cX9_slurs 108 = .ok (.getfield 56, 3) := by decide +kernel
theorem dX9_slurs_111 : decode cX9_slurs 111 = .ok (.bipush 88, 2) := by decide +kernel
theorem dX9_slurs_113 : decode cX9_slurs 113 = .ok (.iload 5, 2) := by decide +kernel
theorem dX9_slurs_115 : decode cX9_slurs 115 = .ok (.iconst 1, 1) := by decide +kernel
theorem dX9_slurs_116 : decode cX9_slurs 116 = .ok (.iadd, 1) := by decide +kernel
theorem dX9_slurs_117 : decode cX9_slurs 117 = .ok (.imul, 1) := by decide +kernel
theorem dX9_slurs_118 : decode cX9_slurs 118 = .ok (.aload_n 0, 1) := by decide +kernel
theorem dX9_slurs_119 : decode cX9_slurs 119 = .ok (.getfield 83, 3) := by decide +kernel
theorem dX9_slurs_122 : decode cX9_slurs 122 = .ok (.iload 5, 2) := by decide +kernel
theorem dX9_slurs_124 : decode cX9_slurs 124 = .ok (.iconst 1, 1) := by decide +kernel
theorem dX9_slurs_125 : decode cX9_slurs 125 = .ok (.iadd, 1) := by decide +kernel
theorem dX9_slurs_126 : decode cX9_slurs 126 = .ok (.iaload, 1) := by decide +kernel
theorem dX9_slurs_127 : decode cX9_slurs 127 = .ok (.iadd, 1) := by decide +kernel
theorem dX9_slurs_128 : decode cX9_slurs 128 = .ok (.iaload, 1) := by decide +kernel
theorem dX9_slurs_129 : decode cX9_slurs 129 = .ok (.if_icmp .ne 7, 3) := by decide +kernel
theorem dX9_slurs_132 : decode cX9_slurs 132 = .ok (.iconst 1, 1) := by decide +kernel
theorem dX9_slurs_133 : decode cX9_slurs 133 = .ok (.goto 4, 3) := by decide +kernel
theorem dX9_slurs_136 : decode cX9_slurs 136 = .ok (.iconst 0, 1) := by decide +kernel
theorem dX9_slurs_137 : decode cX9_slurs 137 = .ok (.istore 7, 2) := by decide +kernel
theorem dX9_slurs_139 : decode cX9_slurs 139 = .ok (.aload_n 0, 1) := by decide +kernel
theorem dX9_slurs_140 : decode cX9_slurs 140 = .ok (.getfield 59, 3) := by decide +kernel
theorem dX9_slurs_143 : decode cX9_slurs 143 = .ok (.bipush 88, 2) := by decide +kernel
theorem dX9_slurs_145 : decode cX9_slurs 145 = .ok (.iload 5, 2) := by decide +kernel
theorem dX9_slurs_147 : decode cX9_slurs 147 = .ok (.imul, 1) := by decide +kernel
theorem dX9_slurs_148 : decode cX9_slurs 148 = .ok (.aload_n 0, 1) := by decide +kernel
theorem dX9_slurs_149 : decode cX9_slurs 149 = .ok (.getfield 83, 3) := by decide +kernel
theorem dX9_slurs_152 : decode cX9_slurs 152 = .ok (.iload 5, 2) := by decide +kernel
theorem dX9_slurs_154 : decode cX9_slurs 154 = .ok (.iaload, 1) := by decide +kernel
theorem dX9_slurs_155 : decode cX9_slurs 155 = .ok (.iadd, 1) := by decide +kernel
theorem dX9_slurs_156 : decode cX9_slurs 156 = .ok (.iaload, 1) := by decide +kernel
theorem dX9_slurs_157 : decode cX9_slurs 157 = .ok (.aload_n 0, 1) := by decide +kernel
theorem dX9_slurs_158 : decode cX9_slurs 158 = .ok (.getfield 59, 3) := by decide +kernel
theorem dX9_slurs_161 : decode cX9_slurs 161 = .ok (.bipush 88, 2) := by decide +kernel
theorem dX9_slurs_163 : decode cX9_slurs 163 = .ok (.iload 5, 2) := by decide +kernel
theorem dX9_slurs_165 : decode cX9_slurs 165 = .ok (.iconst 1, 1) := by decide +kernel
theorem dX9_slurs_166 : decode cX9_slurs 166 = .ok (.iadd, 1) := by decide +kernel
theorem dX9_slurs_167 : decode cX9_slurs 167 = .ok (.imul, 1) := by decide +kernel
theorem dX9_slurs_168 : decode cX9_slurs 168 = .ok (.aload_n 0, 1) := by decide +kernel
theorem dX9_slurs_169 : decode cX9_slurs 169 = .ok (.getfield 83, 3) := by decide +kernel
theorem dX9_slurs_172 : decode cX9_slurs 172 = .ok (.iload 5, 2) := by decide +kernel
theorem dX9_slurs_174 : decode cX9_slurs 174 = .ok (.iconst 1, 1) := by decide +kernel
theorem dX9_slurs_175 : decode cX9_slurs 175 = .ok (.iadd, 1) := by decide +kernel
theorem dX9_slurs_176 : decode cX9_slurs 176 = .ok (.iaload, 1) := by decide +kernel
theorem dX9_slurs_177 : decode cX9_slurs 177 = .ok (.iadd, 1) := by decide +kernel
theorem dX9_slurs_178 : decode cX9_slurs 178 = .ok (.iaload, 1) := by decide +kernel
theorem dX9_slurs_179 : decode cX9_slurs 179 = .ok (.if_icmp .ne 7, 3) := by decide +kernel
theorem dX9_slurs_182 : decode cX9_slurs 182 = .ok (.iconst 1, 1) := by decide +kernel
theorem dX9_slurs_183 : decode cX9_slurs 183 = .ok (.goto 4, 3) := by decide +kernel
theorem dX9_slurs_186 : decode cX9_slurs 186 = .ok (.iconst 0, 1) := by decide +kernel
theorem dX9_slurs_187 : decode cX9_slurs 187 = .ok (.istore 8, 2) := by decide +kernel
theorem dX9_slurs_189 : decode cX9_slurs 189 = .ok (.iload 4, 2) := by decide +kernel
theorem dX9_slurs_191 : decode cX9_slurs 191 = .ok (.iload_n 3, 1) := by decide +kernel
theorem dX9_slurs_192 : decode cX9_slurs 192 = .ok (.ifCond .ne 31, 3) := by decide +kernel
theorem dX9_slurs_195 : decode cX9_slurs 195 = .ok (.aload_n 0, 1) := by decide +kernel
theorem dX9_slurs_196 : decode cX9_slurs 196 = .ok (.getfield 71, 3) := by decide +kernel
theorem dX9_slurs_199 : decode cX9_slurs 199 = .ok (.iload 5, 2) := by decide +kernel
theorem dX9_slurs_201 : decode cX9_slurs 201 = .ok (.baload, 1) := by decide +kernel
theorem dX9_slurs_202 : decode cX9_slurs 202 = .ok (.ifCond .eq 17, 3) := by decide +kernel
theorem dX9_slurs_205 : decode cX9_slurs 205 = .ok (.iload 7, 2) := by decide +kernel
theorem dX9_slurs_207 : decode cX9_slurs 207 = .ok (.ifCond .eq 12, 3) := by decide +kernel
theorem dX9_slurs_210 : decode cX9_slurs 210 = .ok (.iload 6, 2) := by decide +kernel
theorem dX9_slurs_212 : decode cX9_slurs 212 = .ok (.ifCond .eq 7, 3) := by decide +kernel
theorem dX9_slurs_215 : decode cX9_slurs 215 = .ok (.iconst 1, 1) := by decide +kernel
theorem dX9_slurs_216 : decode cX9_slurs 216 = .ok (.goto 50, 3) := by decide +kernel
theorem dX9_slurs_219 : decode cX9_slurs 219 = .ok (.iconst 0, 1) := by decide +kernel
theorem dX9_slurs_220 : decode cX9_slurs 220 = .ok (.goto 46, 3) := by decide +kernel
theorem dX9_slurs_223 : decode cX9_slurs 223 = .ok (.iload_n 3, 1) := by decide +kernel
theorem dX9_slurs_224 : decode cX9_slurs 224 = .ok (.iconst 1, 1) := by decide +kernel
theorem dX9_slurs_225 : decode cX9_slurs 225 = .ok (.if_icmp .ne 31, 3) := by decide +kernel
theorem dX9_slurs_228 : decode cX9_slurs 228 = .ok (.aload_n 0, 1) := by decide +kernel
theorem dX9_slurs_229 : decode cX9_slurs 229 = .ok (.getfield 71, 3) := by decide +kernel
theorem dX9_slurs_232 : decode cX9_slurs 232 = .ok (.iload 5, 2) := by decide +kernel
theorem dX9_slurs_234 : decode cX9_slurs 234 = .ok (.baload, 1) := by decide +kernel
theorem dX9_slurs_235 : decode cX9_slurs 235 = .ok (.ifCond .eq 17, 3) := by decide +kernel
theorem dX9_slurs_238 : decode cX9_slurs 238 = .ok (.iload 7, 2) := by decide +kernel
theorem dX9_slurs_240 : decode cX9_slurs 240 = .ok (.ifCond .ne 12, 3) := by decide +kernel
theorem dX9_slurs_243 : decode cX9_slurs 243 = .ok (.iload 8, 2) := by decide +kernel
theorem dX9_slurs_245 : decode cX9_slurs 245 = .ok (.ifCond .eq 7, 3) := by decide +kernel
theorem dX9_slurs_248 : decode cX9_slurs 248 = .ok (.iconst 1, 1) := by decide +kernel
theorem dX9_slurs_249 : decode cX9_slurs 249 = .ok (.goto 17, 3) := by decide +kernel
theorem dX9_slurs_252 : decode cX9_slurs 252 = .ok (.iconst 0, 1) := by decide +kernel
theorem dX9_slurs_253 : decode cX9_slurs 253 = .ok (.goto 13, 3) := by decide +kernel
theorem dX9_slurs_256 : decode cX9_slurs 256 = .ok (.iload 6, 2) := by decide +kernel
theorem dX9_slurs_258 : decode cX9_slurs 258 = .ok (.ifCond .eq 7, 3) := by decide +kernel
theorem dX9_slurs_261 : decode cX9_slurs 261 = .ok (.iconst 1, 1) := by decide +kernel
theorem dX9_slurs_262 : decode cX9_slurs 262 = .ok (.goto 4, 3) := by decide +kernel
theorem dX9_slurs_265 : decode cX9_slurs 265 = .ok (.iconst 0, 1) := by decide +kernel
theorem dX9_slurs_266 : decode cX9_slurs 266 = .ok (.iadd, 1) := by decide +kernel
theorem dX9_slurs_267 : decode cX9_slurs 267 = .ok (.istore 4, 2) := by decide +kernel
theorem dX9_slurs_269 : decode cX9_slurs 269 = .ok (.iinc 5 1, 3) := by decide +kernel
theorem dX9_slurs_272 : decode cX9_slurs 272 = .ok (.goto (-226), 3) := by decide +kernel
theorem dX9_slurs_275 : decode cX9_slurs 275 = .ok (.iload 4, 2) := by decide +kernel
theorem dX9_slurs_277 : decode cX9_slurs 277 = .ok (.ireturn, 1) := by decide +kernel
set_option maxHeartbeats 4000000 in
set_option maxRecDepth 100000 in
theorem m_X9_slurs (l : Launch) (D : va_G) (cy : Nat → ClassId) (g : Nat → Nat) (σ : ST) (p1 : Int32) (p2 : Int32) (p3 : Int32) (sz : Nat) (hJ : J9 (σ 9)) (kDK0 : DK0 (σ 9)) : Met l yX9_slurs (ww yX9_slurs cX9_slurs 9 (some .int)) ({ frames := 8, cells := 0, slots := 0, locals := 512 }) (va_Pc [.ref (g 60), .int p1, .int p2, .int p3] (pr9 D cy g σ sz)) (qi9 D cy g sz (fun r τ => Fr (fL [0, 23, 24, 25, 26, 27, 28, 29, 30, 31, 32, 33, 34, 35, 36, 37, 38, 39, 40, 41]) σ τ ∧ J9 (τ 9) ∧ True)) 0 0 (A9 cy g sz) := by
  refine Met.ofW (cc := cX9_slurs) (maxL := 9) (ret := (some .int)) (by decide) rfl ?_
  intro p e s m args below meth c s₁ B hml hv
  obtain ⟨rfl, hsz, hP, hK, hD0, hC⟩ := hv
  have hx := B.exec
  have hb := B.bytes
  have hr := B.returns
  have hts := hts_g (atoms_spec (ws := ww yX9_slurs cX9_slurs 9 (some .int)) B.pre)
  have hown : s.vm.findClass RX9 = some m.cls := findClass_of_methodNamed B.named
  have hlocks := B.notSynchronized
  clear B
  subst hsz
  have hD := fun τ => A9_D (sz := s.heap.size) hD0 τ
  clear hD0
  have hS : va_S (A9 cy g s.heap.size) s.heap s.heap [] := va_S.rf
  have hl := lv_entry ([.ref (g 60), .int p1, .int p2, .int p3]) (n := 9) (Nat.le_of_ble_eq_true rfl)
  rw [lg_entry_eq]
  generalize (lg_sl ([.ref (g 60), .int p1, .int p2, .int p3]) ++ List.replicate (9 - (lg_sl ([.ref (g 60), .int p1, .int p2, .int p3])).length) Slot.unset).toArray = ls at hl ⊢
  have hl : lv_has ls 9 [(0, .ref (g 60)), (1, .int p1), (2, .int p2), (3, .int p3)] := hl
  refine lv_aload_n hx hb dX9_slurs_0 rfl (lv_at hl 0 rfl) ?_
  refine lv_iconst (v := 0) hx hb dX9_slurs_1 (by decide) ?_
  refine p9_0 hx hb hts hown hK hP hD hS (hts _ q1360) dX9_slurs_2 (fun H locs σ1 eσ1 hP hS => ?_)
  have hJ2 : J9 (σ1 9) := hJ.I eσ1 (show JI9 0 (0 : Int32) from trivial)
  have T3 : DK0 (σ1 9) := DK0.mv kDK0 ((sI_f eσ1) 9 17 rfl).2.2.1 ((sI_f eσ1) 9 18 rfl).2.2.1 ((sI_f eσ1) 9 19 rfl).2.2.1
  refine lv_aload_n hx hb dX9_slurs_5 rfl (lv_at hl 0 rfl) ?_
  refine lv_iload_n hx hb dX9_slurs_6 rfl (lv_at hl 1 rfl) ?_
  refine lv_iload_n hx hb dX9_slurs_7 rfl (lv_at hl 2 rfl) ?_
  refine va_calli (va_runV (As := [.int p1, .int p2]) (rest := []) ⟨hx, hb, hml, hown, hts⟩ (m_X9_isPlaying l D cy g σ1 p1 p2 _ hJ2 ) (cwV 2 hts (gd_V q1822 q1824 q87 q134 q1825) rfl rfl rfl (by decide +kernel) ⟨Nat.le_of_ble_eq_true rfl, Nat.le_of_ble_eq_true rfl⟩) (pv9 hP hK hD hC hS (va_recv hK hP (ci := 9) (q0 := 0) rfl rfl)) rfl rfl hl.1 rfl (lv_room (Nat.le_of_ble_eq_true rfl)) dX9_slurs_8 ⟨Nat.le_of_ble_eq_true rfl, Nat.le_of_ble_eq_true rfl⟩) hS (fun q _ h => up9 hS q h) (up9 hS) (fun r4 σ5 tS H1 locs ht hvm hw6 hB hz1 hk1 hS => ?_)
  have hP : va_P D clz (WD9 cy g σ5) H1 := by rw [← ht]; exact hB
  clear hB hz1 hk1 hvm ht
  generalize H1 = H at hP hS ⊢
  have hw6E : σ1 = σ5 := (hw6.1).symm
  subst hw6E
  have b7 : (0 : Int) ≤ r4.toInt ∧ r4.toInt ≤ 1 := hw6.2.1
  have b8 : (r4.toInt = 0) ∨ ((0 : Int) ≤ p1.toInt ∧ p1.toInt ≤ 8 ∧ (0 : Int) ≤ p2.toInt ∧ p2.toInt ≤ 2) := hw6.2.2.1
  have b9 : (r4.toInt = 0) ∨ (p1.toInt < ((σ1 9).2.2.1 17 3).toInt) := hw6.2.2.2.1
  refine lv_if_eq (tgt := 26) hx hb dX9_slurs_11 (by decide) (fun c10 => ?_) (fun c10 => ?_)
  ·
    have k11 := peq32 c10
    refine lv_bipush (v := (-2)) hx hb dX9_slurs_26 (by decide) ?_
    exact W.iret (v := (-2)) hx hb hr (fun tS ht hW => ⟨⟨(-2), σ1, rfl, ⟨Fr.tr (Fr.rf) (sI_f eσ1) (fN_L rfl), hJ2, trivial⟩, (show va_P D clz (WD9 cy g σ1) tS.heap by rw [ht]; exact hP)⟩, hS.F ht⟩) hS.2.2 dX9_slurs_28
  ·
    have k12 := neq32 c10
    refine lv_iload_n hx hb dX9_slurs_14 rfl (lv_at hl 3 rfl) ?_
    refine lv_i2l (v := p3.toInt64) hx hb dX9_slurs_15 rfl ?_
    refine lv_lconst (v := 0) hx hb dX9_slurs_16 (by decide) ?_
    refine lv_ldc2 (v := 2) hx hb hown (hts _ q1771) dX9_slurs_17 ?_
    refine va_calli (va_runS (As := [.long p3.toInt64, .long 0, .long 2]) (rest := []) ⟨hx, hb, hml, hown, hts⟩ (m_X9_in l D cy g σ1 p3.toInt64 (0) (2) _ hJ2 ) (va_cwS 3 hts (gd_S q1550 q1551 q134 q1552) rfl rfl rfl (by decide +kernel) ⟨Nat.le_of_ble_eq_true rfl, Nat.le_of_ble_eq_true rfl⟩) (ps9 hP hK hD hC hS) rfl rfl hl.1 rfl (lv_room (Nat.le_of_ble_eq_true rfl)) dX9_slurs_20 ⟨Nat.le_of_ble_eq_true rfl, Nat.le_of_ble_eq_true rfl⟩) hS (fun q _ h => up9 hS q h) (up9 hS) (fun r13 σ14 tS H1 locs ht hvm hw15 hB hz1 hk1 hS => ?_)
    have hP : va_P D clz (WD9 cy g σ14) H1 := by rw [← ht]; exact hB
    clear hB hz1 hk1 hvm ht
    generalize H1 = H at hP hS ⊢
    have hw15E : σ1 = σ14 := (hw15.1).symm
    subst hw15E
    have b16 : (0 : Int) ≤ r13.toInt ∧ r13.toInt ≤ 1 := hw15.2.1
    have b17 : (r13.toInt = 1 ∧ (0 : Int64).toInt ≤ p3.toInt64.toInt ∧ p3.toInt64.toInt ≤ (2 : Int64).toInt) ∨ (r13.toInt = 0 ∧ ¬ ((0 : Int64).toInt ≤ p3.toInt64.toInt ∧ p3.toInt64.toInt ≤ (2 : Int64).toInt)) := hw15.2.2.1
    refine lv_if_ne (tgt := 29) hx hb dX9_slurs_23 (by decide) (fun c18 => ?_) (fun c18 => ?_)
    ·
      have k19 := neq32 c18
      refine lv_aload_n hx hb dX9_slurs_29 rfl (lv_at hl 0 rfl) ?_
      refine lv_iload_n hx hb dX9_slurs_30 rfl (lv_at hl 1 rfl) ?_
      refine lv_iload_n hx hb dX9_slurs_31 rfl (lv_at hl 2 rfl) ?_
      refine va_calli (va_runV (As := [.int p1, .int p2]) (rest := []) ⟨hx, hb, hml, hown, hts⟩ (m_X9_isBest l D cy g σ1 p1 p2 _ hJ2 T3 (show (0 : Int) ≤ p1.toInt ∧ p1.toInt ≤ 8 from (by have f0 := b8; have f1 := b9; have f2 := a9_17 hJ2 (j := 3) rfl; have f3 := congrArg Int32.toInt (show ((σ1 9).2.2.1 17 3) = ((σ 9).2.2.1 17 3) from congrFun (((sI_f eσ1) 9 17 rfl).2.2.1) _); have f4 := b7; have f5 := k12; have f6 := a9_17 hJ (j := 3) rfl; have g2 := rg32 p1; have z0 : (0 : Int32).toInt = 0 := (by decide); omega)) (show (0 : Int) ≤ p2.toInt ∧ p2.toInt ≤ 2 from (by have f0 := b8; have f1 := b9; have f2 := a9_17 hJ2 (j := 3) rfl; have f3 := congrArg Int32.toInt (show ((σ1 9).2.2.1 17 3) = ((σ 9).2.2.1 17 3) from congrFun (((sI_f eσ1) 9 17 rfl).2.2.1) _); have f4 := b7; have f5 := k12; have f6 := a9_17 hJ (j := 3) rfl; have g2 := rg32 p1; have g3 := rg32 p2; have z0 : (0 : Int32).toInt = 0 := (by decide); omega)) (show p1.toInt < ((σ1 9).2.2.1 17 3).toInt from (by have f0 := a9_17 hJ2 (j := 3) rfl; have f1 := congrArg Int32.toInt (show ((σ1 9).2.2.1 17 3) = ((σ 9).2.2.1 17 3) from congrFun (((sI_f eσ1) 9 17 rfl).2.2.1) _); have f2 := b8; have f3 := b9; have f4 := a9_17 hJ (j := 3) rfl; have f5 := b7; have f6 := k12; have g2 := rg32 p1; have z0 : (0 : Int32).toInt = 0 := (by decide); omega))) (cwV 2 hts (gd_V q1826 q1828 q88 q134 q1829) rfl rfl rfl (by decide +kernel) ⟨Nat.le_of_ble_eq_true rfl, Nat.le_of_ble_eq_true rfl⟩) (pv9 hP hK hD hC hS (va_recv hK hP (ci := 9) (q0 := 0) rfl rfl)) rfl rfl hl.1 rfl (lv_room (Nat.le_of_ble_eq_true rfl)) dX9_slurs_32 ⟨Nat.le_of_ble_eq_true rfl, Nat.le_of_ble_eq_true rfl⟩) hS (fun q _ h => up9 hS q h) (up9 hS) (fun r20 σ21 tS H1 locs ht hvm hw22 hB hz1 hk1 hS => ?_)
      have hP : va_P D clz (WD9 cy g σ21) H1 := by rw [← ht]; exact hB
      clear hB hz1 hk1 hvm ht
      generalize H1 = H at hP hS ⊢
      have hF23 : Fr (fL [23, 24, 25, 26, 27, 28, 29, 30, 31, 32, 33, 34, 35, 36, 37, 38, 39, 40, 41]) σ1 σ21 := hw22.1
      have hJ24 : J9 (σ21 9) := hw22.2.1
      have b25 : (0 : Int) ≤ r20.toInt ∧ r20.toInt ≤ 1 := hw22.2.2.1
      have T26 : DK0 (σ21 9) := DK0.mv T3 (hF23 9 17 rfl).2.2.1 (hF23 9 18 rfl).2.2.1 (hF23 9 19 rfl).2.2.1
      refine lv_if_ne (tgt := 40) hx hb dX9_slurs_35 (by decide) (fun c27 => ?_) (fun c27 => ?_)
      ·
        have k28 := neq32 c27
        refine lv_iconst (v := 0) hx hb dX9_slurs_40 (by decide) ?_
        refine lv_istore (lv' := [(4, .int 0), (0, .ref (g 60)), (1, .int p1), (2, .int p2), (3, .int p3)]) hx hb dX9_slurs_41 hl (by decide) rfl (fun ls hl => ?_)
        refine lv_iconst (v := 0) hx hb dX9_slurs_43 (by decide) ?_
        refine lv_istore (lv' := [(5, .int 0), (4, .int 0), (0, .ref (g 60)), (1, .int p1), (2, .int p2), (3, .int p3)]) hx hb dX9_slurs_44 hl (by decide) rfl (fun ls hl => ?_)
        refine loop9 9 46 (fun x : LZ => [(5, .int (x.2.1 0)), (4, .int (x.2.1 1)), (0, .ref (g 60)), (1, .int p1), (2, .int p2), (3, .int p3)]) (fun x : LZ => (x.1 = σ21) ∧ ((0 : Int) ≤ (x.2.1 0).toInt ∧ (x.2.1 0).toInt ≤ 15) ∧ (DK0 (σ21 9)) ∧ True) (fun x : LZ => ((16 : Int) - (x.2.1 0).toInt).toNat) ?_ (σ21, lf [0, 0], lg []) ⟨rfl, (show (0 : Int) ≤ (0 : Int32).toInt ∧ (0 : Int32).toInt ≤ 15 from (by have z0 : (0 : Int32).toInt = 0 := (by decide); omega)), (show DK0 (σ21 9) from T26), trivial⟩ _ _ _ hP hS (lv_sub hl [0, 1, 2, 3, 4, 5] rfl)
        intro y31 hI30 nl29 H locs ls hP hS hl
        rw [show y31.1 = σ21 from hI30.1] at hP
        have b32 : (0 : Int) ≤ (y31.2.1 0).toInt ∧ (y31.2.1 0).toInt ≤ 15 := hI30.2.1
        have b33 : DK0 (σ21 9) := hI30.2.2.1
        have hl : lv_has ls 9 [(5, .int (y31.2.1 0)), (4, .int (y31.2.1 1)), (0, .ref (g 60)), (1, .int p1), (2, .int p2), (3, .int p3)] := hl
        refine lv_iload hx hb dX9_slurs_46 (lv_at hl 0 rfl) ?_
        refine lv_iconst (v := 1) hx hb dX9_slurs_48 (by decide) ?_
        refine lv_iadd hx hb dX9_slurs_49 ?_
        refine lv_topi (fun x34 ex34 => ?_)
        have t35 := addO ex34 (by have f0 := b32; have g0 := rg32 (y31.2.1 0); have z1 : (1 : Int32).toInt = 1 := (by decide); omega)
        refine lv_aload_n hx hb dX9_slurs_50 rfl (lv_at hl 2 rfl) ?_
        refine g9_31 (x := ((σ21 9).1 31)) hx hb hts hown hK hP (rfl) (hts _ q1391) dX9_slurs_51 ?_
        refine lv_icmp_ge (tgt := 275) hx hb dX9_slurs_54 (by decide) (fun c36 => ?_) (fun c36 => ?_)
        ·
          have k37 := ple32 c36
          refine lv_iload hx hb dX9_slurs_275 (lv_at hl 1 rfl) ?_
          exact W.iret (v := (y31.2.1 1)) hx hb hr (fun tS ht hW => ⟨⟨(y31.2.1 1), σ21, rfl, ⟨Fr.tr (Fr.tr (Fr.rf) (sI_f eσ1) (fN_L rfl)) hF23 (fL_sub rfl), hJ24, trivial⟩, (show va_P D clz (WD9 cy g σ21) tS.heap by rw [ht]; exact hP)⟩, hS.F ht⟩) hS.2.2 dX9_slurs_277
        ·
          have k38 := nle32 c36
          refine lv_aload_n hx hb dX9_slurs_57 rfl (lv_at hl 2 rfl) ?_
          refine lv_iload hx hb dX9_slurs_58 (lv_at hl 0 rfl) ?_
          refine lv_aload_n hx hb dX9_slurs_60 rfl (lv_at hl 2 rfl) ?_
          refine g9_38 hx hb hts hown hK hP (hts _ q1398) dX9_slurs_61 ?_
          refine lv_iload hx hb dX9_slurs_64 (lv_at hl 0 rfl) ?_
          obtain ⟨x39, ex39⟩ : ∃ z, (σ21 9).2.2.1 38 (y31.2.1 0).toInt.toNat = z := ⟨_, rfl⟩
          refine l9_38 (x := x39) hx hb hK hP (vpo (by have f0 := b32; have f1 := t35; have f2 := k38; have f3 := j9_31 hJ24 rfl; have g0 := rg32 (y31.2.1 0); have z1 : (1 : Int32).toInt = 1 := (by decide); omega)) ex39 dX9_slurs_66 ?_
          have t40 := a9_38 hJ24 ex39
          refine lv_aload_n hx hb dX9_slurs_67 rfl (lv_at hl 2 rfl) ?_
          refine g9_38 hx hb hts hown hK hP (hts _ q1398) dX9_slurs_68 ?_
          refine lv_iload hx hb dX9_slurs_71 (lv_at hl 0 rfl) ?_
          refine lv_iconst (v := 1) hx hb dX9_slurs_73 (by decide) ?_
          refine lv_iadd hx hb dX9_slurs_74 ?_
          refine lv_topi (fun x41 ex41 => ?_)
          have t42 := addO ex41 (by have f0 := b32; have f1 := t35; have f2 := t40; have f3 := k38; have f4 := j9_31 hJ24 rfl; have g0 := rg32 (y31.2.1 0); have z1 : (1 : Int32).toInt = 1 := (by decide); omega)
          obtain ⟨x43, ex43⟩ : ∃ z, (σ21 9).2.2.1 38 x41.toInt.toNat = z := ⟨_, rfl⟩
          refine l9_38 (x := x43) hx hb hK hP (vpo (by have f0 := t42; have f1 := b32; have f2 := t35; have f3 := t40; have f4 := k38; have f5 := j9_31 hJ24 rfl; have g0 := rg32 x41; have z1 : (1 : Int32).toInt = 1 := (by decide); omega)) ex43 dX9_slurs_75 ?_
          have t44 := a9_38 hJ24 ex43
          refine va_calli (va_runV (As := [.int (y31.2.1 0), .int x39, .int x43]) (rest := []) ⟨hx, hb, hml, hown, hts⟩ (m_X9_moveBy l D cy g σ21 (y31.2.1 0) x39 x43 _ hJ24 (show (0 : Int) ≤ (y31.2.1 0).toInt ∧ (y31.2.1 0).toInt ≤ 14 from (by have f0 := b32; have f1 := t35; have f2 := t40; have f3 := t42; have f4 := k38; have f5 := t44; have f6 := j9_31 hJ24 rfl; have g0 := rg32 (y31.2.1 0); have z1 : (1 : Int32).toInt = 1 := (by decide); omega)) (show (0 : Int) ≤ x39.toInt ∧ x39.toInt ≤ 87 from (by have f0 := b32; have f1 := t35; have f2 := t40; have f3 := t42; have f4 := k38; have f5 := t44; have f6 := j9_31 hJ24 rfl; have g0 := rg32 (y31.2.1 0); have g1 := rg32 x39; have z1 : (1 : Int32).toInt = 1 := (by decide); omega)) (show (0 : Int) ≤ x43.toInt ∧ x43.toInt ≤ 87 from (by have f0 := b32; have f1 := t35; have f2 := t40; have f3 := t42; have f4 := t44; have f5 := k38; have f6 := j9_31 hJ24 rfl; have g0 := rg32 (y31.2.1 0); have g1 := rg32 x39; have g2 := rg32 x43; have z1 : (1 : Int32).toInt = 1 := (by decide); omega))) (cwV 3 hts (gd_V q1862 q1864 q97 q134 q1865) rfl rfl rfl (by decide +kernel) ⟨Nat.le_of_ble_eq_true rfl, Nat.le_of_ble_eq_true rfl⟩) (pv9 hP hK hD hC hS (va_recv hK hP (ci := 9) (q0 := 0) rfl rfl)) rfl rfl hl.1 rfl (lv_room (Nat.le_of_ble_eq_true rfl)) dX9_slurs_76 ⟨Nat.le_of_ble_eq_true rfl, Nat.le_of_ble_eq_true rfl⟩) hS (fun q _ h => up9 hS q h) (up9 hS) (fun r45 σ46 tS H1 locs ht hvm hw47 hB hz1 hk1 hS => ?_)
          have hP : va_P D clz (WD9 cy g σ46) H1 := by rw [← ht]; exact hB
          clear hB hz1 hk1 hvm ht
          generalize H1 = H at hP hS ⊢
          have hw47E : σ21 = σ46 := (hw47.1).symm
          subst hw47E
          have b48 : r45 = mvW (σ21 9) (y31.2.1 0).toInt.toNat x39.toInt.toNat x43.toInt.toNat := hw47.2.1
          refine cut9 (D := D) (cy := cy) (g := g) (A := A9 cy g s.heap.size) (H0 := s.heap) 9 87 (fun x : LZ => [(5, .int (y31.2.1 0)), (4, .int (y31.2.1 1)), (0, .ref (g 60)), (1, .int p1), (2, .int p2), (3, .int p3)]) (fun x : LZ => [.int (x.2.1 0)]) (fun x : LZ => (x.1 = σ21) ∧ ((0 : Int) ≤ (x.2.1 0).toInt ∧ (x.2.1 0).toInt ≤ 1) ∧ (DK0 (σ21 9)) ∧ True) ?_ ?_
          ·
            intro y51 hI50 H locs ls hP hS hl
            rw [show y51.1 = σ21 from hI50.1] at hP
            have b52 : (0 : Int) ≤ (y51.2.1 0).toInt ∧ (y51.2.1 0).toInt ≤ 1 := hI50.2.1
            have b53 : DK0 (σ21 9) := hI50.2.2.1
            have hl : lv_has ls 9 [(5, .int (y31.2.1 0)), (4, .int (y31.2.1 1)), (0, .ref (g 60)), (1, .int p1), (2, .int p2), (3, .int p3)] := hl
            refine W.eq (g2 := F0 m 87 ls [.int (y51.2.1 0)]) rfl ?_
            refine lv_istore (lv' := [(6, .int (y51.2.1 0)), (5, .int (y31.2.1 0)), (4, .int (y31.2.1 1)), (0, .ref (g 60)), (1, .int p1), (2, .int p2), (3, .int p3)]) hx hb dX9_slurs_87 hl (by decide) rfl (fun ls hl => ?_)
            refine lv_aload_n hx hb dX9_slurs_89 rfl (lv_at hl 3 rfl) ?_
            refine g9_25 hx hb hts hown hK hP (hts _ q1385) dX9_slurs_90 ?_
            refine lv_bipush (v := 88) hx hb dX9_slurs_93 (by decide) ?_
            refine lv_iload hx hb dX9_slurs_95 (lv_at hl 1 rfl) ?_
            refine lv_imul hx hb dX9_slurs_97 ?_
            refine lv_topi (fun x54 ex54 => ?_)
            have t55 := mulC' (n := 88) ex54 (by decide) (by have f0 := b32; have f1 := t35; have f2 := t40; have f3 := t42; have f4 := k38; have f5 := t44; have f6 := j9_31 hJ24 rfl; have g0 := rg32 (y31.2.1 0); have z1 : (1 : Int32).toInt = 1 := (by decide); omega)
            refine lv_aload_n hx hb dX9_slurs_98 rfl (lv_at hl 3 rfl) ?_
            refine g9_38 hx hb hts hown hK hP (hts _ q1398) dX9_slurs_99 ?_
            refine lv_iload hx hb dX9_slurs_102 (lv_at hl 1 rfl) ?_
            refine l9_38 (x := x39) hx hb hK hP (vpo (by have f0 := b32; have f1 := t35; have f2 := t40; have f3 := t42; have f4 := t55; have f5 := k38; have f6 := t44; have f7 := j9_31 hJ24 rfl; have g0 := rg32 (y31.2.1 0); have z1 : (1 : Int32).toInt = 1 := (by decide); omega)) ex39 dX9_slurs_104 ?_
            refine lv_iadd hx hb dX9_slurs_105 ?_
            refine lv_topi (fun x56 ex56 => ?_)
            have t57 := addO ex56 (by have f0 := t40; have f1 := t55; have f2 := b32; have f3 := t35; have f4 := t42; have f5 := k38; have f6 := t44; have f7 := j9_31 hJ24 rfl; have g0 := rg32 x39; have g1 := rg32 x54; have z1 : (1 : Int32).toInt = 1 := (by decide); omega)
            obtain ⟨x58, ex58⟩ : ∃ z, (σ21 9).2.2.1 25 x56.toInt.toNat = z := ⟨_, rfl⟩
            refine l9_25 (x := x58) hx hb hK hP (vpo (by have f0 := t57; have f1 := t40; have f2 := t55; have f3 := b32; have f4 := t35; have f5 := t42; have f6 := k38; have f7 := t44; have f8 := j9_31 hJ24 rfl; have g0 := rg32 x56; have z1 : (1 : Int32).toInt = 1 := (by decide); omega)) ex58 dX9_slurs_106 ?_
            refine lv_aload_n hx hb dX9_slurs_107 rfl (lv_at hl 3 rfl) ?_
            refine g9_25 hx hb hts hown hK hP (hts _ q1385) dX9_slurs_108 ?_
            refine lv_bipush (v := 88) hx hb dX9_slurs_111 (by decide) ?_
            refine lv_iload hx hb dX9_slurs_113 (lv_at hl 1 rfl) ?_
            refine lv_iconst (v := 1) hx hb dX9_slurs_115 (by decide) ?_
            refine lv_iadd hx hb dX9_slurs_116 ?_
            refine lv_topi (fun x59 ex59 => ?_)
            have t60 := addO ex59 (by have f0 := b32; have f1 := t35; have f2 := t40; have f3 := t42; have f4 := t55; have f5 := k38; have f6 := t44; have f7 := t57; have f8 := j9_31 hJ24 rfl; have g0 := rg32 (y31.2.1 0); have z1 : (1 : Int32).toInt = 1 := (by decide); omega)
            refine lv_imul hx hb dX9_slurs_117 ?_
            refine lv_topi (fun x61 ex61 => ?_)
            have t62 := mulC' (n := 88) ex61 (by decide) (by have f0 := t60; have f1 := b32; have f2 := t35; have f3 := t40; have f4 := t42; have f5 := t55; have f6 := k38; have f7 := t44; have f8 := t57; have f9 := j9_31 hJ24 rfl; have g0 := rg32 x59; have z1 : (1 : Int32).toInt = 1 := (by decide); omega)
            refine lv_aload_n hx hb dX9_slurs_118 rfl (lv_at hl 3 rfl) ?_
            refine g9_38 hx hb hts hown hK hP (hts _ q1398) dX9_slurs_119 ?_
            refine lv_iload hx hb dX9_slurs_122 (lv_at hl 1 rfl) ?_
            refine lv_iconst (v := 1) hx hb dX9_slurs_124 (by decide) ?_
            refine lv_iadd hx hb dX9_slurs_125 ?_
            refine lv_topi (fun x63 ex63 => ?_)
            have t64 := addO ex63 (by have f0 := b32; have f1 := t35; have f2 := t40; have f3 := t42; have f4 := t55; have f5 := t60; have f6 := k38; have f7 := t44; have f8 := t57; have f9 := t62; have f10 := j9_31 hJ24 rfl; have g0 := rg32 (y31.2.1 0); have z1 : (1 : Int32).toInt = 1 := (by decide); omega)
            obtain ⟨x65, ex65⟩ : ∃ z, (σ21 9).2.2.1 38 x63.toInt.toNat = z := ⟨_, rfl⟩
            refine l9_38 (x := x65) hx hb hK hP (vpo (by have f0 := t64; have f1 := b32; have f2 := t35; have f3 := t40; have f4 := t42; have f5 := t55; have f6 := t60; have f7 := k38; have f8 := t44; have f9 := t57; have f10 := t62; have f11 := j9_31 hJ24 rfl; have g0 := rg32 x63; have z1 : (1 : Int32).toInt = 1 := (by decide); omega)) ex65 dX9_slurs_126 ?_
            have t66 := a9_38 hJ24 ex65
            refine lv_iadd hx hb dX9_slurs_127 ?_
            refine lv_topi (fun x67 ex67 => ?_)
            have t68 := addO ex67 (by have f0 := t62; have f1 := t66; have f2 := t60; have f3 := t64; have f4 := b32; have f5 := t35; have f6 := t40; have f7 := t42; have f8 := t55; have f9 := k38; have f10 := t44; have f11 := t57; have f12 := j9_31 hJ24 rfl; have g0 := rg32 x61; have g1 := rg32 x65; have z1 : (1 : Int32).toInt = 1 := (by decide); omega)
            obtain ⟨x69, ex69⟩ : ∃ z, (σ21 9).2.2.1 25 x67.toInt.toNat = z := ⟨_, rfl⟩
            refine l9_25 (x := x69) hx hb hK hP (vpo (by have f0 := t68; have f1 := t62; have f2 := t66; have f3 := t60; have f4 := t64; have f5 := b32; have f6 := t35; have f7 := t40; have f8 := t42; have f9 := t55; have f10 := k38; have f11 := t44; have f12 := t57; have f13 := j9_31 hJ24 rfl; have g0 := rg32 x67; have z1 : (1 : Int32).toInt = 1 := (by decide); omega)) ex69 dX9_slurs_128 ?_
            refine cut9 (D := D) (cy := cy) (g := g) (A := A9 cy g s.heap.size) (H0 := s.heap) 9 137 (fun x : LZ => [(6, .int (y51.2.1 0)), (5, .int (y31.2.1 0)), (4, .int (y31.2.1 1)), (0, .ref (g 60)), (1, .int p1), (2, .int p2), (3, .int p3)]) (fun x : LZ => [.int (x.2.1 0)]) (fun x : LZ => (x.1 = σ21) ∧ ((0 : Int) ≤ (x.2.1 0).toInt ∧ (x.2.1 0).toInt ≤ 1) ∧ (DK0 (σ21 9)) ∧ True) ?_ ?_
            ·
              intro y72 hI71 H locs ls hP hS hl
              rw [show y72.1 = σ21 from hI71.1] at hP
              have b73 : (0 : Int) ≤ (y72.2.1 0).toInt ∧ (y72.2.1 0).toInt ≤ 1 := hI71.2.1
              have b74 : DK0 (σ21 9) := hI71.2.2.1
              have hl : lv_has ls 9 [(6, .int (y51.2.1 0)), (5, .int (y31.2.1 0)), (4, .int (y31.2.1 1)), (0, .ref (g 60)), (1, .int p1), (2, .int p2), (3, .int p3)] := hl
              refine W.eq (g2 := F0 m 137 ls [.int (y72.2.1 0)]) rfl ?_
              refine lv_istore (lv' := [(7, .int (y72.2.1 0)), (6, .int (y51.2.1 0)), (5, .int (y31.2.1 0)), (4, .int (y31.2.1 1)), (0, .ref (g 60)), (1, .int p1), (2, .int p2), (3, .int p3)]) hx hb dX9_slurs_137 hl (by decide) rfl (fun ls hl => ?_)
              refine lv_aload_n hx hb dX9_slurs_139 rfl (lv_at hl 4 rfl) ?_
              refine g9_26 hx hb hts hown hK hP (hts _ q1386) dX9_slurs_140 ?_
              refine lv_bipush (v := 88) hx hb dX9_slurs_143 (by decide) ?_
              refine lv_iload hx hb dX9_slurs_145 (lv_at hl 2 rfl) ?_
              refine lv_imul hx hb dX9_slurs_147 ?_
              refine lv_topi (fun x75 ex75 => ?_)
              have t76 := mulC' (n := 88) ex75 (by decide) (by have f0 := b32; have f1 := t35; have f2 := t40; have f3 := t42; have f4 := t55; have f5 := t60; have f6 := t64; have f7 := k38; have f8 := t44; have f9 := t57; have f10 := t62; have f11 := t66; have f12 := j9_31 hJ24 rfl; have f13 := t68; have g0 := rg32 (y31.2.1 0); have z1 : (1 : Int32).toInt = 1 := (by decide); omega)
              refine lv_aload_n hx hb dX9_slurs_148 rfl (lv_at hl 4 rfl) ?_
              refine g9_38 hx hb hts hown hK hP (hts _ q1398) dX9_slurs_149 ?_
              refine lv_iload hx hb dX9_slurs_152 (lv_at hl 2 rfl) ?_
              refine l9_38 (x := x39) hx hb hK hP (vpo (by have f0 := b32; have f1 := t35; have f2 := t40; have f3 := t42; have f4 := t55; have f5 := t60; have f6 := t64; have f7 := t76; have f8 := k38; have f9 := t44; have f10 := t57; have f11 := t62; have f12 := t66; have f13 := j9_31 hJ24 rfl; have f14 := t68; have g0 := rg32 (y31.2.1 0); have z1 : (1 : Int32).toInt = 1 := (by decide); omega)) ex39 dX9_slurs_154 ?_
              refine lv_iadd hx hb dX9_slurs_155 ?_
              refine lv_topi (fun x77 ex77 => ?_)
              have t78 := addO ex77 (by have f0 := t40; have f1 := t57; have f2 := t76; have f3 := b32; have f4 := t35; have f5 := t42; have f6 := t55; have f7 := t60; have f8 := t64; have f9 := k38; have f10 := t44; have f11 := t62; have f12 := t66; have f13 := j9_31 hJ24 rfl; have f14 := t68; have g0 := rg32 x39; have g1 := rg32 x75; have z1 : (1 : Int32).toInt = 1 := (by decide); omega)
              obtain ⟨x79, ex79⟩ : ∃ z, (σ21 9).2.2.1 26 x77.toInt.toNat = z := ⟨_, rfl⟩
              refine l9_26 (x := x79) hx hb hK hP (vpo (by have f0 := t78; have f1 := t40; have f2 := t57; have f3 := t76; have f4 := b32; have f5 := t35; have f6 := t42; have f7 := t55; have f8 := t60; have f9 := t64; have f10 := k38; have f11 := t44; have f12 := t62; have f13 := t66; have f14 := j9_31 hJ24 rfl; have f15 := t68; have g0 := rg32 x77; have z1 : (1 : Int32).toInt = 1 := (by decide); omega)) ex79 dX9_slurs_156 ?_
              have t80 := a9_26 hJ24 ex79
              refine lv_aload_n hx hb dX9_slurs_157 rfl (lv_at hl 4 rfl) ?_
              refine g9_26 hx hb hts hown hK hP (hts _ q1386) dX9_slurs_158 ?_
              refine lv_bipush (v := 88) hx hb dX9_slurs_161 (by decide) ?_
              refine lv_iload hx hb dX9_slurs_163 (lv_at hl 2 rfl) ?_
              refine lv_iconst (v := 1) hx hb dX9_slurs_165 (by decide) ?_
              refine lv_iadd hx hb dX9_slurs_166 ?_
              refine lv_topi (fun x81 ex81 => ?_)
              have t82 := addO ex81 (by have f0 := b32; have f1 := t35; have f2 := t40; have f3 := t42; have f4 := t55; have f5 := t60; have f6 := t64; have f7 := t76; have f8 := k38; have f9 := t44; have f10 := t57; have f11 := t62; have f12 := t66; have f13 := t78; have f14 := j9_31 hJ24 rfl; have f15 := t68; have f16 := t80; have g0 := rg32 (y31.2.1 0); have z1 : (1 : Int32).toInt = 1 := (by decide); omega)
              refine lv_imul hx hb dX9_slurs_167 ?_
              refine lv_topi (fun x83 ex83 => ?_)
              have t84 := mulC' (n := 88) ex83 (by decide) (by have f0 := t82; have f1 := b32; have f2 := t35; have f3 := t40; have f4 := t42; have f5 := t55; have f6 := t60; have f7 := t64; have f8 := t76; have f9 := k38; have f10 := t44; have f11 := t57; have f12 := t62; have f13 := t66; have f14 := t78; have f15 := j9_31 hJ24 rfl; have f16 := t68; have f17 := t80; have g0 := rg32 x81; have z1 : (1 : Int32).toInt = 1 := (by decide); omega)
              refine lv_aload_n hx hb dX9_slurs_168 rfl (lv_at hl 4 rfl) ?_
              refine g9_38 hx hb hts hown hK hP (hts _ q1398) dX9_slurs_169 ?_
              refine lv_iload hx hb dX9_slurs_172 (lv_at hl 2 rfl) ?_
              refine lv_iconst (v := 1) hx hb dX9_slurs_174 (by decide) ?_
              refine lv_iadd hx hb dX9_slurs_175 ?_
              refine lv_topi (fun x85 ex85 => ?_)
              have t86 := addO ex85 (by have f0 := b32; have f1 := t35; have f2 := t40; have f3 := t42; have f4 := t55; have f5 := t60; have f6 := t64; have f7 := t76; have f8 := t82; have f9 := k38; have f10 := t44; have f11 := t57; have f12 := t62; have f13 := t66; have f14 := t78; have f15 := t84; have f16 := j9_31 hJ24 rfl; have f17 := t68; have f18 := t80; have g0 := rg32 (y31.2.1 0); have z1 : (1 : Int32).toInt = 1 := (by decide); omega)
              obtain ⟨x87, ex87⟩ : ∃ z, (σ21 9).2.2.1 38 x85.toInt.toNat = z := ⟨_, rfl⟩
              refine l9_38 (x := x87) hx hb hK hP (vpo (by have f0 := t86; have f1 := b32; have f2 := t35; have f3 := t40; have f4 := t42; have f5 := t55; have f6 := t60; have f7 := t64; have f8 := t76; have f9 := t82; have f10 := k38; have f11 := t44; have f12 := t57; have f13 := t62; have f14 := t66; have f15 := t78; have f16 := t84; have f17 := j9_31 hJ24 rfl; have f18 := t68; have f19 := t80; have g0 := rg32 x85; have z1 : (1 : Int32).toInt = 1 := (by decide); omega)) ex87 dX9_slurs_176 ?_
              have t88 := a9_38 hJ24 ex87
              refine lv_iadd hx hb dX9_slurs_177 ?_
              refine lv_topi (fun x89 ex89 => ?_)
              have t90 := addO ex89 (by have f0 := t84; have f1 := t88; have f2 := t82; have f3 := t86; have f4 := b32; have f5 := t35; have f6 := t40; have f7 := t42; have f8 := t55; have f9 := t60; have f10 := t64; have f11 := t76; have f12 := k38; have f13 := t44; have f14 := t57; have f15 := t62; have f16 := t66; have f17 := t78; have f18 := j9_31 hJ24 rfl; have f19 := t68; have f20 := t80; have g0 := rg32 x83; have g1 := rg32 x87; have z1 : (1 : Int32).toInt = 1 := (by decide); omega)
              obtain ⟨x91, ex91⟩ : ∃ z, (σ21 9).2.2.1 26 x89.toInt.toNat = z := ⟨_, rfl⟩
              refine l9_26 (x := x91) hx hb hK hP (vpo (by have f0 := t90; have f1 := t84; have f2 := t88; have f3 := t82; have f4 := t86; have f5 := b32; have f6 := t35; have f7 := t40; have f8 := t42; have f9 := t55; have f10 := t60; have f11 := t64; have f12 := t76; have f13 := k38; have f14 := t44; have f15 := t57; have f16 := t62; have f17 := t66; have f18 := t78; have f19 := j9_31 hJ24 rfl; have f20 := t68; have f21 := t80; have g0 := rg32 x89; have z1 : (1 : Int32).toInt = 1 := (by decide); omega)) ex91 dX9_slurs_178 ?_
              have t92 := a9_26 hJ24 ex91
              refine cut9 (D := D) (cy := cy) (g := g) (A := A9 cy g s.heap.size) (H0 := s.heap) 9 187 (fun x : LZ => [(7, .int (y72.2.1 0)), (6, .int (y51.2.1 0)), (5, .int (y31.2.1 0)), (4, .int (y31.2.1 1)), (0, .ref (g 60)), (1, .int p1), (2, .int p2), (3, .int p3)]) (fun x : LZ => [.int (x.2.1 0)]) (fun x : LZ => (x.1 = σ21) ∧ ((0 : Int) ≤ (x.2.1 0).toInt ∧ (x.2.1 0).toInt ≤ 1) ∧ (DK0 (σ21 9)) ∧ True) ?_ ?_
              ·
                intro y95 hI94 H locs ls hP hS hl
                rw [show y95.1 = σ21 from hI94.1] at hP
                have b96 : (0 : Int) ≤ (y95.2.1 0).toInt ∧ (y95.2.1 0).toInt ≤ 1 := hI94.2.1
                have b97 : DK0 (σ21 9) := hI94.2.2.1
                have hl : lv_has ls 9 [(7, .int (y72.2.1 0)), (6, .int (y51.2.1 0)), (5, .int (y31.2.1 0)), (4, .int (y31.2.1 1)), (0, .ref (g 60)), (1, .int p1), (2, .int p2), (3, .int p3)] := hl
                refine W.eq (g2 := F0 m 187 ls [.int (y95.2.1 0)]) rfl ?_
                refine lv_istore (lv' := [(8, .int (y95.2.1 0)), (7, .int (y72.2.1 0)), (6, .int (y51.2.1 0)), (5, .int (y31.2.1 0)), (4, .int (y31.2.1 1)), (0, .ref (g 60)), (1, .int p1), (2, .int p2), (3, .int p3)]) hx hb dX9_slurs_187 hl (by decide) rfl (fun ls hl => ?_)
                refine lv_iload hx hb dX9_slurs_189 (lv_at hl 4 rfl) ?_
                refine lv_iload_n hx hb dX9_slurs_191 rfl (lv_at hl 8 rfl) ?_
                refine cut9 (D := D) (cy := cy) (g := g) (A := A9 cy g s.heap.size) (H0 := s.heap) 9 266 (fun x : LZ => [(8, .int (y95.2.1 0)), (7, .int (y72.2.1 0)), (6, .int (y51.2.1 0)), (5, .int (y31.2.1 0)), (4, .int (y31.2.1 1)), (0, .ref (g 60)), (1, .int p1), (2, .int p2), (3, .int p3)]) (fun x : LZ => [.int (x.2.1 0), .int (y31.2.1 1)]) (fun x : LZ => (x.1 = σ21) ∧ ((0 : Int) ≤ (x.2.1 0).toInt ∧ (x.2.1 0).toInt ≤ 1) ∧ (DK0 (σ21 9)) ∧ True) ?_ ?_
                ·
                  intro y100 hI99 H locs ls hP hS hl
                  rw [show y100.1 = σ21 from hI99.1] at hP
                  have b101 : (0 : Int) ≤ (y100.2.1 0).toInt ∧ (y100.2.1 0).toInt ≤ 1 := hI99.2.1
                  have b102 : DK0 (σ21 9) := hI99.2.2.1
                  have hl : lv_has ls 9 [(8, .int (y95.2.1 0)), (7, .int (y72.2.1 0)), (6, .int (y51.2.1 0)), (5, .int (y31.2.1 0)), (4, .int (y31.2.1 1)), (0, .ref (g 60)), (1, .int p1), (2, .int p2), (3, .int p3)] := hl
                  refine W.eq (g2 := F0 m 266 ls [.int (y100.2.1 0), .int (y31.2.1 1)]) rfl ?_
                  refine lv_iadd hx hb dX9_slurs_266 ?_
                  refine lv_topi (fun x103 ex103 => ?_)
                  refine lv_istore (lv' := [(4, .int x103), (8, .int (y95.2.1 0)), (7, .int (y72.2.1 0)), (6, .int (y51.2.1 0)), (5, .int (y31.2.1 0)), (0, .ref (g 60)), (1, .int p1), (2, .int p2), (3, .int p3)]) hx hb dX9_slurs_267 hl (by decide) rfl (fun ls hl => ?_)
                  obtain ⟨x104, ex104⟩ : ∃ y : Int32, y = (y31.2.1 0) + 1 := ⟨_, rfl⟩
                  have t105 := addO ex104 (by have f0 := b32; have f1 := t35; have f2 := t40; have f3 := t42; have f4 := t55; have f5 := t60; have f6 := t64; have f7 := t76; have f8 := t82; have f9 := t86; have f10 := k38; have f11 := t44; have f12 := t57; have f13 := t62; have f14 := t66; have f15 := t78; have f16 := t84; have f17 := t88; have f18 := j9_31 hJ24 rfl; have f19 := t68; have f20 := t80; have f21 := t90; have f22 := t92; have g0 := rg32 (y31.2.1 0); have z1 : (1 : Int32).toInt = 1 := (by decide); omega)
                  refine lv_iinc (v := x104) (lv' := [(5, .int x104), (4, .int x103), (8, .int (y95.2.1 0)), (7, .int (y72.2.1 0)), (6, .int (y51.2.1 0)), (0, .ref (g 60)), (1, .int p1), (2, .int p2), (3, .int p3)]) hx hb dX9_slurs_269 hl (k := 4) rfl (by rw [ex104]; rfl) (by decide) rfl (fun ls hl => ?_)
                  refine lv_goto (tgt := 46) hx hb dX9_slurs_272 (by decide) ?_
                  have t106 : ((16 : Int) - x104.toInt).toNat < ((16 : Int) - (y31.2.1 0).toInt).toNat := (by have f0 := b32; have f1 := t35; have f2 := t40; have f3 := t42; have f4 := t55; have f5 := t60; have f6 := t64; have f7 := t76; have f8 := t82; have f9 := t86; have f10 := t105; have f11 := k38; have f12 := t44; have f13 := t57; have f14 := t62; have f15 := t66; have f16 := t78; have f17 := t84; have f18 := t88; have f19 := j9_31 hJ24 rfl; have f20 := t68; have f21 := t80; have f22 := t90; have f23 := t92; have g0 := rg32 (y31.2.1 0); have g1 := rg32 x104; have z1 : (1 : Int32).toInt = 1 := (by decide); omega)
                  exact nl29 (σ21, lf [x104, x103], lg []) ⟨rfl, (show (0 : Int) ≤ (x104 : Int32).toInt ∧ (x104 : Int32).toInt ≤ 15 from (by have f0 := t105; have f1 := b32; have f2 := t35; have f3 := t40; have f4 := t42; have f5 := t55; have f6 := t60; have f7 := t64; have f8 := t76; have f9 := t82; have f10 := t86; have f11 := k38; have f12 := t44; have f13 := t57; have f14 := t62; have f15 := t66; have f16 := t78; have f17 := t84; have f18 := t88; have f19 := j9_31 hJ24 rfl; have f20 := t68; have f21 := t80; have f22 := t90; have f23 := t92; have g0 := rg32 x104; have z1 : (1 : Int32).toInt = 1 := (by decide); omega)), (show DK0 (σ21 9) from b102), trivial⟩ (show ((16 : Int) - x104.toInt).toNat < _ from t106) _ _ _ hP hS (lv_sub hl [0, 1, 5, 6, 7, 8] rfl)
                ·
                  intro nj98
                  refine lv_if_ne (tgt := 223) hx hb dX9_slurs_192 (by decide) (fun c107 => ?_) (fun c107 => ?_)
                  ·
                    have k108 := neq32 c107
                    refine lv_iload_n hx hb dX9_slurs_223 rfl (lv_at hl 8 rfl) ?_
                    refine lv_iconst (v := 1) hx hb dX9_slurs_224 (by decide) ?_
                    refine lv_icmp_ne (tgt := 256) hx hb dX9_slurs_225 (by decide) (fun c109 => ?_) (fun c109 => ?_)
                    ·
                      have k110 := neq32 c109
                      refine lv_iload hx hb dX9_slurs_256 (lv_at hl 2 rfl) ?_
                      refine lv_if_eq (tgt := 265) hx hb dX9_slurs_258 (by decide) (fun c111 => ?_) (fun c111 => ?_)
                      ·
                        have k112 := peq32 c111
                        refine lv_iconst (v := 0) hx hb dX9_slurs_265 (by decide) ?_
                        exact nj98 (σ21, lf [0], lg []) ⟨rfl, (show (0 : Int) ≤ (0 : Int32).toInt ∧ (0 : Int32).toInt ≤ 1 from (by have z0 : (0 : Int32).toInt = 0 := (by decide); omega)), (show DK0 (σ21 9) from b97), trivial⟩ _ _ _ hP hS (lv_sub hl [0, 1, 2, 3, 4, 5, 6, 7, 8] rfl)
                      ·
                        have k113 := neq32 c111
                        refine lv_iconst (v := 1) hx hb dX9_slurs_261 (by decide) ?_
                        refine lv_goto (tgt := 266) hx hb dX9_slurs_262 (by decide) ?_
                        exact nj98 (σ21, lf [1], lg []) ⟨rfl, (show (0 : Int) ≤ (1 : Int32).toInt ∧ (1 : Int32).toInt ≤ 1 from (by have z1 : (1 : Int32).toInt = 1 := (by decide); omega)), (show DK0 (σ21 9) from b97), trivial⟩ _ _ _ hP hS (lv_sub hl [0, 1, 2, 3, 4, 5, 6, 7, 8] rfl)
                    ·
                      have k114 := peq32 c109
                      refine lv_aload_n hx hb dX9_slurs_228 rfl (lv_at hl 5 rfl) ?_
                      refine g9_34 hx hb hts hown hK hP (hts _ q1394) dX9_slurs_229 ?_
                      refine lv_iload hx hb dX9_slurs_232 (lv_at hl 3 rfl) ?_
                      obtain ⟨x115, ex115⟩ : ∃ z, (σ21 9).2.2.1 34 (y31.2.1 0).toInt.toNat = z := ⟨_, rfl⟩
                      refine l9_34 (x := x115) hx hb hK hP (vpo (by have f0 := b32; have f1 := t35; have f2 := t40; have f3 := t42; have f4 := t55; have f5 := t60; have f6 := t64; have f7 := t76; have f8 := t82; have f9 := t86; have f10 := k38; have f11 := t44; have f12 := t57; have f13 := t62; have f14 := t66; have f15 := t78; have f16 := t84; have f17 := t88; have f18 := j9_31 hJ24 rfl; have f19 := t68; have f20 := t80; have f21 := t90; have f22 := t92; have g0 := rg32 (y31.2.1 0); have z1 : (1 : Int32).toInt = 1 := (by decide); omega)) ex115 dX9_slurs_234 ?_
                      refine cut9 (D := D) (cy := cy) (g := g) (A := A9 cy g s.heap.size) (H0 := s.heap) 9 252 (fun x : LZ => [(8, .int (y95.2.1 0)), (7, .int (y72.2.1 0)), (6, .int (y51.2.1 0)), (5, .int (y31.2.1 0)), (4, .int (y31.2.1 1)), (0, .ref (g 60)), (1, .int p1), (2, .int p2), (3, .int p3)]) (fun x : LZ => [.int (y31.2.1 1)]) (fun x : LZ => (x.1 = σ21) ∧ (DK0 (σ21 9)) ∧ True) ?_ ?_
                      ·
                        intro y118 hI117 H locs ls hP hS hl
                        rw [show y118.1 = σ21 from hI117.1] at hP
                        have b119 : DK0 (σ21 9) := hI117.2.1
                        have hl : lv_has ls 9 [(8, .int (y95.2.1 0)), (7, .int (y72.2.1 0)), (6, .int (y51.2.1 0)), (5, .int (y31.2.1 0)), (4, .int (y31.2.1 1)), (0, .ref (g 60)), (1, .int p1), (2, .int p2), (3, .int p3)] := hl
                        refine W.eq (g2 := F0 m 252 ls [.int (y31.2.1 1)]) rfl ?_
                        refine lv_iconst (v := 0) hx hb dX9_slurs_252 (by decide) ?_
                        refine lv_goto (tgt := 266) hx hb dX9_slurs_253 (by decide) ?_
                        exact nj98 (σ21, lf [0], lg []) ⟨rfl, (show (0 : Int) ≤ (0 : Int32).toInt ∧ (0 : Int32).toInt ≤ 1 from (by have z0 : (0 : Int32).toInt = 0 := (by decide); omega)), (show DK0 (σ21 9) from b119), trivial⟩ _ _ _ hP hS (lv_sub hl [0, 1, 2, 3, 4, 5, 6, 7, 8] rfl)
                      ·
                        intro nj116
                        refine lv_if_eq (tgt := 252) hx hb dX9_slurs_235 (by decide) (fun c120 => ?_) (fun c120 => ?_)
                        ·
                          have k121 := peq32 c120
                          exact nj116 (σ21, lf [], lg []) ⟨rfl, (show DK0 (σ21 9) from b97), trivial⟩ _ _ _ hP hS (lv_sub hl [0, 1, 2, 3, 4, 5, 6, 7, 8] rfl)
                        ·
                          have k122 := neq32 c120
                          refine lv_iload hx hb dX9_slurs_238 (lv_at hl 1 rfl) ?_
                          refine lv_if_ne (tgt := 252) hx hb dX9_slurs_240 (by decide) (fun c123 => ?_) (fun c123 => ?_)
                          ·
                            have k124 := neq32 c123
                            exact nj116 (σ21, lf [], lg []) ⟨rfl, (show DK0 (σ21 9) from b97), trivial⟩ _ _ _ hP hS (lv_sub hl [0, 1, 2, 3, 4, 5, 6, 7, 8] rfl)
                          ·
                            have k125 := peq32 c123
                            refine lv_iload hx hb dX9_slurs_243 (lv_at hl 0 rfl) ?_
                            refine lv_if_eq (tgt := 252) hx hb dX9_slurs_245 (by decide) (fun c126 => ?_) (fun c126 => ?_)
                            ·
                              have k127 := peq32 c126
                              exact nj116 (σ21, lf [], lg []) ⟨rfl, (show DK0 (σ21 9) from b97), trivial⟩ _ _ _ hP hS (lv_sub hl [0, 1, 2, 3, 4, 5, 6, 7, 8] rfl)
                            ·
                              have k128 := neq32 c126
                              refine lv_iconst (v := 1) hx hb dX9_slurs_248 (by decide) ?_
                              refine lv_goto (tgt := 266) hx hb dX9_slurs_249 (by decide) ?_
                              exact nj98 (σ21, lf [1], lg []) ⟨rfl, (show (0 : Int) ≤ (1 : Int32).toInt ∧ (1 : Int32).toInt ≤ 1 from (by have z1 : (1 : Int32).toInt = 1 := (by decide); omega)), (show DK0 (σ21 9) from b97), trivial⟩ _ _ _ hP hS (lv_sub hl [0, 1, 2, 3, 4, 5, 6, 7, 8] rfl)
                  ·
                    have k129 := peq32 c107
                    refine lv_aload_n hx hb dX9_slurs_195 rfl (lv_at hl 5 rfl) ?_
                    refine g9_34 hx hb hts hown hK hP (hts _ q1394) dX9_slurs_196 ?_
                    refine lv_iload hx hb dX9_slurs_199 (lv_at hl 3 rfl) ?_
                    obtain ⟨x130, ex130⟩ : ∃ z, (σ21 9).2.2.1 34 (y31.2.1 0).toInt.toNat = z := ⟨_, rfl⟩
                    refine l9_34 (x := x130) hx hb hK hP (vpo (by have f0 := b32; have f1 := t35; have f2 := t40; have f3 := t42; have f4 := t55; have f5 := t60; have f6 := t64; have f7 := t76; have f8 := t82; have f9 := t86; have f10 := k38; have f11 := t44; have f12 := t57; have f13 := t62; have f14 := t66; have f15 := t78; have f16 := t84; have f17 := t88; have f18 := j9_31 hJ24 rfl; have f19 := t68; have f20 := t80; have f21 := t90; have f22 := t92; have g0 := rg32 (y31.2.1 0); have z1 : (1 : Int32).toInt = 1 := (by decide); omega)) ex130 dX9_slurs_201 ?_
                    refine cut9 (D := D) (cy := cy) (g := g) (A := A9 cy g s.heap.size) (H0 := s.heap) 9 219 (fun x : LZ => [(8, .int (y95.2.1 0)), (7, .int (y72.2.1 0)), (6, .int (y51.2.1 0)), (5, .int (y31.2.1 0)), (4, .int (y31.2.1 1)), (0, .ref (g 60)), (1, .int p1), (2, .int p2), (3, .int p3)]) (fun x : LZ => [.int (y31.2.1 1)]) (fun x : LZ => (x.1 = σ21) ∧ (DK0 (σ21 9)) ∧ True) ?_ ?_
                    ·
                      intro y133 hI132 H locs ls hP hS hl
                      rw [show y133.1 = σ21 from hI132.1] at hP
                      have b134 : DK0 (σ21 9) := hI132.2.1
                      have hl : lv_has ls 9 [(8, .int (y95.2.1 0)), (7, .int (y72.2.1 0)), (6, .int (y51.2.1 0)), (5, .int (y31.2.1 0)), (4, .int (y31.2.1 1)), (0, .ref (g 60)), (1, .int p1), (2, .int p2), (3, .int p3)] := hl
                      refine W.eq (g2 := F0 m 219 ls [.int (y31.2.1 1)]) rfl ?_
                      refine lv_iconst (v := 0) hx hb dX9_slurs_219 (by decide) ?_
                      refine lv_goto (tgt := 266) hx hb dX9_slurs_220 (by decide) ?_
                      exact nj98 (σ21, lf [0], lg []) ⟨rfl, (show (0 : Int) ≤ (0 : Int32).toInt ∧ (0 : Int32).toInt ≤ 1 from (by have z0 : (0 : Int32).toInt = 0 := (by decide); omega)), (show DK0 (σ21 9) from b134), trivial⟩ _ _ _ hP hS (lv_sub hl [0, 1, 2, 3, 4, 5, 6, 7, 8] rfl)
                    ·
                      intro nj131
                      refine lv_if_eq (tgt := 219) hx hb dX9_slurs_202 (by decide) (fun c135 => ?_) (fun c135 => ?_)
                      ·
                        have k136 := peq32 c135
                        exact nj131 (σ21, lf [], lg []) ⟨rfl, (show DK0 (σ21 9) from b97), trivial⟩ _ _ _ hP hS (lv_sub hl [0, 1, 2, 3, 4, 5, 6, 7, 8] rfl)
                      ·
                        have k137 := neq32 c135
                        refine lv_iload hx hb dX9_slurs_205 (lv_at hl 1 rfl) ?_
                        refine lv_if_eq (tgt := 219) hx hb dX9_slurs_207 (by decide) (fun c138 => ?_) (fun c138 => ?_)
                        ·
                          have k139 := peq32 c138
                          exact nj131 (σ21, lf [], lg []) ⟨rfl, (show DK0 (σ21 9) from b97), trivial⟩ _ _ _ hP hS (lv_sub hl [0, 1, 2, 3, 4, 5, 6, 7, 8] rfl)
                        ·
                          have k140 := neq32 c138
                          refine lv_iload hx hb dX9_slurs_210 (lv_at hl 2 rfl) ?_
                          refine lv_if_eq (tgt := 219) hx hb dX9_slurs_212 (by decide) (fun c141 => ?_) (fun c141 => ?_)
                          ·
                            have k142 := peq32 c141
                            exact nj131 (σ21, lf [], lg []) ⟨rfl, (show DK0 (σ21 9) from b97), trivial⟩ _ _ _ hP hS (lv_sub hl [0, 1, 2, 3, 4, 5, 6, 7, 8] rfl)
                          ·
                            have k143 := neq32 c141
                            refine lv_iconst (v := 1) hx hb dX9_slurs_215 (by decide) ?_
                            refine lv_goto (tgt := 266) hx hb dX9_slurs_216 (by decide) ?_
                            exact nj98 (σ21, lf [1], lg []) ⟨rfl, (show (0 : Int) ≤ (1 : Int32).toInt ∧ (1 : Int32).toInt ≤ 1 from (by have z1 : (1 : Int32).toInt = 1 := (by decide); omega)), (show DK0 (σ21 9) from b97), trivial⟩ _ _ _ hP hS (lv_sub hl [0, 1, 2, 3, 4, 5, 6, 7, 8] rfl)
              ·
                intro nj93
                refine lv_icmp_ne (tgt := 186) hx hb dX9_slurs_179 (by decide) (fun c144 => ?_) (fun c144 => ?_)
                ·
                  have k145 := neq32 c144
                  refine lv_iconst (v := 0) hx hb dX9_slurs_186 (by decide) ?_
                  exact nj93 (σ21, lf [0], lg []) ⟨rfl, (show (0 : Int) ≤ (0 : Int32).toInt ∧ (0 : Int32).toInt ≤ 1 from (by have z0 : (0 : Int32).toInt = 0 := (by decide); omega)), (show DK0 (σ21 9) from b74), trivial⟩ _ _ _ hP hS (lv_sub hl [0, 1, 2, 3, 4, 5, 6, 7] rfl)
                ·
                  have k146 := peq32 c144
                  refine lv_iconst (v := 1) hx hb dX9_slurs_182 (by decide) ?_
                  refine lv_goto (tgt := 187) hx hb dX9_slurs_183 (by decide) ?_
                  exact nj93 (σ21, lf [1], lg []) ⟨rfl, (show (0 : Int) ≤ (1 : Int32).toInt ∧ (1 : Int32).toInt ≤ 1 from (by have z1 : (1 : Int32).toInt = 1 := (by decide); omega)), (show DK0 (σ21 9) from b74), trivial⟩ _ _ _ hP hS (lv_sub hl [0, 1, 2, 3, 4, 5, 6, 7] rfl)
            ·
              intro nj70
              refine lv_icmp_ne (tgt := 136) hx hb dX9_slurs_129 (by decide) (fun c147 => ?_) (fun c147 => ?_)
              ·
                have k148 := neq32 c147
                refine lv_iconst (v := 0) hx hb dX9_slurs_136 (by decide) ?_
                exact nj70 (σ21, lf [0], lg []) ⟨rfl, (show (0 : Int) ≤ (0 : Int32).toInt ∧ (0 : Int32).toInt ≤ 1 from (by have z0 : (0 : Int32).toInt = 0 := (by decide); omega)), (show DK0 (σ21 9) from b53), trivial⟩ _ _ _ hP hS (lv_sub hl [0, 1, 2, 3, 4, 5, 6] rfl)
              ·
                have k149 := peq32 c147
                refine lv_iconst (v := 1) hx hb dX9_slurs_132 (by decide) ?_
                refine lv_goto (tgt := 137) hx hb dX9_slurs_133 (by decide) ?_
                exact nj70 (σ21, lf [1], lg []) ⟨rfl, (show (0 : Int) ≤ (1 : Int32).toInt ∧ (1 : Int32).toInt ≤ 1 from (by have z1 : (1 : Int32).toInt = 1 := (by decide); omega)), (show DK0 (σ21 9) from b53), trivial⟩ _ _ _ hP hS (lv_sub hl [0, 1, 2, 3, 4, 5, 6] rfl)
          ·
            intro nj49
            refine lv_if_le (tgt := 86) hx hb dX9_slurs_79 (by decide) (fun c150 => ?_) (fun c150 => ?_)
            ·
              have k151 := ple32 c150
              refine lv_iconst (v := 0) hx hb dX9_slurs_86 (by decide) ?_
              exact nj49 (σ21, lf [0], lg []) ⟨rfl, (show (0 : Int) ≤ (0 : Int32).toInt ∧ (0 : Int32).toInt ≤ 1 from (by have z0 : (0 : Int32).toInt = 0 := (by decide); omega)), (show DK0 (σ21 9) from b33), trivial⟩ _ _ _ hP hS (lv_sub hl [0, 1, 2, 3, 4, 5] rfl)
            ·
              have k152 := nle32 c150
              refine lv_iconst (v := 1) hx hb dX9_slurs_82 (by decide) ?_
              refine lv_goto (tgt := 87) hx hb dX9_slurs_83 (by decide) ?_
              exact nj49 (σ21, lf [1], lg []) ⟨rfl, (show (0 : Int) ≤ (1 : Int32).toInt ∧ (1 : Int32).toInt ≤ 1 from (by have z1 : (1 : Int32).toInt = 1 := (by decide); omega)), (show DK0 (σ21 9) from b33), trivial⟩ _ _ _ hP hS (lv_sub hl [0, 1, 2, 3, 4, 5] rfl)
      ·
        have k153 := peq32 c27
        refine lv_iconst (v := (-1)) hx hb dX9_slurs_38 (by decide) ?_
        exact W.iret (v := (-1)) hx hb hr (fun tS ht hW => ⟨⟨(-1), σ21, rfl, ⟨Fr.tr (Fr.tr (Fr.rf) (sI_f eσ1) (fN_L rfl)) hF23 (fL_sub rfl), hJ24, trivial⟩, (show va_P D clz (WD9 cy g σ21) tS.heap by rw [ht]; exact hP)⟩, hS.F ht⟩) hS.2.2 dX9_slurs_39
    ·
      have k154 := peq32 c18
      refine lv_bipush (v := (-2)) hx hb dX9_slurs_26 (by decide) ?_
      exact W.iret (v := (-2)) hx hb hr (fun tS ht hW => ⟨⟨(-2), σ1, rfl, ⟨Fr.tr (Fr.rf) (sI_f eσ1) (fN_L rfl), hJ2, trivial⟩, (show va_P D clz (WD9 cy g σ1) tS.heap by rw [ht]; exact hP)⟩, hS.F ht⟩) hS.2.2 dX9_slurs_28

theorem q1899 : Cond.code yX9_comesTo cX9_comesTo 6 (some .boolean) ∈ lw_g := lw_gm (List.mem_of_getElem? (i := 1899) (by decide +kernel)) rfl
theorem q1402 : Cond.fieldLink RX9 86 "LipsAndSlidesModel" "isCome" "[Z" ∈ lw_g := lw_gm (List.mem_of_getElem? (i := 1402) (by decide +kernel)) rfl
theorem dX9_comesTo_0 : decode cX9_comesTo 0 = .ok (.iconst 0, 1) := by decide +kernel
theorem dX9_comesTo_1 : decode cX9_comesTo 1 = .ok (.istore_n 2, 1) := by decide +kernel
theorem dX9_comesTo_2 : decode cX9_comesTo 2 = .ok (.iconst 0, 1) := by decide +kernel
theorem dX9_comesTo_3 : decode cX9_comesTo 3 = .ok (.istore_n 3, 1) := by decide +kernel
theorem dX9_comesTo_4 : decode cX9_comesTo 4 = .ok (.iload_n 3, 1) := by decide +kernel
theorem dX9_comesTo_5 : decode cX9_comesTo 5 = .ok (.aload_n 0, 1) := by decide +kernel
theorem dX9_comesTo_6 : decode cX9_comesTo 6 = .ok (.getfield 53, 3) := by decide +kernel
theorem dX9_comesTo_9 : decode cX9_comesTo 9 = .ok (.iload_n 1, 1) := by decide +kernel
theorem dX9_comesTo_10 : decode cX9_comesTo 10 = .ok (.iaload, 1) := by decide +kernel
theorem dX9_comesTo_11 : decode cX9_comesTo 11 = .ok (.if_icmp .ge 116, 3) := by decide +kernel
theorem dX9_comesTo_14 : decode cX9_comesTo 14 = .ok (.iload_n 1, 1) := by decide +kernel
theorem dX9_comesTo_15 : decode cX9_comesTo 15 = .ok (.ifCond .ne 7, 3) := by decide +kernel
theorem dX9_comesTo_18 : decode cX9_comesTo 18 = .ok (.iconst 1, 1) := by decide +kernel
theorem dX9_comesTo_19 : decode cX9_comesTo 19 = .ok (.goto 4, 3) := by decide +kernel
theorem dX9_comesTo_22 : decode cX9_comesTo 22 = .ok (.iconst 0, 1) := by decide +kernel
theorem dX9_comesTo_23 : decode cX9_comesTo 23 = .ok (.istore 4, 2) := by decide +kernel
theorem dX9_comesTo_25 : decode cX9_comesTo 25 = .ok (.iconst 0, 1) := by decide +kernel
theorem dX9_comesTo_26 : decode cX9_comesTo 26 = .ok (.istore 5, 2) := by decide +kernel
theorem dX9_comesTo_28 : decode cX9_comesTo 28 = .ok (.iload_n 1, 1) := by decide +kernel
theorem dX9_comesTo_29 : decode cX9_comesTo 29 = .ok (.ifCond .le 64, 3) := by decide +kernel
theorem dX9_comesTo_32 : decode cX9_comesTo 32 = .ok (.iload 5, 2) := by decide +kernel
theorem dX9_comesTo_34 : decode cX9_comesTo 34 = .ok (.aload_n 0, 1) := by decide +kernel
theorem dX9_comesTo_35 : decode cX9_comesTo 35 = .ok (.getfield 53, 3) := by decide +kernel
theorem dX9_comesTo_38 : decode cX9_comesTo 38 = .ok (.iload_n 1, 1) := by decide +kernel
theorem dX9_comesTo_39 : decode cX9_comesTo 39 = .ok (.iconst 1, 1) := by decide +kernel
theorem dX9_comesTo_40 : decode cX9_comesTo 40 = .ok (.isub, 1) := by decide +kernel
theorem dX9_comesTo_41 : decode cX9_comesTo 41 = .ok (.iaload, 1) := by decide +kernel
theorem dX9_comesTo_42 : decode cX9_comesTo 42 = .ok (.if_icmp .ge 51, 3) := by decide +kernel
theorem dX9_comesTo_45 : decode cX9_comesTo 45 = .ok (.iload 4, 2) := by decide +kernel
theorem dX9_comesTo_47 : decode cX9_comesTo 47 = .ok (.ifCond .ne 46, 3) := by decide +kernel
theorem dX9_comesTo_50 : decode cX9_comesTo 50 = .ok (.aload_n 0, 1) := by decide +kernel
theorem dX9_comesTo_51 : decode cX9_comesTo 51 = .ok (.getfield 86, 3) := by decide +kernel
theorem dX9_comesTo_54 : decode cX9_comesTo 54 = .ok (.bipush 88, 2) := by decide +kernel
theorem dX9_comesTo_56 : decode cX9_comesTo 56 = .ok (.iload_n 1, 1) := by decide +kernel
theorem dX9_comesTo_57 : decode cX9_comesTo 57 = .ok (.iconst 1, 1) := by decide +kernel
theorem dX9_comesTo_58 : decode cX9_comesTo 58 = .ok (.isub, 1) := by decide +kernel
theorem dX9_comesTo_59 : decode cX9_comesTo 59 = .ok (.imul, 1) := by decide +kernel
theorem dX9_comesTo_60 : decode cX9_comesTo 60 = .ok (.iload 5, 2) := by decide +kernel
theorem dX9_comesTo_62 : decode cX9_comesTo 62 = .ok (.iadd, 1) := by decide +kernel
theorem dX9_comesTo_63 : decode cX9_comesTo 63 = .ok (.baload, 1) := by decide +kernel
theorem dX9_comesTo_64 : decode cX9_comesTo 64 = .ok (.ifCond .eq 20, 3) := by decide +kernel
theorem dX9_comesTo_67 : decode cX9_comesTo 67 = .ok (.aload_n 0, 1) := by decide +kernel
theorem dX9_comesTo_68 : decode cX9_comesTo 68 = .ok (.iload_n 1, 1) := by decide +kernel
theorem dX9_comesTo_69 : decode cX9_comesTo 69 = .ok (.iconst 1, 1) := by decide +kernel
theorem dX9_comesTo_70 : decode cX9_comesTo 70 = .ok (.isub, 1) := by decide +kernel
theorem dX9_comesTo_71 : decode cX9_comesTo 71 = .ok (.iload 5, 2) := by decide +kernel
theorem dX9_comesTo_73 : decode cX9_comesTo 73 = .ok (.iload_n 3, 1) := by decide +kernel
theorem dX9_comesTo_74 : decode cX9_comesTo 74 = .ok (.invokevirtual 403, 3) := by decide +kernel
theorem dX9_comesTo_77 : decode cX9_comesTo 77 = .ok (.ifCond .eq 7, 3) := by decide +kernel
theorem dX9_comesTo_80 : decode cX9_comesTo 80 = .ok (.iconst 1, 1) := by decide +kernel
theorem dX9_comesTo_81 : decode cX9_comesTo 81 = .ok (.goto 4, 3) := by decide +kernel
theorem dX9_comesTo_84 : decode cX9_comesTo 84 = .ok (.iconst 0, 1) := by decide +kernel
theorem dX9_comesTo_85 : decode cX9_comesTo 85 = .ok (.istore 4, 2) := by decide +kernel
theorem dX9_comesTo_87 : decode cX9_comesTo 87 = .ok (.iinc 5 1, 3) := by decide +kernel
theorem dX9_comesTo_90 : decode cX9_comesTo 90 = .ok (.goto (-62), 3) := by decide +kernel
theorem dX9_comesTo_93 : decode cX9_comesTo 93 = .ok (.aload_n 0, 1) := by decide +kernel
theorem dX9_comesTo_94 : decode cX9_comesTo 94 = .ok (.getfield 86, 3) := by decide +kernel
theorem dX9_comesTo_97 : decode cX9_comesTo 97 = .ok (.bipush 88, 2) := by decide +kernel
theorem dX9_comesTo_99 : decode cX9_comesTo 99 = .ok (.iload_n 1, 1) := by decide +kernel
theorem dX9_comesTo_100 : decode cX9_comesTo 100 = .ok (.imul, 1) := by decide +kernel
theorem dX9_comesTo_101 : decode cX9_comesTo 101 = .ok (.iload_n 3, 1) := by decide +kernel
theorem dX9_comesTo_102 : decode cX9_comesTo 102 = .ok (.iadd, 1) := by decide +kernel
theorem dX9_comesTo_103 : decode cX9_comesTo 103 = .ok (.iload 4, 2) := by decide +kernel
theorem dX9_comesTo_105 : decode cX9_comesTo 105 = .ok (.bastore, 1) := by decide +kernel
theorem dX9_comesTo_106 : decode cX9_comesTo 106 = .ok (.iload_n 2, 1) := by decide +kernel
theorem dX9_comesTo_107 : decode cX9_comesTo 107 = .ok (.ifCond .ne 8, 3) := by decide +kernel
theorem dX9_comesTo_110 : decode cX9_comesTo 110 = .ok (.iload 4, 2) := by decide +kernel
theorem dX9_comesTo_112 : decode cX9_comesTo 112 = .ok (.ifCond .eq 7, 3) := by decide +kernel
theorem dX9_comesTo_115 : decode cX9_comesTo 115 = .ok (.iconst 1, 1) := by decide +kernel
theorem dX9_comesTo_116 : decode cX9_comesTo 116 = .ok (.goto 4, 3) := by decide +kernel
theorem dX9_comesTo_119 : decode cX9_comesTo 119 = .ok (.iconst 0, 1) := by decide +kernel
theorem dX9_comesTo_120 : decode cX9_comesTo 120 = .ok (.istore_n 2, 1) := by decide +kernel
theorem dX9_comesTo_121 : decode cX9_comesTo 121 = .ok (.iinc 3 1, 3) := by decide +kernel
theorem dX9_comesTo_124 : decode cX9_comesTo 124 = .ok (.goto (-120), 3) := by decide +kernel
theorem dX9_comesTo_127 : decode cX9_comesTo 127 = .ok (.iload_n 2, 1) := by decide +kernel
theorem dX9_comesTo_128 : decode cX9_comesTo 128 = .ok (.ireturn, 1) := by decide +kernel
set_option maxHeartbeats 4000000 in
set_option maxRecDepth 100000 in
theorem m_X9_comesTo (l : Launch) (D : va_G) (cy : Nat → ClassId) (g : Nat → Nat) (σ : ST) (p1 : Int32) (sz : Nat) (hJ : J9 (σ 9)) (h0 : (0 : Int) ≤ p1.toInt ∧ p1.toInt ≤ 15) : Met l yX9_comesTo (ww yX9_comesTo cX9_comesTo 6 (some .boolean)) ({ frames := 5, cells := 0, slots := 0, locals := 320 }) (va_Pc [.ref (g 60), .int p1] (pr9 D cy g σ sz)) (qi9 D cy g sz (fun r τ => Fr (fL [42]) σ τ ∧ J9 (τ 9) ∧ ((0 : Int) ≤ r.toInt ∧ r.toInt ≤ 1) ∧ True)) 0 0 (A9 cy g sz) := by
  refine Met.ofW (cc := cX9_comesTo) (maxL := 6) (ret := (some .boolean)) (by decide) rfl ?_
  intro p e s m args below meth c s₁ B hml hv
  obtain ⟨rfl, hsz, hP, hK, hD0, hC⟩ := hv
  have hx := B.exec
  have hb := B.bytes
  have hr := B.returns
  have hts := hts_g (atoms_spec (ws := ww yX9_comesTo cX9_comesTo 6 (some .boolean)) B.pre)
  have hown : s.vm.findClass RX9 = some m.cls := findClass_of_methodNamed B.named
  have hlocks := B.notSynchronized
  clear B
  subst hsz
  have hD := fun τ => A9_D (sz := s.heap.size) hD0 τ
  clear hD0
  have hS : va_S (A9 cy g s.heap.size) s.heap s.heap [] := va_S.rf
  have hl := lv_entry ([.ref (g 60), .int p1]) (n := 6) (Nat.le_of_ble_eq_true rfl)
  rw [lg_entry_eq]
  generalize (lg_sl ([.ref (g 60), .int p1]) ++ List.replicate (6 - (lg_sl ([.ref (g 60), .int p1])).length) Slot.unset).toArray = ls at hl ⊢
  have hl : lv_has ls 6 [(0, .ref (g 60)), (1, .int p1)] := hl
  refine lv_iconst (v := 0) hx hb dX9_comesTo_0 (by decide) ?_
  refine lv_istore_n (lv' := [(2, .int 0), (0, .ref (g 60)), (1, .int p1)]) hx hb dX9_comesTo_1 rfl hl (by decide) rfl (fun ls hl => ?_)
  refine lv_iconst (v := 0) hx hb dX9_comesTo_2 (by decide) ?_
  refine lv_istore_n (lv' := [(3, .int 0), (2, .int 0), (0, .ref (g 60)), (1, .int p1)]) hx hb dX9_comesTo_3 rfl hl (by decide) rfl (fun ls hl => ?_)
  refine loop9 6 4 (fun x : LZ => [(3, .int (x.2.1 0)), (2, .int (x.2.1 1)), (0, .ref (g 60)), (1, .int p1)]) (fun x : LZ => (Fr (fL [42]) σ x.1) ∧ (J9 (x.1 9)) ∧ ((0 : Int) ≤ (x.2.1 0).toInt ∧ (x.2.1 0).toInt ≤ 88) ∧ ((0 : Int) ≤ (x.2.1 1).toInt ∧ (x.2.1 1).toInt ≤ 1) ∧ True) (fun x : LZ => ((89 : Int) - (x.2.1 0).toInt).toNat) ?_ (σ, lf [0, 0], lg []) ⟨Fr.rf, hJ, (show (0 : Int) ≤ (0 : Int32).toInt ∧ (0 : Int32).toInt ≤ 88 from (by have z0 : (0 : Int32).toInt = 0 := (by decide); omega)), (show (0 : Int) ≤ (0 : Int32).toInt ∧ (0 : Int32).toInt ≤ 1 from (by have z0 : (0 : Int32).toInt = 0 := (by decide); omega)), trivial⟩ _ _ _ hP hS (lv_sub hl [0, 1, 2, 3] rfl)
  intro y3 hI2 nl1 H locs ls hP hS hl
  obtain ⟨σ4, eσ4⟩ : ∃ z, z = y3.1 := ⟨_, rfl⟩
  rw [← eσ4] at hP hI2
  have hF5 : Fr (fL [42]) σ σ4 := hI2.1
  have hJ6 : J9 (σ4 9) := hI2.2.1
  have b7 : (0 : Int) ≤ (y3.2.1 0).toInt ∧ (y3.2.1 0).toInt ≤ 88 := hI2.2.2.1
  have b8 : (0 : Int) ≤ (y3.2.1 1).toInt ∧ (y3.2.1 1).toInt ≤ 1 := hI2.2.2.2.1
  have hl : lv_has ls 6 [(3, .int (y3.2.1 0)), (2, .int (y3.2.1 1)), (0, .ref (g 60)), (1, .int p1)] := hl
  refine lv_iload_n hx hb dX9_comesTo_4 rfl (lv_at hl 0 rfl) ?_
  refine lv_aload_n hx hb dX9_comesTo_5 rfl (lv_at hl 2 rfl) ?_
  refine g9_24 hx hb hts hown hK hP (hts _ q1384) dX9_comesTo_6 ?_
  refine lv_iload_n hx hb dX9_comesTo_9 rfl (lv_at hl 3 rfl) ?_
  obtain ⟨x9, ex9⟩ : ∃ z, (σ 9).2.2.1 24 p1.toInt.toNat = z := ⟨_, rfl⟩
  refine l9_24 (x := x9) hx hb hK hP (vpo (by have f0 := h0; have g0 := rg32 p1; omega)) ((congrFun ((hF5 9 24 rfl).2.2.1) _).trans ex9) dX9_comesTo_10 ?_
  have t10 := a9_24 hJ ex9
  refine lv_icmp_ge (tgt := 127) hx hb dX9_comesTo_11 (by decide) (fun c11 => ?_) (fun c11 => ?_)
  ·
    have k12 := ple32 c11
    refine lv_iload_n hx hb dX9_comesTo_127 rfl (lv_at hl 1 rfl) ?_
    exact W.zret (v := (y3.2.1 1)) hx hb hr (nrZ (by have f0 := b8; have g0 := rg32 (y3.2.1 1); omega)) (fun tS ht hW => ⟨⟨(y3.2.1 1), σ4, rfl, ⟨Fr.tr (Fr.rf) hF5 (fL_sub rfl), hJ6, (show (0 : Int) ≤ (y3.2.1 1).toInt ∧ (y3.2.1 1).toInt ≤ 1 from (by have f0 := b8; have g0 := rg32 (y3.2.1 1); omega)), trivial⟩, (show va_P D clz (WD9 cy g σ4) tS.heap by rw [ht]; exact hP)⟩, hS.F ht⟩) hS.2.2 dX9_comesTo_128
  ·
    have k13 := nle32 c11
    refine lv_iload_n hx hb dX9_comesTo_14 rfl (lv_at hl 3 rfl) ?_
    refine cut9 (D := D) (cy := cy) (g := g) (A := A9 cy g s.heap.size) (H0 := s.heap) 6 23 (fun x : LZ => [(3, .int (y3.2.1 0)), (2, .int (y3.2.1 1)), (0, .ref (g 60)), (1, .int p1)]) (fun x : LZ => [.int (x.2.1 0)]) (fun x : LZ => (x.1 = σ4) ∧ ((0 : Int) ≤ (x.2.1 0).toInt ∧ (x.2.1 0).toInt ≤ 1) ∧ True) ?_ ?_
    ·
      intro y16 hI15 H locs ls hP hS hl
      rw [show y16.1 = σ4 from hI15.1] at hP
      have b17 : (0 : Int) ≤ (y16.2.1 0).toInt ∧ (y16.2.1 0).toInt ≤ 1 := hI15.2.1
      have hl : lv_has ls 6 [(3, .int (y3.2.1 0)), (2, .int (y3.2.1 1)), (0, .ref (g 60)), (1, .int p1)] := hl
      refine W.eq (g2 := F0 m 23 ls [.int (y16.2.1 0)]) rfl ?_
      refine lv_istore (lv' := [(4, .int (y16.2.1 0)), (3, .int (y3.2.1 0)), (2, .int (y3.2.1 1)), (0, .ref (g 60)), (1, .int p1)]) hx hb dX9_comesTo_23 hl (by decide) rfl (fun ls hl => ?_)
      refine lv_iconst (v := 0) hx hb dX9_comesTo_25 (by decide) ?_
      refine lv_istore (lv' := [(5, .int 0), (4, .int (y16.2.1 0)), (3, .int (y3.2.1 0)), (2, .int (y3.2.1 1)), (0, .ref (g 60)), (1, .int p1)]) hx hb dX9_comesTo_26 hl (by decide) rfl (fun ls hl => ?_)
      refine loop9 6 28 (fun x : LZ => [(5, .int (x.2.1 0)), (4, .int (x.2.1 1)), (3, .int (y3.2.1 0)), (2, .int (y3.2.1 1)), (0, .ref (g 60)), (1, .int p1)]) (fun x : LZ => (x.1 = σ4) ∧ ((0 : Int) ≤ (x.2.1 0).toInt ∧ (x.2.1 0).toInt ≤ 88) ∧ ((0 : Int) ≤ (x.2.1 1).toInt ∧ (x.2.1 1).toInt ≤ 1) ∧ True) (fun x : LZ => ((89 : Int) - (x.2.1 0).toInt).toNat) ?_ (σ4, lf [0, (y16.2.1 0)], lg []) ⟨rfl, (show (0 : Int) ≤ (0 : Int32).toInt ∧ (0 : Int32).toInt ≤ 88 from (by have z0 : (0 : Int32).toInt = 0 := (by decide); omega)), (show (0 : Int) ≤ ((y16.2.1 0) : Int32).toInt ∧ ((y16.2.1 0) : Int32).toInt ≤ 1 from (by have f0 := b17; have g0 := rg32 (y16.2.1 0); omega)), trivial⟩ _ _ _ hP hS (lv_sub hl [0, 1, 2, 3, 4, 5] rfl)
      intro y20 hI19 nl18 H locs ls hP hS hl
      rw [show y20.1 = σ4 from hI19.1] at hP
      have b21 : (0 : Int) ≤ (y20.2.1 0).toInt ∧ (y20.2.1 0).toInt ≤ 88 := hI19.2.1
      have b22 : (0 : Int) ≤ (y20.2.1 1).toInt ∧ (y20.2.1 1).toInt ≤ 1 := hI19.2.2.1
      have hl : lv_has ls 6 [(5, .int (y20.2.1 0)), (4, .int (y20.2.1 1)), (3, .int (y3.2.1 0)), (2, .int (y3.2.1 1)), (0, .ref (g 60)), (1, .int p1)] := hl
      refine lv_iload_n hx hb dX9_comesTo_28 rfl (lv_at hl 5 rfl) ?_
      refine cut9 (D := D) (cy := cy) (g := g) (A := A9 cy g s.heap.size) (H0 := s.heap) 6 93 (fun x : LZ => [(5, .int (y20.2.1 0)), (4, .int (y20.2.1 1)), (3, .int (y3.2.1 0)), (2, .int (y3.2.1 1)), (0, .ref (g 60)), (1, .int p1)]) (fun x : LZ => []) (fun x : LZ => (x.1 = σ4) ∧ True) ?_ ?_
      ·
        intro y25 hI24 H locs ls hP hS hl
        rw [show y25.1 = σ4 from hI24.1] at hP
        have hl : lv_has ls 6 [(5, .int (y20.2.1 0)), (4, .int (y20.2.1 1)), (3, .int (y3.2.1 0)), (2, .int (y3.2.1 1)), (0, .ref (g 60)), (1, .int p1)] := hl
        refine lv_aload_n hx hb dX9_comesTo_93 rfl (lv_at hl 4 rfl) ?_
        refine g9_42 hx hb hts hown hK hP (hts _ q1402) dX9_comesTo_94 ?_
        refine lv_bipush (v := 88) hx hb dX9_comesTo_97 (by decide) ?_
        refine lv_iload_n hx hb dX9_comesTo_99 rfl (lv_at hl 5 rfl) ?_
        refine lv_imul hx hb dX9_comesTo_100 ?_
        refine lv_topi (fun x26 ex26 => ?_)
        have t27 := mulC' (n := 88) ex26 (by decide) (by have f0 := h0; have f1 := t10; have f2 := k13; have f3 := b7; have g0 := rg32 p1; omega)
        refine lv_iload_n hx hb dX9_comesTo_101 rfl (lv_at hl 2 rfl) ?_
        refine lv_iadd hx hb dX9_comesTo_102 ?_
        refine lv_topi (fun x28 ex28 => ?_)
        have t29 := addO ex28 (by have f0 := b7; have f1 := k13; have f2 := t27; have f3 := h0; have f4 := t10; have g0 := rg32 (y3.2.1 0); have g1 := rg32 x26; omega)
        refine lv_iload hx hb dX9_comesTo_103 (lv_at hl 1 rfl) ?_
        refine t9_42 hx hb hK hP hD hS (vpo (by have f0 := t29; have f1 := b7; have f2 := k13; have f3 := t27; have f4 := h0; have f5 := t10; have g0 := rg32 x28; omega)) dX9_comesTo_105 (fun H locs σ30 eσ30 hP hS => ?_)
        have hJ31 : J9 (σ30 9) := hJ6.A eσ30 trivial
        refine lv_iload_n hx hb dX9_comesTo_106 rfl (lv_at hl 3 rfl) ?_
        refine cut9 (D := D) (cy := cy) (g := g) (A := A9 cy g s.heap.size) (H0 := s.heap) 6 120 (fun x : LZ => [(5, .int (y20.2.1 0)), (4, .int (y20.2.1 1)), (3, .int (y3.2.1 0)), (2, .int (y3.2.1 1)), (0, .ref (g 60)), (1, .int p1)]) (fun x : LZ => [.int (x.2.1 0)]) (fun x : LZ => (x.1 = σ30) ∧ ((0 : Int) ≤ (x.2.1 0).toInt ∧ (x.2.1 0).toInt ≤ 1) ∧ True) ?_ ?_
        ·
          intro y34 hI33 H locs ls hP hS hl
          rw [show y34.1 = σ30 from hI33.1] at hP
          have b35 : (0 : Int) ≤ (y34.2.1 0).toInt ∧ (y34.2.1 0).toInt ≤ 1 := hI33.2.1
          have hl : lv_has ls 6 [(5, .int (y20.2.1 0)), (4, .int (y20.2.1 1)), (3, .int (y3.2.1 0)), (2, .int (y3.2.1 1)), (0, .ref (g 60)), (1, .int p1)] := hl
          refine W.eq (g2 := F0 m 120 ls [.int (y34.2.1 0)]) rfl ?_
          refine lv_istore_n (lv' := [(2, .int (y34.2.1 0)), (5, .int (y20.2.1 0)), (4, .int (y20.2.1 1)), (3, .int (y3.2.1 0)), (0, .ref (g 60)), (1, .int p1)]) hx hb dX9_comesTo_120 rfl hl (by decide) rfl (fun ls hl => ?_)
          obtain ⟨x36, ex36⟩ : ∃ y : Int32, y = (y3.2.1 0) + 1 := ⟨_, rfl⟩
          have t37 := addO ex36 (by have f0 := b7; have f1 := k13; have f2 := t29; have f3 := t10; have f4 := t27; have f5 := h0; have g0 := rg32 (y3.2.1 0); have z1 : (1 : Int32).toInt = 1 := (by decide); omega)
          refine lv_iinc (v := x36) (lv' := [(3, .int x36), (2, .int (y34.2.1 0)), (5, .int (y20.2.1 0)), (4, .int (y20.2.1 1)), (0, .ref (g 60)), (1, .int p1)]) hx hb dX9_comesTo_121 hl (k := 3) rfl (by rw [ex36]; rfl) (by decide) rfl (fun ls hl => ?_)
          refine lv_goto (tgt := 4) hx hb dX9_comesTo_124 (by decide) ?_
          have t38 : ((89 : Int) - x36.toInt).toNat < ((89 : Int) - (y3.2.1 0).toInt).toNat := (by have f0 := b7; have f1 := k13; have f2 := t29; have f3 := t37; have f4 := t10; have f5 := t27; have f6 := h0; have g0 := rg32 (y3.2.1 0); have g1 := rg32 x36; have z1 : (1 : Int32).toInt = 1 := (by decide); omega)
          exact nl1 (σ30, lf [x36, (y34.2.1 0)], lg []) ⟨Fr.tr (Fr.tr (Fr.rf) hF5 (fL_sub rfl)) (sA_f eσ30) (fN_L rfl), hJ31, (show (0 : Int) ≤ (x36 : Int32).toInt ∧ (x36 : Int32).toInt ≤ 88 from (by have f0 := t37; have f1 := b7; have f2 := k13; have f3 := t29; have f4 := t10; have f5 := t27; have f6 := h0; have g0 := rg32 x36; have z1 : (1 : Int32).toInt = 1 := (by decide); omega)), (show (0 : Int) ≤ ((y34.2.1 0) : Int32).toInt ∧ ((y34.2.1 0) : Int32).toInt ≤ 1 from (by have f0 := b35; have g0 := rg32 (y34.2.1 0); omega)), trivial⟩ (show ((89 : Int) - x36.toInt).toNat < _ from by first | exact t38 | (rw [← eσ4]; exact t38)) _ _ _ hP hS (lv_sub hl [0, 1, 4, 5] rfl)
        ·
          intro nj32
          refine cut9 (D := D) (cy := cy) (g := g) (A := A9 cy g s.heap.size) (H0 := s.heap) 6 115 (fun x : LZ => [(5, .int (y20.2.1 0)), (4, .int (y20.2.1 1)), (3, .int (y3.2.1 0)), (2, .int (y3.2.1 1)), (0, .ref (g 60)), (1, .int p1)]) (fun x : LZ => []) (fun x : LZ => (x.1 = σ30) ∧ True) ?_ ?_
          ·
            intro y41 hI40 H locs ls hP hS hl
            rw [show y41.1 = σ30 from hI40.1] at hP
            have hl : lv_has ls 6 [(5, .int (y20.2.1 0)), (4, .int (y20.2.1 1)), (3, .int (y3.2.1 0)), (2, .int (y3.2.1 1)), (0, .ref (g 60)), (1, .int p1)] := hl
            refine lv_iconst (v := 1) hx hb dX9_comesTo_115 (by decide) ?_
            refine lv_goto (tgt := 120) hx hb dX9_comesTo_116 (by decide) ?_
            exact nj32 (σ30, lf [1], lg []) ⟨rfl, (show (0 : Int) ≤ (1 : Int32).toInt ∧ (1 : Int32).toInt ≤ 1 from (by have z1 : (1 : Int32).toInt = 1 := (by decide); omega)), trivial⟩ _ _ _ hP hS (lv_sub hl [0, 1, 2, 3, 4, 5] rfl)
          ·
            intro nj39
            refine lv_if_ne (tgt := 115) hx hb dX9_comesTo_107 (by decide) (fun c42 => ?_) (fun c42 => ?_)
            ·
              have k43 := neq32 c42
              exact nj39 (σ30, lf [], lg []) ⟨rfl, trivial⟩ _ _ _ hP hS (lv_sub hl [0, 1, 2, 3, 4, 5] rfl)
            ·
              have k44 := peq32 c42
              refine lv_iload hx hb dX9_comesTo_110 (lv_at hl 1 rfl) ?_
              refine lv_if_eq (tgt := 119) hx hb dX9_comesTo_112 (by decide) (fun c45 => ?_) (fun c45 => ?_)
              ·
                have k46 := peq32 c45
                refine lv_iconst (v := 0) hx hb dX9_comesTo_119 (by decide) ?_
                exact nj32 (σ30, lf [0], lg []) ⟨rfl, (show (0 : Int) ≤ (0 : Int32).toInt ∧ (0 : Int32).toInt ≤ 1 from (by have z0 : (0 : Int32).toInt = 0 := (by decide); omega)), trivial⟩ _ _ _ hP hS (lv_sub hl [0, 1, 2, 3, 4, 5] rfl)
              ·
                have k47 := neq32 c45
                exact nj39 (σ30, lf [], lg []) ⟨rfl, trivial⟩ _ _ _ hP hS (lv_sub hl [0, 1, 2, 3, 4, 5] rfl)
      ·
        intro nj23
        refine lv_if_le (tgt := 93) hx hb dX9_comesTo_29 (by decide) (fun c48 => ?_) (fun c48 => ?_)
        ·
          have k49 := ple32 c48
          exact nj23 (σ4, lf [], lg []) ⟨rfl, trivial⟩ _ _ _ hP hS (lv_sub hl [0, 1, 2, 3, 4, 5] rfl)
        ·
          have k50 := nle32 c48
          refine lv_iload hx hb dX9_comesTo_32 (lv_at hl 0 rfl) ?_
          refine lv_aload_n hx hb dX9_comesTo_34 rfl (lv_at hl 4 rfl) ?_
          refine g9_24 hx hb hts hown hK hP (hts _ q1384) dX9_comesTo_35 ?_
          refine lv_iload_n hx hb dX9_comesTo_38 rfl (lv_at hl 5 rfl) ?_
          refine lv_iconst (v := 1) hx hb dX9_comesTo_39 (by decide) ?_
          refine lv_isub hx hb dX9_comesTo_40 ?_
          refine lv_topi (fun x51 ex51 => ?_)
          have t52 := subO ex51 (by have f0 := h0; have f1 := t10; have f2 := k50; have f3 := k13; have f4 := b7; have g0 := rg32 p1; have z0 : (0 : Int32).toInt = 0 := (by decide); have z1 : (1 : Int32).toInt = 1 := (by decide); omega)
          obtain ⟨x53, ex53⟩ : ∃ z, (σ 9).2.2.1 24 x51.toInt.toNat = z := ⟨_, rfl⟩
          refine l9_24 (x := x53) hx hb hK hP (vpo (by have f0 := t52; have f1 := h0; have f2 := t10; have f3 := k50; have f4 := k13; have f5 := b7; have g0 := rg32 x51; have z0 : (0 : Int32).toInt = 0 := (by decide); have z1 : (1 : Int32).toInt = 1 := (by decide); omega)) ((congrFun ((hF5 9 24 rfl).2.2.1) _).trans ex53) dX9_comesTo_41 ?_
          have t54 := a9_24 hJ ex53
          refine lv_icmp_ge (tgt := 93) hx hb dX9_comesTo_42 (by decide) (fun c55 => ?_) (fun c55 => ?_)
          ·
            have k56 := ple32 c55
            exact nj23 (σ4, lf [], lg []) ⟨rfl, trivial⟩ _ _ _ hP hS (lv_sub hl [0, 1, 2, 3, 4, 5] rfl)
          ·
            have k57 := nle32 c55
            refine lv_iload hx hb dX9_comesTo_45 (lv_at hl 1 rfl) ?_
            refine lv_if_ne (tgt := 93) hx hb dX9_comesTo_47 (by decide) (fun c58 => ?_) (fun c58 => ?_)
            ·
              have k59 := neq32 c58
              exact nj23 (σ4, lf [], lg []) ⟨rfl, trivial⟩ _ _ _ hP hS (lv_sub hl [0, 1, 2, 3, 4, 5] rfl)
            ·
              have k60 := peq32 c58
              refine lv_aload_n hx hb dX9_comesTo_50 rfl (lv_at hl 4 rfl) ?_
              refine g9_42 hx hb hts hown hK hP (hts _ q1402) dX9_comesTo_51 ?_
              refine lv_bipush (v := 88) hx hb dX9_comesTo_54 (by decide) ?_
              refine lv_iload_n hx hb dX9_comesTo_56 rfl (lv_at hl 5 rfl) ?_
              refine lv_iconst (v := 1) hx hb dX9_comesTo_57 (by decide) ?_
              refine lv_isub hx hb dX9_comesTo_58 ?_
              refine lv_topi (fun x61 ex61 => ?_)
              have t62 := subO ex61 (by have f0 := h0; have f1 := t10; have f2 := k50; have f3 := t52; have f4 := k13; have f5 := t54; have f6 := b7; have f7 := k57; have f8 := b21; have g0 := rg32 p1; have z0 : (0 : Int32).toInt = 0 := (by decide); have z1 : (1 : Int32).toInt = 1 := (by decide); omega)
              refine lv_imul hx hb dX9_comesTo_59 ?_
              refine lv_topi (fun x63 ex63 => ?_)
              have t64 := mulC' (n := 88) ex63 (by decide) (by have f0 := t62; have f1 := h0; have f2 := t10; have f3 := k50; have f4 := t52; have f5 := k13; have f6 := t54; have f7 := b7; have f8 := k57; have f9 := b21; have g0 := rg32 x61; have z0 : (0 : Int32).toInt = 0 := (by decide); have z1 : (1 : Int32).toInt = 1 := (by decide); omega)
              refine lv_iload hx hb dX9_comesTo_60 (lv_at hl 0 rfl) ?_
              refine lv_iadd hx hb dX9_comesTo_62 ?_
              refine lv_topi (fun x65 ex65 => ?_)
              have t66 := addO ex65 (by have f0 := b21; have f1 := k57; have f2 := t64; have f3 := t54; have f4 := t62; have f5 := h0; have f6 := t10; have f7 := k50; have f8 := t52; have f9 := k13; have f10 := b7; have g0 := rg32 (y20.2.1 0); have g1 := rg32 x63; have z0 : (0 : Int32).toInt = 0 := (by decide); have z1 : (1 : Int32).toInt = 1 := (by decide); omega)
              obtain ⟨x67, ex67⟩ : ∃ z, (σ4 9).2.2.1 42 x65.toInt.toNat = z := ⟨_, rfl⟩
              refine l9_42 (x := x67) hx hb hK hP (vpo (by have f0 := t66; have f1 := b21; have f2 := k57; have f3 := t64; have f4 := t54; have f5 := t62; have f6 := h0; have f7 := t10; have f8 := k50; have f9 := t52; have f10 := k13; have f11 := b7; have g0 := rg32 x65; have z0 : (0 : Int32).toInt = 0 := (by decide); have z1 : (1 : Int32).toInt = 1 := (by decide); omega)) ex67 dX9_comesTo_63 ?_
              refine cut9 (D := D) (cy := cy) (g := g) (A := A9 cy g s.heap.size) (H0 := s.heap) 6 85 (fun x : LZ => [(5, .int (y20.2.1 0)), (4, .int (y20.2.1 1)), (3, .int (y3.2.1 0)), (2, .int (y3.2.1 1)), (0, .ref (g 60)), (1, .int p1)]) (fun x : LZ => [.int (x.2.1 0)]) (fun x : LZ => (x.1 = σ4) ∧ ((0 : Int) ≤ (x.2.1 0).toInt ∧ (x.2.1 0).toInt ≤ 1) ∧ True) ?_ ?_
              ·
                intro y70 hI69 H locs ls hP hS hl
                rw [show y70.1 = σ4 from hI69.1] at hP
                have b71 : (0 : Int) ≤ (y70.2.1 0).toInt ∧ (y70.2.1 0).toInt ≤ 1 := hI69.2.1
                have hl : lv_has ls 6 [(5, .int (y20.2.1 0)), (4, .int (y20.2.1 1)), (3, .int (y3.2.1 0)), (2, .int (y3.2.1 1)), (0, .ref (g 60)), (1, .int p1)] := hl
                refine W.eq (g2 := F0 m 85 ls [.int (y70.2.1 0)]) rfl ?_
                refine lv_istore (lv' := [(4, .int (y70.2.1 0)), (5, .int (y20.2.1 0)), (3, .int (y3.2.1 0)), (2, .int (y3.2.1 1)), (0, .ref (g 60)), (1, .int p1)]) hx hb dX9_comesTo_85 hl (by decide) rfl (fun ls hl => ?_)
                obtain ⟨x72, ex72⟩ : ∃ y : Int32, y = (y20.2.1 0) + 1 := ⟨_, rfl⟩
                have t73 := addO ex72 (by have f0 := b21; have f1 := k57; have f2 := t66; have f3 := t54; have f4 := t64; have f5 := t52; have f6 := t62; have f7 := h0; have f8 := t10; have f9 := k50; have f10 := k13; have f11 := b7; have g0 := rg32 (y20.2.1 0); have z0 : (0 : Int32).toInt = 0 := (by decide); have z1 : (1 : Int32).toInt = 1 := (by decide); omega)
                refine lv_iinc (v := x72) (lv' := [(5, .int x72), (4, .int (y70.2.1 0)), (3, .int (y3.2.1 0)), (2, .int (y3.2.1 1)), (0, .ref (g 60)), (1, .int p1)]) hx hb dX9_comesTo_87 hl (k := 1) rfl (by rw [ex72]; rfl) (by decide) rfl (fun ls hl => ?_)
                refine lv_goto (tgt := 28) hx hb dX9_comesTo_90 (by decide) ?_
                have t74 : ((89 : Int) - x72.toInt).toNat < ((89 : Int) - (y20.2.1 0).toInt).toNat := (by have f0 := b21; have f1 := k57; have f2 := t66; have f3 := t73; have f4 := t54; have f5 := t64; have f6 := t52; have f7 := t62; have f8 := h0; have f9 := t10; have f10 := k50; have f11 := k13; have f12 := b7; have g0 := rg32 (y20.2.1 0); have g1 := rg32 x72; have z0 : (0 : Int32).toInt = 0 := (by decide); have z1 : (1 : Int32).toInt = 1 := (by decide); omega)
                exact nl18 (σ4, lf [x72, (y70.2.1 0)], lg []) ⟨rfl, (show (0 : Int) ≤ (x72 : Int32).toInt ∧ (x72 : Int32).toInt ≤ 88 from (by have f0 := t73; have f1 := b21; have f2 := k57; have f3 := t66; have f4 := t54; have f5 := t64; have f6 := t52; have f7 := t62; have f8 := h0; have f9 := t10; have f10 := k50; have f11 := k13; have f12 := b7; have g0 := rg32 x72; have z0 : (0 : Int32).toInt = 0 := (by decide); have z1 : (1 : Int32).toInt = 1 := (by decide); omega)), (show (0 : Int) ≤ ((y70.2.1 0) : Int32).toInt ∧ ((y70.2.1 0) : Int32).toInt ≤ 1 from (by have f0 := b71; have g0 := rg32 (y70.2.1 0); omega)), trivial⟩ (show ((89 : Int) - x72.toInt).toNat < _ from t74) _ _ _ hP hS (lv_sub hl [0, 1, 2, 3, 4, 5] rfl)
              ·
                intro nj68
                refine cut9 (D := D) (cy := cy) (g := g) (A := A9 cy g s.heap.size) (H0 := s.heap) 6 84 (fun x : LZ => [(5, .int (y20.2.1 0)), (4, .int (y20.2.1 1)), (3, .int (y3.2.1 0)), (2, .int (y3.2.1 1)), (0, .ref (g 60)), (1, .int p1)]) (fun x : LZ => []) (fun x : LZ => (x.1 = σ4) ∧ True) ?_ ?_
                ·
                  intro y77 hI76 H locs ls hP hS hl
                  rw [show y77.1 = σ4 from hI76.1] at hP
                  have hl : lv_has ls 6 [(5, .int (y20.2.1 0)), (4, .int (y20.2.1 1)), (3, .int (y3.2.1 0)), (2, .int (y3.2.1 1)), (0, .ref (g 60)), (1, .int p1)] := hl
                  refine lv_iconst (v := 0) hx hb dX9_comesTo_84 (by decide) ?_
                  exact nj68 (σ4, lf [0], lg []) ⟨rfl, (show (0 : Int) ≤ (0 : Int32).toInt ∧ (0 : Int32).toInt ≤ 1 from (by have z0 : (0 : Int32).toInt = 0 := (by decide); omega)), trivial⟩ _ _ _ hP hS (lv_sub hl [0, 1, 2, 3, 4, 5] rfl)
                ·
                  intro nj75
                  refine lv_if_eq (tgt := 84) hx hb dX9_comesTo_64 (by decide) (fun c78 => ?_) (fun c78 => ?_)
                  ·
                    have k79 := peq32 c78
                    exact nj75 (σ4, lf [], lg []) ⟨rfl, trivial⟩ _ _ _ hP hS (lv_sub hl [0, 1, 2, 3, 4, 5] rfl)
                  ·
                    have k80 := neq32 c78
                    refine lv_aload_n hx hb dX9_comesTo_67 rfl (lv_at hl 4 rfl) ?_
                    refine lv_iload_n hx hb dX9_comesTo_68 rfl (lv_at hl 5 rfl) ?_
                    refine lv_iconst (v := 1) hx hb dX9_comesTo_69 (by decide) ?_
                    refine lv_isub hx hb dX9_comesTo_70 ?_
                    refine lv_topi (fun x81 ex81 => ?_)
                    have t82 := subO ex81 (by have f0 := h0; have f1 := t10; have f2 := k50; have f3 := t52; have f4 := t62; have f5 := k13; have f6 := t54; have f7 := t64; have f8 := b7; have f9 := k57; have f10 := t66; have f11 := b21; have g0 := rg32 p1; have z0 : (0 : Int32).toInt = 0 := (by decide); have z1 : (1 : Int32).toInt = 1 := (by decide); omega)
                    refine lv_iload hx hb dX9_comesTo_71 (lv_at hl 0 rfl) ?_
                    refine lv_iload_n hx hb dX9_comesTo_73 rfl (lv_at hl 2 rfl) ?_
                    refine va_calli (va_runV (As := [.int x81, .int (y20.2.1 0), .int (y3.2.1 0)]) (rest := []) ⟨hx, hb, hml, hown, hts⟩ (m_X9_mayGo_ l D cy g σ4 x81 (y20.2.1 0) (y3.2.1 0) _ hJ6 (show (0 : Int) ≤ x81.toInt ∧ x81.toInt ≤ 14 from (by have f0 := t82; have f1 := h0; have f2 := t10; have f3 := k50; have f4 := t52; have f5 := t62; have f6 := k13; have f7 := t54; have f8 := t64; have f9 := b7; have f10 := k57; have f11 := t66; have f12 := b21; have g0 := rg32 x81; have z0 : (0 : Int32).toInt = 0 := (by decide); have z1 : (1 : Int32).toInt = 1 := (by decide); omega)) (show (0 : Int) ≤ (y20.2.1 0).toInt ∧ (y20.2.1 0).toInt ≤ 87 from (by have f0 := b21; have f1 := k57; have f2 := t66; have f3 := t82; have f4 := h0; have f5 := t10; have f6 := k50; have f7 := t52; have f8 := t54; have f9 := t62; have f10 := t64; have f11 := k13; have f12 := b7; have g0 := rg32 (y20.2.1 0); have g1 := rg32 x81; have z0 : (0 : Int32).toInt = 0 := (by decide); have z1 : (1 : Int32).toInt = 1 := (by decide); omega)) (show (0 : Int) ≤ (y3.2.1 0).toInt ∧ (y3.2.1 0).toInt ≤ 87 from (by have f0 := b7; have f1 := k13; have f2 := b21; have f3 := k57; have f4 := t66; have f5 := t82; have f6 := h0; have f7 := t10; have f8 := k50; have f9 := t52; have f10 := t54; have f11 := t62; have f12 := t64; have g0 := rg32 (y20.2.1 0); have g1 := rg32 (y3.2.1 0); have g2 := rg32 x81; have z0 : (0 : Int32).toInt = 0 := (by decide); have z1 : (1 : Int32).toInt = 1 := (by decide); omega))) (cwV 3 hts (gd_V q1854 q1856 q95 q134 q1857) rfl rfl rfl (by decide +kernel) ⟨Nat.le_of_ble_eq_true rfl, Nat.le_of_ble_eq_true rfl⟩) (pv9 hP hK hD hC hS (va_recv hK hP (ci := 9) (q0 := 0) rfl rfl)) rfl rfl hl.1 rfl (lv_room (Nat.le_of_ble_eq_true rfl)) dX9_comesTo_74 ⟨Nat.le_of_ble_eq_true rfl, Nat.le_of_ble_eq_true rfl⟩) hS (fun q _ h => up9 hS q h) (up9 hS) (fun r83 σ84 tS H1 locs ht hvm hw85 hB hz1 hk1 hS => ?_)
                    have hP : va_P D clz (WD9 cy g σ84) H1 := by rw [← ht]; exact hB
                    clear hB hz1 hk1 hvm ht
                    generalize H1 = H at hP hS ⊢
                    have hw85E : σ4 = σ84 := (hw85.1).symm
                    subst hw85E
                    have b86 : (0 : Int) ≤ r83.toInt ∧ r83.toInt ≤ 1 := hw85.2.1
                    have b87 : r83 = goW (σ4 9) x81.toInt.toNat (y20.2.1 0).toInt.toNat (y3.2.1 0).toInt.toNat := hw85.2.2.1
                    refine lv_if_eq (tgt := 84) hx hb dX9_comesTo_77 (by decide) (fun c88 => ?_) (fun c88 => ?_)
                    ·
                      have k89 := peq32 c88
                      exact nj75 (σ4, lf [], lg []) ⟨rfl, trivial⟩ _ _ _ hP hS (lv_sub hl [0, 1, 2, 3, 4, 5] rfl)
                    ·
                      have k90 := neq32 c88
                      refine lv_iconst (v := 1) hx hb dX9_comesTo_80 (by decide) ?_
                      refine lv_goto (tgt := 85) hx hb dX9_comesTo_81 (by decide) ?_
                      exact nj68 (σ4, lf [1], lg []) ⟨rfl, (show (0 : Int) ≤ (1 : Int32).toInt ∧ (1 : Int32).toInt ≤ 1 from (by have z1 : (1 : Int32).toInt = 1 := (by decide); omega)), trivial⟩ _ _ _ hP hS (lv_sub hl [0, 1, 2, 3, 4, 5] rfl)
    ·
      intro nj14
      refine lv_if_ne (tgt := 22) hx hb dX9_comesTo_15 (by decide) (fun c91 => ?_) (fun c91 => ?_)
      ·
        have k92 := neq32 c91
        refine lv_iconst (v := 0) hx hb dX9_comesTo_22 (by decide) ?_
        exact nj14 (σ4, lf [0], lg []) ⟨rfl, (show (0 : Int) ≤ (0 : Int32).toInt ∧ (0 : Int32).toInt ≤ 1 from (by have z0 : (0 : Int32).toInt = 0 := (by decide); omega)), trivial⟩ _ _ _ hP hS (lv_sub hl [0, 1, 2, 3] rfl)
      ·
        have k93 := peq32 c91
        refine lv_iconst (v := 1) hx hb dX9_comesTo_18 (by decide) ?_
        refine lv_goto (tgt := 23) hx hb dX9_comesTo_19 (by decide) ?_
        exact nj14 (σ4, lf [1], lg []) ⟨rfl, (show (0 : Int) ≤ (1 : Int32).toInt ∧ (1 : Int32).toInt ≤ 1 from (by have z1 : (1 : Int32).toInt = 1 := (by decide); omega)), trivial⟩ _ _ _ hP hS (lv_sub hl [0, 1, 2, 3] rfl)

theorem q1895 : Cond.code yX9_stuck cX9_stuck 4 (some .int) ∈ lw_g := lw_gm (List.mem_of_getElem? (i := 1895) (by decide +kernel)) rfl
theorem q1896 : Cond.methodLink RX9 442 yX9_comesTo ∈ lw_g := lw_gm (List.mem_of_getElem? (i := 1896) (by decide +kernel)) rfl
theorem q1898 : Cond.instanceMethod yX9_comesTo ∈ lw_g := lw_gm (List.mem_of_getElem? (i := 1898) (by decide +kernel)) rfl
theorem q100 : Cond.selects RX9 yX9_comesTo yX9_comesTo ∈ lw_g := lw_gm (List.mem_of_getElem? (i := 100) (by decide +kernel)) rfl
theorem dX9_stuck_0 : decode cX9_stuck 0 = .ok (.aload_n 0, 1) := by decide +kernel
theorem dX9_stuck_1 : decode cX9_stuck 1 = .ok (.iconst 0, 1) := by decide +kernel
theorem dX9_stuck_2 : decode cX9_stuck 2 = .ok (.putfield 129, 3) := by decide +kernel
theorem dX9_stuck_5 : decode cX9_stuck 5 = .ok (.aload_n 0, 1) := by decide +kernel
theorem dX9_stuck_6 : decode cX9_stuck 6 = .ok (.iload_n 1, 1) := by decide +kernel
theorem dX9_stuck_7 : decode cX9_stuck 7 = .ok (.iload_n 2, 1) := by decide +kernel
theorem dX9_stuck_8 : decode cX9_stuck 8 = .ok (.invokevirtual 433, 3) := by decide +kernel
theorem dX9_stuck_11 : decode cX9_stuck 11 = .ok (.ifCond .ne 6, 3) := by decide +kernel
theorem dX9_stuck_14 : decode cX9_stuck 14 = .ok (.bipush (-2), 2) := by decide +kernel
theorem dX9_stuck_16 : decode cX9_stuck 16 = .ok (.ireturn, 1) := by decide +kernel
theorem dX9_stuck_17 : decode cX9_stuck 17 = .ok (.aload_n 0, 1) := by decide +kernel
theorem dX9_stuck_18 : decode cX9_stuck 18 = .ok (.iload_n 1, 1) := by decide +kernel
theorem dX9_stuck_19 : decode cX9_stuck 19 = .ok (.iload_n 2, 1) := by decide +kernel
theorem dX9_stuck_20 : decode cX9_stuck 20 = .ok (.invokevirtual 427, 3) := by decide +kernel
theorem dX9_stuck_23 : decode cX9_stuck 23 = .ok (.iconst 0, 1) := by decide +kernel
theorem dX9_stuck_24 : decode cX9_stuck 24 = .ok (.istore_n 3, 1) := by decide +kernel
theorem dX9_stuck_25 : decode cX9_stuck 25 = .ok (.iload_n 3, 1) := by decide +kernel
theorem dX9_stuck_26 : decode cX9_stuck 26 = .ok (.aload_n 0, 1) := by decide +kernel
theorem dX9_stuck_27 : decode cX9_stuck 27 = .ok (.getfield 387, 3) := by decide +kernel
theorem dX9_stuck_30 : decode cX9_stuck 30 = .ok (.if_icmp .ge 24, 3) := by decide +kernel
theorem dX9_stuck_33 : decode cX9_stuck 33 = .ok (.aload_n 0, 1) := by decide +kernel
theorem dX9_stuck_34 : decode cX9_stuck 34 = .ok (.iload_n 3, 1) := by decide +kernel
theorem dX9_stuck_35 : decode cX9_stuck 35 = .ok (.invokevirtual 442, 3) := by decide +kernel
theorem dX9_stuck_38 : decode cX9_stuck 38 = .ok (.ifCond .ne 10, 3) := by decide +kernel
theorem dX9_stuck_41 : decode cX9_stuck 41 = .ok (.aload_n 0, 1) := by decide +kernel
theorem dX9_stuck_42 : decode cX9_stuck 42 = .ok (.getfield 65, 3) := by decide +kernel
theorem dX9_stuck_45 : decode cX9_stuck 45 = .ok (.iload_n 3, 1) := by decide +kernel
theorem dX9_stuck_46 : decode cX9_stuck 46 = .ok (.iaload, 1) := by decide +kernel
theorem dX9_stuck_47 : decode cX9_stuck 47 = .ok (.ireturn, 1) := by decide +kernel
theorem dX9_stuck_48 : decode cX9_stuck 48 = .ok (.iinc 3 1, 3) := by decide +kernel
theorem dX9_stuck_51 : decode cX9_stuck 51 = .ok (.goto (-26), 3) := by decide +kernel
theorem dX9_stuck_54 : decode cX9_stuck 54 = .ok (.iconst (-1), 1) := by decide +kernel
theorem dX9_stuck_55 : decode cX9_stuck 55 = .ok (.ireturn, 1) := by decide +kernel
set_option maxHeartbeats 4000000 in
set_option maxRecDepth 100000 in
theorem m_X9_stuck (l : Launch) (D : va_G) (cy : Nat → ClassId) (g : Nat → Nat) (σ : ST) (p1 : Int32) (p2 : Int32) (sz : Nat) (hJ : J9 (σ 9)) (kDK0 : DK0 (σ 9)) : Met l yX9_stuck (ww yX9_stuck cX9_stuck 4 (some .int)) ({ frames := 6, cells := 0, slots := 0, locals := 384 }) (va_Pc [.ref (g 60), .int p1, .int p2] (pr9 D cy g σ sz)) (qi9 D cy g sz (fun r τ => Fr (fL [0, 23, 24, 25, 26, 27, 28, 29, 30, 31, 32, 33, 34, 42]) σ τ ∧ J9 (τ 9) ∧ True)) 0 0 (A9 cy g sz) := by
  refine Met.ofW (cc := cX9_stuck) (maxL := 4) (ret := (some .int)) (by decide) rfl ?_
  intro p e s m args below meth c s₁ B hml hv
  obtain ⟨rfl, hsz, hP, hK, hD0, hC⟩ := hv
  have hx := B.exec
  have hb := B.bytes
  have hr := B.returns
  have hts := hts_g (atoms_spec (ws := ww yX9_stuck cX9_stuck 4 (some .int)) B.pre)
  have hown : s.vm.findClass RX9 = some m.cls := findClass_of_methodNamed B.named
  have hlocks := B.notSynchronized
  clear B
  subst hsz
  have hD := fun τ => A9_D (sz := s.heap.size) hD0 τ
  clear hD0
  have hS : va_S (A9 cy g s.heap.size) s.heap s.heap [] := va_S.rf
  have hl := lv_entry ([.ref (g 60), .int p1, .int p2]) (n := 4) (Nat.le_of_ble_eq_true rfl)
  rw [lg_entry_eq]
  generalize (lg_sl ([.ref (g 60), .int p1, .int p2]) ++ List.replicate (4 - (lg_sl ([.ref (g 60), .int p1, .int p2])).length) Slot.unset).toArray = ls at hl ⊢
  have hl : lv_has ls 4 [(0, .ref (g 60)), (1, .int p1), (2, .int p2)] := hl
  refine lv_aload_n hx hb dX9_stuck_0 rfl (lv_at hl 0 rfl) ?_
  refine lv_iconst (v := 0) hx hb dX9_stuck_1 (by decide) ?_
  refine p9_0 hx hb hts hown hK hP hD hS (hts _ q1360) dX9_stuck_2 (fun H locs σ1 eσ1 hP hS => ?_)
  have hJ2 : J9 (σ1 9) := hJ.I eσ1 (show JI9 0 (0 : Int32) from trivial)
  have T3 : DK0 (σ1 9) := DK0.mv kDK0 ((sI_f eσ1) 9 17 rfl).2.2.1 ((sI_f eσ1) 9 18 rfl).2.2.1 ((sI_f eσ1) 9 19 rfl).2.2.1
  refine lv_aload_n hx hb dX9_stuck_5 rfl (lv_at hl 0 rfl) ?_
  refine lv_iload_n hx hb dX9_stuck_6 rfl (lv_at hl 1 rfl) ?_
  refine lv_iload_n hx hb dX9_stuck_7 rfl (lv_at hl 2 rfl) ?_
  refine va_calli (va_runV (As := [.int p1, .int p2]) (rest := []) ⟨hx, hb, hml, hown, hts⟩ (m_X9_isPlaying l D cy g σ1 p1 p2 _ hJ2 ) (cwV 2 hts (gd_V q1822 q1824 q87 q134 q1825) rfl rfl rfl (by decide +kernel) ⟨Nat.le_of_ble_eq_true rfl, Nat.le_of_ble_eq_true rfl⟩) (pv9 hP hK hD hC hS (va_recv hK hP (ci := 9) (q0 := 0) rfl rfl)) rfl rfl hl.1 rfl (lv_room (Nat.le_of_ble_eq_true rfl)) dX9_stuck_8 ⟨Nat.le_of_ble_eq_true rfl, Nat.le_of_ble_eq_true rfl⟩) hS (fun q _ h => up9 hS q h) (up9 hS) (fun r4 σ5 tS H1 locs ht hvm hw6 hB hz1 hk1 hS => ?_)
  have hP : va_P D clz (WD9 cy g σ5) H1 := by rw [← ht]; exact hB
  clear hB hz1 hk1 hvm ht
  generalize H1 = H at hP hS ⊢
  have hw6E : σ1 = σ5 := (hw6.1).symm
  subst hw6E
  have b7 : (0 : Int) ≤ r4.toInt ∧ r4.toInt ≤ 1 := hw6.2.1
  have b8 : (r4.toInt = 0) ∨ ((0 : Int) ≤ p1.toInt ∧ p1.toInt ≤ 8 ∧ (0 : Int) ≤ p2.toInt ∧ p2.toInt ≤ 2) := hw6.2.2.1
  have b9 : (r4.toInt = 0) ∨ (p1.toInt < ((σ1 9).2.2.1 17 3).toInt) := hw6.2.2.2.1
  refine lv_if_ne (tgt := 17) hx hb dX9_stuck_11 (by decide) (fun c10 => ?_) (fun c10 => ?_)
  ·
    have k11 := neq32 c10
    refine lv_aload_n hx hb dX9_stuck_17 rfl (lv_at hl 0 rfl) ?_
    refine lv_iload_n hx hb dX9_stuck_18 rfl (lv_at hl 1 rfl) ?_
    refine lv_iload_n hx hb dX9_stuck_19 rfl (lv_at hl 2 rfl) ?_
    refine va_callv (va_runV (As := [.int p1, .int p2]) (rest := []) ⟨hx, hb, hml, hown, hts⟩ (m_X9_lays l D cy g σ1 p1 p2 _ hJ2 T3 (show (0 : Int) ≤ p1.toInt ∧ p1.toInt ≤ 8 from (by have f0 := b8; have f1 := b9; have f2 := a9_17 hJ2 (j := 3) rfl; have f3 := congrArg Int32.toInt (show ((σ1 9).2.2.1 17 3) = ((σ 9).2.2.1 17 3) from congrFun (((sI_f eσ1) 9 17 rfl).2.2.1) _); have f4 := b7; have f5 := k11; have f6 := a9_17 hJ (j := 3) rfl; have g2 := rg32 p1; have z0 : (0 : Int32).toInt = 0 := (by decide); omega)) (show (0 : Int) ≤ p2.toInt ∧ p2.toInt ≤ 2 from (by have f0 := b8; have f1 := b9; have f2 := a9_17 hJ2 (j := 3) rfl; have f3 := congrArg Int32.toInt (show ((σ1 9).2.2.1 17 3) = ((σ 9).2.2.1 17 3) from congrFun (((sI_f eσ1) 9 17 rfl).2.2.1) _); have f4 := b7; have f5 := k11; have f6 := a9_17 hJ (j := 3) rfl; have g2 := rg32 p1; have g3 := rg32 p2; have z0 : (0 : Int32).toInt = 0 := (by decide); omega)) (show p1.toInt < ((σ1 9).2.2.1 17 3).toInt from (by have f0 := a9_17 hJ2 (j := 3) rfl; have f1 := congrArg Int32.toInt (show ((σ1 9).2.2.1 17 3) = ((σ 9).2.2.1 17 3) from congrFun (((sI_f eσ1) 9 17 rfl).2.2.1) _); have f2 := b8; have f3 := b9; have f4 := a9_17 hJ (j := 3) rfl; have f5 := b7; have f6 := k11; have g2 := rg32 p1; have z0 : (0 : Int32).toInt = 0 := (by decide); omega))) (cwV 2 hts (gd_V q1830 q1832 q89 q134 q1833) rfl rfl rfl (by decide +kernel) ⟨Nat.le_of_ble_eq_true rfl, Nat.le_of_ble_eq_true rfl⟩) (pv9 hP hK hD hC hS (va_recv hK hP (ci := 9) (q0 := 0) rfl rfl)) rfl rfl hl.1 rfl (lv_room (Nat.le_of_ble_eq_true rfl)) dX9_stuck_20 ⟨Nat.le_of_ble_eq_true rfl, Nat.le_of_ble_eq_true rfl⟩) hS (fun q _ h => up9 hS q h) (up9 hS) (fun σ13 tS H1 locs ht hvm hw14 hB hz1 hk1 hS => ?_)
    have hP : va_P D clz (WD9 cy g σ13) H1 := by rw [← ht]; exact hB
    clear hB hz1 hk1 hvm ht
    generalize H1 = H at hP hS ⊢
    have hF15 : Fr (fL [23, 24, 25, 26, 27, 28, 29, 30, 31, 32, 33, 34]) σ1 σ13 := hw14.1
    have hJ16 : J9 (σ13 9) := hw14.2.1
    have T17 : DK0 (σ13 9) := DK0.mv T3 (hF15 9 17 rfl).2.2.1 (hF15 9 18 rfl).2.2.1 (hF15 9 19 rfl).2.2.1
    refine lv_iconst (v := 0) hx hb dX9_stuck_23 (by decide) ?_
    refine lv_istore_n (lv' := [(3, .int 0), (0, .ref (g 60)), (1, .int p1), (2, .int p2)]) hx hb dX9_stuck_24 rfl hl (by decide) rfl (fun ls hl => ?_)
    refine loop9 4 25 (fun x : LZ => [(3, .int (x.2.1 0)), (0, .ref (g 60)), (1, .int p1), (2, .int p2)]) (fun x : LZ => (Fr (fL [42]) σ13 x.1) ∧ (J9 (x.1 9)) ∧ ((0 : Int) ≤ (x.2.1 0).toInt ∧ (x.2.1 0).toInt ≤ 16) ∧ (DK0 (x.1 9)) ∧ (HK (x.1 9)) ∧ True) (fun x : LZ => ((17 : Int) - (x.2.1 0).toInt).toNat) ?_ (σ13, lf [0], lg []) ⟨Fr.rf, hJ16, (show (0 : Int) ≤ (0 : Int32).toInt ∧ (0 : Int32).toInt ≤ 16 from (by have z0 : (0 : Int32).toInt = 0 := (by decide); omega)), (show DK0 (σ13 9) from T17), (show HK (σ13 9) from hw14.2.2.1), trivial⟩ _ _ _ hP hS (lv_sub hl [0, 1, 2, 3] rfl)
    intro y20 hI19 nl18 H locs ls hP hS hl
    obtain ⟨σ21, eσ21⟩ : ∃ z, z = y20.1 := ⟨_, rfl⟩
    rw [← eσ21] at hP hI19
    have hF22 : Fr (fL [42]) σ13 σ21 := hI19.1
    have hJ23 : J9 (σ21 9) := hI19.2.1
    have b24 : (0 : Int) ≤ (y20.2.1 0).toInt ∧ (y20.2.1 0).toInt ≤ 16 := hI19.2.2.1
    have b25 : DK0 (σ21 9) := hI19.2.2.2.1
    have b26 : HK (σ21 9) := hI19.2.2.2.2.1
    have hl : lv_has ls 4 [(3, .int (y20.2.1 0)), (0, .ref (g 60)), (1, .int p1), (2, .int p2)] := hl
    refine lv_iload_n hx hb dX9_stuck_25 rfl (lv_at hl 0 rfl) ?_
    refine lv_aload_n hx hb dX9_stuck_26 rfl (lv_at hl 1 rfl) ?_
    refine g9_31 (x := ((σ13 9).1 31)) hx hb hts hown hK hP ((hF22 9 31 rfl).1) (hts _ q1391) dX9_stuck_27 ?_
    refine lv_icmp_ge (tgt := 54) hx hb dX9_stuck_30 (by decide) (fun c27 => ?_) (fun c27 => ?_)
    ·
      have k28 := ple32 c27
      refine lv_iconst (v := (-1)) hx hb dX9_stuck_54 (by decide) ?_
      exact W.iret (v := (-1)) hx hb hr (fun tS ht hW => ⟨⟨(-1), σ21, rfl, ⟨Fr.tr (Fr.tr (Fr.tr (Fr.rf) (sI_f eσ1) (fN_L rfl)) hF15 (fL_sub rfl)) hF22 (fL_sub rfl), hJ23, trivial⟩, (show va_P D clz (WD9 cy g σ21) tS.heap by rw [ht]; exact hP)⟩, hS.F ht⟩) hS.2.2 dX9_stuck_55
    ·
      have k29 := nle32 c27
      refine lv_aload_n hx hb dX9_stuck_33 rfl (lv_at hl 1 rfl) ?_
      refine lv_iload_n hx hb dX9_stuck_34 rfl (lv_at hl 0 rfl) ?_
      refine va_calli (va_runV (As := [.int (y20.2.1 0)]) (rest := []) ⟨hx, hb, hml, hown, hts⟩ (m_X9_comesTo l D cy g σ21 (y20.2.1 0) _ hJ23 (show (0 : Int) ≤ (y20.2.1 0).toInt ∧ (y20.2.1 0).toInt ≤ 15 from (by have f0 := b24; have f1 := k29; have f2 := j9_31 hJ16 rfl; have g0 := rg32 (y20.2.1 0); omega))) (cwV 1 hts (gd_V q1896 q1898 q100 q134 q1899) rfl rfl rfl (by decide +kernel) ⟨Nat.le_of_ble_eq_true rfl, Nat.le_of_ble_eq_true rfl⟩) (pv9 hP hK hD hC hS (va_recv hK hP (ci := 9) (q0 := 0) rfl rfl)) rfl rfl hl.1 rfl (lv_room (Nat.le_of_ble_eq_true rfl)) dX9_stuck_35 ⟨Nat.le_of_ble_eq_true rfl, Nat.le_of_ble_eq_true rfl⟩) hS (fun q _ h => up9 hS q h) (up9 hS) (fun r30 σ31 tS H1 locs ht hvm hw32 hB hz1 hk1 hS => ?_)
      have hP : va_P D clz (WD9 cy g σ31) H1 := by rw [← ht]; exact hB
      clear hB hz1 hk1 hvm ht
      generalize H1 = H at hP hS ⊢
      have hF33 : Fr (fL [42]) σ21 σ31 := hw32.1
      have hJ34 : J9 (σ31 9) := hw32.2.1
      have b35 : (0 : Int) ≤ r30.toInt ∧ r30.toInt ≤ 1 := hw32.2.2.1
      have T36 : DK0 (σ31 9) := DK0.mv b25 (hF33 9 17 rfl).2.2.1 (hF33 9 18 rfl).2.2.1 (hF33 9 19 rfl).2.2.1
      have T37 : HK (σ31 9) := HK.mv b26 (hF33 9 18 rfl).2.2.1 (hF33 9 28 rfl).1
      refine lv_if_ne (tgt := 48) hx hb dX9_stuck_38 (by decide) (fun c38 => ?_) (fun c38 => ?_)
      ·
        have k39 := neq32 c38
        obtain ⟨x40, ex40⟩ : ∃ y : Int32, y = (y20.2.1 0) + 1 := ⟨_, rfl⟩
        have t41 := addO ex40 (by have f0 := b24; have f1 := k29; have f2 := j9_31 hJ16 rfl; have g0 := rg32 (y20.2.1 0); have z1 : (1 : Int32).toInt = 1 := (by decide); omega)
        refine lv_iinc (v := x40) (lv' := [(3, .int x40), (0, .ref (g 60)), (1, .int p1), (2, .int p2)]) hx hb dX9_stuck_48 hl (k := 0) rfl (by rw [ex40]; rfl) (by decide) rfl (fun ls hl => ?_)
        refine lv_goto (tgt := 25) hx hb dX9_stuck_51 (by decide) ?_
        have t42 : ((17 : Int) - x40.toInt).toNat < ((17 : Int) - (y20.2.1 0).toInt).toNat := (by have f0 := b24; have f1 := k29; have f2 := t41; have f3 := j9_31 hJ16 rfl; have g0 := rg32 (y20.2.1 0); have g1 := rg32 x40; have z1 : (1 : Int32).toInt = 1 := (by decide); omega)
        exact nl18 (σ31, lf [x40], lg []) ⟨Fr.tr (Fr.tr (Fr.rf) hF22 (fL_sub rfl)) hF33 (fL_sub rfl), hJ34, (show (0 : Int) ≤ (x40 : Int32).toInt ∧ (x40 : Int32).toInt ≤ 16 from (by have f0 := t41; have f1 := b24; have f2 := k29; have f3 := j9_31 hJ16 rfl; have g0 := rg32 x40; have z1 : (1 : Int32).toInt = 1 := (by decide); omega)), (show DK0 (σ31 9) from T36), (show HK (σ31 9) from T37), trivial⟩ (show ((17 : Int) - x40.toInt).toNat < _ from by first | exact t42 | (rw [← eσ21]; exact t42)) _ _ _ hP hS (lv_sub hl [0, 1, 2, 3] rfl)
      ·
        have k43 := peq32 c38
        refine lv_aload_n hx hb dX9_stuck_41 rfl (lv_at hl 1 rfl) ?_
        refine g9_32 hx hb hts hown hK hP (hts _ q1392) dX9_stuck_42 ?_
        refine lv_iload_n hx hb dX9_stuck_45 rfl (lv_at hl 0 rfl) ?_
        obtain ⟨x44, ex44⟩ : ∃ z, (σ13 9).2.2.1 32 (y20.2.1 0).toInt.toNat = z := ⟨_, rfl⟩
        refine l9_32 (x := x44) hx hb hK hP (vpo (by have f0 := b24; have f1 := k29; have f2 := j9_31 hJ16 rfl; have g0 := rg32 (y20.2.1 0); omega)) ((congrFun (((hF33 9 32 rfl).2.2.1).trans ((hF22 9 32 rfl).2.2.1)) _).trans ex44) dX9_stuck_46 ?_
        have t45 := a9_32 hJ16 ex44
        exact W.iret (v := x44) hx hb hr (fun tS ht hW => ⟨⟨x44, σ31, rfl, ⟨Fr.tr (Fr.tr (Fr.tr (Fr.tr (Fr.rf) (sI_f eσ1) (fN_L rfl)) hF15 (fL_sub rfl)) hF22 (fL_sub rfl)) hF33 (fL_sub rfl), hJ34, trivial⟩, (show va_P D clz (WD9 cy g σ31) tS.heap by rw [ht]; exact hP)⟩, hS.F ht⟩) hS.2.2 dX9_stuck_47
  ·
    have k46 := peq32 c10
    refine lv_bipush (v := (-2)) hx hb dX9_stuck_14 (by decide) ?_
    exact W.iret (v := (-2)) hx hb hr (fun tS ht hW => ⟨⟨(-2), σ1, rfl, ⟨Fr.tr (Fr.rf) (sI_f eσ1) (fN_L rfl), hJ2, trivial⟩, (show va_P D clz (WD9 cy g σ1) tS.heap by rw [ht]; exact hP)⟩, hS.F ht⟩) hS.2.2 dX9_stuck_16

theorem q1903 : Cond.code yX9_quick cX9_quick 4 (some .int) ∈ lw_g := lw_gm (List.mem_of_getElem? (i := 1903) (by decide +kernel)) rfl
theorem dX9_quick_0 : decode cX9_quick 0 = .ok (.aload_n 0, 1) := by decide +kernel
theorem dX9_quick_1 : decode cX9_quick 1 = .ok (.iconst 0, 1) := by decide +kernel
theorem dX9_quick_2 : decode cX9_quick 2 = .ok (.putfield 129, 3) := by decide +kernel
theorem dX9_quick_5 : decode cX9_quick 5 = .ok (.aload_n 0, 1) := by decide +kernel
theorem dX9_quick_6 : decode cX9_quick 6 = .ok (.iload_n 1, 1) := by decide +kernel
theorem dX9_quick_7 : decode cX9_quick 7 = .ok (.iload_n 2, 1) := by decide +kernel
theorem dX9_quick_8 : decode cX9_quick 8 = .ok (.invokevirtual 433, 3) := by decide +kernel
theorem dX9_quick_11 : decode cX9_quick 11 = .ok (.ifCond .ne 6, 3) := by decide +kernel
theorem dX9_quick_14 : decode cX9_quick 14 = .ok (.bipush (-2), 2) := by decide +kernel
theorem dX9_quick_16 : decode cX9_quick 16 = .ok (.ireturn, 1) := by decide +kernel
theorem dX9_quick_17 : decode cX9_quick 17 = .ok (.aload_n 0, 1) := by decide +kernel
theorem dX9_quick_18 : decode cX9_quick 18 = .ok (.iload_n 1, 1) := by decide +kernel
theorem dX9_quick_19 : decode cX9_quick 19 = .ok (.iload_n 2, 1) := by decide +kernel
theorem dX9_quick_20 : decode cX9_quick 20 = .ok (.invokevirtual 427, 3) := by decide +kernel
theorem dX9_quick_23 : decode cX9_quick 23 = .ok (.iconst 0, 1) := by decide +kernel
theorem dX9_quick_24 : decode cX9_quick 24 = .ok (.istore_n 3, 1) := by decide +kernel
theorem dX9_quick_25 : decode cX9_quick 25 = .ok (.iload_n 3, 1) := by decide +kernel
theorem dX9_quick_26 : decode cX9_quick 26 = .ok (.bipush 9, 2) := by decide +kernel
theorem dX9_quick_28 : decode cX9_quick 28 = .ok (.if_icmp .gt 23, 3) := by decide +kernel
theorem dX9_quick_31 : decode cX9_quick 31 = .ok (.aload_n 0, 1) := by decide +kernel
theorem dX9_quick_32 : decode cX9_quick 32 = .ok (.iload_n 3, 1) := by decide +kernel
theorem dX9_quick_33 : decode cX9_quick 33 = .ok (.putfield 381, 3) := by decide +kernel
theorem dX9_quick_36 : decode cX9_quick 36 = .ok (.aload_n 0, 1) := by decide +kernel
theorem dX9_quick_37 : decode cX9_quick 37 = .ok (.invokevirtual 430, 3) := by decide +kernel
theorem dX9_quick_40 : decode cX9_quick 40 = .ok (.ifCond .eq 5, 3) := by decide +kernel
theorem dX9_quick_43 : decode cX9_quick 43 = .ok (.iload_n 3, 1) := by decide +kernel
theorem dX9_quick_44 : decode cX9_quick 44 = .ok (.ireturn, 1) := by decide +kernel
theorem dX9_quick_45 : decode cX9_quick 45 = .ok (.iinc 3 1, 3) := by decide +kernel
theorem dX9_quick_48 : decode cX9_quick 48 = .ok (.goto (-23), 3) := by decide +kernel
theorem dX9_quick_51 : decode cX9_quick 51 = .ok (.iconst (-1), 1) := by decide +kernel
theorem dX9_quick_52 : decode cX9_quick 52 = .ok (.ireturn, 1) := by decide +kernel
set_option maxHeartbeats 4000000 in
set_option maxRecDepth 100000 in
theorem m_X9_quick (l : Launch) (D : va_G) (cy : Nat → ClassId) (g : Nat → Nat) (σ : ST) (p1 : Int32) (p2 : Int32) (sz : Nat) (hJ : J9 (σ 9)) (kDK0 : DK0 (σ 9)) : Met l yX9_quick (ww yX9_quick cX9_quick 4 (some .int)) ({ frames := 7, cells := 0, slots := 0, locals := 448 }) (va_Pc [.ref (g 60), .int p1, .int p2] (pr9 D cy g σ sz)) (qi9 D cy g sz (fun r τ => Fr (fL [0, 23, 24, 25, 26, 27, 28, 29, 30, 31, 32, 33, 34, 35, 36, 37, 38, 39, 40, 41]) σ τ ∧ J9 (τ 9) ∧ True)) 0 0 (A9 cy g sz) := by
  refine Met.ofW (cc := cX9_quick) (maxL := 4) (ret := (some .int)) (by decide) rfl ?_
  intro p e s m args below meth c s₁ B hml hv
  obtain ⟨rfl, hsz, hP, hK, hD0, hC⟩ := hv
  have hx := B.exec
  have hb := B.bytes
  have hr := B.returns
  have hts := hts_g (atoms_spec (ws := ww yX9_quick cX9_quick 4 (some .int)) B.pre)
  have hown : s.vm.findClass RX9 = some m.cls := findClass_of_methodNamed B.named
  have hlocks := B.notSynchronized
  clear B
  subst hsz
  have hD := fun τ => A9_D (sz := s.heap.size) hD0 τ
  clear hD0
  have hS : va_S (A9 cy g s.heap.size) s.heap s.heap [] := va_S.rf
  have hl := lv_entry ([.ref (g 60), .int p1, .int p2]) (n := 4) (Nat.le_of_ble_eq_true rfl)
  rw [lg_entry_eq]
  generalize (lg_sl ([.ref (g 60), .int p1, .int p2]) ++ List.replicate (4 - (lg_sl ([.ref (g 60), .int p1, .int p2])).length) Slot.unset).toArray = ls at hl ⊢
  have hl : lv_has ls 4 [(0, .ref (g 60)), (1, .int p1), (2, .int p2)] := hl
  refine lv_aload_n hx hb dX9_quick_0 rfl (lv_at hl 0 rfl) ?_
  refine lv_iconst (v := 0) hx hb dX9_quick_1 (by decide) ?_
  refine p9_0 hx hb hts hown hK hP hD hS (hts _ q1360) dX9_quick_2 (fun H locs σ1 eσ1 hP hS => ?_)
  have hJ2 : J9 (σ1 9) := hJ.I eσ1 (show JI9 0 (0 : Int32) from trivial)
  have T3 : DK0 (σ1 9) := DK0.mv kDK0 ((sI_f eσ1) 9 17 rfl).2.2.1 ((sI_f eσ1) 9 18 rfl).2.2.1 ((sI_f eσ1) 9 19 rfl).2.2.1
  refine lv_aload_n hx hb dX9_quick_5 rfl (lv_at hl 0 rfl) ?_
  refine lv_iload_n hx hb dX9_quick_6 rfl (lv_at hl 1 rfl) ?_
  refine lv_iload_n hx hb dX9_quick_7 rfl (lv_at hl 2 rfl) ?_
  refine va_calli (va_runV (As := [.int p1, .int p2]) (rest := []) ⟨hx, hb, hml, hown, hts⟩ (m_X9_isPlaying l D cy g σ1 p1 p2 _ hJ2 ) (cwV 2 hts (gd_V q1822 q1824 q87 q134 q1825) rfl rfl rfl (by decide +kernel) ⟨Nat.le_of_ble_eq_true rfl, Nat.le_of_ble_eq_true rfl⟩) (pv9 hP hK hD hC hS (va_recv hK hP (ci := 9) (q0 := 0) rfl rfl)) rfl rfl hl.1 rfl (lv_room (Nat.le_of_ble_eq_true rfl)) dX9_quick_8 ⟨Nat.le_of_ble_eq_true rfl, Nat.le_of_ble_eq_true rfl⟩) hS (fun q _ h => up9 hS q h) (up9 hS) (fun r4 σ5 tS H1 locs ht hvm hw6 hB hz1 hk1 hS => ?_)
  have hP : va_P D clz (WD9 cy g σ5) H1 := by rw [← ht]; exact hB
  clear hB hz1 hk1 hvm ht
  generalize H1 = H at hP hS ⊢
  have hw6E : σ1 = σ5 := (hw6.1).symm
  subst hw6E
  have b7 : (0 : Int) ≤ r4.toInt ∧ r4.toInt ≤ 1 := hw6.2.1
  have b8 : (r4.toInt = 0) ∨ ((0 : Int) ≤ p1.toInt ∧ p1.toInt ≤ 8 ∧ (0 : Int) ≤ p2.toInt ∧ p2.toInt ≤ 2) := hw6.2.2.1
  have b9 : (r4.toInt = 0) ∨ (p1.toInt < ((σ1 9).2.2.1 17 3).toInt) := hw6.2.2.2.1
  refine lv_if_ne (tgt := 17) hx hb dX9_quick_11 (by decide) (fun c10 => ?_) (fun c10 => ?_)
  ·
    have k11 := neq32 c10
    refine lv_aload_n hx hb dX9_quick_17 rfl (lv_at hl 0 rfl) ?_
    refine lv_iload_n hx hb dX9_quick_18 rfl (lv_at hl 1 rfl) ?_
    refine lv_iload_n hx hb dX9_quick_19 rfl (lv_at hl 2 rfl) ?_
    refine va_callv (va_runV (As := [.int p1, .int p2]) (rest := []) ⟨hx, hb, hml, hown, hts⟩ (m_X9_lays l D cy g σ1 p1 p2 _ hJ2 T3 (show (0 : Int) ≤ p1.toInt ∧ p1.toInt ≤ 8 from (by have f0 := b8; have f1 := b9; have f2 := a9_17 hJ2 (j := 3) rfl; have f3 := congrArg Int32.toInt (show ((σ1 9).2.2.1 17 3) = ((σ 9).2.2.1 17 3) from congrFun (((sI_f eσ1) 9 17 rfl).2.2.1) _); have f4 := b7; have f5 := k11; have f6 := a9_17 hJ (j := 3) rfl; have g2 := rg32 p1; have z0 : (0 : Int32).toInt = 0 := (by decide); omega)) (show (0 : Int) ≤ p2.toInt ∧ p2.toInt ≤ 2 from (by have f0 := b8; have f1 := b9; have f2 := a9_17 hJ2 (j := 3) rfl; have f3 := congrArg Int32.toInt (show ((σ1 9).2.2.1 17 3) = ((σ 9).2.2.1 17 3) from congrFun (((sI_f eσ1) 9 17 rfl).2.2.1) _); have f4 := b7; have f5 := k11; have f6 := a9_17 hJ (j := 3) rfl; have g2 := rg32 p1; have g3 := rg32 p2; have z0 : (0 : Int32).toInt = 0 := (by decide); omega)) (show p1.toInt < ((σ1 9).2.2.1 17 3).toInt from (by have f0 := a9_17 hJ2 (j := 3) rfl; have f1 := congrArg Int32.toInt (show ((σ1 9).2.2.1 17 3) = ((σ 9).2.2.1 17 3) from congrFun (((sI_f eσ1) 9 17 rfl).2.2.1) _); have f2 := b8; have f3 := b9; have f4 := a9_17 hJ (j := 3) rfl; have f5 := b7; have f6 := k11; have g2 := rg32 p1; have z0 : (0 : Int32).toInt = 0 := (by decide); omega))) (cwV 2 hts (gd_V q1830 q1832 q89 q134 q1833) rfl rfl rfl (by decide +kernel) ⟨Nat.le_of_ble_eq_true rfl, Nat.le_of_ble_eq_true rfl⟩) (pv9 hP hK hD hC hS (va_recv hK hP (ci := 9) (q0 := 0) rfl rfl)) rfl rfl hl.1 rfl (lv_room (Nat.le_of_ble_eq_true rfl)) dX9_quick_20 ⟨Nat.le_of_ble_eq_true rfl, Nat.le_of_ble_eq_true rfl⟩) hS (fun q _ h => up9 hS q h) (up9 hS) (fun σ13 tS H1 locs ht hvm hw14 hB hz1 hk1 hS => ?_)
    have hP : va_P D clz (WD9 cy g σ13) H1 := by rw [← ht]; exact hB
    clear hB hz1 hk1 hvm ht
    generalize H1 = H at hP hS ⊢
    have hF15 : Fr (fL [23, 24, 25, 26, 27, 28, 29, 30, 31, 32, 33, 34]) σ1 σ13 := hw14.1
    have hJ16 : J9 (σ13 9) := hw14.2.1
    have T17 : DK0 (σ13 9) := DK0.mv T3 (hF15 9 17 rfl).2.2.1 (hF15 9 18 rfl).2.2.1 (hF15 9 19 rfl).2.2.1
    refine lv_iconst (v := 0) hx hb dX9_quick_23 (by decide) ?_
    refine lv_istore_n (lv' := [(3, .int 0), (0, .ref (g 60)), (1, .int p1), (2, .int p2)]) hx hb dX9_quick_24 rfl hl (by decide) rfl (fun ls hl => ?_)
    refine loop9 4 25 (fun x : LZ => [(3, .int (x.2.1 0)), (0, .ref (g 60)), (1, .int p1), (2, .int p2)]) (fun x : LZ => (Fr (fL [30, 35, 36, 37, 38, 39, 40, 41]) σ13 x.1) ∧ (J9 (x.1 9)) ∧ ((0 : Int) ≤ (x.2.1 0).toInt ∧ (x.2.1 0).toInt ≤ 11) ∧ (DK0 (x.1 9)) ∧ (HK (x.1 9)) ∧ True) (fun x : LZ => ((12 : Int) - (x.2.1 0).toInt).toNat) ?_ (σ13, lf [0], lg []) ⟨Fr.rf, hJ16, (show (0 : Int) ≤ (0 : Int32).toInt ∧ (0 : Int32).toInt ≤ 11 from (by have z0 : (0 : Int32).toInt = 0 := (by decide); omega)), (show DK0 (σ13 9) from T17), (show HK (σ13 9) from hw14.2.2.1), trivial⟩ _ _ _ hP hS (lv_sub hl [0, 1, 2, 3] rfl)
    intro y20 hI19 nl18 H locs ls hP hS hl
    obtain ⟨σ21, eσ21⟩ : ∃ z, z = y20.1 := ⟨_, rfl⟩
    rw [← eσ21] at hP hI19
    have hF22 : Fr (fL [30, 35, 36, 37, 38, 39, 40, 41]) σ13 σ21 := hI19.1
    have hJ23 : J9 (σ21 9) := hI19.2.1
    have b24 : (0 : Int) ≤ (y20.2.1 0).toInt ∧ (y20.2.1 0).toInt ≤ 11 := hI19.2.2.1
    have b25 : DK0 (σ21 9) := hI19.2.2.2.1
    have b26 : HK (σ21 9) := hI19.2.2.2.2.1
    have hl : lv_has ls 4 [(3, .int (y20.2.1 0)), (0, .ref (g 60)), (1, .int p1), (2, .int p2)] := hl
    refine lv_iload_n hx hb dX9_quick_25 rfl (lv_at hl 0 rfl) ?_
    refine lv_bipush (v := 9) hx hb dX9_quick_26 (by decide) ?_
    refine lv_icmp_gt (tgt := 51) hx hb dX9_quick_28 (by decide) (fun c27 => ?_) (fun c27 => ?_)
    ·
      have k28 := plt32 c27
      refine lv_iconst (v := (-1)) hx hb dX9_quick_51 (by decide) ?_
      exact W.iret (v := (-1)) hx hb hr (fun tS ht hW => ⟨⟨(-1), σ21, rfl, ⟨Fr.tr (Fr.tr (Fr.tr (Fr.rf) (sI_f eσ1) (fN_L rfl)) hF15 (fL_sub rfl)) hF22 (fL_sub rfl), hJ23, trivial⟩, (show va_P D clz (WD9 cy g σ21) tS.heap by rw [ht]; exact hP)⟩, hS.F ht⟩) hS.2.2 dX9_quick_52
    ·
      have k29 := nlt32 c27
      refine lv_aload_n hx hb dX9_quick_31 rfl (lv_at hl 1 rfl) ?_
      refine lv_iload_n hx hb dX9_quick_32 rfl (lv_at hl 0 rfl) ?_
      refine p9_30 hx hb hts hown hK hP hD hS (hts _ q1390) dX9_quick_33 (fun H locs σ30 eσ30 hP hS => ?_)
      have hJ31 : J9 (σ30 9) := hJ23.I eσ30 (show JI9 30 (y20.2.1 0) from trivial)
      have T32 : DK0 (σ30 9) := DK0.mv b25 ((sI_f eσ30) 9 17 rfl).2.2.1 ((sI_f eσ30) 9 18 rfl).2.2.1 ((sI_f eσ30) 9 19 rfl).2.2.1
      have T33 : HK (σ30 9) := HK.mv b26 ((sI_f eσ30) 9 18 rfl).2.2.1 ((sI_f eσ30) 9 28 rfl).1
      refine lv_aload_n hx hb dX9_quick_36 rfl (lv_at hl 1 rfl) ?_
      refine va_calli (va_runV (As := []) (rest := []) ⟨hx, hb, hml, hown, hts⟩ (m_X9_isPlay l D cy g σ30  _ hJ31 ) (cwV 0 hts (gd_V q1846 q1848 q93 q134 q1849) rfl rfl rfl (by decide +kernel) ⟨Nat.le_of_ble_eq_true rfl, Nat.le_of_ble_eq_true rfl⟩) (pv9 hP hK hD hC hS (va_recv hK hP (ci := 9) (q0 := 0) rfl rfl)) rfl rfl hl.1 rfl (lv_room (Nat.le_of_ble_eq_true rfl)) dX9_quick_37 ⟨Nat.le_of_ble_eq_true rfl, Nat.le_of_ble_eq_true rfl⟩) hS (fun q _ h => up9 hS q h) (up9 hS) (fun r34 σ35 tS H1 locs ht hvm hw36 hB hz1 hk1 hS => ?_)
      have hP : va_P D clz (WD9 cy g σ35) H1 := by rw [← ht]; exact hB
      clear hB hz1 hk1 hvm ht
      generalize H1 = H at hP hS ⊢
      have hF37 : Fr (fL [35, 36, 37, 38, 39, 40, 41]) σ30 σ35 := hw36.1
      have hJ38 : J9 (σ35 9) := hw36.2.1
      have b39 : (0 : Int) ≤ r34.toInt ∧ r34.toInt ≤ 1 := hw36.2.2.1
      have T40 : DK0 (σ35 9) := DK0.mv T32 (hF37 9 17 rfl).2.2.1 (hF37 9 18 rfl).2.2.1 (hF37 9 19 rfl).2.2.1
      have T41 : HK (σ35 9) := HK.mv T33 (hF37 9 18 rfl).2.2.1 (hF37 9 28 rfl).1
      refine lv_if_eq (tgt := 45) hx hb dX9_quick_40 (by decide) (fun c42 => ?_) (fun c42 => ?_)
      ·
        have k43 := peq32 c42
        obtain ⟨x44, ex44⟩ : ∃ y : Int32, y = (y20.2.1 0) + 1 := ⟨_, rfl⟩
        have t45 := addO ex44 (by have f0 := b24; have f1 := k29; have g0 := rg32 (y20.2.1 0); have z1 : (1 : Int32).toInt = 1 := (by decide); have z9 : (9 : Int32).toInt = 9 := (by decide); omega)
        refine lv_iinc (v := x44) (lv' := [(3, .int x44), (0, .ref (g 60)), (1, .int p1), (2, .int p2)]) hx hb dX9_quick_45 hl (k := 0) rfl (by rw [ex44]; rfl) (by decide) rfl (fun ls hl => ?_)
        refine lv_goto (tgt := 25) hx hb dX9_quick_48 (by decide) ?_
        have t46 : ((12 : Int) - x44.toInt).toNat < ((12 : Int) - (y20.2.1 0).toInt).toNat := (by have f0 := b24; have f1 := k29; have f2 := t45; have g0 := rg32 (y20.2.1 0); have g1 := rg32 x44; have z1 : (1 : Int32).toInt = 1 := (by decide); have z9 : (9 : Int32).toInt = 9 := (by decide); omega)
        exact nl18 (σ35, lf [x44], lg []) ⟨Fr.tr (Fr.tr (Fr.tr (Fr.rf) hF22 (fL_sub rfl)) (sI_f eσ30) (fN_L rfl)) hF37 (fL_sub rfl), hJ38, (show (0 : Int) ≤ (x44 : Int32).toInt ∧ (x44 : Int32).toInt ≤ 11 from (by have f0 := t45; have f1 := b24; have f2 := k29; have g0 := rg32 x44; have z1 : (1 : Int32).toInt = 1 := (by decide); have z9 : (9 : Int32).toInt = 9 := (by decide); omega)), (show DK0 (σ35 9) from T40), (show HK (σ35 9) from T41), trivial⟩ (show ((12 : Int) - x44.toInt).toNat < _ from by first | exact t46 | (rw [← eσ21]; exact t46)) _ _ _ hP hS (lv_sub hl [0, 1, 2, 3] rfl)
      ·
        have k47 := neq32 c42
        refine lv_iload_n hx hb dX9_quick_43 rfl (lv_at hl 0 rfl) ?_
        exact W.iret (v := (y20.2.1 0)) hx hb hr (fun tS ht hW => ⟨⟨(y20.2.1 0), σ35, rfl, ⟨Fr.tr (Fr.tr (Fr.tr (Fr.tr (Fr.tr (Fr.rf) (sI_f eσ1) (fN_L rfl)) hF15 (fL_sub rfl)) hF22 (fL_sub rfl)) (sI_f eσ30) (fN_L rfl)) hF37 (fL_sub rfl), hJ38, trivial⟩, (show va_P D clz (WD9 cy g σ35) tS.heap by rw [ht]; exact hP)⟩, hS.F ht⟩) hS.2.2 dX9_quick_44
  ·
    have k48 := peq32 c10
    refine lv_bipush (v := (-2)) hx hb dX9_quick_14 (by decide) ?_
    exact W.iret (v := (-2)) hx hb hr (fun tS ht hW => ⟨⟨(-2), σ1, rfl, ⟨Fr.tr (Fr.rf) (sI_f eσ1) (fN_L rfl), hJ2, trivial⟩, (show va_P D clz (WD9 cy g σ1) tS.heap by rw [ht]; exact hP)⟩, hS.F ht⟩) hS.2.2 dX9_quick_16

theorem q1907 : Cond.code yX9_cents cX9_cents 4 (some .int) ∈ lw_g := lw_gm (List.mem_of_getElem? (i := 1907) (by decide +kernel)) rfl
theorem dX9_cents_0 : decode cX9_cents 0 = .ok (.aload_n 0, 1) := by decide +kernel
theorem dX9_cents_1 : decode cX9_cents 1 = .ok (.iconst 0, 1) := by decide +kernel
theorem dX9_cents_2 : decode cX9_cents 2 = .ok (.putfield 129, 3) := by decide +kernel
theorem dX9_cents_5 : decode cX9_cents 5 = .ok (.aload_n 0, 1) := by decide +kernel
theorem dX9_cents_6 : decode cX9_cents 6 = .ok (.iload_n 1, 1) := by decide +kernel
theorem dX9_cents_7 : decode cX9_cents 7 = .ok (.iload_n 2, 1) := by decide +kernel
theorem dX9_cents_8 : decode cX9_cents 8 = .ok (.invokevirtual 433, 3) := by decide +kernel
theorem dX9_cents_11 : decode cX9_cents 11 = .ok (.ifCond .ne 6, 3) := by decide +kernel
theorem dX9_cents_14 : decode cX9_cents 14 = .ok (.bipush (-2), 2) := by decide +kernel
theorem dX9_cents_16 : decode cX9_cents 16 = .ok (.ireturn, 1) := by decide +kernel
theorem dX9_cents_17 : decode cX9_cents 17 = .ok (.aload_n 0, 1) := by decide +kernel
theorem dX9_cents_18 : decode cX9_cents 18 = .ok (.iload_n 1, 1) := by decide +kernel
theorem dX9_cents_19 : decode cX9_cents 19 = .ok (.iload_n 2, 1) := by decide +kernel
theorem dX9_cents_20 : decode cX9_cents 20 = .ok (.invokevirtual 393, 3) := by decide +kernel
theorem dX9_cents_23 : decode cX9_cents 23 = .ok (.iconst 1, 1) := by decide +kernel
theorem dX9_cents_24 : decode cX9_cents 24 = .ok (.istore_n 3, 1) := by decide +kernel
theorem dX9_cents_25 : decode cX9_cents 25 = .ok (.iload_n 3, 1) := by decide +kernel
theorem dX9_cents_26 : decode cX9_cents 26 = .ok (.bipush 60, 2) := by decide +kernel
theorem dX9_cents_28 : decode cX9_cents 28 = .ok (.if_icmp .gt 24, 3) := by decide +kernel
theorem dX9_cents_31 : decode cX9_cents 31 = .ok (.aload_n 0, 1) := by decide +kernel
theorem dX9_cents_32 : decode cX9_cents 32 = .ok (.iload_n 3, 1) := by decide +kernel
theorem dX9_cents_33 : decode cX9_cents 33 = .ok (.iconst 0, 1) := by decide +kernel
theorem dX9_cents_34 : decode cX9_cents 34 = .ok (.invokevirtual 396, 3) := by decide +kernel
theorem dX9_cents_37 : decode cX9_cents 37 = .ok (.aload_n 0, 1) := by decide +kernel
theorem dX9_cents_38 : decode cX9_cents 38 = .ok (.invokevirtual 430, 3) := by decide +kernel
theorem dX9_cents_41 : decode cX9_cents 41 = .ok (.ifCond .eq 5, 3) := by decide +kernel
theorem dX9_cents_44 : decode cX9_cents 44 = .ok (.iload_n 3, 1) := by decide +kernel
theorem dX9_cents_45 : decode cX9_cents 45 = .ok (.ireturn, 1) := by decide +kernel
theorem dX9_cents_46 : decode cX9_cents 46 = .ok (.iinc 3 1, 3) := by decide +kernel
theorem dX9_cents_49 : decode cX9_cents 49 = .ok (.goto (-24), 3) := by decide +kernel
theorem dX9_cents_52 : decode cX9_cents 52 = .ok (.iconst (-1), 1) := by decide +kernel
theorem dX9_cents_53 : decode cX9_cents 53 = .ok (.ireturn, 1) := by decide +kernel
set_option maxHeartbeats 4000000 in
set_option maxRecDepth 100000 in
theorem m_X9_cents (l : Launch) (D : va_G) (cy : Nat → ClassId) (g : Nat → Nat) (σ : ST) (p1 : Int32) (p2 : Int32) (sz : Nat) (hJ : J9 (σ 9)) (kDK0 : DK0 (σ 9)) : Met l yX9_cents (ww yX9_cents cX9_cents 4 (some .int)) ({ frames := 7, cells := 0, slots := 0, locals := 448 }) (va_Pc [.ref (g 60), .int p1, .int p2] (pr9 D cy g σ sz)) (qi9 D cy g sz (fun r τ => Fr (fL [0, 23, 24, 25, 26, 27, 28, 29, 30, 31, 32, 33, 34, 35, 36, 37, 38, 39, 40, 41]) σ τ ∧ J9 (τ 9) ∧ True)) 0 0 (A9 cy g sz) := by
  refine Met.ofW (cc := cX9_cents) (maxL := 4) (ret := (some .int)) (by decide) rfl ?_
  intro p e s m args below meth c s₁ B hml hv
  obtain ⟨rfl, hsz, hP, hK, hD0, hC⟩ := hv
  have hx := B.exec
  have hb := B.bytes
  have hr := B.returns
  have hts := hts_g (atoms_spec (ws := ww yX9_cents cX9_cents 4 (some .int)) B.pre)
  have hown : s.vm.findClass RX9 = some m.cls := findClass_of_methodNamed B.named
  have hlocks := B.notSynchronized
  clear B
  subst hsz
  have hD := fun τ => A9_D (sz := s.heap.size) hD0 τ
  clear hD0
  have hS : va_S (A9 cy g s.heap.size) s.heap s.heap [] := va_S.rf
  have hl := lv_entry ([.ref (g 60), .int p1, .int p2]) (n := 4) (Nat.le_of_ble_eq_true rfl)
  rw [lg_entry_eq]
  generalize (lg_sl ([.ref (g 60), .int p1, .int p2]) ++ List.replicate (4 - (lg_sl ([.ref (g 60), .int p1, .int p2])).length) Slot.unset).toArray = ls at hl ⊢
  have hl : lv_has ls 4 [(0, .ref (g 60)), (1, .int p1), (2, .int p2)] := hl
  refine lv_aload_n hx hb dX9_cents_0 rfl (lv_at hl 0 rfl) ?_
  refine lv_iconst (v := 0) hx hb dX9_cents_1 (by decide) ?_
  refine p9_0 hx hb hts hown hK hP hD hS (hts _ q1360) dX9_cents_2 (fun H locs σ1 eσ1 hP hS => ?_)
  have hJ2 : J9 (σ1 9) := hJ.I eσ1 (show JI9 0 (0 : Int32) from trivial)
  have T3 : DK0 (σ1 9) := DK0.mv kDK0 ((sI_f eσ1) 9 17 rfl).2.2.1 ((sI_f eσ1) 9 18 rfl).2.2.1 ((sI_f eσ1) 9 19 rfl).2.2.1
  refine lv_aload_n hx hb dX9_cents_5 rfl (lv_at hl 0 rfl) ?_
  refine lv_iload_n hx hb dX9_cents_6 rfl (lv_at hl 1 rfl) ?_
  refine lv_iload_n hx hb dX9_cents_7 rfl (lv_at hl 2 rfl) ?_
  refine va_calli (va_runV (As := [.int p1, .int p2]) (rest := []) ⟨hx, hb, hml, hown, hts⟩ (m_X9_isPlaying l D cy g σ1 p1 p2 _ hJ2 ) (cwV 2 hts (gd_V q1822 q1824 q87 q134 q1825) rfl rfl rfl (by decide +kernel) ⟨Nat.le_of_ble_eq_true rfl, Nat.le_of_ble_eq_true rfl⟩) (pv9 hP hK hD hC hS (va_recv hK hP (ci := 9) (q0 := 0) rfl rfl)) rfl rfl hl.1 rfl (lv_room (Nat.le_of_ble_eq_true rfl)) dX9_cents_8 ⟨Nat.le_of_ble_eq_true rfl, Nat.le_of_ble_eq_true rfl⟩) hS (fun q _ h => up9 hS q h) (up9 hS) (fun r4 σ5 tS H1 locs ht hvm hw6 hB hz1 hk1 hS => ?_)
  have hP : va_P D clz (WD9 cy g σ5) H1 := by rw [← ht]; exact hB
  clear hB hz1 hk1 hvm ht
  generalize H1 = H at hP hS ⊢
  have hw6E : σ1 = σ5 := (hw6.1).symm
  subst hw6E
  have b7 : (0 : Int) ≤ r4.toInt ∧ r4.toInt ≤ 1 := hw6.2.1
  have b8 : (r4.toInt = 0) ∨ ((0 : Int) ≤ p1.toInt ∧ p1.toInt ≤ 8 ∧ (0 : Int) ≤ p2.toInt ∧ p2.toInt ≤ 2) := hw6.2.2.1
  have b9 : (r4.toInt = 0) ∨ (p1.toInt < ((σ1 9).2.2.1 17 3).toInt) := hw6.2.2.2.1
  refine lv_if_ne (tgt := 17) hx hb dX9_cents_11 (by decide) (fun c10 => ?_) (fun c10 => ?_)
  ·
    have k11 := neq32 c10
    refine lv_aload_n hx hb dX9_cents_17 rfl (lv_at hl 0 rfl) ?_
    refine lv_iload_n hx hb dX9_cents_18 rfl (lv_at hl 1 rfl) ?_
    refine lv_iload_n hx hb dX9_cents_19 rfl (lv_at hl 2 rfl) ?_
    refine va_callv (va_runV (As := [.int p1, .int p2]) (rest := []) ⟨hx, hb, hml, hown, hts⟩ (m_X9_laysPart l D cy g σ1 p1 p2 _ hJ2 T3 (show (0 : Int) ≤ p1.toInt ∧ p1.toInt ≤ 8 from (by have f0 := b8; have f1 := b9; have f2 := a9_17 hJ2 (j := 3) rfl; have f3 := congrArg Int32.toInt (show ((σ1 9).2.2.1 17 3) = ((σ 9).2.2.1 17 3) from congrFun (((sI_f eσ1) 9 17 rfl).2.2.1) _); have f4 := b7; have f5 := k11; have f6 := a9_17 hJ (j := 3) rfl; have g2 := rg32 p1; have z0 : (0 : Int32).toInt = 0 := (by decide); omega)) (show (0 : Int) ≤ p2.toInt ∧ p2.toInt ≤ 2 from (by have f0 := b8; have f1 := b9; have f2 := a9_17 hJ2 (j := 3) rfl; have f3 := congrArg Int32.toInt (show ((σ1 9).2.2.1 17 3) = ((σ 9).2.2.1 17 3) from congrFun (((sI_f eσ1) 9 17 rfl).2.2.1) _); have f4 := b7; have f5 := k11; have f6 := a9_17 hJ (j := 3) rfl; have g2 := rg32 p1; have g3 := rg32 p2; have z0 : (0 : Int32).toInt = 0 := (by decide); omega)) (show p1.toInt < ((σ1 9).2.2.1 17 3).toInt from (by have f0 := a9_17 hJ2 (j := 3) rfl; have f1 := congrArg Int32.toInt (show ((σ1 9).2.2.1 17 3) = ((σ 9).2.2.1 17 3) from congrFun (((sI_f eσ1) 9 17 rfl).2.2.1) _); have f2 := b8; have f3 := b9; have f4 := a9_17 hJ (j := 3) rfl; have f5 := b7; have f6 := k11; have g2 := rg32 p1; have z0 : (0 : Int32).toInt = 0 := (by decide); omega))) (cwV 2 hts (gd_V q1834 q1836 q90 q134 q1837) rfl rfl rfl (by decide +kernel) ⟨Nat.le_of_ble_eq_true rfl, Nat.le_of_ble_eq_true rfl⟩) (pv9 hP hK hD hC hS (va_recv hK hP (ci := 9) (q0 := 0) rfl rfl)) rfl rfl hl.1 rfl (lv_room (Nat.le_of_ble_eq_true rfl)) dX9_cents_20 ⟨Nat.le_of_ble_eq_true rfl, Nat.le_of_ble_eq_true rfl⟩) hS (fun q _ h => up9 hS q h) (up9 hS) (fun σ13 tS H1 locs ht hvm hw14 hB hz1 hk1 hS => ?_)
    have hP : va_P D clz (WD9 cy g σ13) H1 := by rw [← ht]; exact hB
    clear hB hz1 hk1 hvm ht
    generalize H1 = H at hP hS ⊢
    have hF15 : Fr (fL [28, 29, 30, 31, 32, 33, 34]) σ1 σ13 := hw14.1
    have hJ16 : J9 (σ13 9) := hw14.2.1
    have T17 : DK0 (σ13 9) := DK0.mv T3 (hF15 9 17 rfl).2.2.1 (hF15 9 18 rfl).2.2.1 (hF15 9 19 rfl).2.2.1
    refine lv_iconst (v := 1) hx hb dX9_cents_23 (by decide) ?_
    refine lv_istore_n (lv' := [(3, .int 1), (0, .ref (g 60)), (1, .int p1), (2, .int p2)]) hx hb dX9_cents_24 rfl hl (by decide) rfl (fun ls hl => ?_)
    refine loop9 4 25 (fun x : LZ => [(3, .int (x.2.1 0)), (0, .ref (g 60)), (1, .int p1), (2, .int p2)]) (fun x : LZ => (Fr (fL [23, 24, 25, 26, 27, 35, 36, 37, 38, 39, 40, 41]) σ13 x.1) ∧ (J9 (x.1 9)) ∧ ((1 : Int) ≤ (x.2.1 0).toInt ∧ (x.2.1 0).toInt ≤ 61) ∧ (DK0 (x.1 9)) ∧ (HK (x.1 9)) ∧ True) (fun x : LZ => ((62 : Int) - (x.2.1 0).toInt).toNat) ?_ (σ13, lf [1], lg []) ⟨Fr.rf, hJ16, (show (1 : Int) ≤ (1 : Int32).toInt ∧ (1 : Int32).toInt ≤ 61 from (by have z1 : (1 : Int32).toInt = 1 := (by decide); omega)), (show DK0 (σ13 9) from T17), (show HK (σ13 9) from hw14.2.2.1), trivial⟩ _ _ _ hP hS (lv_sub hl [0, 1, 2, 3] rfl)
    intro y20 hI19 nl18 H locs ls hP hS hl
    obtain ⟨σ21, eσ21⟩ : ∃ z, z = y20.1 := ⟨_, rfl⟩
    rw [← eσ21] at hP hI19
    have hF22 : Fr (fL [23, 24, 25, 26, 27, 35, 36, 37, 38, 39, 40, 41]) σ13 σ21 := hI19.1
    have hJ23 : J9 (σ21 9) := hI19.2.1
    have b24 : (1 : Int) ≤ (y20.2.1 0).toInt ∧ (y20.2.1 0).toInt ≤ 61 := hI19.2.2.1
    have b25 : DK0 (σ21 9) := hI19.2.2.2.1
    have b26 : HK (σ21 9) := hI19.2.2.2.2.1
    have hl : lv_has ls 4 [(3, .int (y20.2.1 0)), (0, .ref (g 60)), (1, .int p1), (2, .int p2)] := hl
    refine lv_iload_n hx hb dX9_cents_25 rfl (lv_at hl 0 rfl) ?_
    refine lv_bipush (v := 60) hx hb dX9_cents_26 (by decide) ?_
    refine lv_icmp_gt (tgt := 52) hx hb dX9_cents_28 (by decide) (fun c27 => ?_) (fun c27 => ?_)
    ·
      have k28 := plt32 c27
      refine lv_iconst (v := (-1)) hx hb dX9_cents_52 (by decide) ?_
      exact W.iret (v := (-1)) hx hb hr (fun tS ht hW => ⟨⟨(-1), σ21, rfl, ⟨Fr.tr (Fr.tr (Fr.tr (Fr.rf) (sI_f eσ1) (fN_L rfl)) hF15 (fL_sub rfl)) hF22 (fL_sub rfl), hJ23, trivial⟩, (show va_P D clz (WD9 cy g σ21) tS.heap by rw [ht]; exact hP)⟩, hS.F ht⟩) hS.2.2 dX9_cents_53
    ·
      have k29 := nlt32 c27
      refine lv_aload_n hx hb dX9_cents_31 rfl (lv_at hl 1 rfl) ?_
      refine lv_iload_n hx hb dX9_cents_32 rfl (lv_at hl 0 rfl) ?_
      refine lv_iconst (v := 0) hx hb dX9_cents_33 (by decide) ?_
      refine va_callv (va_runV (As := [.int (y20.2.1 0), .int 0]) (rest := []) ⟨hx, hb, hml, hown, hts⟩ (m_X9_laysAll l D cy g σ21 (y20.2.1 0) (0) _ hJ23 b26) (cwV 2 hts (gd_V q1842 q1844 q92 q134 q1845) rfl rfl rfl (by decide +kernel) ⟨Nat.le_of_ble_eq_true rfl, Nat.le_of_ble_eq_true rfl⟩) (pv9 hP hK hD hC hS (va_recv hK hP (ci := 9) (q0 := 0) rfl rfl)) rfl rfl hl.1 rfl (lv_room (Nat.le_of_ble_eq_true rfl)) dX9_cents_34 ⟨Nat.le_of_ble_eq_true rfl, Nat.le_of_ble_eq_true rfl⟩) hS (fun q _ h => up9 hS q h) (up9 hS) (fun σ31 tS H1 locs ht hvm hw32 hB hz1 hk1 hS => ?_)
      have hP : va_P D clz (WD9 cy g σ31) H1 := by rw [← ht]; exact hB
      clear hB hz1 hk1 hvm ht
      generalize H1 = H at hP hS ⊢
      have hF33 : Fr (fL [23, 24, 25, 26, 27]) σ21 σ31 := hw32.1
      have hJ34 : J9 (σ31 9) := hw32.2.1
      have T35 : DK0 (σ31 9) := DK0.mv b25 (hF33 9 17 rfl).2.2.1 (hF33 9 18 rfl).2.2.1 (hF33 9 19 rfl).2.2.1
      have T36 : HK (σ31 9) := HK.mv b26 (hF33 9 18 rfl).2.2.1 (hF33 9 28 rfl).1
      refine lv_aload_n hx hb dX9_cents_37 rfl (lv_at hl 1 rfl) ?_
      refine va_calli (va_runV (As := []) (rest := []) ⟨hx, hb, hml, hown, hts⟩ (m_X9_isPlay l D cy g σ31  _ hJ34 ) (cwV 0 hts (gd_V q1846 q1848 q93 q134 q1849) rfl rfl rfl (by decide +kernel) ⟨Nat.le_of_ble_eq_true rfl, Nat.le_of_ble_eq_true rfl⟩) (pv9 hP hK hD hC hS (va_recv hK hP (ci := 9) (q0 := 0) rfl rfl)) rfl rfl hl.1 rfl (lv_room (Nat.le_of_ble_eq_true rfl)) dX9_cents_38 ⟨Nat.le_of_ble_eq_true rfl, Nat.le_of_ble_eq_true rfl⟩) hS (fun q _ h => up9 hS q h) (up9 hS) (fun r37 σ38 tS H1 locs ht hvm hw39 hB hz1 hk1 hS => ?_)
      have hP : va_P D clz (WD9 cy g σ38) H1 := by rw [← ht]; exact hB
      clear hB hz1 hk1 hvm ht
      generalize H1 = H at hP hS ⊢
      have hF40 : Fr (fL [35, 36, 37, 38, 39, 40, 41]) σ31 σ38 := hw39.1
      have hJ41 : J9 (σ38 9) := hw39.2.1
      have b42 : (0 : Int) ≤ r37.toInt ∧ r37.toInt ≤ 1 := hw39.2.2.1
      have T43 : DK0 (σ38 9) := DK0.mv T35 (hF40 9 17 rfl).2.2.1 (hF40 9 18 rfl).2.2.1 (hF40 9 19 rfl).2.2.1
      have T44 : HK (σ38 9) := HK.mv T36 (hF40 9 18 rfl).2.2.1 (hF40 9 28 rfl).1
      refine lv_if_eq (tgt := 46) hx hb dX9_cents_41 (by decide) (fun c45 => ?_) (fun c45 => ?_)
      ·
        have k46 := peq32 c45
        obtain ⟨x47, ex47⟩ : ∃ y : Int32, y = (y20.2.1 0) + 1 := ⟨_, rfl⟩
        have t48 := addO ex47 (by have f0 := b24; have f1 := k29; have g0 := rg32 (y20.2.1 0); have z1 : (1 : Int32).toInt = 1 := (by decide); have z60 : (60 : Int32).toInt = 60 := (by decide); omega)
        refine lv_iinc (v := x47) (lv' := [(3, .int x47), (0, .ref (g 60)), (1, .int p1), (2, .int p2)]) hx hb dX9_cents_46 hl (k := 0) rfl (by rw [ex47]; rfl) (by decide) rfl (fun ls hl => ?_)
        refine lv_goto (tgt := 25) hx hb dX9_cents_49 (by decide) ?_
        have t49 : ((62 : Int) - x47.toInt).toNat < ((62 : Int) - (y20.2.1 0).toInt).toNat := (by have f0 := b24; have f1 := k29; have f2 := t48; have g0 := rg32 (y20.2.1 0); have g1 := rg32 x47; have z1 : (1 : Int32).toInt = 1 := (by decide); have z60 : (60 : Int32).toInt = 60 := (by decide); omega)
        exact nl18 (σ38, lf [x47], lg []) ⟨Fr.tr (Fr.tr (Fr.tr (Fr.rf) hF22 (fL_sub rfl)) hF33 (fL_sub rfl)) hF40 (fL_sub rfl), hJ41, (show (1 : Int) ≤ (x47 : Int32).toInt ∧ (x47 : Int32).toInt ≤ 61 from (by have f0 := t48; have f1 := b24; have f2 := k29; have g0 := rg32 x47; have z1 : (1 : Int32).toInt = 1 := (by decide); have z60 : (60 : Int32).toInt = 60 := (by decide); omega)), (show DK0 (σ38 9) from T43), (show HK (σ38 9) from T44), trivial⟩ (show ((62 : Int) - x47.toInt).toNat < _ from by first | exact t49 | (rw [← eσ21]; exact t49)) _ _ _ hP hS (lv_sub hl [0, 1, 2, 3] rfl)
      ·
        have k50 := neq32 c45
        refine lv_iload_n hx hb dX9_cents_44 rfl (lv_at hl 0 rfl) ?_
        exact W.iret (v := (y20.2.1 0)) hx hb hr (fun tS ht hW => ⟨⟨(y20.2.1 0), σ38, rfl, ⟨Fr.tr (Fr.tr (Fr.tr (Fr.tr (Fr.tr (Fr.rf) (sI_f eσ1) (fN_L rfl)) hF15 (fL_sub rfl)) hF22 (fL_sub rfl)) hF33 (fL_sub rfl)) hF40 (fL_sub rfl), hJ41, trivial⟩, (show va_P D clz (WD9 cy g σ38) tS.heap by rw [ht]; exact hP)⟩, hS.F ht⟩) hS.2.2 dX9_cents_45
  ·
    have k51 := peq32 c10
    refine lv_bipush (v := (-2)) hx hb dX9_cents_14 (by decide) ?_
    exact W.iret (v := (-2)) hx hb hr (fun tS ht hW => ⟨⟨(-2), σ1, rfl, ⟨Fr.tr (Fr.rf) (sI_f eσ1) (fN_L rfl), hJ2, trivial⟩, (show va_P D clz (WD9 cy g σ1) tS.heap by rw [ht]; exact hP)⟩, hS.F ht⟩) hS.2.2 dX9_cents_16

theorem q1911 : Cond.code yX9_many cX9_many 3 (some .int) ∈ lw_g := lw_gm (List.mem_of_getElem? (i := 1911) (by decide +kernel)) rfl
theorem dX9_many_0 : decode cX9_many 0 = .ok (.aload_n 0, 1) := by decide +kernel
theorem dX9_many_1 : decode cX9_many 1 = .ok (.iconst 0, 1) := by decide +kernel
theorem dX9_many_2 : decode cX9_many 2 = .ok (.putfield 129, 3) := by decide +kernel
theorem dX9_many_5 : decode cX9_many 5 = .ok (.aload_n 0, 1) := by decide +kernel
theorem dX9_many_6 : decode cX9_many 6 = .ok (.iload_n 1, 1) := by decide +kernel
theorem dX9_many_7 : decode cX9_many 7 = .ok (.iload_n 2, 1) := by decide +kernel
theorem dX9_many_8 : decode cX9_many 8 = .ok (.invokevirtual 433, 3) := by decide +kernel
theorem dX9_many_11 : decode cX9_many 11 = .ok (.ifCond .ne 6, 3) := by decide +kernel
theorem dX9_many_14 : decode cX9_many 14 = .ok (.bipush (-2), 2) := by decide +kernel
theorem dX9_many_16 : decode cX9_many 16 = .ok (.ireturn, 1) := by decide +kernel
theorem dX9_many_17 : decode cX9_many 17 = .ok (.aload_n 0, 1) := by decide +kernel
theorem dX9_many_18 : decode cX9_many 18 = .ok (.iload_n 1, 1) := by decide +kernel
theorem dX9_many_19 : decode cX9_many 19 = .ok (.iload_n 2, 1) := by decide +kernel
theorem dX9_many_20 : decode cX9_many 20 = .ok (.invokevirtual 436, 3) := by decide +kernel
theorem dX9_many_23 : decode cX9_many 23 = .ok (.pop, 1) := by decide +kernel
theorem dX9_many_24 : decode cX9_many 24 = .ok (.aload_n 0, 1) := by decide +kernel
theorem dX9_many_25 : decode cX9_many 25 = .ok (.getfield 421, 3) := by decide +kernel
theorem dX9_many_28 : decode cX9_many 28 = .ok (.ldc2_w 408, 3) := by decide +kernel
theorem dX9_many_31 : decode cX9_many 31 = .ok (.lcmp, 1) := by decide +kernel
theorem dX9_many_32 : decode cX9_many 32 = .ok (.ifCond .le 8, 3) := by decide +kernel
theorem dX9_many_35 : decode cX9_many 35 = .ok (.bipush (-3), 2) := by decide +kernel
theorem dX9_many_37 : decode cX9_many 37 = .ok (.goto 8, 3) := by decide +kernel
theorem dX9_many_40 : decode cX9_many 40 = .ok (.aload_n 0, 1) := by decide +kernel
theorem dX9_many_41 : decode cX9_many 41 = .ok (.getfield 421, 3) := by decide +kernel
theorem dX9_many_44 : decode cX9_many 44 = .ok (.l2i, 1) := by decide +kernel
theorem dX9_many_45 : decode cX9_many 45 = .ok (.ireturn, 1) := by decide +kernel
set_option maxHeartbeats 4000000 in
set_option maxRecDepth 100000 in
theorem m_X9_many (l : Launch) (D : va_G) (cy : Nat → ClassId) (g : Nat → Nat) (σ : ST) (p1 : Int32) (p2 : Int32) (sz : Nat) (hJ : J9 (σ 9)) (kDK0 : DK0 (σ 9)) : Met l yX9_many (ww yX9_many cX9_many 3 (some .int)) ({ frames := 8, cells := 0, slots := 0, locals := 512 }) (va_Pc [.ref (g 60), .int p1, .int p2] (pr9 D cy g σ sz)) (qi9 D cy g sz (fun r τ => Fr (fL [0, 23, 24, 25, 26, 27, 28, 29, 30, 31, 32, 33, 34, 35, 36, 37, 38, 39, 40, 41]) σ τ ∧ J9 (τ 9) ∧ True)) 0 0 (A9 cy g sz) := by
  refine Met.ofW (cc := cX9_many) (maxL := 3) (ret := (some .int)) (by decide) rfl ?_
  intro p e s m args below meth c s₁ B hml hv
  obtain ⟨rfl, hsz, hP, hK, hD0, hC⟩ := hv
  have hx := B.exec
  have hb := B.bytes
  have hr := B.returns
  have hts := hts_g (atoms_spec (ws := ww yX9_many cX9_many 3 (some .int)) B.pre)
  have hown : s.vm.findClass RX9 = some m.cls := findClass_of_methodNamed B.named
  have hlocks := B.notSynchronized
  clear B
  subst hsz
  have hD := fun τ => A9_D (sz := s.heap.size) hD0 τ
  clear hD0
  have hS : va_S (A9 cy g s.heap.size) s.heap s.heap [] := va_S.rf
  have hl := lv_entry ([.ref (g 60), .int p1, .int p2]) (n := 3) (Nat.le_of_ble_eq_true rfl)
  rw [lg_entry_eq]
  generalize (lg_sl ([.ref (g 60), .int p1, .int p2]) ++ List.replicate (3 - (lg_sl ([.ref (g 60), .int p1, .int p2])).length) Slot.unset).toArray = ls at hl ⊢
  have hl : lv_has ls 3 [(0, .ref (g 60)), (1, .int p1), (2, .int p2)] := hl
  refine lv_aload_n hx hb dX9_many_0 rfl (lv_at hl 0 rfl) ?_
  refine lv_iconst (v := 0) hx hb dX9_many_1 (by decide) ?_
  refine p9_0 hx hb hts hown hK hP hD hS (hts _ q1360) dX9_many_2 (fun H locs σ1 eσ1 hP hS => ?_)
  have hJ2 : J9 (σ1 9) := hJ.I eσ1 (show JI9 0 (0 : Int32) from trivial)
  have T3 : DK0 (σ1 9) := DK0.mv kDK0 ((sI_f eσ1) 9 17 rfl).2.2.1 ((sI_f eσ1) 9 18 rfl).2.2.1 ((sI_f eσ1) 9 19 rfl).2.2.1
  refine lv_aload_n hx hb dX9_many_5 rfl (lv_at hl 0 rfl) ?_
  refine lv_iload_n hx hb dX9_many_6 rfl (lv_at hl 1 rfl) ?_
  refine lv_iload_n hx hb dX9_many_7 rfl (lv_at hl 2 rfl) ?_
  refine va_calli (va_runV (As := [.int p1, .int p2]) (rest := []) ⟨hx, hb, hml, hown, hts⟩ (m_X9_isPlaying l D cy g σ1 p1 p2 _ hJ2 ) (cwV 2 hts (gd_V q1822 q1824 q87 q134 q1825) rfl rfl rfl (by decide +kernel) ⟨Nat.le_of_ble_eq_true rfl, Nat.le_of_ble_eq_true rfl⟩) (pv9 hP hK hD hC hS (va_recv hK hP (ci := 9) (q0 := 0) rfl rfl)) rfl rfl hl.1 rfl (lv_room (Nat.le_of_ble_eq_true rfl)) dX9_many_8 ⟨Nat.le_of_ble_eq_true rfl, Nat.le_of_ble_eq_true rfl⟩) hS (fun q _ h => up9 hS q h) (up9 hS) (fun r4 σ5 tS H1 locs ht hvm hw6 hB hz1 hk1 hS => ?_)
  have hP : va_P D clz (WD9 cy g σ5) H1 := by rw [← ht]; exact hB
  clear hB hz1 hk1 hvm ht
  generalize H1 = H at hP hS ⊢
  have hw6E : σ1 = σ5 := (hw6.1).symm
  subst hw6E
  have b7 : (0 : Int) ≤ r4.toInt ∧ r4.toInt ≤ 1 := hw6.2.1
  have b8 : (r4.toInt = 0) ∨ ((0 : Int) ≤ p1.toInt ∧ p1.toInt ≤ 8 ∧ (0 : Int) ≤ p2.toInt ∧ p2.toInt ≤ 2) := hw6.2.2.1
  have b9 : (r4.toInt = 0) ∨ (p1.toInt < ((σ1 9).2.2.1 17 3).toInt) := hw6.2.2.2.1
  refine lv_if_ne (tgt := 17) hx hb dX9_many_11 (by decide) (fun c10 => ?_) (fun c10 => ?_)
  ·
    have k11 := neq32 c10
    refine lv_aload_n hx hb dX9_many_17 rfl (lv_at hl 0 rfl) ?_
    refine lv_iload_n hx hb dX9_many_18 rfl (lv_at hl 1 rfl) ?_
    refine lv_iload_n hx hb dX9_many_19 rfl (lv_at hl 2 rfl) ?_
    refine va_calli (va_runV (As := [.int p1, .int p2]) (rest := []) ⟨hx, hb, hml, hown, hts⟩ (m_X9_isBest l D cy g σ1 p1 p2 _ hJ2 T3 (show (0 : Int) ≤ p1.toInt ∧ p1.toInt ≤ 8 from (by have f0 := b8; have f1 := b9; have f2 := a9_17 hJ2 (j := 3) rfl; have f3 := congrArg Int32.toInt (show ((σ1 9).2.2.1 17 3) = ((σ 9).2.2.1 17 3) from congrFun (((sI_f eσ1) 9 17 rfl).2.2.1) _); have f4 := b7; have f5 := k11; have f6 := a9_17 hJ (j := 3) rfl; have g2 := rg32 p1; have z0 : (0 : Int32).toInt = 0 := (by decide); omega)) (show (0 : Int) ≤ p2.toInt ∧ p2.toInt ≤ 2 from (by have f0 := b8; have f1 := b9; have f2 := a9_17 hJ2 (j := 3) rfl; have f3 := congrArg Int32.toInt (show ((σ1 9).2.2.1 17 3) = ((σ 9).2.2.1 17 3) from congrFun (((sI_f eσ1) 9 17 rfl).2.2.1) _); have f4 := b7; have f5 := k11; have f6 := a9_17 hJ (j := 3) rfl; have g2 := rg32 p1; have g3 := rg32 p2; have z0 : (0 : Int32).toInt = 0 := (by decide); omega)) (show p1.toInt < ((σ1 9).2.2.1 17 3).toInt from (by have f0 := a9_17 hJ2 (j := 3) rfl; have f1 := congrArg Int32.toInt (show ((σ1 9).2.2.1 17 3) = ((σ 9).2.2.1 17 3) from congrFun (((sI_f eσ1) 9 17 rfl).2.2.1) _); have f2 := b8; have f3 := b9; have f4 := a9_17 hJ (j := 3) rfl; have f5 := b7; have f6 := k11; have g2 := rg32 p1; have z0 : (0 : Int32).toInt = 0 := (by decide); omega))) (cwV 2 hts (gd_V q1826 q1828 q88 q134 q1829) rfl rfl rfl (by decide +kernel) ⟨Nat.le_of_ble_eq_true rfl, Nat.le_of_ble_eq_true rfl⟩) (pv9 hP hK hD hC hS (va_recv hK hP (ci := 9) (q0 := 0) rfl rfl)) rfl rfl hl.1 rfl (lv_room (Nat.le_of_ble_eq_true rfl)) dX9_many_20 ⟨Nat.le_of_ble_eq_true rfl, Nat.le_of_ble_eq_true rfl⟩) hS (fun q _ h => up9 hS q h) (up9 hS) (fun r12 σ13 tS H1 locs ht hvm hw14 hB hz1 hk1 hS => ?_)
    have hP : va_P D clz (WD9 cy g σ13) H1 := by rw [← ht]; exact hB
    clear hB hz1 hk1 hvm ht
    generalize H1 = H at hP hS ⊢
    have hF15 : Fr (fL [23, 24, 25, 26, 27, 28, 29, 30, 31, 32, 33, 34, 35, 36, 37, 38, 39, 40, 41]) σ1 σ13 := hw14.1
    have hJ16 : J9 (σ13 9) := hw14.2.1
    have b17 : (0 : Int) ≤ r12.toInt ∧ r12.toInt ≤ 1 := hw14.2.2.1
    have T18 : DK0 (σ13 9) := DK0.mv T3 (hF15 9 17 rfl).2.2.1 (hF15 9 18 rfl).2.2.1 (hF15 9 19 rfl).2.2.1
    refine lv_pop hx hb dX9_many_23 rfl ?_
    refine lv_aload_n hx hb dX9_many_24 rfl (lv_at hl 0 rfl) ?_
    refine g9_41 (x := ((σ13 9).2.1 41)) hx hb hts hown hK hP (rfl) (hts _ q1401) dX9_many_25 ?_
    refine lv_ldc2 (v := 1000000000) hx hb hown (hts _ q1866) dX9_many_28 ?_
    refine W.lcmp hx hb dX9_many_31 ?_
    refine lv_if_le (tgt := 40) hx hb dX9_many_32 (by decide) (fun c19 => ?_) (fun c19 => ?_)
    ·
      have k20 := ple64 ((lg_cmp_le ((σ13 9).2.1 41) (1000000000 : Int64)).mp c19)
      refine lv_aload_n hx hb dX9_many_40 rfl (lv_at hl 0 rfl) ?_
      refine g9_41 (x := ((σ13 9).2.1 41)) hx hb hts hown hK hP (rfl) (hts _ q1401) dX9_many_41 ?_
      refine lv_l2i hx hb dX9_many_44 rfl ?_
      refine lv_topi (fun x21 ex21 => ?_)
      exact W.iret (v := x21) hx hb hr (fun tS ht hW => ⟨⟨x21, σ13, rfl, ⟨Fr.tr (Fr.tr (Fr.rf) (sI_f eσ1) (fN_L rfl)) hF15 (fL_sub rfl), hJ16, trivial⟩, (show va_P D clz (WD9 cy g σ13) tS.heap by rw [ht]; exact hP)⟩, hS.F ht⟩) hS.2.2 dX9_many_45
    ·
      have k22 := nle64 (fun q => c19 ((lg_cmp_le ((σ13 9).2.1 41) (1000000000 : Int64)).mpr q))
      refine lv_bipush (v := (-3)) hx hb dX9_many_35 (by decide) ?_
      refine lv_goto (tgt := 45) hx hb dX9_many_37 (by decide) ?_
      exact W.iret (v := (-3)) hx hb hr (fun tS ht hW => ⟨⟨(-3), σ13, rfl, ⟨Fr.tr (Fr.tr (Fr.rf) (sI_f eσ1) (fN_L rfl)) hF15 (fL_sub rfl), hJ16, trivial⟩, (show va_P D clz (WD9 cy g σ13) tS.heap by rw [ht]; exact hP)⟩, hS.F ht⟩) hS.2.2 dX9_many_45
  ·
    have k23 := peq32 c10
    refine lv_bipush (v := (-2)) hx hb dX9_many_14 (by decide) ?_
    exact W.iret (v := (-2)) hx hb hr (fun tS ht hW => ⟨⟨(-2), σ1, rfl, ⟨Fr.tr (Fr.rf) (sI_f eσ1) (fN_L rfl), hJ2, trivial⟩, (show va_P D clz (WD9 cy g σ1) tS.heap by rw [ht]; exact hP)⟩, hS.F ht⟩) hS.2.2 dX9_many_16

